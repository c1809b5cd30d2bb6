def fX7_in (v_v : Int64) (v_a : Int64) (v_b : Int64) : Int32 :=
  if (lg_cmp v_v v_a) < 0 then 0 else if 0 < (lg_cmp v_v v_b) then 0 else 1
theorem fX7_in_b (v_v : Int64) (v_a : Int64) (v_b : Int64) : fX7_in v_v v_a v_b = 0 ∨ fX7_in v_v v_a v_b = 1 := by
  unfold fX7_in
  repeat' split
  all_goals first | exact Or.inl rfl | exact Or.inr rfl
set_option maxHeartbeats 4000000 in
set_option maxRecDepth 100000 in
theorem c_X7_in (l : Launch) (D : va_G) (E : Nat → ClassId) (G : Nat → Nat) (v_v : Int64) (v_a : Int64) (v_b : Int64) : Met l yX7_in (oh_w yX7_in cX7_in 6 (some .boolean)) ({ frames := 0, cells := 0, slots := 0, locals := 0 }) (oh_Pp D E G [.long v_v, .long v_a, .long v_b] []) (vp_Si (fun r => r = fX7_in v_v v_a v_b)) 0 0 (fun _ => False) := by
  refine Met.ofW (cc := cX7_in) (maxL := 6) (ret := (some .boolean)) (by decide) rfl ?_
  intro p e s m args below meth c s₁ B hml hv
  obtain ⟨rfl, hP, hK, hG⟩ := hv
  have hx := B.exec
  have hb := B.bytes
  have hr := B.returns
  have hts := atoms_spec (ws := (oh_w yX7_in cX7_in 6 (some .boolean))) B.pre
  have htg : ∀ w ∈ oh_t, w.before _ s = true := fun w h => hts w (List.mem_cons_of_mem _ h)
  have hown : s.vm.findClass RX7 = some m.cls := findClass_of_methodNamed B.named
  have hlocks := B.notSynchronized
  have hS : va_S (fun _ => False) s.heap s.heap [] := va_S.rf
  have hl := lv_entry ([.long v_v, .long v_a, .long v_b]) (n := 6) (Nat.le_of_ble_eq_true rfl)
  rw [lg_entry_eq]
  generalize (lg_sl ([.long v_v, .long v_a, .long v_b]) ++ List.replicate (6 - (lg_sl ([.long v_v, .long v_a, .long v_b])).length) Slot.unset).toArray = ls at hl ⊢
  have hl : lv_has ls 6 [(0, .long v_v), (2, .long v_a), (4, .long v_b)] := hl
  refine lv_lload_n hx hb dX7_in_0 rfl (lv_at hl 0 rfl) ?_
  refine lv_lload_n hx hb dX7_in_1 rfl (lv_at hl 1 rfl) ?_
  refine W.lcmp hx hb dX7_in_2 ?_
  refine lv_if_lt (tgt := 17) hx hb dX7_in_3 (by decide) (fun (c_1 : (lg_cmp v_v v_a) < 0) => ?_) (fun (c_1 : ¬ ((lg_cmp v_v v_a) < 0)) => ?_)
  · refine lv_iconst (v := 0) hx hb dX7_in_17 (by decide) ?_
    exact W.zret (v := 0) (ty := .boolean) hx hb hr (by decide) (fun t ht hW => ⟨0, rfl, by unfold fX7_in; rw [if_pos c_1], ht⟩) (fun q h => by cases h) dX7_in_18
  · refine lv_lload_n hx hb dX7_in_6 rfl (lv_at hl 0 rfl) ?_
    refine lv_lload hx hb dX7_in_7 (lv_at hl 2 rfl) ?_
    refine W.lcmp hx hb dX7_in_9 ?_
    refine lv_if_gt (tgt := 17) hx hb dX7_in_10 (by decide) (fun (c_2 : 0 < (lg_cmp v_v v_b)) => ?_) (fun (c_2 : ¬ (0 < (lg_cmp v_v v_b))) => ?_)
    · refine lv_iconst (v := 0) hx hb dX7_in_17 (by decide) ?_
      exact W.zret (v := 0) (ty := .boolean) hx hb hr (by decide) (fun t ht hW => ⟨0, rfl, by unfold fX7_in; rw [if_neg c_1, if_pos c_2], ht⟩) (fun q h => by cases h) dX7_in_18
    · refine lv_iconst (v := 1) hx hb dX7_in_13 (by decide) ?_
      refine lv_goto (tgt := 18) hx hb dX7_in_14 (by decide) ?_
      exact W.zret (v := 1) (ty := .boolean) hx hb hr (by decide) (fun t ht hW => ⟨1, rfl, by unfold fX7_in; rw [if_neg c_1, if_neg c_2], ht⟩) (fun q h => by cases h) dX7_in_18
theorem oh_in {v a b : Int32} {x y : Int64} (hx : x.toInt = a.toInt) (hy : y.toInt = b.toInt) : fX7_in (Int32.toInt64 v) x y = fX6_within v a b := by
  unfold fX7_in fX6_within
  have e1 : (lg_cmp (Int32.toInt64 v) x < 0) ↔ v < a := by
    rw [lg_cmp_lt, Int64.lt_iff_toInt_lt, Int32.lt_iff_toInt_lt, Int32.toInt_toInt64, hx]
  have e2 : (0 < lg_cmp (Int32.toInt64 v) y) ↔ b < v := by
    rw [lg_cmp_gt, Int64.lt_iff_toInt_lt, Int32.lt_iff_toInt_lt, Int32.toInt_toInt64, hy]
  simp only [e1, e2]
theorem oh_wln {v : Int32} {k : Int64} {n : Nat} (h : ¬ fX7_in (Int32.toInt64 v) 0 k = 0) (hk : k.toInt + 1 = n) : vp_in v n := by
  rw [vp_in_iff]
  unfold fX7_in at h
  by_cases h1 : lg_cmp (Int32.toInt64 v) 0 < 0
  · exact absurd (if_pos h1) h
  · rw [if_neg h1] at h
    by_cases h2 : 0 < lg_cmp (Int32.toInt64 v) k
    · exact absurd (if_pos h2) h
    · rw [lg_cmp_lt, Int64.lt_iff_toInt_lt, Int32.toInt_toInt64] at h1
      rw [lg_cmp_gt, Int64.lt_iff_toInt_lt, Int32.toInt_toInt64] at h2
      have h0 : (0 : Int64).toInt = 0 := by decide
      omega
theorem oh_nonl (v : Int32) : fX7_in (Int32.toInt64 v) 0 (-1) = 0 := by
  rw [oh_in (a := 0) (b := 0 - 1) (by decide) (by decide)]
  exact oh_none v
set_option maxHeartbeats 4000000 in
set_option maxRecDepth 100000 in
theorem c_X7_isPlace (l : Launch) (D : va_G) (E : Nat → ClassId) (G : Nat → Nat) (v_p : Int32) : Met l yX7_isPlace (oh_w yX7_isPlace cX7_isPlace 1 (some .boolean)) ({ frames := 1, cells := 0, slots := 0, locals := 25 }) (oh_Pp D E G [.int v_p] []) (vp_Si (fun r => r = fX7_in (Int32.toInt64 v_p) 0 15)) 0 0 (fun _ => False) := by
  refine Met.ofW (cc := cX7_isPlace) (maxL := 1) (ret := (some .boolean)) (by decide) rfl ?_
  intro p e s m args below meth c s₁ B hml hv
  obtain ⟨rfl, hP, hK, hG⟩ := hv
  have hx := B.exec
  have hb := B.bytes
  have hr := B.returns
  have hts := atoms_spec (ws := (oh_w yX7_isPlace cX7_isPlace 1 (some .boolean))) B.pre
  have htg : ∀ w ∈ oh_t, w.before _ s = true := fun w h => hts w (List.mem_cons_of_mem _ h)
  have hown : s.vm.findClass RX7 = some m.cls := findClass_of_methodNamed B.named
  have hlocks := B.notSynchronized
  have hS : va_S (fun _ => False) s.heap s.heap [] := va_S.rf
  have hl := lv_entry ([.int v_p]) (n := 1) (Nat.le_of_ble_eq_true rfl)
  rw [lg_entry_eq]
  generalize (lg_sl ([.int v_p]) ++ List.replicate (1 - (lg_sl ([.int v_p])).length) Slot.unset).toArray = ls at hl ⊢
  have hl : lv_has ls 1 [(0, .int v_p)] := hl
  refine lv_iload_n hx hb dX7_isPlace_0 rfl (lv_at hl 0 rfl) ?_
  refine lv_i2l (v := Int32.toInt64 v_p) hx hb dX7_isPlace_1 (by rfl) ?_
  refine lv_lconst (v := 0) hx hb dX7_isPlace_2 (by decide) ?_
  refine lv_ldc2 (v := 15) hx hb hown (htg _ q_1133) dX7_isPlace_3 ?_
  refine oh_pS (As := [.long (Int32.toInt64 v_p), .long 0, .long 15]) (rest := []) (v := fX7_in (Int32.toInt64 v_p) 0 15) ⟨hx, hb, hml, hown, htg⟩ (c_X7_in l D E G (Int32.toInt64 v_p) 0 15) (va_cwS 3 htg (oh_gS q_1066 q_1067 q_73 q_1068) rfl rfl rfl pdX7_in ⟨Nat.le_of_ble_eq_true rfl, Nat.le_of_ble_eq_true rfl⟩) hK (hP.sub (ws' := []) [] rfl) hG hS rfl hl.1 rfl (Nat.le_of_ble_eq_true rfl) dX7_isPlace_6 ⟨Nat.le_of_ble_eq_true rfl, Nat.le_of_ble_eq_true rfl⟩ ?_
  exact W.zret (v := fX7_in (Int32.toInt64 v_p) 0 15) (ty := .boolean) hx hb hr (oh_nb (fX7_in_b (Int32.toInt64 v_p) 0 15)) (fun t ht hW => ⟨fX7_in (Int32.toInt64 v_p) 0 15, rfl, rfl, ht⟩) (fun q h => by cases h) dX7_isPlace_9
set_option maxHeartbeats 4000000 in
set_option maxRecDepth 100000 in
theorem c_X7_isRoad (l : Launch) (D : va_G) (E : Nat → ClassId) (G : Nat → Nat) (a0 : Nat) (v_r : Int32) (a0_shelf : Nat) (a0_rowSort : Nat) (a0_rowSize : Nat) (a0_rows : Nat) (a0_moved : Nat) (a0_shown : Nat) (a0_tape : Nat) (a0_refused : Nat) (a0_road : Nat) (a0_bridge : Nat) (a0_waggon : Nat) (a0_part : Nat) (a0_asked : Nat) (a0_under : Nat) (a0_far : Nat) : Met l yX7_isRoad (oh_w yX7_isRoad cX7_isRoad 2 (some .boolean)) ({ frames := 1, cells := 0, slots := 0, locals := 25 }) (oh_Pp D E G [.ref a0, .int v_r] [(a0, .inr (7, [.ref a0_shelf, .ref a0_rowSort, .ref a0_rowSize, .ref a0_rows, .ref a0_moved, .ref a0_shown, .ref a0_tape, .int 0, .ref a0_refused, .int 0, .ref a0_road, .int 0, .ref a0_bridge, .int 0, .ref a0_waggon, .int 0, .ref a0_part, .ref a0_asked, .ref a0_under, .int 0, .null, .int 0, .int 0, .int 0, .long 0, .int 0, .int 0, .ref a0_far, .int 0]))]) (vp_Si (fun r => r = fX7_in (Int32.toInt64 v_r) 0 (-1))) 0 0 (fun _ => False) := by
  refine Met.ofW (cc := cX7_isRoad) (maxL := 2) (ret := (some .boolean)) (by decide) rfl ?_
  intro p e s m args below meth c s₁ B hml hv
  obtain ⟨rfl, hP, hK, hG⟩ := hv
  have hx := B.exec
  have hb := B.bytes
  have hr := B.returns
  have hts := atoms_spec (ws := (oh_w yX7_isRoad cX7_isRoad 2 (some .boolean))) B.pre
  have htg : ∀ w ∈ oh_t, w.before _ s = true := fun w h => hts w (List.mem_cons_of_mem _ h)
  have hown : s.vm.findClass RX7 = some m.cls := findClass_of_methodNamed B.named
  have hlocks := B.notSynchronized
  have hS : va_S (fun _ => False) s.heap s.heap [] := va_S.rf
  have hl := lv_entry ([.ref a0, .int v_r]) (n := 2) (Nat.le_of_ble_eq_true rfl)
  rw [lg_entry_eq]
  generalize (lg_sl ([.ref a0, .int v_r]) ++ List.replicate (2 - (lg_sl ([.ref a0, .int v_r])).length) Slot.unset).toArray = ls at hl ⊢
  have hl : lv_has ls 2 [(0, .ref a0), (1, .int v_r)] := hl
  refine lv_iload_n hx hb dX7_isRoad_0 rfl (lv_at hl 1 rfl) ?_
  refine lv_i2l (v := Int32.toInt64 v_r) hx hb dX7_isRoad_1 (by rfl) ?_
  refine lv_lconst (v := 0) hx hb dX7_isRoad_2 (by decide) ?_
  refine lv_aload_n hx hb dX7_isRoad_3 rfl (lv_at hl 0 rfl) ?_
  refine va_get (D := D) (ci := 7) (v := .int 0) (C := RX7) (T := TX7) (N := 29) hx hb htg ig_7 hown hK hP 0 rfl rfl 9 (by decide) (htg _ q_982) (fun _ h9 => h9) rfl dX7_isRoad_4 ?_
  refine lv_iconst (v := 1) hx hb dX7_isRoad_7 (by decide) ?_
  refine lv_isub hx hb dX7_isRoad_8 ?_
  refine oh_nrm (v := (-1)) (by decide) ?_
  refine lv_i2l (v := (-1)) hx hb dX7_isRoad_9 (by decide) ?_
  refine oh_pS (As := [.long (Int32.toInt64 v_r), .long 0, .long (-1)]) (rest := []) (v := fX7_in (Int32.toInt64 v_r) 0 (-1)) ⟨hx, hb, hml, hown, htg⟩ (c_X7_in l D E G (Int32.toInt64 v_r) 0 (-1)) (va_cwS 3 htg (oh_gS q_1066 q_1067 q_73 q_1068) rfl rfl rfl pdX7_in ⟨Nat.le_of_ble_eq_true rfl, Nat.le_of_ble_eq_true rfl⟩) hK (hP.sub (ws' := []) [] rfl) hG hS rfl hl.1 rfl (Nat.le_of_ble_eq_true rfl) dX7_isRoad_10 ⟨Nat.le_of_ble_eq_true rfl, Nat.le_of_ble_eq_true rfl⟩ ?_
  exact W.zret (v := fX7_in (Int32.toInt64 v_r) 0 (-1)) (ty := .boolean) hx hb hr (oh_nb (fX7_in_b (Int32.toInt64 v_r) 0 (-1))) (fun t ht hW => ⟨fX7_in (Int32.toInt64 v_r) 0 (-1), rfl, rfl, ht⟩) (fun q h => by cases h) dX7_isRoad_13
theorem kk_X7_isRoad (v_r : Int32) : fX7_in (Int32.toInt64 v_r) 0 (-1) = 0 := by
  exact oh_nonl v_r
theorem k_X7_isRoad (l : Launch) (D : va_G) (E : Nat → ClassId) (G : Nat → Nat) (a0 : Nat) (v_r : Int32) (a0_shelf : Nat) (a0_rowSort : Nat) (a0_rowSize : Nat) (a0_rows : Nat) (a0_moved : Nat) (a0_shown : Nat) (a0_tape : Nat) (a0_refused : Nat) (a0_road : Nat) (a0_bridge : Nat) (a0_waggon : Nat) (a0_part : Nat) (a0_asked : Nat) (a0_under : Nat) (a0_far : Nat) : Met l yX7_isRoad (oh_w yX7_isRoad cX7_isRoad 2 (some .boolean)) ({ frames := 1, cells := 0, slots := 0, locals := 25 }) (oh_Pp D E G [.ref a0, .int v_r] [(a0, .inr (7, [.ref a0_shelf, .ref a0_rowSort, .ref a0_rowSize, .ref a0_rows, .ref a0_moved, .ref a0_shown, .ref a0_tape, .int 0, .ref a0_refused, .int 0, .ref a0_road, .int 0, .ref a0_bridge, .int 0, .ref a0_waggon, .int 0, .ref a0_part, .ref a0_asked, .ref a0_under, .int 0, .null, .int 0, .int 0, .int 0, .long 0, .int 0, .int 0, .ref a0_far, .int 0]))]) (vp_Si (fun r => r = 0)) 0 0 (fun _ => False) := by
  have h := c_X7_isRoad l D E G a0 v_r a0_shelf a0_rowSort a0_rowSize a0_rows a0_moved a0_shown a0_tape a0_refused a0_road a0_bridge a0_waggon a0_part a0_asked a0_under a0_far
  rw [kk_X7_isRoad] at h
  exact h
set_option maxHeartbeats 4000000 in
set_option maxRecDepth 100000 in
theorem c_X7_isBridge (l : Launch) (D : va_G) (E : Nat → ClassId) (G : Nat → Nat) (a0 : Nat) (v_r : Int32) (a0_shelf : Nat) (a0_rowSort : Nat) (a0_rowSize : Nat) (a0_rows : Nat) (a0_moved : Nat) (a0_shown : Nat) (a0_tape : Nat) (a0_refused : Nat) (a0_road : Nat) (a0_bridge : Nat) (a0_waggon : Nat) (a0_part : Nat) (a0_asked : Nat) (a0_under : Nat) (a0_far : Nat) : Met l yX7_isBridge (oh_w yX7_isBridge cX7_isBridge 2 (some .boolean)) ({ frames := 1, cells := 0, slots := 0, locals := 25 }) (oh_Pp D E G [.ref a0, .int v_r] [(a0, .inr (7, [.ref a0_shelf, .ref a0_rowSort, .ref a0_rowSize, .ref a0_rows, .ref a0_moved, .ref a0_shown, .ref a0_tape, .int 0, .ref a0_refused, .int 0, .ref a0_road, .int 0, .ref a0_bridge, .int 0, .ref a0_waggon, .int 0, .ref a0_part, .ref a0_asked, .ref a0_under, .int 0, .null, .int 0, .int 0, .int 0, .long 0, .int 0, .int 0, .ref a0_far, .int 0]))]) (vp_Si (fun r => r = fX7_in (Int32.toInt64 v_r) 0 (-1))) 0 0 (fun _ => False) := by
  refine Met.ofW (cc := cX7_isBridge) (maxL := 2) (ret := (some .boolean)) (by decide) rfl ?_
  intro p e s m args below meth c s₁ B hml hv
  obtain ⟨rfl, hP, hK, hG⟩ := hv
  have hx := B.exec
  have hb := B.bytes
  have hr := B.returns
  have hts := atoms_spec (ws := (oh_w yX7_isBridge cX7_isBridge 2 (some .boolean))) B.pre
  have htg : ∀ w ∈ oh_t, w.before _ s = true := fun w h => hts w (List.mem_cons_of_mem _ h)
  have hown : s.vm.findClass RX7 = some m.cls := findClass_of_methodNamed B.named
  have hlocks := B.notSynchronized
  have hS : va_S (fun _ => False) s.heap s.heap [] := va_S.rf
  have hl := lv_entry ([.ref a0, .int v_r]) (n := 2) (Nat.le_of_ble_eq_true rfl)
  rw [lg_entry_eq]
  generalize (lg_sl ([.ref a0, .int v_r]) ++ List.replicate (2 - (lg_sl ([.ref a0, .int v_r])).length) Slot.unset).toArray = ls at hl ⊢
  have hl : lv_has ls 2 [(0, .ref a0), (1, .int v_r)] := hl
  refine lv_iload_n hx hb dX7_isBridge_0 rfl (lv_at hl 1 rfl) ?_
  refine lv_i2l (v := Int32.toInt64 v_r) hx hb dX7_isBridge_1 (by rfl) ?_
  refine lv_lconst (v := 0) hx hb dX7_isBridge_2 (by decide) ?_
  refine lv_aload_n hx hb dX7_isBridge_3 rfl (lv_at hl 0 rfl) ?_
  refine va_get (D := D) (ci := 7) (v := .int 0) (C := RX7) (T := TX7) (N := 29) hx hb htg ig_7 hown hK hP 0 rfl rfl 11 (by decide) (htg _ q_984) (fun _ h9 => h9) rfl dX7_isBridge_4 ?_
  refine lv_iconst (v := 1) hx hb dX7_isBridge_7 (by decide) ?_
  refine lv_isub hx hb dX7_isBridge_8 ?_
  refine oh_nrm (v := (-1)) (by decide) ?_
  refine lv_i2l (v := (-1)) hx hb dX7_isBridge_9 (by decide) ?_
  refine oh_pS (As := [.long (Int32.toInt64 v_r), .long 0, .long (-1)]) (rest := []) (v := fX7_in (Int32.toInt64 v_r) 0 (-1)) ⟨hx, hb, hml, hown, htg⟩ (c_X7_in l D E G (Int32.toInt64 v_r) 0 (-1)) (va_cwS 3 htg (oh_gS q_1066 q_1067 q_73 q_1068) rfl rfl rfl pdX7_in ⟨Nat.le_of_ble_eq_true rfl, Nat.le_of_ble_eq_true rfl⟩) hK (hP.sub (ws' := []) [] rfl) hG hS rfl hl.1 rfl (Nat.le_of_ble_eq_true rfl) dX7_isBridge_10 ⟨Nat.le_of_ble_eq_true rfl, Nat.le_of_ble_eq_true rfl⟩ ?_
  exact W.zret (v := fX7_in (Int32.toInt64 v_r) 0 (-1)) (ty := .boolean) hx hb hr (oh_nb (fX7_in_b (Int32.toInt64 v_r) 0 (-1))) (fun t ht hW => ⟨fX7_in (Int32.toInt64 v_r) 0 (-1), rfl, rfl, ht⟩) (fun q h => by cases h) dX7_isBridge_13
theorem kk_X7_isBridge (v_r : Int32) : fX7_in (Int32.toInt64 v_r) 0 (-1) = 0 := by
  exact oh_nonl v_r
theorem k_X7_isBridge (l : Launch) (D : va_G) (E : Nat → ClassId) (G : Nat → Nat) (a0 : Nat) (v_r : Int32) (a0_shelf : Nat) (a0_rowSort : Nat) (a0_rowSize : Nat) (a0_rows : Nat) (a0_moved : Nat) (a0_shown : Nat) (a0_tape : Nat) (a0_refused : Nat) (a0_road : Nat) (a0_bridge : Nat) (a0_waggon : Nat) (a0_part : Nat) (a0_asked : Nat) (a0_under : Nat) (a0_far : Nat) : Met l yX7_isBridge (oh_w yX7_isBridge cX7_isBridge 2 (some .boolean)) ({ frames := 1, cells := 0, slots := 0, locals := 25 }) (oh_Pp D E G [.ref a0, .int v_r] [(a0, .inr (7, [.ref a0_shelf, .ref a0_rowSort, .ref a0_rowSize, .ref a0_rows, .ref a0_moved, .ref a0_shown, .ref a0_tape, .int 0, .ref a0_refused, .int 0, .ref a0_road, .int 0, .ref a0_bridge, .int 0, .ref a0_waggon, .int 0, .ref a0_part, .ref a0_asked, .ref a0_under, .int 0, .null, .int 0, .int 0, .int 0, .long 0, .int 0, .int 0, .ref a0_far, .int 0]))]) (vp_Si (fun r => r = 0)) 0 0 (fun _ => False) := by
  have h := c_X7_isBridge l D E G a0 v_r a0_shelf a0_rowSort a0_rowSize a0_rows a0_moved a0_shown a0_tape a0_refused a0_road a0_bridge a0_waggon a0_part a0_asked a0_under a0_far
  rw [kk_X7_isBridge] at h
  exact h
set_option maxHeartbeats 4000000 in
set_option maxRecDepth 100000 in
theorem c_X7_isWaggon (l : Launch) (D : va_G) (E : Nat → ClassId) (G : Nat → Nat) (a0 : Nat) (v_r : Int32) (a0_shelf : Nat) (a0_rowSort : Nat) (a0_rowSize : Nat) (a0_rows : Nat) (a0_moved : Nat) (a0_shown : Nat) (a0_tape : Nat) (a0_refused : Nat) (a0_road : Nat) (a0_bridge : Nat) (a0_waggon : Nat) (a0_part : Nat) (a0_asked : Nat) (a0_under : Nat) (a0_far : Nat) : Met l yX7_isWaggon (oh_w yX7_isWaggon cX7_isWaggon 2 (some .boolean)) ({ frames := 1, cells := 0, slots := 0, locals := 25 }) (oh_Pp D E G [.ref a0, .int v_r] [(a0, .inr (7, [.ref a0_shelf, .ref a0_rowSort, .ref a0_rowSize, .ref a0_rows, .ref a0_moved, .ref a0_shown, .ref a0_tape, .int 0, .ref a0_refused, .int 0, .ref a0_road, .int 0, .ref a0_bridge, .int 0, .ref a0_waggon, .int 0, .ref a0_part, .ref a0_asked, .ref a0_under, .int 0, .null, .int 0, .int 0, .int 0, .long 0, .int 0, .int 0, .ref a0_far, .int 0]))]) (vp_Si (fun r => r = fX7_in (Int32.toInt64 v_r) 0 (-1))) 0 0 (fun _ => False) := by
  refine Met.ofW (cc := cX7_isWaggon) (maxL := 2) (ret := (some .boolean)) (by decide) rfl ?_
  intro p e s m args below meth c s₁ B hml hv
  obtain ⟨rfl, hP, hK, hG⟩ := hv
  have hx := B.exec
  have hb := B.bytes
  have hr := B.returns
  have hts := atoms_spec (ws := (oh_w yX7_isWaggon cX7_isWaggon 2 (some .boolean))) B.pre
  have htg : ∀ w ∈ oh_t, w.before _ s = true := fun w h => hts w (List.mem_cons_of_mem _ h)
  have hown : s.vm.findClass RX7 = some m.cls := findClass_of_methodNamed B.named
  have hlocks := B.notSynchronized
  have hS : va_S (fun _ => False) s.heap s.heap [] := va_S.rf
  have hl := lv_entry ([.ref a0, .int v_r]) (n := 2) (Nat.le_of_ble_eq_true rfl)
  rw [lg_entry_eq]
  generalize (lg_sl ([.ref a0, .int v_r]) ++ List.replicate (2 - (lg_sl ([.ref a0, .int v_r])).length) Slot.unset).toArray = ls at hl ⊢
  have hl : lv_has ls 2 [(0, .ref a0), (1, .int v_r)] := hl
  refine lv_iload_n hx hb dX7_isWaggon_0 rfl (lv_at hl 1 rfl) ?_
  refine lv_i2l (v := Int32.toInt64 v_r) hx hb dX7_isWaggon_1 (by rfl) ?_
  refine lv_lconst (v := 0) hx hb dX7_isWaggon_2 (by decide) ?_
  refine lv_aload_n hx hb dX7_isWaggon_3 rfl (lv_at hl 0 rfl) ?_
  refine va_get (D := D) (ci := 7) (v := .int 0) (C := RX7) (T := TX7) (N := 29) hx hb htg ig_7 hown hK hP 0 rfl rfl 13 (by decide) (htg _ q_986) (fun _ h9 => h9) rfl dX7_isWaggon_4 ?_
  refine lv_iconst (v := 1) hx hb dX7_isWaggon_7 (by decide) ?_
  refine lv_isub hx hb dX7_isWaggon_8 ?_
  refine oh_nrm (v := (-1)) (by decide) ?_
  refine lv_i2l (v := (-1)) hx hb dX7_isWaggon_9 (by decide) ?_
  refine oh_pS (As := [.long (Int32.toInt64 v_r), .long 0, .long (-1)]) (rest := []) (v := fX7_in (Int32.toInt64 v_r) 0 (-1)) ⟨hx, hb, hml, hown, htg⟩ (c_X7_in l D E G (Int32.toInt64 v_r) 0 (-1)) (va_cwS 3 htg (oh_gS q_1066 q_1067 q_73 q_1068) rfl rfl rfl pdX7_in ⟨Nat.le_of_ble_eq_true rfl, Nat.le_of_ble_eq_true rfl⟩) hK (hP.sub (ws' := []) [] rfl) hG hS rfl hl.1 rfl (Nat.le_of_ble_eq_true rfl) dX7_isWaggon_10 ⟨Nat.le_of_ble_eq_true rfl, Nat.le_of_ble_eq_true rfl⟩ ?_
  exact W.zret (v := fX7_in (Int32.toInt64 v_r) 0 (-1)) (ty := .boolean) hx hb hr (oh_nb (fX7_in_b (Int32.toInt64 v_r) 0 (-1))) (fun t ht hW => ⟨fX7_in (Int32.toInt64 v_r) 0 (-1), rfl, rfl, ht⟩) (fun q h => by cases h) dX7_isWaggon_13
theorem kk_X7_isWaggon (v_r : Int32) : fX7_in (Int32.toInt64 v_r) 0 (-1) = 0 := by
  exact oh_nonl v_r
theorem k_X7_isWaggon (l : Launch) (D : va_G) (E : Nat → ClassId) (G : Nat → Nat) (a0 : Nat) (v_r : Int32) (a0_shelf : Nat) (a0_rowSort : Nat) (a0_rowSize : Nat) (a0_rows : Nat) (a0_moved : Nat) (a0_shown : Nat) (a0_tape : Nat) (a0_refused : Nat) (a0_road : Nat) (a0_bridge : Nat) (a0_waggon : Nat) (a0_part : Nat) (a0_asked : Nat) (a0_under : Nat) (a0_far : Nat) : Met l yX7_isWaggon (oh_w yX7_isWaggon cX7_isWaggon 2 (some .boolean)) ({ frames := 1, cells := 0, slots := 0, locals := 25 }) (oh_Pp D E G [.ref a0, .int v_r] [(a0, .inr (7, [.ref a0_shelf, .ref a0_rowSort, .ref a0_rowSize, .ref a0_rows, .ref a0_moved, .ref a0_shown, .ref a0_tape, .int 0, .ref a0_refused, .int 0, .ref a0_road, .int 0, .ref a0_bridge, .int 0, .ref a0_waggon, .int 0, .ref a0_part, .ref a0_asked, .ref a0_under, .int 0, .null, .int 0, .int 0, .int 0, .long 0, .int 0, .int 0, .ref a0_far, .int 0]))]) (vp_Si (fun r => r = 0)) 0 0 (fun _ => False) := by
  have h := c_X7_isWaggon l D E G a0 v_r a0_shelf a0_rowSort a0_rowSize a0_rows a0_moved a0_shown a0_tape a0_refused a0_road a0_bridge a0_waggon a0_part a0_asked a0_under a0_far
  rw [kk_X7_isWaggon] at h
  exact h
set_option maxHeartbeats 4000000 in
set_option maxRecDepth 100000 in
theorem c_X7_isPack (l : Launch) (D : va_G) (E : Nat → ClassId) (G : Nat → Nat) (a0 : Nat) (v_w : Int32) (v_k : Int32) (a0_shelf : Nat) (a0_rowSort : Nat) (a0_rowSize : Nat) (a0_rows : Nat) (a0_moved : Nat) (a0_shown : Nat) (a0_tape : Nat) (a0_refused : Nat) (a0_road : Nat) (a0_bridge : Nat) (a0_waggon : Nat) (a0_part : Nat) (a0_asked : Nat) (a0_under : Nat) (a0_far : Nat) : Met l yX7_isPack (oh_w yX7_isPack cX7_isPack 3 (some .boolean)) ({ frames := 2, cells := 0, slots := 0, locals := 46 }) (oh_Pp D E G [.ref a0, .int v_w, .int v_k] [(a0, .inr (7, [.ref a0_shelf, .ref a0_rowSort, .ref a0_rowSize, .ref a0_rows, .ref a0_moved, .ref a0_shown, .ref a0_tape, .int 0, .ref a0_refused, .int 0, .ref a0_road, .int 0, .ref a0_bridge, .int 0, .ref a0_waggon, .int 0, .ref a0_part, .ref a0_asked, .ref a0_under, .int 0, .null, .int 0, .int 0, .int 0, .long 0, .int 0, .int 0, .ref a0_far, .int 0]))]) (vp_Si (fun r => r = 0)) 0 0 (fun _ => False) := by
  refine Met.ofW (cc := cX7_isPack) (maxL := 3) (ret := (some .boolean)) (by decide) rfl ?_
  intro p e s m args below meth c s₁ B hml hv
  obtain ⟨rfl, hP, hK, hG⟩ := hv
  have hx := B.exec
  have hb := B.bytes
  have hr := B.returns
  have hts := atoms_spec (ws := (oh_w yX7_isPack cX7_isPack 3 (some .boolean))) B.pre
  have htg : ∀ w ∈ oh_t, w.before _ s = true := fun w h => hts w (List.mem_cons_of_mem _ h)
  have hown : s.vm.findClass RX7 = some m.cls := findClass_of_methodNamed B.named
  have hlocks := B.notSynchronized
  have hS : va_S (fun _ => False) s.heap s.heap [] := va_S.rf
  have hl := lv_entry ([.ref a0, .int v_w, .int v_k]) (n := 3) (Nat.le_of_ble_eq_true rfl)
  rw [lg_entry_eq]
  generalize (lg_sl ([.ref a0, .int v_w, .int v_k]) ++ List.replicate (3 - (lg_sl ([.ref a0, .int v_w, .int v_k])).length) Slot.unset).toArray = ls at hl ⊢
  have hl : lv_has ls 3 [(0, .ref a0), (1, .int v_w), (2, .int v_k)] := hl
  refine lv_aload_n hx hb dX7_isPack_0 rfl (lv_at hl 0 rfl) ?_
  refine lv_iload_n hx hb dX7_isPack_1 rfl (lv_at hl 1 rfl) ?_
  refine oh_pV (As := [.int v_w]) (rest := []) (v := 0) ⟨hx, hb, hml, hown, htg⟩ (k_X7_isWaggon l D E G a0 v_w a0_shelf a0_rowSort a0_rowSize a0_rows a0_moved a0_shown a0_tape a0_refused a0_road a0_bridge a0_waggon a0_part a0_asked a0_under a0_far) (cwV 1 htg (oh_gV q_1278 q_1280 q_48 q_73 q_1281) rfl rfl rfl pdVX7_isWaggon ⟨Nat.le_of_ble_eq_true rfl, Nat.le_of_ble_eq_true rfl⟩) hK (hP.sub (ws' := [(a0, .inr (7, [.ref a0_shelf, .ref a0_rowSort, .ref a0_rowSize, .ref a0_rows, .ref a0_moved, .ref a0_shown, .ref a0_tape, .int 0, .ref a0_refused, .int 0, .ref a0_road, .int 0, .ref a0_bridge, .int 0, .ref a0_waggon, .int 0, .ref a0_part, .ref a0_asked, .ref a0_under, .int 0, .null, .int 0, .int 0, .int 0, .long 0, .int 0, .int 0, .ref a0_far, .int 0]))]) [0] rfl) hG hS (va_recv hK hP (ci := 7) (q0 := 0) rfl rfl) rfl hl.1 rfl (Nat.le_of_ble_eq_true rfl) dX7_isPack_2 ⟨Nat.le_of_ble_eq_true rfl, Nat.le_of_ble_eq_true rfl⟩ ?_
  refine lv_if_eq (tgt := 30) hx hb dX7_isPack_5 (by decide) (fun _ => ?_) (fun c => absurd (show (0 : Int32) = 0 from by decide) c)
  refine lv_iconst (v := 0) hx hb dX7_isPack_30 (by decide) ?_
  exact W.zret (v := 0) (ty := .boolean) hx hb hr (by decide) (fun t ht hW => ⟨0, rfl, rfl, ht⟩) (fun q h => by cases h) dX7_isPack_31
set_option maxHeartbeats 4000000 in
set_option maxRecDepth 100000 in
theorem c_X7_refuse (l : Launch) (D : va_G) (E : Nat → ClassId) (G : Nat → Nat) (sz : Nat) (a0 : Nat) (v_n : Int32) (a0_shelf : Nat) (a0_rowSort : Nat) (a0_rowSize : Nat) (a0_rows : Nat) (a0_moved : Nat) (a0_shown : Nat) (a0_tape : Nat) (a0_refused : Nat) (a0_road : Nat) (a0_bridge : Nat) (a0_waggon : Nat) (a0_part : Nat) (a0_asked : Nat) (a0_under : Nat) (a0_far : Nat) (hw : vp_in (-v_n) 8) : Met l yX7_refuse (oh_w yX7_refuse cX7_refuse 2 (some .int)) ({ frames := 0, cells := 0, slots := 0, locals := 0 }) (oh_Pm D E G [.ref a0, .int v_n] [(a0, .inr (7, [.ref a0_shelf, .ref a0_rowSort, .ref a0_rowSize, .ref a0_rows, .ref a0_moved, .ref a0_shown, .ref a0_tape, .int 0, .ref a0_refused, .int 0, .ref a0_road, .int 0, .ref a0_bridge, .int 0, .ref a0_waggon, .int 0, .ref a0_part, .ref a0_asked, .ref a0_under, .int 0, .null, .int 0, .int 0, .int 0, .long 0, .int 0, .int 0, .ref a0_far, .int 0])), (a0_refused, .inl (E 0, 8, .inl (fun _ => 0)))] sz) (va_Qi (fun r (_ : Unit) => r = v_n) (oh_B D (va_A [(a0, .inr (7, [.ref a0_shelf, .ref a0_rowSort, .ref a0_rowSize, .ref a0_rows, .ref a0_moved, .ref a0_shown, .ref a0_tape, .int 0, .ref a0_refused, .int 0, .ref a0_road, .int 0, .ref a0_bridge, .int 0, .ref a0_waggon, .int 0, .ref a0_part, .ref a0_asked, .ref a0_under, .int 0, .null, .int 0, .int 0, .int 0, .long 0, .int 0, .int 0, .ref a0_far, .int 0])), (a0_refused, .inl (E 0, 8, .inl (fun _ => 0)))] sz) (fun _ => [(a0, .inr (7, [.ref a0_shelf, .ref a0_rowSort, .ref a0_rowSize, .ref a0_rows, .ref a0_moved, .ref a0_shown, .ref a0_tape, .int 0, .ref a0_refused, .int 0, .ref a0_road, .int 0, .ref a0_bridge, .int 0, .ref a0_waggon, .int 0, .ref a0_part, .ref a0_asked, .ref a0_under, .int 0, .null, .int 0, .int 0, .int 0, .long 0, .int 0, .int 0, .ref a0_far, .int 0]))])) (va_A [(a0, .inr (7, [.ref a0_shelf, .ref a0_rowSort, .ref a0_rowSize, .ref a0_rows, .ref a0_moved, .ref a0_shown, .ref a0_tape, .int 0, .ref a0_refused, .int 0, .ref a0_road, .int 0, .ref a0_bridge, .int 0, .ref a0_waggon, .int 0, .ref a0_part, .ref a0_asked, .ref a0_under, .int 0, .null, .int 0, .int 0, .int 0, .long 0, .int 0, .int 0, .ref a0_far, .int 0])), (a0_refused, .inl (E 0, 8, .inl (fun _ => 0)))] sz)) 0 0 (va_A [(a0, .inr (7, [.ref a0_shelf, .ref a0_rowSort, .ref a0_rowSize, .ref a0_rows, .ref a0_moved, .ref a0_shown, .ref a0_tape, .int 0, .ref a0_refused, .int 0, .ref a0_road, .int 0, .ref a0_bridge, .int 0, .ref a0_waggon, .int 0, .ref a0_part, .ref a0_asked, .ref a0_under, .int 0, .null, .int 0, .int 0, .int 0, .long 0, .int 0, .int 0, .ref a0_far, .int 0])), (a0_refused, .inl (E 0, 8, .inl (fun _ => 0)))] sz) := by
  refine Met.ofW (cc := cX7_refuse) (maxL := 2) (ret := (some .int)) (by decide) rfl ?_
  intro p e s m args below meth c s₁ B hml hv
  obtain ⟨rfl, hsz, hP, hK, hD0, hG⟩ := hv
  have hx := B.exec
  have hb := B.bytes
  have hr := B.returns
  have hts := atoms_spec (ws := (oh_w yX7_refuse cX7_refuse 2 (some .int))) B.pre
  have htg : ∀ w ∈ oh_t, w.before _ s = true := fun w h => hts w (List.mem_cons_of_mem _ h)
  have hown : s.vm.findClass RX7 = some m.cls := findClass_of_methodNamed B.named
  have hlocks := B.notSynchronized
  subst hsz
  have hD := hD0.self (sz := s.heap.size)
  generalize hAe : va_A [(a0, .inr (7, [.ref a0_shelf, .ref a0_rowSort, .ref a0_rowSize, .ref a0_rows, .ref a0_moved, .ref a0_shown, .ref a0_tape, .int 0, .ref a0_refused, .int 0, .ref a0_road, .int 0, .ref a0_bridge, .int 0, .ref a0_waggon, .int 0, .ref a0_part, .ref a0_asked, .ref a0_under, .int 0, .null, .int 0, .int 0, .int 0, .long 0, .int 0, .int 0, .ref a0_far, .int 0])), (a0_refused, .inl (E 0, 8, .inl (fun _ => 0)))] s.heap.size = A at hD hG ⊢
  have hA : ∀ q : Nat, s.heap.size ≤ q → A q := fun q h => by rw [← hAe]; exact Or.inr h
  have hS : va_S A s.heap s.heap [] := va_S.rf
  have hP : va_P D vwCl [(a0, .inr (7, [.ref a0_shelf, .ref a0_rowSort, .ref a0_rowSize, .ref a0_rows, .ref a0_moved, .ref a0_shown, .ref a0_tape, .int 0, .ref a0_refused, .int 0, .ref a0_road, .int 0, .ref a0_bridge, .int 0, .ref a0_waggon, .int 0, .ref a0_part, .ref a0_asked, .ref a0_under, .int 0, .null, .int 0, .int 0, .int 0, .long 0, .int 0, .int 0, .ref a0_far, .int 0])), (a0_refused, .inl (E 0, 8, .inl (fun _ => 0)))] s.heap := hP
  have hl := lv_entry ([.ref a0, .int v_n]) (n := 2) (Nat.le_of_ble_eq_true rfl)
  rw [lg_entry_eq]
  generalize (lg_sl ([.ref a0, .int v_n]) ++ List.replicate (2 - (lg_sl ([.ref a0, .int v_n])).length) Slot.unset).toArray = ls at hl ⊢
  have hl : lv_has ls 2 [(0, .ref a0), (1, .int v_n)] := hl
  refine lv_aload_n hx hb dX7_refuse_0 rfl (lv_at hl 0 rfl) ?_
  refine va_get (D := D) (ci := 7) (v := .ref a0_refused) (C := RX7) (T := TX7) (N := 29) hx hb htg ig_7 hown hK hP 0 rfl rfl 8 (by decide) (htg _ q_981) (fun _ h9 => h9) rfl dX7_refuse_1 ?_
  refine lv_iload_n hx hb dX7_refuse_4 rfl (lv_at hl 1 rfl) ?_
  refine lv_ineg hx hb dX7_refuse_5 ?_
  refine lv_dup2_11 hx hb dX7_refuse_6 rfl rfl ?_
  refine va_iald hx hb hK hP 1 0 rfl rfl hw dX7_refuse_7 ?_
  refine oh_nrm (v := 0) (by rfl) ?_
  refine lv_iconst (v := 1) hx hb dX7_refuse_8 (by decide) ?_
  refine lv_iadd hx hb dX7_refuse_9 ?_
  refine oh_nrm (v := 1) (by decide) ?_
  refine va_iast hx hb hK hP hD hS 1 0 rfl rfl hw dX7_refuse_10 (fun H locs hP hD hS => ?_)
  have hP : va_P D vwCl [(a0, .inr (7, [.ref a0_shelf, .ref a0_rowSort, .ref a0_rowSize, .ref a0_rows, .ref a0_moved, .ref a0_shown, .ref a0_tape, .int 0, .ref a0_refused, .int 0, .ref a0_road, .int 0, .ref a0_bridge, .int 0, .ref a0_waggon, .int 0, .ref a0_part, .ref a0_asked, .ref a0_under, .int 0, .null, .int 0, .int 0, .int 0, .long 0, .int 0, .int 0, .ref a0_far, .int 0])), (a0_refused, .inl (E 0, 8, .inl (upd (fun _ => 0) ((-v_n).toNatClampNeg) 1)))] H := hP
  have hD : va_D A [(a0, .inr (7, [.ref a0_shelf, .ref a0_rowSort, .ref a0_rowSize, .ref a0_rows, .ref a0_moved, .ref a0_shown, .ref a0_tape, .int 0, .ref a0_refused, .int 0, .ref a0_road, .int 0, .ref a0_bridge, .int 0, .ref a0_waggon, .int 0, .ref a0_part, .ref a0_asked, .ref a0_under, .int 0, .null, .int 0, .int 0, .int 0, .long 0, .int 0, .int 0, .ref a0_far, .int 0])), (a0_refused, .inl (E 0, 8, .inl (upd (fun _ => 0) ((-v_n).toNatClampNeg) 1)))] := hD
  refine lv_iload_n hx hb dX7_refuse_11 rfl (lv_at hl 1 rfl) ?_
  refine W.widen (k := 0) (n := 0) (Nat.le_of_ble_eq_true rfl) (Nat.le_of_ble_eq_true rfl) ?_
  exact W.iret (v := v_n) hx hb hr (fun t ht hW => ⟨⟨v_n, (), rfl, rfl, ⟨by rw [ht]; exact hP.sub [0] rfl, hD.sub [0] (by decide) rfl⟩⟩, hS.F ht⟩) hS.2.2 dX7_refuse_12
def fX7_set (v_a : Int32) (v_b : Int32) (v_c : Int64) : Int32 :=
  if (fX7_in (Int32.toInt64 v_a) 0 7) = 0 then (-2) else (-4)
set_option maxHeartbeats 4000000 in
set_option maxRecDepth 100000 in
theorem c_X7_set (l : Launch) (D : va_G) (E : Nat → ClassId) (G : Nat → Nat) (sz : Nat) (a0 : Nat) (v_a : Int32) (v_b : Int32) (v_c : Int64) (a0_shelf : Nat) (a0_rowSort : Nat) (a0_rowSize : Nat) (a0_rows : Nat) (a0_moved : Nat) (a0_shown : Nat) (a0_tape : Nat) (a0_refused : Nat) (a0_road : Nat) (a0_bridge : Nat) (a0_waggon : Nat) (a0_part : Nat) (a0_asked : Nat) (a0_under : Nat) (a0_far : Nat) : Met l yX7_set (oh_w yX7_set cX7_set 5 (some .int)) ({ frames := 1, cells := 0, slots := 0, locals := 25 }) (oh_Pm D E G [.ref a0, .int v_a, .int v_b, .long v_c] [(a0, .inr (7, [.ref a0_shelf, .ref a0_rowSort, .ref a0_rowSize, .ref a0_rows, .ref a0_moved, .ref a0_shown, .ref a0_tape, .int 0, .ref a0_refused, .int 0, .ref a0_road, .int 0, .ref a0_bridge, .int 0, .ref a0_waggon, .int 0, .ref a0_part, .ref a0_asked, .ref a0_under, .int 0, .null, .int 0, .int 0, .int 0, .long 0, .int 0, .int 0, .ref a0_far, .int 0])), (a0_shelf, .inl (E 0, 8, .inl (fun _ => 0))), (a0_refused, .inl (E 0, 8, .inl (fun _ => 0)))] sz) (va_Qi (fun r (_ : Unit) => r = fX7_set v_a v_b v_c) (oh_B D (va_A [(a0, .inr (7, [.ref a0_shelf, .ref a0_rowSort, .ref a0_rowSize, .ref a0_rows, .ref a0_moved, .ref a0_shown, .ref a0_tape, .int 0, .ref a0_refused, .int 0, .ref a0_road, .int 0, .ref a0_bridge, .int 0, .ref a0_waggon, .int 0, .ref a0_part, .ref a0_asked, .ref a0_under, .int 0, .null, .int 0, .int 0, .int 0, .long 0, .int 0, .int 0, .ref a0_far, .int 0])), (a0_shelf, .inl (E 0, 8, .inl (fun _ => 0))), (a0_refused, .inl (E 0, 8, .inl (fun _ => 0)))] sz) (fun _ => [])) (va_A [(a0, .inr (7, [.ref a0_shelf, .ref a0_rowSort, .ref a0_rowSize, .ref a0_rows, .ref a0_moved, .ref a0_shown, .ref a0_tape, .int 0, .ref a0_refused, .int 0, .ref a0_road, .int 0, .ref a0_bridge, .int 0, .ref a0_waggon, .int 0, .ref a0_part, .ref a0_asked, .ref a0_under, .int 0, .null, .int 0, .int 0, .int 0, .long 0, .int 0, .int 0, .ref a0_far, .int 0])), (a0_shelf, .inl (E 0, 8, .inl (fun _ => 0))), (a0_refused, .inl (E 0, 8, .inl (fun _ => 0)))] sz)) 0 0 (va_A [(a0, .inr (7, [.ref a0_shelf, .ref a0_rowSort, .ref a0_rowSize, .ref a0_rows, .ref a0_moved, .ref a0_shown, .ref a0_tape, .int 0, .ref a0_refused, .int 0, .ref a0_road, .int 0, .ref a0_bridge, .int 0, .ref a0_waggon, .int 0, .ref a0_part, .ref a0_asked, .ref a0_under, .int 0, .null, .int 0, .int 0, .int 0, .long 0, .int 0, .int 0, .ref a0_far, .int 0])), (a0_shelf, .inl (E 0, 8, .inl (fun _ => 0))), (a0_refused, .inl (E 0, 8, .inl (fun _ => 0)))] sz) := by
  refine Met.ofW (cc := cX7_set) (maxL := 5) (ret := (some .int)) (by decide) rfl ?_
  intro p e s m args below meth c s₁ B hml hv
  obtain ⟨rfl, hsz, hP, hK, hD0, hG⟩ := hv
  have hx := B.exec
  have hb := B.bytes
  have hr := B.returns
  have hts := atoms_spec (ws := (oh_w yX7_set cX7_set 5 (some .int))) B.pre
  have htg : ∀ w ∈ oh_t, w.before _ s = true := fun w h => hts w (List.mem_cons_of_mem _ h)
  have hown : s.vm.findClass RX7 = some m.cls := findClass_of_methodNamed B.named
  have hlocks := B.notSynchronized
  subst hsz
  have hD := hD0.self (sz := s.heap.size)
  generalize hAe : va_A [(a0, .inr (7, [.ref a0_shelf, .ref a0_rowSort, .ref a0_rowSize, .ref a0_rows, .ref a0_moved, .ref a0_shown, .ref a0_tape, .int 0, .ref a0_refused, .int 0, .ref a0_road, .int 0, .ref a0_bridge, .int 0, .ref a0_waggon, .int 0, .ref a0_part, .ref a0_asked, .ref a0_under, .int 0, .null, .int 0, .int 0, .int 0, .long 0, .int 0, .int 0, .ref a0_far, .int 0])), (a0_shelf, .inl (E 0, 8, .inl (fun _ => 0))), (a0_refused, .inl (E 0, 8, .inl (fun _ => 0)))] s.heap.size = A at hD hG ⊢
  have hA : ∀ q : Nat, s.heap.size ≤ q → A q := fun q h => by rw [← hAe]; exact Or.inr h
  have hS : va_S A s.heap s.heap [] := va_S.rf
  have hP : va_P D vwCl [(a0, .inr (7, [.ref a0_shelf, .ref a0_rowSort, .ref a0_rowSize, .ref a0_rows, .ref a0_moved, .ref a0_shown, .ref a0_tape, .int 0, .ref a0_refused, .int 0, .ref a0_road, .int 0, .ref a0_bridge, .int 0, .ref a0_waggon, .int 0, .ref a0_part, .ref a0_asked, .ref a0_under, .int 0, .null, .int 0, .int 0, .int 0, .long 0, .int 0, .int 0, .ref a0_far, .int 0])), (a0_shelf, .inl (E 0, 8, .inl (fun _ => 0))), (a0_refused, .inl (E 0, 8, .inl (fun _ => 0)))] s.heap := hP
  have hl := lv_entry ([.ref a0, .int v_a, .int v_b, .long v_c]) (n := 5) (Nat.le_of_ble_eq_true rfl)
  rw [lg_entry_eq]
  generalize (lg_sl ([.ref a0, .int v_a, .int v_b, .long v_c]) ++ List.replicate (5 - (lg_sl ([.ref a0, .int v_a, .int v_b, .long v_c])).length) Slot.unset).toArray = ls at hl ⊢
  have hl : lv_has ls 5 [(0, .ref a0), (1, .int v_a), (2, .int v_b), (3, .long v_c)] := hl
  refine lv_iload_n hx hb dX7_set_0 rfl (lv_at hl 1 rfl) ?_
  refine lv_i2l (v := Int32.toInt64 v_a) hx hb dX7_set_1 (by rfl) ?_
  refine lv_lconst (v := 0) hx hb dX7_set_2 (by decide) ?_
  refine lv_ldc2 (v := 7) hx hb hown (htg _ q_1065) dX7_set_3 ?_
  refine oh_pS (As := [.long (Int32.toInt64 v_a), .long 0, .long 7]) (rest := []) (v := fX7_in (Int32.toInt64 v_a) 0 7) ⟨hx, hb, hml, hown, htg⟩ (c_X7_in l D E G (Int32.toInt64 v_a) 0 7) (va_cwS 3 htg (oh_gS q_1066 q_1067 q_73 q_1068) rfl rfl rfl pdX7_in ⟨Nat.le_of_ble_eq_true rfl, Nat.le_of_ble_eq_true rfl⟩) hK (hP.sub (ws' := []) [] rfl) hG hS rfl hl.1 rfl (Nat.le_of_ble_eq_true rfl) dX7_set_6 ⟨Nat.le_of_ble_eq_true rfl, Nat.le_of_ble_eq_true rfl⟩ ?_
  refine lv_if_ne (tgt := 19) hx hb dX7_set_9 (by decide) (fun (c_1 : ¬ ((fX7_in (Int32.toInt64 v_a) 0 7) = 0)) => ?_) (fun (c_1 : (fX7_in (Int32.toInt64 v_a) 0 7) = 0) => ?_)
  · refine lv_aload_n hx hb dX7_set_19 rfl (lv_at hl 0 rfl) ?_
    refine va_get (D := D) (ci := 7) (v := .ref a0_shelf) (C := RX7) (T := TX7) (N := 29) hx hb htg ig_7 hown hK hP 0 rfl rfl 0 (by decide) (htg _ q_973) (fun _ h9 => h9) rfl dX7_set_20 ?_
    refine lv_iload_n hx hb dX7_set_23 rfl (lv_at hl 1 rfl) ?_
    refine va_iald hx hb hK hP 1 0 rfl rfl (oh_wln c_1 (by decide)) dX7_set_24 ?_
    refine oh_nrm (v := 0) (by rfl) ?_
    refine lv_iconst (v := 2) hx hb dX7_set_25 (by decide) ?_
    refine lv_icmp_ne (tgt := 36) hx hb dX7_set_26 (by decide) (fun _ => ?_) (fun c => absurd c (show ¬ ((0 : Int32) = 2) from by decide))
    refine lv_aload_n hx hb dX7_set_36 rfl (lv_at hl 0 rfl) ?_
    refine va_get (D := D) (ci := 7) (v := .ref a0_shelf) (C := RX7) (T := TX7) (N := 29) hx hb htg ig_7 hown hK hP 0 rfl rfl 0 (by decide) (htg _ q_973) (fun _ h9 => h9) rfl dX7_set_37 ?_
    refine lv_iload_n hx hb dX7_set_40 rfl (lv_at hl 1 rfl) ?_
    refine va_iald hx hb hK hP 1 0 rfl rfl (oh_wln c_1 (by decide)) dX7_set_41 ?_
    refine oh_nrm (v := 0) (by rfl) ?_
    refine lv_if_ne (tgt := 52) hx hb dX7_set_42 (by decide) (fun c => absurd (show (0 : Int32) = 0 from by decide) c) (fun _ => ?_)
    refine lv_aload_n hx hb dX7_set_45 rfl (lv_at hl 0 rfl) ?_
    refine lv_bipush (v := (-4)) hx hb dX7_set_46 (by decide) ?_
    refine oh_mV (As := [.int (-4)]) (rest := []) (wr := [(a0_shelf, .inl (E 0, 8, .inl (fun _ => 0)))]) ⟨hx, hb, hml, hown, htg⟩ (c_X7_refuse l D E G s.heap.size a0 (-4) a0_shelf a0_rowSort a0_rowSize a0_rows a0_moved a0_shown a0_tape a0_refused a0_road a0_bridge a0_waggon a0_part a0_asked a0_under a0_far (show vp_in (-(-4)) 8 by unfold vp_in; decide)) (cwV 1 htg (oh_gV q_1071 q_1073 q_29 q_73 q_1074) rfl rfl rfl pdVX7_refuse ⟨Nat.le_of_ble_eq_true rfl, Nat.le_of_ble_eq_true rfl⟩) hK hP hD hG hS hA [0, 2] [1] rfl rfl (by decide) (by decide) (by decide) (va_recv hK hP (ci := 7) (q0 := 0) rfl rfl) rfl hl.1 rfl (Nat.le_of_ble_eq_true rfl) dX7_set_48 ⟨Nat.le_of_ble_eq_true rfl, Nat.le_of_ble_eq_true rfl⟩ (fun r_1 u H locs hw hP hD hS => ?_)
    subst hw
    have hP : va_P D vwCl [(a0_shelf, .inl (E 0, 8, .inl (fun _ => 0))), (a0, .inr (7, [.ref a0_shelf, .ref a0_rowSort, .ref a0_rowSize, .ref a0_rows, .ref a0_moved, .ref a0_shown, .ref a0_tape, .int 0, .ref a0_refused, .int 0, .ref a0_road, .int 0, .ref a0_bridge, .int 0, .ref a0_waggon, .int 0, .ref a0_part, .ref a0_asked, .ref a0_under, .int 0, .null, .int 0, .int 0, .int 0, .long 0, .int 0, .int 0, .ref a0_far, .int 0]))] H := hP
    have hD : va_D A [(a0_shelf, .inl (E 0, 8, .inl (fun _ => 0))), (a0, .inr (7, [.ref a0_shelf, .ref a0_rowSort, .ref a0_rowSize, .ref a0_rows, .ref a0_moved, .ref a0_shown, .ref a0_tape, .int 0, .ref a0_refused, .int 0, .ref a0_road, .int 0, .ref a0_bridge, .int 0, .ref a0_waggon, .int 0, .ref a0_part, .ref a0_asked, .ref a0_under, .int 0, .null, .int 0, .int 0, .int 0, .long 0, .int 0, .int 0, .ref a0_far, .int 0]))] := hD
    refine W.widen (k := 0) (n := 0) (Nat.le_refl _) (Nat.le_refl _) ?_
    refine W.widen (k := 0) (n := 0) (Nat.le_of_ble_eq_true rfl) (Nat.le_of_ble_eq_true rfl) ?_
    exact W.iret (v := (-4)) hx hb hr (fun t ht hW => ⟨⟨(-4), (), rfl, by unfold fX7_set; rw [if_neg c_1], ⟨by rw [ht]; exact hP.sub [] rfl, hD.sub [] (by decide) rfl⟩⟩, hS.F ht⟩) hS.2.2 dX7_set_51
  · refine lv_aload_n hx hb dX7_set_12 rfl (lv_at hl 0 rfl) ?_
    refine lv_bipush (v := (-2)) hx hb dX7_set_13 (by decide) ?_
    refine oh_mV (As := [.int (-2)]) (rest := []) (wr := [(a0_shelf, .inl (E 0, 8, .inl (fun _ => 0)))]) ⟨hx, hb, hml, hown, htg⟩ (c_X7_refuse l D E G s.heap.size a0 (-2) a0_shelf a0_rowSort a0_rowSize a0_rows a0_moved a0_shown a0_tape a0_refused a0_road a0_bridge a0_waggon a0_part a0_asked a0_under a0_far (show vp_in (-(-2)) 8 by unfold vp_in; decide)) (cwV 1 htg (oh_gV q_1071 q_1073 q_29 q_73 q_1074) rfl rfl rfl pdVX7_refuse ⟨Nat.le_of_ble_eq_true rfl, Nat.le_of_ble_eq_true rfl⟩) hK hP hD hG hS hA [0, 2] [1] rfl rfl (by decide) (by decide) (by decide) (va_recv hK hP (ci := 7) (q0 := 0) rfl rfl) rfl hl.1 rfl (Nat.le_of_ble_eq_true rfl) dX7_set_15 ⟨Nat.le_of_ble_eq_true rfl, Nat.le_of_ble_eq_true rfl⟩ (fun r_2 u H locs hw hP hD hS => ?_)
    subst hw
    have hP : va_P D vwCl [(a0_shelf, .inl (E 0, 8, .inl (fun _ => 0))), (a0, .inr (7, [.ref a0_shelf, .ref a0_rowSort, .ref a0_rowSize, .ref a0_rows, .ref a0_moved, .ref a0_shown, .ref a0_tape, .int 0, .ref a0_refused, .int 0, .ref a0_road, .int 0, .ref a0_bridge, .int 0, .ref a0_waggon, .int 0, .ref a0_part, .ref a0_asked, .ref a0_under, .int 0, .null, .int 0, .int 0, .int 0, .long 0, .int 0, .int 0, .ref a0_far, .int 0]))] H := hP
    have hD : va_D A [(a0_shelf, .inl (E 0, 8, .inl (fun _ => 0))), (a0, .inr (7, [.ref a0_shelf, .ref a0_rowSort, .ref a0_rowSize, .ref a0_rows, .ref a0_moved, .ref a0_shown, .ref a0_tape, .int 0, .ref a0_refused, .int 0, .ref a0_road, .int 0, .ref a0_bridge, .int 0, .ref a0_waggon, .int 0, .ref a0_part, .ref a0_asked, .ref a0_under, .int 0, .null, .int 0, .int 0, .int 0, .long 0, .int 0, .int 0, .ref a0_far, .int 0]))] := hD
    refine W.widen (k := 0) (n := 0) (Nat.le_refl _) (Nat.le_refl _) ?_
    refine W.widen (k := 0) (n := 0) (Nat.le_of_ble_eq_true rfl) (Nat.le_of_ble_eq_true rfl) ?_
    exact W.iret (v := (-2)) hx hb hr (fun t ht hW => ⟨⟨(-2), (), rfl, by unfold fX7_set; rw [if_pos c_1], ⟨by rw [ht]; exact hP.sub [] rfl, hD.sub [] (by decide) rfl⟩⟩, hS.F ht⟩) hS.2.2 dX7_set_18
def fX7_copy (v_a : Int32) (v_b : Int32) (v_c : Int32) (v_d : Int32) (v_e : Int32) : Int32 :=
  if (fX7_in (Int32.toInt64 v_a) 0 7) = 0 then (-2) else if (fX7_in (Int32.toInt64 v_b) 0 7) = 0 then (-2) else (-4)
set_option maxHeartbeats 4000000 in
set_option maxRecDepth 100000 in
theorem c_X7_copy (l : Launch) (D : va_G) (E : Nat → ClassId) (G : Nat → Nat) (sz : Nat) (a0 : Nat) (v_a : Int32) (v_b : Int32) (v_c : Int32) (v_d : Int32) (v_e : Int32) (a0_shelf : Nat) (a0_rowSort : Nat) (a0_rowSize : Nat) (a0_rows : Nat) (a0_moved : Nat) (a0_shown : Nat) (a0_tape : Nat) (a0_refused : Nat) (a0_road : Nat) (a0_bridge : Nat) (a0_waggon : Nat) (a0_part : Nat) (a0_asked : Nat) (a0_under : Nat) (a0_far : Nat) : Met l yX7_copy (oh_w yX7_copy cX7_copy 7 (some .int)) ({ frames := 1, cells := 0, slots := 0, locals := 25 }) (oh_Pm D E G [.ref a0, .int v_a, .int v_b, .int v_c, .int v_d, .int v_e] [(a0, .inr (7, [.ref a0_shelf, .ref a0_rowSort, .ref a0_rowSize, .ref a0_rows, .ref a0_moved, .ref a0_shown, .ref a0_tape, .int 0, .ref a0_refused, .int 0, .ref a0_road, .int 0, .ref a0_bridge, .int 0, .ref a0_waggon, .int 0, .ref a0_part, .ref a0_asked, .ref a0_under, .int 0, .null, .int 0, .int 0, .int 0, .long 0, .int 0, .int 0, .ref a0_far, .int 0])), (a0_shelf, .inl (E 0, 8, .inl (fun _ => 0))), (a0_refused, .inl (E 0, 8, .inl (fun _ => 0)))] sz) (va_Qi (fun r (_ : Unit) => r = fX7_copy v_a v_b v_c v_d v_e) (oh_B D (va_A [(a0, .inr (7, [.ref a0_shelf, .ref a0_rowSort, .ref a0_rowSize, .ref a0_rows, .ref a0_moved, .ref a0_shown, .ref a0_tape, .int 0, .ref a0_refused, .int 0, .ref a0_road, .int 0, .ref a0_bridge, .int 0, .ref a0_waggon, .int 0, .ref a0_part, .ref a0_asked, .ref a0_under, .int 0, .null, .int 0, .int 0, .int 0, .long 0, .int 0, .int 0, .ref a0_far, .int 0])), (a0_shelf, .inl (E 0, 8, .inl (fun _ => 0))), (a0_refused, .inl (E 0, 8, .inl (fun _ => 0)))] sz) (fun _ => [])) (va_A [(a0, .inr (7, [.ref a0_shelf, .ref a0_rowSort, .ref a0_rowSize, .ref a0_rows, .ref a0_moved, .ref a0_shown, .ref a0_tape, .int 0, .ref a0_refused, .int 0, .ref a0_road, .int 0, .ref a0_bridge, .int 0, .ref a0_waggon, .int 0, .ref a0_part, .ref a0_asked, .ref a0_under, .int 0, .null, .int 0, .int 0, .int 0, .long 0, .int 0, .int 0, .ref a0_far, .int 0])), (a0_shelf, .inl (E 0, 8, .inl (fun _ => 0))), (a0_refused, .inl (E 0, 8, .inl (fun _ => 0)))] sz)) 0 0 (va_A [(a0, .inr (7, [.ref a0_shelf, .ref a0_rowSort, .ref a0_rowSize, .ref a0_rows, .ref a0_moved, .ref a0_shown, .ref a0_tape, .int 0, .ref a0_refused, .int 0, .ref a0_road, .int 0, .ref a0_bridge, .int 0, .ref a0_waggon, .int 0, .ref a0_part, .ref a0_asked, .ref a0_under, .int 0, .null, .int 0, .int 0, .int 0, .long 0, .int 0, .int 0, .ref a0_far, .int 0])), (a0_shelf, .inl (E 0, 8, .inl (fun _ => 0))), (a0_refused, .inl (E 0, 8, .inl (fun _ => 0)))] sz) := by
  refine Met.ofW (cc := cX7_copy) (maxL := 7) (ret := (some .int)) (by decide) rfl ?_
  intro p e s m args below meth c s₁ B hml hv
  obtain ⟨rfl, hsz, hP, hK, hD0, hG⟩ := hv
  have hx := B.exec
  have hb := B.bytes
  have hr := B.returns
  have hts := atoms_spec (ws := (oh_w yX7_copy cX7_copy 7 (some .int))) B.pre
  have htg : ∀ w ∈ oh_t, w.before _ s = true := fun w h => hts w (List.mem_cons_of_mem _ h)
  have hown : s.vm.findClass RX7 = some m.cls := findClass_of_methodNamed B.named
  have hlocks := B.notSynchronized
  subst hsz
  have hD := hD0.self (sz := s.heap.size)
  generalize hAe : va_A [(a0, .inr (7, [.ref a0_shelf, .ref a0_rowSort, .ref a0_rowSize, .ref a0_rows, .ref a0_moved, .ref a0_shown, .ref a0_tape, .int 0, .ref a0_refused, .int 0, .ref a0_road, .int 0, .ref a0_bridge, .int 0, .ref a0_waggon, .int 0, .ref a0_part, .ref a0_asked, .ref a0_under, .int 0, .null, .int 0, .int 0, .int 0, .long 0, .int 0, .int 0, .ref a0_far, .int 0])), (a0_shelf, .inl (E 0, 8, .inl (fun _ => 0))), (a0_refused, .inl (E 0, 8, .inl (fun _ => 0)))] s.heap.size = A at hD hG ⊢
  have hA : ∀ q : Nat, s.heap.size ≤ q → A q := fun q h => by rw [← hAe]; exact Or.inr h
  have hS : va_S A s.heap s.heap [] := va_S.rf
  have hP : va_P D vwCl [(a0, .inr (7, [.ref a0_shelf, .ref a0_rowSort, .ref a0_rowSize, .ref a0_rows, .ref a0_moved, .ref a0_shown, .ref a0_tape, .int 0, .ref a0_refused, .int 0, .ref a0_road, .int 0, .ref a0_bridge, .int 0, .ref a0_waggon, .int 0, .ref a0_part, .ref a0_asked, .ref a0_under, .int 0, .null, .int 0, .int 0, .int 0, .long 0, .int 0, .int 0, .ref a0_far, .int 0])), (a0_shelf, .inl (E 0, 8, .inl (fun _ => 0))), (a0_refused, .inl (E 0, 8, .inl (fun _ => 0)))] s.heap := hP
  have hl := lv_entry ([.ref a0, .int v_a, .int v_b, .int v_c, .int v_d, .int v_e]) (n := 7) (Nat.le_of_ble_eq_true rfl)
  rw [lg_entry_eq]
  generalize (lg_sl ([.ref a0, .int v_a, .int v_b, .int v_c, .int v_d, .int v_e]) ++ List.replicate (7 - (lg_sl ([.ref a0, .int v_a, .int v_b, .int v_c, .int v_d, .int v_e])).length) Slot.unset).toArray = ls at hl ⊢
  have hl : lv_has ls 7 [(0, .ref a0), (1, .int v_a), (2, .int v_b), (3, .int v_c), (4, .int v_d), (5, .int v_e)] := hl
  refine lv_iload_n hx hb dX7_copy_0 rfl (lv_at hl 1 rfl) ?_
  refine lv_i2l (v := Int32.toInt64 v_a) hx hb dX7_copy_1 (by rfl) ?_
  refine lv_lconst (v := 0) hx hb dX7_copy_2 (by decide) ?_
  refine lv_ldc2 (v := 7) hx hb hown (htg _ q_1065) dX7_copy_3 ?_
  refine oh_pS (As := [.long (Int32.toInt64 v_a), .long 0, .long 7]) (rest := []) (v := fX7_in (Int32.toInt64 v_a) 0 7) ⟨hx, hb, hml, hown, htg⟩ (c_X7_in l D E G (Int32.toInt64 v_a) 0 7) (va_cwS 3 htg (oh_gS q_1066 q_1067 q_73 q_1068) rfl rfl rfl pdX7_in ⟨Nat.le_of_ble_eq_true rfl, Nat.le_of_ble_eq_true rfl⟩) hK (hP.sub (ws' := []) [] rfl) hG hS rfl hl.1 rfl (Nat.le_of_ble_eq_true rfl) dX7_copy_6 ⟨Nat.le_of_ble_eq_true rfl, Nat.le_of_ble_eq_true rfl⟩ ?_
  refine lv_if_eq (tgt := 24) hx hb dX7_copy_9 (by decide) (fun (c_1 : (fX7_in (Int32.toInt64 v_a) 0 7) = 0) => ?_) (fun (c_1 : ¬ ((fX7_in (Int32.toInt64 v_a) 0 7) = 0)) => ?_)
  · refine lv_aload_n hx hb dX7_copy_24 rfl (lv_at hl 0 rfl) ?_
    refine lv_bipush (v := (-2)) hx hb dX7_copy_25 (by decide) ?_
    refine oh_mV (As := [.int (-2)]) (rest := []) (wr := [(a0_shelf, .inl (E 0, 8, .inl (fun _ => 0)))]) ⟨hx, hb, hml, hown, htg⟩ (c_X7_refuse l D E G s.heap.size a0 (-2) a0_shelf a0_rowSort a0_rowSize a0_rows a0_moved a0_shown a0_tape a0_refused a0_road a0_bridge a0_waggon a0_part a0_asked a0_under a0_far (show vp_in (-(-2)) 8 by unfold vp_in; decide)) (cwV 1 htg (oh_gV q_1071 q_1073 q_29 q_73 q_1074) rfl rfl rfl pdVX7_refuse ⟨Nat.le_of_ble_eq_true rfl, Nat.le_of_ble_eq_true rfl⟩) hK hP hD hG hS hA [0, 2] [1] rfl rfl (by decide) (by decide) (by decide) (va_recv hK hP (ci := 7) (q0 := 0) rfl rfl) rfl hl.1 rfl (Nat.le_of_ble_eq_true rfl) dX7_copy_27 ⟨Nat.le_of_ble_eq_true rfl, Nat.le_of_ble_eq_true rfl⟩ (fun r_1 u H locs hw hP hD hS => ?_)
    subst hw
    have hP : va_P D vwCl [(a0_shelf, .inl (E 0, 8, .inl (fun _ => 0))), (a0, .inr (7, [.ref a0_shelf, .ref a0_rowSort, .ref a0_rowSize, .ref a0_rows, .ref a0_moved, .ref a0_shown, .ref a0_tape, .int 0, .ref a0_refused, .int 0, .ref a0_road, .int 0, .ref a0_bridge, .int 0, .ref a0_waggon, .int 0, .ref a0_part, .ref a0_asked, .ref a0_under, .int 0, .null, .int 0, .int 0, .int 0, .long 0, .int 0, .int 0, .ref a0_far, .int 0]))] H := hP
    have hD : va_D A [(a0_shelf, .inl (E 0, 8, .inl (fun _ => 0))), (a0, .inr (7, [.ref a0_shelf, .ref a0_rowSort, .ref a0_rowSize, .ref a0_rows, .ref a0_moved, .ref a0_shown, .ref a0_tape, .int 0, .ref a0_refused, .int 0, .ref a0_road, .int 0, .ref a0_bridge, .int 0, .ref a0_waggon, .int 0, .ref a0_part, .ref a0_asked, .ref a0_under, .int 0, .null, .int 0, .int 0, .int 0, .long 0, .int 0, .int 0, .ref a0_far, .int 0]))] := hD
    refine W.widen (k := 0) (n := 0) (Nat.le_refl _) (Nat.le_refl _) ?_
    refine W.widen (k := 0) (n := 0) (Nat.le_of_ble_eq_true rfl) (Nat.le_of_ble_eq_true rfl) ?_
    exact W.iret (v := (-2)) hx hb hr (fun t ht hW => ⟨⟨(-2), (), rfl, by unfold fX7_copy; rw [if_pos c_1], ⟨by rw [ht]; exact hP.sub [] rfl, hD.sub [] (by decide) rfl⟩⟩, hS.F ht⟩) hS.2.2 dX7_copy_30
  · refine lv_iload_n hx hb dX7_copy_12 rfl (lv_at hl 2 rfl) ?_
    refine lv_i2l (v := Int32.toInt64 v_b) hx hb dX7_copy_13 (by rfl) ?_
    refine lv_lconst (v := 0) hx hb dX7_copy_14 (by decide) ?_
    refine lv_ldc2 (v := 7) hx hb hown (htg _ q_1065) dX7_copy_15 ?_
    refine oh_pS (As := [.long (Int32.toInt64 v_b), .long 0, .long 7]) (rest := []) (v := fX7_in (Int32.toInt64 v_b) 0 7) ⟨hx, hb, hml, hown, htg⟩ (c_X7_in l D E G (Int32.toInt64 v_b) 0 7) (va_cwS 3 htg (oh_gS q_1066 q_1067 q_73 q_1068) rfl rfl rfl pdX7_in ⟨Nat.le_of_ble_eq_true rfl, Nat.le_of_ble_eq_true rfl⟩) hK (hP.sub (ws' := []) [] rfl) hG hS rfl hl.1 rfl (Nat.le_of_ble_eq_true rfl) dX7_copy_18 ⟨Nat.le_of_ble_eq_true rfl, Nat.le_of_ble_eq_true rfl⟩ ?_
    refine lv_if_ne (tgt := 31) hx hb dX7_copy_21 (by decide) (fun (c_2 : ¬ ((fX7_in (Int32.toInt64 v_b) 0 7) = 0)) => ?_) (fun (c_2 : (fX7_in (Int32.toInt64 v_b) 0 7) = 0) => ?_)
    · refine lv_aload_n hx hb dX7_copy_31 rfl (lv_at hl 0 rfl) ?_
      refine va_get (D := D) (ci := 7) (v := .ref a0_shelf) (C := RX7) (T := TX7) (N := 29) hx hb htg ig_7 hown hK hP 0 rfl rfl 0 (by decide) (htg _ q_973) (fun _ h9 => h9) rfl dX7_copy_32 ?_
      refine lv_iload_n hx hb dX7_copy_35 rfl (lv_at hl 1 rfl) ?_
      refine va_iald hx hb hK hP 1 0 rfl rfl (oh_wln c_1 (by decide)) dX7_copy_36 ?_
      refine oh_nrm (v := 0) (by rfl) ?_
      refine lv_iconst (v := 2) hx hb dX7_copy_37 (by decide) ?_
      refine lv_icmp_eq (tgt := 86) hx hb dX7_copy_38 (by decide) (fun c => absurd c (show ¬ ((0 : Int32) = 2) from by decide)) (fun _ => ?_)
      refine lv_aload_n hx hb dX7_copy_41 rfl (lv_at hl 0 rfl) ?_
      refine va_get (D := D) (ci := 7) (v := .ref a0_shelf) (C := RX7) (T := TX7) (N := 29) hx hb htg ig_7 hown hK hP 0 rfl rfl 0 (by decide) (htg _ q_973) (fun _ h9 => h9) rfl dX7_copy_42 ?_
      refine lv_iload_n hx hb dX7_copy_45 rfl (lv_at hl 2 rfl) ?_
      refine va_iald hx hb hK hP 1 0 rfl rfl (oh_wln c_2 (by decide)) dX7_copy_46 ?_
      refine oh_nrm (v := 0) (by rfl) ?_
      refine lv_iconst (v := 2) hx hb dX7_copy_47 (by decide) ?_
      refine lv_icmp_eq (tgt := 86) hx hb dX7_copy_48 (by decide) (fun c => absurd c (show ¬ ((0 : Int32) = 2) from by decide)) (fun _ => ?_)
      refine lv_aload_n hx hb dX7_copy_51 rfl (lv_at hl 0 rfl) ?_
      refine va_get (D := D) (ci := 7) (v := .ref a0_shelf) (C := RX7) (T := TX7) (N := 29) hx hb htg ig_7 hown hK hP 0 rfl rfl 0 (by decide) (htg _ q_973) (fun _ h9 => h9) rfl dX7_copy_52 ?_
      refine lv_iload_n hx hb dX7_copy_55 rfl (lv_at hl 1 rfl) ?_
      refine va_iald hx hb hK hP 1 0 rfl rfl (oh_wln c_1 (by decide)) dX7_copy_56 ?_
      refine oh_nrm (v := 0) (by rfl) ?_
      refine lv_iconst (v := 1) hx hb dX7_copy_57 (by decide) ?_
      refine lv_icmp_ne (tgt := 93) hx hb dX7_copy_58 (by decide) (fun _ => ?_) (fun c => absurd c (show ¬ ((0 : Int32) = 1) from by decide))
      refine lv_aload_n hx hb dX7_copy_93 rfl (lv_at hl 0 rfl) ?_
      refine va_get (D := D) (ci := 7) (v := .ref a0_shelf) (C := RX7) (T := TX7) (N := 29) hx hb htg ig_7 hown hK hP 0 rfl rfl 0 (by decide) (htg _ q_973) (fun _ h9 => h9) rfl dX7_copy_94 ?_
      refine lv_iload_n hx hb dX7_copy_97 rfl (lv_at hl 1 rfl) ?_
      refine va_iald hx hb hK hP 1 0 rfl rfl (oh_wln c_1 (by decide)) dX7_copy_98 ?_
      refine oh_nrm (v := 0) (by rfl) ?_
      refine lv_if_eq (tgt := 111) hx hb dX7_copy_99 (by decide) (fun _ => ?_) (fun c => absurd (show (0 : Int32) = 0 from by decide) c)
      refine lv_aload_n hx hb dX7_copy_111 rfl (lv_at hl 0 rfl) ?_
      refine lv_bipush (v := (-4)) hx hb dX7_copy_112 (by decide) ?_
      refine oh_mV (As := [.int (-4)]) (rest := []) (wr := [(a0_shelf, .inl (E 0, 8, .inl (fun _ => 0)))]) ⟨hx, hb, hml, hown, htg⟩ (c_X7_refuse l D E G s.heap.size a0 (-4) a0_shelf a0_rowSort a0_rowSize a0_rows a0_moved a0_shown a0_tape a0_refused a0_road a0_bridge a0_waggon a0_part a0_asked a0_under a0_far (show vp_in (-(-4)) 8 by unfold vp_in; decide)) (cwV 1 htg (oh_gV q_1071 q_1073 q_29 q_73 q_1074) rfl rfl rfl pdVX7_refuse ⟨Nat.le_of_ble_eq_true rfl, Nat.le_of_ble_eq_true rfl⟩) hK hP hD hG hS hA [0, 2] [1] rfl rfl (by decide) (by decide) (by decide) (va_recv hK hP (ci := 7) (q0 := 0) rfl rfl) rfl hl.1 rfl (Nat.le_of_ble_eq_true rfl) dX7_copy_114 ⟨Nat.le_of_ble_eq_true rfl, Nat.le_of_ble_eq_true rfl⟩ (fun r_2 u H locs hw hP hD hS => ?_)
      subst hw
      have hP : va_P D vwCl [(a0_shelf, .inl (E 0, 8, .inl (fun _ => 0))), (a0, .inr (7, [.ref a0_shelf, .ref a0_rowSort, .ref a0_rowSize, .ref a0_rows, .ref a0_moved, .ref a0_shown, .ref a0_tape, .int 0, .ref a0_refused, .int 0, .ref a0_road, .int 0, .ref a0_bridge, .int 0, .ref a0_waggon, .int 0, .ref a0_part, .ref a0_asked, .ref a0_under, .int 0, .null, .int 0, .int 0, .int 0, .long 0, .int 0, .int 0, .ref a0_far, .int 0]))] H := hP
      have hD : va_D A [(a0_shelf, .inl (E 0, 8, .inl (fun _ => 0))), (a0, .inr (7, [.ref a0_shelf, .ref a0_rowSort, .ref a0_rowSize, .ref a0_rows, .ref a0_moved, .ref a0_shown, .ref a0_tape, .int 0, .ref a0_refused, .int 0, .ref a0_road, .int 0, .ref a0_bridge, .int 0, .ref a0_waggon, .int 0, .ref a0_part, .ref a0_asked, .ref a0_under, .int 0, .null, .int 0, .int 0, .int 0, .long 0, .int 0, .int 0, .ref a0_far, .int 0]))] := hD
      refine W.widen (k := 0) (n := 0) (Nat.le_refl _) (Nat.le_refl _) ?_
      refine W.widen (k := 0) (n := 0) (Nat.le_of_ble_eq_true rfl) (Nat.le_of_ble_eq_true rfl) ?_
      exact W.iret (v := (-4)) hx hb hr (fun t ht hW => ⟨⟨(-4), (), rfl, by unfold fX7_copy; rw [if_neg c_1, if_neg c_2], ⟨by rw [ht]; exact hP.sub [] rfl, hD.sub [] (by decide) rfl⟩⟩, hS.F ht⟩) hS.2.2 dX7_copy_117
    · refine lv_aload_n hx hb dX7_copy_24 rfl (lv_at hl 0 rfl) ?_
      refine lv_bipush (v := (-2)) hx hb dX7_copy_25 (by decide) ?_
      refine oh_mV (As := [.int (-2)]) (rest := []) (wr := [(a0_shelf, .inl (E 0, 8, .inl (fun _ => 0)))]) ⟨hx, hb, hml, hown, htg⟩ (c_X7_refuse l D E G s.heap.size a0 (-2) a0_shelf a0_rowSort a0_rowSize a0_rows a0_moved a0_shown a0_tape a0_refused a0_road a0_bridge a0_waggon a0_part a0_asked a0_under a0_far (show vp_in (-(-2)) 8 by unfold vp_in; decide)) (cwV 1 htg (oh_gV q_1071 q_1073 q_29 q_73 q_1074) rfl rfl rfl pdVX7_refuse ⟨Nat.le_of_ble_eq_true rfl, Nat.le_of_ble_eq_true rfl⟩) hK hP hD hG hS hA [0, 2] [1] rfl rfl (by decide) (by decide) (by decide) (va_recv hK hP (ci := 7) (q0 := 0) rfl rfl) rfl hl.1 rfl (Nat.le_of_ble_eq_true rfl) dX7_copy_27 ⟨Nat.le_of_ble_eq_true rfl, Nat.le_of_ble_eq_true rfl⟩ (fun r_3 u H locs hw hP hD hS => ?_)
      subst hw
      have hP : va_P D vwCl [(a0_shelf, .inl (E 0, 8, .inl (fun _ => 0))), (a0, .inr (7, [.ref a0_shelf, .ref a0_rowSort, .ref a0_rowSize, .ref a0_rows, .ref a0_moved, .ref a0_shown, .ref a0_tape, .int 0, .ref a0_refused, .int 0, .ref a0_road, .int 0, .ref a0_bridge, .int 0, .ref a0_waggon, .int 0, .ref a0_part, .ref a0_asked, .ref a0_under, .int 0, .null, .int 0, .int 0, .int 0, .long 0, .int 0, .int 0, .ref a0_far, .int 0]))] H := hP
      have hD : va_D A [(a0_shelf, .inl (E 0, 8, .inl (fun _ => 0))), (a0, .inr (7, [.ref a0_shelf, .ref a0_rowSort, .ref a0_rowSize, .ref a0_rows, .ref a0_moved, .ref a0_shown, .ref a0_tape, .int 0, .ref a0_refused, .int 0, .ref a0_road, .int 0, .ref a0_bridge, .int 0, .ref a0_waggon, .int 0, .ref a0_part, .ref a0_asked, .ref a0_under, .int 0, .null, .int 0, .int 0, .int 0, .long 0, .int 0, .int 0, .ref a0_far, .int 0]))] := hD
      refine W.widen (k := 0) (n := 0) (Nat.le_refl _) (Nat.le_refl _) ?_
      refine W.widen (k := 0) (n := 0) (Nat.le_of_ble_eq_true rfl) (Nat.le_of_ble_eq_true rfl) ?_
      exact W.iret (v := (-2)) hx hb hr (fun t ht hW => ⟨⟨(-2), (), rfl, by unfold fX7_copy; rw [if_neg c_1, if_pos c_2], ⟨by rw [ht]; exact hP.sub [] rfl, hD.sub [] (by decide) rfl⟩⟩, hS.F ht⟩) hS.2.2 dX7_copy_30
set_option maxHeartbeats 4000000 in
set_option maxRecDepth 100000 in
theorem c_X7_element (l : Launch) (D : va_G) (E : Nat → ClassId) (G : Nat → Nat) (a0 : Nat) (v_a : Int32) (v_b : Int32) (a0_shelf : Nat) (a0_rowSort : Nat) (a0_rowSize : Nat) (a0_rows : Nat) (a0_moved : Nat) (a0_shown : Nat) (a0_tape : Nat) (a0_refused : Nat) (a0_road : Nat) (a0_bridge : Nat) (a0_waggon : Nat) (a0_part : Nat) (a0_asked : Nat) (a0_under : Nat) (a0_far : Nat) : Met l yX7_element (oh_w yX7_element cX7_element 3 (some .long)) ({ frames := 1, cells := 0, slots := 0, locals := 25 }) (oh_Pp D E G [.ref a0, .int v_a, .int v_b] [(a0, .inr (7, [.ref a0_shelf, .ref a0_rowSort, .ref a0_rowSize, .ref a0_rows, .ref a0_moved, .ref a0_shown, .ref a0_tape, .int 0, .ref a0_refused, .int 0, .ref a0_road, .int 0, .ref a0_bridge, .int 0, .ref a0_waggon, .int 0, .ref a0_part, .ref a0_asked, .ref a0_under, .int 0, .null, .int 0, .int 0, .int 0, .long 0, .int 0, .int 0, .ref a0_far, .int 0])), (a0_shelf, .inl (E 0, 8, .inl (fun _ => 0)))]) (vp_Sl (fun r => r = 0)) 0 0 (fun _ => False) := by
  refine Met.ofW (cc := cX7_element) (maxL := 3) (ret := (some .long)) (by decide) rfl ?_
  intro p e s m args below meth c s₁ B hml hv
  obtain ⟨rfl, hP, hK, hG⟩ := hv
  have hx := B.exec
  have hb := B.bytes
  have hr := B.returns
  have hts := atoms_spec (ws := (oh_w yX7_element cX7_element 3 (some .long))) B.pre
  have htg : ∀ w ∈ oh_t, w.before _ s = true := fun w h => hts w (List.mem_cons_of_mem _ h)
  have hown : s.vm.findClass RX7 = some m.cls := findClass_of_methodNamed B.named
  have hlocks := B.notSynchronized
  have hS : va_S (fun _ => False) s.heap s.heap [] := va_S.rf
  have hl := lv_entry ([.ref a0, .int v_a, .int v_b]) (n := 3) (Nat.le_of_ble_eq_true rfl)
  rw [lg_entry_eq]
  generalize (lg_sl ([.ref a0, .int v_a, .int v_b]) ++ List.replicate (3 - (lg_sl ([.ref a0, .int v_a, .int v_b])).length) Slot.unset).toArray = ls at hl ⊢
  have hl : lv_has ls 3 [(0, .ref a0), (1, .int v_a), (2, .int v_b)] := hl
  refine lv_iload_n hx hb dX7_element_0 rfl (lv_at hl 1 rfl) ?_
  refine lv_i2l (v := Int32.toInt64 v_a) hx hb dX7_element_1 (by rfl) ?_
  refine lv_lconst (v := 0) hx hb dX7_element_2 (by decide) ?_
  refine lv_ldc2 (v := 7) hx hb hown (htg _ q_1065) dX7_element_3 ?_
  refine oh_pS (As := [.long (Int32.toInt64 v_a), .long 0, .long 7]) (rest := []) (v := fX7_in (Int32.toInt64 v_a) 0 7) ⟨hx, hb, hml, hown, htg⟩ (c_X7_in l D E G (Int32.toInt64 v_a) 0 7) (va_cwS 3 htg (oh_gS q_1066 q_1067 q_73 q_1068) rfl rfl rfl pdX7_in ⟨Nat.le_of_ble_eq_true rfl, Nat.le_of_ble_eq_true rfl⟩) hK (hP.sub (ws' := []) [] rfl) hG hS rfl hl.1 rfl (Nat.le_of_ble_eq_true rfl) dX7_element_6 ⟨Nat.le_of_ble_eq_true rfl, Nat.le_of_ble_eq_true rfl⟩ ?_
  refine lv_if_eq (tgt := 51) hx hb dX7_element_9 (by decide) (fun (c_1 : (fX7_in (Int32.toInt64 v_a) 0 7) = 0) => ?_) (fun (c_1 : ¬ ((fX7_in (Int32.toInt64 v_a) 0 7) = 0)) => ?_)
  · refine lv_lconst (v := 0) hx hb dX7_element_51 (by decide) ?_
    exact W.lret (v := 0) hx hb hr (fun t ht hW => ⟨0, rfl, rfl, ht⟩) (fun q h => by cases h) dX7_element_52
  · refine lv_aload_n hx hb dX7_element_12 rfl (lv_at hl 0 rfl) ?_
    refine va_get (D := D) (ci := 7) (v := .ref a0_shelf) (C := RX7) (T := TX7) (N := 29) hx hb htg ig_7 hown hK hP 0 rfl rfl 0 (by decide) (htg _ q_973) (fun _ h9 => h9) rfl dX7_element_13 ?_
    refine lv_iload_n hx hb dX7_element_16 rfl (lv_at hl 1 rfl) ?_
    refine va_iald hx hb hK hP 1 0 rfl rfl (oh_wln c_1 (by decide)) dX7_element_17 ?_
    refine oh_nrm (v := 0) (by rfl) ?_
    refine lv_iconst (v := 1) hx hb dX7_element_18 (by decide) ?_
    refine lv_icmp_ne (tgt := 51) hx hb dX7_element_19 (by decide) (fun _ => ?_) (fun c => absurd c (show ¬ ((0 : Int32) = 1) from by decide))
    refine lv_lconst (v := 0) hx hb dX7_element_51 (by decide) ?_
    exact W.lret (v := 0) hx hb hr (fun t ht hW => ⟨0, rfl, rfl, ht⟩) (fun q h => by cases h) dX7_element_52
set_option maxHeartbeats 4000000 in
set_option maxRecDepth 100000 in
theorem c_X7_holds (l : Launch) (D : va_G) (E : Nat → ClassId) (G : Nat → Nat) (a0 : Nat) (v_a : Int32) (a0_shelf : Nat) (a0_rowSort : Nat) (a0_rowSize : Nat) (a0_rows : Nat) (a0_moved : Nat) (a0_shown : Nat) (a0_tape : Nat) (a0_refused : Nat) (a0_road : Nat) (a0_bridge : Nat) (a0_waggon : Nat) (a0_part : Nat) (a0_asked : Nat) (a0_under : Nat) (a0_far : Nat) : Met l yX7_holds (oh_w yX7_holds cX7_holds 2 (some .int)) ({ frames := 1, cells := 0, slots := 0, locals := 25 }) (oh_Pp D E G [.ref a0, .int v_a] [(a0, .inr (7, [.ref a0_shelf, .ref a0_rowSort, .ref a0_rowSize, .ref a0_rows, .ref a0_moved, .ref a0_shown, .ref a0_tape, .int 0, .ref a0_refused, .int 0, .ref a0_road, .int 0, .ref a0_bridge, .int 0, .ref a0_waggon, .int 0, .ref a0_part, .ref a0_asked, .ref a0_under, .int 0, .null, .int 0, .int 0, .int 0, .long 0, .int 0, .int 0, .ref a0_far, .int 0])), (a0_shelf, .inl (E 0, 8, .inl (fun _ => 0)))]) (vp_Si (fun r => r = (-1))) 0 0 (fun _ => False) := by
  refine Met.ofW (cc := cX7_holds) (maxL := 2) (ret := (some .int)) (by decide) rfl ?_
  intro p e s m args below meth c s₁ B hml hv
  obtain ⟨rfl, hP, hK, hG⟩ := hv
  have hx := B.exec
  have hb := B.bytes
  have hr := B.returns
  have hts := atoms_spec (ws := (oh_w yX7_holds cX7_holds 2 (some .int))) B.pre
  have htg : ∀ w ∈ oh_t, w.before _ s = true := fun w h => hts w (List.mem_cons_of_mem _ h)
  have hown : s.vm.findClass RX7 = some m.cls := findClass_of_methodNamed B.named
  have hlocks := B.notSynchronized
  have hS : va_S (fun _ => False) s.heap s.heap [] := va_S.rf
  have hl := lv_entry ([.ref a0, .int v_a]) (n := 2) (Nat.le_of_ble_eq_true rfl)
  rw [lg_entry_eq]
  generalize (lg_sl ([.ref a0, .int v_a]) ++ List.replicate (2 - (lg_sl ([.ref a0, .int v_a])).length) Slot.unset).toArray = ls at hl ⊢
  have hl : lv_has ls 2 [(0, .ref a0), (1, .int v_a)] := hl
  refine lv_iload_n hx hb dX7_holds_0 rfl (lv_at hl 1 rfl) ?_
  refine lv_i2l (v := Int32.toInt64 v_a) hx hb dX7_holds_1 (by rfl) ?_
  refine lv_lconst (v := 0) hx hb dX7_holds_2 (by decide) ?_
  refine lv_ldc2 (v := 7) hx hb hown (htg _ q_1065) dX7_holds_3 ?_
  refine oh_pS (As := [.long (Int32.toInt64 v_a), .long 0, .long 7]) (rest := []) (v := fX7_in (Int32.toInt64 v_a) 0 7) ⟨hx, hb, hml, hown, htg⟩ (c_X7_in l D E G (Int32.toInt64 v_a) 0 7) (va_cwS 3 htg (oh_gS q_1066 q_1067 q_73 q_1068) rfl rfl rfl pdX7_in ⟨Nat.le_of_ble_eq_true rfl, Nat.le_of_ble_eq_true rfl⟩) hK (hP.sub (ws' := []) [] rfl) hG hS rfl hl.1 rfl (Nat.le_of_ble_eq_true rfl) dX7_holds_6 ⟨Nat.le_of_ble_eq_true rfl, Nat.le_of_ble_eq_true rfl⟩ ?_
  refine lv_if_eq (tgt := 21) hx hb dX7_holds_9 (by decide) (fun (c_1 : (fX7_in (Int32.toInt64 v_a) 0 7) = 0) => ?_) (fun (c_1 : ¬ ((fX7_in (Int32.toInt64 v_a) 0 7) = 0)) => ?_)
  · refine lv_iconst (v := (-1)) hx hb dX7_holds_21 (by decide) ?_
    exact W.iret (v := (-1)) hx hb hr (fun t ht hW => ⟨(-1), rfl, rfl, ht⟩) (fun q h => by cases h) dX7_holds_22
  · refine lv_aload_n hx hb dX7_holds_12 rfl (lv_at hl 0 rfl) ?_
    refine va_get (D := D) (ci := 7) (v := .ref a0_shelf) (C := RX7) (T := TX7) (N := 29) hx hb htg ig_7 hown hK hP 0 rfl rfl 0 (by decide) (htg _ q_973) (fun _ h9 => h9) rfl dX7_holds_13 ?_
    refine lv_iload_n hx hb dX7_holds_16 rfl (lv_at hl 1 rfl) ?_
    refine va_iald hx hb hK hP 1 0 rfl rfl (oh_wln c_1 (by decide)) dX7_holds_17 ?_
    refine oh_nrm (v := 0) (by rfl) ?_
    refine lv_if_ne (tgt := 23) hx hb dX7_holds_18 (by decide) (fun c => absurd (show (0 : Int32) = 0 from by decide) c) (fun _ => ?_)
    refine lv_iconst (v := (-1)) hx hb dX7_holds_21 (by decide) ?_
    exact W.iret (v := (-1)) hx hb hr (fun t ht hW => ⟨(-1), rfl, rfl, ht⟩) (fun q h => by cases h) dX7_holds_22
def fX7_show (v_a : Int32) (v_b : Int32) : Int32 :=
  if (fX7_in (Int32.toInt64 v_a) 0 7) = 0 then (-2) else if v_b = (-1) then (if v_b = (-1) then 1 else 1) else (-2)
set_option maxHeartbeats 4000000 in
set_option maxRecDepth 100000 in
theorem c_X7_show (l : Launch) (D : va_G) (E : Nat → ClassId) (G : Nat → Nat) (sz : Nat) (a0 : Nat) (v_a : Int32) (v_b : Int32) (a0_shelf : Nat) (a0_rowSort : Nat) (a0_rowSize : Nat) (a0_rows : Nat) (a0_moved : Nat) (a0_shown : Nat) (a0_tape : Nat) (a0_refused : Nat) (a0_road : Nat) (a0_bridge : Nat) (a0_waggon : Nat) (a0_part : Nat) (a0_asked : Nat) (a0_under : Nat) (a0_far : Nat) : Met l yX7_show (oh_w yX7_show cX7_show 3 (some .int)) ({ frames := 2, cells := 0, slots := 0, locals := 46 }) (oh_Pm D E G [.ref a0, .int v_a, .int v_b] [(a0, .inr (7, [.ref a0_shelf, .ref a0_rowSort, .ref a0_rowSize, .ref a0_rows, .ref a0_moved, .ref a0_shown, .ref a0_tape, .int 0, .ref a0_refused, .int 0, .ref a0_road, .int 0, .ref a0_bridge, .int 0, .ref a0_waggon, .int 0, .ref a0_part, .ref a0_asked, .ref a0_under, .int 0, .null, .int 0, .int 0, .int 0, .long 0, .int 0, .int 0, .ref a0_far, .int 0])), (a0_shelf, .inl (E 0, 8, .inl (fun _ => 0))), (a0_shown, .inl (E 0, 8, .inl (fun _ => 0))), (a0_refused, .inl (E 0, 8, .inl (fun _ => 0)))] sz) (va_Qi (fun r (_ : Unit) => r = fX7_show v_a v_b) (oh_B D (va_A [(a0, .inr (7, [.ref a0_shelf, .ref a0_rowSort, .ref a0_rowSize, .ref a0_rows, .ref a0_moved, .ref a0_shown, .ref a0_tape, .int 0, .ref a0_refused, .int 0, .ref a0_road, .int 0, .ref a0_bridge, .int 0, .ref a0_waggon, .int 0, .ref a0_part, .ref a0_asked, .ref a0_under, .int 0, .null, .int 0, .int 0, .int 0, .long 0, .int 0, .int 0, .ref a0_far, .int 0])), (a0_shelf, .inl (E 0, 8, .inl (fun _ => 0))), (a0_shown, .inl (E 0, 8, .inl (fun _ => 0))), (a0_refused, .inl (E 0, 8, .inl (fun _ => 0)))] sz) (fun _ => [])) (va_A [(a0, .inr (7, [.ref a0_shelf, .ref a0_rowSort, .ref a0_rowSize, .ref a0_rows, .ref a0_moved, .ref a0_shown, .ref a0_tape, .int 0, .ref a0_refused, .int 0, .ref a0_road, .int 0, .ref a0_bridge, .int 0, .ref a0_waggon, .int 0, .ref a0_part, .ref a0_asked, .ref a0_under, .int 0, .null, .int 0, .int 0, .int 0, .long 0, .int 0, .int 0, .ref a0_far, .int 0])), (a0_shelf, .inl (E 0, 8, .inl (fun _ => 0))), (a0_shown, .inl (E 0, 8, .inl (fun _ => 0))), (a0_refused, .inl (E 0, 8, .inl (fun _ => 0)))] sz)) 0 0 (va_A [(a0, .inr (7, [.ref a0_shelf, .ref a0_rowSort, .ref a0_rowSize, .ref a0_rows, .ref a0_moved, .ref a0_shown, .ref a0_tape, .int 0, .ref a0_refused, .int 0, .ref a0_road, .int 0, .ref a0_bridge, .int 0, .ref a0_waggon, .int 0, .ref a0_part, .ref a0_asked, .ref a0_under, .int 0, .null, .int 0, .int 0, .int 0, .long 0, .int 0, .int 0, .ref a0_far, .int 0])), (a0_shelf, .inl (E 0, 8, .inl (fun _ => 0))), (a0_shown, .inl (E 0, 8, .inl (fun _ => 0))), (a0_refused, .inl (E 0, 8, .inl (fun _ => 0)))] sz) := by
  refine Met.ofW (cc := cX7_show) (maxL := 3) (ret := (some .int)) (by decide) rfl ?_
  intro p e s m args below meth c s₁ B hml hv
  obtain ⟨rfl, hsz, hP, hK, hD0, hG⟩ := hv
  have hx := B.exec
  have hb := B.bytes
  have hr := B.returns
  have hts := atoms_spec (ws := (oh_w yX7_show cX7_show 3 (some .int))) B.pre
  have htg : ∀ w ∈ oh_t, w.before _ s = true := fun w h => hts w (List.mem_cons_of_mem _ h)
  have hown : s.vm.findClass RX7 = some m.cls := findClass_of_methodNamed B.named
  have hlocks := B.notSynchronized
  subst hsz
  have hD := hD0.self (sz := s.heap.size)
  generalize hAe : va_A [(a0, .inr (7, [.ref a0_shelf, .ref a0_rowSort, .ref a0_rowSize, .ref a0_rows, .ref a0_moved, .ref a0_shown, .ref a0_tape, .int 0, .ref a0_refused, .int 0, .ref a0_road, .int 0, .ref a0_bridge, .int 0, .ref a0_waggon, .int 0, .ref a0_part, .ref a0_asked, .ref a0_under, .int 0, .null, .int 0, .int 0, .int 0, .long 0, .int 0, .int 0, .ref a0_far, .int 0])), (a0_shelf, .inl (E 0, 8, .inl (fun _ => 0))), (a0_shown, .inl (E 0, 8, .inl (fun _ => 0))), (a0_refused, .inl (E 0, 8, .inl (fun _ => 0)))] s.heap.size = A at hD hG ⊢
  have hA : ∀ q : Nat, s.heap.size ≤ q → A q := fun q h => by rw [← hAe]; exact Or.inr h
  have hS : va_S A s.heap s.heap [] := va_S.rf
  have hP : va_P D vwCl [(a0, .inr (7, [.ref a0_shelf, .ref a0_rowSort, .ref a0_rowSize, .ref a0_rows, .ref a0_moved, .ref a0_shown, .ref a0_tape, .int 0, .ref a0_refused, .int 0, .ref a0_road, .int 0, .ref a0_bridge, .int 0, .ref a0_waggon, .int 0, .ref a0_part, .ref a0_asked, .ref a0_under, .int 0, .null, .int 0, .int 0, .int 0, .long 0, .int 0, .int 0, .ref a0_far, .int 0])), (a0_shelf, .inl (E 0, 8, .inl (fun _ => 0))), (a0_shown, .inl (E 0, 8, .inl (fun _ => 0))), (a0_refused, .inl (E 0, 8, .inl (fun _ => 0)))] s.heap := hP
  have hl := lv_entry ([.ref a0, .int v_a, .int v_b]) (n := 3) (Nat.le_of_ble_eq_true rfl)
  rw [lg_entry_eq]
  generalize (lg_sl ([.ref a0, .int v_a, .int v_b]) ++ List.replicate (3 - (lg_sl ([.ref a0, .int v_a, .int v_b])).length) Slot.unset).toArray = ls at hl ⊢
  have hl : lv_has ls 3 [(0, .ref a0), (1, .int v_a), (2, .int v_b)] := hl
  refine lv_iload_n hx hb dX7_show_0 rfl (lv_at hl 1 rfl) ?_
  refine lv_i2l (v := Int32.toInt64 v_a) hx hb dX7_show_1 (by rfl) ?_
  refine lv_lconst (v := 0) hx hb dX7_show_2 (by decide) ?_
  refine lv_ldc2 (v := 7) hx hb hown (htg _ q_1065) dX7_show_3 ?_
  refine oh_pS (As := [.long (Int32.toInt64 v_a), .long 0, .long 7]) (rest := []) (v := fX7_in (Int32.toInt64 v_a) 0 7) ⟨hx, hb, hml, hown, htg⟩ (c_X7_in l D E G (Int32.toInt64 v_a) 0 7) (va_cwS 3 htg (oh_gS q_1066 q_1067 q_73 q_1068) rfl rfl rfl pdX7_in ⟨Nat.le_of_ble_eq_true rfl, Nat.le_of_ble_eq_true rfl⟩) hK (hP.sub (ws' := []) [] rfl) hG hS rfl hl.1 rfl (Nat.le_of_ble_eq_true rfl) dX7_show_6 ⟨Nat.le_of_ble_eq_true rfl, Nat.le_of_ble_eq_true rfl⟩ ?_
  refine lv_if_eq (tgt := 25) hx hb dX7_show_9 (by decide) (fun (c_1 : (fX7_in (Int32.toInt64 v_a) 0 7) = 0) => ?_) (fun (c_1 : ¬ ((fX7_in (Int32.toInt64 v_a) 0 7) = 0)) => ?_)
  · refine lv_aload_n hx hb dX7_show_25 rfl (lv_at hl 0 rfl) ?_
    refine lv_bipush (v := (-2)) hx hb dX7_show_26 (by decide) ?_
    refine oh_mV (As := [.int (-2)]) (rest := []) (wr := [(a0_shelf, .inl (E 0, 8, .inl (fun _ => 0))), (a0_shown, .inl (E 0, 8, .inl (fun _ => 0)))]) ⟨hx, hb, hml, hown, htg⟩ (c_X7_refuse l D E G s.heap.size a0 (-2) a0_shelf a0_rowSort a0_rowSize a0_rows a0_moved a0_shown a0_tape a0_refused a0_road a0_bridge a0_waggon a0_part a0_asked a0_under a0_far (show vp_in (-(-2)) 8 by unfold vp_in; decide)) (cwV 1 htg (oh_gV q_1071 q_1073 q_29 q_73 q_1074) rfl rfl rfl pdVX7_refuse ⟨Nat.le_of_ble_eq_true rfl, Nat.le_of_ble_eq_true rfl⟩) hK hP hD hG hS hA [0, 3] [1, 2] rfl rfl (by decide) (by decide) (by decide) (va_recv hK hP (ci := 7) (q0 := 0) rfl rfl) rfl hl.1 rfl (Nat.le_of_ble_eq_true rfl) dX7_show_28 ⟨Nat.le_of_ble_eq_true rfl, Nat.le_of_ble_eq_true rfl⟩ (fun r_1 u H locs hw hP hD hS => ?_)
    subst hw
    have hP : va_P D vwCl [(a0_shelf, .inl (E 0, 8, .inl (fun _ => 0))), (a0_shown, .inl (E 0, 8, .inl (fun _ => 0))), (a0, .inr (7, [.ref a0_shelf, .ref a0_rowSort, .ref a0_rowSize, .ref a0_rows, .ref a0_moved, .ref a0_shown, .ref a0_tape, .int 0, .ref a0_refused, .int 0, .ref a0_road, .int 0, .ref a0_bridge, .int 0, .ref a0_waggon, .int 0, .ref a0_part, .ref a0_asked, .ref a0_under, .int 0, .null, .int 0, .int 0, .int 0, .long 0, .int 0, .int 0, .ref a0_far, .int 0]))] H := hP
    have hD : va_D A [(a0_shelf, .inl (E 0, 8, .inl (fun _ => 0))), (a0_shown, .inl (E 0, 8, .inl (fun _ => 0))), (a0, .inr (7, [.ref a0_shelf, .ref a0_rowSort, .ref a0_rowSize, .ref a0_rows, .ref a0_moved, .ref a0_shown, .ref a0_tape, .int 0, .ref a0_refused, .int 0, .ref a0_road, .int 0, .ref a0_bridge, .int 0, .ref a0_waggon, .int 0, .ref a0_part, .ref a0_asked, .ref a0_under, .int 0, .null, .int 0, .int 0, .int 0, .long 0, .int 0, .int 0, .ref a0_far, .int 0]))] := hD
    refine W.widen (k := 0) (n := 0) (Nat.le_refl _) (Nat.le_refl _) ?_
    refine W.widen (k := 0) (n := 0) (Nat.le_of_ble_eq_true rfl) (Nat.le_of_ble_eq_true rfl) ?_
    exact W.iret (v := (-2)) hx hb hr (fun t ht hW => ⟨⟨(-2), (), rfl, by unfold fX7_show; rw [if_pos c_1], ⟨by rw [ht]; exact hP.sub [] rfl, hD.sub [] (by decide) rfl⟩⟩, hS.F ht⟩) hS.2.2 dX7_show_31
  · refine lv_iload_n hx hb dX7_show_12 rfl (lv_at hl 2 rfl) ?_
    refine lv_iconst (v := (-1)) hx hb dX7_show_13 (by decide) ?_
    refine lv_icmp_eq (tgt := 32) hx hb dX7_show_14 (by decide) (fun (c_2 : v_b = (-1)) => ?_) (fun (c_2 : ¬ (v_b = (-1))) => ?_)
    · refine lv_aload_n hx hb dX7_show_32 rfl (lv_at hl 0 rfl) ?_
      refine va_get (D := D) (ci := 7) (v := .ref a0_shelf) (C := RX7) (T := TX7) (N := 29) hx hb htg ig_7 hown hK hP 0 rfl rfl 0 (by decide) (htg _ q_973) (fun _ h9 => h9) rfl dX7_show_33 ?_
      refine lv_iload_n hx hb dX7_show_36 rfl (lv_at hl 1 rfl) ?_
      refine lv_iload_n hx hb dX7_show_37 rfl (lv_at hl 2 rfl) ?_
      refine lv_iconst (v := (-1)) hx hb dX7_show_38 (by decide) ?_
      refine lv_icmp_ne (tgt := 46) hx hb dX7_show_39 (by decide) (fun (c_3 : ¬ (v_b = (-1))) => ?_) (fun (c_3 : v_b = (-1)) => ?_)
      · refine lv_iconst (v := 2) hx hb dX7_show_46 (by decide) ?_
        refine va_iast hx hb hK hP hD hS 1 0 rfl rfl (oh_wln c_1 (by decide)) dX7_show_47 (fun H locs hP hD hS => ?_)
        have hP : va_P D vwCl [(a0, .inr (7, [.ref a0_shelf, .ref a0_rowSort, .ref a0_rowSize, .ref a0_rows, .ref a0_moved, .ref a0_shown, .ref a0_tape, .int 0, .ref a0_refused, .int 0, .ref a0_road, .int 0, .ref a0_bridge, .int 0, .ref a0_waggon, .int 0, .ref a0_part, .ref a0_asked, .ref a0_under, .int 0, .null, .int 0, .int 0, .int 0, .long 0, .int 0, .int 0, .ref a0_far, .int 0])), (a0_shelf, .inl (E 0, 8, .inl (upd (fun _ => 0) ((v_a).toNatClampNeg) 2))), (a0_shown, .inl (E 0, 8, .inl (fun _ => 0))), (a0_refused, .inl (E 0, 8, .inl (fun _ => 0)))] H := hP
        have hD : va_D A [(a0, .inr (7, [.ref a0_shelf, .ref a0_rowSort, .ref a0_rowSize, .ref a0_rows, .ref a0_moved, .ref a0_shown, .ref a0_tape, .int 0, .ref a0_refused, .int 0, .ref a0_road, .int 0, .ref a0_bridge, .int 0, .ref a0_waggon, .int 0, .ref a0_part, .ref a0_asked, .ref a0_under, .int 0, .null, .int 0, .int 0, .int 0, .long 0, .int 0, .int 0, .ref a0_far, .int 0])), (a0_shelf, .inl (E 0, 8, .inl (upd (fun _ => 0) ((v_a).toNatClampNeg) 2))), (a0_shown, .inl (E 0, 8, .inl (fun _ => 0))), (a0_refused, .inl (E 0, 8, .inl (fun _ => 0)))] := hD
        refine lv_aload_n hx hb dX7_show_48 rfl (lv_at hl 0 rfl) ?_
        refine va_get (D := D) (ci := 7) (v := .ref a0_shown) (C := RX7) (T := TX7) (N := 29) hx hb htg ig_7 hown hK hP 0 rfl rfl 5 (by decide) (htg _ q_978) (fun _ h9 => h9) rfl dX7_show_49 ?_
        refine lv_iload_n hx hb dX7_show_52 rfl (lv_at hl 1 rfl) ?_
        refine lv_iload_n hx hb dX7_show_53 rfl (lv_at hl 2 rfl) ?_
        refine va_iast hx hb hK hP hD hS 2 0 rfl rfl (oh_wln c_1 (by decide)) dX7_show_54 (fun H locs hP hD hS => ?_)
        have hP : va_P D vwCl [(a0, .inr (7, [.ref a0_shelf, .ref a0_rowSort, .ref a0_rowSize, .ref a0_rows, .ref a0_moved, .ref a0_shown, .ref a0_tape, .int 0, .ref a0_refused, .int 0, .ref a0_road, .int 0, .ref a0_bridge, .int 0, .ref a0_waggon, .int 0, .ref a0_part, .ref a0_asked, .ref a0_under, .int 0, .null, .int 0, .int 0, .int 0, .long 0, .int 0, .int 0, .ref a0_far, .int 0])), (a0_shelf, .inl (E 0, 8, .inl (upd (fun _ => 0) ((v_a).toNatClampNeg) 2))), (a0_shown, .inl (E 0, 8, .inl (upd (fun _ => 0) ((v_a).toNatClampNeg) v_b))), (a0_refused, .inl (E 0, 8, .inl (fun _ => 0)))] H := hP
        have hD : va_D A [(a0, .inr (7, [.ref a0_shelf, .ref a0_rowSort, .ref a0_rowSize, .ref a0_rows, .ref a0_moved, .ref a0_shown, .ref a0_tape, .int 0, .ref a0_refused, .int 0, .ref a0_road, .int 0, .ref a0_bridge, .int 0, .ref a0_waggon, .int 0, .ref a0_part, .ref a0_asked, .ref a0_under, .int 0, .null, .int 0, .int 0, .int 0, .long 0, .int 0, .int 0, .ref a0_far, .int 0])), (a0_shelf, .inl (E 0, 8, .inl (upd (fun _ => 0) ((v_a).toNatClampNeg) 2))), (a0_shown, .inl (E 0, 8, .inl (upd (fun _ => 0) ((v_a).toNatClampNeg) v_b))), (a0_refused, .inl (E 0, 8, .inl (fun _ => 0)))] := hD
        refine lv_iconst (v := 1) hx hb dX7_show_55 (by decide) ?_
        refine W.widen (k := 0) (n := 0) (Nat.le_of_ble_eq_true rfl) (Nat.le_of_ble_eq_true rfl) ?_
        exact W.iret (v := 1) hx hb hr (fun t ht hW => ⟨⟨1, (), rfl, by unfold fX7_show; rw [if_neg c_1, if_pos c_2, if_neg c_3], ⟨by rw [ht]; exact hP.sub [] rfl, hD.sub [] (by decide) rfl⟩⟩, hS.F ht⟩) hS.2.2 dX7_show_56
      · refine lv_iconst (v := 0) hx hb dX7_show_42 (by decide) ?_
        refine lv_goto (tgt := 47) hx hb dX7_show_43 (by decide) ?_
        refine va_iast hx hb hK hP hD hS 1 0 rfl rfl (oh_wln c_1 (by decide)) dX7_show_47 (fun H locs hP hD hS => ?_)
        have hP : va_P D vwCl [(a0, .inr (7, [.ref a0_shelf, .ref a0_rowSort, .ref a0_rowSize, .ref a0_rows, .ref a0_moved, .ref a0_shown, .ref a0_tape, .int 0, .ref a0_refused, .int 0, .ref a0_road, .int 0, .ref a0_bridge, .int 0, .ref a0_waggon, .int 0, .ref a0_part, .ref a0_asked, .ref a0_under, .int 0, .null, .int 0, .int 0, .int 0, .long 0, .int 0, .int 0, .ref a0_far, .int 0])), (a0_shelf, .inl (E 0, 8, .inl (upd (fun _ => 0) ((v_a).toNatClampNeg) 0))), (a0_shown, .inl (E 0, 8, .inl (fun _ => 0))), (a0_refused, .inl (E 0, 8, .inl (fun _ => 0)))] H := hP
        have hD : va_D A [(a0, .inr (7, [.ref a0_shelf, .ref a0_rowSort, .ref a0_rowSize, .ref a0_rows, .ref a0_moved, .ref a0_shown, .ref a0_tape, .int 0, .ref a0_refused, .int 0, .ref a0_road, .int 0, .ref a0_bridge, .int 0, .ref a0_waggon, .int 0, .ref a0_part, .ref a0_asked, .ref a0_under, .int 0, .null, .int 0, .int 0, .int 0, .long 0, .int 0, .int 0, .ref a0_far, .int 0])), (a0_shelf, .inl (E 0, 8, .inl (upd (fun _ => 0) ((v_a).toNatClampNeg) 0))), (a0_shown, .inl (E 0, 8, .inl (fun _ => 0))), (a0_refused, .inl (E 0, 8, .inl (fun _ => 0)))] := hD
        refine lv_aload_n hx hb dX7_show_48 rfl (lv_at hl 0 rfl) ?_
        refine va_get (D := D) (ci := 7) (v := .ref a0_shown) (C := RX7) (T := TX7) (N := 29) hx hb htg ig_7 hown hK hP 0 rfl rfl 5 (by decide) (htg _ q_978) (fun _ h9 => h9) rfl dX7_show_49 ?_
        refine lv_iload_n hx hb dX7_show_52 rfl (lv_at hl 1 rfl) ?_
        refine lv_iload_n hx hb dX7_show_53 rfl (lv_at hl 2 rfl) ?_
        refine va_iast hx hb hK hP hD hS 2 0 rfl rfl (oh_wln c_1 (by decide)) dX7_show_54 (fun H locs hP hD hS => ?_)
        have hP : va_P D vwCl [(a0, .inr (7, [.ref a0_shelf, .ref a0_rowSort, .ref a0_rowSize, .ref a0_rows, .ref a0_moved, .ref a0_shown, .ref a0_tape, .int 0, .ref a0_refused, .int 0, .ref a0_road, .int 0, .ref a0_bridge, .int 0, .ref a0_waggon, .int 0, .ref a0_part, .ref a0_asked, .ref a0_under, .int 0, .null, .int 0, .int 0, .int 0, .long 0, .int 0, .int 0, .ref a0_far, .int 0])), (a0_shelf, .inl (E 0, 8, .inl (upd (fun _ => 0) ((v_a).toNatClampNeg) 0))), (a0_shown, .inl (E 0, 8, .inl (upd (fun _ => 0) ((v_a).toNatClampNeg) v_b))), (a0_refused, .inl (E 0, 8, .inl (fun _ => 0)))] H := hP
        have hD : va_D A [(a0, .inr (7, [.ref a0_shelf, .ref a0_rowSort, .ref a0_rowSize, .ref a0_rows, .ref a0_moved, .ref a0_shown, .ref a0_tape, .int 0, .ref a0_refused, .int 0, .ref a0_road, .int 0, .ref a0_bridge, .int 0, .ref a0_waggon, .int 0, .ref a0_part, .ref a0_asked, .ref a0_under, .int 0, .null, .int 0, .int 0, .int 0, .long 0, .int 0, .int 0, .ref a0_far, .int 0])), (a0_shelf, .inl (E 0, 8, .inl (upd (fun _ => 0) ((v_a).toNatClampNeg) 0))), (a0_shown, .inl (E 0, 8, .inl (upd (fun _ => 0) ((v_a).toNatClampNeg) v_b))), (a0_refused, .inl (E 0, 8, .inl (fun _ => 0)))] := hD
        refine lv_iconst (v := 1) hx hb dX7_show_55 (by decide) ?_
        refine W.widen (k := 0) (n := 0) (Nat.le_of_ble_eq_true rfl) (Nat.le_of_ble_eq_true rfl) ?_
        exact W.iret (v := 1) hx hb hr (fun t ht hW => ⟨⟨1, (), rfl, by unfold fX7_show; rw [if_neg c_1, if_pos c_2, if_pos c_3], ⟨by rw [ht]; exact hP.sub [] rfl, hD.sub [] (by decide) rfl⟩⟩, hS.F ht⟩) hS.2.2 dX7_show_56
    · refine lv_aload_n hx hb dX7_show_17 rfl (lv_at hl 0 rfl) ?_
      refine lv_iload_n hx hb dX7_show_18 rfl (lv_at hl 2 rfl) ?_
      refine oh_pV (As := [.int v_b]) (rest := []) (v := 0) ⟨hx, hb, hml, hown, htg⟩ (k_X7_isBridge l D E G a0 v_b a0_shelf a0_rowSort a0_rowSize a0_rows a0_moved a0_shown a0_tape a0_refused a0_road a0_bridge a0_waggon a0_part a0_asked a0_under a0_far) (cwV 1 htg (oh_gV q_1098 q_1100 q_30 q_73 q_1101) rfl rfl rfl pdVX7_isBridge ⟨Nat.le_of_ble_eq_true rfl, Nat.le_of_ble_eq_true rfl⟩) hK (hP.sub (ws' := [(a0, .inr (7, [.ref a0_shelf, .ref a0_rowSort, .ref a0_rowSize, .ref a0_rows, .ref a0_moved, .ref a0_shown, .ref a0_tape, .int 0, .ref a0_refused, .int 0, .ref a0_road, .int 0, .ref a0_bridge, .int 0, .ref a0_waggon, .int 0, .ref a0_part, .ref a0_asked, .ref a0_under, .int 0, .null, .int 0, .int 0, .int 0, .long 0, .int 0, .int 0, .ref a0_far, .int 0]))]) [0] rfl) hG hS (va_recv hK hP (ci := 7) (q0 := 0) rfl rfl) rfl hl.1 rfl (Nat.le_of_ble_eq_true rfl) dX7_show_19 ⟨Nat.le_of_ble_eq_true rfl, Nat.le_of_ble_eq_true rfl⟩ ?_
      refine lv_if_ne (tgt := 32) hx hb dX7_show_22 (by decide) (fun c => absurd (show (0 : Int32) = 0 from by decide) c) (fun _ => ?_)
      refine lv_aload_n hx hb dX7_show_25 rfl (lv_at hl 0 rfl) ?_
      refine lv_bipush (v := (-2)) hx hb dX7_show_26 (by decide) ?_
      refine oh_mV (As := [.int (-2)]) (rest := []) (wr := [(a0_shelf, .inl (E 0, 8, .inl (fun _ => 0))), (a0_shown, .inl (E 0, 8, .inl (fun _ => 0)))]) ⟨hx, hb, hml, hown, htg⟩ (c_X7_refuse l D E G s.heap.size a0 (-2) a0_shelf a0_rowSort a0_rowSize a0_rows a0_moved a0_shown a0_tape a0_refused a0_road a0_bridge a0_waggon a0_part a0_asked a0_under a0_far (show vp_in (-(-2)) 8 by unfold vp_in; decide)) (cwV 1 htg (oh_gV q_1071 q_1073 q_29 q_73 q_1074) rfl rfl rfl pdVX7_refuse ⟨Nat.le_of_ble_eq_true rfl, Nat.le_of_ble_eq_true rfl⟩) hK hP hD hG hS hA [0, 3] [1, 2] rfl rfl (by decide) (by decide) (by decide) (va_recv hK hP (ci := 7) (q0 := 0) rfl rfl) rfl hl.1 rfl (Nat.le_of_ble_eq_true rfl) dX7_show_28 ⟨Nat.le_of_ble_eq_true rfl, Nat.le_of_ble_eq_true rfl⟩ (fun r_2 u H locs hw hP hD hS => ?_)
      subst hw
      have hP : va_P D vwCl [(a0_shelf, .inl (E 0, 8, .inl (fun _ => 0))), (a0_shown, .inl (E 0, 8, .inl (fun _ => 0))), (a0, .inr (7, [.ref a0_shelf, .ref a0_rowSort, .ref a0_rowSize, .ref a0_rows, .ref a0_moved, .ref a0_shown, .ref a0_tape, .int 0, .ref a0_refused, .int 0, .ref a0_road, .int 0, .ref a0_bridge, .int 0, .ref a0_waggon, .int 0, .ref a0_part, .ref a0_asked, .ref a0_under, .int 0, .null, .int 0, .int 0, .int 0, .long 0, .int 0, .int 0, .ref a0_far, .int 0]))] H := hP
      have hD : va_D A [(a0_shelf, .inl (E 0, 8, .inl (fun _ => 0))), (a0_shown, .inl (E 0, 8, .inl (fun _ => 0))), (a0, .inr (7, [.ref a0_shelf, .ref a0_rowSort, .ref a0_rowSize, .ref a0_rows, .ref a0_moved, .ref a0_shown, .ref a0_tape, .int 0, .ref a0_refused, .int 0, .ref a0_road, .int 0, .ref a0_bridge, .int 0, .ref a0_waggon, .int 0, .ref a0_part, .ref a0_asked, .ref a0_under, .int 0, .null, .int 0, .int 0, .int 0, .long 0, .int 0, .int 0, .ref a0_far, .int 0]))] := hD
      refine W.widen (k := 0) (n := 0) (Nat.le_refl _) (Nat.le_refl _) ?_
      refine W.widen (k := 0) (n := 0) (Nat.le_of_ble_eq_true rfl) (Nat.le_of_ble_eq_true rfl) ?_
      exact W.iret (v := (-2)) hx hb hr (fun t ht hW => ⟨⟨(-2), (), rfl, by unfold fX7_show; rw [if_neg c_1, if_neg c_2], ⟨by rw [ht]; exact hP.sub [] rfl, hD.sub [] (by decide) rfl⟩⟩, hS.F ht⟩) hS.2.2 dX7_show_31
def fX7_says (v_a : Int32) (v_b : Int32) : Int32 :=
  if (fX7_in (Int32.toInt64 v_a) 0 7) = 0 then (-2) else if (fX7_in (Int32.toInt64 v_b) 0 5) = 0 then (-2) else (-4)
set_option maxHeartbeats 4000000 in
set_option maxRecDepth 100000 in
theorem c_X7_says (l : Launch) (D : va_G) (E : Nat → ClassId) (G : Nat → Nat) (sz : Nat) (a0 : Nat) (v_a : Int32) (v_b : Int32) (a0_shelf : Nat) (a0_rowSort : Nat) (a0_rowSize : Nat) (a0_rows : Nat) (a0_moved : Nat) (a0_shown : Nat) (a0_tape : Nat) (a0_refused : Nat) (a0_road : Nat) (a0_bridge : Nat) (a0_waggon : Nat) (a0_part : Nat) (a0_asked : Nat) (a0_under : Nat) (a0_far : Nat) : Met l yX7_says (oh_w yX7_says cX7_says 4 (some .int)) ({ frames := 1, cells := 0, slots := 0, locals := 25 }) (oh_Pm D E G [.ref a0, .int v_a, .int v_b] [(a0, .inr (7, [.ref a0_shelf, .ref a0_rowSort, .ref a0_rowSize, .ref a0_rows, .ref a0_moved, .ref a0_shown, .ref a0_tape, .int 0, .ref a0_refused, .int 0, .ref a0_road, .int 0, .ref a0_bridge, .int 0, .ref a0_waggon, .int 0, .ref a0_part, .ref a0_asked, .ref a0_under, .int 0, .null, .int 0, .int 0, .int 0, .long 0, .int 0, .int 0, .ref a0_far, .int 0])), (a0_shelf, .inl (E 0, 8, .inl (fun _ => 0))), (a0_refused, .inl (E 0, 8, .inl (fun _ => 0)))] sz) (va_Qi (fun r (_ : Unit) => r = fX7_says v_a v_b) (oh_B D (va_A [(a0, .inr (7, [.ref a0_shelf, .ref a0_rowSort, .ref a0_rowSize, .ref a0_rows, .ref a0_moved, .ref a0_shown, .ref a0_tape, .int 0, .ref a0_refused, .int 0, .ref a0_road, .int 0, .ref a0_bridge, .int 0, .ref a0_waggon, .int 0, .ref a0_part, .ref a0_asked, .ref a0_under, .int 0, .null, .int 0, .int 0, .int 0, .long 0, .int 0, .int 0, .ref a0_far, .int 0])), (a0_shelf, .inl (E 0, 8, .inl (fun _ => 0))), (a0_refused, .inl (E 0, 8, .inl (fun _ => 0)))] sz) (fun _ => [])) (va_A [(a0, .inr (7, [.ref a0_shelf, .ref a0_rowSort, .ref a0_rowSize, .ref a0_rows, .ref a0_moved, .ref a0_shown, .ref a0_tape, .int 0, .ref a0_refused, .int 0, .ref a0_road, .int 0, .ref a0_bridge, .int 0, .ref a0_waggon, .int 0, .ref a0_part, .ref a0_asked, .ref a0_under, .int 0, .null, .int 0, .int 0, .int 0, .long 0, .int 0, .int 0, .ref a0_far, .int 0])), (a0_shelf, .inl (E 0, 8, .inl (fun _ => 0))), (a0_refused, .inl (E 0, 8, .inl (fun _ => 0)))] sz)) 0 0 (va_A [(a0, .inr (7, [.ref a0_shelf, .ref a0_rowSort, .ref a0_rowSize, .ref a0_rows, .ref a0_moved, .ref a0_shown, .ref a0_tape, .int 0, .ref a0_refused, .int 0, .ref a0_road, .int 0, .ref a0_bridge, .int 0, .ref a0_waggon, .int 0, .ref a0_part, .ref a0_asked, .ref a0_under, .int 0, .null, .int 0, .int 0, .int 0, .long 0, .int 0, .int 0, .ref a0_far, .int 0])), (a0_shelf, .inl (E 0, 8, .inl (fun _ => 0))), (a0_refused, .inl (E 0, 8, .inl (fun _ => 0)))] sz) := by
  refine Met.ofW (cc := cX7_says) (maxL := 4) (ret := (some .int)) (by decide) rfl ?_
  intro p e s m args below meth c s₁ B hml hv
  obtain ⟨rfl, hsz, hP, hK, hD0, hG⟩ := hv
  have hx := B.exec
  have hb := B.bytes
  have hr := B.returns
  have hts := atoms_spec (ws := (oh_w yX7_says cX7_says 4 (some .int))) B.pre
  have htg : ∀ w ∈ oh_t, w.before _ s = true := fun w h => hts w (List.mem_cons_of_mem _ h)
  have hown : s.vm.findClass RX7 = some m.cls := findClass_of_methodNamed B.named
  have hlocks := B.notSynchronized
  subst hsz
  have hD := hD0.self (sz := s.heap.size)
  generalize hAe : va_A [(a0, .inr (7, [.ref a0_shelf, .ref a0_rowSort, .ref a0_rowSize, .ref a0_rows, .ref a0_moved, .ref a0_shown, .ref a0_tape, .int 0, .ref a0_refused, .int 0, .ref a0_road, .int 0, .ref a0_bridge, .int 0, .ref a0_waggon, .int 0, .ref a0_part, .ref a0_asked, .ref a0_under, .int 0, .null, .int 0, .int 0, .int 0, .long 0, .int 0, .int 0, .ref a0_far, .int 0])), (a0_shelf, .inl (E 0, 8, .inl (fun _ => 0))), (a0_refused, .inl (E 0, 8, .inl (fun _ => 0)))] s.heap.size = A at hD hG ⊢
  have hA : ∀ q : Nat, s.heap.size ≤ q → A q := fun q h => by rw [← hAe]; exact Or.inr h
  have hS : va_S A s.heap s.heap [] := va_S.rf
  have hP : va_P D vwCl [(a0, .inr (7, [.ref a0_shelf, .ref a0_rowSort, .ref a0_rowSize, .ref a0_rows, .ref a0_moved, .ref a0_shown, .ref a0_tape, .int 0, .ref a0_refused, .int 0, .ref a0_road, .int 0, .ref a0_bridge, .int 0, .ref a0_waggon, .int 0, .ref a0_part, .ref a0_asked, .ref a0_under, .int 0, .null, .int 0, .int 0, .int 0, .long 0, .int 0, .int 0, .ref a0_far, .int 0])), (a0_shelf, .inl (E 0, 8, .inl (fun _ => 0))), (a0_refused, .inl (E 0, 8, .inl (fun _ => 0)))] s.heap := hP
  have hl := lv_entry ([.ref a0, .int v_a, .int v_b]) (n := 4) (Nat.le_of_ble_eq_true rfl)
  rw [lg_entry_eq]
  generalize (lg_sl ([.ref a0, .int v_a, .int v_b]) ++ List.replicate (4 - (lg_sl ([.ref a0, .int v_a, .int v_b])).length) Slot.unset).toArray = ls at hl ⊢
  have hl : lv_has ls 4 [(0, .ref a0), (1, .int v_a), (2, .int v_b)] := hl
  refine lv_iload_n hx hb dX7_says_0 rfl (lv_at hl 1 rfl) ?_
  refine lv_i2l (v := Int32.toInt64 v_a) hx hb dX7_says_1 (by rfl) ?_
  refine lv_lconst (v := 0) hx hb dX7_says_2 (by decide) ?_
  refine lv_ldc2 (v := 7) hx hb hown (htg _ q_1065) dX7_says_3 ?_
  refine oh_pS (As := [.long (Int32.toInt64 v_a), .long 0, .long 7]) (rest := []) (v := fX7_in (Int32.toInt64 v_a) 0 7) ⟨hx, hb, hml, hown, htg⟩ (c_X7_in l D E G (Int32.toInt64 v_a) 0 7) (va_cwS 3 htg (oh_gS q_1066 q_1067 q_73 q_1068) rfl rfl rfl pdX7_in ⟨Nat.le_of_ble_eq_true rfl, Nat.le_of_ble_eq_true rfl⟩) hK (hP.sub (ws' := []) [] rfl) hG hS rfl hl.1 rfl (Nat.le_of_ble_eq_true rfl) dX7_says_6 ⟨Nat.le_of_ble_eq_true rfl, Nat.le_of_ble_eq_true rfl⟩ ?_
  refine lv_if_eq (tgt := 24) hx hb dX7_says_9 (by decide) (fun (c_1 : (fX7_in (Int32.toInt64 v_a) 0 7) = 0) => ?_) (fun (c_1 : ¬ ((fX7_in (Int32.toInt64 v_a) 0 7) = 0)) => ?_)
  · refine lv_aload_n hx hb dX7_says_24 rfl (lv_at hl 0 rfl) ?_
    refine lv_bipush (v := (-2)) hx hb dX7_says_25 (by decide) ?_
    refine oh_mV (As := [.int (-2)]) (rest := []) (wr := [(a0_shelf, .inl (E 0, 8, .inl (fun _ => 0)))]) ⟨hx, hb, hml, hown, htg⟩ (c_X7_refuse l D E G s.heap.size a0 (-2) a0_shelf a0_rowSort a0_rowSize a0_rows a0_moved a0_shown a0_tape a0_refused a0_road a0_bridge a0_waggon a0_part a0_asked a0_under a0_far (show vp_in (-(-2)) 8 by unfold vp_in; decide)) (cwV 1 htg (oh_gV q_1071 q_1073 q_29 q_73 q_1074) rfl rfl rfl pdVX7_refuse ⟨Nat.le_of_ble_eq_true rfl, Nat.le_of_ble_eq_true rfl⟩) hK hP hD hG hS hA [0, 2] [1] rfl rfl (by decide) (by decide) (by decide) (va_recv hK hP (ci := 7) (q0 := 0) rfl rfl) rfl hl.1 rfl (Nat.le_of_ble_eq_true rfl) dX7_says_27 ⟨Nat.le_of_ble_eq_true rfl, Nat.le_of_ble_eq_true rfl⟩ (fun r_1 u H locs hw hP hD hS => ?_)
    subst hw
    have hP : va_P D vwCl [(a0_shelf, .inl (E 0, 8, .inl (fun _ => 0))), (a0, .inr (7, [.ref a0_shelf, .ref a0_rowSort, .ref a0_rowSize, .ref a0_rows, .ref a0_moved, .ref a0_shown, .ref a0_tape, .int 0, .ref a0_refused, .int 0, .ref a0_road, .int 0, .ref a0_bridge, .int 0, .ref a0_waggon, .int 0, .ref a0_part, .ref a0_asked, .ref a0_under, .int 0, .null, .int 0, .int 0, .int 0, .long 0, .int 0, .int 0, .ref a0_far, .int 0]))] H := hP
    have hD : va_D A [(a0_shelf, .inl (E 0, 8, .inl (fun _ => 0))), (a0, .inr (7, [.ref a0_shelf, .ref a0_rowSort, .ref a0_rowSize, .ref a0_rows, .ref a0_moved, .ref a0_shown, .ref a0_tape, .int 0, .ref a0_refused, .int 0, .ref a0_road, .int 0, .ref a0_bridge, .int 0, .ref a0_waggon, .int 0, .ref a0_part, .ref a0_asked, .ref a0_under, .int 0, .null, .int 0, .int 0, .int 0, .long 0, .int 0, .int 0, .ref a0_far, .int 0]))] := hD
    refine W.widen (k := 0) (n := 0) (Nat.le_refl _) (Nat.le_refl _) ?_
    refine W.widen (k := 0) (n := 0) (Nat.le_of_ble_eq_true rfl) (Nat.le_of_ble_eq_true rfl) ?_
    exact W.iret (v := (-2)) hx hb hr (fun t ht hW => ⟨⟨(-2), (), rfl, by unfold fX7_says; rw [if_pos c_1], ⟨by rw [ht]; exact hP.sub [] rfl, hD.sub [] (by decide) rfl⟩⟩, hS.F ht⟩) hS.2.2 dX7_says_30
  · refine lv_iload_n hx hb dX7_says_12 rfl (lv_at hl 2 rfl) ?_
    refine lv_i2l (v := Int32.toInt64 v_b) hx hb dX7_says_13 (by rfl) ?_
    refine lv_lconst (v := 0) hx hb dX7_says_14 (by decide) ?_
    refine lv_ldc2 (v := 5) hx hb hown (htg _ q_1106) dX7_says_15 ?_
    refine oh_pS (As := [.long (Int32.toInt64 v_b), .long 0, .long 5]) (rest := []) (v := fX7_in (Int32.toInt64 v_b) 0 5) ⟨hx, hb, hml, hown, htg⟩ (c_X7_in l D E G (Int32.toInt64 v_b) 0 5) (va_cwS 3 htg (oh_gS q_1066 q_1067 q_73 q_1068) rfl rfl rfl pdX7_in ⟨Nat.le_of_ble_eq_true rfl, Nat.le_of_ble_eq_true rfl⟩) hK (hP.sub (ws' := []) [] rfl) hG hS rfl hl.1 rfl (Nat.le_of_ble_eq_true rfl) dX7_says_18 ⟨Nat.le_of_ble_eq_true rfl, Nat.le_of_ble_eq_true rfl⟩ ?_
    refine lv_if_ne (tgt := 31) hx hb dX7_says_21 (by decide) (fun (c_2 : ¬ ((fX7_in (Int32.toInt64 v_b) 0 5) = 0)) => ?_) (fun (c_2 : (fX7_in (Int32.toInt64 v_b) 0 5) = 0) => ?_)
    · refine lv_aload_n hx hb dX7_says_31 rfl (lv_at hl 0 rfl) ?_
      refine va_get (D := D) (ci := 7) (v := .ref a0_shelf) (C := RX7) (T := TX7) (N := 29) hx hb htg ig_7 hown hK hP 0 rfl rfl 0 (by decide) (htg _ q_973) (fun _ h9 => h9) rfl dX7_says_32 ?_
      refine lv_iload_n hx hb dX7_says_35 rfl (lv_at hl 1 rfl) ?_
      refine va_iald hx hb hK hP 1 0 rfl rfl (oh_wln c_1 (by decide)) dX7_says_36 ?_
      refine oh_nrm (v := 0) (by rfl) ?_
      refine lv_iconst (v := 1) hx hb dX7_says_37 (by decide) ?_
      refine lv_icmp_eq (tgt := 71) hx hb dX7_says_38 (by decide) (fun c => absurd c (show ¬ ((0 : Int32) = 1) from by decide)) (fun _ => ?_)
      refine lv_aload_n hx hb dX7_says_41 rfl (lv_at hl 0 rfl) ?_
      refine va_get (D := D) (ci := 7) (v := .ref a0_shelf) (C := RX7) (T := TX7) (N := 29) hx hb htg ig_7 hown hK hP 0 rfl rfl 0 (by decide) (htg _ q_973) (fun _ h9 => h9) rfl dX7_says_42 ?_
      refine lv_iload_n hx hb dX7_says_45 rfl (lv_at hl 1 rfl) ?_
      refine va_iald hx hb hK hP 1 0 rfl rfl (oh_wln c_1 (by decide)) dX7_says_46 ?_
      refine oh_nrm (v := 0) (by rfl) ?_
      refine lv_iconst (v := 2) hx hb dX7_says_47 (by decide) ?_
      refine lv_icmp_ne (tgt := 78) hx hb dX7_says_48 (by decide) (fun _ => ?_) (fun c => absurd c (show ¬ ((0 : Int32) = 2) from by decide))
      refine lv_aload_n hx hb dX7_says_78 rfl (lv_at hl 0 rfl) ?_
      refine va_get (D := D) (ci := 7) (v := .ref a0_shelf) (C := RX7) (T := TX7) (N := 29) hx hb htg ig_7 hown hK hP 0 rfl rfl 0 (by decide) (htg _ q_973) (fun _ h9 => h9) rfl dX7_says_79 ?_
      refine lv_iload_n hx hb dX7_says_82 rfl (lv_at hl 1 rfl) ?_
      refine va_iald hx hb hK hP 1 0 rfl rfl (oh_wln c_1 (by decide)) dX7_says_83 ?_
      refine oh_nrm (v := 0) (by rfl) ?_
      refine lv_if_ne (tgt := 94) hx hb dX7_says_84 (by decide) (fun c => absurd (show (0 : Int32) = 0 from by decide) c) (fun _ => ?_)
      refine lv_aload_n hx hb dX7_says_87 rfl (lv_at hl 0 rfl) ?_
      refine lv_bipush (v := (-4)) hx hb dX7_says_88 (by decide) ?_
      refine oh_mV (As := [.int (-4)]) (rest := []) (wr := [(a0_shelf, .inl (E 0, 8, .inl (fun _ => 0)))]) ⟨hx, hb, hml, hown, htg⟩ (c_X7_refuse l D E G s.heap.size a0 (-4) a0_shelf a0_rowSort a0_rowSize a0_rows a0_moved a0_shown a0_tape a0_refused a0_road a0_bridge a0_waggon a0_part a0_asked a0_under a0_far (show vp_in (-(-4)) 8 by unfold vp_in; decide)) (cwV 1 htg (oh_gV q_1071 q_1073 q_29 q_73 q_1074) rfl rfl rfl pdVX7_refuse ⟨Nat.le_of_ble_eq_true rfl, Nat.le_of_ble_eq_true rfl⟩) hK hP hD hG hS hA [0, 2] [1] rfl rfl (by decide) (by decide) (by decide) (va_recv hK hP (ci := 7) (q0 := 0) rfl rfl) rfl hl.1 rfl (Nat.le_of_ble_eq_true rfl) dX7_says_90 ⟨Nat.le_of_ble_eq_true rfl, Nat.le_of_ble_eq_true rfl⟩ (fun r_2 u H locs hw hP hD hS => ?_)
      subst hw
      have hP : va_P D vwCl [(a0_shelf, .inl (E 0, 8, .inl (fun _ => 0))), (a0, .inr (7, [.ref a0_shelf, .ref a0_rowSort, .ref a0_rowSize, .ref a0_rows, .ref a0_moved, .ref a0_shown, .ref a0_tape, .int 0, .ref a0_refused, .int 0, .ref a0_road, .int 0, .ref a0_bridge, .int 0, .ref a0_waggon, .int 0, .ref a0_part, .ref a0_asked, .ref a0_under, .int 0, .null, .int 0, .int 0, .int 0, .long 0, .int 0, .int 0, .ref a0_far, .int 0]))] H := hP
      have hD : va_D A [(a0_shelf, .inl (E 0, 8, .inl (fun _ => 0))), (a0, .inr (7, [.ref a0_shelf, .ref a0_rowSort, .ref a0_rowSize, .ref a0_rows, .ref a0_moved, .ref a0_shown, .ref a0_tape, .int 0, .ref a0_refused, .int 0, .ref a0_road, .int 0, .ref a0_bridge, .int 0, .ref a0_waggon, .int 0, .ref a0_part, .ref a0_asked, .ref a0_under, .int 0, .null, .int 0, .int 0, .int 0, .long 0, .int 0, .int 0, .ref a0_far, .int 0]))] := hD
      refine W.widen (k := 0) (n := 0) (Nat.le_refl _) (Nat.le_refl _) ?_
      refine W.widen (k := 0) (n := 0) (Nat.le_of_ble_eq_true rfl) (Nat.le_of_ble_eq_true rfl) ?_
      exact W.iret (v := (-4)) hx hb hr (fun t ht hW => ⟨⟨(-4), (), rfl, by unfold fX7_says; rw [if_neg c_1, if_neg c_2], ⟨by rw [ht]; exact hP.sub [] rfl, hD.sub [] (by decide) rfl⟩⟩, hS.F ht⟩) hS.2.2 dX7_says_93
    · refine lv_aload_n hx hb dX7_says_24 rfl (lv_at hl 0 rfl) ?_
      refine lv_bipush (v := (-2)) hx hb dX7_says_25 (by decide) ?_
      refine oh_mV (As := [.int (-2)]) (rest := []) (wr := [(a0_shelf, .inl (E 0, 8, .inl (fun _ => 0)))]) ⟨hx, hb, hml, hown, htg⟩ (c_X7_refuse l D E G s.heap.size a0 (-2) a0_shelf a0_rowSort a0_rowSize a0_rows a0_moved a0_shown a0_tape a0_refused a0_road a0_bridge a0_waggon a0_part a0_asked a0_under a0_far (show vp_in (-(-2)) 8 by unfold vp_in; decide)) (cwV 1 htg (oh_gV q_1071 q_1073 q_29 q_73 q_1074) rfl rfl rfl pdVX7_refuse ⟨Nat.le_of_ble_eq_true rfl, Nat.le_of_ble_eq_true rfl⟩) hK hP hD hG hS hA [0, 2] [1] rfl rfl (by decide) (by decide) (by decide) (va_recv hK hP (ci := 7) (q0 := 0) rfl rfl) rfl hl.1 rfl (Nat.le_of_ble_eq_true rfl) dX7_says_27 ⟨Nat.le_of_ble_eq_true rfl, Nat.le_of_ble_eq_true rfl⟩ (fun r_3 u H locs hw hP hD hS => ?_)
      subst hw
      have hP : va_P D vwCl [(a0_shelf, .inl (E 0, 8, .inl (fun _ => 0))), (a0, .inr (7, [.ref a0_shelf, .ref a0_rowSort, .ref a0_rowSize, .ref a0_rows, .ref a0_moved, .ref a0_shown, .ref a0_tape, .int 0, .ref a0_refused, .int 0, .ref a0_road, .int 0, .ref a0_bridge, .int 0, .ref a0_waggon, .int 0, .ref a0_part, .ref a0_asked, .ref a0_under, .int 0, .null, .int 0, .int 0, .int 0, .long 0, .int 0, .int 0, .ref a0_far, .int 0]))] H := hP
      have hD : va_D A [(a0_shelf, .inl (E 0, 8, .inl (fun _ => 0))), (a0, .inr (7, [.ref a0_shelf, .ref a0_rowSort, .ref a0_rowSize, .ref a0_rows, .ref a0_moved, .ref a0_shown, .ref a0_tape, .int 0, .ref a0_refused, .int 0, .ref a0_road, .int 0, .ref a0_bridge, .int 0, .ref a0_waggon, .int 0, .ref a0_part, .ref a0_asked, .ref a0_under, .int 0, .null, .int 0, .int 0, .int 0, .long 0, .int 0, .int 0, .ref a0_far, .int 0]))] := hD
      refine W.widen (k := 0) (n := 0) (Nat.le_refl _) (Nat.le_refl _) ?_
      refine W.widen (k := 0) (n := 0) (Nat.le_of_ble_eq_true rfl) (Nat.le_of_ble_eq_true rfl) ?_
      exact W.iret (v := (-2)) hx hb hr (fun t ht hW => ⟨⟨(-2), (), rfl, by unfold fX7_says; rw [if_neg c_1, if_pos c_2], ⟨by rw [ht]; exact hP.sub [] rfl, hD.sub [] (by decide) rfl⟩⟩, hS.F ht⟩) hS.2.2 dX7_says_30
set_option maxHeartbeats 4000000 in
set_option maxRecDepth 100000 in
theorem c_X7_bridge (l : Launch) (D : va_G) (E : Nat → ClassId) (G : Nat → Nat) (sz : Nat) (a0 : Nat) (v_a : Int32) (v_b : Int32) (v_c : Int32) (v_d : Int32) (v_e : Int32) (a0_shelf : Nat) (a0_rowSort : Nat) (a0_rowSize : Nat) (a0_rows : Nat) (a0_moved : Nat) (a0_shown : Nat) (a0_tape : Nat) (a0_refused : Nat) (a0_road : Nat) (a0_bridge : Nat) (a0_waggon : Nat) (a0_part : Nat) (a0_asked : Nat) (a0_under : Nat) (a0_far : Nat) : Met l yX7_bridge (oh_w yX7_bridge cX7_bridge 6 (some .int)) ({ frames := 2, cells := 0, slots := 0, locals := 46 }) (oh_Pm D E G [.ref a0, .int v_a, .int v_b, .int v_c, .int v_d, .int v_e] [(a0, .inr (7, [.ref a0_shelf, .ref a0_rowSort, .ref a0_rowSize, .ref a0_rows, .ref a0_moved, .ref a0_shown, .ref a0_tape, .int 0, .ref a0_refused, .int 0, .ref a0_road, .int 0, .ref a0_bridge, .int 0, .ref a0_waggon, .int 0, .ref a0_part, .ref a0_asked, .ref a0_under, .int 0, .null, .int 0, .int 0, .int 0, .long 0, .int 0, .int 0, .ref a0_far, .int 0])), (a0_refused, .inl (E 0, 8, .inl (fun _ => 0)))] sz) (va_Qi (fun r (_ : Unit) => r = (-2)) (oh_B D (va_A [(a0, .inr (7, [.ref a0_shelf, .ref a0_rowSort, .ref a0_rowSize, .ref a0_rows, .ref a0_moved, .ref a0_shown, .ref a0_tape, .int 0, .ref a0_refused, .int 0, .ref a0_road, .int 0, .ref a0_bridge, .int 0, .ref a0_waggon, .int 0, .ref a0_part, .ref a0_asked, .ref a0_under, .int 0, .null, .int 0, .int 0, .int 0, .long 0, .int 0, .int 0, .ref a0_far, .int 0])), (a0_refused, .inl (E 0, 8, .inl (fun _ => 0)))] sz) (fun _ => [])) (va_A [(a0, .inr (7, [.ref a0_shelf, .ref a0_rowSort, .ref a0_rowSize, .ref a0_rows, .ref a0_moved, .ref a0_shown, .ref a0_tape, .int 0, .ref a0_refused, .int 0, .ref a0_road, .int 0, .ref a0_bridge, .int 0, .ref a0_waggon, .int 0, .ref a0_part, .ref a0_asked, .ref a0_under, .int 0, .null, .int 0, .int 0, .int 0, .long 0, .int 0, .int 0, .ref a0_far, .int 0])), (a0_refused, .inl (E 0, 8, .inl (fun _ => 0)))] sz)) 0 0 (va_A [(a0, .inr (7, [.ref a0_shelf, .ref a0_rowSort, .ref a0_rowSize, .ref a0_rows, .ref a0_moved, .ref a0_shown, .ref a0_tape, .int 0, .ref a0_refused, .int 0, .ref a0_road, .int 0, .ref a0_bridge, .int 0, .ref a0_waggon, .int 0, .ref a0_part, .ref a0_asked, .ref a0_under, .int 0, .null, .int 0, .int 0, .int 0, .long 0, .int 0, .int 0, .ref a0_far, .int 0])), (a0_refused, .inl (E 0, 8, .inl (fun _ => 0)))] sz) := by
  refine Met.ofW (cc := cX7_bridge) (maxL := 6) (ret := (some .int)) (by decide) rfl ?_
  intro p e s m args below meth c s₁ B hml hv
  obtain ⟨rfl, hsz, hP, hK, hD0, hG⟩ := hv
  have hx := B.exec
  have hb := B.bytes
  have hr := B.returns
  have hts := atoms_spec (ws := (oh_w yX7_bridge cX7_bridge 6 (some .int))) B.pre
  have htg : ∀ w ∈ oh_t, w.before _ s = true := fun w h => hts w (List.mem_cons_of_mem _ h)
  have hown : s.vm.findClass RX7 = some m.cls := findClass_of_methodNamed B.named
  have hlocks := B.notSynchronized
  subst hsz
  have hD := hD0.self (sz := s.heap.size)
  generalize hAe : va_A [(a0, .inr (7, [.ref a0_shelf, .ref a0_rowSort, .ref a0_rowSize, .ref a0_rows, .ref a0_moved, .ref a0_shown, .ref a0_tape, .int 0, .ref a0_refused, .int 0, .ref a0_road, .int 0, .ref a0_bridge, .int 0, .ref a0_waggon, .int 0, .ref a0_part, .ref a0_asked, .ref a0_under, .int 0, .null, .int 0, .int 0, .int 0, .long 0, .int 0, .int 0, .ref a0_far, .int 0])), (a0_refused, .inl (E 0, 8, .inl (fun _ => 0)))] s.heap.size = A at hD hG ⊢
  have hA : ∀ q : Nat, s.heap.size ≤ q → A q := fun q h => by rw [← hAe]; exact Or.inr h
  have hS : va_S A s.heap s.heap [] := va_S.rf
  have hP : va_P D vwCl [(a0, .inr (7, [.ref a0_shelf, .ref a0_rowSort, .ref a0_rowSize, .ref a0_rows, .ref a0_moved, .ref a0_shown, .ref a0_tape, .int 0, .ref a0_refused, .int 0, .ref a0_road, .int 0, .ref a0_bridge, .int 0, .ref a0_waggon, .int 0, .ref a0_part, .ref a0_asked, .ref a0_under, .int 0, .null, .int 0, .int 0, .int 0, .long 0, .int 0, .int 0, .ref a0_far, .int 0])), (a0_refused, .inl (E 0, 8, .inl (fun _ => 0)))] s.heap := hP
  have hl := lv_entry ([.ref a0, .int v_a, .int v_b, .int v_c, .int v_d, .int v_e]) (n := 6) (Nat.le_of_ble_eq_true rfl)
  rw [lg_entry_eq]
  generalize (lg_sl ([.ref a0, .int v_a, .int v_b, .int v_c, .int v_d, .int v_e]) ++ List.replicate (6 - (lg_sl ([.ref a0, .int v_a, .int v_b, .int v_c, .int v_d, .int v_e])).length) Slot.unset).toArray = ls at hl ⊢
  have hl : lv_has ls 6 [(0, .ref a0), (1, .int v_a), (2, .int v_b), (3, .int v_c), (4, .int v_d), (5, .int v_e)] := hl
  refine lv_aload_n hx hb dX7_bridge_0 rfl (lv_at hl 0 rfl) ?_
  refine lv_iload_n hx hb dX7_bridge_1 rfl (lv_at hl 1 rfl) ?_
  refine oh_pV (As := [.int v_a]) (rest := []) (v := 0) ⟨hx, hb, hml, hown, htg⟩ (k_X7_isRoad l D E G a0 v_a a0_shelf a0_rowSort a0_rowSize a0_rows a0_moved a0_shown a0_tape a0_refused a0_road a0_bridge a0_waggon a0_part a0_asked a0_under a0_far) (cwV 1 htg (oh_gV q_1145 q_1147 q_36 q_73 q_1148) rfl rfl rfl pdVX7_isRoad ⟨Nat.le_of_ble_eq_true rfl, Nat.le_of_ble_eq_true rfl⟩) hK (hP.sub (ws' := [(a0, .inr (7, [.ref a0_shelf, .ref a0_rowSort, .ref a0_rowSize, .ref a0_rows, .ref a0_moved, .ref a0_shown, .ref a0_tape, .int 0, .ref a0_refused, .int 0, .ref a0_road, .int 0, .ref a0_bridge, .int 0, .ref a0_waggon, .int 0, .ref a0_part, .ref a0_asked, .ref a0_under, .int 0, .null, .int 0, .int 0, .int 0, .long 0, .int 0, .int 0, .ref a0_far, .int 0]))]) [0] rfl) hG hS (va_recv hK hP (ci := 7) (q0 := 0) rfl rfl) rfl hl.1 rfl (Nat.le_of_ble_eq_true rfl) dX7_bridge_2 ⟨Nat.le_of_ble_eq_true rfl, Nat.le_of_ble_eq_true rfl⟩ ?_
  refine lv_if_eq (tgt := 58) hx hb dX7_bridge_5 (by decide) (fun _ => ?_) (fun c => absurd (show (0 : Int32) = 0 from by decide) c)
  refine lv_aload_n hx hb dX7_bridge_58 rfl (lv_at hl 0 rfl) ?_
  refine lv_bipush (v := (-2)) hx hb dX7_bridge_59 (by decide) ?_
  refine oh_mV (As := [.int (-2)]) (rest := []) (wr := []) ⟨hx, hb, hml, hown, htg⟩ (c_X7_refuse l D E G s.heap.size a0 (-2) a0_shelf a0_rowSort a0_rowSize a0_rows a0_moved a0_shown a0_tape a0_refused a0_road a0_bridge a0_waggon a0_part a0_asked a0_under a0_far (show vp_in (-(-2)) 8 by unfold vp_in; decide)) (cwV 1 htg (oh_gV q_1071 q_1073 q_29 q_73 q_1074) rfl rfl rfl pdVX7_refuse ⟨Nat.le_of_ble_eq_true rfl, Nat.le_of_ble_eq_true rfl⟩) hK hP hD hG hS hA [0, 1] [] rfl rfl (by decide) (by decide) (by decide) (va_recv hK hP (ci := 7) (q0 := 0) rfl rfl) rfl hl.1 rfl (Nat.le_of_ble_eq_true rfl) dX7_bridge_61 ⟨Nat.le_of_ble_eq_true rfl, Nat.le_of_ble_eq_true rfl⟩ (fun r_1 u H locs hw hP hD hS => ?_)
  subst hw
  have hP : va_P D vwCl [(a0, .inr (7, [.ref a0_shelf, .ref a0_rowSort, .ref a0_rowSize, .ref a0_rows, .ref a0_moved, .ref a0_shown, .ref a0_tape, .int 0, .ref a0_refused, .int 0, .ref a0_road, .int 0, .ref a0_bridge, .int 0, .ref a0_waggon, .int 0, .ref a0_part, .ref a0_asked, .ref a0_under, .int 0, .null, .int 0, .int 0, .int 0, .long 0, .int 0, .int 0, .ref a0_far, .int 0]))] H := hP
  have hD : va_D A [(a0, .inr (7, [.ref a0_shelf, .ref a0_rowSort, .ref a0_rowSize, .ref a0_rows, .ref a0_moved, .ref a0_shown, .ref a0_tape, .int 0, .ref a0_refused, .int 0, .ref a0_road, .int 0, .ref a0_bridge, .int 0, .ref a0_waggon, .int 0, .ref a0_part, .ref a0_asked, .ref a0_under, .int 0, .null, .int 0, .int 0, .int 0, .long 0, .int 0, .int 0, .ref a0_far, .int 0]))] := hD
  refine W.widen (k := 0) (n := 0) (Nat.le_refl _) (Nat.le_refl _) ?_
  refine W.widen (k := 0) (n := 0) (Nat.le_of_ble_eq_true rfl) (Nat.le_of_ble_eq_true rfl) ?_
  exact W.iret (v := (-2)) hx hb hr (fun t ht hW => ⟨⟨(-2), (), rfl, rfl, ⟨by rw [ht]; exact hP.sub [] rfl, hD.sub [] (by decide) rfl⟩⟩, hS.F ht⟩) hS.2.2 dX7_bridge_64
