theorem oh_nb {v : Int32} (h : v = 0 ∨ v = 1) : narrow .boolean (.int v) = .int v := by
  rcases h with rfl | rfl <;> rfl
/-- the place of a column in a row of K -/
theorem oh_sh {v c k : Int32} {K N M : Nat} (hv : vp_in v N) (hc : vp_in c K) (hk : k = nI K) (hM : N * K = M) (hM2 : M < 2 ^ 31) : vp_in (v * k + c) M := by
  have hN : N < 2 ^ 31 ∨ K = 0 := by
    rcases Nat.eq_zero_or_pos K with h | h
    · exact Or.inr h
    · refine Or.inl (Nat.lt_of_le_of_lt ?_ hM2)
      rw [← hM]
      exact Nat.le_mul_of_pos_right N h
  rcases hN with hN | hK
  · by_cases hN0 : N = 0
    · subst hN0
      rw [vp_in_iff] at hv
      omega
    · have hK2 : K < 2 ^ 31 := Nat.lt_of_le_of_lt (by rw [← hM]; exact Nat.le_mul_of_pos_left K (by omega)) hM2
      obtain ⟨a, ha, rfl⟩ := vp_in_of hv hN
      obtain ⟨b, hb, rfl⟩ := vp_in_of hc hK2
      subst hk
      rw [pk_mul, nI_add]
      refine vp_in_nI ?_ hM2
      have h1 : a * K + b < (a + 1) * K := by rw [Nat.add_mul]; omega
      have h2 : (a + 1) * K ≤ N * K := Nat.mul_le_mul_right K ha
      omega
  · subst hK
    rw [vp_in_iff] at hc
    omega
def fX6_within (v_v : Int32) (v_a : Int32) (v_b : Int32) : Int32 :=
  if v_v < v_a then 0 else if v_b < v_v then 0 else 1
theorem fX6_within_b (v_v : Int32) (v_a : Int32) (v_b : Int32) : fX6_within v_v v_a v_b = 0 ∨ fX6_within v_v v_a v_b = 1 := by
  unfold fX6_within
  repeat' split
  all_goals first | exact Or.inl rfl | exact Or.inr rfl
set_option maxHeartbeats 4000000 in
set_option maxRecDepth 100000 in
theorem c_X6_within (l : Launch) (D : va_G) (E : Nat → ClassId) (G : Nat → Nat) (v_v : Int32) (v_a : Int32) (v_b : Int32) : Met l yX6_within (oh_w yX6_within cX6_within 3 (some .boolean)) ({ frames := 0, cells := 0, slots := 0, locals := 0 }) (oh_Pp D E G [.int v_v, .int v_a, .int v_b] []) (vp_Si (fun r => r = fX6_within v_v v_a v_b)) 0 0 (fun _ => False) := by
  refine Met.ofW (cc := cX6_within) (maxL := 3) (ret := (some .boolean)) (by decide) rfl ?_
  intro p e s m args below meth c s₁ B hml hv
  obtain ⟨rfl, hP, hK, hG⟩ := hv
  have hx := B.exec
  have hb := B.bytes
  have hr := B.returns
  have hts := atoms_spec (ws := (oh_w yX6_within cX6_within 3 (some .boolean))) B.pre
  have htg : ∀ w ∈ oh_t, w.before _ s = true := fun w h => hts w (List.mem_cons_of_mem _ h)
  have hown : s.vm.findClass RX6 = some m.cls := findClass_of_methodNamed B.named
  have hlocks := B.notSynchronized
  have hS : va_S (fun _ => False) s.heap s.heap [] := va_S.rf
  have hl := lv_entry ([.int v_v, .int v_a, .int v_b]) (n := 3) (Nat.le_of_ble_eq_true rfl)
  rw [lg_entry_eq]
  generalize (lg_sl ([.int v_v, .int v_a, .int v_b]) ++ List.replicate (3 - (lg_sl ([.int v_v, .int v_a, .int v_b])).length) Slot.unset).toArray = ls at hl ⊢
  have hl : lv_has ls 3 [(0, .int v_v), (1, .int v_a), (2, .int v_b)] := hl
  refine lv_iload_n hx hb dX6_within_0 rfl (lv_at hl 0 rfl) ?_
  refine lv_iload_n hx hb dX6_within_1 rfl (lv_at hl 1 rfl) ?_
  refine lv_icmp_lt (tgt := 14) hx hb dX6_within_2 (by decide) (fun (c_1 : v_v < v_a) => ?_) (fun (c_1 : ¬ (v_v < v_a)) => ?_)
  · refine lv_iconst (v := 0) hx hb dX6_within_14 (by decide) ?_
    exact W.zret (v := 0) (ty := .boolean) hx hb hr (by decide) (fun t ht hW => ⟨0, rfl, by unfold fX6_within; rw [if_pos c_1], ht⟩) (fun q h => by cases h) dX6_within_15
  · refine lv_iload_n hx hb dX6_within_5 rfl (lv_at hl 0 rfl) ?_
    refine lv_iload_n hx hb dX6_within_6 rfl (lv_at hl 2 rfl) ?_
    refine lv_icmp_gt (tgt := 14) hx hb dX6_within_7 (by decide) (fun (c_2 : v_b < v_v) => ?_) (fun (c_2 : ¬ (v_b < v_v)) => ?_)
    · refine lv_iconst (v := 0) hx hb dX6_within_14 (by decide) ?_
      exact W.zret (v := 0) (ty := .boolean) hx hb hr (by decide) (fun t ht hW => ⟨0, rfl, by unfold fX6_within; rw [if_neg c_1, if_pos c_2], ht⟩) (fun q h => by cases h) dX6_within_15
    · refine lv_iconst (v := 1) hx hb dX6_within_10 (by decide) ?_
      refine lv_goto (tgt := 15) hx hb dX6_within_11 (by decide) ?_
      exact W.zret (v := 1) (ty := .boolean) hx hb hr (by decide) (fun t ht hW => ⟨1, rfl, by unfold fX6_within; rw [if_neg c_1, if_neg c_2], ht⟩) (fun q h => by cases h) dX6_within_15
set_option maxHeartbeats 4000000 in
set_option maxRecDepth 100000 in
theorem c_X6_isPlace (l : Launch) (D : va_G) (E : Nat → ClassId) (G : Nat → Nat) (v_p : Int32) : Met l yX6_isPlace (oh_w yX6_isPlace cX6_isPlace 1 (some .boolean)) ({ frames := 1, cells := 0, slots := 0, locals := 22 }) (oh_Pp D E G [.int v_p] []) (vp_Si (fun r => r = fX6_within v_p 0 15)) 0 0 (fun _ => False) := by
  refine Met.ofW (cc := cX6_isPlace) (maxL := 1) (ret := (some .boolean)) (by decide) rfl ?_
  intro p e s m args below meth c s₁ B hml hv
  obtain ⟨rfl, hP, hK, hG⟩ := hv
  have hx := B.exec
  have hb := B.bytes
  have hr := B.returns
  have hts := atoms_spec (ws := (oh_w yX6_isPlace cX6_isPlace 1 (some .boolean))) B.pre
  have htg : ∀ w ∈ oh_t, w.before _ s = true := fun w h => hts w (List.mem_cons_of_mem _ h)
  have hown : s.vm.findClass RX6 = some m.cls := findClass_of_methodNamed B.named
  have hlocks := B.notSynchronized
  have hS : va_S (fun _ => False) s.heap s.heap [] := va_S.rf
  have hl := lv_entry ([.int v_p]) (n := 1) (Nat.le_of_ble_eq_true rfl)
  rw [lg_entry_eq]
  generalize (lg_sl ([.int v_p]) ++ List.replicate (1 - (lg_sl ([.int v_p])).length) Slot.unset).toArray = ls at hl ⊢
  have hl : lv_has ls 1 [(0, .int v_p)] := hl
  refine lv_iload_n hx hb dX6_isPlace_0 rfl (lv_at hl 0 rfl) ?_
  refine lv_iconst (v := 0) hx hb dX6_isPlace_1 (by decide) ?_
  refine lv_bipush (v := 15) hx hb dX6_isPlace_2 (by decide) ?_
  refine oh_pS (As := [.int v_p, .int 0, .int 15]) (rest := []) (v := fX6_within v_p 0 15) ⟨hx, hb, hml, hown, htg⟩ (c_X6_within l D E G v_p 0 15) (va_cwS 3 htg (oh_gS q_293 q_294 q_66 q_295) rfl rfl rfl pdX6_within ⟨Nat.le_of_ble_eq_true rfl, Nat.le_of_ble_eq_true rfl⟩) hK (hP.sub (ws' := []) [] rfl) hG hS rfl hl.1 rfl (Nat.le_of_ble_eq_true rfl) dX6_isPlace_4 ⟨Nat.le_of_ble_eq_true rfl, Nat.le_of_ble_eq_true rfl⟩ ?_
  exact W.zret (v := fX6_within v_p 0 15) (ty := .boolean) hx hb hr (oh_nb (fX6_within_b v_p 0 15)) (fun t ht hW => ⟨fX6_within v_p 0 15, rfl, rfl, ht⟩) (fun q h => by cases h) dX6_isPlace_7
set_option maxHeartbeats 4000000 in
set_option maxRecDepth 100000 in
theorem c_X6_isShelf (l : Launch) (D : va_G) (E : Nat → ClassId) (G : Nat → Nat) (v_s : Int32) : Met l yX6_isShelf (oh_w yX6_isShelf cX6_isShelf 1 (some .boolean)) ({ frames := 1, cells := 0, slots := 0, locals := 22 }) (oh_Pp D E G [.int v_s] []) (vp_Si (fun r => r = fX6_within v_s 0 7)) 0 0 (fun _ => False) := by
  refine Met.ofW (cc := cX6_isShelf) (maxL := 1) (ret := (some .boolean)) (by decide) rfl ?_
  intro p e s m args below meth c s₁ B hml hv
  obtain ⟨rfl, hP, hK, hG⟩ := hv
  have hx := B.exec
  have hb := B.bytes
  have hr := B.returns
  have hts := atoms_spec (ws := (oh_w yX6_isShelf cX6_isShelf 1 (some .boolean))) B.pre
  have htg : ∀ w ∈ oh_t, w.before _ s = true := fun w h => hts w (List.mem_cons_of_mem _ h)
  have hown : s.vm.findClass RX6 = some m.cls := findClass_of_methodNamed B.named
  have hlocks := B.notSynchronized
  have hS : va_S (fun _ => False) s.heap s.heap [] := va_S.rf
  have hl := lv_entry ([.int v_s]) (n := 1) (Nat.le_of_ble_eq_true rfl)
  rw [lg_entry_eq]
  generalize (lg_sl ([.int v_s]) ++ List.replicate (1 - (lg_sl ([.int v_s])).length) Slot.unset).toArray = ls at hl ⊢
  have hl : lv_has ls 1 [(0, .int v_s)] := hl
  refine lv_iload_n hx hb dX6_isShelf_0 rfl (lv_at hl 0 rfl) ?_
  refine lv_iconst (v := 0) hx hb dX6_isShelf_1 (by decide) ?_
  refine lv_bipush (v := 7) hx hb dX6_isShelf_2 (by decide) ?_
  refine oh_pS (As := [.int v_s, .int 0, .int 7]) (rest := []) (v := fX6_within v_s 0 7) ⟨hx, hb, hml, hown, htg⟩ (c_X6_within l D E G v_s 0 7) (va_cwS 3 htg (oh_gS q_293 q_294 q_66 q_295) rfl rfl rfl pdX6_within ⟨Nat.le_of_ble_eq_true rfl, Nat.le_of_ble_eq_true rfl⟩) hK (hP.sub (ws' := []) [] rfl) hG hS rfl hl.1 rfl (Nat.le_of_ble_eq_true rfl) dX6_isShelf_4 ⟨Nat.le_of_ble_eq_true rfl, Nat.le_of_ble_eq_true rfl⟩ ?_
  exact W.zret (v := fX6_within v_s 0 7) (ty := .boolean) hx hb hr (oh_nb (fX6_within_b v_s 0 7)) (fun t ht hW => ⟨fX6_within v_s 0 7, rfl, rfl, ht⟩) (fun q h => by cases h) dX6_isShelf_7
set_option maxHeartbeats 4000000 in
set_option maxRecDepth 100000 in
theorem c_X0_ofRoad (l : Launch) (D : va_G) (E : Nat → ClassId) (G : Nat → Nat) (a0 : Nat) (v_r : Int32) (v_c : Int32) (a0_counts : Nat) (a0_roads : Nat) (a0_bridges : Nat) (a0_waggons : Nat) (a0_parts : Nat) (a0_settings : Nat) (a0_trip : Nat) (v_ow : Int32) (fr : Nat → Int32) (h0 : vp_in v_r 24) (h1 : vp_in v_c 7) : Met l yX0_ofRoad (oh_w yX0_ofRoad cX0_ofRoad 3 (some .int)) ({ frames := 0, cells := 0, slots := 0, locals := 0 }) (oh_Pp D E G [.ref a0, .int v_r, .int v_c] [(a0, .inr (0, [.ref a0_counts, .ref a0_roads, .ref a0_bridges, .ref a0_waggons, .ref a0_parts, .ref a0_settings, .ref a0_trip, .int v_ow])), (a0_roads, .inl (E 0, 168, .inl fr))]) (vp_Si (fun r => r = fr ((v_r * 7) + v_c).toNatClampNeg)) 0 0 (fun _ => False) := by
  refine Met.ofW (cc := cX0_ofRoad) (maxL := 3) (ret := (some .int)) (by decide) rfl ?_
  intro p e s m args below meth c s₁ B hml hv
  obtain ⟨rfl, hP, hK, hG⟩ := hv
  have hx := B.exec
  have hb := B.bytes
  have hr := B.returns
  have hts := atoms_spec (ws := (oh_w yX0_ofRoad cX0_ofRoad 3 (some .int))) B.pre
  have htg : ∀ w ∈ oh_t, w.before _ s = true := fun w h => hts w (List.mem_cons_of_mem _ h)
  have hown : s.vm.findClass RX0 = some m.cls := findClass_of_methodNamed B.named
  have hlocks := B.notSynchronized
  have hS : va_S (fun _ => False) s.heap s.heap [] := va_S.rf
  have hl := lv_entry ([.ref a0, .int v_r, .int v_c]) (n := 3) (Nat.le_of_ble_eq_true rfl)
  rw [lg_entry_eq]
  generalize (lg_sl ([.ref a0, .int v_r, .int v_c]) ++ List.replicate (3 - (lg_sl ([.ref a0, .int v_r, .int v_c])).length) Slot.unset).toArray = ls at hl ⊢
  have hl : lv_has ls 3 [(0, .ref a0), (1, .int v_r), (2, .int v_c)] := hl
  refine lv_aload_n hx hb dX0_ofRoad_0 rfl (lv_at hl 0 rfl) ?_
  refine va_get (D := D) (ci := 0) (v := .ref a0_roads) (C := RX0) (T := TX0) (N := 8) hx hb htg ig_0 hown hK hP 0 rfl rfl 1 (by decide) (htg _ q_101) (fun _ h9 => h9) rfl dX0_ofRoad_1 ?_
  refine lv_iload_n hx hb dX0_ofRoad_4 rfl (lv_at hl 1 rfl) ?_
  refine lv_bipush (v := 7) hx hb dX0_ofRoad_5 (by decide) ?_
  refine lv_imul hx hb dX0_ofRoad_7 ?_
  refine lv_iload_n hx hb dX0_ofRoad_8 rfl (lv_at hl 2 rfl) ?_
  refine lv_iadd hx hb dX0_ofRoad_9 ?_
  refine va_iald hx hb hK hP 1 0 rfl rfl (oh_sh (K := 7) (N := 24) h0 h1 rfl (by decide) (by decide)) dX0_ofRoad_10 ?_
  exact W.iret (v := fr ((v_r * 7) + v_c).toNatClampNeg) hx hb hr (fun t ht hW => ⟨fr ((v_r * 7) + v_c).toNatClampNeg, rfl, rfl, ht⟩) (fun q h => by cases h) dX0_ofRoad_11
set_option maxHeartbeats 4000000 in
set_option maxRecDepth 100000 in
theorem c_X0_ofBridge (l : Launch) (D : va_G) (E : Nat → ClassId) (G : Nat → Nat) (a0 : Nat) (v_b : Int32) (v_c : Int32) (a0_counts : Nat) (a0_roads : Nat) (a0_bridges : Nat) (a0_waggons : Nat) (a0_parts : Nat) (a0_settings : Nat) (a0_trip : Nat) (v_ow : Int32) (fb : Nat → Int32) (h0 : vp_in v_b 16) (h1 : vp_in v_c 10) : Met l yX0_ofBridge (oh_w yX0_ofBridge cX0_ofBridge 3 (some .int)) ({ frames := 0, cells := 0, slots := 0, locals := 0 }) (oh_Pp D E G [.ref a0, .int v_b, .int v_c] [(a0, .inr (0, [.ref a0_counts, .ref a0_roads, .ref a0_bridges, .ref a0_waggons, .ref a0_parts, .ref a0_settings, .ref a0_trip, .int v_ow])), (a0_bridges, .inl (E 0, 160, .inl fb))]) (vp_Si (fun r => r = fb ((v_b * 10) + v_c).toNatClampNeg)) 0 0 (fun _ => False) := by
  refine Met.ofW (cc := cX0_ofBridge) (maxL := 3) (ret := (some .int)) (by decide) rfl ?_
  intro p e s m args below meth c s₁ B hml hv
  obtain ⟨rfl, hP, hK, hG⟩ := hv
  have hx := B.exec
  have hb := B.bytes
  have hr := B.returns
  have hts := atoms_spec (ws := (oh_w yX0_ofBridge cX0_ofBridge 3 (some .int))) B.pre
  have htg : ∀ w ∈ oh_t, w.before _ s = true := fun w h => hts w (List.mem_cons_of_mem _ h)
  have hown : s.vm.findClass RX0 = some m.cls := findClass_of_methodNamed B.named
  have hlocks := B.notSynchronized
  have hS : va_S (fun _ => False) s.heap s.heap [] := va_S.rf
  have hl := lv_entry ([.ref a0, .int v_b, .int v_c]) (n := 3) (Nat.le_of_ble_eq_true rfl)
  rw [lg_entry_eq]
  generalize (lg_sl ([.ref a0, .int v_b, .int v_c]) ++ List.replicate (3 - (lg_sl ([.ref a0, .int v_b, .int v_c])).length) Slot.unset).toArray = ls at hl ⊢
  have hl : lv_has ls 3 [(0, .ref a0), (1, .int v_b), (2, .int v_c)] := hl
  refine lv_aload_n hx hb dX0_ofBridge_0 rfl (lv_at hl 0 rfl) ?_
  refine va_get (D := D) (ci := 0) (v := .ref a0_bridges) (C := RX0) (T := TX0) (N := 8) hx hb htg ig_0 hown hK hP 0 rfl rfl 2 (by decide) (htg _ q_103) (fun _ h9 => h9) rfl dX0_ofBridge_1 ?_
  refine lv_iload_n hx hb dX0_ofBridge_4 rfl (lv_at hl 1 rfl) ?_
  refine lv_bipush (v := 10) hx hb dX0_ofBridge_5 (by decide) ?_
  refine lv_imul hx hb dX0_ofBridge_7 ?_
  refine lv_iload_n hx hb dX0_ofBridge_8 rfl (lv_at hl 2 rfl) ?_
  refine lv_iadd hx hb dX0_ofBridge_9 ?_
  refine va_iald hx hb hK hP 1 0 rfl rfl (oh_sh (K := 10) (N := 16) h0 h1 rfl (by decide) (by decide)) dX0_ofBridge_10 ?_
  exact W.iret (v := fb ((v_b * 10) + v_c).toNatClampNeg) hx hb hr (fun t ht hW => ⟨fb ((v_b * 10) + v_c).toNatClampNeg, rfl, rfl, ht⟩) (fun q h => by cases h) dX0_ofBridge_11
set_option maxHeartbeats 4000000 in
set_option maxRecDepth 100000 in
theorem c_X0_ofWaggon (l : Launch) (D : va_G) (E : Nat → ClassId) (G : Nat → Nat) (a0 : Nat) (v_w : Int32) (v_c : Int32) (a0_counts : Nat) (a0_roads : Nat) (a0_bridges : Nat) (a0_waggons : Nat) (a0_parts : Nat) (a0_settings : Nat) (a0_trip : Nat) (v_ow : Int32) (fw : Nat → Int32) (h0 : vp_in v_w 5) (h1 : vp_in v_c 3) : Met l yX0_ofWaggon (oh_w yX0_ofWaggon cX0_ofWaggon 3 (some .int)) ({ frames := 0, cells := 0, slots := 0, locals := 0 }) (oh_Pp D E G [.ref a0, .int v_w, .int v_c] [(a0, .inr (0, [.ref a0_counts, .ref a0_roads, .ref a0_bridges, .ref a0_waggons, .ref a0_parts, .ref a0_settings, .ref a0_trip, .int v_ow])), (a0_waggons, .inl (E 0, 15, .inl fw))]) (vp_Si (fun r => r = fw ((v_w * 3) + v_c).toNatClampNeg)) 0 0 (fun _ => False) := by
  refine Met.ofW (cc := cX0_ofWaggon) (maxL := 3) (ret := (some .int)) (by decide) rfl ?_
  intro p e s m args below meth c s₁ B hml hv
  obtain ⟨rfl, hP, hK, hG⟩ := hv
  have hx := B.exec
  have hb := B.bytes
  have hr := B.returns
  have hts := atoms_spec (ws := (oh_w yX0_ofWaggon cX0_ofWaggon 3 (some .int))) B.pre
  have htg : ∀ w ∈ oh_t, w.before _ s = true := fun w h => hts w (List.mem_cons_of_mem _ h)
  have hown : s.vm.findClass RX0 = some m.cls := findClass_of_methodNamed B.named
  have hlocks := B.notSynchronized
  have hS : va_S (fun _ => False) s.heap s.heap [] := va_S.rf
  have hl := lv_entry ([.ref a0, .int v_w, .int v_c]) (n := 3) (Nat.le_of_ble_eq_true rfl)
  rw [lg_entry_eq]
  generalize (lg_sl ([.ref a0, .int v_w, .int v_c]) ++ List.replicate (3 - (lg_sl ([.ref a0, .int v_w, .int v_c])).length) Slot.unset).toArray = ls at hl ⊢
  have hl : lv_has ls 3 [(0, .ref a0), (1, .int v_w), (2, .int v_c)] := hl
  refine lv_aload_n hx hb dX0_ofWaggon_0 rfl (lv_at hl 0 rfl) ?_
  refine va_get (D := D) (ci := 0) (v := .ref a0_waggons) (C := RX0) (T := TX0) (N := 8) hx hb htg ig_0 hown hK hP 0 rfl rfl 3 (by decide) (htg _ q_104) (fun _ h9 => h9) rfl dX0_ofWaggon_1 ?_
  refine lv_iload_n hx hb dX0_ofWaggon_4 rfl (lv_at hl 1 rfl) ?_
  refine lv_iconst (v := 3) hx hb dX0_ofWaggon_5 (by decide) ?_
  refine lv_imul hx hb dX0_ofWaggon_6 ?_
  refine lv_iload_n hx hb dX0_ofWaggon_7 rfl (lv_at hl 2 rfl) ?_
  refine lv_iadd hx hb dX0_ofWaggon_8 ?_
  refine va_iald hx hb hK hP 1 0 rfl rfl (oh_sh (K := 3) (N := 5) h0 h1 rfl (by decide) (by decide)) dX0_ofWaggon_9 ?_
  exact W.iret (v := fw ((v_w * 3) + v_c).toNatClampNeg) hx hb hr (fun t ht hW => ⟨fw ((v_w * 3) + v_c).toNatClampNeg, rfl, rfl, ht⟩) (fun q h => by cases h) dX0_ofWaggon_10
set_option maxHeartbeats 4000000 in
set_option maxRecDepth 100000 in
theorem c_X0_setsOfParts (l : Launch) (D : va_G) (E : Nat → ClassId) (G : Nat → Nat) (a0 : Nat) (a0_counts : Nat) (a0_roads : Nat) (a0_bridges : Nat) (a0_waggons : Nat) (a0_parts : Nat) (a0_settings : Nat) (a0_trip : Nat) (v_ow : Int32) (fc : Nat → Int32) : Met l yX0_setsOfParts (oh_w yX0_setsOfParts cX0_setsOfParts 1 (some .int)) ({ frames := 0, cells := 0, slots := 0, locals := 0 }) (oh_Pp D E G [.ref a0] [(a0, .inr (0, [.ref a0_counts, .ref a0_roads, .ref a0_bridges, .ref a0_waggons, .ref a0_parts, .ref a0_settings, .ref a0_trip, .int v_ow])), (a0_counts, .inl (E 0, 4, .inl fc))]) (vp_Si (fun r => r = (1 : Int32) <<< ((fc 3) &&& 31))) 0 0 (fun _ => False) := by
  refine Met.ofW (cc := cX0_setsOfParts) (maxL := 1) (ret := (some .int)) (by decide) rfl ?_
  intro p e s m args below meth c s₁ B hml hv
  obtain ⟨rfl, hP, hK, hG⟩ := hv
  have hx := B.exec
  have hb := B.bytes
  have hr := B.returns
  have hts := atoms_spec (ws := (oh_w yX0_setsOfParts cX0_setsOfParts 1 (some .int))) B.pre
  have htg : ∀ w ∈ oh_t, w.before _ s = true := fun w h => hts w (List.mem_cons_of_mem _ h)
  have hown : s.vm.findClass RX0 = some m.cls := findClass_of_methodNamed B.named
  have hlocks := B.notSynchronized
  have hS : va_S (fun _ => False) s.heap s.heap [] := va_S.rf
  have hl := lv_entry ([.ref a0]) (n := 1) (Nat.le_of_ble_eq_true rfl)
  rw [lg_entry_eq]
  generalize (lg_sl ([.ref a0]) ++ List.replicate (1 - (lg_sl ([.ref a0])).length) Slot.unset).toArray = ls at hl ⊢
  have hl : lv_has ls 1 [(0, .ref a0)] := hl
  refine lv_iconst (v := 1) hx hb dX0_setsOfParts_0 (by decide) ?_
  refine lv_aload_n hx hb dX0_setsOfParts_1 rfl (lv_at hl 0 rfl) ?_
  refine va_get (D := D) (ci := 0) (v := .ref a0_counts) (C := RX0) (T := TX0) (N := 8) hx hb htg ig_0 hown hK hP 0 rfl rfl 0 (by decide) (htg _ q_97) (fun _ h9 => h9) rfl dX0_setsOfParts_2 ?_
  refine lv_iconst (v := 3) hx hb dX0_setsOfParts_5 (by decide) ?_
  refine va_iald hx hb hK hP 1 0 rfl rfl (show vp_in 3 4 by unfold vp_in; decide) dX0_setsOfParts_6 ?_
  refine lv_ishl hx hb dX0_setsOfParts_7 ?_
  exact W.iret (v := (1 : Int32) <<< ((fc 3) &&& 31)) hx hb hr (fun t ht hW => ⟨(1 : Int32) <<< ((fc 3) &&& 31), rfl, rfl, ht⟩) (fun q h => by cases h) dX0_setsOfParts_8
set_option maxHeartbeats 4000000 in
set_option maxRecDepth 100000 in
theorem c_X0_waggonLength (l : Launch) (D : va_G) (E : Nat → ClassId) (G : Nat → Nat) (a0 : Nat) (v_w : Int32) (a0_counts : Nat) (a0_roads : Nat) (a0_bridges : Nat) (a0_waggons : Nat) (a0_parts : Nat) (a0_settings : Nat) (a0_trip : Nat) (v_ow : Int32) (fw : Nat → Int32) (h0 : vp_in v_w 5) : Met l yX0_waggonLength (oh_w yX0_waggonLength cX0_waggonLength 2 (some .int)) ({ frames := 1, cells := 0, slots := 0, locals := 22 }) (oh_Pp D E G [.ref a0, .int v_w] [(a0, .inr (0, [.ref a0_counts, .ref a0_roads, .ref a0_bridges, .ref a0_waggons, .ref a0_parts, .ref a0_settings, .ref a0_trip, .int v_ow])), (a0_waggons, .inl (E 0, 15, .inl fw))]) (vp_Si (fun r => r = ((fw ((v_w * 3) + 1).toNatClampNeg) * ((fw ((v_w * 3) + 0).toNatClampNeg) - 1)) + 4)) 0 0 (fun _ => False) := by
  refine Met.ofW (cc := cX0_waggonLength) (maxL := 2) (ret := (some .int)) (by decide) rfl ?_
  intro p e s m args below meth c s₁ B hml hv
  obtain ⟨rfl, hP, hK, hG⟩ := hv
  have hx := B.exec
  have hb := B.bytes
  have hr := B.returns
  have hts := atoms_spec (ws := (oh_w yX0_waggonLength cX0_waggonLength 2 (some .int))) B.pre
  have htg : ∀ w ∈ oh_t, w.before _ s = true := fun w h => hts w (List.mem_cons_of_mem _ h)
  have hown : s.vm.findClass RX0 = some m.cls := findClass_of_methodNamed B.named
  have hlocks := B.notSynchronized
  have hS : va_S (fun _ => False) s.heap s.heap [] := va_S.rf
  have hl := lv_entry ([.ref a0, .int v_w]) (n := 2) (Nat.le_of_ble_eq_true rfl)
  rw [lg_entry_eq]
  generalize (lg_sl ([.ref a0, .int v_w]) ++ List.replicate (2 - (lg_sl ([.ref a0, .int v_w])).length) Slot.unset).toArray = ls at hl ⊢
  have hl : lv_has ls 2 [(0, .ref a0), (1, .int v_w)] := hl
  refine lv_aload_n hx hb dX0_waggonLength_0 rfl (lv_at hl 0 rfl) ?_
  refine lv_iload_n hx hb dX0_waggonLength_1 rfl (lv_at hl 1 rfl) ?_
  refine lv_iconst (v := 1) hx hb dX0_waggonLength_2 (by decide) ?_
  refine oh_pV (As := [.int v_w, .int 1]) (rest := []) (v := fw ((v_w * 3) + 1).toNatClampNeg) ⟨hx, hb, hml, hown, htg⟩ (c_X0_ofWaggon l D E G a0 v_w 1 a0_counts a0_roads a0_bridges a0_waggons a0_parts a0_settings a0_trip v_ow fw h0 (show vp_in 1 3 by unfold vp_in; decide)) (cwV 2 htg (oh_gV q_687 q_688 q_689 q_67 q_690) rfl rfl rfl pdVX0_ofWaggon ⟨Nat.le_of_ble_eq_true rfl, Nat.le_of_ble_eq_true rfl⟩) hK (hP.sub (ws' := [(a0, .inr (0, [.ref a0_counts, .ref a0_roads, .ref a0_bridges, .ref a0_waggons, .ref a0_parts, .ref a0_settings, .ref a0_trip, .int v_ow])), (a0_waggons, .inl (E 0, 15, .inl fw))]) [0, 1] rfl) hG hS (va_recv hK hP (ci := 0) (q0 := 0) rfl rfl) rfl hl.1 rfl (Nat.le_of_ble_eq_true rfl) dX0_waggonLength_3 ⟨Nat.le_of_ble_eq_true rfl, Nat.le_of_ble_eq_true rfl⟩ ?_
  refine lv_aload_n hx hb dX0_waggonLength_6 rfl (lv_at hl 0 rfl) ?_
  refine lv_iload_n hx hb dX0_waggonLength_7 rfl (lv_at hl 1 rfl) ?_
  refine lv_iconst (v := 0) hx hb dX0_waggonLength_8 (by decide) ?_
  refine oh_pV (As := [.int v_w, .int 0]) (rest := [.int (fw ((v_w * 3) + 1).toNatClampNeg)]) (v := fw ((v_w * 3) + 0).toNatClampNeg) ⟨hx, hb, hml, hown, htg⟩ (c_X0_ofWaggon l D E G a0 v_w 0 a0_counts a0_roads a0_bridges a0_waggons a0_parts a0_settings a0_trip v_ow fw h0 (show vp_in 0 3 by unfold vp_in; decide)) (cwV 2 htg (oh_gV q_687 q_688 q_689 q_67 q_690) rfl rfl rfl pdVX0_ofWaggon ⟨Nat.le_of_ble_eq_true rfl, Nat.le_of_ble_eq_true rfl⟩) hK (hP.sub (ws' := [(a0, .inr (0, [.ref a0_counts, .ref a0_roads, .ref a0_bridges, .ref a0_waggons, .ref a0_parts, .ref a0_settings, .ref a0_trip, .int v_ow])), (a0_waggons, .inl (E 0, 15, .inl fw))]) [0, 1] rfl) hG hS (va_recv hK hP (ci := 0) (q0 := 0) rfl rfl) rfl hl.1 rfl (Nat.le_of_ble_eq_true rfl) dX0_waggonLength_9 ⟨Nat.le_of_ble_eq_true rfl, Nat.le_of_ble_eq_true rfl⟩ ?_
  refine lv_iconst (v := 1) hx hb dX0_waggonLength_12 (by decide) ?_
  refine lv_isub hx hb dX0_waggonLength_13 ?_
  refine lv_imul hx hb dX0_waggonLength_14 ?_
  refine lv_iconst (v := 4) hx hb dX0_waggonLength_15 (by decide) ?_
  refine lv_iadd hx hb dX0_waggonLength_16 ?_
  exact W.iret (v := ((fw ((v_w * 3) + 1).toNatClampNeg) * ((fw ((v_w * 3) + 0).toNatClampNeg) - 1)) + 4) hx hb hr (fun t ht hW => ⟨((fw ((v_w * 3) + 1).toNatClampNeg) * ((fw ((v_w * 3) + 0).toNatClampNeg) - 1)) + 4, rfl, rfl, ht⟩) (fun q h => by cases h) dX0_waggonLength_17
def fX0_isPropped (v_b : Int32) (fb : Nat → Int32) : Int32 :=
  if (fb ((v_b * 10) + 7).toNatClampNeg) = 1 then 1 else 0
theorem fX0_isPropped_b (v_b : Int32) (fb : Nat → Int32) : fX0_isPropped v_b fb = 0 ∨ fX0_isPropped v_b fb = 1 := by
  unfold fX0_isPropped
  repeat' split
  all_goals first | exact Or.inl rfl | exact Or.inr rfl
set_option maxHeartbeats 4000000 in
set_option maxRecDepth 100000 in
theorem c_X0_isPropped (l : Launch) (D : va_G) (E : Nat → ClassId) (G : Nat → Nat) (a0 : Nat) (v_b : Int32) (a0_counts : Nat) (a0_roads : Nat) (a0_bridges : Nat) (a0_waggons : Nat) (a0_parts : Nat) (a0_settings : Nat) (a0_trip : Nat) (v_ow : Int32) (fb : Nat → Int32) (h0 : vp_in v_b 16) : Met l yX0_isPropped (oh_w yX0_isPropped cX0_isPropped 2 (some .boolean)) ({ frames := 1, cells := 0, slots := 0, locals := 22 }) (oh_Pp D E G [.ref a0, .int v_b] [(a0, .inr (0, [.ref a0_counts, .ref a0_roads, .ref a0_bridges, .ref a0_waggons, .ref a0_parts, .ref a0_settings, .ref a0_trip, .int v_ow])), (a0_bridges, .inl (E 0, 160, .inl fb))]) (vp_Si (fun r => r = fX0_isPropped v_b fb)) 0 0 (fun _ => False) := by
  refine Met.ofW (cc := cX0_isPropped) (maxL := 2) (ret := (some .boolean)) (by decide) rfl ?_
  intro p e s m args below meth c s₁ B hml hv
  obtain ⟨rfl, hP, hK, hG⟩ := hv
  have hx := B.exec
  have hb := B.bytes
  have hr := B.returns
  have hts := atoms_spec (ws := (oh_w yX0_isPropped cX0_isPropped 2 (some .boolean))) B.pre
  have htg : ∀ w ∈ oh_t, w.before _ s = true := fun w h => hts w (List.mem_cons_of_mem _ h)
  have hown : s.vm.findClass RX0 = some m.cls := findClass_of_methodNamed B.named
  have hlocks := B.notSynchronized
  have hS : va_S (fun _ => False) s.heap s.heap [] := va_S.rf
  have hl := lv_entry ([.ref a0, .int v_b]) (n := 2) (Nat.le_of_ble_eq_true rfl)
  rw [lg_entry_eq]
  generalize (lg_sl ([.ref a0, .int v_b]) ++ List.replicate (2 - (lg_sl ([.ref a0, .int v_b])).length) Slot.unset).toArray = ls at hl ⊢
  have hl : lv_has ls 2 [(0, .ref a0), (1, .int v_b)] := hl
  refine lv_aload_n hx hb dX0_isPropped_0 rfl (lv_at hl 0 rfl) ?_
  refine lv_iload_n hx hb dX0_isPropped_1 rfl (lv_at hl 1 rfl) ?_
  refine lv_bipush (v := 7) hx hb dX0_isPropped_2 (by decide) ?_
  refine oh_pV (As := [.int v_b, .int 7]) (rest := []) (v := fb ((v_b * 10) + 7).toNatClampNeg) ⟨hx, hb, hml, hown, htg⟩ (c_X0_ofBridge l D E G a0 v_b 7 a0_counts a0_roads a0_bridges a0_waggons a0_parts a0_settings a0_trip v_ow fb h0 (show vp_in 7 10 by unfold vp_in; decide)) (cwV 2 htg (oh_gV q_384 q_385 q_386 q_67 q_387) rfl rfl rfl pdVX0_ofBridge ⟨Nat.le_of_ble_eq_true rfl, Nat.le_of_ble_eq_true rfl⟩) hK (hP.sub (ws' := [(a0, .inr (0, [.ref a0_counts, .ref a0_roads, .ref a0_bridges, .ref a0_waggons, .ref a0_parts, .ref a0_settings, .ref a0_trip, .int v_ow])), (a0_bridges, .inl (E 0, 160, .inl fb))]) [0, 1] rfl) hG hS (va_recv hK hP (ci := 0) (q0 := 0) rfl rfl) rfl hl.1 rfl (Nat.le_of_ble_eq_true rfl) dX0_isPropped_4 ⟨Nat.le_of_ble_eq_true rfl, Nat.le_of_ble_eq_true rfl⟩ ?_
  refine lv_iconst (v := 1) hx hb dX0_isPropped_7 (by decide) ?_
  refine lv_icmp_ne (tgt := 15) hx hb dX0_isPropped_8 (by decide) (fun (c_1 : ¬ ((fb ((v_b * 10) + 7).toNatClampNeg) = 1)) => ?_) (fun (c_1 : (fb ((v_b * 10) + 7).toNatClampNeg) = 1) => ?_)
  · refine lv_iconst (v := 0) hx hb dX0_isPropped_15 (by decide) ?_
    exact W.zret (v := 0) (ty := .boolean) hx hb hr (by decide) (fun t ht hW => ⟨0, rfl, by unfold fX0_isPropped; rw [if_neg c_1], ht⟩) (fun q h => by cases h) dX0_isPropped_16
  · refine lv_iconst (v := 1) hx hb dX0_isPropped_11 (by decide) ?_
    refine lv_goto (tgt := 16) hx hb dX0_isPropped_12 (by decide) ?_
    exact W.zret (v := 1) (ty := .boolean) hx hb hr (by decide) (fun t ht hW => ⟨1, rfl, by unfold fX0_isPropped; rw [if_pos c_1], ht⟩) (fun q h => by cases h) dX0_isPropped_16
def fX0_believed (v_at : Int32) (v_v : Int32) (fb : Nat → Int32) (fs : Nat → Int32) : Int32 :=
  if (fb (v_at + 8).toNatClampNeg) = 1 then 0 else if (fb (v_at + 1).toNatClampNeg) = 5 then (if (fs 2) = 0 then 0 else if (fb (v_at + 1).toNatClampNeg) = 4 then (if (fb (v_at + 9).toNatClampNeg) = 0 then v_v / 2 else v_v) else if (fb (v_at + 1).toNatClampNeg) = 5 then (if (fb (v_at + 9).toNatClampNeg) = 0 then v_v / 2 else v_v) else v_v) else if (fb (v_at + 1).toNatClampNeg) = 4 then (if (fb (v_at + 9).toNatClampNeg) = 0 then v_v / 2 else v_v) else if (fb (v_at + 1).toNatClampNeg) = 5 then (if (fb (v_at + 9).toNatClampNeg) = 0 then v_v / 2 else v_v) else v_v
set_option maxHeartbeats 4000000 in
set_option maxRecDepth 100000 in
theorem c_X0_believed (l : Launch) (D : va_G) (E : Nat → ClassId) (G : Nat → Nat) (a0 : Nat) (v_at : Int32) (v_v : Int32) (a0_counts : Nat) (a0_roads : Nat) (a0_bridges : Nat) (a0_waggons : Nat) (a0_parts : Nat) (a0_settings : Nat) (a0_trip : Nat) (v_ow : Int32) (fb : Nat → Int32) (fs : Nat → Int32) (hk : vp_in (v_at + 1) 160) (hf : vp_in (v_at + 8) 160) (ha : vp_in (v_at + 9) 160) : Met l yX0_believed (oh_w yX0_believed cX0_believed 5 (some .int)) ({ frames := 0, cells := 0, slots := 0, locals := 0 }) (oh_Pp D E G [.ref a0, .int v_at, .int v_v] [(a0, .inr (0, [.ref a0_counts, .ref a0_roads, .ref a0_bridges, .ref a0_waggons, .ref a0_parts, .ref a0_settings, .ref a0_trip, .int v_ow])), (a0_bridges, .inl (E 0, 160, .inl fb)), (a0_settings, .inl (E 0, 3, .inl fs))]) (vp_Si (fun r => r = fX0_believed v_at v_v fb fs)) 0 0 (fun _ => False) := by
  refine Met.ofW (cc := cX0_believed) (maxL := 5) (ret := (some .int)) (by decide) rfl ?_
  intro p e s m args below meth c s₁ B hml hv
  obtain ⟨rfl, hP, hK, hG⟩ := hv
  have hx := B.exec
  have hb := B.bytes
  have hr := B.returns
  have hts := atoms_spec (ws := (oh_w yX0_believed cX0_believed 5 (some .int))) B.pre
  have htg : ∀ w ∈ oh_t, w.before _ s = true := fun w h => hts w (List.mem_cons_of_mem _ h)
  have hown : s.vm.findClass RX0 = some m.cls := findClass_of_methodNamed B.named
  have hlocks := B.notSynchronized
  have hS : va_S (fun _ => False) s.heap s.heap [] := va_S.rf
  have hl := lv_entry ([.ref a0, .int v_at, .int v_v]) (n := 5) (Nat.le_of_ble_eq_true rfl)
  rw [lg_entry_eq]
  generalize (lg_sl ([.ref a0, .int v_at, .int v_v]) ++ List.replicate (5 - (lg_sl ([.ref a0, .int v_at, .int v_v])).length) Slot.unset).toArray = ls at hl ⊢
  have hl : lv_has ls 5 [(0, .ref a0), (1, .int v_at), (2, .int v_v)] := hl
  refine lv_aload_n hx hb dX0_believed_0 rfl (lv_at hl 0 rfl) ?_
  refine va_get (D := D) (ci := 0) (v := .ref a0_bridges) (C := RX0) (T := TX0) (N := 8) hx hb htg ig_0 hown hK hP 0 rfl rfl 2 (by decide) (htg _ q_103) (fun _ h9 => h9) rfl dX0_believed_1 ?_
  refine lv_iload_n hx hb dX0_believed_4 rfl (lv_at hl 1 rfl) ?_
  refine lv_iconst (v := 1) hx hb dX0_believed_5 (by decide) ?_
  refine lv_iadd hx hb dX0_believed_6 ?_
  refine va_iald hx hb hK hP 1 0 rfl rfl hk dX0_believed_7 ?_
  refine lv_istore_n (lv' := [(3, .int (fb (v_at + 1).toNatClampNeg)), (0, .ref a0), (1, .int v_at), (2, .int v_v)]) hx hb dX0_believed_8 rfl hl (by decide) rfl (fun ls hl => ?_)
  refine lv_aload_n hx hb dX0_believed_9 rfl (lv_at hl 1 rfl) ?_
  refine va_get (D := D) (ci := 0) (v := .ref a0_bridges) (C := RX0) (T := TX0) (N := 8) hx hb htg ig_0 hown hK hP 0 rfl rfl 2 (by decide) (htg _ q_103) (fun _ h9 => h9) rfl dX0_believed_10 ?_
  refine lv_iload_n hx hb dX0_believed_13 rfl (lv_at hl 2 rfl) ?_
  refine lv_bipush (v := 8) hx hb dX0_believed_14 (by decide) ?_
  refine lv_iadd hx hb dX0_believed_16 ?_
  refine va_iald hx hb hK hP 1 0 rfl rfl hf dX0_believed_17 ?_
  refine lv_iconst (v := 1) hx hb dX0_believed_18 (by decide) ?_
  refine lv_icmp_eq (tgt := 36) hx hb dX0_believed_19 (by decide) (fun (c_1 : (fb (v_at + 8).toNatClampNeg) = 1) => ?_) (fun (c_1 : ¬ ((fb (v_at + 8).toNatClampNeg) = 1)) => ?_)
  · refine lv_iconst (v := 0) hx hb dX0_believed_36 (by decide) ?_
    exact W.iret (v := 0) hx hb hr (fun t ht hW => ⟨0, rfl, by unfold fX0_believed; rw [if_pos c_1], ht⟩) (fun q h => by cases h) dX0_believed_37
  · refine lv_iload_n hx hb dX0_believed_22 rfl (lv_at hl 0 rfl) ?_
    refine lv_iconst (v := 5) hx hb dX0_believed_23 (by decide) ?_
    refine lv_icmp_ne (tgt := 38) hx hb dX0_believed_24 (by decide) (fun (c_2 : ¬ ((fb (v_at + 1).toNatClampNeg) = 5)) => ?_) (fun (c_2 : (fb (v_at + 1).toNatClampNeg) = 5) => ?_)
    · refine lv_iload_n hx hb dX0_believed_38 rfl (lv_at hl 0 rfl) ?_
      refine lv_iconst (v := 4) hx hb dX0_believed_39 (by decide) ?_
      refine lv_icmp_eq (tgt := 48) hx hb dX0_believed_40 (by decide) (fun (c_3 : (fb (v_at + 1).toNatClampNeg) = 4) => ?_) (fun (c_3 : ¬ ((fb (v_at + 1).toNatClampNeg) = 4)) => ?_)
      · refine lv_iconst (v := 1) hx hb dX0_believed_48 (by decide) ?_
        refine lv_goto (tgt := 53) hx hb dX0_believed_49 (by decide) ?_
        refine lv_istore (lv' := [(4, .int 1), (3, .int (fb (v_at + 1).toNatClampNeg)), (0, .ref a0), (1, .int v_at), (2, .int v_v)]) hx hb dX0_believed_53 hl (by decide) rfl (fun ls hl => ?_)
        refine lv_iload hx hb dX0_believed_55 (lv_at hl 0 rfl) ?_
        refine lv_if_eq (tgt := 78) hx hb dX0_believed_57 (by decide) (fun c => absurd c (show ¬ ((1 : Int32) = 0) from by decide)) (fun _ => ?_)
        refine lv_aload_n hx hb dX0_believed_60 rfl (lv_at hl 2 rfl) ?_
        refine va_get (D := D) (ci := 0) (v := .ref a0_bridges) (C := RX0) (T := TX0) (N := 8) hx hb htg ig_0 hown hK hP 0 rfl rfl 2 (by decide) (htg _ q_103) (fun _ h9 => h9) rfl dX0_believed_61 ?_
        refine lv_iload_n hx hb dX0_believed_64 rfl (lv_at hl 3 rfl) ?_
        refine lv_bipush (v := 9) hx hb dX0_believed_65 (by decide) ?_
        refine lv_iadd hx hb dX0_believed_67 ?_
        refine va_iald hx hb hK hP 1 0 rfl rfl ha dX0_believed_68 ?_
        refine lv_if_ne (tgt := 78) hx hb dX0_believed_69 (by decide) (fun (c_4 : ¬ ((fb (v_at + 9).toNatClampNeg) = 0)) => ?_) (fun (c_4 : (fb (v_at + 9).toNatClampNeg) = 0) => ?_)
        · refine lv_iload_n hx hb dX0_believed_78 rfl (lv_at hl 4 rfl) ?_
          exact W.iret (v := v_v) hx hb hr (fun t ht hW => ⟨v_v, rfl, by unfold fX0_believed; rw [if_neg c_1, if_neg c_2, if_pos c_3, if_neg c_4], ht⟩) (fun q h => by cases h) dX0_believed_79
        · refine lv_iload_n hx hb dX0_believed_72 rfl (lv_at hl 4 rfl) ?_
          refine lv_iconst (v := 2) hx hb dX0_believed_73 (by decide) ?_
          refine lv_idiv hx hb dX0_believed_74 (by decide) ?_
          refine lv_goto (tgt := 79) hx hb dX0_believed_75 (by decide) ?_
          exact W.iret (v := v_v / 2) hx hb hr (fun t ht hW => ⟨v_v / 2, rfl, by unfold fX0_believed; rw [if_neg c_1, if_neg c_2, if_pos c_3, if_pos c_4], ht⟩) (fun q h => by cases h) dX0_believed_79
      · refine lv_iload_n hx hb dX0_believed_43 rfl (lv_at hl 0 rfl) ?_
        refine lv_iconst (v := 5) hx hb dX0_believed_44 (by decide) ?_
        refine lv_icmp_ne (tgt := 52) hx hb dX0_believed_45 (by decide) (fun (c_5 : ¬ ((fb (v_at + 1).toNatClampNeg) = 5)) => ?_) (fun (c_5 : (fb (v_at + 1).toNatClampNeg) = 5) => ?_)
        · refine lv_iconst (v := 0) hx hb dX0_believed_52 (by decide) ?_
          refine lv_istore (lv' := [(4, .int 0), (3, .int (fb (v_at + 1).toNatClampNeg)), (0, .ref a0), (1, .int v_at), (2, .int v_v)]) hx hb dX0_believed_53 hl (by decide) rfl (fun ls hl => ?_)
          refine lv_iload hx hb dX0_believed_55 (lv_at hl 0 rfl) ?_
          refine lv_if_eq (tgt := 78) hx hb dX0_believed_57 (by decide) (fun _ => ?_) (fun c => absurd (show (0 : Int32) = 0 from by decide) c)
          refine lv_iload_n hx hb dX0_believed_78 rfl (lv_at hl 4 rfl) ?_
          exact W.iret (v := v_v) hx hb hr (fun t ht hW => ⟨v_v, rfl, by unfold fX0_believed; rw [if_neg c_1, if_neg c_2, if_neg c_3, if_neg c_5], ht⟩) (fun q h => by cases h) dX0_believed_79
        · refine lv_iconst (v := 1) hx hb dX0_believed_48 (by decide) ?_
          refine lv_goto (tgt := 53) hx hb dX0_believed_49 (by decide) ?_
          refine lv_istore (lv' := [(4, .int 1), (3, .int (fb (v_at + 1).toNatClampNeg)), (0, .ref a0), (1, .int v_at), (2, .int v_v)]) hx hb dX0_believed_53 hl (by decide) rfl (fun ls hl => ?_)
          refine lv_iload hx hb dX0_believed_55 (lv_at hl 0 rfl) ?_
          refine lv_if_eq (tgt := 78) hx hb dX0_believed_57 (by decide) (fun c => absurd c (show ¬ ((1 : Int32) = 0) from by decide)) (fun _ => ?_)
          refine lv_aload_n hx hb dX0_believed_60 rfl (lv_at hl 2 rfl) ?_
          refine va_get (D := D) (ci := 0) (v := .ref a0_bridges) (C := RX0) (T := TX0) (N := 8) hx hb htg ig_0 hown hK hP 0 rfl rfl 2 (by decide) (htg _ q_103) (fun _ h9 => h9) rfl dX0_believed_61 ?_
          refine lv_iload_n hx hb dX0_believed_64 rfl (lv_at hl 3 rfl) ?_
          refine lv_bipush (v := 9) hx hb dX0_believed_65 (by decide) ?_
          refine lv_iadd hx hb dX0_believed_67 ?_
          refine va_iald hx hb hK hP 1 0 rfl rfl ha dX0_believed_68 ?_
          refine lv_if_ne (tgt := 78) hx hb dX0_believed_69 (by decide) (fun (c_6 : ¬ ((fb (v_at + 9).toNatClampNeg) = 0)) => ?_) (fun (c_6 : (fb (v_at + 9).toNatClampNeg) = 0) => ?_)
          · refine lv_iload_n hx hb dX0_believed_78 rfl (lv_at hl 4 rfl) ?_
            exact W.iret (v := v_v) hx hb hr (fun t ht hW => ⟨v_v, rfl, by unfold fX0_believed; rw [if_neg c_1, if_neg c_2, if_neg c_3, if_pos c_5, if_neg c_6], ht⟩) (fun q h => by cases h) dX0_believed_79
          · refine lv_iload_n hx hb dX0_believed_72 rfl (lv_at hl 4 rfl) ?_
            refine lv_iconst (v := 2) hx hb dX0_believed_73 (by decide) ?_
            refine lv_idiv hx hb dX0_believed_74 (by decide) ?_
            refine lv_goto (tgt := 79) hx hb dX0_believed_75 (by decide) ?_
            exact W.iret (v := v_v / 2) hx hb hr (fun t ht hW => ⟨v_v / 2, rfl, by unfold fX0_believed; rw [if_neg c_1, if_neg c_2, if_neg c_3, if_pos c_5, if_pos c_6], ht⟩) (fun q h => by cases h) dX0_believed_79
    · refine lv_aload_n hx hb dX0_believed_27 rfl (lv_at hl 1 rfl) ?_
      refine va_get (D := D) (ci := 0) (v := .ref a0_settings) (C := RX0) (T := TX0) (N := 8) hx hb htg ig_0 hown hK hP 0 rfl rfl 5 (by decide) (htg _ q_106) (fun _ h9 => h9) rfl dX0_believed_28 ?_
      refine lv_iconst (v := 2) hx hb dX0_believed_31 (by decide) ?_
      refine va_iald hx hb hK hP 2 0 rfl rfl (show vp_in 2 3 by unfold vp_in; decide) dX0_believed_32 ?_
      refine lv_if_ne (tgt := 38) hx hb dX0_believed_33 (by decide) (fun (c_7 : ¬ ((fs 2) = 0)) => ?_) (fun (c_7 : (fs 2) = 0) => ?_)
      · refine lv_iload_n hx hb dX0_believed_38 rfl (lv_at hl 0 rfl) ?_
        refine lv_iconst (v := 4) hx hb dX0_believed_39 (by decide) ?_
        refine lv_icmp_eq (tgt := 48) hx hb dX0_believed_40 (by decide) (fun (c_8 : (fb (v_at + 1).toNatClampNeg) = 4) => ?_) (fun (c_8 : ¬ ((fb (v_at + 1).toNatClampNeg) = 4)) => ?_)
        · refine lv_iconst (v := 1) hx hb dX0_believed_48 (by decide) ?_
          refine lv_goto (tgt := 53) hx hb dX0_believed_49 (by decide) ?_
          refine lv_istore (lv' := [(4, .int 1), (3, .int (fb (v_at + 1).toNatClampNeg)), (0, .ref a0), (1, .int v_at), (2, .int v_v)]) hx hb dX0_believed_53 hl (by decide) rfl (fun ls hl => ?_)
          refine lv_iload hx hb dX0_believed_55 (lv_at hl 0 rfl) ?_
          refine lv_if_eq (tgt := 78) hx hb dX0_believed_57 (by decide) (fun c => absurd c (show ¬ ((1 : Int32) = 0) from by decide)) (fun _ => ?_)
          refine lv_aload_n hx hb dX0_believed_60 rfl (lv_at hl 2 rfl) ?_
          refine va_get (D := D) (ci := 0) (v := .ref a0_bridges) (C := RX0) (T := TX0) (N := 8) hx hb htg ig_0 hown hK hP 0 rfl rfl 2 (by decide) (htg _ q_103) (fun _ h9 => h9) rfl dX0_believed_61 ?_
          refine lv_iload_n hx hb dX0_believed_64 rfl (lv_at hl 3 rfl) ?_
          refine lv_bipush (v := 9) hx hb dX0_believed_65 (by decide) ?_
          refine lv_iadd hx hb dX0_believed_67 ?_
          refine va_iald hx hb hK hP 1 0 rfl rfl ha dX0_believed_68 ?_
          refine lv_if_ne (tgt := 78) hx hb dX0_believed_69 (by decide) (fun (c_9 : ¬ ((fb (v_at + 9).toNatClampNeg) = 0)) => ?_) (fun (c_9 : (fb (v_at + 9).toNatClampNeg) = 0) => ?_)
          · refine lv_iload_n hx hb dX0_believed_78 rfl (lv_at hl 4 rfl) ?_
            exact W.iret (v := v_v) hx hb hr (fun t ht hW => ⟨v_v, rfl, by unfold fX0_believed; rw [if_neg c_1, if_pos c_2, if_neg c_7, if_pos c_8, if_neg c_9], ht⟩) (fun q h => by cases h) dX0_believed_79
          · refine lv_iload_n hx hb dX0_believed_72 rfl (lv_at hl 4 rfl) ?_
            refine lv_iconst (v := 2) hx hb dX0_believed_73 (by decide) ?_
            refine lv_idiv hx hb dX0_believed_74 (by decide) ?_
            refine lv_goto (tgt := 79) hx hb dX0_believed_75 (by decide) ?_
            exact W.iret (v := v_v / 2) hx hb hr (fun t ht hW => ⟨v_v / 2, rfl, by unfold fX0_believed; rw [if_neg c_1, if_pos c_2, if_neg c_7, if_pos c_8, if_pos c_9], ht⟩) (fun q h => by cases h) dX0_believed_79
        · refine lv_iload_n hx hb dX0_believed_43 rfl (lv_at hl 0 rfl) ?_
          refine lv_iconst (v := 5) hx hb dX0_believed_44 (by decide) ?_
          refine lv_icmp_ne (tgt := 52) hx hb dX0_believed_45 (by decide) (fun (c_10 : ¬ ((fb (v_at + 1).toNatClampNeg) = 5)) => ?_) (fun (c_10 : (fb (v_at + 1).toNatClampNeg) = 5) => ?_)
          · refine lv_iconst (v := 0) hx hb dX0_believed_52 (by decide) ?_
            refine lv_istore (lv' := [(4, .int 0), (3, .int (fb (v_at + 1).toNatClampNeg)), (0, .ref a0), (1, .int v_at), (2, .int v_v)]) hx hb dX0_believed_53 hl (by decide) rfl (fun ls hl => ?_)
            refine lv_iload hx hb dX0_believed_55 (lv_at hl 0 rfl) ?_
            refine lv_if_eq (tgt := 78) hx hb dX0_believed_57 (by decide) (fun _ => ?_) (fun c => absurd (show (0 : Int32) = 0 from by decide) c)
            refine lv_iload_n hx hb dX0_believed_78 rfl (lv_at hl 4 rfl) ?_
            exact W.iret (v := v_v) hx hb hr (fun t ht hW => ⟨v_v, rfl, by unfold fX0_believed; rw [if_neg c_1, if_pos c_2, if_neg c_7, if_neg c_8, if_neg c_10], ht⟩) (fun q h => by cases h) dX0_believed_79
          · refine lv_iconst (v := 1) hx hb dX0_believed_48 (by decide) ?_
            refine lv_goto (tgt := 53) hx hb dX0_believed_49 (by decide) ?_
            refine lv_istore (lv' := [(4, .int 1), (3, .int (fb (v_at + 1).toNatClampNeg)), (0, .ref a0), (1, .int v_at), (2, .int v_v)]) hx hb dX0_believed_53 hl (by decide) rfl (fun ls hl => ?_)
            refine lv_iload hx hb dX0_believed_55 (lv_at hl 0 rfl) ?_
            refine lv_if_eq (tgt := 78) hx hb dX0_believed_57 (by decide) (fun c => absurd c (show ¬ ((1 : Int32) = 0) from by decide)) (fun _ => ?_)
            refine lv_aload_n hx hb dX0_believed_60 rfl (lv_at hl 2 rfl) ?_
            refine va_get (D := D) (ci := 0) (v := .ref a0_bridges) (C := RX0) (T := TX0) (N := 8) hx hb htg ig_0 hown hK hP 0 rfl rfl 2 (by decide) (htg _ q_103) (fun _ h9 => h9) rfl dX0_believed_61 ?_
            refine lv_iload_n hx hb dX0_believed_64 rfl (lv_at hl 3 rfl) ?_
            refine lv_bipush (v := 9) hx hb dX0_believed_65 (by decide) ?_
            refine lv_iadd hx hb dX0_believed_67 ?_
            refine va_iald hx hb hK hP 1 0 rfl rfl ha dX0_believed_68 ?_
            refine lv_if_ne (tgt := 78) hx hb dX0_believed_69 (by decide) (fun (c_11 : ¬ ((fb (v_at + 9).toNatClampNeg) = 0)) => ?_) (fun (c_11 : (fb (v_at + 9).toNatClampNeg) = 0) => ?_)
            · refine lv_iload_n hx hb dX0_believed_78 rfl (lv_at hl 4 rfl) ?_
              exact W.iret (v := v_v) hx hb hr (fun t ht hW => ⟨v_v, rfl, by unfold fX0_believed; rw [if_neg c_1, if_pos c_2, if_neg c_7, if_neg c_8, if_pos c_10, if_neg c_11], ht⟩) (fun q h => by cases h) dX0_believed_79
            · refine lv_iload_n hx hb dX0_believed_72 rfl (lv_at hl 4 rfl) ?_
              refine lv_iconst (v := 2) hx hb dX0_believed_73 (by decide) ?_
              refine lv_idiv hx hb dX0_believed_74 (by decide) ?_
              refine lv_goto (tgt := 79) hx hb dX0_believed_75 (by decide) ?_
              exact W.iret (v := v_v / 2) hx hb hr (fun t ht hW => ⟨v_v / 2, rfl, by unfold fX0_believed; rw [if_neg c_1, if_pos c_2, if_neg c_7, if_neg c_8, if_pos c_10, if_pos c_11], ht⟩) (fun q h => by cases h) dX0_believed_79
      · refine lv_iconst (v := 0) hx hb dX0_believed_36 (by decide) ?_
        exact W.iret (v := 0) hx hb hr (fun t ht hW => ⟨0, rfl, by unfold fX0_believed; rw [if_neg c_1, if_pos c_2, if_pos c_7], ht⟩) (fun q h => by cases h) dX0_believed_37
def fX0_bearsAxle (v_b : Int32) (fb : Nat → Int32) (fs : Nat → Int32) : Int32 :=
  if (fb ((v_b * 10) + 1).toNatClampNeg) = 2 then fX0_believed (v_b * 10) ((fb ((v_b * 10) + 3).toNatClampNeg) + 5) fb fs else fX0_believed (v_b * 10) (fb ((v_b * 10) + 3).toNatClampNeg) fb fs
set_option maxHeartbeats 4000000 in
set_option maxRecDepth 100000 in
theorem c_X0_bearsAxle (l : Launch) (D : va_G) (E : Nat → ClassId) (G : Nat → Nat) (a0 : Nat) (v_b : Int32) (a0_counts : Nat) (a0_roads : Nat) (a0_bridges : Nat) (a0_waggons : Nat) (a0_parts : Nat) (a0_settings : Nat) (a0_trip : Nat) (v_ow : Int32) (fb : Nat → Int32) (fs : Nat → Int32) (h0 : vp_in v_b 16) : Met l yX0_bearsAxle (oh_w yX0_bearsAxle cX0_bearsAxle 4 (some .int)) ({ frames := 1, cells := 0, slots := 0, locals := 24 }) (oh_Pp D E G [.ref a0, .int v_b] [(a0, .inr (0, [.ref a0_counts, .ref a0_roads, .ref a0_bridges, .ref a0_waggons, .ref a0_parts, .ref a0_settings, .ref a0_trip, .int v_ow])), (a0_bridges, .inl (E 0, 160, .inl fb)), (a0_settings, .inl (E 0, 3, .inl fs))]) (vp_Si (fun r => r = fX0_bearsAxle v_b fb fs)) 0 0 (fun _ => False) := by
  refine Met.ofW (cc := cX0_bearsAxle) (maxL := 4) (ret := (some .int)) (by decide) rfl ?_
  intro p e s m args below meth c s₁ B hml hv
  obtain ⟨rfl, hP, hK, hG⟩ := hv
  have hx := B.exec
  have hb := B.bytes
  have hr := B.returns
  have hts := atoms_spec (ws := (oh_w yX0_bearsAxle cX0_bearsAxle 4 (some .int))) B.pre
  have htg : ∀ w ∈ oh_t, w.before _ s = true := fun w h => hts w (List.mem_cons_of_mem _ h)
  have hown : s.vm.findClass RX0 = some m.cls := findClass_of_methodNamed B.named
  have hlocks := B.notSynchronized
  have hS : va_S (fun _ => False) s.heap s.heap [] := va_S.rf
  have hl := lv_entry ([.ref a0, .int v_b]) (n := 4) (Nat.le_of_ble_eq_true rfl)
  rw [lg_entry_eq]
  generalize (lg_sl ([.ref a0, .int v_b]) ++ List.replicate (4 - (lg_sl ([.ref a0, .int v_b])).length) Slot.unset).toArray = ls at hl ⊢
  have hl : lv_has ls 4 [(0, .ref a0), (1, .int v_b)] := hl
  refine lv_iload_n hx hb dX0_bearsAxle_0 rfl (lv_at hl 1 rfl) ?_
  refine lv_bipush (v := 10) hx hb dX0_bearsAxle_1 (by decide) ?_
  refine lv_imul hx hb dX0_bearsAxle_3 ?_
  refine lv_istore_n (lv' := [(2, .int (v_b * 10)), (0, .ref a0), (1, .int v_b)]) hx hb dX0_bearsAxle_4 rfl hl (by decide) rfl (fun ls hl => ?_)
  refine lv_aload_n hx hb dX0_bearsAxle_5 rfl (lv_at hl 1 rfl) ?_
  refine va_get (D := D) (ci := 0) (v := .ref a0_bridges) (C := RX0) (T := TX0) (N := 8) hx hb htg ig_0 hown hK hP 0 rfl rfl 2 (by decide) (htg _ q_103) (fun _ h9 => h9) rfl dX0_bearsAxle_6 ?_
  refine lv_iload_n hx hb dX0_bearsAxle_9 rfl (lv_at hl 0 rfl) ?_
  refine lv_iconst (v := 3) hx hb dX0_bearsAxle_10 (by decide) ?_
  refine lv_iadd hx hb dX0_bearsAxle_11 ?_
  refine va_iald hx hb hK hP 1 0 rfl rfl (oh_sh (K := 10) (N := 16) h0 (show vp_in 3 10 by unfold vp_in; decide) rfl (by decide) (by decide)) dX0_bearsAxle_12 ?_
  refine lv_istore_n (lv' := [(3, .int (fb ((v_b * 10) + 3).toNatClampNeg)), (2, .int (v_b * 10)), (0, .ref a0), (1, .int v_b)]) hx hb dX0_bearsAxle_13 rfl hl (by decide) rfl (fun ls hl => ?_)
  refine lv_aload_n hx hb dX0_bearsAxle_14 rfl (lv_at hl 2 rfl) ?_
  refine lv_iload_n hx hb dX0_bearsAxle_15 rfl (lv_at hl 1 rfl) ?_
  refine lv_aload_n hx hb dX0_bearsAxle_16 rfl (lv_at hl 2 rfl) ?_
  refine va_get (D := D) (ci := 0) (v := .ref a0_bridges) (C := RX0) (T := TX0) (N := 8) hx hb htg ig_0 hown hK hP 0 rfl rfl 2 (by decide) (htg _ q_103) (fun _ h9 => h9) rfl dX0_bearsAxle_17 ?_
  refine lv_iload_n hx hb dX0_bearsAxle_20 rfl (lv_at hl 1 rfl) ?_
  refine lv_iconst (v := 1) hx hb dX0_bearsAxle_21 (by decide) ?_
  refine lv_iadd hx hb dX0_bearsAxle_22 ?_
  refine va_iald hx hb hK hP 1 0 rfl rfl (oh_sh (K := 10) (N := 16) h0 (show vp_in 1 10 by unfold vp_in; decide) rfl (by decide) (by decide)) dX0_bearsAxle_23 ?_
  refine lv_iconst (v := 2) hx hb dX0_bearsAxle_24 (by decide) ?_
  refine lv_icmp_ne (tgt := 34) hx hb dX0_bearsAxle_25 (by decide) (fun (c_1 : ¬ ((fb ((v_b * 10) + 1).toNatClampNeg) = 2)) => ?_) (fun (c_1 : (fb ((v_b * 10) + 1).toNatClampNeg) = 2) => ?_)
  · refine lv_iload_n hx hb dX0_bearsAxle_34 rfl (lv_at hl 0 rfl) ?_
    refine oh_pV (As := [.int (v_b * 10), .int (fb ((v_b * 10) + 3).toNatClampNeg)]) (rest := []) (v := fX0_believed (v_b * 10) (fb ((v_b * 10) + 3).toNatClampNeg) fb fs) ⟨hx, hb, hml, hown, htg⟩ (c_X0_believed l D E G a0 (v_b * 10) (fb ((v_b * 10) + 3).toNatClampNeg) a0_counts a0_roads a0_bridges a0_waggons a0_parts a0_settings a0_trip v_ow fb fs (oh_sh (K := 10) (N := 16) h0 (show vp_in 1 10 by unfold vp_in; decide) rfl (by decide) (by decide)) (oh_sh (K := 10) (N := 16) h0 (show vp_in 8 10 by unfold vp_in; decide) rfl (by decide) (by decide)) (oh_sh (K := 10) (N := 16) h0 (show vp_in 9 10 by unfold vp_in; decide) rfl (by decide) (by decide))) (cwV 2 htg (oh_gV q_397 q_399 q_4 q_67 q_400) rfl rfl rfl pdVX0_believed ⟨Nat.le_of_ble_eq_true rfl, Nat.le_of_ble_eq_true rfl⟩) hK (hP.sub (ws' := [(a0, .inr (0, [.ref a0_counts, .ref a0_roads, .ref a0_bridges, .ref a0_waggons, .ref a0_parts, .ref a0_settings, .ref a0_trip, .int v_ow])), (a0_bridges, .inl (E 0, 160, .inl fb)), (a0_settings, .inl (E 0, 3, .inl fs))]) [0, 1, 2] rfl) hG hS (va_recv hK hP (ci := 0) (q0 := 0) rfl rfl) rfl hl.1 rfl (Nat.le_of_ble_eq_true rfl) dX0_bearsAxle_35 ⟨Nat.le_of_ble_eq_true rfl, Nat.le_of_ble_eq_true rfl⟩ ?_
    exact W.iret (v := fX0_believed (v_b * 10) (fb ((v_b * 10) + 3).toNatClampNeg) fb fs) hx hb hr (fun t ht hW => ⟨fX0_believed (v_b * 10) (fb ((v_b * 10) + 3).toNatClampNeg) fb fs, rfl, by unfold fX0_bearsAxle; rw [if_neg c_1], ht⟩) (fun q h => by cases h) dX0_bearsAxle_38
  · refine lv_iload_n hx hb dX0_bearsAxle_28 rfl (lv_at hl 0 rfl) ?_
    refine lv_iconst (v := 5) hx hb dX0_bearsAxle_29 (by decide) ?_
    refine lv_iadd hx hb dX0_bearsAxle_30 ?_
    refine lv_goto (tgt := 35) hx hb dX0_bearsAxle_31 (by decide) ?_
    refine oh_pV (As := [.int (v_b * 10), .int ((fb ((v_b * 10) + 3).toNatClampNeg) + 5)]) (rest := []) (v := fX0_believed (v_b * 10) ((fb ((v_b * 10) + 3).toNatClampNeg) + 5) fb fs) ⟨hx, hb, hml, hown, htg⟩ (c_X0_believed l D E G a0 (v_b * 10) ((fb ((v_b * 10) + 3).toNatClampNeg) + 5) a0_counts a0_roads a0_bridges a0_waggons a0_parts a0_settings a0_trip v_ow fb fs (oh_sh (K := 10) (N := 16) h0 (show vp_in 1 10 by unfold vp_in; decide) rfl (by decide) (by decide)) (oh_sh (K := 10) (N := 16) h0 (show vp_in 8 10 by unfold vp_in; decide) rfl (by decide) (by decide)) (oh_sh (K := 10) (N := 16) h0 (show vp_in 9 10 by unfold vp_in; decide) rfl (by decide) (by decide))) (cwV 2 htg (oh_gV q_397 q_399 q_4 q_67 q_400) rfl rfl rfl pdVX0_believed ⟨Nat.le_of_ble_eq_true rfl, Nat.le_of_ble_eq_true rfl⟩) hK (hP.sub (ws' := [(a0, .inr (0, [.ref a0_counts, .ref a0_roads, .ref a0_bridges, .ref a0_waggons, .ref a0_parts, .ref a0_settings, .ref a0_trip, .int v_ow])), (a0_bridges, .inl (E 0, 160, .inl fb)), (a0_settings, .inl (E 0, 3, .inl fs))]) [0, 1, 2] rfl) hG hS (va_recv hK hP (ci := 0) (q0 := 0) rfl rfl) rfl hl.1 rfl (Nat.le_of_ble_eq_true rfl) dX0_bearsAxle_35 ⟨Nat.le_of_ble_eq_true rfl, Nat.le_of_ble_eq_true rfl⟩ ?_
    exact W.iret (v := fX0_believed (v_b * 10) ((fb ((v_b * 10) + 3).toNatClampNeg) + 5) fb fs) hx hb hr (fun t ht hW => ⟨fX0_believed (v_b * 10) ((fb ((v_b * 10) + 3).toNatClampNeg) + 5) fb fs, rfl, by unfold fX0_bearsAxle; rw [if_pos c_1], ht⟩) (fun q h => by cases h) dX0_bearsAxle_38
def fX0_bearsAll (v_b : Int32) (v_p : Int32) (fb : Nat → Int32) (fs : Nat → Int32) : Int32 :=
  if (fb ((v_b * 10) + 1).toNatClampNeg) = 1 then (if v_p = 0 then fX0_believed (v_b * 10) ((fb ((v_b * 10) + 4).toNatClampNeg) + ((fb ((v_b * 10) + 4).toNatClampNeg) / 10)) fb fs else if (fb ((v_b * 10) + 8).toNatClampNeg) = 0 then (fX0_believed (v_b * 10) ((fb ((v_b * 10) + 4).toNatClampNeg) + ((fb ((v_b * 10) + 4).toNatClampNeg) / 10)) fb fs) + (fb ((v_b * 10) + 5).toNatClampNeg) else fX0_believed (v_b * 10) ((fb ((v_b * 10) + 4).toNatClampNeg) + ((fb ((v_b * 10) + 4).toNatClampNeg) / 10)) fb fs) else if (fb ((v_b * 10) + 1).toNatClampNeg) = 2 then (if v_p = 0 then fX0_believed (v_b * 10) ((fb ((v_b * 10) + 4).toNatClampNeg) + ((fb ((v_b * 10) + 4).toNatClampNeg) / 10)) fb fs else if (fb ((v_b * 10) + 8).toNatClampNeg) = 0 then (fX0_believed (v_b * 10) ((fb ((v_b * 10) + 4).toNatClampNeg) + ((fb ((v_b * 10) + 4).toNatClampNeg) / 10)) fb fs) + (fb ((v_b * 10) + 5).toNatClampNeg) else fX0_believed (v_b * 10) ((fb ((v_b * 10) + 4).toNatClampNeg) + ((fb ((v_b * 10) + 4).toNatClampNeg) / 10)) fb fs) else if v_p = 0 then fX0_believed (v_b * 10) (fb ((v_b * 10) + 4).toNatClampNeg) fb fs else if (fb ((v_b * 10) + 8).toNatClampNeg) = 0 then (fX0_believed (v_b * 10) (fb ((v_b * 10) + 4).toNatClampNeg) fb fs) + (fb ((v_b * 10) + 5).toNatClampNeg) else fX0_believed (v_b * 10) (fb ((v_b * 10) + 4).toNatClampNeg) fb fs
set_option maxHeartbeats 4000000 in
set_option maxRecDepth 100000 in
theorem c_X0_bearsAll (l : Launch) (D : va_G) (E : Nat → ClassId) (G : Nat → Nat) (a0 : Nat) (v_b : Int32) (v_p : Int32) (a0_counts : Nat) (a0_roads : Nat) (a0_bridges : Nat) (a0_waggons : Nat) (a0_parts : Nat) (a0_settings : Nat) (a0_trip : Nat) (v_ow : Int32) (fb : Nat → Int32) (fs : Nat → Int32) (h0 : vp_in v_b 16) : Met l yX0_bearsAll (oh_w yX0_bearsAll cX0_bearsAll 8 (some .int)) ({ frames := 1, cells := 0, slots := 0, locals := 24 }) (oh_Pp D E G [.ref a0, .int v_b, .int v_p] [(a0, .inr (0, [.ref a0_counts, .ref a0_roads, .ref a0_bridges, .ref a0_waggons, .ref a0_parts, .ref a0_settings, .ref a0_trip, .int v_ow])), (a0_bridges, .inl (E 0, 160, .inl fb)), (a0_settings, .inl (E 0, 3, .inl fs))]) (vp_Si (fun r => r = fX0_bearsAll v_b v_p fb fs)) 0 0 (fun _ => False) := by
  refine Met.ofW (cc := cX0_bearsAll) (maxL := 8) (ret := (some .int)) (by decide) rfl ?_
  intro p e s m args below meth c s₁ B hml hv
  obtain ⟨rfl, hP, hK, hG⟩ := hv
  have hx := B.exec
  have hb := B.bytes
  have hr := B.returns
  have hts := atoms_spec (ws := (oh_w yX0_bearsAll cX0_bearsAll 8 (some .int))) B.pre
  have htg : ∀ w ∈ oh_t, w.before _ s = true := fun w h => hts w (List.mem_cons_of_mem _ h)
  have hown : s.vm.findClass RX0 = some m.cls := findClass_of_methodNamed B.named
  have hlocks := B.notSynchronized
  have hS : va_S (fun _ => False) s.heap s.heap [] := va_S.rf
  have hl := lv_entry ([.ref a0, .int v_b, .int v_p]) (n := 8) (Nat.le_of_ble_eq_true rfl)
  rw [lg_entry_eq]
  generalize (lg_sl ([.ref a0, .int v_b, .int v_p]) ++ List.replicate (8 - (lg_sl ([.ref a0, .int v_b, .int v_p])).length) Slot.unset).toArray = ls at hl ⊢
  have hl : lv_has ls 8 [(0, .ref a0), (1, .int v_b), (2, .int v_p)] := hl
  refine lv_iload_n hx hb dX0_bearsAll_0 rfl (lv_at hl 1 rfl) ?_
  refine lv_bipush (v := 10) hx hb dX0_bearsAll_1 (by decide) ?_
  refine lv_imul hx hb dX0_bearsAll_3 ?_
  refine lv_istore_n (lv' := [(3, .int (v_b * 10)), (0, .ref a0), (1, .int v_b), (2, .int v_p)]) hx hb dX0_bearsAll_4 rfl hl (by decide) rfl (fun ls hl => ?_)
  refine lv_aload_n hx hb dX0_bearsAll_5 rfl (lv_at hl 1 rfl) ?_
  refine va_get (D := D) (ci := 0) (v := .ref a0_bridges) (C := RX0) (T := TX0) (N := 8) hx hb htg ig_0 hown hK hP 0 rfl rfl 2 (by decide) (htg _ q_103) (fun _ h9 => h9) rfl dX0_bearsAll_6 ?_
  refine lv_iload_n hx hb dX0_bearsAll_9 rfl (lv_at hl 0 rfl) ?_
  refine lv_iconst (v := 1) hx hb dX0_bearsAll_10 (by decide) ?_
  refine lv_iadd hx hb dX0_bearsAll_11 ?_
  refine va_iald hx hb hK hP 1 0 rfl rfl (oh_sh (K := 10) (N := 16) h0 (show vp_in 1 10 by unfold vp_in; decide) rfl (by decide) (by decide)) dX0_bearsAll_12 ?_
  refine lv_istore (lv' := [(4, .int (fb ((v_b * 10) + 1).toNatClampNeg)), (3, .int (v_b * 10)), (0, .ref a0), (1, .int v_b), (2, .int v_p)]) hx hb dX0_bearsAll_13 hl (by decide) rfl (fun ls hl => ?_)
  refine lv_aload_n hx hb dX0_bearsAll_15 rfl (lv_at hl 2 rfl) ?_
  refine va_get (D := D) (ci := 0) (v := .ref a0_bridges) (C := RX0) (T := TX0) (N := 8) hx hb htg ig_0 hown hK hP 0 rfl rfl 2 (by decide) (htg _ q_103) (fun _ h9 => h9) rfl dX0_bearsAll_16 ?_
  refine lv_iload_n hx hb dX0_bearsAll_19 rfl (lv_at hl 1 rfl) ?_
  refine lv_iconst (v := 4) hx hb dX0_bearsAll_20 (by decide) ?_
  refine lv_iadd hx hb dX0_bearsAll_21 ?_
  refine va_iald hx hb hK hP 1 0 rfl rfl (oh_sh (K := 10) (N := 16) h0 (show vp_in 4 10 by unfold vp_in; decide) rfl (by decide) (by decide)) dX0_bearsAll_22 ?_
  refine lv_istore (lv' := [(5, .int (fb ((v_b * 10) + 4).toNatClampNeg)), (4, .int (fb ((v_b * 10) + 1).toNatClampNeg)), (3, .int (v_b * 10)), (0, .ref a0), (1, .int v_b), (2, .int v_p)]) hx hb dX0_bearsAll_23 hl (by decide) rfl (fun ls hl => ?_)
  refine lv_iload hx hb dX0_bearsAll_25 (lv_at hl 1 rfl) ?_
  refine lv_iconst (v := 1) hx hb dX0_bearsAll_27 (by decide) ?_
  refine lv_icmp_eq (tgt := 37) hx hb dX0_bearsAll_28 (by decide) (fun (c_1 : (fb ((v_b * 10) + 1).toNatClampNeg) = 1) => ?_) (fun (c_1 : ¬ ((fb ((v_b * 10) + 1).toNatClampNeg) = 1)) => ?_)
  · refine lv_iconst (v := 1) hx hb dX0_bearsAll_37 (by decide) ?_
    refine lv_goto (tgt := 42) hx hb dX0_bearsAll_38 (by decide) ?_
    refine lv_istore (lv' := [(6, .int 1), (5, .int (fb ((v_b * 10) + 4).toNatClampNeg)), (4, .int (fb ((v_b * 10) + 1).toNatClampNeg)), (3, .int (v_b * 10)), (0, .ref a0), (1, .int v_b), (2, .int v_p)]) hx hb dX0_bearsAll_42 hl (by decide) rfl (fun ls hl => ?_)
    refine lv_aload_n hx hb dX0_bearsAll_44 rfl (lv_at hl 4 rfl) ?_
    refine lv_iload_n hx hb dX0_bearsAll_45 rfl (lv_at hl 3 rfl) ?_
    refine lv_iload hx hb dX0_bearsAll_46 (lv_at hl 0 rfl) ?_
    refine lv_if_eq (tgt := 62) hx hb dX0_bearsAll_48 (by decide) (fun c => absurd c (show ¬ ((1 : Int32) = 0) from by decide)) (fun _ => ?_)
    refine lv_iload hx hb dX0_bearsAll_51 (lv_at hl 1 rfl) ?_
    refine lv_iload hx hb dX0_bearsAll_53 (lv_at hl 1 rfl) ?_
    refine lv_bipush (v := 10) hx hb dX0_bearsAll_55 (by decide) ?_
    refine lv_idiv hx hb dX0_bearsAll_57 (by decide) ?_
    refine lv_iadd hx hb dX0_bearsAll_58 ?_
    refine lv_goto (tgt := 64) hx hb dX0_bearsAll_59 (by decide) ?_
    refine oh_pV (As := [.int (v_b * 10), .int ((fb ((v_b * 10) + 4).toNatClampNeg) + ((fb ((v_b * 10) + 4).toNatClampNeg) / 10))]) (rest := []) (v := fX0_believed (v_b * 10) ((fb ((v_b * 10) + 4).toNatClampNeg) + ((fb ((v_b * 10) + 4).toNatClampNeg) / 10)) fb fs) ⟨hx, hb, hml, hown, htg⟩ (c_X0_believed l D E G a0 (v_b * 10) ((fb ((v_b * 10) + 4).toNatClampNeg) + ((fb ((v_b * 10) + 4).toNatClampNeg) / 10)) a0_counts a0_roads a0_bridges a0_waggons a0_parts a0_settings a0_trip v_ow fb fs (oh_sh (K := 10) (N := 16) h0 (show vp_in 1 10 by unfold vp_in; decide) rfl (by decide) (by decide)) (oh_sh (K := 10) (N := 16) h0 (show vp_in 8 10 by unfold vp_in; decide) rfl (by decide) (by decide)) (oh_sh (K := 10) (N := 16) h0 (show vp_in 9 10 by unfold vp_in; decide) rfl (by decide) (by decide))) (cwV 2 htg (oh_gV q_397 q_399 q_4 q_67 q_400) rfl rfl rfl pdVX0_believed ⟨Nat.le_of_ble_eq_true rfl, Nat.le_of_ble_eq_true rfl⟩) hK (hP.sub (ws' := [(a0, .inr (0, [.ref a0_counts, .ref a0_roads, .ref a0_bridges, .ref a0_waggons, .ref a0_parts, .ref a0_settings, .ref a0_trip, .int v_ow])), (a0_bridges, .inl (E 0, 160, .inl fb)), (a0_settings, .inl (E 0, 3, .inl fs))]) [0, 1, 2] rfl) hG hS (va_recv hK hP (ci := 0) (q0 := 0) rfl rfl) rfl hl.1 rfl (Nat.le_of_ble_eq_true rfl) dX0_bearsAll_64 ⟨Nat.le_of_ble_eq_true rfl, Nat.le_of_ble_eq_true rfl⟩ ?_
    refine lv_istore (lv' := [(7, .int (fX0_believed (v_b * 10) ((fb ((v_b * 10) + 4).toNatClampNeg) + ((fb ((v_b * 10) + 4).toNatClampNeg) / 10)) fb fs)), (6, .int 1), (5, .int (fb ((v_b * 10) + 4).toNatClampNeg)), (4, .int (fb ((v_b * 10) + 1).toNatClampNeg)), (3, .int (v_b * 10)), (0, .ref a0), (1, .int v_b), (2, .int v_p)]) hx hb dX0_bearsAll_67 hl (by decide) rfl (fun ls hl => ?_)
    refine lv_iload_n hx hb dX0_bearsAll_69 rfl (lv_at hl 7 rfl) ?_
    refine lv_if_eq (tgt := 99) hx hb dX0_bearsAll_70 (by decide) (fun (c_2 : v_p = 0) => ?_) (fun (c_2 : ¬ (v_p = 0)) => ?_)
    · refine lv_iload hx hb dX0_bearsAll_99 (lv_at hl 0 rfl) ?_
      exact W.iret (v := fX0_believed (v_b * 10) ((fb ((v_b * 10) + 4).toNatClampNeg) + ((fb ((v_b * 10) + 4).toNatClampNeg) / 10)) fb fs) hx hb hr (fun t ht hW => ⟨fX0_believed (v_b * 10) ((fb ((v_b * 10) + 4).toNatClampNeg) + ((fb ((v_b * 10) + 4).toNatClampNeg) / 10)) fb fs, rfl, by unfold fX0_bearsAll; rw [if_pos c_1, if_pos c_2], ht⟩) (fun q h => by cases h) dX0_bearsAll_101
    · refine lv_aload_n hx hb dX0_bearsAll_73 rfl (lv_at hl 5 rfl) ?_
      refine va_get (D := D) (ci := 0) (v := .ref a0_bridges) (C := RX0) (T := TX0) (N := 8) hx hb htg ig_0 hown hK hP 0 rfl rfl 2 (by decide) (htg _ q_103) (fun _ h9 => h9) rfl dX0_bearsAll_74 ?_
      refine lv_iload_n hx hb dX0_bearsAll_77 rfl (lv_at hl 4 rfl) ?_
      refine lv_bipush (v := 8) hx hb dX0_bearsAll_78 (by decide) ?_
      refine lv_iadd hx hb dX0_bearsAll_80 ?_
      refine va_iald hx hb hK hP 1 0 rfl rfl (oh_sh (K := 10) (N := 16) h0 (show vp_in 8 10 by unfold vp_in; decide) rfl (by decide) (by decide)) dX0_bearsAll_81 ?_
      refine lv_if_ne (tgt := 99) hx hb dX0_bearsAll_82 (by decide) (fun (c_3 : ¬ ((fb ((v_b * 10) + 8).toNatClampNeg) = 0)) => ?_) (fun (c_3 : (fb ((v_b * 10) + 8).toNatClampNeg) = 0) => ?_)
      · refine lv_iload hx hb dX0_bearsAll_99 (lv_at hl 0 rfl) ?_
        exact W.iret (v := fX0_believed (v_b * 10) ((fb ((v_b * 10) + 4).toNatClampNeg) + ((fb ((v_b * 10) + 4).toNatClampNeg) / 10)) fb fs) hx hb hr (fun t ht hW => ⟨fX0_believed (v_b * 10) ((fb ((v_b * 10) + 4).toNatClampNeg) + ((fb ((v_b * 10) + 4).toNatClampNeg) / 10)) fb fs, rfl, by unfold fX0_bearsAll; rw [if_pos c_1, if_neg c_2, if_neg c_3], ht⟩) (fun q h => by cases h) dX0_bearsAll_101
      · refine lv_iload hx hb dX0_bearsAll_85 (lv_at hl 0 rfl) ?_
        refine lv_aload_n hx hb dX0_bearsAll_87 rfl (lv_at hl 5 rfl) ?_
        refine va_get (D := D) (ci := 0) (v := .ref a0_bridges) (C := RX0) (T := TX0) (N := 8) hx hb htg ig_0 hown hK hP 0 rfl rfl 2 (by decide) (htg _ q_103) (fun _ h9 => h9) rfl dX0_bearsAll_88 ?_
        refine lv_iload_n hx hb dX0_bearsAll_91 rfl (lv_at hl 4 rfl) ?_
        refine lv_iconst (v := 5) hx hb dX0_bearsAll_92 (by decide) ?_
        refine lv_iadd hx hb dX0_bearsAll_93 ?_
        refine va_iald hx hb hK hP 1 0 rfl rfl (oh_sh (K := 10) (N := 16) h0 (show vp_in 5 10 by unfold vp_in; decide) rfl (by decide) (by decide)) dX0_bearsAll_94 ?_
        refine lv_iadd hx hb dX0_bearsAll_95 ?_
        refine lv_goto (tgt := 101) hx hb dX0_bearsAll_96 (by decide) ?_
        exact W.iret (v := (fX0_believed (v_b * 10) ((fb ((v_b * 10) + 4).toNatClampNeg) + ((fb ((v_b * 10) + 4).toNatClampNeg) / 10)) fb fs) + (fb ((v_b * 10) + 5).toNatClampNeg)) hx hb hr (fun t ht hW => ⟨(fX0_believed (v_b * 10) ((fb ((v_b * 10) + 4).toNatClampNeg) + ((fb ((v_b * 10) + 4).toNatClampNeg) / 10)) fb fs) + (fb ((v_b * 10) + 5).toNatClampNeg), rfl, by unfold fX0_bearsAll; rw [if_pos c_1, if_neg c_2, if_pos c_3], ht⟩) (fun q h => by cases h) dX0_bearsAll_101
  · refine lv_iload hx hb dX0_bearsAll_31 (lv_at hl 1 rfl) ?_
    refine lv_iconst (v := 2) hx hb dX0_bearsAll_33 (by decide) ?_
    refine lv_icmp_ne (tgt := 41) hx hb dX0_bearsAll_34 (by decide) (fun (c_4 : ¬ ((fb ((v_b * 10) + 1).toNatClampNeg) = 2)) => ?_) (fun (c_4 : (fb ((v_b * 10) + 1).toNatClampNeg) = 2) => ?_)
    · refine lv_iconst (v := 0) hx hb dX0_bearsAll_41 (by decide) ?_
      refine lv_istore (lv' := [(6, .int 0), (5, .int (fb ((v_b * 10) + 4).toNatClampNeg)), (4, .int (fb ((v_b * 10) + 1).toNatClampNeg)), (3, .int (v_b * 10)), (0, .ref a0), (1, .int v_b), (2, .int v_p)]) hx hb dX0_bearsAll_42 hl (by decide) rfl (fun ls hl => ?_)
      refine lv_aload_n hx hb dX0_bearsAll_44 rfl (lv_at hl 4 rfl) ?_
      refine lv_iload_n hx hb dX0_bearsAll_45 rfl (lv_at hl 3 rfl) ?_
      refine lv_iload hx hb dX0_bearsAll_46 (lv_at hl 0 rfl) ?_
      refine lv_if_eq (tgt := 62) hx hb dX0_bearsAll_48 (by decide) (fun _ => ?_) (fun c => absurd (show (0 : Int32) = 0 from by decide) c)
      refine lv_iload hx hb dX0_bearsAll_62 (lv_at hl 1 rfl) ?_
      refine oh_pV (As := [.int (v_b * 10), .int (fb ((v_b * 10) + 4).toNatClampNeg)]) (rest := []) (v := fX0_believed (v_b * 10) (fb ((v_b * 10) + 4).toNatClampNeg) fb fs) ⟨hx, hb, hml, hown, htg⟩ (c_X0_believed l D E G a0 (v_b * 10) (fb ((v_b * 10) + 4).toNatClampNeg) a0_counts a0_roads a0_bridges a0_waggons a0_parts a0_settings a0_trip v_ow fb fs (oh_sh (K := 10) (N := 16) h0 (show vp_in 1 10 by unfold vp_in; decide) rfl (by decide) (by decide)) (oh_sh (K := 10) (N := 16) h0 (show vp_in 8 10 by unfold vp_in; decide) rfl (by decide) (by decide)) (oh_sh (K := 10) (N := 16) h0 (show vp_in 9 10 by unfold vp_in; decide) rfl (by decide) (by decide))) (cwV 2 htg (oh_gV q_397 q_399 q_4 q_67 q_400) rfl rfl rfl pdVX0_believed ⟨Nat.le_of_ble_eq_true rfl, Nat.le_of_ble_eq_true rfl⟩) hK (hP.sub (ws' := [(a0, .inr (0, [.ref a0_counts, .ref a0_roads, .ref a0_bridges, .ref a0_waggons, .ref a0_parts, .ref a0_settings, .ref a0_trip, .int v_ow])), (a0_bridges, .inl (E 0, 160, .inl fb)), (a0_settings, .inl (E 0, 3, .inl fs))]) [0, 1, 2] rfl) hG hS (va_recv hK hP (ci := 0) (q0 := 0) rfl rfl) rfl hl.1 rfl (Nat.le_of_ble_eq_true rfl) dX0_bearsAll_64 ⟨Nat.le_of_ble_eq_true rfl, Nat.le_of_ble_eq_true rfl⟩ ?_
      refine lv_istore (lv' := [(7, .int (fX0_believed (v_b * 10) (fb ((v_b * 10) + 4).toNatClampNeg) fb fs)), (6, .int 0), (5, .int (fb ((v_b * 10) + 4).toNatClampNeg)), (4, .int (fb ((v_b * 10) + 1).toNatClampNeg)), (3, .int (v_b * 10)), (0, .ref a0), (1, .int v_b), (2, .int v_p)]) hx hb dX0_bearsAll_67 hl (by decide) rfl (fun ls hl => ?_)
      refine lv_iload_n hx hb dX0_bearsAll_69 rfl (lv_at hl 7 rfl) ?_
      refine lv_if_eq (tgt := 99) hx hb dX0_bearsAll_70 (by decide) (fun (c_5 : v_p = 0) => ?_) (fun (c_5 : ¬ (v_p = 0)) => ?_)
      · refine lv_iload hx hb dX0_bearsAll_99 (lv_at hl 0 rfl) ?_
        exact W.iret (v := fX0_believed (v_b * 10) (fb ((v_b * 10) + 4).toNatClampNeg) fb fs) hx hb hr (fun t ht hW => ⟨fX0_believed (v_b * 10) (fb ((v_b * 10) + 4).toNatClampNeg) fb fs, rfl, by unfold fX0_bearsAll; rw [if_neg c_1, if_neg c_4, if_pos c_5], ht⟩) (fun q h => by cases h) dX0_bearsAll_101
      · refine lv_aload_n hx hb dX0_bearsAll_73 rfl (lv_at hl 5 rfl) ?_
        refine va_get (D := D) (ci := 0) (v := .ref a0_bridges) (C := RX0) (T := TX0) (N := 8) hx hb htg ig_0 hown hK hP 0 rfl rfl 2 (by decide) (htg _ q_103) (fun _ h9 => h9) rfl dX0_bearsAll_74 ?_
        refine lv_iload_n hx hb dX0_bearsAll_77 rfl (lv_at hl 4 rfl) ?_
        refine lv_bipush (v := 8) hx hb dX0_bearsAll_78 (by decide) ?_
        refine lv_iadd hx hb dX0_bearsAll_80 ?_
        refine va_iald hx hb hK hP 1 0 rfl rfl (oh_sh (K := 10) (N := 16) h0 (show vp_in 8 10 by unfold vp_in; decide) rfl (by decide) (by decide)) dX0_bearsAll_81 ?_
        refine lv_if_ne (tgt := 99) hx hb dX0_bearsAll_82 (by decide) (fun (c_6 : ¬ ((fb ((v_b * 10) + 8).toNatClampNeg) = 0)) => ?_) (fun (c_6 : (fb ((v_b * 10) + 8).toNatClampNeg) = 0) => ?_)
        · refine lv_iload hx hb dX0_bearsAll_99 (lv_at hl 0 rfl) ?_
          exact W.iret (v := fX0_believed (v_b * 10) (fb ((v_b * 10) + 4).toNatClampNeg) fb fs) hx hb hr (fun t ht hW => ⟨fX0_believed (v_b * 10) (fb ((v_b * 10) + 4).toNatClampNeg) fb fs, rfl, by unfold fX0_bearsAll; rw [if_neg c_1, if_neg c_4, if_neg c_5, if_neg c_6], ht⟩) (fun q h => by cases h) dX0_bearsAll_101
        · refine lv_iload hx hb dX0_bearsAll_85 (lv_at hl 0 rfl) ?_
          refine lv_aload_n hx hb dX0_bearsAll_87 rfl (lv_at hl 5 rfl) ?_
          refine va_get (D := D) (ci := 0) (v := .ref a0_bridges) (C := RX0) (T := TX0) (N := 8) hx hb htg ig_0 hown hK hP 0 rfl rfl 2 (by decide) (htg _ q_103) (fun _ h9 => h9) rfl dX0_bearsAll_88 ?_
          refine lv_iload_n hx hb dX0_bearsAll_91 rfl (lv_at hl 4 rfl) ?_
          refine lv_iconst (v := 5) hx hb dX0_bearsAll_92 (by decide) ?_
          refine lv_iadd hx hb dX0_bearsAll_93 ?_
          refine va_iald hx hb hK hP 1 0 rfl rfl (oh_sh (K := 10) (N := 16) h0 (show vp_in 5 10 by unfold vp_in; decide) rfl (by decide) (by decide)) dX0_bearsAll_94 ?_
          refine lv_iadd hx hb dX0_bearsAll_95 ?_
          refine lv_goto (tgt := 101) hx hb dX0_bearsAll_96 (by decide) ?_
          exact W.iret (v := (fX0_believed (v_b * 10) (fb ((v_b * 10) + 4).toNatClampNeg) fb fs) + (fb ((v_b * 10) + 5).toNatClampNeg)) hx hb hr (fun t ht hW => ⟨(fX0_believed (v_b * 10) (fb ((v_b * 10) + 4).toNatClampNeg) fb fs) + (fb ((v_b * 10) + 5).toNatClampNeg), rfl, by unfold fX0_bearsAll; rw [if_neg c_1, if_neg c_4, if_neg c_5, if_pos c_6], ht⟩) (fun q h => by cases h) dX0_bearsAll_101
    · refine lv_iconst (v := 1) hx hb dX0_bearsAll_37 (by decide) ?_
      refine lv_goto (tgt := 42) hx hb dX0_bearsAll_38 (by decide) ?_
      refine lv_istore (lv' := [(6, .int 1), (5, .int (fb ((v_b * 10) + 4).toNatClampNeg)), (4, .int (fb ((v_b * 10) + 1).toNatClampNeg)), (3, .int (v_b * 10)), (0, .ref a0), (1, .int v_b), (2, .int v_p)]) hx hb dX0_bearsAll_42 hl (by decide) rfl (fun ls hl => ?_)
      refine lv_aload_n hx hb dX0_bearsAll_44 rfl (lv_at hl 4 rfl) ?_
      refine lv_iload_n hx hb dX0_bearsAll_45 rfl (lv_at hl 3 rfl) ?_
      refine lv_iload hx hb dX0_bearsAll_46 (lv_at hl 0 rfl) ?_
      refine lv_if_eq (tgt := 62) hx hb dX0_bearsAll_48 (by decide) (fun c => absurd c (show ¬ ((1 : Int32) = 0) from by decide)) (fun _ => ?_)
      refine lv_iload hx hb dX0_bearsAll_51 (lv_at hl 1 rfl) ?_
      refine lv_iload hx hb dX0_bearsAll_53 (lv_at hl 1 rfl) ?_
      refine lv_bipush (v := 10) hx hb dX0_bearsAll_55 (by decide) ?_
      refine lv_idiv hx hb dX0_bearsAll_57 (by decide) ?_
      refine lv_iadd hx hb dX0_bearsAll_58 ?_
      refine lv_goto (tgt := 64) hx hb dX0_bearsAll_59 (by decide) ?_
      refine oh_pV (As := [.int (v_b * 10), .int ((fb ((v_b * 10) + 4).toNatClampNeg) + ((fb ((v_b * 10) + 4).toNatClampNeg) / 10))]) (rest := []) (v := fX0_believed (v_b * 10) ((fb ((v_b * 10) + 4).toNatClampNeg) + ((fb ((v_b * 10) + 4).toNatClampNeg) / 10)) fb fs) ⟨hx, hb, hml, hown, htg⟩ (c_X0_believed l D E G a0 (v_b * 10) ((fb ((v_b * 10) + 4).toNatClampNeg) + ((fb ((v_b * 10) + 4).toNatClampNeg) / 10)) a0_counts a0_roads a0_bridges a0_waggons a0_parts a0_settings a0_trip v_ow fb fs (oh_sh (K := 10) (N := 16) h0 (show vp_in 1 10 by unfold vp_in; decide) rfl (by decide) (by decide)) (oh_sh (K := 10) (N := 16) h0 (show vp_in 8 10 by unfold vp_in; decide) rfl (by decide) (by decide)) (oh_sh (K := 10) (N := 16) h0 (show vp_in 9 10 by unfold vp_in; decide) rfl (by decide) (by decide))) (cwV 2 htg (oh_gV q_397 q_399 q_4 q_67 q_400) rfl rfl rfl pdVX0_believed ⟨Nat.le_of_ble_eq_true rfl, Nat.le_of_ble_eq_true rfl⟩) hK (hP.sub (ws' := [(a0, .inr (0, [.ref a0_counts, .ref a0_roads, .ref a0_bridges, .ref a0_waggons, .ref a0_parts, .ref a0_settings, .ref a0_trip, .int v_ow])), (a0_bridges, .inl (E 0, 160, .inl fb)), (a0_settings, .inl (E 0, 3, .inl fs))]) [0, 1, 2] rfl) hG hS (va_recv hK hP (ci := 0) (q0 := 0) rfl rfl) rfl hl.1 rfl (Nat.le_of_ble_eq_true rfl) dX0_bearsAll_64 ⟨Nat.le_of_ble_eq_true rfl, Nat.le_of_ble_eq_true rfl⟩ ?_
      refine lv_istore (lv' := [(7, .int (fX0_believed (v_b * 10) ((fb ((v_b * 10) + 4).toNatClampNeg) + ((fb ((v_b * 10) + 4).toNatClampNeg) / 10)) fb fs)), (6, .int 1), (5, .int (fb ((v_b * 10) + 4).toNatClampNeg)), (4, .int (fb ((v_b * 10) + 1).toNatClampNeg)), (3, .int (v_b * 10)), (0, .ref a0), (1, .int v_b), (2, .int v_p)]) hx hb dX0_bearsAll_67 hl (by decide) rfl (fun ls hl => ?_)
      refine lv_iload_n hx hb dX0_bearsAll_69 rfl (lv_at hl 7 rfl) ?_
      refine lv_if_eq (tgt := 99) hx hb dX0_bearsAll_70 (by decide) (fun (c_7 : v_p = 0) => ?_) (fun (c_7 : ¬ (v_p = 0)) => ?_)
      · refine lv_iload hx hb dX0_bearsAll_99 (lv_at hl 0 rfl) ?_
        exact W.iret (v := fX0_believed (v_b * 10) ((fb ((v_b * 10) + 4).toNatClampNeg) + ((fb ((v_b * 10) + 4).toNatClampNeg) / 10)) fb fs) hx hb hr (fun t ht hW => ⟨fX0_believed (v_b * 10) ((fb ((v_b * 10) + 4).toNatClampNeg) + ((fb ((v_b * 10) + 4).toNatClampNeg) / 10)) fb fs, rfl, by unfold fX0_bearsAll; rw [if_neg c_1, if_pos c_4, if_pos c_7], ht⟩) (fun q h => by cases h) dX0_bearsAll_101
      · refine lv_aload_n hx hb dX0_bearsAll_73 rfl (lv_at hl 5 rfl) ?_
        refine va_get (D := D) (ci := 0) (v := .ref a0_bridges) (C := RX0) (T := TX0) (N := 8) hx hb htg ig_0 hown hK hP 0 rfl rfl 2 (by decide) (htg _ q_103) (fun _ h9 => h9) rfl dX0_bearsAll_74 ?_
        refine lv_iload_n hx hb dX0_bearsAll_77 rfl (lv_at hl 4 rfl) ?_
        refine lv_bipush (v := 8) hx hb dX0_bearsAll_78 (by decide) ?_
        refine lv_iadd hx hb dX0_bearsAll_80 ?_
        refine va_iald hx hb hK hP 1 0 rfl rfl (oh_sh (K := 10) (N := 16) h0 (show vp_in 8 10 by unfold vp_in; decide) rfl (by decide) (by decide)) dX0_bearsAll_81 ?_
        refine lv_if_ne (tgt := 99) hx hb dX0_bearsAll_82 (by decide) (fun (c_8 : ¬ ((fb ((v_b * 10) + 8).toNatClampNeg) = 0)) => ?_) (fun (c_8 : (fb ((v_b * 10) + 8).toNatClampNeg) = 0) => ?_)
        · refine lv_iload hx hb dX0_bearsAll_99 (lv_at hl 0 rfl) ?_
          exact W.iret (v := fX0_believed (v_b * 10) ((fb ((v_b * 10) + 4).toNatClampNeg) + ((fb ((v_b * 10) + 4).toNatClampNeg) / 10)) fb fs) hx hb hr (fun t ht hW => ⟨fX0_believed (v_b * 10) ((fb ((v_b * 10) + 4).toNatClampNeg) + ((fb ((v_b * 10) + 4).toNatClampNeg) / 10)) fb fs, rfl, by unfold fX0_bearsAll; rw [if_neg c_1, if_pos c_4, if_neg c_7, if_neg c_8], ht⟩) (fun q h => by cases h) dX0_bearsAll_101
        · refine lv_iload hx hb dX0_bearsAll_85 (lv_at hl 0 rfl) ?_
          refine lv_aload_n hx hb dX0_bearsAll_87 rfl (lv_at hl 5 rfl) ?_
          refine va_get (D := D) (ci := 0) (v := .ref a0_bridges) (C := RX0) (T := TX0) (N := 8) hx hb htg ig_0 hown hK hP 0 rfl rfl 2 (by decide) (htg _ q_103) (fun _ h9 => h9) rfl dX0_bearsAll_88 ?_
          refine lv_iload_n hx hb dX0_bearsAll_91 rfl (lv_at hl 4 rfl) ?_
          refine lv_iconst (v := 5) hx hb dX0_bearsAll_92 (by decide) ?_
          refine lv_iadd hx hb dX0_bearsAll_93 ?_
          refine va_iald hx hb hK hP 1 0 rfl rfl (oh_sh (K := 10) (N := 16) h0 (show vp_in 5 10 by unfold vp_in; decide) rfl (by decide) (by decide)) dX0_bearsAll_94 ?_
          refine lv_iadd hx hb dX0_bearsAll_95 ?_
          refine lv_goto (tgt := 101) hx hb dX0_bearsAll_96 (by decide) ?_
          exact W.iret (v := (fX0_believed (v_b * 10) ((fb ((v_b * 10) + 4).toNatClampNeg) + ((fb ((v_b * 10) + 4).toNatClampNeg) / 10)) fb fs) + (fb ((v_b * 10) + 5).toNatClampNeg)) hx hb hr (fun t ht hW => ⟨(fX0_believed (v_b * 10) ((fb ((v_b * 10) + 4).toNatClampNeg) + ((fb ((v_b * 10) + 4).toNatClampNeg) / 10)) fb fs) + (fb ((v_b * 10) + 5).toNatClampNeg), rfl, by unfold fX0_bearsAll; rw [if_neg c_1, if_pos c_4, if_neg c_7, if_pos c_8], ht⟩) (fun q h => by cases h) dX0_bearsAll_101
def fX0_hasRoom (v_t : Int32) (fc : Nat → Int32) : Int32 :=
  if (oh_room (v_t).toNatClampNeg) ≤ (fc (v_t).toNatClampNeg) then 0 else 1
theorem fX0_hasRoom_b (v_t : Int32) (fc : Nat → Int32) : fX0_hasRoom v_t fc = 0 ∨ fX0_hasRoom v_t fc = 1 := by
  unfold fX0_hasRoom
  repeat' split
  all_goals first | exact Or.inl rfl | exact Or.inr rfl
set_option maxHeartbeats 4000000 in
set_option maxRecDepth 100000 in
theorem c_X0_hasRoom (l : Launch) (D : va_G) (E : Nat → ClassId) (G : Nat → Nat) (a0 : Nat) (v_t : Int32) (a0_counts : Nat) (a0_roads : Nat) (a0_bridges : Nat) (a0_waggons : Nat) (a0_parts : Nat) (a0_settings : Nat) (a0_trip : Nat) (v_ow : Int32) (fc : Nat → Int32) (h0 : vp_in v_t 4) : Met l yX0_hasRoom (oh_w yX0_hasRoom cX0_hasRoom 2 (some .boolean)) ({ frames := 0, cells := 0, slots := 0, locals := 0 }) (oh_Pp D E G [.ref a0, .int v_t] [(a0, .inr (0, [.ref a0_counts, .ref a0_roads, .ref a0_bridges, .ref a0_waggons, .ref a0_parts, .ref a0_settings, .ref a0_trip, .int v_ow])), (a0_counts, .inl (E 0, 4, .inl fc))]) (vp_Si (fun r => r = fX0_hasRoom v_t fc)) 0 0 (fun _ => False) := by
  refine Met.ofW (cc := cX0_hasRoom) (maxL := 2) (ret := (some .boolean)) (by decide) rfl ?_
  intro p e s m args below meth c s₁ B hml hv
  obtain ⟨rfl, hP, hK, hG⟩ := hv
  have hx := B.exec
  have hb := B.bytes
  have hr := B.returns
  have hts := atoms_spec (ws := (oh_w yX0_hasRoom cX0_hasRoom 2 (some .boolean))) B.pre
  have htg : ∀ w ∈ oh_t, w.before _ s = true := fun w h => hts w (List.mem_cons_of_mem _ h)
  have hown : s.vm.findClass RX0 = some m.cls := findClass_of_methodNamed B.named
  have hlocks := B.notSynchronized
  have hS : va_S (fun _ => False) s.heap s.heap [] := va_S.rf
  have hl := lv_entry ([.ref a0, .int v_t]) (n := 2) (Nat.le_of_ble_eq_true rfl)
  rw [lg_entry_eq]
  generalize (lg_sl ([.ref a0, .int v_t]) ++ List.replicate (2 - (lg_sl ([.ref a0, .int v_t])).length) Slot.unset).toArray = ls at hl ⊢
  have hl : lv_has ls 2 [(0, .ref a0), (1, .int v_t)] := hl
  refine lv_aload_n hx hb dX0_hasRoom_0 rfl (lv_at hl 0 rfl) ?_
  refine va_get (D := D) (ci := 0) (v := .ref a0_counts) (C := RX0) (T := TX0) (N := 8) hx hb htg ig_0 hown hK hP 0 rfl rfl 0 (by decide) (htg _ q_97) (fun _ h9 => h9) rfl dX0_hasRoom_1 ?_
  refine lv_iload_n hx hb dX0_hasRoom_4 rfl (lv_at hl 1 rfl) ?_
  refine va_iald hx hb hK hP 1 0 rfl rfl h0 dX0_hasRoom_5 ?_
  refine va_getsN hx hb hG.2.2.2.1.1 hS hown (va_Nw.use rfl (hG.2.1 ("OneHeavyLoad$Land", 9, "OneHeavyLoad", "ROOM", "[I", "OneHeavyLoad") (List.mem_of_getElem? (i := 0) rfl))) (fun _ h9 => h9) dX0_hasRoom_6 ?_
  refine lv_iload_n hx hb dX0_hasRoom_9 rfl (lv_at hl 1 rfl) ?_
  refine va_ti (v := .int (oh_room (v_t).toNatClampNeg)) hx hb hG.2.2.2.1.2 hS h0 rfl dX0_hasRoom_10 ?_
  refine lv_icmp_ge (tgt := 18) hx hb dX0_hasRoom_11 (by decide) (fun (c_1 : (oh_room (v_t).toNatClampNeg) ≤ (fc (v_t).toNatClampNeg)) => ?_) (fun (c_1 : ¬ ((oh_room (v_t).toNatClampNeg) ≤ (fc (v_t).toNatClampNeg))) => ?_)
  · refine lv_iconst (v := 0) hx hb dX0_hasRoom_18 (by decide) ?_
    exact W.zret (v := 0) (ty := .boolean) hx hb hr (by decide) (fun t ht hW => ⟨0, rfl, by unfold fX0_hasRoom; rw [if_pos c_1], ht⟩) (fun q h => by cases h) dX0_hasRoom_19
  · refine lv_iconst (v := 1) hx hb dX0_hasRoom_14 (by decide) ?_
    refine lv_goto (tgt := 19) hx hb dX0_hasRoom_15 (by decide) ?_
    exact W.zret (v := 1) (ty := .boolean) hx hb hr (by decide) (fun t ht hW => ⟨1, rfl, by unfold fX0_hasRoom; rw [if_neg c_1], ht⟩) (fun q h => by cases h) dX0_hasRoom_19
set_option maxHeartbeats 4000000 in
set_option maxRecDepth 100000 in
theorem c_X0_putBridgeColumn (l : Launch) (D : va_G) (E : Nat → ClassId) (G : Nat → Nat) (sz : Nat) (a0 : Nat) (v_a : Int32) (v_b : Int32) (v_c : Int32) (a0_counts : Nat) (a0_roads : Nat) (a0_bridges : Nat) (a0_waggons : Nat) (a0_parts : Nat) (a0_settings : Nat) (a0_trip : Nat) (v_ow : Int32) (fb : Nat → Int32) (h0 : vp_in v_a 16) (h1 : vp_in v_b 10) : Met l yX0_putBridgeColumn (oh_w yX0_putBridgeColumn cX0_putBridgeColumn 4 none) ({ frames := 0, cells := 0, slots := 0, locals := 0 }) (oh_Pm D E G [.ref a0, .int v_a, .int v_b, .int v_c] [(a0, .inr (0, [.ref a0_counts, .ref a0_roads, .ref a0_bridges, .ref a0_waggons, .ref a0_parts, .ref a0_settings, .ref a0_trip, .int v_ow])), (a0_bridges, .inl (E 0, 160, .inl fb))] sz) (va_Qv (fun (_ : Unit) => True) (oh_B D (va_A [(a0, .inr (0, [.ref a0_counts, .ref a0_roads, .ref a0_bridges, .ref a0_waggons, .ref a0_parts, .ref a0_settings, .ref a0_trip, .int v_ow])), (a0_bridges, .inl (E 0, 160, .inl fb))] sz) (fun _ => [(a0, .inr (0, [.ref a0_counts, .ref a0_roads, .ref a0_bridges, .ref a0_waggons, .ref a0_parts, .ref a0_settings, .ref a0_trip, .int v_ow])), (a0_bridges, .inl (E 0, 160, .inl (upd fb (((v_a * 10) + v_b).toNatClampNeg) v_c)))])) (va_A [(a0, .inr (0, [.ref a0_counts, .ref a0_roads, .ref a0_bridges, .ref a0_waggons, .ref a0_parts, .ref a0_settings, .ref a0_trip, .int v_ow])), (a0_bridges, .inl (E 0, 160, .inl fb))] sz)) 0 0 (va_A [(a0, .inr (0, [.ref a0_counts, .ref a0_roads, .ref a0_bridges, .ref a0_waggons, .ref a0_parts, .ref a0_settings, .ref a0_trip, .int v_ow])), (a0_bridges, .inl (E 0, 160, .inl fb))] sz) := by
  refine Met.ofW (cc := cX0_putBridgeColumn) (maxL := 4) (ret := none) (by decide) rfl ?_
  intro p e s m args below meth c s₁ B hml hv
  obtain ⟨rfl, hsz, hP, hK, hD0, hG⟩ := hv
  have hx := B.exec
  have hb := B.bytes
  have hr := B.returns
  have hts := atoms_spec (ws := (oh_w yX0_putBridgeColumn cX0_putBridgeColumn 4 none)) B.pre
  have htg : ∀ w ∈ oh_t, w.before _ s = true := fun w h => hts w (List.mem_cons_of_mem _ h)
  have hown : s.vm.findClass RX0 = some m.cls := findClass_of_methodNamed B.named
  have hlocks := B.notSynchronized
  subst hsz
  have hD := hD0.self (sz := s.heap.size)
  generalize hAe : va_A [(a0, .inr (0, [.ref a0_counts, .ref a0_roads, .ref a0_bridges, .ref a0_waggons, .ref a0_parts, .ref a0_settings, .ref a0_trip, .int v_ow])), (a0_bridges, .inl (E 0, 160, .inl fb))] s.heap.size = A at hD hG ⊢
  have hA : ∀ q : Nat, s.heap.size ≤ q → A q := fun q h => by rw [← hAe]; exact Or.inr h
  have hS : va_S A s.heap s.heap [] := va_S.rf
  have hP : va_P D vwCl [(a0, .inr (0, [.ref a0_counts, .ref a0_roads, .ref a0_bridges, .ref a0_waggons, .ref a0_parts, .ref a0_settings, .ref a0_trip, .int v_ow])), (a0_bridges, .inl (E 0, 160, .inl fb))] s.heap := hP
  have hl := lv_entry ([.ref a0, .int v_a, .int v_b, .int v_c]) (n := 4) (Nat.le_of_ble_eq_true rfl)
  rw [lg_entry_eq]
  generalize (lg_sl ([.ref a0, .int v_a, .int v_b, .int v_c]) ++ List.replicate (4 - (lg_sl ([.ref a0, .int v_a, .int v_b, .int v_c])).length) Slot.unset).toArray = ls at hl ⊢
  have hl : lv_has ls 4 [(0, .ref a0), (1, .int v_a), (2, .int v_b), (3, .int v_c)] := hl
  refine lv_aload_n hx hb dX0_putBridgeColumn_0 rfl (lv_at hl 0 rfl) ?_
  refine va_get (D := D) (ci := 0) (v := .ref a0_bridges) (C := RX0) (T := TX0) (N := 8) hx hb htg ig_0 hown hK hP 0 rfl rfl 2 (by decide) (htg _ q_103) (fun _ h9 => h9) rfl dX0_putBridgeColumn_1 ?_
  refine lv_iload_n hx hb dX0_putBridgeColumn_4 rfl (lv_at hl 1 rfl) ?_
  refine lv_bipush (v := 10) hx hb dX0_putBridgeColumn_5 (by decide) ?_
  refine lv_imul hx hb dX0_putBridgeColumn_7 ?_
  refine lv_iload_n hx hb dX0_putBridgeColumn_8 rfl (lv_at hl 2 rfl) ?_
  refine lv_iadd hx hb dX0_putBridgeColumn_9 ?_
  refine lv_iload_n hx hb dX0_putBridgeColumn_10 rfl (lv_at hl 3 rfl) ?_
  refine va_iast hx hb hK hP hD hS 1 0 rfl rfl (oh_sh (K := 10) (N := 16) h0 h1 rfl (by decide) (by decide)) dX0_putBridgeColumn_11 (fun H locs hP hD hS => ?_)
  have hP : va_P D vwCl [(a0, .inr (0, [.ref a0_counts, .ref a0_roads, .ref a0_bridges, .ref a0_waggons, .ref a0_parts, .ref a0_settings, .ref a0_trip, .int v_ow])), (a0_bridges, .inl (E 0, 160, .inl (upd fb (((v_a * 10) + v_b).toNatClampNeg) v_c)))] H := hP
  have hD : va_D A [(a0, .inr (0, [.ref a0_counts, .ref a0_roads, .ref a0_bridges, .ref a0_waggons, .ref a0_parts, .ref a0_settings, .ref a0_trip, .int v_ow])), (a0_bridges, .inl (E 0, 160, .inl (upd fb (((v_a * 10) + v_b).toNatClampNeg) v_c)))] := hD
  refine W.widen (k := 0) (n := 0) (Nat.le_of_ble_eq_true rfl) (Nat.le_of_ble_eq_true rfl) ?_
  exact W.vret hx hb hr (fun t ht hW => ⟨⟨(), rfl, trivial, ⟨by rw [ht]; exact hP.sub [0, 1] rfl, hD.sub [0, 1] (by decide) rfl⟩⟩, hS.F ht⟩) hS.2.2 dX0_putBridgeColumn_12
set_option maxHeartbeats 4000000 in
set_option maxRecDepth 100000 in
theorem c_X0_putProp (l : Launch) (D : va_G) (E : Nat → ClassId) (G : Nat → Nat) (sz : Nat) (a0 : Nat) (v_a : Int32) (v_b : Int32) (v_c : Int32) (a0_counts : Nat) (a0_roads : Nat) (a0_bridges : Nat) (a0_waggons : Nat) (a0_parts : Nat) (a0_settings : Nat) (a0_trip : Nat) (v_ow : Int32) (fb : Nat → Int32) (h0 : vp_in v_a 16) : Met l yX0_putProp (oh_w yX0_putProp cX0_putProp 4 none) ({ frames := 1, cells := 0, slots := 0, locals := 23 }) (oh_Pm D E G [.ref a0, .int v_a, .int v_b, .int v_c] [(a0, .inr (0, [.ref a0_counts, .ref a0_roads, .ref a0_bridges, .ref a0_waggons, .ref a0_parts, .ref a0_settings, .ref a0_trip, .int v_ow])), (a0_bridges, .inl (E 0, 160, .inl fb))] sz) (va_Qv (fun (_ : Unit) => True) (oh_B D (va_A [(a0, .inr (0, [.ref a0_counts, .ref a0_roads, .ref a0_bridges, .ref a0_waggons, .ref a0_parts, .ref a0_settings, .ref a0_trip, .int v_ow])), (a0_bridges, .inl (E 0, 160, .inl fb))] sz) (fun _ => [(a0, .inr (0, [.ref a0_counts, .ref a0_roads, .ref a0_bridges, .ref a0_waggons, .ref a0_parts, .ref a0_settings, .ref a0_trip, .int v_ow])), (a0_bridges, .inl (E 0, 160, .inl (upd (upd fb (((v_a * 10) + 5).toNatClampNeg) v_b) (((v_a * 10) + 6).toNatClampNeg) v_c)))])) (va_A [(a0, .inr (0, [.ref a0_counts, .ref a0_roads, .ref a0_bridges, .ref a0_waggons, .ref a0_parts, .ref a0_settings, .ref a0_trip, .int v_ow])), (a0_bridges, .inl (E 0, 160, .inl fb))] sz)) 0 0 (va_A [(a0, .inr (0, [.ref a0_counts, .ref a0_roads, .ref a0_bridges, .ref a0_waggons, .ref a0_parts, .ref a0_settings, .ref a0_trip, .int v_ow])), (a0_bridges, .inl (E 0, 160, .inl fb))] sz) := by
  refine Met.ofW (cc := cX0_putProp) (maxL := 4) (ret := none) (by decide) rfl ?_
  intro p e s m args below meth c s₁ B hml hv
  obtain ⟨rfl, hsz, hP, hK, hD0, hG⟩ := hv
  have hx := B.exec
  have hb := B.bytes
  have hr := B.returns
  have hts := atoms_spec (ws := (oh_w yX0_putProp cX0_putProp 4 none)) B.pre
  have htg : ∀ w ∈ oh_t, w.before _ s = true := fun w h => hts w (List.mem_cons_of_mem _ h)
  have hown : s.vm.findClass RX0 = some m.cls := findClass_of_methodNamed B.named
  have hlocks := B.notSynchronized
  subst hsz
  have hD := hD0.self (sz := s.heap.size)
  generalize hAe : va_A [(a0, .inr (0, [.ref a0_counts, .ref a0_roads, .ref a0_bridges, .ref a0_waggons, .ref a0_parts, .ref a0_settings, .ref a0_trip, .int v_ow])), (a0_bridges, .inl (E 0, 160, .inl fb))] s.heap.size = A at hD hG ⊢
  have hA : ∀ q : Nat, s.heap.size ≤ q → A q := fun q h => by rw [← hAe]; exact Or.inr h
  have hS : va_S A s.heap s.heap [] := va_S.rf
  have hP : va_P D vwCl [(a0, .inr (0, [.ref a0_counts, .ref a0_roads, .ref a0_bridges, .ref a0_waggons, .ref a0_parts, .ref a0_settings, .ref a0_trip, .int v_ow])), (a0_bridges, .inl (E 0, 160, .inl fb))] s.heap := hP
  have hl := lv_entry ([.ref a0, .int v_a, .int v_b, .int v_c]) (n := 4) (Nat.le_of_ble_eq_true rfl)
  rw [lg_entry_eq]
  generalize (lg_sl ([.ref a0, .int v_a, .int v_b, .int v_c]) ++ List.replicate (4 - (lg_sl ([.ref a0, .int v_a, .int v_b, .int v_c])).length) Slot.unset).toArray = ls at hl ⊢
  have hl : lv_has ls 4 [(0, .ref a0), (1, .int v_a), (2, .int v_b), (3, .int v_c)] := hl
  refine lv_aload_n hx hb dX0_putProp_0 rfl (lv_at hl 0 rfl) ?_
  refine lv_iload_n hx hb dX0_putProp_1 rfl (lv_at hl 1 rfl) ?_
  refine lv_iconst (v := 5) hx hb dX0_putProp_2 (by decide) ?_
  refine lv_iload_n hx hb dX0_putProp_3 rfl (lv_at hl 2 rfl) ?_
  refine oh_mVv (As := [.int v_a, .int 5, .int v_b]) (rest := []) (wr := []) ⟨hx, hb, hml, hown, htg⟩ (c_X0_putBridgeColumn l D E G s.heap.size a0 v_a 5 v_b a0_counts a0_roads a0_bridges a0_waggons a0_parts a0_settings a0_trip v_ow fb h0 (show vp_in 5 10 by unfold vp_in; decide)) (cwV 3 htg (oh_gV q_444 q_445 q_446 q_67 q_447) rfl rfl rfl pdVX0_putBridgeColumn ⟨Nat.le_of_ble_eq_true rfl, Nat.le_of_ble_eq_true rfl⟩) hK hP hD hG hS hA [0, 1] [] rfl rfl (by decide) (by decide) (by decide) (va_recv hK hP (ci := 0) (q0 := 0) rfl rfl) rfl hl.1 rfl (Nat.le_of_ble_eq_true rfl) dX0_putProp_4 ⟨Nat.le_of_ble_eq_true rfl, Nat.le_of_ble_eq_true rfl⟩ (fun u H locs hw hP hD hS => ?_)
  have hP : va_P D vwCl [(a0, .inr (0, [.ref a0_counts, .ref a0_roads, .ref a0_bridges, .ref a0_waggons, .ref a0_parts, .ref a0_settings, .ref a0_trip, .int v_ow])), (a0_bridges, .inl (E 0, 160, .inl (upd fb (((v_a * 10) + 5).toNatClampNeg) v_b)))] H := hP
  have hD : va_D A [(a0, .inr (0, [.ref a0_counts, .ref a0_roads, .ref a0_bridges, .ref a0_waggons, .ref a0_parts, .ref a0_settings, .ref a0_trip, .int v_ow])), (a0_bridges, .inl (E 0, 160, .inl (upd fb (((v_a * 10) + 5).toNatClampNeg) v_b)))] := hD
  refine W.widen (k := 0) (n := 0) (Nat.le_refl _) (Nat.le_refl _) ?_
  refine lv_aload_n hx hb dX0_putProp_7 rfl (lv_at hl 0 rfl) ?_
  refine lv_iload_n hx hb dX0_putProp_8 rfl (lv_at hl 1 rfl) ?_
  refine lv_bipush (v := 6) hx hb dX0_putProp_9 (by decide) ?_
  refine lv_iload_n hx hb dX0_putProp_11 rfl (lv_at hl 3 rfl) ?_
  refine oh_mVv (As := [.int v_a, .int 6, .int v_c]) (rest := []) (wr := []) ⟨hx, hb, hml, hown, htg⟩ (c_X0_putBridgeColumn l D E G H.size a0 v_a 6 v_c a0_counts a0_roads a0_bridges a0_waggons a0_parts a0_settings a0_trip v_ow (upd fb (((v_a * 10) + 5).toNatClampNeg) v_b) h0 (show vp_in 6 10 by unfold vp_in; decide)) (cwV 3 htg (oh_gV q_444 q_445 q_446 q_67 q_447) rfl rfl rfl pdVX0_putBridgeColumn ⟨Nat.le_of_ble_eq_true rfl, Nat.le_of_ble_eq_true rfl⟩) hK hP hD hG hS hA [0, 1] [] rfl rfl (by decide) (by decide) (by decide) (va_recv hK hP (ci := 0) (q0 := 0) rfl rfl) rfl hl.1 rfl (Nat.le_of_ble_eq_true rfl) dX0_putProp_12 ⟨Nat.le_of_ble_eq_true rfl, Nat.le_of_ble_eq_true rfl⟩ (fun u H locs hw hP hD hS => ?_)
  have hP : va_P D vwCl [(a0, .inr (0, [.ref a0_counts, .ref a0_roads, .ref a0_bridges, .ref a0_waggons, .ref a0_parts, .ref a0_settings, .ref a0_trip, .int v_ow])), (a0_bridges, .inl (E 0, 160, .inl (upd (upd fb (((v_a * 10) + 5).toNatClampNeg) v_b) (((v_a * 10) + 6).toNatClampNeg) v_c)))] H := hP
  have hD : va_D A [(a0, .inr (0, [.ref a0_counts, .ref a0_roads, .ref a0_bridges, .ref a0_waggons, .ref a0_parts, .ref a0_settings, .ref a0_trip, .int v_ow])), (a0_bridges, .inl (E 0, 160, .inl (upd (upd fb (((v_a * 10) + 5).toNatClampNeg) v_b) (((v_a * 10) + 6).toNatClampNeg) v_c)))] := hD
  refine W.widen (k := 0) (n := 0) (Nat.le_refl _) (Nat.le_refl _) ?_
  refine W.widen (k := 0) (n := 0) (Nat.le_of_ble_eq_true rfl) (Nat.le_of_ble_eq_true rfl) ?_
  exact W.vret hx hb hr (fun t ht hW => ⟨⟨(), rfl, trivial, ⟨by rw [ht]; exact hP.sub [0, 1] rfl, hD.sub [0, 1] (by decide) rfl⟩⟩, hS.F ht⟩) hS.2.2 dX0_putProp_15
set_option maxHeartbeats 4000000 in
set_option maxRecDepth 100000 in
theorem c_X0_addRoad (l : Launch) (D : va_G) (E : Nat → ClassId) (G : Nat → Nat) (sz : Nat) (a0 : Nat) (v_a : Int32) (v_b : Int32) (v_c : Int32) (v_d : Int32) (v_e : Int32) (v_f : Int32) (a0_counts : Nat) (a0_roads : Nat) (a0_bridges : Nat) (a0_waggons : Nat) (a0_parts : Nat) (a0_settings : Nat) (a0_trip : Nat) (v_ow : Int32) (fc : Nat → Int32) (fr : Nat → Int32) (h0 : vp_in (fc 0) 24) : Met l yX0_addRoad (oh_w yX0_addRoad cX0_addRoad 8 (some .int)) ({ frames := 0, cells := 0, slots := 0, locals := 0 }) (oh_Pm D E G [.ref a0, .int v_a, .int v_b, .int v_c, .int v_d, .int v_e, .int v_f] [(a0, .inr (0, [.ref a0_counts, .ref a0_roads, .ref a0_bridges, .ref a0_waggons, .ref a0_parts, .ref a0_settings, .ref a0_trip, .int v_ow])), (a0_counts, .inl (E 0, 4, .inl fc)), (a0_roads, .inl (E 0, 168, .inl fr))] sz) (va_Qi (fun r (_ : Unit) => r = fc 0) (oh_B D (va_A [(a0, .inr (0, [.ref a0_counts, .ref a0_roads, .ref a0_bridges, .ref a0_waggons, .ref a0_parts, .ref a0_settings, .ref a0_trip, .int v_ow])), (a0_counts, .inl (E 0, 4, .inl fc)), (a0_roads, .inl (E 0, 168, .inl fr))] sz) (fun _ => [(a0, .inr (0, [.ref a0_counts, .ref a0_roads, .ref a0_bridges, .ref a0_waggons, .ref a0_parts, .ref a0_settings, .ref a0_trip, .int v_ow])), (a0_counts, .inl (E 0, 4, .inl (upd fc 0 ((fc 0) + 1)))), (a0_roads, .inl (E 0, 168, .inl (upd (upd (upd (upd (upd (upd (upd fr ((((fc 0) * 7) + 0).toNatClampNeg) v_a) ((((fc 0) * 7) + 1).toNatClampNeg) v_b) ((((fc 0) * 7) + 2).toNatClampNeg) v_c) ((((fc 0) * 7) + 3).toNatClampNeg) v_d) ((((fc 0) * 7) + 4).toNatClampNeg) v_e) ((((fc 0) * 7) + 5).toNatClampNeg) v_f) ((((fc 0) * 7) + 6).toNatClampNeg) 0)))])) (va_A [(a0, .inr (0, [.ref a0_counts, .ref a0_roads, .ref a0_bridges, .ref a0_waggons, .ref a0_parts, .ref a0_settings, .ref a0_trip, .int v_ow])), (a0_counts, .inl (E 0, 4, .inl fc)), (a0_roads, .inl (E 0, 168, .inl fr))] sz)) 0 0 (va_A [(a0, .inr (0, [.ref a0_counts, .ref a0_roads, .ref a0_bridges, .ref a0_waggons, .ref a0_parts, .ref a0_settings, .ref a0_trip, .int v_ow])), (a0_counts, .inl (E 0, 4, .inl fc)), (a0_roads, .inl (E 0, 168, .inl fr))] sz) := by
  refine Met.ofW (cc := cX0_addRoad) (maxL := 8) (ret := (some .int)) (by decide) rfl ?_
  intro p e s m args below meth c s₁ B hml hv
  obtain ⟨rfl, hsz, hP, hK, hD0, hG⟩ := hv
  have hx := B.exec
  have hb := B.bytes
  have hr := B.returns
  have hts := atoms_spec (ws := (oh_w yX0_addRoad cX0_addRoad 8 (some .int))) B.pre
  have htg : ∀ w ∈ oh_t, w.before _ s = true := fun w h => hts w (List.mem_cons_of_mem _ h)
  have hown : s.vm.findClass RX0 = some m.cls := findClass_of_methodNamed B.named
  have hlocks := B.notSynchronized
  subst hsz
  have hD := hD0.self (sz := s.heap.size)
  generalize hAe : va_A [(a0, .inr (0, [.ref a0_counts, .ref a0_roads, .ref a0_bridges, .ref a0_waggons, .ref a0_parts, .ref a0_settings, .ref a0_trip, .int v_ow])), (a0_counts, .inl (E 0, 4, .inl fc)), (a0_roads, .inl (E 0, 168, .inl fr))] s.heap.size = A at hD hG ⊢
  have hA : ∀ q : Nat, s.heap.size ≤ q → A q := fun q h => by rw [← hAe]; exact Or.inr h
  have hS : va_S A s.heap s.heap [] := va_S.rf
  have hP : va_P D vwCl [(a0, .inr (0, [.ref a0_counts, .ref a0_roads, .ref a0_bridges, .ref a0_waggons, .ref a0_parts, .ref a0_settings, .ref a0_trip, .int v_ow])), (a0_counts, .inl (E 0, 4, .inl fc)), (a0_roads, .inl (E 0, 168, .inl fr))] s.heap := hP
  have hl := lv_entry ([.ref a0, .int v_a, .int v_b, .int v_c, .int v_d, .int v_e, .int v_f]) (n := 8) (Nat.le_of_ble_eq_true rfl)
  rw [lg_entry_eq]
  generalize (lg_sl ([.ref a0, .int v_a, .int v_b, .int v_c, .int v_d, .int v_e, .int v_f]) ++ List.replicate (8 - (lg_sl ([.ref a0, .int v_a, .int v_b, .int v_c, .int v_d, .int v_e, .int v_f])).length) Slot.unset).toArray = ls at hl ⊢
  have hl : lv_has ls 8 [(0, .ref a0), (1, .int v_a), (2, .int v_b), (3, .int v_c), (4, .int v_d), (5, .int v_e), (6, .int v_f)] := hl
  refine lv_aload_n hx hb dX0_addRoad_0 rfl (lv_at hl 0 rfl) ?_
  refine va_get (D := D) (ci := 0) (v := .ref a0_counts) (C := RX0) (T := TX0) (N := 8) hx hb htg ig_0 hown hK hP 0 rfl rfl 0 (by decide) (htg _ q_97) (fun _ h9 => h9) rfl dX0_addRoad_1 ?_
  refine lv_iconst (v := 0) hx hb dX0_addRoad_4 (by decide) ?_
  refine va_iald hx hb hK hP 1 0 rfl rfl (show vp_in 0 4 by unfold vp_in; decide) dX0_addRoad_5 ?_
  refine lv_bipush (v := 7) hx hb dX0_addRoad_6 (by decide) ?_
  refine lv_imul hx hb dX0_addRoad_8 ?_
  refine lv_istore (lv' := [(7, .int ((fc 0) * 7)), (0, .ref a0), (1, .int v_a), (2, .int v_b), (3, .int v_c), (4, .int v_d), (5, .int v_e), (6, .int v_f)]) hx hb dX0_addRoad_9 hl (by decide) rfl (fun ls hl => ?_)
  refine lv_aload_n hx hb dX0_addRoad_11 rfl (lv_at hl 1 rfl) ?_
  refine va_get (D := D) (ci := 0) (v := .ref a0_roads) (C := RX0) (T := TX0) (N := 8) hx hb htg ig_0 hown hK hP 0 rfl rfl 1 (by decide) (htg _ q_101) (fun _ h9 => h9) rfl dX0_addRoad_12 ?_
  refine lv_iload hx hb dX0_addRoad_15 (lv_at hl 0 rfl) ?_
  refine lv_iconst (v := 0) hx hb dX0_addRoad_17 (by decide) ?_
  refine lv_iadd hx hb dX0_addRoad_18 ?_
  refine lv_iload_n hx hb dX0_addRoad_19 rfl (lv_at hl 2 rfl) ?_
  refine va_iast hx hb hK hP hD hS 2 0 rfl rfl (oh_sh (K := 7) (N := 24) h0 (show vp_in 0 7 by unfold vp_in; decide) rfl (by decide) (by decide)) dX0_addRoad_20 (fun H locs hP hD hS => ?_)
  have hP : va_P D vwCl [(a0, .inr (0, [.ref a0_counts, .ref a0_roads, .ref a0_bridges, .ref a0_waggons, .ref a0_parts, .ref a0_settings, .ref a0_trip, .int v_ow])), (a0_counts, .inl (E 0, 4, .inl fc)), (a0_roads, .inl (E 0, 168, .inl (upd fr ((((fc 0) * 7) + 0).toNatClampNeg) v_a)))] H := hP
  have hD : va_D A [(a0, .inr (0, [.ref a0_counts, .ref a0_roads, .ref a0_bridges, .ref a0_waggons, .ref a0_parts, .ref a0_settings, .ref a0_trip, .int v_ow])), (a0_counts, .inl (E 0, 4, .inl fc)), (a0_roads, .inl (E 0, 168, .inl (upd fr ((((fc 0) * 7) + 0).toNatClampNeg) v_a)))] := hD
  refine lv_aload_n hx hb dX0_addRoad_21 rfl (lv_at hl 1 rfl) ?_
  refine va_get (D := D) (ci := 0) (v := .ref a0_roads) (C := RX0) (T := TX0) (N := 8) hx hb htg ig_0 hown hK hP 0 rfl rfl 1 (by decide) (htg _ q_101) (fun _ h9 => h9) rfl dX0_addRoad_22 ?_
  refine lv_iload hx hb dX0_addRoad_25 (lv_at hl 0 rfl) ?_
  refine lv_iconst (v := 1) hx hb dX0_addRoad_27 (by decide) ?_
  refine lv_iadd hx hb dX0_addRoad_28 ?_
  refine lv_iload_n hx hb dX0_addRoad_29 rfl (lv_at hl 3 rfl) ?_
  refine va_iast hx hb hK hP hD hS 2 0 rfl rfl (oh_sh (K := 7) (N := 24) h0 (show vp_in 1 7 by unfold vp_in; decide) rfl (by decide) (by decide)) dX0_addRoad_30 (fun H locs hP hD hS => ?_)
  have hP : va_P D vwCl [(a0, .inr (0, [.ref a0_counts, .ref a0_roads, .ref a0_bridges, .ref a0_waggons, .ref a0_parts, .ref a0_settings, .ref a0_trip, .int v_ow])), (a0_counts, .inl (E 0, 4, .inl fc)), (a0_roads, .inl (E 0, 168, .inl (upd (upd fr ((((fc 0) * 7) + 0).toNatClampNeg) v_a) ((((fc 0) * 7) + 1).toNatClampNeg) v_b)))] H := hP
  have hD : va_D A [(a0, .inr (0, [.ref a0_counts, .ref a0_roads, .ref a0_bridges, .ref a0_waggons, .ref a0_parts, .ref a0_settings, .ref a0_trip, .int v_ow])), (a0_counts, .inl (E 0, 4, .inl fc)), (a0_roads, .inl (E 0, 168, .inl (upd (upd fr ((((fc 0) * 7) + 0).toNatClampNeg) v_a) ((((fc 0) * 7) + 1).toNatClampNeg) v_b)))] := hD
  refine lv_aload_n hx hb dX0_addRoad_31 rfl (lv_at hl 1 rfl) ?_
  refine va_get (D := D) (ci := 0) (v := .ref a0_roads) (C := RX0) (T := TX0) (N := 8) hx hb htg ig_0 hown hK hP 0 rfl rfl 1 (by decide) (htg _ q_101) (fun _ h9 => h9) rfl dX0_addRoad_32 ?_
  refine lv_iload hx hb dX0_addRoad_35 (lv_at hl 0 rfl) ?_
  refine lv_iconst (v := 2) hx hb dX0_addRoad_37 (by decide) ?_
  refine lv_iadd hx hb dX0_addRoad_38 ?_
  refine lv_iload_n hx hb dX0_addRoad_39 rfl (lv_at hl 4 rfl) ?_
  refine va_iast hx hb hK hP hD hS 2 0 rfl rfl (oh_sh (K := 7) (N := 24) h0 (show vp_in 2 7 by unfold vp_in; decide) rfl (by decide) (by decide)) dX0_addRoad_40 (fun H locs hP hD hS => ?_)
  have hP : va_P D vwCl [(a0, .inr (0, [.ref a0_counts, .ref a0_roads, .ref a0_bridges, .ref a0_waggons, .ref a0_parts, .ref a0_settings, .ref a0_trip, .int v_ow])), (a0_counts, .inl (E 0, 4, .inl fc)), (a0_roads, .inl (E 0, 168, .inl (upd (upd (upd fr ((((fc 0) * 7) + 0).toNatClampNeg) v_a) ((((fc 0) * 7) + 1).toNatClampNeg) v_b) ((((fc 0) * 7) + 2).toNatClampNeg) v_c)))] H := hP
  have hD : va_D A [(a0, .inr (0, [.ref a0_counts, .ref a0_roads, .ref a0_bridges, .ref a0_waggons, .ref a0_parts, .ref a0_settings, .ref a0_trip, .int v_ow])), (a0_counts, .inl (E 0, 4, .inl fc)), (a0_roads, .inl (E 0, 168, .inl (upd (upd (upd fr ((((fc 0) * 7) + 0).toNatClampNeg) v_a) ((((fc 0) * 7) + 1).toNatClampNeg) v_b) ((((fc 0) * 7) + 2).toNatClampNeg) v_c)))] := hD
  refine lv_aload_n hx hb dX0_addRoad_41 rfl (lv_at hl 1 rfl) ?_
  refine va_get (D := D) (ci := 0) (v := .ref a0_roads) (C := RX0) (T := TX0) (N := 8) hx hb htg ig_0 hown hK hP 0 rfl rfl 1 (by decide) (htg _ q_101) (fun _ h9 => h9) rfl dX0_addRoad_42 ?_
  refine lv_iload hx hb dX0_addRoad_45 (lv_at hl 0 rfl) ?_
  refine lv_iconst (v := 3) hx hb dX0_addRoad_47 (by decide) ?_
  refine lv_iadd hx hb dX0_addRoad_48 ?_
  refine lv_iload hx hb dX0_addRoad_49 (lv_at hl 5 rfl) ?_
  refine va_iast hx hb hK hP hD hS 2 0 rfl rfl (oh_sh (K := 7) (N := 24) h0 (show vp_in 3 7 by unfold vp_in; decide) rfl (by decide) (by decide)) dX0_addRoad_51 (fun H locs hP hD hS => ?_)
  have hP : va_P D vwCl [(a0, .inr (0, [.ref a0_counts, .ref a0_roads, .ref a0_bridges, .ref a0_waggons, .ref a0_parts, .ref a0_settings, .ref a0_trip, .int v_ow])), (a0_counts, .inl (E 0, 4, .inl fc)), (a0_roads, .inl (E 0, 168, .inl (upd (upd (upd (upd fr ((((fc 0) * 7) + 0).toNatClampNeg) v_a) ((((fc 0) * 7) + 1).toNatClampNeg) v_b) ((((fc 0) * 7) + 2).toNatClampNeg) v_c) ((((fc 0) * 7) + 3).toNatClampNeg) v_d)))] H := hP
  have hD : va_D A [(a0, .inr (0, [.ref a0_counts, .ref a0_roads, .ref a0_bridges, .ref a0_waggons, .ref a0_parts, .ref a0_settings, .ref a0_trip, .int v_ow])), (a0_counts, .inl (E 0, 4, .inl fc)), (a0_roads, .inl (E 0, 168, .inl (upd (upd (upd (upd fr ((((fc 0) * 7) + 0).toNatClampNeg) v_a) ((((fc 0) * 7) + 1).toNatClampNeg) v_b) ((((fc 0) * 7) + 2).toNatClampNeg) v_c) ((((fc 0) * 7) + 3).toNatClampNeg) v_d)))] := hD
  refine lv_aload_n hx hb dX0_addRoad_52 rfl (lv_at hl 1 rfl) ?_
  refine va_get (D := D) (ci := 0) (v := .ref a0_roads) (C := RX0) (T := TX0) (N := 8) hx hb htg ig_0 hown hK hP 0 rfl rfl 1 (by decide) (htg _ q_101) (fun _ h9 => h9) rfl dX0_addRoad_53 ?_
  refine lv_iload hx hb dX0_addRoad_56 (lv_at hl 0 rfl) ?_
  refine lv_iconst (v := 4) hx hb dX0_addRoad_58 (by decide) ?_
  refine lv_iadd hx hb dX0_addRoad_59 ?_
  refine lv_iload hx hb dX0_addRoad_60 (lv_at hl 6 rfl) ?_
  refine va_iast hx hb hK hP hD hS 2 0 rfl rfl (oh_sh (K := 7) (N := 24) h0 (show vp_in 4 7 by unfold vp_in; decide) rfl (by decide) (by decide)) dX0_addRoad_62 (fun H locs hP hD hS => ?_)
  have hP : va_P D vwCl [(a0, .inr (0, [.ref a0_counts, .ref a0_roads, .ref a0_bridges, .ref a0_waggons, .ref a0_parts, .ref a0_settings, .ref a0_trip, .int v_ow])), (a0_counts, .inl (E 0, 4, .inl fc)), (a0_roads, .inl (E 0, 168, .inl (upd (upd (upd (upd (upd fr ((((fc 0) * 7) + 0).toNatClampNeg) v_a) ((((fc 0) * 7) + 1).toNatClampNeg) v_b) ((((fc 0) * 7) + 2).toNatClampNeg) v_c) ((((fc 0) * 7) + 3).toNatClampNeg) v_d) ((((fc 0) * 7) + 4).toNatClampNeg) v_e)))] H := hP
  have hD : va_D A [(a0, .inr (0, [.ref a0_counts, .ref a0_roads, .ref a0_bridges, .ref a0_waggons, .ref a0_parts, .ref a0_settings, .ref a0_trip, .int v_ow])), (a0_counts, .inl (E 0, 4, .inl fc)), (a0_roads, .inl (E 0, 168, .inl (upd (upd (upd (upd (upd fr ((((fc 0) * 7) + 0).toNatClampNeg) v_a) ((((fc 0) * 7) + 1).toNatClampNeg) v_b) ((((fc 0) * 7) + 2).toNatClampNeg) v_c) ((((fc 0) * 7) + 3).toNatClampNeg) v_d) ((((fc 0) * 7) + 4).toNatClampNeg) v_e)))] := hD
  refine lv_aload_n hx hb dX0_addRoad_63 rfl (lv_at hl 1 rfl) ?_
  refine va_get (D := D) (ci := 0) (v := .ref a0_roads) (C := RX0) (T := TX0) (N := 8) hx hb htg ig_0 hown hK hP 0 rfl rfl 1 (by decide) (htg _ q_101) (fun _ h9 => h9) rfl dX0_addRoad_64 ?_
  refine lv_iload hx hb dX0_addRoad_67 (lv_at hl 0 rfl) ?_
  refine lv_iconst (v := 5) hx hb dX0_addRoad_69 (by decide) ?_
  refine lv_iadd hx hb dX0_addRoad_70 ?_
  refine lv_iload hx hb dX0_addRoad_71 (lv_at hl 7 rfl) ?_
  refine va_iast hx hb hK hP hD hS 2 0 rfl rfl (oh_sh (K := 7) (N := 24) h0 (show vp_in 5 7 by unfold vp_in; decide) rfl (by decide) (by decide)) dX0_addRoad_73 (fun H locs hP hD hS => ?_)
  have hP : va_P D vwCl [(a0, .inr (0, [.ref a0_counts, .ref a0_roads, .ref a0_bridges, .ref a0_waggons, .ref a0_parts, .ref a0_settings, .ref a0_trip, .int v_ow])), (a0_counts, .inl (E 0, 4, .inl fc)), (a0_roads, .inl (E 0, 168, .inl (upd (upd (upd (upd (upd (upd fr ((((fc 0) * 7) + 0).toNatClampNeg) v_a) ((((fc 0) * 7) + 1).toNatClampNeg) v_b) ((((fc 0) * 7) + 2).toNatClampNeg) v_c) ((((fc 0) * 7) + 3).toNatClampNeg) v_d) ((((fc 0) * 7) + 4).toNatClampNeg) v_e) ((((fc 0) * 7) + 5).toNatClampNeg) v_f)))] H := hP
  have hD : va_D A [(a0, .inr (0, [.ref a0_counts, .ref a0_roads, .ref a0_bridges, .ref a0_waggons, .ref a0_parts, .ref a0_settings, .ref a0_trip, .int v_ow])), (a0_counts, .inl (E 0, 4, .inl fc)), (a0_roads, .inl (E 0, 168, .inl (upd (upd (upd (upd (upd (upd fr ((((fc 0) * 7) + 0).toNatClampNeg) v_a) ((((fc 0) * 7) + 1).toNatClampNeg) v_b) ((((fc 0) * 7) + 2).toNatClampNeg) v_c) ((((fc 0) * 7) + 3).toNatClampNeg) v_d) ((((fc 0) * 7) + 4).toNatClampNeg) v_e) ((((fc 0) * 7) + 5).toNatClampNeg) v_f)))] := hD
  refine lv_aload_n hx hb dX0_addRoad_74 rfl (lv_at hl 1 rfl) ?_
  refine va_get (D := D) (ci := 0) (v := .ref a0_roads) (C := RX0) (T := TX0) (N := 8) hx hb htg ig_0 hown hK hP 0 rfl rfl 1 (by decide) (htg _ q_101) (fun _ h9 => h9) rfl dX0_addRoad_75 ?_
  refine lv_iload hx hb dX0_addRoad_78 (lv_at hl 0 rfl) ?_
  refine lv_bipush (v := 6) hx hb dX0_addRoad_80 (by decide) ?_
  refine lv_iadd hx hb dX0_addRoad_82 ?_
  refine lv_iconst (v := 0) hx hb dX0_addRoad_83 (by decide) ?_
  refine va_iast hx hb hK hP hD hS 2 0 rfl rfl (oh_sh (K := 7) (N := 24) h0 (show vp_in 6 7 by unfold vp_in; decide) rfl (by decide) (by decide)) dX0_addRoad_84 (fun H locs hP hD hS => ?_)
  have hP : va_P D vwCl [(a0, .inr (0, [.ref a0_counts, .ref a0_roads, .ref a0_bridges, .ref a0_waggons, .ref a0_parts, .ref a0_settings, .ref a0_trip, .int v_ow])), (a0_counts, .inl (E 0, 4, .inl fc)), (a0_roads, .inl (E 0, 168, .inl (upd (upd (upd (upd (upd (upd (upd fr ((((fc 0) * 7) + 0).toNatClampNeg) v_a) ((((fc 0) * 7) + 1).toNatClampNeg) v_b) ((((fc 0) * 7) + 2).toNatClampNeg) v_c) ((((fc 0) * 7) + 3).toNatClampNeg) v_d) ((((fc 0) * 7) + 4).toNatClampNeg) v_e) ((((fc 0) * 7) + 5).toNatClampNeg) v_f) ((((fc 0) * 7) + 6).toNatClampNeg) 0)))] H := hP
  have hD : va_D A [(a0, .inr (0, [.ref a0_counts, .ref a0_roads, .ref a0_bridges, .ref a0_waggons, .ref a0_parts, .ref a0_settings, .ref a0_trip, .int v_ow])), (a0_counts, .inl (E 0, 4, .inl fc)), (a0_roads, .inl (E 0, 168, .inl (upd (upd (upd (upd (upd (upd (upd fr ((((fc 0) * 7) + 0).toNatClampNeg) v_a) ((((fc 0) * 7) + 1).toNatClampNeg) v_b) ((((fc 0) * 7) + 2).toNatClampNeg) v_c) ((((fc 0) * 7) + 3).toNatClampNeg) v_d) ((((fc 0) * 7) + 4).toNatClampNeg) v_e) ((((fc 0) * 7) + 5).toNatClampNeg) v_f) ((((fc 0) * 7) + 6).toNatClampNeg) 0)))] := hD
  refine lv_aload_n hx hb dX0_addRoad_85 rfl (lv_at hl 1 rfl) ?_
  refine va_get (D := D) (ci := 0) (v := .ref a0_counts) (C := RX0) (T := TX0) (N := 8) hx hb htg ig_0 hown hK hP 0 rfl rfl 0 (by decide) (htg _ q_97) (fun _ h9 => h9) rfl dX0_addRoad_86 ?_
  refine lv_iconst (v := 0) hx hb dX0_addRoad_89 (by decide) ?_
  refine lv_dup2_11 hx hb dX0_addRoad_90 rfl rfl ?_
  refine va_iald hx hb hK hP 1 0 rfl rfl (show vp_in 0 4 by unfold vp_in; decide) dX0_addRoad_91 ?_
  refine lv_dup_x2 hx hb dX0_addRoad_92 rfl rfl rfl ?_
  refine lv_iconst (v := 1) hx hb dX0_addRoad_93 (by decide) ?_
  refine lv_iadd hx hb dX0_addRoad_94 ?_
  refine va_iast hx hb hK hP hD hS 1 0 rfl rfl (show vp_in 0 4 by unfold vp_in; decide) dX0_addRoad_95 (fun H locs hP hD hS => ?_)
  have hP : va_P D vwCl [(a0, .inr (0, [.ref a0_counts, .ref a0_roads, .ref a0_bridges, .ref a0_waggons, .ref a0_parts, .ref a0_settings, .ref a0_trip, .int v_ow])), (a0_counts, .inl (E 0, 4, .inl (upd fc 0 ((fc 0) + 1)))), (a0_roads, .inl (E 0, 168, .inl (upd (upd (upd (upd (upd (upd (upd fr ((((fc 0) * 7) + 0).toNatClampNeg) v_a) ((((fc 0) * 7) + 1).toNatClampNeg) v_b) ((((fc 0) * 7) + 2).toNatClampNeg) v_c) ((((fc 0) * 7) + 3).toNatClampNeg) v_d) ((((fc 0) * 7) + 4).toNatClampNeg) v_e) ((((fc 0) * 7) + 5).toNatClampNeg) v_f) ((((fc 0) * 7) + 6).toNatClampNeg) 0)))] H := hP
  have hD : va_D A [(a0, .inr (0, [.ref a0_counts, .ref a0_roads, .ref a0_bridges, .ref a0_waggons, .ref a0_parts, .ref a0_settings, .ref a0_trip, .int v_ow])), (a0_counts, .inl (E 0, 4, .inl (upd fc 0 ((fc 0) + 1)))), (a0_roads, .inl (E 0, 168, .inl (upd (upd (upd (upd (upd (upd (upd fr ((((fc 0) * 7) + 0).toNatClampNeg) v_a) ((((fc 0) * 7) + 1).toNatClampNeg) v_b) ((((fc 0) * 7) + 2).toNatClampNeg) v_c) ((((fc 0) * 7) + 3).toNatClampNeg) v_d) ((((fc 0) * 7) + 4).toNatClampNeg) v_e) ((((fc 0) * 7) + 5).toNatClampNeg) v_f) ((((fc 0) * 7) + 6).toNatClampNeg) 0)))] := hD
  refine W.widen (k := 0) (n := 0) (Nat.le_of_ble_eq_true rfl) (Nat.le_of_ble_eq_true rfl) ?_
  exact W.iret (v := fc 0) hx hb hr (fun t ht hW => ⟨⟨fc 0, (), rfl, rfl, ⟨by rw [ht]; exact hP.sub [0, 1, 2] rfl, hD.sub [0, 1, 2] (by decide) rfl⟩⟩, hS.F ht⟩) hS.2.2 dX0_addRoad_96
set_option maxHeartbeats 4000000 in
set_option maxRecDepth 100000 in
theorem c_X0_addBridge (l : Launch) (D : va_G) (E : Nat → ClassId) (G : Nat → Nat) (sz : Nat) (a0 : Nat) (v_a : Int32) (v_b : Int32) (v_c : Int32) (v_d : Int32) (v_e : Int32) (a0_counts : Nat) (a0_roads : Nat) (a0_bridges : Nat) (a0_waggons : Nat) (a0_parts : Nat) (a0_settings : Nat) (a0_trip : Nat) (v_ow : Int32) (fc : Nat → Int32) (fb : Nat → Int32) (h0 : vp_in (fc 1) 16) : Met l yX0_addBridge (oh_w yX0_addBridge cX0_addBridge 8 (some .int)) ({ frames := 0, cells := 0, slots := 0, locals := 0 }) (oh_Pm D E G [.ref a0, .int v_a, .int v_b, .int v_c, .int v_d, .int v_e] [(a0, .inr (0, [.ref a0_counts, .ref a0_roads, .ref a0_bridges, .ref a0_waggons, .ref a0_parts, .ref a0_settings, .ref a0_trip, .int v_ow])), (a0_counts, .inl (E 0, 4, .inl fc)), (a0_bridges, .inl (E 0, 160, .inl fb))] sz) (va_Qi (fun r (_ : Unit) => r = fc 1) (oh_B D (va_A [(a0, .inr (0, [.ref a0_counts, .ref a0_roads, .ref a0_bridges, .ref a0_waggons, .ref a0_parts, .ref a0_settings, .ref a0_trip, .int v_ow])), (a0_counts, .inl (E 0, 4, .inl fc)), (a0_bridges, .inl (E 0, 160, .inl fb))] sz) (fun _ => [(a0, .inr (0, [.ref a0_counts, .ref a0_roads, .ref a0_bridges, .ref a0_waggons, .ref a0_parts, .ref a0_settings, .ref a0_trip, .int v_ow])), (a0_counts, .inl (E 0, 4, .inl (upd fc 1 ((fc 1) + 1)))), (a0_bridges, .inl (E 0, 160, .inl (upd (upd (upd (upd (upd (upd (upd (upd (upd (upd fb ((((fc 1) * 10) + 0).toNatClampNeg) v_a) ((((fc 1) * 10) + 1).toNatClampNeg) v_b) ((((fc 1) * 10) + 2).toNatClampNeg) v_c) ((((fc 1) * 10) + 3).toNatClampNeg) v_d) ((((fc 1) * 10) + 4).toNatClampNeg) v_e) ((((fc 1) * 10) + 5).toNatClampNeg) 0) ((((fc 1) * 10) + 6).toNatClampNeg) 0) ((((fc 1) * 10) + 7).toNatClampNeg) 0) ((((fc 1) * 10) + 8).toNatClampNeg) 0) ((((fc 1) * 10) + 9).toNatClampNeg) 0)))])) (va_A [(a0, .inr (0, [.ref a0_counts, .ref a0_roads, .ref a0_bridges, .ref a0_waggons, .ref a0_parts, .ref a0_settings, .ref a0_trip, .int v_ow])), (a0_counts, .inl (E 0, 4, .inl fc)), (a0_bridges, .inl (E 0, 160, .inl fb))] sz)) 0 0 (va_A [(a0, .inr (0, [.ref a0_counts, .ref a0_roads, .ref a0_bridges, .ref a0_waggons, .ref a0_parts, .ref a0_settings, .ref a0_trip, .int v_ow])), (a0_counts, .inl (E 0, 4, .inl fc)), (a0_bridges, .inl (E 0, 160, .inl fb))] sz) := by
  refine Met.ofW (cc := cX0_addBridge) (maxL := 8) (ret := (some .int)) (by decide) rfl ?_
  intro p e s m args below meth c s₁ B hml hv
  obtain ⟨rfl, hsz, hP, hK, hD0, hG⟩ := hv
  have hx := B.exec
  have hb := B.bytes
  have hr := B.returns
  have hts := atoms_spec (ws := (oh_w yX0_addBridge cX0_addBridge 8 (some .int))) B.pre
  have htg : ∀ w ∈ oh_t, w.before _ s = true := fun w h => hts w (List.mem_cons_of_mem _ h)
  have hown : s.vm.findClass RX0 = some m.cls := findClass_of_methodNamed B.named
  have hlocks := B.notSynchronized
  subst hsz
  have hD := hD0.self (sz := s.heap.size)
  generalize hAe : va_A [(a0, .inr (0, [.ref a0_counts, .ref a0_roads, .ref a0_bridges, .ref a0_waggons, .ref a0_parts, .ref a0_settings, .ref a0_trip, .int v_ow])), (a0_counts, .inl (E 0, 4, .inl fc)), (a0_bridges, .inl (E 0, 160, .inl fb))] s.heap.size = A at hD hG ⊢
  have hA : ∀ q : Nat, s.heap.size ≤ q → A q := fun q h => by rw [← hAe]; exact Or.inr h
  have hS : va_S A s.heap s.heap [] := va_S.rf
  have hP : va_P D vwCl [(a0, .inr (0, [.ref a0_counts, .ref a0_roads, .ref a0_bridges, .ref a0_waggons, .ref a0_parts, .ref a0_settings, .ref a0_trip, .int v_ow])), (a0_counts, .inl (E 0, 4, .inl fc)), (a0_bridges, .inl (E 0, 160, .inl fb))] s.heap := hP
  have hl := lv_entry ([.ref a0, .int v_a, .int v_b, .int v_c, .int v_d, .int v_e]) (n := 8) (Nat.le_of_ble_eq_true rfl)
  rw [lg_entry_eq]
  generalize (lg_sl ([.ref a0, .int v_a, .int v_b, .int v_c, .int v_d, .int v_e]) ++ List.replicate (8 - (lg_sl ([.ref a0, .int v_a, .int v_b, .int v_c, .int v_d, .int v_e])).length) Slot.unset).toArray = ls at hl ⊢
  have hl : lv_has ls 8 [(0, .ref a0), (1, .int v_a), (2, .int v_b), (3, .int v_c), (4, .int v_d), (5, .int v_e)] := hl
  refine lv_aload_n hx hb dX0_addBridge_0 rfl (lv_at hl 0 rfl) ?_
  refine va_get (D := D) (ci := 0) (v := .ref a0_counts) (C := RX0) (T := TX0) (N := 8) hx hb htg ig_0 hown hK hP 0 rfl rfl 0 (by decide) (htg _ q_97) (fun _ h9 => h9) rfl dX0_addBridge_1 ?_
  refine lv_iconst (v := 1) hx hb dX0_addBridge_4 (by decide) ?_
  refine va_iald hx hb hK hP 1 0 rfl rfl (show vp_in 1 4 by unfold vp_in; decide) dX0_addBridge_5 ?_
  refine lv_bipush (v := 10) hx hb dX0_addBridge_6 (by decide) ?_
  refine lv_imul hx hb dX0_addBridge_8 ?_
  refine lv_istore (lv' := [(6, .int ((fc 1) * 10)), (0, .ref a0), (1, .int v_a), (2, .int v_b), (3, .int v_c), (4, .int v_d), (5, .int v_e)]) hx hb dX0_addBridge_9 hl (by decide) rfl (fun ls hl => ?_)
  refine lv_aload_n hx hb dX0_addBridge_11 rfl (lv_at hl 1 rfl) ?_
  refine va_get (D := D) (ci := 0) (v := .ref a0_bridges) (C := RX0) (T := TX0) (N := 8) hx hb htg ig_0 hown hK hP 0 rfl rfl 2 (by decide) (htg _ q_103) (fun _ h9 => h9) rfl dX0_addBridge_12 ?_
  refine lv_iload hx hb dX0_addBridge_15 (lv_at hl 0 rfl) ?_
  refine lv_iconst (v := 0) hx hb dX0_addBridge_17 (by decide) ?_
  refine lv_iadd hx hb dX0_addBridge_18 ?_
  refine lv_iload_n hx hb dX0_addBridge_19 rfl (lv_at hl 2 rfl) ?_
  refine va_iast hx hb hK hP hD hS 2 0 rfl rfl (oh_sh (K := 10) (N := 16) h0 (show vp_in 0 10 by unfold vp_in; decide) rfl (by decide) (by decide)) dX0_addBridge_20 (fun H locs hP hD hS => ?_)
  have hP : va_P D vwCl [(a0, .inr (0, [.ref a0_counts, .ref a0_roads, .ref a0_bridges, .ref a0_waggons, .ref a0_parts, .ref a0_settings, .ref a0_trip, .int v_ow])), (a0_counts, .inl (E 0, 4, .inl fc)), (a0_bridges, .inl (E 0, 160, .inl (upd fb ((((fc 1) * 10) + 0).toNatClampNeg) v_a)))] H := hP
  have hD : va_D A [(a0, .inr (0, [.ref a0_counts, .ref a0_roads, .ref a0_bridges, .ref a0_waggons, .ref a0_parts, .ref a0_settings, .ref a0_trip, .int v_ow])), (a0_counts, .inl (E 0, 4, .inl fc)), (a0_bridges, .inl (E 0, 160, .inl (upd fb ((((fc 1) * 10) + 0).toNatClampNeg) v_a)))] := hD
  refine lv_aload_n hx hb dX0_addBridge_21 rfl (lv_at hl 1 rfl) ?_
  refine va_get (D := D) (ci := 0) (v := .ref a0_bridges) (C := RX0) (T := TX0) (N := 8) hx hb htg ig_0 hown hK hP 0 rfl rfl 2 (by decide) (htg _ q_103) (fun _ h9 => h9) rfl dX0_addBridge_22 ?_
  refine lv_iload hx hb dX0_addBridge_25 (lv_at hl 0 rfl) ?_
  refine lv_iconst (v := 1) hx hb dX0_addBridge_27 (by decide) ?_
  refine lv_iadd hx hb dX0_addBridge_28 ?_
  refine lv_iload_n hx hb dX0_addBridge_29 rfl (lv_at hl 3 rfl) ?_
  refine va_iast hx hb hK hP hD hS 2 0 rfl rfl (oh_sh (K := 10) (N := 16) h0 (show vp_in 1 10 by unfold vp_in; decide) rfl (by decide) (by decide)) dX0_addBridge_30 (fun H locs hP hD hS => ?_)
  have hP : va_P D vwCl [(a0, .inr (0, [.ref a0_counts, .ref a0_roads, .ref a0_bridges, .ref a0_waggons, .ref a0_parts, .ref a0_settings, .ref a0_trip, .int v_ow])), (a0_counts, .inl (E 0, 4, .inl fc)), (a0_bridges, .inl (E 0, 160, .inl (upd (upd fb ((((fc 1) * 10) + 0).toNatClampNeg) v_a) ((((fc 1) * 10) + 1).toNatClampNeg) v_b)))] H := hP
  have hD : va_D A [(a0, .inr (0, [.ref a0_counts, .ref a0_roads, .ref a0_bridges, .ref a0_waggons, .ref a0_parts, .ref a0_settings, .ref a0_trip, .int v_ow])), (a0_counts, .inl (E 0, 4, .inl fc)), (a0_bridges, .inl (E 0, 160, .inl (upd (upd fb ((((fc 1) * 10) + 0).toNatClampNeg) v_a) ((((fc 1) * 10) + 1).toNatClampNeg) v_b)))] := hD
  refine lv_aload_n hx hb dX0_addBridge_31 rfl (lv_at hl 1 rfl) ?_
  refine va_get (D := D) (ci := 0) (v := .ref a0_bridges) (C := RX0) (T := TX0) (N := 8) hx hb htg ig_0 hown hK hP 0 rfl rfl 2 (by decide) (htg _ q_103) (fun _ h9 => h9) rfl dX0_addBridge_32 ?_
  refine lv_iload hx hb dX0_addBridge_35 (lv_at hl 0 rfl) ?_
  refine lv_iconst (v := 2) hx hb dX0_addBridge_37 (by decide) ?_
  refine lv_iadd hx hb dX0_addBridge_38 ?_
  refine lv_iload_n hx hb dX0_addBridge_39 rfl (lv_at hl 4 rfl) ?_
  refine va_iast hx hb hK hP hD hS 2 0 rfl rfl (oh_sh (K := 10) (N := 16) h0 (show vp_in 2 10 by unfold vp_in; decide) rfl (by decide) (by decide)) dX0_addBridge_40 (fun H locs hP hD hS => ?_)
  have hP : va_P D vwCl [(a0, .inr (0, [.ref a0_counts, .ref a0_roads, .ref a0_bridges, .ref a0_waggons, .ref a0_parts, .ref a0_settings, .ref a0_trip, .int v_ow])), (a0_counts, .inl (E 0, 4, .inl fc)), (a0_bridges, .inl (E 0, 160, .inl (upd (upd (upd fb ((((fc 1) * 10) + 0).toNatClampNeg) v_a) ((((fc 1) * 10) + 1).toNatClampNeg) v_b) ((((fc 1) * 10) + 2).toNatClampNeg) v_c)))] H := hP
  have hD : va_D A [(a0, .inr (0, [.ref a0_counts, .ref a0_roads, .ref a0_bridges, .ref a0_waggons, .ref a0_parts, .ref a0_settings, .ref a0_trip, .int v_ow])), (a0_counts, .inl (E 0, 4, .inl fc)), (a0_bridges, .inl (E 0, 160, .inl (upd (upd (upd fb ((((fc 1) * 10) + 0).toNatClampNeg) v_a) ((((fc 1) * 10) + 1).toNatClampNeg) v_b) ((((fc 1) * 10) + 2).toNatClampNeg) v_c)))] := hD
  refine lv_aload_n hx hb dX0_addBridge_41 rfl (lv_at hl 1 rfl) ?_
  refine va_get (D := D) (ci := 0) (v := .ref a0_bridges) (C := RX0) (T := TX0) (N := 8) hx hb htg ig_0 hown hK hP 0 rfl rfl 2 (by decide) (htg _ q_103) (fun _ h9 => h9) rfl dX0_addBridge_42 ?_
  refine lv_iload hx hb dX0_addBridge_45 (lv_at hl 0 rfl) ?_
  refine lv_iconst (v := 3) hx hb dX0_addBridge_47 (by decide) ?_
  refine lv_iadd hx hb dX0_addBridge_48 ?_
  refine lv_iload hx hb dX0_addBridge_49 (lv_at hl 5 rfl) ?_
  refine va_iast hx hb hK hP hD hS 2 0 rfl rfl (oh_sh (K := 10) (N := 16) h0 (show vp_in 3 10 by unfold vp_in; decide) rfl (by decide) (by decide)) dX0_addBridge_51 (fun H locs hP hD hS => ?_)
  have hP : va_P D vwCl [(a0, .inr (0, [.ref a0_counts, .ref a0_roads, .ref a0_bridges, .ref a0_waggons, .ref a0_parts, .ref a0_settings, .ref a0_trip, .int v_ow])), (a0_counts, .inl (E 0, 4, .inl fc)), (a0_bridges, .inl (E 0, 160, .inl (upd (upd (upd (upd fb ((((fc 1) * 10) + 0).toNatClampNeg) v_a) ((((fc 1) * 10) + 1).toNatClampNeg) v_b) ((((fc 1) * 10) + 2).toNatClampNeg) v_c) ((((fc 1) * 10) + 3).toNatClampNeg) v_d)))] H := hP
  have hD : va_D A [(a0, .inr (0, [.ref a0_counts, .ref a0_roads, .ref a0_bridges, .ref a0_waggons, .ref a0_parts, .ref a0_settings, .ref a0_trip, .int v_ow])), (a0_counts, .inl (E 0, 4, .inl fc)), (a0_bridges, .inl (E 0, 160, .inl (upd (upd (upd (upd fb ((((fc 1) * 10) + 0).toNatClampNeg) v_a) ((((fc 1) * 10) + 1).toNatClampNeg) v_b) ((((fc 1) * 10) + 2).toNatClampNeg) v_c) ((((fc 1) * 10) + 3).toNatClampNeg) v_d)))] := hD
  refine lv_aload_n hx hb dX0_addBridge_52 rfl (lv_at hl 1 rfl) ?_
  refine va_get (D := D) (ci := 0) (v := .ref a0_bridges) (C := RX0) (T := TX0) (N := 8) hx hb htg ig_0 hown hK hP 0 rfl rfl 2 (by decide) (htg _ q_103) (fun _ h9 => h9) rfl dX0_addBridge_53 ?_
  refine lv_iload hx hb dX0_addBridge_56 (lv_at hl 0 rfl) ?_
  refine lv_iconst (v := 4) hx hb dX0_addBridge_58 (by decide) ?_
  refine lv_iadd hx hb dX0_addBridge_59 ?_
  refine lv_iload hx hb dX0_addBridge_60 (lv_at hl 6 rfl) ?_
  refine va_iast hx hb hK hP hD hS 2 0 rfl rfl (oh_sh (K := 10) (N := 16) h0 (show vp_in 4 10 by unfold vp_in; decide) rfl (by decide) (by decide)) dX0_addBridge_62 (fun H locs hP hD hS => ?_)
  have hP : va_P D vwCl [(a0, .inr (0, [.ref a0_counts, .ref a0_roads, .ref a0_bridges, .ref a0_waggons, .ref a0_parts, .ref a0_settings, .ref a0_trip, .int v_ow])), (a0_counts, .inl (E 0, 4, .inl fc)), (a0_bridges, .inl (E 0, 160, .inl (upd (upd (upd (upd (upd fb ((((fc 1) * 10) + 0).toNatClampNeg) v_a) ((((fc 1) * 10) + 1).toNatClampNeg) v_b) ((((fc 1) * 10) + 2).toNatClampNeg) v_c) ((((fc 1) * 10) + 3).toNatClampNeg) v_d) ((((fc 1) * 10) + 4).toNatClampNeg) v_e)))] H := hP
  have hD : va_D A [(a0, .inr (0, [.ref a0_counts, .ref a0_roads, .ref a0_bridges, .ref a0_waggons, .ref a0_parts, .ref a0_settings, .ref a0_trip, .int v_ow])), (a0_counts, .inl (E 0, 4, .inl fc)), (a0_bridges, .inl (E 0, 160, .inl (upd (upd (upd (upd (upd fb ((((fc 1) * 10) + 0).toNatClampNeg) v_a) ((((fc 1) * 10) + 1).toNatClampNeg) v_b) ((((fc 1) * 10) + 2).toNatClampNeg) v_c) ((((fc 1) * 10) + 3).toNatClampNeg) v_d) ((((fc 1) * 10) + 4).toNatClampNeg) v_e)))] := hD
  refine lv_iconst (v := 5) hx hb dX0_addBridge_63 (by decide) ?_
  refine lv_istore (lv' := [(7, .int 5), (6, .int ((fc 1) * 10)), (0, .ref a0), (1, .int v_a), (2, .int v_b), (3, .int v_c), (4, .int v_d), (5, .int v_e)]) hx hb dX0_addBridge_64 hl (by decide) rfl (fun ls hl => ?_)
  refine lv_iload hx hb dX0_addBridge_66 (lv_at hl 0 rfl) ?_
  refine lv_bipush (v := 10) hx hb dX0_addBridge_68 (by decide) ?_
  refine lv_icmp_ge (tgt := 90) hx hb dX0_addBridge_70 (by decide) (fun c => absurd c (show ¬ (10 ≤ (5 : Int32)) from by decide)) (fun _ => ?_)
  refine lv_aload_n hx hb dX0_addBridge_73 rfl (lv_at hl 2 rfl) ?_
  refine va_get (D := D) (ci := 0) (v := .ref a0_bridges) (C := RX0) (T := TX0) (N := 8) hx hb htg ig_0 hown hK hP 0 rfl rfl 2 (by decide) (htg _ q_103) (fun _ h9 => h9) rfl dX0_addBridge_74 ?_
  refine lv_iload hx hb dX0_addBridge_77 (lv_at hl 1 rfl) ?_
  refine lv_iload hx hb dX0_addBridge_79 (lv_at hl 0 rfl) ?_
  refine lv_iadd hx hb dX0_addBridge_81 ?_
  refine lv_iconst (v := 0) hx hb dX0_addBridge_82 (by decide) ?_
  refine va_iast hx hb hK hP hD hS 2 0 rfl rfl (oh_sh (K := 10) (N := 16) h0 (show vp_in 5 10 by unfold vp_in; decide) rfl (by decide) (by decide)) dX0_addBridge_83 (fun H locs hP hD hS => ?_)
  have hP : va_P D vwCl [(a0, .inr (0, [.ref a0_counts, .ref a0_roads, .ref a0_bridges, .ref a0_waggons, .ref a0_parts, .ref a0_settings, .ref a0_trip, .int v_ow])), (a0_counts, .inl (E 0, 4, .inl fc)), (a0_bridges, .inl (E 0, 160, .inl (upd (upd (upd (upd (upd (upd fb ((((fc 1) * 10) + 0).toNatClampNeg) v_a) ((((fc 1) * 10) + 1).toNatClampNeg) v_b) ((((fc 1) * 10) + 2).toNatClampNeg) v_c) ((((fc 1) * 10) + 3).toNatClampNeg) v_d) ((((fc 1) * 10) + 4).toNatClampNeg) v_e) ((((fc 1) * 10) + 5).toNatClampNeg) 0)))] H := hP
  have hD : va_D A [(a0, .inr (0, [.ref a0_counts, .ref a0_roads, .ref a0_bridges, .ref a0_waggons, .ref a0_parts, .ref a0_settings, .ref a0_trip, .int v_ow])), (a0_counts, .inl (E 0, 4, .inl fc)), (a0_bridges, .inl (E 0, 160, .inl (upd (upd (upd (upd (upd (upd fb ((((fc 1) * 10) + 0).toNatClampNeg) v_a) ((((fc 1) * 10) + 1).toNatClampNeg) v_b) ((((fc 1) * 10) + 2).toNatClampNeg) v_c) ((((fc 1) * 10) + 3).toNatClampNeg) v_d) ((((fc 1) * 10) + 4).toNatClampNeg) v_e) ((((fc 1) * 10) + 5).toNatClampNeg) 0)))] := hD
  refine lv_iinc (v := 6) (lv' := [(7, .int 6), (6, .int ((fc 1) * 10)), (0, .ref a0), (1, .int v_a), (2, .int v_b), (3, .int v_c), (4, .int v_d), (5, .int v_e)]) hx hb dX0_addBridge_84 hl (k := 0) rfl (by decide) (by decide) rfl (fun ls hl => ?_)
  refine lv_goto (tgt := 66) hx hb dX0_addBridge_87 (by decide) ?_
  refine lv_iload hx hb dX0_addBridge_66 (lv_at hl 0 rfl) ?_
  refine lv_bipush (v := 10) hx hb dX0_addBridge_68 (by decide) ?_
  refine lv_icmp_ge (tgt := 90) hx hb dX0_addBridge_70 (by decide) (fun c => absurd c (show ¬ (10 ≤ (6 : Int32)) from by decide)) (fun _ => ?_)
  refine lv_aload_n hx hb dX0_addBridge_73 rfl (lv_at hl 2 rfl) ?_
  refine va_get (D := D) (ci := 0) (v := .ref a0_bridges) (C := RX0) (T := TX0) (N := 8) hx hb htg ig_0 hown hK hP 0 rfl rfl 2 (by decide) (htg _ q_103) (fun _ h9 => h9) rfl dX0_addBridge_74 ?_
  refine lv_iload hx hb dX0_addBridge_77 (lv_at hl 1 rfl) ?_
  refine lv_iload hx hb dX0_addBridge_79 (lv_at hl 0 rfl) ?_
  refine lv_iadd hx hb dX0_addBridge_81 ?_
  refine lv_iconst (v := 0) hx hb dX0_addBridge_82 (by decide) ?_
  refine va_iast hx hb hK hP hD hS 2 0 rfl rfl (oh_sh (K := 10) (N := 16) h0 (show vp_in 6 10 by unfold vp_in; decide) rfl (by decide) (by decide)) dX0_addBridge_83 (fun H locs hP hD hS => ?_)
  have hP : va_P D vwCl [(a0, .inr (0, [.ref a0_counts, .ref a0_roads, .ref a0_bridges, .ref a0_waggons, .ref a0_parts, .ref a0_settings, .ref a0_trip, .int v_ow])), (a0_counts, .inl (E 0, 4, .inl fc)), (a0_bridges, .inl (E 0, 160, .inl (upd (upd (upd (upd (upd (upd (upd fb ((((fc 1) * 10) + 0).toNatClampNeg) v_a) ((((fc 1) * 10) + 1).toNatClampNeg) v_b) ((((fc 1) * 10) + 2).toNatClampNeg) v_c) ((((fc 1) * 10) + 3).toNatClampNeg) v_d) ((((fc 1) * 10) + 4).toNatClampNeg) v_e) ((((fc 1) * 10) + 5).toNatClampNeg) 0) ((((fc 1) * 10) + 6).toNatClampNeg) 0)))] H := hP
  have hD : va_D A [(a0, .inr (0, [.ref a0_counts, .ref a0_roads, .ref a0_bridges, .ref a0_waggons, .ref a0_parts, .ref a0_settings, .ref a0_trip, .int v_ow])), (a0_counts, .inl (E 0, 4, .inl fc)), (a0_bridges, .inl (E 0, 160, .inl (upd (upd (upd (upd (upd (upd (upd fb ((((fc 1) * 10) + 0).toNatClampNeg) v_a) ((((fc 1) * 10) + 1).toNatClampNeg) v_b) ((((fc 1) * 10) + 2).toNatClampNeg) v_c) ((((fc 1) * 10) + 3).toNatClampNeg) v_d) ((((fc 1) * 10) + 4).toNatClampNeg) v_e) ((((fc 1) * 10) + 5).toNatClampNeg) 0) ((((fc 1) * 10) + 6).toNatClampNeg) 0)))] := hD
  refine lv_iinc (v := 7) (lv' := [(7, .int 7), (6, .int ((fc 1) * 10)), (0, .ref a0), (1, .int v_a), (2, .int v_b), (3, .int v_c), (4, .int v_d), (5, .int v_e)]) hx hb dX0_addBridge_84 hl (k := 0) rfl (by decide) (by decide) rfl (fun ls hl => ?_)
  refine lv_goto (tgt := 66) hx hb dX0_addBridge_87 (by decide) ?_
  refine lv_iload hx hb dX0_addBridge_66 (lv_at hl 0 rfl) ?_
  refine lv_bipush (v := 10) hx hb dX0_addBridge_68 (by decide) ?_
  refine lv_icmp_ge (tgt := 90) hx hb dX0_addBridge_70 (by decide) (fun c => absurd c (show ¬ (10 ≤ (7 : Int32)) from by decide)) (fun _ => ?_)
  refine lv_aload_n hx hb dX0_addBridge_73 rfl (lv_at hl 2 rfl) ?_
  refine va_get (D := D) (ci := 0) (v := .ref a0_bridges) (C := RX0) (T := TX0) (N := 8) hx hb htg ig_0 hown hK hP 0 rfl rfl 2 (by decide) (htg _ q_103) (fun _ h9 => h9) rfl dX0_addBridge_74 ?_
  refine lv_iload hx hb dX0_addBridge_77 (lv_at hl 1 rfl) ?_
  refine lv_iload hx hb dX0_addBridge_79 (lv_at hl 0 rfl) ?_
  refine lv_iadd hx hb dX0_addBridge_81 ?_
  refine lv_iconst (v := 0) hx hb dX0_addBridge_82 (by decide) ?_
  refine va_iast hx hb hK hP hD hS 2 0 rfl rfl (oh_sh (K := 10) (N := 16) h0 (show vp_in 7 10 by unfold vp_in; decide) rfl (by decide) (by decide)) dX0_addBridge_83 (fun H locs hP hD hS => ?_)
  have hP : va_P D vwCl [(a0, .inr (0, [.ref a0_counts, .ref a0_roads, .ref a0_bridges, .ref a0_waggons, .ref a0_parts, .ref a0_settings, .ref a0_trip, .int v_ow])), (a0_counts, .inl (E 0, 4, .inl fc)), (a0_bridges, .inl (E 0, 160, .inl (upd (upd (upd (upd (upd (upd (upd (upd fb ((((fc 1) * 10) + 0).toNatClampNeg) v_a) ((((fc 1) * 10) + 1).toNatClampNeg) v_b) ((((fc 1) * 10) + 2).toNatClampNeg) v_c) ((((fc 1) * 10) + 3).toNatClampNeg) v_d) ((((fc 1) * 10) + 4).toNatClampNeg) v_e) ((((fc 1) * 10) + 5).toNatClampNeg) 0) ((((fc 1) * 10) + 6).toNatClampNeg) 0) ((((fc 1) * 10) + 7).toNatClampNeg) 0)))] H := hP
  have hD : va_D A [(a0, .inr (0, [.ref a0_counts, .ref a0_roads, .ref a0_bridges, .ref a0_waggons, .ref a0_parts, .ref a0_settings, .ref a0_trip, .int v_ow])), (a0_counts, .inl (E 0, 4, .inl fc)), (a0_bridges, .inl (E 0, 160, .inl (upd (upd (upd (upd (upd (upd (upd (upd fb ((((fc 1) * 10) + 0).toNatClampNeg) v_a) ((((fc 1) * 10) + 1).toNatClampNeg) v_b) ((((fc 1) * 10) + 2).toNatClampNeg) v_c) ((((fc 1) * 10) + 3).toNatClampNeg) v_d) ((((fc 1) * 10) + 4).toNatClampNeg) v_e) ((((fc 1) * 10) + 5).toNatClampNeg) 0) ((((fc 1) * 10) + 6).toNatClampNeg) 0) ((((fc 1) * 10) + 7).toNatClampNeg) 0)))] := hD
  refine lv_iinc (v := 8) (lv' := [(7, .int 8), (6, .int ((fc 1) * 10)), (0, .ref a0), (1, .int v_a), (2, .int v_b), (3, .int v_c), (4, .int v_d), (5, .int v_e)]) hx hb dX0_addBridge_84 hl (k := 0) rfl (by decide) (by decide) rfl (fun ls hl => ?_)
  refine lv_goto (tgt := 66) hx hb dX0_addBridge_87 (by decide) ?_
  refine lv_iload hx hb dX0_addBridge_66 (lv_at hl 0 rfl) ?_
  refine lv_bipush (v := 10) hx hb dX0_addBridge_68 (by decide) ?_
  refine lv_icmp_ge (tgt := 90) hx hb dX0_addBridge_70 (by decide) (fun c => absurd c (show ¬ (10 ≤ (8 : Int32)) from by decide)) (fun _ => ?_)
  refine lv_aload_n hx hb dX0_addBridge_73 rfl (lv_at hl 2 rfl) ?_
  refine va_get (D := D) (ci := 0) (v := .ref a0_bridges) (C := RX0) (T := TX0) (N := 8) hx hb htg ig_0 hown hK hP 0 rfl rfl 2 (by decide) (htg _ q_103) (fun _ h9 => h9) rfl dX0_addBridge_74 ?_
  refine lv_iload hx hb dX0_addBridge_77 (lv_at hl 1 rfl) ?_
  refine lv_iload hx hb dX0_addBridge_79 (lv_at hl 0 rfl) ?_
  refine lv_iadd hx hb dX0_addBridge_81 ?_
  refine lv_iconst (v := 0) hx hb dX0_addBridge_82 (by decide) ?_
  refine va_iast hx hb hK hP hD hS 2 0 rfl rfl (oh_sh (K := 10) (N := 16) h0 (show vp_in 8 10 by unfold vp_in; decide) rfl (by decide) (by decide)) dX0_addBridge_83 (fun H locs hP hD hS => ?_)
  have hP : va_P D vwCl [(a0, .inr (0, [.ref a0_counts, .ref a0_roads, .ref a0_bridges, .ref a0_waggons, .ref a0_parts, .ref a0_settings, .ref a0_trip, .int v_ow])), (a0_counts, .inl (E 0, 4, .inl fc)), (a0_bridges, .inl (E 0, 160, .inl (upd (upd (upd (upd (upd (upd (upd (upd (upd fb ((((fc 1) * 10) + 0).toNatClampNeg) v_a) ((((fc 1) * 10) + 1).toNatClampNeg) v_b) ((((fc 1) * 10) + 2).toNatClampNeg) v_c) ((((fc 1) * 10) + 3).toNatClampNeg) v_d) ((((fc 1) * 10) + 4).toNatClampNeg) v_e) ((((fc 1) * 10) + 5).toNatClampNeg) 0) ((((fc 1) * 10) + 6).toNatClampNeg) 0) ((((fc 1) * 10) + 7).toNatClampNeg) 0) ((((fc 1) * 10) + 8).toNatClampNeg) 0)))] H := hP
  have hD : va_D A [(a0, .inr (0, [.ref a0_counts, .ref a0_roads, .ref a0_bridges, .ref a0_waggons, .ref a0_parts, .ref a0_settings, .ref a0_trip, .int v_ow])), (a0_counts, .inl (E 0, 4, .inl fc)), (a0_bridges, .inl (E 0, 160, .inl (upd (upd (upd (upd (upd (upd (upd (upd (upd fb ((((fc 1) * 10) + 0).toNatClampNeg) v_a) ((((fc 1) * 10) + 1).toNatClampNeg) v_b) ((((fc 1) * 10) + 2).toNatClampNeg) v_c) ((((fc 1) * 10) + 3).toNatClampNeg) v_d) ((((fc 1) * 10) + 4).toNatClampNeg) v_e) ((((fc 1) * 10) + 5).toNatClampNeg) 0) ((((fc 1) * 10) + 6).toNatClampNeg) 0) ((((fc 1) * 10) + 7).toNatClampNeg) 0) ((((fc 1) * 10) + 8).toNatClampNeg) 0)))] := hD
  refine lv_iinc (v := 9) (lv' := [(7, .int 9), (6, .int ((fc 1) * 10)), (0, .ref a0), (1, .int v_a), (2, .int v_b), (3, .int v_c), (4, .int v_d), (5, .int v_e)]) hx hb dX0_addBridge_84 hl (k := 0) rfl (by decide) (by decide) rfl (fun ls hl => ?_)
  refine lv_goto (tgt := 66) hx hb dX0_addBridge_87 (by decide) ?_
  refine lv_iload hx hb dX0_addBridge_66 (lv_at hl 0 rfl) ?_
  refine lv_bipush (v := 10) hx hb dX0_addBridge_68 (by decide) ?_
  refine lv_icmp_ge (tgt := 90) hx hb dX0_addBridge_70 (by decide) (fun c => absurd c (show ¬ (10 ≤ (9 : Int32)) from by decide)) (fun _ => ?_)
  refine lv_aload_n hx hb dX0_addBridge_73 rfl (lv_at hl 2 rfl) ?_
  refine va_get (D := D) (ci := 0) (v := .ref a0_bridges) (C := RX0) (T := TX0) (N := 8) hx hb htg ig_0 hown hK hP 0 rfl rfl 2 (by decide) (htg _ q_103) (fun _ h9 => h9) rfl dX0_addBridge_74 ?_
  refine lv_iload hx hb dX0_addBridge_77 (lv_at hl 1 rfl) ?_
  refine lv_iload hx hb dX0_addBridge_79 (lv_at hl 0 rfl) ?_
  refine lv_iadd hx hb dX0_addBridge_81 ?_
  refine lv_iconst (v := 0) hx hb dX0_addBridge_82 (by decide) ?_
  refine va_iast hx hb hK hP hD hS 2 0 rfl rfl (oh_sh (K := 10) (N := 16) h0 (show vp_in 9 10 by unfold vp_in; decide) rfl (by decide) (by decide)) dX0_addBridge_83 (fun H locs hP hD hS => ?_)
  have hP : va_P D vwCl [(a0, .inr (0, [.ref a0_counts, .ref a0_roads, .ref a0_bridges, .ref a0_waggons, .ref a0_parts, .ref a0_settings, .ref a0_trip, .int v_ow])), (a0_counts, .inl (E 0, 4, .inl fc)), (a0_bridges, .inl (E 0, 160, .inl (upd (upd (upd (upd (upd (upd (upd (upd (upd (upd fb ((((fc 1) * 10) + 0).toNatClampNeg) v_a) ((((fc 1) * 10) + 1).toNatClampNeg) v_b) ((((fc 1) * 10) + 2).toNatClampNeg) v_c) ((((fc 1) * 10) + 3).toNatClampNeg) v_d) ((((fc 1) * 10) + 4).toNatClampNeg) v_e) ((((fc 1) * 10) + 5).toNatClampNeg) 0) ((((fc 1) * 10) + 6).toNatClampNeg) 0) ((((fc 1) * 10) + 7).toNatClampNeg) 0) ((((fc 1) * 10) + 8).toNatClampNeg) 0) ((((fc 1) * 10) + 9).toNatClampNeg) 0)))] H := hP
  have hD : va_D A [(a0, .inr (0, [.ref a0_counts, .ref a0_roads, .ref a0_bridges, .ref a0_waggons, .ref a0_parts, .ref a0_settings, .ref a0_trip, .int v_ow])), (a0_counts, .inl (E 0, 4, .inl fc)), (a0_bridges, .inl (E 0, 160, .inl (upd (upd (upd (upd (upd (upd (upd (upd (upd (upd fb ((((fc 1) * 10) + 0).toNatClampNeg) v_a) ((((fc 1) * 10) + 1).toNatClampNeg) v_b) ((((fc 1) * 10) + 2).toNatClampNeg) v_c) ((((fc 1) * 10) + 3).toNatClampNeg) v_d) ((((fc 1) * 10) + 4).toNatClampNeg) v_e) ((((fc 1) * 10) + 5).toNatClampNeg) 0) ((((fc 1) * 10) + 6).toNatClampNeg) 0) ((((fc 1) * 10) + 7).toNatClampNeg) 0) ((((fc 1) * 10) + 8).toNatClampNeg) 0) ((((fc 1) * 10) + 9).toNatClampNeg) 0)))] := hD
  refine lv_iinc (v := 10) (lv' := [(7, .int 10), (6, .int ((fc 1) * 10)), (0, .ref a0), (1, .int v_a), (2, .int v_b), (3, .int v_c), (4, .int v_d), (5, .int v_e)]) hx hb dX0_addBridge_84 hl (k := 0) rfl (by decide) (by decide) rfl (fun ls hl => ?_)
  refine lv_goto (tgt := 66) hx hb dX0_addBridge_87 (by decide) ?_
  refine lv_iload hx hb dX0_addBridge_66 (lv_at hl 0 rfl) ?_
  refine lv_bipush (v := 10) hx hb dX0_addBridge_68 (by decide) ?_
  refine lv_icmp_ge (tgt := 90) hx hb dX0_addBridge_70 (by decide) (fun _ => ?_) (fun c => absurd (show 10 ≤ (10 : Int32) from by decide) c)
  refine lv_aload_n hx hb dX0_addBridge_90 rfl (lv_at hl 2 rfl) ?_
  refine va_get (D := D) (ci := 0) (v := .ref a0_counts) (C := RX0) (T := TX0) (N := 8) hx hb htg ig_0 hown hK hP 0 rfl rfl 0 (by decide) (htg _ q_97) (fun _ h9 => h9) rfl dX0_addBridge_91 ?_
  refine lv_iconst (v := 1) hx hb dX0_addBridge_94 (by decide) ?_
  refine lv_dup2_11 hx hb dX0_addBridge_95 rfl rfl ?_
  refine va_iald hx hb hK hP 1 0 rfl rfl (show vp_in 1 4 by unfold vp_in; decide) dX0_addBridge_96 ?_
  refine lv_dup_x2 hx hb dX0_addBridge_97 rfl rfl rfl ?_
  refine lv_iconst (v := 1) hx hb dX0_addBridge_98 (by decide) ?_
  refine lv_iadd hx hb dX0_addBridge_99 ?_
  refine va_iast hx hb hK hP hD hS 1 0 rfl rfl (show vp_in 1 4 by unfold vp_in; decide) dX0_addBridge_100 (fun H locs hP hD hS => ?_)
  have hP : va_P D vwCl [(a0, .inr (0, [.ref a0_counts, .ref a0_roads, .ref a0_bridges, .ref a0_waggons, .ref a0_parts, .ref a0_settings, .ref a0_trip, .int v_ow])), (a0_counts, .inl (E 0, 4, .inl (upd fc 1 ((fc 1) + 1)))), (a0_bridges, .inl (E 0, 160, .inl (upd (upd (upd (upd (upd (upd (upd (upd (upd (upd fb ((((fc 1) * 10) + 0).toNatClampNeg) v_a) ((((fc 1) * 10) + 1).toNatClampNeg) v_b) ((((fc 1) * 10) + 2).toNatClampNeg) v_c) ((((fc 1) * 10) + 3).toNatClampNeg) v_d) ((((fc 1) * 10) + 4).toNatClampNeg) v_e) ((((fc 1) * 10) + 5).toNatClampNeg) 0) ((((fc 1) * 10) + 6).toNatClampNeg) 0) ((((fc 1) * 10) + 7).toNatClampNeg) 0) ((((fc 1) * 10) + 8).toNatClampNeg) 0) ((((fc 1) * 10) + 9).toNatClampNeg) 0)))] H := hP
  have hD : va_D A [(a0, .inr (0, [.ref a0_counts, .ref a0_roads, .ref a0_bridges, .ref a0_waggons, .ref a0_parts, .ref a0_settings, .ref a0_trip, .int v_ow])), (a0_counts, .inl (E 0, 4, .inl (upd fc 1 ((fc 1) + 1)))), (a0_bridges, .inl (E 0, 160, .inl (upd (upd (upd (upd (upd (upd (upd (upd (upd (upd fb ((((fc 1) * 10) + 0).toNatClampNeg) v_a) ((((fc 1) * 10) + 1).toNatClampNeg) v_b) ((((fc 1) * 10) + 2).toNatClampNeg) v_c) ((((fc 1) * 10) + 3).toNatClampNeg) v_d) ((((fc 1) * 10) + 4).toNatClampNeg) v_e) ((((fc 1) * 10) + 5).toNatClampNeg) 0) ((((fc 1) * 10) + 6).toNatClampNeg) 0) ((((fc 1) * 10) + 7).toNatClampNeg) 0) ((((fc 1) * 10) + 8).toNatClampNeg) 0) ((((fc 1) * 10) + 9).toNatClampNeg) 0)))] := hD
  refine W.widen (k := 0) (n := 0) (Nat.le_of_ble_eq_true rfl) (Nat.le_of_ble_eq_true rfl) ?_
  exact W.iret (v := fc 1) hx hb hr (fun t ht hW => ⟨⟨fc 1, (), rfl, rfl, ⟨by rw [ht]; exact hP.sub [0, 1, 2] rfl, hD.sub [0, 1, 2] (by decide) rfl⟩⟩, hS.F ht⟩) hS.2.2 dX0_addBridge_101
set_option maxHeartbeats 4000000 in
set_option maxRecDepth 100000 in
theorem c_X0_addWaggon (l : Launch) (D : va_G) (E : Nat → ClassId) (G : Nat → Nat) (sz : Nat) (a0 : Nat) (v_a : Int32) (v_b : Int32) (v_c : Int32) (a0_counts : Nat) (a0_roads : Nat) (a0_bridges : Nat) (a0_waggons : Nat) (a0_parts : Nat) (a0_settings : Nat) (a0_trip : Nat) (v_ow : Int32) (fc : Nat → Int32) (fw : Nat → Int32) (h0 : vp_in (fc 2) 5) : Met l yX0_addWaggon (oh_w yX0_addWaggon cX0_addWaggon 5 (some .int)) ({ frames := 0, cells := 0, slots := 0, locals := 0 }) (oh_Pm D E G [.ref a0, .int v_a, .int v_b, .int v_c] [(a0, .inr (0, [.ref a0_counts, .ref a0_roads, .ref a0_bridges, .ref a0_waggons, .ref a0_parts, .ref a0_settings, .ref a0_trip, .int v_ow])), (a0_counts, .inl (E 0, 4, .inl fc)), (a0_waggons, .inl (E 0, 15, .inl fw))] sz) (va_Qi (fun r (_ : Unit) => r = fc 2) (oh_B D (va_A [(a0, .inr (0, [.ref a0_counts, .ref a0_roads, .ref a0_bridges, .ref a0_waggons, .ref a0_parts, .ref a0_settings, .ref a0_trip, .int v_ow])), (a0_counts, .inl (E 0, 4, .inl fc)), (a0_waggons, .inl (E 0, 15, .inl fw))] sz) (fun _ => [(a0, .inr (0, [.ref a0_counts, .ref a0_roads, .ref a0_bridges, .ref a0_waggons, .ref a0_parts, .ref a0_settings, .ref a0_trip, .int v_ow])), (a0_counts, .inl (E 0, 4, .inl (upd fc 2 ((fc 2) + 1)))), (a0_waggons, .inl (E 0, 15, .inl (upd (upd (upd fw ((((fc 2) * 3) + 0).toNatClampNeg) v_a) ((((fc 2) * 3) + 1).toNatClampNeg) v_b) ((((fc 2) * 3) + 2).toNatClampNeg) v_c)))])) (va_A [(a0, .inr (0, [.ref a0_counts, .ref a0_roads, .ref a0_bridges, .ref a0_waggons, .ref a0_parts, .ref a0_settings, .ref a0_trip, .int v_ow])), (a0_counts, .inl (E 0, 4, .inl fc)), (a0_waggons, .inl (E 0, 15, .inl fw))] sz)) 0 0 (va_A [(a0, .inr (0, [.ref a0_counts, .ref a0_roads, .ref a0_bridges, .ref a0_waggons, .ref a0_parts, .ref a0_settings, .ref a0_trip, .int v_ow])), (a0_counts, .inl (E 0, 4, .inl fc)), (a0_waggons, .inl (E 0, 15, .inl fw))] sz) := by
  refine Met.ofW (cc := cX0_addWaggon) (maxL := 5) (ret := (some .int)) (by decide) rfl ?_
  intro p e s m args below meth c s₁ B hml hv
  obtain ⟨rfl, hsz, hP, hK, hD0, hG⟩ := hv
  have hx := B.exec
  have hb := B.bytes
  have hr := B.returns
  have hts := atoms_spec (ws := (oh_w yX0_addWaggon cX0_addWaggon 5 (some .int))) B.pre
  have htg : ∀ w ∈ oh_t, w.before _ s = true := fun w h => hts w (List.mem_cons_of_mem _ h)
  have hown : s.vm.findClass RX0 = some m.cls := findClass_of_methodNamed B.named
  have hlocks := B.notSynchronized
  subst hsz
  have hD := hD0.self (sz := s.heap.size)
  generalize hAe : va_A [(a0, .inr (0, [.ref a0_counts, .ref a0_roads, .ref a0_bridges, .ref a0_waggons, .ref a0_parts, .ref a0_settings, .ref a0_trip, .int v_ow])), (a0_counts, .inl (E 0, 4, .inl fc)), (a0_waggons, .inl (E 0, 15, .inl fw))] s.heap.size = A at hD hG ⊢
  have hA : ∀ q : Nat, s.heap.size ≤ q → A q := fun q h => by rw [← hAe]; exact Or.inr h
  have hS : va_S A s.heap s.heap [] := va_S.rf
  have hP : va_P D vwCl [(a0, .inr (0, [.ref a0_counts, .ref a0_roads, .ref a0_bridges, .ref a0_waggons, .ref a0_parts, .ref a0_settings, .ref a0_trip, .int v_ow])), (a0_counts, .inl (E 0, 4, .inl fc)), (a0_waggons, .inl (E 0, 15, .inl fw))] s.heap := hP
  have hl := lv_entry ([.ref a0, .int v_a, .int v_b, .int v_c]) (n := 5) (Nat.le_of_ble_eq_true rfl)
  rw [lg_entry_eq]
  generalize (lg_sl ([.ref a0, .int v_a, .int v_b, .int v_c]) ++ List.replicate (5 - (lg_sl ([.ref a0, .int v_a, .int v_b, .int v_c])).length) Slot.unset).toArray = ls at hl ⊢
  have hl : lv_has ls 5 [(0, .ref a0), (1, .int v_a), (2, .int v_b), (3, .int v_c)] := hl
  refine lv_aload_n hx hb dX0_addWaggon_0 rfl (lv_at hl 0 rfl) ?_
  refine va_get (D := D) (ci := 0) (v := .ref a0_counts) (C := RX0) (T := TX0) (N := 8) hx hb htg ig_0 hown hK hP 0 rfl rfl 0 (by decide) (htg _ q_97) (fun _ h9 => h9) rfl dX0_addWaggon_1 ?_
  refine lv_iconst (v := 2) hx hb dX0_addWaggon_4 (by decide) ?_
  refine va_iald hx hb hK hP 1 0 rfl rfl (show vp_in 2 4 by unfold vp_in; decide) dX0_addWaggon_5 ?_
  refine lv_iconst (v := 3) hx hb dX0_addWaggon_6 (by decide) ?_
  refine lv_imul hx hb dX0_addWaggon_7 ?_
  refine lv_istore (lv' := [(4, .int ((fc 2) * 3)), (0, .ref a0), (1, .int v_a), (2, .int v_b), (3, .int v_c)]) hx hb dX0_addWaggon_8 hl (by decide) rfl (fun ls hl => ?_)
  refine lv_aload_n hx hb dX0_addWaggon_10 rfl (lv_at hl 1 rfl) ?_
  refine va_get (D := D) (ci := 0) (v := .ref a0_waggons) (C := RX0) (T := TX0) (N := 8) hx hb htg ig_0 hown hK hP 0 rfl rfl 3 (by decide) (htg _ q_104) (fun _ h9 => h9) rfl dX0_addWaggon_11 ?_
  refine lv_iload hx hb dX0_addWaggon_14 (lv_at hl 0 rfl) ?_
  refine lv_iconst (v := 0) hx hb dX0_addWaggon_16 (by decide) ?_
  refine lv_iadd hx hb dX0_addWaggon_17 ?_
  refine lv_iload_n hx hb dX0_addWaggon_18 rfl (lv_at hl 2 rfl) ?_
  refine va_iast hx hb hK hP hD hS 2 0 rfl rfl (oh_sh (K := 3) (N := 5) h0 (show vp_in 0 3 by unfold vp_in; decide) rfl (by decide) (by decide)) dX0_addWaggon_19 (fun H locs hP hD hS => ?_)
  have hP : va_P D vwCl [(a0, .inr (0, [.ref a0_counts, .ref a0_roads, .ref a0_bridges, .ref a0_waggons, .ref a0_parts, .ref a0_settings, .ref a0_trip, .int v_ow])), (a0_counts, .inl (E 0, 4, .inl fc)), (a0_waggons, .inl (E 0, 15, .inl (upd fw ((((fc 2) * 3) + 0).toNatClampNeg) v_a)))] H := hP
  have hD : va_D A [(a0, .inr (0, [.ref a0_counts, .ref a0_roads, .ref a0_bridges, .ref a0_waggons, .ref a0_parts, .ref a0_settings, .ref a0_trip, .int v_ow])), (a0_counts, .inl (E 0, 4, .inl fc)), (a0_waggons, .inl (E 0, 15, .inl (upd fw ((((fc 2) * 3) + 0).toNatClampNeg) v_a)))] := hD
  refine lv_aload_n hx hb dX0_addWaggon_20 rfl (lv_at hl 1 rfl) ?_
  refine va_get (D := D) (ci := 0) (v := .ref a0_waggons) (C := RX0) (T := TX0) (N := 8) hx hb htg ig_0 hown hK hP 0 rfl rfl 3 (by decide) (htg _ q_104) (fun _ h9 => h9) rfl dX0_addWaggon_21 ?_
  refine lv_iload hx hb dX0_addWaggon_24 (lv_at hl 0 rfl) ?_
  refine lv_iconst (v := 1) hx hb dX0_addWaggon_26 (by decide) ?_
  refine lv_iadd hx hb dX0_addWaggon_27 ?_
  refine lv_iload_n hx hb dX0_addWaggon_28 rfl (lv_at hl 3 rfl) ?_
  refine va_iast hx hb hK hP hD hS 2 0 rfl rfl (oh_sh (K := 3) (N := 5) h0 (show vp_in 1 3 by unfold vp_in; decide) rfl (by decide) (by decide)) dX0_addWaggon_29 (fun H locs hP hD hS => ?_)
  have hP : va_P D vwCl [(a0, .inr (0, [.ref a0_counts, .ref a0_roads, .ref a0_bridges, .ref a0_waggons, .ref a0_parts, .ref a0_settings, .ref a0_trip, .int v_ow])), (a0_counts, .inl (E 0, 4, .inl fc)), (a0_waggons, .inl (E 0, 15, .inl (upd (upd fw ((((fc 2) * 3) + 0).toNatClampNeg) v_a) ((((fc 2) * 3) + 1).toNatClampNeg) v_b)))] H := hP
  have hD : va_D A [(a0, .inr (0, [.ref a0_counts, .ref a0_roads, .ref a0_bridges, .ref a0_waggons, .ref a0_parts, .ref a0_settings, .ref a0_trip, .int v_ow])), (a0_counts, .inl (E 0, 4, .inl fc)), (a0_waggons, .inl (E 0, 15, .inl (upd (upd fw ((((fc 2) * 3) + 0).toNatClampNeg) v_a) ((((fc 2) * 3) + 1).toNatClampNeg) v_b)))] := hD
  refine lv_aload_n hx hb dX0_addWaggon_30 rfl (lv_at hl 1 rfl) ?_
  refine va_get (D := D) (ci := 0) (v := .ref a0_waggons) (C := RX0) (T := TX0) (N := 8) hx hb htg ig_0 hown hK hP 0 rfl rfl 3 (by decide) (htg _ q_104) (fun _ h9 => h9) rfl dX0_addWaggon_31 ?_
  refine lv_iload hx hb dX0_addWaggon_34 (lv_at hl 0 rfl) ?_
  refine lv_iconst (v := 2) hx hb dX0_addWaggon_36 (by decide) ?_
  refine lv_iadd hx hb dX0_addWaggon_37 ?_
  refine lv_iload_n hx hb dX0_addWaggon_38 rfl (lv_at hl 4 rfl) ?_
  refine va_iast hx hb hK hP hD hS 2 0 rfl rfl (oh_sh (K := 3) (N := 5) h0 (show vp_in 2 3 by unfold vp_in; decide) rfl (by decide) (by decide)) dX0_addWaggon_39 (fun H locs hP hD hS => ?_)
  have hP : va_P D vwCl [(a0, .inr (0, [.ref a0_counts, .ref a0_roads, .ref a0_bridges, .ref a0_waggons, .ref a0_parts, .ref a0_settings, .ref a0_trip, .int v_ow])), (a0_counts, .inl (E 0, 4, .inl fc)), (a0_waggons, .inl (E 0, 15, .inl (upd (upd (upd fw ((((fc 2) * 3) + 0).toNatClampNeg) v_a) ((((fc 2) * 3) + 1).toNatClampNeg) v_b) ((((fc 2) * 3) + 2).toNatClampNeg) v_c)))] H := hP
  have hD : va_D A [(a0, .inr (0, [.ref a0_counts, .ref a0_roads, .ref a0_bridges, .ref a0_waggons, .ref a0_parts, .ref a0_settings, .ref a0_trip, .int v_ow])), (a0_counts, .inl (E 0, 4, .inl fc)), (a0_waggons, .inl (E 0, 15, .inl (upd (upd (upd fw ((((fc 2) * 3) + 0).toNatClampNeg) v_a) ((((fc 2) * 3) + 1).toNatClampNeg) v_b) ((((fc 2) * 3) + 2).toNatClampNeg) v_c)))] := hD
  refine lv_aload_n hx hb dX0_addWaggon_40 rfl (lv_at hl 1 rfl) ?_
  refine va_get (D := D) (ci := 0) (v := .ref a0_counts) (C := RX0) (T := TX0) (N := 8) hx hb htg ig_0 hown hK hP 0 rfl rfl 0 (by decide) (htg _ q_97) (fun _ h9 => h9) rfl dX0_addWaggon_41 ?_
  refine lv_iconst (v := 2) hx hb dX0_addWaggon_44 (by decide) ?_
  refine lv_dup2_11 hx hb dX0_addWaggon_45 rfl rfl ?_
  refine va_iald hx hb hK hP 1 0 rfl rfl (show vp_in 2 4 by unfold vp_in; decide) dX0_addWaggon_46 ?_
  refine lv_dup_x2 hx hb dX0_addWaggon_47 rfl rfl rfl ?_
  refine lv_iconst (v := 1) hx hb dX0_addWaggon_48 (by decide) ?_
  refine lv_iadd hx hb dX0_addWaggon_49 ?_
  refine va_iast hx hb hK hP hD hS 1 0 rfl rfl (show vp_in 2 4 by unfold vp_in; decide) dX0_addWaggon_50 (fun H locs hP hD hS => ?_)
  have hP : va_P D vwCl [(a0, .inr (0, [.ref a0_counts, .ref a0_roads, .ref a0_bridges, .ref a0_waggons, .ref a0_parts, .ref a0_settings, .ref a0_trip, .int v_ow])), (a0_counts, .inl (E 0, 4, .inl (upd fc 2 ((fc 2) + 1)))), (a0_waggons, .inl (E 0, 15, .inl (upd (upd (upd fw ((((fc 2) * 3) + 0).toNatClampNeg) v_a) ((((fc 2) * 3) + 1).toNatClampNeg) v_b) ((((fc 2) * 3) + 2).toNatClampNeg) v_c)))] H := hP
  have hD : va_D A [(a0, .inr (0, [.ref a0_counts, .ref a0_roads, .ref a0_bridges, .ref a0_waggons, .ref a0_parts, .ref a0_settings, .ref a0_trip, .int v_ow])), (a0_counts, .inl (E 0, 4, .inl (upd fc 2 ((fc 2) + 1)))), (a0_waggons, .inl (E 0, 15, .inl (upd (upd (upd fw ((((fc 2) * 3) + 0).toNatClampNeg) v_a) ((((fc 2) * 3) + 1).toNatClampNeg) v_b) ((((fc 2) * 3) + 2).toNatClampNeg) v_c)))] := hD
  refine W.widen (k := 0) (n := 0) (Nat.le_of_ble_eq_true rfl) (Nat.le_of_ble_eq_true rfl) ?_
  exact W.iret (v := fc 2) hx hb hr (fun t ht hW => ⟨⟨fc 2, (), rfl, rfl, ⟨by rw [ht]; exact hP.sub [0, 1, 2] rfl, hD.sub [0, 1, 2] (by decide) rfl⟩⟩, hS.F ht⟩) hS.2.2 dX0_addWaggon_51
set_option maxHeartbeats 4000000 in
set_option maxRecDepth 100000 in
theorem c_X0_addPart (l : Launch) (D : va_G) (E : Nat → ClassId) (G : Nat → Nat) (sz : Nat) (a0 : Nat) (v_a : Int32) (v_b : Int32) (a0_counts : Nat) (a0_roads : Nat) (a0_bridges : Nat) (a0_waggons : Nat) (a0_parts : Nat) (a0_settings : Nat) (a0_trip : Nat) (v_ow : Int32) (fc : Nat → Int32) (fp : Nat → Int32) (h0 : vp_in (fc 3) 5) : Met l yX0_addPart (oh_w yX0_addPart cX0_addPart 4 (some .int)) ({ frames := 0, cells := 0, slots := 0, locals := 0 }) (oh_Pm D E G [.ref a0, .int v_a, .int v_b] [(a0, .inr (0, [.ref a0_counts, .ref a0_roads, .ref a0_bridges, .ref a0_waggons, .ref a0_parts, .ref a0_settings, .ref a0_trip, .int v_ow])), (a0_counts, .inl (E 0, 4, .inl fc)), (a0_parts, .inl (E 0, 10, .inl fp))] sz) (va_Qi (fun r (_ : Unit) => r = fc 3) (oh_B D (va_A [(a0, .inr (0, [.ref a0_counts, .ref a0_roads, .ref a0_bridges, .ref a0_waggons, .ref a0_parts, .ref a0_settings, .ref a0_trip, .int v_ow])), (a0_counts, .inl (E 0, 4, .inl fc)), (a0_parts, .inl (E 0, 10, .inl fp))] sz) (fun _ => [(a0, .inr (0, [.ref a0_counts, .ref a0_roads, .ref a0_bridges, .ref a0_waggons, .ref a0_parts, .ref a0_settings, .ref a0_trip, .int v_ow])), (a0_counts, .inl (E 0, 4, .inl (upd fc 3 ((fc 3) + 1)))), (a0_parts, .inl (E 0, 10, .inl (upd (upd fp ((((fc 3) * 2) + 0).toNatClampNeg) v_a) ((((fc 3) * 2) + 1).toNatClampNeg) v_b)))])) (va_A [(a0, .inr (0, [.ref a0_counts, .ref a0_roads, .ref a0_bridges, .ref a0_waggons, .ref a0_parts, .ref a0_settings, .ref a0_trip, .int v_ow])), (a0_counts, .inl (E 0, 4, .inl fc)), (a0_parts, .inl (E 0, 10, .inl fp))] sz)) 0 0 (va_A [(a0, .inr (0, [.ref a0_counts, .ref a0_roads, .ref a0_bridges, .ref a0_waggons, .ref a0_parts, .ref a0_settings, .ref a0_trip, .int v_ow])), (a0_counts, .inl (E 0, 4, .inl fc)), (a0_parts, .inl (E 0, 10, .inl fp))] sz) := by
  refine Met.ofW (cc := cX0_addPart) (maxL := 4) (ret := (some .int)) (by decide) rfl ?_
  intro p e s m args below meth c s₁ B hml hv
  obtain ⟨rfl, hsz, hP, hK, hD0, hG⟩ := hv
  have hx := B.exec
  have hb := B.bytes
  have hr := B.returns
  have hts := atoms_spec (ws := (oh_w yX0_addPart cX0_addPart 4 (some .int))) B.pre
  have htg : ∀ w ∈ oh_t, w.before _ s = true := fun w h => hts w (List.mem_cons_of_mem _ h)
  have hown : s.vm.findClass RX0 = some m.cls := findClass_of_methodNamed B.named
  have hlocks := B.notSynchronized
  subst hsz
  have hD := hD0.self (sz := s.heap.size)
  generalize hAe : va_A [(a0, .inr (0, [.ref a0_counts, .ref a0_roads, .ref a0_bridges, .ref a0_waggons, .ref a0_parts, .ref a0_settings, .ref a0_trip, .int v_ow])), (a0_counts, .inl (E 0, 4, .inl fc)), (a0_parts, .inl (E 0, 10, .inl fp))] s.heap.size = A at hD hG ⊢
  have hA : ∀ q : Nat, s.heap.size ≤ q → A q := fun q h => by rw [← hAe]; exact Or.inr h
  have hS : va_S A s.heap s.heap [] := va_S.rf
  have hP : va_P D vwCl [(a0, .inr (0, [.ref a0_counts, .ref a0_roads, .ref a0_bridges, .ref a0_waggons, .ref a0_parts, .ref a0_settings, .ref a0_trip, .int v_ow])), (a0_counts, .inl (E 0, 4, .inl fc)), (a0_parts, .inl (E 0, 10, .inl fp))] s.heap := hP
  have hl := lv_entry ([.ref a0, .int v_a, .int v_b]) (n := 4) (Nat.le_of_ble_eq_true rfl)
  rw [lg_entry_eq]
  generalize (lg_sl ([.ref a0, .int v_a, .int v_b]) ++ List.replicate (4 - (lg_sl ([.ref a0, .int v_a, .int v_b])).length) Slot.unset).toArray = ls at hl ⊢
  have hl : lv_has ls 4 [(0, .ref a0), (1, .int v_a), (2, .int v_b)] := hl
  refine lv_aload_n hx hb dX0_addPart_0 rfl (lv_at hl 0 rfl) ?_
  refine va_get (D := D) (ci := 0) (v := .ref a0_counts) (C := RX0) (T := TX0) (N := 8) hx hb htg ig_0 hown hK hP 0 rfl rfl 0 (by decide) (htg _ q_97) (fun _ h9 => h9) rfl dX0_addPart_1 ?_
  refine lv_iconst (v := 3) hx hb dX0_addPart_4 (by decide) ?_
  refine va_iald hx hb hK hP 1 0 rfl rfl (show vp_in 3 4 by unfold vp_in; decide) dX0_addPart_5 ?_
  refine lv_iconst (v := 2) hx hb dX0_addPart_6 (by decide) ?_
  refine lv_imul hx hb dX0_addPart_7 ?_
  refine lv_istore_n (lv' := [(3, .int ((fc 3) * 2)), (0, .ref a0), (1, .int v_a), (2, .int v_b)]) hx hb dX0_addPart_8 rfl hl (by decide) rfl (fun ls hl => ?_)
  refine lv_aload_n hx hb dX0_addPart_9 rfl (lv_at hl 1 rfl) ?_
  refine va_get (D := D) (ci := 0) (v := .ref a0_parts) (C := RX0) (T := TX0) (N := 8) hx hb htg ig_0 hown hK hP 0 rfl rfl 4 (by decide) (htg _ q_105) (fun _ h9 => h9) rfl dX0_addPart_10 ?_
  refine lv_iload_n hx hb dX0_addPart_13 rfl (lv_at hl 0 rfl) ?_
  refine lv_iconst (v := 0) hx hb dX0_addPart_14 (by decide) ?_
  refine lv_iadd hx hb dX0_addPart_15 ?_
  refine lv_iload_n hx hb dX0_addPart_16 rfl (lv_at hl 2 rfl) ?_
  refine va_iast hx hb hK hP hD hS 2 0 rfl rfl (oh_sh (K := 2) (N := 5) h0 (show vp_in 0 2 by unfold vp_in; decide) rfl (by decide) (by decide)) dX0_addPart_17 (fun H locs hP hD hS => ?_)
  have hP : va_P D vwCl [(a0, .inr (0, [.ref a0_counts, .ref a0_roads, .ref a0_bridges, .ref a0_waggons, .ref a0_parts, .ref a0_settings, .ref a0_trip, .int v_ow])), (a0_counts, .inl (E 0, 4, .inl fc)), (a0_parts, .inl (E 0, 10, .inl (upd fp ((((fc 3) * 2) + 0).toNatClampNeg) v_a)))] H := hP
  have hD : va_D A [(a0, .inr (0, [.ref a0_counts, .ref a0_roads, .ref a0_bridges, .ref a0_waggons, .ref a0_parts, .ref a0_settings, .ref a0_trip, .int v_ow])), (a0_counts, .inl (E 0, 4, .inl fc)), (a0_parts, .inl (E 0, 10, .inl (upd fp ((((fc 3) * 2) + 0).toNatClampNeg) v_a)))] := hD
  refine lv_aload_n hx hb dX0_addPart_18 rfl (lv_at hl 1 rfl) ?_
  refine va_get (D := D) (ci := 0) (v := .ref a0_parts) (C := RX0) (T := TX0) (N := 8) hx hb htg ig_0 hown hK hP 0 rfl rfl 4 (by decide) (htg _ q_105) (fun _ h9 => h9) rfl dX0_addPart_19 ?_
  refine lv_iload_n hx hb dX0_addPart_22 rfl (lv_at hl 0 rfl) ?_
  refine lv_iconst (v := 1) hx hb dX0_addPart_23 (by decide) ?_
  refine lv_iadd hx hb dX0_addPart_24 ?_
  refine lv_iload_n hx hb dX0_addPart_25 rfl (lv_at hl 3 rfl) ?_
  refine va_iast hx hb hK hP hD hS 2 0 rfl rfl (oh_sh (K := 2) (N := 5) h0 (show vp_in 1 2 by unfold vp_in; decide) rfl (by decide) (by decide)) dX0_addPart_26 (fun H locs hP hD hS => ?_)
  have hP : va_P D vwCl [(a0, .inr (0, [.ref a0_counts, .ref a0_roads, .ref a0_bridges, .ref a0_waggons, .ref a0_parts, .ref a0_settings, .ref a0_trip, .int v_ow])), (a0_counts, .inl (E 0, 4, .inl fc)), (a0_parts, .inl (E 0, 10, .inl (upd (upd fp ((((fc 3) * 2) + 0).toNatClampNeg) v_a) ((((fc 3) * 2) + 1).toNatClampNeg) v_b)))] H := hP
  have hD : va_D A [(a0, .inr (0, [.ref a0_counts, .ref a0_roads, .ref a0_bridges, .ref a0_waggons, .ref a0_parts, .ref a0_settings, .ref a0_trip, .int v_ow])), (a0_counts, .inl (E 0, 4, .inl fc)), (a0_parts, .inl (E 0, 10, .inl (upd (upd fp ((((fc 3) * 2) + 0).toNatClampNeg) v_a) ((((fc 3) * 2) + 1).toNatClampNeg) v_b)))] := hD
  refine lv_aload_n hx hb dX0_addPart_27 rfl (lv_at hl 1 rfl) ?_
  refine va_get (D := D) (ci := 0) (v := .ref a0_counts) (C := RX0) (T := TX0) (N := 8) hx hb htg ig_0 hown hK hP 0 rfl rfl 0 (by decide) (htg _ q_97) (fun _ h9 => h9) rfl dX0_addPart_28 ?_
  refine lv_iconst (v := 3) hx hb dX0_addPart_31 (by decide) ?_
  refine lv_dup2_11 hx hb dX0_addPart_32 rfl rfl ?_
  refine va_iald hx hb hK hP 1 0 rfl rfl (show vp_in 3 4 by unfold vp_in; decide) dX0_addPart_33 ?_
  refine lv_dup_x2 hx hb dX0_addPart_34 rfl rfl rfl ?_
  refine lv_iconst (v := 1) hx hb dX0_addPart_35 (by decide) ?_
  refine lv_iadd hx hb dX0_addPart_36 ?_
  refine va_iast hx hb hK hP hD hS 1 0 rfl rfl (show vp_in 3 4 by unfold vp_in; decide) dX0_addPart_37 (fun H locs hP hD hS => ?_)
  have hP : va_P D vwCl [(a0, .inr (0, [.ref a0_counts, .ref a0_roads, .ref a0_bridges, .ref a0_waggons, .ref a0_parts, .ref a0_settings, .ref a0_trip, .int v_ow])), (a0_counts, .inl (E 0, 4, .inl (upd fc 3 ((fc 3) + 1)))), (a0_parts, .inl (E 0, 10, .inl (upd (upd fp ((((fc 3) * 2) + 0).toNatClampNeg) v_a) ((((fc 3) * 2) + 1).toNatClampNeg) v_b)))] H := hP
  have hD : va_D A [(a0, .inr (0, [.ref a0_counts, .ref a0_roads, .ref a0_bridges, .ref a0_waggons, .ref a0_parts, .ref a0_settings, .ref a0_trip, .int v_ow])), (a0_counts, .inl (E 0, 4, .inl (upd fc 3 ((fc 3) + 1)))), (a0_parts, .inl (E 0, 10, .inl (upd (upd fp ((((fc 3) * 2) + 0).toNatClampNeg) v_a) ((((fc 3) * 2) + 1).toNatClampNeg) v_b)))] := hD
  refine W.widen (k := 0) (n := 0) (Nat.le_of_ble_eq_true rfl) (Nat.le_of_ble_eq_true rfl) ?_
  exact W.iret (v := fc 3) hx hb hr (fun t ht hW => ⟨⟨fc 3, (), rfl, rfl, ⟨by rw [ht]; exact hP.sub [0, 1, 2] rfl, hD.sub [0, 1, 2] (by decide) rfl⟩⟩, hS.F ht⟩) hS.2.2 dX0_addPart_38
set_option maxHeartbeats 4000000 in
set_option maxRecDepth 100000 in
theorem c_X0_startTrip (l : Launch) (D : va_G) (E : Nat → ClassId) (G : Nat → Nat) (sz : Nat) (a0 : Nat) (v_a : Int32) (v_b : Int32) (v_c : Int32) (v_d : Int32) (v_e : Int32) (a0_counts : Nat) (a0_roads : Nat) (a0_bridges : Nat) (a0_waggons : Nat) (a0_parts : Nat) (a0_settings : Nat) (a0_trip : Nat) (v_ow : Int32) (ft : Nat → Int32) : Met l yX0_startTrip (oh_w yX0_startTrip cX0_startTrip 6 none) ({ frames := 0, cells := 0, slots := 0, locals := 0 }) (oh_Pm D E G [.ref a0, .int v_a, .int v_b, .int v_c, .int v_d, .int v_e] [(a0, .inr (0, [.ref a0_counts, .ref a0_roads, .ref a0_bridges, .ref a0_waggons, .ref a0_parts, .ref a0_settings, .ref a0_trip, .int v_ow])), (a0_trip, .inl (E 0, 7, .inl ft))] sz) (va_Qv (fun (_ : Unit) => True) (oh_B D (va_A [(a0, .inr (0, [.ref a0_counts, .ref a0_roads, .ref a0_bridges, .ref a0_waggons, .ref a0_parts, .ref a0_settings, .ref a0_trip, .int v_ow])), (a0_trip, .inl (E 0, 7, .inl ft))] sz) (fun _ => [(a0, .inr (0, [.ref a0_counts, .ref a0_roads, .ref a0_bridges, .ref a0_waggons, .ref a0_parts, .ref a0_settings, .ref a0_trip, .int 1])), (a0_trip, .inl (E 0, 7, .inl (upd (upd (upd (upd (upd (upd (upd ft 0 v_c) 1 v_d) 2 v_e) 3 0) 4 0) 5 v_a) 6 v_b)))])) (va_A [(a0, .inr (0, [.ref a0_counts, .ref a0_roads, .ref a0_bridges, .ref a0_waggons, .ref a0_parts, .ref a0_settings, .ref a0_trip, .int v_ow])), (a0_trip, .inl (E 0, 7, .inl ft))] sz)) 0 0 (va_A [(a0, .inr (0, [.ref a0_counts, .ref a0_roads, .ref a0_bridges, .ref a0_waggons, .ref a0_parts, .ref a0_settings, .ref a0_trip, .int v_ow])), (a0_trip, .inl (E 0, 7, .inl ft))] sz) := by
  refine Met.ofW (cc := cX0_startTrip) (maxL := 6) (ret := none) (by decide) rfl ?_
  intro p e s m args below meth c s₁ B hml hv
  obtain ⟨rfl, hsz, hP, hK, hD0, hG⟩ := hv
  have hx := B.exec
  have hb := B.bytes
  have hr := B.returns
  have hts := atoms_spec (ws := (oh_w yX0_startTrip cX0_startTrip 6 none)) B.pre
  have htg : ∀ w ∈ oh_t, w.before _ s = true := fun w h => hts w (List.mem_cons_of_mem _ h)
  have hown : s.vm.findClass RX0 = some m.cls := findClass_of_methodNamed B.named
  have hlocks := B.notSynchronized
  subst hsz
  have hD := hD0.self (sz := s.heap.size)
  generalize hAe : va_A [(a0, .inr (0, [.ref a0_counts, .ref a0_roads, .ref a0_bridges, .ref a0_waggons, .ref a0_parts, .ref a0_settings, .ref a0_trip, .int v_ow])), (a0_trip, .inl (E 0, 7, .inl ft))] s.heap.size = A at hD hG ⊢
  have hA : ∀ q : Nat, s.heap.size ≤ q → A q := fun q h => by rw [← hAe]; exact Or.inr h
  have hS : va_S A s.heap s.heap [] := va_S.rf
  have hP : va_P D vwCl [(a0, .inr (0, [.ref a0_counts, .ref a0_roads, .ref a0_bridges, .ref a0_waggons, .ref a0_parts, .ref a0_settings, .ref a0_trip, .int v_ow])), (a0_trip, .inl (E 0, 7, .inl ft))] s.heap := hP
  have hl := lv_entry ([.ref a0, .int v_a, .int v_b, .int v_c, .int v_d, .int v_e]) (n := 6) (Nat.le_of_ble_eq_true rfl)
  rw [lg_entry_eq]
  generalize (lg_sl ([.ref a0, .int v_a, .int v_b, .int v_c, .int v_d, .int v_e]) ++ List.replicate (6 - (lg_sl ([.ref a0, .int v_a, .int v_b, .int v_c, .int v_d, .int v_e])).length) Slot.unset).toArray = ls at hl ⊢
  have hl : lv_has ls 6 [(0, .ref a0), (1, .int v_a), (2, .int v_b), (3, .int v_c), (4, .int v_d), (5, .int v_e)] := hl
  refine lv_aload_n hx hb dX0_startTrip_0 rfl (lv_at hl 0 rfl) ?_
  refine va_get (D := D) (ci := 0) (v := .ref a0_trip) (C := RX0) (T := TX0) (N := 8) hx hb htg ig_0 hown hK hP 0 rfl rfl 6 (by decide) (htg _ q_111) (fun _ h9 => h9) rfl dX0_startTrip_1 ?_
  refine lv_iconst (v := 0) hx hb dX0_startTrip_4 (by decide) ?_
  refine lv_iload_n hx hb dX0_startTrip_5 rfl (lv_at hl 3 rfl) ?_
  refine va_iast hx hb hK hP hD hS 1 0 rfl rfl (show vp_in 0 7 by unfold vp_in; decide) dX0_startTrip_6 (fun H locs hP hD hS => ?_)
  have hP : va_P D vwCl [(a0, .inr (0, [.ref a0_counts, .ref a0_roads, .ref a0_bridges, .ref a0_waggons, .ref a0_parts, .ref a0_settings, .ref a0_trip, .int v_ow])), (a0_trip, .inl (E 0, 7, .inl (upd ft 0 v_c)))] H := hP
  have hD : va_D A [(a0, .inr (0, [.ref a0_counts, .ref a0_roads, .ref a0_bridges, .ref a0_waggons, .ref a0_parts, .ref a0_settings, .ref a0_trip, .int v_ow])), (a0_trip, .inl (E 0, 7, .inl (upd ft 0 v_c)))] := hD
  refine lv_aload_n hx hb dX0_startTrip_7 rfl (lv_at hl 0 rfl) ?_
  refine va_get (D := D) (ci := 0) (v := .ref a0_trip) (C := RX0) (T := TX0) (N := 8) hx hb htg ig_0 hown hK hP 0 rfl rfl 6 (by decide) (htg _ q_111) (fun _ h9 => h9) rfl dX0_startTrip_8 ?_
  refine lv_iconst (v := 1) hx hb dX0_startTrip_11 (by decide) ?_
  refine lv_iload hx hb dX0_startTrip_12 (lv_at hl 4 rfl) ?_
  refine va_iast hx hb hK hP hD hS 1 0 rfl rfl (show vp_in 1 7 by unfold vp_in; decide) dX0_startTrip_14 (fun H locs hP hD hS => ?_)
  have hP : va_P D vwCl [(a0, .inr (0, [.ref a0_counts, .ref a0_roads, .ref a0_bridges, .ref a0_waggons, .ref a0_parts, .ref a0_settings, .ref a0_trip, .int v_ow])), (a0_trip, .inl (E 0, 7, .inl (upd (upd ft 0 v_c) 1 v_d)))] H := hP
  have hD : va_D A [(a0, .inr (0, [.ref a0_counts, .ref a0_roads, .ref a0_bridges, .ref a0_waggons, .ref a0_parts, .ref a0_settings, .ref a0_trip, .int v_ow])), (a0_trip, .inl (E 0, 7, .inl (upd (upd ft 0 v_c) 1 v_d)))] := hD
  refine lv_aload_n hx hb dX0_startTrip_15 rfl (lv_at hl 0 rfl) ?_
  refine va_get (D := D) (ci := 0) (v := .ref a0_trip) (C := RX0) (T := TX0) (N := 8) hx hb htg ig_0 hown hK hP 0 rfl rfl 6 (by decide) (htg _ q_111) (fun _ h9 => h9) rfl dX0_startTrip_16 ?_
  refine lv_iconst (v := 2) hx hb dX0_startTrip_19 (by decide) ?_
  refine lv_iload hx hb dX0_startTrip_20 (lv_at hl 5 rfl) ?_
  refine va_iast hx hb hK hP hD hS 1 0 rfl rfl (show vp_in 2 7 by unfold vp_in; decide) dX0_startTrip_22 (fun H locs hP hD hS => ?_)
  have hP : va_P D vwCl [(a0, .inr (0, [.ref a0_counts, .ref a0_roads, .ref a0_bridges, .ref a0_waggons, .ref a0_parts, .ref a0_settings, .ref a0_trip, .int v_ow])), (a0_trip, .inl (E 0, 7, .inl (upd (upd (upd ft 0 v_c) 1 v_d) 2 v_e)))] H := hP
  have hD : va_D A [(a0, .inr (0, [.ref a0_counts, .ref a0_roads, .ref a0_bridges, .ref a0_waggons, .ref a0_parts, .ref a0_settings, .ref a0_trip, .int v_ow])), (a0_trip, .inl (E 0, 7, .inl (upd (upd (upd ft 0 v_c) 1 v_d) 2 v_e)))] := hD
  refine lv_aload_n hx hb dX0_startTrip_23 rfl (lv_at hl 0 rfl) ?_
  refine va_get (D := D) (ci := 0) (v := .ref a0_trip) (C := RX0) (T := TX0) (N := 8) hx hb htg ig_0 hown hK hP 0 rfl rfl 6 (by decide) (htg _ q_111) (fun _ h9 => h9) rfl dX0_startTrip_24 ?_
  refine lv_iconst (v := 3) hx hb dX0_startTrip_27 (by decide) ?_
  refine lv_iconst (v := 0) hx hb dX0_startTrip_28 (by decide) ?_
  refine va_iast hx hb hK hP hD hS 1 0 rfl rfl (show vp_in 3 7 by unfold vp_in; decide) dX0_startTrip_29 (fun H locs hP hD hS => ?_)
  have hP : va_P D vwCl [(a0, .inr (0, [.ref a0_counts, .ref a0_roads, .ref a0_bridges, .ref a0_waggons, .ref a0_parts, .ref a0_settings, .ref a0_trip, .int v_ow])), (a0_trip, .inl (E 0, 7, .inl (upd (upd (upd (upd ft 0 v_c) 1 v_d) 2 v_e) 3 0)))] H := hP
  have hD : va_D A [(a0, .inr (0, [.ref a0_counts, .ref a0_roads, .ref a0_bridges, .ref a0_waggons, .ref a0_parts, .ref a0_settings, .ref a0_trip, .int v_ow])), (a0_trip, .inl (E 0, 7, .inl (upd (upd (upd (upd ft 0 v_c) 1 v_d) 2 v_e) 3 0)))] := hD
  refine lv_aload_n hx hb dX0_startTrip_30 rfl (lv_at hl 0 rfl) ?_
  refine va_get (D := D) (ci := 0) (v := .ref a0_trip) (C := RX0) (T := TX0) (N := 8) hx hb htg ig_0 hown hK hP 0 rfl rfl 6 (by decide) (htg _ q_111) (fun _ h9 => h9) rfl dX0_startTrip_31 ?_
  refine lv_iconst (v := 4) hx hb dX0_startTrip_34 (by decide) ?_
  refine lv_iconst (v := 0) hx hb dX0_startTrip_35 (by decide) ?_
  refine va_iast hx hb hK hP hD hS 1 0 rfl rfl (show vp_in 4 7 by unfold vp_in; decide) dX0_startTrip_36 (fun H locs hP hD hS => ?_)
  have hP : va_P D vwCl [(a0, .inr (0, [.ref a0_counts, .ref a0_roads, .ref a0_bridges, .ref a0_waggons, .ref a0_parts, .ref a0_settings, .ref a0_trip, .int v_ow])), (a0_trip, .inl (E 0, 7, .inl (upd (upd (upd (upd (upd ft 0 v_c) 1 v_d) 2 v_e) 3 0) 4 0)))] H := hP
  have hD : va_D A [(a0, .inr (0, [.ref a0_counts, .ref a0_roads, .ref a0_bridges, .ref a0_waggons, .ref a0_parts, .ref a0_settings, .ref a0_trip, .int v_ow])), (a0_trip, .inl (E 0, 7, .inl (upd (upd (upd (upd (upd ft 0 v_c) 1 v_d) 2 v_e) 3 0) 4 0)))] := hD
  refine lv_aload_n hx hb dX0_startTrip_37 rfl (lv_at hl 0 rfl) ?_
  refine va_get (D := D) (ci := 0) (v := .ref a0_trip) (C := RX0) (T := TX0) (N := 8) hx hb htg ig_0 hown hK hP 0 rfl rfl 6 (by decide) (htg _ q_111) (fun _ h9 => h9) rfl dX0_startTrip_38 ?_
  refine lv_iconst (v := 5) hx hb dX0_startTrip_41 (by decide) ?_
  refine lv_iload_n hx hb dX0_startTrip_42 rfl (lv_at hl 1 rfl) ?_
  refine va_iast hx hb hK hP hD hS 1 0 rfl rfl (show vp_in 5 7 by unfold vp_in; decide) dX0_startTrip_43 (fun H locs hP hD hS => ?_)
  have hP : va_P D vwCl [(a0, .inr (0, [.ref a0_counts, .ref a0_roads, .ref a0_bridges, .ref a0_waggons, .ref a0_parts, .ref a0_settings, .ref a0_trip, .int v_ow])), (a0_trip, .inl (E 0, 7, .inl (upd (upd (upd (upd (upd (upd ft 0 v_c) 1 v_d) 2 v_e) 3 0) 4 0) 5 v_a)))] H := hP
  have hD : va_D A [(a0, .inr (0, [.ref a0_counts, .ref a0_roads, .ref a0_bridges, .ref a0_waggons, .ref a0_parts, .ref a0_settings, .ref a0_trip, .int v_ow])), (a0_trip, .inl (E 0, 7, .inl (upd (upd (upd (upd (upd (upd ft 0 v_c) 1 v_d) 2 v_e) 3 0) 4 0) 5 v_a)))] := hD
  refine lv_aload_n hx hb dX0_startTrip_44 rfl (lv_at hl 0 rfl) ?_
  refine va_get (D := D) (ci := 0) (v := .ref a0_trip) (C := RX0) (T := TX0) (N := 8) hx hb htg ig_0 hown hK hP 0 rfl rfl 6 (by decide) (htg _ q_111) (fun _ h9 => h9) rfl dX0_startTrip_45 ?_
  refine lv_bipush (v := 6) hx hb dX0_startTrip_48 (by decide) ?_
  refine lv_iload_n hx hb dX0_startTrip_50 rfl (lv_at hl 2 rfl) ?_
  refine va_iast hx hb hK hP hD hS 1 0 rfl rfl (show vp_in 6 7 by unfold vp_in; decide) dX0_startTrip_51 (fun H locs hP hD hS => ?_)
  have hP : va_P D vwCl [(a0, .inr (0, [.ref a0_counts, .ref a0_roads, .ref a0_bridges, .ref a0_waggons, .ref a0_parts, .ref a0_settings, .ref a0_trip, .int v_ow])), (a0_trip, .inl (E 0, 7, .inl (upd (upd (upd (upd (upd (upd (upd ft 0 v_c) 1 v_d) 2 v_e) 3 0) 4 0) 5 v_a) 6 v_b)))] H := hP
  have hD : va_D A [(a0, .inr (0, [.ref a0_counts, .ref a0_roads, .ref a0_bridges, .ref a0_waggons, .ref a0_parts, .ref a0_settings, .ref a0_trip, .int v_ow])), (a0_trip, .inl (E 0, 7, .inl (upd (upd (upd (upd (upd (upd (upd ft 0 v_c) 1 v_d) 2 v_e) 3 0) 4 0) 5 v_a) 6 v_b)))] := hD
  refine lv_aload_n hx hb dX0_startTrip_52 rfl (lv_at hl 0 rfl) ?_
  refine lv_iconst (v := 1) hx hb dX0_startTrip_53 (by decide) ?_
  refine va_put (D := D) (ci := 0) (v := .int 1) (ty := .boolean) (C := RX0) (T := TX0) (N := 8) hx hb htg ig_0 tyX0 tyX0_ok nmX0 hown hK hP hD hS 0 rfl rfl 7 (by decide) (htg _ q_113) (fun _ h9 => h9) rfl (by decide +kernel) (by decide) (by decide) (Nat.le_of_ble_eq_true rfl) dX0_startTrip_54 (fun H locs hP hD hS => ?_)
  have hP : va_P D vwCl [(a0, .inr (0, [.ref a0_counts, .ref a0_roads, .ref a0_bridges, .ref a0_waggons, .ref a0_parts, .ref a0_settings, .ref a0_trip, .int 1])), (a0_trip, .inl (E 0, 7, .inl (upd (upd (upd (upd (upd (upd (upd ft 0 v_c) 1 v_d) 2 v_e) 3 0) 4 0) 5 v_a) 6 v_b)))] H := hP
  have hD : va_D A [(a0, .inr (0, [.ref a0_counts, .ref a0_roads, .ref a0_bridges, .ref a0_waggons, .ref a0_parts, .ref a0_settings, .ref a0_trip, .int 1])), (a0_trip, .inl (E 0, 7, .inl (upd (upd (upd (upd (upd (upd (upd ft 0 v_c) 1 v_d) 2 v_e) 3 0) 4 0) 5 v_a) 6 v_b)))] := hD
  refine W.widen (k := 0) (n := 0) (Nat.le_of_ble_eq_true rfl) (Nat.le_of_ble_eq_true rfl) ?_
  exact W.vret hx hb hr (fun t ht hW => ⟨⟨(), rfl, trivial, ⟨by rw [ht]; exact hP.sub [0, 1] rfl, hD.sub [0, 1] (by decide) rfl⟩⟩, hS.F ht⟩) hS.2.2 dX0_startTrip_57
