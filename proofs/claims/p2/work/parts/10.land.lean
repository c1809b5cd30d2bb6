theorem oh_nb {v : Int32} (h : v = 0 ∨ v = 1) : narrow .boolean (.int v) = .int v := by
  rcases h with rfl | rfl <;> rfl
/-- the place of a column in a row of K -/
theorem oh_sh {v c k : Int32} {K N M : Nat} (hv : vp_in v N) (hc : vp_in c K) (hk : k = nI K) (hM : N * K = M) (hM2 : M < 2 ^ 31) : vp_in (v * k + c) M := by
  have hN : N < 2 ^ 31 ∨ K = 0 := by
    rcases Nat.eq_zero_or_pos K with h | h
    · exact Or.inr h
    · refine Or.inl (Nat.lt_of_le_of_lt ?_ hM2)
      rw [← hM]
      exact Nat.le_mul_of_pos_right N h
  rcases hN with hN | hK
  · by_cases hN0 : N = 0
    · subst hN0
      rw [vp_in_iff] at hv
      omega
    · have hK2 : K < 2 ^ 31 := Nat.lt_of_le_of_lt (by rw [← hM]; exact Nat.le_mul_of_pos_left K (by omega)) hM2
      obtain ⟨a, ha, rfl⟩ := vp_in_of hv hN
      obtain ⟨b, hb, rfl⟩ := vp_in_of hc hK2
      subst hk
      rw [pk_mul, nI_add]
      refine vp_in_nI ?_ hM2
      have h1 : a * K + b < (a + 1) * K := by rw [Nat.add_mul]; omega
      have h2 : (a + 1) * K ≤ N * K := Nat.mul_le_mul_right K ha
      omega
  · subst hK
    rw [vp_in_iff] at hc
    omega
def fX6_within (v_v : Int32) (v_a : Int32) (v_b : Int32) : Int32 :=
  if v_v < v_a then 0 else if v_b < v_v then 0 else 1
theorem fX6_within_b (v_v : Int32) (v_a : Int32) (v_b : Int32) : fX6_within v_v v_a v_b = 0 ∨ fX6_within v_v v_a v_b = 1 := by
  unfold fX6_within
  repeat' split
  all_goals first | exact Or.inl rfl | exact Or.inr rfl
set_option maxHeartbeats 4000000 in
set_option maxRecDepth 100000 in
theorem c_X6_within (l : Launch) (D : va_G) (E : Nat → ClassId) (G : Nat → Nat) (v_v : Int32) (v_a : Int32) (v_b : Int32) : Met l yX6_within (oh_w yX6_within cX6_within 3 (some .boolean)) ({ frames := 0, cells := 0, slots := 0, locals := 0 }) (oh_Pp D E G [.int v_v, .int v_a, .int v_b] []) (vp_Si (fun r => r = fX6_within v_v v_a v_b)) 0 0 (fun _ => False) := by
  refine Met.ofW (cc := cX6_within) (maxL := 3) (ret := (some .boolean)) (by decide) rfl ?_
  intro p e s m args below meth c s₁ B hml hv
  obtain ⟨rfl, hP, hK, hG⟩ := hv
  have hx := B.exec
  have hb := B.bytes
  have hr := B.returns
  have hts := atoms_spec (ws := (oh_w yX6_within cX6_within 3 (some .boolean))) B.pre
  have htg : ∀ w ∈ oh_t, w.before _ s = true := fun w h => hts w (List.mem_cons_of_mem _ h)
  have hown : s.vm.findClass RX6 = some m.cls := findClass_of_methodNamed B.named
  have hlocks := B.notSynchronized
  have hS : va_S (fun _ => False) s.heap s.heap [] := va_S.rf
  have hl := lv_entry ([.int v_v, .int v_a, .int v_b]) (n := 3) (Nat.le_of_ble_eq_true rfl)
  rw [lg_entry_eq]
  generalize (lg_sl ([.int v_v, .int v_a, .int v_b]) ++ List.replicate (3 - (lg_sl ([.int v_v, .int v_a, .int v_b])).length) Slot.unset).toArray = ls at hl ⊢
  have hl : lv_has ls 3 [(0, .int v_v), (1, .int v_a), (2, .int v_b)] := hl
  refine lv_iload_n hx hb dX6_within_0 rfl (lv_at hl 0 rfl) ?_
  refine lv_iload_n hx hb dX6_within_1 rfl (lv_at hl 1 rfl) ?_
  refine lv_icmp_lt (tgt := 14) hx hb dX6_within_2 (by decide) (fun (c_1 : v_v < v_a) => ?_) (fun (c_1 : ¬ (v_v < v_a)) => ?_)
  · refine lv_iconst (v := 0) hx hb dX6_within_14 (by decide) ?_
    exact W.zret (v := 0) (ty := .boolean) hx hb hr (by decide) (fun t ht hW => ⟨0, rfl, by unfold fX6_within; rw [if_pos c_1], ht⟩) (fun q h => by cases h) dX6_within_15
  · refine lv_iload_n hx hb dX6_within_5 rfl (lv_at hl 0 rfl) ?_
    refine lv_iload_n hx hb dX6_within_6 rfl (lv_at hl 2 rfl) ?_
    refine lv_icmp_gt (tgt := 14) hx hb dX6_within_7 (by decide) (fun (c_2 : v_b < v_v) => ?_) (fun (c_2 : ¬ (v_b < v_v)) => ?_)
    · refine lv_iconst (v := 0) hx hb dX6_within_14 (by decide) ?_
      exact W.zret (v := 0) (ty := .boolean) hx hb hr (by decide) (fun t ht hW => ⟨0, rfl, by unfold fX6_within; rw [if_neg c_1, if_pos c_2], ht⟩) (fun q h => by cases h) dX6_within_15
    · refine lv_iconst (v := 1) hx hb dX6_within_10 (by decide) ?_
      refine lv_goto (tgt := 15) hx hb dX6_within_11 (by decide) ?_
      exact W.zret (v := 1) (ty := .boolean) hx hb hr (by decide) (fun t ht hW => ⟨1, rfl, by unfold fX6_within; rw [if_neg c_1, if_neg c_2], ht⟩) (fun q h => by cases h) dX6_within_15
set_option maxHeartbeats 4000000 in
set_option maxRecDepth 100000 in
theorem c_X6_isPlace (l : Launch) (D : va_G) (E : Nat → ClassId) (G : Nat → Nat) (v_p : Int32) : Met l yX6_isPlace (oh_w yX6_isPlace cX6_isPlace 1 (some .boolean)) ({ frames := 1, cells := 0, slots := 0, locals := 22 }) (oh_Pp D E G [.int v_p] []) (vp_Si (fun r => r = fX6_within v_p 0 15)) 0 0 (fun _ => False) := by
  refine Met.ofW (cc := cX6_isPlace) (maxL := 1) (ret := (some .boolean)) (by decide) rfl ?_
  intro p e s m args below meth c s₁ B hml hv
  obtain ⟨rfl, hP, hK, hG⟩ := hv
  have hx := B.exec
  have hb := B.bytes
  have hr := B.returns
  have hts := atoms_spec (ws := (oh_w yX6_isPlace cX6_isPlace 1 (some .boolean))) B.pre
  have htg : ∀ w ∈ oh_t, w.before _ s = true := fun w h => hts w (List.mem_cons_of_mem _ h)
  have hown : s.vm.findClass RX6 = some m.cls := findClass_of_methodNamed B.named
  have hlocks := B.notSynchronized
  have hS : va_S (fun _ => False) s.heap s.heap [] := va_S.rf
  have hl := lv_entry ([.int v_p]) (n := 1) (Nat.le_of_ble_eq_true rfl)
  rw [lg_entry_eq]
  generalize (lg_sl ([.int v_p]) ++ List.replicate (1 - (lg_sl ([.int v_p])).length) Slot.unset).toArray = ls at hl ⊢
  have hl : lv_has ls 1 [(0, .int v_p)] := hl
  refine lv_iload_n hx hb dX6_isPlace_0 rfl (lv_at hl 0 rfl) ?_
  refine lv_iconst (v := 0) hx hb dX6_isPlace_1 (by decide) ?_
  refine lv_bipush (v := 15) hx hb dX6_isPlace_2 (by decide) ?_
  refine oh_pS (As := [.int v_p, .int 0, .int 15]) (rest := []) (v := fX6_within v_p 0 15) ⟨hx, hb, hml, hown, htg⟩ (c_X6_within l D E G v_p 0 15) (va_cwS 3 htg (oh_gS q_293 q_294 q_66 q_295) rfl rfl rfl pdX6_within ⟨Nat.le_of_ble_eq_true rfl, Nat.le_of_ble_eq_true rfl⟩) hK (hP.sub (ws' := []) [] rfl) hG hS rfl hl.1 rfl (Nat.le_of_ble_eq_true rfl) dX6_isPlace_4 ⟨Nat.le_of_ble_eq_true rfl, Nat.le_of_ble_eq_true rfl⟩ ?_
  exact W.zret (v := fX6_within v_p 0 15) (ty := .boolean) hx hb hr (oh_nb (fX6_within_b v_p 0 15)) (fun t ht hW => ⟨fX6_within v_p 0 15, rfl, rfl, ht⟩) (fun q h => by cases h) dX6_isPlace_7
set_option maxHeartbeats 4000000 in
set_option maxRecDepth 100000 in
theorem c_X6_isShelf (l : Launch) (D : va_G) (E : Nat → ClassId) (G : Nat → Nat) (v_s : Int32) : Met l yX6_isShelf (oh_w yX6_isShelf cX6_isShelf 1 (some .boolean)) ({ frames := 1, cells := 0, slots := 0, locals := 22 }) (oh_Pp D E G [.int v_s] []) (vp_Si (fun r => r = fX6_within v_s 0 7)) 0 0 (fun _ => False) := by
  refine Met.ofW (cc := cX6_isShelf) (maxL := 1) (ret := (some .boolean)) (by decide) rfl ?_
  intro p e s m args below meth c s₁ B hml hv
  obtain ⟨rfl, hP, hK, hG⟩ := hv
  have hx := B.exec
  have hb := B.bytes
  have hr := B.returns
  have hts := atoms_spec (ws := (oh_w yX6_isShelf cX6_isShelf 1 (some .boolean))) B.pre
  have htg : ∀ w ∈ oh_t, w.before _ s = true := fun w h => hts w (List.mem_cons_of_mem _ h)
  have hown : s.vm.findClass RX6 = some m.cls := findClass_of_methodNamed B.named
  have hlocks := B.notSynchronized
  have hS : va_S (fun _ => False) s.heap s.heap [] := va_S.rf
  have hl := lv_entry ([.int v_s]) (n := 1) (Nat.le_of_ble_eq_true rfl)
  rw [lg_entry_eq]
  generalize (lg_sl ([.int v_s]) ++ List.replicate (1 - (lg_sl ([.int v_s])).length) Slot.unset).toArray = ls at hl ⊢
  have hl : lv_has ls 1 [(0, .int v_s)] := hl
  refine lv_iload_n hx hb dX6_isShelf_0 rfl (lv_at hl 0 rfl) ?_
  refine lv_iconst (v := 0) hx hb dX6_isShelf_1 (by decide) ?_
  refine lv_bipush (v := 7) hx hb dX6_isShelf_2 (by decide) ?_
  refine oh_pS (As := [.int v_s, .int 0, .int 7]) (rest := []) (v := fX6_within v_s 0 7) ⟨hx, hb, hml, hown, htg⟩ (c_X6_within l D E G v_s 0 7) (va_cwS 3 htg (oh_gS q_293 q_294 q_66 q_295) rfl rfl rfl pdX6_within ⟨Nat.le_of_ble_eq_true rfl, Nat.le_of_ble_eq_true rfl⟩) hK (hP.sub (ws' := []) [] rfl) hG hS rfl hl.1 rfl (Nat.le_of_ble_eq_true rfl) dX6_isShelf_4 ⟨Nat.le_of_ble_eq_true rfl, Nat.le_of_ble_eq_true rfl⟩ ?_
  exact W.zret (v := fX6_within v_s 0 7) (ty := .boolean) hx hb hr (oh_nb (fX6_within_b v_s 0 7)) (fun t ht hW => ⟨fX6_within v_s 0 7, rfl, rfl, ht⟩) (fun q h => by cases h) dX6_isShelf_7
set_option maxHeartbeats 4000000 in
set_option maxRecDepth 100000 in
theorem c_X0_ofRoad (l : Launch) (D : va_G) (E : Nat → ClassId) (G : Nat → Nat) (a0 : Nat) (v_r : Int32) (v_c : Int32) (a0_counts : Nat) (a0_roads : Nat) (a0_bridges : Nat) (a0_waggons : Nat) (a0_parts : Nat) (a0_settings : Nat) (a0_trip : Nat) (v_ow : Int32) (fr : Nat → Int32) (h0 : vp_in v_r 24) (h1 : vp_in v_c 7) : Met l yX0_ofRoad (oh_w yX0_ofRoad cX0_ofRoad 3 (some .int)) ({ frames := 0, cells := 0, slots := 0, locals := 0 }) (oh_Pp D E G [.ref a0, .int v_r, .int v_c] [(a0, .inr (0, [.ref a0_counts, .ref a0_roads, .ref a0_bridges, .ref a0_waggons, .ref a0_parts, .ref a0_settings, .ref a0_trip, .int v_ow])), (a0_roads, .inl (E 0, 168, .inl fr))]) (vp_Si (fun r => r = fr ((v_r * 7) + v_c).toNatClampNeg)) 0 0 (fun _ => False) := by
  refine Met.ofW (cc := cX0_ofRoad) (maxL := 3) (ret := (some .int)) (by decide) rfl ?_
  intro p e s m args below meth c s₁ B hml hv
  obtain ⟨rfl, hP, hK, hG⟩ := hv
  have hx := B.exec
  have hb := B.bytes
  have hr := B.returns
  have hts := atoms_spec (ws := (oh_w yX0_ofRoad cX0_ofRoad 3 (some .int))) B.pre
  have htg : ∀ w ∈ oh_t, w.before _ s = true := fun w h => hts w (List.mem_cons_of_mem _ h)
  have hown : s.vm.findClass RX0 = some m.cls := findClass_of_methodNamed B.named
  have hlocks := B.notSynchronized
  have hS : va_S (fun _ => False) s.heap s.heap [] := va_S.rf
  have hl := lv_entry ([.ref a0, .int v_r, .int v_c]) (n := 3) (Nat.le_of_ble_eq_true rfl)
  rw [lg_entry_eq]
  generalize (lg_sl ([.ref a0, .int v_r, .int v_c]) ++ List.replicate (3 - (lg_sl ([.ref a0, .int v_r, .int v_c])).length) Slot.unset).toArray = ls at hl ⊢
  have hl : lv_has ls 3 [(0, .ref a0), (1, .int v_r), (2, .int v_c)] := hl
  refine lv_aload_n hx hb dX0_ofRoad_0 rfl (lv_at hl 0 rfl) ?_
  refine va_get (D := D) (ci := 0) (v := .ref a0_roads) (C := RX0) (T := TX0) (N := 8) hx hb htg ig_0 hown hK hP 0 rfl rfl 1 (by decide) (htg _ q_101) (fun _ h9 => h9) rfl dX0_ofRoad_1 ?_
  refine lv_iload_n hx hb dX0_ofRoad_4 rfl (lv_at hl 1 rfl) ?_
  refine lv_bipush (v := 7) hx hb dX0_ofRoad_5 (by decide) ?_
  refine lv_imul hx hb dX0_ofRoad_7 ?_
  refine lv_iload_n hx hb dX0_ofRoad_8 rfl (lv_at hl 2 rfl) ?_
  refine lv_iadd hx hb dX0_ofRoad_9 ?_
  refine va_iald hx hb hK hP 1 0 rfl rfl (oh_sh (K := 7) (N := 24) h0 h1 rfl (by decide) (by decide)) dX0_ofRoad_10 ?_
  exact W.iret (v := fr ((v_r * 7) + v_c).toNatClampNeg) hx hb hr (fun t ht hW => ⟨fr ((v_r * 7) + v_c).toNatClampNeg, rfl, rfl, ht⟩) (fun q h => by cases h) dX0_ofRoad_11
set_option maxHeartbeats 4000000 in
set_option maxRecDepth 100000 in
theorem c_X0_ofBridge (l : Launch) (D : va_G) (E : Nat → ClassId) (G : Nat → Nat) (a0 : Nat) (v_b : Int32) (v_c : Int32) (a0_counts : Nat) (a0_roads : Nat) (a0_bridges : Nat) (a0_waggons : Nat) (a0_parts : Nat) (a0_settings : Nat) (a0_trip : Nat) (v_ow : Int32) (fb : Nat → Int32) (h0 : vp_in v_b 16) (h1 : vp_in v_c 10) : Met l yX0_ofBridge (oh_w yX0_ofBridge cX0_ofBridge 3 (some .int)) ({ frames := 0, cells := 0, slots := 0, locals := 0 }) (oh_Pp D E G [.ref a0, .int v_b, .int v_c] [(a0, .inr (0, [.ref a0_counts, .ref a0_roads, .ref a0_bridges, .ref a0_waggons, .ref a0_parts, .ref a0_settings, .ref a0_trip, .int v_ow])), (a0_bridges, .inl (E 0, 160, .inl fb))]) (vp_Si (fun r => r = fb ((v_b * 10) + v_c).toNatClampNeg)) 0 0 (fun _ => False) := by
  refine Met.ofW (cc := cX0_ofBridge) (maxL := 3) (ret := (some .int)) (by decide) rfl ?_
  intro p e s m args below meth c s₁ B hml hv
  obtain ⟨rfl, hP, hK, hG⟩ := hv
  have hx := B.exec
  have hb := B.bytes
  have hr := B.returns
  have hts := atoms_spec (ws := (oh_w yX0_ofBridge cX0_ofBridge 3 (some .int))) B.pre
  have htg : ∀ w ∈ oh_t, w.before _ s = true := fun w h => hts w (List.mem_cons_of_mem _ h)
  have hown : s.vm.findClass RX0 = some m.cls := findClass_of_methodNamed B.named
  have hlocks := B.notSynchronized
  have hS : va_S (fun _ => False) s.heap s.heap [] := va_S.rf
  have hl := lv_entry ([.ref a0, .int v_b, .int v_c]) (n := 3) (Nat.le_of_ble_eq_true rfl)
  rw [lg_entry_eq]
  generalize (lg_sl ([.ref a0, .int v_b, .int v_c]) ++ List.replicate (3 - (lg_sl ([.ref a0, .int v_b, .int v_c])).length) Slot.unset).toArray = ls at hl ⊢
  have hl : lv_has ls 3 [(0, .ref a0), (1, .int v_b), (2, .int v_c)] := hl
  refine lv_aload_n hx hb dX0_ofBridge_0 rfl (lv_at hl 0 rfl) ?_
  refine va_get (D := D) (ci := 0) (v := .ref a0_bridges) (C := RX0) (T := TX0) (N := 8) hx hb htg ig_0 hown hK hP 0 rfl rfl 2 (by decide) (htg _ q_103) (fun _ h9 => h9) rfl dX0_ofBridge_1 ?_
  refine lv_iload_n hx hb dX0_ofBridge_4 rfl (lv_at hl 1 rfl) ?_
  refine lv_bipush (v := 10) hx hb dX0_ofBridge_5 (by decide) ?_
  refine lv_imul hx hb dX0_ofBridge_7 ?_
  refine lv_iload_n hx hb dX0_ofBridge_8 rfl (lv_at hl 2 rfl) ?_
  refine lv_iadd hx hb dX0_ofBridge_9 ?_
  refine va_iald hx hb hK hP 1 0 rfl rfl (oh_sh (K := 10) (N := 16) h0 h1 rfl (by decide) (by decide)) dX0_ofBridge_10 ?_
  exact W.iret (v := fb ((v_b * 10) + v_c).toNatClampNeg) hx hb hr (fun t ht hW => ⟨fb ((v_b * 10) + v_c).toNatClampNeg, rfl, rfl, ht⟩) (fun q h => by cases h) dX0_ofBridge_11
set_option maxHeartbeats 4000000 in
set_option maxRecDepth 100000 in
theorem c_X0_ofWaggon (l : Launch) (D : va_G) (E : Nat → ClassId) (G : Nat → Nat) (a0 : Nat) (v_w : Int32) (v_c : Int32) (a0_counts : Nat) (a0_roads : Nat) (a0_bridges : Nat) (a0_waggons : Nat) (a0_parts : Nat) (a0_settings : Nat) (a0_trip : Nat) (v_ow : Int32) (fw : Nat → Int32) (h0 : vp_in v_w 5) (h1 : vp_in v_c 3) : Met l yX0_ofWaggon (oh_w yX0_ofWaggon cX0_ofWaggon 3 (some .int)) ({ frames := 0, cells := 0, slots := 0, locals := 0 }) (oh_Pp D E G [.ref a0, .int v_w, .int v_c] [(a0, .inr (0, [.ref a0_counts, .ref a0_roads, .ref a0_bridges, .ref a0_waggons, .ref a0_parts, .ref a0_settings, .ref a0_trip, .int v_ow])), (a0_waggons, .inl (E 0, 15, .inl fw))]) (vp_Si (fun r => r = fw ((v_w * 3) + v_c).toNatClampNeg)) 0 0 (fun _ => False) := by
  refine Met.ofW (cc := cX0_ofWaggon) (maxL := 3) (ret := (some .int)) (by decide) rfl ?_
  intro p e s m args below meth c s₁ B hml hv
  obtain ⟨rfl, hP, hK, hG⟩ := hv
  have hx := B.exec
  have hb := B.bytes
  have hr := B.returns
  have hts := atoms_spec (ws := (oh_w yX0_ofWaggon cX0_ofWaggon 3 (some .int))) B.pre
  have htg : ∀ w ∈ oh_t, w.before _ s = true := fun w h => hts w (List.mem_cons_of_mem _ h)
  have hown : s.vm.findClass RX0 = some m.cls := findClass_of_methodNamed B.named
  have hlocks := B.notSynchronized
  have hS : va_S (fun _ => False) s.heap s.heap [] := va_S.rf
  have hl := lv_entry ([.ref a0, .int v_w, .int v_c]) (n := 3) (Nat.le_of_ble_eq_true rfl)
  rw [lg_entry_eq]
  generalize (lg_sl ([.ref a0, .int v_w, .int v_c]) ++ List.replicate (3 - (lg_sl ([.ref a0, .int v_w, .int v_c])).length) Slot.unset).toArray = ls at hl ⊢
  have hl : lv_has ls 3 [(0, .ref a0), (1, .int v_w), (2, .int v_c)] := hl
  refine lv_aload_n hx hb dX0_ofWaggon_0 rfl (lv_at hl 0 rfl) ?_
  refine va_get (D := D) (ci := 0) (v := .ref a0_waggons) (C := RX0) (T := TX0) (N := 8) hx hb htg ig_0 hown hK hP 0 rfl rfl 3 (by decide) (htg _ q_104) (fun _ h9 => h9) rfl dX0_ofWaggon_1 ?_
  refine lv_iload_n hx hb dX0_ofWaggon_4 rfl (lv_at hl 1 rfl) ?_
  refine lv_iconst (v := 3) hx hb dX0_ofWaggon_5 (by decide) ?_
  refine lv_imul hx hb dX0_ofWaggon_6 ?_
  refine lv_iload_n hx hb dX0_ofWaggon_7 rfl (lv_at hl 2 rfl) ?_
  refine lv_iadd hx hb dX0_ofWaggon_8 ?_
  refine va_iald hx hb hK hP 1 0 rfl rfl (oh_sh (K := 3) (N := 5) h0 h1 rfl (by decide) (by decide)) dX0_ofWaggon_9 ?_
  exact W.iret (v := fw ((v_w * 3) + v_c).toNatClampNeg) hx hb hr (fun t ht hW => ⟨fw ((v_w * 3) + v_c).toNatClampNeg, rfl, rfl, ht⟩) (fun q h => by cases h) dX0_ofWaggon_10
set_option maxHeartbeats 4000000 in
set_option maxRecDepth 100000 in
theorem c_X0_setsOfParts (l : Launch) (D : va_G) (E : Nat → ClassId) (G : Nat → Nat) (a0 : Nat) (a0_counts : Nat) (a0_roads : Nat) (a0_bridges : Nat) (a0_waggons : Nat) (a0_parts : Nat) (a0_settings : Nat) (a0_trip : Nat) (v_ow : Int32) (fc : Nat → Int32) : Met l yX0_setsOfParts (oh_w yX0_setsOfParts cX0_setsOfParts 1 (some .int)) ({ frames := 0, cells := 0, slots := 0, locals := 0 }) (oh_Pp D E G [.ref a0] [(a0, .inr (0, [.ref a0_counts, .ref a0_roads, .ref a0_bridges, .ref a0_waggons, .ref a0_parts, .ref a0_settings, .ref a0_trip, .int v_ow])), (a0_counts, .inl (E 0, 4, .inl fc))]) (vp_Si (fun r => r = (1 : Int32) <<< ((fc 3) &&& 31))) 0 0 (fun _ => False) := by
  refine Met.ofW (cc := cX0_setsOfParts) (maxL := 1) (ret := (some .int)) (by decide) rfl ?_
  intro p e s m args below meth c s₁ B hml hv
  obtain ⟨rfl, hP, hK, hG⟩ := hv
  have hx := B.exec
  have hb := B.bytes
  have hr := B.returns
  have hts := atoms_spec (ws := (oh_w yX0_setsOfParts cX0_setsOfParts 1 (some .int))) B.pre
  have htg : ∀ w ∈ oh_t, w.before _ s = true := fun w h => hts w (List.mem_cons_of_mem _ h)
  have hown : s.vm.findClass RX0 = some m.cls := findClass_of_methodNamed B.named
  have hlocks := B.notSynchronized
  have hS : va_S (fun _ => False) s.heap s.heap [] := va_S.rf
  have hl := lv_entry ([.ref a0]) (n := 1) (Nat.le_of_ble_eq_true rfl)
  rw [lg_entry_eq]
  generalize (lg_sl ([.ref a0]) ++ List.replicate (1 - (lg_sl ([.ref a0])).length) Slot.unset).toArray = ls at hl ⊢
  have hl : lv_has ls 1 [(0, .ref a0)] := hl
  refine lv_iconst (v := 1) hx hb dX0_setsOfParts_0 (by decide) ?_
  refine lv_aload_n hx hb dX0_setsOfParts_1 rfl (lv_at hl 0 rfl) ?_
  refine va_get (D := D) (ci := 0) (v := .ref a0_counts) (C := RX0) (T := TX0) (N := 8) hx hb htg ig_0 hown hK hP 0 rfl rfl 0 (by decide) (htg _ q_97) (fun _ h9 => h9) rfl dX0_setsOfParts_2 ?_
  refine lv_iconst (v := 3) hx hb dX0_setsOfParts_5 (by decide) ?_
  refine va_iald hx hb hK hP 1 0 rfl rfl (show vp_in 3 4 by unfold vp_in; decide) dX0_setsOfParts_6 ?_
  refine lv_ishl hx hb dX0_setsOfParts_7 ?_
  exact W.iret (v := (1 : Int32) <<< ((fc 3) &&& 31)) hx hb hr (fun t ht hW => ⟨(1 : Int32) <<< ((fc 3) &&& 31), rfl, rfl, ht⟩) (fun q h => by cases h) dX0_setsOfParts_8
set_option maxHeartbeats 4000000 in
set_option maxRecDepth 100000 in
theorem c_X0_waggonLength (l : Launch) (D : va_G) (E : Nat → ClassId) (G : Nat → Nat) (a0 : Nat) (v_w : Int32) (a0_counts : Nat) (a0_roads : Nat) (a0_bridges : Nat) (a0_waggons : Nat) (a0_parts : Nat) (a0_settings : Nat) (a0_trip : Nat) (v_ow : Int32) (fw : Nat → Int32) (h0 : vp_in v_w 5) : Met l yX0_waggonLength (oh_w yX0_waggonLength cX0_waggonLength 2 (some .int)) ({ frames := 1, cells := 0, slots := 0, locals := 22 }) (oh_Pp D E G [.ref a0, .int v_w] [(a0, .inr (0, [.ref a0_counts, .ref a0_roads, .ref a0_bridges, .ref a0_waggons, .ref a0_parts, .ref a0_settings, .ref a0_trip, .int v_ow])), (a0_waggons, .inl (E 0, 15, .inl fw))]) (vp_Si (fun r => r = ((fw ((v_w * 3) + 1).toNatClampNeg) * ((fw ((v_w * 3) + 0).toNatClampNeg) - 1)) + 4)) 0 0 (fun _ => False) := by
  refine Met.ofW (cc := cX0_waggonLength) (maxL := 2) (ret := (some .int)) (by decide) rfl ?_
  intro p e s m args below meth c s₁ B hml hv
  obtain ⟨rfl, hP, hK, hG⟩ := hv
  have hx := B.exec
  have hb := B.bytes
  have hr := B.returns
  have hts := atoms_spec (ws := (oh_w yX0_waggonLength cX0_waggonLength 2 (some .int))) B.pre
  have htg : ∀ w ∈ oh_t, w.before _ s = true := fun w h => hts w (List.mem_cons_of_mem _ h)
  have hown : s.vm.findClass RX0 = some m.cls := findClass_of_methodNamed B.named
  have hlocks := B.notSynchronized
  have hS : va_S (fun _ => False) s.heap s.heap [] := va_S.rf
  have hl := lv_entry ([.ref a0, .int v_w]) (n := 2) (Nat.le_of_ble_eq_true rfl)
  rw [lg_entry_eq]
  generalize (lg_sl ([.ref a0, .int v_w]) ++ List.replicate (2 - (lg_sl ([.ref a0, .int v_w])).length) Slot.unset).toArray = ls at hl ⊢
  have hl : lv_has ls 2 [(0, .ref a0), (1, .int v_w)] := hl
  refine lv_aload_n hx hb dX0_waggonLength_0 rfl (lv_at hl 0 rfl) ?_
  refine lv_iload_n hx hb dX0_waggonLength_1 rfl (lv_at hl 1 rfl) ?_
  refine lv_iconst (v := 1) hx hb dX0_waggonLength_2 (by decide) ?_
  refine oh_pV (As := [.int v_w, .int 1]) (rest := []) (v := fw ((v_w * 3) + 1).toNatClampNeg) ⟨hx, hb, hml, hown, htg⟩ (c_X0_ofWaggon l D E G a0 v_w 1 a0_counts a0_roads a0_bridges a0_waggons a0_parts a0_settings a0_trip v_ow fw h0 (show vp_in 1 3 by unfold vp_in; decide)) (cwV 2 htg (oh_gV q_687 q_688 q_689 q_67 q_690) rfl rfl rfl pdVX0_ofWaggon ⟨Nat.le_of_ble_eq_true rfl, Nat.le_of_ble_eq_true rfl⟩) hK (hP.sub (ws' := [(a0, .inr (0, [.ref a0_counts, .ref a0_roads, .ref a0_bridges, .ref a0_waggons, .ref a0_parts, .ref a0_settings, .ref a0_trip, .int v_ow])), (a0_waggons, .inl (E 0, 15, .inl fw))]) [0, 1] rfl) hG hS (va_recv hK hP (ci := 0) (q0 := 0) rfl rfl) rfl hl.1 rfl (Nat.le_of_ble_eq_true rfl) dX0_waggonLength_3 ⟨Nat.le_of_ble_eq_true rfl, Nat.le_of_ble_eq_true rfl⟩ ?_
  refine lv_aload_n hx hb dX0_waggonLength_6 rfl (lv_at hl 0 rfl) ?_
  refine lv_iload_n hx hb dX0_waggonLength_7 rfl (lv_at hl 1 rfl) ?_
  refine lv_iconst (v := 0) hx hb dX0_waggonLength_8 (by decide) ?_
  refine oh_pV (As := [.int v_w, .int 0]) (rest := [.int (fw ((v_w * 3) + 1).toNatClampNeg)]) (v := fw ((v_w * 3) + 0).toNatClampNeg) ⟨hx, hb, hml, hown, htg⟩ (c_X0_ofWaggon l D E G a0 v_w 0 a0_counts a0_roads a0_bridges a0_waggons a0_parts a0_settings a0_trip v_ow fw h0 (show vp_in 0 3 by unfold vp_in; decide)) (cwV 2 htg (oh_gV q_687 q_688 q_689 q_67 q_690) rfl rfl rfl pdVX0_ofWaggon ⟨Nat.le_of_ble_eq_true rfl, Nat.le_of_ble_eq_true rfl⟩) hK (hP.sub (ws' := [(a0, .inr (0, [.ref a0_counts, .ref a0_roads, .ref a0_bridges, .ref a0_waggons, .ref a0_parts, .ref a0_settings, .ref a0_trip, .int v_ow])), (a0_waggons, .inl (E 0, 15, .inl fw))]) [0, 1] rfl) hG hS (va_recv hK hP (ci := 0) (q0 := 0) rfl rfl) rfl hl.1 rfl (Nat.le_of_ble_eq_true rfl) dX0_waggonLength_9 ⟨Nat.le_of_ble_eq_true rfl, Nat.le_of_ble_eq_true rfl⟩ ?_
  refine lv_iconst (v := 1) hx hb dX0_waggonLength_12 (by decide) ?_
  refine lv_isub hx hb dX0_waggonLength_13 ?_
  refine lv_imul hx hb dX0_waggonLength_14 ?_
  refine lv_iconst (v := 4) hx hb dX0_waggonLength_15 (by decide) ?_
  refine lv_iadd hx hb dX0_waggonLength_16 ?_
  exact W.iret (v := ((fw ((v_w * 3) + 1).toNatClampNeg) * ((fw ((v_w * 3) + 0).toNatClampNeg) - 1)) + 4) hx hb hr (fun t ht hW => ⟨((fw ((v_w * 3) + 1).toNatClampNeg) * ((fw ((v_w * 3) + 0).toNatClampNeg) - 1)) + 4, rfl, rfl, ht⟩) (fun q h => by cases h) dX0_waggonLength_17
def fX0_isPropped (v_b : Int32) (fb : Nat → Int32) : Int32 :=
  if (fb ((v_b * 10) + 7).toNatClampNeg) = 1 then 1 else 0
theorem fX0_isPropped_b (v_b : Int32) (fb : Nat → Int32) : fX0_isPropped v_b fb = 0 ∨ fX0_isPropped v_b fb = 1 := by
  unfold fX0_isPropped
  repeat' split
  all_goals first | exact Or.inl rfl | exact Or.inr rfl
set_option maxHeartbeats 4000000 in
set_option maxRecDepth 100000 in
theorem c_X0_isPropped (l : Launch) (D : va_G) (E : Nat → ClassId) (G : Nat → Nat) (a0 : Nat) (v_b : Int32) (a0_counts : Nat) (a0_roads : Nat) (a0_bridges : Nat) (a0_waggons : Nat) (a0_parts : Nat) (a0_settings : Nat) (a0_trip : Nat) (v_ow : Int32) (fb : Nat → Int32) (h0 : vp_in v_b 16) : Met l yX0_isPropped (oh_w yX0_isPropped cX0_isPropped 2 (some .boolean)) ({ frames := 1, cells := 0, slots := 0, locals := 22 }) (oh_Pp D E G [.ref a0, .int v_b] [(a0, .inr (0, [.ref a0_counts, .ref a0_roads, .ref a0_bridges, .ref a0_waggons, .ref a0_parts, .ref a0_settings, .ref a0_trip, .int v_ow])), (a0_bridges, .inl (E 0, 160, .inl fb))]) (vp_Si (fun r => r = fX0_isPropped v_b fb)) 0 0 (fun _ => False) := by
  refine Met.ofW (cc := cX0_isPropped) (maxL := 2) (ret := (some .boolean)) (by decide) rfl ?_
  intro p e s m args below meth c s₁ B hml hv
  obtain ⟨rfl, hP, hK, hG⟩ := hv
  have hx := B.exec
  have hb := B.bytes
  have hr := B.returns
  have hts := atoms_spec (ws := (oh_w yX0_isPropped cX0_isPropped 2 (some .boolean))) B.pre
  have htg : ∀ w ∈ oh_t, w.before _ s = true := fun w h => hts w (List.mem_cons_of_mem _ h)
  have hown : s.vm.findClass RX0 = some m.cls := findClass_of_methodNamed B.named
  have hlocks := B.notSynchronized
  have hS : va_S (fun _ => False) s.heap s.heap [] := va_S.rf
  have hl := lv_entry ([.ref a0, .int v_b]) (n := 2) (Nat.le_of_ble_eq_true rfl)
  rw [lg_entry_eq]
  generalize (lg_sl ([.ref a0, .int v_b]) ++ List.replicate (2 - (lg_sl ([.ref a0, .int v_b])).length) Slot.unset).toArray = ls at hl ⊢
  have hl : lv_has ls 2 [(0, .ref a0), (1, .int v_b)] := hl
  refine lv_aload_n hx hb dX0_isPropped_0 rfl (lv_at hl 0 rfl) ?_
  refine lv_iload_n hx hb dX0_isPropped_1 rfl (lv_at hl 1 rfl) ?_
  refine lv_bipush (v := 7) hx hb dX0_isPropped_2 (by decide) ?_
  refine oh_pV (As := [.int v_b, .int 7]) (rest := []) (v := fb ((v_b * 10) + 7).toNatClampNeg) ⟨hx, hb, hml, hown, htg⟩ (c_X0_ofBridge l D E G a0 v_b 7 a0_counts a0_roads a0_bridges a0_waggons a0_parts a0_settings a0_trip v_ow fb h0 (show vp_in 7 10 by unfold vp_in; decide)) (cwV 2 htg (oh_gV q_384 q_385 q_386 q_67 q_387) rfl rfl rfl pdVX0_ofBridge ⟨Nat.le_of_ble_eq_true rfl, Nat.le_of_ble_eq_true rfl⟩) hK (hP.sub (ws' := [(a0, .inr (0, [.ref a0_counts, .ref a0_roads, .ref a0_bridges, .ref a0_waggons, .ref a0_parts, .ref a0_settings, .ref a0_trip, .int v_ow])), (a0_bridges, .inl (E 0, 160, .inl fb))]) [0, 1] rfl) hG hS (va_recv hK hP (ci := 0) (q0 := 0) rfl rfl) rfl hl.1 rfl (Nat.le_of_ble_eq_true rfl) dX0_isPropped_4 ⟨Nat.le_of_ble_eq_true rfl, Nat.le_of_ble_eq_true rfl⟩ ?_
  refine lv_iconst (v := 1) hx hb dX0_isPropped_7 (by decide) ?_
  refine lv_icmp_ne (tgt := 15) hx hb dX0_isPropped_8 (by decide) (fun (c_1 : ¬ ((fb ((v_b * 10) + 7).toNatClampNeg) = 1)) => ?_) (fun (c_1 : (fb ((v_b * 10) + 7).toNatClampNeg) = 1) => ?_)
  · refine lv_iconst (v := 0) hx hb dX0_isPropped_15 (by decide) ?_
    exact W.zret (v := 0) (ty := .boolean) hx hb hr (by decide) (fun t ht hW => ⟨0, rfl, by unfold fX0_isPropped; rw [if_neg c_1], ht⟩) (fun q h => by cases h) dX0_isPropped_16
  · refine lv_iconst (v := 1) hx hb dX0_isPropped_11 (by decide) ?_
    refine lv_goto (tgt := 16) hx hb dX0_isPropped_12 (by decide) ?_
    exact W.zret (v := 1) (ty := .boolean) hx hb hr (by decide) (fun t ht hW => ⟨1, rfl, by unfold fX0_isPropped; rw [if_pos c_1], ht⟩) (fun q h => by cases h) dX0_isPropped_16
