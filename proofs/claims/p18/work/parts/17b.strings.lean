theorem oh_lenr0 : ∀ j : Nat, j < 34 → (3 ≤ (Int32.ofNat (oh_len j)).toInt ∧ (Int32.ofNat (oh_len j)).toInt ≤ 6) := by decide
theorem oh_lenr {j : Nat} (h : j < 34) : rg (Int32.ofNat (oh_len j)) 3 6 := oh_lenr0 j h
theorem oh_lenn0 : ∀ j : Nat, j < 34 → (Int32.ofNat (oh_len j)).toInt = (oh_len j : Int) := by decide
theorem oh_shr0 (x : Int32) : x >>> ((0 : Int32) &&& 31) = x := by
  rw [show ((0 : Int32) &&& 31) = 0 by decide]
  exact Int32.shiftRight_zero
theorem oh_chr0 : ∀ j : Nat, j < 34 → ∀ i : Nat, i < 6 → ((oh_byt j i &&& 255).toUInt32 % 65536).toInt32 = oh_byt j i ∧ narrow .char (.int (((oh_byt j i &&& 255).toUInt32 % 65536).toInt32)) = .int (((oh_byt j i &&& 255).toUInt32 % 65536).toInt32) := by decide +kernel
theorem oh_chin {j : Nat} (hj : j < 34) {x : Int32} (h1 : ¬ x < 0) (h2 : x < Int32.ofNat (oh_len j)) : vp_in x (oh_len j) := by
  have a := Int32.lt_iff_toInt_lt.mp h2
  rw [oh_lenn0 j hj] at a
  have b := Int32.le_iff_toInt_le.mp (Int32.not_lt.mp h1)
  exact vp_in_iff.mpr ⟨b, a⟩
theorem oh_chr {j : Nat} (hj : j < 34) {x : Int32} (h1 : ¬ x < 0) (h2 : x < Int32.ofNat (oh_len j)) : ((oh_byt j x.toNatClampNeg &&& 255).toUInt32 % 65536).toInt32 = oh_byt j x.toNatClampNeg ∧ narrow .char (.int (((oh_byt j x.toNatClampNeg &&& 255).toUInt32 % 65536).toInt32)) = .int (((oh_byt j x.toNatClampNeg &&& 255).toUInt32 % 65536).toInt32) := by
  refine oh_chr0 j hj _ ?_
  have a := Int32.lt_iff_toInt_lt.mp h2
  have b := (oh_lenr hj).2
  show x.toInt.toNat < 6
  omega
theorem oh_nfl {x : Int32} (h : rg x 0 250) : ¬ x = -1 := by
  intro e
  subst e
  exact absurd h.1 (by decide)

set_option maxHeartbeats 4000000 in
set_option maxRecDepth 100000 in
theorem c_J0_coder_7d493 (l : Launch) (D : va_G) (E : Nat → ClassId) (G : Nat → Nat) (j : Nat) (hj : j < 34) : Met l yJ0_coder_7d493 (oh_w yJ0_coder_7d493 cJ0_coder_7d493 1 (some .byte)) ({ frames := 0, cells := 0, slots := 0, locals := 0 }) (oh_Pp D E G [.ref (G (3 + j))] []) (vp_Si (fun r => r = 0)) 0 0 (fun _ => False) := by
  refine Met.ofW (cc := cJ0_coder_7d493) (maxL := 1) (ret := (some .byte)) (by decide) rfl ?_
  intro p e s m args below meth c s₁ B hml hv
  obtain ⟨rfl, hP, hK, hG⟩ := hv
  have hx := B.exec
  have hb := B.bytes
  have hr := B.returns
  have hts := atoms_spec (ws := (oh_w yJ0_coder_7d493 cJ0_coder_7d493 1 (some .byte))) B.pre
  have htg : ∀ w ∈ oh_t, w.before _ s = true := fun w h => hts w (List.mem_cons_of_mem _ h)
  have hown : s.vm.findClass RJ0 = some m.cls := findClass_of_methodNamed B.named
  have hlocks := B.notSynchronized
  have hS : va_S (fun _ => False) s.heap s.heap [] := va_S.rf
  have hl := lv_entry ([.ref (G (3 + j))]) (n := 1) (Nat.le_of_ble_eq_true rfl)
  rw [lg_entry_eq]
  generalize (lg_sl ([.ref (G (3 + j))]) ++ List.replicate (1 - (lg_sl ([.ref (G (3 + j))])).length) Slot.unset).toArray = ls at hl ⊢
  have hl : lv_has ls 1 [(0, .ref (G (3 + j)))] := hl
  refine oh_genQ (fun Q hQ => ?_)
  refine va_gets hx hb hG.2.2.2.2.2.2.2.2.1 hS hown (htg _ q_529) (fun _ h9 => h9) dJ0_coder_7d493_0 ?_
  refine lv_if_eq (tgt := 13) hx hb dJ0_coder_7d493_3 (by decide) (fun c => absurd c (show ¬ ((1 : Int32) = 0) from by decide)) (fun _ => ?_)
  refine lv_aload_n hx hb dJ0_coder_7d493_6 rfl (lv_at hl 0 rfl) ?_
  refine vk_getf (v := .int 0) hx hb (hG.2.2.2.2.2.2.2.2.2.2 j hj).2.1 hS hown (htg _ q_1448) (fun _ h9 => h9) dJ0_coder_7d493_7 ?_
  refine lv_goto (tgt := 14) hx hb dJ0_coder_7d493_10 (by decide) ?_
  rw [hQ]
  exact W.zret (v := 0) (ty := .byte) hx hb hr (by decide) (fun t ht hW => ⟨0, rfl, rfl, ht⟩) (fun q h => by cases h) dJ0_coder_7d493_14

set_option maxHeartbeats 4000000 in
set_option maxRecDepth 100000 in
theorem c_J0_isLatin1_aae02 (l : Launch) (D : va_G) (E : Nat → ClassId) (G : Nat → Nat) (j : Nat) (hj : j < 34) : Met l yJ0_isLatin1_aae02 (oh_w yJ0_isLatin1_aae02 cJ0_isLatin1_aae02 1 (some .boolean)) ({ frames := 0, cells := 0, slots := 0, locals := 0 }) (oh_Pp D E G [.ref (G (3 + j))] []) (vp_Si (fun r => r = 1)) 0 0 (fun _ => False) := by
  refine Met.ofW (cc := cJ0_isLatin1_aae02) (maxL := 1) (ret := (some .boolean)) (by decide) rfl ?_
  intro p e s m args below meth c s₁ B hml hv
  obtain ⟨rfl, hP, hK, hG⟩ := hv
  have hx := B.exec
  have hb := B.bytes
  have hr := B.returns
  have hts := atoms_spec (ws := (oh_w yJ0_isLatin1_aae02 cJ0_isLatin1_aae02 1 (some .boolean))) B.pre
  have htg : ∀ w ∈ oh_t, w.before _ s = true := fun w h => hts w (List.mem_cons_of_mem _ h)
  have hown : s.vm.findClass RJ0 = some m.cls := findClass_of_methodNamed B.named
  have hlocks := B.notSynchronized
  have hS : va_S (fun _ => False) s.heap s.heap [] := va_S.rf
  have hl := lv_entry ([.ref (G (3 + j))]) (n := 1) (Nat.le_of_ble_eq_true rfl)
  rw [lg_entry_eq]
  generalize (lg_sl ([.ref (G (3 + j))]) ++ List.replicate (1 - (lg_sl ([.ref (G (3 + j))])).length) Slot.unset).toArray = ls at hl ⊢
  have hl : lv_has ls 1 [(0, .ref (G (3 + j)))] := hl
  refine oh_genQ (fun Q hQ => ?_)
  refine va_gets hx hb hG.2.2.2.2.2.2.2.2.1 hS hown (htg _ q_529) (fun _ h9 => h9) dJ0_isLatin1_aae02_0 ?_
  refine lv_if_eq (tgt := 17) hx hb dJ0_isLatin1_aae02_3 (by decide) (fun c => absurd c (show ¬ ((1 : Int32) = 0) from by decide)) (fun _ => ?_)
  refine lv_aload_n hx hb dJ0_isLatin1_aae02_6 rfl (lv_at hl 0 rfl) ?_
  refine vk_getf (v := .int 0) hx hb (hG.2.2.2.2.2.2.2.2.2.2 j hj).2.1 hS hown (htg _ q_1448) (fun _ h9 => h9) dJ0_isLatin1_aae02_7 ?_
  refine lv_if_ne (tgt := 17) hx hb dJ0_isLatin1_aae02_10 (by decide) (fun c => absurd (show (0 : Int32) = 0 from by decide) c) (fun _ => ?_)
  refine lv_iconst (v := 1) hx hb dJ0_isLatin1_aae02_13 (by decide) ?_
  refine lv_goto (tgt := 18) hx hb dJ0_isLatin1_aae02_14 (by decide) ?_
  rw [hQ]
  exact W.zret (v := 1) (ty := .boolean) hx hb hr (by decide) (fun t ht hW => ⟨1, rfl, rfl, ht⟩) (fun q h => by cases h) dJ0_isLatin1_aae02_18

set_option maxHeartbeats 4000000 in
set_option maxRecDepth 100000 in
theorem c_J0_length_8abf5 (l : Launch) (D : va_G) (E : Nat → ClassId) (G : Nat → Nat) (j : Nat) (hj : j < 34) : Met l yJ0_length_8abf5 (oh_w yJ0_length_8abf5 cJ0_length_8abf5 1 (some .int)) ({ frames := 1, cells := 0, slots := 0, locals := 20 }) (oh_Pp D E G [.ref (G (3 + j))] []) (vp_Si (fun r => r = Int32.ofNat (oh_len j))) 0 0 (fun _ => False) := by
  refine Met.ofW (cc := cJ0_length_8abf5) (maxL := 1) (ret := (some .int)) (by decide) rfl ?_
  intro p e s m args below meth c s₁ B hml hv
  obtain ⟨rfl, hP, hK, hG⟩ := hv
  have hx := B.exec
  have hb := B.bytes
  have hr := B.returns
  have hts := atoms_spec (ws := (oh_w yJ0_length_8abf5 cJ0_length_8abf5 1 (some .int))) B.pre
  have htg : ∀ w ∈ oh_t, w.before _ s = true := fun w h => hts w (List.mem_cons_of_mem _ h)
  have hown : s.vm.findClass RJ0 = some m.cls := findClass_of_methodNamed B.named
  have hlocks := B.notSynchronized
  have hS : va_S (fun _ => False) s.heap s.heap [] := va_S.rf
  have hl := lv_entry ([.ref (G (3 + j))]) (n := 1) (Nat.le_of_ble_eq_true rfl)
  rw [lg_entry_eq]
  generalize (lg_sl ([.ref (G (3 + j))]) ++ List.replicate (1 - (lg_sl ([.ref (G (3 + j))])).length) Slot.unset).toArray = ls at hl ⊢
  have hl : lv_has ls 1 [(0, .ref (G (3 + j)))] := hl
  refine oh_genQ (fun Q hQ => ?_)
  refine lv_aload_n hx hb dJ0_length_8abf5_0 rfl (lv_at hl 0 rfl) ?_
  refine vk_getf (v := .ref (G (40 + j))) hx hb (hG.2.2.2.2.2.2.2.2.2.2 j hj).2.2.1 hS hown (htg _ q_1447) (fun _ h9 => h9) dJ0_length_8abf5_1 ?_
  refine va_tlen (v := Int32.ofNat (oh_len j)) hx hb (hG.2.2.2.2.2.2.2.2.2.2 j hj).2.2.2 hS rfl dJ0_length_8abf5_4 ?_
  refine lv_aload_n hx hb dJ0_length_8abf5_5 rfl (lv_at hl 0 rfl) ?_
  refine tq_V (As := []) (rest := [.int (Int32.ofNat (oh_len j))]) (ws := []) ⟨hx, hb, hml, hown, htg⟩ (c_J0_coder_7d493 l D E G j hj) (cwV 0 htg (oh_gV q_525 q_526 q_527 q_75 q_528) rfl rfl rfl pdVJ0_coder_7d493 ⟨Nat.le_of_ble_eq_true rfl, Nat.le_of_ble_eq_true rfl⟩) hK va_nil hG hS (oh_srec hG hS hj) rfl hl.1 rfl (Nat.le_of_ble_eq_true rfl) dJ0_length_8abf5_6 ⟨Nat.le_of_ble_eq_true rfl, Nat.le_of_ble_eq_true rfl⟩ (fun r_1 hq_2 => ?_)
  subst hq_2
  refine lv_ishr hx hb dJ0_length_8abf5_9 ?_
  rw [hQ]
  exact W.iret (v := (Int32.ofNat (oh_len j)) >>> ((0 : Int32) &&& 31)) hx hb hr (fun t ht hW => ⟨(Int32.ofNat (oh_len j)) >>> ((0 : Int32) &&& 31), rfl, (oh_shr0 _), ht⟩) (fun q h => by cases h) dJ0_length_8abf5_10

set_option maxHeartbeats 4000000 in
set_option maxRecDepth 100000 in
theorem c_J3_checkIndex_n (l : Launch) (D : va_G) (E : Nat → ClassId) (G : Nat → Nat) (x1 : Int32) (x2 : Int32) (h1 : ¬ x1 < 0) (h2 : x1 < x2) : Met l yJ3_checkIndex_8e157 (oh_w yJ3_checkIndex_8e157 cJ3_checkIndex_8e157 3 (some .int)) ({ frames := 0, cells := 0, slots := 0, locals := 0 }) (oh_Pp D E G [.int x1, .int x2, .null] []) (vp_Si (fun r => True)) 0 0 (fun _ => False) := by
  refine Met.ofW (cc := cJ3_checkIndex_8e157) (maxL := 3) (ret := (some .int)) (by decide) rfl ?_
  intro p e s m args below meth c s₁ B hml hv
  obtain ⟨rfl, hP, hK, hG⟩ := hv
  have hx := B.exec
  have hb := B.bytes
  have hr := B.returns
  have hts := atoms_spec (ws := (oh_w yJ3_checkIndex_8e157 cJ3_checkIndex_8e157 3 (some .int))) B.pre
  have htg : ∀ w ∈ oh_t, w.before _ s = true := fun w h => hts w (List.mem_cons_of_mem _ h)
  have hown : s.vm.findClass RJ3 = some m.cls := findClass_of_methodNamed B.named
  have hlocks := B.notSynchronized
  have hS : va_S (fun _ => False) s.heap s.heap [] := va_S.rf
  have hl := lv_entry ([.int x1, .int x2, .null]) (n := 3) (Nat.le_of_ble_eq_true rfl)
  rw [lg_entry_eq]
  generalize (lg_sl ([.int x1, .int x2, .null]) ++ List.replicate (3 - (lg_sl ([.int x1, .int x2, .null])).length) Slot.unset).toArray = ls at hl ⊢
  have hl : lv_has ls 3 [(0, .int x1), (1, .int x2), (2, .null)] := hl
  refine oh_genQ (fun Q hQ => ?_)
  refine lv_iload_n hx hb dJ3_checkIndex_8e157_0 rfl (lv_at hl 0 rfl) ?_
  refine lv_if_lt (tgt := 9) hx hb dJ3_checkIndex_8e157_1 (by decide) (fun c => absurd c (show ¬ (x1 < 0) from h1)) (fun _ => ?_)
  refine lv_iload_n hx hb dJ3_checkIndex_8e157_4 rfl (lv_at hl 0 rfl) ?_
  refine lv_iload_n hx hb dJ3_checkIndex_8e157_5 rfl (lv_at hl 1 rfl) ?_
  refine lv_icmp_lt (tgt := 16) hx hb dJ3_checkIndex_8e157_6 (by decide) (fun _ => ?_) (fun c => absurd (show x1 < x2 from h2) c)
  refine lv_iload_n hx hb dJ3_checkIndex_8e157_16 rfl (lv_at hl 0 rfl) ?_
  rw [hQ]
  exact W.iret (v := x1) hx hb hr (fun t ht hW => ⟨x1, rfl, trivial, ht⟩) (fun q h => by cases h) dJ3_checkIndex_8e157_17

set_option maxHeartbeats 4000000 in
set_option maxRecDepth 100000 in
theorem c_J3_checkIndex_r (l : Launch) (D : va_G) (E : Nat → ClassId) (G : Nat → Nat) (x1 : Int32) (x2 : Int32) (t : Nat) (h1 : ¬ x1 < 0) (h2 : x1 < x2) : Met l yJ3_checkIndex_8e157 (oh_w yJ3_checkIndex_8e157 cJ3_checkIndex_8e157 3 (some .int)) ({ frames := 0, cells := 0, slots := 0, locals := 0 }) (oh_Pp D E G [.int x1, .int x2, .ref t] []) (vp_Si (fun r => True)) 0 0 (fun _ => False) := by
  refine Met.ofW (cc := cJ3_checkIndex_8e157) (maxL := 3) (ret := (some .int)) (by decide) rfl ?_
  intro p e s m args below meth c s₁ B hml hv
  obtain ⟨rfl, hP, hK, hG⟩ := hv
  have hx := B.exec
  have hb := B.bytes
  have hr := B.returns
  have hts := atoms_spec (ws := (oh_w yJ3_checkIndex_8e157 cJ3_checkIndex_8e157 3 (some .int))) B.pre
  have htg : ∀ w ∈ oh_t, w.before _ s = true := fun w h => hts w (List.mem_cons_of_mem _ h)
  have hown : s.vm.findClass RJ3 = some m.cls := findClass_of_methodNamed B.named
  have hlocks := B.notSynchronized
  have hS : va_S (fun _ => False) s.heap s.heap [] := va_S.rf
  have hl := lv_entry ([.int x1, .int x2, .ref t]) (n := 3) (Nat.le_of_ble_eq_true rfl)
  rw [lg_entry_eq]
  generalize (lg_sl ([.int x1, .int x2, .ref t]) ++ List.replicate (3 - (lg_sl ([.int x1, .int x2, .ref t])).length) Slot.unset).toArray = ls at hl ⊢
  have hl : lv_has ls 3 [(0, .int x1), (1, .int x2), (2, .ref t)] := hl
  refine oh_genQ (fun Q hQ => ?_)
  refine lv_iload_n hx hb dJ3_checkIndex_8e157_0 rfl (lv_at hl 0 rfl) ?_
  refine lv_if_lt (tgt := 9) hx hb dJ3_checkIndex_8e157_1 (by decide) (fun c => absurd c (show ¬ (x1 < 0) from h1)) (fun _ => ?_)
  refine lv_iload_n hx hb dJ3_checkIndex_8e157_4 rfl (lv_at hl 0 rfl) ?_
  refine lv_iload_n hx hb dJ3_checkIndex_8e157_5 rfl (lv_at hl 1 rfl) ?_
  refine lv_icmp_lt (tgt := 16) hx hb dJ3_checkIndex_8e157_6 (by decide) (fun _ => ?_) (fun c => absurd (show x1 < x2 from h2) c)
  refine lv_iload_n hx hb dJ3_checkIndex_8e157_16 rfl (lv_at hl 0 rfl) ?_
  rw [hQ]
  exact W.iret (v := x1) hx hb hr (fun t ht hW => ⟨x1, rfl, trivial, ht⟩) (fun q h => by cases h) dJ3_checkIndex_8e157_17

set_option maxHeartbeats 4000000 in
set_option maxRecDepth 100000 in
theorem c_J0_checkIndex_df160 (l : Launch) (D : va_G) (E : Nat → ClassId) (G : Nat → Nat) (x1 : Int32) (x2 : Int32) (h1 : ¬ x1 < 0) (h2 : x1 < x2) : Met l yJ0_checkIndex_df160 (oh_w yJ0_checkIndex_df160 cJ0_checkIndex_df160 2 none) ({ frames := 1, cells := 0, slots := 0, locals := 22 }) (oh_Pp D E G [.int x1, .int x2] []) oh_Sv 0 0 (fun _ => False) := by
  refine Met.ofW (cc := cJ0_checkIndex_df160) (maxL := 2) (ret := none) (by decide) rfl ?_
  intro p e s m args below meth c s₁ B hml hv
  obtain ⟨rfl, hP, hK, hG⟩ := hv
  have hx := B.exec
  have hb := B.bytes
  have hr := B.returns
  have hts := atoms_spec (ws := (oh_w yJ0_checkIndex_df160 cJ0_checkIndex_df160 2 none)) B.pre
  have htg : ∀ w ∈ oh_t, w.before _ s = true := fun w h => hts w (List.mem_cons_of_mem _ h)
  have hown : s.vm.findClass RJ0 = some m.cls := findClass_of_methodNamed B.named
  have hlocks := B.notSynchronized
  have hS : va_S (fun _ => False) s.heap s.heap [] := va_S.rf
  have hl := lv_entry ([.int x1, .int x2]) (n := 2) (Nat.le_of_ble_eq_true rfl)
  rw [lg_entry_eq]
  generalize (lg_sl ([.int x1, .int x2]) ++ List.replicate (2 - (lg_sl ([.int x1, .int x2])).length) Slot.unset).toArray = ls at hl ⊢
  have hl : lv_has ls 2 [(0, .int x1), (1, .int x2)] := hl
  refine oh_genQ (fun Q hQ => ?_)
  refine lv_iload_n hx hb dJ0_checkIndex_df160_0 rfl (lv_at hl 0 rfl) ?_
  refine lv_iload_n hx hb dJ0_checkIndex_df160_1 rfl (lv_at hl 1 rfl) ?_
  rcases hG.2.2.2.2.2.2.2.2.2.1 with hz | ⟨zt, hz⟩
  · refine va_gets hx hb hz hS hown (htg _ q_545) (fun _ h9 => h9) dJ0_checkIndex_df160_2 ?_
    refine tq_S (As := [.int x1, .int x2, .null]) (rest := []) (ws := []) ⟨hx, hb, hml, hown, htg⟩ (c_J3_checkIndex_n l D E G x1 x2 h1 h2) (va_cwS 3 htg (oh_gS q_547 q_548 q_77 q_549) rfl rfl rfl pdJ3_checkIndex_8e157 ⟨Nat.le_of_ble_eq_true rfl, Nat.le_of_ble_eq_true rfl⟩) hK va_nil hG hS rfl hl.1 rfl (Nat.le_of_ble_eq_true rfl) dJ0_checkIndex_df160_5 ⟨Nat.le_of_ble_eq_true rfl, Nat.le_of_ble_eq_true rfl⟩ (fun r_1 hq_2 => ?_)
    refine lv_pop hx hb dJ0_checkIndex_df160_8 rfl ?_
    rw [hQ]
    exact W.vret hx hb hr (fun t ht hW => ⟨rfl, ht⟩) (fun q h => by cases h) dJ0_checkIndex_df160_9
  · refine va_gets hx hb hz hS hown (htg _ q_545) (fun _ h9 => h9) dJ0_checkIndex_df160_2 ?_
    refine tq_S (As := [.int x1, .int x2, .ref zt]) (rest := []) (ws := []) ⟨hx, hb, hml, hown, htg⟩ (c_J3_checkIndex_r l D E G x1 x2 zt h1 h2) (va_cwS 3 htg (oh_gS q_547 q_548 q_77 q_549) rfl rfl rfl pdJ3_checkIndex_8e157 ⟨Nat.le_of_ble_eq_true rfl, Nat.le_of_ble_eq_true rfl⟩) hK va_nil hG hS rfl hl.1 rfl (Nat.le_of_ble_eq_true rfl) dJ0_checkIndex_df160_5 ⟨Nat.le_of_ble_eq_true rfl, Nat.le_of_ble_eq_true rfl⟩ (fun r_3 hq_4 => ?_)
    refine lv_pop hx hb dJ0_checkIndex_df160_8 rfl ?_
    rw [hQ]
    exact W.vret hx hb hr (fun t ht hW => ⟨rfl, ht⟩) (fun q h => by cases h) dJ0_checkIndex_df160_9

set_option maxHeartbeats 4000000 in
set_option maxRecDepth 100000 in
theorem c_J1_charAt_3b067 (l : Launch) (D : va_G) (E : Nat → ClassId) (G : Nat → Nat) (j : Nat) (x1 : Int32) (hj : j < 34) (h1 : ¬ x1 < 0) (h2 : x1 < Int32.ofNat (oh_len j)) : Met l yJ1_charAt_3b067 (oh_w yJ1_charAt_3b067 cJ1_charAt_3b067 2 (some .char)) ({ frames := 2, cells := 0, slots := 0, locals := 43 }) (oh_Pp D E G [.ref (G (40 + j)), .int x1] []) (vp_Si (fun r => r = oh_byt j (x1).toNatClampNeg)) 0 0 (fun _ => False) := by
  refine Met.ofW (cc := cJ1_charAt_3b067) (maxL := 2) (ret := (some .char)) (by decide) rfl ?_
  intro p e s m args below meth c s₁ B hml hv
  obtain ⟨rfl, hP, hK, hG⟩ := hv
  have hx := B.exec
  have hb := B.bytes
  have hr := B.returns
  have hts := atoms_spec (ws := (oh_w yJ1_charAt_3b067 cJ1_charAt_3b067 2 (some .char))) B.pre
  have htg : ∀ w ∈ oh_t, w.before _ s = true := fun w h => hts w (List.mem_cons_of_mem _ h)
  have hown : s.vm.findClass RJ1 = some m.cls := findClass_of_methodNamed B.named
  have hlocks := B.notSynchronized
  have hS : va_S (fun _ => False) s.heap s.heap [] := va_S.rf
  have hl := lv_entry ([.ref (G (40 + j)), .int x1]) (n := 2) (Nat.le_of_ble_eq_true rfl)
  rw [lg_entry_eq]
  generalize (lg_sl ([.ref (G (40 + j)), .int x1]) ++ List.replicate (2 - (lg_sl ([.ref (G (40 + j)), .int x1])).length) Slot.unset).toArray = ls at hl ⊢
  have hl : lv_has ls 2 [(0, .ref (G (40 + j))), (1, .int x1)] := hl
  refine oh_genQ (fun Q hQ => ?_)
  refine lv_iload_n hx hb dJ1_charAt_3b067_0 rfl (lv_at hl 1 rfl) ?_
  refine lv_aload_n hx hb dJ1_charAt_3b067_1 rfl (lv_at hl 0 rfl) ?_
  refine va_tlen (v := Int32.ofNat (oh_len j)) hx hb (hG.2.2.2.2.2.2.2.2.2.2 j hj).2.2.2 hS rfl dJ1_charAt_3b067_2 ?_
  refine tq_Sv (As := [.int x1, .int (Int32.ofNat (oh_len j))]) (rest := []) (ws := []) ⟨hx, hb, hml, hown, htg⟩ (c_J0_checkIndex_df160 l D E G x1 (Int32.ofNat (oh_len j)) h1 h2) (va_cwS 2 htg (oh_gS q_542 q_543 q_75 q_544) rfl rfl rfl pdJ0_checkIndex_df160 ⟨Nat.le_of_ble_eq_true rfl, Nat.le_of_ble_eq_true rfl⟩) hK va_nil hG hS rfl hl.1 rfl (Nat.le_of_ble_eq_true rfl) dJ1_charAt_3b067_3 ⟨Nat.le_of_ble_eq_true rfl, Nat.le_of_ble_eq_true rfl⟩ ?_
  refine lv_aload_n hx hb dJ1_charAt_3b067_6 rfl (lv_at hl 0 rfl) ?_
  refine lv_iload_n hx hb dJ1_charAt_3b067_7 rfl (lv_at hl 1 rfl) ?_
  refine va_tb (v := .int (oh_byt j (x1).toNatClampNeg)) hx hb (hG.2.2.2.2.2.2.2.2.2.2 j hj).2.2.2 hS (oh_chin hj h1 h2) rfl dJ1_charAt_3b067_8 ?_
  refine lv_sipush (v := 255) hx hb dJ1_charAt_3b067_9 (by decide) ?_
  refine lv_iand hx hb dJ1_charAt_3b067_12 ?_
  refine lv_i2c (v := (((oh_byt j (x1).toNatClampNeg) &&& 255).toUInt32 % 65536).toInt32) hx hb dJ1_charAt_3b067_13 rfl ?_
  rw [hQ]
  exact W.zret (v := (((oh_byt j (x1).toNatClampNeg) &&& 255).toUInt32 % 65536).toInt32) (ty := .char) hx hb hr (oh_chr hj h1 h2).2 (fun t ht hW => ⟨(((oh_byt j (x1).toNatClampNeg) &&& 255).toUInt32 % 65536).toInt32, rfl, (oh_chr hj h1 h2).1, ht⟩) (fun q h => by cases h) dJ1_charAt_3b067_14

set_option maxHeartbeats 4000000 in
set_option maxRecDepth 100000 in
theorem c_J0_charAt_5068e (l : Launch) (D : va_G) (E : Nat → ClassId) (G : Nat → Nat) (j : Nat) (x1 : Int32) (hj : j < 34) (h1 : ¬ x1 < 0) (h2 : x1 < Int32.ofNat (oh_len j)) : Met l yJ0_charAt_5068e (oh_w yJ0_charAt_5068e cJ0_charAt_5068e 2 (some .char)) ({ frames := 3, cells := 0, slots := 0, locals := 64 }) (oh_Pp D E G [.ref (G (3 + j)), .int x1] []) (vp_Si (fun r => r = oh_byt j (x1).toNatClampNeg)) 0 0 (fun _ => False) := by
  refine Met.ofW (cc := cJ0_charAt_5068e) (maxL := 2) (ret := (some .char)) (by decide) rfl ?_
  intro p e s m args below meth c s₁ B hml hv
  obtain ⟨rfl, hP, hK, hG⟩ := hv
  have hx := B.exec
  have hb := B.bytes
  have hr := B.returns
  have hts := atoms_spec (ws := (oh_w yJ0_charAt_5068e cJ0_charAt_5068e 2 (some .char))) B.pre
  have htg : ∀ w ∈ oh_t, w.before _ s = true := fun w h => hts w (List.mem_cons_of_mem _ h)
  have hown : s.vm.findClass RJ0 = some m.cls := findClass_of_methodNamed B.named
  have hlocks := B.notSynchronized
  have hS : va_S (fun _ => False) s.heap s.heap [] := va_S.rf
  have hl := lv_entry ([.ref (G (3 + j)), .int x1]) (n := 2) (Nat.le_of_ble_eq_true rfl)
  rw [lg_entry_eq]
  generalize (lg_sl ([.ref (G (3 + j)), .int x1]) ++ List.replicate (2 - (lg_sl ([.ref (G (3 + j)), .int x1])).length) Slot.unset).toArray = ls at hl ⊢
  have hl : lv_has ls 2 [(0, .ref (G (3 + j))), (1, .int x1)] := hl
  refine oh_genQ (fun Q hQ => ?_)
  refine lv_aload_n hx hb dJ0_charAt_5068e_0 rfl (lv_at hl 0 rfl) ?_
  refine tq_V (As := []) (rest := []) (ws := []) ⟨hx, hb, hml, hown, htg⟩ (c_J0_isLatin1_aae02 l D E G j hj) (cwV 0 htg (oh_gV q_535 q_536 q_537 q_75 q_538) rfl rfl rfl pdVJ0_isLatin1_aae02 ⟨Nat.le_of_ble_eq_true rfl, Nat.le_of_ble_eq_true rfl⟩) hK va_nil hG hS (oh_srec hG hS hj) rfl hl.1 rfl (Nat.le_of_ble_eq_true rfl) dJ0_charAt_5068e_1 ⟨Nat.le_of_ble_eq_true rfl, Nat.le_of_ble_eq_true rfl⟩ (fun r_1 hq_2 => ?_)
  subst hq_2
  refine lv_if_eq (tgt := 16) hx hb dJ0_charAt_5068e_4 (by decide) (fun c => absurd c (show ¬ ((1 : Int32) = 0) from by decide)) (fun _ => ?_)
  refine lv_aload_n hx hb dJ0_charAt_5068e_7 rfl (lv_at hl 0 rfl) ?_
  refine vk_getf (v := .ref (G (40 + j))) hx hb (hG.2.2.2.2.2.2.2.2.2.2 j hj).2.2.1 hS hown (htg _ q_1447) (fun _ h9 => h9) dJ0_charAt_5068e_8 ?_
  refine lv_iload_n hx hb dJ0_charAt_5068e_11 rfl (lv_at hl 1 rfl) ?_
  refine tq_S (As := [.ref (G (40 + j)), .int x1]) (rest := []) (ws := []) ⟨hx, hb, hml, hown, htg⟩ (c_J1_charAt_3b067 l D E G j x1 hj h1 h2) (va_cwS 2 htg (oh_gS q_539 q_540 q_76 q_541) rfl rfl rfl pdJ1_charAt_3b067 ⟨Nat.le_of_ble_eq_true rfl, Nat.le_of_ble_eq_true rfl⟩) hK va_nil hG hS rfl hl.1 rfl (Nat.le_of_ble_eq_true rfl) dJ0_charAt_5068e_12 ⟨Nat.le_of_ble_eq_true rfl, Nat.le_of_ble_eq_true rfl⟩ (fun r_3 hq_4 => ?_)
  subst hq_4
  rw [hQ]
  exact W.zret (v := oh_byt j (x1).toNatClampNeg) (ty := .char) hx hb hr (by rw [← (oh_chr hj h1 h2).1]; exact (oh_chr hj h1 h2).2) (fun t ht hW => ⟨oh_byt j (x1).toNatClampNeg, rfl, rfl, ht⟩) (fun q h => by cases h) dJ0_charAt_5068e_15
