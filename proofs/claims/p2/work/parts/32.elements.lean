theorem oh_i40 {v k : Int32} (h : ¬ fX6_within v 0 (k - 1) = 0) (hk : 0 ≤ k.toInt ∧ k.toInt ≤ 40) : vp_in v 40 := by
  rw [vp_in_iff]
  unfold fX6_within at h
  by_cases h1 : v < 0
  · exact absurd (if_pos h1) h
  · rw [if_neg h1] at h
    by_cases h2 : k - 1 < v
    · exact absurd (if_pos h2) h
    · rw [Int32.lt_iff_toInt_lt] at h1 h2
      have h0 : (0 : Int32).toInt = 0 := by decide
      have h3 : (1 : Int32).toInt = 1 := by decide
      have h4 : (k - 1).toInt = k.toInt - 1 := by
        rw [Int32.toInt_sub, h3]
        apply Int.bmod_eq_of_le <;> omega
      omega
def fX3_elementAt (v_s : Int32) (v_i : Int32) (g_size : Nat → Int32) (g_cells : Nat → Int64) : Int64 :=
  if (fX6_within v_i 0 ((g_size (v_s).toNatClampNeg) - 1)) = 0 then 0 else g_cells ((v_s * 40) + v_i).toNatClampNeg
set_option maxHeartbeats 4000000 in
set_option maxRecDepth 100000 in
theorem c_X3_elementAt (l : Launch) (D : va_G) (E : Nat → ClassId) (G : Nat → Nat) (a0 : Nat) (v_s : Int32) (v_i : Int32) (a0_held : Nat) (a0_size : Nat) (a0_cells : Nat) (g_size : Nat → Int32) (g_cells : Nat → Int64) (h0 : vp_in v_s 8) (hsz : 0 ≤ (g_size (v_s).toNatClampNeg).toInt ∧ (g_size (v_s).toNatClampNeg).toInt ≤ 40) : Met l yX3_elementAt (oh_w yX3_elementAt cX3_elementAt 3 (some .long)) ({ frames := 1, cells := 0, slots := 0, locals := 22 }) (oh_Pp D E G [.ref a0, .int v_s, .int v_i] [(a0, .inr (3, [.ref a0_held, .ref a0_size, .ref a0_cells])), (a0_size, .inl (E 0, 8, .inl g_size)), (a0_cells, .inl (E 1, 320, .inr (.inl g_cells)))]) (vp_Sl (fun r => r = fX3_elementAt v_s v_i g_size g_cells)) 0 0 (fun _ => False) := by
  refine Met.ofW (cc := cX3_elementAt) (maxL := 3) (ret := (some .long)) (by decide) rfl ?_
  intro p e s m args below meth c s₁ B hml hv
  obtain ⟨rfl, hP, hK, hG⟩ := hv
  have hx := B.exec
  have hb := B.bytes
  have hr := B.returns
  have hts := atoms_spec (ws := (oh_w yX3_elementAt cX3_elementAt 3 (some .long))) B.pre
  have htg : ∀ w ∈ oh_t, w.before _ s = true := fun w h => hts w (List.mem_cons_of_mem _ h)
  have hown : s.vm.findClass RX3 = some m.cls := findClass_of_methodNamed B.named
  have hlocks := B.notSynchronized
  have hS : va_S (fun _ => False) s.heap s.heap [] := va_S.rf
  have hl := lv_entry ([.ref a0, .int v_s, .int v_i]) (n := 3) (Nat.le_of_ble_eq_true rfl)
  rw [lg_entry_eq]
  generalize (lg_sl ([.ref a0, .int v_s, .int v_i]) ++ List.replicate (3 - (lg_sl ([.ref a0, .int v_s, .int v_i])).length) Slot.unset).toArray = ls at hl ⊢
  have hl : lv_has ls 3 [(0, .ref a0), (1, .int v_s), (2, .int v_i)] := hl
  refine lv_iload_n hx hb dX3_elementAt_0 rfl (lv_at hl 2 rfl) ?_
  refine lv_iconst (v := 0) hx hb dX3_elementAt_1 (by decide) ?_
  refine lv_aload_n hx hb dX3_elementAt_2 rfl (lv_at hl 0 rfl) ?_
  refine va_get (D := D) (ci := 3) (v := .ref a0_size) (C := RX3) (T := TX3) (N := 3) hx hb htg ig_3 hown hK hP 0 rfl rfl 1 (by decide) (htg _ q_200) (fun _ h9 => h9) rfl dX3_elementAt_3 ?_
  refine lv_iload_n hx hb dX3_elementAt_6 rfl (lv_at hl 1 rfl) ?_
  refine va_iald hx hb hK hP 1 0 rfl rfl h0 dX3_elementAt_7 ?_
  refine lv_iconst (v := 1) hx hb dX3_elementAt_8 (by decide) ?_
  refine lv_isub hx hb dX3_elementAt_9 ?_
  refine oh_pSN (As := [.int v_i, .int 0, .int ((g_size (v_s).toNatClampNeg) - 1)]) (rest := []) (v := fX6_within v_i 0 ((g_size (v_s).toNatClampNeg) - 1)) ⟨hx, hb, hml, hown, htg⟩ (c_X6_within l D E G v_i 0 ((g_size (v_s).toNatClampNeg) - 1)) ⟨va_cnB (y := yX6_within) 3 htg (oh_gW q_295) rfl rfl rfl (hG.1 ("OneHeavyLoad$Shelves", 36, ⟨"OneHeavyLoad", "within", "(III)Z"⟩, "OneHeavyLoad") (List.mem_of_getElem? (i := 1) rfl)) (htg _ q_66) pdX6_within ⟨Nat.le_of_ble_eq_true rfl, Nat.le_of_ble_eq_true rfl⟩, htg _ q_294, trivial⟩ hK (hP.sub (ws' := []) [] rfl) hG hS rfl hl.1 rfl (Nat.le_of_ble_eq_true rfl) dX3_elementAt_10 ⟨Nat.le_of_ble_eq_true rfl, Nat.le_of_ble_eq_true rfl⟩ ?_
  refine lv_if_eq (tgt := 30) hx hb dX3_elementAt_13 (by decide) (fun (c_1 : (fX6_within v_i 0 ((g_size (v_s).toNatClampNeg) - 1)) = 0) => ?_) (fun (c_1 : ¬ ((fX6_within v_i 0 ((g_size (v_s).toNatClampNeg) - 1)) = 0)) => ?_)
  · refine lv_lconst (v := 0) hx hb dX3_elementAt_30 (by decide) ?_
    exact W.lret (v := 0) hx hb hr (fun t ht hW => ⟨0, rfl, by unfold fX3_elementAt; rw [if_pos c_1], ht⟩) (fun q h => by cases h) dX3_elementAt_31
  · refine lv_aload_n hx hb dX3_elementAt_16 rfl (lv_at hl 0 rfl) ?_
    refine va_get (D := D) (ci := 3) (v := .ref a0_cells) (C := RX3) (T := TX3) (N := 3) hx hb htg ig_3 hown hK hP 0 rfl rfl 2 (by decide) (htg _ q_202) (fun _ h9 => h9) rfl dX3_elementAt_17 ?_
    refine lv_iload_n hx hb dX3_elementAt_20 rfl (lv_at hl 1 rfl) ?_
    refine lv_bipush (v := 40) hx hb dX3_elementAt_21 (by decide) ?_
    refine lv_imul hx hb dX3_elementAt_23 ?_
    refine lv_iload_n hx hb dX3_elementAt_24 rfl (lv_at hl 2 rfl) ?_
    refine lv_iadd hx hb dX3_elementAt_25 ?_
    refine va_lald hx hb hK hP 2 1 rfl rfl (oh_sh (K := 40) (N := 8) h0 (oh_i40 c_1 hsz) rfl (by decide) (by decide)) dX3_elementAt_26 ?_
    refine lv_goto (tgt := 31) hx hb dX3_elementAt_27 (by decide) ?_
    exact W.lret (v := g_cells ((v_s * 40) + v_i).toNatClampNeg) hx hb hr (fun t ht hW => ⟨g_cells ((v_s * 40) + v_i).toNatClampNeg, rfl, by unfold fX3_elementAt; rw [if_neg c_1], ht⟩) (fun q h => by cases h) dX3_elementAt_31
set_option maxHeartbeats 4000000 in
set_option maxRecDepth 100000 in
theorem c_X3_putElement (l : Launch) (D : va_G) (E : Nat → ClassId) (G : Nat → Nat) (sz : Nat) (a0 : Nat) (v_s : Int32) (v_i : Int32) (v_v : Int64) (a0_held : Nat) (a0_size : Nat) (a0_cells : Nat) (g_held : Nat → Int32) (g_cells : Nat → Int64) (h0 : vp_in v_s 8) (h1 : vp_in v_i 40) : Met l yX3_putElement (oh_w yX3_putElement cX3_putElement 5 none) ({ frames := 1, cells := 0, slots := 0, locals := 22 }) (oh_Pm D E G [.ref a0, .int v_s, .int v_i, .long v_v] [(a0, .inr (3, [.ref a0_held, .ref a0_size, .ref a0_cells])), (a0_held, .inl (E 0, 8, .inl g_held)), (a0_cells, .inl (E 1, 320, .inr (.inl g_cells)))] sz) (va_Qv (fun (_ : Unit) => True) (oh_B D (va_A [(a0, .inr (3, [.ref a0_held, .ref a0_size, .ref a0_cells])), (a0_held, .inl (E 0, 8, .inl g_held)), (a0_cells, .inl (E 1, 320, .inr (.inl g_cells)))] sz) (fun _ => [(a0, .inr (3, [.ref a0_held, .ref a0_size, .ref a0_cells])), (a0_held, .inl (E 0, 8, .inl g_held)), (a0_cells, .inl (E 1, 320, .inr (.inl (vp_updL g_cells (((v_s * 40) + v_i).toNatClampNeg) (fX3_asSort (g_held (v_s).toNatClampNeg) v_v)))))])) (va_A [(a0, .inr (3, [.ref a0_held, .ref a0_size, .ref a0_cells])), (a0_held, .inl (E 0, 8, .inl g_held)), (a0_cells, .inl (E 1, 320, .inr (.inl g_cells)))] sz)) 0 0 (va_A [(a0, .inr (3, [.ref a0_held, .ref a0_size, .ref a0_cells])), (a0_held, .inl (E 0, 8, .inl g_held)), (a0_cells, .inl (E 1, 320, .inr (.inl g_cells)))] sz) := by
  refine Met.ofW (cc := cX3_putElement) (maxL := 5) (ret := none) (by decide) rfl ?_
  intro p e s m args below meth c s₁ B hml hv
  obtain ⟨rfl, hsz, hP, hK, hD0, hG⟩ := hv
  have hx := B.exec
  have hb := B.bytes
  have hr := B.returns
  have hts := atoms_spec (ws := (oh_w yX3_putElement cX3_putElement 5 none)) B.pre
  have htg : ∀ w ∈ oh_t, w.before _ s = true := fun w h => hts w (List.mem_cons_of_mem _ h)
  have hown : s.vm.findClass RX3 = some m.cls := findClass_of_methodNamed B.named
  have hlocks := B.notSynchronized
  subst hsz
  have hD := hD0.self (sz := s.heap.size)
  generalize hAe : va_A [(a0, .inr (3, [.ref a0_held, .ref a0_size, .ref a0_cells])), (a0_held, .inl (E 0, 8, .inl g_held)), (a0_cells, .inl (E 1, 320, .inr (.inl g_cells)))] s.heap.size = A at hD hG ⊢
  have hA : ∀ q : Nat, s.heap.size ≤ q → A q := fun q h => by rw [← hAe]; exact Or.inr h
  have hS : va_S A s.heap s.heap [] := va_S.rf
  have hP : va_P D vwCl [(a0, .inr (3, [.ref a0_held, .ref a0_size, .ref a0_cells])), (a0_held, .inl (E 0, 8, .inl g_held)), (a0_cells, .inl (E 1, 320, .inr (.inl g_cells)))] s.heap := hP
  have hl := lv_entry ([.ref a0, .int v_s, .int v_i, .long v_v]) (n := 5) (Nat.le_of_ble_eq_true rfl)
  rw [lg_entry_eq]
  generalize (lg_sl ([.ref a0, .int v_s, .int v_i, .long v_v]) ++ List.replicate (5 - (lg_sl ([.ref a0, .int v_s, .int v_i, .long v_v])).length) Slot.unset).toArray = ls at hl ⊢
  have hl : lv_has ls 5 [(0, .ref a0), (1, .int v_s), (2, .int v_i), (3, .long v_v)] := hl
  refine lv_aload_n hx hb dX3_putElement_0 rfl (lv_at hl 0 rfl) ?_
  refine va_get (D := D) (ci := 3) (v := .ref a0_cells) (C := RX3) (T := TX3) (N := 3) hx hb htg ig_3 hown hK hP 0 rfl rfl 2 (by decide) (htg _ q_202) (fun _ h9 => h9) rfl dX3_putElement_1 ?_
  refine lv_iload_n hx hb dX3_putElement_4 rfl (lv_at hl 1 rfl) ?_
  refine lv_bipush (v := 40) hx hb dX3_putElement_5 (by decide) ?_
  refine lv_imul hx hb dX3_putElement_7 ?_
  refine lv_iload_n hx hb dX3_putElement_8 rfl (lv_at hl 2 rfl) ?_
  refine lv_iadd hx hb dX3_putElement_9 ?_
  refine lv_aload_n hx hb dX3_putElement_10 rfl (lv_at hl 0 rfl) ?_
  refine va_get (D := D) (ci := 3) (v := .ref a0_held) (C := RX3) (T := TX3) (N := 3) hx hb htg ig_3 hown hK hP 0 rfl rfl 0 (by decide) (htg _ q_198) (fun _ h9 => h9) rfl dX3_putElement_11 ?_
  refine lv_iload_n hx hb dX3_putElement_14 rfl (lv_at hl 1 rfl) ?_
  refine va_iald hx hb hK hP 1 0 rfl rfl h0 dX3_putElement_15 ?_
  refine lv_lload_n hx hb dX3_putElement_16 rfl (lv_at hl 3 rfl) ?_
  refine oh_pSl (As := [.int (g_held (v_s).toNatClampNeg), .long v_v]) (rest := [.int ((v_s * 40) + v_i), .ref a0_cells]) (vl := fX3_asSort (g_held (v_s).toNatClampNeg) v_v) ⟨hx, hb, hml, hown, htg⟩ (c_X3_asSort l D E G (g_held (v_s).toNatClampNeg) v_v) (va_cwS 2 htg (oh_gS q_324 q_325 q_70 q_326) rfl rfl rfl pdX3_asSort ⟨Nat.le_of_ble_eq_true rfl, Nat.le_of_ble_eq_true rfl⟩) hK (hP.sub (ws' := []) [] rfl) hG hS rfl hl.1 rfl (Nat.le_of_ble_eq_true rfl) dX3_putElement_17 ⟨Nat.le_of_ble_eq_true rfl, Nat.le_of_ble_eq_true rfl⟩ ?_
  refine va_last hx hb hK hP hD hS 2 1 rfl rfl (oh_sh (K := 40) (N := 8) h0 h1 rfl (by decide) (by decide)) dX3_putElement_20 (fun H locs hP hD hS => ?_)
  replace hP : va_P D vwCl [(a0, .inr (3, [.ref a0_held, .ref a0_size, .ref a0_cells])), (a0_held, .inl (E 0, 8, .inl g_held)), (a0_cells, .inl (E 1, 320, .inr (.inl (vp_updL g_cells (((v_s * 40) + v_i).toNatClampNeg) (fX3_asSort (g_held (v_s).toNatClampNeg) v_v)))))] H := hP
  replace hD : va_D A [(a0, .inr (3, [.ref a0_held, .ref a0_size, .ref a0_cells])), (a0_held, .inl (E 0, 8, .inl g_held)), (a0_cells, .inl (E 1, 320, .inr (.inl (vp_updL g_cells (((v_s * 40) + v_i).toNatClampNeg) (fX3_asSort (g_held (v_s).toNatClampNeg) v_v)))))] := hD
  refine W.widen (k := 0) (n := 0) (Nat.le_of_ble_eq_true rfl) (Nat.le_of_ble_eq_true rfl) ?_
  exact W.vret hx hb hr (fun t ht hW => ⟨⟨(), rfl, trivial, ⟨by rw [ht]; exact hP.sub [0, 1, 2] rfl, hD.sub [0, 1, 2] (by decide) rfl⟩⟩, hS.F ht⟩) hS.2.2 dX3_putElement_21
