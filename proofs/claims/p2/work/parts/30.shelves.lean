def fX3_asSort (v_k : Int32) (v_v : Int64) : Int64 :=
  if v_k = 0 then Int32.toInt64 ((Int64.toInt32 v_v).toInt8.toInt32) else if v_k = 1 then Int32.toInt64 ((Int64.toInt32 v_v).toInt16.toInt32) else if v_k = 2 then Int32.toInt64 (Int64.toInt32 v_v) else if v_k = 3 then v_v else if v_k = 4 then (if (lg_cmp v_v 0) = 0 then 0 else 1) else v_v
set_option maxHeartbeats 4000000 in
set_option maxRecDepth 100000 in
theorem c_X3_asSort (l : Launch) (D : va_G) (E : Nat → ClassId) (G : Nat → Nat) (v_k : Int32) (v_v : Int64) : Met l yX3_asSort (oh_w yX3_asSort cX3_asSort 3 (some .long)) ({ frames := 0, cells := 0, slots := 0, locals := 0 }) (oh_Pp D E G [.int v_k, .long v_v] []) (vp_Sl (fun r => r = fX3_asSort v_k v_v)) 0 0 (fun _ => False) := by
  refine Met.ofW (cc := cX3_asSort) (maxL := 3) (ret := (some .long)) (by decide) rfl ?_
  intro p e s m args below meth c s₁ B hml hv
  obtain ⟨rfl, hP, hK, hG⟩ := hv
  have hx := B.exec
  have hb := B.bytes
  have hr := B.returns
  have hts := atoms_spec (ws := (oh_w yX3_asSort cX3_asSort 3 (some .long))) B.pre
  have htg : ∀ w ∈ oh_t, w.before _ s = true := fun w h => hts w (List.mem_cons_of_mem _ h)
  have hown : s.vm.findClass RX3 = some m.cls := findClass_of_methodNamed B.named
  have hlocks := B.notSynchronized
  have hS : va_S (fun _ => False) s.heap s.heap [] := va_S.rf
  have hl := lv_entry ([.int v_k, .long v_v]) (n := 3) (Nat.le_of_ble_eq_true rfl)
  rw [lg_entry_eq]
  generalize (lg_sl ([.int v_k, .long v_v]) ++ List.replicate (3 - (lg_sl ([.int v_k, .long v_v])).length) Slot.unset).toArray = ls at hl ⊢
  have hl : lv_has ls 3 [(0, .int v_k), (1, .long v_v)] := hl
  refine lv_iload_n hx hb dX3_asSort_0 rfl (lv_at hl 0 rfl) ?_
  by_cases c_1 : v_k = 0
  · refine lv_tableIn (off := 35) (tgt := 36) hx hb dX3_asSort_1 (by rw [c_1]; decide) (by rw [c_1]; decide) (by rw [c_1]; decide) (by decide) ?_
    refine lv_lload_n hx hb dX3_asSort_36 rfl (lv_at hl 1 rfl) ?_
    refine lv_l2i (v := Int64.toInt32 v_v) hx hb dX3_asSort_37 rfl ?_
    refine lv_i2b (v := (Int64.toInt32 v_v).toInt8.toInt32) hx hb dX3_asSort_38 rfl ?_
    refine lv_i2l (v := Int32.toInt64 ((Int64.toInt32 v_v).toInt8.toInt32)) hx hb dX3_asSort_39 (by rfl) ?_
    exact W.lret (v := Int32.toInt64 ((Int64.toInt32 v_v).toInt8.toInt32)) hx hb hr (fun t ht hW => ⟨Int32.toInt64 ((Int64.toInt32 v_v).toInt8.toInt32), rfl, by unfold fX3_asSort; rw [if_pos c_1], ht⟩) (fun q h => by cases h) dX3_asSort_40
  · by_cases c_2 : v_k = 1
    · refine lv_tableIn (off := 40) (tgt := 41) hx hb dX3_asSort_1 (by rw [c_2]; decide) (by rw [c_2]; decide) (by rw [c_2]; decide) (by decide) ?_
      refine lv_lload_n hx hb dX3_asSort_41 rfl (lv_at hl 1 rfl) ?_
      refine lv_l2i (v := Int64.toInt32 v_v) hx hb dX3_asSort_42 rfl ?_
      refine lv_i2s (v := (Int64.toInt32 v_v).toInt16.toInt32) hx hb dX3_asSort_43 rfl ?_
      refine lv_i2l (v := Int32.toInt64 ((Int64.toInt32 v_v).toInt16.toInt32)) hx hb dX3_asSort_44 (by rfl) ?_
      exact W.lret (v := Int32.toInt64 ((Int64.toInt32 v_v).toInt16.toInt32)) hx hb hr (fun t ht hW => ⟨Int32.toInt64 ((Int64.toInt32 v_v).toInt16.toInt32), rfl, by unfold fX3_asSort; rw [if_neg c_1, if_pos c_2], ht⟩) (fun q h => by cases h) dX3_asSort_45
    · by_cases c_3 : v_k = 2
      · refine lv_tableIn (off := 45) (tgt := 46) hx hb dX3_asSort_1 (by rw [c_3]; decide) (by rw [c_3]; decide) (by rw [c_3]; decide) (by decide) ?_
        refine lv_lload_n hx hb dX3_asSort_46 rfl (lv_at hl 1 rfl) ?_
        refine lv_l2i (v := Int64.toInt32 v_v) hx hb dX3_asSort_47 rfl ?_
        refine lv_i2l (v := Int32.toInt64 (Int64.toInt32 v_v)) hx hb dX3_asSort_48 (by rfl) ?_
        exact W.lret (v := Int32.toInt64 (Int64.toInt32 v_v)) hx hb hr (fun t ht hW => ⟨Int32.toInt64 (Int64.toInt32 v_v), rfl, by unfold fX3_asSort; rw [if_neg c_1, if_neg c_2, if_pos c_3], ht⟩) (fun q h => by cases h) dX3_asSort_49
      · by_cases c_4 : v_k = 3
        · refine lv_tableIn (off := 61) (tgt := 62) hx hb dX3_asSort_1 (by rw [c_4]; decide) (by rw [c_4]; decide) (by rw [c_4]; decide) (by decide) ?_
          refine lv_lload_n hx hb dX3_asSort_62 rfl (lv_at hl 1 rfl) ?_
          exact W.lret (v := v_v) hx hb hr (fun t ht hW => ⟨v_v, rfl, by unfold fX3_asSort; rw [if_neg c_1, if_neg c_2, if_neg c_3, if_pos c_4], ht⟩) (fun q h => by cases h) dX3_asSort_63
        · by_cases c_5 : v_k = 4
          · refine lv_tableIn (off := 49) (tgt := 50) hx hb dX3_asSort_1 (by rw [c_5]; decide) (by rw [c_5]; decide) (by rw [c_5]; decide) (by decide) ?_
            refine lv_lload_n hx hb dX3_asSort_50 rfl (lv_at hl 1 rfl) ?_
            refine lv_lconst (v := 0) hx hb dX3_asSort_51 (by decide) ?_
            refine W.lcmp hx hb dX3_asSort_52 ?_
            refine lv_if_eq (tgt := 60) hx hb dX3_asSort_53 (by decide) (fun (c_6 : (lg_cmp v_v 0) = 0) => ?_) (fun (c_6 : ¬ ((lg_cmp v_v 0) = 0)) => ?_)
            · refine lv_lconst (v := 0) hx hb dX3_asSort_60 (by decide) ?_
              exact W.lret (v := 0) hx hb hr (fun t ht hW => ⟨0, rfl, by unfold fX3_asSort; rw [if_neg c_1, if_neg c_2, if_neg c_3, if_neg c_4, if_pos c_5, if_pos c_6], ht⟩) (fun q h => by cases h) dX3_asSort_61
            · refine lv_lconst (v := 1) hx hb dX3_asSort_56 (by decide) ?_
              refine lv_goto (tgt := 61) hx hb dX3_asSort_57 (by decide) ?_
              exact W.lret (v := 1) hx hb hr (fun t ht hW => ⟨1, rfl, by unfold fX3_asSort; rw [if_neg c_1, if_neg c_2, if_neg c_3, if_neg c_4, if_pos c_5, if_neg c_6], ht⟩) (fun q h => by cases h) dX3_asSort_61
          · refine lv_tableOut (tgt := 62) hx hb dX3_asSort_1 (by have h9 := And.intro (oh_ne c_1 (k := 0) (by decide)) (And.intro (oh_ne c_2 (k := 1) (by decide)) (And.intro (oh_ne c_3 (k := 2) (by decide)) (And.intro (oh_ne c_4 (k := 3) (by decide)) (And.intro (oh_ne c_5 (k := 4) (by decide)) trivial)))); omega) (by decide) ?_
            refine lv_lload_n hx hb dX3_asSort_62 rfl (lv_at hl 1 rfl) ?_
            exact W.lret (v := v_v) hx hb hr (fun t ht hW => ⟨v_v, rfl, by unfold fX3_asSort; rw [if_neg c_1, if_neg c_2, if_neg c_3, if_neg c_4, if_neg c_5], ht⟩) (fun q h => by cases h) dX3_asSort_63
set_option maxHeartbeats 4000000 in
set_option maxRecDepth 100000 in
theorem c_X3_countHeld (l : Launch) (D : va_G) (E : Nat → ClassId) (G : Nat → Nat) (sz : Nat) (a0 : Nat) (a0_held : Nat) (a0_size : Nat) (a0_cells : Nat) (g_held : Nat → Int32) : Met l yX3_countHeld (oh_w yX3_countHeld cX3_countHeld 3 (some .int)) ({ frames := 1, cells := 0, slots := 0, locals := 21 }) (oh_Pm D E G [.ref a0] [(a0, .inr (3, [.ref a0_held, .ref a0_size, .ref a0_cells])), (a0_held, .inl (E 0, 8, .inl g_held))] sz) (va_Qi (fun r (_ : Unit) => True) (oh_B D (va_A [(a0, .inr (3, [.ref a0_held, .ref a0_size, .ref a0_cells])), (a0_held, .inl (E 0, 8, .inl g_held))] sz) (fun _ => [(a0, .inr (3, [.ref a0_held, .ref a0_size, .ref a0_cells])), (a0_held, .inl (E 0, 8, .inl g_held))])) (va_A [(a0, .inr (3, [.ref a0_held, .ref a0_size, .ref a0_cells])), (a0_held, .inl (E 0, 8, .inl g_held))] sz)) 0 0 (va_A [(a0, .inr (3, [.ref a0_held, .ref a0_size, .ref a0_cells])), (a0_held, .inl (E 0, 8, .inl g_held))] sz) := by
  refine Met.ofW (cc := cX3_countHeld) (maxL := 3) (ret := (some .int)) (by decide) rfl ?_
  intro p e s m args below meth c s₁ B hml hv
  obtain ⟨rfl, hsz, hP, hK, hD0, hG⟩ := hv
  have hx := B.exec
  have hb := B.bytes
  have hr := B.returns
  have hts := atoms_spec (ws := (oh_w yX3_countHeld cX3_countHeld 3 (some .int))) B.pre
  have htg : ∀ w ∈ oh_t, w.before _ s = true := fun w h => hts w (List.mem_cons_of_mem _ h)
  have hown : s.vm.findClass RX3 = some m.cls := findClass_of_methodNamed B.named
  have hlocks := B.notSynchronized
  subst hsz
  have hD := hD0.self (sz := s.heap.size)
  generalize hAe : va_A [(a0, .inr (3, [.ref a0_held, .ref a0_size, .ref a0_cells])), (a0_held, .inl (E 0, 8, .inl g_held))] s.heap.size = A at hD hG ⊢
  have hA : ∀ q : Nat, s.heap.size ≤ q → A q := fun q h => by rw [← hAe]; exact Or.inr h
  have hS : va_S A s.heap s.heap [] := va_S.rf
  have hP : va_P D vwCl [(a0, .inr (3, [.ref a0_held, .ref a0_size, .ref a0_cells])), (a0_held, .inl (E 0, 8, .inl g_held))] s.heap := hP
  have hl := lv_entry ([.ref a0]) (n := 3) (Nat.le_of_ble_eq_true rfl)
  rw [lg_entry_eq]
  generalize (lg_sl ([.ref a0]) ++ List.replicate (3 - (lg_sl ([.ref a0])).length) Slot.unset).toArray = ls at hl ⊢
  have hl : lv_has ls 3 [(0, .ref a0)] := hl
  refine lv_iconst (v := 0) hx hb dX3_countHeld_0 (by decide) ?_
  refine lv_istore_n (lv' := [(1, .int 0), (0, .ref a0)]) hx hb dX3_countHeld_1 rfl hl (by decide) rfl (fun ls hl => ?_)
  refine lv_iconst (v := 0) hx hb dX3_countHeld_2 (by decide) ?_
  refine lv_istore_n (lv' := [(2, .int 0), (1, .int 0), (0, .ref a0)]) hx hb dX3_countHeld_3 rfl hl (by decide) rfl (fun ls hl => ?_)
  obtain ⟨H, locs, eH, eL⟩ : ∃ (H : Heap) (locs : List Loc), H = s.heap ∧ locs = [] := ⟨_, _, rfl, rfl⟩
  replace hS : va_S A s.heap H locs := by rw [eH, eL]; exact hS
  rw [← eH] at hP
  rw [← eH, ← eL]
  clear eH eL
  obtain ⟨j, hj0⟩ : ∃ j : Nat, j = 0 := ⟨0, rfl⟩
  obtain ⟨ct, e_ct⟩ : ∃ z : Int32, z = 0 := ⟨_, rfl⟩
  replace hl : lv_has ls 3 [(2, .int (nI j)), (1, .int ct), (0, .ref a0)] := by rw [hj0, nI_0, e_ct]; exact lv_sub hl [0, 1, 2] rfl
  clear e_ct
  have hjN : j ≤ 8 := by omega
  clear hj0
  induction hd_j : 8 - j generalizing j ls H locs ct with
  | zero =>
    have hj : j = 8 := by omega
    rw [hj] at hl
    refine lv_iload_n hx hb dX3_countHeld_4 rfl (lv_at hl 0 rfl) ?_
    refine lv_bipush (v := 8) hx hb dX3_countHeld_5 (by decide) ?_
    refine lv_icmp_ge (tgt := 27) hx hb dX3_countHeld_7 (by decide) (fun _ => ?_) (fun c => absurd (show 8 ≤ (nI 8) from show nI 8 ≤ nI 8 from nI_le (Nat.le_refl _) (by decide)) c)
    refine lv_iload_n hx hb dX3_countHeld_27 rfl (lv_at hl 1 rfl) ?_
    refine W.widen (k := 0) (n := 0) (Nat.le_of_ble_eq_true rfl) (Nat.le_of_ble_eq_true rfl) ?_
    exact W.iret (v := ct) hx hb hr (fun t ht hW => ⟨⟨ct, (), rfl, trivial, ⟨by rw [ht]; exact hP.sub [0, 1] rfl, hD.sub [0, 1] (by decide) rfl⟩⟩, hS.F ht⟩) hS.2.2 dX3_countHeld_28
  | succ d_j ih_j =>
    have hj : j < 8 := by omega
    refine lv_iload_n hx hb dX3_countHeld_4 rfl (lv_at hl 0 rfl) ?_
    refine lv_bipush (v := 8) hx hb dX3_countHeld_5 (by decide) ?_
    refine lv_icmp_ge (tgt := 27) hx hb dX3_countHeld_7 (by decide) (fun c => absurd c (show ¬ (8 ≤ (nI j)) from show ¬ nI 8 ≤ nI j from nI_ge hj (by decide))) (fun _ => ?_)
    refine lv_aload_n hx hb dX3_countHeld_10 rfl (lv_at hl 2 rfl) ?_
    refine lv_iload_n hx hb dX3_countHeld_11 rfl (lv_at hl 0 rfl) ?_
    refine oh_pV (As := [.int (nI j)]) (rest := []) (v := fX3_holdsNothing (nI j) g_held) ⟨hx, hb, hml, hown, htg⟩ (c_X3_holdsNothing l D E G a0 (nI j) a0_held a0_size a0_cells g_held (vp_in_nI (Nat.lt_of_lt_of_le hj (by omega)) (by decide))) (cwV 1 htg (oh_gV q_339 q_317 q_318 q_70 q_319) rfl rfl rfl pdVX3_holdsNothing ⟨Nat.le_of_ble_eq_true rfl, Nat.le_of_ble_eq_true rfl⟩) hK (hP.sub (ws' := [(a0, .inr (3, [.ref a0_held, .ref a0_size, .ref a0_cells])), (a0_held, .inl (E 0, 8, .inl g_held))]) [0, 1] rfl) hG hS (va_recv hK hP (ci := 3) (q0 := 0) rfl rfl) rfl hl.1 rfl (Nat.le_of_ble_eq_true rfl) dX3_countHeld_12 ⟨Nat.le_of_ble_eq_true rfl, Nat.le_of_ble_eq_true rfl⟩ ?_
    refine lv_if_ne (tgt := 21) hx hb dX3_countHeld_15 (by decide) (fun (c_1 : ¬ ((fX3_holdsNothing (nI j) g_held) = 0)) => ?_) (fun (c_1 : (fX3_holdsNothing (nI j) g_held) = 0) => ?_)
    · refine lv_iinc (v := nI (j + 1)) (lv' := [(2, .int (nI (j + 1))), (1, .int ct), (0, .ref a0)]) hx hb dX3_countHeld_21 hl (k := 0) rfl (by exact nI_1 j) (by decide) rfl (fun ls hl => ?_)
      refine lv_goto (tgt := 4) hx hb dX3_countHeld_24 (by decide) ?_
      replace hl : lv_has ls 3 [(2, .int (nI (j + 1))), (1, .int ct), (0, .ref a0)] := by exact lv_sub hl [0, 1, 2] rfl
      apply ih_j (j := j + 1) <;> first | assumption | omega
    · refine lv_iinc (v := ct + 1) (lv' := [(1, .int (ct + 1)), (2, .int (nI j)), (0, .ref a0)]) hx hb dX3_countHeld_18 hl (k := 1) rfl (by rfl) (by decide) rfl (fun ls hl => ?_)
      refine lv_iinc (v := nI (j + 1)) (lv' := [(2, .int (nI (j + 1))), (1, .int (ct + 1)), (0, .ref a0)]) hx hb dX3_countHeld_21 hl (k := 1) rfl (by exact nI_1 j) (by decide) rfl (fun ls hl => ?_)
      refine lv_goto (tgt := 4) hx hb dX3_countHeld_24 (by decide) ?_
      replace hl : lv_has ls 3 [(2, .int (nI (j + 1))), (1, .int (ct + 1)), (0, .ref a0)] := by exact lv_sub hl [0, 1, 2] rfl
      apply ih_j (j := j + 1) <;> first | assumption | omega
