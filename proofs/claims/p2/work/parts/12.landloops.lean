set_option maxHeartbeats 4000000 in
set_option maxRecDepth 100000 in
theorem c_X0_countBridges (l : Launch) (D : va_G) (E : Nat → ClassId) (G : Nat → Nat) (a0 : Nat) (v_c : Int32) (nB : Nat) (a0_counts : Nat) (a0_roads : Nat) (a0_bridges : Nat) (a0_waggons : Nat) (a0_parts : Nat) (a0_settings : Nat) (a0_trip : Nat) (v_ow : Int32) (fc : Nat → Int32) (fb : Nat → Int32) (hB : nB ≤ 16) (hc : fc 1 = nI nB) (h0 : vp_in v_c 10) : Met l yX0_countBridges (oh_w yX0_countBridges cX0_countBridges 4 (some .int)) ({ frames := 1, cells := 0, slots := 0, locals := 22 }) (oh_Pp D E G [.ref a0, .int v_c] [(a0, .inr (0, [.ref a0_counts, .ref a0_roads, .ref a0_bridges, .ref a0_waggons, .ref a0_parts, .ref a0_settings, .ref a0_trip, .int v_ow])), (a0_counts, .inl (E 0, 4, .inl fc)), (a0_bridges, .inl (E 0, 160, .inl fb))]) (vp_Si (fun r => r = bx_sum (fun i => fb ((nI i * 10) + v_c).toNatClampNeg) nB)) 0 0 (fun _ => False) := by
  refine Met.ofW (cc := cX0_countBridges) (maxL := 4) (ret := (some .int)) (by decide) rfl ?_
  intro p e s m args below meth c s₁ B hml hv
  obtain ⟨rfl, hP, hK, hG⟩ := hv
  have hx := B.exec
  have hb := B.bytes
  have hr := B.returns
  have hts := atoms_spec (ws := (oh_w yX0_countBridges cX0_countBridges 4 (some .int))) B.pre
  have htg : ∀ w ∈ oh_t, w.before _ s = true := fun w h => hts w (List.mem_cons_of_mem _ h)
  have hown : s.vm.findClass RX0 = some m.cls := findClass_of_methodNamed B.named
  have hlocks := B.notSynchronized
  have hS : va_S (fun _ => False) s.heap s.heap [] := va_S.rf
  have hl := lv_entry ([.ref a0, .int v_c]) (n := 4) (Nat.le_of_ble_eq_true rfl)
  rw [lg_entry_eq]
  generalize (lg_sl ([.ref a0, .int v_c]) ++ List.replicate (4 - (lg_sl ([.ref a0, .int v_c])).length) Slot.unset).toArray = ls at hl ⊢
  have hl : lv_has ls 4 [(0, .ref a0), (1, .int v_c)] := hl
  refine lv_iconst (v := 0) hx hb dX0_countBridges_0 (by decide) ?_
  refine lv_istore_n (lv' := [(2, .int 0), (0, .ref a0), (1, .int v_c)]) hx hb dX0_countBridges_1 rfl hl (by decide) rfl (fun ls hl => ?_)
  refine lv_iconst (v := 0) hx hb dX0_countBridges_2 (by decide) ?_
  refine lv_istore_n (lv' := [(3, .int 0), (2, .int 0), (0, .ref a0), (1, .int v_c)]) hx hb dX0_countBridges_3 rfl hl (by decide) rfl (fun ls hl => ?_)
  obtain ⟨j, hj0⟩ : ∃ j : Nat, j = 0 := ⟨0, rfl⟩
  replace hl : lv_has ls 4 [(3, .int (nI j)), (2, .int (bx_sum (fun i => fb ((nI i * 10) + v_c).toNatClampNeg) j)), (0, .ref a0), (1, .int v_c)] := by rw [hj0, nI_0]; exact lv_sub hl [0, 1, 2, 3] rfl
  have hjN : j ≤ nB := by omega
  clear hj0
  induction hd : nB - j generalizing j ls with
  | zero =>
    have hj : j = nB := by omega
    rw [hj] at hl
    refine lv_iload_n hx hb dX0_countBridges_4 rfl (lv_at hl 0 rfl) ?_
    refine lv_aload_n hx hb dX0_countBridges_5 rfl (lv_at hl 2 rfl) ?_
    refine va_get (D := D) (ci := 0) (v := .ref a0_counts) (C := RX0) (T := TX0) (N := 8) hx hb htg ig_0 hown hK hP 0 rfl rfl 0 (by decide) (htg _ q_97) (fun _ h9 => h9) rfl dX0_countBridges_6 ?_
    refine lv_iconst (v := 1) hx hb dX0_countBridges_9 (by decide) ?_
    refine va_iald hx hb hK hP 1 0 rfl rfl (show vp_in 1 4 by unfold vp_in; decide) dX0_countBridges_10 ?_
    refine lv_icmp_ge (tgt := 29) hx hb dX0_countBridges_11 (by decide) (fun _ => ?_) (fun c => absurd (show (fc 1) ≤ (nI nB) from by rw [hc]; exact nI_le (Nat.le_refl _) (by omega)) c)
    refine lv_iload_n hx hb dX0_countBridges_29 rfl (lv_at hl 1 rfl) ?_
    exact W.iret (v := bx_sum (fun i => fb ((nI i * 10) + v_c).toNatClampNeg) nB) hx hb hr (fun t ht hW => ⟨bx_sum (fun i => fb ((nI i * 10) + v_c).toNatClampNeg) nB, rfl, rfl, ht⟩) (fun q h => by cases h) dX0_countBridges_30
  | succ d ih =>
    have hj : j < nB := by omega
    refine lv_iload_n hx hb dX0_countBridges_4 rfl (lv_at hl 0 rfl) ?_
    refine lv_aload_n hx hb dX0_countBridges_5 rfl (lv_at hl 2 rfl) ?_
    refine va_get (D := D) (ci := 0) (v := .ref a0_counts) (C := RX0) (T := TX0) (N := 8) hx hb htg ig_0 hown hK hP 0 rfl rfl 0 (by decide) (htg _ q_97) (fun _ h9 => h9) rfl dX0_countBridges_6 ?_
    refine lv_iconst (v := 1) hx hb dX0_countBridges_9 (by decide) ?_
    refine va_iald hx hb hK hP 1 0 rfl rfl (show vp_in 1 4 by unfold vp_in; decide) dX0_countBridges_10 ?_
    refine lv_icmp_ge (tgt := 29) hx hb dX0_countBridges_11 (by decide) (fun c => absurd c (show ¬ ((fc 1) ≤ (nI j)) from by rw [hc]; exact nI_ge hj (by omega))) (fun _ => ?_)
    refine lv_iload_n hx hb dX0_countBridges_14 rfl (lv_at hl 1 rfl) ?_
    refine lv_aload_n hx hb dX0_countBridges_15 rfl (lv_at hl 2 rfl) ?_
    refine lv_iload_n hx hb dX0_countBridges_16 rfl (lv_at hl 0 rfl) ?_
    refine lv_iload_n hx hb dX0_countBridges_17 rfl (lv_at hl 3 rfl) ?_
    refine oh_pV (As := [.int (nI j), .int v_c]) (rest := [.int (bx_sum (fun i => fb ((nI i * 10) + v_c).toNatClampNeg) j)]) (v := fb (((nI j) * 10) + v_c).toNatClampNeg) ⟨hx, hb, hml, hown, htg⟩ (c_X0_ofBridge l D E G a0 (nI j) v_c a0_counts a0_roads a0_bridges a0_waggons a0_parts a0_settings a0_trip v_ow fb (vp_in_nI (Nat.lt_of_lt_of_le hj (by omega)) (by decide)) h0) (cwV 2 htg (oh_gV q_384 q_385 q_386 q_67 q_387) rfl rfl rfl pdVX0_ofBridge ⟨Nat.le_of_ble_eq_true rfl, Nat.le_of_ble_eq_true rfl⟩) hK (hP.sub (ws' := [(a0, .inr (0, [.ref a0_counts, .ref a0_roads, .ref a0_bridges, .ref a0_waggons, .ref a0_parts, .ref a0_settings, .ref a0_trip, .int v_ow])), (a0_bridges, .inl (E 0, 160, .inl fb))]) [0, 2] rfl) hG hS (va_recv hK hP (ci := 0) (q0 := 0) rfl rfl) rfl hl.1 rfl (Nat.le_of_ble_eq_true rfl) dX0_countBridges_18 ⟨Nat.le_of_ble_eq_true rfl, Nat.le_of_ble_eq_true rfl⟩ ?_
    refine lv_iadd hx hb dX0_countBridges_21 ?_
    refine lv_istore_n (lv' := [(2, .int ((bx_sum (fun i => fb ((nI i * 10) + v_c).toNatClampNeg) j) + (fb (((nI j) * 10) + v_c).toNatClampNeg))), (3, .int (nI j)), (0, .ref a0), (1, .int v_c)]) hx hb dX0_countBridges_22 rfl hl (by decide) rfl (fun ls hl => ?_)
    refine lv_iinc (v := nI (j + 1)) (lv' := [(3, .int (nI (j + 1))), (2, .int ((bx_sum (fun i => fb ((nI i * 10) + v_c).toNatClampNeg) j) + (fb (((nI j) * 10) + v_c).toNatClampNeg))), (0, .ref a0), (1, .int v_c)]) hx hb dX0_countBridges_23 hl (k := 1) rfl (by exact nI_1 j) (by decide) rfl (fun ls hl => ?_)
    refine lv_goto (tgt := 4) hx hb dX0_countBridges_26 (by decide) ?_
    have hl : lv_has ls 4 [(3, .int (nI (j + 1))), (2, .int (bx_sum (fun i => fb ((nI i * 10) + v_c).toNatClampNeg) (j + 1))), (0, .ref a0), (1, .int v_c)] := by exact lv_sub hl [0, 1, 2, 3] rfl
    apply ih (j := j + 1) <;> first | assumption | omega
def oh_psum (fp : Nat → Int32) (s c : Int32) : Nat → Int32
  | 0 => 0
  | n + 1 => if (s >>> (nI n &&& 31)) &&& 1 = 1 then oh_psum fp s c n + fp ((nI n * 2) + c).toNatClampNeg else oh_psum fp s c n
set_option maxHeartbeats 4000000 in
set_option maxRecDepth 100000 in
theorem c_X0_sumOfParts (l : Launch) (D : va_G) (E : Nat → ClassId) (G : Nat → Nat) (a0 : Nat) (v_s : Int32) (v_c : Int32) (nP : Nat) (a0_counts : Nat) (a0_roads : Nat) (a0_bridges : Nat) (a0_waggons : Nat) (a0_parts : Nat) (a0_settings : Nat) (a0_trip : Nat) (v_ow : Int32) (fc : Nat → Int32) (fp : Nat → Int32) (hP5 : nP ≤ 5) (hc : fc 3 = nI nP) (h0 : vp_in v_c 2) : Met l yX0_sumOfParts (oh_w yX0_sumOfParts cX0_sumOfParts 5 (some .int)) ({ frames := 0, cells := 0, slots := 0, locals := 0 }) (oh_Pp D E G [.ref a0, .int v_s, .int v_c] [(a0, .inr (0, [.ref a0_counts, .ref a0_roads, .ref a0_bridges, .ref a0_waggons, .ref a0_parts, .ref a0_settings, .ref a0_trip, .int v_ow])), (a0_counts, .inl (E 0, 4, .inl fc)), (a0_parts, .inl (E 0, 10, .inl fp))]) (vp_Si (fun r => r = oh_psum fp v_s v_c nP)) 0 0 (fun _ => False) := by
  refine Met.ofW (cc := cX0_sumOfParts) (maxL := 5) (ret := (some .int)) (by decide) rfl ?_
  intro p e s m args below meth c s₁ B hml hv
  obtain ⟨rfl, hP, hK, hG⟩ := hv
  have hx := B.exec
  have hb := B.bytes
  have hr := B.returns
  have hts := atoms_spec (ws := (oh_w yX0_sumOfParts cX0_sumOfParts 5 (some .int))) B.pre
  have htg : ∀ w ∈ oh_t, w.before _ s = true := fun w h => hts w (List.mem_cons_of_mem _ h)
  have hown : s.vm.findClass RX0 = some m.cls := findClass_of_methodNamed B.named
  have hlocks := B.notSynchronized
  have hS : va_S (fun _ => False) s.heap s.heap [] := va_S.rf
  have hl := lv_entry ([.ref a0, .int v_s, .int v_c]) (n := 5) (Nat.le_of_ble_eq_true rfl)
  rw [lg_entry_eq]
  generalize (lg_sl ([.ref a0, .int v_s, .int v_c]) ++ List.replicate (5 - (lg_sl ([.ref a0, .int v_s, .int v_c])).length) Slot.unset).toArray = ls at hl ⊢
  have hl : lv_has ls 5 [(0, .ref a0), (1, .int v_s), (2, .int v_c)] := hl
  refine lv_iconst (v := 0) hx hb dX0_sumOfParts_0 (by decide) ?_
  refine lv_istore_n (lv' := [(3, .int 0), (0, .ref a0), (1, .int v_s), (2, .int v_c)]) hx hb dX0_sumOfParts_1 rfl hl (by decide) rfl (fun ls hl => ?_)
  refine lv_iconst (v := 0) hx hb dX0_sumOfParts_2 (by decide) ?_
  refine lv_istore (lv' := [(4, .int 0), (3, .int 0), (0, .ref a0), (1, .int v_s), (2, .int v_c)]) hx hb dX0_sumOfParts_3 hl (by decide) rfl (fun ls hl => ?_)
  obtain ⟨j, hj0⟩ : ∃ j : Nat, j = 0 := ⟨0, rfl⟩
  replace hl : lv_has ls 5 [(4, .int (nI j)), (3, .int (oh_psum fp v_s v_c j)), (0, .ref a0), (1, .int v_s), (2, .int v_c)] := by rw [hj0, nI_0]; exact lv_sub hl [0, 1, 2, 3, 4] rfl
  have hjN : j ≤ nP := by omega
  clear hj0
  induction hd : nP - j generalizing j ls with
  | zero =>
    have hj : j = nP := by omega
    rw [hj] at hl
    refine lv_iload hx hb dX0_sumOfParts_5 (lv_at hl 0 rfl) ?_
    refine lv_aload_n hx hb dX0_sumOfParts_7 rfl (lv_at hl 2 rfl) ?_
    refine va_get (D := D) (ci := 0) (v := .ref a0_counts) (C := RX0) (T := TX0) (N := 8) hx hb htg ig_0 hown hK hP 0 rfl rfl 0 (by decide) (htg _ q_97) (fun _ h9 => h9) rfl dX0_sumOfParts_8 ?_
    refine lv_iconst (v := 3) hx hb dX0_sumOfParts_11 (by decide) ?_
    refine va_iald hx hb hK hP 1 0 rfl rfl (show vp_in 3 4 by unfold vp_in; decide) dX0_sumOfParts_12 ?_
    refine lv_icmp_ge (tgt := 46) hx hb dX0_sumOfParts_13 (by decide) (fun _ => ?_) (fun c => absurd (show (fc 3) ≤ (nI nP) from by rw [hc]; exact nI_le (Nat.le_refl _) (by omega)) c)
    refine lv_iload_n hx hb dX0_sumOfParts_46 rfl (lv_at hl 1 rfl) ?_
    exact W.iret (v := oh_psum fp v_s v_c nP) hx hb hr (fun t ht hW => ⟨oh_psum fp v_s v_c nP, rfl, rfl, ht⟩) (fun q h => by cases h) dX0_sumOfParts_47
  | succ d ih =>
    have hj : j < nP := by omega
    refine lv_iload hx hb dX0_sumOfParts_5 (lv_at hl 0 rfl) ?_
    refine lv_aload_n hx hb dX0_sumOfParts_7 rfl (lv_at hl 2 rfl) ?_
    refine va_get (D := D) (ci := 0) (v := .ref a0_counts) (C := RX0) (T := TX0) (N := 8) hx hb htg ig_0 hown hK hP 0 rfl rfl 0 (by decide) (htg _ q_97) (fun _ h9 => h9) rfl dX0_sumOfParts_8 ?_
    refine lv_iconst (v := 3) hx hb dX0_sumOfParts_11 (by decide) ?_
    refine va_iald hx hb hK hP 1 0 rfl rfl (show vp_in 3 4 by unfold vp_in; decide) dX0_sumOfParts_12 ?_
    refine lv_icmp_ge (tgt := 46) hx hb dX0_sumOfParts_13 (by decide) (fun c => absurd c (show ¬ ((fc 3) ≤ (nI j)) from by rw [hc]; exact nI_ge hj (by omega))) (fun _ => ?_)
    refine lv_iload_n hx hb dX0_sumOfParts_16 rfl (lv_at hl 3 rfl) ?_
    refine lv_iload hx hb dX0_sumOfParts_17 (lv_at hl 0 rfl) ?_
    refine lv_ishr hx hb dX0_sumOfParts_19 ?_
    refine lv_iconst (v := 1) hx hb dX0_sumOfParts_20 (by decide) ?_
    refine lv_iand hx hb dX0_sumOfParts_21 ?_
    refine lv_iconst (v := 1) hx hb dX0_sumOfParts_22 (by decide) ?_
    refine lv_icmp_ne (tgt := 40) hx hb dX0_sumOfParts_23 (by decide) (fun (c_1 : ¬ (((v_s >>> ((nI j) &&& 31)) &&& 1) = 1)) => ?_) (fun (c_1 : ((v_s >>> ((nI j) &&& 31)) &&& 1) = 1) => ?_)
    · refine lv_iinc (v := nI (j + 1)) (lv' := [(4, .int (nI (j + 1))), (3, .int (oh_psum fp v_s v_c j)), (0, .ref a0), (1, .int v_s), (2, .int v_c)]) hx hb dX0_sumOfParts_40 hl (k := 0) rfl (by exact nI_1 j) (by decide) rfl (fun ls hl => ?_)
      refine lv_goto (tgt := 5) hx hb dX0_sumOfParts_43 (by decide) ?_
      have e_3 : oh_psum fp v_s v_c (j + 1) = oh_psum fp v_s v_c j := if_neg c_1
      have hl : lv_has ls 5 [(4, .int (nI (j + 1))), (3, .int (oh_psum fp v_s v_c (j + 1))), (0, .ref a0), (1, .int v_s), (2, .int v_c)] := by rw [e_3]; exact lv_sub hl [0, 1, 2, 3, 4] rfl
      apply ih (j := j + 1) <;> first | assumption | omega
    · refine lv_iload_n hx hb dX0_sumOfParts_26 rfl (lv_at hl 1 rfl) ?_
      refine lv_aload_n hx hb dX0_sumOfParts_27 rfl (lv_at hl 2 rfl) ?_
      refine va_get (D := D) (ci := 0) (v := .ref a0_parts) (C := RX0) (T := TX0) (N := 8) hx hb htg ig_0 hown hK hP 0 rfl rfl 4 (by decide) (htg _ q_105) (fun _ h9 => h9) rfl dX0_sumOfParts_28 ?_
      refine lv_iload hx hb dX0_sumOfParts_31 (lv_at hl 0 rfl) ?_
      refine lv_iconst (v := 2) hx hb dX0_sumOfParts_33 (by decide) ?_
      refine lv_imul hx hb dX0_sumOfParts_34 ?_
      refine lv_iload_n hx hb dX0_sumOfParts_35 rfl (lv_at hl 4 rfl) ?_
      refine lv_iadd hx hb dX0_sumOfParts_36 ?_
      refine va_iald hx hb hK hP 2 0 rfl rfl (oh_sh (K := 2) (N := 5) (vp_in_nI (Nat.lt_of_lt_of_le hj (by omega)) (by decide)) h0 rfl (by decide) (by decide)) dX0_sumOfParts_37 ?_
      refine lv_iadd hx hb dX0_sumOfParts_38 ?_
      refine lv_istore_n (lv' := [(3, .int ((oh_psum fp v_s v_c j) + (fp (((nI j) * 2) + v_c).toNatClampNeg))), (4, .int (nI j)), (0, .ref a0), (1, .int v_s), (2, .int v_c)]) hx hb dX0_sumOfParts_39 rfl hl (by decide) rfl (fun ls hl => ?_)
      refine lv_iinc (v := nI (j + 1)) (lv' := [(4, .int (nI (j + 1))), (3, .int ((oh_psum fp v_s v_c j) + (fp (((nI j) * 2) + v_c).toNatClampNeg))), (0, .ref a0), (1, .int v_s), (2, .int v_c)]) hx hb dX0_sumOfParts_40 hl (k := 1) rfl (by exact nI_1 j) (by decide) rfl (fun ls hl => ?_)
      refine lv_goto (tgt := 5) hx hb dX0_sumOfParts_43 (by decide) ?_
      have e_3 : oh_psum fp v_s v_c (j + 1) = (oh_psum fp v_s v_c j) + (fp (((nI j) * 2) + v_c).toNatClampNeg) := if_pos c_1
      have hl : lv_has ls 5 [(4, .int (nI (j + 1))), (3, .int (oh_psum fp v_s v_c (j + 1))), (0, .ref a0), (1, .int v_s), (2, .int v_c)] := by rw [e_3]; exact lv_sub hl [0, 1, 2, 3, 4] rfl
      apply ih (j := j + 1) <;> first | assumption | omega
def fX0_mayBeTakenFor (v_b : Int32) (v_k : Int32) (fb : Nat → Int32) : Int32 :=
  if (((oh_tak (fb ((v_b * 10) + 1).toNatClampNeg).toNatClampNeg) >>> (v_k &&& 31)) &&& 1) = 1 then 1 else 0
theorem fX0_mayBeTakenFor_b (v_b : Int32) (v_k : Int32) (fb : Nat → Int32) : fX0_mayBeTakenFor v_b v_k fb = 0 ∨ fX0_mayBeTakenFor v_b v_k fb = 1 := by
  unfold fX0_mayBeTakenFor
  repeat' split
  all_goals first | exact Or.inl rfl | exact Or.inr rfl
set_option maxHeartbeats 4000000 in
set_option maxRecDepth 100000 in
theorem c_X0_mayBeTakenFor (l : Launch) (D : va_G) (E : Nat → ClassId) (G : Nat → Nat) (a0 : Nat) (v_b : Int32) (v_k : Int32) (a0_counts : Nat) (a0_roads : Nat) (a0_bridges : Nat) (a0_waggons : Nat) (a0_parts : Nat) (a0_settings : Nat) (a0_trip : Nat) (v_ow : Int32) (fb : Nat → Int32) (h0 : vp_in v_b 16) (h1 : vp_in (fb ((v_b * 10) + 1).toNatClampNeg) 6) : Met l yX0_mayBeTakenFor (oh_w yX0_mayBeTakenFor cX0_mayBeTakenFor 3 (some .boolean)) ({ frames := 1, cells := 0, slots := 0, locals := 22 }) (oh_Pp D E G [.ref a0, .int v_b, .int v_k] [(a0, .inr (0, [.ref a0_counts, .ref a0_roads, .ref a0_bridges, .ref a0_waggons, .ref a0_parts, .ref a0_settings, .ref a0_trip, .int v_ow])), (a0_bridges, .inl (E 0, 160, .inl fb))]) (vp_Si (fun r => r = fX0_mayBeTakenFor v_b v_k fb)) 0 0 (fun _ => False) := by
  refine Met.ofW (cc := cX0_mayBeTakenFor) (maxL := 3) (ret := (some .boolean)) (by decide) rfl ?_
  intro p e s m args below meth c s₁ B hml hv
  obtain ⟨rfl, hP, hK, hG⟩ := hv
  have hx := B.exec
  have hb := B.bytes
  have hr := B.returns
  have hts := atoms_spec (ws := (oh_w yX0_mayBeTakenFor cX0_mayBeTakenFor 3 (some .boolean))) B.pre
  have htg : ∀ w ∈ oh_t, w.before _ s = true := fun w h => hts w (List.mem_cons_of_mem _ h)
  have hown : s.vm.findClass RX0 = some m.cls := findClass_of_methodNamed B.named
  have hlocks := B.notSynchronized
  have hS : va_S (fun _ => False) s.heap s.heap [] := va_S.rf
  have hl := lv_entry ([.ref a0, .int v_b, .int v_k]) (n := 3) (Nat.le_of_ble_eq_true rfl)
  rw [lg_entry_eq]
  generalize (lg_sl ([.ref a0, .int v_b, .int v_k]) ++ List.replicate (3 - (lg_sl ([.ref a0, .int v_b, .int v_k])).length) Slot.unset).toArray = ls at hl ⊢
  have hl : lv_has ls 3 [(0, .ref a0), (1, .int v_b), (2, .int v_k)] := hl
  refine va_getsN hx hb hG.2.2.2.2.2.1.1 hS hown (va_Nw.use rfl (hG.2.1 ("OneHeavyLoad$Land", 57, "OneHeavyLoad", "TAKEN_FOR", "[I", "OneHeavyLoad") (List.mem_of_getElem? (i := 3) rfl))) (fun _ h9 => h9) dX0_mayBeTakenFor_0 ?_
  refine lv_aload_n hx hb dX0_mayBeTakenFor_3 rfl (lv_at hl 0 rfl) ?_
  refine lv_iload_n hx hb dX0_mayBeTakenFor_4 rfl (lv_at hl 1 rfl) ?_
  refine lv_iconst (v := 1) hx hb dX0_mayBeTakenFor_5 (by decide) ?_
  refine oh_pV (As := [.int v_b, .int 1]) (rest := [.ref (G 2)]) (v := fb ((v_b * 10) + 1).toNatClampNeg) ⟨hx, hb, hml, hown, htg⟩ (c_X0_ofBridge l D E G a0 v_b 1 a0_counts a0_roads a0_bridges a0_waggons a0_parts a0_settings a0_trip v_ow fb h0 (show vp_in 1 10 by unfold vp_in; decide)) (cwV 2 htg (oh_gV q_384 q_385 q_386 q_67 q_387) rfl rfl rfl pdVX0_ofBridge ⟨Nat.le_of_ble_eq_true rfl, Nat.le_of_ble_eq_true rfl⟩) hK (hP.sub (ws' := [(a0, .inr (0, [.ref a0_counts, .ref a0_roads, .ref a0_bridges, .ref a0_waggons, .ref a0_parts, .ref a0_settings, .ref a0_trip, .int v_ow])), (a0_bridges, .inl (E 0, 160, .inl fb))]) [0, 1] rfl) hG hS (va_recv hK hP (ci := 0) (q0 := 0) rfl rfl) rfl hl.1 rfl (Nat.le_of_ble_eq_true rfl) dX0_mayBeTakenFor_6 ⟨Nat.le_of_ble_eq_true rfl, Nat.le_of_ble_eq_true rfl⟩ ?_
  refine va_ti (v := .int (oh_tak (fb ((v_b * 10) + 1).toNatClampNeg).toNatClampNeg)) hx hb hG.2.2.2.2.2.1.2 hS h1 rfl dX0_mayBeTakenFor_9 ?_
  refine lv_iload_n hx hb dX0_mayBeTakenFor_10 rfl (lv_at hl 2 rfl) ?_
  refine lv_ishr hx hb dX0_mayBeTakenFor_11 ?_
  refine lv_iconst (v := 1) hx hb dX0_mayBeTakenFor_12 (by decide) ?_
  refine lv_iand hx hb dX0_mayBeTakenFor_13 ?_
  refine lv_iconst (v := 1) hx hb dX0_mayBeTakenFor_14 (by decide) ?_
  refine lv_icmp_ne (tgt := 22) hx hb dX0_mayBeTakenFor_15 (by decide) (fun (c_1 : ¬ ((((oh_tak (fb ((v_b * 10) + 1).toNatClampNeg).toNatClampNeg) >>> (v_k &&& 31)) &&& 1) = 1)) => ?_) (fun (c_1 : (((oh_tak (fb ((v_b * 10) + 1).toNatClampNeg).toNatClampNeg) >>> (v_k &&& 31)) &&& 1) = 1) => ?_)
  · refine lv_iconst (v := 0) hx hb dX0_mayBeTakenFor_22 (by decide) ?_
    exact W.zret (v := 0) (ty := .boolean) hx hb hr (by decide) (fun t ht hW => ⟨0, rfl, by unfold fX0_mayBeTakenFor; rw [if_neg c_1], ht⟩) (fun q h => by cases h) dX0_mayBeTakenFor_23
  · refine lv_iconst (v := 1) hx hb dX0_mayBeTakenFor_18 (by decide) ?_
    refine lv_goto (tgt := 23) hx hb dX0_mayBeTakenFor_19 (by decide) ?_
    exact W.zret (v := 1) (ty := .boolean) hx hb hr (by decide) (fun t ht hW => ⟨1, rfl, by unfold fX0_mayBeTakenFor; rw [if_pos c_1], ht⟩) (fun q h => by cases h) dX0_mayBeTakenFor_23
