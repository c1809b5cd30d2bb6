set_option maxHeartbeats 4000000 in
set_option maxRecDepth 100000 in
theorem c_X0_countBridges (l : Launch) (D : va_G) (E : Nat → ClassId) (G : Nat → Nat) (a0 : Nat) (v_c : Int32) (nB : Nat) (a0_counts : Nat) (a0_roads : Nat) (a0_bridges : Nat) (a0_waggons : Nat) (a0_parts : Nat) (a0_settings : Nat) (a0_trip : Nat) (v_ow : Int32) (fc : Nat → Int32) (fb : Nat → Int32) (hB : nB ≤ 16) (hc : fc 1 = nI nB) (h0 : vp_in v_c 10) : Met l yX0_countBridges (oh_w yX0_countBridges cX0_countBridges 4 (some .int)) ({ frames := 1, cells := 0, slots := 0, locals := 22 }) (oh_Pp D E G [.ref a0, .int v_c] [(a0, .inr (0, [.ref a0_counts, .ref a0_roads, .ref a0_bridges, .ref a0_waggons, .ref a0_parts, .ref a0_settings, .ref a0_trip, .int v_ow])), (a0_counts, .inl (E 0, 4, .inl fc)), (a0_bridges, .inl (E 0, 160, .inl fb))]) (vp_Si (fun r => r = bx_sum (fun i => fb ((nI i * 10) + v_c).toNatClampNeg) nB)) 0 0 (fun _ => False) := by
  refine Met.ofW (cc := cX0_countBridges) (maxL := 4) (ret := (some .int)) (by decide) rfl ?_
  intro p e s m args below meth c s₁ B hml hv
  obtain ⟨rfl, hP, hK, hG⟩ := hv
  have hx := B.exec
  have hb := B.bytes
  have hr := B.returns
  have hts := atoms_spec (ws := (oh_w yX0_countBridges cX0_countBridges 4 (some .int))) B.pre
  have htg : ∀ w ∈ oh_t, w.before _ s = true := fun w h => hts w (List.mem_cons_of_mem _ h)
  have hown : s.vm.findClass RX0 = some m.cls := findClass_of_methodNamed B.named
  have hlocks := B.notSynchronized
  have hS : va_S (fun _ => False) s.heap s.heap [] := va_S.rf
  have hl := lv_entry ([.ref a0, .int v_c]) (n := 4) (Nat.le_of_ble_eq_true rfl)
  rw [lg_entry_eq]
  generalize (lg_sl ([.ref a0, .int v_c]) ++ List.replicate (4 - (lg_sl ([.ref a0, .int v_c])).length) Slot.unset).toArray = ls at hl ⊢
  have hl : lv_has ls 4 [(0, .ref a0), (1, .int v_c)] := hl
  refine lv_iconst (v := 0) hx hb dX0_countBridges_0 (by decide) ?_
  refine lv_istore_n (lv' := [(2, .int 0), (0, .ref a0), (1, .int v_c)]) hx hb dX0_countBridges_1 rfl hl (by decide) rfl (fun ls hl => ?_)
  refine lv_iconst (v := 0) hx hb dX0_countBridges_2 (by decide) ?_
  refine lv_istore_n (lv' := [(3, .int 0), (2, .int 0), (0, .ref a0), (1, .int v_c)]) hx hb dX0_countBridges_3 rfl hl (by decide) rfl (fun ls hl => ?_)
  obtain ⟨j, hj0⟩ : ∃ j : Nat, j = 0 := ⟨0, rfl⟩
  replace hl : lv_has ls 4 [(3, .int (nI j)), (2, .int (bx_sum (fun i => fb ((nI i * 10) + v_c).toNatClampNeg) j)), (0, .ref a0), (1, .int v_c)] := by rw [hj0, nI_0]; exact lv_sub hl [0, 1, 2, 3] rfl
  have hjN : j ≤ nB := by omega
  clear hj0
  induction hd : nB - j generalizing j ls with
  | zero =>
    have hj : j = nB := by omega
    rw [hj] at hl
    refine lv_iload_n hx hb dX0_countBridges_4 rfl (lv_at hl 0 rfl) ?_
    refine lv_aload_n hx hb dX0_countBridges_5 rfl (lv_at hl 2 rfl) ?_
    refine va_get (D := D) (ci := 0) (v := .ref a0_counts) (C := RX0) (T := TX0) (N := 8) hx hb htg ig_0 hown hK hP 0 rfl rfl 0 (by decide) (htg _ q_97) (fun _ h9 => h9) rfl dX0_countBridges_6 ?_
    refine lv_iconst (v := 1) hx hb dX0_countBridges_9 (by decide) ?_
    refine va_iald hx hb hK hP 1 0 rfl rfl (show vp_in 1 4 by unfold vp_in; decide) dX0_countBridges_10 ?_
    refine lv_icmp_ge (tgt := 29) hx hb dX0_countBridges_11 (by decide) (fun _ => ?_) (fun c => absurd (show (fc 1) ≤ (nI nB) from by rw [hc]; exact nI_le (Nat.le_refl _) (by omega)) c)
    refine lv_iload_n hx hb dX0_countBridges_29 rfl (lv_at hl 1 rfl) ?_
    exact W.iret (v := bx_sum (fun i => fb ((nI i * 10) + v_c).toNatClampNeg) nB) hx hb hr (fun t ht hW => ⟨bx_sum (fun i => fb ((nI i * 10) + v_c).toNatClampNeg) nB, rfl, rfl, ht⟩) (fun q h => by cases h) dX0_countBridges_30
  | succ d ih =>
    have hj : j < nB := by omega
    refine lv_iload_n hx hb dX0_countBridges_4 rfl (lv_at hl 0 rfl) ?_
    refine lv_aload_n hx hb dX0_countBridges_5 rfl (lv_at hl 2 rfl) ?_
    refine va_get (D := D) (ci := 0) (v := .ref a0_counts) (C := RX0) (T := TX0) (N := 8) hx hb htg ig_0 hown hK hP 0 rfl rfl 0 (by decide) (htg _ q_97) (fun _ h9 => h9) rfl dX0_countBridges_6 ?_
    refine lv_iconst (v := 1) hx hb dX0_countBridges_9 (by decide) ?_
    refine va_iald hx hb hK hP 1 0 rfl rfl (show vp_in 1 4 by unfold vp_in; decide) dX0_countBridges_10 ?_
    refine lv_icmp_ge (tgt := 29) hx hb dX0_countBridges_11 (by decide) (fun c => absurd c (show ¬ ((fc 1) ≤ (nI j)) from by rw [hc]; exact nI_ge hj (by omega))) (fun _ => ?_)
    refine lv_iload_n hx hb dX0_countBridges_14 rfl (lv_at hl 1 rfl) ?_
    refine lv_aload_n hx hb dX0_countBridges_15 rfl (lv_at hl 2 rfl) ?_
    refine lv_iload_n hx hb dX0_countBridges_16 rfl (lv_at hl 0 rfl) ?_
    refine lv_iload_n hx hb dX0_countBridges_17 rfl (lv_at hl 3 rfl) ?_
    refine oh_pV (As := [.int (nI j), .int v_c]) (rest := [.int (bx_sum (fun i => fb ((nI i * 10) + v_c).toNatClampNeg) j)]) (v := fb (((nI j) * 10) + v_c).toNatClampNeg) ⟨hx, hb, hml, hown, htg⟩ (c_X0_ofBridge l D E G a0 (nI j) v_c a0_counts a0_roads a0_bridges a0_waggons a0_parts a0_settings a0_trip v_ow fb (vp_in_nI (Nat.lt_of_lt_of_le hj (by omega)) (by decide)) h0) (cwV 2 htg (oh_gV q_384 q_385 q_386 q_67 q_387) rfl rfl rfl pdVX0_ofBridge ⟨Nat.le_of_ble_eq_true rfl, Nat.le_of_ble_eq_true rfl⟩) hK (hP.sub (ws' := [(a0, .inr (0, [.ref a0_counts, .ref a0_roads, .ref a0_bridges, .ref a0_waggons, .ref a0_parts, .ref a0_settings, .ref a0_trip, .int v_ow])), (a0_bridges, .inl (E 0, 160, .inl fb))]) [0, 2] rfl) hG hS (va_recv hK hP (ci := 0) (q0 := 0) rfl rfl) rfl hl.1 rfl (Nat.le_of_ble_eq_true rfl) dX0_countBridges_18 ⟨Nat.le_of_ble_eq_true rfl, Nat.le_of_ble_eq_true rfl⟩ ?_
    refine lv_iadd hx hb dX0_countBridges_21 ?_
    refine lv_istore_n (lv' := [(2, .int ((bx_sum (fun i => fb ((nI i * 10) + v_c).toNatClampNeg) j) + (fb (((nI j) * 10) + v_c).toNatClampNeg))), (3, .int (nI j)), (0, .ref a0), (1, .int v_c)]) hx hb dX0_countBridges_22 rfl hl (by decide) rfl (fun ls hl => ?_)
    refine lv_iinc (v := nI (j + 1)) (lv' := [(3, .int (nI (j + 1))), (2, .int ((bx_sum (fun i => fb ((nI i * 10) + v_c).toNatClampNeg) j) + (fb (((nI j) * 10) + v_c).toNatClampNeg))), (0, .ref a0), (1, .int v_c)]) hx hb dX0_countBridges_23 hl (k := 1) rfl (by exact nI_1 j) (by decide) rfl (fun ls hl => ?_)
    refine lv_goto (tgt := 4) hx hb dX0_countBridges_26 (by decide) ?_
    have hl : lv_has ls 4 [(3, .int (nI (j + 1))), (2, .int (bx_sum (fun i => fb ((nI i * 10) + v_c).toNatClampNeg) (j + 1))), (0, .ref a0), (1, .int v_c)] := lv_sub hl [0, 1, 2, 3] rfl
    apply ih (j := j + 1) <;> first | assumption | omega
