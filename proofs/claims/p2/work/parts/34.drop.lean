set_option maxHeartbeats 4000000 in
set_option maxRecDepth 100000 in
theorem c_X3_dropBridgesFrom (l : Launch) (D : va_G) (E : Nat → ClassId) (G : Nat → Nat) (sz : Nat) (a0 : Nat) (v_c : Int32) (a0_held : Nat) (a0_size : Nat) (a0_cells : Nat) (g_held : Nat → Int32) (g_size : Nat → Int32) : Met l yX3_dropBridgesFrom (oh_w yX3_dropBridgesFrom cX3_dropBridgesFrom 3 none) ({ frames := 1, cells := 0, slots := 0, locals := 22 }) (oh_Pm D E G [.ref a0, .int v_c] [(a0, .inr (3, [.ref a0_held, .ref a0_size, .ref a0_cells])), (a0_held, .inl (E 0, 8, .inl g_held)), (a0_size, .inl (E 0, 8, .inl g_size))] sz) (va_Qv (fun (_ : ((Nat → Int32) × (Nat → Int32))) => True) (oh_B D (va_A [(a0, .inr (3, [.ref a0_held, .ref a0_size, .ref a0_cells])), (a0_held, .inl (E 0, 8, .inl g_held)), (a0_size, .inl (E 0, 8, .inl g_size))] sz) (fun u => match u with | (hv_a0_held, hv_a0_size) => [(a0, .inr (3, [.ref a0_held, .ref a0_size, .ref a0_cells])), (a0_held, .inl (E 0, 8, .inl hv_a0_held)), (a0_size, .inl (E 0, 8, .inl hv_a0_size))])) (va_A [(a0, .inr (3, [.ref a0_held, .ref a0_size, .ref a0_cells])), (a0_held, .inl (E 0, 8, .inl g_held)), (a0_size, .inl (E 0, 8, .inl g_size))] sz)) 0 0 (va_A [(a0, .inr (3, [.ref a0_held, .ref a0_size, .ref a0_cells])), (a0_held, .inl (E 0, 8, .inl g_held)), (a0_size, .inl (E 0, 8, .inl g_size))] sz) := by
  refine Met.ofW (cc := cX3_dropBridgesFrom) (maxL := 3) (ret := none) (by decide) rfl ?_
  intro p e s m args below meth c s₁ B hml hv
  obtain ⟨rfl, hsz, hP, hK, hD0, hG⟩ := hv
  have hx := B.exec
  have hb := B.bytes
  have hr := B.returns
  have hts := atoms_spec (ws := (oh_w yX3_dropBridgesFrom cX3_dropBridgesFrom 3 none)) B.pre
  have htg : ∀ w ∈ oh_t, w.before _ s = true := fun w h => hts w (List.mem_cons_of_mem _ h)
  have hown : s.vm.findClass RX3 = some m.cls := findClass_of_methodNamed B.named
  have hlocks := B.notSynchronized
  subst hsz
  have hD := hD0.self (sz := s.heap.size)
  generalize hAe : va_A [(a0, .inr (3, [.ref a0_held, .ref a0_size, .ref a0_cells])), (a0_held, .inl (E 0, 8, .inl g_held)), (a0_size, .inl (E 0, 8, .inl g_size))] s.heap.size = A at hD hG ⊢
  have hA : ∀ q : Nat, s.heap.size ≤ q → A q := fun q h => by rw [← hAe]; exact Or.inr h
  have hS : va_S A s.heap s.heap [] := va_S.rf
  have hP : va_P D vwCl [(a0, .inr (3, [.ref a0_held, .ref a0_size, .ref a0_cells])), (a0_held, .inl (E 0, 8, .inl g_held)), (a0_size, .inl (E 0, 8, .inl g_size))] s.heap := hP
  have hl := lv_entry ([.ref a0, .int v_c]) (n := 3) (Nat.le_of_ble_eq_true rfl)
  rw [lg_entry_eq]
  generalize (lg_sl ([.ref a0, .int v_c]) ++ List.replicate (3 - (lg_sl ([.ref a0, .int v_c])).length) Slot.unset).toArray = ls at hl ⊢
  have hl : lv_has ls 3 [(0, .ref a0), (1, .int v_c)] := hl
  refine lv_iconst (v := 0) hx hb dX3_dropBridgesFrom_0 (by decide) ?_
  refine lv_istore_n (lv' := [(2, .int 0), (0, .ref a0), (1, .int v_c)]) hx hb dX3_dropBridgesFrom_1 rfl hl (by decide) rfl (fun ls hl => ?_)
  obtain ⟨H, locs, eH, eL⟩ : ∃ (H : Heap) (locs : List Loc), H = s.heap ∧ locs = [] := ⟨_, _, rfl, rfl⟩
  replace hS : va_S A s.heap H locs := by rw [eH, eL]; exact hS
  rw [← eH] at hP
  rw [← eH, ← eL]
  clear eH eL
  obtain ⟨j, hj0⟩ : ∃ j : Nat, j = 0 := ⟨0, rfl⟩
  replace hl : lv_has ls 3 [(2, .int (nI j)), (0, .ref a0), (1, .int v_c)] := by rw [hj0, nI_0]; exact lv_sub hl [0, 1, 2] rfl
  obtain ⟨gh1, e_gh1⟩ : ∃ z : Nat → Int32, z = g_held := ⟨_, rfl⟩
  rw [← e_gh1] at hP hD
  clear e_gh1
  obtain ⟨gs1, e_gs1⟩ : ∃ z : Nat → Int32, z = g_size := ⟨_, rfl⟩
  rw [← e_gs1] at hP hD
  clear e_gs1
  have hjN : j ≤ 8 := by omega
  clear hj0
  induction hd_j : 8 - j generalizing j ls H locs gh1 gs1 with
  | zero =>
    have hj : j = 8 := by omega
    rw [hj] at hl
    refine lv_iload_n hx hb dX3_dropBridgesFrom_2 rfl (lv_at hl 0 rfl) ?_
    refine lv_bipush (v := 8) hx hb dX3_dropBridgesFrom_3 (by decide) ?_
    refine lv_icmp_ge (tgt := 33) hx hb dX3_dropBridgesFrom_5 (by decide) (fun _ => ?_) (fun c => absurd (show 8 ≤ (nI 8) from show nI 8 ≤ nI 8 from nI_le (Nat.le_refl _) (by decide)) c)
    refine W.widen (k := 0) (n := 0) (Nat.le_of_ble_eq_true rfl) (Nat.le_of_ble_eq_true rfl) ?_
    exact W.vret hx hb hr (fun t ht hW => ⟨⟨(gh1, gs1), rfl, trivial, ⟨by rw [ht]; exact hP.sub [0, 1, 2] rfl, hD.sub [0, 1, 2] (by decide) rfl⟩⟩, hS.F ht⟩) hS.2.2 dX3_dropBridgesFrom_33
  | succ d_j ih_j =>
    have hj : j < 8 := by omega
    refine lv_iload_n hx hb dX3_dropBridgesFrom_2 rfl (lv_at hl 0 rfl) ?_
    refine lv_bipush (v := 8) hx hb dX3_dropBridgesFrom_3 (by decide) ?_
    refine lv_icmp_ge (tgt := 33) hx hb dX3_dropBridgesFrom_5 (by decide) (fun c => absurd c (show ¬ (8 ≤ (nI j)) from show ¬ nI 8 ≤ nI j from nI_ge hj (by decide))) (fun _ => ?_)
    refine lv_aload_n hx hb dX3_dropBridgesFrom_8 rfl (lv_at hl 1 rfl) ?_
    refine va_get (D := D) (ci := 3) (v := .ref a0_held) (C := RX3) (T := TX3) (N := 3) hx hb htg ig_3 hown hK hP 0 rfl rfl 0 (by decide) (htg _ q_198) (fun _ h9 => h9) rfl dX3_dropBridgesFrom_9 ?_
    refine lv_iload_n hx hb dX3_dropBridgesFrom_12 rfl (lv_at hl 0 rfl) ?_
    refine va_iald hx hb hK hP 1 0 rfl rfl (vp_in_nI (Nat.lt_of_lt_of_le hj (by omega)) (by decide)) dX3_dropBridgesFrom_13 ?_
    refine lv_bipush (v := 10) hx hb dX3_dropBridgesFrom_14 (by decide) ?_
    refine lv_iload_n hx hb dX3_dropBridgesFrom_16 rfl (lv_at hl 2 rfl) ?_
    refine lv_iadd hx hb dX3_dropBridgesFrom_17 ?_
    refine lv_icmp_lt (tgt := 27) hx hb dX3_dropBridgesFrom_18 (by decide) (fun (c_1 : (gh1 (nI j).toNatClampNeg) < (10 + v_c)) => ?_) (fun (c_1 : ¬ ((gh1 (nI j).toNatClampNeg) < (10 + v_c))) => ?_)
    · refine lv_iinc (v := nI (j + 1)) (lv' := [(2, .int (nI (j + 1))), (0, .ref a0), (1, .int v_c)]) hx hb dX3_dropBridgesFrom_27 hl (k := 0) rfl (by exact nI_1 j) (by decide) rfl (fun ls hl => ?_)
      refine lv_goto (tgt := 2) hx hb dX3_dropBridgesFrom_30 (by decide) ?_
      replace hl : lv_has ls 3 [(2, .int (nI (j + 1))), (0, .ref a0), (1, .int v_c)] := by exact lv_sub hl [0, 1, 2] rfl
      apply ih_j (j := j + 1) <;> first | assumption | omega
    · refine lv_aload_n hx hb dX3_dropBridgesFrom_21 rfl (lv_at hl 1 rfl) ?_
      refine lv_iload_n hx hb dX3_dropBridgesFrom_22 rfl (lv_at hl 0 rfl) ?_
      refine lv_iconst (v := (-1)) hx hb dX3_dropBridgesFrom_23 (by decide) ?_
      refine oh_mVv (As := [.int (nI j), .int (-1)]) (rest := []) (wr := []) ⟨hx, hb, hml, hown, htg⟩ (c_X3_putBridge l D E G H.size a0 (nI j) (-1) a0_held a0_size a0_cells gh1 gs1 (vp_in_nI (Nat.lt_of_lt_of_le hj (by omega)) (by decide))) (cwV 2 htg (oh_gV q_950 q_371 q_372 q_70 q_373) rfl rfl rfl pdVX3_putBridge ⟨Nat.le_of_ble_eq_true rfl, Nat.le_of_ble_eq_true rfl⟩) hK hP hD hG hS hA [0, 1, 2] [] rfl rfl (by decide) (by decide) (by decide) (va_recv hK hP (ci := 3) (q0 := 0) rfl rfl) rfl hl.1 rfl (Nat.le_of_ble_eq_true rfl) dX3_dropBridgesFrom_24 ⟨Nat.le_of_ble_eq_true rfl, Nat.le_of_ble_eq_true rfl⟩ (fun u H locs hw hP hD hS => ?_)
      obtain ⟨hv_a0_held_1, rfl⟩ : ∃ z, z = u := ⟨_, rfl⟩
      replace hP : va_P D vwCl [(a0, .inr (3, [.ref a0_held, .ref a0_size, .ref a0_cells])), (a0_held, .inl (E 0, 8, .inl hv_a0_held_1)), (a0_size, .inl (E 0, 8, .inl (upd gs1 (((nI j)).toNatClampNeg) 0)))] H := hP
      replace hD : va_D A [(a0, .inr (3, [.ref a0_held, .ref a0_size, .ref a0_cells])), (a0_held, .inl (E 0, 8, .inl hv_a0_held_1)), (a0_size, .inl (E 0, 8, .inl (upd gs1 (((nI j)).toNatClampNeg) 0)))] := hD
      refine W.widen (k := 0) (n := 0) (Nat.le_refl _) (Nat.le_refl _) ?_
      refine lv_iinc (v := nI (j + 1)) (lv' := [(2, .int (nI (j + 1))), (0, .ref a0), (1, .int v_c)]) hx hb dX3_dropBridgesFrom_27 hl (k := 0) rfl (by exact nI_1 j) (by decide) rfl (fun ls hl => ?_)
      refine lv_goto (tgt := 2) hx hb dX3_dropBridgesFrom_30 (by decide) ?_
      replace hl : lv_has ls 3 [(2, .int (nI (j + 1))), (0, .ref a0), (1, .int v_c)] := by exact lv_sub hl [0, 1, 2] rfl
      apply ih_j (j := j + 1) <;> first | assumption | omega
