/-! EXACT: shelves, the class -/
theorem sh8 {x : Int32} (h : rg x 0 7) : x.toNatClampNeg < 8 := by
  have := oh_nat h (by decide)
  have := h.2
  omega
noncomputable def whyR (f : Nat → Int32) (s : Int32) : Int32 := pif (0 ≤ s ∧ s ≤ 7) (pif ((10 : Int32) ≤ f s.toNatClampNeg) (-3) (pif (f s.toNatClampNeg = -1) (-4) 0)) (-2)
noncomputable def spSet (S : HZ) (s i : Int32) : Int32 := pif (whyR S.1 s = 0) (pif (0 ≤ i ∧ i ≤ S.2 s.toNatClampNeg - 1) 1 (-2)) (whyR S.1 s)
def okCp (S : HZ) (p q i j n : Int32) : Prop := (0 ≤ n ∧ n ≤ 40) ∧ (0 ≤ i ∧ i ≤ S.2 p.toNatClampNeg - n) ∧ (0 ≤ j ∧ j ≤ S.2 q.toNatClampNeg - n)
noncomputable def spCopy (S : HZ) (p q i j n : Int32) : Int32 := pif ((0 ≤ p ∧ p ≤ 7) ∧ (0 ≤ q ∧ q ≤ 7)) (pif ((10 : Int32) ≤ S.1 p.toNatClampNeg ∨ (10 : Int32) ≤ S.1 q.toNatClampNeg ∨ (rowH (S.1 p.toNatClampNeg) ∧ rowH (S.1 q.toNatClampNeg) ∧ ¬ S.1 p.toNatClampNeg = S.1 q.toNatClampNeg)) (-3) (pif (S.1 p.toNatClampNeg = -1 ∨ S.1 q.toNatClampNeg = -1) (-4) (pif (okCp S p q i j n) n (-2)))) (-2)
theorem whyR_x {C : Nat → va_E} {S : HZ} (h : absHX C S) (s : Int32) : whyR (ga (C 29)) s = whyR S.1 s := by
  by_cases q : 0 ≤ s ∧ s ≤ 7
  · have e := (h s.toNatClampNeg (sh8 ⟨Int32.le_iff_toInt_le.mp q.1, Int32.le_iff_toInt_le.mp q.2⟩)).1
    unfold whyR
    rw [e]
  · exact Eq.trans (pif_neg q) (pif_neg q).symm
theorem whyR_0 {f : Nat → Int32} {s : Int32} (h : whyR f s = 0) : (0 ≤ s ∧ s ≤ 7) ∧ rowH (f s.toNatClampNeg) := by
  unfold whyR at h
  by_cases q : 0 ≤ s ∧ s ≤ 7
  · rw [pif_pos q] at h
    refine ⟨q, fun e => ?_, fun e => ?_⟩
    · rw [pif_neg (by rw [e]; decide), pif_pos e] at h
      exact absurd h (by decide)
    · rw [pif_pos e] at h
      exact absurd h (by decide)
  · rw [pif_neg q] at h
    exact absurd h (by decide)

set_option maxHeartbeats 4000000 in
set_option maxRecDepth 100000 in
theorem e_X3_holdsNothing (l : Launch) (D : va_G) (E : Nat → ClassId) (G : Nat → Nat) (a : Nat → Nat) (C : Nat → va_E) (hT : TyX a E C) (x1 : Int32) (hx1 : rg x1 0 7) : Met l yX3_holdsNothing (oh_w yX3_holdsNothing cX3_holdsNothing 2 (some .boolean)) ({ frames := 0, cells := 0, slots := 0, locals := 0 }) (oh_Pp D E G [.ref (a 4), .int x1] (oh_W 35 a C)) (vp_Si (fun r => (r = 0 ∨ r = 1) ∧ (r ≠ 0 → (ga (C 29) (x1).toNatClampNeg = -1)) ∧ (r = 0 → (¬ ga (C 29) (x1).toNatClampNeg = -1)))) 0 0 (fun _ => False) := by
  refine Met.ofW (cc := cX3_holdsNothing) (maxL := 2) (ret := (some .boolean)) (by decide) rfl ?_
  intro p e s m args below meth c s₁ B hml hv
  obtain ⟨rfl, hP, hK, hG⟩ := hv
  have hx := B.exec
  have hb := B.bytes
  have hr := B.returns
  have hts := atoms_spec (ws := (oh_w yX3_holdsNothing cX3_holdsNothing 2 (some .boolean))) B.pre
  have htg : ∀ w ∈ oh_t, w.before _ s = true := fun w h => hts w (List.mem_cons_of_mem _ h)
  have hown : s.vm.findClass RX3 = some m.cls := findClass_of_methodNamed B.named
  have hlocks := B.notSynchronized
  have hT0 := hT
  have hS : va_S (fun _ => False) s.heap s.heap [] := va_S.rf
  have hl := lv_entry ([.ref (a 4), .int x1]) (n := 2) (Nat.le_of_ble_eq_true rfl)
  rw [lg_entry_eq]
  generalize (lg_sl ([.ref (a 4), .int x1]) ++ List.replicate (2 - (lg_sl ([.ref (a 4), .int x1])).length) Slot.unset).toArray = ls at hl ⊢
  have hl : lv_has ls 2 [(0, .ref (a 4)), (1, .int x1)] := hl
  refine oh_genQ (fun Q hQ => ?_)
  refine lv_aload_n hx hb dX3_holdsNothing_0 rfl (lv_at hl 0 rfl) ?_
  refine va_get (D := D) (ci := 3) (v := .ref (a 29)) (C := RX3) (T := TX3) (N := 3) hx hb htg ig_3 hown hK hP 4 (oh_wg (by decide) (sX_4 hT)) rfl 0 (by decide) (htg _ q_198) (fun _ h9 => h9) rfl dX3_holdsNothing_1 ?_
  refine lv_iload_n hx hb dX3_holdsNothing_4 rfl (lv_at hl 1 rfl) ?_
  have n_1 : vp_in x1 8 := (rg_in hx1 (by decide))
  refine th_iald hx hb hK hP 29 (by decide) (sX_29 hT) n_1 dX3_holdsNothing_5 ?_
  refine lv_iconst (v := (-1)) hx hb dX3_holdsNothing_6 (by decide) ?_
  refine lv_icmp_ne (tgt := 14) hx hb dX3_holdsNothing_7 (by decide) (fun (c_2 : ¬ ((ga (C 29) (x1).toNatClampNeg) = (-1))) => ?_) (fun (c_2 : (ga (C 29) (x1).toNatClampNeg) = (-1)) => ?_)
  · refine lv_iconst (v := 0) hx hb dX3_holdsNothing_14 (by decide) ?_
    rw [hQ]
    exact W.zret (v := 0) (ty := .boolean) hx hb hr (by decide) (fun t ht hW => ⟨0, rfl, ⟨(Or.inl rfl), (fun h9 => absurd rfl h9), (fun _ => c_2)⟩, ht⟩) (fun q h => by cases h) dX3_holdsNothing_15
  · refine lv_iconst (v := 1) hx hb dX3_holdsNothing_10 (by decide) ?_
    refine lv_goto (tgt := 15) hx hb dX3_holdsNothing_11 (by decide) ?_
    rw [hQ]
    exact W.zret (v := 1) (ty := .boolean) hx hb hr (by decide) (fun t ht hW => ⟨1, rfl, ⟨(Or.inr rfl), (fun _ => c_2), (fun h9 => absurd h9 (by decide))⟩, ht⟩) (fun q h => by cases h) dX3_holdsNothing_15

set_option maxHeartbeats 4000000 in
set_option maxRecDepth 100000 in
theorem e_X3_holdsBridge (l : Launch) (D : va_G) (E : Nat → ClassId) (G : Nat → Nat) (a : Nat → Nat) (C : Nat → va_E) (hT : TyX a E C) (x1 : Int32) (hx1 : rg x1 0 7) : Met l yX3_holdsBridge (oh_w yX3_holdsBridge cX3_holdsBridge 2 (some .boolean)) ({ frames := 0, cells := 0, slots := 0, locals := 0 }) (oh_Pp D E G [.ref (a 4), .int x1] (oh_W 35 a C)) (vp_Si (fun r => (r = 0 ∨ r = 1) ∧ (r ≠ 0 → ((10 : Int32) ≤ ga (C 29) (x1).toNatClampNeg)) ∧ (r = 0 → (¬ (10 : Int32) ≤ ga (C 29) (x1).toNatClampNeg)))) 0 0 (fun _ => False) := by
  refine Met.ofW (cc := cX3_holdsBridge) (maxL := 2) (ret := (some .boolean)) (by decide) rfl ?_
  intro p e s m args below meth c s₁ B hml hv
  obtain ⟨rfl, hP, hK, hG⟩ := hv
  have hx := B.exec
  have hb := B.bytes
  have hr := B.returns
  have hts := atoms_spec (ws := (oh_w yX3_holdsBridge cX3_holdsBridge 2 (some .boolean))) B.pre
  have htg : ∀ w ∈ oh_t, w.before _ s = true := fun w h => hts w (List.mem_cons_of_mem _ h)
  have hown : s.vm.findClass RX3 = some m.cls := findClass_of_methodNamed B.named
  have hlocks := B.notSynchronized
  have hT0 := hT
  have hS : va_S (fun _ => False) s.heap s.heap [] := va_S.rf
  have hl := lv_entry ([.ref (a 4), .int x1]) (n := 2) (Nat.le_of_ble_eq_true rfl)
  rw [lg_entry_eq]
  generalize (lg_sl ([.ref (a 4), .int x1]) ++ List.replicate (2 - (lg_sl ([.ref (a 4), .int x1])).length) Slot.unset).toArray = ls at hl ⊢
  have hl : lv_has ls 2 [(0, .ref (a 4)), (1, .int x1)] := hl
  refine oh_genQ (fun Q hQ => ?_)
  refine lv_aload_n hx hb dX3_holdsBridge_0 rfl (lv_at hl 0 rfl) ?_
  refine va_get (D := D) (ci := 3) (v := .ref (a 29)) (C := RX3) (T := TX3) (N := 3) hx hb htg ig_3 hown hK hP 4 (oh_wg (by decide) (sX_4 hT)) rfl 0 (by decide) (htg _ q_198) (fun _ h9 => h9) rfl dX3_holdsBridge_1 ?_
  refine lv_iload_n hx hb dX3_holdsBridge_4 rfl (lv_at hl 1 rfl) ?_
  have n_1 : vp_in x1 8 := (rg_in hx1 (by decide))
  refine th_iald hx hb hK hP 29 (by decide) (sX_29 hT) n_1 dX3_holdsBridge_5 ?_
  refine lv_bipush (v := 10) hx hb dX3_holdsBridge_6 (by decide) ?_
  refine lv_icmp_lt (tgt := 15) hx hb dX3_holdsBridge_8 (by decide) (fun (c_2 : (ga (C 29) (x1).toNatClampNeg) < 10) => ?_) (fun (c_2 : ¬ ((ga (C 29) (x1).toNatClampNeg) < 10)) => ?_)
  · refine lv_iconst (v := 0) hx hb dX3_holdsBridge_15 (by decide) ?_
    rw [hQ]
    exact W.zret (v := 0) (ty := .boolean) hx hb hr (by decide) (fun t ht hW => ⟨0, rfl, ⟨(Or.inl rfl), (fun h9 => absurd rfl h9), (fun _ => (Int32.not_le.mpr c_2))⟩, ht⟩) (fun q h => by cases h) dX3_holdsBridge_16
  · refine lv_iconst (v := 1) hx hb dX3_holdsBridge_11 (by decide) ?_
    refine lv_goto (tgt := 16) hx hb dX3_holdsBridge_12 (by decide) ?_
    rw [hQ]
    exact W.zret (v := 1) (ty := .boolean) hx hb hr (by decide) (fun t ht hW => ⟨1, rfl, ⟨(Or.inr rfl), (fun _ => (Int32.not_lt.mp c_2)), (fun h9 => absurd h9 (by decide))⟩, ht⟩) (fun q h => by cases h) dX3_holdsBridge_16

set_option maxHeartbeats 4000000 in
set_option maxRecDepth 100000 in
theorem e_X3_holdsRow (l : Launch) (D : va_G) (E : Nat → ClassId) (G : Nat → Nat) (a : Nat → Nat) (C : Nat → va_E) (hT : TyX a E C) (x1 : Int32) (hx1 : rg x1 0 7) : Met l yX3_holdsRow (oh_w yX3_holdsRow cX3_holdsRow 2 (some .boolean)) ({ frames := 1, cells := 0, slots := 0, locals := 21 }) (oh_Pp D E G [.ref (a 4), .int x1] (oh_W 35 a C)) (vp_Si (fun r => (r = 0 ∨ r = 1) ∧ (r ≠ 0 → (rowH (ga (C 29) (x1).toNatClampNeg))) ∧ (r = 0 → (¬ rowH (ga (C 29) (x1).toNatClampNeg))))) 0 0 (fun _ => False) := by
  refine Met.ofW (cc := cX3_holdsRow) (maxL := 2) (ret := (some .boolean)) (by decide) rfl ?_
  intro p e s m args below meth c s₁ B hml hv
  obtain ⟨rfl, hP, hK, hG⟩ := hv
  have hx := B.exec
  have hb := B.bytes
  have hr := B.returns
  have hts := atoms_spec (ws := (oh_w yX3_holdsRow cX3_holdsRow 2 (some .boolean))) B.pre
  have htg : ∀ w ∈ oh_t, w.before _ s = true := fun w h => hts w (List.mem_cons_of_mem _ h)
  have hown : s.vm.findClass RX3 = some m.cls := findClass_of_methodNamed B.named
  have hlocks := B.notSynchronized
  have hT0 := hT
  have hS : va_S (fun _ => False) s.heap s.heap [] := va_S.rf
  have hl := lv_entry ([.ref (a 4), .int x1]) (n := 2) (Nat.le_of_ble_eq_true rfl)
  rw [lg_entry_eq]
  generalize (lg_sl ([.ref (a 4), .int x1]) ++ List.replicate (2 - (lg_sl ([.ref (a 4), .int x1])).length) Slot.unset).toArray = ls at hl ⊢
  have hl : lv_has ls 2 [(0, .ref (a 4)), (1, .int x1)] := hl
  refine oh_genQ (fun Q hQ => ?_)
  refine lv_aload_n hx hb dX3_holdsRow_0 rfl (lv_at hl 0 rfl) ?_
  refine lv_iload_n hx hb dX3_holdsRow_1 rfl (lv_at hl 1 rfl) ?_
  refine tq_V (As := [.int x1]) (rest := []) (ws := (oh_W 35 a C)) ⟨hx, hb, hml, hown, htg⟩ (e_X3_holdsNothing l D E G a C hT x1 (rg_w hx1 (by decide))) (cwV 1 htg (oh_gV q_339 q_317 q_318 q_70 q_319) rfl rfl rfl pdVX3_holdsNothing ⟨Nat.le_of_ble_eq_true rfl, Nat.le_of_ble_eq_true rfl⟩) hK hP hG hS (va_recv hK hP (ci := 3) (q0 := 4) rfl (oh_wg (by decide) (sX_4 hT))) rfl hl.1 rfl (Nat.le_of_ble_eq_true rfl) dX3_holdsRow_2 ⟨Nat.le_of_ble_eq_true rfl, Nat.le_of_ble_eq_true rfl⟩ (fun r_1 hq_2 => ?_)
  refine lv_if_ne (tgt := 20) hx hb dX3_holdsRow_5 (by decide) (fun (c_3 : ¬ (r_1 = 0)) => ?_) (fun (c_3 : r_1 = 0) => ?_)
  · have u_4 := hq_2.2.1 c_3
    refine lv_iconst (v := 0) hx hb dX3_holdsRow_20 (by decide) ?_
    rw [hQ]
    exact W.zret (v := 0) (ty := .boolean) hx hb hr (by decide) (fun t ht hW => ⟨0, rfl, ⟨(Or.inl rfl), (fun h9 => absurd rfl h9), (fun _ => (fun h8 => h8.1 u_4))⟩, ht⟩) (fun q h => by cases h) dX3_holdsRow_21
  · have u_5 := hq_2.2.2 c_3
    refine lv_aload_n hx hb dX3_holdsRow_8 rfl (lv_at hl 0 rfl) ?_
    refine lv_iload_n hx hb dX3_holdsRow_9 rfl (lv_at hl 1 rfl) ?_
    refine tq_V (As := [.int x1]) (rest := []) (ws := (oh_W 35 a C)) ⟨hx, hb, hml, hown, htg⟩ (e_X3_holdsBridge l D E G a C hT x1 (rg_w hx1 (by decide))) (cwV 1 htg (oh_gV q_340 q_313 q_314 q_70 q_315) rfl rfl rfl pdVX3_holdsBridge ⟨Nat.le_of_ble_eq_true rfl, Nat.le_of_ble_eq_true rfl⟩) hK hP hG hS (va_recv hK hP (ci := 3) (q0 := 4) rfl (oh_wg (by decide) (sX_4 hT))) rfl hl.1 rfl (Nat.le_of_ble_eq_true rfl) dX3_holdsRow_10 ⟨Nat.le_of_ble_eq_true rfl, Nat.le_of_ble_eq_true rfl⟩ (fun r_6 hq_7 => ?_)
    refine lv_if_ne (tgt := 20) hx hb dX3_holdsRow_13 (by decide) (fun (c_8 : ¬ (r_6 = 0)) => ?_) (fun (c_8 : r_6 = 0) => ?_)
    · have u_9 := hq_7.2.1 c_8
      refine lv_iconst (v := 0) hx hb dX3_holdsRow_20 (by decide) ?_
      rw [hQ]
      exact W.zret (v := 0) (ty := .boolean) hx hb hr (by decide) (fun t ht hW => ⟨0, rfl, ⟨(Or.inl rfl), (fun h9 => absurd rfl h9), (fun _ => (fun h8 => h8.2 u_9))⟩, ht⟩) (fun q h => by cases h) dX3_holdsRow_21
    · have u_10 := hq_7.2.2 c_8
      refine lv_iconst (v := 1) hx hb dX3_holdsRow_16 (by decide) ?_
      refine lv_goto (tgt := 21) hx hb dX3_holdsRow_17 (by decide) ?_
      rw [hQ]
      exact W.zret (v := 1) (ty := .boolean) hx hb hr (by decide) (fun t ht hW => ⟨1, rfl, ⟨(Or.inr rfl), (fun _ => ⟨u_5, u_10⟩), (fun h9 => absurd h9 (by decide))⟩, ht⟩) (fun q h => by cases h) dX3_holdsRow_21

set_option maxHeartbeats 4000000 in
set_option maxRecDepth 100000 in
theorem e_X3_holdsUnlikeRows (l : Launch) (D : va_G) (E : Nat → ClassId) (G : Nat → Nat) (a : Nat → Nat) (C : Nat → va_E) (hT : TyX a E C) (x1 : Int32) (x2 : Int32) (hx1 : rg x1 0 7) (hx2 : rg x2 0 7) : Met l yX3_holdsUnlikeRows (oh_w yX3_holdsUnlikeRows cX3_holdsUnlikeRows 3 (some .boolean)) ({ frames := 2, cells := 0, slots := 0, locals := 42 }) (oh_Pp D E G [.ref (a 4), .int x1, .int x2] (oh_W 35 a C)) (vp_Si (fun r => (r = 0 ∨ r = 1) ∧ (r ≠ 0 → (rowH (ga (C 29) (x1).toNatClampNeg) ∧ rowH (ga (C 29) (x2).toNatClampNeg) ∧ ¬ ga (C 29) (x1).toNatClampNeg = ga (C 29) (x2).toNatClampNeg)) ∧ (r = 0 → (¬ (rowH (ga (C 29) (x1).toNatClampNeg) ∧ rowH (ga (C 29) (x2).toNatClampNeg) ∧ ¬ ga (C 29) (x1).toNatClampNeg = ga (C 29) (x2).toNatClampNeg))))) 0 0 (fun _ => False) := by
  refine Met.ofW (cc := cX3_holdsUnlikeRows) (maxL := 3) (ret := (some .boolean)) (by decide) rfl ?_
  intro p e s m args below meth c s₁ B hml hv
  obtain ⟨rfl, hP, hK, hG⟩ := hv
  have hx := B.exec
  have hb := B.bytes
  have hr := B.returns
  have hts := atoms_spec (ws := (oh_w yX3_holdsUnlikeRows cX3_holdsUnlikeRows 3 (some .boolean))) B.pre
  have htg : ∀ w ∈ oh_t, w.before _ s = true := fun w h => hts w (List.mem_cons_of_mem _ h)
  have hown : s.vm.findClass RX3 = some m.cls := findClass_of_methodNamed B.named
  have hlocks := B.notSynchronized
  have hT0 := hT
  have hS : va_S (fun _ => False) s.heap s.heap [] := va_S.rf
  have hl := lv_entry ([.ref (a 4), .int x1, .int x2]) (n := 3) (Nat.le_of_ble_eq_true rfl)
  rw [lg_entry_eq]
  generalize (lg_sl ([.ref (a 4), .int x1, .int x2]) ++ List.replicate (3 - (lg_sl ([.ref (a 4), .int x1, .int x2])).length) Slot.unset).toArray = ls at hl ⊢
  have hl : lv_has ls 3 [(0, .ref (a 4)), (1, .int x1), (2, .int x2)] := hl
  refine oh_genQ (fun Q hQ => ?_)
  refine lv_aload_n hx hb dX3_holdsUnlikeRows_0 rfl (lv_at hl 0 rfl) ?_
  refine lv_iload_n hx hb dX3_holdsUnlikeRows_1 rfl (lv_at hl 1 rfl) ?_
  refine tq_V (As := [.int x1]) (rest := []) (ws := (oh_W 35 a C)) ⟨hx, hb, hml, hown, htg⟩ (e_X3_holdsRow l D E G a C hT x1 (rg_w hx1 (by decide))) (cwV 1 htg (oh_gV q_335 q_336 q_337 q_70 q_338) rfl rfl rfl pdVX3_holdsRow ⟨Nat.le_of_ble_eq_true rfl, Nat.le_of_ble_eq_true rfl⟩) hK hP hG hS (va_recv hK hP (ci := 3) (q0 := 4) rfl (oh_wg (by decide) (sX_4 hT))) rfl hl.1 rfl (Nat.le_of_ble_eq_true rfl) dX3_holdsUnlikeRows_2 ⟨Nat.le_of_ble_eq_true rfl, Nat.le_of_ble_eq_true rfl⟩ (fun r_1 hq_2 => ?_)
  refine lv_if_eq (tgt := 35) hx hb dX3_holdsUnlikeRows_5 (by decide) (fun (c_3 : r_1 = 0) => ?_) (fun (c_3 : ¬ (r_1 = 0)) => ?_)
  · have u_4 := hq_2.2.2 c_3
    refine lv_iconst (v := 0) hx hb dX3_holdsUnlikeRows_35 (by decide) ?_
    rw [hQ]
    exact W.zret (v := 0) (ty := .boolean) hx hb hr (by decide) (fun t ht hW => ⟨0, rfl, ⟨(Or.inl rfl), (fun h9 => absurd rfl h9), (fun _ => (fun h8 => u_4 h8.1))⟩, ht⟩) (fun q h => by cases h) dX3_holdsUnlikeRows_36
  · have u_5 := hq_2.2.1 c_3
    refine lv_aload_n hx hb dX3_holdsUnlikeRows_8 rfl (lv_at hl 0 rfl) ?_
    refine lv_iload_n hx hb dX3_holdsUnlikeRows_9 rfl (lv_at hl 2 rfl) ?_
    refine tq_V (As := [.int x2]) (rest := []) (ws := (oh_W 35 a C)) ⟨hx, hb, hml, hown, htg⟩ (e_X3_holdsRow l D E G a C hT x2 (rg_w hx2 (by decide))) (cwV 1 htg (oh_gV q_335 q_336 q_337 q_70 q_338) rfl rfl rfl pdVX3_holdsRow ⟨Nat.le_of_ble_eq_true rfl, Nat.le_of_ble_eq_true rfl⟩) hK hP hG hS (va_recv hK hP (ci := 3) (q0 := 4) rfl (oh_wg (by decide) (sX_4 hT))) rfl hl.1 rfl (Nat.le_of_ble_eq_true rfl) dX3_holdsUnlikeRows_10 ⟨Nat.le_of_ble_eq_true rfl, Nat.le_of_ble_eq_true rfl⟩ (fun r_6 hq_7 => ?_)
    refine lv_if_eq (tgt := 35) hx hb dX3_holdsUnlikeRows_13 (by decide) (fun (c_8 : r_6 = 0) => ?_) (fun (c_8 : ¬ (r_6 = 0)) => ?_)
    · have u_9 := hq_7.2.2 c_8
      refine lv_iconst (v := 0) hx hb dX3_holdsUnlikeRows_35 (by decide) ?_
      rw [hQ]
      exact W.zret (v := 0) (ty := .boolean) hx hb hr (by decide) (fun t ht hW => ⟨0, rfl, ⟨(Or.inl rfl), (fun h9 => absurd rfl h9), (fun _ => (fun h8 => u_9 h8.2.1))⟩, ht⟩) (fun q h => by cases h) dX3_holdsUnlikeRows_36
    · have u_10 := hq_7.2.1 c_8
      refine lv_aload_n hx hb dX3_holdsUnlikeRows_16 rfl (lv_at hl 0 rfl) ?_
      refine va_get (D := D) (ci := 3) (v := .ref (a 29)) (C := RX3) (T := TX3) (N := 3) hx hb htg ig_3 hown hK hP 4 (oh_wg (by decide) (sX_4 hT)) rfl 0 (by decide) (htg _ q_198) (fun _ h9 => h9) rfl dX3_holdsUnlikeRows_17 ?_
      refine lv_iload_n hx hb dX3_holdsUnlikeRows_20 rfl (lv_at hl 1 rfl) ?_
      have n_11 : vp_in x1 8 := (rg_in hx1 (by decide))
      refine th_iald hx hb hK hP 29 (by decide) (sX_29 hT) n_11 dX3_holdsUnlikeRows_21 ?_
      refine lv_aload_n hx hb dX3_holdsUnlikeRows_22 rfl (lv_at hl 0 rfl) ?_
      refine va_get (D := D) (ci := 3) (v := .ref (a 29)) (C := RX3) (T := TX3) (N := 3) hx hb htg ig_3 hown hK hP 4 (oh_wg (by decide) (sX_4 hT)) rfl 0 (by decide) (htg _ q_198) (fun _ h9 => h9) rfl dX3_holdsUnlikeRows_23 ?_
      refine lv_iload_n hx hb dX3_holdsUnlikeRows_26 rfl (lv_at hl 2 rfl) ?_
      have n_12 : vp_in x2 8 := (rg_in hx2 (by decide))
      refine th_iald hx hb hK hP 29 (by decide) (sX_29 hT) n_12 dX3_holdsUnlikeRows_27 ?_
      refine lv_icmp_eq (tgt := 35) hx hb dX3_holdsUnlikeRows_28 (by decide) (fun (c_13 : (ga (C 29) (x1).toNatClampNeg) = (ga (C 29) (x2).toNatClampNeg)) => ?_) (fun (c_13 : ¬ ((ga (C 29) (x1).toNatClampNeg) = (ga (C 29) (x2).toNatClampNeg))) => ?_)
      · refine lv_iconst (v := 0) hx hb dX3_holdsUnlikeRows_35 (by decide) ?_
        rw [hQ]
        exact W.zret (v := 0) (ty := .boolean) hx hb hr (by decide) (fun t ht hW => ⟨0, rfl, ⟨(Or.inl rfl), (fun h9 => absurd rfl h9), (fun _ => (fun h8 => h8.2.2 c_13))⟩, ht⟩) (fun q h => by cases h) dX3_holdsUnlikeRows_36
      · refine lv_iconst (v := 1) hx hb dX3_holdsUnlikeRows_31 (by decide) ?_
        refine lv_goto (tgt := 36) hx hb dX3_holdsUnlikeRows_32 (by decide) ?_
        rw [hQ]
        exact W.zret (v := 1) (ty := .boolean) hx hb hr (by decide) (fun t ht hW => ⟨1, rfl, ⟨(Or.inr rfl), (fun _ => ⟨u_5, u_10, c_13⟩), (fun h9 => absurd h9 (by decide))⟩, ht⟩) (fun q h => by cases h) dX3_holdsUnlikeRows_36

set_option maxHeartbeats 4000000 in
set_option maxRecDepth 100000 in
theorem e_X6_whyNoRow (l : Launch) (D : va_G) (E : Nat → ClassId) (G : Nat → Nat) (a : Nat → Nat) (C : Nat → va_E) (hT : TyX a E C) (x1 : Int32) : Met l yX6_whyNoRow (oh_w yX6_whyNoRow cX6_whyNoRow 2 (some .int)) ({ frames := 2, cells := 0, slots := 0, locals := 42 }) (oh_Pp D E G [.ref (a 0), .int x1] (oh_W 35 a C)) (vp_Si (fun r => (r = 0 → rg x1 0 7) ∧ (r = whyR (ga (C 29)) x1))) 0 0 (fun _ => False) := by
  refine Met.ofW (cc := cX6_whyNoRow) (maxL := 2) (ret := (some .int)) (by decide) rfl ?_
  intro p e s m args below meth c s₁ B hml hv
  obtain ⟨rfl, hP, hK, hG⟩ := hv
  have hx := B.exec
  have hb := B.bytes
  have hr := B.returns
  have hts := atoms_spec (ws := (oh_w yX6_whyNoRow cX6_whyNoRow 2 (some .int))) B.pre
  have htg : ∀ w ∈ oh_t, w.before _ s = true := fun w h => hts w (List.mem_cons_of_mem _ h)
  have hown : s.vm.findClass RX6 = some m.cls := findClass_of_methodNamed B.named
  have hlocks := B.notSynchronized
  have hT0 := hT
  have hS : va_S (fun _ => False) s.heap s.heap [] := va_S.rf
  have hl := lv_entry ([.ref (a 0), .int x1]) (n := 2) (Nat.le_of_ble_eq_true rfl)
  rw [lg_entry_eq]
  generalize (lg_sl ([.ref (a 0), .int x1]) ++ List.replicate (2 - (lg_sl ([.ref (a 0), .int x1])).length) Slot.unset).toArray = ls at hl ⊢
  have hl : lv_has ls 2 [(0, .ref (a 0)), (1, .int x1)] := hl
  refine oh_genQ (fun Q hQ => ?_)
  refine lv_iload_n hx hb dX6_whyNoRow_0 rfl (lv_at hl 1 rfl) ?_
  refine tq_S (As := [.int x1]) (rest := []) (ws := []) ⟨hx, hb, hml, hown, htg⟩ (c_X6_isShelf l D E G x1) (va_cwS 1 htg (oh_gS q_290 q_291 q_66 q_292) rfl rfl rfl pdX6_isShelf ⟨Nat.le_of_ble_eq_true rfl, Nat.le_of_ble_eq_true rfl⟩) hK va_nil hG hS rfl hl.1 rfl (Nat.le_of_ble_eq_true rfl) dX6_whyNoRow_1 ⟨Nat.le_of_ble_eq_true rfl, Nat.le_of_ble_eq_true rfl⟩ (fun r_1 hq_2 => ?_)
  refine lv_if_ne (tgt := 10) hx hb dX6_whyNoRow_4 (by decide) (fun (c_3 : ¬ (r_1 = 0)) => ?_) (fun (c_3 : r_1 = 0) => ?_)
  · have u_4 := hq_2.2.1 c_3
    refine lv_aload_n hx hb dX6_whyNoRow_10 rfl (lv_at hl 0 rfl) ?_
    refine va_get (D := D) (ci := 6) (v := .ref (a 4)) (C := RX6) (T := TX6) (N := 9) hx hb htg ig_6 hown hK hP 0 (oh_wg (by decide) (sX_0 hT)) rfl 4 (by decide) (htg _ q_262) (fun _ h9 => h9) rfl dX6_whyNoRow_11 ?_
    refine lv_iload_n hx hb dX6_whyNoRow_14 rfl (lv_at hl 1 rfl) ?_
    refine tq_V (As := [.int x1]) (rest := []) (ws := (oh_W 35 a C)) ⟨hx, hb, hml, hown, htg⟩ (e_X3_holdsBridge l D E G a C hT x1 (rg_w u_4 (by decide))) (cwV 1 htg (oh_gV q_312 q_313 q_314 q_70 q_315) rfl rfl rfl pdVX3_holdsBridge ⟨Nat.le_of_ble_eq_true rfl, Nat.le_of_ble_eq_true rfl⟩) hK hP hG hS (va_recv hK hP (ci := 3) (q0 := 4) rfl (oh_wg (by decide) (sX_4 hT))) rfl hl.1 rfl (Nat.le_of_ble_eq_true rfl) dX6_whyNoRow_15 ⟨Nat.le_of_ble_eq_true rfl, Nat.le_of_ble_eq_true rfl⟩ (fun r_5 hq_6 => ?_)
    refine lv_if_eq (tgt := 24) hx hb dX6_whyNoRow_18 (by decide) (fun (c_7 : r_5 = 0) => ?_) (fun (c_7 : ¬ (r_5 = 0)) => ?_)
    · have u_8 := hq_6.2.2 c_7
      refine lv_aload_n hx hb dX6_whyNoRow_24 rfl (lv_at hl 0 rfl) ?_
      refine va_get (D := D) (ci := 6) (v := .ref (a 4)) (C := RX6) (T := TX6) (N := 9) hx hb htg ig_6 hown hK hP 0 (oh_wg (by decide) (sX_0 hT)) rfl 4 (by decide) (htg _ q_262) (fun _ h9 => h9) rfl dX6_whyNoRow_25 ?_
      refine lv_iload_n hx hb dX6_whyNoRow_28 rfl (lv_at hl 1 rfl) ?_
      refine tq_V (As := [.int x1]) (rest := []) (ws := (oh_W 35 a C)) ⟨hx, hb, hml, hown, htg⟩ (e_X3_holdsNothing l D E G a C hT x1 (rg_w u_4 (by decide))) (cwV 1 htg (oh_gV q_316 q_317 q_318 q_70 q_319) rfl rfl rfl pdVX3_holdsNothing ⟨Nat.le_of_ble_eq_true rfl, Nat.le_of_ble_eq_true rfl⟩) hK hP hG hS (va_recv hK hP (ci := 3) (q0 := 4) rfl (oh_wg (by decide) (sX_4 hT))) rfl hl.1 rfl (Nat.le_of_ble_eq_true rfl) dX6_whyNoRow_29 ⟨Nat.le_of_ble_eq_true rfl, Nat.le_of_ble_eq_true rfl⟩ (fun r_9 hq_10 => ?_)
      refine lv_if_eq (tgt := 40) hx hb dX6_whyNoRow_32 (by decide) (fun (c_11 : r_9 = 0) => ?_) (fun (c_11 : ¬ (r_9 = 0)) => ?_)
      · have u_12 := hq_10.2.2 c_11
        refine lv_iconst (v := 0) hx hb dX6_whyNoRow_40 (by decide) ?_
        rw [hQ]
        exact W.iret (v := 0) hx hb hr (fun t ht hW => ⟨0, rfl, ⟨(fun _ => (rg_w u_4 (by decide))), (Eq.trans (pif_pos (oh_rgI (p := 0) (q := 7) (rg_w (lo := 0) (hi := 7) u_4 (by decide)))) (Eq.trans (pif_neg u_8) (pif_neg u_12))).symm⟩, ht⟩) (fun q h => by cases h) dX6_whyNoRow_41
      · have u_13 := hq_10.2.1 c_11
        refine lv_bipush (v := (-4)) hx hb dX6_whyNoRow_35 (by decide) ?_
        refine lv_goto (tgt := 41) hx hb dX6_whyNoRow_37 (by decide) ?_
        rw [hQ]
        exact W.iret (v := (-4)) hx hb hr (fun t ht hW => ⟨(-4), rfl, ⟨(fun h9 => absurd h9 (by decide)), (Eq.trans (pif_pos (oh_rgI (p := 0) (q := 7) (rg_w (lo := 0) (hi := 7) u_4 (by decide)))) (Eq.trans (pif_neg u_8) (pif_pos u_13))).symm⟩, ht⟩) (fun q h => by cases h) dX6_whyNoRow_41
    · have u_14 := hq_6.2.1 c_7
      refine lv_bipush (v := (-3)) hx hb dX6_whyNoRow_21 (by decide) ?_
      rw [hQ]
      exact W.iret (v := (-3)) hx hb hr (fun t ht hW => ⟨(-3), rfl, ⟨(fun h9 => absurd h9 (by decide)), (Eq.trans (pif_pos (oh_rgI (p := 0) (q := 7) (rg_w (lo := 0) (hi := 7) u_4 (by decide)))) (pif_pos u_14)).symm⟩, ht⟩) (fun q h => by cases h) dX6_whyNoRow_23
  · have u_15 := hq_2.2.2 c_3
    refine lv_bipush (v := (-2)) hx hb dX6_whyNoRow_7 (by decide) ?_
    rw [hQ]
    exact W.iret (v := (-2)) hx hb hr (fun t ht hW => ⟨(-2), rfl, ⟨(fun h9 => absurd h9 (by decide)), (pif_neg u_15).symm⟩, ht⟩) (fun q h => by cases h) dX6_whyNoRow_9

set_option maxHeartbeats 4000000 in
set_option maxRecDepth 100000 in
theorem e_X6_holds (l : Launch) (D : va_G) (E : Nat → ClassId) (G : Nat → Nat) (a : Nat → Nat) (C : Nat → va_E) (hT : TyX a E C) (x1 : Int32) : Met l yX6_holds (oh_w yX6_holds cX6_holds 2 (some .int)) ({ frames := 2, cells := 0, slots := 0, locals := 42 }) (oh_Pp D E G [.ref (a 0), .int x1] (oh_W 35 a C)) (vp_Si (fun r => (∀ S : HZ, absHX C S → r = spHolds S x1))) 0 0 (fun _ => False) := by
  refine Met.ofW (cc := cX6_holds) (maxL := 2) (ret := (some .int)) (by decide) rfl ?_
  intro p e s m args below meth c s₁ B hml hv
  obtain ⟨rfl, hP, hK, hG⟩ := hv
  have hx := B.exec
  have hb := B.bytes
  have hr := B.returns
  have hts := atoms_spec (ws := (oh_w yX6_holds cX6_holds 2 (some .int))) B.pre
  have htg : ∀ w ∈ oh_t, w.before _ s = true := fun w h => hts w (List.mem_cons_of_mem _ h)
  have hown : s.vm.findClass RX6 = some m.cls := findClass_of_methodNamed B.named
  have hlocks := B.notSynchronized
  have hT0 := hT
  have hS : va_S (fun _ => False) s.heap s.heap [] := va_S.rf
  have hl := lv_entry ([.ref (a 0), .int x1]) (n := 2) (Nat.le_of_ble_eq_true rfl)
  rw [lg_entry_eq]
  generalize (lg_sl ([.ref (a 0), .int x1]) ++ List.replicate (2 - (lg_sl ([.ref (a 0), .int x1])).length) Slot.unset).toArray = ls at hl ⊢
  have hl : lv_has ls 2 [(0, .ref (a 0)), (1, .int x1)] := hl
  refine oh_genQ (fun Q hQ => ?_)
  refine lv_iload_n hx hb dX6_holds_0 rfl (lv_at hl 1 rfl) ?_
  refine tq_S (As := [.int x1]) (rest := []) (ws := []) ⟨hx, hb, hml, hown, htg⟩ (c_X6_isShelf l D E G x1) (va_cwS 1 htg (oh_gS q_290 q_291 q_66 q_292) rfl rfl rfl pdX6_isShelf ⟨Nat.le_of_ble_eq_true rfl, Nat.le_of_ble_eq_true rfl⟩) hK va_nil hG hS rfl hl.1 rfl (Nat.le_of_ble_eq_true rfl) dX6_holds_1 ⟨Nat.le_of_ble_eq_true rfl, Nat.le_of_ble_eq_true rfl⟩ (fun r_1 hq_2 => ?_)
  refine lv_if_eq (tgt := 19) hx hb dX6_holds_4 (by decide) (fun (c_3 : r_1 = 0) => ?_) (fun (c_3 : ¬ (r_1 = 0)) => ?_)
  · have u_4 := hq_2.2.2 c_3
    refine lv_iconst (v := (-1)) hx hb dX6_holds_19 (by decide) ?_
    rw [hQ]
    exact W.iret (v := (-1)) hx hb hr (fun t ht hW => ⟨(-1), rfl, (fun S hS0 => (pif_neg u_4).symm), ht⟩) (fun q h => by cases h) dX6_holds_20
  · have u_5 := hq_2.2.1 c_3
    refine lv_aload_n hx hb dX6_holds_7 rfl (lv_at hl 0 rfl) ?_
    refine va_get (D := D) (ci := 6) (v := .ref (a 4)) (C := RX6) (T := TX6) (N := 9) hx hb htg ig_6 hown hK hP 0 (oh_wg (by decide) (sX_0 hT)) rfl 4 (by decide) (htg _ q_262) (fun _ h9 => h9) rfl dX6_holds_8 ?_
    refine va_get (D := D) (ci := 3) (v := .ref (a 29)) (C := RX3) (T := TX3) (N := 3) hx hb htg ig_3 hown hK hP 4 (oh_wg (by decide) (sX_4 hT)) rfl 0 (by decide) (htg _ q_199) (fun _ h9 => h9) rfl dX6_holds_11 ?_
    refine lv_iload_n hx hb dX6_holds_14 rfl (lv_at hl 1 rfl) ?_
    have n_6 : vp_in x1 8 := (rg_in u_5 (by decide))
    refine th_iald hx hb hK hP 29 (by decide) (sX_29 hT) n_6 dX6_holds_15 ?_
    refine lv_goto (tgt := 20) hx hb dX6_holds_16 (by decide) ?_
    rw [hQ]
    exact W.iret (v := ga (C 29) (x1).toNatClampNeg) hx hb hr (fun t ht hW => ⟨ga (C 29) (x1).toNatClampNeg, rfl, (fun S hS0 => Eq.trans (hS0 _ (sh8 (rg_w (lo := 0) (hi := 7) u_5 (by decide)))).1 (pif_pos (oh_rgI (p := 0) (q := 7) (rg_w (lo := 0) (hi := 7) u_5 (by decide)))).symm), ht⟩) (fun q h => by cases h) dX6_holds_20

set_option maxHeartbeats 4000000 in
set_option maxRecDepth 100000 in
theorem e2_X6_show (l : Launch) (D : va_G) (E : Nat → ClassId) (G : Nat → Nat) (sz : Nat) (a : Nat → Nat) (C : Nat → va_E) (hT : TyX a E C) (x1 : Int32) (x2 : Int32) : Met l yX6_show (oh_w yX6_show cX6_show 3 (some .int)) ({ frames := 2, cells := 0, slots := 0, locals := 44 }) (oh_Pm D E G [.ref (a 0), .int x1, .int x2] (oh_W 35 a C) sz) (va_Qi (fun r (u : Nat → va_E) => TyX a E u ∧ fr [(7, 8), (29, 31)] [] C u ∧ (∀ A : LA, absX 10 C A → r = spShow A x1 x2) ∧ (∀ A : LA, absX 10 C A → ∀ S : HZ, absHX C S → absHX u (spSw A S x1 x2))) (oh_B D (va_A (oh_W 35 a C) sz) (fun u => oh_W 35 a u)) (va_A (oh_W 35 a C) sz)) 0 0 (va_A (oh_W 35 a C) sz) := by
  refine Met.ofW (cc := cX6_show) (maxL := 3) (ret := (some .int)) (by decide) rfl ?_
  intro p e s m args below meth c s₁ B hml hv
  obtain ⟨rfl, hsz, hP, hK, hD0, hG⟩ := hv
  have hx := B.exec
  have hb := B.bytes
  have hr := B.returns
  have hts := atoms_spec (ws := (oh_w yX6_show cX6_show 3 (some .int))) B.pre
  have htg : ∀ w ∈ oh_t, w.before _ s = true := fun w h => hts w (List.mem_cons_of_mem _ h)
  have hown : s.vm.findClass RX6 = some m.cls := findClass_of_methodNamed B.named
  have hlocks := B.notSynchronized
  have hT0 := hT
  subst hsz
  have hD := hD0.self (sz := s.heap.size)
  generalize hAe : va_A (oh_W 35 a C) s.heap.size = A at hD hG ⊢
  have hA : ∀ q : Nat, s.heap.size ≤ q → A q := fun q h => by rw [← hAe]; exact Or.inr h
  have hS : va_S A s.heap s.heap [] := va_S.rf
  have hF : fr [(7, 8), (29, 31)] [] C C := fr_rf
  have hl := lv_entry ([.ref (a 0), .int x1, .int x2]) (n := 3) (Nat.le_of_ble_eq_true rfl)
  rw [lg_entry_eq]
  generalize (lg_sl ([.ref (a 0), .int x1, .int x2]) ++ List.replicate (3 - (lg_sl ([.ref (a 0), .int x1, .int x2])).length) Slot.unset).toArray = ls at hl ⊢
  have hl : lv_has ls 3 [(0, .ref (a 0)), (1, .int x1), (2, .int x2)] := hl
  refine oh_genQ (fun Q hQ => ?_)
  refine lv_iload_n hx hb dX6_show_0 rfl (lv_at hl 1 rfl) ?_
  refine tq_S (As := [.int x1]) (rest := []) (ws := []) ⟨hx, hb, hml, hown, htg⟩ (c_X6_isShelf l D E G x1) (va_cwS 1 htg (oh_gS q_290 q_291 q_66 q_292) rfl rfl rfl pdX6_isShelf ⟨Nat.le_of_ble_eq_true rfl, Nat.le_of_ble_eq_true rfl⟩) hK va_nil hG hS rfl hl.1 rfl (Nat.le_of_ble_eq_true rfl) dX6_show_1 ⟨Nat.le_of_ble_eq_true rfl, Nat.le_of_ble_eq_true rfl⟩ (fun r_1 hq_2 => ?_)
  refine lv_if_eq (tgt := 20) hx hb dX6_show_4 (by decide) (fun (c_3 : r_1 = 0) => ?_) (fun (c_3 : ¬ (r_1 = 0)) => ?_)
  · have u_4 := hq_2.2.2 c_3
    refine lv_aload_n hx hb dX6_show_20 rfl (lv_at hl 0 rfl) ?_
    refine lv_bipush (v := (-2)) hx hb dX6_show_21 (by decide) ?_
    refine tm_V (As := [.int (-2)]) (rest := []) ⟨hx, hb, hml, hown, htg⟩ (c_X6_refuse l D E G _ a C hT ((-2) : Int32)) (cwV 1 htg (oh_gV q_296 q_298 q_0 q_66 q_299) rfl rfl rfl pdVX6_refuse ⟨Nat.le_of_ble_eq_true rfl, Nat.le_of_ble_eq_true rfl⟩) hK hP hD hG hS hA (va_recv hK hP (ci := 6) (q0 := 0) rfl (oh_wg (by decide) (sX_0 hT))) rfl hl.1 rfl (Nat.le_of_ble_eq_true rfl) dX6_show_23 ⟨Nat.le_of_ble_eq_true rfl, Nat.le_of_ble_eq_true rfl⟩ (fun r_5 C_6 H locs hq_7 hP hD hS => ?_)
    obtain ⟨hT, f_8, hq_7⟩ := hq_7
    have hF := fr_tr hF f_8 (by decide) (by decide)
    refine W.widen (k := 0) (n := 0) (Nat.le_refl _) (Nat.le_refl _) ?_
    have t_9 := hT
    rw [hQ]
    exact W.iret (v := r_5) hx hb hr (fun t ht hW => ⟨⟨r_5, C_6, rfl, ⟨hT, hF, ⟨(fun A hA => Eq.trans hq_7 (pif_neg (fun h8 => u_4 h8.1)).symm), (fun A hA S hS0 => by rw [show spSw A S x1 x2 = S from pif_neg (fun h8 => u_4 h8.1)]; exact (hx_fr hS0 (f_8.1 29 rfl (by decide)) (f_8.1 30 rfl (by decide))))⟩⟩, ⟨by rw [ht]; exact hP, hD⟩⟩, hS.F ht⟩) hS.2.2 dX6_show_26
  · have u_10 := hq_2.2.1 c_3
    refine lv_iload_n hx hb dX6_show_7 rfl (lv_at hl 2 rfl) ?_
    refine lv_iconst (v := (-1)) hx hb dX6_show_8 (by decide) ?_
    refine lv_icmp_eq (tgt := 27) hx hb dX6_show_9 (by decide) (fun (c_11 : x2 = (-1)) => ?_) (fun (c_11 : ¬ (x2 = (-1))) => ?_)
    · refine lv_aload_n hx hb dX6_show_27 rfl (lv_at hl 0 rfl) ?_
      refine va_get (D := D) (ci := 6) (v := .ref (a 4)) (C := RX6) (T := TX6) (N := 9) hx hb htg ig_6 hown hK hP 0 (oh_wg (by decide) (sX_0 hT)) rfl 4 (by decide) (htg _ q_262) (fun _ h9 => h9) rfl dX6_show_28 ?_
      refine lv_iload_n hx hb dX6_show_31 rfl (lv_at hl 1 rfl) ?_
      refine lv_iload_n hx hb dX6_show_32 rfl (lv_at hl 2 rfl) ?_
      refine tm_Vv (As := [.int x1, .int x2]) (rest := []) ⟨hx, hb, hml, hown, htg⟩ (e_X3_putBridge l D E G _ a C hT x1 x2 (rg_w u_10 (by decide))) (cwV 2 htg (oh_gV q_370 q_371 q_372 q_70 q_373) rfl rfl rfl pdVX3_putBridge ⟨Nat.le_of_ble_eq_true rfl, Nat.le_of_ble_eq_true rfl⟩) hK hP hD hG hS hA (va_recv hK hP (ci := 3) (q0 := 4) rfl (oh_wg (by decide) (sX_4 hT))) rfl hl.1 rfl (Nat.le_of_ble_eq_true rfl) dX6_show_33 ⟨Nat.le_of_ble_eq_true rfl, Nat.le_of_ble_eq_true rfl⟩ (fun C_13 H locs hq_14 hP hD hS => ?_)
      obtain ⟨hT, f_15, hq_14⟩ := hq_14
      have hF := fr_tr hF f_15 (by decide) (by decide)
      refine W.widen (k := 0) (n := 0) (Nat.le_refl _) (Nat.le_refl _) ?_
      have t_16 := hT
      refine lv_iconst (v := 1) hx hb dX6_show_36 (by decide) ?_
      rw [hQ]
      exact W.iret (v := 1) hx hb hr (fun t ht hW => ⟨⟨1, C_13, rfl, ⟨hT, hF, ⟨(fun A hA => (pif_pos ⟨(oh_rgI (p := 0) (q := 7) (rg_w (lo := 0) (hi := 7) u_10 (by decide))), (Or.inl c_11)⟩).symm), (fun A hA S hS0 => by rw [show spSw A S x1 x2 = _ from pif_pos ⟨(oh_rgI (p := 0) (q := 7) (rg_w (lo := 0) (hi := 7) u_10 (by decide))), (Or.inl c_11)⟩]; exact hx_put hS0 (cdB_ok (Or.inl c_11)).1 (cdB_ok (Or.inl c_11)).2 hq_14.1 hq_14.2)⟩⟩, ⟨by rw [ht]; exact hP, hD⟩⟩, hS.F ht⟩) hS.2.2 dX6_show_37
    · refine lv_aload_n hx hb dX6_show_12 rfl (lv_at hl 0 rfl) ?_
      refine lv_iload_n hx hb dX6_show_13 rfl (lv_at hl 2 rfl) ?_
      refine tq_V (As := [.int x2]) (rest := []) (ws := (oh_W 35 a C)) ⟨hx, hb, hml, hown, htg⟩ (e_X6_isBridge l D E G a C hT x2) (cwV 1 htg (oh_gV q_366 q_368 q_2 q_66 q_369) rfl rfl rfl pdVX6_isBridge ⟨Nat.le_of_ble_eq_true rfl, Nat.le_of_ble_eq_true rfl⟩) hK hP hG hS (va_recv hK hP (ci := 6) (q0 := 0) rfl (oh_wg (by decide) (sX_0 hT))) rfl hl.1 rfl (Nat.le_of_ble_eq_true rfl) dX6_show_14 ⟨Nat.le_of_ble_eq_true rfl, Nat.le_of_ble_eq_true rfl⟩ (fun r_17 hq_18 => ?_)
      refine lv_if_ne (tgt := 27) hx hb dX6_show_17 (by decide) (fun (c_19 : ¬ (r_17 = 0)) => ?_) (fun (c_19 : r_17 = 0) => ?_)
      · have u_20 := hq_18.2.1 c_19
        refine lv_aload_n hx hb dX6_show_27 rfl (lv_at hl 0 rfl) ?_
        refine va_get (D := D) (ci := 6) (v := .ref (a 4)) (C := RX6) (T := TX6) (N := 9) hx hb htg ig_6 hown hK hP 0 (oh_wg (by decide) (sX_0 hT)) rfl 4 (by decide) (htg _ q_262) (fun _ h9 => h9) rfl dX6_show_28 ?_
        refine lv_iload_n hx hb dX6_show_31 rfl (lv_at hl 1 rfl) ?_
        refine lv_iload_n hx hb dX6_show_32 rfl (lv_at hl 2 rfl) ?_
        refine tm_Vv (As := [.int x1, .int x2]) (rest := []) ⟨hx, hb, hml, hown, htg⟩ (e_X3_putBridge l D E G _ a C hT x1 x2 (rg_w u_10 (by decide))) (cwV 2 htg (oh_gV q_370 q_371 q_372 q_70 q_373) rfl rfl rfl pdVX3_putBridge ⟨Nat.le_of_ble_eq_true rfl, Nat.le_of_ble_eq_true rfl⟩) hK hP hD hG hS hA (va_recv hK hP (ci := 3) (q0 := 4) rfl (oh_wg (by decide) (sX_4 hT))) rfl hl.1 rfl (Nat.le_of_ble_eq_true rfl) dX6_show_33 ⟨Nat.le_of_ble_eq_true rfl, Nat.le_of_ble_eq_true rfl⟩ (fun C_22 H locs hq_23 hP hD hS => ?_)
        obtain ⟨hT, f_24, hq_23⟩ := hq_23
        have hF := fr_tr hF f_24 (by decide) (by decide)
        refine W.widen (k := 0) (n := 0) (Nat.le_refl _) (Nat.le_refl _) ?_
        have t_25 := hT
        refine lv_iconst (v := 1) hx hb dX6_show_36 (by decide) ?_
        rw [hQ]
        exact W.iret (v := 1) hx hb hr (fun t ht hW => ⟨⟨1, C_22, rfl, ⟨hT, hF, ⟨(fun A hA => (pif_pos ⟨(oh_rgI (p := 0) (q := 7) (rg_w (lo := 0) (hi := 7) u_10 (by decide))), (Or.inr (by rw [← (show ga (C 10) ((1 : Int32)).toNatClampNeg = A 5 0 1 from hA.1 1 (by decide))]; exact u_20.2))⟩).symm), (fun A hA S hS0 => by rw [show spSw A S x1 x2 = _ from pif_pos ⟨(oh_rgI (p := 0) (q := 7) (rg_w (lo := 0) (hi := 7) u_10 (by decide))), (Or.inr (by rw [← (show ga (C 10) ((1 : Int32)).toNatClampNeg = A 5 0 1 from hA.1 1 (by decide))]; exact u_20.2))⟩]; exact hx_put hS0 (cdB_ok (Or.inr (rg_w (lo := 0) (hi := 15) u_20.1 (by decide)))).1 (cdB_ok (Or.inr (rg_w (lo := 0) (hi := 15) u_20.1 (by decide)))).2 hq_23.1 hq_23.2)⟩⟩, ⟨by rw [ht]; exact hP, hD⟩⟩, hS.F ht⟩) hS.2.2 dX6_show_37
      · have u_26 := hq_18.2.2 c_19
        refine lv_aload_n hx hb dX6_show_20 rfl (lv_at hl 0 rfl) ?_
        refine lv_bipush (v := (-2)) hx hb dX6_show_21 (by decide) ?_
        refine tm_V (As := [.int (-2)]) (rest := []) ⟨hx, hb, hml, hown, htg⟩ (c_X6_refuse l D E G _ a C hT ((-2) : Int32)) (cwV 1 htg (oh_gV q_296 q_298 q_0 q_66 q_299) rfl rfl rfl pdVX6_refuse ⟨Nat.le_of_ble_eq_true rfl, Nat.le_of_ble_eq_true rfl⟩) hK hP hD hG hS hA (va_recv hK hP (ci := 6) (q0 := 0) rfl (oh_wg (by decide) (sX_0 hT))) rfl hl.1 rfl (Nat.le_of_ble_eq_true rfl) dX6_show_23 ⟨Nat.le_of_ble_eq_true rfl, Nat.le_of_ble_eq_true rfl⟩ (fun r_27 C_28 H locs hq_29 hP hD hS => ?_)
        obtain ⟨hT, f_30, hq_29⟩ := hq_29
        have hF := fr_tr hF f_30 (by decide) (by decide)
        refine W.widen (k := 0) (n := 0) (Nat.le_refl _) (Nat.le_refl _) ?_
        have t_31 := hT
        rw [hQ]
        exact W.iret (v := r_27) hx hb hr (fun t ht hW => ⟨⟨r_27, C_28, rfl, ⟨hT, hF, ⟨(fun A hA => Eq.trans hq_29 (pif_neg (fun h8 => by rcases h8.2 with h7 | h7; exact c_11 h7; rw [← (show ga (C 10) ((1 : Int32)).toNatClampNeg = A 5 0 1 from hA.1 1 (by decide))] at h7; exact u_26 h7)).symm), (fun A hA S hS0 => by rw [show spSw A S x1 x2 = S from pif_neg (fun h8 => by rcases h8.2 with h7 | h7; exact c_11 h7; rw [← (show ga (C 10) ((1 : Int32)).toNatClampNeg = A 5 0 1 from hA.1 1 (by decide))] at h7; exact u_26 h7)]; exact (hx_fr hS0 (f_30.1 29 rfl (by decide)) (f_30.1 30 rfl (by decide))))⟩⟩, ⟨by rw [ht]; exact hP, hD⟩⟩, hS.F ht⟩) hS.2.2 dX6_show_26

set_option maxHeartbeats 4000000 in
set_option maxRecDepth 100000 in
theorem e_X6_set (l : Launch) (D : va_G) (E : Nat → ClassId) (G : Nat → Nat) (sz : Nat) (a : Nat → Nat) (C : Nat → va_E) (hT : TyX a E C) (x1 : Int32) (x2 : Int32) (x3 : Int64) : Met l yX6_set (oh_w yX6_set cX6_set 6 (some .int)) ({ frames := 3, cells := 0, slots := 0, locals := 63 }) (oh_Pm D E G [.ref (a 0), .int x1, .int x2, .long x3] (oh_W 35 a C) sz) (va_Qi (fun r (u : Nat → va_E) => TyX a E u ∧ fr [(7, 8), (31, 32)] [] C u ∧ (∀ S : HZ, absHX C S → r = spSet S x1 x2)) (oh_B D (va_A (oh_W 35 a C) sz) (fun u => oh_W 35 a u)) (va_A (oh_W 35 a C) sz)) 0 0 (va_A (oh_W 35 a C) sz) := by
  refine Met.ofW (cc := cX6_set) (maxL := 6) (ret := (some .int)) (by decide) rfl ?_
  intro p e s m args below meth c s₁ B hml hv
  obtain ⟨rfl, hsz, hP, hK, hD0, hG⟩ := hv
  have hx := B.exec
  have hb := B.bytes
  have hr := B.returns
  have hts := atoms_spec (ws := (oh_w yX6_set cX6_set 6 (some .int))) B.pre
  have htg : ∀ w ∈ oh_t, w.before _ s = true := fun w h => hts w (List.mem_cons_of_mem _ h)
  have hown : s.vm.findClass RX6 = some m.cls := findClass_of_methodNamed B.named
  have hlocks := B.notSynchronized
  have hT0 := hT
  subst hsz
  have hD := hD0.self (sz := s.heap.size)
  generalize hAe : va_A (oh_W 35 a C) s.heap.size = A at hD hG ⊢
  have hA : ∀ q : Nat, s.heap.size ≤ q → A q := fun q h => by rw [← hAe]; exact Or.inr h
  have hS : va_S A s.heap s.heap [] := va_S.rf
  have hF : fr [(7, 8), (31, 32)] [] C C := fr_rf
  have hl := lv_entry ([.ref (a 0), .int x1, .int x2, .long x3]) (n := 6) (Nat.le_of_ble_eq_true rfl)
  rw [lg_entry_eq]
  generalize (lg_sl ([.ref (a 0), .int x1, .int x2, .long x3]) ++ List.replicate (6 - (lg_sl ([.ref (a 0), .int x1, .int x2, .long x3])).length) Slot.unset).toArray = ls at hl ⊢
  have hl : lv_has ls 6 [(0, .ref (a 0)), (1, .int x1), (2, .int x2), (3, .long x3)] := hl
  refine oh_genQ (fun Q hQ => ?_)
  refine lv_aload_n hx hb dX6_set_0 rfl (lv_at hl 0 rfl) ?_
  refine lv_iload_n hx hb dX6_set_1 rfl (lv_at hl 1 rfl) ?_
  refine tq_V (As := [.int x1]) (rest := []) (ws := (oh_W 35 a C)) ⟨hx, hb, hml, hown, htg⟩ (e_X6_whyNoRow l D E G a C hT x1) (cwV 1 htg (oh_gV q_308 q_310 q_1 q_66 q_311) rfl rfl rfl pdVX6_whyNoRow ⟨Nat.le_of_ble_eq_true rfl, Nat.le_of_ble_eq_true rfl⟩) hK hP hG hS (va_recv hK hP (ci := 6) (q0 := 0) rfl (oh_wg (by decide) (sX_0 hT))) rfl hl.1 rfl (Nat.le_of_ble_eq_true rfl) dX6_set_2 ⟨Nat.le_of_ble_eq_true rfl, Nat.le_of_ble_eq_true rfl⟩ (fun r_1 hq_2 => ?_)
  refine lv_istore (lv' := [(5, .int r_1), (0, .ref (a 0)), (1, .int x1), (2, .int x2), (3, .long x3)]) hx hb dX6_set_5 hl (by decide) rfl (fun ls hl => ?_)
  refine lv_iload hx hb dX6_set_7 (lv_at hl 0 rfl) ?_
  refine lv_if_eq (tgt := 19) hx hb dX6_set_9 (by decide) (fun (c_3 : r_1 = 0) => ?_) (fun (c_3 : ¬ (r_1 = 0)) => ?_)
  · have u_4 := hq_2.1 c_3
    refine lv_iload_n hx hb dX6_set_19 rfl (lv_at hl 3 rfl) ?_
    refine lv_iconst (v := 0) hx hb dX6_set_20 (by decide) ?_
    refine lv_aload_n hx hb dX6_set_21 rfl (lv_at hl 1 rfl) ?_
    refine va_get (D := D) (ci := 6) (v := .ref (a 4)) (C := RX6) (T := TX6) (N := 9) hx hb htg ig_6 hown hK hP 0 (oh_wg (by decide) (sX_0 hT)) rfl 4 (by decide) (htg _ q_262) (fun _ h9 => h9) rfl dX6_set_22 ?_
    refine va_get (D := D) (ci := 3) (v := .ref (a 30)) (C := RX3) (T := TX3) (N := 3) hx hb htg ig_3 hown hK hP 4 (oh_wg (by decide) (sX_4 hT)) rfl 1 (by decide) (htg _ q_201) (fun _ h9 => h9) rfl dX6_set_25 ?_
    refine lv_iload_n hx hb dX6_set_28 rfl (lv_at hl 2 rfl) ?_
    have n_5 : vp_in x1 8 := (rg_in u_4 (by decide))
    refine th_iald hx hb hK hP 30 (by decide) (sX_30 hT) n_5 dX6_set_29 ?_
    refine lv_iconst (v := 1) hx hb dX6_set_30 (by decide) ?_
    refine lv_isub hx hb dX6_set_31 ?_
    refine tq_S (As := [.int x2, .int 0, .int ((ga (C 30) (x1).toNatClampNeg) - 1)]) (rest := []) (ws := []) ⟨hx, hb, hml, hown, htg⟩ (c_X6_within l D E G x2 (0 : Int32) ((ga (C 30) (x1).toNatClampNeg) - 1)) (va_cwS 3 htg (oh_gS q_293 q_294 q_66 q_295) rfl rfl rfl pdX6_within ⟨Nat.le_of_ble_eq_true rfl, Nat.le_of_ble_eq_true rfl⟩) hK va_nil hG hS rfl hl.1 rfl (Nat.le_of_ble_eq_true rfl) dX6_set_32 ⟨Nat.le_of_ble_eq_true rfl, Nat.le_of_ble_eq_true rfl⟩ (fun r_6 hq_7 => ?_)
    refine lv_if_ne (tgt := 45) hx hb dX6_set_35 (by decide) (fun (c_8 : ¬ (r_6 = 0)) => ?_) (fun (c_8 : r_6 = 0) => ?_)
    · have u_9 := hq_7.2.1 c_8
      refine lv_aload_n hx hb dX6_set_45 rfl (lv_at hl 1 rfl) ?_
      refine va_get (D := D) (ci := 6) (v := .ref (a 4)) (C := RX6) (T := TX6) (N := 9) hx hb htg ig_6 hown hK hP 0 (oh_wg (by decide) (sX_0 hT)) rfl 4 (by decide) (htg _ q_262) (fun _ h9 => h9) rfl dX6_set_46 ?_
      refine lv_iload_n hx hb dX6_set_49 rfl (lv_at hl 2 rfl) ?_
      refine lv_iload_n hx hb dX6_set_50 rfl (lv_at hl 3 rfl) ?_
      refine lv_lload_n hx hb dX6_set_51 rfl (lv_at hl 4 rfl) ?_
      refine tm_Vv (As := [.int x1, .int x2, .long x3]) (rest := []) ⟨hx, hb, hml, hown, htg⟩ (c_X3_putElement l D E G _ a C hT x1 x2 x3 (rg_w u_4 (by decide)) (rg_w (rn_leu u_9.2 (rn_lel u_9.1 (rg_c (v := 0) (lo := 0) (hi := 0) (by decide)) (rg_any _)) (rg_sub (lo := (-1)) (hi := 39) (tA_rdc (lo := 0) (hi := 40) (tX_30 hT0) n_5 (Nat.mod_one _) (by decide)) (rg_c (v := 1) (lo := 1) (hi := 1) (by decide)) (by decide))) (by decide))) (cwV 3 htg (oh_gV q_320 q_321 q_322 q_70 q_323) rfl rfl rfl pdVX3_putElement ⟨Nat.le_of_ble_eq_true rfl, Nat.le_of_ble_eq_true rfl⟩) hK hP hD hG hS hA (va_recv hK hP (ci := 3) (q0 := 4) rfl (oh_wg (by decide) (sX_4 hT))) rfl hl.1 rfl (Nat.le_of_ble_eq_true rfl) dX6_set_52 ⟨Nat.le_of_ble_eq_true rfl, Nat.le_of_ble_eq_true rfl⟩ (fun C_11 H locs hq_12 hP hD hS => ?_)
      obtain ⟨hT, f_13, hq_12⟩ := hq_12
      have hF := fr_tr hF f_13 (by decide) (by decide)
      refine W.widen (k := 0) (n := 0) (Nat.le_refl _) (Nat.le_refl _) ?_
      have t_14 := hT
      refine lv_iconst (v := 1) hx hb dX6_set_55 (by decide) ?_
      rw [hQ]
      exact W.iret (v := 1) hx hb hr (fun t ht hW => ⟨⟨1, C_11, rfl, ⟨hT, hF, (fun S hS0 => by have w := (Eq.trans (whyR_x hS0 x1).symm (Eq.trans (hq_2.2).symm c_3)); have z := (hS0 _ (sh8 (rg_w (lo := 0) (hi := 7) u_4 (by decide)))).2.2 (whyR_0 w).2; exact (Eq.trans (pif_pos w) (pif_pos (by rw [← z]; exact ⟨u_9.1, u_9.2⟩))).symm)⟩, ⟨by rw [ht]; exact hP, hD⟩⟩, hS.F ht⟩) hS.2.2 dX6_set_56
    · have u_15 := hq_7.2.2 c_8
      refine lv_aload_n hx hb dX6_set_38 rfl (lv_at hl 1 rfl) ?_
      refine lv_bipush (v := (-2)) hx hb dX6_set_39 (by decide) ?_
      refine tm_V (As := [.int (-2)]) (rest := []) ⟨hx, hb, hml, hown, htg⟩ (c_X6_refuse l D E G _ a C hT ((-2) : Int32)) (cwV 1 htg (oh_gV q_296 q_298 q_0 q_66 q_299) rfl rfl rfl pdVX6_refuse ⟨Nat.le_of_ble_eq_true rfl, Nat.le_of_ble_eq_true rfl⟩) hK hP hD hG hS hA (va_recv hK hP (ci := 6) (q0 := 0) rfl (oh_wg (by decide) (sX_0 hT))) rfl hl.1 rfl (Nat.le_of_ble_eq_true rfl) dX6_set_41 ⟨Nat.le_of_ble_eq_true rfl, Nat.le_of_ble_eq_true rfl⟩ (fun r_16 C_17 H locs hq_18 hP hD hS => ?_)
      obtain ⟨hT, f_19, hq_18⟩ := hq_18
      have hF := fr_tr hF f_19 (by decide) (by decide)
      refine W.widen (k := 0) (n := 0) (Nat.le_refl _) (Nat.le_refl _) ?_
      have t_20 := hT
      rw [hQ]
      exact W.iret (v := r_16) hx hb hr (fun t ht hW => ⟨⟨r_16, C_17, rfl, ⟨hT, hF, (fun S hS0 => by have w := (Eq.trans (whyR_x hS0 x1).symm (Eq.trans (hq_2.2).symm c_3)); have z := (hS0 _ (sh8 (rg_w (lo := 0) (hi := 7) u_4 (by decide)))).2.2 (whyR_0 w).2; exact Eq.trans hq_18 (Eq.trans (pif_pos w) (pif_neg (by rw [← z]; exact u_15))).symm)⟩, ⟨by rw [ht]; exact hP, hD⟩⟩, hS.F ht⟩) hS.2.2 dX6_set_44
  · refine lv_aload_n hx hb dX6_set_12 rfl (lv_at hl 1 rfl) ?_
    refine lv_iload hx hb dX6_set_13 (lv_at hl 0 rfl) ?_
    refine tm_V (As := [.int r_1]) (rest := []) ⟨hx, hb, hml, hown, htg⟩ (c_X6_refuse l D E G _ a C hT r_1) (cwV 1 htg (oh_gV q_296 q_298 q_0 q_66 q_299) rfl rfl rfl pdVX6_refuse ⟨Nat.le_of_ble_eq_true rfl, Nat.le_of_ble_eq_true rfl⟩) hK hP hD hG hS hA (va_recv hK hP (ci := 6) (q0 := 0) rfl (oh_wg (by decide) (sX_0 hT))) rfl hl.1 rfl (Nat.le_of_ble_eq_true rfl) dX6_set_15 ⟨Nat.le_of_ble_eq_true rfl, Nat.le_of_ble_eq_true rfl⟩ (fun r_21 C_22 H locs hq_23 hP hD hS => ?_)
    obtain ⟨hT, f_24, hq_23⟩ := hq_23
    have hF := fr_tr hF f_24 (by decide) (by decide)
    refine W.widen (k := 0) (n := 0) (Nat.le_refl _) (Nat.le_refl _) ?_
    have t_25 := hT
    rw [hQ]
    exact W.iret (v := r_21) hx hb hr (fun t ht hW => ⟨⟨r_21, C_22, rfl, ⟨hT, hF, (fun S hS0 => Eq.trans (Eq.trans hq_23 hq_2.2) (Eq.trans (whyR_x hS0 x1) (pif_neg (fun h8 => c_3 (Eq.trans hq_2.2 (Eq.trans (whyR_x hS0 x1) h8)))).symm))⟩, ⟨by rw [ht]; exact hP, hD⟩⟩, hS.F ht⟩) hS.2.2 dX6_set_18

set_option maxHeartbeats 4000000 in
set_option maxRecDepth 100000 in
theorem e_X6_copy (l : Launch) (D : va_G) (E : Nat → ClassId) (G : Nat → Nat) (sz : Nat) (a : Nat → Nat) (C : Nat → va_E) (hT : TyX a E C) (x1 : Int32) (x2 : Int32) (x3 : Int32) (x4 : Int32) (x5 : Int32) : Met l yX6_copy (oh_w yX6_copy cX6_copy 6 (some .int)) ({ frames := 3, cells := 0, slots := 0, locals := 64 }) (oh_Pm D E G [.ref (a 0), .int x1, .int x2, .int x3, .int x4, .int x5] (oh_W 35 a C) sz) (va_Qi (fun r (u : Nat → va_E) => TyX a E u ∧ fr [(7, 8), (31, 32)] [] C u ∧ (∀ S : HZ, absHX C S → r = spCopy S x1 x2 x3 x4 x5)) (oh_B D (va_A (oh_W 35 a C) sz) (fun u => oh_W 35 a u)) (va_A (oh_W 35 a C) sz)) 0 0 (va_A (oh_W 35 a C) sz) := by
  refine Met.ofW (cc := cX6_copy) (maxL := 6) (ret := (some .int)) (by decide) rfl ?_
  intro p e s m args below meth c s₁ B hml hv
  obtain ⟨rfl, hsz, hP, hK, hD0, hG⟩ := hv
  have hx := B.exec
  have hb := B.bytes
  have hr := B.returns
  have hts := atoms_spec (ws := (oh_w yX6_copy cX6_copy 6 (some .int))) B.pre
  have htg : ∀ w ∈ oh_t, w.before _ s = true := fun w h => hts w (List.mem_cons_of_mem _ h)
  have hown : s.vm.findClass RX6 = some m.cls := findClass_of_methodNamed B.named
  have hlocks := B.notSynchronized
  have hT0 := hT
  subst hsz
  have hD := hD0.self (sz := s.heap.size)
  generalize hAe : va_A (oh_W 35 a C) s.heap.size = A at hD hG ⊢
  have hA : ∀ q : Nat, s.heap.size ≤ q → A q := fun q h => by rw [← hAe]; exact Or.inr h
  have hS : va_S A s.heap s.heap [] := va_S.rf
  have hF : fr [(7, 8), (31, 32)] [] C C := fr_rf
  have hl := lv_entry ([.ref (a 0), .int x1, .int x2, .int x3, .int x4, .int x5]) (n := 6) (Nat.le_of_ble_eq_true rfl)
  rw [lg_entry_eq]
  generalize (lg_sl ([.ref (a 0), .int x1, .int x2, .int x3, .int x4, .int x5]) ++ List.replicate (6 - (lg_sl ([.ref (a 0), .int x1, .int x2, .int x3, .int x4, .int x5])).length) Slot.unset).toArray = ls at hl ⊢
  have hl : lv_has ls 6 [(0, .ref (a 0)), (1, .int x1), (2, .int x2), (3, .int x3), (4, .int x4), (5, .int x5)] := hl
  refine oh_genQ (fun Q hQ => ?_)
  refine lv_iload_n hx hb dX6_copy_0 rfl (lv_at hl 1 rfl) ?_
  refine tq_S (As := [.int x1]) (rest := []) (ws := []) ⟨hx, hb, hml, hown, htg⟩ (c_X6_isShelf l D E G x1) (va_cwS 1 htg (oh_gS q_290 q_291 q_66 q_292) rfl rfl rfl pdX6_isShelf ⟨Nat.le_of_ble_eq_true rfl, Nat.le_of_ble_eq_true rfl⟩) hK va_nil hG hS rfl hl.1 rfl (Nat.le_of_ble_eq_true rfl) dX6_copy_1 ⟨Nat.le_of_ble_eq_true rfl, Nat.le_of_ble_eq_true rfl⟩ (fun r_1 hq_2 => ?_)
  refine lv_if_eq (tgt := 14) hx hb dX6_copy_4 (by decide) (fun (c_3 : r_1 = 0) => ?_) (fun (c_3 : ¬ (r_1 = 0)) => ?_)
  · have u_4 := hq_2.2.2 c_3
    refine lv_aload_n hx hb dX6_copy_14 rfl (lv_at hl 0 rfl) ?_
    refine lv_bipush (v := (-2)) hx hb dX6_copy_15 (by decide) ?_
    refine tm_V (As := [.int (-2)]) (rest := []) ⟨hx, hb, hml, hown, htg⟩ (c_X6_refuse l D E G _ a C hT ((-2) : Int32)) (cwV 1 htg (oh_gV q_296 q_298 q_0 q_66 q_299) rfl rfl rfl pdVX6_refuse ⟨Nat.le_of_ble_eq_true rfl, Nat.le_of_ble_eq_true rfl⟩) hK hP hD hG hS hA (va_recv hK hP (ci := 6) (q0 := 0) rfl (oh_wg (by decide) (sX_0 hT))) rfl hl.1 rfl (Nat.le_of_ble_eq_true rfl) dX6_copy_17 ⟨Nat.le_of_ble_eq_true rfl, Nat.le_of_ble_eq_true rfl⟩ (fun r_5 C_6 H locs hq_7 hP hD hS => ?_)
    obtain ⟨hT, f_8, hq_7⟩ := hq_7
    have hF := fr_tr hF f_8 (by decide) (by decide)
    refine W.widen (k := 0) (n := 0) (Nat.le_refl _) (Nat.le_refl _) ?_
    have t_9 := hT
    rw [hQ]
    exact W.iret (v := r_5) hx hb hr (fun t ht hW => ⟨⟨r_5, C_6, rfl, ⟨hT, hF, (fun S hS0 => Eq.trans hq_7 (pif_neg (fun h8 => u_4 h8.1)).symm)⟩, ⟨by rw [ht]; exact hP, hD⟩⟩, hS.F ht⟩) hS.2.2 dX6_copy_20
  · have u_10 := hq_2.2.1 c_3
    refine lv_iload_n hx hb dX6_copy_7 rfl (lv_at hl 2 rfl) ?_
    refine tq_S (As := [.int x2]) (rest := []) (ws := []) ⟨hx, hb, hml, hown, htg⟩ (c_X6_isShelf l D E G x2) (va_cwS 1 htg (oh_gS q_290 q_291 q_66 q_292) rfl rfl rfl pdX6_isShelf ⟨Nat.le_of_ble_eq_true rfl, Nat.le_of_ble_eq_true rfl⟩) hK va_nil hG hS rfl hl.1 rfl (Nat.le_of_ble_eq_true rfl) dX6_copy_8 ⟨Nat.le_of_ble_eq_true rfl, Nat.le_of_ble_eq_true rfl⟩ (fun r_11 hq_12 => ?_)
    refine lv_if_ne (tgt := 21) hx hb dX6_copy_11 (by decide) (fun (c_13 : ¬ (r_11 = 0)) => ?_) (fun (c_13 : r_11 = 0) => ?_)
    · have u_14 := hq_12.2.1 c_13
      refine lv_aload_n hx hb dX6_copy_21 rfl (lv_at hl 0 rfl) ?_
      refine va_get (D := D) (ci := 6) (v := .ref (a 4)) (C := RX6) (T := TX6) (N := 9) hx hb htg ig_6 hown hK hP 0 (oh_wg (by decide) (sX_0 hT)) rfl 4 (by decide) (htg _ q_262) (fun _ h9 => h9) rfl dX6_copy_22 ?_
      refine lv_iload_n hx hb dX6_copy_25 rfl (lv_at hl 1 rfl) ?_
      refine tq_V (As := [.int x1]) (rest := []) (ws := (oh_W 35 a C)) ⟨hx, hb, hml, hown, htg⟩ (e_X3_holdsBridge l D E G a C hT x1 (rg_w u_10 (by decide))) (cwV 1 htg (oh_gV q_312 q_313 q_314 q_70 q_315) rfl rfl rfl pdVX3_holdsBridge ⟨Nat.le_of_ble_eq_true rfl, Nat.le_of_ble_eq_true rfl⟩) hK hP hG hS (va_recv hK hP (ci := 3) (q0 := 4) rfl (oh_wg (by decide) (sX_4 hT))) rfl hl.1 rfl (Nat.le_of_ble_eq_true rfl) dX6_copy_26 ⟨Nat.le_of_ble_eq_true rfl, Nat.le_of_ble_eq_true rfl⟩ (fun r_15 hq_16 => ?_)
      refine lv_if_ne (tgt := 55) hx hb dX6_copy_29 (by decide) (fun (c_17 : ¬ (r_15 = 0)) => ?_) (fun (c_17 : r_15 = 0) => ?_)
      · have u_18 := hq_16.2.1 c_17
        refine lv_aload_n hx hb dX6_copy_55 rfl (lv_at hl 0 rfl) ?_
        refine lv_bipush (v := (-3)) hx hb dX6_copy_56 (by decide) ?_
        refine tm_V (As := [.int (-3)]) (rest := []) ⟨hx, hb, hml, hown, htg⟩ (c_X6_refuse l D E G _ a C hT ((-3) : Int32)) (cwV 1 htg (oh_gV q_296 q_298 q_0 q_66 q_299) rfl rfl rfl pdVX6_refuse ⟨Nat.le_of_ble_eq_true rfl, Nat.le_of_ble_eq_true rfl⟩) hK hP hD hG hS hA (va_recv hK hP (ci := 6) (q0 := 0) rfl (oh_wg (by decide) (sX_0 hT))) rfl hl.1 rfl (Nat.le_of_ble_eq_true rfl) dX6_copy_58 ⟨Nat.le_of_ble_eq_true rfl, Nat.le_of_ble_eq_true rfl⟩ (fun r_19 C_20 H locs hq_21 hP hD hS => ?_)
        obtain ⟨hT, f_22, hq_21⟩ := hq_21
        have hF := fr_tr hF f_22 (by decide) (by decide)
        refine W.widen (k := 0) (n := 0) (Nat.le_refl _) (Nat.le_refl _) ?_
        have t_23 := hT
        rw [hQ]
        exact W.iret (v := r_19) hx hb hr (fun t ht hW => ⟨⟨r_19, C_20, rfl, ⟨hT, hF, (fun S hS0 => by have e1 := (hS0 _ (sh8 (rg_w (lo := 0) (hi := 7) u_10 (by decide)))).1; have e2 := (hS0 _ (sh8 (rg_w (lo := 0) (hi := 7) u_14 (by decide)))).1; exact Eq.trans hq_21 (Eq.trans (pif_pos ⟨(oh_rgI (p := 0) (q := 7) (rg_w (lo := 0) (hi := 7) u_10 (by decide))), (oh_rgI (p := 0) (q := 7) (rg_w (lo := 0) (hi := 7) u_14 (by decide)))⟩) (pif_pos (by rw [← e1, ← e2]; exact Or.inl u_18))).symm)⟩, ⟨by rw [ht]; exact hP, hD⟩⟩, hS.F ht⟩) hS.2.2 dX6_copy_61
      · have u_24 := hq_16.2.2 c_17
        refine lv_aload_n hx hb dX6_copy_32 rfl (lv_at hl 0 rfl) ?_
        refine va_get (D := D) (ci := 6) (v := .ref (a 4)) (C := RX6) (T := TX6) (N := 9) hx hb htg ig_6 hown hK hP 0 (oh_wg (by decide) (sX_0 hT)) rfl 4 (by decide) (htg _ q_262) (fun _ h9 => h9) rfl dX6_copy_33 ?_
        refine lv_iload_n hx hb dX6_copy_36 rfl (lv_at hl 2 rfl) ?_
        refine tq_V (As := [.int x2]) (rest := []) (ws := (oh_W 35 a C)) ⟨hx, hb, hml, hown, htg⟩ (e_X3_holdsBridge l D E G a C hT x2 (rg_w u_14 (by decide))) (cwV 1 htg (oh_gV q_312 q_313 q_314 q_70 q_315) rfl rfl rfl pdVX3_holdsBridge ⟨Nat.le_of_ble_eq_true rfl, Nat.le_of_ble_eq_true rfl⟩) hK hP hG hS (va_recv hK hP (ci := 3) (q0 := 4) rfl (oh_wg (by decide) (sX_4 hT))) rfl hl.1 rfl (Nat.le_of_ble_eq_true rfl) dX6_copy_37 ⟨Nat.le_of_ble_eq_true rfl, Nat.le_of_ble_eq_true rfl⟩ (fun r_25 hq_26 => ?_)
        refine lv_if_ne (tgt := 55) hx hb dX6_copy_40 (by decide) (fun (c_27 : ¬ (r_25 = 0)) => ?_) (fun (c_27 : r_25 = 0) => ?_)
        · have u_28 := hq_26.2.1 c_27
          refine lv_aload_n hx hb dX6_copy_55 rfl (lv_at hl 0 rfl) ?_
          refine lv_bipush (v := (-3)) hx hb dX6_copy_56 (by decide) ?_
          refine tm_V (As := [.int (-3)]) (rest := []) ⟨hx, hb, hml, hown, htg⟩ (c_X6_refuse l D E G _ a C hT ((-3) : Int32)) (cwV 1 htg (oh_gV q_296 q_298 q_0 q_66 q_299) rfl rfl rfl pdVX6_refuse ⟨Nat.le_of_ble_eq_true rfl, Nat.le_of_ble_eq_true rfl⟩) hK hP hD hG hS hA (va_recv hK hP (ci := 6) (q0 := 0) rfl (oh_wg (by decide) (sX_0 hT))) rfl hl.1 rfl (Nat.le_of_ble_eq_true rfl) dX6_copy_58 ⟨Nat.le_of_ble_eq_true rfl, Nat.le_of_ble_eq_true rfl⟩ (fun r_29 C_30 H locs hq_31 hP hD hS => ?_)
          obtain ⟨hT, f_32, hq_31⟩ := hq_31
          have hF := fr_tr hF f_32 (by decide) (by decide)
          refine W.widen (k := 0) (n := 0) (Nat.le_refl _) (Nat.le_refl _) ?_
          have t_33 := hT
          rw [hQ]
          exact W.iret (v := r_29) hx hb hr (fun t ht hW => ⟨⟨r_29, C_30, rfl, ⟨hT, hF, (fun S hS0 => by have e1 := (hS0 _ (sh8 (rg_w (lo := 0) (hi := 7) u_10 (by decide)))).1; have e2 := (hS0 _ (sh8 (rg_w (lo := 0) (hi := 7) u_14 (by decide)))).1; exact Eq.trans hq_31 (Eq.trans (pif_pos ⟨(oh_rgI (p := 0) (q := 7) (rg_w (lo := 0) (hi := 7) u_10 (by decide))), (oh_rgI (p := 0) (q := 7) (rg_w (lo := 0) (hi := 7) u_14 (by decide)))⟩) (pif_pos (by rw [← e1, ← e2]; exact Or.inr (Or.inl u_28)))).symm)⟩, ⟨by rw [ht]; exact hP, hD⟩⟩, hS.F ht⟩) hS.2.2 dX6_copy_61
        · have u_34 := hq_26.2.2 c_27
          refine lv_aload_n hx hb dX6_copy_43 rfl (lv_at hl 0 rfl) ?_
          refine va_get (D := D) (ci := 6) (v := .ref (a 4)) (C := RX6) (T := TX6) (N := 9) hx hb htg ig_6 hown hK hP 0 (oh_wg (by decide) (sX_0 hT)) rfl 4 (by decide) (htg _ q_262) (fun _ h9 => h9) rfl dX6_copy_44 ?_
          refine lv_iload_n hx hb dX6_copy_47 rfl (lv_at hl 1 rfl) ?_
          refine lv_iload_n hx hb dX6_copy_48 rfl (lv_at hl 2 rfl) ?_
          refine tq_V (As := [.int x1, .int x2]) (rest := []) (ws := (oh_W 35 a C)) ⟨hx, hb, hml, hown, htg⟩ (e_X3_holdsUnlikeRows l D E G a C hT x1 x2 (rg_w u_10 (by decide)) (rg_w u_14 (by decide))) (cwV 2 htg (oh_gV q_331 q_332 q_333 q_70 q_334) rfl rfl rfl pdVX3_holdsUnlikeRows ⟨Nat.le_of_ble_eq_true rfl, Nat.le_of_ble_eq_true rfl⟩) hK hP hG hS (va_recv hK hP (ci := 3) (q0 := 4) rfl (oh_wg (by decide) (sX_4 hT))) rfl hl.1 rfl (Nat.le_of_ble_eq_true rfl) dX6_copy_49 ⟨Nat.le_of_ble_eq_true rfl, Nat.le_of_ble_eq_true rfl⟩ (fun r_35 hq_36 => ?_)
          refine lv_if_eq (tgt := 62) hx hb dX6_copy_52 (by decide) (fun (c_37 : r_35 = 0) => ?_) (fun (c_37 : ¬ (r_35 = 0)) => ?_)
          · have u_38 := hq_36.2.2 c_37
            refine lv_aload_n hx hb dX6_copy_62 rfl (lv_at hl 0 rfl) ?_
            refine va_get (D := D) (ci := 6) (v := .ref (a 4)) (C := RX6) (T := TX6) (N := 9) hx hb htg ig_6 hown hK hP 0 (oh_wg (by decide) (sX_0 hT)) rfl 4 (by decide) (htg _ q_262) (fun _ h9 => h9) rfl dX6_copy_63 ?_
            refine lv_iload_n hx hb dX6_copy_66 rfl (lv_at hl 1 rfl) ?_
            refine tq_V (As := [.int x1]) (rest := []) (ws := (oh_W 35 a C)) ⟨hx, hb, hml, hown, htg⟩ (e_X3_holdsNothing l D E G a C hT x1 (rg_w u_10 (by decide))) (cwV 1 htg (oh_gV q_316 q_317 q_318 q_70 q_319) rfl rfl rfl pdVX3_holdsNothing ⟨Nat.le_of_ble_eq_true rfl, Nat.le_of_ble_eq_true rfl⟩) hK hP hG hS (va_recv hK hP (ci := 3) (q0 := 4) rfl (oh_wg (by decide) (sX_4 hT))) rfl hl.1 rfl (Nat.le_of_ble_eq_true rfl) dX6_copy_67 ⟨Nat.le_of_ble_eq_true rfl, Nat.le_of_ble_eq_true rfl⟩ (fun r_39 hq_40 => ?_)
            refine lv_if_ne (tgt := 84) hx hb dX6_copy_70 (by decide) (fun (c_41 : ¬ (r_39 = 0)) => ?_) (fun (c_41 : r_39 = 0) => ?_)
            · have u_42 := hq_40.2.1 c_41
              refine lv_aload_n hx hb dX6_copy_84 rfl (lv_at hl 0 rfl) ?_
              refine lv_bipush (v := (-4)) hx hb dX6_copy_85 (by decide) ?_
              refine tm_V (As := [.int (-4)]) (rest := []) ⟨hx, hb, hml, hown, htg⟩ (c_X6_refuse l D E G _ a C hT ((-4) : Int32)) (cwV 1 htg (oh_gV q_296 q_298 q_0 q_66 q_299) rfl rfl rfl pdVX6_refuse ⟨Nat.le_of_ble_eq_true rfl, Nat.le_of_ble_eq_true rfl⟩) hK hP hD hG hS hA (va_recv hK hP (ci := 6) (q0 := 0) rfl (oh_wg (by decide) (sX_0 hT))) rfl hl.1 rfl (Nat.le_of_ble_eq_true rfl) dX6_copy_87 ⟨Nat.le_of_ble_eq_true rfl, Nat.le_of_ble_eq_true rfl⟩ (fun r_43 C_44 H locs hq_45 hP hD hS => ?_)
              obtain ⟨hT, f_46, hq_45⟩ := hq_45
              have hF := fr_tr hF f_46 (by decide) (by decide)
              refine W.widen (k := 0) (n := 0) (Nat.le_refl _) (Nat.le_refl _) ?_
              have t_47 := hT
              rw [hQ]
              exact W.iret (v := r_43) hx hb hr (fun t ht hW => ⟨⟨r_43, C_44, rfl, ⟨hT, hF, (fun S hS0 => by have e1 := (hS0 _ (sh8 (rg_w (lo := 0) (hi := 7) u_10 (by decide)))).1; have e2 := (hS0 _ (sh8 (rg_w (lo := 0) (hi := 7) u_14 (by decide)))).1; exact Eq.trans hq_45 (Eq.trans (pif_pos ⟨(oh_rgI (p := 0) (q := 7) (rg_w (lo := 0) (hi := 7) u_10 (by decide))), (oh_rgI (p := 0) (q := 7) (rg_w (lo := 0) (hi := 7) u_14 (by decide)))⟩) (Eq.trans (pif_neg (by rw [← e1, ← e2]; exact fun h8 => by rcases h8 with h7 | h7 | h7; exact u_24 h7; exact u_34 h7; exact u_38 h7)) (pif_pos (by rw [← e1, ← e2]; exact Or.inl u_42)))).symm)⟩, ⟨by rw [ht]; exact hP, hD⟩⟩, hS.F ht⟩) hS.2.2 dX6_copy_90
            · have u_48 := hq_40.2.2 c_41
              refine lv_aload_n hx hb dX6_copy_73 rfl (lv_at hl 0 rfl) ?_
              refine va_get (D := D) (ci := 6) (v := .ref (a 4)) (C := RX6) (T := TX6) (N := 9) hx hb htg ig_6 hown hK hP 0 (oh_wg (by decide) (sX_0 hT)) rfl 4 (by decide) (htg _ q_262) (fun _ h9 => h9) rfl dX6_copy_74 ?_
              refine lv_iload_n hx hb dX6_copy_77 rfl (lv_at hl 2 rfl) ?_
              refine tq_V (As := [.int x2]) (rest := []) (ws := (oh_W 35 a C)) ⟨hx, hb, hml, hown, htg⟩ (e_X3_holdsNothing l D E G a C hT x2 (rg_w u_14 (by decide))) (cwV 1 htg (oh_gV q_316 q_317 q_318 q_70 q_319) rfl rfl rfl pdVX3_holdsNothing ⟨Nat.le_of_ble_eq_true rfl, Nat.le_of_ble_eq_true rfl⟩) hK hP hG hS (va_recv hK hP (ci := 3) (q0 := 4) rfl (oh_wg (by decide) (sX_4 hT))) rfl hl.1 rfl (Nat.le_of_ble_eq_true rfl) dX6_copy_78 ⟨Nat.le_of_ble_eq_true rfl, Nat.le_of_ble_eq_true rfl⟩ (fun r_49 hq_50 => ?_)
              refine lv_if_eq (tgt := 91) hx hb dX6_copy_81 (by decide) (fun (c_51 : r_49 = 0) => ?_) (fun (c_51 : ¬ (r_49 = 0)) => ?_)
              · have u_52 := hq_50.2.2 c_51
                refine lv_iload hx hb dX6_copy_91 (lv_at hl 5 rfl) ?_
                refine lv_iconst (v := 0) hx hb dX6_copy_93 (by decide) ?_
                refine lv_bipush (v := 40) hx hb dX6_copy_94 (by decide) ?_
                refine tq_S (As := [.int x5, .int 0, .int 40]) (rest := []) (ws := []) ⟨hx, hb, hml, hown, htg⟩ (c_X6_within l D E G x5 (0 : Int32) (40 : Int32)) (va_cwS 3 htg (oh_gS q_293 q_294 q_66 q_295) rfl rfl rfl pdX6_within ⟨Nat.le_of_ble_eq_true rfl, Nat.le_of_ble_eq_true rfl⟩) hK va_nil hG hS rfl hl.1 rfl (Nat.le_of_ble_eq_true rfl) dX6_copy_96 ⟨Nat.le_of_ble_eq_true rfl, Nat.le_of_ble_eq_true rfl⟩ (fun r_53 hq_54 => ?_)
                refine lv_if_eq (tgt := 143) hx hb dX6_copy_99 (by decide) (fun (c_55 : r_53 = 0) => ?_) (fun (c_55 : ¬ (r_53 = 0)) => ?_)
                · have u_56 := hq_54.2.2 c_55
                  refine lv_aload_n hx hb dX6_copy_143 rfl (lv_at hl 0 rfl) ?_
                  refine lv_bipush (v := (-2)) hx hb dX6_copy_144 (by decide) ?_
                  refine tm_V (As := [.int (-2)]) (rest := []) ⟨hx, hb, hml, hown, htg⟩ (c_X6_refuse l D E G _ a C hT ((-2) : Int32)) (cwV 1 htg (oh_gV q_296 q_298 q_0 q_66 q_299) rfl rfl rfl pdVX6_refuse ⟨Nat.le_of_ble_eq_true rfl, Nat.le_of_ble_eq_true rfl⟩) hK hP hD hG hS hA (va_recv hK hP (ci := 6) (q0 := 0) rfl (oh_wg (by decide) (sX_0 hT))) rfl hl.1 rfl (Nat.le_of_ble_eq_true rfl) dX6_copy_146 ⟨Nat.le_of_ble_eq_true rfl, Nat.le_of_ble_eq_true rfl⟩ (fun r_57 C_58 H locs hq_59 hP hD hS => ?_)
                  obtain ⟨hT, f_60, hq_59⟩ := hq_59
                  have hF := fr_tr hF f_60 (by decide) (by decide)
                  refine W.widen (k := 0) (n := 0) (Nat.le_refl _) (Nat.le_refl _) ?_
                  have t_61 := hT
                  rw [hQ]
                  exact W.iret (v := r_57) hx hb hr (fun t ht hW => ⟨⟨r_57, C_58, rfl, ⟨hT, hF, (fun S hS0 => by have e1 := (hS0 _ (sh8 (rg_w (lo := 0) (hi := 7) u_10 (by decide)))).1; have e2 := (hS0 _ (sh8 (rg_w (lo := 0) (hi := 7) u_14 (by decide)))).1; have z1 := (hS0 _ (sh8 (rg_w (lo := 0) (hi := 7) u_10 (by decide)))).2.2 (by rw [← e1]; exact ⟨u_48, u_24⟩); have z2 := (hS0 _ (sh8 (rg_w (lo := 0) (hi := 7) u_14 (by decide)))).2.2 (by rw [← e2]; exact ⟨u_52, u_34⟩); exact Eq.trans hq_59 (Eq.trans (pif_pos ⟨(oh_rgI (p := 0) (q := 7) (rg_w (lo := 0) (hi := 7) u_10 (by decide))), (oh_rgI (p := 0) (q := 7) (rg_w (lo := 0) (hi := 7) u_14 (by decide)))⟩) (Eq.trans (pif_neg (by rw [← e1, ← e2]; exact fun h8 => by rcases h8 with h7 | h7 | h7; exact u_24 h7; exact u_34 h7; exact u_38 h7)) (Eq.trans (pif_neg (by rw [← e1, ← e2]; exact fun h8 => by rcases h8 with h7 | h7; exact u_48 h7; exact u_52 h7)) (pif_neg (by unfold okCp; rw [← z1, ← z2]; exact fun h8 => u_56 h8.1))))).symm)⟩, ⟨by rw [ht]; exact hP, hD⟩⟩, hS.F ht⟩) hS.2.2 dX6_copy_149
                · have u_62 := hq_54.2.1 c_55
                  refine lv_iload_n hx hb dX6_copy_102 rfl (lv_at hl 3 rfl) ?_
                  refine lv_iconst (v := 0) hx hb dX6_copy_103 (by decide) ?_
                  refine lv_aload_n hx hb dX6_copy_104 rfl (lv_at hl 0 rfl) ?_
                  refine va_get (D := D) (ci := 6) (v := .ref (a 4)) (C := RX6) (T := TX6) (N := 9) hx hb htg ig_6 hown hK hP 0 (oh_wg (by decide) (sX_0 hT)) rfl 4 (by decide) (htg _ q_262) (fun _ h9 => h9) rfl dX6_copy_105 ?_
                  refine va_get (D := D) (ci := 3) (v := .ref (a 30)) (C := RX3) (T := TX3) (N := 3) hx hb htg ig_3 hown hK hP 4 (oh_wg (by decide) (sX_4 hT)) rfl 1 (by decide) (htg _ q_201) (fun _ h9 => h9) rfl dX6_copy_108 ?_
                  refine lv_iload_n hx hb dX6_copy_111 rfl (lv_at hl 1 rfl) ?_
                  have n_63 : vp_in x1 8 := (rg_in u_10 (by decide))
                  refine th_iald hx hb hK hP 30 (by decide) (sX_30 hT) n_63 dX6_copy_112 ?_
                  refine lv_iload hx hb dX6_copy_113 (lv_at hl 5 rfl) ?_
                  refine lv_isub hx hb dX6_copy_115 ?_
                  refine tq_S (As := [.int x3, .int 0, .int ((ga (C 30) (x1).toNatClampNeg) - x5)]) (rest := []) (ws := []) ⟨hx, hb, hml, hown, htg⟩ (c_X6_within l D E G x3 (0 : Int32) ((ga (C 30) (x1).toNatClampNeg) - x5)) (va_cwS 3 htg (oh_gS q_293 q_294 q_66 q_295) rfl rfl rfl pdX6_within ⟨Nat.le_of_ble_eq_true rfl, Nat.le_of_ble_eq_true rfl⟩) hK va_nil hG hS rfl hl.1 rfl (Nat.le_of_ble_eq_true rfl) dX6_copy_116 ⟨Nat.le_of_ble_eq_true rfl, Nat.le_of_ble_eq_true rfl⟩ (fun r_64 hq_65 => ?_)
                  refine lv_if_eq (tgt := 143) hx hb dX6_copy_119 (by decide) (fun (c_66 : r_64 = 0) => ?_) (fun (c_66 : ¬ (r_64 = 0)) => ?_)
                  · have u_67 := hq_65.2.2 c_66
                    refine lv_aload_n hx hb dX6_copy_143 rfl (lv_at hl 0 rfl) ?_
                    refine lv_bipush (v := (-2)) hx hb dX6_copy_144 (by decide) ?_
                    refine tm_V (As := [.int (-2)]) (rest := []) ⟨hx, hb, hml, hown, htg⟩ (c_X6_refuse l D E G _ a C hT ((-2) : Int32)) (cwV 1 htg (oh_gV q_296 q_298 q_0 q_66 q_299) rfl rfl rfl pdVX6_refuse ⟨Nat.le_of_ble_eq_true rfl, Nat.le_of_ble_eq_true rfl⟩) hK hP hD hG hS hA (va_recv hK hP (ci := 6) (q0 := 0) rfl (oh_wg (by decide) (sX_0 hT))) rfl hl.1 rfl (Nat.le_of_ble_eq_true rfl) dX6_copy_146 ⟨Nat.le_of_ble_eq_true rfl, Nat.le_of_ble_eq_true rfl⟩ (fun r_68 C_69 H locs hq_70 hP hD hS => ?_)
                    obtain ⟨hT, f_71, hq_70⟩ := hq_70
                    have hF := fr_tr hF f_71 (by decide) (by decide)
                    refine W.widen (k := 0) (n := 0) (Nat.le_refl _) (Nat.le_refl _) ?_
                    have t_72 := hT
                    rw [hQ]
                    exact W.iret (v := r_68) hx hb hr (fun t ht hW => ⟨⟨r_68, C_69, rfl, ⟨hT, hF, (fun S hS0 => by have e1 := (hS0 _ (sh8 (rg_w (lo := 0) (hi := 7) u_10 (by decide)))).1; have e2 := (hS0 _ (sh8 (rg_w (lo := 0) (hi := 7) u_14 (by decide)))).1; have z1 := (hS0 _ (sh8 (rg_w (lo := 0) (hi := 7) u_10 (by decide)))).2.2 (by rw [← e1]; exact ⟨u_48, u_24⟩); have z2 := (hS0 _ (sh8 (rg_w (lo := 0) (hi := 7) u_14 (by decide)))).2.2 (by rw [← e2]; exact ⟨u_52, u_34⟩); exact Eq.trans hq_70 (Eq.trans (pif_pos ⟨(oh_rgI (p := 0) (q := 7) (rg_w (lo := 0) (hi := 7) u_10 (by decide))), (oh_rgI (p := 0) (q := 7) (rg_w (lo := 0) (hi := 7) u_14 (by decide)))⟩) (Eq.trans (pif_neg (by rw [← e1, ← e2]; exact fun h8 => by rcases h8 with h7 | h7 | h7; exact u_24 h7; exact u_34 h7; exact u_38 h7)) (Eq.trans (pif_neg (by rw [← e1, ← e2]; exact fun h8 => by rcases h8 with h7 | h7; exact u_48 h7; exact u_52 h7)) (pif_neg (by unfold okCp; rw [← z1, ← z2]; exact fun h8 => u_67 h8.2.1))))).symm)⟩, ⟨by rw [ht]; exact hP, hD⟩⟩, hS.F ht⟩) hS.2.2 dX6_copy_149
                  · have u_73 := hq_65.2.1 c_66
                    refine lv_iload hx hb dX6_copy_122 (lv_at hl 4 rfl) ?_
                    refine lv_iconst (v := 0) hx hb dX6_copy_124 (by decide) ?_
                    refine lv_aload_n hx hb dX6_copy_125 rfl (lv_at hl 0 rfl) ?_
                    refine va_get (D := D) (ci := 6) (v := .ref (a 4)) (C := RX6) (T := TX6) (N := 9) hx hb htg ig_6 hown hK hP 0 (oh_wg (by decide) (sX_0 hT)) rfl 4 (by decide) (htg _ q_262) (fun _ h9 => h9) rfl dX6_copy_126 ?_
                    refine va_get (D := D) (ci := 3) (v := .ref (a 30)) (C := RX3) (T := TX3) (N := 3) hx hb htg ig_3 hown hK hP 4 (oh_wg (by decide) (sX_4 hT)) rfl 1 (by decide) (htg _ q_201) (fun _ h9 => h9) rfl dX6_copy_129 ?_
                    refine lv_iload_n hx hb dX6_copy_132 rfl (lv_at hl 2 rfl) ?_
                    have n_74 : vp_in x2 8 := (rg_in u_14 (by decide))
                    refine th_iald hx hb hK hP 30 (by decide) (sX_30 hT) n_74 dX6_copy_133 ?_
                    refine lv_iload hx hb dX6_copy_134 (lv_at hl 5 rfl) ?_
                    refine lv_isub hx hb dX6_copy_136 ?_
                    refine tq_S (As := [.int x4, .int 0, .int ((ga (C 30) (x2).toNatClampNeg) - x5)]) (rest := []) (ws := []) ⟨hx, hb, hml, hown, htg⟩ (c_X6_within l D E G x4 (0 : Int32) ((ga (C 30) (x2).toNatClampNeg) - x5)) (va_cwS 3 htg (oh_gS q_293 q_294 q_66 q_295) rfl rfl rfl pdX6_within ⟨Nat.le_of_ble_eq_true rfl, Nat.le_of_ble_eq_true rfl⟩) hK va_nil hG hS rfl hl.1 rfl (Nat.le_of_ble_eq_true rfl) dX6_copy_137 ⟨Nat.le_of_ble_eq_true rfl, Nat.le_of_ble_eq_true rfl⟩ (fun r_75 hq_76 => ?_)
                    refine lv_if_ne (tgt := 150) hx hb dX6_copy_140 (by decide) (fun (c_77 : ¬ (r_75 = 0)) => ?_) (fun (c_77 : r_75 = 0) => ?_)
                    · have u_78 := hq_76.2.1 c_77
                      refine lv_aload_n hx hb dX6_copy_150 rfl (lv_at hl 0 rfl) ?_
                      refine va_get (D := D) (ci := 6) (v := .ref (a 4)) (C := RX6) (T := TX6) (N := 9) hx hb htg ig_6 hown hK hP 0 (oh_wg (by decide) (sX_0 hT)) rfl 4 (by decide) (htg _ q_262) (fun _ h9 => h9) rfl dX6_copy_151 ?_
                      refine lv_iload_n hx hb dX6_copy_154 rfl (lv_at hl 1 rfl) ?_
                      refine lv_iload_n hx hb dX6_copy_155 rfl (lv_at hl 2 rfl) ?_
                      refine lv_iload_n hx hb dX6_copy_156 rfl (lv_at hl 3 rfl) ?_
                      refine lv_iload hx hb dX6_copy_157 (lv_at hl 4 rfl) ?_
                      refine lv_iload hx hb dX6_copy_159 (lv_at hl 5 rfl) ?_
                      refine tm_Vv (As := [.int x1, .int x2, .int x3, .int x4, .int x5]) (rest := []) ⟨hx, hb, hml, hown, htg⟩ (c_X3_copyElements l D E G _ a C hT x1 x2 x3 x4 x5 (rg_w u_10 (by decide)) (rg_w u_14 (by decide)) (rg_w (rn_leu u_73.2 (rn_lel u_73.1 (rg_c (v := 0) (lo := 0) (hi := 0) (by decide)) (rg_any _)) (rg_sub (lo := (-40)) (hi := 40) (tA_rdc (lo := 0) (hi := 40) (tX_30 hT0) n_63 (Nat.mod_one _) (by decide)) (rn_leu u_62.2 (rn_lel u_62.1 (rg_c (v := 0) (lo := 0) (hi := 0) (by decide)) (rg_any _)) (rg_c (v := 40) (lo := 40) (hi := 40) (by decide))) (by decide))) (by decide)) (rg_w (rn_leu u_78.2 (rn_lel u_78.1 (rg_c (v := 0) (lo := 0) (hi := 0) (by decide)) (rg_any _)) (rg_sub (lo := (-40)) (hi := 40) (tA_rdc (lo := 0) (hi := 40) (tX_30 hT0) n_74 (Nat.mod_one _) (by decide)) (rn_leu u_62.2 (rn_lel u_62.1 (rg_c (v := 0) (lo := 0) (hi := 0) (by decide)) (rg_any _)) (rg_c (v := 40) (lo := 40) (hi := 40) (by decide))) (by decide))) (by decide)) (rg_w (rn_leu u_62.2 (rn_lel u_62.1 (rg_c (v := 0) (lo := 0) (hi := 0) (by decide)) (rg_any _)) (rg_c (v := 40) (lo := 40) (hi := 40) (by decide))) (by decide)) (oh_cpp u_73.2 (tA_rdc (lo := 0) (hi := 40) (tX_30 hT0) n_63 (Nat.mod_one _) (by decide)) (rn_leu u_62.2 (rn_lel u_62.1 (rg_c (v := 0) (lo := 0) (hi := 0) (by decide)) (rg_any _)) (rg_c (v := 40) (lo := 40) (hi := 40) (by decide)))) (oh_cpp u_78.2 (tA_rdc (lo := 0) (hi := 40) (tX_30 hT0) n_74 (Nat.mod_one _) (by decide)) (rn_leu u_62.2 (rn_lel u_62.1 (rg_c (v := 0) (lo := 0) (hi := 0) (by decide)) (rg_any _)) (rg_c (v := 40) (lo := 40) (hi := 40) (by decide))))) (cwV 5 htg (oh_gV q_341 q_342 q_343 q_70 q_344) rfl rfl rfl pdVX3_copyElements ⟨Nat.le_of_ble_eq_true rfl, Nat.le_of_ble_eq_true rfl⟩) hK hP hD hG hS hA (va_recv hK hP (ci := 3) (q0 := 4) rfl (oh_wg (by decide) (sX_4 hT))) rfl hl.1 rfl (Nat.le_of_ble_eq_true rfl) dX6_copy_161 ⟨Nat.le_of_ble_eq_true rfl, Nat.le_of_ble_eq_true rfl⟩ (fun C_80 H locs hq_81 hP hD hS => ?_)
                      obtain ⟨hT, f_82, hq_81⟩ := hq_81
                      have hF := fr_tr hF f_82 (by decide) (by decide)
                      refine W.widen (k := 0) (n := 0) (Nat.le_refl _) (Nat.le_refl _) ?_
                      have t_83 := hT
                      refine lv_iload hx hb dX6_copy_164 (lv_at hl 5 rfl) ?_
                      rw [hQ]
                      exact W.iret (v := x5) hx hb hr (fun t ht hW => ⟨⟨x5, C_80, rfl, ⟨hT, hF, (fun S hS0 => by have e1 := (hS0 _ (sh8 (rg_w (lo := 0) (hi := 7) u_10 (by decide)))).1; have e2 := (hS0 _ (sh8 (rg_w (lo := 0) (hi := 7) u_14 (by decide)))).1; have z1 := (hS0 _ (sh8 (rg_w (lo := 0) (hi := 7) u_10 (by decide)))).2.2 (by rw [← e1]; exact ⟨u_48, u_24⟩); have z2 := (hS0 _ (sh8 (rg_w (lo := 0) (hi := 7) u_14 (by decide)))).2.2 (by rw [← e2]; exact ⟨u_52, u_34⟩); exact (Eq.trans (pif_pos ⟨(oh_rgI (p := 0) (q := 7) (rg_w (lo := 0) (hi := 7) u_10 (by decide))), (oh_rgI (p := 0) (q := 7) (rg_w (lo := 0) (hi := 7) u_14 (by decide)))⟩) (Eq.trans (pif_neg (by rw [← e1, ← e2]; exact fun h8 => by rcases h8 with h7 | h7 | h7; exact u_24 h7; exact u_34 h7; exact u_38 h7)) (Eq.trans (pif_neg (by rw [← e1, ← e2]; exact fun h8 => by rcases h8 with h7 | h7; exact u_48 h7; exact u_52 h7)) (pif_pos (by unfold okCp; rw [← z1, ← z2]; exact ⟨(oh_rgI (p := 0) (q := 40) (rg_w (lo := 0) (hi := 40) (rn_leu u_62.2 (rn_lel u_62.1 (rg_c (v := 0) (lo := 0) (hi := 0) (by decide)) (rg_any _)) (rg_c (v := 40) (lo := 40) (hi := 40) (by decide))) (by decide))), ⟨u_73.1, u_73.2⟩, ⟨u_78.1, u_78.2⟩⟩))))).symm)⟩, ⟨by rw [ht]; exact hP, hD⟩⟩, hS.F ht⟩) hS.2.2 dX6_copy_166
                    · have u_84 := hq_76.2.2 c_77
                      refine lv_aload_n hx hb dX6_copy_143 rfl (lv_at hl 0 rfl) ?_
                      refine lv_bipush (v := (-2)) hx hb dX6_copy_144 (by decide) ?_
                      refine tm_V (As := [.int (-2)]) (rest := []) ⟨hx, hb, hml, hown, htg⟩ (c_X6_refuse l D E G _ a C hT ((-2) : Int32)) (cwV 1 htg (oh_gV q_296 q_298 q_0 q_66 q_299) rfl rfl rfl pdVX6_refuse ⟨Nat.le_of_ble_eq_true rfl, Nat.le_of_ble_eq_true rfl⟩) hK hP hD hG hS hA (va_recv hK hP (ci := 6) (q0 := 0) rfl (oh_wg (by decide) (sX_0 hT))) rfl hl.1 rfl (Nat.le_of_ble_eq_true rfl) dX6_copy_146 ⟨Nat.le_of_ble_eq_true rfl, Nat.le_of_ble_eq_true rfl⟩ (fun r_85 C_86 H locs hq_87 hP hD hS => ?_)
                      obtain ⟨hT, f_88, hq_87⟩ := hq_87
                      have hF := fr_tr hF f_88 (by decide) (by decide)
                      refine W.widen (k := 0) (n := 0) (Nat.le_refl _) (Nat.le_refl _) ?_
                      have t_89 := hT
                      rw [hQ]
                      exact W.iret (v := r_85) hx hb hr (fun t ht hW => ⟨⟨r_85, C_86, rfl, ⟨hT, hF, (fun S hS0 => by have e1 := (hS0 _ (sh8 (rg_w (lo := 0) (hi := 7) u_10 (by decide)))).1; have e2 := (hS0 _ (sh8 (rg_w (lo := 0) (hi := 7) u_14 (by decide)))).1; have z1 := (hS0 _ (sh8 (rg_w (lo := 0) (hi := 7) u_10 (by decide)))).2.2 (by rw [← e1]; exact ⟨u_48, u_24⟩); have z2 := (hS0 _ (sh8 (rg_w (lo := 0) (hi := 7) u_14 (by decide)))).2.2 (by rw [← e2]; exact ⟨u_52, u_34⟩); exact Eq.trans hq_87 (Eq.trans (pif_pos ⟨(oh_rgI (p := 0) (q := 7) (rg_w (lo := 0) (hi := 7) u_10 (by decide))), (oh_rgI (p := 0) (q := 7) (rg_w (lo := 0) (hi := 7) u_14 (by decide)))⟩) (Eq.trans (pif_neg (by rw [← e1, ← e2]; exact fun h8 => by rcases h8 with h7 | h7 | h7; exact u_24 h7; exact u_34 h7; exact u_38 h7)) (Eq.trans (pif_neg (by rw [← e1, ← e2]; exact fun h8 => by rcases h8 with h7 | h7; exact u_48 h7; exact u_52 h7)) (pif_neg (by unfold okCp; rw [← z1, ← z2]; exact fun h8 => u_84 h8.2.2))))).symm)⟩, ⟨by rw [ht]; exact hP, hD⟩⟩, hS.F ht⟩) hS.2.2 dX6_copy_149
              · have u_90 := hq_50.2.1 c_51
                refine lv_aload_n hx hb dX6_copy_84 rfl (lv_at hl 0 rfl) ?_
                refine lv_bipush (v := (-4)) hx hb dX6_copy_85 (by decide) ?_
                refine tm_V (As := [.int (-4)]) (rest := []) ⟨hx, hb, hml, hown, htg⟩ (c_X6_refuse l D E G _ a C hT ((-4) : Int32)) (cwV 1 htg (oh_gV q_296 q_298 q_0 q_66 q_299) rfl rfl rfl pdVX6_refuse ⟨Nat.le_of_ble_eq_true rfl, Nat.le_of_ble_eq_true rfl⟩) hK hP hD hG hS hA (va_recv hK hP (ci := 6) (q0 := 0) rfl (oh_wg (by decide) (sX_0 hT))) rfl hl.1 rfl (Nat.le_of_ble_eq_true rfl) dX6_copy_87 ⟨Nat.le_of_ble_eq_true rfl, Nat.le_of_ble_eq_true rfl⟩ (fun r_91 C_92 H locs hq_93 hP hD hS => ?_)
                obtain ⟨hT, f_94, hq_93⟩ := hq_93
                have hF := fr_tr hF f_94 (by decide) (by decide)
                refine W.widen (k := 0) (n := 0) (Nat.le_refl _) (Nat.le_refl _) ?_
                have t_95 := hT
                rw [hQ]
                exact W.iret (v := r_91) hx hb hr (fun t ht hW => ⟨⟨r_91, C_92, rfl, ⟨hT, hF, (fun S hS0 => by have e1 := (hS0 _ (sh8 (rg_w (lo := 0) (hi := 7) u_10 (by decide)))).1; have e2 := (hS0 _ (sh8 (rg_w (lo := 0) (hi := 7) u_14 (by decide)))).1; exact Eq.trans hq_93 (Eq.trans (pif_pos ⟨(oh_rgI (p := 0) (q := 7) (rg_w (lo := 0) (hi := 7) u_10 (by decide))), (oh_rgI (p := 0) (q := 7) (rg_w (lo := 0) (hi := 7) u_14 (by decide)))⟩) (Eq.trans (pif_neg (by rw [← e1, ← e2]; exact fun h8 => by rcases h8 with h7 | h7 | h7; exact u_24 h7; exact u_34 h7; exact u_38 h7)) (pif_pos (by rw [← e1, ← e2]; exact Or.inr u_90)))).symm)⟩, ⟨by rw [ht]; exact hP, hD⟩⟩, hS.F ht⟩) hS.2.2 dX6_copy_90
          · have u_96 := hq_36.2.1 c_37
            refine lv_aload_n hx hb dX6_copy_55 rfl (lv_at hl 0 rfl) ?_
            refine lv_bipush (v := (-3)) hx hb dX6_copy_56 (by decide) ?_
            refine tm_V (As := [.int (-3)]) (rest := []) ⟨hx, hb, hml, hown, htg⟩ (c_X6_refuse l D E G _ a C hT ((-3) : Int32)) (cwV 1 htg (oh_gV q_296 q_298 q_0 q_66 q_299) rfl rfl rfl pdVX6_refuse ⟨Nat.le_of_ble_eq_true rfl, Nat.le_of_ble_eq_true rfl⟩) hK hP hD hG hS hA (va_recv hK hP (ci := 6) (q0 := 0) rfl (oh_wg (by decide) (sX_0 hT))) rfl hl.1 rfl (Nat.le_of_ble_eq_true rfl) dX6_copy_58 ⟨Nat.le_of_ble_eq_true rfl, Nat.le_of_ble_eq_true rfl⟩ (fun r_97 C_98 H locs hq_99 hP hD hS => ?_)
            obtain ⟨hT, f_100, hq_99⟩ := hq_99
            have hF := fr_tr hF f_100 (by decide) (by decide)
            refine W.widen (k := 0) (n := 0) (Nat.le_refl _) (Nat.le_refl _) ?_
            have t_101 := hT
            rw [hQ]
            exact W.iret (v := r_97) hx hb hr (fun t ht hW => ⟨⟨r_97, C_98, rfl, ⟨hT, hF, (fun S hS0 => by have e1 := (hS0 _ (sh8 (rg_w (lo := 0) (hi := 7) u_10 (by decide)))).1; have e2 := (hS0 _ (sh8 (rg_w (lo := 0) (hi := 7) u_14 (by decide)))).1; exact Eq.trans hq_99 (Eq.trans (pif_pos ⟨(oh_rgI (p := 0) (q := 7) (rg_w (lo := 0) (hi := 7) u_10 (by decide))), (oh_rgI (p := 0) (q := 7) (rg_w (lo := 0) (hi := 7) u_14 (by decide)))⟩) (pif_pos (by rw [← e1, ← e2]; exact Or.inr (Or.inr u_96)))).symm)⟩, ⟨by rw [ht]; exact hP, hD⟩⟩, hS.F ht⟩) hS.2.2 dX6_copy_61
    · have u_102 := hq_12.2.2 c_13
      refine lv_aload_n hx hb dX6_copy_14 rfl (lv_at hl 0 rfl) ?_
      refine lv_bipush (v := (-2)) hx hb dX6_copy_15 (by decide) ?_
      refine tm_V (As := [.int (-2)]) (rest := []) ⟨hx, hb, hml, hown, htg⟩ (c_X6_refuse l D E G _ a C hT ((-2) : Int32)) (cwV 1 htg (oh_gV q_296 q_298 q_0 q_66 q_299) rfl rfl rfl pdVX6_refuse ⟨Nat.le_of_ble_eq_true rfl, Nat.le_of_ble_eq_true rfl⟩) hK hP hD hG hS hA (va_recv hK hP (ci := 6) (q0 := 0) rfl (oh_wg (by decide) (sX_0 hT))) rfl hl.1 rfl (Nat.le_of_ble_eq_true rfl) dX6_copy_17 ⟨Nat.le_of_ble_eq_true rfl, Nat.le_of_ble_eq_true rfl⟩ (fun r_103 C_104 H locs hq_105 hP hD hS => ?_)
      obtain ⟨hT, f_106, hq_105⟩ := hq_105
      have hF := fr_tr hF f_106 (by decide) (by decide)
      refine W.widen (k := 0) (n := 0) (Nat.le_refl _) (Nat.le_refl _) ?_
      have t_107 := hT
      rw [hQ]
      exact W.iret (v := r_103) hx hb hr (fun t ht hW => ⟨⟨r_103, C_104, rfl, ⟨hT, hF, (fun S hS0 => Eq.trans hq_105 (pif_neg (fun h8 => u_102 h8.2)).symm)⟩, ⟨by rw [ht]; exact hP, hD⟩⟩, hS.F ht⟩) hS.2.2 dX6_copy_20
/-! EXACT: shelves, the reference -/
theorem hm_h2 {C : Nat → va_E} {S : HZ} {s : Nat} (h : absHM C S) (hs : s < 8) (n0 : ga (C 1) s ≠ 0) (n1 : ga (C 1) s ≠ 1) : (10 : Int32) ≤ S.1 s := by
  obtain ⟨k0, k1, k2⟩ := hm_k h hs
  rcases (h s hs).1 with g | g | g
  · exact absurd (k0.mpr g) n0
  · exact absurd (k1.mpr (rowH_4 g.1 g.2)) n1
  · exact g
theorem hm_r1 {C : Nat → va_E} {S : HZ} {s : Nat} (h : absHM C S) (hs : s < 8) (n0 : ga (C 1) s ≠ 0) (n2 : ga (C 1) s ≠ 2) : rowH (S.1 s) := by
  obtain ⟨k0, k1, k2⟩ := hm_k h hs
  exact ⟨fun e => n0 (k0.mpr e), fun e => n2 (k2.mpr e)⟩
theorem wm_b {S : HZ} {s : Int32} (q : ¬ (0 ≤ s ∧ s ≤ 7)) : whyR S.1 s = -2 := pif_neg q
theorem wm_2 {C : Nat → va_E} {S : HZ} {s : Int32} (h : absHM C S) (q : 0 ≤ s ∧ s ≤ 7) (k : ga (C 1) s.toNatClampNeg = 2) : whyR S.1 s = -3 := by
  have hs := sh8 ⟨Int32.le_iff_toInt_le.mp q.1, Int32.le_iff_toInt_le.mp q.2⟩
  exact Eq.trans (pif_pos q) (pif_pos ((hm_k h hs).2.2.mp k))
theorem wm_0 {C : Nat → va_E} {S : HZ} {s : Int32} (h : absHM C S) (q : 0 ≤ s ∧ s ≤ 7) (k : ga (C 1) s.toNatClampNeg = 0) : whyR S.1 s = -4 := by
  have hs := sh8 ⟨Int32.le_iff_toInt_le.mp q.1, Int32.le_iff_toInt_le.mp q.2⟩
  have e := (hm_k h hs).1.mp k
  exact Eq.trans (pif_pos q) (Eq.trans (pif_neg (by rw [e]; decide)) (pif_pos e))
theorem wm_1 {C : Nat → va_E} {S : HZ} {s : Int32} (h : absHM C S) (q : 0 ≤ s ∧ s ≤ 7) (n2 : ga (C 1) s.toNatClampNeg ≠ 2) (n0 : ga (C 1) s.toNatClampNeg ≠ 0) : whyR S.1 s = 0 := by
  have hs := sh8 ⟨Int32.le_iff_toInt_le.mp q.1, Int32.le_iff_toInt_le.mp q.2⟩
  have r := hm_r1 h hs n0 n2
  exact Eq.trans (pif_pos q) (Eq.trans (pif_neg r.2) (pif_neg r.1))
theorem ss_n {S : HZ} {s i c : Int32} (e : whyR S.1 s = c) (n : ¬ c = 0) : c = spSet S s i := by
  unfold spSet
  rw [e, pif_neg n]

set_option maxHeartbeats 4000000 in
set_option maxRecDepth 100000 in
theorem e_X7_row (l : Launch) (D : va_G) (E : Nat → ClassId) (G : Nat → Nat) (sz : Nat) (a : Nat → Nat) (C : Nat → va_E) (n : Nat) (hn : 74 ≤ n) (hT : TyM a E C) (x1 : Int32) (x2 : Int32) (x3 : Int32) (hR : RelM C) : Met l yX7_row (oh_w yX7_row cX7_row 5 (some .int)) ({ frames := 1, cells := 0, slots := 0, locals := 25 }) (oh_Pm D E G [.ref (a 0), .int x1, .int x2, .int x3] (oh_W n a C) sz) (va_Qi (fun r (u : Nat → va_E) => TyM a E u ∧ fr [(1, 2), (2, 3), (3, 4), (8, 9), (16, 24)] [] C u ∧ (RelM u) ∧ (r = oh_row x1 x2 x3) ∧ (∀ S : HZ, absHM C S → absHM u (spRw S x1 x2 x3))) (oh_B D (va_A (oh_W n a C) sz) (fun u => oh_W n a u)) (va_A (oh_W n a C) sz)) 0 0 (va_A (oh_W n a C) sz) := by
  refine Met.ofW (cc := cX7_row) (maxL := 5) (ret := (some .int)) (by decide) rfl ?_
  intro p e s m args below meth c s₁ B hml hv
  obtain ⟨rfl, hsz, hP, hK, hD0, hG⟩ := hv
  have hx := B.exec
  have hb := B.bytes
  have hr := B.returns
  have hts := atoms_spec (ws := (oh_w yX7_row cX7_row 5 (some .int))) B.pre
  have htg : ∀ w ∈ oh_t, w.before _ s = true := fun w h => hts w (List.mem_cons_of_mem _ h)
  have hown : s.vm.findClass RX7 = some m.cls := findClass_of_methodNamed B.named
  have hlocks := B.notSynchronized
  have hT0 := hT
  subst hsz
  have hD := hD0.self (sz := s.heap.size)
  generalize hAe : va_A (oh_W n a C) s.heap.size = A at hD hG ⊢
  have hA : ∀ q : Nat, s.heap.size ≤ q → A q := fun q h => by rw [← hAe]; exact Or.inr h
  have hS : va_S A s.heap s.heap [] := va_S.rf
  have hF : fr [(1, 2), (2, 3), (3, 4), (8, 9), (16, 24)] [] C C := fr_rf
  have hl := lv_entry ([.ref (a 0), .int x1, .int x2, .int x3]) (n := 5) (Nat.le_of_ble_eq_true rfl)
  rw [lg_entry_eq]
  generalize (lg_sl ([.ref (a 0), .int x1, .int x2, .int x3]) ++ List.replicate (5 - (lg_sl ([.ref (a 0), .int x1, .int x2, .int x3])).length) Slot.unset).toArray = ls at hl ⊢
  have hl : lv_has ls 5 [(0, .ref (a 0)), (1, .int x1), (2, .int x2), (3, .int x3)] := hl
  refine oh_genQ (fun Q hQ => ?_)
  refine lv_iload_n hx hb dX7_row_0 rfl (lv_at hl 1 rfl) ?_
  refine lv_i2l (v := Int32.toInt64 x1) hx hb dX7_row_1 (by rfl) ?_
  refine lv_lconst (v := 0) hx hb dX7_row_2 (by decide) ?_
  refine lv_ldc2 (v := 7) hx hb hown (htg _ q_1065) dX7_row_3 ?_
  refine tq_S (As := [.long (Int32.toInt64 x1), .long 0, .long 7]) (rest := []) (ws := []) ⟨hx, hb, hml, hown, htg⟩ (c_X7_in l D E G (Int32.toInt64 x1) (0 : Int64) (7 : Int64)) (va_cwS 3 htg (oh_gS q_1066 q_1067 q_73 q_1068) rfl rfl rfl pdX7_in ⟨Nat.le_of_ble_eq_true rfl, Nat.le_of_ble_eq_true rfl⟩) hK va_nil hG hS rfl hl.1 rfl (Nat.le_of_ble_eq_true rfl) dX7_row_6 ⟨Nat.le_of_ble_eq_true rfl, Nat.le_of_ble_eq_true rfl⟩ (fun r_1 hq_2 => ?_)
  refine lv_if_eq (tgt := 36) hx hb dX7_row_9 (by decide) (fun (c_3 : r_1 = 0) => ?_) (fun (c_3 : ¬ (r_1 = 0)) => ?_)
  · have u_4 := hq_2.2.2 c_3
    refine lv_aload_n hx hb dX7_row_36 rfl (lv_at hl 0 rfl) ?_
    refine lv_bipush (v := (-2)) hx hb dX7_row_37 (by decide) ?_
    refine tm_V (As := [.int (-2)]) (rest := []) ⟨hx, hb, hml, hown, htg⟩ (c_X7_refuse l D E G _ a C n hn hT ((-2) : Int32) (rg_w (rg_c (v := (-2)) (lo := (-2)) (hi := (-2)) (by decide)) (by decide))) (cwV 1 htg (oh_gV q_1071 q_1073 q_29 q_73 q_1074) rfl rfl rfl pdVX7_refuse ⟨Nat.le_of_ble_eq_true rfl, Nat.le_of_ble_eq_true rfl⟩) hK hP hD hG hS hA (va_recv hK hP (ci := 7) (q0 := 0) rfl (oh_wg (Nat.lt_of_lt_of_le (by decide) hn) (sM_0 hT))) rfl hl.1 rfl (Nat.le_of_ble_eq_true rfl) dX7_row_39 ⟨Nat.le_of_ble_eq_true rfl, Nat.le_of_ble_eq_true rfl⟩ (fun r_5 C_6 H locs hq_7 hP hD hS => ?_)
    obtain ⟨hT, f_8, hq_7⟩ := hq_7
    have hF := fr_tr hF f_8 (by decide) (by decide)
    refine W.widen (k := 0) (n := 0) (Nat.le_refl _) (Nat.le_refl _) ?_
    have t_9 := hT
    rw [hQ]
    exact W.iret (v := r_5) hx hb hr (fun t ht hW => ⟨⟨r_5, C_6, rfl, ⟨hT, hF, ⟨⟨hR.1.fr hF (by decide), (RelS.fr hR.2 f_8 (by decide))⟩, (oh_row2 hq_7 (Or.inl (oh_row64 (k' := 7) rfl u_4))), (fun S hS0 => by rw [show spRw S x1 x2 x3 = S from pif_neg (fun h8 => (oh_in64 (l' := 0) (k' := 7) rfl rfl u_4) h8.1)]; exact (hm_fr hS0 (f_8.1 1 rfl (by decide)) (f_8.1 2 rfl (by decide)) (f_8.1 3 rfl (by decide)) (f_8.1 6 rfl (by decide))))⟩⟩, ⟨by rw [ht]; exact hP, hD⟩⟩, hS.F ht⟩) hS.2.2 dX7_row_42
  · have u_10 := hq_2.2.1 c_3
    refine lv_iload_n hx hb dX7_row_12 rfl (lv_at hl 2 rfl) ?_
    refine lv_i2l (v := Int32.toInt64 x2) hx hb dX7_row_13 (by rfl) ?_
    refine lv_lconst (v := 0) hx hb dX7_row_14 (by decide) ?_
    refine lv_ldc2 (v := 4) hx hb hown (htg _ q_1069) dX7_row_15 ?_
    refine tq_S (As := [.long (Int32.toInt64 x2), .long 0, .long 4]) (rest := []) (ws := []) ⟨hx, hb, hml, hown, htg⟩ (c_X7_in l D E G (Int32.toInt64 x2) (0 : Int64) (4 : Int64)) (va_cwS 3 htg (oh_gS q_1066 q_1067 q_73 q_1068) rfl rfl rfl pdX7_in ⟨Nat.le_of_ble_eq_true rfl, Nat.le_of_ble_eq_true rfl⟩) hK va_nil hG hS rfl hl.1 rfl (Nat.le_of_ble_eq_true rfl) dX7_row_18 ⟨Nat.le_of_ble_eq_true rfl, Nat.le_of_ble_eq_true rfl⟩ (fun r_11 hq_12 => ?_)
    refine lv_if_eq (tgt := 36) hx hb dX7_row_21 (by decide) (fun (c_13 : r_11 = 0) => ?_) (fun (c_13 : ¬ (r_11 = 0)) => ?_)
    · have u_14 := hq_12.2.2 c_13
      refine lv_aload_n hx hb dX7_row_36 rfl (lv_at hl 0 rfl) ?_
      refine lv_bipush (v := (-2)) hx hb dX7_row_37 (by decide) ?_
      refine tm_V (As := [.int (-2)]) (rest := []) ⟨hx, hb, hml, hown, htg⟩ (c_X7_refuse l D E G _ a C n hn hT ((-2) : Int32) (rg_w (rg_c (v := (-2)) (lo := (-2)) (hi := (-2)) (by decide)) (by decide))) (cwV 1 htg (oh_gV q_1071 q_1073 q_29 q_73 q_1074) rfl rfl rfl pdVX7_refuse ⟨Nat.le_of_ble_eq_true rfl, Nat.le_of_ble_eq_true rfl⟩) hK hP hD hG hS hA (va_recv hK hP (ci := 7) (q0 := 0) rfl (oh_wg (Nat.lt_of_lt_of_le (by decide) hn) (sM_0 hT))) rfl hl.1 rfl (Nat.le_of_ble_eq_true rfl) dX7_row_39 ⟨Nat.le_of_ble_eq_true rfl, Nat.le_of_ble_eq_true rfl⟩ (fun r_15 C_16 H locs hq_17 hP hD hS => ?_)
      obtain ⟨hT, f_18, hq_17⟩ := hq_17
      have hF := fr_tr hF f_18 (by decide) (by decide)
      refine W.widen (k := 0) (n := 0) (Nat.le_refl _) (Nat.le_refl _) ?_
      have t_19 := hT
      rw [hQ]
      exact W.iret (v := r_15) hx hb hr (fun t ht hW => ⟨⟨r_15, C_16, rfl, ⟨hT, hF, ⟨⟨hR.1.fr hF (by decide), (RelS.fr hR.2 f_18 (by decide))⟩, (oh_row2 hq_17 (Or.inr (Or.inl (oh_row64 (k' := 4) rfl u_14)))), (fun S hS0 => by rw [show spRw S x1 x2 x3 = S from pif_neg (fun h8 => (oh_in64 (l' := 0) (k' := 4) rfl rfl u_14) h8.2.1)]; exact (hm_fr hS0 (f_18.1 1 rfl (by decide)) (f_18.1 2 rfl (by decide)) (f_18.1 3 rfl (by decide)) (f_18.1 6 rfl (by decide))))⟩⟩, ⟨by rw [ht]; exact hP, hD⟩⟩, hS.F ht⟩) hS.2.2 dX7_row_42
    · have u_20 := hq_12.2.1 c_13
      refine lv_iload_n hx hb dX7_row_24 rfl (lv_at hl 3 rfl) ?_
      refine lv_i2l (v := Int32.toInt64 x3) hx hb dX7_row_25 (by rfl) ?_
      refine lv_lconst (v := 0) hx hb dX7_row_26 (by decide) ?_
      refine lv_ldc2 (v := 40) hx hb hown (htg _ q_1070) dX7_row_27 ?_
      refine tq_S (As := [.long (Int32.toInt64 x3), .long 0, .long 40]) (rest := []) (ws := []) ⟨hx, hb, hml, hown, htg⟩ (c_X7_in l D E G (Int32.toInt64 x3) (0 : Int64) (40 : Int64)) (va_cwS 3 htg (oh_gS q_1066 q_1067 q_73 q_1068) rfl rfl rfl pdX7_in ⟨Nat.le_of_ble_eq_true rfl, Nat.le_of_ble_eq_true rfl⟩) hK va_nil hG hS rfl hl.1 rfl (Nat.le_of_ble_eq_true rfl) dX7_row_30 ⟨Nat.le_of_ble_eq_true rfl, Nat.le_of_ble_eq_true rfl⟩ (fun r_21 hq_22 => ?_)
      refine lv_if_ne (tgt := 43) hx hb dX7_row_33 (by decide) (fun (c_23 : ¬ (r_21 = 0)) => ?_) (fun (c_23 : r_21 = 0) => ?_)
      · have u_24 := hq_22.2.1 c_23
        refine lv_aload_n hx hb dX7_row_43 rfl (lv_at hl 0 rfl) ?_
        refine va_get (D := D) (ci := 7) (v := .ref (a 1)) (C := RX7) (T := TX7) (N := 29) hx hb htg ig_7 hown hK hP 0 (oh_wg (Nat.lt_of_lt_of_le (by decide) hn) (sM_0 hT)) rfl 0 (by decide) (htg _ q_973) (fun _ h9 => h9) rfl dX7_row_44 ?_
        refine lv_iload_n hx hb dX7_row_47 rfl (lv_at hl 1 rfl) ?_
        refine lv_iconst (v := 1) hx hb dX7_row_48 (by decide) ?_
        have n_25 : vp_in x1 8 := (rg_in (rg_il (rgL_i (rg_il (rnL_leu u_10.2 (rnL_lel u_10.1 (rgL_c (v := 0) (lo := 0) (hi := 0) (by decide)) (rgL_i (rg_any _))) (rgL_c (v := 7) (lo := 7) (hi := 7) (by decide)))))) (by decide))
        refine th_iast (T := TyM a E) (Rl := fr [(1, 2), (2, 3), (3, 4), (8, 9), (16, 24)] [] C) hx hb hK hP hD hS 1 (Nat.lt_of_lt_of_le (by decide) hn) (sM_1 hT) n_25 (hT.up 1 (by decide) (tA_upd (tM_1 hT) (tA_stc (Nat.mod_one _) (rg_c (v := 1) (lo := 1) (hi := 1) (by decide)) (by decide)))) (fr_st hF (by decide) (by decide)) dX7_row_49 (fun C_26 H locs e_27 hT hF hP hD hS => ?_)
        have t_28 := hT
        refine lv_aload_n hx hb dX7_row_50 rfl (lv_at hl 0 rfl) ?_
        refine va_get (D := D) (ci := 7) (v := .ref (a 2)) (C := RX7) (T := TX7) (N := 29) hx hb htg ig_7 hown hK hP 0 (oh_wg (Nat.lt_of_lt_of_le (by decide) hn) (sM_0 hT)) rfl 1 (by decide) (htg _ q_974) (fun _ h9 => h9) rfl dX7_row_51 ?_
        refine lv_iload_n hx hb dX7_row_54 rfl (lv_at hl 1 rfl) ?_
        refine lv_iload_n hx hb dX7_row_55 rfl (lv_at hl 2 rfl) ?_
        have n_29 : vp_in x1 8 := (rg_in (rg_il (rgL_i (rg_il (rnL_leu u_10.2 (rnL_lel u_10.1 (rgL_c (v := 0) (lo := 0) (hi := 0) (by decide)) (rgL_i (rg_any _))) (rgL_c (v := 7) (lo := 7) (hi := 7) (by decide)))))) (by decide))
        refine th_iast (T := TyM a E) (Rl := fr [(1, 2), (2, 3), (3, 4), (8, 9), (16, 24)] [] C) hx hb hK hP hD hS 2 (Nat.lt_of_lt_of_le (by decide) hn) (sM_2 hT) n_29 (hT.up 2 (by decide) (tA_upd (tM_2 hT) tA_any)) (fr_st hF (by decide) (by decide)) dX7_row_56 (fun C_30 H locs e_31 hT hF hP hD hS => ?_)
        have t_32 := hT
        refine lv_aload_n hx hb dX7_row_57 rfl (lv_at hl 0 rfl) ?_
        refine va_get (D := D) (ci := 7) (v := .ref (a 3)) (C := RX7) (T := TX7) (N := 29) hx hb htg ig_7 hown hK hP 0 (oh_wg (Nat.lt_of_lt_of_le (by decide) hn) (sM_0 hT)) rfl 2 (by decide) (htg _ q_975) (fun _ h9 => h9) rfl dX7_row_58 ?_
        refine lv_iload_n hx hb dX7_row_61 rfl (lv_at hl 1 rfl) ?_
        refine lv_iload_n hx hb dX7_row_62 rfl (lv_at hl 3 rfl) ?_
        have n_33 : vp_in x1 8 := (rg_in (rg_il (rgL_i (rg_il (rnL_leu u_10.2 (rnL_lel u_10.1 (rgL_c (v := 0) (lo := 0) (hi := 0) (by decide)) (rgL_i (rg_any _))) (rgL_c (v := 7) (lo := 7) (hi := 7) (by decide)))))) (by decide))
        refine th_iast (T := TyM a E) (Rl := fr [(1, 2), (2, 3), (3, 4), (8, 9), (16, 24)] [] C) hx hb hK hP hD hS 3 (Nat.lt_of_lt_of_le (by decide) hn) (sM_3 hT) n_33 (hT.up 3 (by decide) (tA_upd (tM_3 hT) (tA_stc (Nat.mod_one _) (rg_il (rgL_i (rg_il (rnL_leu u_24.2 (rnL_lel u_24.1 (rgL_c (v := 0) (lo := 0) (hi := 0) (by decide)) (rgL_i (rg_any _))) (rgL_c (v := 40) (lo := 40) (hi := 40) (by decide)))))) (by decide)))) (fr_st hF (by decide) (by decide)) dX7_row_63 (fun C_34 H locs e_35 hT hF hP hD hS => ?_)
        have t_36 := hT
        refine lv_iconst (v := 0) hx hb dX7_row_64 (by decide) ?_
        refine lv_istore (lv' := [(4, .int 0), (0, .ref (a 0)), (1, .int x1), (2, .int x2), (3, .int x3)]) hx hb dX7_row_65 hl (by decide) rfl (fun ls hl => ?_)
        have L_67 : ∀ (d : Nat) (K67 : Nat → va_E) (z67_4 : Int32) (H : Heap) (locs : List Loc) (ls : Array Slot), (40 - z67_4.toInt).toNat = d → rg z67_4 0 40 → TyM a E K67 → fr [(1, 2), (2, 3), (3, 4), (8, 9), (16, 24)] [] C K67 → fr [(16, 24)] [] C_34 K67 → va_P D vwCl (oh_W n a K67) H → va_D A (oh_W n a K67) → va_S A s.heap H locs → lv_has ls 5 [(4, .int z67_4), (0, .ref (a 0)), (1, .int x1), (2, .int x2), (3, .int x3)] → W p l e ({ frames := 1, cells := 0, slots := 0, locals := 25 }) s m (([.ref (a 0), .int x1, .int x2, .int x3] : List Value).toArray) below meth c H locs 0 0 Q (F0 m 67 ls []) := by
          intro d
          induction d using Nat.strongRecOn with
          | ind d ih_67 =>
          intro K67 z67_4 H locs ls hd_67 hz67_4 hT hF hLF_67 hP hD hS hl
          have t_37 := hT
          refine lv_iload hx hb dX7_row_67 (lv_at hl 0 rfl) ?_
          refine lv_bipush (v := 40) hx hb dX7_row_69 (by decide) ?_
          refine lv_icmp_ge (tgt := 90) hx hb dX7_row_71 (by decide) (fun (c_38 : (40 : Int32) ≤ z67_4) => ?_) (fun (c_38 : ¬ ((40 : Int32) ≤ z67_4)) => ?_)
          · refine lv_iconst (v := 1) hx hb dX7_row_90 (by decide) ?_
            rw [hQ]
            exact W.iret (v := 1) hx hb hr (fun t ht hW => ⟨⟨1, K67, rfl, ⟨hT, hF, ⟨⟨hR.1.fr hF (by decide), oh_relS1 (n := 0) (cA := E 0) (i := x1) (v := 1) hR.2 (by rw [(Eq.trans (hLF_67.1 1 rfl (by decide)) (Eq.trans (th_un e_35 (by decide)) (th_un e_31 (by decide)))), (st_ga e_27)]) (Eq.trans (hLF_67.1 6 rfl (by decide)) (Eq.trans (th_un e_35 (by decide)) (Eq.trans (th_un e_31 (by decide)) (th_un e_27 (by decide))))) (by decide)⟩, (oh_row1 (rg_w (rg_il (rgL_i (rg_il (rnL_leu u_10.2 (rnL_lel u_10.1 (rgL_c (v := 0) (lo := 0) (hi := 0) (by decide)) (rgL_i (rg_any _))) (rgL_c (v := 7) (lo := 7) (hi := 7) (by decide)))))) (by decide)) (rg_w (rg_il (rgL_i (rg_il (rnL_leu u_20.2 (rnL_lel u_20.1 (rgL_c (v := 0) (lo := 0) (hi := 0) (by decide)) (rgL_i (rg_any _))) (rgL_c (v := 4) (lo := 4) (hi := 4) (by decide)))))) (by decide)) (rg_w (rg_il (rgL_i (rg_il (rnL_leu u_24.2 (rnL_lel u_24.1 (rgL_c (v := 0) (lo := 0) (hi := 0) (by decide)) (rgL_i (rg_any _))) (rgL_c (v := 40) (lo := 40) (hi := 40) (by decide)))))) (by decide))), (fun S hS0 => by rw [show spRw S x1 x2 x3 = _ from pif_pos ⟨(oh_rgI (p := 0) (q := 7) (rg_w (lo := 0) (hi := 7) (rg_il (rgL_i (rg_il (rnL_leu u_10.2 (rnL_lel u_10.1 (rgL_c (v := 0) (lo := 0) (hi := 0) (by decide)) (rgL_i (rg_any _))) (rgL_c (v := 7) (lo := 7) (hi := 7) (by decide)))))) (by decide))), (oh_rgI (p := 0) (q := 4) (rg_w (lo := 0) (hi := 4) (rg_il (rgL_i (rg_il (rnL_leu u_20.2 (rnL_lel u_20.1 (rgL_c (v := 0) (lo := 0) (hi := 0) (by decide)) (rgL_i (rg_any _))) (rgL_c (v := 4) (lo := 4) (hi := 4) (by decide)))))) (by decide))), (oh_rgI (p := 0) (q := 40) (rg_w (lo := 0) (hi := 40) (rg_il (rgL_i (rg_il (rnL_leu u_24.2 (rnL_lel u_24.1 (rgL_c (v := 0) (lo := 0) (hi := 0) (by decide)) (rgL_i (rg_any _))) (rgL_c (v := 40) (lo := 40) (hi := 40) (by decide)))))) (by decide)))⟩]; exact hm_row hS0 (oh_rgI (p := 0) (q := 4) (rg_w (lo := 0) (hi := 4) (rg_il (rgL_i (rg_il (rnL_leu u_20.2 (rnL_lel u_20.1 (rgL_c (v := 0) (lo := 0) (hi := 0) (by decide)) (rgL_i (rg_any _))) (rgL_c (v := 4) (lo := 4) (hi := 4) (by decide)))))) (by decide))).1 (oh_rgI (p := 0) (q := 4) (rg_w (lo := 0) (hi := 4) (rg_il (rgL_i (rg_il (rnL_leu u_20.2 (rnL_lel u_20.1 (rgL_c (v := 0) (lo := 0) (hi := 0) (by decide)) (rgL_i (rg_any _))) (rgL_c (v := 4) (lo := 4) (hi := 4) (by decide)))))) (by decide))).2 (by rw [(Eq.trans (hLF_67.1 1 rfl (by decide)) (Eq.trans (th_un e_35 (by decide)) (th_un e_31 (by decide)))), (st_ga e_27)]) (by rw [(Eq.trans (hLF_67.1 2 rfl (by decide)) (th_un e_35 (by decide))), (st_ga e_31), (th_un e_27 (by decide))]) (by rw [(hLF_67.1 3 rfl (by decide)), (st_ga e_35), (Eq.trans (th_un e_31 (by decide)) (th_un e_27 (by decide)))]) (Eq.trans (hLF_67.1 6 rfl (by decide)) (Eq.trans (th_un e_35 (by decide)) (Eq.trans (th_un e_31 (by decide)) (th_un e_27 (by decide))))))⟩⟩, ⟨by rw [ht]; exact hP, hD⟩⟩, hS.F ht⟩) hS.2.2 dX7_row_91
          · refine lv_aload_n hx hb dX7_row_74 rfl (lv_at hl 1 rfl) ?_
            refine va_get (D := D) (ci := 7) (v := .ref (a 4)) (C := RX7) (T := TX7) (N := 29) hx hb htg ig_7 hown hK hP 0 (oh_wg (Nat.lt_of_lt_of_le (by decide) hn) (sM_0 hT)) rfl 3 (by decide) (htg _ q_976) (fun _ h9 => h9) rfl dX7_row_75 ?_
            refine lv_iload_n hx hb dX7_row_78 rfl (lv_at hl 2 rfl) ?_
            have n_39 : vp_in x1 8 := (rg_in (rg_il (rgL_i (rg_il (rnL_leu u_10.2 (rnL_lel u_10.1 (rgL_c (v := 0) (lo := 0) (hi := 0) (by decide)) (rgL_i (rg_any _))) (rgL_c (v := 7) (lo := 7) (hi := 7) (by decide)))))) (by decide))
            have b_40 : (x1).toNatClampNeg < 8 := vp_lt n_39
            refine th_aald hx hb hK hP 4 3 (Nat.lt_of_lt_of_le (by decide) hn) (sM_4 hT) rfl n_39 dX7_row_79 ?_
            refine lv_iload hx hb dX7_row_80 (lv_at hl 0 rfl) ?_
            refine lv_lconst (v := 0) hx hb dX7_row_82 (by decide) ?_
            have n_41 : vp_in z67_4 40 := (rg_in (rn_ltu (u' := 39) (Int32.not_le.mp c_38) hz67_4 (rg_c (v := 40) (lo := 40) (hi := 40) (by decide)) (by decide)) (by decide))
            refine th_last (T := TyM a E) (Rl := fr [(1, 2), (2, 3), (3, 4), (8, 9), (16, 24)] [] C) hx hb hK hP hD hS (16 + (x1).toNatClampNeg) (lt_blk b_40 hn (by decide)) (hT.brows b_40) n_41 (hT.uprows b_40 rfl) (fr_st hF (by omega) (inR_of (p := (16, 24)) (by decide) (by show 16 ≤ _; omega) (by show _ < 24; omega))) dX7_row_83 (fun C_42 H locs e_43 hT hF hP hD hS => ?_)
            have t_44 := hT
            refine lv_iinc (v := z67_4 + 1) (lv' := [(4, .int (z67_4 + 1)), (0, .ref (a 0)), (1, .int x1), (2, .int x2), (3, .int x3)]) hx hb dX7_row_84 hl (k := 0) rfl (by rfl) (by decide) rfl (fun ls hl => ?_)
            refine lv_goto (tgt := 67) hx hb dX7_row_87 (by decide) ?_
            exact ih_67 _ (hd_67 ▸ mu_up 40 (rn_ltu (u' := 39) (Int32.not_le.mp c_38) hz67_4 (rg_c (v := 40) (lo := 40) (hi := 40) (by decide)) (by decide)) (by decide)) C_42 (z67_4 + 1) _ _ ls rfl (rg_w (rg_add (lo := 1) (hi := 40) (rn_ltu (u' := 39) (Int32.not_le.mp c_38) hz67_4 (rg_c (v := 40) (lo := 40) (hi := 40) (by decide)) (by decide)) (rg_c (v := 1) (lo := 1) (hi := 1) (by decide)) (by decide)) (by decide)) hT hF (fr_ste hLF_67 e_43 (by omega) (inR_of (p := (16, 24)) (by decide) (by show 16 ≤ _; omega) (by show _ < 24; omega))) hP hD hS (lv_sub hl [0, 1, 2, 3, 4] rfl)
        exact L_67 _ C_34 0 _ _ ls rfl (rg_w (rg_c (v := 0) (lo := 0) (hi := 0) (by decide)) (by decide)) hT hF fr_rf hP hD hS (lv_sub hl [0, 1, 2, 3, 4] rfl)
      · have u_45 := hq_22.2.2 c_23
        refine lv_aload_n hx hb dX7_row_36 rfl (lv_at hl 0 rfl) ?_
        refine lv_bipush (v := (-2)) hx hb dX7_row_37 (by decide) ?_
        refine tm_V (As := [.int (-2)]) (rest := []) ⟨hx, hb, hml, hown, htg⟩ (c_X7_refuse l D E G _ a C n hn hT ((-2) : Int32) (rg_w (rg_c (v := (-2)) (lo := (-2)) (hi := (-2)) (by decide)) (by decide))) (cwV 1 htg (oh_gV q_1071 q_1073 q_29 q_73 q_1074) rfl rfl rfl pdVX7_refuse ⟨Nat.le_of_ble_eq_true rfl, Nat.le_of_ble_eq_true rfl⟩) hK hP hD hG hS hA (va_recv hK hP (ci := 7) (q0 := 0) rfl (oh_wg (Nat.lt_of_lt_of_le (by decide) hn) (sM_0 hT))) rfl hl.1 rfl (Nat.le_of_ble_eq_true rfl) dX7_row_39 ⟨Nat.le_of_ble_eq_true rfl, Nat.le_of_ble_eq_true rfl⟩ (fun r_46 C_47 H locs hq_48 hP hD hS => ?_)
        obtain ⟨hT, f_49, hq_48⟩ := hq_48
        have hF := fr_tr hF f_49 (by decide) (by decide)
        refine W.widen (k := 0) (n := 0) (Nat.le_refl _) (Nat.le_refl _) ?_
        have t_50 := hT
        rw [hQ]
        exact W.iret (v := r_46) hx hb hr (fun t ht hW => ⟨⟨r_46, C_47, rfl, ⟨hT, hF, ⟨⟨hR.1.fr hF (by decide), (RelS.fr hR.2 f_49 (by decide))⟩, (oh_row2 hq_48 (Or.inr (Or.inr (oh_row64 (k' := 40) rfl u_45)))), (fun S hS0 => by rw [show spRw S x1 x2 x3 = S from pif_neg (fun h8 => (oh_in64 (l' := 0) (k' := 40) rfl rfl u_45) h8.2.2)]; exact (hm_fr hS0 (f_49.1 1 rfl (by decide)) (f_49.1 2 rfl (by decide)) (f_49.1 3 rfl (by decide)) (f_49.1 6 rfl (by decide))))⟩⟩, ⟨by rw [ht]; exact hP, hD⟩⟩, hS.F ht⟩) hS.2.2 dX7_row_42

set_option maxHeartbeats 4000000 in
set_option maxRecDepth 100000 in
theorem e_X7_holds (l : Launch) (D : va_G) (E : Nat → ClassId) (G : Nat → Nat) (a : Nat → Nat) (C : Nat → va_E) (n : Nat) (hn : 74 ≤ n) (hT : TyM a E C) (x1 : Int32) (hR : RelM C) : Met l yX7_holds (oh_w yX7_holds cX7_holds 2 (some .int)) ({ frames := 1, cells := 0, slots := 0, locals := 25 }) (oh_Pp D E G [.ref (a 0), .int x1] (oh_W n a C)) (vp_Si (fun r => (∀ S : HZ, absHM C S → r = spHolds S x1))) 0 0 (fun _ => False) := by
  refine Met.ofW (cc := cX7_holds) (maxL := 2) (ret := (some .int)) (by decide) rfl ?_
  intro p e s m args below meth c s₁ B hml hv
  obtain ⟨rfl, hP, hK, hG⟩ := hv
  have hx := B.exec
  have hb := B.bytes
  have hr := B.returns
  have hts := atoms_spec (ws := (oh_w yX7_holds cX7_holds 2 (some .int))) B.pre
  have htg : ∀ w ∈ oh_t, w.before _ s = true := fun w h => hts w (List.mem_cons_of_mem _ h)
  have hown : s.vm.findClass RX7 = some m.cls := findClass_of_methodNamed B.named
  have hlocks := B.notSynchronized
  have hT0 := hT
  have hS : va_S (fun _ => False) s.heap s.heap [] := va_S.rf
  have hl := lv_entry ([.ref (a 0), .int x1]) (n := 2) (Nat.le_of_ble_eq_true rfl)
  rw [lg_entry_eq]
  generalize (lg_sl ([.ref (a 0), .int x1]) ++ List.replicate (2 - (lg_sl ([.ref (a 0), .int x1])).length) Slot.unset).toArray = ls at hl ⊢
  have hl : lv_has ls 2 [(0, .ref (a 0)), (1, .int x1)] := hl
  refine oh_genQ (fun Q hQ => ?_)
  refine lv_iload_n hx hb dX7_holds_0 rfl (lv_at hl 1 rfl) ?_
  refine lv_i2l (v := Int32.toInt64 x1) hx hb dX7_holds_1 (by rfl) ?_
  refine lv_lconst (v := 0) hx hb dX7_holds_2 (by decide) ?_
  refine lv_ldc2 (v := 7) hx hb hown (htg _ q_1065) dX7_holds_3 ?_
  refine tq_S (As := [.long (Int32.toInt64 x1), .long 0, .long 7]) (rest := []) (ws := []) ⟨hx, hb, hml, hown, htg⟩ (c_X7_in l D E G (Int32.toInt64 x1) (0 : Int64) (7 : Int64)) (va_cwS 3 htg (oh_gS q_1066 q_1067 q_73 q_1068) rfl rfl rfl pdX7_in ⟨Nat.le_of_ble_eq_true rfl, Nat.le_of_ble_eq_true rfl⟩) hK va_nil hG hS rfl hl.1 rfl (Nat.le_of_ble_eq_true rfl) dX7_holds_6 ⟨Nat.le_of_ble_eq_true rfl, Nat.le_of_ble_eq_true rfl⟩ (fun r_1 hq_2 => ?_)
  refine lv_if_eq (tgt := 21) hx hb dX7_holds_9 (by decide) (fun (c_3 : r_1 = 0) => ?_) (fun (c_3 : ¬ (r_1 = 0)) => ?_)
  · have u_4 := hq_2.2.2 c_3
    refine lv_iconst (v := (-1)) hx hb dX7_holds_21 (by decide) ?_
    rw [hQ]
    exact W.iret (v := (-1)) hx hb hr (fun t ht hW => ⟨(-1), rfl, (fun S hS0 => (pif_neg (oh_in64 (l' := 0) (k' := 7) rfl rfl u_4)).symm), ht⟩) (fun q h => by cases h) dX7_holds_22
  · have u_5 := hq_2.2.1 c_3
    refine lv_aload_n hx hb dX7_holds_12 rfl (lv_at hl 0 rfl) ?_
    refine va_get (D := D) (ci := 7) (v := .ref (a 1)) (C := RX7) (T := TX7) (N := 29) hx hb htg ig_7 hown hK hP 0 (oh_wg (Nat.lt_of_lt_of_le (by decide) hn) (sM_0 hT)) rfl 0 (by decide) (htg _ q_973) (fun _ h9 => h9) rfl dX7_holds_13 ?_
    refine lv_iload_n hx hb dX7_holds_16 rfl (lv_at hl 1 rfl) ?_
    have n_6 : vp_in x1 8 := (rg_in (rg_il (rgL_i (rg_il (rnL_leu u_5.2 (rnL_lel u_5.1 (rgL_c (v := 0) (lo := 0) (hi := 0) (by decide)) (rgL_i (rg_any _))) (rgL_c (v := 7) (lo := 7) (hi := 7) (by decide)))))) (by decide))
    refine th_iald hx hb hK hP 1 (Nat.lt_of_lt_of_le (by decide) hn) (sM_1 hT) n_6 dX7_holds_17 ?_
    refine lv_if_ne (tgt := 23) hx hb dX7_holds_18 (by decide) (fun (c_7 : ¬ ((ga (C 1) (x1).toNatClampNeg) = 0)) => ?_) (fun (c_7 : (ga (C 1) (x1).toNatClampNeg) = 0) => ?_)
    · refine lv_aload_n hx hb dX7_holds_23 rfl (lv_at hl 0 rfl) ?_
      refine va_get (D := D) (ci := 7) (v := .ref (a 1)) (C := RX7) (T := TX7) (N := 29) hx hb htg ig_7 hown hK hP 0 (oh_wg (Nat.lt_of_lt_of_le (by decide) hn) (sM_0 hT)) rfl 0 (by decide) (htg _ q_973) (fun _ h9 => h9) rfl dX7_holds_24 ?_
      refine lv_iload_n hx hb dX7_holds_27 rfl (lv_at hl 1 rfl) ?_
      have n_8 : vp_in x1 8 := (rg_in (rg_il (rgL_i (rg_il (rnL_leu u_5.2 (rnL_lel u_5.1 (rgL_c (v := 0) (lo := 0) (hi := 0) (by decide)) (rgL_i (rg_any _))) (rgL_c (v := 7) (lo := 7) (hi := 7) (by decide)))))) (by decide))
      refine th_iald hx hb hK hP 1 (Nat.lt_of_lt_of_le (by decide) hn) (sM_1 hT) n_8 dX7_holds_28 ?_
      refine lv_iconst (v := 1) hx hb dX7_holds_29 (by decide) ?_
      refine lv_icmp_ne (tgt := 42) hx hb dX7_holds_30 (by decide) (fun (c_9 : ¬ ((ga (C 1) (x1).toNatClampNeg) = 1)) => ?_) (fun (c_9 : (ga (C 1) (x1).toNatClampNeg) = 1) => ?_)
      · refine lv_bipush (v := 10) hx hb dX7_holds_42 (by decide) ?_
        refine lv_aload_n hx hb dX7_holds_44 rfl (lv_at hl 0 rfl) ?_
        refine va_get (D := D) (ci := 7) (v := .ref (a 6)) (C := RX7) (T := TX7) (N := 29) hx hb htg ig_7 hown hK hP 0 (oh_wg (Nat.lt_of_lt_of_le (by decide) hn) (sM_0 hT)) rfl 5 (by decide) (htg _ q_978) (fun _ h9 => h9) rfl dX7_holds_45 ?_
        refine lv_iload_n hx hb dX7_holds_48 rfl (lv_at hl 1 rfl) ?_
        have n_10 : vp_in x1 8 := (rg_in (rg_il (rgL_i (rg_il (rnL_leu u_5.2 (rnL_lel u_5.1 (rgL_c (v := 0) (lo := 0) (hi := 0) (by decide)) (rgL_i (rg_any _))) (rgL_c (v := 7) (lo := 7) (hi := 7) (by decide)))))) (by decide))
        refine th_iald hx hb hK hP 6 (Nat.lt_of_lt_of_le (by decide) hn) (sM_6 hT) n_10 dX7_holds_49 ?_
        refine lv_iadd hx hb dX7_holds_50 ?_
        rw [hQ]
        exact W.iret (v := 10 + (ga (C 6) (x1).toNatClampNeg)) hx hb hr (fun t ht hW => ⟨10 + (ga (C 6) (x1).toNatClampNeg), rfl, (fun S hS0 => Eq.trans ((hS0 _ (sh8 (rg_w (lo := 0) (hi := 7) (rg_il (rgL_i (rg_il (rnL_leu u_5.2 (rnL_lel u_5.1 (rgL_c (v := 0) (lo := 0) (hi := 0) (by decide)) (rgL_i (rg_any _))) (rgL_c (v := 7) (lo := 7) (hi := 7) (by decide)))))) (by decide)))).2.2.2 (hm_h2 hS0 (sh8 (rg_w (lo := 0) (hi := 7) (rg_il (rgL_i (rg_il (rnL_leu u_5.2 (rnL_lel u_5.1 (rgL_c (v := 0) (lo := 0) (hi := 0) (by decide)) (rgL_i (rg_any _))) (rgL_c (v := 7) (lo := 7) (hi := 7) (by decide)))))) (by decide))) c_7 c_9)).2 (pif_pos (oh_rgI (p := 0) (q := 7) (rg_w (lo := 0) (hi := 7) (rg_il (rgL_i (rg_il (rnL_leu u_5.2 (rnL_lel u_5.1 (rgL_c (v := 0) (lo := 0) (hi := 0) (by decide)) (rgL_i (rg_any _))) (rgL_c (v := 7) (lo := 7) (hi := 7) (by decide)))))) (by decide)))).symm), ht⟩) (fun q h => by cases h) dX7_holds_51
      · refine lv_aload_n hx hb dX7_holds_33 rfl (lv_at hl 0 rfl) ?_
        refine va_get (D := D) (ci := 7) (v := .ref (a 2)) (C := RX7) (T := TX7) (N := 29) hx hb htg ig_7 hown hK hP 0 (oh_wg (Nat.lt_of_lt_of_le (by decide) hn) (sM_0 hT)) rfl 1 (by decide) (htg _ q_974) (fun _ h9 => h9) rfl dX7_holds_34 ?_
        refine lv_iload_n hx hb dX7_holds_37 rfl (lv_at hl 1 rfl) ?_
        have n_11 : vp_in x1 8 := (rg_in (rg_il (rgL_i (rg_il (rnL_leu u_5.2 (rnL_lel u_5.1 (rgL_c (v := 0) (lo := 0) (hi := 0) (by decide)) (rgL_i (rg_any _))) (rgL_c (v := 7) (lo := 7) (hi := 7) (by decide)))))) (by decide))
        refine th_iald hx hb hK hP 2 (Nat.lt_of_lt_of_le (by decide) hn) (sM_2 hT) n_11 dX7_holds_38 ?_
        refine lv_goto (tgt := 51) hx hb dX7_holds_39 (by decide) ?_
        rw [hQ]
        exact W.iret (v := ga (C 2) (x1).toNatClampNeg) hx hb hr (fun t ht hW => ⟨ga (C 2) (x1).toNatClampNeg, rfl, (fun S hS0 => Eq.trans ((hS0 _ (sh8 (rg_w (lo := 0) (hi := 7) (rg_il (rgL_i (rg_il (rnL_leu u_5.2 (rnL_lel u_5.1 (rgL_c (v := 0) (lo := 0) (hi := 0) (by decide)) (rgL_i (rg_any _))) (rgL_c (v := 7) (lo := 7) (hi := 7) (by decide)))))) (by decide)))).2.2.1 ((hm_k hS0 (sh8 (rg_w (lo := 0) (hi := 7) (rg_il (rgL_i (rg_il (rnL_leu u_5.2 (rnL_lel u_5.1 (rgL_c (v := 0) (lo := 0) (hi := 0) (by decide)) (rgL_i (rg_any _))) (rgL_c (v := 7) (lo := 7) (hi := 7) (by decide)))))) (by decide)))).2.1.mp c_9)).2.1 (pif_pos (oh_rgI (p := 0) (q := 7) (rg_w (lo := 0) (hi := 7) (rg_il (rgL_i (rg_il (rnL_leu u_5.2 (rnL_lel u_5.1 (rgL_c (v := 0) (lo := 0) (hi := 0) (by decide)) (rgL_i (rg_any _))) (rgL_c (v := 7) (lo := 7) (hi := 7) (by decide)))))) (by decide)))).symm), ht⟩) (fun q h => by cases h) dX7_holds_51
    · refine lv_iconst (v := (-1)) hx hb dX7_holds_21 (by decide) ?_
      rw [hQ]
      exact W.iret (v := (-1)) hx hb hr (fun t ht hW => ⟨(-1), rfl, (fun S hS0 => Eq.trans ((hm_k hS0 (sh8 (rg_w (lo := 0) (hi := 7) (rg_il (rgL_i (rg_il (rnL_leu u_5.2 (rnL_lel u_5.1 (rgL_c (v := 0) (lo := 0) (hi := 0) (by decide)) (rgL_i (rg_any _))) (rgL_c (v := 7) (lo := 7) (hi := 7) (by decide)))))) (by decide)))).1.mp c_7).symm (pif_pos (oh_rgI (p := 0) (q := 7) (rg_w (lo := 0) (hi := 7) (rg_il (rgL_i (rg_il (rnL_leu u_5.2 (rnL_lel u_5.1 (rgL_c (v := 0) (lo := 0) (hi := 0) (by decide)) (rgL_i (rg_any _))) (rgL_c (v := 7) (lo := 7) (hi := 7) (by decide)))))) (by decide)))).symm), ht⟩) (fun q h => by cases h) dX7_holds_22

set_option maxHeartbeats 4000000 in
set_option maxRecDepth 100000 in
theorem e2_X7_show (l : Launch) (D : va_G) (E : Nat → ClassId) (G : Nat → Nat) (sz : Nat) (a : Nat → Nat) (C : Nat → va_E) (n : Nat) (hn : 74 ≤ n) (hT : TyM a E C) (x1 : Int32) (x2 : Int32) (hR : RelM C) : Met l yX7_show (oh_w yX7_show cX7_show 3 (some .int)) ({ frames := 2, cells := 0, slots := 0, locals := 46 }) (oh_Pm D E G [.ref (a 0), .int x1, .int x2] (oh_W n a C) sz) (va_Qi (fun r (u : Nat → va_E) => TyM a E u ∧ fr [(1, 2), (6, 7), (8, 9)] [] C u ∧ (RelM u) ∧ (∀ A : LA, absM C A → r = spShow A x1 x2) ∧ (∀ A : LA, absM C A → ∀ S : HZ, absHM C S → absHM u (spSw A S x1 x2))) (oh_B D (va_A (oh_W n a C) sz) (fun u => oh_W n a u)) (va_A (oh_W n a C) sz)) 0 0 (va_A (oh_W n a C) sz) := by
  refine Met.ofW (cc := cX7_show) (maxL := 3) (ret := (some .int)) (by decide) rfl ?_
  intro p e s m args below meth c s₁ B hml hv
  obtain ⟨rfl, hsz, hP, hK, hD0, hG⟩ := hv
  have hx := B.exec
  have hb := B.bytes
  have hr := B.returns
  have hts := atoms_spec (ws := (oh_w yX7_show cX7_show 3 (some .int))) B.pre
  have htg : ∀ w ∈ oh_t, w.before _ s = true := fun w h => hts w (List.mem_cons_of_mem _ h)
  have hown : s.vm.findClass RX7 = some m.cls := findClass_of_methodNamed B.named
  have hlocks := B.notSynchronized
  have hT0 := hT
  subst hsz
  have hD := hD0.self (sz := s.heap.size)
  generalize hAe : va_A (oh_W n a C) s.heap.size = A at hD hG ⊢
  have hA : ∀ q : Nat, s.heap.size ≤ q → A q := fun q h => by rw [← hAe]; exact Or.inr h
  have hS : va_S A s.heap s.heap [] := va_S.rf
  have hF : fr [(1, 2), (6, 7), (8, 9)] [] C C := fr_rf
  have hl := lv_entry ([.ref (a 0), .int x1, .int x2]) (n := 3) (Nat.le_of_ble_eq_true rfl)
  rw [lg_entry_eq]
  generalize (lg_sl ([.ref (a 0), .int x1, .int x2]) ++ List.replicate (3 - (lg_sl ([.ref (a 0), .int x1, .int x2])).length) Slot.unset).toArray = ls at hl ⊢
  have hl : lv_has ls 3 [(0, .ref (a 0)), (1, .int x1), (2, .int x2)] := hl
  refine oh_genQ (fun Q hQ => ?_)
  refine lv_iload_n hx hb dX7_show_0 rfl (lv_at hl 1 rfl) ?_
  refine lv_i2l (v := Int32.toInt64 x1) hx hb dX7_show_1 (by rfl) ?_
  refine lv_lconst (v := 0) hx hb dX7_show_2 (by decide) ?_
  refine lv_ldc2 (v := 7) hx hb hown (htg _ q_1065) dX7_show_3 ?_
  refine tq_S (As := [.long (Int32.toInt64 x1), .long 0, .long 7]) (rest := []) (ws := []) ⟨hx, hb, hml, hown, htg⟩ (c_X7_in l D E G (Int32.toInt64 x1) (0 : Int64) (7 : Int64)) (va_cwS 3 htg (oh_gS q_1066 q_1067 q_73 q_1068) rfl rfl rfl pdX7_in ⟨Nat.le_of_ble_eq_true rfl, Nat.le_of_ble_eq_true rfl⟩) hK va_nil hG hS rfl hl.1 rfl (Nat.le_of_ble_eq_true rfl) dX7_show_6 ⟨Nat.le_of_ble_eq_true rfl, Nat.le_of_ble_eq_true rfl⟩ (fun r_1 hq_2 => ?_)
  refine lv_if_eq (tgt := 25) hx hb dX7_show_9 (by decide) (fun (c_3 : r_1 = 0) => ?_) (fun (c_3 : ¬ (r_1 = 0)) => ?_)
  · have u_4 := hq_2.2.2 c_3
    refine lv_aload_n hx hb dX7_show_25 rfl (lv_at hl 0 rfl) ?_
    refine lv_bipush (v := (-2)) hx hb dX7_show_26 (by decide) ?_
    refine tm_V (As := [.int (-2)]) (rest := []) ⟨hx, hb, hml, hown, htg⟩ (c_X7_refuse l D E G _ a C n hn hT ((-2) : Int32) (rg_w (rg_c (v := (-2)) (lo := (-2)) (hi := (-2)) (by decide)) (by decide))) (cwV 1 htg (oh_gV q_1071 q_1073 q_29 q_73 q_1074) rfl rfl rfl pdVX7_refuse ⟨Nat.le_of_ble_eq_true rfl, Nat.le_of_ble_eq_true rfl⟩) hK hP hD hG hS hA (va_recv hK hP (ci := 7) (q0 := 0) rfl (oh_wg (Nat.lt_of_lt_of_le (by decide) hn) (sM_0 hT))) rfl hl.1 rfl (Nat.le_of_ble_eq_true rfl) dX7_show_28 ⟨Nat.le_of_ble_eq_true rfl, Nat.le_of_ble_eq_true rfl⟩ (fun r_5 C_6 H locs hq_7 hP hD hS => ?_)
    obtain ⟨hT, f_8, hq_7⟩ := hq_7
    have hF := fr_tr hF f_8 (by decide) (by decide)
    refine W.widen (k := 0) (n := 0) (Nat.le_refl _) (Nat.le_refl _) ?_
    have t_9 := hT
    rw [hQ]
    exact W.iret (v := r_5) hx hb hr (fun t ht hW => ⟨⟨r_5, C_6, rfl, ⟨hT, hF, ⟨⟨hR.1.fr hF (by decide), (RelS.fr hR.2 f_8 (by decide))⟩, (fun A hA => Eq.trans hq_7 (pif_neg (fun h8 => (oh_in64 (l' := 0) (k' := 7) rfl rfl u_4) h8.1)).symm), (fun A hA S hS0 => by rw [show spSw A S x1 x2 = S from pif_neg (fun h8 => (oh_in64 (l' := 0) (k' := 7) rfl rfl u_4) h8.1)]; exact (hm_fr hS0 (f_8.1 1 rfl (by decide)) (f_8.1 2 rfl (by decide)) (f_8.1 3 rfl (by decide)) (f_8.1 6 rfl (by decide))))⟩⟩, ⟨by rw [ht]; exact hP, hD⟩⟩, hS.F ht⟩) hS.2.2 dX7_show_31
  · have u_10 := hq_2.2.1 c_3
    refine lv_iload_n hx hb dX7_show_12 rfl (lv_at hl 2 rfl) ?_
    refine lv_iconst (v := (-1)) hx hb dX7_show_13 (by decide) ?_
    refine lv_icmp_eq (tgt := 32) hx hb dX7_show_14 (by decide) (fun (c_11 : x2 = (-1)) => ?_) (fun (c_11 : ¬ (x2 = (-1))) => ?_)
    · refine lv_aload_n hx hb dX7_show_32 rfl (lv_at hl 0 rfl) ?_
      refine va_get (D := D) (ci := 7) (v := .ref (a 1)) (C := RX7) (T := TX7) (N := 29) hx hb htg ig_7 hown hK hP 0 (oh_wg (Nat.lt_of_lt_of_le (by decide) hn) (sM_0 hT)) rfl 0 (by decide) (htg _ q_973) (fun _ h9 => h9) rfl dX7_show_33 ?_
      refine lv_iload_n hx hb dX7_show_36 rfl (lv_at hl 1 rfl) ?_
      refine lv_iload_n hx hb dX7_show_37 rfl (lv_at hl 2 rfl) ?_
      refine lv_iconst (v := (-1)) hx hb dX7_show_38 (by decide) ?_
      refine lv_icmp_ne (tgt := 46) hx hb dX7_show_39 (by decide) (fun (c_12 : ¬ (x2 = (-1))) => ?_) (fun (c_12 : x2 = (-1)) => ?_)
      · exact (rg_no (rn_nel (l' := 0) c_12 (rn_neu (u' := (-2)) c_12 (rn_eq c_11 (rg_c (v := (-1)) (lo := (-1)) (hi := (-1)) (by decide))) (rg_c (v := (-1)) (lo := (-1)) (hi := (-1)) (by decide)) (by decide)) (rg_c (v := (-1)) (lo := (-1)) (hi := (-1)) (by decide)) (by decide)) (by decide)).elim
      · refine lv_iconst (v := 0) hx hb dX7_show_42 (by decide) ?_
        refine lv_goto (tgt := 47) hx hb dX7_show_43 (by decide) ?_
        have n_13 : vp_in x1 8 := (rg_in (rg_il (rgL_i (rg_il (rnL_leu u_10.2 (rnL_lel u_10.1 (rgL_c (v := 0) (lo := 0) (hi := 0) (by decide)) (rgL_i (rg_any _))) (rgL_c (v := 7) (lo := 7) (hi := 7) (by decide)))))) (by decide))
        refine th_iast (T := TyM a E) (Rl := fr [(1, 2), (6, 7), (8, 9)] [] C) hx hb hK hP hD hS 1 (Nat.lt_of_lt_of_le (by decide) hn) (sM_1 hT) n_13 (hT.up 1 (by decide) (tA_upd (tM_1 hT) (tA_stc (Nat.mod_one _) (rg_c (v := 0) (lo := 0) (hi := 0) (by decide)) (by decide)))) (fr_st hF (by decide) (by decide)) dX7_show_47 (fun C_14 H locs e_15 hT hF hP hD hS => ?_)
        have t_16 := hT
        refine lv_aload_n hx hb dX7_show_48 rfl (lv_at hl 0 rfl) ?_
        refine va_get (D := D) (ci := 7) (v := .ref (a 6)) (C := RX7) (T := TX7) (N := 29) hx hb htg ig_7 hown hK hP 0 (oh_wg (Nat.lt_of_lt_of_le (by decide) hn) (sM_0 hT)) rfl 5 (by decide) (htg _ q_978) (fun _ h9 => h9) rfl dX7_show_49 ?_
        refine lv_iload_n hx hb dX7_show_52 rfl (lv_at hl 1 rfl) ?_
        refine lv_iload_n hx hb dX7_show_53 rfl (lv_at hl 2 rfl) ?_
        have n_17 : vp_in x1 8 := (rg_in (rg_il (rgL_i (rg_il (rnL_leu u_10.2 (rnL_lel u_10.1 (rgL_c (v := 0) (lo := 0) (hi := 0) (by decide)) (rgL_i (rg_any _))) (rgL_c (v := 7) (lo := 7) (hi := 7) (by decide)))))) (by decide))
        refine th_iast (T := TyM a E) (Rl := fr [(1, 2), (6, 7), (8, 9)] [] C) hx hb hK hP hD hS 6 (Nat.lt_of_lt_of_le (by decide) hn) (sM_6 hT) n_17 (hT.up 6 (by decide) (tA_upd (tM_6 hT) (tA_stc (Nat.mod_one _) (rn_eq c_12 (rg_c (v := (-1)) (lo := (-1)) (hi := (-1)) (by decide))) (by decide)))) (fr_st hF (by decide) (by decide)) dX7_show_54 (fun C_18 H locs e_19 hT hF hP hD hS => ?_)
        have t_20 := hT
        refine lv_iconst (v := 1) hx hb dX7_show_55 (by decide) ?_
        rw [hQ]
        exact W.iret (v := 1) hx hb hr (fun t ht hW => ⟨⟨1, C_18, rfl, ⟨hT, hF, ⟨⟨hR.1.fr hF (by decide), oh_relS2 (i := x1) hR.2 (by rw [(th_un e_19 (by decide)), (st_ga e_15)]) (by rw [(st_ga e_19), (th_un e_15 (by decide))]) (fun h8 => absurd h8 (by decide))⟩, (fun A hA => (pif_pos ⟨(oh_rgI (p := 0) (q := 7) (rg_w (lo := 0) (hi := 7) (rg_il (rgL_i (rg_il (rnL_leu u_10.2 (rnL_lel u_10.1 (rgL_c (v := 0) (lo := 0) (hi := 0) (by decide)) (rgL_i (rg_any _))) (rgL_c (v := 7) (lo := 7) (hi := 7) (by decide)))))) (by decide))), (Or.inl c_12)⟩).symm), (fun A hA S hS0 => by rw [show spSw A S x1 x2 = _ from pif_pos ⟨(oh_rgI (p := 0) (q := 7) (rg_w (lo := 0) (hi := 7) (rg_il (rgL_i (rg_il (rnL_leu u_10.2 (rnL_lel u_10.1 (rgL_c (v := 0) (lo := 0) (hi := 0) (by decide)) (rgL_i (rg_any _))) (rgL_c (v := 7) (lo := 7) (hi := 7) (by decide)))))) (by decide))), (Or.inl c_12)⟩]; exact hm_put hS0 (Or.inl c_12) ((pif_pos c_12).symm) (by rw [(th_un e_19 (by decide)), (st_ga e_15)]) (by rw [(st_ga e_19), (th_un e_15 (by decide))]) (Eq.trans (th_un e_19 (by decide)) (th_un e_15 (by decide))) (Eq.trans (th_un e_19 (by decide)) (th_un e_15 (by decide))))⟩⟩, ⟨by rw [ht]; exact hP, hD⟩⟩, hS.F ht⟩) hS.2.2 dX7_show_56
    · refine lv_aload_n hx hb dX7_show_17 rfl (lv_at hl 0 rfl) ?_
      refine lv_iload_n hx hb dX7_show_18 rfl (lv_at hl 2 rfl) ?_
      refine tq_V (As := [.int x2]) (rest := []) (ws := (oh_W n a C)) ⟨hx, hb, hml, hown, htg⟩ (e_X7_isBridge l D E G a C n hn hT x2) (cwV 1 htg (oh_gV q_1098 q_1100 q_30 q_73 q_1101) rfl rfl rfl pdVX7_isBridge ⟨Nat.le_of_ble_eq_true rfl, Nat.le_of_ble_eq_true rfl⟩) hK hP hG hS (va_recv hK hP (ci := 7) (q0 := 0) rfl (oh_wg (Nat.lt_of_lt_of_le (by decide) hn) (sM_0 hT))) rfl hl.1 rfl (Nat.le_of_ble_eq_true rfl) dX7_show_19 ⟨Nat.le_of_ble_eq_true rfl, Nat.le_of_ble_eq_true rfl⟩ (fun r_21 hq_22 => ?_)
      refine lv_if_ne (tgt := 32) hx hb dX7_show_22 (by decide) (fun (c_23 : ¬ (r_21 = 0)) => ?_) (fun (c_23 : r_21 = 0) => ?_)
      · have u_24 := hq_22.2.1 c_23
        refine lv_aload_n hx hb dX7_show_32 rfl (lv_at hl 0 rfl) ?_
        refine va_get (D := D) (ci := 7) (v := .ref (a 1)) (C := RX7) (T := TX7) (N := 29) hx hb htg ig_7 hown hK hP 0 (oh_wg (Nat.lt_of_lt_of_le (by decide) hn) (sM_0 hT)) rfl 0 (by decide) (htg _ q_973) (fun _ h9 => h9) rfl dX7_show_33 ?_
        refine lv_iload_n hx hb dX7_show_36 rfl (lv_at hl 1 rfl) ?_
        refine lv_iload_n hx hb dX7_show_37 rfl (lv_at hl 2 rfl) ?_
        refine lv_iconst (v := (-1)) hx hb dX7_show_38 (by decide) ?_
        refine lv_icmp_ne (tgt := 46) hx hb dX7_show_39 (by decide) (fun (c_25 : ¬ (x2 = (-1))) => ?_) (fun (c_25 : x2 = (-1)) => ?_)
        · refine lv_iconst (v := 2) hx hb dX7_show_46 (by decide) ?_
          have n_26 : vp_in x1 8 := (rg_in (rg_il (rgL_i (rg_il (rnL_leu u_10.2 (rnL_lel u_10.1 (rgL_c (v := 0) (lo := 0) (hi := 0) (by decide)) (rgL_i (rg_any _))) (rgL_c (v := 7) (lo := 7) (hi := 7) (by decide)))))) (by decide))
          refine th_iast (T := TyM a E) (Rl := fr [(1, 2), (6, 7), (8, 9)] [] C) hx hb hK hP hD hS 1 (Nat.lt_of_lt_of_le (by decide) hn) (sM_1 hT) n_26 (hT.up 1 (by decide) (tA_upd (tM_1 hT) (tA_stc (Nat.mod_one _) (rg_c (v := 2) (lo := 2) (hi := 2) (by decide)) (by decide)))) (fr_st hF (by decide) (by decide)) dX7_show_47 (fun C_27 H locs e_28 hT hF hP hD hS => ?_)
          have t_29 := hT
          refine lv_aload_n hx hb dX7_show_48 rfl (lv_at hl 0 rfl) ?_
          refine va_get (D := D) (ci := 7) (v := .ref (a 6)) (C := RX7) (T := TX7) (N := 29) hx hb htg ig_7 hown hK hP 0 (oh_wg (Nat.lt_of_lt_of_le (by decide) hn) (sM_0 hT)) rfl 5 (by decide) (htg _ q_978) (fun _ h9 => h9) rfl dX7_show_49 ?_
          refine lv_iload_n hx hb dX7_show_52 rfl (lv_at hl 1 rfl) ?_
          refine lv_iload_n hx hb dX7_show_53 rfl (lv_at hl 2 rfl) ?_
          have n_30 : vp_in x1 8 := (rg_in (rg_il (rgL_i (rg_il (rnL_leu u_10.2 (rnL_lel u_10.1 (rgL_c (v := 0) (lo := 0) (hi := 0) (by decide)) (rgL_i (rg_any _))) (rgL_c (v := 7) (lo := 7) (hi := 7) (by decide)))))) (by decide))
          refine th_iast (T := TyM a E) (Rl := fr [(1, 2), (6, 7), (8, 9)] [] C) hx hb hK hP hD hS 6 (Nat.lt_of_lt_of_le (by decide) hn) (sM_6 hT) n_30 (hT.up 6 (by decide) (tA_upd (tM_6 hT) (tA_stc (Nat.mod_one _) u_24.1 (by decide)))) (fr_st hF (by decide) (by decide)) dX7_show_54 (fun C_31 H locs e_32 hT hF hP hD hS => ?_)
          have t_33 := hT
          refine lv_iconst (v := 1) hx hb dX7_show_55 (by decide) ?_
          rw [hQ]
          exact W.iret (v := 1) hx hb hr (fun t ht hW => ⟨⟨1, C_31, rfl, ⟨hT, hF, ⟨⟨hR.1.fr hF (by decide), oh_relS2 (i := x1) hR.2 (by rw [(th_un e_32 (by decide)), (st_ga e_28)]) (by rw [(st_ga e_32), (th_un e_28 (by decide))]) (fun _ => (rg_w (lo := 0) (hi := 15) u_24.1 (by decide)).1)⟩, (fun A hA => (pif_pos ⟨(oh_rgI (p := 0) (q := 7) (rg_w (lo := 0) (hi := 7) (rg_il (rgL_i (rg_il (rnL_leu u_10.2 (rnL_lel u_10.1 (rgL_c (v := 0) (lo := 0) (hi := 0) (by decide)) (rgL_i (rg_any _))) (rgL_c (v := 7) (lo := 7) (hi := 7) (by decide)))))) (by decide))), (Or.inr (by rw [← (show gi (C 0) 11 = A 5 0 1 from hA.1 1 (by decide))]; exact u_24.2))⟩).symm), (fun A hA S hS0 => by rw [show spSw A S x1 x2 = _ from pif_pos ⟨(oh_rgI (p := 0) (q := 7) (rg_w (lo := 0) (hi := 7) (rg_il (rgL_i (rg_il (rnL_leu u_10.2 (rnL_lel u_10.1 (rgL_c (v := 0) (lo := 0) (hi := 0) (by decide)) (rgL_i (rg_any _))) (rgL_c (v := 7) (lo := 7) (hi := 7) (by decide)))))) (by decide))), (Or.inr (by rw [← (show gi (C 0) 11 = A 5 0 1 from hA.1 1 (by decide))]; exact u_24.2))⟩]; exact hm_put hS0 (Or.inr (rg_w (lo := 0) (hi := 15) u_24.1 (by decide))) ((pif_neg c_25).symm) (by rw [(th_un e_32 (by decide)), (st_ga e_28)]) (by rw [(st_ga e_32), (th_un e_28 (by decide))]) (Eq.trans (th_un e_32 (by decide)) (th_un e_28 (by decide))) (Eq.trans (th_un e_32 (by decide)) (th_un e_28 (by decide))))⟩⟩, ⟨by rw [ht]; exact hP, hD⟩⟩, hS.F ht⟩) hS.2.2 dX7_show_56
        · refine lv_iconst (v := 0) hx hb dX7_show_42 (by decide) ?_
          refine lv_goto (tgt := 47) hx hb dX7_show_43 (by decide) ?_
          have n_34 : vp_in x1 8 := (rg_in (rg_il (rgL_i (rg_il (rnL_leu u_10.2 (rnL_lel u_10.1 (rgL_c (v := 0) (lo := 0) (hi := 0) (by decide)) (rgL_i (rg_any _))) (rgL_c (v := 7) (lo := 7) (hi := 7) (by decide)))))) (by decide))
          refine th_iast (T := TyM a E) (Rl := fr [(1, 2), (6, 7), (8, 9)] [] C) hx hb hK hP hD hS 1 (Nat.lt_of_lt_of_le (by decide) hn) (sM_1 hT) n_34 (hT.up 1 (by decide) (tA_upd (tM_1 hT) (tA_stc (Nat.mod_one _) (rg_c (v := 0) (lo := 0) (hi := 0) (by decide)) (by decide)))) (fr_st hF (by decide) (by decide)) dX7_show_47 (fun C_35 H locs e_36 hT hF hP hD hS => ?_)
          have t_37 := hT
          refine lv_aload_n hx hb dX7_show_48 rfl (lv_at hl 0 rfl) ?_
          refine va_get (D := D) (ci := 7) (v := .ref (a 6)) (C := RX7) (T := TX7) (N := 29) hx hb htg ig_7 hown hK hP 0 (oh_wg (Nat.lt_of_lt_of_le (by decide) hn) (sM_0 hT)) rfl 5 (by decide) (htg _ q_978) (fun _ h9 => h9) rfl dX7_show_49 ?_
          refine lv_iload_n hx hb dX7_show_52 rfl (lv_at hl 1 rfl) ?_
          refine lv_iload_n hx hb dX7_show_53 rfl (lv_at hl 2 rfl) ?_
          have n_38 : vp_in x1 8 := (rg_in (rg_il (rgL_i (rg_il (rnL_leu u_10.2 (rnL_lel u_10.1 (rgL_c (v := 0) (lo := 0) (hi := 0) (by decide)) (rgL_i (rg_any _))) (rgL_c (v := 7) (lo := 7) (hi := 7) (by decide)))))) (by decide))
          refine th_iast (T := TyM a E) (Rl := fr [(1, 2), (6, 7), (8, 9)] [] C) hx hb hK hP hD hS 6 (Nat.lt_of_lt_of_le (by decide) hn) (sM_6 hT) n_38 (hT.up 6 (by decide) (tA_upd (tM_6 hT) (tA_stc (Nat.mod_one _) u_24.1 (by decide)))) (fr_st hF (by decide) (by decide)) dX7_show_54 (fun C_39 H locs e_40 hT hF hP hD hS => ?_)
          have t_41 := hT
          refine lv_iconst (v := 1) hx hb dX7_show_55 (by decide) ?_
          rw [hQ]
          exact W.iret (v := 1) hx hb hr (fun t ht hW => ⟨⟨1, C_39, rfl, ⟨hT, hF, ⟨⟨hR.1.fr hF (by decide), oh_relS2 (i := x1) hR.2 (by rw [(th_un e_40 (by decide)), (st_ga e_36)]) (by rw [(st_ga e_40), (th_un e_36 (by decide))]) (fun _ => (rg_w (lo := 0) (hi := 15) u_24.1 (by decide)).1)⟩, (fun A hA => (pif_pos ⟨(oh_rgI (p := 0) (q := 7) (rg_w (lo := 0) (hi := 7) (rg_il (rgL_i (rg_il (rnL_leu u_10.2 (rnL_lel u_10.1 (rgL_c (v := 0) (lo := 0) (hi := 0) (by decide)) (rgL_i (rg_any _))) (rgL_c (v := 7) (lo := 7) (hi := 7) (by decide)))))) (by decide))), (Or.inl c_25)⟩).symm), (fun A hA S hS0 => by rw [show spSw A S x1 x2 = _ from pif_pos ⟨(oh_rgI (p := 0) (q := 7) (rg_w (lo := 0) (hi := 7) (rg_il (rgL_i (rg_il (rnL_leu u_10.2 (rnL_lel u_10.1 (rgL_c (v := 0) (lo := 0) (hi := 0) (by decide)) (rgL_i (rg_any _))) (rgL_c (v := 7) (lo := 7) (hi := 7) (by decide)))))) (by decide))), (Or.inl c_25)⟩]; exact hm_put hS0 (Or.inl c_25) ((pif_pos c_25).symm) (by rw [(th_un e_40 (by decide)), (st_ga e_36)]) (by rw [(st_ga e_40), (th_un e_36 (by decide))]) (Eq.trans (th_un e_40 (by decide)) (th_un e_36 (by decide))) (Eq.trans (th_un e_40 (by decide)) (th_un e_36 (by decide))))⟩⟩, ⟨by rw [ht]; exact hP, hD⟩⟩, hS.F ht⟩) hS.2.2 dX7_show_56
      · have u_42 := hq_22.2.2 c_23
        refine lv_aload_n hx hb dX7_show_25 rfl (lv_at hl 0 rfl) ?_
        refine lv_bipush (v := (-2)) hx hb dX7_show_26 (by decide) ?_
        refine tm_V (As := [.int (-2)]) (rest := []) ⟨hx, hb, hml, hown, htg⟩ (c_X7_refuse l D E G _ a C n hn hT ((-2) : Int32) (rg_w (rg_c (v := (-2)) (lo := (-2)) (hi := (-2)) (by decide)) (by decide))) (cwV 1 htg (oh_gV q_1071 q_1073 q_29 q_73 q_1074) rfl rfl rfl pdVX7_refuse ⟨Nat.le_of_ble_eq_true rfl, Nat.le_of_ble_eq_true rfl⟩) hK hP hD hG hS hA (va_recv hK hP (ci := 7) (q0 := 0) rfl (oh_wg (Nat.lt_of_lt_of_le (by decide) hn) (sM_0 hT))) rfl hl.1 rfl (Nat.le_of_ble_eq_true rfl) dX7_show_28 ⟨Nat.le_of_ble_eq_true rfl, Nat.le_of_ble_eq_true rfl⟩ (fun r_43 C_44 H locs hq_45 hP hD hS => ?_)
        obtain ⟨hT, f_46, hq_45⟩ := hq_45
        have hF := fr_tr hF f_46 (by decide) (by decide)
        refine W.widen (k := 0) (n := 0) (Nat.le_refl _) (Nat.le_refl _) ?_
        have t_47 := hT
        rw [hQ]
        exact W.iret (v := r_43) hx hb hr (fun t ht hW => ⟨⟨r_43, C_44, rfl, ⟨hT, hF, ⟨⟨hR.1.fr hF (by decide), (RelS.fr hR.2 f_46 (by decide))⟩, (fun A hA => Eq.trans hq_45 (pif_neg (fun h8 => by rcases h8.2 with h7 | h7; exact c_11 h7; rw [← (show gi (C 0) 11 = A 5 0 1 from hA.1 1 (by decide))] at h7; exact u_42 h7)).symm), (fun A hA S hS0 => by rw [show spSw A S x1 x2 = S from pif_neg (fun h8 => by rcases h8.2 with h7 | h7; exact c_11 h7; rw [← (show gi (C 0) 11 = A 5 0 1 from hA.1 1 (by decide))] at h7; exact u_42 h7)]; exact (hm_fr hS0 (f_46.1 1 rfl (by decide)) (f_46.1 2 rfl (by decide)) (f_46.1 3 rfl (by decide)) (f_46.1 6 rfl (by decide))))⟩⟩, ⟨by rw [ht]; exact hP, hD⟩⟩, hS.F ht⟩) hS.2.2 dX7_show_31

set_option maxHeartbeats 4000000 in
set_option maxRecDepth 100000 in
theorem e_X7_set (l : Launch) (D : va_G) (E : Nat → ClassId) (G : Nat → Nat) (sz : Nat) (a : Nat → Nat) (C : Nat → va_E) (n : Nat) (hn : 74 ≤ n) (hT : TyM a E C) (x1 : Int32) (x2 : Int32) (x3 : Int64) (hR : RelM C) : Met l yX7_set (oh_w yX7_set cX7_set 5 (some .int)) ({ frames := 1, cells := 0, slots := 0, locals := 25 }) (oh_Pm D E G [.ref (a 0), .int x1, .int x2, .long x3] (oh_W n a C) sz) (va_Qi (fun r (u : Nat → va_E) => TyM a E u ∧ fr [(8, 9), (16, 24)] [] C u ∧ (RelM u) ∧ (∀ S : HZ, absHM C S → r = spSet S x1 x2)) (oh_B D (va_A (oh_W n a C) sz) (fun u => oh_W n a u)) (va_A (oh_W n a C) sz)) 0 0 (va_A (oh_W n a C) sz) := by
  refine Met.ofW (cc := cX7_set) (maxL := 5) (ret := (some .int)) (by decide) rfl ?_
  intro p e s m args below meth c s₁ B hml hv
  obtain ⟨rfl, hsz, hP, hK, hD0, hG⟩ := hv
  have hx := B.exec
  have hb := B.bytes
  have hr := B.returns
  have hts := atoms_spec (ws := (oh_w yX7_set cX7_set 5 (some .int))) B.pre
  have htg : ∀ w ∈ oh_t, w.before _ s = true := fun w h => hts w (List.mem_cons_of_mem _ h)
  have hown : s.vm.findClass RX7 = some m.cls := findClass_of_methodNamed B.named
  have hlocks := B.notSynchronized
  have hT0 := hT
  subst hsz
  have hD := hD0.self (sz := s.heap.size)
  generalize hAe : va_A (oh_W n a C) s.heap.size = A at hD hG ⊢
  have hA : ∀ q : Nat, s.heap.size ≤ q → A q := fun q h => by rw [← hAe]; exact Or.inr h
  have hS : va_S A s.heap s.heap [] := va_S.rf
  have hF : fr [(8, 9), (16, 24)] [] C C := fr_rf
  have hl := lv_entry ([.ref (a 0), .int x1, .int x2, .long x3]) (n := 5) (Nat.le_of_ble_eq_true rfl)
  rw [lg_entry_eq]
  generalize (lg_sl ([.ref (a 0), .int x1, .int x2, .long x3]) ++ List.replicate (5 - (lg_sl ([.ref (a 0), .int x1, .int x2, .long x3])).length) Slot.unset).toArray = ls at hl ⊢
  have hl : lv_has ls 5 [(0, .ref (a 0)), (1, .int x1), (2, .int x2), (3, .long x3)] := hl
  refine oh_genQ (fun Q hQ => ?_)
  refine lv_iload_n hx hb dX7_set_0 rfl (lv_at hl 1 rfl) ?_
  refine lv_i2l (v := Int32.toInt64 x1) hx hb dX7_set_1 (by rfl) ?_
  refine lv_lconst (v := 0) hx hb dX7_set_2 (by decide) ?_
  refine lv_ldc2 (v := 7) hx hb hown (htg _ q_1065) dX7_set_3 ?_
  refine tq_S (As := [.long (Int32.toInt64 x1), .long 0, .long 7]) (rest := []) (ws := []) ⟨hx, hb, hml, hown, htg⟩ (c_X7_in l D E G (Int32.toInt64 x1) (0 : Int64) (7 : Int64)) (va_cwS 3 htg (oh_gS q_1066 q_1067 q_73 q_1068) rfl rfl rfl pdX7_in ⟨Nat.le_of_ble_eq_true rfl, Nat.le_of_ble_eq_true rfl⟩) hK va_nil hG hS rfl hl.1 rfl (Nat.le_of_ble_eq_true rfl) dX7_set_6 ⟨Nat.le_of_ble_eq_true rfl, Nat.le_of_ble_eq_true rfl⟩ (fun r_1 hq_2 => ?_)
  refine lv_if_ne (tgt := 19) hx hb dX7_set_9 (by decide) (fun (c_3 : ¬ (r_1 = 0)) => ?_) (fun (c_3 : r_1 = 0) => ?_)
  · have u_4 := hq_2.2.1 c_3
    refine lv_aload_n hx hb dX7_set_19 rfl (lv_at hl 0 rfl) ?_
    refine va_get (D := D) (ci := 7) (v := .ref (a 1)) (C := RX7) (T := TX7) (N := 29) hx hb htg ig_7 hown hK hP 0 (oh_wg (Nat.lt_of_lt_of_le (by decide) hn) (sM_0 hT)) rfl 0 (by decide) (htg _ q_973) (fun _ h9 => h9) rfl dX7_set_20 ?_
    refine lv_iload_n hx hb dX7_set_23 rfl (lv_at hl 1 rfl) ?_
    have n_5 : vp_in x1 8 := (rg_in (rg_il (rgL_i (rg_il (rnL_leu u_4.2 (rnL_lel u_4.1 (rgL_c (v := 0) (lo := 0) (hi := 0) (by decide)) (rgL_i (rg_any _))) (rgL_c (v := 7) (lo := 7) (hi := 7) (by decide)))))) (by decide))
    refine th_iald hx hb hK hP 1 (Nat.lt_of_lt_of_le (by decide) hn) (sM_1 hT) n_5 dX7_set_24 ?_
    refine lv_iconst (v := 2) hx hb dX7_set_25 (by decide) ?_
    refine lv_icmp_ne (tgt := 36) hx hb dX7_set_26 (by decide) (fun (c_6 : ¬ ((ga (C 1) (x1).toNatClampNeg) = 2)) => ?_) (fun (c_6 : (ga (C 1) (x1).toNatClampNeg) = 2) => ?_)
    · refine lv_aload_n hx hb dX7_set_36 rfl (lv_at hl 0 rfl) ?_
      refine va_get (D := D) (ci := 7) (v := .ref (a 1)) (C := RX7) (T := TX7) (N := 29) hx hb htg ig_7 hown hK hP 0 (oh_wg (Nat.lt_of_lt_of_le (by decide) hn) (sM_0 hT)) rfl 0 (by decide) (htg _ q_973) (fun _ h9 => h9) rfl dX7_set_37 ?_
      refine lv_iload_n hx hb dX7_set_40 rfl (lv_at hl 1 rfl) ?_
      have n_7 : vp_in x1 8 := (rg_in (rg_il (rgL_i (rg_il (rnL_leu u_4.2 (rnL_lel u_4.1 (rgL_c (v := 0) (lo := 0) (hi := 0) (by decide)) (rgL_i (rg_any _))) (rgL_c (v := 7) (lo := 7) (hi := 7) (by decide)))))) (by decide))
      refine th_iald hx hb hK hP 1 (Nat.lt_of_lt_of_le (by decide) hn) (sM_1 hT) n_7 dX7_set_41 ?_
      refine lv_if_ne (tgt := 52) hx hb dX7_set_42 (by decide) (fun (c_8 : ¬ ((ga (C 1) (x1).toNatClampNeg) = 0)) => ?_) (fun (c_8 : (ga (C 1) (x1).toNatClampNeg) = 0) => ?_)
      · refine lv_iload_n hx hb dX7_set_52 rfl (lv_at hl 2 rfl) ?_
        refine lv_i2l (v := Int32.toInt64 x2) hx hb dX7_set_53 (by rfl) ?_
        refine lv_lconst (v := 0) hx hb dX7_set_54 (by decide) ?_
        refine lv_aload_n hx hb dX7_set_55 rfl (lv_at hl 0 rfl) ?_
        refine va_get (D := D) (ci := 7) (v := .ref (a 3)) (C := RX7) (T := TX7) (N := 29) hx hb htg ig_7 hown hK hP 0 (oh_wg (Nat.lt_of_lt_of_le (by decide) hn) (sM_0 hT)) rfl 2 (by decide) (htg _ q_975) (fun _ h9 => h9) rfl dX7_set_56 ?_
        refine lv_iload_n hx hb dX7_set_59 rfl (lv_at hl 1 rfl) ?_
        have n_9 : vp_in x1 8 := (rg_in (rg_il (rgL_i (rg_il (rnL_leu u_4.2 (rnL_lel u_4.1 (rgL_c (v := 0) (lo := 0) (hi := 0) (by decide)) (rgL_i (rg_any _))) (rgL_c (v := 7) (lo := 7) (hi := 7) (by decide)))))) (by decide))
        refine th_iald hx hb hK hP 3 (Nat.lt_of_lt_of_le (by decide) hn) (sM_3 hT) n_9 dX7_set_60 ?_
        refine lv_iconst (v := 1) hx hb dX7_set_61 (by decide) ?_
        refine lv_isub hx hb dX7_set_62 ?_
        refine lv_i2l (v := Int32.toInt64 ((ga (C 3) (x1).toNatClampNeg) - 1)) hx hb dX7_set_63 (by rfl) ?_
        refine tq_S (As := [.long (Int32.toInt64 x2), .long 0, .long (Int32.toInt64 ((ga (C 3) (x1).toNatClampNeg) - 1))]) (rest := []) (ws := []) ⟨hx, hb, hml, hown, htg⟩ (c_X7_in l D E G (Int32.toInt64 x2) (0 : Int64) (Int32.toInt64 ((ga (C 3) (x1).toNatClampNeg) - 1))) (va_cwS 3 htg (oh_gS q_1066 q_1067 q_73 q_1068) rfl rfl rfl pdX7_in ⟨Nat.le_of_ble_eq_true rfl, Nat.le_of_ble_eq_true rfl⟩) hK va_nil hG hS rfl hl.1 rfl (Nat.le_of_ble_eq_true rfl) dX7_set_64 ⟨Nat.le_of_ble_eq_true rfl, Nat.le_of_ble_eq_true rfl⟩ (fun r_10 hq_11 => ?_)
        refine lv_if_ne (tgt := 77) hx hb dX7_set_67 (by decide) (fun (c_12 : ¬ (r_10 = 0)) => ?_) (fun (c_12 : r_10 = 0) => ?_)
        · have u_13 := hq_11.2.1 c_12
          refine lv_aload_n hx hb dX7_set_77 rfl (lv_at hl 0 rfl) ?_
          refine va_get (D := D) (ci := 7) (v := .ref (a 4)) (C := RX7) (T := TX7) (N := 29) hx hb htg ig_7 hown hK hP 0 (oh_wg (Nat.lt_of_lt_of_le (by decide) hn) (sM_0 hT)) rfl 3 (by decide) (htg _ q_976) (fun _ h9 => h9) rfl dX7_set_78 ?_
          refine lv_iload_n hx hb dX7_set_81 rfl (lv_at hl 1 rfl) ?_
          have n_14 : vp_in x1 8 := (rg_in (rg_il (rgL_i (rg_il (rnL_leu u_4.2 (rnL_lel u_4.1 (rgL_c (v := 0) (lo := 0) (hi := 0) (by decide)) (rgL_i (rg_any _))) (rgL_c (v := 7) (lo := 7) (hi := 7) (by decide)))))) (by decide))
          have b_15 : (x1).toNatClampNeg < 8 := vp_lt n_14
          refine th_aald hx hb hK hP 4 3 (Nat.lt_of_lt_of_le (by decide) hn) (sM_4 hT) rfl n_14 dX7_set_82 ?_
          refine lv_iload_n hx hb dX7_set_83 rfl (lv_at hl 2 rfl) ?_
          refine lv_aload_n hx hb dX7_set_84 rfl (lv_at hl 0 rfl) ?_
          refine va_get (D := D) (ci := 7) (v := .ref (a 2)) (C := RX7) (T := TX7) (N := 29) hx hb htg ig_7 hown hK hP 0 (oh_wg (Nat.lt_of_lt_of_le (by decide) hn) (sM_0 hT)) rfl 1 (by decide) (htg _ q_974) (fun _ h9 => h9) rfl dX7_set_85 ?_
          refine lv_iload_n hx hb dX7_set_88 rfl (lv_at hl 1 rfl) ?_
          have n_16 : vp_in x1 8 := (rg_in (rg_il (rgL_i (rg_il (rnL_leu u_4.2 (rnL_lel u_4.1 (rgL_c (v := 0) (lo := 0) (hi := 0) (by decide)) (rgL_i (rg_any _))) (rgL_c (v := 7) (lo := 7) (hi := 7) (by decide)))))) (by decide))
          refine th_iald hx hb hK hP 2 (Nat.lt_of_lt_of_le (by decide) hn) (sM_2 hT) n_16 dX7_set_89 ?_
          refine lv_lload_n hx hb dX7_set_90 rfl (lv_at hl 3 rfl) ?_
          refine tq_Sl (As := [.int (ga (C 2) (x1).toNatClampNeg), .long x3]) (rest := [.int x2, .ref (a (16 + (x1).toNatClampNeg))]) (ws := []) ⟨hx, hb, hml, hown, htg⟩ (c_X7_fit l D E G (ga (C 2) (x1).toNatClampNeg) x3) (va_cwS 2 htg (oh_gS q_1079 q_1080 q_73 q_1081) rfl rfl rfl pdX7_fit ⟨Nat.le_of_ble_eq_true rfl, Nat.le_of_ble_eq_true rfl⟩) hK va_nil hG hS rfl hl.1 rfl (Nat.le_of_ble_eq_true rfl) dX7_set_91 ⟨Nat.le_of_ble_eq_true rfl, Nat.le_of_ble_eq_true rfl⟩ (fun r_17 hq_18 => ?_)
          have n_19 : vp_in x2 40 := (rg_in (rg_il (rnL_leu u_13.2 (rgL_i (rg_il (rnL_lel u_13.1 (rgL_c (v := 0) (lo := 0) (hi := 0) (by decide)) (rgL_i (rg_any _))))) (rgL_i (rg_sub (lo := (-1)) (hi := 39) (tA_rdc (lo := 0) (hi := 40) (tM_3 hT0) n_9 (Nat.mod_one _) (by decide)) (rg_c (v := 1) (lo := 1) (hi := 1) (by decide)) (by decide))))) (by decide))
          refine th_last (T := TyM a E) (Rl := fr [(8, 9), (16, 24)] [] C) hx hb hK hP hD hS (16 + (x1).toNatClampNeg) (lt_blk b_15 hn (by decide)) (hT.brows b_15) n_19 (hT.uprows b_15 rfl) (fr_st hF (by omega) (inR_of (p := (16, 24)) (by decide) (by show 16 ≤ _; omega) (by show _ < 24; omega))) dX7_set_94 (fun C_20 H locs e_21 hT hF hP hD hS => ?_)
          have t_22 := hT
          refine lv_iconst (v := 1) hx hb dX7_set_95 (by decide) ?_
          rw [hQ]
          exact W.iret (v := 1) hx hb hr (fun t ht hW => ⟨⟨1, C_20, rfl, ⟨hT, hF, ⟨⟨hR.1.fr hF (by decide), hR.2.fr hF (by decide)⟩, (fun S hS0 => by have w := wm_1 hS0 (oh_rgI (p := 0) (q := 7) (rg_w (lo := 0) (hi := 7) (rg_il (rgL_i (rg_il (rnL_leu u_4.2 (rnL_lel u_4.1 (rgL_c (v := 0) (lo := 0) (hi := 0) (by decide)) (rgL_i (rg_any _))) (rgL_c (v := 7) (lo := 7) (hi := 7) (by decide)))))) (by decide))) c_6 c_8; have z := ((hS0 _ (sh8 (rg_w (lo := 0) (hi := 7) (rg_il (rgL_i (rg_il (rnL_leu u_4.2 (rnL_lel u_4.1 (rgL_c (v := 0) (lo := 0) (hi := 0) (by decide)) (rgL_i (rg_any _))) (rgL_c (v := 7) (lo := 7) (hi := 7) (by decide)))))) (by decide)))).2.2.1 (hm_r1 hS0 (sh8 (rg_w (lo := 0) (hi := 7) (rg_il (rgL_i (rg_il (rnL_leu u_4.2 (rnL_lel u_4.1 (rgL_c (v := 0) (lo := 0) (hi := 0) (by decide)) (rgL_i (rg_any _))) (rgL_c (v := 7) (lo := 7) (hi := 7) (by decide)))))) (by decide))) c_8 c_6)).2.2; exact (Eq.trans (pif_pos w) (pif_pos (by rw [← z]; exact pk64.mp ⟨u_13.1, u_13.2⟩))).symm)⟩⟩, ⟨by rw [ht]; exact hP, hD⟩⟩, hS.F ht⟩) hS.2.2 dX7_set_96
        · have u_23 := hq_11.2.2 c_12
          refine lv_aload_n hx hb dX7_set_70 rfl (lv_at hl 0 rfl) ?_
          refine lv_bipush (v := (-2)) hx hb dX7_set_71 (by decide) ?_
          refine tm_V (As := [.int (-2)]) (rest := []) ⟨hx, hb, hml, hown, htg⟩ (c_X7_refuse l D E G _ a C n hn hT ((-2) : Int32) (rg_w (rg_c (v := (-2)) (lo := (-2)) (hi := (-2)) (by decide)) (by decide))) (cwV 1 htg (oh_gV q_1071 q_1073 q_29 q_73 q_1074) rfl rfl rfl pdVX7_refuse ⟨Nat.le_of_ble_eq_true rfl, Nat.le_of_ble_eq_true rfl⟩) hK hP hD hG hS hA (va_recv hK hP (ci := 7) (q0 := 0) rfl (oh_wg (Nat.lt_of_lt_of_le (by decide) hn) (sM_0 hT))) rfl hl.1 rfl (Nat.le_of_ble_eq_true rfl) dX7_set_73 ⟨Nat.le_of_ble_eq_true rfl, Nat.le_of_ble_eq_true rfl⟩ (fun r_24 C_25 H locs hq_26 hP hD hS => ?_)
          obtain ⟨hT, f_27, hq_26⟩ := hq_26
          have hF := fr_tr hF f_27 (by decide) (by decide)
          refine W.widen (k := 0) (n := 0) (Nat.le_refl _) (Nat.le_refl _) ?_
          have t_28 := hT
          rw [hQ]
          exact W.iret (v := r_24) hx hb hr (fun t ht hW => ⟨⟨r_24, C_25, rfl, ⟨hT, hF, ⟨⟨hR.1.fr hF (by decide), hR.2.fr hF (by decide)⟩, (fun S hS0 => by have w := wm_1 hS0 (oh_rgI (p := 0) (q := 7) (rg_w (lo := 0) (hi := 7) (rg_il (rgL_i (rg_il (rnL_leu u_4.2 (rnL_lel u_4.1 (rgL_c (v := 0) (lo := 0) (hi := 0) (by decide)) (rgL_i (rg_any _))) (rgL_c (v := 7) (lo := 7) (hi := 7) (by decide)))))) (by decide))) c_6 c_8; have z := ((hS0 _ (sh8 (rg_w (lo := 0) (hi := 7) (rg_il (rgL_i (rg_il (rnL_leu u_4.2 (rnL_lel u_4.1 (rgL_c (v := 0) (lo := 0) (hi := 0) (by decide)) (rgL_i (rg_any _))) (rgL_c (v := 7) (lo := 7) (hi := 7) (by decide)))))) (by decide)))).2.2.1 (hm_r1 hS0 (sh8 (rg_w (lo := 0) (hi := 7) (rg_il (rgL_i (rg_il (rnL_leu u_4.2 (rnL_lel u_4.1 (rgL_c (v := 0) (lo := 0) (hi := 0) (by decide)) (rgL_i (rg_any _))) (rgL_c (v := 7) (lo := 7) (hi := 7) (by decide)))))) (by decide))) c_8 c_6)).2.2; exact Eq.trans hq_26 (Eq.trans (pif_pos w) (pif_neg (by rw [← z]; exact fun h8 => u_23 (pk64.mpr h8)))).symm)⟩⟩, ⟨by rw [ht]; exact hP, hD⟩⟩, hS.F ht⟩) hS.2.2 dX7_set_76
      · refine lv_aload_n hx hb dX7_set_45 rfl (lv_at hl 0 rfl) ?_
        refine lv_bipush (v := (-4)) hx hb dX7_set_46 (by decide) ?_
        refine tm_V (As := [.int (-4)]) (rest := []) ⟨hx, hb, hml, hown, htg⟩ (c_X7_refuse l D E G _ a C n hn hT ((-4) : Int32) (rg_w (rg_c (v := (-4)) (lo := (-4)) (hi := (-4)) (by decide)) (by decide))) (cwV 1 htg (oh_gV q_1071 q_1073 q_29 q_73 q_1074) rfl rfl rfl pdVX7_refuse ⟨Nat.le_of_ble_eq_true rfl, Nat.le_of_ble_eq_true rfl⟩) hK hP hD hG hS hA (va_recv hK hP (ci := 7) (q0 := 0) rfl (oh_wg (Nat.lt_of_lt_of_le (by decide) hn) (sM_0 hT))) rfl hl.1 rfl (Nat.le_of_ble_eq_true rfl) dX7_set_48 ⟨Nat.le_of_ble_eq_true rfl, Nat.le_of_ble_eq_true rfl⟩ (fun r_29 C_30 H locs hq_31 hP hD hS => ?_)
        obtain ⟨hT, f_32, hq_31⟩ := hq_31
        have hF := fr_tr hF f_32 (by decide) (by decide)
        refine W.widen (k := 0) (n := 0) (Nat.le_refl _) (Nat.le_refl _) ?_
        have t_33 := hT
        rw [hQ]
        exact W.iret (v := r_29) hx hb hr (fun t ht hW => ⟨⟨r_29, C_30, rfl, ⟨hT, hF, ⟨⟨hR.1.fr hF (by decide), hR.2.fr hF (by decide)⟩, (fun S hS0 => Eq.trans hq_31 (ss_n (wm_0 hS0 (oh_rgI (p := 0) (q := 7) (rg_w (lo := 0) (hi := 7) (rg_il (rgL_i (rg_il (rnL_leu u_4.2 (rnL_lel u_4.1 (rgL_c (v := 0) (lo := 0) (hi := 0) (by decide)) (rgL_i (rg_any _))) (rgL_c (v := 7) (lo := 7) (hi := 7) (by decide)))))) (by decide))) c_8) (by decide)))⟩⟩, ⟨by rw [ht]; exact hP, hD⟩⟩, hS.F ht⟩) hS.2.2 dX7_set_51
    · refine lv_aload_n hx hb dX7_set_29 rfl (lv_at hl 0 rfl) ?_
      refine lv_bipush (v := (-3)) hx hb dX7_set_30 (by decide) ?_
      refine tm_V (As := [.int (-3)]) (rest := []) ⟨hx, hb, hml, hown, htg⟩ (c_X7_refuse l D E G _ a C n hn hT ((-3) : Int32) (rg_w (rg_c (v := (-3)) (lo := (-3)) (hi := (-3)) (by decide)) (by decide))) (cwV 1 htg (oh_gV q_1071 q_1073 q_29 q_73 q_1074) rfl rfl rfl pdVX7_refuse ⟨Nat.le_of_ble_eq_true rfl, Nat.le_of_ble_eq_true rfl⟩) hK hP hD hG hS hA (va_recv hK hP (ci := 7) (q0 := 0) rfl (oh_wg (Nat.lt_of_lt_of_le (by decide) hn) (sM_0 hT))) rfl hl.1 rfl (Nat.le_of_ble_eq_true rfl) dX7_set_32 ⟨Nat.le_of_ble_eq_true rfl, Nat.le_of_ble_eq_true rfl⟩ (fun r_34 C_35 H locs hq_36 hP hD hS => ?_)
      obtain ⟨hT, f_37, hq_36⟩ := hq_36
      have hF := fr_tr hF f_37 (by decide) (by decide)
      refine W.widen (k := 0) (n := 0) (Nat.le_refl _) (Nat.le_refl _) ?_
      have t_38 := hT
      rw [hQ]
      exact W.iret (v := r_34) hx hb hr (fun t ht hW => ⟨⟨r_34, C_35, rfl, ⟨hT, hF, ⟨⟨hR.1.fr hF (by decide), hR.2.fr hF (by decide)⟩, (fun S hS0 => Eq.trans hq_36 (ss_n (wm_2 hS0 (oh_rgI (p := 0) (q := 7) (rg_w (lo := 0) (hi := 7) (rg_il (rgL_i (rg_il (rnL_leu u_4.2 (rnL_lel u_4.1 (rgL_c (v := 0) (lo := 0) (hi := 0) (by decide)) (rgL_i (rg_any _))) (rgL_c (v := 7) (lo := 7) (hi := 7) (by decide)))))) (by decide))) c_6) (by decide)))⟩⟩, ⟨by rw [ht]; exact hP, hD⟩⟩, hS.F ht⟩) hS.2.2 dX7_set_35
  · have u_39 := hq_2.2.2 c_3
    refine lv_aload_n hx hb dX7_set_12 rfl (lv_at hl 0 rfl) ?_
    refine lv_bipush (v := (-2)) hx hb dX7_set_13 (by decide) ?_
    refine tm_V (As := [.int (-2)]) (rest := []) ⟨hx, hb, hml, hown, htg⟩ (c_X7_refuse l D E G _ a C n hn hT ((-2) : Int32) (rg_w (rg_c (v := (-2)) (lo := (-2)) (hi := (-2)) (by decide)) (by decide))) (cwV 1 htg (oh_gV q_1071 q_1073 q_29 q_73 q_1074) rfl rfl rfl pdVX7_refuse ⟨Nat.le_of_ble_eq_true rfl, Nat.le_of_ble_eq_true rfl⟩) hK hP hD hG hS hA (va_recv hK hP (ci := 7) (q0 := 0) rfl (oh_wg (Nat.lt_of_lt_of_le (by decide) hn) (sM_0 hT))) rfl hl.1 rfl (Nat.le_of_ble_eq_true rfl) dX7_set_15 ⟨Nat.le_of_ble_eq_true rfl, Nat.le_of_ble_eq_true rfl⟩ (fun r_40 C_41 H locs hq_42 hP hD hS => ?_)
    obtain ⟨hT, f_43, hq_42⟩ := hq_42
    have hF := fr_tr hF f_43 (by decide) (by decide)
    refine W.widen (k := 0) (n := 0) (Nat.le_refl _) (Nat.le_refl _) ?_
    have t_44 := hT
    rw [hQ]
    exact W.iret (v := r_40) hx hb hr (fun t ht hW => ⟨⟨r_40, C_41, rfl, ⟨hT, hF, ⟨⟨hR.1.fr hF (by decide), hR.2.fr hF (by decide)⟩, (fun S hS0 => Eq.trans hq_42 (ss_n (wm_b (oh_in64 (l' := 0) (k' := 7) rfl rfl u_39)) (by decide)))⟩⟩, ⟨by rw [ht]; exact hP, hD⟩⟩, hS.F ht⟩) hS.2.2 dX7_set_18
/-! EXACT: the reference's copy -/
theorem cp_i {n z i : Int32} (hz : rg z 0 40) (hn : 0 ≤ n ∧ n ≤ 40) (hi : 0 ≤ i ∧ i ≤ z - n) : n ≤ z := by
  have a := Int32.le_iff_toInt_le.mp hn.1
  have b := Int32.le_iff_toInt_le.mp hn.2
  have c := Int32.le_iff_toInt_le.mp hi.1
  have d := Int32.le_iff_toInt_le.mp hi.2
  have e0 : (0 : Int32).toInt = 0 := rfl
  have e40 : (40 : Int32).toInt = 40 := rfl
  have e : (z - n).toInt = z.toInt - n.toInt := by
    rw [Int32.toInt_sub]
    exact oh_bmod (by have := hz.1; omega) (by have := hz.2; omega)
  exact Int32.le_iff_toInt_le.mpr (by omega)
theorem cp_40 {n z : Int32} (hz : rg z 0 40) (h : n ≤ z) : n ≤ 40 := Int32.le_trans h (Int32.le_iff_toInt_le.mpr hz.2)
noncomputable def cpTop (S : HZ) (p q : Int32) : Prop := (10 : Int32) ≤ S.1 p.toNatClampNeg ∨ (10 : Int32) ≤ S.1 q.toNatClampNeg ∨ (rowH (S.1 p.toNatClampNeg) ∧ rowH (S.1 q.toNatClampNeg) ∧ ¬ S.1 p.toNatClampNeg = S.1 q.toNatClampNeg)
theorem cp_top {S : HZ} {p q i j n : Int32} (h : (0 ≤ p ∧ p ≤ 7) ∧ (0 ≤ q ∧ q ≤ 7)) (t : cpTop S p q) : (-3 : Int32) = spCopy S p q i j n := (Eq.trans (pif_pos h) (pif_pos t)).symm
theorem cp_non {S : HZ} {p q i j n : Int32} (h : (0 ≤ p ∧ p ≤ 7) ∧ (0 ≤ q ∧ q ≤ 7)) (t : ¬ cpTop S p q) (e : S.1 p.toNatClampNeg = -1 ∨ S.1 q.toNatClampNeg = -1) : (-4 : Int32) = spCopy S p q i j n := (Eq.trans (pif_pos h) (Eq.trans (pif_neg t) (pif_pos e))).symm
theorem cp_bad {S : HZ} {p q i j n : Int32} (h : (0 ≤ p ∧ p ≤ 7) ∧ (0 ≤ q ∧ q ≤ 7)) (t : ¬ cpTop S p q) (e : ¬ (S.1 p.toNatClampNeg = -1 ∨ S.1 q.toNatClampNeg = -1)) (k : ¬ okCp S p q i j n) : (-2 : Int32) = spCopy S p q i j n := (Eq.trans (pif_pos h) (Eq.trans (pif_neg t) (Eq.trans (pif_neg e) (pif_neg k)))).symm
theorem cp_ok {S : HZ} {p q i j n : Int32} (h : (0 ≤ p ∧ p ≤ 7) ∧ (0 ≤ q ∧ q ≤ 7)) (t : ¬ cpTop S p q) (e : ¬ (S.1 p.toNatClampNeg = -1 ∨ S.1 q.toNatClampNeg = -1)) (k : okCp S p q i j n) : n = spCopy S p q i j n := (Eq.trans (pif_pos h) (Eq.trans (pif_neg t) (Eq.trans (pif_neg e) (pif_pos k)))).symm
theorem hm_s {C : Nat → va_E} {S : HZ} {s : Nat} (h : absHM C S) (hs : s < 8) (r : rowH (S.1 s)) : ga (C 2) s = S.1 s ∧ ga (C 3) s = S.2 s := ((h s hs).2.2.1 r).2
theorem cp_nt {C : Nat → va_E} {S : HZ} {p q : Int32} (h : absHM C S) (hp : p.toNatClampNeg < 8) (hq : q.toNatClampNeg < 8) (a : ¬ ga (C 1) p.toNatClampNeg = 2) (b : ¬ ga (C 1) q.toNatClampNeg = 2) (c : ¬ ga (C 1) p.toNatClampNeg = 1 ∨ ¬ ga (C 1) q.toNatClampNeg = 1 ∨ ga (C 2) p.toNatClampNeg = ga (C 2) q.toNatClampNeg) : ¬ cpTop S p q := by
  rintro (x | x | ⟨x, y, z⟩)
  · exact a ((hm_k h hp).2.2.mpr x)
  · exact b ((hm_k h hq).2.2.mpr x)
  · rcases c with c | c | c
    · exact c ((hm_k h hp).2.1.mpr x)
    · exact c ((hm_k h hq).2.1.mpr y)
    · exact z (by rw [← (hm_s h hp x).1, ← (hm_s h hq y).1]; exact c)
theorem cp_ne {C : Nat → va_E} {S : HZ} {p q : Int32} (h : absHM C S) (hp : p.toNatClampNeg < 8) (hq : q.toNatClampNeg < 8) (a : ¬ ga (C 1) p.toNatClampNeg = 0) (b : ¬ ga (C 1) q.toNatClampNeg = 0) : ¬ (S.1 p.toNatClampNeg = -1 ∨ S.1 q.toNatClampNeg = -1) := by
  rintro (x | x)
  · exact a ((hm_k h hp).1.mpr x)
  · exact b ((hm_k h hq).1.mpr x)
theorem cp_sz {C : Nat → va_E} {S : HZ} {p q i j n : Int32} (h : absHM C S) (hp : p.toNatClampNeg < 8) (hq : q.toNatClampNeg < 8) (a : ¬ ga (C 1) p.toNatClampNeg = 2) (b : ¬ ga (C 1) q.toNatClampNeg = 2) (a0 : ¬ ga (C 1) p.toNatClampNeg = 0) (b0 : ¬ ga (C 1) q.toNatClampNeg = 0) : okCp S p q i j n ↔ (0 ≤ n ∧ n ≤ 40) ∧ (0 ≤ i ∧ i ≤ ga (C 3) p.toNatClampNeg - n) ∧ (0 ≤ j ∧ j ≤ ga (C 3) q.toNatClampNeg - n) := by
  unfold okCp
  rw [(hm_s h hp (hm_r1 h hp a0 a)).2, (hm_s h hq (hm_r1 h hq b0 b)).2]

set_option maxHeartbeats 4000000 in
set_option maxRecDepth 100000 in
theorem e_X7_copy (l : Launch) (D : va_G) (E : Nat → ClassId) (G : Nat → Nat) (sz : Nat) (a : Nat → Nat) (C : Nat → va_E) (n : Nat) (hn : 74 ≤ n) (hT : TyM a E C) (x1 : Int32) (x2 : Int32) (x3 : Int32) (x4 : Int32) (x5 : Int32) (hR : RelM C) : Met l yX7_copy (oh_w yX7_copy cX7_copy 7 (some .int)) ({ frames := 1, cells := 0, slots := 0, locals := 25 }) (oh_Pm D E G [.ref (a 0), .int x1, .int x2, .int x3, .int x4, .int x5] (oh_W n a C) sz) (va_Qi (fun r (u : Nat → va_E) => TyM a E u ∧ fr [(5, 6), (8, 9), (16, 24)] [] C u ∧ (RelM u) ∧ (∀ S : HZ, absHM C S → r = spCopy S x1 x2 x3 x4 x5)) (oh_B D (va_A (oh_W n a C) sz) (fun u => oh_W n a u)) (va_A (oh_W n a C) sz)) 0 0 (va_A (oh_W n a C) sz) := by
  refine Met.ofW (cc := cX7_copy) (maxL := 7) (ret := (some .int)) (by decide) rfl ?_
  intro p e s m args below meth c s₁ B hml hv
  obtain ⟨rfl, hsz, hP, hK, hD0, hG⟩ := hv
  have hx := B.exec
  have hb := B.bytes
  have hr := B.returns
  have hts := atoms_spec (ws := (oh_w yX7_copy cX7_copy 7 (some .int))) B.pre
  have htg : ∀ w ∈ oh_t, w.before _ s = true := fun w h => hts w (List.mem_cons_of_mem _ h)
  have hown : s.vm.findClass RX7 = some m.cls := findClass_of_methodNamed B.named
  have hlocks := B.notSynchronized
  have hT0 := hT
  subst hsz
  have hD := hD0.self (sz := s.heap.size)
  generalize hAe : va_A (oh_W n a C) s.heap.size = A at hD hG ⊢
  have hA : ∀ q : Nat, s.heap.size ≤ q → A q := fun q h => by rw [← hAe]; exact Or.inr h
  have hS : va_S A s.heap s.heap [] := va_S.rf
  have hF : fr [(5, 6), (8, 9), (16, 24)] [] C C := fr_rf
  have hl := lv_entry ([.ref (a 0), .int x1, .int x2, .int x3, .int x4, .int x5]) (n := 7) (Nat.le_of_ble_eq_true rfl)
  rw [lg_entry_eq]
  generalize (lg_sl ([.ref (a 0), .int x1, .int x2, .int x3, .int x4, .int x5]) ++ List.replicate (7 - (lg_sl ([.ref (a 0), .int x1, .int x2, .int x3, .int x4, .int x5])).length) Slot.unset).toArray = ls at hl ⊢
  have hl : lv_has ls 7 [(0, .ref (a 0)), (1, .int x1), (2, .int x2), (3, .int x3), (4, .int x4), (5, .int x5)] := hl
  refine oh_genQ (fun Q hQ => ?_)
  refine lv_iload_n hx hb dX7_copy_0 rfl (lv_at hl 1 rfl) ?_
  refine lv_i2l (v := Int32.toInt64 x1) hx hb dX7_copy_1 (by rfl) ?_
  refine lv_lconst (v := 0) hx hb dX7_copy_2 (by decide) ?_
  refine lv_ldc2 (v := 7) hx hb hown (htg _ q_1065) dX7_copy_3 ?_
  refine tq_S (As := [.long (Int32.toInt64 x1), .long 0, .long 7]) (rest := []) (ws := []) ⟨hx, hb, hml, hown, htg⟩ (c_X7_in l D E G (Int32.toInt64 x1) (0 : Int64) (7 : Int64)) (va_cwS 3 htg (oh_gS q_1066 q_1067 q_73 q_1068) rfl rfl rfl pdX7_in ⟨Nat.le_of_ble_eq_true rfl, Nat.le_of_ble_eq_true rfl⟩) hK va_nil hG hS rfl hl.1 rfl (Nat.le_of_ble_eq_true rfl) dX7_copy_6 ⟨Nat.le_of_ble_eq_true rfl, Nat.le_of_ble_eq_true rfl⟩ (fun r_1 hq_2 => ?_)
  refine lv_if_eq (tgt := 24) hx hb dX7_copy_9 (by decide) (fun (c_3 : r_1 = 0) => ?_) (fun (c_3 : ¬ (r_1 = 0)) => ?_)
  · have u_4 := hq_2.2.2 c_3
    refine lv_aload_n hx hb dX7_copy_24 rfl (lv_at hl 0 rfl) ?_
    refine lv_bipush (v := (-2)) hx hb dX7_copy_25 (by decide) ?_
    refine tm_V (As := [.int (-2)]) (rest := []) ⟨hx, hb, hml, hown, htg⟩ (c_X7_refuse l D E G _ a C n hn hT ((-2) : Int32) (rg_w (rg_c (v := (-2)) (lo := (-2)) (hi := (-2)) (by decide)) (by decide))) (cwV 1 htg (oh_gV q_1071 q_1073 q_29 q_73 q_1074) rfl rfl rfl pdVX7_refuse ⟨Nat.le_of_ble_eq_true rfl, Nat.le_of_ble_eq_true rfl⟩) hK hP hD hG hS hA (va_recv hK hP (ci := 7) (q0 := 0) rfl (oh_wg (Nat.lt_of_lt_of_le (by decide) hn) (sM_0 hT))) rfl hl.1 rfl (Nat.le_of_ble_eq_true rfl) dX7_copy_27 ⟨Nat.le_of_ble_eq_true rfl, Nat.le_of_ble_eq_true rfl⟩ (fun r_5 C_6 H locs hq_7 hP hD hS => ?_)
    obtain ⟨hT, f_8, hq_7⟩ := hq_7
    have hF := fr_tr hF f_8 (by decide) (by decide)
    refine W.widen (k := 0) (n := 0) (Nat.le_refl _) (Nat.le_refl _) ?_
    have t_9 := hT
    rw [hQ]
    exact W.iret (v := r_5) hx hb hr (fun t ht hW => ⟨⟨r_5, C_6, rfl, ⟨hT, hF, ⟨⟨hR.1.fr hF (by decide), hR.2.fr hF (by decide)⟩, (fun S hS0 => Eq.trans hq_7 (pif_neg (fun h8 => (oh_in64 (l' := 0) (k' := 7) rfl rfl u_4) h8.1)).symm)⟩⟩, ⟨by rw [ht]; exact hP, hD⟩⟩, hS.F ht⟩) hS.2.2 dX7_copy_30
  · have u_10 := hq_2.2.1 c_3
    refine lv_iload_n hx hb dX7_copy_12 rfl (lv_at hl 2 rfl) ?_
    refine lv_i2l (v := Int32.toInt64 x2) hx hb dX7_copy_13 (by rfl) ?_
    refine lv_lconst (v := 0) hx hb dX7_copy_14 (by decide) ?_
    refine lv_ldc2 (v := 7) hx hb hown (htg _ q_1065) dX7_copy_15 ?_
    refine tq_S (As := [.long (Int32.toInt64 x2), .long 0, .long 7]) (rest := []) (ws := []) ⟨hx, hb, hml, hown, htg⟩ (c_X7_in l D E G (Int32.toInt64 x2) (0 : Int64) (7 : Int64)) (va_cwS 3 htg (oh_gS q_1066 q_1067 q_73 q_1068) rfl rfl rfl pdX7_in ⟨Nat.le_of_ble_eq_true rfl, Nat.le_of_ble_eq_true rfl⟩) hK va_nil hG hS rfl hl.1 rfl (Nat.le_of_ble_eq_true rfl) dX7_copy_18 ⟨Nat.le_of_ble_eq_true rfl, Nat.le_of_ble_eq_true rfl⟩ (fun r_11 hq_12 => ?_)
    refine lv_if_ne (tgt := 31) hx hb dX7_copy_21 (by decide) (fun (c_13 : ¬ (r_11 = 0)) => ?_) (fun (c_13 : r_11 = 0) => ?_)
    · have u_14 := hq_12.2.1 c_13
      refine lv_aload_n hx hb dX7_copy_31 rfl (lv_at hl 0 rfl) ?_
      refine va_get (D := D) (ci := 7) (v := .ref (a 1)) (C := RX7) (T := TX7) (N := 29) hx hb htg ig_7 hown hK hP 0 (oh_wg (Nat.lt_of_lt_of_le (by decide) hn) (sM_0 hT)) rfl 0 (by decide) (htg _ q_973) (fun _ h9 => h9) rfl dX7_copy_32 ?_
      refine lv_iload_n hx hb dX7_copy_35 rfl (lv_at hl 1 rfl) ?_
      have n_15 : vp_in x1 8 := (rg_in (rg_il (rgL_i (rg_il (rnL_leu u_10.2 (rnL_lel u_10.1 (rgL_c (v := 0) (lo := 0) (hi := 0) (by decide)) (rgL_i (rg_any _))) (rgL_c (v := 7) (lo := 7) (hi := 7) (by decide)))))) (by decide))
      refine th_iald hx hb hK hP 1 (Nat.lt_of_lt_of_le (by decide) hn) (sM_1 hT) n_15 dX7_copy_36 ?_
      refine lv_iconst (v := 2) hx hb dX7_copy_37 (by decide) ?_
      refine lv_icmp_eq (tgt := 86) hx hb dX7_copy_38 (by decide) (fun (c_16 : (ga (C 1) (x1).toNatClampNeg) = 2) => ?_) (fun (c_16 : ¬ ((ga (C 1) (x1).toNatClampNeg) = 2)) => ?_)
      · refine lv_aload_n hx hb dX7_copy_86 rfl (lv_at hl 0 rfl) ?_
        refine lv_bipush (v := (-3)) hx hb dX7_copy_87 (by decide) ?_
        refine tm_V (As := [.int (-3)]) (rest := []) ⟨hx, hb, hml, hown, htg⟩ (c_X7_refuse l D E G _ a C n hn hT ((-3) : Int32) (rg_w (rg_c (v := (-3)) (lo := (-3)) (hi := (-3)) (by decide)) (by decide))) (cwV 1 htg (oh_gV q_1071 q_1073 q_29 q_73 q_1074) rfl rfl rfl pdVX7_refuse ⟨Nat.le_of_ble_eq_true rfl, Nat.le_of_ble_eq_true rfl⟩) hK hP hD hG hS hA (va_recv hK hP (ci := 7) (q0 := 0) rfl (oh_wg (Nat.lt_of_lt_of_le (by decide) hn) (sM_0 hT))) rfl hl.1 rfl (Nat.le_of_ble_eq_true rfl) dX7_copy_89 ⟨Nat.le_of_ble_eq_true rfl, Nat.le_of_ble_eq_true rfl⟩ (fun r_17 C_18 H locs hq_19 hP hD hS => ?_)
        obtain ⟨hT, f_20, hq_19⟩ := hq_19
        have hF := fr_tr hF f_20 (by decide) (by decide)
        refine W.widen (k := 0) (n := 0) (Nat.le_refl _) (Nat.le_refl _) ?_
        have t_21 := hT
        rw [hQ]
        exact W.iret (v := r_17) hx hb hr (fun t ht hW => ⟨⟨r_17, C_18, rfl, ⟨hT, hF, ⟨⟨hR.1.fr hF (by decide), hR.2.fr hF (by decide)⟩, (fun S hS0 => Eq.trans hq_19 (cp_top ⟨(oh_rgI (p := 0) (q := 7) (rg_w (lo := 0) (hi := 7) (rg_il (rgL_i (rg_il (rnL_leu u_10.2 (rnL_lel u_10.1 (rgL_c (v := 0) (lo := 0) (hi := 0) (by decide)) (rgL_i (rg_any _))) (rgL_c (v := 7) (lo := 7) (hi := 7) (by decide)))))) (by decide))), (oh_rgI (p := 0) (q := 7) (rg_w (lo := 0) (hi := 7) (rg_il (rgL_i (rg_il (rnL_leu u_14.2 (rnL_lel u_14.1 (rgL_c (v := 0) (lo := 0) (hi := 0) (by decide)) (rgL_i (rg_any _))) (rgL_c (v := 7) (lo := 7) (hi := 7) (by decide)))))) (by decide)))⟩ (Or.inl ((hm_k hS0 (sh8 (rg_w (lo := 0) (hi := 7) (rg_il (rgL_i (rg_il (rnL_leu u_10.2 (rnL_lel u_10.1 (rgL_c (v := 0) (lo := 0) (hi := 0) (by decide)) (rgL_i (rg_any _))) (rgL_c (v := 7) (lo := 7) (hi := 7) (by decide)))))) (by decide)))).2.2.mp c_16))))⟩⟩, ⟨by rw [ht]; exact hP, hD⟩⟩, hS.F ht⟩) hS.2.2 dX7_copy_92
      · refine lv_aload_n hx hb dX7_copy_41 rfl (lv_at hl 0 rfl) ?_
        refine va_get (D := D) (ci := 7) (v := .ref (a 1)) (C := RX7) (T := TX7) (N := 29) hx hb htg ig_7 hown hK hP 0 (oh_wg (Nat.lt_of_lt_of_le (by decide) hn) (sM_0 hT)) rfl 0 (by decide) (htg _ q_973) (fun _ h9 => h9) rfl dX7_copy_42 ?_
        refine lv_iload_n hx hb dX7_copy_45 rfl (lv_at hl 2 rfl) ?_
        have n_22 : vp_in x2 8 := (rg_in (rg_il (rgL_i (rg_il (rnL_leu u_14.2 (rnL_lel u_14.1 (rgL_c (v := 0) (lo := 0) (hi := 0) (by decide)) (rgL_i (rg_any _))) (rgL_c (v := 7) (lo := 7) (hi := 7) (by decide)))))) (by decide))
        refine th_iald hx hb hK hP 1 (Nat.lt_of_lt_of_le (by decide) hn) (sM_1 hT) n_22 dX7_copy_46 ?_
        refine lv_iconst (v := 2) hx hb dX7_copy_47 (by decide) ?_
        refine lv_icmp_eq (tgt := 86) hx hb dX7_copy_48 (by decide) (fun (c_23 : (ga (C 1) (x2).toNatClampNeg) = 2) => ?_) (fun (c_23 : ¬ ((ga (C 1) (x2).toNatClampNeg) = 2)) => ?_)
        · refine lv_aload_n hx hb dX7_copy_86 rfl (lv_at hl 0 rfl) ?_
          refine lv_bipush (v := (-3)) hx hb dX7_copy_87 (by decide) ?_
          refine tm_V (As := [.int (-3)]) (rest := []) ⟨hx, hb, hml, hown, htg⟩ (c_X7_refuse l D E G _ a C n hn hT ((-3) : Int32) (rg_w (rg_c (v := (-3)) (lo := (-3)) (hi := (-3)) (by decide)) (by decide))) (cwV 1 htg (oh_gV q_1071 q_1073 q_29 q_73 q_1074) rfl rfl rfl pdVX7_refuse ⟨Nat.le_of_ble_eq_true rfl, Nat.le_of_ble_eq_true rfl⟩) hK hP hD hG hS hA (va_recv hK hP (ci := 7) (q0 := 0) rfl (oh_wg (Nat.lt_of_lt_of_le (by decide) hn) (sM_0 hT))) rfl hl.1 rfl (Nat.le_of_ble_eq_true rfl) dX7_copy_89 ⟨Nat.le_of_ble_eq_true rfl, Nat.le_of_ble_eq_true rfl⟩ (fun r_24 C_25 H locs hq_26 hP hD hS => ?_)
          obtain ⟨hT, f_27, hq_26⟩ := hq_26
          have hF := fr_tr hF f_27 (by decide) (by decide)
          refine W.widen (k := 0) (n := 0) (Nat.le_refl _) (Nat.le_refl _) ?_
          have t_28 := hT
          rw [hQ]
          exact W.iret (v := r_24) hx hb hr (fun t ht hW => ⟨⟨r_24, C_25, rfl, ⟨hT, hF, ⟨⟨hR.1.fr hF (by decide), hR.2.fr hF (by decide)⟩, (fun S hS0 => Eq.trans hq_26 (cp_top ⟨(oh_rgI (p := 0) (q := 7) (rg_w (lo := 0) (hi := 7) (rg_il (rgL_i (rg_il (rnL_leu u_10.2 (rnL_lel u_10.1 (rgL_c (v := 0) (lo := 0) (hi := 0) (by decide)) (rgL_i (rg_any _))) (rgL_c (v := 7) (lo := 7) (hi := 7) (by decide)))))) (by decide))), (oh_rgI (p := 0) (q := 7) (rg_w (lo := 0) (hi := 7) (rg_il (rgL_i (rg_il (rnL_leu u_14.2 (rnL_lel u_14.1 (rgL_c (v := 0) (lo := 0) (hi := 0) (by decide)) (rgL_i (rg_any _))) (rgL_c (v := 7) (lo := 7) (hi := 7) (by decide)))))) (by decide)))⟩ (Or.inr (Or.inl ((hm_k hS0 (sh8 (rg_w (lo := 0) (hi := 7) (rg_il (rgL_i (rg_il (rnL_leu u_14.2 (rnL_lel u_14.1 (rgL_c (v := 0) (lo := 0) (hi := 0) (by decide)) (rgL_i (rg_any _))) (rgL_c (v := 7) (lo := 7) (hi := 7) (by decide)))))) (by decide)))).2.2.mp c_23)))))⟩⟩, ⟨by rw [ht]; exact hP, hD⟩⟩, hS.F ht⟩) hS.2.2 dX7_copy_92
        · refine lv_aload_n hx hb dX7_copy_51 rfl (lv_at hl 0 rfl) ?_
          refine va_get (D := D) (ci := 7) (v := .ref (a 1)) (C := RX7) (T := TX7) (N := 29) hx hb htg ig_7 hown hK hP 0 (oh_wg (Nat.lt_of_lt_of_le (by decide) hn) (sM_0 hT)) rfl 0 (by decide) (htg _ q_973) (fun _ h9 => h9) rfl dX7_copy_52 ?_
          refine lv_iload_n hx hb dX7_copy_55 rfl (lv_at hl 1 rfl) ?_
          have n_29 : vp_in x1 8 := (rg_in (rg_il (rgL_i (rg_il (rnL_leu u_10.2 (rnL_lel u_10.1 (rgL_c (v := 0) (lo := 0) (hi := 0) (by decide)) (rgL_i (rg_any _))) (rgL_c (v := 7) (lo := 7) (hi := 7) (by decide)))))) (by decide))
          refine th_iald hx hb hK hP 1 (Nat.lt_of_lt_of_le (by decide) hn) (sM_1 hT) n_29 dX7_copy_56 ?_
          refine lv_iconst (v := 1) hx hb dX7_copy_57 (by decide) ?_
          refine lv_icmp_ne (tgt := 93) hx hb dX7_copy_58 (by decide) (fun (c_30 : ¬ ((ga (C 1) (x1).toNatClampNeg) = 1)) => ?_) (fun (c_30 : (ga (C 1) (x1).toNatClampNeg) = 1) => ?_)
          · refine lv_aload_n hx hb dX7_copy_93 rfl (lv_at hl 0 rfl) ?_
            refine va_get (D := D) (ci := 7) (v := .ref (a 1)) (C := RX7) (T := TX7) (N := 29) hx hb htg ig_7 hown hK hP 0 (oh_wg (Nat.lt_of_lt_of_le (by decide) hn) (sM_0 hT)) rfl 0 (by decide) (htg _ q_973) (fun _ h9 => h9) rfl dX7_copy_94 ?_
            refine lv_iload_n hx hb dX7_copy_97 rfl (lv_at hl 1 rfl) ?_
            have n_31 : vp_in x1 8 := (rg_in (rg_il (rgL_i (rg_il (rnL_leu u_10.2 (rnL_lel u_10.1 (rgL_c (v := 0) (lo := 0) (hi := 0) (by decide)) (rgL_i (rg_any _))) (rgL_c (v := 7) (lo := 7) (hi := 7) (by decide)))))) (by decide))
            refine th_iald hx hb hK hP 1 (Nat.lt_of_lt_of_le (by decide) hn) (sM_1 hT) n_31 dX7_copy_98 ?_
            refine lv_if_eq (tgt := 111) hx hb dX7_copy_99 (by decide) (fun (c_32 : (ga (C 1) (x1).toNatClampNeg) = 0) => ?_) (fun (c_32 : ¬ ((ga (C 1) (x1).toNatClampNeg) = 0)) => ?_)
            · refine lv_aload_n hx hb dX7_copy_111 rfl (lv_at hl 0 rfl) ?_
              refine lv_bipush (v := (-4)) hx hb dX7_copy_112 (by decide) ?_
              refine tm_V (As := [.int (-4)]) (rest := []) ⟨hx, hb, hml, hown, htg⟩ (c_X7_refuse l D E G _ a C n hn hT ((-4) : Int32) (rg_w (rg_c (v := (-4)) (lo := (-4)) (hi := (-4)) (by decide)) (by decide))) (cwV 1 htg (oh_gV q_1071 q_1073 q_29 q_73 q_1074) rfl rfl rfl pdVX7_refuse ⟨Nat.le_of_ble_eq_true rfl, Nat.le_of_ble_eq_true rfl⟩) hK hP hD hG hS hA (va_recv hK hP (ci := 7) (q0 := 0) rfl (oh_wg (Nat.lt_of_lt_of_le (by decide) hn) (sM_0 hT))) rfl hl.1 rfl (Nat.le_of_ble_eq_true rfl) dX7_copy_114 ⟨Nat.le_of_ble_eq_true rfl, Nat.le_of_ble_eq_true rfl⟩ (fun r_33 C_34 H locs hq_35 hP hD hS => ?_)
              obtain ⟨hT, f_36, hq_35⟩ := hq_35
              have hF := fr_tr hF f_36 (by decide) (by decide)
              refine W.widen (k := 0) (n := 0) (Nat.le_refl _) (Nat.le_refl _) ?_
              have t_37 := hT
              rw [hQ]
              exact W.iret (v := r_33) hx hb hr (fun t ht hW => ⟨⟨r_33, C_34, rfl, ⟨hT, hF, ⟨⟨hR.1.fr hF (by decide), hR.2.fr hF (by decide)⟩, (fun S hS0 => Eq.trans hq_35 (cp_non ⟨(oh_rgI (p := 0) (q := 7) (rg_w (lo := 0) (hi := 7) (rg_il (rgL_i (rg_il (rnL_leu u_10.2 (rnL_lel u_10.1 (rgL_c (v := 0) (lo := 0) (hi := 0) (by decide)) (rgL_i (rg_any _))) (rgL_c (v := 7) (lo := 7) (hi := 7) (by decide)))))) (by decide))), (oh_rgI (p := 0) (q := 7) (rg_w (lo := 0) (hi := 7) (rg_il (rgL_i (rg_il (rnL_leu u_14.2 (rnL_lel u_14.1 (rgL_c (v := 0) (lo := 0) (hi := 0) (by decide)) (rgL_i (rg_any _))) (rgL_c (v := 7) (lo := 7) (hi := 7) (by decide)))))) (by decide)))⟩ (cp_nt hS0 (sh8 (rg_w (lo := 0) (hi := 7) (rg_il (rgL_i (rg_il (rnL_leu u_10.2 (rnL_lel u_10.1 (rgL_c (v := 0) (lo := 0) (hi := 0) (by decide)) (rgL_i (rg_any _))) (rgL_c (v := 7) (lo := 7) (hi := 7) (by decide)))))) (by decide))) (sh8 (rg_w (lo := 0) (hi := 7) (rg_il (rgL_i (rg_il (rnL_leu u_14.2 (rnL_lel u_14.1 (rgL_c (v := 0) (lo := 0) (hi := 0) (by decide)) (rgL_i (rg_any _))) (rgL_c (v := 7) (lo := 7) (hi := 7) (by decide)))))) (by decide))) c_16 c_23 (Or.inl c_30)) (Or.inl ((hm_k hS0 (sh8 (rg_w (lo := 0) (hi := 7) (rg_il (rgL_i (rg_il (rnL_leu u_10.2 (rnL_lel u_10.1 (rgL_c (v := 0) (lo := 0) (hi := 0) (by decide)) (rgL_i (rg_any _))) (rgL_c (v := 7) (lo := 7) (hi := 7) (by decide)))))) (by decide)))).1.mp c_32))))⟩⟩, ⟨by rw [ht]; exact hP, hD⟩⟩, hS.F ht⟩) hS.2.2 dX7_copy_117
            · exact (rg_no (rn_nel (l' := 2) c_30 (rn_nel (l' := 1) c_32 (rn_neu (u' := (-1)) c_32 (rn_neu (u' := 0) c_30 (rn_neu (u' := 1) c_16 (tA_rdc (lo := 0) (hi := 2) (tM_1 hT0) n_31 (Nat.mod_one _) (by decide)) (rg_c (v := 2) (lo := 2) (hi := 2) (by decide)) (by decide)) (rg_c (v := 1) (lo := 1) (hi := 1) (by decide)) (by decide)) (rg_c (v := 0) (lo := 0) (hi := 0) (by decide)) (by decide)) (rg_c (v := 0) (lo := 0) (hi := 0) (by decide)) (by decide)) (rg_c (v := 1) (lo := 1) (hi := 1) (by decide)) (by decide)) (by decide)).elim
          · refine lv_aload_n hx hb dX7_copy_61 rfl (lv_at hl 0 rfl) ?_
            refine va_get (D := D) (ci := 7) (v := .ref (a 1)) (C := RX7) (T := TX7) (N := 29) hx hb htg ig_7 hown hK hP 0 (oh_wg (Nat.lt_of_lt_of_le (by decide) hn) (sM_0 hT)) rfl 0 (by decide) (htg _ q_973) (fun _ h9 => h9) rfl dX7_copy_62 ?_
            refine lv_iload_n hx hb dX7_copy_65 rfl (lv_at hl 2 rfl) ?_
            have n_38 : vp_in x2 8 := (rg_in (rg_il (rgL_i (rg_il (rnL_leu u_14.2 (rnL_lel u_14.1 (rgL_c (v := 0) (lo := 0) (hi := 0) (by decide)) (rgL_i (rg_any _))) (rgL_c (v := 7) (lo := 7) (hi := 7) (by decide)))))) (by decide))
            refine th_iald hx hb hK hP 1 (Nat.lt_of_lt_of_le (by decide) hn) (sM_1 hT) n_38 dX7_copy_66 ?_
            refine lv_iconst (v := 1) hx hb dX7_copy_67 (by decide) ?_
            refine lv_icmp_ne (tgt := 93) hx hb dX7_copy_68 (by decide) (fun (c_39 : ¬ ((ga (C 1) (x2).toNatClampNeg) = 1)) => ?_) (fun (c_39 : (ga (C 1) (x2).toNatClampNeg) = 1) => ?_)
            · refine lv_aload_n hx hb dX7_copy_93 rfl (lv_at hl 0 rfl) ?_
              refine va_get (D := D) (ci := 7) (v := .ref (a 1)) (C := RX7) (T := TX7) (N := 29) hx hb htg ig_7 hown hK hP 0 (oh_wg (Nat.lt_of_lt_of_le (by decide) hn) (sM_0 hT)) rfl 0 (by decide) (htg _ q_973) (fun _ h9 => h9) rfl dX7_copy_94 ?_
              refine lv_iload_n hx hb dX7_copy_97 rfl (lv_at hl 1 rfl) ?_
              have n_40 : vp_in x1 8 := (rg_in (rg_il (rgL_i (rg_il (rnL_leu u_10.2 (rnL_lel u_10.1 (rgL_c (v := 0) (lo := 0) (hi := 0) (by decide)) (rgL_i (rg_any _))) (rgL_c (v := 7) (lo := 7) (hi := 7) (by decide)))))) (by decide))
              refine th_iald hx hb hK hP 1 (Nat.lt_of_lt_of_le (by decide) hn) (sM_1 hT) n_40 dX7_copy_98 ?_
              refine lv_if_eq (tgt := 111) hx hb dX7_copy_99 (by decide) (fun (c_41 : (ga (C 1) (x1).toNatClampNeg) = 0) => ?_) (fun (c_41 : ¬ ((ga (C 1) (x1).toNatClampNeg) = 0)) => ?_)
              · refine lv_aload_n hx hb dX7_copy_111 rfl (lv_at hl 0 rfl) ?_
                refine lv_bipush (v := (-4)) hx hb dX7_copy_112 (by decide) ?_
                refine tm_V (As := [.int (-4)]) (rest := []) ⟨hx, hb, hml, hown, htg⟩ (c_X7_refuse l D E G _ a C n hn hT ((-4) : Int32) (rg_w (rg_c (v := (-4)) (lo := (-4)) (hi := (-4)) (by decide)) (by decide))) (cwV 1 htg (oh_gV q_1071 q_1073 q_29 q_73 q_1074) rfl rfl rfl pdVX7_refuse ⟨Nat.le_of_ble_eq_true rfl, Nat.le_of_ble_eq_true rfl⟩) hK hP hD hG hS hA (va_recv hK hP (ci := 7) (q0 := 0) rfl (oh_wg (Nat.lt_of_lt_of_le (by decide) hn) (sM_0 hT))) rfl hl.1 rfl (Nat.le_of_ble_eq_true rfl) dX7_copy_114 ⟨Nat.le_of_ble_eq_true rfl, Nat.le_of_ble_eq_true rfl⟩ (fun r_42 C_43 H locs hq_44 hP hD hS => ?_)
                obtain ⟨hT, f_45, hq_44⟩ := hq_44
                have hF := fr_tr hF f_45 (by decide) (by decide)
                refine W.widen (k := 0) (n := 0) (Nat.le_refl _) (Nat.le_refl _) ?_
                have t_46 := hT
                rw [hQ]
                exact W.iret (v := r_42) hx hb hr (fun t ht hW => ⟨⟨r_42, C_43, rfl, ⟨hT, hF, ⟨⟨hR.1.fr hF (by decide), hR.2.fr hF (by decide)⟩, (fun S hS0 => Eq.trans hq_44 (cp_non ⟨(oh_rgI (p := 0) (q := 7) (rg_w (lo := 0) (hi := 7) (rg_il (rgL_i (rg_il (rnL_leu u_10.2 (rnL_lel u_10.1 (rgL_c (v := 0) (lo := 0) (hi := 0) (by decide)) (rgL_i (rg_any _))) (rgL_c (v := 7) (lo := 7) (hi := 7) (by decide)))))) (by decide))), (oh_rgI (p := 0) (q := 7) (rg_w (lo := 0) (hi := 7) (rg_il (rgL_i (rg_il (rnL_leu u_14.2 (rnL_lel u_14.1 (rgL_c (v := 0) (lo := 0) (hi := 0) (by decide)) (rgL_i (rg_any _))) (rgL_c (v := 7) (lo := 7) (hi := 7) (by decide)))))) (by decide)))⟩ (cp_nt hS0 (sh8 (rg_w (lo := 0) (hi := 7) (rg_il (rgL_i (rg_il (rnL_leu u_10.2 (rnL_lel u_10.1 (rgL_c (v := 0) (lo := 0) (hi := 0) (by decide)) (rgL_i (rg_any _))) (rgL_c (v := 7) (lo := 7) (hi := 7) (by decide)))))) (by decide))) (sh8 (rg_w (lo := 0) (hi := 7) (rg_il (rgL_i (rg_il (rnL_leu u_14.2 (rnL_lel u_14.1 (rgL_c (v := 0) (lo := 0) (hi := 0) (by decide)) (rgL_i (rg_any _))) (rgL_c (v := 7) (lo := 7) (hi := 7) (by decide)))))) (by decide))) c_16 c_23 (Or.inr (Or.inl c_39))) (Or.inl ((hm_k hS0 (sh8 (rg_w (lo := 0) (hi := 7) (rg_il (rgL_i (rg_il (rnL_leu u_10.2 (rnL_lel u_10.1 (rgL_c (v := 0) (lo := 0) (hi := 0) (by decide)) (rgL_i (rg_any _))) (rgL_c (v := 7) (lo := 7) (hi := 7) (by decide)))))) (by decide)))).1.mp c_41))))⟩⟩, ⟨by rw [ht]; exact hP, hD⟩⟩, hS.F ht⟩) hS.2.2 dX7_copy_117
              · refine lv_aload_n hx hb dX7_copy_102 rfl (lv_at hl 0 rfl) ?_
                refine va_get (D := D) (ci := 7) (v := .ref (a 1)) (C := RX7) (T := TX7) (N := 29) hx hb htg ig_7 hown hK hP 0 (oh_wg (Nat.lt_of_lt_of_le (by decide) hn) (sM_0 hT)) rfl 0 (by decide) (htg _ q_973) (fun _ h9 => h9) rfl dX7_copy_103 ?_
                refine lv_iload_n hx hb dX7_copy_106 rfl (lv_at hl 2 rfl) ?_
                have n_47 : vp_in x2 8 := (rg_in (rg_il (rgL_i (rg_il (rnL_leu u_14.2 (rnL_lel u_14.1 (rgL_c (v := 0) (lo := 0) (hi := 0) (by decide)) (rgL_i (rg_any _))) (rgL_c (v := 7) (lo := 7) (hi := 7) (by decide)))))) (by decide))
                refine th_iald hx hb hK hP 1 (Nat.lt_of_lt_of_le (by decide) hn) (sM_1 hT) n_47 dX7_copy_107 ?_
                refine lv_if_ne (tgt := 118) hx hb dX7_copy_108 (by decide) (fun (c_48 : ¬ ((ga (C 1) (x2).toNatClampNeg) = 0)) => ?_) (fun (c_48 : (ga (C 1) (x2).toNatClampNeg) = 0) => ?_)
                · exact (rg_no (rn_nel (l' := 2) c_39 (rn_nel (l' := 1) c_48 (rn_neu (u' := (-1)) c_48 (rn_neu (u' := 0) c_39 (rn_neu (u' := 1) c_23 (tA_rdc (lo := 0) (hi := 2) (tM_1 hT0) n_47 (Nat.mod_one _) (by decide)) (rg_c (v := 2) (lo := 2) (hi := 2) (by decide)) (by decide)) (rg_c (v := 1) (lo := 1) (hi := 1) (by decide)) (by decide)) (rg_c (v := 0) (lo := 0) (hi := 0) (by decide)) (by decide)) (rg_c (v := 0) (lo := 0) (hi := 0) (by decide)) (by decide)) (rg_c (v := 1) (lo := 1) (hi := 1) (by decide)) (by decide)) (by decide)).elim
                · refine lv_aload_n hx hb dX7_copy_111 rfl (lv_at hl 0 rfl) ?_
                  refine lv_bipush (v := (-4)) hx hb dX7_copy_112 (by decide) ?_
                  refine tm_V (As := [.int (-4)]) (rest := []) ⟨hx, hb, hml, hown, htg⟩ (c_X7_refuse l D E G _ a C n hn hT ((-4) : Int32) (rg_w (rg_c (v := (-4)) (lo := (-4)) (hi := (-4)) (by decide)) (by decide))) (cwV 1 htg (oh_gV q_1071 q_1073 q_29 q_73 q_1074) rfl rfl rfl pdVX7_refuse ⟨Nat.le_of_ble_eq_true rfl, Nat.le_of_ble_eq_true rfl⟩) hK hP hD hG hS hA (va_recv hK hP (ci := 7) (q0 := 0) rfl (oh_wg (Nat.lt_of_lt_of_le (by decide) hn) (sM_0 hT))) rfl hl.1 rfl (Nat.le_of_ble_eq_true rfl) dX7_copy_114 ⟨Nat.le_of_ble_eq_true rfl, Nat.le_of_ble_eq_true rfl⟩ (fun r_49 C_50 H locs hq_51 hP hD hS => ?_)
                  obtain ⟨hT, f_52, hq_51⟩ := hq_51
                  have hF := fr_tr hF f_52 (by decide) (by decide)
                  refine W.widen (k := 0) (n := 0) (Nat.le_refl _) (Nat.le_refl _) ?_
                  have t_53 := hT
                  rw [hQ]
                  exact W.iret (v := r_49) hx hb hr (fun t ht hW => ⟨⟨r_49, C_50, rfl, ⟨hT, hF, ⟨⟨hR.1.fr hF (by decide), hR.2.fr hF (by decide)⟩, (fun S hS0 => Eq.trans hq_51 (cp_non ⟨(oh_rgI (p := 0) (q := 7) (rg_w (lo := 0) (hi := 7) (rg_il (rgL_i (rg_il (rnL_leu u_10.2 (rnL_lel u_10.1 (rgL_c (v := 0) (lo := 0) (hi := 0) (by decide)) (rgL_i (rg_any _))) (rgL_c (v := 7) (lo := 7) (hi := 7) (by decide)))))) (by decide))), (oh_rgI (p := 0) (q := 7) (rg_w (lo := 0) (hi := 7) (rg_il (rgL_i (rg_il (rnL_leu u_14.2 (rnL_lel u_14.1 (rgL_c (v := 0) (lo := 0) (hi := 0) (by decide)) (rgL_i (rg_any _))) (rgL_c (v := 7) (lo := 7) (hi := 7) (by decide)))))) (by decide)))⟩ (cp_nt hS0 (sh8 (rg_w (lo := 0) (hi := 7) (rg_il (rgL_i (rg_il (rnL_leu u_10.2 (rnL_lel u_10.1 (rgL_c (v := 0) (lo := 0) (hi := 0) (by decide)) (rgL_i (rg_any _))) (rgL_c (v := 7) (lo := 7) (hi := 7) (by decide)))))) (by decide))) (sh8 (rg_w (lo := 0) (hi := 7) (rg_il (rgL_i (rg_il (rnL_leu u_14.2 (rnL_lel u_14.1 (rgL_c (v := 0) (lo := 0) (hi := 0) (by decide)) (rgL_i (rg_any _))) (rgL_c (v := 7) (lo := 7) (hi := 7) (by decide)))))) (by decide))) c_16 c_23 (Or.inr (Or.inl c_39))) (Or.inr ((hm_k hS0 (sh8 (rg_w (lo := 0) (hi := 7) (rg_il (rgL_i (rg_il (rnL_leu u_14.2 (rnL_lel u_14.1 (rgL_c (v := 0) (lo := 0) (hi := 0) (by decide)) (rgL_i (rg_any _))) (rgL_c (v := 7) (lo := 7) (hi := 7) (by decide)))))) (by decide)))).1.mp c_48))))⟩⟩, ⟨by rw [ht]; exact hP, hD⟩⟩, hS.F ht⟩) hS.2.2 dX7_copy_117
            · refine lv_aload_n hx hb dX7_copy_71 rfl (lv_at hl 0 rfl) ?_
              refine va_get (D := D) (ci := 7) (v := .ref (a 2)) (C := RX7) (T := TX7) (N := 29) hx hb htg ig_7 hown hK hP 0 (oh_wg (Nat.lt_of_lt_of_le (by decide) hn) (sM_0 hT)) rfl 1 (by decide) (htg _ q_974) (fun _ h9 => h9) rfl dX7_copy_72 ?_
              refine lv_iload_n hx hb dX7_copy_75 rfl (lv_at hl 1 rfl) ?_
              have n_54 : vp_in x1 8 := (rg_in (rg_il (rgL_i (rg_il (rnL_leu u_10.2 (rnL_lel u_10.1 (rgL_c (v := 0) (lo := 0) (hi := 0) (by decide)) (rgL_i (rg_any _))) (rgL_c (v := 7) (lo := 7) (hi := 7) (by decide)))))) (by decide))
              refine th_iald hx hb hK hP 2 (Nat.lt_of_lt_of_le (by decide) hn) (sM_2 hT) n_54 dX7_copy_76 ?_
              refine lv_aload_n hx hb dX7_copy_77 rfl (lv_at hl 0 rfl) ?_
              refine va_get (D := D) (ci := 7) (v := .ref (a 2)) (C := RX7) (T := TX7) (N := 29) hx hb htg ig_7 hown hK hP 0 (oh_wg (Nat.lt_of_lt_of_le (by decide) hn) (sM_0 hT)) rfl 1 (by decide) (htg _ q_974) (fun _ h9 => h9) rfl dX7_copy_78 ?_
              refine lv_iload_n hx hb dX7_copy_81 rfl (lv_at hl 2 rfl) ?_
              have n_55 : vp_in x2 8 := (rg_in (rg_il (rgL_i (rg_il (rnL_leu u_14.2 (rnL_lel u_14.1 (rgL_c (v := 0) (lo := 0) (hi := 0) (by decide)) (rgL_i (rg_any _))) (rgL_c (v := 7) (lo := 7) (hi := 7) (by decide)))))) (by decide))
              refine th_iald hx hb hK hP 2 (Nat.lt_of_lt_of_le (by decide) hn) (sM_2 hT) n_55 dX7_copy_82 ?_
              refine lv_icmp_eq (tgt := 93) hx hb dX7_copy_83 (by decide) (fun (c_56 : (ga (C 2) (x1).toNatClampNeg) = (ga (C 2) (x2).toNatClampNeg)) => ?_) (fun (c_56 : ¬ ((ga (C 2) (x1).toNatClampNeg) = (ga (C 2) (x2).toNatClampNeg))) => ?_)
              · refine lv_aload_n hx hb dX7_copy_93 rfl (lv_at hl 0 rfl) ?_
                refine va_get (D := D) (ci := 7) (v := .ref (a 1)) (C := RX7) (T := TX7) (N := 29) hx hb htg ig_7 hown hK hP 0 (oh_wg (Nat.lt_of_lt_of_le (by decide) hn) (sM_0 hT)) rfl 0 (by decide) (htg _ q_973) (fun _ h9 => h9) rfl dX7_copy_94 ?_
                refine lv_iload_n hx hb dX7_copy_97 rfl (lv_at hl 1 rfl) ?_
                have n_57 : vp_in x1 8 := (rg_in (rg_il (rgL_i (rg_il (rnL_leu u_10.2 (rnL_lel u_10.1 (rgL_c (v := 0) (lo := 0) (hi := 0) (by decide)) (rgL_i (rg_any _))) (rgL_c (v := 7) (lo := 7) (hi := 7) (by decide)))))) (by decide))
                refine th_iald hx hb hK hP 1 (Nat.lt_of_lt_of_le (by decide) hn) (sM_1 hT) n_57 dX7_copy_98 ?_
                refine lv_if_eq (tgt := 111) hx hb dX7_copy_99 (by decide) (fun (c_58 : (ga (C 1) (x1).toNatClampNeg) = 0) => ?_) (fun (c_58 : ¬ ((ga (C 1) (x1).toNatClampNeg) = 0)) => ?_)
                · refine lv_aload_n hx hb dX7_copy_111 rfl (lv_at hl 0 rfl) ?_
                  refine lv_bipush (v := (-4)) hx hb dX7_copy_112 (by decide) ?_
                  refine tm_V (As := [.int (-4)]) (rest := []) ⟨hx, hb, hml, hown, htg⟩ (c_X7_refuse l D E G _ a C n hn hT ((-4) : Int32) (rg_w (rg_c (v := (-4)) (lo := (-4)) (hi := (-4)) (by decide)) (by decide))) (cwV 1 htg (oh_gV q_1071 q_1073 q_29 q_73 q_1074) rfl rfl rfl pdVX7_refuse ⟨Nat.le_of_ble_eq_true rfl, Nat.le_of_ble_eq_true rfl⟩) hK hP hD hG hS hA (va_recv hK hP (ci := 7) (q0 := 0) rfl (oh_wg (Nat.lt_of_lt_of_le (by decide) hn) (sM_0 hT))) rfl hl.1 rfl (Nat.le_of_ble_eq_true rfl) dX7_copy_114 ⟨Nat.le_of_ble_eq_true rfl, Nat.le_of_ble_eq_true rfl⟩ (fun r_59 C_60 H locs hq_61 hP hD hS => ?_)
                  obtain ⟨hT, f_62, hq_61⟩ := hq_61
                  have hF := fr_tr hF f_62 (by decide) (by decide)
                  refine W.widen (k := 0) (n := 0) (Nat.le_refl _) (Nat.le_refl _) ?_
                  have t_63 := hT
                  rw [hQ]
                  exact W.iret (v := r_59) hx hb hr (fun t ht hW => ⟨⟨r_59, C_60, rfl, ⟨hT, hF, ⟨⟨hR.1.fr hF (by decide), hR.2.fr hF (by decide)⟩, (fun S hS0 => Eq.trans hq_61 (cp_non ⟨(oh_rgI (p := 0) (q := 7) (rg_w (lo := 0) (hi := 7) (rg_il (rgL_i (rg_il (rnL_leu u_10.2 (rnL_lel u_10.1 (rgL_c (v := 0) (lo := 0) (hi := 0) (by decide)) (rgL_i (rg_any _))) (rgL_c (v := 7) (lo := 7) (hi := 7) (by decide)))))) (by decide))), (oh_rgI (p := 0) (q := 7) (rg_w (lo := 0) (hi := 7) (rg_il (rgL_i (rg_il (rnL_leu u_14.2 (rnL_lel u_14.1 (rgL_c (v := 0) (lo := 0) (hi := 0) (by decide)) (rgL_i (rg_any _))) (rgL_c (v := 7) (lo := 7) (hi := 7) (by decide)))))) (by decide)))⟩ (cp_nt hS0 (sh8 (rg_w (lo := 0) (hi := 7) (rg_il (rgL_i (rg_il (rnL_leu u_10.2 (rnL_lel u_10.1 (rgL_c (v := 0) (lo := 0) (hi := 0) (by decide)) (rgL_i (rg_any _))) (rgL_c (v := 7) (lo := 7) (hi := 7) (by decide)))))) (by decide))) (sh8 (rg_w (lo := 0) (hi := 7) (rg_il (rgL_i (rg_il (rnL_leu u_14.2 (rnL_lel u_14.1 (rgL_c (v := 0) (lo := 0) (hi := 0) (by decide)) (rgL_i (rg_any _))) (rgL_c (v := 7) (lo := 7) (hi := 7) (by decide)))))) (by decide))) c_16 c_23 (Or.inr (Or.inr c_56))) (Or.inl ((hm_k hS0 (sh8 (rg_w (lo := 0) (hi := 7) (rg_il (rgL_i (rg_il (rnL_leu u_10.2 (rnL_lel u_10.1 (rgL_c (v := 0) (lo := 0) (hi := 0) (by decide)) (rgL_i (rg_any _))) (rgL_c (v := 7) (lo := 7) (hi := 7) (by decide)))))) (by decide)))).1.mp c_58))))⟩⟩, ⟨by rw [ht]; exact hP, hD⟩⟩, hS.F ht⟩) hS.2.2 dX7_copy_117
                · refine lv_aload_n hx hb dX7_copy_102 rfl (lv_at hl 0 rfl) ?_
                  refine va_get (D := D) (ci := 7) (v := .ref (a 1)) (C := RX7) (T := TX7) (N := 29) hx hb htg ig_7 hown hK hP 0 (oh_wg (Nat.lt_of_lt_of_le (by decide) hn) (sM_0 hT)) rfl 0 (by decide) (htg _ q_973) (fun _ h9 => h9) rfl dX7_copy_103 ?_
                  refine lv_iload_n hx hb dX7_copy_106 rfl (lv_at hl 2 rfl) ?_
                  have n_64 : vp_in x2 8 := (rg_in (rg_il (rgL_i (rg_il (rnL_leu u_14.2 (rnL_lel u_14.1 (rgL_c (v := 0) (lo := 0) (hi := 0) (by decide)) (rgL_i (rg_any _))) (rgL_c (v := 7) (lo := 7) (hi := 7) (by decide)))))) (by decide))
                  refine th_iald hx hb hK hP 1 (Nat.lt_of_lt_of_le (by decide) hn) (sM_1 hT) n_64 dX7_copy_107 ?_
                  refine lv_if_ne (tgt := 118) hx hb dX7_copy_108 (by decide) (fun (c_65 : ¬ ((ga (C 1) (x2).toNatClampNeg) = 0)) => ?_) (fun (c_65 : (ga (C 1) (x2).toNatClampNeg) = 0) => ?_)
                  · refine lv_iload hx hb dX7_copy_118 (lv_at hl 5 rfl) ?_
                    refine lv_if_lt (tgt := 181) hx hb dX7_copy_120 (by decide) (fun (c_66 : x5 < 0) => ?_) (fun (c_66 : ¬ (x5 < 0)) => ?_)
                    · refine lv_aload_n hx hb dX7_copy_181 rfl (lv_at hl 0 rfl) ?_
                      refine lv_bipush (v := (-2)) hx hb dX7_copy_182 (by decide) ?_
                      refine tm_V (As := [.int (-2)]) (rest := []) ⟨hx, hb, hml, hown, htg⟩ (c_X7_refuse l D E G _ a C n hn hT ((-2) : Int32) (rg_w (rg_c (v := (-2)) (lo := (-2)) (hi := (-2)) (by decide)) (by decide))) (cwV 1 htg (oh_gV q_1071 q_1073 q_29 q_73 q_1074) rfl rfl rfl pdVX7_refuse ⟨Nat.le_of_ble_eq_true rfl, Nat.le_of_ble_eq_true rfl⟩) hK hP hD hG hS hA (va_recv hK hP (ci := 7) (q0 := 0) rfl (oh_wg (Nat.lt_of_lt_of_le (by decide) hn) (sM_0 hT))) rfl hl.1 rfl (Nat.le_of_ble_eq_true rfl) dX7_copy_184 ⟨Nat.le_of_ble_eq_true rfl, Nat.le_of_ble_eq_true rfl⟩ (fun r_67 C_68 H locs hq_69 hP hD hS => ?_)
                      obtain ⟨hT, f_70, hq_69⟩ := hq_69
                      have hF := fr_tr hF f_70 (by decide) (by decide)
                      refine W.widen (k := 0) (n := 0) (Nat.le_refl _) (Nat.le_refl _) ?_
                      have t_71 := hT
                      rw [hQ]
                      exact W.iret (v := r_67) hx hb hr (fun t ht hW => ⟨⟨r_67, C_68, rfl, ⟨hT, hF, ⟨⟨hR.1.fr hF (by decide), hR.2.fr hF (by decide)⟩, (fun S hS0 => Eq.trans hq_69 (cp_bad ⟨(oh_rgI (p := 0) (q := 7) (rg_w (lo := 0) (hi := 7) (rg_il (rgL_i (rg_il (rnL_leu u_10.2 (rnL_lel u_10.1 (rgL_c (v := 0) (lo := 0) (hi := 0) (by decide)) (rgL_i (rg_any _))) (rgL_c (v := 7) (lo := 7) (hi := 7) (by decide)))))) (by decide))), (oh_rgI (p := 0) (q := 7) (rg_w (lo := 0) (hi := 7) (rg_il (rgL_i (rg_il (rnL_leu u_14.2 (rnL_lel u_14.1 (rgL_c (v := 0) (lo := 0) (hi := 0) (by decide)) (rgL_i (rg_any _))) (rgL_c (v := 7) (lo := 7) (hi := 7) (by decide)))))) (by decide)))⟩ (cp_nt hS0 (sh8 (rg_w (lo := 0) (hi := 7) (rg_il (rgL_i (rg_il (rnL_leu u_10.2 (rnL_lel u_10.1 (rgL_c (v := 0) (lo := 0) (hi := 0) (by decide)) (rgL_i (rg_any _))) (rgL_c (v := 7) (lo := 7) (hi := 7) (by decide)))))) (by decide))) (sh8 (rg_w (lo := 0) (hi := 7) (rg_il (rgL_i (rg_il (rnL_leu u_14.2 (rnL_lel u_14.1 (rgL_c (v := 0) (lo := 0) (hi := 0) (by decide)) (rgL_i (rg_any _))) (rgL_c (v := 7) (lo := 7) (hi := 7) (by decide)))))) (by decide))) c_16 c_23 (Or.inr (Or.inr c_56))) (cp_ne hS0 (sh8 (rg_w (lo := 0) (hi := 7) (rg_il (rgL_i (rg_il (rnL_leu u_10.2 (rnL_lel u_10.1 (rgL_c (v := 0) (lo := 0) (hi := 0) (by decide)) (rgL_i (rg_any _))) (rgL_c (v := 7) (lo := 7) (hi := 7) (by decide)))))) (by decide))) (sh8 (rg_w (lo := 0) (hi := 7) (rg_il (rgL_i (rg_il (rnL_leu u_14.2 (rnL_lel u_14.1 (rgL_c (v := 0) (lo := 0) (hi := 0) (by decide)) (rgL_i (rg_any _))) (rgL_c (v := 7) (lo := 7) (hi := 7) (by decide)))))) (by decide))) c_58 c_65) (fun h8 => by have h7 := (cp_sz hS0 (sh8 (rg_w (lo := 0) (hi := 7) (rg_il (rgL_i (rg_il (rnL_leu u_10.2 (rnL_lel u_10.1 (rgL_c (v := 0) (lo := 0) (hi := 0) (by decide)) (rgL_i (rg_any _))) (rgL_c (v := 7) (lo := 7) (hi := 7) (by decide)))))) (by decide))) (sh8 (rg_w (lo := 0) (hi := 7) (rg_il (rgL_i (rg_il (rnL_leu u_14.2 (rnL_lel u_14.1 (rgL_c (v := 0) (lo := 0) (hi := 0) (by decide)) (rgL_i (rg_any _))) (rgL_c (v := 7) (lo := 7) (hi := 7) (by decide)))))) (by decide))) c_16 c_23 c_58 c_65).mp h8; exact absurd h7.1.1 (Int32.not_le.mpr c_66))))⟩⟩, ⟨by rw [ht]; exact hP, hD⟩⟩, hS.F ht⟩) hS.2.2 dX7_copy_187
                    · refine lv_iload_n hx hb dX7_copy_123 rfl (lv_at hl 3 rfl) ?_
                      refine lv_if_lt (tgt := 181) hx hb dX7_copy_124 (by decide) (fun (c_72 : x3 < 0) => ?_) (fun (c_72 : ¬ (x3 < 0)) => ?_)
                      · refine lv_aload_n hx hb dX7_copy_181 rfl (lv_at hl 0 rfl) ?_
                        refine lv_bipush (v := (-2)) hx hb dX7_copy_182 (by decide) ?_
                        refine tm_V (As := [.int (-2)]) (rest := []) ⟨hx, hb, hml, hown, htg⟩ (c_X7_refuse l D E G _ a C n hn hT ((-2) : Int32) (rg_w (rg_c (v := (-2)) (lo := (-2)) (hi := (-2)) (by decide)) (by decide))) (cwV 1 htg (oh_gV q_1071 q_1073 q_29 q_73 q_1074) rfl rfl rfl pdVX7_refuse ⟨Nat.le_of_ble_eq_true rfl, Nat.le_of_ble_eq_true rfl⟩) hK hP hD hG hS hA (va_recv hK hP (ci := 7) (q0 := 0) rfl (oh_wg (Nat.lt_of_lt_of_le (by decide) hn) (sM_0 hT))) rfl hl.1 rfl (Nat.le_of_ble_eq_true rfl) dX7_copy_184 ⟨Nat.le_of_ble_eq_true rfl, Nat.le_of_ble_eq_true rfl⟩ (fun r_73 C_74 H locs hq_75 hP hD hS => ?_)
                        obtain ⟨hT, f_76, hq_75⟩ := hq_75
                        have hF := fr_tr hF f_76 (by decide) (by decide)
                        refine W.widen (k := 0) (n := 0) (Nat.le_refl _) (Nat.le_refl _) ?_
                        have t_77 := hT
                        rw [hQ]
                        exact W.iret (v := r_73) hx hb hr (fun t ht hW => ⟨⟨r_73, C_74, rfl, ⟨hT, hF, ⟨⟨hR.1.fr hF (by decide), hR.2.fr hF (by decide)⟩, (fun S hS0 => Eq.trans hq_75 (cp_bad ⟨(oh_rgI (p := 0) (q := 7) (rg_w (lo := 0) (hi := 7) (rg_il (rgL_i (rg_il (rnL_leu u_10.2 (rnL_lel u_10.1 (rgL_c (v := 0) (lo := 0) (hi := 0) (by decide)) (rgL_i (rg_any _))) (rgL_c (v := 7) (lo := 7) (hi := 7) (by decide)))))) (by decide))), (oh_rgI (p := 0) (q := 7) (rg_w (lo := 0) (hi := 7) (rg_il (rgL_i (rg_il (rnL_leu u_14.2 (rnL_lel u_14.1 (rgL_c (v := 0) (lo := 0) (hi := 0) (by decide)) (rgL_i (rg_any _))) (rgL_c (v := 7) (lo := 7) (hi := 7) (by decide)))))) (by decide)))⟩ (cp_nt hS0 (sh8 (rg_w (lo := 0) (hi := 7) (rg_il (rgL_i (rg_il (rnL_leu u_10.2 (rnL_lel u_10.1 (rgL_c (v := 0) (lo := 0) (hi := 0) (by decide)) (rgL_i (rg_any _))) (rgL_c (v := 7) (lo := 7) (hi := 7) (by decide)))))) (by decide))) (sh8 (rg_w (lo := 0) (hi := 7) (rg_il (rgL_i (rg_il (rnL_leu u_14.2 (rnL_lel u_14.1 (rgL_c (v := 0) (lo := 0) (hi := 0) (by decide)) (rgL_i (rg_any _))) (rgL_c (v := 7) (lo := 7) (hi := 7) (by decide)))))) (by decide))) c_16 c_23 (Or.inr (Or.inr c_56))) (cp_ne hS0 (sh8 (rg_w (lo := 0) (hi := 7) (rg_il (rgL_i (rg_il (rnL_leu u_10.2 (rnL_lel u_10.1 (rgL_c (v := 0) (lo := 0) (hi := 0) (by decide)) (rgL_i (rg_any _))) (rgL_c (v := 7) (lo := 7) (hi := 7) (by decide)))))) (by decide))) (sh8 (rg_w (lo := 0) (hi := 7) (rg_il (rgL_i (rg_il (rnL_leu u_14.2 (rnL_lel u_14.1 (rgL_c (v := 0) (lo := 0) (hi := 0) (by decide)) (rgL_i (rg_any _))) (rgL_c (v := 7) (lo := 7) (hi := 7) (by decide)))))) (by decide))) c_58 c_65) (fun h8 => by have h7 := (cp_sz hS0 (sh8 (rg_w (lo := 0) (hi := 7) (rg_il (rgL_i (rg_il (rnL_leu u_10.2 (rnL_lel u_10.1 (rgL_c (v := 0) (lo := 0) (hi := 0) (by decide)) (rgL_i (rg_any _))) (rgL_c (v := 7) (lo := 7) (hi := 7) (by decide)))))) (by decide))) (sh8 (rg_w (lo := 0) (hi := 7) (rg_il (rgL_i (rg_il (rnL_leu u_14.2 (rnL_lel u_14.1 (rgL_c (v := 0) (lo := 0) (hi := 0) (by decide)) (rgL_i (rg_any _))) (rgL_c (v := 7) (lo := 7) (hi := 7) (by decide)))))) (by decide))) c_16 c_23 c_58 c_65).mp h8; exact absurd h7.2.1.1 (Int32.not_le.mpr c_72))))⟩⟩, ⟨by rw [ht]; exact hP, hD⟩⟩, hS.F ht⟩) hS.2.2 dX7_copy_187
                      · refine lv_iload hx hb dX7_copy_127 (lv_at hl 4 rfl) ?_
                        refine lv_if_lt (tgt := 181) hx hb dX7_copy_129 (by decide) (fun (c_78 : x4 < 0) => ?_) (fun (c_78 : ¬ (x4 < 0)) => ?_)
                        · refine lv_aload_n hx hb dX7_copy_181 rfl (lv_at hl 0 rfl) ?_
                          refine lv_bipush (v := (-2)) hx hb dX7_copy_182 (by decide) ?_
                          refine tm_V (As := [.int (-2)]) (rest := []) ⟨hx, hb, hml, hown, htg⟩ (c_X7_refuse l D E G _ a C n hn hT ((-2) : Int32) (rg_w (rg_c (v := (-2)) (lo := (-2)) (hi := (-2)) (by decide)) (by decide))) (cwV 1 htg (oh_gV q_1071 q_1073 q_29 q_73 q_1074) rfl rfl rfl pdVX7_refuse ⟨Nat.le_of_ble_eq_true rfl, Nat.le_of_ble_eq_true rfl⟩) hK hP hD hG hS hA (va_recv hK hP (ci := 7) (q0 := 0) rfl (oh_wg (Nat.lt_of_lt_of_le (by decide) hn) (sM_0 hT))) rfl hl.1 rfl (Nat.le_of_ble_eq_true rfl) dX7_copy_184 ⟨Nat.le_of_ble_eq_true rfl, Nat.le_of_ble_eq_true rfl⟩ (fun r_79 C_80 H locs hq_81 hP hD hS => ?_)
                          obtain ⟨hT, f_82, hq_81⟩ := hq_81
                          have hF := fr_tr hF f_82 (by decide) (by decide)
                          refine W.widen (k := 0) (n := 0) (Nat.le_refl _) (Nat.le_refl _) ?_
                          have t_83 := hT
                          rw [hQ]
                          exact W.iret (v := r_79) hx hb hr (fun t ht hW => ⟨⟨r_79, C_80, rfl, ⟨hT, hF, ⟨⟨hR.1.fr hF (by decide), hR.2.fr hF (by decide)⟩, (fun S hS0 => Eq.trans hq_81 (cp_bad ⟨(oh_rgI (p := 0) (q := 7) (rg_w (lo := 0) (hi := 7) (rg_il (rgL_i (rg_il (rnL_leu u_10.2 (rnL_lel u_10.1 (rgL_c (v := 0) (lo := 0) (hi := 0) (by decide)) (rgL_i (rg_any _))) (rgL_c (v := 7) (lo := 7) (hi := 7) (by decide)))))) (by decide))), (oh_rgI (p := 0) (q := 7) (rg_w (lo := 0) (hi := 7) (rg_il (rgL_i (rg_il (rnL_leu u_14.2 (rnL_lel u_14.1 (rgL_c (v := 0) (lo := 0) (hi := 0) (by decide)) (rgL_i (rg_any _))) (rgL_c (v := 7) (lo := 7) (hi := 7) (by decide)))))) (by decide)))⟩ (cp_nt hS0 (sh8 (rg_w (lo := 0) (hi := 7) (rg_il (rgL_i (rg_il (rnL_leu u_10.2 (rnL_lel u_10.1 (rgL_c (v := 0) (lo := 0) (hi := 0) (by decide)) (rgL_i (rg_any _))) (rgL_c (v := 7) (lo := 7) (hi := 7) (by decide)))))) (by decide))) (sh8 (rg_w (lo := 0) (hi := 7) (rg_il (rgL_i (rg_il (rnL_leu u_14.2 (rnL_lel u_14.1 (rgL_c (v := 0) (lo := 0) (hi := 0) (by decide)) (rgL_i (rg_any _))) (rgL_c (v := 7) (lo := 7) (hi := 7) (by decide)))))) (by decide))) c_16 c_23 (Or.inr (Or.inr c_56))) (cp_ne hS0 (sh8 (rg_w (lo := 0) (hi := 7) (rg_il (rgL_i (rg_il (rnL_leu u_10.2 (rnL_lel u_10.1 (rgL_c (v := 0) (lo := 0) (hi := 0) (by decide)) (rgL_i (rg_any _))) (rgL_c (v := 7) (lo := 7) (hi := 7) (by decide)))))) (by decide))) (sh8 (rg_w (lo := 0) (hi := 7) (rg_il (rgL_i (rg_il (rnL_leu u_14.2 (rnL_lel u_14.1 (rgL_c (v := 0) (lo := 0) (hi := 0) (by decide)) (rgL_i (rg_any _))) (rgL_c (v := 7) (lo := 7) (hi := 7) (by decide)))))) (by decide))) c_58 c_65) (fun h8 => by have h7 := (cp_sz hS0 (sh8 (rg_w (lo := 0) (hi := 7) (rg_il (rgL_i (rg_il (rnL_leu u_10.2 (rnL_lel u_10.1 (rgL_c (v := 0) (lo := 0) (hi := 0) (by decide)) (rgL_i (rg_any _))) (rgL_c (v := 7) (lo := 7) (hi := 7) (by decide)))))) (by decide))) (sh8 (rg_w (lo := 0) (hi := 7) (rg_il (rgL_i (rg_il (rnL_leu u_14.2 (rnL_lel u_14.1 (rgL_c (v := 0) (lo := 0) (hi := 0) (by decide)) (rgL_i (rg_any _))) (rgL_c (v := 7) (lo := 7) (hi := 7) (by decide)))))) (by decide))) c_16 c_23 c_58 c_65).mp h8; exact absurd h7.2.2.1 (Int32.not_le.mpr c_78))))⟩⟩, ⟨by rw [ht]; exact hP, hD⟩⟩, hS.F ht⟩) hS.2.2 dX7_copy_187
                        · refine lv_iload hx hb dX7_copy_132 (lv_at hl 5 rfl) ?_
                          refine lv_aload_n hx hb dX7_copy_134 rfl (lv_at hl 0 rfl) ?_
                          refine va_get (D := D) (ci := 7) (v := .ref (a 3)) (C := RX7) (T := TX7) (N := 29) hx hb htg ig_7 hown hK hP 0 (oh_wg (Nat.lt_of_lt_of_le (by decide) hn) (sM_0 hT)) rfl 2 (by decide) (htg _ q_975) (fun _ h9 => h9) rfl dX7_copy_135 ?_
                          refine lv_iload_n hx hb dX7_copy_138 rfl (lv_at hl 1 rfl) ?_
                          have n_84 : vp_in x1 8 := (rg_in (rg_il (rgL_i (rg_il (rnL_leu u_10.2 (rnL_lel u_10.1 (rgL_c (v := 0) (lo := 0) (hi := 0) (by decide)) (rgL_i (rg_any _))) (rgL_c (v := 7) (lo := 7) (hi := 7) (by decide)))))) (by decide))
                          refine th_iald hx hb hK hP 3 (Nat.lt_of_lt_of_le (by decide) hn) (sM_3 hT) n_84 dX7_copy_139 ?_
                          refine lv_icmp_gt (tgt := 181) hx hb dX7_copy_140 (by decide) (fun (c_85 : (ga (C 3) (x1).toNatClampNeg) < x5) => ?_) (fun (c_85 : ¬ ((ga (C 3) (x1).toNatClampNeg) < x5)) => ?_)
                          · refine lv_aload_n hx hb dX7_copy_181 rfl (lv_at hl 0 rfl) ?_
                            refine lv_bipush (v := (-2)) hx hb dX7_copy_182 (by decide) ?_
                            refine tm_V (As := [.int (-2)]) (rest := []) ⟨hx, hb, hml, hown, htg⟩ (c_X7_refuse l D E G _ a C n hn hT ((-2) : Int32) (rg_w (rg_c (v := (-2)) (lo := (-2)) (hi := (-2)) (by decide)) (by decide))) (cwV 1 htg (oh_gV q_1071 q_1073 q_29 q_73 q_1074) rfl rfl rfl pdVX7_refuse ⟨Nat.le_of_ble_eq_true rfl, Nat.le_of_ble_eq_true rfl⟩) hK hP hD hG hS hA (va_recv hK hP (ci := 7) (q0 := 0) rfl (oh_wg (Nat.lt_of_lt_of_le (by decide) hn) (sM_0 hT))) rfl hl.1 rfl (Nat.le_of_ble_eq_true rfl) dX7_copy_184 ⟨Nat.le_of_ble_eq_true rfl, Nat.le_of_ble_eq_true rfl⟩ (fun r_86 C_87 H locs hq_88 hP hD hS => ?_)
                            obtain ⟨hT, f_89, hq_88⟩ := hq_88
                            have hF := fr_tr hF f_89 (by decide) (by decide)
                            refine W.widen (k := 0) (n := 0) (Nat.le_refl _) (Nat.le_refl _) ?_
                            have t_90 := hT
                            rw [hQ]
                            exact W.iret (v := r_86) hx hb hr (fun t ht hW => ⟨⟨r_86, C_87, rfl, ⟨hT, hF, ⟨⟨hR.1.fr hF (by decide), hR.2.fr hF (by decide)⟩, (fun S hS0 => Eq.trans hq_88 (cp_bad ⟨(oh_rgI (p := 0) (q := 7) (rg_w (lo := 0) (hi := 7) (rg_il (rgL_i (rg_il (rnL_leu u_10.2 (rnL_lel u_10.1 (rgL_c (v := 0) (lo := 0) (hi := 0) (by decide)) (rgL_i (rg_any _))) (rgL_c (v := 7) (lo := 7) (hi := 7) (by decide)))))) (by decide))), (oh_rgI (p := 0) (q := 7) (rg_w (lo := 0) (hi := 7) (rg_il (rgL_i (rg_il (rnL_leu u_14.2 (rnL_lel u_14.1 (rgL_c (v := 0) (lo := 0) (hi := 0) (by decide)) (rgL_i (rg_any _))) (rgL_c (v := 7) (lo := 7) (hi := 7) (by decide)))))) (by decide)))⟩ (cp_nt hS0 (sh8 (rg_w (lo := 0) (hi := 7) (rg_il (rgL_i (rg_il (rnL_leu u_10.2 (rnL_lel u_10.1 (rgL_c (v := 0) (lo := 0) (hi := 0) (by decide)) (rgL_i (rg_any _))) (rgL_c (v := 7) (lo := 7) (hi := 7) (by decide)))))) (by decide))) (sh8 (rg_w (lo := 0) (hi := 7) (rg_il (rgL_i (rg_il (rnL_leu u_14.2 (rnL_lel u_14.1 (rgL_c (v := 0) (lo := 0) (hi := 0) (by decide)) (rgL_i (rg_any _))) (rgL_c (v := 7) (lo := 7) (hi := 7) (by decide)))))) (by decide))) c_16 c_23 (Or.inr (Or.inr c_56))) (cp_ne hS0 (sh8 (rg_w (lo := 0) (hi := 7) (rg_il (rgL_i (rg_il (rnL_leu u_10.2 (rnL_lel u_10.1 (rgL_c (v := 0) (lo := 0) (hi := 0) (by decide)) (rgL_i (rg_any _))) (rgL_c (v := 7) (lo := 7) (hi := 7) (by decide)))))) (by decide))) (sh8 (rg_w (lo := 0) (hi := 7) (rg_il (rgL_i (rg_il (rnL_leu u_14.2 (rnL_lel u_14.1 (rgL_c (v := 0) (lo := 0) (hi := 0) (by decide)) (rgL_i (rg_any _))) (rgL_c (v := 7) (lo := 7) (hi := 7) (by decide)))))) (by decide))) c_58 c_65) (fun h8 => by have h7 := (cp_sz hS0 (sh8 (rg_w (lo := 0) (hi := 7) (rg_il (rgL_i (rg_il (rnL_leu u_10.2 (rnL_lel u_10.1 (rgL_c (v := 0) (lo := 0) (hi := 0) (by decide)) (rgL_i (rg_any _))) (rgL_c (v := 7) (lo := 7) (hi := 7) (by decide)))))) (by decide))) (sh8 (rg_w (lo := 0) (hi := 7) (rg_il (rgL_i (rg_il (rnL_leu u_14.2 (rnL_lel u_14.1 (rgL_c (v := 0) (lo := 0) (hi := 0) (by decide)) (rgL_i (rg_any _))) (rgL_c (v := 7) (lo := 7) (hi := 7) (by decide)))))) (by decide))) c_16 c_23 c_58 c_65).mp h8; exact absurd (cp_i (show rg (ga (C 3) (x1).toNatClampNeg) 0 40 from (rg_w (lo := 0) (hi := 40) (tA_rdc (lo := 0) (hi := 40) (tM_3 hT0) n_84 (Nat.mod_one _) (by decide)) (by decide))) h7.1 h7.2.1) (Int32.not_le.mpr c_85))))⟩⟩, ⟨by rw [ht]; exact hP, hD⟩⟩, hS.F ht⟩) hS.2.2 dX7_copy_187
                          · refine lv_iload hx hb dX7_copy_143 (lv_at hl 5 rfl) ?_
                            refine lv_aload_n hx hb dX7_copy_145 rfl (lv_at hl 0 rfl) ?_
                            refine va_get (D := D) (ci := 7) (v := .ref (a 3)) (C := RX7) (T := TX7) (N := 29) hx hb htg ig_7 hown hK hP 0 (oh_wg (Nat.lt_of_lt_of_le (by decide) hn) (sM_0 hT)) rfl 2 (by decide) (htg _ q_975) (fun _ h9 => h9) rfl dX7_copy_146 ?_
                            refine lv_iload_n hx hb dX7_copy_149 rfl (lv_at hl 2 rfl) ?_
                            have n_91 : vp_in x2 8 := (rg_in (rg_il (rgL_i (rg_il (rnL_leu u_14.2 (rnL_lel u_14.1 (rgL_c (v := 0) (lo := 0) (hi := 0) (by decide)) (rgL_i (rg_any _))) (rgL_c (v := 7) (lo := 7) (hi := 7) (by decide)))))) (by decide))
                            refine th_iald hx hb hK hP 3 (Nat.lt_of_lt_of_le (by decide) hn) (sM_3 hT) n_91 dX7_copy_150 ?_
                            refine lv_icmp_gt (tgt := 181) hx hb dX7_copy_151 (by decide) (fun (c_92 : (ga (C 3) (x2).toNatClampNeg) < x5) => ?_) (fun (c_92 : ¬ ((ga (C 3) (x2).toNatClampNeg) < x5)) => ?_)
                            · refine lv_aload_n hx hb dX7_copy_181 rfl (lv_at hl 0 rfl) ?_
                              refine lv_bipush (v := (-2)) hx hb dX7_copy_182 (by decide) ?_
                              refine tm_V (As := [.int (-2)]) (rest := []) ⟨hx, hb, hml, hown, htg⟩ (c_X7_refuse l D E G _ a C n hn hT ((-2) : Int32) (rg_w (rg_c (v := (-2)) (lo := (-2)) (hi := (-2)) (by decide)) (by decide))) (cwV 1 htg (oh_gV q_1071 q_1073 q_29 q_73 q_1074) rfl rfl rfl pdVX7_refuse ⟨Nat.le_of_ble_eq_true rfl, Nat.le_of_ble_eq_true rfl⟩) hK hP hD hG hS hA (va_recv hK hP (ci := 7) (q0 := 0) rfl (oh_wg (Nat.lt_of_lt_of_le (by decide) hn) (sM_0 hT))) rfl hl.1 rfl (Nat.le_of_ble_eq_true rfl) dX7_copy_184 ⟨Nat.le_of_ble_eq_true rfl, Nat.le_of_ble_eq_true rfl⟩ (fun r_93 C_94 H locs hq_95 hP hD hS => ?_)
                              obtain ⟨hT, f_96, hq_95⟩ := hq_95
                              have hF := fr_tr hF f_96 (by decide) (by decide)
                              refine W.widen (k := 0) (n := 0) (Nat.le_refl _) (Nat.le_refl _) ?_
                              have t_97 := hT
                              rw [hQ]
                              exact W.iret (v := r_93) hx hb hr (fun t ht hW => ⟨⟨r_93, C_94, rfl, ⟨hT, hF, ⟨⟨hR.1.fr hF (by decide), hR.2.fr hF (by decide)⟩, (fun S hS0 => Eq.trans hq_95 (cp_bad ⟨(oh_rgI (p := 0) (q := 7) (rg_w (lo := 0) (hi := 7) (rg_il (rgL_i (rg_il (rnL_leu u_10.2 (rnL_lel u_10.1 (rgL_c (v := 0) (lo := 0) (hi := 0) (by decide)) (rgL_i (rg_any _))) (rgL_c (v := 7) (lo := 7) (hi := 7) (by decide)))))) (by decide))), (oh_rgI (p := 0) (q := 7) (rg_w (lo := 0) (hi := 7) (rg_il (rgL_i (rg_il (rnL_leu u_14.2 (rnL_lel u_14.1 (rgL_c (v := 0) (lo := 0) (hi := 0) (by decide)) (rgL_i (rg_any _))) (rgL_c (v := 7) (lo := 7) (hi := 7) (by decide)))))) (by decide)))⟩ (cp_nt hS0 (sh8 (rg_w (lo := 0) (hi := 7) (rg_il (rgL_i (rg_il (rnL_leu u_10.2 (rnL_lel u_10.1 (rgL_c (v := 0) (lo := 0) (hi := 0) (by decide)) (rgL_i (rg_any _))) (rgL_c (v := 7) (lo := 7) (hi := 7) (by decide)))))) (by decide))) (sh8 (rg_w (lo := 0) (hi := 7) (rg_il (rgL_i (rg_il (rnL_leu u_14.2 (rnL_lel u_14.1 (rgL_c (v := 0) (lo := 0) (hi := 0) (by decide)) (rgL_i (rg_any _))) (rgL_c (v := 7) (lo := 7) (hi := 7) (by decide)))))) (by decide))) c_16 c_23 (Or.inr (Or.inr c_56))) (cp_ne hS0 (sh8 (rg_w (lo := 0) (hi := 7) (rg_il (rgL_i (rg_il (rnL_leu u_10.2 (rnL_lel u_10.1 (rgL_c (v := 0) (lo := 0) (hi := 0) (by decide)) (rgL_i (rg_any _))) (rgL_c (v := 7) (lo := 7) (hi := 7) (by decide)))))) (by decide))) (sh8 (rg_w (lo := 0) (hi := 7) (rg_il (rgL_i (rg_il (rnL_leu u_14.2 (rnL_lel u_14.1 (rgL_c (v := 0) (lo := 0) (hi := 0) (by decide)) (rgL_i (rg_any _))) (rgL_c (v := 7) (lo := 7) (hi := 7) (by decide)))))) (by decide))) c_58 c_65) (fun h8 => by have h7 := (cp_sz hS0 (sh8 (rg_w (lo := 0) (hi := 7) (rg_il (rgL_i (rg_il (rnL_leu u_10.2 (rnL_lel u_10.1 (rgL_c (v := 0) (lo := 0) (hi := 0) (by decide)) (rgL_i (rg_any _))) (rgL_c (v := 7) (lo := 7) (hi := 7) (by decide)))))) (by decide))) (sh8 (rg_w (lo := 0) (hi := 7) (rg_il (rgL_i (rg_il (rnL_leu u_14.2 (rnL_lel u_14.1 (rgL_c (v := 0) (lo := 0) (hi := 0) (by decide)) (rgL_i (rg_any _))) (rgL_c (v := 7) (lo := 7) (hi := 7) (by decide)))))) (by decide))) c_16 c_23 c_58 c_65).mp h8; exact absurd (cp_i (show rg (ga (C 3) (x2).toNatClampNeg) 0 40 from (rg_w (lo := 0) (hi := 40) (rn_ltu (u' := 39) c_92 (tA_rdc (lo := 0) (hi := 40) (tM_3 hT0) n_91 (Nat.mod_one _) (by decide)) (rn_leu (Int32.not_lt.mp c_85) (rn_lel (Int32.not_lt.mp c_66) (rg_c (v := 0) (lo := 0) (hi := 0) (by decide)) (rg_any _)) (tA_rdc (lo := 0) (hi := 40) (tM_3 hT0) n_84 (Nat.mod_one _) (by decide))) (by decide)) (by decide))) h7.1 h7.2.2) (Int32.not_le.mpr c_92))))⟩⟩, ⟨by rw [ht]; exact hP, hD⟩⟩, hS.F ht⟩) hS.2.2 dX7_copy_187
                            · refine lv_iload_n hx hb dX7_copy_154 rfl (lv_at hl 3 rfl) ?_
                              refine lv_aload_n hx hb dX7_copy_155 rfl (lv_at hl 0 rfl) ?_
                              refine va_get (D := D) (ci := 7) (v := .ref (a 3)) (C := RX7) (T := TX7) (N := 29) hx hb htg ig_7 hown hK hP 0 (oh_wg (Nat.lt_of_lt_of_le (by decide) hn) (sM_0 hT)) rfl 2 (by decide) (htg _ q_975) (fun _ h9 => h9) rfl dX7_copy_156 ?_
                              refine lv_iload_n hx hb dX7_copy_159 rfl (lv_at hl 1 rfl) ?_
                              have n_98 : vp_in x1 8 := (rg_in (rg_il (rgL_i (rg_il (rnL_leu u_10.2 (rnL_lel u_10.1 (rgL_c (v := 0) (lo := 0) (hi := 0) (by decide)) (rgL_i (rg_any _))) (rgL_c (v := 7) (lo := 7) (hi := 7) (by decide)))))) (by decide))
                              refine th_iald hx hb hK hP 3 (Nat.lt_of_lt_of_le (by decide) hn) (sM_3 hT) n_98 dX7_copy_160 ?_
                              refine lv_iload hx hb dX7_copy_161 (lv_at hl 5 rfl) ?_
                              refine lv_isub hx hb dX7_copy_163 ?_
                              refine lv_icmp_gt (tgt := 181) hx hb dX7_copy_164 (by decide) (fun (c_99 : ((ga (C 3) (x1).toNatClampNeg) - x5) < x3) => ?_) (fun (c_99 : ¬ (((ga (C 3) (x1).toNatClampNeg) - x5) < x3)) => ?_)
                              · refine lv_aload_n hx hb dX7_copy_181 rfl (lv_at hl 0 rfl) ?_
                                refine lv_bipush (v := (-2)) hx hb dX7_copy_182 (by decide) ?_
                                refine tm_V (As := [.int (-2)]) (rest := []) ⟨hx, hb, hml, hown, htg⟩ (c_X7_refuse l D E G _ a C n hn hT ((-2) : Int32) (rg_w (rg_c (v := (-2)) (lo := (-2)) (hi := (-2)) (by decide)) (by decide))) (cwV 1 htg (oh_gV q_1071 q_1073 q_29 q_73 q_1074) rfl rfl rfl pdVX7_refuse ⟨Nat.le_of_ble_eq_true rfl, Nat.le_of_ble_eq_true rfl⟩) hK hP hD hG hS hA (va_recv hK hP (ci := 7) (q0 := 0) rfl (oh_wg (Nat.lt_of_lt_of_le (by decide) hn) (sM_0 hT))) rfl hl.1 rfl (Nat.le_of_ble_eq_true rfl) dX7_copy_184 ⟨Nat.le_of_ble_eq_true rfl, Nat.le_of_ble_eq_true rfl⟩ (fun r_100 C_101 H locs hq_102 hP hD hS => ?_)
                                obtain ⟨hT, f_103, hq_102⟩ := hq_102
                                have hF := fr_tr hF f_103 (by decide) (by decide)
                                refine W.widen (k := 0) (n := 0) (Nat.le_refl _) (Nat.le_refl _) ?_
                                have t_104 := hT
                                rw [hQ]
                                exact W.iret (v := r_100) hx hb hr (fun t ht hW => ⟨⟨r_100, C_101, rfl, ⟨hT, hF, ⟨⟨hR.1.fr hF (by decide), hR.2.fr hF (by decide)⟩, (fun S hS0 => Eq.trans hq_102 (cp_bad ⟨(oh_rgI (p := 0) (q := 7) (rg_w (lo := 0) (hi := 7) (rg_il (rgL_i (rg_il (rnL_leu u_10.2 (rnL_lel u_10.1 (rgL_c (v := 0) (lo := 0) (hi := 0) (by decide)) (rgL_i (rg_any _))) (rgL_c (v := 7) (lo := 7) (hi := 7) (by decide)))))) (by decide))), (oh_rgI (p := 0) (q := 7) (rg_w (lo := 0) (hi := 7) (rg_il (rgL_i (rg_il (rnL_leu u_14.2 (rnL_lel u_14.1 (rgL_c (v := 0) (lo := 0) (hi := 0) (by decide)) (rgL_i (rg_any _))) (rgL_c (v := 7) (lo := 7) (hi := 7) (by decide)))))) (by decide)))⟩ (cp_nt hS0 (sh8 (rg_w (lo := 0) (hi := 7) (rg_il (rgL_i (rg_il (rnL_leu u_10.2 (rnL_lel u_10.1 (rgL_c (v := 0) (lo := 0) (hi := 0) (by decide)) (rgL_i (rg_any _))) (rgL_c (v := 7) (lo := 7) (hi := 7) (by decide)))))) (by decide))) (sh8 (rg_w (lo := 0) (hi := 7) (rg_il (rgL_i (rg_il (rnL_leu u_14.2 (rnL_lel u_14.1 (rgL_c (v := 0) (lo := 0) (hi := 0) (by decide)) (rgL_i (rg_any _))) (rgL_c (v := 7) (lo := 7) (hi := 7) (by decide)))))) (by decide))) c_16 c_23 (Or.inr (Or.inr c_56))) (cp_ne hS0 (sh8 (rg_w (lo := 0) (hi := 7) (rg_il (rgL_i (rg_il (rnL_leu u_10.2 (rnL_lel u_10.1 (rgL_c (v := 0) (lo := 0) (hi := 0) (by decide)) (rgL_i (rg_any _))) (rgL_c (v := 7) (lo := 7) (hi := 7) (by decide)))))) (by decide))) (sh8 (rg_w (lo := 0) (hi := 7) (rg_il (rgL_i (rg_il (rnL_leu u_14.2 (rnL_lel u_14.1 (rgL_c (v := 0) (lo := 0) (hi := 0) (by decide)) (rgL_i (rg_any _))) (rgL_c (v := 7) (lo := 7) (hi := 7) (by decide)))))) (by decide))) c_58 c_65) (fun h8 => by have h7 := (cp_sz hS0 (sh8 (rg_w (lo := 0) (hi := 7) (rg_il (rgL_i (rg_il (rnL_leu u_10.2 (rnL_lel u_10.1 (rgL_c (v := 0) (lo := 0) (hi := 0) (by decide)) (rgL_i (rg_any _))) (rgL_c (v := 7) (lo := 7) (hi := 7) (by decide)))))) (by decide))) (sh8 (rg_w (lo := 0) (hi := 7) (rg_il (rgL_i (rg_il (rnL_leu u_14.2 (rnL_lel u_14.1 (rgL_c (v := 0) (lo := 0) (hi := 0) (by decide)) (rgL_i (rg_any _))) (rgL_c (v := 7) (lo := 7) (hi := 7) (by decide)))))) (by decide))) c_16 c_23 c_58 c_65).mp h8; exact absurd h7.2.1.2 (Int32.not_le.mpr c_99))))⟩⟩, ⟨by rw [ht]; exact hP, hD⟩⟩, hS.F ht⟩) hS.2.2 dX7_copy_187
                              · refine lv_iload hx hb dX7_copy_167 (lv_at hl 4 rfl) ?_
                                refine lv_aload_n hx hb dX7_copy_169 rfl (lv_at hl 0 rfl) ?_
                                refine va_get (D := D) (ci := 7) (v := .ref (a 3)) (C := RX7) (T := TX7) (N := 29) hx hb htg ig_7 hown hK hP 0 (oh_wg (Nat.lt_of_lt_of_le (by decide) hn) (sM_0 hT)) rfl 2 (by decide) (htg _ q_975) (fun _ h9 => h9) rfl dX7_copy_170 ?_
                                refine lv_iload_n hx hb dX7_copy_173 rfl (lv_at hl 2 rfl) ?_
                                have n_105 : vp_in x2 8 := (rg_in (rg_il (rgL_i (rg_il (rnL_leu u_14.2 (rnL_lel u_14.1 (rgL_c (v := 0) (lo := 0) (hi := 0) (by decide)) (rgL_i (rg_any _))) (rgL_c (v := 7) (lo := 7) (hi := 7) (by decide)))))) (by decide))
                                refine th_iald hx hb hK hP 3 (Nat.lt_of_lt_of_le (by decide) hn) (sM_3 hT) n_105 dX7_copy_174 ?_
                                refine lv_iload hx hb dX7_copy_175 (lv_at hl 5 rfl) ?_
                                refine lv_isub hx hb dX7_copy_177 ?_
                                refine lv_icmp_le (tgt := 188) hx hb dX7_copy_178 (by decide) (fun (c_106 : x4 ≤ ((ga (C 3) (x2).toNatClampNeg) - x5)) => ?_) (fun (c_106 : ¬ (x4 ≤ ((ga (C 3) (x2).toNatClampNeg) - x5))) => ?_)
                                · refine lv_iconst (v := 0) hx hb dX7_copy_188 (by decide) ?_
                                  refine lv_istore (lv' := [(6, .int 0), (0, .ref (a 0)), (1, .int x1), (2, .int x2), (3, .int x3), (4, .int x4), (5, .int x5)]) hx hb dX7_copy_189 hl (by decide) rfl (fun ls hl => ?_)
                                  have L_191 : ∀ (d : Nat) (K191 : Nat → va_E) (z191_6 : Int32) (H : Heap) (locs : List Loc) (ls : Array Slot), (40 - z191_6.toInt).toNat = d → rg z191_6 0 40 → TyM a E K191 → fr [(5, 6), (8, 9), (16, 24)] [] C K191 → fr [(5, 6)] [] C K191 → va_P D vwCl (oh_W n a K191) H → va_D A (oh_W n a K191) → va_S A s.heap H locs → lv_has ls 7 [(6, .int z191_6), (0, .ref (a 0)), (1, .int x1), (2, .int x2), (3, .int x3), (4, .int x4), (5, .int x5)] → W p l e ({ frames := 1, cells := 0, slots := 0, locals := 25 }) s m (([.ref (a 0), .int x1, .int x2, .int x3, .int x4, .int x5] : List Value).toArray) below meth c H locs 0 0 Q (F0 m 191 ls []) := by
                                    intro d
                                    induction d using Nat.strongRecOn with
                                    | ind d ih_191 =>
                                    intro K191 z191_6 H locs ls hd_191 hz191_6 hT hF hLF_191 hP hD hS hl
                                    have t_107 := hT
                                    refine lv_iload hx hb dX7_copy_191 (lv_at hl 0 rfl) ?_
                                    refine lv_iload hx hb dX7_copy_193 (lv_at hl 6 rfl) ?_
                                    refine lv_icmp_ge (tgt := 222) hx hb dX7_copy_195 (by decide) (fun (c_108 : x5 ≤ z191_6) => ?_) (fun (c_108 : ¬ (x5 ≤ z191_6)) => ?_)
                                    · refine lv_iconst (v := 0) hx hb dX7_copy_222 (by decide) ?_
                                      refine lv_istore (lv' := [(6, .int 0), (0, .ref (a 0)), (1, .int x1), (2, .int x2), (3, .int x3), (4, .int x4), (5, .int x5)]) hx hb dX7_copy_223 hl (by decide) rfl (fun ls hl => ?_)
                                      have L_225 : ∀ (d : Nat) (K225 : Nat → va_E) (z225_6 : Int32) (H : Heap) (locs : List Loc) (ls : Array Slot), (40 - z225_6.toInt).toNat = d → rg z225_6 0 40 → TyM a E K225 → fr [(5, 6), (8, 9), (16, 24)] [] C K225 → fr [(16, 24)] [] K191 K225 → va_P D vwCl (oh_W n a K225) H → va_D A (oh_W n a K225) → va_S A s.heap H locs → lv_has ls 7 [(6, .int z225_6), (0, .ref (a 0)), (1, .int x1), (2, .int x2), (3, .int x3), (4, .int x4), (5, .int x5)] → W p l e ({ frames := 1, cells := 0, slots := 0, locals := 25 }) s m (([.ref (a 0), .int x1, .int x2, .int x3, .int x4, .int x5] : List Value).toArray) below meth c H locs 0 0 Q (F0 m 225 ls []) := by
                                        intro d
                                        induction d using Nat.strongRecOn with
                                        | ind d ih_225 =>
                                        intro K225 z225_6 H locs ls hd_225 hz225_6 hT hF hLF_225 hP hD hS hl
                                        have t_109 := hT
                                        refine lv_iload hx hb dX7_copy_225 (lv_at hl 0 rfl) ?_
                                        refine lv_iload hx hb dX7_copy_227 (lv_at hl 6 rfl) ?_
                                        refine lv_icmp_ge (tgt := 257) hx hb dX7_copy_229 (by decide) (fun (c_110 : x5 ≤ z225_6) => ?_) (fun (c_110 : ¬ (x5 ≤ z225_6)) => ?_)
                                        · refine lv_iload hx hb dX7_copy_257 (lv_at hl 6 rfl) ?_
                                          rw [hQ]
                                          exact W.iret (v := x5) hx hb hr (fun t ht hW => ⟨⟨x5, K225, rfl, ⟨hT, hF, ⟨⟨hR.1.fr hF (by decide), hR.2.fr hF (by decide)⟩, (fun S hS0 => cp_ok ⟨(oh_rgI (p := 0) (q := 7) (rg_w (lo := 0) (hi := 7) (rg_il (rgL_i (rg_il (rnL_leu u_10.2 (rnL_lel u_10.1 (rgL_c (v := 0) (lo := 0) (hi := 0) (by decide)) (rgL_i (rg_any _))) (rgL_c (v := 7) (lo := 7) (hi := 7) (by decide)))))) (by decide))), (oh_rgI (p := 0) (q := 7) (rg_w (lo := 0) (hi := 7) (rg_il (rgL_i (rg_il (rnL_leu u_14.2 (rnL_lel u_14.1 (rgL_c (v := 0) (lo := 0) (hi := 0) (by decide)) (rgL_i (rg_any _))) (rgL_c (v := 7) (lo := 7) (hi := 7) (by decide)))))) (by decide)))⟩ (cp_nt hS0 (sh8 (rg_w (lo := 0) (hi := 7) (rg_il (rgL_i (rg_il (rnL_leu u_10.2 (rnL_lel u_10.1 (rgL_c (v := 0) (lo := 0) (hi := 0) (by decide)) (rgL_i (rg_any _))) (rgL_c (v := 7) (lo := 7) (hi := 7) (by decide)))))) (by decide))) (sh8 (rg_w (lo := 0) (hi := 7) (rg_il (rgL_i (rg_il (rnL_leu u_14.2 (rnL_lel u_14.1 (rgL_c (v := 0) (lo := 0) (hi := 0) (by decide)) (rgL_i (rg_any _))) (rgL_c (v := 7) (lo := 7) (hi := 7) (by decide)))))) (by decide))) c_16 c_23 (Or.inr (Or.inr c_56))) (cp_ne hS0 (sh8 (rg_w (lo := 0) (hi := 7) (rg_il (rgL_i (rg_il (rnL_leu u_10.2 (rnL_lel u_10.1 (rgL_c (v := 0) (lo := 0) (hi := 0) (by decide)) (rgL_i (rg_any _))) (rgL_c (v := 7) (lo := 7) (hi := 7) (by decide)))))) (by decide))) (sh8 (rg_w (lo := 0) (hi := 7) (rg_il (rgL_i (rg_il (rnL_leu u_14.2 (rnL_lel u_14.1 (rgL_c (v := 0) (lo := 0) (hi := 0) (by decide)) (rgL_i (rg_any _))) (rgL_c (v := 7) (lo := 7) (hi := 7) (by decide)))))) (by decide))) c_58 c_65) ((cp_sz hS0 (sh8 (rg_w (lo := 0) (hi := 7) (rg_il (rgL_i (rg_il (rnL_leu u_10.2 (rnL_lel u_10.1 (rgL_c (v := 0) (lo := 0) (hi := 0) (by decide)) (rgL_i (rg_any _))) (rgL_c (v := 7) (lo := 7) (hi := 7) (by decide)))))) (by decide))) (sh8 (rg_w (lo := 0) (hi := 7) (rg_il (rgL_i (rg_il (rnL_leu u_14.2 (rnL_lel u_14.1 (rgL_c (v := 0) (lo := 0) (hi := 0) (by decide)) (rgL_i (rg_any _))) (rgL_c (v := 7) (lo := 7) (hi := 7) (by decide)))))) (by decide))) c_16 c_23 c_58 c_65).mpr ⟨⟨(Int32.not_lt.mp c_66), cp_40 (show rg (ga (C 3) (x1).toNatClampNeg) 0 40 from (rg_w (lo := 0) (hi := 40) (tA_rdc (lo := 0) (hi := 40) (tM_3 hT0) n_84 (Nat.mod_one _) (by decide)) (by decide))) (Int32.not_lt.mp c_85)⟩, ⟨(Int32.not_lt.mp c_72), (Int32.not_lt.mp c_99)⟩, ⟨(Int32.not_lt.mp c_78), c_106⟩⟩))⟩⟩, ⟨by rw [ht]; exact hP, hD⟩⟩, hS.F ht⟩) hS.2.2 dX7_copy_259
                                        · refine lv_aload_n hx hb dX7_copy_232 rfl (lv_at hl 1 rfl) ?_
                                          refine va_get (D := D) (ci := 7) (v := .ref (a 4)) (C := RX7) (T := TX7) (N := 29) hx hb htg ig_7 hown hK hP 0 (oh_wg (Nat.lt_of_lt_of_le (by decide) hn) (sM_0 hT)) rfl 3 (by decide) (htg _ q_976) (fun _ h9 => h9) rfl dX7_copy_233 ?_
                                          refine lv_iload_n hx hb dX7_copy_236 rfl (lv_at hl 3 rfl) ?_
                                          have n_111 : vp_in x2 8 := (rg_in (rg_il (rgL_i (rg_il (rnL_leu u_14.2 (rnL_lel u_14.1 (rgL_c (v := 0) (lo := 0) (hi := 0) (by decide)) (rgL_i (rg_any _))) (rgL_c (v := 7) (lo := 7) (hi := 7) (by decide)))))) (by decide))
                                          have b_112 : (x2).toNatClampNeg < 8 := vp_lt n_111
                                          refine th_aald hx hb hK hP 4 3 (Nat.lt_of_lt_of_le (by decide) hn) (sM_4 hT) rfl n_111 dX7_copy_237 ?_
                                          refine lv_iload hx hb dX7_copy_238 (lv_at hl 5 rfl) ?_
                                          refine lv_iload hx hb dX7_copy_240 (lv_at hl 0 rfl) ?_
                                          refine lv_iadd hx hb dX7_copy_242 ?_
                                          refine lv_aload_n hx hb dX7_copy_243 rfl (lv_at hl 1 rfl) ?_
                                          refine va_get (D := D) (ci := 7) (v := .ref (a 5)) (C := RX7) (T := TX7) (N := 29) hx hb htg ig_7 hown hK hP 0 (oh_wg (Nat.lt_of_lt_of_le (by decide) hn) (sM_0 hT)) rfl 4 (by decide) (htg _ q_977) (fun _ h9 => h9) rfl dX7_copy_244 ?_
                                          refine lv_iload hx hb dX7_copy_247 (lv_at hl 0 rfl) ?_
                                          have n_113 : vp_in z225_6 40 := (rg_in (rn_ltu (u' := 39) (Int32.not_le.mp c_110) hz225_6 (rn_leu (Int32.not_lt.mp c_85) (rn_lel (Int32.not_lt.mp c_66) (rg_c (v := 0) (lo := 0) (hi := 0) (by decide)) (rg_any _)) (tA_rdc (lo := 0) (hi := 40) (tM_3 hT0) n_84 (Nat.mod_one _) (by decide))) (by decide)) (by decide))
                                          refine th_lald hx hb hK hP 5 (Nat.lt_of_lt_of_le (by decide) hn) (Eq.trans (hLF_225.1 5 rfl (by decide)) (sM_5 t_107)) n_113 dX7_copy_249 ?_
                                          have n_114 : vp_in (x4 + z225_6) 40 := (oh_cix (rg_w (lo := 0) (hi := 2147483647) (rn_leu c_106 (rn_lel (Int32.not_lt.mp c_78) (rg_c (v := 0) (lo := 0) (hi := 0) (by decide)) (rg_any _)) (rg_sub (lo := (-39)) (hi := 39) (rn_lel (Int32.not_lt.mp c_92) (rn_ltl (l' := 1) (Int32.not_le.mp c_110) hz225_6 (rn_leu (Int32.not_lt.mp c_85) (rn_lel (Int32.not_lt.mp c_66) (rg_c (v := 0) (lo := 0) (hi := 0) (by decide)) (rg_any _)) (tA_rdc (lo := 0) (hi := 40) (tM_3 hT0) n_84 (Nat.mod_one _) (by decide))) (by decide)) (tA_rdc (lo := 0) (hi := 40) (tM_3 hT0) n_105 (Nat.mod_one _) (by decide))) (rn_ltl (l' := 1) (Int32.not_le.mp c_110) hz225_6 (rn_leu (Int32.not_lt.mp c_85) (rn_lel (Int32.not_lt.mp c_66) (rg_c (v := 0) (lo := 0) (hi := 0) (by decide)) (rg_any _)) (tA_rdc (lo := 0) (hi := 40) (tM_3 hT0) n_84 (Nat.mod_one _) (by decide))) (by decide)) (by decide))) (by decide)) (rg_w (lo := 0) (hi := 40) (rn_ltu (u' := 39) (Int32.not_le.mp c_110) hz225_6 (rn_leu (Int32.not_lt.mp c_85) (rn_lel (Int32.not_lt.mp c_66) (rg_c (v := 0) (lo := 0) (hi := 0) (by decide)) (rg_any _)) (tA_rdc (lo := 0) (hi := 40) (tM_3 hT0) n_84 (Nat.mod_one _) (by decide))) (by decide)) (by decide)) (rg_w (lo := 0) (hi := 40) (rn_ltl (l' := 1) (Int32.not_le.mp c_110) hz225_6 (rn_leu (Int32.not_lt.mp c_85) (rn_lel (Int32.not_lt.mp c_66) (rg_c (v := 0) (lo := 0) (hi := 0) (by decide)) (rg_any _)) (tA_rdc (lo := 0) (hi := 40) (tM_3 hT0) n_84 (Nat.mod_one _) (by decide))) (by decide)) (by decide)) (rg_w (lo := 0) (hi := 40) (rn_lel (Int32.not_lt.mp c_92) (rn_ltl (l' := 1) (Int32.not_le.mp c_110) hz225_6 (rn_leu (Int32.not_lt.mp c_85) (rn_lel (Int32.not_lt.mp c_66) (rg_c (v := 0) (lo := 0) (hi := 0) (by decide)) (rg_any _)) (tA_rdc (lo := 0) (hi := 40) (tM_3 hT0) n_84 (Nat.mod_one _) (by decide))) (by decide)) (tA_rdc (lo := 0) (hi := 40) (tM_3 hT0) n_105 (Nat.mod_one _) (by decide))) (by decide)) c_106 (Int32.not_le.mp c_110))
                                          refine th_last (T := TyM a E) (Rl := fr [(5, 6), (8, 9), (16, 24)] [] C) hx hb hK hP hD hS (16 + (x2).toNatClampNeg) (lt_blk b_112 hn (by decide)) (hT.brows b_112) n_114 (hT.uprows b_112 rfl) (fr_st hF (by omega) (inR_of (p := (16, 24)) (by decide) (by show 16 ≤ _; omega) (by show _ < 24; omega))) dX7_copy_250 (fun C_115 H locs e_116 hT hF hP hD hS => ?_)
                                          have t_117 := hT
                                          refine lv_iinc (v := z225_6 + 1) (lv' := [(6, .int (z225_6 + 1)), (0, .ref (a 0)), (1, .int x1), (2, .int x2), (3, .int x3), (4, .int x4), (5, .int x5)]) hx hb dX7_copy_251 hl (k := 0) rfl (by rfl) (by decide) rfl (fun ls hl => ?_)
                                          refine lv_goto (tgt := 225) hx hb dX7_copy_254 (by decide) ?_
                                          exact ih_225 _ (hd_225 ▸ mu_up 40 (rn_ltu (u' := 39) (Int32.not_le.mp c_110) hz225_6 (rn_leu (Int32.not_lt.mp c_85) (rn_lel (Int32.not_lt.mp c_66) (rg_c (v := 0) (lo := 0) (hi := 0) (by decide)) (rg_any _)) (tA_rdc (lo := 0) (hi := 40) (tM_3 hT0) n_84 (Nat.mod_one _) (by decide))) (by decide)) (by decide)) C_115 (z225_6 + 1) _ _ ls rfl (rg_w (rg_add (lo := 1) (hi := 40) (rn_ltu (u' := 39) (Int32.not_le.mp c_110) hz225_6 (rn_leu (Int32.not_lt.mp c_85) (rn_lel (Int32.not_lt.mp c_66) (rg_c (v := 0) (lo := 0) (hi := 0) (by decide)) (rg_any _)) (tA_rdc (lo := 0) (hi := 40) (tM_3 hT0) n_84 (Nat.mod_one _) (by decide))) (by decide)) (rg_c (v := 1) (lo := 1) (hi := 1) (by decide)) (by decide)) (by decide)) hT hF (fr_ste hLF_225 e_116 (by omega) (inR_of (p := (16, 24)) (by decide) (by show 16 ≤ _; omega) (by show _ < 24; omega))) hP hD hS (lv_sub hl [0, 1, 2, 3, 4, 5, 6] rfl)
                                      exact L_225 _ K191 0 _ _ ls rfl (rg_w (rg_c (v := 0) (lo := 0) (hi := 0) (by decide)) (by decide)) hT hF fr_rf hP hD hS (lv_sub hl [0, 1, 2, 3, 4, 5, 6] rfl)
                                    · refine lv_aload_n hx hb dX7_copy_198 rfl (lv_at hl 1 rfl) ?_
                                      refine va_get (D := D) (ci := 7) (v := .ref (a 5)) (C := RX7) (T := TX7) (N := 29) hx hb htg ig_7 hown hK hP 0 (oh_wg (Nat.lt_of_lt_of_le (by decide) hn) (sM_0 hT)) rfl 4 (by decide) (htg _ q_977) (fun _ h9 => h9) rfl dX7_copy_199 ?_
                                      refine lv_iload hx hb dX7_copy_202 (lv_at hl 0 rfl) ?_
                                      refine lv_aload_n hx hb dX7_copy_204 rfl (lv_at hl 1 rfl) ?_
                                      refine va_get (D := D) (ci := 7) (v := .ref (a 4)) (C := RX7) (T := TX7) (N := 29) hx hb htg ig_7 hown hK hP 0 (oh_wg (Nat.lt_of_lt_of_le (by decide) hn) (sM_0 hT)) rfl 3 (by decide) (htg _ q_976) (fun _ h9 => h9) rfl dX7_copy_205 ?_
                                      refine lv_iload_n hx hb dX7_copy_208 rfl (lv_at hl 2 rfl) ?_
                                      have n_118 : vp_in x1 8 := (rg_in (rg_il (rgL_i (rg_il (rnL_leu u_10.2 (rnL_lel u_10.1 (rgL_c (v := 0) (lo := 0) (hi := 0) (by decide)) (rgL_i (rg_any _))) (rgL_c (v := 7) (lo := 7) (hi := 7) (by decide)))))) (by decide))
                                      have b_119 : (x1).toNatClampNeg < 8 := vp_lt n_118
                                      refine th_aald hx hb hK hP 4 3 (Nat.lt_of_lt_of_le (by decide) hn) (sM_4 hT) rfl n_118 dX7_copy_209 ?_
                                      refine lv_iload_n hx hb dX7_copy_210 rfl (lv_at hl 4 rfl) ?_
                                      refine lv_iload hx hb dX7_copy_211 (lv_at hl 0 rfl) ?_
                                      refine lv_iadd hx hb dX7_copy_213 ?_
                                      have n_120 : vp_in (x3 + z191_6) 40 := (oh_cix (rg_w (lo := 0) (hi := 2147483647) (rn_leu (Int32.not_lt.mp c_99) (rn_lel (Int32.not_lt.mp c_72) (rg_c (v := 0) (lo := 0) (hi := 0) (by decide)) (rg_any _)) (rg_sub (lo := (-39)) (hi := 39) (rn_lel (Int32.not_lt.mp c_85) (rn_ltl (l' := 1) (Int32.not_le.mp c_108) hz191_6 (rn_leu (Int32.not_lt.mp c_92) (rn_lel (Int32.not_lt.mp c_66) (rg_c (v := 0) (lo := 0) (hi := 0) (by decide)) (rg_any _)) (tA_rdc (lo := 0) (hi := 40) (tM_3 hT0) n_91 (Nat.mod_one _) (by decide))) (by decide)) (tA_rdc (lo := 0) (hi := 40) (tM_3 hT0) n_98 (Nat.mod_one _) (by decide))) (rn_ltl (l' := 1) (Int32.not_le.mp c_108) hz191_6 (rn_leu (Int32.not_lt.mp c_85) (rn_lel (Int32.not_lt.mp c_66) (rg_c (v := 0) (lo := 0) (hi := 0) (by decide)) (rg_any _)) (tA_rdc (lo := 0) (hi := 40) (tM_3 hT0) n_84 (Nat.mod_one _) (by decide))) (by decide)) (by decide))) (by decide)) (rg_w (lo := 0) (hi := 40) (rn_ltu (u' := 39) (Int32.not_le.mp c_108) hz191_6 (rn_leu (Int32.not_lt.mp c_85) (rn_lel (Int32.not_lt.mp c_66) (rg_c (v := 0) (lo := 0) (hi := 0) (by decide)) (rg_any _)) (tA_rdc (lo := 0) (hi := 40) (tM_3 hT0) n_84 (Nat.mod_one _) (by decide))) (by decide)) (by decide)) (rg_w (lo := 0) (hi := 40) (rn_ltl (l' := 1) (Int32.not_le.mp c_108) hz191_6 (rn_leu (Int32.not_lt.mp c_85) (rn_lel (Int32.not_lt.mp c_66) (rg_c (v := 0) (lo := 0) (hi := 0) (by decide)) (rg_any _)) (tA_rdc (lo := 0) (hi := 40) (tM_3 hT0) n_84 (Nat.mod_one _) (by decide))) (by decide)) (by decide)) (rg_w (lo := 0) (hi := 40) (rn_lel (Int32.not_lt.mp c_85) (rn_ltl (l' := 1) (Int32.not_le.mp c_108) hz191_6 (rn_leu (Int32.not_lt.mp c_92) (rn_lel (Int32.not_lt.mp c_66) (rg_c (v := 0) (lo := 0) (hi := 0) (by decide)) (rg_any _)) (tA_rdc (lo := 0) (hi := 40) (tM_3 hT0) n_91 (Nat.mod_one _) (by decide))) (by decide)) (tA_rdc (lo := 0) (hi := 40) (tM_3 hT0) n_98 (Nat.mod_one _) (by decide))) (by decide)) (Int32.not_lt.mp c_99) (Int32.not_le.mp c_108))
                                      refine th_lald hx hb hK hP (16 + (x1).toNatClampNeg) (lt_blk b_119 hn (by decide)) (Eq.trans (hLF_191.1 (16 + (x1).toNatClampNeg) (by have h9 := b_119; exact inR_out h9 (by decide)) (by omega)) (hT0.brows b_119)) n_120 dX7_copy_214 ?_
                                      have n_121 : vp_in z191_6 40 := (rg_in (rn_ltu (u' := 39) (Int32.not_le.mp c_108) hz191_6 (rn_leu (Int32.not_lt.mp c_85) (rn_lel (Int32.not_lt.mp c_66) (rg_c (v := 0) (lo := 0) (hi := 0) (by decide)) (rg_any _)) (tA_rdc (lo := 0) (hi := 40) (tM_3 hT0) n_84 (Nat.mod_one _) (by decide))) (by decide)) (by decide))
                                      refine th_last (T := TyM a E) (Rl := fr [(5, 6), (8, 9), (16, 24)] [] C) hx hb hK hP hD hS 5 (Nat.lt_of_lt_of_le (by decide) hn) (sM_5 hT) n_121 (hT.up 5 (by decide) rfl) (fr_st hF (by decide) (by decide)) dX7_copy_215 (fun C_122 H locs e_123 hT hF hP hD hS => ?_)
                                      have t_124 := hT
                                      refine lv_iinc (v := z191_6 + 1) (lv' := [(6, .int (z191_6 + 1)), (0, .ref (a 0)), (1, .int x1), (2, .int x2), (3, .int x3), (4, .int x4), (5, .int x5)]) hx hb dX7_copy_216 hl (k := 0) rfl (by rfl) (by decide) rfl (fun ls hl => ?_)
                                      refine lv_goto (tgt := 191) hx hb dX7_copy_219 (by decide) ?_
                                      exact ih_191 _ (hd_191 ▸ mu_up 40 (rn_ltu (u' := 39) (Int32.not_le.mp c_108) hz191_6 (rn_leu (Int32.not_lt.mp c_85) (rn_lel (Int32.not_lt.mp c_66) (rg_c (v := 0) (lo := 0) (hi := 0) (by decide)) (rg_any _)) (tA_rdc (lo := 0) (hi := 40) (tM_3 hT0) n_84 (Nat.mod_one _) (by decide))) (by decide)) (by decide)) C_122 (z191_6 + 1) _ _ ls rfl (rg_w (rg_add (lo := 1) (hi := 40) (rn_ltu (u' := 39) (Int32.not_le.mp c_108) hz191_6 (rn_leu (Int32.not_lt.mp c_85) (rn_lel (Int32.not_lt.mp c_66) (rg_c (v := 0) (lo := 0) (hi := 0) (by decide)) (rg_any _)) (tA_rdc (lo := 0) (hi := 40) (tM_3 hT0) n_84 (Nat.mod_one _) (by decide))) (by decide)) (rg_c (v := 1) (lo := 1) (hi := 1) (by decide)) (by decide)) (by decide)) hT hF (fr_ste hLF_191 e_123 (by decide) (by decide)) hP hD hS (lv_sub hl [0, 1, 2, 3, 4, 5, 6] rfl)
                                  exact L_191 _ C 0 _ _ ls rfl (rg_w (rg_c (v := 0) (lo := 0) (hi := 0) (by decide)) (by decide)) hT hF fr_rf hP hD hS (lv_sub hl [0, 1, 2, 3, 4, 5, 6] rfl)
                                · refine lv_aload_n hx hb dX7_copy_181 rfl (lv_at hl 0 rfl) ?_
                                  refine lv_bipush (v := (-2)) hx hb dX7_copy_182 (by decide) ?_
                                  refine tm_V (As := [.int (-2)]) (rest := []) ⟨hx, hb, hml, hown, htg⟩ (c_X7_refuse l D E G _ a C n hn hT ((-2) : Int32) (rg_w (rg_c (v := (-2)) (lo := (-2)) (hi := (-2)) (by decide)) (by decide))) (cwV 1 htg (oh_gV q_1071 q_1073 q_29 q_73 q_1074) rfl rfl rfl pdVX7_refuse ⟨Nat.le_of_ble_eq_true rfl, Nat.le_of_ble_eq_true rfl⟩) hK hP hD hG hS hA (va_recv hK hP (ci := 7) (q0 := 0) rfl (oh_wg (Nat.lt_of_lt_of_le (by decide) hn) (sM_0 hT))) rfl hl.1 rfl (Nat.le_of_ble_eq_true rfl) dX7_copy_184 ⟨Nat.le_of_ble_eq_true rfl, Nat.le_of_ble_eq_true rfl⟩ (fun r_125 C_126 H locs hq_127 hP hD hS => ?_)
                                  obtain ⟨hT, f_128, hq_127⟩ := hq_127
                                  have hF := fr_tr hF f_128 (by decide) (by decide)
                                  refine W.widen (k := 0) (n := 0) (Nat.le_refl _) (Nat.le_refl _) ?_
                                  have t_129 := hT
                                  rw [hQ]
                                  exact W.iret (v := r_125) hx hb hr (fun t ht hW => ⟨⟨r_125, C_126, rfl, ⟨hT, hF, ⟨⟨hR.1.fr hF (by decide), hR.2.fr hF (by decide)⟩, (fun S hS0 => Eq.trans hq_127 (cp_bad ⟨(oh_rgI (p := 0) (q := 7) (rg_w (lo := 0) (hi := 7) (rg_il (rgL_i (rg_il (rnL_leu u_10.2 (rnL_lel u_10.1 (rgL_c (v := 0) (lo := 0) (hi := 0) (by decide)) (rgL_i (rg_any _))) (rgL_c (v := 7) (lo := 7) (hi := 7) (by decide)))))) (by decide))), (oh_rgI (p := 0) (q := 7) (rg_w (lo := 0) (hi := 7) (rg_il (rgL_i (rg_il (rnL_leu u_14.2 (rnL_lel u_14.1 (rgL_c (v := 0) (lo := 0) (hi := 0) (by decide)) (rgL_i (rg_any _))) (rgL_c (v := 7) (lo := 7) (hi := 7) (by decide)))))) (by decide)))⟩ (cp_nt hS0 (sh8 (rg_w (lo := 0) (hi := 7) (rg_il (rgL_i (rg_il (rnL_leu u_10.2 (rnL_lel u_10.1 (rgL_c (v := 0) (lo := 0) (hi := 0) (by decide)) (rgL_i (rg_any _))) (rgL_c (v := 7) (lo := 7) (hi := 7) (by decide)))))) (by decide))) (sh8 (rg_w (lo := 0) (hi := 7) (rg_il (rgL_i (rg_il (rnL_leu u_14.2 (rnL_lel u_14.1 (rgL_c (v := 0) (lo := 0) (hi := 0) (by decide)) (rgL_i (rg_any _))) (rgL_c (v := 7) (lo := 7) (hi := 7) (by decide)))))) (by decide))) c_16 c_23 (Or.inr (Or.inr c_56))) (cp_ne hS0 (sh8 (rg_w (lo := 0) (hi := 7) (rg_il (rgL_i (rg_il (rnL_leu u_10.2 (rnL_lel u_10.1 (rgL_c (v := 0) (lo := 0) (hi := 0) (by decide)) (rgL_i (rg_any _))) (rgL_c (v := 7) (lo := 7) (hi := 7) (by decide)))))) (by decide))) (sh8 (rg_w (lo := 0) (hi := 7) (rg_il (rgL_i (rg_il (rnL_leu u_14.2 (rnL_lel u_14.1 (rgL_c (v := 0) (lo := 0) (hi := 0) (by decide)) (rgL_i (rg_any _))) (rgL_c (v := 7) (lo := 7) (hi := 7) (by decide)))))) (by decide))) c_58 c_65) (fun h8 => by have h7 := (cp_sz hS0 (sh8 (rg_w (lo := 0) (hi := 7) (rg_il (rgL_i (rg_il (rnL_leu u_10.2 (rnL_lel u_10.1 (rgL_c (v := 0) (lo := 0) (hi := 0) (by decide)) (rgL_i (rg_any _))) (rgL_c (v := 7) (lo := 7) (hi := 7) (by decide)))))) (by decide))) (sh8 (rg_w (lo := 0) (hi := 7) (rg_il (rgL_i (rg_il (rnL_leu u_14.2 (rnL_lel u_14.1 (rgL_c (v := 0) (lo := 0) (hi := 0) (by decide)) (rgL_i (rg_any _))) (rgL_c (v := 7) (lo := 7) (hi := 7) (by decide)))))) (by decide))) c_16 c_23 c_58 c_65).mp h8; exact absurd h7.2.2.2 (Int32.not_le.mpr (Int32.not_le.mp c_106)))))⟩⟩, ⟨by rw [ht]; exact hP, hD⟩⟩, hS.F ht⟩) hS.2.2 dX7_copy_187
                  · refine lv_aload_n hx hb dX7_copy_111 rfl (lv_at hl 0 rfl) ?_
                    refine lv_bipush (v := (-4)) hx hb dX7_copy_112 (by decide) ?_
                    refine tm_V (As := [.int (-4)]) (rest := []) ⟨hx, hb, hml, hown, htg⟩ (c_X7_refuse l D E G _ a C n hn hT ((-4) : Int32) (rg_w (rg_c (v := (-4)) (lo := (-4)) (hi := (-4)) (by decide)) (by decide))) (cwV 1 htg (oh_gV q_1071 q_1073 q_29 q_73 q_1074) rfl rfl rfl pdVX7_refuse ⟨Nat.le_of_ble_eq_true rfl, Nat.le_of_ble_eq_true rfl⟩) hK hP hD hG hS hA (va_recv hK hP (ci := 7) (q0 := 0) rfl (oh_wg (Nat.lt_of_lt_of_le (by decide) hn) (sM_0 hT))) rfl hl.1 rfl (Nat.le_of_ble_eq_true rfl) dX7_copy_114 ⟨Nat.le_of_ble_eq_true rfl, Nat.le_of_ble_eq_true rfl⟩ (fun r_130 C_131 H locs hq_132 hP hD hS => ?_)
                    obtain ⟨hT, f_133, hq_132⟩ := hq_132
                    have hF := fr_tr hF f_133 (by decide) (by decide)
                    refine W.widen (k := 0) (n := 0) (Nat.le_refl _) (Nat.le_refl _) ?_
                    have t_134 := hT
                    rw [hQ]
                    exact W.iret (v := r_130) hx hb hr (fun t ht hW => ⟨⟨r_130, C_131, rfl, ⟨hT, hF, ⟨⟨hR.1.fr hF (by decide), hR.2.fr hF (by decide)⟩, (fun S hS0 => Eq.trans hq_132 (cp_non ⟨(oh_rgI (p := 0) (q := 7) (rg_w (lo := 0) (hi := 7) (rg_il (rgL_i (rg_il (rnL_leu u_10.2 (rnL_lel u_10.1 (rgL_c (v := 0) (lo := 0) (hi := 0) (by decide)) (rgL_i (rg_any _))) (rgL_c (v := 7) (lo := 7) (hi := 7) (by decide)))))) (by decide))), (oh_rgI (p := 0) (q := 7) (rg_w (lo := 0) (hi := 7) (rg_il (rgL_i (rg_il (rnL_leu u_14.2 (rnL_lel u_14.1 (rgL_c (v := 0) (lo := 0) (hi := 0) (by decide)) (rgL_i (rg_any _))) (rgL_c (v := 7) (lo := 7) (hi := 7) (by decide)))))) (by decide)))⟩ (cp_nt hS0 (sh8 (rg_w (lo := 0) (hi := 7) (rg_il (rgL_i (rg_il (rnL_leu u_10.2 (rnL_lel u_10.1 (rgL_c (v := 0) (lo := 0) (hi := 0) (by decide)) (rgL_i (rg_any _))) (rgL_c (v := 7) (lo := 7) (hi := 7) (by decide)))))) (by decide))) (sh8 (rg_w (lo := 0) (hi := 7) (rg_il (rgL_i (rg_il (rnL_leu u_14.2 (rnL_lel u_14.1 (rgL_c (v := 0) (lo := 0) (hi := 0) (by decide)) (rgL_i (rg_any _))) (rgL_c (v := 7) (lo := 7) (hi := 7) (by decide)))))) (by decide))) c_16 c_23 (Or.inr (Or.inr c_56))) (Or.inr ((hm_k hS0 (sh8 (rg_w (lo := 0) (hi := 7) (rg_il (rgL_i (rg_il (rnL_leu u_14.2 (rnL_lel u_14.1 (rgL_c (v := 0) (lo := 0) (hi := 0) (by decide)) (rgL_i (rg_any _))) (rgL_c (v := 7) (lo := 7) (hi := 7) (by decide)))))) (by decide)))).1.mp c_65))))⟩⟩, ⟨by rw [ht]; exact hP, hD⟩⟩, hS.F ht⟩) hS.2.2 dX7_copy_117
              · refine lv_aload_n hx hb dX7_copy_86 rfl (lv_at hl 0 rfl) ?_
                refine lv_bipush (v := (-3)) hx hb dX7_copy_87 (by decide) ?_
                refine tm_V (As := [.int (-3)]) (rest := []) ⟨hx, hb, hml, hown, htg⟩ (c_X7_refuse l D E G _ a C n hn hT ((-3) : Int32) (rg_w (rg_c (v := (-3)) (lo := (-3)) (hi := (-3)) (by decide)) (by decide))) (cwV 1 htg (oh_gV q_1071 q_1073 q_29 q_73 q_1074) rfl rfl rfl pdVX7_refuse ⟨Nat.le_of_ble_eq_true rfl, Nat.le_of_ble_eq_true rfl⟩) hK hP hD hG hS hA (va_recv hK hP (ci := 7) (q0 := 0) rfl (oh_wg (Nat.lt_of_lt_of_le (by decide) hn) (sM_0 hT))) rfl hl.1 rfl (Nat.le_of_ble_eq_true rfl) dX7_copy_89 ⟨Nat.le_of_ble_eq_true rfl, Nat.le_of_ble_eq_true rfl⟩ (fun r_135 C_136 H locs hq_137 hP hD hS => ?_)
                obtain ⟨hT, f_138, hq_137⟩ := hq_137
                have hF := fr_tr hF f_138 (by decide) (by decide)
                refine W.widen (k := 0) (n := 0) (Nat.le_refl _) (Nat.le_refl _) ?_
                have t_139 := hT
                rw [hQ]
                exact W.iret (v := r_135) hx hb hr (fun t ht hW => ⟨⟨r_135, C_136, rfl, ⟨hT, hF, ⟨⟨hR.1.fr hF (by decide), hR.2.fr hF (by decide)⟩, (fun S hS0 => by have u := (hm_k hS0 (sh8 (rg_w (lo := 0) (hi := 7) (rg_il (rgL_i (rg_il (rnL_leu u_10.2 (rnL_lel u_10.1 (rgL_c (v := 0) (lo := 0) (hi := 0) (by decide)) (rgL_i (rg_any _))) (rgL_c (v := 7) (lo := 7) (hi := 7) (by decide)))))) (by decide)))).2.1.mp c_30; have v := (hm_k hS0 (sh8 (rg_w (lo := 0) (hi := 7) (rg_il (rgL_i (rg_il (rnL_leu u_14.2 (rnL_lel u_14.1 (rgL_c (v := 0) (lo := 0) (hi := 0) (by decide)) (rgL_i (rg_any _))) (rgL_c (v := 7) (lo := 7) (hi := 7) (by decide)))))) (by decide)))).2.1.mp c_39; exact Eq.trans hq_137 (cp_top ⟨(oh_rgI (p := 0) (q := 7) (rg_w (lo := 0) (hi := 7) (rg_il (rgL_i (rg_il (rnL_leu u_10.2 (rnL_lel u_10.1 (rgL_c (v := 0) (lo := 0) (hi := 0) (by decide)) (rgL_i (rg_any _))) (rgL_c (v := 7) (lo := 7) (hi := 7) (by decide)))))) (by decide))), (oh_rgI (p := 0) (q := 7) (rg_w (lo := 0) (hi := 7) (rg_il (rgL_i (rg_il (rnL_leu u_14.2 (rnL_lel u_14.1 (rgL_c (v := 0) (lo := 0) (hi := 0) (by decide)) (rgL_i (rg_any _))) (rgL_c (v := 7) (lo := 7) (hi := 7) (by decide)))))) (by decide)))⟩ (Or.inr (Or.inr ⟨u, v, by rw [← (hm_s hS0 (sh8 (rg_w (lo := 0) (hi := 7) (rg_il (rgL_i (rg_il (rnL_leu u_10.2 (rnL_lel u_10.1 (rgL_c (v := 0) (lo := 0) (hi := 0) (by decide)) (rgL_i (rg_any _))) (rgL_c (v := 7) (lo := 7) (hi := 7) (by decide)))))) (by decide))) u).1, ← (hm_s hS0 (sh8 (rg_w (lo := 0) (hi := 7) (rg_il (rgL_i (rg_il (rnL_leu u_14.2 (rnL_lel u_14.1 (rgL_c (v := 0) (lo := 0) (hi := 0) (by decide)) (rgL_i (rg_any _))) (rgL_c (v := 7) (lo := 7) (hi := 7) (by decide)))))) (by decide))) v).1]; exact c_56⟩))))⟩⟩, ⟨by rw [ht]; exact hP, hD⟩⟩, hS.F ht⟩) hS.2.2 dX7_copy_92
    · have u_140 := hq_12.2.2 c_13
      refine lv_aload_n hx hb dX7_copy_24 rfl (lv_at hl 0 rfl) ?_
      refine lv_bipush (v := (-2)) hx hb dX7_copy_25 (by decide) ?_
      refine tm_V (As := [.int (-2)]) (rest := []) ⟨hx, hb, hml, hown, htg⟩ (c_X7_refuse l D E G _ a C n hn hT ((-2) : Int32) (rg_w (rg_c (v := (-2)) (lo := (-2)) (hi := (-2)) (by decide)) (by decide))) (cwV 1 htg (oh_gV q_1071 q_1073 q_29 q_73 q_1074) rfl rfl rfl pdVX7_refuse ⟨Nat.le_of_ble_eq_true rfl, Nat.le_of_ble_eq_true rfl⟩) hK hP hD hG hS hA (va_recv hK hP (ci := 7) (q0 := 0) rfl (oh_wg (Nat.lt_of_lt_of_le (by decide) hn) (sM_0 hT))) rfl hl.1 rfl (Nat.le_of_ble_eq_true rfl) dX7_copy_27 ⟨Nat.le_of_ble_eq_true rfl, Nat.le_of_ble_eq_true rfl⟩ (fun r_141 C_142 H locs hq_143 hP hD hS => ?_)
      obtain ⟨hT, f_144, hq_143⟩ := hq_143
      have hF := fr_tr hF f_144 (by decide) (by decide)
      refine W.widen (k := 0) (n := 0) (Nat.le_refl _) (Nat.le_refl _) ?_
      have t_145 := hT
      rw [hQ]
      exact W.iret (v := r_141) hx hb hr (fun t ht hW => ⟨⟨r_141, C_142, rfl, ⟨hT, hF, ⟨⟨hR.1.fr hF (by decide), hR.2.fr hF (by decide)⟩, (fun S hS0 => Eq.trans hq_143 (pif_neg (fun h8 => (oh_in64 (l' := 0) (k' := 7) rfl rfl u_140) h8.2)).symm)⟩⟩, ⟨by rw [ht]; exact hP, hD⟩⟩, hS.F ht⟩) hS.2.2 dX7_copy_30
/-! EXACT: what back drops -/
noncomputable def spDr (S : HZ) (n : Int32) (i : Nat) : HZ := (fun s => pif (s < i ∧ 10 + n ≤ S.1 s) (-1) (S.1 s), S.2)
theorem dr_0 (S : HZ) (n : Int32) : spDr S n 0 = S := by
  show (fun s => pif (s < 0 ∧ 10 + n ≤ S.1 s) (-1) (S.1 s), S.2) = S
  have e : (fun s => pif (s < 0 ∧ 10 + n ≤ S.1 s) (-1) (S.1 s)) = S.1 := funext (fun s => pif_neg (fun h => absurd h.1 (Nat.not_lt_zero s)))
  rw [e]
theorem dr_i (S : HZ) (n : Int32) (i : Nat) : (spDr S n i).1 i = S.1 i := pif_neg (fun h => absurd h.1 (Nat.lt_irrefl i))
theorem dr_y {S : HZ} {n : Int32} {i : Nat} (h : 10 + n ≤ S.1 i) : spDr S n (i + 1) = (upd (spDr S n i).1 i (-1), (spDr S n i).2) := by
  have e : (spDr S n (i + 1)).1 = upd (spDr S n i).1 i (-1) := funext (fun s => by
    by_cases q : s = i
    · rw [q, pk_us]
      exact pif_pos ⟨Nat.lt_succ_self i, h⟩
    · rw [pk_un q]
      by_cases w : s < i ∧ 10 + n ≤ S.1 s
      · exact Eq.trans (pif_pos ⟨by omega, w.2⟩) (pif_pos w).symm
      · exact Eq.trans (pif_neg (fun z => w ⟨by omega, z.2⟩)) (pif_neg w).symm)
  rw [← e]
  rfl
theorem dr_n {S : HZ} {n : Int32} {i : Nat} (h : ¬ 10 + n ≤ S.1 i) : spDr S n (i + 1) = spDr S n i := by
  have e : (spDr S n (i + 1)).1 = (spDr S n i).1 := funext (fun s => by
    by_cases w : s < i ∧ 10 + n ≤ S.1 s
    · exact Eq.trans (pif_pos ⟨by omega, w.2⟩) (pif_pos w).symm
    · refine Eq.trans (pif_neg (fun z => ?_)) (pif_neg w).symm
      by_cases q : s = i
      · rw [q] at z
        exact h z.2
      · exact w ⟨by omega, z.2⟩)
  show ((spDr S n (i + 1)).1, S.2) = ((spDr S n i).1, S.2)
  rw [e]
theorem z_s8 {z : Int32} (h : rg z 0 7) : (z + 1).toNatClampNeg = z.toNatClampNeg + 1 := by
  have e2 : (z + 1).toInt = z.toInt + 1 := by
    rw [Int32.toInt_add]
    exact oh_bmod (by show _ ≤ z.toInt + 1; have := h.1; omega) (by show z.toInt + 1 ≤ _; have := h.2; omega)
  have a := oh_nat h (by decide)
  have b := oh_nat (i := z + 1) (l := 0) (u := 8) ⟨by rw [e2]; have := h.1; omega, by rw [e2]; have := h.2; omega⟩ (by decide)
  omega
theorem drx_n {K : Nat → va_E} {S : HZ} {n z : Int32} (h : absHX K (spDr S n z.toNatClampNeg)) (hz : rg z 0 7) (c : ga (K 29) z.toNatClampNeg < 10 + n) : absHX K (spDr S n (z + 1).toNatClampNeg) := by
  have e := (h _ (sh8 hz)).1
  rw [dr_i] at e
  rw [z_s8 hz, dr_n (by rw [← e]; exact Int32.not_le.mpr c)]
  exact h
theorem drx_y {K u : Nat → va_E} {S : HZ} {n z m : Int32} (h : absHX K (spDr S n z.toNatClampNeg)) (hz : rg z 0 7) (c : 10 + n ≤ ga (K 29) z.toNatClampNeg) (e29 : ga (u 29) = upd (ga (K 29)) z.toNatClampNeg (cdB (-1))) (e30 : ga (u 30) = upd (ga (K 30)) z.toNatClampNeg m) : absHX u (spDr S n (z + 1).toNatClampNeg) := by
  have e := (h _ (sh8 hz)).1
  rw [dr_i] at e
  have f : cdB (-1) = -1 := pif_pos rfl
  rw [f] at e29
  rw [z_s8 hz, dr_y (by rw [← e]; exact c)]
  exact hx_put h (Or.inl rfl) (fun q => q.1 rfl) e29 e30

set_option maxHeartbeats 4000000 in
set_option maxRecDepth 100000 in
theorem e_X3_dropBridgesFrom (l : Launch) (D : va_G) (E : Nat → ClassId) (G : Nat → Nat) (sz : Nat) (a : Nat → Nat) (C : Nat → va_E) (hT : TyX a E C) (x1 : Int32) : Met l yX3_dropBridgesFrom (oh_w yX3_dropBridgesFrom cX3_dropBridgesFrom 3 none) ({ frames := 1, cells := 0, slots := 0, locals := 22 }) (oh_Pm D E G [.ref (a 4), .int x1] (oh_W 35 a C) sz) (va_Qv (fun (u : Nat → va_E) => TyX a E u ∧ fr [(29, 31)] [] C u ∧ (∀ S : HZ, absHX C S → absHX u (spDr S x1 8))) (oh_B D (va_A (oh_W 35 a C) sz) (fun u => oh_W 35 a u)) (va_A (oh_W 35 a C) sz)) 0 0 (va_A (oh_W 35 a C) sz) := by
  refine Met.ofW (cc := cX3_dropBridgesFrom) (maxL := 3) (ret := none) (by decide) rfl ?_
  intro p e s m args below meth c s₁ B hml hv
  obtain ⟨rfl, hsz, hP, hK, hD0, hG⟩ := hv
  have hx := B.exec
  have hb := B.bytes
  have hr := B.returns
  have hts := atoms_spec (ws := (oh_w yX3_dropBridgesFrom cX3_dropBridgesFrom 3 none)) B.pre
  have htg : ∀ w ∈ oh_t, w.before _ s = true := fun w h => hts w (List.mem_cons_of_mem _ h)
  have hown : s.vm.findClass RX3 = some m.cls := findClass_of_methodNamed B.named
  have hlocks := B.notSynchronized
  have hT0 := hT
  subst hsz
  have hD := hD0.self (sz := s.heap.size)
  generalize hAe : va_A (oh_W 35 a C) s.heap.size = A at hD hG ⊢
  have hA : ∀ q : Nat, s.heap.size ≤ q → A q := fun q h => by rw [← hAe]; exact Or.inr h
  have hS : va_S A s.heap s.heap [] := va_S.rf
  have hF : fr [(29, 31)] [] C C := fr_rf
  have hl := lv_entry ([.ref (a 4), .int x1]) (n := 3) (Nat.le_of_ble_eq_true rfl)
  rw [lg_entry_eq]
  generalize (lg_sl ([.ref (a 4), .int x1]) ++ List.replicate (3 - (lg_sl ([.ref (a 4), .int x1])).length) Slot.unset).toArray = ls at hl ⊢
  have hl : lv_has ls 3 [(0, .ref (a 4)), (1, .int x1)] := hl
  refine oh_genQ (fun Q hQ => ?_)
  refine lv_iconst (v := 0) hx hb dX3_dropBridgesFrom_0 (by decide) ?_
  refine lv_istore_n (lv' := [(2, .int 0), (0, .ref (a 4)), (1, .int x1)]) hx hb dX3_dropBridgesFrom_1 rfl hl (by decide) rfl (fun ls hl => ?_)
  have L_2 : ∀ (d : Nat) (K2 : Nat → va_E) (z2_2 : Int32) (H : Heap) (locs : List Loc) (ls : Array Slot), (8 - z2_2.toInt).toNat = d → rg z2_2 0 8 → (∀ S : HZ, absHX C S → absHX K2 (spDr S x1 z2_2.toNatClampNeg)) → TyX a E K2 → fr [(29, 31)] [] C K2 → fr [(29, 31)] [] C K2 → va_P D vwCl (oh_W 35 a K2) H → va_D A (oh_W 35 a K2) → va_S A s.heap H locs → lv_has ls 3 [(2, .int z2_2), (0, .ref (a 4)), (1, .int x1)] → W p l e ({ frames := 1, cells := 0, slots := 0, locals := 22 }) s m (([.ref (a 4), .int x1] : List Value).toArray) below meth c H locs 0 0 Q (F0 m 2 ls []) := by
    intro d
    induction d using Nat.strongRecOn with
    | ind d ih_2 =>
    intro K2 z2_2 H locs ls hd_2 hz2_2 hx_2 hT hF hLF_2 hP hD hS hl
    have t_1 := hT
    refine lv_iload_n hx hb dX3_dropBridgesFrom_2 rfl (lv_at hl 0 rfl) ?_
    refine lv_bipush (v := 8) hx hb dX3_dropBridgesFrom_3 (by decide) ?_
    refine lv_icmp_ge (tgt := 33) hx hb dX3_dropBridgesFrom_5 (by decide) (fun (c_2 : (8 : Int32) ≤ z2_2) => ?_) (fun (c_2 : ¬ ((8 : Int32) ≤ z2_2)) => ?_)
    · rw [hQ]
      exact W.vret hx hb hr (fun t ht hW => ⟨⟨K2, rfl, ⟨hT, hF, (fun S hS0 => by have h7 := hx_2 S hS0; rw [oh_zeq (k := 8) hz2_2 c_2 (by decide)] at h7; exact h7)⟩, ⟨by rw [ht]; exact hP, hD⟩⟩, hS.F ht⟩) hS.2.2 dX3_dropBridgesFrom_33
    · refine lv_aload_n hx hb dX3_dropBridgesFrom_8 rfl (lv_at hl 1 rfl) ?_
      refine va_get (D := D) (ci := 3) (v := .ref (a 29)) (C := RX3) (T := TX3) (N := 3) hx hb htg ig_3 hown hK hP 4 (oh_wg (by decide) (sX_4 hT)) rfl 0 (by decide) (htg _ q_198) (fun _ h9 => h9) rfl dX3_dropBridgesFrom_9 ?_
      refine lv_iload_n hx hb dX3_dropBridgesFrom_12 rfl (lv_at hl 0 rfl) ?_
      have n_3 : vp_in z2_2 8 := (rg_in (rn_ltu (u' := 7) (Int32.not_le.mp c_2) hz2_2 (rg_c (v := 8) (lo := 8) (hi := 8) (by decide)) (by decide)) (by decide))
      refine th_iald hx hb hK hP 29 (by decide) (sX_29 hT) n_3 dX3_dropBridgesFrom_13 ?_
      refine lv_bipush (v := 10) hx hb dX3_dropBridgesFrom_14 (by decide) ?_
      refine lv_iload_n hx hb dX3_dropBridgesFrom_16 rfl (lv_at hl 2 rfl) ?_
      refine lv_iadd hx hb dX3_dropBridgesFrom_17 ?_
      refine lv_icmp_lt (tgt := 27) hx hb dX3_dropBridgesFrom_18 (by decide) (fun (c_4 : (ga (K2 29) (z2_2).toNatClampNeg) < (10 + x1)) => ?_) (fun (c_4 : ¬ ((ga (K2 29) (z2_2).toNatClampNeg) < (10 + x1))) => ?_)
      · refine lv_iinc (v := z2_2 + 1) (lv' := [(2, .int (z2_2 + 1)), (0, .ref (a 4)), (1, .int x1)]) hx hb dX3_dropBridgesFrom_27 hl (k := 0) rfl (by rfl) (by decide) rfl (fun ls hl => ?_)
        refine lv_goto (tgt := 2) hx hb dX3_dropBridgesFrom_30 (by decide) ?_
        exact ih_2 _ (hd_2 ▸ mu_up 8 (rn_ltu (u' := 7) (Int32.not_le.mp c_2) hz2_2 (rg_c (v := 8) (lo := 8) (hi := 8) (by decide)) (by decide)) (by decide)) K2 (z2_2 + 1) _ _ ls rfl (rg_w (rg_add (lo := 1) (hi := 8) (rn_ltu (u' := 7) (Int32.not_le.mp c_2) hz2_2 (rg_c (v := 8) (lo := 8) (hi := 8) (by decide)) (by decide)) (rg_c (v := 1) (lo := 1) (hi := 1) (by decide)) (by decide)) (by decide)) (fun S hS0 => drx_n (hx_2 S hS0) (rg_w (lo := 0) (hi := 7) (rn_ltu (u' := 7) (Int32.not_le.mp c_2) hz2_2 (rg_c (v := 8) (lo := 8) (hi := 8) (by decide)) (by decide)) (by decide)) c_4) hT hF hLF_2 hP hD hS (lv_sub hl [0, 1, 2] rfl)
      · refine lv_aload_n hx hb dX3_dropBridgesFrom_21 rfl (lv_at hl 1 rfl) ?_
        refine lv_iload_n hx hb dX3_dropBridgesFrom_22 rfl (lv_at hl 0 rfl) ?_
        refine lv_iconst (v := (-1)) hx hb dX3_dropBridgesFrom_23 (by decide) ?_
        refine tm_Vv (As := [.int z2_2, .int (-1)]) (rest := []) ⟨hx, hb, hml, hown, htg⟩ (e_X3_putBridge l D E G _ a K2 hT z2_2 ((-1) : Int32) (rg_w (rn_ltu (u' := 7) (Int32.not_le.mp c_2) hz2_2 (rg_c (v := 8) (lo := 8) (hi := 8) (by decide)) (by decide)) (by decide))) (cwV 2 htg (oh_gV q_950 q_371 q_372 q_70 q_373) rfl rfl rfl pdVX3_putBridge ⟨Nat.le_of_ble_eq_true rfl, Nat.le_of_ble_eq_true rfl⟩) hK hP hD hG hS hA (va_recv hK hP (ci := 3) (q0 := 4) rfl (oh_wg (by decide) (sX_4 hT))) rfl hl.1 rfl (Nat.le_of_ble_eq_true rfl) dX3_dropBridgesFrom_24 ⟨Nat.le_of_ble_eq_true rfl, Nat.le_of_ble_eq_true rfl⟩ (fun C_6 H locs hq_7 hP hD hS => ?_)
        obtain ⟨hT, f_8, hq_7⟩ := hq_7
        have hF := fr_tr hF f_8 (by decide) (by decide)
        refine W.widen (k := 0) (n := 0) (Nat.le_refl _) (Nat.le_refl _) ?_
        have t_9 := hT
        refine lv_iinc (v := z2_2 + 1) (lv' := [(2, .int (z2_2 + 1)), (0, .ref (a 4)), (1, .int x1)]) hx hb dX3_dropBridgesFrom_27 hl (k := 0) rfl (by rfl) (by decide) rfl (fun ls hl => ?_)
        refine lv_goto (tgt := 2) hx hb dX3_dropBridgesFrom_30 (by decide) ?_
        exact ih_2 _ (hd_2 ▸ mu_up 8 (rn_ltu (u' := 7) (Int32.not_le.mp c_2) hz2_2 (rg_c (v := 8) (lo := 8) (hi := 8) (by decide)) (by decide)) (by decide)) C_6 (z2_2 + 1) _ _ ls rfl (rg_w (rg_add (lo := 1) (hi := 8) (rn_ltu (u' := 7) (Int32.not_le.mp c_2) hz2_2 (rg_c (v := 8) (lo := 8) (hi := 8) (by decide)) (by decide)) (rg_c (v := 1) (lo := 1) (hi := 1) (by decide)) (by decide)) (by decide)) (fun S hS0 => drx_y (hx_2 S hS0) (rg_w (lo := 0) (hi := 7) (rn_ltu (u' := 7) (Int32.not_le.mp c_2) hz2_2 (rg_c (v := 8) (lo := 8) (hi := 8) (by decide)) (by decide)) (by decide)) (Int32.not_lt.mp c_4) hq_7.1 hq_7.2) hT hF (fr_tr hLF_2 f_8 (by decide) (by decide)) hP hD hS (lv_sub hl [0, 1, 2] rfl)
  exact L_2 _ C 0 _ _ ls rfl (rg_w (rg_c (v := 0) (lo := 0) (hi := 0) (by decide)) (by decide)) (fun S hS0 => by rw [show spDr S x1 (0 : Int32).toNatClampNeg = S from dr_0 S x1]; exact hS0) hT hF fr_rf hP hD hS (lv_sub hl [0, 1, 2] rfl)
set_option maxHeartbeats 4000000 in
set_option maxRecDepth 100000 in
theorem e2_X6_back (l : Launch) (D : va_G) (E : Nat → ClassId) (G : Nat → Nat) (sz : Nat) (a : Nat → Nat) (C : Nat → va_E) (hT : TyX a E C) : Met l yX6_back (oh_w yX6_back cX6_back 1 (some .int)) ({ frames := 2, cells := 0, slots := 0, locals := 44 }) (oh_Pm D E G [.ref (a 0)] (oh_W 35 a C) sz) (va_Qi (fun r (u : Nat → va_E) => TyX a E u ∧ fr [(1, 2), (7, 8), (10, 17), (29, 31)] [] C u ∧ (r = (if gi (C 0) 2 = 0 then (-5) else 1 : Int32)) ∧ ((r = 1 → ∀ A : LA, absX 17 C A → absX 10 u A) ∧ (¬ r = 1 → ∀ k, 10 ≤ k → k ≤ 15 → u k = C k)) ∧ ((r = 1 → ∀ A : LA, absX 17 C A → ∀ S : HZ, absHX C S → absHX u (spDr S (A 5 0 1) 8)) ∧ (¬ r = 1 → ∀ S : HZ, absHX C S → absHX u S))) (oh_B D (va_A (oh_W 35 a C) sz) (fun u => oh_W 35 a u)) (va_A (oh_W 35 a C) sz)) 0 0 (va_A (oh_W 35 a C) sz) := by
  refine Met.ofW (cc := cX6_back) (maxL := 1) (ret := (some .int)) (by decide) rfl ?_
  intro p e s m args below meth c s₁ B hml hv
  obtain ⟨rfl, hsz, hP, hK, hD0, hG⟩ := hv
  have hx := B.exec
  have hb := B.bytes
  have hr := B.returns
  have hts := atoms_spec (ws := (oh_w yX6_back cX6_back 1 (some .int))) B.pre
  have htg : ∀ w ∈ oh_t, w.before _ s = true := fun w h => hts w (List.mem_cons_of_mem _ h)
  have hown : s.vm.findClass RX6 = some m.cls := findClass_of_methodNamed B.named
  have hlocks := B.notSynchronized
  have hT0 := hT
  subst hsz
  have hD := hD0.self (sz := s.heap.size)
  generalize hAe : va_A (oh_W 35 a C) s.heap.size = A at hD hG ⊢
  have hA : ∀ q : Nat, s.heap.size ≤ q → A q := fun q h => by rw [← hAe]; exact Or.inr h
  have hS : va_S A s.heap s.heap [] := va_S.rf
  have hF : fr [(1, 2), (7, 8), (10, 17), (29, 31)] [] C C := fr_rf
  have hl := lv_entry ([.ref (a 0)]) (n := 1) (Nat.le_of_ble_eq_true rfl)
  rw [lg_entry_eq]
  generalize (lg_sl ([.ref (a 0)]) ++ List.replicate (1 - (lg_sl ([.ref (a 0)])).length) Slot.unset).toArray = ls at hl ⊢
  have hl : lv_has ls 1 [(0, .ref (a 0))] := hl
  refine oh_genQ (fun Q hQ => ?_)
  refine lv_aload_n hx hb dX6_back_0 rfl (lv_at hl 0 rfl) ?_
  refine va_get (D := D) (ci := 6) (v := .int (gi (C 0) 2)) (C := RX6) (T := TX6) (N := 9) hx hb htg ig_6 hown hK hP 0 (oh_wg (by decide) (sX_0 hT)) rfl 2 (by decide) (htg _ q_260) (fun _ h9 => h9) rfl dX6_back_1 ?_
  refine lv_if_ne (tgt := 14) hx hb dX6_back_4 (by decide) (fun (c_1 : ¬ ((gi (C 0) 2) = 0)) => ?_) (fun (c_1 : (gi (C 0) 2) = 0) => ?_)
  · refine lv_aload_n hx hb dX6_back_14 rfl (lv_at hl 0 rfl) ?_
    refine va_get (D := D) (ci := 6) (v := .ref (a 1)) (C := RX6) (T := TX6) (N := 9) hx hb htg ig_6 hown hK hP 0 (oh_wg (by decide) (sX_0 hT)) rfl 0 (by decide) (htg _ q_258) (fun _ h9 => h9) rfl dX6_back_15 ?_
    refine lv_aload_n hx hb dX6_back_18 rfl (lv_at hl 0 rfl) ?_
    refine va_get (D := D) (ci := 6) (v := .ref (a 2)) (C := RX6) (T := TX6) (N := 9) hx hb htg ig_6 hown hK hP 0 (oh_wg (by decide) (sX_0 hT)) rfl 1 (by decide) (htg _ q_259) (fun _ h9 => h9) rfl dX6_back_19 ?_
    refine tm_Vv (As := [.ref (a 2)]) (rest := []) ⟨hx, hb, hml, hown, htg⟩ (e_X0_become_b l D E G _ a C hT) (cwV 1 htg (oh_gV q_937 q_938 q_939 q_67 q_940) rfl rfl rfl pdVX0_become ⟨Nat.le_of_ble_eq_true rfl, Nat.le_of_ble_eq_true rfl⟩) hK hP hD hG hS hA (va_recv hK hP (ci := 0) (q0 := 1) rfl (oh_wg (by decide) (sX_1 hT))) rfl hl.1 rfl (Nat.le_of_ble_eq_true rfl) dX6_back_22 ⟨Nat.le_of_ble_eq_true rfl, Nat.le_of_ble_eq_true rfl⟩ (fun C_3 H locs hq_4 hP hD hS => ?_)
    obtain ⟨hT, f_5, hq_4⟩ := hq_4
    have hF := fr_tr hF f_5 (by decide) (by decide)
    refine W.widen (k := 0) (n := 0) (Nat.le_refl _) (Nat.le_refl _) ?_
    have t_6 := hT
    refine lv_aload_n hx hb dX6_back_25 rfl (lv_at hl 0 rfl) ?_
    refine va_get (D := D) (ci := 6) (v := .ref (a 4)) (C := RX6) (T := TX6) (N := 9) hx hb htg ig_6 hown hK hP 0 (oh_wg (by decide) (sX_0 hT)) rfl 4 (by decide) (htg _ q_262) (fun _ h9 => h9) rfl dX6_back_26 ?_
    refine lv_aload_n hx hb dX6_back_29 rfl (lv_at hl 0 rfl) ?_
    refine va_get (D := D) (ci := 6) (v := .ref (a 1)) (C := RX6) (T := TX6) (N := 9) hx hb htg ig_6 hown hK hP 0 (oh_wg (by decide) (sX_0 hT)) rfl 0 (by decide) (htg _ q_258) (fun _ h9 => h9) rfl dX6_back_30 ?_
    refine va_get (D := D) (ci := 0) (v := .ref (a 10)) (C := RX0) (T := TX0) (N := 8) hx hb htg ig_0 hown hK hP 1 (oh_wg (by decide) (sX_1 hT)) rfl 0 (by decide) (htg _ q_100) (fun _ h9 => h9) rfl dX6_back_33 ?_
    refine lv_iconst (v := 1) hx hb dX6_back_36 (by decide) ?_
    refine th_iald hx hb hK hP 10 (by decide) (sX_10 hT) (rg_in (rg_c (v := 1) (lo := 1) (hi := 1) (by decide)) (by decide)) dX6_back_37 ?_
    refine tm_Vv (As := [.int (ga (C_3 10) ((1 : Int32)).toNatClampNeg)]) (rest := []) ⟨hx, hb, hml, hown, htg⟩ (e_X3_dropBridgesFrom l D E G _ a C_3 hT (ga (C_3 10) ((1 : Int32)).toNatClampNeg)) (cwV 1 htg (oh_gV q_946 q_947 q_948 q_70 q_949) rfl rfl rfl pdVX3_dropBridgesFrom ⟨Nat.le_of_ble_eq_true rfl, Nat.le_of_ble_eq_true rfl⟩) hK hP hD hG hS hA (va_recv hK hP (ci := 3) (q0 := 4) rfl (oh_wg (by decide) (sX_4 hT))) rfl hl.1 rfl (Nat.le_of_ble_eq_true rfl) dX6_back_38 ⟨Nat.le_of_ble_eq_true rfl, Nat.le_of_ble_eq_true rfl⟩ (fun C_8 H locs hq_9 hP hD hS => ?_)
    obtain ⟨hT, f_10, hq_9⟩ := hq_9
    have hF := fr_tr hF f_10 (by decide) (by decide)
    refine W.widen (k := 0) (n := 0) (Nat.le_refl _) (Nat.le_refl _) ?_
    have t_11 := hT
    refine lv_iconst (v := 1) hx hb dX6_back_41 (by decide) ?_
    rw [hQ]
    exact W.iret (v := 1) hx hb hr (fun t ht hW => ⟨⟨1, C_8, rfl, ⟨hT, hF, ⟨(if_neg c_1).symm, ⟨fun _ A hA => (absX_eq (hq_4 A hA) (fr_all f_10 10 15 (by decide))), fun h9 => absurd rfl h9⟩, ⟨fun _ A hA S hS0 => by have h1 := hq_4 A hA; have e : ga (C_3 10) ((1 : Int32)).toNatClampNeg = A 5 0 1 := h1.1 1 (by decide); have h2 := hq_9 S (hx_fr hS0 (f_5.1 29 rfl (by decide)) (f_5.1 30 rfl (by decide))); rw [e] at h2; exact hx_fr h2 rfl rfl, fun h9 => absurd rfl h9⟩⟩⟩, ⟨by rw [ht]; exact hP, hD⟩⟩, hS.F ht⟩) hS.2.2 dX6_back_42
  · refine lv_aload_n hx hb dX6_back_7 rfl (lv_at hl 0 rfl) ?_
    refine lv_bipush (v := (-5)) hx hb dX6_back_8 (by decide) ?_
    refine tm_V (As := [.int (-5)]) (rest := []) ⟨hx, hb, hml, hown, htg⟩ (c_X6_refuse l D E G _ a C hT ((-5) : Int32)) (cwV 1 htg (oh_gV q_296 q_298 q_0 q_66 q_299) rfl rfl rfl pdVX6_refuse ⟨Nat.le_of_ble_eq_true rfl, Nat.le_of_ble_eq_true rfl⟩) hK hP hD hG hS hA (va_recv hK hP (ci := 6) (q0 := 0) rfl (oh_wg (by decide) (sX_0 hT))) rfl hl.1 rfl (Nat.le_of_ble_eq_true rfl) dX6_back_10 ⟨Nat.le_of_ble_eq_true rfl, Nat.le_of_ble_eq_true rfl⟩ (fun r_12 C_13 H locs hq_14 hP hD hS => ?_)
    obtain ⟨hT, f_15, hq_14⟩ := hq_14
    have hF := fr_tr hF f_15 (by decide) (by decide)
    refine W.widen (k := 0) (n := 0) (Nat.le_refl _) (Nat.le_refl _) ?_
    have t_16 := hT
    rw [hQ]
    exact W.iret (v := r_12) hx hb hr (fun t ht hW => ⟨⟨r_12, C_13, rfl, ⟨hT, hF, ⟨(Eq.trans hq_14 (if_pos c_1).symm), ⟨fun h9 => absurd (Eq.trans h9.symm hq_14) (by decide), fun _ => (fun k k1 k2 => (fr_all f_15 10 15 (by decide) k k1 k2))⟩, ⟨fun h9 => absurd (Eq.trans h9.symm hq_14) (by decide), fun _ S hS0 => (hx_fr hS0 (f_15.1 29 rfl (by decide)) (f_15.1 30 rfl (by decide)))⟩⟩⟩, ⟨by rw [ht]; exact hP, hD⟩⟩, hS.F ht⟩) hS.2.2 dX6_back_13

/-! EXACT: what the reference's back drops -/
theorem hm_drop {C u : Nat → va_E} {S : HZ} {s : Nat} (h : absHM C S) (e1 : ga (u 1) = upd (ga (C 1)) s 0) (e2 : u 2 = C 2) (e3 : u 3 = C 3) (e6 : u 6 = C 6) : absHM u (upd S.1 s (-1), S.2) := by
  intro a ha
  obtain ⟨g1, g2, g3, g4⟩ := h a ha
  show okH (upd S.1 s (-1) a) ∧ (upd S.1 s (-1) a = -1 → ga (u 1) a = 0) ∧ (rowH (upd S.1 s (-1) a) → ga (u 1) a = 1 ∧ ga (u 2) a = upd S.1 s (-1) a ∧ ga (u 3) a = S.2 a) ∧ ((10 : Int32) ≤ upd S.1 s (-1) a → ga (u 1) a = 2 ∧ 10 + ga (u 6) a = upd S.1 s (-1) a)
  rw [e1, e2, e3, e6]
  by_cases q : a = s
  · rw [q, pk_us, pk_us]
    exact ⟨Or.inl rfl, fun _ => rfl, fun z => absurd rfl z.1, fun z => absurd z (by decide)⟩
  · rw [pk_un q, pk_un q]
    exact ⟨g1, g2, g3, g4⟩
theorem sh_le {g h n : Int32} (hn : rg n 0 24) (e : 10 + g = h) (l : (10 : Int32) ≤ h) : (10 + n ≤ h ↔ n ≤ g) := by
  have eg : g = h - 10 := by rw [← e, Int32.add_comm 10 g, Int32.add_sub_cancel]
  have l2 := Int32.le_iff_toInt_le.mp l
  have e10 : (10 : Int32).toInt = 10 := rfl
  have hb := Int32.toInt_lt h
  have e1 : (h - 10).toInt = h.toInt - 10 := by
    rw [Int32.toInt_sub]
    exact oh_bmod (by omega) (by omega)
  have e2 : (10 + n).toInt = 10 + n.toInt := by
    rw [Int32.toInt_add]
    exact oh_bmod (by have := hn.1; omega) (by have := hn.2; omega)
  rw [eg, Int32.le_iff_toInt_le, Int32.le_iff_toInt_le, e1, e2]
  omega
theorem drm_n {K : Nat → va_E} {S : HZ} {n z : Int32} (h : absHM K (spDr S n z.toNatClampNeg)) (hn : rg n 0 24) (hz : rg z 0 7) (c : ¬ ga (K 1) z.toNatClampNeg = 2 ∨ ga (K 6) z.toNatClampNeg < n) : absHM K (spDr S n (z + 1).toNatClampNeg) := by
  have k := (hm_k h (sh8 hz)).2.2
  have g := (h _ (sh8 hz)).2.2.2
  rw [dr_i] at k g
  rw [z_s8 hz, dr_n (fun q => ?_)]
  · exact h
  · have l : (10 : Int32) ≤ S.1 z.toNatClampNeg := by
      have q2 := Int32.le_iff_toInt_le.mp q
      have e10 : (10 : Int32).toInt = 10 := rfl
      have e2 : (10 + n).toInt = 10 + n.toInt := by
        rw [Int32.toInt_add]
        exact oh_bmod (by have := hn.1; omega) (by have := hn.2; omega)
      have := hn.1
      exact Int32.le_iff_toInt_le.mpr (by omega)
    rcases c with c | c
    · exact c (k.mpr l)
    · exact absurd ((sh_le hn (g l).2 l).mp q) (Int32.not_le.mpr c)
theorem drm_y {K u : Nat → va_E} {S : HZ} {n z : Int32} (h : absHM K (spDr S n z.toNatClampNeg)) (hn : rg n 0 24) (hz : rg z 0 7) (c : ga (K 1) z.toNatClampNeg = 2) (d : n ≤ ga (K 6) z.toNatClampNeg) (e1 : ga (u 1) = upd (ga (K 1)) z.toNatClampNeg 0) (e2 : u 2 = K 2) (e3 : u 3 = K 3) (e6 : u 6 = K 6) : absHM u (spDr S n (z + 1).toNatClampNeg) := by
  have k := (hm_k h (sh8 hz)).2.2
  have g := (h _ (sh8 hz)).2.2.2
  rw [dr_i] at k g
  have l := k.mp c
  rw [z_s8 hz, dr_y ((sh_le hn (g l).2 l).mpr d)]
  exact hm_drop h e1 e2 e3 e6
