/-! EXACT: shelves, the class -/
theorem sh8 {x : Int32} (h : rg x 0 7) : x.toNatClampNeg < 8 := by
  have := oh_nat h (by decide)
  have := h.2
  omega
noncomputable def whyR (f : Nat → Int32) (s : Int32) : Int32 := pif (0 ≤ s ∧ s ≤ 7) (pif ((10 : Int32) ≤ f s.toNatClampNeg) (-3) (pif (f s.toNatClampNeg = -1) (-4) 0)) (-2)
noncomputable def spSet (S : HZ) (s i : Int32) : Int32 := pif (whyR S.1 s = 0) (pif (0 ≤ i ∧ i ≤ S.2 s.toNatClampNeg - 1) 1 (-2)) (whyR S.1 s)
def okCp (S : HZ) (p q i j n : Int32) : Prop := (0 ≤ n ∧ n ≤ 40) ∧ (0 ≤ i ∧ i ≤ S.2 p.toNatClampNeg - n) ∧ (0 ≤ j ∧ j ≤ S.2 q.toNatClampNeg - n)
noncomputable def spCopy (S : HZ) (p q i j n : Int32) : Int32 := pif ((0 ≤ p ∧ p ≤ 7) ∧ (0 ≤ q ∧ q ≤ 7)) (pif ((10 : Int32) ≤ S.1 p.toNatClampNeg ∨ (10 : Int32) ≤ S.1 q.toNatClampNeg ∨ (rowH (S.1 p.toNatClampNeg) ∧ rowH (S.1 q.toNatClampNeg) ∧ ¬ S.1 p.toNatClampNeg = S.1 q.toNatClampNeg)) (-3) (pif (S.1 p.toNatClampNeg = -1 ∨ S.1 q.toNatClampNeg = -1) (-4) (pif (okCp S p q i j n) n (-2)))) (-2)
theorem whyR_x {C : Nat → va_E} {S : HZ} (h : absHX C S) (s : Int32) : whyR (ga (C 29)) s = whyR S.1 s := by
  by_cases q : 0 ≤ s ∧ s ≤ 7
  · have e := (h s.toNatClampNeg (sh8 ⟨Int32.le_iff_toInt_le.mp q.1, Int32.le_iff_toInt_le.mp q.2⟩)).1
    unfold whyR
    rw [e]
  · exact Eq.trans (pif_neg q) (pif_neg q).symm
theorem whyR_0 {f : Nat → Int32} {s : Int32} (h : whyR f s = 0) : (0 ≤ s ∧ s ≤ 7) ∧ rowH (f s.toNatClampNeg) := by
  unfold whyR at h
  by_cases q : 0 ≤ s ∧ s ≤ 7
  · rw [pif_pos q] at h
    refine ⟨q, fun e => ?_, fun e => ?_⟩
    · rw [pif_neg (by rw [e]; decide), pif_pos e] at h
      exact absurd h (by decide)
    · rw [pif_pos e] at h
      exact absurd h (by decide)
  · rw [pif_neg q] at h
    exact absurd h (by decide)

set_option maxHeartbeats 4000000 in
set_option maxRecDepth 100000 in
theorem e_X3_holdsNothing (l : Launch) (D : va_G) (E : Nat → ClassId) (G : Nat → Nat) (a : Nat → Nat) (C : Nat → va_E) (hT : TyX a E C) (x1 : Int32) (hx1 : rg x1 0 7) : Met l yX3_holdsNothing (oh_w yX3_holdsNothing cX3_holdsNothing 2 (some .boolean)) ({ frames := 0, cells := 0, slots := 0, locals := 0 }) (oh_Pp D E G [.ref (a 4), .int x1] (oh_W 35 a C)) (vp_Si (fun r => (r = 0 ∨ r = 1) ∧ (r ≠ 0 → (ga (C 29) (x1).toNatClampNeg = -1)) ∧ (r = 0 → (¬ ga (C 29) (x1).toNatClampNeg = -1)))) 0 0 (fun _ => False) := by
  refine Met.ofW (cc := cX3_holdsNothing) (maxL := 2) (ret := (some .boolean)) (by decide) rfl ?_
  intro p e s m args below meth c s₁ B hml hv
  obtain ⟨rfl, hP, hK, hG⟩ := hv
  have hx := B.exec
  have hb := B.bytes
  have hr := B.returns
  have hts := atoms_spec (ws := (oh_w yX3_holdsNothing cX3_holdsNothing 2 (some .boolean))) B.pre
  have htg : ∀ w ∈ oh_t, w.before _ s = true := fun w h => hts w (List.mem_cons_of_mem _ h)
  have hown : s.vm.findClass RX3 = some m.cls := findClass_of_methodNamed B.named
  have hlocks := B.notSynchronized
  have hT0 := hT
  have hS : va_S (fun _ => False) s.heap s.heap [] := va_S.rf
  have hl := lv_entry ([.ref (a 4), .int x1]) (n := 2) (Nat.le_of_ble_eq_true rfl)
  rw [lg_entry_eq]
  generalize (lg_sl ([.ref (a 4), .int x1]) ++ List.replicate (2 - (lg_sl ([.ref (a 4), .int x1])).length) Slot.unset).toArray = ls at hl ⊢
  have hl : lv_has ls 2 [(0, .ref (a 4)), (1, .int x1)] := hl
  refine oh_genQ (fun Q hQ => ?_)
  refine lv_aload_n hx hb dX3_holdsNothing_0 rfl (lv_at hl 0 rfl) ?_
  refine va_get (D := D) (ci := 3) (v := .ref (a 29)) (C := RX3) (T := TX3) (N := 3) hx hb htg ig_3 hown hK hP 4 (oh_wg (by decide) (sX_4 hT)) rfl 0 (by decide) (htg _ q_198) (fun _ h9 => h9) rfl dX3_holdsNothing_1 ?_
  refine lv_iload_n hx hb dX3_holdsNothing_4 rfl (lv_at hl 1 rfl) ?_
  have n_1 : vp_in x1 8 := (rg_in hx1 (by decide))
  refine th_iald hx hb hK hP 29 (by decide) (sX_29 hT) n_1 dX3_holdsNothing_5 ?_
  refine lv_iconst (v := (-1)) hx hb dX3_holdsNothing_6 (by decide) ?_
  refine lv_icmp_ne (tgt := 14) hx hb dX3_holdsNothing_7 (by decide) (fun (c_2 : ¬ ((ga (C 29) (x1).toNatClampNeg) = (-1))) => ?_) (fun (c_2 : (ga (C 29) (x1).toNatClampNeg) = (-1)) => ?_)
  · refine lv_iconst (v := 0) hx hb dX3_holdsNothing_14 (by decide) ?_
    rw [hQ]
    exact W.zret (v := 0) (ty := .boolean) hx hb hr (by decide) (fun t ht hW => ⟨0, rfl, ⟨(Or.inl rfl), (fun h9 => absurd rfl h9), (fun _ => c_2)⟩, ht⟩) (fun q h => by cases h) dX3_holdsNothing_15
  · refine lv_iconst (v := 1) hx hb dX3_holdsNothing_10 (by decide) ?_
    refine lv_goto (tgt := 15) hx hb dX3_holdsNothing_11 (by decide) ?_
    rw [hQ]
    exact W.zret (v := 1) (ty := .boolean) hx hb hr (by decide) (fun t ht hW => ⟨1, rfl, ⟨(Or.inr rfl), (fun _ => c_2), (fun h9 => absurd h9 (by decide))⟩, ht⟩) (fun q h => by cases h) dX3_holdsNothing_15

set_option maxHeartbeats 4000000 in
set_option maxRecDepth 100000 in
theorem e_X3_holdsBridge (l : Launch) (D : va_G) (E : Nat → ClassId) (G : Nat → Nat) (a : Nat → Nat) (C : Nat → va_E) (hT : TyX a E C) (x1 : Int32) (hx1 : rg x1 0 7) : Met l yX3_holdsBridge (oh_w yX3_holdsBridge cX3_holdsBridge 2 (some .boolean)) ({ frames := 0, cells := 0, slots := 0, locals := 0 }) (oh_Pp D E G [.ref (a 4), .int x1] (oh_W 35 a C)) (vp_Si (fun r => (r = 0 ∨ r = 1) ∧ (r ≠ 0 → ((10 : Int32) ≤ ga (C 29) (x1).toNatClampNeg)) ∧ (r = 0 → (¬ (10 : Int32) ≤ ga (C 29) (x1).toNatClampNeg)))) 0 0 (fun _ => False) := by
  refine Met.ofW (cc := cX3_holdsBridge) (maxL := 2) (ret := (some .boolean)) (by decide) rfl ?_
  intro p e s m args below meth c s₁ B hml hv
  obtain ⟨rfl, hP, hK, hG⟩ := hv
  have hx := B.exec
  have hb := B.bytes
  have hr := B.returns
  have hts := atoms_spec (ws := (oh_w yX3_holdsBridge cX3_holdsBridge 2 (some .boolean))) B.pre
  have htg : ∀ w ∈ oh_t, w.before _ s = true := fun w h => hts w (List.mem_cons_of_mem _ h)
  have hown : s.vm.findClass RX3 = some m.cls := findClass_of_methodNamed B.named
  have hlocks := B.notSynchronized
  have hT0 := hT
  have hS : va_S (fun _ => False) s.heap s.heap [] := va_S.rf
  have hl := lv_entry ([.ref (a 4), .int x1]) (n := 2) (Nat.le_of_ble_eq_true rfl)
  rw [lg_entry_eq]
  generalize (lg_sl ([.ref (a 4), .int x1]) ++ List.replicate (2 - (lg_sl ([.ref (a 4), .int x1])).length) Slot.unset).toArray = ls at hl ⊢
  have hl : lv_has ls 2 [(0, .ref (a 4)), (1, .int x1)] := hl
  refine oh_genQ (fun Q hQ => ?_)
  refine lv_aload_n hx hb dX3_holdsBridge_0 rfl (lv_at hl 0 rfl) ?_
  refine va_get (D := D) (ci := 3) (v := .ref (a 29)) (C := RX3) (T := TX3) (N := 3) hx hb htg ig_3 hown hK hP 4 (oh_wg (by decide) (sX_4 hT)) rfl 0 (by decide) (htg _ q_198) (fun _ h9 => h9) rfl dX3_holdsBridge_1 ?_
  refine lv_iload_n hx hb dX3_holdsBridge_4 rfl (lv_at hl 1 rfl) ?_
  have n_1 : vp_in x1 8 := (rg_in hx1 (by decide))
  refine th_iald hx hb hK hP 29 (by decide) (sX_29 hT) n_1 dX3_holdsBridge_5 ?_
  refine lv_bipush (v := 10) hx hb dX3_holdsBridge_6 (by decide) ?_
  refine lv_icmp_lt (tgt := 15) hx hb dX3_holdsBridge_8 (by decide) (fun (c_2 : (ga (C 29) (x1).toNatClampNeg) < 10) => ?_) (fun (c_2 : ¬ ((ga (C 29) (x1).toNatClampNeg) < 10)) => ?_)
  · refine lv_iconst (v := 0) hx hb dX3_holdsBridge_15 (by decide) ?_
    rw [hQ]
    exact W.zret (v := 0) (ty := .boolean) hx hb hr (by decide) (fun t ht hW => ⟨0, rfl, ⟨(Or.inl rfl), (fun h9 => absurd rfl h9), (fun _ => (Int32.not_le.mpr c_2))⟩, ht⟩) (fun q h => by cases h) dX3_holdsBridge_16
  · refine lv_iconst (v := 1) hx hb dX3_holdsBridge_11 (by decide) ?_
    refine lv_goto (tgt := 16) hx hb dX3_holdsBridge_12 (by decide) ?_
    rw [hQ]
    exact W.zret (v := 1) (ty := .boolean) hx hb hr (by decide) (fun t ht hW => ⟨1, rfl, ⟨(Or.inr rfl), (fun _ => (Int32.not_lt.mp c_2)), (fun h9 => absurd h9 (by decide))⟩, ht⟩) (fun q h => by cases h) dX3_holdsBridge_16

set_option maxHeartbeats 4000000 in
set_option maxRecDepth 100000 in
theorem e_X3_holdsRow (l : Launch) (D : va_G) (E : Nat → ClassId) (G : Nat → Nat) (a : Nat → Nat) (C : Nat → va_E) (hT : TyX a E C) (x1 : Int32) (hx1 : rg x1 0 7) : Met l yX3_holdsRow (oh_w yX3_holdsRow cX3_holdsRow 2 (some .boolean)) ({ frames := 1, cells := 0, slots := 0, locals := 21 }) (oh_Pp D E G [.ref (a 4), .int x1] (oh_W 35 a C)) (vp_Si (fun r => (r = 0 ∨ r = 1) ∧ (r ≠ 0 → (rowH (ga (C 29) (x1).toNatClampNeg))) ∧ (r = 0 → (¬ rowH (ga (C 29) (x1).toNatClampNeg))))) 0 0 (fun _ => False) := by
  refine Met.ofW (cc := cX3_holdsRow) (maxL := 2) (ret := (some .boolean)) (by decide) rfl ?_
  intro p e s m args below meth c s₁ B hml hv
  obtain ⟨rfl, hP, hK, hG⟩ := hv
  have hx := B.exec
  have hb := B.bytes
  have hr := B.returns
  have hts := atoms_spec (ws := (oh_w yX3_holdsRow cX3_holdsRow 2 (some .boolean))) B.pre
  have htg : ∀ w ∈ oh_t, w.before _ s = true := fun w h => hts w (List.mem_cons_of_mem _ h)
  have hown : s.vm.findClass RX3 = some m.cls := findClass_of_methodNamed B.named
  have hlocks := B.notSynchronized
  have hT0 := hT
  have hS : va_S (fun _ => False) s.heap s.heap [] := va_S.rf
  have hl := lv_entry ([.ref (a 4), .int x1]) (n := 2) (Nat.le_of_ble_eq_true rfl)
  rw [lg_entry_eq]
  generalize (lg_sl ([.ref (a 4), .int x1]) ++ List.replicate (2 - (lg_sl ([.ref (a 4), .int x1])).length) Slot.unset).toArray = ls at hl ⊢
  have hl : lv_has ls 2 [(0, .ref (a 4)), (1, .int x1)] := hl
  refine oh_genQ (fun Q hQ => ?_)
  refine lv_aload_n hx hb dX3_holdsRow_0 rfl (lv_at hl 0 rfl) ?_
  refine lv_iload_n hx hb dX3_holdsRow_1 rfl (lv_at hl 1 rfl) ?_
  refine tq_V (As := [.int x1]) (rest := []) (ws := (oh_W 35 a C)) ⟨hx, hb, hml, hown, htg⟩ (e_X3_holdsNothing l D E G a C hT x1 (rg_w hx1 (by decide))) (cwV 1 htg (oh_gV q_339 q_317 q_318 q_70 q_319) rfl rfl rfl pdVX3_holdsNothing ⟨Nat.le_of_ble_eq_true rfl, Nat.le_of_ble_eq_true rfl⟩) hK hP hG hS (va_recv hK hP (ci := 3) (q0 := 4) rfl (oh_wg (by decide) (sX_4 hT))) rfl hl.1 rfl (Nat.le_of_ble_eq_true rfl) dX3_holdsRow_2 ⟨Nat.le_of_ble_eq_true rfl, Nat.le_of_ble_eq_true rfl⟩ (fun r_1 hq_2 => ?_)
  refine lv_if_ne (tgt := 20) hx hb dX3_holdsRow_5 (by decide) (fun (c_3 : ¬ (r_1 = 0)) => ?_) (fun (c_3 : r_1 = 0) => ?_)
  · have u_4 := hq_2.2.1 c_3
    refine lv_iconst (v := 0) hx hb dX3_holdsRow_20 (by decide) ?_
    rw [hQ]
    exact W.zret (v := 0) (ty := .boolean) hx hb hr (by decide) (fun t ht hW => ⟨0, rfl, ⟨(Or.inl rfl), (fun h9 => absurd rfl h9), (fun _ => (fun h8 => h8.1 u_4))⟩, ht⟩) (fun q h => by cases h) dX3_holdsRow_21
  · have u_5 := hq_2.2.2 c_3
    refine lv_aload_n hx hb dX3_holdsRow_8 rfl (lv_at hl 0 rfl) ?_
    refine lv_iload_n hx hb dX3_holdsRow_9 rfl (lv_at hl 1 rfl) ?_
    refine tq_V (As := [.int x1]) (rest := []) (ws := (oh_W 35 a C)) ⟨hx, hb, hml, hown, htg⟩ (e_X3_holdsBridge l D E G a C hT x1 (rg_w hx1 (by decide))) (cwV 1 htg (oh_gV q_340 q_313 q_314 q_70 q_315) rfl rfl rfl pdVX3_holdsBridge ⟨Nat.le_of_ble_eq_true rfl, Nat.le_of_ble_eq_true rfl⟩) hK hP hG hS (va_recv hK hP (ci := 3) (q0 := 4) rfl (oh_wg (by decide) (sX_4 hT))) rfl hl.1 rfl (Nat.le_of_ble_eq_true rfl) dX3_holdsRow_10 ⟨Nat.le_of_ble_eq_true rfl, Nat.le_of_ble_eq_true rfl⟩ (fun r_6 hq_7 => ?_)
    refine lv_if_ne (tgt := 20) hx hb dX3_holdsRow_13 (by decide) (fun (c_8 : ¬ (r_6 = 0)) => ?_) (fun (c_8 : r_6 = 0) => ?_)
    · have u_9 := hq_7.2.1 c_8
      refine lv_iconst (v := 0) hx hb dX3_holdsRow_20 (by decide) ?_
      rw [hQ]
      exact W.zret (v := 0) (ty := .boolean) hx hb hr (by decide) (fun t ht hW => ⟨0, rfl, ⟨(Or.inl rfl), (fun h9 => absurd rfl h9), (fun _ => (fun h8 => h8.2 u_9))⟩, ht⟩) (fun q h => by cases h) dX3_holdsRow_21
    · have u_10 := hq_7.2.2 c_8
      refine lv_iconst (v := 1) hx hb dX3_holdsRow_16 (by decide) ?_
      refine lv_goto (tgt := 21) hx hb dX3_holdsRow_17 (by decide) ?_
      rw [hQ]
      exact W.zret (v := 1) (ty := .boolean) hx hb hr (by decide) (fun t ht hW => ⟨1, rfl, ⟨(Or.inr rfl), (fun _ => ⟨u_5, u_10⟩), (fun h9 => absurd h9 (by decide))⟩, ht⟩) (fun q h => by cases h) dX3_holdsRow_21

set_option maxHeartbeats 4000000 in
set_option maxRecDepth 100000 in
theorem e_X3_holdsUnlikeRows (l : Launch) (D : va_G) (E : Nat → ClassId) (G : Nat → Nat) (a : Nat → Nat) (C : Nat → va_E) (hT : TyX a E C) (x1 : Int32) (x2 : Int32) (hx1 : rg x1 0 7) (hx2 : rg x2 0 7) : Met l yX3_holdsUnlikeRows (oh_w yX3_holdsUnlikeRows cX3_holdsUnlikeRows 3 (some .boolean)) ({ frames := 2, cells := 0, slots := 0, locals := 42 }) (oh_Pp D E G [.ref (a 4), .int x1, .int x2] (oh_W 35 a C)) (vp_Si (fun r => (r = 0 ∨ r = 1) ∧ (r ≠ 0 → (rowH (ga (C 29) (x1).toNatClampNeg) ∧ rowH (ga (C 29) (x2).toNatClampNeg) ∧ ¬ ga (C 29) (x1).toNatClampNeg = ga (C 29) (x2).toNatClampNeg)) ∧ (r = 0 → (¬ (rowH (ga (C 29) (x1).toNatClampNeg) ∧ rowH (ga (C 29) (x2).toNatClampNeg) ∧ ¬ ga (C 29) (x1).toNatClampNeg = ga (C 29) (x2).toNatClampNeg))))) 0 0 (fun _ => False) := by
  refine Met.ofW (cc := cX3_holdsUnlikeRows) (maxL := 3) (ret := (some .boolean)) (by decide) rfl ?_
  intro p e s m args below meth c s₁ B hml hv
  obtain ⟨rfl, hP, hK, hG⟩ := hv
  have hx := B.exec
  have hb := B.bytes
  have hr := B.returns
  have hts := atoms_spec (ws := (oh_w yX3_holdsUnlikeRows cX3_holdsUnlikeRows 3 (some .boolean))) B.pre
  have htg : ∀ w ∈ oh_t, w.before _ s = true := fun w h => hts w (List.mem_cons_of_mem _ h)
  have hown : s.vm.findClass RX3 = some m.cls := findClass_of_methodNamed B.named
  have hlocks := B.notSynchronized
  have hT0 := hT
  have hS : va_S (fun _ => False) s.heap s.heap [] := va_S.rf
  have hl := lv_entry ([.ref (a 4), .int x1, .int x2]) (n := 3) (Nat.le_of_ble_eq_true rfl)
  rw [lg_entry_eq]
  generalize (lg_sl ([.ref (a 4), .int x1, .int x2]) ++ List.replicate (3 - (lg_sl ([.ref (a 4), .int x1, .int x2])).length) Slot.unset).toArray = ls at hl ⊢
  have hl : lv_has ls 3 [(0, .ref (a 4)), (1, .int x1), (2, .int x2)] := hl
  refine oh_genQ (fun Q hQ => ?_)
  refine lv_aload_n hx hb dX3_holdsUnlikeRows_0 rfl (lv_at hl 0 rfl) ?_
  refine lv_iload_n hx hb dX3_holdsUnlikeRows_1 rfl (lv_at hl 1 rfl) ?_
  refine tq_V (As := [.int x1]) (rest := []) (ws := (oh_W 35 a C)) ⟨hx, hb, hml, hown, htg⟩ (e_X3_holdsRow l D E G a C hT x1 (rg_w hx1 (by decide))) (cwV 1 htg (oh_gV q_335 q_336 q_337 q_70 q_338) rfl rfl rfl pdVX3_holdsRow ⟨Nat.le_of_ble_eq_true rfl, Nat.le_of_ble_eq_true rfl⟩) hK hP hG hS (va_recv hK hP (ci := 3) (q0 := 4) rfl (oh_wg (by decide) (sX_4 hT))) rfl hl.1 rfl (Nat.le_of_ble_eq_true rfl) dX3_holdsUnlikeRows_2 ⟨Nat.le_of_ble_eq_true rfl, Nat.le_of_ble_eq_true rfl⟩ (fun r_1 hq_2 => ?_)
  refine lv_if_eq (tgt := 35) hx hb dX3_holdsUnlikeRows_5 (by decide) (fun (c_3 : r_1 = 0) => ?_) (fun (c_3 : ¬ (r_1 = 0)) => ?_)
  · have u_4 := hq_2.2.2 c_3
    refine lv_iconst (v := 0) hx hb dX3_holdsUnlikeRows_35 (by decide) ?_
    rw [hQ]
    exact W.zret (v := 0) (ty := .boolean) hx hb hr (by decide) (fun t ht hW => ⟨0, rfl, ⟨(Or.inl rfl), (fun h9 => absurd rfl h9), (fun _ => (fun h8 => u_4 h8.1))⟩, ht⟩) (fun q h => by cases h) dX3_holdsUnlikeRows_36
  · have u_5 := hq_2.2.1 c_3
    refine lv_aload_n hx hb dX3_holdsUnlikeRows_8 rfl (lv_at hl 0 rfl) ?_
    refine lv_iload_n hx hb dX3_holdsUnlikeRows_9 rfl (lv_at hl 2 rfl) ?_
    refine tq_V (As := [.int x2]) (rest := []) (ws := (oh_W 35 a C)) ⟨hx, hb, hml, hown, htg⟩ (e_X3_holdsRow l D E G a C hT x2 (rg_w hx2 (by decide))) (cwV 1 htg (oh_gV q_335 q_336 q_337 q_70 q_338) rfl rfl rfl pdVX3_holdsRow ⟨Nat.le_of_ble_eq_true rfl, Nat.le_of_ble_eq_true rfl⟩) hK hP hG hS (va_recv hK hP (ci := 3) (q0 := 4) rfl (oh_wg (by decide) (sX_4 hT))) rfl hl.1 rfl (Nat.le_of_ble_eq_true rfl) dX3_holdsUnlikeRows_10 ⟨Nat.le_of_ble_eq_true rfl, Nat.le_of_ble_eq_true rfl⟩ (fun r_6 hq_7 => ?_)
    refine lv_if_eq (tgt := 35) hx hb dX3_holdsUnlikeRows_13 (by decide) (fun (c_8 : r_6 = 0) => ?_) (fun (c_8 : ¬ (r_6 = 0)) => ?_)
    · have u_9 := hq_7.2.2 c_8
      refine lv_iconst (v := 0) hx hb dX3_holdsUnlikeRows_35 (by decide) ?_
      rw [hQ]
      exact W.zret (v := 0) (ty := .boolean) hx hb hr (by decide) (fun t ht hW => ⟨0, rfl, ⟨(Or.inl rfl), (fun h9 => absurd rfl h9), (fun _ => (fun h8 => u_9 h8.2.1))⟩, ht⟩) (fun q h => by cases h) dX3_holdsUnlikeRows_36
    · have u_10 := hq_7.2.1 c_8
      refine lv_aload_n hx hb dX3_holdsUnlikeRows_16 rfl (lv_at hl 0 rfl) ?_
      refine va_get (D := D) (ci := 3) (v := .ref (a 29)) (C := RX3) (T := TX3) (N := 3) hx hb htg ig_3 hown hK hP 4 (oh_wg (by decide) (sX_4 hT)) rfl 0 (by decide) (htg _ q_198) (fun _ h9 => h9) rfl dX3_holdsUnlikeRows_17 ?_
      refine lv_iload_n hx hb dX3_holdsUnlikeRows_20 rfl (lv_at hl 1 rfl) ?_
      have n_11 : vp_in x1 8 := (rg_in hx1 (by decide))
      refine th_iald hx hb hK hP 29 (by decide) (sX_29 hT) n_11 dX3_holdsUnlikeRows_21 ?_
      refine lv_aload_n hx hb dX3_holdsUnlikeRows_22 rfl (lv_at hl 0 rfl) ?_
      refine va_get (D := D) (ci := 3) (v := .ref (a 29)) (C := RX3) (T := TX3) (N := 3) hx hb htg ig_3 hown hK hP 4 (oh_wg (by decide) (sX_4 hT)) rfl 0 (by decide) (htg _ q_198) (fun _ h9 => h9) rfl dX3_holdsUnlikeRows_23 ?_
      refine lv_iload_n hx hb dX3_holdsUnlikeRows_26 rfl (lv_at hl 2 rfl) ?_
      have n_12 : vp_in x2 8 := (rg_in hx2 (by decide))
      refine th_iald hx hb hK hP 29 (by decide) (sX_29 hT) n_12 dX3_holdsUnlikeRows_27 ?_
      refine lv_icmp_eq (tgt := 35) hx hb dX3_holdsUnlikeRows_28 (by decide) (fun (c_13 : (ga (C 29) (x1).toNatClampNeg) = (ga (C 29) (x2).toNatClampNeg)) => ?_) (fun (c_13 : ¬ ((ga (C 29) (x1).toNatClampNeg) = (ga (C 29) (x2).toNatClampNeg))) => ?_)
      · refine lv_iconst (v := 0) hx hb dX3_holdsUnlikeRows_35 (by decide) ?_
        rw [hQ]
        exact W.zret (v := 0) (ty := .boolean) hx hb hr (by decide) (fun t ht hW => ⟨0, rfl, ⟨(Or.inl rfl), (fun h9 => absurd rfl h9), (fun _ => (fun h8 => h8.2.2 c_13))⟩, ht⟩) (fun q h => by cases h) dX3_holdsUnlikeRows_36
      · refine lv_iconst (v := 1) hx hb dX3_holdsUnlikeRows_31 (by decide) ?_
        refine lv_goto (tgt := 36) hx hb dX3_holdsUnlikeRows_32 (by decide) ?_
        rw [hQ]
        exact W.zret (v := 1) (ty := .boolean) hx hb hr (by decide) (fun t ht hW => ⟨1, rfl, ⟨(Or.inr rfl), (fun _ => ⟨u_5, u_10, c_13⟩), (fun h9 => absurd h9 (by decide))⟩, ht⟩) (fun q h => by cases h) dX3_holdsUnlikeRows_36

set_option maxHeartbeats 4000000 in
set_option maxRecDepth 100000 in
theorem e_X6_whyNoRow (l : Launch) (D : va_G) (E : Nat → ClassId) (G : Nat → Nat) (a : Nat → Nat) (C : Nat → va_E) (hT : TyX a E C) (x1 : Int32) : Met l yX6_whyNoRow (oh_w yX6_whyNoRow cX6_whyNoRow 2 (some .int)) ({ frames := 2, cells := 0, slots := 0, locals := 42 }) (oh_Pp D E G [.ref (a 0), .int x1] (oh_W 35 a C)) (vp_Si (fun r => (r = 0 → rg x1 0 7) ∧ (r = whyR (ga (C 29)) x1))) 0 0 (fun _ => False) := by
  refine Met.ofW (cc := cX6_whyNoRow) (maxL := 2) (ret := (some .int)) (by decide) rfl ?_
  intro p e s m args below meth c s₁ B hml hv
  obtain ⟨rfl, hP, hK, hG⟩ := hv
  have hx := B.exec
  have hb := B.bytes
  have hr := B.returns
  have hts := atoms_spec (ws := (oh_w yX6_whyNoRow cX6_whyNoRow 2 (some .int))) B.pre
  have htg : ∀ w ∈ oh_t, w.before _ s = true := fun w h => hts w (List.mem_cons_of_mem _ h)
  have hown : s.vm.findClass RX6 = some m.cls := findClass_of_methodNamed B.named
  have hlocks := B.notSynchronized
  have hT0 := hT
  have hS : va_S (fun _ => False) s.heap s.heap [] := va_S.rf
  have hl := lv_entry ([.ref (a 0), .int x1]) (n := 2) (Nat.le_of_ble_eq_true rfl)
  rw [lg_entry_eq]
  generalize (lg_sl ([.ref (a 0), .int x1]) ++ List.replicate (2 - (lg_sl ([.ref (a 0), .int x1])).length) Slot.unset).toArray = ls at hl ⊢
  have hl : lv_has ls 2 [(0, .ref (a 0)), (1, .int x1)] := hl
  refine oh_genQ (fun Q hQ => ?_)
  refine lv_iload_n hx hb dX6_whyNoRow_0 rfl (lv_at hl 1 rfl) ?_
  refine tq_S (As := [.int x1]) (rest := []) (ws := []) ⟨hx, hb, hml, hown, htg⟩ (c_X6_isShelf l D E G x1) (va_cwS 1 htg (oh_gS q_290 q_291 q_66 q_292) rfl rfl rfl pdX6_isShelf ⟨Nat.le_of_ble_eq_true rfl, Nat.le_of_ble_eq_true rfl⟩) hK va_nil hG hS rfl hl.1 rfl (Nat.le_of_ble_eq_true rfl) dX6_whyNoRow_1 ⟨Nat.le_of_ble_eq_true rfl, Nat.le_of_ble_eq_true rfl⟩ (fun r_1 hq_2 => ?_)
  refine lv_if_ne (tgt := 10) hx hb dX6_whyNoRow_4 (by decide) (fun (c_3 : ¬ (r_1 = 0)) => ?_) (fun (c_3 : r_1 = 0) => ?_)
  · have u_4 := hq_2.2.1 c_3
    refine lv_aload_n hx hb dX6_whyNoRow_10 rfl (lv_at hl 0 rfl) ?_
    refine va_get (D := D) (ci := 6) (v := .ref (a 4)) (C := RX6) (T := TX6) (N := 9) hx hb htg ig_6 hown hK hP 0 (oh_wg (by decide) (sX_0 hT)) rfl 4 (by decide) (htg _ q_262) (fun _ h9 => h9) rfl dX6_whyNoRow_11 ?_
    refine lv_iload_n hx hb dX6_whyNoRow_14 rfl (lv_at hl 1 rfl) ?_
    refine tq_V (As := [.int x1]) (rest := []) (ws := (oh_W 35 a C)) ⟨hx, hb, hml, hown, htg⟩ (e_X3_holdsBridge l D E G a C hT x1 (rg_w u_4 (by decide))) (cwV 1 htg (oh_gV q_312 q_313 q_314 q_70 q_315) rfl rfl rfl pdVX3_holdsBridge ⟨Nat.le_of_ble_eq_true rfl, Nat.le_of_ble_eq_true rfl⟩) hK hP hG hS (va_recv hK hP (ci := 3) (q0 := 4) rfl (oh_wg (by decide) (sX_4 hT))) rfl hl.1 rfl (Nat.le_of_ble_eq_true rfl) dX6_whyNoRow_15 ⟨Nat.le_of_ble_eq_true rfl, Nat.le_of_ble_eq_true rfl⟩ (fun r_5 hq_6 => ?_)
    refine lv_if_eq (tgt := 24) hx hb dX6_whyNoRow_18 (by decide) (fun (c_7 : r_5 = 0) => ?_) (fun (c_7 : ¬ (r_5 = 0)) => ?_)
    · have u_8 := hq_6.2.2 c_7
      refine lv_aload_n hx hb dX6_whyNoRow_24 rfl (lv_at hl 0 rfl) ?_
      refine va_get (D := D) (ci := 6) (v := .ref (a 4)) (C := RX6) (T := TX6) (N := 9) hx hb htg ig_6 hown hK hP 0 (oh_wg (by decide) (sX_0 hT)) rfl 4 (by decide) (htg _ q_262) (fun _ h9 => h9) rfl dX6_whyNoRow_25 ?_
      refine lv_iload_n hx hb dX6_whyNoRow_28 rfl (lv_at hl 1 rfl) ?_
      refine tq_V (As := [.int x1]) (rest := []) (ws := (oh_W 35 a C)) ⟨hx, hb, hml, hown, htg⟩ (e_X3_holdsNothing l D E G a C hT x1 (rg_w u_4 (by decide))) (cwV 1 htg (oh_gV q_316 q_317 q_318 q_70 q_319) rfl rfl rfl pdVX3_holdsNothing ⟨Nat.le_of_ble_eq_true rfl, Nat.le_of_ble_eq_true rfl⟩) hK hP hG hS (va_recv hK hP (ci := 3) (q0 := 4) rfl (oh_wg (by decide) (sX_4 hT))) rfl hl.1 rfl (Nat.le_of_ble_eq_true rfl) dX6_whyNoRow_29 ⟨Nat.le_of_ble_eq_true rfl, Nat.le_of_ble_eq_true rfl⟩ (fun r_9 hq_10 => ?_)
      refine lv_if_eq (tgt := 40) hx hb dX6_whyNoRow_32 (by decide) (fun (c_11 : r_9 = 0) => ?_) (fun (c_11 : ¬ (r_9 = 0)) => ?_)
      · have u_12 := hq_10.2.2 c_11
        refine lv_iconst (v := 0) hx hb dX6_whyNoRow_40 (by decide) ?_
        rw [hQ]
        exact W.iret (v := 0) hx hb hr (fun t ht hW => ⟨0, rfl, ⟨(fun _ => (rg_w u_4 (by decide))), (Eq.trans (pif_pos (oh_rgI (p := 0) (q := 7) (rg_w (lo := 0) (hi := 7) u_4 (by decide)))) (Eq.trans (pif_neg u_8) (pif_neg u_12))).symm⟩, ht⟩) (fun q h => by cases h) dX6_whyNoRow_41
      · have u_13 := hq_10.2.1 c_11
        refine lv_bipush (v := (-4)) hx hb dX6_whyNoRow_35 (by decide) ?_
        refine lv_goto (tgt := 41) hx hb dX6_whyNoRow_37 (by decide) ?_
        rw [hQ]
        exact W.iret (v := (-4)) hx hb hr (fun t ht hW => ⟨(-4), rfl, ⟨(fun h9 => absurd h9 (by decide)), (Eq.trans (pif_pos (oh_rgI (p := 0) (q := 7) (rg_w (lo := 0) (hi := 7) u_4 (by decide)))) (Eq.trans (pif_neg u_8) (pif_pos u_13))).symm⟩, ht⟩) (fun q h => by cases h) dX6_whyNoRow_41
    · have u_14 := hq_6.2.1 c_7
      refine lv_bipush (v := (-3)) hx hb dX6_whyNoRow_21 (by decide) ?_
      rw [hQ]
      exact W.iret (v := (-3)) hx hb hr (fun t ht hW => ⟨(-3), rfl, ⟨(fun h9 => absurd h9 (by decide)), (Eq.trans (pif_pos (oh_rgI (p := 0) (q := 7) (rg_w (lo := 0) (hi := 7) u_4 (by decide)))) (pif_pos u_14)).symm⟩, ht⟩) (fun q h => by cases h) dX6_whyNoRow_23
  · have u_15 := hq_2.2.2 c_3
    refine lv_bipush (v := (-2)) hx hb dX6_whyNoRow_7 (by decide) ?_
    rw [hQ]
    exact W.iret (v := (-2)) hx hb hr (fun t ht hW => ⟨(-2), rfl, ⟨(fun h9 => absurd h9 (by decide)), (pif_neg u_15).symm⟩, ht⟩) (fun q h => by cases h) dX6_whyNoRow_9

set_option maxHeartbeats 4000000 in
set_option maxRecDepth 100000 in
theorem e_X6_holds (l : Launch) (D : va_G) (E : Nat → ClassId) (G : Nat → Nat) (a : Nat → Nat) (C : Nat → va_E) (hT : TyX a E C) (x1 : Int32) : Met l yX6_holds (oh_w yX6_holds cX6_holds 2 (some .int)) ({ frames := 2, cells := 0, slots := 0, locals := 42 }) (oh_Pp D E G [.ref (a 0), .int x1] (oh_W 35 a C)) (vp_Si (fun r => (∀ S : HZ, absHX C S → r = spHolds S x1))) 0 0 (fun _ => False) := by
  refine Met.ofW (cc := cX6_holds) (maxL := 2) (ret := (some .int)) (by decide) rfl ?_
  intro p e s m args below meth c s₁ B hml hv
  obtain ⟨rfl, hP, hK, hG⟩ := hv
  have hx := B.exec
  have hb := B.bytes
  have hr := B.returns
  have hts := atoms_spec (ws := (oh_w yX6_holds cX6_holds 2 (some .int))) B.pre
  have htg : ∀ w ∈ oh_t, w.before _ s = true := fun w h => hts w (List.mem_cons_of_mem _ h)
  have hown : s.vm.findClass RX6 = some m.cls := findClass_of_methodNamed B.named
  have hlocks := B.notSynchronized
  have hT0 := hT
  have hS : va_S (fun _ => False) s.heap s.heap [] := va_S.rf
  have hl := lv_entry ([.ref (a 0), .int x1]) (n := 2) (Nat.le_of_ble_eq_true rfl)
  rw [lg_entry_eq]
  generalize (lg_sl ([.ref (a 0), .int x1]) ++ List.replicate (2 - (lg_sl ([.ref (a 0), .int x1])).length) Slot.unset).toArray = ls at hl ⊢
  have hl : lv_has ls 2 [(0, .ref (a 0)), (1, .int x1)] := hl
  refine oh_genQ (fun Q hQ => ?_)
  refine lv_iload_n hx hb dX6_holds_0 rfl (lv_at hl 1 rfl) ?_
  refine tq_S (As := [.int x1]) (rest := []) (ws := []) ⟨hx, hb, hml, hown, htg⟩ (c_X6_isShelf l D E G x1) (va_cwS 1 htg (oh_gS q_290 q_291 q_66 q_292) rfl rfl rfl pdX6_isShelf ⟨Nat.le_of_ble_eq_true rfl, Nat.le_of_ble_eq_true rfl⟩) hK va_nil hG hS rfl hl.1 rfl (Nat.le_of_ble_eq_true rfl) dX6_holds_1 ⟨Nat.le_of_ble_eq_true rfl, Nat.le_of_ble_eq_true rfl⟩ (fun r_1 hq_2 => ?_)
  refine lv_if_eq (tgt := 19) hx hb dX6_holds_4 (by decide) (fun (c_3 : r_1 = 0) => ?_) (fun (c_3 : ¬ (r_1 = 0)) => ?_)
  · have u_4 := hq_2.2.2 c_3
    refine lv_iconst (v := (-1)) hx hb dX6_holds_19 (by decide) ?_
    rw [hQ]
    exact W.iret (v := (-1)) hx hb hr (fun t ht hW => ⟨(-1), rfl, (fun S hS0 => (pif_neg u_4).symm), ht⟩) (fun q h => by cases h) dX6_holds_20
  · have u_5 := hq_2.2.1 c_3
    refine lv_aload_n hx hb dX6_holds_7 rfl (lv_at hl 0 rfl) ?_
    refine va_get (D := D) (ci := 6) (v := .ref (a 4)) (C := RX6) (T := TX6) (N := 9) hx hb htg ig_6 hown hK hP 0 (oh_wg (by decide) (sX_0 hT)) rfl 4 (by decide) (htg _ q_262) (fun _ h9 => h9) rfl dX6_holds_8 ?_
    refine va_get (D := D) (ci := 3) (v := .ref (a 29)) (C := RX3) (T := TX3) (N := 3) hx hb htg ig_3 hown hK hP 4 (oh_wg (by decide) (sX_4 hT)) rfl 0 (by decide) (htg _ q_199) (fun _ h9 => h9) rfl dX6_holds_11 ?_
    refine lv_iload_n hx hb dX6_holds_14 rfl (lv_at hl 1 rfl) ?_
    have n_6 : vp_in x1 8 := (rg_in u_5 (by decide))
    refine th_iald hx hb hK hP 29 (by decide) (sX_29 hT) n_6 dX6_holds_15 ?_
    refine lv_goto (tgt := 20) hx hb dX6_holds_16 (by decide) ?_
    rw [hQ]
    exact W.iret (v := ga (C 29) (x1).toNatClampNeg) hx hb hr (fun t ht hW => ⟨ga (C 29) (x1).toNatClampNeg, rfl, (fun S hS0 => Eq.trans (hS0 _ (sh8 (rg_w (lo := 0) (hi := 7) u_5 (by decide)))).1 (pif_pos (oh_rgI (p := 0) (q := 7) (rg_w (lo := 0) (hi := 7) u_5 (by decide)))).symm), ht⟩) (fun q h => by cases h) dX6_holds_20
/-! EXACT: shelves, the reference -/
theorem hm_h2 {C : Nat → va_E} {S : HZ} {s : Nat} (h : absHM C S) (hs : s < 8) (n0 : ga (C 1) s ≠ 0) (n1 : ga (C 1) s ≠ 1) : (10 : Int32) ≤ S.1 s := by
  obtain ⟨k0, k1, k2⟩ := hm_k h hs
  rcases (h s hs).1 with g | g | g
  · exact absurd (k0.mpr g) n0
  · exact absurd (k1.mpr (rowH_4 g.1 g.2)) n1
  · exact g
theorem hm_r1 {C : Nat → va_E} {S : HZ} {s : Nat} (h : absHM C S) (hs : s < 8) (n0 : ga (C 1) s ≠ 0) (n2 : ga (C 1) s ≠ 2) : rowH (S.1 s) := by
  obtain ⟨k0, k1, k2⟩ := hm_k h hs
  exact ⟨fun e => n0 (k0.mpr e), fun e => n2 (k2.mpr e)⟩
theorem wm_b {S : HZ} {s : Int32} (q : ¬ (0 ≤ s ∧ s ≤ 7)) : whyR S.1 s = -2 := pif_neg q
theorem wm_2 {C : Nat → va_E} {S : HZ} {s : Int32} (h : absHM C S) (q : 0 ≤ s ∧ s ≤ 7) (k : ga (C 1) s.toNatClampNeg = 2) : whyR S.1 s = -3 := by
  have hs := sh8 ⟨Int32.le_iff_toInt_le.mp q.1, Int32.le_iff_toInt_le.mp q.2⟩
  exact Eq.trans (pif_pos q) (pif_pos ((hm_k h hs).2.2.mp k))
theorem wm_0 {C : Nat → va_E} {S : HZ} {s : Int32} (h : absHM C S) (q : 0 ≤ s ∧ s ≤ 7) (k : ga (C 1) s.toNatClampNeg = 0) : whyR S.1 s = -4 := by
  have hs := sh8 ⟨Int32.le_iff_toInt_le.mp q.1, Int32.le_iff_toInt_le.mp q.2⟩
  have e := (hm_k h hs).1.mp k
  exact Eq.trans (pif_pos q) (Eq.trans (pif_neg (by rw [e]; decide)) (pif_pos e))
theorem wm_1 {C : Nat → va_E} {S : HZ} {s : Int32} (h : absHM C S) (q : 0 ≤ s ∧ s ≤ 7) (n2 : ga (C 1) s.toNatClampNeg ≠ 2) (n0 : ga (C 1) s.toNatClampNeg ≠ 0) : whyR S.1 s = 0 := by
  have hs := sh8 ⟨Int32.le_iff_toInt_le.mp q.1, Int32.le_iff_toInt_le.mp q.2⟩
  have r := hm_r1 h hs n0 n2
  exact Eq.trans (pif_pos q) (Eq.trans (pif_neg r.2) (pif_neg r.1))
theorem ss_n {S : HZ} {s i c : Int32} (e : whyR S.1 s = c) (n : ¬ c = 0) : c = spSet S s i := by
  unfold spSet
  rw [e, pif_neg n]

set_option maxHeartbeats 4000000 in
set_option maxRecDepth 100000 in
theorem e_X7_holds (l : Launch) (D : va_G) (E : Nat → ClassId) (G : Nat → Nat) (a : Nat → Nat) (C : Nat → va_E) (n : Nat) (hn : 74 ≤ n) (hT : TyM a E C) (x1 : Int32) (hR : RelM C) : Met l yX7_holds (oh_w yX7_holds cX7_holds 2 (some .int)) ({ frames := 1, cells := 0, slots := 0, locals := 25 }) (oh_Pp D E G [.ref (a 0), .int x1] (oh_W n a C)) (vp_Si (fun r => (∀ S : HZ, absHM C S → r = spHolds S x1))) 0 0 (fun _ => False) := by
  refine Met.ofW (cc := cX7_holds) (maxL := 2) (ret := (some .int)) (by decide) rfl ?_
  intro p e s m args below meth c s₁ B hml hv
  obtain ⟨rfl, hP, hK, hG⟩ := hv
  have hx := B.exec
  have hb := B.bytes
  have hr := B.returns
  have hts := atoms_spec (ws := (oh_w yX7_holds cX7_holds 2 (some .int))) B.pre
  have htg : ∀ w ∈ oh_t, w.before _ s = true := fun w h => hts w (List.mem_cons_of_mem _ h)
  have hown : s.vm.findClass RX7 = some m.cls := findClass_of_methodNamed B.named
  have hlocks := B.notSynchronized
  have hT0 := hT
  have hS : va_S (fun _ => False) s.heap s.heap [] := va_S.rf
  have hl := lv_entry ([.ref (a 0), .int x1]) (n := 2) (Nat.le_of_ble_eq_true rfl)
  rw [lg_entry_eq]
  generalize (lg_sl ([.ref (a 0), .int x1]) ++ List.replicate (2 - (lg_sl ([.ref (a 0), .int x1])).length) Slot.unset).toArray = ls at hl ⊢
  have hl : lv_has ls 2 [(0, .ref (a 0)), (1, .int x1)] := hl
  refine oh_genQ (fun Q hQ => ?_)
  refine lv_iload_n hx hb dX7_holds_0 rfl (lv_at hl 1 rfl) ?_
  refine lv_i2l (v := Int32.toInt64 x1) hx hb dX7_holds_1 (by rfl) ?_
  refine lv_lconst (v := 0) hx hb dX7_holds_2 (by decide) ?_
  refine lv_ldc2 (v := 7) hx hb hown (htg _ q_1065) dX7_holds_3 ?_
  refine tq_S (As := [.long (Int32.toInt64 x1), .long 0, .long 7]) (rest := []) (ws := []) ⟨hx, hb, hml, hown, htg⟩ (c_X7_in l D E G (Int32.toInt64 x1) (0 : Int64) (7 : Int64)) (va_cwS 3 htg (oh_gS q_1066 q_1067 q_73 q_1068) rfl rfl rfl pdX7_in ⟨Nat.le_of_ble_eq_true rfl, Nat.le_of_ble_eq_true rfl⟩) hK va_nil hG hS rfl hl.1 rfl (Nat.le_of_ble_eq_true rfl) dX7_holds_6 ⟨Nat.le_of_ble_eq_true rfl, Nat.le_of_ble_eq_true rfl⟩ (fun r_1 hq_2 => ?_)
  refine lv_if_eq (tgt := 21) hx hb dX7_holds_9 (by decide) (fun (c_3 : r_1 = 0) => ?_) (fun (c_3 : ¬ (r_1 = 0)) => ?_)
  · have u_4 := hq_2.2.2 c_3
    refine lv_iconst (v := (-1)) hx hb dX7_holds_21 (by decide) ?_
    rw [hQ]
    exact W.iret (v := (-1)) hx hb hr (fun t ht hW => ⟨(-1), rfl, (fun S hS0 => (pif_neg (oh_in64 (l' := 0) (k' := 7) rfl rfl u_4)).symm), ht⟩) (fun q h => by cases h) dX7_holds_22
  · have u_5 := hq_2.2.1 c_3
    refine lv_aload_n hx hb dX7_holds_12 rfl (lv_at hl 0 rfl) ?_
    refine va_get (D := D) (ci := 7) (v := .ref (a 1)) (C := RX7) (T := TX7) (N := 29) hx hb htg ig_7 hown hK hP 0 (oh_wg (Nat.lt_of_lt_of_le (by decide) hn) (sM_0 hT)) rfl 0 (by decide) (htg _ q_973) (fun _ h9 => h9) rfl dX7_holds_13 ?_
    refine lv_iload_n hx hb dX7_holds_16 rfl (lv_at hl 1 rfl) ?_
    have n_6 : vp_in x1 8 := (rg_in (rg_il (rgL_i (rg_il (rnL_leu u_5.2 (rnL_lel u_5.1 (rgL_c (v := 0) (lo := 0) (hi := 0) (by decide)) (rgL_i (rg_any _))) (rgL_c (v := 7) (lo := 7) (hi := 7) (by decide)))))) (by decide))
    refine th_iald hx hb hK hP 1 (Nat.lt_of_lt_of_le (by decide) hn) (sM_1 hT) n_6 dX7_holds_17 ?_
    refine lv_if_ne (tgt := 23) hx hb dX7_holds_18 (by decide) (fun (c_7 : ¬ ((ga (C 1) (x1).toNatClampNeg) = 0)) => ?_) (fun (c_7 : (ga (C 1) (x1).toNatClampNeg) = 0) => ?_)
    · refine lv_aload_n hx hb dX7_holds_23 rfl (lv_at hl 0 rfl) ?_
      refine va_get (D := D) (ci := 7) (v := .ref (a 1)) (C := RX7) (T := TX7) (N := 29) hx hb htg ig_7 hown hK hP 0 (oh_wg (Nat.lt_of_lt_of_le (by decide) hn) (sM_0 hT)) rfl 0 (by decide) (htg _ q_973) (fun _ h9 => h9) rfl dX7_holds_24 ?_
      refine lv_iload_n hx hb dX7_holds_27 rfl (lv_at hl 1 rfl) ?_
      have n_8 : vp_in x1 8 := (rg_in (rg_il (rgL_i (rg_il (rnL_leu u_5.2 (rnL_lel u_5.1 (rgL_c (v := 0) (lo := 0) (hi := 0) (by decide)) (rgL_i (rg_any _))) (rgL_c (v := 7) (lo := 7) (hi := 7) (by decide)))))) (by decide))
      refine th_iald hx hb hK hP 1 (Nat.lt_of_lt_of_le (by decide) hn) (sM_1 hT) n_8 dX7_holds_28 ?_
      refine lv_iconst (v := 1) hx hb dX7_holds_29 (by decide) ?_
      refine lv_icmp_ne (tgt := 42) hx hb dX7_holds_30 (by decide) (fun (c_9 : ¬ ((ga (C 1) (x1).toNatClampNeg) = 1)) => ?_) (fun (c_9 : (ga (C 1) (x1).toNatClampNeg) = 1) => ?_)
      · refine lv_bipush (v := 10) hx hb dX7_holds_42 (by decide) ?_
        refine lv_aload_n hx hb dX7_holds_44 rfl (lv_at hl 0 rfl) ?_
        refine va_get (D := D) (ci := 7) (v := .ref (a 6)) (C := RX7) (T := TX7) (N := 29) hx hb htg ig_7 hown hK hP 0 (oh_wg (Nat.lt_of_lt_of_le (by decide) hn) (sM_0 hT)) rfl 5 (by decide) (htg _ q_978) (fun _ h9 => h9) rfl dX7_holds_45 ?_
        refine lv_iload_n hx hb dX7_holds_48 rfl (lv_at hl 1 rfl) ?_
        have n_10 : vp_in x1 8 := (rg_in (rg_il (rgL_i (rg_il (rnL_leu u_5.2 (rnL_lel u_5.1 (rgL_c (v := 0) (lo := 0) (hi := 0) (by decide)) (rgL_i (rg_any _))) (rgL_c (v := 7) (lo := 7) (hi := 7) (by decide)))))) (by decide))
        refine th_iald hx hb hK hP 6 (Nat.lt_of_lt_of_le (by decide) hn) (sM_6 hT) n_10 dX7_holds_49 ?_
        refine lv_iadd hx hb dX7_holds_50 ?_
        rw [hQ]
        exact W.iret (v := 10 + (ga (C 6) (x1).toNatClampNeg)) hx hb hr (fun t ht hW => ⟨10 + (ga (C 6) (x1).toNatClampNeg), rfl, (fun S hS0 => Eq.trans ((hS0 _ (sh8 (rg_w (lo := 0) (hi := 7) (rg_il (rgL_i (rg_il (rnL_leu u_5.2 (rnL_lel u_5.1 (rgL_c (v := 0) (lo := 0) (hi := 0) (by decide)) (rgL_i (rg_any _))) (rgL_c (v := 7) (lo := 7) (hi := 7) (by decide)))))) (by decide)))).2.2.2 (hm_h2 hS0 (sh8 (rg_w (lo := 0) (hi := 7) (rg_il (rgL_i (rg_il (rnL_leu u_5.2 (rnL_lel u_5.1 (rgL_c (v := 0) (lo := 0) (hi := 0) (by decide)) (rgL_i (rg_any _))) (rgL_c (v := 7) (lo := 7) (hi := 7) (by decide)))))) (by decide))) c_7 c_9)).2 (pif_pos (oh_rgI (p := 0) (q := 7) (rg_w (lo := 0) (hi := 7) (rg_il (rgL_i (rg_il (rnL_leu u_5.2 (rnL_lel u_5.1 (rgL_c (v := 0) (lo := 0) (hi := 0) (by decide)) (rgL_i (rg_any _))) (rgL_c (v := 7) (lo := 7) (hi := 7) (by decide)))))) (by decide)))).symm), ht⟩) (fun q h => by cases h) dX7_holds_51
      · refine lv_aload_n hx hb dX7_holds_33 rfl (lv_at hl 0 rfl) ?_
        refine va_get (D := D) (ci := 7) (v := .ref (a 2)) (C := RX7) (T := TX7) (N := 29) hx hb htg ig_7 hown hK hP 0 (oh_wg (Nat.lt_of_lt_of_le (by decide) hn) (sM_0 hT)) rfl 1 (by decide) (htg _ q_974) (fun _ h9 => h9) rfl dX7_holds_34 ?_
        refine lv_iload_n hx hb dX7_holds_37 rfl (lv_at hl 1 rfl) ?_
        have n_11 : vp_in x1 8 := (rg_in (rg_il (rgL_i (rg_il (rnL_leu u_5.2 (rnL_lel u_5.1 (rgL_c (v := 0) (lo := 0) (hi := 0) (by decide)) (rgL_i (rg_any _))) (rgL_c (v := 7) (lo := 7) (hi := 7) (by decide)))))) (by decide))
        refine th_iald hx hb hK hP 2 (Nat.lt_of_lt_of_le (by decide) hn) (sM_2 hT) n_11 dX7_holds_38 ?_
        refine lv_goto (tgt := 51) hx hb dX7_holds_39 (by decide) ?_
        rw [hQ]
        exact W.iret (v := ga (C 2) (x1).toNatClampNeg) hx hb hr (fun t ht hW => ⟨ga (C 2) (x1).toNatClampNeg, rfl, (fun S hS0 => Eq.trans ((hS0 _ (sh8 (rg_w (lo := 0) (hi := 7) (rg_il (rgL_i (rg_il (rnL_leu u_5.2 (rnL_lel u_5.1 (rgL_c (v := 0) (lo := 0) (hi := 0) (by decide)) (rgL_i (rg_any _))) (rgL_c (v := 7) (lo := 7) (hi := 7) (by decide)))))) (by decide)))).2.2.1 ((hm_k hS0 (sh8 (rg_w (lo := 0) (hi := 7) (rg_il (rgL_i (rg_il (rnL_leu u_5.2 (rnL_lel u_5.1 (rgL_c (v := 0) (lo := 0) (hi := 0) (by decide)) (rgL_i (rg_any _))) (rgL_c (v := 7) (lo := 7) (hi := 7) (by decide)))))) (by decide)))).2.1.mp c_9)).2.1 (pif_pos (oh_rgI (p := 0) (q := 7) (rg_w (lo := 0) (hi := 7) (rg_il (rgL_i (rg_il (rnL_leu u_5.2 (rnL_lel u_5.1 (rgL_c (v := 0) (lo := 0) (hi := 0) (by decide)) (rgL_i (rg_any _))) (rgL_c (v := 7) (lo := 7) (hi := 7) (by decide)))))) (by decide)))).symm), ht⟩) (fun q h => by cases h) dX7_holds_51
    · refine lv_iconst (v := (-1)) hx hb dX7_holds_21 (by decide) ?_
      rw [hQ]
      exact W.iret (v := (-1)) hx hb hr (fun t ht hW => ⟨(-1), rfl, (fun S hS0 => Eq.trans ((hm_k hS0 (sh8 (rg_w (lo := 0) (hi := 7) (rg_il (rgL_i (rg_il (rnL_leu u_5.2 (rnL_lel u_5.1 (rgL_c (v := 0) (lo := 0) (hi := 0) (by decide)) (rgL_i (rg_any _))) (rgL_c (v := 7) (lo := 7) (hi := 7) (by decide)))))) (by decide)))).1.mp c_7).symm (pif_pos (oh_rgI (p := 0) (q := 7) (rg_w (lo := 0) (hi := 7) (rg_il (rgL_i (rg_il (rnL_leu u_5.2 (rnL_lel u_5.1 (rgL_c (v := 0) (lo := 0) (hi := 0) (by decide)) (rgL_i (rg_any _))) (rgL_c (v := 7) (lo := 7) (hi := 7) (by decide)))))) (by decide)))).symm), ht⟩) (fun q h => by cases h) dX7_holds_22
/-! EXACT: the reference's copy -/
theorem cp_i {n z i : Int32} (hz : rg z 0 40) (hn : 0 ≤ n ∧ n ≤ 40) (hi : 0 ≤ i ∧ i ≤ z - n) : n ≤ z := by
  have a := Int32.le_iff_toInt_le.mp hn.1
  have b := Int32.le_iff_toInt_le.mp hn.2
  have c := Int32.le_iff_toInt_le.mp hi.1
  have d := Int32.le_iff_toInt_le.mp hi.2
  have e0 : (0 : Int32).toInt = 0 := rfl
  have e40 : (40 : Int32).toInt = 40 := rfl
  have e : (z - n).toInt = z.toInt - n.toInt := by
    rw [Int32.toInt_sub]
    exact oh_bmod (by have := hz.1; omega) (by have := hz.2; omega)
  exact Int32.le_iff_toInt_le.mpr (by omega)
theorem cp_40 {n z : Int32} (hz : rg z 0 40) (h : n ≤ z) : n ≤ 40 := Int32.le_trans h (Int32.le_iff_toInt_le.mpr hz.2)
noncomputable def cpTop (S : HZ) (p q : Int32) : Prop := (10 : Int32) ≤ S.1 p.toNatClampNeg ∨ (10 : Int32) ≤ S.1 q.toNatClampNeg ∨ (rowH (S.1 p.toNatClampNeg) ∧ rowH (S.1 q.toNatClampNeg) ∧ ¬ S.1 p.toNatClampNeg = S.1 q.toNatClampNeg)
theorem cp_top {S : HZ} {p q i j n : Int32} (h : (0 ≤ p ∧ p ≤ 7) ∧ (0 ≤ q ∧ q ≤ 7)) (t : cpTop S p q) : (-3 : Int32) = spCopy S p q i j n := (Eq.trans (pif_pos h) (pif_pos t)).symm
theorem cp_non {S : HZ} {p q i j n : Int32} (h : (0 ≤ p ∧ p ≤ 7) ∧ (0 ≤ q ∧ q ≤ 7)) (t : ¬ cpTop S p q) (e : S.1 p.toNatClampNeg = -1 ∨ S.1 q.toNatClampNeg = -1) : (-4 : Int32) = spCopy S p q i j n := (Eq.trans (pif_pos h) (Eq.trans (pif_neg t) (pif_pos e))).symm
theorem cp_bad {S : HZ} {p q i j n : Int32} (h : (0 ≤ p ∧ p ≤ 7) ∧ (0 ≤ q ∧ q ≤ 7)) (t : ¬ cpTop S p q) (e : ¬ (S.1 p.toNatClampNeg = -1 ∨ S.1 q.toNatClampNeg = -1)) (k : ¬ okCp S p q i j n) : (-2 : Int32) = spCopy S p q i j n := (Eq.trans (pif_pos h) (Eq.trans (pif_neg t) (Eq.trans (pif_neg e) (pif_neg k)))).symm
theorem cp_ok {S : HZ} {p q i j n : Int32} (h : (0 ≤ p ∧ p ≤ 7) ∧ (0 ≤ q ∧ q ≤ 7)) (t : ¬ cpTop S p q) (e : ¬ (S.1 p.toNatClampNeg = -1 ∨ S.1 q.toNatClampNeg = -1)) (k : okCp S p q i j n) : n = spCopy S p q i j n := (Eq.trans (pif_pos h) (Eq.trans (pif_neg t) (Eq.trans (pif_neg e) (pif_pos k)))).symm
theorem hm_s {C : Nat → va_E} {S : HZ} {s : Nat} (h : absHM C S) (hs : s < 8) (r : rowH (S.1 s)) : ga (C 2) s = S.1 s ∧ ga (C 3) s = S.2 s := ((h s hs).2.2.1 r).2
theorem cp_nt {C : Nat → va_E} {S : HZ} {p q : Int32} (h : absHM C S) (hp : p.toNatClampNeg < 8) (hq : q.toNatClampNeg < 8) (a : ¬ ga (C 1) p.toNatClampNeg = 2) (b : ¬ ga (C 1) q.toNatClampNeg = 2) (c : ¬ ga (C 1) p.toNatClampNeg = 1 ∨ ¬ ga (C 1) q.toNatClampNeg = 1 ∨ ga (C 2) p.toNatClampNeg = ga (C 2) q.toNatClampNeg) : ¬ cpTop S p q := by
  rintro (x | x | ⟨x, y, z⟩)
  · exact a ((hm_k h hp).2.2.mpr x)
  · exact b ((hm_k h hq).2.2.mpr x)
  · rcases c with c | c | c
    · exact c ((hm_k h hp).2.1.mpr x)
    · exact c ((hm_k h hq).2.1.mpr y)
    · exact z (by rw [← (hm_s h hp x).1, ← (hm_s h hq y).1]; exact c)
theorem cp_ne {C : Nat → va_E} {S : HZ} {p q : Int32} (h : absHM C S) (hp : p.toNatClampNeg < 8) (hq : q.toNatClampNeg < 8) (a : ¬ ga (C 1) p.toNatClampNeg = 0) (b : ¬ ga (C 1) q.toNatClampNeg = 0) : ¬ (S.1 p.toNatClampNeg = -1 ∨ S.1 q.toNatClampNeg = -1) := by
  rintro (x | x)
  · exact a ((hm_k h hp).1.mpr x)
  · exact b ((hm_k h hq).1.mpr x)
theorem cp_sz {C : Nat → va_E} {S : HZ} {p q i j n : Int32} (h : absHM C S) (hp : p.toNatClampNeg < 8) (hq : q.toNatClampNeg < 8) (a : ¬ ga (C 1) p.toNatClampNeg = 2) (b : ¬ ga (C 1) q.toNatClampNeg = 2) (a0 : ¬ ga (C 1) p.toNatClampNeg = 0) (b0 : ¬ ga (C 1) q.toNatClampNeg = 0) : okCp S p q i j n ↔ (0 ≤ n ∧ n ≤ 40) ∧ (0 ≤ i ∧ i ≤ ga (C 3) p.toNatClampNeg - n) ∧ (0 ≤ j ∧ j ≤ ga (C 3) q.toNatClampNeg - n) := by
  unfold okCp
  rw [(hm_s h hp (hm_r1 h hp a0 a)).2, (hm_s h hq (hm_r1 h hq b0 b)).2]
/-! EXACT: what back drops -/
noncomputable def spDr (S : HZ) (n : Int32) (i : Nat) : HZ := (fun s => pif (s < i ∧ 10 + n ≤ S.1 s) (-1) (S.1 s), S.2)
theorem dr_0 (S : HZ) (n : Int32) : spDr S n 0 = S := by
  show (fun s => pif (s < 0 ∧ 10 + n ≤ S.1 s) (-1) (S.1 s), S.2) = S
  have e : (fun s => pif (s < 0 ∧ 10 + n ≤ S.1 s) (-1) (S.1 s)) = S.1 := funext (fun s => pif_neg (fun h => absurd h.1 (Nat.not_lt_zero s)))
  rw [e]
theorem dr_i (S : HZ) (n : Int32) (i : Nat) : (spDr S n i).1 i = S.1 i := pif_neg (fun h => absurd h.1 (Nat.lt_irrefl i))
theorem dr_y {S : HZ} {n : Int32} {i : Nat} (h : 10 + n ≤ S.1 i) : spDr S n (i + 1) = (upd (spDr S n i).1 i (-1), (spDr S n i).2) := by
  have e : (spDr S n (i + 1)).1 = upd (spDr S n i).1 i (-1) := funext (fun s => by
    by_cases q : s = i
    · rw [q, pk_us]
      exact pif_pos ⟨Nat.lt_succ_self i, h⟩
    · rw [pk_un q]
      by_cases w : s < i ∧ 10 + n ≤ S.1 s
      · exact Eq.trans (pif_pos ⟨by omega, w.2⟩) (pif_pos w).symm
      · exact Eq.trans (pif_neg (fun z => w ⟨by omega, z.2⟩)) (pif_neg w).symm)
  rw [← e]
  rfl
theorem dr_n {S : HZ} {n : Int32} {i : Nat} (h : ¬ 10 + n ≤ S.1 i) : spDr S n (i + 1) = spDr S n i := by
  have e : (spDr S n (i + 1)).1 = (spDr S n i).1 := funext (fun s => by
    by_cases w : s < i ∧ 10 + n ≤ S.1 s
    · exact Eq.trans (pif_pos ⟨by omega, w.2⟩) (pif_pos w).symm
    · refine Eq.trans (pif_neg (fun z => ?_)) (pif_neg w).symm
      by_cases q : s = i
      · rw [q] at z
        exact h z.2
      · exact w ⟨by omega, z.2⟩)
  show ((spDr S n (i + 1)).1, S.2) = ((spDr S n i).1, S.2)
  rw [e]
theorem z_s8 {z : Int32} (h : rg z 0 7) : (z + 1).toNatClampNeg = z.toNatClampNeg + 1 := by
  have e2 : (z + 1).toInt = z.toInt + 1 := by
    rw [Int32.toInt_add]
    exact oh_bmod (by show _ ≤ z.toInt + 1; have := h.1; omega) (by show z.toInt + 1 ≤ _; have := h.2; omega)
  have a := oh_nat h (by decide)
  have b := oh_nat (i := z + 1) (l := 0) (u := 8) ⟨by rw [e2]; have := h.1; omega, by rw [e2]; have := h.2; omega⟩ (by decide)
  omega
theorem drx_n {K : Nat → va_E} {S : HZ} {n z : Int32} (h : absHX K (spDr S n z.toNatClampNeg)) (hz : rg z 0 7) (c : ga (K 29) z.toNatClampNeg < 10 + n) : absHX K (spDr S n (z + 1).toNatClampNeg) := by
  have e := (h _ (sh8 hz)).1
  rw [dr_i] at e
  rw [z_s8 hz, dr_n (by rw [← e]; exact Int32.not_le.mpr c)]
  exact h
theorem drx_y {K u : Nat → va_E} {S : HZ} {n z m : Int32} (h : absHX K (spDr S n z.toNatClampNeg)) (hz : rg z 0 7) (c : 10 + n ≤ ga (K 29) z.toNatClampNeg) (e29 : ga (u 29) = upd (ga (K 29)) z.toNatClampNeg (cdB (-1))) (e30 : ga (u 30) = upd (ga (K 30)) z.toNatClampNeg m) : absHX u (spDr S n (z + 1).toNatClampNeg) := by
  have e := (h _ (sh8 hz)).1
  rw [dr_i] at e
  have f : cdB (-1) = -1 := pif_pos rfl
  rw [f] at e29
  rw [z_s8 hz, dr_y (by rw [← e]; exact c)]
  exact hx_put h (Or.inl rfl) (fun q => q.1 rfl) e29 e30

set_option maxHeartbeats 4000000 in
set_option maxRecDepth 100000 in
theorem e_X3_dropBridgesFrom (l : Launch) (D : va_G) (E : Nat → ClassId) (G : Nat → Nat) (sz : Nat) (a : Nat → Nat) (C : Nat → va_E) (hT : TyX a E C) (x1 : Int32) : Met l yX3_dropBridgesFrom (oh_w yX3_dropBridgesFrom cX3_dropBridgesFrom 3 none) ({ frames := 1, cells := 0, slots := 0, locals := 22 }) (oh_Pm D E G [.ref (a 4), .int x1] (oh_W 35 a C) sz) (va_Qv (fun (u : Nat → va_E) => TyX a E u ∧ fr [(29, 31)] [] C u ∧ (∀ S : HZ, absHX C S → absHX u (spDr S x1 8))) (oh_B D (va_A (oh_W 35 a C) sz) (fun u => oh_W 35 a u)) (va_A (oh_W 35 a C) sz)) 0 0 (va_A (oh_W 35 a C) sz) := by
  refine Met.ofW (cc := cX3_dropBridgesFrom) (maxL := 3) (ret := none) (by decide) rfl ?_
  intro p e s m args below meth c s₁ B hml hv
  obtain ⟨rfl, hsz, hP, hK, hD0, hG⟩ := hv
  have hx := B.exec
  have hb := B.bytes
  have hr := B.returns
  have hts := atoms_spec (ws := (oh_w yX3_dropBridgesFrom cX3_dropBridgesFrom 3 none)) B.pre
  have htg : ∀ w ∈ oh_t, w.before _ s = true := fun w h => hts w (List.mem_cons_of_mem _ h)
  have hown : s.vm.findClass RX3 = some m.cls := findClass_of_methodNamed B.named
  have hlocks := B.notSynchronized
  have hT0 := hT
  subst hsz
  have hD := hD0.self (sz := s.heap.size)
  generalize hAe : va_A (oh_W 35 a C) s.heap.size = A at hD hG ⊢
  have hA : ∀ q : Nat, s.heap.size ≤ q → A q := fun q h => by rw [← hAe]; exact Or.inr h
  have hS : va_S A s.heap s.heap [] := va_S.rf
  have hF : fr [(29, 31)] [] C C := fr_rf
  have hl := lv_entry ([.ref (a 4), .int x1]) (n := 3) (Nat.le_of_ble_eq_true rfl)
  rw [lg_entry_eq]
  generalize (lg_sl ([.ref (a 4), .int x1]) ++ List.replicate (3 - (lg_sl ([.ref (a 4), .int x1])).length) Slot.unset).toArray = ls at hl ⊢
  have hl : lv_has ls 3 [(0, .ref (a 4)), (1, .int x1)] := hl
  refine oh_genQ (fun Q hQ => ?_)
  refine lv_iconst (v := 0) hx hb dX3_dropBridgesFrom_0 (by decide) ?_
  refine lv_istore_n (lv' := [(2, .int 0), (0, .ref (a 4)), (1, .int x1)]) hx hb dX3_dropBridgesFrom_1 rfl hl (by decide) rfl (fun ls hl => ?_)
  have L_2 : ∀ (d : Nat) (K2 : Nat → va_E) (z2_2 : Int32) (H : Heap) (locs : List Loc) (ls : Array Slot), (8 - z2_2.toInt).toNat = d → rg z2_2 0 8 → (∀ S : HZ, absHX C S → absHX K2 (spDr S x1 z2_2.toNatClampNeg)) → TyX a E K2 → fr [(29, 31)] [] C K2 → fr [(29, 31)] [] C K2 → va_P D vwCl (oh_W 35 a K2) H → va_D A (oh_W 35 a K2) → va_S A s.heap H locs → lv_has ls 3 [(2, .int z2_2), (0, .ref (a 4)), (1, .int x1)] → W p l e ({ frames := 1, cells := 0, slots := 0, locals := 22 }) s m (([.ref (a 4), .int x1] : List Value).toArray) below meth c H locs 0 0 Q (F0 m 2 ls []) := by
    intro d
    induction d using Nat.strongRecOn with
    | ind d ih_2 =>
    intro K2 z2_2 H locs ls hd_2 hz2_2 hx_2 hT hF hLF_2 hP hD hS hl
    have t_1 := hT
    refine lv_iload_n hx hb dX3_dropBridgesFrom_2 rfl (lv_at hl 0 rfl) ?_
    refine lv_bipush (v := 8) hx hb dX3_dropBridgesFrom_3 (by decide) ?_
    refine lv_icmp_ge (tgt := 33) hx hb dX3_dropBridgesFrom_5 (by decide) (fun (c_2 : (8 : Int32) ≤ z2_2) => ?_) (fun (c_2 : ¬ ((8 : Int32) ≤ z2_2)) => ?_)
    · rw [hQ]
      exact W.vret hx hb hr (fun t ht hW => ⟨⟨K2, rfl, ⟨hT, hF, (fun S hS0 => by have h7 := hx_2 S hS0; rw [oh_zeq (k := 8) hz2_2 c_2 (by decide)] at h7; exact h7)⟩, ⟨by rw [ht]; exact hP, hD⟩⟩, hS.F ht⟩) hS.2.2 dX3_dropBridgesFrom_33
    · refine lv_aload_n hx hb dX3_dropBridgesFrom_8 rfl (lv_at hl 1 rfl) ?_
      refine va_get (D := D) (ci := 3) (v := .ref (a 29)) (C := RX3) (T := TX3) (N := 3) hx hb htg ig_3 hown hK hP 4 (oh_wg (by decide) (sX_4 hT)) rfl 0 (by decide) (htg _ q_198) (fun _ h9 => h9) rfl dX3_dropBridgesFrom_9 ?_
      refine lv_iload_n hx hb dX3_dropBridgesFrom_12 rfl (lv_at hl 0 rfl) ?_
      have n_3 : vp_in z2_2 8 := (rg_in (rn_ltu (u' := 7) (Int32.not_le.mp c_2) hz2_2 (rg_c (v := 8) (lo := 8) (hi := 8) (by decide)) (by decide)) (by decide))
      refine th_iald hx hb hK hP 29 (by decide) (sX_29 hT) n_3 dX3_dropBridgesFrom_13 ?_
      refine lv_bipush (v := 10) hx hb dX3_dropBridgesFrom_14 (by decide) ?_
      refine lv_iload_n hx hb dX3_dropBridgesFrom_16 rfl (lv_at hl 2 rfl) ?_
      refine lv_iadd hx hb dX3_dropBridgesFrom_17 ?_
      refine lv_icmp_lt (tgt := 27) hx hb dX3_dropBridgesFrom_18 (by decide) (fun (c_4 : (ga (K2 29) (z2_2).toNatClampNeg) < (10 + x1)) => ?_) (fun (c_4 : ¬ ((ga (K2 29) (z2_2).toNatClampNeg) < (10 + x1))) => ?_)
      · refine lv_iinc (v := z2_2 + 1) (lv' := [(2, .int (z2_2 + 1)), (0, .ref (a 4)), (1, .int x1)]) hx hb dX3_dropBridgesFrom_27 hl (k := 0) rfl (by rfl) (by decide) rfl (fun ls hl => ?_)
        refine lv_goto (tgt := 2) hx hb dX3_dropBridgesFrom_30 (by decide) ?_
        exact ih_2 _ (hd_2 ▸ mu_up 8 (rn_ltu (u' := 7) (Int32.not_le.mp c_2) hz2_2 (rg_c (v := 8) (lo := 8) (hi := 8) (by decide)) (by decide)) (by decide)) K2 (z2_2 + 1) _ _ ls rfl (rg_w (rg_add (lo := 1) (hi := 8) (rn_ltu (u' := 7) (Int32.not_le.mp c_2) hz2_2 (rg_c (v := 8) (lo := 8) (hi := 8) (by decide)) (by decide)) (rg_c (v := 1) (lo := 1) (hi := 1) (by decide)) (by decide)) (by decide)) (fun S hS0 => drx_n (hx_2 S hS0) (rg_w (lo := 0) (hi := 7) (rn_ltu (u' := 7) (Int32.not_le.mp c_2) hz2_2 (rg_c (v := 8) (lo := 8) (hi := 8) (by decide)) (by decide)) (by decide)) c_4) hT hF hLF_2 hP hD hS (lv_sub hl [0, 1, 2] rfl)
      · refine lv_aload_n hx hb dX3_dropBridgesFrom_21 rfl (lv_at hl 1 rfl) ?_
        refine lv_iload_n hx hb dX3_dropBridgesFrom_22 rfl (lv_at hl 0 rfl) ?_
        refine lv_iconst (v := (-1)) hx hb dX3_dropBridgesFrom_23 (by decide) ?_
        refine tm_Vv (As := [.int z2_2, .int (-1)]) (rest := []) ⟨hx, hb, hml, hown, htg⟩ (e_X3_putBridge l D E G _ a K2 hT z2_2 ((-1) : Int32) (rg_w (rn_ltu (u' := 7) (Int32.not_le.mp c_2) hz2_2 (rg_c (v := 8) (lo := 8) (hi := 8) (by decide)) (by decide)) (by decide))) (cwV 2 htg (oh_gV q_950 q_371 q_372 q_70 q_373) rfl rfl rfl pdVX3_putBridge ⟨Nat.le_of_ble_eq_true rfl, Nat.le_of_ble_eq_true rfl⟩) hK hP hD hG hS hA (va_recv hK hP (ci := 3) (q0 := 4) rfl (oh_wg (by decide) (sX_4 hT))) rfl hl.1 rfl (Nat.le_of_ble_eq_true rfl) dX3_dropBridgesFrom_24 ⟨Nat.le_of_ble_eq_true rfl, Nat.le_of_ble_eq_true rfl⟩ (fun C_6 H locs hq_7 hP hD hS => ?_)
        obtain ⟨hT, f_8, hq_7⟩ := hq_7
        have hF := fr_tr hF f_8 (by decide) (by decide)
        refine W.widen (k := 0) (n := 0) (Nat.le_refl _) (Nat.le_refl _) ?_
        have t_9 := hT
        refine lv_iinc (v := z2_2 + 1) (lv' := [(2, .int (z2_2 + 1)), (0, .ref (a 4)), (1, .int x1)]) hx hb dX3_dropBridgesFrom_27 hl (k := 0) rfl (by rfl) (by decide) rfl (fun ls hl => ?_)
        refine lv_goto (tgt := 2) hx hb dX3_dropBridgesFrom_30 (by decide) ?_
        exact ih_2 _ (hd_2 ▸ mu_up 8 (rn_ltu (u' := 7) (Int32.not_le.mp c_2) hz2_2 (rg_c (v := 8) (lo := 8) (hi := 8) (by decide)) (by decide)) (by decide)) C_6 (z2_2 + 1) _ _ ls rfl (rg_w (rg_add (lo := 1) (hi := 8) (rn_ltu (u' := 7) (Int32.not_le.mp c_2) hz2_2 (rg_c (v := 8) (lo := 8) (hi := 8) (by decide)) (by decide)) (rg_c (v := 1) (lo := 1) (hi := 1) (by decide)) (by decide)) (by decide)) (fun S hS0 => drx_y (hx_2 S hS0) (rg_w (lo := 0) (hi := 7) (rn_ltu (u' := 7) (Int32.not_le.mp c_2) hz2_2 (rg_c (v := 8) (lo := 8) (hi := 8) (by decide)) (by decide)) (by decide)) (Int32.not_lt.mp c_4) hq_7.1 hq_7.2) hT hF (fr_tr hLF_2 f_8 (by decide) (by decide)) hP hD hS (lv_sub hl [0, 1, 2] rfl)
  exact L_2 _ C 0 _ _ ls rfl (rg_w (rg_c (v := 0) (lo := 0) (hi := 0) (by decide)) (by decide)) (fun S hS0 => by rw [show spDr S x1 (0 : Int32).toNatClampNeg = S from dr_0 S x1]; exact hS0) hT hF fr_rf hP hD hS (lv_sub hl [0, 1, 2] rfl)
set_option maxHeartbeats 4000000 in
set_option maxRecDepth 100000 in
theorem e2_X6_back (l : Launch) (D : va_G) (E : Nat → ClassId) (G : Nat → Nat) (sz : Nat) (a : Nat → Nat) (C : Nat → va_E) (hT : TyX a E C) : Met l yX6_back (oh_w yX6_back cX6_back 1 (some .int)) ({ frames := 2, cells := 0, slots := 0, locals := 44 }) (oh_Pm D E G [.ref (a 0)] (oh_W 35 a C) sz) (va_Qi (fun r (u : Nat → va_E) => TyX a E u ∧ fr [(1, 2), (7, 8), (10, 17), (29, 31)] [] C u ∧ (r = (if gi (C 0) 2 = 0 then (-5) else 1 : Int32)) ∧ ((r = 1 → ∀ A : LA, absX 17 C A → absX 10 u A) ∧ (¬ r = 1 → ∀ k, 10 ≤ k → k ≤ 15 → u k = C k)) ∧ ((r = 1 → ∀ A : LA, absX 17 C A → ∀ S : HZ, absHX C S → absHX u (spDr S (A 5 0 1) 8)) ∧ (¬ r = 1 → ∀ S : HZ, absHX C S → absHX u S))) (oh_B D (va_A (oh_W 35 a C) sz) (fun u => oh_W 35 a u)) (va_A (oh_W 35 a C) sz)) 0 0 (va_A (oh_W 35 a C) sz) := by
  refine Met.ofW (cc := cX6_back) (maxL := 1) (ret := (some .int)) (by decide) rfl ?_
  intro p e s m args below meth c s₁ B hml hv
  obtain ⟨rfl, hsz, hP, hK, hD0, hG⟩ := hv
  have hx := B.exec
  have hb := B.bytes
  have hr := B.returns
  have hts := atoms_spec (ws := (oh_w yX6_back cX6_back 1 (some .int))) B.pre
  have htg : ∀ w ∈ oh_t, w.before _ s = true := fun w h => hts w (List.mem_cons_of_mem _ h)
  have hown : s.vm.findClass RX6 = some m.cls := findClass_of_methodNamed B.named
  have hlocks := B.notSynchronized
  have hT0 := hT
  subst hsz
  have hD := hD0.self (sz := s.heap.size)
  generalize hAe : va_A (oh_W 35 a C) s.heap.size = A at hD hG ⊢
  have hA : ∀ q : Nat, s.heap.size ≤ q → A q := fun q h => by rw [← hAe]; exact Or.inr h
  have hS : va_S A s.heap s.heap [] := va_S.rf
  have hF : fr [(1, 2), (7, 8), (10, 17), (29, 31)] [] C C := fr_rf
  have hl := lv_entry ([.ref (a 0)]) (n := 1) (Nat.le_of_ble_eq_true rfl)
  rw [lg_entry_eq]
  generalize (lg_sl ([.ref (a 0)]) ++ List.replicate (1 - (lg_sl ([.ref (a 0)])).length) Slot.unset).toArray = ls at hl ⊢
  have hl : lv_has ls 1 [(0, .ref (a 0))] := hl
  refine oh_genQ (fun Q hQ => ?_)
  refine lv_aload_n hx hb dX6_back_0 rfl (lv_at hl 0 rfl) ?_
  refine va_get (D := D) (ci := 6) (v := .int (gi (C 0) 2)) (C := RX6) (T := TX6) (N := 9) hx hb htg ig_6 hown hK hP 0 (oh_wg (by decide) (sX_0 hT)) rfl 2 (by decide) (htg _ q_260) (fun _ h9 => h9) rfl dX6_back_1 ?_
  refine lv_if_ne (tgt := 14) hx hb dX6_back_4 (by decide) (fun (c_1 : ¬ ((gi (C 0) 2) = 0)) => ?_) (fun (c_1 : (gi (C 0) 2) = 0) => ?_)
  · refine lv_aload_n hx hb dX6_back_14 rfl (lv_at hl 0 rfl) ?_
    refine va_get (D := D) (ci := 6) (v := .ref (a 1)) (C := RX6) (T := TX6) (N := 9) hx hb htg ig_6 hown hK hP 0 (oh_wg (by decide) (sX_0 hT)) rfl 0 (by decide) (htg _ q_258) (fun _ h9 => h9) rfl dX6_back_15 ?_
    refine lv_aload_n hx hb dX6_back_18 rfl (lv_at hl 0 rfl) ?_
    refine va_get (D := D) (ci := 6) (v := .ref (a 2)) (C := RX6) (T := TX6) (N := 9) hx hb htg ig_6 hown hK hP 0 (oh_wg (by decide) (sX_0 hT)) rfl 1 (by decide) (htg _ q_259) (fun _ h9 => h9) rfl dX6_back_19 ?_
    refine tm_Vv (As := [.ref (a 2)]) (rest := []) ⟨hx, hb, hml, hown, htg⟩ (e_X0_become_b l D E G _ a C hT) (cwV 1 htg (oh_gV q_937 q_938 q_939 q_67 q_940) rfl rfl rfl pdVX0_become ⟨Nat.le_of_ble_eq_true rfl, Nat.le_of_ble_eq_true rfl⟩) hK hP hD hG hS hA (va_recv hK hP (ci := 0) (q0 := 1) rfl (oh_wg (by decide) (sX_1 hT))) rfl hl.1 rfl (Nat.le_of_ble_eq_true rfl) dX6_back_22 ⟨Nat.le_of_ble_eq_true rfl, Nat.le_of_ble_eq_true rfl⟩ (fun C_3 H locs hq_4 hP hD hS => ?_)
    obtain ⟨hT, f_5, hq_4⟩ := hq_4
    have hF := fr_tr hF f_5 (by decide) (by decide)
    refine W.widen (k := 0) (n := 0) (Nat.le_refl _) (Nat.le_refl _) ?_
    have t_6 := hT
    refine lv_aload_n hx hb dX6_back_25 rfl (lv_at hl 0 rfl) ?_
    refine va_get (D := D) (ci := 6) (v := .ref (a 4)) (C := RX6) (T := TX6) (N := 9) hx hb htg ig_6 hown hK hP 0 (oh_wg (by decide) (sX_0 hT)) rfl 4 (by decide) (htg _ q_262) (fun _ h9 => h9) rfl dX6_back_26 ?_
    refine lv_aload_n hx hb dX6_back_29 rfl (lv_at hl 0 rfl) ?_
    refine va_get (D := D) (ci := 6) (v := .ref (a 1)) (C := RX6) (T := TX6) (N := 9) hx hb htg ig_6 hown hK hP 0 (oh_wg (by decide) (sX_0 hT)) rfl 0 (by decide) (htg _ q_258) (fun _ h9 => h9) rfl dX6_back_30 ?_
    refine va_get (D := D) (ci := 0) (v := .ref (a 10)) (C := RX0) (T := TX0) (N := 8) hx hb htg ig_0 hown hK hP 1 (oh_wg (by decide) (sX_1 hT)) rfl 0 (by decide) (htg _ q_100) (fun _ h9 => h9) rfl dX6_back_33 ?_
    refine lv_iconst (v := 1) hx hb dX6_back_36 (by decide) ?_
    refine th_iald hx hb hK hP 10 (by decide) (sX_10 hT) (rg_in (rg_c (v := 1) (lo := 1) (hi := 1) (by decide)) (by decide)) dX6_back_37 ?_
    refine tm_Vv (As := [.int (ga (C_3 10) ((1 : Int32)).toNatClampNeg)]) (rest := []) ⟨hx, hb, hml, hown, htg⟩ (e_X3_dropBridgesFrom l D E G _ a C_3 hT (ga (C_3 10) ((1 : Int32)).toNatClampNeg)) (cwV 1 htg (oh_gV q_946 q_947 q_948 q_70 q_949) rfl rfl rfl pdVX3_dropBridgesFrom ⟨Nat.le_of_ble_eq_true rfl, Nat.le_of_ble_eq_true rfl⟩) hK hP hD hG hS hA (va_recv hK hP (ci := 3) (q0 := 4) rfl (oh_wg (by decide) (sX_4 hT))) rfl hl.1 rfl (Nat.le_of_ble_eq_true rfl) dX6_back_38 ⟨Nat.le_of_ble_eq_true rfl, Nat.le_of_ble_eq_true rfl⟩ (fun C_8 H locs hq_9 hP hD hS => ?_)
    obtain ⟨hT, f_10, hq_9⟩ := hq_9
    have hF := fr_tr hF f_10 (by decide) (by decide)
    refine W.widen (k := 0) (n := 0) (Nat.le_refl _) (Nat.le_refl _) ?_
    have t_11 := hT
    refine lv_iconst (v := 1) hx hb dX6_back_41 (by decide) ?_
    rw [hQ]
    exact W.iret (v := 1) hx hb hr (fun t ht hW => ⟨⟨1, C_8, rfl, ⟨hT, hF, ⟨(if_neg c_1).symm, ⟨fun _ A hA => (absX_eq (hq_4 A hA) (fr_all f_10 10 15 (by decide))), fun h9 => absurd rfl h9⟩, ⟨fun _ A hA S hS0 => by have h1 := hq_4 A hA; have e : ga (C_3 10) ((1 : Int32)).toNatClampNeg = A 5 0 1 := h1.1 1 (by decide); have h2 := hq_9 S (hx_fr hS0 (f_5.1 29 rfl (by decide)) (f_5.1 30 rfl (by decide))); rw [e] at h2; exact hx_fr h2 rfl rfl, fun h9 => absurd rfl h9⟩⟩⟩, ⟨by rw [ht]; exact hP, hD⟩⟩, hS.F ht⟩) hS.2.2 dX6_back_42
  · refine lv_aload_n hx hb dX6_back_7 rfl (lv_at hl 0 rfl) ?_
    refine lv_bipush (v := (-5)) hx hb dX6_back_8 (by decide) ?_
    refine tm_V (As := [.int (-5)]) (rest := []) ⟨hx, hb, hml, hown, htg⟩ (c_X6_refuse l D E G _ a C hT ((-5) : Int32)) (cwV 1 htg (oh_gV q_296 q_298 q_0 q_66 q_299) rfl rfl rfl pdVX6_refuse ⟨Nat.le_of_ble_eq_true rfl, Nat.le_of_ble_eq_true rfl⟩) hK hP hD hG hS hA (va_recv hK hP (ci := 6) (q0 := 0) rfl (oh_wg (by decide) (sX_0 hT))) rfl hl.1 rfl (Nat.le_of_ble_eq_true rfl) dX6_back_10 ⟨Nat.le_of_ble_eq_true rfl, Nat.le_of_ble_eq_true rfl⟩ (fun r_12 C_13 H locs hq_14 hP hD hS => ?_)
    obtain ⟨hT, f_15, hq_14⟩ := hq_14
    have hF := fr_tr hF f_15 (by decide) (by decide)
    refine W.widen (k := 0) (n := 0) (Nat.le_refl _) (Nat.le_refl _) ?_
    have t_16 := hT
    rw [hQ]
    exact W.iret (v := r_12) hx hb hr (fun t ht hW => ⟨⟨r_12, C_13, rfl, ⟨hT, hF, ⟨(Eq.trans hq_14 (if_pos c_1).symm), ⟨fun h9 => absurd (Eq.trans h9.symm hq_14) (by decide), fun _ => (fun k k1 k2 => (fr_all f_15 10 15 (by decide) k k1 k2))⟩, ⟨fun h9 => absurd (Eq.trans h9.symm hq_14) (by decide), fun _ S hS0 => (hx_fr hS0 (f_15.1 29 rfl (by decide)) (f_15.1 30 rfl (by decide)))⟩⟩⟩, ⟨by rw [ht]; exact hP, hD⟩⟩, hS.F ht⟩) hS.2.2 dX6_back_13

/-! EXACT: what the reference's back drops -/
theorem hm_drop {C u : Nat → va_E} {S : HZ} {s : Nat} (h : absHM C S) (e1 : ga (u 1) = upd (ga (C 1)) s 0) (e2 : u 2 = C 2) (e3 : u 3 = C 3) (e6 : u 6 = C 6) : absHM u (upd S.1 s (-1), S.2) := by
  intro a ha
  obtain ⟨g1, g2, g3, g4⟩ := h a ha
  show okH (upd S.1 s (-1) a) ∧ (upd S.1 s (-1) a = -1 → ga (u 1) a = 0) ∧ (rowH (upd S.1 s (-1) a) → ga (u 1) a = 1 ∧ ga (u 2) a = upd S.1 s (-1) a ∧ ga (u 3) a = S.2 a) ∧ ((10 : Int32) ≤ upd S.1 s (-1) a → ga (u 1) a = 2 ∧ 10 + ga (u 6) a = upd S.1 s (-1) a)
  rw [e1, e2, e3, e6]
  by_cases q : a = s
  · rw [q, pk_us, pk_us]
    exact ⟨Or.inl rfl, fun _ => rfl, fun z => absurd rfl z.1, fun z => absurd z (by decide)⟩
  · rw [pk_un q, pk_un q]
    exact ⟨g1, g2, g3, g4⟩
theorem sh_le {g h n : Int32} (hn : rg n 0 24) (e : 10 + g = h) (l : (10 : Int32) ≤ h) : (10 + n ≤ h ↔ n ≤ g) := by
  have eg : g = h - 10 := by rw [← e, Int32.add_comm 10 g, Int32.add_sub_cancel]
  have l2 := Int32.le_iff_toInt_le.mp l
  have e10 : (10 : Int32).toInt = 10 := rfl
  have hb := Int32.toInt_lt h
  have e1 : (h - 10).toInt = h.toInt - 10 := by
    rw [Int32.toInt_sub]
    exact oh_bmod (by omega) (by omega)
  have e2 : (10 + n).toInt = 10 + n.toInt := by
    rw [Int32.toInt_add]
    exact oh_bmod (by have := hn.1; omega) (by have := hn.2; omega)
  rw [eg, Int32.le_iff_toInt_le, Int32.le_iff_toInt_le, e1, e2]
  omega
theorem drm_n {K : Nat → va_E} {S : HZ} {n z : Int32} (h : absHM K (spDr S n z.toNatClampNeg)) (hn : rg n 0 24) (hz : rg z 0 7) (c : ¬ ga (K 1) z.toNatClampNeg = 2 ∨ ga (K 6) z.toNatClampNeg < n) : absHM K (spDr S n (z + 1).toNatClampNeg) := by
  have k := (hm_k h (sh8 hz)).2.2
  have g := (h _ (sh8 hz)).2.2.2
  rw [dr_i] at k g
  rw [z_s8 hz, dr_n (fun q => ?_)]
  · exact h
  · have l : (10 : Int32) ≤ S.1 z.toNatClampNeg := by
      have q2 := Int32.le_iff_toInt_le.mp q
      have e10 : (10 : Int32).toInt = 10 := rfl
      have e2 : (10 + n).toInt = 10 + n.toInt := by
        rw [Int32.toInt_add]
        exact oh_bmod (by have := hn.1; omega) (by have := hn.2; omega)
      have := hn.1
      exact Int32.le_iff_toInt_le.mpr (by omega)
    rcases c with c | c
    · exact c (k.mpr l)
    · exact absurd ((sh_le hn (g l).2 l).mp q) (Int32.not_le.mpr c)
theorem drm_y {K u : Nat → va_E} {S : HZ} {n z : Int32} (h : absHM K (spDr S n z.toNatClampNeg)) (hn : rg n 0 24) (hz : rg z 0 7) (c : ga (K 1) z.toNatClampNeg = 2) (d : n ≤ ga (K 6) z.toNatClampNeg) (e1 : ga (u 1) = upd (ga (K 1)) z.toNatClampNeg 0) (e2 : u 2 = K 2) (e3 : u 3 = K 3) (e6 : u 6 = K 6) : absHM u (spDr S n (z + 1).toNatClampNeg) := by
  have k := (hm_k h (sh8 hz)).2.2
  have g := (h _ (sh8 hz)).2.2.2
  rw [dr_i] at k g
  have l := k.mp c
  rw [z_s8 hz, dr_y ((sh_le hn (g l).2 l).mpr d)]
  exact hm_drop h e1 e2 e3 e6
theorem bg_dX7_over_0 : bysAt cX7_over 0 [3, 61, 28, 42, 190, 162, 0, 15, 43, 28, 42, 28, 46, 79, 132, 2, 1, 167, 255, 241, 177] := bysAt_of (by decide +kernel)
theorem dX7_over_0 : decode cX7_over 0 = .ok (.iconst 0, 1) := o_3 (bg_dX7_over_0 0 3 rfl)
theorem dX7_over_1 : decode cX7_over 1 = .ok (.istore_n 2, 1) := o_61 (bg_dX7_over_0 1 61 rfl)
theorem dX7_over_2 : decode cX7_over 2 = .ok (.iload_n 2, 1) := o_28 (bg_dX7_over_0 2 28 rfl)
theorem dX7_over_3 : decode cX7_over 3 = .ok (.aload_n 0, 1) := o_42 (bg_dX7_over_0 3 42 rfl)
theorem dX7_over_4 : decode cX7_over 4 = .ok (.arraylength, 1) := o_190 (bg_dX7_over_0 4 190 rfl)
theorem dX7_over_5 : decode cX7_over 5 = .ok (.if_icmp .ge 15, 3) := o_162 (bg_dX7_over_0 5 162 rfl) (bg_dX7_over_0 6 0 rfl) (bg_dX7_over_0 7 15 rfl) (by decide +kernel)
theorem dX7_over_8 : decode cX7_over 8 = .ok (.aload_n 1, 1) := o_43 (bg_dX7_over_0 8 43 rfl)
theorem dX7_over_9 : decode cX7_over 9 = .ok (.iload_n 2, 1) := o_28 (bg_dX7_over_0 9 28 rfl)
theorem dX7_over_10 : decode cX7_over 10 = .ok (.aload_n 0, 1) := o_42 (bg_dX7_over_0 10 42 rfl)
theorem dX7_over_11 : decode cX7_over 11 = .ok (.iload_n 2, 1) := o_28 (bg_dX7_over_0 11 28 rfl)
theorem dX7_over_12 : decode cX7_over 12 = .ok (.iaload, 1) := o_46 (bg_dX7_over_0 12 46 rfl)
theorem dX7_over_13 : decode cX7_over 13 = .ok (.iastore, 1) := o_79 (bg_dX7_over_0 13 79 rfl)
theorem dX7_over_17 : decode cX7_over 17 = .ok (.goto (-15), 3) := o_167 (bg_dX7_over_0 17 167 rfl) (bg_dX7_over_0 18 255 rfl) (bg_dX7_over_0 19 241 rfl) (by decide +kernel)
theorem dX7_over_20 : decode cX7_over 20 = .ok (.return_, 1) := o_177 (bg_dX7_over_0 20 177 rfl)
theorem bg_dX7_overAll_0 : bysAt cX7_overAll 0 [3, 61, 28, 42, 190, 162, 0, 18, 42, 28, 50, 43, 28, 50, 184, 1, 71, 132, 2, 1, 167, 255, 238] := bysAt_of (by decide +kernel)
theorem dX7_overAll_0 : decode cX7_overAll 0 = .ok (.iconst 0, 1) := o_3 (bg_dX7_overAll_0 0 3 rfl)
theorem dX7_overAll_1 : decode cX7_overAll 1 = .ok (.istore_n 2, 1) := o_61 (bg_dX7_overAll_0 1 61 rfl)
theorem dX7_overAll_2 : decode cX7_overAll 2 = .ok (.iload_n 2, 1) := o_28 (bg_dX7_overAll_0 2 28 rfl)
theorem dX7_overAll_3 : decode cX7_overAll 3 = .ok (.aload_n 0, 1) := o_42 (bg_dX7_overAll_0 3 42 rfl)
theorem dX7_overAll_4 : decode cX7_overAll 4 = .ok (.arraylength, 1) := o_190 (bg_dX7_overAll_0 4 190 rfl)
theorem dX7_overAll_5 : decode cX7_overAll 5 = .ok (.if_icmp .ge 18, 3) := o_162 (bg_dX7_overAll_0 5 162 rfl) (bg_dX7_overAll_0 6 0 rfl) (bg_dX7_overAll_0 7 18 rfl) (by decide +kernel)
theorem dX7_overAll_8 : decode cX7_overAll 8 = .ok (.aload_n 0, 1) := o_42 (bg_dX7_overAll_0 8 42 rfl)
theorem dX7_overAll_9 : decode cX7_overAll 9 = .ok (.iload_n 2, 1) := o_28 (bg_dX7_overAll_0 9 28 rfl)
theorem dX7_overAll_10 : decode cX7_overAll 10 = .ok (.aaload, 1) := o_50 (bg_dX7_overAll_0 10 50 rfl)
theorem dX7_overAll_11 : decode cX7_overAll 11 = .ok (.aload_n 1, 1) := o_43 (bg_dX7_overAll_0 11 43 rfl)
theorem dX7_overAll_12 : decode cX7_overAll 12 = .ok (.iload_n 2, 1) := o_28 (bg_dX7_overAll_0 12 28 rfl)
theorem dX7_overAll_13 : decode cX7_overAll 13 = .ok (.aaload, 1) := o_50 (bg_dX7_overAll_0 13 50 rfl)
theorem dX7_overAll_14 : decode cX7_overAll 14 = .ok (.invokestatic 327, 3) := o_184 (bg_dX7_overAll_0 14 184 rfl) (bg_dX7_overAll_0 15 1 rfl) (bg_dX7_overAll_0 16 71 rfl)
theorem dX7_overAll_20 : decode cX7_overAll 20 = .ok (.goto (-18), 3) := o_167 (bg_dX7_overAll_0 20 167 rfl) (bg_dX7_overAll_0 21 255 rfl) (bg_dX7_overAll_0 22 238 rfl) (by decide +kernel)
theorem bg_dX7_overAll_23 : bysAt cX7_overAll 23 [177] := bysAt_of (by decide +kernel)
theorem dX7_overAll_23 : decode cX7_overAll 23 = .ok (.return_, 1) := o_177 (bg_dX7_overAll_23 0 177 rfl)
theorem bg_dX7_takeFrom_0 : bysAt cX7_takeFrom 0 [42, 43, 180, 0, 66, 181, 0, 66, 43, 180, 0, 39, 42, 180, 0, 39, 184, 1, 75, 42, 43, 180, 0, 70, 181, 0, 70, 43] := bysAt_of (by decide +kernel)
theorem dX7_takeFrom_0 : decode cX7_takeFrom 0 = .ok (.aload_n 0, 1) := o_42 (bg_dX7_takeFrom_0 0 42 rfl)
theorem dX7_takeFrom_1 : decode cX7_takeFrom 1 = .ok (.aload_n 1, 1) := o_43 (bg_dX7_takeFrom_0 1 43 rfl)
theorem dX7_takeFrom_2 : decode cX7_takeFrom 2 = .ok (.getfield 66, 3) := o_180 (bg_dX7_takeFrom_0 2 180 rfl) (bg_dX7_takeFrom_0 3 0 rfl) (bg_dX7_takeFrom_0 4 66 rfl)
theorem dX7_takeFrom_5 : decode cX7_takeFrom 5 = .ok (.putfield 66, 3) := o_181 (bg_dX7_takeFrom_0 5 181 rfl) (bg_dX7_takeFrom_0 6 0 rfl) (bg_dX7_takeFrom_0 7 66 rfl)
theorem dX7_takeFrom_8 : decode cX7_takeFrom 8 = .ok (.aload_n 1, 1) := o_43 (bg_dX7_takeFrom_0 8 43 rfl)
theorem dX7_takeFrom_9 : decode cX7_takeFrom 9 = .ok (.getfield 39, 3) := o_180 (bg_dX7_takeFrom_0 9 180 rfl) (bg_dX7_takeFrom_0 10 0 rfl) (bg_dX7_takeFrom_0 11 39 rfl)
theorem dX7_takeFrom_12 : decode cX7_takeFrom 12 = .ok (.aload_n 0, 1) := o_42 (bg_dX7_takeFrom_0 12 42 rfl)
theorem dX7_takeFrom_13 : decode cX7_takeFrom 13 = .ok (.getfield 39, 3) := o_180 (bg_dX7_takeFrom_0 13 180 rfl) (bg_dX7_takeFrom_0 14 0 rfl) (bg_dX7_takeFrom_0 15 39 rfl)
theorem dX7_takeFrom_16 : decode cX7_takeFrom 16 = .ok (.invokestatic 331, 3) := o_184 (bg_dX7_takeFrom_0 16 184 rfl) (bg_dX7_takeFrom_0 17 1 rfl) (bg_dX7_takeFrom_0 18 75 rfl)
theorem dX7_takeFrom_19 : decode cX7_takeFrom 19 = .ok (.aload_n 0, 1) := o_42 (bg_dX7_takeFrom_0 19 42 rfl)
theorem dX7_takeFrom_20 : decode cX7_takeFrom 20 = .ok (.aload_n 1, 1) := o_43 (bg_dX7_takeFrom_0 20 43 rfl)
theorem dX7_takeFrom_21 : decode cX7_takeFrom 21 = .ok (.getfield 70, 3) := o_180 (bg_dX7_takeFrom_0 21 180 rfl) (bg_dX7_takeFrom_0 22 0 rfl) (bg_dX7_takeFrom_0 23 70 rfl)
theorem dX7_takeFrom_24 : decode cX7_takeFrom 24 = .ok (.putfield 70, 3) := o_181 (bg_dX7_takeFrom_0 24 181 rfl) (bg_dX7_takeFrom_0 25 0 rfl) (bg_dX7_takeFrom_0 26 70 rfl)
theorem dX7_takeFrom_27 : decode cX7_takeFrom 27 = .ok (.aload_n 1, 1) := o_43 (bg_dX7_takeFrom_0 27 43 rfl)
theorem bg_dX7_takeFrom_28 : bysAt cX7_takeFrom 28 [180, 0, 42, 42, 180, 0, 42, 184, 1, 75, 42, 43, 180, 0, 73, 181, 0, 73, 43, 180, 0, 45, 42, 180, 0, 45, 184, 1, 75, 42] := bysAt_of (by decide +kernel)
theorem dX7_takeFrom_28 : decode cX7_takeFrom 28 = .ok (.getfield 42, 3) := o_180 (bg_dX7_takeFrom_28 0 180 rfl) (bg_dX7_takeFrom_28 1 0 rfl) (bg_dX7_takeFrom_28 2 42 rfl)
theorem dX7_takeFrom_31 : decode cX7_takeFrom 31 = .ok (.aload_n 0, 1) := o_42 (bg_dX7_takeFrom_28 3 42 rfl)
theorem dX7_takeFrom_32 : decode cX7_takeFrom 32 = .ok (.getfield 42, 3) := o_180 (bg_dX7_takeFrom_28 4 180 rfl) (bg_dX7_takeFrom_28 5 0 rfl) (bg_dX7_takeFrom_28 6 42 rfl)
theorem dX7_takeFrom_35 : decode cX7_takeFrom 35 = .ok (.invokestatic 331, 3) := o_184 (bg_dX7_takeFrom_28 7 184 rfl) (bg_dX7_takeFrom_28 8 1 rfl) (bg_dX7_takeFrom_28 9 75 rfl)
theorem dX7_takeFrom_38 : decode cX7_takeFrom 38 = .ok (.aload_n 0, 1) := o_42 (bg_dX7_takeFrom_28 10 42 rfl)
theorem dX7_takeFrom_39 : decode cX7_takeFrom 39 = .ok (.aload_n 1, 1) := o_43 (bg_dX7_takeFrom_28 11 43 rfl)
theorem dX7_takeFrom_40 : decode cX7_takeFrom 40 = .ok (.getfield 73, 3) := o_180 (bg_dX7_takeFrom_28 12 180 rfl) (bg_dX7_takeFrom_28 13 0 rfl) (bg_dX7_takeFrom_28 14 73 rfl)
theorem dX7_takeFrom_43 : decode cX7_takeFrom 43 = .ok (.putfield 73, 3) := o_181 (bg_dX7_takeFrom_28 15 181 rfl) (bg_dX7_takeFrom_28 16 0 rfl) (bg_dX7_takeFrom_28 17 73 rfl)
theorem dX7_takeFrom_46 : decode cX7_takeFrom 46 = .ok (.aload_n 1, 1) := o_43 (bg_dX7_takeFrom_28 18 43 rfl)
theorem dX7_takeFrom_47 : decode cX7_takeFrom 47 = .ok (.getfield 45, 3) := o_180 (bg_dX7_takeFrom_28 19 180 rfl) (bg_dX7_takeFrom_28 20 0 rfl) (bg_dX7_takeFrom_28 21 45 rfl)
theorem dX7_takeFrom_50 : decode cX7_takeFrom 50 = .ok (.aload_n 0, 1) := o_42 (bg_dX7_takeFrom_28 22 42 rfl)
theorem dX7_takeFrom_51 : decode cX7_takeFrom 51 = .ok (.getfield 45, 3) := o_180 (bg_dX7_takeFrom_28 23 180 rfl) (bg_dX7_takeFrom_28 24 0 rfl) (bg_dX7_takeFrom_28 25 45 rfl)
theorem dX7_takeFrom_54 : decode cX7_takeFrom 54 = .ok (.invokestatic 331, 3) := o_184 (bg_dX7_takeFrom_28 26 184 rfl) (bg_dX7_takeFrom_28 27 1 rfl) (bg_dX7_takeFrom_28 28 75 rfl)
theorem dX7_takeFrom_57 : decode cX7_takeFrom 57 = .ok (.aload_n 0, 1) := o_42 (bg_dX7_takeFrom_28 29 42 rfl)
theorem bg_dX7_takeFrom_58 : bysAt cX7_takeFrom 58 [43, 180, 0, 80, 181, 0, 80, 43, 180, 0, 48, 42, 180, 0, 48, 184, 1, 75, 43, 180, 0, 51, 42, 180, 0, 51, 184, 1, 71, 43] := bysAt_of (by decide +kernel)
theorem dX7_takeFrom_58 : decode cX7_takeFrom 58 = .ok (.aload_n 1, 1) := o_43 (bg_dX7_takeFrom_58 0 43 rfl)
theorem dX7_takeFrom_59 : decode cX7_takeFrom 59 = .ok (.getfield 80, 3) := o_180 (bg_dX7_takeFrom_58 1 180 rfl) (bg_dX7_takeFrom_58 2 0 rfl) (bg_dX7_takeFrom_58 3 80 rfl)
theorem dX7_takeFrom_62 : decode cX7_takeFrom 62 = .ok (.putfield 80, 3) := o_181 (bg_dX7_takeFrom_58 4 181 rfl) (bg_dX7_takeFrom_58 5 0 rfl) (bg_dX7_takeFrom_58 6 80 rfl)
theorem dX7_takeFrom_65 : decode cX7_takeFrom 65 = .ok (.aload_n 1, 1) := o_43 (bg_dX7_takeFrom_58 7 43 rfl)
theorem dX7_takeFrom_66 : decode cX7_takeFrom 66 = .ok (.getfield 48, 3) := o_180 (bg_dX7_takeFrom_58 8 180 rfl) (bg_dX7_takeFrom_58 9 0 rfl) (bg_dX7_takeFrom_58 10 48 rfl)
theorem dX7_takeFrom_69 : decode cX7_takeFrom 69 = .ok (.aload_n 0, 1) := o_42 (bg_dX7_takeFrom_58 11 42 rfl)
theorem dX7_takeFrom_70 : decode cX7_takeFrom 70 = .ok (.getfield 48, 3) := o_180 (bg_dX7_takeFrom_58 12 180 rfl) (bg_dX7_takeFrom_58 13 0 rfl) (bg_dX7_takeFrom_58 14 48 rfl)
theorem dX7_takeFrom_73 : decode cX7_takeFrom 73 = .ok (.invokestatic 331, 3) := o_184 (bg_dX7_takeFrom_58 15 184 rfl) (bg_dX7_takeFrom_58 16 1 rfl) (bg_dX7_takeFrom_58 17 75 rfl)
theorem dX7_takeFrom_76 : decode cX7_takeFrom 76 = .ok (.aload_n 1, 1) := o_43 (bg_dX7_takeFrom_58 18 43 rfl)
theorem dX7_takeFrom_77 : decode cX7_takeFrom 77 = .ok (.getfield 51, 3) := o_180 (bg_dX7_takeFrom_58 19 180 rfl) (bg_dX7_takeFrom_58 20 0 rfl) (bg_dX7_takeFrom_58 21 51 rfl)
theorem dX7_takeFrom_80 : decode cX7_takeFrom 80 = .ok (.aload_n 0, 1) := o_42 (bg_dX7_takeFrom_58 22 42 rfl)
theorem dX7_takeFrom_81 : decode cX7_takeFrom 81 = .ok (.getfield 51, 3) := o_180 (bg_dX7_takeFrom_58 23 180 rfl) (bg_dX7_takeFrom_58 24 0 rfl) (bg_dX7_takeFrom_58 25 51 rfl)
theorem dX7_takeFrom_84 : decode cX7_takeFrom 84 = .ok (.invokestatic 327, 3) := o_184 (bg_dX7_takeFrom_58 26 184 rfl) (bg_dX7_takeFrom_58 27 1 rfl) (bg_dX7_takeFrom_58 28 71 rfl)
theorem dX7_takeFrom_87 : decode cX7_takeFrom 87 = .ok (.aload_n 1, 1) := o_43 (bg_dX7_takeFrom_58 29 43 rfl)
theorem bg_dX7_takeFrom_88 : bysAt cX7_takeFrom 88 [180, 0, 54, 42, 180, 0, 54, 184, 1, 71, 42, 43, 180, 1, 68, 181, 1, 68, 177] := bysAt_of (by decide +kernel)
theorem dX7_takeFrom_88 : decode cX7_takeFrom 88 = .ok (.getfield 54, 3) := o_180 (bg_dX7_takeFrom_88 0 180 rfl) (bg_dX7_takeFrom_88 1 0 rfl) (bg_dX7_takeFrom_88 2 54 rfl)
theorem dX7_takeFrom_91 : decode cX7_takeFrom 91 = .ok (.aload_n 0, 1) := o_42 (bg_dX7_takeFrom_88 3 42 rfl)
theorem dX7_takeFrom_92 : decode cX7_takeFrom 92 = .ok (.getfield 54, 3) := o_180 (bg_dX7_takeFrom_88 4 180 rfl) (bg_dX7_takeFrom_88 5 0 rfl) (bg_dX7_takeFrom_88 6 54 rfl)
theorem dX7_takeFrom_95 : decode cX7_takeFrom 95 = .ok (.invokestatic 327, 3) := o_184 (bg_dX7_takeFrom_88 7 184 rfl) (bg_dX7_takeFrom_88 8 1 rfl) (bg_dX7_takeFrom_88 9 71 rfl)
theorem dX7_takeFrom_98 : decode cX7_takeFrom 98 = .ok (.aload_n 0, 1) := o_42 (bg_dX7_takeFrom_88 10 42 rfl)
theorem dX7_takeFrom_99 : decode cX7_takeFrom 99 = .ok (.aload_n 1, 1) := o_43 (bg_dX7_takeFrom_88 11 43 rfl)
theorem dX7_takeFrom_100 : decode cX7_takeFrom 100 = .ok (.getfield 324, 3) := o_180 (bg_dX7_takeFrom_88 12 180 rfl) (bg_dX7_takeFrom_88 13 1 rfl) (bg_dX7_takeFrom_88 14 68 rfl)
theorem dX7_takeFrom_103 : decode cX7_takeFrom 103 = .ok (.putfield 324, 3) := o_181 (bg_dX7_takeFrom_88 15 181 rfl) (bg_dX7_takeFrom_88 16 1 rfl) (bg_dX7_takeFrom_88 17 68 rfl)
theorem dX7_takeFrom_106 : decode cX7_takeFrom 106 = .ok (.return_, 1) := o_177 (bg_dX7_takeFrom_88 18 177 rfl)
theorem pdX7_over : yX7_over.cls ≠ "java/lang/invoke/MethodHandle" ∧ yX7_over.cls ≠ "java/lang/invoke/VarHandle" ∧ (parseMethodDescriptor yX7_over.desc).map (fun d => d.parameters.length) = some 2 := by decide +kernel
theorem dX7_over_14 : decode cX7_over 14 = .ok (.iinc 2 1, 3) := by decide +kernel
theorem dX7_overAll_17 : decode cX7_overAll 17 = .ok (.iinc 2 1, 3) := by decide +kernel
theorem updc_updc {C : Nat → va_E} {k : Nat} {x y : va_E} : updc (updc C k x) k y = updc C k y := by
  funext i
  unfold updc
  by_cases h : i = k <;> simp [h]
set_option maxHeartbeats 4000000 in
set_option maxRecDepth 100000 in
theorem lp_over {p : Program} {l : Launch} {e : Env} {R : Room} {s : State} {m : MethodId} {args : Array Value} {below : List Frame} {meth : Method} {c : Code} {cells slots : Nat} {Q : State → Prop} {D : va_G} {E : Nat → ClassId} {A : Nat → Prop} (hx : p.tables.exec = Jvm.exec) (hb : c.code = cX7_over) (hK : va_K D vwCl (oh_ty E) s) {n : Nat} {a : Nat → Nat} (C : Nat → va_E) (k1 k2 N : Nat) (hN : N < 1000) (h1 : k1 < n) (h2 : k2 < n) (hne : k1 ≠ k2) (hs1 : C k1 = .inl (E 0, N, .inl (ga (C k1))))
    (kk : ∀ (g : Nat → Int32) (H : Heap) (locs : List Loc) (ls : Array Slot), (∀ i, i < N → g i = ga (C k1) i) → va_P D vwCl (oh_W n a (updc C k2 (.inl (E 0, N, .inl g)))) H → va_D A (oh_W n a (updc C k2 (.inl (E 0, N, .inl g)))) → va_S A s.heap H locs → W p l e R s m args below meth c H locs cells slots Q (F0 m 20 ls [])) :
    ∀ (d j : Nat) (g : Nat → Int32) (H : Heap) (locs : List Loc) (ls : Array Slot), j + d = N → (∀ i, i < j → g i = ga (C k1) i) → va_P D vwCl (oh_W n a (updc C k2 (.inl (E 0, N, .inl g)))) H → va_D A (oh_W n a (updc C k2 (.inl (E 0, N, .inl g)))) → va_S A s.heap H locs → lv_has ls 3 [(2, .int (nI j)), (0, .ref (a k1)), (1, .ref (a k2))] → W p l e R s m args below meth c H locs cells slots Q (F0 m 2 ls []) := by
  intro d
  induction d with
  | zero =>
    intro j g H locs ls hjk hg hP hD hS hl
    have hjN : j = N := by omega
    have e1 : (updc C k2 (.inl (E 0, N, .inl g))) k1 = .inl (E 0, N, .inl (ga (C k1))) := by rw [updc_ne hne]; exact hs1
    refine lv_iload_n hx hb dX7_over_2 rfl (lv_at hl 0 rfl) ?_
    refine lv_aload_n hx hb dX7_over_3 rfl (lv_at hl 1 rfl) ?_
    refine va_alen (v := Int32.ofNat N) hx hb hK hP k1 0 (oh_wg h1 e1) rfl rfl dX7_over_4 ?_
    refine lv_icmp_ge (tgt := 20) hx hb dX7_over_5 (by decide) (fun _ => ?_) (fun c => absurd (show (Int32.ofNat N) ≤ (nI j) from show nI N ≤ nI j from nI_le (by omega) (by omega)) c)
    exact kk g H locs ls (by rw [← hjN]; exact hg) hP hD hS
  | succ d ih =>
    intro j g H locs ls hjk hg hP hD hS hl
    have hjN : j < N := by omega
    have e1 : (updc C k2 (.inl (E 0, N, .inl g))) k1 = .inl (E 0, N, .inl (ga (C k1))) := by rw [updc_ne hne]; exact hs1
    refine lv_iload_n hx hb dX7_over_2 rfl (lv_at hl 0 rfl) ?_
    refine lv_aload_n hx hb dX7_over_3 rfl (lv_at hl 1 rfl) ?_
    refine va_alen (v := Int32.ofNat N) hx hb hK hP k1 0 (oh_wg h1 e1) rfl rfl dX7_over_4 ?_
    refine lv_icmp_ge (tgt := 20) hx hb dX7_over_5 (by decide) (fun c => absurd c (show ¬ ((Int32.ofNat N) ≤ (nI j)) from show ¬ nI N ≤ nI j from nI_ge hjN (by omega))) (fun _ => ?_)
    refine lv_aload_n hx hb dX7_over_8 rfl (lv_at hl 2 rfl) ?_
    refine lv_iload_n hx hb dX7_over_9 rfl (lv_at hl 0 rfl) ?_
    refine lv_aload_n hx hb dX7_over_10 rfl (lv_at hl 1 rfl) ?_
    refine lv_iload_n hx hb dX7_over_11 rfl (lv_at hl 0 rfl) ?_
    refine th_iald hx hb hK hP k1 h1 e1 (vp_in_nI hjN (by omega)) dX7_over_12 ?_
    refine th_iast (T := fun _ => True) (Rl := fun _ => True) hx hb hK hP hD hS k2 h2 updc_eq (vp_in_nI hjN (by omega)) trivial trivial dX7_over_13 (fun C2 H locs e2 _ _ hP hD hS => ?_)
    rw [updc_updc] at e2
    subst e2
    refine lv_iinc (v := nI (j + 1)) (lv' := [(2, .int (nI (j + 1))), (0, .ref (a k1)), (1, .ref (a k2))]) hx hb dX7_over_14 hl (k := 0) rfl (by exact nI_1 j) (by decide) rfl (fun ls hl => ?_)
    refine lv_goto (tgt := 2) hx hb dX7_over_17 (by decide) ?_
    refine ih (j + 1) _ H locs ls (by omega) (fun i hi => ?_) hP hD hS (lv_sub hl [0, 1, 2] rfl)
    have ej : (nI j).toNatClampNeg = j := nI_clamp (by omega)
    rw [ej]
    by_cases h : i = j
    · rw [h, pk_us]
    · rw [pk_un h]
      exact hg i (by omega)
set_option maxHeartbeats 4000000 in
set_option maxRecDepth 100000 in
theorem c_X7_over (l : Launch) (D : va_G) (E : Nat → ClassId) (G : Nat → Nat) (sz : Nat) (n : Nat) (a : Nat → Nat) (C : Nat → va_E) (k1 k2 N : Nat) (hN : N < 1000) (h1 : k1 < n) (h2 : k2 < n) (hne : k1 ≠ k2) (hs1 : C k1 = .inl (E 0, N, .inl (ga (C k1)))) (hs2 : C k2 = .inl (E 0, N, .inl (ga (C k2)))) : Met l yX7_over (oh_w yX7_over cX7_over 3 none) ({ frames := 0, cells := 0, slots := 0, locals := 0 }) (oh_Pm D E G [.ref (a k1), .ref (a k2)] (oh_W n a C) sz) (va_Qv (fun (u : Nat → va_E) => ∃ g : Nat → Int32, u = updc C k2 (.inl (E 0, N, .inl g)) ∧ ∀ i, i < N → g i = ga (C k1) i) (oh_B D (va_A (oh_W n a C) sz) (fun u => oh_W n a u)) (va_A (oh_W n a C) sz)) 0 0 (va_A (oh_W n a C) sz) := by
  refine Met.ofW (cc := cX7_over) (maxL := 3) (ret := none) (by decide) rfl ?_
  intro p e s m args below meth c s₁ B hml hv
  obtain ⟨rfl, hsz, hP, hK, hD0, hG⟩ := hv
  have hx := B.exec
  have hb := B.bytes
  have hr := B.returns
  have hts := atoms_spec (ws := (oh_w yX7_over cX7_over 3 none)) B.pre
  have htg : ∀ w ∈ oh_t, w.before _ s = true := fun w h => hts w (List.mem_cons_of_mem _ h)
  have hown : s.vm.findClass RX7 = some m.cls := findClass_of_methodNamed B.named
  have hlocks := B.notSynchronized
  subst hsz
  have hD := hD0.self (sz := s.heap.size)
  generalize hAe : va_A (oh_W n a C) s.heap.size = A at hD hG ⊢
  have hA : ∀ q : Nat, s.heap.size ≤ q → A q := fun q h => by rw [← hAe]; exact Or.inr h
  have hS : va_S A s.heap s.heap [] := va_S.rf
  have hl := lv_entry ([.ref (a k1), .ref (a k2)]) (n := 3) (Nat.le_of_ble_eq_true rfl)
  rw [lg_entry_eq]
  generalize (lg_sl ([.ref (a k1), .ref (a k2)]) ++ List.replicate (3 - (lg_sl ([.ref (a k1), .ref (a k2)])).length) Slot.unset).toArray = ls at hl ⊢
  have hl : lv_has ls 3 [(0, .ref (a k1)), (1, .ref (a k2))] := hl
  have hC : updc C k2 (.inl (E 0, N, .inl (ga (C k2)))) = C := by
    funext i
    by_cases h : i = k2
    · rw [h, updc_eq, ← hs2]
    · rw [updc_ne h]
  refine lv_iconst (v := 0) hx hb dX7_over_0 (by decide) ?_
  refine lv_istore_n (lv' := [(2, .int 0), (0, .ref (a k1)), (1, .ref (a k2))]) hx hb dX7_over_1 rfl hl (by decide) rfl (fun ls hl => ?_)
  refine lp_over hx hb hK C k1 k2 N hN h1 h2 hne hs1 (fun g H locs ls hg hP hD hS => ?_) N 0 (ga (C k2)) s.heap [] ls (by omega) (fun i hi => by omega) (by rw [hC]; exact hP) (by rw [hC]; exact hD) hS (by rw [nI_0]; exact lv_sub hl [0, 1, 2] rfl)
  exact W.vret hx hb hr (fun t ht hW => ⟨⟨_, rfl, ⟨g, rfl, hg⟩, ⟨by rw [ht]; exact hP, hD⟩⟩, hS.F ht⟩) hS.2.2 dX7_over_20

/-- rows of a block that are copies of another's -/
def cpd (E : Nat → ClassId) (N b1 b2 j : Nat) (C u : Nat → va_E) : Prop := (∀ i, i < j → ∃ g : Nat → Int32, u (b2 + i) = .inl (E 0, N, .inl g) ∧ ∀ q, q < N → g q = ga (C (b1 + i)) q) ∧ ∀ k, (∀ i, i < j → k ≠ b2 + i) → u k = C k
theorem cpd_0 {E : Nat → ClassId} {N b1 b2 : Nat} {C : Nat → va_E} : cpd E N b1 b2 0 C C := ⟨fun i hi => by omega, fun _ _ => rfl⟩
theorem cpd_s {E : Nat → ClassId} {N b1 b2 j : Nat} {C u : Nat → va_E} {g : Nat → Int32} (h : cpd E N b1 b2 j C u) (hd : ∀ i, i ≤ j → b1 + j ≠ b2 + i) (hg : ∀ i, i < N → g i = ga (u (b1 + j)) i) : cpd E N b1 b2 (j + 1) C (updc u (b2 + j) (.inl (E 0, N, .inl g))) := by
  refine ⟨fun i hi => ?_, fun k hk => ?_⟩
  · by_cases e : i = j
    · subst e
      refine ⟨g, updc_eq, fun q hq => ?_⟩
      rw [hg q hq, h.2 (b1 + i) (fun z hz => hd z (by omega))]
    · rw [updc_ne (by omega)]
      exact h.1 i (by omega)
  · rw [updc_ne (hk j (by omega))]
    exact h.2 k (fun i hi => hk i (by omega))
set_option maxHeartbeats 4000000 in
set_option maxRecDepth 100000 in
theorem lp_overAll {p : Program} {l : Launch} {e : Env} {R : Room} {s : State} {m : MethodId} {args : Array Value} {below : List Frame} {meth : Method} {c : Code} {cells slots : Nat} {Q : State → Prop} {D : va_G} {E : Nat → ClassId} {A : Nat → Prop} {G : Nat → Nat} (hx : p.tables.exec = Jvm.exec) (hb : c.code = cX7_overAll) (htg : ∀ w ∈ oh_t, w.before args s = true) (hown : s.vm.findClass RX7 = some m.cls) (hml : c.maxLocals = 3) (hK : va_K D vwCl (oh_ty E) s) (hG : oh_G G A s) (hA : ∀ q, s.heap.size ≤ q → A q) {n : Nat} {a : Nat → Nat} (C : Nat → va_E) (k1 k2 b1 b2 M N : Nat) (hR : R = ({ frames := 1, cells := 0, slots := 0, locals := 22 })) (hc0 : cells = 0) (hs0 : slots = 0) (hN : N < 1000) (hM : M < 1000) (h1 : k1 < n) (h2 : k2 < n) (hb1 : b1 + M ≤ n) (hb2 : b2 + M ≤ n) (hdis : b1 + M ≤ b2 ∨ b2 + M ≤ b1) (hk1 : ∀ i, i < M → k1 ≠ b2 + i) (hk2 : ∀ i, i < M → k2 ≠ b2 + i) (hs1 : C k1 = .inl (E 2, M, .inr (.inr (.inr (.inr (qf a M b1)))))) (hs2 : C k2 = .inl (E 2, M, .inr (.inr (.inr (.inr (qf a M b2)))))) (hr1 : ∀ i, i < M → C (b1 + i) = .inl (E 0, N, .inl (ga (C (b1 + i))))) (hr2 : ∀ i, i < M → C (b2 + i) = .inl (E 0, N, .inl (ga (C (b2 + i)))))
    (kk : ∀ (u : Nat → va_E) (H : Heap) (locs : List Loc) (ls : Array Slot), cpd E N b1 b2 M C u → va_P D vwCl (oh_W n a u) H → va_D A (oh_W n a u) → va_S A s.heap H locs → W p l e R s m args below meth c H locs cells slots Q (F0 m 23 ls [])) :
    ∀ (d j : Nat) (u : Nat → va_E) (H : Heap) (locs : List Loc) (ls : Array Slot), j + d = M → cpd E N b1 b2 j C u → va_P D vwCl (oh_W n a u) H → va_D A (oh_W n a u) → va_S A s.heap H locs → lv_has ls 3 [(2, .int (nI j)), (0, .ref (a k1)), (1, .ref (a k2))] → W p l e R s m args below meth c H locs cells slots Q (F0 m 2 ls []) := by
  subst hR hc0 hs0
  intro d
  induction d with
  | zero =>
    intro j u H locs ls hjk hu hP hD hS hl
    have hjN : j = M := by omega
    have e1 : u k1 = .inl (E 2, M, .inr (.inr (.inr (.inr (qf a M b1))))) := by rw [hu.2 k1 (fun i hi => hk1 i (by omega))]; exact hs1
    refine lv_iload_n hx hb dX7_overAll_2 rfl (lv_at hl 0 rfl) ?_
    refine lv_aload_n hx hb dX7_overAll_3 rfl (lv_at hl 1 rfl) ?_
    refine va_alen (v := Int32.ofNat M) hx hb hK hP k1 2 (oh_wg h1 e1) rfl rfl dX7_overAll_4 ?_
    refine lv_icmp_ge (tgt := 23) hx hb dX7_overAll_5 (by decide) (fun _ => ?_) (fun c => absurd (show (Int32.ofNat M) ≤ (nI j) from show nI M ≤ nI j from nI_le (by omega) (by omega)) c)
    exact kk u H locs ls (by rw [← hjN]; exact hu) hP hD hS
  | succ d ih =>
    intro j u H locs ls hjk hu hP hD hS hl
    have hjN : j < M := by omega
    have ej : (nI j).toNatClampNeg = j := nI_clamp (by omega)
    have e1 : u k1 = .inl (E 2, M, .inr (.inr (.inr (.inr (qf a M b1))))) := by rw [hu.2 k1 (fun i hi => hk1 i (by omega))]; exact hs1
    have e2 : u k2 = .inl (E 2, M, .inr (.inr (.inr (.inr (qf a M b2))))) := by rw [hu.2 k2 (fun i hi => hk2 i (by omega))]; exact hs2
    have f1 : u (b1 + j) = .inl (E 0, N, .inl (ga (u (b1 + j)))) := by rw [hu.2 (b1 + j) (fun i hi => by omega)]; exact hr1 j hjN
    have f2 : u (b2 + j) = .inl (E 0, N, .inl (ga (u (b2 + j)))) := by rw [hu.2 (b2 + j) (fun i hi => by omega)]; exact hr2 j hjN
    refine lv_iload_n hx hb dX7_overAll_2 rfl (lv_at hl 0 rfl) ?_
    refine lv_aload_n hx hb dX7_overAll_3 rfl (lv_at hl 1 rfl) ?_
    refine va_alen (v := Int32.ofNat M) hx hb hK hP k1 2 (oh_wg h1 e1) rfl rfl dX7_overAll_4 ?_
    refine lv_icmp_ge (tgt := 23) hx hb dX7_overAll_5 (by decide) (fun c => absurd c (show ¬ ((Int32.ofNat M) ≤ (nI j)) from show ¬ nI M ≤ nI j from nI_ge hjN (by omega))) (fun _ => ?_)
    refine lv_aload_n hx hb dX7_overAll_8 rfl (lv_at hl 1 rfl) ?_
    refine lv_iload_n hx hb dX7_overAll_9 rfl (lv_at hl 0 rfl) ?_
    refine th_aald hx hb hK hP k1 2 h1 e1 rfl (vp_in_nI hjN (by omega)) dX7_overAll_10 ?_
    refine lv_aload_n hx hb dX7_overAll_11 rfl (lv_at hl 2 rfl) ?_
    refine lv_iload_n hx hb dX7_overAll_12 rfl (lv_at hl 0 rfl) ?_
    refine th_aald hx hb hK hP k2 2 h2 e2 rfl (vp_in_nI hjN (by omega)) dX7_overAll_13 ?_
    rw [ej]
    refine tm_Sv (As := [.ref (a (b1 + j)), .ref (a (b2 + j))]) (rest := []) ⟨hx, hb, hml, hown, htg⟩ (c_X7_over l D E G _ n a u (b1 + j) (b2 + j) N hN (by omega) (by omega) (by omega) f1 f2) (va_cwS 2 htg (oh_gS q_1434 q_1435 q_73 q_1436) rfl rfl rfl pdX7_over ⟨Nat.le_of_ble_eq_true rfl, Nat.le_of_ble_eq_true rfl⟩) hK hP hD hG hS hA rfl hl.1 rfl (Nat.le_of_ble_eq_true rfl) dX7_overAll_14 ⟨Nat.le_of_ble_eq_true rfl, Nat.le_of_ble_eq_true rfl⟩ (fun u2 H locs hq hP hD hS => ?_)
    obtain ⟨g, rfl, hg⟩ := hq
    refine W.widen (k := 0) (n := 0) (Nat.le_refl _) (Nat.le_refl _) ?_
    refine lv_iinc (v := nI (j + 1)) (lv' := [(2, .int (nI (j + 1))), (0, .ref (a k1)), (1, .ref (a k2))]) hx hb dX7_overAll_17 hl (k := 0) rfl (by exact nI_1 j) (by decide) rfl (fun ls hl => ?_)
    refine lv_goto (tgt := 2) hx hb dX7_overAll_20 (by decide) ?_
    exact ih (j + 1) _ H locs ls (by omega) (cpd_s hu (fun i hi => by omega) hg) hP hD hS (lv_sub hl [0, 1, 2] rfl)
set_option maxHeartbeats 4000000 in
set_option maxRecDepth 100000 in
theorem c_X7_overAll (l : Launch) (D : va_G) (E : Nat → ClassId) (G : Nat → Nat) (sz : Nat) (n : Nat) (a : Nat → Nat) (C : Nat → va_E) (k1 k2 b1 b2 M N : Nat) (hN : N < 1000) (hM : M < 1000) (h1 : k1 < n) (h2 : k2 < n) (hb1 : b1 + M ≤ n) (hb2 : b2 + M ≤ n) (hdis : b1 + M ≤ b2 ∨ b2 + M ≤ b1) (hk1 : ∀ i, i < M → k1 ≠ b2 + i) (hk2 : ∀ i, i < M → k2 ≠ b2 + i) (hs1 : C k1 = .inl (E 2, M, .inr (.inr (.inr (.inr (qf a M b1)))))) (hs2 : C k2 = .inl (E 2, M, .inr (.inr (.inr (.inr (qf a M b2)))))) (hr1 : ∀ i, i < M → C (b1 + i) = .inl (E 0, N, .inl (ga (C (b1 + i))))) (hr2 : ∀ i, i < M → C (b2 + i) = .inl (E 0, N, .inl (ga (C (b2 + i))))) : Met l yX7_overAll (oh_w yX7_overAll cX7_overAll 3 none) ({ frames := 1, cells := 0, slots := 0, locals := 22 }) (oh_Pm D E G [.ref (a k1), .ref (a k2)] (oh_W n a C) sz) (va_Qv (fun (u : Nat → va_E) => cpd E N b1 b2 M C u) (oh_B D (va_A (oh_W n a C) sz) (fun u => oh_W n a u)) (va_A (oh_W n a C) sz)) 0 0 (va_A (oh_W n a C) sz) := by
  refine Met.ofW (cc := cX7_overAll) (maxL := 3) (ret := none) (by decide) rfl ?_
  intro p e s m args below meth c s₁ B hml hv
  obtain ⟨rfl, hsz, hP, hK, hD0, hG⟩ := hv
  have hx := B.exec
  have hb := B.bytes
  have hr := B.returns
  have hts := atoms_spec (ws := (oh_w yX7_overAll cX7_overAll 3 none)) B.pre
  have htg : ∀ w ∈ oh_t, w.before _ s = true := fun w h => hts w (List.mem_cons_of_mem _ h)
  have hown : s.vm.findClass RX7 = some m.cls := findClass_of_methodNamed B.named
  have hlocks := B.notSynchronized
  subst hsz
  have hD := hD0.self (sz := s.heap.size)
  generalize hAe : va_A (oh_W n a C) s.heap.size = A at hD hG ⊢
  have hA : ∀ q : Nat, s.heap.size ≤ q → A q := fun q h => by rw [← hAe]; exact Or.inr h
  have hS : va_S A s.heap s.heap [] := va_S.rf
  have hl := lv_entry ([.ref (a k1), .ref (a k2)]) (n := 3) (Nat.le_of_ble_eq_true rfl)
  rw [lg_entry_eq]
  generalize (lg_sl ([.ref (a k1), .ref (a k2)]) ++ List.replicate (3 - (lg_sl ([.ref (a k1), .ref (a k2)])).length) Slot.unset).toArray = ls at hl ⊢
  have hl : lv_has ls 3 [(0, .ref (a k1)), (1, .ref (a k2))] := hl
  refine lv_iconst (v := 0) hx hb dX7_overAll_0 (by decide) ?_
  refine lv_istore_n (lv' := [(2, .int 0), (0, .ref (a k1)), (1, .ref (a k2))]) hx hb dX7_overAll_1 rfl hl (by decide) rfl (fun ls hl => ?_)
  refine lp_overAll hx hb htg hown hml hK hG hA C k1 k2 b1 b2 M N rfl rfl rfl hN hM h1 h2 hb1 hb2 hdis hk1 hk2 hs1 hs2 hr1 hr2 (fun u H locs ls hu hP hD hS => ?_) M 0 C s.heap [] ls (by omega) cpd_0 hP hD hS (by rw [nI_0]; exact lv_sub hl [0, 1, 2] rfl)
  exact W.vret hx hb hr (fun t ht hW => ⟨⟨u, rfl, hu, ⟨by rw [ht]; exact hP, hD⟩⟩, hS.F ht⟩) hS.2.2 dX7_overAll_23
/-! ELEMENTS: what stands in the rows -/
abbrev EZ := Nat → Nat → Int64
def absEX (C : Nat → va_E) (S : HZ) (Z : EZ) : Prop := ∀ s, s < 8 → rowH (S.1 s) → rg (S.2 s) 0 40 ∧ ∀ i : Nat, (i : Int) < (S.2 s).toInt → gb (C 31) (s * 40 + i) = Z s i
def absEM (C : Nat → va_E) (S : HZ) (Z : EZ) : Prop := ∀ s, s < 8 → rowH (S.1 s) → rg (S.2 s) 0 40 ∧ ∀ i : Nat, (i : Int) < (S.2 s).toInt → gb (C (16 + s)) i = Z s i
theorem gbS {C C2 : Nat → va_E} {k n : Nat} {cA : ClassId} {f : Nat → Int64} (e : C2 = updc C k (.inl (cA, n, .inr (.inl f)))) : gb (C2 k) = f := by
  rw [e, updc_eq]
  rfl
theorem ulS {f : Nat → Int64} {k : Nat} {x : Int64} : vp_updL f k x k = x := if_pos rfl
theorem ulN {f : Nat → Int64} {k j : Nat} {x : Int64} (h : j ≠ k) : vp_updL f k x j = f j := if_neg h
theorem ix40 {s i : Int32} (hs : rg s 0 7) (hi : rg i 0 40) : (s * 40 + i).toNatClampNeg = s.toNatClampNeg * 40 + i.toNatClampNeg := oh_rixz hs rfl hi (by decide)
theorem ex_eq {C u : Nat → va_E} {S : HZ} {Z : EZ} (h : absEX C S Z) (e : u 31 = C 31) : absEX u S Z := by
  intro s hs hr
  rw [e]
  exact h s hs hr
theorem em_eq {C u : Nat → va_E} {S : HZ} {Z : EZ} (h : absEM C S Z) (e : ∀ s, s < 8 → u (16 + s) = C (16 + s)) : absEM u S Z := by
  intro s hs hr
  rw [e s hs]
  exact h s hs hr
/-- shelves that hold rows no longer -/
theorem ex_sub {C u : Nat → va_E} {S S2 : HZ} {Z : EZ} (h : absEX C S Z) (e : u 31 = C 31) (hs2 : ∀ s, s < 8 → rowH (S2.1 s) → rowH (S.1 s) ∧ S2.2 s = S.2 s) : absEX u S2 Z := by
  intro s hs hr
  obtain ⟨r1, r2⟩ := hs2 s hs hr
  rw [e, r2]
  exact h s hs r1
theorem em_sub {C u : Nat → va_E} {S S2 : HZ} {Z : EZ} (h : absEM C S Z) (e : ∀ s, s < 8 → u (16 + s) = C (16 + s)) (hs2 : ∀ s, s < 8 → rowH (S2.1 s) → rowH (S.1 s) ∧ S2.2 s = S.2 s) : absEM u S2 Z := by
  intro s hs hr
  obtain ⟨r1, r2⟩ := hs2 s hs hr
  rw [e s hs, r2]
  exact h s hs r1
theorem sw_sub {A : LA} {S : HZ} {s b : Int32} (hn : rg (A 5 0 1) 0 16) : ∀ a, a < 8 → rowH ((spSw A S s b).1 a) → rowH (S.1 a) ∧ (spSw A S s b).2 a = S.2 a := by
  intro a _ h
  by_cases q : (0 ≤ s ∧ s ≤ 7) ∧ (b = -1 ∨ (0 ≤ b ∧ b < A 5 0 1))
  · rw [show spSw A S s b = _ from pif_pos q] at h ⊢
    have h : rowH (upd S.1 s.toNatClampNeg (cdB b) a) := h
    refine ⟨?_, rfl⟩
    by_cases e : a = s.toNatClampNeg
    · rw [e, pk_us] at h
      exact absurd h (cdB_ok (q.2.elim Or.inl (fun z => Or.inr ⟨Int32.le_iff_toInt_le.mp z.1, by have := Int32.lt_iff_toInt_lt.mp z.2; have := hn.2; omega⟩))).2
    · rw [pk_un e] at h
      exact h
  · rw [show spSw A S s b = S from pif_neg q] at h ⊢
    exact ⟨h, rfl⟩
theorem dr_sub {S : HZ} {n : Int32} {k : Nat} : ∀ a, a < 8 → rowH ((spDr S n k).1 a) → rowH (S.1 a) ∧ (spDr S n k).2 a = S.2 a := by
  intro a _ h
  have h : rowH (pif (a < k ∧ 10 + n ≤ S.1 a) (-1) (S.1 a)) := h
  refine ⟨?_, rfl⟩
  by_cases q : a < k ∧ 10 + n ≤ S.1 a
  · rw [pif_pos q] at h
    exact absurd rfl h.1
  · rw [pif_neg q] at h
    exact h
noncomputable def spRwE (Z : EZ) (s t n : Int32) : EZ := pif ((0 ≤ s ∧ s ≤ 7) ∧ (0 ≤ t ∧ t ≤ 4) ∧ (0 ≤ n ∧ n ≤ 40)) (fun a i => if a = s.toNatClampNeg then 0 else Z a i) Z
theorem ex_row {C u : Nat → va_E} {S : HZ} {Z : EZ} {s t n : Int32} (h : absEX C S Z) (hs : rg s 0 7) (hn : rg n 0 40) (e : ∀ k, gb (u 31) k = if s.toNatClampNeg * 40 ≤ k ∧ k < s.toNatClampNeg * 40 + n.toNatClampNeg then 0 else gb (C 31) k) : absEX u (upd S.1 s.toNatClampNeg t, upd S.2 s.toNatClampNeg n) (fun a i => if a = s.toNatClampNeg then 0 else Z a i) := by
  intro a ha hr
  have hn1 := oh_nat hn (by decide)
  have hn2 := hn.2
  show rg (upd S.2 s.toNatClampNeg n a) 0 40 ∧ ∀ i : Nat, (i : Int) < (upd S.2 s.toNatClampNeg n a).toInt → gb (u 31) (a * 40 + i) = if a = s.toNatClampNeg then 0 else Z a i
  by_cases q : a = s.toNatClampNeg
  · rw [q, pk_us]
    refine ⟨hn, fun i hi => ?_⟩
    rw [if_pos rfl, e, if_pos ⟨by omega, by omega⟩]
  · have hr : rowH (upd S.1 s.toNatClampNeg t a) := hr
    rw [pk_un q] at hr ⊢
    obtain ⟨h1, h2⟩ := h a ha hr
    refine ⟨h1, fun i hi => ?_⟩
    have h3 := h1.2
    rw [if_neg q, e, if_neg (by omega)]
    exact h2 i hi
theorem em_row {C u : Nat → va_E} {S : HZ} {Z : EZ} {s t n : Int32} (h : absEM C S Z) (hn : rg n 0 40) (e : ∀ k : Nat, (k : Int) < 40 → gb (u (16 + s.toNatClampNeg)) k = 0) (e2 : ∀ a, a < 8 → a ≠ s.toNatClampNeg → u (16 + a) = C (16 + a)) : absEM u (upd S.1 s.toNatClampNeg t, upd S.2 s.toNatClampNeg n) (fun a i => if a = s.toNatClampNeg then 0 else Z a i) := by
  intro a ha hr
  have hn2 := hn.2
  show rg (upd S.2 s.toNatClampNeg n a) 0 40 ∧ ∀ i : Nat, (i : Int) < (upd S.2 s.toNatClampNeg n a).toInt → gb (u (16 + a)) i = if a = s.toNatClampNeg then 0 else Z a i
  by_cases q : a = s.toNatClampNeg
  · rw [q, pk_us]
    refine ⟨hn, fun i hi => ?_⟩
    rw [if_pos rfl]
    exact e i (by omega)
  · have hr : rowH (upd S.1 s.toNatClampNeg t a) := hr
    rw [pk_un q] at hr ⊢
    obtain ⟨h1, h2⟩ := h a ha hr
    refine ⟨h1, fun i hi => ?_⟩
    rw [if_neg q, e2 a ha q]
    exact h2 i hi
theorem pr0_s {f f' g : Nat → Int64} {a z : Nat} (h : ∀ k, f k = if a ≤ k ∧ k < a + z then 0 else g k) (e : f' = vp_updL f (a + z) 0) : ∀ k, f' k = if a ≤ k ∧ k < a + (z + 1) then 0 else g k := by
  intro k
  rw [e]
  by_cases q : k = a + z
  · rw [q, ulS, if_pos ⟨by omega, by omega⟩]
  · rw [ulN q, h k]
    by_cases c : a ≤ k ∧ k < a + z
    · rw [if_pos c, if_pos ⟨c.1, by omega⟩]
    · rw [if_neg c, if_neg (by omega)]
theorem z40 {z : Int32} (h : rg z 0 40) : (z + 1).toNatClampNeg = z.toNatClampNeg + 1 := by
  have e2 : (z + 1).toInt = z.toInt + 1 := by
    rw [Int32.toInt_add]
    exact oh_bmod (by show _ ≤ z.toInt + 1; have := h.1; omega) (by show z.toInt + 1 ≤ _; have := h.2; omega)
  have a := oh_nat h (by decide)
  have b := oh_nat (i := z + 1) (l := 0) (u := 41) ⟨by rw [e2]; have := h.1; omega, by rw [e2]; have := h.2; omega⟩ (by decide)
  omega
noncomputable def fitF (t : Int32) (v : Int64) : Int64 := pif (t = 0) (Int32.toInt64 (Int64.toInt32 v).toInt8.toInt32) (pif (t = 1) (Int32.toInt64 (Int64.toInt32 v).toInt16.toInt32) (pif (t = 2) (Int32.toInt64 (Int64.toInt32 v)) (pif (t = 4) (pif (v = 0) 0 1) v)))
noncomputable def spStE (S : HZ) (Z : EZ) (s i : Int32) (v : Int64) : EZ := pif (spSet S s i = 1) (fun a k => if a = s.toNatClampNeg ∧ k = i.toNatClampNeg then fitF (S.1 s.toNatClampNeg) v else Z a k) Z
theorem ex_set {C u : Nat → va_E} {S : HZ} {Z : EZ} {s i : Nat} {v : Int64} (h : absEX C S Z) (hi : i < 40) (e : gb (u 31) = vp_updL (gb (C 31)) (s * 40 + i) v) : absEX u S (fun a k => if a = s ∧ k = i then v else Z a k) := by
  intro a ha hr
  obtain ⟨h1, h2⟩ := h a ha hr
  refine ⟨h1, fun k hk => ?_⟩
  have h3 := h1.2
  show gb (u 31) (a * 40 + k) = if a = s ∧ k = i then v else Z a k
  rw [e]
  by_cases q : a = s ∧ k = i
  · rw [if_pos q, q.1, q.2, ulS]
  · rw [if_neg q, ulN (by omega)]
    exact h2 k hk
theorem em_set {C u : Nat → va_E} {S : HZ} {Z : EZ} {s i : Nat} {v : Int64} (h : absEM C S Z) (e : gb (u (16 + s)) = vp_updL (gb (C (16 + s))) i v) (e2 : ∀ a, a < 8 → a ≠ s → u (16 + a) = C (16 + a)) : absEM u S (fun a k => if a = s ∧ k = i then v else Z a k) := by
  intro a ha hr
  obtain ⟨h1, h2⟩ := h a ha hr
  refine ⟨h1, fun k hk => ?_⟩
  show gb (u (16 + a)) k = if a = s ∧ k = i then v else Z a k
  by_cases c : a = s
  · rw [c, e]
    by_cases q : k = i
    · rw [if_pos ⟨rfl, q⟩, q, ulS]
    · rw [if_neg (fun z => q z.2), ulN q, ← c]
      exact h2 k hk
  · rw [if_neg (fun z => c z.1), e2 a ha c]
    exact h2 k hk
noncomputable def spCpE (S : HZ) (Z : EZ) (p q i j n : Int32) : EZ := pif (((0 ≤ p ∧ p ≤ 7) ∧ (0 ≤ q ∧ q ≤ 7)) ∧ rowH (S.1 p.toNatClampNeg) ∧ rowH (S.1 q.toNatClampNeg) ∧ S.1 p.toNatClampNeg = S.1 q.toNatClampNeg ∧ okCp S p q i j n) (fun a k => if a = q.toNatClampNeg ∧ j.toNatClampNeg ≤ k ∧ k < j.toNatClampNeg + n.toNatClampNeg then Z p.toNatClampNeg (i.toNatClampNeg + (k - j.toNatClampNeg)) else Z a k) Z
theorem ex_copy {C u : Nat → va_E} {S : HZ} {Z : EZ} {p q i j n : Nat} (h : absEX C S Z) (hp : p < 8) (hq : q < 8) (rp : rowH (S.1 p)) (rq : rowH (S.1 q)) (hi : ((i + n : Nat) : Int) ≤ (S.2 p).toInt) (hj : ((j + n : Nat) : Int) ≤ (S.2 q).toInt) (e : gb (u 31) = va_cpy (gb (C 31)) (gb (C 31)) (p * 40 + i) (q * 40 + j) n) : absEX u S (fun a k => if a = q ∧ j ≤ k ∧ k < j + n then Z p (i + (k - j)) else Z a k) := by
  intro a ha hr
  obtain ⟨h1, h2⟩ := h a ha hr
  obtain ⟨p1, p2⟩ := h p hp rp
  obtain ⟨q1, q2⟩ := h q hq rq
  refine ⟨h1, fun k hk => ?_⟩
  have h3 := h1.2
  have p3 := p1.2
  have q3 := q1.2
  show gb (u 31) (a * 40 + k) = if a = q ∧ j ≤ k ∧ k < j + n then Z p (i + (k - j)) else Z a k
  rw [e]
  unfold va_cpy
  by_cases c : a = q ∧ j ≤ k ∧ k < j + n
  · rw [if_pos c, if_pos (by obtain ⟨c1, c2, c3⟩ := c; subst c1; omega), ← p2 (i + (k - j)) (by omega)]
    refine congrArg (gb (C 31)) ?_
    obtain ⟨c1, c2, c3⟩ := c
    subst c1
    omega
  · rw [if_neg c, if_neg (fun d => c ?_)]
    · exact h2 k hk
    · have d1 : a = q := by omega
      subst d1
      exact ⟨rfl, by omega, by omega⟩
theorem em_copy {C u : Nat → va_E} {S : HZ} {Z : EZ} {p q i j n : Nat} (h : absEM C S Z) (hp : p < 8) (rp : rowH (S.1 p)) (hi : ((i + n : Nat) : Int) ≤ (S.2 p).toInt) (e : ∀ k, gb (u (16 + q)) k = if j ≤ k ∧ k < j + n then gb (C (16 + p)) (i + (k - j)) else gb (C (16 + q)) k) (e2 : ∀ a, a < 8 → a ≠ q → u (16 + a) = C (16 + a)) : absEM u S (fun a k => if a = q ∧ j ≤ k ∧ k < j + n then Z p (i + (k - j)) else Z a k) := by
  intro a ha hr
  obtain ⟨h1, h2⟩ := h a ha hr
  obtain ⟨p1, p2⟩ := h p hp rp
  refine ⟨h1, fun k hk => ?_⟩
  show gb (u (16 + a)) k = if a = q ∧ j ≤ k ∧ k < j + n then Z p (i + (k - j)) else Z a k
  by_cases c : a = q
  · rw [c, e]
    by_cases d : j ≤ k ∧ k < j + n
    · rw [if_pos d, if_pos ⟨rfl, d⟩]
      exact p2 _ (by omega)
    · rw [if_neg d, if_neg (fun z => d z.2), ← c]
      exact h2 k hk
  · rw [if_neg (fun z => c z.1), e2 a ha c]
    exact h2 k hk
noncomputable def spElem (S : HZ) (Z : EZ) (s i : Int32) : Int64 := pif ((0 ≤ s ∧ s ≤ 7) ∧ rowH (S.1 s.toNatClampNeg) ∧ (0 ≤ i ∧ i ≤ S.2 s.toNatClampNeg - 1)) (Z s.toNatClampNeg i.toNatClampNeg) 0
theorem sz_lt {z i : Int32} (hz : rg z 0 40) (h : 0 ≤ i ∧ i ≤ z - 1) : rg i 0 39 ∧ ((i.toNatClampNeg : Nat) : Int) < z.toInt := by
  have a := Int32.le_iff_toInt_le.mp h.1
  have b := Int32.le_iff_toInt_le.mp h.2
  have e0 : (0 : Int32).toInt = 0 := rfl
  have e : (z - 1).toInt = z.toInt - 1 := by
    rw [Int32.toInt_sub]
    exact oh_bmod (by show _ ≤ z.toInt - 1; have := hz.1; omega) (by show z.toInt - 1 ≤ _; have := hz.2; omega)
  have r : rg i 0 39 := ⟨by omega, by have := hz.2; omega⟩
  have n := oh_nat r (by decide)
  exact ⟨r, by omega⟩
theorem cp_sum {z i n : Int32} (hz : rg z 0 40) (hn : 0 ≤ n ∧ n ≤ 40) (hi : 0 ≤ i ∧ i ≤ z - n) : ((i.toNatClampNeg + n.toNatClampNeg : Nat) : Int) ≤ z.toInt := by
  have a := Int32.le_iff_toInt_le.mp hn.1
  have b := Int32.le_iff_toInt_le.mp hn.2
  have c := Int32.le_iff_toInt_le.mp hi.1
  have d := Int32.le_iff_toInt_le.mp hi.2
  have e0 : (0 : Int32).toInt = 0 := rfl
  have e40 : (40 : Int32).toInt = 40 := rfl
  have e : (z - n).toInt = z.toInt - n.toInt := by
    rw [Int32.toInt_sub]
    exact oh_bmod (by have := hz.1; omega) (by have := hz.2; omega)
  have n1 := oh_nat (i := n) (l := 0) (u := 40) ⟨by omega, by omega⟩ (by decide)
  have n2 := oh_nat (i := i) (l := 0) (u := 40) ⟨by omega, by have := hz.2; omega⟩ (by decide)
  omega

set_option maxHeartbeats 4000000 in
set_option maxRecDepth 100000 in
theorem e2_X3_putRow (l : Launch) (D : va_G) (E : Nat → ClassId) (G : Nat → Nat) (sz : Nat) (a : Nat → Nat) (C : Nat → va_E) (hT : TyX a E C) (x1 : Int32) (x2 : Int32) (x3 : Int32) (hx1 : rg x1 0 7) (hx3 : rg x3 0 40) : Met l yX3_putRow (oh_w yX3_putRow cX3_putRow 5 none) ({ frames := 0, cells := 0, slots := 0, locals := 0 }) (oh_Pm D E G [.ref (a 4), .int x1, .int x2, .int x3] (oh_W 35 a C) sz) (va_Qv (fun (u : Nat → va_E) => TyX a E u ∧ fr [(29, 32)] [] C u ∧ (ga (u 29) = upd (ga (C 29)) x1.toNatClampNeg x2) ∧ (ga (u 30) = upd (ga (C 30)) x1.toNatClampNeg x3) ∧ (∀ k, gb (u 31) k = if x1.toNatClampNeg * 40 ≤ k ∧ k < x1.toNatClampNeg * 40 + x3.toNatClampNeg then 0 else gb (C 31) k)) (oh_B D (va_A (oh_W 35 a C) sz) (fun u => oh_W 35 a u)) (va_A (oh_W 35 a C) sz)) 0 0 (va_A (oh_W 35 a C) sz) := by
  refine Met.ofW (cc := cX3_putRow) (maxL := 5) (ret := none) (by decide) rfl ?_
  intro p e s m args below meth c s₁ B hml hv
  obtain ⟨rfl, hsz, hP, hK, hD0, hG⟩ := hv
  have hx := B.exec
  have hb := B.bytes
  have hr := B.returns
  have hts := atoms_spec (ws := (oh_w yX3_putRow cX3_putRow 5 none)) B.pre
  have htg : ∀ w ∈ oh_t, w.before _ s = true := fun w h => hts w (List.mem_cons_of_mem _ h)
  have hown : s.vm.findClass RX3 = some m.cls := findClass_of_methodNamed B.named
  have hlocks := B.notSynchronized
  have hT0 := hT
  subst hsz
  have hD := hD0.self (sz := s.heap.size)
  generalize hAe : va_A (oh_W 35 a C) s.heap.size = A at hD hG ⊢
  have hA : ∀ q : Nat, s.heap.size ≤ q → A q := fun q h => by rw [← hAe]; exact Or.inr h
  have hS : va_S A s.heap s.heap [] := va_S.rf
  have hF : fr [(29, 32)] [] C C := fr_rf
  have hl := lv_entry ([.ref (a 4), .int x1, .int x2, .int x3]) (n := 5) (Nat.le_of_ble_eq_true rfl)
  rw [lg_entry_eq]
  generalize (lg_sl ([.ref (a 4), .int x1, .int x2, .int x3]) ++ List.replicate (5 - (lg_sl ([.ref (a 4), .int x1, .int x2, .int x3])).length) Slot.unset).toArray = ls at hl ⊢
  have hl : lv_has ls 5 [(0, .ref (a 4)), (1, .int x1), (2, .int x2), (3, .int x3)] := hl
  refine oh_genQ (fun Q hQ => ?_)
  refine lv_aload_n hx hb dX3_putRow_0 rfl (lv_at hl 0 rfl) ?_
  refine va_get (D := D) (ci := 3) (v := .ref (a 29)) (C := RX3) (T := TX3) (N := 3) hx hb htg ig_3 hown hK hP 4 (oh_wg (by decide) (sX_4 hT)) rfl 0 (by decide) (htg _ q_198) (fun _ h9 => h9) rfl dX3_putRow_1 ?_
  refine lv_iload_n hx hb dX3_putRow_4 rfl (lv_at hl 1 rfl) ?_
  refine lv_iload_n hx hb dX3_putRow_5 rfl (lv_at hl 2 rfl) ?_
  have n_1 : vp_in x1 8 := (rg_in hx1 (by decide))
  refine th_iast (T := TyX a E) (Rl := fr [(29, 32)] [] C) hx hb hK hP hD hS 29 (by decide) (sX_29 hT) n_1 (hT.up 29 (tA_upd (tX_29 hT) tA_any)) (fr_st hF (by decide) (by decide)) dX3_putRow_6 (fun C_2 H locs e_3 hT hF hP hD hS => ?_)
  have t_4 := hT
  refine lv_aload_n hx hb dX3_putRow_7 rfl (lv_at hl 0 rfl) ?_
  refine va_get (D := D) (ci := 3) (v := .ref (a 30)) (C := RX3) (T := TX3) (N := 3) hx hb htg ig_3 hown hK hP 4 (oh_wg (by decide) (sX_4 hT)) rfl 1 (by decide) (htg _ q_200) (fun _ h9 => h9) rfl dX3_putRow_8 ?_
  refine lv_iload_n hx hb dX3_putRow_11 rfl (lv_at hl 1 rfl) ?_
  refine lv_iload_n hx hb dX3_putRow_12 rfl (lv_at hl 3 rfl) ?_
  have n_5 : vp_in x1 8 := (rg_in hx1 (by decide))
  refine th_iast (T := TyX a E) (Rl := fr [(29, 32)] [] C) hx hb hK hP hD hS 30 (by decide) (sX_30 hT) n_5 (hT.up 30 (tA_upd (tX_30 hT) (tA_stc (Nat.mod_one _) hx3 (by decide)))) (fr_st hF (by decide) (by decide)) dX3_putRow_13 (fun C_6 H locs e_7 hT hF hP hD hS => ?_)
  have t_8 := hT
  refine lv_iconst (v := 0) hx hb dX3_putRow_14 (by decide) ?_
  refine lv_istore (lv' := [(4, .int 0), (0, .ref (a 4)), (1, .int x1), (2, .int x2), (3, .int x3)]) hx hb dX3_putRow_15 hl (by decide) rfl (fun ls hl => ?_)
  have L_17 : ∀ (d : Nat) (K17 : Nat → va_E) (z17_4 : Int32) (H : Heap) (locs : List Loc) (ls : Array Slot), (40 - z17_4.toInt).toNat = d → rg z17_4 0 40 → (∀ k, gb (K17 31) k = if x1.toNatClampNeg * 40 ≤ k ∧ k < x1.toNatClampNeg * 40 + z17_4.toNatClampNeg then 0 else gb (C 31) k) → (z17_4.toInt ≤ x3.toInt) → TyX a E K17 → fr [(29, 32)] [] C K17 → fr [(31, 32)] [] C_6 K17 → va_P D vwCl (oh_W 35 a K17) H → va_D A (oh_W 35 a K17) → va_S A s.heap H locs → lv_has ls 5 [(4, .int z17_4), (0, .ref (a 4)), (1, .int x1), (2, .int x2), (3, .int x3)] → W p l e ({ frames := 0, cells := 0, slots := 0, locals := 0 }) s m (([.ref (a 4), .int x1, .int x2, .int x3] : List Value).toArray) below meth c H locs 0 0 Q (F0 m 17 ls []) := by
    intro d
    induction d using Nat.strongRecOn with
    | ind d ih_17 =>
    intro K17 z17_4 H locs ls hd_17 hz17_4 hx_17 hy_17 hT hF hLF_17 hP hD hS hl
    have t_9 := hT
    refine lv_iload hx hb dX3_putRow_17 (lv_at hl 0 rfl) ?_
    refine lv_iload_n hx hb dX3_putRow_19 rfl (lv_at hl 4 rfl) ?_
    refine lv_icmp_ge (tgt := 42) hx hb dX3_putRow_20 (by decide) (fun (c_10 : x3 ≤ z17_4) => ?_) (fun (c_10 : ¬ (x3 ≤ z17_4)) => ?_)
    · rw [hQ]
      exact W.vret hx hb hr (fun t ht hW => ⟨⟨K17, rfl, ⟨hT, hF, ⟨(by rw [(Eq.trans (hLF_17.1 29 rfl (by decide)) (th_un e_7 (by decide))), (st_ga e_3)]), (by rw [(hLF_17.1 30 rfl (by decide)), (st_ga e_7), (th_un e_3 (by decide))]), (by have h7 := hx_17; rw [show z17_4 = x3 from Int32.toInt_inj.mp (by have h8 := Int32.le_iff_toInt_le.mp c_10; have h9 := hy_17; omega)] at h7; exact h7)⟩⟩, ⟨by rw [ht]; exact hP, hD⟩⟩, hS.F ht⟩) hS.2.2 dX3_putRow_42
    · refine lv_aload_n hx hb dX3_putRow_23 rfl (lv_at hl 1 rfl) ?_
      refine va_get (D := D) (ci := 3) (v := .ref (a 31)) (C := RX3) (T := TX3) (N := 3) hx hb htg ig_3 hown hK hP 4 (oh_wg (by decide) (sX_4 hT)) rfl 2 (by decide) (htg _ q_202) (fun _ h9 => h9) rfl dX3_putRow_24 ?_
      refine lv_iload_n hx hb dX3_putRow_27 rfl (lv_at hl 2 rfl) ?_
      refine lv_bipush (v := 40) hx hb dX3_putRow_28 (by decide) ?_
      refine lv_imul hx hb dX3_putRow_30 ?_
      refine lv_iload hx hb dX3_putRow_31 (lv_at hl 0 rfl) ?_
      refine lv_iadd hx hb dX3_putRow_33 ?_
      refine lv_lconst (v := 0) hx hb dX3_putRow_34 (by decide) ?_
      have n_11 : vp_in ((x1 * 40) + z17_4) 320 := (rg_in (rg_add (lo := 0) (hi := 319) (rg_mul (lo := 0) (hi := 280) hx1 (rg_c (v := 40) (lo := 40) (hi := 40) (by decide)) (by decide)) (rn_ltu (u' := 39) (Int32.not_le.mp c_10) hz17_4 hx3 (by decide)) (by decide)) (by decide))
      refine th_last (T := TyX a E) (Rl := fr [(29, 32)] [] C) hx hb hK hP hD hS 31 (by decide) (sX_31 hT) n_11 (hT.up 31 rfl) (fr_st hF (by decide) (by decide)) dX3_putRow_35 (fun C_12 H locs e_13 hT hF hP hD hS => ?_)
      have t_14 := hT
      refine lv_iinc (v := z17_4 + 1) (lv' := [(4, .int (z17_4 + 1)), (0, .ref (a 4)), (1, .int x1), (2, .int x2), (3, .int x3)]) hx hb dX3_putRow_36 hl (k := 0) rfl (by rfl) (by decide) rfl (fun ls hl => ?_)
      refine lv_goto (tgt := 17) hx hb dX3_putRow_39 (by decide) ?_
      exact ih_17 _ (hd_17 ▸ mu_up 40 (rn_ltu (u' := 39) (Int32.not_le.mp c_10) hz17_4 hx3 (by decide)) (by decide)) C_12 (z17_4 + 1) _ _ ls rfl (rg_w (rg_add (lo := 1) (hi := 40) (rn_ltu (u' := 39) (Int32.not_le.mp c_10) hz17_4 hx3 (by decide)) (rg_c (v := 1) (lo := 1) (hi := 1) (by decide)) (by decide)) (by decide)) (by rw [z40 (rg_w (lo := 0) (hi := 40) (rn_ltu (u' := 39) (Int32.not_le.mp c_10) hz17_4 hx3 (by decide)) (by decide))]; exact pr0_s hx_17 (by rw [gbS e_13, ix40 hx1 (rg_w (lo := 0) (hi := 40) (rn_ltu (u' := 39) (Int32.not_le.mp c_10) hz17_4 hx3 (by decide)) (by decide))])) (by have h7 := Int32.lt_iff_toInt_lt.mp (Int32.not_le.mp c_10); have h8 : (z17_4 + 1).toInt = z17_4.toInt + 1 := oh_incr (rn_ltu (u' := 39) (Int32.not_le.mp c_10) hz17_4 hx3 (by decide)) (by decide); omega) hT hF (fr_ste hLF_17 e_13 (by decide) (by decide)) hP hD hS (lv_sub hl [0, 1, 2, 3, 4] rfl)
  exact L_17 _ C_6 0 _ _ ls rfl (rg_w (rg_c (v := 0) (lo := 0) (hi := 0) (by decide)) (by decide)) (fun k => by rw [show (0 : Int32).toNatClampNeg = 0 from rfl, if_neg (by omega), (Eq.trans (th_un e_7 (by decide)) (th_un e_3 (by decide)))]) hx3.1 hT hF fr_rf hP hD hS (lv_sub hl [0, 1, 2, 3, 4] rfl)

set_option maxHeartbeats 4000000 in
set_option maxRecDepth 100000 in
theorem e2_X6_row (l : Launch) (D : va_G) (E : Nat → ClassId) (G : Nat → Nat) (sz : Nat) (a : Nat → Nat) (C : Nat → va_E) (hT : TyX a E C) (x1 : Int32) (x2 : Int32) (x3 : Int32) : Met l yX6_row (oh_w yX6_row cX6_row 4 (some .int)) ({ frames := 2, cells := 0, slots := 0, locals := 44 }) (oh_Pm D E G [.ref (a 0), .int x1, .int x2, .int x3] (oh_W 35 a C) sz) (va_Qi (fun r (u : Nat → va_E) => TyX a E u ∧ fr [(7, 8), (29, 32)] [] C u ∧ (r = oh_row x1 x2 x3) ∧ (∀ S : HZ, absHX C S → absHX u (spRw S x1 x2 x3)) ∧ (∀ (S : HZ) (Z : EZ), absEX C S Z → absEX u (spRw S x1 x2 x3) (spRwE Z x1 x2 x3))) (oh_B D (va_A (oh_W 35 a C) sz) (fun u => oh_W 35 a u)) (va_A (oh_W 35 a C) sz)) 0 0 (va_A (oh_W 35 a C) sz) := by
  refine Met.ofW (cc := cX6_row) (maxL := 4) (ret := (some .int)) (by decide) rfl ?_
  intro p e s m args below meth c s₁ B hml hv
  obtain ⟨rfl, hsz, hP, hK, hD0, hG⟩ := hv
  have hx := B.exec
  have hb := B.bytes
  have hr := B.returns
  have hts := atoms_spec (ws := (oh_w yX6_row cX6_row 4 (some .int))) B.pre
  have htg : ∀ w ∈ oh_t, w.before _ s = true := fun w h => hts w (List.mem_cons_of_mem _ h)
  have hown : s.vm.findClass RX6 = some m.cls := findClass_of_methodNamed B.named
  have hlocks := B.notSynchronized
  have hT0 := hT
  subst hsz
  have hD := hD0.self (sz := s.heap.size)
  generalize hAe : va_A (oh_W 35 a C) s.heap.size = A at hD hG ⊢
  have hA : ∀ q : Nat, s.heap.size ≤ q → A q := fun q h => by rw [← hAe]; exact Or.inr h
  have hS : va_S A s.heap s.heap [] := va_S.rf
  have hF : fr [(7, 8), (29, 32)] [] C C := fr_rf
  have hl := lv_entry ([.ref (a 0), .int x1, .int x2, .int x3]) (n := 4) (Nat.le_of_ble_eq_true rfl)
  rw [lg_entry_eq]
  generalize (lg_sl ([.ref (a 0), .int x1, .int x2, .int x3]) ++ List.replicate (4 - (lg_sl ([.ref (a 0), .int x1, .int x2, .int x3])).length) Slot.unset).toArray = ls at hl ⊢
  have hl : lv_has ls 4 [(0, .ref (a 0)), (1, .int x1), (2, .int x2), (3, .int x3)] := hl
  refine oh_genQ (fun Q hQ => ?_)
  refine lv_iload_n hx hb dX6_row_0 rfl (lv_at hl 1 rfl) ?_
  refine tq_S (As := [.int x1]) (rest := []) (ws := []) ⟨hx, hb, hml, hown, htg⟩ (c_X6_isShelf l D E G x1) (va_cwS 1 htg (oh_gS q_290 q_291 q_66 q_292) rfl rfl rfl pdX6_isShelf ⟨Nat.le_of_ble_eq_true rfl, Nat.le_of_ble_eq_true rfl⟩) hK va_nil hG hS rfl hl.1 rfl (Nat.le_of_ble_eq_true rfl) dX6_row_1 ⟨Nat.le_of_ble_eq_true rfl, Nat.le_of_ble_eq_true rfl⟩ (fun r_1 hq_2 => ?_)
  refine lv_if_eq (tgt := 26) hx hb dX6_row_4 (by decide) (fun (c_3 : r_1 = 0) => ?_) (fun (c_3 : ¬ (r_1 = 0)) => ?_)
  · have u_4 := hq_2.2.2 c_3
    refine lv_aload_n hx hb dX6_row_26 rfl (lv_at hl 0 rfl) ?_
    refine lv_bipush (v := (-2)) hx hb dX6_row_27 (by decide) ?_
    refine tm_V (As := [.int (-2)]) (rest := []) ⟨hx, hb, hml, hown, htg⟩ (c_X6_refuse l D E G _ a C hT ((-2) : Int32)) (cwV 1 htg (oh_gV q_296 q_298 q_0 q_66 q_299) rfl rfl rfl pdVX6_refuse ⟨Nat.le_of_ble_eq_true rfl, Nat.le_of_ble_eq_true rfl⟩) hK hP hD hG hS hA (va_recv hK hP (ci := 6) (q0 := 0) rfl (oh_wg (by decide) (sX_0 hT))) rfl hl.1 rfl (Nat.le_of_ble_eq_true rfl) dX6_row_29 ⟨Nat.le_of_ble_eq_true rfl, Nat.le_of_ble_eq_true rfl⟩ (fun r_5 C_6 H locs hq_7 hP hD hS => ?_)
    obtain ⟨hT, f_8, hq_7⟩ := hq_7
    have hF := fr_tr hF f_8 (by decide) (by decide)
    refine W.widen (k := 0) (n := 0) (Nat.le_refl _) (Nat.le_refl _) ?_
    have t_9 := hT
    rw [hQ]
    exact W.iret (v := r_5) hx hb hr (fun t ht hW => ⟨⟨r_5, C_6, rfl, ⟨hT, hF, ⟨(oh_row2 hq_7 (Or.inl u_4)), (fun S hS0 => by rw [show spRw S x1 x2 x3 = S from pif_neg (fun h8 => u_4 h8.1)]; exact (hx_fr hS0 (f_8.1 29 rfl (by decide)) (f_8.1 30 rfl (by decide)))), (fun S Z hE => by rw [show spRw S x1 x2 x3 = S from pif_neg (fun h8 => u_4 h8.1), show spRwE Z x1 x2 x3 = Z from pif_neg (fun h8 => u_4 h8.1)]; exact ex_eq hE (f_8.1 31 rfl (by decide)))⟩⟩, ⟨by rw [ht]; exact hP, hD⟩⟩, hS.F ht⟩) hS.2.2 dX6_row_32
  · have u_10 := hq_2.2.1 c_3
    refine lv_iload_n hx hb dX6_row_7 rfl (lv_at hl 2 rfl) ?_
    refine lv_iconst (v := 0) hx hb dX6_row_8 (by decide) ?_
    refine lv_iconst (v := 4) hx hb dX6_row_9 (by decide) ?_
    refine tq_S (As := [.int x2, .int 0, .int 4]) (rest := []) (ws := []) ⟨hx, hb, hml, hown, htg⟩ (c_X6_within l D E G x2 (0 : Int32) (4 : Int32)) (va_cwS 3 htg (oh_gS q_293 q_294 q_66 q_295) rfl rfl rfl pdX6_within ⟨Nat.le_of_ble_eq_true rfl, Nat.le_of_ble_eq_true rfl⟩) hK va_nil hG hS rfl hl.1 rfl (Nat.le_of_ble_eq_true rfl) dX6_row_10 ⟨Nat.le_of_ble_eq_true rfl, Nat.le_of_ble_eq_true rfl⟩ (fun r_11 hq_12 => ?_)
    refine lv_if_eq (tgt := 26) hx hb dX6_row_13 (by decide) (fun (c_13 : r_11 = 0) => ?_) (fun (c_13 : ¬ (r_11 = 0)) => ?_)
    · have u_14 := hq_12.2.2 c_13
      refine lv_aload_n hx hb dX6_row_26 rfl (lv_at hl 0 rfl) ?_
      refine lv_bipush (v := (-2)) hx hb dX6_row_27 (by decide) ?_
      refine tm_V (As := [.int (-2)]) (rest := []) ⟨hx, hb, hml, hown, htg⟩ (c_X6_refuse l D E G _ a C hT ((-2) : Int32)) (cwV 1 htg (oh_gV q_296 q_298 q_0 q_66 q_299) rfl rfl rfl pdVX6_refuse ⟨Nat.le_of_ble_eq_true rfl, Nat.le_of_ble_eq_true rfl⟩) hK hP hD hG hS hA (va_recv hK hP (ci := 6) (q0 := 0) rfl (oh_wg (by decide) (sX_0 hT))) rfl hl.1 rfl (Nat.le_of_ble_eq_true rfl) dX6_row_29 ⟨Nat.le_of_ble_eq_true rfl, Nat.le_of_ble_eq_true rfl⟩ (fun r_15 C_16 H locs hq_17 hP hD hS => ?_)
      obtain ⟨hT, f_18, hq_17⟩ := hq_17
      have hF := fr_tr hF f_18 (by decide) (by decide)
      refine W.widen (k := 0) (n := 0) (Nat.le_refl _) (Nat.le_refl _) ?_
      have t_19 := hT
      rw [hQ]
      exact W.iret (v := r_15) hx hb hr (fun t ht hW => ⟨⟨r_15, C_16, rfl, ⟨hT, hF, ⟨(oh_row2 hq_17 (Or.inr (Or.inl u_14))), (fun S hS0 => by rw [show spRw S x1 x2 x3 = S from pif_neg (fun h8 => u_14 h8.2.1)]; exact (hx_fr hS0 (f_18.1 29 rfl (by decide)) (f_18.1 30 rfl (by decide)))), (fun S Z hE => by rw [show spRw S x1 x2 x3 = S from pif_neg (fun h8 => u_14 h8.2.1), show spRwE Z x1 x2 x3 = Z from pif_neg (fun h8 => u_14 h8.2.1)]; exact ex_eq hE (f_18.1 31 rfl (by decide)))⟩⟩, ⟨by rw [ht]; exact hP, hD⟩⟩, hS.F ht⟩) hS.2.2 dX6_row_32
    · have u_20 := hq_12.2.1 c_13
      refine lv_iload_n hx hb dX6_row_16 rfl (lv_at hl 3 rfl) ?_
      refine lv_iconst (v := 0) hx hb dX6_row_17 (by decide) ?_
      refine lv_bipush (v := 40) hx hb dX6_row_18 (by decide) ?_
      refine tq_S (As := [.int x3, .int 0, .int 40]) (rest := []) (ws := []) ⟨hx, hb, hml, hown, htg⟩ (c_X6_within l D E G x3 (0 : Int32) (40 : Int32)) (va_cwS 3 htg (oh_gS q_293 q_294 q_66 q_295) rfl rfl rfl pdX6_within ⟨Nat.le_of_ble_eq_true rfl, Nat.le_of_ble_eq_true rfl⟩) hK va_nil hG hS rfl hl.1 rfl (Nat.le_of_ble_eq_true rfl) dX6_row_20 ⟨Nat.le_of_ble_eq_true rfl, Nat.le_of_ble_eq_true rfl⟩ (fun r_21 hq_22 => ?_)
      refine lv_if_ne (tgt := 33) hx hb dX6_row_23 (by decide) (fun (c_23 : ¬ (r_21 = 0)) => ?_) (fun (c_23 : r_21 = 0) => ?_)
      · have u_24 := hq_22.2.1 c_23
        refine lv_aload_n hx hb dX6_row_33 rfl (lv_at hl 0 rfl) ?_
        refine va_get (D := D) (ci := 6) (v := .ref (a 4)) (C := RX6) (T := TX6) (N := 9) hx hb htg ig_6 hown hK hP 0 (oh_wg (by decide) (sX_0 hT)) rfl 4 (by decide) (htg _ q_262) (fun _ h9 => h9) rfl dX6_row_34 ?_
        refine lv_iload_n hx hb dX6_row_37 rfl (lv_at hl 1 rfl) ?_
        refine lv_iload_n hx hb dX6_row_38 rfl (lv_at hl 2 rfl) ?_
        refine lv_iload_n hx hb dX6_row_39 rfl (lv_at hl 3 rfl) ?_
        refine tm_Vv (As := [.int x1, .int x2, .int x3]) (rest := []) ⟨hx, hb, hml, hown, htg⟩ (e2_X3_putRow l D E G _ a C hT x1 x2 x3 (rg_w u_10 (by decide)) (rg_w (rn_leu u_24.2 (rn_lel u_24.1 (rg_c (v := 0) (lo := 0) (hi := 0) (by decide)) (rg_any _)) (rg_c (v := 40) (lo := 40) (hi := 40) (by decide))) (by decide))) (cwV 3 htg (oh_gV q_300 q_301 q_302 q_70 q_303) rfl rfl rfl pdVX3_putRow ⟨Nat.le_of_ble_eq_true rfl, Nat.le_of_ble_eq_true rfl⟩) hK hP hD hG hS hA (va_recv hK hP (ci := 3) (q0 := 4) rfl (oh_wg (by decide) (sX_4 hT))) rfl hl.1 rfl (Nat.le_of_ble_eq_true rfl) dX6_row_40 ⟨Nat.le_of_ble_eq_true rfl, Nat.le_of_ble_eq_true rfl⟩ (fun C_26 H locs hq_27 hP hD hS => ?_)
        obtain ⟨hT, f_28, hq_27⟩ := hq_27
        have hF := fr_tr hF f_28 (by decide) (by decide)
        refine W.widen (k := 0) (n := 0) (Nat.le_refl _) (Nat.le_refl _) ?_
        have t_29 := hT
        refine lv_iconst (v := 1) hx hb dX6_row_43 (by decide) ?_
        rw [hQ]
        exact W.iret (v := 1) hx hb hr (fun t ht hW => ⟨⟨1, C_26, rfl, ⟨hT, hF, ⟨(oh_row1 (rg_w u_10 (by decide)) (rg_w (rn_leu u_20.2 (rn_lel u_20.1 (rg_c (v := 0) (lo := 0) (hi := 0) (by decide)) (rg_any _)) (rg_c (v := 4) (lo := 4) (hi := 4) (by decide))) (by decide)) (rg_w (rn_leu u_24.2 (rn_lel u_24.1 (rg_c (v := 0) (lo := 0) (hi := 0) (by decide)) (rg_any _)) (rg_c (v := 40) (lo := 40) (hi := 40) (by decide))) (by decide))), (fun S hS0 => by rw [show spRw S x1 x2 x3 = _ from pif_pos ⟨(oh_rgI (p := 0) (q := 7) (rg_w (lo := 0) (hi := 7) u_10 (by decide))), (oh_rgI (p := 0) (q := 4) (rg_w (lo := 0) (hi := 4) (rn_leu u_20.2 (rn_lel u_20.1 (rg_c (v := 0) (lo := 0) (hi := 0) (by decide)) (rg_any _)) (rg_c (v := 4) (lo := 4) (hi := 4) (by decide))) (by decide))), (oh_rgI (p := 0) (q := 40) (rg_w (lo := 0) (hi := 40) (rn_leu u_24.2 (rn_lel u_24.1 (rg_c (v := 0) (lo := 0) (hi := 0) (by decide)) (rg_any _)) (rg_c (v := 40) (lo := 40) (hi := 40) (by decide))) (by decide)))⟩]; exact hx_row hS0 (oh_rgI (p := 0) (q := 4) (rg_w (lo := 0) (hi := 4) (rn_leu u_20.2 (rn_lel u_20.1 (rg_c (v := 0) (lo := 0) (hi := 0) (by decide)) (rg_any _)) (rg_c (v := 4) (lo := 4) (hi := 4) (by decide))) (by decide))).1 (oh_rgI (p := 0) (q := 4) (rg_w (lo := 0) (hi := 4) (rn_leu u_20.2 (rn_lel u_20.1 (rg_c (v := 0) (lo := 0) (hi := 0) (by decide)) (rg_any _)) (rg_c (v := 4) (lo := 4) (hi := 4) (by decide))) (by decide))).2 hq_27.1 hq_27.2.1), (fun S Z hE => by rw [show spRw S x1 x2 x3 = _ from pif_pos ⟨(oh_rgI (p := 0) (q := 7) (rg_w (lo := 0) (hi := 7) u_10 (by decide))), (oh_rgI (p := 0) (q := 4) (rg_w (lo := 0) (hi := 4) (rn_leu u_20.2 (rn_lel u_20.1 (rg_c (v := 0) (lo := 0) (hi := 0) (by decide)) (rg_any _)) (rg_c (v := 4) (lo := 4) (hi := 4) (by decide))) (by decide))), (oh_rgI (p := 0) (q := 40) (rg_w (lo := 0) (hi := 40) (rn_leu u_24.2 (rn_lel u_24.1 (rg_c (v := 0) (lo := 0) (hi := 0) (by decide)) (rg_any _)) (rg_c (v := 40) (lo := 40) (hi := 40) (by decide))) (by decide)))⟩, show spRwE Z x1 x2 x3 = _ from pif_pos ⟨(oh_rgI (p := 0) (q := 7) (rg_w (lo := 0) (hi := 7) u_10 (by decide))), (oh_rgI (p := 0) (q := 4) (rg_w (lo := 0) (hi := 4) (rn_leu u_20.2 (rn_lel u_20.1 (rg_c (v := 0) (lo := 0) (hi := 0) (by decide)) (rg_any _)) (rg_c (v := 4) (lo := 4) (hi := 4) (by decide))) (by decide))), (oh_rgI (p := 0) (q := 40) (rg_w (lo := 0) (hi := 40) (rn_leu u_24.2 (rn_lel u_24.1 (rg_c (v := 0) (lo := 0) (hi := 0) (by decide)) (rg_any _)) (rg_c (v := 40) (lo := 40) (hi := 40) (by decide))) (by decide)))⟩]; exact ex_row hE (rg_w (lo := 0) (hi := 7) u_10 (by decide)) (rg_w (lo := 0) (hi := 40) (rn_leu u_24.2 (rn_lel u_24.1 (rg_c (v := 0) (lo := 0) (hi := 0) (by decide)) (rg_any _)) (rg_c (v := 40) (lo := 40) (hi := 40) (by decide))) (by decide)) hq_27.2.2)⟩⟩, ⟨by rw [ht]; exact hP, hD⟩⟩, hS.F ht⟩) hS.2.2 dX6_row_44
      · have u_30 := hq_22.2.2 c_23
        refine lv_aload_n hx hb dX6_row_26 rfl (lv_at hl 0 rfl) ?_
        refine lv_bipush (v := (-2)) hx hb dX6_row_27 (by decide) ?_
        refine tm_V (As := [.int (-2)]) (rest := []) ⟨hx, hb, hml, hown, htg⟩ (c_X6_refuse l D E G _ a C hT ((-2) : Int32)) (cwV 1 htg (oh_gV q_296 q_298 q_0 q_66 q_299) rfl rfl rfl pdVX6_refuse ⟨Nat.le_of_ble_eq_true rfl, Nat.le_of_ble_eq_true rfl⟩) hK hP hD hG hS hA (va_recv hK hP (ci := 6) (q0 := 0) rfl (oh_wg (by decide) (sX_0 hT))) rfl hl.1 rfl (Nat.le_of_ble_eq_true rfl) dX6_row_29 ⟨Nat.le_of_ble_eq_true rfl, Nat.le_of_ble_eq_true rfl⟩ (fun r_31 C_32 H locs hq_33 hP hD hS => ?_)
        obtain ⟨hT, f_34, hq_33⟩ := hq_33
        have hF := fr_tr hF f_34 (by decide) (by decide)
        refine W.widen (k := 0) (n := 0) (Nat.le_refl _) (Nat.le_refl _) ?_
        have t_35 := hT
        rw [hQ]
        exact W.iret (v := r_31) hx hb hr (fun t ht hW => ⟨⟨r_31, C_32, rfl, ⟨hT, hF, ⟨(oh_row2 hq_33 (Or.inr (Or.inr u_30))), (fun S hS0 => by rw [show spRw S x1 x2 x3 = S from pif_neg (fun h8 => u_30 h8.2.2)]; exact (hx_fr hS0 (f_34.1 29 rfl (by decide)) (f_34.1 30 rfl (by decide)))), (fun S Z hE => by rw [show spRw S x1 x2 x3 = S from pif_neg (fun h8 => u_30 h8.2.2), show spRwE Z x1 x2 x3 = Z from pif_neg (fun h8 => u_30 h8.2.2)]; exact ex_eq hE (f_34.1 31 rfl (by decide)))⟩⟩, ⟨by rw [ht]; exact hP, hD⟩⟩, hS.F ht⟩) hS.2.2 dX6_row_32

set_option maxHeartbeats 4000000 in
set_option maxRecDepth 100000 in
theorem e3_X6_show (l : Launch) (D : va_G) (E : Nat → ClassId) (G : Nat → Nat) (sz : Nat) (a : Nat → Nat) (C : Nat → va_E) (hT : TyX a E C) (x1 : Int32) (x2 : Int32) : Met l yX6_show (oh_w yX6_show cX6_show 3 (some .int)) ({ frames := 2, cells := 0, slots := 0, locals := 44 }) (oh_Pm D E G [.ref (a 0), .int x1, .int x2] (oh_W 35 a C) sz) (va_Qi (fun r (u : Nat → va_E) => TyX a E u ∧ fr [(7, 8), (29, 31)] [] C u ∧ (∀ A : LA, absX 10 C A → r = spShow A x1 x2) ∧ (∀ A : LA, absX 10 C A → ∀ S : HZ, absHX C S → absHX u (spSw A S x1 x2)) ∧ (∀ A : LA, absX 10 C A → ∀ (S : HZ) (Z : EZ), absEX C S Z → absEX u (spSw A S x1 x2) Z)) (oh_B D (va_A (oh_W 35 a C) sz) (fun u => oh_W 35 a u)) (va_A (oh_W 35 a C) sz)) 0 0 (va_A (oh_W 35 a C) sz) := by
  refine Met.ofW (cc := cX6_show) (maxL := 3) (ret := (some .int)) (by decide) rfl ?_
  intro p e s m args below meth c s₁ B hml hv
  obtain ⟨rfl, hsz, hP, hK, hD0, hG⟩ := hv
  have hx := B.exec
  have hb := B.bytes
  have hr := B.returns
  have hts := atoms_spec (ws := (oh_w yX6_show cX6_show 3 (some .int))) B.pre
  have htg : ∀ w ∈ oh_t, w.before _ s = true := fun w h => hts w (List.mem_cons_of_mem _ h)
  have hown : s.vm.findClass RX6 = some m.cls := findClass_of_methodNamed B.named
  have hlocks := B.notSynchronized
  have hT0 := hT
  subst hsz
  have hD := hD0.self (sz := s.heap.size)
  generalize hAe : va_A (oh_W 35 a C) s.heap.size = A at hD hG ⊢
  have hA : ∀ q : Nat, s.heap.size ≤ q → A q := fun q h => by rw [← hAe]; exact Or.inr h
  have hS : va_S A s.heap s.heap [] := va_S.rf
  have hF : fr [(7, 8), (29, 31)] [] C C := fr_rf
  have hl := lv_entry ([.ref (a 0), .int x1, .int x2]) (n := 3) (Nat.le_of_ble_eq_true rfl)
  rw [lg_entry_eq]
  generalize (lg_sl ([.ref (a 0), .int x1, .int x2]) ++ List.replicate (3 - (lg_sl ([.ref (a 0), .int x1, .int x2])).length) Slot.unset).toArray = ls at hl ⊢
  have hl : lv_has ls 3 [(0, .ref (a 0)), (1, .int x1), (2, .int x2)] := hl
  refine oh_genQ (fun Q hQ => ?_)
  refine lv_iload_n hx hb dX6_show_0 rfl (lv_at hl 1 rfl) ?_
  refine tq_S (As := [.int x1]) (rest := []) (ws := []) ⟨hx, hb, hml, hown, htg⟩ (c_X6_isShelf l D E G x1) (va_cwS 1 htg (oh_gS q_290 q_291 q_66 q_292) rfl rfl rfl pdX6_isShelf ⟨Nat.le_of_ble_eq_true rfl, Nat.le_of_ble_eq_true rfl⟩) hK va_nil hG hS rfl hl.1 rfl (Nat.le_of_ble_eq_true rfl) dX6_show_1 ⟨Nat.le_of_ble_eq_true rfl, Nat.le_of_ble_eq_true rfl⟩ (fun r_1 hq_2 => ?_)
  refine lv_if_eq (tgt := 20) hx hb dX6_show_4 (by decide) (fun (c_3 : r_1 = 0) => ?_) (fun (c_3 : ¬ (r_1 = 0)) => ?_)
  · have u_4 := hq_2.2.2 c_3
    refine lv_aload_n hx hb dX6_show_20 rfl (lv_at hl 0 rfl) ?_
    refine lv_bipush (v := (-2)) hx hb dX6_show_21 (by decide) ?_
    refine tm_V (As := [.int (-2)]) (rest := []) ⟨hx, hb, hml, hown, htg⟩ (c_X6_refuse l D E G _ a C hT ((-2) : Int32)) (cwV 1 htg (oh_gV q_296 q_298 q_0 q_66 q_299) rfl rfl rfl pdVX6_refuse ⟨Nat.le_of_ble_eq_true rfl, Nat.le_of_ble_eq_true rfl⟩) hK hP hD hG hS hA (va_recv hK hP (ci := 6) (q0 := 0) rfl (oh_wg (by decide) (sX_0 hT))) rfl hl.1 rfl (Nat.le_of_ble_eq_true rfl) dX6_show_23 ⟨Nat.le_of_ble_eq_true rfl, Nat.le_of_ble_eq_true rfl⟩ (fun r_5 C_6 H locs hq_7 hP hD hS => ?_)
    obtain ⟨hT, f_8, hq_7⟩ := hq_7
    have hF := fr_tr hF f_8 (by decide) (by decide)
    refine W.widen (k := 0) (n := 0) (Nat.le_refl _) (Nat.le_refl _) ?_
    have t_9 := hT
    rw [hQ]
    exact W.iret (v := r_5) hx hb hr (fun t ht hW => ⟨⟨r_5, C_6, rfl, ⟨hT, hF, ⟨(fun A hA => Eq.trans hq_7 (pif_neg (fun h8 => u_4 h8.1)).symm), (fun A hA S hS0 => by rw [show spSw A S x1 x2 = S from pif_neg (fun h8 => u_4 h8.1)]; exact (hx_fr hS0 (f_8.1 29 rfl (by decide)) (f_8.1 30 rfl (by decide)))), (fun A hA S Z hE => ex_sub hE (f_8.1 31 rfl (by decide)) (sw_sub (by rw [← (show ga (C 10) ((1 : Int32)).toNatClampNeg = A 5 0 1 from hA.1 1 (by decide))]; exact rg_w (lo := 0) (hi := 16) (tA_rdc (lo := 0) (hi := 16) (tX_10 hT0) (rg_in (rg_c (v := 1) (lo := 1) (hi := 1) (by decide)) (by decide)) (show _ = 1 by decide) (by decide)) (by decide))))⟩⟩, ⟨by rw [ht]; exact hP, hD⟩⟩, hS.F ht⟩) hS.2.2 dX6_show_26
  · have u_10 := hq_2.2.1 c_3
    refine lv_iload_n hx hb dX6_show_7 rfl (lv_at hl 2 rfl) ?_
    refine lv_iconst (v := (-1)) hx hb dX6_show_8 (by decide) ?_
    refine lv_icmp_eq (tgt := 27) hx hb dX6_show_9 (by decide) (fun (c_11 : x2 = (-1)) => ?_) (fun (c_11 : ¬ (x2 = (-1))) => ?_)
    · refine lv_aload_n hx hb dX6_show_27 rfl (lv_at hl 0 rfl) ?_
      refine va_get (D := D) (ci := 6) (v := .ref (a 4)) (C := RX6) (T := TX6) (N := 9) hx hb htg ig_6 hown hK hP 0 (oh_wg (by decide) (sX_0 hT)) rfl 4 (by decide) (htg _ q_262) (fun _ h9 => h9) rfl dX6_show_28 ?_
      refine lv_iload_n hx hb dX6_show_31 rfl (lv_at hl 1 rfl) ?_
      refine lv_iload_n hx hb dX6_show_32 rfl (lv_at hl 2 rfl) ?_
      refine tm_Vv (As := [.int x1, .int x2]) (rest := []) ⟨hx, hb, hml, hown, htg⟩ (e_X3_putBridge l D E G _ a C hT x1 x2 (rg_w u_10 (by decide))) (cwV 2 htg (oh_gV q_370 q_371 q_372 q_70 q_373) rfl rfl rfl pdVX3_putBridge ⟨Nat.le_of_ble_eq_true rfl, Nat.le_of_ble_eq_true rfl⟩) hK hP hD hG hS hA (va_recv hK hP (ci := 3) (q0 := 4) rfl (oh_wg (by decide) (sX_4 hT))) rfl hl.1 rfl (Nat.le_of_ble_eq_true rfl) dX6_show_33 ⟨Nat.le_of_ble_eq_true rfl, Nat.le_of_ble_eq_true rfl⟩ (fun C_13 H locs hq_14 hP hD hS => ?_)
      obtain ⟨hT, f_15, hq_14⟩ := hq_14
      have hF := fr_tr hF f_15 (by decide) (by decide)
      refine W.widen (k := 0) (n := 0) (Nat.le_refl _) (Nat.le_refl _) ?_
      have t_16 := hT
      refine lv_iconst (v := 1) hx hb dX6_show_36 (by decide) ?_
      rw [hQ]
      exact W.iret (v := 1) hx hb hr (fun t ht hW => ⟨⟨1, C_13, rfl, ⟨hT, hF, ⟨(fun A hA => (pif_pos ⟨(oh_rgI (p := 0) (q := 7) (rg_w (lo := 0) (hi := 7) u_10 (by decide))), (Or.inl c_11)⟩).symm), (fun A hA S hS0 => by rw [show spSw A S x1 x2 = _ from pif_pos ⟨(oh_rgI (p := 0) (q := 7) (rg_w (lo := 0) (hi := 7) u_10 (by decide))), (Or.inl c_11)⟩]; exact hx_put hS0 (cdB_ok (Or.inl c_11)).1 (cdB_ok (Or.inl c_11)).2 hq_14.1 hq_14.2), (fun A hA S Z hE => ex_sub hE (f_15.1 31 rfl (by decide)) (sw_sub (by rw [← (show ga (C 10) ((1 : Int32)).toNatClampNeg = A 5 0 1 from hA.1 1 (by decide))]; exact rg_w (lo := 0) (hi := 16) (tA_rdc (lo := 0) (hi := 16) (tX_10 hT0) (rg_in (rg_c (v := 1) (lo := 1) (hi := 1) (by decide)) (by decide)) (show _ = 1 by decide) (by decide)) (by decide))))⟩⟩, ⟨by rw [ht]; exact hP, hD⟩⟩, hS.F ht⟩) hS.2.2 dX6_show_37
    · refine lv_aload_n hx hb dX6_show_12 rfl (lv_at hl 0 rfl) ?_
      refine lv_iload_n hx hb dX6_show_13 rfl (lv_at hl 2 rfl) ?_
      refine tq_V (As := [.int x2]) (rest := []) (ws := (oh_W 35 a C)) ⟨hx, hb, hml, hown, htg⟩ (e_X6_isBridge l D E G a C hT x2) (cwV 1 htg (oh_gV q_366 q_368 q_2 q_66 q_369) rfl rfl rfl pdVX6_isBridge ⟨Nat.le_of_ble_eq_true rfl, Nat.le_of_ble_eq_true rfl⟩) hK hP hG hS (va_recv hK hP (ci := 6) (q0 := 0) rfl (oh_wg (by decide) (sX_0 hT))) rfl hl.1 rfl (Nat.le_of_ble_eq_true rfl) dX6_show_14 ⟨Nat.le_of_ble_eq_true rfl, Nat.le_of_ble_eq_true rfl⟩ (fun r_17 hq_18 => ?_)
      refine lv_if_ne (tgt := 27) hx hb dX6_show_17 (by decide) (fun (c_19 : ¬ (r_17 = 0)) => ?_) (fun (c_19 : r_17 = 0) => ?_)
      · have u_20 := hq_18.2.1 c_19
        refine lv_aload_n hx hb dX6_show_27 rfl (lv_at hl 0 rfl) ?_
        refine va_get (D := D) (ci := 6) (v := .ref (a 4)) (C := RX6) (T := TX6) (N := 9) hx hb htg ig_6 hown hK hP 0 (oh_wg (by decide) (sX_0 hT)) rfl 4 (by decide) (htg _ q_262) (fun _ h9 => h9) rfl dX6_show_28 ?_
        refine lv_iload_n hx hb dX6_show_31 rfl (lv_at hl 1 rfl) ?_
        refine lv_iload_n hx hb dX6_show_32 rfl (lv_at hl 2 rfl) ?_
        refine tm_Vv (As := [.int x1, .int x2]) (rest := []) ⟨hx, hb, hml, hown, htg⟩ (e_X3_putBridge l D E G _ a C hT x1 x2 (rg_w u_10 (by decide))) (cwV 2 htg (oh_gV q_370 q_371 q_372 q_70 q_373) rfl rfl rfl pdVX3_putBridge ⟨Nat.le_of_ble_eq_true rfl, Nat.le_of_ble_eq_true rfl⟩) hK hP hD hG hS hA (va_recv hK hP (ci := 3) (q0 := 4) rfl (oh_wg (by decide) (sX_4 hT))) rfl hl.1 rfl (Nat.le_of_ble_eq_true rfl) dX6_show_33 ⟨Nat.le_of_ble_eq_true rfl, Nat.le_of_ble_eq_true rfl⟩ (fun C_22 H locs hq_23 hP hD hS => ?_)
        obtain ⟨hT, f_24, hq_23⟩ := hq_23
        have hF := fr_tr hF f_24 (by decide) (by decide)
        refine W.widen (k := 0) (n := 0) (Nat.le_refl _) (Nat.le_refl _) ?_
        have t_25 := hT
        refine lv_iconst (v := 1) hx hb dX6_show_36 (by decide) ?_
        rw [hQ]
        exact W.iret (v := 1) hx hb hr (fun t ht hW => ⟨⟨1, C_22, rfl, ⟨hT, hF, ⟨(fun A hA => (pif_pos ⟨(oh_rgI (p := 0) (q := 7) (rg_w (lo := 0) (hi := 7) u_10 (by decide))), (Or.inr (by rw [← (show ga (C 10) ((1 : Int32)).toNatClampNeg = A 5 0 1 from hA.1 1 (by decide))]; exact u_20.2))⟩).symm), (fun A hA S hS0 => by rw [show spSw A S x1 x2 = _ from pif_pos ⟨(oh_rgI (p := 0) (q := 7) (rg_w (lo := 0) (hi := 7) u_10 (by decide))), (Or.inr (by rw [← (show ga (C 10) ((1 : Int32)).toNatClampNeg = A 5 0 1 from hA.1 1 (by decide))]; exact u_20.2))⟩]; exact hx_put hS0 (cdB_ok (Or.inr (rg_w (lo := 0) (hi := 15) u_20.1 (by decide)))).1 (cdB_ok (Or.inr (rg_w (lo := 0) (hi := 15) u_20.1 (by decide)))).2 hq_23.1 hq_23.2), (fun A hA S Z hE => ex_sub hE (f_24.1 31 rfl (by decide)) (sw_sub (by rw [← (show ga (C 10) ((1 : Int32)).toNatClampNeg = A 5 0 1 from hA.1 1 (by decide))]; exact rg_w (lo := 0) (hi := 16) (tA_rdc (lo := 0) (hi := 16) (tX_10 hT0) (rg_in (rg_c (v := 1) (lo := 1) (hi := 1) (by decide)) (by decide)) (show _ = 1 by decide) (by decide)) (by decide))))⟩⟩, ⟨by rw [ht]; exact hP, hD⟩⟩, hS.F ht⟩) hS.2.2 dX6_show_37
      · have u_26 := hq_18.2.2 c_19
        refine lv_aload_n hx hb dX6_show_20 rfl (lv_at hl 0 rfl) ?_
        refine lv_bipush (v := (-2)) hx hb dX6_show_21 (by decide) ?_
        refine tm_V (As := [.int (-2)]) (rest := []) ⟨hx, hb, hml, hown, htg⟩ (c_X6_refuse l D E G _ a C hT ((-2) : Int32)) (cwV 1 htg (oh_gV q_296 q_298 q_0 q_66 q_299) rfl rfl rfl pdVX6_refuse ⟨Nat.le_of_ble_eq_true rfl, Nat.le_of_ble_eq_true rfl⟩) hK hP hD hG hS hA (va_recv hK hP (ci := 6) (q0 := 0) rfl (oh_wg (by decide) (sX_0 hT))) rfl hl.1 rfl (Nat.le_of_ble_eq_true rfl) dX6_show_23 ⟨Nat.le_of_ble_eq_true rfl, Nat.le_of_ble_eq_true rfl⟩ (fun r_27 C_28 H locs hq_29 hP hD hS => ?_)
        obtain ⟨hT, f_30, hq_29⟩ := hq_29
        have hF := fr_tr hF f_30 (by decide) (by decide)
        refine W.widen (k := 0) (n := 0) (Nat.le_refl _) (Nat.le_refl _) ?_
        have t_31 := hT
        rw [hQ]
        exact W.iret (v := r_27) hx hb hr (fun t ht hW => ⟨⟨r_27, C_28, rfl, ⟨hT, hF, ⟨(fun A hA => Eq.trans hq_29 (pif_neg (fun h8 => by rcases h8.2 with h7 | h7; exact c_11 h7; rw [← (show ga (C 10) ((1 : Int32)).toNatClampNeg = A 5 0 1 from hA.1 1 (by decide))] at h7; exact u_26 h7)).symm), (fun A hA S hS0 => by rw [show spSw A S x1 x2 = S from pif_neg (fun h8 => by rcases h8.2 with h7 | h7; exact c_11 h7; rw [← (show ga (C 10) ((1 : Int32)).toNatClampNeg = A 5 0 1 from hA.1 1 (by decide))] at h7; exact u_26 h7)]; exact (hx_fr hS0 (f_30.1 29 rfl (by decide)) (f_30.1 30 rfl (by decide)))), (fun A hA S Z hE => ex_sub hE (f_30.1 31 rfl (by decide)) (sw_sub (by rw [← (show ga (C 10) ((1 : Int32)).toNatClampNeg = A 5 0 1 from hA.1 1 (by decide))]; exact rg_w (lo := 0) (hi := 16) (tA_rdc (lo := 0) (hi := 16) (tX_10 hT0) (rg_in (rg_c (v := 1) (lo := 1) (hi := 1) (by decide)) (by decide)) (show _ = 1 by decide) (by decide)) (by decide))))⟩⟩, ⟨by rw [ht]; exact hP, hD⟩⟩, hS.F ht⟩) hS.2.2 dX6_show_26

set_option maxHeartbeats 4000000 in
set_option maxRecDepth 100000 in
theorem e_X3_asSort (l : Launch) (D : va_G) (E : Nat → ClassId) (G : Nat → Nat) (x1 : Int32) (x2 : Int64) : Met l yX3_asSort (oh_w yX3_asSort cX3_asSort 3 (some .long)) ({ frames := 0, cells := 0, slots := 0, locals := 0 }) (oh_Pp D E G [.int x1, .long x2] []) (vp_Sl (fun r => (r = fitF x1 x2))) 0 0 (fun _ => False) := by
  refine Met.ofW (cc := cX3_asSort) (maxL := 3) (ret := (some .long)) (by decide) rfl ?_
  intro p e s m args below meth c s₁ B hml hv
  obtain ⟨rfl, hP, hK, hG⟩ := hv
  have hx := B.exec
  have hb := B.bytes
  have hr := B.returns
  have hts := atoms_spec (ws := (oh_w yX3_asSort cX3_asSort 3 (some .long))) B.pre
  have htg : ∀ w ∈ oh_t, w.before _ s = true := fun w h => hts w (List.mem_cons_of_mem _ h)
  have hown : s.vm.findClass RX3 = some m.cls := findClass_of_methodNamed B.named
  have hlocks := B.notSynchronized
  have hS : va_S (fun _ => False) s.heap s.heap [] := va_S.rf
  have hl := lv_entry ([.int x1, .long x2]) (n := 3) (Nat.le_of_ble_eq_true rfl)
  rw [lg_entry_eq]
  generalize (lg_sl ([.int x1, .long x2]) ++ List.replicate (3 - (lg_sl ([.int x1, .long x2])).length) Slot.unset).toArray = ls at hl ⊢
  have hl : lv_has ls 3 [(0, .int x1), (1, .long x2)] := hl
  refine oh_genQ (fun Q hQ => ?_)
  refine lv_iload_n hx hb dX3_asSort_0 rfl (lv_at hl 0 rfl) ?_
  by_cases c_1 : x1 = 0
  · refine lv_tableIn (off := 35) (tgt := 36) hx hb dX3_asSort_1 (by rw [c_1]; decide) (by rw [c_1]; decide) (by rw [c_1]; decide) (by decide) ?_
    refine lv_lload_n hx hb dX3_asSort_36 rfl (lv_at hl 1 rfl) ?_
    refine lv_l2i (v := Int64.toInt32 x2) hx hb dX3_asSort_37 rfl ?_
    refine lv_i2b (v := (Int64.toInt32 x2).toInt8.toInt32) hx hb dX3_asSort_38 rfl ?_
    refine lv_i2l (v := Int32.toInt64 ((Int64.toInt32 x2).toInt8.toInt32)) hx hb dX3_asSort_39 (by rfl) ?_
    rw [hQ]
    exact W.lret (v := Int32.toInt64 ((Int64.toInt32 x2).toInt8.toInt32)) hx hb hr (fun t ht hW => ⟨Int32.toInt64 ((Int64.toInt32 x2).toInt8.toInt32), rfl, (pif_pos c_1).symm, ht⟩) (fun q h => by cases h) dX3_asSort_40
  · by_cases c_2 : x1 = 1
    · refine lv_tableIn (off := 40) (tgt := 41) hx hb dX3_asSort_1 (by rw [c_2]; decide) (by rw [c_2]; decide) (by rw [c_2]; decide) (by decide) ?_
      refine lv_lload_n hx hb dX3_asSort_41 rfl (lv_at hl 1 rfl) ?_
      refine lv_l2i (v := Int64.toInt32 x2) hx hb dX3_asSort_42 rfl ?_
      refine lv_i2s (v := (Int64.toInt32 x2).toInt16.toInt32) hx hb dX3_asSort_43 rfl ?_
      refine lv_i2l (v := Int32.toInt64 ((Int64.toInt32 x2).toInt16.toInt32)) hx hb dX3_asSort_44 (by rfl) ?_
      rw [hQ]
      exact W.lret (v := Int32.toInt64 ((Int64.toInt32 x2).toInt16.toInt32)) hx hb hr (fun t ht hW => ⟨Int32.toInt64 ((Int64.toInt32 x2).toInt16.toInt32), rfl, (Eq.trans (pif_neg (fun h8 => absurd (Eq.trans (Eq.symm c_2) h8) (by decide))) (pif_pos c_2)).symm, ht⟩) (fun q h => by cases h) dX3_asSort_45
    · by_cases c_3 : x1 = 2
      · refine lv_tableIn (off := 45) (tgt := 46) hx hb dX3_asSort_1 (by rw [c_3]; decide) (by rw [c_3]; decide) (by rw [c_3]; decide) (by decide) ?_
        refine lv_lload_n hx hb dX3_asSort_46 rfl (lv_at hl 1 rfl) ?_
        refine lv_l2i (v := Int64.toInt32 x2) hx hb dX3_asSort_47 rfl ?_
        refine lv_i2l (v := Int32.toInt64 (Int64.toInt32 x2)) hx hb dX3_asSort_48 (by rfl) ?_
        rw [hQ]
        exact W.lret (v := Int32.toInt64 (Int64.toInt32 x2)) hx hb hr (fun t ht hW => ⟨Int32.toInt64 (Int64.toInt32 x2), rfl, (Eq.trans (pif_neg (fun h8 => absurd (Eq.trans (Eq.symm c_3) h8) (by decide))) (Eq.trans (pif_neg (fun h8 => absurd (Eq.trans (Eq.symm c_3) h8) (by decide))) (pif_pos c_3))).symm, ht⟩) (fun q h => by cases h) dX3_asSort_49
      · by_cases c_4 : x1 = 3
        · refine lv_tableIn (off := 61) (tgt := 62) hx hb dX3_asSort_1 (by rw [c_4]; decide) (by rw [c_4]; decide) (by rw [c_4]; decide) (by decide) ?_
          refine lv_lload_n hx hb dX3_asSort_62 rfl (lv_at hl 1 rfl) ?_
          rw [hQ]
          exact W.lret (v := x2) hx hb hr (fun t ht hW => ⟨x2, rfl, (Eq.trans (pif_neg (fun h8 => absurd (Eq.trans (Eq.symm c_4) h8) (by decide))) (Eq.trans (pif_neg (fun h8 => absurd (Eq.trans (Eq.symm c_4) h8) (by decide))) (Eq.trans (pif_neg (fun h8 => absurd (Eq.trans (Eq.symm c_4) h8) (by decide))) (pif_neg (fun h8 => absurd (Eq.trans (Eq.symm c_4) h8) (by decide)))))).symm, ht⟩) (fun q h => by cases h) dX3_asSort_63
        · by_cases c_5 : x1 = 4
          · refine lv_tableIn (off := 49) (tgt := 50) hx hb dX3_asSort_1 (by rw [c_5]; decide) (by rw [c_5]; decide) (by rw [c_5]; decide) (by decide) ?_
            refine lv_lload_n hx hb dX3_asSort_50 rfl (lv_at hl 1 rfl) ?_
            refine lv_lconst (v := 0) hx hb dX3_asSort_51 (by decide) ?_
            refine W.lcmp hx hb dX3_asSort_52 ?_
            refine lv_if_eq (tgt := 60) hx hb dX3_asSort_53 (by decide) (fun (c_6 : (lg_cmp x2 0) = 0) => ?_) (fun (c_6 : ¬ ((lg_cmp x2 0) = 0)) => ?_)
            · refine lv_lconst (v := 0) hx hb dX3_asSort_60 (by decide) ?_
              rw [hQ]
              exact W.lret (v := 0) hx hb hr (fun t ht hW => ⟨0, rfl, (Eq.trans (pif_pos (lc0.mp c_6)).symm (Eq.trans (pif_neg (fun h8 => absurd (Eq.trans (Eq.symm c_5) h8) (by decide))) (Eq.trans (pif_neg (fun h8 => absurd (Eq.trans (Eq.symm c_5) h8) (by decide))) (Eq.trans (pif_neg (fun h8 => absurd (Eq.trans (Eq.symm c_5) h8) (by decide))) (pif_pos c_5)))).symm), ht⟩) (fun q h => by cases h) dX3_asSort_61
            · refine lv_lconst (v := 1) hx hb dX3_asSort_56 (by decide) ?_
              refine lv_goto (tgt := 61) hx hb dX3_asSort_57 (by decide) ?_
              rw [hQ]
              exact W.lret (v := 1) hx hb hr (fun t ht hW => ⟨1, rfl, (Eq.trans (pif_neg (fun h8 => c_6 (lc0.mpr h8))).symm (Eq.trans (pif_neg (fun h8 => absurd (Eq.trans (Eq.symm c_5) h8) (by decide))) (Eq.trans (pif_neg (fun h8 => absurd (Eq.trans (Eq.symm c_5) h8) (by decide))) (Eq.trans (pif_neg (fun h8 => absurd (Eq.trans (Eq.symm c_5) h8) (by decide))) (pif_pos c_5)))).symm), ht⟩) (fun q h => by cases h) dX3_asSort_61
          · refine lv_tableOut (tgt := 62) hx hb dX3_asSort_1 (by have h9 := And.intro (oh_ne c_1 (k := 0) (by decide)) (And.intro (oh_ne c_2 (k := 1) (by decide)) (And.intro (oh_ne c_3 (k := 2) (by decide)) (And.intro (oh_ne c_4 (k := 3) (by decide)) (And.intro (oh_ne c_5 (k := 4) (by decide)) trivial)))); omega) (by decide) ?_
            refine lv_lload_n hx hb dX3_asSort_62 rfl (lv_at hl 1 rfl) ?_
            rw [hQ]
            exact W.lret (v := x2) hx hb hr (fun t ht hW => ⟨x2, rfl, (Eq.trans (pif_neg c_1) (Eq.trans (pif_neg c_2) (Eq.trans (pif_neg c_3) (pif_neg c_5)))).symm, ht⟩) (fun q h => by cases h) dX3_asSort_63

set_option maxHeartbeats 4000000 in
set_option maxRecDepth 100000 in
theorem e_X3_putElement (l : Launch) (D : va_G) (E : Nat → ClassId) (G : Nat → Nat) (sz : Nat) (a : Nat → Nat) (C : Nat → va_E) (hT : TyX a E C) (x1 : Int32) (x2 : Int32) (x3 : Int64) (hx1 : rg x1 0 7) (hx2 : rg x2 0 39) : Met l yX3_putElement (oh_w yX3_putElement cX3_putElement 5 none) ({ frames := 1, cells := 0, slots := 0, locals := 22 }) (oh_Pm D E G [.ref (a 4), .int x1, .int x2, .long x3] (oh_W 35 a C) sz) (va_Qv (fun (u : Nat → va_E) => TyX a E u ∧ fr [(31, 32)] [] C u ∧ (gb (u 31) = vp_updL (gb (C 31)) (x1.toNatClampNeg * 40 + x2.toNatClampNeg) (fitF (ga (C 29) x1.toNatClampNeg) x3))) (oh_B D (va_A (oh_W 35 a C) sz) (fun u => oh_W 35 a u)) (va_A (oh_W 35 a C) sz)) 0 0 (va_A (oh_W 35 a C) sz) := by
  refine Met.ofW (cc := cX3_putElement) (maxL := 5) (ret := none) (by decide) rfl ?_
  intro p e s m args below meth c s₁ B hml hv
  obtain ⟨rfl, hsz, hP, hK, hD0, hG⟩ := hv
  have hx := B.exec
  have hb := B.bytes
  have hr := B.returns
  have hts := atoms_spec (ws := (oh_w yX3_putElement cX3_putElement 5 none)) B.pre
  have htg : ∀ w ∈ oh_t, w.before _ s = true := fun w h => hts w (List.mem_cons_of_mem _ h)
  have hown : s.vm.findClass RX3 = some m.cls := findClass_of_methodNamed B.named
  have hlocks := B.notSynchronized
  have hT0 := hT
  subst hsz
  have hD := hD0.self (sz := s.heap.size)
  generalize hAe : va_A (oh_W 35 a C) s.heap.size = A at hD hG ⊢
  have hA : ∀ q : Nat, s.heap.size ≤ q → A q := fun q h => by rw [← hAe]; exact Or.inr h
  have hS : va_S A s.heap s.heap [] := va_S.rf
  have hF : fr [(31, 32)] [] C C := fr_rf
  have hl := lv_entry ([.ref (a 4), .int x1, .int x2, .long x3]) (n := 5) (Nat.le_of_ble_eq_true rfl)
  rw [lg_entry_eq]
  generalize (lg_sl ([.ref (a 4), .int x1, .int x2, .long x3]) ++ List.replicate (5 - (lg_sl ([.ref (a 4), .int x1, .int x2, .long x3])).length) Slot.unset).toArray = ls at hl ⊢
  have hl : lv_has ls 5 [(0, .ref (a 4)), (1, .int x1), (2, .int x2), (3, .long x3)] := hl
  refine oh_genQ (fun Q hQ => ?_)
  refine lv_aload_n hx hb dX3_putElement_0 rfl (lv_at hl 0 rfl) ?_
  refine va_get (D := D) (ci := 3) (v := .ref (a 31)) (C := RX3) (T := TX3) (N := 3) hx hb htg ig_3 hown hK hP 4 (oh_wg (by decide) (sX_4 hT)) rfl 2 (by decide) (htg _ q_202) (fun _ h9 => h9) rfl dX3_putElement_1 ?_
  refine lv_iload_n hx hb dX3_putElement_4 rfl (lv_at hl 1 rfl) ?_
  refine lv_bipush (v := 40) hx hb dX3_putElement_5 (by decide) ?_
  refine lv_imul hx hb dX3_putElement_7 ?_
  refine lv_iload_n hx hb dX3_putElement_8 rfl (lv_at hl 2 rfl) ?_
  refine lv_iadd hx hb dX3_putElement_9 ?_
  refine lv_aload_n hx hb dX3_putElement_10 rfl (lv_at hl 0 rfl) ?_
  refine va_get (D := D) (ci := 3) (v := .ref (a 29)) (C := RX3) (T := TX3) (N := 3) hx hb htg ig_3 hown hK hP 4 (oh_wg (by decide) (sX_4 hT)) rfl 0 (by decide) (htg _ q_198) (fun _ h9 => h9) rfl dX3_putElement_11 ?_
  refine lv_iload_n hx hb dX3_putElement_14 rfl (lv_at hl 1 rfl) ?_
  have n_1 : vp_in x1 8 := (rg_in hx1 (by decide))
  refine th_iald hx hb hK hP 29 (by decide) (sX_29 hT) n_1 dX3_putElement_15 ?_
  refine lv_lload_n hx hb dX3_putElement_16 rfl (lv_at hl 3 rfl) ?_
  refine tq_Sl (As := [.int (ga (C 29) (x1).toNatClampNeg), .long x3]) (rest := [.int ((x1 * 40) + x2), .ref (a 31)]) (ws := []) ⟨hx, hb, hml, hown, htg⟩ (e_X3_asSort l D E G (ga (C 29) (x1).toNatClampNeg) x3) (va_cwS 2 htg (oh_gS q_324 q_325 q_70 q_326) rfl rfl rfl pdX3_asSort ⟨Nat.le_of_ble_eq_true rfl, Nat.le_of_ble_eq_true rfl⟩) hK va_nil hG hS rfl hl.1 rfl (Nat.le_of_ble_eq_true rfl) dX3_putElement_17 ⟨Nat.le_of_ble_eq_true rfl, Nat.le_of_ble_eq_true rfl⟩ (fun r_2 hq_3 => ?_)
  have n_4 : vp_in ((x1 * 40) + x2) 320 := (rg_in (rg_add (lo := 0) (hi := 319) (rg_mul (lo := 0) (hi := 280) hx1 (rg_c (v := 40) (lo := 40) (hi := 40) (by decide)) (by decide)) hx2 (by decide)) (by decide))
  refine th_last (T := TyX a E) (Rl := fr [(31, 32)] [] C) hx hb hK hP hD hS 31 (by decide) (sX_31 hT) n_4 (hT.up 31 rfl) (fr_st hF (by decide) (by decide)) dX3_putElement_20 (fun C_5 H locs e_6 hT hF hP hD hS => ?_)
  have t_7 := hT
  rw [hQ]
  exact W.vret hx hb hr (fun t ht hW => ⟨⟨C_5, rfl, ⟨hT, hF, (by rw [gbS e_6, ix40 hx1 (rg_w hx2 (by decide)), hq_3])⟩, ⟨by rw [ht]; exact hP, hD⟩⟩, hS.F ht⟩) hS.2.2 dX3_putElement_21

set_option maxHeartbeats 4000000 in
set_option maxRecDepth 100000 in
theorem e_X3_copyElements (l : Launch) (D : va_G) (E : Nat → ClassId) (G : Nat → Nat) (sz : Nat) (a : Nat → Nat) (C : Nat → va_E) (hT : TyX a E C) (x1 : Int32) (x2 : Int32) (x3 : Int32) (x4 : Int32) (x5 : Int32) (hx1 : rg x1 0 7) (hx2 : rg x2 0 7) (hx3 : rg x3 0 40) (hx4 : rg x4 0 40) (hx5 : rg x5 0 40) (hx3p : x3.toInt + x5.toInt ≤ 40) (hx4p : x4.toInt + x5.toInt ≤ 40) : Met l yX3_copyElements (oh_w yX3_copyElements cX3_copyElements 6 none) ({ frames := 1, cells := 0, slots := 0, locals := 18 }) (oh_Pm D E G [.ref (a 4), .int x1, .int x2, .int x3, .int x4, .int x5] (oh_W 35 a C) sz) (va_Qv (fun (u : Nat → va_E) => TyX a E u ∧ fr [(31, 32)] [] C u ∧ (gb (u 31) = va_cpy (gb (C 31)) (gb (C 31)) (x1.toNatClampNeg * 40 + x3.toNatClampNeg) (x2.toNatClampNeg * 40 + x4.toNatClampNeg) x5.toNatClampNeg)) (oh_B D (va_A (oh_W 35 a C) sz) (fun u => oh_W 35 a u)) (va_A (oh_W 35 a C) sz)) 0 0 (va_A (oh_W 35 a C) sz) := by
  refine Met.ofW (cc := cX3_copyElements) (maxL := 6) (ret := none) (by decide) rfl ?_
  intro p e s m args below meth c s₁ B hml hv
  obtain ⟨rfl, hsz, hP, hK, hD0, hG⟩ := hv
  have hx := B.exec
  have hb := B.bytes
  have hr := B.returns
  have hts := atoms_spec (ws := (oh_w yX3_copyElements cX3_copyElements 6 none)) B.pre
  have htg : ∀ w ∈ oh_t, w.before _ s = true := fun w h => hts w (List.mem_cons_of_mem _ h)
  have hown : s.vm.findClass RX3 = some m.cls := findClass_of_methodNamed B.named
  have hlocks := B.notSynchronized
  have hT0 := hT
  subst hsz
  have hD := hD0.self (sz := s.heap.size)
  generalize hAe : va_A (oh_W 35 a C) s.heap.size = A at hD hG ⊢
  have hA : ∀ q : Nat, s.heap.size ≤ q → A q := fun q h => by rw [← hAe]; exact Or.inr h
  have hS : va_S A s.heap s.heap [] := va_S.rf
  have hF : fr [(31, 32)] [] C C := fr_rf
  have hl := lv_entry ([.ref (a 4), .int x1, .int x2, .int x3, .int x4, .int x5]) (n := 6) (Nat.le_of_ble_eq_true rfl)
  rw [lg_entry_eq]
  generalize (lg_sl ([.ref (a 4), .int x1, .int x2, .int x3, .int x4, .int x5]) ++ List.replicate (6 - (lg_sl ([.ref (a 4), .int x1, .int x2, .int x3, .int x4, .int x5])).length) Slot.unset).toArray = ls at hl ⊢
  have hl : lv_has ls 6 [(0, .ref (a 4)), (1, .int x1), (2, .int x2), (3, .int x3), (4, .int x4), (5, .int x5)] := hl
  refine oh_genQ (fun Q hQ => ?_)
  refine lv_aload_n hx hb dX3_copyElements_0 rfl (lv_at hl 0 rfl) ?_
  refine va_get (D := D) (ci := 3) (v := .ref (a 31)) (C := RX3) (T := TX3) (N := 3) hx hb htg ig_3 hown hK hP 4 (oh_wg (by decide) (sX_4 hT)) rfl 2 (by decide) (htg _ q_202) (fun _ h9 => h9) rfl dX3_copyElements_1 ?_
  refine lv_iload_n hx hb dX3_copyElements_4 rfl (lv_at hl 1 rfl) ?_
  refine lv_bipush (v := 40) hx hb dX3_copyElements_5 (by decide) ?_
  refine lv_imul hx hb dX3_copyElements_7 ?_
  refine lv_iload_n hx hb dX3_copyElements_8 rfl (lv_at hl 3 rfl) ?_
  refine lv_iadd hx hb dX3_copyElements_9 ?_
  refine lv_aload_n hx hb dX3_copyElements_10 rfl (lv_at hl 0 rfl) ?_
  refine va_get (D := D) (ci := 3) (v := .ref (a 31)) (C := RX3) (T := TX3) (N := 3) hx hb htg ig_3 hown hK hP 4 (oh_wg (by decide) (sX_4 hT)) rfl 2 (by decide) (htg _ q_202) (fun _ h9 => h9) rfl dX3_copyElements_11 ?_
  refine lv_iload_n hx hb dX3_copyElements_14 rfl (lv_at hl 2 rfl) ?_
  refine lv_bipush (v := 40) hx hb dX3_copyElements_15 (by decide) ?_
  refine lv_imul hx hb dX3_copyElements_17 ?_
  refine lv_iload hx hb dX3_copyElements_18 (lv_at hl 4 rfl) ?_
  refine lv_iadd hx hb dX3_copyElements_20 ?_
  refine lv_iload hx hb dX3_copyElements_21 (lv_at hl 5 rfl) ?_
  refine th_copyl (T := TyX a E) (Rl := fr [(31, 32)] [] C) hx hb (by rw [hml]; exact hl.1.symm) hown (htg _ q_345) (htg _ q_347) (htg _ q_346) (htg _ q_74) hK hP hD hS 31 31 (by decide) (by decide) (sX_31 hT) (sX_31 hT) (oh_nn (rg_add (lo := 0) (hi := 320) (rg_mul (lo := 0) (hi := 280) hx1 (rg_c (v := 40) (lo := 40) (hi := 40) (by decide)) (by decide)) hx3 (by decide)) (by decide)) (oh_nn (rg_add (lo := 0) (hi := 320) (rg_mul (lo := 0) (hi := 280) hx2 (rg_c (v := 40) (lo := 40) (hi := 40) (by decide)) (by decide)) hx4 (by decide)) (by decide)) (oh_nn hx5 (by decide)) (oh_cp hx1 hx5 hx3p hx3.1) (oh_cp hx2 hx5 hx4p hx4.1) (hT.up 31 rfl) (fr_st hF (by decide) (by decide)) (Nat.le_of_ble_eq_true rfl) (Nat.le_of_ble_eq_true rfl) dX3_copyElements_23 (fun C_1 H locs e_2 hT hF hP hD hS => ?_)
  have t_3 := hT
  rw [hQ]
  exact W.vret hx hb hr (fun t ht hW => ⟨⟨C_1, rfl, ⟨hT, hF, (by rw [gbS e_2, ix40 hx1 hx3, ix40 hx2 hx4])⟩, ⟨by rw [ht]; exact hP, hD⟩⟩, hS.F ht⟩) hS.2.2 dX3_copyElements_26

set_option maxHeartbeats 4000000 in
set_option maxRecDepth 100000 in
theorem e_X3_elementAt (l : Launch) (D : va_G) (E : Nat → ClassId) (G : Nat → Nat) (a : Nat → Nat) (C : Nat → va_E) (hT : TyX a E C) (x1 : Int32) (x2 : Int32) (hx1 : rg x1 0 7) : Met l yX3_elementAt (oh_w yX3_elementAt cX3_elementAt 3 (some .long)) ({ frames := 1, cells := 0, slots := 0, locals := 22 }) (oh_Pp D E G [.ref (a 4), .int x1, .int x2] (oh_W 35 a C)) (vp_Sl (fun r => (r = pif (0 ≤ x2 ∧ x2 ≤ ga (C 30) x1.toNatClampNeg - 1) (gb (C 31) (x1.toNatClampNeg * 40 + x2.toNatClampNeg)) 0))) 0 0 (fun _ => False) := by
  refine Met.ofW (cc := cX3_elementAt) (maxL := 3) (ret := (some .long)) (by decide) rfl ?_
  intro p e s m args below meth c s₁ B hml hv
  obtain ⟨rfl, hP, hK, hG⟩ := hv
  have hx := B.exec
  have hb := B.bytes
  have hr := B.returns
  have hts := atoms_spec (ws := (oh_w yX3_elementAt cX3_elementAt 3 (some .long))) B.pre
  have htg : ∀ w ∈ oh_t, w.before _ s = true := fun w h => hts w (List.mem_cons_of_mem _ h)
  have hown : s.vm.findClass RX3 = some m.cls := findClass_of_methodNamed B.named
  have hlocks := B.notSynchronized
  have hT0 := hT
  have hS : va_S (fun _ => False) s.heap s.heap [] := va_S.rf
  have hl := lv_entry ([.ref (a 4), .int x1, .int x2]) (n := 3) (Nat.le_of_ble_eq_true rfl)
  rw [lg_entry_eq]
  generalize (lg_sl ([.ref (a 4), .int x1, .int x2]) ++ List.replicate (3 - (lg_sl ([.ref (a 4), .int x1, .int x2])).length) Slot.unset).toArray = ls at hl ⊢
  have hl : lv_has ls 3 [(0, .ref (a 4)), (1, .int x1), (2, .int x2)] := hl
  refine oh_genQ (fun Q hQ => ?_)
  refine lv_iload_n hx hb dX3_elementAt_0 rfl (lv_at hl 2 rfl) ?_
  refine lv_iconst (v := 0) hx hb dX3_elementAt_1 (by decide) ?_
  refine lv_aload_n hx hb dX3_elementAt_2 rfl (lv_at hl 0 rfl) ?_
  refine va_get (D := D) (ci := 3) (v := .ref (a 30)) (C := RX3) (T := TX3) (N := 3) hx hb htg ig_3 hown hK hP 4 (oh_wg (by decide) (sX_4 hT)) rfl 1 (by decide) (htg _ q_200) (fun _ h9 => h9) rfl dX3_elementAt_3 ?_
  refine lv_iload_n hx hb dX3_elementAt_6 rfl (lv_at hl 1 rfl) ?_
  have n_1 : vp_in x1 8 := (rg_in hx1 (by decide))
  refine th_iald hx hb hK hP 30 (by decide) (sX_30 hT) n_1 dX3_elementAt_7 ?_
  refine lv_iconst (v := 1) hx hb dX3_elementAt_8 (by decide) ?_
  refine lv_isub hx hb dX3_elementAt_9 ?_
  refine tq_SN (As := [.int x2, .int 0, .int ((ga (C 30) (x1).toNatClampNeg) - 1)]) (rest := []) (ws := []) ⟨hx, hb, hml, hown, htg⟩ (c_X6_within l D E G x2 (0 : Int32) ((ga (C 30) (x1).toNatClampNeg) - 1)) ⟨va_cnB (y := yX6_within) 3 htg (oh_gW q_295) rfl rfl rfl (hG.1 ("OneHeavyLoad$Shelves", 36, ⟨"OneHeavyLoad", "within", "(III)Z"⟩, "OneHeavyLoad") (List.mem_of_getElem? (i := 1) rfl)) (htg _ q_66) pdX6_within ⟨Nat.le_of_ble_eq_true rfl, Nat.le_of_ble_eq_true rfl⟩, htg _ q_294, trivial⟩ hK va_nil hG hS rfl hl.1 rfl (Nat.le_of_ble_eq_true rfl) dX3_elementAt_10 ⟨Nat.le_of_ble_eq_true rfl, Nat.le_of_ble_eq_true rfl⟩ (fun r_2 hq_3 => ?_)
  refine lv_if_eq (tgt := 30) hx hb dX3_elementAt_13 (by decide) (fun (c_4 : r_2 = 0) => ?_) (fun (c_4 : ¬ (r_2 = 0)) => ?_)
  · have u_5 := hq_3.2.2 c_4
    refine lv_lconst (v := 0) hx hb dX3_elementAt_30 (by decide) ?_
    rw [hQ]
    exact W.lret (v := 0) hx hb hr (fun t ht hW => ⟨0, rfl, (pif_neg u_5).symm, ht⟩) (fun q h => by cases h) dX3_elementAt_31
  · have u_6 := hq_3.2.1 c_4
    refine lv_aload_n hx hb dX3_elementAt_16 rfl (lv_at hl 0 rfl) ?_
    refine va_get (D := D) (ci := 3) (v := .ref (a 31)) (C := RX3) (T := TX3) (N := 3) hx hb htg ig_3 hown hK hP 4 (oh_wg (by decide) (sX_4 hT)) rfl 2 (by decide) (htg _ q_202) (fun _ h9 => h9) rfl dX3_elementAt_17 ?_
    refine lv_iload_n hx hb dX3_elementAt_20 rfl (lv_at hl 1 rfl) ?_
    refine lv_bipush (v := 40) hx hb dX3_elementAt_21 (by decide) ?_
    refine lv_imul hx hb dX3_elementAt_23 ?_
    refine lv_iload_n hx hb dX3_elementAt_24 rfl (lv_at hl 2 rfl) ?_
    refine lv_iadd hx hb dX3_elementAt_25 ?_
    have n_7 : vp_in ((x1 * 40) + x2) 320 := (rg_in (rg_add (lo := 0) (hi := 319) (rg_mul (lo := 0) (hi := 280) hx1 (rg_c (v := 40) (lo := 40) (hi := 40) (by decide)) (by decide)) (rn_leu u_6.2 (rn_lel u_6.1 (rg_c (v := 0) (lo := 0) (hi := 0) (by decide)) (rg_any _)) (rg_sub (lo := (-1)) (hi := 39) (tA_rdc (lo := 0) (hi := 40) (tX_30 hT0) n_1 (Nat.mod_one _) (by decide)) (rg_c (v := 1) (lo := 1) (hi := 1) (by decide)) (by decide))) (by decide)) (by decide))
    refine th_lald hx hb hK hP 31 (by decide) (sX_31 hT) n_7 dX3_elementAt_26 ?_
    refine lv_goto (tgt := 31) hx hb dX3_elementAt_27 (by decide) ?_
    rw [hQ]
    exact W.lret (v := gb (C 31) ((x1 * 40) + x2).toNatClampNeg) hx hb hr (fun t ht hW => ⟨gb (C 31) ((x1 * 40) + x2).toNatClampNeg, rfl, (Eq.trans (congrArg (gb (C 31)) (ix40 hx1 (rg_w (lo := 0) (hi := 40) (rn_leu u_6.2 (rn_lel u_6.1 (rg_c (v := 0) (lo := 0) (hi := 0) (by decide)) (rg_any _)) (rg_sub (lo := (-1)) (hi := 39) (tA_rdc (lo := 0) (hi := 40) (tX_30 hT0) n_1 (Nat.mod_one _) (by decide)) (rg_c (v := 1) (lo := 1) (hi := 1) (by decide)) (by decide))) (by decide)))) (pif_pos ⟨u_6.1, u_6.2⟩).symm), ht⟩) (fun q h => by cases h) dX3_elementAt_31

theorem el_x {C : Nat → va_E} {S : HZ} {Z : EZ} {s i : Int32} {r : Int64} (h : absHX C S) (hE : absEX C S Z) (hs : 0 ≤ s ∧ s ≤ 7) (hr : rowH (ga (C 29) s.toNatClampNeg)) (e : r = pif (0 ≤ i ∧ i ≤ ga (C 30) s.toNatClampNeg - 1) (gb (C 31) (s.toNatClampNeg * 40 + i.toNatClampNeg)) 0) : r = spElem S Z s i := by
  have h8 := sh8 ⟨Int32.le_iff_toInt_le.mp hs.1, Int32.le_iff_toInt_le.mp hs.2⟩
  obtain ⟨g1, _, g3⟩ := h _ h8
  rw [g1] at hr
  rw [g3 hr] at e
  obtain ⟨z1, z2⟩ := hE _ h8 hr
  unfold spElem
  by_cases q : 0 ≤ i ∧ i ≤ S.2 s.toNatClampNeg - 1
  · rw [pif_pos q] at e
    rw [pif_pos ⟨hs, hr, q⟩, e]
    exact z2 _ (sz_lt z1 q).2
  · rw [pif_neg q] at e
    rw [pif_neg (fun z => q z.2.2), e]
theorem el_n {S : HZ} {Z : EZ} {s i : Int32} (h : ¬ ((0 ≤ s ∧ s ≤ 7) ∧ rowH (S.1 s.toNatClampNeg))) : (0 : Int64) = spElem S Z s i := (pif_neg (fun z => h ⟨z.1, z.2.1⟩)).symm

set_option maxHeartbeats 4000000 in
set_option maxRecDepth 100000 in
theorem e_X6_element (l : Launch) (D : va_G) (E : Nat → ClassId) (G : Nat → Nat) (a : Nat → Nat) (C : Nat → va_E) (hT : TyX a E C) (x1 : Int32) (x2 : Int32) : Met l yX6_element (oh_w yX6_element cX6_element 3 (some .long)) ({ frames := 2, cells := 0, slots := 0, locals := 44 }) (oh_Pp D E G [.ref (a 0), .int x1, .int x2] (oh_W 35 a C)) (vp_Sl (fun r => (∀ (S : HZ) (Z : EZ), absHX C S → absEX C S Z → r = spElem S Z x1 x2))) 0 0 (fun _ => False) := by
  refine Met.ofW (cc := cX6_element) (maxL := 3) (ret := (some .long)) (by decide) rfl ?_
  intro p e s m args below meth c s₁ B hml hv
  obtain ⟨rfl, hP, hK, hG⟩ := hv
  have hx := B.exec
  have hb := B.bytes
  have hr := B.returns
  have hts := atoms_spec (ws := (oh_w yX6_element cX6_element 3 (some .long))) B.pre
  have htg : ∀ w ∈ oh_t, w.before _ s = true := fun w h => hts w (List.mem_cons_of_mem _ h)
  have hown : s.vm.findClass RX6 = some m.cls := findClass_of_methodNamed B.named
  have hlocks := B.notSynchronized
  have hT0 := hT
  have hS : va_S (fun _ => False) s.heap s.heap [] := va_S.rf
  have hl := lv_entry ([.ref (a 0), .int x1, .int x2]) (n := 3) (Nat.le_of_ble_eq_true rfl)
  rw [lg_entry_eq]
  generalize (lg_sl ([.ref (a 0), .int x1, .int x2]) ++ List.replicate (3 - (lg_sl ([.ref (a 0), .int x1, .int x2])).length) Slot.unset).toArray = ls at hl ⊢
  have hl : lv_has ls 3 [(0, .ref (a 0)), (1, .int x1), (2, .int x2)] := hl
  refine oh_genQ (fun Q hQ => ?_)
  refine lv_iload_n hx hb dX6_element_0 rfl (lv_at hl 1 rfl) ?_
  refine tq_S (As := [.int x1]) (rest := []) (ws := []) ⟨hx, hb, hml, hown, htg⟩ (c_X6_isShelf l D E G x1) (va_cwS 1 htg (oh_gS q_290 q_291 q_66 q_292) rfl rfl rfl pdX6_isShelf ⟨Nat.le_of_ble_eq_true rfl, Nat.le_of_ble_eq_true rfl⟩) hK va_nil hG hS rfl hl.1 rfl (Nat.le_of_ble_eq_true rfl) dX6_element_1 ⟨Nat.le_of_ble_eq_true rfl, Nat.le_of_ble_eq_true rfl⟩ (fun r_1 hq_2 => ?_)
  refine lv_if_eq (tgt := 18) hx hb dX6_element_4 (by decide) (fun (c_3 : r_1 = 0) => ?_) (fun (c_3 : ¬ (r_1 = 0)) => ?_)
  · have u_4 := hq_2.2.2 c_3
    refine lv_lconst (v := 0) hx hb dX6_element_18 (by decide) ?_
    rw [hQ]
    exact W.lret (v := 0) hx hb hr (fun t ht hW => ⟨0, rfl, (fun S Z hS0 hE => el_n (fun h8 => u_4 h8.1)), ht⟩) (fun q h => by cases h) dX6_element_19
  · have u_5 := hq_2.2.1 c_3
    refine lv_aload_n hx hb dX6_element_7 rfl (lv_at hl 0 rfl) ?_
    refine va_get (D := D) (ci := 6) (v := .ref (a 4)) (C := RX6) (T := TX6) (N := 9) hx hb htg ig_6 hown hK hP 0 (oh_wg (by decide) (sX_0 hT)) rfl 4 (by decide) (htg _ q_262) (fun _ h9 => h9) rfl dX6_element_8 ?_
    refine lv_iload_n hx hb dX6_element_11 rfl (lv_at hl 1 rfl) ?_
    refine tq_V (As := [.int x1]) (rest := []) (ws := (oh_W 35 a C)) ⟨hx, hb, hml, hown, htg⟩ (e_X3_holdsRow l D E G a C hT x1 (rg_w u_5 (by decide))) (cwV 1 htg (oh_gV q_352 q_336 q_337 q_70 q_338) rfl rfl rfl pdVX3_holdsRow ⟨Nat.le_of_ble_eq_true rfl, Nat.le_of_ble_eq_true rfl⟩) hK hP hG hS (va_recv hK hP (ci := 3) (q0 := 4) rfl (oh_wg (by decide) (sX_4 hT))) rfl hl.1 rfl (Nat.le_of_ble_eq_true rfl) dX6_element_12 ⟨Nat.le_of_ble_eq_true rfl, Nat.le_of_ble_eq_true rfl⟩ (fun r_6 hq_7 => ?_)
    refine lv_if_ne (tgt := 20) hx hb dX6_element_15 (by decide) (fun (c_8 : ¬ (r_6 = 0)) => ?_) (fun (c_8 : r_6 = 0) => ?_)
    · have u_9 := hq_7.2.1 c_8
      refine lv_aload_n hx hb dX6_element_20 rfl (lv_at hl 0 rfl) ?_
      refine va_get (D := D) (ci := 6) (v := .ref (a 4)) (C := RX6) (T := TX6) (N := 9) hx hb htg ig_6 hown hK hP 0 (oh_wg (by decide) (sX_0 hT)) rfl 4 (by decide) (htg _ q_262) (fun _ h9 => h9) rfl dX6_element_21 ?_
      refine lv_iload_n hx hb dX6_element_24 rfl (lv_at hl 1 rfl) ?_
      refine lv_iload_n hx hb dX6_element_25 rfl (lv_at hl 2 rfl) ?_
      refine tq_Vl (As := [.int x1, .int x2]) (rest := []) (ws := (oh_W 35 a C)) ⟨hx, hb, hml, hown, htg⟩ (e_X3_elementAt l D E G a C hT x1 x2 (rg_w u_5 (by decide))) (cwV 2 htg (oh_gV q_353 q_354 q_355 q_70 q_356) rfl rfl rfl pdVX3_elementAt ⟨Nat.le_of_ble_eq_true rfl, Nat.le_of_ble_eq_true rfl⟩) hK hP hG hS (va_recv hK hP (ci := 3) (q0 := 4) rfl (oh_wg (by decide) (sX_4 hT))) rfl hl.1 rfl (Nat.le_of_ble_eq_true rfl) dX6_element_26 ⟨Nat.le_of_ble_eq_true rfl, Nat.le_of_ble_eq_true rfl⟩ (fun r_10 hq_11 => ?_)
      rw [hQ]
      exact W.lret (v := r_10) hx hb hr (fun t ht hW => ⟨r_10, rfl, (fun S Z hS0 hE => el_x hS0 hE (oh_rgI (p := 0) (q := 7) (rg_w (lo := 0) (hi := 7) u_5 (by decide))) u_9 hq_11), ht⟩) (fun q h => by cases h) dX6_element_29
    · have u_12 := hq_7.2.2 c_8
      refine lv_lconst (v := 0) hx hb dX6_element_18 (by decide) ?_
      rw [hQ]
      exact W.lret (v := 0) hx hb hr (fun t ht hW => ⟨0, rfl, (fun S Z hS0 hE => el_n (fun h8 => u_12 (by rw [(hS0 _ (sh8 (rg_w (lo := 0) (hi := 7) u_5 (by decide)))).1]; exact h8.2))), ht⟩) (fun q h => by cases h) dX6_element_19

theorem whyR_1 {f : Nat → Int32} {s : Int32} : ¬ whyR f s = 1 := by
  unfold whyR
  by_cases q : 0 ≤ s ∧ s ≤ 7
  · rw [pif_pos q]
    by_cases p : (10 : Int32) ≤ f s.toNatClampNeg
    · rw [pif_pos p]
      decide
    · rw [pif_neg p]
      by_cases o : f s.toNatClampNeg = -1
      · rw [pif_pos o]
        decide
      · rw [pif_neg o]
        decide
  · rw [pif_neg q]
    decide

set_option maxHeartbeats 4000000 in
set_option maxRecDepth 100000 in
theorem e2_X6_set (l : Launch) (D : va_G) (E : Nat → ClassId) (G : Nat → Nat) (sz : Nat) (a : Nat → Nat) (C : Nat → va_E) (hT : TyX a E C) (x1 : Int32) (x2 : Int32) (x3 : Int64) : Met l yX6_set (oh_w yX6_set cX6_set 6 (some .int)) ({ frames := 3, cells := 0, slots := 0, locals := 63 }) (oh_Pm D E G [.ref (a 0), .int x1, .int x2, .long x3] (oh_W 35 a C) sz) (va_Qi (fun r (u : Nat → va_E) => TyX a E u ∧ fr [(7, 8), (31, 32)] [] C u ∧ (∀ S : HZ, absHX C S → r = spSet S x1 x2) ∧ (∀ (S : HZ) (Z : EZ), absHX C S → absEX C S Z → absEX u S (spStE S Z x1 x2 x3))) (oh_B D (va_A (oh_W 35 a C) sz) (fun u => oh_W 35 a u)) (va_A (oh_W 35 a C) sz)) 0 0 (va_A (oh_W 35 a C) sz) := by
  refine Met.ofW (cc := cX6_set) (maxL := 6) (ret := (some .int)) (by decide) rfl ?_
  intro p e s m args below meth c s₁ B hml hv
  obtain ⟨rfl, hsz, hP, hK, hD0, hG⟩ := hv
  have hx := B.exec
  have hb := B.bytes
  have hr := B.returns
  have hts := atoms_spec (ws := (oh_w yX6_set cX6_set 6 (some .int))) B.pre
  have htg : ∀ w ∈ oh_t, w.before _ s = true := fun w h => hts w (List.mem_cons_of_mem _ h)
  have hown : s.vm.findClass RX6 = some m.cls := findClass_of_methodNamed B.named
  have hlocks := B.notSynchronized
  have hT0 := hT
  subst hsz
  have hD := hD0.self (sz := s.heap.size)
  generalize hAe : va_A (oh_W 35 a C) s.heap.size = A at hD hG ⊢
  have hA : ∀ q : Nat, s.heap.size ≤ q → A q := fun q h => by rw [← hAe]; exact Or.inr h
  have hS : va_S A s.heap s.heap [] := va_S.rf
  have hF : fr [(7, 8), (31, 32)] [] C C := fr_rf
  have hl := lv_entry ([.ref (a 0), .int x1, .int x2, .long x3]) (n := 6) (Nat.le_of_ble_eq_true rfl)
  rw [lg_entry_eq]
  generalize (lg_sl ([.ref (a 0), .int x1, .int x2, .long x3]) ++ List.replicate (6 - (lg_sl ([.ref (a 0), .int x1, .int x2, .long x3])).length) Slot.unset).toArray = ls at hl ⊢
  have hl : lv_has ls 6 [(0, .ref (a 0)), (1, .int x1), (2, .int x2), (3, .long x3)] := hl
  refine oh_genQ (fun Q hQ => ?_)
  refine lv_aload_n hx hb dX6_set_0 rfl (lv_at hl 0 rfl) ?_
  refine lv_iload_n hx hb dX6_set_1 rfl (lv_at hl 1 rfl) ?_
  refine tq_V (As := [.int x1]) (rest := []) (ws := (oh_W 35 a C)) ⟨hx, hb, hml, hown, htg⟩ (e_X6_whyNoRow l D E G a C hT x1) (cwV 1 htg (oh_gV q_308 q_310 q_1 q_66 q_311) rfl rfl rfl pdVX6_whyNoRow ⟨Nat.le_of_ble_eq_true rfl, Nat.le_of_ble_eq_true rfl⟩) hK hP hG hS (va_recv hK hP (ci := 6) (q0 := 0) rfl (oh_wg (by decide) (sX_0 hT))) rfl hl.1 rfl (Nat.le_of_ble_eq_true rfl) dX6_set_2 ⟨Nat.le_of_ble_eq_true rfl, Nat.le_of_ble_eq_true rfl⟩ (fun r_1 hq_2 => ?_)
  refine lv_istore (lv' := [(5, .int r_1), (0, .ref (a 0)), (1, .int x1), (2, .int x2), (3, .long x3)]) hx hb dX6_set_5 hl (by decide) rfl (fun ls hl => ?_)
  refine lv_iload hx hb dX6_set_7 (lv_at hl 0 rfl) ?_
  refine lv_if_eq (tgt := 19) hx hb dX6_set_9 (by decide) (fun (c_3 : r_1 = 0) => ?_) (fun (c_3 : ¬ (r_1 = 0)) => ?_)
  · have u_4 := hq_2.1 c_3
    refine lv_iload_n hx hb dX6_set_19 rfl (lv_at hl 3 rfl) ?_
    refine lv_iconst (v := 0) hx hb dX6_set_20 (by decide) ?_
    refine lv_aload_n hx hb dX6_set_21 rfl (lv_at hl 1 rfl) ?_
    refine va_get (D := D) (ci := 6) (v := .ref (a 4)) (C := RX6) (T := TX6) (N := 9) hx hb htg ig_6 hown hK hP 0 (oh_wg (by decide) (sX_0 hT)) rfl 4 (by decide) (htg _ q_262) (fun _ h9 => h9) rfl dX6_set_22 ?_
    refine va_get (D := D) (ci := 3) (v := .ref (a 30)) (C := RX3) (T := TX3) (N := 3) hx hb htg ig_3 hown hK hP 4 (oh_wg (by decide) (sX_4 hT)) rfl 1 (by decide) (htg _ q_201) (fun _ h9 => h9) rfl dX6_set_25 ?_
    refine lv_iload_n hx hb dX6_set_28 rfl (lv_at hl 2 rfl) ?_
    have n_5 : vp_in x1 8 := (rg_in u_4 (by decide))
    refine th_iald hx hb hK hP 30 (by decide) (sX_30 hT) n_5 dX6_set_29 ?_
    refine lv_iconst (v := 1) hx hb dX6_set_30 (by decide) ?_
    refine lv_isub hx hb dX6_set_31 ?_
    refine tq_S (As := [.int x2, .int 0, .int ((ga (C 30) (x1).toNatClampNeg) - 1)]) (rest := []) (ws := []) ⟨hx, hb, hml, hown, htg⟩ (c_X6_within l D E G x2 (0 : Int32) ((ga (C 30) (x1).toNatClampNeg) - 1)) (va_cwS 3 htg (oh_gS q_293 q_294 q_66 q_295) rfl rfl rfl pdX6_within ⟨Nat.le_of_ble_eq_true rfl, Nat.le_of_ble_eq_true rfl⟩) hK va_nil hG hS rfl hl.1 rfl (Nat.le_of_ble_eq_true rfl) dX6_set_32 ⟨Nat.le_of_ble_eq_true rfl, Nat.le_of_ble_eq_true rfl⟩ (fun r_6 hq_7 => ?_)
    refine lv_if_ne (tgt := 45) hx hb dX6_set_35 (by decide) (fun (c_8 : ¬ (r_6 = 0)) => ?_) (fun (c_8 : r_6 = 0) => ?_)
    · have u_9 := hq_7.2.1 c_8
      refine lv_aload_n hx hb dX6_set_45 rfl (lv_at hl 1 rfl) ?_
      refine va_get (D := D) (ci := 6) (v := .ref (a 4)) (C := RX6) (T := TX6) (N := 9) hx hb htg ig_6 hown hK hP 0 (oh_wg (by decide) (sX_0 hT)) rfl 4 (by decide) (htg _ q_262) (fun _ h9 => h9) rfl dX6_set_46 ?_
      refine lv_iload_n hx hb dX6_set_49 rfl (lv_at hl 2 rfl) ?_
      refine lv_iload_n hx hb dX6_set_50 rfl (lv_at hl 3 rfl) ?_
      refine lv_lload_n hx hb dX6_set_51 rfl (lv_at hl 4 rfl) ?_
      refine tm_Vv (As := [.int x1, .int x2, .long x3]) (rest := []) ⟨hx, hb, hml, hown, htg⟩ (e_X3_putElement l D E G _ a C hT x1 x2 x3 (rg_w u_4 (by decide)) (rg_w (rn_leu u_9.2 (rn_lel u_9.1 (rg_c (v := 0) (lo := 0) (hi := 0) (by decide)) (rg_any _)) (rg_sub (lo := (-1)) (hi := 39) (tA_rdc (lo := 0) (hi := 40) (tX_30 hT0) n_5 (Nat.mod_one _) (by decide)) (rg_c (v := 1) (lo := 1) (hi := 1) (by decide)) (by decide))) (by decide))) (cwV 3 htg (oh_gV q_320 q_321 q_322 q_70 q_323) rfl rfl rfl pdVX3_putElement ⟨Nat.le_of_ble_eq_true rfl, Nat.le_of_ble_eq_true rfl⟩) hK hP hD hG hS hA (va_recv hK hP (ci := 3) (q0 := 4) rfl (oh_wg (by decide) (sX_4 hT))) rfl hl.1 rfl (Nat.le_of_ble_eq_true rfl) dX6_set_52 ⟨Nat.le_of_ble_eq_true rfl, Nat.le_of_ble_eq_true rfl⟩ (fun C_11 H locs hq_12 hP hD hS => ?_)
      obtain ⟨hT, f_13, hq_12⟩ := hq_12
      have hF := fr_tr hF f_13 (by decide) (by decide)
      refine W.widen (k := 0) (n := 0) (Nat.le_refl _) (Nat.le_refl _) ?_
      have t_14 := hT
      refine lv_iconst (v := 1) hx hb dX6_set_55 (by decide) ?_
      rw [hQ]
      exact W.iret (v := 1) hx hb hr (fun t ht hW => ⟨⟨1, C_11, rfl, ⟨hT, hF, ⟨(fun S hS0 => by have w := (Eq.trans (whyR_x hS0 x1).symm (Eq.trans (hq_2.2).symm c_3)); have z := (hS0 _ (sh8 (rg_w (lo := 0) (hi := 7) u_4 (by decide)))).2.2 (whyR_0 w).2; exact (Eq.trans (pif_pos w) (pif_pos (by rw [← z]; exact ⟨u_9.1, u_9.2⟩))).symm), (fun S Z hS0 hE => by have h1 : spSet S x1 x2 = 1 := ((show ∀ S : HZ, absHX C S → (1 : Int32) = spSet S x1 x2 from (fun S hS0 => by have w := (Eq.trans (whyR_x hS0 x1).symm (Eq.trans (hq_2.2).symm c_3)); have z := (hS0 _ (sh8 (rg_w (lo := 0) (hi := 7) u_4 (by decide)))).2.2 (whyR_0 w).2; exact (Eq.trans (pif_pos w) (pif_pos (by rw [← z]; exact ⟨u_9.1, u_9.2⟩))).symm)) S hS0).symm; have e9 := hq_12; rw [(hS0 _ (sh8 (rg_w (lo := 0) (hi := 7) u_4 (by decide)))).1] at e9; rw [show spStE S Z x1 x2 x3 = _ from pif_pos h1]; exact ex_set hE (by have h7 := oh_nat (rg_w (lo := 0) (hi := 39) (rn_leu u_9.2 (rn_lel u_9.1 (rg_c (v := 0) (lo := 0) (hi := 0) (by decide)) (rg_any _)) (rg_sub (lo := (-1)) (hi := 39) (tA_rdc (lo := 0) (hi := 40) (tX_30 hT0) n_5 (Nat.mod_one _) (by decide)) (rg_c (v := 1) (lo := 1) (hi := 1) (by decide)) (by decide))) (by decide)) (by decide); have h8 := (rg_w (lo := 0) (hi := 39) (rn_leu u_9.2 (rn_lel u_9.1 (rg_c (v := 0) (lo := 0) (hi := 0) (by decide)) (rg_any _)) (rg_sub (lo := (-1)) (hi := 39) (tA_rdc (lo := 0) (hi := 40) (tX_30 hT0) n_5 (Nat.mod_one _) (by decide)) (rg_c (v := 1) (lo := 1) (hi := 1) (by decide)) (by decide))) (by decide)).2; omega) e9)⟩⟩, ⟨by rw [ht]; exact hP, hD⟩⟩, hS.F ht⟩) hS.2.2 dX6_set_56
    · have u_15 := hq_7.2.2 c_8
      refine lv_aload_n hx hb dX6_set_38 rfl (lv_at hl 1 rfl) ?_
      refine lv_bipush (v := (-2)) hx hb dX6_set_39 (by decide) ?_
      refine tm_V (As := [.int (-2)]) (rest := []) ⟨hx, hb, hml, hown, htg⟩ (c_X6_refuse l D E G _ a C hT ((-2) : Int32)) (cwV 1 htg (oh_gV q_296 q_298 q_0 q_66 q_299) rfl rfl rfl pdVX6_refuse ⟨Nat.le_of_ble_eq_true rfl, Nat.le_of_ble_eq_true rfl⟩) hK hP hD hG hS hA (va_recv hK hP (ci := 6) (q0 := 0) rfl (oh_wg (by decide) (sX_0 hT))) rfl hl.1 rfl (Nat.le_of_ble_eq_true rfl) dX6_set_41 ⟨Nat.le_of_ble_eq_true rfl, Nat.le_of_ble_eq_true rfl⟩ (fun r_16 C_17 H locs hq_18 hP hD hS => ?_)
      obtain ⟨hT, f_19, hq_18⟩ := hq_18
      have hF := fr_tr hF f_19 (by decide) (by decide)
      refine W.widen (k := 0) (n := 0) (Nat.le_refl _) (Nat.le_refl _) ?_
      have t_20 := hT
      rw [hQ]
      exact W.iret (v := r_16) hx hb hr (fun t ht hW => ⟨⟨r_16, C_17, rfl, ⟨hT, hF, ⟨(fun S hS0 => by have w := (Eq.trans (whyR_x hS0 x1).symm (Eq.trans (hq_2.2).symm c_3)); have z := (hS0 _ (sh8 (rg_w (lo := 0) (hi := 7) u_4 (by decide)))).2.2 (whyR_0 w).2; exact Eq.trans hq_18 (Eq.trans (pif_pos w) (pif_neg (by rw [← z]; exact u_15))).symm), (fun S Z hS0 hE => by rw [show spStE S Z x1 x2 x3 = Z from pif_neg (fun h8 => by rw [← (show ∀ S : HZ, absHX C S → r_16 = spSet S x1 x2 from (fun S hS0 => by have w := (Eq.trans (whyR_x hS0 x1).symm (Eq.trans (hq_2.2).symm c_3)); have z := (hS0 _ (sh8 (rg_w (lo := 0) (hi := 7) u_4 (by decide)))).2.2 (whyR_0 w).2; exact Eq.trans hq_18 (Eq.trans (pif_pos w) (pif_neg (by rw [← z]; exact u_15))).symm)) S hS0] at h8; exact absurd h8 (by rw [hq_18]; decide))]; exact ex_eq hE (f_19.1 31 rfl (by decide)))⟩⟩, ⟨by rw [ht]; exact hP, hD⟩⟩, hS.F ht⟩) hS.2.2 dX6_set_44
  · refine lv_aload_n hx hb dX6_set_12 rfl (lv_at hl 1 rfl) ?_
    refine lv_iload hx hb dX6_set_13 (lv_at hl 0 rfl) ?_
    refine tm_V (As := [.int r_1]) (rest := []) ⟨hx, hb, hml, hown, htg⟩ (c_X6_refuse l D E G _ a C hT r_1) (cwV 1 htg (oh_gV q_296 q_298 q_0 q_66 q_299) rfl rfl rfl pdVX6_refuse ⟨Nat.le_of_ble_eq_true rfl, Nat.le_of_ble_eq_true rfl⟩) hK hP hD hG hS hA (va_recv hK hP (ci := 6) (q0 := 0) rfl (oh_wg (by decide) (sX_0 hT))) rfl hl.1 rfl (Nat.le_of_ble_eq_true rfl) dX6_set_15 ⟨Nat.le_of_ble_eq_true rfl, Nat.le_of_ble_eq_true rfl⟩ (fun r_21 C_22 H locs hq_23 hP hD hS => ?_)
    obtain ⟨hT, f_24, hq_23⟩ := hq_23
    have hF := fr_tr hF f_24 (by decide) (by decide)
    refine W.widen (k := 0) (n := 0) (Nat.le_refl _) (Nat.le_refl _) ?_
    have t_25 := hT
    rw [hQ]
    exact W.iret (v := r_21) hx hb hr (fun t ht hW => ⟨⟨r_21, C_22, rfl, ⟨hT, hF, ⟨(fun S hS0 => Eq.trans (Eq.trans hq_23 hq_2.2) (Eq.trans (whyR_x hS0 x1) (pif_neg (fun h8 => c_3 (Eq.trans hq_2.2 (Eq.trans (whyR_x hS0 x1) h8)))).symm)), (fun S Z hS0 hE => by rw [show spStE S Z x1 x2 x3 = Z from pif_neg (fun h8 => by rw [← (show ∀ S : HZ, absHX C S → r_21 = spSet S x1 x2 from (fun S hS0 => Eq.trans (Eq.trans hq_23 hq_2.2) (Eq.trans (whyR_x hS0 x1) (pif_neg (fun h8 => c_3 (Eq.trans hq_2.2 (Eq.trans (whyR_x hS0 x1) h8)))).symm))) S hS0] at h8; exact absurd h8 (by rw [(Eq.trans hq_23 hq_2.2)]; exact whyR_1))]; exact ex_eq hE (f_24.1 31 rfl (by decide)))⟩⟩, ⟨by rw [ht]; exact hP, hD⟩⟩, hS.F ht⟩) hS.2.2 dX6_set_18

set_option maxHeartbeats 4000000 in
set_option maxRecDepth 100000 in
theorem e2_X6_copy (l : Launch) (D : va_G) (E : Nat → ClassId) (G : Nat → Nat) (sz : Nat) (a : Nat → Nat) (C : Nat → va_E) (hT : TyX a E C) (x1 : Int32) (x2 : Int32) (x3 : Int32) (x4 : Int32) (x5 : Int32) : Met l yX6_copy (oh_w yX6_copy cX6_copy 6 (some .int)) ({ frames := 3, cells := 0, slots := 0, locals := 64 }) (oh_Pm D E G [.ref (a 0), .int x1, .int x2, .int x3, .int x4, .int x5] (oh_W 35 a C) sz) (va_Qi (fun r (u : Nat → va_E) => TyX a E u ∧ fr [(7, 8), (31, 32)] [] C u ∧ (∀ S : HZ, absHX C S → r = spCopy S x1 x2 x3 x4 x5) ∧ (∀ (S : HZ) (Z : EZ), absHX C S → absEX C S Z → absEX u S (spCpE S Z x1 x2 x3 x4 x5))) (oh_B D (va_A (oh_W 35 a C) sz) (fun u => oh_W 35 a u)) (va_A (oh_W 35 a C) sz)) 0 0 (va_A (oh_W 35 a C) sz) := by
  refine Met.ofW (cc := cX6_copy) (maxL := 6) (ret := (some .int)) (by decide) rfl ?_
  intro p e s m args below meth c s₁ B hml hv
  obtain ⟨rfl, hsz, hP, hK, hD0, hG⟩ := hv
  have hx := B.exec
  have hb := B.bytes
  have hr := B.returns
  have hts := atoms_spec (ws := (oh_w yX6_copy cX6_copy 6 (some .int))) B.pre
  have htg : ∀ w ∈ oh_t, w.before _ s = true := fun w h => hts w (List.mem_cons_of_mem _ h)
  have hown : s.vm.findClass RX6 = some m.cls := findClass_of_methodNamed B.named
  have hlocks := B.notSynchronized
  have hT0 := hT
  subst hsz
  have hD := hD0.self (sz := s.heap.size)
  generalize hAe : va_A (oh_W 35 a C) s.heap.size = A at hD hG ⊢
  have hA : ∀ q : Nat, s.heap.size ≤ q → A q := fun q h => by rw [← hAe]; exact Or.inr h
  have hS : va_S A s.heap s.heap [] := va_S.rf
  have hF : fr [(7, 8), (31, 32)] [] C C := fr_rf
  have hl := lv_entry ([.ref (a 0), .int x1, .int x2, .int x3, .int x4, .int x5]) (n := 6) (Nat.le_of_ble_eq_true rfl)
  rw [lg_entry_eq]
  generalize (lg_sl ([.ref (a 0), .int x1, .int x2, .int x3, .int x4, .int x5]) ++ List.replicate (6 - (lg_sl ([.ref (a 0), .int x1, .int x2, .int x3, .int x4, .int x5])).length) Slot.unset).toArray = ls at hl ⊢
  have hl : lv_has ls 6 [(0, .ref (a 0)), (1, .int x1), (2, .int x2), (3, .int x3), (4, .int x4), (5, .int x5)] := hl
  refine oh_genQ (fun Q hQ => ?_)
  refine lv_iload_n hx hb dX6_copy_0 rfl (lv_at hl 1 rfl) ?_
  refine tq_S (As := [.int x1]) (rest := []) (ws := []) ⟨hx, hb, hml, hown, htg⟩ (c_X6_isShelf l D E G x1) (va_cwS 1 htg (oh_gS q_290 q_291 q_66 q_292) rfl rfl rfl pdX6_isShelf ⟨Nat.le_of_ble_eq_true rfl, Nat.le_of_ble_eq_true rfl⟩) hK va_nil hG hS rfl hl.1 rfl (Nat.le_of_ble_eq_true rfl) dX6_copy_1 ⟨Nat.le_of_ble_eq_true rfl, Nat.le_of_ble_eq_true rfl⟩ (fun r_1 hq_2 => ?_)
  refine lv_if_eq (tgt := 14) hx hb dX6_copy_4 (by decide) (fun (c_3 : r_1 = 0) => ?_) (fun (c_3 : ¬ (r_1 = 0)) => ?_)
  · have u_4 := hq_2.2.2 c_3
    refine lv_aload_n hx hb dX6_copy_14 rfl (lv_at hl 0 rfl) ?_
    refine lv_bipush (v := (-2)) hx hb dX6_copy_15 (by decide) ?_
    refine tm_V (As := [.int (-2)]) (rest := []) ⟨hx, hb, hml, hown, htg⟩ (c_X6_refuse l D E G _ a C hT ((-2) : Int32)) (cwV 1 htg (oh_gV q_296 q_298 q_0 q_66 q_299) rfl rfl rfl pdVX6_refuse ⟨Nat.le_of_ble_eq_true rfl, Nat.le_of_ble_eq_true rfl⟩) hK hP hD hG hS hA (va_recv hK hP (ci := 6) (q0 := 0) rfl (oh_wg (by decide) (sX_0 hT))) rfl hl.1 rfl (Nat.le_of_ble_eq_true rfl) dX6_copy_17 ⟨Nat.le_of_ble_eq_true rfl, Nat.le_of_ble_eq_true rfl⟩ (fun r_5 C_6 H locs hq_7 hP hD hS => ?_)
    obtain ⟨hT, f_8, hq_7⟩ := hq_7
    have hF := fr_tr hF f_8 (by decide) (by decide)
    refine W.widen (k := 0) (n := 0) (Nat.le_refl _) (Nat.le_refl _) ?_
    have t_9 := hT
    rw [hQ]
    exact W.iret (v := r_5) hx hb hr (fun t ht hW => ⟨⟨r_5, C_6, rfl, ⟨hT, hF, ⟨(fun S hS0 => Eq.trans hq_7 (pif_neg (fun h8 => u_4 h8.1)).symm), (fun S Z hS0 hE => by rw [show spCpE S Z x1 x2 x3 x4 x5 = Z from pif_neg (fun h8 => u_4 h8.1.1)]; exact ex_eq hE (f_8.1 31 rfl (by decide)))⟩⟩, ⟨by rw [ht]; exact hP, hD⟩⟩, hS.F ht⟩) hS.2.2 dX6_copy_20
  · have u_10 := hq_2.2.1 c_3
    refine lv_iload_n hx hb dX6_copy_7 rfl (lv_at hl 2 rfl) ?_
    refine tq_S (As := [.int x2]) (rest := []) (ws := []) ⟨hx, hb, hml, hown, htg⟩ (c_X6_isShelf l D E G x2) (va_cwS 1 htg (oh_gS q_290 q_291 q_66 q_292) rfl rfl rfl pdX6_isShelf ⟨Nat.le_of_ble_eq_true rfl, Nat.le_of_ble_eq_true rfl⟩) hK va_nil hG hS rfl hl.1 rfl (Nat.le_of_ble_eq_true rfl) dX6_copy_8 ⟨Nat.le_of_ble_eq_true rfl, Nat.le_of_ble_eq_true rfl⟩ (fun r_11 hq_12 => ?_)
    refine lv_if_ne (tgt := 21) hx hb dX6_copy_11 (by decide) (fun (c_13 : ¬ (r_11 = 0)) => ?_) (fun (c_13 : r_11 = 0) => ?_)
    · have u_14 := hq_12.2.1 c_13
      refine lv_aload_n hx hb dX6_copy_21 rfl (lv_at hl 0 rfl) ?_
      refine va_get (D := D) (ci := 6) (v := .ref (a 4)) (C := RX6) (T := TX6) (N := 9) hx hb htg ig_6 hown hK hP 0 (oh_wg (by decide) (sX_0 hT)) rfl 4 (by decide) (htg _ q_262) (fun _ h9 => h9) rfl dX6_copy_22 ?_
      refine lv_iload_n hx hb dX6_copy_25 rfl (lv_at hl 1 rfl) ?_
      refine tq_V (As := [.int x1]) (rest := []) (ws := (oh_W 35 a C)) ⟨hx, hb, hml, hown, htg⟩ (e_X3_holdsBridge l D E G a C hT x1 (rg_w u_10 (by decide))) (cwV 1 htg (oh_gV q_312 q_313 q_314 q_70 q_315) rfl rfl rfl pdVX3_holdsBridge ⟨Nat.le_of_ble_eq_true rfl, Nat.le_of_ble_eq_true rfl⟩) hK hP hG hS (va_recv hK hP (ci := 3) (q0 := 4) rfl (oh_wg (by decide) (sX_4 hT))) rfl hl.1 rfl (Nat.le_of_ble_eq_true rfl) dX6_copy_26 ⟨Nat.le_of_ble_eq_true rfl, Nat.le_of_ble_eq_true rfl⟩ (fun r_15 hq_16 => ?_)
      refine lv_if_ne (tgt := 55) hx hb dX6_copy_29 (by decide) (fun (c_17 : ¬ (r_15 = 0)) => ?_) (fun (c_17 : r_15 = 0) => ?_)
      · have u_18 := hq_16.2.1 c_17
        refine lv_aload_n hx hb dX6_copy_55 rfl (lv_at hl 0 rfl) ?_
        refine lv_bipush (v := (-3)) hx hb dX6_copy_56 (by decide) ?_
        refine tm_V (As := [.int (-3)]) (rest := []) ⟨hx, hb, hml, hown, htg⟩ (c_X6_refuse l D E G _ a C hT ((-3) : Int32)) (cwV 1 htg (oh_gV q_296 q_298 q_0 q_66 q_299) rfl rfl rfl pdVX6_refuse ⟨Nat.le_of_ble_eq_true rfl, Nat.le_of_ble_eq_true rfl⟩) hK hP hD hG hS hA (va_recv hK hP (ci := 6) (q0 := 0) rfl (oh_wg (by decide) (sX_0 hT))) rfl hl.1 rfl (Nat.le_of_ble_eq_true rfl) dX6_copy_58 ⟨Nat.le_of_ble_eq_true rfl, Nat.le_of_ble_eq_true rfl⟩ (fun r_19 C_20 H locs hq_21 hP hD hS => ?_)
        obtain ⟨hT, f_22, hq_21⟩ := hq_21
        have hF := fr_tr hF f_22 (by decide) (by decide)
        refine W.widen (k := 0) (n := 0) (Nat.le_refl _) (Nat.le_refl _) ?_
        have t_23 := hT
        rw [hQ]
        exact W.iret (v := r_19) hx hb hr (fun t ht hW => ⟨⟨r_19, C_20, rfl, ⟨hT, hF, ⟨(fun S hS0 => by have e1 := (hS0 _ (sh8 (rg_w (lo := 0) (hi := 7) u_10 (by decide)))).1; have e2 := (hS0 _ (sh8 (rg_w (lo := 0) (hi := 7) u_14 (by decide)))).1; exact Eq.trans hq_21 (Eq.trans (pif_pos ⟨(oh_rgI (p := 0) (q := 7) (rg_w (lo := 0) (hi := 7) u_10 (by decide))), (oh_rgI (p := 0) (q := 7) (rg_w (lo := 0) (hi := 7) u_14 (by decide)))⟩) (pif_pos (by rw [← e1, ← e2]; exact Or.inl u_18))).symm), (fun S Z hS0 hE => by rw [show spCpE S Z x1 x2 x3 x4 x5 = Z from pif_neg (fun h8 => h8.2.1.2 (by rw [← (hS0 _ (sh8 (rg_w (lo := 0) (hi := 7) u_10 (by decide)))).1]; exact u_18))]; exact ex_eq hE (f_22.1 31 rfl (by decide)))⟩⟩, ⟨by rw [ht]; exact hP, hD⟩⟩, hS.F ht⟩) hS.2.2 dX6_copy_61
      · have u_24 := hq_16.2.2 c_17
        refine lv_aload_n hx hb dX6_copy_32 rfl (lv_at hl 0 rfl) ?_
        refine va_get (D := D) (ci := 6) (v := .ref (a 4)) (C := RX6) (T := TX6) (N := 9) hx hb htg ig_6 hown hK hP 0 (oh_wg (by decide) (sX_0 hT)) rfl 4 (by decide) (htg _ q_262) (fun _ h9 => h9) rfl dX6_copy_33 ?_
        refine lv_iload_n hx hb dX6_copy_36 rfl (lv_at hl 2 rfl) ?_
        refine tq_V (As := [.int x2]) (rest := []) (ws := (oh_W 35 a C)) ⟨hx, hb, hml, hown, htg⟩ (e_X3_holdsBridge l D E G a C hT x2 (rg_w u_14 (by decide))) (cwV 1 htg (oh_gV q_312 q_313 q_314 q_70 q_315) rfl rfl rfl pdVX3_holdsBridge ⟨Nat.le_of_ble_eq_true rfl, Nat.le_of_ble_eq_true rfl⟩) hK hP hG hS (va_recv hK hP (ci := 3) (q0 := 4) rfl (oh_wg (by decide) (sX_4 hT))) rfl hl.1 rfl (Nat.le_of_ble_eq_true rfl) dX6_copy_37 ⟨Nat.le_of_ble_eq_true rfl, Nat.le_of_ble_eq_true rfl⟩ (fun r_25 hq_26 => ?_)
        refine lv_if_ne (tgt := 55) hx hb dX6_copy_40 (by decide) (fun (c_27 : ¬ (r_25 = 0)) => ?_) (fun (c_27 : r_25 = 0) => ?_)
        · have u_28 := hq_26.2.1 c_27
          refine lv_aload_n hx hb dX6_copy_55 rfl (lv_at hl 0 rfl) ?_
          refine lv_bipush (v := (-3)) hx hb dX6_copy_56 (by decide) ?_
          refine tm_V (As := [.int (-3)]) (rest := []) ⟨hx, hb, hml, hown, htg⟩ (c_X6_refuse l D E G _ a C hT ((-3) : Int32)) (cwV 1 htg (oh_gV q_296 q_298 q_0 q_66 q_299) rfl rfl rfl pdVX6_refuse ⟨Nat.le_of_ble_eq_true rfl, Nat.le_of_ble_eq_true rfl⟩) hK hP hD hG hS hA (va_recv hK hP (ci := 6) (q0 := 0) rfl (oh_wg (by decide) (sX_0 hT))) rfl hl.1 rfl (Nat.le_of_ble_eq_true rfl) dX6_copy_58 ⟨Nat.le_of_ble_eq_true rfl, Nat.le_of_ble_eq_true rfl⟩ (fun r_29 C_30 H locs hq_31 hP hD hS => ?_)
          obtain ⟨hT, f_32, hq_31⟩ := hq_31
          have hF := fr_tr hF f_32 (by decide) (by decide)
          refine W.widen (k := 0) (n := 0) (Nat.le_refl _) (Nat.le_refl _) ?_
          have t_33 := hT
          rw [hQ]
          exact W.iret (v := r_29) hx hb hr (fun t ht hW => ⟨⟨r_29, C_30, rfl, ⟨hT, hF, ⟨(fun S hS0 => by have e1 := (hS0 _ (sh8 (rg_w (lo := 0) (hi := 7) u_10 (by decide)))).1; have e2 := (hS0 _ (sh8 (rg_w (lo := 0) (hi := 7) u_14 (by decide)))).1; exact Eq.trans hq_31 (Eq.trans (pif_pos ⟨(oh_rgI (p := 0) (q := 7) (rg_w (lo := 0) (hi := 7) u_10 (by decide))), (oh_rgI (p := 0) (q := 7) (rg_w (lo := 0) (hi := 7) u_14 (by decide)))⟩) (pif_pos (by rw [← e1, ← e2]; exact Or.inr (Or.inl u_28)))).symm), (fun S Z hS0 hE => by rw [show spCpE S Z x1 x2 x3 x4 x5 = Z from pif_neg (fun h8 => h8.2.2.1.2 (by rw [← (hS0 _ (sh8 (rg_w (lo := 0) (hi := 7) u_14 (by decide)))).1]; exact u_28))]; exact ex_eq hE (f_32.1 31 rfl (by decide)))⟩⟩, ⟨by rw [ht]; exact hP, hD⟩⟩, hS.F ht⟩) hS.2.2 dX6_copy_61
        · have u_34 := hq_26.2.2 c_27
          refine lv_aload_n hx hb dX6_copy_43 rfl (lv_at hl 0 rfl) ?_
          refine va_get (D := D) (ci := 6) (v := .ref (a 4)) (C := RX6) (T := TX6) (N := 9) hx hb htg ig_6 hown hK hP 0 (oh_wg (by decide) (sX_0 hT)) rfl 4 (by decide) (htg _ q_262) (fun _ h9 => h9) rfl dX6_copy_44 ?_
          refine lv_iload_n hx hb dX6_copy_47 rfl (lv_at hl 1 rfl) ?_
          refine lv_iload_n hx hb dX6_copy_48 rfl (lv_at hl 2 rfl) ?_
          refine tq_V (As := [.int x1, .int x2]) (rest := []) (ws := (oh_W 35 a C)) ⟨hx, hb, hml, hown, htg⟩ (e_X3_holdsUnlikeRows l D E G a C hT x1 x2 (rg_w u_10 (by decide)) (rg_w u_14 (by decide))) (cwV 2 htg (oh_gV q_331 q_332 q_333 q_70 q_334) rfl rfl rfl pdVX3_holdsUnlikeRows ⟨Nat.le_of_ble_eq_true rfl, Nat.le_of_ble_eq_true rfl⟩) hK hP hG hS (va_recv hK hP (ci := 3) (q0 := 4) rfl (oh_wg (by decide) (sX_4 hT))) rfl hl.1 rfl (Nat.le_of_ble_eq_true rfl) dX6_copy_49 ⟨Nat.le_of_ble_eq_true rfl, Nat.le_of_ble_eq_true rfl⟩ (fun r_35 hq_36 => ?_)
          refine lv_if_eq (tgt := 62) hx hb dX6_copy_52 (by decide) (fun (c_37 : r_35 = 0) => ?_) (fun (c_37 : ¬ (r_35 = 0)) => ?_)
          · have u_38 := hq_36.2.2 c_37
            refine lv_aload_n hx hb dX6_copy_62 rfl (lv_at hl 0 rfl) ?_
            refine va_get (D := D) (ci := 6) (v := .ref (a 4)) (C := RX6) (T := TX6) (N := 9) hx hb htg ig_6 hown hK hP 0 (oh_wg (by decide) (sX_0 hT)) rfl 4 (by decide) (htg _ q_262) (fun _ h9 => h9) rfl dX6_copy_63 ?_
            refine lv_iload_n hx hb dX6_copy_66 rfl (lv_at hl 1 rfl) ?_
            refine tq_V (As := [.int x1]) (rest := []) (ws := (oh_W 35 a C)) ⟨hx, hb, hml, hown, htg⟩ (e_X3_holdsNothing l D E G a C hT x1 (rg_w u_10 (by decide))) (cwV 1 htg (oh_gV q_316 q_317 q_318 q_70 q_319) rfl rfl rfl pdVX3_holdsNothing ⟨Nat.le_of_ble_eq_true rfl, Nat.le_of_ble_eq_true rfl⟩) hK hP hG hS (va_recv hK hP (ci := 3) (q0 := 4) rfl (oh_wg (by decide) (sX_4 hT))) rfl hl.1 rfl (Nat.le_of_ble_eq_true rfl) dX6_copy_67 ⟨Nat.le_of_ble_eq_true rfl, Nat.le_of_ble_eq_true rfl⟩ (fun r_39 hq_40 => ?_)
            refine lv_if_ne (tgt := 84) hx hb dX6_copy_70 (by decide) (fun (c_41 : ¬ (r_39 = 0)) => ?_) (fun (c_41 : r_39 = 0) => ?_)
            · have u_42 := hq_40.2.1 c_41
              refine lv_aload_n hx hb dX6_copy_84 rfl (lv_at hl 0 rfl) ?_
              refine lv_bipush (v := (-4)) hx hb dX6_copy_85 (by decide) ?_
              refine tm_V (As := [.int (-4)]) (rest := []) ⟨hx, hb, hml, hown, htg⟩ (c_X6_refuse l D E G _ a C hT ((-4) : Int32)) (cwV 1 htg (oh_gV q_296 q_298 q_0 q_66 q_299) rfl rfl rfl pdVX6_refuse ⟨Nat.le_of_ble_eq_true rfl, Nat.le_of_ble_eq_true rfl⟩) hK hP hD hG hS hA (va_recv hK hP (ci := 6) (q0 := 0) rfl (oh_wg (by decide) (sX_0 hT))) rfl hl.1 rfl (Nat.le_of_ble_eq_true rfl) dX6_copy_87 ⟨Nat.le_of_ble_eq_true rfl, Nat.le_of_ble_eq_true rfl⟩ (fun r_43 C_44 H locs hq_45 hP hD hS => ?_)
              obtain ⟨hT, f_46, hq_45⟩ := hq_45
              have hF := fr_tr hF f_46 (by decide) (by decide)
              refine W.widen (k := 0) (n := 0) (Nat.le_refl _) (Nat.le_refl _) ?_
              have t_47 := hT
              rw [hQ]
              exact W.iret (v := r_43) hx hb hr (fun t ht hW => ⟨⟨r_43, C_44, rfl, ⟨hT, hF, ⟨(fun S hS0 => by have e1 := (hS0 _ (sh8 (rg_w (lo := 0) (hi := 7) u_10 (by decide)))).1; have e2 := (hS0 _ (sh8 (rg_w (lo := 0) (hi := 7) u_14 (by decide)))).1; exact Eq.trans hq_45 (Eq.trans (pif_pos ⟨(oh_rgI (p := 0) (q := 7) (rg_w (lo := 0) (hi := 7) u_10 (by decide))), (oh_rgI (p := 0) (q := 7) (rg_w (lo := 0) (hi := 7) u_14 (by decide)))⟩) (Eq.trans (pif_neg (by rw [← e1, ← e2]; exact fun h8 => by rcases h8 with h7 | h7 | h7; exact u_24 h7; exact u_34 h7; exact u_38 h7)) (pif_pos (by rw [← e1, ← e2]; exact Or.inl u_42)))).symm), (fun S Z hS0 hE => by rw [show spCpE S Z x1 x2 x3 x4 x5 = Z from pif_neg (fun h8 => h8.2.1.1 (by rw [← (hS0 _ (sh8 (rg_w (lo := 0) (hi := 7) u_10 (by decide)))).1]; exact u_42))]; exact ex_eq hE (f_46.1 31 rfl (by decide)))⟩⟩, ⟨by rw [ht]; exact hP, hD⟩⟩, hS.F ht⟩) hS.2.2 dX6_copy_90
            · have u_48 := hq_40.2.2 c_41
              refine lv_aload_n hx hb dX6_copy_73 rfl (lv_at hl 0 rfl) ?_
              refine va_get (D := D) (ci := 6) (v := .ref (a 4)) (C := RX6) (T := TX6) (N := 9) hx hb htg ig_6 hown hK hP 0 (oh_wg (by decide) (sX_0 hT)) rfl 4 (by decide) (htg _ q_262) (fun _ h9 => h9) rfl dX6_copy_74 ?_
              refine lv_iload_n hx hb dX6_copy_77 rfl (lv_at hl 2 rfl) ?_
              refine tq_V (As := [.int x2]) (rest := []) (ws := (oh_W 35 a C)) ⟨hx, hb, hml, hown, htg⟩ (e_X3_holdsNothing l D E G a C hT x2 (rg_w u_14 (by decide))) (cwV 1 htg (oh_gV q_316 q_317 q_318 q_70 q_319) rfl rfl rfl pdVX3_holdsNothing ⟨Nat.le_of_ble_eq_true rfl, Nat.le_of_ble_eq_true rfl⟩) hK hP hG hS (va_recv hK hP (ci := 3) (q0 := 4) rfl (oh_wg (by decide) (sX_4 hT))) rfl hl.1 rfl (Nat.le_of_ble_eq_true rfl) dX6_copy_78 ⟨Nat.le_of_ble_eq_true rfl, Nat.le_of_ble_eq_true rfl⟩ (fun r_49 hq_50 => ?_)
              refine lv_if_eq (tgt := 91) hx hb dX6_copy_81 (by decide) (fun (c_51 : r_49 = 0) => ?_) (fun (c_51 : ¬ (r_49 = 0)) => ?_)
              · have u_52 := hq_50.2.2 c_51
                refine lv_iload hx hb dX6_copy_91 (lv_at hl 5 rfl) ?_
                refine lv_iconst (v := 0) hx hb dX6_copy_93 (by decide) ?_
                refine lv_bipush (v := 40) hx hb dX6_copy_94 (by decide) ?_
                refine tq_S (As := [.int x5, .int 0, .int 40]) (rest := []) (ws := []) ⟨hx, hb, hml, hown, htg⟩ (c_X6_within l D E G x5 (0 : Int32) (40 : Int32)) (va_cwS 3 htg (oh_gS q_293 q_294 q_66 q_295) rfl rfl rfl pdX6_within ⟨Nat.le_of_ble_eq_true rfl, Nat.le_of_ble_eq_true rfl⟩) hK va_nil hG hS rfl hl.1 rfl (Nat.le_of_ble_eq_true rfl) dX6_copy_96 ⟨Nat.le_of_ble_eq_true rfl, Nat.le_of_ble_eq_true rfl⟩ (fun r_53 hq_54 => ?_)
                refine lv_if_eq (tgt := 143) hx hb dX6_copy_99 (by decide) (fun (c_55 : r_53 = 0) => ?_) (fun (c_55 : ¬ (r_53 = 0)) => ?_)
                · have u_56 := hq_54.2.2 c_55
                  refine lv_aload_n hx hb dX6_copy_143 rfl (lv_at hl 0 rfl) ?_
                  refine lv_bipush (v := (-2)) hx hb dX6_copy_144 (by decide) ?_
                  refine tm_V (As := [.int (-2)]) (rest := []) ⟨hx, hb, hml, hown, htg⟩ (c_X6_refuse l D E G _ a C hT ((-2) : Int32)) (cwV 1 htg (oh_gV q_296 q_298 q_0 q_66 q_299) rfl rfl rfl pdVX6_refuse ⟨Nat.le_of_ble_eq_true rfl, Nat.le_of_ble_eq_true rfl⟩) hK hP hD hG hS hA (va_recv hK hP (ci := 6) (q0 := 0) rfl (oh_wg (by decide) (sX_0 hT))) rfl hl.1 rfl (Nat.le_of_ble_eq_true rfl) dX6_copy_146 ⟨Nat.le_of_ble_eq_true rfl, Nat.le_of_ble_eq_true rfl⟩ (fun r_57 C_58 H locs hq_59 hP hD hS => ?_)
                  obtain ⟨hT, f_60, hq_59⟩ := hq_59
                  have hF := fr_tr hF f_60 (by decide) (by decide)
                  refine W.widen (k := 0) (n := 0) (Nat.le_refl _) (Nat.le_refl _) ?_
                  have t_61 := hT
                  rw [hQ]
                  exact W.iret (v := r_57) hx hb hr (fun t ht hW => ⟨⟨r_57, C_58, rfl, ⟨hT, hF, ⟨(fun S hS0 => by have e1 := (hS0 _ (sh8 (rg_w (lo := 0) (hi := 7) u_10 (by decide)))).1; have e2 := (hS0 _ (sh8 (rg_w (lo := 0) (hi := 7) u_14 (by decide)))).1; have z1 := (hS0 _ (sh8 (rg_w (lo := 0) (hi := 7) u_10 (by decide)))).2.2 (by rw [← e1]; exact ⟨u_48, u_24⟩); have z2 := (hS0 _ (sh8 (rg_w (lo := 0) (hi := 7) u_14 (by decide)))).2.2 (by rw [← e2]; exact ⟨u_52, u_34⟩); exact Eq.trans hq_59 (Eq.trans (pif_pos ⟨(oh_rgI (p := 0) (q := 7) (rg_w (lo := 0) (hi := 7) u_10 (by decide))), (oh_rgI (p := 0) (q := 7) (rg_w (lo := 0) (hi := 7) u_14 (by decide)))⟩) (Eq.trans (pif_neg (by rw [← e1, ← e2]; exact fun h8 => by rcases h8 with h7 | h7 | h7; exact u_24 h7; exact u_34 h7; exact u_38 h7)) (Eq.trans (pif_neg (by rw [← e1, ← e2]; exact fun h8 => by rcases h8 with h7 | h7; exact u_48 h7; exact u_52 h7)) (pif_neg (by unfold okCp; rw [← z1, ← z2]; exact fun h8 => u_56 h8.1))))).symm), (fun S Z hS0 hE => by have e1 := (hS0 _ (sh8 (rg_w (lo := 0) (hi := 7) u_10 (by decide)))).1; have e2 := (hS0 _ (sh8 (rg_w (lo := 0) (hi := 7) u_14 (by decide)))).1; have r1 : rowH (S.1 x1.toNatClampNeg) := (by rw [← e1]; exact ⟨u_48, u_24⟩); have r2 : rowH (S.1 x2.toNatClampNeg) := (by rw [← e2]; exact ⟨u_52, u_34⟩); have z1 := (hS0 _ (sh8 (rg_w (lo := 0) (hi := 7) u_10 (by decide)))).2.2 r1; have z2 := (hS0 _ (sh8 (rg_w (lo := 0) (hi := 7) u_14 (by decide)))).2.2 r2; rw [show spCpE S Z x1 x2 x3 x4 x5 = Z from pif_neg (fun h8 => by have h7 := h8.2.2.2.2; unfold okCp at h7; rw [← z1, ← z2] at h7; exact u_56 h7.1)]; exact ex_eq hE (f_60.1 31 rfl (by decide)))⟩⟩, ⟨by rw [ht]; exact hP, hD⟩⟩, hS.F ht⟩) hS.2.2 dX6_copy_149
                · have u_62 := hq_54.2.1 c_55
                  refine lv_iload_n hx hb dX6_copy_102 rfl (lv_at hl 3 rfl) ?_
                  refine lv_iconst (v := 0) hx hb dX6_copy_103 (by decide) ?_
                  refine lv_aload_n hx hb dX6_copy_104 rfl (lv_at hl 0 rfl) ?_
                  refine va_get (D := D) (ci := 6) (v := .ref (a 4)) (C := RX6) (T := TX6) (N := 9) hx hb htg ig_6 hown hK hP 0 (oh_wg (by decide) (sX_0 hT)) rfl 4 (by decide) (htg _ q_262) (fun _ h9 => h9) rfl dX6_copy_105 ?_
                  refine va_get (D := D) (ci := 3) (v := .ref (a 30)) (C := RX3) (T := TX3) (N := 3) hx hb htg ig_3 hown hK hP 4 (oh_wg (by decide) (sX_4 hT)) rfl 1 (by decide) (htg _ q_201) (fun _ h9 => h9) rfl dX6_copy_108 ?_
                  refine lv_iload_n hx hb dX6_copy_111 rfl (lv_at hl 1 rfl) ?_
                  have n_63 : vp_in x1 8 := (rg_in u_10 (by decide))
                  refine th_iald hx hb hK hP 30 (by decide) (sX_30 hT) n_63 dX6_copy_112 ?_
                  refine lv_iload hx hb dX6_copy_113 (lv_at hl 5 rfl) ?_
                  refine lv_isub hx hb dX6_copy_115 ?_
                  refine tq_S (As := [.int x3, .int 0, .int ((ga (C 30) (x1).toNatClampNeg) - x5)]) (rest := []) (ws := []) ⟨hx, hb, hml, hown, htg⟩ (c_X6_within l D E G x3 (0 : Int32) ((ga (C 30) (x1).toNatClampNeg) - x5)) (va_cwS 3 htg (oh_gS q_293 q_294 q_66 q_295) rfl rfl rfl pdX6_within ⟨Nat.le_of_ble_eq_true rfl, Nat.le_of_ble_eq_true rfl⟩) hK va_nil hG hS rfl hl.1 rfl (Nat.le_of_ble_eq_true rfl) dX6_copy_116 ⟨Nat.le_of_ble_eq_true rfl, Nat.le_of_ble_eq_true rfl⟩ (fun r_64 hq_65 => ?_)
                  refine lv_if_eq (tgt := 143) hx hb dX6_copy_119 (by decide) (fun (c_66 : r_64 = 0) => ?_) (fun (c_66 : ¬ (r_64 = 0)) => ?_)
                  · have u_67 := hq_65.2.2 c_66
                    refine lv_aload_n hx hb dX6_copy_143 rfl (lv_at hl 0 rfl) ?_
                    refine lv_bipush (v := (-2)) hx hb dX6_copy_144 (by decide) ?_
                    refine tm_V (As := [.int (-2)]) (rest := []) ⟨hx, hb, hml, hown, htg⟩ (c_X6_refuse l D E G _ a C hT ((-2) : Int32)) (cwV 1 htg (oh_gV q_296 q_298 q_0 q_66 q_299) rfl rfl rfl pdVX6_refuse ⟨Nat.le_of_ble_eq_true rfl, Nat.le_of_ble_eq_true rfl⟩) hK hP hD hG hS hA (va_recv hK hP (ci := 6) (q0 := 0) rfl (oh_wg (by decide) (sX_0 hT))) rfl hl.1 rfl (Nat.le_of_ble_eq_true rfl) dX6_copy_146 ⟨Nat.le_of_ble_eq_true rfl, Nat.le_of_ble_eq_true rfl⟩ (fun r_68 C_69 H locs hq_70 hP hD hS => ?_)
                    obtain ⟨hT, f_71, hq_70⟩ := hq_70
                    have hF := fr_tr hF f_71 (by decide) (by decide)
                    refine W.widen (k := 0) (n := 0) (Nat.le_refl _) (Nat.le_refl _) ?_
                    have t_72 := hT
                    rw [hQ]
                    exact W.iret (v := r_68) hx hb hr (fun t ht hW => ⟨⟨r_68, C_69, rfl, ⟨hT, hF, ⟨(fun S hS0 => by have e1 := (hS0 _ (sh8 (rg_w (lo := 0) (hi := 7) u_10 (by decide)))).1; have e2 := (hS0 _ (sh8 (rg_w (lo := 0) (hi := 7) u_14 (by decide)))).1; have z1 := (hS0 _ (sh8 (rg_w (lo := 0) (hi := 7) u_10 (by decide)))).2.2 (by rw [← e1]; exact ⟨u_48, u_24⟩); have z2 := (hS0 _ (sh8 (rg_w (lo := 0) (hi := 7) u_14 (by decide)))).2.2 (by rw [← e2]; exact ⟨u_52, u_34⟩); exact Eq.trans hq_70 (Eq.trans (pif_pos ⟨(oh_rgI (p := 0) (q := 7) (rg_w (lo := 0) (hi := 7) u_10 (by decide))), (oh_rgI (p := 0) (q := 7) (rg_w (lo := 0) (hi := 7) u_14 (by decide)))⟩) (Eq.trans (pif_neg (by rw [← e1, ← e2]; exact fun h8 => by rcases h8 with h7 | h7 | h7; exact u_24 h7; exact u_34 h7; exact u_38 h7)) (Eq.trans (pif_neg (by rw [← e1, ← e2]; exact fun h8 => by rcases h8 with h7 | h7; exact u_48 h7; exact u_52 h7)) (pif_neg (by unfold okCp; rw [← z1, ← z2]; exact fun h8 => u_67 h8.2.1))))).symm), (fun S Z hS0 hE => by have e1 := (hS0 _ (sh8 (rg_w (lo := 0) (hi := 7) u_10 (by decide)))).1; have e2 := (hS0 _ (sh8 (rg_w (lo := 0) (hi := 7) u_14 (by decide)))).1; have r1 : rowH (S.1 x1.toNatClampNeg) := (by rw [← e1]; exact ⟨u_48, u_24⟩); have r2 : rowH (S.1 x2.toNatClampNeg) := (by rw [← e2]; exact ⟨u_52, u_34⟩); have z1 := (hS0 _ (sh8 (rg_w (lo := 0) (hi := 7) u_10 (by decide)))).2.2 r1; have z2 := (hS0 _ (sh8 (rg_w (lo := 0) (hi := 7) u_14 (by decide)))).2.2 r2; rw [show spCpE S Z x1 x2 x3 x4 x5 = Z from pif_neg (fun h8 => by have h7 := h8.2.2.2.2; unfold okCp at h7; rw [← z1, ← z2] at h7; exact u_67 h7.2.1)]; exact ex_eq hE (f_71.1 31 rfl (by decide)))⟩⟩, ⟨by rw [ht]; exact hP, hD⟩⟩, hS.F ht⟩) hS.2.2 dX6_copy_149
                  · have u_73 := hq_65.2.1 c_66
                    refine lv_iload hx hb dX6_copy_122 (lv_at hl 4 rfl) ?_
                    refine lv_iconst (v := 0) hx hb dX6_copy_124 (by decide) ?_
                    refine lv_aload_n hx hb dX6_copy_125 rfl (lv_at hl 0 rfl) ?_
                    refine va_get (D := D) (ci := 6) (v := .ref (a 4)) (C := RX6) (T := TX6) (N := 9) hx hb htg ig_6 hown hK hP 0 (oh_wg (by decide) (sX_0 hT)) rfl 4 (by decide) (htg _ q_262) (fun _ h9 => h9) rfl dX6_copy_126 ?_
                    refine va_get (D := D) (ci := 3) (v := .ref (a 30)) (C := RX3) (T := TX3) (N := 3) hx hb htg ig_3 hown hK hP 4 (oh_wg (by decide) (sX_4 hT)) rfl 1 (by decide) (htg _ q_201) (fun _ h9 => h9) rfl dX6_copy_129 ?_
                    refine lv_iload_n hx hb dX6_copy_132 rfl (lv_at hl 2 rfl) ?_
                    have n_74 : vp_in x2 8 := (rg_in u_14 (by decide))
                    refine th_iald hx hb hK hP 30 (by decide) (sX_30 hT) n_74 dX6_copy_133 ?_
                    refine lv_iload hx hb dX6_copy_134 (lv_at hl 5 rfl) ?_
                    refine lv_isub hx hb dX6_copy_136 ?_
                    refine tq_S (As := [.int x4, .int 0, .int ((ga (C 30) (x2).toNatClampNeg) - x5)]) (rest := []) (ws := []) ⟨hx, hb, hml, hown, htg⟩ (c_X6_within l D E G x4 (0 : Int32) ((ga (C 30) (x2).toNatClampNeg) - x5)) (va_cwS 3 htg (oh_gS q_293 q_294 q_66 q_295) rfl rfl rfl pdX6_within ⟨Nat.le_of_ble_eq_true rfl, Nat.le_of_ble_eq_true rfl⟩) hK va_nil hG hS rfl hl.1 rfl (Nat.le_of_ble_eq_true rfl) dX6_copy_137 ⟨Nat.le_of_ble_eq_true rfl, Nat.le_of_ble_eq_true rfl⟩ (fun r_75 hq_76 => ?_)
                    refine lv_if_ne (tgt := 150) hx hb dX6_copy_140 (by decide) (fun (c_77 : ¬ (r_75 = 0)) => ?_) (fun (c_77 : r_75 = 0) => ?_)
                    · have u_78 := hq_76.2.1 c_77
                      refine lv_aload_n hx hb dX6_copy_150 rfl (lv_at hl 0 rfl) ?_
                      refine va_get (D := D) (ci := 6) (v := .ref (a 4)) (C := RX6) (T := TX6) (N := 9) hx hb htg ig_6 hown hK hP 0 (oh_wg (by decide) (sX_0 hT)) rfl 4 (by decide) (htg _ q_262) (fun _ h9 => h9) rfl dX6_copy_151 ?_
                      refine lv_iload_n hx hb dX6_copy_154 rfl (lv_at hl 1 rfl) ?_
                      refine lv_iload_n hx hb dX6_copy_155 rfl (lv_at hl 2 rfl) ?_
                      refine lv_iload_n hx hb dX6_copy_156 rfl (lv_at hl 3 rfl) ?_
                      refine lv_iload hx hb dX6_copy_157 (lv_at hl 4 rfl) ?_
                      refine lv_iload hx hb dX6_copy_159 (lv_at hl 5 rfl) ?_
                      refine tm_Vv (As := [.int x1, .int x2, .int x3, .int x4, .int x5]) (rest := []) ⟨hx, hb, hml, hown, htg⟩ (e_X3_copyElements l D E G _ a C hT x1 x2 x3 x4 x5 (rg_w u_10 (by decide)) (rg_w u_14 (by decide)) (rg_w (rn_leu u_73.2 (rn_lel u_73.1 (rg_c (v := 0) (lo := 0) (hi := 0) (by decide)) (rg_any _)) (rg_sub (lo := (-40)) (hi := 40) (tA_rdc (lo := 0) (hi := 40) (tX_30 hT0) n_63 (Nat.mod_one _) (by decide)) (rn_leu u_62.2 (rn_lel u_62.1 (rg_c (v := 0) (lo := 0) (hi := 0) (by decide)) (rg_any _)) (rg_c (v := 40) (lo := 40) (hi := 40) (by decide))) (by decide))) (by decide)) (rg_w (rn_leu u_78.2 (rn_lel u_78.1 (rg_c (v := 0) (lo := 0) (hi := 0) (by decide)) (rg_any _)) (rg_sub (lo := (-40)) (hi := 40) (tA_rdc (lo := 0) (hi := 40) (tX_30 hT0) n_74 (Nat.mod_one _) (by decide)) (rn_leu u_62.2 (rn_lel u_62.1 (rg_c (v := 0) (lo := 0) (hi := 0) (by decide)) (rg_any _)) (rg_c (v := 40) (lo := 40) (hi := 40) (by decide))) (by decide))) (by decide)) (rg_w (rn_leu u_62.2 (rn_lel u_62.1 (rg_c (v := 0) (lo := 0) (hi := 0) (by decide)) (rg_any _)) (rg_c (v := 40) (lo := 40) (hi := 40) (by decide))) (by decide)) (oh_cpp u_73.2 (tA_rdc (lo := 0) (hi := 40) (tX_30 hT0) n_63 (Nat.mod_one _) (by decide)) (rn_leu u_62.2 (rn_lel u_62.1 (rg_c (v := 0) (lo := 0) (hi := 0) (by decide)) (rg_any _)) (rg_c (v := 40) (lo := 40) (hi := 40) (by decide)))) (oh_cpp u_78.2 (tA_rdc (lo := 0) (hi := 40) (tX_30 hT0) n_74 (Nat.mod_one _) (by decide)) (rn_leu u_62.2 (rn_lel u_62.1 (rg_c (v := 0) (lo := 0) (hi := 0) (by decide)) (rg_any _)) (rg_c (v := 40) (lo := 40) (hi := 40) (by decide))))) (cwV 5 htg (oh_gV q_341 q_342 q_343 q_70 q_344) rfl rfl rfl pdVX3_copyElements ⟨Nat.le_of_ble_eq_true rfl, Nat.le_of_ble_eq_true rfl⟩) hK hP hD hG hS hA (va_recv hK hP (ci := 3) (q0 := 4) rfl (oh_wg (by decide) (sX_4 hT))) rfl hl.1 rfl (Nat.le_of_ble_eq_true rfl) dX6_copy_161 ⟨Nat.le_of_ble_eq_true rfl, Nat.le_of_ble_eq_true rfl⟩ (fun C_80 H locs hq_81 hP hD hS => ?_)
                      obtain ⟨hT, f_82, hq_81⟩ := hq_81
                      have hF := fr_tr hF f_82 (by decide) (by decide)
                      refine W.widen (k := 0) (n := 0) (Nat.le_refl _) (Nat.le_refl _) ?_
                      have t_83 := hT
                      refine lv_iload hx hb dX6_copy_164 (lv_at hl 5 rfl) ?_
                      rw [hQ]
                      exact W.iret (v := x5) hx hb hr (fun t ht hW => ⟨⟨x5, C_80, rfl, ⟨hT, hF, ⟨(fun S hS0 => by have e1 := (hS0 _ (sh8 (rg_w (lo := 0) (hi := 7) u_10 (by decide)))).1; have e2 := (hS0 _ (sh8 (rg_w (lo := 0) (hi := 7) u_14 (by decide)))).1; have z1 := (hS0 _ (sh8 (rg_w (lo := 0) (hi := 7) u_10 (by decide)))).2.2 (by rw [← e1]; exact ⟨u_48, u_24⟩); have z2 := (hS0 _ (sh8 (rg_w (lo := 0) (hi := 7) u_14 (by decide)))).2.2 (by rw [← e2]; exact ⟨u_52, u_34⟩); exact (Eq.trans (pif_pos ⟨(oh_rgI (p := 0) (q := 7) (rg_w (lo := 0) (hi := 7) u_10 (by decide))), (oh_rgI (p := 0) (q := 7) (rg_w (lo := 0) (hi := 7) u_14 (by decide)))⟩) (Eq.trans (pif_neg (by rw [← e1, ← e2]; exact fun h8 => by rcases h8 with h7 | h7 | h7; exact u_24 h7; exact u_34 h7; exact u_38 h7)) (Eq.trans (pif_neg (by rw [← e1, ← e2]; exact fun h8 => by rcases h8 with h7 | h7; exact u_48 h7; exact u_52 h7)) (pif_pos (by unfold okCp; rw [← z1, ← z2]; exact ⟨(oh_rgI (p := 0) (q := 40) (rg_w (lo := 0) (hi := 40) (rn_leu u_62.2 (rn_lel u_62.1 (rg_c (v := 0) (lo := 0) (hi := 0) (by decide)) (rg_any _)) (rg_c (v := 40) (lo := 40) (hi := 40) (by decide))) (by decide))), ⟨u_73.1, u_73.2⟩, ⟨u_78.1, u_78.2⟩⟩))))).symm), (fun S Z hS0 hE => by have e1 := (hS0 _ (sh8 (rg_w (lo := 0) (hi := 7) u_10 (by decide)))).1; have e2 := (hS0 _ (sh8 (rg_w (lo := 0) (hi := 7) u_14 (by decide)))).1; have r1 : rowH (S.1 x1.toNatClampNeg) := (by rw [← e1]; exact ⟨u_48, u_24⟩); have r2 : rowH (S.1 x2.toNatClampNeg) := (by rw [← e2]; exact ⟨u_52, u_34⟩); have z1 := (hS0 _ (sh8 (rg_w (lo := 0) (hi := 7) u_10 (by decide)))).2.2 r1; have z2 := (hS0 _ (sh8 (rg_w (lo := 0) (hi := 7) u_14 (by decide)))).2.2 r2; have ok := (show okCp S x1 x2 x3 x4 x5 by unfold okCp; rw [← z1, ← z2]; exact ⟨(oh_rgI (p := 0) (q := 40) (rg_w (lo := 0) (hi := 40) (rn_leu u_62.2 (rn_lel u_62.1 (rg_c (v := 0) (lo := 0) (hi := 0) (by decide)) (rg_any _)) (rg_c (v := 40) (lo := 40) (hi := 40) (by decide))) (by decide))), ⟨u_73.1, u_73.2⟩, ⟨u_78.1, u_78.2⟩⟩); have hz1 := (hE _ (sh8 (rg_w (lo := 0) (hi := 7) u_10 (by decide))) r1).1; have hz2 := (hE _ (sh8 (rg_w (lo := 0) (hi := 7) u_14 (by decide))) r2).1; rw [show spCpE S Z x1 x2 x3 x4 x5 = _ from pif_pos ⟨⟨(oh_rgI (p := 0) (q := 7) (rg_w (lo := 0) (hi := 7) u_10 (by decide))), (oh_rgI (p := 0) (q := 7) (rg_w (lo := 0) (hi := 7) u_14 (by decide)))⟩, r1, r2, (Classical.byContradiction (fun h8 => u_38 ⟨by rw [e1]; exact r1, by rw [e2]; exact r2, by rw [e1, e2]; exact h8⟩)), ok⟩]; exact ex_copy hE (sh8 (rg_w (lo := 0) (hi := 7) u_10 (by decide))) (sh8 (rg_w (lo := 0) (hi := 7) u_14 (by decide))) r1 r2 (cp_sum hz1 ok.1 ok.2.1) (cp_sum hz2 ok.1 ok.2.2) hq_81)⟩⟩, ⟨by rw [ht]; exact hP, hD⟩⟩, hS.F ht⟩) hS.2.2 dX6_copy_166
                    · have u_84 := hq_76.2.2 c_77
                      refine lv_aload_n hx hb dX6_copy_143 rfl (lv_at hl 0 rfl) ?_
                      refine lv_bipush (v := (-2)) hx hb dX6_copy_144 (by decide) ?_
                      refine tm_V (As := [.int (-2)]) (rest := []) ⟨hx, hb, hml, hown, htg⟩ (c_X6_refuse l D E G _ a C hT ((-2) : Int32)) (cwV 1 htg (oh_gV q_296 q_298 q_0 q_66 q_299) rfl rfl rfl pdVX6_refuse ⟨Nat.le_of_ble_eq_true rfl, Nat.le_of_ble_eq_true rfl⟩) hK hP hD hG hS hA (va_recv hK hP (ci := 6) (q0 := 0) rfl (oh_wg (by decide) (sX_0 hT))) rfl hl.1 rfl (Nat.le_of_ble_eq_true rfl) dX6_copy_146 ⟨Nat.le_of_ble_eq_true rfl, Nat.le_of_ble_eq_true rfl⟩ (fun r_85 C_86 H locs hq_87 hP hD hS => ?_)
                      obtain ⟨hT, f_88, hq_87⟩ := hq_87
                      have hF := fr_tr hF f_88 (by decide) (by decide)
                      refine W.widen (k := 0) (n := 0) (Nat.le_refl _) (Nat.le_refl _) ?_
                      have t_89 := hT
                      rw [hQ]
                      exact W.iret (v := r_85) hx hb hr (fun t ht hW => ⟨⟨r_85, C_86, rfl, ⟨hT, hF, ⟨(fun S hS0 => by have e1 := (hS0 _ (sh8 (rg_w (lo := 0) (hi := 7) u_10 (by decide)))).1; have e2 := (hS0 _ (sh8 (rg_w (lo := 0) (hi := 7) u_14 (by decide)))).1; have z1 := (hS0 _ (sh8 (rg_w (lo := 0) (hi := 7) u_10 (by decide)))).2.2 (by rw [← e1]; exact ⟨u_48, u_24⟩); have z2 := (hS0 _ (sh8 (rg_w (lo := 0) (hi := 7) u_14 (by decide)))).2.2 (by rw [← e2]; exact ⟨u_52, u_34⟩); exact Eq.trans hq_87 (Eq.trans (pif_pos ⟨(oh_rgI (p := 0) (q := 7) (rg_w (lo := 0) (hi := 7) u_10 (by decide))), (oh_rgI (p := 0) (q := 7) (rg_w (lo := 0) (hi := 7) u_14 (by decide)))⟩) (Eq.trans (pif_neg (by rw [← e1, ← e2]; exact fun h8 => by rcases h8 with h7 | h7 | h7; exact u_24 h7; exact u_34 h7; exact u_38 h7)) (Eq.trans (pif_neg (by rw [← e1, ← e2]; exact fun h8 => by rcases h8 with h7 | h7; exact u_48 h7; exact u_52 h7)) (pif_neg (by unfold okCp; rw [← z1, ← z2]; exact fun h8 => u_84 h8.2.2))))).symm), (fun S Z hS0 hE => by have e1 := (hS0 _ (sh8 (rg_w (lo := 0) (hi := 7) u_10 (by decide)))).1; have e2 := (hS0 _ (sh8 (rg_w (lo := 0) (hi := 7) u_14 (by decide)))).1; have r1 : rowH (S.1 x1.toNatClampNeg) := (by rw [← e1]; exact ⟨u_48, u_24⟩); have r2 : rowH (S.1 x2.toNatClampNeg) := (by rw [← e2]; exact ⟨u_52, u_34⟩); have z1 := (hS0 _ (sh8 (rg_w (lo := 0) (hi := 7) u_10 (by decide)))).2.2 r1; have z2 := (hS0 _ (sh8 (rg_w (lo := 0) (hi := 7) u_14 (by decide)))).2.2 r2; rw [show spCpE S Z x1 x2 x3 x4 x5 = Z from pif_neg (fun h8 => by have h7 := h8.2.2.2.2; unfold okCp at h7; rw [← z1, ← z2] at h7; exact u_84 h7.2.2)]; exact ex_eq hE (f_88.1 31 rfl (by decide)))⟩⟩, ⟨by rw [ht]; exact hP, hD⟩⟩, hS.F ht⟩) hS.2.2 dX6_copy_149
              · have u_90 := hq_50.2.1 c_51
                refine lv_aload_n hx hb dX6_copy_84 rfl (lv_at hl 0 rfl) ?_
                refine lv_bipush (v := (-4)) hx hb dX6_copy_85 (by decide) ?_
                refine tm_V (As := [.int (-4)]) (rest := []) ⟨hx, hb, hml, hown, htg⟩ (c_X6_refuse l D E G _ a C hT ((-4) : Int32)) (cwV 1 htg (oh_gV q_296 q_298 q_0 q_66 q_299) rfl rfl rfl pdVX6_refuse ⟨Nat.le_of_ble_eq_true rfl, Nat.le_of_ble_eq_true rfl⟩) hK hP hD hG hS hA (va_recv hK hP (ci := 6) (q0 := 0) rfl (oh_wg (by decide) (sX_0 hT))) rfl hl.1 rfl (Nat.le_of_ble_eq_true rfl) dX6_copy_87 ⟨Nat.le_of_ble_eq_true rfl, Nat.le_of_ble_eq_true rfl⟩ (fun r_91 C_92 H locs hq_93 hP hD hS => ?_)
                obtain ⟨hT, f_94, hq_93⟩ := hq_93
                have hF := fr_tr hF f_94 (by decide) (by decide)
                refine W.widen (k := 0) (n := 0) (Nat.le_refl _) (Nat.le_refl _) ?_
                have t_95 := hT
                rw [hQ]
                exact W.iret (v := r_91) hx hb hr (fun t ht hW => ⟨⟨r_91, C_92, rfl, ⟨hT, hF, ⟨(fun S hS0 => by have e1 := (hS0 _ (sh8 (rg_w (lo := 0) (hi := 7) u_10 (by decide)))).1; have e2 := (hS0 _ (sh8 (rg_w (lo := 0) (hi := 7) u_14 (by decide)))).1; exact Eq.trans hq_93 (Eq.trans (pif_pos ⟨(oh_rgI (p := 0) (q := 7) (rg_w (lo := 0) (hi := 7) u_10 (by decide))), (oh_rgI (p := 0) (q := 7) (rg_w (lo := 0) (hi := 7) u_14 (by decide)))⟩) (Eq.trans (pif_neg (by rw [← e1, ← e2]; exact fun h8 => by rcases h8 with h7 | h7 | h7; exact u_24 h7; exact u_34 h7; exact u_38 h7)) (pif_pos (by rw [← e1, ← e2]; exact Or.inr u_90)))).symm), (fun S Z hS0 hE => by rw [show spCpE S Z x1 x2 x3 x4 x5 = Z from pif_neg (fun h8 => h8.2.2.1.1 (by rw [← (hS0 _ (sh8 (rg_w (lo := 0) (hi := 7) u_14 (by decide)))).1]; exact u_90))]; exact ex_eq hE (f_94.1 31 rfl (by decide)))⟩⟩, ⟨by rw [ht]; exact hP, hD⟩⟩, hS.F ht⟩) hS.2.2 dX6_copy_90
          · have u_96 := hq_36.2.1 c_37
            refine lv_aload_n hx hb dX6_copy_55 rfl (lv_at hl 0 rfl) ?_
            refine lv_bipush (v := (-3)) hx hb dX6_copy_56 (by decide) ?_
            refine tm_V (As := [.int (-3)]) (rest := []) ⟨hx, hb, hml, hown, htg⟩ (c_X6_refuse l D E G _ a C hT ((-3) : Int32)) (cwV 1 htg (oh_gV q_296 q_298 q_0 q_66 q_299) rfl rfl rfl pdVX6_refuse ⟨Nat.le_of_ble_eq_true rfl, Nat.le_of_ble_eq_true rfl⟩) hK hP hD hG hS hA (va_recv hK hP (ci := 6) (q0 := 0) rfl (oh_wg (by decide) (sX_0 hT))) rfl hl.1 rfl (Nat.le_of_ble_eq_true rfl) dX6_copy_58 ⟨Nat.le_of_ble_eq_true rfl, Nat.le_of_ble_eq_true rfl⟩ (fun r_97 C_98 H locs hq_99 hP hD hS => ?_)
            obtain ⟨hT, f_100, hq_99⟩ := hq_99
            have hF := fr_tr hF f_100 (by decide) (by decide)
            refine W.widen (k := 0) (n := 0) (Nat.le_refl _) (Nat.le_refl _) ?_
            have t_101 := hT
            rw [hQ]
            exact W.iret (v := r_97) hx hb hr (fun t ht hW => ⟨⟨r_97, C_98, rfl, ⟨hT, hF, ⟨(fun S hS0 => by have e1 := (hS0 _ (sh8 (rg_w (lo := 0) (hi := 7) u_10 (by decide)))).1; have e2 := (hS0 _ (sh8 (rg_w (lo := 0) (hi := 7) u_14 (by decide)))).1; exact Eq.trans hq_99 (Eq.trans (pif_pos ⟨(oh_rgI (p := 0) (q := 7) (rg_w (lo := 0) (hi := 7) u_10 (by decide))), (oh_rgI (p := 0) (q := 7) (rg_w (lo := 0) (hi := 7) u_14 (by decide)))⟩) (pif_pos (by rw [← e1, ← e2]; exact Or.inr (Or.inr u_96)))).symm), (fun S Z hS0 hE => by rw [show spCpE S Z x1 x2 x3 x4 x5 = Z from pif_neg (fun h8 => u_96.2.2 (by rw [(hS0 _ (sh8 (rg_w (lo := 0) (hi := 7) u_10 (by decide)))).1, (hS0 _ (sh8 (rg_w (lo := 0) (hi := 7) u_14 (by decide)))).1]; exact h8.2.2.2.1))]; exact ex_eq hE (f_100.1 31 rfl (by decide)))⟩⟩, ⟨by rw [ht]; exact hP, hD⟩⟩, hS.F ht⟩) hS.2.2 dX6_copy_61
    · have u_102 := hq_12.2.2 c_13
      refine lv_aload_n hx hb dX6_copy_14 rfl (lv_at hl 0 rfl) ?_
      refine lv_bipush (v := (-2)) hx hb dX6_copy_15 (by decide) ?_
      refine tm_V (As := [.int (-2)]) (rest := []) ⟨hx, hb, hml, hown, htg⟩ (c_X6_refuse l D E G _ a C hT ((-2) : Int32)) (cwV 1 htg (oh_gV q_296 q_298 q_0 q_66 q_299) rfl rfl rfl pdVX6_refuse ⟨Nat.le_of_ble_eq_true rfl, Nat.le_of_ble_eq_true rfl⟩) hK hP hD hG hS hA (va_recv hK hP (ci := 6) (q0 := 0) rfl (oh_wg (by decide) (sX_0 hT))) rfl hl.1 rfl (Nat.le_of_ble_eq_true rfl) dX6_copy_17 ⟨Nat.le_of_ble_eq_true rfl, Nat.le_of_ble_eq_true rfl⟩ (fun r_103 C_104 H locs hq_105 hP hD hS => ?_)
      obtain ⟨hT, f_106, hq_105⟩ := hq_105
      have hF := fr_tr hF f_106 (by decide) (by decide)
      refine W.widen (k := 0) (n := 0) (Nat.le_refl _) (Nat.le_refl _) ?_
      have t_107 := hT
      rw [hQ]
      exact W.iret (v := r_103) hx hb hr (fun t ht hW => ⟨⟨r_103, C_104, rfl, ⟨hT, hF, ⟨(fun S hS0 => Eq.trans hq_105 (pif_neg (fun h8 => u_102 h8.2)).symm), (fun S Z hS0 hE => by rw [show spCpE S Z x1 x2 x3 x4 x5 = Z from pif_neg (fun h8 => u_102 h8.1.2)]; exact ex_eq hE (f_106.1 31 rfl (by decide)))⟩⟩, ⟨by rw [ht]; exact hP, hD⟩⟩, hS.F ht⟩) hS.2.2 dX6_copy_20
