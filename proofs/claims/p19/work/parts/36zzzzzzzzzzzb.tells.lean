/-! EXACT: what is told of the land -/
noncomputable def spRoadOf (A : LA) (r w : Int32) : Int32 := pif ((0 ≤ r ∧ r < A 5 0 0) ∧ (0 ≤ w ∧ w ≤ 6)) (A 0 r.toNatClampNeg w.toNatClampNeg) (-2)
noncomputable def spLen (A : LA) (w : Int32) : Int32 := pif (0 ≤ w ∧ w < A 5 0 2) (A 2 w.toNatClampNeg 1 * (A 2 w.toNatClampNeg 0 - 1) + 4) (-2)
def okPk (n2 n3 w s : Int32) : Prop := (0 ≤ w ∧ w < n2) ∧ (0 ≤ s ∧ s ≤ ((1 : Int32) <<< (n3 &&& 31)) - 1)
noncomputable def spBegin (A : LA) (w s f t : Int32) : Int32 := pif (okPk (A 5 0 2) (A 5 0 3) w s ∧ (0 ≤ f ∧ f ≤ 15) ∧ (0 ≤ t ∧ t ≤ 15)) 1 (-2)
theorem colX_v {C : Nat → va_E} {A : LA} {t : Nat} {r w W : Int32} {ur uw : Int} (hA : absX 10 C A) (ht : t < 4) (hr : rg r 0 ur) (hW : W.toInt = (wid t : Int)) (hw : rg w 0 uw) (hd : decide (ur * wid t + uw ≤ 2147483647 ∧ 0 ≤ ur ∧ uw < (wid t : Int)) = true) (hl : r < A 5 0 t) (hv : vis t w.toNatClampNeg) : ga (C (10 + 1 + t)) (r * W + w).toNatClampNeg = A t r.toNatClampNeg w.toNatClampNeg := by
  have h2 := of_decide_eq_true hd
  have e2 := oh_nat hw (by decide)
  rw [oh_rixz hr hW hw (decide_eq_true ⟨h2.1, h2.2.1⟩)]
  exact hA.2.2 t ht r.toNatClampNeg (by rw [oh_nat hr (by decide)]; exact Int32.lt_iff_toInt_lt.mp hl) _ (by have := hw.2; omega) hv
theorem colM_v {C : Nat → va_E} {A : LA} {t j : Nat} {r : Int32} {ur : Int} (hA : absM C A) (ht : t < 4) (hr : rg r 0 ur) (hj : j < wid t) (hl : r < A 5 0 t) (hv : vis t j) : ga (C (blk t + r.toNatClampNeg)) j = A t r.toNatClampNeg j := hA.2.2 t ht r.toNatClampNeg (by rw [oh_nat hr (by decide)]; exact Int32.lt_iff_toInt_lt.mp hl) j hj hv

set_option maxHeartbeats 4000000 in
set_option maxRecDepth 100000 in
theorem e_X6_isWaggon (l : Launch) (D : va_G) (E : Nat → ClassId) (G : Nat → Nat) (a : Nat → Nat) (C : Nat → va_E) (hT : TyX a E C) (x1 : Int32) : Met l yX6_isWaggon (oh_w yX6_isWaggon cX6_isWaggon 2 (some .boolean)) ({ frames := 1, cells := 0, slots := 0, locals := 22 }) (oh_Pp D E G [.ref (a 0), .int x1] (oh_W 35 a C)) (vp_Si (fun r => (r = 0 ∨ r = 1) ∧ (r ≠ 0 → rg x1 0 4 ∧ ((0 : Int32) ≤ x1 ∧ x1 < ga (C 10) ((2 : Int32)).toNatClampNeg)) ∧ (r = 0 → (¬ ((0 : Int32) ≤ x1 ∧ x1 < ga (C 10) ((2 : Int32)).toNatClampNeg))))) 0 0 (fun _ => False) := by
  refine Met.ofW (cc := cX6_isWaggon) (maxL := 2) (ret := (some .boolean)) (by decide) rfl ?_
  intro p e s m args below meth c s₁ B hml hv
  obtain ⟨rfl, hP, hK, hG⟩ := hv
  have hx := B.exec
  have hb := B.bytes
  have hr := B.returns
  have hts := atoms_spec (ws := (oh_w yX6_isWaggon cX6_isWaggon 2 (some .boolean))) B.pre
  have htg : ∀ w ∈ oh_t, w.before _ s = true := fun w h => hts w (List.mem_cons_of_mem _ h)
  have hown : s.vm.findClass RX6 = some m.cls := findClass_of_methodNamed B.named
  have hlocks := B.notSynchronized
  have hT0 := hT
  have hS : va_S (fun _ => False) s.heap s.heap [] := va_S.rf
  have hl := lv_entry ([.ref (a 0), .int x1]) (n := 2) (Nat.le_of_ble_eq_true rfl)
  rw [lg_entry_eq]
  generalize (lg_sl ([.ref (a 0), .int x1]) ++ List.replicate (2 - (lg_sl ([.ref (a 0), .int x1])).length) Slot.unset).toArray = ls at hl ⊢
  have hl : lv_has ls 2 [(0, .ref (a 0)), (1, .int x1)] := hl
  refine oh_genQ (fun Q hQ => ?_)
  refine lv_iload_n hx hb dX6_isWaggon_0 rfl (lv_at hl 1 rfl) ?_
  refine lv_iconst (v := 0) hx hb dX6_isWaggon_1 (by decide) ?_
  refine lv_aload_n hx hb dX6_isWaggon_2 rfl (lv_at hl 0 rfl) ?_
  refine va_get (D := D) (ci := 6) (v := .ref (a 1)) (C := RX6) (T := TX6) (N := 9) hx hb htg ig_6 hown hK hP 0 (oh_wg (by decide) (sX_0 hT)) rfl 0 (by decide) (htg _ q_258) (fun _ h9 => h9) rfl dX6_isWaggon_3 ?_
  refine va_get (D := D) (ci := 0) (v := .ref (a 10)) (C := RX0) (T := TX0) (N := 8) hx hb htg ig_0 hown hK hP 1 (oh_wg (by decide) (sX_1 hT)) rfl 0 (by decide) (htg _ q_100) (fun _ h9 => h9) rfl dX6_isWaggon_6 ?_
  refine lv_iconst (v := 2) hx hb dX6_isWaggon_9 (by decide) ?_
  refine th_iald hx hb hK hP 10 (by decide) (sX_10 hT) (rg_in (rg_c (v := 2) (lo := 2) (hi := 2) (by decide)) (by decide)) dX6_isWaggon_10 ?_
  refine lv_iconst (v := 1) hx hb dX6_isWaggon_11 (by decide) ?_
  refine lv_isub hx hb dX6_isWaggon_12 ?_
  refine tq_S (As := [.int x1, .int 0, .int ((ga (C 10) ((2 : Int32)).toNatClampNeg) - 1)]) (rest := []) (ws := []) ⟨hx, hb, hml, hown, htg⟩ (c_X6_within l D E G x1 (0 : Int32) ((ga (C 10) ((2 : Int32)).toNatClampNeg) - 1)) (va_cwS 3 htg (oh_gS q_293 q_294 q_66 q_295) rfl rfl rfl pdX6_within ⟨Nat.le_of_ble_eq_true rfl, Nat.le_of_ble_eq_true rfl⟩) hK va_nil hG hS rfl hl.1 rfl (Nat.le_of_ble_eq_true rfl) dX6_isWaggon_13 ⟨Nat.le_of_ble_eq_true rfl, Nat.le_of_ble_eq_true rfl⟩ (fun r_1 hq_2 => ?_)
  rw [hQ]
  exact W.zret (v := r_1) (ty := .boolean) hx hb hr (oh_nb hq_2.1) (fun t ht hW => ⟨r_1, rfl, ⟨hq_2.1, (fun h9 => ⟨(rg_w (rn_leu (hq_2.2.1 h9).2 (rn_lel (hq_2.2.1 h9).1 (rg_c (v := 0) (lo := 0) (hi := 0) (by decide)) (rg_any _)) (rg_sub (lo := (-1)) (hi := 4) (tA_rdc (lo := 0) (hi := 5) (tX_10 hT0) (rg_in (rg_c (v := 2) (lo := 2) (hi := 2) (by decide)) (by decide)) (show _ = 2 by decide) (by decide)) (rg_c (v := 1) (lo := 1) (hi := 1) (by decide)) (by decide))) (by decide)), ⟨(hq_2.2.1 h9).1, oh_ltX (cntX 2 hT0 (by decide)) (hq_2.2.1 h9).2⟩⟩), (fun h9 => (fun h8 => (hq_2.2.2 h9) ((is_n (cntX 2 hT0 (by decide))).mpr h8)))⟩, ht⟩) (fun q h => by cases h) dX6_isWaggon_16

set_option maxHeartbeats 4000000 in
set_option maxRecDepth 100000 in
theorem e_X6_roadOf (l : Launch) (D : va_G) (E : Nat → ClassId) (G : Nat → Nat) (sz : Nat) (a : Nat → Nat) (C : Nat → va_E) (hT : TyX a E C) (x1 : Int32) (x2 : Int32) : Met l yX6_roadOf (oh_w yX6_roadOf cX6_roadOf 3 (some .int)) ({ frames := 2, cells := 0, slots := 0, locals := 44 }) (oh_Pm D E G [.ref (a 0), .int x1, .int x2] (oh_W 35 a C) sz) (va_Qi (fun r (u : Nat → va_E) => TyX a E u ∧ fr [(7, 8)] [] C u ∧ (∀ A : LA, absX 10 C A → r = spRoadOf A x1 x2)) (oh_B D (va_A (oh_W 35 a C) sz) (fun u => oh_W 35 a u)) (va_A (oh_W 35 a C) sz)) 0 0 (va_A (oh_W 35 a C) sz) := by
  refine Met.ofW (cc := cX6_roadOf) (maxL := 3) (ret := (some .int)) (by decide) rfl ?_
  intro p e s m args below meth c s₁ B hml hv
  obtain ⟨rfl, hsz, hP, hK, hD0, hG⟩ := hv
  have hx := B.exec
  have hb := B.bytes
  have hr := B.returns
  have hts := atoms_spec (ws := (oh_w yX6_roadOf cX6_roadOf 3 (some .int))) B.pre
  have htg : ∀ w ∈ oh_t, w.before _ s = true := fun w h => hts w (List.mem_cons_of_mem _ h)
  have hown : s.vm.findClass RX6 = some m.cls := findClass_of_methodNamed B.named
  have hlocks := B.notSynchronized
  have hT0 := hT
  subst hsz
  have hD := hD0.self (sz := s.heap.size)
  generalize hAe : va_A (oh_W 35 a C) s.heap.size = A at hD hG ⊢
  have hA : ∀ q : Nat, s.heap.size ≤ q → A q := fun q h => by rw [← hAe]; exact Or.inr h
  have hS : va_S A s.heap s.heap [] := va_S.rf
  have hF : fr [(7, 8)] [] C C := fr_rf
  have hl := lv_entry ([.ref (a 0), .int x1, .int x2]) (n := 3) (Nat.le_of_ble_eq_true rfl)
  rw [lg_entry_eq]
  generalize (lg_sl ([.ref (a 0), .int x1, .int x2]) ++ List.replicate (3 - (lg_sl ([.ref (a 0), .int x1, .int x2])).length) Slot.unset).toArray = ls at hl ⊢
  have hl : lv_has ls 3 [(0, .ref (a 0)), (1, .int x1), (2, .int x2)] := hl
  refine oh_genQ (fun Q hQ => ?_)
  refine lv_aload_n hx hb dX6_roadOf_0 rfl (lv_at hl 0 rfl) ?_
  refine lv_iload_n hx hb dX6_roadOf_1 rfl (lv_at hl 1 rfl) ?_
  refine tq_V (As := [.int x1]) (rest := []) (ws := (oh_W 35 a C)) ⟨hx, hb, hml, hown, htg⟩ (e_X6_isRoad l D E G a C hT x1) (cwV 1 htg (oh_gV q_428 q_430 q_5 q_66 q_431) rfl rfl rfl pdVX6_isRoad ⟨Nat.le_of_ble_eq_true rfl, Nat.le_of_ble_eq_true rfl⟩) hK hP hG hS (va_recv hK hP (ci := 6) (q0 := 0) rfl (oh_wg (by decide) (sX_0 hT))) rfl hl.1 rfl (Nat.le_of_ble_eq_true rfl) dX6_roadOf_2 ⟨Nat.le_of_ble_eq_true rfl, Nat.le_of_ble_eq_true rfl⟩ (fun r_1 hq_2 => ?_)
  refine lv_if_eq (tgt := 18) hx hb dX6_roadOf_5 (by decide) (fun (c_3 : r_1 = 0) => ?_) (fun (c_3 : ¬ (r_1 = 0)) => ?_)
  · have u_4 := hq_2.2.2 c_3
    refine lv_aload_n hx hb dX6_roadOf_18 rfl (lv_at hl 0 rfl) ?_
    refine lv_bipush (v := (-2)) hx hb dX6_roadOf_19 (by decide) ?_
    refine tm_V (As := [.int (-2)]) (rest := []) ⟨hx, hb, hml, hown, htg⟩ (c_X6_refuse l D E G _ a C hT ((-2) : Int32)) (cwV 1 htg (oh_gV q_296 q_298 q_0 q_66 q_299) rfl rfl rfl pdVX6_refuse ⟨Nat.le_of_ble_eq_true rfl, Nat.le_of_ble_eq_true rfl⟩) hK hP hD hG hS hA (va_recv hK hP (ci := 6) (q0 := 0) rfl (oh_wg (by decide) (sX_0 hT))) rfl hl.1 rfl (Nat.le_of_ble_eq_true rfl) dX6_roadOf_21 ⟨Nat.le_of_ble_eq_true rfl, Nat.le_of_ble_eq_true rfl⟩ (fun r_5 C_6 H locs hq_7 hP hD hS => ?_)
    obtain ⟨hT, f_8, hq_7⟩ := hq_7
    have hF := fr_tr hF f_8 (by decide) (by decide)
    refine W.widen (k := 0) (n := 0) (Nat.le_refl _) (Nat.le_refl _) ?_
    have t_9 := hT
    rw [hQ]
    exact W.iret (v := r_5) hx hb hr (fun t ht hW => ⟨⟨r_5, C_6, rfl, ⟨hT, hF, (fun A hA => Eq.trans hq_7 (pif_neg (fun h8 => by have h7 := h8.1; rw [← (show ga (C 10) ((0 : Int32)).toNatClampNeg = A 5 0 0 from hA.1 0 (by decide))] at h7; exact u_4 h7)).symm)⟩, ⟨by rw [ht]; exact hP, hD⟩⟩, hS.F ht⟩) hS.2.2 dX6_roadOf_24
  · have u_10 := hq_2.2.1 c_3
    refine lv_iload_n hx hb dX6_roadOf_8 rfl (lv_at hl 2 rfl) ?_
    refine lv_iconst (v := 0) hx hb dX6_roadOf_9 (by decide) ?_
    refine lv_bipush (v := 6) hx hb dX6_roadOf_10 (by decide) ?_
    refine tq_S (As := [.int x2, .int 0, .int 6]) (rest := []) (ws := []) ⟨hx, hb, hml, hown, htg⟩ (c_X6_within l D E G x2 (0 : Int32) (6 : Int32)) (va_cwS 3 htg (oh_gS q_293 q_294 q_66 q_295) rfl rfl rfl pdX6_within ⟨Nat.le_of_ble_eq_true rfl, Nat.le_of_ble_eq_true rfl⟩) hK va_nil hG hS rfl hl.1 rfl (Nat.le_of_ble_eq_true rfl) dX6_roadOf_12 ⟨Nat.le_of_ble_eq_true rfl, Nat.le_of_ble_eq_true rfl⟩ (fun r_11 hq_12 => ?_)
    refine lv_if_ne (tgt := 25) hx hb dX6_roadOf_15 (by decide) (fun (c_13 : ¬ (r_11 = 0)) => ?_) (fun (c_13 : r_11 = 0) => ?_)
    · have u_14 := hq_12.2.1 c_13
      refine lv_aload_n hx hb dX6_roadOf_25 rfl (lv_at hl 0 rfl) ?_
      refine va_get (D := D) (ci := 6) (v := .ref (a 1)) (C := RX6) (T := TX6) (N := 9) hx hb htg ig_6 hown hK hP 0 (oh_wg (by decide) (sX_0 hT)) rfl 0 (by decide) (htg _ q_258) (fun _ h9 => h9) rfl dX6_roadOf_26 ?_
      refine lv_iload_n hx hb dX6_roadOf_29 rfl (lv_at hl 1 rfl) ?_
      refine lv_iload_n hx hb dX6_roadOf_30 rfl (lv_at hl 2 rfl) ?_
      refine tq_V (As := [.int x1, .int x2]) (rest := []) (ws := (oh_W 35 a C)) ⟨hx, hb, hml, hown, htg⟩ (c_X0_ofRoad l D E G a C hT x1 x2 (rg_w u_10.1 (by decide)) (rg_w (rn_leu u_14.2 (rn_lel u_14.1 (rg_c (v := 0) (lo := 0) (hi := 0) (by decide)) (rg_any _)) (rg_c (v := 6) (lo := 6) (hi := 6) (by decide))) (by decide))) (cwV 2 htg (oh_gV q_479 q_480 q_481 q_67 q_482) rfl rfl rfl pdVX0_ofRoad ⟨Nat.le_of_ble_eq_true rfl, Nat.le_of_ble_eq_true rfl⟩) hK hP hG hS (va_recv hK hP (ci := 0) (q0 := 1) rfl (oh_wg (by decide) (sX_1 hT))) rfl hl.1 rfl (Nat.le_of_ble_eq_true rfl) dX6_roadOf_31 ⟨Nat.le_of_ble_eq_true rfl, Nat.le_of_ble_eq_true rfl⟩ (fun r_15 hq_16 => ?_)
      subst hq_16
      rw [hQ]
      exact W.iret (v := ga (C 11) ((x1 * 7) + x2).toNatClampNeg) hx hb hr (fun t ht hW => ⟨⟨ga (C 11) ((x1 * 7) + x2).toNatClampNeg, C, rfl, ⟨hT, hF, (fun A hA => Eq.trans (colX_v (t := 0) hA (by decide) (rg_w (lo := 0) (hi := 23) u_10.1 (by decide)) rfl (rg_w (lo := 0) (hi := 6) (rn_leu u_14.2 (rn_lel u_14.1 (rg_c (v := 0) (lo := 0) (hi := 0) (by decide)) (rg_any _)) (rg_c (v := 6) (lo := 6) (hi := 6) (by decide))) (by decide)) (by decide) (show 0 ≤ x1 ∧ x1 < A 5 0 0 by rw [← (show ga (C 10) ((0 : Int32)).toNatClampNeg = A 5 0 0 from hA.1 0 (by decide))]; exact u_10.2).2 (by unfold vis; omega)) (pif_pos ⟨(show 0 ≤ x1 ∧ x1 < A 5 0 0 by rw [← (show ga (C 10) ((0 : Int32)).toNatClampNeg = A 5 0 0 from hA.1 0 (by decide))]; exact u_10.2), (oh_rgI (p := 0) (q := 6) (rg_w (lo := 0) (hi := 6) (rn_leu u_14.2 (rn_lel u_14.1 (rg_c (v := 0) (lo := 0) (hi := 0) (by decide)) (rg_any _)) (rg_c (v := 6) (lo := 6) (hi := 6) (by decide))) (by decide)))⟩).symm)⟩, ⟨by rw [ht]; exact hP, hD⟩⟩, hS.F ht⟩) hS.2.2 dX6_roadOf_34
    · have u_17 := hq_12.2.2 c_13
      refine lv_aload_n hx hb dX6_roadOf_18 rfl (lv_at hl 0 rfl) ?_
      refine lv_bipush (v := (-2)) hx hb dX6_roadOf_19 (by decide) ?_
      refine tm_V (As := [.int (-2)]) (rest := []) ⟨hx, hb, hml, hown, htg⟩ (c_X6_refuse l D E G _ a C hT ((-2) : Int32)) (cwV 1 htg (oh_gV q_296 q_298 q_0 q_66 q_299) rfl rfl rfl pdVX6_refuse ⟨Nat.le_of_ble_eq_true rfl, Nat.le_of_ble_eq_true rfl⟩) hK hP hD hG hS hA (va_recv hK hP (ci := 6) (q0 := 0) rfl (oh_wg (by decide) (sX_0 hT))) rfl hl.1 rfl (Nat.le_of_ble_eq_true rfl) dX6_roadOf_21 ⟨Nat.le_of_ble_eq_true rfl, Nat.le_of_ble_eq_true rfl⟩ (fun r_18 C_19 H locs hq_20 hP hD hS => ?_)
      obtain ⟨hT, f_21, hq_20⟩ := hq_20
      have hF := fr_tr hF f_21 (by decide) (by decide)
      refine W.widen (k := 0) (n := 0) (Nat.le_refl _) (Nat.le_refl _) ?_
      have t_22 := hT
      rw [hQ]
      exact W.iret (v := r_18) hx hb hr (fun t ht hW => ⟨⟨r_18, C_19, rfl, ⟨hT, hF, (fun A hA => Eq.trans hq_20 (pif_neg (fun h8 => u_17 h8.2)).symm)⟩, ⟨by rw [ht]; exact hP, hD⟩⟩, hS.F ht⟩) hS.2.2 dX6_roadOf_24

set_option maxHeartbeats 4000000 in
set_option maxRecDepth 100000 in
theorem e_X0_waggonLength (l : Launch) (D : va_G) (E : Nat → ClassId) (G : Nat → Nat) (a : Nat → Nat) (C : Nat → va_E) (hT : TyX a E C) (x1 : Int32) (hx1 : rg x1 0 4) : Met l yX0_waggonLength (oh_w yX0_waggonLength cX0_waggonLength 2 (some .int)) ({ frames := 1, cells := 0, slots := 0, locals := 22 }) (oh_Pp D E G [.ref (a 1), .int x1] (oh_W 35 a C)) (vp_Si (fun r => r = ((ga (C 13) ((x1 * 3) + 1).toNatClampNeg) * ((ga (C 13) ((x1 * 3) + 0).toNatClampNeg) - 1)) + 4)) 0 0 (fun _ => False) := by
  refine Met.ofW (cc := cX0_waggonLength) (maxL := 2) (ret := (some .int)) (by decide) rfl ?_
  intro p e s m args below meth c s₁ B hml hv
  obtain ⟨rfl, hP, hK, hG⟩ := hv
  have hx := B.exec
  have hb := B.bytes
  have hr := B.returns
  have hts := atoms_spec (ws := (oh_w yX0_waggonLength cX0_waggonLength 2 (some .int))) B.pre
  have htg : ∀ w ∈ oh_t, w.before _ s = true := fun w h => hts w (List.mem_cons_of_mem _ h)
  have hown : s.vm.findClass RX0 = some m.cls := findClass_of_methodNamed B.named
  have hlocks := B.notSynchronized
  have hT0 := hT
  have hS : va_S (fun _ => False) s.heap s.heap [] := va_S.rf
  have hl := lv_entry ([.ref (a 1), .int x1]) (n := 2) (Nat.le_of_ble_eq_true rfl)
  rw [lg_entry_eq]
  generalize (lg_sl ([.ref (a 1), .int x1]) ++ List.replicate (2 - (lg_sl ([.ref (a 1), .int x1])).length) Slot.unset).toArray = ls at hl ⊢
  have hl : lv_has ls 2 [(0, .ref (a 1)), (1, .int x1)] := hl
  refine oh_genQ (fun Q hQ => ?_)
  refine lv_aload_n hx hb dX0_waggonLength_0 rfl (lv_at hl 0 rfl) ?_
  refine lv_iload_n hx hb dX0_waggonLength_1 rfl (lv_at hl 1 rfl) ?_
  refine lv_iconst (v := 1) hx hb dX0_waggonLength_2 (by decide) ?_
  refine tq_V (As := [.int x1, .int 1]) (rest := []) (ws := (oh_W 35 a C)) ⟨hx, hb, hml, hown, htg⟩ (c_X0_ofWaggon l D E G a C hT x1 (1 : Int32) (rg_w hx1 (by decide)) (rg_w (rg_c (v := 1) (lo := 1) (hi := 1) (by decide)) (by decide))) (cwV 2 htg (oh_gV q_687 q_688 q_689 q_67 q_690) rfl rfl rfl pdVX0_ofWaggon ⟨Nat.le_of_ble_eq_true rfl, Nat.le_of_ble_eq_true rfl⟩) hK hP hG hS (va_recv hK hP (ci := 0) (q0 := 1) rfl (oh_wg (by decide) (sX_1 hT))) rfl hl.1 rfl (Nat.le_of_ble_eq_true rfl) dX0_waggonLength_3 ⟨Nat.le_of_ble_eq_true rfl, Nat.le_of_ble_eq_true rfl⟩ (fun r_1 hq_2 => ?_)
  subst hq_2
  refine lv_aload_n hx hb dX0_waggonLength_6 rfl (lv_at hl 0 rfl) ?_
  refine lv_iload_n hx hb dX0_waggonLength_7 rfl (lv_at hl 1 rfl) ?_
  refine lv_iconst (v := 0) hx hb dX0_waggonLength_8 (by decide) ?_
  refine tq_V (As := [.int x1, .int 0]) (rest := [.int (ga (C 13) ((x1 * 3) + 1).toNatClampNeg)]) (ws := (oh_W 35 a C)) ⟨hx, hb, hml, hown, htg⟩ (c_X0_ofWaggon l D E G a C hT x1 (0 : Int32) (rg_w hx1 (by decide)) (rg_w (rg_c (v := 0) (lo := 0) (hi := 0) (by decide)) (by decide))) (cwV 2 htg (oh_gV q_687 q_688 q_689 q_67 q_690) rfl rfl rfl pdVX0_ofWaggon ⟨Nat.le_of_ble_eq_true rfl, Nat.le_of_ble_eq_true rfl⟩) hK hP hG hS (va_recv hK hP (ci := 0) (q0 := 1) rfl (oh_wg (by decide) (sX_1 hT))) rfl hl.1 rfl (Nat.le_of_ble_eq_true rfl) dX0_waggonLength_9 ⟨Nat.le_of_ble_eq_true rfl, Nat.le_of_ble_eq_true rfl⟩ (fun r_3 hq_4 => ?_)
  subst hq_4
  refine lv_iconst (v := 1) hx hb dX0_waggonLength_12 (by decide) ?_
  refine lv_isub hx hb dX0_waggonLength_13 ?_
  refine lv_imul hx hb dX0_waggonLength_14 ?_
  refine lv_iconst (v := 4) hx hb dX0_waggonLength_15 (by decide) ?_
  refine lv_iadd hx hb dX0_waggonLength_16 ?_
  rw [hQ]
  exact W.iret (v := ((ga (C 13) ((x1 * 3) + 1).toNatClampNeg) * ((ga (C 13) ((x1 * 3) + 0).toNatClampNeg) - 1)) + 4) hx hb hr (fun t ht hW => ⟨((ga (C 13) ((x1 * 3) + 1).toNatClampNeg) * ((ga (C 13) ((x1 * 3) + 0).toNatClampNeg) - 1)) + 4, rfl, rfl, ht⟩) (fun q h => by cases h) dX0_waggonLength_17

set_option maxHeartbeats 4000000 in
set_option maxRecDepth 100000 in
theorem e_X6_length (l : Launch) (D : va_G) (E : Nat → ClassId) (G : Nat → Nat) (sz : Nat) (a : Nat → Nat) (C : Nat → va_E) (hT : TyX a E C) (x1 : Int32) : Met l yX6_length (oh_w yX6_length cX6_length 2 (some .int)) ({ frames := 2, cells := 0, slots := 0, locals := 44 }) (oh_Pm D E G [.ref (a 0), .int x1] (oh_W 35 a C) sz) (va_Qi (fun r (u : Nat → va_E) => TyX a E u ∧ fr [(7, 8)] [] C u ∧ (∀ A : LA, absX 10 C A → r = spLen A x1)) (oh_B D (va_A (oh_W 35 a C) sz) (fun u => oh_W 35 a u)) (va_A (oh_W 35 a C) sz)) 0 0 (va_A (oh_W 35 a C) sz) := by
  refine Met.ofW (cc := cX6_length) (maxL := 2) (ret := (some .int)) (by decide) rfl ?_
  intro p e s m args below meth c s₁ B hml hv
  obtain ⟨rfl, hsz, hP, hK, hD0, hG⟩ := hv
  have hx := B.exec
  have hb := B.bytes
  have hr := B.returns
  have hts := atoms_spec (ws := (oh_w yX6_length cX6_length 2 (some .int))) B.pre
  have htg : ∀ w ∈ oh_t, w.before _ s = true := fun w h => hts w (List.mem_cons_of_mem _ h)
  have hown : s.vm.findClass RX6 = some m.cls := findClass_of_methodNamed B.named
  have hlocks := B.notSynchronized
  have hT0 := hT
  subst hsz
  have hD := hD0.self (sz := s.heap.size)
  generalize hAe : va_A (oh_W 35 a C) s.heap.size = A at hD hG ⊢
  have hA : ∀ q : Nat, s.heap.size ≤ q → A q := fun q h => by rw [← hAe]; exact Or.inr h
  have hS : va_S A s.heap s.heap [] := va_S.rf
  have hF : fr [(7, 8)] [] C C := fr_rf
  have hl := lv_entry ([.ref (a 0), .int x1]) (n := 2) (Nat.le_of_ble_eq_true rfl)
  rw [lg_entry_eq]
  generalize (lg_sl ([.ref (a 0), .int x1]) ++ List.replicate (2 - (lg_sl ([.ref (a 0), .int x1])).length) Slot.unset).toArray = ls at hl ⊢
  have hl : lv_has ls 2 [(0, .ref (a 0)), (1, .int x1)] := hl
  refine oh_genQ (fun Q hQ => ?_)
  refine lv_aload_n hx hb dX6_length_0 rfl (lv_at hl 0 rfl) ?_
  refine lv_iload_n hx hb dX6_length_1 rfl (lv_at hl 1 rfl) ?_
  refine tq_V (As := [.int x1]) (rest := []) (ws := (oh_W 35 a C)) ⟨hx, hb, hml, hown, htg⟩ (e_X6_isWaggon l D E G a C hT x1) (cwV 1 htg (oh_gV q_679 q_681 q_15 q_66 q_682) rfl rfl rfl pdVX6_isWaggon ⟨Nat.le_of_ble_eq_true rfl, Nat.le_of_ble_eq_true rfl⟩) hK hP hG hS (va_recv hK hP (ci := 6) (q0 := 0) rfl (oh_wg (by decide) (sX_0 hT))) rfl hl.1 rfl (Nat.le_of_ble_eq_true rfl) dX6_length_2 ⟨Nat.le_of_ble_eq_true rfl, Nat.le_of_ble_eq_true rfl⟩ (fun r_1 hq_2 => ?_)
  refine lv_if_ne (tgt := 15) hx hb dX6_length_5 (by decide) (fun (c_3 : ¬ (r_1 = 0)) => ?_) (fun (c_3 : r_1 = 0) => ?_)
  · have u_4 := hq_2.2.1 c_3
    refine lv_aload_n hx hb dX6_length_15 rfl (lv_at hl 0 rfl) ?_
    refine va_get (D := D) (ci := 6) (v := .ref (a 1)) (C := RX6) (T := TX6) (N := 9) hx hb htg ig_6 hown hK hP 0 (oh_wg (by decide) (sX_0 hT)) rfl 0 (by decide) (htg _ q_258) (fun _ h9 => h9) rfl dX6_length_16 ?_
    refine lv_iload_n hx hb dX6_length_19 rfl (lv_at hl 1 rfl) ?_
    refine tq_V (As := [.int x1]) (rest := []) (ws := (oh_W 35 a C)) ⟨hx, hb, hml, hown, htg⟩ (e_X0_waggonLength l D E G a C hT x1 (rg_w u_4.1 (by decide))) (cwV 1 htg (oh_gV q_683 q_684 q_685 q_67 q_686) rfl rfl rfl pdVX0_waggonLength ⟨Nat.le_of_ble_eq_true rfl, Nat.le_of_ble_eq_true rfl⟩) hK hP hG hS (va_recv hK hP (ci := 0) (q0 := 1) rfl (oh_wg (by decide) (sX_1 hT))) rfl hl.1 rfl (Nat.le_of_ble_eq_true rfl) dX6_length_20 ⟨Nat.le_of_ble_eq_true rfl, Nat.le_of_ble_eq_true rfl⟩ (fun r_5 hq_6 => ?_)
    subst hq_6
    rw [hQ]
    exact W.iret (v := ((ga (C 13) ((x1 * 3) + 1).toNatClampNeg) * ((ga (C 13) ((x1 * 3) + 0).toNatClampNeg) - 1)) + 4) hx hb hr (fun t ht hW => ⟨⟨((ga (C 13) ((x1 * 3) + 1).toNatClampNeg) * ((ga (C 13) ((x1 * 3) + 0).toNatClampNeg) - 1)) + 4, C, rfl, ⟨hT, hF, (fun A hA => Eq.trans (by rw [(show ga (C 13) (x1 * 3 + 1).toNatClampNeg = A 2 x1.toNatClampNeg 1 from colX_v (t := 2) (w := 1) hA (by decide) (rg_w (lo := 0) (hi := 4) u_4.1 (by decide)) rfl (rg_c (v := 1) (lo := 0) (hi := 1) (by decide)) (by decide) (show 0 ≤ x1 ∧ x1 < A 5 0 2 by rw [← (show ga (C 10) ((2 : Int32)).toNatClampNeg = A 5 0 2 from hA.1 2 (by decide))]; exact u_4.2).2 (by unfold vis; omega)), (show ga (C 13) (x1 * 3 + 0).toNatClampNeg = A 2 x1.toNatClampNeg 0 from colX_v (t := 2) (w := 0) hA (by decide) (rg_w (lo := 0) (hi := 4) u_4.1 (by decide)) rfl (rg_c (v := 0) (lo := 0) (hi := 0) (by decide)) (by decide) (show 0 ≤ x1 ∧ x1 < A 5 0 2 by rw [← (show ga (C 10) ((2 : Int32)).toNatClampNeg = A 5 0 2 from hA.1 2 (by decide))]; exact u_4.2).2 (by unfold vis; omega))]) (pif_pos (show 0 ≤ x1 ∧ x1 < A 5 0 2 by rw [← (show ga (C 10) ((2 : Int32)).toNatClampNeg = A 5 0 2 from hA.1 2 (by decide))]; exact u_4.2)).symm)⟩, ⟨by rw [ht]; exact hP, hD⟩⟩, hS.F ht⟩) hS.2.2 dX6_length_23
  · have u_7 := hq_2.2.2 c_3
    refine lv_aload_n hx hb dX6_length_8 rfl (lv_at hl 0 rfl) ?_
    refine lv_bipush (v := (-2)) hx hb dX6_length_9 (by decide) ?_
    refine tm_V (As := [.int (-2)]) (rest := []) ⟨hx, hb, hml, hown, htg⟩ (c_X6_refuse l D E G _ a C hT ((-2) : Int32)) (cwV 1 htg (oh_gV q_296 q_298 q_0 q_66 q_299) rfl rfl rfl pdVX6_refuse ⟨Nat.le_of_ble_eq_true rfl, Nat.le_of_ble_eq_true rfl⟩) hK hP hD hG hS hA (va_recv hK hP (ci := 6) (q0 := 0) rfl (oh_wg (by decide) (sX_0 hT))) rfl hl.1 rfl (Nat.le_of_ble_eq_true rfl) dX6_length_11 ⟨Nat.le_of_ble_eq_true rfl, Nat.le_of_ble_eq_true rfl⟩ (fun r_8 C_9 H locs hq_10 hP hD hS => ?_)
    obtain ⟨hT, f_11, hq_10⟩ := hq_10
    have hF := fr_tr hF f_11 (by decide) (by decide)
    refine W.widen (k := 0) (n := 0) (Nat.le_refl _) (Nat.le_refl _) ?_
    have t_12 := hT
    rw [hQ]
    exact W.iret (v := r_8) hx hb hr (fun t ht hW => ⟨⟨r_8, C_9, rfl, ⟨hT, hF, (fun A hA => Eq.trans hq_10 (pif_neg (by rw [← (show ga (C 10) ((2 : Int32)).toNatClampNeg = A 5 0 2 from hA.1 2 (by decide))]; exact u_7)).symm)⟩, ⟨by rw [ht]; exact hP, hD⟩⟩, hS.F ht⟩) hS.2.2 dX6_length_14

set_option maxHeartbeats 4000000 in
set_option maxRecDepth 100000 in
theorem e_X0_setsOfParts (l : Launch) (D : va_G) (E : Nat → ClassId) (G : Nat → Nat) (a : Nat → Nat) (C : Nat → va_E) (hT : TyX a E C) : Met l yX0_setsOfParts (oh_w yX0_setsOfParts cX0_setsOfParts 1 (some .int)) ({ frames := 0, cells := 0, slots := 0, locals := 0 }) (oh_Pp D E G [.ref (a 1)] (oh_W 35 a C)) (vp_Si (fun r => r = (1 : Int32) <<< ((ga (C 10) ((3 : Int32)).toNatClampNeg) &&& 31))) 0 0 (fun _ => False) := by
  refine Met.ofW (cc := cX0_setsOfParts) (maxL := 1) (ret := (some .int)) (by decide) rfl ?_
  intro p e s m args below meth c s₁ B hml hv
  obtain ⟨rfl, hP, hK, hG⟩ := hv
  have hx := B.exec
  have hb := B.bytes
  have hr := B.returns
  have hts := atoms_spec (ws := (oh_w yX0_setsOfParts cX0_setsOfParts 1 (some .int))) B.pre
  have htg : ∀ w ∈ oh_t, w.before _ s = true := fun w h => hts w (List.mem_cons_of_mem _ h)
  have hown : s.vm.findClass RX0 = some m.cls := findClass_of_methodNamed B.named
  have hlocks := B.notSynchronized
  have hT0 := hT
  have hS : va_S (fun _ => False) s.heap s.heap [] := va_S.rf
  have hl := lv_entry ([.ref (a 1)]) (n := 1) (Nat.le_of_ble_eq_true rfl)
  rw [lg_entry_eq]
  generalize (lg_sl ([.ref (a 1)]) ++ List.replicate (1 - (lg_sl ([.ref (a 1)])).length) Slot.unset).toArray = ls at hl ⊢
  have hl : lv_has ls 1 [(0, .ref (a 1))] := hl
  refine oh_genQ (fun Q hQ => ?_)
  refine lv_iconst (v := 1) hx hb dX0_setsOfParts_0 (by decide) ?_
  refine lv_aload_n hx hb dX0_setsOfParts_1 rfl (lv_at hl 0 rfl) ?_
  refine va_get (D := D) (ci := 0) (v := .ref (a 10)) (C := RX0) (T := TX0) (N := 8) hx hb htg ig_0 hown hK hP 1 (oh_wg (by decide) (sX_1 hT)) rfl 0 (by decide) (htg _ q_97) (fun _ h9 => h9) rfl dX0_setsOfParts_2 ?_
  refine lv_iconst (v := 3) hx hb dX0_setsOfParts_5 (by decide) ?_
  refine th_iald hx hb hK hP 10 (by decide) (sX_10 hT) (rg_in (rg_c (v := 3) (lo := 3) (hi := 3) (by decide)) (by decide)) dX0_setsOfParts_6 ?_
  refine lv_ishl hx hb dX0_setsOfParts_7 ?_
  rw [hQ]
  exact W.iret (v := (1 : Int32) <<< ((ga (C 10) ((3 : Int32)).toNatClampNeg) &&& 31)) hx hb hr (fun t ht hW => ⟨(1 : Int32) <<< ((ga (C 10) ((3 : Int32)).toNatClampNeg) &&& 31), rfl, rfl, ht⟩) (fun q h => by cases h) dX0_setsOfParts_8

set_option maxHeartbeats 4000000 in
set_option maxRecDepth 100000 in
theorem e_X6_isPack (l : Launch) (D : va_G) (E : Nat → ClassId) (G : Nat → Nat) (a : Nat → Nat) (C : Nat → va_E) (hT : TyX a E C) (x1 : Int32) (x2 : Int32) : Met l yX6_isPack (oh_w yX6_isPack cX6_isPack 3 (some .boolean)) ({ frames := 2, cells := 0, slots := 0, locals := 43 }) (oh_Pp D E G [.ref (a 0), .int x1, .int x2] (oh_W 35 a C)) (vp_Si (fun r => (r = 0 ∨ r = 1) ∧ (r ≠ 0 → rg x1 0 4 ∧ (okPk (ga (C 10) ((2 : Int32)).toNatClampNeg) (ga (C 10) ((3 : Int32)).toNatClampNeg) x1 x2)) ∧ (r = 0 → (¬ okPk (ga (C 10) ((2 : Int32)).toNatClampNeg) (ga (C 10) ((3 : Int32)).toNatClampNeg) x1 x2)))) 0 0 (fun _ => False) := by
  refine Met.ofW (cc := cX6_isPack) (maxL := 3) (ret := (some .boolean)) (by decide) rfl ?_
  intro p e s m args below meth c s₁ B hml hv
  obtain ⟨rfl, hP, hK, hG⟩ := hv
  have hx := B.exec
  have hb := B.bytes
  have hr := B.returns
  have hts := atoms_spec (ws := (oh_w yX6_isPack cX6_isPack 3 (some .boolean))) B.pre
  have htg : ∀ w ∈ oh_t, w.before _ s = true := fun w h => hts w (List.mem_cons_of_mem _ h)
  have hown : s.vm.findClass RX6 = some m.cls := findClass_of_methodNamed B.named
  have hlocks := B.notSynchronized
  have hT0 := hT
  have hS : va_S (fun _ => False) s.heap s.heap [] := va_S.rf
  have hl := lv_entry ([.ref (a 0), .int x1, .int x2]) (n := 3) (Nat.le_of_ble_eq_true rfl)
  rw [lg_entry_eq]
  generalize (lg_sl ([.ref (a 0), .int x1, .int x2]) ++ List.replicate (3 - (lg_sl ([.ref (a 0), .int x1, .int x2])).length) Slot.unset).toArray = ls at hl ⊢
  have hl : lv_has ls 3 [(0, .ref (a 0)), (1, .int x1), (2, .int x2)] := hl
  refine oh_genQ (fun Q hQ => ?_)
  refine lv_aload_n hx hb dX6_isPack_0 rfl (lv_at hl 0 rfl) ?_
  refine lv_iload_n hx hb dX6_isPack_1 rfl (lv_at hl 1 rfl) ?_
  refine tq_V (As := [.int x1]) (rest := []) (ws := (oh_W 35 a C)) ⟨hx, hb, hml, hown, htg⟩ (e_X6_isWaggon l D E G a C hT x1) (cwV 1 htg (oh_gV q_679 q_681 q_15 q_66 q_682) rfl rfl rfl pdVX6_isWaggon ⟨Nat.le_of_ble_eq_true rfl, Nat.le_of_ble_eq_true rfl⟩) hK hP hG hS (va_recv hK hP (ci := 6) (q0 := 0) rfl (oh_wg (by decide) (sX_0 hT))) rfl hl.1 rfl (Nat.le_of_ble_eq_true rfl) dX6_isPack_2 ⟨Nat.le_of_ble_eq_true rfl, Nat.le_of_ble_eq_true rfl⟩ (fun r_1 hq_2 => ?_)
  refine lv_if_eq (tgt := 29) hx hb dX6_isPack_5 (by decide) (fun (c_3 : r_1 = 0) => ?_) (fun (c_3 : ¬ (r_1 = 0)) => ?_)
  · have u_4 := hq_2.2.2 c_3
    refine lv_iconst (v := 0) hx hb dX6_isPack_29 (by decide) ?_
    rw [hQ]
    exact W.zret (v := 0) (ty := .boolean) hx hb hr (by decide) (fun t ht hW => ⟨0, rfl, ⟨(Or.inl rfl), (fun h9 => absurd rfl h9), (fun _ => (fun h8 => u_4 h8.1))⟩, ht⟩) (fun q h => by cases h) dX6_isPack_30
  · have u_5 := hq_2.2.1 c_3
    refine lv_iload_n hx hb dX6_isPack_8 rfl (lv_at hl 2 rfl) ?_
    refine lv_iconst (v := 0) hx hb dX6_isPack_9 (by decide) ?_
    refine lv_aload_n hx hb dX6_isPack_10 rfl (lv_at hl 0 rfl) ?_
    refine va_get (D := D) (ci := 6) (v := .ref (a 1)) (C := RX6) (T := TX6) (N := 9) hx hb htg ig_6 hown hK hP 0 (oh_wg (by decide) (sX_0 hT)) rfl 0 (by decide) (htg _ q_258) (fun _ h9 => h9) rfl dX6_isPack_11 ?_
    refine tq_V (As := []) (rest := [.int 0, .int x2]) (ws := (oh_W 35 a C)) ⟨hx, hb, hml, hown, htg⟩ (e_X0_setsOfParts l D E G a C hT) (cwV 0 htg (oh_gV q_699 q_700 q_701 q_67 q_702) rfl rfl rfl pdVX0_setsOfParts ⟨Nat.le_of_ble_eq_true rfl, Nat.le_of_ble_eq_true rfl⟩) hK hP hG hS (va_recv hK hP (ci := 0) (q0 := 1) rfl (oh_wg (by decide) (sX_1 hT))) rfl hl.1 rfl (Nat.le_of_ble_eq_true rfl) dX6_isPack_14 ⟨Nat.le_of_ble_eq_true rfl, Nat.le_of_ble_eq_true rfl⟩ (fun r_6 hq_7 => ?_)
    subst hq_7
    refine lv_iconst (v := 1) hx hb dX6_isPack_17 (by decide) ?_
    refine lv_isub hx hb dX6_isPack_18 ?_
    refine tq_S (As := [.int x2, .int 0, .int (((1 : Int32) <<< ((ga (C 10) ((3 : Int32)).toNatClampNeg) &&& 31)) - 1)]) (rest := []) (ws := []) ⟨hx, hb, hml, hown, htg⟩ (c_X6_within l D E G x2 (0 : Int32) (((1 : Int32) <<< ((ga (C 10) ((3 : Int32)).toNatClampNeg) &&& 31)) - 1)) (va_cwS 3 htg (oh_gS q_293 q_294 q_66 q_295) rfl rfl rfl pdX6_within ⟨Nat.le_of_ble_eq_true rfl, Nat.le_of_ble_eq_true rfl⟩) hK va_nil hG hS rfl hl.1 rfl (Nat.le_of_ble_eq_true rfl) dX6_isPack_19 ⟨Nat.le_of_ble_eq_true rfl, Nat.le_of_ble_eq_true rfl⟩ (fun r_8 hq_9 => ?_)
    refine lv_if_eq (tgt := 29) hx hb dX6_isPack_22 (by decide) (fun (c_10 : r_8 = 0) => ?_) (fun (c_10 : ¬ (r_8 = 0)) => ?_)
    · have u_11 := hq_9.2.2 c_10
      refine lv_iconst (v := 0) hx hb dX6_isPack_29 (by decide) ?_
      rw [hQ]
      exact W.zret (v := 0) (ty := .boolean) hx hb hr (by decide) (fun t ht hW => ⟨0, rfl, ⟨(Or.inl rfl), (fun h9 => absurd rfl h9), (fun _ => (fun h8 => u_11 h8.2))⟩, ht⟩) (fun q h => by cases h) dX6_isPack_30
    · have u_12 := hq_9.2.1 c_10
      refine lv_iconst (v := 1) hx hb dX6_isPack_25 (by decide) ?_
      refine lv_goto (tgt := 30) hx hb dX6_isPack_26 (by decide) ?_
      rw [hQ]
      exact W.zret (v := 1) (ty := .boolean) hx hb hr (by decide) (fun t ht hW => ⟨1, rfl, ⟨(Or.inr rfl), (fun _ => ⟨(rg_w u_5.1 (by decide)), ⟨u_5.2, ⟨u_12.1, u_12.2⟩⟩⟩), (fun h9 => absurd h9 (by decide))⟩, ht⟩) (fun q h => by cases h) dX6_isPack_30

set_option maxHeartbeats 4000000 in
set_option maxRecDepth 100000 in
theorem e_X6_isJourney (l : Launch) (D : va_G) (E : Nat → ClassId) (G : Nat → Nat) (a : Nat → Nat) (C : Nat → va_E) (hT : TyX a E C) (x1 : Int32) (x2 : Int32) (x3 : Int32) (x4 : Int32) : Met l yX6_isJourney (oh_w yX6_isJourney cX6_isJourney 5 (some .boolean)) ({ frames := 3, cells := 0, slots := 0, locals := 65 }) (oh_Pp D E G [.ref (a 0), .int x1, .int x2, .int x3, .int x4] (oh_W 35 a C)) (vp_Si (fun r => (r = 0 ∨ r = 1) ∧ (r ≠ 0 → rg x1 0 4 ∧ rg x3 0 15 ∧ rg x4 0 15 ∧ (okPk (ga (C 10) ((2 : Int32)).toNatClampNeg) (ga (C 10) ((3 : Int32)).toNatClampNeg) x1 x2 ∧ ((0 : Int32) ≤ x3 ∧ x3 ≤ 15) ∧ ((0 : Int32) ≤ x4 ∧ x4 ≤ 15))) ∧ (r = 0 → (¬ (okPk (ga (C 10) ((2 : Int32)).toNatClampNeg) (ga (C 10) ((3 : Int32)).toNatClampNeg) x1 x2 ∧ ((0 : Int32) ≤ x3 ∧ x3 ≤ 15) ∧ ((0 : Int32) ≤ x4 ∧ x4 ≤ 15)))))) 0 0 (fun _ => False) := by
  refine Met.ofW (cc := cX6_isJourney) (maxL := 5) (ret := (some .boolean)) (by decide) rfl ?_
  intro p e s m args below meth c s₁ B hml hv
  obtain ⟨rfl, hP, hK, hG⟩ := hv
  have hx := B.exec
  have hb := B.bytes
  have hr := B.returns
  have hts := atoms_spec (ws := (oh_w yX6_isJourney cX6_isJourney 5 (some .boolean))) B.pre
  have htg : ∀ w ∈ oh_t, w.before _ s = true := fun w h => hts w (List.mem_cons_of_mem _ h)
  have hown : s.vm.findClass RX6 = some m.cls := findClass_of_methodNamed B.named
  have hlocks := B.notSynchronized
  have hT0 := hT
  have hS : va_S (fun _ => False) s.heap s.heap [] := va_S.rf
  have hl := lv_entry ([.ref (a 0), .int x1, .int x2, .int x3, .int x4]) (n := 5) (Nat.le_of_ble_eq_true rfl)
  rw [lg_entry_eq]
  generalize (lg_sl ([.ref (a 0), .int x1, .int x2, .int x3, .int x4]) ++ List.replicate (5 - (lg_sl ([.ref (a 0), .int x1, .int x2, .int x3, .int x4])).length) Slot.unset).toArray = ls at hl ⊢
  have hl : lv_has ls 5 [(0, .ref (a 0)), (1, .int x1), (2, .int x2), (3, .int x3), (4, .int x4)] := hl
  refine oh_genQ (fun Q hQ => ?_)
  refine lv_aload_n hx hb dX6_isJourney_0 rfl (lv_at hl 0 rfl) ?_
  refine lv_iload_n hx hb dX6_isJourney_1 rfl (lv_at hl 1 rfl) ?_
  refine lv_iload_n hx hb dX6_isJourney_2 rfl (lv_at hl 2 rfl) ?_
  refine tq_V (As := [.int x1, .int x2]) (rest := []) (ws := (oh_W 35 a C)) ⟨hx, hb, hml, hown, htg⟩ (e_X6_isPack l D E G a C hT x1 x2) (cwV 2 htg (oh_gV q_695 q_697 q_16 q_66 q_698) rfl rfl rfl pdVX6_isPack ⟨Nat.le_of_ble_eq_true rfl, Nat.le_of_ble_eq_true rfl⟩) hK hP hG hS (va_recv hK hP (ci := 6) (q0 := 0) rfl (oh_wg (by decide) (sX_0 hT))) rfl hl.1 rfl (Nat.le_of_ble_eq_true rfl) dX6_isJourney_3 ⟨Nat.le_of_ble_eq_true rfl, Nat.le_of_ble_eq_true rfl⟩ (fun r_1 hq_2 => ?_)
  refine lv_if_eq (tgt := 28) hx hb dX6_isJourney_6 (by decide) (fun (c_3 : r_1 = 0) => ?_) (fun (c_3 : ¬ (r_1 = 0)) => ?_)
  · have u_4 := hq_2.2.2 c_3
    refine lv_iconst (v := 0) hx hb dX6_isJourney_28 (by decide) ?_
    rw [hQ]
    exact W.zret (v := 0) (ty := .boolean) hx hb hr (by decide) (fun t ht hW => ⟨0, rfl, ⟨(Or.inl rfl), (fun h9 => absurd rfl h9), (fun _ => (fun h8 => u_4 h8.1))⟩, ht⟩) (fun q h => by cases h) dX6_isJourney_29
  · have u_5 := hq_2.2.1 c_3
    refine lv_iload_n hx hb dX6_isJourney_9 rfl (lv_at hl 3 rfl) ?_
    refine tq_S (As := [.int x3]) (rest := []) (ws := []) ⟨hx, hb, hml, hown, htg⟩ (e_X6_isPlace l D E G x3) (va_cwS 1 htg (oh_gS q_413 q_414 q_66 q_415) rfl rfl rfl pdX6_isPlace ⟨Nat.le_of_ble_eq_true rfl, Nat.le_of_ble_eq_true rfl⟩) hK va_nil hG hS rfl hl.1 rfl (Nat.le_of_ble_eq_true rfl) dX6_isJourney_10 ⟨Nat.le_of_ble_eq_true rfl, Nat.le_of_ble_eq_true rfl⟩ (fun r_6 hq_7 => ?_)
    refine lv_if_eq (tgt := 28) hx hb dX6_isJourney_13 (by decide) (fun (c_8 : r_6 = 0) => ?_) (fun (c_8 : ¬ (r_6 = 0)) => ?_)
    · have u_9 := hq_7.2.2 c_8
      refine lv_iconst (v := 0) hx hb dX6_isJourney_28 (by decide) ?_
      rw [hQ]
      exact W.zret (v := 0) (ty := .boolean) hx hb hr (by decide) (fun t ht hW => ⟨0, rfl, ⟨(Or.inl rfl), (fun h9 => absurd rfl h9), (fun _ => (fun h8 => u_9 h8.2.1))⟩, ht⟩) (fun q h => by cases h) dX6_isJourney_29
    · have u_10 := hq_7.2.1 c_8
      refine lv_iload hx hb dX6_isJourney_16 (lv_at hl 4 rfl) ?_
      refine tq_S (As := [.int x4]) (rest := []) (ws := []) ⟨hx, hb, hml, hown, htg⟩ (e_X6_isPlace l D E G x4) (va_cwS 1 htg (oh_gS q_413 q_414 q_66 q_415) rfl rfl rfl pdX6_isPlace ⟨Nat.le_of_ble_eq_true rfl, Nat.le_of_ble_eq_true rfl⟩) hK va_nil hG hS rfl hl.1 rfl (Nat.le_of_ble_eq_true rfl) dX6_isJourney_18 ⟨Nat.le_of_ble_eq_true rfl, Nat.le_of_ble_eq_true rfl⟩ (fun r_11 hq_12 => ?_)
      refine lv_if_eq (tgt := 28) hx hb dX6_isJourney_21 (by decide) (fun (c_13 : r_11 = 0) => ?_) (fun (c_13 : ¬ (r_11 = 0)) => ?_)
      · have u_14 := hq_12.2.2 c_13
        refine lv_iconst (v := 0) hx hb dX6_isJourney_28 (by decide) ?_
        rw [hQ]
        exact W.zret (v := 0) (ty := .boolean) hx hb hr (by decide) (fun t ht hW => ⟨0, rfl, ⟨(Or.inl rfl), (fun h9 => absurd rfl h9), (fun _ => (fun h8 => u_14 h8.2.2))⟩, ht⟩) (fun q h => by cases h) dX6_isJourney_29
      · have u_15 := hq_12.2.1 c_13
        refine lv_iconst (v := 1) hx hb dX6_isJourney_24 (by decide) ?_
        refine lv_goto (tgt := 29) hx hb dX6_isJourney_25 (by decide) ?_
        rw [hQ]
        exact W.zret (v := 1) (ty := .boolean) hx hb hr (by decide) (fun t ht hW => ⟨1, rfl, ⟨(Or.inr rfl), (fun _ => ⟨(rg_w u_5.1 (by decide)), (rg_w u_10 (by decide)), (rg_w u_15 (by decide)), ⟨u_5.2, (oh_rgI (p := 0) (q := 15) (rg_w (lo := 0) (hi := 15) u_10 (by decide))), (oh_rgI (p := 0) (q := 15) (rg_w (lo := 0) (hi := 15) u_15 (by decide)))⟩⟩), (fun h9 => absurd h9 (by decide))⟩, ht⟩) (fun q h => by cases h) dX6_isJourney_29

set_option maxHeartbeats 4000000 in
set_option maxRecDepth 100000 in
theorem e_X6_begin (l : Launch) (D : va_G) (E : Nat → ClassId) (G : Nat → Nat) (sz : Nat) (a : Nat → Nat) (C : Nat → va_E) (hT : TyX a E C) (x1 : Int32) (x2 : Int32) (x3 : Int32) (x4 : Int32) : Met l yX6_begin (oh_w yX6_begin cX6_begin 5 (some .int)) ({ frames := 4, cells := 0, slots := 0, locals := 89 }) (oh_Pm D E G [.ref (a 0), .int x1, .int x2, .int x3, .int x4] (oh_W 35 a C) sz) (va_Qi (fun r (u : Nat → va_E) => TyX a E u ∧ fr [(1, 2), (7, 8), (9, 10), (16, 17)] [] C u ∧ (∀ A : LA, absX 10 C A → r = spBegin A x1 x2 x3 x4)) (oh_B D (va_A (oh_W 35 a C) sz) (fun u => oh_W 35 a u)) (va_A (oh_W 35 a C) sz)) 0 0 (va_A (oh_W 35 a C) sz) := by
  refine Met.ofW (cc := cX6_begin) (maxL := 5) (ret := (some .int)) (by decide) rfl ?_
  intro p e s m args below meth c s₁ B hml hv
  obtain ⟨rfl, hsz, hP, hK, hD0, hG⟩ := hv
  have hx := B.exec
  have hb := B.bytes
  have hr := B.returns
  have hts := atoms_spec (ws := (oh_w yX6_begin cX6_begin 5 (some .int))) B.pre
  have htg : ∀ w ∈ oh_t, w.before _ s = true := fun w h => hts w (List.mem_cons_of_mem _ h)
  have hown : s.vm.findClass RX6 = some m.cls := findClass_of_methodNamed B.named
  have hlocks := B.notSynchronized
  have hT0 := hT
  subst hsz
  have hD := hD0.self (sz := s.heap.size)
  generalize hAe : va_A (oh_W 35 a C) s.heap.size = A at hD hG ⊢
  have hA : ∀ q : Nat, s.heap.size ≤ q → A q := fun q h => by rw [← hAe]; exact Or.inr h
  have hS : va_S A s.heap s.heap [] := va_S.rf
  have hF : fr [(1, 2), (7, 8), (9, 10), (16, 17)] [] C C := fr_rf
  have hl := lv_entry ([.ref (a 0), .int x1, .int x2, .int x3, .int x4]) (n := 5) (Nat.le_of_ble_eq_true rfl)
  rw [lg_entry_eq]
  generalize (lg_sl ([.ref (a 0), .int x1, .int x2, .int x3, .int x4]) ++ List.replicate (5 - (lg_sl ([.ref (a 0), .int x1, .int x2, .int x3, .int x4])).length) Slot.unset).toArray = ls at hl ⊢
  have hl : lv_has ls 5 [(0, .ref (a 0)), (1, .int x1), (2, .int x2), (3, .int x3), (4, .int x4)] := hl
  refine oh_genQ (fun Q hQ => ?_)
  refine lv_aload_n hx hb dX6_begin_0 rfl (lv_at hl 0 rfl) ?_
  refine lv_iload_n hx hb dX6_begin_1 rfl (lv_at hl 1 rfl) ?_
  refine lv_iload_n hx hb dX6_begin_2 rfl (lv_at hl 2 rfl) ?_
  refine lv_iload_n hx hb dX6_begin_3 rfl (lv_at hl 3 rfl) ?_
  refine lv_iload hx hb dX6_begin_4 (lv_at hl 4 rfl) ?_
  refine tq_V (As := [.int x1, .int x2, .int x3, .int x4]) (rest := []) (ws := (oh_W 35 a C)) ⟨hx, hb, hml, hown, htg⟩ (e_X6_isJourney l D E G a C hT x1 x2 x3 x4) (cwV 4 htg (oh_gV q_776 q_778 q_17 q_66 q_779) rfl rfl rfl pdVX6_isJourney ⟨Nat.le_of_ble_eq_true rfl, Nat.le_of_ble_eq_true rfl⟩) hK hP hG hS (va_recv hK hP (ci := 6) (q0 := 0) rfl (oh_wg (by decide) (sX_0 hT))) rfl hl.1 rfl (Nat.le_of_ble_eq_true rfl) dX6_begin_6 ⟨Nat.le_of_ble_eq_true rfl, Nat.le_of_ble_eq_true rfl⟩ (fun r_1 hq_2 => ?_)
  refine lv_if_ne (tgt := 19) hx hb dX6_begin_9 (by decide) (fun (c_3 : ¬ (r_1 = 0)) => ?_) (fun (c_3 : r_1 = 0) => ?_)
  · have u_4 := hq_2.2.1 c_3
    refine lv_aload_n hx hb dX6_begin_19 rfl (lv_at hl 0 rfl) ?_
    refine va_get (D := D) (ci := 6) (v := .ref (a 3)) (C := RX6) (T := TX6) (N := 9) hx hb htg ig_6 hown hK hP 0 (oh_wg (by decide) (sX_0 hT)) rfl 3 (by decide) (htg _ q_261) (fun _ h9 => h9) rfl dX6_begin_20 ?_
    refine va_get (D := D) (ci := 5) (v := .ref (a 9)) (C := RX5) (T := TX5) (N := 7) hx hb htg ig_5 hown hK hP 3 (oh_wg (by decide) (sX_3 hT)) rfl 1 (by decide) (htg _ q_169) (fun _ h9 => h9) rfl dX6_begin_23 ?_
    refine lv_aload_n hx hb dX6_begin_26 rfl (lv_at hl 0 rfl) ?_
    refine va_get (D := D) (ci := 6) (v := .ref (a 1)) (C := RX6) (T := TX6) (N := 9) hx hb htg ig_6 hown hK hP 0 (oh_wg (by decide) (sX_0 hT)) rfl 0 (by decide) (htg _ q_258) (fun _ h9 => h9) rfl dX6_begin_27 ?_
    refine lv_iload_n hx hb dX6_begin_30 rfl (lv_at hl 1 rfl) ?_
    refine lv_iload_n hx hb dX6_begin_31 rfl (lv_at hl 2 rfl) ?_
    refine tm_Vv (As := [.ref (a 1), .int x1, .int x2]) (rest := []) ⟨hx, hb, hml, hown, htg⟩ (c_X1_take l D E G _ a C hT x1 x2 (rg_w u_4.1 (by decide))) (cwV 3 htg (oh_gV q_703 q_704 q_705 q_69 q_706) rfl rfl rfl pdVX1_take ⟨Nat.le_of_ble_eq_true rfl, Nat.le_of_ble_eq_true rfl⟩) hK hP hD hG hS hA (va_recv hK hP (ci := 1) (q0 := 9) rfl (oh_wg (by decide) (sX_9 hT))) rfl hl.1 rfl (Nat.le_of_ble_eq_true rfl) dX6_begin_32 ⟨Nat.le_of_ble_eq_true rfl, Nat.le_of_ble_eq_true rfl⟩ (fun C_6 H locs hq_7 hP hD hS => ?_)
    obtain ⟨hT, f_8, hq_7⟩ := hq_7
    have hF := fr_tr hF f_8 (by decide) (by decide)
    refine W.widen (k := 0) (n := 0) (Nat.le_refl _) (Nat.le_refl _) ?_
    have t_9 := hT
    refine lv_aload_n hx hb dX6_begin_35 rfl (lv_at hl 0 rfl) ?_
    refine va_get (D := D) (ci := 6) (v := .ref (a 1)) (C := RX6) (T := TX6) (N := 9) hx hb htg ig_6 hown hK hP 0 (oh_wg (by decide) (sX_0 hT)) rfl 0 (by decide) (htg _ q_258) (fun _ h9 => h9) rfl dX6_begin_36 ?_
    refine lv_iload_n hx hb dX6_begin_39 rfl (lv_at hl 1 rfl) ?_
    refine lv_iload_n hx hb dX6_begin_40 rfl (lv_at hl 2 rfl) ?_
    refine lv_iload_n hx hb dX6_begin_41 rfl (lv_at hl 3 rfl) ?_
    refine lv_iload hx hb dX6_begin_42 (lv_at hl 4 rfl) ?_
    refine lv_aload_n hx hb dX6_begin_44 rfl (lv_at hl 0 rfl) ?_
    refine va_get (D := D) (ci := 6) (v := .ref (a 3)) (C := RX6) (T := TX6) (N := 9) hx hb htg ig_6 hown hK hP 0 (oh_wg (by decide) (sX_0 hT)) rfl 3 (by decide) (htg _ q_261) (fun _ h9 => h9) rfl dX6_begin_45 ?_
    refine va_get (D := D) (ci := 5) (v := .ref (a 9)) (C := RX5) (T := TX5) (N := 7) hx hb htg ig_5 hown hK hP 3 (oh_wg (by decide) (sX_3 hT)) rfl 1 (by decide) (htg _ q_169) (fun _ h9 => h9) rfl dX6_begin_48 ?_
    refine va_get (D := D) (ci := 1) (v := .int (gi (C_6 9) 4)) (C := RX1) (T := TX1) (N := 5) hx hb htg ig_1 hown hK hP 9 (oh_wg (by decide) (sX_9 hT)) rfl 4 (by decide) (htg _ q_154) (fun _ h9 => h9) rfl dX6_begin_51 ?_
    refine tm_Vv (As := [.int x1, .int x2, .int x3, .int x4, .int (gi (C_6 9) 4)]) (rest := []) ⟨hx, hb, hml, hown, htg⟩ (c_X0_startTrip l D E G _ a C_6 hT x1 x2 x3 x4 (gi (C_6 9) 4) (rg_w u_4.1 (by decide)) (rg_w u_4.2.1 (by decide)) (rg_w u_4.2.2.1 (by decide))) (cwV 5 htg (oh_gV q_908 q_909 q_910 q_67 q_911) rfl rfl rfl pdVX0_startTrip ⟨Nat.le_of_ble_eq_true rfl, Nat.le_of_ble_eq_true rfl⟩) hK hP hD hG hS hA (va_recv hK hP (ci := 0) (q0 := 1) rfl (oh_wg (by decide) (sX_1 hT))) rfl hl.1 rfl (Nat.le_of_ble_eq_true rfl) dX6_begin_54 ⟨Nat.le_of_ble_eq_true rfl, Nat.le_of_ble_eq_true rfl⟩ (fun C_11 H locs hq_12 hP hD hS => ?_)
    obtain ⟨hT, f_13, hq_12⟩ := hq_12
    have hF := fr_tr hF f_13 (by decide) (by decide)
    refine W.widen (k := 0) (n := 0) (Nat.le_refl _) (Nat.le_refl _) ?_
    have t_14 := hT
    refine lv_iconst (v := 1) hx hb dX6_begin_57 (by decide) ?_
    rw [hQ]
    exact W.iret (v := 1) hx hb hr (fun t ht hW => ⟨⟨1, C_11, rfl, ⟨hT, hF, (fun A hA => by unfold spBegin; rw [← (show ga (C 10) ((2 : Int32)).toNatClampNeg = A 5 0 2 from hA.1 2 (by decide)), ← (show ga (C 10) ((3 : Int32)).toNatClampNeg = A 5 0 3 from hA.1 3 (by decide))]; exact (pif_pos u_4.2.2.2).symm)⟩, ⟨by rw [ht]; exact hP, hD⟩⟩, hS.F ht⟩) hS.2.2 dX6_begin_58
  · have u_15 := hq_2.2.2 c_3
    refine lv_aload_n hx hb dX6_begin_12 rfl (lv_at hl 0 rfl) ?_
    refine lv_bipush (v := (-2)) hx hb dX6_begin_13 (by decide) ?_
    refine tm_V (As := [.int (-2)]) (rest := []) ⟨hx, hb, hml, hown, htg⟩ (c_X6_refuse l D E G _ a C hT ((-2) : Int32)) (cwV 1 htg (oh_gV q_296 q_298 q_0 q_66 q_299) rfl rfl rfl pdVX6_refuse ⟨Nat.le_of_ble_eq_true rfl, Nat.le_of_ble_eq_true rfl⟩) hK hP hD hG hS hA (va_recv hK hP (ci := 6) (q0 := 0) rfl (oh_wg (by decide) (sX_0 hT))) rfl hl.1 rfl (Nat.le_of_ble_eq_true rfl) dX6_begin_15 ⟨Nat.le_of_ble_eq_true rfl, Nat.le_of_ble_eq_true rfl⟩ (fun r_16 C_17 H locs hq_18 hP hD hS => ?_)
    obtain ⟨hT, f_19, hq_18⟩ := hq_18
    have hF := fr_tr hF f_19 (by decide) (by decide)
    refine W.widen (k := 0) (n := 0) (Nat.le_refl _) (Nat.le_refl _) ?_
    have t_20 := hT
    rw [hQ]
    exact W.iret (v := r_16) hx hb hr (fun t ht hW => ⟨⟨r_16, C_17, rfl, ⟨hT, hF, (fun A hA => by unfold spBegin; rw [← (show ga (C 10) ((2 : Int32)).toNatClampNeg = A 5 0 2 from hA.1 2 (by decide)), ← (show ga (C 10) ((3 : Int32)).toNatClampNeg = A 5 0 3 from hA.1 3 (by decide))]; exact Eq.trans hq_18 (pif_neg u_15).symm)⟩, ⟨by rw [ht]; exact hP, hD⟩⟩, hS.F ht⟩) hS.2.2 dX6_begin_18

set_option maxHeartbeats 4000000 in
set_option maxRecDepth 100000 in
theorem e_X7_isWaggon (l : Launch) (D : va_G) (E : Nat → ClassId) (G : Nat → Nat) (a : Nat → Nat) (C : Nat → va_E) (n : Nat) (hn : 74 ≤ n) (hT : TyM a E C) (x1 : Int32) (hR : RelW C) : Met l yX7_isWaggon (oh_w yX7_isWaggon cX7_isWaggon 2 (some .boolean)) ({ frames := 1, cells := 0, slots := 0, locals := 25 }) (oh_Pp D E G [.ref (a 0), .int x1] (oh_W n a C)) (vp_Si (fun r => (r = 0 ∨ r = 1) ∧ (r ≠ 0 → rg x1 0 4 ∧ (oh_pos C x1) ∧ (x1.toInt < (gi (C 0) 13).toInt) ∧ ((0 : Int32) ≤ x1 ∧ x1 < gi (C 0) 13)) ∧ (r = 0 → (¬ ((0 : Int32) ≤ x1 ∧ x1 < gi (C 0) 13))))) 0 0 (fun _ => False) := by
  refine Met.ofW (cc := cX7_isWaggon) (maxL := 2) (ret := (some .boolean)) (by decide) rfl ?_
  intro p e s m args below meth c s₁ B hml hv
  obtain ⟨rfl, hP, hK, hG⟩ := hv
  have hx := B.exec
  have hb := B.bytes
  have hr := B.returns
  have hts := atoms_spec (ws := (oh_w yX7_isWaggon cX7_isWaggon 2 (some .boolean))) B.pre
  have htg : ∀ w ∈ oh_t, w.before _ s = true := fun w h => hts w (List.mem_cons_of_mem _ h)
  have hown : s.vm.findClass RX7 = some m.cls := findClass_of_methodNamed B.named
  have hlocks := B.notSynchronized
  have hT0 := hT
  have hS : va_S (fun _ => False) s.heap s.heap [] := va_S.rf
  have hl := lv_entry ([.ref (a 0), .int x1]) (n := 2) (Nat.le_of_ble_eq_true rfl)
  rw [lg_entry_eq]
  generalize (lg_sl ([.ref (a 0), .int x1]) ++ List.replicate (2 - (lg_sl ([.ref (a 0), .int x1])).length) Slot.unset).toArray = ls at hl ⊢
  have hl : lv_has ls 2 [(0, .ref (a 0)), (1, .int x1)] := hl
  refine oh_genQ (fun Q hQ => ?_)
  refine lv_iload_n hx hb dX7_isWaggon_0 rfl (lv_at hl 1 rfl) ?_
  refine lv_i2l (v := Int32.toInt64 x1) hx hb dX7_isWaggon_1 (by rfl) ?_
  refine lv_lconst (v := 0) hx hb dX7_isWaggon_2 (by decide) ?_
  refine lv_aload_n hx hb dX7_isWaggon_3 rfl (lv_at hl 0 rfl) ?_
  refine va_get (D := D) (ci := 7) (v := .int (gi (C 0) 13)) (C := RX7) (T := TX7) (N := 29) hx hb htg ig_7 hown hK hP 0 (oh_wg (Nat.lt_of_lt_of_le (by decide) hn) (sM_0 hT)) rfl 13 (by decide) (htg _ q_986) (fun _ h9 => h9) rfl dX7_isWaggon_4 ?_
  refine lv_iconst (v := 1) hx hb dX7_isWaggon_7 (by decide) ?_
  refine lv_isub hx hb dX7_isWaggon_8 ?_
  refine lv_i2l (v := Int32.toInt64 ((gi (C 0) 13) - 1)) hx hb dX7_isWaggon_9 (by rfl) ?_
  refine tq_S (As := [.long (Int32.toInt64 x1), .long 0, .long (Int32.toInt64 ((gi (C 0) 13) - 1))]) (rest := []) (ws := []) ⟨hx, hb, hml, hown, htg⟩ (c_X7_in l D E G (Int32.toInt64 x1) (0 : Int64) (Int32.toInt64 ((gi (C 0) 13) - 1))) (va_cwS 3 htg (oh_gS q_1066 q_1067 q_73 q_1068) rfl rfl rfl pdX7_in ⟨Nat.le_of_ble_eq_true rfl, Nat.le_of_ble_eq_true rfl⟩) hK va_nil hG hS rfl hl.1 rfl (Nat.le_of_ble_eq_true rfl) dX7_isWaggon_10 ⟨Nat.le_of_ble_eq_true rfl, Nat.le_of_ble_eq_true rfl⟩ (fun r_1 hq_2 => ?_)
  rw [hQ]
  exact W.zret (v := r_1) (ty := .boolean) hx hb hr (oh_nb hq_2.1) (fun t ht hW => ⟨r_1, rfl, ⟨hq_2.1, (fun h9 => ⟨(rg_w (rg_il (rnL_leu (hq_2.2.1 h9).2 (rgL_i (rg_il (rnL_lel (hq_2.2.1 h9).1 (rgL_c (v := 0) (lo := 0) (hi := 0) (by decide)) (rgL_i (rg_any _))))) (rgL_i (rg_sub (lo := (-1)) (hi := 4) (fM_0_13 hT0) (rg_c (v := 1) (lo := 1) (hi := 1) (by decide)) (by decide))))) (by decide)), (oh_posof hR (rg_w (rg_il (rnL_leu (hq_2.2.1 h9).2 (rgL_i (rg_il (rnL_lel (hq_2.2.1 h9).1 (rgL_c (v := 0) (lo := 0) (hi := 0) (by decide)) (rgL_i (rg_any _))))) (rgL_i (rg_sub (lo := (-1)) (hi := 4) (fM_0_13 hT0) (rg_c (v := 1) (lo := 1) (hi := 1) (by decide)) (by decide))))) (by decide)) (fM_0_13 hT) (hq_2.2.1 h9).2), (oh_posl (fM_0_13 hT) (hq_2.2.1 h9).2), ((is_n64 (rg_w (lo := 0) (hi := 24) (fM_0_13 hT0) (by decide))).mp ⟨(hq_2.2.1 h9).1, (hq_2.2.1 h9).2⟩)⟩), (fun h9 => (fun h8 => (hq_2.2.2 h9) ((is_n64 (rg_w (lo := 0) (hi := 24) (fM_0_13 hT0) (by decide))).mpr h8)))⟩, ht⟩) (fun q h => by cases h) dX7_isWaggon_13

theorem pk64 {s m : Int32} : ((0 : Int64) ≤ Int32.toInt64 s ∧ Int32.toInt64 s ≤ Int32.toInt64 m) ↔ (0 ≤ s ∧ s ≤ m) := oh_in64' (x := s) (lo := 0) (hi := m)

set_option maxHeartbeats 4000000 in
set_option maxRecDepth 100000 in
theorem e_X7_isPack (l : Launch) (D : va_G) (E : Nat → ClassId) (G : Nat → Nat) (a : Nat → Nat) (C : Nat → va_E) (n : Nat) (hn : 74 ≤ n) (hT : TyM a E C) (x1 : Int32) (x2 : Int32) (hR : RelW C) : Met l yX7_isPack (oh_w yX7_isPack cX7_isPack 3 (some .boolean)) ({ frames := 2, cells := 0, slots := 0, locals := 46 }) (oh_Pp D E G [.ref (a 0), .int x1, .int x2] (oh_W n a C)) (vp_Si (fun r => (r = 0 ∨ r = 1) ∧ (r ≠ 0 → rg x1 0 4 ∧ (oh_pos C x1) ∧ (x1.toInt < (gi (C 0) 13).toInt) ∧ (okPk (gi (C 0) 13) (gi (C 0) 15) x1 x2)) ∧ (r = 0 → (¬ okPk (gi (C 0) 13) (gi (C 0) 15) x1 x2)))) 0 0 (fun _ => False) := by
  refine Met.ofW (cc := cX7_isPack) (maxL := 3) (ret := (some .boolean)) (by decide) rfl ?_
  intro p e s m args below meth c s₁ B hml hv
  obtain ⟨rfl, hP, hK, hG⟩ := hv
  have hx := B.exec
  have hb := B.bytes
  have hr := B.returns
  have hts := atoms_spec (ws := (oh_w yX7_isPack cX7_isPack 3 (some .boolean))) B.pre
  have htg : ∀ w ∈ oh_t, w.before _ s = true := fun w h => hts w (List.mem_cons_of_mem _ h)
  have hown : s.vm.findClass RX7 = some m.cls := findClass_of_methodNamed B.named
  have hlocks := B.notSynchronized
  have hT0 := hT
  have hS : va_S (fun _ => False) s.heap s.heap [] := va_S.rf
  have hl := lv_entry ([.ref (a 0), .int x1, .int x2]) (n := 3) (Nat.le_of_ble_eq_true rfl)
  rw [lg_entry_eq]
  generalize (lg_sl ([.ref (a 0), .int x1, .int x2]) ++ List.replicate (3 - (lg_sl ([.ref (a 0), .int x1, .int x2])).length) Slot.unset).toArray = ls at hl ⊢
  have hl : lv_has ls 3 [(0, .ref (a 0)), (1, .int x1), (2, .int x2)] := hl
  refine oh_genQ (fun Q hQ => ?_)
  refine lv_aload_n hx hb dX7_isPack_0 rfl (lv_at hl 0 rfl) ?_
  refine lv_iload_n hx hb dX7_isPack_1 rfl (lv_at hl 1 rfl) ?_
  refine tq_V (As := [.int x1]) (rest := []) (ws := (oh_W n a C)) ⟨hx, hb, hml, hown, htg⟩ (e_X7_isWaggon l D E G a C n hn hT x1 hR) (cwV 1 htg (oh_gV q_1278 q_1280 q_48 q_73 q_1281) rfl rfl rfl pdVX7_isWaggon ⟨Nat.le_of_ble_eq_true rfl, Nat.le_of_ble_eq_true rfl⟩) hK hP hG hS (va_recv hK hP (ci := 7) (q0 := 0) rfl (oh_wg (Nat.lt_of_lt_of_le (by decide) hn) (sM_0 hT))) rfl hl.1 rfl (Nat.le_of_ble_eq_true rfl) dX7_isPack_2 ⟨Nat.le_of_ble_eq_true rfl, Nat.le_of_ble_eq_true rfl⟩ (fun r_1 hq_2 => ?_)
  refine lv_if_eq (tgt := 30) hx hb dX7_isPack_5 (by decide) (fun (c_3 : r_1 = 0) => ?_) (fun (c_3 : ¬ (r_1 = 0)) => ?_)
  · have u_4 := hq_2.2.2 c_3
    refine lv_iconst (v := 0) hx hb dX7_isPack_30 (by decide) ?_
    rw [hQ]
    exact W.zret (v := 0) (ty := .boolean) hx hb hr (by decide) (fun t ht hW => ⟨0, rfl, ⟨(Or.inl rfl), (fun h9 => absurd rfl h9), (fun _ => (fun h8 => u_4 h8.1))⟩, ht⟩) (fun q h => by cases h) dX7_isPack_31
  · have u_5 := hq_2.2.1 c_3
    refine lv_iload_n hx hb dX7_isPack_8 rfl (lv_at hl 2 rfl) ?_
    refine lv_i2l (v := Int32.toInt64 x2) hx hb dX7_isPack_9 (by rfl) ?_
    refine lv_lconst (v := 0) hx hb dX7_isPack_10 (by decide) ?_
    refine lv_iconst (v := 1) hx hb dX7_isPack_11 (by decide) ?_
    refine lv_aload_n hx hb dX7_isPack_12 rfl (lv_at hl 0 rfl) ?_
    refine va_get (D := D) (ci := 7) (v := .int (gi (C 0) 15)) (C := RX7) (T := TX7) (N := 29) hx hb htg ig_7 hown hK hP 0 (oh_wg (Nat.lt_of_lt_of_le (by decide) hn) (sM_0 hT)) rfl 15 (by decide) (htg _ q_988) (fun _ h9 => h9) rfl dX7_isPack_13 ?_
    refine lv_ishl hx hb dX7_isPack_16 ?_
    refine lv_iconst (v := 1) hx hb dX7_isPack_17 (by decide) ?_
    refine lv_isub hx hb dX7_isPack_18 ?_
    refine lv_i2l (v := Int32.toInt64 (((1 : Int32) <<< ((gi (C 0) 15) &&& 31)) - 1)) hx hb dX7_isPack_19 (by rfl) ?_
    refine tq_S (As := [.long (Int32.toInt64 x2), .long 0, .long (Int32.toInt64 (((1 : Int32) <<< ((gi (C 0) 15) &&& 31)) - 1))]) (rest := []) (ws := []) ⟨hx, hb, hml, hown, htg⟩ (c_X7_in l D E G (Int32.toInt64 x2) (0 : Int64) (Int32.toInt64 (((1 : Int32) <<< ((gi (C 0) 15) &&& 31)) - 1))) (va_cwS 3 htg (oh_gS q_1066 q_1067 q_73 q_1068) rfl rfl rfl pdX7_in ⟨Nat.le_of_ble_eq_true rfl, Nat.le_of_ble_eq_true rfl⟩) hK va_nil hG hS rfl hl.1 rfl (Nat.le_of_ble_eq_true rfl) dX7_isPack_20 ⟨Nat.le_of_ble_eq_true rfl, Nat.le_of_ble_eq_true rfl⟩ (fun r_6 hq_7 => ?_)
    refine lv_if_eq (tgt := 30) hx hb dX7_isPack_23 (by decide) (fun (c_8 : r_6 = 0) => ?_) (fun (c_8 : ¬ (r_6 = 0)) => ?_)
    · have u_9 := hq_7.2.2 c_8
      refine lv_iconst (v := 0) hx hb dX7_isPack_30 (by decide) ?_
      rw [hQ]
      exact W.zret (v := 0) (ty := .boolean) hx hb hr (by decide) (fun t ht hW => ⟨0, rfl, ⟨(Or.inl rfl), (fun h9 => absurd rfl h9), (fun _ => (fun h8 => u_9 (pk64.mpr h8.2)))⟩, ht⟩) (fun q h => by cases h) dX7_isPack_31
    · have u_10 := hq_7.2.1 c_8
      refine lv_iconst (v := 1) hx hb dX7_isPack_26 (by decide) ?_
      refine lv_goto (tgt := 31) hx hb dX7_isPack_27 (by decide) ?_
      rw [hQ]
      exact W.zret (v := 1) (ty := .boolean) hx hb hr (by decide) (fun t ht hW => ⟨1, rfl, ⟨(Or.inr rfl), (fun _ => ⟨(rg_w u_5.1 (by decide)), u_5.2.1, u_5.2.2.1, ⟨u_5.2.2.2, pk64.mp ⟨u_10.1, u_10.2⟩⟩⟩), (fun h9 => absurd h9 (by decide))⟩, ht⟩) (fun q h => by cases h) dX7_isPack_31

set_option maxHeartbeats 4000000 in
set_option maxRecDepth 100000 in
theorem e_X7_roadOf (l : Launch) (D : va_G) (E : Nat → ClassId) (G : Nat → Nat) (sz : Nat) (a : Nat → Nat) (C : Nat → va_E) (n : Nat) (hn : 74 ≤ n) (hT : TyM a E C) (x1 : Int32) (x2 : Int32) (hR : RelM C) : Met l yX7_roadOf (oh_w yX7_roadOf cX7_roadOf 3 (some .int)) ({ frames := 2, cells := 0, slots := 0, locals := 46 }) (oh_Pm D E G [.ref (a 0), .int x1, .int x2] (oh_W n a C) sz) (va_Qi (fun r (u : Nat → va_E) => TyM a E u ∧ fr [(8, 9)] [] C u ∧ (RelM u) ∧ (∀ A : LA, absM C A → r = spRoadOf A x1 x2)) (oh_B D (va_A (oh_W n a C) sz) (fun u => oh_W n a u)) (va_A (oh_W n a C) sz)) 0 0 (va_A (oh_W n a C) sz) := by
  refine Met.ofW (cc := cX7_roadOf) (maxL := 3) (ret := (some .int)) (by decide) rfl ?_
  intro p e s m args below meth c s₁ B hml hv
  obtain ⟨rfl, hsz, hP, hK, hD0, hG⟩ := hv
  have hx := B.exec
  have hb := B.bytes
  have hr := B.returns
  have hts := atoms_spec (ws := (oh_w yX7_roadOf cX7_roadOf 3 (some .int))) B.pre
  have htg : ∀ w ∈ oh_t, w.before _ s = true := fun w h => hts w (List.mem_cons_of_mem _ h)
  have hown : s.vm.findClass RX7 = some m.cls := findClass_of_methodNamed B.named
  have hlocks := B.notSynchronized
  have hT0 := hT
  subst hsz
  have hD := hD0.self (sz := s.heap.size)
  generalize hAe : va_A (oh_W n a C) s.heap.size = A at hD hG ⊢
  have hA : ∀ q : Nat, s.heap.size ≤ q → A q := fun q h => by rw [← hAe]; exact Or.inr h
  have hS : va_S A s.heap s.heap [] := va_S.rf
  have hF : fr [(8, 9)] [] C C := fr_rf
  have hl := lv_entry ([.ref (a 0), .int x1, .int x2]) (n := 3) (Nat.le_of_ble_eq_true rfl)
  rw [lg_entry_eq]
  generalize (lg_sl ([.ref (a 0), .int x1, .int x2]) ++ List.replicate (3 - (lg_sl ([.ref (a 0), .int x1, .int x2])).length) Slot.unset).toArray = ls at hl ⊢
  have hl : lv_has ls 3 [(0, .ref (a 0)), (1, .int x1), (2, .int x2)] := hl
  refine oh_genQ (fun Q hQ => ?_)
  refine lv_aload_n hx hb dX7_roadOf_0 rfl (lv_at hl 0 rfl) ?_
  refine lv_iload_n hx hb dX7_roadOf_1 rfl (lv_at hl 1 rfl) ?_
  refine tq_V (As := [.int x1]) (rest := []) (ws := (oh_W n a C)) ⟨hx, hb, hml, hown, htg⟩ (e_X7_isRoad l D E G a C n hn hT x1) (cwV 1 htg (oh_gV q_1145 q_1147 q_36 q_73 q_1148) rfl rfl rfl pdVX7_isRoad ⟨Nat.le_of_ble_eq_true rfl, Nat.le_of_ble_eq_true rfl⟩) hK hP hG hS (va_recv hK hP (ci := 7) (q0 := 0) rfl (oh_wg (Nat.lt_of_lt_of_le (by decide) hn) (sM_0 hT))) rfl hl.1 rfl (Nat.le_of_ble_eq_true rfl) dX7_roadOf_2 ⟨Nat.le_of_ble_eq_true rfl, Nat.le_of_ble_eq_true rfl⟩ (fun r_1 hq_2 => ?_)
  refine lv_if_eq (tgt := 31) hx hb dX7_roadOf_5 (by decide) (fun (c_3 : r_1 = 0) => ?_) (fun (c_3 : ¬ (r_1 = 0)) => ?_)
  · have u_4 := hq_2.2.2 c_3
    refine lv_aload_n hx hb dX7_roadOf_31 rfl (lv_at hl 0 rfl) ?_
    refine lv_bipush (v := (-2)) hx hb dX7_roadOf_32 (by decide) ?_
    refine tm_V (As := [.int (-2)]) (rest := []) ⟨hx, hb, hml, hown, htg⟩ (c_X7_refuse l D E G _ a C n hn hT ((-2) : Int32) (rg_w (rg_c (v := (-2)) (lo := (-2)) (hi := (-2)) (by decide)) (by decide))) (cwV 1 htg (oh_gV q_1071 q_1073 q_29 q_73 q_1074) rfl rfl rfl pdVX7_refuse ⟨Nat.le_of_ble_eq_true rfl, Nat.le_of_ble_eq_true rfl⟩) hK hP hD hG hS hA (va_recv hK hP (ci := 7) (q0 := 0) rfl (oh_wg (Nat.lt_of_lt_of_le (by decide) hn) (sM_0 hT))) rfl hl.1 rfl (Nat.le_of_ble_eq_true rfl) dX7_roadOf_34 ⟨Nat.le_of_ble_eq_true rfl, Nat.le_of_ble_eq_true rfl⟩ (fun r_5 C_6 H locs hq_7 hP hD hS => ?_)
    obtain ⟨hT, f_8, hq_7⟩ := hq_7
    have hF := fr_tr hF f_8 (by decide) (by decide)
    refine W.widen (k := 0) (n := 0) (Nat.le_refl _) (Nat.le_refl _) ?_
    have t_9 := hT
    rw [hQ]
    exact W.iret (v := r_5) hx hb hr (fun t ht hW => ⟨⟨r_5, C_6, rfl, ⟨hT, hF, ⟨⟨hR.1.fr hF (by decide), hR.2.fr hF (by decide)⟩, (fun A hA => Eq.trans hq_7 (pif_neg (fun h8 => by have h7 := h8.1; rw [← (show gi (C 0) 9 = A 5 0 0 from hA.1 0 (by decide))] at h7; exact u_4 h7)).symm)⟩⟩, ⟨by rw [ht]; exact hP, hD⟩⟩, hS.F ht⟩) hS.2.2 dX7_roadOf_37
  · have u_10 := hq_2.2.1 c_3
    refine lv_iload_n hx hb dX7_roadOf_8 rfl (lv_at hl 2 rfl) ?_
    refine lv_i2l (v := Int32.toInt64 x2) hx hb dX7_roadOf_9 (by rfl) ?_
    refine lv_lconst (v := 0) hx hb dX7_roadOf_10 (by decide) ?_
    refine lv_ldc2 (v := 6) hx hb hown (htg _ q_1265) dX7_roadOf_11 ?_
    refine tq_S (As := [.long (Int32.toInt64 x2), .long 0, .long 6]) (rest := []) (ws := []) ⟨hx, hb, hml, hown, htg⟩ (c_X7_in l D E G (Int32.toInt64 x2) (0 : Int64) (6 : Int64)) (va_cwS 3 htg (oh_gS q_1066 q_1067 q_73 q_1068) rfl rfl rfl pdX7_in ⟨Nat.le_of_ble_eq_true rfl, Nat.le_of_ble_eq_true rfl⟩) hK va_nil hG hS rfl hl.1 rfl (Nat.le_of_ble_eq_true rfl) dX7_roadOf_14 ⟨Nat.le_of_ble_eq_true rfl, Nat.le_of_ble_eq_true rfl⟩ (fun r_11 hq_12 => ?_)
    refine lv_if_eq (tgt := 31) hx hb dX7_roadOf_17 (by decide) (fun (c_13 : r_11 = 0) => ?_) (fun (c_13 : ¬ (r_11 = 0)) => ?_)
    · have u_14 := hq_12.2.2 c_13
      refine lv_aload_n hx hb dX7_roadOf_31 rfl (lv_at hl 0 rfl) ?_
      refine lv_bipush (v := (-2)) hx hb dX7_roadOf_32 (by decide) ?_
      refine tm_V (As := [.int (-2)]) (rest := []) ⟨hx, hb, hml, hown, htg⟩ (c_X7_refuse l D E G _ a C n hn hT ((-2) : Int32) (rg_w (rg_c (v := (-2)) (lo := (-2)) (hi := (-2)) (by decide)) (by decide))) (cwV 1 htg (oh_gV q_1071 q_1073 q_29 q_73 q_1074) rfl rfl rfl pdVX7_refuse ⟨Nat.le_of_ble_eq_true rfl, Nat.le_of_ble_eq_true rfl⟩) hK hP hD hG hS hA (va_recv hK hP (ci := 7) (q0 := 0) rfl (oh_wg (Nat.lt_of_lt_of_le (by decide) hn) (sM_0 hT))) rfl hl.1 rfl (Nat.le_of_ble_eq_true rfl) dX7_roadOf_34 ⟨Nat.le_of_ble_eq_true rfl, Nat.le_of_ble_eq_true rfl⟩ (fun r_15 C_16 H locs hq_17 hP hD hS => ?_)
      obtain ⟨hT, f_18, hq_17⟩ := hq_17
      have hF := fr_tr hF f_18 (by decide) (by decide)
      refine W.widen (k := 0) (n := 0) (Nat.le_refl _) (Nat.le_refl _) ?_
      have t_19 := hT
      rw [hQ]
      exact W.iret (v := r_15) hx hb hr (fun t ht hW => ⟨⟨r_15, C_16, rfl, ⟨hT, hF, ⟨⟨hR.1.fr hF (by decide), hR.2.fr hF (by decide)⟩, (fun A hA => Eq.trans hq_17 (pif_neg (fun h8 => (oh_in64 (l' := 0) (k' := 6) rfl rfl u_14) h8.2)).symm)⟩⟩, ⟨by rw [ht]; exact hP, hD⟩⟩, hS.F ht⟩) hS.2.2 dX7_roadOf_37
    · have u_20 := hq_12.2.1 c_13
      refine lv_aload_n hx hb dX7_roadOf_20 rfl (lv_at hl 0 rfl) ?_
      refine va_get (D := D) (ci := 7) (v := .ref (a 9)) (C := RX7) (T := TX7) (N := 29) hx hb htg ig_7 hown hK hP 0 (oh_wg (Nat.lt_of_lt_of_le (by decide) hn) (sM_0 hT)) rfl 10 (by decide) (htg _ q_983) (fun _ h9 => h9) rfl dX7_roadOf_21 ?_
      refine lv_iload_n hx hb dX7_roadOf_24 rfl (lv_at hl 1 rfl) ?_
      have n_21 : vp_in x1 24 := (rg_in u_10.1 (by decide))
      have b_22 : (x1).toNatClampNeg < 24 := vp_lt n_21
      refine th_aald hx hb hK hP 9 2 (Nat.lt_of_lt_of_le (by decide) hn) (sM_9 hT) rfl n_21 dX7_roadOf_25 ?_
      refine lv_iload_n hx hb dX7_roadOf_26 rfl (lv_at hl 2 rfl) ?_
      have n_23 : vp_in x2 7 := (rg_in (rg_il (rgL_i (rg_il (rnL_leu u_20.2 (rnL_lel u_20.1 (rgL_c (v := 0) (lo := 0) (hi := 0) (by decide)) (rgL_i (rg_any _))) (rgL_c (v := 6) (lo := 6) (hi := 6) (by decide)))))) (by decide))
      refine th_iald hx hb hK hP (24 + (x1).toNatClampNeg) (lt_blk b_22 hn (by decide)) (hT.broad b_22).1 n_23 dX7_roadOf_27 ?_
      refine lv_goto (tgt := 37) hx hb dX7_roadOf_28 (by decide) ?_
      rw [hQ]
      exact W.iret (v := ga (C (24 + (x1).toNatClampNeg)) (x2).toNatClampNeg) hx hb hr (fun t ht hW => ⟨⟨ga (C (24 + (x1).toNatClampNeg)) (x2).toNatClampNeg, C, rfl, ⟨hT, hF, ⟨hR, (fun A hA => Eq.trans (colM_v (t := 0) hA (by decide) (rg_w (lo := 0) (hi := 23) u_10.1 (by decide)) (show x2.toNatClampNeg < 7 from vp_lt (rg_in (rg_w (lo := 0) (hi := 6) (rg_il (rgL_i (rg_il (rnL_leu u_20.2 (rnL_lel u_20.1 (rgL_c (v := 0) (lo := 0) (hi := 0) (by decide)) (rgL_i (rg_any _))) (rgL_c (v := 6) (lo := 6) (hi := 6) (by decide)))))) (by decide)) (by decide))) (show 0 ≤ x1 ∧ x1 < A 5 0 0 by rw [← (show gi (C 0) 9 = A 5 0 0 from hA.1 0 (by decide))]; exact u_10.2).2 (by unfold vis; omega)) (pif_pos ⟨(show 0 ≤ x1 ∧ x1 < A 5 0 0 by rw [← (show gi (C 0) 9 = A 5 0 0 from hA.1 0 (by decide))]; exact u_10.2), (oh_rgI (p := 0) (q := 6) (rg_w (lo := 0) (hi := 6) (rg_il (rgL_i (rg_il (rnL_leu u_20.2 (rnL_lel u_20.1 (rgL_c (v := 0) (lo := 0) (hi := 0) (by decide)) (rgL_i (rg_any _))) (rgL_c (v := 6) (lo := 6) (hi := 6) (by decide)))))) (by decide)))⟩).symm)⟩⟩, ⟨by rw [ht]; exact hP, hD⟩⟩, hS.F ht⟩) hS.2.2 dX7_roadOf_37

set_option maxHeartbeats 4000000 in
set_option maxRecDepth 100000 in
theorem e_X7_lengthOf (l : Launch) (D : va_G) (E : Nat → ClassId) (G : Nat → Nat) (a : Nat → Nat) (C : Nat → va_E) (n : Nat) (hn : 74 ≤ n) (hT : TyM a E C) (x1 : Int32) (hx1 : rg x1 0 4) : Met l yX7_lengthOf (oh_w yX7_lengthOf cX7_lengthOf 2 (some .int)) ({ frames := 0, cells := 0, slots := 0, locals := 0 }) (oh_Pp D E G [.ref (a 0), .int x1] (oh_W n a C)) (vp_Si (fun r => r = ((ga (C (64 + (x1).toNatClampNeg)) ((1 : Int32)).toNatClampNeg) * ((ga (C (64 + (x1).toNatClampNeg)) ((0 : Int32)).toNatClampNeg) - 1)) + 4)) 0 0 (fun _ => False) := by
  refine Met.ofW (cc := cX7_lengthOf) (maxL := 2) (ret := (some .int)) (by decide) rfl ?_
  intro p e s m args below meth c s₁ B hml hv
  obtain ⟨rfl, hP, hK, hG⟩ := hv
  have hx := B.exec
  have hb := B.bytes
  have hr := B.returns
  have hts := atoms_spec (ws := (oh_w yX7_lengthOf cX7_lengthOf 2 (some .int))) B.pre
  have htg : ∀ w ∈ oh_t, w.before _ s = true := fun w h => hts w (List.mem_cons_of_mem _ h)
  have hown : s.vm.findClass RX7 = some m.cls := findClass_of_methodNamed B.named
  have hlocks := B.notSynchronized
  have hT0 := hT
  have hS : va_S (fun _ => False) s.heap s.heap [] := va_S.rf
  have hl := lv_entry ([.ref (a 0), .int x1]) (n := 2) (Nat.le_of_ble_eq_true rfl)
  rw [lg_entry_eq]
  generalize (lg_sl ([.ref (a 0), .int x1]) ++ List.replicate (2 - (lg_sl ([.ref (a 0), .int x1])).length) Slot.unset).toArray = ls at hl ⊢
  have hl : lv_has ls 2 [(0, .ref (a 0)), (1, .int x1)] := hl
  refine oh_genQ (fun Q hQ => ?_)
  refine lv_aload_n hx hb dX7_lengthOf_0 rfl (lv_at hl 0 rfl) ?_
  refine va_get (D := D) (ci := 7) (v := .ref (a 11)) (C := RX7) (T := TX7) (N := 29) hx hb htg ig_7 hown hK hP 0 (oh_wg (Nat.lt_of_lt_of_le (by decide) hn) (sM_0 hT)) rfl 14 (by decide) (htg _ q_987) (fun _ h9 => h9) rfl dX7_lengthOf_1 ?_
  refine lv_iload_n hx hb dX7_lengthOf_4 rfl (lv_at hl 1 rfl) ?_
  have n_1 : vp_in x1 5 := (rg_in hx1 (by decide))
  have b_2 : (x1).toNatClampNeg < 5 := vp_lt n_1
  refine th_aald hx hb hK hP 11 2 (Nat.lt_of_lt_of_le (by decide) hn) (sM_11 hT) rfl n_1 dX7_lengthOf_5 ?_
  refine lv_iconst (v := 1) hx hb dX7_lengthOf_6 (by decide) ?_
  refine th_iald hx hb hK hP (64 + (x1).toNatClampNeg) (lt_blk b_2 hn (by decide)) (hT.bwaggon b_2).1 (rg_in (rg_c (v := 1) (lo := 1) (hi := 1) (by decide)) (by decide)) dX7_lengthOf_7 ?_
  refine lv_aload_n hx hb dX7_lengthOf_8 rfl (lv_at hl 0 rfl) ?_
  refine va_get (D := D) (ci := 7) (v := .ref (a 11)) (C := RX7) (T := TX7) (N := 29) hx hb htg ig_7 hown hK hP 0 (oh_wg (Nat.lt_of_lt_of_le (by decide) hn) (sM_0 hT)) rfl 14 (by decide) (htg _ q_987) (fun _ h9 => h9) rfl dX7_lengthOf_9 ?_
  refine lv_iload_n hx hb dX7_lengthOf_12 rfl (lv_at hl 1 rfl) ?_
  have n_3 : vp_in x1 5 := (rg_in hx1 (by decide))
  have b_4 : (x1).toNatClampNeg < 5 := vp_lt n_3
  refine th_aald hx hb hK hP 11 2 (Nat.lt_of_lt_of_le (by decide) hn) (sM_11 hT) rfl n_3 dX7_lengthOf_13 ?_
  refine lv_iconst (v := 0) hx hb dX7_lengthOf_14 (by decide) ?_
  refine th_iald hx hb hK hP (64 + (x1).toNatClampNeg) (lt_blk b_4 hn (by decide)) (hT.bwaggon b_4).1 (rg_in (rg_c (v := 0) (lo := 0) (hi := 0) (by decide)) (by decide)) dX7_lengthOf_15 ?_
  refine lv_iconst (v := 1) hx hb dX7_lengthOf_16 (by decide) ?_
  refine lv_isub hx hb dX7_lengthOf_17 ?_
  refine lv_imul hx hb dX7_lengthOf_18 ?_
  refine lv_iconst (v := 4) hx hb dX7_lengthOf_19 (by decide) ?_
  refine lv_iadd hx hb dX7_lengthOf_20 ?_
  rw [hQ]
  exact W.iret (v := ((ga (C (64 + (x1).toNatClampNeg)) ((1 : Int32)).toNatClampNeg) * ((ga (C (64 + (x1).toNatClampNeg)) ((0 : Int32)).toNatClampNeg) - 1)) + 4) hx hb hr (fun t ht hW => ⟨((ga (C (64 + (x1).toNatClampNeg)) ((1 : Int32)).toNatClampNeg) * ((ga (C (64 + (x1).toNatClampNeg)) ((0 : Int32)).toNatClampNeg) - 1)) + 4, rfl, rfl, ht⟩) (fun q h => by cases h) dX7_lengthOf_21

set_option maxHeartbeats 4000000 in
set_option maxRecDepth 100000 in
theorem e_X7_length (l : Launch) (D : va_G) (E : Nat → ClassId) (G : Nat → Nat) (sz : Nat) (a : Nat → Nat) (C : Nat → va_E) (n : Nat) (hn : 74 ≤ n) (hT : TyM a E C) (x1 : Int32) (hR : RelM C) : Met l yX7_length (oh_w yX7_length cX7_length 2 (some .int)) ({ frames := 2, cells := 0, slots := 0, locals := 46 }) (oh_Pm D E G [.ref (a 0), .int x1] (oh_W n a C) sz) (va_Qi (fun r (u : Nat → va_E) => TyM a E u ∧ fr [(8, 9)] [] C u ∧ (RelM u) ∧ (∀ A : LA, absM C A → r = spLen A x1)) (oh_B D (va_A (oh_W n a C) sz) (fun u => oh_W n a u)) (va_A (oh_W n a C) sz)) 0 0 (va_A (oh_W n a C) sz) := by
  refine Met.ofW (cc := cX7_length) (maxL := 2) (ret := (some .int)) (by decide) rfl ?_
  intro p e s m args below meth c s₁ B hml hv
  obtain ⟨rfl, hsz, hP, hK, hD0, hG⟩ := hv
  have hx := B.exec
  have hb := B.bytes
  have hr := B.returns
  have hts := atoms_spec (ws := (oh_w yX7_length cX7_length 2 (some .int))) B.pre
  have htg : ∀ w ∈ oh_t, w.before _ s = true := fun w h => hts w (List.mem_cons_of_mem _ h)
  have hown : s.vm.findClass RX7 = some m.cls := findClass_of_methodNamed B.named
  have hlocks := B.notSynchronized
  have hT0 := hT
  subst hsz
  have hD := hD0.self (sz := s.heap.size)
  generalize hAe : va_A (oh_W n a C) s.heap.size = A at hD hG ⊢
  have hA : ∀ q : Nat, s.heap.size ≤ q → A q := fun q h => by rw [← hAe]; exact Or.inr h
  have hS : va_S A s.heap s.heap [] := va_S.rf
  have hF : fr [(8, 9)] [] C C := fr_rf
  have hl := lv_entry ([.ref (a 0), .int x1]) (n := 2) (Nat.le_of_ble_eq_true rfl)
  rw [lg_entry_eq]
  generalize (lg_sl ([.ref (a 0), .int x1]) ++ List.replicate (2 - (lg_sl ([.ref (a 0), .int x1])).length) Slot.unset).toArray = ls at hl ⊢
  have hl : lv_has ls 2 [(0, .ref (a 0)), (1, .int x1)] := hl
  refine oh_genQ (fun Q hQ => ?_)
  refine lv_aload_n hx hb dX7_length_0 rfl (lv_at hl 0 rfl) ?_
  refine lv_iload_n hx hb dX7_length_1 rfl (lv_at hl 1 rfl) ?_
  refine tq_V (As := [.int x1]) (rest := []) (ws := (oh_W n a C)) ⟨hx, hb, hml, hown, htg⟩ (e_X7_isWaggon l D E G a C n hn hT x1 hR.1) (cwV 1 htg (oh_gV q_1278 q_1280 q_48 q_73 q_1281) rfl rfl rfl pdVX7_isWaggon ⟨Nat.le_of_ble_eq_true rfl, Nat.le_of_ble_eq_true rfl⟩) hK hP hG hS (va_recv hK hP (ci := 7) (q0 := 0) rfl (oh_wg (Nat.lt_of_lt_of_le (by decide) hn) (sM_0 hT))) rfl hl.1 rfl (Nat.le_of_ble_eq_true rfl) dX7_length_2 ⟨Nat.le_of_ble_eq_true rfl, Nat.le_of_ble_eq_true rfl⟩ (fun r_1 hq_2 => ?_)
  refine lv_if_eq (tgt := 16) hx hb dX7_length_5 (by decide) (fun (c_3 : r_1 = 0) => ?_) (fun (c_3 : ¬ (r_1 = 0)) => ?_)
  · have u_4 := hq_2.2.2 c_3
    refine lv_aload_n hx hb dX7_length_16 rfl (lv_at hl 0 rfl) ?_
    refine lv_bipush (v := (-2)) hx hb dX7_length_17 (by decide) ?_
    refine tm_V (As := [.int (-2)]) (rest := []) ⟨hx, hb, hml, hown, htg⟩ (c_X7_refuse l D E G _ a C n hn hT ((-2) : Int32) (rg_w (rg_c (v := (-2)) (lo := (-2)) (hi := (-2)) (by decide)) (by decide))) (cwV 1 htg (oh_gV q_1071 q_1073 q_29 q_73 q_1074) rfl rfl rfl pdVX7_refuse ⟨Nat.le_of_ble_eq_true rfl, Nat.le_of_ble_eq_true rfl⟩) hK hP hD hG hS hA (va_recv hK hP (ci := 7) (q0 := 0) rfl (oh_wg (Nat.lt_of_lt_of_le (by decide) hn) (sM_0 hT))) rfl hl.1 rfl (Nat.le_of_ble_eq_true rfl) dX7_length_19 ⟨Nat.le_of_ble_eq_true rfl, Nat.le_of_ble_eq_true rfl⟩ (fun r_5 C_6 H locs hq_7 hP hD hS => ?_)
    obtain ⟨hT, f_8, hq_7⟩ := hq_7
    have hF := fr_tr hF f_8 (by decide) (by decide)
    refine W.widen (k := 0) (n := 0) (Nat.le_refl _) (Nat.le_refl _) ?_
    have t_9 := hT
    rw [hQ]
    exact W.iret (v := r_5) hx hb hr (fun t ht hW => ⟨⟨r_5, C_6, rfl, ⟨hT, hF, ⟨⟨hR.1.fr hF (by decide), hR.2.fr hF (by decide)⟩, (fun A hA => Eq.trans hq_7 (pif_neg (by rw [← (show gi (C 0) 13 = A 5 0 2 from hA.1 2 (by decide))]; exact u_4)).symm)⟩⟩, ⟨by rw [ht]; exact hP, hD⟩⟩, hS.F ht⟩) hS.2.2 dX7_length_22
  · have u_10 := hq_2.2.1 c_3
    refine lv_aload_n hx hb dX7_length_8 rfl (lv_at hl 0 rfl) ?_
    refine lv_iload_n hx hb dX7_length_9 rfl (lv_at hl 1 rfl) ?_
    refine tq_V (As := [.int x1]) (rest := []) (ws := (oh_W n a C)) ⟨hx, hb, hml, hown, htg⟩ (e_X7_lengthOf l D E G a C n hn hT x1 (rg_w u_10.1 (by decide))) (cwV 1 htg (oh_gV q_1282 q_1284 q_49 q_73 q_1285) rfl rfl rfl pdVX7_lengthOf ⟨Nat.le_of_ble_eq_true rfl, Nat.le_of_ble_eq_true rfl⟩) hK hP hG hS (va_recv hK hP (ci := 7) (q0 := 0) rfl (oh_wg (Nat.lt_of_lt_of_le (by decide) hn) (sM_0 hT))) rfl hl.1 rfl (Nat.le_of_ble_eq_true rfl) dX7_length_10 ⟨Nat.le_of_ble_eq_true rfl, Nat.le_of_ble_eq_true rfl⟩ (fun r_11 hq_12 => ?_)
    subst hq_12
    refine lv_goto (tgt := 22) hx hb dX7_length_13 (by decide) ?_
    rw [hQ]
    exact W.iret (v := ((ga (C (64 + (x1).toNatClampNeg)) ((1 : Int32)).toNatClampNeg) * ((ga (C (64 + (x1).toNatClampNeg)) ((0 : Int32)).toNatClampNeg) - 1)) + 4) hx hb hr (fun t ht hW => ⟨⟨((ga (C (64 + (x1).toNatClampNeg)) ((1 : Int32)).toNatClampNeg) * ((ga (C (64 + (x1).toNatClampNeg)) ((0 : Int32)).toNatClampNeg) - 1)) + 4, C, rfl, ⟨hT, hF, ⟨hR, (fun A hA => Eq.trans (by rw [(show ga (C (64 + (x1).toNatClampNeg)) ((1 : Int32)).toNatClampNeg = A 2 x1.toNatClampNeg 1 from colM_v (t := 2) hA (by decide) (rg_w (lo := 0) (hi := 4) u_10.1 (by decide)) (by decide) (show 0 ≤ x1 ∧ x1 < A 5 0 2 by rw [← (show gi (C 0) 13 = A 5 0 2 from hA.1 2 (by decide))]; exact u_10.2.2.2).2 (by unfold vis; omega)), (show ga (C (64 + (x1).toNatClampNeg)) ((0 : Int32)).toNatClampNeg = A 2 x1.toNatClampNeg 0 from colM_v (t := 2) hA (by decide) (rg_w (lo := 0) (hi := 4) u_10.1 (by decide)) (by decide) (show 0 ≤ x1 ∧ x1 < A 5 0 2 by rw [← (show gi (C 0) 13 = A 5 0 2 from hA.1 2 (by decide))]; exact u_10.2.2.2).2 (by unfold vis; omega))]) (pif_pos (show 0 ≤ x1 ∧ x1 < A 5 0 2 by rw [← (show gi (C 0) 13 = A 5 0 2 from hA.1 2 (by decide))]; exact u_10.2.2.2)).symm)⟩⟩, ⟨by rw [ht]; exact hP, hD⟩⟩, hS.F ht⟩) hS.2.2 dX7_length_22

set_option maxHeartbeats 4000000 in
set_option maxRecDepth 100000 in
theorem e_X7_begin (l : Launch) (D : va_G) (E : Nat → ClassId) (G : Nat → Nat) (sz : Nat) (a : Nat → Nat) (C : Nat → va_E) (n : Nat) (hn : 74 ≤ n) (hT : TyM a E C) (x1 : Int32) (x2 : Int32) (x3 : Int32) (x4 : Int32) (hR : RelM C) : Met l yX7_begin (oh_w yX7_begin cX7_begin 5 (some .int)) ({ frames := 3, cells := 0, slots := 0, locals := 68 }) (oh_Pm D E G [.ref (a 0), .int x1, .int x2, .int x3, .int x4] (oh_W n a C) sz) (va_Qi (fun r (u : Nat → va_E) => TyM a E u ∧ fr [(8, 9), (14, 15)] [19] C u ∧ (RelM u) ∧ (∀ A : LA, absM C A → r = spBegin A x1 x2 x3 x4)) (oh_B D (va_A (oh_W n a C) sz) (fun u => oh_W n a u)) (va_A (oh_W n a C) sz)) 0 0 (va_A (oh_W n a C) sz) := by
  refine Met.ofW (cc := cX7_begin) (maxL := 5) (ret := (some .int)) (by decide) rfl ?_
  intro p e s m args below meth c s₁ B hml hv
  obtain ⟨rfl, hsz, hP, hK, hD0, hG⟩ := hv
  have hx := B.exec
  have hb := B.bytes
  have hr := B.returns
  have hts := atoms_spec (ws := (oh_w yX7_begin cX7_begin 5 (some .int))) B.pre
  have htg : ∀ w ∈ oh_t, w.before _ s = true := fun w h => hts w (List.mem_cons_of_mem _ h)
  have hown : s.vm.findClass RX7 = some m.cls := findClass_of_methodNamed B.named
  have hlocks := B.notSynchronized
  have hT0 := hT
  subst hsz
  have hD := hD0.self (sz := s.heap.size)
  generalize hAe : va_A (oh_W n a C) s.heap.size = A at hD hG ⊢
  have hA : ∀ q : Nat, s.heap.size ≤ q → A q := fun q h => by rw [← hAe]; exact Or.inr h
  have hS : va_S A s.heap s.heap [] := va_S.rf
  have hF : fr [(8, 9), (14, 15)] [19] C C := fr_rf
  have hl := lv_entry ([.ref (a 0), .int x1, .int x2, .int x3, .int x4]) (n := 5) (Nat.le_of_ble_eq_true rfl)
  rw [lg_entry_eq]
  generalize (lg_sl ([.ref (a 0), .int x1, .int x2, .int x3, .int x4]) ++ List.replicate (5 - (lg_sl ([.ref (a 0), .int x1, .int x2, .int x3, .int x4])).length) Slot.unset).toArray = ls at hl ⊢
  have hl : lv_has ls 5 [(0, .ref (a 0)), (1, .int x1), (2, .int x2), (3, .int x3), (4, .int x4)] := hl
  refine oh_genQ (fun Q hQ => ?_)
  refine lv_aload_n hx hb dX7_begin_0 rfl (lv_at hl 0 rfl) ?_
  refine lv_iload_n hx hb dX7_begin_1 rfl (lv_at hl 1 rfl) ?_
  refine lv_iload_n hx hb dX7_begin_2 rfl (lv_at hl 2 rfl) ?_
  refine tq_V (As := [.int x1, .int x2]) (rest := []) (ws := (oh_W n a C)) ⟨hx, hb, hml, hown, htg⟩ (e_X7_isPack l D E G a C n hn hT x1 x2 hR.1) (cwV 2 htg (oh_gV q_1290 q_1292 q_50 q_73 q_1293) rfl rfl rfl pdVX7_isPack ⟨Nat.le_of_ble_eq_true rfl, Nat.le_of_ble_eq_true rfl⟩) hK hP hG hS (va_recv hK hP (ci := 7) (q0 := 0) rfl (oh_wg (Nat.lt_of_lt_of_le (by decide) hn) (sM_0 hT))) rfl hl.1 rfl (Nat.le_of_ble_eq_true rfl) dX7_begin_3 ⟨Nat.le_of_ble_eq_true rfl, Nat.le_of_ble_eq_true rfl⟩ (fun r_1 hq_2 => ?_)
  refine lv_if_eq (tgt := 24) hx hb dX7_begin_6 (by decide) (fun (c_3 : r_1 = 0) => ?_) (fun (c_3 : ¬ (r_1 = 0)) => ?_)
  · have u_4 := hq_2.2.2 c_3
    refine lv_aload_n hx hb dX7_begin_24 rfl (lv_at hl 0 rfl) ?_
    refine lv_bipush (v := (-2)) hx hb dX7_begin_25 (by decide) ?_
    refine tm_V (As := [.int (-2)]) (rest := []) ⟨hx, hb, hml, hown, htg⟩ (c_X7_refuse l D E G _ a C n hn hT ((-2) : Int32) (rg_w (rg_c (v := (-2)) (lo := (-2)) (hi := (-2)) (by decide)) (by decide))) (cwV 1 htg (oh_gV q_1071 q_1073 q_29 q_73 q_1074) rfl rfl rfl pdVX7_refuse ⟨Nat.le_of_ble_eq_true rfl, Nat.le_of_ble_eq_true rfl⟩) hK hP hD hG hS hA (va_recv hK hP (ci := 7) (q0 := 0) rfl (oh_wg (Nat.lt_of_lt_of_le (by decide) hn) (sM_0 hT))) rfl hl.1 rfl (Nat.le_of_ble_eq_true rfl) dX7_begin_27 ⟨Nat.le_of_ble_eq_true rfl, Nat.le_of_ble_eq_true rfl⟩ (fun r_5 C_6 H locs hq_7 hP hD hS => ?_)
    obtain ⟨hT, f_8, hq_7⟩ := hq_7
    have hF := fr_tr hF f_8 (by decide) (by decide)
    refine W.widen (k := 0) (n := 0) (Nat.le_refl _) (Nat.le_refl _) ?_
    have t_9 := hT
    rw [hQ]
    exact W.iret (v := r_5) hx hb hr (fun t ht hW => ⟨⟨r_5, C_6, rfl, ⟨hT, hF, ⟨⟨(RelW.fr hR.1 f_8 (by decide)), hR.2.fr hF (by decide)⟩, (fun A hA => by unfold spBegin; rw [← (show gi (C 0) 13 = A 5 0 2 from hA.1 2 (by decide)), ← (show gi (C 0) 15 = A 5 0 3 from hA.1 3 (by decide))]; exact Eq.trans hq_7 (pif_neg (fun h8 => u_4 h8.1)).symm)⟩⟩, ⟨by rw [ht]; exact hP, hD⟩⟩, hS.F ht⟩) hS.2.2 dX7_begin_30
  · have u_10 := hq_2.2.1 c_3
    refine lv_iload_n hx hb dX7_begin_9 rfl (lv_at hl 3 rfl) ?_
    refine tq_S (As := [.int x3]) (rest := []) (ws := []) ⟨hx, hb, hml, hown, htg⟩ (e_X7_isPlace l D E G x3) (va_cwS 1 htg (oh_gS q_1130 q_1131 q_73 q_1132) rfl rfl rfl pdX7_isPlace ⟨Nat.le_of_ble_eq_true rfl, Nat.le_of_ble_eq_true rfl⟩) hK va_nil hG hS rfl hl.1 rfl (Nat.le_of_ble_eq_true rfl) dX7_begin_10 ⟨Nat.le_of_ble_eq_true rfl, Nat.le_of_ble_eq_true rfl⟩ (fun r_11 hq_12 => ?_)
    refine lv_if_eq (tgt := 24) hx hb dX7_begin_13 (by decide) (fun (c_13 : r_11 = 0) => ?_) (fun (c_13 : ¬ (r_11 = 0)) => ?_)
    · have u_14 := hq_12.2.2 c_13
      refine lv_aload_n hx hb dX7_begin_24 rfl (lv_at hl 0 rfl) ?_
      refine lv_bipush (v := (-2)) hx hb dX7_begin_25 (by decide) ?_
      refine tm_V (As := [.int (-2)]) (rest := []) ⟨hx, hb, hml, hown, htg⟩ (c_X7_refuse l D E G _ a C n hn hT ((-2) : Int32) (rg_w (rg_c (v := (-2)) (lo := (-2)) (hi := (-2)) (by decide)) (by decide))) (cwV 1 htg (oh_gV q_1071 q_1073 q_29 q_73 q_1074) rfl rfl rfl pdVX7_refuse ⟨Nat.le_of_ble_eq_true rfl, Nat.le_of_ble_eq_true rfl⟩) hK hP hD hG hS hA (va_recv hK hP (ci := 7) (q0 := 0) rfl (oh_wg (Nat.lt_of_lt_of_le (by decide) hn) (sM_0 hT))) rfl hl.1 rfl (Nat.le_of_ble_eq_true rfl) dX7_begin_27 ⟨Nat.le_of_ble_eq_true rfl, Nat.le_of_ble_eq_true rfl⟩ (fun r_15 C_16 H locs hq_17 hP hD hS => ?_)
      obtain ⟨hT, f_18, hq_17⟩ := hq_17
      have hF := fr_tr hF f_18 (by decide) (by decide)
      refine W.widen (k := 0) (n := 0) (Nat.le_refl _) (Nat.le_refl _) ?_
      have t_19 := hT
      rw [hQ]
      exact W.iret (v := r_15) hx hb hr (fun t ht hW => ⟨⟨r_15, C_16, rfl, ⟨hT, hF, ⟨⟨(RelW.fr hR.1 f_18 (by decide)), hR.2.fr hF (by decide)⟩, (fun A hA => by unfold spBegin; rw [← (show gi (C 0) 13 = A 5 0 2 from hA.1 2 (by decide)), ← (show gi (C 0) 15 = A 5 0 3 from hA.1 3 (by decide))]; exact Eq.trans hq_17 (pif_neg (fun h8 => u_14 h8.2.1)).symm)⟩⟩, ⟨by rw [ht]; exact hP, hD⟩⟩, hS.F ht⟩) hS.2.2 dX7_begin_30
    · have u_20 := hq_12.2.1 c_13
      refine lv_iload hx hb dX7_begin_16 (lv_at hl 4 rfl) ?_
      refine tq_S (As := [.int x4]) (rest := []) (ws := []) ⟨hx, hb, hml, hown, htg⟩ (e_X7_isPlace l D E G x4) (va_cwS 1 htg (oh_gS q_1130 q_1131 q_73 q_1132) rfl rfl rfl pdX7_isPlace ⟨Nat.le_of_ble_eq_true rfl, Nat.le_of_ble_eq_true rfl⟩) hK va_nil hG hS rfl hl.1 rfl (Nat.le_of_ble_eq_true rfl) dX7_begin_18 ⟨Nat.le_of_ble_eq_true rfl, Nat.le_of_ble_eq_true rfl⟩ (fun r_21 hq_22 => ?_)
      refine lv_if_ne (tgt := 31) hx hb dX7_begin_21 (by decide) (fun (c_23 : ¬ (r_21 = 0)) => ?_) (fun (c_23 : r_21 = 0) => ?_)
      · have u_24 := hq_22.2.1 c_23
        refine lv_aload_n hx hb dX7_begin_31 rfl (lv_at hl 0 rfl) ?_
        refine va_get (D := D) (ci := 7) (v := .ref (a 14)) (C := RX7) (T := TX7) (N := 29) hx hb htg ig_7 hown hK hP 0 (oh_wg (Nat.lt_of_lt_of_le (by decide) hn) (sM_0 hT)) rfl 18 (by decide) (htg _ q_991) (fun _ h9 => h9) rfl dX7_begin_32 ?_
        refine lv_iconst (v := 0) hx hb dX7_begin_35 (by decide) ?_
        refine lv_iconst (v := 1) hx hb dX7_begin_36 (by decide) ?_
        refine th_iast (T := TyM a E) (Rl := fr [(8, 9), (14, 15)] [19] C) hx hb hK hP hD hS 14 (Nat.lt_of_lt_of_le (by decide) hn) (sM_14 hT) (rg_in (rg_c (v := 0) (lo := 0) (hi := 0) (by decide)) (by decide)) (hT.up 14 (by decide) (tA_upd (tM_14 hT) (tA_stc (show _ = 0 by decide) (rg_c (v := 1) (lo := 1) (hi := 1) (by decide)) (by decide)))) (fr_st hF (by decide) (by decide)) dX7_begin_37 (fun C_25 H locs e_26 hT hF hP hD hS => ?_)
        have t_27 := hT
        refine lv_aload_n hx hb dX7_begin_38 rfl (lv_at hl 0 rfl) ?_
        refine va_get (D := D) (ci := 7) (v := .ref (a 14)) (C := RX7) (T := TX7) (N := 29) hx hb htg ig_7 hown hK hP 0 (oh_wg (Nat.lt_of_lt_of_le (by decide) hn) (sM_0 hT)) rfl 18 (by decide) (htg _ q_991) (fun _ h9 => h9) rfl dX7_begin_39 ?_
        refine lv_iconst (v := 1) hx hb dX7_begin_42 (by decide) ?_
        refine lv_iload_n hx hb dX7_begin_43 rfl (lv_at hl 1 rfl) ?_
        refine th_iast (T := TyM a E) (Rl := fr [(8, 9), (14, 15)] [19] C) hx hb hK hP hD hS 14 (Nat.lt_of_lt_of_le (by decide) hn) (sM_14 hT) (rg_in (rg_c (v := 1) (lo := 1) (hi := 1) (by decide)) (by decide)) (hT.up 14 (by decide) (tA_upd (tM_14 hT) (tA_stc (show _ = 1 by decide) u_10.1 (by decide)))) (fr_st hF (by decide) (by decide)) dX7_begin_44 (fun C_28 H locs e_29 hT hF hP hD hS => ?_)
        have t_30 := hT
        refine lv_aload_n hx hb dX7_begin_45 rfl (lv_at hl 0 rfl) ?_
        refine va_get (D := D) (ci := 7) (v := .ref (a 14)) (C := RX7) (T := TX7) (N := 29) hx hb htg ig_7 hown hK hP 0 (oh_wg (Nat.lt_of_lt_of_le (by decide) hn) (sM_0 hT)) rfl 18 (by decide) (htg _ q_991) (fun _ h9 => h9) rfl dX7_begin_46 ?_
        refine lv_iconst (v := 2) hx hb dX7_begin_49 (by decide) ?_
        refine lv_iload_n hx hb dX7_begin_50 rfl (lv_at hl 2 rfl) ?_
        refine th_iast (T := TyM a E) (Rl := fr [(8, 9), (14, 15)] [19] C) hx hb hK hP hD hS 14 (Nat.lt_of_lt_of_le (by decide) hn) (sM_14 hT) (rg_in (rg_c (v := 2) (lo := 2) (hi := 2) (by decide)) (by decide)) (hT.up 14 (by decide) (tA_upd (tM_14 hT) (tA_stc (show _ = 2 by decide) (rg_any _) (by decide)))) (fr_st hF (by decide) (by decide)) dX7_begin_51 (fun C_31 H locs e_32 hT hF hP hD hS => ?_)
        have t_33 := hT
        refine lv_aload_n hx hb dX7_begin_52 rfl (lv_at hl 0 rfl) ?_
        refine va_get (D := D) (ci := 7) (v := .ref (a 14)) (C := RX7) (T := TX7) (N := 29) hx hb htg ig_7 hown hK hP 0 (oh_wg (Nat.lt_of_lt_of_le (by decide) hn) (sM_0 hT)) rfl 18 (by decide) (htg _ q_991) (fun _ h9 => h9) rfl dX7_begin_53 ?_
        refine lv_iconst (v := 3) hx hb dX7_begin_56 (by decide) ?_
        refine lv_iload_n hx hb dX7_begin_57 rfl (lv_at hl 3 rfl) ?_
        refine th_iast (T := TyM a E) (Rl := fr [(8, 9), (14, 15)] [19] C) hx hb hK hP hD hS 14 (Nat.lt_of_lt_of_le (by decide) hn) (sM_14 hT) (rg_in (rg_c (v := 3) (lo := 3) (hi := 3) (by decide)) (by decide)) (hT.up 14 (by decide) (tA_upd (tM_14 hT) (tA_stc (show _ = 3 by decide) u_20 (by decide)))) (fr_st hF (by decide) (by decide)) dX7_begin_58 (fun C_34 H locs e_35 hT hF hP hD hS => ?_)
        have t_36 := hT
        refine lv_aload_n hx hb dX7_begin_59 rfl (lv_at hl 0 rfl) ?_
        refine va_get (D := D) (ci := 7) (v := .ref (a 14)) (C := RX7) (T := TX7) (N := 29) hx hb htg ig_7 hown hK hP 0 (oh_wg (Nat.lt_of_lt_of_le (by decide) hn) (sM_0 hT)) rfl 18 (by decide) (htg _ q_991) (fun _ h9 => h9) rfl dX7_begin_60 ?_
        refine lv_iconst (v := 4) hx hb dX7_begin_63 (by decide) ?_
        refine lv_iload hx hb dX7_begin_64 (lv_at hl 4 rfl) ?_
        refine th_iast (T := TyM a E) (Rl := fr [(8, 9), (14, 15)] [19] C) hx hb hK hP hD hS 14 (Nat.lt_of_lt_of_le (by decide) hn) (sM_14 hT) (rg_in (rg_c (v := 4) (lo := 4) (hi := 4) (by decide)) (by decide)) (hT.up 14 (by decide) (tA_upd (tM_14 hT) (tA_stc (show _ = 4 by decide) u_24 (by decide)))) (fr_st hF (by decide) (by decide)) dX7_begin_66 (fun C_37 H locs e_38 hT hF hP hD hS => ?_)
        have t_39 := hT
        refine lv_aload_n hx hb dX7_begin_67 rfl (lv_at hl 0 rfl) ?_
        refine va_get (D := D) (ci := 7) (v := .ref (a 14)) (C := RX7) (T := TX7) (N := 29) hx hb htg ig_7 hown hK hP 0 (oh_wg (Nat.lt_of_lt_of_le (by decide) hn) (sM_0 hT)) rfl 18 (by decide) (htg _ q_991) (fun _ h9 => h9) rfl dX7_begin_68 ?_
        refine lv_iconst (v := 5) hx hb dX7_begin_71 (by decide) ?_
        refine lv_iconst (v := 0) hx hb dX7_begin_72 (by decide) ?_
        refine th_iast (T := TyM a E) (Rl := fr [(8, 9), (14, 15)] [19] C) hx hb hK hP hD hS 14 (Nat.lt_of_lt_of_le (by decide) hn) (sM_14 hT) (rg_in (rg_c (v := 5) (lo := 5) (hi := 5) (by decide)) (by decide)) (hT.up 14 (by decide) (tA_upd (tM_14 hT) (tA_stc (show _ = 5 by decide) (rg_c (v := 0) (lo := 0) (hi := 0) (by decide)) (by decide)))) (fr_st hF (by decide) (by decide)) dX7_begin_73 (fun C_40 H locs e_41 hT hF hP hD hS => ?_)
        have t_42 := hT
        refine lv_aload_n hx hb dX7_begin_74 rfl (lv_at hl 0 rfl) ?_
        refine va_get (D := D) (ci := 7) (v := .ref (a 14)) (C := RX7) (T := TX7) (N := 29) hx hb htg ig_7 hown hK hP 0 (oh_wg (Nat.lt_of_lt_of_le (by decide) hn) (sM_0 hT)) rfl 18 (by decide) (htg _ q_991) (fun _ h9 => h9) rfl dX7_begin_75 ?_
        refine lv_bipush (v := 6) hx hb dX7_begin_78 (by decide) ?_
        refine lv_iconst (v := 0) hx hb dX7_begin_80 (by decide) ?_
        refine th_iast (T := TyM a E) (Rl := fr [(8, 9), (14, 15)] [19] C) hx hb hK hP hD hS 14 (Nat.lt_of_lt_of_le (by decide) hn) (sM_14 hT) (rg_in (rg_c (v := 6) (lo := 6) (hi := 6) (by decide)) (by decide)) (hT.up 14 (by decide) (tA_upd (tM_14 hT) (tA_stc (show _ = 6 by decide) (rg_c (v := 0) (lo := 0) (hi := 0) (by decide)) (by decide)))) (fr_st hF (by decide) (by decide)) dX7_begin_81 (fun C_43 H locs e_44 hT hF hP hD hS => ?_)
        have t_45 := hT
        refine lv_aload_n hx hb dX7_begin_82 rfl (lv_at hl 0 rfl) ?_
        refine lv_aload_n hx hb dX7_begin_83 rfl (lv_at hl 0 rfl) ?_
        refine lv_iload_n hx hb dX7_begin_84 rfl (lv_at hl 2 rfl) ?_
        refine tq_V (As := [.int x2]) (rest := [.ref (a 0)]) (ws := (oh_W n a C_43)) ⟨hx, hb, hml, hown, htg⟩ (c_X7_partsCoin l D E G a C_43 n hn hT x2) (cwV 1 htg (oh_gV q_1356 q_1358 q_61 q_73 q_1359) rfl rfl rfl pdVX7_partsCoin ⟨Nat.le_of_ble_eq_true rfl, Nat.le_of_ble_eq_true rfl⟩) hK hP hG hS (va_recv hK hP (ci := 7) (q0 := 0) rfl (oh_wg (Nat.lt_of_lt_of_le (by decide) hn) (sM_0 hT))) rfl hl.1 rfl (Nat.le_of_ble_eq_true rfl) dX7_begin_85 ⟨Nat.le_of_ble_eq_true rfl, Nat.le_of_ble_eq_true rfl⟩ (fun r_46 hq_47 => ?_)
        refine th_put (Tp := TyM a E) (Rl := fr [(8, 9), (14, 15)] [19] C) (ci := 7) (v := .int r_46) (ty := .int) (CC := RX7) (T := TX7) (N := 29) hx hb htg ig_7 tyX7 tyX7_ok nmX7 hown hK hP hD hS 0 (Nat.lt_of_lt_of_le (by decide) hn) (sM_0 hT) rfl 19 (by decide) (htg _ q_992) (fun _ h9 => h9) rfl (by decide +kernel) rfl rfl (Nat.le_of_ble_eq_true rfl) (hT.up 0 (by decide) ⟨rfl, (fM_0_7 hT), (fM_0_9 hT), (fM_0_11 hT), (fM_0_13 hT), (fM_0_15 hT), (fM_0_21 hT), (fM_0_23 hT)⟩) (fr_fd hF (sM_0 hT) (by decide)) dX7_begin_88 (fun C_48 H locs e_49 hT hF hP hD hS => ?_)
        have t_50 := hT
        refine lv_iconst (v := 1) hx hb dX7_begin_91 (by decide) ?_
        rw [hQ]
        exact W.iret (v := 1) hx hb hr (fun t ht hW => ⟨⟨1, C_48, rfl, ⟨hT, hF, ⟨⟨relW_mk hR.1 hF (by decide) (fun _ => by rw [(th_un e_49 (by decide)), (st_ga e_44), pk_un (by decide), (st_ga e_41), pk_un (by decide), (st_ga e_38), pk_un (by decide), (st_ga e_35), pk_un (by decide), (st_ga e_32), pk_un (by decide), (st_ga e_29)]; exact u_10.2.2.1), hR.2.fr hF (by decide)⟩, (fun A hA => by unfold spBegin; rw [← (show gi (C 0) 13 = A 5 0 2 from hA.1 2 (by decide)), ← (show gi (C 0) 15 = A 5 0 3 from hA.1 3 (by decide))]; exact (pif_pos ⟨u_10.2.2.2, (oh_rgI (p := 0) (q := 15) (rg_w (lo := 0) (hi := 15) u_20 (by decide))), (oh_rgI (p := 0) (q := 15) (rg_w (lo := 0) (hi := 15) u_24 (by decide)))⟩).symm)⟩⟩, ⟨by rw [ht]; exact hP, hD⟩⟩, hS.F ht⟩) hS.2.2 dX7_begin_92
      · have u_51 := hq_22.2.2 c_23
        refine lv_aload_n hx hb dX7_begin_24 rfl (lv_at hl 0 rfl) ?_
        refine lv_bipush (v := (-2)) hx hb dX7_begin_25 (by decide) ?_
        refine tm_V (As := [.int (-2)]) (rest := []) ⟨hx, hb, hml, hown, htg⟩ (c_X7_refuse l D E G _ a C n hn hT ((-2) : Int32) (rg_w (rg_c (v := (-2)) (lo := (-2)) (hi := (-2)) (by decide)) (by decide))) (cwV 1 htg (oh_gV q_1071 q_1073 q_29 q_73 q_1074) rfl rfl rfl pdVX7_refuse ⟨Nat.le_of_ble_eq_true rfl, Nat.le_of_ble_eq_true rfl⟩) hK hP hD hG hS hA (va_recv hK hP (ci := 7) (q0 := 0) rfl (oh_wg (Nat.lt_of_lt_of_le (by decide) hn) (sM_0 hT))) rfl hl.1 rfl (Nat.le_of_ble_eq_true rfl) dX7_begin_27 ⟨Nat.le_of_ble_eq_true rfl, Nat.le_of_ble_eq_true rfl⟩ (fun r_52 C_53 H locs hq_54 hP hD hS => ?_)
        obtain ⟨hT, f_55, hq_54⟩ := hq_54
        have hF := fr_tr hF f_55 (by decide) (by decide)
        refine W.widen (k := 0) (n := 0) (Nat.le_refl _) (Nat.le_refl _) ?_
        have t_56 := hT
        rw [hQ]
        exact W.iret (v := r_52) hx hb hr (fun t ht hW => ⟨⟨r_52, C_53, rfl, ⟨hT, hF, ⟨⟨(RelW.fr hR.1 f_55 (by decide)), hR.2.fr hF (by decide)⟩, (fun A hA => by unfold spBegin; rw [← (show gi (C 0) 13 = A 5 0 2 from hA.1 2 (by decide)), ← (show gi (C 0) 15 = A 5 0 3 from hA.1 3 (by decide))]; exact Eq.trans hq_54 (pif_neg (fun h8 => u_51 h8.2.2)).symm)⟩⟩, ⟨by rw [ht]; exact hP, hD⟩⟩, hS.F ht⟩) hS.2.2 dX7_begin_30
