/-! FULL: the bridge on which most hangs -/
theorem ok_fall {A : LA} (h : okA A) (b : Nat) : okA (putA A 1 b 8 1) := ok_put h (by decide) (fun e => absurd e (by decide)) (fun _ k => ⟨k.1, k.2.1, k.2.2.1, k.2.2.2.1, k.2.2.2.2.1, k.2.2.2.2.2.1, k.2.2.2.2.2.2.1, k.2.2.2.2.2.2.2.1, show rg (1 : Int32) 0 1 from ⟨by decide, by decide⟩, k.2.2.2.2.2.2.2.2.2.1, k.2.2.2.2.2.2.2.2.2.2⟩) (by decide)
noncomputable def hgV (A : LA) (w s f t : Int32) (b : Nat) : Int32 := lcA (putA A 1 b 8 1) w s f t 1
noncomputable def hgA (A : LA) (w s f t : Int32) : Nat → Int32 × Int32
  | 0 => (-1, -1)
  | k + 1 => pif ((hgA A w s f t k).2 < hgV A w s f t k) (Int32.ofNat k, hgV A w s f t k) (hgA A w s f t k)
theorem hg_y {A : LA} {w s f t z : Int32} (hz : rg z 0 15) (q : (hgA A w s f t z.toNatClampNeg).2 < hgV A w s f t z.toNatClampNeg) : hgA A w s f t (z + 1).toNatClampNeg = (z, hgV A w s f t z.toNatClampNeg) := by
  rw [z_s15 hz]
  refine Eq.trans (pif_pos q) ?_
  rw [oh_ofc hz (by decide)]
theorem hg_n {A : LA} {w s f t z : Int32} (hz : rg z 0 15) (q : ¬ (hgA A w s f t z.toNatClampNeg).2 < hgV A w s f t z.toNatClampNeg) : hgA A w s f t (z + 1).toNatClampNeg = hgA A w s f t z.toNatClampNeg := by
  rw [z_s15 hz]
  exact pif_neg q
noncomputable def spHang (A : LA) (w s f t : Int32) : Int32 := pif (okJ A w s f t) (pif (A 5 0 1 = 0 ∨ ¬ hasW (EcA A w s 1) f.toNatClampNeg t.toNatClampNeg) (-5) (hgA A w s f t (n1A A)).1) (-2)
theorem absX_g2 {C u : Nat → va_E} {A : LA} {mc : List (Nat × Nat)} {mf : List Nat} (x : Nat) (h : absX 10 C A) (hf : fr mc mf C u) (e : ga (u x) = ga (C x)) (hd : ((List.range (15 + 1)).all (fun k => Nat.blt k 10 || Nat.beq k x || (!(inR mc k) && !(Nat.beq k 0)))) = true) : absX 10 u A := by
  refine absX_ga h (fun k k1 k2 => ?_)
  by_cases q : k = x
  · rw [q]
    exact e
  · rw [fr_ex hf 10 15 x hd k k1 (by omega) q]

set_option maxHeartbeats 4000000 in
set_option maxRecDepth 100000 in
theorem e2_X6_coinIfFallen (l : Launch) (D : va_G) (E : Nat → ClassId) (G : Nat → Nat) (sz : Nat) (a : Nat → Nat) (C : Nat → va_E) (hT : TyX a E C) (x1 : Int32) (x2 : Int32) (x3 : Int32) (x4 : Int32) (x5 : Int32) (hx1 : rg x1 0 15) (hx2 : rg x2 0 4) (hx4 : rg x4 0 15) (hx5 : rg x5 0 15) : Met l yX6_coinIfFallen (oh_w yX6_coinIfFallen cX6_coinIfFallen 8 (some .int)) ({ frames := 5, cells := 0, slots := 0, locals := 125 }) (oh_Pm D E G [.ref (a 0), .int x1, .int x2, .int x3, .int x4, .int x5] (oh_W 35 a C) sz) (va_Qi (fun r (u : Nat → va_E) => TyX a E u ∧ fr [(9, 10), (12, 13), (24, 28)] [] C u ∧ (ga (u 12) = ga (C 12)) ∧ (∀ A : LA, absX 10 C A → okA A → x2 < A 5 0 2 → r = hgV A x2 x3 x4 x5 x1.toNatClampNeg)) (oh_B D (va_A (oh_W 35 a C) sz) (fun u => oh_W 35 a u)) (va_A (oh_W 35 a C) sz)) 0 0 (va_A (oh_W 35 a C) sz) := by
  refine Met.ofW (cc := cX6_coinIfFallen) (maxL := 8) (ret := (some .int)) (by decide) rfl ?_
  intro p e s m args below meth c s₁ B hml hv
  obtain ⟨rfl, hsz, hP, hK, hD0, hG⟩ := hv
  have hx := B.exec
  have hb := B.bytes
  have hr := B.returns
  have hts := atoms_spec (ws := (oh_w yX6_coinIfFallen cX6_coinIfFallen 8 (some .int))) B.pre
  have htg : ∀ w ∈ oh_t, w.before _ s = true := fun w h => hts w (List.mem_cons_of_mem _ h)
  have hown : s.vm.findClass RX6 = some m.cls := findClass_of_methodNamed B.named
  have hlocks := B.notSynchronized
  have hT0 := hT
  subst hsz
  have hD := hD0.self (sz := s.heap.size)
  generalize hAe : va_A (oh_W 35 a C) s.heap.size = A at hD hG ⊢
  have hA : ∀ q : Nat, s.heap.size ≤ q → A q := fun q h => by rw [← hAe]; exact Or.inr h
  have hS : va_S A s.heap s.heap [] := va_S.rf
  have hF : fr [(9, 10), (12, 13), (24, 28)] [] C C := fr_rf
  have hl := lv_entry ([.ref (a 0), .int x1, .int x2, .int x3, .int x4, .int x5]) (n := 8) (Nat.le_of_ble_eq_true rfl)
  rw [lg_entry_eq]
  generalize (lg_sl ([.ref (a 0), .int x1, .int x2, .int x3, .int x4, .int x5]) ++ List.replicate (8 - (lg_sl ([.ref (a 0), .int x1, .int x2, .int x3, .int x4, .int x5])).length) Slot.unset).toArray = ls at hl ⊢
  have hl : lv_has ls 8 [(0, .ref (a 0)), (1, .int x1), (2, .int x2), (3, .int x3), (4, .int x4), (5, .int x5)] := hl
  refine oh_genQ (fun Q hQ => ?_)
  refine lv_aload_n hx hb dX6_coinIfFallen_0 rfl (lv_at hl 0 rfl) ?_
  refine va_get (D := D) (ci := 6) (v := .ref (a 1)) (C := RX6) (T := TX6) (N := 9) hx hb htg ig_6 hown hK hP 0 (oh_wg (by decide) (sX_0 hT)) rfl 0 (by decide) (htg _ q_258) (fun _ h9 => h9) rfl dX6_coinIfFallen_1 ?_
  refine lv_iload_n hx hb dX6_coinIfFallen_4 rfl (lv_at hl 1 rfl) ?_
  refine lv_bipush (v := 8) hx hb dX6_coinIfFallen_5 (by decide) ?_
  refine tq_V (As := [.int x1, .int 8]) (rest := []) (ws := (oh_W 35 a C)) ⟨hx, hb, hml, hown, htg⟩ (c_X0_ofBridge l D E G a C hT x1 (8 : Int32) (rg_w hx1 (by decide)) (rg_w (rg_c (v := 8) (lo := 8) (hi := 8) (by decide)) (by decide))) (cwV 2 htg (oh_gV q_392 q_385 q_386 q_67 q_387) rfl rfl rfl pdVX0_ofBridge ⟨Nat.le_of_ble_eq_true rfl, Nat.le_of_ble_eq_true rfl⟩) hK hP hG hS (va_recv hK hP (ci := 0) (q0 := 1) rfl (oh_wg (by decide) (sX_1 hT))) rfl hl.1 rfl (Nat.le_of_ble_eq_true rfl) dX6_coinIfFallen_7 ⟨Nat.le_of_ble_eq_true rfl, Nat.le_of_ble_eq_true rfl⟩ (fun r_1 hq_2 => ?_)
  subst hq_2
  refine lv_istore (lv' := [(6, .int (ga (C 12) ((x1 * 10) + 8).toNatClampNeg)), (0, .ref (a 0)), (1, .int x1), (2, .int x2), (3, .int x3), (4, .int x4), (5, .int x5)]) hx hb dX6_coinIfFallen_10 hl (by decide) rfl (fun ls hl => ?_)
  refine lv_aload_n hx hb dX6_coinIfFallen_12 rfl (lv_at hl 1 rfl) ?_
  refine va_get (D := D) (ci := 6) (v := .ref (a 1)) (C := RX6) (T := TX6) (N := 9) hx hb htg ig_6 hown hK hP 0 (oh_wg (by decide) (sX_0 hT)) rfl 0 (by decide) (htg _ q_258) (fun _ h9 => h9) rfl dX6_coinIfFallen_13 ?_
  refine lv_iload_n hx hb dX6_coinIfFallen_16 rfl (lv_at hl 2 rfl) ?_
  refine lv_bipush (v := 8) hx hb dX6_coinIfFallen_17 (by decide) ?_
  refine lv_iconst (v := 1) hx hb dX6_coinIfFallen_19 (by decide) ?_
  refine tm_Vv (As := [.int x1, .int 8, .int 1]) (rest := []) ⟨hx, hb, hml, hown, htg⟩ (f_X0_putBridgeColumn l D E G _ a C hT x1 (8 : Int32) (1 : Int32) (rg_w hx1 (by decide)) (rg_w (rg_c (v := 8) (lo := 8) (hi := 8) (by decide)) (by decide))) (cwV 3 htg (oh_gV q_474 q_445 q_446 q_67 q_447) rfl rfl rfl pdVX0_putBridgeColumn ⟨Nat.le_of_ble_eq_true rfl, Nat.le_of_ble_eq_true rfl⟩) hK hP hD hG hS hA (va_recv hK hP (ci := 0) (q0 := 1) rfl (oh_wg (by decide) (sX_1 hT))) rfl hl.1 rfl (Nat.le_of_ble_eq_true rfl) dX6_coinIfFallen_20 ⟨Nat.le_of_ble_eq_true rfl, Nat.le_of_ble_eq_true rfl⟩ (fun C_4 H locs hq_5 hP hD hS => ?_)
  obtain ⟨hT, f_6, hq_5⟩ := hq_5
  have hF := fr_tr hF f_6 (by decide) (by decide)
  refine W.widen (k := 0) (n := 0) (Nat.le_refl _) (Nat.le_refl _) ?_
  have t_7 := hT
  refine lv_aload_n hx hb dX6_coinIfFallen_23 rfl (lv_at hl 1 rfl) ?_
  refine va_get (D := D) (ci := 6) (v := .ref (a 3)) (C := RX6) (T := TX6) (N := 9) hx hb htg ig_6 hown hK hP 0 (oh_wg (by decide) (sX_0 hT)) rfl 3 (by decide) (htg _ q_261) (fun _ h9 => h9) rfl dX6_coinIfFallen_24 ?_
  refine lv_iload_n hx hb dX6_coinIfFallen_27 rfl (lv_at hl 3 rfl) ?_
  refine lv_iload_n hx hb dX6_coinIfFallen_28 rfl (lv_at hl 4 rfl) ?_
  refine lv_iload hx hb dX6_coinIfFallen_29 (lv_at hl 5 rfl) ?_
  refine lv_iload hx hb dX6_coinIfFallen_31 (lv_at hl 6 rfl) ?_
  refine lv_iconst (v := 1) hx hb dX6_coinIfFallen_33 (by decide) ?_
  refine tm_V (As := [.int x2, .int x3, .int x4, .int x5, .int 1]) (rest := []) ⟨hx, hb, hml, hown, htg⟩ (e_X5_leastCoin l D E G _ a C_4 hT x2 x3 x4 x5 (1 : Int32) (rg_w hx2 (by decide)) (rg_w hx4 (by decide)) (rg_w hx5 (by decide))) (cwV 5 htg (oh_gV q_780 q_781 q_782 q_68 q_783) rfl rfl rfl pdVX5_leastCoin ⟨Nat.le_of_ble_eq_true rfl, Nat.le_of_ble_eq_true rfl⟩) hK hP hD hG hS hA (va_recv hK hP (ci := 5) (q0 := 3) rfl (oh_wg (by decide) (sX_3 hT))) rfl hl.1 rfl (Nat.le_of_ble_eq_true rfl) dX6_coinIfFallen_34 ⟨Nat.le_of_ble_eq_true rfl, Nat.le_of_ble_eq_true rfl⟩ (fun r_8 C_9 H locs hq_10 hP hD hS => ?_)
  obtain ⟨hT, f_11, hq_10⟩ := hq_10
  have hF := fr_tr hF f_11 (by decide) (by decide)
  refine W.widen (k := 0) (n := 0) (Nat.le_refl _) (Nat.le_refl _) ?_
  have t_12 := hT
  refine lv_istore (lv' := [(7, .int r_8), (6, .int (ga (C 12) ((x1 * 10) + 8).toNatClampNeg)), (0, .ref (a 0)), (1, .int x1), (2, .int x2), (3, .int x3), (4, .int x4), (5, .int x5)]) hx hb dX6_coinIfFallen_37 hl (by decide) rfl (fun ls hl => ?_)
  refine lv_aload_n hx hb dX6_coinIfFallen_39 rfl (lv_at hl 2 rfl) ?_
  refine va_get (D := D) (ci := 6) (v := .ref (a 1)) (C := RX6) (T := TX6) (N := 9) hx hb htg ig_6 hown hK hP 0 (oh_wg (by decide) (sX_0 hT)) rfl 0 (by decide) (htg _ q_258) (fun _ h9 => h9) rfl dX6_coinIfFallen_40 ?_
  refine lv_iload_n hx hb dX6_coinIfFallen_43 rfl (lv_at hl 3 rfl) ?_
  refine lv_bipush (v := 8) hx hb dX6_coinIfFallen_44 (by decide) ?_
  refine lv_iload hx hb dX6_coinIfFallen_46 (lv_at hl 1 rfl) ?_
  refine tm_Vv (As := [.int x1, .int 8, .int (ga (C 12) ((x1 * 10) + 8).toNatClampNeg)]) (rest := []) ⟨hx, hb, hml, hown, htg⟩ (f_X0_putBridgeColumn l D E G _ a C_9 hT x1 (8 : Int32) (ga (C 12) ((x1 * 10) + 8).toNatClampNeg) (rg_w hx1 (by decide)) (rg_w (rg_c (v := 8) (lo := 8) (hi := 8) (by decide)) (by decide))) (cwV 3 htg (oh_gV q_474 q_445 q_446 q_67 q_447) rfl rfl rfl pdVX0_putBridgeColumn ⟨Nat.le_of_ble_eq_true rfl, Nat.le_of_ble_eq_true rfl⟩) hK hP hD hG hS hA (va_recv hK hP (ci := 0) (q0 := 1) rfl (oh_wg (by decide) (sX_1 hT))) rfl hl.1 rfl (Nat.le_of_ble_eq_true rfl) dX6_coinIfFallen_48 ⟨Nat.le_of_ble_eq_true rfl, Nat.le_of_ble_eq_true rfl⟩ (fun C_14 H locs hq_15 hP hD hS => ?_)
  obtain ⟨hT, f_16, hq_15⟩ := hq_15
  have hF := fr_tr hF f_16 (by decide) (by decide)
  refine W.widen (k := 0) (n := 0) (Nat.le_refl _) (Nat.le_refl _) ?_
  have t_17 := hT
  refine lv_iload hx hb dX6_coinIfFallen_51 (lv_at hl 0 rfl) ?_
  rw [hQ]
  exact W.iret (v := r_8) hx hb hr (fun t ht hW => ⟨⟨r_8, C_14, rfl, ⟨hT, hF, ⟨(by rw [hq_15.1, show C_9 12 = C_4 12 from f_11.1 12 rfl (by decide), hq_5.1]; exact upd_back), (fun A hA hok hl => hq_10 (putA A 1 x1.toNatClampNeg 8 1) (hq_5.2 A hA) (ok_fall hok _) (by rw [putA_5 (by decide)]; exact hl) ⟨by decide, by decide⟩)⟩⟩, ⟨by rw [ht]; exact hP, hD⟩⟩, hS.F ht⟩) hS.2.2 dX6_coinIfFallen_53

set_option maxHeartbeats 4000000 in
set_option maxRecDepth 100000 in
theorem e2_X6_hang (l : Launch) (D : va_G) (E : Nat → ClassId) (G : Nat → Nat) (sz : Nat) (a : Nat → Nat) (C : Nat → va_E) (hT : TyX a E C) (x1 : Int32) (x2 : Int32) (x3 : Int32) (x4 : Int32) : Met l yX6_hang (oh_w yX6_hang cX6_hang 9 (some .int)) ({ frames := 6, cells := 0, slots := 0, locals := 152 }) (oh_Pm D E G [.ref (a 0), .int x1, .int x2, .int x3, .int x4] (oh_W 35 a C) sz) (va_Qi (fun r (u : Nat → va_E) => TyX a E u ∧ fr [(7, 8), (9, 10), (12, 13), (24, 28)] [] C u ∧ (ga (u 12) = ga (C 12)) ∧ (∀ A : LA, absX 10 C A → okA A → r = spHang A x1 x2 x3 x4)) (oh_B D (va_A (oh_W 35 a C) sz) (fun u => oh_W 35 a u)) (va_A (oh_W 35 a C) sz)) 0 0 (va_A (oh_W 35 a C) sz) := by
  refine Met.ofW (cc := cX6_hang) (maxL := 9) (ret := (some .int)) (by decide) rfl ?_
  intro p e s m args below meth c s₁ B hml hv
  obtain ⟨rfl, hsz, hP, hK, hD0, hG⟩ := hv
  have hx := B.exec
  have hb := B.bytes
  have hr := B.returns
  have hts := atoms_spec (ws := (oh_w yX6_hang cX6_hang 9 (some .int))) B.pre
  have htg : ∀ w ∈ oh_t, w.before _ s = true := fun w h => hts w (List.mem_cons_of_mem _ h)
  have hown : s.vm.findClass RX6 = some m.cls := findClass_of_methodNamed B.named
  have hlocks := B.notSynchronized
  have hT0 := hT
  subst hsz
  have hD := hD0.self (sz := s.heap.size)
  generalize hAe : va_A (oh_W 35 a C) s.heap.size = A at hD hG ⊢
  have hA : ∀ q : Nat, s.heap.size ≤ q → A q := fun q h => by rw [← hAe]; exact Or.inr h
  have hS : va_S A s.heap s.heap [] := va_S.rf
  have hF : fr [(7, 8), (9, 10), (12, 13), (24, 28)] [] C C := fr_rf
  have hl := lv_entry ([.ref (a 0), .int x1, .int x2, .int x3, .int x4]) (n := 9) (Nat.le_of_ble_eq_true rfl)
  rw [lg_entry_eq]
  generalize (lg_sl ([.ref (a 0), .int x1, .int x2, .int x3, .int x4]) ++ List.replicate (9 - (lg_sl ([.ref (a 0), .int x1, .int x2, .int x3, .int x4])).length) Slot.unset).toArray = ls at hl ⊢
  have hl : lv_has ls 9 [(0, .ref (a 0)), (1, .int x1), (2, .int x2), (3, .int x3), (4, .int x4)] := hl
  refine oh_genQ (fun Q hQ => ?_)
  refine lv_aload_n hx hb dX6_hang_0 rfl (lv_at hl 0 rfl) ?_
  refine lv_iload_n hx hb dX6_hang_1 rfl (lv_at hl 1 rfl) ?_
  refine lv_iload_n hx hb dX6_hang_2 rfl (lv_at hl 2 rfl) ?_
  refine lv_iload_n hx hb dX6_hang_3 rfl (lv_at hl 3 rfl) ?_
  refine lv_iload hx hb dX6_hang_4 (lv_at hl 4 rfl) ?_
  refine tq_V (As := [.int x1, .int x2, .int x3, .int x4]) (rest := []) (ws := (oh_W 35 a C)) ⟨hx, hb, hml, hown, htg⟩ (e_X6_isJourney l D E G a C hT x1 x2 x3 x4) (cwV 4 htg (oh_gV q_776 q_778 q_17 q_66 q_779) rfl rfl rfl pdVX6_isJourney ⟨Nat.le_of_ble_eq_true rfl, Nat.le_of_ble_eq_true rfl⟩) hK hP hG hS (va_recv hK hP (ci := 6) (q0 := 0) rfl (oh_wg (by decide) (sX_0 hT))) rfl hl.1 rfl (Nat.le_of_ble_eq_true rfl) dX6_hang_6 ⟨Nat.le_of_ble_eq_true rfl, Nat.le_of_ble_eq_true rfl⟩ (fun r_1 hq_2 => ?_)
  refine lv_if_ne (tgt := 19) hx hb dX6_hang_9 (by decide) (fun (c_3 : ¬ (r_1 = 0)) => ?_) (fun (c_3 : r_1 = 0) => ?_)
  · have u_4 := hq_2.2.1 c_3
    refine lv_aload_n hx hb dX6_hang_19 rfl (lv_at hl 0 rfl) ?_
    refine va_get (D := D) (ci := 6) (v := .ref (a 1)) (C := RX6) (T := TX6) (N := 9) hx hb htg ig_6 hown hK hP 0 (oh_wg (by decide) (sX_0 hT)) rfl 0 (by decide) (htg _ q_258) (fun _ h9 => h9) rfl dX6_hang_20 ?_
    refine va_get (D := D) (ci := 0) (v := .ref (a 10)) (C := RX0) (T := TX0) (N := 8) hx hb htg ig_0 hown hK hP 1 (oh_wg (by decide) (sX_1 hT)) rfl 0 (by decide) (htg _ q_100) (fun _ h9 => h9) rfl dX6_hang_23 ?_
    refine lv_iconst (v := 1) hx hb dX6_hang_26 (by decide) ?_
    refine th_iald hx hb hK hP 10 (by decide) (sX_10 hT) (rg_in (rg_c (v := 1) (lo := 1) (hi := 1) (by decide)) (by decide)) dX6_hang_27 ?_
    refine lv_if_eq (tgt := 49) hx hb dX6_hang_28 (by decide) (fun (c_5 : (ga (C 10) ((1 : Int32)).toNatClampNeg) = 0) => ?_) (fun (c_5 : ¬ ((ga (C 10) ((1 : Int32)).toNatClampNeg) = 0)) => ?_)
    · refine lv_aload_n hx hb dX6_hang_49 rfl (lv_at hl 0 rfl) ?_
      refine lv_bipush (v := (-5)) hx hb dX6_hang_50 (by decide) ?_
      refine tm_V (As := [.int (-5)]) (rest := []) ⟨hx, hb, hml, hown, htg⟩ (c_X6_refuse l D E G _ a C hT ((-5) : Int32)) (cwV 1 htg (oh_gV q_296 q_298 q_0 q_66 q_299) rfl rfl rfl pdVX6_refuse ⟨Nat.le_of_ble_eq_true rfl, Nat.le_of_ble_eq_true rfl⟩) hK hP hD hG hS hA (va_recv hK hP (ci := 6) (q0 := 0) rfl (oh_wg (by decide) (sX_0 hT))) rfl hl.1 rfl (Nat.le_of_ble_eq_true rfl) dX6_hang_52 ⟨Nat.le_of_ble_eq_true rfl, Nat.le_of_ble_eq_true rfl⟩ (fun r_6 C_7 H locs hq_8 hP hD hS => ?_)
      obtain ⟨hT, f_9, hq_8⟩ := hq_8
      have hF := fr_tr hF f_9 (by decide) (by decide)
      refine W.widen (k := 0) (n := 0) (Nat.le_refl _) (Nat.le_refl _) ?_
      have t_10 := hT
      rw [hQ]
      exact W.iret (v := r_6) hx hb hr (fun t ht hW => ⟨⟨r_6, C_7, rfl, ⟨hT, hF, ⟨(congrArg ga (f_9.1 12 rfl (by decide))), (fun A hA hok => by have hj : okJ A x1 x2 x3 x4 := (by unfold okJ; rw [← (show ga (C 10) ((2 : Int32)).toNatClampNeg = A 5 0 2 from hA.1 2 (by decide)), ← (show ga (C 10) ((3 : Int32)).toNatClampNeg = A 5 0 3 from hA.1 3 (by decide))]; exact u_4.2.2.2); exact Eq.trans hq_8 (Eq.trans (pif_pos hj) (pif_pos (Or.inl (Eq.trans (show ga (C 10) ((1 : Int32)).toNatClampNeg = A 5 0 1 from hA.1 1 (by decide)).symm c_5)))).symm)⟩⟩, ⟨by rw [ht]; exact hP, hD⟩⟩, hS.F ht⟩) hS.2.2 dX6_hang_55
    · refine lv_aload_n hx hb dX6_hang_31 rfl (lv_at hl 0 rfl) ?_
      refine va_get (D := D) (ci := 6) (v := .ref (a 3)) (C := RX6) (T := TX6) (N := 9) hx hb htg ig_6 hown hK hP 0 (oh_wg (by decide) (sX_0 hT)) rfl 3 (by decide) (htg _ q_261) (fun _ h9 => h9) rfl dX6_hang_32 ?_
      refine lv_iload_n hx hb dX6_hang_35 rfl (lv_at hl 1 rfl) ?_
      refine lv_iload_n hx hb dX6_hang_36 rfl (lv_at hl 2 rfl) ?_
      refine lv_iload_n hx hb dX6_hang_37 rfl (lv_at hl 3 rfl) ?_
      refine lv_iload hx hb dX6_hang_38 (lv_at hl 4 rfl) ?_
      refine lv_iconst (v := 1) hx hb dX6_hang_40 (by decide) ?_
      refine tm_V (As := [.int x1, .int x2, .int x3, .int x4, .int 1]) (rest := []) ⟨hx, hb, hml, hown, htg⟩ (e_X5_leastCoin l D E G _ a C hT x1 x2 x3 x4 (1 : Int32) (rg_w u_4.1 (by decide)) (rg_w u_4.2.1 (by decide)) (rg_w u_4.2.2.1 (by decide))) (cwV 5 htg (oh_gV q_780 q_781 q_782 q_68 q_783) rfl rfl rfl pdVX5_leastCoin ⟨Nat.le_of_ble_eq_true rfl, Nat.le_of_ble_eq_true rfl⟩) hK hP hD hG hS hA (va_recv hK hP (ci := 5) (q0 := 3) rfl (oh_wg (by decide) (sX_3 hT))) rfl hl.1 rfl (Nat.le_of_ble_eq_true rfl) dX6_hang_41 ⟨Nat.le_of_ble_eq_true rfl, Nat.le_of_ble_eq_true rfl⟩ (fun r_11 C_12 H locs hq_13 hP hD hS => ?_)
      obtain ⟨hT, f_14, hq_13⟩ := hq_13
      have hF := fr_tr hF f_14 (by decide) (by decide)
      refine W.widen (k := 0) (n := 0) (Nat.le_refl _) (Nat.le_refl _) ?_
      have t_15 := hT
      refine lv_ldc (v := 1000000000) hx hb hown (htg _ q_803) dX6_hang_44 ?_
      refine lv_icmp_ne (tgt := 56) hx hb dX6_hang_46 (by decide) (fun (c_16 : ¬ (r_11 = 1000000000)) => ?_) (fun (c_16 : r_11 = 1000000000) => ?_)
      · refine lv_iconst (v := (-1)) hx hb dX6_hang_56 (by decide) ?_
        refine lv_istore (lv' := [(5, .int (-1)), (0, .ref (a 0)), (1, .int x1), (2, .int x2), (3, .int x3), (4, .int x4)]) hx hb dX6_hang_57 hl (by decide) rfl (fun ls hl => ?_)
        refine lv_iconst (v := (-1)) hx hb dX6_hang_59 (by decide) ?_
        refine lv_istore (lv' := [(6, .int (-1)), (5, .int (-1)), (0, .ref (a 0)), (1, .int x1), (2, .int x2), (3, .int x3), (4, .int x4)]) hx hb dX6_hang_60 hl (by decide) rfl (fun ls hl => ?_)
        refine lv_iconst (v := 0) hx hb dX6_hang_62 (by decide) ?_
        refine lv_istore (lv' := [(7, .int 0), (6, .int (-1)), (5, .int (-1)), (0, .ref (a 0)), (1, .int x1), (2, .int x2), (3, .int x3), (4, .int x4)]) hx hb dX6_hang_63 hl (by decide) rfl (fun ls hl => ?_)
        have L_65 : ∀ (d : Nat) (K65 : Nat → va_E) (z65_7 : Int32) (z65_6 : Int32) (z65_5 : Int32) (H : Heap) (locs : List Loc) (ls : Array Slot), (16 - z65_7.toInt).toNat = d → rg z65_7 0 16 → (ga (K65 12) = ga (C 12)) → (∀ A : LA, absX 10 C A → okA A → x1 < A 5 0 2 → z65_5 = (hgA A x1 x2 x3 x4 z65_7.toNatClampNeg).1 ∧ z65_6 = (hgA A x1 x2 x3 x4 z65_7.toNatClampNeg).2) → (z65_7.toInt ≤ (ga (C 10) ((1 : Int32)).toNatClampNeg).toInt) → TyX a E K65 → fr [(7, 8), (9, 10), (12, 13), (24, 28)] [] C K65 → fr [(9, 10), (12, 13), (24, 28)] [] C_12 K65 → va_P D vwCl (oh_W 35 a K65) H → va_D A (oh_W 35 a K65) → va_S A s.heap H locs → lv_has ls 9 [(7, .int z65_7), (6, .int z65_6), (5, .int z65_5), (0, .ref (a 0)), (1, .int x1), (2, .int x2), (3, .int x3), (4, .int x4)] → W p l e ({ frames := 6, cells := 0, slots := 0, locals := 152 }) s m (([.ref (a 0), .int x1, .int x2, .int x3, .int x4] : List Value).toArray) below meth c H locs 0 0 Q (F0 m 65 ls []) := by
          intro d
          induction d using Nat.strongRecOn with
          | ind d ih_65 =>
          intro K65 z65_7 z65_6 z65_5 H locs ls hd_65 hz65_7 hx_65 hv_65 hy_65 hT hF hLF_65 hP hD hS hl
          have t_17 := hT
          refine lv_iload hx hb dX6_hang_65 (lv_at hl 0 rfl) ?_
          refine lv_aload_n hx hb dX6_hang_67 rfl (lv_at hl 3 rfl) ?_
          refine va_get (D := D) (ci := 6) (v := .ref (a 1)) (C := RX6) (T := TX6) (N := 9) hx hb htg ig_6 hown hK hP 0 (oh_wg (by decide) (sX_0 hT)) rfl 0 (by decide) (htg _ q_258) (fun _ h9 => h9) rfl dX6_hang_68 ?_
          refine va_get (D := D) (ci := 0) (v := .ref (a 10)) (C := RX0) (T := TX0) (N := 8) hx hb htg ig_0 hown hK hP 1 (oh_wg (by decide) (sX_1 hT)) rfl 0 (by decide) (htg _ q_100) (fun _ h9 => h9) rfl dX6_hang_71 ?_
          refine lv_iconst (v := 1) hx hb dX6_hang_74 (by decide) ?_
          refine th_iald hx hb hK hP 10 (by decide) (Eq.trans (Eq.trans (hLF_65.1 10 rfl (by decide)) (f_14.1 10 rfl (by decide))) (sX_10 hT0)) (rg_in (rg_c (v := 1) (lo := 1) (hi := 1) (by decide)) (by decide)) dX6_hang_75 ?_
          refine lv_icmp_ge (tgt := 113) hx hb dX6_hang_76 (by decide) (fun (c_18 : (ga (C 10) ((1 : Int32)).toNatClampNeg) ≤ z65_7) => ?_) (fun (c_18 : ¬ ((ga (C 10) ((1 : Int32)).toNatClampNeg) ≤ z65_7)) => ?_)
          · refine lv_iload hx hb dX6_hang_113 (lv_at hl 2 rfl) ?_
            rw [hQ]
            exact W.iret (v := z65_5) hx hb hr (fun t ht hW => ⟨⟨z65_5, K65, rfl, ⟨hT, hF, ⟨hx_65, (fun A hA hok => by have hj : okJ A x1 x2 x3 x4 := (by unfold okJ; rw [← (show ga (C 10) ((2 : Int32)).toNatClampNeg = A 5 0 2 from hA.1 2 (by decide)), ← (show ga (C 10) ((3 : Int32)).toNatClampNeg = A 5 0 3 from hA.1 3 (by decide))]; exact u_4.2.2.2); have hw := lc_w hok (rg_w (lo := 0) (hi := 4) u_4.1 (by decide)) hj.1.1.2 (rg_w (lo := 0) (hi := 15) u_4.2.1 (by decide)) (rg_w (lo := 0) (hi := 15) u_4.2.2.1 (by decide)) (hq_13 A hA hok hj.1.1.2 ⟨by decide, by decide⟩); have h7 := (hv_65 A hA hok hj.1.1.2).1; rw [n1_of hA c_18 hy_65] at h7; exact Eq.trans h7 (Eq.trans (pif_pos hj) (pif_neg (fun q => q.elim (fun e => c_5 (Eq.trans (show ga (C 10) ((1 : Int32)).toNatClampNeg = A 5 0 1 from hA.1 1 (by decide)) e)) (fun e => c_16 (hw.mpr e))))).symm)⟩⟩, ⟨by rw [ht]; exact hP, hD⟩⟩, hS.F ht⟩) hS.2.2 dX6_hang_115
          · refine lv_aload_n hx hb dX6_hang_79 rfl (lv_at hl 3 rfl) ?_
            refine lv_iload hx hb dX6_hang_80 (lv_at hl 0 rfl) ?_
            refine lv_iload_n hx hb dX6_hang_82 rfl (lv_at hl 4 rfl) ?_
            refine lv_iload_n hx hb dX6_hang_83 rfl (lv_at hl 5 rfl) ?_
            refine lv_iload_n hx hb dX6_hang_84 rfl (lv_at hl 6 rfl) ?_
            refine lv_iload hx hb dX6_hang_85 (lv_at hl 7 rfl) ?_
            refine tm_V (As := [.int z65_7, .int x1, .int x2, .int x3, .int x4]) (rest := []) ⟨hx, hb, hml, hown, htg⟩ (e2_X6_coinIfFallen l D E G _ a K65 hT z65_7 x1 x2 x3 x4 (rg_w (rn_ltu (u' := 15) (Int32.not_le.mp c_18) hz65_7 (rn_nel (l' := 1) c_5 (tA_rdc (lo := 0) (hi := 16) (tX_10 hT0) (rg_in (rg_c (v := 1) (lo := 1) (hi := 1) (by decide)) (by decide)) (show _ = 1 by decide) (by decide)) (rg_c (v := 0) (lo := 0) (hi := 0) (by decide)) (by decide)) (by decide)) (by decide)) (rg_w u_4.1 (by decide)) (rg_w u_4.2.1 (by decide)) (rg_w u_4.2.2.1 (by decide))) (cwV 5 htg (oh_gV q_872 q_874 q_26 q_66 q_875) rfl rfl rfl pdVX6_coinIfFallen ⟨Nat.le_of_ble_eq_true rfl, Nat.le_of_ble_eq_true rfl⟩) hK hP hD hG hS hA (va_recv hK hP (ci := 6) (q0 := 0) rfl (oh_wg (by decide) (sX_0 hT))) rfl hl.1 rfl (Nat.le_of_ble_eq_true rfl) dX6_hang_87 ⟨Nat.le_of_ble_eq_true rfl, Nat.le_of_ble_eq_true rfl⟩ (fun r_19 C_20 H locs hq_21 hP hD hS => ?_)
            obtain ⟨hT, f_22, hq_21⟩ := hq_21
            have hF := fr_tr hF f_22 (by decide) (by decide)
            refine W.widen (k := 0) (n := 0) (Nat.le_refl _) (Nat.le_refl _) ?_
            have t_23 := hT
            refine lv_istore (lv' := [(8, .int r_19), (7, .int z65_7), (6, .int z65_6), (5, .int z65_5), (0, .ref (a 0)), (1, .int x1), (2, .int x2), (3, .int x3), (4, .int x4)]) hx hb dX6_hang_90 hl (by decide) rfl (fun ls hl => ?_)
            refine lv_iload hx hb dX6_hang_92 (lv_at hl 0 rfl) ?_
            refine lv_iload hx hb dX6_hang_94 (lv_at hl 2 rfl) ?_
            refine lv_icmp_le (tgt := 107) hx hb dX6_hang_96 (by decide) (fun (c_24 : r_19 ≤ z65_6) => ?_) (fun (c_24 : ¬ (r_19 ≤ z65_6)) => ?_)
            · refine lv_iinc (v := z65_7 + 1) (lv' := [(7, .int (z65_7 + 1)), (8, .int r_19), (6, .int z65_6), (5, .int z65_5), (0, .ref (a 0)), (1, .int x1), (2, .int x2), (3, .int x3), (4, .int x4)]) hx hb dX6_hang_107 hl (k := 1) rfl (by rfl) (by decide) rfl (fun ls hl => ?_)
              refine lv_goto (tgt := 65) hx hb dX6_hang_110 (by decide) ?_
              exact ih_65 _ (hd_65 ▸ mu_up 16 (rn_ltu (u' := 15) (Int32.not_le.mp c_18) hz65_7 (rn_nel (l' := 1) c_5 (tA_rdc (lo := 0) (hi := 16) (tX_10 hT0) (rg_in (rg_c (v := 1) (lo := 1) (hi := 1) (by decide)) (by decide)) (show _ = 1 by decide) (by decide)) (rg_c (v := 0) (lo := 0) (hi := 0) (by decide)) (by decide)) (by decide)) (by decide)) C_20 (z65_7 + 1) z65_6 z65_5 _ _ ls rfl (rg_w (rg_add (lo := 1) (hi := 16) (rn_ltu (u' := 15) (Int32.not_le.mp c_18) hz65_7 (rn_nel (l' := 1) c_5 (tA_rdc (lo := 0) (hi := 16) (tX_10 hT0) (rg_in (rg_c (v := 1) (lo := 1) (hi := 1) (by decide)) (by decide)) (show _ = 1 by decide) (by decide)) (rg_c (v := 0) (lo := 0) (hi := 0) (by decide)) (by decide)) (by decide)) (rg_c (v := 1) (lo := 1) (hi := 1) (by decide)) (by decide)) (by decide)) (Eq.trans hq_21.1 hx_65) (fun A hA hok hl => by obtain ⟨h1, h2⟩ := hv_65 A hA hok hl; have ev : r_19 = hgV A x1 x2 x3 x4 z65_7.toNatClampNeg := hq_21.2 A (absX_g2 12 (absX_eq hA (fr_all f_14 10 15 (by decide))) hLF_65 (Eq.trans hx_65 (congrArg ga (f_14.1 12 rfl (by decide))).symm) (by decide)) hok hl; rw [hg_n (rg_w (lo := 0) (hi := 15) (rn_ltu (u' := 15) (Int32.not_le.mp c_18) hz65_7 (rn_nel (l' := 1) c_5 (tA_rdc (lo := 0) (hi := 16) (tX_10 hT0) (rg_in (rg_c (v := 1) (lo := 1) (hi := 1) (by decide)) (by decide)) (show _ = 1 by decide) (by decide)) (rg_c (v := 0) (lo := 0) (hi := 0) (by decide)) (by decide)) (by decide)) (by decide)) (by rw [← h2, ← ev]; exact Int32.not_lt.mpr c_24)]; exact ⟨h1, h2⟩) (by have h7 := Int32.lt_iff_toInt_lt.mp (Int32.not_le.mp c_18); have h8 : (z65_7 + 1).toInt = z65_7.toInt + 1 := oh_incr (rn_ltu (u' := 15) (Int32.not_le.mp c_18) hz65_7 (rn_nel (l' := 1) c_5 (tA_rdc (lo := 0) (hi := 16) (tX_10 hT0) (rg_in (rg_c (v := 1) (lo := 1) (hi := 1) (by decide)) (by decide)) (show _ = 1 by decide) (by decide)) (rg_c (v := 0) (lo := 0) (hi := 0) (by decide)) (by decide)) (by decide)) (by decide); omega) hT hF (fr_tr hLF_65 f_22 (by decide) (by decide)) hP hD hS (lv_sub hl [0, 2, 3, 4, 5, 6, 7, 8] rfl)
            · refine lv_iload hx hb dX6_hang_99 (lv_at hl 0 rfl) ?_
              refine lv_istore (lv' := [(6, .int r_19), (8, .int r_19), (7, .int z65_7), (5, .int z65_5), (0, .ref (a 0)), (1, .int x1), (2, .int x2), (3, .int x3), (4, .int x4)]) hx hb dX6_hang_101 hl (by decide) rfl (fun ls hl => ?_)
              refine lv_iload hx hb dX6_hang_103 (lv_at hl 2 rfl) ?_
              refine lv_istore (lv' := [(5, .int z65_7), (6, .int r_19), (8, .int r_19), (7, .int z65_7), (0, .ref (a 0)), (1, .int x1), (2, .int x2), (3, .int x3), (4, .int x4)]) hx hb dX6_hang_105 hl (by decide) rfl (fun ls hl => ?_)
              refine lv_iinc (v := z65_7 + 1) (lv' := [(7, .int (z65_7 + 1)), (5, .int z65_7), (6, .int r_19), (8, .int r_19), (0, .ref (a 0)), (1, .int x1), (2, .int x2), (3, .int x3), (4, .int x4)]) hx hb dX6_hang_107 hl (k := 3) rfl (by rfl) (by decide) rfl (fun ls hl => ?_)
              refine lv_goto (tgt := 65) hx hb dX6_hang_110 (by decide) ?_
              exact ih_65 _ (hd_65 ▸ mu_up 16 (rn_ltu (u' := 15) (Int32.not_le.mp c_18) hz65_7 (rn_nel (l' := 1) c_5 (tA_rdc (lo := 0) (hi := 16) (tX_10 hT0) (rg_in (rg_c (v := 1) (lo := 1) (hi := 1) (by decide)) (by decide)) (show _ = 1 by decide) (by decide)) (rg_c (v := 0) (lo := 0) (hi := 0) (by decide)) (by decide)) (by decide)) (by decide)) C_20 (z65_7 + 1) r_19 z65_7 _ _ ls rfl (rg_w (rg_add (lo := 1) (hi := 16) (rn_ltu (u' := 15) (Int32.not_le.mp c_18) hz65_7 (rn_nel (l' := 1) c_5 (tA_rdc (lo := 0) (hi := 16) (tX_10 hT0) (rg_in (rg_c (v := 1) (lo := 1) (hi := 1) (by decide)) (by decide)) (show _ = 1 by decide) (by decide)) (rg_c (v := 0) (lo := 0) (hi := 0) (by decide)) (by decide)) (by decide)) (rg_c (v := 1) (lo := 1) (hi := 1) (by decide)) (by decide)) (by decide)) (Eq.trans hq_21.1 hx_65) (fun A hA hok hl => by obtain ⟨h1, h2⟩ := hv_65 A hA hok hl; have ev : r_19 = hgV A x1 x2 x3 x4 z65_7.toNatClampNeg := hq_21.2 A (absX_g2 12 (absX_eq hA (fr_all f_14 10 15 (by decide))) hLF_65 (Eq.trans hx_65 (congrArg ga (f_14.1 12 rfl (by decide))).symm) (by decide)) hok hl; rw [hg_y (rg_w (lo := 0) (hi := 15) (rn_ltu (u' := 15) (Int32.not_le.mp c_18) hz65_7 (rn_nel (l' := 1) c_5 (tA_rdc (lo := 0) (hi := 16) (tX_10 hT0) (rg_in (rg_c (v := 1) (lo := 1) (hi := 1) (by decide)) (by decide)) (show _ = 1 by decide) (by decide)) (rg_c (v := 0) (lo := 0) (hi := 0) (by decide)) (by decide)) (by decide)) (by decide)) (by rw [← h2, ← ev]; exact (Int32.not_le.mp c_24))]; exact ⟨rfl, ev⟩) (by have h7 := Int32.lt_iff_toInt_lt.mp (Int32.not_le.mp c_18); have h8 : (z65_7 + 1).toInt = z65_7.toInt + 1 := oh_incr (rn_ltu (u' := 15) (Int32.not_le.mp c_18) hz65_7 (rn_nel (l' := 1) c_5 (tA_rdc (lo := 0) (hi := 16) (tX_10 hT0) (rg_in (rg_c (v := 1) (lo := 1) (hi := 1) (by decide)) (by decide)) (show _ = 1 by decide) (by decide)) (rg_c (v := 0) (lo := 0) (hi := 0) (by decide)) (by decide)) (by decide)) (by decide); omega) hT hF (fr_tr hLF_65 f_22 (by decide) (by decide)) hP hD hS (lv_sub hl [0, 2, 1, 4, 5, 6, 7, 8] rfl)
        exact L_65 _ C_12 0 (-1) (-1) _ _ ls rfl (rg_w (rg_c (v := 0) (lo := 0) (hi := 0) (by decide)) (by decide)) (congrArg ga (f_14.1 12 rfl (by decide))) (fun A hA hok hl => ⟨rfl, rfl⟩) (cntX 1 hT0 (by decide)).1 hT hF fr_rf hP hD hS (lv_sub hl [0, 1, 2, 3, 4, 5, 6, 7] rfl)
      · refine lv_aload_n hx hb dX6_hang_49 rfl (lv_at hl 0 rfl) ?_
        refine lv_bipush (v := (-5)) hx hb dX6_hang_50 (by decide) ?_
        refine tm_V (As := [.int (-5)]) (rest := []) ⟨hx, hb, hml, hown, htg⟩ (c_X6_refuse l D E G _ a C_12 hT ((-5) : Int32)) (cwV 1 htg (oh_gV q_296 q_298 q_0 q_66 q_299) rfl rfl rfl pdVX6_refuse ⟨Nat.le_of_ble_eq_true rfl, Nat.le_of_ble_eq_true rfl⟩) hK hP hD hG hS hA (va_recv hK hP (ci := 6) (q0 := 0) rfl (oh_wg (by decide) (sX_0 hT))) rfl hl.1 rfl (Nat.le_of_ble_eq_true rfl) dX6_hang_52 ⟨Nat.le_of_ble_eq_true rfl, Nat.le_of_ble_eq_true rfl⟩ (fun r_25 C_26 H locs hq_27 hP hD hS => ?_)
        obtain ⟨hT, f_28, hq_27⟩ := hq_27
        have hF := fr_tr hF f_28 (by decide) (by decide)
        refine W.widen (k := 0) (n := 0) (Nat.le_refl _) (Nat.le_refl _) ?_
        have t_29 := hT
        rw [hQ]
        exact W.iret (v := r_25) hx hb hr (fun t ht hW => ⟨⟨r_25, C_26, rfl, ⟨hT, hF, ⟨(Eq.trans (congrArg ga (f_28.1 12 rfl (by decide))) (congrArg ga (f_14.1 12 rfl (by decide)))), (fun A hA hok => by have hj : okJ A x1 x2 x3 x4 := (by unfold okJ; rw [← (show ga (C 10) ((2 : Int32)).toNatClampNeg = A 5 0 2 from hA.1 2 (by decide)), ← (show ga (C 10) ((3 : Int32)).toNatClampNeg = A 5 0 3 from hA.1 3 (by decide))]; exact u_4.2.2.2); have hw := lc_w hok (rg_w (lo := 0) (hi := 4) u_4.1 (by decide)) hj.1.1.2 (rg_w (lo := 0) (hi := 15) u_4.2.1 (by decide)) (rg_w (lo := 0) (hi := 15) u_4.2.2.1 (by decide)) (hq_13 A hA hok hj.1.1.2 ⟨by decide, by decide⟩); exact Eq.trans hq_27 (Eq.trans (pif_pos hj) (pif_pos (Or.inr (hw.mp c_16)))).symm)⟩⟩, ⟨by rw [ht]; exact hP, hD⟩⟩, hS.F ht⟩) hS.2.2 dX6_hang_55
  · have u_30 := hq_2.2.2 c_3
    refine lv_aload_n hx hb dX6_hang_12 rfl (lv_at hl 0 rfl) ?_
    refine lv_bipush (v := (-2)) hx hb dX6_hang_13 (by decide) ?_
    refine tm_V (As := [.int (-2)]) (rest := []) ⟨hx, hb, hml, hown, htg⟩ (c_X6_refuse l D E G _ a C hT ((-2) : Int32)) (cwV 1 htg (oh_gV q_296 q_298 q_0 q_66 q_299) rfl rfl rfl pdVX6_refuse ⟨Nat.le_of_ble_eq_true rfl, Nat.le_of_ble_eq_true rfl⟩) hK hP hD hG hS hA (va_recv hK hP (ci := 6) (q0 := 0) rfl (oh_wg (by decide) (sX_0 hT))) rfl hl.1 rfl (Nat.le_of_ble_eq_true rfl) dX6_hang_15 ⟨Nat.le_of_ble_eq_true rfl, Nat.le_of_ble_eq_true rfl⟩ (fun r_31 C_32 H locs hq_33 hP hD hS => ?_)
    obtain ⟨hT, f_34, hq_33⟩ := hq_33
    have hF := fr_tr hF f_34 (by decide) (by decide)
    refine W.widen (k := 0) (n := 0) (Nat.le_refl _) (Nat.le_refl _) ?_
    have t_35 := hT
    rw [hQ]
    exact W.iret (v := r_31) hx hb hr (fun t ht hW => ⟨⟨r_31, C_32, rfl, ⟨hT, hF, ⟨(congrArg ga (f_34.1 12 rfl (by decide))), (fun A hA hok => Eq.trans hq_33 (pif_neg (by unfold okJ; rw [← (show ga (C 10) ((2 : Int32)).toNatClampNeg = A 5 0 2 from hA.1 2 (by decide)), ← (show ga (C 10) ((3 : Int32)).toNatClampNeg = A 5 0 3 from hA.1 3 (by decide))]; exact u_30)).symm)⟩⟩, ⟨by rw [ht]; exact hP, hD⟩⟩, hS.F ht⟩) hS.2.2 dX6_hang_18

noncomputable def cvL (v : Int32) : Int64 := pif (v = 1000000000) 1000000000000 (Int32.toInt64 v)
theorem cv_i {a : Int32} (ha : rg a 0 1000000000) : (cvL a).toInt = (if a.toInt = 1000000000 then 1000000000000 else a.toInt) := by
  unfold cvL
  by_cases q : a = 1000000000
  · rw [pif_pos q, q]
    rfl
  · rw [pif_neg q, oh_l32, if_neg (show ¬ a.toInt = 1000000000 from fun e => q (Int32.toInt_inj.mp e))]
theorem cv_lt {a b : Int32} (ha : rg a 0 1000000000) (hb : rg b 0 1000000000) : cvL a < cvL b ↔ a < b := by
  rw [Int64.lt_iff_toInt_lt, Int32.lt_iff_toInt_lt, cv_i ha, cv_i hb]
  have h1 := ha.2
  have h2 := hb.2
  by_cases p : a.toInt = 1000000000
  · rw [if_pos p]
    by_cases q : b.toInt = 1000000000
    · rw [if_pos q]
      omega
    · rw [if_neg q]
      omega
  · rw [if_neg p]
    by_cases q : b.toInt = 1000000000
    · rw [if_pos q]
      omega
    · rw [if_neg q]
theorem cv_m {A : LA} (h : okA A) {w s f t r : Int32} (h0 : rg w 0 4) (hl : w < A 5 0 2) (hf : rg f 0 15) (ht : rg t 0 15) (e : r = mcA A w s f t 1) : (r = -1 → (1000000000000 : Int64) = cvL (lcA A w s f t 1)) ∧ (¬ r = -1 → Int32.toInt64 r = cvL (lcA A w s f t 1)) := by
  have m := mc_w h h0 hl hf ht e
  have l := lc_w h h0 hl hf ht (r := lcA A w s f t 1) rfl
  constructor
  · intro z
    exact (pif_pos (l.mpr (m.mp z))).symm
  · intro z
    have q : hasW (EcA A w s 1) f.toNatClampNeg t.toNatClampNeg := Classical.byContradiction (fun y => z (m.mpr y))
    refine Eq.trans ?_ (pif_neg (fun y => l.mp y q)).symm
    rw [e, show mcA A w s f t 1 = _ from pif_pos q, show lcA A w s f t 1 = _ from pif_pos q]
theorem hgV_r {A : LA} (h : okA A) {w s f t : Int32} (h0 : rg w 0 4) (hl : w < A 5 0 2) (hf : rg f 0 15) (ht : rg t 0 15) (b : Nat) : rg (hgV A w s f t b) 0 1000000000 := lc_r (ok_fall h b) h0 (by rw [putA_5 (by decide)]; exact hl) hf ht
theorem hg_1 {A : LA} (h : okA A) {w s f t : Int32} (h0 : rg w 0 4) (hl : w < A 5 0 2) (hf : rg f 0 15) (ht : rg t 0 15) : ∀ k : Nat, k ≤ 16 → ((hgA A w s f t k).1 = -1 → (hgA A w s f t k).2 = -1) ∧ (¬ (hgA A w s f t k).1 = -1 → rg (hgA A w s f t k).2 0 1000000000) := by
  intro k
  induction k with
  | zero =>
    intro _
    exact ⟨fun _ => rfl, fun z => absurd rfl z⟩
  | succ k ih =>
    intro hk
    by_cases q : (hgA A w s f t k).2 < hgV A w s f t k
    · rw [show hgA A w s f t (k + 1) = _ from pif_pos q]
      refine ⟨fun z => ?_, fun _ => hgV_r h h0 hl hf ht k⟩
      have z2 := congrArg Int32.toInt z
      rw [show (Int32.ofNat k).toInt = (k : Int) from nI_toInt (by omega), show (-1 : Int32).toInt = -1 from rfl] at z2
      omega
    · rw [show hgA A w s f t (k + 1) = _ from pif_neg q]
      exact ih (by omega)

set_option maxHeartbeats 4000000 in
set_option maxRecDepth 100000 in
theorem e2_X7_hang (l : Launch) (D : va_G) (E : Nat → ClassId) (G : Nat → Nat) (sz : Nat) (a : Nat → Nat) (C : Nat → va_E) (n : Nat) (hn : 74 ≤ n) (hT : TyM a E C) (x1 : Int32) (x2 : Int32) (x3 : Int32) (x4 : Int32) (hR : RelM C) : Met l yX7_hang (oh_w yX7_hang cX7_hang 13 (some .int)) ({ frames := 7, cells := 0, slots := 0, locals := 177 }) (oh_Pm D E G [.ref (a 0), .int x1, .int x2, .int x3, .int x4] (oh_W n a C) sz) (va_Qi (fun r (u : Nat → va_E) => TyM a E u ∧ fr [(8, 9), (15, 16), (48, 64)] [] C u ∧ (RelM u) ∧ (∀ A : LA, absM C A → absM u A) ∧ (∀ A : LA, absM C A → okA A → r = spHang A x1 x2 x3 x4)) (oh_B D (va_A (oh_W n a C) sz) (fun u => oh_W n a u)) (va_A (oh_W n a C) sz)) 0 0 (va_A (oh_W n a C) sz) := by
  refine Met.ofW (cc := cX7_hang) (maxL := 13) (ret := (some .int)) (by decide) rfl ?_
  intro p e s m args below meth c s₁ B hml hv
  obtain ⟨rfl, hsz, hP, hK, hD0, hG⟩ := hv
  have hx := B.exec
  have hb := B.bytes
  have hr := B.returns
  have hts := atoms_spec (ws := (oh_w yX7_hang cX7_hang 13 (some .int))) B.pre
  have htg : ∀ w ∈ oh_t, w.before _ s = true := fun w h => hts w (List.mem_cons_of_mem _ h)
  have hown : s.vm.findClass RX7 = some m.cls := findClass_of_methodNamed B.named
  have hlocks := B.notSynchronized
  have hT0 := hT
  subst hsz
  have hD := hD0.self (sz := s.heap.size)
  generalize hAe : va_A (oh_W n a C) s.heap.size = A at hD hG ⊢
  have hA : ∀ q : Nat, s.heap.size ≤ q → A q := fun q h => by rw [← hAe]; exact Or.inr h
  have hS : va_S A s.heap s.heap [] := va_S.rf
  have hF : fr [(8, 9), (15, 16), (48, 64)] [] C C := fr_rf
  have hl := lv_entry ([.ref (a 0), .int x1, .int x2, .int x3, .int x4]) (n := 13) (Nat.le_of_ble_eq_true rfl)
  rw [lg_entry_eq]
  generalize (lg_sl ([.ref (a 0), .int x1, .int x2, .int x3, .int x4]) ++ List.replicate (13 - (lg_sl ([.ref (a 0), .int x1, .int x2, .int x3, .int x4])).length) Slot.unset).toArray = ls at hl ⊢
  have hl : lv_has ls 13 [(0, .ref (a 0)), (1, .int x1), (2, .int x2), (3, .int x3), (4, .int x4)] := hl
  refine oh_genQ (fun Q hQ => ?_)
  refine lv_aload_n hx hb dX7_hang_0 rfl (lv_at hl 0 rfl) ?_
  refine lv_iload_n hx hb dX7_hang_1 rfl (lv_at hl 1 rfl) ?_
  refine lv_iload_n hx hb dX7_hang_2 rfl (lv_at hl 2 rfl) ?_
  refine tq_V (As := [.int x1, .int x2]) (rest := []) (ws := (oh_W n a C)) ⟨hx, hb, hml, hown, htg⟩ (e_X7_isPack l D E G a C n hn hT x1 x2 hR.1) (cwV 2 htg (oh_gV q_1290 q_1292 q_50 q_73 q_1293) rfl rfl rfl pdVX7_isPack ⟨Nat.le_of_ble_eq_true rfl, Nat.le_of_ble_eq_true rfl⟩) hK hP hG hS (va_recv hK hP (ci := 7) (q0 := 0) rfl (oh_wg (Nat.lt_of_lt_of_le (by decide) hn) (sM_0 hT))) rfl hl.1 rfl (Nat.le_of_ble_eq_true rfl) dX7_hang_3 ⟨Nat.le_of_ble_eq_true rfl, Nat.le_of_ble_eq_true rfl⟩ (fun r_1 hq_2 => ?_)
  refine lv_if_eq (tgt := 24) hx hb dX7_hang_6 (by decide) (fun (c_3 : r_1 = 0) => ?_) (fun (c_3 : ¬ (r_1 = 0)) => ?_)
  · have u_4 := hq_2.2.2 c_3
    refine lv_aload_n hx hb dX7_hang_24 rfl (lv_at hl 0 rfl) ?_
    refine lv_bipush (v := (-2)) hx hb dX7_hang_25 (by decide) ?_
    refine tm_V (As := [.int (-2)]) (rest := []) ⟨hx, hb, hml, hown, htg⟩ (c_X7_refuse l D E G _ a C n hn hT ((-2) : Int32) (rg_w (rg_c (v := (-2)) (lo := (-2)) (hi := (-2)) (by decide)) (by decide))) (cwV 1 htg (oh_gV q_1071 q_1073 q_29 q_73 q_1074) rfl rfl rfl pdVX7_refuse ⟨Nat.le_of_ble_eq_true rfl, Nat.le_of_ble_eq_true rfl⟩) hK hP hD hG hS hA (va_recv hK hP (ci := 7) (q0 := 0) rfl (oh_wg (Nat.lt_of_lt_of_le (by decide) hn) (sM_0 hT))) rfl hl.1 rfl (Nat.le_of_ble_eq_true rfl) dX7_hang_27 ⟨Nat.le_of_ble_eq_true rfl, Nat.le_of_ble_eq_true rfl⟩ (fun r_5 C_6 H locs hq_7 hP hD hS => ?_)
    obtain ⟨hT, f_8, hq_7⟩ := hq_7
    have hF := fr_tr hF f_8 (by decide) (by decide)
    refine W.widen (k := 0) (n := 0) (Nat.le_refl _) (Nat.le_refl _) ?_
    have t_9 := hT
    rw [hQ]
    exact W.iret (v := r_5) hx hb hr (fun t ht hW => ⟨⟨r_5, C_6, rfl, ⟨hT, hF, ⟨⟨hR.1.fr hF (by decide), hR.2.fr hF (by decide)⟩, (fun A hA => by have h1 := hA; have h2 := absM_fr h1 hT0 (show fr [(8, 9)] [] C C_6 from (fr_tr fr_rf f_8 (by decide) (by decide))) (by decide) (by decide) (by decide); exact h2), (fun A hA hok => Eq.trans hq_7 (pif_neg (by unfold okJ; rw [← (show gi (C 0) 13 = A 5 0 2 from hA.1 2 (by decide)), ← (show gi (C 0) 15 = A 5 0 3 from hA.1 3 (by decide))]; exact (fun h8 => u_4 h8.1))).symm)⟩⟩, ⟨by rw [ht]; exact hP, hD⟩⟩, hS.F ht⟩) hS.2.2 dX7_hang_30
  · have u_10 := hq_2.2.1 c_3
    refine lv_iload_n hx hb dX7_hang_9 rfl (lv_at hl 3 rfl) ?_
    refine tq_S (As := [.int x3]) (rest := []) (ws := []) ⟨hx, hb, hml, hown, htg⟩ (e_X7_isPlace l D E G x3) (va_cwS 1 htg (oh_gS q_1130 q_1131 q_73 q_1132) rfl rfl rfl pdX7_isPlace ⟨Nat.le_of_ble_eq_true rfl, Nat.le_of_ble_eq_true rfl⟩) hK va_nil hG hS rfl hl.1 rfl (Nat.le_of_ble_eq_true rfl) dX7_hang_10 ⟨Nat.le_of_ble_eq_true rfl, Nat.le_of_ble_eq_true rfl⟩ (fun r_11 hq_12 => ?_)
    refine lv_if_eq (tgt := 24) hx hb dX7_hang_13 (by decide) (fun (c_13 : r_11 = 0) => ?_) (fun (c_13 : ¬ (r_11 = 0)) => ?_)
    · have u_14 := hq_12.2.2 c_13
      refine lv_aload_n hx hb dX7_hang_24 rfl (lv_at hl 0 rfl) ?_
      refine lv_bipush (v := (-2)) hx hb dX7_hang_25 (by decide) ?_
      refine tm_V (As := [.int (-2)]) (rest := []) ⟨hx, hb, hml, hown, htg⟩ (c_X7_refuse l D E G _ a C n hn hT ((-2) : Int32) (rg_w (rg_c (v := (-2)) (lo := (-2)) (hi := (-2)) (by decide)) (by decide))) (cwV 1 htg (oh_gV q_1071 q_1073 q_29 q_73 q_1074) rfl rfl rfl pdVX7_refuse ⟨Nat.le_of_ble_eq_true rfl, Nat.le_of_ble_eq_true rfl⟩) hK hP hD hG hS hA (va_recv hK hP (ci := 7) (q0 := 0) rfl (oh_wg (Nat.lt_of_lt_of_le (by decide) hn) (sM_0 hT))) rfl hl.1 rfl (Nat.le_of_ble_eq_true rfl) dX7_hang_27 ⟨Nat.le_of_ble_eq_true rfl, Nat.le_of_ble_eq_true rfl⟩ (fun r_15 C_16 H locs hq_17 hP hD hS => ?_)
      obtain ⟨hT, f_18, hq_17⟩ := hq_17
      have hF := fr_tr hF f_18 (by decide) (by decide)
      refine W.widen (k := 0) (n := 0) (Nat.le_refl _) (Nat.le_refl _) ?_
      have t_19 := hT
      rw [hQ]
      exact W.iret (v := r_15) hx hb hr (fun t ht hW => ⟨⟨r_15, C_16, rfl, ⟨hT, hF, ⟨⟨hR.1.fr hF (by decide), hR.2.fr hF (by decide)⟩, (fun A hA => by have h1 := hA; have h2 := absM_fr h1 hT0 (show fr [(8, 9)] [] C C_16 from (fr_tr fr_rf f_18 (by decide) (by decide))) (by decide) (by decide) (by decide); exact h2), (fun A hA hok => Eq.trans hq_17 (pif_neg (by unfold okJ; rw [← (show gi (C 0) 13 = A 5 0 2 from hA.1 2 (by decide)), ← (show gi (C 0) 15 = A 5 0 3 from hA.1 3 (by decide))]; exact (fun h8 => u_14 h8.2.1))).symm)⟩⟩, ⟨by rw [ht]; exact hP, hD⟩⟩, hS.F ht⟩) hS.2.2 dX7_hang_30
    · have u_20 := hq_12.2.1 c_13
      refine lv_iload hx hb dX7_hang_16 (lv_at hl 4 rfl) ?_
      refine tq_S (As := [.int x4]) (rest := []) (ws := []) ⟨hx, hb, hml, hown, htg⟩ (e_X7_isPlace l D E G x4) (va_cwS 1 htg (oh_gS q_1130 q_1131 q_73 q_1132) rfl rfl rfl pdX7_isPlace ⟨Nat.le_of_ble_eq_true rfl, Nat.le_of_ble_eq_true rfl⟩) hK va_nil hG hS rfl hl.1 rfl (Nat.le_of_ble_eq_true rfl) dX7_hang_18 ⟨Nat.le_of_ble_eq_true rfl, Nat.le_of_ble_eq_true rfl⟩ (fun r_21 hq_22 => ?_)
      refine lv_if_ne (tgt := 31) hx hb dX7_hang_21 (by decide) (fun (c_23 : ¬ (r_21 = 0)) => ?_) (fun (c_23 : r_21 = 0) => ?_)
      · have u_24 := hq_22.2.1 c_23
        refine lv_aload_n hx hb dX7_hang_31 rfl (lv_at hl 0 rfl) ?_
        refine va_get (D := D) (ci := 7) (v := .int (gi (C 0) 11)) (C := RX7) (T := TX7) (N := 29) hx hb htg ig_7 hown hK hP 0 (oh_wg (Nat.lt_of_lt_of_le (by decide) hn) (sM_0 hT)) rfl 11 (by decide) (htg _ q_984) (fun _ h9 => h9) rfl dX7_hang_32 ?_
        refine lv_if_eq (tgt := 52) hx hb dX7_hang_35 (by decide) (fun (c_25 : (gi (C 0) 11) = 0) => ?_) (fun (c_25 : ¬ ((gi (C 0) 11) = 0)) => ?_)
        · refine lv_aload_n hx hb dX7_hang_52 rfl (lv_at hl 0 rfl) ?_
          refine lv_bipush (v := (-5)) hx hb dX7_hang_53 (by decide) ?_
          refine tm_V (As := [.int (-5)]) (rest := []) ⟨hx, hb, hml, hown, htg⟩ (c_X7_refuse l D E G _ a C n hn hT ((-5) : Int32) (rg_w (rg_c (v := (-5)) (lo := (-5)) (hi := (-5)) (by decide)) (by decide))) (cwV 1 htg (oh_gV q_1071 q_1073 q_29 q_73 q_1074) rfl rfl rfl pdVX7_refuse ⟨Nat.le_of_ble_eq_true rfl, Nat.le_of_ble_eq_true rfl⟩) hK hP hD hG hS hA (va_recv hK hP (ci := 7) (q0 := 0) rfl (oh_wg (Nat.lt_of_lt_of_le (by decide) hn) (sM_0 hT))) rfl hl.1 rfl (Nat.le_of_ble_eq_true rfl) dX7_hang_55 ⟨Nat.le_of_ble_eq_true rfl, Nat.le_of_ble_eq_true rfl⟩ (fun r_26 C_27 H locs hq_28 hP hD hS => ?_)
          obtain ⟨hT, f_29, hq_28⟩ := hq_28
          have hF := fr_tr hF f_29 (by decide) (by decide)
          refine W.widen (k := 0) (n := 0) (Nat.le_refl _) (Nat.le_refl _) ?_
          have t_30 := hT
          rw [hQ]
          exact W.iret (v := r_26) hx hb hr (fun t ht hW => ⟨⟨r_26, C_27, rfl, ⟨hT, hF, ⟨⟨hR.1.fr hF (by decide), hR.2.fr hF (by decide)⟩, (fun A hA => by have h1 := hA; have h2 := absM_fr h1 hT0 (show fr [(8, 9)] [] C C_27 from (fr_tr fr_rf f_29 (by decide) (by decide))) (by decide) (by decide) (by decide); exact h2), (fun A hA hok => by have hp := (show okPk (A 5 0 2) (A 5 0 3) x1 x2 by rw [← (show gi (C 0) 13 = A 5 0 2 from hA.1 2 (by decide)), ← (show gi (C 0) 15 = A 5 0 3 from hA.1 3 (by decide))]; exact u_10.2.2.2); have i1 : rg x1 0 4 := (rg_w (lo := 0) (hi := 4) u_10.1 (by decide)); have i3 : rg x3 0 15 := (rg_w (lo := 0) (hi := 15) u_20 (by decide)); have i4 : rg x4 0 15 := (rg_w (lo := 0) (hi := 15) u_24 (by decide)); have hj : okJ A x1 x2 x3 x4 := ⟨hp, (oh_rgI (p := 0) (q := 15) (rg_w (lo := 0) (hi := 15) u_20 (by decide))), (oh_rgI (p := 0) (q := 15) (rg_w (lo := 0) (hi := 15) u_24 (by decide)))⟩; have e11 : gi (C 0) 11 = A 5 0 1 := hA.1 1 (by decide); exact Eq.trans hq_28 (Eq.trans (pif_pos hj) (pif_pos (Or.inl (Eq.trans e11.symm c_25)))).symm)⟩⟩, ⟨by rw [ht]; exact hP, hD⟩⟩, hS.F ht⟩) hS.2.2 dX7_hang_58
        · refine lv_aload_n hx hb dX7_hang_38 rfl (lv_at hl 0 rfl) ?_
          refine lv_iload_n hx hb dX7_hang_39 rfl (lv_at hl 1 rfl) ?_
          refine lv_iload_n hx hb dX7_hang_40 rfl (lv_at hl 2 rfl) ?_
          refine lv_iload_n hx hb dX7_hang_41 rfl (lv_at hl 3 rfl) ?_
          refine lv_iload hx hb dX7_hang_42 (lv_at hl 4 rfl) ?_
          refine lv_iconst (v := 1) hx hb dX7_hang_44 (by decide) ?_
          refine tm_V (As := [.int x1, .int x2, .int x3, .int x4, .int 1]) (rest := []) ⟨hx, hb, hml, hown, htg⟩ (e_X7_cheapestOf l D E G _ a C n hn hT x1 x2 x3 x4 (1 : Int32) (rg_w u_10.1 (by decide)) (rg_w u_20 (by decide)) (rg_w u_24 (by decide)) u_10.2.1) (cwV 5 htg (oh_gV q_1347 q_1349 q_59 q_73 q_1350) rfl rfl rfl pdVX7_cheapestOf ⟨Nat.le_of_ble_eq_true rfl, Nat.le_of_ble_eq_true rfl⟩) hK hP hD hG hS hA (va_recv hK hP (ci := 7) (q0 := 0) rfl (oh_wg (Nat.lt_of_lt_of_le (by decide) hn) (sM_0 hT))) rfl hl.1 rfl (Nat.le_of_ble_eq_true rfl) dX7_hang_45 ⟨Nat.le_of_ble_eq_true rfl, Nat.le_of_ble_eq_true rfl⟩ (fun r_31 C_32 H locs hq_33 hP hD hS => ?_)
          obtain ⟨hT, f_34, hq_33⟩ := hq_33
          have hF := fr_tr hF f_34 (by decide) (by decide)
          refine W.widen (k := 0) (n := 0) (Nat.le_refl _) (Nat.le_refl _) ?_
          have t_35 := hT
          refine lv_iconst (v := (-1)) hx hb dX7_hang_48 (by decide) ?_
          refine lv_icmp_ne (tgt := 59) hx hb dX7_hang_49 (by decide) (fun (c_36 : ¬ (r_31 = (-1))) => ?_) (fun (c_36 : r_31 = (-1)) => ?_)
          · refine lv_iconst (v := (-1)) hx hb dX7_hang_59 (by decide) ?_
            refine lv_istore (lv' := [(5, .int (-1)), (0, .ref (a 0)), (1, .int x1), (2, .int x2), (3, .int x3), (4, .int x4)]) hx hb dX7_hang_60 hl (by decide) rfl (fun ls hl => ?_)
            refine lv_lconst (v := 0) hx hb dX7_hang_62 (by decide) ?_
            refine lv_lstore (lv' := [(6, .long 0), (5, .int (-1)), (0, .ref (a 0)), (1, .int x1), (2, .int x2), (3, .int x3), (4, .int x4)]) hx hb dX7_hang_63 hl (by decide) rfl (fun ls hl => ?_)
            refine lv_iconst (v := 0) hx hb dX7_hang_65 (by decide) ?_
            refine lv_istore (lv' := [(8, .int 0), (6, .long 0), (5, .int (-1)), (0, .ref (a 0)), (1, .int x1), (2, .int x2), (3, .int x3), (4, .int x4)]) hx hb dX7_hang_66 hl (by decide) rfl (fun ls hl => ?_)
            have L_68 : ∀ (d : Nat) (K68 : Nat → va_E) (z68_8 : Int32) (z68_6 : Int64) (z68_5 : Int32) (H : Heap) (locs : List Loc) (ls : Array Slot), (16 - z68_8.toInt).toNat = d → rg z68_8 0 16 → (∀ A : LA, absM C A → absM K68 A) → (∀ A : LA, absM C A → okA A → z68_5 = (hgA A x1 x2 x3 x4 z68_8.toNatClampNeg).1 ∧ (¬ z68_5 = -1 → z68_6 = cvL (hgA A x1 x2 x3 x4 z68_8.toNatClampNeg).2)) → (z68_8.toInt ≤ (gi (C 0) 11).toInt) → TyM a E K68 → fr [(8, 9), (15, 16), (48, 64)] [] C K68 → fr [(15, 16), (48, 64)] [] C_32 K68 → va_P D vwCl (oh_W n a K68) H → va_D A (oh_W n a K68) → va_S A s.heap H locs → lv_has ls 13 [(8, .int z68_8), (6, .long z68_6), (5, .int z68_5), (0, .ref (a 0)), (1, .int x1), (2, .int x2), (3, .int x3), (4, .int x4)] → W p l e ({ frames := 7, cells := 0, slots := 0, locals := 177 }) s m (([.ref (a 0), .int x1, .int x2, .int x3, .int x4] : List Value).toArray) below meth c H locs 0 0 Q (F0 m 68 ls []) := by
              intro d
              induction d using Nat.strongRecOn with
              | ind d ih_68 =>
              intro K68 z68_8 z68_6 z68_5 H locs ls hd_68 hz68_8 hx_68 hv_68 hy_68 hT hF hLF_68 hP hD hS hl
              have t_37 := hT
              refine lv_iload hx hb dX7_hang_68 (lv_at hl 0 rfl) ?_
              refine lv_aload_n hx hb dX7_hang_70 rfl (lv_at hl 3 rfl) ?_
              refine va_get (D := D) (ci := 7) (v := .int (gi (C 0) 11)) (C := RX7) (T := TX7) (N := 29) hx hb htg ig_7 hown hK hP 0 (oh_wg (Nat.lt_of_lt_of_le (by decide) hn) (sM_0 hT)) rfl 11 (by decide) (htg _ q_984) (fun _ h9 => h9) (oh_fv (c := K68 0) (j := 11) rfl (Eq.trans (congrArg vi (hLF_68.2 11 (by decide))) (congrArg vi (f_34.2 11 (by decide))))) dX7_hang_71 ?_
              refine lv_icmp_ge (tgt := 169) hx hb dX7_hang_74 (by decide) (fun (c_38 : (gi (C 0) 11) ≤ z68_8) => ?_) (fun (c_38 : ¬ ((gi (C 0) 11) ≤ z68_8)) => ?_)
              · refine lv_iload hx hb dX7_hang_169 (lv_at hl 2 rfl) ?_
                rw [hQ]
                exact W.iret (v := z68_5) hx hb hr (fun t ht hW => ⟨⟨z68_5, K68, rfl, ⟨hT, hF, ⟨⟨hR.1.fr hF (by decide), hR.2.fr hF (by decide)⟩, (fun A hA => by have h1 := (hx_68 A hA); exact h1), (fun A hA hok => by have hp := (show okPk (A 5 0 2) (A 5 0 3) x1 x2 by rw [← (show gi (C 0) 13 = A 5 0 2 from hA.1 2 (by decide)), ← (show gi (C 0) 15 = A 5 0 3 from hA.1 3 (by decide))]; exact u_10.2.2.2); have i1 : rg x1 0 4 := (rg_w (lo := 0) (hi := 4) u_10.1 (by decide)); have i3 : rg x3 0 15 := (rg_w (lo := 0) (hi := 15) u_20 (by decide)); have i4 : rg x4 0 15 := (rg_w (lo := 0) (hi := 15) u_24 (by decide)); have hj : okJ A x1 x2 x3 x4 := ⟨hp, (oh_rgI (p := 0) (q := 15) (rg_w (lo := 0) (hi := 15) u_20 (by decide))), (oh_rgI (p := 0) (q := 15) (rg_w (lo := 0) (hi := 15) u_24 (by decide)))⟩; have e11 : gi (C 0) 11 = A 5 0 1 := hA.1 1 (by decide); have hw := mc_w hok i1 hp.1.2 i3 i4 (hq_33 A hA hok hp.1.2 ⟨by decide, by decide⟩); have h7 := (hv_68 A hA hok).1; rw [n1_M hA c_38 hy_68] at h7; exact Eq.trans h7 (Eq.trans (pif_pos hj) (pif_neg (fun q => q.elim (fun e => c_25 (Eq.trans e11 e)) (fun e => c_36 (hw.mpr e))))).symm)⟩⟩, ⟨by rw [ht]; exact hP, hD⟩⟩, hS.F ht⟩) hS.2.2 dX7_hang_171
              · refine lv_aload_n hx hb dX7_hang_77 rfl (lv_at hl 3 rfl) ?_
                refine va_get (D := D) (ci := 7) (v := .ref (a 10)) (C := RX7) (T := TX7) (N := 29) hx hb htg ig_7 hown hK hP 0 (oh_wg (Nat.lt_of_lt_of_le (by decide) hn) (sM_0 hT)) rfl 12 (by decide) (htg _ q_985) (fun _ h9 => h9) rfl dX7_hang_78 ?_
                refine lv_iload hx hb dX7_hang_81 (lv_at hl 0 rfl) ?_
                have n_39 : vp_in z68_8 16 := (rg_in (rn_ltu (u' := 15) (Int32.not_le.mp c_38) hz68_8 (rn_nel (l' := 1) c_25 (fM_0_11 hT0) (rg_c (v := 0) (lo := 0) (hi := 0) (by decide)) (by decide)) (by decide)) (by decide))
                have b_40 : (z68_8).toNatClampNeg < 16 := vp_lt n_39
                refine th_aald hx hb hK hP 10 2 (Nat.lt_of_lt_of_le (by decide) hn) (sM_10 hT) rfl n_39 dX7_hang_83 ?_
                refine lv_bipush (v := 8) hx hb dX7_hang_84 (by decide) ?_
                refine th_iald hx hb hK hP (48 + (z68_8).toNatClampNeg) (lt_blk b_40 hn (by decide)) (hT.bbridge b_40).1 (rg_in (rg_c (v := 8) (lo := 8) (hi := 8) (by decide)) (by decide)) dX7_hang_86 ?_
                refine lv_istore (lv' := [(9, .int (ga (K68 (48 + (z68_8).toNatClampNeg)) ((8 : Int32)).toNatClampNeg)), (8, .int z68_8), (6, .long z68_6), (5, .int z68_5), (0, .ref (a 0)), (1, .int x1), (2, .int x2), (3, .int x3), (4, .int x4)]) hx hb dX7_hang_87 hl (by decide) rfl (fun ls hl => ?_)
                refine lv_aload_n hx hb dX7_hang_89 rfl (lv_at hl 4 rfl) ?_
                refine va_get (D := D) (ci := 7) (v := .ref (a 10)) (C := RX7) (T := TX7) (N := 29) hx hb htg ig_7 hown hK hP 0 (oh_wg (Nat.lt_of_lt_of_le (by decide) hn) (sM_0 hT)) rfl 12 (by decide) (htg _ q_985) (fun _ h9 => h9) rfl dX7_hang_90 ?_
                refine lv_iload hx hb dX7_hang_93 (lv_at hl 1 rfl) ?_
                have n_41 : vp_in z68_8 16 := (rg_in (rn_ltu (u' := 15) (Int32.not_le.mp c_38) hz68_8 (rn_nel (l' := 1) c_25 (fM_0_11 hT0) (rg_c (v := 0) (lo := 0) (hi := 0) (by decide)) (by decide)) (by decide)) (by decide))
                have b_42 : (z68_8).toNatClampNeg < 16 := vp_lt n_41
                refine th_aald hx hb hK hP 10 2 (Nat.lt_of_lt_of_le (by decide) hn) (sM_10 hT) rfl n_41 dX7_hang_95 ?_
                refine lv_bipush (v := 8) hx hb dX7_hang_96 (by decide) ?_
                refine lv_iconst (v := 1) hx hb dX7_hang_98 (by decide) ?_
                refine th_iast (T := TyM a E) (Rl := fr [(8, 9), (15, 16), (48, 64)] [] C) hx hb hK hP hD hS (48 + (z68_8).toNatClampNeg) (lt_blk b_42 hn (by decide)) (hT.bbridge b_42).1 (rg_in (rg_c (v := 8) (lo := 8) (hi := 8) (by decide)) (by decide)) (hT.upbridge b_42 (tA_upd (hT.bbridge b_42) tA_any)) (fr_st hF (by omega) (inR_of (p := (48, 64)) (by decide) (by show 48 ≤ _; omega) (by show _ < 64; omega))) dX7_hang_99 (fun C_43 H locs e_44 hT hF hP hD hS => ?_)
                have t_45 := hT
                refine lv_aload_n hx hb dX7_hang_100 rfl (lv_at hl 4 rfl) ?_
                refine lv_iload_n hx hb dX7_hang_101 rfl (lv_at hl 5 rfl) ?_
                refine lv_iload_n hx hb dX7_hang_102 rfl (lv_at hl 6 rfl) ?_
                refine lv_iload_n hx hb dX7_hang_103 rfl (lv_at hl 7 rfl) ?_
                refine lv_iload hx hb dX7_hang_104 (lv_at hl 8 rfl) ?_
                refine lv_iconst (v := 1) hx hb dX7_hang_106 (by decide) ?_
                refine tm_V (As := [.int x1, .int x2, .int x3, .int x4, .int 1]) (rest := []) ⟨hx, hb, hml, hown, htg⟩ (e_X7_cheapestOf l D E G _ a C_43 n hn hT x1 x2 x3 x4 (1 : Int32) (rg_w u_10.1 (by decide)) (rg_w u_20 (by decide)) (rg_w u_24 (by decide)) (oh_posU (rg_w u_10.1 (by decide)) (fun i hi => th_un e_44 (by omega)) (oh_posU (rg_w u_10.1 (by decide)) (fun i hi => hLF_68.1 _ (inR_out hi (by decide)) (by omega)) (oh_posU (rg_w u_10.1 (by decide)) (fun i hi => f_34.1 _ (inR_out hi (by decide)) (by omega)) u_10.2.1)))) (cwV 5 htg (oh_gV q_1347 q_1349 q_59 q_73 q_1350) rfl rfl rfl pdVX7_cheapestOf ⟨Nat.le_of_ble_eq_true rfl, Nat.le_of_ble_eq_true rfl⟩) hK hP hD hG hS hA (va_recv hK hP (ci := 7) (q0 := 0) rfl (oh_wg (Nat.lt_of_lt_of_le (by decide) hn) (sM_0 hT))) rfl hl.1 rfl (Nat.le_of_ble_eq_true rfl) dX7_hang_107 ⟨Nat.le_of_ble_eq_true rfl, Nat.le_of_ble_eq_true rfl⟩ (fun r_46 C_47 H locs hq_48 hP hD hS => ?_)
                obtain ⟨hT, f_49, hq_48⟩ := hq_48
                have hF := fr_tr hF f_49 (by decide) (by decide)
                refine W.widen (k := 0) (n := 0) (Nat.le_refl _) (Nat.le_refl _) ?_
                have t_50 := hT
                refine lv_istore (lv' := [(10, .int r_46), (9, .int (ga (K68 (48 + (z68_8).toNatClampNeg)) ((8 : Int32)).toNatClampNeg)), (8, .int z68_8), (6, .long z68_6), (5, .int z68_5), (0, .ref (a 0)), (1, .int x1), (2, .int x2), (3, .int x3), (4, .int x4)]) hx hb dX7_hang_110 hl (by decide) rfl (fun ls hl => ?_)
                refine lv_aload_n hx hb dX7_hang_112 rfl (lv_at hl 5 rfl) ?_
                refine va_get (D := D) (ci := 7) (v := .ref (a 10)) (C := RX7) (T := TX7) (N := 29) hx hb htg ig_7 hown hK hP 0 (oh_wg (Nat.lt_of_lt_of_le (by decide) hn) (sM_0 hT)) rfl 12 (by decide) (htg _ q_985) (fun _ h9 => h9) rfl dX7_hang_113 ?_
                refine lv_iload hx hb dX7_hang_116 (lv_at hl 2 rfl) ?_
                have n_51 : vp_in z68_8 16 := (rg_in (rn_ltu (u' := 15) (Int32.not_le.mp c_38) hz68_8 (rn_nel (l' := 1) c_25 (fM_0_11 hT0) (rg_c (v := 0) (lo := 0) (hi := 0) (by decide)) (by decide)) (by decide)) (by decide))
                have b_52 : (z68_8).toNatClampNeg < 16 := vp_lt n_51
                refine th_aald hx hb hK hP 10 2 (Nat.lt_of_lt_of_le (by decide) hn) (sM_10 hT) rfl n_51 dX7_hang_118 ?_
                refine lv_bipush (v := 8) hx hb dX7_hang_119 (by decide) ?_
                refine lv_iload hx hb dX7_hang_121 (lv_at hl 1 rfl) ?_
                refine th_iast (T := TyM a E) (Rl := fr [(8, 9), (15, 16), (48, 64)] [] C) hx hb hK hP hD hS (48 + (z68_8).toNatClampNeg) (lt_blk b_52 hn (by decide)) (hT.bbridge b_52).1 (rg_in (rg_c (v := 8) (lo := 8) (hi := 8) (by decide)) (by decide)) (hT.upbridge b_52 (tA_upd (hT.bbridge b_52) tA_any)) (fr_st hF (by omega) (inR_of (p := (48, 64)) (by decide) (by show 48 ≤ _; omega) (by show _ < 64; omega))) dX7_hang_123 (fun C_53 H locs e_54 hT hF hP hD hS => ?_)
                have t_55 := hT
                refine lv_iload hx hb dX7_hang_124 (lv_at hl 0 rfl) ?_
                refine lv_iconst (v := (-1)) hx hb dX7_hang_126 (by decide) ?_
                refine lv_icmp_ne (tgt := 136) hx hb dX7_hang_127 (by decide) (fun (c_56 : ¬ (r_46 = (-1))) => ?_) (fun (c_56 : r_46 = (-1)) => ?_)
                · refine lv_iload hx hb dX7_hang_136 (lv_at hl 0 rfl) ?_
                  refine lv_i2l (v := Int32.toInt64 r_46) hx hb dX7_hang_138 (by rfl) ?_
                  refine lv_lstore (lv' := [(11, .long (Int32.toInt64 r_46)), (10, .int r_46), (9, .int (ga (K68 (48 + (z68_8).toNatClampNeg)) ((8 : Int32)).toNatClampNeg)), (8, .int z68_8), (6, .long z68_6), (5, .int z68_5), (0, .ref (a 0)), (1, .int x1), (2, .int x2), (3, .int x3), (4, .int x4)]) hx hb dX7_hang_139 hl (by decide) rfl (fun ls hl => ?_)
                  refine lv_iload hx hb dX7_hang_141 (lv_at hl 5 rfl) ?_
                  refine lv_iconst (v := (-1)) hx hb dX7_hang_143 (by decide) ?_
                  refine lv_icmp_eq (tgt := 155) hx hb dX7_hang_144 (by decide) (fun (c_57 : z68_5 = (-1)) => ?_) (fun (c_57 : ¬ (z68_5 = (-1))) => ?_)
                  · refine lv_iload hx hb dX7_hang_155 (lv_at hl 3 rfl) ?_
                    refine lv_istore (lv' := [(5, .int z68_8), (11, .long (Int32.toInt64 r_46)), (10, .int r_46), (9, .int (ga (K68 (48 + (z68_8).toNatClampNeg)) ((8 : Int32)).toNatClampNeg)), (8, .int z68_8), (6, .long z68_6), (0, .ref (a 0)), (1, .int x1), (2, .int x2), (3, .int x3), (4, .int x4)]) hx hb dX7_hang_157 hl (by decide) rfl (fun ls hl => ?_)
                    refine lv_lload hx hb dX7_hang_159 (lv_at hl 1 rfl) ?_
                    refine lv_lstore (lv' := [(6, .long (Int32.toInt64 r_46)), (5, .int z68_8), (11, .long (Int32.toInt64 r_46)), (10, .int r_46), (9, .int (ga (K68 (48 + (z68_8).toNatClampNeg)) ((8 : Int32)).toNatClampNeg)), (8, .int z68_8), (0, .ref (a 0)), (1, .int x1), (2, .int x2), (3, .int x3), (4, .int x4)]) hx hb dX7_hang_161 hl (by decide) rfl (fun ls hl => ?_)
                    refine lv_iinc (v := z68_8 + 1) (lv' := [(8, .int (z68_8 + 1)), (6, .long (Int32.toInt64 r_46)), (5, .int z68_8), (11, .long (Int32.toInt64 r_46)), (10, .int r_46), (9, .int (ga (K68 (48 + (z68_8).toNatClampNeg)) ((8 : Int32)).toNatClampNeg)), (0, .ref (a 0)), (1, .int x1), (2, .int x2), (3, .int x3), (4, .int x4)]) hx hb dX7_hang_163 hl (k := 5) rfl (by rfl) (by decide) rfl (fun ls hl => ?_)
                    refine lv_goto (tgt := 68) hx hb dX7_hang_166 (by decide) ?_
                    exact ih_68 _ (hd_68 ▸ mu_up 16 (rn_ltu (u' := 15) (Int32.not_le.mp c_38) hz68_8 (rn_nel (l' := 1) c_25 (fM_0_11 hT0) (rg_c (v := 0) (lo := 0) (hi := 0) (by decide)) (by decide)) (by decide)) (by decide)) C_53 (z68_8 + 1) (Int32.toInt64 r_46) z68_8 _ _ ls rfl (rg_w (rg_add (lo := 1) (hi := 16) (rn_ltu (u' := 15) (Int32.not_le.mp c_38) hz68_8 (rn_nel (l' := 1) c_25 (fM_0_11 hT0) (rg_c (v := 0) (lo := 0) (hi := 0) (by decide)) (by decide)) (by decide)) (rg_c (v := 1) (lo := 1) (hi := 1) (by decide)) (by decide)) (by decide)) (fun A hA => by have h1 := (hx_68 A hA); have h2 := absM_st (t := 1) t_37 h1 (by decide) (show (z68_8).toNatClampNeg < 16 from b_42) e_44; have h3 := absM_fr h2 t_45 (show fr [(15, 16)] [] C_43 C_47 from (fr_tr fr_rf f_49 (by decide) (by decide))) (by decide) (by decide) (by decide); have h4 := absM_st (t := 1) t_50 h3 (by decide) (show (z68_8).toNatClampNeg < 16 from b_52) e_54; rw [putA_back (show A 1 (z68_8).toNatClampNeg ((8 : Int32)).toNatClampNeg = ga (K68 (48 + (z68_8).toNatClampNeg)) ((8 : Int32)).toNatClampNeg from (h1.2.2 1 (by decide) (z68_8).toNatClampNeg (by rw [oh_nat (rg_w (lo := 0) (hi := 15) (rn_ltu (u' := 15) (Int32.not_le.mp c_38) hz68_8 (rn_nel (l' := 1) c_25 (fM_0_11 hT0) (rg_c (v := 0) (lo := 0) (hi := 0) (by decide)) (by decide)) (by decide)) (by decide)) (by decide)]; exact Int32.lt_iff_toInt_lt.mp (oh_lte (Int32.not_le.mp c_38) (hA.1 1 (by decide)))) 8 (by decide) (by unfold vis; omega)).symm)] at h4; exact h4) (fun A hA hok => by have hp := (show okPk (A 5 0 2) (A 5 0 3) x1 x2 by rw [← (show gi (C 0) 13 = A 5 0 2 from hA.1 2 (by decide)), ← (show gi (C 0) 15 = A 5 0 3 from hA.1 3 (by decide))]; exact u_10.2.2.2); have i1 : rg x1 0 4 := (rg_w (lo := 0) (hi := 4) u_10.1 (by decide)); have i3 : rg x3 0 15 := (rg_w (lo := 0) (hi := 15) u_20 (by decide)); have i4 : rg x4 0 15 := (rg_w (lo := 0) (hi := 15) u_24 (by decide)); have iz : rg z68_8 0 15 := (rg_w (lo := 0) (hi := 15) (rn_ltu (u' := 15) (Int32.not_le.mp c_38) hz68_8 (rn_nel (l' := 1) c_25 (fM_0_11 hT0) (rg_c (v := 0) (lo := 0) (hi := 0) (by decide)) (by decide)) (by decide)) (by decide)); obtain ⟨h1, h2⟩ := hv_68 A hA hok; have hB : absM C_43 (putA A 1 z68_8.toNatClampNeg 8 1) := absM_st (t := 1) t_37 (hx_68 A hA) (by decide) (show (z68_8).toNatClampNeg < 16 from vp_lt (rg_in iz (by decide))) e_44; have hlB : x1 < (putA A 1 z68_8.toNatClampNeg 8 1) 5 0 2 := (by rw [putA_5 (by decide)]; exact hp.1.2); have em := hq_48 _ hB (ok_fall hok _) hlB ⟨by decide, by decide⟩; have cv := cv_m (ok_fall hok _) i1 hlB i3 i4 em; have hk := hg_1 (s := x2) hok i1 hp.1.2 i3 i4 z68_8.toNatClampNeg (by have h5 := oh_nat iz (by decide); have h6 := iz.2; omega); have hv := hgV_r (s := x2) hok i1 hp.1.2 i3 i4 z68_8.toNatClampNeg; rw [hg_y iz (by rw [hk.1 (Eq.trans h1.symm c_57)]; exact Int32.lt_iff_toInt_lt.mpr (by have h5 := hv.1; show (-1 : Int) < _; omega))]; exact ⟨rfl, fun _ => (cv.2 c_56)⟩) (by have h7 := Int32.lt_iff_toInt_lt.mp (Int32.not_le.mp c_38); have h8 : (z68_8 + 1).toInt = z68_8.toInt + 1 := oh_incr (rn_ltu (u' := 15) (Int32.not_le.mp c_38) hz68_8 (rn_nel (l' := 1) c_25 (fM_0_11 hT0) (rg_c (v := 0) (lo := 0) (hi := 0) (by decide)) (by decide)) (by decide)) (by decide); omega) hT hF (fr_ste (fr_tr (fr_ste hLF_68 e_44 (by omega) (inR_of (p := (48, 64)) (by decide) (by show 48 ≤ _; omega) (by show _ < 64; omega))) f_49 (by decide) (by decide)) e_54 (by omega) (inR_of (p := (48, 64)) (by decide) (by show 48 ≤ _; omega) (by show _ < 64; omega))) hP hD hS (lv_sub hl [0, 1, 2, 6, 7, 8, 9, 10] rfl)
                  · refine lv_lload hx hb dX7_hang_147 (lv_at hl 0 rfl) ?_
                    refine lv_lload hx hb dX7_hang_149 (lv_at hl 4 rfl) ?_
                    refine W.lcmp hx hb dX7_hang_151 ?_
                    refine lv_if_le (tgt := 163) hx hb dX7_hang_152 (by decide) (fun (c_58 : (lg_cmp (Int32.toInt64 r_46) z68_6) ≤ 0) => ?_) (fun (c_58 : ¬ ((lg_cmp (Int32.toInt64 r_46) z68_6) ≤ 0)) => ?_)
                    · refine lv_iinc (v := z68_8 + 1) (lv' := [(8, .int (z68_8 + 1)), (11, .long (Int32.toInt64 r_46)), (10, .int r_46), (9, .int (ga (K68 (48 + (z68_8).toNatClampNeg)) ((8 : Int32)).toNatClampNeg)), (6, .long z68_6), (5, .int z68_5), (0, .ref (a 0)), (1, .int x1), (2, .int x2), (3, .int x3), (4, .int x4)]) hx hb dX7_hang_163 hl (k := 3) rfl (by rfl) (by decide) rfl (fun ls hl => ?_)
                      refine lv_goto (tgt := 68) hx hb dX7_hang_166 (by decide) ?_
                      exact ih_68 _ (hd_68 ▸ mu_up 16 (rn_ltu (u' := 15) (Int32.not_le.mp c_38) hz68_8 (rn_nel (l' := 1) c_25 (fM_0_11 hT0) (rg_c (v := 0) (lo := 0) (hi := 0) (by decide)) (by decide)) (by decide)) (by decide)) C_53 (z68_8 + 1) z68_6 z68_5 _ _ ls rfl (rg_w (rg_add (lo := 1) (hi := 16) (rn_ltu (u' := 15) (Int32.not_le.mp c_38) hz68_8 (rn_nel (l' := 1) c_25 (fM_0_11 hT0) (rg_c (v := 0) (lo := 0) (hi := 0) (by decide)) (by decide)) (by decide)) (rg_c (v := 1) (lo := 1) (hi := 1) (by decide)) (by decide)) (by decide)) (fun A hA => by have h1 := (hx_68 A hA); have h2 := absM_st (t := 1) t_37 h1 (by decide) (show (z68_8).toNatClampNeg < 16 from b_42) e_44; have h3 := absM_fr h2 t_45 (show fr [(15, 16)] [] C_43 C_47 from (fr_tr fr_rf f_49 (by decide) (by decide))) (by decide) (by decide) (by decide); have h4 := absM_st (t := 1) t_50 h3 (by decide) (show (z68_8).toNatClampNeg < 16 from b_52) e_54; rw [putA_back (show A 1 (z68_8).toNatClampNeg ((8 : Int32)).toNatClampNeg = ga (K68 (48 + (z68_8).toNatClampNeg)) ((8 : Int32)).toNatClampNeg from (h1.2.2 1 (by decide) (z68_8).toNatClampNeg (by rw [oh_nat (rg_w (lo := 0) (hi := 15) (rn_ltu (u' := 15) (Int32.not_le.mp c_38) hz68_8 (rn_nel (l' := 1) c_25 (fM_0_11 hT0) (rg_c (v := 0) (lo := 0) (hi := 0) (by decide)) (by decide)) (by decide)) (by decide)) (by decide)]; exact Int32.lt_iff_toInt_lt.mp (oh_lte (Int32.not_le.mp c_38) (hA.1 1 (by decide)))) 8 (by decide) (by unfold vis; omega)).symm)] at h4; exact h4) (fun A hA hok => by have hp := (show okPk (A 5 0 2) (A 5 0 3) x1 x2 by rw [← (show gi (C 0) 13 = A 5 0 2 from hA.1 2 (by decide)), ← (show gi (C 0) 15 = A 5 0 3 from hA.1 3 (by decide))]; exact u_10.2.2.2); have i1 : rg x1 0 4 := (rg_w (lo := 0) (hi := 4) u_10.1 (by decide)); have i3 : rg x3 0 15 := (rg_w (lo := 0) (hi := 15) u_20 (by decide)); have i4 : rg x4 0 15 := (rg_w (lo := 0) (hi := 15) u_24 (by decide)); have iz : rg z68_8 0 15 := (rg_w (lo := 0) (hi := 15) (rn_ltu (u' := 15) (Int32.not_le.mp c_38) hz68_8 (rn_nel (l' := 1) c_25 (fM_0_11 hT0) (rg_c (v := 0) (lo := 0) (hi := 0) (by decide)) (by decide)) (by decide)) (by decide)); obtain ⟨h1, h2⟩ := hv_68 A hA hok; have hB : absM C_43 (putA A 1 z68_8.toNatClampNeg 8 1) := absM_st (t := 1) t_37 (hx_68 A hA) (by decide) (show (z68_8).toNatClampNeg < 16 from vp_lt (rg_in iz (by decide))) e_44; have hlB : x1 < (putA A 1 z68_8.toNatClampNeg 8 1) 5 0 2 := (by rw [putA_5 (by decide)]; exact hp.1.2); have em := hq_48 _ hB (ok_fall hok _) hlB ⟨by decide, by decide⟩; have cv := cv_m (ok_fall hok _) i1 hlB i3 i4 em; have hk := hg_1 (s := x2) hok i1 hp.1.2 i3 i4 z68_8.toNatClampNeg (by have h5 := oh_nat iz (by decide); have h6 := iz.2; omega); have hv := hgV_r (s := x2) hok i1 hp.1.2 i3 i4 z68_8.toNatClampNeg; rw [hg_n iz (fun y => absurd ((cv_lt (hk.2 (fun e => c_57 (Eq.trans h1 e))) hv).mpr y) (Int64.not_lt.mpr (by rw [← h2 c_57, ← show _ = cvL (hgV A x1 x2 x3 x4 z68_8.toNatClampNeg) from (cv.2 c_56)]; exact (oh_lc_ngt (Int32.not_lt.mpr c_58)))))]; exact ⟨h1, h2⟩) (by have h7 := Int32.lt_iff_toInt_lt.mp (Int32.not_le.mp c_38); have h8 : (z68_8 + 1).toInt = z68_8.toInt + 1 := oh_incr (rn_ltu (u' := 15) (Int32.not_le.mp c_38) hz68_8 (rn_nel (l' := 1) c_25 (fM_0_11 hT0) (rg_c (v := 0) (lo := 0) (hi := 0) (by decide)) (by decide)) (by decide)) (by decide); omega) hT hF (fr_ste (fr_tr (fr_ste hLF_68 e_44 (by omega) (inR_of (p := (48, 64)) (by decide) (by show 48 ≤ _; omega) (by show _ < 64; omega))) f_49 (by decide) (by decide)) e_54 (by omega) (inR_of (p := (48, 64)) (by decide) (by show 48 ≤ _; omega) (by show _ < 64; omega))) hP hD hS (lv_sub hl [0, 4, 5, 6, 7, 8, 9, 10] rfl)
                    · refine lv_iload hx hb dX7_hang_155 (lv_at hl 3 rfl) ?_
                      refine lv_istore (lv' := [(5, .int z68_8), (11, .long (Int32.toInt64 r_46)), (10, .int r_46), (9, .int (ga (K68 (48 + (z68_8).toNatClampNeg)) ((8 : Int32)).toNatClampNeg)), (8, .int z68_8), (6, .long z68_6), (0, .ref (a 0)), (1, .int x1), (2, .int x2), (3, .int x3), (4, .int x4)]) hx hb dX7_hang_157 hl (by decide) rfl (fun ls hl => ?_)
                      refine lv_lload hx hb dX7_hang_159 (lv_at hl 1 rfl) ?_
                      refine lv_lstore (lv' := [(6, .long (Int32.toInt64 r_46)), (5, .int z68_8), (11, .long (Int32.toInt64 r_46)), (10, .int r_46), (9, .int (ga (K68 (48 + (z68_8).toNatClampNeg)) ((8 : Int32)).toNatClampNeg)), (8, .int z68_8), (0, .ref (a 0)), (1, .int x1), (2, .int x2), (3, .int x3), (4, .int x4)]) hx hb dX7_hang_161 hl (by decide) rfl (fun ls hl => ?_)
                      refine lv_iinc (v := z68_8 + 1) (lv' := [(8, .int (z68_8 + 1)), (6, .long (Int32.toInt64 r_46)), (5, .int z68_8), (11, .long (Int32.toInt64 r_46)), (10, .int r_46), (9, .int (ga (K68 (48 + (z68_8).toNatClampNeg)) ((8 : Int32)).toNatClampNeg)), (0, .ref (a 0)), (1, .int x1), (2, .int x2), (3, .int x3), (4, .int x4)]) hx hb dX7_hang_163 hl (k := 5) rfl (by rfl) (by decide) rfl (fun ls hl => ?_)
                      refine lv_goto (tgt := 68) hx hb dX7_hang_166 (by decide) ?_
                      exact ih_68 _ (hd_68 ▸ mu_up 16 (rn_ltu (u' := 15) (Int32.not_le.mp c_38) hz68_8 (rn_nel (l' := 1) c_25 (fM_0_11 hT0) (rg_c (v := 0) (lo := 0) (hi := 0) (by decide)) (by decide)) (by decide)) (by decide)) C_53 (z68_8 + 1) (Int32.toInt64 r_46) z68_8 _ _ ls rfl (rg_w (rg_add (lo := 1) (hi := 16) (rn_ltu (u' := 15) (Int32.not_le.mp c_38) hz68_8 (rn_nel (l' := 1) c_25 (fM_0_11 hT0) (rg_c (v := 0) (lo := 0) (hi := 0) (by decide)) (by decide)) (by decide)) (rg_c (v := 1) (lo := 1) (hi := 1) (by decide)) (by decide)) (by decide)) (fun A hA => by have h1 := (hx_68 A hA); have h2 := absM_st (t := 1) t_37 h1 (by decide) (show (z68_8).toNatClampNeg < 16 from b_42) e_44; have h3 := absM_fr h2 t_45 (show fr [(15, 16)] [] C_43 C_47 from (fr_tr fr_rf f_49 (by decide) (by decide))) (by decide) (by decide) (by decide); have h4 := absM_st (t := 1) t_50 h3 (by decide) (show (z68_8).toNatClampNeg < 16 from b_52) e_54; rw [putA_back (show A 1 (z68_8).toNatClampNeg ((8 : Int32)).toNatClampNeg = ga (K68 (48 + (z68_8).toNatClampNeg)) ((8 : Int32)).toNatClampNeg from (h1.2.2 1 (by decide) (z68_8).toNatClampNeg (by rw [oh_nat (rg_w (lo := 0) (hi := 15) (rn_ltu (u' := 15) (Int32.not_le.mp c_38) hz68_8 (rn_nel (l' := 1) c_25 (fM_0_11 hT0) (rg_c (v := 0) (lo := 0) (hi := 0) (by decide)) (by decide)) (by decide)) (by decide)) (by decide)]; exact Int32.lt_iff_toInt_lt.mp (oh_lte (Int32.not_le.mp c_38) (hA.1 1 (by decide)))) 8 (by decide) (by unfold vis; omega)).symm)] at h4; exact h4) (fun A hA hok => by have hp := (show okPk (A 5 0 2) (A 5 0 3) x1 x2 by rw [← (show gi (C 0) 13 = A 5 0 2 from hA.1 2 (by decide)), ← (show gi (C 0) 15 = A 5 0 3 from hA.1 3 (by decide))]; exact u_10.2.2.2); have i1 : rg x1 0 4 := (rg_w (lo := 0) (hi := 4) u_10.1 (by decide)); have i3 : rg x3 0 15 := (rg_w (lo := 0) (hi := 15) u_20 (by decide)); have i4 : rg x4 0 15 := (rg_w (lo := 0) (hi := 15) u_24 (by decide)); have iz : rg z68_8 0 15 := (rg_w (lo := 0) (hi := 15) (rn_ltu (u' := 15) (Int32.not_le.mp c_38) hz68_8 (rn_nel (l' := 1) c_25 (fM_0_11 hT0) (rg_c (v := 0) (lo := 0) (hi := 0) (by decide)) (by decide)) (by decide)) (by decide)); obtain ⟨h1, h2⟩ := hv_68 A hA hok; have hB : absM C_43 (putA A 1 z68_8.toNatClampNeg 8 1) := absM_st (t := 1) t_37 (hx_68 A hA) (by decide) (show (z68_8).toNatClampNeg < 16 from vp_lt (rg_in iz (by decide))) e_44; have hlB : x1 < (putA A 1 z68_8.toNatClampNeg 8 1) 5 0 2 := (by rw [putA_5 (by decide)]; exact hp.1.2); have em := hq_48 _ hB (ok_fall hok _) hlB ⟨by decide, by decide⟩; have cv := cv_m (ok_fall hok _) i1 hlB i3 i4 em; have hk := hg_1 (s := x2) hok i1 hp.1.2 i3 i4 z68_8.toNatClampNeg (by have h5 := oh_nat iz (by decide); have h6 := iz.2; omega); have hv := hgV_r (s := x2) hok i1 hp.1.2 i3 i4 z68_8.toNatClampNeg; rw [hg_y iz ((cv_lt (hk.2 (fun e => c_57 (Eq.trans h1 e))) hv).mp (by rw [← h2 c_57, ← show _ = cvL (hgV A x1 x2 x3 x4 z68_8.toNatClampNeg) from (cv.2 c_56)]; exact (oh_lc_gt (Int32.not_le.mp c_58))))]; exact ⟨rfl, fun _ => (cv.2 c_56)⟩) (by have h7 := Int32.lt_iff_toInt_lt.mp (Int32.not_le.mp c_38); have h8 : (z68_8 + 1).toInt = z68_8.toInt + 1 := oh_incr (rn_ltu (u' := 15) (Int32.not_le.mp c_38) hz68_8 (rn_nel (l' := 1) c_25 (fM_0_11 hT0) (rg_c (v := 0) (lo := 0) (hi := 0) (by decide)) (by decide)) (by decide)) (by decide); omega) hT hF (fr_ste (fr_tr (fr_ste hLF_68 e_44 (by omega) (inR_of (p := (48, 64)) (by decide) (by show 48 ≤ _; omega) (by show _ < 64; omega))) f_49 (by decide) (by decide)) e_54 (by omega) (inR_of (p := (48, 64)) (by decide) (by show 48 ≤ _; omega) (by show _ < 64; omega))) hP hD hS (lv_sub hl [0, 1, 2, 6, 7, 8, 9, 10] rfl)
                · refine lv_ldc2 (v := 1000000000000) hx hb hown (htg _ q_1355) dX7_hang_130 ?_
                  refine lv_goto (tgt := 139) hx hb dX7_hang_133 (by decide) ?_
                  refine lv_lstore (lv' := [(11, .long 1000000000000), (10, .int r_46), (9, .int (ga (K68 (48 + (z68_8).toNatClampNeg)) ((8 : Int32)).toNatClampNeg)), (8, .int z68_8), (6, .long z68_6), (5, .int z68_5), (0, .ref (a 0)), (1, .int x1), (2, .int x2), (3, .int x3), (4, .int x4)]) hx hb dX7_hang_139 hl (by decide) rfl (fun ls hl => ?_)
                  refine lv_iload hx hb dX7_hang_141 (lv_at hl 5 rfl) ?_
                  refine lv_iconst (v := (-1)) hx hb dX7_hang_143 (by decide) ?_
                  refine lv_icmp_eq (tgt := 155) hx hb dX7_hang_144 (by decide) (fun (c_59 : z68_5 = (-1)) => ?_) (fun (c_59 : ¬ (z68_5 = (-1))) => ?_)
                  · refine lv_iload hx hb dX7_hang_155 (lv_at hl 3 rfl) ?_
                    refine lv_istore (lv' := [(5, .int z68_8), (11, .long 1000000000000), (10, .int r_46), (9, .int (ga (K68 (48 + (z68_8).toNatClampNeg)) ((8 : Int32)).toNatClampNeg)), (8, .int z68_8), (6, .long z68_6), (0, .ref (a 0)), (1, .int x1), (2, .int x2), (3, .int x3), (4, .int x4)]) hx hb dX7_hang_157 hl (by decide) rfl (fun ls hl => ?_)
                    refine lv_lload hx hb dX7_hang_159 (lv_at hl 1 rfl) ?_
                    refine lv_lstore (lv' := [(6, .long 1000000000000), (5, .int z68_8), (11, .long 1000000000000), (10, .int r_46), (9, .int (ga (K68 (48 + (z68_8).toNatClampNeg)) ((8 : Int32)).toNatClampNeg)), (8, .int z68_8), (0, .ref (a 0)), (1, .int x1), (2, .int x2), (3, .int x3), (4, .int x4)]) hx hb dX7_hang_161 hl (by decide) rfl (fun ls hl => ?_)
                    refine lv_iinc (v := z68_8 + 1) (lv' := [(8, .int (z68_8 + 1)), (6, .long 1000000000000), (5, .int z68_8), (11, .long 1000000000000), (10, .int r_46), (9, .int (ga (K68 (48 + (z68_8).toNatClampNeg)) ((8 : Int32)).toNatClampNeg)), (0, .ref (a 0)), (1, .int x1), (2, .int x2), (3, .int x3), (4, .int x4)]) hx hb dX7_hang_163 hl (k := 5) rfl (by rfl) (by decide) rfl (fun ls hl => ?_)
                    refine lv_goto (tgt := 68) hx hb dX7_hang_166 (by decide) ?_
                    exact ih_68 _ (hd_68 ▸ mu_up 16 (rn_ltu (u' := 15) (Int32.not_le.mp c_38) hz68_8 (rn_nel (l' := 1) c_25 (fM_0_11 hT0) (rg_c (v := 0) (lo := 0) (hi := 0) (by decide)) (by decide)) (by decide)) (by decide)) C_53 (z68_8 + 1) 1000000000000 z68_8 _ _ ls rfl (rg_w (rg_add (lo := 1) (hi := 16) (rn_ltu (u' := 15) (Int32.not_le.mp c_38) hz68_8 (rn_nel (l' := 1) c_25 (fM_0_11 hT0) (rg_c (v := 0) (lo := 0) (hi := 0) (by decide)) (by decide)) (by decide)) (rg_c (v := 1) (lo := 1) (hi := 1) (by decide)) (by decide)) (by decide)) (fun A hA => by have h1 := (hx_68 A hA); have h2 := absM_st (t := 1) t_37 h1 (by decide) (show (z68_8).toNatClampNeg < 16 from b_42) e_44; have h3 := absM_fr h2 t_45 (show fr [(15, 16)] [] C_43 C_47 from (fr_tr fr_rf f_49 (by decide) (by decide))) (by decide) (by decide) (by decide); have h4 := absM_st (t := 1) t_50 h3 (by decide) (show (z68_8).toNatClampNeg < 16 from b_52) e_54; rw [putA_back (show A 1 (z68_8).toNatClampNeg ((8 : Int32)).toNatClampNeg = ga (K68 (48 + (z68_8).toNatClampNeg)) ((8 : Int32)).toNatClampNeg from (h1.2.2 1 (by decide) (z68_8).toNatClampNeg (by rw [oh_nat (rg_w (lo := 0) (hi := 15) (rn_ltu (u' := 15) (Int32.not_le.mp c_38) hz68_8 (rn_nel (l' := 1) c_25 (fM_0_11 hT0) (rg_c (v := 0) (lo := 0) (hi := 0) (by decide)) (by decide)) (by decide)) (by decide)) (by decide)]; exact Int32.lt_iff_toInt_lt.mp (oh_lte (Int32.not_le.mp c_38) (hA.1 1 (by decide)))) 8 (by decide) (by unfold vis; omega)).symm)] at h4; exact h4) (fun A hA hok => by have hp := (show okPk (A 5 0 2) (A 5 0 3) x1 x2 by rw [← (show gi (C 0) 13 = A 5 0 2 from hA.1 2 (by decide)), ← (show gi (C 0) 15 = A 5 0 3 from hA.1 3 (by decide))]; exact u_10.2.2.2); have i1 : rg x1 0 4 := (rg_w (lo := 0) (hi := 4) u_10.1 (by decide)); have i3 : rg x3 0 15 := (rg_w (lo := 0) (hi := 15) u_20 (by decide)); have i4 : rg x4 0 15 := (rg_w (lo := 0) (hi := 15) u_24 (by decide)); have iz : rg z68_8 0 15 := (rg_w (lo := 0) (hi := 15) (rn_ltu (u' := 15) (Int32.not_le.mp c_38) hz68_8 (rn_nel (l' := 1) c_25 (fM_0_11 hT0) (rg_c (v := 0) (lo := 0) (hi := 0) (by decide)) (by decide)) (by decide)) (by decide)); obtain ⟨h1, h2⟩ := hv_68 A hA hok; have hB : absM C_43 (putA A 1 z68_8.toNatClampNeg 8 1) := absM_st (t := 1) t_37 (hx_68 A hA) (by decide) (show (z68_8).toNatClampNeg < 16 from vp_lt (rg_in iz (by decide))) e_44; have hlB : x1 < (putA A 1 z68_8.toNatClampNeg 8 1) 5 0 2 := (by rw [putA_5 (by decide)]; exact hp.1.2); have em := hq_48 _ hB (ok_fall hok _) hlB ⟨by decide, by decide⟩; have cv := cv_m (ok_fall hok _) i1 hlB i3 i4 em; have hk := hg_1 (s := x2) hok i1 hp.1.2 i3 i4 z68_8.toNatClampNeg (by have h5 := oh_nat iz (by decide); have h6 := iz.2; omega); have hv := hgV_r (s := x2) hok i1 hp.1.2 i3 i4 z68_8.toNatClampNeg; rw [hg_y iz (by rw [hk.1 (Eq.trans h1.symm c_59)]; exact Int32.lt_iff_toInt_lt.mpr (by have h5 := hv.1; show (-1 : Int) < _; omega))]; exact ⟨rfl, fun _ => (cv.1 c_56)⟩) (by have h7 := Int32.lt_iff_toInt_lt.mp (Int32.not_le.mp c_38); have h8 : (z68_8 + 1).toInt = z68_8.toInt + 1 := oh_incr (rn_ltu (u' := 15) (Int32.not_le.mp c_38) hz68_8 (rn_nel (l' := 1) c_25 (fM_0_11 hT0) (rg_c (v := 0) (lo := 0) (hi := 0) (by decide)) (by decide)) (by decide)) (by decide); omega) hT hF (fr_ste (fr_tr (fr_ste hLF_68 e_44 (by omega) (inR_of (p := (48, 64)) (by decide) (by show 48 ≤ _; omega) (by show _ < 64; omega))) f_49 (by decide) (by decide)) e_54 (by omega) (inR_of (p := (48, 64)) (by decide) (by show 48 ≤ _; omega) (by show _ < 64; omega))) hP hD hS (lv_sub hl [0, 1, 2, 6, 7, 8, 9, 10] rfl)
                  · refine lv_lload hx hb dX7_hang_147 (lv_at hl 0 rfl) ?_
                    refine lv_lload hx hb dX7_hang_149 (lv_at hl 4 rfl) ?_
                    refine W.lcmp hx hb dX7_hang_151 ?_
                    refine lv_if_le (tgt := 163) hx hb dX7_hang_152 (by decide) (fun (c_60 : (lg_cmp (1000000000000 : Int64) z68_6) ≤ 0) => ?_) (fun (c_60 : ¬ ((lg_cmp (1000000000000 : Int64) z68_6) ≤ 0)) => ?_)
                    · refine lv_iinc (v := z68_8 + 1) (lv' := [(8, .int (z68_8 + 1)), (11, .long 1000000000000), (10, .int r_46), (9, .int (ga (K68 (48 + (z68_8).toNatClampNeg)) ((8 : Int32)).toNatClampNeg)), (6, .long z68_6), (5, .int z68_5), (0, .ref (a 0)), (1, .int x1), (2, .int x2), (3, .int x3), (4, .int x4)]) hx hb dX7_hang_163 hl (k := 3) rfl (by rfl) (by decide) rfl (fun ls hl => ?_)
                      refine lv_goto (tgt := 68) hx hb dX7_hang_166 (by decide) ?_
                      exact ih_68 _ (hd_68 ▸ mu_up 16 (rn_ltu (u' := 15) (Int32.not_le.mp c_38) hz68_8 (rn_nel (l' := 1) c_25 (fM_0_11 hT0) (rg_c (v := 0) (lo := 0) (hi := 0) (by decide)) (by decide)) (by decide)) (by decide)) C_53 (z68_8 + 1) z68_6 z68_5 _ _ ls rfl (rg_w (rg_add (lo := 1) (hi := 16) (rn_ltu (u' := 15) (Int32.not_le.mp c_38) hz68_8 (rn_nel (l' := 1) c_25 (fM_0_11 hT0) (rg_c (v := 0) (lo := 0) (hi := 0) (by decide)) (by decide)) (by decide)) (rg_c (v := 1) (lo := 1) (hi := 1) (by decide)) (by decide)) (by decide)) (fun A hA => by have h1 := (hx_68 A hA); have h2 := absM_st (t := 1) t_37 h1 (by decide) (show (z68_8).toNatClampNeg < 16 from b_42) e_44; have h3 := absM_fr h2 t_45 (show fr [(15, 16)] [] C_43 C_47 from (fr_tr fr_rf f_49 (by decide) (by decide))) (by decide) (by decide) (by decide); have h4 := absM_st (t := 1) t_50 h3 (by decide) (show (z68_8).toNatClampNeg < 16 from b_52) e_54; rw [putA_back (show A 1 (z68_8).toNatClampNeg ((8 : Int32)).toNatClampNeg = ga (K68 (48 + (z68_8).toNatClampNeg)) ((8 : Int32)).toNatClampNeg from (h1.2.2 1 (by decide) (z68_8).toNatClampNeg (by rw [oh_nat (rg_w (lo := 0) (hi := 15) (rn_ltu (u' := 15) (Int32.not_le.mp c_38) hz68_8 (rn_nel (l' := 1) c_25 (fM_0_11 hT0) (rg_c (v := 0) (lo := 0) (hi := 0) (by decide)) (by decide)) (by decide)) (by decide)) (by decide)]; exact Int32.lt_iff_toInt_lt.mp (oh_lte (Int32.not_le.mp c_38) (hA.1 1 (by decide)))) 8 (by decide) (by unfold vis; omega)).symm)] at h4; exact h4) (fun A hA hok => by have hp := (show okPk (A 5 0 2) (A 5 0 3) x1 x2 by rw [← (show gi (C 0) 13 = A 5 0 2 from hA.1 2 (by decide)), ← (show gi (C 0) 15 = A 5 0 3 from hA.1 3 (by decide))]; exact u_10.2.2.2); have i1 : rg x1 0 4 := (rg_w (lo := 0) (hi := 4) u_10.1 (by decide)); have i3 : rg x3 0 15 := (rg_w (lo := 0) (hi := 15) u_20 (by decide)); have i4 : rg x4 0 15 := (rg_w (lo := 0) (hi := 15) u_24 (by decide)); have iz : rg z68_8 0 15 := (rg_w (lo := 0) (hi := 15) (rn_ltu (u' := 15) (Int32.not_le.mp c_38) hz68_8 (rn_nel (l' := 1) c_25 (fM_0_11 hT0) (rg_c (v := 0) (lo := 0) (hi := 0) (by decide)) (by decide)) (by decide)) (by decide)); obtain ⟨h1, h2⟩ := hv_68 A hA hok; have hB : absM C_43 (putA A 1 z68_8.toNatClampNeg 8 1) := absM_st (t := 1) t_37 (hx_68 A hA) (by decide) (show (z68_8).toNatClampNeg < 16 from vp_lt (rg_in iz (by decide))) e_44; have hlB : x1 < (putA A 1 z68_8.toNatClampNeg 8 1) 5 0 2 := (by rw [putA_5 (by decide)]; exact hp.1.2); have em := hq_48 _ hB (ok_fall hok _) hlB ⟨by decide, by decide⟩; have cv := cv_m (ok_fall hok _) i1 hlB i3 i4 em; have hk := hg_1 (s := x2) hok i1 hp.1.2 i3 i4 z68_8.toNatClampNeg (by have h5 := oh_nat iz (by decide); have h6 := iz.2; omega); have hv := hgV_r (s := x2) hok i1 hp.1.2 i3 i4 z68_8.toNatClampNeg; rw [hg_n iz (fun y => absurd ((cv_lt (hk.2 (fun e => c_59 (Eq.trans h1 e))) hv).mpr y) (Int64.not_lt.mpr (by rw [← h2 c_59, ← show _ = cvL (hgV A x1 x2 x3 x4 z68_8.toNatClampNeg) from (cv.1 c_56)]; exact (oh_lc_ngt (Int32.not_lt.mpr c_60)))))]; exact ⟨h1, h2⟩) (by have h7 := Int32.lt_iff_toInt_lt.mp (Int32.not_le.mp c_38); have h8 : (z68_8 + 1).toInt = z68_8.toInt + 1 := oh_incr (rn_ltu (u' := 15) (Int32.not_le.mp c_38) hz68_8 (rn_nel (l' := 1) c_25 (fM_0_11 hT0) (rg_c (v := 0) (lo := 0) (hi := 0) (by decide)) (by decide)) (by decide)) (by decide); omega) hT hF (fr_ste (fr_tr (fr_ste hLF_68 e_44 (by omega) (inR_of (p := (48, 64)) (by decide) (by show 48 ≤ _; omega) (by show _ < 64; omega))) f_49 (by decide) (by decide)) e_54 (by omega) (inR_of (p := (48, 64)) (by decide) (by show 48 ≤ _; omega) (by show _ < 64; omega))) hP hD hS (lv_sub hl [0, 4, 5, 6, 7, 8, 9, 10] rfl)
                    · refine lv_iload hx hb dX7_hang_155 (lv_at hl 3 rfl) ?_
                      refine lv_istore (lv' := [(5, .int z68_8), (11, .long 1000000000000), (10, .int r_46), (9, .int (ga (K68 (48 + (z68_8).toNatClampNeg)) ((8 : Int32)).toNatClampNeg)), (8, .int z68_8), (6, .long z68_6), (0, .ref (a 0)), (1, .int x1), (2, .int x2), (3, .int x3), (4, .int x4)]) hx hb dX7_hang_157 hl (by decide) rfl (fun ls hl => ?_)
                      refine lv_lload hx hb dX7_hang_159 (lv_at hl 1 rfl) ?_
                      refine lv_lstore (lv' := [(6, .long 1000000000000), (5, .int z68_8), (11, .long 1000000000000), (10, .int r_46), (9, .int (ga (K68 (48 + (z68_8).toNatClampNeg)) ((8 : Int32)).toNatClampNeg)), (8, .int z68_8), (0, .ref (a 0)), (1, .int x1), (2, .int x2), (3, .int x3), (4, .int x4)]) hx hb dX7_hang_161 hl (by decide) rfl (fun ls hl => ?_)
                      refine lv_iinc (v := z68_8 + 1) (lv' := [(8, .int (z68_8 + 1)), (6, .long 1000000000000), (5, .int z68_8), (11, .long 1000000000000), (10, .int r_46), (9, .int (ga (K68 (48 + (z68_8).toNatClampNeg)) ((8 : Int32)).toNatClampNeg)), (0, .ref (a 0)), (1, .int x1), (2, .int x2), (3, .int x3), (4, .int x4)]) hx hb dX7_hang_163 hl (k := 5) rfl (by rfl) (by decide) rfl (fun ls hl => ?_)
                      refine lv_goto (tgt := 68) hx hb dX7_hang_166 (by decide) ?_
                      exact ih_68 _ (hd_68 ▸ mu_up 16 (rn_ltu (u' := 15) (Int32.not_le.mp c_38) hz68_8 (rn_nel (l' := 1) c_25 (fM_0_11 hT0) (rg_c (v := 0) (lo := 0) (hi := 0) (by decide)) (by decide)) (by decide)) (by decide)) C_53 (z68_8 + 1) 1000000000000 z68_8 _ _ ls rfl (rg_w (rg_add (lo := 1) (hi := 16) (rn_ltu (u' := 15) (Int32.not_le.mp c_38) hz68_8 (rn_nel (l' := 1) c_25 (fM_0_11 hT0) (rg_c (v := 0) (lo := 0) (hi := 0) (by decide)) (by decide)) (by decide)) (rg_c (v := 1) (lo := 1) (hi := 1) (by decide)) (by decide)) (by decide)) (fun A hA => by have h1 := (hx_68 A hA); have h2 := absM_st (t := 1) t_37 h1 (by decide) (show (z68_8).toNatClampNeg < 16 from b_42) e_44; have h3 := absM_fr h2 t_45 (show fr [(15, 16)] [] C_43 C_47 from (fr_tr fr_rf f_49 (by decide) (by decide))) (by decide) (by decide) (by decide); have h4 := absM_st (t := 1) t_50 h3 (by decide) (show (z68_8).toNatClampNeg < 16 from b_52) e_54; rw [putA_back (show A 1 (z68_8).toNatClampNeg ((8 : Int32)).toNatClampNeg = ga (K68 (48 + (z68_8).toNatClampNeg)) ((8 : Int32)).toNatClampNeg from (h1.2.2 1 (by decide) (z68_8).toNatClampNeg (by rw [oh_nat (rg_w (lo := 0) (hi := 15) (rn_ltu (u' := 15) (Int32.not_le.mp c_38) hz68_8 (rn_nel (l' := 1) c_25 (fM_0_11 hT0) (rg_c (v := 0) (lo := 0) (hi := 0) (by decide)) (by decide)) (by decide)) (by decide)) (by decide)]; exact Int32.lt_iff_toInt_lt.mp (oh_lte (Int32.not_le.mp c_38) (hA.1 1 (by decide)))) 8 (by decide) (by unfold vis; omega)).symm)] at h4; exact h4) (fun A hA hok => by have hp := (show okPk (A 5 0 2) (A 5 0 3) x1 x2 by rw [← (show gi (C 0) 13 = A 5 0 2 from hA.1 2 (by decide)), ← (show gi (C 0) 15 = A 5 0 3 from hA.1 3 (by decide))]; exact u_10.2.2.2); have i1 : rg x1 0 4 := (rg_w (lo := 0) (hi := 4) u_10.1 (by decide)); have i3 : rg x3 0 15 := (rg_w (lo := 0) (hi := 15) u_20 (by decide)); have i4 : rg x4 0 15 := (rg_w (lo := 0) (hi := 15) u_24 (by decide)); have iz : rg z68_8 0 15 := (rg_w (lo := 0) (hi := 15) (rn_ltu (u' := 15) (Int32.not_le.mp c_38) hz68_8 (rn_nel (l' := 1) c_25 (fM_0_11 hT0) (rg_c (v := 0) (lo := 0) (hi := 0) (by decide)) (by decide)) (by decide)) (by decide)); obtain ⟨h1, h2⟩ := hv_68 A hA hok; have hB : absM C_43 (putA A 1 z68_8.toNatClampNeg 8 1) := absM_st (t := 1) t_37 (hx_68 A hA) (by decide) (show (z68_8).toNatClampNeg < 16 from vp_lt (rg_in iz (by decide))) e_44; have hlB : x1 < (putA A 1 z68_8.toNatClampNeg 8 1) 5 0 2 := (by rw [putA_5 (by decide)]; exact hp.1.2); have em := hq_48 _ hB (ok_fall hok _) hlB ⟨by decide, by decide⟩; have cv := cv_m (ok_fall hok _) i1 hlB i3 i4 em; have hk := hg_1 (s := x2) hok i1 hp.1.2 i3 i4 z68_8.toNatClampNeg (by have h5 := oh_nat iz (by decide); have h6 := iz.2; omega); have hv := hgV_r (s := x2) hok i1 hp.1.2 i3 i4 z68_8.toNatClampNeg; rw [hg_y iz ((cv_lt (hk.2 (fun e => c_59 (Eq.trans h1 e))) hv).mp (by rw [← h2 c_59, ← show _ = cvL (hgV A x1 x2 x3 x4 z68_8.toNatClampNeg) from (cv.1 c_56)]; exact (oh_lc_gt (Int32.not_le.mp c_60))))]; exact ⟨rfl, fun _ => (cv.1 c_56)⟩) (by have h7 := Int32.lt_iff_toInt_lt.mp (Int32.not_le.mp c_38); have h8 : (z68_8 + 1).toInt = z68_8.toInt + 1 := oh_incr (rn_ltu (u' := 15) (Int32.not_le.mp c_38) hz68_8 (rn_nel (l' := 1) c_25 (fM_0_11 hT0) (rg_c (v := 0) (lo := 0) (hi := 0) (by decide)) (by decide)) (by decide)) (by decide); omega) hT hF (fr_ste (fr_tr (fr_ste hLF_68 e_44 (by omega) (inR_of (p := (48, 64)) (by decide) (by show 48 ≤ _; omega) (by show _ < 64; omega))) f_49 (by decide) (by decide)) e_54 (by omega) (inR_of (p := (48, 64)) (by decide) (by show 48 ≤ _; omega) (by show _ < 64; omega))) hP hD hS (lv_sub hl [0, 1, 2, 6, 7, 8, 9, 10] rfl)
            exact L_68 _ C_32 0 0 (-1) _ _ ls rfl (rg_w (rg_c (v := 0) (lo := 0) (hi := 0) (by decide)) (by decide)) (fun A hA => by have h1 := hA; have h2 := absM_fr h1 hT0 (show fr [(15, 16)] [] C C_32 from (fr_tr fr_rf f_34 (by decide) (by decide))) (by decide) (by decide) (by decide); exact h2) (fun A hA hok => ⟨rfl, fun y => absurd rfl y⟩) (fM_0_11 hT0).1 hT hF fr_rf hP hD hS (lv_sub hl [0, 1, 2, 3, 4, 5, 6, 7] rfl)
          · refine lv_aload_n hx hb dX7_hang_52 rfl (lv_at hl 0 rfl) ?_
            refine lv_bipush (v := (-5)) hx hb dX7_hang_53 (by decide) ?_
            refine tm_V (As := [.int (-5)]) (rest := []) ⟨hx, hb, hml, hown, htg⟩ (c_X7_refuse l D E G _ a C_32 n hn hT ((-5) : Int32) (rg_w (rg_c (v := (-5)) (lo := (-5)) (hi := (-5)) (by decide)) (by decide))) (cwV 1 htg (oh_gV q_1071 q_1073 q_29 q_73 q_1074) rfl rfl rfl pdVX7_refuse ⟨Nat.le_of_ble_eq_true rfl, Nat.le_of_ble_eq_true rfl⟩) hK hP hD hG hS hA (va_recv hK hP (ci := 7) (q0 := 0) rfl (oh_wg (Nat.lt_of_lt_of_le (by decide) hn) (sM_0 hT))) rfl hl.1 rfl (Nat.le_of_ble_eq_true rfl) dX7_hang_55 ⟨Nat.le_of_ble_eq_true rfl, Nat.le_of_ble_eq_true rfl⟩ (fun r_61 C_62 H locs hq_63 hP hD hS => ?_)
            obtain ⟨hT, f_64, hq_63⟩ := hq_63
            have hF := fr_tr hF f_64 (by decide) (by decide)
            refine W.widen (k := 0) (n := 0) (Nat.le_refl _) (Nat.le_refl _) ?_
            have t_65 := hT
            rw [hQ]
            exact W.iret (v := r_61) hx hb hr (fun t ht hW => ⟨⟨r_61, C_62, rfl, ⟨hT, hF, ⟨⟨hR.1.fr hF (by decide), hR.2.fr hF (by decide)⟩, (fun A hA => by have h1 := hA; have h2 := absM_fr h1 hT0 (show fr [(8, 9), (15, 16)] [] C C_62 from (fr_tr (fr_tr fr_rf f_34 (by decide) (by decide)) f_64 (by decide) (by decide))) (by decide) (by decide) (by decide); exact h2), (fun A hA hok => by have hp := (show okPk (A 5 0 2) (A 5 0 3) x1 x2 by rw [← (show gi (C 0) 13 = A 5 0 2 from hA.1 2 (by decide)), ← (show gi (C 0) 15 = A 5 0 3 from hA.1 3 (by decide))]; exact u_10.2.2.2); have i1 : rg x1 0 4 := (rg_w (lo := 0) (hi := 4) u_10.1 (by decide)); have i3 : rg x3 0 15 := (rg_w (lo := 0) (hi := 15) u_20 (by decide)); have i4 : rg x4 0 15 := (rg_w (lo := 0) (hi := 15) u_24 (by decide)); have hj : okJ A x1 x2 x3 x4 := ⟨hp, (oh_rgI (p := 0) (q := 15) (rg_w (lo := 0) (hi := 15) u_20 (by decide))), (oh_rgI (p := 0) (q := 15) (rg_w (lo := 0) (hi := 15) u_24 (by decide)))⟩; have e11 : gi (C 0) 11 = A 5 0 1 := hA.1 1 (by decide); have hw := mc_w hok i1 hp.1.2 i3 i4 (hq_33 A hA hok hp.1.2 ⟨by decide, by decide⟩); exact Eq.trans hq_63 (Eq.trans (pif_pos hj) (pif_pos (Or.inr (hw.mp c_36)))).symm)⟩⟩, ⟨by rw [ht]; exact hP, hD⟩⟩, hS.F ht⟩) hS.2.2 dX7_hang_58
      · have u_66 := hq_22.2.2 c_23
        refine lv_aload_n hx hb dX7_hang_24 rfl (lv_at hl 0 rfl) ?_
        refine lv_bipush (v := (-2)) hx hb dX7_hang_25 (by decide) ?_
        refine tm_V (As := [.int (-2)]) (rest := []) ⟨hx, hb, hml, hown, htg⟩ (c_X7_refuse l D E G _ a C n hn hT ((-2) : Int32) (rg_w (rg_c (v := (-2)) (lo := (-2)) (hi := (-2)) (by decide)) (by decide))) (cwV 1 htg (oh_gV q_1071 q_1073 q_29 q_73 q_1074) rfl rfl rfl pdVX7_refuse ⟨Nat.le_of_ble_eq_true rfl, Nat.le_of_ble_eq_true rfl⟩) hK hP hD hG hS hA (va_recv hK hP (ci := 7) (q0 := 0) rfl (oh_wg (Nat.lt_of_lt_of_le (by decide) hn) (sM_0 hT))) rfl hl.1 rfl (Nat.le_of_ble_eq_true rfl) dX7_hang_27 ⟨Nat.le_of_ble_eq_true rfl, Nat.le_of_ble_eq_true rfl⟩ (fun r_67 C_68 H locs hq_69 hP hD hS => ?_)
        obtain ⟨hT, f_70, hq_69⟩ := hq_69
        have hF := fr_tr hF f_70 (by decide) (by decide)
        refine W.widen (k := 0) (n := 0) (Nat.le_refl _) (Nat.le_refl _) ?_
        have t_71 := hT
        rw [hQ]
        exact W.iret (v := r_67) hx hb hr (fun t ht hW => ⟨⟨r_67, C_68, rfl, ⟨hT, hF, ⟨⟨hR.1.fr hF (by decide), hR.2.fr hF (by decide)⟩, (fun A hA => by have h1 := hA; have h2 := absM_fr h1 hT0 (show fr [(8, 9)] [] C C_68 from (fr_tr fr_rf f_70 (by decide) (by decide))) (by decide) (by decide) (by decide); exact h2), (fun A hA hok => Eq.trans hq_69 (pif_neg (by unfold okJ; rw [← (show gi (C 0) 13 = A 5 0 2 from hA.1 2 (by decide)), ← (show gi (C 0) 15 = A 5 0 3 from hA.1 3 (by decide))]; exact (fun h8 => u_66 h8.2.2))).symm)⟩⟩, ⟨by rw [ht]; exact hP, hD⟩⟩, hS.F ht⟩) hS.2.2 dX7_hang_30
