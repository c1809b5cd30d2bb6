/-! EXACT: calls of the class that put columns, that keep, that put back -/
theorem absX_ga {c : Nat} {C u : Nat → va_E} {A : LA} (h : absX c C A) (e : ∀ k, c ≤ k → k ≤ c + 5 → ga (u k) = ga (C k)) : absX c u A := by
  obtain ⟨h1, h2, h3⟩ := h
  refine ⟨fun s hs => ?_, fun j hj => ?_, fun s hs i hi j hj hv => ?_⟩
  · rw [e c (Nat.le_refl _) (by omega)]
    exact h1 s hs
  · rw [e _ (by omega) (by omega)]
    exact h2 j hj
  · rw [e _ (by omega) (by omega)]
    exact h3 s hs i hi j hj hv
theorem oh_7w {w : Int32} (hw : rg w 0 2) : (7 + w).toNatClampNeg = 7 + w.toNatClampNeg ∧ rg (7 + w) 7 9 := by
  have e : (7 + w).toInt = 7 + w.toInt := by
    rw [Int32.toInt_add]
    exact oh_bmod (by show _ ≤ 7 + w.toInt; have := hw.1; omega) (by show 7 + w.toInt ≤ _; have := hw.2; omega)
  have := hw.1
  have := hw.2
  refine ⟨?_, ⟨by omega, by omega⟩⟩
  show (7 + w).toInt.toNat = 7 + w.toInt.toNat
  omega
theorem putA_same {A : LA} {t i j : Nat} {v : Int32} (e : A t i j = v) : putA A t i j v = A := by
  funext s a b
  unfold putA
  by_cases q : s = t ∧ a = i ∧ b = j
  · rw [if_pos q, q.1, q.2.1, q.2.2]
    exact e.symm
  · rw [if_neg q]
theorem upd0 {f g : Nat → Int32} (h : ∀ j, j ≠ 0 → g j = f j) : upd g ((0 : Int32)).toNatClampNeg (f ((0 : Int32)).toNatClampNeg) = f := by
  funext j
  by_cases q : j = 0
  · rw [q]
    exact pk_us
  · exact Eq.trans (pk_un q) (h j q)
theorem upd_b3 {f : Nat → Int32} {i : Nat} {x y : Int32} : upd (upd (upd f i x) i y) i (f i) = f := by
  funext j
  by_cases h : j = i
  · rw [h, pk_us]
  · rw [pk_un h, pk_un h, pk_un h]
theorem absX_cp {c d : Nat} {C u : Nat → va_E} {A : LA} (h : absX d C A) (hc : ∀ t, t < 4 → (ga (C d) t).toInt ≤ (blkN t : Int)) (e0 : ∀ j, j < 4 → ga (u c) j = ga (C d) j) (e5 : ∀ j, j < 3 → ga (u (c + 5)) j = ga (C (d + 5)) j) (eb : ∀ t, t < 4 → ∀ q, q < blkN t * wid t → ga (u (c + 1 + t)) q = ga (C (d + 1 + t)) q) : absX c u A := by
  obtain ⟨h1, h2, h3⟩ := h
  refine ⟨fun s hs => ?_, fun j hj => ?_, fun s hs i hi j hj hv => ?_⟩
  · rw [e0 s hs]
    exact h1 s hs
  · rw [e5 j hj]
    exact h2 j hj
  · have h4 := hc s hs
    rw [h1 s hs] at h4
    rw [eb s hs _ (rowlt (by omega) hj)]
    exact h3 s hs i hi j hj hv
theorem cntX' {a : Nat → Nat} {E : Nat → ClassId} {C : Nat → va_E} (hT : TyX a E C) : (∀ t, t < 4 → (ga (C 10) t).toInt ≤ (blkN t : Int)) ∧ ∀ t, t < 4 → (ga (C 17) t).toInt ≤ (blkN t : Int) := by
  constructor
  · intro t ht
    have h := (tX_10 hT).2 t ht
    rcases (show t = 0 ∨ t = 1 ∨ t = 2 ∨ t = 3 by omega) with rfl | rfl | rfl | rfl <;> exact h.2
  · intro t ht
    have h := (tX_17 hT).2 t ht
    rcases (show t = 0 ∨ t = 1 ∨ t = 2 ∨ t = 3 by omega) with rfl | rfl | rfl | rfl <;> exact h.2
theorem stX_0 {A : LA} {b w x : Int32} (h : ¬ ((0 ≤ b ∧ b < A 5 0 1) ∧ (0 ≤ w ∧ w ≤ 2) ∧ ¬ (w = 0 ∧ A 1 b.toNatClampNeg 1 = 3))) : stA A b w x = A := pif_neg h
theorem stA_y {A : LA} {b w x : Int32} (hb : 0 ≤ b ∧ b < A 5 0 1) (hw : rg w 0 2) (hi : ¬ (w = 0 ∧ A 1 b.toNatClampNeg 1 = 3)) : stA A b w x = putA A 1 b.toNatClampNeg (7 + w.toNatClampNeg) (b01 x) := pif_pos ⟨hb, ⟨Int32.le_iff_toInt_le.mpr hw.1, Int32.le_iff_toInt_le.mpr hw.2⟩, hi⟩
theorem stX {c : Nat} {u : Nat → va_E} {A : LA} {b w x v : Int32} (hb : 0 ≤ b ∧ b < A 5 0 1) (hw : rg w 0 2) (hi : ¬ (w = 0 ∧ A 1 b.toNatClampNeg 1 = 3)) (h : absX c u (putA A 1 b.toNatClampNeg (7 + w).toNatClampNeg v)) (hv : v = b01 x) : absX c u (stA A b w x) := by
  rw [(oh_7w hw).1] at h
  rw [stA_y hb hw hi, ← hv]
  exact h
/-- a column of a bridge -/
theorem brX {C : Nat → va_E} {A : LA} {b j : Int32} {l u : Int} (hA : absX 10 C A) (hr : rg b 0 15) (hb : 0 ≤ b ∧ b < A 5 0 1) (hj : rg j l u) (hd : decide (0 ≤ l ∧ u ≤ 9) = true) : ga (C 12) (b * 10 + j).toNatClampNeg = A 1 b.toNatClampNeg j.toNatClampNeg := by
  have h2 := of_decide_eq_true hd
  have hj2 : rg j 0 9 := ⟨Int.le_trans h2.1 hj.1, Int.le_trans hj.2 h2.2⟩
  have e := oh_nat hj2 (by decide)
  rw [oh_rixz (w := 10) hr rfl hj2 (by decide)]
  exact hA.2.2 1 (by decide) b.toNatClampNeg (by rw [oh_nat hr (by decide)]; exact Int32.lt_iff_toInt_lt.mp hb.2) _ (show j.toNatClampNeg < 10 by have := hj2.2; omega) (by unfold vis; omega)
/-- the column is so already -/
theorem stX_s {C : Nat → va_E} {A : LA} {b w x v : Int32} (hA : absX 10 C A) (hr : rg b 0 15) (hb : 0 ≤ b ∧ b < A 5 0 1) (hw : rg w 0 2) (e : ga (C 12) (b * 10 + (7 + w)).toNatClampNeg = v) (hv : v = b01 x) : absX 10 C (stA A b w x) := by
  obtain ⟨w1, w2⟩ := oh_7w hw
  by_cases q : w = 0 ∧ A 1 b.toNatClampNeg 1 = 3
  · rw [stX_0 (fun z => z.2.2 q)]
    exact hA
  · rw [brX hA hr hb w2 (by decide), w1] at e
    rw [stA_y hb hw q, putA_same (by rw [e, hv])]
    exact hA
theorem st7 {w : Int32} (c : ¬ 7 + w = 7) : ¬ w = 0 := fun e => c (by rw [e]; rfl)
/-- iron that isn't to be propped: it wasn't -/
theorem stI_0 {C : Nat → va_E} {A : LA} {b w : Int32} (hA : absX 10 C A) (hI : okI A) (hr : rg b 0 15) (hb : 0 ≤ b ∧ b < A 5 0 1) (hw : rg w 0 2) (c : ¬ ga (C 12) (b * 10 + (7 + w)).toNatClampNeg = 0) : ¬ (w = 0 ∧ A 1 b.toNatClampNeg 1 = 3) := by
  intro z
  obtain ⟨w1, w2⟩ := oh_7w hw
  rw [brX hA hr hb w2 (by decide), z.1] at c
  exact c (hI b.toNatClampNeg (by rw [oh_nat hr (by decide)]; exact Int32.lt_iff_toInt_lt.mp hb.2) z.2)

set_option maxHeartbeats 4000000 in
set_option maxRecDepth 100000 in
theorem e_X6_ask (l : Launch) (D : va_G) (E : Nat → ClassId) (G : Nat → Nat) (sz : Nat) (a : Nat → Nat) (C : Nat → va_E) (hT : TyX a E C) (x1 : Int32) (x2 : Int32) : Met l yX6_ask (oh_w yX6_ask cX6_ask 4 (some .int)) ({ frames := 2, cells := 0, slots := 0, locals := 44 }) (oh_Pm D E G [.ref (a 0), .int x1, .int x2] (oh_W 35 a C) sz) (va_Qi (fun r (u : Nat → va_E) => TyX a E u ∧ fr [(7, 8), (15, 16)] [] C u ∧ (∀ A : LA, absX 10 C A → r = (spAsk A x1 x2).1 ∧ absX 10 u (spAsk A x1 x2).2)) (oh_B D (va_A (oh_W 35 a C) sz) (fun u => oh_W 35 a u)) (va_A (oh_W 35 a C) sz)) 0 0 (va_A (oh_W 35 a C) sz) := by
  refine Met.ofW (cc := cX6_ask) (maxL := 4) (ret := (some .int)) (by decide) rfl ?_
  intro p e s m args below meth c s₁ B hml hv
  obtain ⟨rfl, hsz, hP, hK, hD0, hG⟩ := hv
  have hx := B.exec
  have hb := B.bytes
  have hr := B.returns
  have hts := atoms_spec (ws := (oh_w yX6_ask cX6_ask 4 (some .int))) B.pre
  have htg : ∀ w ∈ oh_t, w.before _ s = true := fun w h => hts w (List.mem_cons_of_mem _ h)
  have hown : s.vm.findClass RX6 = some m.cls := findClass_of_methodNamed B.named
  have hlocks := B.notSynchronized
  have hT0 := hT
  subst hsz
  have hD := hD0.self (sz := s.heap.size)
  generalize hAe : va_A (oh_W 35 a C) s.heap.size = A at hD hG ⊢
  have hA : ∀ q : Nat, s.heap.size ≤ q → A q := fun q h => by rw [← hAe]; exact Or.inr h
  have hS : va_S A s.heap s.heap [] := va_S.rf
  have hF : fr [(7, 8), (15, 16)] [] C C := fr_rf
  have hl := lv_entry ([.ref (a 0), .int x1, .int x2]) (n := 4) (Nat.le_of_ble_eq_true rfl)
  rw [lg_entry_eq]
  generalize (lg_sl ([.ref (a 0), .int x1, .int x2]) ++ List.replicate (4 - (lg_sl ([.ref (a 0), .int x1, .int x2])).length) Slot.unset).toArray = ls at hl ⊢
  have hl : lv_has ls 4 [(0, .ref (a 0)), (1, .int x1), (2, .int x2)] := hl
  refine oh_genQ (fun Q hQ => ?_)
  refine lv_iload_n hx hb dX6_ask_0 rfl (lv_at hl 1 rfl) ?_
  refine lv_iconst (v := 0) hx hb dX6_ask_1 (by decide) ?_
  refine lv_iconst (v := 2) hx hb dX6_ask_2 (by decide) ?_
  refine tq_S (As := [.int x1, .int 0, .int 2]) (rest := []) (ws := []) ⟨hx, hb, hml, hown, htg⟩ (c_X6_within l D E G x1 (0 : Int32) (2 : Int32)) (va_cwS 3 htg (oh_gS q_293 q_294 q_66 q_295) rfl rfl rfl pdX6_within ⟨Nat.le_of_ble_eq_true rfl, Nat.le_of_ble_eq_true rfl⟩) hK va_nil hG hS rfl hl.1 rfl (Nat.le_of_ble_eq_true rfl) dX6_ask_3 ⟨Nat.le_of_ble_eq_true rfl, Nat.le_of_ble_eq_true rfl⟩ (fun r_1 hq_2 => ?_)
  refine lv_if_eq (tgt := 22) hx hb dX6_ask_6 (by decide) (fun (c_3 : r_1 = 0) => ?_) (fun (c_3 : ¬ (r_1 = 0)) => ?_)
  · have u_4 := hq_2.2.2 c_3
    refine lv_aload_n hx hb dX6_ask_22 rfl (lv_at hl 0 rfl) ?_
    refine lv_bipush (v := (-2)) hx hb dX6_ask_23 (by decide) ?_
    refine tm_V (As := [.int (-2)]) (rest := []) ⟨hx, hb, hml, hown, htg⟩ (c_X6_refuse l D E G _ a C hT ((-2) : Int32)) (cwV 1 htg (oh_gV q_296 q_298 q_0 q_66 q_299) rfl rfl rfl pdVX6_refuse ⟨Nat.le_of_ble_eq_true rfl, Nat.le_of_ble_eq_true rfl⟩) hK hP hD hG hS hA (va_recv hK hP (ci := 6) (q0 := 0) rfl (oh_wg (by decide) (sX_0 hT))) rfl hl.1 rfl (Nat.le_of_ble_eq_true rfl) dX6_ask_25 ⟨Nat.le_of_ble_eq_true rfl, Nat.le_of_ble_eq_true rfl⟩ (fun r_5 C_6 H locs hq_7 hP hD hS => ?_)
    obtain ⟨hT, f_8, hq_7⟩ := hq_7
    have hF := fr_tr hF f_8 (by decide) (by decide)
    refine W.widen (k := 0) (n := 0) (Nat.le_refl _) (Nat.le_refl _) ?_
    have t_9 := hT
    rw [hQ]
    exact W.iret (v := r_5) hx hb hr (fun t ht hW => ⟨⟨r_5, C_6, rfl, ⟨hT, hF, (fun A hA => pr_b (pif_neg (fun h8 => u_4 h8.1)) hq_7 (absX_eq hA (fun k k1 k2 => (fun k k1 k2 => (fr_all f_8 10 15 (by decide) k k1 k2)) k k1 (by omega))))⟩, ⟨by rw [ht]; exact hP, hD⟩⟩, hS.F ht⟩) hS.2.2 dX6_ask_28
  · have u_10 := hq_2.2.1 c_3
    refine lv_iload_n hx hb dX6_ask_9 rfl (lv_at hl 2 rfl) ?_
    refine lv_iconst (v := 0) hx hb dX6_ask_10 (by decide) ?_
    refine va_gets hx hb hG.2.2.2.2.1.1 hS hown (htg _ q_468) (fun _ h9 => h9) dX6_ask_11 ?_
    refine lv_iload_n hx hb dX6_ask_14 rfl (lv_at hl 1 rfl) ?_
    refine va_ti (v := .int (oh_maxs (x1).toNatClampNeg)) hx hb hG.2.2.2.2.1.2 hS (rg_in (rn_leu u_10.2 (rn_lel u_10.1 (rg_c (v := 0) (lo := 0) (hi := 0) (by decide)) (rg_any _)) (rg_c (v := 2) (lo := 2) (hi := 2) (by decide))) (by decide)) rfl dX6_ask_15 ?_
    refine tq_S (As := [.int x2, .int 0, .int (oh_maxs (x1).toNatClampNeg)]) (rest := []) (ws := []) ⟨hx, hb, hml, hown, htg⟩ (c_X6_within l D E G x2 (0 : Int32) (oh_maxs (x1).toNatClampNeg)) (va_cwS 3 htg (oh_gS q_293 q_294 q_66 q_295) rfl rfl rfl pdX6_within ⟨Nat.le_of_ble_eq_true rfl, Nat.le_of_ble_eq_true rfl⟩) hK va_nil hG hS rfl hl.1 rfl (Nat.le_of_ble_eq_true rfl) dX6_ask_16 ⟨Nat.le_of_ble_eq_true rfl, Nat.le_of_ble_eq_true rfl⟩ (fun r_11 hq_12 => ?_)
    refine lv_if_ne (tgt := 29) hx hb dX6_ask_19 (by decide) (fun (c_13 : ¬ (r_11 = 0)) => ?_) (fun (c_13 : r_11 = 0) => ?_)
    · have u_14 := hq_12.2.1 c_13
      refine lv_aload_n hx hb dX6_ask_29 rfl (lv_at hl 0 rfl) ?_
      refine va_get (D := D) (ci := 6) (v := .ref (a 1)) (C := RX6) (T := TX6) (N := 9) hx hb htg ig_6 hown hK hP 0 (oh_wg (by decide) (sX_0 hT)) rfl 0 (by decide) (htg _ q_258) (fun _ h9 => h9) rfl dX6_ask_30 ?_
      refine va_get (D := D) (ci := 0) (v := .ref (a 15)) (C := RX0) (T := TX0) (N := 8) hx hb htg ig_0 hown hK hP 1 (oh_wg (by decide) (sX_1 hT)) rfl 5 (by decide) (htg _ q_110) (fun _ h9 => h9) rfl dX6_ask_33 ?_
      refine lv_iload_n hx hb dX6_ask_36 rfl (lv_at hl 1 rfl) ?_
      have n_15 : vp_in x1 3 := (rg_in (rn_leu u_10.2 (rn_lel u_10.1 (rg_c (v := 0) (lo := 0) (hi := 0) (by decide)) (rg_any _)) (rg_c (v := 2) (lo := 2) (hi := 2) (by decide))) (by decide))
      refine th_iald hx hb hK hP 15 (by decide) (sX_15 hT) n_15 dX6_ask_37 ?_
      refine lv_istore_n (lv' := [(3, .int (ga (C 15) (x1).toNatClampNeg)), (0, .ref (a 0)), (1, .int x1), (2, .int x2)]) hx hb dX6_ask_38 rfl hl (by decide) rfl (fun ls hl => ?_)
      refine lv_aload_n hx hb dX6_ask_39 rfl (lv_at hl 1 rfl) ?_
      refine va_get (D := D) (ci := 6) (v := .ref (a 1)) (C := RX6) (T := TX6) (N := 9) hx hb htg ig_6 hown hK hP 0 (oh_wg (by decide) (sX_0 hT)) rfl 0 (by decide) (htg _ q_258) (fun _ h9 => h9) rfl dX6_ask_40 ?_
      refine va_get (D := D) (ci := 0) (v := .ref (a 15)) (C := RX0) (T := TX0) (N := 8) hx hb htg ig_0 hown hK hP 1 (oh_wg (by decide) (sX_1 hT)) rfl 5 (by decide) (htg _ q_110) (fun _ h9 => h9) rfl dX6_ask_43 ?_
      refine lv_iload_n hx hb dX6_ask_46 rfl (lv_at hl 2 rfl) ?_
      refine lv_iload_n hx hb dX6_ask_47 rfl (lv_at hl 3 rfl) ?_
      have n_16 : vp_in x1 3 := (rg_in (rn_leu u_10.2 (rn_lel u_10.1 (rg_c (v := 0) (lo := 0) (hi := 0) (by decide)) (rg_any _)) (rg_c (v := 2) (lo := 2) (hi := 2) (by decide))) (by decide))
      refine th_iast (T := TyX a E) (Rl := fr [(7, 8), (15, 16)] [] C) hx hb hK hP hD hS 15 (by decide) (sX_15 hT) n_16 (hT.up 15 (tA_upd (tX_15 hT) tA_any)) (fr_st hF (by decide) (by decide)) dX6_ask_48 (fun C_17 H locs e_18 hT hF hP hD hS => ?_)
      have t_19 := hT
      refine lv_iload_n hx hb dX6_ask_49 rfl (lv_at hl 0 rfl) ?_
      rw [hQ]
      exact W.iret (v := ga (C 15) (x1).toNatClampNeg) hx hb hr (fun t ht hW => ⟨⟨ga (C 15) (x1).toNatClampNeg, C_17, rfl, ⟨hT, hF, (fun A hA => pr_b (pif_pos ⟨(oh_rgI (p := 0) (q := 2) (rg_w (lo := 0) (hi := 2) (rn_leu u_10.2 (rn_lel u_10.1 (rg_c (v := 0) (lo := 0) (hi := 0) (by decide)) (rg_any _)) (rg_c (v := 2) (lo := 2) (hi := 2) (by decide))) (by decide))), ⟨u_14.1, u_14.2⟩⟩) (hA.2.1 x1.toNatClampNeg (vp_lt (rg_in (rg_w (lo := 0) (hi := 2) (rn_leu u_10.2 (rn_lel u_10.1 (rg_c (v := 0) (lo := 0) (hi := 0) (by decide)) (rg_any _)) (rg_c (v := 2) (lo := 2) (hi := 2) (by decide))) (by decide)) (by decide)))) (absX_set hA (st_ga e_18) (fun j j1 j2 => th_un e_18 (by omega))))⟩, ⟨by rw [ht]; exact hP, hD⟩⟩, hS.F ht⟩) hS.2.2 dX6_ask_50
    · have u_20 := hq_12.2.2 c_13
      refine lv_aload_n hx hb dX6_ask_22 rfl (lv_at hl 0 rfl) ?_
      refine lv_bipush (v := (-2)) hx hb dX6_ask_23 (by decide) ?_
      refine tm_V (As := [.int (-2)]) (rest := []) ⟨hx, hb, hml, hown, htg⟩ (c_X6_refuse l D E G _ a C hT ((-2) : Int32)) (cwV 1 htg (oh_gV q_296 q_298 q_0 q_66 q_299) rfl rfl rfl pdVX6_refuse ⟨Nat.le_of_ble_eq_true rfl, Nat.le_of_ble_eq_true rfl⟩) hK hP hD hG hS hA (va_recv hK hP (ci := 6) (q0 := 0) rfl (oh_wg (by decide) (sX_0 hT))) rfl hl.1 rfl (Nat.le_of_ble_eq_true rfl) dX6_ask_25 ⟨Nat.le_of_ble_eq_true rfl, Nat.le_of_ble_eq_true rfl⟩ (fun r_21 C_22 H locs hq_23 hP hD hS => ?_)
      obtain ⟨hT, f_24, hq_23⟩ := hq_23
      have hF := fr_tr hF f_24 (by decide) (by decide)
      refine W.widen (k := 0) (n := 0) (Nat.le_refl _) (Nat.le_refl _) ?_
      have t_25 := hT
      rw [hQ]
      exact W.iret (v := r_21) hx hb hr (fun t ht hW => ⟨⟨r_21, C_22, rfl, ⟨hT, hF, (fun A hA => pr_b (pif_neg (fun h8 => u_20 h8.2)) hq_23 (absX_eq hA (fun k k1 k2 => (fun k k1 k2 => (fr_all f_24 10 15 (by decide) k k1 k2)) k k1 (by omega))))⟩, ⟨by rw [ht]; exact hP, hD⟩⟩, hS.F ht⟩) hS.2.2 dX6_ask_28

theorem b01_0 {x : Int32} (h : x = 0) : (0 : Int32) = b01 x := (pif_pos h).symm
theorem b01_1 {x : Int32} (h : ¬ x = 0) : (1 : Int32) = b01 x := (pif_neg h).symm

theorem oh_70 {w : Int32} (hw : rg w 0 2) (c : 7 + w = 7) : w = 0 := by
  have e : (7 + w).toInt = 7 + w.toInt := by
    rw [Int32.toInt_add]
    exact oh_bmod (by show _ ≤ 7 + w.toInt; have := hw.1; omega) (by show 7 + w.toInt ≤ _; have := hw.2; omega)
  rw [c] at e
  have c7 : (7 : Int32).toInt = 7 := rfl
  refine Int32.toInt_inj.mp ?_
  show w.toInt = 0
  omega

set_option maxHeartbeats 4000000 in
set_option maxRecDepth 100000 in
theorem e_X6_stand (l : Launch) (D : va_G) (E : Nat → ClassId) (G : Nat → Nat) (sz : Nat) (a : Nat → Nat) (C : Nat → va_E) (hT : TyX a E C) (x1 : Int32) (x2 : Int32) (x3 : Int32) (hx3 : rg x3 0 1) : Met l yX6_stand (oh_w yX6_stand cX6_stand 6 (some .int)) ({ frames := 2, cells := 0, slots := 0, locals := 44 }) (oh_Pm D E G [.ref (a 0), .int x1, .int x2, .int x3] (oh_W 35 a C) sz) (va_Qi (fun r (u : Nat → va_E) => TyX a E u ∧ fr [(7, 8), (12, 13)] [] C u ∧ (∀ A : LA, absX 10 C A → okI A → absX 10 u (stA A x1 x2 x3))) (oh_B D (va_A (oh_W 35 a C) sz) (fun u => oh_W 35 a u)) (va_A (oh_W 35 a C) sz)) 0 0 (va_A (oh_W 35 a C) sz) := by
  refine Met.ofW (cc := cX6_stand) (maxL := 6) (ret := (some .int)) (by decide) rfl ?_
  intro p e s m args below meth c s₁ B hml hv
  obtain ⟨rfl, hsz, hP, hK, hD0, hG⟩ := hv
  have hx := B.exec
  have hb := B.bytes
  have hr := B.returns
  have hts := atoms_spec (ws := (oh_w yX6_stand cX6_stand 6 (some .int))) B.pre
  have htg : ∀ w ∈ oh_t, w.before _ s = true := fun w h => hts w (List.mem_cons_of_mem _ h)
  have hown : s.vm.findClass RX6 = some m.cls := findClass_of_methodNamed B.named
  have hlocks := B.notSynchronized
  have hT0 := hT
  subst hsz
  have hD := hD0.self (sz := s.heap.size)
  generalize hAe : va_A (oh_W 35 a C) s.heap.size = A at hD hG ⊢
  have hA : ∀ q : Nat, s.heap.size ≤ q → A q := fun q h => by rw [← hAe]; exact Or.inr h
  have hS : va_S A s.heap s.heap [] := va_S.rf
  have hF : fr [(7, 8), (12, 13)] [] C C := fr_rf
  have hl := lv_entry ([.ref (a 0), .int x1, .int x2, .int x3]) (n := 6) (Nat.le_of_ble_eq_true rfl)
  rw [lg_entry_eq]
  generalize (lg_sl ([.ref (a 0), .int x1, .int x2, .int x3]) ++ List.replicate (6 - (lg_sl ([.ref (a 0), .int x1, .int x2, .int x3])).length) Slot.unset).toArray = ls at hl ⊢
  have hl : lv_has ls 6 [(0, .ref (a 0)), (1, .int x1), (2, .int x2), (3, .int x3)] := hl
  refine oh_genQ (fun Q hQ => ?_)
  refine lv_aload_n hx hb dX6_stand_0 rfl (lv_at hl 0 rfl) ?_
  refine lv_iload_n hx hb dX6_stand_1 rfl (lv_at hl 1 rfl) ?_
  refine tq_V (As := [.int x1]) (rest := []) (ws := (oh_W 35 a C)) ⟨hx, hb, hml, hown, htg⟩ (e_X6_isBridge l D E G a C hT x1) (cwV 1 htg (oh_gV q_366 q_368 q_2 q_66 q_369) rfl rfl rfl pdVX6_isBridge ⟨Nat.le_of_ble_eq_true rfl, Nat.le_of_ble_eq_true rfl⟩) hK hP hG hS (va_recv hK hP (ci := 6) (q0 := 0) rfl (oh_wg (by decide) (sX_0 hT))) rfl hl.1 rfl (Nat.le_of_ble_eq_true rfl) dX6_stand_2 ⟨Nat.le_of_ble_eq_true rfl, Nat.le_of_ble_eq_true rfl⟩ (fun r_1 hq_2 => ?_)
  refine lv_if_eq (tgt := 17) hx hb dX6_stand_5 (by decide) (fun (c_3 : r_1 = 0) => ?_) (fun (c_3 : ¬ (r_1 = 0)) => ?_)
  · have u_4 := hq_2.2.2 c_3
    refine lv_aload_n hx hb dX6_stand_17 rfl (lv_at hl 0 rfl) ?_
    refine lv_bipush (v := (-2)) hx hb dX6_stand_18 (by decide) ?_
    refine tm_V (As := [.int (-2)]) (rest := []) ⟨hx, hb, hml, hown, htg⟩ (c_X6_refuse l D E G _ a C hT ((-2) : Int32)) (cwV 1 htg (oh_gV q_296 q_298 q_0 q_66 q_299) rfl rfl rfl pdVX6_refuse ⟨Nat.le_of_ble_eq_true rfl, Nat.le_of_ble_eq_true rfl⟩) hK hP hD hG hS hA (va_recv hK hP (ci := 6) (q0 := 0) rfl (oh_wg (by decide) (sX_0 hT))) rfl hl.1 rfl (Nat.le_of_ble_eq_true rfl) dX6_stand_20 ⟨Nat.le_of_ble_eq_true rfl, Nat.le_of_ble_eq_true rfl⟩ (fun r_5 C_6 H locs hq_7 hP hD hS => ?_)
    obtain ⟨hT, f_8, hq_7⟩ := hq_7
    have hF := fr_tr hF f_8 (by decide) (by decide)
    refine W.widen (k := 0) (n := 0) (Nat.le_refl _) (Nat.le_refl _) ?_
    have t_9 := hT
    rw [hQ]
    exact W.iret (v := r_5) hx hb hr (fun t ht hW => ⟨⟨r_5, C_6, rfl, ⟨hT, hF, (fun A hA hI => by rw [stX_0 (fun h8 => by have h7 := h8.1; rw [← (show ga (C 10) ((1 : Int32)).toNatClampNeg = A 5 0 1 from hA.1 1 (by decide))] at h7; exact u_4 h7)]; exact (absX_eq hA (fun k k1 k2 => (fun k k1 k2 => (fr_all f_8 10 15 (by decide) k k1 k2)) k k1 (by omega))))⟩, ⟨by rw [ht]; exact hP, hD⟩⟩, hS.F ht⟩) hS.2.2 dX6_stand_23
  · have u_10 := hq_2.2.1 c_3
    refine lv_iload_n hx hb dX6_stand_8 rfl (lv_at hl 2 rfl) ?_
    refine lv_iconst (v := 0) hx hb dX6_stand_9 (by decide) ?_
    refine lv_iconst (v := 2) hx hb dX6_stand_10 (by decide) ?_
    refine tq_S (As := [.int x2, .int 0, .int 2]) (rest := []) (ws := []) ⟨hx, hb, hml, hown, htg⟩ (c_X6_within l D E G x2 (0 : Int32) (2 : Int32)) (va_cwS 3 htg (oh_gS q_293 q_294 q_66 q_295) rfl rfl rfl pdX6_within ⟨Nat.le_of_ble_eq_true rfl, Nat.le_of_ble_eq_true rfl⟩) hK va_nil hG hS rfl hl.1 rfl (Nat.le_of_ble_eq_true rfl) dX6_stand_11 ⟨Nat.le_of_ble_eq_true rfl, Nat.le_of_ble_eq_true rfl⟩ (fun r_11 hq_12 => ?_)
    refine lv_if_ne (tgt := 24) hx hb dX6_stand_14 (by decide) (fun (c_13 : ¬ (r_11 = 0)) => ?_) (fun (c_13 : r_11 = 0) => ?_)
    · have u_14 := hq_12.2.1 c_13
      refine lv_bipush (v := 7) hx hb dX6_stand_24 (by decide) ?_
      refine lv_iload_n hx hb dX6_stand_26 rfl (lv_at hl 2 rfl) ?_
      refine lv_iadd hx hb dX6_stand_27 ?_
      refine lv_istore (lv' := [(4, .int (7 + x2)), (0, .ref (a 0)), (1, .int x1), (2, .int x2), (3, .int x3)]) hx hb dX6_stand_28 hl (by decide) rfl (fun ls hl => ?_)
      refine lv_iload hx hb dX6_stand_30 (lv_at hl 0 rfl) ?_
      refine lv_bipush (v := 7) hx hb dX6_stand_32 (by decide) ?_
      refine lv_icmp_ne (tgt := 61) hx hb dX6_stand_34 (by decide) (fun (c_15 : ¬ ((7 + x2) = 7)) => ?_) (fun (c_15 : (7 + x2) = 7) => ?_)
      · refine lv_iload_n hx hb dX6_stand_61 rfl (lv_at hl 4 rfl) ?_
        refine lv_if_eq (tgt := 69) hx hb dX6_stand_62 (by decide) (fun (c_16 : x3 = 0) => ?_) (fun (c_16 : ¬ (x3 = 0)) => ?_)
        · refine lv_iconst (v := 0) hx hb dX6_stand_69 (by decide) ?_
          refine lv_istore (lv' := [(5, .int 0), (4, .int (7 + x2)), (0, .ref (a 0)), (1, .int x1), (2, .int x2), (3, .int x3)]) hx hb dX6_stand_70 hl (by decide) rfl (fun ls hl => ?_)
          refine lv_aload_n hx hb dX6_stand_72 rfl (lv_at hl 2 rfl) ?_
          refine va_get (D := D) (ci := 6) (v := .ref (a 1)) (C := RX6) (T := TX6) (N := 9) hx hb htg ig_6 hown hK hP 0 (oh_wg (by decide) (sX_0 hT)) rfl 0 (by decide) (htg _ q_258) (fun _ h9 => h9) rfl dX6_stand_73 ?_
          refine lv_iload_n hx hb dX6_stand_76 rfl (lv_at hl 3 rfl) ?_
          refine lv_iload hx hb dX6_stand_77 (lv_at hl 1 rfl) ?_
          refine tq_V (As := [.int x1, .int (7 + x2)]) (rest := []) (ws := (oh_W 35 a C)) ⟨hx, hb, hml, hown, htg⟩ (c_X0_ofBridge l D E G a C hT x1 (7 + x2) (rg_w u_10.1 (by decide)) (rg_w (rn_nel (l' := 8) c_15 (rg_add (lo := 7) (hi := 9) (rg_c (v := 7) (lo := 7) (hi := 7) (by decide)) (rn_leu u_14.2 (rn_lel u_14.1 (rg_c (v := 0) (lo := 0) (hi := 0) (by decide)) (rg_any _)) (rg_c (v := 2) (lo := 2) (hi := 2) (by decide))) (by decide)) (rg_c (v := 7) (lo := 7) (hi := 7) (by decide)) (by decide)) (by decide))) (cwV 2 htg (oh_gV q_392 q_385 q_386 q_67 q_387) rfl rfl rfl pdVX0_ofBridge ⟨Nat.le_of_ble_eq_true rfl, Nat.le_of_ble_eq_true rfl⟩) hK hP hG hS (va_recv hK hP (ci := 0) (q0 := 1) rfl (oh_wg (by decide) (sX_1 hT))) rfl hl.1 rfl (Nat.le_of_ble_eq_true rfl) dX6_stand_79 ⟨Nat.le_of_ble_eq_true rfl, Nat.le_of_ble_eq_true rfl⟩ (fun r_17 hq_18 => ?_)
          subst hq_18
          refine lv_iload hx hb dX6_stand_82 (lv_at hl 0 rfl) ?_
          refine lv_icmp_ne (tgt := 89) hx hb dX6_stand_84 (by decide) (fun (c_19 : ¬ ((ga (C 12) ((x1 * 10) + (7 + x2)).toNatClampNeg) = 0)) => ?_) (fun (c_19 : (ga (C 12) ((x1 * 10) + (7 + x2)).toNatClampNeg) = 0) => ?_)
          · refine lv_aload_n hx hb dX6_stand_89 rfl (lv_at hl 2 rfl) ?_
            refine va_get (D := D) (ci := 6) (v := .ref (a 1)) (C := RX6) (T := TX6) (N := 9) hx hb htg ig_6 hown hK hP 0 (oh_wg (by decide) (sX_0 hT)) rfl 0 (by decide) (htg _ q_258) (fun _ h9 => h9) rfl dX6_stand_90 ?_
            refine lv_iload_n hx hb dX6_stand_93 rfl (lv_at hl 3 rfl) ?_
            refine lv_iload hx hb dX6_stand_94 (lv_at hl 1 rfl) ?_
            refine lv_iload hx hb dX6_stand_96 (lv_at hl 0 rfl) ?_
            refine tm_Vv (As := [.int x1, .int (7 + x2), .int 0]) (rest := []) ⟨hx, hb, hml, hown, htg⟩ (f_X0_putBridgeColumn l D E G _ a C hT x1 (7 + x2) (0 : Int32) (rg_w u_10.1 (by decide)) (rg_w (rn_nel (l' := 8) c_15 (rg_add (lo := 7) (hi := 9) (rg_c (v := 7) (lo := 7) (hi := 7) (by decide)) (rn_leu u_14.2 (rn_lel u_14.1 (rg_c (v := 0) (lo := 0) (hi := 0) (by decide)) (rg_any _)) (rg_c (v := 2) (lo := 2) (hi := 2) (by decide))) (by decide)) (rg_c (v := 7) (lo := 7) (hi := 7) (by decide)) (by decide)) (by decide))) (cwV 3 htg (oh_gV q_474 q_445 q_446 q_67 q_447) rfl rfl rfl pdVX0_putBridgeColumn ⟨Nat.le_of_ble_eq_true rfl, Nat.le_of_ble_eq_true rfl⟩) hK hP hD hG hS hA (va_recv hK hP (ci := 0) (q0 := 1) rfl (oh_wg (by decide) (sX_1 hT))) rfl hl.1 rfl (Nat.le_of_ble_eq_true rfl) dX6_stand_98 ⟨Nat.le_of_ble_eq_true rfl, Nat.le_of_ble_eq_true rfl⟩ (fun C_21 H locs hq_22 hP hD hS => ?_)
            obtain ⟨hT, f_23, hq_22⟩ := hq_22
            have hF := fr_tr hF f_23 (by decide) (by decide)
            refine W.widen (k := 0) (n := 0) (Nat.le_refl _) (Nat.le_refl _) ?_
            have t_24 := hT
            refine lv_iconst (v := 1) hx hb dX6_stand_101 (by decide) ?_
            rw [hQ]
            exact W.iret (v := 1) hx hb hr (fun t ht hW => ⟨⟨1, C_21, rfl, ⟨hT, hF, (fun A hA hI => stX (show 0 ≤ x1 ∧ x1 < A 5 0 1 by rw [← (show ga (C 10) ((1 : Int32)).toNatClampNeg = A 5 0 1 from hA.1 1 (by decide))]; exact u_10.2) (rg_w (lo := 0) (hi := 2) (rn_leu u_14.2 (rn_lel u_14.1 (rg_c (v := 0) (lo := 0) (hi := 0) (by decide)) (rg_any _)) (rg_c (v := 2) (lo := 2) (hi := 2) (by decide))) (by decide)) (fun h8 => st7 c_15 h8.1) (hq_22.2 A hA) (b01_0 c_16))⟩, ⟨by rw [ht]; exact hP, hD⟩⟩, hS.F ht⟩) hS.2.2 dX6_stand_102
          · refine lv_iconst (v := 0) hx hb dX6_stand_87 (by decide) ?_
            rw [hQ]
            exact W.iret (v := 0) hx hb hr (fun t ht hW => ⟨⟨0, C, rfl, ⟨hT, hF, (fun A hA hI => stX_s (v := 0) hA (rg_w (lo := 0) (hi := 15) u_10.1 (by decide)) (show 0 ≤ x1 ∧ x1 < A 5 0 1 by rw [← (show ga (C 10) ((1 : Int32)).toNatClampNeg = A 5 0 1 from hA.1 1 (by decide))]; exact u_10.2) (rg_w (lo := 0) (hi := 2) (rn_leu u_14.2 (rn_lel u_14.1 (rg_c (v := 0) (lo := 0) (hi := 0) (by decide)) (rg_any _)) (rg_c (v := 2) (lo := 2) (hi := 2) (by decide))) (by decide)) c_19 (b01_0 c_16))⟩, ⟨by rw [ht]; exact hP, hD⟩⟩, hS.F ht⟩) hS.2.2 dX6_stand_88
        · refine lv_iconst (v := 1) hx hb dX6_stand_65 (by decide) ?_
          refine lv_goto (tgt := 70) hx hb dX6_stand_66 (by decide) ?_
          refine lv_istore (lv' := [(5, .int 1), (4, .int (7 + x2)), (0, .ref (a 0)), (1, .int x1), (2, .int x2), (3, .int x3)]) hx hb dX6_stand_70 hl (by decide) rfl (fun ls hl => ?_)
          refine lv_aload_n hx hb dX6_stand_72 rfl (lv_at hl 2 rfl) ?_
          refine va_get (D := D) (ci := 6) (v := .ref (a 1)) (C := RX6) (T := TX6) (N := 9) hx hb htg ig_6 hown hK hP 0 (oh_wg (by decide) (sX_0 hT)) rfl 0 (by decide) (htg _ q_258) (fun _ h9 => h9) rfl dX6_stand_73 ?_
          refine lv_iload_n hx hb dX6_stand_76 rfl (lv_at hl 3 rfl) ?_
          refine lv_iload hx hb dX6_stand_77 (lv_at hl 1 rfl) ?_
          refine tq_V (As := [.int x1, .int (7 + x2)]) (rest := []) (ws := (oh_W 35 a C)) ⟨hx, hb, hml, hown, htg⟩ (c_X0_ofBridge l D E G a C hT x1 (7 + x2) (rg_w u_10.1 (by decide)) (rg_w (rn_nel (l' := 8) c_15 (rg_add (lo := 7) (hi := 9) (rg_c (v := 7) (lo := 7) (hi := 7) (by decide)) (rn_leu u_14.2 (rn_lel u_14.1 (rg_c (v := 0) (lo := 0) (hi := 0) (by decide)) (rg_any _)) (rg_c (v := 2) (lo := 2) (hi := 2) (by decide))) (by decide)) (rg_c (v := 7) (lo := 7) (hi := 7) (by decide)) (by decide)) (by decide))) (cwV 2 htg (oh_gV q_392 q_385 q_386 q_67 q_387) rfl rfl rfl pdVX0_ofBridge ⟨Nat.le_of_ble_eq_true rfl, Nat.le_of_ble_eq_true rfl⟩) hK hP hG hS (va_recv hK hP (ci := 0) (q0 := 1) rfl (oh_wg (by decide) (sX_1 hT))) rfl hl.1 rfl (Nat.le_of_ble_eq_true rfl) dX6_stand_79 ⟨Nat.le_of_ble_eq_true rfl, Nat.le_of_ble_eq_true rfl⟩ (fun r_25 hq_26 => ?_)
          subst hq_26
          refine lv_iload hx hb dX6_stand_82 (lv_at hl 0 rfl) ?_
          refine lv_icmp_ne (tgt := 89) hx hb dX6_stand_84 (by decide) (fun (c_27 : ¬ ((ga (C 12) ((x1 * 10) + (7 + x2)).toNatClampNeg) = 1)) => ?_) (fun (c_27 : (ga (C 12) ((x1 * 10) + (7 + x2)).toNatClampNeg) = 1) => ?_)
          · refine lv_aload_n hx hb dX6_stand_89 rfl (lv_at hl 2 rfl) ?_
            refine va_get (D := D) (ci := 6) (v := .ref (a 1)) (C := RX6) (T := TX6) (N := 9) hx hb htg ig_6 hown hK hP 0 (oh_wg (by decide) (sX_0 hT)) rfl 0 (by decide) (htg _ q_258) (fun _ h9 => h9) rfl dX6_stand_90 ?_
            refine lv_iload_n hx hb dX6_stand_93 rfl (lv_at hl 3 rfl) ?_
            refine lv_iload hx hb dX6_stand_94 (lv_at hl 1 rfl) ?_
            refine lv_iload hx hb dX6_stand_96 (lv_at hl 0 rfl) ?_
            refine tm_Vv (As := [.int x1, .int (7 + x2), .int 1]) (rest := []) ⟨hx, hb, hml, hown, htg⟩ (f_X0_putBridgeColumn l D E G _ a C hT x1 (7 + x2) (1 : Int32) (rg_w u_10.1 (by decide)) (rg_w (rn_nel (l' := 8) c_15 (rg_add (lo := 7) (hi := 9) (rg_c (v := 7) (lo := 7) (hi := 7) (by decide)) (rn_leu u_14.2 (rn_lel u_14.1 (rg_c (v := 0) (lo := 0) (hi := 0) (by decide)) (rg_any _)) (rg_c (v := 2) (lo := 2) (hi := 2) (by decide))) (by decide)) (rg_c (v := 7) (lo := 7) (hi := 7) (by decide)) (by decide)) (by decide))) (cwV 3 htg (oh_gV q_474 q_445 q_446 q_67 q_447) rfl rfl rfl pdVX0_putBridgeColumn ⟨Nat.le_of_ble_eq_true rfl, Nat.le_of_ble_eq_true rfl⟩) hK hP hD hG hS hA (va_recv hK hP (ci := 0) (q0 := 1) rfl (oh_wg (by decide) (sX_1 hT))) rfl hl.1 rfl (Nat.le_of_ble_eq_true rfl) dX6_stand_98 ⟨Nat.le_of_ble_eq_true rfl, Nat.le_of_ble_eq_true rfl⟩ (fun C_29 H locs hq_30 hP hD hS => ?_)
            obtain ⟨hT, f_31, hq_30⟩ := hq_30
            have hF := fr_tr hF f_31 (by decide) (by decide)
            refine W.widen (k := 0) (n := 0) (Nat.le_refl _) (Nat.le_refl _) ?_
            have t_32 := hT
            refine lv_iconst (v := 1) hx hb dX6_stand_101 (by decide) ?_
            rw [hQ]
            exact W.iret (v := 1) hx hb hr (fun t ht hW => ⟨⟨1, C_29, rfl, ⟨hT, hF, (fun A hA hI => stX (show 0 ≤ x1 ∧ x1 < A 5 0 1 by rw [← (show ga (C 10) ((1 : Int32)).toNatClampNeg = A 5 0 1 from hA.1 1 (by decide))]; exact u_10.2) (rg_w (lo := 0) (hi := 2) (rn_leu u_14.2 (rn_lel u_14.1 (rg_c (v := 0) (lo := 0) (hi := 0) (by decide)) (rg_any _)) (rg_c (v := 2) (lo := 2) (hi := 2) (by decide))) (by decide)) (fun h8 => st7 c_15 h8.1) (hq_30.2 A hA) (b01_1 c_16))⟩, ⟨by rw [ht]; exact hP, hD⟩⟩, hS.F ht⟩) hS.2.2 dX6_stand_102
          · refine lv_iconst (v := 0) hx hb dX6_stand_87 (by decide) ?_
            rw [hQ]
            exact W.iret (v := 0) hx hb hr (fun t ht hW => ⟨⟨0, C, rfl, ⟨hT, hF, (fun A hA hI => stX_s (v := 1) hA (rg_w (lo := 0) (hi := 15) u_10.1 (by decide)) (show 0 ≤ x1 ∧ x1 < A 5 0 1 by rw [← (show ga (C 10) ((1 : Int32)).toNatClampNeg = A 5 0 1 from hA.1 1 (by decide))]; exact u_10.2) (rg_w (lo := 0) (hi := 2) (rn_leu u_14.2 (rn_lel u_14.1 (rg_c (v := 0) (lo := 0) (hi := 0) (by decide)) (rg_any _)) (rg_c (v := 2) (lo := 2) (hi := 2) (by decide))) (by decide)) c_27 (b01_1 c_16))⟩, ⟨by rw [ht]; exact hP, hD⟩⟩, hS.F ht⟩) hS.2.2 dX6_stand_88
      · refine lv_iload_n hx hb dX6_stand_37 rfl (lv_at hl 4 rfl) ?_
        refine lv_if_eq (tgt := 61) hx hb dX6_stand_38 (by decide) (fun (c_33 : x3 = 0) => ?_) (fun (c_33 : ¬ (x3 = 0)) => ?_)
        · refine lv_iload_n hx hb dX6_stand_61 rfl (lv_at hl 4 rfl) ?_
          refine lv_if_eq (tgt := 69) hx hb dX6_stand_62 (by decide) (fun (c_34 : x3 = 0) => ?_) (fun (c_34 : ¬ (x3 = 0)) => ?_)
          · refine lv_iconst (v := 0) hx hb dX6_stand_69 (by decide) ?_
            refine lv_istore (lv' := [(5, .int 0), (4, .int (7 + x2)), (0, .ref (a 0)), (1, .int x1), (2, .int x2), (3, .int x3)]) hx hb dX6_stand_70 hl (by decide) rfl (fun ls hl => ?_)
            refine lv_aload_n hx hb dX6_stand_72 rfl (lv_at hl 2 rfl) ?_
            refine va_get (D := D) (ci := 6) (v := .ref (a 1)) (C := RX6) (T := TX6) (N := 9) hx hb htg ig_6 hown hK hP 0 (oh_wg (by decide) (sX_0 hT)) rfl 0 (by decide) (htg _ q_258) (fun _ h9 => h9) rfl dX6_stand_73 ?_
            refine lv_iload_n hx hb dX6_stand_76 rfl (lv_at hl 3 rfl) ?_
            refine lv_iload hx hb dX6_stand_77 (lv_at hl 1 rfl) ?_
            refine tq_V (As := [.int x1, .int (7 + x2)]) (rest := []) (ws := (oh_W 35 a C)) ⟨hx, hb, hml, hown, htg⟩ (c_X0_ofBridge l D E G a C hT x1 (7 + x2) (rg_w u_10.1 (by decide)) (rg_w (rn_eq c_15 (rg_c (v := 7) (lo := 7) (hi := 7) (by decide))) (by decide))) (cwV 2 htg (oh_gV q_392 q_385 q_386 q_67 q_387) rfl rfl rfl pdVX0_ofBridge ⟨Nat.le_of_ble_eq_true rfl, Nat.le_of_ble_eq_true rfl⟩) hK hP hG hS (va_recv hK hP (ci := 0) (q0 := 1) rfl (oh_wg (by decide) (sX_1 hT))) rfl hl.1 rfl (Nat.le_of_ble_eq_true rfl) dX6_stand_79 ⟨Nat.le_of_ble_eq_true rfl, Nat.le_of_ble_eq_true rfl⟩ (fun r_35 hq_36 => ?_)
            subst hq_36
            refine lv_iload hx hb dX6_stand_82 (lv_at hl 0 rfl) ?_
            refine lv_icmp_ne (tgt := 89) hx hb dX6_stand_84 (by decide) (fun (c_37 : ¬ ((ga (C 12) ((x1 * 10) + (7 + x2)).toNatClampNeg) = 0)) => ?_) (fun (c_37 : (ga (C 12) ((x1 * 10) + (7 + x2)).toNatClampNeg) = 0) => ?_)
            · refine lv_aload_n hx hb dX6_stand_89 rfl (lv_at hl 2 rfl) ?_
              refine va_get (D := D) (ci := 6) (v := .ref (a 1)) (C := RX6) (T := TX6) (N := 9) hx hb htg ig_6 hown hK hP 0 (oh_wg (by decide) (sX_0 hT)) rfl 0 (by decide) (htg _ q_258) (fun _ h9 => h9) rfl dX6_stand_90 ?_
              refine lv_iload_n hx hb dX6_stand_93 rfl (lv_at hl 3 rfl) ?_
              refine lv_iload hx hb dX6_stand_94 (lv_at hl 1 rfl) ?_
              refine lv_iload hx hb dX6_stand_96 (lv_at hl 0 rfl) ?_
              refine tm_Vv (As := [.int x1, .int (7 + x2), .int 0]) (rest := []) ⟨hx, hb, hml, hown, htg⟩ (f_X0_putBridgeColumn l D E G _ a C hT x1 (7 + x2) (0 : Int32) (rg_w u_10.1 (by decide)) (rg_w (rn_eq c_15 (rg_c (v := 7) (lo := 7) (hi := 7) (by decide))) (by decide))) (cwV 3 htg (oh_gV q_474 q_445 q_446 q_67 q_447) rfl rfl rfl pdVX0_putBridgeColumn ⟨Nat.le_of_ble_eq_true rfl, Nat.le_of_ble_eq_true rfl⟩) hK hP hD hG hS hA (va_recv hK hP (ci := 0) (q0 := 1) rfl (oh_wg (by decide) (sX_1 hT))) rfl hl.1 rfl (Nat.le_of_ble_eq_true rfl) dX6_stand_98 ⟨Nat.le_of_ble_eq_true rfl, Nat.le_of_ble_eq_true rfl⟩ (fun C_39 H locs hq_40 hP hD hS => ?_)
              obtain ⟨hT, f_41, hq_40⟩ := hq_40
              have hF := fr_tr hF f_41 (by decide) (by decide)
              refine W.widen (k := 0) (n := 0) (Nat.le_refl _) (Nat.le_refl _) ?_
              have t_42 := hT
              refine lv_iconst (v := 1) hx hb dX6_stand_101 (by decide) ?_
              rw [hQ]
              exact W.iret (v := 1) hx hb hr (fun t ht hW => ⟨⟨1, C_39, rfl, ⟨hT, hF, (fun A hA hI => stX (show 0 ≤ x1 ∧ x1 < A 5 0 1 by rw [← (show ga (C 10) ((1 : Int32)).toNatClampNeg = A 5 0 1 from hA.1 1 (by decide))]; exact u_10.2) (rg_w (lo := 0) (hi := 2) (rn_leu u_14.2 (rn_lel u_14.1 (rg_c (v := 0) (lo := 0) (hi := 0) (by decide)) (rg_any _)) (rg_c (v := 2) (lo := 2) (hi := 2) (by decide))) (by decide)) (stI_0 hA hI (rg_w (lo := 0) (hi := 15) u_10.1 (by decide)) (show 0 ≤ x1 ∧ x1 < A 5 0 1 by rw [← (show ga (C 10) ((1 : Int32)).toNatClampNeg = A 5 0 1 from hA.1 1 (by decide))]; exact u_10.2) (rg_w (lo := 0) (hi := 2) (rn_leu u_14.2 (rn_lel u_14.1 (rg_c (v := 0) (lo := 0) (hi := 0) (by decide)) (rg_any _)) (rg_c (v := 2) (lo := 2) (hi := 2) (by decide))) (by decide)) c_37) (hq_40.2 A hA) (b01_0 c_34))⟩, ⟨by rw [ht]; exact hP, hD⟩⟩, hS.F ht⟩) hS.2.2 dX6_stand_102
            · refine lv_iconst (v := 0) hx hb dX6_stand_87 (by decide) ?_
              rw [hQ]
              exact W.iret (v := 0) hx hb hr (fun t ht hW => ⟨⟨0, C, rfl, ⟨hT, hF, (fun A hA hI => stX_s (v := 0) hA (rg_w (lo := 0) (hi := 15) u_10.1 (by decide)) (show 0 ≤ x1 ∧ x1 < A 5 0 1 by rw [← (show ga (C 10) ((1 : Int32)).toNatClampNeg = A 5 0 1 from hA.1 1 (by decide))]; exact u_10.2) (rg_w (lo := 0) (hi := 2) (rn_leu u_14.2 (rn_lel u_14.1 (rg_c (v := 0) (lo := 0) (hi := 0) (by decide)) (rg_any _)) (rg_c (v := 2) (lo := 2) (hi := 2) (by decide))) (by decide)) c_37 (b01_0 c_34))⟩, ⟨by rw [ht]; exact hP, hD⟩⟩, hS.F ht⟩) hS.2.2 dX6_stand_88
          · refine lv_iconst (v := 1) hx hb dX6_stand_65 (by decide) ?_
            refine lv_goto (tgt := 70) hx hb dX6_stand_66 (by decide) ?_
            refine lv_istore (lv' := [(5, .int 1), (4, .int (7 + x2)), (0, .ref (a 0)), (1, .int x1), (2, .int x2), (3, .int x3)]) hx hb dX6_stand_70 hl (by decide) rfl (fun ls hl => ?_)
            refine lv_aload_n hx hb dX6_stand_72 rfl (lv_at hl 2 rfl) ?_
            refine va_get (D := D) (ci := 6) (v := .ref (a 1)) (C := RX6) (T := TX6) (N := 9) hx hb htg ig_6 hown hK hP 0 (oh_wg (by decide) (sX_0 hT)) rfl 0 (by decide) (htg _ q_258) (fun _ h9 => h9) rfl dX6_stand_73 ?_
            refine lv_iload_n hx hb dX6_stand_76 rfl (lv_at hl 3 rfl) ?_
            refine lv_iload hx hb dX6_stand_77 (lv_at hl 1 rfl) ?_
            refine tq_V (As := [.int x1, .int (7 + x2)]) (rest := []) (ws := (oh_W 35 a C)) ⟨hx, hb, hml, hown, htg⟩ (c_X0_ofBridge l D E G a C hT x1 (7 + x2) (rg_w u_10.1 (by decide)) (rg_w (rn_eq c_15 (rg_c (v := 7) (lo := 7) (hi := 7) (by decide))) (by decide))) (cwV 2 htg (oh_gV q_392 q_385 q_386 q_67 q_387) rfl rfl rfl pdVX0_ofBridge ⟨Nat.le_of_ble_eq_true rfl, Nat.le_of_ble_eq_true rfl⟩) hK hP hG hS (va_recv hK hP (ci := 0) (q0 := 1) rfl (oh_wg (by decide) (sX_1 hT))) rfl hl.1 rfl (Nat.le_of_ble_eq_true rfl) dX6_stand_79 ⟨Nat.le_of_ble_eq_true rfl, Nat.le_of_ble_eq_true rfl⟩ (fun r_43 hq_44 => ?_)
            subst hq_44
            refine lv_iload hx hb dX6_stand_82 (lv_at hl 0 rfl) ?_
            refine lv_icmp_ne (tgt := 89) hx hb dX6_stand_84 (by decide) (fun (c_45 : ¬ ((ga (C 12) ((x1 * 10) + (7 + x2)).toNatClampNeg) = 1)) => ?_) (fun (c_45 : (ga (C 12) ((x1 * 10) + (7 + x2)).toNatClampNeg) = 1) => ?_)
            · refine lv_aload_n hx hb dX6_stand_89 rfl (lv_at hl 2 rfl) ?_
              refine va_get (D := D) (ci := 6) (v := .ref (a 1)) (C := RX6) (T := TX6) (N := 9) hx hb htg ig_6 hown hK hP 0 (oh_wg (by decide) (sX_0 hT)) rfl 0 (by decide) (htg _ q_258) (fun _ h9 => h9) rfl dX6_stand_90 ?_
              refine lv_iload_n hx hb dX6_stand_93 rfl (lv_at hl 3 rfl) ?_
              refine lv_iload hx hb dX6_stand_94 (lv_at hl 1 rfl) ?_
              refine lv_iload hx hb dX6_stand_96 (lv_at hl 0 rfl) ?_
              refine tm_Vv (As := [.int x1, .int (7 + x2), .int 1]) (rest := []) ⟨hx, hb, hml, hown, htg⟩ (f_X0_putBridgeColumn l D E G _ a C hT x1 (7 + x2) (1 : Int32) (rg_w u_10.1 (by decide)) (rg_w (rn_eq c_15 (rg_c (v := 7) (lo := 7) (hi := 7) (by decide))) (by decide))) (cwV 3 htg (oh_gV q_474 q_445 q_446 q_67 q_447) rfl rfl rfl pdVX0_putBridgeColumn ⟨Nat.le_of_ble_eq_true rfl, Nat.le_of_ble_eq_true rfl⟩) hK hP hD hG hS hA (va_recv hK hP (ci := 0) (q0 := 1) rfl (oh_wg (by decide) (sX_1 hT))) rfl hl.1 rfl (Nat.le_of_ble_eq_true rfl) dX6_stand_98 ⟨Nat.le_of_ble_eq_true rfl, Nat.le_of_ble_eq_true rfl⟩ (fun C_47 H locs hq_48 hP hD hS => ?_)
              obtain ⟨hT, f_49, hq_48⟩ := hq_48
              have hF := fr_tr hF f_49 (by decide) (by decide)
              refine W.widen (k := 0) (n := 0) (Nat.le_refl _) (Nat.le_refl _) ?_
              have t_50 := hT
              refine lv_iconst (v := 1) hx hb dX6_stand_101 (by decide) ?_
              rw [hQ]
              exact W.iret (v := 1) hx hb hr (fun t ht hW => ⟨⟨1, C_47, rfl, ⟨hT, hF, (absurd c_33 c_34)⟩, ⟨by rw [ht]; exact hP, hD⟩⟩, hS.F ht⟩) hS.2.2 dX6_stand_102
            · refine lv_iconst (v := 0) hx hb dX6_stand_87 (by decide) ?_
              rw [hQ]
              exact W.iret (v := 0) hx hb hr (fun t ht hW => ⟨⟨0, C, rfl, ⟨hT, hF, (fun A hA hI => stX_s (v := 1) hA (rg_w (lo := 0) (hi := 15) u_10.1 (by decide)) (show 0 ≤ x1 ∧ x1 < A 5 0 1 by rw [← (show ga (C 10) ((1 : Int32)).toNatClampNeg = A 5 0 1 from hA.1 1 (by decide))]; exact u_10.2) (rg_w (lo := 0) (hi := 2) (rn_leu u_14.2 (rn_lel u_14.1 (rg_c (v := 0) (lo := 0) (hi := 0) (by decide)) (rg_any _)) (rg_c (v := 2) (lo := 2) (hi := 2) (by decide))) (by decide)) c_45 (b01_1 c_34))⟩, ⟨by rw [ht]; exact hP, hD⟩⟩, hS.F ht⟩) hS.2.2 dX6_stand_88
        · refine lv_aload_n hx hb dX6_stand_41 rfl (lv_at hl 1 rfl) ?_
          refine va_get (D := D) (ci := 6) (v := .ref (a 1)) (C := RX6) (T := TX6) (N := 9) hx hb htg ig_6 hown hK hP 0 (oh_wg (by decide) (sX_0 hT)) rfl 0 (by decide) (htg _ q_258) (fun _ h9 => h9) rfl dX6_stand_42 ?_
          refine lv_iload_n hx hb dX6_stand_45 rfl (lv_at hl 2 rfl) ?_
          refine lv_iconst (v := 1) hx hb dX6_stand_46 (by decide) ?_
          refine tq_V (As := [.int x1, .int 1]) (rest := []) (ws := (oh_W 35 a C)) ⟨hx, hb, hml, hown, htg⟩ (c_X0_ofBridge l D E G a C hT x1 (1 : Int32) (rg_w u_10.1 (by decide)) (rg_w (rg_c (v := 1) (lo := 1) (hi := 1) (by decide)) (by decide))) (cwV 2 htg (oh_gV q_392 q_385 q_386 q_67 q_387) rfl rfl rfl pdVX0_ofBridge ⟨Nat.le_of_ble_eq_true rfl, Nat.le_of_ble_eq_true rfl⟩) hK hP hG hS (va_recv hK hP (ci := 0) (q0 := 1) rfl (oh_wg (by decide) (sX_1 hT))) rfl hl.1 rfl (Nat.le_of_ble_eq_true rfl) dX6_stand_47 ⟨Nat.le_of_ble_eq_true rfl, Nat.le_of_ble_eq_true rfl⟩ (fun r_51 hq_52 => ?_)
          subst hq_52
          refine lv_iconst (v := 3) hx hb dX6_stand_50 (by decide) ?_
          refine lv_icmp_ne (tgt := 61) hx hb dX6_stand_51 (by decide) (fun (c_53 : ¬ ((ga (C 12) ((x1 * 10) + 1).toNatClampNeg) = 3)) => ?_) (fun (c_53 : (ga (C 12) ((x1 * 10) + 1).toNatClampNeg) = 3) => ?_)
          · refine lv_iload_n hx hb dX6_stand_61 rfl (lv_at hl 4 rfl) ?_
            refine lv_if_eq (tgt := 69) hx hb dX6_stand_62 (by decide) (fun (c_54 : x3 = 0) => ?_) (fun (c_54 : ¬ (x3 = 0)) => ?_)
            · refine lv_iconst (v := 0) hx hb dX6_stand_69 (by decide) ?_
              refine lv_istore (lv' := [(5, .int 0), (4, .int (7 + x2)), (0, .ref (a 0)), (1, .int x1), (2, .int x2), (3, .int x3)]) hx hb dX6_stand_70 hl (by decide) rfl (fun ls hl => ?_)
              refine lv_aload_n hx hb dX6_stand_72 rfl (lv_at hl 2 rfl) ?_
              refine va_get (D := D) (ci := 6) (v := .ref (a 1)) (C := RX6) (T := TX6) (N := 9) hx hb htg ig_6 hown hK hP 0 (oh_wg (by decide) (sX_0 hT)) rfl 0 (by decide) (htg _ q_258) (fun _ h9 => h9) rfl dX6_stand_73 ?_
              refine lv_iload_n hx hb dX6_stand_76 rfl (lv_at hl 3 rfl) ?_
              refine lv_iload hx hb dX6_stand_77 (lv_at hl 1 rfl) ?_
              refine tq_V (As := [.int x1, .int (7 + x2)]) (rest := []) (ws := (oh_W 35 a C)) ⟨hx, hb, hml, hown, htg⟩ (c_X0_ofBridge l D E G a C hT x1 (7 + x2) (rg_w u_10.1 (by decide)) (rg_w (rn_eq c_15 (rg_c (v := 7) (lo := 7) (hi := 7) (by decide))) (by decide))) (cwV 2 htg (oh_gV q_392 q_385 q_386 q_67 q_387) rfl rfl rfl pdVX0_ofBridge ⟨Nat.le_of_ble_eq_true rfl, Nat.le_of_ble_eq_true rfl⟩) hK hP hG hS (va_recv hK hP (ci := 0) (q0 := 1) rfl (oh_wg (by decide) (sX_1 hT))) rfl hl.1 rfl (Nat.le_of_ble_eq_true rfl) dX6_stand_79 ⟨Nat.le_of_ble_eq_true rfl, Nat.le_of_ble_eq_true rfl⟩ (fun r_55 hq_56 => ?_)
              subst hq_56
              refine lv_iload hx hb dX6_stand_82 (lv_at hl 0 rfl) ?_
              refine lv_icmp_ne (tgt := 89) hx hb dX6_stand_84 (by decide) (fun (c_57 : ¬ ((ga (C 12) ((x1 * 10) + (7 + x2)).toNatClampNeg) = 0)) => ?_) (fun (c_57 : (ga (C 12) ((x1 * 10) + (7 + x2)).toNatClampNeg) = 0) => ?_)
              · refine lv_aload_n hx hb dX6_stand_89 rfl (lv_at hl 2 rfl) ?_
                refine va_get (D := D) (ci := 6) (v := .ref (a 1)) (C := RX6) (T := TX6) (N := 9) hx hb htg ig_6 hown hK hP 0 (oh_wg (by decide) (sX_0 hT)) rfl 0 (by decide) (htg _ q_258) (fun _ h9 => h9) rfl dX6_stand_90 ?_
                refine lv_iload_n hx hb dX6_stand_93 rfl (lv_at hl 3 rfl) ?_
                refine lv_iload hx hb dX6_stand_94 (lv_at hl 1 rfl) ?_
                refine lv_iload hx hb dX6_stand_96 (lv_at hl 0 rfl) ?_
                refine tm_Vv (As := [.int x1, .int (7 + x2), .int 0]) (rest := []) ⟨hx, hb, hml, hown, htg⟩ (f_X0_putBridgeColumn l D E G _ a C hT x1 (7 + x2) (0 : Int32) (rg_w u_10.1 (by decide)) (rg_w (rn_eq c_15 (rg_c (v := 7) (lo := 7) (hi := 7) (by decide))) (by decide))) (cwV 3 htg (oh_gV q_474 q_445 q_446 q_67 q_447) rfl rfl rfl pdVX0_putBridgeColumn ⟨Nat.le_of_ble_eq_true rfl, Nat.le_of_ble_eq_true rfl⟩) hK hP hD hG hS hA (va_recv hK hP (ci := 0) (q0 := 1) rfl (oh_wg (by decide) (sX_1 hT))) rfl hl.1 rfl (Nat.le_of_ble_eq_true rfl) dX6_stand_98 ⟨Nat.le_of_ble_eq_true rfl, Nat.le_of_ble_eq_true rfl⟩ (fun C_59 H locs hq_60 hP hD hS => ?_)
                obtain ⟨hT, f_61, hq_60⟩ := hq_60
                have hF := fr_tr hF f_61 (by decide) (by decide)
                refine W.widen (k := 0) (n := 0) (Nat.le_refl _) (Nat.le_refl _) ?_
                have t_62 := hT
                refine lv_iconst (v := 1) hx hb dX6_stand_101 (by decide) ?_
                rw [hQ]
                exact W.iret (v := 1) hx hb hr (fun t ht hW => ⟨⟨1, C_59, rfl, ⟨hT, hF, (fun A hA hI => stX (show 0 ≤ x1 ∧ x1 < A 5 0 1 by rw [← (show ga (C 10) ((1 : Int32)).toNatClampNeg = A 5 0 1 from hA.1 1 (by decide))]; exact u_10.2) (rg_w (lo := 0) (hi := 2) (rn_leu u_14.2 (rn_lel u_14.1 (rg_c (v := 0) (lo := 0) (hi := 0) (by decide)) (rg_any _)) (rg_c (v := 2) (lo := 2) (hi := 2) (by decide))) (by decide)) (fun h8 => c_53 (Eq.trans (show ga (C 12) (x1 * 10 + 1).toNatClampNeg = A 1 x1.toNatClampNeg 1 from brX hA (rg_w (lo := 0) (hi := 15) u_10.1 (by decide)) (show 0 ≤ x1 ∧ x1 < A 5 0 1 by rw [← (show ga (C 10) ((1 : Int32)).toNatClampNeg = A 5 0 1 from hA.1 1 (by decide))]; exact u_10.2) (rg_c (v := 1) (lo := 1) (hi := 1) (by decide)) (by decide)) h8.2)) (hq_60.2 A hA) (b01_0 c_54))⟩, ⟨by rw [ht]; exact hP, hD⟩⟩, hS.F ht⟩) hS.2.2 dX6_stand_102
              · refine lv_iconst (v := 0) hx hb dX6_stand_87 (by decide) ?_
                rw [hQ]
                exact W.iret (v := 0) hx hb hr (fun t ht hW => ⟨⟨0, C, rfl, ⟨hT, hF, (fun A hA hI => stX_s (v := 0) hA (rg_w (lo := 0) (hi := 15) u_10.1 (by decide)) (show 0 ≤ x1 ∧ x1 < A 5 0 1 by rw [← (show ga (C 10) ((1 : Int32)).toNatClampNeg = A 5 0 1 from hA.1 1 (by decide))]; exact u_10.2) (rg_w (lo := 0) (hi := 2) (rn_leu u_14.2 (rn_lel u_14.1 (rg_c (v := 0) (lo := 0) (hi := 0) (by decide)) (rg_any _)) (rg_c (v := 2) (lo := 2) (hi := 2) (by decide))) (by decide)) c_57 (b01_0 c_54))⟩, ⟨by rw [ht]; exact hP, hD⟩⟩, hS.F ht⟩) hS.2.2 dX6_stand_88
            · refine lv_iconst (v := 1) hx hb dX6_stand_65 (by decide) ?_
              refine lv_goto (tgt := 70) hx hb dX6_stand_66 (by decide) ?_
              refine lv_istore (lv' := [(5, .int 1), (4, .int (7 + x2)), (0, .ref (a 0)), (1, .int x1), (2, .int x2), (3, .int x3)]) hx hb dX6_stand_70 hl (by decide) rfl (fun ls hl => ?_)
              refine lv_aload_n hx hb dX6_stand_72 rfl (lv_at hl 2 rfl) ?_
              refine va_get (D := D) (ci := 6) (v := .ref (a 1)) (C := RX6) (T := TX6) (N := 9) hx hb htg ig_6 hown hK hP 0 (oh_wg (by decide) (sX_0 hT)) rfl 0 (by decide) (htg _ q_258) (fun _ h9 => h9) rfl dX6_stand_73 ?_
              refine lv_iload_n hx hb dX6_stand_76 rfl (lv_at hl 3 rfl) ?_
              refine lv_iload hx hb dX6_stand_77 (lv_at hl 1 rfl) ?_
              refine tq_V (As := [.int x1, .int (7 + x2)]) (rest := []) (ws := (oh_W 35 a C)) ⟨hx, hb, hml, hown, htg⟩ (c_X0_ofBridge l D E G a C hT x1 (7 + x2) (rg_w u_10.1 (by decide)) (rg_w (rn_eq c_15 (rg_c (v := 7) (lo := 7) (hi := 7) (by decide))) (by decide))) (cwV 2 htg (oh_gV q_392 q_385 q_386 q_67 q_387) rfl rfl rfl pdVX0_ofBridge ⟨Nat.le_of_ble_eq_true rfl, Nat.le_of_ble_eq_true rfl⟩) hK hP hG hS (va_recv hK hP (ci := 0) (q0 := 1) rfl (oh_wg (by decide) (sX_1 hT))) rfl hl.1 rfl (Nat.le_of_ble_eq_true rfl) dX6_stand_79 ⟨Nat.le_of_ble_eq_true rfl, Nat.le_of_ble_eq_true rfl⟩ (fun r_63 hq_64 => ?_)
              subst hq_64
              refine lv_iload hx hb dX6_stand_82 (lv_at hl 0 rfl) ?_
              refine lv_icmp_ne (tgt := 89) hx hb dX6_stand_84 (by decide) (fun (c_65 : ¬ ((ga (C 12) ((x1 * 10) + (7 + x2)).toNatClampNeg) = 1)) => ?_) (fun (c_65 : (ga (C 12) ((x1 * 10) + (7 + x2)).toNatClampNeg) = 1) => ?_)
              · refine lv_aload_n hx hb dX6_stand_89 rfl (lv_at hl 2 rfl) ?_
                refine va_get (D := D) (ci := 6) (v := .ref (a 1)) (C := RX6) (T := TX6) (N := 9) hx hb htg ig_6 hown hK hP 0 (oh_wg (by decide) (sX_0 hT)) rfl 0 (by decide) (htg _ q_258) (fun _ h9 => h9) rfl dX6_stand_90 ?_
                refine lv_iload_n hx hb dX6_stand_93 rfl (lv_at hl 3 rfl) ?_
                refine lv_iload hx hb dX6_stand_94 (lv_at hl 1 rfl) ?_
                refine lv_iload hx hb dX6_stand_96 (lv_at hl 0 rfl) ?_
                refine tm_Vv (As := [.int x1, .int (7 + x2), .int 1]) (rest := []) ⟨hx, hb, hml, hown, htg⟩ (f_X0_putBridgeColumn l D E G _ a C hT x1 (7 + x2) (1 : Int32) (rg_w u_10.1 (by decide)) (rg_w (rn_eq c_15 (rg_c (v := 7) (lo := 7) (hi := 7) (by decide))) (by decide))) (cwV 3 htg (oh_gV q_474 q_445 q_446 q_67 q_447) rfl rfl rfl pdVX0_putBridgeColumn ⟨Nat.le_of_ble_eq_true rfl, Nat.le_of_ble_eq_true rfl⟩) hK hP hD hG hS hA (va_recv hK hP (ci := 0) (q0 := 1) rfl (oh_wg (by decide) (sX_1 hT))) rfl hl.1 rfl (Nat.le_of_ble_eq_true rfl) dX6_stand_98 ⟨Nat.le_of_ble_eq_true rfl, Nat.le_of_ble_eq_true rfl⟩ (fun C_67 H locs hq_68 hP hD hS => ?_)
                obtain ⟨hT, f_69, hq_68⟩ := hq_68
                have hF := fr_tr hF f_69 (by decide) (by decide)
                refine W.widen (k := 0) (n := 0) (Nat.le_refl _) (Nat.le_refl _) ?_
                have t_70 := hT
                refine lv_iconst (v := 1) hx hb dX6_stand_101 (by decide) ?_
                rw [hQ]
                exact W.iret (v := 1) hx hb hr (fun t ht hW => ⟨⟨1, C_67, rfl, ⟨hT, hF, (fun A hA hI => stX (show 0 ≤ x1 ∧ x1 < A 5 0 1 by rw [← (show ga (C 10) ((1 : Int32)).toNatClampNeg = A 5 0 1 from hA.1 1 (by decide))]; exact u_10.2) (rg_w (lo := 0) (hi := 2) (rn_leu u_14.2 (rn_lel u_14.1 (rg_c (v := 0) (lo := 0) (hi := 0) (by decide)) (rg_any _)) (rg_c (v := 2) (lo := 2) (hi := 2) (by decide))) (by decide)) (fun h8 => c_53 (Eq.trans (show ga (C 12) (x1 * 10 + 1).toNatClampNeg = A 1 x1.toNatClampNeg 1 from brX hA (rg_w (lo := 0) (hi := 15) u_10.1 (by decide)) (show 0 ≤ x1 ∧ x1 < A 5 0 1 by rw [← (show ga (C 10) ((1 : Int32)).toNatClampNeg = A 5 0 1 from hA.1 1 (by decide))]; exact u_10.2) (rg_c (v := 1) (lo := 1) (hi := 1) (by decide)) (by decide)) h8.2)) (hq_68.2 A hA) (b01_1 c_54))⟩, ⟨by rw [ht]; exact hP, hD⟩⟩, hS.F ht⟩) hS.2.2 dX6_stand_102
              · refine lv_iconst (v := 0) hx hb dX6_stand_87 (by decide) ?_
                rw [hQ]
                exact W.iret (v := 0) hx hb hr (fun t ht hW => ⟨⟨0, C, rfl, ⟨hT, hF, (fun A hA hI => stX_s (v := 1) hA (rg_w (lo := 0) (hi := 15) u_10.1 (by decide)) (show 0 ≤ x1 ∧ x1 < A 5 0 1 by rw [← (show ga (C 10) ((1 : Int32)).toNatClampNeg = A 5 0 1 from hA.1 1 (by decide))]; exact u_10.2) (rg_w (lo := 0) (hi := 2) (rn_leu u_14.2 (rn_lel u_14.1 (rg_c (v := 0) (lo := 0) (hi := 0) (by decide)) (rg_any _)) (rg_c (v := 2) (lo := 2) (hi := 2) (by decide))) (by decide)) c_65 (b01_1 c_54))⟩, ⟨by rw [ht]; exact hP, hD⟩⟩, hS.F ht⟩) hS.2.2 dX6_stand_88
          · refine lv_aload_n hx hb dX6_stand_54 rfl (lv_at hl 1 rfl) ?_
            refine lv_bipush (v := (-5)) hx hb dX6_stand_55 (by decide) ?_
            refine tm_V (As := [.int (-5)]) (rest := []) ⟨hx, hb, hml, hown, htg⟩ (c_X6_refuse l D E G _ a C hT ((-5) : Int32)) (cwV 1 htg (oh_gV q_296 q_298 q_0 q_66 q_299) rfl rfl rfl pdVX6_refuse ⟨Nat.le_of_ble_eq_true rfl, Nat.le_of_ble_eq_true rfl⟩) hK hP hD hG hS hA (va_recv hK hP (ci := 6) (q0 := 0) rfl (oh_wg (by decide) (sX_0 hT))) rfl hl.1 rfl (Nat.le_of_ble_eq_true rfl) dX6_stand_57 ⟨Nat.le_of_ble_eq_true rfl, Nat.le_of_ble_eq_true rfl⟩ (fun r_71 C_72 H locs hq_73 hP hD hS => ?_)
            obtain ⟨hT, f_74, hq_73⟩ := hq_73
            have hF := fr_tr hF f_74 (by decide) (by decide)
            refine W.widen (k := 0) (n := 0) (Nat.le_refl _) (Nat.le_refl _) ?_
            have t_75 := hT
            rw [hQ]
            exact W.iret (v := r_71) hx hb hr (fun t ht hW => ⟨⟨r_71, C_72, rfl, ⟨hT, hF, (fun A hA hI => by rw [stX_0 (fun h8 => h8.2.2 ⟨oh_70 (rg_w (lo := 0) (hi := 2) (rn_leu u_14.2 (rn_lel u_14.1 (rg_c (v := 0) (lo := 0) (hi := 0) (by decide)) (rg_any _)) (rg_c (v := 2) (lo := 2) (hi := 2) (by decide))) (by decide)) c_15, Eq.trans (show ga (C 12) (x1 * 10 + 1).toNatClampNeg = A 1 x1.toNatClampNeg 1 from brX hA (rg_w (lo := 0) (hi := 15) u_10.1 (by decide)) (show 0 ≤ x1 ∧ x1 < A 5 0 1 by rw [← (show ga (C 10) ((1 : Int32)).toNatClampNeg = A 5 0 1 from hA.1 1 (by decide))]; exact u_10.2) (rg_c (v := 1) (lo := 1) (hi := 1) (by decide)) (by decide)).symm c_53⟩)]; exact (absX_eq hA (fun k k1 k2 => (fun k k1 k2 => (fr_all f_74 10 15 (by decide) k k1 k2)) k k1 (by omega))))⟩, ⟨by rw [ht]; exact hP, hD⟩⟩, hS.F ht⟩) hS.2.2 dX6_stand_60
    · have u_76 := hq_12.2.2 c_13
      refine lv_aload_n hx hb dX6_stand_17 rfl (lv_at hl 0 rfl) ?_
      refine lv_bipush (v := (-2)) hx hb dX6_stand_18 (by decide) ?_
      refine tm_V (As := [.int (-2)]) (rest := []) ⟨hx, hb, hml, hown, htg⟩ (c_X6_refuse l D E G _ a C hT ((-2) : Int32)) (cwV 1 htg (oh_gV q_296 q_298 q_0 q_66 q_299) rfl rfl rfl pdVX6_refuse ⟨Nat.le_of_ble_eq_true rfl, Nat.le_of_ble_eq_true rfl⟩) hK hP hD hG hS hA (va_recv hK hP (ci := 6) (q0 := 0) rfl (oh_wg (by decide) (sX_0 hT))) rfl hl.1 rfl (Nat.le_of_ble_eq_true rfl) dX6_stand_20 ⟨Nat.le_of_ble_eq_true rfl, Nat.le_of_ble_eq_true rfl⟩ (fun r_77 C_78 H locs hq_79 hP hD hS => ?_)
      obtain ⟨hT, f_80, hq_79⟩ := hq_79
      have hF := fr_tr hF f_80 (by decide) (by decide)
      refine W.widen (k := 0) (n := 0) (Nat.le_refl _) (Nat.le_refl _) ?_
      have t_81 := hT
      rw [hQ]
      exact W.iret (v := r_77) hx hb hr (fun t ht hW => ⟨⟨r_77, C_78, rfl, ⟨hT, hF, (fun A hA hI => by rw [stX_0 (fun h8 => u_76 h8.2.1)]; exact (absX_eq hA (fun k k1 k2 => (fun k k1 k2 => (fr_all f_80 10 15 (by decide) k k1 k2)) k k1 (by omega))))⟩, ⟨by rw [ht]; exact hP, hD⟩⟩, hS.F ht⟩) hS.2.2 dX6_stand_23

theorem shX {C u : Nat → va_E} {A : LA} {r x v : Int32} (hA : absX 10 C A) (hr : rg r 0 23) (hv : v = b01 x) (e : ga (u 11) = upd (ga (C 11)) (r * 7 + 6).toNatClampNeg v) (e3 : ∀ k, 10 ≤ k → k ≤ 15 → k ≠ 11 → u k = C k) : absX 10 u (putA A 0 r.toNatClampNeg 6 (b01 x)) := by
  rw [oh_rix (w := 7) (j := 6) hr rfl rfl (by decide), hv] at e
  exact absX_put (t := 0) hA (by decide) (by decide) e (fun k k1 k2 k3 => e3 k k1 (by omega) k3)
theorem shX_v {C : Nat → va_E} {A : LA} {r : Int32} (hA : absX 10 C A) (hr : rg r 0 23) (hb : r < A 5 0 0) : ga (C 11) (r * 7 + 6).toNatClampNeg = A 0 r.toNatClampNeg 6 := by
  rw [oh_rix (w := 7) (j := 6) hr rfl rfl (by decide)]
  exact hA.2.2 0 (by decide) r.toNatClampNeg (by rw [oh_nat hr (by decide)]; exact Int32.lt_iff_toInt_lt.mp hb) 6 (by decide) (by unfold vis; omega)

set_option maxHeartbeats 4000000 in
set_option maxRecDepth 100000 in
theorem e_X6_shut (l : Launch) (D : va_G) (E : Nat → ClassId) (G : Nat → Nat) (sz : Nat) (a : Nat → Nat) (C : Nat → va_E) (hT : TyX a E C) (x1 : Int32) (x2 : Int32) (hx2 : rg x2 0 1) : Met l yX6_shut (oh_w yX6_shut cX6_shut 4 (some .int)) ({ frames := 2, cells := 0, slots := 0, locals := 44 }) (oh_Pm D E G [.ref (a 0), .int x1, .int x2] (oh_W 35 a C) sz) (va_Qi (fun r (u : Nat → va_E) => TyX a E u ∧ fr [(7, 8), (11, 12)] [] C u ∧ (∀ A : LA, absX 10 C A → r = (spShut A x1 x2).1 ∧ absX 10 u (spShut A x1 x2).2)) (oh_B D (va_A (oh_W 35 a C) sz) (fun u => oh_W 35 a u)) (va_A (oh_W 35 a C) sz)) 0 0 (va_A (oh_W 35 a C) sz) := by
  refine Met.ofW (cc := cX6_shut) (maxL := 4) (ret := (some .int)) (by decide) rfl ?_
  intro p e s m args below meth c s₁ B hml hv
  obtain ⟨rfl, hsz, hP, hK, hD0, hG⟩ := hv
  have hx := B.exec
  have hb := B.bytes
  have hr := B.returns
  have hts := atoms_spec (ws := (oh_w yX6_shut cX6_shut 4 (some .int))) B.pre
  have htg : ∀ w ∈ oh_t, w.before _ s = true := fun w h => hts w (List.mem_cons_of_mem _ h)
  have hown : s.vm.findClass RX6 = some m.cls := findClass_of_methodNamed B.named
  have hlocks := B.notSynchronized
  have hT0 := hT
  subst hsz
  have hD := hD0.self (sz := s.heap.size)
  generalize hAe : va_A (oh_W 35 a C) s.heap.size = A at hD hG ⊢
  have hA : ∀ q : Nat, s.heap.size ≤ q → A q := fun q h => by rw [← hAe]; exact Or.inr h
  have hS : va_S A s.heap s.heap [] := va_S.rf
  have hF : fr [(7, 8), (11, 12)] [] C C := fr_rf
  have hl := lv_entry ([.ref (a 0), .int x1, .int x2]) (n := 4) (Nat.le_of_ble_eq_true rfl)
  rw [lg_entry_eq]
  generalize (lg_sl ([.ref (a 0), .int x1, .int x2]) ++ List.replicate (4 - (lg_sl ([.ref (a 0), .int x1, .int x2])).length) Slot.unset).toArray = ls at hl ⊢
  have hl : lv_has ls 4 [(0, .ref (a 0)), (1, .int x1), (2, .int x2)] := hl
  refine oh_genQ (fun Q hQ => ?_)
  refine lv_aload_n hx hb dX6_shut_0 rfl (lv_at hl 0 rfl) ?_
  refine lv_iload_n hx hb dX6_shut_1 rfl (lv_at hl 1 rfl) ?_
  refine tq_V (As := [.int x1]) (rest := []) (ws := (oh_W 35 a C)) ⟨hx, hb, hml, hown, htg⟩ (e_X6_isRoad l D E G a C hT x1) (cwV 1 htg (oh_gV q_428 q_430 q_5 q_66 q_431) rfl rfl rfl pdVX6_isRoad ⟨Nat.le_of_ble_eq_true rfl, Nat.le_of_ble_eq_true rfl⟩) hK hP hG hS (va_recv hK hP (ci := 6) (q0 := 0) rfl (oh_wg (by decide) (sX_0 hT))) rfl hl.1 rfl (Nat.le_of_ble_eq_true rfl) dX6_shut_2 ⟨Nat.le_of_ble_eq_true rfl, Nat.le_of_ble_eq_true rfl⟩ (fun r_1 hq_2 => ?_)
  refine lv_if_ne (tgt := 15) hx hb dX6_shut_5 (by decide) (fun (c_3 : ¬ (r_1 = 0)) => ?_) (fun (c_3 : r_1 = 0) => ?_)
  · have u_4 := hq_2.2.1 c_3
    refine lv_iload_n hx hb dX6_shut_15 rfl (lv_at hl 2 rfl) ?_
    refine lv_if_eq (tgt := 23) hx hb dX6_shut_16 (by decide) (fun (c_5 : x2 = 0) => ?_) (fun (c_5 : ¬ (x2 = 0)) => ?_)
    · refine lv_iconst (v := 0) hx hb dX6_shut_23 (by decide) ?_
      refine lv_istore_n (lv' := [(3, .int 0), (0, .ref (a 0)), (1, .int x1), (2, .int x2)]) hx hb dX6_shut_24 rfl hl (by decide) rfl (fun ls hl => ?_)
      refine lv_aload_n hx hb dX6_shut_25 rfl (lv_at hl 1 rfl) ?_
      refine va_get (D := D) (ci := 6) (v := .ref (a 1)) (C := RX6) (T := TX6) (N := 9) hx hb htg ig_6 hown hK hP 0 (oh_wg (by decide) (sX_0 hT)) rfl 0 (by decide) (htg _ q_258) (fun _ h9 => h9) rfl dX6_shut_26 ?_
      refine lv_iload_n hx hb dX6_shut_29 rfl (lv_at hl 2 rfl) ?_
      refine lv_bipush (v := 6) hx hb dX6_shut_30 (by decide) ?_
      refine tq_V (As := [.int x1, .int 6]) (rest := []) (ws := (oh_W 35 a C)) ⟨hx, hb, hml, hown, htg⟩ (c_X0_ofRoad l D E G a C hT x1 (6 : Int32) (rg_w u_4.1 (by decide)) (rg_w (rg_c (v := 6) (lo := 6) (hi := 6) (by decide)) (by decide))) (cwV 2 htg (oh_gV q_479 q_480 q_481 q_67 q_482) rfl rfl rfl pdVX0_ofRoad ⟨Nat.le_of_ble_eq_true rfl, Nat.le_of_ble_eq_true rfl⟩) hK hP hG hS (va_recv hK hP (ci := 0) (q0 := 1) rfl (oh_wg (by decide) (sX_1 hT))) rfl hl.1 rfl (Nat.le_of_ble_eq_true rfl) dX6_shut_32 ⟨Nat.le_of_ble_eq_true rfl, Nat.le_of_ble_eq_true rfl⟩ (fun r_6 hq_7 => ?_)
      subst hq_7
      refine lv_iload_n hx hb dX6_shut_35 rfl (lv_at hl 0 rfl) ?_
      refine lv_icmp_ne (tgt := 41) hx hb dX6_shut_36 (by decide) (fun (c_8 : ¬ ((ga (C 11) ((x1 * 7) + 6).toNatClampNeg) = 0)) => ?_) (fun (c_8 : (ga (C 11) ((x1 * 7) + 6).toNatClampNeg) = 0) => ?_)
      · refine lv_aload_n hx hb dX6_shut_41 rfl (lv_at hl 1 rfl) ?_
        refine va_get (D := D) (ci := 6) (v := .ref (a 1)) (C := RX6) (T := TX6) (N := 9) hx hb htg ig_6 hown hK hP 0 (oh_wg (by decide) (sX_0 hT)) rfl 0 (by decide) (htg _ q_258) (fun _ h9 => h9) rfl dX6_shut_42 ?_
        refine va_get (D := D) (ci := 0) (v := .ref (a 11)) (C := RX0) (T := TX0) (N := 8) hx hb htg ig_0 hown hK hP 1 (oh_wg (by decide) (sX_1 hT)) rfl 1 (by decide) (htg _ q_102) (fun _ h9 => h9) rfl dX6_shut_45 ?_
        refine lv_iload_n hx hb dX6_shut_48 rfl (lv_at hl 2 rfl) ?_
        refine lv_bipush (v := 7) hx hb dX6_shut_49 (by decide) ?_
        refine lv_imul hx hb dX6_shut_51 ?_
        refine lv_bipush (v := 6) hx hb dX6_shut_52 (by decide) ?_
        refine lv_iadd hx hb dX6_shut_54 ?_
        refine lv_iload_n hx hb dX6_shut_55 rfl (lv_at hl 0 rfl) ?_
        have n_9 : vp_in ((x1 * 7) + 6) 168 := (rg_in (rg_add (lo := 6) (hi := 167) (rg_mul (lo := 0) (hi := 161) u_4.1 (rg_c (v := 7) (lo := 7) (hi := 7) (by decide)) (by decide)) (rg_c (v := 6) (lo := 6) (hi := 6) (by decide)) (by decide)) (by decide))
        refine th_iast (T := TyX a E) (Rl := fr [(7, 8), (11, 12)] [] C) hx hb hK hP hD hS 11 (by decide) (sX_11 hT) n_9 (hT.up 11 (tA_upd (tX_11 hT) (tA_stc (oh_col (W := 7) u_4.1 rfl (rg_c (v := 6) (lo := 6) (hi := 6) (by decide)) (by decide)) (rg_c (v := 0) (lo := 0) (hi := 0) (by decide)) (by decide)))) (fr_st hF (by decide) (by decide)) dX6_shut_56 (fun C_10 H locs e_11 hT hF hP hD hS => ?_)
        have t_12 := hT
        refine lv_iconst (v := 1) hx hb dX6_shut_57 (by decide) ?_
        rw [hQ]
        exact W.iret (v := 1) hx hb hr (fun t ht hW => ⟨⟨1, C_10, rfl, ⟨hT, hF, (fun A hA => pr_b (pif_pos (show 0 ≤ x1 ∧ x1 < A 5 0 0 by rw [← (show ga (C 10) ((0 : Int32)).toNatClampNeg = A 5 0 0 from hA.1 0 (by decide))]; exact u_4.2)) (pif_neg (fun h8 => c_8 (Eq.trans (shX_v hA (rg_w (lo := 0) (hi := 23) u_4.1 (by decide)) (show 0 ≤ x1 ∧ x1 < A 5 0 0 by rw [← (show ga (C 10) ((0 : Int32)).toNatClampNeg = A 5 0 0 from hA.1 0 (by decide))]; exact u_4.2).2) (Eq.trans h8 (b01_0 c_5).symm)))).symm (shX hA (rg_w (lo := 0) (hi := 23) u_4.1 (by decide)) (b01_0 c_5) (st_ga e_11) (fun k k1 k2 k3 => th_un e_11 k3)))⟩, ⟨by rw [ht]; exact hP, hD⟩⟩, hS.F ht⟩) hS.2.2 dX6_shut_58
      · refine lv_iconst (v := 0) hx hb dX6_shut_39 (by decide) ?_
        rw [hQ]
        exact W.iret (v := 0) hx hb hr (fun t ht hW => ⟨⟨0, C, rfl, ⟨hT, hF, (fun A hA => pr_b (pif_pos (show 0 ≤ x1 ∧ x1 < A 5 0 0 by rw [← (show ga (C 10) ((0 : Int32)).toNatClampNeg = A 5 0 0 from hA.1 0 (by decide))]; exact u_4.2)) (pif_pos (show A 0 x1.toNatClampNeg 6 = b01 x2 from Eq.trans (shX_v hA (rg_w (lo := 0) (hi := 23) u_4.1 (by decide)) (show 0 ≤ x1 ∧ x1 < A 5 0 0 by rw [← (show ga (C 10) ((0 : Int32)).toNatClampNeg = A 5 0 0 from hA.1 0 (by decide))]; exact u_4.2).2).symm (Eq.trans c_8 (b01_0 c_5)))).symm (by rw [putA_same (show A 0 x1.toNatClampNeg 6 = b01 x2 from Eq.trans (shX_v hA (rg_w (lo := 0) (hi := 23) u_4.1 (by decide)) (show 0 ≤ x1 ∧ x1 < A 5 0 0 by rw [← (show ga (C 10) ((0 : Int32)).toNatClampNeg = A 5 0 0 from hA.1 0 (by decide))]; exact u_4.2).2).symm (Eq.trans c_8 (b01_0 c_5)))]; exact hA))⟩, ⟨by rw [ht]; exact hP, hD⟩⟩, hS.F ht⟩) hS.2.2 dX6_shut_40
    · refine lv_iconst (v := 1) hx hb dX6_shut_19 (by decide) ?_
      refine lv_goto (tgt := 24) hx hb dX6_shut_20 (by decide) ?_
      refine lv_istore_n (lv' := [(3, .int 1), (0, .ref (a 0)), (1, .int x1), (2, .int x2)]) hx hb dX6_shut_24 rfl hl (by decide) rfl (fun ls hl => ?_)
      refine lv_aload_n hx hb dX6_shut_25 rfl (lv_at hl 1 rfl) ?_
      refine va_get (D := D) (ci := 6) (v := .ref (a 1)) (C := RX6) (T := TX6) (N := 9) hx hb htg ig_6 hown hK hP 0 (oh_wg (by decide) (sX_0 hT)) rfl 0 (by decide) (htg _ q_258) (fun _ h9 => h9) rfl dX6_shut_26 ?_
      refine lv_iload_n hx hb dX6_shut_29 rfl (lv_at hl 2 rfl) ?_
      refine lv_bipush (v := 6) hx hb dX6_shut_30 (by decide) ?_
      refine tq_V (As := [.int x1, .int 6]) (rest := []) (ws := (oh_W 35 a C)) ⟨hx, hb, hml, hown, htg⟩ (c_X0_ofRoad l D E G a C hT x1 (6 : Int32) (rg_w u_4.1 (by decide)) (rg_w (rg_c (v := 6) (lo := 6) (hi := 6) (by decide)) (by decide))) (cwV 2 htg (oh_gV q_479 q_480 q_481 q_67 q_482) rfl rfl rfl pdVX0_ofRoad ⟨Nat.le_of_ble_eq_true rfl, Nat.le_of_ble_eq_true rfl⟩) hK hP hG hS (va_recv hK hP (ci := 0) (q0 := 1) rfl (oh_wg (by decide) (sX_1 hT))) rfl hl.1 rfl (Nat.le_of_ble_eq_true rfl) dX6_shut_32 ⟨Nat.le_of_ble_eq_true rfl, Nat.le_of_ble_eq_true rfl⟩ (fun r_13 hq_14 => ?_)
      subst hq_14
      refine lv_iload_n hx hb dX6_shut_35 rfl (lv_at hl 0 rfl) ?_
      refine lv_icmp_ne (tgt := 41) hx hb dX6_shut_36 (by decide) (fun (c_15 : ¬ ((ga (C 11) ((x1 * 7) + 6).toNatClampNeg) = 1)) => ?_) (fun (c_15 : (ga (C 11) ((x1 * 7) + 6).toNatClampNeg) = 1) => ?_)
      · refine lv_aload_n hx hb dX6_shut_41 rfl (lv_at hl 1 rfl) ?_
        refine va_get (D := D) (ci := 6) (v := .ref (a 1)) (C := RX6) (T := TX6) (N := 9) hx hb htg ig_6 hown hK hP 0 (oh_wg (by decide) (sX_0 hT)) rfl 0 (by decide) (htg _ q_258) (fun _ h9 => h9) rfl dX6_shut_42 ?_
        refine va_get (D := D) (ci := 0) (v := .ref (a 11)) (C := RX0) (T := TX0) (N := 8) hx hb htg ig_0 hown hK hP 1 (oh_wg (by decide) (sX_1 hT)) rfl 1 (by decide) (htg _ q_102) (fun _ h9 => h9) rfl dX6_shut_45 ?_
        refine lv_iload_n hx hb dX6_shut_48 rfl (lv_at hl 2 rfl) ?_
        refine lv_bipush (v := 7) hx hb dX6_shut_49 (by decide) ?_
        refine lv_imul hx hb dX6_shut_51 ?_
        refine lv_bipush (v := 6) hx hb dX6_shut_52 (by decide) ?_
        refine lv_iadd hx hb dX6_shut_54 ?_
        refine lv_iload_n hx hb dX6_shut_55 rfl (lv_at hl 0 rfl) ?_
        have n_16 : vp_in ((x1 * 7) + 6) 168 := (rg_in (rg_add (lo := 6) (hi := 167) (rg_mul (lo := 0) (hi := 161) u_4.1 (rg_c (v := 7) (lo := 7) (hi := 7) (by decide)) (by decide)) (rg_c (v := 6) (lo := 6) (hi := 6) (by decide)) (by decide)) (by decide))
        refine th_iast (T := TyX a E) (Rl := fr [(7, 8), (11, 12)] [] C) hx hb hK hP hD hS 11 (by decide) (sX_11 hT) n_16 (hT.up 11 (tA_upd (tX_11 hT) (tA_stc (oh_col (W := 7) u_4.1 rfl (rg_c (v := 6) (lo := 6) (hi := 6) (by decide)) (by decide)) (rg_c (v := 1) (lo := 1) (hi := 1) (by decide)) (by decide)))) (fr_st hF (by decide) (by decide)) dX6_shut_56 (fun C_17 H locs e_18 hT hF hP hD hS => ?_)
        have t_19 := hT
        refine lv_iconst (v := 1) hx hb dX6_shut_57 (by decide) ?_
        rw [hQ]
        exact W.iret (v := 1) hx hb hr (fun t ht hW => ⟨⟨1, C_17, rfl, ⟨hT, hF, (fun A hA => pr_b (pif_pos (show 0 ≤ x1 ∧ x1 < A 5 0 0 by rw [← (show ga (C 10) ((0 : Int32)).toNatClampNeg = A 5 0 0 from hA.1 0 (by decide))]; exact u_4.2)) (pif_neg (fun h8 => c_15 (Eq.trans (shX_v hA (rg_w (lo := 0) (hi := 23) u_4.1 (by decide)) (show 0 ≤ x1 ∧ x1 < A 5 0 0 by rw [← (show ga (C 10) ((0 : Int32)).toNatClampNeg = A 5 0 0 from hA.1 0 (by decide))]; exact u_4.2).2) (Eq.trans h8 (b01_1 c_5).symm)))).symm (shX hA (rg_w (lo := 0) (hi := 23) u_4.1 (by decide)) (b01_1 c_5) (st_ga e_18) (fun k k1 k2 k3 => th_un e_18 k3)))⟩, ⟨by rw [ht]; exact hP, hD⟩⟩, hS.F ht⟩) hS.2.2 dX6_shut_58
      · refine lv_iconst (v := 0) hx hb dX6_shut_39 (by decide) ?_
        rw [hQ]
        exact W.iret (v := 0) hx hb hr (fun t ht hW => ⟨⟨0, C, rfl, ⟨hT, hF, (fun A hA => pr_b (pif_pos (show 0 ≤ x1 ∧ x1 < A 5 0 0 by rw [← (show ga (C 10) ((0 : Int32)).toNatClampNeg = A 5 0 0 from hA.1 0 (by decide))]; exact u_4.2)) (pif_pos (show A 0 x1.toNatClampNeg 6 = b01 x2 from Eq.trans (shX_v hA (rg_w (lo := 0) (hi := 23) u_4.1 (by decide)) (show 0 ≤ x1 ∧ x1 < A 5 0 0 by rw [← (show ga (C 10) ((0 : Int32)).toNatClampNeg = A 5 0 0 from hA.1 0 (by decide))]; exact u_4.2).2).symm (Eq.trans c_15 (b01_1 c_5)))).symm (by rw [putA_same (show A 0 x1.toNatClampNeg 6 = b01 x2 from Eq.trans (shX_v hA (rg_w (lo := 0) (hi := 23) u_4.1 (by decide)) (show 0 ≤ x1 ∧ x1 < A 5 0 0 by rw [← (show ga (C 10) ((0 : Int32)).toNatClampNeg = A 5 0 0 from hA.1 0 (by decide))]; exact u_4.2).2).symm (Eq.trans c_15 (b01_1 c_5)))]; exact hA))⟩, ⟨by rw [ht]; exact hP, hD⟩⟩, hS.F ht⟩) hS.2.2 dX6_shut_40
  · have u_20 := hq_2.2.2 c_3
    refine lv_aload_n hx hb dX6_shut_8 rfl (lv_at hl 0 rfl) ?_
    refine lv_bipush (v := (-2)) hx hb dX6_shut_9 (by decide) ?_
    refine tm_V (As := [.int (-2)]) (rest := []) ⟨hx, hb, hml, hown, htg⟩ (c_X6_refuse l D E G _ a C hT ((-2) : Int32)) (cwV 1 htg (oh_gV q_296 q_298 q_0 q_66 q_299) rfl rfl rfl pdVX6_refuse ⟨Nat.le_of_ble_eq_true rfl, Nat.le_of_ble_eq_true rfl⟩) hK hP hD hG hS hA (va_recv hK hP (ci := 6) (q0 := 0) rfl (oh_wg (by decide) (sX_0 hT))) rfl hl.1 rfl (Nat.le_of_ble_eq_true rfl) dX6_shut_11 ⟨Nat.le_of_ble_eq_true rfl, Nat.le_of_ble_eq_true rfl⟩ (fun r_21 C_22 H locs hq_23 hP hD hS => ?_)
    obtain ⟨hT, f_24, hq_23⟩ := hq_23
    have hF := fr_tr hF f_24 (by decide) (by decide)
    refine W.widen (k := 0) (n := 0) (Nat.le_refl _) (Nat.le_refl _) ?_
    have t_25 := hT
    rw [hQ]
    exact W.iret (v := r_21) hx hb hr (fun t ht hW => ⟨⟨r_21, C_22, rfl, ⟨hT, hF, (fun A hA => pr_b (pif_neg (by rw [← (show ga (C 10) ((0 : Int32)).toNatClampNeg = A 5 0 0 from hA.1 0 (by decide))]; exact u_20)) hq_23 (absX_eq hA (fun k k1 k2 => (fun k k1 k2 => (fr_all f_24 10 15 (by decide) k k1 k2)) k k1 (by omega))))⟩, ⟨by rw [ht]; exact hP, hD⟩⟩, hS.F ht⟩) hS.2.2 dX6_shut_14

set_option maxHeartbeats 4000000 in
set_option maxRecDepth 100000 in
theorem e_X6_coinIfFallen (l : Launch) (D : va_G) (E : Nat → ClassId) (G : Nat → Nat) (sz : Nat) (a : Nat → Nat) (C : Nat → va_E) (hT : TyX a E C) (x1 : Int32) (x2 : Int32) (x3 : Int32) (x4 : Int32) (x5 : Int32) (hx1 : rg x1 0 15) (hx2 : rg x2 0 4) (hx4 : rg x4 0 15) (hx5 : rg x5 0 15) : Met l yX6_coinIfFallen (oh_w yX6_coinIfFallen cX6_coinIfFallen 8 (some .int)) ({ frames := 5, cells := 0, slots := 0, locals := 125 }) (oh_Pm D E G [.ref (a 0), .int x1, .int x2, .int x3, .int x4, .int x5] (oh_W 35 a C) sz) (va_Qi (fun r (u : Nat → va_E) => TyX a E u ∧ fr [(9, 10), (12, 13), (24, 28)] [] C u ∧ (ga (u 12) = ga (C 12))) (oh_B D (va_A (oh_W 35 a C) sz) (fun u => oh_W 35 a u)) (va_A (oh_W 35 a C) sz)) 0 0 (va_A (oh_W 35 a C) sz) := by
  refine Met.ofW (cc := cX6_coinIfFallen) (maxL := 8) (ret := (some .int)) (by decide) rfl ?_
  intro p e s m args below meth c s₁ B hml hv
  obtain ⟨rfl, hsz, hP, hK, hD0, hG⟩ := hv
  have hx := B.exec
  have hb := B.bytes
  have hr := B.returns
  have hts := atoms_spec (ws := (oh_w yX6_coinIfFallen cX6_coinIfFallen 8 (some .int))) B.pre
  have htg : ∀ w ∈ oh_t, w.before _ s = true := fun w h => hts w (List.mem_cons_of_mem _ h)
  have hown : s.vm.findClass RX6 = some m.cls := findClass_of_methodNamed B.named
  have hlocks := B.notSynchronized
  have hT0 := hT
  subst hsz
  have hD := hD0.self (sz := s.heap.size)
  generalize hAe : va_A (oh_W 35 a C) s.heap.size = A at hD hG ⊢
  have hA : ∀ q : Nat, s.heap.size ≤ q → A q := fun q h => by rw [← hAe]; exact Or.inr h
  have hS : va_S A s.heap s.heap [] := va_S.rf
  have hF : fr [(9, 10), (12, 13), (24, 28)] [] C C := fr_rf
  have hl := lv_entry ([.ref (a 0), .int x1, .int x2, .int x3, .int x4, .int x5]) (n := 8) (Nat.le_of_ble_eq_true rfl)
  rw [lg_entry_eq]
  generalize (lg_sl ([.ref (a 0), .int x1, .int x2, .int x3, .int x4, .int x5]) ++ List.replicate (8 - (lg_sl ([.ref (a 0), .int x1, .int x2, .int x3, .int x4, .int x5])).length) Slot.unset).toArray = ls at hl ⊢
  have hl : lv_has ls 8 [(0, .ref (a 0)), (1, .int x1), (2, .int x2), (3, .int x3), (4, .int x4), (5, .int x5)] := hl
  refine oh_genQ (fun Q hQ => ?_)
  refine lv_aload_n hx hb dX6_coinIfFallen_0 rfl (lv_at hl 0 rfl) ?_
  refine va_get (D := D) (ci := 6) (v := .ref (a 1)) (C := RX6) (T := TX6) (N := 9) hx hb htg ig_6 hown hK hP 0 (oh_wg (by decide) (sX_0 hT)) rfl 0 (by decide) (htg _ q_258) (fun _ h9 => h9) rfl dX6_coinIfFallen_1 ?_
  refine lv_iload_n hx hb dX6_coinIfFallen_4 rfl (lv_at hl 1 rfl) ?_
  refine lv_bipush (v := 8) hx hb dX6_coinIfFallen_5 (by decide) ?_
  refine tq_V (As := [.int x1, .int 8]) (rest := []) (ws := (oh_W 35 a C)) ⟨hx, hb, hml, hown, htg⟩ (c_X0_ofBridge l D E G a C hT x1 (8 : Int32) (rg_w hx1 (by decide)) (rg_w (rg_c (v := 8) (lo := 8) (hi := 8) (by decide)) (by decide))) (cwV 2 htg (oh_gV q_392 q_385 q_386 q_67 q_387) rfl rfl rfl pdVX0_ofBridge ⟨Nat.le_of_ble_eq_true rfl, Nat.le_of_ble_eq_true rfl⟩) hK hP hG hS (va_recv hK hP (ci := 0) (q0 := 1) rfl (oh_wg (by decide) (sX_1 hT))) rfl hl.1 rfl (Nat.le_of_ble_eq_true rfl) dX6_coinIfFallen_7 ⟨Nat.le_of_ble_eq_true rfl, Nat.le_of_ble_eq_true rfl⟩ (fun r_1 hq_2 => ?_)
  subst hq_2
  refine lv_istore (lv' := [(6, .int (ga (C 12) ((x1 * 10) + 8).toNatClampNeg)), (0, .ref (a 0)), (1, .int x1), (2, .int x2), (3, .int x3), (4, .int x4), (5, .int x5)]) hx hb dX6_coinIfFallen_10 hl (by decide) rfl (fun ls hl => ?_)
  refine lv_aload_n hx hb dX6_coinIfFallen_12 rfl (lv_at hl 1 rfl) ?_
  refine va_get (D := D) (ci := 6) (v := .ref (a 1)) (C := RX6) (T := TX6) (N := 9) hx hb htg ig_6 hown hK hP 0 (oh_wg (by decide) (sX_0 hT)) rfl 0 (by decide) (htg _ q_258) (fun _ h9 => h9) rfl dX6_coinIfFallen_13 ?_
  refine lv_iload_n hx hb dX6_coinIfFallen_16 rfl (lv_at hl 2 rfl) ?_
  refine lv_bipush (v := 8) hx hb dX6_coinIfFallen_17 (by decide) ?_
  refine lv_iconst (v := 1) hx hb dX6_coinIfFallen_19 (by decide) ?_
  refine tm_Vv (As := [.int x1, .int 8, .int 1]) (rest := []) ⟨hx, hb, hml, hown, htg⟩ (f_X0_putBridgeColumn l D E G _ a C hT x1 (8 : Int32) (1 : Int32) (rg_w hx1 (by decide)) (rg_w (rg_c (v := 8) (lo := 8) (hi := 8) (by decide)) (by decide))) (cwV 3 htg (oh_gV q_474 q_445 q_446 q_67 q_447) rfl rfl rfl pdVX0_putBridgeColumn ⟨Nat.le_of_ble_eq_true rfl, Nat.le_of_ble_eq_true rfl⟩) hK hP hD hG hS hA (va_recv hK hP (ci := 0) (q0 := 1) rfl (oh_wg (by decide) (sX_1 hT))) rfl hl.1 rfl (Nat.le_of_ble_eq_true rfl) dX6_coinIfFallen_20 ⟨Nat.le_of_ble_eq_true rfl, Nat.le_of_ble_eq_true rfl⟩ (fun C_4 H locs hq_5 hP hD hS => ?_)
  obtain ⟨hT, f_6, hq_5⟩ := hq_5
  have hF := fr_tr hF f_6 (by decide) (by decide)
  refine W.widen (k := 0) (n := 0) (Nat.le_refl _) (Nat.le_refl _) ?_
  have t_7 := hT
  refine lv_aload_n hx hb dX6_coinIfFallen_23 rfl (lv_at hl 1 rfl) ?_
  refine va_get (D := D) (ci := 6) (v := .ref (a 3)) (C := RX6) (T := TX6) (N := 9) hx hb htg ig_6 hown hK hP 0 (oh_wg (by decide) (sX_0 hT)) rfl 3 (by decide) (htg _ q_261) (fun _ h9 => h9) rfl dX6_coinIfFallen_24 ?_
  refine lv_iload_n hx hb dX6_coinIfFallen_27 rfl (lv_at hl 3 rfl) ?_
  refine lv_iload_n hx hb dX6_coinIfFallen_28 rfl (lv_at hl 4 rfl) ?_
  refine lv_iload hx hb dX6_coinIfFallen_29 (lv_at hl 5 rfl) ?_
  refine lv_iload hx hb dX6_coinIfFallen_31 (lv_at hl 6 rfl) ?_
  refine lv_iconst (v := 1) hx hb dX6_coinIfFallen_33 (by decide) ?_
  refine tm_V (As := [.int x2, .int x3, .int x4, .int x5, .int 1]) (rest := []) ⟨hx, hb, hml, hown, htg⟩ (c_X5_leastCoin l D E G _ a C_4 hT x2 x3 x4 x5 (1 : Int32) (rg_w hx2 (by decide)) (rg_w hx4 (by decide)) (rg_w hx5 (by decide))) (cwV 5 htg (oh_gV q_780 q_781 q_782 q_68 q_783) rfl rfl rfl pdVX5_leastCoin ⟨Nat.le_of_ble_eq_true rfl, Nat.le_of_ble_eq_true rfl⟩) hK hP hD hG hS hA (va_recv hK hP (ci := 5) (q0 := 3) rfl (oh_wg (by decide) (sX_3 hT))) rfl hl.1 rfl (Nat.le_of_ble_eq_true rfl) dX6_coinIfFallen_34 ⟨Nat.le_of_ble_eq_true rfl, Nat.le_of_ble_eq_true rfl⟩ (fun r_8 C_9 H locs hq_10 hP hD hS => ?_)
  obtain ⟨hT, f_11, hq_10⟩ := hq_10
  have hF := fr_tr hF f_11 (by decide) (by decide)
  refine W.widen (k := 0) (n := 0) (Nat.le_refl _) (Nat.le_refl _) ?_
  have t_12 := hT
  refine lv_istore (lv' := [(7, .int r_8), (6, .int (ga (C 12) ((x1 * 10) + 8).toNatClampNeg)), (0, .ref (a 0)), (1, .int x1), (2, .int x2), (3, .int x3), (4, .int x4), (5, .int x5)]) hx hb dX6_coinIfFallen_37 hl (by decide) rfl (fun ls hl => ?_)
  refine lv_aload_n hx hb dX6_coinIfFallen_39 rfl (lv_at hl 2 rfl) ?_
  refine va_get (D := D) (ci := 6) (v := .ref (a 1)) (C := RX6) (T := TX6) (N := 9) hx hb htg ig_6 hown hK hP 0 (oh_wg (by decide) (sX_0 hT)) rfl 0 (by decide) (htg _ q_258) (fun _ h9 => h9) rfl dX6_coinIfFallen_40 ?_
  refine lv_iload_n hx hb dX6_coinIfFallen_43 rfl (lv_at hl 3 rfl) ?_
  refine lv_bipush (v := 8) hx hb dX6_coinIfFallen_44 (by decide) ?_
  refine lv_iload hx hb dX6_coinIfFallen_46 (lv_at hl 1 rfl) ?_
  refine tm_Vv (As := [.int x1, .int 8, .int (ga (C 12) ((x1 * 10) + 8).toNatClampNeg)]) (rest := []) ⟨hx, hb, hml, hown, htg⟩ (f_X0_putBridgeColumn l D E G _ a C_9 hT x1 (8 : Int32) (ga (C 12) ((x1 * 10) + 8).toNatClampNeg) (rg_w hx1 (by decide)) (rg_w (rg_c (v := 8) (lo := 8) (hi := 8) (by decide)) (by decide))) (cwV 3 htg (oh_gV q_474 q_445 q_446 q_67 q_447) rfl rfl rfl pdVX0_putBridgeColumn ⟨Nat.le_of_ble_eq_true rfl, Nat.le_of_ble_eq_true rfl⟩) hK hP hD hG hS hA (va_recv hK hP (ci := 0) (q0 := 1) rfl (oh_wg (by decide) (sX_1 hT))) rfl hl.1 rfl (Nat.le_of_ble_eq_true rfl) dX6_coinIfFallen_48 ⟨Nat.le_of_ble_eq_true rfl, Nat.le_of_ble_eq_true rfl⟩ (fun C_14 H locs hq_15 hP hD hS => ?_)
  obtain ⟨hT, f_16, hq_15⟩ := hq_15
  have hF := fr_tr hF f_16 (by decide) (by decide)
  refine W.widen (k := 0) (n := 0) (Nat.le_refl _) (Nat.le_refl _) ?_
  have t_17 := hT
  refine lv_iload hx hb dX6_coinIfFallen_51 (lv_at hl 0 rfl) ?_
  rw [hQ]
  exact W.iret (v := r_8) hx hb hr (fun t ht hW => ⟨⟨r_8, C_14, rfl, ⟨hT, hF, (by rw [hq_15.1, show C_9 12 = C_4 12 from f_11.1 12 rfl (by decide), hq_5.1]; exact upd_back)⟩, ⟨by rw [ht]; exact hP, hD⟩⟩, hS.F ht⟩) hS.2.2 dX6_coinIfFallen_53

set_option maxHeartbeats 4000000 in
set_option maxRecDepth 100000 in
theorem e_X6_hang (l : Launch) (D : va_G) (E : Nat → ClassId) (G : Nat → Nat) (sz : Nat) (a : Nat → Nat) (C : Nat → va_E) (hT : TyX a E C) (x1 : Int32) (x2 : Int32) (x3 : Int32) (x4 : Int32) : Met l yX6_hang (oh_w yX6_hang cX6_hang 9 (some .int)) ({ frames := 6, cells := 0, slots := 0, locals := 152 }) (oh_Pm D E G [.ref (a 0), .int x1, .int x2, .int x3, .int x4] (oh_W 35 a C) sz) (va_Qi (fun r (u : Nat → va_E) => TyX a E u ∧ fr [(7, 8), (9, 10), (12, 13), (24, 28)] [] C u ∧ (ga (u 12) = ga (C 12))) (oh_B D (va_A (oh_W 35 a C) sz) (fun u => oh_W 35 a u)) (va_A (oh_W 35 a C) sz)) 0 0 (va_A (oh_W 35 a C) sz) := by
  refine Met.ofW (cc := cX6_hang) (maxL := 9) (ret := (some .int)) (by decide) rfl ?_
  intro p e s m args below meth c s₁ B hml hv
  obtain ⟨rfl, hsz, hP, hK, hD0, hG⟩ := hv
  have hx := B.exec
  have hb := B.bytes
  have hr := B.returns
  have hts := atoms_spec (ws := (oh_w yX6_hang cX6_hang 9 (some .int))) B.pre
  have htg : ∀ w ∈ oh_t, w.before _ s = true := fun w h => hts w (List.mem_cons_of_mem _ h)
  have hown : s.vm.findClass RX6 = some m.cls := findClass_of_methodNamed B.named
  have hlocks := B.notSynchronized
  have hT0 := hT
  subst hsz
  have hD := hD0.self (sz := s.heap.size)
  generalize hAe : va_A (oh_W 35 a C) s.heap.size = A at hD hG ⊢
  have hA : ∀ q : Nat, s.heap.size ≤ q → A q := fun q h => by rw [← hAe]; exact Or.inr h
  have hS : va_S A s.heap s.heap [] := va_S.rf
  have hF : fr [(7, 8), (9, 10), (12, 13), (24, 28)] [] C C := fr_rf
  have hl := lv_entry ([.ref (a 0), .int x1, .int x2, .int x3, .int x4]) (n := 9) (Nat.le_of_ble_eq_true rfl)
  rw [lg_entry_eq]
  generalize (lg_sl ([.ref (a 0), .int x1, .int x2, .int x3, .int x4]) ++ List.replicate (9 - (lg_sl ([.ref (a 0), .int x1, .int x2, .int x3, .int x4])).length) Slot.unset).toArray = ls at hl ⊢
  have hl : lv_has ls 9 [(0, .ref (a 0)), (1, .int x1), (2, .int x2), (3, .int x3), (4, .int x4)] := hl
  refine oh_genQ (fun Q hQ => ?_)
  refine lv_aload_n hx hb dX6_hang_0 rfl (lv_at hl 0 rfl) ?_
  refine lv_iload_n hx hb dX6_hang_1 rfl (lv_at hl 1 rfl) ?_
  refine lv_iload_n hx hb dX6_hang_2 rfl (lv_at hl 2 rfl) ?_
  refine lv_iload_n hx hb dX6_hang_3 rfl (lv_at hl 3 rfl) ?_
  refine lv_iload hx hb dX6_hang_4 (lv_at hl 4 rfl) ?_
  refine tq_V (As := [.int x1, .int x2, .int x3, .int x4]) (rest := []) (ws := (oh_W 35 a C)) ⟨hx, hb, hml, hown, htg⟩ (c_X6_isJourney l D E G a C hT x1 x2 x3 x4) (cwV 4 htg (oh_gV q_776 q_778 q_17 q_66 q_779) rfl rfl rfl pdVX6_isJourney ⟨Nat.le_of_ble_eq_true rfl, Nat.le_of_ble_eq_true rfl⟩) hK hP hG hS (va_recv hK hP (ci := 6) (q0 := 0) rfl (oh_wg (by decide) (sX_0 hT))) rfl hl.1 rfl (Nat.le_of_ble_eq_true rfl) dX6_hang_6 ⟨Nat.le_of_ble_eq_true rfl, Nat.le_of_ble_eq_true rfl⟩ (fun r_1 hq_2 => ?_)
  refine lv_if_ne (tgt := 19) hx hb dX6_hang_9 (by decide) (fun (c_3 : ¬ (r_1 = 0)) => ?_) (fun (c_3 : r_1 = 0) => ?_)
  · have u_4 := hq_2.2 c_3
    refine lv_aload_n hx hb dX6_hang_19 rfl (lv_at hl 0 rfl) ?_
    refine va_get (D := D) (ci := 6) (v := .ref (a 1)) (C := RX6) (T := TX6) (N := 9) hx hb htg ig_6 hown hK hP 0 (oh_wg (by decide) (sX_0 hT)) rfl 0 (by decide) (htg _ q_258) (fun _ h9 => h9) rfl dX6_hang_20 ?_
    refine va_get (D := D) (ci := 0) (v := .ref (a 10)) (C := RX0) (T := TX0) (N := 8) hx hb htg ig_0 hown hK hP 1 (oh_wg (by decide) (sX_1 hT)) rfl 0 (by decide) (htg _ q_100) (fun _ h9 => h9) rfl dX6_hang_23 ?_
    refine lv_iconst (v := 1) hx hb dX6_hang_26 (by decide) ?_
    refine th_iald hx hb hK hP 10 (by decide) (sX_10 hT) (rg_in (rg_c (v := 1) (lo := 1) (hi := 1) (by decide)) (by decide)) dX6_hang_27 ?_
    refine lv_if_eq (tgt := 49) hx hb dX6_hang_28 (by decide) (fun (c_5 : (ga (C 10) ((1 : Int32)).toNatClampNeg) = 0) => ?_) (fun (c_5 : ¬ ((ga (C 10) ((1 : Int32)).toNatClampNeg) = 0)) => ?_)
    · refine lv_aload_n hx hb dX6_hang_49 rfl (lv_at hl 0 rfl) ?_
      refine lv_bipush (v := (-5)) hx hb dX6_hang_50 (by decide) ?_
      refine tm_V (As := [.int (-5)]) (rest := []) ⟨hx, hb, hml, hown, htg⟩ (c_X6_refuse l D E G _ a C hT ((-5) : Int32)) (cwV 1 htg (oh_gV q_296 q_298 q_0 q_66 q_299) rfl rfl rfl pdVX6_refuse ⟨Nat.le_of_ble_eq_true rfl, Nat.le_of_ble_eq_true rfl⟩) hK hP hD hG hS hA (va_recv hK hP (ci := 6) (q0 := 0) rfl (oh_wg (by decide) (sX_0 hT))) rfl hl.1 rfl (Nat.le_of_ble_eq_true rfl) dX6_hang_52 ⟨Nat.le_of_ble_eq_true rfl, Nat.le_of_ble_eq_true rfl⟩ (fun r_6 C_7 H locs hq_8 hP hD hS => ?_)
      obtain ⟨hT, f_9, hq_8⟩ := hq_8
      have hF := fr_tr hF f_9 (by decide) (by decide)
      refine W.widen (k := 0) (n := 0) (Nat.le_refl _) (Nat.le_refl _) ?_
      have t_10 := hT
      rw [hQ]
      exact W.iret (v := r_6) hx hb hr (fun t ht hW => ⟨⟨r_6, C_7, rfl, ⟨hT, hF, (congrArg ga (f_9.1 12 rfl (by decide)))⟩, ⟨by rw [ht]; exact hP, hD⟩⟩, hS.F ht⟩) hS.2.2 dX6_hang_55
    · refine lv_aload_n hx hb dX6_hang_31 rfl (lv_at hl 0 rfl) ?_
      refine va_get (D := D) (ci := 6) (v := .ref (a 3)) (C := RX6) (T := TX6) (N := 9) hx hb htg ig_6 hown hK hP 0 (oh_wg (by decide) (sX_0 hT)) rfl 3 (by decide) (htg _ q_261) (fun _ h9 => h9) rfl dX6_hang_32 ?_
      refine lv_iload_n hx hb dX6_hang_35 rfl (lv_at hl 1 rfl) ?_
      refine lv_iload_n hx hb dX6_hang_36 rfl (lv_at hl 2 rfl) ?_
      refine lv_iload_n hx hb dX6_hang_37 rfl (lv_at hl 3 rfl) ?_
      refine lv_iload hx hb dX6_hang_38 (lv_at hl 4 rfl) ?_
      refine lv_iconst (v := 1) hx hb dX6_hang_40 (by decide) ?_
      refine tm_V (As := [.int x1, .int x2, .int x3, .int x4, .int 1]) (rest := []) ⟨hx, hb, hml, hown, htg⟩ (c_X5_leastCoin l D E G _ a C hT x1 x2 x3 x4 (1 : Int32) (rg_w u_4.1 (by decide)) (rg_w u_4.2.1 (by decide)) (rg_w u_4.2.2 (by decide))) (cwV 5 htg (oh_gV q_780 q_781 q_782 q_68 q_783) rfl rfl rfl pdVX5_leastCoin ⟨Nat.le_of_ble_eq_true rfl, Nat.le_of_ble_eq_true rfl⟩) hK hP hD hG hS hA (va_recv hK hP (ci := 5) (q0 := 3) rfl (oh_wg (by decide) (sX_3 hT))) rfl hl.1 rfl (Nat.le_of_ble_eq_true rfl) dX6_hang_41 ⟨Nat.le_of_ble_eq_true rfl, Nat.le_of_ble_eq_true rfl⟩ (fun r_11 C_12 H locs hq_13 hP hD hS => ?_)
      obtain ⟨hT, f_14, hq_13⟩ := hq_13
      have hF := fr_tr hF f_14 (by decide) (by decide)
      refine W.widen (k := 0) (n := 0) (Nat.le_refl _) (Nat.le_refl _) ?_
      have t_15 := hT
      refine lv_ldc (v := 1000000000) hx hb hown (htg _ q_803) dX6_hang_44 ?_
      refine lv_icmp_ne (tgt := 56) hx hb dX6_hang_46 (by decide) (fun (c_16 : ¬ (r_11 = 1000000000)) => ?_) (fun (c_16 : r_11 = 1000000000) => ?_)
      · refine lv_iconst (v := (-1)) hx hb dX6_hang_56 (by decide) ?_
        refine lv_istore (lv' := [(5, .int (-1)), (0, .ref (a 0)), (1, .int x1), (2, .int x2), (3, .int x3), (4, .int x4)]) hx hb dX6_hang_57 hl (by decide) rfl (fun ls hl => ?_)
        refine lv_iconst (v := (-1)) hx hb dX6_hang_59 (by decide) ?_
        refine lv_istore (lv' := [(6, .int (-1)), (5, .int (-1)), (0, .ref (a 0)), (1, .int x1), (2, .int x2), (3, .int x3), (4, .int x4)]) hx hb dX6_hang_60 hl (by decide) rfl (fun ls hl => ?_)
        refine lv_iconst (v := 0) hx hb dX6_hang_62 (by decide) ?_
        refine lv_istore (lv' := [(7, .int 0), (6, .int (-1)), (5, .int (-1)), (0, .ref (a 0)), (1, .int x1), (2, .int x2), (3, .int x3), (4, .int x4)]) hx hb dX6_hang_63 hl (by decide) rfl (fun ls hl => ?_)
        have L_65 : ∀ (d : Nat) (K65 : Nat → va_E) (z65_7 : Int32) (z65_6 : Int32) (z65_5 : Int32) (H : Heap) (locs : List Loc) (ls : Array Slot), (16 - z65_7.toInt).toNat = d → rg z65_7 0 16 → (ga (K65 12) = ga (C 12)) → TyX a E K65 → fr [(7, 8), (9, 10), (12, 13), (24, 28)] [] C K65 → fr [(9, 10), (12, 13), (24, 28)] [] C_12 K65 → va_P D vwCl (oh_W 35 a K65) H → va_D A (oh_W 35 a K65) → va_S A s.heap H locs → lv_has ls 9 [(7, .int z65_7), (6, .int z65_6), (5, .int z65_5), (0, .ref (a 0)), (1, .int x1), (2, .int x2), (3, .int x3), (4, .int x4)] → W p l e ({ frames := 6, cells := 0, slots := 0, locals := 152 }) s m (([.ref (a 0), .int x1, .int x2, .int x3, .int x4] : List Value).toArray) below meth c H locs 0 0 Q (F0 m 65 ls []) := by
          intro d
          induction d using Nat.strongRecOn with
          | ind d ih_65 =>
          intro K65 z65_7 z65_6 z65_5 H locs ls hd_65 hz65_7 hx_65 hT hF hLF_65 hP hD hS hl
          have t_17 := hT
          refine lv_iload hx hb dX6_hang_65 (lv_at hl 0 rfl) ?_
          refine lv_aload_n hx hb dX6_hang_67 rfl (lv_at hl 3 rfl) ?_
          refine va_get (D := D) (ci := 6) (v := .ref (a 1)) (C := RX6) (T := TX6) (N := 9) hx hb htg ig_6 hown hK hP 0 (oh_wg (by decide) (sX_0 hT)) rfl 0 (by decide) (htg _ q_258) (fun _ h9 => h9) rfl dX6_hang_68 ?_
          refine va_get (D := D) (ci := 0) (v := .ref (a 10)) (C := RX0) (T := TX0) (N := 8) hx hb htg ig_0 hown hK hP 1 (oh_wg (by decide) (sX_1 hT)) rfl 0 (by decide) (htg _ q_100) (fun _ h9 => h9) rfl dX6_hang_71 ?_
          refine lv_iconst (v := 1) hx hb dX6_hang_74 (by decide) ?_
          refine th_iald hx hb hK hP 10 (by decide) (Eq.trans (Eq.trans (hLF_65.1 10 rfl (by decide)) (f_14.1 10 rfl (by decide))) (sX_10 hT0)) (rg_in (rg_c (v := 1) (lo := 1) (hi := 1) (by decide)) (by decide)) dX6_hang_75 ?_
          refine lv_icmp_ge (tgt := 113) hx hb dX6_hang_76 (by decide) (fun (c_18 : (ga (C 10) ((1 : Int32)).toNatClampNeg) ≤ z65_7) => ?_) (fun (c_18 : ¬ ((ga (C 10) ((1 : Int32)).toNatClampNeg) ≤ z65_7)) => ?_)
          · refine lv_iload hx hb dX6_hang_113 (lv_at hl 2 rfl) ?_
            rw [hQ]
            exact W.iret (v := z65_5) hx hb hr (fun t ht hW => ⟨⟨z65_5, K65, rfl, ⟨hT, hF, hx_65⟩, ⟨by rw [ht]; exact hP, hD⟩⟩, hS.F ht⟩) hS.2.2 dX6_hang_115
          · refine lv_aload_n hx hb dX6_hang_79 rfl (lv_at hl 3 rfl) ?_
            refine lv_iload hx hb dX6_hang_80 (lv_at hl 0 rfl) ?_
            refine lv_iload_n hx hb dX6_hang_82 rfl (lv_at hl 4 rfl) ?_
            refine lv_iload_n hx hb dX6_hang_83 rfl (lv_at hl 5 rfl) ?_
            refine lv_iload_n hx hb dX6_hang_84 rfl (lv_at hl 6 rfl) ?_
            refine lv_iload hx hb dX6_hang_85 (lv_at hl 7 rfl) ?_
            refine tm_V (As := [.int z65_7, .int x1, .int x2, .int x3, .int x4]) (rest := []) ⟨hx, hb, hml, hown, htg⟩ (e_X6_coinIfFallen l D E G _ a K65 hT z65_7 x1 x2 x3 x4 (rg_w (rn_ltu (u' := 15) (Int32.not_le.mp c_18) hz65_7 (rn_nel (l' := 1) c_5 (tA_rdc (lo := 0) (hi := 16) (tX_10 hT0) (rg_in (rg_c (v := 1) (lo := 1) (hi := 1) (by decide)) (by decide)) (show _ = 1 by decide) (by decide)) (rg_c (v := 0) (lo := 0) (hi := 0) (by decide)) (by decide)) (by decide)) (by decide)) (rg_w u_4.1 (by decide)) (rg_w u_4.2.1 (by decide)) (rg_w u_4.2.2 (by decide))) (cwV 5 htg (oh_gV q_872 q_874 q_26 q_66 q_875) rfl rfl rfl pdVX6_coinIfFallen ⟨Nat.le_of_ble_eq_true rfl, Nat.le_of_ble_eq_true rfl⟩) hK hP hD hG hS hA (va_recv hK hP (ci := 6) (q0 := 0) rfl (oh_wg (by decide) (sX_0 hT))) rfl hl.1 rfl (Nat.le_of_ble_eq_true rfl) dX6_hang_87 ⟨Nat.le_of_ble_eq_true rfl, Nat.le_of_ble_eq_true rfl⟩ (fun r_19 C_20 H locs hq_21 hP hD hS => ?_)
            obtain ⟨hT, f_22, hq_21⟩ := hq_21
            have hF := fr_tr hF f_22 (by decide) (by decide)
            refine W.widen (k := 0) (n := 0) (Nat.le_refl _) (Nat.le_refl _) ?_
            have t_23 := hT
            refine lv_istore (lv' := [(8, .int r_19), (7, .int z65_7), (6, .int z65_6), (5, .int z65_5), (0, .ref (a 0)), (1, .int x1), (2, .int x2), (3, .int x3), (4, .int x4)]) hx hb dX6_hang_90 hl (by decide) rfl (fun ls hl => ?_)
            refine lv_iload hx hb dX6_hang_92 (lv_at hl 0 rfl) ?_
            refine lv_iload hx hb dX6_hang_94 (lv_at hl 2 rfl) ?_
            refine lv_icmp_le (tgt := 107) hx hb dX6_hang_96 (by decide) (fun (c_24 : r_19 ≤ z65_6) => ?_) (fun (c_24 : ¬ (r_19 ≤ z65_6)) => ?_)
            · refine lv_iinc (v := z65_7 + 1) (lv' := [(7, .int (z65_7 + 1)), (8, .int r_19), (6, .int z65_6), (5, .int z65_5), (0, .ref (a 0)), (1, .int x1), (2, .int x2), (3, .int x3), (4, .int x4)]) hx hb dX6_hang_107 hl (k := 1) rfl (by rfl) (by decide) rfl (fun ls hl => ?_)
              refine lv_goto (tgt := 65) hx hb dX6_hang_110 (by decide) ?_
              exact ih_65 _ (hd_65 ▸ mu_up 16 (rn_ltu (u' := 15) (Int32.not_le.mp c_18) hz65_7 (rn_nel (l' := 1) c_5 (tA_rdc (lo := 0) (hi := 16) (tX_10 hT0) (rg_in (rg_c (v := 1) (lo := 1) (hi := 1) (by decide)) (by decide)) (show _ = 1 by decide) (by decide)) (rg_c (v := 0) (lo := 0) (hi := 0) (by decide)) (by decide)) (by decide)) (by decide)) C_20 (z65_7 + 1) z65_6 z65_5 _ _ ls rfl (rg_w (rg_add (lo := 1) (hi := 16) (rn_ltu (u' := 15) (Int32.not_le.mp c_18) hz65_7 (rn_nel (l' := 1) c_5 (tA_rdc (lo := 0) (hi := 16) (tX_10 hT0) (rg_in (rg_c (v := 1) (lo := 1) (hi := 1) (by decide)) (by decide)) (show _ = 1 by decide) (by decide)) (rg_c (v := 0) (lo := 0) (hi := 0) (by decide)) (by decide)) (by decide)) (rg_c (v := 1) (lo := 1) (hi := 1) (by decide)) (by decide)) (by decide)) (Eq.trans hq_21 hx_65) hT hF (fr_tr hLF_65 f_22 (by decide) (by decide)) hP hD hS (lv_sub hl [0, 2, 3, 4, 5, 6, 7, 8] rfl)
            · refine lv_iload hx hb dX6_hang_99 (lv_at hl 0 rfl) ?_
              refine lv_istore (lv' := [(6, .int r_19), (8, .int r_19), (7, .int z65_7), (5, .int z65_5), (0, .ref (a 0)), (1, .int x1), (2, .int x2), (3, .int x3), (4, .int x4)]) hx hb dX6_hang_101 hl (by decide) rfl (fun ls hl => ?_)
              refine lv_iload hx hb dX6_hang_103 (lv_at hl 2 rfl) ?_
              refine lv_istore (lv' := [(5, .int z65_7), (6, .int r_19), (8, .int r_19), (7, .int z65_7), (0, .ref (a 0)), (1, .int x1), (2, .int x2), (3, .int x3), (4, .int x4)]) hx hb dX6_hang_105 hl (by decide) rfl (fun ls hl => ?_)
              refine lv_iinc (v := z65_7 + 1) (lv' := [(7, .int (z65_7 + 1)), (5, .int z65_7), (6, .int r_19), (8, .int r_19), (0, .ref (a 0)), (1, .int x1), (2, .int x2), (3, .int x3), (4, .int x4)]) hx hb dX6_hang_107 hl (k := 3) rfl (by rfl) (by decide) rfl (fun ls hl => ?_)
              refine lv_goto (tgt := 65) hx hb dX6_hang_110 (by decide) ?_
              exact ih_65 _ (hd_65 ▸ mu_up 16 (rn_ltu (u' := 15) (Int32.not_le.mp c_18) hz65_7 (rn_nel (l' := 1) c_5 (tA_rdc (lo := 0) (hi := 16) (tX_10 hT0) (rg_in (rg_c (v := 1) (lo := 1) (hi := 1) (by decide)) (by decide)) (show _ = 1 by decide) (by decide)) (rg_c (v := 0) (lo := 0) (hi := 0) (by decide)) (by decide)) (by decide)) (by decide)) C_20 (z65_7 + 1) r_19 z65_7 _ _ ls rfl (rg_w (rg_add (lo := 1) (hi := 16) (rn_ltu (u' := 15) (Int32.not_le.mp c_18) hz65_7 (rn_nel (l' := 1) c_5 (tA_rdc (lo := 0) (hi := 16) (tX_10 hT0) (rg_in (rg_c (v := 1) (lo := 1) (hi := 1) (by decide)) (by decide)) (show _ = 1 by decide) (by decide)) (rg_c (v := 0) (lo := 0) (hi := 0) (by decide)) (by decide)) (by decide)) (rg_c (v := 1) (lo := 1) (hi := 1) (by decide)) (by decide)) (by decide)) (Eq.trans hq_21 hx_65) hT hF (fr_tr hLF_65 f_22 (by decide) (by decide)) hP hD hS (lv_sub hl [0, 2, 1, 4, 5, 6, 7, 8] rfl)
        exact L_65 _ C_12 0 (-1) (-1) _ _ ls rfl (rg_w (rg_c (v := 0) (lo := 0) (hi := 0) (by decide)) (by decide)) (congrArg ga (f_14.1 12 rfl (by decide))) hT hF fr_rf hP hD hS (lv_sub hl [0, 1, 2, 3, 4, 5, 6, 7] rfl)
      · refine lv_aload_n hx hb dX6_hang_49 rfl (lv_at hl 0 rfl) ?_
        refine lv_bipush (v := (-5)) hx hb dX6_hang_50 (by decide) ?_
        refine tm_V (As := [.int (-5)]) (rest := []) ⟨hx, hb, hml, hown, htg⟩ (c_X6_refuse l D E G _ a C_12 hT ((-5) : Int32)) (cwV 1 htg (oh_gV q_296 q_298 q_0 q_66 q_299) rfl rfl rfl pdVX6_refuse ⟨Nat.le_of_ble_eq_true rfl, Nat.le_of_ble_eq_true rfl⟩) hK hP hD hG hS hA (va_recv hK hP (ci := 6) (q0 := 0) rfl (oh_wg (by decide) (sX_0 hT))) rfl hl.1 rfl (Nat.le_of_ble_eq_true rfl) dX6_hang_52 ⟨Nat.le_of_ble_eq_true rfl, Nat.le_of_ble_eq_true rfl⟩ (fun r_25 C_26 H locs hq_27 hP hD hS => ?_)
        obtain ⟨hT, f_28, hq_27⟩ := hq_27
        have hF := fr_tr hF f_28 (by decide) (by decide)
        refine W.widen (k := 0) (n := 0) (Nat.le_refl _) (Nat.le_refl _) ?_
        have t_29 := hT
        rw [hQ]
        exact W.iret (v := r_25) hx hb hr (fun t ht hW => ⟨⟨r_25, C_26, rfl, ⟨hT, hF, (Eq.trans (congrArg ga (f_28.1 12 rfl (by decide))) (congrArg ga (f_14.1 12 rfl (by decide))))⟩, ⟨by rw [ht]; exact hP, hD⟩⟩, hS.F ht⟩) hS.2.2 dX6_hang_55
  · refine lv_aload_n hx hb dX6_hang_12 rfl (lv_at hl 0 rfl) ?_
    refine lv_bipush (v := (-2)) hx hb dX6_hang_13 (by decide) ?_
    refine tm_V (As := [.int (-2)]) (rest := []) ⟨hx, hb, hml, hown, htg⟩ (c_X6_refuse l D E G _ a C hT ((-2) : Int32)) (cwV 1 htg (oh_gV q_296 q_298 q_0 q_66 q_299) rfl rfl rfl pdVX6_refuse ⟨Nat.le_of_ble_eq_true rfl, Nat.le_of_ble_eq_true rfl⟩) hK hP hD hG hS hA (va_recv hK hP (ci := 6) (q0 := 0) rfl (oh_wg (by decide) (sX_0 hT))) rfl hl.1 rfl (Nat.le_of_ble_eq_true rfl) dX6_hang_15 ⟨Nat.le_of_ble_eq_true rfl, Nat.le_of_ble_eq_true rfl⟩ (fun r_30 C_31 H locs hq_32 hP hD hS => ?_)
    obtain ⟨hT, f_33, hq_32⟩ := hq_32
    have hF := fr_tr hF f_33 (by decide) (by decide)
    refine W.widen (k := 0) (n := 0) (Nat.le_refl _) (Nat.le_refl _) ?_
    have t_34 := hT
    rw [hQ]
    exact W.iret (v := r_30) hx hb hr (fun t ht hW => ⟨⟨r_30, C_31, rfl, ⟨hT, hF, (congrArg ga (f_33.1 12 rfl (by decide)))⟩, ⟨by rw [ht]; exact hP, hD⟩⟩, hS.F ht⟩) hS.2.2 dX6_hang_18

set_option maxHeartbeats 4000000 in
set_option maxRecDepth 100000 in
theorem e_X6_heaviest (l : Launch) (D : va_G) (E : Nat → ClassId) (G : Nat → Nat) (sz : Nat) (a : Nat → Nat) (C : Nat → va_E) (hT : TyX a E C) (x1 : Int32) (x2 : Int32) (x3 : Int32) (hx1 : rg x1 0 4) (hx2 : rg x2 0 15) (hx3 : rg x3 0 15) : Met l yX6_heaviest (oh_w yX6_heaviest cX6_heaviest 6 (some .int)) ({ frames := 5, cells := 0, slots := 0, locals := 124 }) (oh_Pm D E G [.ref (a 0), .int x1, .int x2, .int x3] (oh_W 35 a C) sz) (va_Qi (fun r (u : Nat → va_E) => TyX a E u ∧ fr [(9, 10), (15, 16), (24, 28)] [] C u ∧ (∀ j, j ≠ 0 → ga (u 15) j = ga (C 15) j)) (oh_B D (va_A (oh_W 35 a C) sz) (fun u => oh_W 35 a u)) (va_A (oh_W 35 a C) sz)) 0 0 (va_A (oh_W 35 a C) sz) := by
  refine Met.ofW (cc := cX6_heaviest) (maxL := 6) (ret := (some .int)) (by decide) rfl ?_
  intro p e s m args below meth c s₁ B hml hv
  obtain ⟨rfl, hsz, hP, hK, hD0, hG⟩ := hv
  have hx := B.exec
  have hb := B.bytes
  have hr := B.returns
  have hts := atoms_spec (ws := (oh_w yX6_heaviest cX6_heaviest 6 (some .int))) B.pre
  have htg : ∀ w ∈ oh_t, w.before _ s = true := fun w h => hts w (List.mem_cons_of_mem _ h)
  have hown : s.vm.findClass RX6 = some m.cls := findClass_of_methodNamed B.named
  have hlocks := B.notSynchronized
  have hT0 := hT
  subst hsz
  have hD := hD0.self (sz := s.heap.size)
  generalize hAe : va_A (oh_W 35 a C) s.heap.size = A at hD hG ⊢
  have hA : ∀ q : Nat, s.heap.size ≤ q → A q := fun q h => by rw [← hAe]; exact Or.inr h
  have hS : va_S A s.heap s.heap [] := va_S.rf
  have hF : fr [(9, 10), (15, 16), (24, 28)] [] C C := fr_rf
  have hl := lv_entry ([.ref (a 0), .int x1, .int x2, .int x3]) (n := 6) (Nat.le_of_ble_eq_true rfl)
  rw [lg_entry_eq]
  generalize (lg_sl ([.ref (a 0), .int x1, .int x2, .int x3]) ++ List.replicate (6 - (lg_sl ([.ref (a 0), .int x1, .int x2, .int x3])).length) Slot.unset).toArray = ls at hl ⊢
  have hl : lv_has ls 6 [(0, .ref (a 0)), (1, .int x1), (2, .int x2), (3, .int x3)] := hl
  refine oh_genQ (fun Q hQ => ?_)
  refine lv_aload_n hx hb dX6_heaviest_0 rfl (lv_at hl 0 rfl) ?_
  refine va_get (D := D) (ci := 6) (v := .ref (a 1)) (C := RX6) (T := TX6) (N := 9) hx hb htg ig_6 hown hK hP 0 (oh_wg (by decide) (sX_0 hT)) rfl 0 (by decide) (htg _ q_258) (fun _ h9 => h9) rfl dX6_heaviest_1 ?_
  refine va_get (D := D) (ci := 0) (v := .ref (a 15)) (C := RX0) (T := TX0) (N := 8) hx hb htg ig_0 hown hK hP 1 (oh_wg (by decide) (sX_1 hT)) rfl 5 (by decide) (htg _ q_110) (fun _ h9 => h9) rfl dX6_heaviest_4 ?_
  refine lv_iconst (v := 0) hx hb dX6_heaviest_7 (by decide) ?_
  refine lv_iconst (v := 0) hx hb dX6_heaviest_8 (by decide) ?_
  refine th_iast (T := TyX a E) (Rl := fr [(9, 10), (15, 16), (24, 28)] [] C) hx hb hK hP hD hS 15 (by decide) (sX_15 hT) (rg_in (rg_c (v := 0) (lo := 0) (hi := 0) (by decide)) (by decide)) (hT.up 15 (tA_upd (tX_15 hT) tA_any)) (fr_st hF (by decide) (by decide)) dX6_heaviest_9 (fun C_1 H locs e_2 hT hF hP hD hS => ?_)
  have t_3 := hT
  refine lv_aload_n hx hb dX6_heaviest_10 rfl (lv_at hl 0 rfl) ?_
  refine va_get (D := D) (ci := 6) (v := .ref (a 3)) (C := RX6) (T := TX6) (N := 9) hx hb htg ig_6 hown hK hP 0 (oh_wg (by decide) (sX_0 hT)) rfl 3 (by decide) (htg _ q_261) (fun _ h9 => h9) rfl dX6_heaviest_11 ?_
  refine lv_iload_n hx hb dX6_heaviest_14 rfl (lv_at hl 1 rfl) ?_
  refine lv_iconst (v := 0) hx hb dX6_heaviest_15 (by decide) ?_
  refine lv_iload_n hx hb dX6_heaviest_16 rfl (lv_at hl 2 rfl) ?_
  refine lv_iload_n hx hb dX6_heaviest_17 rfl (lv_at hl 3 rfl) ?_
  refine tm_V (As := [.int x1, .int 0, .int x2, .int x3]) (rest := []) ⟨hx, hb, hml, hown, htg⟩ (c_X5_hasWay l D E G _ a C_1 hT x1 (0 : Int32) x2 x3 (rg_w hx1 (by decide)) (rg_w hx2 (by decide)) (rg_w hx3 (by decide))) (cwV 4 htg (oh_gV q_881 q_882 q_883 q_68 q_884) rfl rfl rfl pdVX5_hasWay ⟨Nat.le_of_ble_eq_true rfl, Nat.le_of_ble_eq_true rfl⟩) hK hP hD hG hS hA (va_recv hK hP (ci := 5) (q0 := 3) rfl (oh_wg (by decide) (sX_3 hT))) rfl hl.1 rfl (Nat.le_of_ble_eq_true rfl) dX6_heaviest_18 ⟨Nat.le_of_ble_eq_true rfl, Nat.le_of_ble_eq_true rfl⟩ (fun r_4 C_5 H locs hq_6 hP hD hS => ?_)
  obtain ⟨hT, f_7, hq_6⟩ := hq_6
  have hF := fr_tr hF f_7 (by decide) (by decide)
  refine W.widen (k := 0) (n := 0) (Nat.le_refl _) (Nat.le_refl _) ?_
  have t_8 := hT
  refine lv_if_ne (tgt := 26) hx hb dX6_heaviest_21 (by decide) (fun (c_9 : ¬ (r_4 = 0)) => ?_) (fun (c_9 : r_4 = 0) => ?_)
  · refine lv_iconst (v := 0) hx hb dX6_heaviest_26 (by decide) ?_
    refine lv_istore (lv' := [(4, .int 0), (0, .ref (a 0)), (1, .int x1), (2, .int x2), (3, .int x3)]) hx hb dX6_heaviest_27 hl (by decide) rfl (fun ls hl => ?_)
    refine lv_sipush (v := 512) hx hb dX6_heaviest_29 (by decide) ?_
    refine lv_istore (lv' := [(5, .int 512), (4, .int 0), (0, .ref (a 0)), (1, .int x1), (2, .int x2), (3, .int x3)]) hx hb dX6_heaviest_32 hl (by decide) rfl (fun ls hl => ?_)
    have L_34 : ∀ (d : Nat) (K34 : Nat → va_E) (z34_5 : Int32) (z34_4 : Int32) (H : Heap) (locs : List Loc) (ls : Array Slot), z34_5.toInt.toNat = d → rg z34_5 0 512 → (∀ j, j ≠ 0 → ga (K34 15) j = ga (C 15) j) → TyX a E K34 → fr [(9, 10), (15, 16), (24, 28)] [] C K34 → fr [(9, 10), (15, 16), (24, 28)] [] C_5 K34 → va_P D vwCl (oh_W 35 a K34) H → va_D A (oh_W 35 a K34) → va_S A s.heap H locs → lv_has ls 6 [(5, .int z34_5), (4, .int z34_4), (0, .ref (a 0)), (1, .int x1), (2, .int x2), (3, .int x3)] → W p l e ({ frames := 5, cells := 0, slots := 0, locals := 124 }) s m (([.ref (a 0), .int x1, .int x2, .int x3] : List Value).toArray) below meth c H locs 0 0 Q (F0 m 34 ls []) := by
      intro d
      induction d using Nat.strongRecOn with
      | ind d ih_34 =>
      intro K34 z34_5 z34_4 H locs ls hd_34 hz34_5 hx_34 hT hF hLF_34 hP hD hS hl
      have t_10 := hT
      refine lv_iload hx hb dX6_heaviest_34 (lv_at hl 0 rfl) ?_
      refine lv_if_le (tgt := 94) hx hb dX6_heaviest_36 (by decide) (fun (c_11 : z34_5 ≤ 0) => ?_) (fun (c_11 : ¬ (z34_5 ≤ 0)) => ?_)
      · refine lv_iload hx hb dX6_heaviest_94 (lv_at hl 1 rfl) ?_
        rw [hQ]
        exact W.iret (v := z34_4) hx hb hr (fun t ht hW => ⟨⟨z34_4, K34, rfl, ⟨hT, hF, (fun j hj => (hx_34 j hj))⟩, ⟨by rw [ht]; exact hP, hD⟩⟩, hS.F ht⟩) hS.2.2 dX6_heaviest_96
      · refine lv_aload_n hx hb dX6_heaviest_39 rfl (lv_at hl 2 rfl) ?_
        refine va_get (D := D) (ci := 6) (v := .ref (a 1)) (C := RX6) (T := TX6) (N := 9) hx hb htg ig_6 hown hK hP 0 (oh_wg (by decide) (sX_0 hT)) rfl 0 (by decide) (htg _ q_258) (fun _ h9 => h9) rfl dX6_heaviest_40 ?_
        refine va_get (D := D) (ci := 0) (v := .ref (a 15)) (C := RX0) (T := TX0) (N := 8) hx hb htg ig_0 hown hK hP 1 (oh_wg (by decide) (sX_1 hT)) rfl 5 (by decide) (htg _ q_110) (fun _ h9 => h9) rfl dX6_heaviest_43 ?_
        refine lv_iconst (v := 0) hx hb dX6_heaviest_46 (by decide) ?_
        refine lv_iload hx hb dX6_heaviest_47 (lv_at hl 1 rfl) ?_
        refine lv_iload hx hb dX6_heaviest_49 (lv_at hl 0 rfl) ?_
        refine lv_iadd hx hb dX6_heaviest_51 ?_
        refine th_iast (T := TyX a E) (Rl := fr [(9, 10), (15, 16), (24, 28)] [] C) hx hb hK hP hD hS 15 (by decide) (sX_15 hT) (rg_in (rg_c (v := 0) (lo := 0) (hi := 0) (by decide)) (by decide)) (hT.up 15 (tA_upd (tX_15 hT) tA_any)) (fr_st hF (by decide) (by decide)) dX6_heaviest_52 (fun C_12 H locs e_13 hT hF hP hD hS => ?_)
        have t_14 := hT
        refine lv_iload hx hb dX6_heaviest_53 (lv_at hl 1 rfl) ?_
        refine lv_iload hx hb dX6_heaviest_55 (lv_at hl 0 rfl) ?_
        refine lv_iadd hx hb dX6_heaviest_57 ?_
        refine lv_sipush (v := 900) hx hb dX6_heaviest_58 (by decide) ?_
        refine lv_icmp_gt (tgt := 85) hx hb dX6_heaviest_61 (by decide) (fun (c_15 : (900 : Int32) < (z34_4 + z34_5)) => ?_) (fun (c_15 : ¬ ((900 : Int32) < (z34_4 + z34_5))) => ?_)
        · refine lv_iload hx hb dX6_heaviest_85 (lv_at hl 0 rfl) ?_
          refine lv_iconst (v := 2) hx hb dX6_heaviest_87 (by decide) ?_
          refine lv_idiv hx hb dX6_heaviest_88 (by decide) ?_
          refine lv_istore (lv' := [(5, .int (z34_5 / 2)), (4, .int z34_4), (0, .ref (a 0)), (1, .int x1), (2, .int x2), (3, .int x3)]) hx hb dX6_heaviest_89 hl (by decide) rfl (fun ls hl => ?_)
          refine lv_goto (tgt := 34) hx hb dX6_heaviest_91 (by decide) ?_
          exact ih_34 _ (hd_34 ▸ mu_half (rn_ltl (l' := 1) (Int32.not_le.mp c_11) (rg_c (v := 0) (lo := 0) (hi := 0) (by decide)) hz34_5 (by decide)) (by decide)) C_12 (z34_5 / 2) z34_4 _ _ ls rfl (rg_half (rn_ltl (l' := 1) (Int32.not_le.mp c_11) (rg_c (v := 0) (lo := 0) (hi := 0) (by decide)) hz34_5 (by decide)) (by decide)) (fun j hj => (Eq.trans (show ga (C_12 15) j = ga (K34 15) j by rw [st_ga e_13]; exact pk_un hj) (hx_34 j hj))) hT hF (fr_ste hLF_34 e_13 (by decide) (by decide)) hP hD hS (lv_sub hl [0, 1, 2, 3, 4, 5] rfl)
        · refine lv_aload_n hx hb dX6_heaviest_64 rfl (lv_at hl 2 rfl) ?_
          refine va_get (D := D) (ci := 6) (v := .ref (a 3)) (C := RX6) (T := TX6) (N := 9) hx hb htg ig_6 hown hK hP 0 (oh_wg (by decide) (sX_0 hT)) rfl 3 (by decide) (htg _ q_261) (fun _ h9 => h9) rfl dX6_heaviest_65 ?_
          refine lv_iload_n hx hb dX6_heaviest_68 rfl (lv_at hl 3 rfl) ?_
          refine lv_iconst (v := 0) hx hb dX6_heaviest_69 (by decide) ?_
          refine lv_iload_n hx hb dX6_heaviest_70 rfl (lv_at hl 4 rfl) ?_
          refine lv_iload_n hx hb dX6_heaviest_71 rfl (lv_at hl 5 rfl) ?_
          refine tm_V (As := [.int x1, .int 0, .int x2, .int x3]) (rest := []) ⟨hx, hb, hml, hown, htg⟩ (c_X5_hasWay l D E G _ a C_12 hT x1 (0 : Int32) x2 x3 (rg_w hx1 (by decide)) (rg_w hx2 (by decide)) (rg_w hx3 (by decide))) (cwV 4 htg (oh_gV q_881 q_882 q_883 q_68 q_884) rfl rfl rfl pdVX5_hasWay ⟨Nat.le_of_ble_eq_true rfl, Nat.le_of_ble_eq_true rfl⟩) hK hP hD hG hS hA (va_recv hK hP (ci := 5) (q0 := 3) rfl (oh_wg (by decide) (sX_3 hT))) rfl hl.1 rfl (Nat.le_of_ble_eq_true rfl) dX6_heaviest_72 ⟨Nat.le_of_ble_eq_true rfl, Nat.le_of_ble_eq_true rfl⟩ (fun r_16 C_17 H locs hq_18 hP hD hS => ?_)
          obtain ⟨hT, f_19, hq_18⟩ := hq_18
          have hF := fr_tr hF f_19 (by decide) (by decide)
          refine W.widen (k := 0) (n := 0) (Nat.le_refl _) (Nat.le_refl _) ?_
          have t_20 := hT
          refine lv_if_eq (tgt := 85) hx hb dX6_heaviest_75 (by decide) (fun (c_21 : r_16 = 0) => ?_) (fun (c_21 : ¬ (r_16 = 0)) => ?_)
          · refine lv_iload hx hb dX6_heaviest_85 (lv_at hl 0 rfl) ?_
            refine lv_iconst (v := 2) hx hb dX6_heaviest_87 (by decide) ?_
            refine lv_idiv hx hb dX6_heaviest_88 (by decide) ?_
            refine lv_istore (lv' := [(5, .int (z34_5 / 2)), (4, .int z34_4), (0, .ref (a 0)), (1, .int x1), (2, .int x2), (3, .int x3)]) hx hb dX6_heaviest_89 hl (by decide) rfl (fun ls hl => ?_)
            refine lv_goto (tgt := 34) hx hb dX6_heaviest_91 (by decide) ?_
            exact ih_34 _ (hd_34 ▸ mu_half (rn_ltl (l' := 1) (Int32.not_le.mp c_11) (rg_c (v := 0) (lo := 0) (hi := 0) (by decide)) hz34_5 (by decide)) (by decide)) C_17 (z34_5 / 2) z34_4 _ _ ls rfl (rg_half (rn_ltl (l' := 1) (Int32.not_le.mp c_11) (rg_c (v := 0) (lo := 0) (hi := 0) (by decide)) hz34_5 (by decide)) (by decide)) (fun j hj => (Eq.trans (congrArg (fun z => ga z j) (f_19.1 15 rfl (by decide))) (Eq.trans (show ga (C_12 15) j = ga (K34 15) j by rw [st_ga e_13]; exact pk_un hj) (hx_34 j hj)))) hT hF (fr_tr (fr_ste hLF_34 e_13 (by decide) (by decide)) f_19 (by decide) (by decide)) hP hD hS (lv_sub hl [0, 1, 2, 3, 4, 5] rfl)
          · refine lv_iload hx hb dX6_heaviest_78 (lv_at hl 1 rfl) ?_
            refine lv_iload hx hb dX6_heaviest_80 (lv_at hl 0 rfl) ?_
            refine lv_iadd hx hb dX6_heaviest_82 ?_
            refine lv_istore (lv' := [(4, .int (z34_4 + z34_5)), (5, .int z34_5), (0, .ref (a 0)), (1, .int x1), (2, .int x2), (3, .int x3)]) hx hb dX6_heaviest_83 hl (by decide) rfl (fun ls hl => ?_)
            refine lv_iload hx hb dX6_heaviest_85 (lv_at hl 1 rfl) ?_
            refine lv_iconst (v := 2) hx hb dX6_heaviest_87 (by decide) ?_
            refine lv_idiv hx hb dX6_heaviest_88 (by decide) ?_
            refine lv_istore (lv' := [(5, .int (z34_5 / 2)), (4, .int (z34_4 + z34_5)), (0, .ref (a 0)), (1, .int x1), (2, .int x2), (3, .int x3)]) hx hb dX6_heaviest_89 hl (by decide) rfl (fun ls hl => ?_)
            refine lv_goto (tgt := 34) hx hb dX6_heaviest_91 (by decide) ?_
            exact ih_34 _ (hd_34 ▸ mu_half (rn_ltl (l' := 1) (Int32.not_le.mp c_11) (rg_c (v := 0) (lo := 0) (hi := 0) (by decide)) hz34_5 (by decide)) (by decide)) C_17 (z34_5 / 2) (z34_4 + z34_5) _ _ ls rfl (rg_half (rn_ltl (l' := 1) (Int32.not_le.mp c_11) (rg_c (v := 0) (lo := 0) (hi := 0) (by decide)) hz34_5 (by decide)) (by decide)) (fun j hj => (Eq.trans (congrArg (fun z => ga z j) (f_19.1 15 rfl (by decide))) (Eq.trans (show ga (C_12 15) j = ga (K34 15) j by rw [st_ga e_13]; exact pk_un hj) (hx_34 j hj)))) hT hF (fr_tr (fr_ste hLF_34 e_13 (by decide) (by decide)) f_19 (by decide) (by decide)) hP hD hS (lv_sub hl [0, 1, 2, 3, 4, 5] rfl)
    exact L_34 _ C_5 512 0 _ _ ls rfl (rg_w (rg_c (v := 512) (lo := 512) (hi := 512) (by decide)) (by decide)) (fun j hj => (Eq.trans (congrArg (fun z => ga z j) (f_7.1 15 rfl (by decide))) (show ga (C_1 15) j = ga (C 15) j by rw [st_ga e_2]; exact pk_un hj))) hT hF fr_rf hP hD hS (lv_sub hl [0, 1, 2, 3, 4, 5] rfl)
  · refine lv_iconst (v := (-1)) hx hb dX6_heaviest_24 (by decide) ?_
    rw [hQ]
    exact W.iret (v := (-1)) hx hb hr (fun t ht hW => ⟨⟨(-1), C_5, rfl, ⟨hT, hF, (fun j hj => (Eq.trans (congrArg (fun z => ga z j) (f_7.1 15 rfl (by decide))) (show ga (C_1 15) j = ga (C 15) j by rw [st_ga e_2]; exact pk_un hj)))⟩, ⟨by rw [ht]; exact hP, hD⟩⟩, hS.F ht⟩) hS.2.2 dX6_heaviest_25

set_option maxHeartbeats 4000000 in
set_option maxRecDepth 100000 in
theorem e_X6_most (l : Launch) (D : va_G) (E : Nat → ClassId) (G : Nat → Nat) (sz : Nat) (a : Nat → Nat) (C : Nat → va_E) (hT : TyX a E C) (x1 : Int32) (x2 : Int32) (x3 : Int32) : Met l yX6_most (oh_w yX6_most cX6_most 6 (some .int)) ({ frames := 6, cells := 0, slots := 0, locals := 149 }) (oh_Pm D E G [.ref (a 0), .int x1, .int x2, .int x3] (oh_W 35 a C) sz) (va_Qi (fun r (u : Nat → va_E) => TyX a E u ∧ fr [(7, 8), (9, 10), (15, 16), (24, 28)] [] C u ∧ (ga (u 15) = ga (C 15))) (oh_B D (va_A (oh_W 35 a C) sz) (fun u => oh_W 35 a u)) (va_A (oh_W 35 a C) sz)) 0 0 (va_A (oh_W 35 a C) sz) := by
  refine Met.ofW (cc := cX6_most) (maxL := 6) (ret := (some .int)) (by decide) rfl ?_
  intro p e s m args below meth c s₁ B hml hv
  obtain ⟨rfl, hsz, hP, hK, hD0, hG⟩ := hv
  have hx := B.exec
  have hb := B.bytes
  have hr := B.returns
  have hts := atoms_spec (ws := (oh_w yX6_most cX6_most 6 (some .int))) B.pre
  have htg : ∀ w ∈ oh_t, w.before _ s = true := fun w h => hts w (List.mem_cons_of_mem _ h)
  have hown : s.vm.findClass RX6 = some m.cls := findClass_of_methodNamed B.named
  have hlocks := B.notSynchronized
  have hT0 := hT
  subst hsz
  have hD := hD0.self (sz := s.heap.size)
  generalize hAe : va_A (oh_W 35 a C) s.heap.size = A at hD hG ⊢
  have hA : ∀ q : Nat, s.heap.size ≤ q → A q := fun q h => by rw [← hAe]; exact Or.inr h
  have hS : va_S A s.heap s.heap [] := va_S.rf
  have hF : fr [(7, 8), (9, 10), (15, 16), (24, 28)] [] C C := fr_rf
  have hl := lv_entry ([.ref (a 0), .int x1, .int x2, .int x3]) (n := 6) (Nat.le_of_ble_eq_true rfl)
  rw [lg_entry_eq]
  generalize (lg_sl ([.ref (a 0), .int x1, .int x2, .int x3]) ++ List.replicate (6 - (lg_sl ([.ref (a 0), .int x1, .int x2, .int x3])).length) Slot.unset).toArray = ls at hl ⊢
  have hl : lv_has ls 6 [(0, .ref (a 0)), (1, .int x1), (2, .int x2), (3, .int x3)] := hl
  refine oh_genQ (fun Q hQ => ?_)
  refine lv_aload_n hx hb dX6_most_0 rfl (lv_at hl 0 rfl) ?_
  refine lv_iload_n hx hb dX6_most_1 rfl (lv_at hl 1 rfl) ?_
  refine tq_V (As := [.int x1]) (rest := []) (ws := (oh_W 35 a C)) ⟨hx, hb, hml, hown, htg⟩ (c_X6_isWaggon l D E G a C hT x1) (cwV 1 htg (oh_gV q_679 q_681 q_15 q_66 q_682) rfl rfl rfl pdVX6_isWaggon ⟨Nat.le_of_ble_eq_true rfl, Nat.le_of_ble_eq_true rfl⟩) hK hP hG hS (va_recv hK hP (ci := 6) (q0 := 0) rfl (oh_wg (by decide) (sX_0 hT))) rfl hl.1 rfl (Nat.le_of_ble_eq_true rfl) dX6_most_2 ⟨Nat.le_of_ble_eq_true rfl, Nat.le_of_ble_eq_true rfl⟩ (fun r_1 hq_2 => ?_)
  refine lv_if_eq (tgt := 22) hx hb dX6_most_5 (by decide) (fun (c_3 : r_1 = 0) => ?_) (fun (c_3 : ¬ (r_1 = 0)) => ?_)
  · refine lv_aload_n hx hb dX6_most_22 rfl (lv_at hl 0 rfl) ?_
    refine lv_bipush (v := (-2)) hx hb dX6_most_23 (by decide) ?_
    refine tm_V (As := [.int (-2)]) (rest := []) ⟨hx, hb, hml, hown, htg⟩ (c_X6_refuse l D E G _ a C hT ((-2) : Int32)) (cwV 1 htg (oh_gV q_296 q_298 q_0 q_66 q_299) rfl rfl rfl pdVX6_refuse ⟨Nat.le_of_ble_eq_true rfl, Nat.le_of_ble_eq_true rfl⟩) hK hP hD hG hS hA (va_recv hK hP (ci := 6) (q0 := 0) rfl (oh_wg (by decide) (sX_0 hT))) rfl hl.1 rfl (Nat.le_of_ble_eq_true rfl) dX6_most_25 ⟨Nat.le_of_ble_eq_true rfl, Nat.le_of_ble_eq_true rfl⟩ (fun r_4 C_5 H locs hq_6 hP hD hS => ?_)
    obtain ⟨hT, f_7, hq_6⟩ := hq_6
    have hF := fr_tr hF f_7 (by decide) (by decide)
    refine W.widen (k := 0) (n := 0) (Nat.le_refl _) (Nat.le_refl _) ?_
    have t_8 := hT
    rw [hQ]
    exact W.iret (v := r_4) hx hb hr (fun t ht hW => ⟨⟨r_4, C_5, rfl, ⟨hT, hF, (congrArg ga (f_7.1 15 rfl (by decide)))⟩, ⟨by rw [ht]; exact hP, hD⟩⟩, hS.F ht⟩) hS.2.2 dX6_most_28
  · have u_9 := hq_2.2 c_3
    refine lv_iload_n hx hb dX6_most_8 rfl (lv_at hl 2 rfl) ?_
    refine tq_S (As := [.int x2]) (rest := []) (ws := []) ⟨hx, hb, hml, hown, htg⟩ (e_X6_isPlace l D E G x2) (va_cwS 1 htg (oh_gS q_413 q_414 q_66 q_415) rfl rfl rfl pdX6_isPlace ⟨Nat.le_of_ble_eq_true rfl, Nat.le_of_ble_eq_true rfl⟩) hK va_nil hG hS rfl hl.1 rfl (Nat.le_of_ble_eq_true rfl) dX6_most_9 ⟨Nat.le_of_ble_eq_true rfl, Nat.le_of_ble_eq_true rfl⟩ (fun r_10 hq_11 => ?_)
    refine lv_if_eq (tgt := 22) hx hb dX6_most_12 (by decide) (fun (c_12 : r_10 = 0) => ?_) (fun (c_12 : ¬ (r_10 = 0)) => ?_)
    · have u_13 := hq_11.2.2 c_12
      refine lv_aload_n hx hb dX6_most_22 rfl (lv_at hl 0 rfl) ?_
      refine lv_bipush (v := (-2)) hx hb dX6_most_23 (by decide) ?_
      refine tm_V (As := [.int (-2)]) (rest := []) ⟨hx, hb, hml, hown, htg⟩ (c_X6_refuse l D E G _ a C hT ((-2) : Int32)) (cwV 1 htg (oh_gV q_296 q_298 q_0 q_66 q_299) rfl rfl rfl pdVX6_refuse ⟨Nat.le_of_ble_eq_true rfl, Nat.le_of_ble_eq_true rfl⟩) hK hP hD hG hS hA (va_recv hK hP (ci := 6) (q0 := 0) rfl (oh_wg (by decide) (sX_0 hT))) rfl hl.1 rfl (Nat.le_of_ble_eq_true rfl) dX6_most_25 ⟨Nat.le_of_ble_eq_true rfl, Nat.le_of_ble_eq_true rfl⟩ (fun r_14 C_15 H locs hq_16 hP hD hS => ?_)
      obtain ⟨hT, f_17, hq_16⟩ := hq_16
      have hF := fr_tr hF f_17 (by decide) (by decide)
      refine W.widen (k := 0) (n := 0) (Nat.le_refl _) (Nat.le_refl _) ?_
      have t_18 := hT
      rw [hQ]
      exact W.iret (v := r_14) hx hb hr (fun t ht hW => ⟨⟨r_14, C_15, rfl, ⟨hT, hF, (congrArg ga (f_17.1 15 rfl (by decide)))⟩, ⟨by rw [ht]; exact hP, hD⟩⟩, hS.F ht⟩) hS.2.2 dX6_most_28
    · have u_19 := hq_11.2.1 c_12
      refine lv_iload_n hx hb dX6_most_15 rfl (lv_at hl 3 rfl) ?_
      refine tq_S (As := [.int x3]) (rest := []) (ws := []) ⟨hx, hb, hml, hown, htg⟩ (e_X6_isPlace l D E G x3) (va_cwS 1 htg (oh_gS q_413 q_414 q_66 q_415) rfl rfl rfl pdX6_isPlace ⟨Nat.le_of_ble_eq_true rfl, Nat.le_of_ble_eq_true rfl⟩) hK va_nil hG hS rfl hl.1 rfl (Nat.le_of_ble_eq_true rfl) dX6_most_16 ⟨Nat.le_of_ble_eq_true rfl, Nat.le_of_ble_eq_true rfl⟩ (fun r_20 hq_21 => ?_)
      refine lv_if_ne (tgt := 29) hx hb dX6_most_19 (by decide) (fun (c_22 : ¬ (r_20 = 0)) => ?_) (fun (c_22 : r_20 = 0) => ?_)
      · have u_23 := hq_21.2.1 c_22
        refine lv_aload_n hx hb dX6_most_29 rfl (lv_at hl 0 rfl) ?_
        refine va_get (D := D) (ci := 6) (v := .ref (a 1)) (C := RX6) (T := TX6) (N := 9) hx hb htg ig_6 hown hK hP 0 (oh_wg (by decide) (sX_0 hT)) rfl 0 (by decide) (htg _ q_258) (fun _ h9 => h9) rfl dX6_most_30 ?_
        refine va_get (D := D) (ci := 0) (v := .ref (a 15)) (C := RX0) (T := TX0) (N := 8) hx hb htg ig_0 hown hK hP 1 (oh_wg (by decide) (sX_1 hT)) rfl 5 (by decide) (htg _ q_110) (fun _ h9 => h9) rfl dX6_most_33 ?_
        refine lv_iconst (v := 0) hx hb dX6_most_36 (by decide) ?_
        refine th_iald hx hb hK hP 15 (by decide) (sX_15 hT) (rg_in (rg_c (v := 0) (lo := 0) (hi := 0) (by decide)) (by decide)) dX6_most_37 ?_
        refine lv_istore (lv' := [(4, .int (ga (C 15) ((0 : Int32)).toNatClampNeg)), (0, .ref (a 0)), (1, .int x1), (2, .int x2), (3, .int x3)]) hx hb dX6_most_38 hl (by decide) rfl (fun ls hl => ?_)
        refine lv_aload_n hx hb dX6_most_40 rfl (lv_at hl 1 rfl) ?_
        refine lv_iload_n hx hb dX6_most_41 rfl (lv_at hl 2 rfl) ?_
        refine lv_iload_n hx hb dX6_most_42 rfl (lv_at hl 3 rfl) ?_
        refine lv_iload_n hx hb dX6_most_43 rfl (lv_at hl 4 rfl) ?_
        refine tm_V (As := [.int x1, .int x2, .int x3]) (rest := []) ⟨hx, hb, hml, hown, htg⟩ (e_X6_heaviest l D E G _ a C hT x1 x2 x3 (rg_w u_9 (by decide)) (rg_w u_19 (by decide)) (rg_w u_23 (by decide))) (cwV 3 htg (oh_gV q_889 q_891 q_27 q_66 q_892) rfl rfl rfl pdVX6_heaviest ⟨Nat.le_of_ble_eq_true rfl, Nat.le_of_ble_eq_true rfl⟩) hK hP hD hG hS hA (va_recv hK hP (ci := 6) (q0 := 0) rfl (oh_wg (by decide) (sX_0 hT))) rfl hl.1 rfl (Nat.le_of_ble_eq_true rfl) dX6_most_44 ⟨Nat.le_of_ble_eq_true rfl, Nat.le_of_ble_eq_true rfl⟩ (fun r_24 C_25 H locs hq_26 hP hD hS => ?_)
        obtain ⟨hT, f_27, hq_26⟩ := hq_26
        have hF := fr_tr hF f_27 (by decide) (by decide)
        refine W.widen (k := 0) (n := 0) (Nat.le_refl _) (Nat.le_refl _) ?_
        have t_28 := hT
        refine lv_istore (lv' := [(5, .int r_24), (4, .int (ga (C 15) ((0 : Int32)).toNatClampNeg)), (0, .ref (a 0)), (1, .int x1), (2, .int x2), (3, .int x3)]) hx hb dX6_most_47 hl (by decide) rfl (fun ls hl => ?_)
        refine lv_aload_n hx hb dX6_most_49 rfl (lv_at hl 2 rfl) ?_
        refine va_get (D := D) (ci := 6) (v := .ref (a 1)) (C := RX6) (T := TX6) (N := 9) hx hb htg ig_6 hown hK hP 0 (oh_wg (by decide) (sX_0 hT)) rfl 0 (by decide) (htg _ q_258) (fun _ h9 => h9) rfl dX6_most_50 ?_
        refine va_get (D := D) (ci := 0) (v := .ref (a 15)) (C := RX0) (T := TX0) (N := 8) hx hb htg ig_0 hown hK hP 1 (oh_wg (by decide) (sX_1 hT)) rfl 5 (by decide) (htg _ q_110) (fun _ h9 => h9) rfl dX6_most_53 ?_
        refine lv_iconst (v := 0) hx hb dX6_most_56 (by decide) ?_
        refine lv_iload hx hb dX6_most_57 (lv_at hl 1 rfl) ?_
        refine th_iast (T := TyX a E) (Rl := fr [(7, 8), (9, 10), (15, 16), (24, 28)] [] C) hx hb hK hP hD hS 15 (by decide) (sX_15 hT) (rg_in (rg_c (v := 0) (lo := 0) (hi := 0) (by decide)) (by decide)) (hT.up 15 (tA_upd (tX_15 hT) tA_any)) (fr_st hF (by decide) (by decide)) dX6_most_59 (fun C_29 H locs e_30 hT hF hP hD hS => ?_)
        have t_31 := hT
        refine lv_iload hx hb dX6_most_60 (lv_at hl 0 rfl) ?_
        refine lv_iconst (v := (-1)) hx hb dX6_most_62 (by decide) ?_
        refine lv_icmp_ne (tgt := 75) hx hb dX6_most_63 (by decide) (fun (c_32 : ¬ (r_24 = (-1))) => ?_) (fun (c_32 : r_24 = (-1)) => ?_)
        · refine lv_iload hx hb dX6_most_75 (lv_at hl 0 rfl) ?_
          rw [hQ]
          exact W.iret (v := r_24) hx hb hr (fun t ht hW => ⟨⟨r_24, C_29, rfl, ⟨hT, hF, (by rw [st_ga e_30]; exact upd0 hq_26)⟩, ⟨by rw [ht]; exact hP, hD⟩⟩, hS.F ht⟩) hS.2.2 dX6_most_77
        · refine lv_aload_n hx hb dX6_most_66 rfl (lv_at hl 2 rfl) ?_
          refine lv_bipush (v := (-5)) hx hb dX6_most_67 (by decide) ?_
          refine tm_V (As := [.int (-5)]) (rest := []) ⟨hx, hb, hml, hown, htg⟩ (c_X6_refuse l D E G _ a C_29 hT ((-5) : Int32)) (cwV 1 htg (oh_gV q_296 q_298 q_0 q_66 q_299) rfl rfl rfl pdVX6_refuse ⟨Nat.le_of_ble_eq_true rfl, Nat.le_of_ble_eq_true rfl⟩) hK hP hD hG hS hA (va_recv hK hP (ci := 6) (q0 := 0) rfl (oh_wg (by decide) (sX_0 hT))) rfl hl.1 rfl (Nat.le_of_ble_eq_true rfl) dX6_most_69 ⟨Nat.le_of_ble_eq_true rfl, Nat.le_of_ble_eq_true rfl⟩ (fun r_33 C_34 H locs hq_35 hP hD hS => ?_)
          obtain ⟨hT, f_36, hq_35⟩ := hq_35
          have hF := fr_tr hF f_36 (by decide) (by decide)
          refine W.widen (k := 0) (n := 0) (Nat.le_refl _) (Nat.le_refl _) ?_
          have t_37 := hT
          refine lv_goto (tgt := 77) hx hb dX6_most_72 (by decide) ?_
          rw [hQ]
          exact W.iret (v := r_33) hx hb hr (fun t ht hW => ⟨⟨r_33, C_34, rfl, ⟨hT, hF, (by rw [(f_36.1 15 rfl (by decide)), st_ga e_30]; exact upd0 hq_26)⟩, ⟨by rw [ht]; exact hP, hD⟩⟩, hS.F ht⟩) hS.2.2 dX6_most_77
      · have u_38 := hq_21.2.2 c_22
        refine lv_aload_n hx hb dX6_most_22 rfl (lv_at hl 0 rfl) ?_
        refine lv_bipush (v := (-2)) hx hb dX6_most_23 (by decide) ?_
        refine tm_V (As := [.int (-2)]) (rest := []) ⟨hx, hb, hml, hown, htg⟩ (c_X6_refuse l D E G _ a C hT ((-2) : Int32)) (cwV 1 htg (oh_gV q_296 q_298 q_0 q_66 q_299) rfl rfl rfl pdVX6_refuse ⟨Nat.le_of_ble_eq_true rfl, Nat.le_of_ble_eq_true rfl⟩) hK hP hD hG hS hA (va_recv hK hP (ci := 6) (q0 := 0) rfl (oh_wg (by decide) (sX_0 hT))) rfl hl.1 rfl (Nat.le_of_ble_eq_true rfl) dX6_most_25 ⟨Nat.le_of_ble_eq_true rfl, Nat.le_of_ble_eq_true rfl⟩ (fun r_39 C_40 H locs hq_41 hP hD hS => ?_)
        obtain ⟨hT, f_42, hq_41⟩ := hq_41
        have hF := fr_tr hF f_42 (by decide) (by decide)
        refine W.widen (k := 0) (n := 0) (Nat.le_refl _) (Nat.le_refl _) ?_
        have t_43 := hT
        rw [hQ]
        exact W.iret (v := r_39) hx hb hr (fun t ht hW => ⟨⟨r_39, C_40, rfl, ⟨hT, hF, (congrArg ga (f_42.1 15 rfl (by decide)))⟩, ⟨by rw [ht]; exact hP, hD⟩⟩, hS.F ht⟩) hS.2.2 dX6_most_28

set_option maxHeartbeats 4000000 in
set_option maxRecDepth 100000 in
theorem e_X6_frost (l : Launch) (D : va_G) (E : Nat → ClassId) (G : Nat → Nat) (sz : Nat) (a : Nat → Nat) (C : Nat → va_E) (hT : TyX a E C) (x1 : Int32) (x2 : Int32) (x3 : Int32) (x4 : Int32) (x5 : Int32) (x6 : Int32) (x7 : Int32) : Met l yX6_frost (oh_w yX6_frost cX6_frost 11 (some .long)) ({ frames := 5, cells := 0, slots := 0, locals := 125 }) (oh_Pm D E G [.ref (a 0), .int x1, .int x2, .int x3, .int x4, .int x5, .int x6, .int x7] (oh_W 35 a C) sz) (va_Ql (fun r (u : Nat → va_E) => TyX a E u ∧ fr [(7, 8), (9, 10), (15, 16), (24, 28)] [] C u ∧ (ga (u 15) = ga (C 15))) (oh_B D (va_A (oh_W 35 a C) sz) (fun u => oh_W 35 a u)) (va_A (oh_W 35 a C) sz)) 0 0 (va_A (oh_W 35 a C) sz) := by
  refine Met.ofW (cc := cX6_frost) (maxL := 11) (ret := (some .long)) (by decide) rfl ?_
  intro p e s m args below meth c s₁ B hml hv
  obtain ⟨rfl, hsz, hP, hK, hD0, hG⟩ := hv
  have hx := B.exec
  have hb := B.bytes
  have hr := B.returns
  have hts := atoms_spec (ws := (oh_w yX6_frost cX6_frost 11 (some .long))) B.pre
  have htg : ∀ w ∈ oh_t, w.before _ s = true := fun w h => hts w (List.mem_cons_of_mem _ h)
  have hown : s.vm.findClass RX6 = some m.cls := findClass_of_methodNamed B.named
  have hlocks := B.notSynchronized
  have hT0 := hT
  subst hsz
  have hD := hD0.self (sz := s.heap.size)
  generalize hAe : va_A (oh_W 35 a C) s.heap.size = A at hD hG ⊢
  have hA : ∀ q : Nat, s.heap.size ≤ q → A q := fun q h => by rw [← hAe]; exact Or.inr h
  have hS : va_S A s.heap s.heap [] := va_S.rf
  have hF : fr [(7, 8), (9, 10), (15, 16), (24, 28)] [] C C := fr_rf
  have hl := lv_entry ([.ref (a 0), .int x1, .int x2, .int x3, .int x4, .int x5, .int x6, .int x7]) (n := 11) (Nat.le_of_ble_eq_true rfl)
  rw [lg_entry_eq]
  generalize (lg_sl ([.ref (a 0), .int x1, .int x2, .int x3, .int x4, .int x5, .int x6, .int x7]) ++ List.replicate (11 - (lg_sl ([.ref (a 0), .int x1, .int x2, .int x3, .int x4, .int x5, .int x6, .int x7])).length) Slot.unset).toArray = ls at hl ⊢
  have hl : lv_has ls 11 [(0, .ref (a 0)), (1, .int x1), (2, .int x2), (3, .int x3), (4, .int x4), (5, .int x5), (6, .int x6), (7, .int x7)] := hl
  refine oh_genQ (fun Q hQ => ?_)
  refine lv_aload_n hx hb dX6_frost_0 rfl (lv_at hl 0 rfl) ?_
  refine lv_iload_n hx hb dX6_frost_1 rfl (lv_at hl 1 rfl) ?_
  refine lv_iload_n hx hb dX6_frost_2 rfl (lv_at hl 2 rfl) ?_
  refine lv_iload_n hx hb dX6_frost_3 rfl (lv_at hl 3 rfl) ?_
  refine lv_iload hx hb dX6_frost_4 (lv_at hl 4 rfl) ?_
  refine tq_V (As := [.int x1, .int x2, .int x3, .int x4]) (rest := []) (ws := (oh_W 35 a C)) ⟨hx, hb, hml, hown, htg⟩ (c_X6_isJourney l D E G a C hT x1 x2 x3 x4) (cwV 4 htg (oh_gV q_776 q_778 q_17 q_66 q_779) rfl rfl rfl pdVX6_isJourney ⟨Nat.le_of_ble_eq_true rfl, Nat.le_of_ble_eq_true rfl⟩) hK hP hG hS (va_recv hK hP (ci := 6) (q0 := 0) rfl (oh_wg (by decide) (sX_0 hT))) rfl hl.1 rfl (Nat.le_of_ble_eq_true rfl) dX6_frost_6 ⟨Nat.le_of_ble_eq_true rfl, Nat.le_of_ble_eq_true rfl⟩ (fun r_1 hq_2 => ?_)
  refine lv_if_eq (tgt := 46) hx hb dX6_frost_9 (by decide) (fun (c_3 : r_1 = 0) => ?_) (fun (c_3 : ¬ (r_1 = 0)) => ?_)
  · refine lv_aload_n hx hb dX6_frost_46 rfl (lv_at hl 0 rfl) ?_
    refine lv_bipush (v := (-2)) hx hb dX6_frost_47 (by decide) ?_
    refine tm_V (As := [.int (-2)]) (rest := []) ⟨hx, hb, hml, hown, htg⟩ (c_X6_refuse l D E G _ a C hT ((-2) : Int32)) (cwV 1 htg (oh_gV q_296 q_298 q_0 q_66 q_299) rfl rfl rfl pdVX6_refuse ⟨Nat.le_of_ble_eq_true rfl, Nat.le_of_ble_eq_true rfl⟩) hK hP hD hG hS hA (va_recv hK hP (ci := 6) (q0 := 0) rfl (oh_wg (by decide) (sX_0 hT))) rfl hl.1 rfl (Nat.le_of_ble_eq_true rfl) dX6_frost_49 ⟨Nat.le_of_ble_eq_true rfl, Nat.le_of_ble_eq_true rfl⟩ (fun r_4 C_5 H locs hq_6 hP hD hS => ?_)
    obtain ⟨hT, f_7, hq_6⟩ := hq_6
    have hF := fr_tr hF f_7 (by decide) (by decide)
    refine W.widen (k := 0) (n := 0) (Nat.le_refl _) (Nat.le_refl _) ?_
    have t_8 := hT
    refine lv_i2l (v := Int32.toInt64 r_4) hx hb dX6_frost_52 (by rfl) ?_
    rw [hQ]
    exact W.lret (v := Int32.toInt64 r_4) hx hb hr (fun t ht hW => ⟨⟨Int32.toInt64 r_4, C_5, rfl, ⟨hT, hF, (congrArg ga (f_7.1 15 rfl (by decide)))⟩, ⟨by rw [ht]; exact hP, hD⟩⟩, hS.F ht⟩) hS.2.2 dX6_frost_53
  · have u_9 := hq_2.2 c_3
    refine lv_iload hx hb dX6_frost_12 (lv_at hl 5 rfl) ?_
    refine lv_iconst (v := 0) hx hb dX6_frost_14 (by decide) ?_
    refine lv_bipush (v := 6) hx hb dX6_frost_15 (by decide) ?_
    refine tq_S (As := [.int x5, .int 0, .int 6]) (rest := []) (ws := []) ⟨hx, hb, hml, hown, htg⟩ (c_X6_within l D E G x5 (0 : Int32) (6 : Int32)) (va_cwS 3 htg (oh_gS q_293 q_294 q_66 q_295) rfl rfl rfl pdX6_within ⟨Nat.le_of_ble_eq_true rfl, Nat.le_of_ble_eq_true rfl⟩) hK va_nil hG hS rfl hl.1 rfl (Nat.le_of_ble_eq_true rfl) dX6_frost_17 ⟨Nat.le_of_ble_eq_true rfl, Nat.le_of_ble_eq_true rfl⟩ (fun r_10 hq_11 => ?_)
    refine lv_if_eq (tgt := 46) hx hb dX6_frost_20 (by decide) (fun (c_12 : r_10 = 0) => ?_) (fun (c_12 : ¬ (r_10 = 0)) => ?_)
    · have u_13 := hq_11.2.2 c_12
      refine lv_aload_n hx hb dX6_frost_46 rfl (lv_at hl 0 rfl) ?_
      refine lv_bipush (v := (-2)) hx hb dX6_frost_47 (by decide) ?_
      refine tm_V (As := [.int (-2)]) (rest := []) ⟨hx, hb, hml, hown, htg⟩ (c_X6_refuse l D E G _ a C hT ((-2) : Int32)) (cwV 1 htg (oh_gV q_296 q_298 q_0 q_66 q_299) rfl rfl rfl pdVX6_refuse ⟨Nat.le_of_ble_eq_true rfl, Nat.le_of_ble_eq_true rfl⟩) hK hP hD hG hS hA (va_recv hK hP (ci := 6) (q0 := 0) rfl (oh_wg (by decide) (sX_0 hT))) rfl hl.1 rfl (Nat.le_of_ble_eq_true rfl) dX6_frost_49 ⟨Nat.le_of_ble_eq_true rfl, Nat.le_of_ble_eq_true rfl⟩ (fun r_14 C_15 H locs hq_16 hP hD hS => ?_)
      obtain ⟨hT, f_17, hq_16⟩ := hq_16
      have hF := fr_tr hF f_17 (by decide) (by decide)
      refine W.widen (k := 0) (n := 0) (Nat.le_refl _) (Nat.le_refl _) ?_
      have t_18 := hT
      refine lv_i2l (v := Int32.toInt64 r_14) hx hb dX6_frost_52 (by rfl) ?_
      rw [hQ]
      exact W.lret (v := Int32.toInt64 r_14) hx hb hr (fun t ht hW => ⟨⟨Int32.toInt64 r_14, C_15, rfl, ⟨hT, hF, (congrArg ga (f_17.1 15 rfl (by decide)))⟩, ⟨by rw [ht]; exact hP, hD⟩⟩, hS.F ht⟩) hS.2.2 dX6_frost_53
    · have u_19 := hq_11.2.1 c_12
      refine lv_iload hx hb dX6_frost_23 (lv_at hl 6 rfl) ?_
      refine lv_iconst (v := 0) hx hb dX6_frost_25 (by decide) ?_
      refine lv_bipush (v := 10) hx hb dX6_frost_26 (by decide) ?_
      refine tq_S (As := [.int x6, .int 0, .int 10]) (rest := []) (ws := []) ⟨hx, hb, hml, hown, htg⟩ (c_X6_within l D E G x6 (0 : Int32) (10 : Int32)) (va_cwS 3 htg (oh_gS q_293 q_294 q_66 q_295) rfl rfl rfl pdX6_within ⟨Nat.le_of_ble_eq_true rfl, Nat.le_of_ble_eq_true rfl⟩) hK va_nil hG hS rfl hl.1 rfl (Nat.le_of_ble_eq_true rfl) dX6_frost_28 ⟨Nat.le_of_ble_eq_true rfl, Nat.le_of_ble_eq_true rfl⟩ (fun r_20 hq_21 => ?_)
      refine lv_if_eq (tgt := 46) hx hb dX6_frost_31 (by decide) (fun (c_22 : r_20 = 0) => ?_) (fun (c_22 : ¬ (r_20 = 0)) => ?_)
      · have u_23 := hq_21.2.2 c_22
        refine lv_aload_n hx hb dX6_frost_46 rfl (lv_at hl 0 rfl) ?_
        refine lv_bipush (v := (-2)) hx hb dX6_frost_47 (by decide) ?_
        refine tm_V (As := [.int (-2)]) (rest := []) ⟨hx, hb, hml, hown, htg⟩ (c_X6_refuse l D E G _ a C hT ((-2) : Int32)) (cwV 1 htg (oh_gV q_296 q_298 q_0 q_66 q_299) rfl rfl rfl pdVX6_refuse ⟨Nat.le_of_ble_eq_true rfl, Nat.le_of_ble_eq_true rfl⟩) hK hP hD hG hS hA (va_recv hK hP (ci := 6) (q0 := 0) rfl (oh_wg (by decide) (sX_0 hT))) rfl hl.1 rfl (Nat.le_of_ble_eq_true rfl) dX6_frost_49 ⟨Nat.le_of_ble_eq_true rfl, Nat.le_of_ble_eq_true rfl⟩ (fun r_24 C_25 H locs hq_26 hP hD hS => ?_)
        obtain ⟨hT, f_27, hq_26⟩ := hq_26
        have hF := fr_tr hF f_27 (by decide) (by decide)
        refine W.widen (k := 0) (n := 0) (Nat.le_refl _) (Nat.le_refl _) ?_
        have t_28 := hT
        refine lv_i2l (v := Int32.toInt64 r_24) hx hb dX6_frost_52 (by rfl) ?_
        rw [hQ]
        exact W.lret (v := Int32.toInt64 r_24) hx hb hr (fun t ht hW => ⟨⟨Int32.toInt64 r_24, C_25, rfl, ⟨hT, hF, (congrArg ga (f_27.1 15 rfl (by decide)))⟩, ⟨by rw [ht]; exact hP, hD⟩⟩, hS.F ht⟩) hS.2.2 dX6_frost_53
      · have u_29 := hq_21.2.1 c_22
        refine lv_iload hx hb dX6_frost_34 (lv_at hl 7 rfl) ?_
        refine lv_iconst (v := 0) hx hb dX6_frost_36 (by decide) ?_
        refine lv_sipush (v := 999) hx hb dX6_frost_37 (by decide) ?_
        refine tq_S (As := [.int x7, .int 0, .int 999]) (rest := []) (ws := []) ⟨hx, hb, hml, hown, htg⟩ (c_X6_within l D E G x7 (0 : Int32) (999 : Int32)) (va_cwS 3 htg (oh_gS q_293 q_294 q_66 q_295) rfl rfl rfl pdX6_within ⟨Nat.le_of_ble_eq_true rfl, Nat.le_of_ble_eq_true rfl⟩) hK va_nil hG hS rfl hl.1 rfl (Nat.le_of_ble_eq_true rfl) dX6_frost_40 ⟨Nat.le_of_ble_eq_true rfl, Nat.le_of_ble_eq_true rfl⟩ (fun r_30 hq_31 => ?_)
        refine lv_if_ne (tgt := 54) hx hb dX6_frost_43 (by decide) (fun (c_32 : ¬ (r_30 = 0)) => ?_) (fun (c_32 : r_30 = 0) => ?_)
        · have u_33 := hq_31.2.1 c_32
          refine lv_aload_n hx hb dX6_frost_54 rfl (lv_at hl 0 rfl) ?_
          refine va_get (D := D) (ci := 6) (v := .ref (a 1)) (C := RX6) (T := TX6) (N := 9) hx hb htg ig_6 hown hK hP 0 (oh_wg (by decide) (sX_0 hT)) rfl 0 (by decide) (htg _ q_258) (fun _ h9 => h9) rfl dX6_frost_55 ?_
          refine va_get (D := D) (ci := 0) (v := .ref (a 15)) (C := RX0) (T := TX0) (N := 8) hx hb htg ig_0 hown hK hP 1 (oh_wg (by decide) (sX_1 hT)) rfl 5 (by decide) (htg _ q_110) (fun _ h9 => h9) rfl dX6_frost_58 ?_
          refine lv_iconst (v := 2) hx hb dX6_frost_61 (by decide) ?_
          refine th_iald hx hb hK hP 15 (by decide) (sX_15 hT) (rg_in (rg_c (v := 2) (lo := 2) (hi := 2) (by decide)) (by decide)) dX6_frost_62 ?_
          refine lv_istore (lv' := [(8, .int (ga (C 15) ((2 : Int32)).toNatClampNeg)), (0, .ref (a 0)), (1, .int x1), (2, .int x2), (3, .int x3), (4, .int x4), (5, .int x5), (6, .int x6), (7, .int x7)]) hx hb dX6_frost_63 hl (by decide) rfl (fun ls hl => ?_)
          refine lv_aload_n hx hb dX6_frost_65 rfl (lv_at hl 1 rfl) ?_
          refine va_get (D := D) (ci := 6) (v := .ref (a 1)) (C := RX6) (T := TX6) (N := 9) hx hb htg ig_6 hown hK hP 0 (oh_wg (by decide) (sX_0 hT)) rfl 0 (by decide) (htg _ q_258) (fun _ h9 => h9) rfl dX6_frost_66 ?_
          refine va_get (D := D) (ci := 0) (v := .ref (a 15)) (C := RX0) (T := TX0) (N := 8) hx hb htg ig_0 hown hK hP 1 (oh_wg (by decide) (sX_1 hT)) rfl 5 (by decide) (htg _ q_110) (fun _ h9 => h9) rfl dX6_frost_69 ?_
          refine lv_iconst (v := 2) hx hb dX6_frost_72 (by decide) ?_
          refine lv_iconst (v := 0) hx hb dX6_frost_73 (by decide) ?_
          refine th_iast (T := TyX a E) (Rl := fr [(7, 8), (9, 10), (15, 16), (24, 28)] [] C) hx hb hK hP hD hS 15 (by decide) (sX_15 hT) (rg_in (rg_c (v := 2) (lo := 2) (hi := 2) (by decide)) (by decide)) (hT.up 15 (tA_upd (tX_15 hT) tA_any)) (fr_st hF (by decide) (by decide)) dX6_frost_74 (fun C_34 H locs e_35 hT hF hP hD hS => ?_)
          have t_36 := hT
          refine lv_aload_n hx hb dX6_frost_75 rfl (lv_at hl 1 rfl) ?_
          refine va_get (D := D) (ci := 6) (v := .ref (a 3)) (C := RX6) (T := TX6) (N := 9) hx hb htg ig_6 hown hK hP 0 (oh_wg (by decide) (sX_0 hT)) rfl 3 (by decide) (htg _ q_261) (fun _ h9 => h9) rfl dX6_frost_76 ?_
          refine lv_iload_n hx hb dX6_frost_79 rfl (lv_at hl 2 rfl) ?_
          refine lv_iload_n hx hb dX6_frost_80 rfl (lv_at hl 3 rfl) ?_
          refine lv_iload_n hx hb dX6_frost_81 rfl (lv_at hl 4 rfl) ?_
          refine lv_iload hx hb dX6_frost_82 (lv_at hl 5 rfl) ?_
          refine lv_iconst (v := 1) hx hb dX6_frost_84 (by decide) ?_
          refine tm_V (As := [.int x1, .int x2, .int x3, .int x4, .int 1]) (rest := []) ⟨hx, hb, hml, hown, htg⟩ (c_X5_leastCoin l D E G _ a C_34 hT x1 x2 x3 x4 (1 : Int32) (rg_w u_9.1 (by decide)) (rg_w u_9.2.1 (by decide)) (rg_w u_9.2.2 (by decide))) (cwV 5 htg (oh_gV q_780 q_781 q_782 q_68 q_783) rfl rfl rfl pdVX5_leastCoin ⟨Nat.le_of_ble_eq_true rfl, Nat.le_of_ble_eq_true rfl⟩) hK hP hD hG hS hA (va_recv hK hP (ci := 5) (q0 := 3) rfl (oh_wg (by decide) (sX_3 hT))) rfl hl.1 rfl (Nat.le_of_ble_eq_true rfl) dX6_frost_85 ⟨Nat.le_of_ble_eq_true rfl, Nat.le_of_ble_eq_true rfl⟩ (fun r_37 C_38 H locs hq_39 hP hD hS => ?_)
          obtain ⟨hT, f_40, hq_39⟩ := hq_39
          have hF := fr_tr hF f_40 (by decide) (by decide)
          refine W.widen (k := 0) (n := 0) (Nat.le_refl _) (Nat.le_refl _) ?_
          have t_41 := hT
          refine lv_istore (lv' := [(9, .int r_37), (8, .int (ga (C 15) ((2 : Int32)).toNatClampNeg)), (0, .ref (a 0)), (1, .int x1), (2, .int x2), (3, .int x3), (4, .int x4), (5, .int x5), (6, .int x6), (7, .int x7)]) hx hb dX6_frost_88 hl (by decide) rfl (fun ls hl => ?_)
          refine lv_aload_n hx hb dX6_frost_90 rfl (lv_at hl 2 rfl) ?_
          refine va_get (D := D) (ci := 6) (v := .ref (a 1)) (C := RX6) (T := TX6) (N := 9) hx hb htg ig_6 hown hK hP 0 (oh_wg (by decide) (sX_0 hT)) rfl 0 (by decide) (htg _ q_258) (fun _ h9 => h9) rfl dX6_frost_91 ?_
          refine va_get (D := D) (ci := 0) (v := .ref (a 15)) (C := RX0) (T := TX0) (N := 8) hx hb htg ig_0 hown hK hP 1 (oh_wg (by decide) (sX_1 hT)) rfl 5 (by decide) (htg _ q_110) (fun _ h9 => h9) rfl dX6_frost_94 ?_
          refine lv_iconst (v := 2) hx hb dX6_frost_97 (by decide) ?_
          refine lv_iconst (v := 1) hx hb dX6_frost_98 (by decide) ?_
          refine th_iast (T := TyX a E) (Rl := fr [(7, 8), (9, 10), (15, 16), (24, 28)] [] C) hx hb hK hP hD hS 15 (by decide) (sX_15 hT) (rg_in (rg_c (v := 2) (lo := 2) (hi := 2) (by decide)) (by decide)) (hT.up 15 (tA_upd (tX_15 hT) tA_any)) (fr_st hF (by decide) (by decide)) dX6_frost_99 (fun C_42 H locs e_43 hT hF hP hD hS => ?_)
          have t_44 := hT
          refine lv_aload_n hx hb dX6_frost_100 rfl (lv_at hl 2 rfl) ?_
          refine va_get (D := D) (ci := 6) (v := .ref (a 3)) (C := RX6) (T := TX6) (N := 9) hx hb htg ig_6 hown hK hP 0 (oh_wg (by decide) (sX_0 hT)) rfl 3 (by decide) (htg _ q_261) (fun _ h9 => h9) rfl dX6_frost_101 ?_
          refine lv_iload_n hx hb dX6_frost_104 rfl (lv_at hl 3 rfl) ?_
          refine lv_iload_n hx hb dX6_frost_105 rfl (lv_at hl 4 rfl) ?_
          refine lv_iload_n hx hb dX6_frost_106 rfl (lv_at hl 5 rfl) ?_
          refine lv_iload hx hb dX6_frost_107 (lv_at hl 6 rfl) ?_
          refine lv_iconst (v := 1) hx hb dX6_frost_109 (by decide) ?_
          refine tm_V (As := [.int x1, .int x2, .int x3, .int x4, .int 1]) (rest := []) ⟨hx, hb, hml, hown, htg⟩ (c_X5_leastCoin l D E G _ a C_42 hT x1 x2 x3 x4 (1 : Int32) (rg_w u_9.1 (by decide)) (rg_w u_9.2.1 (by decide)) (rg_w u_9.2.2 (by decide))) (cwV 5 htg (oh_gV q_780 q_781 q_782 q_68 q_783) rfl rfl rfl pdVX5_leastCoin ⟨Nat.le_of_ble_eq_true rfl, Nat.le_of_ble_eq_true rfl⟩) hK hP hD hG hS hA (va_recv hK hP (ci := 5) (q0 := 3) rfl (oh_wg (by decide) (sX_3 hT))) rfl hl.1 rfl (Nat.le_of_ble_eq_true rfl) dX6_frost_110 ⟨Nat.le_of_ble_eq_true rfl, Nat.le_of_ble_eq_true rfl⟩ (fun r_45 C_46 H locs hq_47 hP hD hS => ?_)
          obtain ⟨hT, f_48, hq_47⟩ := hq_47
          have hF := fr_tr hF f_48 (by decide) (by decide)
          refine W.widen (k := 0) (n := 0) (Nat.le_refl _) (Nat.le_refl _) ?_
          have t_49 := hT
          refine lv_istore (lv' := [(10, .int r_45), (9, .int r_37), (8, .int (ga (C 15) ((2 : Int32)).toNatClampNeg)), (0, .ref (a 0)), (1, .int x1), (2, .int x2), (3, .int x3), (4, .int x4), (5, .int x5), (6, .int x6), (7, .int x7)]) hx hb dX6_frost_113 hl (by decide) rfl (fun ls hl => ?_)
          refine lv_aload_n hx hb dX6_frost_115 rfl (lv_at hl 3 rfl) ?_
          refine va_get (D := D) (ci := 6) (v := .ref (a 1)) (C := RX6) (T := TX6) (N := 9) hx hb htg ig_6 hown hK hP 0 (oh_wg (by decide) (sX_0 hT)) rfl 0 (by decide) (htg _ q_258) (fun _ h9 => h9) rfl dX6_frost_116 ?_
          refine va_get (D := D) (ci := 0) (v := .ref (a 15)) (C := RX0) (T := TX0) (N := 8) hx hb htg ig_0 hown hK hP 1 (oh_wg (by decide) (sX_1 hT)) rfl 5 (by decide) (htg _ q_110) (fun _ h9 => h9) rfl dX6_frost_119 ?_
          refine lv_iconst (v := 2) hx hb dX6_frost_122 (by decide) ?_
          refine lv_iload hx hb dX6_frost_123 (lv_at hl 2 rfl) ?_
          refine th_iast (T := TyX a E) (Rl := fr [(7, 8), (9, 10), (15, 16), (24, 28)] [] C) hx hb hK hP hD hS 15 (by decide) (sX_15 hT) (rg_in (rg_c (v := 2) (lo := 2) (hi := 2) (by decide)) (by decide)) (hT.up 15 (tA_upd (tX_15 hT) tA_any)) (fr_st hF (by decide) (by decide)) dX6_frost_125 (fun C_50 H locs e_51 hT hF hP hD hS => ?_)
          have t_52 := hT
          refine lv_iload hx hb dX6_frost_126 (lv_at hl 1 rfl) ?_
          refine lv_ldc (v := 1000000000) hx hb hown (htg _ q_803) dX6_frost_128 ?_
          refine lv_icmp_ne (tgt := 143) hx hb dX6_frost_130 (by decide) (fun (c_53 : ¬ (r_37 = 1000000000)) => ?_) (fun (c_53 : r_37 = 1000000000) => ?_)
          · refine lv_iload hx hb dX6_frost_143 (lv_at hl 1 rfl) ?_
            refine lv_i2l (v := Int32.toInt64 r_37) hx hb dX6_frost_145 (by rfl) ?_
            refine lv_iload hx hb dX6_frost_146 (lv_at hl 0 rfl) ?_
            refine lv_i2l (v := Int32.toInt64 r_45) hx hb dX6_frost_148 (by rfl) ?_
            refine lv_iload hx hb dX6_frost_149 (lv_at hl 8 rfl) ?_
            refine lv_iload hx hb dX6_frost_151 (lv_at hl 9 rfl) ?_
            refine lv_iload hx hb dX6_frost_153 (lv_at hl 10 rfl) ?_
            refine tq_Sl (As := [.long (Int32.toInt64 r_37), .long (Int32.toInt64 r_45), .int x5, .int x6, .int x7]) (rest := []) (ws := []) ⟨hx, hb, hml, hown, htg⟩ (c_X6_valueOfWaiting l D E G (Int32.toInt64 r_37) (Int32.toInt64 r_45) x5 x6 x7 (rg_w (rn_leu u_19.2 (rn_lel u_19.1 (rg_c (v := 0) (lo := 0) (hi := 0) (by decide)) (rg_any _)) (rg_c (v := 6) (lo := 6) (hi := 6) (by decide))) (by decide))) (va_cwS 5 htg (oh_gS q_897 q_898 q_66 q_899) rfl rfl rfl pdX6_valueOfWaiting ⟨Nat.le_of_ble_eq_true rfl, Nat.le_of_ble_eq_true rfl⟩) hK va_nil hG hS rfl hl.1 rfl (Nat.le_of_ble_eq_true rfl) dX6_frost_155 ⟨Nat.le_of_ble_eq_true rfl, Nat.le_of_ble_eq_true rfl⟩ (fun r_54 hq_55 => ?_)
            rw [hQ]
            exact W.lret (v := r_54) hx hb hr (fun t ht hW => ⟨⟨r_54, C_50, rfl, ⟨hT, hF, (by rw [(st_ga e_51), (f_48.1 15 rfl (by decide)), (st_ga e_43), (f_40.1 15 rfl (by decide)), (st_ga e_35)]; exact upd_b3)⟩, ⟨by rw [ht]; exact hP, hD⟩⟩, hS.F ht⟩) hS.2.2 dX6_frost_158
          · refine lv_aload_n hx hb dX6_frost_133 rfl (lv_at hl 3 rfl) ?_
            refine lv_bipush (v := (-5)) hx hb dX6_frost_134 (by decide) ?_
            refine tm_V (As := [.int (-5)]) (rest := []) ⟨hx, hb, hml, hown, htg⟩ (c_X6_refuse l D E G _ a C_50 hT ((-5) : Int32)) (cwV 1 htg (oh_gV q_296 q_298 q_0 q_66 q_299) rfl rfl rfl pdVX6_refuse ⟨Nat.le_of_ble_eq_true rfl, Nat.le_of_ble_eq_true rfl⟩) hK hP hD hG hS hA (va_recv hK hP (ci := 6) (q0 := 0) rfl (oh_wg (by decide) (sX_0 hT))) rfl hl.1 rfl (Nat.le_of_ble_eq_true rfl) dX6_frost_136 ⟨Nat.le_of_ble_eq_true rfl, Nat.le_of_ble_eq_true rfl⟩ (fun r_56 C_57 H locs hq_58 hP hD hS => ?_)
            obtain ⟨hT, f_59, hq_58⟩ := hq_58
            have hF := fr_tr hF f_59 (by decide) (by decide)
            refine W.widen (k := 0) (n := 0) (Nat.le_refl _) (Nat.le_refl _) ?_
            have t_60 := hT
            refine lv_i2l (v := Int32.toInt64 r_56) hx hb dX6_frost_139 (by rfl) ?_
            refine lv_goto (tgt := 158) hx hb dX6_frost_140 (by decide) ?_
            rw [hQ]
            exact W.lret (v := Int32.toInt64 r_56) hx hb hr (fun t ht hW => ⟨⟨Int32.toInt64 r_56, C_57, rfl, ⟨hT, hF, (by rw [(f_59.1 15 rfl (by decide)), (st_ga e_51), (f_48.1 15 rfl (by decide)), (st_ga e_43), (f_40.1 15 rfl (by decide)), (st_ga e_35)]; exact upd_b3)⟩, ⟨by rw [ht]; exact hP, hD⟩⟩, hS.F ht⟩) hS.2.2 dX6_frost_158
        · have u_61 := hq_31.2.2 c_32
          refine lv_aload_n hx hb dX6_frost_46 rfl (lv_at hl 0 rfl) ?_
          refine lv_bipush (v := (-2)) hx hb dX6_frost_47 (by decide) ?_
          refine tm_V (As := [.int (-2)]) (rest := []) ⟨hx, hb, hml, hown, htg⟩ (c_X6_refuse l D E G _ a C hT ((-2) : Int32)) (cwV 1 htg (oh_gV q_296 q_298 q_0 q_66 q_299) rfl rfl rfl pdVX6_refuse ⟨Nat.le_of_ble_eq_true rfl, Nat.le_of_ble_eq_true rfl⟩) hK hP hD hG hS hA (va_recv hK hP (ci := 6) (q0 := 0) rfl (oh_wg (by decide) (sX_0 hT))) rfl hl.1 rfl (Nat.le_of_ble_eq_true rfl) dX6_frost_49 ⟨Nat.le_of_ble_eq_true rfl, Nat.le_of_ble_eq_true rfl⟩ (fun r_62 C_63 H locs hq_64 hP hD hS => ?_)
          obtain ⟨hT, f_65, hq_64⟩ := hq_64
          have hF := fr_tr hF f_65 (by decide) (by decide)
          refine W.widen (k := 0) (n := 0) (Nat.le_refl _) (Nat.le_refl _) ?_
          have t_66 := hT
          refine lv_i2l (v := Int32.toInt64 r_62) hx hb dX6_frost_52 (by rfl) ?_
          rw [hQ]
          exact W.lret (v := Int32.toInt64 r_62) hx hb hr (fun t ht hW => ⟨⟨Int32.toInt64 r_62, C_63, rfl, ⟨hT, hF, (congrArg ga (f_65.1 15 rfl (by decide)))⟩, ⟨by rw [ht]; exact hP, hD⟩⟩, hS.F ht⟩) hS.2.2 dX6_frost_53
