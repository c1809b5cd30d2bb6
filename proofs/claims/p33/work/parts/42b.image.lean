theorem absM_74 {a : Nat → Nat} {E : Nat → ClassId} {C u : Nat → va_E} {A : LA} (h : absM C A) (hT : TyM a E C) (e : ∀ k, k < 74 → u k = C k) : absM u A := by
  refine absM_eq h (fun s hs => by rw [e 0 (by decide)]) (e 13 (by decide)) (fun s hs i hi => e _ ?_)
  have h1 := (cntM hT s hs).2
  rcases (show s = 0 ∨ s = 1 ∨ s = 2 ∨ s = 3 by omega) with rfl | rfl | rfl | rfl <;> simp only [blk, blkN] at * <;> omega
theorem oh_hdp (w v : va_W) : (List.range w.length).map (fun i => (w ++ v)[i]?) = w.map some := by
  apply List.ext_getElem?
  intro i
  rw [List.getElem?_map, List.getElem?_map]
  by_cases h : i < w.length
  · rw [List.getElem?_range h, List.getElem?_eq_getElem h]
    simp only [Option.map_some]
    rw [List.getElem?_append_left h, List.getElem?_eq_getElem h]
  · rw [List.getElem?_eq_none (by rw [List.length_range]; omega), List.getElem?_eq_none (by omega)]
    rfl
theorem oh_Wlen {n : Nat} {a : Nat → Nat} {C : Nat → va_E} : (oh_W n a C).length = n := by unfold oh_W; rw [List.length_map, List.length_range]
theorem oh_nd1 : ∀ (l : List Nat), l.Nodup → va_nd l = true
  | [], _ => rfl
  | a :: l, h => by
    rw [List.nodup_cons] at h
    simp only [va_nd, Bool.and_eq_true, decide_eq_true_eq]
    exact ⟨h.1, oh_nd1 l h.2⟩
theorem oh_lst {n : Nat} {a : Nat → Nat} {C : Nat → va_E} {x : Nat × va_E} : [n].map (fun i => (oh_W n a C ++ [x])[i]?) = [x].map some := by
  simp [List.getElem?_append_right, oh_Wlen]

set_option maxHeartbeats 4000000 in
set_option maxRecDepth 100000 in
theorem c_X7_image_n (l : Launch) (D : va_G) (E : Nat → ClassId) (G : Nat → Nat) (sz : Nat) (a : Nat → Nat) (C : Nat → va_E) (hT : TyM a E C) (hR : RelM C) (hkn : gv (C 0) 20 = .null) : Met l yX7_image (oh_w yX7_image cX7_image 1 (some .int)) ({ frames := 3, cells := 74, slots := 1116, locals := 65 }) (oh_Pm D E G [.ref (a 0)] (oh_W 74 a C) sz) (va_Qi (fun r (u : (Nat → Nat) × (Nat → va_E)) => (∀ k, k < 74 → u.1 k = a k) ∧ TyM u.1 E u.2 ∧ RelM u.2 ∧ gv (u.2 0) 20 = .ref (u.1 74) ∧ TyM (shf 74 u.1) E (shf 74 u.2) ∧ RelW (shf 74 u.2) ∧ gi (u.2 0) 7 = gi (C 0) 7 ∧ (∀ k, k ≠ 0 → k < 74 → u.2 k = C k) ∧ (∀ i, i ≠ 20 → gv (u.2 0) i = gv (C 0) i) ∧ (∀ A : LA, absM C A → absM (shf 74 u.2) A) ∧ (∀ T : TP, absTM C T → absTM (shf 74 u.2) T) ∧ r = 1) (oh_B D (va_A (oh_W 74 a C) sz) (fun u => oh_W 148 u.1 u.2)) (va_A (oh_W 74 a C) sz)) 74 1116 (va_A (oh_W 74 a C) sz) := by
  refine Met.ofW (cc := cX7_image) (maxL := 1) (ret := (some .int)) (by decide) rfl ?_
  intro p e s m args below meth c s₁ B hml hv
  obtain ⟨rfl, hsz, hP, hK, hD0, hG⟩ := hv
  have hx := B.exec
  have hb := B.bytes
  have hr := B.returns
  have hts := atoms_spec (ws := (oh_w yX7_image cX7_image 1 (some .int))) B.pre
  have htg : ∀ w ∈ oh_t, w.before _ s = true := fun w h => hts w (List.mem_cons_of_mem _ h)
  have hown : s.vm.findClass RX7 = some m.cls := findClass_of_methodNamed B.named
  have hlocks := B.notSynchronized
  subst hsz
  have hD := hD0.self (sz := s.heap.size)
  generalize hAe : va_A (oh_W 74 a C) s.heap.size = A at hD hG ⊢
  have hA : ∀ q : Nat, s.heap.size ≤ q → A q := fun q h => by rw [← hAe]; exact Or.inr h
  have hS : va_S A s.heap s.heap [] := va_S.rf
  have hl := lv_entry ([.ref (a 0)]) (n := 1) (Nat.le_of_ble_eq_true rfl)
  rw [lg_entry_eq]
  generalize (lg_sl ([.ref (a 0)]) ++ List.replicate (1 - (lg_sl ([.ref (a 0)])).length) Slot.unset).toArray = ls at hl ⊢
  have hl : lv_has ls 1 [(0, .ref (a 0))] := hl
  have hTo := hT
  refine lv_aload_n hx hb dX7_image_0 rfl (lv_at hl 0 rfl) ?_
  refine va_get (D := D) (ci := 7) (v := .null) (C := RX7) (T := TX7) (N := 29) hx hb htg ig_7 hown hK hP 0 (oh_wg (by omega) (sM_0 hT)) rfl 20 (by decide) (htg _ q_993) (fun _ h9 => h9) (congrArg some hkn) dX7_image_1 ?_
  refine lv_ifnonnullN hx hb dX7_image_4 ?_
  refine lv_aload_n hx hb dX7_image_7 rfl (lv_at hl 0 rfl) ?_
  refine va_new (ci := 7) (fs := [.null, .null, .null, .null, .null, .null, .null, .int 0, .null, .int 0, .null, .int 0, .null, .int 0, .null, .int 0, .null, .null, .null, .int 0, .null, .int 0, .int 0, .int 0, .long 0, .int 0, .int 0, .null, .int 0]) (C := RX7) (T := TX7) (N := 29) hx hb htg ig_7 tyX7 tyX7_ok hown (htg _ q_1425) (htg _ q_964) (htg _ q_73) hK hP hD hS hA rfl oh_df7 (show 1 ≤ 74 from Nat.le_of_ble_eq_true rfl) (show 29 ≤ 1116 from Nat.le_of_ble_eq_true rfl) dX7_image_8 (fun w0 H hP hD hS => ?_)
  refine W.widen (k := 1) (n := 29) (Nat.le_refl _) (Nat.le_refl _) ?_
  refine lv_dup hx hb dX7_image_11 rfl ?_
  refine oh_mI (As := []) (rest := [.ref w0, .ref (a 0)]) (wr := oh_W 74 a C) (wc := [(w0, .inr (7, [.null, .null, .null, .null, .null, .null, .null, .int 0, .null, .int 0, .null, .int 0, .null, .int 0, .null, .int 0, .null, .null, .null, .int 0, .null, .int 0, .int 0, .int 0, .long 0, .int 0, .int 0, .null, .int 0]))]) ⟨hx, hb, hml, hown, htg⟩ (c_X7_init l D E G H.size w0) (cwI 0 htg (oh_gW q_967) rfl rfl rfl (htg _ q_73) (htg _ q_1426) (htg _ q_966) rfl pdX7_init ⟨Nat.le_of_ble_eq_true rfl, Nat.le_of_ble_eq_true rfl⟩) hK hP hD hG hS hA [74] (List.range (oh_W 74 a C).length) oh_lst (oh_hdp _ _) (by decide) (oh_nd1 _ List.nodup_range) (fun i hi => by rw [oh_Wlen, List.mem_range] at hi; intro h9; rw [List.mem_singleton] at h9; omega) rfl hl.1 rfl (Nat.le_of_ble_eq_true rfl) dX7_image_12 ⟨show 74 ≤ 74 from Nat.le_refl _, show 1116 ≤ 1116 from Nat.le_refl _⟩ (fun u H locs hw hP hD hS => ?_)
  obtain ⟨q7, q15, q23, q33, q43, q51, q60, q68, q78, q90, q100, q110, q119, q140, q148, r33, r78, r90, r100, r110⟩ := u
  refine W.widen (k := 74) (n := 1116) (Nat.le_refl _) (Nat.le_refl _) ?_
  have hP := lw_m1 (P := fun w => va_P D vwCl w H) (w := oh_W 74 a C) (E := E) (x := (fun i => ([w0, q7, q15, q23, q33, q43, q51, q60, q68, q78, q90, q100, q110, q119, q140, q148] : List Nat).getD i 0)) (r1 := r33) (r2 := r78) (r3 := r90) (r4 := r100) (r5 := r110) hP
  have hD := lw_m1 (P := fun w => va_D A w) (w := oh_W 74 a C) (E := E) (x := (fun i => ([w0, q7, q15, q23, q33, q43, q51, q60, q68, q78, q90, q100, q110, q119, q140, q148] : List Nat).getD i 0)) (r1 := r33) (r2 := r78) (r3 := r90) (r4 := r100) (r5 := r110) hD
  obtain ⟨b0, eb⟩ : ∃ z, z = (bm0 (fun i => ([w0, q7, q15, q23, q33, q43, q51, q60, q68, q78, q90, q100, q110, q119, q140, q148] : List Nat).getD i 0) r33 r78 r90 r100 r110) := ⟨_, rfl⟩
  have ew : w0 = b0 0 := by rw [eb]; rfl
  rw [← eb, oh_Wcat] at hP hD
  obtain ⟨a2, ea⟩ : ∃ z, z = catf 74 a b0 := ⟨_, rfl⟩
  obtain ⟨C2, eC⟩ : ∃ z, z = catf 74 C (cm0 E b0) := ⟨_, rfl⟩
  rw [← ea, ← eC] at hP hD
  have ha2 : ∀ k, k < 74 → a2 k = a k := fun k hk => by rw [ea]; exact catf_l hk
  have hC2 : ∀ k, k < 74 → C2 k = C k := fun k hk => by rw [eC]; exact catf_l hk
  have hT2 : TyM a2 E C2 := (hT.congr hC2).congr2 ha2
  have hTk2 : TyM (shf 74 a2) E (shf 74 C2) := by rw [ea, eC, shf_cat, shf_cat]; exact TyM0 E b0
  have hw2 : w0 = a2 74 := by rw [ew, ea]; exact (catf_r (k := 0)).symm
  refine W.eq (g2 := F0 m 15 ls [.ref (a2 74), .ref (a2 0)]) (by rw [← hw2, ha2 0 (by decide)]) ?_
  rw [← ha2 0 (by decide)] at hl
  refine th_put (Tp := TyM a2 E) (Rl := fr [] [20] C2) (ci := 7) (v := .ref (a2 74)) (ty := (.object "OneHeavyLoadModel")) (CC := RX7) (T := TX7) (N := 29) hx hb htg ig_7 tyX7 tyX7_ok nmX7 hown hK hP hD hS 0 (by decide) (sM_0 hT2) rfl 20 (by decide) (htg _ q_993) (fun _ h9 => h9) rfl (by decide +kernel) rfl rfl (Nat.le_of_ble_eq_true rfl) (hT2.up 0 (by decide) ⟨rfl, (fM_0_7 hT2), (fM_0_9 hT2), (fM_0_11 hT2), (fM_0_13 hT2), (fM_0_15 hT2), (fM_0_21 hT2), (fM_0_23 hT2)⟩) (fr_fd fr_rf (sM_0 hT2) (by decide)) dX7_image_15 (fun C3 H locs e3 hT3 hF3 hP hD hS => ?_)
  have hkr : gv (C3 0) 20 = .ref (a2 74) := by rw [e3]; rfl
  have hTk : TyM (shf 74 a2) E (shf 74 C3) := hTk2.congr (fun k hk => show C3 (74 + k) = C2 (74 + k) from th_un e3 (by omega))
  have hR0 := hR
  have hR : RelM C3 := ⟨(relM_congr hR0 hC2).1.fr hF3 (by decide), (relM_congr hR0 hC2).2.fr hF3 (by decide)⟩
  have hn2 : 148 ≤ 148 := Nat.le_refl _
  have hT0 := hT
  have hT := hT3
  refine lv_aload_n hx hb dX7_image_18 rfl (lv_at hl 0 rfl) ?_
  refine va_get (D := D) (ci := 7) (v := .ref (a2 (74 + 0))) (C := RX7) (T := TX7) (N := 29) hx hb htg ig_7 hown hK hP 0 (oh_wg (by omega) (sM_0 hT)) rfl 20 (by decide) (htg _ q_993) (fun _ h9 => h9) (congrArg some hkr) dX7_image_19 ?_
  refine lv_aload_n hx hb dX7_image_22 rfl (lv_at hl 0 rfl) ?_
  have hT1s : TyM (shf 0 a2) E (shf 0 C3) := by rw [shf_0, shf_0]; exact hT
  refine tm_Vv (b := a2 (74 + 0)) (As := [.ref (a2 (0 + 0))]) (rest := []) ⟨hx, hb, hml, hown, htg⟩ (c_X7_takeFrom l D E G _ 148 a2 C3 74 0 (Or.inr ⟨rfl, rfl⟩) hn2 hTk hT1s) (cwV 1 htg (oh_gV q_1427 q_1429 q_64 q_73 q_1430) rfl rfl rfl pdVX7_takeFrom ⟨Nat.le_of_ble_eq_true rfl, Nat.le_of_ble_eq_true rfl⟩) hK hP hD hG hS hA (va_recv hK hP (ci := 7) (q0 := 74 + 0) rfl (oh_wg (by omega) (show C3 (74 + 0) = _ from sM_0 hTk))) rfl hl.1 rfl (Nat.le_of_ble_eq_true rfl) dX7_image_23 ⟨show 74 ≤ 74 from Nat.le_refl _, show 1116 ≤ 1116 from Nat.le_refl _⟩ (fun u H locs hq hP hD hS => ?_)
  obtain ⟨k1, k2, k3, k4, k5, k6, k7, k8, k9⟩ := hq
  have k9b : ∀ A : LA, absM C3 A → absM (shf 74 u) A := fun A hA => k9.1 A (by rw [shf_0]; exact hA)
  have k9t : ∀ T : TP, absTM C3 T → absTM (shf 74 u) T := fun T hT => k9.2 T (by rw [shf_0]; exact hT)
  have hcc : ∀ k, k < 74 → u k = C3 k := fun k hk => by have := k2 k hk; rw [Nat.zero_add] at this; exact this
  have hRw : RelW (shf 74 u) := relW_cp hR.1 k5 (fun w hw q hq => by have := k6 w hw q hq; rw [Nat.zero_add] at this; exact this) (fun q hq => by have := k7 q hq; rw [Nat.zero_add] at this; exact this)
  refine W.widen (k := 74) (n := 1116) (Nat.le_refl _) (Nat.le_refl _) ?_
  refine lv_iconst (v := 1) hx hb dX7_image_26 (by decide) ?_
  have hcA : ∀ k, k ≠ 0 → k < 74 → u k = C k := fun k h0 hk => by rw [hcc k hk, hF3.1 k rfl h0]; exact hC2 k hk
  have hcF : ∀ i, i ≠ 20 → gv (u 0) i = gv (C 0) i := fun i hi => by rw [hcc 0 (by decide), hF3.2 i (by simpa using hi)]; exact congrArg (fun z => gv z i) (hC2 0 (by decide))
  have hcK : ∀ A : LA, absM C A → absM (shf 74 u) A := fun A hA => k9b A (absM_fr (absM_74 hA hTo hC2) hT2 hF3 (by decide) (by decide) (by decide))
  have hcT : ∀ T : TP, absTM C T → absTM (shf 74 u) T := fun T hT => k9t T (absTM_eq (absTM_eq hT (hC2 14 (by decide)) (congrArg (fun z => gi z 19) (hC2 0 (by decide)))) (hF3.1 14 rfl (by decide)) (congrArg vi (hF3.2 19 (by decide))))
  have h7 : gi (u 0) 7 = gi (C 0) 7 := by rw [hcc 0 (by decide)]; exact Eq.trans (congrArg vi (hF3.2 7 (by decide))) (congrArg (fun z => gi z 7) (hC2 0 (by decide)))
  have hk2 : gv (u 0) 20 = .ref (a2 74) := by rw [hcc 0 (by decide)]; exact hkr
  exact W.iret (v := 1) hx hb hr (fun t ht hW => ⟨⟨1, (a2, u), rfl, ⟨ha2, hT.congr hcc, relM_congr hR hcc, hk2, k1, hRw, h7, hcA, hcF, hcK, hcT, rfl⟩, ⟨by rw [ht]; exact hP, hD⟩⟩, hS.F ht⟩) hS.2.2 dX7_image_27
