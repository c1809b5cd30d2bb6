theorem lc_v {A : LA} (h : okA A) {w s f t n : Int32} (h0 : rg w 0 4) (hl : w < A 5 0 2) (hn : rg n 0 20) (hf : rg f 0 15) (ht : rg t 0 15) (q : hasW (EcA A w s n) f.toNatClampNeg t.toNatClampNeg) : rg (Int32.ofNat (lsN (EcA A w s n) f.toNatClampNeg t.toNatClampNeg) + n * sumA A s 1 (A 5 0 3).toNatClampNeg) 0 900009900 := by
  have h1 := ec_fin h s h0 hl hn (p16 hf) _ _ (p16 ht) (lsN_s q)
  have h2 : rg (Int32.ofNat (lsN (EcA A w s n) f.toNatClampNeg t.toNatClampNeg)) 0 900000000 := by
    have e : (Int32.ofNat (lsN (EcA A w s n) f.toNatClampNeg t.toNatClampNeg)).toInt = ((lsN (EcA A w s n) f.toNatClampNeg t.toNatClampNeg : Nat) : Int) := nI_toInt (by omega)
    exact ⟨by rw [e]; omega, by rw [e]; omega⟩
  exact rg_add h2 (rg_mul2 hn (sumA_r h s (col := 1) (by decide)) (hi := 9900) (by decide)) (by decide)
theorem lc_st {A : LA} (h : okA A) {w s f t n r : Int32} (h0 : rg w 0 4) (hl : w < A 5 0 2) (hn : rg n 0 20) (hf : rg f 0 15) (ht : rg t 0 15) (e : r = lcA A w s f t n) : pif (r = 1000000000) (-5) r = pif (hasW (EcA A w s n) f.toNatClampNeg t.toNatClampNeg) (Int32.ofNat (lsN (EcA A w s n) f.toNatClampNeg t.toNatClampNeg) + n * sumA A s 1 (A 5 0 3).toNatClampNeg) (-5) := by
  by_cases q : hasW (EcA A w s n) f.toNatClampNeg t.toNatClampNeg
  · have v := lc_v h h0 hl hn hf ht q
    rw [pif_pos q, e, show lcA A w s f t n = _ from pif_pos q]
    refine pif_neg (fun z => ?_)
    rw [z] at v
    exact absurd v.2 (by decide)
  · rw [pif_neg q, e, show lcA A w s f t n = _ from pif_neg q]
    exact pif_pos rfl
theorem mc_st {A : LA} (h : okA A) {w s f t n r : Int32} (h0 : rg w 0 4) (hl : w < A 5 0 2) (hn : rg n 0 20) (hf : rg f 0 15) (ht : rg t 0 15) (e : r = mcA A w s f t n) : pif (r = -1) (-5) r = pif (hasW (EcA A w s n) f.toNatClampNeg t.toNatClampNeg) (Int32.ofNat (lsN (EcA A w s n) f.toNatClampNeg t.toNatClampNeg) + n * sumA A s 1 (A 5 0 3).toNatClampNeg) (-5) := by
  by_cases q : hasW (EcA A w s n) f.toNatClampNeg t.toNatClampNeg
  · have v := lc_v h h0 hl hn hf ht q
    rw [pif_pos q, e, show mcA A w s f t n = _ from pif_pos q]
    refine pif_neg (fun z => ?_)
    rw [z] at v
    exact absurd v.1 (by decide)
  · rw [pif_neg q, e, show mcA A w s f t n = _ from pif_neg q]
    exact pif_pos rfl
theorem ld_st {A : LA} (h : okA A) {w s f t r : Int32} (hf : rg f 0 15) (ht : rg t 0 15) (e : r = ldA A w s f t) : pif (r = 1000000000) (-5) r = pif (hasW (EdyA A w s) f.toNatClampNeg t.toNatClampNeg) (Int32.ofNat (lsN (EdyA A w s) f.toNatClampNeg t.toNatClampNeg)) (-5) := by
  by_cases q : hasW (EdyA A w s) f.toNatClampNeg t.toNatClampNeg
  · have h1 := ed_fin h w s (p16 hf) _ _ (p16 ht) (lsN_s q)
    rw [pif_pos q, e, show ldA A w s f t = _ from pif_pos q]
    refine pif_neg (fun z => ?_)
    have z2 := congrArg Int32.toInt z
    rw [show (Int32.ofNat (lsN (EdyA A w s) f.toNatClampNeg t.toNatClampNeg)).toInt = ((lsN (EdyA A w s) f.toNatClampNeg t.toNatClampNeg : Nat) : Int) from nI_toInt (by omega), show (1000000000 : Int32).toInt = 1000000000 from rfl] at z2
    omega
  · rw [pif_neg q, e, show ldA A w s f t = _ from pif_neg q]
    exact pif_pos rfl

set_option maxHeartbeats 4000000 in
set_option maxRecDepth 100000 in
theorem e_X6_goes (l : Launch) (D : va_G) (E : Nat → ClassId) (G : Nat → Nat) (sz : Nat) (a : Nat → Nat) (C : Nat → va_E) (hT : TyX a E C) (x1 : Int32) (x2 : Int32) (x3 : Int32) (x4 : Int32) : Met l yX6_goes (oh_w yX6_goes cX6_goes 5 (some .int)) ({ frames := 4, cells := 0, slots := 0, locals := 100 }) (oh_Pm D E G [.ref (a 0), .int x1, .int x2, .int x3, .int x4] (oh_W 35 a C) sz) (va_Qi (fun r (u : Nat → va_E) => TyX a E u ∧ fr [(7, 8), (9, 10), (24, 26)] [] C u ∧ (∀ A : LA, absX 10 C A → okA A → r = spGoes A x1 x2 x3 x4)) (oh_B D (va_A (oh_W 35 a C) sz) (fun u => oh_W 35 a u)) (va_A (oh_W 35 a C) sz)) 0 0 (va_A (oh_W 35 a C) sz) := by
  refine Met.ofW (cc := cX6_goes) (maxL := 5) (ret := (some .int)) (by decide) rfl ?_
  intro p e s m args below meth c s₁ B hml hv
  obtain ⟨rfl, hsz, hP, hK, hD0, hG⟩ := hv
  have hx := B.exec
  have hb := B.bytes
  have hr := B.returns
  have hts := atoms_spec (ws := (oh_w yX6_goes cX6_goes 5 (some .int))) B.pre
  have htg : ∀ w ∈ oh_t, w.before _ s = true := fun w h => hts w (List.mem_cons_of_mem _ h)
  have hown : s.vm.findClass RX6 = some m.cls := findClass_of_methodNamed B.named
  have hlocks := B.notSynchronized
  have hT0 := hT
  subst hsz
  have hD := hD0.self (sz := s.heap.size)
  generalize hAe : va_A (oh_W 35 a C) s.heap.size = A at hD hG ⊢
  have hA : ∀ q : Nat, s.heap.size ≤ q → A q := fun q h => by rw [← hAe]; exact Or.inr h
  have hS : va_S A s.heap s.heap [] := va_S.rf
  have hF : fr [(7, 8), (9, 10), (24, 26)] [] C C := fr_rf
  have hl := lv_entry ([.ref (a 0), .int x1, .int x2, .int x3, .int x4]) (n := 5) (Nat.le_of_ble_eq_true rfl)
  rw [lg_entry_eq]
  generalize (lg_sl ([.ref (a 0), .int x1, .int x2, .int x3, .int x4]) ++ List.replicate (5 - (lg_sl ([.ref (a 0), .int x1, .int x2, .int x3, .int x4])).length) Slot.unset).toArray = ls at hl ⊢
  have hl : lv_has ls 5 [(0, .ref (a 0)), (1, .int x1), (2, .int x2), (3, .int x3), (4, .int x4)] := hl
  refine oh_genQ (fun Q hQ => ?_)
  refine lv_aload_n hx hb dX6_goes_0 rfl (lv_at hl 0 rfl) ?_
  refine lv_iload_n hx hb dX6_goes_1 rfl (lv_at hl 1 rfl) ?_
  refine lv_iload_n hx hb dX6_goes_2 rfl (lv_at hl 2 rfl) ?_
  refine tq_V (As := [.int x1, .int x2]) (rest := []) (ws := (oh_W 35 a C)) ⟨hx, hb, hml, hown, htg⟩ (e_X6_isPack l D E G a C hT x1 x2) (cwV 2 htg (oh_gV q_695 q_697 q_16 q_66 q_698) rfl rfl rfl pdVX6_isPack ⟨Nat.le_of_ble_eq_true rfl, Nat.le_of_ble_eq_true rfl⟩) hK hP hG hS (va_recv hK hP (ci := 6) (q0 := 0) rfl (oh_wg (by decide) (sX_0 hT))) rfl hl.1 rfl (Nat.le_of_ble_eq_true rfl) dX6_goes_3 ⟨Nat.le_of_ble_eq_true rfl, Nat.le_of_ble_eq_true rfl⟩ (fun r_1 hq_2 => ?_)
  refine lv_if_eq (tgt := 27) hx hb dX6_goes_6 (by decide) (fun (c_3 : r_1 = 0) => ?_) (fun (c_3 : ¬ (r_1 = 0)) => ?_)
  · have u_4 := hq_2.2.2 c_3
    refine lv_aload_n hx hb dX6_goes_27 rfl (lv_at hl 0 rfl) ?_
    refine lv_bipush (v := (-2)) hx hb dX6_goes_28 (by decide) ?_
    refine tm_V (As := [.int (-2)]) (rest := []) ⟨hx, hb, hml, hown, htg⟩ (c_X6_refuse l D E G _ a C hT ((-2) : Int32)) (cwV 1 htg (oh_gV q_296 q_298 q_0 q_66 q_299) rfl rfl rfl pdVX6_refuse ⟨Nat.le_of_ble_eq_true rfl, Nat.le_of_ble_eq_true rfl⟩) hK hP hD hG hS hA (va_recv hK hP (ci := 6) (q0 := 0) rfl (oh_wg (by decide) (sX_0 hT))) rfl hl.1 rfl (Nat.le_of_ble_eq_true rfl) dX6_goes_30 ⟨Nat.le_of_ble_eq_true rfl, Nat.le_of_ble_eq_true rfl⟩ (fun r_5 C_6 H locs hq_7 hP hD hS => ?_)
    obtain ⟨hT, f_8, hq_7⟩ := hq_7
    have hF := fr_tr hF f_8 (by decide) (by decide)
    refine W.widen (k := 0) (n := 0) (Nat.le_refl _) (Nat.le_refl _) ?_
    have t_9 := hT
    rw [hQ]
    exact W.iret (v := r_5) hx hb hr (fun t ht hW => ⟨⟨r_5, C_6, rfl, ⟨hT, hF, (fun A hA hok => Eq.trans hq_7 (pif_neg (fun h8 => (show ¬ okPk (A 5 0 2) (A 5 0 3) x1 x2 by rw [← (show ga (C 10) ((2 : Int32)).toNatClampNeg = A 5 0 2 from hA.1 2 (by decide)), ← (show ga (C 10) ((3 : Int32)).toNatClampNeg = A 5 0 3 from hA.1 3 (by decide))]; exact u_4) h8.1)).symm)⟩, ⟨by rw [ht]; exact hP, hD⟩⟩, hS.F ht⟩) hS.2.2 dX6_goes_33
  · have u_10 := hq_2.2.1 c_3
    refine lv_aload_n hx hb dX6_goes_9 rfl (lv_at hl 0 rfl) ?_
    refine lv_iload_n hx hb dX6_goes_10 rfl (lv_at hl 3 rfl) ?_
    refine tq_V (As := [.int x3]) (rest := []) (ws := (oh_W 35 a C)) ⟨hx, hb, hml, hown, htg⟩ (e_X6_isRoad l D E G a C hT x3) (cwV 1 htg (oh_gV q_428 q_430 q_5 q_66 q_431) rfl rfl rfl pdVX6_isRoad ⟨Nat.le_of_ble_eq_true rfl, Nat.le_of_ble_eq_true rfl⟩) hK hP hG hS (va_recv hK hP (ci := 6) (q0 := 0) rfl (oh_wg (by decide) (sX_0 hT))) rfl hl.1 rfl (Nat.le_of_ble_eq_true rfl) dX6_goes_11 ⟨Nat.le_of_ble_eq_true rfl, Nat.le_of_ble_eq_true rfl⟩ (fun r_11 hq_12 => ?_)
    refine lv_if_eq (tgt := 27) hx hb dX6_goes_14 (by decide) (fun (c_13 : r_11 = 0) => ?_) (fun (c_13 : ¬ (r_11 = 0)) => ?_)
    · have u_14 := hq_12.2.2 c_13
      refine lv_aload_n hx hb dX6_goes_27 rfl (lv_at hl 0 rfl) ?_
      refine lv_bipush (v := (-2)) hx hb dX6_goes_28 (by decide) ?_
      refine tm_V (As := [.int (-2)]) (rest := []) ⟨hx, hb, hml, hown, htg⟩ (c_X6_refuse l D E G _ a C hT ((-2) : Int32)) (cwV 1 htg (oh_gV q_296 q_298 q_0 q_66 q_299) rfl rfl rfl pdVX6_refuse ⟨Nat.le_of_ble_eq_true rfl, Nat.le_of_ble_eq_true rfl⟩) hK hP hD hG hS hA (va_recv hK hP (ci := 6) (q0 := 0) rfl (oh_wg (by decide) (sX_0 hT))) rfl hl.1 rfl (Nat.le_of_ble_eq_true rfl) dX6_goes_30 ⟨Nat.le_of_ble_eq_true rfl, Nat.le_of_ble_eq_true rfl⟩ (fun r_15 C_16 H locs hq_17 hP hD hS => ?_)
      obtain ⟨hT, f_18, hq_17⟩ := hq_17
      have hF := fr_tr hF f_18 (by decide) (by decide)
      refine W.widen (k := 0) (n := 0) (Nat.le_refl _) (Nat.le_refl _) ?_
      have t_19 := hT
      rw [hQ]
      exact W.iret (v := r_15) hx hb hr (fun t ht hW => ⟨⟨r_15, C_16, rfl, ⟨hT, hF, (fun A hA hok => Eq.trans hq_17 (pif_neg (fun h8 => by have h7 := h8.2.1; rw [← (show ga (C 10) ((0 : Int32)).toNatClampNeg = A 5 0 0 from hA.1 0 (by decide))] at h7; exact u_14 h7)).symm)⟩, ⟨by rw [ht]; exact hP, hD⟩⟩, hS.F ht⟩) hS.2.2 dX6_goes_33
    · have u_20 := hq_12.2.1 c_13
      refine lv_iload hx hb dX6_goes_17 (lv_at hl 4 rfl) ?_
      refine lv_iconst (v := 0) hx hb dX6_goes_19 (by decide) ?_
      refine lv_iconst (v := 4) hx hb dX6_goes_20 (by decide) ?_
      refine tq_S (As := [.int x4, .int 0, .int 4]) (rest := []) (ws := []) ⟨hx, hb, hml, hown, htg⟩ (c_X6_within l D E G x4 (0 : Int32) (4 : Int32)) (va_cwS 3 htg (oh_gS q_293 q_294 q_66 q_295) rfl rfl rfl pdX6_within ⟨Nat.le_of_ble_eq_true rfl, Nat.le_of_ble_eq_true rfl⟩) hK va_nil hG hS rfl hl.1 rfl (Nat.le_of_ble_eq_true rfl) dX6_goes_21 ⟨Nat.le_of_ble_eq_true rfl, Nat.le_of_ble_eq_true rfl⟩ (fun r_21 hq_22 => ?_)
      refine lv_if_ne (tgt := 34) hx hb dX6_goes_24 (by decide) (fun (c_23 : ¬ (r_21 = 0)) => ?_) (fun (c_23 : r_21 = 0) => ?_)
      · have u_24 := hq_22.2.1 c_23
        refine lv_aload_n hx hb dX6_goes_34 rfl (lv_at hl 0 rfl) ?_
        refine va_get (D := D) (ci := 6) (v := .ref (a 3)) (C := RX6) (T := TX6) (N := 9) hx hb htg ig_6 hown hK hP 0 (oh_wg (by decide) (sX_0 hT)) rfl 3 (by decide) (htg _ q_261) (fun _ h9 => h9) rfl dX6_goes_35 ?_
        refine lv_iload_n hx hb dX6_goes_38 rfl (lv_at hl 1 rfl) ?_
        refine lv_iload_n hx hb dX6_goes_39 rfl (lv_at hl 2 rfl) ?_
        refine tm_Vv (As := [.int x1, .int x2]) (rest := []) ⟨hx, hb, hml, hown, htg⟩ (e_X5_survey l D E G _ a C hT x1 x2 (rg_w u_10.1 (by decide))) (cwV 2 htg (oh_gV q_750 q_751 q_752 q_68 q_753) rfl rfl rfl pdVX5_survey ⟨Nat.le_of_ble_eq_true rfl, Nat.le_of_ble_eq_true rfl⟩) hK hP hD hG hS hA (va_recv hK hP (ci := 5) (q0 := 3) rfl (oh_wg (by decide) (sX_3 hT))) rfl hl.1 rfl (Nat.le_of_ble_eq_true rfl) dX6_goes_40 ⟨Nat.le_of_ble_eq_true rfl, Nat.le_of_ble_eq_true rfl⟩ (fun C_26 H locs hq_27 hP hD hS => ?_)
        obtain ⟨hT, f_28, hq_27⟩ := hq_27
        have hF := fr_tr hF f_28 (by decide) (by decide)
        refine W.widen (k := 0) (n := 0) (Nat.le_refl _) (Nat.le_refl _) ?_
        have t_29 := hT
        refine lv_iload hx hb dX6_goes_43 (lv_at hl 4 rfl) ?_
        refine lv_if_ne (tgt := 67) hx hb dX6_goes_45 (by decide) (fun (c_30 : ¬ (x4 = 0)) => ?_) (fun (c_30 : x4 = 0) => ?_)
        · refine lv_iload hx hb dX6_goes_67 (lv_at hl 4 rfl) ?_
          refine lv_iconst (v := 3) hx hb dX6_goes_69 (by decide) ?_
          refine lv_icmp_ne (tgt := 82) hx hb dX6_goes_70 (by decide) (fun (c_31 : ¬ (x4 = 3)) => ?_) (fun (c_31 : x4 = 3) => ?_)
          · refine lv_aload_n hx hb dX6_goes_82 rfl (lv_at hl 0 rfl) ?_
            refine va_get (D := D) (ci := 6) (v := .ref (a 3)) (C := RX6) (T := TX6) (N := 9) hx hb htg ig_6 hown hK hP 0 (oh_wg (by decide) (sX_0 hT)) rfl 3 (by decide) (htg _ q_261) (fun _ h9 => h9) rfl dX6_goes_83 ?_
            refine va_get (D := D) (ci := 5) (v := .ref (a 24)) (C := RX5) (T := TX5) (N := 7) hx hb htg ig_5 hown hK hP 3 (oh_wg (by decide) (sX_3 hT)) rfl 2 (by decide) (htg _ q_171) (fun _ h9 => h9) rfl dX6_goes_86 ?_
            refine lv_iload_n hx hb dX6_goes_89 rfl (lv_at hl 3 rfl) ?_
            have n_32 : vp_in x3 24 := (rg_in u_20.1 (by decide))
            refine th_iald hx hb hK hP 24 (by decide) (sX_24 hT) n_32 dX6_goes_90 ?_
            refine lv_iconst (v := (-1)) hx hb dX6_goes_91 (by decide) ?_
            refine lv_icmp_ne (tgt := 102) hx hb dX6_goes_92 (by decide) (fun (c_33 : ¬ ((ga (C_26 24) (x3).toNatClampNeg) = (-1))) => ?_) (fun (c_33 : (ga (C_26 24) (x3).toNatClampNeg) = (-1)) => ?_)
            · refine lv_iload hx hb dX6_goes_102 (lv_at hl 4 rfl) ?_
              refine lv_iconst (v := 1) hx hb dX6_goes_104 (by decide) ?_
              refine lv_icmp_ne (tgt := 118) hx hb dX6_goes_105 (by decide) (fun (c_34 : ¬ (x4 = 1)) => ?_) (fun (c_34 : x4 = 1) => ?_)
              · refine lv_iload hx hb dX6_goes_118 (lv_at hl 4 rfl) ?_
                refine lv_iconst (v := 2) hx hb dX6_goes_120 (by decide) ?_
                refine lv_icmp_ne (tgt := 135) hx hb dX6_goes_121 (by decide) (fun (c_35 : ¬ (x4 = 2)) => ?_) (fun (c_35 : x4 = 2) => ?_)
                · refine lv_aload_n hx hb dX6_goes_135 rfl (lv_at hl 0 rfl) ?_
                  refine va_get (D := D) (ci := 6) (v := .ref (a 3)) (C := RX6) (T := TX6) (N := 9) hx hb htg ig_6 hown hK hP 0 (oh_wg (by decide) (sX_0 hT)) rfl 3 (by decide) (htg _ q_261) (fun _ h9 => h9) rfl dX6_goes_136 ?_
                  refine va_get (D := D) (ci := 5) (v := .ref (a 24)) (C := RX5) (T := TX5) (N := 7) hx hb htg ig_5 hown hK hP 3 (oh_wg (by decide) (sX_3 hT)) rfl 2 (by decide) (htg _ q_171) (fun _ h9 => h9) rfl dX6_goes_139 ?_
                  refine lv_iload_n hx hb dX6_goes_142 rfl (lv_at hl 3 rfl) ?_
                  have n_36 : vp_in x3 24 := (rg_in u_20.1 (by decide))
                  refine th_iald hx hb hK hP 24 (by decide) (sX_24 hT) n_36 dX6_goes_143 ?_
                  rw [hQ]
                  exact W.iret (v := ga (C_26 24) (x3).toNatClampNeg) hx hb hr (fun t ht hW => ⟨⟨ga (C_26 24) (x3).toNatClampNeg, C_26, rfl, ⟨hT, hF, (fun A hA hok => by have hp := (show okPk (A 5 0 2) (A 5 0 3) x1 x2 by rw [← (show ga (C 10) ((2 : Int32)).toNatClampNeg = A 5 0 2 from hA.1 2 (by decide)), ← (show ga (C 10) ((3 : Int32)).toNatClampNeg = A 5 0 3 from hA.1 3 (by decide))]; exact u_10.2); have h3 : 0 ≤ x3 ∧ x3 < A 5 0 0 := (by rw [← (show ga (C 10) ((0 : Int32)).toNatClampNeg = A 5 0 0 from hA.1 0 (by decide))]; exact u_20.2); have hs : svX C_26 A x1 x2 := hq_27 A hA hp.1.2; have i3 : rg x3 0 23 := (rg_w (lo := 0) (hi := 23) u_20.1 (by decide)); have hr := n0_lt i3 h3.2; have hK := (absX_eq hA (fr_all f_28 10 15 (by decide))); have hg : gsA A x1 x2 x3.toNatClampNeg := Classical.byContradiction (fun q => c_33 ((sv_g hs.2 hr hok.n16).mpr q)); exact Eq.trans ((hs.2 _ hr).1 hg).1 ((Eq.trans (pif_pos ⟨hp, h3, (oh_rgI (p := 0) (q := 4) (rg_w (lo := 0) (hi := 4) (rn_nel (l' := 4) c_31 (rn_nel (l' := 3) c_35 (rn_nel (l' := 2) c_34 (rn_nel (l' := 1) c_30 (rn_leu u_24.2 (rn_lel u_24.1 (rg_c (v := 0) (lo := 0) (hi := 0) (by decide)) (rg_any _)) (rg_c (v := 4) (lo := 4) (hi := 4) (by decide))) (rg_c (v := 0) (lo := 0) (hi := 0) (by decide)) (by decide)) (rg_c (v := 1) (lo := 1) (hi := 1) (by decide)) (by decide)) (rg_c (v := 2) (lo := 2) (hi := 2) (by decide)) (by decide)) (rg_c (v := 3) (lo := 3) (hi := 3) (by decide)) (by decide)) (by decide)))⟩) (Eq.trans (pif_neg c_30) (Eq.trans (pif_neg c_31) (Eq.trans (pif_pos hg) (Eq.trans (pif_neg c_34) (pif_neg c_35))))))).symm)⟩, ⟨by rw [ht]; exact hP, hD⟩⟩, hS.F ht⟩) hS.2.2 dX6_goes_144
                · refine lv_aload_n hx hb dX6_goes_124 rfl (lv_at hl 0 rfl) ?_
                  refine va_get (D := D) (ci := 6) (v := .ref (a 3)) (C := RX6) (T := TX6) (N := 9) hx hb htg ig_6 hown hK hP 0 (oh_wg (by decide) (sX_0 hT)) rfl 3 (by decide) (htg _ q_261) (fun _ h9 => h9) rfl dX6_goes_125 ?_
                  refine lv_iload_n hx hb dX6_goes_128 rfl (lv_at hl 3 rfl) ?_
                  refine tq_V (As := [.int x3]) (rest := []) (ws := (oh_W 35 a C_26)) ⟨hx, hb, hml, hown, htg⟩ (e_X5_daysOf l D E G a C_26 hT x3 (rg_w u_20.1 (by decide))) (cwV 1 htg (oh_gV q_767 q_768 q_769 q_68 q_770) rfl rfl rfl pdVX5_daysOf ⟨Nat.le_of_ble_eq_true rfl, Nat.le_of_ble_eq_true rfl⟩) hK hP hG hS (va_recv hK hP (ci := 5) (q0 := 3) rfl (oh_wg (by decide) (sX_3 hT))) rfl hl.1 rfl (Nat.le_of_ble_eq_true rfl) dX6_goes_129 ⟨Nat.le_of_ble_eq_true rfl, Nat.le_of_ble_eq_true rfl⟩ (fun r_37 hq_38 => ?_)
                  refine lv_goto (tgt := 144) hx hb dX6_goes_132 (by decide) ?_
                  rw [hQ]
                  exact W.iret (v := r_37) hx hb hr (fun t ht hW => ⟨⟨r_37, C_26, rfl, ⟨hT, hF, (fun A hA hok => by have hp := (show okPk (A 5 0 2) (A 5 0 3) x1 x2 by rw [← (show ga (C 10) ((2 : Int32)).toNatClampNeg = A 5 0 2 from hA.1 2 (by decide)), ← (show ga (C 10) ((3 : Int32)).toNatClampNeg = A 5 0 3 from hA.1 3 (by decide))]; exact u_10.2); have h3 : 0 ≤ x3 ∧ x3 < A 5 0 0 := (by rw [← (show ga (C 10) ((0 : Int32)).toNatClampNeg = A 5 0 0 from hA.1 0 (by decide))]; exact u_20.2); have hs : svX C_26 A x1 x2 := hq_27 A hA hp.1.2; have i3 : rg x3 0 23 := (rg_w (lo := 0) (hi := 23) u_20.1 (by decide)); have hr := n0_lt i3 h3.2; have hK := (absX_eq hA (fr_all f_28 10 15 (by decide))); have hg : gsA A x1 x2 x3.toNatClampNeg := Classical.byContradiction (fun q => c_33 ((sv_g hs.2 hr hok.n16).mpr q)); exact Eq.trans (dyX hK hs i3 h3.2 hg hq_38) ((Eq.trans (pif_pos ⟨hp, h3, (oh_rgI (p := 0) (q := 4) (rg_w (lo := 0) (hi := 4) (rn_eq c_35 (rg_c (v := 2) (lo := 2) (hi := 2) (by decide))) (by decide)))⟩) (Eq.trans (pif_neg c_30) (Eq.trans (pif_neg c_31) (Eq.trans (pif_pos hg) (Eq.trans (pif_neg c_34) (pif_pos c_35))))))).symm)⟩, ⟨by rw [ht]; exact hP, hD⟩⟩, hS.F ht⟩) hS.2.2 dX6_goes_144
              · refine lv_aload_n hx hb dX6_goes_108 rfl (lv_at hl 0 rfl) ?_
                refine va_get (D := D) (ci := 6) (v := .ref (a 3)) (C := RX6) (T := TX6) (N := 9) hx hb htg ig_6 hown hK hP 0 (oh_wg (by decide) (sX_0 hT)) rfl 3 (by decide) (htg _ q_261) (fun _ h9 => h9) rfl dX6_goes_109 ?_
                refine lv_iload_n hx hb dX6_goes_112 rfl (lv_at hl 3 rfl) ?_
                refine lv_iconst (v := 1) hx hb dX6_goes_113 (by decide) ?_
                refine tq_V (As := [.int x3, .int 1]) (rest := []) (ws := (oh_W 35 a C_26)) ⟨hx, hb, hml, hown, htg⟩ (e_X5_coinOf l D E G a C_26 hT x3 (1 : Int32) (rg_w u_20.1 (by decide))) (cwV 2 htg (oh_gV q_762 q_763 q_764 q_68 q_765) rfl rfl rfl pdVX5_coinOf ⟨Nat.le_of_ble_eq_true rfl, Nat.le_of_ble_eq_true rfl⟩) hK hP hG hS (va_recv hK hP (ci := 5) (q0 := 3) rfl (oh_wg (by decide) (sX_3 hT))) rfl hl.1 rfl (Nat.le_of_ble_eq_true rfl) dX6_goes_114 ⟨Nat.le_of_ble_eq_true rfl, Nat.le_of_ble_eq_true rfl⟩ (fun r_39 hq_40 => ?_)
                rw [hQ]
                exact W.iret (v := r_39) hx hb hr (fun t ht hW => ⟨⟨r_39, C_26, rfl, ⟨hT, hF, (fun A hA hok => by have hp := (show okPk (A 5 0 2) (A 5 0 3) x1 x2 by rw [← (show ga (C 10) ((2 : Int32)).toNatClampNeg = A 5 0 2 from hA.1 2 (by decide)), ← (show ga (C 10) ((3 : Int32)).toNatClampNeg = A 5 0 3 from hA.1 3 (by decide))]; exact u_10.2); have h3 : 0 ≤ x3 ∧ x3 < A 5 0 0 := (by rw [← (show ga (C 10) ((0 : Int32)).toNatClampNeg = A 5 0 0 from hA.1 0 (by decide))]; exact u_20.2); have hs : svX C_26 A x1 x2 := hq_27 A hA hp.1.2; have i3 : rg x3 0 23 := (rg_w (lo := 0) (hi := 23) u_20.1 (by decide)); have hr := n0_lt i3 h3.2; have hK := (absX_eq hA (fr_all f_28 10 15 (by decide))); have hg : gsA A x1 x2 x3.toNatClampNeg := Classical.byContradiction (fun q => c_33 ((sv_g hs.2 hr hok.n16).mpr q)); exact Eq.trans (coX (n := 1) hK hs i3 h3.2 hg hq_40) ((Eq.trans (pif_pos ⟨hp, h3, (oh_rgI (p := 0) (q := 4) (rg_w (lo := 0) (hi := 4) (rn_eq c_34 (rg_c (v := 1) (lo := 1) (hi := 1) (by decide))) (by decide)))⟩) (Eq.trans (pif_neg c_30) (Eq.trans (pif_neg c_31) (Eq.trans (pif_pos hg) (pif_pos c_34)))))).symm)⟩, ⟨by rw [ht]; exact hP, hD⟩⟩, hS.F ht⟩) hS.2.2 dX6_goes_117
            · refine lv_aload_n hx hb dX6_goes_95 rfl (lv_at hl 0 rfl) ?_
              refine lv_bipush (v := (-5)) hx hb dX6_goes_96 (by decide) ?_
              refine tm_V (As := [.int (-5)]) (rest := []) ⟨hx, hb, hml, hown, htg⟩ (c_X6_refuse l D E G _ a C_26 hT ((-5) : Int32)) (cwV 1 htg (oh_gV q_296 q_298 q_0 q_66 q_299) rfl rfl rfl pdVX6_refuse ⟨Nat.le_of_ble_eq_true rfl, Nat.le_of_ble_eq_true rfl⟩) hK hP hD hG hS hA (va_recv hK hP (ci := 6) (q0 := 0) rfl (oh_wg (by decide) (sX_0 hT))) rfl hl.1 rfl (Nat.le_of_ble_eq_true rfl) dX6_goes_98 ⟨Nat.le_of_ble_eq_true rfl, Nat.le_of_ble_eq_true rfl⟩ (fun r_41 C_42 H locs hq_43 hP hD hS => ?_)
              obtain ⟨hT, f_44, hq_43⟩ := hq_43
              have hF := fr_tr hF f_44 (by decide) (by decide)
              refine W.widen (k := 0) (n := 0) (Nat.le_refl _) (Nat.le_refl _) ?_
              have t_45 := hT
              rw [hQ]
              exact W.iret (v := r_41) hx hb hr (fun t ht hW => ⟨⟨r_41, C_42, rfl, ⟨hT, hF, (fun A hA hok => by have hp := (show okPk (A 5 0 2) (A 5 0 3) x1 x2 by rw [← (show ga (C 10) ((2 : Int32)).toNatClampNeg = A 5 0 2 from hA.1 2 (by decide)), ← (show ga (C 10) ((3 : Int32)).toNatClampNeg = A 5 0 3 from hA.1 3 (by decide))]; exact u_10.2); have h3 : 0 ≤ x3 ∧ x3 < A 5 0 0 := (by rw [← (show ga (C 10) ((0 : Int32)).toNatClampNeg = A 5 0 0 from hA.1 0 (by decide))]; exact u_20.2); have hs : svX C_26 A x1 x2 := hq_27 A hA hp.1.2; have i3 : rg x3 0 23 := (rg_w (lo := 0) (hi := 23) u_20.1 (by decide)); have hr := n0_lt i3 h3.2; have hK := (absX_eq hA (fr_all f_28 10 15 (by decide))); have hg : ¬ gsA A x1 x2 x3.toNatClampNeg := (sv_g hs.2 hr hok.n16).mp c_33; exact Eq.trans hq_43 ((Eq.trans (pif_pos ⟨hp, h3, (oh_rgI (p := 0) (q := 4) (rg_w (lo := 0) (hi := 4) (rn_nel (l' := 1) c_30 (rn_leu u_24.2 (rn_lel u_24.1 (rg_c (v := 0) (lo := 0) (hi := 0) (by decide)) (rg_any _)) (rg_c (v := 4) (lo := 4) (hi := 4) (by decide))) (rg_c (v := 0) (lo := 0) (hi := 0) (by decide)) (by decide)) (by decide)))⟩) (Eq.trans (pif_neg c_30) (Eq.trans (pif_neg c_31) (pif_neg hg))))).symm)⟩, ⟨by rw [ht]; exact hP, hD⟩⟩, hS.F ht⟩) hS.2.2 dX6_goes_101
          · refine lv_aload_n hx hb dX6_goes_73 rfl (lv_at hl 0 rfl) ?_
            refine va_get (D := D) (ci := 6) (v := .ref (a 3)) (C := RX6) (T := TX6) (N := 9) hx hb htg ig_6 hown hK hP 0 (oh_wg (by decide) (sX_0 hT)) rfl 3 (by decide) (htg _ q_261) (fun _ h9 => h9) rfl dX6_goes_74 ?_
            refine lv_iload_n hx hb dX6_goes_77 rfl (lv_at hl 3 rfl) ?_
            refine tq_V (As := [.int x3]) (rest := []) (ws := (oh_W 35 a C_26)) ⟨hx, hb, hml, hown, htg⟩ (e_X5_engines l D E G a C_26 hT x3 (rg_w u_20.1 (by decide))) (cwV 1 htg (oh_gV q_758 q_759 q_760 q_68 q_761) rfl rfl rfl pdVX5_engines ⟨Nat.le_of_ble_eq_true rfl, Nat.le_of_ble_eq_true rfl⟩) hK hP hG hS (va_recv hK hP (ci := 5) (q0 := 3) rfl (oh_wg (by decide) (sX_3 hT))) rfl hl.1 rfl (Nat.le_of_ble_eq_true rfl) dX6_goes_78 ⟨Nat.le_of_ble_eq_true rfl, Nat.le_of_ble_eq_true rfl⟩ (fun r_46 hq_47 => ?_)
            rw [hQ]
            exact W.iret (v := r_46) hx hb hr (fun t ht hW => ⟨⟨r_46, C_26, rfl, ⟨hT, hF, (fun A hA hok => by have hp := (show okPk (A 5 0 2) (A 5 0 3) x1 x2 by rw [← (show ga (C 10) ((2 : Int32)).toNatClampNeg = A 5 0 2 from hA.1 2 (by decide)), ← (show ga (C 10) ((3 : Int32)).toNatClampNeg = A 5 0 3 from hA.1 3 (by decide))]; exact u_10.2); have h3 : 0 ≤ x3 ∧ x3 < A 5 0 0 := (by rw [← (show ga (C 10) ((0 : Int32)).toNatClampNeg = A 5 0 0 from hA.1 0 (by decide))]; exact u_20.2); have hs : svX C_26 A x1 x2 := hq_27 A hA hp.1.2; have i3 : rg x3 0 23 := (rg_w (lo := 0) (hi := 23) u_20.1 (by decide)); have hr := n0_lt i3 h3.2; have hK := (absX_eq hA (fr_all f_28 10 15 (by decide))); exact Eq.trans (enX hK hs.1 i3 h3.2 hq_47) ((Eq.trans (pif_pos ⟨hp, h3, (oh_rgI (p := 0) (q := 4) (rg_w (lo := 0) (hi := 4) (rn_eq c_31 (rg_c (v := 3) (lo := 3) (hi := 3) (by decide))) (by decide)))⟩) (Eq.trans (pif_neg c_30) (pif_pos c_31)))).symm)⟩, ⟨by rw [ht]; exact hP, hD⟩⟩, hS.F ht⟩) hS.2.2 dX6_goes_81
        · refine lv_aload_n hx hb dX6_goes_48 rfl (lv_at hl 0 rfl) ?_
          refine va_get (D := D) (ci := 6) (v := .ref (a 3)) (C := RX6) (T := TX6) (N := 9) hx hb htg ig_6 hown hK hP 0 (oh_wg (by decide) (sX_0 hT)) rfl 3 (by decide) (htg _ q_261) (fun _ h9 => h9) rfl dX6_goes_49 ?_
          refine va_get (D := D) (ci := 5) (v := .ref (a 24)) (C := RX5) (T := TX5) (N := 7) hx hb htg ig_5 hown hK hP 3 (oh_wg (by decide) (sX_3 hT)) rfl 2 (by decide) (htg _ q_171) (fun _ h9 => h9) rfl dX6_goes_52 ?_
          refine lv_iload_n hx hb dX6_goes_55 rfl (lv_at hl 3 rfl) ?_
          have n_48 : vp_in x3 24 := (rg_in u_20.1 (by decide))
          refine th_iald hx hb hK hP 24 (by decide) (sX_24 hT) n_48 dX6_goes_56 ?_
          refine lv_iconst (v := (-1)) hx hb dX6_goes_57 (by decide) ?_
          refine lv_icmp_ne (tgt := 65) hx hb dX6_goes_58 (by decide) (fun (c_49 : ¬ ((ga (C_26 24) (x3).toNatClampNeg) = (-1))) => ?_) (fun (c_49 : (ga (C_26 24) (x3).toNatClampNeg) = (-1)) => ?_)
          · refine lv_iconst (v := 1) hx hb dX6_goes_65 (by decide) ?_
            rw [hQ]
            exact W.iret (v := 1) hx hb hr (fun t ht hW => ⟨⟨1, C_26, rfl, ⟨hT, hF, (fun A hA hok => by have hp := (show okPk (A 5 0 2) (A 5 0 3) x1 x2 by rw [← (show ga (C 10) ((2 : Int32)).toNatClampNeg = A 5 0 2 from hA.1 2 (by decide)), ← (show ga (C 10) ((3 : Int32)).toNatClampNeg = A 5 0 3 from hA.1 3 (by decide))]; exact u_10.2); have h3 : 0 ≤ x3 ∧ x3 < A 5 0 0 := (by rw [← (show ga (C 10) ((0 : Int32)).toNatClampNeg = A 5 0 0 from hA.1 0 (by decide))]; exact u_20.2); have hs : svX C_26 A x1 x2 := hq_27 A hA hp.1.2; have i3 : rg x3 0 23 := (rg_w (lo := 0) (hi := 23) u_20.1 (by decide)); have hr := n0_lt i3 h3.2; have hK := (absX_eq hA (fr_all f_28 10 15 (by decide))); have hg : gsA A x1 x2 x3.toNatClampNeg := Classical.byContradiction (fun q => c_49 ((sv_g hs.2 hr hok.n16).mpr q)); exact ((Eq.trans (pif_pos ⟨hp, h3, (oh_rgI (p := 0) (q := 4) (rg_w (lo := 0) (hi := 4) (rn_eq c_30 (rg_c (v := 0) (lo := 0) (hi := 0) (by decide))) (by decide)))⟩) (Eq.trans (pif_pos c_30) (pif_pos hg)))).symm)⟩, ⟨by rw [ht]; exact hP, hD⟩⟩, hS.F ht⟩) hS.2.2 dX6_goes_66
          · refine lv_iconst (v := 0) hx hb dX6_goes_61 (by decide) ?_
            refine lv_goto (tgt := 66) hx hb dX6_goes_62 (by decide) ?_
            rw [hQ]
            exact W.iret (v := 0) hx hb hr (fun t ht hW => ⟨⟨0, C_26, rfl, ⟨hT, hF, (fun A hA hok => by have hp := (show okPk (A 5 0 2) (A 5 0 3) x1 x2 by rw [← (show ga (C 10) ((2 : Int32)).toNatClampNeg = A 5 0 2 from hA.1 2 (by decide)), ← (show ga (C 10) ((3 : Int32)).toNatClampNeg = A 5 0 3 from hA.1 3 (by decide))]; exact u_10.2); have h3 : 0 ≤ x3 ∧ x3 < A 5 0 0 := (by rw [← (show ga (C 10) ((0 : Int32)).toNatClampNeg = A 5 0 0 from hA.1 0 (by decide))]; exact u_20.2); have hs : svX C_26 A x1 x2 := hq_27 A hA hp.1.2; have i3 : rg x3 0 23 := (rg_w (lo := 0) (hi := 23) u_20.1 (by decide)); have hr := n0_lt i3 h3.2; have hK := (absX_eq hA (fr_all f_28 10 15 (by decide))); have hg : ¬ gsA A x1 x2 x3.toNatClampNeg := (sv_g hs.2 hr hok.n16).mp c_49; exact ((Eq.trans (pif_pos ⟨hp, h3, (oh_rgI (p := 0) (q := 4) (rg_w (lo := 0) (hi := 4) (rn_eq c_30 (rg_c (v := 0) (lo := 0) (hi := 0) (by decide))) (by decide)))⟩) (Eq.trans (pif_pos c_30) (pif_neg hg)))).symm)⟩, ⟨by rw [ht]; exact hP, hD⟩⟩, hS.F ht⟩) hS.2.2 dX6_goes_66
      · have u_50 := hq_22.2.2 c_23
        refine lv_aload_n hx hb dX6_goes_27 rfl (lv_at hl 0 rfl) ?_
        refine lv_bipush (v := (-2)) hx hb dX6_goes_28 (by decide) ?_
        refine tm_V (As := [.int (-2)]) (rest := []) ⟨hx, hb, hml, hown, htg⟩ (c_X6_refuse l D E G _ a C hT ((-2) : Int32)) (cwV 1 htg (oh_gV q_296 q_298 q_0 q_66 q_299) rfl rfl rfl pdVX6_refuse ⟨Nat.le_of_ble_eq_true rfl, Nat.le_of_ble_eq_true rfl⟩) hK hP hD hG hS hA (va_recv hK hP (ci := 6) (q0 := 0) rfl (oh_wg (by decide) (sX_0 hT))) rfl hl.1 rfl (Nat.le_of_ble_eq_true rfl) dX6_goes_30 ⟨Nat.le_of_ble_eq_true rfl, Nat.le_of_ble_eq_true rfl⟩ (fun r_51 C_52 H locs hq_53 hP hD hS => ?_)
        obtain ⟨hT, f_54, hq_53⟩ := hq_53
        have hF := fr_tr hF f_54 (by decide) (by decide)
        refine W.widen (k := 0) (n := 0) (Nat.le_refl _) (Nat.le_refl _) ?_
        have t_55 := hT
        rw [hQ]
        exact W.iret (v := r_51) hx hb hr (fun t ht hW => ⟨⟨r_51, C_52, rfl, ⟨hT, hF, (fun A hA hok => Eq.trans hq_53 (pif_neg (fun h8 => u_50 h8.2.2)).symm)⟩, ⟨by rw [ht]; exact hP, hD⟩⟩, hS.F ht⟩) hS.2.2 dX6_goes_33

set_option maxHeartbeats 4000000 in
set_option maxRecDepth 100000 in
theorem e_X7_goes (l : Launch) (D : va_G) (E : Nat → ClassId) (G : Nat → Nat) (sz : Nat) (a : Nat → Nat) (C : Nat → va_E) (n : Nat) (hn : 74 ≤ n) (hT : TyM a E C) (x1 : Int32) (x2 : Int32) (x3 : Int32) (x4 : Int32) (hR : RelM C) : Met l yX7_goes (oh_w yX7_goes cX7_goes 6 (some .int)) ({ frames := 5, cells := 0, slots := 0, locals := 123 }) (oh_Pm D E G [.ref (a 0), .int x1, .int x2, .int x3, .int x4] (oh_W n a C) sz) (va_Qi (fun r (u : Nat → va_E) => TyM a E u ∧ fr [(8, 9)] [] C u ∧ (RelM u) ∧ (∀ A : LA, absM C A → okA A → r = spGoes A x1 x2 x3 x4)) (oh_B D (va_A (oh_W n a C) sz) (fun u => oh_W n a u)) (va_A (oh_W n a C) sz)) 0 0 (va_A (oh_W n a C) sz) := by
  refine Met.ofW (cc := cX7_goes) (maxL := 6) (ret := (some .int)) (by decide) rfl ?_
  intro p e s m args below meth c s₁ B hml hv
  obtain ⟨rfl, hsz, hP, hK, hD0, hG⟩ := hv
  have hx := B.exec
  have hb := B.bytes
  have hr := B.returns
  have hts := atoms_spec (ws := (oh_w yX7_goes cX7_goes 6 (some .int))) B.pre
  have htg : ∀ w ∈ oh_t, w.before _ s = true := fun w h => hts w (List.mem_cons_of_mem _ h)
  have hown : s.vm.findClass RX7 = some m.cls := findClass_of_methodNamed B.named
  have hlocks := B.notSynchronized
  have hT0 := hT
  subst hsz
  have hD := hD0.self (sz := s.heap.size)
  generalize hAe : va_A (oh_W n a C) s.heap.size = A at hD hG ⊢
  have hA : ∀ q : Nat, s.heap.size ≤ q → A q := fun q h => by rw [← hAe]; exact Or.inr h
  have hS : va_S A s.heap s.heap [] := va_S.rf
  have hF : fr [(8, 9)] [] C C := fr_rf
  have hl := lv_entry ([.ref (a 0), .int x1, .int x2, .int x3, .int x4]) (n := 6) (Nat.le_of_ble_eq_true rfl)
  rw [lg_entry_eq]
  generalize (lg_sl ([.ref (a 0), .int x1, .int x2, .int x3, .int x4]) ++ List.replicate (6 - (lg_sl ([.ref (a 0), .int x1, .int x2, .int x3, .int x4])).length) Slot.unset).toArray = ls at hl ⊢
  have hl : lv_has ls 6 [(0, .ref (a 0)), (1, .int x1), (2, .int x2), (3, .int x3), (4, .int x4)] := hl
  refine oh_genQ (fun Q hQ => ?_)
  refine lv_aload_n hx hb dX7_goes_0 rfl (lv_at hl 0 rfl) ?_
  refine lv_iload_n hx hb dX7_goes_1 rfl (lv_at hl 1 rfl) ?_
  refine lv_iload_n hx hb dX7_goes_2 rfl (lv_at hl 2 rfl) ?_
  refine tq_V (As := [.int x1, .int x2]) (rest := []) (ws := (oh_W n a C)) ⟨hx, hb, hml, hown, htg⟩ (e_X7_isPack l D E G a C n hn hT x1 x2 hR.1) (cwV 2 htg (oh_gV q_1290 q_1292 q_50 q_73 q_1293) rfl rfl rfl pdVX7_isPack ⟨Nat.le_of_ble_eq_true rfl, Nat.le_of_ble_eq_true rfl⟩) hK hP hG hS (va_recv hK hP (ci := 7) (q0 := 0) rfl (oh_wg (Nat.lt_of_lt_of_le (by decide) hn) (sM_0 hT))) rfl hl.1 rfl (Nat.le_of_ble_eq_true rfl) dX7_goes_3 ⟨Nat.le_of_ble_eq_true rfl, Nat.le_of_ble_eq_true rfl⟩ (fun r_1 hq_2 => ?_)
  refine lv_if_eq (tgt := 30) hx hb dX7_goes_6 (by decide) (fun (c_3 : r_1 = 0) => ?_) (fun (c_3 : ¬ (r_1 = 0)) => ?_)
  · have u_4 := hq_2.2.2 c_3
    refine lv_aload_n hx hb dX7_goes_30 rfl (lv_at hl 0 rfl) ?_
    refine lv_bipush (v := (-2)) hx hb dX7_goes_31 (by decide) ?_
    refine tm_V (As := [.int (-2)]) (rest := []) ⟨hx, hb, hml, hown, htg⟩ (c_X7_refuse l D E G _ a C n hn hT ((-2) : Int32) (rg_w (rg_c (v := (-2)) (lo := (-2)) (hi := (-2)) (by decide)) (by decide))) (cwV 1 htg (oh_gV q_1071 q_1073 q_29 q_73 q_1074) rfl rfl rfl pdVX7_refuse ⟨Nat.le_of_ble_eq_true rfl, Nat.le_of_ble_eq_true rfl⟩) hK hP hD hG hS hA (va_recv hK hP (ci := 7) (q0 := 0) rfl (oh_wg (Nat.lt_of_lt_of_le (by decide) hn) (sM_0 hT))) rfl hl.1 rfl (Nat.le_of_ble_eq_true rfl) dX7_goes_33 ⟨Nat.le_of_ble_eq_true rfl, Nat.le_of_ble_eq_true rfl⟩ (fun r_5 C_6 H locs hq_7 hP hD hS => ?_)
    obtain ⟨hT, f_8, hq_7⟩ := hq_7
    have hF := fr_tr hF f_8 (by decide) (by decide)
    refine W.widen (k := 0) (n := 0) (Nat.le_refl _) (Nat.le_refl _) ?_
    have t_9 := hT
    rw [hQ]
    exact W.iret (v := r_5) hx hb hr (fun t ht hW => ⟨⟨r_5, C_6, rfl, ⟨hT, hF, ⟨⟨hR.1.fr hF (by decide), hR.2.fr hF (by decide)⟩, (fun A hA hok => Eq.trans hq_7 (pif_neg (fun h8 => (show ¬ okPk (A 5 0 2) (A 5 0 3) x1 x2 by rw [← (show gi (C 0) 13 = A 5 0 2 from hA.1 2 (by decide)), ← (show gi (C 0) 15 = A 5 0 3 from hA.1 3 (by decide))]; exact u_4) h8.1)).symm)⟩⟩, ⟨by rw [ht]; exact hP, hD⟩⟩, hS.F ht⟩) hS.2.2 dX7_goes_36
  · have u_10 := hq_2.2.1 c_3
    refine lv_aload_n hx hb dX7_goes_9 rfl (lv_at hl 0 rfl) ?_
    refine lv_iload_n hx hb dX7_goes_10 rfl (lv_at hl 3 rfl) ?_
    refine tq_V (As := [.int x3]) (rest := []) (ws := (oh_W n a C)) ⟨hx, hb, hml, hown, htg⟩ (e_X7_isRoad l D E G a C n hn hT x3) (cwV 1 htg (oh_gV q_1145 q_1147 q_36 q_73 q_1148) rfl rfl rfl pdVX7_isRoad ⟨Nat.le_of_ble_eq_true rfl, Nat.le_of_ble_eq_true rfl⟩) hK hP hG hS (va_recv hK hP (ci := 7) (q0 := 0) rfl (oh_wg (Nat.lt_of_lt_of_le (by decide) hn) (sM_0 hT))) rfl hl.1 rfl (Nat.le_of_ble_eq_true rfl) dX7_goes_11 ⟨Nat.le_of_ble_eq_true rfl, Nat.le_of_ble_eq_true rfl⟩ (fun r_11 hq_12 => ?_)
    refine lv_if_eq (tgt := 30) hx hb dX7_goes_14 (by decide) (fun (c_13 : r_11 = 0) => ?_) (fun (c_13 : ¬ (r_11 = 0)) => ?_)
    · have u_14 := hq_12.2.2 c_13
      refine lv_aload_n hx hb dX7_goes_30 rfl (lv_at hl 0 rfl) ?_
      refine lv_bipush (v := (-2)) hx hb dX7_goes_31 (by decide) ?_
      refine tm_V (As := [.int (-2)]) (rest := []) ⟨hx, hb, hml, hown, htg⟩ (c_X7_refuse l D E G _ a C n hn hT ((-2) : Int32) (rg_w (rg_c (v := (-2)) (lo := (-2)) (hi := (-2)) (by decide)) (by decide))) (cwV 1 htg (oh_gV q_1071 q_1073 q_29 q_73 q_1074) rfl rfl rfl pdVX7_refuse ⟨Nat.le_of_ble_eq_true rfl, Nat.le_of_ble_eq_true rfl⟩) hK hP hD hG hS hA (va_recv hK hP (ci := 7) (q0 := 0) rfl (oh_wg (Nat.lt_of_lt_of_le (by decide) hn) (sM_0 hT))) rfl hl.1 rfl (Nat.le_of_ble_eq_true rfl) dX7_goes_33 ⟨Nat.le_of_ble_eq_true rfl, Nat.le_of_ble_eq_true rfl⟩ (fun r_15 C_16 H locs hq_17 hP hD hS => ?_)
      obtain ⟨hT, f_18, hq_17⟩ := hq_17
      have hF := fr_tr hF f_18 (by decide) (by decide)
      refine W.widen (k := 0) (n := 0) (Nat.le_refl _) (Nat.le_refl _) ?_
      have t_19 := hT
      rw [hQ]
      exact W.iret (v := r_15) hx hb hr (fun t ht hW => ⟨⟨r_15, C_16, rfl, ⟨hT, hF, ⟨⟨hR.1.fr hF (by decide), hR.2.fr hF (by decide)⟩, (fun A hA hok => Eq.trans hq_17 (pif_neg (fun h8 => by have h7 := h8.2.1; rw [← (show gi (C 0) 9 = A 5 0 0 from hA.1 0 (by decide))] at h7; exact u_14 h7)).symm)⟩⟩, ⟨by rw [ht]; exact hP, hD⟩⟩, hS.F ht⟩) hS.2.2 dX7_goes_36
    · have u_20 := hq_12.2.1 c_13
      refine lv_iload hx hb dX7_goes_17 (lv_at hl 4 rfl) ?_
      refine lv_i2l (v := Int32.toInt64 x4) hx hb dX7_goes_19 (by rfl) ?_
      refine lv_lconst (v := 0) hx hb dX7_goes_20 (by decide) ?_
      refine lv_ldc2 (v := 4) hx hb hown (htg _ q_1069) dX7_goes_21 ?_
      refine tq_S (As := [.long (Int32.toInt64 x4), .long 0, .long 4]) (rest := []) (ws := []) ⟨hx, hb, hml, hown, htg⟩ (c_X7_in l D E G (Int32.toInt64 x4) (0 : Int64) (4 : Int64)) (va_cwS 3 htg (oh_gS q_1066 q_1067 q_73 q_1068) rfl rfl rfl pdX7_in ⟨Nat.le_of_ble_eq_true rfl, Nat.le_of_ble_eq_true rfl⟩) hK va_nil hG hS rfl hl.1 rfl (Nat.le_of_ble_eq_true rfl) dX7_goes_24 ⟨Nat.le_of_ble_eq_true rfl, Nat.le_of_ble_eq_true rfl⟩ (fun r_21 hq_22 => ?_)
      refine lv_if_ne (tgt := 37) hx hb dX7_goes_27 (by decide) (fun (c_23 : ¬ (r_21 = 0)) => ?_) (fun (c_23 : r_21 = 0) => ?_)
      · have u_24 := hq_22.2.1 c_23
        refine lv_aload_n hx hb dX7_goes_37 rfl (lv_at hl 0 rfl) ?_
        refine lv_iload_n hx hb dX7_goes_38 rfl (lv_at hl 1 rfl) ?_
        refine lv_iload_n hx hb dX7_goes_39 rfl (lv_at hl 2 rfl) ?_
        refine lv_iload_n hx hb dX7_goes_40 rfl (lv_at hl 3 rfl) ?_
        refine tq_V (As := [.int x1, .int x2, .int x3]) (rest := []) (ws := (oh_W n a C)) ⟨hx, hb, hml, hown, htg⟩ (e_X7_goesOf l D E G a C n hn hT x1 x2 x3 (rg_w u_10.1 (by decide)) (rg_w u_20.1 (by decide)) u_10.2.1) (cwV 3 htg (oh_gV q_1318 q_1320 q_54 q_73 q_1321) rfl rfl rfl pdVX7_goesOf ⟨Nat.le_of_ble_eq_true rfl, Nat.le_of_ble_eq_true rfl⟩) hK hP hG hS (va_recv hK hP (ci := 7) (q0 := 0) rfl (oh_wg (Nat.lt_of_lt_of_le (by decide) hn) (sM_0 hT))) rfl hl.1 rfl (Nat.le_of_ble_eq_true rfl) dX7_goes_41 ⟨Nat.le_of_ble_eq_true rfl, Nat.le_of_ble_eq_true rfl⟩ (fun r_25 hq_26 => ?_)
        refine lv_istore (lv' := [(5, .int r_25), (0, .ref (a 0)), (1, .int x1), (2, .int x2), (3, .int x3), (4, .int x4)]) hx hb dX7_goes_44 hl (by decide) rfl (fun ls hl => ?_)
        refine lv_iload hx hb dX7_goes_46 (lv_at hl 5 rfl) ?_
        refine lv_if_ne (tgt := 62) hx hb dX7_goes_48 (by decide) (fun (c_27 : ¬ (x4 = 0)) => ?_) (fun (c_27 : x4 = 0) => ?_)
        · refine lv_iload hx hb dX7_goes_62 (lv_at hl 5 rfl) ?_
          refine lv_iconst (v := 3) hx hb dX7_goes_64 (by decide) ?_
          refine lv_icmp_ne (tgt := 76) hx hb dX7_goes_65 (by decide) (fun (c_28 : ¬ (x4 = 3)) => ?_) (fun (c_28 : x4 = 3) => ?_)
          · refine lv_iload hx hb dX7_goes_76 (lv_at hl 0 rfl) ?_
            refine lv_if_ne (tgt := 88) hx hb dX7_goes_78 (by decide) (fun (c_29 : ¬ (r_25 = 0)) => ?_) (fun (c_29 : r_25 = 0) => ?_)
            · refine lv_iload hx hb dX7_goes_88 (lv_at hl 5 rfl) ?_
              refine lv_iconst (v := 1) hx hb dX7_goes_90 (by decide) ?_
              refine lv_icmp_ne (tgt := 105) hx hb dX7_goes_91 (by decide) (fun (c_30 : ¬ (x4 = 1)) => ?_) (fun (c_30 : x4 = 1) => ?_)
              · refine lv_iload hx hb dX7_goes_105 (lv_at hl 5 rfl) ?_
                refine lv_iconst (v := 2) hx hb dX7_goes_107 (by decide) ?_
                refine lv_icmp_ne (tgt := 121) hx hb dX7_goes_108 (by decide) (fun (c_31 : ¬ (x4 = 2)) => ?_) (fun (c_31 : x4 = 2) => ?_)
                · refine lv_aload_n hx hb dX7_goes_121 rfl (lv_at hl 1 rfl) ?_
                  refine lv_iload_n hx hb dX7_goes_122 rfl (lv_at hl 2 rfl) ?_
                  refine lv_iload_n hx hb dX7_goes_123 rfl (lv_at hl 3 rfl) ?_
                  refine lv_iload_n hx hb dX7_goes_124 rfl (lv_at hl 4 rfl) ?_
                  refine lv_iconst (v := 0) hx hb dX7_goes_125 (by decide) ?_
                  refine tq_V (As := [.int x1, .int x2, .int x3, .int 0]) (rest := []) (ws := (oh_W n a C)) ⟨hx, hb, hml, hown, htg⟩ (e_X7_propsOf l D E G a C n hn hT x1 x2 x3 (0 : Int32) (rg_w u_10.1 (by decide)) (rg_w (rg_c (v := 0) (lo := 0) (hi := 0) (by decide)) (by decide)) u_10.2.1) (cwV 4 htg (oh_gV q_1330 q_1332 q_57 q_73 q_1333) rfl rfl rfl pdVX7_propsOf ⟨Nat.le_of_ble_eq_true rfl, Nat.le_of_ble_eq_true rfl⟩) hK hP hG hS (va_recv hK hP (ci := 7) (q0 := 0) rfl (oh_wg (Nat.lt_of_lt_of_le (by decide) hn) (sM_0 hT))) rfl hl.1 rfl (Nat.le_of_ble_eq_true rfl) dX7_goes_126 ⟨Nat.le_of_ble_eq_true rfl, Nat.le_of_ble_eq_true rfl⟩ (fun r_32 hq_33 => ?_)
                  rw [hQ]
                  exact W.iret (v := r_32) hx hb hr (fun t ht hW => ⟨⟨r_32, C, rfl, ⟨hT, hF, ⟨hR, (fun A hA hok => by have hp := (show okPk (A 5 0 2) (A 5 0 3) x1 x2 by rw [← (show gi (C 0) 13 = A 5 0 2 from hA.1 2 (by decide)), ← (show gi (C 0) 15 = A 5 0 3 from hA.1 3 (by decide))]; exact u_10.2.2.2); have h3 : 0 ≤ x3 ∧ x3 < A 5 0 0 := (by rw [← (show gi (C 0) 9 = A 5 0 0 from hA.1 0 (by decide))]; exact u_20.2); have i3 : rg x3 0 23 := (rg_w (lo := 0) (hi := 23) u_20.1 (by decide)); have hgi := hq_26.2 A hA hok hp.1.2 h3.2; have hg := hgi.mp (oh_b1 (rg_w (lo := 0) (hi := 1) (rn_nel (l' := 1) c_29 (oh_rgb hq_26.1) (rg_c (v := 0) (lo := 0) (hi := 0) (by decide)) (by decide)) (by decide)) c_29); exact Eq.trans (Eq.trans (hq_33 A hA hok hp.1.2 i3) (vv_0 rfl)) ((Eq.trans (pif_pos ⟨hp, h3, (oh_rgI (p := 0) (q := 4) (rg_w (lo := 0) (hi := 4) (rg_il (rgL_i (rg_il (rnL_leu u_24.2 (rnL_lel u_24.1 (rgL_c (v := 0) (lo := 0) (hi := 0) (by decide)) (rgL_i (rg_any _))) (rgL_c (v := 4) (lo := 4) (hi := 4) (by decide)))))) (by decide)))⟩) (Eq.trans (pif_neg c_27) (Eq.trans (pif_neg c_28) (Eq.trans (pif_pos hg) (Eq.trans (pif_neg c_30) (pif_neg c_31))))))).symm)⟩⟩, ⟨by rw [ht]; exact hP, hD⟩⟩, hS.F ht⟩) hS.2.2 dX7_goes_129
                · refine lv_aload_n hx hb dX7_goes_111 rfl (lv_at hl 1 rfl) ?_
                  refine lv_iload_n hx hb dX7_goes_112 rfl (lv_at hl 2 rfl) ?_
                  refine lv_iload_n hx hb dX7_goes_113 rfl (lv_at hl 3 rfl) ?_
                  refine lv_iload_n hx hb dX7_goes_114 rfl (lv_at hl 4 rfl) ?_
                  refine tq_V (As := [.int x1, .int x2, .int x3]) (rest := []) (ws := (oh_W n a C)) ⟨hx, hb, hml, hown, htg⟩ (e_X7_daysOf l D E G a C n hn hT x1 x2 x3 (rg_w u_10.1 (by decide)) (rg_w u_20.1 (by decide)) u_10.2.1) (cwV 3 htg (oh_gV q_1334 q_1336 q_58 q_73 q_1337) rfl rfl rfl pdVX7_daysOf ⟨Nat.le_of_ble_eq_true rfl, Nat.le_of_ble_eq_true rfl⟩) hK hP hG hS (va_recv hK hP (ci := 7) (q0 := 0) rfl (oh_wg (Nat.lt_of_lt_of_le (by decide) hn) (sM_0 hT))) rfl hl.1 rfl (Nat.le_of_ble_eq_true rfl) dX7_goes_115 ⟨Nat.le_of_ble_eq_true rfl, Nat.le_of_ble_eq_true rfl⟩ (fun r_34 hq_35 => ?_)
                  refine lv_goto (tgt := 129) hx hb dX7_goes_118 (by decide) ?_
                  rw [hQ]
                  exact W.iret (v := r_34) hx hb hr (fun t ht hW => ⟨⟨r_34, C, rfl, ⟨hT, hF, ⟨hR, (fun A hA hok => by have hp := (show okPk (A 5 0 2) (A 5 0 3) x1 x2 by rw [← (show gi (C 0) 13 = A 5 0 2 from hA.1 2 (by decide)), ← (show gi (C 0) 15 = A 5 0 3 from hA.1 3 (by decide))]; exact u_10.2.2.2); have h3 : 0 ≤ x3 ∧ x3 < A 5 0 0 := (by rw [← (show gi (C 0) 9 = A 5 0 0 from hA.1 0 (by decide))]; exact u_20.2); have i3 : rg x3 0 23 := (rg_w (lo := 0) (hi := 23) u_20.1 (by decide)); have hgi := hq_26.2 A hA hok hp.1.2 h3.2; have hg := hgi.mp (oh_b1 (rg_w (lo := 0) (hi := 1) (rn_nel (l' := 1) c_29 (oh_rgb hq_26.1) (rg_c (v := 0) (lo := 0) (hi := 0) (by decide)) (by decide)) (by decide)) c_29); exact Eq.trans (hq_35 A hA hok hp.1.2 h3.2) ((Eq.trans (pif_pos ⟨hp, h3, (oh_rgI (p := 0) (q := 4) (rg_w (lo := 0) (hi := 4) (rn_eq c_31 (rg_c (v := 2) (lo := 2) (hi := 2) (by decide))) (by decide)))⟩) (Eq.trans (pif_neg c_27) (Eq.trans (pif_neg c_28) (Eq.trans (pif_pos hg) (Eq.trans (pif_neg c_30) (pif_pos c_31))))))).symm)⟩⟩, ⟨by rw [ht]; exact hP, hD⟩⟩, hS.F ht⟩) hS.2.2 dX7_goes_129
              · refine lv_aload_n hx hb dX7_goes_94 rfl (lv_at hl 1 rfl) ?_
                refine lv_iload_n hx hb dX7_goes_95 rfl (lv_at hl 2 rfl) ?_
                refine lv_iload_n hx hb dX7_goes_96 rfl (lv_at hl 3 rfl) ?_
                refine lv_iload_n hx hb dX7_goes_97 rfl (lv_at hl 4 rfl) ?_
                refine lv_iconst (v := 1) hx hb dX7_goes_98 (by decide) ?_
                refine tq_V (As := [.int x1, .int x2, .int x3, .int 1]) (rest := []) (ws := (oh_W n a C)) ⟨hx, hb, hml, hown, htg⟩ (e_X7_coinOf l D E G a C n hn hT x1 x2 x3 (1 : Int32) (rg_w u_10.1 (by decide)) (rg_w u_20.1 (by decide)) u_10.2.1) (cwV 4 htg (oh_gV q_1326 q_1328 q_56 q_73 q_1329) rfl rfl rfl pdVX7_coinOf ⟨Nat.le_of_ble_eq_true rfl, Nat.le_of_ble_eq_true rfl⟩) hK hP hG hS (va_recv hK hP (ci := 7) (q0 := 0) rfl (oh_wg (Nat.lt_of_lt_of_le (by decide) hn) (sM_0 hT))) rfl hl.1 rfl (Nat.le_of_ble_eq_true rfl) dX7_goes_99 ⟨Nat.le_of_ble_eq_true rfl, Nat.le_of_ble_eq_true rfl⟩ (fun r_36 hq_37 => ?_)
                refine lv_goto (tgt := 129) hx hb dX7_goes_102 (by decide) ?_
                rw [hQ]
                exact W.iret (v := r_36) hx hb hr (fun t ht hW => ⟨⟨r_36, C, rfl, ⟨hT, hF, ⟨hR, (fun A hA hok => by have hp := (show okPk (A 5 0 2) (A 5 0 3) x1 x2 by rw [← (show gi (C 0) 13 = A 5 0 2 from hA.1 2 (by decide)), ← (show gi (C 0) 15 = A 5 0 3 from hA.1 3 (by decide))]; exact u_10.2.2.2); have h3 : 0 ≤ x3 ∧ x3 < A 5 0 0 := (by rw [← (show gi (C 0) 9 = A 5 0 0 from hA.1 0 (by decide))]; exact u_20.2); have i3 : rg x3 0 23 := (rg_w (lo := 0) (hi := 23) u_20.1 (by decide)); have hgi := hq_26.2 A hA hok hp.1.2 h3.2; have hg := hgi.mp (oh_b1 (rg_w (lo := 0) (hi := 1) (rn_nel (l' := 1) c_29 (oh_rgb hq_26.1) (rg_c (v := 0) (lo := 0) (hi := 0) (by decide)) (by decide)) (by decide)) c_29); exact Eq.trans (hq_37 A hA hok hp.1.2 h3.2) ((Eq.trans (pif_pos ⟨hp, h3, (oh_rgI (p := 0) (q := 4) (rg_w (lo := 0) (hi := 4) (rn_eq c_30 (rg_c (v := 1) (lo := 1) (hi := 1) (by decide))) (by decide)))⟩) (Eq.trans (pif_neg c_27) (Eq.trans (pif_neg c_28) (Eq.trans (pif_pos hg) (pif_pos c_30)))))).symm)⟩⟩, ⟨by rw [ht]; exact hP, hD⟩⟩, hS.F ht⟩) hS.2.2 dX7_goes_129
            · refine lv_aload_n hx hb dX7_goes_81 rfl (lv_at hl 1 rfl) ?_
              refine lv_bipush (v := (-5)) hx hb dX7_goes_82 (by decide) ?_
              refine tm_V (As := [.int (-5)]) (rest := []) ⟨hx, hb, hml, hown, htg⟩ (c_X7_refuse l D E G _ a C n hn hT ((-5) : Int32) (rg_w (rg_c (v := (-5)) (lo := (-5)) (hi := (-5)) (by decide)) (by decide))) (cwV 1 htg (oh_gV q_1071 q_1073 q_29 q_73 q_1074) rfl rfl rfl pdVX7_refuse ⟨Nat.le_of_ble_eq_true rfl, Nat.le_of_ble_eq_true rfl⟩) hK hP hD hG hS hA (va_recv hK hP (ci := 7) (q0 := 0) rfl (oh_wg (Nat.lt_of_lt_of_le (by decide) hn) (sM_0 hT))) rfl hl.1 rfl (Nat.le_of_ble_eq_true rfl) dX7_goes_84 ⟨Nat.le_of_ble_eq_true rfl, Nat.le_of_ble_eq_true rfl⟩ (fun r_38 C_39 H locs hq_40 hP hD hS => ?_)
              obtain ⟨hT, f_41, hq_40⟩ := hq_40
              have hF := fr_tr hF f_41 (by decide) (by decide)
              refine W.widen (k := 0) (n := 0) (Nat.le_refl _) (Nat.le_refl _) ?_
              have t_42 := hT
              rw [hQ]
              exact W.iret (v := r_38) hx hb hr (fun t ht hW => ⟨⟨r_38, C_39, rfl, ⟨hT, hF, ⟨⟨hR.1.fr hF (by decide), hR.2.fr hF (by decide)⟩, (fun A hA hok => by have hp := (show okPk (A 5 0 2) (A 5 0 3) x1 x2 by rw [← (show gi (C 0) 13 = A 5 0 2 from hA.1 2 (by decide)), ← (show gi (C 0) 15 = A 5 0 3 from hA.1 3 (by decide))]; exact u_10.2.2.2); have h3 : 0 ≤ x3 ∧ x3 < A 5 0 0 := (by rw [← (show gi (C 0) 9 = A 5 0 0 from hA.1 0 (by decide))]; exact u_20.2); have i3 : rg x3 0 23 := (rg_w (lo := 0) (hi := 23) u_20.1 (by decide)); have hgi := hq_26.2 A hA hok hp.1.2 h3.2; have hg : ¬ gsA A x1 x2 x3.toNatClampNeg := (fun q => absurd (Eq.trans (Eq.symm c_29) (hgi.mpr q)) (by decide)); exact Eq.trans hq_40 ((Eq.trans (pif_pos ⟨hp, h3, (oh_rgI (p := 0) (q := 4) (rg_w (lo := 0) (hi := 4) (rg_il (rgL_i (rg_il (rnL_leu u_24.2 (rnL_lel u_24.1 (rgL_c (v := 0) (lo := 0) (hi := 0) (by decide)) (rgL_i (rg_any _))) (rgL_c (v := 4) (lo := 4) (hi := 4) (by decide)))))) (by decide)))⟩) (Eq.trans (pif_neg c_27) (Eq.trans (pif_neg c_28) (pif_neg hg))))).symm)⟩⟩, ⟨by rw [ht]; exact hP, hD⟩⟩, hS.F ht⟩) hS.2.2 dX7_goes_87
          · refine lv_aload_n hx hb dX7_goes_68 rfl (lv_at hl 1 rfl) ?_
            refine lv_iload_n hx hb dX7_goes_69 rfl (lv_at hl 2 rfl) ?_
            refine lv_iload_n hx hb dX7_goes_70 rfl (lv_at hl 3 rfl) ?_
            refine lv_iload_n hx hb dX7_goes_71 rfl (lv_at hl 4 rfl) ?_
            refine tq_V (As := [.int x1, .int x2, .int x3]) (rest := []) (ws := (oh_W n a C)) ⟨hx, hb, hml, hown, htg⟩ (e_X7_enginesOf l D E G a C n hn hT x1 x2 x3 (rg_w u_10.1 (by decide)) (rg_w u_20.1 (by decide)) u_10.2.1) (cwV 3 htg (oh_gV q_1322 q_1324 q_55 q_73 q_1325) rfl rfl rfl pdVX7_enginesOf ⟨Nat.le_of_ble_eq_true rfl, Nat.le_of_ble_eq_true rfl⟩) hK hP hG hS (va_recv hK hP (ci := 7) (q0 := 0) rfl (oh_wg (Nat.lt_of_lt_of_le (by decide) hn) (sM_0 hT))) rfl hl.1 rfl (Nat.le_of_ble_eq_true rfl) dX7_goes_72 ⟨Nat.le_of_ble_eq_true rfl, Nat.le_of_ble_eq_true rfl⟩ (fun r_43 hq_44 => ?_)
            rw [hQ]
            exact W.iret (v := r_43) hx hb hr (fun t ht hW => ⟨⟨r_43, C, rfl, ⟨hT, hF, ⟨hR, (fun A hA hok => by have hp := (show okPk (A 5 0 2) (A 5 0 3) x1 x2 by rw [← (show gi (C 0) 13 = A 5 0 2 from hA.1 2 (by decide)), ← (show gi (C 0) 15 = A 5 0 3 from hA.1 3 (by decide))]; exact u_10.2.2.2); have h3 : 0 ≤ x3 ∧ x3 < A 5 0 0 := (by rw [← (show gi (C 0) 9 = A 5 0 0 from hA.1 0 (by decide))]; exact u_20.2); have i3 : rg x3 0 23 := (rg_w (lo := 0) (hi := 23) u_20.1 (by decide)); have hgi := hq_26.2 A hA hok hp.1.2 h3.2; exact Eq.trans (hq_44 A hA hok hp.1.2 h3.2) ((Eq.trans (pif_pos ⟨hp, h3, (oh_rgI (p := 0) (q := 4) (rg_w (lo := 0) (hi := 4) (rn_eq c_28 (rg_c (v := 3) (lo := 3) (hi := 3) (by decide))) (by decide)))⟩) (Eq.trans (pif_neg c_27) (pif_pos c_28)))).symm)⟩⟩, ⟨by rw [ht]; exact hP, hD⟩⟩, hS.F ht⟩) hS.2.2 dX7_goes_75
        · refine lv_iload hx hb dX7_goes_51 (lv_at hl 0 rfl) ?_
          refine lv_if_eq (tgt := 60) hx hb dX7_goes_53 (by decide) (fun (c_45 : r_25 = 0) => ?_) (fun (c_45 : ¬ (r_25 = 0)) => ?_)
          · refine lv_iconst (v := 0) hx hb dX7_goes_60 (by decide) ?_
            rw [hQ]
            exact W.iret (v := 0) hx hb hr (fun t ht hW => ⟨⟨0, C, rfl, ⟨hT, hF, ⟨hR, (fun A hA hok => by have hp := (show okPk (A 5 0 2) (A 5 0 3) x1 x2 by rw [← (show gi (C 0) 13 = A 5 0 2 from hA.1 2 (by decide)), ← (show gi (C 0) 15 = A 5 0 3 from hA.1 3 (by decide))]; exact u_10.2.2.2); have h3 : 0 ≤ x3 ∧ x3 < A 5 0 0 := (by rw [← (show gi (C 0) 9 = A 5 0 0 from hA.1 0 (by decide))]; exact u_20.2); have i3 : rg x3 0 23 := (rg_w (lo := 0) (hi := 23) u_20.1 (by decide)); have hgi := hq_26.2 A hA hok hp.1.2 h3.2; have hg : ¬ gsA A x1 x2 x3.toNatClampNeg := (fun q => absurd (Eq.trans (Eq.symm c_45) (hgi.mpr q)) (by decide)); exact ((Eq.trans (pif_pos ⟨hp, h3, (oh_rgI (p := 0) (q := 4) (rg_w (lo := 0) (hi := 4) (rn_eq c_27 (rg_c (v := 0) (lo := 0) (hi := 0) (by decide))) (by decide)))⟩) (Eq.trans (pif_pos c_27) (pif_neg hg)))).symm)⟩⟩, ⟨by rw [ht]; exact hP, hD⟩⟩, hS.F ht⟩) hS.2.2 dX7_goes_61
          · refine lv_iconst (v := 1) hx hb dX7_goes_56 (by decide) ?_
            refine lv_goto (tgt := 61) hx hb dX7_goes_57 (by decide) ?_
            rw [hQ]
            exact W.iret (v := 1) hx hb hr (fun t ht hW => ⟨⟨1, C, rfl, ⟨hT, hF, ⟨hR, (fun A hA hok => by have hp := (show okPk (A 5 0 2) (A 5 0 3) x1 x2 by rw [← (show gi (C 0) 13 = A 5 0 2 from hA.1 2 (by decide)), ← (show gi (C 0) 15 = A 5 0 3 from hA.1 3 (by decide))]; exact u_10.2.2.2); have h3 : 0 ≤ x3 ∧ x3 < A 5 0 0 := (by rw [← (show gi (C 0) 9 = A 5 0 0 from hA.1 0 (by decide))]; exact u_20.2); have i3 : rg x3 0 23 := (rg_w (lo := 0) (hi := 23) u_20.1 (by decide)); have hgi := hq_26.2 A hA hok hp.1.2 h3.2; have hg := hgi.mp (oh_b1 (rg_w (lo := 0) (hi := 1) (rn_nel (l' := 1) c_45 (oh_rgb hq_26.1) (rg_c (v := 0) (lo := 0) (hi := 0) (by decide)) (by decide)) (by decide)) c_45); exact ((Eq.trans (pif_pos ⟨hp, h3, (oh_rgI (p := 0) (q := 4) (rg_w (lo := 0) (hi := 4) (rn_eq c_27 (rg_c (v := 0) (lo := 0) (hi := 0) (by decide))) (by decide)))⟩) (Eq.trans (pif_pos c_27) (pif_pos hg)))).symm)⟩⟩, ⟨by rw [ht]; exact hP, hD⟩⟩, hS.F ht⟩) hS.2.2 dX7_goes_61
      · have u_46 := hq_22.2.2 c_23
        refine lv_aload_n hx hb dX7_goes_30 rfl (lv_at hl 0 rfl) ?_
        refine lv_bipush (v := (-2)) hx hb dX7_goes_31 (by decide) ?_
        refine tm_V (As := [.int (-2)]) (rest := []) ⟨hx, hb, hml, hown, htg⟩ (c_X7_refuse l D E G _ a C n hn hT ((-2) : Int32) (rg_w (rg_c (v := (-2)) (lo := (-2)) (hi := (-2)) (by decide)) (by decide))) (cwV 1 htg (oh_gV q_1071 q_1073 q_29 q_73 q_1074) rfl rfl rfl pdVX7_refuse ⟨Nat.le_of_ble_eq_true rfl, Nat.le_of_ble_eq_true rfl⟩) hK hP hD hG hS hA (va_recv hK hP (ci := 7) (q0 := 0) rfl (oh_wg (Nat.lt_of_lt_of_le (by decide) hn) (sM_0 hT))) rfl hl.1 rfl (Nat.le_of_ble_eq_true rfl) dX7_goes_33 ⟨Nat.le_of_ble_eq_true rfl, Nat.le_of_ble_eq_true rfl⟩ (fun r_47 C_48 H locs hq_49 hP hD hS => ?_)
        obtain ⟨hT, f_50, hq_49⟩ := hq_49
        have hF := fr_tr hF f_50 (by decide) (by decide)
        refine W.widen (k := 0) (n := 0) (Nat.le_refl _) (Nat.le_refl _) ?_
        have t_51 := hT
        rw [hQ]
        exact W.iret (v := r_47) hx hb hr (fun t ht hW => ⟨⟨r_47, C_48, rfl, ⟨hT, hF, ⟨⟨hR.1.fr hF (by decide), hR.2.fr hF (by decide)⟩, (fun A hA hok => Eq.trans hq_49 (pif_neg (fun h8 => (oh_in64 (l' := 0) (k' := 4) rfl rfl u_46) h8.2.2)).symm)⟩⟩, ⟨by rw [ht]; exact hP, hD⟩⟩, hS.F ht⟩) hS.2.2 dX7_goes_36

set_option maxHeartbeats 4000000 in
set_option maxRecDepth 100000 in
theorem e_X6_orStuck (l : Launch) (D : va_G) (E : Nat → ClassId) (G : Nat → Nat) (sz : Nat) (a : Nat → Nat) (C : Nat → va_E) (hT : TyX a E C) (x1 : Int32) : Met l yX6_orStuck (oh_w yX6_orStuck cX6_orStuck 2 (some .int)) ({ frames := 2, cells := 0, slots := 0, locals := 44 }) (oh_Pm D E G [.ref (a 0), .int x1] (oh_W 35 a C) sz) (va_Qi (fun r (u : Nat → va_E) => TyX a E u ∧ fr [(7, 8)] [] C u ∧ (r = pif (x1 = 1000000000) (-5) x1)) (oh_B D (va_A (oh_W 35 a C) sz) (fun u => oh_W 35 a u)) (va_A (oh_W 35 a C) sz)) 0 0 (va_A (oh_W 35 a C) sz) := by
  refine Met.ofW (cc := cX6_orStuck) (maxL := 2) (ret := (some .int)) (by decide) rfl ?_
  intro p e s m args below meth c s₁ B hml hv
  obtain ⟨rfl, hsz, hP, hK, hD0, hG⟩ := hv
  have hx := B.exec
  have hb := B.bytes
  have hr := B.returns
  have hts := atoms_spec (ws := (oh_w yX6_orStuck cX6_orStuck 2 (some .int))) B.pre
  have htg : ∀ w ∈ oh_t, w.before _ s = true := fun w h => hts w (List.mem_cons_of_mem _ h)
  have hown : s.vm.findClass RX6 = some m.cls := findClass_of_methodNamed B.named
  have hlocks := B.notSynchronized
  have hT0 := hT
  subst hsz
  have hD := hD0.self (sz := s.heap.size)
  generalize hAe : va_A (oh_W 35 a C) s.heap.size = A at hD hG ⊢
  have hA : ∀ q : Nat, s.heap.size ≤ q → A q := fun q h => by rw [← hAe]; exact Or.inr h
  have hS : va_S A s.heap s.heap [] := va_S.rf
  have hF : fr [(7, 8)] [] C C := fr_rf
  have hl := lv_entry ([.ref (a 0), .int x1]) (n := 2) (Nat.le_of_ble_eq_true rfl)
  rw [lg_entry_eq]
  generalize (lg_sl ([.ref (a 0), .int x1]) ++ List.replicate (2 - (lg_sl ([.ref (a 0), .int x1])).length) Slot.unset).toArray = ls at hl ⊢
  have hl : lv_has ls 2 [(0, .ref (a 0)), (1, .int x1)] := hl
  refine oh_genQ (fun Q hQ => ?_)
  refine lv_iload_n hx hb dX6_orStuck_0 rfl (lv_at hl 1 rfl) ?_
  refine lv_ldc (v := 1000000000) hx hb hown (htg _ q_803) dX6_orStuck_1 ?_
  refine lv_icmp_ne (tgt := 15) hx hb dX6_orStuck_3 (by decide) (fun (c_1 : ¬ (x1 = 1000000000)) => ?_) (fun (c_1 : x1 = 1000000000) => ?_)
  · refine lv_iload_n hx hb dX6_orStuck_15 rfl (lv_at hl 1 rfl) ?_
    rw [hQ]
    exact W.iret (v := x1) hx hb hr (fun t ht hW => ⟨⟨x1, C, rfl, ⟨hT, hF, (pif_neg c_1).symm⟩, ⟨by rw [ht]; exact hP, hD⟩⟩, hS.F ht⟩) hS.2.2 dX6_orStuck_16
  · refine lv_aload_n hx hb dX6_orStuck_6 rfl (lv_at hl 0 rfl) ?_
    refine lv_bipush (v := (-5)) hx hb dX6_orStuck_7 (by decide) ?_
    refine tm_V (As := [.int (-5)]) (rest := []) ⟨hx, hb, hml, hown, htg⟩ (c_X6_refuse l D E G _ a C hT ((-5) : Int32)) (cwV 1 htg (oh_gV q_296 q_298 q_0 q_66 q_299) rfl rfl rfl pdVX6_refuse ⟨Nat.le_of_ble_eq_true rfl, Nat.le_of_ble_eq_true rfl⟩) hK hP hD hG hS hA (va_recv hK hP (ci := 6) (q0 := 0) rfl (oh_wg (by decide) (sX_0 hT))) rfl hl.1 rfl (Nat.le_of_ble_eq_true rfl) dX6_orStuck_9 ⟨Nat.le_of_ble_eq_true rfl, Nat.le_of_ble_eq_true rfl⟩ (fun r_2 C_3 H locs hq_4 hP hD hS => ?_)
    obtain ⟨hT, f_5, hq_4⟩ := hq_4
    have hF := fr_tr hF f_5 (by decide) (by decide)
    refine W.widen (k := 0) (n := 0) (Nat.le_refl _) (Nat.le_refl _) ?_
    have t_6 := hT
    refine lv_goto (tgt := 16) hx hb dX6_orStuck_12 (by decide) ?_
    rw [hQ]
    exact W.iret (v := r_2) hx hb hr (fun t ht hW => ⟨⟨r_2, C_3, rfl, ⟨hT, hF, (Eq.trans hq_4 (pif_pos c_1).symm)⟩, ⟨by rw [ht]; exact hP, hD⟩⟩, hS.F ht⟩) hS.2.2 dX6_orStuck_16

set_option maxHeartbeats 4000000 in
set_option maxRecDepth 100000 in
theorem e_X6_cheapest (l : Launch) (D : va_G) (E : Nat → ClassId) (G : Nat → Nat) (sz : Nat) (a : Nat → Nat) (C : Nat → va_E) (hT : TyX a E C) (x1 : Int32) (x2 : Int32) (x3 : Int32) (x4 : Int32) : Met l yX6_cheapest (oh_w yX6_cheapest cX6_cheapest 5 (some .int)) ({ frames := 5, cells := 0, slots := 0, locals := 125 }) (oh_Pm D E G [.ref (a 0), .int x1, .int x2, .int x3, .int x4] (oh_W 35 a C) sz) (va_Qi (fun r (u : Nat → va_E) => TyX a E u ∧ fr [(7, 8), (9, 10), (24, 28)] [] C u ∧ (∀ A : LA, absX 10 C A → okA A → r = spChp A x1 x2 x3 x4 1)) (oh_B D (va_A (oh_W 35 a C) sz) (fun u => oh_W 35 a u)) (va_A (oh_W 35 a C) sz)) 0 0 (va_A (oh_W 35 a C) sz) := by
  refine Met.ofW (cc := cX6_cheapest) (maxL := 5) (ret := (some .int)) (by decide) rfl ?_
  intro p e s m args below meth c s₁ B hml hv
  obtain ⟨rfl, hsz, hP, hK, hD0, hG⟩ := hv
  have hx := B.exec
  have hb := B.bytes
  have hr := B.returns
  have hts := atoms_spec (ws := (oh_w yX6_cheapest cX6_cheapest 5 (some .int))) B.pre
  have htg : ∀ w ∈ oh_t, w.before _ s = true := fun w h => hts w (List.mem_cons_of_mem _ h)
  have hown : s.vm.findClass RX6 = some m.cls := findClass_of_methodNamed B.named
  have hlocks := B.notSynchronized
  have hT0 := hT
  subst hsz
  have hD := hD0.self (sz := s.heap.size)
  generalize hAe : va_A (oh_W 35 a C) s.heap.size = A at hD hG ⊢
  have hA : ∀ q : Nat, s.heap.size ≤ q → A q := fun q h => by rw [← hAe]; exact Or.inr h
  have hS : va_S A s.heap s.heap [] := va_S.rf
  have hF : fr [(7, 8), (9, 10), (24, 28)] [] C C := fr_rf
  have hl := lv_entry ([.ref (a 0), .int x1, .int x2, .int x3, .int x4]) (n := 5) (Nat.le_of_ble_eq_true rfl)
  rw [lg_entry_eq]
  generalize (lg_sl ([.ref (a 0), .int x1, .int x2, .int x3, .int x4]) ++ List.replicate (5 - (lg_sl ([.ref (a 0), .int x1, .int x2, .int x3, .int x4])).length) Slot.unset).toArray = ls at hl ⊢
  have hl : lv_has ls 5 [(0, .ref (a 0)), (1, .int x1), (2, .int x2), (3, .int x3), (4, .int x4)] := hl
  refine oh_genQ (fun Q hQ => ?_)
  refine lv_aload_n hx hb dX6_cheapest_0 rfl (lv_at hl 0 rfl) ?_
  refine lv_iload_n hx hb dX6_cheapest_1 rfl (lv_at hl 1 rfl) ?_
  refine lv_iload_n hx hb dX6_cheapest_2 rfl (lv_at hl 2 rfl) ?_
  refine lv_iload_n hx hb dX6_cheapest_3 rfl (lv_at hl 3 rfl) ?_
  refine lv_iload hx hb dX6_cheapest_4 (lv_at hl 4 rfl) ?_
  refine tq_V (As := [.int x1, .int x2, .int x3, .int x4]) (rest := []) (ws := (oh_W 35 a C)) ⟨hx, hb, hml, hown, htg⟩ (e_X6_isJourney l D E G a C hT x1 x2 x3 x4) (cwV 4 htg (oh_gV q_776 q_778 q_17 q_66 q_779) rfl rfl rfl pdVX6_isJourney ⟨Nat.le_of_ble_eq_true rfl, Nat.le_of_ble_eq_true rfl⟩) hK hP hG hS (va_recv hK hP (ci := 6) (q0 := 0) rfl (oh_wg (by decide) (sX_0 hT))) rfl hl.1 rfl (Nat.le_of_ble_eq_true rfl) dX6_cheapest_6 ⟨Nat.le_of_ble_eq_true rfl, Nat.le_of_ble_eq_true rfl⟩ (fun r_1 hq_2 => ?_)
  refine lv_if_ne (tgt := 19) hx hb dX6_cheapest_9 (by decide) (fun (c_3 : ¬ (r_1 = 0)) => ?_) (fun (c_3 : r_1 = 0) => ?_)
  · have u_4 := hq_2.2.1 c_3
    refine lv_aload_n hx hb dX6_cheapest_19 rfl (lv_at hl 0 rfl) ?_
    refine lv_aload_n hx hb dX6_cheapest_20 rfl (lv_at hl 0 rfl) ?_
    refine va_get (D := D) (ci := 6) (v := .ref (a 3)) (C := RX6) (T := TX6) (N := 9) hx hb htg ig_6 hown hK hP 0 (oh_wg (by decide) (sX_0 hT)) rfl 3 (by decide) (htg _ q_261) (fun _ h9 => h9) rfl dX6_cheapest_21 ?_
    refine lv_iload_n hx hb dX6_cheapest_24 rfl (lv_at hl 1 rfl) ?_
    refine lv_iload_n hx hb dX6_cheapest_25 rfl (lv_at hl 2 rfl) ?_
    refine lv_iload_n hx hb dX6_cheapest_26 rfl (lv_at hl 3 rfl) ?_
    refine lv_iload hx hb dX6_cheapest_27 (lv_at hl 4 rfl) ?_
    refine lv_iconst (v := 1) hx hb dX6_cheapest_29 (by decide) ?_
    refine tm_V (As := [.int x1, .int x2, .int x3, .int x4, .int 1]) (rest := [.ref (a 0)]) ⟨hx, hb, hml, hown, htg⟩ (e_X5_leastCoin l D E G _ a C hT x1 x2 x3 x4 (1 : Int32) (rg_w u_4.1 (by decide)) (rg_w u_4.2.1 (by decide)) (rg_w u_4.2.2.1 (by decide))) (cwV 5 htg (oh_gV q_780 q_781 q_782 q_68 q_783) rfl rfl rfl pdVX5_leastCoin ⟨Nat.le_of_ble_eq_true rfl, Nat.le_of_ble_eq_true rfl⟩) hK hP hD hG hS hA (va_recv hK hP (ci := 5) (q0 := 3) rfl (oh_wg (by decide) (sX_3 hT))) rfl hl.1 rfl (Nat.le_of_ble_eq_true rfl) dX6_cheapest_30 ⟨Nat.le_of_ble_eq_true rfl, Nat.le_of_ble_eq_true rfl⟩ (fun r_5 C_6 H locs hq_7 hP hD hS => ?_)
    obtain ⟨hT, f_8, hq_7⟩ := hq_7
    have hF := fr_tr hF f_8 (by decide) (by decide)
    refine W.widen (k := 0) (n := 0) (Nat.le_refl _) (Nat.le_refl _) ?_
    have t_9 := hT
    refine tm_V (As := [.int r_5]) (rest := []) ⟨hx, hb, hml, hown, htg⟩ (e_X6_orStuck l D E G _ a C_6 hT r_5) (cwV 1 htg (oh_gV q_799 q_801 q_21 q_66 q_802) rfl rfl rfl pdVX6_orStuck ⟨Nat.le_of_ble_eq_true rfl, Nat.le_of_ble_eq_true rfl⟩) hK hP hD hG hS hA (va_recv hK hP (ci := 6) (q0 := 0) rfl (oh_wg (by decide) (sX_0 hT))) rfl hl.1 rfl (Nat.le_of_ble_eq_true rfl) dX6_cheapest_33 ⟨Nat.le_of_ble_eq_true rfl, Nat.le_of_ble_eq_true rfl⟩ (fun r_10 C_11 H locs hq_12 hP hD hS => ?_)
    obtain ⟨hT, f_13, hq_12⟩ := hq_12
    have hF := fr_tr hF f_13 (by decide) (by decide)
    refine W.widen (k := 0) (n := 0) (Nat.le_refl _) (Nat.le_refl _) ?_
    have t_14 := hT
    rw [hQ]
    exact W.iret (v := r_10) hx hb hr (fun t ht hW => ⟨⟨r_10, C_11, rfl, ⟨hT, hF, (fun A hA hok => by have hj : okJ A x1 x2 x3 x4 := (by unfold okJ; rw [← (show ga (C 10) ((2 : Int32)).toNatClampNeg = A 5 0 2 from hA.1 2 (by decide)), ← (show ga (C 10) ((3 : Int32)).toNatClampNeg = A 5 0 3 from hA.1 3 (by decide))]; exact u_4.2.2.2); exact Eq.trans (Eq.trans hq_12 (lc_st hok (rg_w (lo := 0) (hi := 4) u_4.1 (by decide)) hj.1.1.2 ⟨by decide, by decide⟩ (rg_w (lo := 0) (hi := 15) u_4.2.1 (by decide)) (rg_w (lo := 0) (hi := 15) u_4.2.2.1 (by decide)) (hq_7 A hA hok hj.1.1.2 ⟨by decide, by decide⟩))) (pif_pos ⟨hj, ⟨by decide, by decide⟩⟩).symm)⟩, ⟨by rw [ht]; exact hP, hD⟩⟩, hS.F ht⟩) hS.2.2 dX6_cheapest_36
  · have u_15 := hq_2.2.2 c_3
    refine lv_aload_n hx hb dX6_cheapest_12 rfl (lv_at hl 0 rfl) ?_
    refine lv_bipush (v := (-2)) hx hb dX6_cheapest_13 (by decide) ?_
    refine tm_V (As := [.int (-2)]) (rest := []) ⟨hx, hb, hml, hown, htg⟩ (c_X6_refuse l D E G _ a C hT ((-2) : Int32)) (cwV 1 htg (oh_gV q_296 q_298 q_0 q_66 q_299) rfl rfl rfl pdVX6_refuse ⟨Nat.le_of_ble_eq_true rfl, Nat.le_of_ble_eq_true rfl⟩) hK hP hD hG hS hA (va_recv hK hP (ci := 6) (q0 := 0) rfl (oh_wg (by decide) (sX_0 hT))) rfl hl.1 rfl (Nat.le_of_ble_eq_true rfl) dX6_cheapest_15 ⟨Nat.le_of_ble_eq_true rfl, Nat.le_of_ble_eq_true rfl⟩ (fun r_16 C_17 H locs hq_18 hP hD hS => ?_)
    obtain ⟨hT, f_19, hq_18⟩ := hq_18
    have hF := fr_tr hF f_19 (by decide) (by decide)
    refine W.widen (k := 0) (n := 0) (Nat.le_refl _) (Nat.le_refl _) ?_
    have t_20 := hT
    rw [hQ]
    exact W.iret (v := r_16) hx hb hr (fun t ht hW => ⟨⟨r_16, C_17, rfl, ⟨hT, hF, (fun A hA hok => Eq.trans hq_18 (pif_neg (fun h8 => by have h7 := h8.1; unfold okJ at h7; rw [← (show ga (C 10) ((2 : Int32)).toNatClampNeg = A 5 0 2 from hA.1 2 (by decide)), ← (show ga (C 10) ((3 : Int32)).toNatClampNeg = A 5 0 3 from hA.1 3 (by decide))] at h7; exact u_15 h7)).symm)⟩, ⟨by rw [ht]; exact hP, hD⟩⟩, hS.F ht⟩) hS.2.2 dX6_cheapest_18

set_option maxHeartbeats 4000000 in
set_option maxRecDepth 100000 in
theorem e_X6_again (l : Launch) (D : va_G) (E : Nat → ClassId) (G : Nat → Nat) (sz : Nat) (a : Nat → Nat) (C : Nat → va_E) (hT : TyX a E C) (x1 : Int32) (x2 : Int32) (x3 : Int32) (x4 : Int32) (x5 : Int32) : Met l yX6_again (oh_w yX6_again cX6_again 6 (some .int)) ({ frames := 5, cells := 0, slots := 0, locals := 125 }) (oh_Pm D E G [.ref (a 0), .int x1, .int x2, .int x3, .int x4, .int x5] (oh_W 35 a C) sz) (va_Qi (fun r (u : Nat → va_E) => TyX a E u ∧ fr [(7, 8), (9, 10), (24, 28)] [] C u ∧ (∀ A : LA, absX 10 C A → okA A → r = spChp A x1 x2 x3 x4 x5)) (oh_B D (va_A (oh_W 35 a C) sz) (fun u => oh_W 35 a u)) (va_A (oh_W 35 a C) sz)) 0 0 (va_A (oh_W 35 a C) sz) := by
  refine Met.ofW (cc := cX6_again) (maxL := 6) (ret := (some .int)) (by decide) rfl ?_
  intro p e s m args below meth c s₁ B hml hv
  obtain ⟨rfl, hsz, hP, hK, hD0, hG⟩ := hv
  have hx := B.exec
  have hb := B.bytes
  have hr := B.returns
  have hts := atoms_spec (ws := (oh_w yX6_again cX6_again 6 (some .int))) B.pre
  have htg : ∀ w ∈ oh_t, w.before _ s = true := fun w h => hts w (List.mem_cons_of_mem _ h)
  have hown : s.vm.findClass RX6 = some m.cls := findClass_of_methodNamed B.named
  have hlocks := B.notSynchronized
  have hT0 := hT
  subst hsz
  have hD := hD0.self (sz := s.heap.size)
  generalize hAe : va_A (oh_W 35 a C) s.heap.size = A at hD hG ⊢
  have hA : ∀ q : Nat, s.heap.size ≤ q → A q := fun q h => by rw [← hAe]; exact Or.inr h
  have hS : va_S A s.heap s.heap [] := va_S.rf
  have hF : fr [(7, 8), (9, 10), (24, 28)] [] C C := fr_rf
  have hl := lv_entry ([.ref (a 0), .int x1, .int x2, .int x3, .int x4, .int x5]) (n := 6) (Nat.le_of_ble_eq_true rfl)
  rw [lg_entry_eq]
  generalize (lg_sl ([.ref (a 0), .int x1, .int x2, .int x3, .int x4, .int x5]) ++ List.replicate (6 - (lg_sl ([.ref (a 0), .int x1, .int x2, .int x3, .int x4, .int x5])).length) Slot.unset).toArray = ls at hl ⊢
  have hl : lv_has ls 6 [(0, .ref (a 0)), (1, .int x1), (2, .int x2), (3, .int x3), (4, .int x4), (5, .int x5)] := hl
  refine oh_genQ (fun Q hQ => ?_)
  refine lv_aload_n hx hb dX6_again_0 rfl (lv_at hl 0 rfl) ?_
  refine lv_iload_n hx hb dX6_again_1 rfl (lv_at hl 1 rfl) ?_
  refine lv_iload_n hx hb dX6_again_2 rfl (lv_at hl 2 rfl) ?_
  refine lv_iload_n hx hb dX6_again_3 rfl (lv_at hl 3 rfl) ?_
  refine lv_iload hx hb dX6_again_4 (lv_at hl 4 rfl) ?_
  refine tq_V (As := [.int x1, .int x2, .int x3, .int x4]) (rest := []) (ws := (oh_W 35 a C)) ⟨hx, hb, hml, hown, htg⟩ (e_X6_isJourney l D E G a C hT x1 x2 x3 x4) (cwV 4 htg (oh_gV q_776 q_778 q_17 q_66 q_779) rfl rfl rfl pdVX6_isJourney ⟨Nat.le_of_ble_eq_true rfl, Nat.le_of_ble_eq_true rfl⟩) hK hP hG hS (va_recv hK hP (ci := 6) (q0 := 0) rfl (oh_wg (by decide) (sX_0 hT))) rfl hl.1 rfl (Nat.le_of_ble_eq_true rfl) dX6_again_6 ⟨Nat.le_of_ble_eq_true rfl, Nat.le_of_ble_eq_true rfl⟩ (fun r_1 hq_2 => ?_)
  refine lv_if_eq (tgt := 23) hx hb dX6_again_9 (by decide) (fun (c_3 : r_1 = 0) => ?_) (fun (c_3 : ¬ (r_1 = 0)) => ?_)
  · have u_4 := hq_2.2.2 c_3
    refine lv_aload_n hx hb dX6_again_23 rfl (lv_at hl 0 rfl) ?_
    refine lv_bipush (v := (-2)) hx hb dX6_again_24 (by decide) ?_
    refine tm_V (As := [.int (-2)]) (rest := []) ⟨hx, hb, hml, hown, htg⟩ (c_X6_refuse l D E G _ a C hT ((-2) : Int32)) (cwV 1 htg (oh_gV q_296 q_298 q_0 q_66 q_299) rfl rfl rfl pdVX6_refuse ⟨Nat.le_of_ble_eq_true rfl, Nat.le_of_ble_eq_true rfl⟩) hK hP hD hG hS hA (va_recv hK hP (ci := 6) (q0 := 0) rfl (oh_wg (by decide) (sX_0 hT))) rfl hl.1 rfl (Nat.le_of_ble_eq_true rfl) dX6_again_26 ⟨Nat.le_of_ble_eq_true rfl, Nat.le_of_ble_eq_true rfl⟩ (fun r_5 C_6 H locs hq_7 hP hD hS => ?_)
    obtain ⟨hT, f_8, hq_7⟩ := hq_7
    have hF := fr_tr hF f_8 (by decide) (by decide)
    refine W.widen (k := 0) (n := 0) (Nat.le_refl _) (Nat.le_refl _) ?_
    have t_9 := hT
    rw [hQ]
    exact W.iret (v := r_5) hx hb hr (fun t ht hW => ⟨⟨r_5, C_6, rfl, ⟨hT, hF, (fun A hA hok => Eq.trans hq_7 (pif_neg (fun h8 => by have h7 := h8.1; unfold okJ at h7; rw [← (show ga (C 10) ((2 : Int32)).toNatClampNeg = A 5 0 2 from hA.1 2 (by decide)), ← (show ga (C 10) ((3 : Int32)).toNatClampNeg = A 5 0 3 from hA.1 3 (by decide))] at h7; exact u_4 h7)).symm)⟩, ⟨by rw [ht]; exact hP, hD⟩⟩, hS.F ht⟩) hS.2.2 dX6_again_29
  · have u_10 := hq_2.2.1 c_3
    refine lv_iload hx hb dX6_again_12 (lv_at hl 5 rfl) ?_
    refine lv_iconst (v := 1) hx hb dX6_again_14 (by decide) ?_
    refine lv_bipush (v := 20) hx hb dX6_again_15 (by decide) ?_
    refine tq_S (As := [.int x5, .int 1, .int 20]) (rest := []) (ws := []) ⟨hx, hb, hml, hown, htg⟩ (c_X6_within l D E G x5 (1 : Int32) (20 : Int32)) (va_cwS 3 htg (oh_gS q_293 q_294 q_66 q_295) rfl rfl rfl pdX6_within ⟨Nat.le_of_ble_eq_true rfl, Nat.le_of_ble_eq_true rfl⟩) hK va_nil hG hS rfl hl.1 rfl (Nat.le_of_ble_eq_true rfl) dX6_again_17 ⟨Nat.le_of_ble_eq_true rfl, Nat.le_of_ble_eq_true rfl⟩ (fun r_11 hq_12 => ?_)
    refine lv_if_ne (tgt := 30) hx hb dX6_again_20 (by decide) (fun (c_13 : ¬ (r_11 = 0)) => ?_) (fun (c_13 : r_11 = 0) => ?_)
    · have u_14 := hq_12.2.1 c_13
      refine lv_aload_n hx hb dX6_again_30 rfl (lv_at hl 0 rfl) ?_
      refine lv_aload_n hx hb dX6_again_31 rfl (lv_at hl 0 rfl) ?_
      refine va_get (D := D) (ci := 6) (v := .ref (a 3)) (C := RX6) (T := TX6) (N := 9) hx hb htg ig_6 hown hK hP 0 (oh_wg (by decide) (sX_0 hT)) rfl 3 (by decide) (htg _ q_261) (fun _ h9 => h9) rfl dX6_again_32 ?_
      refine lv_iload_n hx hb dX6_again_35 rfl (lv_at hl 1 rfl) ?_
      refine lv_iload_n hx hb dX6_again_36 rfl (lv_at hl 2 rfl) ?_
      refine lv_iload_n hx hb dX6_again_37 rfl (lv_at hl 3 rfl) ?_
      refine lv_iload hx hb dX6_again_38 (lv_at hl 4 rfl) ?_
      refine lv_iload hx hb dX6_again_40 (lv_at hl 5 rfl) ?_
      refine tm_V (As := [.int x1, .int x2, .int x3, .int x4, .int x5]) (rest := [.ref (a 0)]) ⟨hx, hb, hml, hown, htg⟩ (e_X5_leastCoin l D E G _ a C hT x1 x2 x3 x4 x5 (rg_w u_10.1 (by decide)) (rg_w u_10.2.1 (by decide)) (rg_w u_10.2.2.1 (by decide))) (cwV 5 htg (oh_gV q_780 q_781 q_782 q_68 q_783) rfl rfl rfl pdVX5_leastCoin ⟨Nat.le_of_ble_eq_true rfl, Nat.le_of_ble_eq_true rfl⟩) hK hP hD hG hS hA (va_recv hK hP (ci := 5) (q0 := 3) rfl (oh_wg (by decide) (sX_3 hT))) rfl hl.1 rfl (Nat.le_of_ble_eq_true rfl) dX6_again_42 ⟨Nat.le_of_ble_eq_true rfl, Nat.le_of_ble_eq_true rfl⟩ (fun r_15 C_16 H locs hq_17 hP hD hS => ?_)
      obtain ⟨hT, f_18, hq_17⟩ := hq_17
      have hF := fr_tr hF f_18 (by decide) (by decide)
      refine W.widen (k := 0) (n := 0) (Nat.le_refl _) (Nat.le_refl _) ?_
      have t_19 := hT
      refine tm_V (As := [.int r_15]) (rest := []) ⟨hx, hb, hml, hown, htg⟩ (e_X6_orStuck l D E G _ a C_16 hT r_15) (cwV 1 htg (oh_gV q_799 q_801 q_21 q_66 q_802) rfl rfl rfl pdVX6_orStuck ⟨Nat.le_of_ble_eq_true rfl, Nat.le_of_ble_eq_true rfl⟩) hK hP hD hG hS hA (va_recv hK hP (ci := 6) (q0 := 0) rfl (oh_wg (by decide) (sX_0 hT))) rfl hl.1 rfl (Nat.le_of_ble_eq_true rfl) dX6_again_45 ⟨Nat.le_of_ble_eq_true rfl, Nat.le_of_ble_eq_true rfl⟩ (fun r_20 C_21 H locs hq_22 hP hD hS => ?_)
      obtain ⟨hT, f_23, hq_22⟩ := hq_22
      have hF := fr_tr hF f_23 (by decide) (by decide)
      refine W.widen (k := 0) (n := 0) (Nat.le_refl _) (Nat.le_refl _) ?_
      have t_24 := hT
      rw [hQ]
      exact W.iret (v := r_20) hx hb hr (fun t ht hW => ⟨⟨r_20, C_21, rfl, ⟨hT, hF, (fun A hA hok => by have hj : okJ A x1 x2 x3 x4 := (by unfold okJ; rw [← (show ga (C 10) ((2 : Int32)).toNatClampNeg = A 5 0 2 from hA.1 2 (by decide)), ← (show ga (C 10) ((3 : Int32)).toNatClampNeg = A 5 0 3 from hA.1 3 (by decide))]; exact u_10.2.2.2); exact Eq.trans (Eq.trans hq_22 (lc_st hok (rg_w (lo := 0) (hi := 4) u_10.1 (by decide)) hj.1.1.2 (rg_w (lo := 0) (hi := 20) (rn_leu u_14.2 (rn_lel u_14.1 (rg_c (v := 1) (lo := 1) (hi := 1) (by decide)) (rg_any _)) (rg_c (v := 20) (lo := 20) (hi := 20) (by decide))) (by decide)) (rg_w (lo := 0) (hi := 15) u_10.2.1 (by decide)) (rg_w (lo := 0) (hi := 15) u_10.2.2.1 (by decide)) (hq_17 A hA hok hj.1.1.2 (rg_w (lo := 0) (hi := 20) (rn_leu u_14.2 (rn_lel u_14.1 (rg_c (v := 1) (lo := 1) (hi := 1) (by decide)) (rg_any _)) (rg_c (v := 20) (lo := 20) (hi := 20) (by decide))) (by decide))))) (pif_pos ⟨hj, (oh_rgI (p := 1) (q := 20) (rg_w (lo := 1) (hi := 20) (rn_leu u_14.2 (rn_lel u_14.1 (rg_c (v := 1) (lo := 1) (hi := 1) (by decide)) (rg_any _)) (rg_c (v := 20) (lo := 20) (hi := 20) (by decide))) (by decide)))⟩).symm)⟩, ⟨by rw [ht]; exact hP, hD⟩⟩, hS.F ht⟩) hS.2.2 dX6_again_48
    · have u_25 := hq_12.2.2 c_13
      refine lv_aload_n hx hb dX6_again_23 rfl (lv_at hl 0 rfl) ?_
      refine lv_bipush (v := (-2)) hx hb dX6_again_24 (by decide) ?_
      refine tm_V (As := [.int (-2)]) (rest := []) ⟨hx, hb, hml, hown, htg⟩ (c_X6_refuse l D E G _ a C hT ((-2) : Int32)) (cwV 1 htg (oh_gV q_296 q_298 q_0 q_66 q_299) rfl rfl rfl pdVX6_refuse ⟨Nat.le_of_ble_eq_true rfl, Nat.le_of_ble_eq_true rfl⟩) hK hP hD hG hS hA (va_recv hK hP (ci := 6) (q0 := 0) rfl (oh_wg (by decide) (sX_0 hT))) rfl hl.1 rfl (Nat.le_of_ble_eq_true rfl) dX6_again_26 ⟨Nat.le_of_ble_eq_true rfl, Nat.le_of_ble_eq_true rfl⟩ (fun r_26 C_27 H locs hq_28 hP hD hS => ?_)
      obtain ⟨hT, f_29, hq_28⟩ := hq_28
      have hF := fr_tr hF f_29 (by decide) (by decide)
      refine W.widen (k := 0) (n := 0) (Nat.le_refl _) (Nat.le_refl _) ?_
      have t_30 := hT
      rw [hQ]
      exact W.iret (v := r_26) hx hb hr (fun t ht hW => ⟨⟨r_26, C_27, rfl, ⟨hT, hF, (fun A hA hok => Eq.trans hq_28 (pif_neg (fun h8 => u_25 h8.2)).symm)⟩, ⟨by rw [ht]; exact hP, hD⟩⟩, hS.F ht⟩) hS.2.2 dX6_again_29

set_option maxHeartbeats 4000000 in
set_option maxRecDepth 100000 in
theorem e_X7_again (l : Launch) (D : va_G) (E : Nat → ClassId) (G : Nat → Nat) (sz : Nat) (a : Nat → Nat) (C : Nat → va_E) (n : Nat) (hn : 74 ≤ n) (hT : TyM a E C) (x1 : Int32) (x2 : Int32) (x3 : Int32) (x4 : Int32) (x5 : Int32) (hR : RelM C) : Met l yX7_again (oh_w yX7_again cX7_again 7 (some .int)) ({ frames := 7, cells := 0, slots := 0, locals := 177 }) (oh_Pm D E G [.ref (a 0), .int x1, .int x2, .int x3, .int x4, .int x5] (oh_W n a C) sz) (va_Qi (fun r (u : Nat → va_E) => TyM a E u ∧ fr [(8, 9), (15, 16)] [] C u ∧ (RelM u) ∧ (∀ A : LA, absM C A → okA A → r = spChp A x1 x2 x3 x4 x5)) (oh_B D (va_A (oh_W n a C) sz) (fun u => oh_W n a u)) (va_A (oh_W n a C) sz)) 0 0 (va_A (oh_W n a C) sz) := by
  refine Met.ofW (cc := cX7_again) (maxL := 7) (ret := (some .int)) (by decide) rfl ?_
  intro p e s m args below meth c s₁ B hml hv
  obtain ⟨rfl, hsz, hP, hK, hD0, hG⟩ := hv
  have hx := B.exec
  have hb := B.bytes
  have hr := B.returns
  have hts := atoms_spec (ws := (oh_w yX7_again cX7_again 7 (some .int))) B.pre
  have htg : ∀ w ∈ oh_t, w.before _ s = true := fun w h => hts w (List.mem_cons_of_mem _ h)
  have hown : s.vm.findClass RX7 = some m.cls := findClass_of_methodNamed B.named
  have hlocks := B.notSynchronized
  have hT0 := hT
  subst hsz
  have hD := hD0.self (sz := s.heap.size)
  generalize hAe : va_A (oh_W n a C) s.heap.size = A at hD hG ⊢
  have hA : ∀ q : Nat, s.heap.size ≤ q → A q := fun q h => by rw [← hAe]; exact Or.inr h
  have hS : va_S A s.heap s.heap [] := va_S.rf
  have hF : fr [(8, 9), (15, 16)] [] C C := fr_rf
  have hl := lv_entry ([.ref (a 0), .int x1, .int x2, .int x3, .int x4, .int x5]) (n := 7) (Nat.le_of_ble_eq_true rfl)
  rw [lg_entry_eq]
  generalize (lg_sl ([.ref (a 0), .int x1, .int x2, .int x3, .int x4, .int x5]) ++ List.replicate (7 - (lg_sl ([.ref (a 0), .int x1, .int x2, .int x3, .int x4, .int x5])).length) Slot.unset).toArray = ls at hl ⊢
  have hl : lv_has ls 7 [(0, .ref (a 0)), (1, .int x1), (2, .int x2), (3, .int x3), (4, .int x4), (5, .int x5)] := hl
  refine oh_genQ (fun Q hQ => ?_)
  refine lv_aload_n hx hb dX7_again_0 rfl (lv_at hl 0 rfl) ?_
  refine lv_iload_n hx hb dX7_again_1 rfl (lv_at hl 1 rfl) ?_
  refine lv_iload_n hx hb dX7_again_2 rfl (lv_at hl 2 rfl) ?_
  refine tq_V (As := [.int x1, .int x2]) (rest := []) (ws := (oh_W n a C)) ⟨hx, hb, hml, hown, htg⟩ (e_X7_isPack l D E G a C n hn hT x1 x2 hR.1) (cwV 2 htg (oh_gV q_1290 q_1292 q_50 q_73 q_1293) rfl rfl rfl pdVX7_isPack ⟨Nat.le_of_ble_eq_true rfl, Nat.le_of_ble_eq_true rfl⟩) hK hP hG hS (va_recv hK hP (ci := 7) (q0 := 0) rfl (oh_wg (Nat.lt_of_lt_of_le (by decide) hn) (sM_0 hT))) rfl hl.1 rfl (Nat.le_of_ble_eq_true rfl) dX7_again_3 ⟨Nat.le_of_ble_eq_true rfl, Nat.le_of_ble_eq_true rfl⟩ (fun r_1 hq_2 => ?_)
  refine lv_if_eq (tgt := 37) hx hb dX7_again_6 (by decide) (fun (c_3 : r_1 = 0) => ?_) (fun (c_3 : ¬ (r_1 = 0)) => ?_)
  · have u_4 := hq_2.2.2 c_3
    refine lv_aload_n hx hb dX7_again_37 rfl (lv_at hl 0 rfl) ?_
    refine lv_bipush (v := (-2)) hx hb dX7_again_38 (by decide) ?_
    refine tm_V (As := [.int (-2)]) (rest := []) ⟨hx, hb, hml, hown, htg⟩ (c_X7_refuse l D E G _ a C n hn hT ((-2) : Int32) (rg_w (rg_c (v := (-2)) (lo := (-2)) (hi := (-2)) (by decide)) (by decide))) (cwV 1 htg (oh_gV q_1071 q_1073 q_29 q_73 q_1074) rfl rfl rfl pdVX7_refuse ⟨Nat.le_of_ble_eq_true rfl, Nat.le_of_ble_eq_true rfl⟩) hK hP hD hG hS hA (va_recv hK hP (ci := 7) (q0 := 0) rfl (oh_wg (Nat.lt_of_lt_of_le (by decide) hn) (sM_0 hT))) rfl hl.1 rfl (Nat.le_of_ble_eq_true rfl) dX7_again_40 ⟨Nat.le_of_ble_eq_true rfl, Nat.le_of_ble_eq_true rfl⟩ (fun r_5 C_6 H locs hq_7 hP hD hS => ?_)
    obtain ⟨hT, f_8, hq_7⟩ := hq_7
    have hF := fr_tr hF f_8 (by decide) (by decide)
    refine W.widen (k := 0) (n := 0) (Nat.le_refl _) (Nat.le_refl _) ?_
    have t_9 := hT
    rw [hQ]
    exact W.iret (v := r_5) hx hb hr (fun t ht hW => ⟨⟨r_5, C_6, rfl, ⟨hT, hF, ⟨⟨hR.1.fr hF (by decide), hR.2.fr hF (by decide)⟩, (fun A hA hok => Eq.trans hq_7 (pif_neg (fun h8 => by have h7 := h8.1; unfold okJ at h7; rw [← (show gi (C 0) 13 = A 5 0 2 from hA.1 2 (by decide)), ← (show gi (C 0) 15 = A 5 0 3 from hA.1 3 (by decide))] at h7; exact u_4 h7.1)).symm)⟩⟩, ⟨by rw [ht]; exact hP, hD⟩⟩, hS.F ht⟩) hS.2.2 dX7_again_43
  · have u_10 := hq_2.2.1 c_3
    refine lv_iload_n hx hb dX7_again_9 rfl (lv_at hl 3 rfl) ?_
    refine tq_S (As := [.int x3]) (rest := []) (ws := []) ⟨hx, hb, hml, hown, htg⟩ (e_X7_isPlace l D E G x3) (va_cwS 1 htg (oh_gS q_1130 q_1131 q_73 q_1132) rfl rfl rfl pdX7_isPlace ⟨Nat.le_of_ble_eq_true rfl, Nat.le_of_ble_eq_true rfl⟩) hK va_nil hG hS rfl hl.1 rfl (Nat.le_of_ble_eq_true rfl) dX7_again_10 ⟨Nat.le_of_ble_eq_true rfl, Nat.le_of_ble_eq_true rfl⟩ (fun r_11 hq_12 => ?_)
    refine lv_if_eq (tgt := 37) hx hb dX7_again_13 (by decide) (fun (c_13 : r_11 = 0) => ?_) (fun (c_13 : ¬ (r_11 = 0)) => ?_)
    · have u_14 := hq_12.2.2 c_13
      refine lv_aload_n hx hb dX7_again_37 rfl (lv_at hl 0 rfl) ?_
      refine lv_bipush (v := (-2)) hx hb dX7_again_38 (by decide) ?_
      refine tm_V (As := [.int (-2)]) (rest := []) ⟨hx, hb, hml, hown, htg⟩ (c_X7_refuse l D E G _ a C n hn hT ((-2) : Int32) (rg_w (rg_c (v := (-2)) (lo := (-2)) (hi := (-2)) (by decide)) (by decide))) (cwV 1 htg (oh_gV q_1071 q_1073 q_29 q_73 q_1074) rfl rfl rfl pdVX7_refuse ⟨Nat.le_of_ble_eq_true rfl, Nat.le_of_ble_eq_true rfl⟩) hK hP hD hG hS hA (va_recv hK hP (ci := 7) (q0 := 0) rfl (oh_wg (Nat.lt_of_lt_of_le (by decide) hn) (sM_0 hT))) rfl hl.1 rfl (Nat.le_of_ble_eq_true rfl) dX7_again_40 ⟨Nat.le_of_ble_eq_true rfl, Nat.le_of_ble_eq_true rfl⟩ (fun r_15 C_16 H locs hq_17 hP hD hS => ?_)
      obtain ⟨hT, f_18, hq_17⟩ := hq_17
      have hF := fr_tr hF f_18 (by decide) (by decide)
      refine W.widen (k := 0) (n := 0) (Nat.le_refl _) (Nat.le_refl _) ?_
      have t_19 := hT
      rw [hQ]
      exact W.iret (v := r_15) hx hb hr (fun t ht hW => ⟨⟨r_15, C_16, rfl, ⟨hT, hF, ⟨⟨hR.1.fr hF (by decide), hR.2.fr hF (by decide)⟩, (fun A hA hok => Eq.trans hq_17 (pif_neg (fun h8 => by have h7 := h8.1; unfold okJ at h7; rw [← (show gi (C 0) 13 = A 5 0 2 from hA.1 2 (by decide)), ← (show gi (C 0) 15 = A 5 0 3 from hA.1 3 (by decide))] at h7; exact u_14 h7.2.1)).symm)⟩⟩, ⟨by rw [ht]; exact hP, hD⟩⟩, hS.F ht⟩) hS.2.2 dX7_again_43
    · have u_20 := hq_12.2.1 c_13
      refine lv_iload hx hb dX7_again_16 (lv_at hl 4 rfl) ?_
      refine tq_S (As := [.int x4]) (rest := []) (ws := []) ⟨hx, hb, hml, hown, htg⟩ (e_X7_isPlace l D E G x4) (va_cwS 1 htg (oh_gS q_1130 q_1131 q_73 q_1132) rfl rfl rfl pdX7_isPlace ⟨Nat.le_of_ble_eq_true rfl, Nat.le_of_ble_eq_true rfl⟩) hK va_nil hG hS rfl hl.1 rfl (Nat.le_of_ble_eq_true rfl) dX7_again_18 ⟨Nat.le_of_ble_eq_true rfl, Nat.le_of_ble_eq_true rfl⟩ (fun r_21 hq_22 => ?_)
      refine lv_if_eq (tgt := 37) hx hb dX7_again_21 (by decide) (fun (c_23 : r_21 = 0) => ?_) (fun (c_23 : ¬ (r_21 = 0)) => ?_)
      · have u_24 := hq_22.2.2 c_23
        refine lv_aload_n hx hb dX7_again_37 rfl (lv_at hl 0 rfl) ?_
        refine lv_bipush (v := (-2)) hx hb dX7_again_38 (by decide) ?_
        refine tm_V (As := [.int (-2)]) (rest := []) ⟨hx, hb, hml, hown, htg⟩ (c_X7_refuse l D E G _ a C n hn hT ((-2) : Int32) (rg_w (rg_c (v := (-2)) (lo := (-2)) (hi := (-2)) (by decide)) (by decide))) (cwV 1 htg (oh_gV q_1071 q_1073 q_29 q_73 q_1074) rfl rfl rfl pdVX7_refuse ⟨Nat.le_of_ble_eq_true rfl, Nat.le_of_ble_eq_true rfl⟩) hK hP hD hG hS hA (va_recv hK hP (ci := 7) (q0 := 0) rfl (oh_wg (Nat.lt_of_lt_of_le (by decide) hn) (sM_0 hT))) rfl hl.1 rfl (Nat.le_of_ble_eq_true rfl) dX7_again_40 ⟨Nat.le_of_ble_eq_true rfl, Nat.le_of_ble_eq_true rfl⟩ (fun r_25 C_26 H locs hq_27 hP hD hS => ?_)
        obtain ⟨hT, f_28, hq_27⟩ := hq_27
        have hF := fr_tr hF f_28 (by decide) (by decide)
        refine W.widen (k := 0) (n := 0) (Nat.le_refl _) (Nat.le_refl _) ?_
        have t_29 := hT
        rw [hQ]
        exact W.iret (v := r_25) hx hb hr (fun t ht hW => ⟨⟨r_25, C_26, rfl, ⟨hT, hF, ⟨⟨hR.1.fr hF (by decide), hR.2.fr hF (by decide)⟩, (fun A hA hok => Eq.trans hq_27 (pif_neg (fun h8 => by have h7 := h8.1; unfold okJ at h7; rw [← (show gi (C 0) 13 = A 5 0 2 from hA.1 2 (by decide)), ← (show gi (C 0) 15 = A 5 0 3 from hA.1 3 (by decide))] at h7; exact u_24 h7.2.2)).symm)⟩⟩, ⟨by rw [ht]; exact hP, hD⟩⟩, hS.F ht⟩) hS.2.2 dX7_again_43
      · have u_30 := hq_22.2.1 c_23
        refine lv_iload hx hb dX7_again_24 (lv_at hl 5 rfl) ?_
        refine lv_i2l (v := Int32.toInt64 x5) hx hb dX7_again_26 (by rfl) ?_
        refine lv_lconst (v := 1) hx hb dX7_again_27 (by decide) ?_
        refine lv_ldc2 (v := 20) hx hb hown (htg _ q_1346) dX7_again_28 ?_
        refine tq_S (As := [.long (Int32.toInt64 x5), .long 1, .long 20]) (rest := []) (ws := []) ⟨hx, hb, hml, hown, htg⟩ (c_X7_in l D E G (Int32.toInt64 x5) (1 : Int64) (20 : Int64)) (va_cwS 3 htg (oh_gS q_1066 q_1067 q_73 q_1068) rfl rfl rfl pdX7_in ⟨Nat.le_of_ble_eq_true rfl, Nat.le_of_ble_eq_true rfl⟩) hK va_nil hG hS rfl hl.1 rfl (Nat.le_of_ble_eq_true rfl) dX7_again_31 ⟨Nat.le_of_ble_eq_true rfl, Nat.le_of_ble_eq_true rfl⟩ (fun r_31 hq_32 => ?_)
        refine lv_if_ne (tgt := 44) hx hb dX7_again_34 (by decide) (fun (c_33 : ¬ (r_31 = 0)) => ?_) (fun (c_33 : r_31 = 0) => ?_)
        · have u_34 := hq_32.2.1 c_33
          refine lv_aload_n hx hb dX7_again_44 rfl (lv_at hl 0 rfl) ?_
          refine lv_iload_n hx hb dX7_again_45 rfl (lv_at hl 1 rfl) ?_
          refine lv_iload_n hx hb dX7_again_46 rfl (lv_at hl 2 rfl) ?_
          refine lv_iload_n hx hb dX7_again_47 rfl (lv_at hl 3 rfl) ?_
          refine lv_iload hx hb dX7_again_48 (lv_at hl 4 rfl) ?_
          refine lv_iload hx hb dX7_again_50 (lv_at hl 5 rfl) ?_
          refine tm_V (As := [.int x1, .int x2, .int x3, .int x4, .int x5]) (rest := []) ⟨hx, hb, hml, hown, htg⟩ (e_X7_cheapestOf l D E G _ a C n hn hT x1 x2 x3 x4 x5 (rg_w u_10.1 (by decide)) (rg_w u_20 (by decide)) (rg_w u_30 (by decide)) u_10.2.1) (cwV 5 htg (oh_gV q_1347 q_1349 q_59 q_73 q_1350) rfl rfl rfl pdVX7_cheapestOf ⟨Nat.le_of_ble_eq_true rfl, Nat.le_of_ble_eq_true rfl⟩) hK hP hD hG hS hA (va_recv hK hP (ci := 7) (q0 := 0) rfl (oh_wg (Nat.lt_of_lt_of_le (by decide) hn) (sM_0 hT))) rfl hl.1 rfl (Nat.le_of_ble_eq_true rfl) dX7_again_52 ⟨Nat.le_of_ble_eq_true rfl, Nat.le_of_ble_eq_true rfl⟩ (fun r_35 C_36 H locs hq_37 hP hD hS => ?_)
          obtain ⟨hT, f_38, hq_37⟩ := hq_37
          have hF := fr_tr hF f_38 (by decide) (by decide)
          refine W.widen (k := 0) (n := 0) (Nat.le_refl _) (Nat.le_refl _) ?_
          have t_39 := hT
          refine lv_istore (lv' := [(6, .int r_35), (0, .ref (a 0)), (1, .int x1), (2, .int x2), (3, .int x3), (4, .int x4), (5, .int x5)]) hx hb dX7_again_55 hl (by decide) rfl (fun ls hl => ?_)
          refine lv_iload hx hb dX7_again_57 (lv_at hl 0 rfl) ?_
          refine lv_iconst (v := (-1)) hx hb dX7_again_59 (by decide) ?_
          refine lv_icmp_ne (tgt := 72) hx hb dX7_again_60 (by decide) (fun (c_40 : ¬ (r_35 = (-1))) => ?_) (fun (c_40 : r_35 = (-1)) => ?_)
          · refine lv_iload hx hb dX7_again_72 (lv_at hl 0 rfl) ?_
            rw [hQ]
            exact W.iret (v := r_35) hx hb hr (fun t ht hW => ⟨⟨r_35, C_36, rfl, ⟨hT, hF, ⟨⟨hR.1.fr hF (by decide), hR.2.fr hF (by decide)⟩, (fun A hA hok => by have hj : okJ A x1 x2 x3 x4 := (by unfold okJ; rw [← (show gi (C 0) 13 = A 5 0 2 from hA.1 2 (by decide)), ← (show gi (C 0) 15 = A 5 0 3 from hA.1 3 (by decide))]; exact ⟨u_10.2.2.2, (oh_rgI (p := 0) (q := 15) (rg_w (lo := 0) (hi := 15) u_20 (by decide))), (oh_rgI (p := 0) (q := 15) (rg_w (lo := 0) (hi := 15) u_30 (by decide)))⟩); have hm := mc_st hok (rg_w (lo := 0) (hi := 4) u_10.1 (by decide)) hj.1.1.2 (rg_w (lo := 0) (hi := 20) (rg_w (lo := 1) (hi := 20) (rg_il (rgL_i (rg_il (rnL_leu u_34.2 (rnL_lel u_34.1 (rgL_c (v := 1) (lo := 1) (hi := 1) (by decide)) (rgL_i (rg_any _))) (rgL_c (v := 20) (lo := 20) (hi := 20) (by decide)))))) (by decide)) (by decide)) (rg_w (lo := 0) (hi := 15) u_20 (by decide)) (rg_w (lo := 0) (hi := 15) u_30 (by decide)) (hq_37 A hA hok hj.1.1.2 (rg_w (lo := 1) (hi := 20) (rg_il (rgL_i (rg_il (rnL_leu u_34.2 (rnL_lel u_34.1 (rgL_c (v := 1) (lo := 1) (hi := 1) (by decide)) (rgL_i (rg_any _))) (rgL_c (v := 20) (lo := 20) (hi := 20) (by decide)))))) (by decide))); exact Eq.trans ((pif_neg c_40).symm) (Eq.trans hm (pif_pos ⟨hj, (oh_rgI (p := 1) (q := 20) (rg_w (lo := 1) (hi := 20) (rg_il (rgL_i (rg_il (rnL_leu u_34.2 (rnL_lel u_34.1 (rgL_c (v := 1) (lo := 1) (hi := 1) (by decide)) (rgL_i (rg_any _))) (rgL_c (v := 20) (lo := 20) (hi := 20) (by decide)))))) (by decide)))⟩).symm))⟩⟩, ⟨by rw [ht]; exact hP, hD⟩⟩, hS.F ht⟩) hS.2.2 dX7_again_74
          · refine lv_aload_n hx hb dX7_again_63 rfl (lv_at hl 1 rfl) ?_
            refine lv_bipush (v := (-5)) hx hb dX7_again_64 (by decide) ?_
            refine tm_V (As := [.int (-5)]) (rest := []) ⟨hx, hb, hml, hown, htg⟩ (c_X7_refuse l D E G _ a C_36 n hn hT ((-5) : Int32) (rg_w (rg_c (v := (-5)) (lo := (-5)) (hi := (-5)) (by decide)) (by decide))) (cwV 1 htg (oh_gV q_1071 q_1073 q_29 q_73 q_1074) rfl rfl rfl pdVX7_refuse ⟨Nat.le_of_ble_eq_true rfl, Nat.le_of_ble_eq_true rfl⟩) hK hP hD hG hS hA (va_recv hK hP (ci := 7) (q0 := 0) rfl (oh_wg (Nat.lt_of_lt_of_le (by decide) hn) (sM_0 hT))) rfl hl.1 rfl (Nat.le_of_ble_eq_true rfl) dX7_again_66 ⟨Nat.le_of_ble_eq_true rfl, Nat.le_of_ble_eq_true rfl⟩ (fun r_41 C_42 H locs hq_43 hP hD hS => ?_)
            obtain ⟨hT, f_44, hq_43⟩ := hq_43
            have hF := fr_tr hF f_44 (by decide) (by decide)
            refine W.widen (k := 0) (n := 0) (Nat.le_refl _) (Nat.le_refl _) ?_
            have t_45 := hT
            refine lv_goto (tgt := 74) hx hb dX7_again_69 (by decide) ?_
            rw [hQ]
            exact W.iret (v := r_41) hx hb hr (fun t ht hW => ⟨⟨r_41, C_42, rfl, ⟨hT, hF, ⟨⟨hR.1.fr hF (by decide), hR.2.fr hF (by decide)⟩, (fun A hA hok => by have hj : okJ A x1 x2 x3 x4 := (by unfold okJ; rw [← (show gi (C 0) 13 = A 5 0 2 from hA.1 2 (by decide)), ← (show gi (C 0) 15 = A 5 0 3 from hA.1 3 (by decide))]; exact ⟨u_10.2.2.2, (oh_rgI (p := 0) (q := 15) (rg_w (lo := 0) (hi := 15) u_20 (by decide))), (oh_rgI (p := 0) (q := 15) (rg_w (lo := 0) (hi := 15) u_30 (by decide)))⟩); have hm := mc_st hok (rg_w (lo := 0) (hi := 4) u_10.1 (by decide)) hj.1.1.2 (rg_w (lo := 0) (hi := 20) (rg_w (lo := 1) (hi := 20) (rg_il (rgL_i (rg_il (rnL_leu u_34.2 (rnL_lel u_34.1 (rgL_c (v := 1) (lo := 1) (hi := 1) (by decide)) (rgL_i (rg_any _))) (rgL_c (v := 20) (lo := 20) (hi := 20) (by decide)))))) (by decide)) (by decide)) (rg_w (lo := 0) (hi := 15) u_20 (by decide)) (rg_w (lo := 0) (hi := 15) u_30 (by decide)) (hq_37 A hA hok hj.1.1.2 (rg_w (lo := 1) (hi := 20) (rg_il (rgL_i (rg_il (rnL_leu u_34.2 (rnL_lel u_34.1 (rgL_c (v := 1) (lo := 1) (hi := 1) (by decide)) (rgL_i (rg_any _))) (rgL_c (v := 20) (lo := 20) (hi := 20) (by decide)))))) (by decide))); exact Eq.trans (Eq.trans hq_43 (pif_pos c_40).symm) (Eq.trans hm (pif_pos ⟨hj, (oh_rgI (p := 1) (q := 20) (rg_w (lo := 1) (hi := 20) (rg_il (rgL_i (rg_il (rnL_leu u_34.2 (rnL_lel u_34.1 (rgL_c (v := 1) (lo := 1) (hi := 1) (by decide)) (rgL_i (rg_any _))) (rgL_c (v := 20) (lo := 20) (hi := 20) (by decide)))))) (by decide)))⟩).symm))⟩⟩, ⟨by rw [ht]; exact hP, hD⟩⟩, hS.F ht⟩) hS.2.2 dX7_again_74
        · have u_46 := hq_32.2.2 c_33
          refine lv_aload_n hx hb dX7_again_37 rfl (lv_at hl 0 rfl) ?_
          refine lv_bipush (v := (-2)) hx hb dX7_again_38 (by decide) ?_
          refine tm_V (As := [.int (-2)]) (rest := []) ⟨hx, hb, hml, hown, htg⟩ (c_X7_refuse l D E G _ a C n hn hT ((-2) : Int32) (rg_w (rg_c (v := (-2)) (lo := (-2)) (hi := (-2)) (by decide)) (by decide))) (cwV 1 htg (oh_gV q_1071 q_1073 q_29 q_73 q_1074) rfl rfl rfl pdVX7_refuse ⟨Nat.le_of_ble_eq_true rfl, Nat.le_of_ble_eq_true rfl⟩) hK hP hD hG hS hA (va_recv hK hP (ci := 7) (q0 := 0) rfl (oh_wg (Nat.lt_of_lt_of_le (by decide) hn) (sM_0 hT))) rfl hl.1 rfl (Nat.le_of_ble_eq_true rfl) dX7_again_40 ⟨Nat.le_of_ble_eq_true rfl, Nat.le_of_ble_eq_true rfl⟩ (fun r_47 C_48 H locs hq_49 hP hD hS => ?_)
          obtain ⟨hT, f_50, hq_49⟩ := hq_49
          have hF := fr_tr hF f_50 (by decide) (by decide)
          refine W.widen (k := 0) (n := 0) (Nat.le_refl _) (Nat.le_refl _) ?_
          have t_51 := hT
          rw [hQ]
          exact W.iret (v := r_47) hx hb hr (fun t ht hW => ⟨⟨r_47, C_48, rfl, ⟨hT, hF, ⟨⟨hR.1.fr hF (by decide), hR.2.fr hF (by decide)⟩, (fun A hA hok => Eq.trans hq_49 (pif_neg (fun h8 => (oh_in64 (l' := 1) (k' := 20) rfl rfl u_46) h8.2)).symm)⟩⟩, ⟨by rw [ht]; exact hP, hD⟩⟩, hS.F ht⟩) hS.2.2 dX7_again_43

set_option maxHeartbeats 4000000 in
set_option maxRecDepth 100000 in
theorem e_X7_cheapest (l : Launch) (D : va_G) (E : Nat → ClassId) (G : Nat → Nat) (sz : Nat) (a : Nat → Nat) (C : Nat → va_E) (n : Nat) (hn : 74 ≤ n) (hT : TyM a E C) (x1 : Int32) (x2 : Int32) (x3 : Int32) (x4 : Int32) (hR : RelM C) : Met l yX7_cheapest (oh_w yX7_cheapest cX7_cheapest 5 (some .int)) ({ frames := 8, cells := 0, slots := 0, locals := 203 }) (oh_Pm D E G [.ref (a 0), .int x1, .int x2, .int x3, .int x4] (oh_W n a C) sz) (va_Qi (fun r (u : Nat → va_E) => TyM a E u ∧ fr [(8, 9), (15, 16)] [] C u ∧ (RelM u) ∧ (∀ A : LA, absM C A → okA A → r = spChp A x1 x2 x3 x4 1)) (oh_B D (va_A (oh_W n a C) sz) (fun u => oh_W n a u)) (va_A (oh_W n a C) sz)) 0 0 (va_A (oh_W n a C) sz) := by
  refine Met.ofW (cc := cX7_cheapest) (maxL := 5) (ret := (some .int)) (by decide) rfl ?_
  intro p e s m args below meth c s₁ B hml hv
  obtain ⟨rfl, hsz, hP, hK, hD0, hG⟩ := hv
  have hx := B.exec
  have hb := B.bytes
  have hr := B.returns
  have hts := atoms_spec (ws := (oh_w yX7_cheapest cX7_cheapest 5 (some .int))) B.pre
  have htg : ∀ w ∈ oh_t, w.before _ s = true := fun w h => hts w (List.mem_cons_of_mem _ h)
  have hown : s.vm.findClass RX7 = some m.cls := findClass_of_methodNamed B.named
  have hlocks := B.notSynchronized
  have hT0 := hT
  subst hsz
  have hD := hD0.self (sz := s.heap.size)
  generalize hAe : va_A (oh_W n a C) s.heap.size = A at hD hG ⊢
  have hA : ∀ q : Nat, s.heap.size ≤ q → A q := fun q h => by rw [← hAe]; exact Or.inr h
  have hS : va_S A s.heap s.heap [] := va_S.rf
  have hF : fr [(8, 9), (15, 16)] [] C C := fr_rf
  have hl := lv_entry ([.ref (a 0), .int x1, .int x2, .int x3, .int x4]) (n := 5) (Nat.le_of_ble_eq_true rfl)
  rw [lg_entry_eq]
  generalize (lg_sl ([.ref (a 0), .int x1, .int x2, .int x3, .int x4]) ++ List.replicate (5 - (lg_sl ([.ref (a 0), .int x1, .int x2, .int x3, .int x4])).length) Slot.unset).toArray = ls at hl ⊢
  have hl : lv_has ls 5 [(0, .ref (a 0)), (1, .int x1), (2, .int x2), (3, .int x3), (4, .int x4)] := hl
  refine oh_genQ (fun Q hQ => ?_)
  refine lv_aload_n hx hb dX7_cheapest_0 rfl (lv_at hl 0 rfl) ?_
  refine lv_iload_n hx hb dX7_cheapest_1 rfl (lv_at hl 1 rfl) ?_
  refine lv_iload_n hx hb dX7_cheapest_2 rfl (lv_at hl 2 rfl) ?_
  refine lv_iload_n hx hb dX7_cheapest_3 rfl (lv_at hl 3 rfl) ?_
  refine lv_iload hx hb dX7_cheapest_4 (lv_at hl 4 rfl) ?_
  refine lv_iconst (v := 1) hx hb dX7_cheapest_6 (by decide) ?_
  refine tm_V (As := [.int x1, .int x2, .int x3, .int x4, .int 1]) (rest := []) ⟨hx, hb, hml, hown, htg⟩ (e_X7_again l D E G _ a C n hn hT x1 x2 x3 x4 (1 : Int32) hR) (cwV 5 htg (oh_gV q_1342 q_1343 q_1344 q_73 q_1345) rfl rfl rfl pdVX7_again ⟨Nat.le_of_ble_eq_true rfl, Nat.le_of_ble_eq_true rfl⟩) hK hP hD hG hS hA (va_recv hK hP (ci := 7) (q0 := 0) rfl (oh_wg (Nat.lt_of_lt_of_le (by decide) hn) (sM_0 hT))) rfl hl.1 rfl (Nat.le_of_ble_eq_true rfl) dX7_cheapest_7 ⟨Nat.le_of_ble_eq_true rfl, Nat.le_of_ble_eq_true rfl⟩ (fun r_1 C_2 H locs hq_3 hP hD hS => ?_)
  obtain ⟨hT, f_4, hq_3⟩ := hq_3
  have hF := fr_tr hF f_4 (by decide) (by decide)
  refine W.widen (k := 0) (n := 0) (Nat.le_refl _) (Nat.le_refl _) ?_
  have t_5 := hT
  rw [hQ]
  exact W.iret (v := r_1) hx hb hr (fun t ht hW => ⟨⟨r_1, C_2, rfl, ⟨hT, hF, ⟨hq_3.1, (fun A hA hok => hq_3.2 A hA hok)⟩⟩, ⟨by rw [ht]; exact hP, hD⟩⟩, hS.F ht⟩) hS.2.2 dX7_cheapest_10

set_option maxHeartbeats 4000000 in
set_option maxRecDepth 100000 in
theorem e_X5_leastDays (l : Launch) (D : va_G) (E : Nat → ClassId) (G : Nat → Nat) (sz : Nat) (a : Nat → Nat) (C : Nat → va_E) (hT : TyX a E C) (x1 : Int32) (x2 : Int32) (x3 : Int32) (x4 : Int32) (hx1 : rg x1 0 4) (hx3 : rg x3 0 15) (hx4 : rg x4 0 15) : Met l yX5_leastDays (oh_w yX5_leastDays cX5_leastDays 6 (some .int)) ({ frames := 4, cells := 0, slots := 0, locals := 100 }) (oh_Pm D E G [.ref (a 3), .int x1, .int x2, .int x3, .int x4] (oh_W 35 a C) sz) (va_Qi (fun r (u : Nat → va_E) => TyX a E u ∧ fr [(9, 10), (24, 28)] [] C u ∧ (∀ A : LA, absX 10 C A → okA A → x1 < A 5 0 2 → r = ldA A x1 x2 x3 x4)) (oh_B D (va_A (oh_W 35 a C) sz) (fun u => oh_W 35 a u)) (va_A (oh_W 35 a C) sz)) 0 0 (va_A (oh_W 35 a C) sz) := by
  refine Met.ofW (cc := cX5_leastDays) (maxL := 6) (ret := (some .int)) (by decide) rfl ?_
  intro p e s m args below meth c s₁ B hml hv
  obtain ⟨rfl, hsz, hP, hK, hD0, hG⟩ := hv
  have hx := B.exec
  have hb := B.bytes
  have hr := B.returns
  have hts := atoms_spec (ws := (oh_w yX5_leastDays cX5_leastDays 6 (some .int))) B.pre
  have htg : ∀ w ∈ oh_t, w.before _ s = true := fun w h => hts w (List.mem_cons_of_mem _ h)
  have hown : s.vm.findClass RX5 = some m.cls := findClass_of_methodNamed B.named
  have hlocks := B.notSynchronized
  have hT0 := hT
  subst hsz
  have hD := hD0.self (sz := s.heap.size)
  generalize hAe : va_A (oh_W 35 a C) s.heap.size = A at hD hG ⊢
  have hA : ∀ q : Nat, s.heap.size ≤ q → A q := fun q h => by rw [← hAe]; exact Or.inr h
  have hS : va_S A s.heap s.heap [] := va_S.rf
  have hF : fr [(9, 10), (24, 28)] [] C C := fr_rf
  have hl := lv_entry ([.ref (a 3), .int x1, .int x2, .int x3, .int x4]) (n := 6) (Nat.le_of_ble_eq_true rfl)
  rw [lg_entry_eq]
  generalize (lg_sl ([.ref (a 3), .int x1, .int x2, .int x3, .int x4]) ++ List.replicate (6 - (lg_sl ([.ref (a 3), .int x1, .int x2, .int x3, .int x4])).length) Slot.unset).toArray = ls at hl ⊢
  have hl : lv_has ls 6 [(0, .ref (a 3)), (1, .int x1), (2, .int x2), (3, .int x3), (4, .int x4)] := hl
  refine oh_genQ (fun Q hQ => ?_)
  refine lv_aload_n hx hb dX5_leastDays_0 rfl (lv_at hl 0 rfl) ?_
  refine lv_iload_n hx hb dX5_leastDays_1 rfl (lv_at hl 1 rfl) ?_
  refine lv_iload_n hx hb dX5_leastDays_2 rfl (lv_at hl 2 rfl) ?_
  refine tm_Vv (As := [.int x1, .int x2]) (rest := []) ⟨hx, hb, hml, hown, htg⟩ (e_X5_survey l D E G _ a C hT x1 x2 (rg_w hx1 (by decide))) (cwV 2 htg (oh_gV q_784 q_751 q_752 q_68 q_753) rfl rfl rfl pdVX5_survey ⟨Nat.le_of_ble_eq_true rfl, Nat.le_of_ble_eq_true rfl⟩) hK hP hD hG hS hA (va_recv hK hP (ci := 5) (q0 := 3) rfl (oh_wg (by decide) (sX_3 hT))) rfl hl.1 rfl (Nat.le_of_ble_eq_true rfl) dX5_leastDays_3 ⟨Nat.le_of_ble_eq_true rfl, Nat.le_of_ble_eq_true rfl⟩ (fun C_2 H locs hq_3 hP hD hS => ?_)
  obtain ⟨hT, f_4, hq_3⟩ := hq_3
  have hF := fr_tr hF f_4 (by decide) (by decide)
  refine W.widen (k := 0) (n := 0) (Nat.le_refl _) (Nat.le_refl _) ?_
  have t_5 := hT
  refine lv_iconst (v := 0) hx hb dX5_leastDays_6 (by decide) ?_
  refine lv_istore (lv' := [(5, .int 0), (0, .ref (a 3)), (1, .int x1), (2, .int x2), (3, .int x3), (4, .int x4)]) hx hb dX5_leastDays_7 hl (by decide) rfl (fun ls hl => ?_)
  have L_9 : ∀ (d : Nat) (K9 : Nat → va_E) (z9_5 : Int32) (H : Heap) (locs : List Loc) (ls : Array Slot), (24 - z9_5.toInt).toNat = d → rg z9_5 0 24 → (∀ A : LA, absX 10 C A → x1 < A 5 0 2 → ∀ i : Nat, (i : Int) < z9_5.toInt → gsA A x1 x2 i → ga (K9 26) i = dyA A x1 x2 i) → TyX a E K9 → fr [(9, 10), (24, 28)] [] C K9 → fr [(26, 27)] [] C_2 K9 → va_P D vwCl (oh_W 35 a K9) H → va_D A (oh_W 35 a K9) → va_S A s.heap H locs → lv_has ls 6 [(5, .int z9_5), (0, .ref (a 3)), (1, .int x1), (2, .int x2), (3, .int x3), (4, .int x4)] → W p l e ({ frames := 4, cells := 0, slots := 0, locals := 100 }) s m (([.ref (a 3), .int x1, .int x2, .int x3, .int x4] : List Value).toArray) below meth c H locs 0 0 Q (F0 m 9 ls []) := by
    intro d
    induction d using Nat.strongRecOn with
    | ind d ih_9 =>
    intro K9 z9_5 H locs ls hd_9 hz9_5 hx_9 hT hF hLF_9 hP hD hS hl
    have t_6 := hT
    refine lv_iload hx hb dX5_leastDays_9 (lv_at hl 0 rfl) ?_
    refine lv_aload_n hx hb dX5_leastDays_11 rfl (lv_at hl 1 rfl) ?_
    refine va_get (D := D) (ci := 5) (v := .ref (a 1)) (C := RX5) (T := TX5) (N := 7) hx hb htg ig_5 hown hK hP 3 (oh_wg (by decide) (sX_3 hT)) rfl 0 (by decide) (htg _ q_167) (fun _ h9 => h9) rfl dX5_leastDays_12 ?_
    refine va_get (D := D) (ci := 0) (v := .ref (a 10)) (C := RX0) (T := TX0) (N := 8) hx hb htg ig_0 hown hK hP 1 (oh_wg (by decide) (sX_1 hT)) rfl 0 (by decide) (htg _ q_99) (fun _ h9 => h9) rfl dX5_leastDays_15 ?_
    refine lv_iconst (v := 0) hx hb dX5_leastDays_18 (by decide) ?_
    refine th_iald hx hb hK hP 10 (by decide) (Eq.trans (Eq.trans (hLF_9.1 10 rfl (by decide)) (f_4.1 10 rfl (by decide))) (sX_10 hT0)) (rg_in (rg_c (v := 0) (lo := 0) (hi := 0) (by decide)) (by decide)) dX5_leastDays_19 ?_
    refine lv_icmp_ge (tgt := 42) hx hb dX5_leastDays_20 (by decide) (fun (c_7 : (ga (C 10) ((0 : Int32)).toNatClampNeg) ≤ z9_5) => ?_) (fun (c_7 : ¬ ((ga (C 10) ((0 : Int32)).toNatClampNeg) ≤ z9_5)) => ?_)
    · refine lv_aload_n hx hb dX5_leastDays_42 rfl (lv_at hl 1 rfl) ?_
      refine lv_iload_n hx hb dX5_leastDays_43 rfl (lv_at hl 4 rfl) ?_
      refine tm_Vv (As := [.int x3]) (rest := []) ⟨hx, hb, hml, hown, htg⟩ (e_X5_spread l D E G _ a K9 hT x3 (rg_w hx3 (by decide))) (cwV 1 htg (oh_gV q_790 q_792 q_19 q_68 q_793) rfl rfl rfl pdVX5_spread ⟨Nat.le_of_ble_eq_true rfl, Nat.le_of_ble_eq_true rfl⟩) hK hP hD hG hS hA (va_recv hK hP (ci := 5) (q0 := 3) rfl (oh_wg (by decide) (sX_3 hT))) rfl hl.1 rfl (Nat.le_of_ble_eq_true rfl) dX5_leastDays_44 ⟨Nat.le_of_ble_eq_true rfl, Nat.le_of_ble_eq_true rfl⟩ (fun C_9 H locs hq_10 hP hD hS => ?_)
      obtain ⟨hT, f_11, hq_10⟩ := hq_10
      have hF := fr_tr hF f_11 (by decide) (by decide)
      refine W.widen (k := 0) (n := 0) (Nat.le_refl _) (Nat.le_refl _) ?_
      have t_12 := hT
      refine lv_aload_n hx hb dX5_leastDays_47 rfl (lv_at hl 1 rfl) ?_
      refine va_get (D := D) (ci := 5) (v := .ref (a 27)) (C := RX5) (T := TX5) (N := 7) hx hb htg ig_5 hown hK hP 3 (oh_wg (by decide) (sX_3 hT)) rfl 5 (by decide) (htg _ q_174) (fun _ h9 => h9) rfl dX5_leastDays_48 ?_
      refine lv_iload hx hb dX5_leastDays_51 (lv_at hl 5 rfl) ?_
      have n_13 : vp_in x4 16 := (rg_in hx4 (by decide))
      refine th_iald hx hb hK hP 27 (by decide) (sX_27 hT) n_13 dX5_leastDays_53 ?_
      rw [hQ]
      exact W.iret (v := ga (C_9 27) (x4).toNatClampNeg) hx hb hr (fun t ht hW => ⟨⟨ga (C_9 27) (x4).toNatClampNeg, C_9, rfl, ⟨hT, hF, (fun A hA hok hl => by have hs2 : svX C_2 A x1 x2 := hq_3 A hA hl; have hA2 := (absX_eq hA (fr_all f_4 10 15 (by decide))); have hA7 := (absX_eq (absX_eq hA (fr_all f_4 10 15 (by decide))) (fr_all hLF_9 10 15 (by decide))); have hs7 : svX K9 A x1 x2 := svX_eq hs2 (hLF_9.1 9 rfl (by decide)) (hLF_9.1 24 rfl (by decide)) (hLF_9.1 25 rfl (by decide)); have G := gx_d hA7 hok hs7 (pr_e (by rw [← hA.1 0 (by decide)]; exact rg_w (cntX 0 hT0 (by decide)) (by decide)) (by rw [← hA.1 0 (by decide)]; exact c_7) (hx_9 A hA hl)); have hF := ed_fin hok x1 x2 (p16 hx3); obtain ⟨hnn, D⟩ := hq_10 _ _ _ _ _ G; exact ld_e hnn D hF hx4)⟩, ⟨by rw [ht]; exact hP, hD⟩⟩, hS.F ht⟩) hS.2.2 dX5_leastDays_54
    · refine lv_aload_n hx hb dX5_leastDays_23 rfl (lv_at hl 1 rfl) ?_
      refine va_get (D := D) (ci := 5) (v := .ref (a 26)) (C := RX5) (T := TX5) (N := 7) hx hb htg ig_5 hown hK hP 3 (oh_wg (by decide) (sX_3 hT)) rfl 4 (by decide) (htg _ q_173) (fun _ h9 => h9) rfl dX5_leastDays_24 ?_
      refine lv_iload hx hb dX5_leastDays_27 (lv_at hl 0 rfl) ?_
      refine lv_aload_n hx hb dX5_leastDays_29 rfl (lv_at hl 1 rfl) ?_
      refine lv_iload hx hb dX5_leastDays_30 (lv_at hl 0 rfl) ?_
      refine tq_V (As := [.int z9_5]) (rest := [.int z9_5, .ref (a 26)]) (ws := (oh_W 35 a K9)) ⟨hx, hb, hml, hown, htg⟩ (e_X5_daysOf l D E G a K9 hT z9_5 (rg_w (rn_ltu (u' := 23) (Int32.not_le.mp c_7) hz9_5 (tA_rdc (lo := 0) (hi := 24) (tX_10 hT0) (rg_in (rg_c (v := 0) (lo := 0) (hi := 0) (by decide)) (by decide)) (show _ = 0 by decide) (by decide)) (by decide)) (by decide))) (cwV 1 htg (oh_gV q_812 q_768 q_769 q_68 q_770) rfl rfl rfl pdVX5_daysOf ⟨Nat.le_of_ble_eq_true rfl, Nat.le_of_ble_eq_true rfl⟩) hK hP hG hS (va_recv hK hP (ci := 5) (q0 := 3) rfl (oh_wg (by decide) (sX_3 hT))) rfl hl.1 rfl (Nat.le_of_ble_eq_true rfl) dX5_leastDays_32 ⟨Nat.le_of_ble_eq_true rfl, Nat.le_of_ble_eq_true rfl⟩ (fun r_14 hq_15 => ?_)
      have n_16 : vp_in z9_5 24 := (rg_in (rn_ltu (u' := 23) (Int32.not_le.mp c_7) hz9_5 (tA_rdc (lo := 0) (hi := 24) (tX_10 hT0) (rg_in (rg_c (v := 0) (lo := 0) (hi := 0) (by decide)) (by decide)) (show _ = 0 by decide) (by decide)) (by decide)) (by decide))
      refine th_iast (T := TyX a E) (Rl := fr [(9, 10), (24, 28)] [] C) hx hb hK hP hD hS 26 (by decide) (sX_26 hT) n_16 (hT.up 26 (tA_upd (tX_26 hT) tA_any)) (fr_st hF (by decide) (by decide)) dX5_leastDays_35 (fun C_17 H locs e_18 hT hF hP hD hS => ?_)
      have t_19 := hT
      refine lv_iinc (v := z9_5 + 1) (lv' := [(5, .int (z9_5 + 1)), (0, .ref (a 3)), (1, .int x1), (2, .int x2), (3, .int x3), (4, .int x4)]) hx hb dX5_leastDays_36 hl (k := 0) rfl (by rfl) (by decide) rfl (fun ls hl => ?_)
      refine lv_goto (tgt := 9) hx hb dX5_leastDays_39 (by decide) ?_
      exact ih_9 _ (hd_9 ▸ mu_up 24 (rn_ltu (u' := 23) (Int32.not_le.mp c_7) hz9_5 (tA_rdc (lo := 0) (hi := 24) (tX_10 hT0) (rg_in (rg_c (v := 0) (lo := 0) (hi := 0) (by decide)) (by decide)) (show _ = 0 by decide) (by decide)) (by decide)) (by decide)) C_17 (z9_5 + 1) _ _ ls rfl (rg_w (rg_add (lo := 1) (hi := 24) (rn_ltu (u' := 23) (Int32.not_le.mp c_7) hz9_5 (tA_rdc (lo := 0) (hi := 24) (tX_10 hT0) (rg_in (rg_c (v := 0) (lo := 0) (hi := 0) (by decide)) (by decide)) (show _ = 0 by decide) (by decide)) (by decide)) (rg_c (v := 1) (lo := 1) (hi := 1) (by decide)) (by decide)) (by decide)) (fun A hA hl => by have hK := (absX_eq (absX_eq hA (fr_all f_4 10 15 (by decide))) (fr_all hLF_9 10 15 (by decide))); exact pr_s (rg_w (lo := 0) (hi := 23) (rn_ltu (u' := 23) (Int32.not_le.mp c_7) hz9_5 (tA_rdc (lo := 0) (hi := 24) (tX_10 hT0) (rg_in (rg_c (v := 0) (lo := 0) (hi := 0) (by decide)) (by decide)) (show _ = 0 by decide) (by decide)) (by decide)) (by decide)) (hx_9 A hA hl) (st_ga e_18) (fun hg => dyX hK (svX_eq (hq_3 A hA hl) (hLF_9.1 9 rfl (by decide)) (hLF_9.1 24 rfl (by decide)) (hLF_9.1 25 rfl (by decide))) (rg_w (lo := 0) (hi := 23) (rn_ltu (u' := 23) (Int32.not_le.mp c_7) hz9_5 (tA_rdc (lo := 0) (hi := 24) (tX_10 hT0) (rg_in (rg_c (v := 0) (lo := 0) (hi := 0) (by decide)) (by decide)) (show _ = 0 by decide) (by decide)) (by decide)) (by decide)) (show z9_5 < A 5 0 0 from oh_lte (Int32.not_le.mp c_7) (hA.1 0 (by decide))) hg hq_15)) hT hF (fr_ste hLF_9 e_18 (by decide) (by decide)) hP hD hS (lv_sub hl [0, 1, 2, 3, 4, 5] rfl)
  exact L_9 _ C_2 0 _ _ ls rfl (rg_w (rg_c (v := 0) (lo := 0) (hi := 0) (by decide)) (by decide)) (fun A hA hl i hi => absurd hi (by show ¬ (i : Int) < 0; omega)) hT hF fr_rf hP hD hS (lv_sub hl [0, 1, 2, 3, 4, 5] rfl)

set_option maxHeartbeats 4000000 in
set_option maxRecDepth 100000 in
theorem e_X6_soonest (l : Launch) (D : va_G) (E : Nat → ClassId) (G : Nat → Nat) (sz : Nat) (a : Nat → Nat) (C : Nat → va_E) (hT : TyX a E C) (x1 : Int32) (x2 : Int32) (x3 : Int32) (x4 : Int32) : Met l yX6_soonest (oh_w yX6_soonest cX6_soonest 5 (some .int)) ({ frames := 5, cells := 0, slots := 0, locals := 125 }) (oh_Pm D E G [.ref (a 0), .int x1, .int x2, .int x3, .int x4] (oh_W 35 a C) sz) (va_Qi (fun r (u : Nat → va_E) => TyX a E u ∧ fr [(7, 8), (9, 10), (24, 28)] [] C u ∧ (∀ A : LA, absX 10 C A → okA A → r = spSoon A x1 x2 x3 x4)) (oh_B D (va_A (oh_W 35 a C) sz) (fun u => oh_W 35 a u)) (va_A (oh_W 35 a C) sz)) 0 0 (va_A (oh_W 35 a C) sz) := by
  refine Met.ofW (cc := cX6_soonest) (maxL := 5) (ret := (some .int)) (by decide) rfl ?_
  intro p e s m args below meth c s₁ B hml hv
  obtain ⟨rfl, hsz, hP, hK, hD0, hG⟩ := hv
  have hx := B.exec
  have hb := B.bytes
  have hr := B.returns
  have hts := atoms_spec (ws := (oh_w yX6_soonest cX6_soonest 5 (some .int))) B.pre
  have htg : ∀ w ∈ oh_t, w.before _ s = true := fun w h => hts w (List.mem_cons_of_mem _ h)
  have hown : s.vm.findClass RX6 = some m.cls := findClass_of_methodNamed B.named
  have hlocks := B.notSynchronized
  have hT0 := hT
  subst hsz
  have hD := hD0.self (sz := s.heap.size)
  generalize hAe : va_A (oh_W 35 a C) s.heap.size = A at hD hG ⊢
  have hA : ∀ q : Nat, s.heap.size ≤ q → A q := fun q h => by rw [← hAe]; exact Or.inr h
  have hS : va_S A s.heap s.heap [] := va_S.rf
  have hF : fr [(7, 8), (9, 10), (24, 28)] [] C C := fr_rf
  have hl := lv_entry ([.ref (a 0), .int x1, .int x2, .int x3, .int x4]) (n := 5) (Nat.le_of_ble_eq_true rfl)
  rw [lg_entry_eq]
  generalize (lg_sl ([.ref (a 0), .int x1, .int x2, .int x3, .int x4]) ++ List.replicate (5 - (lg_sl ([.ref (a 0), .int x1, .int x2, .int x3, .int x4])).length) Slot.unset).toArray = ls at hl ⊢
  have hl : lv_has ls 5 [(0, .ref (a 0)), (1, .int x1), (2, .int x2), (3, .int x3), (4, .int x4)] := hl
  refine oh_genQ (fun Q hQ => ?_)
  refine lv_aload_n hx hb dX6_soonest_0 rfl (lv_at hl 0 rfl) ?_
  refine lv_iload_n hx hb dX6_soonest_1 rfl (lv_at hl 1 rfl) ?_
  refine lv_iload_n hx hb dX6_soonest_2 rfl (lv_at hl 2 rfl) ?_
  refine lv_iload_n hx hb dX6_soonest_3 rfl (lv_at hl 3 rfl) ?_
  refine lv_iload hx hb dX6_soonest_4 (lv_at hl 4 rfl) ?_
  refine tq_V (As := [.int x1, .int x2, .int x3, .int x4]) (rest := []) (ws := (oh_W 35 a C)) ⟨hx, hb, hml, hown, htg⟩ (e_X6_isJourney l D E G a C hT x1 x2 x3 x4) (cwV 4 htg (oh_gV q_776 q_778 q_17 q_66 q_779) rfl rfl rfl pdVX6_isJourney ⟨Nat.le_of_ble_eq_true rfl, Nat.le_of_ble_eq_true rfl⟩) hK hP hG hS (va_recv hK hP (ci := 6) (q0 := 0) rfl (oh_wg (by decide) (sX_0 hT))) rfl hl.1 rfl (Nat.le_of_ble_eq_true rfl) dX6_soonest_6 ⟨Nat.le_of_ble_eq_true rfl, Nat.le_of_ble_eq_true rfl⟩ (fun r_1 hq_2 => ?_)
  refine lv_if_ne (tgt := 19) hx hb dX6_soonest_9 (by decide) (fun (c_3 : ¬ (r_1 = 0)) => ?_) (fun (c_3 : r_1 = 0) => ?_)
  · have u_4 := hq_2.2.1 c_3
    refine lv_aload_n hx hb dX6_soonest_19 rfl (lv_at hl 0 rfl) ?_
    refine lv_aload_n hx hb dX6_soonest_20 rfl (lv_at hl 0 rfl) ?_
    refine va_get (D := D) (ci := 6) (v := .ref (a 3)) (C := RX6) (T := TX6) (N := 9) hx hb htg ig_6 hown hK hP 0 (oh_wg (by decide) (sX_0 hT)) rfl 3 (by decide) (htg _ q_261) (fun _ h9 => h9) rfl dX6_soonest_21 ?_
    refine lv_iload_n hx hb dX6_soonest_24 rfl (lv_at hl 1 rfl) ?_
    refine lv_iload_n hx hb dX6_soonest_25 rfl (lv_at hl 2 rfl) ?_
    refine lv_iload_n hx hb dX6_soonest_26 rfl (lv_at hl 3 rfl) ?_
    refine lv_iload hx hb dX6_soonest_27 (lv_at hl 4 rfl) ?_
    refine tm_V (As := [.int x1, .int x2, .int x3, .int x4]) (rest := [.ref (a 0)]) ⟨hx, hb, hml, hown, htg⟩ (e_X5_leastDays l D E G _ a C hT x1 x2 x3 x4 (rg_w u_4.1 (by decide)) (rg_w u_4.2.1 (by decide)) (rg_w u_4.2.2.1 (by decide))) (cwV 4 htg (oh_gV q_808 q_809 q_810 q_68 q_811) rfl rfl rfl pdVX5_leastDays ⟨Nat.le_of_ble_eq_true rfl, Nat.le_of_ble_eq_true rfl⟩) hK hP hD hG hS hA (va_recv hK hP (ci := 5) (q0 := 3) rfl (oh_wg (by decide) (sX_3 hT))) rfl hl.1 rfl (Nat.le_of_ble_eq_true rfl) dX6_soonest_29 ⟨Nat.le_of_ble_eq_true rfl, Nat.le_of_ble_eq_true rfl⟩ (fun r_5 C_6 H locs hq_7 hP hD hS => ?_)
    obtain ⟨hT, f_8, hq_7⟩ := hq_7
    have hF := fr_tr hF f_8 (by decide) (by decide)
    refine W.widen (k := 0) (n := 0) (Nat.le_refl _) (Nat.le_refl _) ?_
    have t_9 := hT
    refine tm_V (As := [.int r_5]) (rest := []) ⟨hx, hb, hml, hown, htg⟩ (e_X6_orStuck l D E G _ a C_6 hT r_5) (cwV 1 htg (oh_gV q_799 q_801 q_21 q_66 q_802) rfl rfl rfl pdVX6_orStuck ⟨Nat.le_of_ble_eq_true rfl, Nat.le_of_ble_eq_true rfl⟩) hK hP hD hG hS hA (va_recv hK hP (ci := 6) (q0 := 0) rfl (oh_wg (by decide) (sX_0 hT))) rfl hl.1 rfl (Nat.le_of_ble_eq_true rfl) dX6_soonest_32 ⟨Nat.le_of_ble_eq_true rfl, Nat.le_of_ble_eq_true rfl⟩ (fun r_10 C_11 H locs hq_12 hP hD hS => ?_)
    obtain ⟨hT, f_13, hq_12⟩ := hq_12
    have hF := fr_tr hF f_13 (by decide) (by decide)
    refine W.widen (k := 0) (n := 0) (Nat.le_refl _) (Nat.le_refl _) ?_
    have t_14 := hT
    rw [hQ]
    exact W.iret (v := r_10) hx hb hr (fun t ht hW => ⟨⟨r_10, C_11, rfl, ⟨hT, hF, (fun A hA hok => by have hj : okJ A x1 x2 x3 x4 := (by unfold okJ; rw [← (show ga (C 10) ((2 : Int32)).toNatClampNeg = A 5 0 2 from hA.1 2 (by decide)), ← (show ga (C 10) ((3 : Int32)).toNatClampNeg = A 5 0 3 from hA.1 3 (by decide))]; exact u_4.2.2.2); exact Eq.trans (Eq.trans hq_12 (ld_st hok (rg_w (lo := 0) (hi := 15) u_4.2.1 (by decide)) (rg_w (lo := 0) (hi := 15) u_4.2.2.1 (by decide)) (hq_7 A hA hok hj.1.1.2))) (pif_pos hj).symm)⟩, ⟨by rw [ht]; exact hP, hD⟩⟩, hS.F ht⟩) hS.2.2 dX6_soonest_35
  · have u_15 := hq_2.2.2 c_3
    refine lv_aload_n hx hb dX6_soonest_12 rfl (lv_at hl 0 rfl) ?_
    refine lv_bipush (v := (-2)) hx hb dX6_soonest_13 (by decide) ?_
    refine tm_V (As := [.int (-2)]) (rest := []) ⟨hx, hb, hml, hown, htg⟩ (c_X6_refuse l D E G _ a C hT ((-2) : Int32)) (cwV 1 htg (oh_gV q_296 q_298 q_0 q_66 q_299) rfl rfl rfl pdVX6_refuse ⟨Nat.le_of_ble_eq_true rfl, Nat.le_of_ble_eq_true rfl⟩) hK hP hD hG hS hA (va_recv hK hP (ci := 6) (q0 := 0) rfl (oh_wg (by decide) (sX_0 hT))) rfl hl.1 rfl (Nat.le_of_ble_eq_true rfl) dX6_soonest_15 ⟨Nat.le_of_ble_eq_true rfl, Nat.le_of_ble_eq_true rfl⟩ (fun r_16 C_17 H locs hq_18 hP hD hS => ?_)
    obtain ⟨hT, f_19, hq_18⟩ := hq_18
    have hF := fr_tr hF f_19 (by decide) (by decide)
    refine W.widen (k := 0) (n := 0) (Nat.le_refl _) (Nat.le_refl _) ?_
    have t_20 := hT
    rw [hQ]
    exact W.iret (v := r_16) hx hb hr (fun t ht hW => ⟨⟨r_16, C_17, rfl, ⟨hT, hF, (fun A hA hok => Eq.trans hq_18 (pif_neg (by unfold okJ; rw [← (show ga (C 10) ((2 : Int32)).toNatClampNeg = A 5 0 2 from hA.1 2 (by decide)), ← (show ga (C 10) ((3 : Int32)).toNatClampNeg = A 5 0 3 from hA.1 3 (by decide))]; exact u_15)).symm)⟩, ⟨by rw [ht]; exact hP, hD⟩⟩, hS.F ht⟩) hS.2.2 dX6_soonest_18

theorem md_y {A : LA} {w s f t : Int32} {h : Nat → Int64} (hn : nnL h) (D : Dn (EdyA A w s) t.toNatClampNeg 1000000000000 (fL h)) (hF : ∀ q d, q < 16 → Ls (EdyA A w s) t.toNatClampNeg q d → d ≤ 900000000) (hf : rg f 0 15) (c1 : h f.toNatClampNeg < (1000000000000 : Int64)) : Int64.toInt32 (h f.toNatClampNeg) = pif (hasW (EdyA A w s) f.toNatClampNeg t.toNatClampNeg) (Int32.ofNat (lsN (EdyA A w s) f.toNatClampNeg t.toNatClampNeg)) (-5) := by
  have q : hasW (EdyA A w s) t.toNatClampNeg f.toNatClampNeg := Classical.byContradiction (fun z => absurd ((mL_i hn D hF (p16 hf)).mpr z) (Int64.not_le.mpr c1))
  obtain ⟨h1, h2⟩ := mL_y hn D hF (p16 hf) q
  rw [hasW_sym (E := EdyA A w s) edR_sym, lsN_sym (E := EdyA A w s) edR_sym, pif_pos q, mL_32 h1 h2]
theorem md_n {A : LA} {w s f t : Int32} {h : Nat → Int64} (hn : nnL h) (D : Dn (EdyA A w s) t.toNatClampNeg 1000000000000 (fL h)) (hF : ∀ q d, q < 16 → Ls (EdyA A w s) t.toNatClampNeg q d → d ≤ 900000000) (hf : rg f 0 15) (c1 : (1000000000000 : Int64) ≤ h f.toNatClampNeg) : (-5 : Int32) = pif (hasW (EdyA A w s) f.toNatClampNeg t.toNatClampNeg) (Int32.ofNat (lsN (EdyA A w s) f.toNatClampNeg t.toNatClampNeg)) (-5) := by
  rw [hasW_sym (E := EdyA A w s) edR_sym]
  exact (pif_neg ((mL_i hn D hF (p16 hf)).mp c1)).symm

set_option maxHeartbeats 4000000 in
set_option maxRecDepth 100000 in
theorem e_X7_soonest (l : Launch) (D : va_G) (E : Nat → ClassId) (G : Nat → Nat) (sz : Nat) (a : Nat → Nat) (C : Nat → va_E) (n : Nat) (hn : 74 ≤ n) (hT : TyM a E C) (x1 : Int32) (x2 : Int32) (x3 : Int32) (x4 : Int32) (hR : RelM C) : Met l yX7_soonest (oh_w yX7_soonest cX7_soonest 5 (some .int)) ({ frames := 6, cells := 0, slots := 0, locals := 152 }) (oh_Pm D E G [.ref (a 0), .int x1, .int x2, .int x3, .int x4] (oh_W n a C) sz) (va_Qi (fun r (u : Nat → va_E) => TyM a E u ∧ fr [(8, 9), (15, 16)] [] C u ∧ (RelM u) ∧ (∀ A : LA, absM C A → okA A → r = spSoon A x1 x2 x3 x4)) (oh_B D (va_A (oh_W n a C) sz) (fun u => oh_W n a u)) (va_A (oh_W n a C) sz)) 0 0 (va_A (oh_W n a C) sz) := by
  refine Met.ofW (cc := cX7_soonest) (maxL := 5) (ret := (some .int)) (by decide) rfl ?_
  intro p e s m args below meth c s₁ B hml hv
  obtain ⟨rfl, hsz, hP, hK, hD0, hG⟩ := hv
  have hx := B.exec
  have hb := B.bytes
  have hr := B.returns
  have hts := atoms_spec (ws := (oh_w yX7_soonest cX7_soonest 5 (some .int))) B.pre
  have htg : ∀ w ∈ oh_t, w.before _ s = true := fun w h => hts w (List.mem_cons_of_mem _ h)
  have hown : s.vm.findClass RX7 = some m.cls := findClass_of_methodNamed B.named
  have hlocks := B.notSynchronized
  have hT0 := hT
  subst hsz
  have hD := hD0.self (sz := s.heap.size)
  generalize hAe : va_A (oh_W n a C) s.heap.size = A at hD hG ⊢
  have hA : ∀ q : Nat, s.heap.size ≤ q → A q := fun q h => by rw [← hAe]; exact Or.inr h
  have hS : va_S A s.heap s.heap [] := va_S.rf
  have hF : fr [(8, 9), (15, 16)] [] C C := fr_rf
  have hl := lv_entry ([.ref (a 0), .int x1, .int x2, .int x3, .int x4]) (n := 5) (Nat.le_of_ble_eq_true rfl)
  rw [lg_entry_eq]
  generalize (lg_sl ([.ref (a 0), .int x1, .int x2, .int x3, .int x4]) ++ List.replicate (5 - (lg_sl ([.ref (a 0), .int x1, .int x2, .int x3, .int x4])).length) Slot.unset).toArray = ls at hl ⊢
  have hl : lv_has ls 5 [(0, .ref (a 0)), (1, .int x1), (2, .int x2), (3, .int x3), (4, .int x4)] := hl
  refine oh_genQ (fun Q hQ => ?_)
  refine lv_aload_n hx hb dX7_soonest_0 rfl (lv_at hl 0 rfl) ?_
  refine lv_iload_n hx hb dX7_soonest_1 rfl (lv_at hl 1 rfl) ?_
  refine lv_iload_n hx hb dX7_soonest_2 rfl (lv_at hl 2 rfl) ?_
  refine tq_V (As := [.int x1, .int x2]) (rest := []) (ws := (oh_W n a C)) ⟨hx, hb, hml, hown, htg⟩ (e_X7_isPack l D E G a C n hn hT x1 x2 hR.1) (cwV 2 htg (oh_gV q_1290 q_1292 q_50 q_73 q_1293) rfl rfl rfl pdVX7_isPack ⟨Nat.le_of_ble_eq_true rfl, Nat.le_of_ble_eq_true rfl⟩) hK hP hG hS (va_recv hK hP (ci := 7) (q0 := 0) rfl (oh_wg (Nat.lt_of_lt_of_le (by decide) hn) (sM_0 hT))) rfl hl.1 rfl (Nat.le_of_ble_eq_true rfl) dX7_soonest_3 ⟨Nat.le_of_ble_eq_true rfl, Nat.le_of_ble_eq_true rfl⟩ (fun r_1 hq_2 => ?_)
  refine lv_if_eq (tgt := 24) hx hb dX7_soonest_6 (by decide) (fun (c_3 : r_1 = 0) => ?_) (fun (c_3 : ¬ (r_1 = 0)) => ?_)
  · have u_4 := hq_2.2.2 c_3
    refine lv_aload_n hx hb dX7_soonest_24 rfl (lv_at hl 0 rfl) ?_
    refine lv_bipush (v := (-2)) hx hb dX7_soonest_25 (by decide) ?_
    refine tm_V (As := [.int (-2)]) (rest := []) ⟨hx, hb, hml, hown, htg⟩ (c_X7_refuse l D E G _ a C n hn hT ((-2) : Int32) (rg_w (rg_c (v := (-2)) (lo := (-2)) (hi := (-2)) (by decide)) (by decide))) (cwV 1 htg (oh_gV q_1071 q_1073 q_29 q_73 q_1074) rfl rfl rfl pdVX7_refuse ⟨Nat.le_of_ble_eq_true rfl, Nat.le_of_ble_eq_true rfl⟩) hK hP hD hG hS hA (va_recv hK hP (ci := 7) (q0 := 0) rfl (oh_wg (Nat.lt_of_lt_of_le (by decide) hn) (sM_0 hT))) rfl hl.1 rfl (Nat.le_of_ble_eq_true rfl) dX7_soonest_27 ⟨Nat.le_of_ble_eq_true rfl, Nat.le_of_ble_eq_true rfl⟩ (fun r_5 C_6 H locs hq_7 hP hD hS => ?_)
    obtain ⟨hT, f_8, hq_7⟩ := hq_7
    have hF := fr_tr hF f_8 (by decide) (by decide)
    refine W.widen (k := 0) (n := 0) (Nat.le_refl _) (Nat.le_refl _) ?_
    have t_9 := hT
    rw [hQ]
    exact W.iret (v := r_5) hx hb hr (fun t ht hW => ⟨⟨r_5, C_6, rfl, ⟨hT, hF, ⟨⟨hR.1.fr hF (by decide), hR.2.fr hF (by decide)⟩, (fun A hA hok => Eq.trans hq_7 (pif_neg (by unfold okJ; rw [← (show gi (C 0) 13 = A 5 0 2 from hA.1 2 (by decide)), ← (show gi (C 0) 15 = A 5 0 3 from hA.1 3 (by decide))]; exact (fun h8 => u_4 h8.1))).symm)⟩⟩, ⟨by rw [ht]; exact hP, hD⟩⟩, hS.F ht⟩) hS.2.2 dX7_soonest_30
  · have u_10 := hq_2.2.1 c_3
    refine lv_iload_n hx hb dX7_soonest_9 rfl (lv_at hl 3 rfl) ?_
    refine tq_S (As := [.int x3]) (rest := []) (ws := []) ⟨hx, hb, hml, hown, htg⟩ (e_X7_isPlace l D E G x3) (va_cwS 1 htg (oh_gS q_1130 q_1131 q_73 q_1132) rfl rfl rfl pdX7_isPlace ⟨Nat.le_of_ble_eq_true rfl, Nat.le_of_ble_eq_true rfl⟩) hK va_nil hG hS rfl hl.1 rfl (Nat.le_of_ble_eq_true rfl) dX7_soonest_10 ⟨Nat.le_of_ble_eq_true rfl, Nat.le_of_ble_eq_true rfl⟩ (fun r_11 hq_12 => ?_)
    refine lv_if_eq (tgt := 24) hx hb dX7_soonest_13 (by decide) (fun (c_13 : r_11 = 0) => ?_) (fun (c_13 : ¬ (r_11 = 0)) => ?_)
    · have u_14 := hq_12.2.2 c_13
      refine lv_aload_n hx hb dX7_soonest_24 rfl (lv_at hl 0 rfl) ?_
      refine lv_bipush (v := (-2)) hx hb dX7_soonest_25 (by decide) ?_
      refine tm_V (As := [.int (-2)]) (rest := []) ⟨hx, hb, hml, hown, htg⟩ (c_X7_refuse l D E G _ a C n hn hT ((-2) : Int32) (rg_w (rg_c (v := (-2)) (lo := (-2)) (hi := (-2)) (by decide)) (by decide))) (cwV 1 htg (oh_gV q_1071 q_1073 q_29 q_73 q_1074) rfl rfl rfl pdVX7_refuse ⟨Nat.le_of_ble_eq_true rfl, Nat.le_of_ble_eq_true rfl⟩) hK hP hD hG hS hA (va_recv hK hP (ci := 7) (q0 := 0) rfl (oh_wg (Nat.lt_of_lt_of_le (by decide) hn) (sM_0 hT))) rfl hl.1 rfl (Nat.le_of_ble_eq_true rfl) dX7_soonest_27 ⟨Nat.le_of_ble_eq_true rfl, Nat.le_of_ble_eq_true rfl⟩ (fun r_15 C_16 H locs hq_17 hP hD hS => ?_)
      obtain ⟨hT, f_18, hq_17⟩ := hq_17
      have hF := fr_tr hF f_18 (by decide) (by decide)
      refine W.widen (k := 0) (n := 0) (Nat.le_refl _) (Nat.le_refl _) ?_
      have t_19 := hT
      rw [hQ]
      exact W.iret (v := r_15) hx hb hr (fun t ht hW => ⟨⟨r_15, C_16, rfl, ⟨hT, hF, ⟨⟨hR.1.fr hF (by decide), hR.2.fr hF (by decide)⟩, (fun A hA hok => Eq.trans hq_17 (pif_neg (by unfold okJ; rw [← (show gi (C 0) 13 = A 5 0 2 from hA.1 2 (by decide)), ← (show gi (C 0) 15 = A 5 0 3 from hA.1 3 (by decide))]; exact (fun h8 => u_14 h8.2.1))).symm)⟩⟩, ⟨by rw [ht]; exact hP, hD⟩⟩, hS.F ht⟩) hS.2.2 dX7_soonest_30
    · have u_20 := hq_12.2.1 c_13
      refine lv_iload hx hb dX7_soonest_16 (lv_at hl 4 rfl) ?_
      refine tq_S (As := [.int x4]) (rest := []) (ws := []) ⟨hx, hb, hml, hown, htg⟩ (e_X7_isPlace l D E G x4) (va_cwS 1 htg (oh_gS q_1130 q_1131 q_73 q_1132) rfl rfl rfl pdX7_isPlace ⟨Nat.le_of_ble_eq_true rfl, Nat.le_of_ble_eq_true rfl⟩) hK va_nil hG hS rfl hl.1 rfl (Nat.le_of_ble_eq_true rfl) dX7_soonest_18 ⟨Nat.le_of_ble_eq_true rfl, Nat.le_of_ble_eq_true rfl⟩ (fun r_21 hq_22 => ?_)
      refine lv_if_ne (tgt := 31) hx hb dX7_soonest_21 (by decide) (fun (c_23 : ¬ (r_21 = 0)) => ?_) (fun (c_23 : r_21 = 0) => ?_)
      · have u_24 := hq_22.2.1 c_23
        refine lv_aload_n hx hb dX7_soonest_31 rfl (lv_at hl 0 rfl) ?_
        refine lv_iload_n hx hb dX7_soonest_32 rfl (lv_at hl 1 rfl) ?_
        refine lv_iload_n hx hb dX7_soonest_33 rfl (lv_at hl 2 rfl) ?_
        refine lv_iload hx hb dX7_soonest_34 (lv_at hl 4 rfl) ?_
        refine lv_iconst (v := 0) hx hb dX7_soonest_36 (by decide) ?_
        refine tm_Vv (As := [.int x1, .int x2, .int x4, .int 0]) (rest := []) ⟨hx, hb, hml, hown, htg⟩ (e_X7_findFar l D E G _ a C n hn hT x1 x2 x4 (0 : Int32) (rg_w u_10.1 (by decide)) (rg_w u_24 (by decide)) u_10.2.1) (cwV 4 htg (oh_gV q_1351 q_1353 q_60 q_73 q_1354) rfl rfl rfl pdVX7_findFar ⟨Nat.le_of_ble_eq_true rfl, Nat.le_of_ble_eq_true rfl⟩) hK hP hD hG hS hA (va_recv hK hP (ci := 7) (q0 := 0) rfl (oh_wg (Nat.lt_of_lt_of_le (by decide) hn) (sM_0 hT))) rfl hl.1 rfl (Nat.le_of_ble_eq_true rfl) dX7_soonest_37 ⟨Nat.le_of_ble_eq_true rfl, Nat.le_of_ble_eq_true rfl⟩ (fun C_26 H locs hq_27 hP hD hS => ?_)
        obtain ⟨hT, f_28, hq_27⟩ := hq_27
        have hF := fr_tr hF f_28 (by decide) (by decide)
        refine W.widen (k := 0) (n := 0) (Nat.le_refl _) (Nat.le_refl _) ?_
        have t_29 := hT
        refine lv_aload_n hx hb dX7_soonest_40 rfl (lv_at hl 0 rfl) ?_
        refine va_get (D := D) (ci := 7) (v := .ref (a 15)) (C := RX7) (T := TX7) (N := 29) hx hb htg ig_7 hown hK hP 0 (oh_wg (Nat.lt_of_lt_of_le (by decide) hn) (sM_0 hT)) rfl 27 (by decide) (htg _ q_1000) (fun _ h9 => h9) rfl dX7_soonest_41 ?_
        refine lv_iload_n hx hb dX7_soonest_44 rfl (lv_at hl 3 rfl) ?_
        have n_30 : vp_in x3 16 := (rg_in u_20 (by decide))
        refine th_lald hx hb hK hP 15 (Nat.lt_of_lt_of_le (by decide) hn) (sM_15 hT) n_30 dX7_soonest_45 ?_
        refine lv_ldc2 (v := 1000000000000) hx hb hown (htg _ q_1355) dX7_soonest_46 ?_
        refine W.lcmp hx hb dX7_soonest_49 ?_
        refine lv_if_lt (tgt := 62) hx hb dX7_soonest_50 (by decide) (fun (c_31 : (lg_cmp (gb (C_26 15) (x3).toNatClampNeg) 1000000000000) < 0) => ?_) (fun (c_31 : ¬ ((lg_cmp (gb (C_26 15) (x3).toNatClampNeg) 1000000000000) < 0)) => ?_)
        · refine lv_aload_n hx hb dX7_soonest_62 rfl (lv_at hl 0 rfl) ?_
          refine va_get (D := D) (ci := 7) (v := .ref (a 15)) (C := RX7) (T := TX7) (N := 29) hx hb htg ig_7 hown hK hP 0 (oh_wg (Nat.lt_of_lt_of_le (by decide) hn) (sM_0 hT)) rfl 27 (by decide) (htg _ q_1000) (fun _ h9 => h9) rfl dX7_soonest_63 ?_
          refine lv_iload_n hx hb dX7_soonest_66 rfl (lv_at hl 3 rfl) ?_
          have n_32 : vp_in x3 16 := (rg_in u_20 (by decide))
          refine th_lald hx hb hK hP 15 (Nat.lt_of_lt_of_le (by decide) hn) (sM_15 hT) n_32 dX7_soonest_67 ?_
          refine lv_l2i (v := Int64.toInt32 (gb (C_26 15) (x3).toNatClampNeg)) hx hb dX7_soonest_68 rfl ?_
          rw [hQ]
          exact W.iret (v := Int64.toInt32 (gb (C_26 15) (x3).toNatClampNeg)) hx hb hr (fun t ht hW => ⟨⟨Int64.toInt32 (gb (C_26 15) (x3).toNatClampNeg), C_26, rfl, ⟨hT, hF, ⟨⟨hR.1.fr hF (by decide), hR.2.fr hF (by decide)⟩, (fun A hA hok => by have hj : okJ A x1 x2 x3 x4 := (by unfold okJ; rw [← (show gi (C 0) 13 = A 5 0 2 from hA.1 2 (by decide)), ← (show gi (C 0) 15 = A 5 0 3 from hA.1 3 (by decide))]; exact ⟨u_10.2.2.2, (oh_rgI (p := 0) (q := 15) (rg_w (lo := 0) (hi := 15) u_20 (by decide))), (oh_rgI (p := 0) (q := 15) (rg_w (lo := 0) (hi := 15) u_24 (by decide)))⟩); obtain ⟨hnn, D⟩ := hq_27 A hA hok hj.1.1.2 ⟨by decide, by decide⟩; rw [EnA_0 rfl] at D; have hF := ed_fin hok x1 x2 (p16 (rg_w (lo := 0) (hi := 15) u_24 (by decide))); exact Eq.trans (md_y hnn D hF (rg_w (lo := 0) (hi := 15) u_20 (by decide)) (oh_lc_lt c_31)) (pif_pos hj).symm)⟩⟩, ⟨by rw [ht]; exact hP, hD⟩⟩, hS.F ht⟩) hS.2.2 dX7_soonest_69
        · refine lv_aload_n hx hb dX7_soonest_53 rfl (lv_at hl 0 rfl) ?_
          refine lv_bipush (v := (-5)) hx hb dX7_soonest_54 (by decide) ?_
          refine tm_V (As := [.int (-5)]) (rest := []) ⟨hx, hb, hml, hown, htg⟩ (c_X7_refuse l D E G _ a C_26 n hn hT ((-5) : Int32) (rg_w (rg_c (v := (-5)) (lo := (-5)) (hi := (-5)) (by decide)) (by decide))) (cwV 1 htg (oh_gV q_1071 q_1073 q_29 q_73 q_1074) rfl rfl rfl pdVX7_refuse ⟨Nat.le_of_ble_eq_true rfl, Nat.le_of_ble_eq_true rfl⟩) hK hP hD hG hS hA (va_recv hK hP (ci := 7) (q0 := 0) rfl (oh_wg (Nat.lt_of_lt_of_le (by decide) hn) (sM_0 hT))) rfl hl.1 rfl (Nat.le_of_ble_eq_true rfl) dX7_soonest_56 ⟨Nat.le_of_ble_eq_true rfl, Nat.le_of_ble_eq_true rfl⟩ (fun r_33 C_34 H locs hq_35 hP hD hS => ?_)
          obtain ⟨hT, f_36, hq_35⟩ := hq_35
          have hF := fr_tr hF f_36 (by decide) (by decide)
          refine W.widen (k := 0) (n := 0) (Nat.le_refl _) (Nat.le_refl _) ?_
          have t_37 := hT
          refine lv_goto (tgt := 69) hx hb dX7_soonest_59 (by decide) ?_
          rw [hQ]
          exact W.iret (v := r_33) hx hb hr (fun t ht hW => ⟨⟨r_33, C_34, rfl, ⟨hT, hF, ⟨⟨hR.1.fr hF (by decide), hR.2.fr hF (by decide)⟩, (fun A hA hok => by have hj : okJ A x1 x2 x3 x4 := (by unfold okJ; rw [← (show gi (C 0) 13 = A 5 0 2 from hA.1 2 (by decide)), ← (show gi (C 0) 15 = A 5 0 3 from hA.1 3 (by decide))]; exact ⟨u_10.2.2.2, (oh_rgI (p := 0) (q := 15) (rg_w (lo := 0) (hi := 15) u_20 (by decide))), (oh_rgI (p := 0) (q := 15) (rg_w (lo := 0) (hi := 15) u_24 (by decide)))⟩); obtain ⟨hnn, D⟩ := hq_27 A hA hok hj.1.1.2 ⟨by decide, by decide⟩; rw [EnA_0 rfl] at D; have hF := ed_fin hok x1 x2 (p16 (rg_w (lo := 0) (hi := 15) u_24 (by decide))); exact Eq.trans hq_35 (Eq.trans (md_n hnn D hF (rg_w (lo := 0) (hi := 15) u_20 (by decide)) (oh_lc_nlt c_31)) (pif_pos hj).symm))⟩⟩, ⟨by rw [ht]; exact hP, hD⟩⟩, hS.F ht⟩) hS.2.2 dX7_soonest_69
      · have u_38 := hq_22.2.2 c_23
        refine lv_aload_n hx hb dX7_soonest_24 rfl (lv_at hl 0 rfl) ?_
        refine lv_bipush (v := (-2)) hx hb dX7_soonest_25 (by decide) ?_
        refine tm_V (As := [.int (-2)]) (rest := []) ⟨hx, hb, hml, hown, htg⟩ (c_X7_refuse l D E G _ a C n hn hT ((-2) : Int32) (rg_w (rg_c (v := (-2)) (lo := (-2)) (hi := (-2)) (by decide)) (by decide))) (cwV 1 htg (oh_gV q_1071 q_1073 q_29 q_73 q_1074) rfl rfl rfl pdVX7_refuse ⟨Nat.le_of_ble_eq_true rfl, Nat.le_of_ble_eq_true rfl⟩) hK hP hD hG hS hA (va_recv hK hP (ci := 7) (q0 := 0) rfl (oh_wg (Nat.lt_of_lt_of_le (by decide) hn) (sM_0 hT))) rfl hl.1 rfl (Nat.le_of_ble_eq_true rfl) dX7_soonest_27 ⟨Nat.le_of_ble_eq_true rfl, Nat.le_of_ble_eq_true rfl⟩ (fun r_39 C_40 H locs hq_41 hP hD hS => ?_)
        obtain ⟨hT, f_42, hq_41⟩ := hq_41
        have hF := fr_tr hF f_42 (by decide) (by decide)
        refine W.widen (k := 0) (n := 0) (Nat.le_refl _) (Nat.le_refl _) ?_
        have t_43 := hT
        rw [hQ]
        exact W.iret (v := r_39) hx hb hr (fun t ht hW => ⟨⟨r_39, C_40, rfl, ⟨hT, hF, ⟨⟨hR.1.fr hF (by decide), hR.2.fr hF (by decide)⟩, (fun A hA hok => Eq.trans hq_41 (pif_neg (by unfold okJ; rw [← (show gi (C 0) 13 = A 5 0 2 from hA.1 2 (by decide)), ← (show gi (C 0) 15 = A 5 0 3 from hA.1 3 (by decide))]; exact (fun h8 => u_38 h8.2.2))).symm)⟩⟩, ⟨by rw [ht]; exact hP, hD⟩⟩, hS.F ht⟩) hS.2.2 dX7_soonest_30
/-! FULL: the places that can be reached -/
noncomputable def rcA (A : LA) (w s f : Int32) : Nat → Int32
  | 0 => 0
  | k + 1 => rcA A w s f k ||| pif (hasW (EcA A w s 1) f.toNatClampNeg k) ((1 : Int32) <<< (Int32.ofNat k &&& 31)) 0
theorem rcA_y {A : LA} {w s f z : Int32} (hz : rg z 0 15) (q : hasW (EcA A w s 1) f.toNatClampNeg z.toNatClampNeg) : rcA A w s f (z + 1).toNatClampNeg = rcA A w s f z.toNatClampNeg ||| ((1 : Int32) <<< (z &&& 31)) := by
  rw [z_s15 hz]
  show rcA A w s f z.toNatClampNeg ||| pif (hasW (EcA A w s 1) f.toNatClampNeg z.toNatClampNeg) ((1 : Int32) <<< (Int32.ofNat z.toNatClampNeg &&& 31)) 0 = _
  rw [pif_pos q, oh_ofc hz (by decide)]
theorem rcA_n {A : LA} {w s f z : Int32} (hz : rg z 0 15) (q : ¬ hasW (EcA A w s 1) f.toNatClampNeg z.toNatClampNeg) : rcA A w s f (z + 1).toNatClampNeg = rcA A w s f z.toNatClampNeg ||| 0 := by
  rw [z_s15 hz]
  show rcA A w s f z.toNatClampNeg ||| pif (hasW (EcA A w s 1) f.toNatClampNeg z.toNatClampNeg) ((1 : Int32) <<< (Int32.ofNat z.toNatClampNeg &&& 31)) 0 = _
  rw [pif_neg q]
noncomputable def spReach (A : LA) (w s f : Int32) : Int32 := pif (okPk (A 5 0 2) (A 5 0 3) w s ∧ (0 ≤ f ∧ f ≤ 15)) (rcA A w s f 16) (-2)

set_option maxHeartbeats 4000000 in
set_option maxRecDepth 100000 in
theorem e_X5_reached (l : Launch) (D : va_G) (E : Nat → ClassId) (G : Nat → Nat) (sz : Nat) (a : Nat → Nat) (C : Nat → va_E) (hT : TyX a E C) (x1 : Int32) (x2 : Int32) (x3 : Int32) (hx1 : rg x1 0 4) (hx3 : rg x3 0 15) : Met l yX5_reached (oh_w yX5_reached cX5_reached 6 (some .int)) ({ frames := 4, cells := 0, slots := 0, locals := 100 }) (oh_Pm D E G [.ref (a 3), .int x1, .int x2, .int x3] (oh_W 35 a C) sz) (va_Qi (fun r (u : Nat → va_E) => TyX a E u ∧ fr [(9, 10), (24, 28)] [] C u ∧ (∀ A : LA, absX 10 C A → okA A → x1 < A 5 0 2 → r = rcA A x1 x2 x3 16)) (oh_B D (va_A (oh_W 35 a C) sz) (fun u => oh_W 35 a u)) (va_A (oh_W 35 a C) sz)) 0 0 (va_A (oh_W 35 a C) sz) := by
  refine Met.ofW (cc := cX5_reached) (maxL := 6) (ret := (some .int)) (by decide) rfl ?_
  intro p e s m args below meth c s₁ B hml hv
  obtain ⟨rfl, hsz, hP, hK, hD0, hG⟩ := hv
  have hx := B.exec
  have hb := B.bytes
  have hr := B.returns
  have hts := atoms_spec (ws := (oh_w yX5_reached cX5_reached 6 (some .int))) B.pre
  have htg : ∀ w ∈ oh_t, w.before _ s = true := fun w h => hts w (List.mem_cons_of_mem _ h)
  have hown : s.vm.findClass RX5 = some m.cls := findClass_of_methodNamed B.named
  have hlocks := B.notSynchronized
  have hT0 := hT
  subst hsz
  have hD := hD0.self (sz := s.heap.size)
  generalize hAe : va_A (oh_W 35 a C) s.heap.size = A at hD hG ⊢
  have hA : ∀ q : Nat, s.heap.size ≤ q → A q := fun q h => by rw [← hAe]; exact Or.inr h
  have hS : va_S A s.heap s.heap [] := va_S.rf
  have hF : fr [(9, 10), (24, 28)] [] C C := fr_rf
  have hl := lv_entry ([.ref (a 3), .int x1, .int x2, .int x3]) (n := 6) (Nat.le_of_ble_eq_true rfl)
  rw [lg_entry_eq]
  generalize (lg_sl ([.ref (a 3), .int x1, .int x2, .int x3]) ++ List.replicate (6 - (lg_sl ([.ref (a 3), .int x1, .int x2, .int x3])).length) Slot.unset).toArray = ls at hl ⊢
  have hl : lv_has ls 6 [(0, .ref (a 3)), (1, .int x1), (2, .int x2), (3, .int x3)] := hl
  refine oh_genQ (fun Q hQ => ?_)
  refine lv_aload_n hx hb dX5_reached_0 rfl (lv_at hl 0 rfl) ?_
  refine lv_iload_n hx hb dX5_reached_1 rfl (lv_at hl 1 rfl) ?_
  refine lv_iload_n hx hb dX5_reached_2 rfl (lv_at hl 2 rfl) ?_
  refine tm_Vv (As := [.int x1, .int x2]) (rest := []) ⟨hx, hb, hml, hown, htg⟩ (e_X5_survey l D E G _ a C hT x1 x2 (rg_w hx1 (by decide))) (cwV 2 htg (oh_gV q_784 q_751 q_752 q_68 q_753) rfl rfl rfl pdVX5_survey ⟨Nat.le_of_ble_eq_true rfl, Nat.le_of_ble_eq_true rfl⟩) hK hP hD hG hS hA (va_recv hK hP (ci := 5) (q0 := 3) rfl (oh_wg (by decide) (sX_3 hT))) rfl hl.1 rfl (Nat.le_of_ble_eq_true rfl) dX5_reached_3 ⟨Nat.le_of_ble_eq_true rfl, Nat.le_of_ble_eq_true rfl⟩ (fun C_2 H locs hq_3 hP hD hS => ?_)
  obtain ⟨hT, f_4, hq_3⟩ := hq_3
  have hF := fr_tr hF f_4 (by decide) (by decide)
  refine W.widen (k := 0) (n := 0) (Nat.le_refl _) (Nat.le_refl _) ?_
  have t_5 := hT
  refine lv_aload_n hx hb dX5_reached_6 rfl (lv_at hl 0 rfl) ?_
  refine lv_iconst (v := 1) hx hb dX5_reached_7 (by decide) ?_
  refine tm_Vv (As := [.int 1]) (rest := []) ⟨hx, hb, hml, hown, htg⟩ (e_X5_priceByCoin l D E G _ a C_2 hT (1 : Int32)) (cwV 1 htg (oh_gV q_785 q_787 q_18 q_68 q_788) rfl rfl rfl pdVX5_priceByCoin ⟨Nat.le_of_ble_eq_true rfl, Nat.le_of_ble_eq_true rfl⟩) hK hP hD hG hS hA (va_recv hK hP (ci := 5) (q0 := 3) rfl (oh_wg (by decide) (sX_3 hT))) rfl hl.1 rfl (Nat.le_of_ble_eq_true rfl) dX5_reached_8 ⟨Nat.le_of_ble_eq_true rfl, Nat.le_of_ble_eq_true rfl⟩ (fun C_7 H locs hq_8 hP hD hS => ?_)
  obtain ⟨hT, f_9, hq_8⟩ := hq_8
  have hF := fr_tr hF f_9 (by decide) (by decide)
  refine W.widen (k := 0) (n := 0) (Nat.le_refl _) (Nat.le_refl _) ?_
  have t_10 := hT
  refine lv_aload_n hx hb dX5_reached_11 rfl (lv_at hl 0 rfl) ?_
  refine lv_iload_n hx hb dX5_reached_12 rfl (lv_at hl 3 rfl) ?_
  refine tm_Vv (As := [.int x3]) (rest := []) ⟨hx, hb, hml, hown, htg⟩ (e_X5_spread l D E G _ a C_7 hT x3 (rg_w hx3 (by decide))) (cwV 1 htg (oh_gV q_790 q_792 q_19 q_68 q_793) rfl rfl rfl pdVX5_spread ⟨Nat.le_of_ble_eq_true rfl, Nat.le_of_ble_eq_true rfl⟩) hK hP hD hG hS hA (va_recv hK hP (ci := 5) (q0 := 3) rfl (oh_wg (by decide) (sX_3 hT))) rfl hl.1 rfl (Nat.le_of_ble_eq_true rfl) dX5_reached_13 ⟨Nat.le_of_ble_eq_true rfl, Nat.le_of_ble_eq_true rfl⟩ (fun C_12 H locs hq_13 hP hD hS => ?_)
  obtain ⟨hT, f_14, hq_13⟩ := hq_13
  have hF := fr_tr hF f_14 (by decide) (by decide)
  refine W.widen (k := 0) (n := 0) (Nat.le_refl _) (Nat.le_refl _) ?_
  have t_15 := hT
  refine lv_iconst (v := 0) hx hb dX5_reached_16 (by decide) ?_
  refine lv_istore (lv' := [(4, .int 0), (0, .ref (a 3)), (1, .int x1), (2, .int x2), (3, .int x3)]) hx hb dX5_reached_17 hl (by decide) rfl (fun ls hl => ?_)
  refine lv_iconst (v := 0) hx hb dX5_reached_19 (by decide) ?_
  refine lv_istore (lv' := [(5, .int 0), (4, .int 0), (0, .ref (a 3)), (1, .int x1), (2, .int x2), (3, .int x3)]) hx hb dX5_reached_20 hl (by decide) rfl (fun ls hl => ?_)
  have L_22 : ∀ (d : Nat) (K22 : Nat → va_E) (z22_5 : Int32) (z22_4 : Int32) (H : Heap) (locs : List Loc) (ls : Array Slot), (16 - z22_5.toInt).toNat = d → rg z22_5 0 16 → (∀ A : LA, absX 10 C A → okA A → x1 < A 5 0 2 → z22_4 = rcA A x1 x2 x3 z22_5.toNatClampNeg) → TyX a E K22 → fr [(9, 10), (24, 28)] [] C K22 → fr [] [] C_12 K22 → va_P D vwCl (oh_W 35 a K22) H → va_D A (oh_W 35 a K22) → va_S A s.heap H locs → lv_has ls 6 [(5, .int z22_5), (4, .int z22_4), (0, .ref (a 3)), (1, .int x1), (2, .int x2), (3, .int x3)] → W p l e ({ frames := 4, cells := 0, slots := 0, locals := 100 }) s m (([.ref (a 3), .int x1, .int x2, .int x3] : List Value).toArray) below meth c H locs 0 0 Q (F0 m 22 ls []) := by
    intro d
    induction d using Nat.strongRecOn with
    | ind d ih_22 =>
    intro K22 z22_5 z22_4 H locs ls hd_22 hz22_5 hx_22 hT hF hLF_22 hP hD hS hl
    have t_16 := hT
    refine lv_iload hx hb dX5_reached_22 (lv_at hl 0 rfl) ?_
    refine lv_bipush (v := 16) hx hb dX5_reached_24 (by decide) ?_
    refine lv_icmp_ge (tgt := 56) hx hb dX5_reached_26 (by decide) (fun (c_17 : (16 : Int32) ≤ z22_5) => ?_) (fun (c_17 : ¬ ((16 : Int32) ≤ z22_5)) => ?_)
    · refine lv_iload hx hb dX5_reached_56 (lv_at hl 1 rfl) ?_
      rw [hQ]
      exact W.iret (v := z22_4) hx hb hr (fun t ht hW => ⟨⟨z22_4, K22, rfl, ⟨hT, hF, (fun A hA hok hl => by have h7 := hx_22 A hA hok hl; rw [oh_zeq (k := 16) hz22_5 c_17 (by decide)] at h7; exact h7)⟩, ⟨by rw [ht]; exact hP, hD⟩⟩, hS.F ht⟩) hS.2.2 dX5_reached_58
    · refine lv_aload_n hx hb dX5_reached_29 rfl (lv_at hl 2 rfl) ?_
      refine va_get (D := D) (ci := 5) (v := .ref (a 27)) (C := RX5) (T := TX5) (N := 7) hx hb htg ig_5 hown hK hP 3 (oh_wg (by decide) (sX_3 hT)) rfl 5 (by decide) (htg _ q_174) (fun _ h9 => h9) rfl dX5_reached_30 ?_
      refine lv_iload hx hb dX5_reached_33 (lv_at hl 0 rfl) ?_
      have n_18 : vp_in z22_5 16 := (rg_in (rn_ltu (u' := 15) (Int32.not_le.mp c_17) hz22_5 (rg_c (v := 16) (lo := 16) (hi := 16) (by decide)) (by decide)) (by decide))
      refine th_iald hx hb hK hP 27 (by decide) (Eq.trans (hLF_22.1 27 rfl (by decide)) (sX_27 t_15)) n_18 dX5_reached_35 ?_
      refine lv_ldc (v := 1000000000) hx hb hown (htg _ q_794) dX5_reached_36 ?_
      refine lv_icmp_eq (tgt := 50) hx hb dX5_reached_38 (by decide) (fun (c_19 : (ga (C_12 27) (z22_5).toNatClampNeg) = 1000000000) => ?_) (fun (c_19 : ¬ ((ga (C_12 27) (z22_5).toNatClampNeg) = 1000000000)) => ?_)
      · refine lv_iinc (v := z22_5 + 1) (lv' := [(5, .int (z22_5 + 1)), (4, .int z22_4), (0, .ref (a 3)), (1, .int x1), (2, .int x2), (3, .int x3)]) hx hb dX5_reached_50 hl (k := 0) rfl (by rfl) (by decide) rfl (fun ls hl => ?_)
        refine lv_goto (tgt := 22) hx hb dX5_reached_53 (by decide) ?_
        exact ih_22 _ (hd_22 ▸ mu_up 16 (rn_ltu (u' := 15) (Int32.not_le.mp c_17) hz22_5 (rg_c (v := 16) (lo := 16) (hi := 16) (by decide)) (by decide)) (by decide)) K22 (z22_5 + 1) z22_4 _ _ ls rfl (rg_w (rg_add (lo := 1) (hi := 16) (rn_ltu (u' := 15) (Int32.not_le.mp c_17) hz22_5 (rg_c (v := 16) (lo := 16) (hi := 16) (by decide)) (by decide)) (rg_c (v := 1) (lo := 1) (hi := 1) (by decide)) (by decide)) (by decide)) (fun A hA hok hl => by have hs2 : svX C_2 A x1 x2 := hq_3 A hA hl; have hA2 := (absX_eq hA (fr_all f_4 10 15 (by decide))); have hA7 := (absX_eq (absX_eq hA (fr_all f_4 10 15 (by decide))) (fr_all f_9 10 15 (by decide))); have hs7 : svX C_7 A x1 x2 := svX_eq hs2 (f_9.1 9 rfl (by decide)) (f_9.1 24 rfl (by decide)) (f_9.1 25 rfl (by decide)); have G := gx_c hA7 hok hx1 hl ⟨by decide, by decide⟩ hs7 (hq_8 A x1 x2 hA2 hs2); have hF := ec_fin hok x2 hx1 hl (n := 1) ⟨by decide, by decide⟩ (p16 hx3); obtain ⟨hnn, D⟩ := hq_13 _ _ _ _ _ G; rw [rcA_n (rg_w (lo := 0) (hi := 15) (rn_ltu (u' := 15) (Int32.not_le.mp c_17) hz22_5 (rg_c (v := 16) (lo := 16) (hi := 16) (by decide)) (by decide)) (by decide)) ((fX_i D hF (p16 (rg_w (lo := 0) (hi := 15) (rn_ltu (u' := 15) (Int32.not_le.mp c_17) hz22_5 (rg_c (v := 16) (lo := 16) (hi := 16) (by decide)) (by decide)) (by decide)))).mp c_19), ← hx_22 A hA hok hl, Int32.or_zero]) hT hF hLF_22 hP hD hS (lv_sub hl [0, 1, 2, 3, 4, 5] rfl)
      · refine lv_iload hx hb dX5_reached_41 (lv_at hl 1 rfl) ?_
        refine lv_iconst (v := 1) hx hb dX5_reached_43 (by decide) ?_
        refine lv_iload hx hb dX5_reached_44 (lv_at hl 0 rfl) ?_
        refine lv_ishl hx hb dX5_reached_46 ?_
        refine lv_ior hx hb dX5_reached_47 ?_
        refine lv_istore (lv' := [(4, .int (z22_4 ||| ((1 : Int32) <<< (z22_5 &&& 31)))), (5, .int z22_5), (0, .ref (a 3)), (1, .int x1), (2, .int x2), (3, .int x3)]) hx hb dX5_reached_48 hl (by decide) rfl (fun ls hl => ?_)
        refine lv_iinc (v := z22_5 + 1) (lv' := [(5, .int (z22_5 + 1)), (4, .int (z22_4 ||| ((1 : Int32) <<< (z22_5 &&& 31)))), (0, .ref (a 3)), (1, .int x1), (2, .int x2), (3, .int x3)]) hx hb dX5_reached_50 hl (k := 1) rfl (by rfl) (by decide) rfl (fun ls hl => ?_)
        refine lv_goto (tgt := 22) hx hb dX5_reached_53 (by decide) ?_
        exact ih_22 _ (hd_22 ▸ mu_up 16 (rn_ltu (u' := 15) (Int32.not_le.mp c_17) hz22_5 (rg_c (v := 16) (lo := 16) (hi := 16) (by decide)) (by decide)) (by decide)) K22 (z22_5 + 1) (z22_4 ||| ((1 : Int32) <<< (z22_5 &&& 31))) _ _ ls rfl (rg_w (rg_add (lo := 1) (hi := 16) (rn_ltu (u' := 15) (Int32.not_le.mp c_17) hz22_5 (rg_c (v := 16) (lo := 16) (hi := 16) (by decide)) (by decide)) (rg_c (v := 1) (lo := 1) (hi := 1) (by decide)) (by decide)) (by decide)) (fun A hA hok hl => by have hs2 : svX C_2 A x1 x2 := hq_3 A hA hl; have hA2 := (absX_eq hA (fr_all f_4 10 15 (by decide))); have hA7 := (absX_eq (absX_eq hA (fr_all f_4 10 15 (by decide))) (fr_all f_9 10 15 (by decide))); have hs7 : svX C_7 A x1 x2 := svX_eq hs2 (f_9.1 9 rfl (by decide)) (f_9.1 24 rfl (by decide)) (f_9.1 25 rfl (by decide)); have G := gx_c hA7 hok hx1 hl ⟨by decide, by decide⟩ hs7 (hq_8 A x1 x2 hA2 hs2); have hF := ec_fin hok x2 hx1 hl (n := 1) ⟨by decide, by decide⟩ (p16 hx3); obtain ⟨hnn, D⟩ := hq_13 _ _ _ _ _ G; rw [rcA_y (rg_w (lo := 0) (hi := 15) (rn_ltu (u' := 15) (Int32.not_le.mp c_17) hz22_5 (rg_c (v := 16) (lo := 16) (hi := 16) (by decide)) (by decide)) (by decide)) (Classical.byContradiction (fun q => c_19 ((fX_i D hF (p16 (rg_w (lo := 0) (hi := 15) (rn_ltu (u' := 15) (Int32.not_le.mp c_17) hz22_5 (rg_c (v := 16) (lo := 16) (hi := 16) (by decide)) (by decide)) (by decide)))).mpr q))), ← hx_22 A hA hok hl]) hT hF hLF_22 hP hD hS (lv_sub hl [0, 1, 2, 3, 4, 5] rfl)
  exact L_22 _ C_12 0 0 _ _ ls rfl (rg_w (rg_c (v := 0) (lo := 0) (hi := 0) (by decide)) (by decide)) (fun A hA hok hl => rfl) hT hF fr_rf hP hD hS (lv_sub hl [0, 1, 2, 3, 4, 5] rfl)

set_option maxHeartbeats 4000000 in
set_option maxRecDepth 100000 in
theorem e_X6_reach (l : Launch) (D : va_G) (E : Nat → ClassId) (G : Nat → Nat) (sz : Nat) (a : Nat → Nat) (C : Nat → va_E) (hT : TyX a E C) (x1 : Int32) (x2 : Int32) (x3 : Int32) : Met l yX6_reach (oh_w yX6_reach cX6_reach 4 (some .int)) ({ frames := 5, cells := 0, slots := 0, locals := 125 }) (oh_Pm D E G [.ref (a 0), .int x1, .int x2, .int x3] (oh_W 35 a C) sz) (va_Qi (fun r (u : Nat → va_E) => TyX a E u ∧ fr [(7, 8), (9, 10), (24, 28)] [] C u ∧ (∀ A : LA, absX 10 C A → okA A → r = spReach A x1 x2 x3)) (oh_B D (va_A (oh_W 35 a C) sz) (fun u => oh_W 35 a u)) (va_A (oh_W 35 a C) sz)) 0 0 (va_A (oh_W 35 a C) sz) := by
  refine Met.ofW (cc := cX6_reach) (maxL := 4) (ret := (some .int)) (by decide) rfl ?_
  intro p e s m args below meth c s₁ B hml hv
  obtain ⟨rfl, hsz, hP, hK, hD0, hG⟩ := hv
  have hx := B.exec
  have hb := B.bytes
  have hr := B.returns
  have hts := atoms_spec (ws := (oh_w yX6_reach cX6_reach 4 (some .int))) B.pre
  have htg : ∀ w ∈ oh_t, w.before _ s = true := fun w h => hts w (List.mem_cons_of_mem _ h)
  have hown : s.vm.findClass RX6 = some m.cls := findClass_of_methodNamed B.named
  have hlocks := B.notSynchronized
  have hT0 := hT
  subst hsz
  have hD := hD0.self (sz := s.heap.size)
  generalize hAe : va_A (oh_W 35 a C) s.heap.size = A at hD hG ⊢
  have hA : ∀ q : Nat, s.heap.size ≤ q → A q := fun q h => by rw [← hAe]; exact Or.inr h
  have hS : va_S A s.heap s.heap [] := va_S.rf
  have hF : fr [(7, 8), (9, 10), (24, 28)] [] C C := fr_rf
  have hl := lv_entry ([.ref (a 0), .int x1, .int x2, .int x3]) (n := 4) (Nat.le_of_ble_eq_true rfl)
  rw [lg_entry_eq]
  generalize (lg_sl ([.ref (a 0), .int x1, .int x2, .int x3]) ++ List.replicate (4 - (lg_sl ([.ref (a 0), .int x1, .int x2, .int x3])).length) Slot.unset).toArray = ls at hl ⊢
  have hl : lv_has ls 4 [(0, .ref (a 0)), (1, .int x1), (2, .int x2), (3, .int x3)] := hl
  refine oh_genQ (fun Q hQ => ?_)
  refine lv_aload_n hx hb dX6_reach_0 rfl (lv_at hl 0 rfl) ?_
  refine lv_iload_n hx hb dX6_reach_1 rfl (lv_at hl 1 rfl) ?_
  refine lv_iload_n hx hb dX6_reach_2 rfl (lv_at hl 2 rfl) ?_
  refine tq_V (As := [.int x1, .int x2]) (rest := []) (ws := (oh_W 35 a C)) ⟨hx, hb, hml, hown, htg⟩ (e_X6_isPack l D E G a C hT x1 x2) (cwV 2 htg (oh_gV q_695 q_697 q_16 q_66 q_698) rfl rfl rfl pdVX6_isPack ⟨Nat.le_of_ble_eq_true rfl, Nat.le_of_ble_eq_true rfl⟩) hK hP hG hS (va_recv hK hP (ci := 6) (q0 := 0) rfl (oh_wg (by decide) (sX_0 hT))) rfl hl.1 rfl (Nat.le_of_ble_eq_true rfl) dX6_reach_3 ⟨Nat.le_of_ble_eq_true rfl, Nat.le_of_ble_eq_true rfl⟩ (fun r_1 hq_2 => ?_)
  refine lv_if_eq (tgt := 16) hx hb dX6_reach_6 (by decide) (fun (c_3 : r_1 = 0) => ?_) (fun (c_3 : ¬ (r_1 = 0)) => ?_)
  · have u_4 := hq_2.2.2 c_3
    refine lv_aload_n hx hb dX6_reach_16 rfl (lv_at hl 0 rfl) ?_
    refine lv_bipush (v := (-2)) hx hb dX6_reach_17 (by decide) ?_
    refine tm_V (As := [.int (-2)]) (rest := []) ⟨hx, hb, hml, hown, htg⟩ (c_X6_refuse l D E G _ a C hT ((-2) : Int32)) (cwV 1 htg (oh_gV q_296 q_298 q_0 q_66 q_299) rfl rfl rfl pdVX6_refuse ⟨Nat.le_of_ble_eq_true rfl, Nat.le_of_ble_eq_true rfl⟩) hK hP hD hG hS hA (va_recv hK hP (ci := 6) (q0 := 0) rfl (oh_wg (by decide) (sX_0 hT))) rfl hl.1 rfl (Nat.le_of_ble_eq_true rfl) dX6_reach_19 ⟨Nat.le_of_ble_eq_true rfl, Nat.le_of_ble_eq_true rfl⟩ (fun r_5 C_6 H locs hq_7 hP hD hS => ?_)
    obtain ⟨hT, f_8, hq_7⟩ := hq_7
    have hF := fr_tr hF f_8 (by decide) (by decide)
    refine W.widen (k := 0) (n := 0) (Nat.le_refl _) (Nat.le_refl _) ?_
    have t_9 := hT
    rw [hQ]
    exact W.iret (v := r_5) hx hb hr (fun t ht hW => ⟨⟨r_5, C_6, rfl, ⟨hT, hF, (fun A hA hok => Eq.trans hq_7 (pif_neg (fun h8 => (show ¬ okPk (A 5 0 2) (A 5 0 3) x1 x2 by rw [← (show ga (C 10) ((2 : Int32)).toNatClampNeg = A 5 0 2 from hA.1 2 (by decide)), ← (show ga (C 10) ((3 : Int32)).toNatClampNeg = A 5 0 3 from hA.1 3 (by decide))]; exact u_4) h8.1)).symm)⟩, ⟨by rw [ht]; exact hP, hD⟩⟩, hS.F ht⟩) hS.2.2 dX6_reach_22
  · have u_10 := hq_2.2.1 c_3
    refine lv_iload_n hx hb dX6_reach_9 rfl (lv_at hl 3 rfl) ?_
    refine tq_S (As := [.int x3]) (rest := []) (ws := []) ⟨hx, hb, hml, hown, htg⟩ (e_X6_isPlace l D E G x3) (va_cwS 1 htg (oh_gS q_413 q_414 q_66 q_415) rfl rfl rfl pdX6_isPlace ⟨Nat.le_of_ble_eq_true rfl, Nat.le_of_ble_eq_true rfl⟩) hK va_nil hG hS rfl hl.1 rfl (Nat.le_of_ble_eq_true rfl) dX6_reach_10 ⟨Nat.le_of_ble_eq_true rfl, Nat.le_of_ble_eq_true rfl⟩ (fun r_11 hq_12 => ?_)
    refine lv_if_ne (tgt := 23) hx hb dX6_reach_13 (by decide) (fun (c_13 : ¬ (r_11 = 0)) => ?_) (fun (c_13 : r_11 = 0) => ?_)
    · have u_14 := hq_12.2.1 c_13
      refine lv_aload_n hx hb dX6_reach_23 rfl (lv_at hl 0 rfl) ?_
      refine va_get (D := D) (ci := 6) (v := .ref (a 3)) (C := RX6) (T := TX6) (N := 9) hx hb htg ig_6 hown hK hP 0 (oh_wg (by decide) (sX_0 hT)) rfl 3 (by decide) (htg _ q_261) (fun _ h9 => h9) rfl dX6_reach_24 ?_
      refine lv_iload_n hx hb dX6_reach_27 rfl (lv_at hl 1 rfl) ?_
      refine lv_iload_n hx hb dX6_reach_28 rfl (lv_at hl 2 rfl) ?_
      refine lv_iload_n hx hb dX6_reach_29 rfl (lv_at hl 3 rfl) ?_
      refine tm_V (As := [.int x1, .int x2, .int x3]) (rest := []) ⟨hx, hb, hml, hown, htg⟩ (e_X5_reached l D E G _ a C hT x1 x2 x3 (rg_w u_10.1 (by decide)) (rg_w u_14 (by decide))) (cwV 3 htg (oh_gV q_864 q_865 q_866 q_68 q_867) rfl rfl rfl pdVX5_reached ⟨Nat.le_of_ble_eq_true rfl, Nat.le_of_ble_eq_true rfl⟩) hK hP hD hG hS hA (va_recv hK hP (ci := 5) (q0 := 3) rfl (oh_wg (by decide) (sX_3 hT))) rfl hl.1 rfl (Nat.le_of_ble_eq_true rfl) dX6_reach_30 ⟨Nat.le_of_ble_eq_true rfl, Nat.le_of_ble_eq_true rfl⟩ (fun r_15 C_16 H locs hq_17 hP hD hS => ?_)
      obtain ⟨hT, f_18, hq_17⟩ := hq_17
      have hF := fr_tr hF f_18 (by decide) (by decide)
      refine W.widen (k := 0) (n := 0) (Nat.le_refl _) (Nat.le_refl _) ?_
      have t_19 := hT
      rw [hQ]
      exact W.iret (v := r_15) hx hb hr (fun t ht hW => ⟨⟨r_15, C_16, rfl, ⟨hT, hF, (fun A hA hok => by have hp := (show okPk (A 5 0 2) (A 5 0 3) x1 x2 by rw [← (show ga (C 10) ((2 : Int32)).toNatClampNeg = A 5 0 2 from hA.1 2 (by decide)), ← (show ga (C 10) ((3 : Int32)).toNatClampNeg = A 5 0 3 from hA.1 3 (by decide))]; exact u_10.2); exact Eq.trans (hq_17 A hA hok hp.1.2) (pif_pos ⟨hp, (oh_rgI (p := 0) (q := 15) (rg_w (lo := 0) (hi := 15) u_14 (by decide)))⟩).symm)⟩, ⟨by rw [ht]; exact hP, hD⟩⟩, hS.F ht⟩) hS.2.2 dX6_reach_33
    · have u_20 := hq_12.2.2 c_13
      refine lv_aload_n hx hb dX6_reach_16 rfl (lv_at hl 0 rfl) ?_
      refine lv_bipush (v := (-2)) hx hb dX6_reach_17 (by decide) ?_
      refine tm_V (As := [.int (-2)]) (rest := []) ⟨hx, hb, hml, hown, htg⟩ (c_X6_refuse l D E G _ a C hT ((-2) : Int32)) (cwV 1 htg (oh_gV q_296 q_298 q_0 q_66 q_299) rfl rfl rfl pdVX6_refuse ⟨Nat.le_of_ble_eq_true rfl, Nat.le_of_ble_eq_true rfl⟩) hK hP hD hG hS hA (va_recv hK hP (ci := 6) (q0 := 0) rfl (oh_wg (by decide) (sX_0 hT))) rfl hl.1 rfl (Nat.le_of_ble_eq_true rfl) dX6_reach_19 ⟨Nat.le_of_ble_eq_true rfl, Nat.le_of_ble_eq_true rfl⟩ (fun r_21 C_22 H locs hq_23 hP hD hS => ?_)
      obtain ⟨hT, f_24, hq_23⟩ := hq_23
      have hF := fr_tr hF f_24 (by decide) (by decide)
      refine W.widen (k := 0) (n := 0) (Nat.le_refl _) (Nat.le_refl _) ?_
      have t_25 := hT
      rw [hQ]
      exact W.iret (v := r_21) hx hb hr (fun t ht hW => ⟨⟨r_21, C_22, rfl, ⟨hT, hF, (fun A hA hok => Eq.trans hq_23 (pif_neg (fun h8 => u_20 h8.2)).symm)⟩, ⟨by rw [ht]; exact hP, hD⟩⟩, hS.F ht⟩) hS.2.2 dX6_reach_22

set_option maxHeartbeats 4000000 in
set_option maxRecDepth 100000 in
theorem e_X7_reach (l : Launch) (D : va_G) (E : Nat → ClassId) (G : Nat → Nat) (sz : Nat) (a : Nat → Nat) (C : Nat → va_E) (n : Nat) (hn : 74 ≤ n) (hT : TyM a E C) (x1 : Int32) (x2 : Int32) (x3 : Int32) (hR : RelM C) : Met l yX7_reach (oh_w yX7_reach cX7_reach 6 (some .int)) ({ frames := 6, cells := 0, slots := 0, locals := 152 }) (oh_Pm D E G [.ref (a 0), .int x1, .int x2, .int x3] (oh_W n a C) sz) (va_Qi (fun r (u : Nat → va_E) => TyM a E u ∧ fr [(8, 9), (15, 16)] [] C u ∧ (RelM u) ∧ (∀ A : LA, absM C A → okA A → r = spReach A x1 x2 x3)) (oh_B D (va_A (oh_W n a C) sz) (fun u => oh_W n a u)) (va_A (oh_W n a C) sz)) 0 0 (va_A (oh_W n a C) sz) := by
  refine Met.ofW (cc := cX7_reach) (maxL := 6) (ret := (some .int)) (by decide) rfl ?_
  intro p e s m args below meth c s₁ B hml hv
  obtain ⟨rfl, hsz, hP, hK, hD0, hG⟩ := hv
  have hx := B.exec
  have hb := B.bytes
  have hr := B.returns
  have hts := atoms_spec (ws := (oh_w yX7_reach cX7_reach 6 (some .int))) B.pre
  have htg : ∀ w ∈ oh_t, w.before _ s = true := fun w h => hts w (List.mem_cons_of_mem _ h)
  have hown : s.vm.findClass RX7 = some m.cls := findClass_of_methodNamed B.named
  have hlocks := B.notSynchronized
  have hT0 := hT
  subst hsz
  have hD := hD0.self (sz := s.heap.size)
  generalize hAe : va_A (oh_W n a C) s.heap.size = A at hD hG ⊢
  have hA : ∀ q : Nat, s.heap.size ≤ q → A q := fun q h => by rw [← hAe]; exact Or.inr h
  have hS : va_S A s.heap s.heap [] := va_S.rf
  have hF : fr [(8, 9), (15, 16)] [] C C := fr_rf
  have hl := lv_entry ([.ref (a 0), .int x1, .int x2, .int x3]) (n := 6) (Nat.le_of_ble_eq_true rfl)
  rw [lg_entry_eq]
  generalize (lg_sl ([.ref (a 0), .int x1, .int x2, .int x3]) ++ List.replicate (6 - (lg_sl ([.ref (a 0), .int x1, .int x2, .int x3])).length) Slot.unset).toArray = ls at hl ⊢
  have hl : lv_has ls 6 [(0, .ref (a 0)), (1, .int x1), (2, .int x2), (3, .int x3)] := hl
  refine oh_genQ (fun Q hQ => ?_)
  refine lv_aload_n hx hb dX7_reach_0 rfl (lv_at hl 0 rfl) ?_
  refine lv_iload_n hx hb dX7_reach_1 rfl (lv_at hl 1 rfl) ?_
  refine lv_iload_n hx hb dX7_reach_2 rfl (lv_at hl 2 rfl) ?_
  refine tq_V (As := [.int x1, .int x2]) (rest := []) (ws := (oh_W n a C)) ⟨hx, hb, hml, hown, htg⟩ (e_X7_isPack l D E G a C n hn hT x1 x2 hR.1) (cwV 2 htg (oh_gV q_1290 q_1292 q_50 q_73 q_1293) rfl rfl rfl pdVX7_isPack ⟨Nat.le_of_ble_eq_true rfl, Nat.le_of_ble_eq_true rfl⟩) hK hP hG hS (va_recv hK hP (ci := 7) (q0 := 0) rfl (oh_wg (Nat.lt_of_lt_of_le (by decide) hn) (sM_0 hT))) rfl hl.1 rfl (Nat.le_of_ble_eq_true rfl) dX7_reach_3 ⟨Nat.le_of_ble_eq_true rfl, Nat.le_of_ble_eq_true rfl⟩ (fun r_1 hq_2 => ?_)
  refine lv_if_eq (tgt := 16) hx hb dX7_reach_6 (by decide) (fun (c_3 : r_1 = 0) => ?_) (fun (c_3 : ¬ (r_1 = 0)) => ?_)
  · have u_4 := hq_2.2.2 c_3
    refine lv_aload_n hx hb dX7_reach_16 rfl (lv_at hl 0 rfl) ?_
    refine lv_bipush (v := (-2)) hx hb dX7_reach_17 (by decide) ?_
    refine tm_V (As := [.int (-2)]) (rest := []) ⟨hx, hb, hml, hown, htg⟩ (c_X7_refuse l D E G _ a C n hn hT ((-2) : Int32) (rg_w (rg_c (v := (-2)) (lo := (-2)) (hi := (-2)) (by decide)) (by decide))) (cwV 1 htg (oh_gV q_1071 q_1073 q_29 q_73 q_1074) rfl rfl rfl pdVX7_refuse ⟨Nat.le_of_ble_eq_true rfl, Nat.le_of_ble_eq_true rfl⟩) hK hP hD hG hS hA (va_recv hK hP (ci := 7) (q0 := 0) rfl (oh_wg (Nat.lt_of_lt_of_le (by decide) hn) (sM_0 hT))) rfl hl.1 rfl (Nat.le_of_ble_eq_true rfl) dX7_reach_19 ⟨Nat.le_of_ble_eq_true rfl, Nat.le_of_ble_eq_true rfl⟩ (fun r_5 C_6 H locs hq_7 hP hD hS => ?_)
    obtain ⟨hT, f_8, hq_7⟩ := hq_7
    have hF := fr_tr hF f_8 (by decide) (by decide)
    refine W.widen (k := 0) (n := 0) (Nat.le_refl _) (Nat.le_refl _) ?_
    have t_9 := hT
    rw [hQ]
    exact W.iret (v := r_5) hx hb hr (fun t ht hW => ⟨⟨r_5, C_6, rfl, ⟨hT, hF, ⟨⟨hR.1.fr hF (by decide), hR.2.fr hF (by decide)⟩, (fun A hA hok => Eq.trans hq_7 (pif_neg (fun h8 => (show ¬ okPk (A 5 0 2) (A 5 0 3) x1 x2 by rw [← (show gi (C 0) 13 = A 5 0 2 from hA.1 2 (by decide)), ← (show gi (C 0) 15 = A 5 0 3 from hA.1 3 (by decide))]; exact u_4) h8.1)).symm)⟩⟩, ⟨by rw [ht]; exact hP, hD⟩⟩, hS.F ht⟩) hS.2.2 dX7_reach_22
  · have u_10 := hq_2.2.1 c_3
    refine lv_iload_n hx hb dX7_reach_9 rfl (lv_at hl 3 rfl) ?_
    refine tq_S (As := [.int x3]) (rest := []) (ws := []) ⟨hx, hb, hml, hown, htg⟩ (e_X7_isPlace l D E G x3) (va_cwS 1 htg (oh_gS q_1130 q_1131 q_73 q_1132) rfl rfl rfl pdX7_isPlace ⟨Nat.le_of_ble_eq_true rfl, Nat.le_of_ble_eq_true rfl⟩) hK va_nil hG hS rfl hl.1 rfl (Nat.le_of_ble_eq_true rfl) dX7_reach_10 ⟨Nat.le_of_ble_eq_true rfl, Nat.le_of_ble_eq_true rfl⟩ (fun r_11 hq_12 => ?_)
    refine lv_if_ne (tgt := 23) hx hb dX7_reach_13 (by decide) (fun (c_13 : ¬ (r_11 = 0)) => ?_) (fun (c_13 : r_11 = 0) => ?_)
    · have u_14 := hq_12.2.1 c_13
      refine lv_aload_n hx hb dX7_reach_23 rfl (lv_at hl 0 rfl) ?_
      refine lv_iload_n hx hb dX7_reach_24 rfl (lv_at hl 1 rfl) ?_
      refine lv_iload_n hx hb dX7_reach_25 rfl (lv_at hl 2 rfl) ?_
      refine lv_iload_n hx hb dX7_reach_26 rfl (lv_at hl 3 rfl) ?_
      refine lv_iconst (v := 1) hx hb dX7_reach_27 (by decide) ?_
      refine tm_Vv (As := [.int x1, .int x2, .int x3, .int 1]) (rest := []) ⟨hx, hb, hml, hown, htg⟩ (e_X7_findFar l D E G _ a C n hn hT x1 x2 x3 (1 : Int32) (rg_w u_10.1 (by decide)) (rg_w u_14 (by decide)) u_10.2.1) (cwV 4 htg (oh_gV q_1351 q_1353 q_60 q_73 q_1354) rfl rfl rfl pdVX7_findFar ⟨Nat.le_of_ble_eq_true rfl, Nat.le_of_ble_eq_true rfl⟩) hK hP hD hG hS hA (va_recv hK hP (ci := 7) (q0 := 0) rfl (oh_wg (Nat.lt_of_lt_of_le (by decide) hn) (sM_0 hT))) rfl hl.1 rfl (Nat.le_of_ble_eq_true rfl) dX7_reach_28 ⟨Nat.le_of_ble_eq_true rfl, Nat.le_of_ble_eq_true rfl⟩ (fun C_16 H locs hq_17 hP hD hS => ?_)
      obtain ⟨hT, f_18, hq_17⟩ := hq_17
      have hF := fr_tr hF f_18 (by decide) (by decide)
      refine W.widen (k := 0) (n := 0) (Nat.le_refl _) (Nat.le_refl _) ?_
      have t_19 := hT
      refine lv_iconst (v := 0) hx hb dX7_reach_31 (by decide) ?_
      refine lv_istore (lv' := [(4, .int 0), (0, .ref (a 0)), (1, .int x1), (2, .int x2), (3, .int x3)]) hx hb dX7_reach_32 hl (by decide) rfl (fun ls hl => ?_)
      refine lv_iconst (v := 0) hx hb dX7_reach_34 (by decide) ?_
      refine lv_istore (lv' := [(5, .int 0), (4, .int 0), (0, .ref (a 0)), (1, .int x1), (2, .int x2), (3, .int x3)]) hx hb dX7_reach_35 hl (by decide) rfl (fun ls hl => ?_)
      have L_37 : ∀ (d : Nat) (K37 : Nat → va_E) (z37_5 : Int32) (z37_4 : Int32) (H : Heap) (locs : List Loc) (ls : Array Slot), (16 - z37_5.toInt).toNat = d → rg z37_5 0 16 → (∀ A : LA, absM C A → okA A → z37_4 = rcA A x1 x2 x3 z37_5.toNatClampNeg) → TyM a E K37 → fr [(8, 9), (15, 16)] [] C K37 → fr [] [] C_16 K37 → va_P D vwCl (oh_W n a K37) H → va_D A (oh_W n a K37) → va_S A s.heap H locs → lv_has ls 6 [(5, .int z37_5), (4, .int z37_4), (0, .ref (a 0)), (1, .int x1), (2, .int x2), (3, .int x3)] → W p l e ({ frames := 6, cells := 0, slots := 0, locals := 152 }) s m (([.ref (a 0), .int x1, .int x2, .int x3] : List Value).toArray) below meth c H locs 0 0 Q (F0 m 37 ls []) := by
        intro d
        induction d using Nat.strongRecOn with
        | ind d ih_37 =>
        intro K37 z37_5 z37_4 H locs ls hd_37 hz37_5 hx_37 hT hF hLF_37 hP hD hS hl
        have t_20 := hT
        refine lv_iload hx hb dX7_reach_37 (lv_at hl 0 rfl) ?_
        refine lv_bipush (v := 16) hx hb dX7_reach_39 (by decide) ?_
        refine lv_icmp_ge (tgt := 77) hx hb dX7_reach_41 (by decide) (fun (c_21 : (16 : Int32) ≤ z37_5) => ?_) (fun (c_21 : ¬ ((16 : Int32) ≤ z37_5)) => ?_)
        · refine lv_iload hx hb dX7_reach_77 (lv_at hl 1 rfl) ?_
          rw [hQ]
          exact W.iret (v := z37_4) hx hb hr (fun t ht hW => ⟨⟨z37_4, K37, rfl, ⟨hT, hF, ⟨⟨hR.1.fr hF (by decide), hR.2.fr hF (by decide)⟩, (fun A hA hok => by have hp := (show okPk (A 5 0 2) (A 5 0 3) x1 x2 by rw [← (show gi (C 0) 13 = A 5 0 2 from hA.1 2 (by decide)), ← (show gi (C 0) 15 = A 5 0 3 from hA.1 3 (by decide))]; exact u_10.2.2.2); have h7 := hx_37 A hA hok; rw [oh_zeq (k := 16) hz37_5 c_21 (by decide)] at h7; exact Eq.trans h7 (pif_pos ⟨hp, (oh_rgI (p := 0) (q := 15) (rg_w (lo := 0) (hi := 15) u_14 (by decide)))⟩).symm)⟩⟩, ⟨by rw [ht]; exact hP, hD⟩⟩, hS.F ht⟩) hS.2.2 dX7_reach_79
        · refine lv_iload hx hb dX7_reach_44 (lv_at hl 1 rfl) ?_
          refine lv_aload_n hx hb dX7_reach_46 rfl (lv_at hl 2 rfl) ?_
          refine va_get (D := D) (ci := 7) (v := .ref (a 15)) (C := RX7) (T := TX7) (N := 29) hx hb htg ig_7 hown hK hP 0 (oh_wg (Nat.lt_of_lt_of_le (by decide) hn) (sM_0 hT)) rfl 27 (by decide) (htg _ q_1000) (fun _ h9 => h9) rfl dX7_reach_47 ?_
          refine lv_iload hx hb dX7_reach_50 (lv_at hl 0 rfl) ?_
          have n_22 : vp_in z37_5 16 := (rg_in (rn_ltu (u' := 15) (Int32.not_le.mp c_21) hz37_5 (rg_c (v := 16) (lo := 16) (hi := 16) (by decide)) (by decide)) (by decide))
          refine th_lald hx hb hK hP 15 (Nat.lt_of_lt_of_le (by decide) hn) (Eq.trans (hLF_37.1 15 rfl (by decide)) (sM_15 t_19)) n_22 dX7_reach_52 ?_
          refine lv_ldc2 (v := 1000000000000) hx hb hown (htg _ q_1355) dX7_reach_53 ?_
          refine W.lcmp hx hb dX7_reach_56 ?_
          refine lv_if_ge (tgt := 67) hx hb dX7_reach_57 (by decide) (fun (c_23 : (0 : Int32) ≤ (lg_cmp (gb (C_16 15) (z37_5).toNatClampNeg) 1000000000000)) => ?_) (fun (c_23 : ¬ ((0 : Int32) ≤ (lg_cmp (gb (C_16 15) (z37_5).toNatClampNeg) 1000000000000))) => ?_)
          · refine lv_iconst (v := 0) hx hb dX7_reach_67 (by decide) ?_
            refine lv_ior hx hb dX7_reach_68 ?_
            refine lv_istore (lv' := [(4, .int (z37_4 ||| 0)), (5, .int z37_5), (0, .ref (a 0)), (1, .int x1), (2, .int x2), (3, .int x3)]) hx hb dX7_reach_69 hl (by decide) rfl (fun ls hl => ?_)
            refine lv_iinc (v := z37_5 + 1) (lv' := [(5, .int (z37_5 + 1)), (4, .int (z37_4 ||| 0)), (0, .ref (a 0)), (1, .int x1), (2, .int x2), (3, .int x3)]) hx hb dX7_reach_71 hl (k := 1) rfl (by rfl) (by decide) rfl (fun ls hl => ?_)
            refine lv_goto (tgt := 37) hx hb dX7_reach_74 (by decide) ?_
            exact ih_37 _ (hd_37 ▸ mu_up 16 (rn_ltu (u' := 15) (Int32.not_le.mp c_21) hz37_5 (rg_c (v := 16) (lo := 16) (hi := 16) (by decide)) (by decide)) (by decide)) K37 (z37_5 + 1) (z37_4 ||| 0) _ _ ls rfl (rg_w (rg_add (lo := 1) (hi := 16) (rn_ltu (u' := 15) (Int32.not_le.mp c_21) hz37_5 (rg_c (v := 16) (lo := 16) (hi := 16) (by decide)) (by decide)) (rg_c (v := 1) (lo := 1) (hi := 1) (by decide)) (by decide)) (by decide)) (fun A hA hok => by have hp := (show okPk (A 5 0 2) (A 5 0 3) x1 x2 by rw [← (show gi (C 0) 13 = A 5 0 2 from hA.1 2 (by decide)), ← (show gi (C 0) 15 = A 5 0 3 from hA.1 3 (by decide))]; exact u_10.2.2.2); obtain ⟨hnn, D⟩ := hq_17 A hA hok hp.1.2 ⟨by decide, by decide⟩; rw [EnA_1 (by decide)] at D; have hF := ec_fin hok x2 (rg_w (lo := 0) (hi := 4) u_10.1 (by decide)) hp.1.2 (n := 1) ⟨by decide, by decide⟩ (p16 (rg_w (lo := 0) (hi := 15) u_14 (by decide))); rw [rcA_n (rg_w (lo := 0) (hi := 15) (rn_ltu (u' := 15) (Int32.not_le.mp c_21) hz37_5 (rg_c (v := 16) (lo := 16) (hi := 16) (by decide)) (by decide)) (by decide)) ((mL_i hnn D hF (p16 (rg_w (lo := 0) (hi := 15) (rn_ltu (u' := 15) (Int32.not_le.mp c_21) hz37_5 (rg_c (v := 16) (lo := 16) (hi := 16) (by decide)) (by decide)) (by decide)))).mp (oh_lc_nlt (Int32.not_lt.mpr c_23))), ← hx_37 A hA hok]) hT hF hLF_37 hP hD hS (lv_sub hl [0, 1, 2, 3, 4, 5] rfl)
          · refine lv_iconst (v := 1) hx hb dX7_reach_60 (by decide) ?_
            refine lv_iload hx hb dX7_reach_61 (lv_at hl 0 rfl) ?_
            refine lv_ishl hx hb dX7_reach_63 ?_
            refine lv_goto (tgt := 68) hx hb dX7_reach_64 (by decide) ?_
            refine lv_ior hx hb dX7_reach_68 ?_
            refine lv_istore (lv' := [(4, .int (z37_4 ||| ((1 : Int32) <<< (z37_5 &&& 31)))), (5, .int z37_5), (0, .ref (a 0)), (1, .int x1), (2, .int x2), (3, .int x3)]) hx hb dX7_reach_69 hl (by decide) rfl (fun ls hl => ?_)
            refine lv_iinc (v := z37_5 + 1) (lv' := [(5, .int (z37_5 + 1)), (4, .int (z37_4 ||| ((1 : Int32) <<< (z37_5 &&& 31)))), (0, .ref (a 0)), (1, .int x1), (2, .int x2), (3, .int x3)]) hx hb dX7_reach_71 hl (k := 1) rfl (by rfl) (by decide) rfl (fun ls hl => ?_)
            refine lv_goto (tgt := 37) hx hb dX7_reach_74 (by decide) ?_
            exact ih_37 _ (hd_37 ▸ mu_up 16 (rn_ltu (u' := 15) (Int32.not_le.mp c_21) hz37_5 (rg_c (v := 16) (lo := 16) (hi := 16) (by decide)) (by decide)) (by decide)) K37 (z37_5 + 1) (z37_4 ||| ((1 : Int32) <<< (z37_5 &&& 31))) _ _ ls rfl (rg_w (rg_add (lo := 1) (hi := 16) (rn_ltu (u' := 15) (Int32.not_le.mp c_21) hz37_5 (rg_c (v := 16) (lo := 16) (hi := 16) (by decide)) (by decide)) (rg_c (v := 1) (lo := 1) (hi := 1) (by decide)) (by decide)) (by decide)) (fun A hA hok => by have hp := (show okPk (A 5 0 2) (A 5 0 3) x1 x2 by rw [← (show gi (C 0) 13 = A 5 0 2 from hA.1 2 (by decide)), ← (show gi (C 0) 15 = A 5 0 3 from hA.1 3 (by decide))]; exact u_10.2.2.2); obtain ⟨hnn, D⟩ := hq_17 A hA hok hp.1.2 ⟨by decide, by decide⟩; rw [EnA_1 (by decide)] at D; have hF := ec_fin hok x2 (rg_w (lo := 0) (hi := 4) u_10.1 (by decide)) hp.1.2 (n := 1) ⟨by decide, by decide⟩ (p16 (rg_w (lo := 0) (hi := 15) u_14 (by decide))); rw [rcA_y (rg_w (lo := 0) (hi := 15) (rn_ltu (u' := 15) (Int32.not_le.mp c_21) hz37_5 (rg_c (v := 16) (lo := 16) (hi := 16) (by decide)) (by decide)) (by decide)) (Classical.byContradiction (fun q => absurd ((mL_i hnn D hF (p16 (rg_w (lo := 0) (hi := 15) (rn_ltu (u' := 15) (Int32.not_le.mp c_21) hz37_5 (rg_c (v := 16) (lo := 16) (hi := 16) (by decide)) (by decide)) (by decide)))).mpr q) (Int64.not_le.mpr (oh_lc_lt (Int32.not_le.mp c_23))))), ← hx_37 A hA hok]) hT hF hLF_37 hP hD hS (lv_sub hl [0, 1, 2, 3, 4, 5] rfl)
      exact L_37 _ C_16 0 0 _ _ ls rfl (rg_w (rg_c (v := 0) (lo := 0) (hi := 0) (by decide)) (by decide)) (fun A hA hok => rfl) hT hF fr_rf hP hD hS (lv_sub hl [0, 1, 2, 3, 4, 5] rfl)
    · have u_24 := hq_12.2.2 c_13
      refine lv_aload_n hx hb dX7_reach_16 rfl (lv_at hl 0 rfl) ?_
      refine lv_bipush (v := (-2)) hx hb dX7_reach_17 (by decide) ?_
      refine tm_V (As := [.int (-2)]) (rest := []) ⟨hx, hb, hml, hown, htg⟩ (c_X7_refuse l D E G _ a C n hn hT ((-2) : Int32) (rg_w (rg_c (v := (-2)) (lo := (-2)) (hi := (-2)) (by decide)) (by decide))) (cwV 1 htg (oh_gV q_1071 q_1073 q_29 q_73 q_1074) rfl rfl rfl pdVX7_refuse ⟨Nat.le_of_ble_eq_true rfl, Nat.le_of_ble_eq_true rfl⟩) hK hP hD hG hS hA (va_recv hK hP (ci := 7) (q0 := 0) rfl (oh_wg (Nat.lt_of_lt_of_le (by decide) hn) (sM_0 hT))) rfl hl.1 rfl (Nat.le_of_ble_eq_true rfl) dX7_reach_19 ⟨Nat.le_of_ble_eq_true rfl, Nat.le_of_ble_eq_true rfl⟩ (fun r_25 C_26 H locs hq_27 hP hD hS => ?_)
      obtain ⟨hT, f_28, hq_27⟩ := hq_27
      have hF := fr_tr hF f_28 (by decide) (by decide)
      refine W.widen (k := 0) (n := 0) (Nat.le_refl _) (Nat.le_refl _) ?_
      have t_29 := hT
      rw [hQ]
      exact W.iret (v := r_25) hx hb hr (fun t ht hW => ⟨⟨r_25, C_26, rfl, ⟨hT, hF, ⟨⟨hR.1.fr hF (by decide), hR.2.fr hF (by decide)⟩, (fun A hA hok => Eq.trans hq_27 (pif_neg (fun h8 => u_24 h8.2)).symm)⟩⟩, ⟨by rw [ht]; exact hP, hD⟩⟩, hS.F ht⟩) hS.2.2 dX7_reach_22
theorem pdX7_overAll : yX7_overAll.cls ≠ "java/lang/invoke/MethodHandle" ∧ yX7_overAll.cls ≠ "java/lang/invoke/VarHandle" ∧ (parseMethodDescriptor yX7_overAll.desc).map (fun d => d.parameters.length) = some 2 := by decide +kernel
def shf {α : Type} (B : Nat) (f : Nat → α) : Nat → α := fun k => f (B + k)
theorem shf_upd {B k : Nat} {C : Nat → va_E} {x : va_E} : shf B (updc C (B + k) x) = updc (shf B C) k x := by
  funext i
  unfold shf updc
  by_cases h : i = k
  · rw [if_pos h, if_pos (by omega)]
  · rw [if_neg h, if_neg (by omega)]
theorem qf_sh {B n b : Nat} {a : Nat → Nat} : qf (shf B a) n b = qf a n (B + b) := by
  funext i
  unfold shf
  show (if i < n then some (a (B + (b + i))) else none) = (if i < n then some (a (B + b + i)) else none)
  rw [Nat.add_assoc]
theorem TyM.congr {a : Nat → Nat} {E : Nat → ClassId} {C u : Nat → va_E} (h : TyM a E C) (e : ∀ k, k < 74 → u k = C k) : TyM a E u :=
  ⟨fun k hk => by rw [e k (by omega)]; exact h.1 k hk, fun i hi => by rw [e _ (by omega)]; exact h.2.1 i hi, fun i hi => by rw [e _ (by omega)]; exact h.2.2.1 i hi, fun i hi => by rw [e _ (by omega)]; exact h.2.2.2.1 i hi, fun i hi => by rw [e _ (by omega)]; exact h.2.2.2.2.1 i hi, fun i hi => by rw [e _ (by omega)]; exact h.2.2.2.2.2 i hi⟩
theorem tA_cp {cA : ClassId} {n W : Nat} {L : List (Int × Int)} {c d : va_E} {g : Nat → Int32} (h : tA cA n W L d) (hc : c = .inl (cA, n, .inl g)) (e : ∀ j, j < n → g j = ga d j) : tA cA n W L c := by
  subst hc
  exact ⟨rfl, fun j hj => by show rg (g j) _ _; rw [e j hj]; exact h.2 j hj⟩
theorem gv_set {ci i j : Nat} {fs : List Value} {v : Value} (h : i ≠ j) : gv (.inr (ci, fs.set j v)) i = gv (.inr (ci, fs)) i := by
  show (fs.set j v).getD i .null = fs.getD i .null
  rw [List.getD_eq_getElem?_getD, List.getD_eq_getElem?_getD, List.getElem?_set_ne (Ne.symm h)]
theorem gv_st {U U2 : Nat → va_E} {k ci i j : Nat} {fs : List Value} {v : Value} (e : U2 = updc U k (.inr (ci, fs.set j v))) (hs : U k = .inr (ci, fs)) (h : i ≠ j) : gv (U2 k) i = gv (U k) i := by
  rw [e, updc_eq, hs]
  exact gv_set h

theorem TyM.cproad {a a2 : Nat → Nat} {E : Nat → ClassId} {C S u : Nat → va_E} (h : TyM a E C) (h2 : TyM a2 E S) (hu : ∀ k, k < 74 → ¬ (24 ≤ k ∧ k < 48) → u k = C k) (hc : ∀ i, i < 24 → ∃ g : Nat → Int32, u (24 + i) = .inl (E 0, 7, .inl g) ∧ ∀ q, q < 7 → g q = ga (S (24 + i)) q) : TyM a E u := ⟨fun k hk => by rw [hu k (by omega) (by omega)]; exact h.1 k hk, fun i hi => by rw [hu _ (by omega) (by omega)]; exact h.2.1 i hi, fun i hi => by obtain ⟨g, e, q⟩ := hc i hi; exact tA_cp (h2.broad hi) e q, fun i hi => by rw [hu _ (by omega) (by omega)]; exact h.2.2.2.1 i hi, fun i hi => by rw [hu _ (by omega) (by omega)]; exact h.2.2.2.2.1 i hi, fun i hi => by rw [hu _ (by omega) (by omega)]; exact h.2.2.2.2.2 i hi⟩

theorem TyM.cpbridge {a a2 : Nat → Nat} {E : Nat → ClassId} {C S u : Nat → va_E} (h : TyM a E C) (h2 : TyM a2 E S) (hu : ∀ k, k < 74 → ¬ (48 ≤ k ∧ k < 64) → u k = C k) (hc : ∀ i, i < 16 → ∃ g : Nat → Int32, u (48 + i) = .inl (E 0, 10, .inl g) ∧ ∀ q, q < 10 → g q = ga (S (48 + i)) q) : TyM a E u := ⟨fun k hk => by rw [hu k (by omega) (by omega)]; exact h.1 k hk, fun i hi => by rw [hu _ (by omega) (by omega)]; exact h.2.1 i hi, fun i hi => by rw [hu _ (by omega) (by omega)]; exact h.2.2.1 i hi, fun i hi => by obtain ⟨g, e, q⟩ := hc i hi; exact tA_cp (h2.bbridge hi) e q, fun i hi => by rw [hu _ (by omega) (by omega)]; exact h.2.2.2.2.1 i hi, fun i hi => by rw [hu _ (by omega) (by omega)]; exact h.2.2.2.2.2 i hi⟩

theorem TyM.cpwaggon {a a2 : Nat → Nat} {E : Nat → ClassId} {C S u : Nat → va_E} (h : TyM a E C) (h2 : TyM a2 E S) (hu : ∀ k, k < 74 → ¬ (64 ≤ k ∧ k < 69) → u k = C k) (hc : ∀ i, i < 5 → ∃ g : Nat → Int32, u (64 + i) = .inl (E 0, 3, .inl g) ∧ ∀ q, q < 3 → g q = ga (S (64 + i)) q) : TyM a E u := ⟨fun k hk => by rw [hu k (by omega) (by omega)]; exact h.1 k hk, fun i hi => by rw [hu _ (by omega) (by omega)]; exact h.2.1 i hi, fun i hi => by rw [hu _ (by omega) (by omega)]; exact h.2.2.1 i hi, fun i hi => by rw [hu _ (by omega) (by omega)]; exact h.2.2.2.1 i hi, fun i hi => by obtain ⟨g, e, q⟩ := hc i hi; exact tA_cp (h2.bwaggon hi) e q, fun i hi => by rw [hu _ (by omega) (by omega)]; exact h.2.2.2.2.2 i hi⟩

theorem TyM.cppart {a a2 : Nat → Nat} {E : Nat → ClassId} {C S u : Nat → va_E} (h : TyM a E C) (h2 : TyM a2 E S) (hu : ∀ k, k < 74 → ¬ (69 ≤ k ∧ k < 74) → u k = C k) (hc : ∀ i, i < 5 → ∃ g : Nat → Int32, u (69 + i) = .inl (E 0, 2, .inl g) ∧ ∀ q, q < 2 → g q = ga (S (69 + i)) q) : TyM a E u := ⟨fun k hk => by rw [hu k (by omega) (by omega)]; exact h.1 k hk, fun i hi => by rw [hu _ (by omega) (by omega)]; exact h.2.1 i hi, fun i hi => by rw [hu _ (by omega) (by omega)]; exact h.2.2.1 i hi, fun i hi => by rw [hu _ (by omega) (by omega)]; exact h.2.2.2.1 i hi, fun i hi => by rw [hu _ (by omega) (by omega)]; exact h.2.2.2.2.1 i hi, fun i hi => by obtain ⟨g, e, q⟩ := hc i hi; exact tA_cp (h2.bpart hi) e q⟩

set_option maxHeartbeats 4000000 in
set_option maxRecDepth 100000 in
theorem TyM.pt9 {a : Nat → Nat} {E : Nat → ClassId} {C : Nat → va_E} {fs : List Value} {v : Int32} (h : TyM a E C) (hs : C 0 = .inr (7, fs)) (hv : rg v 0 24) : TyM a E (updc C 0 (.inr (7, fs.set 9 (.int v)))) := by
  have e2 := (Prod.mk.inj (Sum.inr.inj (Eq.trans hs.symm (sM_0 h)))).2
  subst e2
  exact h.up 0 (by decide) ⟨rfl, (fM_0_7 h), hv, (fM_0_11 h), (fM_0_13 h), (fM_0_15 h), (fM_0_21 h), (fM_0_23 h)⟩

set_option maxHeartbeats 4000000 in
set_option maxRecDepth 100000 in
theorem TyM.pt11 {a : Nat → Nat} {E : Nat → ClassId} {C : Nat → va_E} {fs : List Value} {v : Int32} (h : TyM a E C) (hs : C 0 = .inr (7, fs)) (hv : rg v 0 16) : TyM a E (updc C 0 (.inr (7, fs.set 11 (.int v)))) := by
  have e2 := (Prod.mk.inj (Sum.inr.inj (Eq.trans hs.symm (sM_0 h)))).2
  subst e2
  exact h.up 0 (by decide) ⟨rfl, (fM_0_7 h), (fM_0_9 h), hv, (fM_0_13 h), (fM_0_15 h), (fM_0_21 h), (fM_0_23 h)⟩

set_option maxHeartbeats 4000000 in
set_option maxRecDepth 100000 in
theorem TyM.pt13 {a : Nat → Nat} {E : Nat → ClassId} {C : Nat → va_E} {fs : List Value} {v : Int32} (h : TyM a E C) (hs : C 0 = .inr (7, fs)) (hv : rg v 0 5) : TyM a E (updc C 0 (.inr (7, fs.set 13 (.int v)))) := by
  have e2 := (Prod.mk.inj (Sum.inr.inj (Eq.trans hs.symm (sM_0 h)))).2
  subst e2
  exact h.up 0 (by decide) ⟨rfl, (fM_0_7 h), (fM_0_9 h), (fM_0_11 h), hv, (fM_0_15 h), (fM_0_21 h), (fM_0_23 h)⟩

set_option maxHeartbeats 4000000 in
set_option maxRecDepth 100000 in
theorem TyM.pt15 {a : Nat → Nat} {E : Nat → ClassId} {C : Nat → va_E} {fs : List Value} {v : Int32} (h : TyM a E C) (hs : C 0 = .inr (7, fs)) (hv : rg v 0 5) : TyM a E (updc C 0 (.inr (7, fs.set 15 (.int v)))) := by
  have e2 := (Prod.mk.inj (Sum.inr.inj (Eq.trans hs.symm (sM_0 h)))).2
  subst e2
  exact h.up 0 (by decide) ⟨rfl, (fM_0_7 h), (fM_0_9 h), (fM_0_11 h), (fM_0_13 h), hv, (fM_0_21 h), (fM_0_23 h)⟩

set_option maxHeartbeats 4000000 in
set_option maxRecDepth 100000 in
theorem TyM.pt19 {a : Nat → Nat} {E : Nat → ClassId} {C : Nat → va_E} {fs : List Value} {v : Int32} (h : TyM a E C) (hs : C 0 = .inr (7, fs)) : TyM a E (updc C 0 (.inr (7, fs.set 19 (.int v)))) := by
  have e2 := (Prod.mk.inj (Sum.inr.inj (Eq.trans hs.symm (sM_0 h)))).2
  subst e2
  exact h.up 0 (by decide) ⟨rfl, (fM_0_7 h), (fM_0_9 h), (fM_0_11 h), (fM_0_13 h), (fM_0_15 h), (fM_0_21 h), (fM_0_23 h)⟩

set_option maxHeartbeats 4000000 in
set_option maxRecDepth 100000 in
theorem tk_f9 {p : Program} {l : Launch} {e : Env} {R : Room} {s : State} {m : MethodId} {args : Array Value} {below : List Frame} {meth : Method} {c : Code} {cells slots : Nat} {Q : State → Prop} {D : va_G} {E : Nat → ClassId} {A : Nat → Prop} {G : Nat → Nat} (hx : p.tables.exec = Jvm.exec) (hb : c.code = cX7_takeFrom) (htg : ∀ w ∈ oh_t, w.before args s = true) (hown : s.vm.findClass RX7 = some m.cls) (hml : c.maxLocals = 2) (hK : va_K D vwCl (oh_ty E) s) (hG : oh_G G A s) (hA : ∀ q, s.heap.size ≤ q → A q) (hRf : 2 ≤ R.frames) (hRl : 44 ≤ R.locals) (hRc : cells ≤ R.cells) (hRs : slots ≤ R.slots) {n : Nat} {a : Nat → Nat} {B1 B2 : Nat} (hB : (B1 = 0 ∧ B2 = 74) ∨ (B1 = 74 ∧ B2 = 0)) (hn : 148 ≤ n) {U : Nat → va_E} (hT1 : TyM (shf B1 a) E (shf B1 U)) (hT2 : TyM (shf B2 a) E (shf B2 U)) {H : Heap} {locs : List Loc} {ls : Array Slot} (hP : va_P D vwCl (oh_W n a U) H) (hD : va_D A (oh_W n a U)) (hS : va_S A s.heap H locs) (hl : lv_has ls 2 [(0, .ref (a (B1 + 0))), (1, .ref (a (B2 + 0)))]) (kk : ∀ (U2 : Nat → va_E) (H : Heap) (locs : List Loc), TyM (shf B1 a) E (shf B1 U2) → (∀ k, k ≠ B1 + 0 → U2 k = U k) → (gi (U2 (B1 + 0)) 9 = gi (U (B2 + 0)) 9) → (∀ i, i ≠ 9 → gv (U2 (B1 + 0)) i = gv (U (B1 + 0)) i) → va_P D vwCl (oh_W n a U2) H → va_D A (oh_W n a U2) → va_S A s.heap H locs → W p l e R s m args below meth c H locs cells slots Q (F0 m 8 ls [])) : W p l e R s m args below meth c H locs cells slots Q (F0 m 0 ls []) := by
  refine lv_aload_n hx hb dX7_takeFrom_0 rfl (lv_at hl 0 rfl) ?_
  refine lv_aload_n hx hb dX7_takeFrom_1 rfl (lv_at hl 1 rfl) ?_
  refine va_get (D := D) (ci := 7) (v := .int (gi (U (B2 + 0)) 9)) (C := RX7) (T := TX7) (N := 29) hx hb htg ig_7 hown hK hP (B2 + 0) (oh_wg (k := B2 + 0) (by omega) (show U (B2 + 0) = .inr (7, [.ref (a (B2 + 1)), .ref (a (B2 + 2)), .ref (a (B2 + 3)), .ref (a (B2 + 4)), .ref (a (B2 + 5)), .ref (a (B2 + 6)), .ref (a (B2 + 7)), .int (gi (U (B2 + 0)) 7), .ref (a (B2 + 8)), .int (gi (U (B2 + 0)) 9), .ref (a (B2 + 9)), .int (gi (U (B2 + 0)) 11), .ref (a (B2 + 10)), .int (gi (U (B2 + 0)) 13), .ref (a (B2 + 11)), .int (gi (U (B2 + 0)) 15), .ref (a (B2 + 12)), .ref (a (B2 + 13)), .ref (a (B2 + 14)), .int (gi (U (B2 + 0)) 19), gv (U (B2 + 0)) 20, .int (gi (U (B2 + 0)) 21), .int (gi (U (B2 + 0)) 22), .int (gi (U (B2 + 0)) 23), .long (gl (U (B2 + 0)) 24), .int (gi (U (B2 + 0)) 25), .int (gi (U (B2 + 0)) 26), .ref (a (B2 + 15)), .int (gi (U (B2 + 0)) 28)]) from sM_0 hT2)) rfl 9 (by decide) (htg _ q_982) (fun _ h9 => h9) rfl dX7_takeFrom_2 ?_
  refine th_put (Tp := fun _ => True) (Rl := fun _ => True) (ci := 7) (v := .int (gi (U (B2 + 0)) 9)) (ty := .int) (CC := RX7) (T := TX7) (N := 29) hx hb htg ig_7 tyX7 tyX7_ok nmX7 hown hK hP hD hS (B1 + 0) (by omega) (show U (B1 + 0) = .inr (7, [.ref (a (B1 + 1)), .ref (a (B1 + 2)), .ref (a (B1 + 3)), .ref (a (B1 + 4)), .ref (a (B1 + 5)), .ref (a (B1 + 6)), .ref (a (B1 + 7)), .int (gi (U (B1 + 0)) 7), .ref (a (B1 + 8)), .int (gi (U (B1 + 0)) 9), .ref (a (B1 + 9)), .int (gi (U (B1 + 0)) 11), .ref (a (B1 + 10)), .int (gi (U (B1 + 0)) 13), .ref (a (B1 + 11)), .int (gi (U (B1 + 0)) 15), .ref (a (B1 + 12)), .ref (a (B1 + 13)), .ref (a (B1 + 14)), .int (gi (U (B1 + 0)) 19), gv (U (B1 + 0)) 20, .int (gi (U (B1 + 0)) 21), .int (gi (U (B1 + 0)) 22), .int (gi (U (B1 + 0)) 23), .long (gl (U (B1 + 0)) 24), .int (gi (U (B1 + 0)) 25), .int (gi (U (B1 + 0)) 26), .ref (a (B1 + 15)), .int (gi (U (B1 + 0)) 28)]) from sM_0 hT1) rfl 9 (by decide) (htg _ q_982) (fun _ h9 => h9) rfl (by decide +kernel) rfl rfl (Nat.le_of_ble_eq_true rfl) trivial trivial dX7_takeFrom_5 (fun U2 H locs e2 _ _ hP hD hS => ?_)
  refine kk U2 H locs ?_ (fun k hk => th_un e2 hk) ?_ (fun i hi => ?_) hP hD hS
  · rw [e2, shf_upd]
    exact TyM.pt9 hT1 (show shf B1 U 0 = .inr (7, [.ref (a (B1 + 1)), .ref (a (B1 + 2)), .ref (a (B1 + 3)), .ref (a (B1 + 4)), .ref (a (B1 + 5)), .ref (a (B1 + 6)), .ref (a (B1 + 7)), .int (gi (U (B1 + 0)) 7), .ref (a (B1 + 8)), .int (gi (U (B1 + 0)) 9), .ref (a (B1 + 9)), .int (gi (U (B1 + 0)) 11), .ref (a (B1 + 10)), .int (gi (U (B1 + 0)) 13), .ref (a (B1 + 11)), .int (gi (U (B1 + 0)) 15), .ref (a (B1 + 12)), .ref (a (B1 + 13)), .ref (a (B1 + 14)), .int (gi (U (B1 + 0)) 19), gv (U (B1 + 0)) 20, .int (gi (U (B1 + 0)) 21), .int (gi (U (B1 + 0)) 22), .int (gi (U (B1 + 0)) 23), .long (gl (U (B1 + 0)) 24), .int (gi (U (B1 + 0)) 25), .int (gi (U (B1 + 0)) 26), .ref (a (B1 + 15)), .int (gi (U (B1 + 0)) 28)]) from sM_0 hT1) (fM_0_9 hT2)
  · rw [e2, updc_eq]
    rfl
  · exact gv_st e2 (show U (B1 + 0) = .inr (7, [.ref (a (B1 + 1)), .ref (a (B1 + 2)), .ref (a (B1 + 3)), .ref (a (B1 + 4)), .ref (a (B1 + 5)), .ref (a (B1 + 6)), .ref (a (B1 + 7)), .int (gi (U (B1 + 0)) 7), .ref (a (B1 + 8)), .int (gi (U (B1 + 0)) 9), .ref (a (B1 + 9)), .int (gi (U (B1 + 0)) 11), .ref (a (B1 + 10)), .int (gi (U (B1 + 0)) 13), .ref (a (B1 + 11)), .int (gi (U (B1 + 0)) 15), .ref (a (B1 + 12)), .ref (a (B1 + 13)), .ref (a (B1 + 14)), .int (gi (U (B1 + 0)) 19), gv (U (B1 + 0)) 20, .int (gi (U (B1 + 0)) 21), .int (gi (U (B1 + 0)) 22), .int (gi (U (B1 + 0)) 23), .long (gl (U (B1 + 0)) 24), .int (gi (U (B1 + 0)) 25), .int (gi (U (B1 + 0)) 26), .ref (a (B1 + 15)), .int (gi (U (B1 + 0)) 28)]) from sM_0 hT1) hi

set_option maxHeartbeats 4000000 in
set_option maxRecDepth 100000 in
theorem tk_broad {p : Program} {l : Launch} {e : Env} {R : Room} {s : State} {m : MethodId} {args : Array Value} {below : List Frame} {meth : Method} {c : Code} {cells slots : Nat} {Q : State → Prop} {D : va_G} {E : Nat → ClassId} {A : Nat → Prop} {G : Nat → Nat} (hx : p.tables.exec = Jvm.exec) (hb : c.code = cX7_takeFrom) (htg : ∀ w ∈ oh_t, w.before args s = true) (hown : s.vm.findClass RX7 = some m.cls) (hml : c.maxLocals = 2) (hK : va_K D vwCl (oh_ty E) s) (hG : oh_G G A s) (hA : ∀ q, s.heap.size ≤ q → A q) (hRf : 2 ≤ R.frames) (hRl : 44 ≤ R.locals) (hRc : cells ≤ R.cells) (hRs : slots ≤ R.slots) {n : Nat} {a : Nat → Nat} {B1 B2 : Nat} (hB : (B1 = 0 ∧ B2 = 74) ∨ (B1 = 74 ∧ B2 = 0)) (hn : 148 ≤ n) {U : Nat → va_E} (hT1 : TyM (shf B1 a) E (shf B1 U)) (hT2 : TyM (shf B2 a) E (shf B2 U)) {H : Heap} {locs : List Loc} {ls : Array Slot} (hP : va_P D vwCl (oh_W n a U) H) (hD : va_D A (oh_W n a U)) (hS : va_S A s.heap H locs) (hl : lv_has ls 2 [(0, .ref (a (B1 + 0))), (1, .ref (a (B2 + 0)))]) (kk : ∀ (U2 : Nat → va_E) (H : Heap) (locs : List Loc), TyM (shf B1 a) E (shf B1 U2) → (∀ k, (k < B1 + 24 ∨ B1 + 24 + 24 ≤ k) → U2 k = U k) → (∀ i, i < 24 → ∃ g : Nat → Int32, U2 (B1 + (24 + i)) = .inl (E 0, 7, .inl g) ∧ ∀ q, q < 7 → g q = ga (U (B2 + (24 + i))) q) → va_P D vwCl (oh_W n a U2) H → va_D A (oh_W n a U2) → va_S A s.heap H locs → W p l e R s m args below meth c H locs cells slots Q (F0 m 19 ls [])) : W p l e R s m args below meth c H locs cells slots Q (F0 m 8 ls []) := by
  refine lv_aload_n hx hb dX7_takeFrom_8 rfl (lv_at hl 1 rfl) ?_
  refine va_get (D := D) (ci := 7) (v := .ref (a (B2 + 9))) (C := RX7) (T := TX7) (N := 29) hx hb htg ig_7 hown hK hP (B2 + 0) (oh_wg (k := B2 + 0) (by omega) (show U (B2 + 0) = .inr (7, [.ref (a (B2 + 1)), .ref (a (B2 + 2)), .ref (a (B2 + 3)), .ref (a (B2 + 4)), .ref (a (B2 + 5)), .ref (a (B2 + 6)), .ref (a (B2 + 7)), .int (gi (U (B2 + 0)) 7), .ref (a (B2 + 8)), .int (gi (U (B2 + 0)) 9), .ref (a (B2 + 9)), .int (gi (U (B2 + 0)) 11), .ref (a (B2 + 10)), .int (gi (U (B2 + 0)) 13), .ref (a (B2 + 11)), .int (gi (U (B2 + 0)) 15), .ref (a (B2 + 12)), .ref (a (B2 + 13)), .ref (a (B2 + 14)), .int (gi (U (B2 + 0)) 19), gv (U (B2 + 0)) 20, .int (gi (U (B2 + 0)) 21), .int (gi (U (B2 + 0)) 22), .int (gi (U (B2 + 0)) 23), .long (gl (U (B2 + 0)) 24), .int (gi (U (B2 + 0)) 25), .int (gi (U (B2 + 0)) 26), .ref (a (B2 + 15)), .int (gi (U (B2 + 0)) 28)]) from sM_0 hT2)) rfl 10 (by decide) (htg _ q_983) (fun _ h9 => h9) rfl dX7_takeFrom_9 ?_
  refine lv_aload_n hx hb dX7_takeFrom_12 rfl (lv_at hl 0 rfl) ?_
  refine va_get (D := D) (ci := 7) (v := .ref (a (B1 + 9))) (C := RX7) (T := TX7) (N := 29) hx hb htg ig_7 hown hK hP (B1 + 0) (oh_wg (k := B1 + 0) (by omega) (show U (B1 + 0) = .inr (7, [.ref (a (B1 + 1)), .ref (a (B1 + 2)), .ref (a (B1 + 3)), .ref (a (B1 + 4)), .ref (a (B1 + 5)), .ref (a (B1 + 6)), .ref (a (B1 + 7)), .int (gi (U (B1 + 0)) 7), .ref (a (B1 + 8)), .int (gi (U (B1 + 0)) 9), .ref (a (B1 + 9)), .int (gi (U (B1 + 0)) 11), .ref (a (B1 + 10)), .int (gi (U (B1 + 0)) 13), .ref (a (B1 + 11)), .int (gi (U (B1 + 0)) 15), .ref (a (B1 + 12)), .ref (a (B1 + 13)), .ref (a (B1 + 14)), .int (gi (U (B1 + 0)) 19), gv (U (B1 + 0)) 20, .int (gi (U (B1 + 0)) 21), .int (gi (U (B1 + 0)) 22), .int (gi (U (B1 + 0)) 23), .long (gl (U (B1 + 0)) 24), .int (gi (U (B1 + 0)) 25), .int (gi (U (B1 + 0)) 26), .ref (a (B1 + 15)), .int (gi (U (B1 + 0)) 28)]) from sM_0 hT1)) rfl 10 (by decide) (htg _ q_983) (fun _ h9 => h9) rfl dX7_takeFrom_13 ?_
  have s1 := (Eq.trans (show U (B2 + 9) = .inl (E 2, 24, .inr (.inr (.inr (.inr (qf (shf B2 a) 24 24))))) from sM_9 hT2) (congrArg (fun f => (.inl (E 2, 24, .inr (.inr (.inr (.inr f)))) : va_E)) qf_sh))
  have s2 := (Eq.trans (show U (B1 + 9) = .inl (E 2, 24, .inr (.inr (.inr (.inr (qf (shf B1 a) 24 24))))) from sM_9 hT1) (congrArg (fun f => (.inl (E 2, 24, .inr (.inr (.inr (.inr f)))) : va_E)) qf_sh))
  have r1 : ∀ i, i < 24 → U (B2 + 24 + i) = .inl (E 0, 7, .inl (ga (U (B2 + 24 + i)))) := fun i hi => by rw [Nat.add_assoc]; exact (hT2.broad hi).1
  have r2 : ∀ i, i < 24 → U (B1 + 24 + i) = .inl (E 0, 7, .inl (ga (U (B1 + 24 + i)))) := fun i hi => by rw [Nat.add_assoc]; exact (hT1.broad hi).1
  refine tm_Sv (As := [.ref (a (B2 + 9)), .ref (a (B1 + 9))]) (rest := []) ⟨hx, hb, hml, hown, htg⟩ (c_X7_overAll l D E G _ n a U (B2 + 9) (B1 + 9) (B2 + 24) (B1 + 24) 24 7 (by omega) (by omega) (by omega) (by omega) (by omega) (by omega) (by omega) (fun i hi => by omega) (fun i hi => by omega) s1 s2 r1 r2) (va_cwS 2 htg (oh_gS q_1431 q_1432 q_73 q_1433) rfl rfl rfl pdX7_overAll ⟨by omega, by omega⟩) hK hP hD hG hS hA rfl hl.1 rfl (Nat.le_of_ble_eq_true rfl) dX7_takeFrom_16 ⟨hRc, hRs⟩ (fun U2 H locs hq hP hD hS => ?_)
  have hE : ∀ k, (k < B1 + 24 ∨ B1 + 24 + 24 ≤ k) → U2 k = U k := fun k hk => hq.2 k (fun i hi => by omega)
  have hc : ∀ i, i < 24 → ∃ g : Nat → Int32, U2 (B1 + (24 + i)) = .inl (E 0, 7, .inl g) ∧ ∀ q, q < 7 → g q = ga (U (B2 + (24 + i))) q := fun i hi => by
    obtain ⟨g, h1, h2⟩ := hq.1 i hi
    exact ⟨g, by rw [← Nat.add_assoc]; exact h1, fun q hq => by rw [← Nat.add_assoc]; exact h2 q hq⟩
  exact kk U2 H locs (TyM.cproad hT1 hT2 (fun k hk hn => hE (B1 + k) (by omega)) hc) hE hc hP hD hS

set_option maxHeartbeats 4000000 in
set_option maxRecDepth 100000 in
theorem tk_f11 {p : Program} {l : Launch} {e : Env} {R : Room} {s : State} {m : MethodId} {args : Array Value} {below : List Frame} {meth : Method} {c : Code} {cells slots : Nat} {Q : State → Prop} {D : va_G} {E : Nat → ClassId} {A : Nat → Prop} {G : Nat → Nat} (hx : p.tables.exec = Jvm.exec) (hb : c.code = cX7_takeFrom) (htg : ∀ w ∈ oh_t, w.before args s = true) (hown : s.vm.findClass RX7 = some m.cls) (hml : c.maxLocals = 2) (hK : va_K D vwCl (oh_ty E) s) (hG : oh_G G A s) (hA : ∀ q, s.heap.size ≤ q → A q) (hRf : 2 ≤ R.frames) (hRl : 44 ≤ R.locals) (hRc : cells ≤ R.cells) (hRs : slots ≤ R.slots) {n : Nat} {a : Nat → Nat} {B1 B2 : Nat} (hB : (B1 = 0 ∧ B2 = 74) ∨ (B1 = 74 ∧ B2 = 0)) (hn : 148 ≤ n) {U : Nat → va_E} (hT1 : TyM (shf B1 a) E (shf B1 U)) (hT2 : TyM (shf B2 a) E (shf B2 U)) {H : Heap} {locs : List Loc} {ls : Array Slot} (hP : va_P D vwCl (oh_W n a U) H) (hD : va_D A (oh_W n a U)) (hS : va_S A s.heap H locs) (hl : lv_has ls 2 [(0, .ref (a (B1 + 0))), (1, .ref (a (B2 + 0)))]) (kk : ∀ (U2 : Nat → va_E) (H : Heap) (locs : List Loc), TyM (shf B1 a) E (shf B1 U2) → (∀ k, k ≠ B1 + 0 → U2 k = U k) → (gi (U2 (B1 + 0)) 11 = gi (U (B2 + 0)) 11) → (∀ i, i ≠ 11 → gv (U2 (B1 + 0)) i = gv (U (B1 + 0)) i) → va_P D vwCl (oh_W n a U2) H → va_D A (oh_W n a U2) → va_S A s.heap H locs → W p l e R s m args below meth c H locs cells slots Q (F0 m 27 ls [])) : W p l e R s m args below meth c H locs cells slots Q (F0 m 19 ls []) := by
  refine lv_aload_n hx hb dX7_takeFrom_19 rfl (lv_at hl 0 rfl) ?_
  refine lv_aload_n hx hb dX7_takeFrom_20 rfl (lv_at hl 1 rfl) ?_
  refine va_get (D := D) (ci := 7) (v := .int (gi (U (B2 + 0)) 11)) (C := RX7) (T := TX7) (N := 29) hx hb htg ig_7 hown hK hP (B2 + 0) (oh_wg (k := B2 + 0) (by omega) (show U (B2 + 0) = .inr (7, [.ref (a (B2 + 1)), .ref (a (B2 + 2)), .ref (a (B2 + 3)), .ref (a (B2 + 4)), .ref (a (B2 + 5)), .ref (a (B2 + 6)), .ref (a (B2 + 7)), .int (gi (U (B2 + 0)) 7), .ref (a (B2 + 8)), .int (gi (U (B2 + 0)) 9), .ref (a (B2 + 9)), .int (gi (U (B2 + 0)) 11), .ref (a (B2 + 10)), .int (gi (U (B2 + 0)) 13), .ref (a (B2 + 11)), .int (gi (U (B2 + 0)) 15), .ref (a (B2 + 12)), .ref (a (B2 + 13)), .ref (a (B2 + 14)), .int (gi (U (B2 + 0)) 19), gv (U (B2 + 0)) 20, .int (gi (U (B2 + 0)) 21), .int (gi (U (B2 + 0)) 22), .int (gi (U (B2 + 0)) 23), .long (gl (U (B2 + 0)) 24), .int (gi (U (B2 + 0)) 25), .int (gi (U (B2 + 0)) 26), .ref (a (B2 + 15)), .int (gi (U (B2 + 0)) 28)]) from sM_0 hT2)) rfl 11 (by decide) (htg _ q_984) (fun _ h9 => h9) rfl dX7_takeFrom_21 ?_
  refine th_put (Tp := fun _ => True) (Rl := fun _ => True) (ci := 7) (v := .int (gi (U (B2 + 0)) 11)) (ty := .int) (CC := RX7) (T := TX7) (N := 29) hx hb htg ig_7 tyX7 tyX7_ok nmX7 hown hK hP hD hS (B1 + 0) (by omega) (show U (B1 + 0) = .inr (7, [.ref (a (B1 + 1)), .ref (a (B1 + 2)), .ref (a (B1 + 3)), .ref (a (B1 + 4)), .ref (a (B1 + 5)), .ref (a (B1 + 6)), .ref (a (B1 + 7)), .int (gi (U (B1 + 0)) 7), .ref (a (B1 + 8)), .int (gi (U (B1 + 0)) 9), .ref (a (B1 + 9)), .int (gi (U (B1 + 0)) 11), .ref (a (B1 + 10)), .int (gi (U (B1 + 0)) 13), .ref (a (B1 + 11)), .int (gi (U (B1 + 0)) 15), .ref (a (B1 + 12)), .ref (a (B1 + 13)), .ref (a (B1 + 14)), .int (gi (U (B1 + 0)) 19), gv (U (B1 + 0)) 20, .int (gi (U (B1 + 0)) 21), .int (gi (U (B1 + 0)) 22), .int (gi (U (B1 + 0)) 23), .long (gl (U (B1 + 0)) 24), .int (gi (U (B1 + 0)) 25), .int (gi (U (B1 + 0)) 26), .ref (a (B1 + 15)), .int (gi (U (B1 + 0)) 28)]) from sM_0 hT1) rfl 11 (by decide) (htg _ q_984) (fun _ h9 => h9) rfl (by decide +kernel) rfl rfl (Nat.le_of_ble_eq_true rfl) trivial trivial dX7_takeFrom_24 (fun U2 H locs e2 _ _ hP hD hS => ?_)
  refine kk U2 H locs ?_ (fun k hk => th_un e2 hk) ?_ (fun i hi => ?_) hP hD hS
  · rw [e2, shf_upd]
    exact TyM.pt11 hT1 (show shf B1 U 0 = .inr (7, [.ref (a (B1 + 1)), .ref (a (B1 + 2)), .ref (a (B1 + 3)), .ref (a (B1 + 4)), .ref (a (B1 + 5)), .ref (a (B1 + 6)), .ref (a (B1 + 7)), .int (gi (U (B1 + 0)) 7), .ref (a (B1 + 8)), .int (gi (U (B1 + 0)) 9), .ref (a (B1 + 9)), .int (gi (U (B1 + 0)) 11), .ref (a (B1 + 10)), .int (gi (U (B1 + 0)) 13), .ref (a (B1 + 11)), .int (gi (U (B1 + 0)) 15), .ref (a (B1 + 12)), .ref (a (B1 + 13)), .ref (a (B1 + 14)), .int (gi (U (B1 + 0)) 19), gv (U (B1 + 0)) 20, .int (gi (U (B1 + 0)) 21), .int (gi (U (B1 + 0)) 22), .int (gi (U (B1 + 0)) 23), .long (gl (U (B1 + 0)) 24), .int (gi (U (B1 + 0)) 25), .int (gi (U (B1 + 0)) 26), .ref (a (B1 + 15)), .int (gi (U (B1 + 0)) 28)]) from sM_0 hT1) (fM_0_11 hT2)
  · rw [e2, updc_eq]
    rfl
  · exact gv_st e2 (show U (B1 + 0) = .inr (7, [.ref (a (B1 + 1)), .ref (a (B1 + 2)), .ref (a (B1 + 3)), .ref (a (B1 + 4)), .ref (a (B1 + 5)), .ref (a (B1 + 6)), .ref (a (B1 + 7)), .int (gi (U (B1 + 0)) 7), .ref (a (B1 + 8)), .int (gi (U (B1 + 0)) 9), .ref (a (B1 + 9)), .int (gi (U (B1 + 0)) 11), .ref (a (B1 + 10)), .int (gi (U (B1 + 0)) 13), .ref (a (B1 + 11)), .int (gi (U (B1 + 0)) 15), .ref (a (B1 + 12)), .ref (a (B1 + 13)), .ref (a (B1 + 14)), .int (gi (U (B1 + 0)) 19), gv (U (B1 + 0)) 20, .int (gi (U (B1 + 0)) 21), .int (gi (U (B1 + 0)) 22), .int (gi (U (B1 + 0)) 23), .long (gl (U (B1 + 0)) 24), .int (gi (U (B1 + 0)) 25), .int (gi (U (B1 + 0)) 26), .ref (a (B1 + 15)), .int (gi (U (B1 + 0)) 28)]) from sM_0 hT1) hi

set_option maxHeartbeats 4000000 in
set_option maxRecDepth 100000 in
theorem tk_bbridge {p : Program} {l : Launch} {e : Env} {R : Room} {s : State} {m : MethodId} {args : Array Value} {below : List Frame} {meth : Method} {c : Code} {cells slots : Nat} {Q : State → Prop} {D : va_G} {E : Nat → ClassId} {A : Nat → Prop} {G : Nat → Nat} (hx : p.tables.exec = Jvm.exec) (hb : c.code = cX7_takeFrom) (htg : ∀ w ∈ oh_t, w.before args s = true) (hown : s.vm.findClass RX7 = some m.cls) (hml : c.maxLocals = 2) (hK : va_K D vwCl (oh_ty E) s) (hG : oh_G G A s) (hA : ∀ q, s.heap.size ≤ q → A q) (hRf : 2 ≤ R.frames) (hRl : 44 ≤ R.locals) (hRc : cells ≤ R.cells) (hRs : slots ≤ R.slots) {n : Nat} {a : Nat → Nat} {B1 B2 : Nat} (hB : (B1 = 0 ∧ B2 = 74) ∨ (B1 = 74 ∧ B2 = 0)) (hn : 148 ≤ n) {U : Nat → va_E} (hT1 : TyM (shf B1 a) E (shf B1 U)) (hT2 : TyM (shf B2 a) E (shf B2 U)) {H : Heap} {locs : List Loc} {ls : Array Slot} (hP : va_P D vwCl (oh_W n a U) H) (hD : va_D A (oh_W n a U)) (hS : va_S A s.heap H locs) (hl : lv_has ls 2 [(0, .ref (a (B1 + 0))), (1, .ref (a (B2 + 0)))]) (kk : ∀ (U2 : Nat → va_E) (H : Heap) (locs : List Loc), TyM (shf B1 a) E (shf B1 U2) → (∀ k, (k < B1 + 48 ∨ B1 + 48 + 16 ≤ k) → U2 k = U k) → (∀ i, i < 16 → ∃ g : Nat → Int32, U2 (B1 + (48 + i)) = .inl (E 0, 10, .inl g) ∧ ∀ q, q < 10 → g q = ga (U (B2 + (48 + i))) q) → va_P D vwCl (oh_W n a U2) H → va_D A (oh_W n a U2) → va_S A s.heap H locs → W p l e R s m args below meth c H locs cells slots Q (F0 m 38 ls [])) : W p l e R s m args below meth c H locs cells slots Q (F0 m 27 ls []) := by
  refine lv_aload_n hx hb dX7_takeFrom_27 rfl (lv_at hl 1 rfl) ?_
  refine va_get (D := D) (ci := 7) (v := .ref (a (B2 + 10))) (C := RX7) (T := TX7) (N := 29) hx hb htg ig_7 hown hK hP (B2 + 0) (oh_wg (k := B2 + 0) (by omega) (show U (B2 + 0) = .inr (7, [.ref (a (B2 + 1)), .ref (a (B2 + 2)), .ref (a (B2 + 3)), .ref (a (B2 + 4)), .ref (a (B2 + 5)), .ref (a (B2 + 6)), .ref (a (B2 + 7)), .int (gi (U (B2 + 0)) 7), .ref (a (B2 + 8)), .int (gi (U (B2 + 0)) 9), .ref (a (B2 + 9)), .int (gi (U (B2 + 0)) 11), .ref (a (B2 + 10)), .int (gi (U (B2 + 0)) 13), .ref (a (B2 + 11)), .int (gi (U (B2 + 0)) 15), .ref (a (B2 + 12)), .ref (a (B2 + 13)), .ref (a (B2 + 14)), .int (gi (U (B2 + 0)) 19), gv (U (B2 + 0)) 20, .int (gi (U (B2 + 0)) 21), .int (gi (U (B2 + 0)) 22), .int (gi (U (B2 + 0)) 23), .long (gl (U (B2 + 0)) 24), .int (gi (U (B2 + 0)) 25), .int (gi (U (B2 + 0)) 26), .ref (a (B2 + 15)), .int (gi (U (B2 + 0)) 28)]) from sM_0 hT2)) rfl 12 (by decide) (htg _ q_985) (fun _ h9 => h9) rfl dX7_takeFrom_28 ?_
  refine lv_aload_n hx hb dX7_takeFrom_31 rfl (lv_at hl 0 rfl) ?_
  refine va_get (D := D) (ci := 7) (v := .ref (a (B1 + 10))) (C := RX7) (T := TX7) (N := 29) hx hb htg ig_7 hown hK hP (B1 + 0) (oh_wg (k := B1 + 0) (by omega) (show U (B1 + 0) = .inr (7, [.ref (a (B1 + 1)), .ref (a (B1 + 2)), .ref (a (B1 + 3)), .ref (a (B1 + 4)), .ref (a (B1 + 5)), .ref (a (B1 + 6)), .ref (a (B1 + 7)), .int (gi (U (B1 + 0)) 7), .ref (a (B1 + 8)), .int (gi (U (B1 + 0)) 9), .ref (a (B1 + 9)), .int (gi (U (B1 + 0)) 11), .ref (a (B1 + 10)), .int (gi (U (B1 + 0)) 13), .ref (a (B1 + 11)), .int (gi (U (B1 + 0)) 15), .ref (a (B1 + 12)), .ref (a (B1 + 13)), .ref (a (B1 + 14)), .int (gi (U (B1 + 0)) 19), gv (U (B1 + 0)) 20, .int (gi (U (B1 + 0)) 21), .int (gi (U (B1 + 0)) 22), .int (gi (U (B1 + 0)) 23), .long (gl (U (B1 + 0)) 24), .int (gi (U (B1 + 0)) 25), .int (gi (U (B1 + 0)) 26), .ref (a (B1 + 15)), .int (gi (U (B1 + 0)) 28)]) from sM_0 hT1)) rfl 12 (by decide) (htg _ q_985) (fun _ h9 => h9) rfl dX7_takeFrom_32 ?_
  have s1 := (Eq.trans (show U (B2 + 10) = .inl (E 2, 16, .inr (.inr (.inr (.inr (qf (shf B2 a) 16 48))))) from sM_10 hT2) (congrArg (fun f => (.inl (E 2, 16, .inr (.inr (.inr (.inr f)))) : va_E)) qf_sh))
  have s2 := (Eq.trans (show U (B1 + 10) = .inl (E 2, 16, .inr (.inr (.inr (.inr (qf (shf B1 a) 16 48))))) from sM_10 hT1) (congrArg (fun f => (.inl (E 2, 16, .inr (.inr (.inr (.inr f)))) : va_E)) qf_sh))
  have r1 : ∀ i, i < 16 → U (B2 + 48 + i) = .inl (E 0, 10, .inl (ga (U (B2 + 48 + i)))) := fun i hi => by rw [Nat.add_assoc]; exact (hT2.bbridge hi).1
  have r2 : ∀ i, i < 16 → U (B1 + 48 + i) = .inl (E 0, 10, .inl (ga (U (B1 + 48 + i)))) := fun i hi => by rw [Nat.add_assoc]; exact (hT1.bbridge hi).1
  refine tm_Sv (As := [.ref (a (B2 + 10)), .ref (a (B1 + 10))]) (rest := []) ⟨hx, hb, hml, hown, htg⟩ (c_X7_overAll l D E G _ n a U (B2 + 10) (B1 + 10) (B2 + 48) (B1 + 48) 16 10 (by omega) (by omega) (by omega) (by omega) (by omega) (by omega) (by omega) (fun i hi => by omega) (fun i hi => by omega) s1 s2 r1 r2) (va_cwS 2 htg (oh_gS q_1431 q_1432 q_73 q_1433) rfl rfl rfl pdX7_overAll ⟨by omega, by omega⟩) hK hP hD hG hS hA rfl hl.1 rfl (Nat.le_of_ble_eq_true rfl) dX7_takeFrom_35 ⟨hRc, hRs⟩ (fun U2 H locs hq hP hD hS => ?_)
  have hE : ∀ k, (k < B1 + 48 ∨ B1 + 48 + 16 ≤ k) → U2 k = U k := fun k hk => hq.2 k (fun i hi => by omega)
  have hc : ∀ i, i < 16 → ∃ g : Nat → Int32, U2 (B1 + (48 + i)) = .inl (E 0, 10, .inl g) ∧ ∀ q, q < 10 → g q = ga (U (B2 + (48 + i))) q := fun i hi => by
    obtain ⟨g, h1, h2⟩ := hq.1 i hi
    exact ⟨g, by rw [← Nat.add_assoc]; exact h1, fun q hq => by rw [← Nat.add_assoc]; exact h2 q hq⟩
  exact kk U2 H locs (TyM.cpbridge hT1 hT2 (fun k hk hn => hE (B1 + k) (by omega)) hc) hE hc hP hD hS

set_option maxHeartbeats 4000000 in
set_option maxRecDepth 100000 in
theorem tk_f13 {p : Program} {l : Launch} {e : Env} {R : Room} {s : State} {m : MethodId} {args : Array Value} {below : List Frame} {meth : Method} {c : Code} {cells slots : Nat} {Q : State → Prop} {D : va_G} {E : Nat → ClassId} {A : Nat → Prop} {G : Nat → Nat} (hx : p.tables.exec = Jvm.exec) (hb : c.code = cX7_takeFrom) (htg : ∀ w ∈ oh_t, w.before args s = true) (hown : s.vm.findClass RX7 = some m.cls) (hml : c.maxLocals = 2) (hK : va_K D vwCl (oh_ty E) s) (hG : oh_G G A s) (hA : ∀ q, s.heap.size ≤ q → A q) (hRf : 2 ≤ R.frames) (hRl : 44 ≤ R.locals) (hRc : cells ≤ R.cells) (hRs : slots ≤ R.slots) {n : Nat} {a : Nat → Nat} {B1 B2 : Nat} (hB : (B1 = 0 ∧ B2 = 74) ∨ (B1 = 74 ∧ B2 = 0)) (hn : 148 ≤ n) {U : Nat → va_E} (hT1 : TyM (shf B1 a) E (shf B1 U)) (hT2 : TyM (shf B2 a) E (shf B2 U)) {H : Heap} {locs : List Loc} {ls : Array Slot} (hP : va_P D vwCl (oh_W n a U) H) (hD : va_D A (oh_W n a U)) (hS : va_S A s.heap H locs) (hl : lv_has ls 2 [(0, .ref (a (B1 + 0))), (1, .ref (a (B2 + 0)))]) (kk : ∀ (U2 : Nat → va_E) (H : Heap) (locs : List Loc), TyM (shf B1 a) E (shf B1 U2) → (∀ k, k ≠ B1 + 0 → U2 k = U k) → (gi (U2 (B1 + 0)) 13 = gi (U (B2 + 0)) 13) → (∀ i, i ≠ 13 → gv (U2 (B1 + 0)) i = gv (U (B1 + 0)) i) → va_P D vwCl (oh_W n a U2) H → va_D A (oh_W n a U2) → va_S A s.heap H locs → W p l e R s m args below meth c H locs cells slots Q (F0 m 46 ls [])) : W p l e R s m args below meth c H locs cells slots Q (F0 m 38 ls []) := by
  refine lv_aload_n hx hb dX7_takeFrom_38 rfl (lv_at hl 0 rfl) ?_
  refine lv_aload_n hx hb dX7_takeFrom_39 rfl (lv_at hl 1 rfl) ?_
  refine va_get (D := D) (ci := 7) (v := .int (gi (U (B2 + 0)) 13)) (C := RX7) (T := TX7) (N := 29) hx hb htg ig_7 hown hK hP (B2 + 0) (oh_wg (k := B2 + 0) (by omega) (show U (B2 + 0) = .inr (7, [.ref (a (B2 + 1)), .ref (a (B2 + 2)), .ref (a (B2 + 3)), .ref (a (B2 + 4)), .ref (a (B2 + 5)), .ref (a (B2 + 6)), .ref (a (B2 + 7)), .int (gi (U (B2 + 0)) 7), .ref (a (B2 + 8)), .int (gi (U (B2 + 0)) 9), .ref (a (B2 + 9)), .int (gi (U (B2 + 0)) 11), .ref (a (B2 + 10)), .int (gi (U (B2 + 0)) 13), .ref (a (B2 + 11)), .int (gi (U (B2 + 0)) 15), .ref (a (B2 + 12)), .ref (a (B2 + 13)), .ref (a (B2 + 14)), .int (gi (U (B2 + 0)) 19), gv (U (B2 + 0)) 20, .int (gi (U (B2 + 0)) 21), .int (gi (U (B2 + 0)) 22), .int (gi (U (B2 + 0)) 23), .long (gl (U (B2 + 0)) 24), .int (gi (U (B2 + 0)) 25), .int (gi (U (B2 + 0)) 26), .ref (a (B2 + 15)), .int (gi (U (B2 + 0)) 28)]) from sM_0 hT2)) rfl 13 (by decide) (htg _ q_986) (fun _ h9 => h9) rfl dX7_takeFrom_40 ?_
  refine th_put (Tp := fun _ => True) (Rl := fun _ => True) (ci := 7) (v := .int (gi (U (B2 + 0)) 13)) (ty := .int) (CC := RX7) (T := TX7) (N := 29) hx hb htg ig_7 tyX7 tyX7_ok nmX7 hown hK hP hD hS (B1 + 0) (by omega) (show U (B1 + 0) = .inr (7, [.ref (a (B1 + 1)), .ref (a (B1 + 2)), .ref (a (B1 + 3)), .ref (a (B1 + 4)), .ref (a (B1 + 5)), .ref (a (B1 + 6)), .ref (a (B1 + 7)), .int (gi (U (B1 + 0)) 7), .ref (a (B1 + 8)), .int (gi (U (B1 + 0)) 9), .ref (a (B1 + 9)), .int (gi (U (B1 + 0)) 11), .ref (a (B1 + 10)), .int (gi (U (B1 + 0)) 13), .ref (a (B1 + 11)), .int (gi (U (B1 + 0)) 15), .ref (a (B1 + 12)), .ref (a (B1 + 13)), .ref (a (B1 + 14)), .int (gi (U (B1 + 0)) 19), gv (U (B1 + 0)) 20, .int (gi (U (B1 + 0)) 21), .int (gi (U (B1 + 0)) 22), .int (gi (U (B1 + 0)) 23), .long (gl (U (B1 + 0)) 24), .int (gi (U (B1 + 0)) 25), .int (gi (U (B1 + 0)) 26), .ref (a (B1 + 15)), .int (gi (U (B1 + 0)) 28)]) from sM_0 hT1) rfl 13 (by decide) (htg _ q_986) (fun _ h9 => h9) rfl (by decide +kernel) rfl rfl (Nat.le_of_ble_eq_true rfl) trivial trivial dX7_takeFrom_43 (fun U2 H locs e2 _ _ hP hD hS => ?_)
  refine kk U2 H locs ?_ (fun k hk => th_un e2 hk) ?_ (fun i hi => ?_) hP hD hS
  · rw [e2, shf_upd]
    exact TyM.pt13 hT1 (show shf B1 U 0 = .inr (7, [.ref (a (B1 + 1)), .ref (a (B1 + 2)), .ref (a (B1 + 3)), .ref (a (B1 + 4)), .ref (a (B1 + 5)), .ref (a (B1 + 6)), .ref (a (B1 + 7)), .int (gi (U (B1 + 0)) 7), .ref (a (B1 + 8)), .int (gi (U (B1 + 0)) 9), .ref (a (B1 + 9)), .int (gi (U (B1 + 0)) 11), .ref (a (B1 + 10)), .int (gi (U (B1 + 0)) 13), .ref (a (B1 + 11)), .int (gi (U (B1 + 0)) 15), .ref (a (B1 + 12)), .ref (a (B1 + 13)), .ref (a (B1 + 14)), .int (gi (U (B1 + 0)) 19), gv (U (B1 + 0)) 20, .int (gi (U (B1 + 0)) 21), .int (gi (U (B1 + 0)) 22), .int (gi (U (B1 + 0)) 23), .long (gl (U (B1 + 0)) 24), .int (gi (U (B1 + 0)) 25), .int (gi (U (B1 + 0)) 26), .ref (a (B1 + 15)), .int (gi (U (B1 + 0)) 28)]) from sM_0 hT1) (fM_0_13 hT2)
  · rw [e2, updc_eq]
    rfl
  · exact gv_st e2 (show U (B1 + 0) = .inr (7, [.ref (a (B1 + 1)), .ref (a (B1 + 2)), .ref (a (B1 + 3)), .ref (a (B1 + 4)), .ref (a (B1 + 5)), .ref (a (B1 + 6)), .ref (a (B1 + 7)), .int (gi (U (B1 + 0)) 7), .ref (a (B1 + 8)), .int (gi (U (B1 + 0)) 9), .ref (a (B1 + 9)), .int (gi (U (B1 + 0)) 11), .ref (a (B1 + 10)), .int (gi (U (B1 + 0)) 13), .ref (a (B1 + 11)), .int (gi (U (B1 + 0)) 15), .ref (a (B1 + 12)), .ref (a (B1 + 13)), .ref (a (B1 + 14)), .int (gi (U (B1 + 0)) 19), gv (U (B1 + 0)) 20, .int (gi (U (B1 + 0)) 21), .int (gi (U (B1 + 0)) 22), .int (gi (U (B1 + 0)) 23), .long (gl (U (B1 + 0)) 24), .int (gi (U (B1 + 0)) 25), .int (gi (U (B1 + 0)) 26), .ref (a (B1 + 15)), .int (gi (U (B1 + 0)) 28)]) from sM_0 hT1) hi

set_option maxHeartbeats 4000000 in
set_option maxRecDepth 100000 in
theorem tk_bwaggon {p : Program} {l : Launch} {e : Env} {R : Room} {s : State} {m : MethodId} {args : Array Value} {below : List Frame} {meth : Method} {c : Code} {cells slots : Nat} {Q : State → Prop} {D : va_G} {E : Nat → ClassId} {A : Nat → Prop} {G : Nat → Nat} (hx : p.tables.exec = Jvm.exec) (hb : c.code = cX7_takeFrom) (htg : ∀ w ∈ oh_t, w.before args s = true) (hown : s.vm.findClass RX7 = some m.cls) (hml : c.maxLocals = 2) (hK : va_K D vwCl (oh_ty E) s) (hG : oh_G G A s) (hA : ∀ q, s.heap.size ≤ q → A q) (hRf : 2 ≤ R.frames) (hRl : 44 ≤ R.locals) (hRc : cells ≤ R.cells) (hRs : slots ≤ R.slots) {n : Nat} {a : Nat → Nat} {B1 B2 : Nat} (hB : (B1 = 0 ∧ B2 = 74) ∨ (B1 = 74 ∧ B2 = 0)) (hn : 148 ≤ n) {U : Nat → va_E} (hT1 : TyM (shf B1 a) E (shf B1 U)) (hT2 : TyM (shf B2 a) E (shf B2 U)) {H : Heap} {locs : List Loc} {ls : Array Slot} (hP : va_P D vwCl (oh_W n a U) H) (hD : va_D A (oh_W n a U)) (hS : va_S A s.heap H locs) (hl : lv_has ls 2 [(0, .ref (a (B1 + 0))), (1, .ref (a (B2 + 0)))]) (kk : ∀ (U2 : Nat → va_E) (H : Heap) (locs : List Loc), TyM (shf B1 a) E (shf B1 U2) → (∀ k, (k < B1 + 64 ∨ B1 + 64 + 5 ≤ k) → U2 k = U k) → (∀ i, i < 5 → ∃ g : Nat → Int32, U2 (B1 + (64 + i)) = .inl (E 0, 3, .inl g) ∧ ∀ q, q < 3 → g q = ga (U (B2 + (64 + i))) q) → va_P D vwCl (oh_W n a U2) H → va_D A (oh_W n a U2) → va_S A s.heap H locs → W p l e R s m args below meth c H locs cells slots Q (F0 m 57 ls [])) : W p l e R s m args below meth c H locs cells slots Q (F0 m 46 ls []) := by
  refine lv_aload_n hx hb dX7_takeFrom_46 rfl (lv_at hl 1 rfl) ?_
  refine va_get (D := D) (ci := 7) (v := .ref (a (B2 + 11))) (C := RX7) (T := TX7) (N := 29) hx hb htg ig_7 hown hK hP (B2 + 0) (oh_wg (k := B2 + 0) (by omega) (show U (B2 + 0) = .inr (7, [.ref (a (B2 + 1)), .ref (a (B2 + 2)), .ref (a (B2 + 3)), .ref (a (B2 + 4)), .ref (a (B2 + 5)), .ref (a (B2 + 6)), .ref (a (B2 + 7)), .int (gi (U (B2 + 0)) 7), .ref (a (B2 + 8)), .int (gi (U (B2 + 0)) 9), .ref (a (B2 + 9)), .int (gi (U (B2 + 0)) 11), .ref (a (B2 + 10)), .int (gi (U (B2 + 0)) 13), .ref (a (B2 + 11)), .int (gi (U (B2 + 0)) 15), .ref (a (B2 + 12)), .ref (a (B2 + 13)), .ref (a (B2 + 14)), .int (gi (U (B2 + 0)) 19), gv (U (B2 + 0)) 20, .int (gi (U (B2 + 0)) 21), .int (gi (U (B2 + 0)) 22), .int (gi (U (B2 + 0)) 23), .long (gl (U (B2 + 0)) 24), .int (gi (U (B2 + 0)) 25), .int (gi (U (B2 + 0)) 26), .ref (a (B2 + 15)), .int (gi (U (B2 + 0)) 28)]) from sM_0 hT2)) rfl 14 (by decide) (htg _ q_987) (fun _ h9 => h9) rfl dX7_takeFrom_47 ?_
  refine lv_aload_n hx hb dX7_takeFrom_50 rfl (lv_at hl 0 rfl) ?_
  refine va_get (D := D) (ci := 7) (v := .ref (a (B1 + 11))) (C := RX7) (T := TX7) (N := 29) hx hb htg ig_7 hown hK hP (B1 + 0) (oh_wg (k := B1 + 0) (by omega) (show U (B1 + 0) = .inr (7, [.ref (a (B1 + 1)), .ref (a (B1 + 2)), .ref (a (B1 + 3)), .ref (a (B1 + 4)), .ref (a (B1 + 5)), .ref (a (B1 + 6)), .ref (a (B1 + 7)), .int (gi (U (B1 + 0)) 7), .ref (a (B1 + 8)), .int (gi (U (B1 + 0)) 9), .ref (a (B1 + 9)), .int (gi (U (B1 + 0)) 11), .ref (a (B1 + 10)), .int (gi (U (B1 + 0)) 13), .ref (a (B1 + 11)), .int (gi (U (B1 + 0)) 15), .ref (a (B1 + 12)), .ref (a (B1 + 13)), .ref (a (B1 + 14)), .int (gi (U (B1 + 0)) 19), gv (U (B1 + 0)) 20, .int (gi (U (B1 + 0)) 21), .int (gi (U (B1 + 0)) 22), .int (gi (U (B1 + 0)) 23), .long (gl (U (B1 + 0)) 24), .int (gi (U (B1 + 0)) 25), .int (gi (U (B1 + 0)) 26), .ref (a (B1 + 15)), .int (gi (U (B1 + 0)) 28)]) from sM_0 hT1)) rfl 14 (by decide) (htg _ q_987) (fun _ h9 => h9) rfl dX7_takeFrom_51 ?_
  have s1 := (Eq.trans (show U (B2 + 11) = .inl (E 2, 5, .inr (.inr (.inr (.inr (qf (shf B2 a) 5 64))))) from sM_11 hT2) (congrArg (fun f => (.inl (E 2, 5, .inr (.inr (.inr (.inr f)))) : va_E)) qf_sh))
  have s2 := (Eq.trans (show U (B1 + 11) = .inl (E 2, 5, .inr (.inr (.inr (.inr (qf (shf B1 a) 5 64))))) from sM_11 hT1) (congrArg (fun f => (.inl (E 2, 5, .inr (.inr (.inr (.inr f)))) : va_E)) qf_sh))
  have r1 : ∀ i, i < 5 → U (B2 + 64 + i) = .inl (E 0, 3, .inl (ga (U (B2 + 64 + i)))) := fun i hi => by rw [Nat.add_assoc]; exact (hT2.bwaggon hi).1
  have r2 : ∀ i, i < 5 → U (B1 + 64 + i) = .inl (E 0, 3, .inl (ga (U (B1 + 64 + i)))) := fun i hi => by rw [Nat.add_assoc]; exact (hT1.bwaggon hi).1
  refine tm_Sv (As := [.ref (a (B2 + 11)), .ref (a (B1 + 11))]) (rest := []) ⟨hx, hb, hml, hown, htg⟩ (c_X7_overAll l D E G _ n a U (B2 + 11) (B1 + 11) (B2 + 64) (B1 + 64) 5 3 (by omega) (by omega) (by omega) (by omega) (by omega) (by omega) (by omega) (fun i hi => by omega) (fun i hi => by omega) s1 s2 r1 r2) (va_cwS 2 htg (oh_gS q_1431 q_1432 q_73 q_1433) rfl rfl rfl pdX7_overAll ⟨by omega, by omega⟩) hK hP hD hG hS hA rfl hl.1 rfl (Nat.le_of_ble_eq_true rfl) dX7_takeFrom_54 ⟨hRc, hRs⟩ (fun U2 H locs hq hP hD hS => ?_)
  have hE : ∀ k, (k < B1 + 64 ∨ B1 + 64 + 5 ≤ k) → U2 k = U k := fun k hk => hq.2 k (fun i hi => by omega)
  have hc : ∀ i, i < 5 → ∃ g : Nat → Int32, U2 (B1 + (64 + i)) = .inl (E 0, 3, .inl g) ∧ ∀ q, q < 3 → g q = ga (U (B2 + (64 + i))) q := fun i hi => by
    obtain ⟨g, h1, h2⟩ := hq.1 i hi
    exact ⟨g, by rw [← Nat.add_assoc]; exact h1, fun q hq => by rw [← Nat.add_assoc]; exact h2 q hq⟩
  exact kk U2 H locs (TyM.cpwaggon hT1 hT2 (fun k hk hn => hE (B1 + k) (by omega)) hc) hE hc hP hD hS

set_option maxHeartbeats 4000000 in
set_option maxRecDepth 100000 in
theorem tk_f15 {p : Program} {l : Launch} {e : Env} {R : Room} {s : State} {m : MethodId} {args : Array Value} {below : List Frame} {meth : Method} {c : Code} {cells slots : Nat} {Q : State → Prop} {D : va_G} {E : Nat → ClassId} {A : Nat → Prop} {G : Nat → Nat} (hx : p.tables.exec = Jvm.exec) (hb : c.code = cX7_takeFrom) (htg : ∀ w ∈ oh_t, w.before args s = true) (hown : s.vm.findClass RX7 = some m.cls) (hml : c.maxLocals = 2) (hK : va_K D vwCl (oh_ty E) s) (hG : oh_G G A s) (hA : ∀ q, s.heap.size ≤ q → A q) (hRf : 2 ≤ R.frames) (hRl : 44 ≤ R.locals) (hRc : cells ≤ R.cells) (hRs : slots ≤ R.slots) {n : Nat} {a : Nat → Nat} {B1 B2 : Nat} (hB : (B1 = 0 ∧ B2 = 74) ∨ (B1 = 74 ∧ B2 = 0)) (hn : 148 ≤ n) {U : Nat → va_E} (hT1 : TyM (shf B1 a) E (shf B1 U)) (hT2 : TyM (shf B2 a) E (shf B2 U)) {H : Heap} {locs : List Loc} {ls : Array Slot} (hP : va_P D vwCl (oh_W n a U) H) (hD : va_D A (oh_W n a U)) (hS : va_S A s.heap H locs) (hl : lv_has ls 2 [(0, .ref (a (B1 + 0))), (1, .ref (a (B2 + 0)))]) (kk : ∀ (U2 : Nat → va_E) (H : Heap) (locs : List Loc), TyM (shf B1 a) E (shf B1 U2) → (∀ k, k ≠ B1 + 0 → U2 k = U k) → (gi (U2 (B1 + 0)) 15 = gi (U (B2 + 0)) 15) → (∀ i, i ≠ 15 → gv (U2 (B1 + 0)) i = gv (U (B1 + 0)) i) → va_P D vwCl (oh_W n a U2) H → va_D A (oh_W n a U2) → va_S A s.heap H locs → W p l e R s m args below meth c H locs cells slots Q (F0 m 65 ls [])) : W p l e R s m args below meth c H locs cells slots Q (F0 m 57 ls []) := by
  refine lv_aload_n hx hb dX7_takeFrom_57 rfl (lv_at hl 0 rfl) ?_
  refine lv_aload_n hx hb dX7_takeFrom_58 rfl (lv_at hl 1 rfl) ?_
  refine va_get (D := D) (ci := 7) (v := .int (gi (U (B2 + 0)) 15)) (C := RX7) (T := TX7) (N := 29) hx hb htg ig_7 hown hK hP (B2 + 0) (oh_wg (k := B2 + 0) (by omega) (show U (B2 + 0) = .inr (7, [.ref (a (B2 + 1)), .ref (a (B2 + 2)), .ref (a (B2 + 3)), .ref (a (B2 + 4)), .ref (a (B2 + 5)), .ref (a (B2 + 6)), .ref (a (B2 + 7)), .int (gi (U (B2 + 0)) 7), .ref (a (B2 + 8)), .int (gi (U (B2 + 0)) 9), .ref (a (B2 + 9)), .int (gi (U (B2 + 0)) 11), .ref (a (B2 + 10)), .int (gi (U (B2 + 0)) 13), .ref (a (B2 + 11)), .int (gi (U (B2 + 0)) 15), .ref (a (B2 + 12)), .ref (a (B2 + 13)), .ref (a (B2 + 14)), .int (gi (U (B2 + 0)) 19), gv (U (B2 + 0)) 20, .int (gi (U (B2 + 0)) 21), .int (gi (U (B2 + 0)) 22), .int (gi (U (B2 + 0)) 23), .long (gl (U (B2 + 0)) 24), .int (gi (U (B2 + 0)) 25), .int (gi (U (B2 + 0)) 26), .ref (a (B2 + 15)), .int (gi (U (B2 + 0)) 28)]) from sM_0 hT2)) rfl 15 (by decide) (htg _ q_988) (fun _ h9 => h9) rfl dX7_takeFrom_59 ?_
  refine th_put (Tp := fun _ => True) (Rl := fun _ => True) (ci := 7) (v := .int (gi (U (B2 + 0)) 15)) (ty := .int) (CC := RX7) (T := TX7) (N := 29) hx hb htg ig_7 tyX7 tyX7_ok nmX7 hown hK hP hD hS (B1 + 0) (by omega) (show U (B1 + 0) = .inr (7, [.ref (a (B1 + 1)), .ref (a (B1 + 2)), .ref (a (B1 + 3)), .ref (a (B1 + 4)), .ref (a (B1 + 5)), .ref (a (B1 + 6)), .ref (a (B1 + 7)), .int (gi (U (B1 + 0)) 7), .ref (a (B1 + 8)), .int (gi (U (B1 + 0)) 9), .ref (a (B1 + 9)), .int (gi (U (B1 + 0)) 11), .ref (a (B1 + 10)), .int (gi (U (B1 + 0)) 13), .ref (a (B1 + 11)), .int (gi (U (B1 + 0)) 15), .ref (a (B1 + 12)), .ref (a (B1 + 13)), .ref (a (B1 + 14)), .int (gi (U (B1 + 0)) 19), gv (U (B1 + 0)) 20, .int (gi (U (B1 + 0)) 21), .int (gi (U (B1 + 0)) 22), .int (gi (U (B1 + 0)) 23), .long (gl (U (B1 + 0)) 24), .int (gi (U (B1 + 0)) 25), .int (gi (U (B1 + 0)) 26), .ref (a (B1 + 15)), .int (gi (U (B1 + 0)) 28)]) from sM_0 hT1) rfl 15 (by decide) (htg _ q_988) (fun _ h9 => h9) rfl (by decide +kernel) rfl rfl (Nat.le_of_ble_eq_true rfl) trivial trivial dX7_takeFrom_62 (fun U2 H locs e2 _ _ hP hD hS => ?_)
  refine kk U2 H locs ?_ (fun k hk => th_un e2 hk) ?_ (fun i hi => ?_) hP hD hS
  · rw [e2, shf_upd]
    exact TyM.pt15 hT1 (show shf B1 U 0 = .inr (7, [.ref (a (B1 + 1)), .ref (a (B1 + 2)), .ref (a (B1 + 3)), .ref (a (B1 + 4)), .ref (a (B1 + 5)), .ref (a (B1 + 6)), .ref (a (B1 + 7)), .int (gi (U (B1 + 0)) 7), .ref (a (B1 + 8)), .int (gi (U (B1 + 0)) 9), .ref (a (B1 + 9)), .int (gi (U (B1 + 0)) 11), .ref (a (B1 + 10)), .int (gi (U (B1 + 0)) 13), .ref (a (B1 + 11)), .int (gi (U (B1 + 0)) 15), .ref (a (B1 + 12)), .ref (a (B1 + 13)), .ref (a (B1 + 14)), .int (gi (U (B1 + 0)) 19), gv (U (B1 + 0)) 20, .int (gi (U (B1 + 0)) 21), .int (gi (U (B1 + 0)) 22), .int (gi (U (B1 + 0)) 23), .long (gl (U (B1 + 0)) 24), .int (gi (U (B1 + 0)) 25), .int (gi (U (B1 + 0)) 26), .ref (a (B1 + 15)), .int (gi (U (B1 + 0)) 28)]) from sM_0 hT1) (fM_0_15 hT2)
  · rw [e2, updc_eq]
    rfl
  · exact gv_st e2 (show U (B1 + 0) = .inr (7, [.ref (a (B1 + 1)), .ref (a (B1 + 2)), .ref (a (B1 + 3)), .ref (a (B1 + 4)), .ref (a (B1 + 5)), .ref (a (B1 + 6)), .ref (a (B1 + 7)), .int (gi (U (B1 + 0)) 7), .ref (a (B1 + 8)), .int (gi (U (B1 + 0)) 9), .ref (a (B1 + 9)), .int (gi (U (B1 + 0)) 11), .ref (a (B1 + 10)), .int (gi (U (B1 + 0)) 13), .ref (a (B1 + 11)), .int (gi (U (B1 + 0)) 15), .ref (a (B1 + 12)), .ref (a (B1 + 13)), .ref (a (B1 + 14)), .int (gi (U (B1 + 0)) 19), gv (U (B1 + 0)) 20, .int (gi (U (B1 + 0)) 21), .int (gi (U (B1 + 0)) 22), .int (gi (U (B1 + 0)) 23), .long (gl (U (B1 + 0)) 24), .int (gi (U (B1 + 0)) 25), .int (gi (U (B1 + 0)) 26), .ref (a (B1 + 15)), .int (gi (U (B1 + 0)) 28)]) from sM_0 hT1) hi

set_option maxHeartbeats 4000000 in
set_option maxRecDepth 100000 in
theorem tk_bpart {p : Program} {l : Launch} {e : Env} {R : Room} {s : State} {m : MethodId} {args : Array Value} {below : List Frame} {meth : Method} {c : Code} {cells slots : Nat} {Q : State → Prop} {D : va_G} {E : Nat → ClassId} {A : Nat → Prop} {G : Nat → Nat} (hx : p.tables.exec = Jvm.exec) (hb : c.code = cX7_takeFrom) (htg : ∀ w ∈ oh_t, w.before args s = true) (hown : s.vm.findClass RX7 = some m.cls) (hml : c.maxLocals = 2) (hK : va_K D vwCl (oh_ty E) s) (hG : oh_G G A s) (hA : ∀ q, s.heap.size ≤ q → A q) (hRf : 2 ≤ R.frames) (hRl : 44 ≤ R.locals) (hRc : cells ≤ R.cells) (hRs : slots ≤ R.slots) {n : Nat} {a : Nat → Nat} {B1 B2 : Nat} (hB : (B1 = 0 ∧ B2 = 74) ∨ (B1 = 74 ∧ B2 = 0)) (hn : 148 ≤ n) {U : Nat → va_E} (hT1 : TyM (shf B1 a) E (shf B1 U)) (hT2 : TyM (shf B2 a) E (shf B2 U)) {H : Heap} {locs : List Loc} {ls : Array Slot} (hP : va_P D vwCl (oh_W n a U) H) (hD : va_D A (oh_W n a U)) (hS : va_S A s.heap H locs) (hl : lv_has ls 2 [(0, .ref (a (B1 + 0))), (1, .ref (a (B2 + 0)))]) (kk : ∀ (U2 : Nat → va_E) (H : Heap) (locs : List Loc), TyM (shf B1 a) E (shf B1 U2) → (∀ k, (k < B1 + 69 ∨ B1 + 69 + 5 ≤ k) → U2 k = U k) → (∀ i, i < 5 → ∃ g : Nat → Int32, U2 (B1 + (69 + i)) = .inl (E 0, 2, .inl g) ∧ ∀ q, q < 2 → g q = ga (U (B2 + (69 + i))) q) → va_P D vwCl (oh_W n a U2) H → va_D A (oh_W n a U2) → va_S A s.heap H locs → W p l e R s m args below meth c H locs cells slots Q (F0 m 76 ls [])) : W p l e R s m args below meth c H locs cells slots Q (F0 m 65 ls []) := by
  refine lv_aload_n hx hb dX7_takeFrom_65 rfl (lv_at hl 1 rfl) ?_
  refine va_get (D := D) (ci := 7) (v := .ref (a (B2 + 12))) (C := RX7) (T := TX7) (N := 29) hx hb htg ig_7 hown hK hP (B2 + 0) (oh_wg (k := B2 + 0) (by omega) (show U (B2 + 0) = .inr (7, [.ref (a (B2 + 1)), .ref (a (B2 + 2)), .ref (a (B2 + 3)), .ref (a (B2 + 4)), .ref (a (B2 + 5)), .ref (a (B2 + 6)), .ref (a (B2 + 7)), .int (gi (U (B2 + 0)) 7), .ref (a (B2 + 8)), .int (gi (U (B2 + 0)) 9), .ref (a (B2 + 9)), .int (gi (U (B2 + 0)) 11), .ref (a (B2 + 10)), .int (gi (U (B2 + 0)) 13), .ref (a (B2 + 11)), .int (gi (U (B2 + 0)) 15), .ref (a (B2 + 12)), .ref (a (B2 + 13)), .ref (a (B2 + 14)), .int (gi (U (B2 + 0)) 19), gv (U (B2 + 0)) 20, .int (gi (U (B2 + 0)) 21), .int (gi (U (B2 + 0)) 22), .int (gi (U (B2 + 0)) 23), .long (gl (U (B2 + 0)) 24), .int (gi (U (B2 + 0)) 25), .int (gi (U (B2 + 0)) 26), .ref (a (B2 + 15)), .int (gi (U (B2 + 0)) 28)]) from sM_0 hT2)) rfl 16 (by decide) (htg _ q_989) (fun _ h9 => h9) rfl dX7_takeFrom_66 ?_
  refine lv_aload_n hx hb dX7_takeFrom_69 rfl (lv_at hl 0 rfl) ?_
  refine va_get (D := D) (ci := 7) (v := .ref (a (B1 + 12))) (C := RX7) (T := TX7) (N := 29) hx hb htg ig_7 hown hK hP (B1 + 0) (oh_wg (k := B1 + 0) (by omega) (show U (B1 + 0) = .inr (7, [.ref (a (B1 + 1)), .ref (a (B1 + 2)), .ref (a (B1 + 3)), .ref (a (B1 + 4)), .ref (a (B1 + 5)), .ref (a (B1 + 6)), .ref (a (B1 + 7)), .int (gi (U (B1 + 0)) 7), .ref (a (B1 + 8)), .int (gi (U (B1 + 0)) 9), .ref (a (B1 + 9)), .int (gi (U (B1 + 0)) 11), .ref (a (B1 + 10)), .int (gi (U (B1 + 0)) 13), .ref (a (B1 + 11)), .int (gi (U (B1 + 0)) 15), .ref (a (B1 + 12)), .ref (a (B1 + 13)), .ref (a (B1 + 14)), .int (gi (U (B1 + 0)) 19), gv (U (B1 + 0)) 20, .int (gi (U (B1 + 0)) 21), .int (gi (U (B1 + 0)) 22), .int (gi (U (B1 + 0)) 23), .long (gl (U (B1 + 0)) 24), .int (gi (U (B1 + 0)) 25), .int (gi (U (B1 + 0)) 26), .ref (a (B1 + 15)), .int (gi (U (B1 + 0)) 28)]) from sM_0 hT1)) rfl 16 (by decide) (htg _ q_989) (fun _ h9 => h9) rfl dX7_takeFrom_70 ?_
  have s1 := (Eq.trans (show U (B2 + 12) = .inl (E 2, 5, .inr (.inr (.inr (.inr (qf (shf B2 a) 5 69))))) from sM_12 hT2) (congrArg (fun f => (.inl (E 2, 5, .inr (.inr (.inr (.inr f)))) : va_E)) qf_sh))
  have s2 := (Eq.trans (show U (B1 + 12) = .inl (E 2, 5, .inr (.inr (.inr (.inr (qf (shf B1 a) 5 69))))) from sM_12 hT1) (congrArg (fun f => (.inl (E 2, 5, .inr (.inr (.inr (.inr f)))) : va_E)) qf_sh))
  have r1 : ∀ i, i < 5 → U (B2 + 69 + i) = .inl (E 0, 2, .inl (ga (U (B2 + 69 + i)))) := fun i hi => by rw [Nat.add_assoc]; exact (hT2.bpart hi).1
  have r2 : ∀ i, i < 5 → U (B1 + 69 + i) = .inl (E 0, 2, .inl (ga (U (B1 + 69 + i)))) := fun i hi => by rw [Nat.add_assoc]; exact (hT1.bpart hi).1
  refine tm_Sv (As := [.ref (a (B2 + 12)), .ref (a (B1 + 12))]) (rest := []) ⟨hx, hb, hml, hown, htg⟩ (c_X7_overAll l D E G _ n a U (B2 + 12) (B1 + 12) (B2 + 69) (B1 + 69) 5 2 (by omega) (by omega) (by omega) (by omega) (by omega) (by omega) (by omega) (fun i hi => by omega) (fun i hi => by omega) s1 s2 r1 r2) (va_cwS 2 htg (oh_gS q_1431 q_1432 q_73 q_1433) rfl rfl rfl pdX7_overAll ⟨by omega, by omega⟩) hK hP hD hG hS hA rfl hl.1 rfl (Nat.le_of_ble_eq_true rfl) dX7_takeFrom_73 ⟨hRc, hRs⟩ (fun U2 H locs hq hP hD hS => ?_)
  have hE : ∀ k, (k < B1 + 69 ∨ B1 + 69 + 5 ≤ k) → U2 k = U k := fun k hk => hq.2 k (fun i hi => by omega)
  have hc : ∀ i, i < 5 → ∃ g : Nat → Int32, U2 (B1 + (69 + i)) = .inl (E 0, 2, .inl g) ∧ ∀ q, q < 2 → g q = ga (U (B2 + (69 + i))) q := fun i hi => by
    obtain ⟨g, h1, h2⟩ := hq.1 i hi
    exact ⟨g, by rw [← Nat.add_assoc]; exact h1, fun q hq => by rw [← Nat.add_assoc]; exact h2 q hq⟩
  exact kk U2 H locs (TyM.cppart hT1 hT2 (fun k hk hn => hE (B1 + k) (by omega)) hc) hE hc hP hD hS

set_option maxHeartbeats 4000000 in
set_option maxRecDepth 100000 in
theorem tk_c13 {p : Program} {l : Launch} {e : Env} {R : Room} {s : State} {m : MethodId} {args : Array Value} {below : List Frame} {meth : Method} {c : Code} {cells slots : Nat} {Q : State → Prop} {D : va_G} {E : Nat → ClassId} {A : Nat → Prop} {G : Nat → Nat} (hx : p.tables.exec = Jvm.exec) (hb : c.code = cX7_takeFrom) (htg : ∀ w ∈ oh_t, w.before args s = true) (hown : s.vm.findClass RX7 = some m.cls) (hml : c.maxLocals = 2) (hK : va_K D vwCl (oh_ty E) s) (hG : oh_G G A s) (hA : ∀ q, s.heap.size ≤ q → A q) (hRf : 2 ≤ R.frames) (hRl : 44 ≤ R.locals) (hRc : cells ≤ R.cells) (hRs : slots ≤ R.slots) {n : Nat} {a : Nat → Nat} {B1 B2 : Nat} (hB : (B1 = 0 ∧ B2 = 74) ∨ (B1 = 74 ∧ B2 = 0)) (hn : 148 ≤ n) {U : Nat → va_E} (hT1 : TyM (shf B1 a) E (shf B1 U)) (hT2 : TyM (shf B2 a) E (shf B2 U)) {H : Heap} {locs : List Loc} {ls : Array Slot} (hP : va_P D vwCl (oh_W n a U) H) (hD : va_D A (oh_W n a U)) (hS : va_S A s.heap H locs) (hl : lv_has ls 2 [(0, .ref (a (B1 + 0))), (1, .ref (a (B2 + 0)))]) (kk : ∀ (U2 : Nat → va_E) (H : Heap) (locs : List Loc), TyM (shf B1 a) E (shf B1 U2) → (∀ k, k ≠ B1 + 13 → U2 k = U k) → (∀ q, q < 3 → ga (U2 (B1 + 13)) q = ga (U (B2 + 13)) q) → va_P D vwCl (oh_W n a U2) H → va_D A (oh_W n a U2) → va_S A s.heap H locs → W p l e R s m args below meth c H locs cells slots Q (F0 m 87 ls [])) : W p l e R s m args below meth c H locs cells slots Q (F0 m 76 ls []) := by
  refine lv_aload_n hx hb dX7_takeFrom_76 rfl (lv_at hl 1 rfl) ?_
  refine va_get (D := D) (ci := 7) (v := .ref (a (B2 + 13))) (C := RX7) (T := TX7) (N := 29) hx hb htg ig_7 hown hK hP (B2 + 0) (oh_wg (k := B2 + 0) (by omega) (show U (B2 + 0) = .inr (7, [.ref (a (B2 + 1)), .ref (a (B2 + 2)), .ref (a (B2 + 3)), .ref (a (B2 + 4)), .ref (a (B2 + 5)), .ref (a (B2 + 6)), .ref (a (B2 + 7)), .int (gi (U (B2 + 0)) 7), .ref (a (B2 + 8)), .int (gi (U (B2 + 0)) 9), .ref (a (B2 + 9)), .int (gi (U (B2 + 0)) 11), .ref (a (B2 + 10)), .int (gi (U (B2 + 0)) 13), .ref (a (B2 + 11)), .int (gi (U (B2 + 0)) 15), .ref (a (B2 + 12)), .ref (a (B2 + 13)), .ref (a (B2 + 14)), .int (gi (U (B2 + 0)) 19), gv (U (B2 + 0)) 20, .int (gi (U (B2 + 0)) 21), .int (gi (U (B2 + 0)) 22), .int (gi (U (B2 + 0)) 23), .long (gl (U (B2 + 0)) 24), .int (gi (U (B2 + 0)) 25), .int (gi (U (B2 + 0)) 26), .ref (a (B2 + 15)), .int (gi (U (B2 + 0)) 28)]) from sM_0 hT2)) rfl 17 (by decide) (htg _ q_990) (fun _ h9 => h9) rfl dX7_takeFrom_77 ?_
  refine lv_aload_n hx hb dX7_takeFrom_80 rfl (lv_at hl 0 rfl) ?_
  refine va_get (D := D) (ci := 7) (v := .ref (a (B1 + 13))) (C := RX7) (T := TX7) (N := 29) hx hb htg ig_7 hown hK hP (B1 + 0) (oh_wg (k := B1 + 0) (by omega) (show U (B1 + 0) = .inr (7, [.ref (a (B1 + 1)), .ref (a (B1 + 2)), .ref (a (B1 + 3)), .ref (a (B1 + 4)), .ref (a (B1 + 5)), .ref (a (B1 + 6)), .ref (a (B1 + 7)), .int (gi (U (B1 + 0)) 7), .ref (a (B1 + 8)), .int (gi (U (B1 + 0)) 9), .ref (a (B1 + 9)), .int (gi (U (B1 + 0)) 11), .ref (a (B1 + 10)), .int (gi (U (B1 + 0)) 13), .ref (a (B1 + 11)), .int (gi (U (B1 + 0)) 15), .ref (a (B1 + 12)), .ref (a (B1 + 13)), .ref (a (B1 + 14)), .int (gi (U (B1 + 0)) 19), gv (U (B1 + 0)) 20, .int (gi (U (B1 + 0)) 21), .int (gi (U (B1 + 0)) 22), .int (gi (U (B1 + 0)) 23), .long (gl (U (B1 + 0)) 24), .int (gi (U (B1 + 0)) 25), .int (gi (U (B1 + 0)) 26), .ref (a (B1 + 15)), .int (gi (U (B1 + 0)) 28)]) from sM_0 hT1)) rfl 17 (by decide) (htg _ q_990) (fun _ h9 => h9) rfl dX7_takeFrom_81 ?_
  refine tm_Sv (As := [.ref (a (B2 + 13)), .ref (a (B1 + 13))]) (rest := []) ⟨hx, hb, hml, hown, htg⟩ (c_X7_over l D E G _ n a U (B2 + 13) (B1 + 13) 3 (by omega) (by omega) (by omega) (by omega) (show U (B2 + 13) = _ from sM_13 hT2) (show U (B1 + 13) = _ from sM_13 hT1)) (va_cwS 2 htg (oh_gS q_1434 q_1435 q_73 q_1436) rfl rfl rfl pdX7_over ⟨show 0 + 1 ≤ R.frames by omega, show 8 + (3 + 11) + 0 ≤ R.locals by omega⟩) hK hP hD hG hS hA rfl hl.1 rfl (Nat.le_of_ble_eq_true rfl) dX7_takeFrom_84 ⟨hRc, hRs⟩ (fun U2 H locs hq hP hD hS => ?_)
  obtain ⟨g, e2, hg⟩ := hq
  refine kk U2 H locs ?_ (fun k hk => th_un e2 hk) (fun q hq => ?_) hP hD hS
  · rw [e2, shf_upd]
    exact hT1.up 13 (by decide) (tA_cp (tM_13 hT2) rfl hg)
  · rw [st_ga e2, hg q hq]

set_option maxHeartbeats 4000000 in
set_option maxRecDepth 100000 in
theorem tk_c14 {p : Program} {l : Launch} {e : Env} {R : Room} {s : State} {m : MethodId} {args : Array Value} {below : List Frame} {meth : Method} {c : Code} {cells slots : Nat} {Q : State → Prop} {D : va_G} {E : Nat → ClassId} {A : Nat → Prop} {G : Nat → Nat} (hx : p.tables.exec = Jvm.exec) (hb : c.code = cX7_takeFrom) (htg : ∀ w ∈ oh_t, w.before args s = true) (hown : s.vm.findClass RX7 = some m.cls) (hml : c.maxLocals = 2) (hK : va_K D vwCl (oh_ty E) s) (hG : oh_G G A s) (hA : ∀ q, s.heap.size ≤ q → A q) (hRf : 2 ≤ R.frames) (hRl : 44 ≤ R.locals) (hRc : cells ≤ R.cells) (hRs : slots ≤ R.slots) {n : Nat} {a : Nat → Nat} {B1 B2 : Nat} (hB : (B1 = 0 ∧ B2 = 74) ∨ (B1 = 74 ∧ B2 = 0)) (hn : 148 ≤ n) {U : Nat → va_E} (hT1 : TyM (shf B1 a) E (shf B1 U)) (hT2 : TyM (shf B2 a) E (shf B2 U)) {H : Heap} {locs : List Loc} {ls : Array Slot} (hP : va_P D vwCl (oh_W n a U) H) (hD : va_D A (oh_W n a U)) (hS : va_S A s.heap H locs) (hl : lv_has ls 2 [(0, .ref (a (B1 + 0))), (1, .ref (a (B2 + 0)))]) (kk : ∀ (U2 : Nat → va_E) (H : Heap) (locs : List Loc), TyM (shf B1 a) E (shf B1 U2) → (∀ k, k ≠ B1 + 14 → U2 k = U k) → (∀ q, q < 7 → ga (U2 (B1 + 14)) q = ga (U (B2 + 14)) q) → va_P D vwCl (oh_W n a U2) H → va_D A (oh_W n a U2) → va_S A s.heap H locs → W p l e R s m args below meth c H locs cells slots Q (F0 m 98 ls [])) : W p l e R s m args below meth c H locs cells slots Q (F0 m 87 ls []) := by
  refine lv_aload_n hx hb dX7_takeFrom_87 rfl (lv_at hl 1 rfl) ?_
  refine va_get (D := D) (ci := 7) (v := .ref (a (B2 + 14))) (C := RX7) (T := TX7) (N := 29) hx hb htg ig_7 hown hK hP (B2 + 0) (oh_wg (k := B2 + 0) (by omega) (show U (B2 + 0) = .inr (7, [.ref (a (B2 + 1)), .ref (a (B2 + 2)), .ref (a (B2 + 3)), .ref (a (B2 + 4)), .ref (a (B2 + 5)), .ref (a (B2 + 6)), .ref (a (B2 + 7)), .int (gi (U (B2 + 0)) 7), .ref (a (B2 + 8)), .int (gi (U (B2 + 0)) 9), .ref (a (B2 + 9)), .int (gi (U (B2 + 0)) 11), .ref (a (B2 + 10)), .int (gi (U (B2 + 0)) 13), .ref (a (B2 + 11)), .int (gi (U (B2 + 0)) 15), .ref (a (B2 + 12)), .ref (a (B2 + 13)), .ref (a (B2 + 14)), .int (gi (U (B2 + 0)) 19), gv (U (B2 + 0)) 20, .int (gi (U (B2 + 0)) 21), .int (gi (U (B2 + 0)) 22), .int (gi (U (B2 + 0)) 23), .long (gl (U (B2 + 0)) 24), .int (gi (U (B2 + 0)) 25), .int (gi (U (B2 + 0)) 26), .ref (a (B2 + 15)), .int (gi (U (B2 + 0)) 28)]) from sM_0 hT2)) rfl 18 (by decide) (htg _ q_991) (fun _ h9 => h9) rfl dX7_takeFrom_88 ?_
  refine lv_aload_n hx hb dX7_takeFrom_91 rfl (lv_at hl 0 rfl) ?_
  refine va_get (D := D) (ci := 7) (v := .ref (a (B1 + 14))) (C := RX7) (T := TX7) (N := 29) hx hb htg ig_7 hown hK hP (B1 + 0) (oh_wg (k := B1 + 0) (by omega) (show U (B1 + 0) = .inr (7, [.ref (a (B1 + 1)), .ref (a (B1 + 2)), .ref (a (B1 + 3)), .ref (a (B1 + 4)), .ref (a (B1 + 5)), .ref (a (B1 + 6)), .ref (a (B1 + 7)), .int (gi (U (B1 + 0)) 7), .ref (a (B1 + 8)), .int (gi (U (B1 + 0)) 9), .ref (a (B1 + 9)), .int (gi (U (B1 + 0)) 11), .ref (a (B1 + 10)), .int (gi (U (B1 + 0)) 13), .ref (a (B1 + 11)), .int (gi (U (B1 + 0)) 15), .ref (a (B1 + 12)), .ref (a (B1 + 13)), .ref (a (B1 + 14)), .int (gi (U (B1 + 0)) 19), gv (U (B1 + 0)) 20, .int (gi (U (B1 + 0)) 21), .int (gi (U (B1 + 0)) 22), .int (gi (U (B1 + 0)) 23), .long (gl (U (B1 + 0)) 24), .int (gi (U (B1 + 0)) 25), .int (gi (U (B1 + 0)) 26), .ref (a (B1 + 15)), .int (gi (U (B1 + 0)) 28)]) from sM_0 hT1)) rfl 18 (by decide) (htg _ q_991) (fun _ h9 => h9) rfl dX7_takeFrom_92 ?_
  refine tm_Sv (As := [.ref (a (B2 + 14)), .ref (a (B1 + 14))]) (rest := []) ⟨hx, hb, hml, hown, htg⟩ (c_X7_over l D E G _ n a U (B2 + 14) (B1 + 14) 7 (by omega) (by omega) (by omega) (by omega) (show U (B2 + 14) = _ from sM_14 hT2) (show U (B1 + 14) = _ from sM_14 hT1)) (va_cwS 2 htg (oh_gS q_1434 q_1435 q_73 q_1436) rfl rfl rfl pdX7_over ⟨show 0 + 1 ≤ R.frames by omega, show 8 + (3 + 11) + 0 ≤ R.locals by omega⟩) hK hP hD hG hS hA rfl hl.1 rfl (Nat.le_of_ble_eq_true rfl) dX7_takeFrom_95 ⟨hRc, hRs⟩ (fun U2 H locs hq hP hD hS => ?_)
  obtain ⟨g, e2, hg⟩ := hq
  refine kk U2 H locs ?_ (fun k hk => th_un e2 hk) (fun q hq => ?_) hP hD hS
  · rw [e2, shf_upd]
    exact hT1.up 14 (by decide) (tA_cp (tM_14 hT2) rfl hg)
  · rw [st_ga e2, hg q hq]

set_option maxHeartbeats 4000000 in
set_option maxRecDepth 100000 in
theorem tk_f19 {p : Program} {l : Launch} {e : Env} {R : Room} {s : State} {m : MethodId} {args : Array Value} {below : List Frame} {meth : Method} {c : Code} {cells slots : Nat} {Q : State → Prop} {D : va_G} {E : Nat → ClassId} {A : Nat → Prop} {G : Nat → Nat} (hx : p.tables.exec = Jvm.exec) (hb : c.code = cX7_takeFrom) (htg : ∀ w ∈ oh_t, w.before args s = true) (hown : s.vm.findClass RX7 = some m.cls) (hml : c.maxLocals = 2) (hK : va_K D vwCl (oh_ty E) s) (hG : oh_G G A s) (hA : ∀ q, s.heap.size ≤ q → A q) (hRf : 2 ≤ R.frames) (hRl : 44 ≤ R.locals) (hRc : cells ≤ R.cells) (hRs : slots ≤ R.slots) {n : Nat} {a : Nat → Nat} {B1 B2 : Nat} (hB : (B1 = 0 ∧ B2 = 74) ∨ (B1 = 74 ∧ B2 = 0)) (hn : 148 ≤ n) {U : Nat → va_E} (hT1 : TyM (shf B1 a) E (shf B1 U)) (hT2 : TyM (shf B2 a) E (shf B2 U)) {H : Heap} {locs : List Loc} {ls : Array Slot} (hP : va_P D vwCl (oh_W n a U) H) (hD : va_D A (oh_W n a U)) (hS : va_S A s.heap H locs) (hl : lv_has ls 2 [(0, .ref (a (B1 + 0))), (1, .ref (a (B2 + 0)))]) (kk : ∀ (U2 : Nat → va_E) (H : Heap) (locs : List Loc), TyM (shf B1 a) E (shf B1 U2) → (∀ k, k ≠ B1 + 0 → U2 k = U k) → (gi (U2 (B1 + 0)) 19 = gi (U (B2 + 0)) 19) → (∀ i, i ≠ 19 → gv (U2 (B1 + 0)) i = gv (U (B1 + 0)) i) → va_P D vwCl (oh_W n a U2) H → va_D A (oh_W n a U2) → va_S A s.heap H locs → W p l e R s m args below meth c H locs cells slots Q (F0 m 106 ls [])) : W p l e R s m args below meth c H locs cells slots Q (F0 m 98 ls []) := by
  refine lv_aload_n hx hb dX7_takeFrom_98 rfl (lv_at hl 0 rfl) ?_
  refine lv_aload_n hx hb dX7_takeFrom_99 rfl (lv_at hl 1 rfl) ?_
  refine va_get (D := D) (ci := 7) (v := .int (gi (U (B2 + 0)) 19)) (C := RX7) (T := TX7) (N := 29) hx hb htg ig_7 hown hK hP (B2 + 0) (oh_wg (k := B2 + 0) (by omega) (show U (B2 + 0) = .inr (7, [.ref (a (B2 + 1)), .ref (a (B2 + 2)), .ref (a (B2 + 3)), .ref (a (B2 + 4)), .ref (a (B2 + 5)), .ref (a (B2 + 6)), .ref (a (B2 + 7)), .int (gi (U (B2 + 0)) 7), .ref (a (B2 + 8)), .int (gi (U (B2 + 0)) 9), .ref (a (B2 + 9)), .int (gi (U (B2 + 0)) 11), .ref (a (B2 + 10)), .int (gi (U (B2 + 0)) 13), .ref (a (B2 + 11)), .int (gi (U (B2 + 0)) 15), .ref (a (B2 + 12)), .ref (a (B2 + 13)), .ref (a (B2 + 14)), .int (gi (U (B2 + 0)) 19), gv (U (B2 + 0)) 20, .int (gi (U (B2 + 0)) 21), .int (gi (U (B2 + 0)) 22), .int (gi (U (B2 + 0)) 23), .long (gl (U (B2 + 0)) 24), .int (gi (U (B2 + 0)) 25), .int (gi (U (B2 + 0)) 26), .ref (a (B2 + 15)), .int (gi (U (B2 + 0)) 28)]) from sM_0 hT2)) rfl 19 (by decide) (htg _ q_992) (fun _ h9 => h9) rfl dX7_takeFrom_100 ?_
  refine th_put (Tp := fun _ => True) (Rl := fun _ => True) (ci := 7) (v := .int (gi (U (B2 + 0)) 19)) (ty := .int) (CC := RX7) (T := TX7) (N := 29) hx hb htg ig_7 tyX7 tyX7_ok nmX7 hown hK hP hD hS (B1 + 0) (by omega) (show U (B1 + 0) = .inr (7, [.ref (a (B1 + 1)), .ref (a (B1 + 2)), .ref (a (B1 + 3)), .ref (a (B1 + 4)), .ref (a (B1 + 5)), .ref (a (B1 + 6)), .ref (a (B1 + 7)), .int (gi (U (B1 + 0)) 7), .ref (a (B1 + 8)), .int (gi (U (B1 + 0)) 9), .ref (a (B1 + 9)), .int (gi (U (B1 + 0)) 11), .ref (a (B1 + 10)), .int (gi (U (B1 + 0)) 13), .ref (a (B1 + 11)), .int (gi (U (B1 + 0)) 15), .ref (a (B1 + 12)), .ref (a (B1 + 13)), .ref (a (B1 + 14)), .int (gi (U (B1 + 0)) 19), gv (U (B1 + 0)) 20, .int (gi (U (B1 + 0)) 21), .int (gi (U (B1 + 0)) 22), .int (gi (U (B1 + 0)) 23), .long (gl (U (B1 + 0)) 24), .int (gi (U (B1 + 0)) 25), .int (gi (U (B1 + 0)) 26), .ref (a (B1 + 15)), .int (gi (U (B1 + 0)) 28)]) from sM_0 hT1) rfl 19 (by decide) (htg _ q_992) (fun _ h9 => h9) rfl (by decide +kernel) rfl rfl (Nat.le_of_ble_eq_true rfl) trivial trivial dX7_takeFrom_103 (fun U2 H locs e2 _ _ hP hD hS => ?_)
  refine kk U2 H locs ?_ (fun k hk => th_un e2 hk) ?_ (fun i hi => ?_) hP hD hS
  · rw [e2, shf_upd]
    exact TyM.pt19 hT1 (show shf B1 U 0 = .inr (7, [.ref (a (B1 + 1)), .ref (a (B1 + 2)), .ref (a (B1 + 3)), .ref (a (B1 + 4)), .ref (a (B1 + 5)), .ref (a (B1 + 6)), .ref (a (B1 + 7)), .int (gi (U (B1 + 0)) 7), .ref (a (B1 + 8)), .int (gi (U (B1 + 0)) 9), .ref (a (B1 + 9)), .int (gi (U (B1 + 0)) 11), .ref (a (B1 + 10)), .int (gi (U (B1 + 0)) 13), .ref (a (B1 + 11)), .int (gi (U (B1 + 0)) 15), .ref (a (B1 + 12)), .ref (a (B1 + 13)), .ref (a (B1 + 14)), .int (gi (U (B1 + 0)) 19), gv (U (B1 + 0)) 20, .int (gi (U (B1 + 0)) 21), .int (gi (U (B1 + 0)) 22), .int (gi (U (B1 + 0)) 23), .long (gl (U (B1 + 0)) 24), .int (gi (U (B1 + 0)) 25), .int (gi (U (B1 + 0)) 26), .ref (a (B1 + 15)), .int (gi (U (B1 + 0)) 28)]) from sM_0 hT1)
  · rw [e2, updc_eq]
    rfl
  · exact gv_st e2 (show U (B1 + 0) = .inr (7, [.ref (a (B1 + 1)), .ref (a (B1 + 2)), .ref (a (B1 + 3)), .ref (a (B1 + 4)), .ref (a (B1 + 5)), .ref (a (B1 + 6)), .ref (a (B1 + 7)), .int (gi (U (B1 + 0)) 7), .ref (a (B1 + 8)), .int (gi (U (B1 + 0)) 9), .ref (a (B1 + 9)), .int (gi (U (B1 + 0)) 11), .ref (a (B1 + 10)), .int (gi (U (B1 + 0)) 13), .ref (a (B1 + 11)), .int (gi (U (B1 + 0)) 15), .ref (a (B1 + 12)), .ref (a (B1 + 13)), .ref (a (B1 + 14)), .int (gi (U (B1 + 0)) 19), gv (U (B1 + 0)) 20, .int (gi (U (B1 + 0)) 21), .int (gi (U (B1 + 0)) 22), .int (gi (U (B1 + 0)) 23), .long (gl (U (B1 + 0)) 24), .int (gi (U (B1 + 0)) 25), .int (gi (U (B1 + 0)) 26), .ref (a (B1 + 15)), .int (gi (U (B1 + 0)) 28)]) from sM_0 hT1) hi

set_option maxHeartbeats 4000000 in
set_option maxRecDepth 100000 in
theorem c_X7_takeFrom (l : Launch) (D : va_G) (E : Nat → ClassId) (G : Nat → Nat) (sz : Nat) (n : Nat) (a : Nat → Nat) (C : Nat → va_E) (B1 B2 : Nat) (hB : (B1 = 0 ∧ B2 = 74) ∨ (B1 = 74 ∧ B2 = 0)) (hn : 148 ≤ n) (hT1 : TyM (shf B1 a) E (shf B1 C)) (hT20 : TyM (shf B2 a) E (shf B2 C)) : Met l yX7_takeFrom (oh_w yX7_takeFrom cX7_takeFrom 2 none) ({ frames := 2, cells := 0, slots := 0, locals := 44 }) (oh_Pm D E G [.ref (a (B1 + 0)), .ref (a (B2 + 0))] (oh_W n a C) sz) (va_Qv (fun (u : Nat → va_E) => TyM (shf B1 a) E (shf B1 u) ∧ (∀ k, k < 74 → u (B2 + k) = C (B2 + k)) ∧ (∀ k, k ≠ 0 → k < 24 → k ≠ 13 → k ≠ 14 → u (B1 + k) = C (B1 + k)) ∧ (∀ i, i ∉ [9, 11, 13, 15, 19] → gv (u (B1 + 0)) i = gv (C (B1 + 0)) i) ∧ gi (u (B1 + 0)) 13 = gi (C (B2 + 0)) 13 ∧ (∀ w, w < 5 → ∀ q, q < 3 → ga (u (B1 + (64 + w))) q = ga (C (B2 + (64 + w))) q) ∧ (∀ q, q < 7 → ga (u (B1 + 14)) q = ga (C (B2 + 14)) q) ∧ (∀ k, 148 ≤ k → u k = C k) ∧ (∀ A : LA, absM (shf B2 C) A → absM (shf B1 u) A) ∧ ∀ T : TP, absTM (shf B2 C) T → absTM (shf B1 u) T) (oh_B D (va_A (oh_W n a C) sz) (fun u => oh_W n a u)) (va_A (oh_W n a C) sz)) 0 0 (va_A (oh_W n a C) sz) := by
  refine Met.ofW (cc := cX7_takeFrom) (maxL := 2) (ret := none) (by decide) rfl ?_
  intro p e s m args below meth c s₁ B hml hv
  obtain ⟨rfl, hsz, hP, hK, hD0, hG⟩ := hv
  have hx := B.exec
  have hb := B.bytes
  have hr := B.returns
  have hts := atoms_spec (ws := (oh_w yX7_takeFrom cX7_takeFrom 2 none)) B.pre
  have htg : ∀ w ∈ oh_t, w.before _ s = true := fun w h => hts w (List.mem_cons_of_mem _ h)
  have hown : s.vm.findClass RX7 = some m.cls := findClass_of_methodNamed B.named
  have hlocks := B.notSynchronized
  subst hsz
  have hD := hD0.self (sz := s.heap.size)
  generalize hAe : va_A (oh_W n a C) s.heap.size = A at hD hG ⊢
  have hA : ∀ q : Nat, s.heap.size ≤ q → A q := fun q h => by rw [← hAe]; exact Or.inr h
  have hS : va_S A s.heap s.heap [] := va_S.rf
  have hl := lv_entry ([.ref (a (B1 + 0)), .ref (a (B2 + 0))]) (n := 2) (Nat.le_of_ble_eq_true rfl)
  rw [lg_entry_eq]
  generalize (lg_sl ([.ref (a (B1 + 0)), .ref (a (B2 + 0))]) ++ List.replicate (2 - (lg_sl ([.ref (a (B1 + 0)), .ref (a (B2 + 0))])).length) Slot.unset).toArray = ls at hl ⊢
  have hl : lv_has ls 2 [(0, .ref (a (B1 + 0))), (1, .ref (a (B2 + 0)))] := hl
  have hT2 := hT20
  have hS2 : ∀ k, k < 74 → C (B2 + k) = C (B2 + k) := fun _ _ => rfl
  have hS2_0 := hS2
  refine tk_f9 hx hb htg hown hml hK hG hA (by decide) (by decide) (by decide) (by decide) hB hn hT1 hT2 hP hD hS hl (fun U1 H locs hT1 hE1 hV1 hFd1 hP hD hS => ?_)
  have hS2o := hS2
  have hS2 : ∀ k, k < 74 → U1 (B2 + k) = C (B2 + k) := fun k hk => Eq.trans (hE1 _ (by omega)) (hS2o k hk)
  have hS2_1 := hS2
  have hT2 : TyM (shf B2 a) E (shf B2 U1) := hT20.congr hS2
  refine tk_broad hx hb htg hown hml hK hG hA (by decide) (by decide) (by decide) (by decide) hB hn hT1 hT2 hP hD hS hl (fun U2 H locs hT1 hE2 hc2 hP hD hS => ?_)
  have hS2o := hS2
  have hS2 : ∀ k, k < 74 → U2 (B2 + k) = C (B2 + k) := fun k hk => Eq.trans (hE2 _ (by omega)) (hS2o k hk)
  have hS2_2 := hS2
  have hT2 : TyM (shf B2 a) E (shf B2 U2) := hT20.congr hS2
  refine tk_f11 hx hb htg hown hml hK hG hA (by decide) (by decide) (by decide) (by decide) hB hn hT1 hT2 hP hD hS hl (fun U3 H locs hT1 hE3 hV3 hFd3 hP hD hS => ?_)
  have hS2o := hS2
  have hS2 : ∀ k, k < 74 → U3 (B2 + k) = C (B2 + k) := fun k hk => Eq.trans (hE3 _ (by omega)) (hS2o k hk)
  have hS2_3 := hS2
  have hT2 : TyM (shf B2 a) E (shf B2 U3) := hT20.congr hS2
  refine tk_bbridge hx hb htg hown hml hK hG hA (by decide) (by decide) (by decide) (by decide) hB hn hT1 hT2 hP hD hS hl (fun U4 H locs hT1 hE4 hc4 hP hD hS => ?_)
  have hS2o := hS2
  have hS2 : ∀ k, k < 74 → U4 (B2 + k) = C (B2 + k) := fun k hk => Eq.trans (hE4 _ (by omega)) (hS2o k hk)
  have hS2_4 := hS2
  have hT2 : TyM (shf B2 a) E (shf B2 U4) := hT20.congr hS2
  refine tk_f13 hx hb htg hown hml hK hG hA (by decide) (by decide) (by decide) (by decide) hB hn hT1 hT2 hP hD hS hl (fun U5 H locs hT1 hE5 hV5 hFd5 hP hD hS => ?_)
  have hS2o := hS2
  have hS2 : ∀ k, k < 74 → U5 (B2 + k) = C (B2 + k) := fun k hk => Eq.trans (hE5 _ (by omega)) (hS2o k hk)
  have hS2_5 := hS2
  have hT2 : TyM (shf B2 a) E (shf B2 U5) := hT20.congr hS2
  refine tk_bwaggon hx hb htg hown hml hK hG hA (by decide) (by decide) (by decide) (by decide) hB hn hT1 hT2 hP hD hS hl (fun U6 H locs hT1 hE6 hc6 hP hD hS => ?_)
  have hS2o := hS2
  have hS2 : ∀ k, k < 74 → U6 (B2 + k) = C (B2 + k) := fun k hk => Eq.trans (hE6 _ (by omega)) (hS2o k hk)
  have hS2_6 := hS2
  have hT2 : TyM (shf B2 a) E (shf B2 U6) := hT20.congr hS2
  refine tk_f15 hx hb htg hown hml hK hG hA (by decide) (by decide) (by decide) (by decide) hB hn hT1 hT2 hP hD hS hl (fun U7 H locs hT1 hE7 hV7 hFd7 hP hD hS => ?_)
  have hS2o := hS2
  have hS2 : ∀ k, k < 74 → U7 (B2 + k) = C (B2 + k) := fun k hk => Eq.trans (hE7 _ (by omega)) (hS2o k hk)
  have hS2_7 := hS2
  have hT2 : TyM (shf B2 a) E (shf B2 U7) := hT20.congr hS2
  refine tk_bpart hx hb htg hown hml hK hG hA (by decide) (by decide) (by decide) (by decide) hB hn hT1 hT2 hP hD hS hl (fun U8 H locs hT1 hE8 hc8 hP hD hS => ?_)
  have hS2o := hS2
  have hS2 : ∀ k, k < 74 → U8 (B2 + k) = C (B2 + k) := fun k hk => Eq.trans (hE8 _ (by omega)) (hS2o k hk)
  have hS2_8 := hS2
  have hT2 : TyM (shf B2 a) E (shf B2 U8) := hT20.congr hS2
  refine tk_c13 hx hb htg hown hml hK hG hA (by decide) (by decide) (by decide) (by decide) hB hn hT1 hT2 hP hD hS hl (fun U9 H locs hT1 hE9 hg9 hP hD hS => ?_)
  have hS2o := hS2
  have hS2 : ∀ k, k < 74 → U9 (B2 + k) = C (B2 + k) := fun k hk => Eq.trans (hE9 _ (by omega)) (hS2o k hk)
  have hS2_9 := hS2
  have hT2 : TyM (shf B2 a) E (shf B2 U9) := hT20.congr hS2
  refine tk_c14 hx hb htg hown hml hK hG hA (by decide) (by decide) (by decide) (by decide) hB hn hT1 hT2 hP hD hS hl (fun U10 H locs hT1 hE10 hg10 hP hD hS => ?_)
  have hS2o := hS2
  have hS2 : ∀ k, k < 74 → U10 (B2 + k) = C (B2 + k) := fun k hk => Eq.trans (hE10 _ (by omega)) (hS2o k hk)
  have hS2_10 := hS2
  have hT2 : TyM (shf B2 a) E (shf B2 U10) := hT20.congr hS2
  refine tk_f19 hx hb htg hown hml hK hG hA (by decide) (by decide) (by decide) (by decide) hB hn hT1 hT2 hP hD hS hl (fun U11 H locs hT1 hE11 hV11 hFd11 hP hD hS => ?_)
  have hS2o := hS2
  have hS2 : ∀ k, k < 74 → U11 (B2 + k) = C (B2 + k) := fun k hk => Eq.trans (hE11 _ (by omega)) (hS2o k hk)
  have hS2_11 := hS2
  have hT2 : TyM (shf B2 a) E (shf B2 U11) := hT20.congr hS2
  have q4 := (show ∀ i, i ∉ [9, 11, 13, 15, 19] → gv (U11 (B1 + 0)) i = gv (C (B1 + 0)) i from (fun i hi => (Eq.trans (hFd11 i (by intro h9; subst h9; exact hi (by decide))) (Eq.trans (congrArg (fun z => gv z i) (hE10 (B1 + 0) (by omega))) (Eq.trans (congrArg (fun z => gv z i) (hE9 (B1 + 0) (by omega))) (Eq.trans (congrArg (fun z => gv z i) (hE8 (B1 + 0) (by omega))) (Eq.trans (hFd7 i (by intro h9; subst h9; exact hi (by decide))) (Eq.trans (congrArg (fun z => gv z i) (hE6 (B1 + 0) (by omega))) (Eq.trans (hFd5 i (by intro h9; subst h9; exact hi (by decide))) (Eq.trans (congrArg (fun z => gv z i) (hE4 (B1 + 0) (by omega))) (Eq.trans (hFd3 i (by intro h9; subst h9; exact hi (by decide))) (Eq.trans (congrArg (fun z => gv z i) (hE2 (B1 + 0) (by omega))) (hFd1 i (by intro h9; subst h9; exact hi (by decide)))))))))))))))
  have q5 := (Eq.trans (congrArg vi (hFd11 13 (by decide))) (Eq.trans (congrArg (fun z => gi z 13) (hE10 (B1 + 0) (by omega))) (Eq.trans (congrArg (fun z => gi z 13) (hE9 (B1 + 0) (by omega))) (Eq.trans (congrArg (fun z => gi z 13) (hE8 (B1 + 0) (by omega))) (Eq.trans (congrArg vi (hFd7 13 (by decide))) (Eq.trans (congrArg (fun z => gi z 13) (hE6 (B1 + 0) (by omega))) (Eq.trans hV5 (congrArg (fun z => gi z 13) (hS2_4 0 (by omega))))))))))
  have q6 : ∀ w, w < 5 → ∀ q, q < 3 → ga (U11 (B1 + (64 + w))) q = ga (C (B2 + (64 + w))) q := (fun w hw q hq => by
    obtain ⟨g, h1, h2⟩ := hc6 w hw
    rw [(Eq.trans (hE11 (B1 + (64 + w)) (by omega)) (Eq.trans (hE10 (B1 + (64 + w)) (by omega)) (Eq.trans (hE9 (B1 + (64 + w)) (by omega)) (Eq.trans (hE8 (B1 + (64 + w)) (by omega)) (hE7 (B1 + (64 + w)) (by omega)))))), h1]
    show g q = _
    rw [h2 q hq, hS2_5 (64 + w) (by omega)])
  have q7 : ∀ q, q < 7 → ga (U11 (B1 + 14)) q = ga (C (B2 + 14)) q := (fun q hq => by
    rw [(hE11 (B1 + 14) (by omega)), hg10 q hq, hS2_9 14 (by omega)])
  have q9 : ∀ A : LA, absM (shf B2 C) A → absM (shf B1 U11) A := fun A hA => absM_cp hA hT20 (all4 (P := fun t => gi (shf B1 U11 0) (9 + 2 * t) = gi (shf B2 C 0) (9 + 2 * t)) (Eq.trans (congrArg vi (hFd11 9 (by decide))) (Eq.trans (congrArg (fun z => gi z 9) (hE10 (B1 + 0) (by omega))) (Eq.trans (congrArg (fun z => gi z 9) (hE9 (B1 + 0) (by omega))) (Eq.trans (congrArg (fun z => gi z 9) (hE8 (B1 + 0) (by omega))) (Eq.trans (congrArg vi (hFd7 9 (by decide))) (Eq.trans (congrArg (fun z => gi z 9) (hE6 (B1 + 0) (by omega))) (Eq.trans (congrArg vi (hFd5 9 (by decide))) (Eq.trans (congrArg (fun z => gi z 9) (hE4 (B1 + 0) (by omega))) (Eq.trans (congrArg vi (hFd3 9 (by decide))) (Eq.trans (congrArg (fun z => gi z 9) (hE2 (B1 + 0) (by omega))) (Eq.trans hV1 (congrArg (fun z => gi z 9) (hS2_0 0 (by omega)))))))))))))) (Eq.trans (congrArg vi (hFd11 11 (by decide))) (Eq.trans (congrArg (fun z => gi z 11) (hE10 (B1 + 0) (by omega))) (Eq.trans (congrArg (fun z => gi z 11) (hE9 (B1 + 0) (by omega))) (Eq.trans (congrArg (fun z => gi z 11) (hE8 (B1 + 0) (by omega))) (Eq.trans (congrArg vi (hFd7 11 (by decide))) (Eq.trans (congrArg (fun z => gi z 11) (hE6 (B1 + 0) (by omega))) (Eq.trans (congrArg vi (hFd5 11 (by decide))) (Eq.trans (congrArg (fun z => gi z 11) (hE4 (B1 + 0) (by omega))) (Eq.trans hV3 (congrArg (fun z => gi z 11) (hS2_2 0 (by omega)))))))))))) (Eq.trans (congrArg vi (hFd11 13 (by decide))) (Eq.trans (congrArg (fun z => gi z 13) (hE10 (B1 + 0) (by omega))) (Eq.trans (congrArg (fun z => gi z 13) (hE9 (B1 + 0) (by omega))) (Eq.trans (congrArg (fun z => gi z 13) (hE8 (B1 + 0) (by omega))) (Eq.trans (congrArg vi (hFd7 13 (by decide))) (Eq.trans (congrArg (fun z => gi z 13) (hE6 (B1 + 0) (by omega))) (Eq.trans hV5 (congrArg (fun z => gi z 13) (hS2_4 0 (by omega)))))))))) (Eq.trans (congrArg vi (hFd11 15 (by decide))) (Eq.trans (congrArg (fun z => gi z 15) (hE10 (B1 + 0) (by omega))) (Eq.trans (congrArg (fun z => gi z 15) (hE9 (B1 + 0) (by omega))) (Eq.trans (congrArg (fun z => gi z 15) (hE8 (B1 + 0) (by omega))) (Eq.trans hV7 (congrArg (fun z => gi z 15) (hS2_6 0 (by omega))))))))) (fun q hq => by
    show ga (U11 (B1 + 13)) q = ga (C (B2 + 13)) q
    rw [(Eq.trans (hE11 (B1 + 13) (by omega)) (hE10 (B1 + 13) (by omega))), hg9 q hq, hS2_8 13 (by omega)]) (all4 (P := fun t => ∀ i, i < blkN t → ∀ q, q < wid t → ga (shf B1 U11 (blk t + i)) q = ga (shf B2 C (blk t + i)) q) (fun w hw q hq => by
    obtain ⟨g, h1, h2⟩ := hc2 w hw
    show ga (U11 (B1 + (24 + w))) q = ga (C (B2 + (24 + w))) q
    rw [(Eq.trans (hE11 (B1 + (24 + w)) (by have hw2 : w < 24 := hw; omega)) (Eq.trans (hE10 (B1 + (24 + w)) (by have hw2 : w < 24 := hw; omega)) (Eq.trans (hE9 (B1 + (24 + w)) (by have hw2 : w < 24 := hw; omega)) (Eq.trans (hE8 (B1 + (24 + w)) (by have hw2 : w < 24 := hw; omega)) (Eq.trans (hE7 (B1 + (24 + w)) (by have hw2 : w < 24 := hw; omega)) (Eq.trans (hE6 (B1 + (24 + w)) (by have hw2 : w < 24 := hw; omega)) (Eq.trans (hE5 (B1 + (24 + w)) (by have hw2 : w < 24 := hw; omega)) (Eq.trans (hE4 (B1 + (24 + w)) (by have hw2 : w < 24 := hw; omega)) (hE3 (B1 + (24 + w)) (by have hw2 : w < 24 := hw; omega)))))))))), h1]
    show g q = _
    rw [h2 q hq, hS2_1 (24 + w) (by have hw2 : w < 24 := hw; omega)]) (fun w hw q hq => by
    obtain ⟨g, h1, h2⟩ := hc4 w hw
    show ga (U11 (B1 + (48 + w))) q = ga (C (B2 + (48 + w))) q
    rw [(Eq.trans (hE11 (B1 + (48 + w)) (by have hw2 : w < 16 := hw; omega)) (Eq.trans (hE10 (B1 + (48 + w)) (by have hw2 : w < 16 := hw; omega)) (Eq.trans (hE9 (B1 + (48 + w)) (by have hw2 : w < 16 := hw; omega)) (Eq.trans (hE8 (B1 + (48 + w)) (by have hw2 : w < 16 := hw; omega)) (Eq.trans (hE7 (B1 + (48 + w)) (by have hw2 : w < 16 := hw; omega)) (Eq.trans (hE6 (B1 + (48 + w)) (by have hw2 : w < 16 := hw; omega)) (hE5 (B1 + (48 + w)) (by have hw2 : w < 16 := hw; omega)))))))), h1]
    show g q = _
    rw [h2 q hq, hS2_3 (48 + w) (by have hw2 : w < 16 := hw; omega)]) (fun w hw q hq => by
    obtain ⟨g, h1, h2⟩ := hc6 w hw
    show ga (U11 (B1 + (64 + w))) q = ga (C (B2 + (64 + w))) q
    rw [(Eq.trans (hE11 (B1 + (64 + w)) (by have hw2 : w < 5 := hw; omega)) (Eq.trans (hE10 (B1 + (64 + w)) (by have hw2 : w < 5 := hw; omega)) (Eq.trans (hE9 (B1 + (64 + w)) (by have hw2 : w < 5 := hw; omega)) (Eq.trans (hE8 (B1 + (64 + w)) (by have hw2 : w < 5 := hw; omega)) (hE7 (B1 + (64 + w)) (by have hw2 : w < 5 := hw; omega)))))), h1]
    show g q = _
    rw [h2 q hq, hS2_5 (64 + w) (by have hw2 : w < 5 := hw; omega)]) (fun w hw q hq => by
    obtain ⟨g, h1, h2⟩ := hc8 w hw
    show ga (U11 (B1 + (69 + w))) q = ga (C (B2 + (69 + w))) q
    rw [(Eq.trans (hE11 (B1 + (69 + w)) (by have hw2 : w < 5 := hw; omega)) (Eq.trans (hE10 (B1 + (69 + w)) (by have hw2 : w < 5 := hw; omega)) (hE9 (B1 + (69 + w)) (by have hw2 : w < 5 := hw; omega)))), h1]
    show g q = _
    rw [h2 q hq, hS2_7 (69 + w) (by have hw2 : w < 5 := hw; omega)]))
  have qT : ∀ T : TP, absTM (shf B2 C) T → absTM (shf B1 U11) T := fun T hT => ⟨fun j hj => Eq.trans (q7 j hj) (hT.1 j hj), Eq.trans (Eq.trans hV11 (congrArg (fun z => gi z 19) (hS2_10 0 (by omega)))) hT.2⟩
  exact W.vret hx hb hr (fun t ht hW => ⟨⟨U11, rfl, ⟨hT1, hS2, (fun k h0 h24 h13 h14 => (Eq.trans (hE11 (B1 + k) (by omega)) (Eq.trans (hE10 (B1 + k) (by omega)) (Eq.trans (hE9 (B1 + k) (by omega)) (Eq.trans (hE8 (B1 + k) (by omega)) (Eq.trans (hE7 (B1 + k) (by omega)) (Eq.trans (hE6 (B1 + k) (by omega)) (Eq.trans (hE5 (B1 + k) (by omega)) (Eq.trans (hE4 (B1 + k) (by omega)) (Eq.trans (hE3 (B1 + k) (by omega)) (Eq.trans (hE2 (B1 + k) (by omega)) (hE1 (B1 + k) (by omega))))))))))))), q4, q5, q6, q7, fun k hk => (Eq.trans (hE11 k (by omega)) (Eq.trans (hE10 k (by omega)) (Eq.trans (hE9 k (by omega)) (Eq.trans (hE8 k (by omega)) (Eq.trans (hE7 k (by omega)) (Eq.trans (hE6 k (by omega)) (Eq.trans (hE5 k (by omega)) (Eq.trans (hE4 k (by omega)) (Eq.trans (hE3 k (by omega)) (Eq.trans (hE2 k (by omega)) (hE1 k (by omega)))))))))))), ⟨q9, qT⟩⟩, ⟨by rw [ht]; exact hP, hD⟩⟩, hS.F ht⟩) hS.2.2 dX7_takeFrom_106
theorem bg_dX7_back_0 : bysAt cX7_back 0 [42, 180, 1, 79, 199, 0, 10, 42, 16, 251, 182, 0, 89, 172, 42, 42, 180, 1, 79, 182, 1, 84, 3, 60, 27] := bysAt_of (by decide +kernel)
theorem dX7_back_0 : decode cX7_back 0 = .ok (.aload_n 0, 1) := o_42 (bg_dX7_back_0 0 42 rfl)
theorem dX7_back_1 : decode cX7_back 1 = .ok (.getfield 335, 3) := o_180 (bg_dX7_back_0 1 180 rfl) (bg_dX7_back_0 2 1 rfl) (bg_dX7_back_0 3 79 rfl)
theorem dX7_back_4 : decode cX7_back 4 = .ok (.ifnonnull 10, 3) := o_199 (bg_dX7_back_0 4 199 rfl) (bg_dX7_back_0 5 0 rfl) (bg_dX7_back_0 6 10 rfl) (by decide +kernel)
theorem dX7_back_7 : decode cX7_back 7 = .ok (.aload_n 0, 1) := o_42 (bg_dX7_back_0 7 42 rfl)
theorem dX7_back_8 : decode cX7_back 8 = .ok (.bipush (-5), 2) := o_16 (bg_dX7_back_0 8 16 rfl) (bg_dX7_back_0 9 251 rfl) (by decide +kernel)
theorem dX7_back_10 : decode cX7_back 10 = .ok (.invokevirtual 89, 3) := o_182 (bg_dX7_back_0 10 182 rfl) (bg_dX7_back_0 11 0 rfl) (bg_dX7_back_0 12 89 rfl)
theorem dX7_back_13 : decode cX7_back 13 = .ok (.ireturn, 1) := o_172 (bg_dX7_back_0 13 172 rfl)
theorem dX7_back_14 : decode cX7_back 14 = .ok (.aload_n 0, 1) := o_42 (bg_dX7_back_0 14 42 rfl)
theorem dX7_back_15 : decode cX7_back 15 = .ok (.aload_n 0, 1) := o_42 (bg_dX7_back_0 15 42 rfl)
theorem dX7_back_16 : decode cX7_back 16 = .ok (.getfield 335, 3) := o_180 (bg_dX7_back_0 16 180 rfl) (bg_dX7_back_0 17 1 rfl) (bg_dX7_back_0 18 79 rfl)
theorem dX7_back_19 : decode cX7_back 19 = .ok (.invokevirtual 340, 3) := o_182 (bg_dX7_back_0 19 182 rfl) (bg_dX7_back_0 20 1 rfl) (bg_dX7_back_0 21 84 rfl)
theorem dX7_back_22 : decode cX7_back 22 = .ok (.iconst 0, 1) := o_3 (bg_dX7_back_0 22 3 rfl)
theorem dX7_back_23 : decode cX7_back 23 = .ok (.istore_n 1, 1) := o_60 (bg_dX7_back_0 23 60 rfl)
theorem dX7_back_24 : decode cX7_back 24 = .ok (.iload_n 1, 1) := o_27 (bg_dX7_back_0 24 27 rfl)
theorem bg_dX7_back_25 : bysAt cX7_back 25 [16, 8, 162, 0, 39, 42, 180, 0, 7, 27, 46, 5, 160, 0, 23, 42, 180, 0, 28, 27, 46, 42, 180, 0, 70] := bysAt_of (by decide +kernel)
theorem dX7_back_25 : decode cX7_back 25 = .ok (.bipush 8, 2) := o_16 (bg_dX7_back_25 0 16 rfl) (bg_dX7_back_25 1 8 rfl) (by decide +kernel)
theorem dX7_back_27 : decode cX7_back 27 = .ok (.if_icmp .ge 39, 3) := o_162 (bg_dX7_back_25 2 162 rfl) (bg_dX7_back_25 3 0 rfl) (bg_dX7_back_25 4 39 rfl) (by decide +kernel)
theorem dX7_back_30 : decode cX7_back 30 = .ok (.aload_n 0, 1) := o_42 (bg_dX7_back_25 5 42 rfl)
theorem dX7_back_31 : decode cX7_back 31 = .ok (.getfield 7, 3) := o_180 (bg_dX7_back_25 6 180 rfl) (bg_dX7_back_25 7 0 rfl) (bg_dX7_back_25 8 7 rfl)
theorem dX7_back_34 : decode cX7_back 34 = .ok (.iload_n 1, 1) := o_27 (bg_dX7_back_25 9 27 rfl)
theorem dX7_back_35 : decode cX7_back 35 = .ok (.iaload, 1) := o_46 (bg_dX7_back_25 10 46 rfl)
theorem dX7_back_36 : decode cX7_back 36 = .ok (.iconst 2, 1) := o_5 (bg_dX7_back_25 11 5 rfl)
theorem dX7_back_37 : decode cX7_back 37 = .ok (.if_icmp .ne 23, 3) := o_160 (bg_dX7_back_25 12 160 rfl) (bg_dX7_back_25 13 0 rfl) (bg_dX7_back_25 14 23 rfl) (by decide +kernel)
theorem dX7_back_40 : decode cX7_back 40 = .ok (.aload_n 0, 1) := o_42 (bg_dX7_back_25 15 42 rfl)
theorem dX7_back_41 : decode cX7_back 41 = .ok (.getfield 28, 3) := o_180 (bg_dX7_back_25 16 180 rfl) (bg_dX7_back_25 17 0 rfl) (bg_dX7_back_25 18 28 rfl)
theorem dX7_back_44 : decode cX7_back 44 = .ok (.iload_n 1, 1) := o_27 (bg_dX7_back_25 19 27 rfl)
theorem dX7_back_45 : decode cX7_back 45 = .ok (.iaload, 1) := o_46 (bg_dX7_back_25 20 46 rfl)
theorem dX7_back_46 : decode cX7_back 46 = .ok (.aload_n 0, 1) := o_42 (bg_dX7_back_25 21 42 rfl)
theorem dX7_back_47 : decode cX7_back 47 = .ok (.getfield 70, 3) := o_180 (bg_dX7_back_25 22 180 rfl) (bg_dX7_back_25 23 0 rfl) (bg_dX7_back_25 24 70 rfl)
theorem bg_dX7_back_50 : bysAt cX7_back 50 [161, 0, 10, 42, 180, 0, 7, 27, 3, 79, 132, 1, 1, 167, 255, 217, 4, 172] := bysAt_of (by decide +kernel)
theorem dX7_back_50 : decode cX7_back 50 = .ok (.if_icmp .lt 10, 3) := o_161 (bg_dX7_back_50 0 161 rfl) (bg_dX7_back_50 1 0 rfl) (bg_dX7_back_50 2 10 rfl) (by decide +kernel)
theorem dX7_back_53 : decode cX7_back 53 = .ok (.aload_n 0, 1) := o_42 (bg_dX7_back_50 3 42 rfl)
theorem dX7_back_54 : decode cX7_back 54 = .ok (.getfield 7, 3) := o_180 (bg_dX7_back_50 4 180 rfl) (bg_dX7_back_50 5 0 rfl) (bg_dX7_back_50 6 7 rfl)
theorem dX7_back_57 : decode cX7_back 57 = .ok (.iload_n 1, 1) := o_27 (bg_dX7_back_50 7 27 rfl)
theorem dX7_back_58 : decode cX7_back 58 = .ok (.iconst 0, 1) := o_3 (bg_dX7_back_50 8 3 rfl)
theorem dX7_back_59 : decode cX7_back 59 = .ok (.iastore, 1) := o_79 (bg_dX7_back_50 9 79 rfl)
theorem dX7_back_63 : decode cX7_back 63 = .ok (.goto (-39), 3) := o_167 (bg_dX7_back_50 13 167 rfl) (bg_dX7_back_50 14 255 rfl) (bg_dX7_back_50 15 217 rfl) (by decide +kernel)
theorem dX7_back_66 : decode cX7_back 66 = .ok (.iconst 1, 1) := o_4 (bg_dX7_back_50 16 4 rfl)
theorem dX7_back_67 : decode cX7_back 67 = .ok (.ireturn, 1) := o_172 (bg_dX7_back_50 17 172 rfl)
theorem bg_dX7_image_0 : bysAt cX7_image 0 [42, 180, 1, 79, 199, 0, 14, 42, 187, 0, 8, 89, 183, 1, 83, 181, 1, 79, 42, 180, 1, 79, 42, 182, 1, 84, 4, 172] := bysAt_of (by decide +kernel)
theorem dX7_image_0 : decode cX7_image 0 = .ok (.aload_n 0, 1) := o_42 (bg_dX7_image_0 0 42 rfl)
theorem dX7_image_1 : decode cX7_image 1 = .ok (.getfield 335, 3) := o_180 (bg_dX7_image_0 1 180 rfl) (bg_dX7_image_0 2 1 rfl) (bg_dX7_image_0 3 79 rfl)
theorem dX7_image_4 : decode cX7_image 4 = .ok (.ifnonnull 14, 3) := o_199 (bg_dX7_image_0 4 199 rfl) (bg_dX7_image_0 5 0 rfl) (bg_dX7_image_0 6 14 rfl) (by decide +kernel)
theorem dX7_image_7 : decode cX7_image 7 = .ok (.aload_n 0, 1) := o_42 (bg_dX7_image_0 7 42 rfl)
theorem dX7_image_8 : decode cX7_image 8 = .ok (.new 8, 3) := o_187 (bg_dX7_image_0 8 187 rfl) (bg_dX7_image_0 9 0 rfl) (bg_dX7_image_0 10 8 rfl)
theorem dX7_image_11 : decode cX7_image 11 = .ok (.dup, 1) := o_89 (bg_dX7_image_0 11 89 rfl)
theorem dX7_image_12 : decode cX7_image 12 = .ok (.invokespecial 339, 3) := o_183 (bg_dX7_image_0 12 183 rfl) (bg_dX7_image_0 13 1 rfl) (bg_dX7_image_0 14 83 rfl)
theorem dX7_image_15 : decode cX7_image 15 = .ok (.putfield 335, 3) := o_181 (bg_dX7_image_0 15 181 rfl) (bg_dX7_image_0 16 1 rfl) (bg_dX7_image_0 17 79 rfl)
theorem dX7_image_18 : decode cX7_image 18 = .ok (.aload_n 0, 1) := o_42 (bg_dX7_image_0 18 42 rfl)
theorem dX7_image_19 : decode cX7_image 19 = .ok (.getfield 335, 3) := o_180 (bg_dX7_image_0 19 180 rfl) (bg_dX7_image_0 20 1 rfl) (bg_dX7_image_0 21 79 rfl)
theorem dX7_image_22 : decode cX7_image 22 = .ok (.aload_n 0, 1) := o_42 (bg_dX7_image_0 22 42 rfl)
theorem dX7_image_23 : decode cX7_image 23 = .ok (.invokevirtual 340, 3) := o_182 (bg_dX7_image_0 23 182 rfl) (bg_dX7_image_0 24 1 rfl) (bg_dX7_image_0 25 84 rfl)
theorem dX7_image_26 : decode cX7_image 26 = .ok (.iconst 1, 1) := o_4 (bg_dX7_image_0 26 4 rfl)
theorem dX7_image_27 : decode cX7_image 27 = .ok (.ireturn, 1) := o_172 (bg_dX7_image_0 27 172 rfl)
theorem pdVX7_takeFrom : yX7_takeFrom.cls = RX7 ∧ yX7_takeFrom.cls ≠ "java/lang/invoke/MethodHandle" ∧ yX7_takeFrom.cls ≠ "java/lang/invoke/VarHandle" ∧ (parseMethodDescriptor yX7_takeFrom.desc).map (fun d => d.parameters.length) = some 1 := by decide +kernel
theorem dX7_back_60 : decode cX7_back 60 = .ok (.iinc 1 1, 3) := by decide +kernel
