theorem lc_v {A : LA} (h : okA A) {w s f t n : Int32} (h0 : rg w 0 4) (hl : w < A 5 0 2) (hn : rg n 0 20) (hf : rg f 0 15) (ht : rg t 0 15) (q : hasW (EcA A w s n) f.toNatClampNeg t.toNatClampNeg) : rg (Int32.ofNat (lsN (EcA A w s n) f.toNatClampNeg t.toNatClampNeg) + n * sumA A s 1 (A 5 0 3).toNatClampNeg) 0 900009900 := by
  have h1 := ec_fin h s h0 hl hn (p16 hf) _ _ (p16 ht) (lsN_s q)
  have h2 : rg (Int32.ofNat (lsN (EcA A w s n) f.toNatClampNeg t.toNatClampNeg)) 0 900000000 := by
    have e : (Int32.ofNat (lsN (EcA A w s n) f.toNatClampNeg t.toNatClampNeg)).toInt = ((lsN (EcA A w s n) f.toNatClampNeg t.toNatClampNeg : Nat) : Int) := nI_toInt (by omega)
    exact ⟨by rw [e]; omega, by rw [e]; omega⟩
  exact rg_add h2 (rg_mul2 hn (sumA_r h s (col := 1) (by decide)) (hi := 9900) (by decide)) (by decide)
theorem lc_st {A : LA} (h : okA A) {w s f t n r : Int32} (h0 : rg w 0 4) (hl : w < A 5 0 2) (hn : rg n 0 20) (hf : rg f 0 15) (ht : rg t 0 15) (e : r = lcA A w s f t n) : pif (r = 1000000000) (-5) r = pif (hasW (EcA A w s n) f.toNatClampNeg t.toNatClampNeg) (Int32.ofNat (lsN (EcA A w s n) f.toNatClampNeg t.toNatClampNeg) + n * sumA A s 1 (A 5 0 3).toNatClampNeg) (-5) := by
  by_cases q : hasW (EcA A w s n) f.toNatClampNeg t.toNatClampNeg
  · have v := lc_v h h0 hl hn hf ht q
    rw [pif_pos q, e, show lcA A w s f t n = _ from pif_pos q]
    refine pif_neg (fun z => ?_)
    rw [z] at v
    exact absurd v.2 (by decide)
  · rw [pif_neg q, e, show lcA A w s f t n = _ from pif_neg q]
    exact pif_pos rfl
theorem mc_st {A : LA} (h : okA A) {w s f t n r : Int32} (h0 : rg w 0 4) (hl : w < A 5 0 2) (hn : rg n 0 20) (hf : rg f 0 15) (ht : rg t 0 15) (e : r = mcA A w s f t n) : pif (r = -1) (-5) r = pif (hasW (EcA A w s n) f.toNatClampNeg t.toNatClampNeg) (Int32.ofNat (lsN (EcA A w s n) f.toNatClampNeg t.toNatClampNeg) + n * sumA A s 1 (A 5 0 3).toNatClampNeg) (-5) := by
  by_cases q : hasW (EcA A w s n) f.toNatClampNeg t.toNatClampNeg
  · have v := lc_v h h0 hl hn hf ht q
    rw [pif_pos q, e, show mcA A w s f t n = _ from pif_pos q]
    refine pif_neg (fun z => ?_)
    rw [z] at v
    exact absurd v.1 (by decide)
  · rw [pif_neg q, e, show mcA A w s f t n = _ from pif_neg q]
    exact pif_pos rfl
theorem ld_st {A : LA} (h : okA A) {w s f t r : Int32} (hf : rg f 0 15) (ht : rg t 0 15) (e : r = ldA A w s f t) : pif (r = 1000000000) (-5) r = pif (hasW (EdyA A w s) f.toNatClampNeg t.toNatClampNeg) (Int32.ofNat (lsN (EdyA A w s) f.toNatClampNeg t.toNatClampNeg)) (-5) := by
  by_cases q : hasW (EdyA A w s) f.toNatClampNeg t.toNatClampNeg
  · have h1 := ed_fin h w s (p16 hf) _ _ (p16 ht) (lsN_s q)
    rw [pif_pos q, e, show ldA A w s f t = _ from pif_pos q]
    refine pif_neg (fun z => ?_)
    have z2 := congrArg Int32.toInt z
    rw [show (Int32.ofNat (lsN (EdyA A w s) f.toNatClampNeg t.toNatClampNeg)).toInt = ((lsN (EdyA A w s) f.toNatClampNeg t.toNatClampNeg : Nat) : Int) from nI_toInt (by omega), show (1000000000 : Int32).toInt = 1000000000 from rfl] at z2
    omega
  · rw [pif_neg q, e, show ldA A w s f t = _ from pif_neg q]
    exact pif_pos rfl

set_option maxHeartbeats 4000000 in
set_option maxRecDepth 100000 in
theorem e_X6_goes (l : Launch) (D : va_G) (E : Nat → ClassId) (G : Nat → Nat) (sz : Nat) (a : Nat → Nat) (C : Nat → va_E) (hT : TyX a E C) (x1 : Int32) (x2 : Int32) (x3 : Int32) (x4 : Int32) : Met l yX6_goes (oh_w yX6_goes cX6_goes 5 (some .int)) ({ frames := 4, cells := 0, slots := 0, locals := 100 }) (oh_Pm D E G [.ref (a 0), .int x1, .int x2, .int x3, .int x4] (oh_W 35 a C) sz) (va_Qi (fun r (u : Nat → va_E) => TyX a E u ∧ fr [(7, 8), (9, 10), (24, 26)] [] C u ∧ (∀ A : LA, absX 10 C A → okA A → r = spGoes A x1 x2 x3 x4)) (oh_B D (va_A (oh_W 35 a C) sz) (fun u => oh_W 35 a u)) (va_A (oh_W 35 a C) sz)) 0 0 (va_A (oh_W 35 a C) sz) := by
  refine Met.ofW (cc := cX6_goes) (maxL := 5) (ret := (some .int)) (by decide) rfl ?_
  intro p e s m args below meth c s₁ B hml hv
  obtain ⟨rfl, hsz, hP, hK, hD0, hG⟩ := hv
  have hx := B.exec
  have hb := B.bytes
  have hr := B.returns
  have hts := atoms_spec (ws := (oh_w yX6_goes cX6_goes 5 (some .int))) B.pre
  have htg : ∀ w ∈ oh_t, w.before _ s = true := fun w h => hts w (List.mem_cons_of_mem _ h)
  have hown : s.vm.findClass RX6 = some m.cls := findClass_of_methodNamed B.named
  have hlocks := B.notSynchronized
  have hT0 := hT
  subst hsz
  have hD := hD0.self (sz := s.heap.size)
  generalize hAe : va_A (oh_W 35 a C) s.heap.size = A at hD hG ⊢
  have hA : ∀ q : Nat, s.heap.size ≤ q → A q := fun q h => by rw [← hAe]; exact Or.inr h
  have hS : va_S A s.heap s.heap [] := va_S.rf
  have hF : fr [(7, 8), (9, 10), (24, 26)] [] C C := fr_rf
  have hl := lv_entry ([.ref (a 0), .int x1, .int x2, .int x3, .int x4]) (n := 5) (Nat.le_of_ble_eq_true rfl)
  rw [lg_entry_eq]
  generalize (lg_sl ([.ref (a 0), .int x1, .int x2, .int x3, .int x4]) ++ List.replicate (5 - (lg_sl ([.ref (a 0), .int x1, .int x2, .int x3, .int x4])).length) Slot.unset).toArray = ls at hl ⊢
  have hl : lv_has ls 5 [(0, .ref (a 0)), (1, .int x1), (2, .int x2), (3, .int x3), (4, .int x4)] := hl
  refine oh_genQ (fun Q hQ => ?_)
  refine lv_aload_n hx hb dX6_goes_0 rfl (lv_at hl 0 rfl) ?_
  refine lv_iload_n hx hb dX6_goes_1 rfl (lv_at hl 1 rfl) ?_
  refine lv_iload_n hx hb dX6_goes_2 rfl (lv_at hl 2 rfl) ?_
  refine tq_V (As := [.int x1, .int x2]) (rest := []) (ws := (oh_W 35 a C)) ⟨hx, hb, hml, hown, htg⟩ (e_X6_isPack l D E G a C hT x1 x2) (cwV 2 htg (oh_gV q_695 q_697 q_16 q_66 q_698) rfl rfl rfl pdVX6_isPack ⟨Nat.le_of_ble_eq_true rfl, Nat.le_of_ble_eq_true rfl⟩) hK hP hG hS (va_recv hK hP (ci := 6) (q0 := 0) rfl (oh_wg (by decide) (sX_0 hT))) rfl hl.1 rfl (Nat.le_of_ble_eq_true rfl) dX6_goes_3 ⟨Nat.le_of_ble_eq_true rfl, Nat.le_of_ble_eq_true rfl⟩ (fun r_1 hq_2 => ?_)
  refine lv_if_eq (tgt := 27) hx hb dX6_goes_6 (by decide) (fun (c_3 : r_1 = 0) => ?_) (fun (c_3 : ¬ (r_1 = 0)) => ?_)
  · have u_4 := hq_2.2.2 c_3
    refine lv_aload_n hx hb dX6_goes_27 rfl (lv_at hl 0 rfl) ?_
    refine lv_bipush (v := (-2)) hx hb dX6_goes_28 (by decide) ?_
    refine tm_V (As := [.int (-2)]) (rest := []) ⟨hx, hb, hml, hown, htg⟩ (c_X6_refuse l D E G _ a C hT ((-2) : Int32)) (cwV 1 htg (oh_gV q_296 q_298 q_0 q_66 q_299) rfl rfl rfl pdVX6_refuse ⟨Nat.le_of_ble_eq_true rfl, Nat.le_of_ble_eq_true rfl⟩) hK hP hD hG hS hA (va_recv hK hP (ci := 6) (q0 := 0) rfl (oh_wg (by decide) (sX_0 hT))) rfl hl.1 rfl (Nat.le_of_ble_eq_true rfl) dX6_goes_30 ⟨Nat.le_of_ble_eq_true rfl, Nat.le_of_ble_eq_true rfl⟩ (fun r_5 C_6 H locs hq_7 hP hD hS => ?_)
    obtain ⟨hT, f_8, hq_7⟩ := hq_7
    have hF := fr_tr hF f_8 (by decide) (by decide)
    refine W.widen (k := 0) (n := 0) (Nat.le_refl _) (Nat.le_refl _) ?_
    have t_9 := hT
    rw [hQ]
    exact W.iret (v := r_5) hx hb hr (fun t ht hW => ⟨⟨r_5, C_6, rfl, ⟨hT, hF, (fun A hA hok => Eq.trans hq_7 (pif_neg (fun h8 => (show ¬ okPk (A 5 0 2) (A 5 0 3) x1 x2 by rw [← (show ga (C 10) ((2 : Int32)).toNatClampNeg = A 5 0 2 from hA.1 2 (by decide)), ← (show ga (C 10) ((3 : Int32)).toNatClampNeg = A 5 0 3 from hA.1 3 (by decide))]; exact u_4) h8.1)).symm)⟩, ⟨by rw [ht]; exact hP, hD⟩⟩, hS.F ht⟩) hS.2.2 dX6_goes_33
  · have u_10 := hq_2.2.1 c_3
    refine lv_aload_n hx hb dX6_goes_9 rfl (lv_at hl 0 rfl) ?_
    refine lv_iload_n hx hb dX6_goes_10 rfl (lv_at hl 3 rfl) ?_
    refine tq_V (As := [.int x3]) (rest := []) (ws := (oh_W 35 a C)) ⟨hx, hb, hml, hown, htg⟩ (e_X6_isRoad l D E G a C hT x3) (cwV 1 htg (oh_gV q_428 q_430 q_5 q_66 q_431) rfl rfl rfl pdVX6_isRoad ⟨Nat.le_of_ble_eq_true rfl, Nat.le_of_ble_eq_true rfl⟩) hK hP hG hS (va_recv hK hP (ci := 6) (q0 := 0) rfl (oh_wg (by decide) (sX_0 hT))) rfl hl.1 rfl (Nat.le_of_ble_eq_true rfl) dX6_goes_11 ⟨Nat.le_of_ble_eq_true rfl, Nat.le_of_ble_eq_true rfl⟩ (fun r_11 hq_12 => ?_)
    refine lv_if_eq (tgt := 27) hx hb dX6_goes_14 (by decide) (fun (c_13 : r_11 = 0) => ?_) (fun (c_13 : ¬ (r_11 = 0)) => ?_)
    · have u_14 := hq_12.2.2 c_13
      refine lv_aload_n hx hb dX6_goes_27 rfl (lv_at hl 0 rfl) ?_
      refine lv_bipush (v := (-2)) hx hb dX6_goes_28 (by decide) ?_
      refine tm_V (As := [.int (-2)]) (rest := []) ⟨hx, hb, hml, hown, htg⟩ (c_X6_refuse l D E G _ a C hT ((-2) : Int32)) (cwV 1 htg (oh_gV q_296 q_298 q_0 q_66 q_299) rfl rfl rfl pdVX6_refuse ⟨Nat.le_of_ble_eq_true rfl, Nat.le_of_ble_eq_true rfl⟩) hK hP hD hG hS hA (va_recv hK hP (ci := 6) (q0 := 0) rfl (oh_wg (by decide) (sX_0 hT))) rfl hl.1 rfl (Nat.le_of_ble_eq_true rfl) dX6_goes_30 ⟨Nat.le_of_ble_eq_true rfl, Nat.le_of_ble_eq_true rfl⟩ (fun r_15 C_16 H locs hq_17 hP hD hS => ?_)
      obtain ⟨hT, f_18, hq_17⟩ := hq_17
      have hF := fr_tr hF f_18 (by decide) (by decide)
      refine W.widen (k := 0) (n := 0) (Nat.le_refl _) (Nat.le_refl _) ?_
      have t_19 := hT
      rw [hQ]
      exact W.iret (v := r_15) hx hb hr (fun t ht hW => ⟨⟨r_15, C_16, rfl, ⟨hT, hF, (fun A hA hok => Eq.trans hq_17 (pif_neg (fun h8 => by have h7 := h8.2.1; rw [← (show ga (C 10) ((0 : Int32)).toNatClampNeg = A 5 0 0 from hA.1 0 (by decide))] at h7; exact u_14 h7)).symm)⟩, ⟨by rw [ht]; exact hP, hD⟩⟩, hS.F ht⟩) hS.2.2 dX6_goes_33
    · have u_20 := hq_12.2.1 c_13
      refine lv_iload hx hb dX6_goes_17 (lv_at hl 4 rfl) ?_
      refine lv_iconst (v := 0) hx hb dX6_goes_19 (by decide) ?_
      refine lv_iconst (v := 4) hx hb dX6_goes_20 (by decide) ?_
      refine tq_S (As := [.int x4, .int 0, .int 4]) (rest := []) (ws := []) ⟨hx, hb, hml, hown, htg⟩ (c_X6_within l D E G x4 (0 : Int32) (4 : Int32)) (va_cwS 3 htg (oh_gS q_293 q_294 q_66 q_295) rfl rfl rfl pdX6_within ⟨Nat.le_of_ble_eq_true rfl, Nat.le_of_ble_eq_true rfl⟩) hK va_nil hG hS rfl hl.1 rfl (Nat.le_of_ble_eq_true rfl) dX6_goes_21 ⟨Nat.le_of_ble_eq_true rfl, Nat.le_of_ble_eq_true rfl⟩ (fun r_21 hq_22 => ?_)
      refine lv_if_ne (tgt := 34) hx hb dX6_goes_24 (by decide) (fun (c_23 : ¬ (r_21 = 0)) => ?_) (fun (c_23 : r_21 = 0) => ?_)
      · have u_24 := hq_22.2.1 c_23
        refine lv_aload_n hx hb dX6_goes_34 rfl (lv_at hl 0 rfl) ?_
        refine va_get (D := D) (ci := 6) (v := .ref (a 3)) (C := RX6) (T := TX6) (N := 9) hx hb htg ig_6 hown hK hP 0 (oh_wg (by decide) (sX_0 hT)) rfl 3 (by decide) (htg _ q_261) (fun _ h9 => h9) rfl dX6_goes_35 ?_
        refine lv_iload_n hx hb dX6_goes_38 rfl (lv_at hl 1 rfl) ?_
        refine lv_iload_n hx hb dX6_goes_39 rfl (lv_at hl 2 rfl) ?_
        refine tm_Vv (As := [.int x1, .int x2]) (rest := []) ⟨hx, hb, hml, hown, htg⟩ (e_X5_survey l D E G _ a C hT x1 x2 (rg_w u_10.1 (by decide))) (cwV 2 htg (oh_gV q_750 q_751 q_752 q_68 q_753) rfl rfl rfl pdVX5_survey ⟨Nat.le_of_ble_eq_true rfl, Nat.le_of_ble_eq_true rfl⟩) hK hP hD hG hS hA (va_recv hK hP (ci := 5) (q0 := 3) rfl (oh_wg (by decide) (sX_3 hT))) rfl hl.1 rfl (Nat.le_of_ble_eq_true rfl) dX6_goes_40 ⟨Nat.le_of_ble_eq_true rfl, Nat.le_of_ble_eq_true rfl⟩ (fun C_26 H locs hq_27 hP hD hS => ?_)
        obtain ⟨hT, f_28, hq_27⟩ := hq_27
        have hF := fr_tr hF f_28 (by decide) (by decide)
        refine W.widen (k := 0) (n := 0) (Nat.le_refl _) (Nat.le_refl _) ?_
        have t_29 := hT
        refine lv_iload hx hb dX6_goes_43 (lv_at hl 4 rfl) ?_
        refine lv_if_ne (tgt := 67) hx hb dX6_goes_45 (by decide) (fun (c_30 : ¬ (x4 = 0)) => ?_) (fun (c_30 : x4 = 0) => ?_)
        · refine lv_iload hx hb dX6_goes_67 (lv_at hl 4 rfl) ?_
          refine lv_iconst (v := 3) hx hb dX6_goes_69 (by decide) ?_
          refine lv_icmp_ne (tgt := 82) hx hb dX6_goes_70 (by decide) (fun (c_31 : ¬ (x4 = 3)) => ?_) (fun (c_31 : x4 = 3) => ?_)
          · refine lv_aload_n hx hb dX6_goes_82 rfl (lv_at hl 0 rfl) ?_
            refine va_get (D := D) (ci := 6) (v := .ref (a 3)) (C := RX6) (T := TX6) (N := 9) hx hb htg ig_6 hown hK hP 0 (oh_wg (by decide) (sX_0 hT)) rfl 3 (by decide) (htg _ q_261) (fun _ h9 => h9) rfl dX6_goes_83 ?_
            refine va_get (D := D) (ci := 5) (v := .ref (a 24)) (C := RX5) (T := TX5) (N := 7) hx hb htg ig_5 hown hK hP 3 (oh_wg (by decide) (sX_3 hT)) rfl 2 (by decide) (htg _ q_171) (fun _ h9 => h9) rfl dX6_goes_86 ?_
            refine lv_iload_n hx hb dX6_goes_89 rfl (lv_at hl 3 rfl) ?_
            have n_32 : vp_in x3 24 := (rg_in u_20.1 (by decide))
            refine th_iald hx hb hK hP 24 (by decide) (sX_24 hT) n_32 dX6_goes_90 ?_
            refine lv_iconst (v := (-1)) hx hb dX6_goes_91 (by decide) ?_
            refine lv_icmp_ne (tgt := 102) hx hb dX6_goes_92 (by decide) (fun (c_33 : ¬ ((ga (C_26 24) (x3).toNatClampNeg) = (-1))) => ?_) (fun (c_33 : (ga (C_26 24) (x3).toNatClampNeg) = (-1)) => ?_)
            · refine lv_iload hx hb dX6_goes_102 (lv_at hl 4 rfl) ?_
              refine lv_iconst (v := 1) hx hb dX6_goes_104 (by decide) ?_
              refine lv_icmp_ne (tgt := 118) hx hb dX6_goes_105 (by decide) (fun (c_34 : ¬ (x4 = 1)) => ?_) (fun (c_34 : x4 = 1) => ?_)
              · refine lv_iload hx hb dX6_goes_118 (lv_at hl 4 rfl) ?_
                refine lv_iconst (v := 2) hx hb dX6_goes_120 (by decide) ?_
                refine lv_icmp_ne (tgt := 135) hx hb dX6_goes_121 (by decide) (fun (c_35 : ¬ (x4 = 2)) => ?_) (fun (c_35 : x4 = 2) => ?_)
                · refine lv_aload_n hx hb dX6_goes_135 rfl (lv_at hl 0 rfl) ?_
                  refine va_get (D := D) (ci := 6) (v := .ref (a 3)) (C := RX6) (T := TX6) (N := 9) hx hb htg ig_6 hown hK hP 0 (oh_wg (by decide) (sX_0 hT)) rfl 3 (by decide) (htg _ q_261) (fun _ h9 => h9) rfl dX6_goes_136 ?_
                  refine va_get (D := D) (ci := 5) (v := .ref (a 24)) (C := RX5) (T := TX5) (N := 7) hx hb htg ig_5 hown hK hP 3 (oh_wg (by decide) (sX_3 hT)) rfl 2 (by decide) (htg _ q_171) (fun _ h9 => h9) rfl dX6_goes_139 ?_
                  refine lv_iload_n hx hb dX6_goes_142 rfl (lv_at hl 3 rfl) ?_
                  have n_36 : vp_in x3 24 := (rg_in u_20.1 (by decide))
                  refine th_iald hx hb hK hP 24 (by decide) (sX_24 hT) n_36 dX6_goes_143 ?_
                  rw [hQ]
                  exact W.iret (v := ga (C_26 24) (x3).toNatClampNeg) hx hb hr (fun t ht hW => ⟨⟨ga (C_26 24) (x3).toNatClampNeg, C_26, rfl, ⟨hT, hF, (fun A hA hok => by have hp := (show okPk (A 5 0 2) (A 5 0 3) x1 x2 by rw [← (show ga (C 10) ((2 : Int32)).toNatClampNeg = A 5 0 2 from hA.1 2 (by decide)), ← (show ga (C 10) ((3 : Int32)).toNatClampNeg = A 5 0 3 from hA.1 3 (by decide))]; exact u_10.2); have h3 : 0 ≤ x3 ∧ x3 < A 5 0 0 := (by rw [← (show ga (C 10) ((0 : Int32)).toNatClampNeg = A 5 0 0 from hA.1 0 (by decide))]; exact u_20.2); have hs : svX C_26 A x1 x2 := hq_27 A hA hp.1.2; have i3 : rg x3 0 23 := (rg_w (lo := 0) (hi := 23) u_20.1 (by decide)); have hr := n0_lt i3 h3.2; have hK := (absX_eq hA (fr_all f_28 10 15 (by decide))); have hg : gsA A x1 x2 x3.toNatClampNeg := Classical.byContradiction (fun q => c_33 ((sv_g hs.2 hr hok.n16).mpr q)); exact Eq.trans ((hs.2 _ hr).1 hg).1 ((Eq.trans (pif_pos ⟨hp, h3, (oh_rgI (p := 0) (q := 4) (rg_w (lo := 0) (hi := 4) (rn_nel (l' := 4) c_31 (rn_nel (l' := 3) c_35 (rn_nel (l' := 2) c_34 (rn_nel (l' := 1) c_30 (rn_leu u_24.2 (rn_lel u_24.1 (rg_c (v := 0) (lo := 0) (hi := 0) (by decide)) (rg_any _)) (rg_c (v := 4) (lo := 4) (hi := 4) (by decide))) (rg_c (v := 0) (lo := 0) (hi := 0) (by decide)) (by decide)) (rg_c (v := 1) (lo := 1) (hi := 1) (by decide)) (by decide)) (rg_c (v := 2) (lo := 2) (hi := 2) (by decide)) (by decide)) (rg_c (v := 3) (lo := 3) (hi := 3) (by decide)) (by decide)) (by decide)))⟩) (Eq.trans (pif_neg c_30) (Eq.trans (pif_neg c_31) (Eq.trans (pif_pos hg) (Eq.trans (pif_neg c_34) (pif_neg c_35))))))).symm)⟩, ⟨by rw [ht]; exact hP, hD⟩⟩, hS.F ht⟩) hS.2.2 dX6_goes_144
                · refine lv_aload_n hx hb dX6_goes_124 rfl (lv_at hl 0 rfl) ?_
                  refine va_get (D := D) (ci := 6) (v := .ref (a 3)) (C := RX6) (T := TX6) (N := 9) hx hb htg ig_6 hown hK hP 0 (oh_wg (by decide) (sX_0 hT)) rfl 3 (by decide) (htg _ q_261) (fun _ h9 => h9) rfl dX6_goes_125 ?_
                  refine lv_iload_n hx hb dX6_goes_128 rfl (lv_at hl 3 rfl) ?_
                  refine tq_V (As := [.int x3]) (rest := []) (ws := (oh_W 35 a C_26)) ⟨hx, hb, hml, hown, htg⟩ (e_X5_daysOf l D E G a C_26 hT x3 (rg_w u_20.1 (by decide))) (cwV 1 htg (oh_gV q_767 q_768 q_769 q_68 q_770) rfl rfl rfl pdVX5_daysOf ⟨Nat.le_of_ble_eq_true rfl, Nat.le_of_ble_eq_true rfl⟩) hK hP hG hS (va_recv hK hP (ci := 5) (q0 := 3) rfl (oh_wg (by decide) (sX_3 hT))) rfl hl.1 rfl (Nat.le_of_ble_eq_true rfl) dX6_goes_129 ⟨Nat.le_of_ble_eq_true rfl, Nat.le_of_ble_eq_true rfl⟩ (fun r_37 hq_38 => ?_)
                  refine lv_goto (tgt := 144) hx hb dX6_goes_132 (by decide) ?_
                  rw [hQ]
                  exact W.iret (v := r_37) hx hb hr (fun t ht hW => ⟨⟨r_37, C_26, rfl, ⟨hT, hF, (fun A hA hok => by have hp := (show okPk (A 5 0 2) (A 5 0 3) x1 x2 by rw [← (show ga (C 10) ((2 : Int32)).toNatClampNeg = A 5 0 2 from hA.1 2 (by decide)), ← (show ga (C 10) ((3 : Int32)).toNatClampNeg = A 5 0 3 from hA.1 3 (by decide))]; exact u_10.2); have h3 : 0 ≤ x3 ∧ x3 < A 5 0 0 := (by rw [← (show ga (C 10) ((0 : Int32)).toNatClampNeg = A 5 0 0 from hA.1 0 (by decide))]; exact u_20.2); have hs : svX C_26 A x1 x2 := hq_27 A hA hp.1.2; have i3 : rg x3 0 23 := (rg_w (lo := 0) (hi := 23) u_20.1 (by decide)); have hr := n0_lt i3 h3.2; have hK := (absX_eq hA (fr_all f_28 10 15 (by decide))); have hg : gsA A x1 x2 x3.toNatClampNeg := Classical.byContradiction (fun q => c_33 ((sv_g hs.2 hr hok.n16).mpr q)); exact Eq.trans (dyX hK hs i3 h3.2 hg hq_38) ((Eq.trans (pif_pos ⟨hp, h3, (oh_rgI (p := 0) (q := 4) (rg_w (lo := 0) (hi := 4) (rn_eq c_35 (rg_c (v := 2) (lo := 2) (hi := 2) (by decide))) (by decide)))⟩) (Eq.trans (pif_neg c_30) (Eq.trans (pif_neg c_31) (Eq.trans (pif_pos hg) (Eq.trans (pif_neg c_34) (pif_pos c_35))))))).symm)⟩, ⟨by rw [ht]; exact hP, hD⟩⟩, hS.F ht⟩) hS.2.2 dX6_goes_144
              · refine lv_aload_n hx hb dX6_goes_108 rfl (lv_at hl 0 rfl) ?_
                refine va_get (D := D) (ci := 6) (v := .ref (a 3)) (C := RX6) (T := TX6) (N := 9) hx hb htg ig_6 hown hK hP 0 (oh_wg (by decide) (sX_0 hT)) rfl 3 (by decide) (htg _ q_261) (fun _ h9 => h9) rfl dX6_goes_109 ?_
                refine lv_iload_n hx hb dX6_goes_112 rfl (lv_at hl 3 rfl) ?_
                refine lv_iconst (v := 1) hx hb dX6_goes_113 (by decide) ?_
                refine tq_V (As := [.int x3, .int 1]) (rest := []) (ws := (oh_W 35 a C_26)) ⟨hx, hb, hml, hown, htg⟩ (e_X5_coinOf l D E G a C_26 hT x3 (1 : Int32) (rg_w u_20.1 (by decide))) (cwV 2 htg (oh_gV q_762 q_763 q_764 q_68 q_765) rfl rfl rfl pdVX5_coinOf ⟨Nat.le_of_ble_eq_true rfl, Nat.le_of_ble_eq_true rfl⟩) hK hP hG hS (va_recv hK hP (ci := 5) (q0 := 3) rfl (oh_wg (by decide) (sX_3 hT))) rfl hl.1 rfl (Nat.le_of_ble_eq_true rfl) dX6_goes_114 ⟨Nat.le_of_ble_eq_true rfl, Nat.le_of_ble_eq_true rfl⟩ (fun r_39 hq_40 => ?_)
                rw [hQ]
                exact W.iret (v := r_39) hx hb hr (fun t ht hW => ⟨⟨r_39, C_26, rfl, ⟨hT, hF, (fun A hA hok => by have hp := (show okPk (A 5 0 2) (A 5 0 3) x1 x2 by rw [← (show ga (C 10) ((2 : Int32)).toNatClampNeg = A 5 0 2 from hA.1 2 (by decide)), ← (show ga (C 10) ((3 : Int32)).toNatClampNeg = A 5 0 3 from hA.1 3 (by decide))]; exact u_10.2); have h3 : 0 ≤ x3 ∧ x3 < A 5 0 0 := (by rw [← (show ga (C 10) ((0 : Int32)).toNatClampNeg = A 5 0 0 from hA.1 0 (by decide))]; exact u_20.2); have hs : svX C_26 A x1 x2 := hq_27 A hA hp.1.2; have i3 : rg x3 0 23 := (rg_w (lo := 0) (hi := 23) u_20.1 (by decide)); have hr := n0_lt i3 h3.2; have hK := (absX_eq hA (fr_all f_28 10 15 (by decide))); have hg : gsA A x1 x2 x3.toNatClampNeg := Classical.byContradiction (fun q => c_33 ((sv_g hs.2 hr hok.n16).mpr q)); exact Eq.trans (coX (n := 1) hK hs i3 h3.2 hg hq_40) ((Eq.trans (pif_pos ⟨hp, h3, (oh_rgI (p := 0) (q := 4) (rg_w (lo := 0) (hi := 4) (rn_eq c_34 (rg_c (v := 1) (lo := 1) (hi := 1) (by decide))) (by decide)))⟩) (Eq.trans (pif_neg c_30) (Eq.trans (pif_neg c_31) (Eq.trans (pif_pos hg) (pif_pos c_34)))))).symm)⟩, ⟨by rw [ht]; exact hP, hD⟩⟩, hS.F ht⟩) hS.2.2 dX6_goes_117
            · refine lv_aload_n hx hb dX6_goes_95 rfl (lv_at hl 0 rfl) ?_
              refine lv_bipush (v := (-5)) hx hb dX6_goes_96 (by decide) ?_
              refine tm_V (As := [.int (-5)]) (rest := []) ⟨hx, hb, hml, hown, htg⟩ (c_X6_refuse l D E G _ a C_26 hT ((-5) : Int32)) (cwV 1 htg (oh_gV q_296 q_298 q_0 q_66 q_299) rfl rfl rfl pdVX6_refuse ⟨Nat.le_of_ble_eq_true rfl, Nat.le_of_ble_eq_true rfl⟩) hK hP hD hG hS hA (va_recv hK hP (ci := 6) (q0 := 0) rfl (oh_wg (by decide) (sX_0 hT))) rfl hl.1 rfl (Nat.le_of_ble_eq_true rfl) dX6_goes_98 ⟨Nat.le_of_ble_eq_true rfl, Nat.le_of_ble_eq_true rfl⟩ (fun r_41 C_42 H locs hq_43 hP hD hS => ?_)
              obtain ⟨hT, f_44, hq_43⟩ := hq_43
              have hF := fr_tr hF f_44 (by decide) (by decide)
              refine W.widen (k := 0) (n := 0) (Nat.le_refl _) (Nat.le_refl _) ?_
              have t_45 := hT
              rw [hQ]
              exact W.iret (v := r_41) hx hb hr (fun t ht hW => ⟨⟨r_41, C_42, rfl, ⟨hT, hF, (fun A hA hok => by have hp := (show okPk (A 5 0 2) (A 5 0 3) x1 x2 by rw [← (show ga (C 10) ((2 : Int32)).toNatClampNeg = A 5 0 2 from hA.1 2 (by decide)), ← (show ga (C 10) ((3 : Int32)).toNatClampNeg = A 5 0 3 from hA.1 3 (by decide))]; exact u_10.2); have h3 : 0 ≤ x3 ∧ x3 < A 5 0 0 := (by rw [← (show ga (C 10) ((0 : Int32)).toNatClampNeg = A 5 0 0 from hA.1 0 (by decide))]; exact u_20.2); have hs : svX C_26 A x1 x2 := hq_27 A hA hp.1.2; have i3 : rg x3 0 23 := (rg_w (lo := 0) (hi := 23) u_20.1 (by decide)); have hr := n0_lt i3 h3.2; have hK := (absX_eq hA (fr_all f_28 10 15 (by decide))); have hg : ¬ gsA A x1 x2 x3.toNatClampNeg := (sv_g hs.2 hr hok.n16).mp c_33; exact Eq.trans hq_43 ((Eq.trans (pif_pos ⟨hp, h3, (oh_rgI (p := 0) (q := 4) (rg_w (lo := 0) (hi := 4) (rn_nel (l' := 1) c_30 (rn_leu u_24.2 (rn_lel u_24.1 (rg_c (v := 0) (lo := 0) (hi := 0) (by decide)) (rg_any _)) (rg_c (v := 4) (lo := 4) (hi := 4) (by decide))) (rg_c (v := 0) (lo := 0) (hi := 0) (by decide)) (by decide)) (by decide)))⟩) (Eq.trans (pif_neg c_30) (Eq.trans (pif_neg c_31) (pif_neg hg))))).symm)⟩, ⟨by rw [ht]; exact hP, hD⟩⟩, hS.F ht⟩) hS.2.2 dX6_goes_101
          · refine lv_aload_n hx hb dX6_goes_73 rfl (lv_at hl 0 rfl) ?_
            refine va_get (D := D) (ci := 6) (v := .ref (a 3)) (C := RX6) (T := TX6) (N := 9) hx hb htg ig_6 hown hK hP 0 (oh_wg (by decide) (sX_0 hT)) rfl 3 (by decide) (htg _ q_261) (fun _ h9 => h9) rfl dX6_goes_74 ?_
            refine lv_iload_n hx hb dX6_goes_77 rfl (lv_at hl 3 rfl) ?_
            refine tq_V (As := [.int x3]) (rest := []) (ws := (oh_W 35 a C_26)) ⟨hx, hb, hml, hown, htg⟩ (e_X5_engines l D E G a C_26 hT x3 (rg_w u_20.1 (by decide))) (cwV 1 htg (oh_gV q_758 q_759 q_760 q_68 q_761) rfl rfl rfl pdVX5_engines ⟨Nat.le_of_ble_eq_true rfl, Nat.le_of_ble_eq_true rfl⟩) hK hP hG hS (va_recv hK hP (ci := 5) (q0 := 3) rfl (oh_wg (by decide) (sX_3 hT))) rfl hl.1 rfl (Nat.le_of_ble_eq_true rfl) dX6_goes_78 ⟨Nat.le_of_ble_eq_true rfl, Nat.le_of_ble_eq_true rfl⟩ (fun r_46 hq_47 => ?_)
            rw [hQ]
            exact W.iret (v := r_46) hx hb hr (fun t ht hW => ⟨⟨r_46, C_26, rfl, ⟨hT, hF, (fun A hA hok => by have hp := (show okPk (A 5 0 2) (A 5 0 3) x1 x2 by rw [← (show ga (C 10) ((2 : Int32)).toNatClampNeg = A 5 0 2 from hA.1 2 (by decide)), ← (show ga (C 10) ((3 : Int32)).toNatClampNeg = A 5 0 3 from hA.1 3 (by decide))]; exact u_10.2); have h3 : 0 ≤ x3 ∧ x3 < A 5 0 0 := (by rw [← (show ga (C 10) ((0 : Int32)).toNatClampNeg = A 5 0 0 from hA.1 0 (by decide))]; exact u_20.2); have hs : svX C_26 A x1 x2 := hq_27 A hA hp.1.2; have i3 : rg x3 0 23 := (rg_w (lo := 0) (hi := 23) u_20.1 (by decide)); have hr := n0_lt i3 h3.2; have hK := (absX_eq hA (fr_all f_28 10 15 (by decide))); exact Eq.trans (enX hK hs.1 i3 h3.2 hq_47) ((Eq.trans (pif_pos ⟨hp, h3, (oh_rgI (p := 0) (q := 4) (rg_w (lo := 0) (hi := 4) (rn_eq c_31 (rg_c (v := 3) (lo := 3) (hi := 3) (by decide))) (by decide)))⟩) (Eq.trans (pif_neg c_30) (pif_pos c_31)))).symm)⟩, ⟨by rw [ht]; exact hP, hD⟩⟩, hS.F ht⟩) hS.2.2 dX6_goes_81
        · refine lv_aload_n hx hb dX6_goes_48 rfl (lv_at hl 0 rfl) ?_
          refine va_get (D := D) (ci := 6) (v := .ref (a 3)) (C := RX6) (T := TX6) (N := 9) hx hb htg ig_6 hown hK hP 0 (oh_wg (by decide) (sX_0 hT)) rfl 3 (by decide) (htg _ q_261) (fun _ h9 => h9) rfl dX6_goes_49 ?_
          refine va_get (D := D) (ci := 5) (v := .ref (a 24)) (C := RX5) (T := TX5) (N := 7) hx hb htg ig_5 hown hK hP 3 (oh_wg (by decide) (sX_3 hT)) rfl 2 (by decide) (htg _ q_171) (fun _ h9 => h9) rfl dX6_goes_52 ?_
          refine lv_iload_n hx hb dX6_goes_55 rfl (lv_at hl 3 rfl) ?_
          have n_48 : vp_in x3 24 := (rg_in u_20.1 (by decide))
          refine th_iald hx hb hK hP 24 (by decide) (sX_24 hT) n_48 dX6_goes_56 ?_
          refine lv_iconst (v := (-1)) hx hb dX6_goes_57 (by decide) ?_
          refine lv_icmp_ne (tgt := 65) hx hb dX6_goes_58 (by decide) (fun (c_49 : ¬ ((ga (C_26 24) (x3).toNatClampNeg) = (-1))) => ?_) (fun (c_49 : (ga (C_26 24) (x3).toNatClampNeg) = (-1)) => ?_)
          · refine lv_iconst (v := 1) hx hb dX6_goes_65 (by decide) ?_
            rw [hQ]
            exact W.iret (v := 1) hx hb hr (fun t ht hW => ⟨⟨1, C_26, rfl, ⟨hT, hF, (fun A hA hok => by have hp := (show okPk (A 5 0 2) (A 5 0 3) x1 x2 by rw [← (show ga (C 10) ((2 : Int32)).toNatClampNeg = A 5 0 2 from hA.1 2 (by decide)), ← (show ga (C 10) ((3 : Int32)).toNatClampNeg = A 5 0 3 from hA.1 3 (by decide))]; exact u_10.2); have h3 : 0 ≤ x3 ∧ x3 < A 5 0 0 := (by rw [← (show ga (C 10) ((0 : Int32)).toNatClampNeg = A 5 0 0 from hA.1 0 (by decide))]; exact u_20.2); have hs : svX C_26 A x1 x2 := hq_27 A hA hp.1.2; have i3 : rg x3 0 23 := (rg_w (lo := 0) (hi := 23) u_20.1 (by decide)); have hr := n0_lt i3 h3.2; have hK := (absX_eq hA (fr_all f_28 10 15 (by decide))); have hg : gsA A x1 x2 x3.toNatClampNeg := Classical.byContradiction (fun q => c_49 ((sv_g hs.2 hr hok.n16).mpr q)); exact ((Eq.trans (pif_pos ⟨hp, h3, (oh_rgI (p := 0) (q := 4) (rg_w (lo := 0) (hi := 4) (rn_eq c_30 (rg_c (v := 0) (lo := 0) (hi := 0) (by decide))) (by decide)))⟩) (Eq.trans (pif_pos c_30) (pif_pos hg)))).symm)⟩, ⟨by rw [ht]; exact hP, hD⟩⟩, hS.F ht⟩) hS.2.2 dX6_goes_66
          · refine lv_iconst (v := 0) hx hb dX6_goes_61 (by decide) ?_
            refine lv_goto (tgt := 66) hx hb dX6_goes_62 (by decide) ?_
            rw [hQ]
            exact W.iret (v := 0) hx hb hr (fun t ht hW => ⟨⟨0, C_26, rfl, ⟨hT, hF, (fun A hA hok => by have hp := (show okPk (A 5 0 2) (A 5 0 3) x1 x2 by rw [← (show ga (C 10) ((2 : Int32)).toNatClampNeg = A 5 0 2 from hA.1 2 (by decide)), ← (show ga (C 10) ((3 : Int32)).toNatClampNeg = A 5 0 3 from hA.1 3 (by decide))]; exact u_10.2); have h3 : 0 ≤ x3 ∧ x3 < A 5 0 0 := (by rw [← (show ga (C 10) ((0 : Int32)).toNatClampNeg = A 5 0 0 from hA.1 0 (by decide))]; exact u_20.2); have hs : svX C_26 A x1 x2 := hq_27 A hA hp.1.2; have i3 : rg x3 0 23 := (rg_w (lo := 0) (hi := 23) u_20.1 (by decide)); have hr := n0_lt i3 h3.2; have hK := (absX_eq hA (fr_all f_28 10 15 (by decide))); have hg : ¬ gsA A x1 x2 x3.toNatClampNeg := (sv_g hs.2 hr hok.n16).mp c_49; exact ((Eq.trans (pif_pos ⟨hp, h3, (oh_rgI (p := 0) (q := 4) (rg_w (lo := 0) (hi := 4) (rn_eq c_30 (rg_c (v := 0) (lo := 0) (hi := 0) (by decide))) (by decide)))⟩) (Eq.trans (pif_pos c_30) (pif_neg hg)))).symm)⟩, ⟨by rw [ht]; exact hP, hD⟩⟩, hS.F ht⟩) hS.2.2 dX6_goes_66
      · have u_50 := hq_22.2.2 c_23
        refine lv_aload_n hx hb dX6_goes_27 rfl (lv_at hl 0 rfl) ?_
        refine lv_bipush (v := (-2)) hx hb dX6_goes_28 (by decide) ?_
        refine tm_V (As := [.int (-2)]) (rest := []) ⟨hx, hb, hml, hown, htg⟩ (c_X6_refuse l D E G _ a C hT ((-2) : Int32)) (cwV 1 htg (oh_gV q_296 q_298 q_0 q_66 q_299) rfl rfl rfl pdVX6_refuse ⟨Nat.le_of_ble_eq_true rfl, Nat.le_of_ble_eq_true rfl⟩) hK hP hD hG hS hA (va_recv hK hP (ci := 6) (q0 := 0) rfl (oh_wg (by decide) (sX_0 hT))) rfl hl.1 rfl (Nat.le_of_ble_eq_true rfl) dX6_goes_30 ⟨Nat.le_of_ble_eq_true rfl, Nat.le_of_ble_eq_true rfl⟩ (fun r_51 C_52 H locs hq_53 hP hD hS => ?_)
        obtain ⟨hT, f_54, hq_53⟩ := hq_53
        have hF := fr_tr hF f_54 (by decide) (by decide)
        refine W.widen (k := 0) (n := 0) (Nat.le_refl _) (Nat.le_refl _) ?_
        have t_55 := hT
        rw [hQ]
        exact W.iret (v := r_51) hx hb hr (fun t ht hW => ⟨⟨r_51, C_52, rfl, ⟨hT, hF, (fun A hA hok => Eq.trans hq_53 (pif_neg (fun h8 => u_50 h8.2.2)).symm)⟩, ⟨by rw [ht]; exact hP, hD⟩⟩, hS.F ht⟩) hS.2.2 dX6_goes_33

set_option maxHeartbeats 4000000 in
set_option maxRecDepth 100000 in
theorem e_X7_goes (l : Launch) (D : va_G) (E : Nat → ClassId) (G : Nat → Nat) (sz : Nat) (a : Nat → Nat) (C : Nat → va_E) (n : Nat) (hn : 74 ≤ n) (hT : TyM a E C) (x1 : Int32) (x2 : Int32) (x3 : Int32) (x4 : Int32) (hR : RelM C) : Met l yX7_goes (oh_w yX7_goes cX7_goes 6 (some .int)) ({ frames := 5, cells := 0, slots := 0, locals := 123 }) (oh_Pm D E G [.ref (a 0), .int x1, .int x2, .int x3, .int x4] (oh_W n a C) sz) (va_Qi (fun r (u : Nat → va_E) => TyM a E u ∧ fr [(8, 9)] [] C u ∧ (RelM u) ∧ (∀ A : LA, absM C A → okA A → r = spGoes A x1 x2 x3 x4)) (oh_B D (va_A (oh_W n a C) sz) (fun u => oh_W n a u)) (va_A (oh_W n a C) sz)) 0 0 (va_A (oh_W n a C) sz) := by
  refine Met.ofW (cc := cX7_goes) (maxL := 6) (ret := (some .int)) (by decide) rfl ?_
  intro p e s m args below meth c s₁ B hml hv
  obtain ⟨rfl, hsz, hP, hK, hD0, hG⟩ := hv
  have hx := B.exec
  have hb := B.bytes
  have hr := B.returns
  have hts := atoms_spec (ws := (oh_w yX7_goes cX7_goes 6 (some .int))) B.pre
  have htg : ∀ w ∈ oh_t, w.before _ s = true := fun w h => hts w (List.mem_cons_of_mem _ h)
  have hown : s.vm.findClass RX7 = some m.cls := findClass_of_methodNamed B.named
  have hlocks := B.notSynchronized
  have hT0 := hT
  subst hsz
  have hD := hD0.self (sz := s.heap.size)
  generalize hAe : va_A (oh_W n a C) s.heap.size = A at hD hG ⊢
  have hA : ∀ q : Nat, s.heap.size ≤ q → A q := fun q h => by rw [← hAe]; exact Or.inr h
  have hS : va_S A s.heap s.heap [] := va_S.rf
  have hF : fr [(8, 9)] [] C C := fr_rf
  have hl := lv_entry ([.ref (a 0), .int x1, .int x2, .int x3, .int x4]) (n := 6) (Nat.le_of_ble_eq_true rfl)
  rw [lg_entry_eq]
  generalize (lg_sl ([.ref (a 0), .int x1, .int x2, .int x3, .int x4]) ++ List.replicate (6 - (lg_sl ([.ref (a 0), .int x1, .int x2, .int x3, .int x4])).length) Slot.unset).toArray = ls at hl ⊢
  have hl : lv_has ls 6 [(0, .ref (a 0)), (1, .int x1), (2, .int x2), (3, .int x3), (4, .int x4)] := hl
  refine oh_genQ (fun Q hQ => ?_)
  refine lv_aload_n hx hb dX7_goes_0 rfl (lv_at hl 0 rfl) ?_
  refine lv_iload_n hx hb dX7_goes_1 rfl (lv_at hl 1 rfl) ?_
  refine lv_iload_n hx hb dX7_goes_2 rfl (lv_at hl 2 rfl) ?_
  refine tq_V (As := [.int x1, .int x2]) (rest := []) (ws := (oh_W n a C)) ⟨hx, hb, hml, hown, htg⟩ (e_X7_isPack l D E G a C n hn hT x1 x2 hR.1) (cwV 2 htg (oh_gV q_1290 q_1292 q_50 q_73 q_1293) rfl rfl rfl pdVX7_isPack ⟨Nat.le_of_ble_eq_true rfl, Nat.le_of_ble_eq_true rfl⟩) hK hP hG hS (va_recv hK hP (ci := 7) (q0 := 0) rfl (oh_wg (Nat.lt_of_lt_of_le (by decide) hn) (sM_0 hT))) rfl hl.1 rfl (Nat.le_of_ble_eq_true rfl) dX7_goes_3 ⟨Nat.le_of_ble_eq_true rfl, Nat.le_of_ble_eq_true rfl⟩ (fun r_1 hq_2 => ?_)
  refine lv_if_eq (tgt := 30) hx hb dX7_goes_6 (by decide) (fun (c_3 : r_1 = 0) => ?_) (fun (c_3 : ¬ (r_1 = 0)) => ?_)
  · have u_4 := hq_2.2.2 c_3
    refine lv_aload_n hx hb dX7_goes_30 rfl (lv_at hl 0 rfl) ?_
    refine lv_bipush (v := (-2)) hx hb dX7_goes_31 (by decide) ?_
    refine tm_V (As := [.int (-2)]) (rest := []) ⟨hx, hb, hml, hown, htg⟩ (c_X7_refuse l D E G _ a C n hn hT ((-2) : Int32) (rg_w (rg_c (v := (-2)) (lo := (-2)) (hi := (-2)) (by decide)) (by decide))) (cwV 1 htg (oh_gV q_1071 q_1073 q_29 q_73 q_1074) rfl rfl rfl pdVX7_refuse ⟨Nat.le_of_ble_eq_true rfl, Nat.le_of_ble_eq_true rfl⟩) hK hP hD hG hS hA (va_recv hK hP (ci := 7) (q0 := 0) rfl (oh_wg (Nat.lt_of_lt_of_le (by decide) hn) (sM_0 hT))) rfl hl.1 rfl (Nat.le_of_ble_eq_true rfl) dX7_goes_33 ⟨Nat.le_of_ble_eq_true rfl, Nat.le_of_ble_eq_true rfl⟩ (fun r_5 C_6 H locs hq_7 hP hD hS => ?_)
    obtain ⟨hT, f_8, hq_7⟩ := hq_7
    have hF := fr_tr hF f_8 (by decide) (by decide)
    refine W.widen (k := 0) (n := 0) (Nat.le_refl _) (Nat.le_refl _) ?_
    have t_9 := hT
    rw [hQ]
    exact W.iret (v := r_5) hx hb hr (fun t ht hW => ⟨⟨r_5, C_6, rfl, ⟨hT, hF, ⟨⟨hR.1.fr hF (by decide), hR.2.fr hF (by decide)⟩, (fun A hA hok => Eq.trans hq_7 (pif_neg (fun h8 => (show ¬ okPk (A 5 0 2) (A 5 0 3) x1 x2 by rw [← (show gi (C 0) 13 = A 5 0 2 from hA.1 2 (by decide)), ← (show gi (C 0) 15 = A 5 0 3 from hA.1 3 (by decide))]; exact u_4) h8.1)).symm)⟩⟩, ⟨by rw [ht]; exact hP, hD⟩⟩, hS.F ht⟩) hS.2.2 dX7_goes_36
  · have u_10 := hq_2.2.1 c_3
    refine lv_aload_n hx hb dX7_goes_9 rfl (lv_at hl 0 rfl) ?_
    refine lv_iload_n hx hb dX7_goes_10 rfl (lv_at hl 3 rfl) ?_
    refine tq_V (As := [.int x3]) (rest := []) (ws := (oh_W n a C)) ⟨hx, hb, hml, hown, htg⟩ (e_X7_isRoad l D E G a C n hn hT x3) (cwV 1 htg (oh_gV q_1145 q_1147 q_36 q_73 q_1148) rfl rfl rfl pdVX7_isRoad ⟨Nat.le_of_ble_eq_true rfl, Nat.le_of_ble_eq_true rfl⟩) hK hP hG hS (va_recv hK hP (ci := 7) (q0 := 0) rfl (oh_wg (Nat.lt_of_lt_of_le (by decide) hn) (sM_0 hT))) rfl hl.1 rfl (Nat.le_of_ble_eq_true rfl) dX7_goes_11 ⟨Nat.le_of_ble_eq_true rfl, Nat.le_of_ble_eq_true rfl⟩ (fun r_11 hq_12 => ?_)
    refine lv_if_eq (tgt := 30) hx hb dX7_goes_14 (by decide) (fun (c_13 : r_11 = 0) => ?_) (fun (c_13 : ¬ (r_11 = 0)) => ?_)
    · have u_14 := hq_12.2.2 c_13
      refine lv_aload_n hx hb dX7_goes_30 rfl (lv_at hl 0 rfl) ?_
      refine lv_bipush (v := (-2)) hx hb dX7_goes_31 (by decide) ?_
      refine tm_V (As := [.int (-2)]) (rest := []) ⟨hx, hb, hml, hown, htg⟩ (c_X7_refuse l D E G _ a C n hn hT ((-2) : Int32) (rg_w (rg_c (v := (-2)) (lo := (-2)) (hi := (-2)) (by decide)) (by decide))) (cwV 1 htg (oh_gV q_1071 q_1073 q_29 q_73 q_1074) rfl rfl rfl pdVX7_refuse ⟨Nat.le_of_ble_eq_true rfl, Nat.le_of_ble_eq_true rfl⟩) hK hP hD hG hS hA (va_recv hK hP (ci := 7) (q0 := 0) rfl (oh_wg (Nat.lt_of_lt_of_le (by decide) hn) (sM_0 hT))) rfl hl.1 rfl (Nat.le_of_ble_eq_true rfl) dX7_goes_33 ⟨Nat.le_of_ble_eq_true rfl, Nat.le_of_ble_eq_true rfl⟩ (fun r_15 C_16 H locs hq_17 hP hD hS => ?_)
      obtain ⟨hT, f_18, hq_17⟩ := hq_17
      have hF := fr_tr hF f_18 (by decide) (by decide)
      refine W.widen (k := 0) (n := 0) (Nat.le_refl _) (Nat.le_refl _) ?_
      have t_19 := hT
      rw [hQ]
      exact W.iret (v := r_15) hx hb hr (fun t ht hW => ⟨⟨r_15, C_16, rfl, ⟨hT, hF, ⟨⟨hR.1.fr hF (by decide), hR.2.fr hF (by decide)⟩, (fun A hA hok => Eq.trans hq_17 (pif_neg (fun h8 => by have h7 := h8.2.1; rw [← (show gi (C 0) 9 = A 5 0 0 from hA.1 0 (by decide))] at h7; exact u_14 h7)).symm)⟩⟩, ⟨by rw [ht]; exact hP, hD⟩⟩, hS.F ht⟩) hS.2.2 dX7_goes_36
    · have u_20 := hq_12.2.1 c_13
      refine lv_iload hx hb dX7_goes_17 (lv_at hl 4 rfl) ?_
      refine lv_i2l (v := Int32.toInt64 x4) hx hb dX7_goes_19 (by rfl) ?_
      refine lv_lconst (v := 0) hx hb dX7_goes_20 (by decide) ?_
      refine lv_ldc2 (v := 4) hx hb hown (htg _ q_1069) dX7_goes_21 ?_
      refine tq_S (As := [.long (Int32.toInt64 x4), .long 0, .long 4]) (rest := []) (ws := []) ⟨hx, hb, hml, hown, htg⟩ (c_X7_in l D E G (Int32.toInt64 x4) (0 : Int64) (4 : Int64)) (va_cwS 3 htg (oh_gS q_1066 q_1067 q_73 q_1068) rfl rfl rfl pdX7_in ⟨Nat.le_of_ble_eq_true rfl, Nat.le_of_ble_eq_true rfl⟩) hK va_nil hG hS rfl hl.1 rfl (Nat.le_of_ble_eq_true rfl) dX7_goes_24 ⟨Nat.le_of_ble_eq_true rfl, Nat.le_of_ble_eq_true rfl⟩ (fun r_21 hq_22 => ?_)
      refine lv_if_ne (tgt := 37) hx hb dX7_goes_27 (by decide) (fun (c_23 : ¬ (r_21 = 0)) => ?_) (fun (c_23 : r_21 = 0) => ?_)
      · have u_24 := hq_22.2.1 c_23
        refine lv_aload_n hx hb dX7_goes_37 rfl (lv_at hl 0 rfl) ?_
        refine lv_iload_n hx hb dX7_goes_38 rfl (lv_at hl 1 rfl) ?_
        refine lv_iload_n hx hb dX7_goes_39 rfl (lv_at hl 2 rfl) ?_
        refine lv_iload_n hx hb dX7_goes_40 rfl (lv_at hl 3 rfl) ?_
        refine tq_V (As := [.int x1, .int x2, .int x3]) (rest := []) (ws := (oh_W n a C)) ⟨hx, hb, hml, hown, htg⟩ (e_X7_goesOf l D E G a C n hn hT x1 x2 x3 (rg_w u_10.1 (by decide)) (rg_w u_20.1 (by decide)) u_10.2.1) (cwV 3 htg (oh_gV q_1318 q_1320 q_54 q_73 q_1321) rfl rfl rfl pdVX7_goesOf ⟨Nat.le_of_ble_eq_true rfl, Nat.le_of_ble_eq_true rfl⟩) hK hP hG hS (va_recv hK hP (ci := 7) (q0 := 0) rfl (oh_wg (Nat.lt_of_lt_of_le (by decide) hn) (sM_0 hT))) rfl hl.1 rfl (Nat.le_of_ble_eq_true rfl) dX7_goes_41 ⟨Nat.le_of_ble_eq_true rfl, Nat.le_of_ble_eq_true rfl⟩ (fun r_25 hq_26 => ?_)
        refine lv_istore (lv' := [(5, .int r_25), (0, .ref (a 0)), (1, .int x1), (2, .int x2), (3, .int x3), (4, .int x4)]) hx hb dX7_goes_44 hl (by decide) rfl (fun ls hl => ?_)
        refine lv_iload hx hb dX7_goes_46 (lv_at hl 5 rfl) ?_
        refine lv_if_ne (tgt := 62) hx hb dX7_goes_48 (by decide) (fun (c_27 : ¬ (x4 = 0)) => ?_) (fun (c_27 : x4 = 0) => ?_)
        · refine lv_iload hx hb dX7_goes_62 (lv_at hl 5 rfl) ?_
          refine lv_iconst (v := 3) hx hb dX7_goes_64 (by decide) ?_
          refine lv_icmp_ne (tgt := 76) hx hb dX7_goes_65 (by decide) (fun (c_28 : ¬ (x4 = 3)) => ?_) (fun (c_28 : x4 = 3) => ?_)
          · refine lv_iload hx hb dX7_goes_76 (lv_at hl 0 rfl) ?_
            refine lv_if_ne (tgt := 88) hx hb dX7_goes_78 (by decide) (fun (c_29 : ¬ (r_25 = 0)) => ?_) (fun (c_29 : r_25 = 0) => ?_)
            · refine lv_iload hx hb dX7_goes_88 (lv_at hl 5 rfl) ?_
              refine lv_iconst (v := 1) hx hb dX7_goes_90 (by decide) ?_
              refine lv_icmp_ne (tgt := 105) hx hb dX7_goes_91 (by decide) (fun (c_30 : ¬ (x4 = 1)) => ?_) (fun (c_30 : x4 = 1) => ?_)
              · refine lv_iload hx hb dX7_goes_105 (lv_at hl 5 rfl) ?_
                refine lv_iconst (v := 2) hx hb dX7_goes_107 (by decide) ?_
                refine lv_icmp_ne (tgt := 121) hx hb dX7_goes_108 (by decide) (fun (c_31 : ¬ (x4 = 2)) => ?_) (fun (c_31 : x4 = 2) => ?_)
                · refine lv_aload_n hx hb dX7_goes_121 rfl (lv_at hl 1 rfl) ?_
                  refine lv_iload_n hx hb dX7_goes_122 rfl (lv_at hl 2 rfl) ?_
                  refine lv_iload_n hx hb dX7_goes_123 rfl (lv_at hl 3 rfl) ?_
                  refine lv_iload_n hx hb dX7_goes_124 rfl (lv_at hl 4 rfl) ?_
                  refine lv_iconst (v := 0) hx hb dX7_goes_125 (by decide) ?_
                  refine tq_V (As := [.int x1, .int x2, .int x3, .int 0]) (rest := []) (ws := (oh_W n a C)) ⟨hx, hb, hml, hown, htg⟩ (e_X7_propsOf l D E G a C n hn hT x1 x2 x3 (0 : Int32) (rg_w u_10.1 (by decide)) (rg_w (rg_c (v := 0) (lo := 0) (hi := 0) (by decide)) (by decide)) u_10.2.1) (cwV 4 htg (oh_gV q_1330 q_1332 q_57 q_73 q_1333) rfl rfl rfl pdVX7_propsOf ⟨Nat.le_of_ble_eq_true rfl, Nat.le_of_ble_eq_true rfl⟩) hK hP hG hS (va_recv hK hP (ci := 7) (q0 := 0) rfl (oh_wg (Nat.lt_of_lt_of_le (by decide) hn) (sM_0 hT))) rfl hl.1 rfl (Nat.le_of_ble_eq_true rfl) dX7_goes_126 ⟨Nat.le_of_ble_eq_true rfl, Nat.le_of_ble_eq_true rfl⟩ (fun r_32 hq_33 => ?_)
                  rw [hQ]
                  exact W.iret (v := r_32) hx hb hr (fun t ht hW => ⟨⟨r_32, C, rfl, ⟨hT, hF, ⟨hR, (fun A hA hok => by have hp := (show okPk (A 5 0 2) (A 5 0 3) x1 x2 by rw [← (show gi (C 0) 13 = A 5 0 2 from hA.1 2 (by decide)), ← (show gi (C 0) 15 = A 5 0 3 from hA.1 3 (by decide))]; exact u_10.2.2.2); have h3 : 0 ≤ x3 ∧ x3 < A 5 0 0 := (by rw [← (show gi (C 0) 9 = A 5 0 0 from hA.1 0 (by decide))]; exact u_20.2); have i3 : rg x3 0 23 := (rg_w (lo := 0) (hi := 23) u_20.1 (by decide)); have hgi := hq_26.2 A hA hok hp.1.2 h3.2; have hg := hgi.mp (oh_b1 (rg_w (lo := 0) (hi := 1) (rn_nel (l' := 1) c_29 (oh_rgb hq_26.1) (rg_c (v := 0) (lo := 0) (hi := 0) (by decide)) (by decide)) (by decide)) c_29); exact Eq.trans (Eq.trans (hq_33 A hA hok hp.1.2 i3) (vv_0 rfl)) ((Eq.trans (pif_pos ⟨hp, h3, (oh_rgI (p := 0) (q := 4) (rg_w (lo := 0) (hi := 4) (rg_il (rgL_i (rg_il (rnL_leu u_24.2 (rnL_lel u_24.1 (rgL_c (v := 0) (lo := 0) (hi := 0) (by decide)) (rgL_i (rg_any _))) (rgL_c (v := 4) (lo := 4) (hi := 4) (by decide)))))) (by decide)))⟩) (Eq.trans (pif_neg c_27) (Eq.trans (pif_neg c_28) (Eq.trans (pif_pos hg) (Eq.trans (pif_neg c_30) (pif_neg c_31))))))).symm)⟩⟩, ⟨by rw [ht]; exact hP, hD⟩⟩, hS.F ht⟩) hS.2.2 dX7_goes_129
                · refine lv_aload_n hx hb dX7_goes_111 rfl (lv_at hl 1 rfl) ?_
                  refine lv_iload_n hx hb dX7_goes_112 rfl (lv_at hl 2 rfl) ?_
                  refine lv_iload_n hx hb dX7_goes_113 rfl (lv_at hl 3 rfl) ?_
                  refine lv_iload_n hx hb dX7_goes_114 rfl (lv_at hl 4 rfl) ?_
                  refine tq_V (As := [.int x1, .int x2, .int x3]) (rest := []) (ws := (oh_W n a C)) ⟨hx, hb, hml, hown, htg⟩ (e_X7_daysOf l D E G a C n hn hT x1 x2 x3 (rg_w u_10.1 (by decide)) (rg_w u_20.1 (by decide)) u_10.2.1) (cwV 3 htg (oh_gV q_1334 q_1336 q_58 q_73 q_1337) rfl rfl rfl pdVX7_daysOf ⟨Nat.le_of_ble_eq_true rfl, Nat.le_of_ble_eq_true rfl⟩) hK hP hG hS (va_recv hK hP (ci := 7) (q0 := 0) rfl (oh_wg (Nat.lt_of_lt_of_le (by decide) hn) (sM_0 hT))) rfl hl.1 rfl (Nat.le_of_ble_eq_true rfl) dX7_goes_115 ⟨Nat.le_of_ble_eq_true rfl, Nat.le_of_ble_eq_true rfl⟩ (fun r_34 hq_35 => ?_)
                  refine lv_goto (tgt := 129) hx hb dX7_goes_118 (by decide) ?_
                  rw [hQ]
                  exact W.iret (v := r_34) hx hb hr (fun t ht hW => ⟨⟨r_34, C, rfl, ⟨hT, hF, ⟨hR, (fun A hA hok => by have hp := (show okPk (A 5 0 2) (A 5 0 3) x1 x2 by rw [← (show gi (C 0) 13 = A 5 0 2 from hA.1 2 (by decide)), ← (show gi (C 0) 15 = A 5 0 3 from hA.1 3 (by decide))]; exact u_10.2.2.2); have h3 : 0 ≤ x3 ∧ x3 < A 5 0 0 := (by rw [← (show gi (C 0) 9 = A 5 0 0 from hA.1 0 (by decide))]; exact u_20.2); have i3 : rg x3 0 23 := (rg_w (lo := 0) (hi := 23) u_20.1 (by decide)); have hgi := hq_26.2 A hA hok hp.1.2 h3.2; have hg := hgi.mp (oh_b1 (rg_w (lo := 0) (hi := 1) (rn_nel (l' := 1) c_29 (oh_rgb hq_26.1) (rg_c (v := 0) (lo := 0) (hi := 0) (by decide)) (by decide)) (by decide)) c_29); exact Eq.trans (hq_35 A hA hok hp.1.2 h3.2) ((Eq.trans (pif_pos ⟨hp, h3, (oh_rgI (p := 0) (q := 4) (rg_w (lo := 0) (hi := 4) (rn_eq c_31 (rg_c (v := 2) (lo := 2) (hi := 2) (by decide))) (by decide)))⟩) (Eq.trans (pif_neg c_27) (Eq.trans (pif_neg c_28) (Eq.trans (pif_pos hg) (Eq.trans (pif_neg c_30) (pif_pos c_31))))))).symm)⟩⟩, ⟨by rw [ht]; exact hP, hD⟩⟩, hS.F ht⟩) hS.2.2 dX7_goes_129
              · refine lv_aload_n hx hb dX7_goes_94 rfl (lv_at hl 1 rfl) ?_
                refine lv_iload_n hx hb dX7_goes_95 rfl (lv_at hl 2 rfl) ?_
                refine lv_iload_n hx hb dX7_goes_96 rfl (lv_at hl 3 rfl) ?_
                refine lv_iload_n hx hb dX7_goes_97 rfl (lv_at hl 4 rfl) ?_
                refine lv_iconst (v := 1) hx hb dX7_goes_98 (by decide) ?_
                refine tq_V (As := [.int x1, .int x2, .int x3, .int 1]) (rest := []) (ws := (oh_W n a C)) ⟨hx, hb, hml, hown, htg⟩ (e_X7_coinOf l D E G a C n hn hT x1 x2 x3 (1 : Int32) (rg_w u_10.1 (by decide)) (rg_w u_20.1 (by decide)) u_10.2.1) (cwV 4 htg (oh_gV q_1326 q_1328 q_56 q_73 q_1329) rfl rfl rfl pdVX7_coinOf ⟨Nat.le_of_ble_eq_true rfl, Nat.le_of_ble_eq_true rfl⟩) hK hP hG hS (va_recv hK hP (ci := 7) (q0 := 0) rfl (oh_wg (Nat.lt_of_lt_of_le (by decide) hn) (sM_0 hT))) rfl hl.1 rfl (Nat.le_of_ble_eq_true rfl) dX7_goes_99 ⟨Nat.le_of_ble_eq_true rfl, Nat.le_of_ble_eq_true rfl⟩ (fun r_36 hq_37 => ?_)
                refine lv_goto (tgt := 129) hx hb dX7_goes_102 (by decide) ?_
                rw [hQ]
                exact W.iret (v := r_36) hx hb hr (fun t ht hW => ⟨⟨r_36, C, rfl, ⟨hT, hF, ⟨hR, (fun A hA hok => by have hp := (show okPk (A 5 0 2) (A 5 0 3) x1 x2 by rw [← (show gi (C 0) 13 = A 5 0 2 from hA.1 2 (by decide)), ← (show gi (C 0) 15 = A 5 0 3 from hA.1 3 (by decide))]; exact u_10.2.2.2); have h3 : 0 ≤ x3 ∧ x3 < A 5 0 0 := (by rw [← (show gi (C 0) 9 = A 5 0 0 from hA.1 0 (by decide))]; exact u_20.2); have i3 : rg x3 0 23 := (rg_w (lo := 0) (hi := 23) u_20.1 (by decide)); have hgi := hq_26.2 A hA hok hp.1.2 h3.2; have hg := hgi.mp (oh_b1 (rg_w (lo := 0) (hi := 1) (rn_nel (l' := 1) c_29 (oh_rgb hq_26.1) (rg_c (v := 0) (lo := 0) (hi := 0) (by decide)) (by decide)) (by decide)) c_29); exact Eq.trans (hq_37 A hA hok hp.1.2 h3.2) ((Eq.trans (pif_pos ⟨hp, h3, (oh_rgI (p := 0) (q := 4) (rg_w (lo := 0) (hi := 4) (rn_eq c_30 (rg_c (v := 1) (lo := 1) (hi := 1) (by decide))) (by decide)))⟩) (Eq.trans (pif_neg c_27) (Eq.trans (pif_neg c_28) (Eq.trans (pif_pos hg) (pif_pos c_30)))))).symm)⟩⟩, ⟨by rw [ht]; exact hP, hD⟩⟩, hS.F ht⟩) hS.2.2 dX7_goes_129
            · refine lv_aload_n hx hb dX7_goes_81 rfl (lv_at hl 1 rfl) ?_
              refine lv_bipush (v := (-5)) hx hb dX7_goes_82 (by decide) ?_
              refine tm_V (As := [.int (-5)]) (rest := []) ⟨hx, hb, hml, hown, htg⟩ (c_X7_refuse l D E G _ a C n hn hT ((-5) : Int32) (rg_w (rg_c (v := (-5)) (lo := (-5)) (hi := (-5)) (by decide)) (by decide))) (cwV 1 htg (oh_gV q_1071 q_1073 q_29 q_73 q_1074) rfl rfl rfl pdVX7_refuse ⟨Nat.le_of_ble_eq_true rfl, Nat.le_of_ble_eq_true rfl⟩) hK hP hD hG hS hA (va_recv hK hP (ci := 7) (q0 := 0) rfl (oh_wg (Nat.lt_of_lt_of_le (by decide) hn) (sM_0 hT))) rfl hl.1 rfl (Nat.le_of_ble_eq_true rfl) dX7_goes_84 ⟨Nat.le_of_ble_eq_true rfl, Nat.le_of_ble_eq_true rfl⟩ (fun r_38 C_39 H locs hq_40 hP hD hS => ?_)
              obtain ⟨hT, f_41, hq_40⟩ := hq_40
              have hF := fr_tr hF f_41 (by decide) (by decide)
              refine W.widen (k := 0) (n := 0) (Nat.le_refl _) (Nat.le_refl _) ?_
              have t_42 := hT
              rw [hQ]
              exact W.iret (v := r_38) hx hb hr (fun t ht hW => ⟨⟨r_38, C_39, rfl, ⟨hT, hF, ⟨⟨hR.1.fr hF (by decide), hR.2.fr hF (by decide)⟩, (fun A hA hok => by have hp := (show okPk (A 5 0 2) (A 5 0 3) x1 x2 by rw [← (show gi (C 0) 13 = A 5 0 2 from hA.1 2 (by decide)), ← (show gi (C 0) 15 = A 5 0 3 from hA.1 3 (by decide))]; exact u_10.2.2.2); have h3 : 0 ≤ x3 ∧ x3 < A 5 0 0 := (by rw [← (show gi (C 0) 9 = A 5 0 0 from hA.1 0 (by decide))]; exact u_20.2); have i3 : rg x3 0 23 := (rg_w (lo := 0) (hi := 23) u_20.1 (by decide)); have hgi := hq_26.2 A hA hok hp.1.2 h3.2; have hg : ¬ gsA A x1 x2 x3.toNatClampNeg := (fun q => absurd (Eq.trans (Eq.symm c_29) (hgi.mpr q)) (by decide)); exact Eq.trans hq_40 ((Eq.trans (pif_pos ⟨hp, h3, (oh_rgI (p := 0) (q := 4) (rg_w (lo := 0) (hi := 4) (rg_il (rgL_i (rg_il (rnL_leu u_24.2 (rnL_lel u_24.1 (rgL_c (v := 0) (lo := 0) (hi := 0) (by decide)) (rgL_i (rg_any _))) (rgL_c (v := 4) (lo := 4) (hi := 4) (by decide)))))) (by decide)))⟩) (Eq.trans (pif_neg c_27) (Eq.trans (pif_neg c_28) (pif_neg hg))))).symm)⟩⟩, ⟨by rw [ht]; exact hP, hD⟩⟩, hS.F ht⟩) hS.2.2 dX7_goes_87
          · refine lv_aload_n hx hb dX7_goes_68 rfl (lv_at hl 1 rfl) ?_
            refine lv_iload_n hx hb dX7_goes_69 rfl (lv_at hl 2 rfl) ?_
            refine lv_iload_n hx hb dX7_goes_70 rfl (lv_at hl 3 rfl) ?_
            refine lv_iload_n hx hb dX7_goes_71 rfl (lv_at hl 4 rfl) ?_
            refine tq_V (As := [.int x1, .int x2, .int x3]) (rest := []) (ws := (oh_W n a C)) ⟨hx, hb, hml, hown, htg⟩ (e_X7_enginesOf l D E G a C n hn hT x1 x2 x3 (rg_w u_10.1 (by decide)) (rg_w u_20.1 (by decide)) u_10.2.1) (cwV 3 htg (oh_gV q_1322 q_1324 q_55 q_73 q_1325) rfl rfl rfl pdVX7_enginesOf ⟨Nat.le_of_ble_eq_true rfl, Nat.le_of_ble_eq_true rfl⟩) hK hP hG hS (va_recv hK hP (ci := 7) (q0 := 0) rfl (oh_wg (Nat.lt_of_lt_of_le (by decide) hn) (sM_0 hT))) rfl hl.1 rfl (Nat.le_of_ble_eq_true rfl) dX7_goes_72 ⟨Nat.le_of_ble_eq_true rfl, Nat.le_of_ble_eq_true rfl⟩ (fun r_43 hq_44 => ?_)
            rw [hQ]
            exact W.iret (v := r_43) hx hb hr (fun t ht hW => ⟨⟨r_43, C, rfl, ⟨hT, hF, ⟨hR, (fun A hA hok => by have hp := (show okPk (A 5 0 2) (A 5 0 3) x1 x2 by rw [← (show gi (C 0) 13 = A 5 0 2 from hA.1 2 (by decide)), ← (show gi (C 0) 15 = A 5 0 3 from hA.1 3 (by decide))]; exact u_10.2.2.2); have h3 : 0 ≤ x3 ∧ x3 < A 5 0 0 := (by rw [← (show gi (C 0) 9 = A 5 0 0 from hA.1 0 (by decide))]; exact u_20.2); have i3 : rg x3 0 23 := (rg_w (lo := 0) (hi := 23) u_20.1 (by decide)); have hgi := hq_26.2 A hA hok hp.1.2 h3.2; exact Eq.trans (hq_44 A hA hok hp.1.2 h3.2) ((Eq.trans (pif_pos ⟨hp, h3, (oh_rgI (p := 0) (q := 4) (rg_w (lo := 0) (hi := 4) (rn_eq c_28 (rg_c (v := 3) (lo := 3) (hi := 3) (by decide))) (by decide)))⟩) (Eq.trans (pif_neg c_27) (pif_pos c_28)))).symm)⟩⟩, ⟨by rw [ht]; exact hP, hD⟩⟩, hS.F ht⟩) hS.2.2 dX7_goes_75
        · refine lv_iload hx hb dX7_goes_51 (lv_at hl 0 rfl) ?_
          refine lv_if_eq (tgt := 60) hx hb dX7_goes_53 (by decide) (fun (c_45 : r_25 = 0) => ?_) (fun (c_45 : ¬ (r_25 = 0)) => ?_)
          · refine lv_iconst (v := 0) hx hb dX7_goes_60 (by decide) ?_
            rw [hQ]
            exact W.iret (v := 0) hx hb hr (fun t ht hW => ⟨⟨0, C, rfl, ⟨hT, hF, ⟨hR, (fun A hA hok => by have hp := (show okPk (A 5 0 2) (A 5 0 3) x1 x2 by rw [← (show gi (C 0) 13 = A 5 0 2 from hA.1 2 (by decide)), ← (show gi (C 0) 15 = A 5 0 3 from hA.1 3 (by decide))]; exact u_10.2.2.2); have h3 : 0 ≤ x3 ∧ x3 < A 5 0 0 := (by rw [← (show gi (C 0) 9 = A 5 0 0 from hA.1 0 (by decide))]; exact u_20.2); have i3 : rg x3 0 23 := (rg_w (lo := 0) (hi := 23) u_20.1 (by decide)); have hgi := hq_26.2 A hA hok hp.1.2 h3.2; have hg : ¬ gsA A x1 x2 x3.toNatClampNeg := (fun q => absurd (Eq.trans (Eq.symm c_45) (hgi.mpr q)) (by decide)); exact ((Eq.trans (pif_pos ⟨hp, h3, (oh_rgI (p := 0) (q := 4) (rg_w (lo := 0) (hi := 4) (rn_eq c_27 (rg_c (v := 0) (lo := 0) (hi := 0) (by decide))) (by decide)))⟩) (Eq.trans (pif_pos c_27) (pif_neg hg)))).symm)⟩⟩, ⟨by rw [ht]; exact hP, hD⟩⟩, hS.F ht⟩) hS.2.2 dX7_goes_61
          · refine lv_iconst (v := 1) hx hb dX7_goes_56 (by decide) ?_
            refine lv_goto (tgt := 61) hx hb dX7_goes_57 (by decide) ?_
            rw [hQ]
            exact W.iret (v := 1) hx hb hr (fun t ht hW => ⟨⟨1, C, rfl, ⟨hT, hF, ⟨hR, (fun A hA hok => by have hp := (show okPk (A 5 0 2) (A 5 0 3) x1 x2 by rw [← (show gi (C 0) 13 = A 5 0 2 from hA.1 2 (by decide)), ← (show gi (C 0) 15 = A 5 0 3 from hA.1 3 (by decide))]; exact u_10.2.2.2); have h3 : 0 ≤ x3 ∧ x3 < A 5 0 0 := (by rw [← (show gi (C 0) 9 = A 5 0 0 from hA.1 0 (by decide))]; exact u_20.2); have i3 : rg x3 0 23 := (rg_w (lo := 0) (hi := 23) u_20.1 (by decide)); have hgi := hq_26.2 A hA hok hp.1.2 h3.2; have hg := hgi.mp (oh_b1 (rg_w (lo := 0) (hi := 1) (rn_nel (l' := 1) c_45 (oh_rgb hq_26.1) (rg_c (v := 0) (lo := 0) (hi := 0) (by decide)) (by decide)) (by decide)) c_45); exact ((Eq.trans (pif_pos ⟨hp, h3, (oh_rgI (p := 0) (q := 4) (rg_w (lo := 0) (hi := 4) (rn_eq c_27 (rg_c (v := 0) (lo := 0) (hi := 0) (by decide))) (by decide)))⟩) (Eq.trans (pif_pos c_27) (pif_pos hg)))).symm)⟩⟩, ⟨by rw [ht]; exact hP, hD⟩⟩, hS.F ht⟩) hS.2.2 dX7_goes_61
      · have u_46 := hq_22.2.2 c_23
        refine lv_aload_n hx hb dX7_goes_30 rfl (lv_at hl 0 rfl) ?_
        refine lv_bipush (v := (-2)) hx hb dX7_goes_31 (by decide) ?_
        refine tm_V (As := [.int (-2)]) (rest := []) ⟨hx, hb, hml, hown, htg⟩ (c_X7_refuse l D E G _ a C n hn hT ((-2) : Int32) (rg_w (rg_c (v := (-2)) (lo := (-2)) (hi := (-2)) (by decide)) (by decide))) (cwV 1 htg (oh_gV q_1071 q_1073 q_29 q_73 q_1074) rfl rfl rfl pdVX7_refuse ⟨Nat.le_of_ble_eq_true rfl, Nat.le_of_ble_eq_true rfl⟩) hK hP hD hG hS hA (va_recv hK hP (ci := 7) (q0 := 0) rfl (oh_wg (Nat.lt_of_lt_of_le (by decide) hn) (sM_0 hT))) rfl hl.1 rfl (Nat.le_of_ble_eq_true rfl) dX7_goes_33 ⟨Nat.le_of_ble_eq_true rfl, Nat.le_of_ble_eq_true rfl⟩ (fun r_47 C_48 H locs hq_49 hP hD hS => ?_)
        obtain ⟨hT, f_50, hq_49⟩ := hq_49
        have hF := fr_tr hF f_50 (by decide) (by decide)
        refine W.widen (k := 0) (n := 0) (Nat.le_refl _) (Nat.le_refl _) ?_
        have t_51 := hT
        rw [hQ]
        exact W.iret (v := r_47) hx hb hr (fun t ht hW => ⟨⟨r_47, C_48, rfl, ⟨hT, hF, ⟨⟨hR.1.fr hF (by decide), hR.2.fr hF (by decide)⟩, (fun A hA hok => Eq.trans hq_49 (pif_neg (fun h8 => (oh_in64 (l' := 0) (k' := 4) rfl rfl u_46) h8.2.2)).symm)⟩⟩, ⟨by rw [ht]; exact hP, hD⟩⟩, hS.F ht⟩) hS.2.2 dX7_goes_36

set_option maxHeartbeats 4000000 in
set_option maxRecDepth 100000 in
theorem e_X6_orStuck (l : Launch) (D : va_G) (E : Nat → ClassId) (G : Nat → Nat) (sz : Nat) (a : Nat → Nat) (C : Nat → va_E) (hT : TyX a E C) (x1 : Int32) : Met l yX6_orStuck (oh_w yX6_orStuck cX6_orStuck 2 (some .int)) ({ frames := 2, cells := 0, slots := 0, locals := 44 }) (oh_Pm D E G [.ref (a 0), .int x1] (oh_W 35 a C) sz) (va_Qi (fun r (u : Nat → va_E) => TyX a E u ∧ fr [(7, 8)] [] C u ∧ (r = pif (x1 = 1000000000) (-5) x1)) (oh_B D (va_A (oh_W 35 a C) sz) (fun u => oh_W 35 a u)) (va_A (oh_W 35 a C) sz)) 0 0 (va_A (oh_W 35 a C) sz) := by
  refine Met.ofW (cc := cX6_orStuck) (maxL := 2) (ret := (some .int)) (by decide) rfl ?_
  intro p e s m args below meth c s₁ B hml hv
  obtain ⟨rfl, hsz, hP, hK, hD0, hG⟩ := hv
  have hx := B.exec
  have hb := B.bytes
  have hr := B.returns
  have hts := atoms_spec (ws := (oh_w yX6_orStuck cX6_orStuck 2 (some .int))) B.pre
  have htg : ∀ w ∈ oh_t, w.before _ s = true := fun w h => hts w (List.mem_cons_of_mem _ h)
  have hown : s.vm.findClass RX6 = some m.cls := findClass_of_methodNamed B.named
  have hlocks := B.notSynchronized
  have hT0 := hT
  subst hsz
  have hD := hD0.self (sz := s.heap.size)
  generalize hAe : va_A (oh_W 35 a C) s.heap.size = A at hD hG ⊢
  have hA : ∀ q : Nat, s.heap.size ≤ q → A q := fun q h => by rw [← hAe]; exact Or.inr h
  have hS : va_S A s.heap s.heap [] := va_S.rf
  have hF : fr [(7, 8)] [] C C := fr_rf
  have hl := lv_entry ([.ref (a 0), .int x1]) (n := 2) (Nat.le_of_ble_eq_true rfl)
  rw [lg_entry_eq]
  generalize (lg_sl ([.ref (a 0), .int x1]) ++ List.replicate (2 - (lg_sl ([.ref (a 0), .int x1])).length) Slot.unset).toArray = ls at hl ⊢
  have hl : lv_has ls 2 [(0, .ref (a 0)), (1, .int x1)] := hl
  refine oh_genQ (fun Q hQ => ?_)
  refine lv_iload_n hx hb dX6_orStuck_0 rfl (lv_at hl 1 rfl) ?_
  refine lv_ldc (v := 1000000000) hx hb hown (htg _ q_803) dX6_orStuck_1 ?_
  refine lv_icmp_ne (tgt := 15) hx hb dX6_orStuck_3 (by decide) (fun (c_1 : ¬ (x1 = 1000000000)) => ?_) (fun (c_1 : x1 = 1000000000) => ?_)
  · refine lv_iload_n hx hb dX6_orStuck_15 rfl (lv_at hl 1 rfl) ?_
    rw [hQ]
    exact W.iret (v := x1) hx hb hr (fun t ht hW => ⟨⟨x1, C, rfl, ⟨hT, hF, (pif_neg c_1).symm⟩, ⟨by rw [ht]; exact hP, hD⟩⟩, hS.F ht⟩) hS.2.2 dX6_orStuck_16
  · refine lv_aload_n hx hb dX6_orStuck_6 rfl (lv_at hl 0 rfl) ?_
    refine lv_bipush (v := (-5)) hx hb dX6_orStuck_7 (by decide) ?_
    refine tm_V (As := [.int (-5)]) (rest := []) ⟨hx, hb, hml, hown, htg⟩ (c_X6_refuse l D E G _ a C hT ((-5) : Int32)) (cwV 1 htg (oh_gV q_296 q_298 q_0 q_66 q_299) rfl rfl rfl pdVX6_refuse ⟨Nat.le_of_ble_eq_true rfl, Nat.le_of_ble_eq_true rfl⟩) hK hP hD hG hS hA (va_recv hK hP (ci := 6) (q0 := 0) rfl (oh_wg (by decide) (sX_0 hT))) rfl hl.1 rfl (Nat.le_of_ble_eq_true rfl) dX6_orStuck_9 ⟨Nat.le_of_ble_eq_true rfl, Nat.le_of_ble_eq_true rfl⟩ (fun r_2 C_3 H locs hq_4 hP hD hS => ?_)
    obtain ⟨hT, f_5, hq_4⟩ := hq_4
    have hF := fr_tr hF f_5 (by decide) (by decide)
    refine W.widen (k := 0) (n := 0) (Nat.le_refl _) (Nat.le_refl _) ?_
    have t_6 := hT
    refine lv_goto (tgt := 16) hx hb dX6_orStuck_12 (by decide) ?_
    rw [hQ]
    exact W.iret (v := r_2) hx hb hr (fun t ht hW => ⟨⟨r_2, C_3, rfl, ⟨hT, hF, (Eq.trans hq_4 (pif_pos c_1).symm)⟩, ⟨by rw [ht]; exact hP, hD⟩⟩, hS.F ht⟩) hS.2.2 dX6_orStuck_16

set_option maxHeartbeats 4000000 in
set_option maxRecDepth 100000 in
theorem e_X6_cheapest (l : Launch) (D : va_G) (E : Nat → ClassId) (G : Nat → Nat) (sz : Nat) (a : Nat → Nat) (C : Nat → va_E) (hT : TyX a E C) (x1 : Int32) (x2 : Int32) (x3 : Int32) (x4 : Int32) : Met l yX6_cheapest (oh_w yX6_cheapest cX6_cheapest 5 (some .int)) ({ frames := 5, cells := 0, slots := 0, locals := 125 }) (oh_Pm D E G [.ref (a 0), .int x1, .int x2, .int x3, .int x4] (oh_W 35 a C) sz) (va_Qi (fun r (u : Nat → va_E) => TyX a E u ∧ fr [(7, 8), (9, 10), (24, 28)] [] C u ∧ (∀ A : LA, absX 10 C A → okA A → r = spChp A x1 x2 x3 x4 1)) (oh_B D (va_A (oh_W 35 a C) sz) (fun u => oh_W 35 a u)) (va_A (oh_W 35 a C) sz)) 0 0 (va_A (oh_W 35 a C) sz) := by
  refine Met.ofW (cc := cX6_cheapest) (maxL := 5) (ret := (some .int)) (by decide) rfl ?_
  intro p e s m args below meth c s₁ B hml hv
  obtain ⟨rfl, hsz, hP, hK, hD0, hG⟩ := hv
  have hx := B.exec
  have hb := B.bytes
  have hr := B.returns
  have hts := atoms_spec (ws := (oh_w yX6_cheapest cX6_cheapest 5 (some .int))) B.pre
  have htg : ∀ w ∈ oh_t, w.before _ s = true := fun w h => hts w (List.mem_cons_of_mem _ h)
  have hown : s.vm.findClass RX6 = some m.cls := findClass_of_methodNamed B.named
  have hlocks := B.notSynchronized
  have hT0 := hT
  subst hsz
  have hD := hD0.self (sz := s.heap.size)
  generalize hAe : va_A (oh_W 35 a C) s.heap.size = A at hD hG ⊢
  have hA : ∀ q : Nat, s.heap.size ≤ q → A q := fun q h => by rw [← hAe]; exact Or.inr h
  have hS : va_S A s.heap s.heap [] := va_S.rf
  have hF : fr [(7, 8), (9, 10), (24, 28)] [] C C := fr_rf
  have hl := lv_entry ([.ref (a 0), .int x1, .int x2, .int x3, .int x4]) (n := 5) (Nat.le_of_ble_eq_true rfl)
  rw [lg_entry_eq]
  generalize (lg_sl ([.ref (a 0), .int x1, .int x2, .int x3, .int x4]) ++ List.replicate (5 - (lg_sl ([.ref (a 0), .int x1, .int x2, .int x3, .int x4])).length) Slot.unset).toArray = ls at hl ⊢
  have hl : lv_has ls 5 [(0, .ref (a 0)), (1, .int x1), (2, .int x2), (3, .int x3), (4, .int x4)] := hl
  refine oh_genQ (fun Q hQ => ?_)
  refine lv_aload_n hx hb dX6_cheapest_0 rfl (lv_at hl 0 rfl) ?_
  refine lv_iload_n hx hb dX6_cheapest_1 rfl (lv_at hl 1 rfl) ?_
  refine lv_iload_n hx hb dX6_cheapest_2 rfl (lv_at hl 2 rfl) ?_
  refine lv_iload_n hx hb dX6_cheapest_3 rfl (lv_at hl 3 rfl) ?_
  refine lv_iload hx hb dX6_cheapest_4 (lv_at hl 4 rfl) ?_
  refine tq_V (As := [.int x1, .int x2, .int x3, .int x4]) (rest := []) (ws := (oh_W 35 a C)) ⟨hx, hb, hml, hown, htg⟩ (e_X6_isJourney l D E G a C hT x1 x2 x3 x4) (cwV 4 htg (oh_gV q_776 q_778 q_17 q_66 q_779) rfl rfl rfl pdVX6_isJourney ⟨Nat.le_of_ble_eq_true rfl, Nat.le_of_ble_eq_true rfl⟩) hK hP hG hS (va_recv hK hP (ci := 6) (q0 := 0) rfl (oh_wg (by decide) (sX_0 hT))) rfl hl.1 rfl (Nat.le_of_ble_eq_true rfl) dX6_cheapest_6 ⟨Nat.le_of_ble_eq_true rfl, Nat.le_of_ble_eq_true rfl⟩ (fun r_1 hq_2 => ?_)
  refine lv_if_ne (tgt := 19) hx hb dX6_cheapest_9 (by decide) (fun (c_3 : ¬ (r_1 = 0)) => ?_) (fun (c_3 : r_1 = 0) => ?_)
  · have u_4 := hq_2.2.1 c_3
    refine lv_aload_n hx hb dX6_cheapest_19 rfl (lv_at hl 0 rfl) ?_
    refine lv_aload_n hx hb dX6_cheapest_20 rfl (lv_at hl 0 rfl) ?_
    refine va_get (D := D) (ci := 6) (v := .ref (a 3)) (C := RX6) (T := TX6) (N := 9) hx hb htg ig_6 hown hK hP 0 (oh_wg (by decide) (sX_0 hT)) rfl 3 (by decide) (htg _ q_261) (fun _ h9 => h9) rfl dX6_cheapest_21 ?_
    refine lv_iload_n hx hb dX6_cheapest_24 rfl (lv_at hl 1 rfl) ?_
    refine lv_iload_n hx hb dX6_cheapest_25 rfl (lv_at hl 2 rfl) ?_
    refine lv_iload_n hx hb dX6_cheapest_26 rfl (lv_at hl 3 rfl) ?_
    refine lv_iload hx hb dX6_cheapest_27 (lv_at hl 4 rfl) ?_
    refine lv_iconst (v := 1) hx hb dX6_cheapest_29 (by decide) ?_
    refine tm_V (As := [.int x1, .int x2, .int x3, .int x4, .int 1]) (rest := [.ref (a 0)]) ⟨hx, hb, hml, hown, htg⟩ (e_X5_leastCoin l D E G _ a C hT x1 x2 x3 x4 (1 : Int32) (rg_w u_4.1 (by decide)) (rg_w u_4.2.1 (by decide)) (rg_w u_4.2.2.1 (by decide))) (cwV 5 htg (oh_gV q_780 q_781 q_782 q_68 q_783) rfl rfl rfl pdVX5_leastCoin ⟨Nat.le_of_ble_eq_true rfl, Nat.le_of_ble_eq_true rfl⟩) hK hP hD hG hS hA (va_recv hK hP (ci := 5) (q0 := 3) rfl (oh_wg (by decide) (sX_3 hT))) rfl hl.1 rfl (Nat.le_of_ble_eq_true rfl) dX6_cheapest_30 ⟨Nat.le_of_ble_eq_true rfl, Nat.le_of_ble_eq_true rfl⟩ (fun r_5 C_6 H locs hq_7 hP hD hS => ?_)
    obtain ⟨hT, f_8, hq_7⟩ := hq_7
    have hF := fr_tr hF f_8 (by decide) (by decide)
    refine W.widen (k := 0) (n := 0) (Nat.le_refl _) (Nat.le_refl _) ?_
    have t_9 := hT
    refine tm_V (As := [.int r_5]) (rest := []) ⟨hx, hb, hml, hown, htg⟩ (e_X6_orStuck l D E G _ a C_6 hT r_5) (cwV 1 htg (oh_gV q_799 q_801 q_21 q_66 q_802) rfl rfl rfl pdVX6_orStuck ⟨Nat.le_of_ble_eq_true rfl, Nat.le_of_ble_eq_true rfl⟩) hK hP hD hG hS hA (va_recv hK hP (ci := 6) (q0 := 0) rfl (oh_wg (by decide) (sX_0 hT))) rfl hl.1 rfl (Nat.le_of_ble_eq_true rfl) dX6_cheapest_33 ⟨Nat.le_of_ble_eq_true rfl, Nat.le_of_ble_eq_true rfl⟩ (fun r_10 C_11 H locs hq_12 hP hD hS => ?_)
    obtain ⟨hT, f_13, hq_12⟩ := hq_12
    have hF := fr_tr hF f_13 (by decide) (by decide)
    refine W.widen (k := 0) (n := 0) (Nat.le_refl _) (Nat.le_refl _) ?_
    have t_14 := hT
    rw [hQ]
    exact W.iret (v := r_10) hx hb hr (fun t ht hW => ⟨⟨r_10, C_11, rfl, ⟨hT, hF, (fun A hA hok => by have hj : okJ A x1 x2 x3 x4 := (by unfold okJ; rw [← (show ga (C 10) ((2 : Int32)).toNatClampNeg = A 5 0 2 from hA.1 2 (by decide)), ← (show ga (C 10) ((3 : Int32)).toNatClampNeg = A 5 0 3 from hA.1 3 (by decide))]; exact u_4.2.2.2); exact Eq.trans (Eq.trans hq_12 (lc_st hok (rg_w (lo := 0) (hi := 4) u_4.1 (by decide)) hj.1.1.2 ⟨by decide, by decide⟩ (rg_w (lo := 0) (hi := 15) u_4.2.1 (by decide)) (rg_w (lo := 0) (hi := 15) u_4.2.2.1 (by decide)) (hq_7 A hA hok hj.1.1.2 ⟨by decide, by decide⟩))) (pif_pos ⟨hj, ⟨by decide, by decide⟩⟩).symm)⟩, ⟨by rw [ht]; exact hP, hD⟩⟩, hS.F ht⟩) hS.2.2 dX6_cheapest_36
  · have u_15 := hq_2.2.2 c_3
    refine lv_aload_n hx hb dX6_cheapest_12 rfl (lv_at hl 0 rfl) ?_
    refine lv_bipush (v := (-2)) hx hb dX6_cheapest_13 (by decide) ?_
    refine tm_V (As := [.int (-2)]) (rest := []) ⟨hx, hb, hml, hown, htg⟩ (c_X6_refuse l D E G _ a C hT ((-2) : Int32)) (cwV 1 htg (oh_gV q_296 q_298 q_0 q_66 q_299) rfl rfl rfl pdVX6_refuse ⟨Nat.le_of_ble_eq_true rfl, Nat.le_of_ble_eq_true rfl⟩) hK hP hD hG hS hA (va_recv hK hP (ci := 6) (q0 := 0) rfl (oh_wg (by decide) (sX_0 hT))) rfl hl.1 rfl (Nat.le_of_ble_eq_true rfl) dX6_cheapest_15 ⟨Nat.le_of_ble_eq_true rfl, Nat.le_of_ble_eq_true rfl⟩ (fun r_16 C_17 H locs hq_18 hP hD hS => ?_)
    obtain ⟨hT, f_19, hq_18⟩ := hq_18
    have hF := fr_tr hF f_19 (by decide) (by decide)
    refine W.widen (k := 0) (n := 0) (Nat.le_refl _) (Nat.le_refl _) ?_
    have t_20 := hT
    rw [hQ]
    exact W.iret (v := r_16) hx hb hr (fun t ht hW => ⟨⟨r_16, C_17, rfl, ⟨hT, hF, (fun A hA hok => Eq.trans hq_18 (pif_neg (fun h8 => by have h7 := h8.1; unfold okJ at h7; rw [← (show ga (C 10) ((2 : Int32)).toNatClampNeg = A 5 0 2 from hA.1 2 (by decide)), ← (show ga (C 10) ((3 : Int32)).toNatClampNeg = A 5 0 3 from hA.1 3 (by decide))] at h7; exact u_15 h7)).symm)⟩, ⟨by rw [ht]; exact hP, hD⟩⟩, hS.F ht⟩) hS.2.2 dX6_cheapest_18

set_option maxHeartbeats 4000000 in
set_option maxRecDepth 100000 in
theorem e_X6_again (l : Launch) (D : va_G) (E : Nat → ClassId) (G : Nat → Nat) (sz : Nat) (a : Nat → Nat) (C : Nat → va_E) (hT : TyX a E C) (x1 : Int32) (x2 : Int32) (x3 : Int32) (x4 : Int32) (x5 : Int32) : Met l yX6_again (oh_w yX6_again cX6_again 6 (some .int)) ({ frames := 5, cells := 0, slots := 0, locals := 125 }) (oh_Pm D E G [.ref (a 0), .int x1, .int x2, .int x3, .int x4, .int x5] (oh_W 35 a C) sz) (va_Qi (fun r (u : Nat → va_E) => TyX a E u ∧ fr [(7, 8), (9, 10), (24, 28)] [] C u ∧ (∀ A : LA, absX 10 C A → okA A → r = spChp A x1 x2 x3 x4 x5)) (oh_B D (va_A (oh_W 35 a C) sz) (fun u => oh_W 35 a u)) (va_A (oh_W 35 a C) sz)) 0 0 (va_A (oh_W 35 a C) sz) := by
  refine Met.ofW (cc := cX6_again) (maxL := 6) (ret := (some .int)) (by decide) rfl ?_
  intro p e s m args below meth c s₁ B hml hv
  obtain ⟨rfl, hsz, hP, hK, hD0, hG⟩ := hv
  have hx := B.exec
  have hb := B.bytes
  have hr := B.returns
  have hts := atoms_spec (ws := (oh_w yX6_again cX6_again 6 (some .int))) B.pre
  have htg : ∀ w ∈ oh_t, w.before _ s = true := fun w h => hts w (List.mem_cons_of_mem _ h)
  have hown : s.vm.findClass RX6 = some m.cls := findClass_of_methodNamed B.named
  have hlocks := B.notSynchronized
  have hT0 := hT
  subst hsz
  have hD := hD0.self (sz := s.heap.size)
  generalize hAe : va_A (oh_W 35 a C) s.heap.size = A at hD hG ⊢
  have hA : ∀ q : Nat, s.heap.size ≤ q → A q := fun q h => by rw [← hAe]; exact Or.inr h
  have hS : va_S A s.heap s.heap [] := va_S.rf
  have hF : fr [(7, 8), (9, 10), (24, 28)] [] C C := fr_rf
  have hl := lv_entry ([.ref (a 0), .int x1, .int x2, .int x3, .int x4, .int x5]) (n := 6) (Nat.le_of_ble_eq_true rfl)
  rw [lg_entry_eq]
  generalize (lg_sl ([.ref (a 0), .int x1, .int x2, .int x3, .int x4, .int x5]) ++ List.replicate (6 - (lg_sl ([.ref (a 0), .int x1, .int x2, .int x3, .int x4, .int x5])).length) Slot.unset).toArray = ls at hl ⊢
  have hl : lv_has ls 6 [(0, .ref (a 0)), (1, .int x1), (2, .int x2), (3, .int x3), (4, .int x4), (5, .int x5)] := hl
  refine oh_genQ (fun Q hQ => ?_)
  refine lv_aload_n hx hb dX6_again_0 rfl (lv_at hl 0 rfl) ?_
  refine lv_iload_n hx hb dX6_again_1 rfl (lv_at hl 1 rfl) ?_
  refine lv_iload_n hx hb dX6_again_2 rfl (lv_at hl 2 rfl) ?_
  refine lv_iload_n hx hb dX6_again_3 rfl (lv_at hl 3 rfl) ?_
  refine lv_iload hx hb dX6_again_4 (lv_at hl 4 rfl) ?_
  refine tq_V (As := [.int x1, .int x2, .int x3, .int x4]) (rest := []) (ws := (oh_W 35 a C)) ⟨hx, hb, hml, hown, htg⟩ (e_X6_isJourney l D E G a C hT x1 x2 x3 x4) (cwV 4 htg (oh_gV q_776 q_778 q_17 q_66 q_779) rfl rfl rfl pdVX6_isJourney ⟨Nat.le_of_ble_eq_true rfl, Nat.le_of_ble_eq_true rfl⟩) hK hP hG hS (va_recv hK hP (ci := 6) (q0 := 0) rfl (oh_wg (by decide) (sX_0 hT))) rfl hl.1 rfl (Nat.le_of_ble_eq_true rfl) dX6_again_6 ⟨Nat.le_of_ble_eq_true rfl, Nat.le_of_ble_eq_true rfl⟩ (fun r_1 hq_2 => ?_)
  refine lv_if_eq (tgt := 23) hx hb dX6_again_9 (by decide) (fun (c_3 : r_1 = 0) => ?_) (fun (c_3 : ¬ (r_1 = 0)) => ?_)
  · have u_4 := hq_2.2.2 c_3
    refine lv_aload_n hx hb dX6_again_23 rfl (lv_at hl 0 rfl) ?_
    refine lv_bipush (v := (-2)) hx hb dX6_again_24 (by decide) ?_
    refine tm_V (As := [.int (-2)]) (rest := []) ⟨hx, hb, hml, hown, htg⟩ (c_X6_refuse l D E G _ a C hT ((-2) : Int32)) (cwV 1 htg (oh_gV q_296 q_298 q_0 q_66 q_299) rfl rfl rfl pdVX6_refuse ⟨Nat.le_of_ble_eq_true rfl, Nat.le_of_ble_eq_true rfl⟩) hK hP hD hG hS hA (va_recv hK hP (ci := 6) (q0 := 0) rfl (oh_wg (by decide) (sX_0 hT))) rfl hl.1 rfl (Nat.le_of_ble_eq_true rfl) dX6_again_26 ⟨Nat.le_of_ble_eq_true rfl, Nat.le_of_ble_eq_true rfl⟩ (fun r_5 C_6 H locs hq_7 hP hD hS => ?_)
    obtain ⟨hT, f_8, hq_7⟩ := hq_7
    have hF := fr_tr hF f_8 (by decide) (by decide)
    refine W.widen (k := 0) (n := 0) (Nat.le_refl _) (Nat.le_refl _) ?_
    have t_9 := hT
    rw [hQ]
    exact W.iret (v := r_5) hx hb hr (fun t ht hW => ⟨⟨r_5, C_6, rfl, ⟨hT, hF, (fun A hA hok => Eq.trans hq_7 (pif_neg (fun h8 => by have h7 := h8.1; unfold okJ at h7; rw [← (show ga (C 10) ((2 : Int32)).toNatClampNeg = A 5 0 2 from hA.1 2 (by decide)), ← (show ga (C 10) ((3 : Int32)).toNatClampNeg = A 5 0 3 from hA.1 3 (by decide))] at h7; exact u_4 h7)).symm)⟩, ⟨by rw [ht]; exact hP, hD⟩⟩, hS.F ht⟩) hS.2.2 dX6_again_29
  · have u_10 := hq_2.2.1 c_3
    refine lv_iload hx hb dX6_again_12 (lv_at hl 5 rfl) ?_
    refine lv_iconst (v := 1) hx hb dX6_again_14 (by decide) ?_
    refine lv_bipush (v := 20) hx hb dX6_again_15 (by decide) ?_
    refine tq_S (As := [.int x5, .int 1, .int 20]) (rest := []) (ws := []) ⟨hx, hb, hml, hown, htg⟩ (c_X6_within l D E G x5 (1 : Int32) (20 : Int32)) (va_cwS 3 htg (oh_gS q_293 q_294 q_66 q_295) rfl rfl rfl pdX6_within ⟨Nat.le_of_ble_eq_true rfl, Nat.le_of_ble_eq_true rfl⟩) hK va_nil hG hS rfl hl.1 rfl (Nat.le_of_ble_eq_true rfl) dX6_again_17 ⟨Nat.le_of_ble_eq_true rfl, Nat.le_of_ble_eq_true rfl⟩ (fun r_11 hq_12 => ?_)
    refine lv_if_ne (tgt := 30) hx hb dX6_again_20 (by decide) (fun (c_13 : ¬ (r_11 = 0)) => ?_) (fun (c_13 : r_11 = 0) => ?_)
    · have u_14 := hq_12.2.1 c_13
      refine lv_aload_n hx hb dX6_again_30 rfl (lv_at hl 0 rfl) ?_
      refine lv_aload_n hx hb dX6_again_31 rfl (lv_at hl 0 rfl) ?_
      refine va_get (D := D) (ci := 6) (v := .ref (a 3)) (C := RX6) (T := TX6) (N := 9) hx hb htg ig_6 hown hK hP 0 (oh_wg (by decide) (sX_0 hT)) rfl 3 (by decide) (htg _ q_261) (fun _ h9 => h9) rfl dX6_again_32 ?_
      refine lv_iload_n hx hb dX6_again_35 rfl (lv_at hl 1 rfl) ?_
      refine lv_iload_n hx hb dX6_again_36 rfl (lv_at hl 2 rfl) ?_
      refine lv_iload_n hx hb dX6_again_37 rfl (lv_at hl 3 rfl) ?_
      refine lv_iload hx hb dX6_again_38 (lv_at hl 4 rfl) ?_
      refine lv_iload hx hb dX6_again_40 (lv_at hl 5 rfl) ?_
      refine tm_V (As := [.int x1, .int x2, .int x3, .int x4, .int x5]) (rest := [.ref (a 0)]) ⟨hx, hb, hml, hown, htg⟩ (e_X5_leastCoin l D E G _ a C hT x1 x2 x3 x4 x5 (rg_w u_10.1 (by decide)) (rg_w u_10.2.1 (by decide)) (rg_w u_10.2.2.1 (by decide))) (cwV 5 htg (oh_gV q_780 q_781 q_782 q_68 q_783) rfl rfl rfl pdVX5_leastCoin ⟨Nat.le_of_ble_eq_true rfl, Nat.le_of_ble_eq_true rfl⟩) hK hP hD hG hS hA (va_recv hK hP (ci := 5) (q0 := 3) rfl (oh_wg (by decide) (sX_3 hT))) rfl hl.1 rfl (Nat.le_of_ble_eq_true rfl) dX6_again_42 ⟨Nat.le_of_ble_eq_true rfl, Nat.le_of_ble_eq_true rfl⟩ (fun r_15 C_16 H locs hq_17 hP hD hS => ?_)
      obtain ⟨hT, f_18, hq_17⟩ := hq_17
      have hF := fr_tr hF f_18 (by decide) (by decide)
      refine W.widen (k := 0) (n := 0) (Nat.le_refl _) (Nat.le_refl _) ?_
      have t_19 := hT
      refine tm_V (As := [.int r_15]) (rest := []) ⟨hx, hb, hml, hown, htg⟩ (e_X6_orStuck l D E G _ a C_16 hT r_15) (cwV 1 htg (oh_gV q_799 q_801 q_21 q_66 q_802) rfl rfl rfl pdVX6_orStuck ⟨Nat.le_of_ble_eq_true rfl, Nat.le_of_ble_eq_true rfl⟩) hK hP hD hG hS hA (va_recv hK hP (ci := 6) (q0 := 0) rfl (oh_wg (by decide) (sX_0 hT))) rfl hl.1 rfl (Nat.le_of_ble_eq_true rfl) dX6_again_45 ⟨Nat.le_of_ble_eq_true rfl, Nat.le_of_ble_eq_true rfl⟩ (fun r_20 C_21 H locs hq_22 hP hD hS => ?_)
      obtain ⟨hT, f_23, hq_22⟩ := hq_22
      have hF := fr_tr hF f_23 (by decide) (by decide)
      refine W.widen (k := 0) (n := 0) (Nat.le_refl _) (Nat.le_refl _) ?_
      have t_24 := hT
      rw [hQ]
      exact W.iret (v := r_20) hx hb hr (fun t ht hW => ⟨⟨r_20, C_21, rfl, ⟨hT, hF, (fun A hA hok => by have hj : okJ A x1 x2 x3 x4 := (by unfold okJ; rw [← (show ga (C 10) ((2 : Int32)).toNatClampNeg = A 5 0 2 from hA.1 2 (by decide)), ← (show ga (C 10) ((3 : Int32)).toNatClampNeg = A 5 0 3 from hA.1 3 (by decide))]; exact u_10.2.2.2); exact Eq.trans (Eq.trans hq_22 (lc_st hok (rg_w (lo := 0) (hi := 4) u_10.1 (by decide)) hj.1.1.2 (rg_w (lo := 0) (hi := 20) (rn_leu u_14.2 (rn_lel u_14.1 (rg_c (v := 1) (lo := 1) (hi := 1) (by decide)) (rg_any _)) (rg_c (v := 20) (lo := 20) (hi := 20) (by decide))) (by decide)) (rg_w (lo := 0) (hi := 15) u_10.2.1 (by decide)) (rg_w (lo := 0) (hi := 15) u_10.2.2.1 (by decide)) (hq_17 A hA hok hj.1.1.2 (rg_w (lo := 0) (hi := 20) (rn_leu u_14.2 (rn_lel u_14.1 (rg_c (v := 1) (lo := 1) (hi := 1) (by decide)) (rg_any _)) (rg_c (v := 20) (lo := 20) (hi := 20) (by decide))) (by decide))))) (pif_pos ⟨hj, (oh_rgI (p := 1) (q := 20) (rg_w (lo := 1) (hi := 20) (rn_leu u_14.2 (rn_lel u_14.1 (rg_c (v := 1) (lo := 1) (hi := 1) (by decide)) (rg_any _)) (rg_c (v := 20) (lo := 20) (hi := 20) (by decide))) (by decide)))⟩).symm)⟩, ⟨by rw [ht]; exact hP, hD⟩⟩, hS.F ht⟩) hS.2.2 dX6_again_48
    · have u_25 := hq_12.2.2 c_13
      refine lv_aload_n hx hb dX6_again_23 rfl (lv_at hl 0 rfl) ?_
      refine lv_bipush (v := (-2)) hx hb dX6_again_24 (by decide) ?_
      refine tm_V (As := [.int (-2)]) (rest := []) ⟨hx, hb, hml, hown, htg⟩ (c_X6_refuse l D E G _ a C hT ((-2) : Int32)) (cwV 1 htg (oh_gV q_296 q_298 q_0 q_66 q_299) rfl rfl rfl pdVX6_refuse ⟨Nat.le_of_ble_eq_true rfl, Nat.le_of_ble_eq_true rfl⟩) hK hP hD hG hS hA (va_recv hK hP (ci := 6) (q0 := 0) rfl (oh_wg (by decide) (sX_0 hT))) rfl hl.1 rfl (Nat.le_of_ble_eq_true rfl) dX6_again_26 ⟨Nat.le_of_ble_eq_true rfl, Nat.le_of_ble_eq_true rfl⟩ (fun r_26 C_27 H locs hq_28 hP hD hS => ?_)
      obtain ⟨hT, f_29, hq_28⟩ := hq_28
      have hF := fr_tr hF f_29 (by decide) (by decide)
      refine W.widen (k := 0) (n := 0) (Nat.le_refl _) (Nat.le_refl _) ?_
      have t_30 := hT
      rw [hQ]
      exact W.iret (v := r_26) hx hb hr (fun t ht hW => ⟨⟨r_26, C_27, rfl, ⟨hT, hF, (fun A hA hok => Eq.trans hq_28 (pif_neg (fun h8 => u_25 h8.2)).symm)⟩, ⟨by rw [ht]; exact hP, hD⟩⟩, hS.F ht⟩) hS.2.2 dX6_again_29

set_option maxHeartbeats 4000000 in
set_option maxRecDepth 100000 in
theorem e_X7_again (l : Launch) (D : va_G) (E : Nat → ClassId) (G : Nat → Nat) (sz : Nat) (a : Nat → Nat) (C : Nat → va_E) (n : Nat) (hn : 74 ≤ n) (hT : TyM a E C) (x1 : Int32) (x2 : Int32) (x3 : Int32) (x4 : Int32) (x5 : Int32) (hR : RelM C) : Met l yX7_again (oh_w yX7_again cX7_again 7 (some .int)) ({ frames := 7, cells := 0, slots := 0, locals := 177 }) (oh_Pm D E G [.ref (a 0), .int x1, .int x2, .int x3, .int x4, .int x5] (oh_W n a C) sz) (va_Qi (fun r (u : Nat → va_E) => TyM a E u ∧ fr [(8, 9), (15, 16)] [] C u ∧ (RelM u) ∧ (∀ A : LA, absM C A → okA A → r = spChp A x1 x2 x3 x4 x5)) (oh_B D (va_A (oh_W n a C) sz) (fun u => oh_W n a u)) (va_A (oh_W n a C) sz)) 0 0 (va_A (oh_W n a C) sz) := by
  refine Met.ofW (cc := cX7_again) (maxL := 7) (ret := (some .int)) (by decide) rfl ?_
  intro p e s m args below meth c s₁ B hml hv
  obtain ⟨rfl, hsz, hP, hK, hD0, hG⟩ := hv
  have hx := B.exec
  have hb := B.bytes
  have hr := B.returns
  have hts := atoms_spec (ws := (oh_w yX7_again cX7_again 7 (some .int))) B.pre
  have htg : ∀ w ∈ oh_t, w.before _ s = true := fun w h => hts w (List.mem_cons_of_mem _ h)
  have hown : s.vm.findClass RX7 = some m.cls := findClass_of_methodNamed B.named
  have hlocks := B.notSynchronized
  have hT0 := hT
  subst hsz
  have hD := hD0.self (sz := s.heap.size)
  generalize hAe : va_A (oh_W n a C) s.heap.size = A at hD hG ⊢
  have hA : ∀ q : Nat, s.heap.size ≤ q → A q := fun q h => by rw [← hAe]; exact Or.inr h
  have hS : va_S A s.heap s.heap [] := va_S.rf
  have hF : fr [(8, 9), (15, 16)] [] C C := fr_rf
  have hl := lv_entry ([.ref (a 0), .int x1, .int x2, .int x3, .int x4, .int x5]) (n := 7) (Nat.le_of_ble_eq_true rfl)
  rw [lg_entry_eq]
  generalize (lg_sl ([.ref (a 0), .int x1, .int x2, .int x3, .int x4, .int x5]) ++ List.replicate (7 - (lg_sl ([.ref (a 0), .int x1, .int x2, .int x3, .int x4, .int x5])).length) Slot.unset).toArray = ls at hl ⊢
  have hl : lv_has ls 7 [(0, .ref (a 0)), (1, .int x1), (2, .int x2), (3, .int x3), (4, .int x4), (5, .int x5)] := hl
  refine oh_genQ (fun Q hQ => ?_)
  refine lv_aload_n hx hb dX7_again_0 rfl (lv_at hl 0 rfl) ?_
  refine lv_iload_n hx hb dX7_again_1 rfl (lv_at hl 1 rfl) ?_
  refine lv_iload_n hx hb dX7_again_2 rfl (lv_at hl 2 rfl) ?_
  refine tq_V (As := [.int x1, .int x2]) (rest := []) (ws := (oh_W n a C)) ⟨hx, hb, hml, hown, htg⟩ (e_X7_isPack l D E G a C n hn hT x1 x2 hR.1) (cwV 2 htg (oh_gV q_1290 q_1292 q_50 q_73 q_1293) rfl rfl rfl pdVX7_isPack ⟨Nat.le_of_ble_eq_true rfl, Nat.le_of_ble_eq_true rfl⟩) hK hP hG hS (va_recv hK hP (ci := 7) (q0 := 0) rfl (oh_wg (Nat.lt_of_lt_of_le (by decide) hn) (sM_0 hT))) rfl hl.1 rfl (Nat.le_of_ble_eq_true rfl) dX7_again_3 ⟨Nat.le_of_ble_eq_true rfl, Nat.le_of_ble_eq_true rfl⟩ (fun r_1 hq_2 => ?_)
  refine lv_if_eq (tgt := 37) hx hb dX7_again_6 (by decide) (fun (c_3 : r_1 = 0) => ?_) (fun (c_3 : ¬ (r_1 = 0)) => ?_)
  · have u_4 := hq_2.2.2 c_3
    refine lv_aload_n hx hb dX7_again_37 rfl (lv_at hl 0 rfl) ?_
    refine lv_bipush (v := (-2)) hx hb dX7_again_38 (by decide) ?_
    refine tm_V (As := [.int (-2)]) (rest := []) ⟨hx, hb, hml, hown, htg⟩ (c_X7_refuse l D E G _ a C n hn hT ((-2) : Int32) (rg_w (rg_c (v := (-2)) (lo := (-2)) (hi := (-2)) (by decide)) (by decide))) (cwV 1 htg (oh_gV q_1071 q_1073 q_29 q_73 q_1074) rfl rfl rfl pdVX7_refuse ⟨Nat.le_of_ble_eq_true rfl, Nat.le_of_ble_eq_true rfl⟩) hK hP hD hG hS hA (va_recv hK hP (ci := 7) (q0 := 0) rfl (oh_wg (Nat.lt_of_lt_of_le (by decide) hn) (sM_0 hT))) rfl hl.1 rfl (Nat.le_of_ble_eq_true rfl) dX7_again_40 ⟨Nat.le_of_ble_eq_true rfl, Nat.le_of_ble_eq_true rfl⟩ (fun r_5 C_6 H locs hq_7 hP hD hS => ?_)
    obtain ⟨hT, f_8, hq_7⟩ := hq_7
    have hF := fr_tr hF f_8 (by decide) (by decide)
    refine W.widen (k := 0) (n := 0) (Nat.le_refl _) (Nat.le_refl _) ?_
    have t_9 := hT
    rw [hQ]
    exact W.iret (v := r_5) hx hb hr (fun t ht hW => ⟨⟨r_5, C_6, rfl, ⟨hT, hF, ⟨⟨hR.1.fr hF (by decide), hR.2.fr hF (by decide)⟩, (fun A hA hok => Eq.trans hq_7 (pif_neg (fun h8 => by have h7 := h8.1; unfold okJ at h7; rw [← (show gi (C 0) 13 = A 5 0 2 from hA.1 2 (by decide)), ← (show gi (C 0) 15 = A 5 0 3 from hA.1 3 (by decide))] at h7; exact u_4 h7.1)).symm)⟩⟩, ⟨by rw [ht]; exact hP, hD⟩⟩, hS.F ht⟩) hS.2.2 dX7_again_43
  · have u_10 := hq_2.2.1 c_3
    refine lv_iload_n hx hb dX7_again_9 rfl (lv_at hl 3 rfl) ?_
    refine tq_S (As := [.int x3]) (rest := []) (ws := []) ⟨hx, hb, hml, hown, htg⟩ (e_X7_isPlace l D E G x3) (va_cwS 1 htg (oh_gS q_1130 q_1131 q_73 q_1132) rfl rfl rfl pdX7_isPlace ⟨Nat.le_of_ble_eq_true rfl, Nat.le_of_ble_eq_true rfl⟩) hK va_nil hG hS rfl hl.1 rfl (Nat.le_of_ble_eq_true rfl) dX7_again_10 ⟨Nat.le_of_ble_eq_true rfl, Nat.le_of_ble_eq_true rfl⟩ (fun r_11 hq_12 => ?_)
    refine lv_if_eq (tgt := 37) hx hb dX7_again_13 (by decide) (fun (c_13 : r_11 = 0) => ?_) (fun (c_13 : ¬ (r_11 = 0)) => ?_)
    · have u_14 := hq_12.2.2 c_13
      refine lv_aload_n hx hb dX7_again_37 rfl (lv_at hl 0 rfl) ?_
      refine lv_bipush (v := (-2)) hx hb dX7_again_38 (by decide) ?_
      refine tm_V (As := [.int (-2)]) (rest := []) ⟨hx, hb, hml, hown, htg⟩ (c_X7_refuse l D E G _ a C n hn hT ((-2) : Int32) (rg_w (rg_c (v := (-2)) (lo := (-2)) (hi := (-2)) (by decide)) (by decide))) (cwV 1 htg (oh_gV q_1071 q_1073 q_29 q_73 q_1074) rfl rfl rfl pdVX7_refuse ⟨Nat.le_of_ble_eq_true rfl, Nat.le_of_ble_eq_true rfl⟩) hK hP hD hG hS hA (va_recv hK hP (ci := 7) (q0 := 0) rfl (oh_wg (Nat.lt_of_lt_of_le (by decide) hn) (sM_0 hT))) rfl hl.1 rfl (Nat.le_of_ble_eq_true rfl) dX7_again_40 ⟨Nat.le_of_ble_eq_true rfl, Nat.le_of_ble_eq_true rfl⟩ (fun r_15 C_16 H locs hq_17 hP hD hS => ?_)
      obtain ⟨hT, f_18, hq_17⟩ := hq_17
      have hF := fr_tr hF f_18 (by decide) (by decide)
      refine W.widen (k := 0) (n := 0) (Nat.le_refl _) (Nat.le_refl _) ?_
      have t_19 := hT
      rw [hQ]
      exact W.iret (v := r_15) hx hb hr (fun t ht hW => ⟨⟨r_15, C_16, rfl, ⟨hT, hF, ⟨⟨hR.1.fr hF (by decide), hR.2.fr hF (by decide)⟩, (fun A hA hok => Eq.trans hq_17 (pif_neg (fun h8 => by have h7 := h8.1; unfold okJ at h7; rw [← (show gi (C 0) 13 = A 5 0 2 from hA.1 2 (by decide)), ← (show gi (C 0) 15 = A 5 0 3 from hA.1 3 (by decide))] at h7; exact u_14 h7.2.1)).symm)⟩⟩, ⟨by rw [ht]; exact hP, hD⟩⟩, hS.F ht⟩) hS.2.2 dX7_again_43
    · have u_20 := hq_12.2.1 c_13
      refine lv_iload hx hb dX7_again_16 (lv_at hl 4 rfl) ?_
      refine tq_S (As := [.int x4]) (rest := []) (ws := []) ⟨hx, hb, hml, hown, htg⟩ (e_X7_isPlace l D E G x4) (va_cwS 1 htg (oh_gS q_1130 q_1131 q_73 q_1132) rfl rfl rfl pdX7_isPlace ⟨Nat.le_of_ble_eq_true rfl, Nat.le_of_ble_eq_true rfl⟩) hK va_nil hG hS rfl hl.1 rfl (Nat.le_of_ble_eq_true rfl) dX7_again_18 ⟨Nat.le_of_ble_eq_true rfl, Nat.le_of_ble_eq_true rfl⟩ (fun r_21 hq_22 => ?_)
      refine lv_if_eq (tgt := 37) hx hb dX7_again_21 (by decide) (fun (c_23 : r_21 = 0) => ?_) (fun (c_23 : ¬ (r_21 = 0)) => ?_)
      · have u_24 := hq_22.2.2 c_23
        refine lv_aload_n hx hb dX7_again_37 rfl (lv_at hl 0 rfl) ?_
        refine lv_bipush (v := (-2)) hx hb dX7_again_38 (by decide) ?_
        refine tm_V (As := [.int (-2)]) (rest := []) ⟨hx, hb, hml, hown, htg⟩ (c_X7_refuse l D E G _ a C n hn hT ((-2) : Int32) (rg_w (rg_c (v := (-2)) (lo := (-2)) (hi := (-2)) (by decide)) (by decide))) (cwV 1 htg (oh_gV q_1071 q_1073 q_29 q_73 q_1074) rfl rfl rfl pdVX7_refuse ⟨Nat.le_of_ble_eq_true rfl, Nat.le_of_ble_eq_true rfl⟩) hK hP hD hG hS hA (va_recv hK hP (ci := 7) (q0 := 0) rfl (oh_wg (Nat.lt_of_lt_of_le (by decide) hn) (sM_0 hT))) rfl hl.1 rfl (Nat.le_of_ble_eq_true rfl) dX7_again_40 ⟨Nat.le_of_ble_eq_true rfl, Nat.le_of_ble_eq_true rfl⟩ (fun r_25 C_26 H locs hq_27 hP hD hS => ?_)
        obtain ⟨hT, f_28, hq_27⟩ := hq_27
        have hF := fr_tr hF f_28 (by decide) (by decide)
        refine W.widen (k := 0) (n := 0) (Nat.le_refl _) (Nat.le_refl _) ?_
        have t_29 := hT
        rw [hQ]
        exact W.iret (v := r_25) hx hb hr (fun t ht hW => ⟨⟨r_25, C_26, rfl, ⟨hT, hF, ⟨⟨hR.1.fr hF (by decide), hR.2.fr hF (by decide)⟩, (fun A hA hok => Eq.trans hq_27 (pif_neg (fun h8 => by have h7 := h8.1; unfold okJ at h7; rw [← (show gi (C 0) 13 = A 5 0 2 from hA.1 2 (by decide)), ← (show gi (C 0) 15 = A 5 0 3 from hA.1 3 (by decide))] at h7; exact u_24 h7.2.2)).symm)⟩⟩, ⟨by rw [ht]; exact hP, hD⟩⟩, hS.F ht⟩) hS.2.2 dX7_again_43
      · have u_30 := hq_22.2.1 c_23
        refine lv_iload hx hb dX7_again_24 (lv_at hl 5 rfl) ?_
        refine lv_i2l (v := Int32.toInt64 x5) hx hb dX7_again_26 (by rfl) ?_
        refine lv_lconst (v := 1) hx hb dX7_again_27 (by decide) ?_
        refine lv_ldc2 (v := 20) hx hb hown (htg _ q_1346) dX7_again_28 ?_
        refine tq_S (As := [.long (Int32.toInt64 x5), .long 1, .long 20]) (rest := []) (ws := []) ⟨hx, hb, hml, hown, htg⟩ (c_X7_in l D E G (Int32.toInt64 x5) (1 : Int64) (20 : Int64)) (va_cwS 3 htg (oh_gS q_1066 q_1067 q_73 q_1068) rfl rfl rfl pdX7_in ⟨Nat.le_of_ble_eq_true rfl, Nat.le_of_ble_eq_true rfl⟩) hK va_nil hG hS rfl hl.1 rfl (Nat.le_of_ble_eq_true rfl) dX7_again_31 ⟨Nat.le_of_ble_eq_true rfl, Nat.le_of_ble_eq_true rfl⟩ (fun r_31 hq_32 => ?_)
        refine lv_if_ne (tgt := 44) hx hb dX7_again_34 (by decide) (fun (c_33 : ¬ (r_31 = 0)) => ?_) (fun (c_33 : r_31 = 0) => ?_)
        · have u_34 := hq_32.2.1 c_33
          refine lv_aload_n hx hb dX7_again_44 rfl (lv_at hl 0 rfl) ?_
          refine lv_iload_n hx hb dX7_again_45 rfl (lv_at hl 1 rfl) ?_
          refine lv_iload_n hx hb dX7_again_46 rfl (lv_at hl 2 rfl) ?_
          refine lv_iload_n hx hb dX7_again_47 rfl (lv_at hl 3 rfl) ?_
          refine lv_iload hx hb dX7_again_48 (lv_at hl 4 rfl) ?_
          refine lv_iload hx hb dX7_again_50 (lv_at hl 5 rfl) ?_
          refine tm_V (As := [.int x1, .int x2, .int x3, .int x4, .int x5]) (rest := []) ⟨hx, hb, hml, hown, htg⟩ (e_X7_cheapestOf l D E G _ a C n hn hT x1 x2 x3 x4 x5 (rg_w u_10.1 (by decide)) (rg_w u_20 (by decide)) (rg_w u_30 (by decide)) u_10.2.1) (cwV 5 htg (oh_gV q_1347 q_1349 q_59 q_73 q_1350) rfl rfl rfl pdVX7_cheapestOf ⟨Nat.le_of_ble_eq_true rfl, Nat.le_of_ble_eq_true rfl⟩) hK hP hD hG hS hA (va_recv hK hP (ci := 7) (q0 := 0) rfl (oh_wg (Nat.lt_of_lt_of_le (by decide) hn) (sM_0 hT))) rfl hl.1 rfl (Nat.le_of_ble_eq_true rfl) dX7_again_52 ⟨Nat.le_of_ble_eq_true rfl, Nat.le_of_ble_eq_true rfl⟩ (fun r_35 C_36 H locs hq_37 hP hD hS => ?_)
          obtain ⟨hT, f_38, hq_37⟩ := hq_37
          have hF := fr_tr hF f_38 (by decide) (by decide)
          refine W.widen (k := 0) (n := 0) (Nat.le_refl _) (Nat.le_refl _) ?_
          have t_39 := hT
          refine lv_istore (lv' := [(6, .int r_35), (0, .ref (a 0)), (1, .int x1), (2, .int x2), (3, .int x3), (4, .int x4), (5, .int x5)]) hx hb dX7_again_55 hl (by decide) rfl (fun ls hl => ?_)
          refine lv_iload hx hb dX7_again_57 (lv_at hl 0 rfl) ?_
          refine lv_iconst (v := (-1)) hx hb dX7_again_59 (by decide) ?_
          refine lv_icmp_ne (tgt := 72) hx hb dX7_again_60 (by decide) (fun (c_40 : ¬ (r_35 = (-1))) => ?_) (fun (c_40 : r_35 = (-1)) => ?_)
          · refine lv_iload hx hb dX7_again_72 (lv_at hl 0 rfl) ?_
            rw [hQ]
            exact W.iret (v := r_35) hx hb hr (fun t ht hW => ⟨⟨r_35, C_36, rfl, ⟨hT, hF, ⟨⟨hR.1.fr hF (by decide), hR.2.fr hF (by decide)⟩, (fun A hA hok => by have hj : okJ A x1 x2 x3 x4 := (by unfold okJ; rw [← (show gi (C 0) 13 = A 5 0 2 from hA.1 2 (by decide)), ← (show gi (C 0) 15 = A 5 0 3 from hA.1 3 (by decide))]; exact ⟨u_10.2.2.2, (oh_rgI (p := 0) (q := 15) (rg_w (lo := 0) (hi := 15) u_20 (by decide))), (oh_rgI (p := 0) (q := 15) (rg_w (lo := 0) (hi := 15) u_30 (by decide)))⟩); have hm := mc_st hok (rg_w (lo := 0) (hi := 4) u_10.1 (by decide)) hj.1.1.2 (rg_w (lo := 0) (hi := 20) (rg_w (lo := 1) (hi := 20) (rg_il (rgL_i (rg_il (rnL_leu u_34.2 (rnL_lel u_34.1 (rgL_c (v := 1) (lo := 1) (hi := 1) (by decide)) (rgL_i (rg_any _))) (rgL_c (v := 20) (lo := 20) (hi := 20) (by decide)))))) (by decide)) (by decide)) (rg_w (lo := 0) (hi := 15) u_20 (by decide)) (rg_w (lo := 0) (hi := 15) u_30 (by decide)) (hq_37 A hA hok hj.1.1.2 (rg_w (lo := 1) (hi := 20) (rg_il (rgL_i (rg_il (rnL_leu u_34.2 (rnL_lel u_34.1 (rgL_c (v := 1) (lo := 1) (hi := 1) (by decide)) (rgL_i (rg_any _))) (rgL_c (v := 20) (lo := 20) (hi := 20) (by decide)))))) (by decide))); exact Eq.trans ((pif_neg c_40).symm) (Eq.trans hm (pif_pos ⟨hj, (oh_rgI (p := 1) (q := 20) (rg_w (lo := 1) (hi := 20) (rg_il (rgL_i (rg_il (rnL_leu u_34.2 (rnL_lel u_34.1 (rgL_c (v := 1) (lo := 1) (hi := 1) (by decide)) (rgL_i (rg_any _))) (rgL_c (v := 20) (lo := 20) (hi := 20) (by decide)))))) (by decide)))⟩).symm))⟩⟩, ⟨by rw [ht]; exact hP, hD⟩⟩, hS.F ht⟩) hS.2.2 dX7_again_74
          · refine lv_aload_n hx hb dX7_again_63 rfl (lv_at hl 1 rfl) ?_
            refine lv_bipush (v := (-5)) hx hb dX7_again_64 (by decide) ?_
            refine tm_V (As := [.int (-5)]) (rest := []) ⟨hx, hb, hml, hown, htg⟩ (c_X7_refuse l D E G _ a C_36 n hn hT ((-5) : Int32) (rg_w (rg_c (v := (-5)) (lo := (-5)) (hi := (-5)) (by decide)) (by decide))) (cwV 1 htg (oh_gV q_1071 q_1073 q_29 q_73 q_1074) rfl rfl rfl pdVX7_refuse ⟨Nat.le_of_ble_eq_true rfl, Nat.le_of_ble_eq_true rfl⟩) hK hP hD hG hS hA (va_recv hK hP (ci := 7) (q0 := 0) rfl (oh_wg (Nat.lt_of_lt_of_le (by decide) hn) (sM_0 hT))) rfl hl.1 rfl (Nat.le_of_ble_eq_true rfl) dX7_again_66 ⟨Nat.le_of_ble_eq_true rfl, Nat.le_of_ble_eq_true rfl⟩ (fun r_41 C_42 H locs hq_43 hP hD hS => ?_)
            obtain ⟨hT, f_44, hq_43⟩ := hq_43
            have hF := fr_tr hF f_44 (by decide) (by decide)
            refine W.widen (k := 0) (n := 0) (Nat.le_refl _) (Nat.le_refl _) ?_
            have t_45 := hT
            refine lv_goto (tgt := 74) hx hb dX7_again_69 (by decide) ?_
            rw [hQ]
            exact W.iret (v := r_41) hx hb hr (fun t ht hW => ⟨⟨r_41, C_42, rfl, ⟨hT, hF, ⟨⟨hR.1.fr hF (by decide), hR.2.fr hF (by decide)⟩, (fun A hA hok => by have hj : okJ A x1 x2 x3 x4 := (by unfold okJ; rw [← (show gi (C 0) 13 = A 5 0 2 from hA.1 2 (by decide)), ← (show gi (C 0) 15 = A 5 0 3 from hA.1 3 (by decide))]; exact ⟨u_10.2.2.2, (oh_rgI (p := 0) (q := 15) (rg_w (lo := 0) (hi := 15) u_20 (by decide))), (oh_rgI (p := 0) (q := 15) (rg_w (lo := 0) (hi := 15) u_30 (by decide)))⟩); have hm := mc_st hok (rg_w (lo := 0) (hi := 4) u_10.1 (by decide)) hj.1.1.2 (rg_w (lo := 0) (hi := 20) (rg_w (lo := 1) (hi := 20) (rg_il (rgL_i (rg_il (rnL_leu u_34.2 (rnL_lel u_34.1 (rgL_c (v := 1) (lo := 1) (hi := 1) (by decide)) (rgL_i (rg_any _))) (rgL_c (v := 20) (lo := 20) (hi := 20) (by decide)))))) (by decide)) (by decide)) (rg_w (lo := 0) (hi := 15) u_20 (by decide)) (rg_w (lo := 0) (hi := 15) u_30 (by decide)) (hq_37 A hA hok hj.1.1.2 (rg_w (lo := 1) (hi := 20) (rg_il (rgL_i (rg_il (rnL_leu u_34.2 (rnL_lel u_34.1 (rgL_c (v := 1) (lo := 1) (hi := 1) (by decide)) (rgL_i (rg_any _))) (rgL_c (v := 20) (lo := 20) (hi := 20) (by decide)))))) (by decide))); exact Eq.trans (Eq.trans hq_43 (pif_pos c_40).symm) (Eq.trans hm (pif_pos ⟨hj, (oh_rgI (p := 1) (q := 20) (rg_w (lo := 1) (hi := 20) (rg_il (rgL_i (rg_il (rnL_leu u_34.2 (rnL_lel u_34.1 (rgL_c (v := 1) (lo := 1) (hi := 1) (by decide)) (rgL_i (rg_any _))) (rgL_c (v := 20) (lo := 20) (hi := 20) (by decide)))))) (by decide)))⟩).symm))⟩⟩, ⟨by rw [ht]; exact hP, hD⟩⟩, hS.F ht⟩) hS.2.2 dX7_again_74
        · have u_46 := hq_32.2.2 c_33
          refine lv_aload_n hx hb dX7_again_37 rfl (lv_at hl 0 rfl) ?_
          refine lv_bipush (v := (-2)) hx hb dX7_again_38 (by decide) ?_
          refine tm_V (As := [.int (-2)]) (rest := []) ⟨hx, hb, hml, hown, htg⟩ (c_X7_refuse l D E G _ a C n hn hT ((-2) : Int32) (rg_w (rg_c (v := (-2)) (lo := (-2)) (hi := (-2)) (by decide)) (by decide))) (cwV 1 htg (oh_gV q_1071 q_1073 q_29 q_73 q_1074) rfl rfl rfl pdVX7_refuse ⟨Nat.le_of_ble_eq_true rfl, Nat.le_of_ble_eq_true rfl⟩) hK hP hD hG hS hA (va_recv hK hP (ci := 7) (q0 := 0) rfl (oh_wg (Nat.lt_of_lt_of_le (by decide) hn) (sM_0 hT))) rfl hl.1 rfl (Nat.le_of_ble_eq_true rfl) dX7_again_40 ⟨Nat.le_of_ble_eq_true rfl, Nat.le_of_ble_eq_true rfl⟩ (fun r_47 C_48 H locs hq_49 hP hD hS => ?_)
          obtain ⟨hT, f_50, hq_49⟩ := hq_49
          have hF := fr_tr hF f_50 (by decide) (by decide)
          refine W.widen (k := 0) (n := 0) (Nat.le_refl _) (Nat.le_refl _) ?_
          have t_51 := hT
          rw [hQ]
          exact W.iret (v := r_47) hx hb hr (fun t ht hW => ⟨⟨r_47, C_48, rfl, ⟨hT, hF, ⟨⟨hR.1.fr hF (by decide), hR.2.fr hF (by decide)⟩, (fun A hA hok => Eq.trans hq_49 (pif_neg (fun h8 => (oh_in64 (l' := 1) (k' := 20) rfl rfl u_46) h8.2)).symm)⟩⟩, ⟨by rw [ht]; exact hP, hD⟩⟩, hS.F ht⟩) hS.2.2 dX7_again_43

set_option maxHeartbeats 4000000 in
set_option maxRecDepth 100000 in
theorem e_X7_cheapest (l : Launch) (D : va_G) (E : Nat → ClassId) (G : Nat → Nat) (sz : Nat) (a : Nat → Nat) (C : Nat → va_E) (n : Nat) (hn : 74 ≤ n) (hT : TyM a E C) (x1 : Int32) (x2 : Int32) (x3 : Int32) (x4 : Int32) (hR : RelM C) : Met l yX7_cheapest (oh_w yX7_cheapest cX7_cheapest 5 (some .int)) ({ frames := 8, cells := 0, slots := 0, locals := 203 }) (oh_Pm D E G [.ref (a 0), .int x1, .int x2, .int x3, .int x4] (oh_W n a C) sz) (va_Qi (fun r (u : Nat → va_E) => TyM a E u ∧ fr [(8, 9), (15, 16)] [] C u ∧ (RelM u) ∧ (∀ A : LA, absM C A → okA A → r = spChp A x1 x2 x3 x4 1)) (oh_B D (va_A (oh_W n a C) sz) (fun u => oh_W n a u)) (va_A (oh_W n a C) sz)) 0 0 (va_A (oh_W n a C) sz) := by
  refine Met.ofW (cc := cX7_cheapest) (maxL := 5) (ret := (some .int)) (by decide) rfl ?_
  intro p e s m args below meth c s₁ B hml hv
  obtain ⟨rfl, hsz, hP, hK, hD0, hG⟩ := hv
  have hx := B.exec
  have hb := B.bytes
  have hr := B.returns
  have hts := atoms_spec (ws := (oh_w yX7_cheapest cX7_cheapest 5 (some .int))) B.pre
  have htg : ∀ w ∈ oh_t, w.before _ s = true := fun w h => hts w (List.mem_cons_of_mem _ h)
  have hown : s.vm.findClass RX7 = some m.cls := findClass_of_methodNamed B.named
  have hlocks := B.notSynchronized
  have hT0 := hT
  subst hsz
  have hD := hD0.self (sz := s.heap.size)
  generalize hAe : va_A (oh_W n a C) s.heap.size = A at hD hG ⊢
  have hA : ∀ q : Nat, s.heap.size ≤ q → A q := fun q h => by rw [← hAe]; exact Or.inr h
  have hS : va_S A s.heap s.heap [] := va_S.rf
  have hF : fr [(8, 9), (15, 16)] [] C C := fr_rf
  have hl := lv_entry ([.ref (a 0), .int x1, .int x2, .int x3, .int x4]) (n := 5) (Nat.le_of_ble_eq_true rfl)
  rw [lg_entry_eq]
  generalize (lg_sl ([.ref (a 0), .int x1, .int x2, .int x3, .int x4]) ++ List.replicate (5 - (lg_sl ([.ref (a 0), .int x1, .int x2, .int x3, .int x4])).length) Slot.unset).toArray = ls at hl ⊢
  have hl : lv_has ls 5 [(0, .ref (a 0)), (1, .int x1), (2, .int x2), (3, .int x3), (4, .int x4)] := hl
  refine oh_genQ (fun Q hQ => ?_)
  refine lv_aload_n hx hb dX7_cheapest_0 rfl (lv_at hl 0 rfl) ?_
  refine lv_iload_n hx hb dX7_cheapest_1 rfl (lv_at hl 1 rfl) ?_
  refine lv_iload_n hx hb dX7_cheapest_2 rfl (lv_at hl 2 rfl) ?_
  refine lv_iload_n hx hb dX7_cheapest_3 rfl (lv_at hl 3 rfl) ?_
  refine lv_iload hx hb dX7_cheapest_4 (lv_at hl 4 rfl) ?_
  refine lv_iconst (v := 1) hx hb dX7_cheapest_6 (by decide) ?_
  refine tm_V (As := [.int x1, .int x2, .int x3, .int x4, .int 1]) (rest := []) ⟨hx, hb, hml, hown, htg⟩ (e_X7_again l D E G _ a C n hn hT x1 x2 x3 x4 (1 : Int32) hR) (cwV 5 htg (oh_gV q_1342 q_1343 q_1344 q_73 q_1345) rfl rfl rfl pdVX7_again ⟨Nat.le_of_ble_eq_true rfl, Nat.le_of_ble_eq_true rfl⟩) hK hP hD hG hS hA (va_recv hK hP (ci := 7) (q0 := 0) rfl (oh_wg (Nat.lt_of_lt_of_le (by decide) hn) (sM_0 hT))) rfl hl.1 rfl (Nat.le_of_ble_eq_true rfl) dX7_cheapest_7 ⟨Nat.le_of_ble_eq_true rfl, Nat.le_of_ble_eq_true rfl⟩ (fun r_1 C_2 H locs hq_3 hP hD hS => ?_)
  obtain ⟨hT, f_4, hq_3⟩ := hq_3
  have hF := fr_tr hF f_4 (by decide) (by decide)
  refine W.widen (k := 0) (n := 0) (Nat.le_refl _) (Nat.le_refl _) ?_
  have t_5 := hT
  rw [hQ]
  exact W.iret (v := r_1) hx hb hr (fun t ht hW => ⟨⟨r_1, C_2, rfl, ⟨hT, hF, ⟨hq_3.1, (fun A hA hok => hq_3.2 A hA hok)⟩⟩, ⟨by rw [ht]; exact hP, hD⟩⟩, hS.F ht⟩) hS.2.2 dX7_cheapest_10

set_option maxHeartbeats 4000000 in
set_option maxRecDepth 100000 in
theorem e_X5_leastDays (l : Launch) (D : va_G) (E : Nat → ClassId) (G : Nat → Nat) (sz : Nat) (a : Nat → Nat) (C : Nat → va_E) (hT : TyX a E C) (x1 : Int32) (x2 : Int32) (x3 : Int32) (x4 : Int32) (hx1 : rg x1 0 4) (hx3 : rg x3 0 15) (hx4 : rg x4 0 15) : Met l yX5_leastDays (oh_w yX5_leastDays cX5_leastDays 6 (some .int)) ({ frames := 4, cells := 0, slots := 0, locals := 100 }) (oh_Pm D E G [.ref (a 3), .int x1, .int x2, .int x3, .int x4] (oh_W 35 a C) sz) (va_Qi (fun r (u : Nat → va_E) => TyX a E u ∧ fr [(9, 10), (24, 28)] [] C u ∧ (∀ A : LA, absX 10 C A → okA A → x1 < A 5 0 2 → r = ldA A x1 x2 x3 x4)) (oh_B D (va_A (oh_W 35 a C) sz) (fun u => oh_W 35 a u)) (va_A (oh_W 35 a C) sz)) 0 0 (va_A (oh_W 35 a C) sz) := by
  refine Met.ofW (cc := cX5_leastDays) (maxL := 6) (ret := (some .int)) (by decide) rfl ?_
  intro p e s m args below meth c s₁ B hml hv
  obtain ⟨rfl, hsz, hP, hK, hD0, hG⟩ := hv
  have hx := B.exec
  have hb := B.bytes
  have hr := B.returns
  have hts := atoms_spec (ws := (oh_w yX5_leastDays cX5_leastDays 6 (some .int))) B.pre
  have htg : ∀ w ∈ oh_t, w.before _ s = true := fun w h => hts w (List.mem_cons_of_mem _ h)
  have hown : s.vm.findClass RX5 = some m.cls := findClass_of_methodNamed B.named
  have hlocks := B.notSynchronized
  have hT0 := hT
  subst hsz
  have hD := hD0.self (sz := s.heap.size)
  generalize hAe : va_A (oh_W 35 a C) s.heap.size = A at hD hG ⊢
  have hA : ∀ q : Nat, s.heap.size ≤ q → A q := fun q h => by rw [← hAe]; exact Or.inr h
  have hS : va_S A s.heap s.heap [] := va_S.rf
  have hF : fr [(9, 10), (24, 28)] [] C C := fr_rf
  have hl := lv_entry ([.ref (a 3), .int x1, .int x2, .int x3, .int x4]) (n := 6) (Nat.le_of_ble_eq_true rfl)
  rw [lg_entry_eq]
  generalize (lg_sl ([.ref (a 3), .int x1, .int x2, .int x3, .int x4]) ++ List.replicate (6 - (lg_sl ([.ref (a 3), .int x1, .int x2, .int x3, .int x4])).length) Slot.unset).toArray = ls at hl ⊢
  have hl : lv_has ls 6 [(0, .ref (a 3)), (1, .int x1), (2, .int x2), (3, .int x3), (4, .int x4)] := hl
  refine oh_genQ (fun Q hQ => ?_)
  refine lv_aload_n hx hb dX5_leastDays_0 rfl (lv_at hl 0 rfl) ?_
  refine lv_iload_n hx hb dX5_leastDays_1 rfl (lv_at hl 1 rfl) ?_
  refine lv_iload_n hx hb dX5_leastDays_2 rfl (lv_at hl 2 rfl) ?_
  refine tm_Vv (As := [.int x1, .int x2]) (rest := []) ⟨hx, hb, hml, hown, htg⟩ (e_X5_survey l D E G _ a C hT x1 x2 (rg_w hx1 (by decide))) (cwV 2 htg (oh_gV q_784 q_751 q_752 q_68 q_753) rfl rfl rfl pdVX5_survey ⟨Nat.le_of_ble_eq_true rfl, Nat.le_of_ble_eq_true rfl⟩) hK hP hD hG hS hA (va_recv hK hP (ci := 5) (q0 := 3) rfl (oh_wg (by decide) (sX_3 hT))) rfl hl.1 rfl (Nat.le_of_ble_eq_true rfl) dX5_leastDays_3 ⟨Nat.le_of_ble_eq_true rfl, Nat.le_of_ble_eq_true rfl⟩ (fun C_2 H locs hq_3 hP hD hS => ?_)
  obtain ⟨hT, f_4, hq_3⟩ := hq_3
  have hF := fr_tr hF f_4 (by decide) (by decide)
  refine W.widen (k := 0) (n := 0) (Nat.le_refl _) (Nat.le_refl _) ?_
  have t_5 := hT
  refine lv_iconst (v := 0) hx hb dX5_leastDays_6 (by decide) ?_
  refine lv_istore (lv' := [(5, .int 0), (0, .ref (a 3)), (1, .int x1), (2, .int x2), (3, .int x3), (4, .int x4)]) hx hb dX5_leastDays_7 hl (by decide) rfl (fun ls hl => ?_)
  have L_9 : ∀ (d : Nat) (K9 : Nat → va_E) (z9_5 : Int32) (H : Heap) (locs : List Loc) (ls : Array Slot), (24 - z9_5.toInt).toNat = d → rg z9_5 0 24 → (∀ A : LA, absX 10 C A → x1 < A 5 0 2 → ∀ i : Nat, (i : Int) < z9_5.toInt → gsA A x1 x2 i → ga (K9 26) i = dyA A x1 x2 i) → TyX a E K9 → fr [(9, 10), (24, 28)] [] C K9 → fr [(26, 27)] [] C_2 K9 → va_P D vwCl (oh_W 35 a K9) H → va_D A (oh_W 35 a K9) → va_S A s.heap H locs → lv_has ls 6 [(5, .int z9_5), (0, .ref (a 3)), (1, .int x1), (2, .int x2), (3, .int x3), (4, .int x4)] → W p l e ({ frames := 4, cells := 0, slots := 0, locals := 100 }) s m (([.ref (a 3), .int x1, .int x2, .int x3, .int x4] : List Value).toArray) below meth c H locs 0 0 Q (F0 m 9 ls []) := by
    intro d
    induction d using Nat.strongRecOn with
    | ind d ih_9 =>
    intro K9 z9_5 H locs ls hd_9 hz9_5 hx_9 hT hF hLF_9 hP hD hS hl
    have t_6 := hT
    refine lv_iload hx hb dX5_leastDays_9 (lv_at hl 0 rfl) ?_
    refine lv_aload_n hx hb dX5_leastDays_11 rfl (lv_at hl 1 rfl) ?_
    refine va_get (D := D) (ci := 5) (v := .ref (a 1)) (C := RX5) (T := TX5) (N := 7) hx hb htg ig_5 hown hK hP 3 (oh_wg (by decide) (sX_3 hT)) rfl 0 (by decide) (htg _ q_167) (fun _ h9 => h9) rfl dX5_leastDays_12 ?_
    refine va_get (D := D) (ci := 0) (v := .ref (a 10)) (C := RX0) (T := TX0) (N := 8) hx hb htg ig_0 hown hK hP 1 (oh_wg (by decide) (sX_1 hT)) rfl 0 (by decide) (htg _ q_99) (fun _ h9 => h9) rfl dX5_leastDays_15 ?_
    refine lv_iconst (v := 0) hx hb dX5_leastDays_18 (by decide) ?_
    refine th_iald hx hb hK hP 10 (by decide) (Eq.trans (Eq.trans (hLF_9.1 10 rfl (by decide)) (f_4.1 10 rfl (by decide))) (sX_10 hT0)) (rg_in (rg_c (v := 0) (lo := 0) (hi := 0) (by decide)) (by decide)) dX5_leastDays_19 ?_
    refine lv_icmp_ge (tgt := 42) hx hb dX5_leastDays_20 (by decide) (fun (c_7 : (ga (C 10) ((0 : Int32)).toNatClampNeg) ≤ z9_5) => ?_) (fun (c_7 : ¬ ((ga (C 10) ((0 : Int32)).toNatClampNeg) ≤ z9_5)) => ?_)
    · refine lv_aload_n hx hb dX5_leastDays_42 rfl (lv_at hl 1 rfl) ?_
      refine lv_iload_n hx hb dX5_leastDays_43 rfl (lv_at hl 4 rfl) ?_
      refine tm_Vv (As := [.int x3]) (rest := []) ⟨hx, hb, hml, hown, htg⟩ (e_X5_spread l D E G _ a K9 hT x3 (rg_w hx3 (by decide))) (cwV 1 htg (oh_gV q_790 q_792 q_19 q_68 q_793) rfl rfl rfl pdVX5_spread ⟨Nat.le_of_ble_eq_true rfl, Nat.le_of_ble_eq_true rfl⟩) hK hP hD hG hS hA (va_recv hK hP (ci := 5) (q0 := 3) rfl (oh_wg (by decide) (sX_3 hT))) rfl hl.1 rfl (Nat.le_of_ble_eq_true rfl) dX5_leastDays_44 ⟨Nat.le_of_ble_eq_true rfl, Nat.le_of_ble_eq_true rfl⟩ (fun C_9 H locs hq_10 hP hD hS => ?_)
      obtain ⟨hT, f_11, hq_10⟩ := hq_10
      have hF := fr_tr hF f_11 (by decide) (by decide)
      refine W.widen (k := 0) (n := 0) (Nat.le_refl _) (Nat.le_refl _) ?_
      have t_12 := hT
      refine lv_aload_n hx hb dX5_leastDays_47 rfl (lv_at hl 1 rfl) ?_
      refine va_get (D := D) (ci := 5) (v := .ref (a 27)) (C := RX5) (T := TX5) (N := 7) hx hb htg ig_5 hown hK hP 3 (oh_wg (by decide) (sX_3 hT)) rfl 5 (by decide) (htg _ q_174) (fun _ h9 => h9) rfl dX5_leastDays_48 ?_
      refine lv_iload hx hb dX5_leastDays_51 (lv_at hl 5 rfl) ?_
      have n_13 : vp_in x4 16 := (rg_in hx4 (by decide))
      refine th_iald hx hb hK hP 27 (by decide) (sX_27 hT) n_13 dX5_leastDays_53 ?_
      rw [hQ]
      exact W.iret (v := ga (C_9 27) (x4).toNatClampNeg) hx hb hr (fun t ht hW => ⟨⟨ga (C_9 27) (x4).toNatClampNeg, C_9, rfl, ⟨hT, hF, (fun A hA hok hl => by have hs2 : svX C_2 A x1 x2 := hq_3 A hA hl; have hA2 := (absX_eq hA (fr_all f_4 10 15 (by decide))); have hA7 := (absX_eq (absX_eq hA (fr_all f_4 10 15 (by decide))) (fr_all hLF_9 10 15 (by decide))); have hs7 : svX K9 A x1 x2 := svX_eq hs2 (hLF_9.1 9 rfl (by decide)) (hLF_9.1 24 rfl (by decide)) (hLF_9.1 25 rfl (by decide)); have G := gx_d hA7 hok hs7 (pr_e (by rw [← hA.1 0 (by decide)]; exact rg_w (cntX 0 hT0 (by decide)) (by decide)) (by rw [← hA.1 0 (by decide)]; exact c_7) (hx_9 A hA hl)); have hF := ed_fin hok x1 x2 (p16 hx3); obtain ⟨hnn, D⟩ := hq_10 _ _ _ _ _ G; exact ld_e hnn D hF hx4)⟩, ⟨by rw [ht]; exact hP, hD⟩⟩, hS.F ht⟩) hS.2.2 dX5_leastDays_54
    · refine lv_aload_n hx hb dX5_leastDays_23 rfl (lv_at hl 1 rfl) ?_
      refine va_get (D := D) (ci := 5) (v := .ref (a 26)) (C := RX5) (T := TX5) (N := 7) hx hb htg ig_5 hown hK hP 3 (oh_wg (by decide) (sX_3 hT)) rfl 4 (by decide) (htg _ q_173) (fun _ h9 => h9) rfl dX5_leastDays_24 ?_
      refine lv_iload hx hb dX5_leastDays_27 (lv_at hl 0 rfl) ?_
      refine lv_aload_n hx hb dX5_leastDays_29 rfl (lv_at hl 1 rfl) ?_
      refine lv_iload hx hb dX5_leastDays_30 (lv_at hl 0 rfl) ?_
      refine tq_V (As := [.int z9_5]) (rest := [.int z9_5, .ref (a 26)]) (ws := (oh_W 35 a K9)) ⟨hx, hb, hml, hown, htg⟩ (e_X5_daysOf l D E G a K9 hT z9_5 (rg_w (rn_ltu (u' := 23) (Int32.not_le.mp c_7) hz9_5 (tA_rdc (lo := 0) (hi := 24) (tX_10 hT0) (rg_in (rg_c (v := 0) (lo := 0) (hi := 0) (by decide)) (by decide)) (show _ = 0 by decide) (by decide)) (by decide)) (by decide))) (cwV 1 htg (oh_gV q_812 q_768 q_769 q_68 q_770) rfl rfl rfl pdVX5_daysOf ⟨Nat.le_of_ble_eq_true rfl, Nat.le_of_ble_eq_true rfl⟩) hK hP hG hS (va_recv hK hP (ci := 5) (q0 := 3) rfl (oh_wg (by decide) (sX_3 hT))) rfl hl.1 rfl (Nat.le_of_ble_eq_true rfl) dX5_leastDays_32 ⟨Nat.le_of_ble_eq_true rfl, Nat.le_of_ble_eq_true rfl⟩ (fun r_14 hq_15 => ?_)
      have n_16 : vp_in z9_5 24 := (rg_in (rn_ltu (u' := 23) (Int32.not_le.mp c_7) hz9_5 (tA_rdc (lo := 0) (hi := 24) (tX_10 hT0) (rg_in (rg_c (v := 0) (lo := 0) (hi := 0) (by decide)) (by decide)) (show _ = 0 by decide) (by decide)) (by decide)) (by decide))
      refine th_iast (T := TyX a E) (Rl := fr [(9, 10), (24, 28)] [] C) hx hb hK hP hD hS 26 (by decide) (sX_26 hT) n_16 (hT.up 26 (tA_upd (tX_26 hT) tA_any)) (fr_st hF (by decide) (by decide)) dX5_leastDays_35 (fun C_17 H locs e_18 hT hF hP hD hS => ?_)
      have t_19 := hT
      refine lv_iinc (v := z9_5 + 1) (lv' := [(5, .int (z9_5 + 1)), (0, .ref (a 3)), (1, .int x1), (2, .int x2), (3, .int x3), (4, .int x4)]) hx hb dX5_leastDays_36 hl (k := 0) rfl (by rfl) (by decide) rfl (fun ls hl => ?_)
      refine lv_goto (tgt := 9) hx hb dX5_leastDays_39 (by decide) ?_
      exact ih_9 _ (hd_9 ▸ mu_up 24 (rn_ltu (u' := 23) (Int32.not_le.mp c_7) hz9_5 (tA_rdc (lo := 0) (hi := 24) (tX_10 hT0) (rg_in (rg_c (v := 0) (lo := 0) (hi := 0) (by decide)) (by decide)) (show _ = 0 by decide) (by decide)) (by decide)) (by decide)) C_17 (z9_5 + 1) _ _ ls rfl (rg_w (rg_add (lo := 1) (hi := 24) (rn_ltu (u' := 23) (Int32.not_le.mp c_7) hz9_5 (tA_rdc (lo := 0) (hi := 24) (tX_10 hT0) (rg_in (rg_c (v := 0) (lo := 0) (hi := 0) (by decide)) (by decide)) (show _ = 0 by decide) (by decide)) (by decide)) (rg_c (v := 1) (lo := 1) (hi := 1) (by decide)) (by decide)) (by decide)) (fun A hA hl => by have hK := (absX_eq (absX_eq hA (fr_all f_4 10 15 (by decide))) (fr_all hLF_9 10 15 (by decide))); exact pr_s (rg_w (lo := 0) (hi := 23) (rn_ltu (u' := 23) (Int32.not_le.mp c_7) hz9_5 (tA_rdc (lo := 0) (hi := 24) (tX_10 hT0) (rg_in (rg_c (v := 0) (lo := 0) (hi := 0) (by decide)) (by decide)) (show _ = 0 by decide) (by decide)) (by decide)) (by decide)) (hx_9 A hA hl) (st_ga e_18) (fun hg => dyX hK (svX_eq (hq_3 A hA hl) (hLF_9.1 9 rfl (by decide)) (hLF_9.1 24 rfl (by decide)) (hLF_9.1 25 rfl (by decide))) (rg_w (lo := 0) (hi := 23) (rn_ltu (u' := 23) (Int32.not_le.mp c_7) hz9_5 (tA_rdc (lo := 0) (hi := 24) (tX_10 hT0) (rg_in (rg_c (v := 0) (lo := 0) (hi := 0) (by decide)) (by decide)) (show _ = 0 by decide) (by decide)) (by decide)) (by decide)) (show z9_5 < A 5 0 0 from oh_lte (Int32.not_le.mp c_7) (hA.1 0 (by decide))) hg hq_15)) hT hF (fr_ste hLF_9 e_18 (by decide) (by decide)) hP hD hS (lv_sub hl [0, 1, 2, 3, 4, 5] rfl)
  exact L_9 _ C_2 0 _ _ ls rfl (rg_w (rg_c (v := 0) (lo := 0) (hi := 0) (by decide)) (by decide)) (fun A hA hl i hi => absurd hi (by show ¬ (i : Int) < 0; omega)) hT hF fr_rf hP hD hS (lv_sub hl [0, 1, 2, 3, 4, 5] rfl)

set_option maxHeartbeats 4000000 in
set_option maxRecDepth 100000 in
theorem e_X6_soonest (l : Launch) (D : va_G) (E : Nat → ClassId) (G : Nat → Nat) (sz : Nat) (a : Nat → Nat) (C : Nat → va_E) (hT : TyX a E C) (x1 : Int32) (x2 : Int32) (x3 : Int32) (x4 : Int32) : Met l yX6_soonest (oh_w yX6_soonest cX6_soonest 5 (some .int)) ({ frames := 5, cells := 0, slots := 0, locals := 125 }) (oh_Pm D E G [.ref (a 0), .int x1, .int x2, .int x3, .int x4] (oh_W 35 a C) sz) (va_Qi (fun r (u : Nat → va_E) => TyX a E u ∧ fr [(7, 8), (9, 10), (24, 28)] [] C u ∧ (∀ A : LA, absX 10 C A → okA A → r = spSoon A x1 x2 x3 x4)) (oh_B D (va_A (oh_W 35 a C) sz) (fun u => oh_W 35 a u)) (va_A (oh_W 35 a C) sz)) 0 0 (va_A (oh_W 35 a C) sz) := by
  refine Met.ofW (cc := cX6_soonest) (maxL := 5) (ret := (some .int)) (by decide) rfl ?_
  intro p e s m args below meth c s₁ B hml hv
  obtain ⟨rfl, hsz, hP, hK, hD0, hG⟩ := hv
  have hx := B.exec
  have hb := B.bytes
  have hr := B.returns
  have hts := atoms_spec (ws := (oh_w yX6_soonest cX6_soonest 5 (some .int))) B.pre
  have htg : ∀ w ∈ oh_t, w.before _ s = true := fun w h => hts w (List.mem_cons_of_mem _ h)
  have hown : s.vm.findClass RX6 = some m.cls := findClass_of_methodNamed B.named
  have hlocks := B.notSynchronized
  have hT0 := hT
  subst hsz
  have hD := hD0.self (sz := s.heap.size)
  generalize hAe : va_A (oh_W 35 a C) s.heap.size = A at hD hG ⊢
  have hA : ∀ q : Nat, s.heap.size ≤ q → A q := fun q h => by rw [← hAe]; exact Or.inr h
  have hS : va_S A s.heap s.heap [] := va_S.rf
  have hF : fr [(7, 8), (9, 10), (24, 28)] [] C C := fr_rf
  have hl := lv_entry ([.ref (a 0), .int x1, .int x2, .int x3, .int x4]) (n := 5) (Nat.le_of_ble_eq_true rfl)
  rw [lg_entry_eq]
  generalize (lg_sl ([.ref (a 0), .int x1, .int x2, .int x3, .int x4]) ++ List.replicate (5 - (lg_sl ([.ref (a 0), .int x1, .int x2, .int x3, .int x4])).length) Slot.unset).toArray = ls at hl ⊢
  have hl : lv_has ls 5 [(0, .ref (a 0)), (1, .int x1), (2, .int x2), (3, .int x3), (4, .int x4)] := hl
  refine oh_genQ (fun Q hQ => ?_)
  refine lv_aload_n hx hb dX6_soonest_0 rfl (lv_at hl 0 rfl) ?_
  refine lv_iload_n hx hb dX6_soonest_1 rfl (lv_at hl 1 rfl) ?_
  refine lv_iload_n hx hb dX6_soonest_2 rfl (lv_at hl 2 rfl) ?_
  refine lv_iload_n hx hb dX6_soonest_3 rfl (lv_at hl 3 rfl) ?_
  refine lv_iload hx hb dX6_soonest_4 (lv_at hl 4 rfl) ?_
  refine tq_V (As := [.int x1, .int x2, .int x3, .int x4]) (rest := []) (ws := (oh_W 35 a C)) ⟨hx, hb, hml, hown, htg⟩ (e_X6_isJourney l D E G a C hT x1 x2 x3 x4) (cwV 4 htg (oh_gV q_776 q_778 q_17 q_66 q_779) rfl rfl rfl pdVX6_isJourney ⟨Nat.le_of_ble_eq_true rfl, Nat.le_of_ble_eq_true rfl⟩) hK hP hG hS (va_recv hK hP (ci := 6) (q0 := 0) rfl (oh_wg (by decide) (sX_0 hT))) rfl hl.1 rfl (Nat.le_of_ble_eq_true rfl) dX6_soonest_6 ⟨Nat.le_of_ble_eq_true rfl, Nat.le_of_ble_eq_true rfl⟩ (fun r_1 hq_2 => ?_)
  refine lv_if_ne (tgt := 19) hx hb dX6_soonest_9 (by decide) (fun (c_3 : ¬ (r_1 = 0)) => ?_) (fun (c_3 : r_1 = 0) => ?_)
  · have u_4 := hq_2.2.1 c_3
    refine lv_aload_n hx hb dX6_soonest_19 rfl (lv_at hl 0 rfl) ?_
    refine lv_aload_n hx hb dX6_soonest_20 rfl (lv_at hl 0 rfl) ?_
    refine va_get (D := D) (ci := 6) (v := .ref (a 3)) (C := RX6) (T := TX6) (N := 9) hx hb htg ig_6 hown hK hP 0 (oh_wg (by decide) (sX_0 hT)) rfl 3 (by decide) (htg _ q_261) (fun _ h9 => h9) rfl dX6_soonest_21 ?_
    refine lv_iload_n hx hb dX6_soonest_24 rfl (lv_at hl 1 rfl) ?_
    refine lv_iload_n hx hb dX6_soonest_25 rfl (lv_at hl 2 rfl) ?_
    refine lv_iload_n hx hb dX6_soonest_26 rfl (lv_at hl 3 rfl) ?_
    refine lv_iload hx hb dX6_soonest_27 (lv_at hl 4 rfl) ?_
    refine tm_V (As := [.int x1, .int x2, .int x3, .int x4]) (rest := [.ref (a 0)]) ⟨hx, hb, hml, hown, htg⟩ (e_X5_leastDays l D E G _ a C hT x1 x2 x3 x4 (rg_w u_4.1 (by decide)) (rg_w u_4.2.1 (by decide)) (rg_w u_4.2.2.1 (by decide))) (cwV 4 htg (oh_gV q_808 q_809 q_810 q_68 q_811) rfl rfl rfl pdVX5_leastDays ⟨Nat.le_of_ble_eq_true rfl, Nat.le_of_ble_eq_true rfl⟩) hK hP hD hG hS hA (va_recv hK hP (ci := 5) (q0 := 3) rfl (oh_wg (by decide) (sX_3 hT))) rfl hl.1 rfl (Nat.le_of_ble_eq_true rfl) dX6_soonest_29 ⟨Nat.le_of_ble_eq_true rfl, Nat.le_of_ble_eq_true rfl⟩ (fun r_5 C_6 H locs hq_7 hP hD hS => ?_)
    obtain ⟨hT, f_8, hq_7⟩ := hq_7
    have hF := fr_tr hF f_8 (by decide) (by decide)
    refine W.widen (k := 0) (n := 0) (Nat.le_refl _) (Nat.le_refl _) ?_
    have t_9 := hT
    refine tm_V (As := [.int r_5]) (rest := []) ⟨hx, hb, hml, hown, htg⟩ (e_X6_orStuck l D E G _ a C_6 hT r_5) (cwV 1 htg (oh_gV q_799 q_801 q_21 q_66 q_802) rfl rfl rfl pdVX6_orStuck ⟨Nat.le_of_ble_eq_true rfl, Nat.le_of_ble_eq_true rfl⟩) hK hP hD hG hS hA (va_recv hK hP (ci := 6) (q0 := 0) rfl (oh_wg (by decide) (sX_0 hT))) rfl hl.1 rfl (Nat.le_of_ble_eq_true rfl) dX6_soonest_32 ⟨Nat.le_of_ble_eq_true rfl, Nat.le_of_ble_eq_true rfl⟩ (fun r_10 C_11 H locs hq_12 hP hD hS => ?_)
    obtain ⟨hT, f_13, hq_12⟩ := hq_12
    have hF := fr_tr hF f_13 (by decide) (by decide)
    refine W.widen (k := 0) (n := 0) (Nat.le_refl _) (Nat.le_refl _) ?_
    have t_14 := hT
    rw [hQ]
    exact W.iret (v := r_10) hx hb hr (fun t ht hW => ⟨⟨r_10, C_11, rfl, ⟨hT, hF, (fun A hA hok => by have hj : okJ A x1 x2 x3 x4 := (by unfold okJ; rw [← (show ga (C 10) ((2 : Int32)).toNatClampNeg = A 5 0 2 from hA.1 2 (by decide)), ← (show ga (C 10) ((3 : Int32)).toNatClampNeg = A 5 0 3 from hA.1 3 (by decide))]; exact u_4.2.2.2); exact Eq.trans (Eq.trans hq_12 (ld_st hok (rg_w (lo := 0) (hi := 15) u_4.2.1 (by decide)) (rg_w (lo := 0) (hi := 15) u_4.2.2.1 (by decide)) (hq_7 A hA hok hj.1.1.2))) (pif_pos hj).symm)⟩, ⟨by rw [ht]; exact hP, hD⟩⟩, hS.F ht⟩) hS.2.2 dX6_soonest_35
  · have u_15 := hq_2.2.2 c_3
    refine lv_aload_n hx hb dX6_soonest_12 rfl (lv_at hl 0 rfl) ?_
    refine lv_bipush (v := (-2)) hx hb dX6_soonest_13 (by decide) ?_
    refine tm_V (As := [.int (-2)]) (rest := []) ⟨hx, hb, hml, hown, htg⟩ (c_X6_refuse l D E G _ a C hT ((-2) : Int32)) (cwV 1 htg (oh_gV q_296 q_298 q_0 q_66 q_299) rfl rfl rfl pdVX6_refuse ⟨Nat.le_of_ble_eq_true rfl, Nat.le_of_ble_eq_true rfl⟩) hK hP hD hG hS hA (va_recv hK hP (ci := 6) (q0 := 0) rfl (oh_wg (by decide) (sX_0 hT))) rfl hl.1 rfl (Nat.le_of_ble_eq_true rfl) dX6_soonest_15 ⟨Nat.le_of_ble_eq_true rfl, Nat.le_of_ble_eq_true rfl⟩ (fun r_16 C_17 H locs hq_18 hP hD hS => ?_)
    obtain ⟨hT, f_19, hq_18⟩ := hq_18
    have hF := fr_tr hF f_19 (by decide) (by decide)
    refine W.widen (k := 0) (n := 0) (Nat.le_refl _) (Nat.le_refl _) ?_
    have t_20 := hT
    rw [hQ]
    exact W.iret (v := r_16) hx hb hr (fun t ht hW => ⟨⟨r_16, C_17, rfl, ⟨hT, hF, (fun A hA hok => Eq.trans hq_18 (pif_neg (by unfold okJ; rw [← (show ga (C 10) ((2 : Int32)).toNatClampNeg = A 5 0 2 from hA.1 2 (by decide)), ← (show ga (C 10) ((3 : Int32)).toNatClampNeg = A 5 0 3 from hA.1 3 (by decide))]; exact u_15)).symm)⟩, ⟨by rw [ht]; exact hP, hD⟩⟩, hS.F ht⟩) hS.2.2 dX6_soonest_18

theorem md_y {A : LA} {w s f t : Int32} {h : Nat → Int64} (hn : nnL h) (D : Dn (EdyA A w s) t.toNatClampNeg 1000000000000 (fL h)) (hF : ∀ q d, q < 16 → Ls (EdyA A w s) t.toNatClampNeg q d → d ≤ 900000000) (hf : rg f 0 15) (c1 : h f.toNatClampNeg < (1000000000000 : Int64)) : Int64.toInt32 (h f.toNatClampNeg) = pif (hasW (EdyA A w s) f.toNatClampNeg t.toNatClampNeg) (Int32.ofNat (lsN (EdyA A w s) f.toNatClampNeg t.toNatClampNeg)) (-5) := by
  have q : hasW (EdyA A w s) t.toNatClampNeg f.toNatClampNeg := Classical.byContradiction (fun z => absurd ((mL_i hn D hF (p16 hf)).mpr z) (Int64.not_le.mpr c1))
  obtain ⟨h1, h2⟩ := mL_y hn D hF (p16 hf) q
  rw [hasW_sym (E := EdyA A w s) edR_sym, lsN_sym (E := EdyA A w s) edR_sym, pif_pos q, mL_32 h1 h2]
theorem md_n {A : LA} {w s f t : Int32} {h : Nat → Int64} (hn : nnL h) (D : Dn (EdyA A w s) t.toNatClampNeg 1000000000000 (fL h)) (hF : ∀ q d, q < 16 → Ls (EdyA A w s) t.toNatClampNeg q d → d ≤ 900000000) (hf : rg f 0 15) (c1 : (1000000000000 : Int64) ≤ h f.toNatClampNeg) : (-5 : Int32) = pif (hasW (EdyA A w s) f.toNatClampNeg t.toNatClampNeg) (Int32.ofNat (lsN (EdyA A w s) f.toNatClampNeg t.toNatClampNeg)) (-5) := by
  rw [hasW_sym (E := EdyA A w s) edR_sym]
  exact (pif_neg ((mL_i hn D hF (p16 hf)).mp c1)).symm

set_option maxHeartbeats 4000000 in
set_option maxRecDepth 100000 in
theorem e_X7_soonest (l : Launch) (D : va_G) (E : Nat → ClassId) (G : Nat → Nat) (sz : Nat) (a : Nat → Nat) (C : Nat → va_E) (n : Nat) (hn : 74 ≤ n) (hT : TyM a E C) (x1 : Int32) (x2 : Int32) (x3 : Int32) (x4 : Int32) (hR : RelM C) : Met l yX7_soonest (oh_w yX7_soonest cX7_soonest 5 (some .int)) ({ frames := 6, cells := 0, slots := 0, locals := 152 }) (oh_Pm D E G [.ref (a 0), .int x1, .int x2, .int x3, .int x4] (oh_W n a C) sz) (va_Qi (fun r (u : Nat → va_E) => TyM a E u ∧ fr [(8, 9), (15, 16)] [] C u ∧ (RelM u) ∧ (∀ A : LA, absM C A → okA A → r = spSoon A x1 x2 x3 x4)) (oh_B D (va_A (oh_W n a C) sz) (fun u => oh_W n a u)) (va_A (oh_W n a C) sz)) 0 0 (va_A (oh_W n a C) sz) := by
  refine Met.ofW (cc := cX7_soonest) (maxL := 5) (ret := (some .int)) (by decide) rfl ?_
  intro p e s m args below meth c s₁ B hml hv
  obtain ⟨rfl, hsz, hP, hK, hD0, hG⟩ := hv
  have hx := B.exec
  have hb := B.bytes
  have hr := B.returns
  have hts := atoms_spec (ws := (oh_w yX7_soonest cX7_soonest 5 (some .int))) B.pre
  have htg : ∀ w ∈ oh_t, w.before _ s = true := fun w h => hts w (List.mem_cons_of_mem _ h)
  have hown : s.vm.findClass RX7 = some m.cls := findClass_of_methodNamed B.named
  have hlocks := B.notSynchronized
  have hT0 := hT
  subst hsz
  have hD := hD0.self (sz := s.heap.size)
  generalize hAe : va_A (oh_W n a C) s.heap.size = A at hD hG ⊢
  have hA : ∀ q : Nat, s.heap.size ≤ q → A q := fun q h => by rw [← hAe]; exact Or.inr h
  have hS : va_S A s.heap s.heap [] := va_S.rf
  have hF : fr [(8, 9), (15, 16)] [] C C := fr_rf
  have hl := lv_entry ([.ref (a 0), .int x1, .int x2, .int x3, .int x4]) (n := 5) (Nat.le_of_ble_eq_true rfl)
  rw [lg_entry_eq]
  generalize (lg_sl ([.ref (a 0), .int x1, .int x2, .int x3, .int x4]) ++ List.replicate (5 - (lg_sl ([.ref (a 0), .int x1, .int x2, .int x3, .int x4])).length) Slot.unset).toArray = ls at hl ⊢
  have hl : lv_has ls 5 [(0, .ref (a 0)), (1, .int x1), (2, .int x2), (3, .int x3), (4, .int x4)] := hl
  refine oh_genQ (fun Q hQ => ?_)
  refine lv_aload_n hx hb dX7_soonest_0 rfl (lv_at hl 0 rfl) ?_
  refine lv_iload_n hx hb dX7_soonest_1 rfl (lv_at hl 1 rfl) ?_
  refine lv_iload_n hx hb dX7_soonest_2 rfl (lv_at hl 2 rfl) ?_
  refine tq_V (As := [.int x1, .int x2]) (rest := []) (ws := (oh_W n a C)) ⟨hx, hb, hml, hown, htg⟩ (e_X7_isPack l D E G a C n hn hT x1 x2 hR.1) (cwV 2 htg (oh_gV q_1290 q_1292 q_50 q_73 q_1293) rfl rfl rfl pdVX7_isPack ⟨Nat.le_of_ble_eq_true rfl, Nat.le_of_ble_eq_true rfl⟩) hK hP hG hS (va_recv hK hP (ci := 7) (q0 := 0) rfl (oh_wg (Nat.lt_of_lt_of_le (by decide) hn) (sM_0 hT))) rfl hl.1 rfl (Nat.le_of_ble_eq_true rfl) dX7_soonest_3 ⟨Nat.le_of_ble_eq_true rfl, Nat.le_of_ble_eq_true rfl⟩ (fun r_1 hq_2 => ?_)
  refine lv_if_eq (tgt := 24) hx hb dX7_soonest_6 (by decide) (fun (c_3 : r_1 = 0) => ?_) (fun (c_3 : ¬ (r_1 = 0)) => ?_)
  · have u_4 := hq_2.2.2 c_3
    refine lv_aload_n hx hb dX7_soonest_24 rfl (lv_at hl 0 rfl) ?_
    refine lv_bipush (v := (-2)) hx hb dX7_soonest_25 (by decide) ?_
    refine tm_V (As := [.int (-2)]) (rest := []) ⟨hx, hb, hml, hown, htg⟩ (c_X7_refuse l D E G _ a C n hn hT ((-2) : Int32) (rg_w (rg_c (v := (-2)) (lo := (-2)) (hi := (-2)) (by decide)) (by decide))) (cwV 1 htg (oh_gV q_1071 q_1073 q_29 q_73 q_1074) rfl rfl rfl pdVX7_refuse ⟨Nat.le_of_ble_eq_true rfl, Nat.le_of_ble_eq_true rfl⟩) hK hP hD hG hS hA (va_recv hK hP (ci := 7) (q0 := 0) rfl (oh_wg (Nat.lt_of_lt_of_le (by decide) hn) (sM_0 hT))) rfl hl.1 rfl (Nat.le_of_ble_eq_true rfl) dX7_soonest_27 ⟨Nat.le_of_ble_eq_true rfl, Nat.le_of_ble_eq_true rfl⟩ (fun r_5 C_6 H locs hq_7 hP hD hS => ?_)
    obtain ⟨hT, f_8, hq_7⟩ := hq_7
    have hF := fr_tr hF f_8 (by decide) (by decide)
    refine W.widen (k := 0) (n := 0) (Nat.le_refl _) (Nat.le_refl _) ?_
    have t_9 := hT
    rw [hQ]
    exact W.iret (v := r_5) hx hb hr (fun t ht hW => ⟨⟨r_5, C_6, rfl, ⟨hT, hF, ⟨⟨hR.1.fr hF (by decide), hR.2.fr hF (by decide)⟩, (fun A hA hok => Eq.trans hq_7 (pif_neg (by unfold okJ; rw [← (show gi (C 0) 13 = A 5 0 2 from hA.1 2 (by decide)), ← (show gi (C 0) 15 = A 5 0 3 from hA.1 3 (by decide))]; exact (fun h8 => u_4 h8.1))).symm)⟩⟩, ⟨by rw [ht]; exact hP, hD⟩⟩, hS.F ht⟩) hS.2.2 dX7_soonest_30
  · have u_10 := hq_2.2.1 c_3
    refine lv_iload_n hx hb dX7_soonest_9 rfl (lv_at hl 3 rfl) ?_
    refine tq_S (As := [.int x3]) (rest := []) (ws := []) ⟨hx, hb, hml, hown, htg⟩ (e_X7_isPlace l D E G x3) (va_cwS 1 htg (oh_gS q_1130 q_1131 q_73 q_1132) rfl rfl rfl pdX7_isPlace ⟨Nat.le_of_ble_eq_true rfl, Nat.le_of_ble_eq_true rfl⟩) hK va_nil hG hS rfl hl.1 rfl (Nat.le_of_ble_eq_true rfl) dX7_soonest_10 ⟨Nat.le_of_ble_eq_true rfl, Nat.le_of_ble_eq_true rfl⟩ (fun r_11 hq_12 => ?_)
    refine lv_if_eq (tgt := 24) hx hb dX7_soonest_13 (by decide) (fun (c_13 : r_11 = 0) => ?_) (fun (c_13 : ¬ (r_11 = 0)) => ?_)
    · have u_14 := hq_12.2.2 c_13
      refine lv_aload_n hx hb dX7_soonest_24 rfl (lv_at hl 0 rfl) ?_
      refine lv_bipush (v := (-2)) hx hb dX7_soonest_25 (by decide) ?_
      refine tm_V (As := [.int (-2)]) (rest := []) ⟨hx, hb, hml, hown, htg⟩ (c_X7_refuse l D E G _ a C n hn hT ((-2) : Int32) (rg_w (rg_c (v := (-2)) (lo := (-2)) (hi := (-2)) (by decide)) (by decide))) (cwV 1 htg (oh_gV q_1071 q_1073 q_29 q_73 q_1074) rfl rfl rfl pdVX7_refuse ⟨Nat.le_of_ble_eq_true rfl, Nat.le_of_ble_eq_true rfl⟩) hK hP hD hG hS hA (va_recv hK hP (ci := 7) (q0 := 0) rfl (oh_wg (Nat.lt_of_lt_of_le (by decide) hn) (sM_0 hT))) rfl hl.1 rfl (Nat.le_of_ble_eq_true rfl) dX7_soonest_27 ⟨Nat.le_of_ble_eq_true rfl, Nat.le_of_ble_eq_true rfl⟩ (fun r_15 C_16 H locs hq_17 hP hD hS => ?_)
      obtain ⟨hT, f_18, hq_17⟩ := hq_17
      have hF := fr_tr hF f_18 (by decide) (by decide)
      refine W.widen (k := 0) (n := 0) (Nat.le_refl _) (Nat.le_refl _) ?_
      have t_19 := hT
      rw [hQ]
      exact W.iret (v := r_15) hx hb hr (fun t ht hW => ⟨⟨r_15, C_16, rfl, ⟨hT, hF, ⟨⟨hR.1.fr hF (by decide), hR.2.fr hF (by decide)⟩, (fun A hA hok => Eq.trans hq_17 (pif_neg (by unfold okJ; rw [← (show gi (C 0) 13 = A 5 0 2 from hA.1 2 (by decide)), ← (show gi (C 0) 15 = A 5 0 3 from hA.1 3 (by decide))]; exact (fun h8 => u_14 h8.2.1))).symm)⟩⟩, ⟨by rw [ht]; exact hP, hD⟩⟩, hS.F ht⟩) hS.2.2 dX7_soonest_30
    · have u_20 := hq_12.2.1 c_13
      refine lv_iload hx hb dX7_soonest_16 (lv_at hl 4 rfl) ?_
      refine tq_S (As := [.int x4]) (rest := []) (ws := []) ⟨hx, hb, hml, hown, htg⟩ (e_X7_isPlace l D E G x4) (va_cwS 1 htg (oh_gS q_1130 q_1131 q_73 q_1132) rfl rfl rfl pdX7_isPlace ⟨Nat.le_of_ble_eq_true rfl, Nat.le_of_ble_eq_true rfl⟩) hK va_nil hG hS rfl hl.1 rfl (Nat.le_of_ble_eq_true rfl) dX7_soonest_18 ⟨Nat.le_of_ble_eq_true rfl, Nat.le_of_ble_eq_true rfl⟩ (fun r_21 hq_22 => ?_)
      refine lv_if_ne (tgt := 31) hx hb dX7_soonest_21 (by decide) (fun (c_23 : ¬ (r_21 = 0)) => ?_) (fun (c_23 : r_21 = 0) => ?_)
      · have u_24 := hq_22.2.1 c_23
        refine lv_aload_n hx hb dX7_soonest_31 rfl (lv_at hl 0 rfl) ?_
        refine lv_iload_n hx hb dX7_soonest_32 rfl (lv_at hl 1 rfl) ?_
        refine lv_iload_n hx hb dX7_soonest_33 rfl (lv_at hl 2 rfl) ?_
        refine lv_iload hx hb dX7_soonest_34 (lv_at hl 4 rfl) ?_
        refine lv_iconst (v := 0) hx hb dX7_soonest_36 (by decide) ?_
        refine tm_Vv (As := [.int x1, .int x2, .int x4, .int 0]) (rest := []) ⟨hx, hb, hml, hown, htg⟩ (e_X7_findFar l D E G _ a C n hn hT x1 x2 x4 (0 : Int32) (rg_w u_10.1 (by decide)) (rg_w u_24 (by decide)) u_10.2.1) (cwV 4 htg (oh_gV q_1351 q_1353 q_60 q_73 q_1354) rfl rfl rfl pdVX7_findFar ⟨Nat.le_of_ble_eq_true rfl, Nat.le_of_ble_eq_true rfl⟩) hK hP hD hG hS hA (va_recv hK hP (ci := 7) (q0 := 0) rfl (oh_wg (Nat.lt_of_lt_of_le (by decide) hn) (sM_0 hT))) rfl hl.1 rfl (Nat.le_of_ble_eq_true rfl) dX7_soonest_37 ⟨Nat.le_of_ble_eq_true rfl, Nat.le_of_ble_eq_true rfl⟩ (fun C_26 H locs hq_27 hP hD hS => ?_)
        obtain ⟨hT, f_28, hq_27⟩ := hq_27
        have hF := fr_tr hF f_28 (by decide) (by decide)
        refine W.widen (k := 0) (n := 0) (Nat.le_refl _) (Nat.le_refl _) ?_
        have t_29 := hT
        refine lv_aload_n hx hb dX7_soonest_40 rfl (lv_at hl 0 rfl) ?_
        refine va_get (D := D) (ci := 7) (v := .ref (a 15)) (C := RX7) (T := TX7) (N := 29) hx hb htg ig_7 hown hK hP 0 (oh_wg (Nat.lt_of_lt_of_le (by decide) hn) (sM_0 hT)) rfl 27 (by decide) (htg _ q_1000) (fun _ h9 => h9) rfl dX7_soonest_41 ?_
        refine lv_iload_n hx hb dX7_soonest_44 rfl (lv_at hl 3 rfl) ?_
        have n_30 : vp_in x3 16 := (rg_in u_20 (by decide))
        refine th_lald hx hb hK hP 15 (Nat.lt_of_lt_of_le (by decide) hn) (sM_15 hT) n_30 dX7_soonest_45 ?_
        refine lv_ldc2 (v := 1000000000000) hx hb hown (htg _ q_1355) dX7_soonest_46 ?_
        refine W.lcmp hx hb dX7_soonest_49 ?_
        refine lv_if_lt (tgt := 62) hx hb dX7_soonest_50 (by decide) (fun (c_31 : (lg_cmp (gb (C_26 15) (x3).toNatClampNeg) 1000000000000) < 0) => ?_) (fun (c_31 : ¬ ((lg_cmp (gb (C_26 15) (x3).toNatClampNeg) 1000000000000) < 0)) => ?_)
        · refine lv_aload_n hx hb dX7_soonest_62 rfl (lv_at hl 0 rfl) ?_
          refine va_get (D := D) (ci := 7) (v := .ref (a 15)) (C := RX7) (T := TX7) (N := 29) hx hb htg ig_7 hown hK hP 0 (oh_wg (Nat.lt_of_lt_of_le (by decide) hn) (sM_0 hT)) rfl 27 (by decide) (htg _ q_1000) (fun _ h9 => h9) rfl dX7_soonest_63 ?_
          refine lv_iload_n hx hb dX7_soonest_66 rfl (lv_at hl 3 rfl) ?_
          have n_32 : vp_in x3 16 := (rg_in u_20 (by decide))
          refine th_lald hx hb hK hP 15 (Nat.lt_of_lt_of_le (by decide) hn) (sM_15 hT) n_32 dX7_soonest_67 ?_
          refine lv_l2i (v := Int64.toInt32 (gb (C_26 15) (x3).toNatClampNeg)) hx hb dX7_soonest_68 rfl ?_
          rw [hQ]
          exact W.iret (v := Int64.toInt32 (gb (C_26 15) (x3).toNatClampNeg)) hx hb hr (fun t ht hW => ⟨⟨Int64.toInt32 (gb (C_26 15) (x3).toNatClampNeg), C_26, rfl, ⟨hT, hF, ⟨⟨hR.1.fr hF (by decide), hR.2.fr hF (by decide)⟩, (fun A hA hok => by have hj : okJ A x1 x2 x3 x4 := (by unfold okJ; rw [← (show gi (C 0) 13 = A 5 0 2 from hA.1 2 (by decide)), ← (show gi (C 0) 15 = A 5 0 3 from hA.1 3 (by decide))]; exact ⟨u_10.2.2.2, (oh_rgI (p := 0) (q := 15) (rg_w (lo := 0) (hi := 15) u_20 (by decide))), (oh_rgI (p := 0) (q := 15) (rg_w (lo := 0) (hi := 15) u_24 (by decide)))⟩); obtain ⟨hnn, D⟩ := hq_27 A hA hok hj.1.1.2 ⟨by decide, by decide⟩; rw [EnA_0 rfl] at D; have hF := ed_fin hok x1 x2 (p16 (rg_w (lo := 0) (hi := 15) u_24 (by decide))); exact Eq.trans (md_y hnn D hF (rg_w (lo := 0) (hi := 15) u_20 (by decide)) (oh_lc_lt c_31)) (pif_pos hj).symm)⟩⟩, ⟨by rw [ht]; exact hP, hD⟩⟩, hS.F ht⟩) hS.2.2 dX7_soonest_69
        · refine lv_aload_n hx hb dX7_soonest_53 rfl (lv_at hl 0 rfl) ?_
          refine lv_bipush (v := (-5)) hx hb dX7_soonest_54 (by decide) ?_
          refine tm_V (As := [.int (-5)]) (rest := []) ⟨hx, hb, hml, hown, htg⟩ (c_X7_refuse l D E G _ a C_26 n hn hT ((-5) : Int32) (rg_w (rg_c (v := (-5)) (lo := (-5)) (hi := (-5)) (by decide)) (by decide))) (cwV 1 htg (oh_gV q_1071 q_1073 q_29 q_73 q_1074) rfl rfl rfl pdVX7_refuse ⟨Nat.le_of_ble_eq_true rfl, Nat.le_of_ble_eq_true rfl⟩) hK hP hD hG hS hA (va_recv hK hP (ci := 7) (q0 := 0) rfl (oh_wg (Nat.lt_of_lt_of_le (by decide) hn) (sM_0 hT))) rfl hl.1 rfl (Nat.le_of_ble_eq_true rfl) dX7_soonest_56 ⟨Nat.le_of_ble_eq_true rfl, Nat.le_of_ble_eq_true rfl⟩ (fun r_33 C_34 H locs hq_35 hP hD hS => ?_)
          obtain ⟨hT, f_36, hq_35⟩ := hq_35
          have hF := fr_tr hF f_36 (by decide) (by decide)
          refine W.widen (k := 0) (n := 0) (Nat.le_refl _) (Nat.le_refl _) ?_
          have t_37 := hT
          refine lv_goto (tgt := 69) hx hb dX7_soonest_59 (by decide) ?_
          rw [hQ]
          exact W.iret (v := r_33) hx hb hr (fun t ht hW => ⟨⟨r_33, C_34, rfl, ⟨hT, hF, ⟨⟨hR.1.fr hF (by decide), hR.2.fr hF (by decide)⟩, (fun A hA hok => by have hj : okJ A x1 x2 x3 x4 := (by unfold okJ; rw [← (show gi (C 0) 13 = A 5 0 2 from hA.1 2 (by decide)), ← (show gi (C 0) 15 = A 5 0 3 from hA.1 3 (by decide))]; exact ⟨u_10.2.2.2, (oh_rgI (p := 0) (q := 15) (rg_w (lo := 0) (hi := 15) u_20 (by decide))), (oh_rgI (p := 0) (q := 15) (rg_w (lo := 0) (hi := 15) u_24 (by decide)))⟩); obtain ⟨hnn, D⟩ := hq_27 A hA hok hj.1.1.2 ⟨by decide, by decide⟩; rw [EnA_0 rfl] at D; have hF := ed_fin hok x1 x2 (p16 (rg_w (lo := 0) (hi := 15) u_24 (by decide))); exact Eq.trans hq_35 (Eq.trans (md_n hnn D hF (rg_w (lo := 0) (hi := 15) u_20 (by decide)) (oh_lc_nlt c_31)) (pif_pos hj).symm))⟩⟩, ⟨by rw [ht]; exact hP, hD⟩⟩, hS.F ht⟩) hS.2.2 dX7_soonest_69
      · have u_38 := hq_22.2.2 c_23
        refine lv_aload_n hx hb dX7_soonest_24 rfl (lv_at hl 0 rfl) ?_
        refine lv_bipush (v := (-2)) hx hb dX7_soonest_25 (by decide) ?_
        refine tm_V (As := [.int (-2)]) (rest := []) ⟨hx, hb, hml, hown, htg⟩ (c_X7_refuse l D E G _ a C n hn hT ((-2) : Int32) (rg_w (rg_c (v := (-2)) (lo := (-2)) (hi := (-2)) (by decide)) (by decide))) (cwV 1 htg (oh_gV q_1071 q_1073 q_29 q_73 q_1074) rfl rfl rfl pdVX7_refuse ⟨Nat.le_of_ble_eq_true rfl, Nat.le_of_ble_eq_true rfl⟩) hK hP hD hG hS hA (va_recv hK hP (ci := 7) (q0 := 0) rfl (oh_wg (Nat.lt_of_lt_of_le (by decide) hn) (sM_0 hT))) rfl hl.1 rfl (Nat.le_of_ble_eq_true rfl) dX7_soonest_27 ⟨Nat.le_of_ble_eq_true rfl, Nat.le_of_ble_eq_true rfl⟩ (fun r_39 C_40 H locs hq_41 hP hD hS => ?_)
        obtain ⟨hT, f_42, hq_41⟩ := hq_41
        have hF := fr_tr hF f_42 (by decide) (by decide)
        refine W.widen (k := 0) (n := 0) (Nat.le_refl _) (Nat.le_refl _) ?_
        have t_43 := hT
        rw [hQ]
        exact W.iret (v := r_39) hx hb hr (fun t ht hW => ⟨⟨r_39, C_40, rfl, ⟨hT, hF, ⟨⟨hR.1.fr hF (by decide), hR.2.fr hF (by decide)⟩, (fun A hA hok => Eq.trans hq_41 (pif_neg (by unfold okJ; rw [← (show gi (C 0) 13 = A 5 0 2 from hA.1 2 (by decide)), ← (show gi (C 0) 15 = A 5 0 3 from hA.1 3 (by decide))]; exact (fun h8 => u_38 h8.2.2))).symm)⟩⟩, ⟨by rw [ht]; exact hP, hD⟩⟩, hS.F ht⟩) hS.2.2 dX7_soonest_30
/-! FULL: the places that can be reached -/
noncomputable def rcA (A : LA) (w s f : Int32) : Nat → Int32
  | 0 => 0
  | k + 1 => rcA A w s f k ||| pif (hasW (EcA A w s 1) f.toNatClampNeg k) ((1 : Int32) <<< (Int32.ofNat k &&& 31)) 0
theorem rcA_y {A : LA} {w s f z : Int32} (hz : rg z 0 15) (q : hasW (EcA A w s 1) f.toNatClampNeg z.toNatClampNeg) : rcA A w s f (z + 1).toNatClampNeg = rcA A w s f z.toNatClampNeg ||| ((1 : Int32) <<< (z &&& 31)) := by
  rw [z_s15 hz]
  show rcA A w s f z.toNatClampNeg ||| pif (hasW (EcA A w s 1) f.toNatClampNeg z.toNatClampNeg) ((1 : Int32) <<< (Int32.ofNat z.toNatClampNeg &&& 31)) 0 = _
  rw [pif_pos q, oh_ofc hz (by decide)]
theorem rcA_n {A : LA} {w s f z : Int32} (hz : rg z 0 15) (q : ¬ hasW (EcA A w s 1) f.toNatClampNeg z.toNatClampNeg) : rcA A w s f (z + 1).toNatClampNeg = rcA A w s f z.toNatClampNeg ||| 0 := by
  rw [z_s15 hz]
  show rcA A w s f z.toNatClampNeg ||| pif (hasW (EcA A w s 1) f.toNatClampNeg z.toNatClampNeg) ((1 : Int32) <<< (Int32.ofNat z.toNatClampNeg &&& 31)) 0 = _
  rw [pif_neg q]
noncomputable def spReach (A : LA) (w s f : Int32) : Int32 := pif (okPk (A 5 0 2) (A 5 0 3) w s ∧ (0 ≤ f ∧ f ≤ 15)) (rcA A w s f 16) (-2)

set_option maxHeartbeats 4000000 in
set_option maxRecDepth 100000 in
theorem e_X5_reached (l : Launch) (D : va_G) (E : Nat → ClassId) (G : Nat → Nat) (sz : Nat) (a : Nat → Nat) (C : Nat → va_E) (hT : TyX a E C) (x1 : Int32) (x2 : Int32) (x3 : Int32) (hx1 : rg x1 0 4) (hx3 : rg x3 0 15) : Met l yX5_reached (oh_w yX5_reached cX5_reached 6 (some .int)) ({ frames := 4, cells := 0, slots := 0, locals := 100 }) (oh_Pm D E G [.ref (a 3), .int x1, .int x2, .int x3] (oh_W 35 a C) sz) (va_Qi (fun r (u : Nat → va_E) => TyX a E u ∧ fr [(9, 10), (24, 28)] [] C u ∧ (∀ A : LA, absX 10 C A → okA A → x1 < A 5 0 2 → r = rcA A x1 x2 x3 16)) (oh_B D (va_A (oh_W 35 a C) sz) (fun u => oh_W 35 a u)) (va_A (oh_W 35 a C) sz)) 0 0 (va_A (oh_W 35 a C) sz) := by
  refine Met.ofW (cc := cX5_reached) (maxL := 6) (ret := (some .int)) (by decide) rfl ?_
  intro p e s m args below meth c s₁ B hml hv
  obtain ⟨rfl, hsz, hP, hK, hD0, hG⟩ := hv
  have hx := B.exec
  have hb := B.bytes
  have hr := B.returns
  have hts := atoms_spec (ws := (oh_w yX5_reached cX5_reached 6 (some .int))) B.pre
  have htg : ∀ w ∈ oh_t, w.before _ s = true := fun w h => hts w (List.mem_cons_of_mem _ h)
  have hown : s.vm.findClass RX5 = some m.cls := findClass_of_methodNamed B.named
  have hlocks := B.notSynchronized
  have hT0 := hT
  subst hsz
  have hD := hD0.self (sz := s.heap.size)
  generalize hAe : va_A (oh_W 35 a C) s.heap.size = A at hD hG ⊢
  have hA : ∀ q : Nat, s.heap.size ≤ q → A q := fun q h => by rw [← hAe]; exact Or.inr h
  have hS : va_S A s.heap s.heap [] := va_S.rf
  have hF : fr [(9, 10), (24, 28)] [] C C := fr_rf
  have hl := lv_entry ([.ref (a 3), .int x1, .int x2, .int x3]) (n := 6) (Nat.le_of_ble_eq_true rfl)
  rw [lg_entry_eq]
  generalize (lg_sl ([.ref (a 3), .int x1, .int x2, .int x3]) ++ List.replicate (6 - (lg_sl ([.ref (a 3), .int x1, .int x2, .int x3])).length) Slot.unset).toArray = ls at hl ⊢
  have hl : lv_has ls 6 [(0, .ref (a 3)), (1, .int x1), (2, .int x2), (3, .int x3)] := hl
  refine oh_genQ (fun Q hQ => ?_)
  refine lv_aload_n hx hb dX5_reached_0 rfl (lv_at hl 0 rfl) ?_
  refine lv_iload_n hx hb dX5_reached_1 rfl (lv_at hl 1 rfl) ?_
  refine lv_iload_n hx hb dX5_reached_2 rfl (lv_at hl 2 rfl) ?_
  refine tm_Vv (As := [.int x1, .int x2]) (rest := []) ⟨hx, hb, hml, hown, htg⟩ (e_X5_survey l D E G _ a C hT x1 x2 (rg_w hx1 (by decide))) (cwV 2 htg (oh_gV q_784 q_751 q_752 q_68 q_753) rfl rfl rfl pdVX5_survey ⟨Nat.le_of_ble_eq_true rfl, Nat.le_of_ble_eq_true rfl⟩) hK hP hD hG hS hA (va_recv hK hP (ci := 5) (q0 := 3) rfl (oh_wg (by decide) (sX_3 hT))) rfl hl.1 rfl (Nat.le_of_ble_eq_true rfl) dX5_reached_3 ⟨Nat.le_of_ble_eq_true rfl, Nat.le_of_ble_eq_true rfl⟩ (fun C_2 H locs hq_3 hP hD hS => ?_)
  obtain ⟨hT, f_4, hq_3⟩ := hq_3
  have hF := fr_tr hF f_4 (by decide) (by decide)
  refine W.widen (k := 0) (n := 0) (Nat.le_refl _) (Nat.le_refl _) ?_
  have t_5 := hT
  refine lv_aload_n hx hb dX5_reached_6 rfl (lv_at hl 0 rfl) ?_
  refine lv_iconst (v := 1) hx hb dX5_reached_7 (by decide) ?_
  refine tm_Vv (As := [.int 1]) (rest := []) ⟨hx, hb, hml, hown, htg⟩ (e_X5_priceByCoin l D E G _ a C_2 hT (1 : Int32)) (cwV 1 htg (oh_gV q_785 q_787 q_18 q_68 q_788) rfl rfl rfl pdVX5_priceByCoin ⟨Nat.le_of_ble_eq_true rfl, Nat.le_of_ble_eq_true rfl⟩) hK hP hD hG hS hA (va_recv hK hP (ci := 5) (q0 := 3) rfl (oh_wg (by decide) (sX_3 hT))) rfl hl.1 rfl (Nat.le_of_ble_eq_true rfl) dX5_reached_8 ⟨Nat.le_of_ble_eq_true rfl, Nat.le_of_ble_eq_true rfl⟩ (fun C_7 H locs hq_8 hP hD hS => ?_)
  obtain ⟨hT, f_9, hq_8⟩ := hq_8
  have hF := fr_tr hF f_9 (by decide) (by decide)
  refine W.widen (k := 0) (n := 0) (Nat.le_refl _) (Nat.le_refl _) ?_
  have t_10 := hT
  refine lv_aload_n hx hb dX5_reached_11 rfl (lv_at hl 0 rfl) ?_
  refine lv_iload_n hx hb dX5_reached_12 rfl (lv_at hl 3 rfl) ?_
  refine tm_Vv (As := [.int x3]) (rest := []) ⟨hx, hb, hml, hown, htg⟩ (e_X5_spread l D E G _ a C_7 hT x3 (rg_w hx3 (by decide))) (cwV 1 htg (oh_gV q_790 q_792 q_19 q_68 q_793) rfl rfl rfl pdVX5_spread ⟨Nat.le_of_ble_eq_true rfl, Nat.le_of_ble_eq_true rfl⟩) hK hP hD hG hS hA (va_recv hK hP (ci := 5) (q0 := 3) rfl (oh_wg (by decide) (sX_3 hT))) rfl hl.1 rfl (Nat.le_of_ble_eq_true rfl) dX5_reached_13 ⟨Nat.le_of_ble_eq_true rfl, Nat.le_of_ble_eq_true rfl⟩ (fun C_12 H locs hq_13 hP hD hS => ?_)
  obtain ⟨hT, f_14, hq_13⟩ := hq_13
  have hF := fr_tr hF f_14 (by decide) (by decide)
  refine W.widen (k := 0) (n := 0) (Nat.le_refl _) (Nat.le_refl _) ?_
  have t_15 := hT
  refine lv_iconst (v := 0) hx hb dX5_reached_16 (by decide) ?_
  refine lv_istore (lv' := [(4, .int 0), (0, .ref (a 3)), (1, .int x1), (2, .int x2), (3, .int x3)]) hx hb dX5_reached_17 hl (by decide) rfl (fun ls hl => ?_)
  refine lv_iconst (v := 0) hx hb dX5_reached_19 (by decide) ?_
  refine lv_istore (lv' := [(5, .int 0), (4, .int 0), (0, .ref (a 3)), (1, .int x1), (2, .int x2), (3, .int x3)]) hx hb dX5_reached_20 hl (by decide) rfl (fun ls hl => ?_)
  have L_22 : ∀ (d : Nat) (K22 : Nat → va_E) (z22_5 : Int32) (z22_4 : Int32) (H : Heap) (locs : List Loc) (ls : Array Slot), (16 - z22_5.toInt).toNat = d → rg z22_5 0 16 → (∀ A : LA, absX 10 C A → okA A → x1 < A 5 0 2 → z22_4 = rcA A x1 x2 x3 z22_5.toNatClampNeg) → TyX a E K22 → fr [(9, 10), (24, 28)] [] C K22 → fr [] [] C_12 K22 → va_P D vwCl (oh_W 35 a K22) H → va_D A (oh_W 35 a K22) → va_S A s.heap H locs → lv_has ls 6 [(5, .int z22_5), (4, .int z22_4), (0, .ref (a 3)), (1, .int x1), (2, .int x2), (3, .int x3)] → W p l e ({ frames := 4, cells := 0, slots := 0, locals := 100 }) s m (([.ref (a 3), .int x1, .int x2, .int x3] : List Value).toArray) below meth c H locs 0 0 Q (F0 m 22 ls []) := by
    intro d
    induction d using Nat.strongRecOn with
    | ind d ih_22 =>
    intro K22 z22_5 z22_4 H locs ls hd_22 hz22_5 hx_22 hT hF hLF_22 hP hD hS hl
    have t_16 := hT
    refine lv_iload hx hb dX5_reached_22 (lv_at hl 0 rfl) ?_
    refine lv_bipush (v := 16) hx hb dX5_reached_24 (by decide) ?_
    refine lv_icmp_ge (tgt := 56) hx hb dX5_reached_26 (by decide) (fun (c_17 : (16 : Int32) ≤ z22_5) => ?_) (fun (c_17 : ¬ ((16 : Int32) ≤ z22_5)) => ?_)
    · refine lv_iload hx hb dX5_reached_56 (lv_at hl 1 rfl) ?_
      rw [hQ]
      exact W.iret (v := z22_4) hx hb hr (fun t ht hW => ⟨⟨z22_4, K22, rfl, ⟨hT, hF, (fun A hA hok hl => by have h7 := hx_22 A hA hok hl; rw [oh_zeq (k := 16) hz22_5 c_17 (by decide)] at h7; exact h7)⟩, ⟨by rw [ht]; exact hP, hD⟩⟩, hS.F ht⟩) hS.2.2 dX5_reached_58
    · refine lv_aload_n hx hb dX5_reached_29 rfl (lv_at hl 2 rfl) ?_
      refine va_get (D := D) (ci := 5) (v := .ref (a 27)) (C := RX5) (T := TX5) (N := 7) hx hb htg ig_5 hown hK hP 3 (oh_wg (by decide) (sX_3 hT)) rfl 5 (by decide) (htg _ q_174) (fun _ h9 => h9) rfl dX5_reached_30 ?_
      refine lv_iload hx hb dX5_reached_33 (lv_at hl 0 rfl) ?_
      have n_18 : vp_in z22_5 16 := (rg_in (rn_ltu (u' := 15) (Int32.not_le.mp c_17) hz22_5 (rg_c (v := 16) (lo := 16) (hi := 16) (by decide)) (by decide)) (by decide))
      refine th_iald hx hb hK hP 27 (by decide) (Eq.trans (hLF_22.1 27 rfl (by decide)) (sX_27 t_15)) n_18 dX5_reached_35 ?_
      refine lv_ldc (v := 1000000000) hx hb hown (htg _ q_794) dX5_reached_36 ?_
      refine lv_icmp_eq (tgt := 50) hx hb dX5_reached_38 (by decide) (fun (c_19 : (ga (C_12 27) (z22_5).toNatClampNeg) = 1000000000) => ?_) (fun (c_19 : ¬ ((ga (C_12 27) (z22_5).toNatClampNeg) = 1000000000)) => ?_)
      · refine lv_iinc (v := z22_5 + 1) (lv' := [(5, .int (z22_5 + 1)), (4, .int z22_4), (0, .ref (a 3)), (1, .int x1), (2, .int x2), (3, .int x3)]) hx hb dX5_reached_50 hl (k := 0) rfl (by rfl) (by decide) rfl (fun ls hl => ?_)
        refine lv_goto (tgt := 22) hx hb dX5_reached_53 (by decide) ?_
        exact ih_22 _ (hd_22 ▸ mu_up 16 (rn_ltu (u' := 15) (Int32.not_le.mp c_17) hz22_5 (rg_c (v := 16) (lo := 16) (hi := 16) (by decide)) (by decide)) (by decide)) K22 (z22_5 + 1) z22_4 _ _ ls rfl (rg_w (rg_add (lo := 1) (hi := 16) (rn_ltu (u' := 15) (Int32.not_le.mp c_17) hz22_5 (rg_c (v := 16) (lo := 16) (hi := 16) (by decide)) (by decide)) (rg_c (v := 1) (lo := 1) (hi := 1) (by decide)) (by decide)) (by decide)) (fun A hA hok hl => by have hs2 : svX C_2 A x1 x2 := hq_3 A hA hl; have hA2 := (absX_eq hA (fr_all f_4 10 15 (by decide))); have hA7 := (absX_eq (absX_eq hA (fr_all f_4 10 15 (by decide))) (fr_all f_9 10 15 (by decide))); have hs7 : svX C_7 A x1 x2 := svX_eq hs2 (f_9.1 9 rfl (by decide)) (f_9.1 24 rfl (by decide)) (f_9.1 25 rfl (by decide)); have G := gx_c hA7 hok hx1 hl ⟨by decide, by decide⟩ hs7 (hq_8 A x1 x2 hA2 hs2); have hF := ec_fin hok x2 hx1 hl (n := 1) ⟨by decide, by decide⟩ (p16 hx3); obtain ⟨hnn, D⟩ := hq_13 _ _ _ _ _ G; rw [rcA_n (rg_w (lo := 0) (hi := 15) (rn_ltu (u' := 15) (Int32.not_le.mp c_17) hz22_5 (rg_c (v := 16) (lo := 16) (hi := 16) (by decide)) (by decide)) (by decide)) ((fX_i D hF (p16 (rg_w (lo := 0) (hi := 15) (rn_ltu (u' := 15) (Int32.not_le.mp c_17) hz22_5 (rg_c (v := 16) (lo := 16) (hi := 16) (by decide)) (by decide)) (by decide)))).mp c_19), ← hx_22 A hA hok hl, Int32.or_zero]) hT hF hLF_22 hP hD hS (lv_sub hl [0, 1, 2, 3, 4, 5] rfl)
      · refine lv_iload hx hb dX5_reached_41 (lv_at hl 1 rfl) ?_
        refine lv_iconst (v := 1) hx hb dX5_reached_43 (by decide) ?_
        refine lv_iload hx hb dX5_reached_44 (lv_at hl 0 rfl) ?_
        refine lv_ishl hx hb dX5_reached_46 ?_
        refine lv_ior hx hb dX5_reached_47 ?_
        refine lv_istore (lv' := [(4, .int (z22_4 ||| ((1 : Int32) <<< (z22_5 &&& 31)))), (5, .int z22_5), (0, .ref (a 3)), (1, .int x1), (2, .int x2), (3, .int x3)]) hx hb dX5_reached_48 hl (by decide) rfl (fun ls hl => ?_)
        refine lv_iinc (v := z22_5 + 1) (lv' := [(5, .int (z22_5 + 1)), (4, .int (z22_4 ||| ((1 : Int32) <<< (z22_5 &&& 31)))), (0, .ref (a 3)), (1, .int x1), (2, .int x2), (3, .int x3)]) hx hb dX5_reached_50 hl (k := 1) rfl (by rfl) (by decide) rfl (fun ls hl => ?_)
        refine lv_goto (tgt := 22) hx hb dX5_reached_53 (by decide) ?_
        exact ih_22 _ (hd_22 ▸ mu_up 16 (rn_ltu (u' := 15) (Int32.not_le.mp c_17) hz22_5 (rg_c (v := 16) (lo := 16) (hi := 16) (by decide)) (by decide)) (by decide)) K22 (z22_5 + 1) (z22_4 ||| ((1 : Int32) <<< (z22_5 &&& 31))) _ _ ls rfl (rg_w (rg_add (lo := 1) (hi := 16) (rn_ltu (u' := 15) (Int32.not_le.mp c_17) hz22_5 (rg_c (v := 16) (lo := 16) (hi := 16) (by decide)) (by decide)) (rg_c (v := 1) (lo := 1) (hi := 1) (by decide)) (by decide)) (by decide)) (fun A hA hok hl => by have hs2 : svX C_2 A x1 x2 := hq_3 A hA hl; have hA2 := (absX_eq hA (fr_all f_4 10 15 (by decide))); have hA7 := (absX_eq (absX_eq hA (fr_all f_4 10 15 (by decide))) (fr_all f_9 10 15 (by decide))); have hs7 : svX C_7 A x1 x2 := svX_eq hs2 (f_9.1 9 rfl (by decide)) (f_9.1 24 rfl (by decide)) (f_9.1 25 rfl (by decide)); have G := gx_c hA7 hok hx1 hl ⟨by decide, by decide⟩ hs7 (hq_8 A x1 x2 hA2 hs2); have hF := ec_fin hok x2 hx1 hl (n := 1) ⟨by decide, by decide⟩ (p16 hx3); obtain ⟨hnn, D⟩ := hq_13 _ _ _ _ _ G; rw [rcA_y (rg_w (lo := 0) (hi := 15) (rn_ltu (u' := 15) (Int32.not_le.mp c_17) hz22_5 (rg_c (v := 16) (lo := 16) (hi := 16) (by decide)) (by decide)) (by decide)) (Classical.byContradiction (fun q => c_19 ((fX_i D hF (p16 (rg_w (lo := 0) (hi := 15) (rn_ltu (u' := 15) (Int32.not_le.mp c_17) hz22_5 (rg_c (v := 16) (lo := 16) (hi := 16) (by decide)) (by decide)) (by decide)))).mpr q))), ← hx_22 A hA hok hl]) hT hF hLF_22 hP hD hS (lv_sub hl [0, 1, 2, 3, 4, 5] rfl)
  exact L_22 _ C_12 0 0 _ _ ls rfl (rg_w (rg_c (v := 0) (lo := 0) (hi := 0) (by decide)) (by decide)) (fun A hA hok hl => rfl) hT hF fr_rf hP hD hS (lv_sub hl [0, 1, 2, 3, 4, 5] rfl)

set_option maxHeartbeats 4000000 in
set_option maxRecDepth 100000 in
theorem e_X6_reach (l : Launch) (D : va_G) (E : Nat → ClassId) (G : Nat → Nat) (sz : Nat) (a : Nat → Nat) (C : Nat → va_E) (hT : TyX a E C) (x1 : Int32) (x2 : Int32) (x3 : Int32) : Met l yX6_reach (oh_w yX6_reach cX6_reach 4 (some .int)) ({ frames := 5, cells := 0, slots := 0, locals := 125 }) (oh_Pm D E G [.ref (a 0), .int x1, .int x2, .int x3] (oh_W 35 a C) sz) (va_Qi (fun r (u : Nat → va_E) => TyX a E u ∧ fr [(7, 8), (9, 10), (24, 28)] [] C u ∧ (∀ A : LA, absX 10 C A → okA A → r = spReach A x1 x2 x3)) (oh_B D (va_A (oh_W 35 a C) sz) (fun u => oh_W 35 a u)) (va_A (oh_W 35 a C) sz)) 0 0 (va_A (oh_W 35 a C) sz) := by
  refine Met.ofW (cc := cX6_reach) (maxL := 4) (ret := (some .int)) (by decide) rfl ?_
  intro p e s m args below meth c s₁ B hml hv
  obtain ⟨rfl, hsz, hP, hK, hD0, hG⟩ := hv
  have hx := B.exec
  have hb := B.bytes
  have hr := B.returns
  have hts := atoms_spec (ws := (oh_w yX6_reach cX6_reach 4 (some .int))) B.pre
  have htg : ∀ w ∈ oh_t, w.before _ s = true := fun w h => hts w (List.mem_cons_of_mem _ h)
  have hown : s.vm.findClass RX6 = some m.cls := findClass_of_methodNamed B.named
  have hlocks := B.notSynchronized
  have hT0 := hT
  subst hsz
  have hD := hD0.self (sz := s.heap.size)
  generalize hAe : va_A (oh_W 35 a C) s.heap.size = A at hD hG ⊢
  have hA : ∀ q : Nat, s.heap.size ≤ q → A q := fun q h => by rw [← hAe]; exact Or.inr h
  have hS : va_S A s.heap s.heap [] := va_S.rf
  have hF : fr [(7, 8), (9, 10), (24, 28)] [] C C := fr_rf
  have hl := lv_entry ([.ref (a 0), .int x1, .int x2, .int x3]) (n := 4) (Nat.le_of_ble_eq_true rfl)
  rw [lg_entry_eq]
  generalize (lg_sl ([.ref (a 0), .int x1, .int x2, .int x3]) ++ List.replicate (4 - (lg_sl ([.ref (a 0), .int x1, .int x2, .int x3])).length) Slot.unset).toArray = ls at hl ⊢
  have hl : lv_has ls 4 [(0, .ref (a 0)), (1, .int x1), (2, .int x2), (3, .int x3)] := hl
  refine oh_genQ (fun Q hQ => ?_)
  refine lv_aload_n hx hb dX6_reach_0 rfl (lv_at hl 0 rfl) ?_
  refine lv_iload_n hx hb dX6_reach_1 rfl (lv_at hl 1 rfl) ?_
  refine lv_iload_n hx hb dX6_reach_2 rfl (lv_at hl 2 rfl) ?_
  refine tq_V (As := [.int x1, .int x2]) (rest := []) (ws := (oh_W 35 a C)) ⟨hx, hb, hml, hown, htg⟩ (e_X6_isPack l D E G a C hT x1 x2) (cwV 2 htg (oh_gV q_695 q_697 q_16 q_66 q_698) rfl rfl rfl pdVX6_isPack ⟨Nat.le_of_ble_eq_true rfl, Nat.le_of_ble_eq_true rfl⟩) hK hP hG hS (va_recv hK hP (ci := 6) (q0 := 0) rfl (oh_wg (by decide) (sX_0 hT))) rfl hl.1 rfl (Nat.le_of_ble_eq_true rfl) dX6_reach_3 ⟨Nat.le_of_ble_eq_true rfl, Nat.le_of_ble_eq_true rfl⟩ (fun r_1 hq_2 => ?_)
  refine lv_if_eq (tgt := 16) hx hb dX6_reach_6 (by decide) (fun (c_3 : r_1 = 0) => ?_) (fun (c_3 : ¬ (r_1 = 0)) => ?_)
  · have u_4 := hq_2.2.2 c_3
    refine lv_aload_n hx hb dX6_reach_16 rfl (lv_at hl 0 rfl) ?_
    refine lv_bipush (v := (-2)) hx hb dX6_reach_17 (by decide) ?_
    refine tm_V (As := [.int (-2)]) (rest := []) ⟨hx, hb, hml, hown, htg⟩ (c_X6_refuse l D E G _ a C hT ((-2) : Int32)) (cwV 1 htg (oh_gV q_296 q_298 q_0 q_66 q_299) rfl rfl rfl pdVX6_refuse ⟨Nat.le_of_ble_eq_true rfl, Nat.le_of_ble_eq_true rfl⟩) hK hP hD hG hS hA (va_recv hK hP (ci := 6) (q0 := 0) rfl (oh_wg (by decide) (sX_0 hT))) rfl hl.1 rfl (Nat.le_of_ble_eq_true rfl) dX6_reach_19 ⟨Nat.le_of_ble_eq_true rfl, Nat.le_of_ble_eq_true rfl⟩ (fun r_5 C_6 H locs hq_7 hP hD hS => ?_)
    obtain ⟨hT, f_8, hq_7⟩ := hq_7
    have hF := fr_tr hF f_8 (by decide) (by decide)
    refine W.widen (k := 0) (n := 0) (Nat.le_refl _) (Nat.le_refl _) ?_
    have t_9 := hT
    rw [hQ]
    exact W.iret (v := r_5) hx hb hr (fun t ht hW => ⟨⟨r_5, C_6, rfl, ⟨hT, hF, (fun A hA hok => Eq.trans hq_7 (pif_neg (fun h8 => (show ¬ okPk (A 5 0 2) (A 5 0 3) x1 x2 by rw [← (show ga (C 10) ((2 : Int32)).toNatClampNeg = A 5 0 2 from hA.1 2 (by decide)), ← (show ga (C 10) ((3 : Int32)).toNatClampNeg = A 5 0 3 from hA.1 3 (by decide))]; exact u_4) h8.1)).symm)⟩, ⟨by rw [ht]; exact hP, hD⟩⟩, hS.F ht⟩) hS.2.2 dX6_reach_22
  · have u_10 := hq_2.2.1 c_3
    refine lv_iload_n hx hb dX6_reach_9 rfl (lv_at hl 3 rfl) ?_
    refine tq_S (As := [.int x3]) (rest := []) (ws := []) ⟨hx, hb, hml, hown, htg⟩ (e_X6_isPlace l D E G x3) (va_cwS 1 htg (oh_gS q_413 q_414 q_66 q_415) rfl rfl rfl pdX6_isPlace ⟨Nat.le_of_ble_eq_true rfl, Nat.le_of_ble_eq_true rfl⟩) hK va_nil hG hS rfl hl.1 rfl (Nat.le_of_ble_eq_true rfl) dX6_reach_10 ⟨Nat.le_of_ble_eq_true rfl, Nat.le_of_ble_eq_true rfl⟩ (fun r_11 hq_12 => ?_)
    refine lv_if_ne (tgt := 23) hx hb dX6_reach_13 (by decide) (fun (c_13 : ¬ (r_11 = 0)) => ?_) (fun (c_13 : r_11 = 0) => ?_)
    · have u_14 := hq_12.2.1 c_13
      refine lv_aload_n hx hb dX6_reach_23 rfl (lv_at hl 0 rfl) ?_
      refine va_get (D := D) (ci := 6) (v := .ref (a 3)) (C := RX6) (T := TX6) (N := 9) hx hb htg ig_6 hown hK hP 0 (oh_wg (by decide) (sX_0 hT)) rfl 3 (by decide) (htg _ q_261) (fun _ h9 => h9) rfl dX6_reach_24 ?_
      refine lv_iload_n hx hb dX6_reach_27 rfl (lv_at hl 1 rfl) ?_
      refine lv_iload_n hx hb dX6_reach_28 rfl (lv_at hl 2 rfl) ?_
      refine lv_iload_n hx hb dX6_reach_29 rfl (lv_at hl 3 rfl) ?_
      refine tm_V (As := [.int x1, .int x2, .int x3]) (rest := []) ⟨hx, hb, hml, hown, htg⟩ (e_X5_reached l D E G _ a C hT x1 x2 x3 (rg_w u_10.1 (by decide)) (rg_w u_14 (by decide))) (cwV 3 htg (oh_gV q_864 q_865 q_866 q_68 q_867) rfl rfl rfl pdVX5_reached ⟨Nat.le_of_ble_eq_true rfl, Nat.le_of_ble_eq_true rfl⟩) hK hP hD hG hS hA (va_recv hK hP (ci := 5) (q0 := 3) rfl (oh_wg (by decide) (sX_3 hT))) rfl hl.1 rfl (Nat.le_of_ble_eq_true rfl) dX6_reach_30 ⟨Nat.le_of_ble_eq_true rfl, Nat.le_of_ble_eq_true rfl⟩ (fun r_15 C_16 H locs hq_17 hP hD hS => ?_)
      obtain ⟨hT, f_18, hq_17⟩ := hq_17
      have hF := fr_tr hF f_18 (by decide) (by decide)
      refine W.widen (k := 0) (n := 0) (Nat.le_refl _) (Nat.le_refl _) ?_
      have t_19 := hT
      rw [hQ]
      exact W.iret (v := r_15) hx hb hr (fun t ht hW => ⟨⟨r_15, C_16, rfl, ⟨hT, hF, (fun A hA hok => by have hp := (show okPk (A 5 0 2) (A 5 0 3) x1 x2 by rw [← (show ga (C 10) ((2 : Int32)).toNatClampNeg = A 5 0 2 from hA.1 2 (by decide)), ← (show ga (C 10) ((3 : Int32)).toNatClampNeg = A 5 0 3 from hA.1 3 (by decide))]; exact u_10.2); exact Eq.trans (hq_17 A hA hok hp.1.2) (pif_pos ⟨hp, (oh_rgI (p := 0) (q := 15) (rg_w (lo := 0) (hi := 15) u_14 (by decide)))⟩).symm)⟩, ⟨by rw [ht]; exact hP, hD⟩⟩, hS.F ht⟩) hS.2.2 dX6_reach_33
    · have u_20 := hq_12.2.2 c_13
      refine lv_aload_n hx hb dX6_reach_16 rfl (lv_at hl 0 rfl) ?_
      refine lv_bipush (v := (-2)) hx hb dX6_reach_17 (by decide) ?_
      refine tm_V (As := [.int (-2)]) (rest := []) ⟨hx, hb, hml, hown, htg⟩ (c_X6_refuse l D E G _ a C hT ((-2) : Int32)) (cwV 1 htg (oh_gV q_296 q_298 q_0 q_66 q_299) rfl rfl rfl pdVX6_refuse ⟨Nat.le_of_ble_eq_true rfl, Nat.le_of_ble_eq_true rfl⟩) hK hP hD hG hS hA (va_recv hK hP (ci := 6) (q0 := 0) rfl (oh_wg (by decide) (sX_0 hT))) rfl hl.1 rfl (Nat.le_of_ble_eq_true rfl) dX6_reach_19 ⟨Nat.le_of_ble_eq_true rfl, Nat.le_of_ble_eq_true rfl⟩ (fun r_21 C_22 H locs hq_23 hP hD hS => ?_)
      obtain ⟨hT, f_24, hq_23⟩ := hq_23
      have hF := fr_tr hF f_24 (by decide) (by decide)
      refine W.widen (k := 0) (n := 0) (Nat.le_refl _) (Nat.le_refl _) ?_
      have t_25 := hT
      rw [hQ]
      exact W.iret (v := r_21) hx hb hr (fun t ht hW => ⟨⟨r_21, C_22, rfl, ⟨hT, hF, (fun A hA hok => Eq.trans hq_23 (pif_neg (fun h8 => u_20 h8.2)).symm)⟩, ⟨by rw [ht]; exact hP, hD⟩⟩, hS.F ht⟩) hS.2.2 dX6_reach_22

set_option maxHeartbeats 4000000 in
set_option maxRecDepth 100000 in
theorem e_X7_reach (l : Launch) (D : va_G) (E : Nat → ClassId) (G : Nat → Nat) (sz : Nat) (a : Nat → Nat) (C : Nat → va_E) (n : Nat) (hn : 74 ≤ n) (hT : TyM a E C) (x1 : Int32) (x2 : Int32) (x3 : Int32) (hR : RelM C) : Met l yX7_reach (oh_w yX7_reach cX7_reach 6 (some .int)) ({ frames := 6, cells := 0, slots := 0, locals := 152 }) (oh_Pm D E G [.ref (a 0), .int x1, .int x2, .int x3] (oh_W n a C) sz) (va_Qi (fun r (u : Nat → va_E) => TyM a E u ∧ fr [(8, 9), (15, 16)] [] C u ∧ (RelM u) ∧ (∀ A : LA, absM C A → okA A → r = spReach A x1 x2 x3)) (oh_B D (va_A (oh_W n a C) sz) (fun u => oh_W n a u)) (va_A (oh_W n a C) sz)) 0 0 (va_A (oh_W n a C) sz) := by
  refine Met.ofW (cc := cX7_reach) (maxL := 6) (ret := (some .int)) (by decide) rfl ?_
  intro p e s m args below meth c s₁ B hml hv
  obtain ⟨rfl, hsz, hP, hK, hD0, hG⟩ := hv
  have hx := B.exec
  have hb := B.bytes
  have hr := B.returns
  have hts := atoms_spec (ws := (oh_w yX7_reach cX7_reach 6 (some .int))) B.pre
  have htg : ∀ w ∈ oh_t, w.before _ s = true := fun w h => hts w (List.mem_cons_of_mem _ h)
  have hown : s.vm.findClass RX7 = some m.cls := findClass_of_methodNamed B.named
  have hlocks := B.notSynchronized
  have hT0 := hT
  subst hsz
  have hD := hD0.self (sz := s.heap.size)
  generalize hAe : va_A (oh_W n a C) s.heap.size = A at hD hG ⊢
  have hA : ∀ q : Nat, s.heap.size ≤ q → A q := fun q h => by rw [← hAe]; exact Or.inr h
  have hS : va_S A s.heap s.heap [] := va_S.rf
  have hF : fr [(8, 9), (15, 16)] [] C C := fr_rf
  have hl := lv_entry ([.ref (a 0), .int x1, .int x2, .int x3]) (n := 6) (Nat.le_of_ble_eq_true rfl)
  rw [lg_entry_eq]
  generalize (lg_sl ([.ref (a 0), .int x1, .int x2, .int x3]) ++ List.replicate (6 - (lg_sl ([.ref (a 0), .int x1, .int x2, .int x3])).length) Slot.unset).toArray = ls at hl ⊢
  have hl : lv_has ls 6 [(0, .ref (a 0)), (1, .int x1), (2, .int x2), (3, .int x3)] := hl
  refine oh_genQ (fun Q hQ => ?_)
  refine lv_aload_n hx hb dX7_reach_0 rfl (lv_at hl 0 rfl) ?_
  refine lv_iload_n hx hb dX7_reach_1 rfl (lv_at hl 1 rfl) ?_
  refine lv_iload_n hx hb dX7_reach_2 rfl (lv_at hl 2 rfl) ?_
  refine tq_V (As := [.int x1, .int x2]) (rest := []) (ws := (oh_W n a C)) ⟨hx, hb, hml, hown, htg⟩ (e_X7_isPack l D E G a C n hn hT x1 x2 hR.1) (cwV 2 htg (oh_gV q_1290 q_1292 q_50 q_73 q_1293) rfl rfl rfl pdVX7_isPack ⟨Nat.le_of_ble_eq_true rfl, Nat.le_of_ble_eq_true rfl⟩) hK hP hG hS (va_recv hK hP (ci := 7) (q0 := 0) rfl (oh_wg (Nat.lt_of_lt_of_le (by decide) hn) (sM_0 hT))) rfl hl.1 rfl (Nat.le_of_ble_eq_true rfl) dX7_reach_3 ⟨Nat.le_of_ble_eq_true rfl, Nat.le_of_ble_eq_true rfl⟩ (fun r_1 hq_2 => ?_)
  refine lv_if_eq (tgt := 16) hx hb dX7_reach_6 (by decide) (fun (c_3 : r_1 = 0) => ?_) (fun (c_3 : ¬ (r_1 = 0)) => ?_)
  · have u_4 := hq_2.2.2 c_3
    refine lv_aload_n hx hb dX7_reach_16 rfl (lv_at hl 0 rfl) ?_
    refine lv_bipush (v := (-2)) hx hb dX7_reach_17 (by decide) ?_
    refine tm_V (As := [.int (-2)]) (rest := []) ⟨hx, hb, hml, hown, htg⟩ (c_X7_refuse l D E G _ a C n hn hT ((-2) : Int32) (rg_w (rg_c (v := (-2)) (lo := (-2)) (hi := (-2)) (by decide)) (by decide))) (cwV 1 htg (oh_gV q_1071 q_1073 q_29 q_73 q_1074) rfl rfl rfl pdVX7_refuse ⟨Nat.le_of_ble_eq_true rfl, Nat.le_of_ble_eq_true rfl⟩) hK hP hD hG hS hA (va_recv hK hP (ci := 7) (q0 := 0) rfl (oh_wg (Nat.lt_of_lt_of_le (by decide) hn) (sM_0 hT))) rfl hl.1 rfl (Nat.le_of_ble_eq_true rfl) dX7_reach_19 ⟨Nat.le_of_ble_eq_true rfl, Nat.le_of_ble_eq_true rfl⟩ (fun r_5 C_6 H locs hq_7 hP hD hS => ?_)
    obtain ⟨hT, f_8, hq_7⟩ := hq_7
    have hF := fr_tr hF f_8 (by decide) (by decide)
    refine W.widen (k := 0) (n := 0) (Nat.le_refl _) (Nat.le_refl _) ?_
    have t_9 := hT
    rw [hQ]
    exact W.iret (v := r_5) hx hb hr (fun t ht hW => ⟨⟨r_5, C_6, rfl, ⟨hT, hF, ⟨⟨hR.1.fr hF (by decide), hR.2.fr hF (by decide)⟩, (fun A hA hok => Eq.trans hq_7 (pif_neg (fun h8 => (show ¬ okPk (A 5 0 2) (A 5 0 3) x1 x2 by rw [← (show gi (C 0) 13 = A 5 0 2 from hA.1 2 (by decide)), ← (show gi (C 0) 15 = A 5 0 3 from hA.1 3 (by decide))]; exact u_4) h8.1)).symm)⟩⟩, ⟨by rw [ht]; exact hP, hD⟩⟩, hS.F ht⟩) hS.2.2 dX7_reach_22
  · have u_10 := hq_2.2.1 c_3
    refine lv_iload_n hx hb dX7_reach_9 rfl (lv_at hl 3 rfl) ?_
    refine tq_S (As := [.int x3]) (rest := []) (ws := []) ⟨hx, hb, hml, hown, htg⟩ (e_X7_isPlace l D E G x3) (va_cwS 1 htg (oh_gS q_1130 q_1131 q_73 q_1132) rfl rfl rfl pdX7_isPlace ⟨Nat.le_of_ble_eq_true rfl, Nat.le_of_ble_eq_true rfl⟩) hK va_nil hG hS rfl hl.1 rfl (Nat.le_of_ble_eq_true rfl) dX7_reach_10 ⟨Nat.le_of_ble_eq_true rfl, Nat.le_of_ble_eq_true rfl⟩ (fun r_11 hq_12 => ?_)
    refine lv_if_ne (tgt := 23) hx hb dX7_reach_13 (by decide) (fun (c_13 : ¬ (r_11 = 0)) => ?_) (fun (c_13 : r_11 = 0) => ?_)
    · have u_14 := hq_12.2.1 c_13
      refine lv_aload_n hx hb dX7_reach_23 rfl (lv_at hl 0 rfl) ?_
      refine lv_iload_n hx hb dX7_reach_24 rfl (lv_at hl 1 rfl) ?_
      refine lv_iload_n hx hb dX7_reach_25 rfl (lv_at hl 2 rfl) ?_
      refine lv_iload_n hx hb dX7_reach_26 rfl (lv_at hl 3 rfl) ?_
      refine lv_iconst (v := 1) hx hb dX7_reach_27 (by decide) ?_
      refine tm_Vv (As := [.int x1, .int x2, .int x3, .int 1]) (rest := []) ⟨hx, hb, hml, hown, htg⟩ (e_X7_findFar l D E G _ a C n hn hT x1 x2 x3 (1 : Int32) (rg_w u_10.1 (by decide)) (rg_w u_14 (by decide)) u_10.2.1) (cwV 4 htg (oh_gV q_1351 q_1353 q_60 q_73 q_1354) rfl rfl rfl pdVX7_findFar ⟨Nat.le_of_ble_eq_true rfl, Nat.le_of_ble_eq_true rfl⟩) hK hP hD hG hS hA (va_recv hK hP (ci := 7) (q0 := 0) rfl (oh_wg (Nat.lt_of_lt_of_le (by decide) hn) (sM_0 hT))) rfl hl.1 rfl (Nat.le_of_ble_eq_true rfl) dX7_reach_28 ⟨Nat.le_of_ble_eq_true rfl, Nat.le_of_ble_eq_true rfl⟩ (fun C_16 H locs hq_17 hP hD hS => ?_)
      obtain ⟨hT, f_18, hq_17⟩ := hq_17
      have hF := fr_tr hF f_18 (by decide) (by decide)
      refine W.widen (k := 0) (n := 0) (Nat.le_refl _) (Nat.le_refl _) ?_
      have t_19 := hT
      refine lv_iconst (v := 0) hx hb dX7_reach_31 (by decide) ?_
      refine lv_istore (lv' := [(4, .int 0), (0, .ref (a 0)), (1, .int x1), (2, .int x2), (3, .int x3)]) hx hb dX7_reach_32 hl (by decide) rfl (fun ls hl => ?_)
      refine lv_iconst (v := 0) hx hb dX7_reach_34 (by decide) ?_
      refine lv_istore (lv' := [(5, .int 0), (4, .int 0), (0, .ref (a 0)), (1, .int x1), (2, .int x2), (3, .int x3)]) hx hb dX7_reach_35 hl (by decide) rfl (fun ls hl => ?_)
      have L_37 : ∀ (d : Nat) (K37 : Nat → va_E) (z37_5 : Int32) (z37_4 : Int32) (H : Heap) (locs : List Loc) (ls : Array Slot), (16 - z37_5.toInt).toNat = d → rg z37_5 0 16 → (∀ A : LA, absM C A → okA A → z37_4 = rcA A x1 x2 x3 z37_5.toNatClampNeg) → TyM a E K37 → fr [(8, 9), (15, 16)] [] C K37 → fr [] [] C_16 K37 → va_P D vwCl (oh_W n a K37) H → va_D A (oh_W n a K37) → va_S A s.heap H locs → lv_has ls 6 [(5, .int z37_5), (4, .int z37_4), (0, .ref (a 0)), (1, .int x1), (2, .int x2), (3, .int x3)] → W p l e ({ frames := 6, cells := 0, slots := 0, locals := 152 }) s m (([.ref (a 0), .int x1, .int x2, .int x3] : List Value).toArray) below meth c H locs 0 0 Q (F0 m 37 ls []) := by
        intro d
        induction d using Nat.strongRecOn with
        | ind d ih_37 =>
        intro K37 z37_5 z37_4 H locs ls hd_37 hz37_5 hx_37 hT hF hLF_37 hP hD hS hl
        have t_20 := hT
        refine lv_iload hx hb dX7_reach_37 (lv_at hl 0 rfl) ?_
        refine lv_bipush (v := 16) hx hb dX7_reach_39 (by decide) ?_
        refine lv_icmp_ge (tgt := 77) hx hb dX7_reach_41 (by decide) (fun (c_21 : (16 : Int32) ≤ z37_5) => ?_) (fun (c_21 : ¬ ((16 : Int32) ≤ z37_5)) => ?_)
        · refine lv_iload hx hb dX7_reach_77 (lv_at hl 1 rfl) ?_
          rw [hQ]
          exact W.iret (v := z37_4) hx hb hr (fun t ht hW => ⟨⟨z37_4, K37, rfl, ⟨hT, hF, ⟨⟨hR.1.fr hF (by decide), hR.2.fr hF (by decide)⟩, (fun A hA hok => by have hp := (show okPk (A 5 0 2) (A 5 0 3) x1 x2 by rw [← (show gi (C 0) 13 = A 5 0 2 from hA.1 2 (by decide)), ← (show gi (C 0) 15 = A 5 0 3 from hA.1 3 (by decide))]; exact u_10.2.2.2); have h7 := hx_37 A hA hok; rw [oh_zeq (k := 16) hz37_5 c_21 (by decide)] at h7; exact Eq.trans h7 (pif_pos ⟨hp, (oh_rgI (p := 0) (q := 15) (rg_w (lo := 0) (hi := 15) u_14 (by decide)))⟩).symm)⟩⟩, ⟨by rw [ht]; exact hP, hD⟩⟩, hS.F ht⟩) hS.2.2 dX7_reach_79
        · refine lv_iload hx hb dX7_reach_44 (lv_at hl 1 rfl) ?_
          refine lv_aload_n hx hb dX7_reach_46 rfl (lv_at hl 2 rfl) ?_
          refine va_get (D := D) (ci := 7) (v := .ref (a 15)) (C := RX7) (T := TX7) (N := 29) hx hb htg ig_7 hown hK hP 0 (oh_wg (Nat.lt_of_lt_of_le (by decide) hn) (sM_0 hT)) rfl 27 (by decide) (htg _ q_1000) (fun _ h9 => h9) rfl dX7_reach_47 ?_
          refine lv_iload hx hb dX7_reach_50 (lv_at hl 0 rfl) ?_
          have n_22 : vp_in z37_5 16 := (rg_in (rn_ltu (u' := 15) (Int32.not_le.mp c_21) hz37_5 (rg_c (v := 16) (lo := 16) (hi := 16) (by decide)) (by decide)) (by decide))
          refine th_lald hx hb hK hP 15 (Nat.lt_of_lt_of_le (by decide) hn) (Eq.trans (hLF_37.1 15 rfl (by decide)) (sM_15 t_19)) n_22 dX7_reach_52 ?_
          refine lv_ldc2 (v := 1000000000000) hx hb hown (htg _ q_1355) dX7_reach_53 ?_
          refine W.lcmp hx hb dX7_reach_56 ?_
          refine lv_if_ge (tgt := 67) hx hb dX7_reach_57 (by decide) (fun (c_23 : (0 : Int32) ≤ (lg_cmp (gb (C_16 15) (z37_5).toNatClampNeg) 1000000000000)) => ?_) (fun (c_23 : ¬ ((0 : Int32) ≤ (lg_cmp (gb (C_16 15) (z37_5).toNatClampNeg) 1000000000000))) => ?_)
          · refine lv_iconst (v := 0) hx hb dX7_reach_67 (by decide) ?_
            refine lv_ior hx hb dX7_reach_68 ?_
            refine lv_istore (lv' := [(4, .int (z37_4 ||| 0)), (5, .int z37_5), (0, .ref (a 0)), (1, .int x1), (2, .int x2), (3, .int x3)]) hx hb dX7_reach_69 hl (by decide) rfl (fun ls hl => ?_)
            refine lv_iinc (v := z37_5 + 1) (lv' := [(5, .int (z37_5 + 1)), (4, .int (z37_4 ||| 0)), (0, .ref (a 0)), (1, .int x1), (2, .int x2), (3, .int x3)]) hx hb dX7_reach_71 hl (k := 1) rfl (by rfl) (by decide) rfl (fun ls hl => ?_)
            refine lv_goto (tgt := 37) hx hb dX7_reach_74 (by decide) ?_
            exact ih_37 _ (hd_37 ▸ mu_up 16 (rn_ltu (u' := 15) (Int32.not_le.mp c_21) hz37_5 (rg_c (v := 16) (lo := 16) (hi := 16) (by decide)) (by decide)) (by decide)) K37 (z37_5 + 1) (z37_4 ||| 0) _ _ ls rfl (rg_w (rg_add (lo := 1) (hi := 16) (rn_ltu (u' := 15) (Int32.not_le.mp c_21) hz37_5 (rg_c (v := 16) (lo := 16) (hi := 16) (by decide)) (by decide)) (rg_c (v := 1) (lo := 1) (hi := 1) (by decide)) (by decide)) (by decide)) (fun A hA hok => by have hp := (show okPk (A 5 0 2) (A 5 0 3) x1 x2 by rw [← (show gi (C 0) 13 = A 5 0 2 from hA.1 2 (by decide)), ← (show gi (C 0) 15 = A 5 0 3 from hA.1 3 (by decide))]; exact u_10.2.2.2); obtain ⟨hnn, D⟩ := hq_17 A hA hok hp.1.2 ⟨by decide, by decide⟩; rw [EnA_1 (by decide)] at D; have hF := ec_fin hok x2 (rg_w (lo := 0) (hi := 4) u_10.1 (by decide)) hp.1.2 (n := 1) ⟨by decide, by decide⟩ (p16 (rg_w (lo := 0) (hi := 15) u_14 (by decide))); rw [rcA_n (rg_w (lo := 0) (hi := 15) (rn_ltu (u' := 15) (Int32.not_le.mp c_21) hz37_5 (rg_c (v := 16) (lo := 16) (hi := 16) (by decide)) (by decide)) (by decide)) ((mL_i hnn D hF (p16 (rg_w (lo := 0) (hi := 15) (rn_ltu (u' := 15) (Int32.not_le.mp c_21) hz37_5 (rg_c (v := 16) (lo := 16) (hi := 16) (by decide)) (by decide)) (by decide)))).mp (oh_lc_nlt (Int32.not_lt.mpr c_23))), ← hx_37 A hA hok]) hT hF hLF_37 hP hD hS (lv_sub hl [0, 1, 2, 3, 4, 5] rfl)
          · refine lv_iconst (v := 1) hx hb dX7_reach_60 (by decide) ?_
            refine lv_iload hx hb dX7_reach_61 (lv_at hl 0 rfl) ?_
            refine lv_ishl hx hb dX7_reach_63 ?_
            refine lv_goto (tgt := 68) hx hb dX7_reach_64 (by decide) ?_
            refine lv_ior hx hb dX7_reach_68 ?_
            refine lv_istore (lv' := [(4, .int (z37_4 ||| ((1 : Int32) <<< (z37_5 &&& 31)))), (5, .int z37_5), (0, .ref (a 0)), (1, .int x1), (2, .int x2), (3, .int x3)]) hx hb dX7_reach_69 hl (by decide) rfl (fun ls hl => ?_)
            refine lv_iinc (v := z37_5 + 1) (lv' := [(5, .int (z37_5 + 1)), (4, .int (z37_4 ||| ((1 : Int32) <<< (z37_5 &&& 31)))), (0, .ref (a 0)), (1, .int x1), (2, .int x2), (3, .int x3)]) hx hb dX7_reach_71 hl (k := 1) rfl (by rfl) (by decide) rfl (fun ls hl => ?_)
            refine lv_goto (tgt := 37) hx hb dX7_reach_74 (by decide) ?_
            exact ih_37 _ (hd_37 ▸ mu_up 16 (rn_ltu (u' := 15) (Int32.not_le.mp c_21) hz37_5 (rg_c (v := 16) (lo := 16) (hi := 16) (by decide)) (by decide)) (by decide)) K37 (z37_5 + 1) (z37_4 ||| ((1 : Int32) <<< (z37_5 &&& 31))) _ _ ls rfl (rg_w (rg_add (lo := 1) (hi := 16) (rn_ltu (u' := 15) (Int32.not_le.mp c_21) hz37_5 (rg_c (v := 16) (lo := 16) (hi := 16) (by decide)) (by decide)) (rg_c (v := 1) (lo := 1) (hi := 1) (by decide)) (by decide)) (by decide)) (fun A hA hok => by have hp := (show okPk (A 5 0 2) (A 5 0 3) x1 x2 by rw [← (show gi (C 0) 13 = A 5 0 2 from hA.1 2 (by decide)), ← (show gi (C 0) 15 = A 5 0 3 from hA.1 3 (by decide))]; exact u_10.2.2.2); obtain ⟨hnn, D⟩ := hq_17 A hA hok hp.1.2 ⟨by decide, by decide⟩; rw [EnA_1 (by decide)] at D; have hF := ec_fin hok x2 (rg_w (lo := 0) (hi := 4) u_10.1 (by decide)) hp.1.2 (n := 1) ⟨by decide, by decide⟩ (p16 (rg_w (lo := 0) (hi := 15) u_14 (by decide))); rw [rcA_y (rg_w (lo := 0) (hi := 15) (rn_ltu (u' := 15) (Int32.not_le.mp c_21) hz37_5 (rg_c (v := 16) (lo := 16) (hi := 16) (by decide)) (by decide)) (by decide)) (Classical.byContradiction (fun q => absurd ((mL_i hnn D hF (p16 (rg_w (lo := 0) (hi := 15) (rn_ltu (u' := 15) (Int32.not_le.mp c_21) hz37_5 (rg_c (v := 16) (lo := 16) (hi := 16) (by decide)) (by decide)) (by decide)))).mpr q) (Int64.not_le.mpr (oh_lc_lt (Int32.not_le.mp c_23))))), ← hx_37 A hA hok]) hT hF hLF_37 hP hD hS (lv_sub hl [0, 1, 2, 3, 4, 5] rfl)
      exact L_37 _ C_16 0 0 _ _ ls rfl (rg_w (rg_c (v := 0) (lo := 0) (hi := 0) (by decide)) (by decide)) (fun A hA hok => rfl) hT hF fr_rf hP hD hS (lv_sub hl [0, 1, 2, 3, 4, 5] rfl)
    · have u_24 := hq_12.2.2 c_13
      refine lv_aload_n hx hb dX7_reach_16 rfl (lv_at hl 0 rfl) ?_
      refine lv_bipush (v := (-2)) hx hb dX7_reach_17 (by decide) ?_
      refine tm_V (As := [.int (-2)]) (rest := []) ⟨hx, hb, hml, hown, htg⟩ (c_X7_refuse l D E G _ a C n hn hT ((-2) : Int32) (rg_w (rg_c (v := (-2)) (lo := (-2)) (hi := (-2)) (by decide)) (by decide))) (cwV 1 htg (oh_gV q_1071 q_1073 q_29 q_73 q_1074) rfl rfl rfl pdVX7_refuse ⟨Nat.le_of_ble_eq_true rfl, Nat.le_of_ble_eq_true rfl⟩) hK hP hD hG hS hA (va_recv hK hP (ci := 7) (q0 := 0) rfl (oh_wg (Nat.lt_of_lt_of_le (by decide) hn) (sM_0 hT))) rfl hl.1 rfl (Nat.le_of_ble_eq_true rfl) dX7_reach_19 ⟨Nat.le_of_ble_eq_true rfl, Nat.le_of_ble_eq_true rfl⟩ (fun r_25 C_26 H locs hq_27 hP hD hS => ?_)
      obtain ⟨hT, f_28, hq_27⟩ := hq_27
      have hF := fr_tr hF f_28 (by decide) (by decide)
      refine W.widen (k := 0) (n := 0) (Nat.le_refl _) (Nat.le_refl _) ?_
      have t_29 := hT
      rw [hQ]
      exact W.iret (v := r_25) hx hb hr (fun t ht hW => ⟨⟨r_25, C_26, rfl, ⟨hT, hF, ⟨⟨hR.1.fr hF (by decide), hR.2.fr hF (by decide)⟩, (fun A hA hok => Eq.trans hq_27 (pif_neg (fun h8 => u_24 h8.2)).symm)⟩⟩, ⟨by rw [ht]; exact hP, hD⟩⟩, hS.F ht⟩) hS.2.2 dX7_reach_22
theorem mc_w {A : LA} (h : okA A) {w s f t r : Int32} (h0 : rg w 0 4) (hl : w < A 5 0 2) (hf : rg f 0 15) (ht : rg t 0 15) (e : r = mcA A w s f t 1) : r = -1 ↔ ¬ hasW (EcA A w s 1) f.toNatClampNeg t.toNatClampNeg := by
  constructor
  · intro z q
    have v := lc_v h h0 hl (n := 1) ⟨by decide, by decide⟩ hf ht q
    rw [show Int32.ofNat (lsN (EcA A w s 1) f.toNatClampNeg t.toNatClampNeg) + 1 * sumA A s 1 (A 5 0 3).toNatClampNeg = mcA A w s f t 1 from (pif_pos q).symm, ← e, z] at v
    exact absurd v.1 (by decide)
  · intro q
    rw [e]
    exact pif_neg q
/-! FULL: with less weight, or with frost, no road stops going -/
theorem wk_mono {E F : Ed} {s : Nat} (h : ∀ u v e, E u v e → ∃ e', F u v e') : ∀ k p d, Wk E s k p d → ∃ d', Wk F s k p d' := by
  intro k
  induction k with
  | zero =>
    intro p d w
    exact ⟨d, w⟩
  | succ k ih =>
    intro p d w
    obtain ⟨q, c, e, w1, w2, _⟩ := w
    obtain ⟨c', w3⟩ := ih q c w1
    obtain ⟨e', w4⟩ := h q p e w2
    exact ⟨c' + e', q, c', e', w3, w4, rfl⟩
theorem hasW_mono {E F : Ed} {s p : Nat} (h : ∀ u v e, E u v e → ∃ e', F u v e') (w : hasW E s p) : hasW F s p := by
  obtain ⟨d, ⟨k, hk⟩, _⟩ := w
  obtain ⟨d', h2⟩ := wk_mono h k p d hk
  exact ls_ex d' ⟨k, h2⟩
theorem edR_mono {n : Nat} {a b : Nat → Nat} {g g' : Nat → Prop} {c c' : Nat → Nat} (h : ∀ r, r < n → g r → g' r) : ∀ u v e, EdR n a b g c u v e → ∃ e', EdR n a b g' c' u v e' := by
  intro u v e hE
  obtain ⟨r, hr, hg, hx, _⟩ := hE
  exact ⟨c' r, r, hr, h r hr hg, hx, rfl⟩
theorem set_o {A : LA} {k t : Nat} {v : Int32} (ht : t ≠ 4) : setA A k v t = A t := funext (fun i => funext (fun j => if_neg (fun q => ht q.1)))
theorem sumA_set {A : LA} {k : Nat} {v s : Int32} {col : Nat} : ∀ n, sumA (setA A k v) s col n = sumA A s col n := by
  intro n
  induction n with
  | zero => rfl
  | succ n ih =>
    show sumA (setA A k v) s col n + pif ((s >>> (Int32.ofNat n &&& 31)) &&& 1 = 0) 0 (setA A k v 3 n col) = sumA A s col n + pif ((s >>> (Int32.ofNat n &&& 31)) &&& 1 = 0) 0 (A 3 n col)
    rw [ih, setA_t (by decide)]
theorem n0_set {A : LA} {k : Nat} {v : Int32} : n0A (setA A k v) = n0A A := by
  unfold n0A
  rw [set_o (t := 5) (by decide)]
theorem n1_set {A : LA} {k : Nat} {v : Int32} : n1A (setA A k v) = n1A A := by
  unfold n1A
  rw [set_o (t := 5) (by decide)]
theorem aA_set {A : LA} {k : Nat} {v : Int32} : aA (setA A k v) = aA A := by
  funext r
  unfold aA
  rw [set_o (t := 0) (by decide)]
theorem bA_set {A : LA} {k : Nat} {v : Int32} : bA (setA A k v) = bA A := by
  funext r
  unfold bA
  rw [set_o (t := 0) (by decide)]
theorem ps_set {A : LA} {k : Nat} {v w : Int32} : psA (setA A k v) w = psA A w := by
  funext r
  unfold psA lenA
  rw [set_o (t := 0) (by decide), set_o (t := 2) (by decide)]
theorem rd_set {A : LA} {k : Nat} {v : Int32} : rdA (setA A k v) = rdA A := by
  funext r
  unfold rdA
  rw [set_o (t := 1) (by decide)]
theorem gs_set {A : LA} {k : Nat} {v w s : Int32} {r : Nat} : gsA (setA A k v) w s r ↔ gsU (psA A w) (rdA A) (ndA (setA A k v) w s) (n1A A) r := by
  unfold gsA
  rw [ps_set, rd_set, n1_set]
theorem ec_set {A : LA} {k : Nat} {v w s n : Int32} : EcA (setA A k v) w s n = EdR (n0A A) (aA A) (bA A) (gsA (setA A k v) w s) (cA (setA A k v) w s n) := by
  unfold EcA
  rw [n0_set, aA_set, bA_set]
/-- roads that go with the one go with the other: so do ways -/
theorem hw_set {A : LA} {k l : Nat} {v u w s n m : Int32} {f t : Nat} (h : ∀ b, b < n1A A → ¬ ndA (setA A k v) w s b = 2 → ¬ ndA (setA A l u) w s b = 2) (q : hasW (EcA (setA A k v) w s n) f t) : hasW (EcA (setA A l u) w s m) f t := by
  rw [ec_set] at q ⊢
  refine hasW_mono (edR_mono (fun r hr hg => ?_)) q
  have hg2 := gs_set.mp hg
  exact gs_set.mpr ⟨hg2.1, fun b hb e => h b hb (hg2.2 b hb e)⟩
noncomputable def ndG (bA bP bT pr kd ld sn : Int32) : Int32 := pif (bA < ld) 2 (pif (sn ≤ bP) 0 (pif (pr = 1 ∨ kd = 3) 2 (pif (sn ≤ bT) 1 2)))
theorem ndG_m {bA bA' bP bP' bT bT' pr kd ld ld' sn sn' : Int32} (h1 : bA ≤ bA') (h2 : bP ≤ bP') (h3 : bT ≤ bT') (h4 : ld' ≤ ld) (h5 : sn' ≤ sn) (h : ¬ ndG bA bP bT pr kd ld sn = 2) : ¬ ndG bA' bP' bT' pr kd ld' sn' = 2 := by
  unfold ndG at h ⊢
  by_cases a : bA < ld
  · exact absurd (pif_pos a) h
  · rw [pif_neg a] at h
    rw [pif_neg (Int32.not_lt.mpr (Int32.le_trans h4 (Int32.le_trans (Int32.not_lt.mp a) h1)))]
    by_cases b' : sn' ≤ bP'
    · rw [pif_pos b']
      decide
    · rw [pif_neg b']
      rw [pif_neg (fun b => b' (Int32.le_trans h5 (Int32.le_trans b h2)))] at h
      by_cases c : pr = 1 ∨ kd = 3
      · exact absurd (pif_pos c) h
      · rw [pif_neg c] at h ⊢
        by_cases e : sn ≤ bT
        · rw [pif_pos (Int32.le_trans h5 (Int32.le_trans e h3))]
          decide
        · exact absurd (pif_neg e) h
theorem rnd_i {m ax : Int32} (hm : rg m 0 999) (ha : rg ax 2 12) : (rndUp m ax).toInt = (m.toInt + ax.toInt - 1) / ax.toInt := by
  have hm1 := hm.1
  have hm2 := hm.2
  have ha1 := ha.1
  have ha2 := ha.2
  have e1 : (m + ax).toInt = m.toInt + ax.toInt := by
    rw [Int32.toInt_add]
    exact oh_bmod (by omega) (by omega)
  have e : (m + ax - 1).toInt = m.toInt + ax.toInt - 1 := by
    rw [Int32.toInt_sub, e1, show (1 : Int32).toInt = 1 from rfl]
    exact oh_bmod (by omega) (by omega)
  have hp : (0 : Int32) < ax := Int32.lt_iff_toInt_lt.mpr (by show (0 : Int) < _; omega)
  have a1 : 0 ≤ (m.toInt + ax.toInt - 1) / ax.toInt := Int.ediv_nonneg (by omega) (by omega)
  have a2 : (m.toInt + ax.toInt - 1) / ax.toInt ≤ m.toInt + ax.toInt - 1 := Int.ediv_le_self _ (by omega)
  unfold rndUp
  rw [if_pos hp, Int32.toInt_div, e, Int.tdiv_eq_ediv_of_nonneg (by omega)]
  exact oh_bmod (by omega) (by omega)
theorem wt_i {ta x su : Int32} (ht : rg ta 0 99) (hx : rg x 0 900) (hs : rg su 0 495) : rg (if ta + x - su < 0 then 0 else ta + x - su) 0 999 ∧ (if ta + x - su < 0 then 0 else ta + x - su).toInt = if ta.toInt + x.toInt - su.toInt < 0 then 0 else ta.toInt + x.toInt - su.toInt := by
  have h1 := ht.1
  have h2 := ht.2
  have h3 := hx.1
  have h4 := hx.2
  have h5 := hs.1
  have h6 := hs.2
  have e1 : (ta + x).toInt = ta.toInt + x.toInt := by
    rw [Int32.toInt_add]
    exact oh_bmod (by omega) (by omega)
  have e : (ta + x - su).toInt = ta.toInt + x.toInt - su.toInt := by
    rw [Int32.toInt_sub, e1]
    exact oh_bmod (by omega) (by omega)
  by_cases q : ta + x - su < 0
  · have q2 := Int32.lt_iff_toInt_lt.mp q
    rw [e, show (0 : Int32).toInt = 0 from rfl] at q2
    rw [if_pos q, if_pos q2]
    exact ⟨⟨by decide, by decide⟩, rfl⟩
  · have q2 := Int32.le_iff_toInt_le.mp (Int32.not_lt.mp q)
    rw [e, show (0 : Int32).toInt = 0 from rfl] at q2
    rw [if_neg q, if_neg (by omega)]
    exact ⟨⟨by omega, by omega⟩, e⟩
theorem aLoad_m {ax ta x y su : Int32} (ha : rg ax 2 12) (ht : rg ta 0 99) (hx : rg x 0 900) (hy : rg y 0 900) (hs : rg su 0 495) (c : x.toInt ≤ y.toInt) : (aLoad ax ta x su).toInt ≤ (aLoad ax ta y su).toInt := by
  have h1 := ha.1
  obtain ⟨a1, a2⟩ := wt_i ht hx hs
  obtain ⟨b1, b2⟩ := wt_i ht hy hs
  unfold aLoad
  rw [rnd_i a1 ha, rnd_i b1 ha, a2, b2]
  refine Int.ediv_le_ediv (by omega) ?_
  by_cases p : ta.toInt + x.toInt - su.toInt < 0
  · rw [if_pos p]
    by_cases q : ta.toInt + y.toInt - su.toInt < 0
    · rw [if_pos q]
      omega
    · rw [if_neg q]
      omega
  · rw [if_neg p, if_neg (by omega)]
    omega
theorem aLoad_r {ax ta x su : Int32} (ha : rg ax 2 12) (ht : rg ta 0 99) (hx : rg x 0 900) (hs : rg su 0 495) : rg (aLoad ax ta x su) 0 1010 := by
  obtain ⟨a1, a2⟩ := wt_i ht hx hs
  have h1 := ha.1
  have h2 := ha.2
  have h3 := a1.1
  have h4 := a1.2
  unfold aLoad rg
  rw [rnd_i a1 ha]
  have b1 := Int.ediv_nonneg (a := (if ta + x - su < 0 then 0 else ta + x - su).toInt + ax.toInt - 1) (b := ax.toInt) (by omega) (by omega)
  have b2 := Int.ediv_le_self (a := (if ta + x - su < 0 then 0 else ta + x - su).toInt + ax.toInt - 1) ax.toInt (by omega)
  omega
noncomputable def stdA (A : LA) (w : Int32) (b : Nat) : Int32 := if cutBy (A 1 b 2) (A 2 w.toNatClampNeg 1) + 1 < A 2 w.toNatClampNeg 0 then cutBy (A 1 b 2) (A 2 w.toNatClampNeg 1) + 1 else A 2 w.toNatClampNeg 0
theorem stdA_r {A : LA} (h : okA A) {w : Int32} (h0 : rg w 0 4) (hl : w < A 5 0 2) {b : Nat} (hb : b < n1A A) : rg (stdA A w b) 0 61 := by
  obtain ⟨ha, hs, _⟩ := h.wg h0 hl
  have hv := (h.2.2.2.1 b (h.n1 hb)).2.2.1
  have hc : rg (cutBy (A 1 b 2) (A 2 w.toNatClampNeg 1)) 0 60 := by
    unfold cutBy
    rw [if_pos (Int32.lt_iff_toInt_lt.mpr (by have := hs.1; show (0 : Int) < _; omega))]
    exact rg_div2 hv hs.1 (by decide)
  unfold stdA
  by_cases q : cutBy (A 1 b 2) (A 2 w.toNatClampNeg 1) + 1 < A 2 w.toNatClampNeg 0
  · rw [if_pos q]
    exact rg_add hc (rg_c (v := 1) (lo := 1) (hi := 1) (by decide)) (by decide)
  · rw [if_neg q]
    exact rg_w ha (by decide)
theorem mul_m {k x y : Int32} (hk : rg k 0 61) (hx : rg x 0 1010) (hy : rg y 0 1010) (c : x.toInt ≤ y.toInt) : (k * x).toInt ≤ (k * y).toInt := by
  have a1 : 0 ≤ k.toInt * x.toInt := Int.mul_nonneg hk.1 hx.1
  have a2 : k.toInt * x.toInt ≤ 61 * 1010 := Int.mul_le_mul hk.2 hx.2 hx.1 (by decide)
  have b1 : 0 ≤ k.toInt * y.toInt := Int.mul_nonneg hk.1 hy.1
  have b2 : k.toInt * y.toInt ≤ 61 * 1010 := Int.mul_le_mul hk.2 hy.2 hy.1 (by decide)
  rw [Int32.toInt_mul, Int32.toInt_mul, oh_bmod (by omega) (by omega), oh_bmod (by omega) (by omega)]
  exact Int.mul_le_mul_of_nonneg_left c hk.1
theorem nd_w {A : LA} {v w s : Int32} {b : Nat} : ndA (setA A 0 v) w s b = ndG (bAxF (A 1 b 1) (A 1 b 3) (A 1 b 8) (A 1 b 9) (A 4 0 2)) (bAlF (A 1 b 7 = 1) (A 1 b 1) (A 1 b 4) (A 1 b 5) (A 1 b 8) (A 1 b 9) (A 4 0 2)) (bAlF True (A 1 b 1) (A 1 b 4) (A 1 b 5) (A 1 b 8) (A 1 b 9) (A 4 0 2)) (A 1 b 7) (A 1 b 1) (aLoad (A 2 w.toNatClampNeg 0) (A 2 w.toNatClampNeg 2) v (sumA A s 0 (A 5 0 3).toNatClampNeg)) (stdA A w b * aLoad (A 2 w.toNatClampNeg 0) (A 2 w.toNatClampNeg 2) v (sumA A s 0 (A 5 0 3).toNatClampNeg)) := by
  unfold ndA snA aL
  rw [sumA_set, set_o (t := 1) (by decide), set_o (t := 2) (by decide), set_o (t := 5) (by decide), show setA A 0 v 4 0 0 = v from if_pos ⟨rfl, rfl, rfl⟩, show setA A 0 v 4 0 2 = A 4 0 2 from if_neg (by decide)]
  rfl
/-- a way for a weight is one for each lesser -/
theorem hw_w {A : LA} (h : okA A) {x y w s n m : Int32} {f t : Nat} (h0 : rg w 0 4) (hl : w < A 5 0 2) (hx : rg x 0 900) (hy : rg y 0 900) (c : x.toInt ≤ y.toInt) (q : hasW (EcA (setA A 0 y) w s n) f t) : hasW (EcA (setA A 0 x) w s m) f t := by
  obtain ⟨ha, _, ht⟩ := h.wg h0 hl
  have hs := sumA_r h s (col := 0) (by decide)
  have e := aLoad_m ha ht hx hy hs c
  refine hw_set (fun b hb => ?_) q
  rw [nd_w, nd_w]
  exact ndG_m (Int32.le_refl _) (Int32.le_refl _) (Int32.le_refl _) (Int32.le_iff_toInt_le.mpr e) (Int32.le_iff_toInt_le.mpr (mul_m (stdA_r h h0 hl hb) (aLoad_r ha ht hx hs) (aLoad_r ha ht hy hs) e))
theorem absX_sk (k0 : Nat) {C u : Nat → va_E} {A : LA} {v : Int32} (h : absX 10 C A) (hf : ∀ k, 10 ≤ k → k ≤ 14 → u k = C k) (e0 : ga (u 15) k0 = v) (e1 : ∀ j, j ≠ k0 → ga (u 15) j = ga (C 15) j) : absX 10 u (setA A k0 v) := by
  refine absX_set h (show ga (u 15) = upd (ga (C 15)) k0 v from funext (fun j => ?_)) hf
  by_cases q : j = k0
  · rw [q, pk_us]
    exact e0
  · rw [pk_un q]
    exact e1 j q
theorem absM_sk (k0 : Nat) {a : Nat → Nat} {E : Nat → ClassId} {C u : Nat → va_E} {A : LA} {v : Int32} {mc : List (Nat × Nat)} {mf : List Nat} (h : absM C A) (hT : TyM a E C) (hf : fr mc mf C u) (e0 : ga (u 13) k0 = v) (e1 : ∀ j, j ≠ k0 → ga (u 13) j = ga (C 13) j) (hd1 : (mc.all (fun p => Nat.ble p.2 24 || Nat.ble 74 p.1)) = true) (hd2 : ((List.range 4).all (fun t => !(mf.contains (9 + 2 * t)))) = true) : absM u (setA A k0 v) := by
  refine absM_set h (fun s hs => congrArg vi (hf.2 _ ?_)) (fun j hj => ?_) (fun s hs i hi => hf.1 _ ?_ ?_)
  · have h2 := List.all_eq_true.mp hd2 s (List.mem_range.mpr hs)
    simpa using h2
  · by_cases q : j = k0
    · rw [if_pos q, q]
      exact e0
    · rw [if_neg q]
      exact e1 j q
  · have h1 := (cntM hT s hs).2
    have hb : 24 ≤ blk s + i ∧ blk s + i < 74 := by
      rcases (show s = 0 ∨ s = 1 ∨ s = 2 ∨ s = 3 by omega) with rfl | rfl | rfl | rfl <;> simp only [blk, blkN] at * <;> omega
    cases e : inR mc (blk s + i) with
    | false => rfl
    | true =>
      unfold inR at e
      rw [List.any_eq_true] at e
      obtain ⟨p, hp, h1⟩ := e
      rw [Bool.and_eq_true, Nat.ble_eq, Nat.blt_eq] at h1
      have h2 := List.all_eq_true.mp hd1 p hp
      rw [Bool.or_eq_true, Nat.ble_eq, Nat.ble_eq] at h2
      omega
  · have := blk_lo hs
    omega
theorem set_52 {A : LA} {k : Nat} {v w : Int32} (h : w < A 5 0 2) : w < setA A k v 5 0 2 := by
  rw [setA_5]
  exact h
/-! FULL: the greatest weight for which there is a way -/
noncomputable def spOg (P : Int32 → Prop) : Int32 := Classical.epsilon P
theorem spOg_eq {P : Int32 → Prop} {r : Int32} (h : P r) (u : ∀ a b, P a → P b → a = b) : r = spOg P := u _ _ h (Classical.epsilon_spec ⟨r, h⟩)
def mwH (A : LA) (w f t : Int32) (v : Nat) : Prop := hasW (EcA (setA A 0 (Int32.ofNat v)) w 0 1) f.toNatClampNeg t.toNatClampNeg
theorem on9 {v : Nat} (h : v ≤ 900) : rg (Int32.ofNat v) 0 900 ∧ (Int32.ofNat v).toInt = (v : Int) := by
  have e : (Int32.ofNat v).toInt = (v : Int) := nI_toInt (by omega)
  exact ⟨⟨by rw [e]; omega, by rw [e]; omega⟩, e⟩
theorem mwH_m {A : LA} (h : okA A) {w f t : Int32} (h0 : rg w 0 4) (hl : w < A 5 0 2) {x y : Nat} (hy : y ≤ 900) (c : x ≤ y) (q : mwH A w f t y) : mwH A w f t x := by
  obtain ⟨y1, y2⟩ := on9 hy
  obtain ⟨x1, x2⟩ := on9 (v := x) (by omega)
  exact hw_w h h0 hl x1 y1 (by rw [x2, y2]; omega) q
theorem mwH_z {A : LA} {w f t z : Int32} {u : Int} (hz : rg z 0 u) : mwH A w f t z.toNatClampNeg ↔ hasW (EcA (setA A 0 z) w 0 1) f.toNatClampNeg t.toNatClampNeg := by
  unfold mwH
  rw [oh_ofc hz (by decide)]
/-- r: the greatest weight, or no for none -/
def mwR (P : Nat → Prop) (no r : Int32) : Prop := (r = no ∧ ∀ v, v ≤ 900 → ¬ P v) ∨ ∃ k, k ≤ 900 ∧ r = Int32.ofNat k ∧ P k ∧ ∀ v, k < v → v ≤ 900 → ¬ P v
theorem mwR_u {P : Nat → Prop} {no : Int32} (a b : Int32) (h : mwR P no a) (g : mwR P no b) : a = b := by
  rcases h with ⟨h1, h2⟩ | ⟨i, hi, h1, h2, h3⟩
  · rcases g with ⟨g1, g2⟩ | ⟨j, hj, g1, g2, g3⟩
    · rw [h1, g1]
    · exact absurd g2 (h2 j hj)
  · rcases g with ⟨g1, g2⟩ | ⟨j, hj, g1, g2, g3⟩
    · exact absurd h2 (g2 i hi)
    · have e : i = j := by
        by_cases c : i < j
        · exact absurd g2 (h3 j c hj)
        · by_cases d : j < i
          · exact absurd h2 (g3 i d hi)
          · omega
      rw [h1, g1, e]
theorem mwR_5 {P : Nat → Prop} {a r : Int32} (h : mwR P (-1) a) (e : a = -1) (er : r = -5) : mwR P (-5) r := by
  rcases h with ⟨_, h2⟩ | ⟨i, hi, h1, _, _⟩
  · exact Or.inl ⟨er, h2⟩
  · have h3 := congrArg Int32.toInt (Eq.trans h1.symm e)
    rw [(on9 hi).2, show (-1 : Int32).toInt = -1 from rfl] at h3
    omega
theorem mwR_6 {P : Nat → Prop} {a : Int32} (h : mwR P (-1) a) (e : ¬ a = -1) : mwR P (-5) a := by
  rcases h with ⟨h1, _⟩ | h
  · exact absurd h1 e
  · exact Or.inr h
noncomputable def spMost (A : LA) (w f t : Int32) : Int32 := pif ((0 ≤ w ∧ w < A 5 0 2) ∧ (0 ≤ f ∧ f ≤ 15) ∧ (0 ≤ t ∧ t ≤ 15)) (spOg (mwR (mwH A w f t) (-5))) (-2)
def pwB (b : Nat) : Prop := b = 0 ∨ b = 1 ∨ b = 2 ∨ b = 4 ∨ b = 8 ∨ b = 16 ∨ b = 32 ∨ b = 64 ∨ b = 128 ∨ b = 256 ∨ b = 512
def nxB (b : Nat) : Nat := if b = 0 then 1 else 2 * b
theorem pwB_s {b : Nat} (h : pwB b) (hb : ¬ b = 0) : pwB (b / 2) ∧ nxB (b / 2) = b ∧ nxB b = b + b := by
  unfold pwB nxB at *
  rcases h with rfl | rfl | rfl | rfl | rfl | rfl | rfl | rfl | rfl | rfl | rfl
  · exact absurd rfl hb
  all_goals decide
def mwI (P : Nat → Prop) (wt b : Nat) : Prop := pwB b ∧ wt ≤ 900 ∧ P wt ∧ ∀ v, wt + nxB b ≤ v → v ≤ 900 → ¬ P v
theorem mw_y {P : Nat → Prop} {k b : Nat} (h : mwI P k b) (hb : ¬ b = 0) (hk : k + b ≤ 900) (q : P (k + b)) : mwI P (k + b) (b / 2) := by
  obtain ⟨s1, s2, s3⟩ := pwB_s h.1 hb
  refine ⟨s1, hk, q, fun v hv => h.2.2.2 v ?_⟩
  rw [s2] at hv
  rw [s3]
  omega
theorem mw_n {P : Nat → Prop} {k b : Nat} (h : mwI P k b) (hb : ¬ b = 0) (hm : ∀ x y, y ≤ 900 → x ≤ y → P y → P x) (c : ¬ (k + b ≤ 900 ∧ P (k + b))) : mwI P k (b / 2) := by
  obtain ⟨s1, s2, s3⟩ := pwB_s h.1 hb
  refine ⟨s1, h.2.1, h.2.2.1, fun v hv h9 pv => ?_⟩
  rw [s2] at hv
  exact c ⟨by omega, hm _ v h9 hv pv⟩
theorem mw_e {P : Nat → Prop} {k b : Nat} (h : mwI P k b) (hb : b = 0) : ∀ v, k < v → v ≤ 900 → ¬ P v := fun v hv => h.2.2.2 v (by rw [hb]; show k + 1 ≤ v; omega)
theorem half_n {x : Int32} (h : rg x 0 512) : (x / 2).toNatClampNeg = x.toNatClampNeg / 2 := by
  have e : (x / 2).toInt = x.toInt / 2 := by
    rw [Int32.toInt_div, show x.toInt.tdiv (2 : Int32).toInt = x.toInt / 2 from Int.tdiv_eq_ediv_of_nonneg h.1]
    exact oh_bmod (by have := h.1; omega) (by have := h.2; omega)
  have a := oh_nat h (by decide)
  have b := oh_nat (rg_half h (by decide)) (by decide)
  omega
theorem add_n {x y : Int32} (hx : rg x 0 900) (hy : rg y 0 512) : (x + y).toNatClampNeg = x.toNatClampNeg + y.toNatClampNeg ∧ rg (x + y) 0 1412 := by
  have k : rg (x + y) 0 1412 := rg_add hx hy (by decide)
  have e : (x + y).toInt = x.toInt + y.toInt := by
    rw [Int32.toInt_add]
    exact oh_bmod (by have := hx.1; have := hy.1; omega) (by have := hx.2; have := hy.2; omega)
  have a := oh_nat hx (by decide)
  have b := oh_nat hy (by decide)
  have c := oh_nat k (by decide)
  exact ⟨by omega, k⟩
/-- the class's loop: weight x, bit y -/
def mwX (A : LA) (w f t x y : Int32) : Prop := rg x 0 900 ∧ mwI (mwH A w f t) x.toNatClampNeg y.toNatClampNeg
theorem mwX_0 {A : LA} {w f t : Int32} (q : hasW (EcA (setA A 0 0) w 0 1) f.toNatClampNeg t.toNatClampNeg) : mwX A w f t 0 512 := by
  refine ⟨⟨by decide, by decide⟩, ?_, by decide, q, fun v hv h9 => ?_⟩
  · exact Or.inr (Or.inr (Or.inr (Or.inr (Or.inr (Or.inr (Or.inr (Or.inr (Or.inr (Or.inr rfl)))))))))
  · have hv : 0 + 1024 ≤ v := hv
    omega
theorem mwX_y {A : LA} {w f t x y : Int32} (h : mwX A w f t x y) (hy : rg y 1 512) (c : x + y ≤ 900) (q : hasW (EcA (setA A 0 (x + y)) w 0 1) f.toNatClampNeg t.toNatClampNeg) : mwX A w f t (x + y) (y / 2) := by
  have hy0 : rg y 0 512 := rg_w hy (by decide)
  obtain ⟨e, k⟩ := add_n h.1 hy0
  have c2 := Int32.le_iff_toInt_le.mp c
  have n := oh_nat k (by decide)
  have m := oh_nat hy0 (by decide)
  have e9 : (900 : Int32).toInt = 900 := rfl
  refine ⟨⟨k.1, by omega⟩, ?_⟩
  rw [half_n hy0, e]
  exact mw_y h.2 (by have := hy.1; omega) (by omega) (by rw [← e]; exact (mwH_z k).mpr q)
theorem mwX_n {A : LA} (ho : okA A) {w f t x y : Int32} (h0 : rg w 0 4) (hl : w < A 5 0 2) (h : mwX A w f t x y) (hy : rg y 1 512) (c : ¬ (x + y ≤ 900 ∧ hasW (EcA (setA A 0 (x + y)) w 0 1) f.toNatClampNeg t.toNatClampNeg)) : mwX A w f t x (y / 2) := by
  have hy0 : rg y 0 512 := rg_w hy (by decide)
  obtain ⟨e, k⟩ := add_n h.1 hy0
  have n := oh_nat k (by decide)
  have m := oh_nat hy0 (by decide)
  have e9 : (900 : Int32).toInt = 900 := rfl
  refine ⟨h.1, ?_⟩
  rw [half_n hy0]
  refine mw_n h.2 (by have := hy.1; omega) (fun a b hb hab q => mwH_m ho h0 hl hb hab q) (fun z => c ⟨Int32.le_iff_toInt_le.mpr (by rw [← e] at z; omega), ?_⟩)
  rw [← e] at z
  exact (mwH_z k).mp z.2
theorem mwX_e {A : LA} {w f t x y : Int32} (h : mwX A w f t x y) (hy : rg y 0 512) (c : y ≤ 0) : mwR (mwH A w f t) (-1) x := by
  have c2 := Int32.le_iff_toInt_le.mp c
  have m := oh_nat hy (by decide)
  have e0 : (0 : Int32).toInt = 0 := rfl
  exact Or.inr ⟨x.toNatClampNeg, h.2.2.1, (oh_ofc h.1 (by decide)).symm, h.2.2.2.1, mw_e h.2 (by omega)⟩
theorem mwX_z {A : LA} (ho : okA A) {w f t : Int32} (h0 : rg w 0 4) (hl : w < A 5 0 2) (q : ¬ hasW (EcA (setA A 0 0) w 0 1) f.toNatClampNeg t.toNatClampNeg) : mwR (mwH A w f t) (-1) (-1) := Or.inl ⟨rfl, fun v hv pv => q (mwH_m ho h0 hl hv (Nat.zero_le v) pv)⟩

set_option maxHeartbeats 4000000 in
set_option maxRecDepth 100000 in
theorem e2_X6_heaviest (l : Launch) (D : va_G) (E : Nat → ClassId) (G : Nat → Nat) (sz : Nat) (a : Nat → Nat) (C : Nat → va_E) (hT : TyX a E C) (x1 : Int32) (x2 : Int32) (x3 : Int32) (hx1 : rg x1 0 4) (hx2 : rg x2 0 15) (hx3 : rg x3 0 15) : Met l yX6_heaviest (oh_w yX6_heaviest cX6_heaviest 6 (some .int)) ({ frames := 5, cells := 0, slots := 0, locals := 124 }) (oh_Pm D E G [.ref (a 0), .int x1, .int x2, .int x3] (oh_W 35 a C) sz) (va_Qi (fun r (u : Nat → va_E) => TyX a E u ∧ fr [(9, 10), (15, 16), (24, 28)] [] C u ∧ (∀ j, j ≠ 0 → ga (u 15) j = ga (C 15) j) ∧ (∀ A : LA, absX 10 C A → okA A → x1 < A 5 0 2 → mwR (mwH A x1 x2 x3) (-1) r)) (oh_B D (va_A (oh_W 35 a C) sz) (fun u => oh_W 35 a u)) (va_A (oh_W 35 a C) sz)) 0 0 (va_A (oh_W 35 a C) sz) := by
  refine Met.ofW (cc := cX6_heaviest) (maxL := 6) (ret := (some .int)) (by decide) rfl ?_
  intro p e s m args below meth c s₁ B hml hv
  obtain ⟨rfl, hsz, hP, hK, hD0, hG⟩ := hv
  have hx := B.exec
  have hb := B.bytes
  have hr := B.returns
  have hts := atoms_spec (ws := (oh_w yX6_heaviest cX6_heaviest 6 (some .int))) B.pre
  have htg : ∀ w ∈ oh_t, w.before _ s = true := fun w h => hts w (List.mem_cons_of_mem _ h)
  have hown : s.vm.findClass RX6 = some m.cls := findClass_of_methodNamed B.named
  have hlocks := B.notSynchronized
  have hT0 := hT
  subst hsz
  have hD := hD0.self (sz := s.heap.size)
  generalize hAe : va_A (oh_W 35 a C) s.heap.size = A at hD hG ⊢
  have hA : ∀ q : Nat, s.heap.size ≤ q → A q := fun q h => by rw [← hAe]; exact Or.inr h
  have hS : va_S A s.heap s.heap [] := va_S.rf
  have hF : fr [(9, 10), (15, 16), (24, 28)] [] C C := fr_rf
  have hl := lv_entry ([.ref (a 0), .int x1, .int x2, .int x3]) (n := 6) (Nat.le_of_ble_eq_true rfl)
  rw [lg_entry_eq]
  generalize (lg_sl ([.ref (a 0), .int x1, .int x2, .int x3]) ++ List.replicate (6 - (lg_sl ([.ref (a 0), .int x1, .int x2, .int x3])).length) Slot.unset).toArray = ls at hl ⊢
  have hl : lv_has ls 6 [(0, .ref (a 0)), (1, .int x1), (2, .int x2), (3, .int x3)] := hl
  refine oh_genQ (fun Q hQ => ?_)
  refine lv_aload_n hx hb dX6_heaviest_0 rfl (lv_at hl 0 rfl) ?_
  refine va_get (D := D) (ci := 6) (v := .ref (a 1)) (C := RX6) (T := TX6) (N := 9) hx hb htg ig_6 hown hK hP 0 (oh_wg (by decide) (sX_0 hT)) rfl 0 (by decide) (htg _ q_258) (fun _ h9 => h9) rfl dX6_heaviest_1 ?_
  refine va_get (D := D) (ci := 0) (v := .ref (a 15)) (C := RX0) (T := TX0) (N := 8) hx hb htg ig_0 hown hK hP 1 (oh_wg (by decide) (sX_1 hT)) rfl 5 (by decide) (htg _ q_110) (fun _ h9 => h9) rfl dX6_heaviest_4 ?_
  refine lv_iconst (v := 0) hx hb dX6_heaviest_7 (by decide) ?_
  refine lv_iconst (v := 0) hx hb dX6_heaviest_8 (by decide) ?_
  refine th_iast (T := TyX a E) (Rl := fr [(9, 10), (15, 16), (24, 28)] [] C) hx hb hK hP hD hS 15 (by decide) (sX_15 hT) (rg_in (rg_c (v := 0) (lo := 0) (hi := 0) (by decide)) (by decide)) (hT.up 15 (tA_upd (tX_15 hT) tA_any)) (fr_st hF (by decide) (by decide)) dX6_heaviest_9 (fun C_1 H locs e_2 hT hF hP hD hS => ?_)
  have t_3 := hT
  refine lv_aload_n hx hb dX6_heaviest_10 rfl (lv_at hl 0 rfl) ?_
  refine va_get (D := D) (ci := 6) (v := .ref (a 3)) (C := RX6) (T := TX6) (N := 9) hx hb htg ig_6 hown hK hP 0 (oh_wg (by decide) (sX_0 hT)) rfl 3 (by decide) (htg _ q_261) (fun _ h9 => h9) rfl dX6_heaviest_11 ?_
  refine lv_iload_n hx hb dX6_heaviest_14 rfl (lv_at hl 1 rfl) ?_
  refine lv_iconst (v := 0) hx hb dX6_heaviest_15 (by decide) ?_
  refine lv_iload_n hx hb dX6_heaviest_16 rfl (lv_at hl 2 rfl) ?_
  refine lv_iload_n hx hb dX6_heaviest_17 rfl (lv_at hl 3 rfl) ?_
  refine tm_V (As := [.int x1, .int 0, .int x2, .int x3]) (rest := []) ⟨hx, hb, hml, hown, htg⟩ (e_X5_hasWay l D E G _ a C_1 hT x1 (0 : Int32) x2 x3 (rg_w hx1 (by decide)) (rg_w hx2 (by decide)) (rg_w hx3 (by decide))) (cwV 4 htg (oh_gV q_881 q_882 q_883 q_68 q_884) rfl rfl rfl pdVX5_hasWay ⟨Nat.le_of_ble_eq_true rfl, Nat.le_of_ble_eq_true rfl⟩) hK hP hD hG hS hA (va_recv hK hP (ci := 5) (q0 := 3) rfl (oh_wg (by decide) (sX_3 hT))) rfl hl.1 rfl (Nat.le_of_ble_eq_true rfl) dX6_heaviest_18 ⟨Nat.le_of_ble_eq_true rfl, Nat.le_of_ble_eq_true rfl⟩ (fun r_4 C_5 H locs hq_6 hP hD hS => ?_)
  obtain ⟨hT, f_7, hq_6⟩ := hq_6
  have hF := fr_tr hF f_7 (by decide) (by decide)
  refine W.widen (k := 0) (n := 0) (Nat.le_refl _) (Nat.le_refl _) ?_
  have t_8 := hT
  refine lv_if_ne (tgt := 26) hx hb dX6_heaviest_21 (by decide) (fun (c_9 : ¬ (r_4 = 0)) => ?_) (fun (c_9 : r_4 = 0) => ?_)
  · refine lv_iconst (v := 0) hx hb dX6_heaviest_26 (by decide) ?_
    refine lv_istore (lv' := [(4, .int 0), (0, .ref (a 0)), (1, .int x1), (2, .int x2), (3, .int x3)]) hx hb dX6_heaviest_27 hl (by decide) rfl (fun ls hl => ?_)
    refine lv_sipush (v := 512) hx hb dX6_heaviest_29 (by decide) ?_
    refine lv_istore (lv' := [(5, .int 512), (4, .int 0), (0, .ref (a 0)), (1, .int x1), (2, .int x2), (3, .int x3)]) hx hb dX6_heaviest_32 hl (by decide) rfl (fun ls hl => ?_)
    have L_34 : ∀ (d : Nat) (K34 : Nat → va_E) (z34_5 : Int32) (z34_4 : Int32) (H : Heap) (locs : List Loc) (ls : Array Slot), z34_5.toInt.toNat = d → rg z34_5 0 512 → (∀ j, j ≠ 0 → ga (K34 15) j = ga (C 15) j) → (∀ A : LA, absX 10 C A → okA A → x1 < A 5 0 2 → mwX A x1 x2 x3 z34_4 z34_5) → TyX a E K34 → fr [(9, 10), (15, 16), (24, 28)] [] C K34 → fr [(9, 10), (15, 16), (24, 28)] [] C_5 K34 → va_P D vwCl (oh_W 35 a K34) H → va_D A (oh_W 35 a K34) → va_S A s.heap H locs → lv_has ls 6 [(5, .int z34_5), (4, .int z34_4), (0, .ref (a 0)), (1, .int x1), (2, .int x2), (3, .int x3)] → W p l e ({ frames := 5, cells := 0, slots := 0, locals := 124 }) s m (([.ref (a 0), .int x1, .int x2, .int x3] : List Value).toArray) below meth c H locs 0 0 Q (F0 m 34 ls []) := by
      intro d
      induction d using Nat.strongRecOn with
      | ind d ih_34 =>
      intro K34 z34_5 z34_4 H locs ls hd_34 hz34_5 hx_34 hv_34 hT hF hLF_34 hP hD hS hl
      have t_10 := hT
      refine lv_iload hx hb dX6_heaviest_34 (lv_at hl 0 rfl) ?_
      refine lv_if_le (tgt := 94) hx hb dX6_heaviest_36 (by decide) (fun (c_11 : z34_5 ≤ 0) => ?_) (fun (c_11 : ¬ (z34_5 ≤ 0)) => ?_)
      · refine lv_iload hx hb dX6_heaviest_94 (lv_at hl 1 rfl) ?_
        rw [hQ]
        exact W.iret (v := z34_4) hx hb hr (fun t ht hW => ⟨⟨z34_4, K34, rfl, ⟨hT, hF, ⟨(fun j hj => (hx_34 j hj)), (fun A hA hok hl => mwX_e (hv_34 A hA hok hl) hz34_5 c_11)⟩⟩, ⟨by rw [ht]; exact hP, hD⟩⟩, hS.F ht⟩) hS.2.2 dX6_heaviest_96
      · refine lv_aload_n hx hb dX6_heaviest_39 rfl (lv_at hl 2 rfl) ?_
        refine va_get (D := D) (ci := 6) (v := .ref (a 1)) (C := RX6) (T := TX6) (N := 9) hx hb htg ig_6 hown hK hP 0 (oh_wg (by decide) (sX_0 hT)) rfl 0 (by decide) (htg _ q_258) (fun _ h9 => h9) rfl dX6_heaviest_40 ?_
        refine va_get (D := D) (ci := 0) (v := .ref (a 15)) (C := RX0) (T := TX0) (N := 8) hx hb htg ig_0 hown hK hP 1 (oh_wg (by decide) (sX_1 hT)) rfl 5 (by decide) (htg _ q_110) (fun _ h9 => h9) rfl dX6_heaviest_43 ?_
        refine lv_iconst (v := 0) hx hb dX6_heaviest_46 (by decide) ?_
        refine lv_iload hx hb dX6_heaviest_47 (lv_at hl 1 rfl) ?_
        refine lv_iload hx hb dX6_heaviest_49 (lv_at hl 0 rfl) ?_
        refine lv_iadd hx hb dX6_heaviest_51 ?_
        refine th_iast (T := TyX a E) (Rl := fr [(9, 10), (15, 16), (24, 28)] [] C) hx hb hK hP hD hS 15 (by decide) (sX_15 hT) (rg_in (rg_c (v := 0) (lo := 0) (hi := 0) (by decide)) (by decide)) (hT.up 15 (tA_upd (tX_15 hT) tA_any)) (fr_st hF (by decide) (by decide)) dX6_heaviest_52 (fun C_12 H locs e_13 hT hF hP hD hS => ?_)
        have t_14 := hT
        refine lv_iload hx hb dX6_heaviest_53 (lv_at hl 1 rfl) ?_
        refine lv_iload hx hb dX6_heaviest_55 (lv_at hl 0 rfl) ?_
        refine lv_iadd hx hb dX6_heaviest_57 ?_
        refine lv_sipush (v := 900) hx hb dX6_heaviest_58 (by decide) ?_
        refine lv_icmp_gt (tgt := 85) hx hb dX6_heaviest_61 (by decide) (fun (c_15 : (900 : Int32) < (z34_4 + z34_5)) => ?_) (fun (c_15 : ¬ ((900 : Int32) < (z34_4 + z34_5))) => ?_)
        · refine lv_iload hx hb dX6_heaviest_85 (lv_at hl 0 rfl) ?_
          refine lv_iconst (v := 2) hx hb dX6_heaviest_87 (by decide) ?_
          refine lv_idiv hx hb dX6_heaviest_88 (by decide) ?_
          refine lv_istore (lv' := [(5, .int (z34_5 / 2)), (4, .int z34_4), (0, .ref (a 0)), (1, .int x1), (2, .int x2), (3, .int x3)]) hx hb dX6_heaviest_89 hl (by decide) rfl (fun ls hl => ?_)
          refine lv_goto (tgt := 34) hx hb dX6_heaviest_91 (by decide) ?_
          exact ih_34 _ (hd_34 ▸ mu_half (rn_ltl (l' := 1) (Int32.not_le.mp c_11) (rg_c (v := 0) (lo := 0) (hi := 0) (by decide)) hz34_5 (by decide)) (by decide)) C_12 (z34_5 / 2) z34_4 _ _ ls rfl (rg_half (rn_ltl (l' := 1) (Int32.not_le.mp c_11) (rg_c (v := 0) (lo := 0) (hi := 0) (by decide)) hz34_5 (by decide)) (by decide)) (fun j hj => (Eq.trans (show ga (C_12 15) j = ga (K34 15) j by rw [st_ga e_13]; exact pk_un hj) (hx_34 j hj))) (fun A hA hok hl => by have h := hv_34 A hA hok hl; have hy : rg z34_5 1 512 := (rg_w (lo := 1) (hi := 512) (rn_ltl (l' := 1) (Int32.not_le.mp c_11) (rg_c (v := 0) (lo := 0) (hi := 0) (by decide)) hz34_5 (by decide)) (by decide)); exact mwX_n hok hx1 hl h hy (fun q => absurd q.1 (Int32.not_le.mpr c_15))) hT hF (fr_ste hLF_34 e_13 (by decide) (by decide)) hP hD hS (lv_sub hl [0, 1, 2, 3, 4, 5] rfl)
        · refine lv_aload_n hx hb dX6_heaviest_64 rfl (lv_at hl 2 rfl) ?_
          refine va_get (D := D) (ci := 6) (v := .ref (a 3)) (C := RX6) (T := TX6) (N := 9) hx hb htg ig_6 hown hK hP 0 (oh_wg (by decide) (sX_0 hT)) rfl 3 (by decide) (htg _ q_261) (fun _ h9 => h9) rfl dX6_heaviest_65 ?_
          refine lv_iload_n hx hb dX6_heaviest_68 rfl (lv_at hl 3 rfl) ?_
          refine lv_iconst (v := 0) hx hb dX6_heaviest_69 (by decide) ?_
          refine lv_iload_n hx hb dX6_heaviest_70 rfl (lv_at hl 4 rfl) ?_
          refine lv_iload_n hx hb dX6_heaviest_71 rfl (lv_at hl 5 rfl) ?_
          refine tm_V (As := [.int x1, .int 0, .int x2, .int x3]) (rest := []) ⟨hx, hb, hml, hown, htg⟩ (e_X5_hasWay l D E G _ a C_12 hT x1 (0 : Int32) x2 x3 (rg_w hx1 (by decide)) (rg_w hx2 (by decide)) (rg_w hx3 (by decide))) (cwV 4 htg (oh_gV q_881 q_882 q_883 q_68 q_884) rfl rfl rfl pdVX5_hasWay ⟨Nat.le_of_ble_eq_true rfl, Nat.le_of_ble_eq_true rfl⟩) hK hP hD hG hS hA (va_recv hK hP (ci := 5) (q0 := 3) rfl (oh_wg (by decide) (sX_3 hT))) rfl hl.1 rfl (Nat.le_of_ble_eq_true rfl) dX6_heaviest_72 ⟨Nat.le_of_ble_eq_true rfl, Nat.le_of_ble_eq_true rfl⟩ (fun r_16 C_17 H locs hq_18 hP hD hS => ?_)
          obtain ⟨hT, f_19, hq_18⟩ := hq_18
          have hF := fr_tr hF f_19 (by decide) (by decide)
          refine W.widen (k := 0) (n := 0) (Nat.le_refl _) (Nat.le_refl _) ?_
          have t_20 := hT
          refine lv_if_eq (tgt := 85) hx hb dX6_heaviest_75 (by decide) (fun (c_21 : r_16 = 0) => ?_) (fun (c_21 : ¬ (r_16 = 0)) => ?_)
          · refine lv_iload hx hb dX6_heaviest_85 (lv_at hl 0 rfl) ?_
            refine lv_iconst (v := 2) hx hb dX6_heaviest_87 (by decide) ?_
            refine lv_idiv hx hb dX6_heaviest_88 (by decide) ?_
            refine lv_istore (lv' := [(5, .int (z34_5 / 2)), (4, .int z34_4), (0, .ref (a 0)), (1, .int x1), (2, .int x2), (3, .int x3)]) hx hb dX6_heaviest_89 hl (by decide) rfl (fun ls hl => ?_)
            refine lv_goto (tgt := 34) hx hb dX6_heaviest_91 (by decide) ?_
            exact ih_34 _ (hd_34 ▸ mu_half (rn_ltl (l' := 1) (Int32.not_le.mp c_11) (rg_c (v := 0) (lo := 0) (hi := 0) (by decide)) hz34_5 (by decide)) (by decide)) C_17 (z34_5 / 2) z34_4 _ _ ls rfl (rg_half (rn_ltl (l' := 1) (Int32.not_le.mp c_11) (rg_c (v := 0) (lo := 0) (hi := 0) (by decide)) hz34_5 (by decide)) (by decide)) (fun j hj => (Eq.trans (congrArg (fun z => ga z j) (f_19.1 15 rfl (by decide))) (Eq.trans (show ga (C_12 15) j = ga (K34 15) j by rw [st_ga e_13]; exact pk_un hj) (hx_34 j hj)))) (fun A hA hok hl => by have h := hv_34 A hA hok hl; have hy : rg z34_5 1 512 := (rg_w (lo := 1) (hi := 512) (rn_ltl (l' := 1) (Int32.not_le.mp c_11) (rg_c (v := 0) (lo := 0) (hi := 0) (by decide)) hz34_5 (by decide)) (by decide)); have c : z34_4 + z34_5 ≤ 900 := (Int32.not_lt.mp c_15); have k9 : rg (z34_4 + z34_5) 0 900 := ⟨(add_n h.1 (rg_w hy (by decide))).2.1, Int32.le_iff_toInt_le.mp c⟩; exact mwX_n hok hx1 hl h hy (fun q => absurd (Eq.trans (Eq.symm ((hq_18.2 (setA A 0 (z34_4 + z34_5)) (absX_sk 0 hA (fun k k1 k2 => (Eq.trans (th_un e_13 (by omega)) (Eq.trans (fr_all hLF_34 10 14 (by decide) k k1 k2) (Eq.trans (fr_all f_7 10 14 (by decide) k k1 k2) (th_un e_2 (by omega)))))) (by rw [st_ga e_13]; exact pk_us) (fun j hj => (Eq.trans (show ga (C_12 15) j = ga (K34 15) j by rw [st_ga e_13]; exact pk_un hj) (hx_34 j hj)))) (ok_set hok (fun _ => k9) (fun e => absurd e (by decide)) (fun e => absurd e (by decide))) (set_52 hl)).mpr q.2)) c_21) (by decide))) hT hF (fr_tr (fr_ste hLF_34 e_13 (by decide) (by decide)) f_19 (by decide) (by decide)) hP hD hS (lv_sub hl [0, 1, 2, 3, 4, 5] rfl)
          · refine lv_iload hx hb dX6_heaviest_78 (lv_at hl 1 rfl) ?_
            refine lv_iload hx hb dX6_heaviest_80 (lv_at hl 0 rfl) ?_
            refine lv_iadd hx hb dX6_heaviest_82 ?_
            refine lv_istore (lv' := [(4, .int (z34_4 + z34_5)), (5, .int z34_5), (0, .ref (a 0)), (1, .int x1), (2, .int x2), (3, .int x3)]) hx hb dX6_heaviest_83 hl (by decide) rfl (fun ls hl => ?_)
            refine lv_iload hx hb dX6_heaviest_85 (lv_at hl 1 rfl) ?_
            refine lv_iconst (v := 2) hx hb dX6_heaviest_87 (by decide) ?_
            refine lv_idiv hx hb dX6_heaviest_88 (by decide) ?_
            refine lv_istore (lv' := [(5, .int (z34_5 / 2)), (4, .int (z34_4 + z34_5)), (0, .ref (a 0)), (1, .int x1), (2, .int x2), (3, .int x3)]) hx hb dX6_heaviest_89 hl (by decide) rfl (fun ls hl => ?_)
            refine lv_goto (tgt := 34) hx hb dX6_heaviest_91 (by decide) ?_
            exact ih_34 _ (hd_34 ▸ mu_half (rn_ltl (l' := 1) (Int32.not_le.mp c_11) (rg_c (v := 0) (lo := 0) (hi := 0) (by decide)) hz34_5 (by decide)) (by decide)) C_17 (z34_5 / 2) (z34_4 + z34_5) _ _ ls rfl (rg_half (rn_ltl (l' := 1) (Int32.not_le.mp c_11) (rg_c (v := 0) (lo := 0) (hi := 0) (by decide)) hz34_5 (by decide)) (by decide)) (fun j hj => (Eq.trans (congrArg (fun z => ga z j) (f_19.1 15 rfl (by decide))) (Eq.trans (show ga (C_12 15) j = ga (K34 15) j by rw [st_ga e_13]; exact pk_un hj) (hx_34 j hj)))) (fun A hA hok hl => by have h := hv_34 A hA hok hl; have hy : rg z34_5 1 512 := (rg_w (lo := 1) (hi := 512) (rn_ltl (l' := 1) (Int32.not_le.mp c_11) (rg_c (v := 0) (lo := 0) (hi := 0) (by decide)) hz34_5 (by decide)) (by decide)); have c : z34_4 + z34_5 ≤ 900 := (Int32.not_lt.mp c_15); have k9 : rg (z34_4 + z34_5) 0 900 := ⟨(add_n h.1 (rg_w hy (by decide))).2.1, Int32.le_iff_toInt_le.mp c⟩; exact mwX_y h hy c ((hq_18.2 (setA A 0 (z34_4 + z34_5)) (absX_sk 0 hA (fun k k1 k2 => (Eq.trans (th_un e_13 (by omega)) (Eq.trans (fr_all hLF_34 10 14 (by decide) k k1 k2) (Eq.trans (fr_all f_7 10 14 (by decide) k k1 k2) (th_un e_2 (by omega)))))) (by rw [st_ga e_13]; exact pk_us) (fun j hj => (Eq.trans (show ga (C_12 15) j = ga (K34 15) j by rw [st_ga e_13]; exact pk_un hj) (hx_34 j hj)))) (ok_set hok (fun _ => k9) (fun e => absurd e (by decide)) (fun e => absurd e (by decide))) (set_52 hl)).mp (oh_b1 (rg_w (lo := 0) (hi := 1) (rn_nel (l' := 1) c_21 (oh_rgb hq_18.1) (rg_c (v := 0) (lo := 0) (hi := 0) (by decide)) (by decide)) (by decide)) c_21))) hT hF (fr_tr (fr_ste hLF_34 e_13 (by decide) (by decide)) f_19 (by decide) (by decide)) hP hD hS (lv_sub hl [0, 1, 2, 3, 4, 5] rfl)
    exact L_34 _ C_5 512 0 _ _ ls rfl (rg_w (rg_c (v := 512) (lo := 512) (hi := 512) (by decide)) (by decide)) (fun j hj => (Eq.trans (congrArg (fun z => ga z j) (f_7.1 15 rfl (by decide))) (show ga (C_1 15) j = ga (C 15) j by rw [st_ga e_2]; exact pk_un hj))) (fun A hA hok hl => mwX_0 ((hq_6.2 (setA A 0 0) (absX_sk 0 hA (fun k k1 k2 => (th_un e_2 (by omega))) (by rw [st_ga e_2]; exact pk_us) (fun j hj => (show ga (C_1 15) j = ga (C 15) j by rw [st_ga e_2]; exact pk_un hj))) (ok_set hok (fun _ => ⟨by decide, by decide⟩) (fun e => absurd e (by decide)) (fun e => absurd e (by decide))) (set_52 hl)).mp (oh_b1 (rg_w (lo := 0) (hi := 1) (rn_nel (l' := 1) c_9 (oh_rgb hq_6.1) (rg_c (v := 0) (lo := 0) (hi := 0) (by decide)) (by decide)) (by decide)) c_9))) hT hF fr_rf hP hD hS (lv_sub hl [0, 1, 2, 3, 4, 5] rfl)
  · refine lv_iconst (v := (-1)) hx hb dX6_heaviest_24 (by decide) ?_
    rw [hQ]
    exact W.iret (v := (-1)) hx hb hr (fun t ht hW => ⟨⟨(-1), C_5, rfl, ⟨hT, hF, ⟨(fun j hj => (Eq.trans (congrArg (fun z => ga z j) (f_7.1 15 rfl (by decide))) (show ga (C_1 15) j = ga (C 15) j by rw [st_ga e_2]; exact pk_un hj))), (fun A hA hok hl => mwX_z hok hx1 hl (fun q => absurd (Eq.trans (Eq.symm ((hq_6.2 (setA A 0 0) (absX_sk 0 hA (fun k k1 k2 => (th_un e_2 (by omega))) (by rw [st_ga e_2]; exact pk_us) (fun j hj => (show ga (C_1 15) j = ga (C 15) j by rw [st_ga e_2]; exact pk_un hj))) (ok_set hok (fun _ => ⟨by decide, by decide⟩) (fun e => absurd e (by decide)) (fun e => absurd e (by decide))) (set_52 hl)).mpr q)) c_9) (by decide)))⟩⟩, ⟨by rw [ht]; exact hP, hD⟩⟩, hS.F ht⟩) hS.2.2 dX6_heaviest_25

set_option maxHeartbeats 4000000 in
set_option maxRecDepth 100000 in
theorem e2_X6_most (l : Launch) (D : va_G) (E : Nat → ClassId) (G : Nat → Nat) (sz : Nat) (a : Nat → Nat) (C : Nat → va_E) (hT : TyX a E C) (x1 : Int32) (x2 : Int32) (x3 : Int32) : Met l yX6_most (oh_w yX6_most cX6_most 6 (some .int)) ({ frames := 6, cells := 0, slots := 0, locals := 149 }) (oh_Pm D E G [.ref (a 0), .int x1, .int x2, .int x3] (oh_W 35 a C) sz) (va_Qi (fun r (u : Nat → va_E) => TyX a E u ∧ fr [(7, 8), (9, 10), (15, 16), (24, 28)] [] C u ∧ (ga (u 15) = ga (C 15)) ∧ (∀ A : LA, absX 10 C A → okA A → r = spMost A x1 x2 x3)) (oh_B D (va_A (oh_W 35 a C) sz) (fun u => oh_W 35 a u)) (va_A (oh_W 35 a C) sz)) 0 0 (va_A (oh_W 35 a C) sz) := by
  refine Met.ofW (cc := cX6_most) (maxL := 6) (ret := (some .int)) (by decide) rfl ?_
  intro p e s m args below meth c s₁ B hml hv
  obtain ⟨rfl, hsz, hP, hK, hD0, hG⟩ := hv
  have hx := B.exec
  have hb := B.bytes
  have hr := B.returns
  have hts := atoms_spec (ws := (oh_w yX6_most cX6_most 6 (some .int))) B.pre
  have htg : ∀ w ∈ oh_t, w.before _ s = true := fun w h => hts w (List.mem_cons_of_mem _ h)
  have hown : s.vm.findClass RX6 = some m.cls := findClass_of_methodNamed B.named
  have hlocks := B.notSynchronized
  have hT0 := hT
  subst hsz
  have hD := hD0.self (sz := s.heap.size)
  generalize hAe : va_A (oh_W 35 a C) s.heap.size = A at hD hG ⊢
  have hA : ∀ q : Nat, s.heap.size ≤ q → A q := fun q h => by rw [← hAe]; exact Or.inr h
  have hS : va_S A s.heap s.heap [] := va_S.rf
  have hF : fr [(7, 8), (9, 10), (15, 16), (24, 28)] [] C C := fr_rf
  have hl := lv_entry ([.ref (a 0), .int x1, .int x2, .int x3]) (n := 6) (Nat.le_of_ble_eq_true rfl)
  rw [lg_entry_eq]
  generalize (lg_sl ([.ref (a 0), .int x1, .int x2, .int x3]) ++ List.replicate (6 - (lg_sl ([.ref (a 0), .int x1, .int x2, .int x3])).length) Slot.unset).toArray = ls at hl ⊢
  have hl : lv_has ls 6 [(0, .ref (a 0)), (1, .int x1), (2, .int x2), (3, .int x3)] := hl
  refine oh_genQ (fun Q hQ => ?_)
  refine lv_aload_n hx hb dX6_most_0 rfl (lv_at hl 0 rfl) ?_
  refine lv_iload_n hx hb dX6_most_1 rfl (lv_at hl 1 rfl) ?_
  refine tq_V (As := [.int x1]) (rest := []) (ws := (oh_W 35 a C)) ⟨hx, hb, hml, hown, htg⟩ (e_X6_isWaggon l D E G a C hT x1) (cwV 1 htg (oh_gV q_679 q_681 q_15 q_66 q_682) rfl rfl rfl pdVX6_isWaggon ⟨Nat.le_of_ble_eq_true rfl, Nat.le_of_ble_eq_true rfl⟩) hK hP hG hS (va_recv hK hP (ci := 6) (q0 := 0) rfl (oh_wg (by decide) (sX_0 hT))) rfl hl.1 rfl (Nat.le_of_ble_eq_true rfl) dX6_most_2 ⟨Nat.le_of_ble_eq_true rfl, Nat.le_of_ble_eq_true rfl⟩ (fun r_1 hq_2 => ?_)
  refine lv_if_eq (tgt := 22) hx hb dX6_most_5 (by decide) (fun (c_3 : r_1 = 0) => ?_) (fun (c_3 : ¬ (r_1 = 0)) => ?_)
  · have u_4 := hq_2.2.2 c_3
    refine lv_aload_n hx hb dX6_most_22 rfl (lv_at hl 0 rfl) ?_
    refine lv_bipush (v := (-2)) hx hb dX6_most_23 (by decide) ?_
    refine tm_V (As := [.int (-2)]) (rest := []) ⟨hx, hb, hml, hown, htg⟩ (c_X6_refuse l D E G _ a C hT ((-2) : Int32)) (cwV 1 htg (oh_gV q_296 q_298 q_0 q_66 q_299) rfl rfl rfl pdVX6_refuse ⟨Nat.le_of_ble_eq_true rfl, Nat.le_of_ble_eq_true rfl⟩) hK hP hD hG hS hA (va_recv hK hP (ci := 6) (q0 := 0) rfl (oh_wg (by decide) (sX_0 hT))) rfl hl.1 rfl (Nat.le_of_ble_eq_true rfl) dX6_most_25 ⟨Nat.le_of_ble_eq_true rfl, Nat.le_of_ble_eq_true rfl⟩ (fun r_5 C_6 H locs hq_7 hP hD hS => ?_)
    obtain ⟨hT, f_8, hq_7⟩ := hq_7
    have hF := fr_tr hF f_8 (by decide) (by decide)
    refine W.widen (k := 0) (n := 0) (Nat.le_refl _) (Nat.le_refl _) ?_
    have t_9 := hT
    rw [hQ]
    exact W.iret (v := r_5) hx hb hr (fun t ht hW => ⟨⟨r_5, C_6, rfl, ⟨hT, hF, ⟨(congrArg ga (f_8.1 15 rfl (by decide))), (fun A hA hok => Eq.trans hq_7 (pif_neg (fun h8 => by have h7 := h8.1; rw [← (show ga (C 10) ((2 : Int32)).toNatClampNeg = A 5 0 2 from hA.1 2 (by decide))] at h7; exact u_4 h7)).symm)⟩⟩, ⟨by rw [ht]; exact hP, hD⟩⟩, hS.F ht⟩) hS.2.2 dX6_most_28
  · have u_10 := hq_2.2.1 c_3
    refine lv_iload_n hx hb dX6_most_8 rfl (lv_at hl 2 rfl) ?_
    refine tq_S (As := [.int x2]) (rest := []) (ws := []) ⟨hx, hb, hml, hown, htg⟩ (e_X6_isPlace l D E G x2) (va_cwS 1 htg (oh_gS q_413 q_414 q_66 q_415) rfl rfl rfl pdX6_isPlace ⟨Nat.le_of_ble_eq_true rfl, Nat.le_of_ble_eq_true rfl⟩) hK va_nil hG hS rfl hl.1 rfl (Nat.le_of_ble_eq_true rfl) dX6_most_9 ⟨Nat.le_of_ble_eq_true rfl, Nat.le_of_ble_eq_true rfl⟩ (fun r_11 hq_12 => ?_)
    refine lv_if_eq (tgt := 22) hx hb dX6_most_12 (by decide) (fun (c_13 : r_11 = 0) => ?_) (fun (c_13 : ¬ (r_11 = 0)) => ?_)
    · have u_14 := hq_12.2.2 c_13
      refine lv_aload_n hx hb dX6_most_22 rfl (lv_at hl 0 rfl) ?_
      refine lv_bipush (v := (-2)) hx hb dX6_most_23 (by decide) ?_
      refine tm_V (As := [.int (-2)]) (rest := []) ⟨hx, hb, hml, hown, htg⟩ (c_X6_refuse l D E G _ a C hT ((-2) : Int32)) (cwV 1 htg (oh_gV q_296 q_298 q_0 q_66 q_299) rfl rfl rfl pdVX6_refuse ⟨Nat.le_of_ble_eq_true rfl, Nat.le_of_ble_eq_true rfl⟩) hK hP hD hG hS hA (va_recv hK hP (ci := 6) (q0 := 0) rfl (oh_wg (by decide) (sX_0 hT))) rfl hl.1 rfl (Nat.le_of_ble_eq_true rfl) dX6_most_25 ⟨Nat.le_of_ble_eq_true rfl, Nat.le_of_ble_eq_true rfl⟩ (fun r_15 C_16 H locs hq_17 hP hD hS => ?_)
      obtain ⟨hT, f_18, hq_17⟩ := hq_17
      have hF := fr_tr hF f_18 (by decide) (by decide)
      refine W.widen (k := 0) (n := 0) (Nat.le_refl _) (Nat.le_refl _) ?_
      have t_19 := hT
      rw [hQ]
      exact W.iret (v := r_15) hx hb hr (fun t ht hW => ⟨⟨r_15, C_16, rfl, ⟨hT, hF, ⟨(congrArg ga (f_18.1 15 rfl (by decide))), (fun A hA hok => Eq.trans hq_17 (pif_neg (fun h8 => u_14 h8.2.1)).symm)⟩⟩, ⟨by rw [ht]; exact hP, hD⟩⟩, hS.F ht⟩) hS.2.2 dX6_most_28
    · have u_20 := hq_12.2.1 c_13
      refine lv_iload_n hx hb dX6_most_15 rfl (lv_at hl 3 rfl) ?_
      refine tq_S (As := [.int x3]) (rest := []) (ws := []) ⟨hx, hb, hml, hown, htg⟩ (e_X6_isPlace l D E G x3) (va_cwS 1 htg (oh_gS q_413 q_414 q_66 q_415) rfl rfl rfl pdX6_isPlace ⟨Nat.le_of_ble_eq_true rfl, Nat.le_of_ble_eq_true rfl⟩) hK va_nil hG hS rfl hl.1 rfl (Nat.le_of_ble_eq_true rfl) dX6_most_16 ⟨Nat.le_of_ble_eq_true rfl, Nat.le_of_ble_eq_true rfl⟩ (fun r_21 hq_22 => ?_)
      refine lv_if_ne (tgt := 29) hx hb dX6_most_19 (by decide) (fun (c_23 : ¬ (r_21 = 0)) => ?_) (fun (c_23 : r_21 = 0) => ?_)
      · have u_24 := hq_22.2.1 c_23
        refine lv_aload_n hx hb dX6_most_29 rfl (lv_at hl 0 rfl) ?_
        refine va_get (D := D) (ci := 6) (v := .ref (a 1)) (C := RX6) (T := TX6) (N := 9) hx hb htg ig_6 hown hK hP 0 (oh_wg (by decide) (sX_0 hT)) rfl 0 (by decide) (htg _ q_258) (fun _ h9 => h9) rfl dX6_most_30 ?_
        refine va_get (D := D) (ci := 0) (v := .ref (a 15)) (C := RX0) (T := TX0) (N := 8) hx hb htg ig_0 hown hK hP 1 (oh_wg (by decide) (sX_1 hT)) rfl 5 (by decide) (htg _ q_110) (fun _ h9 => h9) rfl dX6_most_33 ?_
        refine lv_iconst (v := 0) hx hb dX6_most_36 (by decide) ?_
        refine th_iald hx hb hK hP 15 (by decide) (sX_15 hT) (rg_in (rg_c (v := 0) (lo := 0) (hi := 0) (by decide)) (by decide)) dX6_most_37 ?_
        refine lv_istore (lv' := [(4, .int (ga (C 15) ((0 : Int32)).toNatClampNeg)), (0, .ref (a 0)), (1, .int x1), (2, .int x2), (3, .int x3)]) hx hb dX6_most_38 hl (by decide) rfl (fun ls hl => ?_)
        refine lv_aload_n hx hb dX6_most_40 rfl (lv_at hl 1 rfl) ?_
        refine lv_iload_n hx hb dX6_most_41 rfl (lv_at hl 2 rfl) ?_
        refine lv_iload_n hx hb dX6_most_42 rfl (lv_at hl 3 rfl) ?_
        refine lv_iload_n hx hb dX6_most_43 rfl (lv_at hl 4 rfl) ?_
        refine tm_V (As := [.int x1, .int x2, .int x3]) (rest := []) ⟨hx, hb, hml, hown, htg⟩ (e2_X6_heaviest l D E G _ a C hT x1 x2 x3 (rg_w u_10.1 (by decide)) (rg_w u_20 (by decide)) (rg_w u_24 (by decide))) (cwV 3 htg (oh_gV q_889 q_891 q_27 q_66 q_892) rfl rfl rfl pdVX6_heaviest ⟨Nat.le_of_ble_eq_true rfl, Nat.le_of_ble_eq_true rfl⟩) hK hP hD hG hS hA (va_recv hK hP (ci := 6) (q0 := 0) rfl (oh_wg (by decide) (sX_0 hT))) rfl hl.1 rfl (Nat.le_of_ble_eq_true rfl) dX6_most_44 ⟨Nat.le_of_ble_eq_true rfl, Nat.le_of_ble_eq_true rfl⟩ (fun r_25 C_26 H locs hq_27 hP hD hS => ?_)
        obtain ⟨hT, f_28, hq_27⟩ := hq_27
        have hF := fr_tr hF f_28 (by decide) (by decide)
        refine W.widen (k := 0) (n := 0) (Nat.le_refl _) (Nat.le_refl _) ?_
        have t_29 := hT
        refine lv_istore (lv' := [(5, .int r_25), (4, .int (ga (C 15) ((0 : Int32)).toNatClampNeg)), (0, .ref (a 0)), (1, .int x1), (2, .int x2), (3, .int x3)]) hx hb dX6_most_47 hl (by decide) rfl (fun ls hl => ?_)
        refine lv_aload_n hx hb dX6_most_49 rfl (lv_at hl 2 rfl) ?_
        refine va_get (D := D) (ci := 6) (v := .ref (a 1)) (C := RX6) (T := TX6) (N := 9) hx hb htg ig_6 hown hK hP 0 (oh_wg (by decide) (sX_0 hT)) rfl 0 (by decide) (htg _ q_258) (fun _ h9 => h9) rfl dX6_most_50 ?_
        refine va_get (D := D) (ci := 0) (v := .ref (a 15)) (C := RX0) (T := TX0) (N := 8) hx hb htg ig_0 hown hK hP 1 (oh_wg (by decide) (sX_1 hT)) rfl 5 (by decide) (htg _ q_110) (fun _ h9 => h9) rfl dX6_most_53 ?_
        refine lv_iconst (v := 0) hx hb dX6_most_56 (by decide) ?_
        refine lv_iload hx hb dX6_most_57 (lv_at hl 1 rfl) ?_
        refine th_iast (T := TyX a E) (Rl := fr [(7, 8), (9, 10), (15, 16), (24, 28)] [] C) hx hb hK hP hD hS 15 (by decide) (sX_15 hT) (rg_in (rg_c (v := 0) (lo := 0) (hi := 0) (by decide)) (by decide)) (hT.up 15 (tA_upd (tX_15 hT) tA_any)) (fr_st hF (by decide) (by decide)) dX6_most_59 (fun C_30 H locs e_31 hT hF hP hD hS => ?_)
        have t_32 := hT
        refine lv_iload hx hb dX6_most_60 (lv_at hl 0 rfl) ?_
        refine lv_iconst (v := (-1)) hx hb dX6_most_62 (by decide) ?_
        refine lv_icmp_ne (tgt := 75) hx hb dX6_most_63 (by decide) (fun (c_33 : ¬ (r_25 = (-1))) => ?_) (fun (c_33 : r_25 = (-1)) => ?_)
        · refine lv_iload hx hb dX6_most_75 (lv_at hl 0 rfl) ?_
          rw [hQ]
          exact W.iret (v := r_25) hx hb hr (fun t ht hW => ⟨⟨r_25, C_30, rfl, ⟨hT, hF, ⟨(by rw [st_ga e_31]; exact upd0 hq_27.1), (fun A hA hok => by have h1 : 0 ≤ x1 ∧ x1 < A 5 0 2 := (by rw [← (show ga (C 10) ((2 : Int32)).toNatClampNeg = A 5 0 2 from hA.1 2 (by decide))]; exact u_10.2); have h7 := hq_27.2 A hA hok h1.2; exact Eq.trans (spOg_eq (mwR_6 h7 c_33) mwR_u) (pif_pos ⟨h1, (oh_rgI (p := 0) (q := 15) (rg_w (lo := 0) (hi := 15) u_20 (by decide))), (oh_rgI (p := 0) (q := 15) (rg_w (lo := 0) (hi := 15) u_24 (by decide)))⟩).symm)⟩⟩, ⟨by rw [ht]; exact hP, hD⟩⟩, hS.F ht⟩) hS.2.2 dX6_most_77
        · refine lv_aload_n hx hb dX6_most_66 rfl (lv_at hl 2 rfl) ?_
          refine lv_bipush (v := (-5)) hx hb dX6_most_67 (by decide) ?_
          refine tm_V (As := [.int (-5)]) (rest := []) ⟨hx, hb, hml, hown, htg⟩ (c_X6_refuse l D E G _ a C_30 hT ((-5) : Int32)) (cwV 1 htg (oh_gV q_296 q_298 q_0 q_66 q_299) rfl rfl rfl pdVX6_refuse ⟨Nat.le_of_ble_eq_true rfl, Nat.le_of_ble_eq_true rfl⟩) hK hP hD hG hS hA (va_recv hK hP (ci := 6) (q0 := 0) rfl (oh_wg (by decide) (sX_0 hT))) rfl hl.1 rfl (Nat.le_of_ble_eq_true rfl) dX6_most_69 ⟨Nat.le_of_ble_eq_true rfl, Nat.le_of_ble_eq_true rfl⟩ (fun r_34 C_35 H locs hq_36 hP hD hS => ?_)
          obtain ⟨hT, f_37, hq_36⟩ := hq_36
          have hF := fr_tr hF f_37 (by decide) (by decide)
          refine W.widen (k := 0) (n := 0) (Nat.le_refl _) (Nat.le_refl _) ?_
          have t_38 := hT
          refine lv_goto (tgt := 77) hx hb dX6_most_72 (by decide) ?_
          rw [hQ]
          exact W.iret (v := r_34) hx hb hr (fun t ht hW => ⟨⟨r_34, C_35, rfl, ⟨hT, hF, ⟨(by rw [(f_37.1 15 rfl (by decide)), st_ga e_31]; exact upd0 hq_27.1), (fun A hA hok => by have h1 : 0 ≤ x1 ∧ x1 < A 5 0 2 := (by rw [← (show ga (C 10) ((2 : Int32)).toNatClampNeg = A 5 0 2 from hA.1 2 (by decide))]; exact u_10.2); have h7 := hq_27.2 A hA hok h1.2; exact Eq.trans (spOg_eq (mwR_5 h7 c_33 hq_36) mwR_u) (pif_pos ⟨h1, (oh_rgI (p := 0) (q := 15) (rg_w (lo := 0) (hi := 15) u_20 (by decide))), (oh_rgI (p := 0) (q := 15) (rg_w (lo := 0) (hi := 15) u_24 (by decide)))⟩).symm)⟩⟩, ⟨by rw [ht]; exact hP, hD⟩⟩, hS.F ht⟩) hS.2.2 dX6_most_77
      · have u_39 := hq_22.2.2 c_23
        refine lv_aload_n hx hb dX6_most_22 rfl (lv_at hl 0 rfl) ?_
        refine lv_bipush (v := (-2)) hx hb dX6_most_23 (by decide) ?_
        refine tm_V (As := [.int (-2)]) (rest := []) ⟨hx, hb, hml, hown, htg⟩ (c_X6_refuse l D E G _ a C hT ((-2) : Int32)) (cwV 1 htg (oh_gV q_296 q_298 q_0 q_66 q_299) rfl rfl rfl pdVX6_refuse ⟨Nat.le_of_ble_eq_true rfl, Nat.le_of_ble_eq_true rfl⟩) hK hP hD hG hS hA (va_recv hK hP (ci := 6) (q0 := 0) rfl (oh_wg (by decide) (sX_0 hT))) rfl hl.1 rfl (Nat.le_of_ble_eq_true rfl) dX6_most_25 ⟨Nat.le_of_ble_eq_true rfl, Nat.le_of_ble_eq_true rfl⟩ (fun r_40 C_41 H locs hq_42 hP hD hS => ?_)
        obtain ⟨hT, f_43, hq_42⟩ := hq_42
        have hF := fr_tr hF f_43 (by decide) (by decide)
        refine W.widen (k := 0) (n := 0) (Nat.le_refl _) (Nat.le_refl _) ?_
        have t_44 := hT
        rw [hQ]
        exact W.iret (v := r_40) hx hb hr (fun t ht hW => ⟨⟨r_40, C_41, rfl, ⟨hT, hF, ⟨(congrArg ga (f_43.1 15 rfl (by decide))), (fun A hA hok => Eq.trans hq_42 (pif_neg (fun h8 => u_39 h8.2.2)).symm)⟩⟩, ⟨by rw [ht]; exact hP, hD⟩⟩, hS.F ht⟩) hS.2.2 dX6_most_28

def mmI (P : Nat → Prop) (be le mo : Int32) : Prop := ((be = -1 ∧ le = 0) ∨ ∃ k : Nat, k ≤ 900 ∧ be = Int32.ofNat k ∧ P k ∧ le.toInt = (k : Int) + 1) ∧ ∀ v : Nat, mo.toInt < (v : Int) → v ≤ 900 → ¬ P v
theorem mm_0 {P : Nat → Prop} : mmI P (-1) 0 900 := ⟨Or.inl ⟨rfl, rfl⟩, fun v hv h9 => by have hv : (900 : Int) < v := hv; omega⟩
theorem mm_y {A : LA} {w f t be le mo x m : Int32} (h : mmI (mwH A w f t) be le mo) (hx : x = m) (hm : rg m 0 900) (q : hasW (EcA (setA A 0 m) w 0 1) f.toNatClampNeg t.toNatClampNeg) : mmI (mwH A w f t) x (x + 1) mo := by
  subst hx
  have n := oh_nat hm (by decide)
  have h2 := hm.2
  refine ⟨Or.inr ⟨x.toNatClampNeg, by omega, (oh_ofc hm (by decide)).symm, (mwH_z hm).mpr q, ?_⟩, h.2⟩
  rw [oh_incr hm (by decide), n]
theorem mm_n {A : LA} (ho : okA A) {w f t be le mo x m : Int32} (h0 : rg w 0 4) (hl : w < A 5 0 2) (h : mmI (mwH A w f t) be le mo) (hx : x = m) (hm : rg m 0 900) (q : ¬ hasW (EcA (setA A 0 m) w 0 1) f.toNatClampNeg t.toNatClampNeg) : mmI (mwH A w f t) be le (x - 1) := by
  subst hx
  have n := oh_nat hm (by decide)
  have h1 := hm.1
  have h2 := hm.2
  have e : (x - 1).toInt = x.toInt - 1 := by
    rw [Int32.toInt_sub]
    exact oh_bmod (by show _ ≤ x.toInt - 1; omega) (by show x.toInt - 1 ≤ _; omega)
  refine ⟨h.1, fun v hv h9 pv => q ((mwH_z hm).mp (mwH_m ho h0 hl h9 ?_ pv))⟩
  rw [e] at hv
  omega
theorem mm_e {P : Nat → Prop} {be le mo : Int32} (h : mmI P be le mo) (c : mo < le) : mwR P (-1) be := by
  have c2 := Int32.lt_iff_toInt_lt.mp c
  rcases h with ⟨⟨h1, h2⟩ | ⟨k, h1, h2, h3, h4⟩, h5⟩
  · have e : (0 : Int32).toInt = 0 := rfl
    rw [h2] at c2
    exact Or.inl ⟨h1, fun v hv => h5 v (by omega) hv⟩
  · exact Or.inr ⟨k, h1, h2, h3, fun v hv => h5 v (by omega)⟩

set_option maxHeartbeats 4000000 in
set_option maxRecDepth 100000 in
theorem e2_X7_most (l : Launch) (D : va_G) (E : Nat → ClassId) (G : Nat → Nat) (sz : Nat) (a : Nat → Nat) (C : Nat → va_E) (n : Nat) (hn : 74 ≤ n) (hT : TyM a E C) (x1 : Int32) (x2 : Int32) (x3 : Int32) (hR : RelM C) : Met l yX7_most (oh_w yX7_most cX7_most 8 (some .int)) ({ frames := 7, cells := 0, slots := 0, locals := 177 }) (oh_Pm D E G [.ref (a 0), .int x1, .int x2, .int x3] (oh_W n a C) sz) (va_Qi (fun r (u : Nat → va_E) => TyM a E u ∧ fr [(8, 9), (13, 14), (15, 16)] [] C u ∧ (RelM u) ∧ (ga (u 13) = ga (C 13)) ∧ (∀ A : LA, absM C A → okA A → r = spMost A x1 x2 x3)) (oh_B D (va_A (oh_W n a C) sz) (fun u => oh_W n a u)) (va_A (oh_W n a C) sz)) 0 0 (va_A (oh_W n a C) sz) := by
  refine Met.ofW (cc := cX7_most) (maxL := 8) (ret := (some .int)) (by decide) rfl ?_
  intro p e s m args below meth c s₁ B hml hv
  obtain ⟨rfl, hsz, hP, hK, hD0, hG⟩ := hv
  have hx := B.exec
  have hb := B.bytes
  have hr := B.returns
  have hts := atoms_spec (ws := (oh_w yX7_most cX7_most 8 (some .int))) B.pre
  have htg : ∀ w ∈ oh_t, w.before _ s = true := fun w h => hts w (List.mem_cons_of_mem _ h)
  have hown : s.vm.findClass RX7 = some m.cls := findClass_of_methodNamed B.named
  have hlocks := B.notSynchronized
  have hT0 := hT
  subst hsz
  have hD := hD0.self (sz := s.heap.size)
  generalize hAe : va_A (oh_W n a C) s.heap.size = A at hD hG ⊢
  have hA : ∀ q : Nat, s.heap.size ≤ q → A q := fun q h => by rw [← hAe]; exact Or.inr h
  have hS : va_S A s.heap s.heap [] := va_S.rf
  have hF : fr [(8, 9), (13, 14), (15, 16)] [] C C := fr_rf
  have hl := lv_entry ([.ref (a 0), .int x1, .int x2, .int x3]) (n := 8) (Nat.le_of_ble_eq_true rfl)
  rw [lg_entry_eq]
  generalize (lg_sl ([.ref (a 0), .int x1, .int x2, .int x3]) ++ List.replicate (8 - (lg_sl ([.ref (a 0), .int x1, .int x2, .int x3])).length) Slot.unset).toArray = ls at hl ⊢
  have hl : lv_has ls 8 [(0, .ref (a 0)), (1, .int x1), (2, .int x2), (3, .int x3)] := hl
  refine oh_genQ (fun Q hQ => ?_)
  refine lv_aload_n hx hb dX7_most_0 rfl (lv_at hl 0 rfl) ?_
  refine lv_iload_n hx hb dX7_most_1 rfl (lv_at hl 1 rfl) ?_
  refine tq_V (As := [.int x1]) (rest := []) (ws := (oh_W n a C)) ⟨hx, hb, hml, hown, htg⟩ (e_X7_isWaggon l D E G a C n hn hT x1 hR.1) (cwV 1 htg (oh_gV q_1278 q_1280 q_48 q_73 q_1281) rfl rfl rfl pdVX7_isWaggon ⟨Nat.le_of_ble_eq_true rfl, Nat.le_of_ble_eq_true rfl⟩) hK hP hG hS (va_recv hK hP (ci := 7) (q0 := 0) rfl (oh_wg (Nat.lt_of_lt_of_le (by decide) hn) (sM_0 hT))) rfl hl.1 rfl (Nat.le_of_ble_eq_true rfl) dX7_most_2 ⟨Nat.le_of_ble_eq_true rfl, Nat.le_of_ble_eq_true rfl⟩ (fun r_1 hq_2 => ?_)
  refine lv_if_eq (tgt := 22) hx hb dX7_most_5 (by decide) (fun (c_3 : r_1 = 0) => ?_) (fun (c_3 : ¬ (r_1 = 0)) => ?_)
  · have u_4 := hq_2.2.2 c_3
    refine lv_aload_n hx hb dX7_most_22 rfl (lv_at hl 0 rfl) ?_
    refine lv_bipush (v := (-2)) hx hb dX7_most_23 (by decide) ?_
    refine tm_V (As := [.int (-2)]) (rest := []) ⟨hx, hb, hml, hown, htg⟩ (c_X7_refuse l D E G _ a C n hn hT ((-2) : Int32) (rg_w (rg_c (v := (-2)) (lo := (-2)) (hi := (-2)) (by decide)) (by decide))) (cwV 1 htg (oh_gV q_1071 q_1073 q_29 q_73 q_1074) rfl rfl rfl pdVX7_refuse ⟨Nat.le_of_ble_eq_true rfl, Nat.le_of_ble_eq_true rfl⟩) hK hP hD hG hS hA (va_recv hK hP (ci := 7) (q0 := 0) rfl (oh_wg (Nat.lt_of_lt_of_le (by decide) hn) (sM_0 hT))) rfl hl.1 rfl (Nat.le_of_ble_eq_true rfl) dX7_most_25 ⟨Nat.le_of_ble_eq_true rfl, Nat.le_of_ble_eq_true rfl⟩ (fun r_5 C_6 H locs hq_7 hP hD hS => ?_)
    obtain ⟨hT, f_8, hq_7⟩ := hq_7
    have hF := fr_tr hF f_8 (by decide) (by decide)
    refine W.widen (k := 0) (n := 0) (Nat.le_refl _) (Nat.le_refl _) ?_
    have t_9 := hT
    rw [hQ]
    exact W.iret (v := r_5) hx hb hr (fun t ht hW => ⟨⟨r_5, C_6, rfl, ⟨hT, hF, ⟨⟨hR.1.fr hF (by decide), hR.2.fr hF (by decide)⟩, (congrArg ga (f_8.1 13 rfl (by decide))), (fun A hA hok => Eq.trans hq_7 (pif_neg (fun h8 => by have h7 := h8.1; rw [← (show gi (C 0) 13 = A 5 0 2 from hA.1 2 (by decide))] at h7; exact u_4 h7)).symm)⟩⟩, ⟨by rw [ht]; exact hP, hD⟩⟩, hS.F ht⟩) hS.2.2 dX7_most_28
  · have u_10 := hq_2.2.1 c_3
    refine lv_iload_n hx hb dX7_most_8 rfl (lv_at hl 2 rfl) ?_
    refine tq_S (As := [.int x2]) (rest := []) (ws := []) ⟨hx, hb, hml, hown, htg⟩ (e_X7_isPlace l D E G x2) (va_cwS 1 htg (oh_gS q_1130 q_1131 q_73 q_1132) rfl rfl rfl pdX7_isPlace ⟨Nat.le_of_ble_eq_true rfl, Nat.le_of_ble_eq_true rfl⟩) hK va_nil hG hS rfl hl.1 rfl (Nat.le_of_ble_eq_true rfl) dX7_most_9 ⟨Nat.le_of_ble_eq_true rfl, Nat.le_of_ble_eq_true rfl⟩ (fun r_11 hq_12 => ?_)
    refine lv_if_eq (tgt := 22) hx hb dX7_most_12 (by decide) (fun (c_13 : r_11 = 0) => ?_) (fun (c_13 : ¬ (r_11 = 0)) => ?_)
    · have u_14 := hq_12.2.2 c_13
      refine lv_aload_n hx hb dX7_most_22 rfl (lv_at hl 0 rfl) ?_
      refine lv_bipush (v := (-2)) hx hb dX7_most_23 (by decide) ?_
      refine tm_V (As := [.int (-2)]) (rest := []) ⟨hx, hb, hml, hown, htg⟩ (c_X7_refuse l D E G _ a C n hn hT ((-2) : Int32) (rg_w (rg_c (v := (-2)) (lo := (-2)) (hi := (-2)) (by decide)) (by decide))) (cwV 1 htg (oh_gV q_1071 q_1073 q_29 q_73 q_1074) rfl rfl rfl pdVX7_refuse ⟨Nat.le_of_ble_eq_true rfl, Nat.le_of_ble_eq_true rfl⟩) hK hP hD hG hS hA (va_recv hK hP (ci := 7) (q0 := 0) rfl (oh_wg (Nat.lt_of_lt_of_le (by decide) hn) (sM_0 hT))) rfl hl.1 rfl (Nat.le_of_ble_eq_true rfl) dX7_most_25 ⟨Nat.le_of_ble_eq_true rfl, Nat.le_of_ble_eq_true rfl⟩ (fun r_15 C_16 H locs hq_17 hP hD hS => ?_)
      obtain ⟨hT, f_18, hq_17⟩ := hq_17
      have hF := fr_tr hF f_18 (by decide) (by decide)
      refine W.widen (k := 0) (n := 0) (Nat.le_refl _) (Nat.le_refl _) ?_
      have t_19 := hT
      rw [hQ]
      exact W.iret (v := r_15) hx hb hr (fun t ht hW => ⟨⟨r_15, C_16, rfl, ⟨hT, hF, ⟨⟨hR.1.fr hF (by decide), hR.2.fr hF (by decide)⟩, (congrArg ga (f_18.1 13 rfl (by decide))), (fun A hA hok => Eq.trans hq_17 (pif_neg (fun h8 => u_14 h8.2.1)).symm)⟩⟩, ⟨by rw [ht]; exact hP, hD⟩⟩, hS.F ht⟩) hS.2.2 dX7_most_28
    · have u_20 := hq_12.2.1 c_13
      refine lv_iload_n hx hb dX7_most_15 rfl (lv_at hl 3 rfl) ?_
      refine tq_S (As := [.int x3]) (rest := []) (ws := []) ⟨hx, hb, hml, hown, htg⟩ (e_X7_isPlace l D E G x3) (va_cwS 1 htg (oh_gS q_1130 q_1131 q_73 q_1132) rfl rfl rfl pdX7_isPlace ⟨Nat.le_of_ble_eq_true rfl, Nat.le_of_ble_eq_true rfl⟩) hK va_nil hG hS rfl hl.1 rfl (Nat.le_of_ble_eq_true rfl) dX7_most_16 ⟨Nat.le_of_ble_eq_true rfl, Nat.le_of_ble_eq_true rfl⟩ (fun r_21 hq_22 => ?_)
      refine lv_if_ne (tgt := 29) hx hb dX7_most_19 (by decide) (fun (c_23 : ¬ (r_21 = 0)) => ?_) (fun (c_23 : r_21 = 0) => ?_)
      · have u_24 := hq_22.2.1 c_23
        refine lv_aload_n hx hb dX7_most_29 rfl (lv_at hl 0 rfl) ?_
        refine va_get (D := D) (ci := 7) (v := .ref (a 13)) (C := RX7) (T := TX7) (N := 29) hx hb htg ig_7 hown hK hP 0 (oh_wg (Nat.lt_of_lt_of_le (by decide) hn) (sM_0 hT)) rfl 17 (by decide) (htg _ q_990) (fun _ h9 => h9) rfl dX7_most_30 ?_
        refine lv_iconst (v := 0) hx hb dX7_most_33 (by decide) ?_
        refine th_iald hx hb hK hP 13 (Nat.lt_of_lt_of_le (by decide) hn) (sM_13 hT) (rg_in (rg_c (v := 0) (lo := 0) (hi := 0) (by decide)) (by decide)) dX7_most_34 ?_
        refine lv_istore (lv' := [(4, .int (ga (C 13) ((0 : Int32)).toNatClampNeg)), (0, .ref (a 0)), (1, .int x1), (2, .int x2), (3, .int x3)]) hx hb dX7_most_35 hl (by decide) rfl (fun ls hl => ?_)
        refine lv_iconst (v := (-1)) hx hb dX7_most_37 (by decide) ?_
        refine lv_istore (lv' := [(5, .int (-1)), (4, .int (ga (C 13) ((0 : Int32)).toNatClampNeg)), (0, .ref (a 0)), (1, .int x1), (2, .int x2), (3, .int x3)]) hx hb dX7_most_38 hl (by decide) rfl (fun ls hl => ?_)
        refine lv_iconst (v := 0) hx hb dX7_most_40 (by decide) ?_
        refine lv_istore (lv' := [(6, .int 0), (5, .int (-1)), (4, .int (ga (C 13) ((0 : Int32)).toNatClampNeg)), (0, .ref (a 0)), (1, .int x1), (2, .int x2), (3, .int x3)]) hx hb dX7_most_41 hl (by decide) rfl (fun ls hl => ?_)
        refine lv_sipush (v := 900) hx hb dX7_most_43 (by decide) ?_
        refine lv_istore (lv' := [(7, .int 900), (6, .int 0), (5, .int (-1)), (4, .int (ga (C 13) ((0 : Int32)).toNatClampNeg)), (0, .ref (a 0)), (1, .int x1), (2, .int x2), (3, .int x3)]) hx hb dX7_most_46 hl (by decide) rfl (fun ls hl => ?_)
        have L_48 : ∀ (d : Nat) (K48 : Nat → va_E) (z48_7 : Int32) (z48_6 : Int32) (z48_5 : Int32) (H : Heap) (locs : List Loc) (ls : Array Slot), (z48_7.toInt - z48_6.toInt + 1).toNat = d → rg z48_7 (-1) 900 → rg z48_6 0 901 → (∀ j, j ≠ 0 → ga (K48 13) j = ga (C 13) j) → (∀ A : LA, absM C A → okA A → x1 < A 5 0 2 → mmI (mwH A x1 x2 x3) z48_5 z48_6 z48_7) → TyM a E K48 → fr [(8, 9), (13, 14), (15, 16)] [] C K48 → fr [(13, 14), (15, 16)] [] C K48 → va_P D vwCl (oh_W n a K48) H → va_D A (oh_W n a K48) → va_S A s.heap H locs → lv_has ls 8 [(7, .int z48_7), (6, .int z48_6), (5, .int z48_5), (4, .int (ga (C 13) ((0 : Int32)).toNatClampNeg)), (0, .ref (a 0)), (1, .int x1), (2, .int x2), (3, .int x3)] → W p l e ({ frames := 7, cells := 0, slots := 0, locals := 177 }) s m (([.ref (a 0), .int x1, .int x2, .int x3] : List Value).toArray) below meth c H locs 0 0 Q (F0 m 48 ls []) := by
          intro d
          induction d using Nat.strongRecOn with
          | ind d ih_48 =>
          intro K48 z48_7 z48_6 z48_5 H locs ls hd_48 hz48_7 hz48_6 hx_48 hv_48 hT hF hLF_48 hP hD hS hl
          have t_25 := hT
          refine lv_iload hx hb dX7_most_48 (lv_at hl 1 rfl) ?_
          refine lv_iload hx hb dX7_most_50 (lv_at hl 0 rfl) ?_
          refine lv_icmp_gt (tgt := 115) hx hb dX7_most_52 (by decide) (fun (c_26 : z48_7 < z48_6) => ?_) (fun (c_26 : ¬ (z48_7 < z48_6)) => ?_)
          · refine lv_aload_n hx hb dX7_most_115 rfl (lv_at hl 4 rfl) ?_
            refine va_get (D := D) (ci := 7) (v := .ref (a 13)) (C := RX7) (T := TX7) (N := 29) hx hb htg ig_7 hown hK hP 0 (oh_wg (Nat.lt_of_lt_of_le (by decide) hn) (sM_0 hT)) rfl 17 (by decide) (htg _ q_990) (fun _ h9 => h9) rfl dX7_most_116 ?_
            refine lv_iconst (v := 0) hx hb dX7_most_119 (by decide) ?_
            refine lv_iload hx hb dX7_most_120 (lv_at hl 3 rfl) ?_
            refine th_iast (T := TyM a E) (Rl := fr [(8, 9), (13, 14), (15, 16)] [] C) hx hb hK hP hD hS 13 (Nat.lt_of_lt_of_le (by decide) hn) (sM_13 hT) (rg_in (rg_c (v := 0) (lo := 0) (hi := 0) (by decide)) (by decide)) (hT.up 13 (by decide) (tA_upd (tM_13 hT) tA_any)) (fr_st hF (by decide) (by decide)) dX7_most_122 (fun C_27 H locs e_28 hT hF hP hD hS => ?_)
            have t_29 := hT
            refine lv_iload hx hb dX7_most_123 (lv_at hl 2 rfl) ?_
            refine lv_iconst (v := (-1)) hx hb dX7_most_125 (by decide) ?_
            refine lv_icmp_ne (tgt := 138) hx hb dX7_most_126 (by decide) (fun (c_30 : ¬ (z48_5 = (-1))) => ?_) (fun (c_30 : z48_5 = (-1)) => ?_)
            · refine lv_iload hx hb dX7_most_138 (lv_at hl 2 rfl) ?_
              rw [hQ]
              exact W.iret (v := z48_5) hx hb hr (fun t ht hW => ⟨⟨z48_5, C_27, rfl, ⟨hT, hF, ⟨⟨hR.1.fr hF (by decide), hR.2.fr hF (by decide)⟩, (by rw [st_ga e_28]; exact upd0 (fun j hj => (hx_48 j hj))), (fun A hA hok => by have h1 : 0 ≤ x1 ∧ x1 < A 5 0 2 := (by rw [← (show gi (C 0) 13 = A 5 0 2 from hA.1 2 (by decide))]; exact u_10.2.2.2); have h7 := mm_e (hv_48 A hA hok h1.2) c_26; exact Eq.trans (spOg_eq (mwR_6 h7 c_30) mwR_u) (pif_pos ⟨h1, (oh_rgI (p := 0) (q := 15) (rg_w (lo := 0) (hi := 15) u_20 (by decide))), (oh_rgI (p := 0) (q := 15) (rg_w (lo := 0) (hi := 15) u_24 (by decide)))⟩).symm)⟩⟩, ⟨by rw [ht]; exact hP, hD⟩⟩, hS.F ht⟩) hS.2.2 dX7_most_140
            · refine lv_aload_n hx hb dX7_most_129 rfl (lv_at hl 4 rfl) ?_
              refine lv_bipush (v := (-5)) hx hb dX7_most_130 (by decide) ?_
              refine tm_V (As := [.int (-5)]) (rest := []) ⟨hx, hb, hml, hown, htg⟩ (c_X7_refuse l D E G _ a C_27 n hn hT ((-5) : Int32) (rg_w (rg_c (v := (-5)) (lo := (-5)) (hi := (-5)) (by decide)) (by decide))) (cwV 1 htg (oh_gV q_1071 q_1073 q_29 q_73 q_1074) rfl rfl rfl pdVX7_refuse ⟨Nat.le_of_ble_eq_true rfl, Nat.le_of_ble_eq_true rfl⟩) hK hP hD hG hS hA (va_recv hK hP (ci := 7) (q0 := 0) rfl (oh_wg (Nat.lt_of_lt_of_le (by decide) hn) (sM_0 hT))) rfl hl.1 rfl (Nat.le_of_ble_eq_true rfl) dX7_most_132 ⟨Nat.le_of_ble_eq_true rfl, Nat.le_of_ble_eq_true rfl⟩ (fun r_31 C_32 H locs hq_33 hP hD hS => ?_)
              obtain ⟨hT, f_34, hq_33⟩ := hq_33
              have hF := fr_tr hF f_34 (by decide) (by decide)
              refine W.widen (k := 0) (n := 0) (Nat.le_refl _) (Nat.le_refl _) ?_
              have t_35 := hT
              refine lv_goto (tgt := 140) hx hb dX7_most_135 (by decide) ?_
              rw [hQ]
              exact W.iret (v := r_31) hx hb hr (fun t ht hW => ⟨⟨r_31, C_32, rfl, ⟨hT, hF, ⟨⟨hR.1.fr hF (by decide), hR.2.fr hF (by decide)⟩, (by rw [(f_34.1 13 rfl (by decide)), st_ga e_28]; exact upd0 (fun j hj => (hx_48 j hj))), (fun A hA hok => by have h1 : 0 ≤ x1 ∧ x1 < A 5 0 2 := (by rw [← (show gi (C 0) 13 = A 5 0 2 from hA.1 2 (by decide))]; exact u_10.2.2.2); have h7 := mm_e (hv_48 A hA hok h1.2) c_26; exact Eq.trans (spOg_eq (mwR_5 h7 c_30 hq_33) mwR_u) (pif_pos ⟨h1, (oh_rgI (p := 0) (q := 15) (rg_w (lo := 0) (hi := 15) u_20 (by decide))), (oh_rgI (p := 0) (q := 15) (rg_w (lo := 0) (hi := 15) u_24 (by decide)))⟩).symm)⟩⟩, ⟨by rw [ht]; exact hP, hD⟩⟩, hS.F ht⟩) hS.2.2 dX7_most_140
          · refine lv_aload_n hx hb dX7_most_55 rfl (lv_at hl 4 rfl) ?_
            refine va_get (D := D) (ci := 7) (v := .ref (a 13)) (C := RX7) (T := TX7) (N := 29) hx hb htg ig_7 hown hK hP 0 (oh_wg (Nat.lt_of_lt_of_le (by decide) hn) (sM_0 hT)) rfl 17 (by decide) (htg _ q_990) (fun _ h9 => h9) rfl dX7_most_56 ?_
            refine lv_iconst (v := 0) hx hb dX7_most_59 (by decide) ?_
            refine lv_iload hx hb dX7_most_60 (lv_at hl 1 rfl) ?_
            refine lv_iload hx hb dX7_most_62 (lv_at hl 0 rfl) ?_
            refine lv_iadd hx hb dX7_most_64 ?_
            refine lv_iconst (v := 2) hx hb dX7_most_65 (by decide) ?_
            refine lv_idiv hx hb dX7_most_66 (by decide) ?_
            refine th_iast (T := TyM a E) (Rl := fr [(8, 9), (13, 14), (15, 16)] [] C) hx hb hK hP hD hS 13 (Nat.lt_of_lt_of_le (by decide) hn) (sM_13 hT) (rg_in (rg_c (v := 0) (lo := 0) (hi := 0) (by decide)) (by decide)) (hT.up 13 (by decide) (tA_upd (tM_13 hT) tA_any)) (fr_st hF (by decide) (by decide)) dX7_most_67 (fun C_36 H locs e_37 hT hF hP hD hS => ?_)
            have t_38 := hT
            refine lv_aload_n hx hb dX7_most_68 rfl (lv_at hl 4 rfl) ?_
            refine lv_iload_n hx hb dX7_most_69 rfl (lv_at hl 5 rfl) ?_
            refine lv_iconst (v := 0) hx hb dX7_most_70 (by decide) ?_
            refine lv_iload_n hx hb dX7_most_71 rfl (lv_at hl 6 rfl) ?_
            refine lv_iload_n hx hb dX7_most_72 rfl (lv_at hl 7 rfl) ?_
            refine lv_iconst (v := 1) hx hb dX7_most_73 (by decide) ?_
            refine tm_V (As := [.int x1, .int 0, .int x2, .int x3, .int 1]) (rest := []) ⟨hx, hb, hml, hown, htg⟩ (e_X7_cheapestOf l D E G _ a C_36 n hn hT x1 (0 : Int32) x2 x3 (1 : Int32) (rg_w u_10.1 (by decide)) (rg_w u_20 (by decide)) (rg_w u_24 (by decide)) (oh_posU (rg_w u_10.1 (by decide)) (fun i hi => th_un e_37 (by omega)) (oh_posU (rg_w u_10.1 (by decide)) (fun i hi => hLF_48.1 _ (inR_out hi (by decide)) (by omega)) u_10.2.1))) (cwV 5 htg (oh_gV q_1347 q_1349 q_59 q_73 q_1350) rfl rfl rfl pdVX7_cheapestOf ⟨Nat.le_of_ble_eq_true rfl, Nat.le_of_ble_eq_true rfl⟩) hK hP hD hG hS hA (va_recv hK hP (ci := 7) (q0 := 0) rfl (oh_wg (Nat.lt_of_lt_of_le (by decide) hn) (sM_0 hT))) rfl hl.1 rfl (Nat.le_of_ble_eq_true rfl) dX7_most_74 ⟨Nat.le_of_ble_eq_true rfl, Nat.le_of_ble_eq_true rfl⟩ (fun r_39 C_40 H locs hq_41 hP hD hS => ?_)
            obtain ⟨hT, f_42, hq_41⟩ := hq_41
            have hF := fr_tr hF f_42 (by decide) (by decide)
            refine W.widen (k := 0) (n := 0) (Nat.le_refl _) (Nat.le_refl _) ?_
            have t_43 := hT
            refine lv_iconst (v := (-1)) hx hb dX7_most_77 (by decide) ?_
            refine lv_icmp_eq (tgt := 102) hx hb dX7_most_78 (by decide) (fun (c_44 : r_39 = (-1)) => ?_) (fun (c_44 : ¬ (r_39 = (-1))) => ?_)
            · refine lv_aload_n hx hb dX7_most_102 rfl (lv_at hl 4 rfl) ?_
              refine va_get (D := D) (ci := 7) (v := .ref (a 13)) (C := RX7) (T := TX7) (N := 29) hx hb htg ig_7 hown hK hP 0 (oh_wg (Nat.lt_of_lt_of_le (by decide) hn) (sM_0 hT)) rfl 17 (by decide) (htg _ q_990) (fun _ h9 => h9) rfl dX7_most_103 ?_
              refine lv_iconst (v := 0) hx hb dX7_most_106 (by decide) ?_
              refine th_iald hx hb hK hP 13 (Nat.lt_of_lt_of_le (by decide) hn) (Eq.trans (f_42.1 13 rfl (by decide)) (sM_13 t_38)) (rg_in (rg_c (v := 0) (lo := 0) (hi := 0) (by decide)) (by decide)) dX7_most_107 ?_
              refine lv_iconst (v := 1) hx hb dX7_most_108 (by decide) ?_
              refine lv_isub hx hb dX7_most_109 ?_
              refine lv_istore (lv' := [(7, .int ((ga (C_36 13) ((0 : Int32)).toNatClampNeg) - 1)), (6, .int z48_6), (5, .int z48_5), (4, .int (ga (C 13) ((0 : Int32)).toNatClampNeg)), (0, .ref (a 0)), (1, .int x1), (2, .int x2), (3, .int x3)]) hx hb dX7_most_110 hl (by decide) rfl (fun ls hl => ?_)
              refine lv_goto (tgt := 48) hx hb dX7_most_112 (by decide) ?_
              exact ih_48 _ (hd_48 ▸ (oh_midd (by rw [st_ga e_37]; exact pk_us) (oh_mid hz48_6 hz48_7 (Int32.not_lt.mp c_26))).2) C_40 ((ga (C_36 13) ((0 : Int32)).toNatClampNeg) - 1) z48_6 z48_5 _ _ ls rfl (oh_midd (p := z48_6) (by rw [st_ga e_37]; exact pk_us) (oh_mid hz48_6 hz48_7 (Int32.not_lt.mp c_26))).1 hz48_6 (fun j hj => (Eq.trans (congrArg (fun z => ga z j) (f_42.1 13 rfl (by decide))) (Eq.trans (show ga (C_36 13) j = ga (K48 13) j by rw [st_ga e_37]; exact pk_un hj) (hx_48 j hj)))) (fun A hA hok hl => by have hm := (oh_mid hz48_6 hz48_7 (Int32.not_lt.mp c_26)); have hw := (mc_w (ok_set hok (fun _ => hm.1) (fun e => absurd e (by decide)) (fun e => absurd e (by decide))) (rg_w (lo := 0) (hi := 4) u_10.1 (by decide)) (set_52 hl) (rg_w (lo := 0) (hi := 15) u_20 (by decide)) (rg_w (lo := 0) (hi := 15) u_24 (by decide)) (hq_41 (setA A 0 ((z48_6 + z48_7) / 2)) (absM_sk 0 (v := (z48_6 + z48_7) / 2) hA hT0 (show fr [(13, 14), (15, 16)] [] C C_36 from (fr_ste (fr_tr fr_rf hLF_48 (by decide) (by decide)) e_37 (by decide) (by decide))) (by rw [st_ga e_37]; exact pk_us) (fun j hj => (Eq.trans (show ga (C_36 13) j = ga (K48 13) j by rw [st_ga e_37]; exact pk_un hj) (hx_48 j hj))) (by decide) (by decide)) (ok_set hok (fun _ => hm.1) (fun e => absurd e (by decide)) (fun e => absurd e (by decide))) (set_52 hl) ⟨by decide, by decide⟩)); exact mm_n hok (rg_w (lo := 0) (hi := 4) u_10.1 (by decide)) hl (hv_48 A hA hok hl) (by rw [st_ga e_37]; exact pk_us) hm.1 (hw.mp c_44)) hT hF (fr_tr (fr_ste hLF_48 e_37 (by decide) (by decide)) f_42 (by decide) (by decide)) hP hD hS (lv_sub hl [0, 1, 2, 3, 4, 5, 6, 7] rfl)
            · refine lv_aload_n hx hb dX7_most_81 rfl (lv_at hl 4 rfl) ?_
              refine va_get (D := D) (ci := 7) (v := .ref (a 13)) (C := RX7) (T := TX7) (N := 29) hx hb htg ig_7 hown hK hP 0 (oh_wg (Nat.lt_of_lt_of_le (by decide) hn) (sM_0 hT)) rfl 17 (by decide) (htg _ q_990) (fun _ h9 => h9) rfl dX7_most_82 ?_
              refine lv_iconst (v := 0) hx hb dX7_most_85 (by decide) ?_
              refine th_iald hx hb hK hP 13 (Nat.lt_of_lt_of_le (by decide) hn) (Eq.trans (f_42.1 13 rfl (by decide)) (sM_13 t_38)) (rg_in (rg_c (v := 0) (lo := 0) (hi := 0) (by decide)) (by decide)) dX7_most_86 ?_
              refine lv_istore (lv' := [(5, .int (ga (C_36 13) ((0 : Int32)).toNatClampNeg)), (7, .int z48_7), (6, .int z48_6), (4, .int (ga (C 13) ((0 : Int32)).toNatClampNeg)), (0, .ref (a 0)), (1, .int x1), (2, .int x2), (3, .int x3)]) hx hb dX7_most_87 hl (by decide) rfl (fun ls hl => ?_)
              refine lv_aload_n hx hb dX7_most_89 rfl (lv_at hl 4 rfl) ?_
              refine va_get (D := D) (ci := 7) (v := .ref (a 13)) (C := RX7) (T := TX7) (N := 29) hx hb htg ig_7 hown hK hP 0 (oh_wg (Nat.lt_of_lt_of_le (by decide) hn) (sM_0 hT)) rfl 17 (by decide) (htg _ q_990) (fun _ h9 => h9) rfl dX7_most_90 ?_
              refine lv_iconst (v := 0) hx hb dX7_most_93 (by decide) ?_
              refine th_iald hx hb hK hP 13 (Nat.lt_of_lt_of_le (by decide) hn) (Eq.trans (f_42.1 13 rfl (by decide)) (sM_13 t_38)) (rg_in (rg_c (v := 0) (lo := 0) (hi := 0) (by decide)) (by decide)) dX7_most_94 ?_
              refine lv_iconst (v := 1) hx hb dX7_most_95 (by decide) ?_
              refine lv_iadd hx hb dX7_most_96 ?_
              refine lv_istore (lv' := [(6, .int ((ga (C_36 13) ((0 : Int32)).toNatClampNeg) + 1)), (5, .int (ga (C_36 13) ((0 : Int32)).toNatClampNeg)), (7, .int z48_7), (4, .int (ga (C 13) ((0 : Int32)).toNatClampNeg)), (0, .ref (a 0)), (1, .int x1), (2, .int x2), (3, .int x3)]) hx hb dX7_most_97 hl (by decide) rfl (fun ls hl => ?_)
              refine lv_goto (tgt := 48) hx hb dX7_most_99 (by decide) ?_
              exact ih_48 _ (hd_48 ▸ (oh_midu (by rw [st_ga e_37]; exact pk_us) (oh_mid hz48_6 hz48_7 (Int32.not_lt.mp c_26))).2) C_40 z48_7 ((ga (C_36 13) ((0 : Int32)).toNatClampNeg) + 1) (ga (C_36 13) ((0 : Int32)).toNatClampNeg) _ _ ls rfl hz48_7 (oh_midu (q := z48_7) (by rw [st_ga e_37]; exact pk_us) (oh_mid hz48_6 hz48_7 (Int32.not_lt.mp c_26))).1 (fun j hj => (Eq.trans (congrArg (fun z => ga z j) (f_42.1 13 rfl (by decide))) (Eq.trans (show ga (C_36 13) j = ga (K48 13) j by rw [st_ga e_37]; exact pk_un hj) (hx_48 j hj)))) (fun A hA hok hl => by have hm := (oh_mid hz48_6 hz48_7 (Int32.not_lt.mp c_26)); have hw := (mc_w (ok_set hok (fun _ => hm.1) (fun e => absurd e (by decide)) (fun e => absurd e (by decide))) (rg_w (lo := 0) (hi := 4) u_10.1 (by decide)) (set_52 hl) (rg_w (lo := 0) (hi := 15) u_20 (by decide)) (rg_w (lo := 0) (hi := 15) u_24 (by decide)) (hq_41 (setA A 0 ((z48_6 + z48_7) / 2)) (absM_sk 0 (v := (z48_6 + z48_7) / 2) hA hT0 (show fr [(13, 14), (15, 16)] [] C C_36 from (fr_ste (fr_tr fr_rf hLF_48 (by decide) (by decide)) e_37 (by decide) (by decide))) (by rw [st_ga e_37]; exact pk_us) (fun j hj => (Eq.trans (show ga (C_36 13) j = ga (K48 13) j by rw [st_ga e_37]; exact pk_un hj) (hx_48 j hj))) (by decide) (by decide)) (ok_set hok (fun _ => hm.1) (fun e => absurd e (by decide)) (fun e => absurd e (by decide))) (set_52 hl) ⟨by decide, by decide⟩)); exact mm_y (hv_48 A hA hok hl) (by rw [st_ga e_37]; exact pk_us) hm.1 (Classical.byContradiction (fun q => c_44 (hw.mpr q)))) hT hF (fr_tr (fr_ste hLF_48 e_37 (by decide) (by decide)) f_42 (by decide) (by decide)) hP hD hS (lv_sub hl [2, 0, 1, 3, 4, 5, 6, 7] rfl)
        exact L_48 _ C 900 0 (-1) _ _ ls rfl (rg_w (rg_c (v := 900) (lo := 900) (hi := 900) (by decide)) (by decide)) (rg_w (rg_c (v := 0) (lo := 0) (hi := 0) (by decide)) (by decide)) (fun j hj => rfl) (fun A hA hok hl => mm_0) hT hF fr_rf hP hD hS (lv_sub hl [0, 1, 2, 3, 4, 5, 6, 7] rfl)
      · have u_45 := hq_22.2.2 c_23
        refine lv_aload_n hx hb dX7_most_22 rfl (lv_at hl 0 rfl) ?_
        refine lv_bipush (v := (-2)) hx hb dX7_most_23 (by decide) ?_
        refine tm_V (As := [.int (-2)]) (rest := []) ⟨hx, hb, hml, hown, htg⟩ (c_X7_refuse l D E G _ a C n hn hT ((-2) : Int32) (rg_w (rg_c (v := (-2)) (lo := (-2)) (hi := (-2)) (by decide)) (by decide))) (cwV 1 htg (oh_gV q_1071 q_1073 q_29 q_73 q_1074) rfl rfl rfl pdVX7_refuse ⟨Nat.le_of_ble_eq_true rfl, Nat.le_of_ble_eq_true rfl⟩) hK hP hD hG hS hA (va_recv hK hP (ci := 7) (q0 := 0) rfl (oh_wg (Nat.lt_of_lt_of_le (by decide) hn) (sM_0 hT))) rfl hl.1 rfl (Nat.le_of_ble_eq_true rfl) dX7_most_25 ⟨Nat.le_of_ble_eq_true rfl, Nat.le_of_ble_eq_true rfl⟩ (fun r_46 C_47 H locs hq_48 hP hD hS => ?_)
        obtain ⟨hT, f_49, hq_48⟩ := hq_48
        have hF := fr_tr hF f_49 (by decide) (by decide)
        refine W.widen (k := 0) (n := 0) (Nat.le_refl _) (Nat.le_refl _) ?_
        have t_50 := hT
        rw [hQ]
        exact W.iret (v := r_46) hx hb hr (fun t ht hW => ⟨⟨r_46, C_47, rfl, ⟨hT, hF, ⟨⟨hR.1.fr hF (by decide), hR.2.fr hF (by decide)⟩, (congrArg ga (f_49.1 13 rfl (by decide))), (fun A hA hok => Eq.trans hq_48 (pif_neg (fun h8 => u_45 h8.2.2)).symm)⟩⟩, ⟨by rw [ht]; exact hP, hD⟩⟩, hS.F ht⟩) hS.2.2 dX7_most_28
theorem pdX7_overAll : yX7_overAll.cls ≠ "java/lang/invoke/MethodHandle" ∧ yX7_overAll.cls ≠ "java/lang/invoke/VarHandle" ∧ (parseMethodDescriptor yX7_overAll.desc).map (fun d => d.parameters.length) = some 2 := by decide +kernel
