theorem lc_v {A : LA} (h : okA A) {w s f t n : Int32} (h0 : rg w 0 4) (hl : w < A 5 0 2) (hn : rg n 0 20) (hf : rg f 0 15) (ht : rg t 0 15) (q : hasW (EcA A w s n) f.toNatClampNeg t.toNatClampNeg) : rg (Int32.ofNat (lsN (EcA A w s n) f.toNatClampNeg t.toNatClampNeg) + n * sumA A s 1 (A 5 0 3).toNatClampNeg) 0 900009900 := by
  have h1 := ec_fin h s h0 hl hn (p16 hf) _ _ (p16 ht) (lsN_s q)
  have h2 : rg (Int32.ofNat (lsN (EcA A w s n) f.toNatClampNeg t.toNatClampNeg)) 0 900000000 := by
    have e : (Int32.ofNat (lsN (EcA A w s n) f.toNatClampNeg t.toNatClampNeg)).toInt = ((lsN (EcA A w s n) f.toNatClampNeg t.toNatClampNeg : Nat) : Int) := nI_toInt (by omega)
    exact ⟨by rw [e]; omega, by rw [e]; omega⟩
  exact rg_add h2 (rg_mul2 hn (sumA_r h s (col := 1) (by decide)) (hi := 9900) (by decide)) (by decide)
theorem lc_st {A : LA} (h : okA A) {w s f t n r : Int32} (h0 : rg w 0 4) (hl : w < A 5 0 2) (hn : rg n 0 20) (hf : rg f 0 15) (ht : rg t 0 15) (e : r = lcA A w s f t n) : pif (r = 1000000000) (-5) r = pif (hasW (EcA A w s n) f.toNatClampNeg t.toNatClampNeg) (Int32.ofNat (lsN (EcA A w s n) f.toNatClampNeg t.toNatClampNeg) + n * sumA A s 1 (A 5 0 3).toNatClampNeg) (-5) := by
  by_cases q : hasW (EcA A w s n) f.toNatClampNeg t.toNatClampNeg
  · have v := lc_v h h0 hl hn hf ht q
    rw [pif_pos q, e, show lcA A w s f t n = _ from pif_pos q]
    refine pif_neg (fun z => ?_)
    rw [z] at v
    exact absurd v.2 (by decide)
  · rw [pif_neg q, e, show lcA A w s f t n = _ from pif_neg q]
    exact pif_pos rfl
theorem mc_st {A : LA} (h : okA A) {w s f t n r : Int32} (h0 : rg w 0 4) (hl : w < A 5 0 2) (hn : rg n 0 20) (hf : rg f 0 15) (ht : rg t 0 15) (e : r = mcA A w s f t n) : pif (r = -1) (-5) r = pif (hasW (EcA A w s n) f.toNatClampNeg t.toNatClampNeg) (Int32.ofNat (lsN (EcA A w s n) f.toNatClampNeg t.toNatClampNeg) + n * sumA A s 1 (A 5 0 3).toNatClampNeg) (-5) := by
  by_cases q : hasW (EcA A w s n) f.toNatClampNeg t.toNatClampNeg
  · have v := lc_v h h0 hl hn hf ht q
    rw [pif_pos q, e, show mcA A w s f t n = _ from pif_pos q]
    refine pif_neg (fun z => ?_)
    rw [z] at v
    exact absurd v.1 (by decide)
  · rw [pif_neg q, e, show mcA A w s f t n = _ from pif_neg q]
    exact pif_pos rfl
theorem ld_st {A : LA} (h : okA A) {w s f t r : Int32} (hf : rg f 0 15) (ht : rg t 0 15) (e : r = ldA A w s f t) : pif (r = 1000000000) (-5) r = pif (hasW (EdyA A w s) f.toNatClampNeg t.toNatClampNeg) (Int32.ofNat (lsN (EdyA A w s) f.toNatClampNeg t.toNatClampNeg)) (-5) := by
  by_cases q : hasW (EdyA A w s) f.toNatClampNeg t.toNatClampNeg
  · have h1 := ed_fin h w s (p16 hf) _ _ (p16 ht) (lsN_s q)
    rw [pif_pos q, e, show ldA A w s f t = _ from pif_pos q]
    refine pif_neg (fun z => ?_)
    have z2 := congrArg Int32.toInt z
    rw [show (Int32.ofNat (lsN (EdyA A w s) f.toNatClampNeg t.toNatClampNeg)).toInt = ((lsN (EdyA A w s) f.toNatClampNeg t.toNatClampNeg : Nat) : Int) from nI_toInt (by omega), show (1000000000 : Int32).toInt = 1000000000 from rfl] at z2
    omega
  · rw [pif_neg q, e, show ldA A w s f t = _ from pif_neg q]
    exact pif_pos rfl

set_option maxHeartbeats 4000000 in
set_option maxRecDepth 100000 in
theorem e_X6_goes (l : Launch) (D : va_G) (E : Nat → ClassId) (G : Nat → Nat) (sz : Nat) (a : Nat → Nat) (C : Nat → va_E) (hT : TyX a E C) (x1 : Int32) (x2 : Int32) (x3 : Int32) (x4 : Int32) : Met l yX6_goes (oh_w yX6_goes cX6_goes 5 (some .int)) ({ frames := 4, cells := 0, slots := 0, locals := 100 }) (oh_Pm D E G [.ref (a 0), .int x1, .int x2, .int x3, .int x4] (oh_W 35 a C) sz) (va_Qi (fun r (u : Nat → va_E) => TyX a E u ∧ fr [(7, 8), (9, 10), (24, 26)] [] C u ∧ (∀ A : LA, absX 10 C A → okA A → r = spGoes A x1 x2 x3 x4)) (oh_B D (va_A (oh_W 35 a C) sz) (fun u => oh_W 35 a u)) (va_A (oh_W 35 a C) sz)) 0 0 (va_A (oh_W 35 a C) sz) := by
  refine Met.ofW (cc := cX6_goes) (maxL := 5) (ret := (some .int)) (by decide) rfl ?_
  intro p e s m args below meth c s₁ B hml hv
  obtain ⟨rfl, hsz, hP, hK, hD0, hG⟩ := hv
  have hx := B.exec
  have hb := B.bytes
  have hr := B.returns
  have hts := atoms_spec (ws := (oh_w yX6_goes cX6_goes 5 (some .int))) B.pre
  have htg : ∀ w ∈ oh_t, w.before _ s = true := fun w h => hts w (List.mem_cons_of_mem _ h)
  have hown : s.vm.findClass RX6 = some m.cls := findClass_of_methodNamed B.named
  have hlocks := B.notSynchronized
  have hT0 := hT
  subst hsz
  have hD := hD0.self (sz := s.heap.size)
  generalize hAe : va_A (oh_W 35 a C) s.heap.size = A at hD hG ⊢
  have hA : ∀ q : Nat, s.heap.size ≤ q → A q := fun q h => by rw [← hAe]; exact Or.inr h
  have hS : va_S A s.heap s.heap [] := va_S.rf
  have hF : fr [(7, 8), (9, 10), (24, 26)] [] C C := fr_rf
  have hl := lv_entry ([.ref (a 0), .int x1, .int x2, .int x3, .int x4]) (n := 5) (Nat.le_of_ble_eq_true rfl)
  rw [lg_entry_eq]
  generalize (lg_sl ([.ref (a 0), .int x1, .int x2, .int x3, .int x4]) ++ List.replicate (5 - (lg_sl ([.ref (a 0), .int x1, .int x2, .int x3, .int x4])).length) Slot.unset).toArray = ls at hl ⊢
  have hl : lv_has ls 5 [(0, .ref (a 0)), (1, .int x1), (2, .int x2), (3, .int x3), (4, .int x4)] := hl
  refine oh_genQ (fun Q hQ => ?_)
  refine lv_aload_n hx hb dX6_goes_0 rfl (lv_at hl 0 rfl) ?_
  refine lv_iload_n hx hb dX6_goes_1 rfl (lv_at hl 1 rfl) ?_
  refine lv_iload_n hx hb dX6_goes_2 rfl (lv_at hl 2 rfl) ?_
  refine tq_V (As := [.int x1, .int x2]) (rest := []) (ws := (oh_W 35 a C)) ⟨hx, hb, hml, hown, htg⟩ (e_X6_isPack l D E G a C hT x1 x2) (cwV 2 htg (oh_gV q_695 q_697 q_16 q_66 q_698) rfl rfl rfl pdVX6_isPack ⟨Nat.le_of_ble_eq_true rfl, Nat.le_of_ble_eq_true rfl⟩) hK hP hG hS (va_recv hK hP (ci := 6) (q0 := 0) rfl (oh_wg (by decide) (sX_0 hT))) rfl hl.1 rfl (Nat.le_of_ble_eq_true rfl) dX6_goes_3 ⟨Nat.le_of_ble_eq_true rfl, Nat.le_of_ble_eq_true rfl⟩ (fun r_1 hq_2 => ?_)
  refine lv_if_eq (tgt := 27) hx hb dX6_goes_6 (by decide) (fun (c_3 : r_1 = 0) => ?_) (fun (c_3 : ¬ (r_1 = 0)) => ?_)
  · have u_4 := hq_2.2.2 c_3
    refine lv_aload_n hx hb dX6_goes_27 rfl (lv_at hl 0 rfl) ?_
    refine lv_bipush (v := (-2)) hx hb dX6_goes_28 (by decide) ?_
    refine tm_V (As := [.int (-2)]) (rest := []) ⟨hx, hb, hml, hown, htg⟩ (c_X6_refuse l D E G _ a C hT ((-2) : Int32)) (cwV 1 htg (oh_gV q_296 q_298 q_0 q_66 q_299) rfl rfl rfl pdVX6_refuse ⟨Nat.le_of_ble_eq_true rfl, Nat.le_of_ble_eq_true rfl⟩) hK hP hD hG hS hA (va_recv hK hP (ci := 6) (q0 := 0) rfl (oh_wg (by decide) (sX_0 hT))) rfl hl.1 rfl (Nat.le_of_ble_eq_true rfl) dX6_goes_30 ⟨Nat.le_of_ble_eq_true rfl, Nat.le_of_ble_eq_true rfl⟩ (fun r_5 C_6 H locs hq_7 hP hD hS => ?_)
    obtain ⟨hT, f_8, hq_7⟩ := hq_7
    have hF := fr_tr hF f_8 (by decide) (by decide)
    refine W.widen (k := 0) (n := 0) (Nat.le_refl _) (Nat.le_refl _) ?_
    have t_9 := hT
    rw [hQ]
    exact W.iret (v := r_5) hx hb hr (fun t ht hW => ⟨⟨r_5, C_6, rfl, ⟨hT, hF, (fun A hA hok => Eq.trans hq_7 (pif_neg (fun h8 => (show ¬ okPk (A 5 0 2) (A 5 0 3) x1 x2 by rw [← (show ga (C 10) ((2 : Int32)).toNatClampNeg = A 5 0 2 from hA.1 2 (by decide)), ← (show ga (C 10) ((3 : Int32)).toNatClampNeg = A 5 0 3 from hA.1 3 (by decide))]; exact u_4) h8.1)).symm)⟩, ⟨by rw [ht]; exact hP, hD⟩⟩, hS.F ht⟩) hS.2.2 dX6_goes_33
  · have u_10 := hq_2.2.1 c_3
    refine lv_aload_n hx hb dX6_goes_9 rfl (lv_at hl 0 rfl) ?_
    refine lv_iload_n hx hb dX6_goes_10 rfl (lv_at hl 3 rfl) ?_
    refine tq_V (As := [.int x3]) (rest := []) (ws := (oh_W 35 a C)) ⟨hx, hb, hml, hown, htg⟩ (e_X6_isRoad l D E G a C hT x3) (cwV 1 htg (oh_gV q_428 q_430 q_5 q_66 q_431) rfl rfl rfl pdVX6_isRoad ⟨Nat.le_of_ble_eq_true rfl, Nat.le_of_ble_eq_true rfl⟩) hK hP hG hS (va_recv hK hP (ci := 6) (q0 := 0) rfl (oh_wg (by decide) (sX_0 hT))) rfl hl.1 rfl (Nat.le_of_ble_eq_true rfl) dX6_goes_11 ⟨Nat.le_of_ble_eq_true rfl, Nat.le_of_ble_eq_true rfl⟩ (fun r_11 hq_12 => ?_)
    refine lv_if_eq (tgt := 27) hx hb dX6_goes_14 (by decide) (fun (c_13 : r_11 = 0) => ?_) (fun (c_13 : ¬ (r_11 = 0)) => ?_)
    · have u_14 := hq_12.2.2 c_13
      refine lv_aload_n hx hb dX6_goes_27 rfl (lv_at hl 0 rfl) ?_
      refine lv_bipush (v := (-2)) hx hb dX6_goes_28 (by decide) ?_
      refine tm_V (As := [.int (-2)]) (rest := []) ⟨hx, hb, hml, hown, htg⟩ (c_X6_refuse l D E G _ a C hT ((-2) : Int32)) (cwV 1 htg (oh_gV q_296 q_298 q_0 q_66 q_299) rfl rfl rfl pdVX6_refuse ⟨Nat.le_of_ble_eq_true rfl, Nat.le_of_ble_eq_true rfl⟩) hK hP hD hG hS hA (va_recv hK hP (ci := 6) (q0 := 0) rfl (oh_wg (by decide) (sX_0 hT))) rfl hl.1 rfl (Nat.le_of_ble_eq_true rfl) dX6_goes_30 ⟨Nat.le_of_ble_eq_true rfl, Nat.le_of_ble_eq_true rfl⟩ (fun r_15 C_16 H locs hq_17 hP hD hS => ?_)
      obtain ⟨hT, f_18, hq_17⟩ := hq_17
      have hF := fr_tr hF f_18 (by decide) (by decide)
      refine W.widen (k := 0) (n := 0) (Nat.le_refl _) (Nat.le_refl _) ?_
      have t_19 := hT
      rw [hQ]
      exact W.iret (v := r_15) hx hb hr (fun t ht hW => ⟨⟨r_15, C_16, rfl, ⟨hT, hF, (fun A hA hok => Eq.trans hq_17 (pif_neg (fun h8 => by have h7 := h8.2.1; rw [← (show ga (C 10) ((0 : Int32)).toNatClampNeg = A 5 0 0 from hA.1 0 (by decide))] at h7; exact u_14 h7)).symm)⟩, ⟨by rw [ht]; exact hP, hD⟩⟩, hS.F ht⟩) hS.2.2 dX6_goes_33
    · have u_20 := hq_12.2.1 c_13
      refine lv_iload hx hb dX6_goes_17 (lv_at hl 4 rfl) ?_
      refine lv_iconst (v := 0) hx hb dX6_goes_19 (by decide) ?_
      refine lv_iconst (v := 4) hx hb dX6_goes_20 (by decide) ?_
      refine tq_S (As := [.int x4, .int 0, .int 4]) (rest := []) (ws := []) ⟨hx, hb, hml, hown, htg⟩ (c_X6_within l D E G x4 (0 : Int32) (4 : Int32)) (va_cwS 3 htg (oh_gS q_293 q_294 q_66 q_295) rfl rfl rfl pdX6_within ⟨Nat.le_of_ble_eq_true rfl, Nat.le_of_ble_eq_true rfl⟩) hK va_nil hG hS rfl hl.1 rfl (Nat.le_of_ble_eq_true rfl) dX6_goes_21 ⟨Nat.le_of_ble_eq_true rfl, Nat.le_of_ble_eq_true rfl⟩ (fun r_21 hq_22 => ?_)
      refine lv_if_ne (tgt := 34) hx hb dX6_goes_24 (by decide) (fun (c_23 : ¬ (r_21 = 0)) => ?_) (fun (c_23 : r_21 = 0) => ?_)
      · have u_24 := hq_22.2.1 c_23
        refine lv_aload_n hx hb dX6_goes_34 rfl (lv_at hl 0 rfl) ?_
        refine va_get (D := D) (ci := 6) (v := .ref (a 3)) (C := RX6) (T := TX6) (N := 9) hx hb htg ig_6 hown hK hP 0 (oh_wg (by decide) (sX_0 hT)) rfl 3 (by decide) (htg _ q_261) (fun _ h9 => h9) rfl dX6_goes_35 ?_
        refine lv_iload_n hx hb dX6_goes_38 rfl (lv_at hl 1 rfl) ?_
        refine lv_iload_n hx hb dX6_goes_39 rfl (lv_at hl 2 rfl) ?_
        refine tm_Vv (As := [.int x1, .int x2]) (rest := []) ⟨hx, hb, hml, hown, htg⟩ (e_X5_survey l D E G _ a C hT x1 x2 (rg_w u_10.1 (by decide))) (cwV 2 htg (oh_gV q_750 q_751 q_752 q_68 q_753) rfl rfl rfl pdVX5_survey ⟨Nat.le_of_ble_eq_true rfl, Nat.le_of_ble_eq_true rfl⟩) hK hP hD hG hS hA (va_recv hK hP (ci := 5) (q0 := 3) rfl (oh_wg (by decide) (sX_3 hT))) rfl hl.1 rfl (Nat.le_of_ble_eq_true rfl) dX6_goes_40 ⟨Nat.le_of_ble_eq_true rfl, Nat.le_of_ble_eq_true rfl⟩ (fun C_26 H locs hq_27 hP hD hS => ?_)
        obtain ⟨hT, f_28, hq_27⟩ := hq_27
        have hF := fr_tr hF f_28 (by decide) (by decide)
        refine W.widen (k := 0) (n := 0) (Nat.le_refl _) (Nat.le_refl _) ?_
        have t_29 := hT
        refine lv_iload hx hb dX6_goes_43 (lv_at hl 4 rfl) ?_
        refine lv_if_ne (tgt := 67) hx hb dX6_goes_45 (by decide) (fun (c_30 : ¬ (x4 = 0)) => ?_) (fun (c_30 : x4 = 0) => ?_)
        · refine lv_iload hx hb dX6_goes_67 (lv_at hl 4 rfl) ?_
          refine lv_iconst (v := 3) hx hb dX6_goes_69 (by decide) ?_
          refine lv_icmp_ne (tgt := 82) hx hb dX6_goes_70 (by decide) (fun (c_31 : ¬ (x4 = 3)) => ?_) (fun (c_31 : x4 = 3) => ?_)
          · refine lv_aload_n hx hb dX6_goes_82 rfl (lv_at hl 0 rfl) ?_
            refine va_get (D := D) (ci := 6) (v := .ref (a 3)) (C := RX6) (T := TX6) (N := 9) hx hb htg ig_6 hown hK hP 0 (oh_wg (by decide) (sX_0 hT)) rfl 3 (by decide) (htg _ q_261) (fun _ h9 => h9) rfl dX6_goes_83 ?_
            refine va_get (D := D) (ci := 5) (v := .ref (a 24)) (C := RX5) (T := TX5) (N := 7) hx hb htg ig_5 hown hK hP 3 (oh_wg (by decide) (sX_3 hT)) rfl 2 (by decide) (htg _ q_171) (fun _ h9 => h9) rfl dX6_goes_86 ?_
            refine lv_iload_n hx hb dX6_goes_89 rfl (lv_at hl 3 rfl) ?_
            have n_32 : vp_in x3 24 := (rg_in u_20.1 (by decide))
            refine th_iald hx hb hK hP 24 (by decide) (sX_24 hT) n_32 dX6_goes_90 ?_
            refine lv_iconst (v := (-1)) hx hb dX6_goes_91 (by decide) ?_
            refine lv_icmp_ne (tgt := 102) hx hb dX6_goes_92 (by decide) (fun (c_33 : ¬ ((ga (C_26 24) (x3).toNatClampNeg) = (-1))) => ?_) (fun (c_33 : (ga (C_26 24) (x3).toNatClampNeg) = (-1)) => ?_)
            · refine lv_iload hx hb dX6_goes_102 (lv_at hl 4 rfl) ?_
              refine lv_iconst (v := 1) hx hb dX6_goes_104 (by decide) ?_
              refine lv_icmp_ne (tgt := 118) hx hb dX6_goes_105 (by decide) (fun (c_34 : ¬ (x4 = 1)) => ?_) (fun (c_34 : x4 = 1) => ?_)
              · refine lv_iload hx hb dX6_goes_118 (lv_at hl 4 rfl) ?_
                refine lv_iconst (v := 2) hx hb dX6_goes_120 (by decide) ?_
                refine lv_icmp_ne (tgt := 135) hx hb dX6_goes_121 (by decide) (fun (c_35 : ¬ (x4 = 2)) => ?_) (fun (c_35 : x4 = 2) => ?_)
                · refine lv_aload_n hx hb dX6_goes_135 rfl (lv_at hl 0 rfl) ?_
                  refine va_get (D := D) (ci := 6) (v := .ref (a 3)) (C := RX6) (T := TX6) (N := 9) hx hb htg ig_6 hown hK hP 0 (oh_wg (by decide) (sX_0 hT)) rfl 3 (by decide) (htg _ q_261) (fun _ h9 => h9) rfl dX6_goes_136 ?_
                  refine va_get (D := D) (ci := 5) (v := .ref (a 24)) (C := RX5) (T := TX5) (N := 7) hx hb htg ig_5 hown hK hP 3 (oh_wg (by decide) (sX_3 hT)) rfl 2 (by decide) (htg _ q_171) (fun _ h9 => h9) rfl dX6_goes_139 ?_
                  refine lv_iload_n hx hb dX6_goes_142 rfl (lv_at hl 3 rfl) ?_
                  have n_36 : vp_in x3 24 := (rg_in u_20.1 (by decide))
                  refine th_iald hx hb hK hP 24 (by decide) (sX_24 hT) n_36 dX6_goes_143 ?_
                  rw [hQ]
                  exact W.iret (v := ga (C_26 24) (x3).toNatClampNeg) hx hb hr (fun t ht hW => ⟨⟨ga (C_26 24) (x3).toNatClampNeg, C_26, rfl, ⟨hT, hF, (fun A hA hok => by have hp := (show okPk (A 5 0 2) (A 5 0 3) x1 x2 by rw [← (show ga (C 10) ((2 : Int32)).toNatClampNeg = A 5 0 2 from hA.1 2 (by decide)), ← (show ga (C 10) ((3 : Int32)).toNatClampNeg = A 5 0 3 from hA.1 3 (by decide))]; exact u_10.2); have h3 : 0 ≤ x3 ∧ x3 < A 5 0 0 := (by rw [← (show ga (C 10) ((0 : Int32)).toNatClampNeg = A 5 0 0 from hA.1 0 (by decide))]; exact u_20.2); have hs : svX C_26 A x1 x2 := hq_27 A hA hp.1.2; have i3 : rg x3 0 23 := (rg_w (lo := 0) (hi := 23) u_20.1 (by decide)); have hr := n0_lt i3 h3.2; have hK := (absX_eq hA (fr_all f_28 10 15 (by decide))); have hg : gsA A x1 x2 x3.toNatClampNeg := Classical.byContradiction (fun q => c_33 ((sv_g hs.2 hr hok.n16).mpr q)); exact Eq.trans ((hs.2 _ hr).1 hg).1 ((Eq.trans (pif_pos ⟨hp, h3, (oh_rgI (p := 0) (q := 4) (rg_w (lo := 0) (hi := 4) (rn_nel (l' := 4) c_31 (rn_nel (l' := 3) c_35 (rn_nel (l' := 2) c_34 (rn_nel (l' := 1) c_30 (rn_leu u_24.2 (rn_lel u_24.1 (rg_c (v := 0) (lo := 0) (hi := 0) (by decide)) (rg_any _)) (rg_c (v := 4) (lo := 4) (hi := 4) (by decide))) (rg_c (v := 0) (lo := 0) (hi := 0) (by decide)) (by decide)) (rg_c (v := 1) (lo := 1) (hi := 1) (by decide)) (by decide)) (rg_c (v := 2) (lo := 2) (hi := 2) (by decide)) (by decide)) (rg_c (v := 3) (lo := 3) (hi := 3) (by decide)) (by decide)) (by decide)))⟩) (Eq.trans (pif_neg c_30) (Eq.trans (pif_neg c_31) (Eq.trans (pif_pos hg) (Eq.trans (pif_neg c_34) (pif_neg c_35))))))).symm)⟩, ⟨by rw [ht]; exact hP, hD⟩⟩, hS.F ht⟩) hS.2.2 dX6_goes_144
                · refine lv_aload_n hx hb dX6_goes_124 rfl (lv_at hl 0 rfl) ?_
                  refine va_get (D := D) (ci := 6) (v := .ref (a 3)) (C := RX6) (T := TX6) (N := 9) hx hb htg ig_6 hown hK hP 0 (oh_wg (by decide) (sX_0 hT)) rfl 3 (by decide) (htg _ q_261) (fun _ h9 => h9) rfl dX6_goes_125 ?_
                  refine lv_iload_n hx hb dX6_goes_128 rfl (lv_at hl 3 rfl) ?_
                  refine tq_V (As := [.int x3]) (rest := []) (ws := (oh_W 35 a C_26)) ⟨hx, hb, hml, hown, htg⟩ (e_X5_daysOf l D E G a C_26 hT x3 (rg_w u_20.1 (by decide))) (cwV 1 htg (oh_gV q_767 q_768 q_769 q_68 q_770) rfl rfl rfl pdVX5_daysOf ⟨Nat.le_of_ble_eq_true rfl, Nat.le_of_ble_eq_true rfl⟩) hK hP hG hS (va_recv hK hP (ci := 5) (q0 := 3) rfl (oh_wg (by decide) (sX_3 hT))) rfl hl.1 rfl (Nat.le_of_ble_eq_true rfl) dX6_goes_129 ⟨Nat.le_of_ble_eq_true rfl, Nat.le_of_ble_eq_true rfl⟩ (fun r_37 hq_38 => ?_)
                  refine lv_goto (tgt := 144) hx hb dX6_goes_132 (by decide) ?_
                  rw [hQ]
                  exact W.iret (v := r_37) hx hb hr (fun t ht hW => ⟨⟨r_37, C_26, rfl, ⟨hT, hF, (fun A hA hok => by have hp := (show okPk (A 5 0 2) (A 5 0 3) x1 x2 by rw [← (show ga (C 10) ((2 : Int32)).toNatClampNeg = A 5 0 2 from hA.1 2 (by decide)), ← (show ga (C 10) ((3 : Int32)).toNatClampNeg = A 5 0 3 from hA.1 3 (by decide))]; exact u_10.2); have h3 : 0 ≤ x3 ∧ x3 < A 5 0 0 := (by rw [← (show ga (C 10) ((0 : Int32)).toNatClampNeg = A 5 0 0 from hA.1 0 (by decide))]; exact u_20.2); have hs : svX C_26 A x1 x2 := hq_27 A hA hp.1.2; have i3 : rg x3 0 23 := (rg_w (lo := 0) (hi := 23) u_20.1 (by decide)); have hr := n0_lt i3 h3.2; have hK := (absX_eq hA (fr_all f_28 10 15 (by decide))); have hg : gsA A x1 x2 x3.toNatClampNeg := Classical.byContradiction (fun q => c_33 ((sv_g hs.2 hr hok.n16).mpr q)); exact Eq.trans (dyX hK hs i3 h3.2 hg hq_38) ((Eq.trans (pif_pos ⟨hp, h3, (oh_rgI (p := 0) (q := 4) (rg_w (lo := 0) (hi := 4) (rn_eq c_35 (rg_c (v := 2) (lo := 2) (hi := 2) (by decide))) (by decide)))⟩) (Eq.trans (pif_neg c_30) (Eq.trans (pif_neg c_31) (Eq.trans (pif_pos hg) (Eq.trans (pif_neg c_34) (pif_pos c_35))))))).symm)⟩, ⟨by rw [ht]; exact hP, hD⟩⟩, hS.F ht⟩) hS.2.2 dX6_goes_144
              · refine lv_aload_n hx hb dX6_goes_108 rfl (lv_at hl 0 rfl) ?_
                refine va_get (D := D) (ci := 6) (v := .ref (a 3)) (C := RX6) (T := TX6) (N := 9) hx hb htg ig_6 hown hK hP 0 (oh_wg (by decide) (sX_0 hT)) rfl 3 (by decide) (htg _ q_261) (fun _ h9 => h9) rfl dX6_goes_109 ?_
                refine lv_iload_n hx hb dX6_goes_112 rfl (lv_at hl 3 rfl) ?_
                refine lv_iconst (v := 1) hx hb dX6_goes_113 (by decide) ?_
                refine tq_V (As := [.int x3, .int 1]) (rest := []) (ws := (oh_W 35 a C_26)) ⟨hx, hb, hml, hown, htg⟩ (e_X5_coinOf l D E G a C_26 hT x3 (1 : Int32) (rg_w u_20.1 (by decide))) (cwV 2 htg (oh_gV q_762 q_763 q_764 q_68 q_765) rfl rfl rfl pdVX5_coinOf ⟨Nat.le_of_ble_eq_true rfl, Nat.le_of_ble_eq_true rfl⟩) hK hP hG hS (va_recv hK hP (ci := 5) (q0 := 3) rfl (oh_wg (by decide) (sX_3 hT))) rfl hl.1 rfl (Nat.le_of_ble_eq_true rfl) dX6_goes_114 ⟨Nat.le_of_ble_eq_true rfl, Nat.le_of_ble_eq_true rfl⟩ (fun r_39 hq_40 => ?_)
                rw [hQ]
                exact W.iret (v := r_39) hx hb hr (fun t ht hW => ⟨⟨r_39, C_26, rfl, ⟨hT, hF, (fun A hA hok => by have hp := (show okPk (A 5 0 2) (A 5 0 3) x1 x2 by rw [← (show ga (C 10) ((2 : Int32)).toNatClampNeg = A 5 0 2 from hA.1 2 (by decide)), ← (show ga (C 10) ((3 : Int32)).toNatClampNeg = A 5 0 3 from hA.1 3 (by decide))]; exact u_10.2); have h3 : 0 ≤ x3 ∧ x3 < A 5 0 0 := (by rw [← (show ga (C 10) ((0 : Int32)).toNatClampNeg = A 5 0 0 from hA.1 0 (by decide))]; exact u_20.2); have hs : svX C_26 A x1 x2 := hq_27 A hA hp.1.2; have i3 : rg x3 0 23 := (rg_w (lo := 0) (hi := 23) u_20.1 (by decide)); have hr := n0_lt i3 h3.2; have hK := (absX_eq hA (fr_all f_28 10 15 (by decide))); have hg : gsA A x1 x2 x3.toNatClampNeg := Classical.byContradiction (fun q => c_33 ((sv_g hs.2 hr hok.n16).mpr q)); exact Eq.trans (coX (n := 1) hK hs i3 h3.2 hg hq_40) ((Eq.trans (pif_pos ⟨hp, h3, (oh_rgI (p := 0) (q := 4) (rg_w (lo := 0) (hi := 4) (rn_eq c_34 (rg_c (v := 1) (lo := 1) (hi := 1) (by decide))) (by decide)))⟩) (Eq.trans (pif_neg c_30) (Eq.trans (pif_neg c_31) (Eq.trans (pif_pos hg) (pif_pos c_34)))))).symm)⟩, ⟨by rw [ht]; exact hP, hD⟩⟩, hS.F ht⟩) hS.2.2 dX6_goes_117
            · refine lv_aload_n hx hb dX6_goes_95 rfl (lv_at hl 0 rfl) ?_
              refine lv_bipush (v := (-5)) hx hb dX6_goes_96 (by decide) ?_
              refine tm_V (As := [.int (-5)]) (rest := []) ⟨hx, hb, hml, hown, htg⟩ (c_X6_refuse l D E G _ a C_26 hT ((-5) : Int32)) (cwV 1 htg (oh_gV q_296 q_298 q_0 q_66 q_299) rfl rfl rfl pdVX6_refuse ⟨Nat.le_of_ble_eq_true rfl, Nat.le_of_ble_eq_true rfl⟩) hK hP hD hG hS hA (va_recv hK hP (ci := 6) (q0 := 0) rfl (oh_wg (by decide) (sX_0 hT))) rfl hl.1 rfl (Nat.le_of_ble_eq_true rfl) dX6_goes_98 ⟨Nat.le_of_ble_eq_true rfl, Nat.le_of_ble_eq_true rfl⟩ (fun r_41 C_42 H locs hq_43 hP hD hS => ?_)
              obtain ⟨hT, f_44, hq_43⟩ := hq_43
              have hF := fr_tr hF f_44 (by decide) (by decide)
              refine W.widen (k := 0) (n := 0) (Nat.le_refl _) (Nat.le_refl _) ?_
              have t_45 := hT
              rw [hQ]
              exact W.iret (v := r_41) hx hb hr (fun t ht hW => ⟨⟨r_41, C_42, rfl, ⟨hT, hF, (fun A hA hok => by have hp := (show okPk (A 5 0 2) (A 5 0 3) x1 x2 by rw [← (show ga (C 10) ((2 : Int32)).toNatClampNeg = A 5 0 2 from hA.1 2 (by decide)), ← (show ga (C 10) ((3 : Int32)).toNatClampNeg = A 5 0 3 from hA.1 3 (by decide))]; exact u_10.2); have h3 : 0 ≤ x3 ∧ x3 < A 5 0 0 := (by rw [← (show ga (C 10) ((0 : Int32)).toNatClampNeg = A 5 0 0 from hA.1 0 (by decide))]; exact u_20.2); have hs : svX C_26 A x1 x2 := hq_27 A hA hp.1.2; have i3 : rg x3 0 23 := (rg_w (lo := 0) (hi := 23) u_20.1 (by decide)); have hr := n0_lt i3 h3.2; have hK := (absX_eq hA (fr_all f_28 10 15 (by decide))); have hg : ¬ gsA A x1 x2 x3.toNatClampNeg := (sv_g hs.2 hr hok.n16).mp c_33; exact Eq.trans hq_43 ((Eq.trans (pif_pos ⟨hp, h3, (oh_rgI (p := 0) (q := 4) (rg_w (lo := 0) (hi := 4) (rn_nel (l' := 1) c_30 (rn_leu u_24.2 (rn_lel u_24.1 (rg_c (v := 0) (lo := 0) (hi := 0) (by decide)) (rg_any _)) (rg_c (v := 4) (lo := 4) (hi := 4) (by decide))) (rg_c (v := 0) (lo := 0) (hi := 0) (by decide)) (by decide)) (by decide)))⟩) (Eq.trans (pif_neg c_30) (Eq.trans (pif_neg c_31) (pif_neg hg))))).symm)⟩, ⟨by rw [ht]; exact hP, hD⟩⟩, hS.F ht⟩) hS.2.2 dX6_goes_101
          · refine lv_aload_n hx hb dX6_goes_73 rfl (lv_at hl 0 rfl) ?_
            refine va_get (D := D) (ci := 6) (v := .ref (a 3)) (C := RX6) (T := TX6) (N := 9) hx hb htg ig_6 hown hK hP 0 (oh_wg (by decide) (sX_0 hT)) rfl 3 (by decide) (htg _ q_261) (fun _ h9 => h9) rfl dX6_goes_74 ?_
            refine lv_iload_n hx hb dX6_goes_77 rfl (lv_at hl 3 rfl) ?_
            refine tq_V (As := [.int x3]) (rest := []) (ws := (oh_W 35 a C_26)) ⟨hx, hb, hml, hown, htg⟩ (e_X5_engines l D E G a C_26 hT x3 (rg_w u_20.1 (by decide))) (cwV 1 htg (oh_gV q_758 q_759 q_760 q_68 q_761) rfl rfl rfl pdVX5_engines ⟨Nat.le_of_ble_eq_true rfl, Nat.le_of_ble_eq_true rfl⟩) hK hP hG hS (va_recv hK hP (ci := 5) (q0 := 3) rfl (oh_wg (by decide) (sX_3 hT))) rfl hl.1 rfl (Nat.le_of_ble_eq_true rfl) dX6_goes_78 ⟨Nat.le_of_ble_eq_true rfl, Nat.le_of_ble_eq_true rfl⟩ (fun r_46 hq_47 => ?_)
            rw [hQ]
            exact W.iret (v := r_46) hx hb hr (fun t ht hW => ⟨⟨r_46, C_26, rfl, ⟨hT, hF, (fun A hA hok => by have hp := (show okPk (A 5 0 2) (A 5 0 3) x1 x2 by rw [← (show ga (C 10) ((2 : Int32)).toNatClampNeg = A 5 0 2 from hA.1 2 (by decide)), ← (show ga (C 10) ((3 : Int32)).toNatClampNeg = A 5 0 3 from hA.1 3 (by decide))]; exact u_10.2); have h3 : 0 ≤ x3 ∧ x3 < A 5 0 0 := (by rw [← (show ga (C 10) ((0 : Int32)).toNatClampNeg = A 5 0 0 from hA.1 0 (by decide))]; exact u_20.2); have hs : svX C_26 A x1 x2 := hq_27 A hA hp.1.2; have i3 : rg x3 0 23 := (rg_w (lo := 0) (hi := 23) u_20.1 (by decide)); have hr := n0_lt i3 h3.2; have hK := (absX_eq hA (fr_all f_28 10 15 (by decide))); exact Eq.trans (enX hK hs.1 i3 h3.2 hq_47) ((Eq.trans (pif_pos ⟨hp, h3, (oh_rgI (p := 0) (q := 4) (rg_w (lo := 0) (hi := 4) (rn_eq c_31 (rg_c (v := 3) (lo := 3) (hi := 3) (by decide))) (by decide)))⟩) (Eq.trans (pif_neg c_30) (pif_pos c_31)))).symm)⟩, ⟨by rw [ht]; exact hP, hD⟩⟩, hS.F ht⟩) hS.2.2 dX6_goes_81
        · refine lv_aload_n hx hb dX6_goes_48 rfl (lv_at hl 0 rfl) ?_
          refine va_get (D := D) (ci := 6) (v := .ref (a 3)) (C := RX6) (T := TX6) (N := 9) hx hb htg ig_6 hown hK hP 0 (oh_wg (by decide) (sX_0 hT)) rfl 3 (by decide) (htg _ q_261) (fun _ h9 => h9) rfl dX6_goes_49 ?_
          refine va_get (D := D) (ci := 5) (v := .ref (a 24)) (C := RX5) (T := TX5) (N := 7) hx hb htg ig_5 hown hK hP 3 (oh_wg (by decide) (sX_3 hT)) rfl 2 (by decide) (htg _ q_171) (fun _ h9 => h9) rfl dX6_goes_52 ?_
          refine lv_iload_n hx hb dX6_goes_55 rfl (lv_at hl 3 rfl) ?_
          have n_48 : vp_in x3 24 := (rg_in u_20.1 (by decide))
          refine th_iald hx hb hK hP 24 (by decide) (sX_24 hT) n_48 dX6_goes_56 ?_
          refine lv_iconst (v := (-1)) hx hb dX6_goes_57 (by decide) ?_
          refine lv_icmp_ne (tgt := 65) hx hb dX6_goes_58 (by decide) (fun (c_49 : ¬ ((ga (C_26 24) (x3).toNatClampNeg) = (-1))) => ?_) (fun (c_49 : (ga (C_26 24) (x3).toNatClampNeg) = (-1)) => ?_)
          · refine lv_iconst (v := 1) hx hb dX6_goes_65 (by decide) ?_
            rw [hQ]
            exact W.iret (v := 1) hx hb hr (fun t ht hW => ⟨⟨1, C_26, rfl, ⟨hT, hF, (fun A hA hok => by have hp := (show okPk (A 5 0 2) (A 5 0 3) x1 x2 by rw [← (show ga (C 10) ((2 : Int32)).toNatClampNeg = A 5 0 2 from hA.1 2 (by decide)), ← (show ga (C 10) ((3 : Int32)).toNatClampNeg = A 5 0 3 from hA.1 3 (by decide))]; exact u_10.2); have h3 : 0 ≤ x3 ∧ x3 < A 5 0 0 := (by rw [← (show ga (C 10) ((0 : Int32)).toNatClampNeg = A 5 0 0 from hA.1 0 (by decide))]; exact u_20.2); have hs : svX C_26 A x1 x2 := hq_27 A hA hp.1.2; have i3 : rg x3 0 23 := (rg_w (lo := 0) (hi := 23) u_20.1 (by decide)); have hr := n0_lt i3 h3.2; have hK := (absX_eq hA (fr_all f_28 10 15 (by decide))); have hg : gsA A x1 x2 x3.toNatClampNeg := Classical.byContradiction (fun q => c_49 ((sv_g hs.2 hr hok.n16).mpr q)); exact ((Eq.trans (pif_pos ⟨hp, h3, (oh_rgI (p := 0) (q := 4) (rg_w (lo := 0) (hi := 4) (rn_eq c_30 (rg_c (v := 0) (lo := 0) (hi := 0) (by decide))) (by decide)))⟩) (Eq.trans (pif_pos c_30) (pif_pos hg)))).symm)⟩, ⟨by rw [ht]; exact hP, hD⟩⟩, hS.F ht⟩) hS.2.2 dX6_goes_66
          · refine lv_iconst (v := 0) hx hb dX6_goes_61 (by decide) ?_
            refine lv_goto (tgt := 66) hx hb dX6_goes_62 (by decide) ?_
            rw [hQ]
            exact W.iret (v := 0) hx hb hr (fun t ht hW => ⟨⟨0, C_26, rfl, ⟨hT, hF, (fun A hA hok => by have hp := (show okPk (A 5 0 2) (A 5 0 3) x1 x2 by rw [← (show ga (C 10) ((2 : Int32)).toNatClampNeg = A 5 0 2 from hA.1 2 (by decide)), ← (show ga (C 10) ((3 : Int32)).toNatClampNeg = A 5 0 3 from hA.1 3 (by decide))]; exact u_10.2); have h3 : 0 ≤ x3 ∧ x3 < A 5 0 0 := (by rw [← (show ga (C 10) ((0 : Int32)).toNatClampNeg = A 5 0 0 from hA.1 0 (by decide))]; exact u_20.2); have hs : svX C_26 A x1 x2 := hq_27 A hA hp.1.2; have i3 : rg x3 0 23 := (rg_w (lo := 0) (hi := 23) u_20.1 (by decide)); have hr := n0_lt i3 h3.2; have hK := (absX_eq hA (fr_all f_28 10 15 (by decide))); have hg : ¬ gsA A x1 x2 x3.toNatClampNeg := (sv_g hs.2 hr hok.n16).mp c_49; exact ((Eq.trans (pif_pos ⟨hp, h3, (oh_rgI (p := 0) (q := 4) (rg_w (lo := 0) (hi := 4) (rn_eq c_30 (rg_c (v := 0) (lo := 0) (hi := 0) (by decide))) (by decide)))⟩) (Eq.trans (pif_pos c_30) (pif_neg hg)))).symm)⟩, ⟨by rw [ht]; exact hP, hD⟩⟩, hS.F ht⟩) hS.2.2 dX6_goes_66
      · have u_50 := hq_22.2.2 c_23
        refine lv_aload_n hx hb dX6_goes_27 rfl (lv_at hl 0 rfl) ?_
        refine lv_bipush (v := (-2)) hx hb dX6_goes_28 (by decide) ?_
        refine tm_V (As := [.int (-2)]) (rest := []) ⟨hx, hb, hml, hown, htg⟩ (c_X6_refuse l D E G _ a C hT ((-2) : Int32)) (cwV 1 htg (oh_gV q_296 q_298 q_0 q_66 q_299) rfl rfl rfl pdVX6_refuse ⟨Nat.le_of_ble_eq_true rfl, Nat.le_of_ble_eq_true rfl⟩) hK hP hD hG hS hA (va_recv hK hP (ci := 6) (q0 := 0) rfl (oh_wg (by decide) (sX_0 hT))) rfl hl.1 rfl (Nat.le_of_ble_eq_true rfl) dX6_goes_30 ⟨Nat.le_of_ble_eq_true rfl, Nat.le_of_ble_eq_true rfl⟩ (fun r_51 C_52 H locs hq_53 hP hD hS => ?_)
        obtain ⟨hT, f_54, hq_53⟩ := hq_53
        have hF := fr_tr hF f_54 (by decide) (by decide)
        refine W.widen (k := 0) (n := 0) (Nat.le_refl _) (Nat.le_refl _) ?_
        have t_55 := hT
        rw [hQ]
        exact W.iret (v := r_51) hx hb hr (fun t ht hW => ⟨⟨r_51, C_52, rfl, ⟨hT, hF, (fun A hA hok => Eq.trans hq_53 (pif_neg (fun h8 => u_50 h8.2.2)).symm)⟩, ⟨by rw [ht]; exact hP, hD⟩⟩, hS.F ht⟩) hS.2.2 dX6_goes_33

set_option maxHeartbeats 4000000 in
set_option maxRecDepth 100000 in
theorem e_X7_goes (l : Launch) (D : va_G) (E : Nat → ClassId) (G : Nat → Nat) (sz : Nat) (a : Nat → Nat) (C : Nat → va_E) (n : Nat) (hn : 74 ≤ n) (hT : TyM a E C) (x1 : Int32) (x2 : Int32) (x3 : Int32) (x4 : Int32) (hR : RelM C) : Met l yX7_goes (oh_w yX7_goes cX7_goes 6 (some .int)) ({ frames := 5, cells := 0, slots := 0, locals := 123 }) (oh_Pm D E G [.ref (a 0), .int x1, .int x2, .int x3, .int x4] (oh_W n a C) sz) (va_Qi (fun r (u : Nat → va_E) => TyM a E u ∧ fr [(8, 9)] [] C u ∧ (RelM u) ∧ (∀ A : LA, absM C A → okA A → r = spGoes A x1 x2 x3 x4)) (oh_B D (va_A (oh_W n a C) sz) (fun u => oh_W n a u)) (va_A (oh_W n a C) sz)) 0 0 (va_A (oh_W n a C) sz) := by
  refine Met.ofW (cc := cX7_goes) (maxL := 6) (ret := (some .int)) (by decide) rfl ?_
  intro p e s m args below meth c s₁ B hml hv
  obtain ⟨rfl, hsz, hP, hK, hD0, hG⟩ := hv
  have hx := B.exec
  have hb := B.bytes
  have hr := B.returns
  have hts := atoms_spec (ws := (oh_w yX7_goes cX7_goes 6 (some .int))) B.pre
  have htg : ∀ w ∈ oh_t, w.before _ s = true := fun w h => hts w (List.mem_cons_of_mem _ h)
  have hown : s.vm.findClass RX7 = some m.cls := findClass_of_methodNamed B.named
  have hlocks := B.notSynchronized
  have hT0 := hT
  subst hsz
  have hD := hD0.self (sz := s.heap.size)
  generalize hAe : va_A (oh_W n a C) s.heap.size = A at hD hG ⊢
  have hA : ∀ q : Nat, s.heap.size ≤ q → A q := fun q h => by rw [← hAe]; exact Or.inr h
  have hS : va_S A s.heap s.heap [] := va_S.rf
  have hF : fr [(8, 9)] [] C C := fr_rf
  have hl := lv_entry ([.ref (a 0), .int x1, .int x2, .int x3, .int x4]) (n := 6) (Nat.le_of_ble_eq_true rfl)
  rw [lg_entry_eq]
  generalize (lg_sl ([.ref (a 0), .int x1, .int x2, .int x3, .int x4]) ++ List.replicate (6 - (lg_sl ([.ref (a 0), .int x1, .int x2, .int x3, .int x4])).length) Slot.unset).toArray = ls at hl ⊢
  have hl : lv_has ls 6 [(0, .ref (a 0)), (1, .int x1), (2, .int x2), (3, .int x3), (4, .int x4)] := hl
  refine oh_genQ (fun Q hQ => ?_)
  refine lv_aload_n hx hb dX7_goes_0 rfl (lv_at hl 0 rfl) ?_
  refine lv_iload_n hx hb dX7_goes_1 rfl (lv_at hl 1 rfl) ?_
  refine lv_iload_n hx hb dX7_goes_2 rfl (lv_at hl 2 rfl) ?_
  refine tq_V (As := [.int x1, .int x2]) (rest := []) (ws := (oh_W n a C)) ⟨hx, hb, hml, hown, htg⟩ (e_X7_isPack l D E G a C n hn hT x1 x2 hR.1) (cwV 2 htg (oh_gV q_1290 q_1292 q_50 q_73 q_1293) rfl rfl rfl pdVX7_isPack ⟨Nat.le_of_ble_eq_true rfl, Nat.le_of_ble_eq_true rfl⟩) hK hP hG hS (va_recv hK hP (ci := 7) (q0 := 0) rfl (oh_wg (Nat.lt_of_lt_of_le (by decide) hn) (sM_0 hT))) rfl hl.1 rfl (Nat.le_of_ble_eq_true rfl) dX7_goes_3 ⟨Nat.le_of_ble_eq_true rfl, Nat.le_of_ble_eq_true rfl⟩ (fun r_1 hq_2 => ?_)
  refine lv_if_eq (tgt := 30) hx hb dX7_goes_6 (by decide) (fun (c_3 : r_1 = 0) => ?_) (fun (c_3 : ¬ (r_1 = 0)) => ?_)
  · have u_4 := hq_2.2.2 c_3
    refine lv_aload_n hx hb dX7_goes_30 rfl (lv_at hl 0 rfl) ?_
    refine lv_bipush (v := (-2)) hx hb dX7_goes_31 (by decide) ?_
    refine tm_V (As := [.int (-2)]) (rest := []) ⟨hx, hb, hml, hown, htg⟩ (c_X7_refuse l D E G _ a C n hn hT ((-2) : Int32) (rg_w (rg_c (v := (-2)) (lo := (-2)) (hi := (-2)) (by decide)) (by decide))) (cwV 1 htg (oh_gV q_1071 q_1073 q_29 q_73 q_1074) rfl rfl rfl pdVX7_refuse ⟨Nat.le_of_ble_eq_true rfl, Nat.le_of_ble_eq_true rfl⟩) hK hP hD hG hS hA (va_recv hK hP (ci := 7) (q0 := 0) rfl (oh_wg (Nat.lt_of_lt_of_le (by decide) hn) (sM_0 hT))) rfl hl.1 rfl (Nat.le_of_ble_eq_true rfl) dX7_goes_33 ⟨Nat.le_of_ble_eq_true rfl, Nat.le_of_ble_eq_true rfl⟩ (fun r_5 C_6 H locs hq_7 hP hD hS => ?_)
    obtain ⟨hT, f_8, hq_7⟩ := hq_7
    have hF := fr_tr hF f_8 (by decide) (by decide)
    refine W.widen (k := 0) (n := 0) (Nat.le_refl _) (Nat.le_refl _) ?_
    have t_9 := hT
    rw [hQ]
    exact W.iret (v := r_5) hx hb hr (fun t ht hW => ⟨⟨r_5, C_6, rfl, ⟨hT, hF, ⟨⟨hR.1.fr hF (by decide), hR.2.fr hF (by decide)⟩, (fun A hA hok => Eq.trans hq_7 (pif_neg (fun h8 => (show ¬ okPk (A 5 0 2) (A 5 0 3) x1 x2 by rw [← (show gi (C 0) 13 = A 5 0 2 from hA.1 2 (by decide)), ← (show gi (C 0) 15 = A 5 0 3 from hA.1 3 (by decide))]; exact u_4) h8.1)).symm)⟩⟩, ⟨by rw [ht]; exact hP, hD⟩⟩, hS.F ht⟩) hS.2.2 dX7_goes_36
  · have u_10 := hq_2.2.1 c_3
    refine lv_aload_n hx hb dX7_goes_9 rfl (lv_at hl 0 rfl) ?_
    refine lv_iload_n hx hb dX7_goes_10 rfl (lv_at hl 3 rfl) ?_
    refine tq_V (As := [.int x3]) (rest := []) (ws := (oh_W n a C)) ⟨hx, hb, hml, hown, htg⟩ (e_X7_isRoad l D E G a C n hn hT x3) (cwV 1 htg (oh_gV q_1145 q_1147 q_36 q_73 q_1148) rfl rfl rfl pdVX7_isRoad ⟨Nat.le_of_ble_eq_true rfl, Nat.le_of_ble_eq_true rfl⟩) hK hP hG hS (va_recv hK hP (ci := 7) (q0 := 0) rfl (oh_wg (Nat.lt_of_lt_of_le (by decide) hn) (sM_0 hT))) rfl hl.1 rfl (Nat.le_of_ble_eq_true rfl) dX7_goes_11 ⟨Nat.le_of_ble_eq_true rfl, Nat.le_of_ble_eq_true rfl⟩ (fun r_11 hq_12 => ?_)
    refine lv_if_eq (tgt := 30) hx hb dX7_goes_14 (by decide) (fun (c_13 : r_11 = 0) => ?_) (fun (c_13 : ¬ (r_11 = 0)) => ?_)
    · have u_14 := hq_12.2.2 c_13
      refine lv_aload_n hx hb dX7_goes_30 rfl (lv_at hl 0 rfl) ?_
      refine lv_bipush (v := (-2)) hx hb dX7_goes_31 (by decide) ?_
      refine tm_V (As := [.int (-2)]) (rest := []) ⟨hx, hb, hml, hown, htg⟩ (c_X7_refuse l D E G _ a C n hn hT ((-2) : Int32) (rg_w (rg_c (v := (-2)) (lo := (-2)) (hi := (-2)) (by decide)) (by decide))) (cwV 1 htg (oh_gV q_1071 q_1073 q_29 q_73 q_1074) rfl rfl rfl pdVX7_refuse ⟨Nat.le_of_ble_eq_true rfl, Nat.le_of_ble_eq_true rfl⟩) hK hP hD hG hS hA (va_recv hK hP (ci := 7) (q0 := 0) rfl (oh_wg (Nat.lt_of_lt_of_le (by decide) hn) (sM_0 hT))) rfl hl.1 rfl (Nat.le_of_ble_eq_true rfl) dX7_goes_33 ⟨Nat.le_of_ble_eq_true rfl, Nat.le_of_ble_eq_true rfl⟩ (fun r_15 C_16 H locs hq_17 hP hD hS => ?_)
      obtain ⟨hT, f_18, hq_17⟩ := hq_17
      have hF := fr_tr hF f_18 (by decide) (by decide)
      refine W.widen (k := 0) (n := 0) (Nat.le_refl _) (Nat.le_refl _) ?_
      have t_19 := hT
      rw [hQ]
      exact W.iret (v := r_15) hx hb hr (fun t ht hW => ⟨⟨r_15, C_16, rfl, ⟨hT, hF, ⟨⟨hR.1.fr hF (by decide), hR.2.fr hF (by decide)⟩, (fun A hA hok => Eq.trans hq_17 (pif_neg (fun h8 => by have h7 := h8.2.1; rw [← (show gi (C 0) 9 = A 5 0 0 from hA.1 0 (by decide))] at h7; exact u_14 h7)).symm)⟩⟩, ⟨by rw [ht]; exact hP, hD⟩⟩, hS.F ht⟩) hS.2.2 dX7_goes_36
    · have u_20 := hq_12.2.1 c_13
      refine lv_iload hx hb dX7_goes_17 (lv_at hl 4 rfl) ?_
      refine lv_i2l (v := Int32.toInt64 x4) hx hb dX7_goes_19 (by rfl) ?_
      refine lv_lconst (v := 0) hx hb dX7_goes_20 (by decide) ?_
      refine lv_ldc2 (v := 4) hx hb hown (htg _ q_1069) dX7_goes_21 ?_
      refine tq_S (As := [.long (Int32.toInt64 x4), .long 0, .long 4]) (rest := []) (ws := []) ⟨hx, hb, hml, hown, htg⟩ (c_X7_in l D E G (Int32.toInt64 x4) (0 : Int64) (4 : Int64)) (va_cwS 3 htg (oh_gS q_1066 q_1067 q_73 q_1068) rfl rfl rfl pdX7_in ⟨Nat.le_of_ble_eq_true rfl, Nat.le_of_ble_eq_true rfl⟩) hK va_nil hG hS rfl hl.1 rfl (Nat.le_of_ble_eq_true rfl) dX7_goes_24 ⟨Nat.le_of_ble_eq_true rfl, Nat.le_of_ble_eq_true rfl⟩ (fun r_21 hq_22 => ?_)
      refine lv_if_ne (tgt := 37) hx hb dX7_goes_27 (by decide) (fun (c_23 : ¬ (r_21 = 0)) => ?_) (fun (c_23 : r_21 = 0) => ?_)
      · have u_24 := hq_22.2.1 c_23
        refine lv_aload_n hx hb dX7_goes_37 rfl (lv_at hl 0 rfl) ?_
        refine lv_iload_n hx hb dX7_goes_38 rfl (lv_at hl 1 rfl) ?_
        refine lv_iload_n hx hb dX7_goes_39 rfl (lv_at hl 2 rfl) ?_
        refine lv_iload_n hx hb dX7_goes_40 rfl (lv_at hl 3 rfl) ?_
        refine tq_V (As := [.int x1, .int x2, .int x3]) (rest := []) (ws := (oh_W n a C)) ⟨hx, hb, hml, hown, htg⟩ (e_X7_goesOf l D E G a C n hn hT x1 x2 x3 (rg_w u_10.1 (by decide)) (rg_w u_20.1 (by decide)) u_10.2.1) (cwV 3 htg (oh_gV q_1318 q_1320 q_54 q_73 q_1321) rfl rfl rfl pdVX7_goesOf ⟨Nat.le_of_ble_eq_true rfl, Nat.le_of_ble_eq_true rfl⟩) hK hP hG hS (va_recv hK hP (ci := 7) (q0 := 0) rfl (oh_wg (Nat.lt_of_lt_of_le (by decide) hn) (sM_0 hT))) rfl hl.1 rfl (Nat.le_of_ble_eq_true rfl) dX7_goes_41 ⟨Nat.le_of_ble_eq_true rfl, Nat.le_of_ble_eq_true rfl⟩ (fun r_25 hq_26 => ?_)
        refine lv_istore (lv' := [(5, .int r_25), (0, .ref (a 0)), (1, .int x1), (2, .int x2), (3, .int x3), (4, .int x4)]) hx hb dX7_goes_44 hl (by decide) rfl (fun ls hl => ?_)
        refine lv_iload hx hb dX7_goes_46 (lv_at hl 5 rfl) ?_
        refine lv_if_ne (tgt := 62) hx hb dX7_goes_48 (by decide) (fun (c_27 : ¬ (x4 = 0)) => ?_) (fun (c_27 : x4 = 0) => ?_)
        · refine lv_iload hx hb dX7_goes_62 (lv_at hl 5 rfl) ?_
          refine lv_iconst (v := 3) hx hb dX7_goes_64 (by decide) ?_
          refine lv_icmp_ne (tgt := 76) hx hb dX7_goes_65 (by decide) (fun (c_28 : ¬ (x4 = 3)) => ?_) (fun (c_28 : x4 = 3) => ?_)
          · refine lv_iload hx hb dX7_goes_76 (lv_at hl 0 rfl) ?_
            refine lv_if_ne (tgt := 88) hx hb dX7_goes_78 (by decide) (fun (c_29 : ¬ (r_25 = 0)) => ?_) (fun (c_29 : r_25 = 0) => ?_)
            · refine lv_iload hx hb dX7_goes_88 (lv_at hl 5 rfl) ?_
              refine lv_iconst (v := 1) hx hb dX7_goes_90 (by decide) ?_
              refine lv_icmp_ne (tgt := 105) hx hb dX7_goes_91 (by decide) (fun (c_30 : ¬ (x4 = 1)) => ?_) (fun (c_30 : x4 = 1) => ?_)
              · refine lv_iload hx hb dX7_goes_105 (lv_at hl 5 rfl) ?_
                refine lv_iconst (v := 2) hx hb dX7_goes_107 (by decide) ?_
                refine lv_icmp_ne (tgt := 121) hx hb dX7_goes_108 (by decide) (fun (c_31 : ¬ (x4 = 2)) => ?_) (fun (c_31 : x4 = 2) => ?_)
                · refine lv_aload_n hx hb dX7_goes_121 rfl (lv_at hl 1 rfl) ?_
                  refine lv_iload_n hx hb dX7_goes_122 rfl (lv_at hl 2 rfl) ?_
                  refine lv_iload_n hx hb dX7_goes_123 rfl (lv_at hl 3 rfl) ?_
                  refine lv_iload_n hx hb dX7_goes_124 rfl (lv_at hl 4 rfl) ?_
                  refine lv_iconst (v := 0) hx hb dX7_goes_125 (by decide) ?_
                  refine tq_V (As := [.int x1, .int x2, .int x3, .int 0]) (rest := []) (ws := (oh_W n a C)) ⟨hx, hb, hml, hown, htg⟩ (e_X7_propsOf l D E G a C n hn hT x1 x2 x3 (0 : Int32) (rg_w u_10.1 (by decide)) (rg_w (rg_c (v := 0) (lo := 0) (hi := 0) (by decide)) (by decide)) u_10.2.1) (cwV 4 htg (oh_gV q_1330 q_1332 q_57 q_73 q_1333) rfl rfl rfl pdVX7_propsOf ⟨Nat.le_of_ble_eq_true rfl, Nat.le_of_ble_eq_true rfl⟩) hK hP hG hS (va_recv hK hP (ci := 7) (q0 := 0) rfl (oh_wg (Nat.lt_of_lt_of_le (by decide) hn) (sM_0 hT))) rfl hl.1 rfl (Nat.le_of_ble_eq_true rfl) dX7_goes_126 ⟨Nat.le_of_ble_eq_true rfl, Nat.le_of_ble_eq_true rfl⟩ (fun r_32 hq_33 => ?_)
                  rw [hQ]
                  exact W.iret (v := r_32) hx hb hr (fun t ht hW => ⟨⟨r_32, C, rfl, ⟨hT, hF, ⟨hR, (fun A hA hok => by have hp := (show okPk (A 5 0 2) (A 5 0 3) x1 x2 by rw [← (show gi (C 0) 13 = A 5 0 2 from hA.1 2 (by decide)), ← (show gi (C 0) 15 = A 5 0 3 from hA.1 3 (by decide))]; exact u_10.2.2.2); have h3 : 0 ≤ x3 ∧ x3 < A 5 0 0 := (by rw [← (show gi (C 0) 9 = A 5 0 0 from hA.1 0 (by decide))]; exact u_20.2); have i3 : rg x3 0 23 := (rg_w (lo := 0) (hi := 23) u_20.1 (by decide)); have hgi := hq_26.2 A hA hok hp.1.2 h3.2; have hg := hgi.mp (oh_b1 (rg_w (lo := 0) (hi := 1) (rn_nel (l' := 1) c_29 (oh_rgb hq_26.1) (rg_c (v := 0) (lo := 0) (hi := 0) (by decide)) (by decide)) (by decide)) c_29); exact Eq.trans (Eq.trans (hq_33 A hA hok hp.1.2 i3) (vv_0 rfl)) ((Eq.trans (pif_pos ⟨hp, h3, (oh_rgI (p := 0) (q := 4) (rg_w (lo := 0) (hi := 4) (rg_il (rgL_i (rg_il (rnL_leu u_24.2 (rnL_lel u_24.1 (rgL_c (v := 0) (lo := 0) (hi := 0) (by decide)) (rgL_i (rg_any _))) (rgL_c (v := 4) (lo := 4) (hi := 4) (by decide)))))) (by decide)))⟩) (Eq.trans (pif_neg c_27) (Eq.trans (pif_neg c_28) (Eq.trans (pif_pos hg) (Eq.trans (pif_neg c_30) (pif_neg c_31))))))).symm)⟩⟩, ⟨by rw [ht]; exact hP, hD⟩⟩, hS.F ht⟩) hS.2.2 dX7_goes_129
                · refine lv_aload_n hx hb dX7_goes_111 rfl (lv_at hl 1 rfl) ?_
                  refine lv_iload_n hx hb dX7_goes_112 rfl (lv_at hl 2 rfl) ?_
                  refine lv_iload_n hx hb dX7_goes_113 rfl (lv_at hl 3 rfl) ?_
                  refine lv_iload_n hx hb dX7_goes_114 rfl (lv_at hl 4 rfl) ?_
                  refine tq_V (As := [.int x1, .int x2, .int x3]) (rest := []) (ws := (oh_W n a C)) ⟨hx, hb, hml, hown, htg⟩ (e_X7_daysOf l D E G a C n hn hT x1 x2 x3 (rg_w u_10.1 (by decide)) (rg_w u_20.1 (by decide)) u_10.2.1) (cwV 3 htg (oh_gV q_1334 q_1336 q_58 q_73 q_1337) rfl rfl rfl pdVX7_daysOf ⟨Nat.le_of_ble_eq_true rfl, Nat.le_of_ble_eq_true rfl⟩) hK hP hG hS (va_recv hK hP (ci := 7) (q0 := 0) rfl (oh_wg (Nat.lt_of_lt_of_le (by decide) hn) (sM_0 hT))) rfl hl.1 rfl (Nat.le_of_ble_eq_true rfl) dX7_goes_115 ⟨Nat.le_of_ble_eq_true rfl, Nat.le_of_ble_eq_true rfl⟩ (fun r_34 hq_35 => ?_)
                  refine lv_goto (tgt := 129) hx hb dX7_goes_118 (by decide) ?_
                  rw [hQ]
                  exact W.iret (v := r_34) hx hb hr (fun t ht hW => ⟨⟨r_34, C, rfl, ⟨hT, hF, ⟨hR, (fun A hA hok => by have hp := (show okPk (A 5 0 2) (A 5 0 3) x1 x2 by rw [← (show gi (C 0) 13 = A 5 0 2 from hA.1 2 (by decide)), ← (show gi (C 0) 15 = A 5 0 3 from hA.1 3 (by decide))]; exact u_10.2.2.2); have h3 : 0 ≤ x3 ∧ x3 < A 5 0 0 := (by rw [← (show gi (C 0) 9 = A 5 0 0 from hA.1 0 (by decide))]; exact u_20.2); have i3 : rg x3 0 23 := (rg_w (lo := 0) (hi := 23) u_20.1 (by decide)); have hgi := hq_26.2 A hA hok hp.1.2 h3.2; have hg := hgi.mp (oh_b1 (rg_w (lo := 0) (hi := 1) (rn_nel (l' := 1) c_29 (oh_rgb hq_26.1) (rg_c (v := 0) (lo := 0) (hi := 0) (by decide)) (by decide)) (by decide)) c_29); exact Eq.trans (hq_35 A hA hok hp.1.2 h3.2) ((Eq.trans (pif_pos ⟨hp, h3, (oh_rgI (p := 0) (q := 4) (rg_w (lo := 0) (hi := 4) (rn_eq c_31 (rg_c (v := 2) (lo := 2) (hi := 2) (by decide))) (by decide)))⟩) (Eq.trans (pif_neg c_27) (Eq.trans (pif_neg c_28) (Eq.trans (pif_pos hg) (Eq.trans (pif_neg c_30) (pif_pos c_31))))))).symm)⟩⟩, ⟨by rw [ht]; exact hP, hD⟩⟩, hS.F ht⟩) hS.2.2 dX7_goes_129
              · refine lv_aload_n hx hb dX7_goes_94 rfl (lv_at hl 1 rfl) ?_
                refine lv_iload_n hx hb dX7_goes_95 rfl (lv_at hl 2 rfl) ?_
                refine lv_iload_n hx hb dX7_goes_96 rfl (lv_at hl 3 rfl) ?_
                refine lv_iload_n hx hb dX7_goes_97 rfl (lv_at hl 4 rfl) ?_
                refine lv_iconst (v := 1) hx hb dX7_goes_98 (by decide) ?_
                refine tq_V (As := [.int x1, .int x2, .int x3, .int 1]) (rest := []) (ws := (oh_W n a C)) ⟨hx, hb, hml, hown, htg⟩ (e_X7_coinOf l D E G a C n hn hT x1 x2 x3 (1 : Int32) (rg_w u_10.1 (by decide)) (rg_w u_20.1 (by decide)) u_10.2.1) (cwV 4 htg (oh_gV q_1326 q_1328 q_56 q_73 q_1329) rfl rfl rfl pdVX7_coinOf ⟨Nat.le_of_ble_eq_true rfl, Nat.le_of_ble_eq_true rfl⟩) hK hP hG hS (va_recv hK hP (ci := 7) (q0 := 0) rfl (oh_wg (Nat.lt_of_lt_of_le (by decide) hn) (sM_0 hT))) rfl hl.1 rfl (Nat.le_of_ble_eq_true rfl) dX7_goes_99 ⟨Nat.le_of_ble_eq_true rfl, Nat.le_of_ble_eq_true rfl⟩ (fun r_36 hq_37 => ?_)
                refine lv_goto (tgt := 129) hx hb dX7_goes_102 (by decide) ?_
                rw [hQ]
                exact W.iret (v := r_36) hx hb hr (fun t ht hW => ⟨⟨r_36, C, rfl, ⟨hT, hF, ⟨hR, (fun A hA hok => by have hp := (show okPk (A 5 0 2) (A 5 0 3) x1 x2 by rw [← (show gi (C 0) 13 = A 5 0 2 from hA.1 2 (by decide)), ← (show gi (C 0) 15 = A 5 0 3 from hA.1 3 (by decide))]; exact u_10.2.2.2); have h3 : 0 ≤ x3 ∧ x3 < A 5 0 0 := (by rw [← (show gi (C 0) 9 = A 5 0 0 from hA.1 0 (by decide))]; exact u_20.2); have i3 : rg x3 0 23 := (rg_w (lo := 0) (hi := 23) u_20.1 (by decide)); have hgi := hq_26.2 A hA hok hp.1.2 h3.2; have hg := hgi.mp (oh_b1 (rg_w (lo := 0) (hi := 1) (rn_nel (l' := 1) c_29 (oh_rgb hq_26.1) (rg_c (v := 0) (lo := 0) (hi := 0) (by decide)) (by decide)) (by decide)) c_29); exact Eq.trans (hq_37 A hA hok hp.1.2 h3.2) ((Eq.trans (pif_pos ⟨hp, h3, (oh_rgI (p := 0) (q := 4) (rg_w (lo := 0) (hi := 4) (rn_eq c_30 (rg_c (v := 1) (lo := 1) (hi := 1) (by decide))) (by decide)))⟩) (Eq.trans (pif_neg c_27) (Eq.trans (pif_neg c_28) (Eq.trans (pif_pos hg) (pif_pos c_30)))))).symm)⟩⟩, ⟨by rw [ht]; exact hP, hD⟩⟩, hS.F ht⟩) hS.2.2 dX7_goes_129
            · refine lv_aload_n hx hb dX7_goes_81 rfl (lv_at hl 1 rfl) ?_
              refine lv_bipush (v := (-5)) hx hb dX7_goes_82 (by decide) ?_
              refine tm_V (As := [.int (-5)]) (rest := []) ⟨hx, hb, hml, hown, htg⟩ (c_X7_refuse l D E G _ a C n hn hT ((-5) : Int32) (rg_w (rg_c (v := (-5)) (lo := (-5)) (hi := (-5)) (by decide)) (by decide))) (cwV 1 htg (oh_gV q_1071 q_1073 q_29 q_73 q_1074) rfl rfl rfl pdVX7_refuse ⟨Nat.le_of_ble_eq_true rfl, Nat.le_of_ble_eq_true rfl⟩) hK hP hD hG hS hA (va_recv hK hP (ci := 7) (q0 := 0) rfl (oh_wg (Nat.lt_of_lt_of_le (by decide) hn) (sM_0 hT))) rfl hl.1 rfl (Nat.le_of_ble_eq_true rfl) dX7_goes_84 ⟨Nat.le_of_ble_eq_true rfl, Nat.le_of_ble_eq_true rfl⟩ (fun r_38 C_39 H locs hq_40 hP hD hS => ?_)
              obtain ⟨hT, f_41, hq_40⟩ := hq_40
              have hF := fr_tr hF f_41 (by decide) (by decide)
              refine W.widen (k := 0) (n := 0) (Nat.le_refl _) (Nat.le_refl _) ?_
              have t_42 := hT
              rw [hQ]
              exact W.iret (v := r_38) hx hb hr (fun t ht hW => ⟨⟨r_38, C_39, rfl, ⟨hT, hF, ⟨⟨hR.1.fr hF (by decide), hR.2.fr hF (by decide)⟩, (fun A hA hok => by have hp := (show okPk (A 5 0 2) (A 5 0 3) x1 x2 by rw [← (show gi (C 0) 13 = A 5 0 2 from hA.1 2 (by decide)), ← (show gi (C 0) 15 = A 5 0 3 from hA.1 3 (by decide))]; exact u_10.2.2.2); have h3 : 0 ≤ x3 ∧ x3 < A 5 0 0 := (by rw [← (show gi (C 0) 9 = A 5 0 0 from hA.1 0 (by decide))]; exact u_20.2); have i3 : rg x3 0 23 := (rg_w (lo := 0) (hi := 23) u_20.1 (by decide)); have hgi := hq_26.2 A hA hok hp.1.2 h3.2; have hg : ¬ gsA A x1 x2 x3.toNatClampNeg := (fun q => absurd (Eq.trans (Eq.symm c_29) (hgi.mpr q)) (by decide)); exact Eq.trans hq_40 ((Eq.trans (pif_pos ⟨hp, h3, (oh_rgI (p := 0) (q := 4) (rg_w (lo := 0) (hi := 4) (rg_il (rgL_i (rg_il (rnL_leu u_24.2 (rnL_lel u_24.1 (rgL_c (v := 0) (lo := 0) (hi := 0) (by decide)) (rgL_i (rg_any _))) (rgL_c (v := 4) (lo := 4) (hi := 4) (by decide)))))) (by decide)))⟩) (Eq.trans (pif_neg c_27) (Eq.trans (pif_neg c_28) (pif_neg hg))))).symm)⟩⟩, ⟨by rw [ht]; exact hP, hD⟩⟩, hS.F ht⟩) hS.2.2 dX7_goes_87
          · refine lv_aload_n hx hb dX7_goes_68 rfl (lv_at hl 1 rfl) ?_
            refine lv_iload_n hx hb dX7_goes_69 rfl (lv_at hl 2 rfl) ?_
            refine lv_iload_n hx hb dX7_goes_70 rfl (lv_at hl 3 rfl) ?_
            refine lv_iload_n hx hb dX7_goes_71 rfl (lv_at hl 4 rfl) ?_
            refine tq_V (As := [.int x1, .int x2, .int x3]) (rest := []) (ws := (oh_W n a C)) ⟨hx, hb, hml, hown, htg⟩ (e_X7_enginesOf l D E G a C n hn hT x1 x2 x3 (rg_w u_10.1 (by decide)) (rg_w u_20.1 (by decide)) u_10.2.1) (cwV 3 htg (oh_gV q_1322 q_1324 q_55 q_73 q_1325) rfl rfl rfl pdVX7_enginesOf ⟨Nat.le_of_ble_eq_true rfl, Nat.le_of_ble_eq_true rfl⟩) hK hP hG hS (va_recv hK hP (ci := 7) (q0 := 0) rfl (oh_wg (Nat.lt_of_lt_of_le (by decide) hn) (sM_0 hT))) rfl hl.1 rfl (Nat.le_of_ble_eq_true rfl) dX7_goes_72 ⟨Nat.le_of_ble_eq_true rfl, Nat.le_of_ble_eq_true rfl⟩ (fun r_43 hq_44 => ?_)
            rw [hQ]
            exact W.iret (v := r_43) hx hb hr (fun t ht hW => ⟨⟨r_43, C, rfl, ⟨hT, hF, ⟨hR, (fun A hA hok => by have hp := (show okPk (A 5 0 2) (A 5 0 3) x1 x2 by rw [← (show gi (C 0) 13 = A 5 0 2 from hA.1 2 (by decide)), ← (show gi (C 0) 15 = A 5 0 3 from hA.1 3 (by decide))]; exact u_10.2.2.2); have h3 : 0 ≤ x3 ∧ x3 < A 5 0 0 := (by rw [← (show gi (C 0) 9 = A 5 0 0 from hA.1 0 (by decide))]; exact u_20.2); have i3 : rg x3 0 23 := (rg_w (lo := 0) (hi := 23) u_20.1 (by decide)); have hgi := hq_26.2 A hA hok hp.1.2 h3.2; exact Eq.trans (hq_44 A hA hok hp.1.2 h3.2) ((Eq.trans (pif_pos ⟨hp, h3, (oh_rgI (p := 0) (q := 4) (rg_w (lo := 0) (hi := 4) (rn_eq c_28 (rg_c (v := 3) (lo := 3) (hi := 3) (by decide))) (by decide)))⟩) (Eq.trans (pif_neg c_27) (pif_pos c_28)))).symm)⟩⟩, ⟨by rw [ht]; exact hP, hD⟩⟩, hS.F ht⟩) hS.2.2 dX7_goes_75
        · refine lv_iload hx hb dX7_goes_51 (lv_at hl 0 rfl) ?_
          refine lv_if_eq (tgt := 60) hx hb dX7_goes_53 (by decide) (fun (c_45 : r_25 = 0) => ?_) (fun (c_45 : ¬ (r_25 = 0)) => ?_)
          · refine lv_iconst (v := 0) hx hb dX7_goes_60 (by decide) ?_
            rw [hQ]
            exact W.iret (v := 0) hx hb hr (fun t ht hW => ⟨⟨0, C, rfl, ⟨hT, hF, ⟨hR, (fun A hA hok => by have hp := (show okPk (A 5 0 2) (A 5 0 3) x1 x2 by rw [← (show gi (C 0) 13 = A 5 0 2 from hA.1 2 (by decide)), ← (show gi (C 0) 15 = A 5 0 3 from hA.1 3 (by decide))]; exact u_10.2.2.2); have h3 : 0 ≤ x3 ∧ x3 < A 5 0 0 := (by rw [← (show gi (C 0) 9 = A 5 0 0 from hA.1 0 (by decide))]; exact u_20.2); have i3 : rg x3 0 23 := (rg_w (lo := 0) (hi := 23) u_20.1 (by decide)); have hgi := hq_26.2 A hA hok hp.1.2 h3.2; have hg : ¬ gsA A x1 x2 x3.toNatClampNeg := (fun q => absurd (Eq.trans (Eq.symm c_45) (hgi.mpr q)) (by decide)); exact ((Eq.trans (pif_pos ⟨hp, h3, (oh_rgI (p := 0) (q := 4) (rg_w (lo := 0) (hi := 4) (rn_eq c_27 (rg_c (v := 0) (lo := 0) (hi := 0) (by decide))) (by decide)))⟩) (Eq.trans (pif_pos c_27) (pif_neg hg)))).symm)⟩⟩, ⟨by rw [ht]; exact hP, hD⟩⟩, hS.F ht⟩) hS.2.2 dX7_goes_61
          · refine lv_iconst (v := 1) hx hb dX7_goes_56 (by decide) ?_
            refine lv_goto (tgt := 61) hx hb dX7_goes_57 (by decide) ?_
            rw [hQ]
            exact W.iret (v := 1) hx hb hr (fun t ht hW => ⟨⟨1, C, rfl, ⟨hT, hF, ⟨hR, (fun A hA hok => by have hp := (show okPk (A 5 0 2) (A 5 0 3) x1 x2 by rw [← (show gi (C 0) 13 = A 5 0 2 from hA.1 2 (by decide)), ← (show gi (C 0) 15 = A 5 0 3 from hA.1 3 (by decide))]; exact u_10.2.2.2); have h3 : 0 ≤ x3 ∧ x3 < A 5 0 0 := (by rw [← (show gi (C 0) 9 = A 5 0 0 from hA.1 0 (by decide))]; exact u_20.2); have i3 : rg x3 0 23 := (rg_w (lo := 0) (hi := 23) u_20.1 (by decide)); have hgi := hq_26.2 A hA hok hp.1.2 h3.2; have hg := hgi.mp (oh_b1 (rg_w (lo := 0) (hi := 1) (rn_nel (l' := 1) c_45 (oh_rgb hq_26.1) (rg_c (v := 0) (lo := 0) (hi := 0) (by decide)) (by decide)) (by decide)) c_45); exact ((Eq.trans (pif_pos ⟨hp, h3, (oh_rgI (p := 0) (q := 4) (rg_w (lo := 0) (hi := 4) (rn_eq c_27 (rg_c (v := 0) (lo := 0) (hi := 0) (by decide))) (by decide)))⟩) (Eq.trans (pif_pos c_27) (pif_pos hg)))).symm)⟩⟩, ⟨by rw [ht]; exact hP, hD⟩⟩, hS.F ht⟩) hS.2.2 dX7_goes_61
      · have u_46 := hq_22.2.2 c_23
        refine lv_aload_n hx hb dX7_goes_30 rfl (lv_at hl 0 rfl) ?_
        refine lv_bipush (v := (-2)) hx hb dX7_goes_31 (by decide) ?_
        refine tm_V (As := [.int (-2)]) (rest := []) ⟨hx, hb, hml, hown, htg⟩ (c_X7_refuse l D E G _ a C n hn hT ((-2) : Int32) (rg_w (rg_c (v := (-2)) (lo := (-2)) (hi := (-2)) (by decide)) (by decide))) (cwV 1 htg (oh_gV q_1071 q_1073 q_29 q_73 q_1074) rfl rfl rfl pdVX7_refuse ⟨Nat.le_of_ble_eq_true rfl, Nat.le_of_ble_eq_true rfl⟩) hK hP hD hG hS hA (va_recv hK hP (ci := 7) (q0 := 0) rfl (oh_wg (Nat.lt_of_lt_of_le (by decide) hn) (sM_0 hT))) rfl hl.1 rfl (Nat.le_of_ble_eq_true rfl) dX7_goes_33 ⟨Nat.le_of_ble_eq_true rfl, Nat.le_of_ble_eq_true rfl⟩ (fun r_47 C_48 H locs hq_49 hP hD hS => ?_)
        obtain ⟨hT, f_50, hq_49⟩ := hq_49
        have hF := fr_tr hF f_50 (by decide) (by decide)
        refine W.widen (k := 0) (n := 0) (Nat.le_refl _) (Nat.le_refl _) ?_
        have t_51 := hT
        rw [hQ]
        exact W.iret (v := r_47) hx hb hr (fun t ht hW => ⟨⟨r_47, C_48, rfl, ⟨hT, hF, ⟨⟨hR.1.fr hF (by decide), hR.2.fr hF (by decide)⟩, (fun A hA hok => Eq.trans hq_49 (pif_neg (fun h8 => (oh_in64 (l' := 0) (k' := 4) rfl rfl u_46) h8.2.2)).symm)⟩⟩, ⟨by rw [ht]; exact hP, hD⟩⟩, hS.F ht⟩) hS.2.2 dX7_goes_36

set_option maxHeartbeats 4000000 in
set_option maxRecDepth 100000 in
theorem e_X6_orStuck (l : Launch) (D : va_G) (E : Nat → ClassId) (G : Nat → Nat) (sz : Nat) (a : Nat → Nat) (C : Nat → va_E) (hT : TyX a E C) (x1 : Int32) : Met l yX6_orStuck (oh_w yX6_orStuck cX6_orStuck 2 (some .int)) ({ frames := 2, cells := 0, slots := 0, locals := 44 }) (oh_Pm D E G [.ref (a 0), .int x1] (oh_W 35 a C) sz) (va_Qi (fun r (u : Nat → va_E) => TyX a E u ∧ fr [(7, 8)] [] C u ∧ (r = pif (x1 = 1000000000) (-5) x1)) (oh_B D (va_A (oh_W 35 a C) sz) (fun u => oh_W 35 a u)) (va_A (oh_W 35 a C) sz)) 0 0 (va_A (oh_W 35 a C) sz) := by
  refine Met.ofW (cc := cX6_orStuck) (maxL := 2) (ret := (some .int)) (by decide) rfl ?_
  intro p e s m args below meth c s₁ B hml hv
  obtain ⟨rfl, hsz, hP, hK, hD0, hG⟩ := hv
  have hx := B.exec
  have hb := B.bytes
  have hr := B.returns
  have hts := atoms_spec (ws := (oh_w yX6_orStuck cX6_orStuck 2 (some .int))) B.pre
  have htg : ∀ w ∈ oh_t, w.before _ s = true := fun w h => hts w (List.mem_cons_of_mem _ h)
  have hown : s.vm.findClass RX6 = some m.cls := findClass_of_methodNamed B.named
  have hlocks := B.notSynchronized
  have hT0 := hT
  subst hsz
  have hD := hD0.self (sz := s.heap.size)
  generalize hAe : va_A (oh_W 35 a C) s.heap.size = A at hD hG ⊢
  have hA : ∀ q : Nat, s.heap.size ≤ q → A q := fun q h => by rw [← hAe]; exact Or.inr h
  have hS : va_S A s.heap s.heap [] := va_S.rf
  have hF : fr [(7, 8)] [] C C := fr_rf
  have hl := lv_entry ([.ref (a 0), .int x1]) (n := 2) (Nat.le_of_ble_eq_true rfl)
  rw [lg_entry_eq]
  generalize (lg_sl ([.ref (a 0), .int x1]) ++ List.replicate (2 - (lg_sl ([.ref (a 0), .int x1])).length) Slot.unset).toArray = ls at hl ⊢
  have hl : lv_has ls 2 [(0, .ref (a 0)), (1, .int x1)] := hl
  refine oh_genQ (fun Q hQ => ?_)
  refine lv_iload_n hx hb dX6_orStuck_0 rfl (lv_at hl 1 rfl) ?_
  refine lv_ldc (v := 1000000000) hx hb hown (htg _ q_803) dX6_orStuck_1 ?_
  refine lv_icmp_ne (tgt := 15) hx hb dX6_orStuck_3 (by decide) (fun (c_1 : ¬ (x1 = 1000000000)) => ?_) (fun (c_1 : x1 = 1000000000) => ?_)
  · refine lv_iload_n hx hb dX6_orStuck_15 rfl (lv_at hl 1 rfl) ?_
    rw [hQ]
    exact W.iret (v := x1) hx hb hr (fun t ht hW => ⟨⟨x1, C, rfl, ⟨hT, hF, (pif_neg c_1).symm⟩, ⟨by rw [ht]; exact hP, hD⟩⟩, hS.F ht⟩) hS.2.2 dX6_orStuck_16
  · refine lv_aload_n hx hb dX6_orStuck_6 rfl (lv_at hl 0 rfl) ?_
    refine lv_bipush (v := (-5)) hx hb dX6_orStuck_7 (by decide) ?_
    refine tm_V (As := [.int (-5)]) (rest := []) ⟨hx, hb, hml, hown, htg⟩ (c_X6_refuse l D E G _ a C hT ((-5) : Int32)) (cwV 1 htg (oh_gV q_296 q_298 q_0 q_66 q_299) rfl rfl rfl pdVX6_refuse ⟨Nat.le_of_ble_eq_true rfl, Nat.le_of_ble_eq_true rfl⟩) hK hP hD hG hS hA (va_recv hK hP (ci := 6) (q0 := 0) rfl (oh_wg (by decide) (sX_0 hT))) rfl hl.1 rfl (Nat.le_of_ble_eq_true rfl) dX6_orStuck_9 ⟨Nat.le_of_ble_eq_true rfl, Nat.le_of_ble_eq_true rfl⟩ (fun r_2 C_3 H locs hq_4 hP hD hS => ?_)
    obtain ⟨hT, f_5, hq_4⟩ := hq_4
    have hF := fr_tr hF f_5 (by decide) (by decide)
    refine W.widen (k := 0) (n := 0) (Nat.le_refl _) (Nat.le_refl _) ?_
    have t_6 := hT
    refine lv_goto (tgt := 16) hx hb dX6_orStuck_12 (by decide) ?_
    rw [hQ]
    exact W.iret (v := r_2) hx hb hr (fun t ht hW => ⟨⟨r_2, C_3, rfl, ⟨hT, hF, (Eq.trans hq_4 (pif_pos c_1).symm)⟩, ⟨by rw [ht]; exact hP, hD⟩⟩, hS.F ht⟩) hS.2.2 dX6_orStuck_16

set_option maxHeartbeats 4000000 in
set_option maxRecDepth 100000 in
theorem e_X6_cheapest (l : Launch) (D : va_G) (E : Nat → ClassId) (G : Nat → Nat) (sz : Nat) (a : Nat → Nat) (C : Nat → va_E) (hT : TyX a E C) (x1 : Int32) (x2 : Int32) (x3 : Int32) (x4 : Int32) : Met l yX6_cheapest (oh_w yX6_cheapest cX6_cheapest 5 (some .int)) ({ frames := 5, cells := 0, slots := 0, locals := 125 }) (oh_Pm D E G [.ref (a 0), .int x1, .int x2, .int x3, .int x4] (oh_W 35 a C) sz) (va_Qi (fun r (u : Nat → va_E) => TyX a E u ∧ fr [(7, 8), (9, 10), (24, 28)] [] C u ∧ (∀ A : LA, absX 10 C A → okA A → r = spChp A x1 x2 x3 x4 1)) (oh_B D (va_A (oh_W 35 a C) sz) (fun u => oh_W 35 a u)) (va_A (oh_W 35 a C) sz)) 0 0 (va_A (oh_W 35 a C) sz) := by
  refine Met.ofW (cc := cX6_cheapest) (maxL := 5) (ret := (some .int)) (by decide) rfl ?_
  intro p e s m args below meth c s₁ B hml hv
  obtain ⟨rfl, hsz, hP, hK, hD0, hG⟩ := hv
  have hx := B.exec
  have hb := B.bytes
  have hr := B.returns
  have hts := atoms_spec (ws := (oh_w yX6_cheapest cX6_cheapest 5 (some .int))) B.pre
  have htg : ∀ w ∈ oh_t, w.before _ s = true := fun w h => hts w (List.mem_cons_of_mem _ h)
  have hown : s.vm.findClass RX6 = some m.cls := findClass_of_methodNamed B.named
  have hlocks := B.notSynchronized
  have hT0 := hT
  subst hsz
  have hD := hD0.self (sz := s.heap.size)
  generalize hAe : va_A (oh_W 35 a C) s.heap.size = A at hD hG ⊢
  have hA : ∀ q : Nat, s.heap.size ≤ q → A q := fun q h => by rw [← hAe]; exact Or.inr h
  have hS : va_S A s.heap s.heap [] := va_S.rf
  have hF : fr [(7, 8), (9, 10), (24, 28)] [] C C := fr_rf
  have hl := lv_entry ([.ref (a 0), .int x1, .int x2, .int x3, .int x4]) (n := 5) (Nat.le_of_ble_eq_true rfl)
  rw [lg_entry_eq]
  generalize (lg_sl ([.ref (a 0), .int x1, .int x2, .int x3, .int x4]) ++ List.replicate (5 - (lg_sl ([.ref (a 0), .int x1, .int x2, .int x3, .int x4])).length) Slot.unset).toArray = ls at hl ⊢
  have hl : lv_has ls 5 [(0, .ref (a 0)), (1, .int x1), (2, .int x2), (3, .int x3), (4, .int x4)] := hl
  refine oh_genQ (fun Q hQ => ?_)
  refine lv_aload_n hx hb dX6_cheapest_0 rfl (lv_at hl 0 rfl) ?_
  refine lv_iload_n hx hb dX6_cheapest_1 rfl (lv_at hl 1 rfl) ?_
  refine lv_iload_n hx hb dX6_cheapest_2 rfl (lv_at hl 2 rfl) ?_
  refine lv_iload_n hx hb dX6_cheapest_3 rfl (lv_at hl 3 rfl) ?_
  refine lv_iload hx hb dX6_cheapest_4 (lv_at hl 4 rfl) ?_
  refine tq_V (As := [.int x1, .int x2, .int x3, .int x4]) (rest := []) (ws := (oh_W 35 a C)) ⟨hx, hb, hml, hown, htg⟩ (e_X6_isJourney l D E G a C hT x1 x2 x3 x4) (cwV 4 htg (oh_gV q_776 q_778 q_17 q_66 q_779) rfl rfl rfl pdVX6_isJourney ⟨Nat.le_of_ble_eq_true rfl, Nat.le_of_ble_eq_true rfl⟩) hK hP hG hS (va_recv hK hP (ci := 6) (q0 := 0) rfl (oh_wg (by decide) (sX_0 hT))) rfl hl.1 rfl (Nat.le_of_ble_eq_true rfl) dX6_cheapest_6 ⟨Nat.le_of_ble_eq_true rfl, Nat.le_of_ble_eq_true rfl⟩ (fun r_1 hq_2 => ?_)
  refine lv_if_ne (tgt := 19) hx hb dX6_cheapest_9 (by decide) (fun (c_3 : ¬ (r_1 = 0)) => ?_) (fun (c_3 : r_1 = 0) => ?_)
  · have u_4 := hq_2.2.1 c_3
    refine lv_aload_n hx hb dX6_cheapest_19 rfl (lv_at hl 0 rfl) ?_
    refine lv_aload_n hx hb dX6_cheapest_20 rfl (lv_at hl 0 rfl) ?_
    refine va_get (D := D) (ci := 6) (v := .ref (a 3)) (C := RX6) (T := TX6) (N := 9) hx hb htg ig_6 hown hK hP 0 (oh_wg (by decide) (sX_0 hT)) rfl 3 (by decide) (htg _ q_261) (fun _ h9 => h9) rfl dX6_cheapest_21 ?_
    refine lv_iload_n hx hb dX6_cheapest_24 rfl (lv_at hl 1 rfl) ?_
    refine lv_iload_n hx hb dX6_cheapest_25 rfl (lv_at hl 2 rfl) ?_
    refine lv_iload_n hx hb dX6_cheapest_26 rfl (lv_at hl 3 rfl) ?_
    refine lv_iload hx hb dX6_cheapest_27 (lv_at hl 4 rfl) ?_
    refine lv_iconst (v := 1) hx hb dX6_cheapest_29 (by decide) ?_
    refine tm_V (As := [.int x1, .int x2, .int x3, .int x4, .int 1]) (rest := [.ref (a 0)]) ⟨hx, hb, hml, hown, htg⟩ (e_X5_leastCoin l D E G _ a C hT x1 x2 x3 x4 (1 : Int32) (rg_w u_4.1 (by decide)) (rg_w u_4.2.1 (by decide)) (rg_w u_4.2.2.1 (by decide))) (cwV 5 htg (oh_gV q_780 q_781 q_782 q_68 q_783) rfl rfl rfl pdVX5_leastCoin ⟨Nat.le_of_ble_eq_true rfl, Nat.le_of_ble_eq_true rfl⟩) hK hP hD hG hS hA (va_recv hK hP (ci := 5) (q0 := 3) rfl (oh_wg (by decide) (sX_3 hT))) rfl hl.1 rfl (Nat.le_of_ble_eq_true rfl) dX6_cheapest_30 ⟨Nat.le_of_ble_eq_true rfl, Nat.le_of_ble_eq_true rfl⟩ (fun r_5 C_6 H locs hq_7 hP hD hS => ?_)
    obtain ⟨hT, f_8, hq_7⟩ := hq_7
    have hF := fr_tr hF f_8 (by decide) (by decide)
    refine W.widen (k := 0) (n := 0) (Nat.le_refl _) (Nat.le_refl _) ?_
    have t_9 := hT
    refine tm_V (As := [.int r_5]) (rest := []) ⟨hx, hb, hml, hown, htg⟩ (e_X6_orStuck l D E G _ a C_6 hT r_5) (cwV 1 htg (oh_gV q_799 q_801 q_21 q_66 q_802) rfl rfl rfl pdVX6_orStuck ⟨Nat.le_of_ble_eq_true rfl, Nat.le_of_ble_eq_true rfl⟩) hK hP hD hG hS hA (va_recv hK hP (ci := 6) (q0 := 0) rfl (oh_wg (by decide) (sX_0 hT))) rfl hl.1 rfl (Nat.le_of_ble_eq_true rfl) dX6_cheapest_33 ⟨Nat.le_of_ble_eq_true rfl, Nat.le_of_ble_eq_true rfl⟩ (fun r_10 C_11 H locs hq_12 hP hD hS => ?_)
    obtain ⟨hT, f_13, hq_12⟩ := hq_12
    have hF := fr_tr hF f_13 (by decide) (by decide)
    refine W.widen (k := 0) (n := 0) (Nat.le_refl _) (Nat.le_refl _) ?_
    have t_14 := hT
    rw [hQ]
    exact W.iret (v := r_10) hx hb hr (fun t ht hW => ⟨⟨r_10, C_11, rfl, ⟨hT, hF, (fun A hA hok => by have hj : okJ A x1 x2 x3 x4 := (by unfold okJ; rw [← (show ga (C 10) ((2 : Int32)).toNatClampNeg = A 5 0 2 from hA.1 2 (by decide)), ← (show ga (C 10) ((3 : Int32)).toNatClampNeg = A 5 0 3 from hA.1 3 (by decide))]; exact u_4.2.2.2); exact Eq.trans (Eq.trans hq_12 (lc_st hok (rg_w (lo := 0) (hi := 4) u_4.1 (by decide)) hj.1.1.2 ⟨by decide, by decide⟩ (rg_w (lo := 0) (hi := 15) u_4.2.1 (by decide)) (rg_w (lo := 0) (hi := 15) u_4.2.2.1 (by decide)) (hq_7 A hA hok hj.1.1.2 ⟨by decide, by decide⟩))) (pif_pos ⟨hj, ⟨by decide, by decide⟩⟩).symm)⟩, ⟨by rw [ht]; exact hP, hD⟩⟩, hS.F ht⟩) hS.2.2 dX6_cheapest_36
  · have u_15 := hq_2.2.2 c_3
    refine lv_aload_n hx hb dX6_cheapest_12 rfl (lv_at hl 0 rfl) ?_
    refine lv_bipush (v := (-2)) hx hb dX6_cheapest_13 (by decide) ?_
    refine tm_V (As := [.int (-2)]) (rest := []) ⟨hx, hb, hml, hown, htg⟩ (c_X6_refuse l D E G _ a C hT ((-2) : Int32)) (cwV 1 htg (oh_gV q_296 q_298 q_0 q_66 q_299) rfl rfl rfl pdVX6_refuse ⟨Nat.le_of_ble_eq_true rfl, Nat.le_of_ble_eq_true rfl⟩) hK hP hD hG hS hA (va_recv hK hP (ci := 6) (q0 := 0) rfl (oh_wg (by decide) (sX_0 hT))) rfl hl.1 rfl (Nat.le_of_ble_eq_true rfl) dX6_cheapest_15 ⟨Nat.le_of_ble_eq_true rfl, Nat.le_of_ble_eq_true rfl⟩ (fun r_16 C_17 H locs hq_18 hP hD hS => ?_)
    obtain ⟨hT, f_19, hq_18⟩ := hq_18
    have hF := fr_tr hF f_19 (by decide) (by decide)
    refine W.widen (k := 0) (n := 0) (Nat.le_refl _) (Nat.le_refl _) ?_
    have t_20 := hT
    rw [hQ]
    exact W.iret (v := r_16) hx hb hr (fun t ht hW => ⟨⟨r_16, C_17, rfl, ⟨hT, hF, (fun A hA hok => Eq.trans hq_18 (pif_neg (fun h8 => by have h7 := h8.1; unfold okJ at h7; rw [← (show ga (C 10) ((2 : Int32)).toNatClampNeg = A 5 0 2 from hA.1 2 (by decide)), ← (show ga (C 10) ((3 : Int32)).toNatClampNeg = A 5 0 3 from hA.1 3 (by decide))] at h7; exact u_15 h7)).symm)⟩, ⟨by rw [ht]; exact hP, hD⟩⟩, hS.F ht⟩) hS.2.2 dX6_cheapest_18

set_option maxHeartbeats 4000000 in
set_option maxRecDepth 100000 in
theorem e_X6_again (l : Launch) (D : va_G) (E : Nat → ClassId) (G : Nat → Nat) (sz : Nat) (a : Nat → Nat) (C : Nat → va_E) (hT : TyX a E C) (x1 : Int32) (x2 : Int32) (x3 : Int32) (x4 : Int32) (x5 : Int32) : Met l yX6_again (oh_w yX6_again cX6_again 6 (some .int)) ({ frames := 5, cells := 0, slots := 0, locals := 125 }) (oh_Pm D E G [.ref (a 0), .int x1, .int x2, .int x3, .int x4, .int x5] (oh_W 35 a C) sz) (va_Qi (fun r (u : Nat → va_E) => TyX a E u ∧ fr [(7, 8), (9, 10), (24, 28)] [] C u ∧ (∀ A : LA, absX 10 C A → okA A → r = spChp A x1 x2 x3 x4 x5)) (oh_B D (va_A (oh_W 35 a C) sz) (fun u => oh_W 35 a u)) (va_A (oh_W 35 a C) sz)) 0 0 (va_A (oh_W 35 a C) sz) := by
  refine Met.ofW (cc := cX6_again) (maxL := 6) (ret := (some .int)) (by decide) rfl ?_
  intro p e s m args below meth c s₁ B hml hv
  obtain ⟨rfl, hsz, hP, hK, hD0, hG⟩ := hv
  have hx := B.exec
  have hb := B.bytes
  have hr := B.returns
  have hts := atoms_spec (ws := (oh_w yX6_again cX6_again 6 (some .int))) B.pre
  have htg : ∀ w ∈ oh_t, w.before _ s = true := fun w h => hts w (List.mem_cons_of_mem _ h)
  have hown : s.vm.findClass RX6 = some m.cls := findClass_of_methodNamed B.named
  have hlocks := B.notSynchronized
  have hT0 := hT
  subst hsz
  have hD := hD0.self (sz := s.heap.size)
  generalize hAe : va_A (oh_W 35 a C) s.heap.size = A at hD hG ⊢
  have hA : ∀ q : Nat, s.heap.size ≤ q → A q := fun q h => by rw [← hAe]; exact Or.inr h
  have hS : va_S A s.heap s.heap [] := va_S.rf
  have hF : fr [(7, 8), (9, 10), (24, 28)] [] C C := fr_rf
  have hl := lv_entry ([.ref (a 0), .int x1, .int x2, .int x3, .int x4, .int x5]) (n := 6) (Nat.le_of_ble_eq_true rfl)
  rw [lg_entry_eq]
  generalize (lg_sl ([.ref (a 0), .int x1, .int x2, .int x3, .int x4, .int x5]) ++ List.replicate (6 - (lg_sl ([.ref (a 0), .int x1, .int x2, .int x3, .int x4, .int x5])).length) Slot.unset).toArray = ls at hl ⊢
  have hl : lv_has ls 6 [(0, .ref (a 0)), (1, .int x1), (2, .int x2), (3, .int x3), (4, .int x4), (5, .int x5)] := hl
  refine oh_genQ (fun Q hQ => ?_)
  refine lv_aload_n hx hb dX6_again_0 rfl (lv_at hl 0 rfl) ?_
  refine lv_iload_n hx hb dX6_again_1 rfl (lv_at hl 1 rfl) ?_
  refine lv_iload_n hx hb dX6_again_2 rfl (lv_at hl 2 rfl) ?_
  refine lv_iload_n hx hb dX6_again_3 rfl (lv_at hl 3 rfl) ?_
  refine lv_iload hx hb dX6_again_4 (lv_at hl 4 rfl) ?_
  refine tq_V (As := [.int x1, .int x2, .int x3, .int x4]) (rest := []) (ws := (oh_W 35 a C)) ⟨hx, hb, hml, hown, htg⟩ (e_X6_isJourney l D E G a C hT x1 x2 x3 x4) (cwV 4 htg (oh_gV q_776 q_778 q_17 q_66 q_779) rfl rfl rfl pdVX6_isJourney ⟨Nat.le_of_ble_eq_true rfl, Nat.le_of_ble_eq_true rfl⟩) hK hP hG hS (va_recv hK hP (ci := 6) (q0 := 0) rfl (oh_wg (by decide) (sX_0 hT))) rfl hl.1 rfl (Nat.le_of_ble_eq_true rfl) dX6_again_6 ⟨Nat.le_of_ble_eq_true rfl, Nat.le_of_ble_eq_true rfl⟩ (fun r_1 hq_2 => ?_)
  refine lv_if_eq (tgt := 23) hx hb dX6_again_9 (by decide) (fun (c_3 : r_1 = 0) => ?_) (fun (c_3 : ¬ (r_1 = 0)) => ?_)
  · have u_4 := hq_2.2.2 c_3
    refine lv_aload_n hx hb dX6_again_23 rfl (lv_at hl 0 rfl) ?_
    refine lv_bipush (v := (-2)) hx hb dX6_again_24 (by decide) ?_
    refine tm_V (As := [.int (-2)]) (rest := []) ⟨hx, hb, hml, hown, htg⟩ (c_X6_refuse l D E G _ a C hT ((-2) : Int32)) (cwV 1 htg (oh_gV q_296 q_298 q_0 q_66 q_299) rfl rfl rfl pdVX6_refuse ⟨Nat.le_of_ble_eq_true rfl, Nat.le_of_ble_eq_true rfl⟩) hK hP hD hG hS hA (va_recv hK hP (ci := 6) (q0 := 0) rfl (oh_wg (by decide) (sX_0 hT))) rfl hl.1 rfl (Nat.le_of_ble_eq_true rfl) dX6_again_26 ⟨Nat.le_of_ble_eq_true rfl, Nat.le_of_ble_eq_true rfl⟩ (fun r_5 C_6 H locs hq_7 hP hD hS => ?_)
    obtain ⟨hT, f_8, hq_7⟩ := hq_7
    have hF := fr_tr hF f_8 (by decide) (by decide)
    refine W.widen (k := 0) (n := 0) (Nat.le_refl _) (Nat.le_refl _) ?_
    have t_9 := hT
    rw [hQ]
    exact W.iret (v := r_5) hx hb hr (fun t ht hW => ⟨⟨r_5, C_6, rfl, ⟨hT, hF, (fun A hA hok => Eq.trans hq_7 (pif_neg (fun h8 => by have h7 := h8.1; unfold okJ at h7; rw [← (show ga (C 10) ((2 : Int32)).toNatClampNeg = A 5 0 2 from hA.1 2 (by decide)), ← (show ga (C 10) ((3 : Int32)).toNatClampNeg = A 5 0 3 from hA.1 3 (by decide))] at h7; exact u_4 h7)).symm)⟩, ⟨by rw [ht]; exact hP, hD⟩⟩, hS.F ht⟩) hS.2.2 dX6_again_29
  · have u_10 := hq_2.2.1 c_3
    refine lv_iload hx hb dX6_again_12 (lv_at hl 5 rfl) ?_
    refine lv_iconst (v := 1) hx hb dX6_again_14 (by decide) ?_
    refine lv_bipush (v := 20) hx hb dX6_again_15 (by decide) ?_
    refine tq_S (As := [.int x5, .int 1, .int 20]) (rest := []) (ws := []) ⟨hx, hb, hml, hown, htg⟩ (c_X6_within l D E G x5 (1 : Int32) (20 : Int32)) (va_cwS 3 htg (oh_gS q_293 q_294 q_66 q_295) rfl rfl rfl pdX6_within ⟨Nat.le_of_ble_eq_true rfl, Nat.le_of_ble_eq_true rfl⟩) hK va_nil hG hS rfl hl.1 rfl (Nat.le_of_ble_eq_true rfl) dX6_again_17 ⟨Nat.le_of_ble_eq_true rfl, Nat.le_of_ble_eq_true rfl⟩ (fun r_11 hq_12 => ?_)
    refine lv_if_ne (tgt := 30) hx hb dX6_again_20 (by decide) (fun (c_13 : ¬ (r_11 = 0)) => ?_) (fun (c_13 : r_11 = 0) => ?_)
    · have u_14 := hq_12.2.1 c_13
      refine lv_aload_n hx hb dX6_again_30 rfl (lv_at hl 0 rfl) ?_
      refine lv_aload_n hx hb dX6_again_31 rfl (lv_at hl 0 rfl) ?_
      refine va_get (D := D) (ci := 6) (v := .ref (a 3)) (C := RX6) (T := TX6) (N := 9) hx hb htg ig_6 hown hK hP 0 (oh_wg (by decide) (sX_0 hT)) rfl 3 (by decide) (htg _ q_261) (fun _ h9 => h9) rfl dX6_again_32 ?_
      refine lv_iload_n hx hb dX6_again_35 rfl (lv_at hl 1 rfl) ?_
      refine lv_iload_n hx hb dX6_again_36 rfl (lv_at hl 2 rfl) ?_
      refine lv_iload_n hx hb dX6_again_37 rfl (lv_at hl 3 rfl) ?_
      refine lv_iload hx hb dX6_again_38 (lv_at hl 4 rfl) ?_
      refine lv_iload hx hb dX6_again_40 (lv_at hl 5 rfl) ?_
      refine tm_V (As := [.int x1, .int x2, .int x3, .int x4, .int x5]) (rest := [.ref (a 0)]) ⟨hx, hb, hml, hown, htg⟩ (e_X5_leastCoin l D E G _ a C hT x1 x2 x3 x4 x5 (rg_w u_10.1 (by decide)) (rg_w u_10.2.1 (by decide)) (rg_w u_10.2.2.1 (by decide))) (cwV 5 htg (oh_gV q_780 q_781 q_782 q_68 q_783) rfl rfl rfl pdVX5_leastCoin ⟨Nat.le_of_ble_eq_true rfl, Nat.le_of_ble_eq_true rfl⟩) hK hP hD hG hS hA (va_recv hK hP (ci := 5) (q0 := 3) rfl (oh_wg (by decide) (sX_3 hT))) rfl hl.1 rfl (Nat.le_of_ble_eq_true rfl) dX6_again_42 ⟨Nat.le_of_ble_eq_true rfl, Nat.le_of_ble_eq_true rfl⟩ (fun r_15 C_16 H locs hq_17 hP hD hS => ?_)
      obtain ⟨hT, f_18, hq_17⟩ := hq_17
      have hF := fr_tr hF f_18 (by decide) (by decide)
      refine W.widen (k := 0) (n := 0) (Nat.le_refl _) (Nat.le_refl _) ?_
      have t_19 := hT
      refine tm_V (As := [.int r_15]) (rest := []) ⟨hx, hb, hml, hown, htg⟩ (e_X6_orStuck l D E G _ a C_16 hT r_15) (cwV 1 htg (oh_gV q_799 q_801 q_21 q_66 q_802) rfl rfl rfl pdVX6_orStuck ⟨Nat.le_of_ble_eq_true rfl, Nat.le_of_ble_eq_true rfl⟩) hK hP hD hG hS hA (va_recv hK hP (ci := 6) (q0 := 0) rfl (oh_wg (by decide) (sX_0 hT))) rfl hl.1 rfl (Nat.le_of_ble_eq_true rfl) dX6_again_45 ⟨Nat.le_of_ble_eq_true rfl, Nat.le_of_ble_eq_true rfl⟩ (fun r_20 C_21 H locs hq_22 hP hD hS => ?_)
      obtain ⟨hT, f_23, hq_22⟩ := hq_22
      have hF := fr_tr hF f_23 (by decide) (by decide)
      refine W.widen (k := 0) (n := 0) (Nat.le_refl _) (Nat.le_refl _) ?_
      have t_24 := hT
      rw [hQ]
      exact W.iret (v := r_20) hx hb hr (fun t ht hW => ⟨⟨r_20, C_21, rfl, ⟨hT, hF, (fun A hA hok => by have hj : okJ A x1 x2 x3 x4 := (by unfold okJ; rw [← (show ga (C 10) ((2 : Int32)).toNatClampNeg = A 5 0 2 from hA.1 2 (by decide)), ← (show ga (C 10) ((3 : Int32)).toNatClampNeg = A 5 0 3 from hA.1 3 (by decide))]; exact u_10.2.2.2); exact Eq.trans (Eq.trans hq_22 (lc_st hok (rg_w (lo := 0) (hi := 4) u_10.1 (by decide)) hj.1.1.2 (rg_w (lo := 0) (hi := 20) (rn_leu u_14.2 (rn_lel u_14.1 (rg_c (v := 1) (lo := 1) (hi := 1) (by decide)) (rg_any _)) (rg_c (v := 20) (lo := 20) (hi := 20) (by decide))) (by decide)) (rg_w (lo := 0) (hi := 15) u_10.2.1 (by decide)) (rg_w (lo := 0) (hi := 15) u_10.2.2.1 (by decide)) (hq_17 A hA hok hj.1.1.2 (rg_w (lo := 0) (hi := 20) (rn_leu u_14.2 (rn_lel u_14.1 (rg_c (v := 1) (lo := 1) (hi := 1) (by decide)) (rg_any _)) (rg_c (v := 20) (lo := 20) (hi := 20) (by decide))) (by decide))))) (pif_pos ⟨hj, (oh_rgI (p := 1) (q := 20) (rg_w (lo := 1) (hi := 20) (rn_leu u_14.2 (rn_lel u_14.1 (rg_c (v := 1) (lo := 1) (hi := 1) (by decide)) (rg_any _)) (rg_c (v := 20) (lo := 20) (hi := 20) (by decide))) (by decide)))⟩).symm)⟩, ⟨by rw [ht]; exact hP, hD⟩⟩, hS.F ht⟩) hS.2.2 dX6_again_48
    · have u_25 := hq_12.2.2 c_13
      refine lv_aload_n hx hb dX6_again_23 rfl (lv_at hl 0 rfl) ?_
      refine lv_bipush (v := (-2)) hx hb dX6_again_24 (by decide) ?_
      refine tm_V (As := [.int (-2)]) (rest := []) ⟨hx, hb, hml, hown, htg⟩ (c_X6_refuse l D E G _ a C hT ((-2) : Int32)) (cwV 1 htg (oh_gV q_296 q_298 q_0 q_66 q_299) rfl rfl rfl pdVX6_refuse ⟨Nat.le_of_ble_eq_true rfl, Nat.le_of_ble_eq_true rfl⟩) hK hP hD hG hS hA (va_recv hK hP (ci := 6) (q0 := 0) rfl (oh_wg (by decide) (sX_0 hT))) rfl hl.1 rfl (Nat.le_of_ble_eq_true rfl) dX6_again_26 ⟨Nat.le_of_ble_eq_true rfl, Nat.le_of_ble_eq_true rfl⟩ (fun r_26 C_27 H locs hq_28 hP hD hS => ?_)
      obtain ⟨hT, f_29, hq_28⟩ := hq_28
      have hF := fr_tr hF f_29 (by decide) (by decide)
      refine W.widen (k := 0) (n := 0) (Nat.le_refl _) (Nat.le_refl _) ?_
      have t_30 := hT
      rw [hQ]
      exact W.iret (v := r_26) hx hb hr (fun t ht hW => ⟨⟨r_26, C_27, rfl, ⟨hT, hF, (fun A hA hok => Eq.trans hq_28 (pif_neg (fun h8 => u_25 h8.2)).symm)⟩, ⟨by rw [ht]; exact hP, hD⟩⟩, hS.F ht⟩) hS.2.2 dX6_again_29

set_option maxHeartbeats 4000000 in
set_option maxRecDepth 100000 in
theorem e_X7_again (l : Launch) (D : va_G) (E : Nat → ClassId) (G : Nat → Nat) (sz : Nat) (a : Nat → Nat) (C : Nat → va_E) (n : Nat) (hn : 74 ≤ n) (hT : TyM a E C) (x1 : Int32) (x2 : Int32) (x3 : Int32) (x4 : Int32) (x5 : Int32) (hR : RelM C) : Met l yX7_again (oh_w yX7_again cX7_again 7 (some .int)) ({ frames := 7, cells := 0, slots := 0, locals := 177 }) (oh_Pm D E G [.ref (a 0), .int x1, .int x2, .int x3, .int x4, .int x5] (oh_W n a C) sz) (va_Qi (fun r (u : Nat → va_E) => TyM a E u ∧ fr [(8, 9), (15, 16)] [] C u ∧ (RelM u) ∧ (∀ A : LA, absM C A → okA A → r = spChp A x1 x2 x3 x4 x5)) (oh_B D (va_A (oh_W n a C) sz) (fun u => oh_W n a u)) (va_A (oh_W n a C) sz)) 0 0 (va_A (oh_W n a C) sz) := by
  refine Met.ofW (cc := cX7_again) (maxL := 7) (ret := (some .int)) (by decide) rfl ?_
  intro p e s m args below meth c s₁ B hml hv
  obtain ⟨rfl, hsz, hP, hK, hD0, hG⟩ := hv
  have hx := B.exec
  have hb := B.bytes
  have hr := B.returns
  have hts := atoms_spec (ws := (oh_w yX7_again cX7_again 7 (some .int))) B.pre
  have htg : ∀ w ∈ oh_t, w.before _ s = true := fun w h => hts w (List.mem_cons_of_mem _ h)
  have hown : s.vm.findClass RX7 = some m.cls := findClass_of_methodNamed B.named
  have hlocks := B.notSynchronized
  have hT0 := hT
  subst hsz
  have hD := hD0.self (sz := s.heap.size)
  generalize hAe : va_A (oh_W n a C) s.heap.size = A at hD hG ⊢
  have hA : ∀ q : Nat, s.heap.size ≤ q → A q := fun q h => by rw [← hAe]; exact Or.inr h
  have hS : va_S A s.heap s.heap [] := va_S.rf
  have hF : fr [(8, 9), (15, 16)] [] C C := fr_rf
  have hl := lv_entry ([.ref (a 0), .int x1, .int x2, .int x3, .int x4, .int x5]) (n := 7) (Nat.le_of_ble_eq_true rfl)
  rw [lg_entry_eq]
  generalize (lg_sl ([.ref (a 0), .int x1, .int x2, .int x3, .int x4, .int x5]) ++ List.replicate (7 - (lg_sl ([.ref (a 0), .int x1, .int x2, .int x3, .int x4, .int x5])).length) Slot.unset).toArray = ls at hl ⊢
  have hl : lv_has ls 7 [(0, .ref (a 0)), (1, .int x1), (2, .int x2), (3, .int x3), (4, .int x4), (5, .int x5)] := hl
  refine oh_genQ (fun Q hQ => ?_)
  refine lv_aload_n hx hb dX7_again_0 rfl (lv_at hl 0 rfl) ?_
  refine lv_iload_n hx hb dX7_again_1 rfl (lv_at hl 1 rfl) ?_
  refine lv_iload_n hx hb dX7_again_2 rfl (lv_at hl 2 rfl) ?_
  refine tq_V (As := [.int x1, .int x2]) (rest := []) (ws := (oh_W n a C)) ⟨hx, hb, hml, hown, htg⟩ (e_X7_isPack l D E G a C n hn hT x1 x2 hR.1) (cwV 2 htg (oh_gV q_1290 q_1292 q_50 q_73 q_1293) rfl rfl rfl pdVX7_isPack ⟨Nat.le_of_ble_eq_true rfl, Nat.le_of_ble_eq_true rfl⟩) hK hP hG hS (va_recv hK hP (ci := 7) (q0 := 0) rfl (oh_wg (Nat.lt_of_lt_of_le (by decide) hn) (sM_0 hT))) rfl hl.1 rfl (Nat.le_of_ble_eq_true rfl) dX7_again_3 ⟨Nat.le_of_ble_eq_true rfl, Nat.le_of_ble_eq_true rfl⟩ (fun r_1 hq_2 => ?_)
  refine lv_if_eq (tgt := 37) hx hb dX7_again_6 (by decide) (fun (c_3 : r_1 = 0) => ?_) (fun (c_3 : ¬ (r_1 = 0)) => ?_)
  · have u_4 := hq_2.2.2 c_3
    refine lv_aload_n hx hb dX7_again_37 rfl (lv_at hl 0 rfl) ?_
    refine lv_bipush (v := (-2)) hx hb dX7_again_38 (by decide) ?_
    refine tm_V (As := [.int (-2)]) (rest := []) ⟨hx, hb, hml, hown, htg⟩ (c_X7_refuse l D E G _ a C n hn hT ((-2) : Int32) (rg_w (rg_c (v := (-2)) (lo := (-2)) (hi := (-2)) (by decide)) (by decide))) (cwV 1 htg (oh_gV q_1071 q_1073 q_29 q_73 q_1074) rfl rfl rfl pdVX7_refuse ⟨Nat.le_of_ble_eq_true rfl, Nat.le_of_ble_eq_true rfl⟩) hK hP hD hG hS hA (va_recv hK hP (ci := 7) (q0 := 0) rfl (oh_wg (Nat.lt_of_lt_of_le (by decide) hn) (sM_0 hT))) rfl hl.1 rfl (Nat.le_of_ble_eq_true rfl) dX7_again_40 ⟨Nat.le_of_ble_eq_true rfl, Nat.le_of_ble_eq_true rfl⟩ (fun r_5 C_6 H locs hq_7 hP hD hS => ?_)
    obtain ⟨hT, f_8, hq_7⟩ := hq_7
    have hF := fr_tr hF f_8 (by decide) (by decide)
    refine W.widen (k := 0) (n := 0) (Nat.le_refl _) (Nat.le_refl _) ?_
    have t_9 := hT
    rw [hQ]
    exact W.iret (v := r_5) hx hb hr (fun t ht hW => ⟨⟨r_5, C_6, rfl, ⟨hT, hF, ⟨⟨hR.1.fr hF (by decide), hR.2.fr hF (by decide)⟩, (fun A hA hok => Eq.trans hq_7 (pif_neg (fun h8 => by have h7 := h8.1; unfold okJ at h7; rw [← (show gi (C 0) 13 = A 5 0 2 from hA.1 2 (by decide)), ← (show gi (C 0) 15 = A 5 0 3 from hA.1 3 (by decide))] at h7; exact u_4 h7.1)).symm)⟩⟩, ⟨by rw [ht]; exact hP, hD⟩⟩, hS.F ht⟩) hS.2.2 dX7_again_43
  · have u_10 := hq_2.2.1 c_3
    refine lv_iload_n hx hb dX7_again_9 rfl (lv_at hl 3 rfl) ?_
    refine tq_S (As := [.int x3]) (rest := []) (ws := []) ⟨hx, hb, hml, hown, htg⟩ (e_X7_isPlace l D E G x3) (va_cwS 1 htg (oh_gS q_1130 q_1131 q_73 q_1132) rfl rfl rfl pdX7_isPlace ⟨Nat.le_of_ble_eq_true rfl, Nat.le_of_ble_eq_true rfl⟩) hK va_nil hG hS rfl hl.1 rfl (Nat.le_of_ble_eq_true rfl) dX7_again_10 ⟨Nat.le_of_ble_eq_true rfl, Nat.le_of_ble_eq_true rfl⟩ (fun r_11 hq_12 => ?_)
    refine lv_if_eq (tgt := 37) hx hb dX7_again_13 (by decide) (fun (c_13 : r_11 = 0) => ?_) (fun (c_13 : ¬ (r_11 = 0)) => ?_)
    · have u_14 := hq_12.2.2 c_13
      refine lv_aload_n hx hb dX7_again_37 rfl (lv_at hl 0 rfl) ?_
      refine lv_bipush (v := (-2)) hx hb dX7_again_38 (by decide) ?_
      refine tm_V (As := [.int (-2)]) (rest := []) ⟨hx, hb, hml, hown, htg⟩ (c_X7_refuse l D E G _ a C n hn hT ((-2) : Int32) (rg_w (rg_c (v := (-2)) (lo := (-2)) (hi := (-2)) (by decide)) (by decide))) (cwV 1 htg (oh_gV q_1071 q_1073 q_29 q_73 q_1074) rfl rfl rfl pdVX7_refuse ⟨Nat.le_of_ble_eq_true rfl, Nat.le_of_ble_eq_true rfl⟩) hK hP hD hG hS hA (va_recv hK hP (ci := 7) (q0 := 0) rfl (oh_wg (Nat.lt_of_lt_of_le (by decide) hn) (sM_0 hT))) rfl hl.1 rfl (Nat.le_of_ble_eq_true rfl) dX7_again_40 ⟨Nat.le_of_ble_eq_true rfl, Nat.le_of_ble_eq_true rfl⟩ (fun r_15 C_16 H locs hq_17 hP hD hS => ?_)
      obtain ⟨hT, f_18, hq_17⟩ := hq_17
      have hF := fr_tr hF f_18 (by decide) (by decide)
      refine W.widen (k := 0) (n := 0) (Nat.le_refl _) (Nat.le_refl _) ?_
      have t_19 := hT
      rw [hQ]
      exact W.iret (v := r_15) hx hb hr (fun t ht hW => ⟨⟨r_15, C_16, rfl, ⟨hT, hF, ⟨⟨hR.1.fr hF (by decide), hR.2.fr hF (by decide)⟩, (fun A hA hok => Eq.trans hq_17 (pif_neg (fun h8 => by have h7 := h8.1; unfold okJ at h7; rw [← (show gi (C 0) 13 = A 5 0 2 from hA.1 2 (by decide)), ← (show gi (C 0) 15 = A 5 0 3 from hA.1 3 (by decide))] at h7; exact u_14 h7.2.1)).symm)⟩⟩, ⟨by rw [ht]; exact hP, hD⟩⟩, hS.F ht⟩) hS.2.2 dX7_again_43
    · have u_20 := hq_12.2.1 c_13
      refine lv_iload hx hb dX7_again_16 (lv_at hl 4 rfl) ?_
      refine tq_S (As := [.int x4]) (rest := []) (ws := []) ⟨hx, hb, hml, hown, htg⟩ (e_X7_isPlace l D E G x4) (va_cwS 1 htg (oh_gS q_1130 q_1131 q_73 q_1132) rfl rfl rfl pdX7_isPlace ⟨Nat.le_of_ble_eq_true rfl, Nat.le_of_ble_eq_true rfl⟩) hK va_nil hG hS rfl hl.1 rfl (Nat.le_of_ble_eq_true rfl) dX7_again_18 ⟨Nat.le_of_ble_eq_true rfl, Nat.le_of_ble_eq_true rfl⟩ (fun r_21 hq_22 => ?_)
      refine lv_if_eq (tgt := 37) hx hb dX7_again_21 (by decide) (fun (c_23 : r_21 = 0) => ?_) (fun (c_23 : ¬ (r_21 = 0)) => ?_)
      · have u_24 := hq_22.2.2 c_23
        refine lv_aload_n hx hb dX7_again_37 rfl (lv_at hl 0 rfl) ?_
        refine lv_bipush (v := (-2)) hx hb dX7_again_38 (by decide) ?_
        refine tm_V (As := [.int (-2)]) (rest := []) ⟨hx, hb, hml, hown, htg⟩ (c_X7_refuse l D E G _ a C n hn hT ((-2) : Int32) (rg_w (rg_c (v := (-2)) (lo := (-2)) (hi := (-2)) (by decide)) (by decide))) (cwV 1 htg (oh_gV q_1071 q_1073 q_29 q_73 q_1074) rfl rfl rfl pdVX7_refuse ⟨Nat.le_of_ble_eq_true rfl, Nat.le_of_ble_eq_true rfl⟩) hK hP hD hG hS hA (va_recv hK hP (ci := 7) (q0 := 0) rfl (oh_wg (Nat.lt_of_lt_of_le (by decide) hn) (sM_0 hT))) rfl hl.1 rfl (Nat.le_of_ble_eq_true rfl) dX7_again_40 ⟨Nat.le_of_ble_eq_true rfl, Nat.le_of_ble_eq_true rfl⟩ (fun r_25 C_26 H locs hq_27 hP hD hS => ?_)
        obtain ⟨hT, f_28, hq_27⟩ := hq_27
        have hF := fr_tr hF f_28 (by decide) (by decide)
        refine W.widen (k := 0) (n := 0) (Nat.le_refl _) (Nat.le_refl _) ?_
        have t_29 := hT
        rw [hQ]
        exact W.iret (v := r_25) hx hb hr (fun t ht hW => ⟨⟨r_25, C_26, rfl, ⟨hT, hF, ⟨⟨hR.1.fr hF (by decide), hR.2.fr hF (by decide)⟩, (fun A hA hok => Eq.trans hq_27 (pif_neg (fun h8 => by have h7 := h8.1; unfold okJ at h7; rw [← (show gi (C 0) 13 = A 5 0 2 from hA.1 2 (by decide)), ← (show gi (C 0) 15 = A 5 0 3 from hA.1 3 (by decide))] at h7; exact u_24 h7.2.2)).symm)⟩⟩, ⟨by rw [ht]; exact hP, hD⟩⟩, hS.F ht⟩) hS.2.2 dX7_again_43
      · have u_30 := hq_22.2.1 c_23
        refine lv_iload hx hb dX7_again_24 (lv_at hl 5 rfl) ?_
        refine lv_i2l (v := Int32.toInt64 x5) hx hb dX7_again_26 (by rfl) ?_
        refine lv_lconst (v := 1) hx hb dX7_again_27 (by decide) ?_
        refine lv_ldc2 (v := 20) hx hb hown (htg _ q_1346) dX7_again_28 ?_
        refine tq_S (As := [.long (Int32.toInt64 x5), .long 1, .long 20]) (rest := []) (ws := []) ⟨hx, hb, hml, hown, htg⟩ (c_X7_in l D E G (Int32.toInt64 x5) (1 : Int64) (20 : Int64)) (va_cwS 3 htg (oh_gS q_1066 q_1067 q_73 q_1068) rfl rfl rfl pdX7_in ⟨Nat.le_of_ble_eq_true rfl, Nat.le_of_ble_eq_true rfl⟩) hK va_nil hG hS rfl hl.1 rfl (Nat.le_of_ble_eq_true rfl) dX7_again_31 ⟨Nat.le_of_ble_eq_true rfl, Nat.le_of_ble_eq_true rfl⟩ (fun r_31 hq_32 => ?_)
        refine lv_if_ne (tgt := 44) hx hb dX7_again_34 (by decide) (fun (c_33 : ¬ (r_31 = 0)) => ?_) (fun (c_33 : r_31 = 0) => ?_)
        · have u_34 := hq_32.2.1 c_33
          refine lv_aload_n hx hb dX7_again_44 rfl (lv_at hl 0 rfl) ?_
          refine lv_iload_n hx hb dX7_again_45 rfl (lv_at hl 1 rfl) ?_
          refine lv_iload_n hx hb dX7_again_46 rfl (lv_at hl 2 rfl) ?_
          refine lv_iload_n hx hb dX7_again_47 rfl (lv_at hl 3 rfl) ?_
          refine lv_iload hx hb dX7_again_48 (lv_at hl 4 rfl) ?_
          refine lv_iload hx hb dX7_again_50 (lv_at hl 5 rfl) ?_
          refine tm_V (As := [.int x1, .int x2, .int x3, .int x4, .int x5]) (rest := []) ⟨hx, hb, hml, hown, htg⟩ (e_X7_cheapestOf l D E G _ a C n hn hT x1 x2 x3 x4 x5 (rg_w u_10.1 (by decide)) (rg_w u_20 (by decide)) (rg_w u_30 (by decide)) u_10.2.1) (cwV 5 htg (oh_gV q_1347 q_1349 q_59 q_73 q_1350) rfl rfl rfl pdVX7_cheapestOf ⟨Nat.le_of_ble_eq_true rfl, Nat.le_of_ble_eq_true rfl⟩) hK hP hD hG hS hA (va_recv hK hP (ci := 7) (q0 := 0) rfl (oh_wg (Nat.lt_of_lt_of_le (by decide) hn) (sM_0 hT))) rfl hl.1 rfl (Nat.le_of_ble_eq_true rfl) dX7_again_52 ⟨Nat.le_of_ble_eq_true rfl, Nat.le_of_ble_eq_true rfl⟩ (fun r_35 C_36 H locs hq_37 hP hD hS => ?_)
          obtain ⟨hT, f_38, hq_37⟩ := hq_37
          have hF := fr_tr hF f_38 (by decide) (by decide)
          refine W.widen (k := 0) (n := 0) (Nat.le_refl _) (Nat.le_refl _) ?_
          have t_39 := hT
          refine lv_istore (lv' := [(6, .int r_35), (0, .ref (a 0)), (1, .int x1), (2, .int x2), (3, .int x3), (4, .int x4), (5, .int x5)]) hx hb dX7_again_55 hl (by decide) rfl (fun ls hl => ?_)
          refine lv_iload hx hb dX7_again_57 (lv_at hl 0 rfl) ?_
          refine lv_iconst (v := (-1)) hx hb dX7_again_59 (by decide) ?_
          refine lv_icmp_ne (tgt := 72) hx hb dX7_again_60 (by decide) (fun (c_40 : ¬ (r_35 = (-1))) => ?_) (fun (c_40 : r_35 = (-1)) => ?_)
          · refine lv_iload hx hb dX7_again_72 (lv_at hl 0 rfl) ?_
            rw [hQ]
            exact W.iret (v := r_35) hx hb hr (fun t ht hW => ⟨⟨r_35, C_36, rfl, ⟨hT, hF, ⟨⟨hR.1.fr hF (by decide), hR.2.fr hF (by decide)⟩, (fun A hA hok => by have hj : okJ A x1 x2 x3 x4 := (by unfold okJ; rw [← (show gi (C 0) 13 = A 5 0 2 from hA.1 2 (by decide)), ← (show gi (C 0) 15 = A 5 0 3 from hA.1 3 (by decide))]; exact ⟨u_10.2.2.2, (oh_rgI (p := 0) (q := 15) (rg_w (lo := 0) (hi := 15) u_20 (by decide))), (oh_rgI (p := 0) (q := 15) (rg_w (lo := 0) (hi := 15) u_30 (by decide)))⟩); have hm := mc_st hok (rg_w (lo := 0) (hi := 4) u_10.1 (by decide)) hj.1.1.2 (rg_w (lo := 0) (hi := 20) (rg_w (lo := 1) (hi := 20) (rg_il (rgL_i (rg_il (rnL_leu u_34.2 (rnL_lel u_34.1 (rgL_c (v := 1) (lo := 1) (hi := 1) (by decide)) (rgL_i (rg_any _))) (rgL_c (v := 20) (lo := 20) (hi := 20) (by decide)))))) (by decide)) (by decide)) (rg_w (lo := 0) (hi := 15) u_20 (by decide)) (rg_w (lo := 0) (hi := 15) u_30 (by decide)) (hq_37 A hA hok hj.1.1.2 (rg_w (lo := 1) (hi := 20) (rg_il (rgL_i (rg_il (rnL_leu u_34.2 (rnL_lel u_34.1 (rgL_c (v := 1) (lo := 1) (hi := 1) (by decide)) (rgL_i (rg_any _))) (rgL_c (v := 20) (lo := 20) (hi := 20) (by decide)))))) (by decide))); exact Eq.trans ((pif_neg c_40).symm) (Eq.trans hm (pif_pos ⟨hj, (oh_rgI (p := 1) (q := 20) (rg_w (lo := 1) (hi := 20) (rg_il (rgL_i (rg_il (rnL_leu u_34.2 (rnL_lel u_34.1 (rgL_c (v := 1) (lo := 1) (hi := 1) (by decide)) (rgL_i (rg_any _))) (rgL_c (v := 20) (lo := 20) (hi := 20) (by decide)))))) (by decide)))⟩).symm))⟩⟩, ⟨by rw [ht]; exact hP, hD⟩⟩, hS.F ht⟩) hS.2.2 dX7_again_74
          · refine lv_aload_n hx hb dX7_again_63 rfl (lv_at hl 1 rfl) ?_
            refine lv_bipush (v := (-5)) hx hb dX7_again_64 (by decide) ?_
            refine tm_V (As := [.int (-5)]) (rest := []) ⟨hx, hb, hml, hown, htg⟩ (c_X7_refuse l D E G _ a C_36 n hn hT ((-5) : Int32) (rg_w (rg_c (v := (-5)) (lo := (-5)) (hi := (-5)) (by decide)) (by decide))) (cwV 1 htg (oh_gV q_1071 q_1073 q_29 q_73 q_1074) rfl rfl rfl pdVX7_refuse ⟨Nat.le_of_ble_eq_true rfl, Nat.le_of_ble_eq_true rfl⟩) hK hP hD hG hS hA (va_recv hK hP (ci := 7) (q0 := 0) rfl (oh_wg (Nat.lt_of_lt_of_le (by decide) hn) (sM_0 hT))) rfl hl.1 rfl (Nat.le_of_ble_eq_true rfl) dX7_again_66 ⟨Nat.le_of_ble_eq_true rfl, Nat.le_of_ble_eq_true rfl⟩ (fun r_41 C_42 H locs hq_43 hP hD hS => ?_)
            obtain ⟨hT, f_44, hq_43⟩ := hq_43
            have hF := fr_tr hF f_44 (by decide) (by decide)
            refine W.widen (k := 0) (n := 0) (Nat.le_refl _) (Nat.le_refl _) ?_
            have t_45 := hT
            refine lv_goto (tgt := 74) hx hb dX7_again_69 (by decide) ?_
            rw [hQ]
            exact W.iret (v := r_41) hx hb hr (fun t ht hW => ⟨⟨r_41, C_42, rfl, ⟨hT, hF, ⟨⟨hR.1.fr hF (by decide), hR.2.fr hF (by decide)⟩, (fun A hA hok => by have hj : okJ A x1 x2 x3 x4 := (by unfold okJ; rw [← (show gi (C 0) 13 = A 5 0 2 from hA.1 2 (by decide)), ← (show gi (C 0) 15 = A 5 0 3 from hA.1 3 (by decide))]; exact ⟨u_10.2.2.2, (oh_rgI (p := 0) (q := 15) (rg_w (lo := 0) (hi := 15) u_20 (by decide))), (oh_rgI (p := 0) (q := 15) (rg_w (lo := 0) (hi := 15) u_30 (by decide)))⟩); have hm := mc_st hok (rg_w (lo := 0) (hi := 4) u_10.1 (by decide)) hj.1.1.2 (rg_w (lo := 0) (hi := 20) (rg_w (lo := 1) (hi := 20) (rg_il (rgL_i (rg_il (rnL_leu u_34.2 (rnL_lel u_34.1 (rgL_c (v := 1) (lo := 1) (hi := 1) (by decide)) (rgL_i (rg_any _))) (rgL_c (v := 20) (lo := 20) (hi := 20) (by decide)))))) (by decide)) (by decide)) (rg_w (lo := 0) (hi := 15) u_20 (by decide)) (rg_w (lo := 0) (hi := 15) u_30 (by decide)) (hq_37 A hA hok hj.1.1.2 (rg_w (lo := 1) (hi := 20) (rg_il (rgL_i (rg_il (rnL_leu u_34.2 (rnL_lel u_34.1 (rgL_c (v := 1) (lo := 1) (hi := 1) (by decide)) (rgL_i (rg_any _))) (rgL_c (v := 20) (lo := 20) (hi := 20) (by decide)))))) (by decide))); exact Eq.trans (Eq.trans hq_43 (pif_pos c_40).symm) (Eq.trans hm (pif_pos ⟨hj, (oh_rgI (p := 1) (q := 20) (rg_w (lo := 1) (hi := 20) (rg_il (rgL_i (rg_il (rnL_leu u_34.2 (rnL_lel u_34.1 (rgL_c (v := 1) (lo := 1) (hi := 1) (by decide)) (rgL_i (rg_any _))) (rgL_c (v := 20) (lo := 20) (hi := 20) (by decide)))))) (by decide)))⟩).symm))⟩⟩, ⟨by rw [ht]; exact hP, hD⟩⟩, hS.F ht⟩) hS.2.2 dX7_again_74
        · have u_46 := hq_32.2.2 c_33
          refine lv_aload_n hx hb dX7_again_37 rfl (lv_at hl 0 rfl) ?_
          refine lv_bipush (v := (-2)) hx hb dX7_again_38 (by decide) ?_
          refine tm_V (As := [.int (-2)]) (rest := []) ⟨hx, hb, hml, hown, htg⟩ (c_X7_refuse l D E G _ a C n hn hT ((-2) : Int32) (rg_w (rg_c (v := (-2)) (lo := (-2)) (hi := (-2)) (by decide)) (by decide))) (cwV 1 htg (oh_gV q_1071 q_1073 q_29 q_73 q_1074) rfl rfl rfl pdVX7_refuse ⟨Nat.le_of_ble_eq_true rfl, Nat.le_of_ble_eq_true rfl⟩) hK hP hD hG hS hA (va_recv hK hP (ci := 7) (q0 := 0) rfl (oh_wg (Nat.lt_of_lt_of_le (by decide) hn) (sM_0 hT))) rfl hl.1 rfl (Nat.le_of_ble_eq_true rfl) dX7_again_40 ⟨Nat.le_of_ble_eq_true rfl, Nat.le_of_ble_eq_true rfl⟩ (fun r_47 C_48 H locs hq_49 hP hD hS => ?_)
          obtain ⟨hT, f_50, hq_49⟩ := hq_49
          have hF := fr_tr hF f_50 (by decide) (by decide)
          refine W.widen (k := 0) (n := 0) (Nat.le_refl _) (Nat.le_refl _) ?_
          have t_51 := hT
          rw [hQ]
          exact W.iret (v := r_47) hx hb hr (fun t ht hW => ⟨⟨r_47, C_48, rfl, ⟨hT, hF, ⟨⟨hR.1.fr hF (by decide), hR.2.fr hF (by decide)⟩, (fun A hA hok => Eq.trans hq_49 (pif_neg (fun h8 => (oh_in64 (l' := 1) (k' := 20) rfl rfl u_46) h8.2)).symm)⟩⟩, ⟨by rw [ht]; exact hP, hD⟩⟩, hS.F ht⟩) hS.2.2 dX7_again_43

set_option maxHeartbeats 4000000 in
set_option maxRecDepth 100000 in
theorem e_X7_cheapest (l : Launch) (D : va_G) (E : Nat → ClassId) (G : Nat → Nat) (sz : Nat) (a : Nat → Nat) (C : Nat → va_E) (n : Nat) (hn : 74 ≤ n) (hT : TyM a E C) (x1 : Int32) (x2 : Int32) (x3 : Int32) (x4 : Int32) (hR : RelM C) : Met l yX7_cheapest (oh_w yX7_cheapest cX7_cheapest 5 (some .int)) ({ frames := 8, cells := 0, slots := 0, locals := 203 }) (oh_Pm D E G [.ref (a 0), .int x1, .int x2, .int x3, .int x4] (oh_W n a C) sz) (va_Qi (fun r (u : Nat → va_E) => TyM a E u ∧ fr [(8, 9), (15, 16)] [] C u ∧ (RelM u) ∧ (∀ A : LA, absM C A → okA A → r = spChp A x1 x2 x3 x4 1)) (oh_B D (va_A (oh_W n a C) sz) (fun u => oh_W n a u)) (va_A (oh_W n a C) sz)) 0 0 (va_A (oh_W n a C) sz) := by
  refine Met.ofW (cc := cX7_cheapest) (maxL := 5) (ret := (some .int)) (by decide) rfl ?_
  intro p e s m args below meth c s₁ B hml hv
  obtain ⟨rfl, hsz, hP, hK, hD0, hG⟩ := hv
  have hx := B.exec
  have hb := B.bytes
  have hr := B.returns
  have hts := atoms_spec (ws := (oh_w yX7_cheapest cX7_cheapest 5 (some .int))) B.pre
  have htg : ∀ w ∈ oh_t, w.before _ s = true := fun w h => hts w (List.mem_cons_of_mem _ h)
  have hown : s.vm.findClass RX7 = some m.cls := findClass_of_methodNamed B.named
  have hlocks := B.notSynchronized
  have hT0 := hT
  subst hsz
  have hD := hD0.self (sz := s.heap.size)
  generalize hAe : va_A (oh_W n a C) s.heap.size = A at hD hG ⊢
  have hA : ∀ q : Nat, s.heap.size ≤ q → A q := fun q h => by rw [← hAe]; exact Or.inr h
  have hS : va_S A s.heap s.heap [] := va_S.rf
  have hF : fr [(8, 9), (15, 16)] [] C C := fr_rf
  have hl := lv_entry ([.ref (a 0), .int x1, .int x2, .int x3, .int x4]) (n := 5) (Nat.le_of_ble_eq_true rfl)
  rw [lg_entry_eq]
  generalize (lg_sl ([.ref (a 0), .int x1, .int x2, .int x3, .int x4]) ++ List.replicate (5 - (lg_sl ([.ref (a 0), .int x1, .int x2, .int x3, .int x4])).length) Slot.unset).toArray = ls at hl ⊢
  have hl : lv_has ls 5 [(0, .ref (a 0)), (1, .int x1), (2, .int x2), (3, .int x3), (4, .int x4)] := hl
  refine oh_genQ (fun Q hQ => ?_)
  refine lv_aload_n hx hb dX7_cheapest_0 rfl (lv_at hl 0 rfl) ?_
  refine lv_iload_n hx hb dX7_cheapest_1 rfl (lv_at hl 1 rfl) ?_
  refine lv_iload_n hx hb dX7_cheapest_2 rfl (lv_at hl 2 rfl) ?_
  refine lv_iload_n hx hb dX7_cheapest_3 rfl (lv_at hl 3 rfl) ?_
  refine lv_iload hx hb dX7_cheapest_4 (lv_at hl 4 rfl) ?_
  refine lv_iconst (v := 1) hx hb dX7_cheapest_6 (by decide) ?_
  refine tm_V (As := [.int x1, .int x2, .int x3, .int x4, .int 1]) (rest := []) ⟨hx, hb, hml, hown, htg⟩ (e_X7_again l D E G _ a C n hn hT x1 x2 x3 x4 (1 : Int32) hR) (cwV 5 htg (oh_gV q_1342 q_1343 q_1344 q_73 q_1345) rfl rfl rfl pdVX7_again ⟨Nat.le_of_ble_eq_true rfl, Nat.le_of_ble_eq_true rfl⟩) hK hP hD hG hS hA (va_recv hK hP (ci := 7) (q0 := 0) rfl (oh_wg (Nat.lt_of_lt_of_le (by decide) hn) (sM_0 hT))) rfl hl.1 rfl (Nat.le_of_ble_eq_true rfl) dX7_cheapest_7 ⟨Nat.le_of_ble_eq_true rfl, Nat.le_of_ble_eq_true rfl⟩ (fun r_1 C_2 H locs hq_3 hP hD hS => ?_)
  obtain ⟨hT, f_4, hq_3⟩ := hq_3
  have hF := fr_tr hF f_4 (by decide) (by decide)
  refine W.widen (k := 0) (n := 0) (Nat.le_refl _) (Nat.le_refl _) ?_
  have t_5 := hT
  rw [hQ]
  exact W.iret (v := r_1) hx hb hr (fun t ht hW => ⟨⟨r_1, C_2, rfl, ⟨hT, hF, ⟨hq_3.1, (fun A hA hok => hq_3.2 A hA hok)⟩⟩, ⟨by rw [ht]; exact hP, hD⟩⟩, hS.F ht⟩) hS.2.2 dX7_cheapest_10

set_option maxHeartbeats 4000000 in
set_option maxRecDepth 100000 in
theorem e_X5_leastDays (l : Launch) (D : va_G) (E : Nat → ClassId) (G : Nat → Nat) (sz : Nat) (a : Nat → Nat) (C : Nat → va_E) (hT : TyX a E C) (x1 : Int32) (x2 : Int32) (x3 : Int32) (x4 : Int32) (hx1 : rg x1 0 4) (hx3 : rg x3 0 15) (hx4 : rg x4 0 15) : Met l yX5_leastDays (oh_w yX5_leastDays cX5_leastDays 6 (some .int)) ({ frames := 4, cells := 0, slots := 0, locals := 100 }) (oh_Pm D E G [.ref (a 3), .int x1, .int x2, .int x3, .int x4] (oh_W 35 a C) sz) (va_Qi (fun r (u : Nat → va_E) => TyX a E u ∧ fr [(9, 10), (24, 28)] [] C u ∧ (∀ A : LA, absX 10 C A → okA A → x1 < A 5 0 2 → r = ldA A x1 x2 x3 x4)) (oh_B D (va_A (oh_W 35 a C) sz) (fun u => oh_W 35 a u)) (va_A (oh_W 35 a C) sz)) 0 0 (va_A (oh_W 35 a C) sz) := by
  refine Met.ofW (cc := cX5_leastDays) (maxL := 6) (ret := (some .int)) (by decide) rfl ?_
  intro p e s m args below meth c s₁ B hml hv
  obtain ⟨rfl, hsz, hP, hK, hD0, hG⟩ := hv
  have hx := B.exec
  have hb := B.bytes
  have hr := B.returns
  have hts := atoms_spec (ws := (oh_w yX5_leastDays cX5_leastDays 6 (some .int))) B.pre
  have htg : ∀ w ∈ oh_t, w.before _ s = true := fun w h => hts w (List.mem_cons_of_mem _ h)
  have hown : s.vm.findClass RX5 = some m.cls := findClass_of_methodNamed B.named
  have hlocks := B.notSynchronized
  have hT0 := hT
  subst hsz
  have hD := hD0.self (sz := s.heap.size)
  generalize hAe : va_A (oh_W 35 a C) s.heap.size = A at hD hG ⊢
  have hA : ∀ q : Nat, s.heap.size ≤ q → A q := fun q h => by rw [← hAe]; exact Or.inr h
  have hS : va_S A s.heap s.heap [] := va_S.rf
  have hF : fr [(9, 10), (24, 28)] [] C C := fr_rf
  have hl := lv_entry ([.ref (a 3), .int x1, .int x2, .int x3, .int x4]) (n := 6) (Nat.le_of_ble_eq_true rfl)
  rw [lg_entry_eq]
  generalize (lg_sl ([.ref (a 3), .int x1, .int x2, .int x3, .int x4]) ++ List.replicate (6 - (lg_sl ([.ref (a 3), .int x1, .int x2, .int x3, .int x4])).length) Slot.unset).toArray = ls at hl ⊢
  have hl : lv_has ls 6 [(0, .ref (a 3)), (1, .int x1), (2, .int x2), (3, .int x3), (4, .int x4)] := hl
  refine oh_genQ (fun Q hQ => ?_)
  refine lv_aload_n hx hb dX5_leastDays_0 rfl (lv_at hl 0 rfl) ?_
  refine lv_iload_n hx hb dX5_leastDays_1 rfl (lv_at hl 1 rfl) ?_
  refine lv_iload_n hx hb dX5_leastDays_2 rfl (lv_at hl 2 rfl) ?_
  refine tm_Vv (As := [.int x1, .int x2]) (rest := []) ⟨hx, hb, hml, hown, htg⟩ (e_X5_survey l D E G _ a C hT x1 x2 (rg_w hx1 (by decide))) (cwV 2 htg (oh_gV q_784 q_751 q_752 q_68 q_753) rfl rfl rfl pdVX5_survey ⟨Nat.le_of_ble_eq_true rfl, Nat.le_of_ble_eq_true rfl⟩) hK hP hD hG hS hA (va_recv hK hP (ci := 5) (q0 := 3) rfl (oh_wg (by decide) (sX_3 hT))) rfl hl.1 rfl (Nat.le_of_ble_eq_true rfl) dX5_leastDays_3 ⟨Nat.le_of_ble_eq_true rfl, Nat.le_of_ble_eq_true rfl⟩ (fun C_2 H locs hq_3 hP hD hS => ?_)
  obtain ⟨hT, f_4, hq_3⟩ := hq_3
  have hF := fr_tr hF f_4 (by decide) (by decide)
  refine W.widen (k := 0) (n := 0) (Nat.le_refl _) (Nat.le_refl _) ?_
  have t_5 := hT
  refine lv_iconst (v := 0) hx hb dX5_leastDays_6 (by decide) ?_
  refine lv_istore (lv' := [(5, .int 0), (0, .ref (a 3)), (1, .int x1), (2, .int x2), (3, .int x3), (4, .int x4)]) hx hb dX5_leastDays_7 hl (by decide) rfl (fun ls hl => ?_)
  have L_9 : ∀ (d : Nat) (K9 : Nat → va_E) (z9_5 : Int32) (H : Heap) (locs : List Loc) (ls : Array Slot), (24 - z9_5.toInt).toNat = d → rg z9_5 0 24 → (∀ A : LA, absX 10 C A → x1 < A 5 0 2 → ∀ i : Nat, (i : Int) < z9_5.toInt → gsA A x1 x2 i → ga (K9 26) i = dyA A x1 x2 i) → TyX a E K9 → fr [(9, 10), (24, 28)] [] C K9 → fr [(26, 27)] [] C_2 K9 → va_P D vwCl (oh_W 35 a K9) H → va_D A (oh_W 35 a K9) → va_S A s.heap H locs → lv_has ls 6 [(5, .int z9_5), (0, .ref (a 3)), (1, .int x1), (2, .int x2), (3, .int x3), (4, .int x4)] → W p l e ({ frames := 4, cells := 0, slots := 0, locals := 100 }) s m (([.ref (a 3), .int x1, .int x2, .int x3, .int x4] : List Value).toArray) below meth c H locs 0 0 Q (F0 m 9 ls []) := by
    intro d
    induction d using Nat.strongRecOn with
    | ind d ih_9 =>
    intro K9 z9_5 H locs ls hd_9 hz9_5 hx_9 hT hF hLF_9 hP hD hS hl
    have t_6 := hT
    refine lv_iload hx hb dX5_leastDays_9 (lv_at hl 0 rfl) ?_
    refine lv_aload_n hx hb dX5_leastDays_11 rfl (lv_at hl 1 rfl) ?_
    refine va_get (D := D) (ci := 5) (v := .ref (a 1)) (C := RX5) (T := TX5) (N := 7) hx hb htg ig_5 hown hK hP 3 (oh_wg (by decide) (sX_3 hT)) rfl 0 (by decide) (htg _ q_167) (fun _ h9 => h9) rfl dX5_leastDays_12 ?_
    refine va_get (D := D) (ci := 0) (v := .ref (a 10)) (C := RX0) (T := TX0) (N := 8) hx hb htg ig_0 hown hK hP 1 (oh_wg (by decide) (sX_1 hT)) rfl 0 (by decide) (htg _ q_99) (fun _ h9 => h9) rfl dX5_leastDays_15 ?_
    refine lv_iconst (v := 0) hx hb dX5_leastDays_18 (by decide) ?_
    refine th_iald hx hb hK hP 10 (by decide) (Eq.trans (Eq.trans (hLF_9.1 10 rfl (by decide)) (f_4.1 10 rfl (by decide))) (sX_10 hT0)) (rg_in (rg_c (v := 0) (lo := 0) (hi := 0) (by decide)) (by decide)) dX5_leastDays_19 ?_
    refine lv_icmp_ge (tgt := 42) hx hb dX5_leastDays_20 (by decide) (fun (c_7 : (ga (C 10) ((0 : Int32)).toNatClampNeg) ≤ z9_5) => ?_) (fun (c_7 : ¬ ((ga (C 10) ((0 : Int32)).toNatClampNeg) ≤ z9_5)) => ?_)
    · refine lv_aload_n hx hb dX5_leastDays_42 rfl (lv_at hl 1 rfl) ?_
      refine lv_iload_n hx hb dX5_leastDays_43 rfl (lv_at hl 4 rfl) ?_
      refine tm_Vv (As := [.int x3]) (rest := []) ⟨hx, hb, hml, hown, htg⟩ (e_X5_spread l D E G _ a K9 hT x3 (rg_w hx3 (by decide))) (cwV 1 htg (oh_gV q_790 q_792 q_19 q_68 q_793) rfl rfl rfl pdVX5_spread ⟨Nat.le_of_ble_eq_true rfl, Nat.le_of_ble_eq_true rfl⟩) hK hP hD hG hS hA (va_recv hK hP (ci := 5) (q0 := 3) rfl (oh_wg (by decide) (sX_3 hT))) rfl hl.1 rfl (Nat.le_of_ble_eq_true rfl) dX5_leastDays_44 ⟨Nat.le_of_ble_eq_true rfl, Nat.le_of_ble_eq_true rfl⟩ (fun C_9 H locs hq_10 hP hD hS => ?_)
      obtain ⟨hT, f_11, hq_10⟩ := hq_10
      have hF := fr_tr hF f_11 (by decide) (by decide)
      refine W.widen (k := 0) (n := 0) (Nat.le_refl _) (Nat.le_refl _) ?_
      have t_12 := hT
      refine lv_aload_n hx hb dX5_leastDays_47 rfl (lv_at hl 1 rfl) ?_
      refine va_get (D := D) (ci := 5) (v := .ref (a 27)) (C := RX5) (T := TX5) (N := 7) hx hb htg ig_5 hown hK hP 3 (oh_wg (by decide) (sX_3 hT)) rfl 5 (by decide) (htg _ q_174) (fun _ h9 => h9) rfl dX5_leastDays_48 ?_
      refine lv_iload hx hb dX5_leastDays_51 (lv_at hl 5 rfl) ?_
      have n_13 : vp_in x4 16 := (rg_in hx4 (by decide))
      refine th_iald hx hb hK hP 27 (by decide) (sX_27 hT) n_13 dX5_leastDays_53 ?_
      rw [hQ]
      exact W.iret (v := ga (C_9 27) (x4).toNatClampNeg) hx hb hr (fun t ht hW => ⟨⟨ga (C_9 27) (x4).toNatClampNeg, C_9, rfl, ⟨hT, hF, (fun A hA hok hl => by have hs2 : svX C_2 A x1 x2 := hq_3 A hA hl; have hA2 := (absX_eq hA (fr_all f_4 10 15 (by decide))); have hA7 := (absX_eq (absX_eq hA (fr_all f_4 10 15 (by decide))) (fr_all hLF_9 10 15 (by decide))); have hs7 : svX K9 A x1 x2 := svX_eq hs2 (hLF_9.1 9 rfl (by decide)) (hLF_9.1 24 rfl (by decide)) (hLF_9.1 25 rfl (by decide)); have G := gx_d hA7 hok hs7 (pr_e (by rw [← hA.1 0 (by decide)]; exact rg_w (cntX 0 hT0 (by decide)) (by decide)) (by rw [← hA.1 0 (by decide)]; exact c_7) (hx_9 A hA hl)); have hF := ed_fin hok x1 x2 (p16 hx3); obtain ⟨hnn, D⟩ := hq_10 _ _ _ _ _ G; exact ld_e hnn D hF hx4)⟩, ⟨by rw [ht]; exact hP, hD⟩⟩, hS.F ht⟩) hS.2.2 dX5_leastDays_54
    · refine lv_aload_n hx hb dX5_leastDays_23 rfl (lv_at hl 1 rfl) ?_
      refine va_get (D := D) (ci := 5) (v := .ref (a 26)) (C := RX5) (T := TX5) (N := 7) hx hb htg ig_5 hown hK hP 3 (oh_wg (by decide) (sX_3 hT)) rfl 4 (by decide) (htg _ q_173) (fun _ h9 => h9) rfl dX5_leastDays_24 ?_
      refine lv_iload hx hb dX5_leastDays_27 (lv_at hl 0 rfl) ?_
      refine lv_aload_n hx hb dX5_leastDays_29 rfl (lv_at hl 1 rfl) ?_
      refine lv_iload hx hb dX5_leastDays_30 (lv_at hl 0 rfl) ?_
      refine tq_V (As := [.int z9_5]) (rest := [.int z9_5, .ref (a 26)]) (ws := (oh_W 35 a K9)) ⟨hx, hb, hml, hown, htg⟩ (e_X5_daysOf l D E G a K9 hT z9_5 (rg_w (rn_ltu (u' := 23) (Int32.not_le.mp c_7) hz9_5 (tA_rdc (lo := 0) (hi := 24) (tX_10 hT0) (rg_in (rg_c (v := 0) (lo := 0) (hi := 0) (by decide)) (by decide)) (show _ = 0 by decide) (by decide)) (by decide)) (by decide))) (cwV 1 htg (oh_gV q_812 q_768 q_769 q_68 q_770) rfl rfl rfl pdVX5_daysOf ⟨Nat.le_of_ble_eq_true rfl, Nat.le_of_ble_eq_true rfl⟩) hK hP hG hS (va_recv hK hP (ci := 5) (q0 := 3) rfl (oh_wg (by decide) (sX_3 hT))) rfl hl.1 rfl (Nat.le_of_ble_eq_true rfl) dX5_leastDays_32 ⟨Nat.le_of_ble_eq_true rfl, Nat.le_of_ble_eq_true rfl⟩ (fun r_14 hq_15 => ?_)
      have n_16 : vp_in z9_5 24 := (rg_in (rn_ltu (u' := 23) (Int32.not_le.mp c_7) hz9_5 (tA_rdc (lo := 0) (hi := 24) (tX_10 hT0) (rg_in (rg_c (v := 0) (lo := 0) (hi := 0) (by decide)) (by decide)) (show _ = 0 by decide) (by decide)) (by decide)) (by decide))
      refine th_iast (T := TyX a E) (Rl := fr [(9, 10), (24, 28)] [] C) hx hb hK hP hD hS 26 (by decide) (sX_26 hT) n_16 (hT.up 26 (tA_upd (tX_26 hT) tA_any)) (fr_st hF (by decide) (by decide)) dX5_leastDays_35 (fun C_17 H locs e_18 hT hF hP hD hS => ?_)
      have t_19 := hT
      refine lv_iinc (v := z9_5 + 1) (lv' := [(5, .int (z9_5 + 1)), (0, .ref (a 3)), (1, .int x1), (2, .int x2), (3, .int x3), (4, .int x4)]) hx hb dX5_leastDays_36 hl (k := 0) rfl (by rfl) (by decide) rfl (fun ls hl => ?_)
      refine lv_goto (tgt := 9) hx hb dX5_leastDays_39 (by decide) ?_
      exact ih_9 _ (hd_9 ▸ mu_up 24 (rn_ltu (u' := 23) (Int32.not_le.mp c_7) hz9_5 (tA_rdc (lo := 0) (hi := 24) (tX_10 hT0) (rg_in (rg_c (v := 0) (lo := 0) (hi := 0) (by decide)) (by decide)) (show _ = 0 by decide) (by decide)) (by decide)) (by decide)) C_17 (z9_5 + 1) _ _ ls rfl (rg_w (rg_add (lo := 1) (hi := 24) (rn_ltu (u' := 23) (Int32.not_le.mp c_7) hz9_5 (tA_rdc (lo := 0) (hi := 24) (tX_10 hT0) (rg_in (rg_c (v := 0) (lo := 0) (hi := 0) (by decide)) (by decide)) (show _ = 0 by decide) (by decide)) (by decide)) (rg_c (v := 1) (lo := 1) (hi := 1) (by decide)) (by decide)) (by decide)) (fun A hA hl => by have hK := (absX_eq (absX_eq hA (fr_all f_4 10 15 (by decide))) (fr_all hLF_9 10 15 (by decide))); exact pr_s (rg_w (lo := 0) (hi := 23) (rn_ltu (u' := 23) (Int32.not_le.mp c_7) hz9_5 (tA_rdc (lo := 0) (hi := 24) (tX_10 hT0) (rg_in (rg_c (v := 0) (lo := 0) (hi := 0) (by decide)) (by decide)) (show _ = 0 by decide) (by decide)) (by decide)) (by decide)) (hx_9 A hA hl) (st_ga e_18) (fun hg => dyX hK (svX_eq (hq_3 A hA hl) (hLF_9.1 9 rfl (by decide)) (hLF_9.1 24 rfl (by decide)) (hLF_9.1 25 rfl (by decide))) (rg_w (lo := 0) (hi := 23) (rn_ltu (u' := 23) (Int32.not_le.mp c_7) hz9_5 (tA_rdc (lo := 0) (hi := 24) (tX_10 hT0) (rg_in (rg_c (v := 0) (lo := 0) (hi := 0) (by decide)) (by decide)) (show _ = 0 by decide) (by decide)) (by decide)) (by decide)) (show z9_5 < A 5 0 0 from oh_lte (Int32.not_le.mp c_7) (hA.1 0 (by decide))) hg hq_15)) hT hF (fr_ste hLF_9 e_18 (by decide) (by decide)) hP hD hS (lv_sub hl [0, 1, 2, 3, 4, 5] rfl)
  exact L_9 _ C_2 0 _ _ ls rfl (rg_w (rg_c (v := 0) (lo := 0) (hi := 0) (by decide)) (by decide)) (fun A hA hl i hi => absurd hi (by show ¬ (i : Int) < 0; omega)) hT hF fr_rf hP hD hS (lv_sub hl [0, 1, 2, 3, 4, 5] rfl)

set_option maxHeartbeats 4000000 in
set_option maxRecDepth 100000 in
theorem e_X6_soonest (l : Launch) (D : va_G) (E : Nat → ClassId) (G : Nat → Nat) (sz : Nat) (a : Nat → Nat) (C : Nat → va_E) (hT : TyX a E C) (x1 : Int32) (x2 : Int32) (x3 : Int32) (x4 : Int32) : Met l yX6_soonest (oh_w yX6_soonest cX6_soonest 5 (some .int)) ({ frames := 5, cells := 0, slots := 0, locals := 125 }) (oh_Pm D E G [.ref (a 0), .int x1, .int x2, .int x3, .int x4] (oh_W 35 a C) sz) (va_Qi (fun r (u : Nat → va_E) => TyX a E u ∧ fr [(7, 8), (9, 10), (24, 28)] [] C u ∧ (∀ A : LA, absX 10 C A → okA A → r = spSoon A x1 x2 x3 x4)) (oh_B D (va_A (oh_W 35 a C) sz) (fun u => oh_W 35 a u)) (va_A (oh_W 35 a C) sz)) 0 0 (va_A (oh_W 35 a C) sz) := by
  refine Met.ofW (cc := cX6_soonest) (maxL := 5) (ret := (some .int)) (by decide) rfl ?_
  intro p e s m args below meth c s₁ B hml hv
  obtain ⟨rfl, hsz, hP, hK, hD0, hG⟩ := hv
  have hx := B.exec
  have hb := B.bytes
  have hr := B.returns
  have hts := atoms_spec (ws := (oh_w yX6_soonest cX6_soonest 5 (some .int))) B.pre
  have htg : ∀ w ∈ oh_t, w.before _ s = true := fun w h => hts w (List.mem_cons_of_mem _ h)
  have hown : s.vm.findClass RX6 = some m.cls := findClass_of_methodNamed B.named
  have hlocks := B.notSynchronized
  have hT0 := hT
  subst hsz
  have hD := hD0.self (sz := s.heap.size)
  generalize hAe : va_A (oh_W 35 a C) s.heap.size = A at hD hG ⊢
  have hA : ∀ q : Nat, s.heap.size ≤ q → A q := fun q h => by rw [← hAe]; exact Or.inr h
  have hS : va_S A s.heap s.heap [] := va_S.rf
  have hF : fr [(7, 8), (9, 10), (24, 28)] [] C C := fr_rf
  have hl := lv_entry ([.ref (a 0), .int x1, .int x2, .int x3, .int x4]) (n := 5) (Nat.le_of_ble_eq_true rfl)
  rw [lg_entry_eq]
  generalize (lg_sl ([.ref (a 0), .int x1, .int x2, .int x3, .int x4]) ++ List.replicate (5 - (lg_sl ([.ref (a 0), .int x1, .int x2, .int x3, .int x4])).length) Slot.unset).toArray = ls at hl ⊢
  have hl : lv_has ls 5 [(0, .ref (a 0)), (1, .int x1), (2, .int x2), (3, .int x3), (4, .int x4)] := hl
  refine oh_genQ (fun Q hQ => ?_)
  refine lv_aload_n hx hb dX6_soonest_0 rfl (lv_at hl 0 rfl) ?_
  refine lv_iload_n hx hb dX6_soonest_1 rfl (lv_at hl 1 rfl) ?_
  refine lv_iload_n hx hb dX6_soonest_2 rfl (lv_at hl 2 rfl) ?_
  refine lv_iload_n hx hb dX6_soonest_3 rfl (lv_at hl 3 rfl) ?_
  refine lv_iload hx hb dX6_soonest_4 (lv_at hl 4 rfl) ?_
  refine tq_V (As := [.int x1, .int x2, .int x3, .int x4]) (rest := []) (ws := (oh_W 35 a C)) ⟨hx, hb, hml, hown, htg⟩ (e_X6_isJourney l D E G a C hT x1 x2 x3 x4) (cwV 4 htg (oh_gV q_776 q_778 q_17 q_66 q_779) rfl rfl rfl pdVX6_isJourney ⟨Nat.le_of_ble_eq_true rfl, Nat.le_of_ble_eq_true rfl⟩) hK hP hG hS (va_recv hK hP (ci := 6) (q0 := 0) rfl (oh_wg (by decide) (sX_0 hT))) rfl hl.1 rfl (Nat.le_of_ble_eq_true rfl) dX6_soonest_6 ⟨Nat.le_of_ble_eq_true rfl, Nat.le_of_ble_eq_true rfl⟩ (fun r_1 hq_2 => ?_)
  refine lv_if_ne (tgt := 19) hx hb dX6_soonest_9 (by decide) (fun (c_3 : ¬ (r_1 = 0)) => ?_) (fun (c_3 : r_1 = 0) => ?_)
  · have u_4 := hq_2.2.1 c_3
    refine lv_aload_n hx hb dX6_soonest_19 rfl (lv_at hl 0 rfl) ?_
    refine lv_aload_n hx hb dX6_soonest_20 rfl (lv_at hl 0 rfl) ?_
    refine va_get (D := D) (ci := 6) (v := .ref (a 3)) (C := RX6) (T := TX6) (N := 9) hx hb htg ig_6 hown hK hP 0 (oh_wg (by decide) (sX_0 hT)) rfl 3 (by decide) (htg _ q_261) (fun _ h9 => h9) rfl dX6_soonest_21 ?_
    refine lv_iload_n hx hb dX6_soonest_24 rfl (lv_at hl 1 rfl) ?_
    refine lv_iload_n hx hb dX6_soonest_25 rfl (lv_at hl 2 rfl) ?_
    refine lv_iload_n hx hb dX6_soonest_26 rfl (lv_at hl 3 rfl) ?_
    refine lv_iload hx hb dX6_soonest_27 (lv_at hl 4 rfl) ?_
    refine tm_V (As := [.int x1, .int x2, .int x3, .int x4]) (rest := [.ref (a 0)]) ⟨hx, hb, hml, hown, htg⟩ (e_X5_leastDays l D E G _ a C hT x1 x2 x3 x4 (rg_w u_4.1 (by decide)) (rg_w u_4.2.1 (by decide)) (rg_w u_4.2.2.1 (by decide))) (cwV 4 htg (oh_gV q_808 q_809 q_810 q_68 q_811) rfl rfl rfl pdVX5_leastDays ⟨Nat.le_of_ble_eq_true rfl, Nat.le_of_ble_eq_true rfl⟩) hK hP hD hG hS hA (va_recv hK hP (ci := 5) (q0 := 3) rfl (oh_wg (by decide) (sX_3 hT))) rfl hl.1 rfl (Nat.le_of_ble_eq_true rfl) dX6_soonest_29 ⟨Nat.le_of_ble_eq_true rfl, Nat.le_of_ble_eq_true rfl⟩ (fun r_5 C_6 H locs hq_7 hP hD hS => ?_)
    obtain ⟨hT, f_8, hq_7⟩ := hq_7
    have hF := fr_tr hF f_8 (by decide) (by decide)
    refine W.widen (k := 0) (n := 0) (Nat.le_refl _) (Nat.le_refl _) ?_
    have t_9 := hT
    refine tm_V (As := [.int r_5]) (rest := []) ⟨hx, hb, hml, hown, htg⟩ (e_X6_orStuck l D E G _ a C_6 hT r_5) (cwV 1 htg (oh_gV q_799 q_801 q_21 q_66 q_802) rfl rfl rfl pdVX6_orStuck ⟨Nat.le_of_ble_eq_true rfl, Nat.le_of_ble_eq_true rfl⟩) hK hP hD hG hS hA (va_recv hK hP (ci := 6) (q0 := 0) rfl (oh_wg (by decide) (sX_0 hT))) rfl hl.1 rfl (Nat.le_of_ble_eq_true rfl) dX6_soonest_32 ⟨Nat.le_of_ble_eq_true rfl, Nat.le_of_ble_eq_true rfl⟩ (fun r_10 C_11 H locs hq_12 hP hD hS => ?_)
    obtain ⟨hT, f_13, hq_12⟩ := hq_12
    have hF := fr_tr hF f_13 (by decide) (by decide)
    refine W.widen (k := 0) (n := 0) (Nat.le_refl _) (Nat.le_refl _) ?_
    have t_14 := hT
    rw [hQ]
    exact W.iret (v := r_10) hx hb hr (fun t ht hW => ⟨⟨r_10, C_11, rfl, ⟨hT, hF, (fun A hA hok => by have hj : okJ A x1 x2 x3 x4 := (by unfold okJ; rw [← (show ga (C 10) ((2 : Int32)).toNatClampNeg = A 5 0 2 from hA.1 2 (by decide)), ← (show ga (C 10) ((3 : Int32)).toNatClampNeg = A 5 0 3 from hA.1 3 (by decide))]; exact u_4.2.2.2); exact Eq.trans (Eq.trans hq_12 (ld_st hok (rg_w (lo := 0) (hi := 15) u_4.2.1 (by decide)) (rg_w (lo := 0) (hi := 15) u_4.2.2.1 (by decide)) (hq_7 A hA hok hj.1.1.2))) (pif_pos hj).symm)⟩, ⟨by rw [ht]; exact hP, hD⟩⟩, hS.F ht⟩) hS.2.2 dX6_soonest_35
  · have u_15 := hq_2.2.2 c_3
    refine lv_aload_n hx hb dX6_soonest_12 rfl (lv_at hl 0 rfl) ?_
    refine lv_bipush (v := (-2)) hx hb dX6_soonest_13 (by decide) ?_
    refine tm_V (As := [.int (-2)]) (rest := []) ⟨hx, hb, hml, hown, htg⟩ (c_X6_refuse l D E G _ a C hT ((-2) : Int32)) (cwV 1 htg (oh_gV q_296 q_298 q_0 q_66 q_299) rfl rfl rfl pdVX6_refuse ⟨Nat.le_of_ble_eq_true rfl, Nat.le_of_ble_eq_true rfl⟩) hK hP hD hG hS hA (va_recv hK hP (ci := 6) (q0 := 0) rfl (oh_wg (by decide) (sX_0 hT))) rfl hl.1 rfl (Nat.le_of_ble_eq_true rfl) dX6_soonest_15 ⟨Nat.le_of_ble_eq_true rfl, Nat.le_of_ble_eq_true rfl⟩ (fun r_16 C_17 H locs hq_18 hP hD hS => ?_)
    obtain ⟨hT, f_19, hq_18⟩ := hq_18
    have hF := fr_tr hF f_19 (by decide) (by decide)
    refine W.widen (k := 0) (n := 0) (Nat.le_refl _) (Nat.le_refl _) ?_
    have t_20 := hT
    rw [hQ]
    exact W.iret (v := r_16) hx hb hr (fun t ht hW => ⟨⟨r_16, C_17, rfl, ⟨hT, hF, (fun A hA hok => Eq.trans hq_18 (pif_neg (by unfold okJ; rw [← (show ga (C 10) ((2 : Int32)).toNatClampNeg = A 5 0 2 from hA.1 2 (by decide)), ← (show ga (C 10) ((3 : Int32)).toNatClampNeg = A 5 0 3 from hA.1 3 (by decide))]; exact u_15)).symm)⟩, ⟨by rw [ht]; exact hP, hD⟩⟩, hS.F ht⟩) hS.2.2 dX6_soonest_18

theorem md_y {A : LA} {w s f t : Int32} {h : Nat → Int64} (hn : nnL h) (D : Dn (EdyA A w s) t.toNatClampNeg 1000000000000 (fL h)) (hF : ∀ q d, q < 16 → Ls (EdyA A w s) t.toNatClampNeg q d → d ≤ 900000000) (hf : rg f 0 15) (c1 : h f.toNatClampNeg < (1000000000000 : Int64)) : Int64.toInt32 (h f.toNatClampNeg) = pif (hasW (EdyA A w s) f.toNatClampNeg t.toNatClampNeg) (Int32.ofNat (lsN (EdyA A w s) f.toNatClampNeg t.toNatClampNeg)) (-5) := by
  have q : hasW (EdyA A w s) t.toNatClampNeg f.toNatClampNeg := Classical.byContradiction (fun z => absurd ((mL_i hn D hF (p16 hf)).mpr z) (Int64.not_le.mpr c1))
  obtain ⟨h1, h2⟩ := mL_y hn D hF (p16 hf) q
  rw [hasW_sym (E := EdyA A w s) edR_sym, lsN_sym (E := EdyA A w s) edR_sym, pif_pos q, mL_32 h1 h2]
theorem md_n {A : LA} {w s f t : Int32} {h : Nat → Int64} (hn : nnL h) (D : Dn (EdyA A w s) t.toNatClampNeg 1000000000000 (fL h)) (hF : ∀ q d, q < 16 → Ls (EdyA A w s) t.toNatClampNeg q d → d ≤ 900000000) (hf : rg f 0 15) (c1 : (1000000000000 : Int64) ≤ h f.toNatClampNeg) : (-5 : Int32) = pif (hasW (EdyA A w s) f.toNatClampNeg t.toNatClampNeg) (Int32.ofNat (lsN (EdyA A w s) f.toNatClampNeg t.toNatClampNeg)) (-5) := by
  rw [hasW_sym (E := EdyA A w s) edR_sym]
  exact (pif_neg ((mL_i hn D hF (p16 hf)).mp c1)).symm

set_option maxHeartbeats 4000000 in
set_option maxRecDepth 100000 in
theorem e_X7_soonest (l : Launch) (D : va_G) (E : Nat → ClassId) (G : Nat → Nat) (sz : Nat) (a : Nat → Nat) (C : Nat → va_E) (n : Nat) (hn : 74 ≤ n) (hT : TyM a E C) (x1 : Int32) (x2 : Int32) (x3 : Int32) (x4 : Int32) (hR : RelM C) : Met l yX7_soonest (oh_w yX7_soonest cX7_soonest 5 (some .int)) ({ frames := 6, cells := 0, slots := 0, locals := 152 }) (oh_Pm D E G [.ref (a 0), .int x1, .int x2, .int x3, .int x4] (oh_W n a C) sz) (va_Qi (fun r (u : Nat → va_E) => TyM a E u ∧ fr [(8, 9), (15, 16)] [] C u ∧ (RelM u) ∧ (∀ A : LA, absM C A → okA A → r = spSoon A x1 x2 x3 x4)) (oh_B D (va_A (oh_W n a C) sz) (fun u => oh_W n a u)) (va_A (oh_W n a C) sz)) 0 0 (va_A (oh_W n a C) sz) := by
  refine Met.ofW (cc := cX7_soonest) (maxL := 5) (ret := (some .int)) (by decide) rfl ?_
  intro p e s m args below meth c s₁ B hml hv
  obtain ⟨rfl, hsz, hP, hK, hD0, hG⟩ := hv
  have hx := B.exec
  have hb := B.bytes
  have hr := B.returns
  have hts := atoms_spec (ws := (oh_w yX7_soonest cX7_soonest 5 (some .int))) B.pre
  have htg : ∀ w ∈ oh_t, w.before _ s = true := fun w h => hts w (List.mem_cons_of_mem _ h)
  have hown : s.vm.findClass RX7 = some m.cls := findClass_of_methodNamed B.named
  have hlocks := B.notSynchronized
  have hT0 := hT
  subst hsz
  have hD := hD0.self (sz := s.heap.size)
  generalize hAe : va_A (oh_W n a C) s.heap.size = A at hD hG ⊢
  have hA : ∀ q : Nat, s.heap.size ≤ q → A q := fun q h => by rw [← hAe]; exact Or.inr h
  have hS : va_S A s.heap s.heap [] := va_S.rf
  have hF : fr [(8, 9), (15, 16)] [] C C := fr_rf
  have hl := lv_entry ([.ref (a 0), .int x1, .int x2, .int x3, .int x4]) (n := 5) (Nat.le_of_ble_eq_true rfl)
  rw [lg_entry_eq]
  generalize (lg_sl ([.ref (a 0), .int x1, .int x2, .int x3, .int x4]) ++ List.replicate (5 - (lg_sl ([.ref (a 0), .int x1, .int x2, .int x3, .int x4])).length) Slot.unset).toArray = ls at hl ⊢
  have hl : lv_has ls 5 [(0, .ref (a 0)), (1, .int x1), (2, .int x2), (3, .int x3), (4, .int x4)] := hl
  refine oh_genQ (fun Q hQ => ?_)
  refine lv_aload_n hx hb dX7_soonest_0 rfl (lv_at hl 0 rfl) ?_
  refine lv_iload_n hx hb dX7_soonest_1 rfl (lv_at hl 1 rfl) ?_
  refine lv_iload_n hx hb dX7_soonest_2 rfl (lv_at hl 2 rfl) ?_
  refine tq_V (As := [.int x1, .int x2]) (rest := []) (ws := (oh_W n a C)) ⟨hx, hb, hml, hown, htg⟩ (e_X7_isPack l D E G a C n hn hT x1 x2 hR.1) (cwV 2 htg (oh_gV q_1290 q_1292 q_50 q_73 q_1293) rfl rfl rfl pdVX7_isPack ⟨Nat.le_of_ble_eq_true rfl, Nat.le_of_ble_eq_true rfl⟩) hK hP hG hS (va_recv hK hP (ci := 7) (q0 := 0) rfl (oh_wg (Nat.lt_of_lt_of_le (by decide) hn) (sM_0 hT))) rfl hl.1 rfl (Nat.le_of_ble_eq_true rfl) dX7_soonest_3 ⟨Nat.le_of_ble_eq_true rfl, Nat.le_of_ble_eq_true rfl⟩ (fun r_1 hq_2 => ?_)
  refine lv_if_eq (tgt := 24) hx hb dX7_soonest_6 (by decide) (fun (c_3 : r_1 = 0) => ?_) (fun (c_3 : ¬ (r_1 = 0)) => ?_)
  · have u_4 := hq_2.2.2 c_3
    refine lv_aload_n hx hb dX7_soonest_24 rfl (lv_at hl 0 rfl) ?_
    refine lv_bipush (v := (-2)) hx hb dX7_soonest_25 (by decide) ?_
    refine tm_V (As := [.int (-2)]) (rest := []) ⟨hx, hb, hml, hown, htg⟩ (c_X7_refuse l D E G _ a C n hn hT ((-2) : Int32) (rg_w (rg_c (v := (-2)) (lo := (-2)) (hi := (-2)) (by decide)) (by decide))) (cwV 1 htg (oh_gV q_1071 q_1073 q_29 q_73 q_1074) rfl rfl rfl pdVX7_refuse ⟨Nat.le_of_ble_eq_true rfl, Nat.le_of_ble_eq_true rfl⟩) hK hP hD hG hS hA (va_recv hK hP (ci := 7) (q0 := 0) rfl (oh_wg (Nat.lt_of_lt_of_le (by decide) hn) (sM_0 hT))) rfl hl.1 rfl (Nat.le_of_ble_eq_true rfl) dX7_soonest_27 ⟨Nat.le_of_ble_eq_true rfl, Nat.le_of_ble_eq_true rfl⟩ (fun r_5 C_6 H locs hq_7 hP hD hS => ?_)
    obtain ⟨hT, f_8, hq_7⟩ := hq_7
    have hF := fr_tr hF f_8 (by decide) (by decide)
    refine W.widen (k := 0) (n := 0) (Nat.le_refl _) (Nat.le_refl _) ?_
    have t_9 := hT
    rw [hQ]
    exact W.iret (v := r_5) hx hb hr (fun t ht hW => ⟨⟨r_5, C_6, rfl, ⟨hT, hF, ⟨⟨hR.1.fr hF (by decide), hR.2.fr hF (by decide)⟩, (fun A hA hok => Eq.trans hq_7 (pif_neg (by unfold okJ; rw [← (show gi (C 0) 13 = A 5 0 2 from hA.1 2 (by decide)), ← (show gi (C 0) 15 = A 5 0 3 from hA.1 3 (by decide))]; exact (fun h8 => u_4 h8.1))).symm)⟩⟩, ⟨by rw [ht]; exact hP, hD⟩⟩, hS.F ht⟩) hS.2.2 dX7_soonest_30
  · have u_10 := hq_2.2.1 c_3
    refine lv_iload_n hx hb dX7_soonest_9 rfl (lv_at hl 3 rfl) ?_
    refine tq_S (As := [.int x3]) (rest := []) (ws := []) ⟨hx, hb, hml, hown, htg⟩ (e_X7_isPlace l D E G x3) (va_cwS 1 htg (oh_gS q_1130 q_1131 q_73 q_1132) rfl rfl rfl pdX7_isPlace ⟨Nat.le_of_ble_eq_true rfl, Nat.le_of_ble_eq_true rfl⟩) hK va_nil hG hS rfl hl.1 rfl (Nat.le_of_ble_eq_true rfl) dX7_soonest_10 ⟨Nat.le_of_ble_eq_true rfl, Nat.le_of_ble_eq_true rfl⟩ (fun r_11 hq_12 => ?_)
    refine lv_if_eq (tgt := 24) hx hb dX7_soonest_13 (by decide) (fun (c_13 : r_11 = 0) => ?_) (fun (c_13 : ¬ (r_11 = 0)) => ?_)
    · have u_14 := hq_12.2.2 c_13
      refine lv_aload_n hx hb dX7_soonest_24 rfl (lv_at hl 0 rfl) ?_
      refine lv_bipush (v := (-2)) hx hb dX7_soonest_25 (by decide) ?_
      refine tm_V (As := [.int (-2)]) (rest := []) ⟨hx, hb, hml, hown, htg⟩ (c_X7_refuse l D E G _ a C n hn hT ((-2) : Int32) (rg_w (rg_c (v := (-2)) (lo := (-2)) (hi := (-2)) (by decide)) (by decide))) (cwV 1 htg (oh_gV q_1071 q_1073 q_29 q_73 q_1074) rfl rfl rfl pdVX7_refuse ⟨Nat.le_of_ble_eq_true rfl, Nat.le_of_ble_eq_true rfl⟩) hK hP hD hG hS hA (va_recv hK hP (ci := 7) (q0 := 0) rfl (oh_wg (Nat.lt_of_lt_of_le (by decide) hn) (sM_0 hT))) rfl hl.1 rfl (Nat.le_of_ble_eq_true rfl) dX7_soonest_27 ⟨Nat.le_of_ble_eq_true rfl, Nat.le_of_ble_eq_true rfl⟩ (fun r_15 C_16 H locs hq_17 hP hD hS => ?_)
      obtain ⟨hT, f_18, hq_17⟩ := hq_17
      have hF := fr_tr hF f_18 (by decide) (by decide)
      refine W.widen (k := 0) (n := 0) (Nat.le_refl _) (Nat.le_refl _) ?_
      have t_19 := hT
      rw [hQ]
      exact W.iret (v := r_15) hx hb hr (fun t ht hW => ⟨⟨r_15, C_16, rfl, ⟨hT, hF, ⟨⟨hR.1.fr hF (by decide), hR.2.fr hF (by decide)⟩, (fun A hA hok => Eq.trans hq_17 (pif_neg (by unfold okJ; rw [← (show gi (C 0) 13 = A 5 0 2 from hA.1 2 (by decide)), ← (show gi (C 0) 15 = A 5 0 3 from hA.1 3 (by decide))]; exact (fun h8 => u_14 h8.2.1))).symm)⟩⟩, ⟨by rw [ht]; exact hP, hD⟩⟩, hS.F ht⟩) hS.2.2 dX7_soonest_30
    · have u_20 := hq_12.2.1 c_13
      refine lv_iload hx hb dX7_soonest_16 (lv_at hl 4 rfl) ?_
      refine tq_S (As := [.int x4]) (rest := []) (ws := []) ⟨hx, hb, hml, hown, htg⟩ (e_X7_isPlace l D E G x4) (va_cwS 1 htg (oh_gS q_1130 q_1131 q_73 q_1132) rfl rfl rfl pdX7_isPlace ⟨Nat.le_of_ble_eq_true rfl, Nat.le_of_ble_eq_true rfl⟩) hK va_nil hG hS rfl hl.1 rfl (Nat.le_of_ble_eq_true rfl) dX7_soonest_18 ⟨Nat.le_of_ble_eq_true rfl, Nat.le_of_ble_eq_true rfl⟩ (fun r_21 hq_22 => ?_)
      refine lv_if_ne (tgt := 31) hx hb dX7_soonest_21 (by decide) (fun (c_23 : ¬ (r_21 = 0)) => ?_) (fun (c_23 : r_21 = 0) => ?_)
      · have u_24 := hq_22.2.1 c_23
        refine lv_aload_n hx hb dX7_soonest_31 rfl (lv_at hl 0 rfl) ?_
        refine lv_iload_n hx hb dX7_soonest_32 rfl (lv_at hl 1 rfl) ?_
        refine lv_iload_n hx hb dX7_soonest_33 rfl (lv_at hl 2 rfl) ?_
        refine lv_iload hx hb dX7_soonest_34 (lv_at hl 4 rfl) ?_
        refine lv_iconst (v := 0) hx hb dX7_soonest_36 (by decide) ?_
        refine tm_Vv (As := [.int x1, .int x2, .int x4, .int 0]) (rest := []) ⟨hx, hb, hml, hown, htg⟩ (e_X7_findFar l D E G _ a C n hn hT x1 x2 x4 (0 : Int32) (rg_w u_10.1 (by decide)) (rg_w u_24 (by decide)) u_10.2.1) (cwV 4 htg (oh_gV q_1351 q_1353 q_60 q_73 q_1354) rfl rfl rfl pdVX7_findFar ⟨Nat.le_of_ble_eq_true rfl, Nat.le_of_ble_eq_true rfl⟩) hK hP hD hG hS hA (va_recv hK hP (ci := 7) (q0 := 0) rfl (oh_wg (Nat.lt_of_lt_of_le (by decide) hn) (sM_0 hT))) rfl hl.1 rfl (Nat.le_of_ble_eq_true rfl) dX7_soonest_37 ⟨Nat.le_of_ble_eq_true rfl, Nat.le_of_ble_eq_true rfl⟩ (fun C_26 H locs hq_27 hP hD hS => ?_)
        obtain ⟨hT, f_28, hq_27⟩ := hq_27
        have hF := fr_tr hF f_28 (by decide) (by decide)
        refine W.widen (k := 0) (n := 0) (Nat.le_refl _) (Nat.le_refl _) ?_
        have t_29 := hT
        refine lv_aload_n hx hb dX7_soonest_40 rfl (lv_at hl 0 rfl) ?_
        refine va_get (D := D) (ci := 7) (v := .ref (a 15)) (C := RX7) (T := TX7) (N := 29) hx hb htg ig_7 hown hK hP 0 (oh_wg (Nat.lt_of_lt_of_le (by decide) hn) (sM_0 hT)) rfl 27 (by decide) (htg _ q_1000) (fun _ h9 => h9) rfl dX7_soonest_41 ?_
        refine lv_iload_n hx hb dX7_soonest_44 rfl (lv_at hl 3 rfl) ?_
        have n_30 : vp_in x3 16 := (rg_in u_20 (by decide))
        refine th_lald hx hb hK hP 15 (Nat.lt_of_lt_of_le (by decide) hn) (sM_15 hT) n_30 dX7_soonest_45 ?_
        refine lv_ldc2 (v := 1000000000000) hx hb hown (htg _ q_1355) dX7_soonest_46 ?_
        refine W.lcmp hx hb dX7_soonest_49 ?_
        refine lv_if_lt (tgt := 62) hx hb dX7_soonest_50 (by decide) (fun (c_31 : (lg_cmp (gb (C_26 15) (x3).toNatClampNeg) 1000000000000) < 0) => ?_) (fun (c_31 : ¬ ((lg_cmp (gb (C_26 15) (x3).toNatClampNeg) 1000000000000) < 0)) => ?_)
        · refine lv_aload_n hx hb dX7_soonest_62 rfl (lv_at hl 0 rfl) ?_
          refine va_get (D := D) (ci := 7) (v := .ref (a 15)) (C := RX7) (T := TX7) (N := 29) hx hb htg ig_7 hown hK hP 0 (oh_wg (Nat.lt_of_lt_of_le (by decide) hn) (sM_0 hT)) rfl 27 (by decide) (htg _ q_1000) (fun _ h9 => h9) rfl dX7_soonest_63 ?_
          refine lv_iload_n hx hb dX7_soonest_66 rfl (lv_at hl 3 rfl) ?_
          have n_32 : vp_in x3 16 := (rg_in u_20 (by decide))
          refine th_lald hx hb hK hP 15 (Nat.lt_of_lt_of_le (by decide) hn) (sM_15 hT) n_32 dX7_soonest_67 ?_
          refine lv_l2i (v := Int64.toInt32 (gb (C_26 15) (x3).toNatClampNeg)) hx hb dX7_soonest_68 rfl ?_
          rw [hQ]
          exact W.iret (v := Int64.toInt32 (gb (C_26 15) (x3).toNatClampNeg)) hx hb hr (fun t ht hW => ⟨⟨Int64.toInt32 (gb (C_26 15) (x3).toNatClampNeg), C_26, rfl, ⟨hT, hF, ⟨⟨hR.1.fr hF (by decide), hR.2.fr hF (by decide)⟩, (fun A hA hok => by have hj : okJ A x1 x2 x3 x4 := (by unfold okJ; rw [← (show gi (C 0) 13 = A 5 0 2 from hA.1 2 (by decide)), ← (show gi (C 0) 15 = A 5 0 3 from hA.1 3 (by decide))]; exact ⟨u_10.2.2.2, (oh_rgI (p := 0) (q := 15) (rg_w (lo := 0) (hi := 15) u_20 (by decide))), (oh_rgI (p := 0) (q := 15) (rg_w (lo := 0) (hi := 15) u_24 (by decide)))⟩); obtain ⟨hnn, D⟩ := hq_27 A hA hok hj.1.1.2 ⟨by decide, by decide⟩; rw [EnA_0 rfl] at D; have hF := ed_fin hok x1 x2 (p16 (rg_w (lo := 0) (hi := 15) u_24 (by decide))); exact Eq.trans (md_y hnn D hF (rg_w (lo := 0) (hi := 15) u_20 (by decide)) (oh_lc_lt c_31)) (pif_pos hj).symm)⟩⟩, ⟨by rw [ht]; exact hP, hD⟩⟩, hS.F ht⟩) hS.2.2 dX7_soonest_69
        · refine lv_aload_n hx hb dX7_soonest_53 rfl (lv_at hl 0 rfl) ?_
          refine lv_bipush (v := (-5)) hx hb dX7_soonest_54 (by decide) ?_
          refine tm_V (As := [.int (-5)]) (rest := []) ⟨hx, hb, hml, hown, htg⟩ (c_X7_refuse l D E G _ a C_26 n hn hT ((-5) : Int32) (rg_w (rg_c (v := (-5)) (lo := (-5)) (hi := (-5)) (by decide)) (by decide))) (cwV 1 htg (oh_gV q_1071 q_1073 q_29 q_73 q_1074) rfl rfl rfl pdVX7_refuse ⟨Nat.le_of_ble_eq_true rfl, Nat.le_of_ble_eq_true rfl⟩) hK hP hD hG hS hA (va_recv hK hP (ci := 7) (q0 := 0) rfl (oh_wg (Nat.lt_of_lt_of_le (by decide) hn) (sM_0 hT))) rfl hl.1 rfl (Nat.le_of_ble_eq_true rfl) dX7_soonest_56 ⟨Nat.le_of_ble_eq_true rfl, Nat.le_of_ble_eq_true rfl⟩ (fun r_33 C_34 H locs hq_35 hP hD hS => ?_)
          obtain ⟨hT, f_36, hq_35⟩ := hq_35
          have hF := fr_tr hF f_36 (by decide) (by decide)
          refine W.widen (k := 0) (n := 0) (Nat.le_refl _) (Nat.le_refl _) ?_
          have t_37 := hT
          refine lv_goto (tgt := 69) hx hb dX7_soonest_59 (by decide) ?_
          rw [hQ]
          exact W.iret (v := r_33) hx hb hr (fun t ht hW => ⟨⟨r_33, C_34, rfl, ⟨hT, hF, ⟨⟨hR.1.fr hF (by decide), hR.2.fr hF (by decide)⟩, (fun A hA hok => by have hj : okJ A x1 x2 x3 x4 := (by unfold okJ; rw [← (show gi (C 0) 13 = A 5 0 2 from hA.1 2 (by decide)), ← (show gi (C 0) 15 = A 5 0 3 from hA.1 3 (by decide))]; exact ⟨u_10.2.2.2, (oh_rgI (p := 0) (q := 15) (rg_w (lo := 0) (hi := 15) u_20 (by decide))), (oh_rgI (p := 0) (q := 15) (rg_w (lo := 0) (hi := 15) u_24 (by decide)))⟩); obtain ⟨hnn, D⟩ := hq_27 A hA hok hj.1.1.2 ⟨by decide, by decide⟩; rw [EnA_0 rfl] at D; have hF := ed_fin hok x1 x2 (p16 (rg_w (lo := 0) (hi := 15) u_24 (by decide))); exact Eq.trans hq_35 (Eq.trans (md_n hnn D hF (rg_w (lo := 0) (hi := 15) u_20 (by decide)) (oh_lc_nlt c_31)) (pif_pos hj).symm))⟩⟩, ⟨by rw [ht]; exact hP, hD⟩⟩, hS.F ht⟩) hS.2.2 dX7_soonest_69
      · have u_38 := hq_22.2.2 c_23
        refine lv_aload_n hx hb dX7_soonest_24 rfl (lv_at hl 0 rfl) ?_
        refine lv_bipush (v := (-2)) hx hb dX7_soonest_25 (by decide) ?_
        refine tm_V (As := [.int (-2)]) (rest := []) ⟨hx, hb, hml, hown, htg⟩ (c_X7_refuse l D E G _ a C n hn hT ((-2) : Int32) (rg_w (rg_c (v := (-2)) (lo := (-2)) (hi := (-2)) (by decide)) (by decide))) (cwV 1 htg (oh_gV q_1071 q_1073 q_29 q_73 q_1074) rfl rfl rfl pdVX7_refuse ⟨Nat.le_of_ble_eq_true rfl, Nat.le_of_ble_eq_true rfl⟩) hK hP hD hG hS hA (va_recv hK hP (ci := 7) (q0 := 0) rfl (oh_wg (Nat.lt_of_lt_of_le (by decide) hn) (sM_0 hT))) rfl hl.1 rfl (Nat.le_of_ble_eq_true rfl) dX7_soonest_27 ⟨Nat.le_of_ble_eq_true rfl, Nat.le_of_ble_eq_true rfl⟩ (fun r_39 C_40 H locs hq_41 hP hD hS => ?_)
        obtain ⟨hT, f_42, hq_41⟩ := hq_41
        have hF := fr_tr hF f_42 (by decide) (by decide)
        refine W.widen (k := 0) (n := 0) (Nat.le_refl _) (Nat.le_refl _) ?_
        have t_43 := hT
        rw [hQ]
        exact W.iret (v := r_39) hx hb hr (fun t ht hW => ⟨⟨r_39, C_40, rfl, ⟨hT, hF, ⟨⟨hR.1.fr hF (by decide), hR.2.fr hF (by decide)⟩, (fun A hA hok => Eq.trans hq_41 (pif_neg (by unfold okJ; rw [← (show gi (C 0) 13 = A 5 0 2 from hA.1 2 (by decide)), ← (show gi (C 0) 15 = A 5 0 3 from hA.1 3 (by decide))]; exact (fun h8 => u_38 h8.2.2))).symm)⟩⟩, ⟨by rw [ht]; exact hP, hD⟩⟩, hS.F ht⟩) hS.2.2 dX7_soonest_30
/-! FULL: the places that can be reached -/
noncomputable def rcA (A : LA) (w s f : Int32) : Nat → Int32
  | 0 => 0
  | k + 1 => rcA A w s f k ||| pif (hasW (EcA A w s 1) f.toNatClampNeg k) ((1 : Int32) <<< (Int32.ofNat k &&& 31)) 0
theorem rcA_y {A : LA} {w s f z : Int32} (hz : rg z 0 15) (q : hasW (EcA A w s 1) f.toNatClampNeg z.toNatClampNeg) : rcA A w s f (z + 1).toNatClampNeg = rcA A w s f z.toNatClampNeg ||| ((1 : Int32) <<< (z &&& 31)) := by
  rw [z_s15 hz]
  show rcA A w s f z.toNatClampNeg ||| pif (hasW (EcA A w s 1) f.toNatClampNeg z.toNatClampNeg) ((1 : Int32) <<< (Int32.ofNat z.toNatClampNeg &&& 31)) 0 = _
  rw [pif_pos q, oh_ofc hz (by decide)]
theorem rcA_n {A : LA} {w s f z : Int32} (hz : rg z 0 15) (q : ¬ hasW (EcA A w s 1) f.toNatClampNeg z.toNatClampNeg) : rcA A w s f (z + 1).toNatClampNeg = rcA A w s f z.toNatClampNeg ||| 0 := by
  rw [z_s15 hz]
  show rcA A w s f z.toNatClampNeg ||| pif (hasW (EcA A w s 1) f.toNatClampNeg z.toNatClampNeg) ((1 : Int32) <<< (Int32.ofNat z.toNatClampNeg &&& 31)) 0 = _
  rw [pif_neg q]
noncomputable def spReach (A : LA) (w s f : Int32) : Int32 := pif (okPk (A 5 0 2) (A 5 0 3) w s ∧ (0 ≤ f ∧ f ≤ 15)) (rcA A w s f 16) (-2)

set_option maxHeartbeats 4000000 in
set_option maxRecDepth 100000 in
theorem e_X5_reached (l : Launch) (D : va_G) (E : Nat → ClassId) (G : Nat → Nat) (sz : Nat) (a : Nat → Nat) (C : Nat → va_E) (hT : TyX a E C) (x1 : Int32) (x2 : Int32) (x3 : Int32) (hx1 : rg x1 0 4) (hx3 : rg x3 0 15) : Met l yX5_reached (oh_w yX5_reached cX5_reached 6 (some .int)) ({ frames := 4, cells := 0, slots := 0, locals := 100 }) (oh_Pm D E G [.ref (a 3), .int x1, .int x2, .int x3] (oh_W 35 a C) sz) (va_Qi (fun r (u : Nat → va_E) => TyX a E u ∧ fr [(9, 10), (24, 28)] [] C u ∧ (∀ A : LA, absX 10 C A → okA A → x1 < A 5 0 2 → r = rcA A x1 x2 x3 16)) (oh_B D (va_A (oh_W 35 a C) sz) (fun u => oh_W 35 a u)) (va_A (oh_W 35 a C) sz)) 0 0 (va_A (oh_W 35 a C) sz) := by
  refine Met.ofW (cc := cX5_reached) (maxL := 6) (ret := (some .int)) (by decide) rfl ?_
  intro p e s m args below meth c s₁ B hml hv
  obtain ⟨rfl, hsz, hP, hK, hD0, hG⟩ := hv
  have hx := B.exec
  have hb := B.bytes
  have hr := B.returns
  have hts := atoms_spec (ws := (oh_w yX5_reached cX5_reached 6 (some .int))) B.pre
  have htg : ∀ w ∈ oh_t, w.before _ s = true := fun w h => hts w (List.mem_cons_of_mem _ h)
  have hown : s.vm.findClass RX5 = some m.cls := findClass_of_methodNamed B.named
  have hlocks := B.notSynchronized
  have hT0 := hT
  subst hsz
  have hD := hD0.self (sz := s.heap.size)
  generalize hAe : va_A (oh_W 35 a C) s.heap.size = A at hD hG ⊢
  have hA : ∀ q : Nat, s.heap.size ≤ q → A q := fun q h => by rw [← hAe]; exact Or.inr h
  have hS : va_S A s.heap s.heap [] := va_S.rf
  have hF : fr [(9, 10), (24, 28)] [] C C := fr_rf
  have hl := lv_entry ([.ref (a 3), .int x1, .int x2, .int x3]) (n := 6) (Nat.le_of_ble_eq_true rfl)
  rw [lg_entry_eq]
  generalize (lg_sl ([.ref (a 3), .int x1, .int x2, .int x3]) ++ List.replicate (6 - (lg_sl ([.ref (a 3), .int x1, .int x2, .int x3])).length) Slot.unset).toArray = ls at hl ⊢
  have hl : lv_has ls 6 [(0, .ref (a 3)), (1, .int x1), (2, .int x2), (3, .int x3)] := hl
  refine oh_genQ (fun Q hQ => ?_)
  refine lv_aload_n hx hb dX5_reached_0 rfl (lv_at hl 0 rfl) ?_
  refine lv_iload_n hx hb dX5_reached_1 rfl (lv_at hl 1 rfl) ?_
  refine lv_iload_n hx hb dX5_reached_2 rfl (lv_at hl 2 rfl) ?_
  refine tm_Vv (As := [.int x1, .int x2]) (rest := []) ⟨hx, hb, hml, hown, htg⟩ (e_X5_survey l D E G _ a C hT x1 x2 (rg_w hx1 (by decide))) (cwV 2 htg (oh_gV q_784 q_751 q_752 q_68 q_753) rfl rfl rfl pdVX5_survey ⟨Nat.le_of_ble_eq_true rfl, Nat.le_of_ble_eq_true rfl⟩) hK hP hD hG hS hA (va_recv hK hP (ci := 5) (q0 := 3) rfl (oh_wg (by decide) (sX_3 hT))) rfl hl.1 rfl (Nat.le_of_ble_eq_true rfl) dX5_reached_3 ⟨Nat.le_of_ble_eq_true rfl, Nat.le_of_ble_eq_true rfl⟩ (fun C_2 H locs hq_3 hP hD hS => ?_)
  obtain ⟨hT, f_4, hq_3⟩ := hq_3
  have hF := fr_tr hF f_4 (by decide) (by decide)
  refine W.widen (k := 0) (n := 0) (Nat.le_refl _) (Nat.le_refl _) ?_
  have t_5 := hT
  refine lv_aload_n hx hb dX5_reached_6 rfl (lv_at hl 0 rfl) ?_
  refine lv_iconst (v := 1) hx hb dX5_reached_7 (by decide) ?_
  refine tm_Vv (As := [.int 1]) (rest := []) ⟨hx, hb, hml, hown, htg⟩ (e_X5_priceByCoin l D E G _ a C_2 hT (1 : Int32)) (cwV 1 htg (oh_gV q_785 q_787 q_18 q_68 q_788) rfl rfl rfl pdVX5_priceByCoin ⟨Nat.le_of_ble_eq_true rfl, Nat.le_of_ble_eq_true rfl⟩) hK hP hD hG hS hA (va_recv hK hP (ci := 5) (q0 := 3) rfl (oh_wg (by decide) (sX_3 hT))) rfl hl.1 rfl (Nat.le_of_ble_eq_true rfl) dX5_reached_8 ⟨Nat.le_of_ble_eq_true rfl, Nat.le_of_ble_eq_true rfl⟩ (fun C_7 H locs hq_8 hP hD hS => ?_)
  obtain ⟨hT, f_9, hq_8⟩ := hq_8
  have hF := fr_tr hF f_9 (by decide) (by decide)
  refine W.widen (k := 0) (n := 0) (Nat.le_refl _) (Nat.le_refl _) ?_
  have t_10 := hT
  refine lv_aload_n hx hb dX5_reached_11 rfl (lv_at hl 0 rfl) ?_
  refine lv_iload_n hx hb dX5_reached_12 rfl (lv_at hl 3 rfl) ?_
  refine tm_Vv (As := [.int x3]) (rest := []) ⟨hx, hb, hml, hown, htg⟩ (e_X5_spread l D E G _ a C_7 hT x3 (rg_w hx3 (by decide))) (cwV 1 htg (oh_gV q_790 q_792 q_19 q_68 q_793) rfl rfl rfl pdVX5_spread ⟨Nat.le_of_ble_eq_true rfl, Nat.le_of_ble_eq_true rfl⟩) hK hP hD hG hS hA (va_recv hK hP (ci := 5) (q0 := 3) rfl (oh_wg (by decide) (sX_3 hT))) rfl hl.1 rfl (Nat.le_of_ble_eq_true rfl) dX5_reached_13 ⟨Nat.le_of_ble_eq_true rfl, Nat.le_of_ble_eq_true rfl⟩ (fun C_12 H locs hq_13 hP hD hS => ?_)
  obtain ⟨hT, f_14, hq_13⟩ := hq_13
  have hF := fr_tr hF f_14 (by decide) (by decide)
  refine W.widen (k := 0) (n := 0) (Nat.le_refl _) (Nat.le_refl _) ?_
  have t_15 := hT
  refine lv_iconst (v := 0) hx hb dX5_reached_16 (by decide) ?_
  refine lv_istore (lv' := [(4, .int 0), (0, .ref (a 3)), (1, .int x1), (2, .int x2), (3, .int x3)]) hx hb dX5_reached_17 hl (by decide) rfl (fun ls hl => ?_)
  refine lv_iconst (v := 0) hx hb dX5_reached_19 (by decide) ?_
  refine lv_istore (lv' := [(5, .int 0), (4, .int 0), (0, .ref (a 3)), (1, .int x1), (2, .int x2), (3, .int x3)]) hx hb dX5_reached_20 hl (by decide) rfl (fun ls hl => ?_)
  have L_22 : ∀ (d : Nat) (K22 : Nat → va_E) (z22_5 : Int32) (z22_4 : Int32) (H : Heap) (locs : List Loc) (ls : Array Slot), (16 - z22_5.toInt).toNat = d → rg z22_5 0 16 → (∀ A : LA, absX 10 C A → okA A → x1 < A 5 0 2 → z22_4 = rcA A x1 x2 x3 z22_5.toNatClampNeg) → TyX a E K22 → fr [(9, 10), (24, 28)] [] C K22 → fr [] [] C_12 K22 → va_P D vwCl (oh_W 35 a K22) H → va_D A (oh_W 35 a K22) → va_S A s.heap H locs → lv_has ls 6 [(5, .int z22_5), (4, .int z22_4), (0, .ref (a 3)), (1, .int x1), (2, .int x2), (3, .int x3)] → W p l e ({ frames := 4, cells := 0, slots := 0, locals := 100 }) s m (([.ref (a 3), .int x1, .int x2, .int x3] : List Value).toArray) below meth c H locs 0 0 Q (F0 m 22 ls []) := by
    intro d
    induction d using Nat.strongRecOn with
    | ind d ih_22 =>
    intro K22 z22_5 z22_4 H locs ls hd_22 hz22_5 hx_22 hT hF hLF_22 hP hD hS hl
    have t_16 := hT
    refine lv_iload hx hb dX5_reached_22 (lv_at hl 0 rfl) ?_
    refine lv_bipush (v := 16) hx hb dX5_reached_24 (by decide) ?_
    refine lv_icmp_ge (tgt := 56) hx hb dX5_reached_26 (by decide) (fun (c_17 : (16 : Int32) ≤ z22_5) => ?_) (fun (c_17 : ¬ ((16 : Int32) ≤ z22_5)) => ?_)
    · refine lv_iload hx hb dX5_reached_56 (lv_at hl 1 rfl) ?_
      rw [hQ]
      exact W.iret (v := z22_4) hx hb hr (fun t ht hW => ⟨⟨z22_4, K22, rfl, ⟨hT, hF, (fun A hA hok hl => by have h7 := hx_22 A hA hok hl; rw [oh_zeq (k := 16) hz22_5 c_17 (by decide)] at h7; exact h7)⟩, ⟨by rw [ht]; exact hP, hD⟩⟩, hS.F ht⟩) hS.2.2 dX5_reached_58
    · refine lv_aload_n hx hb dX5_reached_29 rfl (lv_at hl 2 rfl) ?_
      refine va_get (D := D) (ci := 5) (v := .ref (a 27)) (C := RX5) (T := TX5) (N := 7) hx hb htg ig_5 hown hK hP 3 (oh_wg (by decide) (sX_3 hT)) rfl 5 (by decide) (htg _ q_174) (fun _ h9 => h9) rfl dX5_reached_30 ?_
      refine lv_iload hx hb dX5_reached_33 (lv_at hl 0 rfl) ?_
      have n_18 : vp_in z22_5 16 := (rg_in (rn_ltu (u' := 15) (Int32.not_le.mp c_17) hz22_5 (rg_c (v := 16) (lo := 16) (hi := 16) (by decide)) (by decide)) (by decide))
      refine th_iald hx hb hK hP 27 (by decide) (Eq.trans (hLF_22.1 27 rfl (by decide)) (sX_27 t_15)) n_18 dX5_reached_35 ?_
      refine lv_ldc (v := 1000000000) hx hb hown (htg _ q_794) dX5_reached_36 ?_
      refine lv_icmp_eq (tgt := 50) hx hb dX5_reached_38 (by decide) (fun (c_19 : (ga (C_12 27) (z22_5).toNatClampNeg) = 1000000000) => ?_) (fun (c_19 : ¬ ((ga (C_12 27) (z22_5).toNatClampNeg) = 1000000000)) => ?_)
      · refine lv_iinc (v := z22_5 + 1) (lv' := [(5, .int (z22_5 + 1)), (4, .int z22_4), (0, .ref (a 3)), (1, .int x1), (2, .int x2), (3, .int x3)]) hx hb dX5_reached_50 hl (k := 0) rfl (by rfl) (by decide) rfl (fun ls hl => ?_)
        refine lv_goto (tgt := 22) hx hb dX5_reached_53 (by decide) ?_
        exact ih_22 _ (hd_22 ▸ mu_up 16 (rn_ltu (u' := 15) (Int32.not_le.mp c_17) hz22_5 (rg_c (v := 16) (lo := 16) (hi := 16) (by decide)) (by decide)) (by decide)) K22 (z22_5 + 1) z22_4 _ _ ls rfl (rg_w (rg_add (lo := 1) (hi := 16) (rn_ltu (u' := 15) (Int32.not_le.mp c_17) hz22_5 (rg_c (v := 16) (lo := 16) (hi := 16) (by decide)) (by decide)) (rg_c (v := 1) (lo := 1) (hi := 1) (by decide)) (by decide)) (by decide)) (fun A hA hok hl => by have hs2 : svX C_2 A x1 x2 := hq_3 A hA hl; have hA2 := (absX_eq hA (fr_all f_4 10 15 (by decide))); have hA7 := (absX_eq (absX_eq hA (fr_all f_4 10 15 (by decide))) (fr_all f_9 10 15 (by decide))); have hs7 : svX C_7 A x1 x2 := svX_eq hs2 (f_9.1 9 rfl (by decide)) (f_9.1 24 rfl (by decide)) (f_9.1 25 rfl (by decide)); have G := gx_c hA7 hok hx1 hl ⟨by decide, by decide⟩ hs7 (hq_8 A x1 x2 hA2 hs2); have hF := ec_fin hok x2 hx1 hl (n := 1) ⟨by decide, by decide⟩ (p16 hx3); obtain ⟨hnn, D⟩ := hq_13 _ _ _ _ _ G; rw [rcA_n (rg_w (lo := 0) (hi := 15) (rn_ltu (u' := 15) (Int32.not_le.mp c_17) hz22_5 (rg_c (v := 16) (lo := 16) (hi := 16) (by decide)) (by decide)) (by decide)) ((fX_i D hF (p16 (rg_w (lo := 0) (hi := 15) (rn_ltu (u' := 15) (Int32.not_le.mp c_17) hz22_5 (rg_c (v := 16) (lo := 16) (hi := 16) (by decide)) (by decide)) (by decide)))).mp c_19), ← hx_22 A hA hok hl, Int32.or_zero]) hT hF hLF_22 hP hD hS (lv_sub hl [0, 1, 2, 3, 4, 5] rfl)
      · refine lv_iload hx hb dX5_reached_41 (lv_at hl 1 rfl) ?_
        refine lv_iconst (v := 1) hx hb dX5_reached_43 (by decide) ?_
        refine lv_iload hx hb dX5_reached_44 (lv_at hl 0 rfl) ?_
        refine lv_ishl hx hb dX5_reached_46 ?_
        refine lv_ior hx hb dX5_reached_47 ?_
        refine lv_istore (lv' := [(4, .int (z22_4 ||| ((1 : Int32) <<< (z22_5 &&& 31)))), (5, .int z22_5), (0, .ref (a 3)), (1, .int x1), (2, .int x2), (3, .int x3)]) hx hb dX5_reached_48 hl (by decide) rfl (fun ls hl => ?_)
        refine lv_iinc (v := z22_5 + 1) (lv' := [(5, .int (z22_5 + 1)), (4, .int (z22_4 ||| ((1 : Int32) <<< (z22_5 &&& 31)))), (0, .ref (a 3)), (1, .int x1), (2, .int x2), (3, .int x3)]) hx hb dX5_reached_50 hl (k := 1) rfl (by rfl) (by decide) rfl (fun ls hl => ?_)
        refine lv_goto (tgt := 22) hx hb dX5_reached_53 (by decide) ?_
        exact ih_22 _ (hd_22 ▸ mu_up 16 (rn_ltu (u' := 15) (Int32.not_le.mp c_17) hz22_5 (rg_c (v := 16) (lo := 16) (hi := 16) (by decide)) (by decide)) (by decide)) K22 (z22_5 + 1) (z22_4 ||| ((1 : Int32) <<< (z22_5 &&& 31))) _ _ ls rfl (rg_w (rg_add (lo := 1) (hi := 16) (rn_ltu (u' := 15) (Int32.not_le.mp c_17) hz22_5 (rg_c (v := 16) (lo := 16) (hi := 16) (by decide)) (by decide)) (rg_c (v := 1) (lo := 1) (hi := 1) (by decide)) (by decide)) (by decide)) (fun A hA hok hl => by have hs2 : svX C_2 A x1 x2 := hq_3 A hA hl; have hA2 := (absX_eq hA (fr_all f_4 10 15 (by decide))); have hA7 := (absX_eq (absX_eq hA (fr_all f_4 10 15 (by decide))) (fr_all f_9 10 15 (by decide))); have hs7 : svX C_7 A x1 x2 := svX_eq hs2 (f_9.1 9 rfl (by decide)) (f_9.1 24 rfl (by decide)) (f_9.1 25 rfl (by decide)); have G := gx_c hA7 hok hx1 hl ⟨by decide, by decide⟩ hs7 (hq_8 A x1 x2 hA2 hs2); have hF := ec_fin hok x2 hx1 hl (n := 1) ⟨by decide, by decide⟩ (p16 hx3); obtain ⟨hnn, D⟩ := hq_13 _ _ _ _ _ G; rw [rcA_y (rg_w (lo := 0) (hi := 15) (rn_ltu (u' := 15) (Int32.not_le.mp c_17) hz22_5 (rg_c (v := 16) (lo := 16) (hi := 16) (by decide)) (by decide)) (by decide)) (Classical.byContradiction (fun q => c_19 ((fX_i D hF (p16 (rg_w (lo := 0) (hi := 15) (rn_ltu (u' := 15) (Int32.not_le.mp c_17) hz22_5 (rg_c (v := 16) (lo := 16) (hi := 16) (by decide)) (by decide)) (by decide)))).mpr q))), ← hx_22 A hA hok hl]) hT hF hLF_22 hP hD hS (lv_sub hl [0, 1, 2, 3, 4, 5] rfl)
  exact L_22 _ C_12 0 0 _ _ ls rfl (rg_w (rg_c (v := 0) (lo := 0) (hi := 0) (by decide)) (by decide)) (fun A hA hok hl => rfl) hT hF fr_rf hP hD hS (lv_sub hl [0, 1, 2, 3, 4, 5] rfl)

set_option maxHeartbeats 4000000 in
set_option maxRecDepth 100000 in
theorem e_X6_reach (l : Launch) (D : va_G) (E : Nat → ClassId) (G : Nat → Nat) (sz : Nat) (a : Nat → Nat) (C : Nat → va_E) (hT : TyX a E C) (x1 : Int32) (x2 : Int32) (x3 : Int32) : Met l yX6_reach (oh_w yX6_reach cX6_reach 4 (some .int)) ({ frames := 5, cells := 0, slots := 0, locals := 125 }) (oh_Pm D E G [.ref (a 0), .int x1, .int x2, .int x3] (oh_W 35 a C) sz) (va_Qi (fun r (u : Nat → va_E) => TyX a E u ∧ fr [(7, 8), (9, 10), (24, 28)] [] C u ∧ (∀ A : LA, absX 10 C A → okA A → r = spReach A x1 x2 x3)) (oh_B D (va_A (oh_W 35 a C) sz) (fun u => oh_W 35 a u)) (va_A (oh_W 35 a C) sz)) 0 0 (va_A (oh_W 35 a C) sz) := by
  refine Met.ofW (cc := cX6_reach) (maxL := 4) (ret := (some .int)) (by decide) rfl ?_
  intro p e s m args below meth c s₁ B hml hv
  obtain ⟨rfl, hsz, hP, hK, hD0, hG⟩ := hv
  have hx := B.exec
  have hb := B.bytes
  have hr := B.returns
  have hts := atoms_spec (ws := (oh_w yX6_reach cX6_reach 4 (some .int))) B.pre
  have htg : ∀ w ∈ oh_t, w.before _ s = true := fun w h => hts w (List.mem_cons_of_mem _ h)
  have hown : s.vm.findClass RX6 = some m.cls := findClass_of_methodNamed B.named
  have hlocks := B.notSynchronized
  have hT0 := hT
  subst hsz
  have hD := hD0.self (sz := s.heap.size)
  generalize hAe : va_A (oh_W 35 a C) s.heap.size = A at hD hG ⊢
  have hA : ∀ q : Nat, s.heap.size ≤ q → A q := fun q h => by rw [← hAe]; exact Or.inr h
  have hS : va_S A s.heap s.heap [] := va_S.rf
  have hF : fr [(7, 8), (9, 10), (24, 28)] [] C C := fr_rf
  have hl := lv_entry ([.ref (a 0), .int x1, .int x2, .int x3]) (n := 4) (Nat.le_of_ble_eq_true rfl)
  rw [lg_entry_eq]
  generalize (lg_sl ([.ref (a 0), .int x1, .int x2, .int x3]) ++ List.replicate (4 - (lg_sl ([.ref (a 0), .int x1, .int x2, .int x3])).length) Slot.unset).toArray = ls at hl ⊢
  have hl : lv_has ls 4 [(0, .ref (a 0)), (1, .int x1), (2, .int x2), (3, .int x3)] := hl
  refine oh_genQ (fun Q hQ => ?_)
  refine lv_aload_n hx hb dX6_reach_0 rfl (lv_at hl 0 rfl) ?_
  refine lv_iload_n hx hb dX6_reach_1 rfl (lv_at hl 1 rfl) ?_
  refine lv_iload_n hx hb dX6_reach_2 rfl (lv_at hl 2 rfl) ?_
  refine tq_V (As := [.int x1, .int x2]) (rest := []) (ws := (oh_W 35 a C)) ⟨hx, hb, hml, hown, htg⟩ (e_X6_isPack l D E G a C hT x1 x2) (cwV 2 htg (oh_gV q_695 q_697 q_16 q_66 q_698) rfl rfl rfl pdVX6_isPack ⟨Nat.le_of_ble_eq_true rfl, Nat.le_of_ble_eq_true rfl⟩) hK hP hG hS (va_recv hK hP (ci := 6) (q0 := 0) rfl (oh_wg (by decide) (sX_0 hT))) rfl hl.1 rfl (Nat.le_of_ble_eq_true rfl) dX6_reach_3 ⟨Nat.le_of_ble_eq_true rfl, Nat.le_of_ble_eq_true rfl⟩ (fun r_1 hq_2 => ?_)
  refine lv_if_eq (tgt := 16) hx hb dX6_reach_6 (by decide) (fun (c_3 : r_1 = 0) => ?_) (fun (c_3 : ¬ (r_1 = 0)) => ?_)
  · have u_4 := hq_2.2.2 c_3
    refine lv_aload_n hx hb dX6_reach_16 rfl (lv_at hl 0 rfl) ?_
    refine lv_bipush (v := (-2)) hx hb dX6_reach_17 (by decide) ?_
    refine tm_V (As := [.int (-2)]) (rest := []) ⟨hx, hb, hml, hown, htg⟩ (c_X6_refuse l D E G _ a C hT ((-2) : Int32)) (cwV 1 htg (oh_gV q_296 q_298 q_0 q_66 q_299) rfl rfl rfl pdVX6_refuse ⟨Nat.le_of_ble_eq_true rfl, Nat.le_of_ble_eq_true rfl⟩) hK hP hD hG hS hA (va_recv hK hP (ci := 6) (q0 := 0) rfl (oh_wg (by decide) (sX_0 hT))) rfl hl.1 rfl (Nat.le_of_ble_eq_true rfl) dX6_reach_19 ⟨Nat.le_of_ble_eq_true rfl, Nat.le_of_ble_eq_true rfl⟩ (fun r_5 C_6 H locs hq_7 hP hD hS => ?_)
    obtain ⟨hT, f_8, hq_7⟩ := hq_7
    have hF := fr_tr hF f_8 (by decide) (by decide)
    refine W.widen (k := 0) (n := 0) (Nat.le_refl _) (Nat.le_refl _) ?_
    have t_9 := hT
    rw [hQ]
    exact W.iret (v := r_5) hx hb hr (fun t ht hW => ⟨⟨r_5, C_6, rfl, ⟨hT, hF, (fun A hA hok => Eq.trans hq_7 (pif_neg (fun h8 => (show ¬ okPk (A 5 0 2) (A 5 0 3) x1 x2 by rw [← (show ga (C 10) ((2 : Int32)).toNatClampNeg = A 5 0 2 from hA.1 2 (by decide)), ← (show ga (C 10) ((3 : Int32)).toNatClampNeg = A 5 0 3 from hA.1 3 (by decide))]; exact u_4) h8.1)).symm)⟩, ⟨by rw [ht]; exact hP, hD⟩⟩, hS.F ht⟩) hS.2.2 dX6_reach_22
  · have u_10 := hq_2.2.1 c_3
    refine lv_iload_n hx hb dX6_reach_9 rfl (lv_at hl 3 rfl) ?_
    refine tq_S (As := [.int x3]) (rest := []) (ws := []) ⟨hx, hb, hml, hown, htg⟩ (e_X6_isPlace l D E G x3) (va_cwS 1 htg (oh_gS q_413 q_414 q_66 q_415) rfl rfl rfl pdX6_isPlace ⟨Nat.le_of_ble_eq_true rfl, Nat.le_of_ble_eq_true rfl⟩) hK va_nil hG hS rfl hl.1 rfl (Nat.le_of_ble_eq_true rfl) dX6_reach_10 ⟨Nat.le_of_ble_eq_true rfl, Nat.le_of_ble_eq_true rfl⟩ (fun r_11 hq_12 => ?_)
    refine lv_if_ne (tgt := 23) hx hb dX6_reach_13 (by decide) (fun (c_13 : ¬ (r_11 = 0)) => ?_) (fun (c_13 : r_11 = 0) => ?_)
    · have u_14 := hq_12.2.1 c_13
      refine lv_aload_n hx hb dX6_reach_23 rfl (lv_at hl 0 rfl) ?_
      refine va_get (D := D) (ci := 6) (v := .ref (a 3)) (C := RX6) (T := TX6) (N := 9) hx hb htg ig_6 hown hK hP 0 (oh_wg (by decide) (sX_0 hT)) rfl 3 (by decide) (htg _ q_261) (fun _ h9 => h9) rfl dX6_reach_24 ?_
      refine lv_iload_n hx hb dX6_reach_27 rfl (lv_at hl 1 rfl) ?_
      refine lv_iload_n hx hb dX6_reach_28 rfl (lv_at hl 2 rfl) ?_
      refine lv_iload_n hx hb dX6_reach_29 rfl (lv_at hl 3 rfl) ?_
      refine tm_V (As := [.int x1, .int x2, .int x3]) (rest := []) ⟨hx, hb, hml, hown, htg⟩ (e_X5_reached l D E G _ a C hT x1 x2 x3 (rg_w u_10.1 (by decide)) (rg_w u_14 (by decide))) (cwV 3 htg (oh_gV q_864 q_865 q_866 q_68 q_867) rfl rfl rfl pdVX5_reached ⟨Nat.le_of_ble_eq_true rfl, Nat.le_of_ble_eq_true rfl⟩) hK hP hD hG hS hA (va_recv hK hP (ci := 5) (q0 := 3) rfl (oh_wg (by decide) (sX_3 hT))) rfl hl.1 rfl (Nat.le_of_ble_eq_true rfl) dX6_reach_30 ⟨Nat.le_of_ble_eq_true rfl, Nat.le_of_ble_eq_true rfl⟩ (fun r_15 C_16 H locs hq_17 hP hD hS => ?_)
      obtain ⟨hT, f_18, hq_17⟩ := hq_17
      have hF := fr_tr hF f_18 (by decide) (by decide)
      refine W.widen (k := 0) (n := 0) (Nat.le_refl _) (Nat.le_refl _) ?_
      have t_19 := hT
      rw [hQ]
      exact W.iret (v := r_15) hx hb hr (fun t ht hW => ⟨⟨r_15, C_16, rfl, ⟨hT, hF, (fun A hA hok => by have hp := (show okPk (A 5 0 2) (A 5 0 3) x1 x2 by rw [← (show ga (C 10) ((2 : Int32)).toNatClampNeg = A 5 0 2 from hA.1 2 (by decide)), ← (show ga (C 10) ((3 : Int32)).toNatClampNeg = A 5 0 3 from hA.1 3 (by decide))]; exact u_10.2); exact Eq.trans (hq_17 A hA hok hp.1.2) (pif_pos ⟨hp, (oh_rgI (p := 0) (q := 15) (rg_w (lo := 0) (hi := 15) u_14 (by decide)))⟩).symm)⟩, ⟨by rw [ht]; exact hP, hD⟩⟩, hS.F ht⟩) hS.2.2 dX6_reach_33
    · have u_20 := hq_12.2.2 c_13
      refine lv_aload_n hx hb dX6_reach_16 rfl (lv_at hl 0 rfl) ?_
      refine lv_bipush (v := (-2)) hx hb dX6_reach_17 (by decide) ?_
      refine tm_V (As := [.int (-2)]) (rest := []) ⟨hx, hb, hml, hown, htg⟩ (c_X6_refuse l D E G _ a C hT ((-2) : Int32)) (cwV 1 htg (oh_gV q_296 q_298 q_0 q_66 q_299) rfl rfl rfl pdVX6_refuse ⟨Nat.le_of_ble_eq_true rfl, Nat.le_of_ble_eq_true rfl⟩) hK hP hD hG hS hA (va_recv hK hP (ci := 6) (q0 := 0) rfl (oh_wg (by decide) (sX_0 hT))) rfl hl.1 rfl (Nat.le_of_ble_eq_true rfl) dX6_reach_19 ⟨Nat.le_of_ble_eq_true rfl, Nat.le_of_ble_eq_true rfl⟩ (fun r_21 C_22 H locs hq_23 hP hD hS => ?_)
      obtain ⟨hT, f_24, hq_23⟩ := hq_23
      have hF := fr_tr hF f_24 (by decide) (by decide)
      refine W.widen (k := 0) (n := 0) (Nat.le_refl _) (Nat.le_refl _) ?_
      have t_25 := hT
      rw [hQ]
      exact W.iret (v := r_21) hx hb hr (fun t ht hW => ⟨⟨r_21, C_22, rfl, ⟨hT, hF, (fun A hA hok => Eq.trans hq_23 (pif_neg (fun h8 => u_20 h8.2)).symm)⟩, ⟨by rw [ht]; exact hP, hD⟩⟩, hS.F ht⟩) hS.2.2 dX6_reach_22

set_option maxHeartbeats 4000000 in
set_option maxRecDepth 100000 in
theorem e_X7_reach (l : Launch) (D : va_G) (E : Nat → ClassId) (G : Nat → Nat) (sz : Nat) (a : Nat → Nat) (C : Nat → va_E) (n : Nat) (hn : 74 ≤ n) (hT : TyM a E C) (x1 : Int32) (x2 : Int32) (x3 : Int32) (hR : RelM C) : Met l yX7_reach (oh_w yX7_reach cX7_reach 6 (some .int)) ({ frames := 6, cells := 0, slots := 0, locals := 152 }) (oh_Pm D E G [.ref (a 0), .int x1, .int x2, .int x3] (oh_W n a C) sz) (va_Qi (fun r (u : Nat → va_E) => TyM a E u ∧ fr [(8, 9), (15, 16)] [] C u ∧ (RelM u) ∧ (∀ A : LA, absM C A → okA A → r = spReach A x1 x2 x3)) (oh_B D (va_A (oh_W n a C) sz) (fun u => oh_W n a u)) (va_A (oh_W n a C) sz)) 0 0 (va_A (oh_W n a C) sz) := by
  refine Met.ofW (cc := cX7_reach) (maxL := 6) (ret := (some .int)) (by decide) rfl ?_
  intro p e s m args below meth c s₁ B hml hv
  obtain ⟨rfl, hsz, hP, hK, hD0, hG⟩ := hv
  have hx := B.exec
  have hb := B.bytes
  have hr := B.returns
  have hts := atoms_spec (ws := (oh_w yX7_reach cX7_reach 6 (some .int))) B.pre
  have htg : ∀ w ∈ oh_t, w.before _ s = true := fun w h => hts w (List.mem_cons_of_mem _ h)
  have hown : s.vm.findClass RX7 = some m.cls := findClass_of_methodNamed B.named
  have hlocks := B.notSynchronized
  have hT0 := hT
  subst hsz
  have hD := hD0.self (sz := s.heap.size)
  generalize hAe : va_A (oh_W n a C) s.heap.size = A at hD hG ⊢
  have hA : ∀ q : Nat, s.heap.size ≤ q → A q := fun q h => by rw [← hAe]; exact Or.inr h
  have hS : va_S A s.heap s.heap [] := va_S.rf
  have hF : fr [(8, 9), (15, 16)] [] C C := fr_rf
  have hl := lv_entry ([.ref (a 0), .int x1, .int x2, .int x3]) (n := 6) (Nat.le_of_ble_eq_true rfl)
  rw [lg_entry_eq]
  generalize (lg_sl ([.ref (a 0), .int x1, .int x2, .int x3]) ++ List.replicate (6 - (lg_sl ([.ref (a 0), .int x1, .int x2, .int x3])).length) Slot.unset).toArray = ls at hl ⊢
  have hl : lv_has ls 6 [(0, .ref (a 0)), (1, .int x1), (2, .int x2), (3, .int x3)] := hl
  refine oh_genQ (fun Q hQ => ?_)
  refine lv_aload_n hx hb dX7_reach_0 rfl (lv_at hl 0 rfl) ?_
  refine lv_iload_n hx hb dX7_reach_1 rfl (lv_at hl 1 rfl) ?_
  refine lv_iload_n hx hb dX7_reach_2 rfl (lv_at hl 2 rfl) ?_
  refine tq_V (As := [.int x1, .int x2]) (rest := []) (ws := (oh_W n a C)) ⟨hx, hb, hml, hown, htg⟩ (e_X7_isPack l D E G a C n hn hT x1 x2 hR.1) (cwV 2 htg (oh_gV q_1290 q_1292 q_50 q_73 q_1293) rfl rfl rfl pdVX7_isPack ⟨Nat.le_of_ble_eq_true rfl, Nat.le_of_ble_eq_true rfl⟩) hK hP hG hS (va_recv hK hP (ci := 7) (q0 := 0) rfl (oh_wg (Nat.lt_of_lt_of_le (by decide) hn) (sM_0 hT))) rfl hl.1 rfl (Nat.le_of_ble_eq_true rfl) dX7_reach_3 ⟨Nat.le_of_ble_eq_true rfl, Nat.le_of_ble_eq_true rfl⟩ (fun r_1 hq_2 => ?_)
  refine lv_if_eq (tgt := 16) hx hb dX7_reach_6 (by decide) (fun (c_3 : r_1 = 0) => ?_) (fun (c_3 : ¬ (r_1 = 0)) => ?_)
  · have u_4 := hq_2.2.2 c_3
    refine lv_aload_n hx hb dX7_reach_16 rfl (lv_at hl 0 rfl) ?_
    refine lv_bipush (v := (-2)) hx hb dX7_reach_17 (by decide) ?_
    refine tm_V (As := [.int (-2)]) (rest := []) ⟨hx, hb, hml, hown, htg⟩ (c_X7_refuse l D E G _ a C n hn hT ((-2) : Int32) (rg_w (rg_c (v := (-2)) (lo := (-2)) (hi := (-2)) (by decide)) (by decide))) (cwV 1 htg (oh_gV q_1071 q_1073 q_29 q_73 q_1074) rfl rfl rfl pdVX7_refuse ⟨Nat.le_of_ble_eq_true rfl, Nat.le_of_ble_eq_true rfl⟩) hK hP hD hG hS hA (va_recv hK hP (ci := 7) (q0 := 0) rfl (oh_wg (Nat.lt_of_lt_of_le (by decide) hn) (sM_0 hT))) rfl hl.1 rfl (Nat.le_of_ble_eq_true rfl) dX7_reach_19 ⟨Nat.le_of_ble_eq_true rfl, Nat.le_of_ble_eq_true rfl⟩ (fun r_5 C_6 H locs hq_7 hP hD hS => ?_)
    obtain ⟨hT, f_8, hq_7⟩ := hq_7
    have hF := fr_tr hF f_8 (by decide) (by decide)
    refine W.widen (k := 0) (n := 0) (Nat.le_refl _) (Nat.le_refl _) ?_
    have t_9 := hT
    rw [hQ]
    exact W.iret (v := r_5) hx hb hr (fun t ht hW => ⟨⟨r_5, C_6, rfl, ⟨hT, hF, ⟨⟨hR.1.fr hF (by decide), hR.2.fr hF (by decide)⟩, (fun A hA hok => Eq.trans hq_7 (pif_neg (fun h8 => (show ¬ okPk (A 5 0 2) (A 5 0 3) x1 x2 by rw [← (show gi (C 0) 13 = A 5 0 2 from hA.1 2 (by decide)), ← (show gi (C 0) 15 = A 5 0 3 from hA.1 3 (by decide))]; exact u_4) h8.1)).symm)⟩⟩, ⟨by rw [ht]; exact hP, hD⟩⟩, hS.F ht⟩) hS.2.2 dX7_reach_22
  · have u_10 := hq_2.2.1 c_3
    refine lv_iload_n hx hb dX7_reach_9 rfl (lv_at hl 3 rfl) ?_
    refine tq_S (As := [.int x3]) (rest := []) (ws := []) ⟨hx, hb, hml, hown, htg⟩ (e_X7_isPlace l D E G x3) (va_cwS 1 htg (oh_gS q_1130 q_1131 q_73 q_1132) rfl rfl rfl pdX7_isPlace ⟨Nat.le_of_ble_eq_true rfl, Nat.le_of_ble_eq_true rfl⟩) hK va_nil hG hS rfl hl.1 rfl (Nat.le_of_ble_eq_true rfl) dX7_reach_10 ⟨Nat.le_of_ble_eq_true rfl, Nat.le_of_ble_eq_true rfl⟩ (fun r_11 hq_12 => ?_)
    refine lv_if_ne (tgt := 23) hx hb dX7_reach_13 (by decide) (fun (c_13 : ¬ (r_11 = 0)) => ?_) (fun (c_13 : r_11 = 0) => ?_)
    · have u_14 := hq_12.2.1 c_13
      refine lv_aload_n hx hb dX7_reach_23 rfl (lv_at hl 0 rfl) ?_
      refine lv_iload_n hx hb dX7_reach_24 rfl (lv_at hl 1 rfl) ?_
      refine lv_iload_n hx hb dX7_reach_25 rfl (lv_at hl 2 rfl) ?_
      refine lv_iload_n hx hb dX7_reach_26 rfl (lv_at hl 3 rfl) ?_
      refine lv_iconst (v := 1) hx hb dX7_reach_27 (by decide) ?_
      refine tm_Vv (As := [.int x1, .int x2, .int x3, .int 1]) (rest := []) ⟨hx, hb, hml, hown, htg⟩ (e_X7_findFar l D E G _ a C n hn hT x1 x2 x3 (1 : Int32) (rg_w u_10.1 (by decide)) (rg_w u_14 (by decide)) u_10.2.1) (cwV 4 htg (oh_gV q_1351 q_1353 q_60 q_73 q_1354) rfl rfl rfl pdVX7_findFar ⟨Nat.le_of_ble_eq_true rfl, Nat.le_of_ble_eq_true rfl⟩) hK hP hD hG hS hA (va_recv hK hP (ci := 7) (q0 := 0) rfl (oh_wg (Nat.lt_of_lt_of_le (by decide) hn) (sM_0 hT))) rfl hl.1 rfl (Nat.le_of_ble_eq_true rfl) dX7_reach_28 ⟨Nat.le_of_ble_eq_true rfl, Nat.le_of_ble_eq_true rfl⟩ (fun C_16 H locs hq_17 hP hD hS => ?_)
      obtain ⟨hT, f_18, hq_17⟩ := hq_17
      have hF := fr_tr hF f_18 (by decide) (by decide)
      refine W.widen (k := 0) (n := 0) (Nat.le_refl _) (Nat.le_refl _) ?_
      have t_19 := hT
      refine lv_iconst (v := 0) hx hb dX7_reach_31 (by decide) ?_
      refine lv_istore (lv' := [(4, .int 0), (0, .ref (a 0)), (1, .int x1), (2, .int x2), (3, .int x3)]) hx hb dX7_reach_32 hl (by decide) rfl (fun ls hl => ?_)
      refine lv_iconst (v := 0) hx hb dX7_reach_34 (by decide) ?_
      refine lv_istore (lv' := [(5, .int 0), (4, .int 0), (0, .ref (a 0)), (1, .int x1), (2, .int x2), (3, .int x3)]) hx hb dX7_reach_35 hl (by decide) rfl (fun ls hl => ?_)
      have L_37 : ∀ (d : Nat) (K37 : Nat → va_E) (z37_5 : Int32) (z37_4 : Int32) (H : Heap) (locs : List Loc) (ls : Array Slot), (16 - z37_5.toInt).toNat = d → rg z37_5 0 16 → (∀ A : LA, absM C A → okA A → z37_4 = rcA A x1 x2 x3 z37_5.toNatClampNeg) → TyM a E K37 → fr [(8, 9), (15, 16)] [] C K37 → fr [] [] C_16 K37 → va_P D vwCl (oh_W n a K37) H → va_D A (oh_W n a K37) → va_S A s.heap H locs → lv_has ls 6 [(5, .int z37_5), (4, .int z37_4), (0, .ref (a 0)), (1, .int x1), (2, .int x2), (3, .int x3)] → W p l e ({ frames := 6, cells := 0, slots := 0, locals := 152 }) s m (([.ref (a 0), .int x1, .int x2, .int x3] : List Value).toArray) below meth c H locs 0 0 Q (F0 m 37 ls []) := by
        intro d
        induction d using Nat.strongRecOn with
        | ind d ih_37 =>
        intro K37 z37_5 z37_4 H locs ls hd_37 hz37_5 hx_37 hT hF hLF_37 hP hD hS hl
        have t_20 := hT
        refine lv_iload hx hb dX7_reach_37 (lv_at hl 0 rfl) ?_
        refine lv_bipush (v := 16) hx hb dX7_reach_39 (by decide) ?_
        refine lv_icmp_ge (tgt := 77) hx hb dX7_reach_41 (by decide) (fun (c_21 : (16 : Int32) ≤ z37_5) => ?_) (fun (c_21 : ¬ ((16 : Int32) ≤ z37_5)) => ?_)
        · refine lv_iload hx hb dX7_reach_77 (lv_at hl 1 rfl) ?_
          rw [hQ]
          exact W.iret (v := z37_4) hx hb hr (fun t ht hW => ⟨⟨z37_4, K37, rfl, ⟨hT, hF, ⟨⟨hR.1.fr hF (by decide), hR.2.fr hF (by decide)⟩, (fun A hA hok => by have hp := (show okPk (A 5 0 2) (A 5 0 3) x1 x2 by rw [← (show gi (C 0) 13 = A 5 0 2 from hA.1 2 (by decide)), ← (show gi (C 0) 15 = A 5 0 3 from hA.1 3 (by decide))]; exact u_10.2.2.2); have h7 := hx_37 A hA hok; rw [oh_zeq (k := 16) hz37_5 c_21 (by decide)] at h7; exact Eq.trans h7 (pif_pos ⟨hp, (oh_rgI (p := 0) (q := 15) (rg_w (lo := 0) (hi := 15) u_14 (by decide)))⟩).symm)⟩⟩, ⟨by rw [ht]; exact hP, hD⟩⟩, hS.F ht⟩) hS.2.2 dX7_reach_79
        · refine lv_iload hx hb dX7_reach_44 (lv_at hl 1 rfl) ?_
          refine lv_aload_n hx hb dX7_reach_46 rfl (lv_at hl 2 rfl) ?_
          refine va_get (D := D) (ci := 7) (v := .ref (a 15)) (C := RX7) (T := TX7) (N := 29) hx hb htg ig_7 hown hK hP 0 (oh_wg (Nat.lt_of_lt_of_le (by decide) hn) (sM_0 hT)) rfl 27 (by decide) (htg _ q_1000) (fun _ h9 => h9) rfl dX7_reach_47 ?_
          refine lv_iload hx hb dX7_reach_50 (lv_at hl 0 rfl) ?_
          have n_22 : vp_in z37_5 16 := (rg_in (rn_ltu (u' := 15) (Int32.not_le.mp c_21) hz37_5 (rg_c (v := 16) (lo := 16) (hi := 16) (by decide)) (by decide)) (by decide))
          refine th_lald hx hb hK hP 15 (Nat.lt_of_lt_of_le (by decide) hn) (Eq.trans (hLF_37.1 15 rfl (by decide)) (sM_15 t_19)) n_22 dX7_reach_52 ?_
          refine lv_ldc2 (v := 1000000000000) hx hb hown (htg _ q_1355) dX7_reach_53 ?_
          refine W.lcmp hx hb dX7_reach_56 ?_
          refine lv_if_ge (tgt := 67) hx hb dX7_reach_57 (by decide) (fun (c_23 : (0 : Int32) ≤ (lg_cmp (gb (C_16 15) (z37_5).toNatClampNeg) 1000000000000)) => ?_) (fun (c_23 : ¬ ((0 : Int32) ≤ (lg_cmp (gb (C_16 15) (z37_5).toNatClampNeg) 1000000000000))) => ?_)
          · refine lv_iconst (v := 0) hx hb dX7_reach_67 (by decide) ?_
            refine lv_ior hx hb dX7_reach_68 ?_
            refine lv_istore (lv' := [(4, .int (z37_4 ||| 0)), (5, .int z37_5), (0, .ref (a 0)), (1, .int x1), (2, .int x2), (3, .int x3)]) hx hb dX7_reach_69 hl (by decide) rfl (fun ls hl => ?_)
            refine lv_iinc (v := z37_5 + 1) (lv' := [(5, .int (z37_5 + 1)), (4, .int (z37_4 ||| 0)), (0, .ref (a 0)), (1, .int x1), (2, .int x2), (3, .int x3)]) hx hb dX7_reach_71 hl (k := 1) rfl (by rfl) (by decide) rfl (fun ls hl => ?_)
            refine lv_goto (tgt := 37) hx hb dX7_reach_74 (by decide) ?_
            exact ih_37 _ (hd_37 ▸ mu_up 16 (rn_ltu (u' := 15) (Int32.not_le.mp c_21) hz37_5 (rg_c (v := 16) (lo := 16) (hi := 16) (by decide)) (by decide)) (by decide)) K37 (z37_5 + 1) (z37_4 ||| 0) _ _ ls rfl (rg_w (rg_add (lo := 1) (hi := 16) (rn_ltu (u' := 15) (Int32.not_le.mp c_21) hz37_5 (rg_c (v := 16) (lo := 16) (hi := 16) (by decide)) (by decide)) (rg_c (v := 1) (lo := 1) (hi := 1) (by decide)) (by decide)) (by decide)) (fun A hA hok => by have hp := (show okPk (A 5 0 2) (A 5 0 3) x1 x2 by rw [← (show gi (C 0) 13 = A 5 0 2 from hA.1 2 (by decide)), ← (show gi (C 0) 15 = A 5 0 3 from hA.1 3 (by decide))]; exact u_10.2.2.2); obtain ⟨hnn, D⟩ := hq_17 A hA hok hp.1.2 ⟨by decide, by decide⟩; rw [EnA_1 (by decide)] at D; have hF := ec_fin hok x2 (rg_w (lo := 0) (hi := 4) u_10.1 (by decide)) hp.1.2 (n := 1) ⟨by decide, by decide⟩ (p16 (rg_w (lo := 0) (hi := 15) u_14 (by decide))); rw [rcA_n (rg_w (lo := 0) (hi := 15) (rn_ltu (u' := 15) (Int32.not_le.mp c_21) hz37_5 (rg_c (v := 16) (lo := 16) (hi := 16) (by decide)) (by decide)) (by decide)) ((mL_i hnn D hF (p16 (rg_w (lo := 0) (hi := 15) (rn_ltu (u' := 15) (Int32.not_le.mp c_21) hz37_5 (rg_c (v := 16) (lo := 16) (hi := 16) (by decide)) (by decide)) (by decide)))).mp (oh_lc_nlt (Int32.not_lt.mpr c_23))), ← hx_37 A hA hok]) hT hF hLF_37 hP hD hS (lv_sub hl [0, 1, 2, 3, 4, 5] rfl)
          · refine lv_iconst (v := 1) hx hb dX7_reach_60 (by decide) ?_
            refine lv_iload hx hb dX7_reach_61 (lv_at hl 0 rfl) ?_
            refine lv_ishl hx hb dX7_reach_63 ?_
            refine lv_goto (tgt := 68) hx hb dX7_reach_64 (by decide) ?_
            refine lv_ior hx hb dX7_reach_68 ?_
            refine lv_istore (lv' := [(4, .int (z37_4 ||| ((1 : Int32) <<< (z37_5 &&& 31)))), (5, .int z37_5), (0, .ref (a 0)), (1, .int x1), (2, .int x2), (3, .int x3)]) hx hb dX7_reach_69 hl (by decide) rfl (fun ls hl => ?_)
            refine lv_iinc (v := z37_5 + 1) (lv' := [(5, .int (z37_5 + 1)), (4, .int (z37_4 ||| ((1 : Int32) <<< (z37_5 &&& 31)))), (0, .ref (a 0)), (1, .int x1), (2, .int x2), (3, .int x3)]) hx hb dX7_reach_71 hl (k := 1) rfl (by rfl) (by decide) rfl (fun ls hl => ?_)
            refine lv_goto (tgt := 37) hx hb dX7_reach_74 (by decide) ?_
            exact ih_37 _ (hd_37 ▸ mu_up 16 (rn_ltu (u' := 15) (Int32.not_le.mp c_21) hz37_5 (rg_c (v := 16) (lo := 16) (hi := 16) (by decide)) (by decide)) (by decide)) K37 (z37_5 + 1) (z37_4 ||| ((1 : Int32) <<< (z37_5 &&& 31))) _ _ ls rfl (rg_w (rg_add (lo := 1) (hi := 16) (rn_ltu (u' := 15) (Int32.not_le.mp c_21) hz37_5 (rg_c (v := 16) (lo := 16) (hi := 16) (by decide)) (by decide)) (rg_c (v := 1) (lo := 1) (hi := 1) (by decide)) (by decide)) (by decide)) (fun A hA hok => by have hp := (show okPk (A 5 0 2) (A 5 0 3) x1 x2 by rw [← (show gi (C 0) 13 = A 5 0 2 from hA.1 2 (by decide)), ← (show gi (C 0) 15 = A 5 0 3 from hA.1 3 (by decide))]; exact u_10.2.2.2); obtain ⟨hnn, D⟩ := hq_17 A hA hok hp.1.2 ⟨by decide, by decide⟩; rw [EnA_1 (by decide)] at D; have hF := ec_fin hok x2 (rg_w (lo := 0) (hi := 4) u_10.1 (by decide)) hp.1.2 (n := 1) ⟨by decide, by decide⟩ (p16 (rg_w (lo := 0) (hi := 15) u_14 (by decide))); rw [rcA_y (rg_w (lo := 0) (hi := 15) (rn_ltu (u' := 15) (Int32.not_le.mp c_21) hz37_5 (rg_c (v := 16) (lo := 16) (hi := 16) (by decide)) (by decide)) (by decide)) (Classical.byContradiction (fun q => absurd ((mL_i hnn D hF (p16 (rg_w (lo := 0) (hi := 15) (rn_ltu (u' := 15) (Int32.not_le.mp c_21) hz37_5 (rg_c (v := 16) (lo := 16) (hi := 16) (by decide)) (by decide)) (by decide)))).mpr q) (Int64.not_le.mpr (oh_lc_lt (Int32.not_le.mp c_23))))), ← hx_37 A hA hok]) hT hF hLF_37 hP hD hS (lv_sub hl [0, 1, 2, 3, 4, 5] rfl)
      exact L_37 _ C_16 0 0 _ _ ls rfl (rg_w (rg_c (v := 0) (lo := 0) (hi := 0) (by decide)) (by decide)) (fun A hA hok => rfl) hT hF fr_rf hP hD hS (lv_sub hl [0, 1, 2, 3, 4, 5] rfl)
    · have u_24 := hq_12.2.2 c_13
      refine lv_aload_n hx hb dX7_reach_16 rfl (lv_at hl 0 rfl) ?_
      refine lv_bipush (v := (-2)) hx hb dX7_reach_17 (by decide) ?_
      refine tm_V (As := [.int (-2)]) (rest := []) ⟨hx, hb, hml, hown, htg⟩ (c_X7_refuse l D E G _ a C n hn hT ((-2) : Int32) (rg_w (rg_c (v := (-2)) (lo := (-2)) (hi := (-2)) (by decide)) (by decide))) (cwV 1 htg (oh_gV q_1071 q_1073 q_29 q_73 q_1074) rfl rfl rfl pdVX7_refuse ⟨Nat.le_of_ble_eq_true rfl, Nat.le_of_ble_eq_true rfl⟩) hK hP hD hG hS hA (va_recv hK hP (ci := 7) (q0 := 0) rfl (oh_wg (Nat.lt_of_lt_of_le (by decide) hn) (sM_0 hT))) rfl hl.1 rfl (Nat.le_of_ble_eq_true rfl) dX7_reach_19 ⟨Nat.le_of_ble_eq_true rfl, Nat.le_of_ble_eq_true rfl⟩ (fun r_25 C_26 H locs hq_27 hP hD hS => ?_)
      obtain ⟨hT, f_28, hq_27⟩ := hq_27
      have hF := fr_tr hF f_28 (by decide) (by decide)
      refine W.widen (k := 0) (n := 0) (Nat.le_refl _) (Nat.le_refl _) ?_
      have t_29 := hT
      rw [hQ]
      exact W.iret (v := r_25) hx hb hr (fun t ht hW => ⟨⟨r_25, C_26, rfl, ⟨hT, hF, ⟨⟨hR.1.fr hF (by decide), hR.2.fr hF (by decide)⟩, (fun A hA hok => Eq.trans hq_27 (pif_neg (fun h8 => u_24 h8.2)).symm)⟩⟩, ⟨by rw [ht]; exact hP, hD⟩⟩, hS.F ht⟩) hS.2.2 dX7_reach_22
/-! FULL: a least sum is there or not -/
theorem lc_w {A : LA} (h : okA A) {w s f t r : Int32} (h0 : rg w 0 4) (hl : w < A 5 0 2) (hf : rg f 0 15) (ht : rg t 0 15) (e : r = lcA A w s f t 1) : r = 1000000000 ↔ ¬ hasW (EcA A w s 1) f.toNatClampNeg t.toNatClampNeg := by
  constructor
  · intro z q
    have v := lc_v h h0 hl (n := 1) ⟨by decide, by decide⟩ hf ht q
    rw [show Int32.ofNat (lsN (EcA A w s 1) f.toNatClampNeg t.toNatClampNeg) + 1 * sumA A s 1 (A 5 0 3).toNatClampNeg = lcA A w s f t 1 from (pif_pos q).symm, ← e, z] at v
    exact absurd v.2 (by decide)
  · intro q
    rw [e]
    exact pif_neg q
theorem mc_w {A : LA} (h : okA A) {w s f t r : Int32} (h0 : rg w 0 4) (hl : w < A 5 0 2) (hf : rg f 0 15) (ht : rg t 0 15) (e : r = mcA A w s f t 1) : r = -1 ↔ ¬ hasW (EcA A w s 1) f.toNatClampNeg t.toNatClampNeg := by
  constructor
  · intro z q
    have v := lc_v h h0 hl (n := 1) ⟨by decide, by decide⟩ hf ht q
    rw [show Int32.ofNat (lsN (EcA A w s 1) f.toNatClampNeg t.toNatClampNeg) + 1 * sumA A s 1 (A 5 0 3).toNatClampNeg = mcA A w s f t 1 from (pif_pos q).symm, ← e, z] at v
    exact absurd v.1 (by decide)
  · intro q
    rw [e]
    exact pif_neg q
/-! FULL: with less weight, or with frost, no road stops going -/
theorem wk_mono {E F : Ed} {s : Nat} (h : ∀ u v e, E u v e → ∃ e', F u v e') : ∀ k p d, Wk E s k p d → ∃ d', Wk F s k p d' := by
  intro k
  induction k with
  | zero =>
    intro p d w
    exact ⟨d, w⟩
  | succ k ih =>
    intro p d w
    obtain ⟨q, c, e, w1, w2, _⟩ := w
    obtain ⟨c', w3⟩ := ih q c w1
    obtain ⟨e', w4⟩ := h q p e w2
    exact ⟨c' + e', q, c', e', w3, w4, rfl⟩
theorem hasW_mono {E F : Ed} {s p : Nat} (h : ∀ u v e, E u v e → ∃ e', F u v e') (w : hasW E s p) : hasW F s p := by
  obtain ⟨d, ⟨k, hk⟩, _⟩ := w
  obtain ⟨d', h2⟩ := wk_mono h k p d hk
  exact ls_ex d' ⟨k, h2⟩
theorem edR_mono {n : Nat} {a b : Nat → Nat} {g g' : Nat → Prop} {c c' : Nat → Nat} (h : ∀ r, r < n → g r → g' r) : ∀ u v e, EdR n a b g c u v e → ∃ e', EdR n a b g' c' u v e' := by
  intro u v e hE
  obtain ⟨r, hr, hg, hx, _⟩ := hE
  exact ⟨c' r, r, hr, h r hr hg, hx, rfl⟩
theorem set_o {A : LA} {k t : Nat} {v : Int32} (ht : t ≠ 4) : setA A k v t = A t := funext (fun i => funext (fun j => if_neg (fun q => ht q.1)))
theorem sumA_set {A : LA} {k : Nat} {v s : Int32} {col : Nat} : ∀ n, sumA (setA A k v) s col n = sumA A s col n := by
  intro n
  induction n with
  | zero => rfl
  | succ n ih =>
    show sumA (setA A k v) s col n + pif ((s >>> (Int32.ofNat n &&& 31)) &&& 1 = 0) 0 (setA A k v 3 n col) = sumA A s col n + pif ((s >>> (Int32.ofNat n &&& 31)) &&& 1 = 0) 0 (A 3 n col)
    rw [ih, setA_t (by decide)]
theorem n0_set {A : LA} {k : Nat} {v : Int32} : n0A (setA A k v) = n0A A := by
  unfold n0A
  rw [set_o (t := 5) (by decide)]
theorem n1_set {A : LA} {k : Nat} {v : Int32} : n1A (setA A k v) = n1A A := by
  unfold n1A
  rw [set_o (t := 5) (by decide)]
theorem aA_set {A : LA} {k : Nat} {v : Int32} : aA (setA A k v) = aA A := by
  funext r
  unfold aA
  rw [set_o (t := 0) (by decide)]
theorem bA_set {A : LA} {k : Nat} {v : Int32} : bA (setA A k v) = bA A := by
  funext r
  unfold bA
  rw [set_o (t := 0) (by decide)]
theorem ps_set {A : LA} {k : Nat} {v w : Int32} : psA (setA A k v) w = psA A w := by
  funext r
  unfold psA lenA
  rw [set_o (t := 0) (by decide), set_o (t := 2) (by decide)]
theorem rd_set {A : LA} {k : Nat} {v : Int32} : rdA (setA A k v) = rdA A := by
  funext r
  unfold rdA
  rw [set_o (t := 1) (by decide)]
theorem gs_set {A : LA} {k : Nat} {v w s : Int32} {r : Nat} : gsA (setA A k v) w s r ↔ gsU (psA A w) (rdA A) (ndA (setA A k v) w s) (n1A A) r := by
  unfold gsA
  rw [ps_set, rd_set, n1_set]
theorem ec_set {A : LA} {k : Nat} {v w s n : Int32} : EcA (setA A k v) w s n = EdR (n0A A) (aA A) (bA A) (gsA (setA A k v) w s) (cA (setA A k v) w s n) := by
  unfold EcA
  rw [n0_set, aA_set, bA_set]
/-- roads that go with the one go with the other: so do ways -/
theorem hw_set {A : LA} {k l : Nat} {v u w s n m : Int32} {f t : Nat} (h : ∀ b, b < n1A A → ¬ ndA (setA A k v) w s b = 2 → ¬ ndA (setA A l u) w s b = 2) (q : hasW (EcA (setA A k v) w s n) f t) : hasW (EcA (setA A l u) w s m) f t := by
  rw [ec_set] at q ⊢
  refine hasW_mono (edR_mono (fun r hr hg => ?_)) q
  have hg2 := gs_set.mp hg
  exact gs_set.mpr ⟨hg2.1, fun b hb e => h b hb (hg2.2 b hb e)⟩
noncomputable def ndG (bA bP bT pr kd ld sn : Int32) : Int32 := pif (bA < ld) 2 (pif (sn ≤ bP) 0 (pif (pr = 1 ∨ kd = 3) 2 (pif (sn ≤ bT) 1 2)))
theorem ndG_m {bA bA' bP bP' bT bT' pr kd ld ld' sn sn' : Int32} (h1 : bA ≤ bA') (h2 : bP ≤ bP') (h3 : bT ≤ bT') (h4 : ld' ≤ ld) (h5 : sn' ≤ sn) (h : ¬ ndG bA bP bT pr kd ld sn = 2) : ¬ ndG bA' bP' bT' pr kd ld' sn' = 2 := by
  unfold ndG at h ⊢
  by_cases a : bA < ld
  · exact absurd (pif_pos a) h
  · rw [pif_neg a] at h
    rw [pif_neg (Int32.not_lt.mpr (Int32.le_trans h4 (Int32.le_trans (Int32.not_lt.mp a) h1)))]
    by_cases b' : sn' ≤ bP'
    · rw [pif_pos b']
      decide
    · rw [pif_neg b']
      rw [pif_neg (fun b => b' (Int32.le_trans h5 (Int32.le_trans b h2)))] at h
      by_cases c : pr = 1 ∨ kd = 3
      · exact absurd (pif_pos c) h
      · rw [pif_neg c] at h ⊢
        by_cases e : sn ≤ bT
        · rw [pif_pos (Int32.le_trans h5 (Int32.le_trans e h3))]
          decide
        · exact absurd (pif_neg e) h
theorem belF_r {kd fa sk fr v : Int32} {u : Int} (hv : rg v 0 u) (hu : decide (0 ≤ u ∧ u ≤ 2000) = true) : rg (belF kd fa sk fr v) 0 u := by
  have h2 := of_decide_eq_true hu
  unfold belF
  by_cases q : fa = 1 ∨ (kd = 5 ∧ fr = 0)
  · rw [pif_pos q]
    exact ⟨by decide, h2.1⟩
  · rw [pif_neg q]
    by_cases p : (kd = 4 ∨ kd = 5) ∧ sk = 0
    · rw [pif_pos p]
      exact rg_div2 hv (by decide) (decide_eq_true ⟨Int.le_refl u, by omega⟩)
    · rw [pif_neg p]
      exact hv
theorem belF_f {kd fa sk v : Int32} {u : Int} (hv : rg v 0 u) (hu : decide (0 ≤ u ∧ u ≤ 2000) = true) : (belF kd fa sk 0 v).toInt ≤ (belF kd fa sk 1 v).toInt := by
  by_cases q : fa = 1 ∨ (kd = 5 ∧ (0 : Int32) = 0)
  · rw [show belF kd fa sk 0 v = 0 from pif_pos q]
    exact (belF_r (kd := kd) (fa := fa) (sk := sk) (fr := 1) hv hu).1
  · unfold belF
    rw [pif_neg q, pif_neg (show ¬ (fa = 1 ∨ (kd = 5 ∧ (1 : Int32) = 0)) from fun z => q (z.elim Or.inl (fun y => absurd y.2 (by decide))))]
    exact Int.le_refl _
theorem vAx {kd ax : Int32} (h : rg ax 1 99) : rg (pif (kd = 2) (ax + 5) ax) 0 104 := by
  by_cases q : kd = 2
  · rw [pif_pos q]
    exact rg_add h (rg_c (v := 5) (lo := 5) (hi := 5) (by decide)) (by decide)
  · rw [pif_neg q]
    exact rg_w h (by decide)
theorem vUn {kd al : Int32} (h : rg al 1 999) : rg (pif (kd = 1 ∨ kd = 2) (al + al / 10) al) 0 1998 := by
  by_cases q : kd = 1 ∨ kd = 2
  · rw [pif_pos q]
    exact rg_add h (rg_div2 (rg_w (lo := 0) (hi := 999) h (by decide)) (by decide) (hi := 999) (by decide)) (by decide)
  · rw [pif_neg q]
    exact rg_w h (by decide)
theorem bAxF_f {kd ax fa sk : Int32} (h : rg ax 1 99) : bAxF kd ax fa sk 0 ≤ bAxF kd ax fa sk 1 := Int32.le_iff_toInt_le.mpr (belF_f (vAx h) (by decide))
theorem bAlF_f {P : Prop} {kd al mo fa sk : Int32} (h : rg al 1 999) (hm : rg mo 0 999) : bAlF P kd al mo fa sk 0 ≤ bAlF P kd al mo fa sk 1 := by
  have h1 : (bUnF kd al fa sk 0).toInt ≤ (bUnF kd al fa sk 1).toInt := belF_f (vUn h) (by decide)
  have h2 : rg (bUnF kd al fa sk 0) 0 1998 := belF_r (vUn h) (by decide)
  have h3 : rg (bUnF kd al fa sk 1) 0 1998 := belF_r (vUn h) (by decide)
  refine Int32.le_iff_toInt_le.mpr ?_
  unfold bAlF
  by_cases q : P ∧ fa = 0
  · rw [pif_pos q, pif_pos q, Int32.toInt_add, Int32.toInt_add, oh_bmod (by have := h2.1; have := hm.1; omega) (by have := h2.2; have := hm.2; omega), oh_bmod (by have := h3.1; have := hm.1; omega) (by have := h3.2; have := hm.2; omega)]
    omega
  · rw [pif_neg q, pif_neg q]
    exact h1
theorem aL_f {A : LA} {v w s : Int32} : aL (setA A 2 v) w s = aL A w s := by
  unfold aL
  rw [set_o (t := 2) (by decide), sumA_set, set_o (t := 5) (by decide), show setA A 2 v 4 0 0 = A 4 0 0 from if_neg (by decide)]
theorem nd_f {A : LA} {v w s : Int32} {b : Nat} : ndA (setA A 2 v) w s b = ndG (bAxF (A 1 b 1) (A 1 b 3) (A 1 b 8) (A 1 b 9) v) (bAlF (A 1 b 7 = 1) (A 1 b 1) (A 1 b 4) (A 1 b 5) (A 1 b 8) (A 1 b 9) v) (bAlF True (A 1 b 1) (A 1 b 4) (A 1 b 5) (A 1 b 8) (A 1 b 9) v) (A 1 b 7) (A 1 b 1) (aL A w s) (snA A w s b) := by
  unfold ndA snA
  rw [aL_f, set_o (t := 1) (by decide), set_o (t := 2) (by decide), show setA A 2 v 4 0 2 = v from if_pos ⟨rfl, rfl, rfl⟩]
  rfl
/-- a way without frost is one with it -/
theorem hw_f {A : LA} (h : okA A) {w s n m : Int32} {f t : Nat} (q : hasW (EcA (setA A 2 0) w s n) f t) : hasW (EcA (setA A 2 1) w s m) f t := by
  refine hw_set (fun b hb => ?_) q
  have hv := h.2.2.2.1 b (h.n1 hb)
  rw [nd_f, nd_f]
  exact ndG_m (bAxF_f hv.2.2.2.1) (bAlF_f hv.2.2.2.2.1 hv.2.2.2.2.2.1) (bAlF_f hv.2.2.2.2.1 hv.2.2.2.2.2.1) (Int32.le_refl _) (Int32.le_refl _)
theorem absX_sk (k0 : Nat) {C u : Nat → va_E} {A : LA} {v : Int32} (h : absX 10 C A) (hf : ∀ k, 10 ≤ k → k ≤ 14 → u k = C k) (e0 : ga (u 15) k0 = v) (e1 : ∀ j, j ≠ k0 → ga (u 15) j = ga (C 15) j) : absX 10 u (setA A k0 v) := by
  refine absX_set h (show ga (u 15) = upd (ga (C 15)) k0 v from funext (fun j => ?_)) hf
  by_cases q : j = k0
  · rw [q, pk_us]
    exact e0
  · rw [pk_un q]
    exact e1 j q
theorem absM_sk (k0 : Nat) {a : Nat → Nat} {E : Nat → ClassId} {C u : Nat → va_E} {A : LA} {v : Int32} {mc : List (Nat × Nat)} {mf : List Nat} (h : absM C A) (hT : TyM a E C) (hf : fr mc mf C u) (e0 : ga (u 13) k0 = v) (e1 : ∀ j, j ≠ k0 → ga (u 13) j = ga (C 13) j) (hd1 : (mc.all (fun p => Nat.ble p.2 24 || Nat.ble 74 p.1)) = true) (hd2 : ((List.range 4).all (fun t => !(mf.contains (9 + 2 * t)))) = true) : absM u (setA A k0 v) := by
  refine absM_set h (fun s hs => congrArg vi (hf.2 _ ?_)) (fun j hj => ?_) (fun s hs i hi => hf.1 _ ?_ ?_)
  · have h2 := List.all_eq_true.mp hd2 s (List.mem_range.mpr hs)
    simpa using h2
  · by_cases q : j = k0
    · rw [if_pos q, q]
      exact e0
    · rw [if_neg q]
      exact e1 j q
  · have h1 := (cntM hT s hs).2
    have hb : 24 ≤ blk s + i ∧ blk s + i < 74 := by
      rcases (show s = 0 ∨ s = 1 ∨ s = 2 ∨ s = 3 by omega) with rfl | rfl | rfl | rfl <;> simp only [blk, blkN] at * <;> omega
    cases e : inR mc (blk s + i) with
    | false => rfl
    | true =>
      unfold inR at e
      rw [List.any_eq_true] at e
      obtain ⟨p, hp, h1⟩ := e
      rw [Bool.and_eq_true, Nat.ble_eq, Nat.blt_eq] at h1
      have h2 := List.all_eq_true.mp hd1 p hp
      rw [Bool.or_eq_true, Nat.ble_eq, Nat.ble_eq] at h2
      omega
  · have := blk_lo hs
    omega
theorem set_52 {A : LA} {k : Nat} {v w : Int32} (h : w < A 5 0 2) : w < setA A k v 5 0 2 := by
  rw [setA_5]
  exact h
/-! FULL: waiting for frost -/
def minL (a b : Int64) : Int64 := if b < a then b else a
def fvT (ch co : Int32) (ba fr : Int64) (p : Int64 × Int64) : Int64 × Int64 := (minL (ba * (p.2 * 10)) (Int32.toInt64 co * (p.2 * 10) + (Int32.toInt64 ch * fr * p.2 + Int32.toInt64 (10 - ch) * p.1)), p.2 * 10)
def fvS (ch co : Int32) (ba fr : Int64) : Nat → Int64 × Int64
  | 0 => (ba, 1)
  | k + 1 => fvT ch co ba fr (fvS ch co ba fr k)
theorem fv_s {ch co : Int32} {ba fr : Int64} {z : Int32} (hz : rg z 0 6) : fvS ch co ba fr (z + 1).toNatClampNeg = fvT ch co ba fr (fvS ch co ba fr z.toNatClampNeg) := by
  rw [z_s15 (rg_w hz (by decide))]
  rfl
theorem w_eq (co ch fr d v sc : Int64) : (10 * sc * co + ch * sc * fr) + d * v = co * (sc * 10) + (ch * fr * sc + d * v) := by
  rw [Int64.mul_comm 10 sc, Int64.mul_comm (sc * 10) co, Int64.mul_assoc ch sc fr, Int64.mul_comm sc fr, ← Int64.mul_assoc ch fr sc, Int64.add_assoc]
theorem fv_lt {ch co : Int32} {ba fr v sc : Int64} (c : sc * 10 * ba < (10 * sc * Int32.toInt64 co + Int32.toInt64 ch * sc * fr) + Int32.toInt64 (10 - ch) * v) : (sc * 10 * ba, sc * 10) = fvT ch co ba fr (v, sc) := by
  rw [w_eq, Int64.mul_comm (sc * 10) ba] at c
  have c2 := Int64.lt_iff_toInt_lt.mp c
  have e : minL (ba * (sc * 10)) (Int32.toInt64 co * (sc * 10) + (Int32.toInt64 ch * fr * sc + Int32.toInt64 (10 - ch) * v)) = ba * (sc * 10) := if_neg (fun q => by have q2 := Int64.lt_iff_toInt_lt.mp q; omega)
  show _ = (minL (ba * (sc * 10)) (Int32.toInt64 co * (sc * 10) + (Int32.toInt64 ch * fr * sc + Int32.toInt64 (10 - ch) * v)), sc * 10)
  rw [e, Int64.mul_comm (sc * 10) ba]
theorem fv_ge {ch co : Int32} {ba fr v sc : Int64} (c : (10 * sc * Int32.toInt64 co + Int32.toInt64 ch * sc * fr) + Int32.toInt64 (10 - ch) * v ≤ sc * 10 * ba) : ((10 * sc * Int32.toInt64 co + Int32.toInt64 ch * sc * fr) + Int32.toInt64 (10 - ch) * v, sc * 10) = fvT ch co ba fr (v, sc) := by
  rw [w_eq, Int64.mul_comm (sc * 10) ba] at c
  have c2 := Int64.le_iff_toInt_le.mp c
  have e : minL (ba * (sc * 10)) (Int32.toInt64 co * (sc * 10) + (Int32.toInt64 ch * fr * sc + Int32.toInt64 (10 - ch) * v)) = Int32.toInt64 co * (sc * 10) + (Int32.toInt64 ch * fr * sc + Int32.toInt64 (10 - ch) * v) := by
    unfold minL
    by_cases q : Int32.toInt64 co * (sc * 10) + (Int32.toInt64 ch * fr * sc + Int32.toInt64 (10 - ch) * v) < ba * (sc * 10)
    · rw [if_pos q]
    · rw [if_neg q]
      have q2 := Int64.le_iff_toInt_le.mp (Int64.not_lt.mp q)
      exact Int64.toInt_inj.mp (by omega)
  show _ = (minL (ba * (sc * 10)) (Int32.toInt64 co * (sc * 10) + (Int32.toInt64 ch * fr * sc + Int32.toInt64 (10 - ch) * v)), sc * 10)
  rw [e, w_eq]
noncomputable def spFrost (A : LA) (w s f t d ch co : Int32) : Int64 := pif (okJ A w s f t ∧ (0 ≤ d ∧ d ≤ 6) ∧ (0 ≤ ch ∧ ch ≤ 10) ∧ (0 ≤ co ∧ co ≤ 999)) (pif (hasW (EcA (setA A 2 0) w s 1) f.toNatClampNeg t.toNatClampNeg) (fvS ch co (Int32.toInt64 (lcA (setA A 2 0) w s f t 1)) (Int32.toInt64 (lcA (setA A 2 1) w s f t 1)) d.toNatClampNeg).1 (-5)) (-2)
theorem mc_lc {A : LA} {w s f t n : Int32} (q : hasW (EcA A w s n) f.toNatClampNeg t.toNatClampNeg) : mcA A w s f t n = lcA A w s f t n := Eq.trans (pif_pos q) (pif_pos q).symm
theorem ok_f {A : LA} (h : okA A) {v : Int32} (hv : rg v 0 1) : okA (setA A 2 v) := ok_set h (fun e => absurd e (by decide)) (fun e => absurd e (by decide)) (fun _ => hv)

set_option maxHeartbeats 4000000 in
set_option maxRecDepth 100000 in
theorem e_X6_valueOfWaiting (l : Launch) (D : va_G) (E : Nat → ClassId) (G : Nat → Nat) (x1 : Int64) (x2 : Int64) (x3 : Int32) (x4 : Int32) (x5 : Int32) (hx3 : rg x3 0 6) : Met l yX6_valueOfWaiting (oh_w yX6_valueOfWaiting cX6_valueOfWaiting 14 (some .long)) ({ frames := 1, cells := 0, slots := 0, locals := 15 }) (oh_Pp D E G [.long x1, .long x2, .int x3, .int x4, .int x5] []) (vp_Sl (fun r => (r = (fvS x4 x5 x1 x2 x3.toNatClampNeg).1))) 0 0 (fun _ => False) := by
  refine Met.ofW (cc := cX6_valueOfWaiting) (maxL := 14) (ret := (some .long)) (by decide) rfl ?_
  intro p e s m args below meth c s₁ B hml hv
  obtain ⟨rfl, hP, hK, hG⟩ := hv
  have hx := B.exec
  have hb := B.bytes
  have hr := B.returns
  have hts := atoms_spec (ws := (oh_w yX6_valueOfWaiting cX6_valueOfWaiting 14 (some .long))) B.pre
  have htg : ∀ w ∈ oh_t, w.before _ s = true := fun w h => hts w (List.mem_cons_of_mem _ h)
  have hown : s.vm.findClass RX6 = some m.cls := findClass_of_methodNamed B.named
  have hlocks := B.notSynchronized
  have hS : va_S (fun _ => False) s.heap s.heap [] := va_S.rf
  have hl := lv_entry ([.long x1, .long x2, .int x3, .int x4, .int x5]) (n := 14) (Nat.le_of_ble_eq_true rfl)
  rw [lg_entry_eq]
  generalize (lg_sl ([.long x1, .long x2, .int x3, .int x4, .int x5]) ++ List.replicate (14 - (lg_sl ([.long x1, .long x2, .int x3, .int x4, .int x5])).length) Slot.unset).toArray = ls at hl ⊢
  have hl : lv_has ls 14 [(0, .long x1), (2, .long x2), (4, .int x3), (5, .int x4), (6, .int x5)] := hl
  refine oh_genQ (fun Q hQ => ?_)
  refine lv_lload_n hx hb dX6_valueOfWaiting_0 rfl (lv_at hl 0 rfl) ?_
  refine lv_lstore (lv' := [(7, .long x1), (0, .long x1), (2, .long x2), (4, .int x3), (5, .int x4), (6, .int x5)]) hx hb dX6_valueOfWaiting_1 hl (by decide) rfl (fun ls hl => ?_)
  refine lv_lconst (v := 1) hx hb dX6_valueOfWaiting_3 (by decide) ?_
  refine lv_lstore (lv' := [(9, .long 1), (7, .long x1), (0, .long x1), (2, .long x2), (4, .int x3), (5, .int x4), (6, .int x5)]) hx hb dX6_valueOfWaiting_4 hl (by decide) rfl (fun ls hl => ?_)
  refine lv_iconst (v := 0) hx hb dX6_valueOfWaiting_6 (by decide) ?_
  refine lv_istore (lv' := [(11, .int 0), (9, .long 1), (7, .long x1), (0, .long x1), (2, .long x2), (4, .int x3), (5, .int x4), (6, .int x5)]) hx hb dX6_valueOfWaiting_7 hl (by decide) rfl (fun ls hl => ?_)
  have L_9 : ∀ (d : Nat) (z9_11 : Int32) (z9_9 : Int64) (z9_7 : Int64) (ls : Array Slot), (6 - z9_11.toInt).toNat = d → rg z9_11 0 6 → ((z9_7, z9_9) = fvS x4 x5 x1 x2 z9_11.toNatClampNeg) → (z9_11.toInt ≤ x3.toInt) → lv_has ls 14 [(11, .int z9_11), (9, .long z9_9), (7, .long z9_7), (0, .long x1), (2, .long x2), (4, .int x3), (5, .int x4), (6, .int x5)] → W p l e ({ frames := 1, cells := 0, slots := 0, locals := 15 }) s m (([.long x1, .long x2, .int x3, .int x4, .int x5] : List Value).toArray) below meth c s.heap [] 0 0 Q (F0 m 9 ls []) := by
    intro d
    induction d using Nat.strongRecOn with
    | ind d ih_9 =>
    intro z9_11 z9_9 z9_7 ls hd_9 hz9_11 hx_9 hy_9 hl
    refine lv_iload hx hb dX6_valueOfWaiting_9 (lv_at hl 0 rfl) ?_
    refine lv_iload hx hb dX6_valueOfWaiting_11 (lv_at hl 5 rfl) ?_
    refine lv_icmp_ge (tgt := 68) hx hb dX6_valueOfWaiting_13 (by decide) (fun (c_1 : x3 ≤ z9_11) => ?_) (fun (c_1 : ¬ (x3 ≤ z9_11)) => ?_)
    · refine lv_lload hx hb dX6_valueOfWaiting_68 (lv_at hl 2 rfl) ?_
      rw [hQ]
      exact W.lret (v := z9_7) hx hb hr (fun t ht hW => ⟨z9_7, rfl, (by have h7 := congrArg Prod.fst hx_9; rw [show z9_11 = x3 from Int32.toInt_inj.mp (by have h8 := Int32.le_iff_toInt_le.mp c_1; have h9 := hy_9; omega)] at h7; exact h7), ht⟩) (fun q h => by cases h) dX6_valueOfWaiting_70
    · refine lv_iload hx hb dX6_valueOfWaiting_16 (lv_at hl 6 rfl) ?_
      refine lv_i2l (v := Int32.toInt64 x4) hx hb dX6_valueOfWaiting_18 (by rfl) ?_
      refine lv_lload_n hx hb dX6_valueOfWaiting_19 rfl (lv_at hl 4 rfl) ?_
      refine lv_lmul hx hb dX6_valueOfWaiting_20 ?_
      refine lv_lload hx hb dX6_valueOfWaiting_21 (lv_at hl 1 rfl) ?_
      refine lv_lmul hx hb dX6_valueOfWaiting_23 ?_
      refine lv_bipush (v := 10) hx hb dX6_valueOfWaiting_24 (by decide) ?_
      refine lv_iload hx hb dX6_valueOfWaiting_26 (lv_at hl 6 rfl) ?_
      refine lv_isub hx hb dX6_valueOfWaiting_28 ?_
      refine lv_i2l (v := Int32.toInt64 (10 - x4)) hx hb dX6_valueOfWaiting_29 (by rfl) ?_
      refine lv_lload hx hb dX6_valueOfWaiting_30 (lv_at hl 2 rfl) ?_
      refine lv_lmul hx hb dX6_valueOfWaiting_32 ?_
      refine lv_ladd hx hb dX6_valueOfWaiting_33 ?_
      refine lv_lstore (lv' := [(12, .long ((((Int32.toInt64 x4) * x2) * z9_9) + ((Int32.toInt64 (10 - x4)) * z9_7))), (11, .int z9_11), (9, .long z9_9), (7, .long z9_7), (0, .long x1), (2, .long x2), (4, .int x3), (5, .int x4), (6, .int x5)]) hx hb dX6_valueOfWaiting_34 hl (by decide) rfl (fun ls hl => ?_)
      refine lv_lload hx hb dX6_valueOfWaiting_36 (lv_at hl 2 rfl) ?_
      refine lv_ldc2 (v := 10) hx hb hown (htg _ q_900) dX6_valueOfWaiting_38 ?_
      refine lv_lmul hx hb dX6_valueOfWaiting_41 ?_
      refine lv_lstore (lv' := [(9, .long (z9_9 * 10)), (12, .long ((((Int32.toInt64 x4) * x2) * z9_9) + ((Int32.toInt64 (10 - x4)) * z9_7))), (11, .int z9_11), (7, .long z9_7), (0, .long x1), (2, .long x2), (4, .int x3), (5, .int x4), (6, .int x5)]) hx hb dX6_valueOfWaiting_42 hl (by decide) rfl (fun ls hl => ?_)
      refine lv_lload_n hx hb dX6_valueOfWaiting_44 rfl (lv_at hl 4 rfl) ?_
      refine lv_lload hx hb dX6_valueOfWaiting_45 (lv_at hl 0 rfl) ?_
      refine lv_lmul hx hb dX6_valueOfWaiting_47 ?_
      refine lv_iload hx hb dX6_valueOfWaiting_48 (lv_at hl 8 rfl) ?_
      refine lv_i2l (v := Int32.toInt64 x5) hx hb dX6_valueOfWaiting_50 (by rfl) ?_
      refine lv_lload hx hb dX6_valueOfWaiting_51 (lv_at hl 0 rfl) ?_
      refine lv_lmul hx hb dX6_valueOfWaiting_53 ?_
      refine lv_lload hx hb dX6_valueOfWaiting_54 (lv_at hl 1 rfl) ?_
      refine lv_ladd hx hb dX6_valueOfWaiting_56 ?_
      refine va_mmin_long hx hb (by rw [hml]; exact hl.1.symm) hown (htg _ q_901) (htg _ q_902) (htg _ q_79) (htg _ q_903) (Nat.le_of_ble_eq_true rfl) (Nat.le_of_ble_eq_true rfl) (Nat.le_of_ble_eq_true rfl) (Nat.le_of_ble_eq_true rfl) dX6_valueOfWaiting_57 ?_
      refine lv_lstore (lv' := [(7, .long (if ((Int32.toInt64 x5) * (z9_9 * 10)) + ((((Int32.toInt64 x4) * x2) * z9_9) + ((Int32.toInt64 (10 - x4)) * z9_7)) < x1 * (z9_9 * 10) then ((Int32.toInt64 x5) * (z9_9 * 10)) + ((((Int32.toInt64 x4) * x2) * z9_9) + ((Int32.toInt64 (10 - x4)) * z9_7)) else x1 * (z9_9 * 10))), (9, .long (z9_9 * 10)), (12, .long ((((Int32.toInt64 x4) * x2) * z9_9) + ((Int32.toInt64 (10 - x4)) * z9_7))), (11, .int z9_11), (0, .long x1), (2, .long x2), (4, .int x3), (5, .int x4), (6, .int x5)]) hx hb dX6_valueOfWaiting_60 hl (by decide) rfl (fun ls hl => ?_)
      refine lv_iinc (v := z9_11 + 1) (lv' := [(11, .int (z9_11 + 1)), (7, .long (if ((Int32.toInt64 x5) * (z9_9 * 10)) + ((((Int32.toInt64 x4) * x2) * z9_9) + ((Int32.toInt64 (10 - x4)) * z9_7)) < x1 * (z9_9 * 10) then ((Int32.toInt64 x5) * (z9_9 * 10)) + ((((Int32.toInt64 x4) * x2) * z9_9) + ((Int32.toInt64 (10 - x4)) * z9_7)) else x1 * (z9_9 * 10))), (9, .long (z9_9 * 10)), (12, .long ((((Int32.toInt64 x4) * x2) * z9_9) + ((Int32.toInt64 (10 - x4)) * z9_7))), (0, .long x1), (2, .long x2), (4, .int x3), (5, .int x4), (6, .int x5)]) hx hb dX6_valueOfWaiting_62 hl (k := 3) rfl (by rfl) (by decide) rfl (fun ls hl => ?_)
      refine lv_goto (tgt := 9) hx hb dX6_valueOfWaiting_65 (by decide) ?_
      exact ih_9 _ (hd_9 ▸ mu_up 6 (rn_ltu (u' := 5) (Int32.not_le.mp c_1) hz9_11 hx3 (by decide)) (by decide)) (z9_11 + 1) (z9_9 * 10) (if ((Int32.toInt64 x5) * (z9_9 * 10)) + ((((Int32.toInt64 x4) * x2) * z9_9) + ((Int32.toInt64 (10 - x4)) * z9_7)) < x1 * (z9_9 * 10) then ((Int32.toInt64 x5) * (z9_9 * 10)) + ((((Int32.toInt64 x4) * x2) * z9_9) + ((Int32.toInt64 (10 - x4)) * z9_7)) else x1 * (z9_9 * 10)) ls rfl (rg_w (rg_add (lo := 1) (hi := 6) (rn_ltu (u' := 5) (Int32.not_le.mp c_1) hz9_11 hx3 (by decide)) (rg_c (v := 1) (lo := 1) (hi := 1) (by decide)) (by decide)) (by decide)) (by rw [fv_s (rg_w (lo := 0) (hi := 6) (rn_ltu (u' := 5) (Int32.not_le.mp c_1) hz9_11 hx3 (by decide)) (by decide)), ← hx_9]; rfl) (by have h7 := Int32.lt_iff_toInt_lt.mp (Int32.not_le.mp c_1); have h8 : (z9_11 + 1).toInt = z9_11.toInt + 1 := oh_incr (rn_ltu (u' := 5) (Int32.not_le.mp c_1) hz9_11 hx3 (by decide)) (by decide); omega) (lv_sub hl [0, 2, 1, 4, 5, 6, 7, 8] rfl)
  exact L_9 _ 0 1 x1 ls rfl (rg_w (rg_c (v := 0) (lo := 0) (hi := 0) (by decide)) (by decide)) rfl hx3.1 (lv_sub hl [0, 1, 2, 3, 4, 5, 6, 7] rfl)

set_option maxHeartbeats 4000000 in
set_option maxRecDepth 100000 in
theorem e2_X6_frost (l : Launch) (D : va_G) (E : Nat → ClassId) (G : Nat → Nat) (sz : Nat) (a : Nat → Nat) (C : Nat → va_E) (hT : TyX a E C) (x1 : Int32) (x2 : Int32) (x3 : Int32) (x4 : Int32) (x5 : Int32) (x6 : Int32) (x7 : Int32) : Met l yX6_frost (oh_w yX6_frost cX6_frost 11 (some .long)) ({ frames := 5, cells := 0, slots := 0, locals := 125 }) (oh_Pm D E G [.ref (a 0), .int x1, .int x2, .int x3, .int x4, .int x5, .int x6, .int x7] (oh_W 35 a C) sz) (va_Ql (fun r (u : Nat → va_E) => TyX a E u ∧ fr [(7, 8), (9, 10), (15, 16), (24, 28)] [] C u ∧ (ga (u 15) = ga (C 15)) ∧ (∀ A : LA, absX 10 C A → okA A → r = spFrost A x1 x2 x3 x4 x5 x6 x7)) (oh_B D (va_A (oh_W 35 a C) sz) (fun u => oh_W 35 a u)) (va_A (oh_W 35 a C) sz)) 0 0 (va_A (oh_W 35 a C) sz) := by
  refine Met.ofW (cc := cX6_frost) (maxL := 11) (ret := (some .long)) (by decide) rfl ?_
  intro p e s m args below meth c s₁ B hml hv
  obtain ⟨rfl, hsz, hP, hK, hD0, hG⟩ := hv
  have hx := B.exec
  have hb := B.bytes
  have hr := B.returns
  have hts := atoms_spec (ws := (oh_w yX6_frost cX6_frost 11 (some .long))) B.pre
  have htg : ∀ w ∈ oh_t, w.before _ s = true := fun w h => hts w (List.mem_cons_of_mem _ h)
  have hown : s.vm.findClass RX6 = some m.cls := findClass_of_methodNamed B.named
  have hlocks := B.notSynchronized
  have hT0 := hT
  subst hsz
  have hD := hD0.self (sz := s.heap.size)
  generalize hAe : va_A (oh_W 35 a C) s.heap.size = A at hD hG ⊢
  have hA : ∀ q : Nat, s.heap.size ≤ q → A q := fun q h => by rw [← hAe]; exact Or.inr h
  have hS : va_S A s.heap s.heap [] := va_S.rf
  have hF : fr [(7, 8), (9, 10), (15, 16), (24, 28)] [] C C := fr_rf
  have hl := lv_entry ([.ref (a 0), .int x1, .int x2, .int x3, .int x4, .int x5, .int x6, .int x7]) (n := 11) (Nat.le_of_ble_eq_true rfl)
  rw [lg_entry_eq]
  generalize (lg_sl ([.ref (a 0), .int x1, .int x2, .int x3, .int x4, .int x5, .int x6, .int x7]) ++ List.replicate (11 - (lg_sl ([.ref (a 0), .int x1, .int x2, .int x3, .int x4, .int x5, .int x6, .int x7])).length) Slot.unset).toArray = ls at hl ⊢
  have hl : lv_has ls 11 [(0, .ref (a 0)), (1, .int x1), (2, .int x2), (3, .int x3), (4, .int x4), (5, .int x5), (6, .int x6), (7, .int x7)] := hl
  refine oh_genQ (fun Q hQ => ?_)
  refine lv_aload_n hx hb dX6_frost_0 rfl (lv_at hl 0 rfl) ?_
  refine lv_iload_n hx hb dX6_frost_1 rfl (lv_at hl 1 rfl) ?_
  refine lv_iload_n hx hb dX6_frost_2 rfl (lv_at hl 2 rfl) ?_
  refine lv_iload_n hx hb dX6_frost_3 rfl (lv_at hl 3 rfl) ?_
  refine lv_iload hx hb dX6_frost_4 (lv_at hl 4 rfl) ?_
  refine tq_V (As := [.int x1, .int x2, .int x3, .int x4]) (rest := []) (ws := (oh_W 35 a C)) ⟨hx, hb, hml, hown, htg⟩ (e_X6_isJourney l D E G a C hT x1 x2 x3 x4) (cwV 4 htg (oh_gV q_776 q_778 q_17 q_66 q_779) rfl rfl rfl pdVX6_isJourney ⟨Nat.le_of_ble_eq_true rfl, Nat.le_of_ble_eq_true rfl⟩) hK hP hG hS (va_recv hK hP (ci := 6) (q0 := 0) rfl (oh_wg (by decide) (sX_0 hT))) rfl hl.1 rfl (Nat.le_of_ble_eq_true rfl) dX6_frost_6 ⟨Nat.le_of_ble_eq_true rfl, Nat.le_of_ble_eq_true rfl⟩ (fun r_1 hq_2 => ?_)
  refine lv_if_eq (tgt := 46) hx hb dX6_frost_9 (by decide) (fun (c_3 : r_1 = 0) => ?_) (fun (c_3 : ¬ (r_1 = 0)) => ?_)
  · have u_4 := hq_2.2.2 c_3
    refine lv_aload_n hx hb dX6_frost_46 rfl (lv_at hl 0 rfl) ?_
    refine lv_bipush (v := (-2)) hx hb dX6_frost_47 (by decide) ?_
    refine tm_V (As := [.int (-2)]) (rest := []) ⟨hx, hb, hml, hown, htg⟩ (c_X6_refuse l D E G _ a C hT ((-2) : Int32)) (cwV 1 htg (oh_gV q_296 q_298 q_0 q_66 q_299) rfl rfl rfl pdVX6_refuse ⟨Nat.le_of_ble_eq_true rfl, Nat.le_of_ble_eq_true rfl⟩) hK hP hD hG hS hA (va_recv hK hP (ci := 6) (q0 := 0) rfl (oh_wg (by decide) (sX_0 hT))) rfl hl.1 rfl (Nat.le_of_ble_eq_true rfl) dX6_frost_49 ⟨Nat.le_of_ble_eq_true rfl, Nat.le_of_ble_eq_true rfl⟩ (fun r_5 C_6 H locs hq_7 hP hD hS => ?_)
    obtain ⟨hT, f_8, hq_7⟩ := hq_7
    have hF := fr_tr hF f_8 (by decide) (by decide)
    refine W.widen (k := 0) (n := 0) (Nat.le_refl _) (Nat.le_refl _) ?_
    have t_9 := hT
    refine lv_i2l (v := Int32.toInt64 r_5) hx hb dX6_frost_52 (by rfl) ?_
    rw [hQ]
    exact W.lret (v := Int32.toInt64 r_5) hx hb hr (fun t ht hW => ⟨⟨Int32.toInt64 r_5, C_6, rfl, ⟨hT, hF, ⟨(congrArg ga (f_8.1 15 rfl (by decide))), (fun A hA hok => Eq.trans (show Int32.toInt64 r_5 = (-2 : Int64) by rw [hq_7]; rfl) (pif_neg (fun h8 => by have h7 := h8.1; unfold okJ at h7; rw [← (show ga (C 10) ((2 : Int32)).toNatClampNeg = A 5 0 2 from hA.1 2 (by decide)), ← (show ga (C 10) ((3 : Int32)).toNatClampNeg = A 5 0 3 from hA.1 3 (by decide))] at h7; exact u_4 h7)).symm)⟩⟩, ⟨by rw [ht]; exact hP, hD⟩⟩, hS.F ht⟩) hS.2.2 dX6_frost_53
  · have u_10 := hq_2.2.1 c_3
    refine lv_iload hx hb dX6_frost_12 (lv_at hl 5 rfl) ?_
    refine lv_iconst (v := 0) hx hb dX6_frost_14 (by decide) ?_
    refine lv_bipush (v := 6) hx hb dX6_frost_15 (by decide) ?_
    refine tq_S (As := [.int x5, .int 0, .int 6]) (rest := []) (ws := []) ⟨hx, hb, hml, hown, htg⟩ (c_X6_within l D E G x5 (0 : Int32) (6 : Int32)) (va_cwS 3 htg (oh_gS q_293 q_294 q_66 q_295) rfl rfl rfl pdX6_within ⟨Nat.le_of_ble_eq_true rfl, Nat.le_of_ble_eq_true rfl⟩) hK va_nil hG hS rfl hl.1 rfl (Nat.le_of_ble_eq_true rfl) dX6_frost_17 ⟨Nat.le_of_ble_eq_true rfl, Nat.le_of_ble_eq_true rfl⟩ (fun r_11 hq_12 => ?_)
    refine lv_if_eq (tgt := 46) hx hb dX6_frost_20 (by decide) (fun (c_13 : r_11 = 0) => ?_) (fun (c_13 : ¬ (r_11 = 0)) => ?_)
    · have u_14 := hq_12.2.2 c_13
      refine lv_aload_n hx hb dX6_frost_46 rfl (lv_at hl 0 rfl) ?_
      refine lv_bipush (v := (-2)) hx hb dX6_frost_47 (by decide) ?_
      refine tm_V (As := [.int (-2)]) (rest := []) ⟨hx, hb, hml, hown, htg⟩ (c_X6_refuse l D E G _ a C hT ((-2) : Int32)) (cwV 1 htg (oh_gV q_296 q_298 q_0 q_66 q_299) rfl rfl rfl pdVX6_refuse ⟨Nat.le_of_ble_eq_true rfl, Nat.le_of_ble_eq_true rfl⟩) hK hP hD hG hS hA (va_recv hK hP (ci := 6) (q0 := 0) rfl (oh_wg (by decide) (sX_0 hT))) rfl hl.1 rfl (Nat.le_of_ble_eq_true rfl) dX6_frost_49 ⟨Nat.le_of_ble_eq_true rfl, Nat.le_of_ble_eq_true rfl⟩ (fun r_15 C_16 H locs hq_17 hP hD hS => ?_)
      obtain ⟨hT, f_18, hq_17⟩ := hq_17
      have hF := fr_tr hF f_18 (by decide) (by decide)
      refine W.widen (k := 0) (n := 0) (Nat.le_refl _) (Nat.le_refl _) ?_
      have t_19 := hT
      refine lv_i2l (v := Int32.toInt64 r_15) hx hb dX6_frost_52 (by rfl) ?_
      rw [hQ]
      exact W.lret (v := Int32.toInt64 r_15) hx hb hr (fun t ht hW => ⟨⟨Int32.toInt64 r_15, C_16, rfl, ⟨hT, hF, ⟨(congrArg ga (f_18.1 15 rfl (by decide))), (fun A hA hok => Eq.trans (show Int32.toInt64 r_15 = (-2 : Int64) by rw [hq_17]; rfl) (pif_neg (fun h8 => u_14 h8.2.1)).symm)⟩⟩, ⟨by rw [ht]; exact hP, hD⟩⟩, hS.F ht⟩) hS.2.2 dX6_frost_53
    · have u_20 := hq_12.2.1 c_13
      refine lv_iload hx hb dX6_frost_23 (lv_at hl 6 rfl) ?_
      refine lv_iconst (v := 0) hx hb dX6_frost_25 (by decide) ?_
      refine lv_bipush (v := 10) hx hb dX6_frost_26 (by decide) ?_
      refine tq_S (As := [.int x6, .int 0, .int 10]) (rest := []) (ws := []) ⟨hx, hb, hml, hown, htg⟩ (c_X6_within l D E G x6 (0 : Int32) (10 : Int32)) (va_cwS 3 htg (oh_gS q_293 q_294 q_66 q_295) rfl rfl rfl pdX6_within ⟨Nat.le_of_ble_eq_true rfl, Nat.le_of_ble_eq_true rfl⟩) hK va_nil hG hS rfl hl.1 rfl (Nat.le_of_ble_eq_true rfl) dX6_frost_28 ⟨Nat.le_of_ble_eq_true rfl, Nat.le_of_ble_eq_true rfl⟩ (fun r_21 hq_22 => ?_)
      refine lv_if_eq (tgt := 46) hx hb dX6_frost_31 (by decide) (fun (c_23 : r_21 = 0) => ?_) (fun (c_23 : ¬ (r_21 = 0)) => ?_)
      · have u_24 := hq_22.2.2 c_23
        refine lv_aload_n hx hb dX6_frost_46 rfl (lv_at hl 0 rfl) ?_
        refine lv_bipush (v := (-2)) hx hb dX6_frost_47 (by decide) ?_
        refine tm_V (As := [.int (-2)]) (rest := []) ⟨hx, hb, hml, hown, htg⟩ (c_X6_refuse l D E G _ a C hT ((-2) : Int32)) (cwV 1 htg (oh_gV q_296 q_298 q_0 q_66 q_299) rfl rfl rfl pdVX6_refuse ⟨Nat.le_of_ble_eq_true rfl, Nat.le_of_ble_eq_true rfl⟩) hK hP hD hG hS hA (va_recv hK hP (ci := 6) (q0 := 0) rfl (oh_wg (by decide) (sX_0 hT))) rfl hl.1 rfl (Nat.le_of_ble_eq_true rfl) dX6_frost_49 ⟨Nat.le_of_ble_eq_true rfl, Nat.le_of_ble_eq_true rfl⟩ (fun r_25 C_26 H locs hq_27 hP hD hS => ?_)
        obtain ⟨hT, f_28, hq_27⟩ := hq_27
        have hF := fr_tr hF f_28 (by decide) (by decide)
        refine W.widen (k := 0) (n := 0) (Nat.le_refl _) (Nat.le_refl _) ?_
        have t_29 := hT
        refine lv_i2l (v := Int32.toInt64 r_25) hx hb dX6_frost_52 (by rfl) ?_
        rw [hQ]
        exact W.lret (v := Int32.toInt64 r_25) hx hb hr (fun t ht hW => ⟨⟨Int32.toInt64 r_25, C_26, rfl, ⟨hT, hF, ⟨(congrArg ga (f_28.1 15 rfl (by decide))), (fun A hA hok => Eq.trans (show Int32.toInt64 r_25 = (-2 : Int64) by rw [hq_27]; rfl) (pif_neg (fun h8 => u_24 h8.2.2.1)).symm)⟩⟩, ⟨by rw [ht]; exact hP, hD⟩⟩, hS.F ht⟩) hS.2.2 dX6_frost_53
      · have u_30 := hq_22.2.1 c_23
        refine lv_iload hx hb dX6_frost_34 (lv_at hl 7 rfl) ?_
        refine lv_iconst (v := 0) hx hb dX6_frost_36 (by decide) ?_
        refine lv_sipush (v := 999) hx hb dX6_frost_37 (by decide) ?_
        refine tq_S (As := [.int x7, .int 0, .int 999]) (rest := []) (ws := []) ⟨hx, hb, hml, hown, htg⟩ (c_X6_within l D E G x7 (0 : Int32) (999 : Int32)) (va_cwS 3 htg (oh_gS q_293 q_294 q_66 q_295) rfl rfl rfl pdX6_within ⟨Nat.le_of_ble_eq_true rfl, Nat.le_of_ble_eq_true rfl⟩) hK va_nil hG hS rfl hl.1 rfl (Nat.le_of_ble_eq_true rfl) dX6_frost_40 ⟨Nat.le_of_ble_eq_true rfl, Nat.le_of_ble_eq_true rfl⟩ (fun r_31 hq_32 => ?_)
        refine lv_if_ne (tgt := 54) hx hb dX6_frost_43 (by decide) (fun (c_33 : ¬ (r_31 = 0)) => ?_) (fun (c_33 : r_31 = 0) => ?_)
        · have u_34 := hq_32.2.1 c_33
          refine lv_aload_n hx hb dX6_frost_54 rfl (lv_at hl 0 rfl) ?_
          refine va_get (D := D) (ci := 6) (v := .ref (a 1)) (C := RX6) (T := TX6) (N := 9) hx hb htg ig_6 hown hK hP 0 (oh_wg (by decide) (sX_0 hT)) rfl 0 (by decide) (htg _ q_258) (fun _ h9 => h9) rfl dX6_frost_55 ?_
          refine va_get (D := D) (ci := 0) (v := .ref (a 15)) (C := RX0) (T := TX0) (N := 8) hx hb htg ig_0 hown hK hP 1 (oh_wg (by decide) (sX_1 hT)) rfl 5 (by decide) (htg _ q_110) (fun _ h9 => h9) rfl dX6_frost_58 ?_
          refine lv_iconst (v := 2) hx hb dX6_frost_61 (by decide) ?_
          refine th_iald hx hb hK hP 15 (by decide) (sX_15 hT) (rg_in (rg_c (v := 2) (lo := 2) (hi := 2) (by decide)) (by decide)) dX6_frost_62 ?_
          refine lv_istore (lv' := [(8, .int (ga (C 15) ((2 : Int32)).toNatClampNeg)), (0, .ref (a 0)), (1, .int x1), (2, .int x2), (3, .int x3), (4, .int x4), (5, .int x5), (6, .int x6), (7, .int x7)]) hx hb dX6_frost_63 hl (by decide) rfl (fun ls hl => ?_)
          refine lv_aload_n hx hb dX6_frost_65 rfl (lv_at hl 1 rfl) ?_
          refine va_get (D := D) (ci := 6) (v := .ref (a 1)) (C := RX6) (T := TX6) (N := 9) hx hb htg ig_6 hown hK hP 0 (oh_wg (by decide) (sX_0 hT)) rfl 0 (by decide) (htg _ q_258) (fun _ h9 => h9) rfl dX6_frost_66 ?_
          refine va_get (D := D) (ci := 0) (v := .ref (a 15)) (C := RX0) (T := TX0) (N := 8) hx hb htg ig_0 hown hK hP 1 (oh_wg (by decide) (sX_1 hT)) rfl 5 (by decide) (htg _ q_110) (fun _ h9 => h9) rfl dX6_frost_69 ?_
          refine lv_iconst (v := 2) hx hb dX6_frost_72 (by decide) ?_
          refine lv_iconst (v := 0) hx hb dX6_frost_73 (by decide) ?_
          refine th_iast (T := TyX a E) (Rl := fr [(7, 8), (9, 10), (15, 16), (24, 28)] [] C) hx hb hK hP hD hS 15 (by decide) (sX_15 hT) (rg_in (rg_c (v := 2) (lo := 2) (hi := 2) (by decide)) (by decide)) (hT.up 15 (tA_upd (tX_15 hT) tA_any)) (fr_st hF (by decide) (by decide)) dX6_frost_74 (fun C_35 H locs e_36 hT hF hP hD hS => ?_)
          have t_37 := hT
          refine lv_aload_n hx hb dX6_frost_75 rfl (lv_at hl 1 rfl) ?_
          refine va_get (D := D) (ci := 6) (v := .ref (a 3)) (C := RX6) (T := TX6) (N := 9) hx hb htg ig_6 hown hK hP 0 (oh_wg (by decide) (sX_0 hT)) rfl 3 (by decide) (htg _ q_261) (fun _ h9 => h9) rfl dX6_frost_76 ?_
          refine lv_iload_n hx hb dX6_frost_79 rfl (lv_at hl 2 rfl) ?_
          refine lv_iload_n hx hb dX6_frost_80 rfl (lv_at hl 3 rfl) ?_
          refine lv_iload_n hx hb dX6_frost_81 rfl (lv_at hl 4 rfl) ?_
          refine lv_iload hx hb dX6_frost_82 (lv_at hl 5 rfl) ?_
          refine lv_iconst (v := 1) hx hb dX6_frost_84 (by decide) ?_
          refine tm_V (As := [.int x1, .int x2, .int x3, .int x4, .int 1]) (rest := []) ⟨hx, hb, hml, hown, htg⟩ (e_X5_leastCoin l D E G _ a C_35 hT x1 x2 x3 x4 (1 : Int32) (rg_w u_10.1 (by decide)) (rg_w u_10.2.1 (by decide)) (rg_w u_10.2.2.1 (by decide))) (cwV 5 htg (oh_gV q_780 q_781 q_782 q_68 q_783) rfl rfl rfl pdVX5_leastCoin ⟨Nat.le_of_ble_eq_true rfl, Nat.le_of_ble_eq_true rfl⟩) hK hP hD hG hS hA (va_recv hK hP (ci := 5) (q0 := 3) rfl (oh_wg (by decide) (sX_3 hT))) rfl hl.1 rfl (Nat.le_of_ble_eq_true rfl) dX6_frost_85 ⟨Nat.le_of_ble_eq_true rfl, Nat.le_of_ble_eq_true rfl⟩ (fun r_38 C_39 H locs hq_40 hP hD hS => ?_)
          obtain ⟨hT, f_41, hq_40⟩ := hq_40
          have hF := fr_tr hF f_41 (by decide) (by decide)
          refine W.widen (k := 0) (n := 0) (Nat.le_refl _) (Nat.le_refl _) ?_
          have t_42 := hT
          refine lv_istore (lv' := [(9, .int r_38), (8, .int (ga (C 15) ((2 : Int32)).toNatClampNeg)), (0, .ref (a 0)), (1, .int x1), (2, .int x2), (3, .int x3), (4, .int x4), (5, .int x5), (6, .int x6), (7, .int x7)]) hx hb dX6_frost_88 hl (by decide) rfl (fun ls hl => ?_)
          refine lv_aload_n hx hb dX6_frost_90 rfl (lv_at hl 2 rfl) ?_
          refine va_get (D := D) (ci := 6) (v := .ref (a 1)) (C := RX6) (T := TX6) (N := 9) hx hb htg ig_6 hown hK hP 0 (oh_wg (by decide) (sX_0 hT)) rfl 0 (by decide) (htg _ q_258) (fun _ h9 => h9) rfl dX6_frost_91 ?_
          refine va_get (D := D) (ci := 0) (v := .ref (a 15)) (C := RX0) (T := TX0) (N := 8) hx hb htg ig_0 hown hK hP 1 (oh_wg (by decide) (sX_1 hT)) rfl 5 (by decide) (htg _ q_110) (fun _ h9 => h9) rfl dX6_frost_94 ?_
          refine lv_iconst (v := 2) hx hb dX6_frost_97 (by decide) ?_
          refine lv_iconst (v := 1) hx hb dX6_frost_98 (by decide) ?_
          refine th_iast (T := TyX a E) (Rl := fr [(7, 8), (9, 10), (15, 16), (24, 28)] [] C) hx hb hK hP hD hS 15 (by decide) (sX_15 hT) (rg_in (rg_c (v := 2) (lo := 2) (hi := 2) (by decide)) (by decide)) (hT.up 15 (tA_upd (tX_15 hT) tA_any)) (fr_st hF (by decide) (by decide)) dX6_frost_99 (fun C_43 H locs e_44 hT hF hP hD hS => ?_)
          have t_45 := hT
          refine lv_aload_n hx hb dX6_frost_100 rfl (lv_at hl 2 rfl) ?_
          refine va_get (D := D) (ci := 6) (v := .ref (a 3)) (C := RX6) (T := TX6) (N := 9) hx hb htg ig_6 hown hK hP 0 (oh_wg (by decide) (sX_0 hT)) rfl 3 (by decide) (htg _ q_261) (fun _ h9 => h9) rfl dX6_frost_101 ?_
          refine lv_iload_n hx hb dX6_frost_104 rfl (lv_at hl 3 rfl) ?_
          refine lv_iload_n hx hb dX6_frost_105 rfl (lv_at hl 4 rfl) ?_
          refine lv_iload_n hx hb dX6_frost_106 rfl (lv_at hl 5 rfl) ?_
          refine lv_iload hx hb dX6_frost_107 (lv_at hl 6 rfl) ?_
          refine lv_iconst (v := 1) hx hb dX6_frost_109 (by decide) ?_
          refine tm_V (As := [.int x1, .int x2, .int x3, .int x4, .int 1]) (rest := []) ⟨hx, hb, hml, hown, htg⟩ (e_X5_leastCoin l D E G _ a C_43 hT x1 x2 x3 x4 (1 : Int32) (rg_w u_10.1 (by decide)) (rg_w u_10.2.1 (by decide)) (rg_w u_10.2.2.1 (by decide))) (cwV 5 htg (oh_gV q_780 q_781 q_782 q_68 q_783) rfl rfl rfl pdVX5_leastCoin ⟨Nat.le_of_ble_eq_true rfl, Nat.le_of_ble_eq_true rfl⟩) hK hP hD hG hS hA (va_recv hK hP (ci := 5) (q0 := 3) rfl (oh_wg (by decide) (sX_3 hT))) rfl hl.1 rfl (Nat.le_of_ble_eq_true rfl) dX6_frost_110 ⟨Nat.le_of_ble_eq_true rfl, Nat.le_of_ble_eq_true rfl⟩ (fun r_46 C_47 H locs hq_48 hP hD hS => ?_)
          obtain ⟨hT, f_49, hq_48⟩ := hq_48
          have hF := fr_tr hF f_49 (by decide) (by decide)
          refine W.widen (k := 0) (n := 0) (Nat.le_refl _) (Nat.le_refl _) ?_
          have t_50 := hT
          refine lv_istore (lv' := [(10, .int r_46), (9, .int r_38), (8, .int (ga (C 15) ((2 : Int32)).toNatClampNeg)), (0, .ref (a 0)), (1, .int x1), (2, .int x2), (3, .int x3), (4, .int x4), (5, .int x5), (6, .int x6), (7, .int x7)]) hx hb dX6_frost_113 hl (by decide) rfl (fun ls hl => ?_)
          refine lv_aload_n hx hb dX6_frost_115 rfl (lv_at hl 3 rfl) ?_
          refine va_get (D := D) (ci := 6) (v := .ref (a 1)) (C := RX6) (T := TX6) (N := 9) hx hb htg ig_6 hown hK hP 0 (oh_wg (by decide) (sX_0 hT)) rfl 0 (by decide) (htg _ q_258) (fun _ h9 => h9) rfl dX6_frost_116 ?_
          refine va_get (D := D) (ci := 0) (v := .ref (a 15)) (C := RX0) (T := TX0) (N := 8) hx hb htg ig_0 hown hK hP 1 (oh_wg (by decide) (sX_1 hT)) rfl 5 (by decide) (htg _ q_110) (fun _ h9 => h9) rfl dX6_frost_119 ?_
          refine lv_iconst (v := 2) hx hb dX6_frost_122 (by decide) ?_
          refine lv_iload hx hb dX6_frost_123 (lv_at hl 2 rfl) ?_
          refine th_iast (T := TyX a E) (Rl := fr [(7, 8), (9, 10), (15, 16), (24, 28)] [] C) hx hb hK hP hD hS 15 (by decide) (sX_15 hT) (rg_in (rg_c (v := 2) (lo := 2) (hi := 2) (by decide)) (by decide)) (hT.up 15 (tA_upd (tX_15 hT) tA_any)) (fr_st hF (by decide) (by decide)) dX6_frost_125 (fun C_51 H locs e_52 hT hF hP hD hS => ?_)
          have t_53 := hT
          refine lv_iload hx hb dX6_frost_126 (lv_at hl 1 rfl) ?_
          refine lv_ldc (v := 1000000000) hx hb hown (htg _ q_803) dX6_frost_128 ?_
          refine lv_icmp_ne (tgt := 143) hx hb dX6_frost_130 (by decide) (fun (c_54 : ¬ (r_38 = 1000000000)) => ?_) (fun (c_54 : r_38 = 1000000000) => ?_)
          · refine lv_iload hx hb dX6_frost_143 (lv_at hl 1 rfl) ?_
            refine lv_i2l (v := Int32.toInt64 r_38) hx hb dX6_frost_145 (by rfl) ?_
            refine lv_iload hx hb dX6_frost_146 (lv_at hl 0 rfl) ?_
            refine lv_i2l (v := Int32.toInt64 r_46) hx hb dX6_frost_148 (by rfl) ?_
            refine lv_iload hx hb dX6_frost_149 (lv_at hl 8 rfl) ?_
            refine lv_iload hx hb dX6_frost_151 (lv_at hl 9 rfl) ?_
            refine lv_iload hx hb dX6_frost_153 (lv_at hl 10 rfl) ?_
            refine tq_Sl (As := [.long (Int32.toInt64 r_38), .long (Int32.toInt64 r_46), .int x5, .int x6, .int x7]) (rest := []) (ws := []) ⟨hx, hb, hml, hown, htg⟩ (e_X6_valueOfWaiting l D E G (Int32.toInt64 r_38) (Int32.toInt64 r_46) x5 x6 x7 (rg_w (rn_leu u_20.2 (rn_lel u_20.1 (rg_c (v := 0) (lo := 0) (hi := 0) (by decide)) (rg_any _)) (rg_c (v := 6) (lo := 6) (hi := 6) (by decide))) (by decide))) (va_cwS 5 htg (oh_gS q_897 q_898 q_66 q_899) rfl rfl rfl pdX6_valueOfWaiting ⟨Nat.le_of_ble_eq_true rfl, Nat.le_of_ble_eq_true rfl⟩) hK va_nil hG hS rfl hl.1 rfl (Nat.le_of_ble_eq_true rfl) dX6_frost_155 ⟨Nat.le_of_ble_eq_true rfl, Nat.le_of_ble_eq_true rfl⟩ (fun r_55 hq_56 => ?_)
            rw [hQ]
            exact W.lret (v := r_55) hx hb hr (fun t ht hW => ⟨⟨r_55, C_51, rfl, ⟨hT, hF, ⟨(by rw [(st_ga e_52), (f_49.1 15 rfl (by decide)), (st_ga e_44), (f_41.1 15 rfl (by decide)), (st_ga e_36)]; exact upd_b3), (fun A hA hok => by have hj : okJ A x1 x2 x3 x4 := (by unfold okJ; rw [← (show ga (C 10) ((2 : Int32)).toNatClampNeg = A 5 0 2 from hA.1 2 (by decide)), ← (show ga (C 10) ((3 : Int32)).toNatClampNeg = A 5 0 3 from hA.1 3 (by decide))]; exact u_10.2.2.2); have e0 := hq_40 (setA A 2 0) (absX_sk 2 hA (fun k k1 k2 => (th_un e_36 (by omega))) (by rw [st_ga e_36]; exact pk_us) (fun j hj => (show ga (C_35 15) j = ga (C 15) j by rw [st_ga e_36]; exact pk_un hj))) (ok_f hok ⟨by decide, by decide⟩) (set_52 hj.1.1.2) ⟨by decide, by decide⟩; have e1 := hq_48 (setA A 2 1) (absX_sk 2 hA (fun k k1 k2 => (Eq.trans (th_un e_44 (by omega)) (Eq.trans (fr_all f_41 10 14 (by decide) k k1 k2) (th_un e_36 (by omega))))) (by rw [st_ga e_44]; exact pk_us) (fun j hj => (Eq.trans (show ga (C_43 15) j = ga (C_39 15) j by rw [st_ga e_44]; exact pk_un hj) (Eq.trans (congrArg (fun z => ga z j) (f_41.1 15 rfl (by decide))) (show ga (C_35 15) j = ga (C 15) j by rw [st_ga e_36]; exact pk_un hj))))) (ok_f hok ⟨by decide, by decide⟩) (set_52 hj.1.1.2) ⟨by decide, by decide⟩; have hw := lc_w (ok_f hok ⟨by decide, by decide⟩) (rg_w (lo := 0) (hi := 4) u_10.1 (by decide)) (set_52 hj.1.1.2) (rg_w (lo := 0) (hi := 15) u_10.2.1 (by decide)) (rg_w (lo := 0) (hi := 15) u_10.2.2.1 (by decide)) e0; have ev := hq_56; rw [e0, e1] at ev; exact Eq.trans ev (Eq.trans (pif_pos ⟨hj, (oh_rgI (p := 0) (q := 6) (rg_w (lo := 0) (hi := 6) (rn_leu u_20.2 (rn_lel u_20.1 (rg_c (v := 0) (lo := 0) (hi := 0) (by decide)) (rg_any _)) (rg_c (v := 6) (lo := 6) (hi := 6) (by decide))) (by decide))), (oh_rgI (p := 0) (q := 10) (rg_w (lo := 0) (hi := 10) (rn_leu u_30.2 (rn_lel u_30.1 (rg_c (v := 0) (lo := 0) (hi := 0) (by decide)) (rg_any _)) (rg_c (v := 10) (lo := 10) (hi := 10) (by decide))) (by decide))), (oh_rgI (p := 0) (q := 999) (rg_w (lo := 0) (hi := 999) (rn_leu u_34.2 (rn_lel u_34.1 (rg_c (v := 0) (lo := 0) (hi := 0) (by decide)) (rg_any _)) (rg_c (v := 999) (lo := 999) (hi := 999) (by decide))) (by decide)))⟩) (pif_pos (Classical.byContradiction (fun q => c_54 (hw.mpr q))))).symm)⟩⟩, ⟨by rw [ht]; exact hP, hD⟩⟩, hS.F ht⟩) hS.2.2 dX6_frost_158
          · refine lv_aload_n hx hb dX6_frost_133 rfl (lv_at hl 3 rfl) ?_
            refine lv_bipush (v := (-5)) hx hb dX6_frost_134 (by decide) ?_
            refine tm_V (As := [.int (-5)]) (rest := []) ⟨hx, hb, hml, hown, htg⟩ (c_X6_refuse l D E G _ a C_51 hT ((-5) : Int32)) (cwV 1 htg (oh_gV q_296 q_298 q_0 q_66 q_299) rfl rfl rfl pdVX6_refuse ⟨Nat.le_of_ble_eq_true rfl, Nat.le_of_ble_eq_true rfl⟩) hK hP hD hG hS hA (va_recv hK hP (ci := 6) (q0 := 0) rfl (oh_wg (by decide) (sX_0 hT))) rfl hl.1 rfl (Nat.le_of_ble_eq_true rfl) dX6_frost_136 ⟨Nat.le_of_ble_eq_true rfl, Nat.le_of_ble_eq_true rfl⟩ (fun r_57 C_58 H locs hq_59 hP hD hS => ?_)
            obtain ⟨hT, f_60, hq_59⟩ := hq_59
            have hF := fr_tr hF f_60 (by decide) (by decide)
            refine W.widen (k := 0) (n := 0) (Nat.le_refl _) (Nat.le_refl _) ?_
            have t_61 := hT
            refine lv_i2l (v := Int32.toInt64 r_57) hx hb dX6_frost_139 (by rfl) ?_
            refine lv_goto (tgt := 158) hx hb dX6_frost_140 (by decide) ?_
            rw [hQ]
            exact W.lret (v := Int32.toInt64 r_57) hx hb hr (fun t ht hW => ⟨⟨Int32.toInt64 r_57, C_58, rfl, ⟨hT, hF, ⟨(by rw [(f_60.1 15 rfl (by decide)), (st_ga e_52), (f_49.1 15 rfl (by decide)), (st_ga e_44), (f_41.1 15 rfl (by decide)), (st_ga e_36)]; exact upd_b3), (fun A hA hok => by have hj : okJ A x1 x2 x3 x4 := (by unfold okJ; rw [← (show ga (C 10) ((2 : Int32)).toNatClampNeg = A 5 0 2 from hA.1 2 (by decide)), ← (show ga (C 10) ((3 : Int32)).toNatClampNeg = A 5 0 3 from hA.1 3 (by decide))]; exact u_10.2.2.2); have e0 := hq_40 (setA A 2 0) (absX_sk 2 hA (fun k k1 k2 => (th_un e_36 (by omega))) (by rw [st_ga e_36]; exact pk_us) (fun j hj => (show ga (C_35 15) j = ga (C 15) j by rw [st_ga e_36]; exact pk_un hj))) (ok_f hok ⟨by decide, by decide⟩) (set_52 hj.1.1.2) ⟨by decide, by decide⟩; have e1 := hq_48 (setA A 2 1) (absX_sk 2 hA (fun k k1 k2 => (Eq.trans (th_un e_44 (by omega)) (Eq.trans (fr_all f_41 10 14 (by decide) k k1 k2) (th_un e_36 (by omega))))) (by rw [st_ga e_44]; exact pk_us) (fun j hj => (Eq.trans (show ga (C_43 15) j = ga (C_39 15) j by rw [st_ga e_44]; exact pk_un hj) (Eq.trans (congrArg (fun z => ga z j) (f_41.1 15 rfl (by decide))) (show ga (C_35 15) j = ga (C 15) j by rw [st_ga e_36]; exact pk_un hj))))) (ok_f hok ⟨by decide, by decide⟩) (set_52 hj.1.1.2) ⟨by decide, by decide⟩; have hw := lc_w (ok_f hok ⟨by decide, by decide⟩) (rg_w (lo := 0) (hi := 4) u_10.1 (by decide)) (set_52 hj.1.1.2) (rg_w (lo := 0) (hi := 15) u_10.2.1 (by decide)) (rg_w (lo := 0) (hi := 15) u_10.2.2.1 (by decide)) e0; exact Eq.trans (show Int32.toInt64 r_57 = (-5 : Int64) by rw [hq_59]; rfl) (Eq.trans (pif_pos ⟨hj, (oh_rgI (p := 0) (q := 6) (rg_w (lo := 0) (hi := 6) (rn_leu u_20.2 (rn_lel u_20.1 (rg_c (v := 0) (lo := 0) (hi := 0) (by decide)) (rg_any _)) (rg_c (v := 6) (lo := 6) (hi := 6) (by decide))) (by decide))), (oh_rgI (p := 0) (q := 10) (rg_w (lo := 0) (hi := 10) (rn_leu u_30.2 (rn_lel u_30.1 (rg_c (v := 0) (lo := 0) (hi := 0) (by decide)) (rg_any _)) (rg_c (v := 10) (lo := 10) (hi := 10) (by decide))) (by decide))), (oh_rgI (p := 0) (q := 999) (rg_w (lo := 0) (hi := 999) (rn_leu u_34.2 (rn_lel u_34.1 (rg_c (v := 0) (lo := 0) (hi := 0) (by decide)) (rg_any _)) (rg_c (v := 999) (lo := 999) (hi := 999) (by decide))) (by decide)))⟩) (pif_neg (hw.mp c_54))).symm)⟩⟩, ⟨by rw [ht]; exact hP, hD⟩⟩, hS.F ht⟩) hS.2.2 dX6_frost_158
        · have u_62 := hq_32.2.2 c_33
          refine lv_aload_n hx hb dX6_frost_46 rfl (lv_at hl 0 rfl) ?_
          refine lv_bipush (v := (-2)) hx hb dX6_frost_47 (by decide) ?_
          refine tm_V (As := [.int (-2)]) (rest := []) ⟨hx, hb, hml, hown, htg⟩ (c_X6_refuse l D E G _ a C hT ((-2) : Int32)) (cwV 1 htg (oh_gV q_296 q_298 q_0 q_66 q_299) rfl rfl rfl pdVX6_refuse ⟨Nat.le_of_ble_eq_true rfl, Nat.le_of_ble_eq_true rfl⟩) hK hP hD hG hS hA (va_recv hK hP (ci := 6) (q0 := 0) rfl (oh_wg (by decide) (sX_0 hT))) rfl hl.1 rfl (Nat.le_of_ble_eq_true rfl) dX6_frost_49 ⟨Nat.le_of_ble_eq_true rfl, Nat.le_of_ble_eq_true rfl⟩ (fun r_63 C_64 H locs hq_65 hP hD hS => ?_)
          obtain ⟨hT, f_66, hq_65⟩ := hq_65
          have hF := fr_tr hF f_66 (by decide) (by decide)
          refine W.widen (k := 0) (n := 0) (Nat.le_refl _) (Nat.le_refl _) ?_
          have t_67 := hT
          refine lv_i2l (v := Int32.toInt64 r_63) hx hb dX6_frost_52 (by rfl) ?_
          rw [hQ]
          exact W.lret (v := Int32.toInt64 r_63) hx hb hr (fun t ht hW => ⟨⟨Int32.toInt64 r_63, C_64, rfl, ⟨hT, hF, ⟨(congrArg ga (f_66.1 15 rfl (by decide))), (fun A hA hok => Eq.trans (show Int32.toInt64 r_63 = (-2 : Int64) by rw [hq_65]; rfl) (pif_neg (fun h8 => u_62 h8.2.2.2)).symm)⟩⟩, ⟨by rw [ht]; exact hP, hD⟩⟩, hS.F ht⟩) hS.2.2 dX6_frost_53

set_option maxHeartbeats 4000000 in
set_option maxRecDepth 100000 in
theorem e2_X7_frost (l : Launch) (D : va_G) (E : Nat → ClassId) (G : Nat → Nat) (sz : Nat) (a : Nat → Nat) (C : Nat → va_E) (n : Nat) (hn : 74 ≤ n) (hT : TyM a E C) (x1 : Int32) (x2 : Int32) (x3 : Int32) (x4 : Int32) (x5 : Int32) (x6 : Int32) (x7 : Int32) (hR : RelM C) : Met l yX7_frost (oh_w yX7_frost cX7_frost 19 (some .long)) ({ frames := 7, cells := 0, slots := 0, locals := 177 }) (oh_Pm D E G [.ref (a 0), .int x1, .int x2, .int x3, .int x4, .int x5, .int x6, .int x7] (oh_W n a C) sz) (va_Ql (fun r (u : Nat → va_E) => TyM a E u ∧ fr [(8, 9), (13, 14), (15, 16)] [] C u ∧ (RelM u) ∧ (ga (u 13) = ga (C 13)) ∧ (∀ A : LA, absM C A → okA A → r = spFrost A x1 x2 x3 x4 x5 x6 x7)) (oh_B D (va_A (oh_W n a C) sz) (fun u => oh_W n a u)) (va_A (oh_W n a C) sz)) 0 0 (va_A (oh_W n a C) sz) := by
  refine Met.ofW (cc := cX7_frost) (maxL := 19) (ret := (some .long)) (by decide) rfl ?_
  intro p e s m args below meth c s₁ B hml hv
  obtain ⟨rfl, hsz, hP, hK, hD0, hG⟩ := hv
  have hx := B.exec
  have hb := B.bytes
  have hr := B.returns
  have hts := atoms_spec (ws := (oh_w yX7_frost cX7_frost 19 (some .long))) B.pre
  have htg : ∀ w ∈ oh_t, w.before _ s = true := fun w h => hts w (List.mem_cons_of_mem _ h)
  have hown : s.vm.findClass RX7 = some m.cls := findClass_of_methodNamed B.named
  have hlocks := B.notSynchronized
  have hT0 := hT
  subst hsz
  have hD := hD0.self (sz := s.heap.size)
  generalize hAe : va_A (oh_W n a C) s.heap.size = A at hD hG ⊢
  have hA : ∀ q : Nat, s.heap.size ≤ q → A q := fun q h => by rw [← hAe]; exact Or.inr h
  have hS : va_S A s.heap s.heap [] := va_S.rf
  have hF : fr [(8, 9), (13, 14), (15, 16)] [] C C := fr_rf
  have hl := lv_entry ([.ref (a 0), .int x1, .int x2, .int x3, .int x4, .int x5, .int x6, .int x7]) (n := 19) (Nat.le_of_ble_eq_true rfl)
  rw [lg_entry_eq]
  generalize (lg_sl ([.ref (a 0), .int x1, .int x2, .int x3, .int x4, .int x5, .int x6, .int x7]) ++ List.replicate (19 - (lg_sl ([.ref (a 0), .int x1, .int x2, .int x3, .int x4, .int x5, .int x6, .int x7])).length) Slot.unset).toArray = ls at hl ⊢
  have hl : lv_has ls 19 [(0, .ref (a 0)), (1, .int x1), (2, .int x2), (3, .int x3), (4, .int x4), (5, .int x5), (6, .int x6), (7, .int x7)] := hl
  refine oh_genQ (fun Q hQ => ?_)
  refine lv_aload_n hx hb dX7_frost_0 rfl (lv_at hl 0 rfl) ?_
  refine lv_iload_n hx hb dX7_frost_1 rfl (lv_at hl 1 rfl) ?_
  refine lv_iload_n hx hb dX7_frost_2 rfl (lv_at hl 2 rfl) ?_
  refine tq_V (As := [.int x1, .int x2]) (rest := []) (ws := (oh_W n a C)) ⟨hx, hb, hml, hown, htg⟩ (e_X7_isPack l D E G a C n hn hT x1 x2 hR.1) (cwV 2 htg (oh_gV q_1290 q_1292 q_50 q_73 q_1293) rfl rfl rfl pdVX7_isPack ⟨Nat.le_of_ble_eq_true rfl, Nat.le_of_ble_eq_true rfl⟩) hK hP hG hS (va_recv hK hP (ci := 7) (q0 := 0) rfl (oh_wg (Nat.lt_of_lt_of_le (by decide) hn) (sM_0 hT))) rfl hl.1 rfl (Nat.le_of_ble_eq_true rfl) dX7_frost_3 ⟨Nat.le_of_ble_eq_true rfl, Nat.le_of_ble_eq_true rfl⟩ (fun r_1 hq_2 => ?_)
  refine lv_if_eq (tgt := 41) hx hb dX7_frost_6 (by decide) (fun (c_3 : r_1 = 0) => ?_) (fun (c_3 : ¬ (r_1 = 0)) => ?_)
  · have u_4 := hq_2.2.2 c_3
    refine lv_iconst (v := 0) hx hb dX7_frost_41 (by decide) ?_
    refine lv_istore (lv' := [(8, .int 0), (0, .ref (a 0)), (1, .int x1), (2, .int x2), (3, .int x3), (4, .int x4), (5, .int x5), (6, .int x6), (7, .int x7)]) hx hb dX7_frost_42 hl (by decide) rfl (fun ls hl => ?_)
    refine lv_iload hx hb dX7_frost_44 (lv_at hl 0 rfl) ?_
    refine lv_if_eq (tgt := 75) hx hb dX7_frost_46 (by decide) (fun _ => ?_) (fun c => absurd (show (0 : Int32) = 0 from by decide) c)
    refine lv_aload_n hx hb dX7_frost_75 rfl (lv_at hl 1 rfl) ?_
    refine lv_bipush (v := (-2)) hx hb dX7_frost_76 (by decide) ?_
    refine tm_V (As := [.int (-2)]) (rest := []) ⟨hx, hb, hml, hown, htg⟩ (c_X7_refuse l D E G _ a C n hn hT ((-2) : Int32) (rg_w (rg_c (v := (-2)) (lo := (-2)) (hi := (-2)) (by decide)) (by decide))) (cwV 1 htg (oh_gV q_1071 q_1073 q_29 q_73 q_1074) rfl rfl rfl pdVX7_refuse ⟨Nat.le_of_ble_eq_true rfl, Nat.le_of_ble_eq_true rfl⟩) hK hP hD hG hS hA (va_recv hK hP (ci := 7) (q0 := 0) rfl (oh_wg (Nat.lt_of_lt_of_le (by decide) hn) (sM_0 hT))) rfl hl.1 rfl (Nat.le_of_ble_eq_true rfl) dX7_frost_78 ⟨Nat.le_of_ble_eq_true rfl, Nat.le_of_ble_eq_true rfl⟩ (fun r_5 C_6 H locs hq_7 hP hD hS => ?_)
    obtain ⟨hT, f_8, hq_7⟩ := hq_7
    have hF := fr_tr hF f_8 (by decide) (by decide)
    refine W.widen (k := 0) (n := 0) (Nat.le_refl _) (Nat.le_refl _) ?_
    have t_9 := hT
    refine lv_i2l (v := Int32.toInt64 r_5) hx hb dX7_frost_81 (by rfl) ?_
    rw [hQ]
    exact W.lret (v := Int32.toInt64 r_5) hx hb hr (fun t ht hW => ⟨⟨Int32.toInt64 r_5, C_6, rfl, ⟨hT, hF, ⟨⟨hR.1.fr hF (by decide), hR.2.fr hF (by decide)⟩, (congrArg ga (f_8.1 13 rfl (by decide))), (fun A hA hok => Eq.trans (show Int32.toInt64 r_5 = (-2 : Int64) by rw [hq_7]; rfl) (pif_neg (fun h8 => by have h7 := h8.1.1; rw [← (show gi (C 0) 13 = A 5 0 2 from hA.1 2 (by decide)), ← (show gi (C 0) 15 = A 5 0 3 from hA.1 3 (by decide))] at h7; exact u_4 h7)).symm)⟩⟩, ⟨by rw [ht]; exact hP, hD⟩⟩, hS.F ht⟩) hS.2.2 dX7_frost_82
  · have u_10 := hq_2.2.1 c_3
    refine lv_iload_n hx hb dX7_frost_9 rfl (lv_at hl 3 rfl) ?_
    refine tq_S (As := [.int x3]) (rest := []) (ws := []) ⟨hx, hb, hml, hown, htg⟩ (e_X7_isPlace l D E G x3) (va_cwS 1 htg (oh_gS q_1130 q_1131 q_73 q_1132) rfl rfl rfl pdX7_isPlace ⟨Nat.le_of_ble_eq_true rfl, Nat.le_of_ble_eq_true rfl⟩) hK va_nil hG hS rfl hl.1 rfl (Nat.le_of_ble_eq_true rfl) dX7_frost_10 ⟨Nat.le_of_ble_eq_true rfl, Nat.le_of_ble_eq_true rfl⟩ (fun r_11 hq_12 => ?_)
    refine lv_if_eq (tgt := 41) hx hb dX7_frost_13 (by decide) (fun (c_13 : r_11 = 0) => ?_) (fun (c_13 : ¬ (r_11 = 0)) => ?_)
    · have u_14 := hq_12.2.2 c_13
      refine lv_iconst (v := 0) hx hb dX7_frost_41 (by decide) ?_
      refine lv_istore (lv' := [(8, .int 0), (0, .ref (a 0)), (1, .int x1), (2, .int x2), (3, .int x3), (4, .int x4), (5, .int x5), (6, .int x6), (7, .int x7)]) hx hb dX7_frost_42 hl (by decide) rfl (fun ls hl => ?_)
      refine lv_iload hx hb dX7_frost_44 (lv_at hl 0 rfl) ?_
      refine lv_if_eq (tgt := 75) hx hb dX7_frost_46 (by decide) (fun _ => ?_) (fun c => absurd (show (0 : Int32) = 0 from by decide) c)
      refine lv_aload_n hx hb dX7_frost_75 rfl (lv_at hl 1 rfl) ?_
      refine lv_bipush (v := (-2)) hx hb dX7_frost_76 (by decide) ?_
      refine tm_V (As := [.int (-2)]) (rest := []) ⟨hx, hb, hml, hown, htg⟩ (c_X7_refuse l D E G _ a C n hn hT ((-2) : Int32) (rg_w (rg_c (v := (-2)) (lo := (-2)) (hi := (-2)) (by decide)) (by decide))) (cwV 1 htg (oh_gV q_1071 q_1073 q_29 q_73 q_1074) rfl rfl rfl pdVX7_refuse ⟨Nat.le_of_ble_eq_true rfl, Nat.le_of_ble_eq_true rfl⟩) hK hP hD hG hS hA (va_recv hK hP (ci := 7) (q0 := 0) rfl (oh_wg (Nat.lt_of_lt_of_le (by decide) hn) (sM_0 hT))) rfl hl.1 rfl (Nat.le_of_ble_eq_true rfl) dX7_frost_78 ⟨Nat.le_of_ble_eq_true rfl, Nat.le_of_ble_eq_true rfl⟩ (fun r_15 C_16 H locs hq_17 hP hD hS => ?_)
      obtain ⟨hT, f_18, hq_17⟩ := hq_17
      have hF := fr_tr hF f_18 (by decide) (by decide)
      refine W.widen (k := 0) (n := 0) (Nat.le_refl _) (Nat.le_refl _) ?_
      have t_19 := hT
      refine lv_i2l (v := Int32.toInt64 r_15) hx hb dX7_frost_81 (by rfl) ?_
      rw [hQ]
      exact W.lret (v := Int32.toInt64 r_15) hx hb hr (fun t ht hW => ⟨⟨Int32.toInt64 r_15, C_16, rfl, ⟨hT, hF, ⟨⟨hR.1.fr hF (by decide), hR.2.fr hF (by decide)⟩, (congrArg ga (f_18.1 13 rfl (by decide))), (fun A hA hok => Eq.trans (show Int32.toInt64 r_15 = (-2 : Int64) by rw [hq_17]; rfl) (pif_neg (fun h8 => u_14 h8.1.2.1)).symm)⟩⟩, ⟨by rw [ht]; exact hP, hD⟩⟩, hS.F ht⟩) hS.2.2 dX7_frost_82
    · have u_20 := hq_12.2.1 c_13
      refine lv_iload hx hb dX7_frost_16 (lv_at hl 4 rfl) ?_
      refine tq_S (As := [.int x4]) (rest := []) (ws := []) ⟨hx, hb, hml, hown, htg⟩ (e_X7_isPlace l D E G x4) (va_cwS 1 htg (oh_gS q_1130 q_1131 q_73 q_1132) rfl rfl rfl pdX7_isPlace ⟨Nat.le_of_ble_eq_true rfl, Nat.le_of_ble_eq_true rfl⟩) hK va_nil hG hS rfl hl.1 rfl (Nat.le_of_ble_eq_true rfl) dX7_frost_18 ⟨Nat.le_of_ble_eq_true rfl, Nat.le_of_ble_eq_true rfl⟩ (fun r_21 hq_22 => ?_)
      refine lv_if_eq (tgt := 41) hx hb dX7_frost_21 (by decide) (fun (c_23 : r_21 = 0) => ?_) (fun (c_23 : ¬ (r_21 = 0)) => ?_)
      · have u_24 := hq_22.2.2 c_23
        refine lv_iconst (v := 0) hx hb dX7_frost_41 (by decide) ?_
        refine lv_istore (lv' := [(8, .int 0), (0, .ref (a 0)), (1, .int x1), (2, .int x2), (3, .int x3), (4, .int x4), (5, .int x5), (6, .int x6), (7, .int x7)]) hx hb dX7_frost_42 hl (by decide) rfl (fun ls hl => ?_)
        refine lv_iload hx hb dX7_frost_44 (lv_at hl 0 rfl) ?_
        refine lv_if_eq (tgt := 75) hx hb dX7_frost_46 (by decide) (fun _ => ?_) (fun c => absurd (show (0 : Int32) = 0 from by decide) c)
        refine lv_aload_n hx hb dX7_frost_75 rfl (lv_at hl 1 rfl) ?_
        refine lv_bipush (v := (-2)) hx hb dX7_frost_76 (by decide) ?_
        refine tm_V (As := [.int (-2)]) (rest := []) ⟨hx, hb, hml, hown, htg⟩ (c_X7_refuse l D E G _ a C n hn hT ((-2) : Int32) (rg_w (rg_c (v := (-2)) (lo := (-2)) (hi := (-2)) (by decide)) (by decide))) (cwV 1 htg (oh_gV q_1071 q_1073 q_29 q_73 q_1074) rfl rfl rfl pdVX7_refuse ⟨Nat.le_of_ble_eq_true rfl, Nat.le_of_ble_eq_true rfl⟩) hK hP hD hG hS hA (va_recv hK hP (ci := 7) (q0 := 0) rfl (oh_wg (Nat.lt_of_lt_of_le (by decide) hn) (sM_0 hT))) rfl hl.1 rfl (Nat.le_of_ble_eq_true rfl) dX7_frost_78 ⟨Nat.le_of_ble_eq_true rfl, Nat.le_of_ble_eq_true rfl⟩ (fun r_25 C_26 H locs hq_27 hP hD hS => ?_)
        obtain ⟨hT, f_28, hq_27⟩ := hq_27
        have hF := fr_tr hF f_28 (by decide) (by decide)
        refine W.widen (k := 0) (n := 0) (Nat.le_refl _) (Nat.le_refl _) ?_
        have t_29 := hT
        refine lv_i2l (v := Int32.toInt64 r_25) hx hb dX7_frost_81 (by rfl) ?_
        rw [hQ]
        exact W.lret (v := Int32.toInt64 r_25) hx hb hr (fun t ht hW => ⟨⟨Int32.toInt64 r_25, C_26, rfl, ⟨hT, hF, ⟨⟨hR.1.fr hF (by decide), hR.2.fr hF (by decide)⟩, (congrArg ga (f_28.1 13 rfl (by decide))), (fun A hA hok => Eq.trans (show Int32.toInt64 r_25 = (-2 : Int64) by rw [hq_27]; rfl) (pif_neg (fun h8 => u_24 h8.1.2.2)).symm)⟩⟩, ⟨by rw [ht]; exact hP, hD⟩⟩, hS.F ht⟩) hS.2.2 dX7_frost_82
      · have u_30 := hq_22.2.1 c_23
        refine lv_iload hx hb dX7_frost_24 (lv_at hl 5 rfl) ?_
        refine lv_i2l (v := Int32.toInt64 x5) hx hb dX7_frost_26 (by rfl) ?_
        refine lv_lconst (v := 0) hx hb dX7_frost_27 (by decide) ?_
        refine lv_ldc2 (v := 6) hx hb hown (htg _ q_1265) dX7_frost_28 ?_
        refine tq_S (As := [.long (Int32.toInt64 x5), .long 0, .long 6]) (rest := []) (ws := []) ⟨hx, hb, hml, hown, htg⟩ (c_X7_in l D E G (Int32.toInt64 x5) (0 : Int64) (6 : Int64)) (va_cwS 3 htg (oh_gS q_1066 q_1067 q_73 q_1068) rfl rfl rfl pdX7_in ⟨Nat.le_of_ble_eq_true rfl, Nat.le_of_ble_eq_true rfl⟩) hK va_nil hG hS rfl hl.1 rfl (Nat.le_of_ble_eq_true rfl) dX7_frost_31 ⟨Nat.le_of_ble_eq_true rfl, Nat.le_of_ble_eq_true rfl⟩ (fun r_31 hq_32 => ?_)
        refine lv_if_eq (tgt := 41) hx hb dX7_frost_34 (by decide) (fun (c_33 : r_31 = 0) => ?_) (fun (c_33 : ¬ (r_31 = 0)) => ?_)
        · have u_34 := hq_32.2.2 c_33
          refine lv_iconst (v := 0) hx hb dX7_frost_41 (by decide) ?_
          refine lv_istore (lv' := [(8, .int 0), (0, .ref (a 0)), (1, .int x1), (2, .int x2), (3, .int x3), (4, .int x4), (5, .int x5), (6, .int x6), (7, .int x7)]) hx hb dX7_frost_42 hl (by decide) rfl (fun ls hl => ?_)
          refine lv_iload hx hb dX7_frost_44 (lv_at hl 0 rfl) ?_
          refine lv_if_eq (tgt := 75) hx hb dX7_frost_46 (by decide) (fun _ => ?_) (fun c => absurd (show (0 : Int32) = 0 from by decide) c)
          refine lv_aload_n hx hb dX7_frost_75 rfl (lv_at hl 1 rfl) ?_
          refine lv_bipush (v := (-2)) hx hb dX7_frost_76 (by decide) ?_
          refine tm_V (As := [.int (-2)]) (rest := []) ⟨hx, hb, hml, hown, htg⟩ (c_X7_refuse l D E G _ a C n hn hT ((-2) : Int32) (rg_w (rg_c (v := (-2)) (lo := (-2)) (hi := (-2)) (by decide)) (by decide))) (cwV 1 htg (oh_gV q_1071 q_1073 q_29 q_73 q_1074) rfl rfl rfl pdVX7_refuse ⟨Nat.le_of_ble_eq_true rfl, Nat.le_of_ble_eq_true rfl⟩) hK hP hD hG hS hA (va_recv hK hP (ci := 7) (q0 := 0) rfl (oh_wg (Nat.lt_of_lt_of_le (by decide) hn) (sM_0 hT))) rfl hl.1 rfl (Nat.le_of_ble_eq_true rfl) dX7_frost_78 ⟨Nat.le_of_ble_eq_true rfl, Nat.le_of_ble_eq_true rfl⟩ (fun r_35 C_36 H locs hq_37 hP hD hS => ?_)
          obtain ⟨hT, f_38, hq_37⟩ := hq_37
          have hF := fr_tr hF f_38 (by decide) (by decide)
          refine W.widen (k := 0) (n := 0) (Nat.le_refl _) (Nat.le_refl _) ?_
          have t_39 := hT
          refine lv_i2l (v := Int32.toInt64 r_35) hx hb dX7_frost_81 (by rfl) ?_
          rw [hQ]
          exact W.lret (v := Int32.toInt64 r_35) hx hb hr (fun t ht hW => ⟨⟨Int32.toInt64 r_35, C_36, rfl, ⟨hT, hF, ⟨⟨hR.1.fr hF (by decide), hR.2.fr hF (by decide)⟩, (congrArg ga (f_38.1 13 rfl (by decide))), (fun A hA hok => Eq.trans (show Int32.toInt64 r_35 = (-2 : Int64) by rw [hq_37]; rfl) (pif_neg (fun h8 => (oh_in64 (l' := 0) (k' := 6) rfl rfl u_34) h8.2.1)).symm)⟩⟩, ⟨by rw [ht]; exact hP, hD⟩⟩, hS.F ht⟩) hS.2.2 dX7_frost_82
        · have u_40 := hq_32.2.1 c_33
          refine lv_iconst (v := 1) hx hb dX7_frost_37 (by decide) ?_
          refine lv_goto (tgt := 42) hx hb dX7_frost_38 (by decide) ?_
          refine lv_istore (lv' := [(8, .int 1), (0, .ref (a 0)), (1, .int x1), (2, .int x2), (3, .int x3), (4, .int x4), (5, .int x5), (6, .int x6), (7, .int x7)]) hx hb dX7_frost_42 hl (by decide) rfl (fun ls hl => ?_)
          refine lv_iload hx hb dX7_frost_44 (lv_at hl 0 rfl) ?_
          refine lv_if_eq (tgt := 75) hx hb dX7_frost_46 (by decide) (fun c => absurd c (show ¬ ((1 : Int32) = 0) from by decide)) (fun _ => ?_)
          refine lv_iload hx hb dX7_frost_49 (lv_at hl 7 rfl) ?_
          refine lv_i2l (v := Int32.toInt64 x6) hx hb dX7_frost_51 (by rfl) ?_
          refine lv_lconst (v := 0) hx hb dX7_frost_52 (by decide) ?_
          refine lv_ldc2 (v := 10) hx hb hown (htg _ q_1207) dX7_frost_53 ?_
          refine tq_S (As := [.long (Int32.toInt64 x6), .long 0, .long 10]) (rest := []) (ws := []) ⟨hx, hb, hml, hown, htg⟩ (c_X7_in l D E G (Int32.toInt64 x6) (0 : Int64) (10 : Int64)) (va_cwS 3 htg (oh_gS q_1066 q_1067 q_73 q_1068) rfl rfl rfl pdX7_in ⟨Nat.le_of_ble_eq_true rfl, Nat.le_of_ble_eq_true rfl⟩) hK va_nil hG hS rfl hl.1 rfl (Nat.le_of_ble_eq_true rfl) dX7_frost_56 ⟨Nat.le_of_ble_eq_true rfl, Nat.le_of_ble_eq_true rfl⟩ (fun r_41 hq_42 => ?_)
          refine lv_if_eq (tgt := 75) hx hb dX7_frost_59 (by decide) (fun (c_43 : r_41 = 0) => ?_) (fun (c_43 : ¬ (r_41 = 0)) => ?_)
          · have u_44 := hq_42.2.2 c_43
            refine lv_aload_n hx hb dX7_frost_75 rfl (lv_at hl 1 rfl) ?_
            refine lv_bipush (v := (-2)) hx hb dX7_frost_76 (by decide) ?_
            refine tm_V (As := [.int (-2)]) (rest := []) ⟨hx, hb, hml, hown, htg⟩ (c_X7_refuse l D E G _ a C n hn hT ((-2) : Int32) (rg_w (rg_c (v := (-2)) (lo := (-2)) (hi := (-2)) (by decide)) (by decide))) (cwV 1 htg (oh_gV q_1071 q_1073 q_29 q_73 q_1074) rfl rfl rfl pdVX7_refuse ⟨Nat.le_of_ble_eq_true rfl, Nat.le_of_ble_eq_true rfl⟩) hK hP hD hG hS hA (va_recv hK hP (ci := 7) (q0 := 0) rfl (oh_wg (Nat.lt_of_lt_of_le (by decide) hn) (sM_0 hT))) rfl hl.1 rfl (Nat.le_of_ble_eq_true rfl) dX7_frost_78 ⟨Nat.le_of_ble_eq_true rfl, Nat.le_of_ble_eq_true rfl⟩ (fun r_45 C_46 H locs hq_47 hP hD hS => ?_)
            obtain ⟨hT, f_48, hq_47⟩ := hq_47
            have hF := fr_tr hF f_48 (by decide) (by decide)
            refine W.widen (k := 0) (n := 0) (Nat.le_refl _) (Nat.le_refl _) ?_
            have t_49 := hT
            refine lv_i2l (v := Int32.toInt64 r_45) hx hb dX7_frost_81 (by rfl) ?_
            rw [hQ]
            exact W.lret (v := Int32.toInt64 r_45) hx hb hr (fun t ht hW => ⟨⟨Int32.toInt64 r_45, C_46, rfl, ⟨hT, hF, ⟨⟨hR.1.fr hF (by decide), hR.2.fr hF (by decide)⟩, (congrArg ga (f_48.1 13 rfl (by decide))), (fun A hA hok => Eq.trans (show Int32.toInt64 r_45 = (-2 : Int64) by rw [hq_47]; rfl) (pif_neg (fun h8 => (oh_in64 (l' := 0) (k' := 10) rfl rfl u_44) h8.2.2.1)).symm)⟩⟩, ⟨by rw [ht]; exact hP, hD⟩⟩, hS.F ht⟩) hS.2.2 dX7_frost_82
          · have u_50 := hq_42.2.1 c_43
            refine lv_iload hx hb dX7_frost_62 (lv_at hl 8 rfl) ?_
            refine lv_i2l (v := Int32.toInt64 x7) hx hb dX7_frost_64 (by rfl) ?_
            refine lv_lconst (v := 0) hx hb dX7_frost_65 (by decide) ?_
            refine lv_ldc2 (v := 999) hx hb hown (htg _ q_1149) dX7_frost_66 ?_
            refine tq_S (As := [.long (Int32.toInt64 x7), .long 0, .long 999]) (rest := []) (ws := []) ⟨hx, hb, hml, hown, htg⟩ (c_X7_in l D E G (Int32.toInt64 x7) (0 : Int64) (999 : Int64)) (va_cwS 3 htg (oh_gS q_1066 q_1067 q_73 q_1068) rfl rfl rfl pdX7_in ⟨Nat.le_of_ble_eq_true rfl, Nat.le_of_ble_eq_true rfl⟩) hK va_nil hG hS rfl hl.1 rfl (Nat.le_of_ble_eq_true rfl) dX7_frost_69 ⟨Nat.le_of_ble_eq_true rfl, Nat.le_of_ble_eq_true rfl⟩ (fun r_51 hq_52 => ?_)
            refine lv_if_ne (tgt := 83) hx hb dX7_frost_72 (by decide) (fun (c_53 : ¬ (r_51 = 0)) => ?_) (fun (c_53 : r_51 = 0) => ?_)
            · have u_54 := hq_52.2.1 c_53
              refine lv_aload_n hx hb dX7_frost_83 rfl (lv_at hl 1 rfl) ?_
              refine va_get (D := D) (ci := 7) (v := .ref (a 13)) (C := RX7) (T := TX7) (N := 29) hx hb htg ig_7 hown hK hP 0 (oh_wg (Nat.lt_of_lt_of_le (by decide) hn) (sM_0 hT)) rfl 17 (by decide) (htg _ q_990) (fun _ h9 => h9) rfl dX7_frost_84 ?_
              refine lv_iconst (v := 2) hx hb dX7_frost_87 (by decide) ?_
              refine th_iald hx hb hK hP 13 (Nat.lt_of_lt_of_le (by decide) hn) (sM_13 hT) (rg_in (rg_c (v := 2) (lo := 2) (hi := 2) (by decide)) (by decide)) dX7_frost_88 ?_
              refine lv_istore (lv' := [(9, .int (ga (C 13) ((2 : Int32)).toNatClampNeg)), (8, .int 1), (0, .ref (a 0)), (1, .int x1), (2, .int x2), (3, .int x3), (4, .int x4), (5, .int x5), (6, .int x6), (7, .int x7)]) hx hb dX7_frost_89 hl (by decide) rfl (fun ls hl => ?_)
              refine lv_aload_n hx hb dX7_frost_91 rfl (lv_at hl 2 rfl) ?_
              refine va_get (D := D) (ci := 7) (v := .ref (a 13)) (C := RX7) (T := TX7) (N := 29) hx hb htg ig_7 hown hK hP 0 (oh_wg (Nat.lt_of_lt_of_le (by decide) hn) (sM_0 hT)) rfl 17 (by decide) (htg _ q_990) (fun _ h9 => h9) rfl dX7_frost_92 ?_
              refine lv_iconst (v := 2) hx hb dX7_frost_95 (by decide) ?_
              refine lv_iconst (v := 1) hx hb dX7_frost_96 (by decide) ?_
              refine th_iast (T := TyM a E) (Rl := fr [(8, 9), (13, 14), (15, 16)] [] C) hx hb hK hP hD hS 13 (Nat.lt_of_lt_of_le (by decide) hn) (sM_13 hT) (rg_in (rg_c (v := 2) (lo := 2) (hi := 2) (by decide)) (by decide)) (hT.up 13 (by decide) (tA_upd (tM_13 hT) tA_any)) (fr_st hF (by decide) (by decide)) dX7_frost_97 (fun C_55 H locs e_56 hT hF hP hD hS => ?_)
              have t_57 := hT
              refine lv_aload_n hx hb dX7_frost_98 rfl (lv_at hl 2 rfl) ?_
              refine lv_iload_n hx hb dX7_frost_99 rfl (lv_at hl 3 rfl) ?_
              refine lv_iload_n hx hb dX7_frost_100 rfl (lv_at hl 4 rfl) ?_
              refine lv_iload_n hx hb dX7_frost_101 rfl (lv_at hl 5 rfl) ?_
              refine lv_iload hx hb dX7_frost_102 (lv_at hl 6 rfl) ?_
              refine lv_iconst (v := 1) hx hb dX7_frost_104 (by decide) ?_
              refine tm_V (As := [.int x1, .int x2, .int x3, .int x4, .int 1]) (rest := []) ⟨hx, hb, hml, hown, htg⟩ (e_X7_cheapestOf l D E G _ a C_55 n hn hT x1 x2 x3 x4 (1 : Int32) (rg_w u_10.1 (by decide)) (rg_w u_20 (by decide)) (rg_w u_30 (by decide)) (oh_posU (rg_w u_10.1 (by decide)) (fun i hi => th_un e_56 (by omega)) u_10.2.1)) (cwV 5 htg (oh_gV q_1347 q_1349 q_59 q_73 q_1350) rfl rfl rfl pdVX7_cheapestOf ⟨Nat.le_of_ble_eq_true rfl, Nat.le_of_ble_eq_true rfl⟩) hK hP hD hG hS hA (va_recv hK hP (ci := 7) (q0 := 0) rfl (oh_wg (Nat.lt_of_lt_of_le (by decide) hn) (sM_0 hT))) rfl hl.1 rfl (Nat.le_of_ble_eq_true rfl) dX7_frost_105 ⟨Nat.le_of_ble_eq_true rfl, Nat.le_of_ble_eq_true rfl⟩ (fun r_58 C_59 H locs hq_60 hP hD hS => ?_)
              obtain ⟨hT, f_61, hq_60⟩ := hq_60
              have hF := fr_tr hF f_61 (by decide) (by decide)
              refine W.widen (k := 0) (n := 0) (Nat.le_refl _) (Nat.le_refl _) ?_
              have t_62 := hT
              refine lv_istore (lv' := [(10, .int r_58), (9, .int (ga (C 13) ((2 : Int32)).toNatClampNeg)), (8, .int 1), (0, .ref (a 0)), (1, .int x1), (2, .int x2), (3, .int x3), (4, .int x4), (5, .int x5), (6, .int x6), (7, .int x7)]) hx hb dX7_frost_108 hl (by decide) rfl (fun ls hl => ?_)
              refine lv_aload_n hx hb dX7_frost_110 rfl (lv_at hl 3 rfl) ?_
              refine va_get (D := D) (ci := 7) (v := .ref (a 13)) (C := RX7) (T := TX7) (N := 29) hx hb htg ig_7 hown hK hP 0 (oh_wg (Nat.lt_of_lt_of_le (by decide) hn) (sM_0 hT)) rfl 17 (by decide) (htg _ q_990) (fun _ h9 => h9) rfl dX7_frost_111 ?_
              refine lv_iconst (v := 2) hx hb dX7_frost_114 (by decide) ?_
              refine lv_iconst (v := 0) hx hb dX7_frost_115 (by decide) ?_
              refine th_iast (T := TyM a E) (Rl := fr [(8, 9), (13, 14), (15, 16)] [] C) hx hb hK hP hD hS 13 (Nat.lt_of_lt_of_le (by decide) hn) (sM_13 hT) (rg_in (rg_c (v := 2) (lo := 2) (hi := 2) (by decide)) (by decide)) (hT.up 13 (by decide) (tA_upd (tM_13 hT) tA_any)) (fr_st hF (by decide) (by decide)) dX7_frost_116 (fun C_63 H locs e_64 hT hF hP hD hS => ?_)
              have t_65 := hT
              refine lv_aload_n hx hb dX7_frost_117 rfl (lv_at hl 3 rfl) ?_
              refine lv_iload_n hx hb dX7_frost_118 rfl (lv_at hl 4 rfl) ?_
              refine lv_iload_n hx hb dX7_frost_119 rfl (lv_at hl 5 rfl) ?_
              refine lv_iload_n hx hb dX7_frost_120 rfl (lv_at hl 6 rfl) ?_
              refine lv_iload hx hb dX7_frost_121 (lv_at hl 7 rfl) ?_
              refine lv_iconst (v := 1) hx hb dX7_frost_123 (by decide) ?_
              refine tm_V (As := [.int x1, .int x2, .int x3, .int x4, .int 1]) (rest := []) ⟨hx, hb, hml, hown, htg⟩ (e_X7_cheapestOf l D E G _ a C_63 n hn hT x1 x2 x3 x4 (1 : Int32) (rg_w u_10.1 (by decide)) (rg_w u_20 (by decide)) (rg_w u_30 (by decide)) (oh_posU (rg_w u_10.1 (by decide)) (fun i hi => th_un e_64 (by omega)) (oh_posU (rg_w u_10.1 (by decide)) (fun i hi => f_61.1 _ (inR_out hi (by decide)) (by omega)) (oh_posU (rg_w u_10.1 (by decide)) (fun i hi => th_un e_56 (by omega)) u_10.2.1)))) (cwV 5 htg (oh_gV q_1347 q_1349 q_59 q_73 q_1350) rfl rfl rfl pdVX7_cheapestOf ⟨Nat.le_of_ble_eq_true rfl, Nat.le_of_ble_eq_true rfl⟩) hK hP hD hG hS hA (va_recv hK hP (ci := 7) (q0 := 0) rfl (oh_wg (Nat.lt_of_lt_of_le (by decide) hn) (sM_0 hT))) rfl hl.1 rfl (Nat.le_of_ble_eq_true rfl) dX7_frost_124 ⟨Nat.le_of_ble_eq_true rfl, Nat.le_of_ble_eq_true rfl⟩ (fun r_66 C_67 H locs hq_68 hP hD hS => ?_)
              obtain ⟨hT, f_69, hq_68⟩ := hq_68
              have hF := fr_tr hF f_69 (by decide) (by decide)
              refine W.widen (k := 0) (n := 0) (Nat.le_refl _) (Nat.le_refl _) ?_
              have t_70 := hT
              refine lv_istore (lv' := [(11, .int r_66), (10, .int r_58), (9, .int (ga (C 13) ((2 : Int32)).toNatClampNeg)), (8, .int 1), (0, .ref (a 0)), (1, .int x1), (2, .int x2), (3, .int x3), (4, .int x4), (5, .int x5), (6, .int x6), (7, .int x7)]) hx hb dX7_frost_127 hl (by decide) rfl (fun ls hl => ?_)
              refine lv_aload_n hx hb dX7_frost_129 rfl (lv_at hl 4 rfl) ?_
              refine va_get (D := D) (ci := 7) (v := .ref (a 13)) (C := RX7) (T := TX7) (N := 29) hx hb htg ig_7 hown hK hP 0 (oh_wg (Nat.lt_of_lt_of_le (by decide) hn) (sM_0 hT)) rfl 17 (by decide) (htg _ q_990) (fun _ h9 => h9) rfl dX7_frost_130 ?_
              refine lv_iconst (v := 2) hx hb dX7_frost_133 (by decide) ?_
              refine lv_iload hx hb dX7_frost_134 (lv_at hl 2 rfl) ?_
              refine th_iast (T := TyM a E) (Rl := fr [(8, 9), (13, 14), (15, 16)] [] C) hx hb hK hP hD hS 13 (Nat.lt_of_lt_of_le (by decide) hn) (sM_13 hT) (rg_in (rg_c (v := 2) (lo := 2) (hi := 2) (by decide)) (by decide)) (hT.up 13 (by decide) (tA_upd (tM_13 hT) tA_any)) (fr_st hF (by decide) (by decide)) dX7_frost_136 (fun C_71 H locs e_72 hT hF hP hD hS => ?_)
              have t_73 := hT
              refine lv_iload hx hb dX7_frost_137 (lv_at hl 0 rfl) ?_
              refine lv_iconst (v := (-1)) hx hb dX7_frost_139 (by decide) ?_
              refine lv_icmp_ne (tgt := 151) hx hb dX7_frost_140 (by decide) (fun (c_74 : ¬ (r_66 = (-1))) => ?_) (fun (c_74 : r_66 = (-1)) => ?_)
              · refine lv_iload hx hb dX7_frost_151 (lv_at hl 0 rfl) ?_
                refine lv_i2l (v := Int32.toInt64 r_66) hx hb dX7_frost_153 (by rfl) ?_
                refine lv_lstore (lv' := [(12, .long (Int32.toInt64 r_66)), (11, .int r_66), (10, .int r_58), (9, .int (ga (C 13) ((2 : Int32)).toNatClampNeg)), (8, .int 1), (0, .ref (a 0)), (1, .int x1), (2, .int x2), (3, .int x3), (4, .int x4), (5, .int x5), (6, .int x6), (7, .int x7)]) hx hb dX7_frost_154 hl (by decide) rfl (fun ls hl => ?_)
                refine lv_lconst (v := 1) hx hb dX7_frost_156 (by decide) ?_
                refine lv_lstore (lv' := [(14, .long 1), (12, .long (Int32.toInt64 r_66)), (11, .int r_66), (10, .int r_58), (9, .int (ga (C 13) ((2 : Int32)).toNatClampNeg)), (8, .int 1), (0, .ref (a 0)), (1, .int x1), (2, .int x2), (3, .int x3), (4, .int x4), (5, .int x5), (6, .int x6), (7, .int x7)]) hx hb dX7_frost_157 hl (by decide) rfl (fun ls hl => ?_)
                refine lv_iconst (v := 0) hx hb dX7_frost_159 (by decide) ?_
                refine lv_istore (lv' := [(16, .int 0), (14, .long 1), (12, .long (Int32.toInt64 r_66)), (11, .int r_66), (10, .int r_58), (9, .int (ga (C 13) ((2 : Int32)).toNatClampNeg)), (8, .int 1), (0, .ref (a 0)), (1, .int x1), (2, .int x2), (3, .int x3), (4, .int x4), (5, .int x5), (6, .int x6), (7, .int x7)]) hx hb dX7_frost_160 hl (by decide) rfl (fun ls hl => ?_)
                have L_162 : ∀ (d : Nat) (K162 : Nat → va_E) (z162_16 : Int32) (z162_14 : Int64) (z162_12 : Int64) (H : Heap) (locs : List Loc) (ls : Array Slot), (6 - z162_16.toInt).toNat = d → rg z162_16 0 6 → ((z162_12, z162_14) = fvS x6 x7 (Int32.toInt64 r_66) (Int32.toInt64 r_58) z162_16.toNatClampNeg) → (z162_16.toInt ≤ x5.toInt) → TyM a E K162 → fr [(8, 9), (13, 14), (15, 16)] [] C K162 → fr [] [] C_71 K162 → va_P D vwCl (oh_W n a K162) H → va_D A (oh_W n a K162) → va_S A s.heap H locs → lv_has ls 19 [(16, .int z162_16), (14, .long z162_14), (12, .long z162_12), (11, .int r_66), (10, .int r_58), (9, .int (ga (C 13) ((2 : Int32)).toNatClampNeg)), (8, .int 1), (0, .ref (a 0)), (1, .int x1), (2, .int x2), (3, .int x3), (4, .int x4), (5, .int x5), (6, .int x6), (7, .int x7)] → W p l e ({ frames := 7, cells := 0, slots := 0, locals := 177 }) s m (([.ref (a 0), .int x1, .int x2, .int x3, .int x4, .int x5, .int x6, .int x7] : List Value).toArray) below meth c H locs 0 0 Q (F0 m 162 ls []) := by
                  intro d
                  induction d using Nat.strongRecOn with
                  | ind d ih_162 =>
                  intro K162 z162_16 z162_14 z162_12 H locs ls hd_162 hz162_16 hv_162 hy_162 hT hF hLF_162 hP hD hS hl
                  have t_75 := hT
                  refine lv_iload hx hb dX7_frost_162 (lv_at hl 0 rfl) ?_
                  refine lv_iload hx hb dX7_frost_164 (lv_at hl 12 rfl) ?_
                  refine lv_icmp_ge (tgt := 241) hx hb dX7_frost_166 (by decide) (fun (c_76 : x5 ≤ z162_16) => ?_) (fun (c_76 : ¬ (x5 ≤ z162_16)) => ?_)
                  · refine lv_lload hx hb dX7_frost_241 (lv_at hl 2 rfl) ?_
                    rw [hQ]
                    exact W.lret (v := z162_12) hx hb hr (fun t ht hW => ⟨⟨z162_12, K162, rfl, ⟨hT, hF, ⟨⟨hR.1.fr hF (by decide), hR.2.fr hF (by decide)⟩, (by rw [(hLF_162.1 13 rfl (by decide)), (st_ga e_72), (f_69.1 13 rfl (by decide)), (st_ga e_64), (f_61.1 13 rfl (by decide)), (st_ga e_56)]; exact upd_b3), (fun A hA hok => by have hp := (show okPk (A 5 0 2) (A 5 0 3) x1 x2 by rw [← (show gi (C 0) 13 = A 5 0 2 from hA.1 2 (by decide)), ← (show gi (C 0) 15 = A 5 0 3 from hA.1 3 (by decide))]; exact u_10.2.2.2); have hj : okJ A x1 x2 x3 x4 := ⟨hp, (oh_rgI (p := 0) (q := 15) (rg_w (lo := 0) (hi := 15) u_20 (by decide))), (oh_rgI (p := 0) (q := 15) (rg_w (lo := 0) (hi := 15) u_30 (by decide)))⟩; have e1 := hq_60 (setA A 2 1) (absM_sk 2 hA hT0 (show fr [(13, 14)] [] C C_55 from (fr_ste fr_rf e_56 (by decide) (by decide))) (by rw [st_ga e_56]; exact pk_us) (fun j hj => (show ga (C_55 13) j = ga (C 13) j by rw [st_ga e_56]; exact pk_un hj)) (by decide) (by decide)) (ok_f hok ⟨by decide, by decide⟩) (set_52 hp.1.2) ⟨by decide, by decide⟩; have e0 := hq_68 (setA A 2 0) (absM_sk 2 hA hT0 (show fr [(13, 14), (15, 16)] [] C C_63 from (fr_ste (fr_tr (fr_ste fr_rf e_56 (by decide) (by decide)) f_61 (by decide) (by decide)) e_64 (by decide) (by decide))) (by rw [st_ga e_64]; exact pk_us) (fun j hj => (Eq.trans (show ga (C_63 13) j = ga (C_59 13) j by rw [st_ga e_64]; exact pk_un hj) (Eq.trans (congrArg (fun z => ga z j) (f_61.1 13 rfl (by decide))) (show ga (C_55 13) j = ga (C 13) j by rw [st_ga e_56]; exact pk_un hj)))) (by decide) (by decide)) (ok_f hok ⟨by decide, by decide⟩) (set_52 hp.1.2) ⟨by decide, by decide⟩; have hw := mc_w (ok_f hok ⟨by decide, by decide⟩) (rg_w (lo := 0) (hi := 4) u_10.1 (by decide)) (set_52 hp.1.2) (rg_w (lo := 0) (hi := 15) u_20 (by decide)) (rg_w (lo := 0) (hi := 15) u_30 (by decide)) e0; have hq := Classical.byContradiction (fun q => c_74 (hw.mpr q)); rw [mc_lc hq] at e0; rw [mc_lc (hw_f hok hq)] at e1; have h7 := congrArg Prod.fst hv_162; rw [show z162_16 = x5 from Int32.toInt_inj.mp (by have h8 := Int32.le_iff_toInt_le.mp c_76; have h9 := hy_162; omega), e0, e1] at h7; exact Eq.trans h7 (Eq.trans (pif_pos ⟨hj, (oh_rgI (p := 0) (q := 6) (rg_w (lo := 0) (hi := 6) (rg_il (rgL_i (rg_il (rnL_leu u_40.2 (rnL_lel u_40.1 (rgL_c (v := 0) (lo := 0) (hi := 0) (by decide)) (rgL_i (rg_any _))) (rgL_c (v := 6) (lo := 6) (hi := 6) (by decide)))))) (by decide))), (oh_rgI (p := 0) (q := 10) (rg_w (lo := 0) (hi := 10) (rg_il (rgL_i (rg_il (rnL_leu u_50.2 (rnL_lel u_50.1 (rgL_c (v := 0) (lo := 0) (hi := 0) (by decide)) (rgL_i (rg_any _))) (rgL_c (v := 10) (lo := 10) (hi := 10) (by decide)))))) (by decide))), (oh_rgI (p := 0) (q := 999) (rg_w (lo := 0) (hi := 999) (rg_il (rgL_i (rg_il (rnL_leu u_54.2 (rnL_lel u_54.1 (rgL_c (v := 0) (lo := 0) (hi := 0) (by decide)) (rgL_i (rg_any _))) (rgL_c (v := 999) (lo := 999) (hi := 999) (by decide)))))) (by decide)))⟩) (pif_pos hq)).symm)⟩⟩, ⟨by rw [ht]; exact hP, hD⟩⟩, hS.F ht⟩) hS.2.2 dX7_frost_243
                  · refine lv_ldc2 (v := 10) hx hb hown (htg _ q_1207) dX7_frost_169 ?_
                    refine lv_lload hx hb dX7_frost_172 (lv_at hl 1 rfl) ?_
                    refine lv_lmul hx hb dX7_frost_174 ?_
                    refine lv_iload hx hb dX7_frost_175 (lv_at hl 14 rfl) ?_
                    refine lv_i2l (v := Int32.toInt64 x7) hx hb dX7_frost_177 (by rfl) ?_
                    refine lv_lmul hx hb dX7_frost_178 ?_
                    refine lv_iload hx hb dX7_frost_179 (lv_at hl 13 rfl) ?_
                    refine lv_i2l (v := Int32.toInt64 x6) hx hb dX7_frost_181 (by rfl) ?_
                    refine lv_lload hx hb dX7_frost_182 (lv_at hl 1 rfl) ?_
                    refine lv_lmul hx hb dX7_frost_184 ?_
                    refine lv_iload hx hb dX7_frost_185 (lv_at hl 4 rfl) ?_
                    refine lv_i2l (v := Int32.toInt64 r_58) hx hb dX7_frost_187 (by rfl) ?_
                    refine lv_lmul hx hb dX7_frost_188 ?_
                    refine lv_ladd hx hb dX7_frost_189 ?_
                    refine lv_bipush (v := 10) hx hb dX7_frost_190 (by decide) ?_
                    refine lv_iload hx hb dX7_frost_192 (lv_at hl 13 rfl) ?_
                    refine lv_isub hx hb dX7_frost_194 ?_
                    refine lv_i2l (v := Int32.toInt64 (10 - x6)) hx hb dX7_frost_195 (by rfl) ?_
                    refine lv_lload hx hb dX7_frost_196 (lv_at hl 2 rfl) ?_
                    refine lv_lmul hx hb dX7_frost_198 ?_
                    refine lv_ladd hx hb dX7_frost_199 ?_
                    refine lv_lstore (lv' := [(17, .long ((((10 * z162_14) * (Int32.toInt64 x7)) + (((Int32.toInt64 x6) * z162_14) * (Int32.toInt64 r_58))) + ((Int32.toInt64 (10 - x6)) * z162_12))), (16, .int z162_16), (14, .long z162_14), (12, .long z162_12), (11, .int r_66), (10, .int r_58), (9, .int (ga (C 13) ((2 : Int32)).toNatClampNeg)), (8, .int 1), (0, .ref (a 0)), (1, .int x1), (2, .int x2), (3, .int x3), (4, .int x4), (5, .int x5), (6, .int x6), (7, .int x7)]) hx hb dX7_frost_200 hl (by decide) rfl (fun ls hl => ?_)
                    refine lv_lload hx hb dX7_frost_202 (lv_at hl 2 rfl) ?_
                    refine lv_ldc2 (v := 10) hx hb hown (htg _ q_1207) dX7_frost_204 ?_
                    refine lv_lmul hx hb dX7_frost_207 ?_
                    refine lv_lstore (lv' := [(14, .long (z162_14 * 10)), (17, .long ((((10 * z162_14) * (Int32.toInt64 x7)) + (((Int32.toInt64 x6) * z162_14) * (Int32.toInt64 r_58))) + ((Int32.toInt64 (10 - x6)) * z162_12))), (16, .int z162_16), (12, .long z162_12), (11, .int r_66), (10, .int r_58), (9, .int (ga (C 13) ((2 : Int32)).toNatClampNeg)), (8, .int 1), (0, .ref (a 0)), (1, .int x1), (2, .int x2), (3, .int x3), (4, .int x4), (5, .int x5), (6, .int x6), (7, .int x7)]) hx hb dX7_frost_208 hl (by decide) rfl (fun ls hl => ?_)
                    refine lv_lload hx hb dX7_frost_210 (lv_at hl 0 rfl) ?_
                    refine lv_iload hx hb dX7_frost_212 (lv_at hl 4 rfl) ?_
                    refine lv_i2l (v := Int32.toInt64 r_66) hx hb dX7_frost_214 (by rfl) ?_
                    refine lv_lmul hx hb dX7_frost_215 ?_
                    refine lv_lload hx hb dX7_frost_216 (lv_at hl 1 rfl) ?_
                    refine W.lcmp hx hb dX7_frost_218 ?_
                    refine lv_if_ge (tgt := 231) hx hb dX7_frost_219 (by decide) (fun (c_77 : (0 : Int32) ≤ (lg_cmp ((z162_14 * 10) * (Int32.toInt64 r_66)) ((((10 * z162_14) * (Int32.toInt64 x7)) + (((Int32.toInt64 x6) * z162_14) * (Int32.toInt64 r_58))) + ((Int32.toInt64 (10 - x6)) * z162_12)))) => ?_) (fun (c_77 : ¬ ((0 : Int32) ≤ (lg_cmp ((z162_14 * 10) * (Int32.toInt64 r_66)) ((((10 * z162_14) * (Int32.toInt64 x7)) + (((Int32.toInt64 x6) * z162_14) * (Int32.toInt64 r_58))) + ((Int32.toInt64 (10 - x6)) * z162_12))))) => ?_)
                    · refine lv_lload hx hb dX7_frost_231 (lv_at hl 1 rfl) ?_
                      refine lv_lstore (lv' := [(12, .long ((((10 * z162_14) * (Int32.toInt64 x7)) + (((Int32.toInt64 x6) * z162_14) * (Int32.toInt64 r_58))) + ((Int32.toInt64 (10 - x6)) * z162_12))), (14, .long (z162_14 * 10)), (17, .long ((((10 * z162_14) * (Int32.toInt64 x7)) + (((Int32.toInt64 x6) * z162_14) * (Int32.toInt64 r_58))) + ((Int32.toInt64 (10 - x6)) * z162_12))), (16, .int z162_16), (11, .int r_66), (10, .int r_58), (9, .int (ga (C 13) ((2 : Int32)).toNatClampNeg)), (8, .int 1), (0, .ref (a 0)), (1, .int x1), (2, .int x2), (3, .int x3), (4, .int x4), (5, .int x5), (6, .int x6), (7, .int x7)]) hx hb dX7_frost_233 hl (by decide) rfl (fun ls hl => ?_)
                      refine lv_iinc (v := z162_16 + 1) (lv' := [(16, .int (z162_16 + 1)), (12, .long ((((10 * z162_14) * (Int32.toInt64 x7)) + (((Int32.toInt64 x6) * z162_14) * (Int32.toInt64 r_58))) + ((Int32.toInt64 (10 - x6)) * z162_12))), (14, .long (z162_14 * 10)), (17, .long ((((10 * z162_14) * (Int32.toInt64 x7)) + (((Int32.toInt64 x6) * z162_14) * (Int32.toInt64 r_58))) + ((Int32.toInt64 (10 - x6)) * z162_12))), (11, .int r_66), (10, .int r_58), (9, .int (ga (C 13) ((2 : Int32)).toNatClampNeg)), (8, .int 1), (0, .ref (a 0)), (1, .int x1), (2, .int x2), (3, .int x3), (4, .int x4), (5, .int x5), (6, .int x6), (7, .int x7)]) hx hb dX7_frost_235 hl (k := 3) rfl (by rfl) (by decide) rfl (fun ls hl => ?_)
                      refine lv_goto (tgt := 162) hx hb dX7_frost_238 (by decide) ?_
                      exact ih_162 _ (hd_162 ▸ mu_up 6 (rn_ltu (u' := 5) (Int32.not_le.mp c_76) hz162_16 (rg_il (rgL_i (rg_il (rnL_leu u_40.2 (rnL_lel u_40.1 (rgL_c (v := 0) (lo := 0) (hi := 0) (by decide)) (rgL_i (rg_any _))) (rgL_c (v := 6) (lo := 6) (hi := 6) (by decide)))))) (by decide)) (by decide)) K162 (z162_16 + 1) (z162_14 * 10) ((((10 * z162_14) * (Int32.toInt64 x7)) + (((Int32.toInt64 x6) * z162_14) * (Int32.toInt64 r_58))) + ((Int32.toInt64 (10 - x6)) * z162_12)) _ _ ls rfl (rg_w (rg_add (lo := 1) (hi := 6) (rn_ltu (u' := 5) (Int32.not_le.mp c_76) hz162_16 (rg_il (rgL_i (rg_il (rnL_leu u_40.2 (rnL_lel u_40.1 (rgL_c (v := 0) (lo := 0) (hi := 0) (by decide)) (rgL_i (rg_any _))) (rgL_c (v := 6) (lo := 6) (hi := 6) (by decide)))))) (by decide)) (rg_c (v := 1) (lo := 1) (hi := 1) (by decide)) (by decide)) (by decide)) (by rw [fv_s (rg_w (lo := 0) (hi := 6) (rn_ltu (u' := 5) (Int32.not_le.mp c_76) hz162_16 (rg_il (rgL_i (rg_il (rnL_leu u_40.2 (rnL_lel u_40.1 (rgL_c (v := 0) (lo := 0) (hi := 0) (by decide)) (rgL_i (rg_any _))) (rgL_c (v := 6) (lo := 6) (hi := 6) (by decide)))))) (by decide)) (by decide)), ← hv_162]; exact fv_ge (oh_lc_nlt (Int32.not_lt.mpr c_77))) (by have h7 := Int32.lt_iff_toInt_lt.mp (Int32.not_le.mp c_76); have h8 : (z162_16 + 1).toInt = z162_16.toInt + 1 := oh_incr (rn_ltu (u' := 5) (Int32.not_le.mp c_76) hz162_16 (rg_il (rgL_i (rg_il (rnL_leu u_40.2 (rnL_lel u_40.1 (rgL_c (v := 0) (lo := 0) (hi := 0) (by decide)) (rgL_i (rg_any _))) (rgL_c (v := 6) (lo := 6) (hi := 6) (by decide)))))) (by decide)) (by decide); omega) hT hF hLF_162 hP hD hS (lv_sub hl [0, 2, 1, 4, 5, 6, 7, 8, 9, 10, 11, 12, 13, 14, 15] rfl)
                    · refine lv_lload hx hb dX7_frost_222 (lv_at hl 0 rfl) ?_
                      refine lv_iload hx hb dX7_frost_224 (lv_at hl 4 rfl) ?_
                      refine lv_i2l (v := Int32.toInt64 r_66) hx hb dX7_frost_226 (by rfl) ?_
                      refine lv_lmul hx hb dX7_frost_227 ?_
                      refine lv_goto (tgt := 233) hx hb dX7_frost_228 (by decide) ?_
                      refine lv_lstore (lv' := [(12, .long ((z162_14 * 10) * (Int32.toInt64 r_66))), (14, .long (z162_14 * 10)), (17, .long ((((10 * z162_14) * (Int32.toInt64 x7)) + (((Int32.toInt64 x6) * z162_14) * (Int32.toInt64 r_58))) + ((Int32.toInt64 (10 - x6)) * z162_12))), (16, .int z162_16), (11, .int r_66), (10, .int r_58), (9, .int (ga (C 13) ((2 : Int32)).toNatClampNeg)), (8, .int 1), (0, .ref (a 0)), (1, .int x1), (2, .int x2), (3, .int x3), (4, .int x4), (5, .int x5), (6, .int x6), (7, .int x7)]) hx hb dX7_frost_233 hl (by decide) rfl (fun ls hl => ?_)
                      refine lv_iinc (v := z162_16 + 1) (lv' := [(16, .int (z162_16 + 1)), (12, .long ((z162_14 * 10) * (Int32.toInt64 r_66))), (14, .long (z162_14 * 10)), (17, .long ((((10 * z162_14) * (Int32.toInt64 x7)) + (((Int32.toInt64 x6) * z162_14) * (Int32.toInt64 r_58))) + ((Int32.toInt64 (10 - x6)) * z162_12))), (11, .int r_66), (10, .int r_58), (9, .int (ga (C 13) ((2 : Int32)).toNatClampNeg)), (8, .int 1), (0, .ref (a 0)), (1, .int x1), (2, .int x2), (3, .int x3), (4, .int x4), (5, .int x5), (6, .int x6), (7, .int x7)]) hx hb dX7_frost_235 hl (k := 3) rfl (by rfl) (by decide) rfl (fun ls hl => ?_)
                      refine lv_goto (tgt := 162) hx hb dX7_frost_238 (by decide) ?_
                      exact ih_162 _ (hd_162 ▸ mu_up 6 (rn_ltu (u' := 5) (Int32.not_le.mp c_76) hz162_16 (rg_il (rgL_i (rg_il (rnL_leu u_40.2 (rnL_lel u_40.1 (rgL_c (v := 0) (lo := 0) (hi := 0) (by decide)) (rgL_i (rg_any _))) (rgL_c (v := 6) (lo := 6) (hi := 6) (by decide)))))) (by decide)) (by decide)) K162 (z162_16 + 1) (z162_14 * 10) ((z162_14 * 10) * (Int32.toInt64 r_66)) _ _ ls rfl (rg_w (rg_add (lo := 1) (hi := 6) (rn_ltu (u' := 5) (Int32.not_le.mp c_76) hz162_16 (rg_il (rgL_i (rg_il (rnL_leu u_40.2 (rnL_lel u_40.1 (rgL_c (v := 0) (lo := 0) (hi := 0) (by decide)) (rgL_i (rg_any _))) (rgL_c (v := 6) (lo := 6) (hi := 6) (by decide)))))) (by decide)) (rg_c (v := 1) (lo := 1) (hi := 1) (by decide)) (by decide)) (by decide)) (by rw [fv_s (rg_w (lo := 0) (hi := 6) (rn_ltu (u' := 5) (Int32.not_le.mp c_76) hz162_16 (rg_il (rgL_i (rg_il (rnL_leu u_40.2 (rnL_lel u_40.1 (rgL_c (v := 0) (lo := 0) (hi := 0) (by decide)) (rgL_i (rg_any _))) (rgL_c (v := 6) (lo := 6) (hi := 6) (by decide)))))) (by decide)) (by decide)), ← hv_162]; exact fv_lt (oh_lc_lt (Int32.not_le.mp c_77))) (by have h7 := Int32.lt_iff_toInt_lt.mp (Int32.not_le.mp c_76); have h8 : (z162_16 + 1).toInt = z162_16.toInt + 1 := oh_incr (rn_ltu (u' := 5) (Int32.not_le.mp c_76) hz162_16 (rg_il (rgL_i (rg_il (rnL_leu u_40.2 (rnL_lel u_40.1 (rgL_c (v := 0) (lo := 0) (hi := 0) (by decide)) (rgL_i (rg_any _))) (rgL_c (v := 6) (lo := 6) (hi := 6) (by decide)))))) (by decide)) (by decide); omega) hT hF hLF_162 hP hD hS (lv_sub hl [0, 2, 1, 4, 5, 6, 7, 8, 9, 10, 11, 12, 13, 14, 15] rfl)
                exact L_162 _ C_71 0 1 (Int32.toInt64 r_66) _ _ ls rfl (rg_w (rg_c (v := 0) (lo := 0) (hi := 0) (by decide)) (by decide)) rfl (show (0 : Int32).toInt ≤ x5.toInt from (rg_w (lo := 0) (hi := 6) (rg_il (rgL_i (rg_il (rnL_leu u_40.2 (rnL_lel u_40.1 (rgL_c (v := 0) (lo := 0) (hi := 0) (by decide)) (rgL_i (rg_any _))) (rgL_c (v := 6) (lo := 6) (hi := 6) (by decide)))))) (by decide)).1) hT hF fr_rf hP hD hS (lv_sub hl [0, 1, 2, 3, 4, 5, 6, 7, 8, 9, 10, 11, 12, 13, 14] rfl)
              · refine lv_aload_n hx hb dX7_frost_143 rfl (lv_at hl 4 rfl) ?_
                refine lv_bipush (v := (-5)) hx hb dX7_frost_144 (by decide) ?_
                refine tm_V (As := [.int (-5)]) (rest := []) ⟨hx, hb, hml, hown, htg⟩ (c_X7_refuse l D E G _ a C_71 n hn hT ((-5) : Int32) (rg_w (rg_c (v := (-5)) (lo := (-5)) (hi := (-5)) (by decide)) (by decide))) (cwV 1 htg (oh_gV q_1071 q_1073 q_29 q_73 q_1074) rfl rfl rfl pdVX7_refuse ⟨Nat.le_of_ble_eq_true rfl, Nat.le_of_ble_eq_true rfl⟩) hK hP hD hG hS hA (va_recv hK hP (ci := 7) (q0 := 0) rfl (oh_wg (Nat.lt_of_lt_of_le (by decide) hn) (sM_0 hT))) rfl hl.1 rfl (Nat.le_of_ble_eq_true rfl) dX7_frost_146 ⟨Nat.le_of_ble_eq_true rfl, Nat.le_of_ble_eq_true rfl⟩ (fun r_78 C_79 H locs hq_80 hP hD hS => ?_)
                obtain ⟨hT, f_81, hq_80⟩ := hq_80
                have hF := fr_tr hF f_81 (by decide) (by decide)
                refine W.widen (k := 0) (n := 0) (Nat.le_refl _) (Nat.le_refl _) ?_
                have t_82 := hT
                refine lv_i2l (v := Int32.toInt64 r_78) hx hb dX7_frost_149 (by rfl) ?_
                rw [hQ]
                exact W.lret (v := Int32.toInt64 r_78) hx hb hr (fun t ht hW => ⟨⟨Int32.toInt64 r_78, C_79, rfl, ⟨hT, hF, ⟨⟨hR.1.fr hF (by decide), hR.2.fr hF (by decide)⟩, (by rw [(f_81.1 13 rfl (by decide)), (st_ga e_72), (f_69.1 13 rfl (by decide)), (st_ga e_64), (f_61.1 13 rfl (by decide)), (st_ga e_56)]; exact upd_b3), (fun A hA hok => by have hp := (show okPk (A 5 0 2) (A 5 0 3) x1 x2 by rw [← (show gi (C 0) 13 = A 5 0 2 from hA.1 2 (by decide)), ← (show gi (C 0) 15 = A 5 0 3 from hA.1 3 (by decide))]; exact u_10.2.2.2); have hj : okJ A x1 x2 x3 x4 := ⟨hp, (oh_rgI (p := 0) (q := 15) (rg_w (lo := 0) (hi := 15) u_20 (by decide))), (oh_rgI (p := 0) (q := 15) (rg_w (lo := 0) (hi := 15) u_30 (by decide)))⟩; have e1 := hq_60 (setA A 2 1) (absM_sk 2 hA hT0 (show fr [(13, 14)] [] C C_55 from (fr_ste fr_rf e_56 (by decide) (by decide))) (by rw [st_ga e_56]; exact pk_us) (fun j hj => (show ga (C_55 13) j = ga (C 13) j by rw [st_ga e_56]; exact pk_un hj)) (by decide) (by decide)) (ok_f hok ⟨by decide, by decide⟩) (set_52 hp.1.2) ⟨by decide, by decide⟩; have e0 := hq_68 (setA A 2 0) (absM_sk 2 hA hT0 (show fr [(13, 14), (15, 16)] [] C C_63 from (fr_ste (fr_tr (fr_ste fr_rf e_56 (by decide) (by decide)) f_61 (by decide) (by decide)) e_64 (by decide) (by decide))) (by rw [st_ga e_64]; exact pk_us) (fun j hj => (Eq.trans (show ga (C_63 13) j = ga (C_59 13) j by rw [st_ga e_64]; exact pk_un hj) (Eq.trans (congrArg (fun z => ga z j) (f_61.1 13 rfl (by decide))) (show ga (C_55 13) j = ga (C 13) j by rw [st_ga e_56]; exact pk_un hj)))) (by decide) (by decide)) (ok_f hok ⟨by decide, by decide⟩) (set_52 hp.1.2) ⟨by decide, by decide⟩; have hw := mc_w (ok_f hok ⟨by decide, by decide⟩) (rg_w (lo := 0) (hi := 4) u_10.1 (by decide)) (set_52 hp.1.2) (rg_w (lo := 0) (hi := 15) u_20 (by decide)) (rg_w (lo := 0) (hi := 15) u_30 (by decide)) e0; exact Eq.trans (show Int32.toInt64 r_78 = (-5 : Int64) by rw [hq_80]; rfl) (Eq.trans (pif_pos ⟨hj, (oh_rgI (p := 0) (q := 6) (rg_w (lo := 0) (hi := 6) (rg_il (rgL_i (rg_il (rnL_leu u_40.2 (rnL_lel u_40.1 (rgL_c (v := 0) (lo := 0) (hi := 0) (by decide)) (rgL_i (rg_any _))) (rgL_c (v := 6) (lo := 6) (hi := 6) (by decide)))))) (by decide))), (oh_rgI (p := 0) (q := 10) (rg_w (lo := 0) (hi := 10) (rg_il (rgL_i (rg_il (rnL_leu u_50.2 (rnL_lel u_50.1 (rgL_c (v := 0) (lo := 0) (hi := 0) (by decide)) (rgL_i (rg_any _))) (rgL_c (v := 10) (lo := 10) (hi := 10) (by decide)))))) (by decide))), (oh_rgI (p := 0) (q := 999) (rg_w (lo := 0) (hi := 999) (rg_il (rgL_i (rg_il (rnL_leu u_54.2 (rnL_lel u_54.1 (rgL_c (v := 0) (lo := 0) (hi := 0) (by decide)) (rgL_i (rg_any _))) (rgL_c (v := 999) (lo := 999) (hi := 999) (by decide)))))) (by decide)))⟩) (pif_neg (hw.mp c_74))).symm)⟩⟩, ⟨by rw [ht]; exact hP, hD⟩⟩, hS.F ht⟩) hS.2.2 dX7_frost_150
            · have u_83 := hq_52.2.2 c_53
              refine lv_aload_n hx hb dX7_frost_75 rfl (lv_at hl 1 rfl) ?_
              refine lv_bipush (v := (-2)) hx hb dX7_frost_76 (by decide) ?_
              refine tm_V (As := [.int (-2)]) (rest := []) ⟨hx, hb, hml, hown, htg⟩ (c_X7_refuse l D E G _ a C n hn hT ((-2) : Int32) (rg_w (rg_c (v := (-2)) (lo := (-2)) (hi := (-2)) (by decide)) (by decide))) (cwV 1 htg (oh_gV q_1071 q_1073 q_29 q_73 q_1074) rfl rfl rfl pdVX7_refuse ⟨Nat.le_of_ble_eq_true rfl, Nat.le_of_ble_eq_true rfl⟩) hK hP hD hG hS hA (va_recv hK hP (ci := 7) (q0 := 0) rfl (oh_wg (Nat.lt_of_lt_of_le (by decide) hn) (sM_0 hT))) rfl hl.1 rfl (Nat.le_of_ble_eq_true rfl) dX7_frost_78 ⟨Nat.le_of_ble_eq_true rfl, Nat.le_of_ble_eq_true rfl⟩ (fun r_84 C_85 H locs hq_86 hP hD hS => ?_)
              obtain ⟨hT, f_87, hq_86⟩ := hq_86
              have hF := fr_tr hF f_87 (by decide) (by decide)
              refine W.widen (k := 0) (n := 0) (Nat.le_refl _) (Nat.le_refl _) ?_
              have t_88 := hT
              refine lv_i2l (v := Int32.toInt64 r_84) hx hb dX7_frost_81 (by rfl) ?_
              rw [hQ]
              exact W.lret (v := Int32.toInt64 r_84) hx hb hr (fun t ht hW => ⟨⟨Int32.toInt64 r_84, C_85, rfl, ⟨hT, hF, ⟨⟨hR.1.fr hF (by decide), hR.2.fr hF (by decide)⟩, (congrArg ga (f_87.1 13 rfl (by decide))), (fun A hA hok => Eq.trans (show Int32.toInt64 r_84 = (-2 : Int64) by rw [hq_86]; rfl) (pif_neg (fun h8 => (oh_in64 (l' := 0) (k' := 999) rfl rfl u_83) h8.2.2.2)).symm)⟩⟩, ⟨by rw [ht]; exact hP, hD⟩⟩, hS.F ht⟩) hS.2.2 dX7_frost_82
theorem pdX7_overAll : yX7_overAll.cls ≠ "java/lang/invoke/MethodHandle" ∧ yX7_overAll.cls ≠ "java/lang/invoke/VarHandle" ∧ (parseMethodDescriptor yX7_overAll.desc).map (fun d => d.parameters.length) = some 2 := by decide +kernel
