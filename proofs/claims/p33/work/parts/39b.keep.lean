theorem shf_0 {α : Type} (f : Nat → α) : shf 0 f = f := by
  funext k
  unfold shf
  rw [Nat.zero_add]
/-- what takeFrom leaves, as a frame: this is the first model -/
theorem tk_fr {C u : Nat → va_E} (h2 : ∀ k, k < 74 → u (74 + k) = C (74 + k)) (h3 : ∀ k, k ≠ 0 → k < 24 → k ≠ 13 → k ≠ 14 → u (0 + k) = C (0 + k)) (h4 : ∀ i, i ∉ [9, 11, 13, 15, 19] → gv (u (0 + 0)) i = gv (C (0 + 0)) i) (h8 : ∀ k, 148 ≤ k → u k = C k) : fr [(13, 14), (14, 15), (24, 74)] [9, 11, 13, 15, 19] C u := by
  refine ⟨fun k hk h0 => ?_, fun i hi => h4 i hi⟩
  have a1 : k ≠ 13 := by intro e; subst e; exact absurd hk (by decide)
  have a2 : k ≠ 14 := by intro e; subst e; exact absurd hk (by decide)
  by_cases l1 : k < 24
  · have := h3 k h0 l1 a1 a2
    rw [Nat.zero_add] at this
    exact this
  · by_cases l2 : k < 74
    · have : inR [(13, 14), (14, 15), (24, 74)] k = true := inR_of (p := (24, 74)) (by decide) (by show 24 ≤ k; omega) (by show k < 74; omega)
      rw [this] at hk
      cases hk
    · by_cases l3 : k < 148
      · have := h2 (k - 74) (by omega)
        rw [show 74 + (k - 74) = k by omega] at this
        exact this
      · exact h8 k (by omega)
theorem relW_cp {S u : Nat → va_E} (h : RelW S) (e13 : gi (u 0) 13 = gi (S 0) 13) (ew : ∀ w, w < 5 → ∀ q, q < 3 → ga (u (64 + w)) q = ga (S (64 + w)) q) (eu : ∀ q, q < 7 → ga (u 14) q = ga (S 14) q) : RelW u := by
  refine ⟨fun w hw hl => ?_, fun h9 => ?_⟩
  · rw [e13] at hl
    rw [ew w hw 0 (by omega), ew w hw 1 (by omega)]
    exact h.1 w hw hl
  · rw [eu 0 (by omega)] at h9
    rw [eu 1 (by omega), e13]
    exact h.2 h9
theorem oh_relS0 {C C2 : Nat → va_E} {i : Int32} (h : RelS C) (e1 : ga (C2 1) = upd (ga (C 1)) i.toNatClampNeg 0) (e6 : C2 6 = C 6) : RelS C2 := by
  intro s hs c
  rw [e1] at c
  by_cases hq : s = i.toNatClampNeg
  · rw [hq, pk_us] at c
    exact absurd c (by decide)
  · rw [pk_un hq] at c
    rw [e6]
    exact h s hs c

set_option maxHeartbeats 4000000 in
set_option maxRecDepth 100000 in
theorem c_X7_back_n (l : Launch) (D : va_G) (E : Nat → ClassId) (G : Nat → Nat) (sz : Nat) (a : Nat → Nat) (C : Nat → va_E) (n : Nat) (hn : 74 ≤ n) (hT : TyM a E C) (hR : RelM C) (hkn : gv (C 0) 20 = .null) : Met l yX7_back (oh_w yX7_back cX7_back 2 (some .int)) ({ frames := 1, cells := 0, slots := 0, locals := 21 }) (oh_Pm D E G [.ref (a 0)] (oh_W n a C) sz) (va_Qi (fun r (u : Nat → va_E) => TyM a E u ∧ fr [(8, 9)] [] C u ∧ (RelM u) ∧ r = (-5)) (oh_B D (va_A (oh_W n a C) sz) (fun u => oh_W n a u)) (va_A (oh_W n a C) sz)) 0 0 (va_A (oh_W n a C) sz) := by
  refine Met.ofW (cc := cX7_back) (maxL := 2) (ret := (some .int)) (by decide) rfl ?_
  intro p e s m args below meth c s₁ B hml hv
  obtain ⟨rfl, hsz, hP, hK, hD0, hG⟩ := hv
  have hx := B.exec
  have hb := B.bytes
  have hr := B.returns
  have hts := atoms_spec (ws := (oh_w yX7_back cX7_back 2 (some .int))) B.pre
  have htg : ∀ w ∈ oh_t, w.before _ s = true := fun w h => hts w (List.mem_cons_of_mem _ h)
  have hown : s.vm.findClass RX7 = some m.cls := findClass_of_methodNamed B.named
  have hlocks := B.notSynchronized
  have hT0 := hT
  subst hsz
  have hD := hD0.self (sz := s.heap.size)
  generalize hAe : va_A (oh_W n a C) s.heap.size = A at hD hG ⊢
  have hA : ∀ q : Nat, s.heap.size ≤ q → A q := fun q h => by rw [← hAe]; exact Or.inr h
  have hS : va_S A s.heap s.heap [] := va_S.rf
  have hF : fr [(8, 9)] [] C C := fr_rf
  have hl := lv_entry ([.ref (a 0)]) (n := 2) (Nat.le_of_ble_eq_true rfl)
  rw [lg_entry_eq]
  generalize (lg_sl ([.ref (a 0)]) ++ List.replicate (2 - (lg_sl ([.ref (a 0)])).length) Slot.unset).toArray = ls at hl ⊢
  have hl : lv_has ls 2 [(0, .ref (a 0))] := hl
  refine oh_genQ (fun Q hQ => ?_)
  refine lv_aload_n hx hb dX7_back_0 rfl (lv_at hl 0 rfl) ?_
  refine va_get (D := D) (ci := 7) (v := .null) (C := RX7) (T := TX7) (N := 29) hx hb htg ig_7 hown hK hP 0 (oh_wg (Nat.lt_of_lt_of_le (by decide) hn) (sM_0 hT)) rfl 20 (by decide) (htg _ q_993) (fun _ h9 => h9) (congrArg some hkn) dX7_back_1 ?_
  refine lv_ifnonnullN hx hb dX7_back_4 ?_
  refine lv_aload_n hx hb dX7_back_7 rfl (lv_at hl 0 rfl) ?_
  refine lv_bipush (v := (-5)) hx hb dX7_back_8 (by decide) ?_
  refine tm_V (As := [.int (-5)]) (rest := []) ⟨hx, hb, hml, hown, htg⟩ (c_X7_refuse l D E G _ a C n hn hT ((-5) : Int32) (rg_w (rg_c (v := (-5)) (lo := (-5)) (hi := (-5)) (by decide)) (by decide))) (cwV 1 htg (oh_gV q_1071 q_1073 q_29 q_73 q_1074) rfl rfl rfl pdVX7_refuse ⟨Nat.le_of_ble_eq_true rfl, Nat.le_of_ble_eq_true rfl⟩) hK hP hD hG hS hA (va_recv hK hP (ci := 7) (q0 := 0) rfl (oh_wg (Nat.lt_of_lt_of_le (by decide) hn) (sM_0 hT))) rfl hl.1 rfl (Nat.le_of_ble_eq_true rfl) dX7_back_10 ⟨Nat.le_of_ble_eq_true rfl, Nat.le_of_ble_eq_true rfl⟩ (fun r_1 C_2 H locs hq_3 hP hD hS => ?_)
  obtain ⟨hT, f_4, hq_3⟩ := hq_3
  have hF := fr_tr hF f_4 (by decide) (by decide)
  refine W.widen (k := 0) (n := 0) (Nat.le_refl _) (Nat.le_refl _) ?_
  have t_5 := hT
  rw [hQ]
  exact W.iret (v := r_1) hx hb hr (fun t ht hW => ⟨⟨r_1, C_2, rfl, ⟨hT, hF, ⟨⟨hR.1.fr hF (by decide), hR.2.fr hF (by decide)⟩, hq_3⟩⟩, ⟨by rw [ht]; exact hP, hD⟩⟩, hS.F ht⟩) hS.2.2 dX7_back_13

set_option maxHeartbeats 4000000 in
set_option maxRecDepth 100000 in
theorem c_X7_back_k (l : Launch) (D : va_G) (E : Nat → ClassId) (G : Nat → Nat) (sz : Nat) (a : Nat → Nat) (C : Nat → va_E) (n : Nat) (hn : 74 ≤ n) (hT : TyM a E C) (hR : RelM C) (hkr : gv (C 0) 20 = .ref (a 74)) (hn2 : 148 ≤ n) (hTk : TyM (shf 74 a) E (shf 74 C)) (hRk : RelW (shf 74 C)) : Met l yX7_back (oh_w yX7_back cX7_back 2 (some .int)) ({ frames := 3, cells := 0, slots := 0, locals := 65 }) (oh_Pm D E G [.ref (a 0)] (oh_W n a C) sz) (va_Qi (fun r (u : Nat → va_E) => TyM a E u ∧ fr [(1, 2), (13, 14), (14, 15), (24, 74)] [9, 11, 13, 15, 19] C u ∧ (RelM u) ∧ r = 1 ∧ (∀ A : LA, absM (shf 74 C) A → ∀ S : HZ, absHM C S → absHM u (spDr S (A 5 0 1) 8)) ∧ (∀ A : LA, absM (shf 74 C) A → absM u A) ∧ (∀ T : TP, absTM (shf 74 C) T → absTM u T)) (oh_B D (va_A (oh_W n a C) sz) (fun u => oh_W n a u)) (va_A (oh_W n a C) sz)) 0 0 (va_A (oh_W n a C) sz) := by
  refine Met.ofW (cc := cX7_back) (maxL := 2) (ret := (some .int)) (by decide) rfl ?_
  intro p e s m args below meth c s₁ B hml hv
  obtain ⟨rfl, hsz, hP, hK, hD0, hG⟩ := hv
  have hx := B.exec
  have hb := B.bytes
  have hr := B.returns
  have hts := atoms_spec (ws := (oh_w yX7_back cX7_back 2 (some .int))) B.pre
  have htg : ∀ w ∈ oh_t, w.before _ s = true := fun w h => hts w (List.mem_cons_of_mem _ h)
  have hown : s.vm.findClass RX7 = some m.cls := findClass_of_methodNamed B.named
  have hlocks := B.notSynchronized
  have hT0 := hT
  subst hsz
  have hD := hD0.self (sz := s.heap.size)
  generalize hAe : va_A (oh_W n a C) s.heap.size = A at hD hG ⊢
  have hA : ∀ q : Nat, s.heap.size ≤ q → A q := fun q h => by rw [← hAe]; exact Or.inr h
  have hS : va_S A s.heap s.heap [] := va_S.rf
  have hF : fr [(1, 2), (13, 14), (14, 15), (24, 74)] [9, 11, 13, 15, 19] C C := fr_rf
  have hl := lv_entry ([.ref (a 0)]) (n := 2) (Nat.le_of_ble_eq_true rfl)
  rw [lg_entry_eq]
  generalize (lg_sl ([.ref (a 0)]) ++ List.replicate (2 - (lg_sl ([.ref (a 0)])).length) Slot.unset).toArray = ls at hl ⊢
  have hl : lv_has ls 2 [(0, .ref (a 0))] := hl
  refine oh_genQ (fun Q hQ => ?_)
  refine lv_aload_n hx hb dX7_back_0 rfl (lv_at hl 0 rfl) ?_
  refine va_get (D := D) (ci := 7) (v := .ref (a (74 + 0))) (C := RX7) (T := TX7) (N := 29) hx hb htg ig_7 hown hK hP 0 (oh_wg (Nat.lt_of_lt_of_le (by decide) hn) (sM_0 hT)) rfl 20 (by decide) (htg _ q_993) (fun _ h9 => h9) (congrArg some hkr) dX7_back_1 ?_
  refine lv_ifnonnull (tgt := 14) hx hb dX7_back_4 (by decide) ?_
  refine lv_aload_n hx hb dX7_back_14 rfl (lv_at hl 0 rfl) ?_
  refine lv_aload_n hx hb dX7_back_15 rfl (lv_at hl 0 rfl) ?_
  refine va_get (D := D) (ci := 7) (v := .ref (a (74 + 0))) (C := RX7) (T := TX7) (N := 29) hx hb htg ig_7 hown hK hP 0 (oh_wg (Nat.lt_of_lt_of_le (by decide) hn) (sM_0 hT)) rfl 20 (by decide) (htg _ q_993) (fun _ h9 => h9) (congrArg some hkr) dX7_back_16 ?_
  have hT1s : TyM (shf 0 a) E (shf 0 C) := by rw [shf_0, shf_0]; exact hT
  refine tm_Vv (b := a (0 + 0)) (As := [.ref (a (74 + 0))]) (rest := []) ⟨hx, hb, hml, hown, htg⟩ (c_X7_takeFrom l D E G _ n a C 0 74 (Or.inl ⟨rfl, rfl⟩) hn2 hT1s hTk) (cwV 1 htg (oh_gV q_1427 q_1429 q_64 q_73 q_1430) rfl rfl rfl pdVX7_takeFrom ⟨Nat.le_of_ble_eq_true rfl, Nat.le_of_ble_eq_true rfl⟩) hK hP hD hG hS hA (va_recv hK hP (ci := 7) (q0 := 0) rfl (oh_wg (by omega) (sM_0 hT))) rfl hl.1 rfl (Nat.le_of_ble_eq_true rfl) dX7_back_19 ⟨Nat.le_of_ble_eq_true rfl, Nat.le_of_ble_eq_true rfl⟩ (fun C_1 H locs hq hP hD hS => ?_)
  obtain ⟨hT, k2, k3, k4, k5, k6, k7, k8, k9⟩ := hq
  rw [shf_0, shf_0] at hT
  have k9b : ∀ A : LA, absM (shf 74 C) A → absM C_1 A := fun A hA => by have h := k9.1 A hA; rw [shf_0] at h; exact h
  have k9t : ∀ T : TP, absTM (shf 74 C) T → absTM C_1 T := fun T hT => by have h := k9.2 T hT; rw [shf_0] at h; exact h
  have f_2 : fr [(13, 14), (14, 15), (24, 74)] [9, 11, 13, 15, 19] C C_1 := tk_fr k2 k3 k4 k8
  have hF := fr_tr hF f_2 (by decide) (by decide)
  have hRw : RelW C_1 := relW_cp hRk k5 (fun w hw q hq => by have := k6 w hw q hq; rw [Nat.zero_add] at this; exact this) (fun q hq => by have := k7 q hq; rw [Nat.zero_add] at this; exact this)
  have hRs : RelS C_1 := hR.2.fr f_2 (by decide)
  refine W.widen (k := 0) (n := 0) (Nat.le_refl _) (Nat.le_refl _) ?_
  have t_3 := hT
  refine lv_iconst (v := 0) hx hb dX7_back_22 (by decide) ?_
  refine lv_istore_n (lv' := [(1, .int 0), (0, .ref (a 0))]) hx hb dX7_back_23 rfl hl (by decide) rfl (fun ls hl => ?_)
  have L_24 : ∀ (d : Nat) (K24 : Nat → va_E) (z24_1 : Int32) (H : Heap) (locs : List Loc) (ls : Array Slot), (8 - z24_1.toInt).toNat = d → rg z24_1 0 8 → (RelS K24) → (∀ A : LA, absM (shf 74 C) A → ∀ S : HZ, absHM C S → absHM K24 (spDr S (A 5 0 1) z24_1.toNatClampNeg)) → TyM a E K24 → fr [(1, 2), (13, 14), (14, 15), (24, 74)] [9, 11, 13, 15, 19] C K24 → fr [(1, 2)] [] C_1 K24 → va_P D vwCl (oh_W n a K24) H → va_D A (oh_W n a K24) → va_S A s.heap H locs → lv_has ls 2 [(1, .int z24_1), (0, .ref (a 0))] → W p l e ({ frames := 3, cells := 0, slots := 0, locals := 65 }) s m (([.ref (a 0)] : List Value).toArray) below meth c H locs 0 0 Q (F0 m 24 ls []) := by
    intro d
    induction d using Nat.strongRecOn with
    | ind d ih_24 =>
    intro K24 z24_1 H locs ls hd_24 hz24_1 hr_24 hx_24 hT hF hLF_24 hP hD hS hl
    have t_4 := hT
    refine lv_iload_n hx hb dX7_back_24 rfl (lv_at hl 0 rfl) ?_
    refine lv_bipush (v := 8) hx hb dX7_back_25 (by decide) ?_
    refine lv_icmp_ge (tgt := 66) hx hb dX7_back_27 (by decide) (fun (c_5 : (8 : Int32) ≤ z24_1) => ?_) (fun (c_5 : ¬ ((8 : Int32) ≤ z24_1)) => ?_)
    · refine lv_iconst (v := 1) hx hb dX7_back_66 (by decide) ?_
      rw [hQ]
      exact W.iret (v := 1) hx hb hr (fun t ht hW => ⟨⟨1, K24, rfl, ⟨hT, hF, ⟨⟨RelW.fr hRw hLF_24 (by decide), hr_24⟩, (by decide), (fun A hA S hS0 => by have h7 := hx_24 A hA S hS0; rw [oh_zeq (k := 8) hz24_1 c_5 (by decide)] at h7; exact h7), (fun A hA => absM_fr (k9b A hA) t_3 (show fr [(1, 2)] [] C_1 K24 from (fr_tr fr_rf hLF_24 (by decide) (by decide))) (by decide) (by decide) (by decide)), (fun T hT => absTM_eq (k9t T hT) (hLF_24.1 14 rfl (by decide)) (congrArg vi ((show fr [(1, 2)] [] C_1 K24 from (fr_tr fr_rf hLF_24 (by decide) (by decide))).2 19 (by decide))))⟩⟩, ⟨by rw [ht]; exact hP, hD⟩⟩, hS.F ht⟩) hS.2.2 dX7_back_67
    · refine lv_aload_n hx hb dX7_back_30 rfl (lv_at hl 1 rfl) ?_
      refine va_get (D := D) (ci := 7) (v := .ref (a 1)) (C := RX7) (T := TX7) (N := 29) hx hb htg ig_7 hown hK hP 0 (oh_wg (Nat.lt_of_lt_of_le (by decide) hn) (sM_0 hT)) rfl 0 (by decide) (htg _ q_973) (fun _ h9 => h9) rfl dX7_back_31 ?_
      refine lv_iload_n hx hb dX7_back_34 rfl (lv_at hl 0 rfl) ?_
      have n_6 : vp_in z24_1 8 := (rg_in (rn_ltu (u' := 7) (Int32.not_le.mp c_5) hz24_1 (rg_c (v := 8) (lo := 8) (hi := 8) (by decide)) (by decide)) (by decide))
      refine th_iald hx hb hK hP 1 (Nat.lt_of_lt_of_le (by decide) hn) (sM_1 hT) n_6 dX7_back_35 ?_
      refine lv_iconst (v := 2) hx hb dX7_back_36 (by decide) ?_
      refine lv_icmp_ne (tgt := 60) hx hb dX7_back_37 (by decide) (fun (c_7 : ¬ ((ga (K24 1) (z24_1).toNatClampNeg) = 2)) => ?_) (fun (c_7 : (ga (K24 1) (z24_1).toNatClampNeg) = 2) => ?_)
      · refine lv_iinc (v := z24_1 + 1) (lv' := [(1, .int (z24_1 + 1)), (0, .ref (a 0))]) hx hb dX7_back_60 hl (k := 0) rfl (by rfl) (by decide) rfl (fun ls hl => ?_)
        refine lv_goto (tgt := 24) hx hb dX7_back_63 (by decide) ?_
        exact ih_24 _ (hd_24 ▸ mu_up 8 (rn_ltu (u' := 7) (Int32.not_le.mp c_5) hz24_1 (rg_c (v := 8) (lo := 8) (hi := 8) (by decide)) (by decide)) (by decide)) K24 (z24_1 + 1) _ _ ls rfl (rg_w (rg_add (lo := 1) (hi := 8) (rn_ltu (u' := 7) (Int32.not_le.mp c_5) hz24_1 (rg_c (v := 8) (lo := 8) (hi := 8) (by decide)) (by decide)) (rg_c (v := 1) (lo := 1) (hi := 1) (by decide)) (by decide)) (by decide)) hr_24 (fun A hA S hS0 => by have eA : gi (C_1 0) 11 = A 5 0 1 := (k9b A hA).1 1 (by decide); have hn := rg_w (lo := 0) (hi := 24) (fM_0_11 t_3) (by decide); rw [eA] at hn; exact drm_n (hx_24 A hA S hS0) hn (rg_w (lo := 0) (hi := 7) (rn_ltu (u' := 7) (Int32.not_le.mp c_5) hz24_1 (rg_c (v := 8) (lo := 8) (hi := 8) (by decide)) (by decide)) (by decide)) (Or.inl c_7)) hT hF hLF_24 hP hD hS (lv_sub hl [0, 1] rfl)
      · refine lv_aload_n hx hb dX7_back_40 rfl (lv_at hl 1 rfl) ?_
        refine va_get (D := D) (ci := 7) (v := .ref (a 6)) (C := RX7) (T := TX7) (N := 29) hx hb htg ig_7 hown hK hP 0 (oh_wg (Nat.lt_of_lt_of_le (by decide) hn) (sM_0 hT)) rfl 5 (by decide) (htg _ q_978) (fun _ h9 => h9) rfl dX7_back_41 ?_
        refine lv_iload_n hx hb dX7_back_44 rfl (lv_at hl 0 rfl) ?_
        have n_8 : vp_in z24_1 8 := (rg_in (rn_ltu (u' := 7) (Int32.not_le.mp c_5) hz24_1 (rg_c (v := 8) (lo := 8) (hi := 8) (by decide)) (by decide)) (by decide))
        refine th_iald hx hb hK hP 6 (Nat.lt_of_lt_of_le (by decide) hn) (Eq.trans (Eq.trans (hLF_24.1 6 rfl (by decide)) (f_2.1 6 rfl (by decide))) (sM_6 hT0)) n_8 dX7_back_45 ?_
        refine lv_aload_n hx hb dX7_back_46 rfl (lv_at hl 1 rfl) ?_
        refine va_get (D := D) (ci := 7) (v := .int (gi (C_1 0) 11)) (C := RX7) (T := TX7) (N := 29) hx hb htg ig_7 hown hK hP 0 (oh_wg (Nat.lt_of_lt_of_le (by decide) hn) (sM_0 hT)) rfl 11 (by decide) (htg _ q_984) (fun _ h9 => h9) (oh_fv (c := K24 0) (j := 11) rfl (congrArg vi (hLF_24.2 11 (by decide)))) dX7_back_47 ?_
        refine lv_icmp_lt (tgt := 60) hx hb dX7_back_50 (by decide) (fun (c_9 : (ga (C 6) (z24_1).toNatClampNeg) < (gi (C_1 0) 11)) => ?_) (fun (c_9 : ¬ ((ga (C 6) (z24_1).toNatClampNeg) < (gi (C_1 0) 11))) => ?_)
        · refine lv_iinc (v := z24_1 + 1) (lv' := [(1, .int (z24_1 + 1)), (0, .ref (a 0))]) hx hb dX7_back_60 hl (k := 0) rfl (by rfl) (by decide) rfl (fun ls hl => ?_)
          refine lv_goto (tgt := 24) hx hb dX7_back_63 (by decide) ?_
          exact ih_24 _ (hd_24 ▸ mu_up 8 (rn_ltu (u' := 7) (Int32.not_le.mp c_5) hz24_1 (rg_c (v := 8) (lo := 8) (hi := 8) (by decide)) (by decide)) (by decide)) K24 (z24_1 + 1) _ _ ls rfl (rg_w (rg_add (lo := 1) (hi := 8) (rn_ltu (u' := 7) (Int32.not_le.mp c_5) hz24_1 (rg_c (v := 8) (lo := 8) (hi := 8) (by decide)) (by decide)) (rg_c (v := 1) (lo := 1) (hi := 1) (by decide)) (by decide)) (by decide)) hr_24 (fun A hA S hS0 => by have eA : gi (C_1 0) 11 = A 5 0 1 := (k9b A hA).1 1 (by decide); have hn := rg_w (lo := 0) (hi := 24) (fM_0_11 t_3) (by decide); rw [eA] at hn; exact drm_n (hx_24 A hA S hS0) hn (rg_w (lo := 0) (hi := 7) (rn_ltu (u' := 7) (Int32.not_le.mp c_5) hz24_1 (rg_c (v := 8) (lo := 8) (hi := 8) (by decide)) (by decide)) (by decide)) (Or.inr (by rw [(Eq.trans (hLF_24.1 6 rfl (by decide)) (f_2.1 6 rfl (by decide))), ← eA]; exact c_9))) hT hF hLF_24 hP hD hS (lv_sub hl [0, 1] rfl)
        · refine lv_aload_n hx hb dX7_back_53 rfl (lv_at hl 1 rfl) ?_
          refine va_get (D := D) (ci := 7) (v := .ref (a 1)) (C := RX7) (T := TX7) (N := 29) hx hb htg ig_7 hown hK hP 0 (oh_wg (Nat.lt_of_lt_of_le (by decide) hn) (sM_0 hT)) rfl 0 (by decide) (htg _ q_973) (fun _ h9 => h9) rfl dX7_back_54 ?_
          refine lv_iload_n hx hb dX7_back_57 rfl (lv_at hl 0 rfl) ?_
          refine lv_iconst (v := 0) hx hb dX7_back_58 (by decide) ?_
          have n_10 : vp_in z24_1 8 := (rg_in (rn_ltu (u' := 7) (Int32.not_le.mp c_5) hz24_1 (rg_c (v := 8) (lo := 8) (hi := 8) (by decide)) (by decide)) (by decide))
          refine th_iast (T := TyM a E) (Rl := fr [(1, 2), (13, 14), (14, 15), (24, 74)] [9, 11, 13, 15, 19] C) hx hb hK hP hD hS 1 (Nat.lt_of_lt_of_le (by decide) hn) (sM_1 hT) n_10 (hT.up 1 (by decide) (tA_upd (tM_1 hT) (tA_stc (Nat.mod_one _) (rg_c (v := 0) (lo := 0) (hi := 0) (by decide)) (by decide)))) (fr_st hF (by decide) (by decide)) dX7_back_59 (fun C_11 H locs e_12 hT hF hP hD hS => ?_)
          have t_13 := hT
          refine lv_iinc (v := z24_1 + 1) (lv' := [(1, .int (z24_1 + 1)), (0, .ref (a 0))]) hx hb dX7_back_60 hl (k := 0) rfl (by rfl) (by decide) rfl (fun ls hl => ?_)
          refine lv_goto (tgt := 24) hx hb dX7_back_63 (by decide) ?_
          exact ih_24 _ (hd_24 ▸ mu_up 8 (rn_ltu (u' := 7) (Int32.not_le.mp c_5) hz24_1 (rg_c (v := 8) (lo := 8) (hi := 8) (by decide)) (by decide)) (by decide)) C_11 (z24_1 + 1) _ _ ls rfl (rg_w (rg_add (lo := 1) (hi := 8) (rn_ltu (u' := 7) (Int32.not_le.mp c_5) hz24_1 (rg_c (v := 8) (lo := 8) (hi := 8) (by decide)) (by decide)) (rg_c (v := 1) (lo := 1) (hi := 1) (by decide)) (by decide)) (by decide)) (oh_relS0 (i := z24_1) hr_24 (st_ga e_12) (th_un e_12 (by decide))) (fun A hA S hS0 => by have eA : gi (C_1 0) 11 = A 5 0 1 := (k9b A hA).1 1 (by decide); have hn := rg_w (lo := 0) (hi := 24) (fM_0_11 t_3) (by decide); rw [eA] at hn; exact drm_y (hx_24 A hA S hS0) hn (rg_w (lo := 0) (hi := 7) (rn_ltu (u' := 7) (Int32.not_le.mp c_5) hz24_1 (rg_c (v := 8) (lo := 8) (hi := 8) (by decide)) (by decide)) (by decide)) c_7 (by rw [(Eq.trans (hLF_24.1 6 rfl (by decide)) (f_2.1 6 rfl (by decide))), ← eA]; exact (Int32.not_lt.mp c_9)) (st_ga e_12) (th_un e_12 (by decide)) (th_un e_12 (by decide)) (th_un e_12 (by decide))) hT hF (fr_ste hLF_24 e_12 (by decide) (by decide)) hP hD hS (lv_sub hl [0, 1] rfl)
  exact L_24 _ C_1 0 _ _ ls rfl (rg_w (rg_c (v := 0) (lo := 0) (hi := 0) (by decide)) (by decide)) hRs (fun A hA S hS0 => by rw [show spDr S (A 5 0 1) (0 : Int32).toNatClampNeg = S from dr_0 S _]; exact hm_fr hS0 (f_2.1 1 rfl (by decide)) (f_2.1 2 rfl (by decide)) (f_2.1 3 rfl (by decide)) (f_2.1 6 rfl (by decide))) hT hF fr_rf hP hD hS (lv_sub hl [0, 1] rfl)

theorem relM_congr {C u : Nat → va_E} (h : RelM C) (e : ∀ k, k < 74 → u k = C k) : RelM u := by
  have e0 := e 0 (by decide)
  have e14 := e 14 (by decide)
  have e1 := e 1 (by decide)
  have e6 := e 6 (by decide)
  refine ⟨⟨fun w hw hl => ?_, ?_⟩, ?_⟩
  · rw [e (64 + w) (by omega)]
    rw [e0] at hl
    exact h.1.1 w hw hl
  · rw [e14, e0]
    exact h.1.2
  · intro s hs
    rw [e1, e6]
    exact h.2 s hs
set_option maxHeartbeats 4000000 in
set_option maxRecDepth 100000 in
theorem c_X7_image_k (l : Launch) (D : va_G) (E : Nat → ClassId) (G : Nat → Nat) (sz : Nat) (a : Nat → Nat) (C : Nat → va_E) (n : Nat) (hn2 : 148 ≤ n) (hT : TyM a E C) (hR : RelM C) (hkr : gv (C 0) 20 = .ref (a 74)) (hTk : TyM (shf 74 a) E (shf 74 C)) : Met l yX7_image (oh_w yX7_image cX7_image 1 (some .int)) ({ frames := 3, cells := 0, slots := 0, locals := 65 }) (oh_Pm D E G [.ref (a 0)] (oh_W n a C) sz) (va_Qi (fun r (u : Nat → va_E) => TyM a E u ∧ RelM u ∧ (∀ k, k < 74 → u k = C k) ∧ TyM (shf 74 a) E (shf 74 u) ∧ RelW (shf 74 u) ∧ (∀ A : LA, absM C A → absM (shf 74 u) A) ∧ (∀ T : TP, absTM C T → absTM (shf 74 u) T) ∧ r = 1) (oh_B D (va_A (oh_W n a C) sz) (fun u => oh_W n a u)) (va_A (oh_W n a C) sz)) 0 0 (va_A (oh_W n a C) sz) := by
  refine Met.ofW (cc := cX7_image) (maxL := 1) (ret := (some .int)) (by decide) rfl ?_
  intro p e s m args below meth c s₁ B hml hv
  obtain ⟨rfl, hsz, hP, hK, hD0, hG⟩ := hv
  have hx := B.exec
  have hb := B.bytes
  have hr := B.returns
  have hts := atoms_spec (ws := (oh_w yX7_image cX7_image 1 (some .int))) B.pre
  have htg : ∀ w ∈ oh_t, w.before _ s = true := fun w h => hts w (List.mem_cons_of_mem _ h)
  have hown : s.vm.findClass RX7 = some m.cls := findClass_of_methodNamed B.named
  have hlocks := B.notSynchronized
  subst hsz
  have hD := hD0.self (sz := s.heap.size)
  generalize hAe : va_A (oh_W n a C) s.heap.size = A at hD hG ⊢
  have hA : ∀ q : Nat, s.heap.size ≤ q → A q := fun q h => by rw [← hAe]; exact Or.inr h
  have hS : va_S A s.heap s.heap [] := va_S.rf
  have hl := lv_entry ([.ref (a 0)]) (n := 1) (Nat.le_of_ble_eq_true rfl)
  rw [lg_entry_eq]
  generalize (lg_sl ([.ref (a 0)]) ++ List.replicate (1 - (lg_sl ([.ref (a 0)])).length) Slot.unset).toArray = ls at hl ⊢
  have hl : lv_has ls 1 [(0, .ref (a 0))] := hl
  refine lv_aload_n hx hb dX7_image_0 rfl (lv_at hl 0 rfl) ?_
  refine va_get (D := D) (ci := 7) (v := .ref (a (74 + 0))) (C := RX7) (T := TX7) (N := 29) hx hb htg ig_7 hown hK hP 0 (oh_wg (by omega) (sM_0 hT)) rfl 20 (by decide) (htg _ q_993) (fun _ h9 => h9) (congrArg some hkr) dX7_image_1 ?_
  refine lv_ifnonnull (tgt := 18) hx hb dX7_image_4 (by decide) ?_
  refine lv_aload_n hx hb dX7_image_18 rfl (lv_at hl 0 rfl) ?_
  refine va_get (D := D) (ci := 7) (v := .ref (a (74 + 0))) (C := RX7) (T := TX7) (N := 29) hx hb htg ig_7 hown hK hP 0 (oh_wg (by omega) (sM_0 hT)) rfl 20 (by decide) (htg _ q_993) (fun _ h9 => h9) (congrArg some hkr) dX7_image_19 ?_
  refine lv_aload_n hx hb dX7_image_22 rfl (lv_at hl 0 rfl) ?_
  have hT1s : TyM (shf 0 a) E (shf 0 C) := by rw [shf_0, shf_0]; exact hT
  refine tm_Vv (b := a (74 + 0)) (As := [.ref (a (0 + 0))]) (rest := []) ⟨hx, hb, hml, hown, htg⟩ (c_X7_takeFrom l D E G _ n a C 74 0 (Or.inr ⟨rfl, rfl⟩) hn2 hTk hT1s) (cwV 1 htg (oh_gV q_1427 q_1429 q_64 q_73 q_1430) rfl rfl rfl pdVX7_takeFrom ⟨Nat.le_of_ble_eq_true rfl, Nat.le_of_ble_eq_true rfl⟩) hK hP hD hG hS hA (va_recv hK hP (ci := 7) (q0 := 74 + 0) rfl (oh_wg (by omega) (show C (74 + 0) = _ from sM_0 hTk))) rfl hl.1 rfl (Nat.le_of_ble_eq_true rfl) dX7_image_23 ⟨Nat.le_of_ble_eq_true rfl, Nat.le_of_ble_eq_true rfl⟩ (fun u H locs hq hP hD hS => ?_)
  obtain ⟨k1, k2, k3, k4, k5, k6, k7, k8, k9⟩ := hq
  have k9b : ∀ A : LA, absM C A → absM (shf 74 u) A := fun A hA => k9.1 A (by rw [shf_0]; exact hA)
  have k9t : ∀ T : TP, absTM C T → absTM (shf 74 u) T := fun T hT => k9.2 T (by rw [shf_0]; exact hT)
  have hcc : ∀ k, k < 74 → u k = C k := fun k hk => by have := k2 k hk; rw [Nat.zero_add] at this; exact this
  have hRw : RelW (shf 74 u) := relW_cp hR.1 k5 (fun w hw q hq => by have := k6 w hw q hq; rw [Nat.zero_add] at this; exact this) (fun q hq => by have := k7 q hq; rw [Nat.zero_add] at this; exact this)
  refine W.widen (k := 0) (n := 0) (Nat.le_refl _) (Nat.le_refl _) ?_
  refine lv_iconst (v := 1) hx hb dX7_image_26 (by decide) ?_
  exact W.iret (v := 1) hx hb hr (fun t ht hW => ⟨⟨1, u, rfl, ⟨hT.congr hcc, relM_congr hR hcc, hcc, k1, hRw, k9b, k9t, rfl⟩, ⟨by rw [ht]; exact hP, hD⟩⟩, hS.F ht⟩) hS.2.2 dX7_image_27
