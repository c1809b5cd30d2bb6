theorem shf_0 {α : Type} (f : Nat → α) : shf 0 f = f := by
  funext k
  unfold shf
  rw [Nat.zero_add]
/-- what takeFrom leaves, as a frame: this is the first model -/
theorem tk_fr {C u : Nat → va_E} (h2 : ∀ k, k < 74 → u (74 + k) = C (74 + k)) (h3 : ∀ k, k ≠ 0 → k < 24 → k ≠ 13 → k ≠ 14 → u (0 + k) = C (0 + k)) (h4 : ∀ i, i ∉ [9, 11, 13, 15, 19] → gv (u (0 + 0)) i = gv (C (0 + 0)) i) (h8 : ∀ k, 148 ≤ k → u k = C k) : fr [(13, 14), (14, 15), (24, 74)] [9, 11, 13, 15, 19] C u := by
  refine ⟨fun k hk h0 => ?_, fun i hi => h4 i hi⟩
  have a1 : k ≠ 13 := by intro e; subst e; exact absurd hk (by decide)
  have a2 : k ≠ 14 := by intro e; subst e; exact absurd hk (by decide)
  by_cases l1 : k < 24
  · have := h3 k h0 l1 a1 a2
    rw [Nat.zero_add] at this
    exact this
  · by_cases l2 : k < 74
    · have : inR [(13, 14), (14, 15), (24, 74)] k = true := inR_of (p := (24, 74)) (by decide) (by show 24 ≤ k; omega) (by show k < 74; omega)
      rw [this] at hk
      cases hk
    · by_cases l3 : k < 148
      · have := h2 (k - 74) (by omega)
        rw [show 74 + (k - 74) = k by omega] at this
        exact this
      · exact h8 k (by omega)
theorem relW_cp {S u : Nat → va_E} (h : RelW S) (e13 : gi (u 0) 13 = gi (S 0) 13) (ew : ∀ w, w < 5 → ∀ q, q < 3 → ga (u (64 + w)) q = ga (S (64 + w)) q) (eu : ∀ q, q < 7 → ga (u 14) q = ga (S 14) q) : RelW u := by
  refine ⟨fun w hw hl => ?_, fun h9 => ?_⟩
  · rw [e13] at hl
    rw [ew w hw 0 (by omega), ew w hw 1 (by omega)]
    exact h.1 w hw hl
  · rw [eu 0 (by omega)] at h9
    rw [eu 1 (by omega), e13]
    exact h.2 h9
theorem oh_relS0 {C C2 : Nat → va_E} {i : Int32} (h : RelS C) (e1 : ga (C2 1) = upd (ga (C 1)) i.toNatClampNeg 0) (e6 : C2 6 = C 6) : RelS C2 := by
  intro s hs c
  rw [e1] at c
  by_cases hq : s = i.toNatClampNeg
  · rw [hq, pk_us] at c
    exact absurd c (by decide)
  · rw [pk_un hq] at c
    rw [e6]
    exact h s hs c

set_option maxHeartbeats 4000000 in
set_option maxRecDepth 100000 in
theorem c_X7_back_n (l : Launch) (D : va_G) (E : Nat → ClassId) (G : Nat → Nat) (sz : Nat) (a : Nat → Nat) (C : Nat → va_E) (n : Nat) (hn : 74 ≤ n) (hT : TyM a E C) (hR : RelM C) (hkn : gv (C 0) 20 = .null) : Met l yX7_back (oh_w yX7_back cX7_back 2 (some .int)) ({ frames := 1, cells := 0, slots := 0, locals := 21 }) (oh_Pm D E G [.ref (a 0)] (oh_W n a C) sz) (va_Qi (fun r (u : Nat → va_E) => TyM a E u ∧ fr [(8, 9)] [] C u ∧ (RelM u) ∧ r = (-5)) (oh_B D (va_A (oh_W n a C) sz) (fun u => oh_W n a u)) (va_A (oh_W n a C) sz)) 0 0 (va_A (oh_W n a C) sz) := by
  refine Met.ofW (cc := cX7_back) (maxL := 2) (ret := (some .int)) (by decide) rfl ?_
  intro p e s m args below meth c s₁ B hml hv
  obtain ⟨rfl, hsz, hP, hK, hD0, hG⟩ := hv
  have hx := B.exec
  have hb := B.bytes
  have hr := B.returns
  have hts := atoms_spec (ws := (oh_w yX7_back cX7_back 2 (some .int))) B.pre
  have htg : ∀ w ∈ oh_t, w.before _ s = true := fun w h => hts w (List.mem_cons_of_mem _ h)
  have hown : s.vm.findClass RX7 = some m.cls := findClass_of_methodNamed B.named
  have hlocks := B.notSynchronized
  have hT0 := hT
  subst hsz
  have hD := hD0.self (sz := s.heap.size)
  generalize hAe : va_A (oh_W n a C) s.heap.size = A at hD hG ⊢
  have hA : ∀ q : Nat, s.heap.size ≤ q → A q := fun q h => by rw [← hAe]; exact Or.inr h
  have hS : va_S A s.heap s.heap [] := va_S.rf
  have hF : fr [(8, 9)] [] C C := fr_rf
  have hl := lv_entry ([.ref (a 0)]) (n := 2) (Nat.le_of_ble_eq_true rfl)
  rw [lg_entry_eq]
  generalize (lg_sl ([.ref (a 0)]) ++ List.replicate (2 - (lg_sl ([.ref (a 0)])).length) Slot.unset).toArray = ls at hl ⊢
  have hl : lv_has ls 2 [(0, .ref (a 0))] := hl
  refine oh_genQ (fun Q hQ => ?_)
  refine lv_aload_n hx hb dX7_back_0 rfl (lv_at hl 0 rfl) ?_
  refine va_get (D := D) (ci := 7) (v := .null) (C := RX7) (T := TX7) (N := 29) hx hb htg ig_7 hown hK hP 0 (oh_wg (Nat.lt_of_lt_of_le (by decide) hn) (sM_0 hT)) rfl 20 (by decide) (htg _ q_993) (fun _ h9 => h9) (congrArg some hkn) dX7_back_1 ?_
  refine lv_ifnonnullN hx hb dX7_back_4 ?_
  refine lv_aload_n hx hb dX7_back_7 rfl (lv_at hl 0 rfl) ?_
  refine lv_bipush (v := (-5)) hx hb dX7_back_8 (by decide) ?_
  refine tm_V (As := [.int (-5)]) (rest := []) ⟨hx, hb, hml, hown, htg⟩ (c_X7_refuse l D E G _ a C n hn hT ((-5) : Int32) (rg_w (rg_c (v := (-5)) (lo := (-5)) (hi := (-5)) (by decide)) (by decide))) (cwV 1 htg (oh_gV q_1071 q_1073 q_29 q_73 q_1074) rfl rfl rfl pdVX7_refuse ⟨Nat.le_of_ble_eq_true rfl, Nat.le_of_ble_eq_true rfl⟩) hK hP hD hG hS hA (va_recv hK hP (ci := 7) (q0 := 0) rfl (oh_wg (Nat.lt_of_lt_of_le (by decide) hn) (sM_0 hT))) rfl hl.1 rfl (Nat.le_of_ble_eq_true rfl) dX7_back_10 ⟨Nat.le_of_ble_eq_true rfl, Nat.le_of_ble_eq_true rfl⟩ (fun r_1 C_2 H locs hq_3 hP hD hS => ?_)
  obtain ⟨hT, f_4, hq_3⟩ := hq_3
  have hF := fr_tr hF f_4 (by decide) (by decide)
  refine W.widen (k := 0) (n := 0) (Nat.le_refl _) (Nat.le_refl _) ?_
  have t_5 := hT
  rw [hQ]
  exact W.iret (v := r_1) hx hb hr (fun t ht hW => ⟨⟨r_1, C_2, rfl, ⟨hT, hF, ⟨⟨hR.1.fr hF (by decide), hR.2.fr hF (by decide)⟩, hq_3⟩⟩, ⟨by rw [ht]; exact hP, hD⟩⟩, hS.F ht⟩) hS.2.2 dX7_back_13

set_option maxHeartbeats 4000000 in
set_option maxRecDepth 100000 in
theorem c_X7_back_k (l : Launch) (D : va_G) (E : Nat → ClassId) (G : Nat → Nat) (sz : Nat) (a : Nat → Nat) (C : Nat → va_E) (n : Nat) (hn : 74 ≤ n) (hT : TyM a E C) (hR : RelM C) (hkr : gv (C 0) 20 = .ref (a 74)) (hn2 : 148 ≤ n) (hTk : TyM (shf 74 a) E (shf 74 C)) (hRk : RelW (shf 74 C)) : Met l yX7_back (oh_w yX7_back cX7_back 2 (some .int)) ({ frames := 3, cells := 0, slots := 0, locals := 65 }) (oh_Pm D E G [.ref (a 0)] (oh_W n a C) sz) (va_Qi (fun r (u : Nat → va_E) => TyM a E u ∧ fr [(1, 2), (13, 14), (14, 15), (24, 74)] [9, 11, 13, 15, 19] C u ∧ (RelM u) ∧ r = 1 ∧ (∀ A : LA, absM (shf 74 C) A → absM u A) ∧ (∀ T : TP, absTM (shf 74 C) T → absTM u T)) (oh_B D (va_A (oh_W n a C) sz) (fun u => oh_W n a u)) (va_A (oh_W n a C) sz)) 0 0 (va_A (oh_W n a C) sz) := by
  refine Met.ofW (cc := cX7_back) (maxL := 2) (ret := (some .int)) (by decide) rfl ?_
  intro p e s m args below meth c s₁ B hml hv
  obtain ⟨rfl, hsz, hP, hK, hD0, hG⟩ := hv
  have hx := B.exec
  have hb := B.bytes
  have hr := B.returns
  have hts := atoms_spec (ws := (oh_w yX7_back cX7_back 2 (some .int))) B.pre
  have htg : ∀ w ∈ oh_t, w.before _ s = true := fun w h => hts w (List.mem_cons_of_mem _ h)
  have hown : s.vm.findClass RX7 = some m.cls := findClass_of_methodNamed B.named
  have hlocks := B.notSynchronized
  have hT0 := hT
  subst hsz
  have hD := hD0.self (sz := s.heap.size)
  generalize hAe : va_A (oh_W n a C) s.heap.size = A at hD hG ⊢
  have hA : ∀ q : Nat, s.heap.size ≤ q → A q := fun q h => by rw [← hAe]; exact Or.inr h
  have hS : va_S A s.heap s.heap [] := va_S.rf
  have hF : fr [(1, 2), (13, 14), (14, 15), (24, 74)] [9, 11, 13, 15, 19] C C := fr_rf
  have hl := lv_entry ([.ref (a 0)]) (n := 2) (Nat.le_of_ble_eq_true rfl)
  rw [lg_entry_eq]
  generalize (lg_sl ([.ref (a 0)]) ++ List.replicate (2 - (lg_sl ([.ref (a 0)])).length) Slot.unset).toArray = ls at hl ⊢
  have hl : lv_has ls 2 [(0, .ref (a 0))] := hl
  refine oh_genQ (fun Q hQ => ?_)
  refine lv_aload_n hx hb dX7_back_0 rfl (lv_at hl 0 rfl) ?_
  refine va_get (D := D) (ci := 7) (v := .ref (a (74 + 0))) (C := RX7) (T := TX7) (N := 29) hx hb htg ig_7 hown hK hP 0 (oh_wg (Nat.lt_of_lt_of_le (by decide) hn) (sM_0 hT)) rfl 20 (by decide) (htg _ q_993) (fun _ h9 => h9) (congrArg some hkr) dX7_back_1 ?_
  refine lv_ifnonnull (tgt := 14) hx hb dX7_back_4 (by decide) ?_
  refine lv_aload_n hx hb dX7_back_14 rfl (lv_at hl 0 rfl) ?_
  refine lv_aload_n hx hb dX7_back_15 rfl (lv_at hl 0 rfl) ?_
  refine va_get (D := D) (ci := 7) (v := .ref (a (74 + 0))) (C := RX7) (T := TX7) (N := 29) hx hb htg ig_7 hown hK hP 0 (oh_wg (Nat.lt_of_lt_of_le (by decide) hn) (sM_0 hT)) rfl 20 (by decide) (htg _ q_993) (fun _ h9 => h9) (congrArg some hkr) dX7_back_16 ?_
  have hT1s : TyM (shf 0 a) E (shf 0 C) := by rw [shf_0, shf_0]; exact hT
  refine tm_Vv (b := a (0 + 0)) (As := [.ref (a (74 + 0))]) (rest := []) ⟨hx, hb, hml, hown, htg⟩ (c_X7_takeFrom l D E G _ n a C 0 74 (Or.inl ⟨rfl, rfl⟩) hn2 hT1s hTk) (cwV 1 htg (oh_gV q_1427 q_1429 q_64 q_73 q_1430) rfl rfl rfl pdVX7_takeFrom ⟨Nat.le_of_ble_eq_true rfl, Nat.le_of_ble_eq_true rfl⟩) hK hP hD hG hS hA (va_recv hK hP (ci := 7) (q0 := 0) rfl (oh_wg (by omega) (sM_0 hT))) rfl hl.1 rfl (Nat.le_of_ble_eq_true rfl) dX7_back_19 ⟨Nat.le_of_ble_eq_true rfl, Nat.le_of_ble_eq_true rfl⟩ (fun C_1 H locs hq hP hD hS => ?_)
  obtain ⟨hT, k2, k3, k4, k5, k6, k7, k8, k9⟩ := hq
  rw [shf_0, shf_0] at hT
  have k9b : ∀ A : LA, absM (shf 74 C) A → absM C_1 A := fun A hA => by have h := k9.1 A hA; rw [shf_0] at h; exact h
  have k9t : ∀ T : TP, absTM (shf 74 C) T → absTM C_1 T := fun T hT => by have h := k9.2 T hT; rw [shf_0] at h; exact h
  have f_2 : fr [(13, 14), (14, 15), (24, 74)] [9, 11, 13, 15, 19] C C_1 := tk_fr k2 k3 k4 k8
  have hF := fr_tr hF f_2 (by decide) (by decide)
  have hRw : RelW C_1 := relW_cp hRk k5 (fun w hw q hq => by have := k6 w hw q hq; rw [Nat.zero_add] at this; exact this) (fun q hq => by have := k7 q hq; rw [Nat.zero_add] at this; exact this)
  have hRs : RelS C_1 := hR.2.fr f_2 (by decide)
  refine W.widen (k := 0) (n := 0) (Nat.le_refl _) (Nat.le_refl _) ?_
  have t_3 := hT
  refine lv_iconst (v := 0) hx hb dX7_back_22 (by decide) ?_
  refine lv_istore_n (lv' := [(1, .int 0), (0, .ref (a 0))]) hx hb dX7_back_23 rfl hl (by decide) rfl (fun ls hl => ?_)
  have L_24 : ∀ (d : Nat) (K24 : Nat → va_E) (z24_1 : Int32) (H : Heap) (locs : List Loc) (ls : Array Slot), (8 - z24_1.toInt).toNat = d → rg z24_1 0 8 → (RelS K24) → TyM a E K24 → fr [(1, 2), (13, 14), (14, 15), (24, 74)] [9, 11, 13, 15, 19] C K24 → fr [(1, 2)] [] C_1 K24 → va_P D vwCl (oh_W n a K24) H → va_D A (oh_W n a K24) → va_S A s.heap H locs → lv_has ls 2 [(1, .int z24_1), (0, .ref (a 0))] → W p l e ({ frames := 3, cells := 0, slots := 0, locals := 65 }) s m (([.ref (a 0)] : List Value).toArray) below meth c H locs 0 0 Q (F0 m 24 ls []) := by
    intro d
    induction d using Nat.strongRecOn with
    | ind d ih_24 =>
    intro K24 z24_1 H locs ls hd_24 hz24_1 hr_24 hT hF hLF_24 hP hD hS hl
    have t_4 := hT
    refine lv_iload_n hx hb dX7_back_24 rfl (lv_at hl 0 rfl) ?_
    refine lv_bipush (v := 8) hx hb dX7_back_25 (by decide) ?_
    refine lv_icmp_ge (tgt := 66) hx hb dX7_back_27 (by decide) (fun (c_5 : (8 : Int32) ≤ z24_1) => ?_) (fun (c_5 : ¬ ((8 : Int32) ≤ z24_1)) => ?_)
    · refine lv_iconst (v := 1) hx hb dX7_back_66 (by decide) ?_
      rw [hQ]
      exact W.iret (v := 1) hx hb hr (fun t ht hW => ⟨⟨1, K24, rfl, ⟨hT, hF, ⟨⟨RelW.fr hRw hLF_24 (by decide), hr_24⟩, (by decide), (fun A hA => absM_fr (k9b A hA) t_3 (show fr [(1, 2)] [] C_1 K24 from (fr_tr fr_rf hLF_24 (by decide) (by decide))) (by decide) (by decide) (by decide)), (fun T hT => absTM_eq (k9t T hT) (hLF_24.1 14 rfl (by decide)) (congrArg vi ((show fr [(1, 2)] [] C_1 K24 from (fr_tr fr_rf hLF_24 (by decide) (by decide))).2 19 (by decide))))⟩⟩, ⟨by rw [ht]; exact hP, hD⟩⟩, hS.F ht⟩) hS.2.2 dX7_back_67
    · refine lv_aload_n hx hb dX7_back_30 rfl (lv_at hl 1 rfl) ?_
      refine va_get (D := D) (ci := 7) (v := .ref (a 1)) (C := RX7) (T := TX7) (N := 29) hx hb htg ig_7 hown hK hP 0 (oh_wg (Nat.lt_of_lt_of_le (by decide) hn) (sM_0 hT)) rfl 0 (by decide) (htg _ q_973) (fun _ h9 => h9) rfl dX7_back_31 ?_
      refine lv_iload_n hx hb dX7_back_34 rfl (lv_at hl 0 rfl) ?_
      have n_6 : vp_in z24_1 8 := (rg_in (rn_ltu (u' := 7) (Int32.not_le.mp c_5) hz24_1 (rg_c (v := 8) (lo := 8) (hi := 8) (by decide)) (by decide)) (by decide))
      refine th_iald hx hb hK hP 1 (Nat.lt_of_lt_of_le (by decide) hn) (sM_1 hT) n_6 dX7_back_35 ?_
      refine lv_iconst (v := 2) hx hb dX7_back_36 (by decide) ?_
      refine lv_icmp_ne (tgt := 60) hx hb dX7_back_37 (by decide) (fun (c_7 : ¬ ((ga (K24 1) (z24_1).toNatClampNeg) = 2)) => ?_) (fun (c_7 : (ga (K24 1) (z24_1).toNatClampNeg) = 2) => ?_)
      · refine lv_iinc (v := z24_1 + 1) (lv' := [(1, .int (z24_1 + 1)), (0, .ref (a 0))]) hx hb dX7_back_60 hl (k := 0) rfl (by rfl) (by decide) rfl (fun ls hl => ?_)
        refine lv_goto (tgt := 24) hx hb dX7_back_63 (by decide) ?_
        exact ih_24 _ (hd_24 ▸ mu_up 8 (rn_ltu (u' := 7) (Int32.not_le.mp c_5) hz24_1 (rg_c (v := 8) (lo := 8) (hi := 8) (by decide)) (by decide)) (by decide)) K24 (z24_1 + 1) _ _ ls rfl (rg_w (rg_add (lo := 1) (hi := 8) (rn_ltu (u' := 7) (Int32.not_le.mp c_5) hz24_1 (rg_c (v := 8) (lo := 8) (hi := 8) (by decide)) (by decide)) (rg_c (v := 1) (lo := 1) (hi := 1) (by decide)) (by decide)) (by decide)) hr_24 hT hF hLF_24 hP hD hS (lv_sub hl [0, 1] rfl)
      · refine lv_aload_n hx hb dX7_back_40 rfl (lv_at hl 1 rfl) ?_
        refine va_get (D := D) (ci := 7) (v := .ref (a 6)) (C := RX7) (T := TX7) (N := 29) hx hb htg ig_7 hown hK hP 0 (oh_wg (Nat.lt_of_lt_of_le (by decide) hn) (sM_0 hT)) rfl 5 (by decide) (htg _ q_978) (fun _ h9 => h9) rfl dX7_back_41 ?_
        refine lv_iload_n hx hb dX7_back_44 rfl (lv_at hl 0 rfl) ?_
        have n_8 : vp_in z24_1 8 := (rg_in (rn_ltu (u' := 7) (Int32.not_le.mp c_5) hz24_1 (rg_c (v := 8) (lo := 8) (hi := 8) (by decide)) (by decide)) (by decide))
        refine th_iald hx hb hK hP 6 (Nat.lt_of_lt_of_le (by decide) hn) (Eq.trans (Eq.trans (hLF_24.1 6 rfl (by decide)) (f_2.1 6 rfl (by decide))) (sM_6 hT0)) n_8 dX7_back_45 ?_
        refine lv_aload_n hx hb dX7_back_46 rfl (lv_at hl 1 rfl) ?_
        refine va_get (D := D) (ci := 7) (v := .int (gi (C_1 0) 11)) (C := RX7) (T := TX7) (N := 29) hx hb htg ig_7 hown hK hP 0 (oh_wg (Nat.lt_of_lt_of_le (by decide) hn) (sM_0 hT)) rfl 11 (by decide) (htg _ q_984) (fun _ h9 => h9) (oh_fv (c := K24 0) (j := 11) rfl (congrArg vi (hLF_24.2 11 (by decide)))) dX7_back_47 ?_
        refine lv_icmp_lt (tgt := 60) hx hb dX7_back_50 (by decide) (fun (c_9 : (ga (C 6) (z24_1).toNatClampNeg) < (gi (C_1 0) 11)) => ?_) (fun (c_9 : ¬ ((ga (C 6) (z24_1).toNatClampNeg) < (gi (C_1 0) 11))) => ?_)
        · refine lv_iinc (v := z24_1 + 1) (lv' := [(1, .int (z24_1 + 1)), (0, .ref (a 0))]) hx hb dX7_back_60 hl (k := 0) rfl (by rfl) (by decide) rfl (fun ls hl => ?_)
          refine lv_goto (tgt := 24) hx hb dX7_back_63 (by decide) ?_
          exact ih_24 _ (hd_24 ▸ mu_up 8 (rn_ltu (u' := 7) (Int32.not_le.mp c_5) hz24_1 (rg_c (v := 8) (lo := 8) (hi := 8) (by decide)) (by decide)) (by decide)) K24 (z24_1 + 1) _ _ ls rfl (rg_w (rg_add (lo := 1) (hi := 8) (rn_ltu (u' := 7) (Int32.not_le.mp c_5) hz24_1 (rg_c (v := 8) (lo := 8) (hi := 8) (by decide)) (by decide)) (rg_c (v := 1) (lo := 1) (hi := 1) (by decide)) (by decide)) (by decide)) hr_24 hT hF hLF_24 hP hD hS (lv_sub hl [0, 1] rfl)
        · refine lv_aload_n hx hb dX7_back_53 rfl (lv_at hl 1 rfl) ?_
          refine va_get (D := D) (ci := 7) (v := .ref (a 1)) (C := RX7) (T := TX7) (N := 29) hx hb htg ig_7 hown hK hP 0 (oh_wg (Nat.lt_of_lt_of_le (by decide) hn) (sM_0 hT)) rfl 0 (by decide) (htg _ q_973) (fun _ h9 => h9) rfl dX7_back_54 ?_
          refine lv_iload_n hx hb dX7_back_57 rfl (lv_at hl 0 rfl) ?_
          refine lv_iconst (v := 0) hx hb dX7_back_58 (by decide) ?_
          have n_10 : vp_in z24_1 8 := (rg_in (rn_ltu (u' := 7) (Int32.not_le.mp c_5) hz24_1 (rg_c (v := 8) (lo := 8) (hi := 8) (by decide)) (by decide)) (by decide))
          refine th_iast (T := TyM a E) (Rl := fr [(1, 2), (13, 14), (14, 15), (24, 74)] [9, 11, 13, 15, 19] C) hx hb hK hP hD hS 1 (Nat.lt_of_lt_of_le (by decide) hn) (sM_1 hT) n_10 (hT.up 1 (by decide) (tA_upd (tM_1 hT) (tA_stc (Nat.mod_one _) (rg_c (v := 0) (lo := 0) (hi := 0) (by decide)) (by decide)))) (fr_st hF (by decide) (by decide)) dX7_back_59 (fun C_11 H locs e_12 hT hF hP hD hS => ?_)
          have t_13 := hT
          refine lv_iinc (v := z24_1 + 1) (lv' := [(1, .int (z24_1 + 1)), (0, .ref (a 0))]) hx hb dX7_back_60 hl (k := 0) rfl (by rfl) (by decide) rfl (fun ls hl => ?_)
          refine lv_goto (tgt := 24) hx hb dX7_back_63 (by decide) ?_
          exact ih_24 _ (hd_24 ▸ mu_up 8 (rn_ltu (u' := 7) (Int32.not_le.mp c_5) hz24_1 (rg_c (v := 8) (lo := 8) (hi := 8) (by decide)) (by decide)) (by decide)) C_11 (z24_1 + 1) _ _ ls rfl (rg_w (rg_add (lo := 1) (hi := 8) (rn_ltu (u' := 7) (Int32.not_le.mp c_5) hz24_1 (rg_c (v := 8) (lo := 8) (hi := 8) (by decide)) (by decide)) (rg_c (v := 1) (lo := 1) (hi := 1) (by decide)) (by decide)) (by decide)) (oh_relS0 (i := z24_1) hr_24 (st_ga e_12) (th_un e_12 (by decide))) hT hF (fr_ste hLF_24 e_12 (by decide) (by decide)) hP hD hS (lv_sub hl [0, 1] rfl)
  exact L_24 _ C_1 0 _ _ ls rfl (rg_w (rg_c (v := 0) (lo := 0) (hi := 0) (by decide)) (by decide)) hRs hT hF fr_rf hP hD hS (lv_sub hl [0, 1] rfl)

theorem relM_congr {C u : Nat → va_E} (h : RelM C) (e : ∀ k, k < 74 → u k = C k) : RelM u := by
  have e0 := e 0 (by decide)
  have e14 := e 14 (by decide)
  have e1 := e 1 (by decide)
  have e6 := e 6 (by decide)
  refine ⟨⟨fun w hw hl => ?_, ?_⟩, ?_⟩
  · rw [e (64 + w) (by omega)]
    rw [e0] at hl
    exact h.1.1 w hw hl
  · rw [e14, e0]
    exact h.1.2
  · intro s hs
    rw [e1, e6]
    exact h.2 s hs
set_option maxHeartbeats 4000000 in
set_option maxRecDepth 100000 in
theorem c_X7_image_k (l : Launch) (D : va_G) (E : Nat → ClassId) (G : Nat → Nat) (sz : Nat) (a : Nat → Nat) (C : Nat → va_E) (n : Nat) (hn2 : 148 ≤ n) (hT : TyM a E C) (hR : RelM C) (hkr : gv (C 0) 20 = .ref (a 74)) (hTk : TyM (shf 74 a) E (shf 74 C)) : Met l yX7_image (oh_w yX7_image cX7_image 1 (some .int)) ({ frames := 3, cells := 0, slots := 0, locals := 65 }) (oh_Pm D E G [.ref (a 0)] (oh_W n a C) sz) (va_Qi (fun r (u : Nat → va_E) => TyM a E u ∧ RelM u ∧ (∀ k, k < 74 → u k = C k) ∧ TyM (shf 74 a) E (shf 74 u) ∧ RelW (shf 74 u) ∧ (∀ A : LA, absM C A → absM (shf 74 u) A) ∧ (∀ T : TP, absTM C T → absTM (shf 74 u) T) ∧ r = 1) (oh_B D (va_A (oh_W n a C) sz) (fun u => oh_W n a u)) (va_A (oh_W n a C) sz)) 0 0 (va_A (oh_W n a C) sz) := by
  refine Met.ofW (cc := cX7_image) (maxL := 1) (ret := (some .int)) (by decide) rfl ?_
  intro p e s m args below meth c s₁ B hml hv
  obtain ⟨rfl, hsz, hP, hK, hD0, hG⟩ := hv
  have hx := B.exec
  have hb := B.bytes
  have hr := B.returns
  have hts := atoms_spec (ws := (oh_w yX7_image cX7_image 1 (some .int))) B.pre
  have htg : ∀ w ∈ oh_t, w.before _ s = true := fun w h => hts w (List.mem_cons_of_mem _ h)
  have hown : s.vm.findClass RX7 = some m.cls := findClass_of_methodNamed B.named
  have hlocks := B.notSynchronized
  subst hsz
  have hD := hD0.self (sz := s.heap.size)
  generalize hAe : va_A (oh_W n a C) s.heap.size = A at hD hG ⊢
  have hA : ∀ q : Nat, s.heap.size ≤ q → A q := fun q h => by rw [← hAe]; exact Or.inr h
  have hS : va_S A s.heap s.heap [] := va_S.rf
  have hl := lv_entry ([.ref (a 0)]) (n := 1) (Nat.le_of_ble_eq_true rfl)
  rw [lg_entry_eq]
  generalize (lg_sl ([.ref (a 0)]) ++ List.replicate (1 - (lg_sl ([.ref (a 0)])).length) Slot.unset).toArray = ls at hl ⊢
  have hl : lv_has ls 1 [(0, .ref (a 0))] := hl
  refine lv_aload_n hx hb dX7_image_0 rfl (lv_at hl 0 rfl) ?_
  refine va_get (D := D) (ci := 7) (v := .ref (a (74 + 0))) (C := RX7) (T := TX7) (N := 29) hx hb htg ig_7 hown hK hP 0 (oh_wg (by omega) (sM_0 hT)) rfl 20 (by decide) (htg _ q_993) (fun _ h9 => h9) (congrArg some hkr) dX7_image_1 ?_
  refine lv_ifnonnull (tgt := 18) hx hb dX7_image_4 (by decide) ?_
  refine lv_aload_n hx hb dX7_image_18 rfl (lv_at hl 0 rfl) ?_
  refine va_get (D := D) (ci := 7) (v := .ref (a (74 + 0))) (C := RX7) (T := TX7) (N := 29) hx hb htg ig_7 hown hK hP 0 (oh_wg (by omega) (sM_0 hT)) rfl 20 (by decide) (htg _ q_993) (fun _ h9 => h9) (congrArg some hkr) dX7_image_19 ?_
  refine lv_aload_n hx hb dX7_image_22 rfl (lv_at hl 0 rfl) ?_
  have hT1s : TyM (shf 0 a) E (shf 0 C) := by rw [shf_0, shf_0]; exact hT
  refine tm_Vv (b := a (74 + 0)) (As := [.ref (a (0 + 0))]) (rest := []) ⟨hx, hb, hml, hown, htg⟩ (c_X7_takeFrom l D E G _ n a C 74 0 (Or.inr ⟨rfl, rfl⟩) hn2 hTk hT1s) (cwV 1 htg (oh_gV q_1427 q_1429 q_64 q_73 q_1430) rfl rfl rfl pdVX7_takeFrom ⟨Nat.le_of_ble_eq_true rfl, Nat.le_of_ble_eq_true rfl⟩) hK hP hD hG hS hA (va_recv hK hP (ci := 7) (q0 := 74 + 0) rfl (oh_wg (by omega) (show C (74 + 0) = _ from sM_0 hTk))) rfl hl.1 rfl (Nat.le_of_ble_eq_true rfl) dX7_image_23 ⟨Nat.le_of_ble_eq_true rfl, Nat.le_of_ble_eq_true rfl⟩ (fun u H locs hq hP hD hS => ?_)
  obtain ⟨k1, k2, k3, k4, k5, k6, k7, k8, k9⟩ := hq
  have k9b : ∀ A : LA, absM C A → absM (shf 74 u) A := fun A hA => k9.1 A (by rw [shf_0]; exact hA)
  have k9t : ∀ T : TP, absTM C T → absTM (shf 74 u) T := fun T hT => k9.2 T (by rw [shf_0]; exact hT)
  have hcc : ∀ k, k < 74 → u k = C k := fun k hk => by have := k2 k hk; rw [Nat.zero_add] at this; exact this
  have hRw : RelW (shf 74 u) := relW_cp hR.1 k5 (fun w hw q hq => by have := k6 w hw q hq; rw [Nat.zero_add] at this; exact this) (fun q hq => by have := k7 q hq; rw [Nat.zero_add] at this; exact this)
  refine W.widen (k := 0) (n := 0) (Nat.le_refl _) (Nat.le_refl _) ?_
  refine lv_iconst (v := 1) hx hb dX7_image_26 (by decide) ?_
  exact W.iret (v := 1) hx hb hr (fun t ht hW => ⟨⟨1, u, rfl, ⟨hT.congr hcc, relM_congr hR hcc, hcc, k1, hRw, k9b, k9t, rfl⟩, ⟨by rw [ht]; exact hP, hD⟩⟩, hS.F ht⟩) hS.2.2 dX7_image_27
theorem bg_dX0_init_0 : bysAt cX0_init 0 [42, 183, 0, 3, 42, 178, 0, 9, 190, 188, 10, 181, 0, 13, 42, 178, 0, 9, 3, 46, 16, 7, 104, 188, 10, 181, 0, 18, 42] := bysAt_of (by decide +kernel)
theorem dX0_init_0 : decode cX0_init 0 = .ok (.aload_n 0, 1) := o_42 (bg_dX0_init_0 0 42 rfl)
theorem dX0_init_1 : decode cX0_init 1 = .ok (.invokespecial 3, 3) := o_183 (bg_dX0_init_0 1 183 rfl) (bg_dX0_init_0 2 0 rfl) (bg_dX0_init_0 3 3 rfl)
theorem dX0_init_4 : decode cX0_init 4 = .ok (.aload_n 0, 1) := o_42 (bg_dX0_init_0 4 42 rfl)
theorem dX0_init_5 : decode cX0_init 5 = .ok (.getstatic 9, 3) := o_178 (bg_dX0_init_0 5 178 rfl) (bg_dX0_init_0 6 0 rfl) (bg_dX0_init_0 7 9 rfl)
theorem dX0_init_8 : decode cX0_init 8 = .ok (.arraylength, 1) := o_190 (bg_dX0_init_0 8 190 rfl)
theorem dX0_init_11 : decode cX0_init 11 = .ok (.putfield 13, 3) := o_181 (bg_dX0_init_0 11 181 rfl) (bg_dX0_init_0 12 0 rfl) (bg_dX0_init_0 13 13 rfl)
theorem dX0_init_14 : decode cX0_init 14 = .ok (.aload_n 0, 1) := o_42 (bg_dX0_init_0 14 42 rfl)
theorem dX0_init_15 : decode cX0_init 15 = .ok (.getstatic 9, 3) := o_178 (bg_dX0_init_0 15 178 rfl) (bg_dX0_init_0 16 0 rfl) (bg_dX0_init_0 17 9 rfl)
theorem dX0_init_18 : decode cX0_init 18 = .ok (.iconst 0, 1) := o_3 (bg_dX0_init_0 18 3 rfl)
theorem dX0_init_19 : decode cX0_init 19 = .ok (.iaload, 1) := o_46 (bg_dX0_init_0 19 46 rfl)
theorem dX0_init_20 : decode cX0_init 20 = .ok (.bipush 7, 2) := o_16 (bg_dX0_init_0 20 16 rfl) (bg_dX0_init_0 21 7 rfl) (by decide +kernel)
theorem dX0_init_22 : decode cX0_init 22 = .ok (.imul, 1) := o_104 (bg_dX0_init_0 22 104 rfl)
theorem dX0_init_25 : decode cX0_init 25 = .ok (.putfield 18, 3) := o_181 (bg_dX0_init_0 25 181 rfl) (bg_dX0_init_0 26 0 rfl) (bg_dX0_init_0 27 18 rfl)
theorem dX0_init_28 : decode cX0_init 28 = .ok (.aload_n 0, 1) := o_42 (bg_dX0_init_0 28 42 rfl)
theorem bg_dX0_init_29 : bysAt cX0_init 29 [178, 0, 9, 4, 46, 16, 10, 104, 188, 10, 181, 0, 21, 42, 178, 0, 9, 5, 46, 6, 104, 188, 10, 181, 0, 24, 42] := bysAt_of (by decide +kernel)
theorem dX0_init_29 : decode cX0_init 29 = .ok (.getstatic 9, 3) := o_178 (bg_dX0_init_29 0 178 rfl) (bg_dX0_init_29 1 0 rfl) (bg_dX0_init_29 2 9 rfl)
theorem dX0_init_32 : decode cX0_init 32 = .ok (.iconst 1, 1) := o_4 (bg_dX0_init_29 3 4 rfl)
theorem dX0_init_33 : decode cX0_init 33 = .ok (.iaload, 1) := o_46 (bg_dX0_init_29 4 46 rfl)
theorem dX0_init_34 : decode cX0_init 34 = .ok (.bipush 10, 2) := o_16 (bg_dX0_init_29 5 16 rfl) (bg_dX0_init_29 6 10 rfl) (by decide +kernel)
theorem dX0_init_36 : decode cX0_init 36 = .ok (.imul, 1) := o_104 (bg_dX0_init_29 7 104 rfl)
theorem dX0_init_39 : decode cX0_init 39 = .ok (.putfield 21, 3) := o_181 (bg_dX0_init_29 10 181 rfl) (bg_dX0_init_29 11 0 rfl) (bg_dX0_init_29 12 21 rfl)
theorem dX0_init_42 : decode cX0_init 42 = .ok (.aload_n 0, 1) := o_42 (bg_dX0_init_29 13 42 rfl)
theorem dX0_init_43 : decode cX0_init 43 = .ok (.getstatic 9, 3) := o_178 (bg_dX0_init_29 14 178 rfl) (bg_dX0_init_29 15 0 rfl) (bg_dX0_init_29 16 9 rfl)
theorem dX0_init_46 : decode cX0_init 46 = .ok (.iconst 2, 1) := o_5 (bg_dX0_init_29 17 5 rfl)
theorem dX0_init_47 : decode cX0_init 47 = .ok (.iaload, 1) := o_46 (bg_dX0_init_29 18 46 rfl)
theorem dX0_init_48 : decode cX0_init 48 = .ok (.iconst 3, 1) := o_6 (bg_dX0_init_29 19 6 rfl)
theorem dX0_init_49 : decode cX0_init 49 = .ok (.imul, 1) := o_104 (bg_dX0_init_29 20 104 rfl)
theorem dX0_init_52 : decode cX0_init 52 = .ok (.putfield 24, 3) := o_181 (bg_dX0_init_29 23 181 rfl) (bg_dX0_init_29 24 0 rfl) (bg_dX0_init_29 25 24 rfl)
theorem dX0_init_55 : decode cX0_init 55 = .ok (.aload_n 0, 1) := o_42 (bg_dX0_init_29 26 42 rfl)
theorem bg_dX0_init_56 : bysAt cX0_init 56 [178, 0, 9, 6, 46, 5, 104, 188, 10, 181, 0, 27, 42, 6, 188, 10, 181, 0, 30, 42, 180, 0, 30, 3, 16, 100, 79] := bysAt_of (by decide +kernel)
theorem dX0_init_56 : decode cX0_init 56 = .ok (.getstatic 9, 3) := o_178 (bg_dX0_init_56 0 178 rfl) (bg_dX0_init_56 1 0 rfl) (bg_dX0_init_56 2 9 rfl)
theorem dX0_init_59 : decode cX0_init 59 = .ok (.iconst 3, 1) := o_6 (bg_dX0_init_56 3 6 rfl)
theorem dX0_init_60 : decode cX0_init 60 = .ok (.iaload, 1) := o_46 (bg_dX0_init_56 4 46 rfl)
theorem dX0_init_61 : decode cX0_init 61 = .ok (.iconst 2, 1) := o_5 (bg_dX0_init_56 5 5 rfl)
theorem dX0_init_62 : decode cX0_init 62 = .ok (.imul, 1) := o_104 (bg_dX0_init_56 6 104 rfl)
theorem dX0_init_65 : decode cX0_init 65 = .ok (.putfield 27, 3) := o_181 (bg_dX0_init_56 9 181 rfl) (bg_dX0_init_56 10 0 rfl) (bg_dX0_init_56 11 27 rfl)
theorem dX0_init_68 : decode cX0_init 68 = .ok (.aload_n 0, 1) := o_42 (bg_dX0_init_56 12 42 rfl)
theorem dX0_init_69 : decode cX0_init 69 = .ok (.iconst 3, 1) := o_6 (bg_dX0_init_56 13 6 rfl)
theorem dX0_init_72 : decode cX0_init 72 = .ok (.putfield 30, 3) := o_181 (bg_dX0_init_56 16 181 rfl) (bg_dX0_init_56 17 0 rfl) (bg_dX0_init_56 18 30 rfl)
theorem dX0_init_75 : decode cX0_init 75 = .ok (.aload_n 0, 1) := o_42 (bg_dX0_init_56 19 42 rfl)
theorem dX0_init_76 : decode cX0_init 76 = .ok (.getfield 30, 3) := o_180 (bg_dX0_init_56 20 180 rfl) (bg_dX0_init_56 21 0 rfl) (bg_dX0_init_56 22 30 rfl)
theorem dX0_init_79 : decode cX0_init 79 = .ok (.iconst 0, 1) := o_3 (bg_dX0_init_56 23 3 rfl)
theorem dX0_init_80 : decode cX0_init 80 = .ok (.bipush 100, 2) := o_16 (bg_dX0_init_56 24 16 rfl) (bg_dX0_init_56 25 100 rfl) (by decide +kernel)
theorem dX0_init_82 : decode cX0_init 82 = .ok (.iastore, 1) := o_79 (bg_dX0_init_56 26 79 rfl)
theorem bg_dX0_init_83 : bysAt cX0_init 83 [42, 180, 0, 30, 4, 5, 79, 42, 16, 7, 188, 10, 181, 0, 33, 42, 3, 181, 0, 36, 177] := bysAt_of (by decide +kernel)
theorem dX0_init_83 : decode cX0_init 83 = .ok (.aload_n 0, 1) := o_42 (bg_dX0_init_83 0 42 rfl)
theorem dX0_init_84 : decode cX0_init 84 = .ok (.getfield 30, 3) := o_180 (bg_dX0_init_83 1 180 rfl) (bg_dX0_init_83 2 0 rfl) (bg_dX0_init_83 3 30 rfl)
theorem dX0_init_87 : decode cX0_init 87 = .ok (.iconst 1, 1) := o_4 (bg_dX0_init_83 4 4 rfl)
theorem dX0_init_88 : decode cX0_init 88 = .ok (.iconst 2, 1) := o_5 (bg_dX0_init_83 5 5 rfl)
theorem dX0_init_89 : decode cX0_init 89 = .ok (.iastore, 1) := o_79 (bg_dX0_init_83 6 79 rfl)
theorem dX0_init_90 : decode cX0_init 90 = .ok (.aload_n 0, 1) := o_42 (bg_dX0_init_83 7 42 rfl)
theorem dX0_init_91 : decode cX0_init 91 = .ok (.bipush 7, 2) := o_16 (bg_dX0_init_83 8 16 rfl) (bg_dX0_init_83 9 7 rfl) (by decide +kernel)
theorem dX0_init_95 : decode cX0_init 95 = .ok (.putfield 33, 3) := o_181 (bg_dX0_init_83 12 181 rfl) (bg_dX0_init_83 13 0 rfl) (bg_dX0_init_83 14 33 rfl)
theorem dX0_init_98 : decode cX0_init 98 = .ok (.aload_n 0, 1) := o_42 (bg_dX0_init_83 15 42 rfl)
theorem dX0_init_99 : decode cX0_init 99 = .ok (.iconst 0, 1) := o_3 (bg_dX0_init_83 16 3 rfl)
theorem dX0_init_100 : decode cX0_init 100 = .ok (.putfield 36, 3) := o_181 (bg_dX0_init_83 17 181 rfl) (bg_dX0_init_83 18 0 rfl) (bg_dX0_init_83 19 36 rfl)
theorem dX0_init_103 : decode cX0_init 103 = .ok (.return_, 1) := o_177 (bg_dX0_init_83 20 177 rfl)
theorem bg_dX1_init_0 : bysAt cX1_init 0 [42, 183, 0, 3, 177] := bysAt_of (by decide +kernel)
theorem dX1_init_0 : decode cX1_init 0 = .ok (.aload_n 0, 1) := o_42 (bg_dX1_init_0 0 42 rfl)
theorem dX1_init_1 : decode cX1_init 1 = .ok (.invokespecial 3, 3) := o_183 (bg_dX1_init_0 1 183 rfl) (bg_dX1_init_0 2 0 rfl) (bg_dX1_init_0 3 3 rfl)
theorem dX1_init_4 : decode cX1_init 4 = .ok (.return_, 1) := o_177 (bg_dX1_init_0 4 177 rfl)
theorem bg_dX2_init_0 : bysAt cX2_init 0 [42, 183, 0, 3, 42, 43, 181, 0, 9, 42, 44, 181, 0, 15, 42, 178, 0, 19, 190, 188, 10, 181, 0, 23, 42, 6] := bysAt_of (by decide +kernel)
theorem dX2_init_0 : decode cX2_init 0 = .ok (.aload_n 0, 1) := o_42 (bg_dX2_init_0 0 42 rfl)
theorem dX2_init_1 : decode cX2_init 1 = .ok (.invokespecial 3, 3) := o_183 (bg_dX2_init_0 1 183 rfl) (bg_dX2_init_0 2 0 rfl) (bg_dX2_init_0 3 3 rfl)
theorem dX2_init_4 : decode cX2_init 4 = .ok (.aload_n 0, 1) := o_42 (bg_dX2_init_0 4 42 rfl)
theorem dX2_init_5 : decode cX2_init 5 = .ok (.aload_n 1, 1) := o_43 (bg_dX2_init_0 5 43 rfl)
theorem dX2_init_6 : decode cX2_init 6 = .ok (.putfield 9, 3) := o_181 (bg_dX2_init_0 6 181 rfl) (bg_dX2_init_0 7 0 rfl) (bg_dX2_init_0 8 9 rfl)
theorem dX2_init_9 : decode cX2_init 9 = .ok (.aload_n 0, 1) := o_42 (bg_dX2_init_0 9 42 rfl)
theorem dX2_init_10 : decode cX2_init 10 = .ok (.aload_n 2, 1) := o_44 (bg_dX2_init_0 10 44 rfl)
theorem dX2_init_11 : decode cX2_init 11 = .ok (.putfield 15, 3) := o_181 (bg_dX2_init_0 11 181 rfl) (bg_dX2_init_0 12 0 rfl) (bg_dX2_init_0 13 15 rfl)
theorem dX2_init_14 : decode cX2_init 14 = .ok (.aload_n 0, 1) := o_42 (bg_dX2_init_0 14 42 rfl)
theorem dX2_init_15 : decode cX2_init 15 = .ok (.getstatic 19, 3) := o_178 (bg_dX2_init_0 15 178 rfl) (bg_dX2_init_0 16 0 rfl) (bg_dX2_init_0 17 19 rfl)
theorem dX2_init_18 : decode cX2_init 18 = .ok (.arraylength, 1) := o_190 (bg_dX2_init_0 18 190 rfl)
theorem dX2_init_21 : decode cX2_init 21 = .ok (.putfield 23, 3) := o_181 (bg_dX2_init_0 21 181 rfl) (bg_dX2_init_0 22 0 rfl) (bg_dX2_init_0 23 23 rfl)
theorem dX2_init_24 : decode cX2_init 24 = .ok (.aload_n 0, 1) := o_42 (bg_dX2_init_0 24 42 rfl)
theorem dX2_init_25 : decode cX2_init 25 = .ok (.iconst 3, 1) := o_6 (bg_dX2_init_0 25 6 rfl)
theorem bg_dX2_init_28 : bysAt cX2_init 28 [181, 0, 26, 177] := bysAt_of (by decide +kernel)
theorem dX2_init_28 : decode cX2_init 28 = .ok (.putfield 26, 3) := o_181 (bg_dX2_init_28 0 181 rfl) (bg_dX2_init_28 1 0 rfl) (bg_dX2_init_28 2 26 rfl)
theorem dX2_init_31 : decode cX2_init 31 = .ok (.return_, 1) := o_177 (bg_dX2_init_28 3 177 rfl)
theorem bg_dX3_init_0 : bysAt cX3_init 0 [42, 183, 0, 3, 42, 16, 8, 188, 10, 181, 0, 9, 42, 16, 8, 188, 10, 181, 0, 15, 42, 17, 1, 64, 188, 11, 181, 0, 18, 3, 60, 27] := bysAt_of (by decide +kernel)
theorem dX3_init_0 : decode cX3_init 0 = .ok (.aload_n 0, 1) := o_42 (bg_dX3_init_0 0 42 rfl)
theorem dX3_init_1 : decode cX3_init 1 = .ok (.invokespecial 3, 3) := o_183 (bg_dX3_init_0 1 183 rfl) (bg_dX3_init_0 2 0 rfl) (bg_dX3_init_0 3 3 rfl)
theorem dX3_init_4 : decode cX3_init 4 = .ok (.aload_n 0, 1) := o_42 (bg_dX3_init_0 4 42 rfl)
theorem dX3_init_5 : decode cX3_init 5 = .ok (.bipush 8, 2) := o_16 (bg_dX3_init_0 5 16 rfl) (bg_dX3_init_0 6 8 rfl) (by decide +kernel)
theorem dX3_init_9 : decode cX3_init 9 = .ok (.putfield 9, 3) := o_181 (bg_dX3_init_0 9 181 rfl) (bg_dX3_init_0 10 0 rfl) (bg_dX3_init_0 11 9 rfl)
theorem dX3_init_12 : decode cX3_init 12 = .ok (.aload_n 0, 1) := o_42 (bg_dX3_init_0 12 42 rfl)
theorem dX3_init_13 : decode cX3_init 13 = .ok (.bipush 8, 2) := o_16 (bg_dX3_init_0 13 16 rfl) (bg_dX3_init_0 14 8 rfl) (by decide +kernel)
theorem dX3_init_17 : decode cX3_init 17 = .ok (.putfield 15, 3) := o_181 (bg_dX3_init_0 17 181 rfl) (bg_dX3_init_0 18 0 rfl) (bg_dX3_init_0 19 15 rfl)
theorem dX3_init_20 : decode cX3_init 20 = .ok (.aload_n 0, 1) := o_42 (bg_dX3_init_0 20 42 rfl)
theorem dX3_init_21 : decode cX3_init 21 = .ok (.sipush 320, 3) := o_17 (bg_dX3_init_0 21 17 rfl) (bg_dX3_init_0 22 1 rfl) (bg_dX3_init_0 23 64 rfl) (by decide +kernel)
theorem dX3_init_26 : decode cX3_init 26 = .ok (.putfield 18, 3) := o_181 (bg_dX3_init_0 26 181 rfl) (bg_dX3_init_0 27 0 rfl) (bg_dX3_init_0 28 18 rfl)
theorem dX3_init_29 : decode cX3_init 29 = .ok (.iconst 0, 1) := o_3 (bg_dX3_init_0 29 3 rfl)
theorem dX3_init_30 : decode cX3_init 30 = .ok (.istore_n 1, 1) := o_60 (bg_dX3_init_0 30 60 rfl)
theorem dX3_init_31 : decode cX3_init 31 = .ok (.iload_n 1, 1) := o_27 (bg_dX3_init_0 31 27 rfl)
theorem bg_dX3_init_32 : bysAt cX3_init 32 [16, 8, 162, 0, 16, 42, 180, 0, 9, 27, 2, 79, 132, 1, 1, 167, 255, 240, 177] := bysAt_of (by decide +kernel)
theorem dX3_init_32 : decode cX3_init 32 = .ok (.bipush 8, 2) := o_16 (bg_dX3_init_32 0 16 rfl) (bg_dX3_init_32 1 8 rfl) (by decide +kernel)
theorem dX3_init_34 : decode cX3_init 34 = .ok (.if_icmp .ge 16, 3) := o_162 (bg_dX3_init_32 2 162 rfl) (bg_dX3_init_32 3 0 rfl) (bg_dX3_init_32 4 16 rfl) (by decide +kernel)
theorem dX3_init_37 : decode cX3_init 37 = .ok (.aload_n 0, 1) := o_42 (bg_dX3_init_32 5 42 rfl)
theorem dX3_init_38 : decode cX3_init 38 = .ok (.getfield 9, 3) := o_180 (bg_dX3_init_32 6 180 rfl) (bg_dX3_init_32 7 0 rfl) (bg_dX3_init_32 8 9 rfl)
theorem dX3_init_41 : decode cX3_init 41 = .ok (.iload_n 1, 1) := o_27 (bg_dX3_init_32 9 27 rfl)
theorem dX3_init_42 : decode cX3_init 42 = .ok (.iconst (-1), 1) := o_2 (bg_dX3_init_32 10 2 rfl)
theorem dX3_init_43 : decode cX3_init 43 = .ok (.iastore, 1) := o_79 (bg_dX3_init_32 11 79 rfl)
theorem dX3_init_47 : decode cX3_init 47 = .ok (.goto (-16), 3) := o_167 (bg_dX3_init_32 15 167 rfl) (bg_dX3_init_32 16 255 rfl) (bg_dX3_init_32 17 240 rfl) (by decide +kernel)
theorem dX3_init_50 : decode cX3_init 50 = .ok (.return_, 1) := o_177 (bg_dX3_init_32 18 177 rfl)
theorem bg_dX4_init_0 : bysAt cX4_init 0 [42, 183, 0, 3, 42, 17, 0, 250, 188, 10, 181, 0, 9, 42, 3, 181, 0, 15, 42, 2, 181, 0, 19, 177] := bysAt_of (by decide +kernel)
theorem dX4_init_0 : decode cX4_init 0 = .ok (.aload_n 0, 1) := o_42 (bg_dX4_init_0 0 42 rfl)
theorem dX4_init_1 : decode cX4_init 1 = .ok (.invokespecial 3, 3) := o_183 (bg_dX4_init_0 1 183 rfl) (bg_dX4_init_0 2 0 rfl) (bg_dX4_init_0 3 3 rfl)
theorem dX4_init_4 : decode cX4_init 4 = .ok (.aload_n 0, 1) := o_42 (bg_dX4_init_0 4 42 rfl)
theorem dX4_init_5 : decode cX4_init 5 = .ok (.sipush 250, 3) := o_17 (bg_dX4_init_0 5 17 rfl) (bg_dX4_init_0 6 0 rfl) (bg_dX4_init_0 7 250 rfl) (by decide +kernel)
theorem dX4_init_10 : decode cX4_init 10 = .ok (.putfield 9, 3) := o_181 (bg_dX4_init_0 10 181 rfl) (bg_dX4_init_0 11 0 rfl) (bg_dX4_init_0 12 9 rfl)
theorem dX4_init_13 : decode cX4_init 13 = .ok (.aload_n 0, 1) := o_42 (bg_dX4_init_0 13 42 rfl)
theorem dX4_init_14 : decode cX4_init 14 = .ok (.iconst 0, 1) := o_3 (bg_dX4_init_0 14 3 rfl)
theorem dX4_init_15 : decode cX4_init 15 = .ok (.putfield 15, 3) := o_181 (bg_dX4_init_0 15 181 rfl) (bg_dX4_init_0 16 0 rfl) (bg_dX4_init_0 17 15 rfl)
theorem dX4_init_18 : decode cX4_init 18 = .ok (.aload_n 0, 1) := o_42 (bg_dX4_init_0 18 42 rfl)
theorem dX4_init_19 : decode cX4_init 19 = .ok (.iconst (-1), 1) := o_2 (bg_dX4_init_0 19 2 rfl)
theorem dX4_init_20 : decode cX4_init 20 = .ok (.putfield 19, 3) := o_181 (bg_dX4_init_0 20 181 rfl) (bg_dX4_init_0 21 0 rfl) (bg_dX4_init_0 22 19 rfl)
theorem dX4_init_23 : decode cX4_init 23 = .ok (.return_, 1) := o_177 (bg_dX4_init_0 23 177 rfl)
theorem bg_dX5_init_0 : bysAt cX5_init 0 [42, 183, 0, 3, 42, 43, 181, 0, 9, 42, 187, 0, 15, 89, 183, 0, 17, 181, 0, 18, 42, 178, 0, 22, 3, 46] := bysAt_of (by decide +kernel)
theorem dX5_init_0 : decode cX5_init 0 = .ok (.aload_n 0, 1) := o_42 (bg_dX5_init_0 0 42 rfl)
theorem dX5_init_1 : decode cX5_init 1 = .ok (.invokespecial 3, 3) := o_183 (bg_dX5_init_0 1 183 rfl) (bg_dX5_init_0 2 0 rfl) (bg_dX5_init_0 3 3 rfl)
theorem dX5_init_4 : decode cX5_init 4 = .ok (.aload_n 0, 1) := o_42 (bg_dX5_init_0 4 42 rfl)
theorem dX5_init_5 : decode cX5_init 5 = .ok (.aload_n 1, 1) := o_43 (bg_dX5_init_0 5 43 rfl)
theorem dX5_init_6 : decode cX5_init 6 = .ok (.putfield 9, 3) := o_181 (bg_dX5_init_0 6 181 rfl) (bg_dX5_init_0 7 0 rfl) (bg_dX5_init_0 8 9 rfl)
theorem dX5_init_9 : decode cX5_init 9 = .ok (.aload_n 0, 1) := o_42 (bg_dX5_init_0 9 42 rfl)
theorem dX5_init_10 : decode cX5_init 10 = .ok (.new 15, 3) := o_187 (bg_dX5_init_0 10 187 rfl) (bg_dX5_init_0 11 0 rfl) (bg_dX5_init_0 12 15 rfl)
theorem dX5_init_13 : decode cX5_init 13 = .ok (.dup, 1) := o_89 (bg_dX5_init_0 13 89 rfl)
theorem dX5_init_14 : decode cX5_init 14 = .ok (.invokespecial 17, 3) := o_183 (bg_dX5_init_0 14 183 rfl) (bg_dX5_init_0 15 0 rfl) (bg_dX5_init_0 16 17 rfl)
theorem dX5_init_17 : decode cX5_init 17 = .ok (.putfield 18, 3) := o_181 (bg_dX5_init_0 17 181 rfl) (bg_dX5_init_0 18 0 rfl) (bg_dX5_init_0 19 18 rfl)
theorem dX5_init_20 : decode cX5_init 20 = .ok (.aload_n 0, 1) := o_42 (bg_dX5_init_0 20 42 rfl)
theorem dX5_init_21 : decode cX5_init 21 = .ok (.getstatic 22, 3) := o_178 (bg_dX5_init_0 21 178 rfl) (bg_dX5_init_0 22 0 rfl) (bg_dX5_init_0 23 22 rfl)
theorem dX5_init_24 : decode cX5_init 24 = .ok (.iconst 0, 1) := o_3 (bg_dX5_init_0 24 3 rfl)
theorem dX5_init_25 : decode cX5_init 25 = .ok (.iaload, 1) := o_46 (bg_dX5_init_0 25 46 rfl)
theorem bg_dX5_init_28 : bysAt cX5_init 28 [181, 0, 26, 42, 178, 0, 22, 3, 46, 188, 10, 181, 0, 29, 42, 178, 0, 22, 3, 46, 188, 10, 181, 0, 32, 42, 16, 16, 188, 10, 181, 0, 35] := bysAt_of (by decide +kernel)
theorem dX5_init_28 : decode cX5_init 28 = .ok (.putfield 26, 3) := o_181 (bg_dX5_init_28 0 181 rfl) (bg_dX5_init_28 1 0 rfl) (bg_dX5_init_28 2 26 rfl)
theorem dX5_init_31 : decode cX5_init 31 = .ok (.aload_n 0, 1) := o_42 (bg_dX5_init_28 3 42 rfl)
theorem dX5_init_32 : decode cX5_init 32 = .ok (.getstatic 22, 3) := o_178 (bg_dX5_init_28 4 178 rfl) (bg_dX5_init_28 5 0 rfl) (bg_dX5_init_28 6 22 rfl)
theorem dX5_init_35 : decode cX5_init 35 = .ok (.iconst 0, 1) := o_3 (bg_dX5_init_28 7 3 rfl)
theorem dX5_init_36 : decode cX5_init 36 = .ok (.iaload, 1) := o_46 (bg_dX5_init_28 8 46 rfl)
theorem dX5_init_39 : decode cX5_init 39 = .ok (.putfield 29, 3) := o_181 (bg_dX5_init_28 11 181 rfl) (bg_dX5_init_28 12 0 rfl) (bg_dX5_init_28 13 29 rfl)
theorem dX5_init_42 : decode cX5_init 42 = .ok (.aload_n 0, 1) := o_42 (bg_dX5_init_28 14 42 rfl)
theorem dX5_init_43 : decode cX5_init 43 = .ok (.getstatic 22, 3) := o_178 (bg_dX5_init_28 15 178 rfl) (bg_dX5_init_28 16 0 rfl) (bg_dX5_init_28 17 22 rfl)
theorem dX5_init_46 : decode cX5_init 46 = .ok (.iconst 0, 1) := o_3 (bg_dX5_init_28 18 3 rfl)
theorem dX5_init_47 : decode cX5_init 47 = .ok (.iaload, 1) := o_46 (bg_dX5_init_28 19 46 rfl)
theorem dX5_init_50 : decode cX5_init 50 = .ok (.putfield 32, 3) := o_181 (bg_dX5_init_28 22 181 rfl) (bg_dX5_init_28 23 0 rfl) (bg_dX5_init_28 24 32 rfl)
theorem dX5_init_53 : decode cX5_init 53 = .ok (.aload_n 0, 1) := o_42 (bg_dX5_init_28 25 42 rfl)
theorem dX5_init_54 : decode cX5_init 54 = .ok (.bipush 16, 2) := o_16 (bg_dX5_init_28 26 16 rfl) (bg_dX5_init_28 27 16 rfl) (by decide +kernel)
theorem dX5_init_58 : decode cX5_init 58 = .ok (.putfield 35, 3) := o_181 (bg_dX5_init_28 30 181 rfl) (bg_dX5_init_28 31 0 rfl) (bg_dX5_init_28 32 35 rfl)
theorem bg_dX5_init_61 : bysAt cX5_init 61 [42, 7, 188, 10, 181, 0, 38, 177] := bysAt_of (by decide +kernel)
theorem dX5_init_61 : decode cX5_init 61 = .ok (.aload_n 0, 1) := o_42 (bg_dX5_init_61 0 42 rfl)
theorem dX5_init_62 : decode cX5_init 62 = .ok (.iconst 4, 1) := o_7 (bg_dX5_init_61 1 7 rfl)
theorem dX5_init_65 : decode cX5_init 65 = .ok (.putfield 38, 3) := o_181 (bg_dX5_init_61 4 181 rfl) (bg_dX5_init_61 5 0 rfl) (bg_dX5_init_61 6 38 rfl)
theorem dX5_init_68 : decode cX5_init 68 = .ok (.return_, 1) := o_177 (bg_dX5_init_61 7 177 rfl)
theorem bg_dX6_init_0 : bysAt cX6_init 0 [42, 183, 0, 1, 42, 187, 0, 7, 89, 183, 0, 9, 181, 0, 10, 42, 187, 0, 7, 89, 183, 0, 9, 181, 0, 16, 42, 3] := bysAt_of (by decide +kernel)
theorem dX6_init_0 : decode cX6_init 0 = .ok (.aload_n 0, 1) := o_42 (bg_dX6_init_0 0 42 rfl)
theorem dX6_init_1 : decode cX6_init 1 = .ok (.invokespecial 1, 3) := o_183 (bg_dX6_init_0 1 183 rfl) (bg_dX6_init_0 2 0 rfl) (bg_dX6_init_0 3 1 rfl)
theorem dX6_init_4 : decode cX6_init 4 = .ok (.aload_n 0, 1) := o_42 (bg_dX6_init_0 4 42 rfl)
theorem dX6_init_5 : decode cX6_init 5 = .ok (.new 7, 3) := o_187 (bg_dX6_init_0 5 187 rfl) (bg_dX6_init_0 6 0 rfl) (bg_dX6_init_0 7 7 rfl)
theorem dX6_init_8 : decode cX6_init 8 = .ok (.dup, 1) := o_89 (bg_dX6_init_0 8 89 rfl)
theorem dX6_init_9 : decode cX6_init 9 = .ok (.invokespecial 9, 3) := o_183 (bg_dX6_init_0 9 183 rfl) (bg_dX6_init_0 10 0 rfl) (bg_dX6_init_0 11 9 rfl)
theorem dX6_init_12 : decode cX6_init 12 = .ok (.putfield 10, 3) := o_181 (bg_dX6_init_0 12 181 rfl) (bg_dX6_init_0 13 0 rfl) (bg_dX6_init_0 14 10 rfl)
theorem dX6_init_15 : decode cX6_init 15 = .ok (.aload_n 0, 1) := o_42 (bg_dX6_init_0 15 42 rfl)
theorem dX6_init_16 : decode cX6_init 16 = .ok (.new 7, 3) := o_187 (bg_dX6_init_0 16 187 rfl) (bg_dX6_init_0 17 0 rfl) (bg_dX6_init_0 18 7 rfl)
theorem dX6_init_19 : decode cX6_init 19 = .ok (.dup, 1) := o_89 (bg_dX6_init_0 19 89 rfl)
theorem dX6_init_20 : decode cX6_init 20 = .ok (.invokespecial 9, 3) := o_183 (bg_dX6_init_0 20 183 rfl) (bg_dX6_init_0 21 0 rfl) (bg_dX6_init_0 22 9 rfl)
theorem dX6_init_23 : decode cX6_init 23 = .ok (.putfield 16, 3) := o_181 (bg_dX6_init_0 23 181 rfl) (bg_dX6_init_0 24 0 rfl) (bg_dX6_init_0 25 16 rfl)
theorem dX6_init_26 : decode cX6_init 26 = .ok (.aload_n 0, 1) := o_42 (bg_dX6_init_0 26 42 rfl)
theorem dX6_init_27 : decode cX6_init 27 = .ok (.iconst 0, 1) := o_3 (bg_dX6_init_0 27 3 rfl)
theorem bg_dX6_init_28 : bysAt cX6_init 28 [181, 0, 19, 42, 187, 0, 23, 89, 42, 180, 0, 10, 183, 0, 25, 181, 0, 28, 42, 187, 0, 32, 89, 183, 0, 34, 181, 0, 35, 42] := bysAt_of (by decide +kernel)
theorem dX6_init_28 : decode cX6_init 28 = .ok (.putfield 19, 3) := o_181 (bg_dX6_init_28 0 181 rfl) (bg_dX6_init_28 1 0 rfl) (bg_dX6_init_28 2 19 rfl)
theorem dX6_init_31 : decode cX6_init 31 = .ok (.aload_n 0, 1) := o_42 (bg_dX6_init_28 3 42 rfl)
theorem dX6_init_32 : decode cX6_init 32 = .ok (.new 23, 3) := o_187 (bg_dX6_init_28 4 187 rfl) (bg_dX6_init_28 5 0 rfl) (bg_dX6_init_28 6 23 rfl)
theorem dX6_init_35 : decode cX6_init 35 = .ok (.dup, 1) := o_89 (bg_dX6_init_28 7 89 rfl)
theorem dX6_init_36 : decode cX6_init 36 = .ok (.aload_n 0, 1) := o_42 (bg_dX6_init_28 8 42 rfl)
theorem dX6_init_37 : decode cX6_init 37 = .ok (.getfield 10, 3) := o_180 (bg_dX6_init_28 9 180 rfl) (bg_dX6_init_28 10 0 rfl) (bg_dX6_init_28 11 10 rfl)
theorem dX6_init_40 : decode cX6_init 40 = .ok (.invokespecial 25, 3) := o_183 (bg_dX6_init_28 12 183 rfl) (bg_dX6_init_28 13 0 rfl) (bg_dX6_init_28 14 25 rfl)
theorem dX6_init_43 : decode cX6_init 43 = .ok (.putfield 28, 3) := o_181 (bg_dX6_init_28 15 181 rfl) (bg_dX6_init_28 16 0 rfl) (bg_dX6_init_28 17 28 rfl)
theorem dX6_init_46 : decode cX6_init 46 = .ok (.aload_n 0, 1) := o_42 (bg_dX6_init_28 18 42 rfl)
theorem dX6_init_47 : decode cX6_init 47 = .ok (.new 32, 3) := o_187 (bg_dX6_init_28 19 187 rfl) (bg_dX6_init_28 20 0 rfl) (bg_dX6_init_28 21 32 rfl)
theorem dX6_init_50 : decode cX6_init 50 = .ok (.dup, 1) := o_89 (bg_dX6_init_28 22 89 rfl)
theorem dX6_init_51 : decode cX6_init 51 = .ok (.invokespecial 34, 3) := o_183 (bg_dX6_init_28 23 183 rfl) (bg_dX6_init_28 24 0 rfl) (bg_dX6_init_28 25 34 rfl)
theorem dX6_init_54 : decode cX6_init 54 = .ok (.putfield 35, 3) := o_181 (bg_dX6_init_28 26 181 rfl) (bg_dX6_init_28 27 0 rfl) (bg_dX6_init_28 28 35 rfl)
theorem dX6_init_57 : decode cX6_init 57 = .ok (.aload_n 0, 1) := o_42 (bg_dX6_init_28 29 42 rfl)
theorem bg_dX6_init_58 : bysAt cX6_init 58 [187, 0, 39, 89, 183, 0, 41, 181, 0, 42, 42, 187, 0, 46, 89, 42, 180, 0, 42, 42, 180, 0, 10, 183, 0, 48, 181, 0, 51, 42] := bysAt_of (by decide +kernel)
theorem dX6_init_58 : decode cX6_init 58 = .ok (.new 39, 3) := o_187 (bg_dX6_init_58 0 187 rfl) (bg_dX6_init_58 1 0 rfl) (bg_dX6_init_58 2 39 rfl)
theorem dX6_init_61 : decode cX6_init 61 = .ok (.dup, 1) := o_89 (bg_dX6_init_58 3 89 rfl)
theorem dX6_init_62 : decode cX6_init 62 = .ok (.invokespecial 41, 3) := o_183 (bg_dX6_init_58 4 183 rfl) (bg_dX6_init_58 5 0 rfl) (bg_dX6_init_58 6 41 rfl)
theorem dX6_init_65 : decode cX6_init 65 = .ok (.putfield 42, 3) := o_181 (bg_dX6_init_58 7 181 rfl) (bg_dX6_init_58 8 0 rfl) (bg_dX6_init_58 9 42 rfl)
theorem dX6_init_68 : decode cX6_init 68 = .ok (.aload_n 0, 1) := o_42 (bg_dX6_init_58 10 42 rfl)
theorem dX6_init_69 : decode cX6_init 69 = .ok (.new 46, 3) := o_187 (bg_dX6_init_58 11 187 rfl) (bg_dX6_init_58 12 0 rfl) (bg_dX6_init_58 13 46 rfl)
theorem dX6_init_72 : decode cX6_init 72 = .ok (.dup, 1) := o_89 (bg_dX6_init_58 14 89 rfl)
theorem dX6_init_73 : decode cX6_init 73 = .ok (.aload_n 0, 1) := o_42 (bg_dX6_init_58 15 42 rfl)
theorem dX6_init_74 : decode cX6_init 74 = .ok (.getfield 42, 3) := o_180 (bg_dX6_init_58 16 180 rfl) (bg_dX6_init_58 17 0 rfl) (bg_dX6_init_58 18 42 rfl)
theorem dX6_init_77 : decode cX6_init 77 = .ok (.aload_n 0, 1) := o_42 (bg_dX6_init_58 19 42 rfl)
theorem dX6_init_78 : decode cX6_init 78 = .ok (.getfield 10, 3) := o_180 (bg_dX6_init_58 20 180 rfl) (bg_dX6_init_58 21 0 rfl) (bg_dX6_init_58 22 10 rfl)
theorem dX6_init_81 : decode cX6_init 81 = .ok (.invokespecial 48, 3) := o_183 (bg_dX6_init_58 23 183 rfl) (bg_dX6_init_58 24 0 rfl) (bg_dX6_init_58 25 48 rfl)
theorem dX6_init_84 : decode cX6_init 84 = .ok (.putfield 51, 3) := o_181 (bg_dX6_init_58 26 181 rfl) (bg_dX6_init_58 27 0 rfl) (bg_dX6_init_58 28 51 rfl)
theorem dX6_init_87 : decode cX6_init 87 = .ok (.aload_n 0, 1) := o_42 (bg_dX6_init_58 29 42 rfl)
theorem bg_dX6_init_88 : bysAt cX6_init 88 [8, 188, 10, 181, 0, 55, 42, 6, 188, 10, 181, 0, 59, 177] := bysAt_of (by decide +kernel)
theorem dX6_init_88 : decode cX6_init 88 = .ok (.iconst 5, 1) := o_8 (bg_dX6_init_88 0 8 rfl)
theorem dX6_init_91 : decode cX6_init 91 = .ok (.putfield 55, 3) := o_181 (bg_dX6_init_88 3 181 rfl) (bg_dX6_init_88 4 0 rfl) (bg_dX6_init_88 5 55 rfl)
theorem dX6_init_94 : decode cX6_init 94 = .ok (.aload_n 0, 1) := o_42 (bg_dX6_init_88 6 42 rfl)
theorem dX6_init_95 : decode cX6_init 95 = .ok (.iconst 3, 1) := o_6 (bg_dX6_init_88 7 6 rfl)
theorem dX6_init_98 : decode cX6_init 98 = .ok (.putfield 59, 3) := o_181 (bg_dX6_init_88 10 181 rfl) (bg_dX6_init_88 11 0 rfl) (bg_dX6_init_88 12 59 rfl)
theorem dX6_init_101 : decode cX6_init 101 = .ok (.return_, 1) := o_177 (bg_dX6_init_88 13 177 rfl)
theorem bg_dX7_init_0 : bysAt cX7_init 0 [42, 183, 0, 1, 42, 16, 8, 188, 10, 181, 0, 7, 42, 16, 8, 188, 10, 181, 0, 13, 42, 16, 8, 188, 10, 181, 0, 16, 42, 16, 8, 16, 40] := bysAt_of (by decide +kernel)
theorem dX7_init_0 : decode cX7_init 0 = .ok (.aload_n 0, 1) := o_42 (bg_dX7_init_0 0 42 rfl)
theorem dX7_init_1 : decode cX7_init 1 = .ok (.invokespecial 1, 3) := o_183 (bg_dX7_init_0 1 183 rfl) (bg_dX7_init_0 2 0 rfl) (bg_dX7_init_0 3 1 rfl)
theorem dX7_init_4 : decode cX7_init 4 = .ok (.aload_n 0, 1) := o_42 (bg_dX7_init_0 4 42 rfl)
theorem dX7_init_5 : decode cX7_init 5 = .ok (.bipush 8, 2) := o_16 (bg_dX7_init_0 5 16 rfl) (bg_dX7_init_0 6 8 rfl) (by decide +kernel)
theorem dX7_init_9 : decode cX7_init 9 = .ok (.putfield 7, 3) := o_181 (bg_dX7_init_0 9 181 rfl) (bg_dX7_init_0 10 0 rfl) (bg_dX7_init_0 11 7 rfl)
theorem dX7_init_12 : decode cX7_init 12 = .ok (.aload_n 0, 1) := o_42 (bg_dX7_init_0 12 42 rfl)
theorem dX7_init_13 : decode cX7_init 13 = .ok (.bipush 8, 2) := o_16 (bg_dX7_init_0 13 16 rfl) (bg_dX7_init_0 14 8 rfl) (by decide +kernel)
theorem dX7_init_17 : decode cX7_init 17 = .ok (.putfield 13, 3) := o_181 (bg_dX7_init_0 17 181 rfl) (bg_dX7_init_0 18 0 rfl) (bg_dX7_init_0 19 13 rfl)
theorem dX7_init_20 : decode cX7_init 20 = .ok (.aload_n 0, 1) := o_42 (bg_dX7_init_0 20 42 rfl)
theorem dX7_init_21 : decode cX7_init 21 = .ok (.bipush 8, 2) := o_16 (bg_dX7_init_0 21 16 rfl) (bg_dX7_init_0 22 8 rfl) (by decide +kernel)
theorem dX7_init_25 : decode cX7_init 25 = .ok (.putfield 16, 3) := o_181 (bg_dX7_init_0 25 181 rfl) (bg_dX7_init_0 26 0 rfl) (bg_dX7_init_0 27 16 rfl)
theorem dX7_init_28 : decode cX7_init 28 = .ok (.aload_n 0, 1) := o_42 (bg_dX7_init_0 28 42 rfl)
theorem dX7_init_29 : decode cX7_init 29 = .ok (.bipush 8, 2) := o_16 (bg_dX7_init_0 29 16 rfl) (bg_dX7_init_0 30 8 rfl) (by decide +kernel)
theorem dX7_init_31 : decode cX7_init 31 = .ok (.bipush 40, 2) := o_16 (bg_dX7_init_0 31 16 rfl) (bg_dX7_init_0 32 40 rfl) (by decide +kernel)
theorem bg_dX7_init_37 : bysAt cX7_init 37 [181, 0, 21, 42, 16, 40, 188, 11, 181, 0, 24, 42, 16, 8, 188, 10, 181, 0, 28, 42, 17, 0, 250, 188, 10, 181, 0, 31, 42, 16, 8, 188, 10, 181, 0, 34, 42] := bysAt_of (by decide +kernel)
theorem dX7_init_37 : decode cX7_init 37 = .ok (.putfield 21, 3) := o_181 (bg_dX7_init_37 0 181 rfl) (bg_dX7_init_37 1 0 rfl) (bg_dX7_init_37 2 21 rfl)
theorem dX7_init_40 : decode cX7_init 40 = .ok (.aload_n 0, 1) := o_42 (bg_dX7_init_37 3 42 rfl)
theorem dX7_init_41 : decode cX7_init 41 = .ok (.bipush 40, 2) := o_16 (bg_dX7_init_37 4 16 rfl) (bg_dX7_init_37 5 40 rfl) (by decide +kernel)
theorem dX7_init_45 : decode cX7_init 45 = .ok (.putfield 24, 3) := o_181 (bg_dX7_init_37 8 181 rfl) (bg_dX7_init_37 9 0 rfl) (bg_dX7_init_37 10 24 rfl)
theorem dX7_init_48 : decode cX7_init 48 = .ok (.aload_n 0, 1) := o_42 (bg_dX7_init_37 11 42 rfl)
theorem dX7_init_49 : decode cX7_init 49 = .ok (.bipush 8, 2) := o_16 (bg_dX7_init_37 12 16 rfl) (bg_dX7_init_37 13 8 rfl) (by decide +kernel)
theorem dX7_init_53 : decode cX7_init 53 = .ok (.putfield 28, 3) := o_181 (bg_dX7_init_37 16 181 rfl) (bg_dX7_init_37 17 0 rfl) (bg_dX7_init_37 18 28 rfl)
theorem dX7_init_56 : decode cX7_init 56 = .ok (.aload_n 0, 1) := o_42 (bg_dX7_init_37 19 42 rfl)
theorem dX7_init_57 : decode cX7_init 57 = .ok (.sipush 250, 3) := o_17 (bg_dX7_init_37 20 17 rfl) (bg_dX7_init_37 21 0 rfl) (bg_dX7_init_37 22 250 rfl) (by decide +kernel)
theorem dX7_init_62 : decode cX7_init 62 = .ok (.putfield 31, 3) := o_181 (bg_dX7_init_37 25 181 rfl) (bg_dX7_init_37 26 0 rfl) (bg_dX7_init_37 27 31 rfl)
theorem dX7_init_65 : decode cX7_init 65 = .ok (.aload_n 0, 1) := o_42 (bg_dX7_init_37 28 42 rfl)
theorem dX7_init_66 : decode cX7_init 66 = .ok (.bipush 8, 2) := o_16 (bg_dX7_init_37 29 16 rfl) (bg_dX7_init_37 30 8 rfl) (by decide +kernel)
theorem dX7_init_70 : decode cX7_init 70 = .ok (.putfield 34, 3) := o_181 (bg_dX7_init_37 33 181 rfl) (bg_dX7_init_37 34 0 rfl) (bg_dX7_init_37 35 34 rfl)
theorem dX7_init_73 : decode cX7_init 73 = .ok (.aload_n 0, 1) := o_42 (bg_dX7_init_37 36 42 rfl)
theorem bg_dX7_init_74 : bysAt cX7_init 74 [16, 24, 16, 7, 197, 0, 37, 2, 181, 0, 39, 42, 16, 16, 16, 10, 197, 0, 37, 2, 181, 0, 42, 42, 8, 6, 197, 0, 37, 2, 181, 0, 45, 42, 8, 5] := bysAt_of (by decide +kernel)
theorem dX7_init_74 : decode cX7_init 74 = .ok (.bipush 24, 2) := o_16 (bg_dX7_init_74 0 16 rfl) (bg_dX7_init_74 1 24 rfl) (by decide +kernel)
theorem dX7_init_76 : decode cX7_init 76 = .ok (.bipush 7, 2) := o_16 (bg_dX7_init_74 2 16 rfl) (bg_dX7_init_74 3 7 rfl) (by decide +kernel)
theorem dX7_init_82 : decode cX7_init 82 = .ok (.putfield 39, 3) := o_181 (bg_dX7_init_74 8 181 rfl) (bg_dX7_init_74 9 0 rfl) (bg_dX7_init_74 10 39 rfl)
theorem dX7_init_85 : decode cX7_init 85 = .ok (.aload_n 0, 1) := o_42 (bg_dX7_init_74 11 42 rfl)
theorem dX7_init_86 : decode cX7_init 86 = .ok (.bipush 16, 2) := o_16 (bg_dX7_init_74 12 16 rfl) (bg_dX7_init_74 13 16 rfl) (by decide +kernel)
theorem dX7_init_88 : decode cX7_init 88 = .ok (.bipush 10, 2) := o_16 (bg_dX7_init_74 14 16 rfl) (bg_dX7_init_74 15 10 rfl) (by decide +kernel)
theorem dX7_init_94 : decode cX7_init 94 = .ok (.putfield 42, 3) := o_181 (bg_dX7_init_74 20 181 rfl) (bg_dX7_init_74 21 0 rfl) (bg_dX7_init_74 22 42 rfl)
theorem dX7_init_97 : decode cX7_init 97 = .ok (.aload_n 0, 1) := o_42 (bg_dX7_init_74 23 42 rfl)
theorem dX7_init_98 : decode cX7_init 98 = .ok (.iconst 5, 1) := o_8 (bg_dX7_init_74 24 8 rfl)
theorem dX7_init_99 : decode cX7_init 99 = .ok (.iconst 3, 1) := o_6 (bg_dX7_init_74 25 6 rfl)
theorem dX7_init_104 : decode cX7_init 104 = .ok (.putfield 45, 3) := o_181 (bg_dX7_init_74 30 181 rfl) (bg_dX7_init_74 31 0 rfl) (bg_dX7_init_74 32 45 rfl)
theorem dX7_init_107 : decode cX7_init 107 = .ok (.aload_n 0, 1) := o_42 (bg_dX7_init_74 33 42 rfl)
theorem dX7_init_108 : decode cX7_init 108 = .ok (.iconst 5, 1) := o_8 (bg_dX7_init_74 34 8 rfl)
theorem dX7_init_109 : decode cX7_init 109 = .ok (.iconst 2, 1) := o_5 (bg_dX7_init_74 35 5 rfl)
theorem bg_dX7_init_114 : bysAt cX7_init 114 [181, 0, 48, 42, 6, 188, 10, 89, 3, 16, 100, 79, 89, 4, 5, 79, 89, 5, 3] := bysAt_of (by decide +kernel)
theorem dX7_init_114 : decode cX7_init 114 = .ok (.putfield 48, 3) := o_181 (bg_dX7_init_114 0 181 rfl) (bg_dX7_init_114 1 0 rfl) (bg_dX7_init_114 2 48 rfl)
theorem dX7_init_117 : decode cX7_init 117 = .ok (.aload_n 0, 1) := o_42 (bg_dX7_init_114 3 42 rfl)
theorem dX7_init_118 : decode cX7_init 118 = .ok (.iconst 3, 1) := o_6 (bg_dX7_init_114 4 6 rfl)
theorem dX7_init_121 : decode cX7_init 121 = .ok (.dup, 1) := o_89 (bg_dX7_init_114 7 89 rfl)
theorem dX7_init_122 : decode cX7_init 122 = .ok (.iconst 0, 1) := o_3 (bg_dX7_init_114 8 3 rfl)
theorem dX7_init_123 : decode cX7_init 123 = .ok (.bipush 100, 2) := o_16 (bg_dX7_init_114 9 16 rfl) (bg_dX7_init_114 10 100 rfl) (by decide +kernel)
theorem dX7_init_125 : decode cX7_init 125 = .ok (.iastore, 1) := o_79 (bg_dX7_init_114 11 79 rfl)
theorem dX7_init_126 : decode cX7_init 126 = .ok (.dup, 1) := o_89 (bg_dX7_init_114 12 89 rfl)
theorem dX7_init_127 : decode cX7_init 127 = .ok (.iconst 1, 1) := o_4 (bg_dX7_init_114 13 4 rfl)
theorem dX7_init_128 : decode cX7_init 128 = .ok (.iconst 2, 1) := o_5 (bg_dX7_init_114 14 5 rfl)
theorem dX7_init_129 : decode cX7_init 129 = .ok (.iastore, 1) := o_79 (bg_dX7_init_114 15 79 rfl)
theorem dX7_init_130 : decode cX7_init 130 = .ok (.dup, 1) := o_89 (bg_dX7_init_114 16 89 rfl)
theorem dX7_init_131 : decode cX7_init 131 = .ok (.iconst 2, 1) := o_5 (bg_dX7_init_114 17 5 rfl)
theorem dX7_init_132 : decode cX7_init 132 = .ok (.iconst 0, 1) := o_3 (bg_dX7_init_114 18 3 rfl)
theorem bg_dX7_init_133 : bysAt cX7_init 133 [79, 181, 0, 51, 42, 16, 7, 188, 10, 181, 0, 54, 42, 16, 16, 188, 11, 181, 0, 57, 177] := bysAt_of (by decide +kernel)
theorem dX7_init_133 : decode cX7_init 133 = .ok (.iastore, 1) := o_79 (bg_dX7_init_133 0 79 rfl)
theorem dX7_init_134 : decode cX7_init 134 = .ok (.putfield 51, 3) := o_181 (bg_dX7_init_133 1 181 rfl) (bg_dX7_init_133 2 0 rfl) (bg_dX7_init_133 3 51 rfl)
theorem dX7_init_137 : decode cX7_init 137 = .ok (.aload_n 0, 1) := o_42 (bg_dX7_init_133 4 42 rfl)
theorem dX7_init_138 : decode cX7_init 138 = .ok (.bipush 7, 2) := o_16 (bg_dX7_init_133 5 16 rfl) (bg_dX7_init_133 6 7 rfl) (by decide +kernel)
theorem dX7_init_142 : decode cX7_init 142 = .ok (.putfield 54, 3) := o_181 (bg_dX7_init_133 9 181 rfl) (bg_dX7_init_133 10 0 rfl) (bg_dX7_init_133 11 54 rfl)
theorem dX7_init_145 : decode cX7_init 145 = .ok (.aload_n 0, 1) := o_42 (bg_dX7_init_133 12 42 rfl)
theorem dX7_init_146 : decode cX7_init 146 = .ok (.bipush 16, 2) := o_16 (bg_dX7_init_133 13 16 rfl) (bg_dX7_init_133 14 16 rfl) (by decide +kernel)
theorem dX7_init_150 : decode cX7_init 150 = .ok (.putfield 57, 3) := o_181 (bg_dX7_init_133 17 181 rfl) (bg_dX7_init_133 18 0 rfl) (bg_dX7_init_133 19 57 rfl)
theorem dX7_init_153 : decode cX7_init 153 = .ok (.return_, 1) := o_177 (bg_dX7_init_133 20 177 rfl)
theorem pdX0_init : yX0_init.cls ≠ "java/lang/invoke/MethodHandle" ∧ yX0_init.cls ≠ "java/lang/invoke/VarHandle" ∧ (parseMethodDescriptor yX0_init.desc).map (fun d => d.parameters.length) = some 0 := by decide +kernel
theorem pdX1_init : yX1_init.cls ≠ "java/lang/invoke/MethodHandle" ∧ yX1_init.cls ≠ "java/lang/invoke/VarHandle" ∧ (parseMethodDescriptor yX1_init.desc).map (fun d => d.parameters.length) = some 0 := by decide +kernel
theorem pdX2_init : yX2_init.cls ≠ "java/lang/invoke/MethodHandle" ∧ yX2_init.cls ≠ "java/lang/invoke/VarHandle" ∧ (parseMethodDescriptor yX2_init.desc).map (fun d => d.parameters.length) = some 2 := by decide +kernel
theorem pdX3_init : yX3_init.cls ≠ "java/lang/invoke/MethodHandle" ∧ yX3_init.cls ≠ "java/lang/invoke/VarHandle" ∧ (parseMethodDescriptor yX3_init.desc).map (fun d => d.parameters.length) = some 0 := by decide +kernel
theorem pdX4_init : yX4_init.cls ≠ "java/lang/invoke/MethodHandle" ∧ yX4_init.cls ≠ "java/lang/invoke/VarHandle" ∧ (parseMethodDescriptor yX4_init.desc).map (fun d => d.parameters.length) = some 0 := by decide +kernel
theorem pdX5_init : yX5_init.cls ≠ "java/lang/invoke/MethodHandle" ∧ yX5_init.cls ≠ "java/lang/invoke/VarHandle" ∧ (parseMethodDescriptor yX5_init.desc).map (fun d => d.parameters.length) = some 1 := by decide +kernel
theorem dX0_init_9 : decode cX0_init 9 = .ok (.newarray .int, 2) := by decide +kernel
theorem dX0_init_23 : decode cX0_init 23 = .ok (.newarray .int, 2) := by decide +kernel
theorem dX0_init_37 : decode cX0_init 37 = .ok (.newarray .int, 2) := by decide +kernel
theorem dX0_init_50 : decode cX0_init 50 = .ok (.newarray .int, 2) := by decide +kernel
theorem dX0_init_63 : decode cX0_init 63 = .ok (.newarray .int, 2) := by decide +kernel
theorem dX0_init_70 : decode cX0_init 70 = .ok (.newarray .int, 2) := by decide +kernel
theorem dX0_init_93 : decode cX0_init 93 = .ok (.newarray .int, 2) := by decide +kernel
theorem dX2_init_19 : decode cX2_init 19 = .ok (.newarray .int, 2) := by decide +kernel
theorem dX2_init_26 : decode cX2_init 26 = .ok (.newarray .int, 2) := by decide +kernel
theorem dX3_init_7 : decode cX3_init 7 = .ok (.newarray .int, 2) := by decide +kernel
theorem dX3_init_15 : decode cX3_init 15 = .ok (.newarray .int, 2) := by decide +kernel
theorem dX3_init_24 : decode cX3_init 24 = .ok (.newarray .long, 2) := by decide +kernel
theorem dX3_init_44 : decode cX3_init 44 = .ok (.iinc 1 1, 3) := by decide +kernel
theorem dX4_init_8 : decode cX4_init 8 = .ok (.newarray .int, 2) := by decide +kernel
theorem dX5_init_26 : decode cX5_init 26 = .ok (.newarray .int, 2) := by decide +kernel
theorem dX5_init_37 : decode cX5_init 37 = .ok (.newarray .int, 2) := by decide +kernel
theorem dX5_init_48 : decode cX5_init 48 = .ok (.newarray .int, 2) := by decide +kernel
theorem dX5_init_56 : decode cX5_init 56 = .ok (.newarray .int, 2) := by decide +kernel
theorem dX5_init_63 : decode cX5_init 63 = .ok (.newarray .int, 2) := by decide +kernel
theorem dX6_init_89 : decode cX6_init 89 = .ok (.newarray .int, 2) := by decide +kernel
theorem dX6_init_96 : decode cX6_init 96 = .ok (.newarray .int, 2) := by decide +kernel
theorem dX7_init_7 : decode cX7_init 7 = .ok (.newarray .int, 2) := by decide +kernel
theorem dX7_init_15 : decode cX7_init 15 = .ok (.newarray .int, 2) := by decide +kernel
theorem dX7_init_23 : decode cX7_init 23 = .ok (.newarray .int, 2) := by decide +kernel
theorem dX7_init_33 : decode cX7_init 33 = .ok (.multianewarray 19 2, 4) := by decide +kernel
theorem dX7_init_43 : decode cX7_init 43 = .ok (.newarray .long, 2) := by decide +kernel
theorem dX7_init_51 : decode cX7_init 51 = .ok (.newarray .int, 2) := by decide +kernel
theorem dX7_init_60 : decode cX7_init 60 = .ok (.newarray .int, 2) := by decide +kernel
theorem dX7_init_68 : decode cX7_init 68 = .ok (.newarray .int, 2) := by decide +kernel
theorem dX7_init_78 : decode cX7_init 78 = .ok (.multianewarray 37 2, 4) := by decide +kernel
theorem dX7_init_90 : decode cX7_init 90 = .ok (.multianewarray 37 2, 4) := by decide +kernel
theorem dX7_init_100 : decode cX7_init 100 = .ok (.multianewarray 37 2, 4) := by decide +kernel
theorem dX7_init_110 : decode cX7_init 110 = .ok (.multianewarray 37 2, 4) := by decide +kernel
theorem dX7_init_119 : decode cX7_init 119 = .ok (.newarray .int, 2) := by decide +kernel
theorem dX7_init_140 : decode cX7_init 140 = .ok (.newarray .int, 2) := by decide +kernel
theorem dX7_init_148 : decode cX7_init 148 = .ok (.newarray .long, 2) := by decide +kernel
