/-- a row into which a number of an interval may be written -/
def okR (a : Nat → Nat) (E : Nat → ClassId) (n k : Nat) (i lo hi : Int32) : Prop := k < n ∧ k ≠ 0 ∧ ∃ N : Nat, (∀ C, TyM a E C → C k = .inl (E 0, N, .inl (ga (C k)))) ∧ vp_in i N ∧ ∀ (C : Nat → va_E) (v : Int32), TyM a E C → lo ≤ v → v ≤ hi → TyM a E (updc C k (.inl (E 0, N, .inl (upd (ga (C k)) i.toNatClampNeg v))))
theorem oh_rgle {v p q : Int32} {lo hi : Int} (h1 : p ≤ v) (h2 : v ≤ q) (hd : decide (lo ≤ p.toInt ∧ q.toInt ≤ hi) = true) : rg v lo hi := by
  have h := of_decide_eq_true hd
  have a1 := Int32.le_iff_toInt_le.mp h1
  have a2 := Int32.le_iff_toInt_le.mp h2
  exact ⟨by omega, by omega⟩
theorem fr_trs {mc : List (Nat × Nat)} {mf mf2 : List Nat} {C0 C u : Nat → va_E} (h : fr mc mf C0 C) (h2 : fr mc mf2 C u) (hf : mf2.all (fun i => mf.contains i) = true) : fr mc mf C0 u := by
  refine ⟨fun k hk h0 => (h2.1 k hk h0).trans (h.1 k hk h0), fun i hi => ?_⟩
  have h3 : i ∉ mf2 := fun e => hi (by simpa using List.all_eq_true.mp hf i e)
  exact (h2.2 i h3).trans (h.2 i hi)
theorem fr_trk {mc : List (Nat × Nat)} {mf mf2 : List Nat} {k : Nat} {C0 C u : Nat → va_E} (h : fr mc mf C0 C) (h2 : fr [(k, k + 1)] mf2 C u) (hk : inR mc k = true) (hf : mf2.all (fun i => mf.contains i) = true) : fr mc mf C0 u := by
  refine ⟨fun i hi h0 => ?_, fun i hi => ?_⟩
  · have h3 : inR [(k, k + 1)] i = false := by
      cases e : inR [(k, k + 1)] i with
      | false => rfl
      | true =>
        unfold inR at e
        rw [List.any_eq_true] at e
        obtain ⟨p, hp, h1⟩ := e
        rw [List.mem_singleton] at hp
        subst hp
        rw [Bool.and_eq_true, Nat.ble_eq, Nat.blt_eq] at h1
        have : i = k := by omega
        rw [this, hk] at hi
        cases hi
    exact (h2.1 i h3 h0).trans (h.1 i hi h0)
  · have h3 : i ∉ mf2 := fun e => hi (by simpa using List.all_eq_true.mp hf i e)
    exact (h2.2 i h3).trans (h.2 i hi)
theorem fr_at {k i : Nat} {mf : List Nat} {C u : Nat → va_E} (h : fr [(k, k + 1)] mf C u) (h0 : i ≠ 0) (hne : i ≠ k) : u i = C i := by
  refine h.1 i ?_ h0
  cases e : inR [(k, k + 1)] i with
  | false => rfl
  | true =>
    unfold inR at e
    rw [List.any_eq_true] at e
    obtain ⟨p, hp, h1⟩ := e
    rw [List.mem_singleton] at hp
    subst hp
    rw [Bool.and_eq_true, Nat.ble_eq, Nat.blt_eq] at h1
    omega
theorem oh_incr {x : Int32} {l u : Int} (h : rg x l u) (hd : decide (-2147483648 ≤ l ∧ u < 2147483647) = true) : (x + 1).toInt = x.toInt + 1 := by
  have h2 := of_decide_eq_true hd
  rw [Int32.toInt_add]
  exact oh_bmod (by show _ ≤ x.toInt + 1; have := h.1; omega) (by show x.toInt + 1 ≤ _; have := h.2; omega)
theorem oh_wl {p f n : Int32} (ha : rg p 0 250) (hf : rg f 0 250) (e : p - f = n) (hn : rg n 3 6) : 3 ≤ p.toInt - f.toInt := by
  have e1 : (p - f).toInt = p.toInt - f.toInt := by
    rw [Int32.toInt_sub]
    exact oh_bmod (by have := ha.1; have := hf.2; omega) (by have := ha.2; have := hf.1; omega)
  rw [e] at e1
  have := hn.1
  omega
theorem oh_l2ile {v : Int64} {p q : Int32} (h1 : Int32.toInt64 p ≤ v) (h2 : v ≤ Int32.toInt64 q) : p ≤ Int64.toInt32 v ∧ Int64.toInt32 v ≤ q := by
  have a1 := Int64.le_iff_toInt_le.mp h1
  have a2 := Int64.le_iff_toInt_le.mp h2
  rw [oh_l32] at a1 a2
  have b1 := Int32.le_toInt p
  have b2 := Int32.toInt_lt q
  have e : (Int64.toInt32 v).toInt = v.toInt := by
    rw [Int64.toInt_toInt32, oh_bmod (by omega) (by omega)]
  exact ⟨Int32.le_iff_toInt_le.mpr (by rw [e]; exact a1), Int32.le_iff_toInt_le.mpr (by rw [e]; exact a2)⟩

set_option maxHeartbeats 4000000 in
set_option maxRecDepth 100000 in
theorem c_X7_look (l : Launch) (D : va_G) (E : Nat → ClassId) (G : Nat → Nat) (sz : Nat) (a : Nat → Nat) (C : Nat → va_E) (n : Nat) (hn : 74 ≤ n) (hT : TyM a E C) (hat : (gi (C 0) 21).toInt ≤ (gi (C 0) 7).toInt) : Met l yX7_look (oh_w yX7_look cX7_look 1 none) ({ frames := 1, cells := 0, slots := 0, locals := 20 }) (oh_Pm D E G [.ref (a 0)] (oh_W n a C) sz) (va_Qv (fun (u : Nat → va_E) => TyM a E u ∧ fr [] [21, 22, 23, 24] C u ∧ (((gi (C 0) 21).toInt ≤ (gi (u 0) 23).toInt) ∧ ((gi (u 0) 23).toInt ≤ (gi (u 0) 21).toInt) ∧ ((gi (u 0) 21).toInt ≤ (gi (u 0) 7).toInt))) (oh_B D (va_A (oh_W n a C) sz) (fun u => oh_W n a u)) (va_A (oh_W n a C) sz)) 0 0 (va_A (oh_W n a C) sz) := by
  refine Met.ofW (cc := cX7_look) (maxL := 1) (ret := none) (by decide) rfl ?_
  intro p e s m args below meth c s₁ B hml hv
  obtain ⟨rfl, hsz, hP, hK, hD0, hG⟩ := hv
  have hx := B.exec
  have hb := B.bytes
  have hr := B.returns
  have hts := atoms_spec (ws := (oh_w yX7_look cX7_look 1 none)) B.pre
  have htg : ∀ w ∈ oh_t, w.before _ s = true := fun w h => hts w (List.mem_cons_of_mem _ h)
  have hown : s.vm.findClass RX7 = some m.cls := findClass_of_methodNamed B.named
  have hlocks := B.notSynchronized
  have hT0 := hT
  subst hsz
  have hD := hD0.self (sz := s.heap.size)
  generalize hAe : va_A (oh_W n a C) s.heap.size = A at hD hG ⊢
  have hA : ∀ q : Nat, s.heap.size ≤ q → A q := fun q h => by rw [← hAe]; exact Or.inr h
  have hS : va_S A s.heap s.heap [] := va_S.rf
  have hF : fr [] [21, 22, 23, 24] C C := fr_rf
  have hl := lv_entry ([.ref (a 0)]) (n := 1) (Nat.le_of_ble_eq_true rfl)
  rw [lg_entry_eq]
  generalize (lg_sl ([.ref (a 0)]) ++ List.replicate (1 - (lg_sl ([.ref (a 0)])).length) Slot.unset).toArray = ls at hl ⊢
  have hl : lv_has ls 1 [(0, .ref (a 0))] := hl
  refine oh_genQ (fun Q hQ => ?_)
  have hat0 := hat
  have L_0 : ∀ (d : Nat) (K0 : Nat → va_E) (H : Heap) (locs : List Loc) (ls : Array Slot), (250 - (gi (K0 0) 21).toInt).toNat = d → ((gi (C 0) 21).toInt ≤ (gi (K0 0) 21).toInt ∧ (gi (K0 0) 21).toInt ≤ (gi (K0 0) 7).toInt) → TyM a E K0 → fr [] [21, 22, 23, 24] C K0 → fr [] [21] C K0 → va_P D vwCl (oh_W n a K0) H → va_D A (oh_W n a K0) → va_S A s.heap H locs → lv_has ls 1 [(0, .ref (a 0))] → W p l e ({ frames := 1, cells := 0, slots := 0, locals := 20 }) s m (([.ref (a 0)] : List Value).toArray) below meth c H locs 0 0 Q (F0 m 0 ls []) := by
    intro d
    induction d using Nat.strongRecOn with
    | ind d ih_0 =>
    intro K0  H locs ls hd_0 hv_0 hT hF hLF_0 hP hD hS hl
    have t_1 := hT
    refine lv_aload_n hx hb dX7_look_0 rfl (lv_at hl 0 rfl) ?_
    refine va_get (D := D) (ci := 7) (v := .int (gi (K0 0) 21)) (C := RX7) (T := TX7) (N := 29) hx hb htg ig_7 hown hK hP 0 (oh_wg (Nat.lt_of_lt_of_le (by decide) hn) (sM_0 hT)) rfl 21 (by decide) (htg _ q_994) (fun _ h9 => h9) rfl dX7_look_1 ?_
    refine lv_aload_n hx hb dX7_look_4 rfl (lv_at hl 0 rfl) ?_
    refine va_get (D := D) (ci := 7) (v := .int (gi (C 0) 7)) (C := RX7) (T := TX7) (N := 29) hx hb htg ig_7 hown hK hP 0 (oh_wg (Nat.lt_of_lt_of_le (by decide) hn) (sM_0 hT)) rfl 7 (by decide) (htg _ q_980) (fun _ h9 => h9) (oh_fv (c := K0 0) (j := 7) rfl (congrArg vi (hLF_0.2 7 (by decide)))) dX7_look_5 ?_
    refine lv_icmp_ge (tgt := 38) hx hb dX7_look_8 (by decide) (fun (c_2 : (gi (C 0) 7) ≤ (gi (K0 0) 21)) => ?_) (fun (c_2 : ¬ ((gi (C 0) 7) ≤ (gi (K0 0) 21))) => ?_)
    · refine lv_aload_n hx hb dX7_look_38 rfl (lv_at hl 0 rfl) ?_
      refine lv_aload_n hx hb dX7_look_39 rfl (lv_at hl 0 rfl) ?_
      refine va_get (D := D) (ci := 7) (v := .int (gi (K0 0) 21)) (C := RX7) (T := TX7) (N := 29) hx hb htg ig_7 hown hK hP 0 (oh_wg (Nat.lt_of_lt_of_le (by decide) hn) (sM_0 hT)) rfl 21 (by decide) (htg _ q_994) (fun _ h9 => h9) rfl dX7_look_40 ?_
      refine th_put (Tp := TyM a E) (Rl := fr [] [21, 22, 23, 24] C) (ci := 7) (v := .int (gi (K0 0) 21)) (ty := .int) (CC := RX7) (T := TX7) (N := 29) hx hb htg ig_7 tyX7 tyX7_ok nmX7 hown hK hP hD hS 0 (Nat.lt_of_lt_of_le (by decide) hn) (sM_0 hT) rfl 23 (by decide) (htg _ q_996) (fun _ h9 => h9) rfl (by decide +kernel) rfl rfl (Nat.le_of_ble_eq_true rfl) (hT.up 0 (by decide) ⟨rfl, (fM_0_7 hT), (fM_0_9 hT), (fM_0_11 hT), (fM_0_13 hT), (fM_0_15 hT), (fM_0_21 hT), (rg_w (fM_0_21 t_1) (by decide))⟩) (fr_fd hF (sM_0 hT) (by decide)) dX7_look_43 (fun C_3 H locs e_4 hT hF hP hD hS => ?_)
      have t_5 := hT
      refine lv_aload_n hx hb dX7_look_46 rfl (lv_at hl 0 rfl) ?_
      refine lv_lconst (v := 0) hx hb dX7_look_47 (by decide) ?_
      refine th_put (Tp := TyM a E) (Rl := fr [] [21, 22, 23, 24] C) (ci := 7) (v := .long 0) (ty := .long) (CC := RX7) (T := TX7) (N := 29) hx hb htg ig_7 tyX7 tyX7_ok nmX7 hown hK hP hD hS 0 (Nat.lt_of_lt_of_le (by decide) hn) (sM_0 hT) rfl 24 (by decide) (htg _ q_997) (fun _ h9 => h9) rfl (by decide +kernel) rfl rfl (Nat.le_of_ble_eq_true rfl) (hT.up 0 (by decide) ⟨rfl, (fM_0_7 hT), (fM_0_9 hT), (fM_0_11 hT), (fM_0_13 hT), (fM_0_15 hT), (fM_0_21 hT), (fM_0_23 hT)⟩) (fr_fd hF (sM_0 hT) (by decide)) dX7_look_48 (fun C_6 H locs e_7 hT hF hP hD hS => ?_)
      have t_8 := hT
      refine lv_aload_n hx hb dX7_look_51 rfl (lv_at hl 0 rfl) ?_
      refine va_get (D := D) (ci := 7) (v := .int (gi (K0 0) 21)) (C := RX7) (T := TX7) (N := 29) hx hb htg ig_7 hown hK hP 0 (oh_wg (Nat.lt_of_lt_of_le (by decide) hn) (sM_0 hT)) rfl 21 (by decide) (htg _ q_994) (fun _ h9 => h9) (oh_fv (c := C_6 0) (j := 21) rfl (Eq.trans (show gi (C_6 0) 21 = gi (C_3 0) 21 by rw [e_7]; rfl) (show gi (C_3 0) 21 = gi (K0 0) 21 by rw [e_4]; rfl))) dX7_look_52 ?_
      refine lv_aload_n hx hb dX7_look_55 rfl (lv_at hl 0 rfl) ?_
      refine va_get (D := D) (ci := 7) (v := .int (gi (C 0) 7)) (C := RX7) (T := TX7) (N := 29) hx hb htg ig_7 hown hK hP 0 (oh_wg (Nat.lt_of_lt_of_le (by decide) hn) (sM_0 hT)) rfl 7 (by decide) (htg _ q_980) (fun _ h9 => h9) (oh_fv (c := C_6 0) (j := 7) rfl (Eq.trans (show gi (C_6 0) 7 = gi (C_3 0) 7 by rw [e_7]; rfl) (Eq.trans (show gi (C_3 0) 7 = gi (K0 0) 7 by rw [e_4]; rfl) (congrArg vi (hLF_0.2 7 (by decide)))))) dX7_look_56 ?_
      refine lv_icmp_ne (tgt := 70) hx hb dX7_look_59 (by decide) (fun (c_9 : ¬ ((gi (K0 0) 21) = (gi (C 0) 7))) => ?_) (fun (c_9 : (gi (K0 0) 21) = (gi (C 0) 7)) => ?_)
      · refine lv_aload_n hx hb dX7_look_70 rfl (lv_at hl 0 rfl) ?_
        refine va_get (D := D) (ci := 7) (v := .ref (a 7)) (C := RX7) (T := TX7) (N := 29) hx hb htg ig_7 hown hK hP 0 (oh_wg (Nat.lt_of_lt_of_le (by decide) hn) (sM_0 hT)) rfl 6 (by decide) (htg _ q_979) (fun _ h9 => h9) rfl dX7_look_71 ?_
        refine lv_aload_n hx hb dX7_look_74 rfl (lv_at hl 0 rfl) ?_
        refine va_get (D := D) (ci := 7) (v := .int (gi (K0 0) 21)) (C := RX7) (T := TX7) (N := 29) hx hb htg ig_7 hown hK hP 0 (oh_wg (Nat.lt_of_lt_of_le (by decide) hn) (sM_0 hT)) rfl 21 (by decide) (htg _ q_994) (fun _ h9 => h9) (oh_fv (c := C_6 0) (j := 21) rfl (Eq.trans (show gi (C_6 0) 21 = gi (C_3 0) 21 by rw [e_7]; rfl) (show gi (C_3 0) 21 = gi (K0 0) 21 by rw [e_4]; rfl))) dX7_look_75 ?_
        have : (gi (K0 0) 7).toInt = (gi (C 0) 7).toInt := congrArg (fun z => (vi z).toInt) (hLF_0.2 7 (by decide))
        have : (gi (K0 0) 23).toInt = (gi (C 0) 23).toInt := congrArg (fun z => (vi z).toInt) (hLF_0.2 23 (by decide))
        have : (gi (K0 0) 13).toInt = (gi (C 0) 13).toInt := congrArg (fun z => (vi z).toInt) (hLF_0.2 13 (by decide))
        have : (gi (C_3 0) 21).toInt = (gi (K0 0) 21).toInt := congrArg Int32.toInt (show gi (C_3 0) 21 = gi (K0 0) 21 by rw [e_4]; rfl)
        have : (gi (C_3 0) 7).toInt = (gi (K0 0) 7).toInt := congrArg Int32.toInt (show gi (C_3 0) 7 = gi (K0 0) 7 by rw [e_4]; rfl)
        have : (gi (C_3 0) 23).toInt = (gi (K0 0) 21).toInt := congrArg Int32.toInt (show gi (C_3 0) 23 = (gi (K0 0) 21) by rw [e_4]; rfl)
        have : (gi (C_3 0) 13).toInt = (gi (K0 0) 13).toInt := congrArg Int32.toInt (show gi (C_3 0) 13 = gi (K0 0) 13 by rw [e_4]; rfl)
        have : (gi (C_6 0) 21).toInt = (gi (C_3 0) 21).toInt := congrArg Int32.toInt (show gi (C_6 0) 21 = gi (C_3 0) 21 by rw [e_7]; rfl)
        have : (gi (C_6 0) 7).toInt = (gi (C_3 0) 7).toInt := congrArg Int32.toInt (show gi (C_6 0) 7 = gi (C_3 0) 7 by rw [e_7]; rfl)
        have : (gi (C_6 0) 23).toInt = (gi (C_3 0) 23).toInt := congrArg Int32.toInt (show gi (C_6 0) 23 = gi (C_3 0) 23 by rw [e_7]; rfl)
        have : (gi (C_6 0) 13).toInt = (gi (C_3 0) 13).toInt := congrArg Int32.toInt (show gi (C_6 0) 13 = gi (C_3 0) 13 by rw [e_7]; rfl)
        have : 0 ≤ (gi (C 0) 21).toInt ∧ (gi (C 0) 21).toInt ≤ 250 := fM_0_21 hT0
        have : 0 ≤ (gi (C 0) 7).toInt ∧ (gi (C 0) 7).toInt ≤ 250 := fM_0_7 hT0
        have : 0 ≤ (gi (C 0) 23).toInt ∧ (gi (C 0) 23).toInt ≤ 250 := fM_0_23 hT0
        have : 0 ≤ (gi (C 0) 13).toInt ∧ (gi (C 0) 13).toInt ≤ 5 := fM_0_13 hT0
        have : 0 ≤ (gi (K0 0) 21).toInt ∧ (gi (K0 0) 21).toInt ≤ 250 := fM_0_21 t_1
        have : 0 ≤ (gi (K0 0) 7).toInt ∧ (gi (K0 0) 7).toInt ≤ 250 := fM_0_7 t_1
        have : 0 ≤ (gi (K0 0) 23).toInt ∧ (gi (K0 0) 23).toInt ≤ 250 := fM_0_23 t_1
        have : 0 ≤ (gi (K0 0) 13).toInt ∧ (gi (K0 0) 13).toInt ≤ 5 := fM_0_13 t_1
        have : 0 ≤ (gi (C_3 0) 21).toInt ∧ (gi (C_3 0) 21).toInt ≤ 250 := fM_0_21 t_5
        have : 0 ≤ (gi (C_3 0) 7).toInt ∧ (gi (C_3 0) 7).toInt ≤ 250 := fM_0_7 t_5
        have : 0 ≤ (gi (C_3 0) 23).toInt ∧ (gi (C_3 0) 23).toInt ≤ 250 := fM_0_23 t_5
        have : 0 ≤ (gi (C_3 0) 13).toInt ∧ (gi (C_3 0) 13).toInt ≤ 5 := fM_0_13 t_5
        have : 0 ≤ (gi (C_6 0) 21).toInt ∧ (gi (C_6 0) 21).toInt ≤ 250 := fM_0_21 t_8
        have : 0 ≤ (gi (C_6 0) 7).toInt ∧ (gi (C_6 0) 7).toInt ≤ 250 := fM_0_7 t_8
        have : 0 ≤ (gi (C_6 0) 23).toInt ∧ (gi (C_6 0) 23).toInt ≤ 250 := fM_0_23 t_8
        have : 0 ≤ (gi (C_6 0) 13).toInt ∧ (gi (C_6 0) 13).toInt ≤ 5 := fM_0_13 t_8
        have : (gi (C 0) 7).toInt ≤ (gi (K0 0) 21).toInt := Int32.le_iff_toInt_le.mp c_2
        have : ¬ (gi (K0 0) 21).toInt = (gi (C 0) 7).toInt := fun h7 => c_9 (Int32.toInt_inj.mp h7)
        have n_10 : vp_in (gi (K0 0) 21) 250 := (vp_in_iff.mpr ⟨by omega, by omega⟩)
        refine th_iald hx hb hK hP 7 (Nat.lt_of_lt_of_le (by decide) hn) (Eq.trans (Eq.trans (th_un e_7 (by decide)) (Eq.trans (th_un e_4 (by decide)) (hLF_0.1 7 rfl (by decide)))) (sM_7 hT0)) n_10 dX7_look_78 ?_
        refine tq_S (As := [.int (ga (C 7) (gi (K0 0) 21).toNatClampNeg)]) (rest := []) (ws := []) ⟨hx, hb, hml, hown, htg⟩ (c_X7_isLetter l D E G (ga (C 7) (gi (K0 0) 21).toNatClampNeg)) (va_cwS 1 htg (oh_gS q_1201 q_1202 q_73 q_1203) rfl rfl rfl pdX7_isLetter ⟨Nat.le_of_ble_eq_true rfl, Nat.le_of_ble_eq_true rfl⟩) hK va_nil hG hS rfl hl.1 rfl (Nat.le_of_ble_eq_true rfl) dX7_look_79 ⟨Nat.le_of_ble_eq_true rfl, Nat.le_of_ble_eq_true rfl⟩ (fun r_11 hq_12 => ?_)
        refine lv_if_eq (tgt := 129) hx hb dX7_look_82 (by decide) (fun (c_13 : r_11 = 0) => ?_) (fun (c_13 : ¬ (r_11 = 0)) => ?_)
        · refine lv_aload_n hx hb dX7_look_129 rfl (lv_at hl 0 rfl) ?_
          refine va_get (D := D) (ci := 7) (v := .ref (a 7)) (C := RX7) (T := TX7) (N := 29) hx hb htg ig_7 hown hK hP 0 (oh_wg (Nat.lt_of_lt_of_le (by decide) hn) (sM_0 hT)) rfl 6 (by decide) (htg _ q_979) (fun _ h9 => h9) rfl dX7_look_130 ?_
          refine lv_aload_n hx hb dX7_look_133 rfl (lv_at hl 0 rfl) ?_
          refine va_get (D := D) (ci := 7) (v := .int (gi (K0 0) 21)) (C := RX7) (T := TX7) (N := 29) hx hb htg ig_7 hown hK hP 0 (oh_wg (Nat.lt_of_lt_of_le (by decide) hn) (sM_0 hT)) rfl 21 (by decide) (htg _ q_994) (fun _ h9 => h9) (oh_fv (c := C_6 0) (j := 21) rfl (Eq.trans (show gi (C_6 0) 21 = gi (C_3 0) 21 by rw [e_7]; rfl) (show gi (C_3 0) 21 = gi (K0 0) 21 by rw [e_4]; rfl))) dX7_look_134 ?_
          have n_14 : vp_in (gi (K0 0) 21) 250 := (vp_in_iff.mpr ⟨by omega, by omega⟩)
          refine th_iald hx hb hK hP 7 (Nat.lt_of_lt_of_le (by decide) hn) (Eq.trans (Eq.trans (th_un e_7 (by decide)) (Eq.trans (th_un e_4 (by decide)) (hLF_0.1 7 rfl (by decide)))) (sM_7 hT0)) n_14 dX7_look_137 ?_
          refine tq_S (As := [.int (ga (C 7) (gi (K0 0) 21).toNatClampNeg)]) (rest := []) (ws := []) ⟨hx, hb, hml, hown, htg⟩ (c_X7_isDigit l D E G (ga (C 7) (gi (K0 0) 21).toNatClampNeg)) (va_cwS 1 htg (oh_gS q_1204 q_1205 q_73 q_1206) rfl rfl rfl pdX7_isDigit ⟨Nat.le_of_ble_eq_true rfl, Nat.le_of_ble_eq_true rfl⟩) hK va_nil hG hS rfl hl.1 rfl (Nat.le_of_ble_eq_true rfl) dX7_look_138 ⟨Nat.le_of_ble_eq_true rfl, Nat.le_of_ble_eq_true rfl⟩ (fun r_15 hq_16 => ?_)
          refine lv_if_eq (tgt := 234) hx hb dX7_look_141 (by decide) (fun (c_17 : r_15 = 0) => ?_) (fun (c_17 : ¬ (r_15 = 0)) => ?_)
          · refine lv_aload_n hx hb dX7_look_234 rfl (lv_at hl 0 rfl) ?_
            refine lv_aload_n hx hb dX7_look_235 rfl (lv_at hl 0 rfl) ?_
            refine va_get (D := D) (ci := 7) (v := .ref (a 7)) (C := RX7) (T := TX7) (N := 29) hx hb htg ig_7 hown hK hP 0 (oh_wg (Nat.lt_of_lt_of_le (by decide) hn) (sM_0 hT)) rfl 6 (by decide) (htg _ q_979) (fun _ h9 => h9) rfl dX7_look_236 ?_
            refine lv_aload_n hx hb dX7_look_239 rfl (lv_at hl 0 rfl) ?_
            refine va_get (D := D) (ci := 7) (v := .int (gi (K0 0) 21)) (C := RX7) (T := TX7) (N := 29) hx hb htg ig_7 hown hK hP 0 (oh_wg (Nat.lt_of_lt_of_le (by decide) hn) (sM_0 hT)) rfl 21 (by decide) (htg _ q_994) (fun _ h9 => h9) (oh_fv (c := C_6 0) (j := 21) rfl (Eq.trans (show gi (C_6 0) 21 = gi (C_3 0) 21 by rw [e_7]; rfl) (show gi (C_3 0) 21 = gi (K0 0) 21 by rw [e_4]; rfl))) dX7_look_240 ?_
            have n_18 : vp_in (gi (K0 0) 21) 250 := (vp_in_iff.mpr ⟨by omega, by omega⟩)
            refine th_iald hx hb hK hP 7 (Nat.lt_of_lt_of_le (by decide) hn) (Eq.trans (Eq.trans (th_un e_7 (by decide)) (Eq.trans (th_un e_4 (by decide)) (hLF_0.1 7 rfl (by decide)))) (sM_7 hT0)) n_18 dX7_look_243 ?_
            refine lv_bipush (v := 59) hx hb dX7_look_244 (by decide) ?_
            refine lv_icmp_ne (tgt := 253) hx hb dX7_look_246 (by decide) (fun (c_19 : ¬ ((ga (C 7) (gi (K0 0) 21).toNatClampNeg) = 59)) => ?_) (fun (c_19 : (ga (C 7) (gi (K0 0) 21).toNatClampNeg) = 59) => ?_)
            · refine lv_iconst (v := 4) hx hb dX7_look_253 (by decide) ?_
              refine th_put (Tp := TyM a E) (Rl := fr [] [21, 22, 23, 24] C) (ci := 7) (v := .int 4) (ty := .int) (CC := RX7) (T := TX7) (N := 29) hx hb htg ig_7 tyX7 tyX7_ok nmX7 hown hK hP hD hS 0 (Nat.lt_of_lt_of_le (by decide) hn) (sM_0 hT) rfl 22 (by decide) (htg _ q_995) (fun _ h9 => h9) rfl (by decide +kernel) rfl rfl (Nat.le_of_ble_eq_true rfl) (hT.up 0 (by decide) ⟨rfl, (fM_0_7 hT), (fM_0_9 hT), (fM_0_11 hT), (fM_0_13 hT), (fM_0_15 hT), (fM_0_21 hT), (fM_0_23 hT)⟩) (fr_fd hF (sM_0 hT) (by decide)) dX7_look_254 (fun C_20 H locs e_21 hT hF hP hD hS => ?_)
              have t_22 := hT
              refine lv_aload_n hx hb dX7_look_257 rfl (lv_at hl 0 rfl) ?_
              refine lv_dup hx hb dX7_look_258 rfl ?_
              refine va_get (D := D) (ci := 7) (v := .int (gi (K0 0) 21)) (C := RX7) (T := TX7) (N := 29) hx hb htg ig_7 hown hK hP 0 (oh_wg (Nat.lt_of_lt_of_le (by decide) hn) (sM_0 hT)) rfl 21 (by decide) (htg _ q_994) (fun _ h9 => h9) (oh_fv (c := C_20 0) (j := 21) rfl (Eq.trans (show gi (C_20 0) 21 = gi (C_6 0) 21 by rw [e_21]; rfl) (Eq.trans (show gi (C_6 0) 21 = gi (C_3 0) 21 by rw [e_7]; rfl) (show gi (C_3 0) 21 = gi (K0 0) 21 by rw [e_4]; rfl)))) dX7_look_259 ?_
              refine lv_iconst (v := 1) hx hb dX7_look_262 (by decide) ?_
              refine lv_iadd hx hb dX7_look_263 ?_
              have : (gi (C_20 0) 21).toInt = (gi (C_6 0) 21).toInt := congrArg Int32.toInt (show gi (C_20 0) 21 = gi (C_6 0) 21 by rw [e_21]; rfl)
              have : (gi (C_20 0) 7).toInt = (gi (C_6 0) 7).toInt := congrArg Int32.toInt (show gi (C_20 0) 7 = gi (C_6 0) 7 by rw [e_21]; rfl)
              have : (gi (C_20 0) 23).toInt = (gi (C_6 0) 23).toInt := congrArg Int32.toInt (show gi (C_20 0) 23 = gi (C_6 0) 23 by rw [e_21]; rfl)
              have : (gi (C_20 0) 13).toInt = (gi (C_6 0) 13).toInt := congrArg Int32.toInt (show gi (C_20 0) 13 = gi (C_6 0) 13 by rw [e_21]; rfl)
              have : 0 ≤ (gi (C_20 0) 21).toInt ∧ (gi (C_20 0) 21).toInt ≤ 250 := fM_0_21 t_22
              have : 0 ≤ (gi (C_20 0) 7).toInt ∧ (gi (C_20 0) 7).toInt ≤ 250 := fM_0_7 t_22
              have : 0 ≤ (gi (C_20 0) 23).toInt ∧ (gi (C_20 0) 23).toInt ≤ 250 := fM_0_23 t_22
              have : 0 ≤ (gi (C_20 0) 13).toInt ∧ (gi (C_20 0) 13).toInt ≤ 5 := fM_0_13 t_22
              have hpf_264 : rg (gi (K0 0) 21) 0 249 := ⟨by omega, by omega⟩
              refine th_put (Tp := TyM a E) (Rl := fr [] [21, 22, 23, 24] C) (ci := 7) (v := .int ((gi (K0 0) 21) + 1)) (ty := .int) (CC := RX7) (T := TX7) (N := 29) hx hb htg ig_7 tyX7 tyX7_ok nmX7 hown hK hP hD hS 0 (Nat.lt_of_lt_of_le (by decide) hn) (sM_0 hT) rfl 21 (by decide) (htg _ q_994) (fun _ h9 => h9) rfl (by decide +kernel) rfl rfl (Nat.le_of_ble_eq_true rfl) (hT.up 0 (by decide) ⟨rfl, (fM_0_7 hT), (fM_0_9 hT), (fM_0_11 hT), (fM_0_13 hT), (fM_0_15 hT), (rg_w (rg_add (lo := 1) (hi := 250) hpf_264 (rg_c (v := 1) (lo := 1) (hi := 1) (by decide)) (by decide)) (by decide)), (fM_0_23 hT)⟩) (fr_fd hF (sM_0 hT) (by decide)) dX7_look_264 (fun C_23 H locs e_24 hT hF hP hD hS => ?_)
              have t_25 := hT
              have : (gi (C_23 0) 21).toInt = ((gi (K0 0) 21) + 1).toInt := congrArg Int32.toInt (show gi (C_23 0) 21 = ((gi (K0 0) 21) + 1) by rw [e_24]; rfl)
              have : ((gi (K0 0) 21) + 1).toInt = (gi (K0 0) 21).toInt + 1 := oh_incr (fM_0_21 t_1) (by decide)
              have : (gi (C_23 0) 7).toInt = (gi (C_20 0) 7).toInt := congrArg Int32.toInt (show gi (C_23 0) 7 = gi (C_20 0) 7 by rw [e_24]; rfl)
              have : (gi (C_23 0) 23).toInt = (gi (C_20 0) 23).toInt := congrArg Int32.toInt (show gi (C_23 0) 23 = gi (C_20 0) 23 by rw [e_24]; rfl)
              have : (gi (C_23 0) 13).toInt = (gi (C_20 0) 13).toInt := congrArg Int32.toInt (show gi (C_23 0) 13 = gi (C_20 0) 13 by rw [e_24]; rfl)
              have : 0 ≤ (gi (C_23 0) 21).toInt ∧ (gi (C_23 0) 21).toInt ≤ 250 := fM_0_21 t_25
              have : 0 ≤ (gi (C_23 0) 7).toInt ∧ (gi (C_23 0) 7).toInt ≤ 250 := fM_0_7 t_25
              have : 0 ≤ (gi (C_23 0) 23).toInt ∧ (gi (C_23 0) 23).toInt ≤ 250 := fM_0_23 t_25
              have : 0 ≤ (gi (C_23 0) 13).toInt ∧ (gi (C_23 0) 13).toInt ≤ 5 := fM_0_13 t_25
              rw [hQ]
              exact W.vret hx hb hr (fun t ht hW => ⟨⟨C_23, rfl, ⟨hT, hF, ⟨(by omega), (by omega), (by omega)⟩⟩, ⟨by rw [ht]; exact hP, hD⟩⟩, hS.F ht⟩) hS.2.2 dX7_look_267
            · refine lv_iconst (v := 3) hx hb dX7_look_249 (by decide) ?_
              refine lv_goto (tgt := 254) hx hb dX7_look_250 (by decide) ?_
              refine th_put (Tp := TyM a E) (Rl := fr [] [21, 22, 23, 24] C) (ci := 7) (v := .int 3) (ty := .int) (CC := RX7) (T := TX7) (N := 29) hx hb htg ig_7 tyX7 tyX7_ok nmX7 hown hK hP hD hS 0 (Nat.lt_of_lt_of_le (by decide) hn) (sM_0 hT) rfl 22 (by decide) (htg _ q_995) (fun _ h9 => h9) rfl (by decide +kernel) rfl rfl (Nat.le_of_ble_eq_true rfl) (hT.up 0 (by decide) ⟨rfl, (fM_0_7 hT), (fM_0_9 hT), (fM_0_11 hT), (fM_0_13 hT), (fM_0_15 hT), (fM_0_21 hT), (fM_0_23 hT)⟩) (fr_fd hF (sM_0 hT) (by decide)) dX7_look_254 (fun C_26 H locs e_27 hT hF hP hD hS => ?_)
              have t_28 := hT
              refine lv_aload_n hx hb dX7_look_257 rfl (lv_at hl 0 rfl) ?_
              refine lv_dup hx hb dX7_look_258 rfl ?_
              refine va_get (D := D) (ci := 7) (v := .int (gi (K0 0) 21)) (C := RX7) (T := TX7) (N := 29) hx hb htg ig_7 hown hK hP 0 (oh_wg (Nat.lt_of_lt_of_le (by decide) hn) (sM_0 hT)) rfl 21 (by decide) (htg _ q_994) (fun _ h9 => h9) (oh_fv (c := C_26 0) (j := 21) rfl (Eq.trans (show gi (C_26 0) 21 = gi (C_6 0) 21 by rw [e_27]; rfl) (Eq.trans (show gi (C_6 0) 21 = gi (C_3 0) 21 by rw [e_7]; rfl) (show gi (C_3 0) 21 = gi (K0 0) 21 by rw [e_4]; rfl)))) dX7_look_259 ?_
              refine lv_iconst (v := 1) hx hb dX7_look_262 (by decide) ?_
              refine lv_iadd hx hb dX7_look_263 ?_
              have : (gi (C_26 0) 21).toInt = (gi (C_6 0) 21).toInt := congrArg Int32.toInt (show gi (C_26 0) 21 = gi (C_6 0) 21 by rw [e_27]; rfl)
              have : (gi (C_26 0) 7).toInt = (gi (C_6 0) 7).toInt := congrArg Int32.toInt (show gi (C_26 0) 7 = gi (C_6 0) 7 by rw [e_27]; rfl)
              have : (gi (C_26 0) 23).toInt = (gi (C_6 0) 23).toInt := congrArg Int32.toInt (show gi (C_26 0) 23 = gi (C_6 0) 23 by rw [e_27]; rfl)
              have : (gi (C_26 0) 13).toInt = (gi (C_6 0) 13).toInt := congrArg Int32.toInt (show gi (C_26 0) 13 = gi (C_6 0) 13 by rw [e_27]; rfl)
              have : 0 ≤ (gi (C_26 0) 21).toInt ∧ (gi (C_26 0) 21).toInt ≤ 250 := fM_0_21 t_28
              have : 0 ≤ (gi (C_26 0) 7).toInt ∧ (gi (C_26 0) 7).toInt ≤ 250 := fM_0_7 t_28
              have : 0 ≤ (gi (C_26 0) 23).toInt ∧ (gi (C_26 0) 23).toInt ≤ 250 := fM_0_23 t_28
              have : 0 ≤ (gi (C_26 0) 13).toInt ∧ (gi (C_26 0) 13).toInt ≤ 5 := fM_0_13 t_28
              have hpf_264 : rg (gi (K0 0) 21) 0 249 := ⟨by omega, by omega⟩
              refine th_put (Tp := TyM a E) (Rl := fr [] [21, 22, 23, 24] C) (ci := 7) (v := .int ((gi (K0 0) 21) + 1)) (ty := .int) (CC := RX7) (T := TX7) (N := 29) hx hb htg ig_7 tyX7 tyX7_ok nmX7 hown hK hP hD hS 0 (Nat.lt_of_lt_of_le (by decide) hn) (sM_0 hT) rfl 21 (by decide) (htg _ q_994) (fun _ h9 => h9) rfl (by decide +kernel) rfl rfl (Nat.le_of_ble_eq_true rfl) (hT.up 0 (by decide) ⟨rfl, (fM_0_7 hT), (fM_0_9 hT), (fM_0_11 hT), (fM_0_13 hT), (fM_0_15 hT), (rg_w (rg_add (lo := 1) (hi := 250) hpf_264 (rg_c (v := 1) (lo := 1) (hi := 1) (by decide)) (by decide)) (by decide)), (fM_0_23 hT)⟩) (fr_fd hF (sM_0 hT) (by decide)) dX7_look_264 (fun C_29 H locs e_30 hT hF hP hD hS => ?_)
              have t_31 := hT
              have : (gi (C_29 0) 21).toInt = ((gi (K0 0) 21) + 1).toInt := congrArg Int32.toInt (show gi (C_29 0) 21 = ((gi (K0 0) 21) + 1) by rw [e_30]; rfl)
              have : ((gi (K0 0) 21) + 1).toInt = (gi (K0 0) 21).toInt + 1 := oh_incr (fM_0_21 t_1) (by decide)
              have : (gi (C_29 0) 7).toInt = (gi (C_26 0) 7).toInt := congrArg Int32.toInt (show gi (C_29 0) 7 = gi (C_26 0) 7 by rw [e_30]; rfl)
              have : (gi (C_29 0) 23).toInt = (gi (C_26 0) 23).toInt := congrArg Int32.toInt (show gi (C_29 0) 23 = gi (C_26 0) 23 by rw [e_30]; rfl)
              have : (gi (C_29 0) 13).toInt = (gi (C_26 0) 13).toInt := congrArg Int32.toInt (show gi (C_29 0) 13 = gi (C_26 0) 13 by rw [e_30]; rfl)
              have : 0 ≤ (gi (C_29 0) 21).toInt ∧ (gi (C_29 0) 21).toInt ≤ 250 := fM_0_21 t_31
              have : 0 ≤ (gi (C_29 0) 7).toInt ∧ (gi (C_29 0) 7).toInt ≤ 250 := fM_0_7 t_31
              have : 0 ≤ (gi (C_29 0) 23).toInt ∧ (gi (C_29 0) 23).toInt ≤ 250 := fM_0_23 t_31
              have : 0 ≤ (gi (C_29 0) 13).toInt ∧ (gi (C_29 0) 13).toInt ≤ 5 := fM_0_13 t_31
              rw [hQ]
              exact W.vret hx hb hr (fun t ht hW => ⟨⟨C_29, rfl, ⟨hT, hF, ⟨(by omega), (by omega), (by omega)⟩⟩, ⟨by rw [ht]; exact hP, hD⟩⟩, hS.F ht⟩) hS.2.2 dX7_look_267
          · refine lv_aload_n hx hb dX7_look_144 rfl (lv_at hl 0 rfl) ?_
            refine lv_iconst (v := 2) hx hb dX7_look_145 (by decide) ?_
            refine th_put (Tp := TyM a E) (Rl := fr [] [21, 22, 23, 24] C) (ci := 7) (v := .int 2) (ty := .int) (CC := RX7) (T := TX7) (N := 29) hx hb htg ig_7 tyX7 tyX7_ok nmX7 hown hK hP hD hS 0 (Nat.lt_of_lt_of_le (by decide) hn) (sM_0 hT) rfl 22 (by decide) (htg _ q_995) (fun _ h9 => h9) rfl (by decide +kernel) rfl rfl (Nat.le_of_ble_eq_true rfl) (hT.up 0 (by decide) ⟨rfl, (fM_0_7 hT), (fM_0_9 hT), (fM_0_11 hT), (fM_0_13 hT), (fM_0_15 hT), (fM_0_21 hT), (fM_0_23 hT)⟩) (fr_fd hF (sM_0 hT) (by decide)) dX7_look_146 (fun C_32 H locs e_33 hT hF hP hD hS => ?_)
            have t_34 := hT
            have L_149 : ∀ (d : Nat) (K149 : Nat → va_E) (H : Heap) (locs : List Loc) (ls : Array Slot), (250 - (gi (K149 0) 21).toInt).toNat = d → ((gi (C 0) 21).toInt ≤ (gi (K149 0) 23).toInt ∧ (gi (K149 0) 23).toInt ≤ (gi (K149 0) 21).toInt ∧ (gi (K149 0) 21).toInt ≤ (gi (K149 0) 7).toInt) → TyM a E K149 → fr [] [21, 22, 23, 24] C K149 → fr [] [21, 24] C_32 K149 → va_P D vwCl (oh_W n a K149) H → va_D A (oh_W n a K149) → va_S A s.heap H locs → lv_has ls 1 [(0, .ref (a 0))] → W p l e ({ frames := 1, cells := 0, slots := 0, locals := 20 }) s m (([.ref (a 0)] : List Value).toArray) below meth c H locs 0 0 Q (F0 m 149 ls []) := by
              intro d
              induction d using Nat.strongRecOn with
              | ind d ih_149 =>
              intro K149  H locs ls hd_149 hv_149 hT hF hLF_149 hP hD hS hl
              have t_35 := hT
              refine lv_aload_n hx hb dX7_look_149 rfl (lv_at hl 0 rfl) ?_
              refine va_get (D := D) (ci := 7) (v := .int (gi (K149 0) 21)) (C := RX7) (T := TX7) (N := 29) hx hb htg ig_7 hown hK hP 0 (oh_wg (Nat.lt_of_lt_of_le (by decide) hn) (sM_0 hT)) rfl 21 (by decide) (htg _ q_994) (fun _ h9 => h9) rfl dX7_look_150 ?_
              refine lv_aload_n hx hb dX7_look_153 rfl (lv_at hl 0 rfl) ?_
              refine va_get (D := D) (ci := 7) (v := .int (gi (C 0) 7)) (C := RX7) (T := TX7) (N := 29) hx hb htg ig_7 hown hK hP 0 (oh_wg (Nat.lt_of_lt_of_le (by decide) hn) (sM_0 hT)) rfl 7 (by decide) (htg _ q_980) (fun _ h9 => h9) (oh_fv (c := K149 0) (j := 7) rfl (Eq.trans (congrArg vi (hLF_149.2 7 (by decide))) (Eq.trans (show gi (C_32 0) 7 = gi (C_6 0) 7 by rw [e_33]; rfl) (Eq.trans (show gi (C_6 0) 7 = gi (C_3 0) 7 by rw [e_7]; rfl) (Eq.trans (show gi (C_3 0) 7 = gi (K0 0) 7 by rw [e_4]; rfl) (congrArg vi (hLF_0.2 7 (by decide)))))))) dX7_look_154 ?_
              refine lv_icmp_ge (tgt := 267) hx hb dX7_look_157 (by decide) (fun (c_36 : (gi (C 0) 7) ≤ (gi (K149 0) 21)) => ?_) (fun (c_36 : ¬ ((gi (C 0) 7) ≤ (gi (K149 0) 21))) => ?_)
              · have : (gi (C_32 0) 21).toInt = (gi (C_6 0) 21).toInt := congrArg Int32.toInt (show gi (C_32 0) 21 = gi (C_6 0) 21 by rw [e_33]; rfl)
                have : (gi (C_32 0) 7).toInt = (gi (C_6 0) 7).toInt := congrArg Int32.toInt (show gi (C_32 0) 7 = gi (C_6 0) 7 by rw [e_33]; rfl)
                have : (gi (C_32 0) 23).toInt = (gi (C_6 0) 23).toInt := congrArg Int32.toInt (show gi (C_32 0) 23 = gi (C_6 0) 23 by rw [e_33]; rfl)
                have : (gi (C_32 0) 13).toInt = (gi (C_6 0) 13).toInt := congrArg Int32.toInt (show gi (C_32 0) 13 = gi (C_6 0) 13 by rw [e_33]; rfl)
                have : (gi (K149 0) 7).toInt = (gi (C_32 0) 7).toInt := congrArg (fun z => (vi z).toInt) (hLF_149.2 7 (by decide))
                have : (gi (K149 0) 23).toInt = (gi (C_32 0) 23).toInt := congrArg (fun z => (vi z).toInt) (hLF_149.2 23 (by decide))
                have : (gi (K149 0) 13).toInt = (gi (C_32 0) 13).toInt := congrArg (fun z => (vi z).toInt) (hLF_149.2 13 (by decide))
                have : 0 ≤ (gi (C_32 0) 21).toInt ∧ (gi (C_32 0) 21).toInt ≤ 250 := fM_0_21 t_34
                have : 0 ≤ (gi (C_32 0) 7).toInt ∧ (gi (C_32 0) 7).toInt ≤ 250 := fM_0_7 t_34
                have : 0 ≤ (gi (C_32 0) 23).toInt ∧ (gi (C_32 0) 23).toInt ≤ 250 := fM_0_23 t_34
                have : 0 ≤ (gi (C_32 0) 13).toInt ∧ (gi (C_32 0) 13).toInt ≤ 5 := fM_0_13 t_34
                have : 0 ≤ (gi (K149 0) 21).toInt ∧ (gi (K149 0) 21).toInt ≤ 250 := fM_0_21 t_35
                have : 0 ≤ (gi (K149 0) 7).toInt ∧ (gi (K149 0) 7).toInt ≤ 250 := fM_0_7 t_35
                have : 0 ≤ (gi (K149 0) 23).toInt ∧ (gi (K149 0) 23).toInt ≤ 250 := fM_0_23 t_35
                have : 0 ≤ (gi (K149 0) 13).toInt ∧ (gi (K149 0) 13).toInt ≤ 5 := fM_0_13 t_35
                have : (gi (C 0) 7).toInt ≤ (gi (K149 0) 21).toInt := Int32.le_iff_toInt_le.mp c_36
                rw [hQ]
                exact W.vret hx hb hr (fun t ht hW => ⟨⟨K149, rfl, ⟨hT, hF, ⟨(by omega), (by omega), (by omega)⟩⟩, ⟨by rw [ht]; exact hP, hD⟩⟩, hS.F ht⟩) hS.2.2 dX7_look_267
              · refine lv_aload_n hx hb dX7_look_160 rfl (lv_at hl 0 rfl) ?_
                refine va_get (D := D) (ci := 7) (v := .ref (a 7)) (C := RX7) (T := TX7) (N := 29) hx hb htg ig_7 hown hK hP 0 (oh_wg (Nat.lt_of_lt_of_le (by decide) hn) (sM_0 hT)) rfl 6 (by decide) (htg _ q_979) (fun _ h9 => h9) rfl dX7_look_161 ?_
                refine lv_aload_n hx hb dX7_look_164 rfl (lv_at hl 0 rfl) ?_
                refine va_get (D := D) (ci := 7) (v := .int (gi (K149 0) 21)) (C := RX7) (T := TX7) (N := 29) hx hb htg ig_7 hown hK hP 0 (oh_wg (Nat.lt_of_lt_of_le (by decide) hn) (sM_0 hT)) rfl 21 (by decide) (htg _ q_994) (fun _ h9 => h9) rfl dX7_look_165 ?_
                have : (gi (C_32 0) 21).toInt = (gi (C_6 0) 21).toInt := congrArg Int32.toInt (show gi (C_32 0) 21 = gi (C_6 0) 21 by rw [e_33]; rfl)
                have : (gi (C_32 0) 7).toInt = (gi (C_6 0) 7).toInt := congrArg Int32.toInt (show gi (C_32 0) 7 = gi (C_6 0) 7 by rw [e_33]; rfl)
                have : (gi (C_32 0) 23).toInt = (gi (C_6 0) 23).toInt := congrArg Int32.toInt (show gi (C_32 0) 23 = gi (C_6 0) 23 by rw [e_33]; rfl)
                have : (gi (C_32 0) 13).toInt = (gi (C_6 0) 13).toInt := congrArg Int32.toInt (show gi (C_32 0) 13 = gi (C_6 0) 13 by rw [e_33]; rfl)
                have : (gi (K149 0) 7).toInt = (gi (C_32 0) 7).toInt := congrArg (fun z => (vi z).toInt) (hLF_149.2 7 (by decide))
                have : (gi (K149 0) 23).toInt = (gi (C_32 0) 23).toInt := congrArg (fun z => (vi z).toInt) (hLF_149.2 23 (by decide))
                have : (gi (K149 0) 13).toInt = (gi (C_32 0) 13).toInt := congrArg (fun z => (vi z).toInt) (hLF_149.2 13 (by decide))
                have : 0 ≤ (gi (C_32 0) 21).toInt ∧ (gi (C_32 0) 21).toInt ≤ 250 := fM_0_21 t_34
                have : 0 ≤ (gi (C_32 0) 7).toInt ∧ (gi (C_32 0) 7).toInt ≤ 250 := fM_0_7 t_34
                have : 0 ≤ (gi (C_32 0) 23).toInt ∧ (gi (C_32 0) 23).toInt ≤ 250 := fM_0_23 t_34
                have : 0 ≤ (gi (C_32 0) 13).toInt ∧ (gi (C_32 0) 13).toInt ≤ 5 := fM_0_13 t_34
                have : 0 ≤ (gi (K149 0) 21).toInt ∧ (gi (K149 0) 21).toInt ≤ 250 := fM_0_21 t_35
                have : 0 ≤ (gi (K149 0) 7).toInt ∧ (gi (K149 0) 7).toInt ≤ 250 := fM_0_7 t_35
                have : 0 ≤ (gi (K149 0) 23).toInt ∧ (gi (K149 0) 23).toInt ≤ 250 := fM_0_23 t_35
                have : 0 ≤ (gi (K149 0) 13).toInt ∧ (gi (K149 0) 13).toInt ≤ 5 := fM_0_13 t_35
                have : (gi (K149 0) 21).toInt < (gi (C 0) 7).toInt := Int32.lt_iff_toInt_lt.mp (Int32.not_le.mp c_36)
                have n_37 : vp_in (gi (K149 0) 21) 250 := (vp_in_iff.mpr ⟨by omega, by omega⟩)
                refine th_iald hx hb hK hP 7 (Nat.lt_of_lt_of_le (by decide) hn) (Eq.trans (Eq.trans (hLF_149.1 7 rfl (by decide)) (Eq.trans (th_un e_33 (by decide)) (Eq.trans (th_un e_7 (by decide)) (Eq.trans (th_un e_4 (by decide)) (hLF_0.1 7 rfl (by decide)))))) (sM_7 hT0)) n_37 dX7_look_168 ?_
                refine tq_S (As := [.int (ga (C 7) (gi (K149 0) 21).toNatClampNeg)]) (rest := []) (ws := []) ⟨hx, hb, hml, hown, htg⟩ (c_X7_isDigit l D E G (ga (C 7) (gi (K149 0) 21).toNatClampNeg)) (va_cwS 1 htg (oh_gS q_1204 q_1205 q_73 q_1206) rfl rfl rfl pdX7_isDigit ⟨Nat.le_of_ble_eq_true rfl, Nat.le_of_ble_eq_true rfl⟩) hK va_nil hG hS rfl hl.1 rfl (Nat.le_of_ble_eq_true rfl) dX7_look_169 ⟨Nat.le_of_ble_eq_true rfl, Nat.le_of_ble_eq_true rfl⟩ (fun r_38 hq_39 => ?_)
                refine lv_if_eq (tgt := 267) hx hb dX7_look_172 (by decide) (fun (c_40 : r_38 = 0) => ?_) (fun (c_40 : ¬ (r_38 = 0)) => ?_)
                · rw [hQ]
                  exact W.vret hx hb hr (fun t ht hW => ⟨⟨K149, rfl, ⟨hT, hF, ⟨(by omega), (by omega), (by omega)⟩⟩, ⟨by rw [ht]; exact hP, hD⟩⟩, hS.F ht⟩) hS.2.2 dX7_look_267
                · refine lv_aload_n hx hb dX7_look_175 rfl (lv_at hl 0 rfl) ?_
                  refine lv_aload_n hx hb dX7_look_176 rfl (lv_at hl 0 rfl) ?_
                  refine va_get (D := D) (ci := 7) (v := .int (gi (K149 0) 21)) (C := RX7) (T := TX7) (N := 29) hx hb htg ig_7 hown hK hP 0 (oh_wg (Nat.lt_of_lt_of_le (by decide) hn) (sM_0 hT)) rfl 21 (by decide) (htg _ q_994) (fun _ h9 => h9) rfl dX7_look_177 ?_
                  refine lv_aload_n hx hb dX7_look_180 rfl (lv_at hl 0 rfl) ?_
                  refine va_get (D := D) (ci := 7) (v := .int (gi (K0 0) 21)) (C := RX7) (T := TX7) (N := 29) hx hb htg ig_7 hown hK hP 0 (oh_wg (Nat.lt_of_lt_of_le (by decide) hn) (sM_0 hT)) rfl 23 (by decide) (htg _ q_996) (fun _ h9 => h9) (oh_fv (c := K149 0) (j := 23) rfl (Eq.trans (congrArg vi (hLF_149.2 23 (by decide))) (Eq.trans (show gi (C_32 0) 23 = gi (C_6 0) 23 by rw [e_33]; rfl) (Eq.trans (show gi (C_6 0) 23 = gi (C_3 0) 23 by rw [e_7]; rfl) (show gi (C_3 0) 23 = (gi (K0 0) 21) by rw [e_4]; rfl))))) dX7_look_181 ?_
                  refine lv_isub hx hb dX7_look_184 ?_
                  refine lv_iconst (v := 3) hx hb dX7_look_185 (by decide) ?_
                  refine lv_icmp_ge (tgt := 215) hx hb dX7_look_186 (by decide) (fun (c_41 : (3 : Int32) ≤ ((gi (K149 0) 21) - (gi (K0 0) 21))) => ?_) (fun (c_41 : ¬ ((3 : Int32) ≤ ((gi (K149 0) 21) - (gi (K0 0) 21)))) => ?_)
                  · refine lv_ldc2 (v := 100000) hx hb hown (htg _ q_1209) dX7_look_215 ?_
                    refine th_put (Tp := TyM a E) (Rl := fr [] [21, 22, 23, 24] C) (ci := 7) (v := .long 100000) (ty := .long) (CC := RX7) (T := TX7) (N := 29) hx hb htg ig_7 tyX7 tyX7_ok nmX7 hown hK hP hD hS 0 (Nat.lt_of_lt_of_le (by decide) hn) (sM_0 hT) rfl 24 (by decide) (htg _ q_997) (fun _ h9 => h9) rfl (by decide +kernel) rfl rfl (Nat.le_of_ble_eq_true rfl) (hT.up 0 (by decide) ⟨rfl, (fM_0_7 hT), (fM_0_9 hT), (fM_0_11 hT), (fM_0_13 hT), (fM_0_15 hT), (fM_0_21 hT), (fM_0_23 hT)⟩) (fr_fd hF (sM_0 hT) (by decide)) dX7_look_218 (fun C_42 H locs e_43 hT hF hP hD hS => ?_)
                    have t_44 := hT
                    refine lv_aload_n hx hb dX7_look_221 rfl (lv_at hl 0 rfl) ?_
                    refine lv_dup hx hb dX7_look_222 rfl ?_
                    refine va_get (D := D) (ci := 7) (v := .int (gi (K149 0) 21)) (C := RX7) (T := TX7) (N := 29) hx hb htg ig_7 hown hK hP 0 (oh_wg (Nat.lt_of_lt_of_le (by decide) hn) (sM_0 hT)) rfl 21 (by decide) (htg _ q_994) (fun _ h9 => h9) (oh_fv (c := C_42 0) (j := 21) rfl (show gi (C_42 0) 21 = gi (K149 0) 21 by rw [e_43]; rfl)) dX7_look_223 ?_
                    refine lv_iconst (v := 1) hx hb dX7_look_226 (by decide) ?_
                    refine lv_iadd hx hb dX7_look_227 ?_
                    have : (gi (C_42 0) 21).toInt = (gi (K149 0) 21).toInt := congrArg Int32.toInt (show gi (C_42 0) 21 = gi (K149 0) 21 by rw [e_43]; rfl)
                    have : (gi (C_42 0) 7).toInt = (gi (K149 0) 7).toInt := congrArg Int32.toInt (show gi (C_42 0) 7 = gi (K149 0) 7 by rw [e_43]; rfl)
                    have : (gi (C_42 0) 23).toInt = (gi (K149 0) 23).toInt := congrArg Int32.toInt (show gi (C_42 0) 23 = gi (K149 0) 23 by rw [e_43]; rfl)
                    have : (gi (C_42 0) 13).toInt = (gi (K149 0) 13).toInt := congrArg Int32.toInt (show gi (C_42 0) 13 = gi (K149 0) 13 by rw [e_43]; rfl)
                    have : 0 ≤ (gi (C_42 0) 21).toInt ∧ (gi (C_42 0) 21).toInt ≤ 250 := fM_0_21 t_44
                    have : 0 ≤ (gi (C_42 0) 7).toInt ∧ (gi (C_42 0) 7).toInt ≤ 250 := fM_0_7 t_44
                    have : 0 ≤ (gi (C_42 0) 23).toInt ∧ (gi (C_42 0) 23).toInt ≤ 250 := fM_0_23 t_44
                    have : 0 ≤ (gi (C_42 0) 13).toInt ∧ (gi (C_42 0) 13).toInt ≤ 5 := fM_0_13 t_44
                    have hpf_228 : rg (gi (K149 0) 21) 0 249 := ⟨by omega, by omega⟩
                    refine th_put (Tp := TyM a E) (Rl := fr [] [21, 22, 23, 24] C) (ci := 7) (v := .int ((gi (K149 0) 21) + 1)) (ty := .int) (CC := RX7) (T := TX7) (N := 29) hx hb htg ig_7 tyX7 tyX7_ok nmX7 hown hK hP hD hS 0 (Nat.lt_of_lt_of_le (by decide) hn) (sM_0 hT) rfl 21 (by decide) (htg _ q_994) (fun _ h9 => h9) rfl (by decide +kernel) rfl rfl (Nat.le_of_ble_eq_true rfl) (hT.up 0 (by decide) ⟨rfl, (fM_0_7 hT), (fM_0_9 hT), (fM_0_11 hT), (fM_0_13 hT), (fM_0_15 hT), (rg_w (rg_add (lo := 1) (hi := 250) hpf_228 (rg_c (v := 1) (lo := 1) (hi := 1) (by decide)) (by decide)) (by decide)), (fM_0_23 hT)⟩) (fr_fd hF (sM_0 hT) (by decide)) dX7_look_228 (fun C_45 H locs e_46 hT hF hP hD hS => ?_)
                    have t_47 := hT
                    refine lv_goto (tgt := 149) hx hb dX7_look_231 (by decide) ?_
                    have : (gi (C_45 0) 21).toInt = ((gi (K149 0) 21) + 1).toInt := congrArg Int32.toInt (show gi (C_45 0) 21 = ((gi (K149 0) 21) + 1) by rw [e_46]; rfl)
                    have : ((gi (K149 0) 21) + 1).toInt = (gi (K149 0) 21).toInt + 1 := oh_incr (rn_ltu (u' := 249) (Int32.not_le.mp c_36) (fM_0_21 t_35) (fM_0_7 hT0) (by decide)) (by decide)
                    have : (gi (C_45 0) 7).toInt = (gi (C_42 0) 7).toInt := congrArg Int32.toInt (show gi (C_45 0) 7 = gi (C_42 0) 7 by rw [e_46]; rfl)
                    have : (gi (C_45 0) 23).toInt = (gi (C_42 0) 23).toInt := congrArg Int32.toInt (show gi (C_45 0) 23 = gi (C_42 0) 23 by rw [e_46]; rfl)
                    have : (gi (C_45 0) 13).toInt = (gi (C_42 0) 13).toInt := congrArg Int32.toInt (show gi (C_45 0) 13 = gi (C_42 0) 13 by rw [e_46]; rfl)
                    have : 0 ≤ (gi (C_45 0) 21).toInt ∧ (gi (C_45 0) 21).toInt ≤ 250 := fM_0_21 t_47
                    have : 0 ≤ (gi (C_45 0) 7).toInt ∧ (gi (C_45 0) 7).toInt ≤ 250 := fM_0_7 t_47
                    have : 0 ≤ (gi (C_45 0) 23).toInt ∧ (gi (C_45 0) 23).toInt ≤ 250 := fM_0_23 t_47
                    have : 0 ≤ (gi (C_45 0) 13).toInt ∧ (gi (C_45 0) 13).toInt ≤ 5 := fM_0_13 t_47
                    exact ih_149 _ (hd_149 ▸ (by rw [(show gi (C_45 0) 21 = ((gi (K149 0) 21) + 1) by rw [e_46]; rfl)]; exact mu_up 250 (rn_ltu (u' := 249) (Int32.not_le.mp c_36) (fM_0_21 t_35) (fM_0_7 hT0) (by decide)) (by decide))) C_45  _ _ ls rfl (by omega) hT hF (fr_fde (fr_fde hLF_149 e_43 (sM_0 t_35) (by decide)) e_46 (sM_0 t_44) (by decide)) hP hD hS (lv_sub hl [0] rfl)
                  · refine lv_aload_n hx hb dX7_look_189 rfl (lv_at hl 0 rfl) ?_
                    refine va_get (D := D) (ci := 7) (v := .long (gl (K149 0) 24)) (C := RX7) (T := TX7) (N := 29) hx hb htg ig_7 hown hK hP 0 (oh_wg (Nat.lt_of_lt_of_le (by decide) hn) (sM_0 hT)) rfl 24 (by decide) (htg _ q_997) (fun _ h9 => h9) rfl dX7_look_190 ?_
                    refine lv_ldc2 (v := 10) hx hb hown (htg _ q_1207) dX7_look_193 ?_
                    refine lv_lmul hx hb dX7_look_196 ?_
                    refine lv_aload_n hx hb dX7_look_197 rfl (lv_at hl 0 rfl) ?_
                    refine va_get (D := D) (ci := 7) (v := .ref (a 7)) (C := RX7) (T := TX7) (N := 29) hx hb htg ig_7 hown hK hP 0 (oh_wg (Nat.lt_of_lt_of_le (by decide) hn) (sM_0 hT)) rfl 6 (by decide) (htg _ q_979) (fun _ h9 => h9) rfl dX7_look_198 ?_
                    refine lv_aload_n hx hb dX7_look_201 rfl (lv_at hl 0 rfl) ?_
                    refine va_get (D := D) (ci := 7) (v := .int (gi (K149 0) 21)) (C := RX7) (T := TX7) (N := 29) hx hb htg ig_7 hown hK hP 0 (oh_wg (Nat.lt_of_lt_of_le (by decide) hn) (sM_0 hT)) rfl 21 (by decide) (htg _ q_994) (fun _ h9 => h9) rfl dX7_look_202 ?_
                    have n_48 : vp_in (gi (K149 0) 21) 250 := (vp_in_iff.mpr ⟨by omega, by omega⟩)
                    refine th_iald hx hb hK hP 7 (Nat.lt_of_lt_of_le (by decide) hn) (Eq.trans (Eq.trans (hLF_149.1 7 rfl (by decide)) (Eq.trans (th_un e_33 (by decide)) (Eq.trans (th_un e_7 (by decide)) (Eq.trans (th_un e_4 (by decide)) (hLF_0.1 7 rfl (by decide)))))) (sM_7 hT0)) n_48 dX7_look_205 ?_
                    refine lv_i2l (v := Int32.toInt64 (ga (C 7) (gi (K149 0) 21).toNatClampNeg)) hx hb dX7_look_206 (by rfl) ?_
                    refine lv_ladd hx hb dX7_look_207 ?_
                    refine lv_ldc2 (v := 48) hx hb hown (htg _ q_1208) dX7_look_208 ?_
                    refine lv_lsub hx hb dX7_look_211 ?_
                    refine lv_goto (tgt := 218) hx hb dX7_look_212 (by decide) ?_
                    refine th_put (Tp := TyM a E) (Rl := fr [] [21, 22, 23, 24] C) (ci := 7) (v := .long ((((gl (K149 0) 24) * 10) + (Int32.toInt64 (ga (C 7) (gi (K149 0) 21).toNatClampNeg))) - 48)) (ty := .long) (CC := RX7) (T := TX7) (N := 29) hx hb htg ig_7 tyX7 tyX7_ok nmX7 hown hK hP hD hS 0 (Nat.lt_of_lt_of_le (by decide) hn) (sM_0 hT) rfl 24 (by decide) (htg _ q_997) (fun _ h9 => h9) rfl (by decide +kernel) rfl rfl (Nat.le_of_ble_eq_true rfl) (hT.up 0 (by decide) ⟨rfl, (fM_0_7 hT), (fM_0_9 hT), (fM_0_11 hT), (fM_0_13 hT), (fM_0_15 hT), (fM_0_21 hT), (fM_0_23 hT)⟩) (fr_fd hF (sM_0 hT) (by decide)) dX7_look_218 (fun C_49 H locs e_50 hT hF hP hD hS => ?_)
                    have t_51 := hT
                    refine lv_aload_n hx hb dX7_look_221 rfl (lv_at hl 0 rfl) ?_
                    refine lv_dup hx hb dX7_look_222 rfl ?_
                    refine va_get (D := D) (ci := 7) (v := .int (gi (K149 0) 21)) (C := RX7) (T := TX7) (N := 29) hx hb htg ig_7 hown hK hP 0 (oh_wg (Nat.lt_of_lt_of_le (by decide) hn) (sM_0 hT)) rfl 21 (by decide) (htg _ q_994) (fun _ h9 => h9) (oh_fv (c := C_49 0) (j := 21) rfl (show gi (C_49 0) 21 = gi (K149 0) 21 by rw [e_50]; rfl)) dX7_look_223 ?_
                    refine lv_iconst (v := 1) hx hb dX7_look_226 (by decide) ?_
                    refine lv_iadd hx hb dX7_look_227 ?_
                    have : (gi (C_49 0) 21).toInt = (gi (K149 0) 21).toInt := congrArg Int32.toInt (show gi (C_49 0) 21 = gi (K149 0) 21 by rw [e_50]; rfl)
                    have : (gi (C_49 0) 7).toInt = (gi (K149 0) 7).toInt := congrArg Int32.toInt (show gi (C_49 0) 7 = gi (K149 0) 7 by rw [e_50]; rfl)
                    have : (gi (C_49 0) 23).toInt = (gi (K149 0) 23).toInt := congrArg Int32.toInt (show gi (C_49 0) 23 = gi (K149 0) 23 by rw [e_50]; rfl)
                    have : (gi (C_49 0) 13).toInt = (gi (K149 0) 13).toInt := congrArg Int32.toInt (show gi (C_49 0) 13 = gi (K149 0) 13 by rw [e_50]; rfl)
                    have : 0 ≤ (gi (C_49 0) 21).toInt ∧ (gi (C_49 0) 21).toInt ≤ 250 := fM_0_21 t_51
                    have : 0 ≤ (gi (C_49 0) 7).toInt ∧ (gi (C_49 0) 7).toInt ≤ 250 := fM_0_7 t_51
                    have : 0 ≤ (gi (C_49 0) 23).toInt ∧ (gi (C_49 0) 23).toInt ≤ 250 := fM_0_23 t_51
                    have : 0 ≤ (gi (C_49 0) 13).toInt ∧ (gi (C_49 0) 13).toInt ≤ 5 := fM_0_13 t_51
                    have hpf_228 : rg (gi (K149 0) 21) 0 249 := ⟨by omega, by omega⟩
                    refine th_put (Tp := TyM a E) (Rl := fr [] [21, 22, 23, 24] C) (ci := 7) (v := .int ((gi (K149 0) 21) + 1)) (ty := .int) (CC := RX7) (T := TX7) (N := 29) hx hb htg ig_7 tyX7 tyX7_ok nmX7 hown hK hP hD hS 0 (Nat.lt_of_lt_of_le (by decide) hn) (sM_0 hT) rfl 21 (by decide) (htg _ q_994) (fun _ h9 => h9) rfl (by decide +kernel) rfl rfl (Nat.le_of_ble_eq_true rfl) (hT.up 0 (by decide) ⟨rfl, (fM_0_7 hT), (fM_0_9 hT), (fM_0_11 hT), (fM_0_13 hT), (fM_0_15 hT), (rg_w (rg_add (lo := 1) (hi := 250) hpf_228 (rg_c (v := 1) (lo := 1) (hi := 1) (by decide)) (by decide)) (by decide)), (fM_0_23 hT)⟩) (fr_fd hF (sM_0 hT) (by decide)) dX7_look_228 (fun C_52 H locs e_53 hT hF hP hD hS => ?_)
                    have t_54 := hT
                    refine lv_goto (tgt := 149) hx hb dX7_look_231 (by decide) ?_
                    have : (gi (C_52 0) 21).toInt = ((gi (K149 0) 21) + 1).toInt := congrArg Int32.toInt (show gi (C_52 0) 21 = ((gi (K149 0) 21) + 1) by rw [e_53]; rfl)
                    have : ((gi (K149 0) 21) + 1).toInt = (gi (K149 0) 21).toInt + 1 := oh_incr (rn_ltu (u' := 249) (Int32.not_le.mp c_36) (fM_0_21 t_35) (fM_0_7 hT0) (by decide)) (by decide)
                    have : (gi (C_52 0) 7).toInt = (gi (C_49 0) 7).toInt := congrArg Int32.toInt (show gi (C_52 0) 7 = gi (C_49 0) 7 by rw [e_53]; rfl)
                    have : (gi (C_52 0) 23).toInt = (gi (C_49 0) 23).toInt := congrArg Int32.toInt (show gi (C_52 0) 23 = gi (C_49 0) 23 by rw [e_53]; rfl)
                    have : (gi (C_52 0) 13).toInt = (gi (C_49 0) 13).toInt := congrArg Int32.toInt (show gi (C_52 0) 13 = gi (C_49 0) 13 by rw [e_53]; rfl)
                    have : 0 ≤ (gi (C_52 0) 21).toInt ∧ (gi (C_52 0) 21).toInt ≤ 250 := fM_0_21 t_54
                    have : 0 ≤ (gi (C_52 0) 7).toInt ∧ (gi (C_52 0) 7).toInt ≤ 250 := fM_0_7 t_54
                    have : 0 ≤ (gi (C_52 0) 23).toInt ∧ (gi (C_52 0) 23).toInt ≤ 250 := fM_0_23 t_54
                    have : 0 ≤ (gi (C_52 0) 13).toInt ∧ (gi (C_52 0) 13).toInt ≤ 5 := fM_0_13 t_54
                    exact ih_149 _ (hd_149 ▸ (by rw [(show gi (C_52 0) 21 = ((gi (K149 0) 21) + 1) by rw [e_53]; rfl)]; exact mu_up 250 (rn_ltu (u' := 249) (Int32.not_le.mp c_36) (fM_0_21 t_35) (fM_0_7 hT0) (by decide)) (by decide))) C_52  _ _ ls rfl (by omega) hT hF (fr_fde (fr_fde hLF_149 e_50 (sM_0 t_35) (by decide)) e_53 (sM_0 t_51) (by decide)) hP hD hS (lv_sub hl [0] rfl)
            have : (gi (C_32 0) 21).toInt = (gi (C_6 0) 21).toInt := congrArg Int32.toInt (show gi (C_32 0) 21 = gi (C_6 0) 21 by rw [e_33]; rfl)
            have : (gi (C_32 0) 7).toInt = (gi (C_6 0) 7).toInt := congrArg Int32.toInt (show gi (C_32 0) 7 = gi (C_6 0) 7 by rw [e_33]; rfl)
            have : (gi (C_32 0) 23).toInt = (gi (C_6 0) 23).toInt := congrArg Int32.toInt (show gi (C_32 0) 23 = gi (C_6 0) 23 by rw [e_33]; rfl)
            have : (gi (C_32 0) 13).toInt = (gi (C_6 0) 13).toInt := congrArg Int32.toInt (show gi (C_32 0) 13 = gi (C_6 0) 13 by rw [e_33]; rfl)
            have : 0 ≤ (gi (C_32 0) 21).toInt ∧ (gi (C_32 0) 21).toInt ≤ 250 := fM_0_21 t_34
            have : 0 ≤ (gi (C_32 0) 7).toInt ∧ (gi (C_32 0) 7).toInt ≤ 250 := fM_0_7 t_34
            have : 0 ≤ (gi (C_32 0) 23).toInt ∧ (gi (C_32 0) 23).toInt ≤ 250 := fM_0_23 t_34
            have : 0 ≤ (gi (C_32 0) 13).toInt ∧ (gi (C_32 0) 13).toInt ≤ 5 := fM_0_13 t_34
            exact L_149 _ C_32  _ _ ls rfl (by omega) hT hF fr_rf hP hD hS (lv_sub hl [0] rfl)
        · refine lv_aload_n hx hb dX7_look_85 rfl (lv_at hl 0 rfl) ?_
          refine lv_iconst (v := 1) hx hb dX7_look_86 (by decide) ?_
          refine th_put (Tp := TyM a E) (Rl := fr [] [21, 22, 23, 24] C) (ci := 7) (v := .int 1) (ty := .int) (CC := RX7) (T := TX7) (N := 29) hx hb htg ig_7 tyX7 tyX7_ok nmX7 hown hK hP hD hS 0 (Nat.lt_of_lt_of_le (by decide) hn) (sM_0 hT) rfl 22 (by decide) (htg _ q_995) (fun _ h9 => h9) rfl (by decide +kernel) rfl rfl (Nat.le_of_ble_eq_true rfl) (hT.up 0 (by decide) ⟨rfl, (fM_0_7 hT), (fM_0_9 hT), (fM_0_11 hT), (fM_0_13 hT), (fM_0_15 hT), (fM_0_21 hT), (fM_0_23 hT)⟩) (fr_fd hF (sM_0 hT) (by decide)) dX7_look_87 (fun C_55 H locs e_56 hT hF hP hD hS => ?_)
          have t_57 := hT
          have L_90 : ∀ (d : Nat) (K90 : Nat → va_E) (H : Heap) (locs : List Loc) (ls : Array Slot), (250 - (gi (K90 0) 21).toInt).toNat = d → ((gi (C 0) 21).toInt ≤ (gi (K90 0) 23).toInt ∧ (gi (K90 0) 23).toInt ≤ (gi (K90 0) 21).toInt ∧ (gi (K90 0) 21).toInt ≤ (gi (K90 0) 7).toInt) → TyM a E K90 → fr [] [21, 22, 23, 24] C K90 → fr [] [21] C_55 K90 → va_P D vwCl (oh_W n a K90) H → va_D A (oh_W n a K90) → va_S A s.heap H locs → lv_has ls 1 [(0, .ref (a 0))] → W p l e ({ frames := 1, cells := 0, slots := 0, locals := 20 }) s m (([.ref (a 0)] : List Value).toArray) below meth c H locs 0 0 Q (F0 m 90 ls []) := by
            intro d
            induction d using Nat.strongRecOn with
            | ind d ih_90 =>
            intro K90  H locs ls hd_90 hv_90 hT hF hLF_90 hP hD hS hl
            have t_58 := hT
            refine lv_aload_n hx hb dX7_look_90 rfl (lv_at hl 0 rfl) ?_
            refine va_get (D := D) (ci := 7) (v := .int (gi (K90 0) 21)) (C := RX7) (T := TX7) (N := 29) hx hb htg ig_7 hown hK hP 0 (oh_wg (Nat.lt_of_lt_of_le (by decide) hn) (sM_0 hT)) rfl 21 (by decide) (htg _ q_994) (fun _ h9 => h9) rfl dX7_look_91 ?_
            refine lv_aload_n hx hb dX7_look_94 rfl (lv_at hl 0 rfl) ?_
            refine va_get (D := D) (ci := 7) (v := .int (gi (C 0) 7)) (C := RX7) (T := TX7) (N := 29) hx hb htg ig_7 hown hK hP 0 (oh_wg (Nat.lt_of_lt_of_le (by decide) hn) (sM_0 hT)) rfl 7 (by decide) (htg _ q_980) (fun _ h9 => h9) (oh_fv (c := K90 0) (j := 7) rfl (Eq.trans (congrArg vi (hLF_90.2 7 (by decide))) (Eq.trans (show gi (C_55 0) 7 = gi (C_6 0) 7 by rw [e_56]; rfl) (Eq.trans (show gi (C_6 0) 7 = gi (C_3 0) 7 by rw [e_7]; rfl) (Eq.trans (show gi (C_3 0) 7 = gi (K0 0) 7 by rw [e_4]; rfl) (congrArg vi (hLF_0.2 7 (by decide)))))))) dX7_look_95 ?_
            refine lv_icmp_ge (tgt := 267) hx hb dX7_look_98 (by decide) (fun (c_59 : (gi (C 0) 7) ≤ (gi (K90 0) 21)) => ?_) (fun (c_59 : ¬ ((gi (C 0) 7) ≤ (gi (K90 0) 21))) => ?_)
            · have : (gi (C_55 0) 21).toInt = (gi (C_6 0) 21).toInt := congrArg Int32.toInt (show gi (C_55 0) 21 = gi (C_6 0) 21 by rw [e_56]; rfl)
              have : (gi (C_55 0) 7).toInt = (gi (C_6 0) 7).toInt := congrArg Int32.toInt (show gi (C_55 0) 7 = gi (C_6 0) 7 by rw [e_56]; rfl)
              have : (gi (C_55 0) 23).toInt = (gi (C_6 0) 23).toInt := congrArg Int32.toInt (show gi (C_55 0) 23 = gi (C_6 0) 23 by rw [e_56]; rfl)
              have : (gi (C_55 0) 13).toInt = (gi (C_6 0) 13).toInt := congrArg Int32.toInt (show gi (C_55 0) 13 = gi (C_6 0) 13 by rw [e_56]; rfl)
              have : (gi (K90 0) 7).toInt = (gi (C_55 0) 7).toInt := congrArg (fun z => (vi z).toInt) (hLF_90.2 7 (by decide))
              have : (gi (K90 0) 23).toInt = (gi (C_55 0) 23).toInt := congrArg (fun z => (vi z).toInt) (hLF_90.2 23 (by decide))
              have : (gi (K90 0) 13).toInt = (gi (C_55 0) 13).toInt := congrArg (fun z => (vi z).toInt) (hLF_90.2 13 (by decide))
              have : 0 ≤ (gi (C_55 0) 21).toInt ∧ (gi (C_55 0) 21).toInt ≤ 250 := fM_0_21 t_57
              have : 0 ≤ (gi (C_55 0) 7).toInt ∧ (gi (C_55 0) 7).toInt ≤ 250 := fM_0_7 t_57
              have : 0 ≤ (gi (C_55 0) 23).toInt ∧ (gi (C_55 0) 23).toInt ≤ 250 := fM_0_23 t_57
              have : 0 ≤ (gi (C_55 0) 13).toInt ∧ (gi (C_55 0) 13).toInt ≤ 5 := fM_0_13 t_57
              have : 0 ≤ (gi (K90 0) 21).toInt ∧ (gi (K90 0) 21).toInt ≤ 250 := fM_0_21 t_58
              have : 0 ≤ (gi (K90 0) 7).toInt ∧ (gi (K90 0) 7).toInt ≤ 250 := fM_0_7 t_58
              have : 0 ≤ (gi (K90 0) 23).toInt ∧ (gi (K90 0) 23).toInt ≤ 250 := fM_0_23 t_58
              have : 0 ≤ (gi (K90 0) 13).toInt ∧ (gi (K90 0) 13).toInt ≤ 5 := fM_0_13 t_58
              have : (gi (C 0) 7).toInt ≤ (gi (K90 0) 21).toInt := Int32.le_iff_toInt_le.mp c_59
              rw [hQ]
              exact W.vret hx hb hr (fun t ht hW => ⟨⟨K90, rfl, ⟨hT, hF, ⟨(by omega), (by omega), (by omega)⟩⟩, ⟨by rw [ht]; exact hP, hD⟩⟩, hS.F ht⟩) hS.2.2 dX7_look_267
            · refine lv_aload_n hx hb dX7_look_101 rfl (lv_at hl 0 rfl) ?_
              refine va_get (D := D) (ci := 7) (v := .ref (a 7)) (C := RX7) (T := TX7) (N := 29) hx hb htg ig_7 hown hK hP 0 (oh_wg (Nat.lt_of_lt_of_le (by decide) hn) (sM_0 hT)) rfl 6 (by decide) (htg _ q_979) (fun _ h9 => h9) rfl dX7_look_102 ?_
              refine lv_aload_n hx hb dX7_look_105 rfl (lv_at hl 0 rfl) ?_
              refine va_get (D := D) (ci := 7) (v := .int (gi (K90 0) 21)) (C := RX7) (T := TX7) (N := 29) hx hb htg ig_7 hown hK hP 0 (oh_wg (Nat.lt_of_lt_of_le (by decide) hn) (sM_0 hT)) rfl 21 (by decide) (htg _ q_994) (fun _ h9 => h9) rfl dX7_look_106 ?_
              have : (gi (C_55 0) 21).toInt = (gi (C_6 0) 21).toInt := congrArg Int32.toInt (show gi (C_55 0) 21 = gi (C_6 0) 21 by rw [e_56]; rfl)
              have : (gi (C_55 0) 7).toInt = (gi (C_6 0) 7).toInt := congrArg Int32.toInt (show gi (C_55 0) 7 = gi (C_6 0) 7 by rw [e_56]; rfl)
              have : (gi (C_55 0) 23).toInt = (gi (C_6 0) 23).toInt := congrArg Int32.toInt (show gi (C_55 0) 23 = gi (C_6 0) 23 by rw [e_56]; rfl)
              have : (gi (C_55 0) 13).toInt = (gi (C_6 0) 13).toInt := congrArg Int32.toInt (show gi (C_55 0) 13 = gi (C_6 0) 13 by rw [e_56]; rfl)
              have : (gi (K90 0) 7).toInt = (gi (C_55 0) 7).toInt := congrArg (fun z => (vi z).toInt) (hLF_90.2 7 (by decide))
              have : (gi (K90 0) 23).toInt = (gi (C_55 0) 23).toInt := congrArg (fun z => (vi z).toInt) (hLF_90.2 23 (by decide))
              have : (gi (K90 0) 13).toInt = (gi (C_55 0) 13).toInt := congrArg (fun z => (vi z).toInt) (hLF_90.2 13 (by decide))
              have : 0 ≤ (gi (C_55 0) 21).toInt ∧ (gi (C_55 0) 21).toInt ≤ 250 := fM_0_21 t_57
              have : 0 ≤ (gi (C_55 0) 7).toInt ∧ (gi (C_55 0) 7).toInt ≤ 250 := fM_0_7 t_57
              have : 0 ≤ (gi (C_55 0) 23).toInt ∧ (gi (C_55 0) 23).toInt ≤ 250 := fM_0_23 t_57
              have : 0 ≤ (gi (C_55 0) 13).toInt ∧ (gi (C_55 0) 13).toInt ≤ 5 := fM_0_13 t_57
              have : 0 ≤ (gi (K90 0) 21).toInt ∧ (gi (K90 0) 21).toInt ≤ 250 := fM_0_21 t_58
              have : 0 ≤ (gi (K90 0) 7).toInt ∧ (gi (K90 0) 7).toInt ≤ 250 := fM_0_7 t_58
              have : 0 ≤ (gi (K90 0) 23).toInt ∧ (gi (K90 0) 23).toInt ≤ 250 := fM_0_23 t_58
              have : 0 ≤ (gi (K90 0) 13).toInt ∧ (gi (K90 0) 13).toInt ≤ 5 := fM_0_13 t_58
              have : (gi (K90 0) 21).toInt < (gi (C 0) 7).toInt := Int32.lt_iff_toInt_lt.mp (Int32.not_le.mp c_59)
              have n_60 : vp_in (gi (K90 0) 21) 250 := (vp_in_iff.mpr ⟨by omega, by omega⟩)
              refine th_iald hx hb hK hP 7 (Nat.lt_of_lt_of_le (by decide) hn) (Eq.trans (Eq.trans (hLF_90.1 7 rfl (by decide)) (Eq.trans (th_un e_56 (by decide)) (Eq.trans (th_un e_7 (by decide)) (Eq.trans (th_un e_4 (by decide)) (hLF_0.1 7 rfl (by decide)))))) (sM_7 hT0)) n_60 dX7_look_109 ?_
              refine tq_S (As := [.int (ga (C 7) (gi (K90 0) 21).toNatClampNeg)]) (rest := []) (ws := []) ⟨hx, hb, hml, hown, htg⟩ (c_X7_isLetter l D E G (ga (C 7) (gi (K90 0) 21).toNatClampNeg)) (va_cwS 1 htg (oh_gS q_1201 q_1202 q_73 q_1203) rfl rfl rfl pdX7_isLetter ⟨Nat.le_of_ble_eq_true rfl, Nat.le_of_ble_eq_true rfl⟩) hK va_nil hG hS rfl hl.1 rfl (Nat.le_of_ble_eq_true rfl) dX7_look_110 ⟨Nat.le_of_ble_eq_true rfl, Nat.le_of_ble_eq_true rfl⟩ (fun r_61 hq_62 => ?_)
              refine lv_if_eq (tgt := 267) hx hb dX7_look_113 (by decide) (fun (c_63 : r_61 = 0) => ?_) (fun (c_63 : ¬ (r_61 = 0)) => ?_)
              · rw [hQ]
                exact W.vret hx hb hr (fun t ht hW => ⟨⟨K90, rfl, ⟨hT, hF, ⟨(by omega), (by omega), (by omega)⟩⟩, ⟨by rw [ht]; exact hP, hD⟩⟩, hS.F ht⟩) hS.2.2 dX7_look_267
              · refine lv_aload_n hx hb dX7_look_116 rfl (lv_at hl 0 rfl) ?_
                refine lv_dup hx hb dX7_look_117 rfl ?_
                refine va_get (D := D) (ci := 7) (v := .int (gi (K90 0) 21)) (C := RX7) (T := TX7) (N := 29) hx hb htg ig_7 hown hK hP 0 (oh_wg (Nat.lt_of_lt_of_le (by decide) hn) (sM_0 hT)) rfl 21 (by decide) (htg _ q_994) (fun _ h9 => h9) rfl dX7_look_118 ?_
                refine lv_iconst (v := 1) hx hb dX7_look_121 (by decide) ?_
                refine lv_iadd hx hb dX7_look_122 ?_
                have hpf_123 : rg (gi (K90 0) 21) 0 249 := ⟨by omega, by omega⟩
                refine th_put (Tp := TyM a E) (Rl := fr [] [21, 22, 23, 24] C) (ci := 7) (v := .int ((gi (K90 0) 21) + 1)) (ty := .int) (CC := RX7) (T := TX7) (N := 29) hx hb htg ig_7 tyX7 tyX7_ok nmX7 hown hK hP hD hS 0 (Nat.lt_of_lt_of_le (by decide) hn) (sM_0 hT) rfl 21 (by decide) (htg _ q_994) (fun _ h9 => h9) rfl (by decide +kernel) rfl rfl (Nat.le_of_ble_eq_true rfl) (hT.up 0 (by decide) ⟨rfl, (fM_0_7 hT), (fM_0_9 hT), (fM_0_11 hT), (fM_0_13 hT), (fM_0_15 hT), (rg_w (rg_add (lo := 1) (hi := 250) hpf_123 (rg_c (v := 1) (lo := 1) (hi := 1) (by decide)) (by decide)) (by decide)), (fM_0_23 hT)⟩) (fr_fd hF (sM_0 hT) (by decide)) dX7_look_123 (fun C_64 H locs e_65 hT hF hP hD hS => ?_)
                have t_66 := hT
                refine lv_goto (tgt := 90) hx hb dX7_look_126 (by decide) ?_
                have : (gi (C_64 0) 21).toInt = ((gi (K90 0) 21) + 1).toInt := congrArg Int32.toInt (show gi (C_64 0) 21 = ((gi (K90 0) 21) + 1) by rw [e_65]; rfl)
                have : ((gi (K90 0) 21) + 1).toInt = (gi (K90 0) 21).toInt + 1 := oh_incr (rn_ltu (u' := 249) (Int32.not_le.mp c_59) (fM_0_21 t_58) (fM_0_7 hT0) (by decide)) (by decide)
                have : (gi (C_64 0) 7).toInt = (gi (K90 0) 7).toInt := congrArg Int32.toInt (show gi (C_64 0) 7 = gi (K90 0) 7 by rw [e_65]; rfl)
                have : (gi (C_64 0) 23).toInt = (gi (K90 0) 23).toInt := congrArg Int32.toInt (show gi (C_64 0) 23 = gi (K90 0) 23 by rw [e_65]; rfl)
                have : (gi (C_64 0) 13).toInt = (gi (K90 0) 13).toInt := congrArg Int32.toInt (show gi (C_64 0) 13 = gi (K90 0) 13 by rw [e_65]; rfl)
                have : 0 ≤ (gi (C_64 0) 21).toInt ∧ (gi (C_64 0) 21).toInt ≤ 250 := fM_0_21 t_66
                have : 0 ≤ (gi (C_64 0) 7).toInt ∧ (gi (C_64 0) 7).toInt ≤ 250 := fM_0_7 t_66
                have : 0 ≤ (gi (C_64 0) 23).toInt ∧ (gi (C_64 0) 23).toInt ≤ 250 := fM_0_23 t_66
                have : 0 ≤ (gi (C_64 0) 13).toInt ∧ (gi (C_64 0) 13).toInt ≤ 5 := fM_0_13 t_66
                exact ih_90 _ (hd_90 ▸ (by rw [(show gi (C_64 0) 21 = ((gi (K90 0) 21) + 1) by rw [e_65]; rfl)]; exact mu_up 250 (rn_ltu (u' := 249) (Int32.not_le.mp c_59) (fM_0_21 t_58) (fM_0_7 hT0) (by decide)) (by decide))) C_64  _ _ ls rfl (by omega) hT hF (fr_fde hLF_90 e_65 (sM_0 t_58) (by decide)) hP hD hS (lv_sub hl [0] rfl)
          have : (gi (C_55 0) 21).toInt = (gi (C_6 0) 21).toInt := congrArg Int32.toInt (show gi (C_55 0) 21 = gi (C_6 0) 21 by rw [e_56]; rfl)
          have : (gi (C_55 0) 7).toInt = (gi (C_6 0) 7).toInt := congrArg Int32.toInt (show gi (C_55 0) 7 = gi (C_6 0) 7 by rw [e_56]; rfl)
          have : (gi (C_55 0) 23).toInt = (gi (C_6 0) 23).toInt := congrArg Int32.toInt (show gi (C_55 0) 23 = gi (C_6 0) 23 by rw [e_56]; rfl)
          have : (gi (C_55 0) 13).toInt = (gi (C_6 0) 13).toInt := congrArg Int32.toInt (show gi (C_55 0) 13 = gi (C_6 0) 13 by rw [e_56]; rfl)
          have : 0 ≤ (gi (C_55 0) 21).toInt ∧ (gi (C_55 0) 21).toInt ≤ 250 := fM_0_21 t_57
          have : 0 ≤ (gi (C_55 0) 7).toInt ∧ (gi (C_55 0) 7).toInt ≤ 250 := fM_0_7 t_57
          have : 0 ≤ (gi (C_55 0) 23).toInt ∧ (gi (C_55 0) 23).toInt ≤ 250 := fM_0_23 t_57
          have : 0 ≤ (gi (C_55 0) 13).toInt ∧ (gi (C_55 0) 13).toInt ≤ 5 := fM_0_13 t_57
          exact L_90 _ C_55  _ _ ls rfl (by omega) hT hF fr_rf hP hD hS (lv_sub hl [0] rfl)
      · refine lv_aload_n hx hb dX7_look_62 rfl (lv_at hl 0 rfl) ?_
        refine lv_iconst (v := 0) hx hb dX7_look_63 (by decide) ?_
        refine th_put (Tp := TyM a E) (Rl := fr [] [21, 22, 23, 24] C) (ci := 7) (v := .int 0) (ty := .int) (CC := RX7) (T := TX7) (N := 29) hx hb htg ig_7 tyX7 tyX7_ok nmX7 hown hK hP hD hS 0 (Nat.lt_of_lt_of_le (by decide) hn) (sM_0 hT) rfl 22 (by decide) (htg _ q_995) (fun _ h9 => h9) rfl (by decide +kernel) rfl rfl (Nat.le_of_ble_eq_true rfl) (hT.up 0 (by decide) ⟨rfl, (fM_0_7 hT), (fM_0_9 hT), (fM_0_11 hT), (fM_0_13 hT), (fM_0_15 hT), (fM_0_21 hT), (fM_0_23 hT)⟩) (fr_fd hF (sM_0 hT) (by decide)) dX7_look_64 (fun C_67 H locs e_68 hT hF hP hD hS => ?_)
        have t_69 := hT
        refine lv_goto (tgt := 267) hx hb dX7_look_67 (by decide) ?_
        have : (gi (K0 0) 7).toInt = (gi (C 0) 7).toInt := congrArg (fun z => (vi z).toInt) (hLF_0.2 7 (by decide))
        have : (gi (K0 0) 23).toInt = (gi (C 0) 23).toInt := congrArg (fun z => (vi z).toInt) (hLF_0.2 23 (by decide))
        have : (gi (K0 0) 13).toInt = (gi (C 0) 13).toInt := congrArg (fun z => (vi z).toInt) (hLF_0.2 13 (by decide))
        have : (gi (C_3 0) 21).toInt = (gi (K0 0) 21).toInt := congrArg Int32.toInt (show gi (C_3 0) 21 = gi (K0 0) 21 by rw [e_4]; rfl)
        have : (gi (C_3 0) 7).toInt = (gi (K0 0) 7).toInt := congrArg Int32.toInt (show gi (C_3 0) 7 = gi (K0 0) 7 by rw [e_4]; rfl)
        have : (gi (C_3 0) 23).toInt = (gi (K0 0) 21).toInt := congrArg Int32.toInt (show gi (C_3 0) 23 = (gi (K0 0) 21) by rw [e_4]; rfl)
        have : (gi (C_3 0) 13).toInt = (gi (K0 0) 13).toInt := congrArg Int32.toInt (show gi (C_3 0) 13 = gi (K0 0) 13 by rw [e_4]; rfl)
        have : (gi (C_6 0) 21).toInt = (gi (C_3 0) 21).toInt := congrArg Int32.toInt (show gi (C_6 0) 21 = gi (C_3 0) 21 by rw [e_7]; rfl)
        have : (gi (C_6 0) 7).toInt = (gi (C_3 0) 7).toInt := congrArg Int32.toInt (show gi (C_6 0) 7 = gi (C_3 0) 7 by rw [e_7]; rfl)
        have : (gi (C_6 0) 23).toInt = (gi (C_3 0) 23).toInt := congrArg Int32.toInt (show gi (C_6 0) 23 = gi (C_3 0) 23 by rw [e_7]; rfl)
        have : (gi (C_6 0) 13).toInt = (gi (C_3 0) 13).toInt := congrArg Int32.toInt (show gi (C_6 0) 13 = gi (C_3 0) 13 by rw [e_7]; rfl)
        have : (gi (C_67 0) 21).toInt = (gi (C_6 0) 21).toInt := congrArg Int32.toInt (show gi (C_67 0) 21 = gi (C_6 0) 21 by rw [e_68]; rfl)
        have : (gi (C_67 0) 7).toInt = (gi (C_6 0) 7).toInt := congrArg Int32.toInt (show gi (C_67 0) 7 = gi (C_6 0) 7 by rw [e_68]; rfl)
        have : (gi (C_67 0) 23).toInt = (gi (C_6 0) 23).toInt := congrArg Int32.toInt (show gi (C_67 0) 23 = gi (C_6 0) 23 by rw [e_68]; rfl)
        have : (gi (C_67 0) 13).toInt = (gi (C_6 0) 13).toInt := congrArg Int32.toInt (show gi (C_67 0) 13 = gi (C_6 0) 13 by rw [e_68]; rfl)
        have : 0 ≤ (gi (C 0) 21).toInt ∧ (gi (C 0) 21).toInt ≤ 250 := fM_0_21 hT0
        have : 0 ≤ (gi (C 0) 7).toInt ∧ (gi (C 0) 7).toInt ≤ 250 := fM_0_7 hT0
        have : 0 ≤ (gi (C 0) 23).toInt ∧ (gi (C 0) 23).toInt ≤ 250 := fM_0_23 hT0
        have : 0 ≤ (gi (C 0) 13).toInt ∧ (gi (C 0) 13).toInt ≤ 5 := fM_0_13 hT0
        have : 0 ≤ (gi (K0 0) 21).toInt ∧ (gi (K0 0) 21).toInt ≤ 250 := fM_0_21 t_1
        have : 0 ≤ (gi (K0 0) 7).toInt ∧ (gi (K0 0) 7).toInt ≤ 250 := fM_0_7 t_1
        have : 0 ≤ (gi (K0 0) 23).toInt ∧ (gi (K0 0) 23).toInt ≤ 250 := fM_0_23 t_1
        have : 0 ≤ (gi (K0 0) 13).toInt ∧ (gi (K0 0) 13).toInt ≤ 5 := fM_0_13 t_1
        have : 0 ≤ (gi (C_3 0) 21).toInt ∧ (gi (C_3 0) 21).toInt ≤ 250 := fM_0_21 t_5
        have : 0 ≤ (gi (C_3 0) 7).toInt ∧ (gi (C_3 0) 7).toInt ≤ 250 := fM_0_7 t_5
        have : 0 ≤ (gi (C_3 0) 23).toInt ∧ (gi (C_3 0) 23).toInt ≤ 250 := fM_0_23 t_5
        have : 0 ≤ (gi (C_3 0) 13).toInt ∧ (gi (C_3 0) 13).toInt ≤ 5 := fM_0_13 t_5
        have : 0 ≤ (gi (C_6 0) 21).toInt ∧ (gi (C_6 0) 21).toInt ≤ 250 := fM_0_21 t_8
        have : 0 ≤ (gi (C_6 0) 7).toInt ∧ (gi (C_6 0) 7).toInt ≤ 250 := fM_0_7 t_8
        have : 0 ≤ (gi (C_6 0) 23).toInt ∧ (gi (C_6 0) 23).toInt ≤ 250 := fM_0_23 t_8
        have : 0 ≤ (gi (C_6 0) 13).toInt ∧ (gi (C_6 0) 13).toInt ≤ 5 := fM_0_13 t_8
        have : 0 ≤ (gi (C_67 0) 21).toInt ∧ (gi (C_67 0) 21).toInt ≤ 250 := fM_0_21 t_69
        have : 0 ≤ (gi (C_67 0) 7).toInt ∧ (gi (C_67 0) 7).toInt ≤ 250 := fM_0_7 t_69
        have : 0 ≤ (gi (C_67 0) 23).toInt ∧ (gi (C_67 0) 23).toInt ≤ 250 := fM_0_23 t_69
        have : 0 ≤ (gi (C_67 0) 13).toInt ∧ (gi (C_67 0) 13).toInt ≤ 5 := fM_0_13 t_69
        have : (gi (C 0) 7).toInt ≤ (gi (K0 0) 21).toInt := Int32.le_iff_toInt_le.mp c_2
        rw [hQ]
        exact W.vret hx hb hr (fun t ht hW => ⟨⟨C_67, rfl, ⟨hT, hF, ⟨(by omega), (by omega), (by omega)⟩⟩, ⟨by rw [ht]; exact hP, hD⟩⟩, hS.F ht⟩) hS.2.2 dX7_look_267
    · refine lv_aload_n hx hb dX7_look_11 rfl (lv_at hl 0 rfl) ?_
      refine va_get (D := D) (ci := 7) (v := .ref (a 7)) (C := RX7) (T := TX7) (N := 29) hx hb htg ig_7 hown hK hP 0 (oh_wg (Nat.lt_of_lt_of_le (by decide) hn) (sM_0 hT)) rfl 6 (by decide) (htg _ q_979) (fun _ h9 => h9) rfl dX7_look_12 ?_
      refine lv_aload_n hx hb dX7_look_15 rfl (lv_at hl 0 rfl) ?_
      refine va_get (D := D) (ci := 7) (v := .int (gi (K0 0) 21)) (C := RX7) (T := TX7) (N := 29) hx hb htg ig_7 hown hK hP 0 (oh_wg (Nat.lt_of_lt_of_le (by decide) hn) (sM_0 hT)) rfl 21 (by decide) (htg _ q_994) (fun _ h9 => h9) rfl dX7_look_16 ?_
      have : (gi (K0 0) 7).toInt = (gi (C 0) 7).toInt := congrArg (fun z => (vi z).toInt) (hLF_0.2 7 (by decide))
      have : (gi (K0 0) 23).toInt = (gi (C 0) 23).toInt := congrArg (fun z => (vi z).toInt) (hLF_0.2 23 (by decide))
      have : (gi (K0 0) 13).toInt = (gi (C 0) 13).toInt := congrArg (fun z => (vi z).toInt) (hLF_0.2 13 (by decide))
      have : 0 ≤ (gi (C 0) 21).toInt ∧ (gi (C 0) 21).toInt ≤ 250 := fM_0_21 hT0
      have : 0 ≤ (gi (C 0) 7).toInt ∧ (gi (C 0) 7).toInt ≤ 250 := fM_0_7 hT0
      have : 0 ≤ (gi (C 0) 23).toInt ∧ (gi (C 0) 23).toInt ≤ 250 := fM_0_23 hT0
      have : 0 ≤ (gi (C 0) 13).toInt ∧ (gi (C 0) 13).toInt ≤ 5 := fM_0_13 hT0
      have : 0 ≤ (gi (K0 0) 21).toInt ∧ (gi (K0 0) 21).toInt ≤ 250 := fM_0_21 t_1
      have : 0 ≤ (gi (K0 0) 7).toInt ∧ (gi (K0 0) 7).toInt ≤ 250 := fM_0_7 t_1
      have : 0 ≤ (gi (K0 0) 23).toInt ∧ (gi (K0 0) 23).toInt ≤ 250 := fM_0_23 t_1
      have : 0 ≤ (gi (K0 0) 13).toInt ∧ (gi (K0 0) 13).toInt ≤ 5 := fM_0_13 t_1
      have : (gi (K0 0) 21).toInt < (gi (C 0) 7).toInt := Int32.lt_iff_toInt_lt.mp (Int32.not_le.mp c_2)
      have n_70 : vp_in (gi (K0 0) 21) 250 := (vp_in_iff.mpr ⟨by omega, by omega⟩)
      refine th_iald hx hb hK hP 7 (Nat.lt_of_lt_of_le (by decide) hn) (Eq.trans (hLF_0.1 7 rfl (by decide)) (sM_7 hT0)) n_70 dX7_look_19 ?_
      refine lv_bipush (v := 32) hx hb dX7_look_20 (by decide) ?_
      refine lv_icmp_ne (tgt := 38) hx hb dX7_look_22 (by decide) (fun (c_71 : ¬ ((ga (C 7) (gi (K0 0) 21).toNatClampNeg) = 32)) => ?_) (fun (c_71 : (ga (C 7) (gi (K0 0) 21).toNatClampNeg) = 32) => ?_)
      · refine lv_aload_n hx hb dX7_look_38 rfl (lv_at hl 0 rfl) ?_
        refine lv_aload_n hx hb dX7_look_39 rfl (lv_at hl 0 rfl) ?_
        refine va_get (D := D) (ci := 7) (v := .int (gi (K0 0) 21)) (C := RX7) (T := TX7) (N := 29) hx hb htg ig_7 hown hK hP 0 (oh_wg (Nat.lt_of_lt_of_le (by decide) hn) (sM_0 hT)) rfl 21 (by decide) (htg _ q_994) (fun _ h9 => h9) rfl dX7_look_40 ?_
        refine th_put (Tp := TyM a E) (Rl := fr [] [21, 22, 23, 24] C) (ci := 7) (v := .int (gi (K0 0) 21)) (ty := .int) (CC := RX7) (T := TX7) (N := 29) hx hb htg ig_7 tyX7 tyX7_ok nmX7 hown hK hP hD hS 0 (Nat.lt_of_lt_of_le (by decide) hn) (sM_0 hT) rfl 23 (by decide) (htg _ q_996) (fun _ h9 => h9) rfl (by decide +kernel) rfl rfl (Nat.le_of_ble_eq_true rfl) (hT.up 0 (by decide) ⟨rfl, (fM_0_7 hT), (fM_0_9 hT), (fM_0_11 hT), (fM_0_13 hT), (fM_0_15 hT), (fM_0_21 hT), (rg_w (rn_ltu (u' := 249) (Int32.not_le.mp c_2) (fM_0_21 t_1) (fM_0_7 hT0) (by decide)) (by decide))⟩) (fr_fd hF (sM_0 hT) (by decide)) dX7_look_43 (fun C_72 H locs e_73 hT hF hP hD hS => ?_)
        have t_74 := hT
        refine lv_aload_n hx hb dX7_look_46 rfl (lv_at hl 0 rfl) ?_
        refine lv_lconst (v := 0) hx hb dX7_look_47 (by decide) ?_
        refine th_put (Tp := TyM a E) (Rl := fr [] [21, 22, 23, 24] C) (ci := 7) (v := .long 0) (ty := .long) (CC := RX7) (T := TX7) (N := 29) hx hb htg ig_7 tyX7 tyX7_ok nmX7 hown hK hP hD hS 0 (Nat.lt_of_lt_of_le (by decide) hn) (sM_0 hT) rfl 24 (by decide) (htg _ q_997) (fun _ h9 => h9) rfl (by decide +kernel) rfl rfl (Nat.le_of_ble_eq_true rfl) (hT.up 0 (by decide) ⟨rfl, (fM_0_7 hT), (fM_0_9 hT), (fM_0_11 hT), (fM_0_13 hT), (fM_0_15 hT), (fM_0_21 hT), (fM_0_23 hT)⟩) (fr_fd hF (sM_0 hT) (by decide)) dX7_look_48 (fun C_75 H locs e_76 hT hF hP hD hS => ?_)
        have t_77 := hT
        refine lv_aload_n hx hb dX7_look_51 rfl (lv_at hl 0 rfl) ?_
        refine va_get (D := D) (ci := 7) (v := .int (gi (K0 0) 21)) (C := RX7) (T := TX7) (N := 29) hx hb htg ig_7 hown hK hP 0 (oh_wg (Nat.lt_of_lt_of_le (by decide) hn) (sM_0 hT)) rfl 21 (by decide) (htg _ q_994) (fun _ h9 => h9) (oh_fv (c := C_75 0) (j := 21) rfl (Eq.trans (show gi (C_75 0) 21 = gi (C_72 0) 21 by rw [e_76]; rfl) (show gi (C_72 0) 21 = gi (K0 0) 21 by rw [e_73]; rfl))) dX7_look_52 ?_
        refine lv_aload_n hx hb dX7_look_55 rfl (lv_at hl 0 rfl) ?_
        refine va_get (D := D) (ci := 7) (v := .int (gi (C 0) 7)) (C := RX7) (T := TX7) (N := 29) hx hb htg ig_7 hown hK hP 0 (oh_wg (Nat.lt_of_lt_of_le (by decide) hn) (sM_0 hT)) rfl 7 (by decide) (htg _ q_980) (fun _ h9 => h9) (oh_fv (c := C_75 0) (j := 7) rfl (Eq.trans (show gi (C_75 0) 7 = gi (C_72 0) 7 by rw [e_76]; rfl) (Eq.trans (show gi (C_72 0) 7 = gi (K0 0) 7 by rw [e_73]; rfl) (congrArg vi (hLF_0.2 7 (by decide)))))) dX7_look_56 ?_
        refine lv_icmp_ne (tgt := 70) hx hb dX7_look_59 (by decide) (fun (c_78 : ¬ ((gi (K0 0) 21) = (gi (C 0) 7))) => ?_) (fun (c_78 : (gi (K0 0) 21) = (gi (C 0) 7)) => ?_)
        · refine lv_aload_n hx hb dX7_look_70 rfl (lv_at hl 0 rfl) ?_
          refine va_get (D := D) (ci := 7) (v := .ref (a 7)) (C := RX7) (T := TX7) (N := 29) hx hb htg ig_7 hown hK hP 0 (oh_wg (Nat.lt_of_lt_of_le (by decide) hn) (sM_0 hT)) rfl 6 (by decide) (htg _ q_979) (fun _ h9 => h9) rfl dX7_look_71 ?_
          refine lv_aload_n hx hb dX7_look_74 rfl (lv_at hl 0 rfl) ?_
          refine va_get (D := D) (ci := 7) (v := .int (gi (K0 0) 21)) (C := RX7) (T := TX7) (N := 29) hx hb htg ig_7 hown hK hP 0 (oh_wg (Nat.lt_of_lt_of_le (by decide) hn) (sM_0 hT)) rfl 21 (by decide) (htg _ q_994) (fun _ h9 => h9) (oh_fv (c := C_75 0) (j := 21) rfl (Eq.trans (show gi (C_75 0) 21 = gi (C_72 0) 21 by rw [e_76]; rfl) (show gi (C_72 0) 21 = gi (K0 0) 21 by rw [e_73]; rfl))) dX7_look_75 ?_
          have : (gi (C_72 0) 21).toInt = (gi (K0 0) 21).toInt := congrArg Int32.toInt (show gi (C_72 0) 21 = gi (K0 0) 21 by rw [e_73]; rfl)
          have : (gi (C_72 0) 7).toInt = (gi (K0 0) 7).toInt := congrArg Int32.toInt (show gi (C_72 0) 7 = gi (K0 0) 7 by rw [e_73]; rfl)
          have : (gi (C_72 0) 23).toInt = (gi (K0 0) 21).toInt := congrArg Int32.toInt (show gi (C_72 0) 23 = (gi (K0 0) 21) by rw [e_73]; rfl)
          have : (gi (C_72 0) 13).toInt = (gi (K0 0) 13).toInt := congrArg Int32.toInt (show gi (C_72 0) 13 = gi (K0 0) 13 by rw [e_73]; rfl)
          have : (gi (C_75 0) 21).toInt = (gi (C_72 0) 21).toInt := congrArg Int32.toInt (show gi (C_75 0) 21 = gi (C_72 0) 21 by rw [e_76]; rfl)
          have : (gi (C_75 0) 7).toInt = (gi (C_72 0) 7).toInt := congrArg Int32.toInt (show gi (C_75 0) 7 = gi (C_72 0) 7 by rw [e_76]; rfl)
          have : (gi (C_75 0) 23).toInt = (gi (C_72 0) 23).toInt := congrArg Int32.toInt (show gi (C_75 0) 23 = gi (C_72 0) 23 by rw [e_76]; rfl)
          have : (gi (C_75 0) 13).toInt = (gi (C_72 0) 13).toInt := congrArg Int32.toInt (show gi (C_75 0) 13 = gi (C_72 0) 13 by rw [e_76]; rfl)
          have : 0 ≤ (gi (C_72 0) 21).toInt ∧ (gi (C_72 0) 21).toInt ≤ 250 := fM_0_21 t_74
          have : 0 ≤ (gi (C_72 0) 7).toInt ∧ (gi (C_72 0) 7).toInt ≤ 250 := fM_0_7 t_74
          have : 0 ≤ (gi (C_72 0) 23).toInt ∧ (gi (C_72 0) 23).toInt ≤ 250 := fM_0_23 t_74
          have : 0 ≤ (gi (C_72 0) 13).toInt ∧ (gi (C_72 0) 13).toInt ≤ 5 := fM_0_13 t_74
          have : 0 ≤ (gi (C_75 0) 21).toInt ∧ (gi (C_75 0) 21).toInt ≤ 250 := fM_0_21 t_77
          have : 0 ≤ (gi (C_75 0) 7).toInt ∧ (gi (C_75 0) 7).toInt ≤ 250 := fM_0_7 t_77
          have : 0 ≤ (gi (C_75 0) 23).toInt ∧ (gi (C_75 0) 23).toInt ≤ 250 := fM_0_23 t_77
          have : 0 ≤ (gi (C_75 0) 13).toInt ∧ (gi (C_75 0) 13).toInt ≤ 5 := fM_0_13 t_77
          have : ¬ (gi (K0 0) 21).toInt = (gi (C 0) 7).toInt := fun h7 => c_78 (Int32.toInt_inj.mp h7)
          have n_79 : vp_in (gi (K0 0) 21) 250 := (vp_in_iff.mpr ⟨by omega, by omega⟩)
          refine th_iald hx hb hK hP 7 (Nat.lt_of_lt_of_le (by decide) hn) (Eq.trans (Eq.trans (th_un e_76 (by decide)) (Eq.trans (th_un e_73 (by decide)) (hLF_0.1 7 rfl (by decide)))) (sM_7 hT0)) n_79 dX7_look_78 ?_
          refine tq_S (As := [.int (ga (C 7) (gi (K0 0) 21).toNatClampNeg)]) (rest := []) (ws := []) ⟨hx, hb, hml, hown, htg⟩ (c_X7_isLetter l D E G (ga (C 7) (gi (K0 0) 21).toNatClampNeg)) (va_cwS 1 htg (oh_gS q_1201 q_1202 q_73 q_1203) rfl rfl rfl pdX7_isLetter ⟨Nat.le_of_ble_eq_true rfl, Nat.le_of_ble_eq_true rfl⟩) hK va_nil hG hS rfl hl.1 rfl (Nat.le_of_ble_eq_true rfl) dX7_look_79 ⟨Nat.le_of_ble_eq_true rfl, Nat.le_of_ble_eq_true rfl⟩ (fun r_80 hq_81 => ?_)
          refine lv_if_eq (tgt := 129) hx hb dX7_look_82 (by decide) (fun (c_82 : r_80 = 0) => ?_) (fun (c_82 : ¬ (r_80 = 0)) => ?_)
          · refine lv_aload_n hx hb dX7_look_129 rfl (lv_at hl 0 rfl) ?_
            refine va_get (D := D) (ci := 7) (v := .ref (a 7)) (C := RX7) (T := TX7) (N := 29) hx hb htg ig_7 hown hK hP 0 (oh_wg (Nat.lt_of_lt_of_le (by decide) hn) (sM_0 hT)) rfl 6 (by decide) (htg _ q_979) (fun _ h9 => h9) rfl dX7_look_130 ?_
            refine lv_aload_n hx hb dX7_look_133 rfl (lv_at hl 0 rfl) ?_
            refine va_get (D := D) (ci := 7) (v := .int (gi (K0 0) 21)) (C := RX7) (T := TX7) (N := 29) hx hb htg ig_7 hown hK hP 0 (oh_wg (Nat.lt_of_lt_of_le (by decide) hn) (sM_0 hT)) rfl 21 (by decide) (htg _ q_994) (fun _ h9 => h9) (oh_fv (c := C_75 0) (j := 21) rfl (Eq.trans (show gi (C_75 0) 21 = gi (C_72 0) 21 by rw [e_76]; rfl) (show gi (C_72 0) 21 = gi (K0 0) 21 by rw [e_73]; rfl))) dX7_look_134 ?_
            have n_83 : vp_in (gi (K0 0) 21) 250 := (vp_in_iff.mpr ⟨by omega, by omega⟩)
            refine th_iald hx hb hK hP 7 (Nat.lt_of_lt_of_le (by decide) hn) (Eq.trans (Eq.trans (th_un e_76 (by decide)) (Eq.trans (th_un e_73 (by decide)) (hLF_0.1 7 rfl (by decide)))) (sM_7 hT0)) n_83 dX7_look_137 ?_
            refine tq_S (As := [.int (ga (C 7) (gi (K0 0) 21).toNatClampNeg)]) (rest := []) (ws := []) ⟨hx, hb, hml, hown, htg⟩ (c_X7_isDigit l D E G (ga (C 7) (gi (K0 0) 21).toNatClampNeg)) (va_cwS 1 htg (oh_gS q_1204 q_1205 q_73 q_1206) rfl rfl rfl pdX7_isDigit ⟨Nat.le_of_ble_eq_true rfl, Nat.le_of_ble_eq_true rfl⟩) hK va_nil hG hS rfl hl.1 rfl (Nat.le_of_ble_eq_true rfl) dX7_look_138 ⟨Nat.le_of_ble_eq_true rfl, Nat.le_of_ble_eq_true rfl⟩ (fun r_84 hq_85 => ?_)
            refine lv_if_eq (tgt := 234) hx hb dX7_look_141 (by decide) (fun (c_86 : r_84 = 0) => ?_) (fun (c_86 : ¬ (r_84 = 0)) => ?_)
            · refine lv_aload_n hx hb dX7_look_234 rfl (lv_at hl 0 rfl) ?_
              refine lv_aload_n hx hb dX7_look_235 rfl (lv_at hl 0 rfl) ?_
              refine va_get (D := D) (ci := 7) (v := .ref (a 7)) (C := RX7) (T := TX7) (N := 29) hx hb htg ig_7 hown hK hP 0 (oh_wg (Nat.lt_of_lt_of_le (by decide) hn) (sM_0 hT)) rfl 6 (by decide) (htg _ q_979) (fun _ h9 => h9) rfl dX7_look_236 ?_
              refine lv_aload_n hx hb dX7_look_239 rfl (lv_at hl 0 rfl) ?_
              refine va_get (D := D) (ci := 7) (v := .int (gi (K0 0) 21)) (C := RX7) (T := TX7) (N := 29) hx hb htg ig_7 hown hK hP 0 (oh_wg (Nat.lt_of_lt_of_le (by decide) hn) (sM_0 hT)) rfl 21 (by decide) (htg _ q_994) (fun _ h9 => h9) (oh_fv (c := C_75 0) (j := 21) rfl (Eq.trans (show gi (C_75 0) 21 = gi (C_72 0) 21 by rw [e_76]; rfl) (show gi (C_72 0) 21 = gi (K0 0) 21 by rw [e_73]; rfl))) dX7_look_240 ?_
              have n_87 : vp_in (gi (K0 0) 21) 250 := (vp_in_iff.mpr ⟨by omega, by omega⟩)
              refine th_iald hx hb hK hP 7 (Nat.lt_of_lt_of_le (by decide) hn) (Eq.trans (Eq.trans (th_un e_76 (by decide)) (Eq.trans (th_un e_73 (by decide)) (hLF_0.1 7 rfl (by decide)))) (sM_7 hT0)) n_87 dX7_look_243 ?_
              refine lv_bipush (v := 59) hx hb dX7_look_244 (by decide) ?_
              refine lv_icmp_ne (tgt := 253) hx hb dX7_look_246 (by decide) (fun (c_88 : ¬ ((ga (C 7) (gi (K0 0) 21).toNatClampNeg) = 59)) => ?_) (fun (c_88 : (ga (C 7) (gi (K0 0) 21).toNatClampNeg) = 59) => ?_)
              · refine lv_iconst (v := 4) hx hb dX7_look_253 (by decide) ?_
                refine th_put (Tp := TyM a E) (Rl := fr [] [21, 22, 23, 24] C) (ci := 7) (v := .int 4) (ty := .int) (CC := RX7) (T := TX7) (N := 29) hx hb htg ig_7 tyX7 tyX7_ok nmX7 hown hK hP hD hS 0 (Nat.lt_of_lt_of_le (by decide) hn) (sM_0 hT) rfl 22 (by decide) (htg _ q_995) (fun _ h9 => h9) rfl (by decide +kernel) rfl rfl (Nat.le_of_ble_eq_true rfl) (hT.up 0 (by decide) ⟨rfl, (fM_0_7 hT), (fM_0_9 hT), (fM_0_11 hT), (fM_0_13 hT), (fM_0_15 hT), (fM_0_21 hT), (fM_0_23 hT)⟩) (fr_fd hF (sM_0 hT) (by decide)) dX7_look_254 (fun C_89 H locs e_90 hT hF hP hD hS => ?_)
                have t_91 := hT
                refine lv_aload_n hx hb dX7_look_257 rfl (lv_at hl 0 rfl) ?_
                refine lv_dup hx hb dX7_look_258 rfl ?_
                refine va_get (D := D) (ci := 7) (v := .int (gi (K0 0) 21)) (C := RX7) (T := TX7) (N := 29) hx hb htg ig_7 hown hK hP 0 (oh_wg (Nat.lt_of_lt_of_le (by decide) hn) (sM_0 hT)) rfl 21 (by decide) (htg _ q_994) (fun _ h9 => h9) (oh_fv (c := C_89 0) (j := 21) rfl (Eq.trans (show gi (C_89 0) 21 = gi (C_75 0) 21 by rw [e_90]; rfl) (Eq.trans (show gi (C_75 0) 21 = gi (C_72 0) 21 by rw [e_76]; rfl) (show gi (C_72 0) 21 = gi (K0 0) 21 by rw [e_73]; rfl)))) dX7_look_259 ?_
                refine lv_iconst (v := 1) hx hb dX7_look_262 (by decide) ?_
                refine lv_iadd hx hb dX7_look_263 ?_
                have : (gi (C_89 0) 21).toInt = (gi (C_75 0) 21).toInt := congrArg Int32.toInt (show gi (C_89 0) 21 = gi (C_75 0) 21 by rw [e_90]; rfl)
                have : (gi (C_89 0) 7).toInt = (gi (C_75 0) 7).toInt := congrArg Int32.toInt (show gi (C_89 0) 7 = gi (C_75 0) 7 by rw [e_90]; rfl)
                have : (gi (C_89 0) 23).toInt = (gi (C_75 0) 23).toInt := congrArg Int32.toInt (show gi (C_89 0) 23 = gi (C_75 0) 23 by rw [e_90]; rfl)
                have : (gi (C_89 0) 13).toInt = (gi (C_75 0) 13).toInt := congrArg Int32.toInt (show gi (C_89 0) 13 = gi (C_75 0) 13 by rw [e_90]; rfl)
                have : 0 ≤ (gi (C_89 0) 21).toInt ∧ (gi (C_89 0) 21).toInt ≤ 250 := fM_0_21 t_91
                have : 0 ≤ (gi (C_89 0) 7).toInt ∧ (gi (C_89 0) 7).toInt ≤ 250 := fM_0_7 t_91
                have : 0 ≤ (gi (C_89 0) 23).toInt ∧ (gi (C_89 0) 23).toInt ≤ 250 := fM_0_23 t_91
                have : 0 ≤ (gi (C_89 0) 13).toInt ∧ (gi (C_89 0) 13).toInt ≤ 5 := fM_0_13 t_91
                have hpf_264 : rg (gi (K0 0) 21) 0 249 := ⟨by omega, by omega⟩
                refine th_put (Tp := TyM a E) (Rl := fr [] [21, 22, 23, 24] C) (ci := 7) (v := .int ((gi (K0 0) 21) + 1)) (ty := .int) (CC := RX7) (T := TX7) (N := 29) hx hb htg ig_7 tyX7 tyX7_ok nmX7 hown hK hP hD hS 0 (Nat.lt_of_lt_of_le (by decide) hn) (sM_0 hT) rfl 21 (by decide) (htg _ q_994) (fun _ h9 => h9) rfl (by decide +kernel) rfl rfl (Nat.le_of_ble_eq_true rfl) (hT.up 0 (by decide) ⟨rfl, (fM_0_7 hT), (fM_0_9 hT), (fM_0_11 hT), (fM_0_13 hT), (fM_0_15 hT), (rg_w (rg_add (lo := 1) (hi := 250) hpf_264 (rg_c (v := 1) (lo := 1) (hi := 1) (by decide)) (by decide)) (by decide)), (fM_0_23 hT)⟩) (fr_fd hF (sM_0 hT) (by decide)) dX7_look_264 (fun C_92 H locs e_93 hT hF hP hD hS => ?_)
                have t_94 := hT
                have : (gi (C_92 0) 21).toInt = ((gi (K0 0) 21) + 1).toInt := congrArg Int32.toInt (show gi (C_92 0) 21 = ((gi (K0 0) 21) + 1) by rw [e_93]; rfl)
                have : ((gi (K0 0) 21) + 1).toInt = (gi (K0 0) 21).toInt + 1 := oh_incr (rn_ltu (u' := 249) (Int32.not_le.mp c_2) (fM_0_21 t_1) (fM_0_7 hT0) (by decide)) (by decide)
                have : (gi (C_92 0) 7).toInt = (gi (C_89 0) 7).toInt := congrArg Int32.toInt (show gi (C_92 0) 7 = gi (C_89 0) 7 by rw [e_93]; rfl)
                have : (gi (C_92 0) 23).toInt = (gi (C_89 0) 23).toInt := congrArg Int32.toInt (show gi (C_92 0) 23 = gi (C_89 0) 23 by rw [e_93]; rfl)
                have : (gi (C_92 0) 13).toInt = (gi (C_89 0) 13).toInt := congrArg Int32.toInt (show gi (C_92 0) 13 = gi (C_89 0) 13 by rw [e_93]; rfl)
                have : 0 ≤ (gi (C_92 0) 21).toInt ∧ (gi (C_92 0) 21).toInt ≤ 250 := fM_0_21 t_94
                have : 0 ≤ (gi (C_92 0) 7).toInt ∧ (gi (C_92 0) 7).toInt ≤ 250 := fM_0_7 t_94
                have : 0 ≤ (gi (C_92 0) 23).toInt ∧ (gi (C_92 0) 23).toInt ≤ 250 := fM_0_23 t_94
                have : 0 ≤ (gi (C_92 0) 13).toInt ∧ (gi (C_92 0) 13).toInt ≤ 5 := fM_0_13 t_94
                rw [hQ]
                exact W.vret hx hb hr (fun t ht hW => ⟨⟨C_92, rfl, ⟨hT, hF, ⟨(by omega), (by omega), (by omega)⟩⟩, ⟨by rw [ht]; exact hP, hD⟩⟩, hS.F ht⟩) hS.2.2 dX7_look_267
              · refine lv_iconst (v := 3) hx hb dX7_look_249 (by decide) ?_
                refine lv_goto (tgt := 254) hx hb dX7_look_250 (by decide) ?_
                refine th_put (Tp := TyM a E) (Rl := fr [] [21, 22, 23, 24] C) (ci := 7) (v := .int 3) (ty := .int) (CC := RX7) (T := TX7) (N := 29) hx hb htg ig_7 tyX7 tyX7_ok nmX7 hown hK hP hD hS 0 (Nat.lt_of_lt_of_le (by decide) hn) (sM_0 hT) rfl 22 (by decide) (htg _ q_995) (fun _ h9 => h9) rfl (by decide +kernel) rfl rfl (Nat.le_of_ble_eq_true rfl) (hT.up 0 (by decide) ⟨rfl, (fM_0_7 hT), (fM_0_9 hT), (fM_0_11 hT), (fM_0_13 hT), (fM_0_15 hT), (fM_0_21 hT), (fM_0_23 hT)⟩) (fr_fd hF (sM_0 hT) (by decide)) dX7_look_254 (fun C_95 H locs e_96 hT hF hP hD hS => ?_)
                have t_97 := hT
                refine lv_aload_n hx hb dX7_look_257 rfl (lv_at hl 0 rfl) ?_
                refine lv_dup hx hb dX7_look_258 rfl ?_
                refine va_get (D := D) (ci := 7) (v := .int (gi (K0 0) 21)) (C := RX7) (T := TX7) (N := 29) hx hb htg ig_7 hown hK hP 0 (oh_wg (Nat.lt_of_lt_of_le (by decide) hn) (sM_0 hT)) rfl 21 (by decide) (htg _ q_994) (fun _ h9 => h9) (oh_fv (c := C_95 0) (j := 21) rfl (Eq.trans (show gi (C_95 0) 21 = gi (C_75 0) 21 by rw [e_96]; rfl) (Eq.trans (show gi (C_75 0) 21 = gi (C_72 0) 21 by rw [e_76]; rfl) (show gi (C_72 0) 21 = gi (K0 0) 21 by rw [e_73]; rfl)))) dX7_look_259 ?_
                refine lv_iconst (v := 1) hx hb dX7_look_262 (by decide) ?_
                refine lv_iadd hx hb dX7_look_263 ?_
                have : (gi (C_95 0) 21).toInt = (gi (C_75 0) 21).toInt := congrArg Int32.toInt (show gi (C_95 0) 21 = gi (C_75 0) 21 by rw [e_96]; rfl)
                have : (gi (C_95 0) 7).toInt = (gi (C_75 0) 7).toInt := congrArg Int32.toInt (show gi (C_95 0) 7 = gi (C_75 0) 7 by rw [e_96]; rfl)
                have : (gi (C_95 0) 23).toInt = (gi (C_75 0) 23).toInt := congrArg Int32.toInt (show gi (C_95 0) 23 = gi (C_75 0) 23 by rw [e_96]; rfl)
                have : (gi (C_95 0) 13).toInt = (gi (C_75 0) 13).toInt := congrArg Int32.toInt (show gi (C_95 0) 13 = gi (C_75 0) 13 by rw [e_96]; rfl)
                have : 0 ≤ (gi (C_95 0) 21).toInt ∧ (gi (C_95 0) 21).toInt ≤ 250 := fM_0_21 t_97
                have : 0 ≤ (gi (C_95 0) 7).toInt ∧ (gi (C_95 0) 7).toInt ≤ 250 := fM_0_7 t_97
                have : 0 ≤ (gi (C_95 0) 23).toInt ∧ (gi (C_95 0) 23).toInt ≤ 250 := fM_0_23 t_97
                have : 0 ≤ (gi (C_95 0) 13).toInt ∧ (gi (C_95 0) 13).toInt ≤ 5 := fM_0_13 t_97
                have hpf_264 : rg (gi (K0 0) 21) 0 249 := ⟨by omega, by omega⟩
                refine th_put (Tp := TyM a E) (Rl := fr [] [21, 22, 23, 24] C) (ci := 7) (v := .int ((gi (K0 0) 21) + 1)) (ty := .int) (CC := RX7) (T := TX7) (N := 29) hx hb htg ig_7 tyX7 tyX7_ok nmX7 hown hK hP hD hS 0 (Nat.lt_of_lt_of_le (by decide) hn) (sM_0 hT) rfl 21 (by decide) (htg _ q_994) (fun _ h9 => h9) rfl (by decide +kernel) rfl rfl (Nat.le_of_ble_eq_true rfl) (hT.up 0 (by decide) ⟨rfl, (fM_0_7 hT), (fM_0_9 hT), (fM_0_11 hT), (fM_0_13 hT), (fM_0_15 hT), (rg_w (rg_add (lo := 1) (hi := 250) hpf_264 (rg_c (v := 1) (lo := 1) (hi := 1) (by decide)) (by decide)) (by decide)), (fM_0_23 hT)⟩) (fr_fd hF (sM_0 hT) (by decide)) dX7_look_264 (fun C_98 H locs e_99 hT hF hP hD hS => ?_)
                have t_100 := hT
                have : (gi (C_98 0) 21).toInt = ((gi (K0 0) 21) + 1).toInt := congrArg Int32.toInt (show gi (C_98 0) 21 = ((gi (K0 0) 21) + 1) by rw [e_99]; rfl)
                have : ((gi (K0 0) 21) + 1).toInt = (gi (K0 0) 21).toInt + 1 := oh_incr (rn_ltu (u' := 249) (Int32.not_le.mp c_2) (fM_0_21 t_1) (fM_0_7 hT0) (by decide)) (by decide)
                have : (gi (C_98 0) 7).toInt = (gi (C_95 0) 7).toInt := congrArg Int32.toInt (show gi (C_98 0) 7 = gi (C_95 0) 7 by rw [e_99]; rfl)
                have : (gi (C_98 0) 23).toInt = (gi (C_95 0) 23).toInt := congrArg Int32.toInt (show gi (C_98 0) 23 = gi (C_95 0) 23 by rw [e_99]; rfl)
                have : (gi (C_98 0) 13).toInt = (gi (C_95 0) 13).toInt := congrArg Int32.toInt (show gi (C_98 0) 13 = gi (C_95 0) 13 by rw [e_99]; rfl)
                have : 0 ≤ (gi (C_98 0) 21).toInt ∧ (gi (C_98 0) 21).toInt ≤ 250 := fM_0_21 t_100
                have : 0 ≤ (gi (C_98 0) 7).toInt ∧ (gi (C_98 0) 7).toInt ≤ 250 := fM_0_7 t_100
                have : 0 ≤ (gi (C_98 0) 23).toInt ∧ (gi (C_98 0) 23).toInt ≤ 250 := fM_0_23 t_100
                have : 0 ≤ (gi (C_98 0) 13).toInt ∧ (gi (C_98 0) 13).toInt ≤ 5 := fM_0_13 t_100
                rw [hQ]
                exact W.vret hx hb hr (fun t ht hW => ⟨⟨C_98, rfl, ⟨hT, hF, ⟨(by omega), (by omega), (by omega)⟩⟩, ⟨by rw [ht]; exact hP, hD⟩⟩, hS.F ht⟩) hS.2.2 dX7_look_267
            · refine lv_aload_n hx hb dX7_look_144 rfl (lv_at hl 0 rfl) ?_
              refine lv_iconst (v := 2) hx hb dX7_look_145 (by decide) ?_
              refine th_put (Tp := TyM a E) (Rl := fr [] [21, 22, 23, 24] C) (ci := 7) (v := .int 2) (ty := .int) (CC := RX7) (T := TX7) (N := 29) hx hb htg ig_7 tyX7 tyX7_ok nmX7 hown hK hP hD hS 0 (Nat.lt_of_lt_of_le (by decide) hn) (sM_0 hT) rfl 22 (by decide) (htg _ q_995) (fun _ h9 => h9) rfl (by decide +kernel) rfl rfl (Nat.le_of_ble_eq_true rfl) (hT.up 0 (by decide) ⟨rfl, (fM_0_7 hT), (fM_0_9 hT), (fM_0_11 hT), (fM_0_13 hT), (fM_0_15 hT), (fM_0_21 hT), (fM_0_23 hT)⟩) (fr_fd hF (sM_0 hT) (by decide)) dX7_look_146 (fun C_101 H locs e_102 hT hF hP hD hS => ?_)
              have t_103 := hT
              have L_149 : ∀ (d : Nat) (K149 : Nat → va_E) (H : Heap) (locs : List Loc) (ls : Array Slot), (250 - (gi (K149 0) 21).toInt).toNat = d → ((gi (C 0) 21).toInt ≤ (gi (K149 0) 23).toInt ∧ (gi (K149 0) 23).toInt ≤ (gi (K149 0) 21).toInt ∧ (gi (K149 0) 21).toInt ≤ (gi (K149 0) 7).toInt) → TyM a E K149 → fr [] [21, 22, 23, 24] C K149 → fr [] [21, 24] C_101 K149 → va_P D vwCl (oh_W n a K149) H → va_D A (oh_W n a K149) → va_S A s.heap H locs → lv_has ls 1 [(0, .ref (a 0))] → W p l e ({ frames := 1, cells := 0, slots := 0, locals := 20 }) s m (([.ref (a 0)] : List Value).toArray) below meth c H locs 0 0 Q (F0 m 149 ls []) := by
                intro d
                induction d using Nat.strongRecOn with
                | ind d ih_149 =>
                intro K149  H locs ls hd_149 hv_149 hT hF hLF_149 hP hD hS hl
                have t_104 := hT
                refine lv_aload_n hx hb dX7_look_149 rfl (lv_at hl 0 rfl) ?_
                refine va_get (D := D) (ci := 7) (v := .int (gi (K149 0) 21)) (C := RX7) (T := TX7) (N := 29) hx hb htg ig_7 hown hK hP 0 (oh_wg (Nat.lt_of_lt_of_le (by decide) hn) (sM_0 hT)) rfl 21 (by decide) (htg _ q_994) (fun _ h9 => h9) rfl dX7_look_150 ?_
                refine lv_aload_n hx hb dX7_look_153 rfl (lv_at hl 0 rfl) ?_
                refine va_get (D := D) (ci := 7) (v := .int (gi (C 0) 7)) (C := RX7) (T := TX7) (N := 29) hx hb htg ig_7 hown hK hP 0 (oh_wg (Nat.lt_of_lt_of_le (by decide) hn) (sM_0 hT)) rfl 7 (by decide) (htg _ q_980) (fun _ h9 => h9) (oh_fv (c := K149 0) (j := 7) rfl (Eq.trans (congrArg vi (hLF_149.2 7 (by decide))) (Eq.trans (show gi (C_101 0) 7 = gi (C_75 0) 7 by rw [e_102]; rfl) (Eq.trans (show gi (C_75 0) 7 = gi (C_72 0) 7 by rw [e_76]; rfl) (Eq.trans (show gi (C_72 0) 7 = gi (K0 0) 7 by rw [e_73]; rfl) (congrArg vi (hLF_0.2 7 (by decide)))))))) dX7_look_154 ?_
                refine lv_icmp_ge (tgt := 267) hx hb dX7_look_157 (by decide) (fun (c_105 : (gi (C 0) 7) ≤ (gi (K149 0) 21)) => ?_) (fun (c_105 : ¬ ((gi (C 0) 7) ≤ (gi (K149 0) 21))) => ?_)
                · have : (gi (C_101 0) 21).toInt = (gi (C_75 0) 21).toInt := congrArg Int32.toInt (show gi (C_101 0) 21 = gi (C_75 0) 21 by rw [e_102]; rfl)
                  have : (gi (C_101 0) 7).toInt = (gi (C_75 0) 7).toInt := congrArg Int32.toInt (show gi (C_101 0) 7 = gi (C_75 0) 7 by rw [e_102]; rfl)
                  have : (gi (C_101 0) 23).toInt = (gi (C_75 0) 23).toInt := congrArg Int32.toInt (show gi (C_101 0) 23 = gi (C_75 0) 23 by rw [e_102]; rfl)
                  have : (gi (C_101 0) 13).toInt = (gi (C_75 0) 13).toInt := congrArg Int32.toInt (show gi (C_101 0) 13 = gi (C_75 0) 13 by rw [e_102]; rfl)
                  have : (gi (K149 0) 7).toInt = (gi (C_101 0) 7).toInt := congrArg (fun z => (vi z).toInt) (hLF_149.2 7 (by decide))
                  have : (gi (K149 0) 23).toInt = (gi (C_101 0) 23).toInt := congrArg (fun z => (vi z).toInt) (hLF_149.2 23 (by decide))
                  have : (gi (K149 0) 13).toInt = (gi (C_101 0) 13).toInt := congrArg (fun z => (vi z).toInt) (hLF_149.2 13 (by decide))
                  have : 0 ≤ (gi (C_101 0) 21).toInt ∧ (gi (C_101 0) 21).toInt ≤ 250 := fM_0_21 t_103
                  have : 0 ≤ (gi (C_101 0) 7).toInt ∧ (gi (C_101 0) 7).toInt ≤ 250 := fM_0_7 t_103
                  have : 0 ≤ (gi (C_101 0) 23).toInt ∧ (gi (C_101 0) 23).toInt ≤ 250 := fM_0_23 t_103
                  have : 0 ≤ (gi (C_101 0) 13).toInt ∧ (gi (C_101 0) 13).toInt ≤ 5 := fM_0_13 t_103
                  have : 0 ≤ (gi (K149 0) 21).toInt ∧ (gi (K149 0) 21).toInt ≤ 250 := fM_0_21 t_104
                  have : 0 ≤ (gi (K149 0) 7).toInt ∧ (gi (K149 0) 7).toInt ≤ 250 := fM_0_7 t_104
                  have : 0 ≤ (gi (K149 0) 23).toInt ∧ (gi (K149 0) 23).toInt ≤ 250 := fM_0_23 t_104
                  have : 0 ≤ (gi (K149 0) 13).toInt ∧ (gi (K149 0) 13).toInt ≤ 5 := fM_0_13 t_104
                  have : (gi (C 0) 7).toInt ≤ (gi (K149 0) 21).toInt := Int32.le_iff_toInt_le.mp c_105
                  rw [hQ]
                  exact W.vret hx hb hr (fun t ht hW => ⟨⟨K149, rfl, ⟨hT, hF, ⟨(by omega), (by omega), (by omega)⟩⟩, ⟨by rw [ht]; exact hP, hD⟩⟩, hS.F ht⟩) hS.2.2 dX7_look_267
                · refine lv_aload_n hx hb dX7_look_160 rfl (lv_at hl 0 rfl) ?_
                  refine va_get (D := D) (ci := 7) (v := .ref (a 7)) (C := RX7) (T := TX7) (N := 29) hx hb htg ig_7 hown hK hP 0 (oh_wg (Nat.lt_of_lt_of_le (by decide) hn) (sM_0 hT)) rfl 6 (by decide) (htg _ q_979) (fun _ h9 => h9) rfl dX7_look_161 ?_
                  refine lv_aload_n hx hb dX7_look_164 rfl (lv_at hl 0 rfl) ?_
                  refine va_get (D := D) (ci := 7) (v := .int (gi (K149 0) 21)) (C := RX7) (T := TX7) (N := 29) hx hb htg ig_7 hown hK hP 0 (oh_wg (Nat.lt_of_lt_of_le (by decide) hn) (sM_0 hT)) rfl 21 (by decide) (htg _ q_994) (fun _ h9 => h9) rfl dX7_look_165 ?_
                  have : (gi (C_101 0) 21).toInt = (gi (C_75 0) 21).toInt := congrArg Int32.toInt (show gi (C_101 0) 21 = gi (C_75 0) 21 by rw [e_102]; rfl)
                  have : (gi (C_101 0) 7).toInt = (gi (C_75 0) 7).toInt := congrArg Int32.toInt (show gi (C_101 0) 7 = gi (C_75 0) 7 by rw [e_102]; rfl)
                  have : (gi (C_101 0) 23).toInt = (gi (C_75 0) 23).toInt := congrArg Int32.toInt (show gi (C_101 0) 23 = gi (C_75 0) 23 by rw [e_102]; rfl)
                  have : (gi (C_101 0) 13).toInt = (gi (C_75 0) 13).toInt := congrArg Int32.toInt (show gi (C_101 0) 13 = gi (C_75 0) 13 by rw [e_102]; rfl)
                  have : (gi (K149 0) 7).toInt = (gi (C_101 0) 7).toInt := congrArg (fun z => (vi z).toInt) (hLF_149.2 7 (by decide))
                  have : (gi (K149 0) 23).toInt = (gi (C_101 0) 23).toInt := congrArg (fun z => (vi z).toInt) (hLF_149.2 23 (by decide))
                  have : (gi (K149 0) 13).toInt = (gi (C_101 0) 13).toInt := congrArg (fun z => (vi z).toInt) (hLF_149.2 13 (by decide))
                  have : 0 ≤ (gi (C_101 0) 21).toInt ∧ (gi (C_101 0) 21).toInt ≤ 250 := fM_0_21 t_103
                  have : 0 ≤ (gi (C_101 0) 7).toInt ∧ (gi (C_101 0) 7).toInt ≤ 250 := fM_0_7 t_103
                  have : 0 ≤ (gi (C_101 0) 23).toInt ∧ (gi (C_101 0) 23).toInt ≤ 250 := fM_0_23 t_103
                  have : 0 ≤ (gi (C_101 0) 13).toInt ∧ (gi (C_101 0) 13).toInt ≤ 5 := fM_0_13 t_103
                  have : 0 ≤ (gi (K149 0) 21).toInt ∧ (gi (K149 0) 21).toInt ≤ 250 := fM_0_21 t_104
                  have : 0 ≤ (gi (K149 0) 7).toInt ∧ (gi (K149 0) 7).toInt ≤ 250 := fM_0_7 t_104
                  have : 0 ≤ (gi (K149 0) 23).toInt ∧ (gi (K149 0) 23).toInt ≤ 250 := fM_0_23 t_104
                  have : 0 ≤ (gi (K149 0) 13).toInt ∧ (gi (K149 0) 13).toInt ≤ 5 := fM_0_13 t_104
                  have : (gi (K149 0) 21).toInt < (gi (C 0) 7).toInt := Int32.lt_iff_toInt_lt.mp (Int32.not_le.mp c_105)
                  have n_106 : vp_in (gi (K149 0) 21) 250 := (vp_in_iff.mpr ⟨by omega, by omega⟩)
                  refine th_iald hx hb hK hP 7 (Nat.lt_of_lt_of_le (by decide) hn) (Eq.trans (Eq.trans (hLF_149.1 7 rfl (by decide)) (Eq.trans (th_un e_102 (by decide)) (Eq.trans (th_un e_76 (by decide)) (Eq.trans (th_un e_73 (by decide)) (hLF_0.1 7 rfl (by decide)))))) (sM_7 hT0)) n_106 dX7_look_168 ?_
                  refine tq_S (As := [.int (ga (C 7) (gi (K149 0) 21).toNatClampNeg)]) (rest := []) (ws := []) ⟨hx, hb, hml, hown, htg⟩ (c_X7_isDigit l D E G (ga (C 7) (gi (K149 0) 21).toNatClampNeg)) (va_cwS 1 htg (oh_gS q_1204 q_1205 q_73 q_1206) rfl rfl rfl pdX7_isDigit ⟨Nat.le_of_ble_eq_true rfl, Nat.le_of_ble_eq_true rfl⟩) hK va_nil hG hS rfl hl.1 rfl (Nat.le_of_ble_eq_true rfl) dX7_look_169 ⟨Nat.le_of_ble_eq_true rfl, Nat.le_of_ble_eq_true rfl⟩ (fun r_107 hq_108 => ?_)
                  refine lv_if_eq (tgt := 267) hx hb dX7_look_172 (by decide) (fun (c_109 : r_107 = 0) => ?_) (fun (c_109 : ¬ (r_107 = 0)) => ?_)
                  · rw [hQ]
                    exact W.vret hx hb hr (fun t ht hW => ⟨⟨K149, rfl, ⟨hT, hF, ⟨(by omega), (by omega), (by omega)⟩⟩, ⟨by rw [ht]; exact hP, hD⟩⟩, hS.F ht⟩) hS.2.2 dX7_look_267
                  · refine lv_aload_n hx hb dX7_look_175 rfl (lv_at hl 0 rfl) ?_
                    refine lv_aload_n hx hb dX7_look_176 rfl (lv_at hl 0 rfl) ?_
                    refine va_get (D := D) (ci := 7) (v := .int (gi (K149 0) 21)) (C := RX7) (T := TX7) (N := 29) hx hb htg ig_7 hown hK hP 0 (oh_wg (Nat.lt_of_lt_of_le (by decide) hn) (sM_0 hT)) rfl 21 (by decide) (htg _ q_994) (fun _ h9 => h9) rfl dX7_look_177 ?_
                    refine lv_aload_n hx hb dX7_look_180 rfl (lv_at hl 0 rfl) ?_
                    refine va_get (D := D) (ci := 7) (v := .int (gi (K0 0) 21)) (C := RX7) (T := TX7) (N := 29) hx hb htg ig_7 hown hK hP 0 (oh_wg (Nat.lt_of_lt_of_le (by decide) hn) (sM_0 hT)) rfl 23 (by decide) (htg _ q_996) (fun _ h9 => h9) (oh_fv (c := K149 0) (j := 23) rfl (Eq.trans (congrArg vi (hLF_149.2 23 (by decide))) (Eq.trans (show gi (C_101 0) 23 = gi (C_75 0) 23 by rw [e_102]; rfl) (Eq.trans (show gi (C_75 0) 23 = gi (C_72 0) 23 by rw [e_76]; rfl) (show gi (C_72 0) 23 = (gi (K0 0) 21) by rw [e_73]; rfl))))) dX7_look_181 ?_
                    refine lv_isub hx hb dX7_look_184 ?_
                    refine lv_iconst (v := 3) hx hb dX7_look_185 (by decide) ?_
                    refine lv_icmp_ge (tgt := 215) hx hb dX7_look_186 (by decide) (fun (c_110 : (3 : Int32) ≤ ((gi (K149 0) 21) - (gi (K0 0) 21))) => ?_) (fun (c_110 : ¬ ((3 : Int32) ≤ ((gi (K149 0) 21) - (gi (K0 0) 21)))) => ?_)
                    · refine lv_ldc2 (v := 100000) hx hb hown (htg _ q_1209) dX7_look_215 ?_
                      refine th_put (Tp := TyM a E) (Rl := fr [] [21, 22, 23, 24] C) (ci := 7) (v := .long 100000) (ty := .long) (CC := RX7) (T := TX7) (N := 29) hx hb htg ig_7 tyX7 tyX7_ok nmX7 hown hK hP hD hS 0 (Nat.lt_of_lt_of_le (by decide) hn) (sM_0 hT) rfl 24 (by decide) (htg _ q_997) (fun _ h9 => h9) rfl (by decide +kernel) rfl rfl (Nat.le_of_ble_eq_true rfl) (hT.up 0 (by decide) ⟨rfl, (fM_0_7 hT), (fM_0_9 hT), (fM_0_11 hT), (fM_0_13 hT), (fM_0_15 hT), (fM_0_21 hT), (fM_0_23 hT)⟩) (fr_fd hF (sM_0 hT) (by decide)) dX7_look_218 (fun C_111 H locs e_112 hT hF hP hD hS => ?_)
                      have t_113 := hT
                      refine lv_aload_n hx hb dX7_look_221 rfl (lv_at hl 0 rfl) ?_
                      refine lv_dup hx hb dX7_look_222 rfl ?_
                      refine va_get (D := D) (ci := 7) (v := .int (gi (K149 0) 21)) (C := RX7) (T := TX7) (N := 29) hx hb htg ig_7 hown hK hP 0 (oh_wg (Nat.lt_of_lt_of_le (by decide) hn) (sM_0 hT)) rfl 21 (by decide) (htg _ q_994) (fun _ h9 => h9) (oh_fv (c := C_111 0) (j := 21) rfl (show gi (C_111 0) 21 = gi (K149 0) 21 by rw [e_112]; rfl)) dX7_look_223 ?_
                      refine lv_iconst (v := 1) hx hb dX7_look_226 (by decide) ?_
                      refine lv_iadd hx hb dX7_look_227 ?_
                      have : (gi (C_111 0) 21).toInt = (gi (K149 0) 21).toInt := congrArg Int32.toInt (show gi (C_111 0) 21 = gi (K149 0) 21 by rw [e_112]; rfl)
                      have : (gi (C_111 0) 7).toInt = (gi (K149 0) 7).toInt := congrArg Int32.toInt (show gi (C_111 0) 7 = gi (K149 0) 7 by rw [e_112]; rfl)
                      have : (gi (C_111 0) 23).toInt = (gi (K149 0) 23).toInt := congrArg Int32.toInt (show gi (C_111 0) 23 = gi (K149 0) 23 by rw [e_112]; rfl)
                      have : (gi (C_111 0) 13).toInt = (gi (K149 0) 13).toInt := congrArg Int32.toInt (show gi (C_111 0) 13 = gi (K149 0) 13 by rw [e_112]; rfl)
                      have : 0 ≤ (gi (C_111 0) 21).toInt ∧ (gi (C_111 0) 21).toInt ≤ 250 := fM_0_21 t_113
                      have : 0 ≤ (gi (C_111 0) 7).toInt ∧ (gi (C_111 0) 7).toInt ≤ 250 := fM_0_7 t_113
                      have : 0 ≤ (gi (C_111 0) 23).toInt ∧ (gi (C_111 0) 23).toInt ≤ 250 := fM_0_23 t_113
                      have : 0 ≤ (gi (C_111 0) 13).toInt ∧ (gi (C_111 0) 13).toInt ≤ 5 := fM_0_13 t_113
                      have hpf_228 : rg (gi (K149 0) 21) 0 249 := ⟨by omega, by omega⟩
                      refine th_put (Tp := TyM a E) (Rl := fr [] [21, 22, 23, 24] C) (ci := 7) (v := .int ((gi (K149 0) 21) + 1)) (ty := .int) (CC := RX7) (T := TX7) (N := 29) hx hb htg ig_7 tyX7 tyX7_ok nmX7 hown hK hP hD hS 0 (Nat.lt_of_lt_of_le (by decide) hn) (sM_0 hT) rfl 21 (by decide) (htg _ q_994) (fun _ h9 => h9) rfl (by decide +kernel) rfl rfl (Nat.le_of_ble_eq_true rfl) (hT.up 0 (by decide) ⟨rfl, (fM_0_7 hT), (fM_0_9 hT), (fM_0_11 hT), (fM_0_13 hT), (fM_0_15 hT), (rg_w (rg_add (lo := 1) (hi := 250) hpf_228 (rg_c (v := 1) (lo := 1) (hi := 1) (by decide)) (by decide)) (by decide)), (fM_0_23 hT)⟩) (fr_fd hF (sM_0 hT) (by decide)) dX7_look_228 (fun C_114 H locs e_115 hT hF hP hD hS => ?_)
                      have t_116 := hT
                      refine lv_goto (tgt := 149) hx hb dX7_look_231 (by decide) ?_
                      have : (gi (C_114 0) 21).toInt = ((gi (K149 0) 21) + 1).toInt := congrArg Int32.toInt (show gi (C_114 0) 21 = ((gi (K149 0) 21) + 1) by rw [e_115]; rfl)
                      have : ((gi (K149 0) 21) + 1).toInt = (gi (K149 0) 21).toInt + 1 := oh_incr (rn_ltu (u' := 249) (Int32.not_le.mp c_105) (fM_0_21 t_104) (rn_ltl (l' := 1) (Int32.not_le.mp c_2) (fM_0_21 t_1) (fM_0_7 hT0) (by decide)) (by decide)) (by decide)
                      have : (gi (C_114 0) 7).toInt = (gi (C_111 0) 7).toInt := congrArg Int32.toInt (show gi (C_114 0) 7 = gi (C_111 0) 7 by rw [e_115]; rfl)
                      have : (gi (C_114 0) 23).toInt = (gi (C_111 0) 23).toInt := congrArg Int32.toInt (show gi (C_114 0) 23 = gi (C_111 0) 23 by rw [e_115]; rfl)
                      have : (gi (C_114 0) 13).toInt = (gi (C_111 0) 13).toInt := congrArg Int32.toInt (show gi (C_114 0) 13 = gi (C_111 0) 13 by rw [e_115]; rfl)
                      have : 0 ≤ (gi (C_114 0) 21).toInt ∧ (gi (C_114 0) 21).toInt ≤ 250 := fM_0_21 t_116
                      have : 0 ≤ (gi (C_114 0) 7).toInt ∧ (gi (C_114 0) 7).toInt ≤ 250 := fM_0_7 t_116
                      have : 0 ≤ (gi (C_114 0) 23).toInt ∧ (gi (C_114 0) 23).toInt ≤ 250 := fM_0_23 t_116
                      have : 0 ≤ (gi (C_114 0) 13).toInt ∧ (gi (C_114 0) 13).toInt ≤ 5 := fM_0_13 t_116
                      exact ih_149 _ (hd_149 ▸ (by rw [(show gi (C_114 0) 21 = ((gi (K149 0) 21) + 1) by rw [e_115]; rfl)]; exact mu_up 250 (rn_ltu (u' := 249) (Int32.not_le.mp c_105) (fM_0_21 t_104) (rn_ltl (l' := 1) (Int32.not_le.mp c_2) (fM_0_21 t_1) (fM_0_7 hT0) (by decide)) (by decide)) (by decide))) C_114  _ _ ls rfl (by omega) hT hF (fr_fde (fr_fde hLF_149 e_112 (sM_0 t_104) (by decide)) e_115 (sM_0 t_113) (by decide)) hP hD hS (lv_sub hl [0] rfl)
                    · refine lv_aload_n hx hb dX7_look_189 rfl (lv_at hl 0 rfl) ?_
                      refine va_get (D := D) (ci := 7) (v := .long (gl (K149 0) 24)) (C := RX7) (T := TX7) (N := 29) hx hb htg ig_7 hown hK hP 0 (oh_wg (Nat.lt_of_lt_of_le (by decide) hn) (sM_0 hT)) rfl 24 (by decide) (htg _ q_997) (fun _ h9 => h9) rfl dX7_look_190 ?_
                      refine lv_ldc2 (v := 10) hx hb hown (htg _ q_1207) dX7_look_193 ?_
                      refine lv_lmul hx hb dX7_look_196 ?_
                      refine lv_aload_n hx hb dX7_look_197 rfl (lv_at hl 0 rfl) ?_
                      refine va_get (D := D) (ci := 7) (v := .ref (a 7)) (C := RX7) (T := TX7) (N := 29) hx hb htg ig_7 hown hK hP 0 (oh_wg (Nat.lt_of_lt_of_le (by decide) hn) (sM_0 hT)) rfl 6 (by decide) (htg _ q_979) (fun _ h9 => h9) rfl dX7_look_198 ?_
                      refine lv_aload_n hx hb dX7_look_201 rfl (lv_at hl 0 rfl) ?_
                      refine va_get (D := D) (ci := 7) (v := .int (gi (K149 0) 21)) (C := RX7) (T := TX7) (N := 29) hx hb htg ig_7 hown hK hP 0 (oh_wg (Nat.lt_of_lt_of_le (by decide) hn) (sM_0 hT)) rfl 21 (by decide) (htg _ q_994) (fun _ h9 => h9) rfl dX7_look_202 ?_
                      have n_117 : vp_in (gi (K149 0) 21) 250 := (vp_in_iff.mpr ⟨by omega, by omega⟩)
                      refine th_iald hx hb hK hP 7 (Nat.lt_of_lt_of_le (by decide) hn) (Eq.trans (Eq.trans (hLF_149.1 7 rfl (by decide)) (Eq.trans (th_un e_102 (by decide)) (Eq.trans (th_un e_76 (by decide)) (Eq.trans (th_un e_73 (by decide)) (hLF_0.1 7 rfl (by decide)))))) (sM_7 hT0)) n_117 dX7_look_205 ?_
                      refine lv_i2l (v := Int32.toInt64 (ga (C 7) (gi (K149 0) 21).toNatClampNeg)) hx hb dX7_look_206 (by rfl) ?_
                      refine lv_ladd hx hb dX7_look_207 ?_
                      refine lv_ldc2 (v := 48) hx hb hown (htg _ q_1208) dX7_look_208 ?_
                      refine lv_lsub hx hb dX7_look_211 ?_
                      refine lv_goto (tgt := 218) hx hb dX7_look_212 (by decide) ?_
                      refine th_put (Tp := TyM a E) (Rl := fr [] [21, 22, 23, 24] C) (ci := 7) (v := .long ((((gl (K149 0) 24) * 10) + (Int32.toInt64 (ga (C 7) (gi (K149 0) 21).toNatClampNeg))) - 48)) (ty := .long) (CC := RX7) (T := TX7) (N := 29) hx hb htg ig_7 tyX7 tyX7_ok nmX7 hown hK hP hD hS 0 (Nat.lt_of_lt_of_le (by decide) hn) (sM_0 hT) rfl 24 (by decide) (htg _ q_997) (fun _ h9 => h9) rfl (by decide +kernel) rfl rfl (Nat.le_of_ble_eq_true rfl) (hT.up 0 (by decide) ⟨rfl, (fM_0_7 hT), (fM_0_9 hT), (fM_0_11 hT), (fM_0_13 hT), (fM_0_15 hT), (fM_0_21 hT), (fM_0_23 hT)⟩) (fr_fd hF (sM_0 hT) (by decide)) dX7_look_218 (fun C_118 H locs e_119 hT hF hP hD hS => ?_)
                      have t_120 := hT
                      refine lv_aload_n hx hb dX7_look_221 rfl (lv_at hl 0 rfl) ?_
                      refine lv_dup hx hb dX7_look_222 rfl ?_
                      refine va_get (D := D) (ci := 7) (v := .int (gi (K149 0) 21)) (C := RX7) (T := TX7) (N := 29) hx hb htg ig_7 hown hK hP 0 (oh_wg (Nat.lt_of_lt_of_le (by decide) hn) (sM_0 hT)) rfl 21 (by decide) (htg _ q_994) (fun _ h9 => h9) (oh_fv (c := C_118 0) (j := 21) rfl (show gi (C_118 0) 21 = gi (K149 0) 21 by rw [e_119]; rfl)) dX7_look_223 ?_
                      refine lv_iconst (v := 1) hx hb dX7_look_226 (by decide) ?_
                      refine lv_iadd hx hb dX7_look_227 ?_
                      have : (gi (C_118 0) 21).toInt = (gi (K149 0) 21).toInt := congrArg Int32.toInt (show gi (C_118 0) 21 = gi (K149 0) 21 by rw [e_119]; rfl)
                      have : (gi (C_118 0) 7).toInt = (gi (K149 0) 7).toInt := congrArg Int32.toInt (show gi (C_118 0) 7 = gi (K149 0) 7 by rw [e_119]; rfl)
                      have : (gi (C_118 0) 23).toInt = (gi (K149 0) 23).toInt := congrArg Int32.toInt (show gi (C_118 0) 23 = gi (K149 0) 23 by rw [e_119]; rfl)
                      have : (gi (C_118 0) 13).toInt = (gi (K149 0) 13).toInt := congrArg Int32.toInt (show gi (C_118 0) 13 = gi (K149 0) 13 by rw [e_119]; rfl)
                      have : 0 ≤ (gi (C_118 0) 21).toInt ∧ (gi (C_118 0) 21).toInt ≤ 250 := fM_0_21 t_120
                      have : 0 ≤ (gi (C_118 0) 7).toInt ∧ (gi (C_118 0) 7).toInt ≤ 250 := fM_0_7 t_120
                      have : 0 ≤ (gi (C_118 0) 23).toInt ∧ (gi (C_118 0) 23).toInt ≤ 250 := fM_0_23 t_120
                      have : 0 ≤ (gi (C_118 0) 13).toInt ∧ (gi (C_118 0) 13).toInt ≤ 5 := fM_0_13 t_120
                      have hpf_228 : rg (gi (K149 0) 21) 0 249 := ⟨by omega, by omega⟩
                      refine th_put (Tp := TyM a E) (Rl := fr [] [21, 22, 23, 24] C) (ci := 7) (v := .int ((gi (K149 0) 21) + 1)) (ty := .int) (CC := RX7) (T := TX7) (N := 29) hx hb htg ig_7 tyX7 tyX7_ok nmX7 hown hK hP hD hS 0 (Nat.lt_of_lt_of_le (by decide) hn) (sM_0 hT) rfl 21 (by decide) (htg _ q_994) (fun _ h9 => h9) rfl (by decide +kernel) rfl rfl (Nat.le_of_ble_eq_true rfl) (hT.up 0 (by decide) ⟨rfl, (fM_0_7 hT), (fM_0_9 hT), (fM_0_11 hT), (fM_0_13 hT), (fM_0_15 hT), (rg_w (rg_add (lo := 1) (hi := 250) hpf_228 (rg_c (v := 1) (lo := 1) (hi := 1) (by decide)) (by decide)) (by decide)), (fM_0_23 hT)⟩) (fr_fd hF (sM_0 hT) (by decide)) dX7_look_228 (fun C_121 H locs e_122 hT hF hP hD hS => ?_)
                      have t_123 := hT
                      refine lv_goto (tgt := 149) hx hb dX7_look_231 (by decide) ?_
                      have : (gi (C_121 0) 21).toInt = ((gi (K149 0) 21) + 1).toInt := congrArg Int32.toInt (show gi (C_121 0) 21 = ((gi (K149 0) 21) + 1) by rw [e_122]; rfl)
                      have : ((gi (K149 0) 21) + 1).toInt = (gi (K149 0) 21).toInt + 1 := oh_incr (rn_ltu (u' := 249) (Int32.not_le.mp c_105) (fM_0_21 t_104) (rn_ltl (l' := 1) (Int32.not_le.mp c_2) (fM_0_21 t_1) (fM_0_7 hT0) (by decide)) (by decide)) (by decide)
                      have : (gi (C_121 0) 7).toInt = (gi (C_118 0) 7).toInt := congrArg Int32.toInt (show gi (C_121 0) 7 = gi (C_118 0) 7 by rw [e_122]; rfl)
                      have : (gi (C_121 0) 23).toInt = (gi (C_118 0) 23).toInt := congrArg Int32.toInt (show gi (C_121 0) 23 = gi (C_118 0) 23 by rw [e_122]; rfl)
                      have : (gi (C_121 0) 13).toInt = (gi (C_118 0) 13).toInt := congrArg Int32.toInt (show gi (C_121 0) 13 = gi (C_118 0) 13 by rw [e_122]; rfl)
                      have : 0 ≤ (gi (C_121 0) 21).toInt ∧ (gi (C_121 0) 21).toInt ≤ 250 := fM_0_21 t_123
                      have : 0 ≤ (gi (C_121 0) 7).toInt ∧ (gi (C_121 0) 7).toInt ≤ 250 := fM_0_7 t_123
                      have : 0 ≤ (gi (C_121 0) 23).toInt ∧ (gi (C_121 0) 23).toInt ≤ 250 := fM_0_23 t_123
                      have : 0 ≤ (gi (C_121 0) 13).toInt ∧ (gi (C_121 0) 13).toInt ≤ 5 := fM_0_13 t_123
                      exact ih_149 _ (hd_149 ▸ (by rw [(show gi (C_121 0) 21 = ((gi (K149 0) 21) + 1) by rw [e_122]; rfl)]; exact mu_up 250 (rn_ltu (u' := 249) (Int32.not_le.mp c_105) (fM_0_21 t_104) (rn_ltl (l' := 1) (Int32.not_le.mp c_2) (fM_0_21 t_1) (fM_0_7 hT0) (by decide)) (by decide)) (by decide))) C_121  _ _ ls rfl (by omega) hT hF (fr_fde (fr_fde hLF_149 e_119 (sM_0 t_104) (by decide)) e_122 (sM_0 t_120) (by decide)) hP hD hS (lv_sub hl [0] rfl)
              have : (gi (C_101 0) 21).toInt = (gi (C_75 0) 21).toInt := congrArg Int32.toInt (show gi (C_101 0) 21 = gi (C_75 0) 21 by rw [e_102]; rfl)
              have : (gi (C_101 0) 7).toInt = (gi (C_75 0) 7).toInt := congrArg Int32.toInt (show gi (C_101 0) 7 = gi (C_75 0) 7 by rw [e_102]; rfl)
              have : (gi (C_101 0) 23).toInt = (gi (C_75 0) 23).toInt := congrArg Int32.toInt (show gi (C_101 0) 23 = gi (C_75 0) 23 by rw [e_102]; rfl)
              have : (gi (C_101 0) 13).toInt = (gi (C_75 0) 13).toInt := congrArg Int32.toInt (show gi (C_101 0) 13 = gi (C_75 0) 13 by rw [e_102]; rfl)
              have : 0 ≤ (gi (C_101 0) 21).toInt ∧ (gi (C_101 0) 21).toInt ≤ 250 := fM_0_21 t_103
              have : 0 ≤ (gi (C_101 0) 7).toInt ∧ (gi (C_101 0) 7).toInt ≤ 250 := fM_0_7 t_103
              have : 0 ≤ (gi (C_101 0) 23).toInt ∧ (gi (C_101 0) 23).toInt ≤ 250 := fM_0_23 t_103
              have : 0 ≤ (gi (C_101 0) 13).toInt ∧ (gi (C_101 0) 13).toInt ≤ 5 := fM_0_13 t_103
              exact L_149 _ C_101  _ _ ls rfl (by omega) hT hF fr_rf hP hD hS (lv_sub hl [0] rfl)
          · refine lv_aload_n hx hb dX7_look_85 rfl (lv_at hl 0 rfl) ?_
            refine lv_iconst (v := 1) hx hb dX7_look_86 (by decide) ?_
            refine th_put (Tp := TyM a E) (Rl := fr [] [21, 22, 23, 24] C) (ci := 7) (v := .int 1) (ty := .int) (CC := RX7) (T := TX7) (N := 29) hx hb htg ig_7 tyX7 tyX7_ok nmX7 hown hK hP hD hS 0 (Nat.lt_of_lt_of_le (by decide) hn) (sM_0 hT) rfl 22 (by decide) (htg _ q_995) (fun _ h9 => h9) rfl (by decide +kernel) rfl rfl (Nat.le_of_ble_eq_true rfl) (hT.up 0 (by decide) ⟨rfl, (fM_0_7 hT), (fM_0_9 hT), (fM_0_11 hT), (fM_0_13 hT), (fM_0_15 hT), (fM_0_21 hT), (fM_0_23 hT)⟩) (fr_fd hF (sM_0 hT) (by decide)) dX7_look_87 (fun C_124 H locs e_125 hT hF hP hD hS => ?_)
            have t_126 := hT
            have L_90 : ∀ (d : Nat) (K90 : Nat → va_E) (H : Heap) (locs : List Loc) (ls : Array Slot), (250 - (gi (K90 0) 21).toInt).toNat = d → ((gi (C 0) 21).toInt ≤ (gi (K90 0) 23).toInt ∧ (gi (K90 0) 23).toInt ≤ (gi (K90 0) 21).toInt ∧ (gi (K90 0) 21).toInt ≤ (gi (K90 0) 7).toInt) → TyM a E K90 → fr [] [21, 22, 23, 24] C K90 → fr [] [21] C_124 K90 → va_P D vwCl (oh_W n a K90) H → va_D A (oh_W n a K90) → va_S A s.heap H locs → lv_has ls 1 [(0, .ref (a 0))] → W p l e ({ frames := 1, cells := 0, slots := 0, locals := 20 }) s m (([.ref (a 0)] : List Value).toArray) below meth c H locs 0 0 Q (F0 m 90 ls []) := by
              intro d
              induction d using Nat.strongRecOn with
              | ind d ih_90 =>
              intro K90  H locs ls hd_90 hv_90 hT hF hLF_90 hP hD hS hl
              have t_127 := hT
              refine lv_aload_n hx hb dX7_look_90 rfl (lv_at hl 0 rfl) ?_
              refine va_get (D := D) (ci := 7) (v := .int (gi (K90 0) 21)) (C := RX7) (T := TX7) (N := 29) hx hb htg ig_7 hown hK hP 0 (oh_wg (Nat.lt_of_lt_of_le (by decide) hn) (sM_0 hT)) rfl 21 (by decide) (htg _ q_994) (fun _ h9 => h9) rfl dX7_look_91 ?_
              refine lv_aload_n hx hb dX7_look_94 rfl (lv_at hl 0 rfl) ?_
              refine va_get (D := D) (ci := 7) (v := .int (gi (C 0) 7)) (C := RX7) (T := TX7) (N := 29) hx hb htg ig_7 hown hK hP 0 (oh_wg (Nat.lt_of_lt_of_le (by decide) hn) (sM_0 hT)) rfl 7 (by decide) (htg _ q_980) (fun _ h9 => h9) (oh_fv (c := K90 0) (j := 7) rfl (Eq.trans (congrArg vi (hLF_90.2 7 (by decide))) (Eq.trans (show gi (C_124 0) 7 = gi (C_75 0) 7 by rw [e_125]; rfl) (Eq.trans (show gi (C_75 0) 7 = gi (C_72 0) 7 by rw [e_76]; rfl) (Eq.trans (show gi (C_72 0) 7 = gi (K0 0) 7 by rw [e_73]; rfl) (congrArg vi (hLF_0.2 7 (by decide)))))))) dX7_look_95 ?_
              refine lv_icmp_ge (tgt := 267) hx hb dX7_look_98 (by decide) (fun (c_128 : (gi (C 0) 7) ≤ (gi (K90 0) 21)) => ?_) (fun (c_128 : ¬ ((gi (C 0) 7) ≤ (gi (K90 0) 21))) => ?_)
              · have : (gi (C_124 0) 21).toInt = (gi (C_75 0) 21).toInt := congrArg Int32.toInt (show gi (C_124 0) 21 = gi (C_75 0) 21 by rw [e_125]; rfl)
                have : (gi (C_124 0) 7).toInt = (gi (C_75 0) 7).toInt := congrArg Int32.toInt (show gi (C_124 0) 7 = gi (C_75 0) 7 by rw [e_125]; rfl)
                have : (gi (C_124 0) 23).toInt = (gi (C_75 0) 23).toInt := congrArg Int32.toInt (show gi (C_124 0) 23 = gi (C_75 0) 23 by rw [e_125]; rfl)
                have : (gi (C_124 0) 13).toInt = (gi (C_75 0) 13).toInt := congrArg Int32.toInt (show gi (C_124 0) 13 = gi (C_75 0) 13 by rw [e_125]; rfl)
                have : (gi (K90 0) 7).toInt = (gi (C_124 0) 7).toInt := congrArg (fun z => (vi z).toInt) (hLF_90.2 7 (by decide))
                have : (gi (K90 0) 23).toInt = (gi (C_124 0) 23).toInt := congrArg (fun z => (vi z).toInt) (hLF_90.2 23 (by decide))
                have : (gi (K90 0) 13).toInt = (gi (C_124 0) 13).toInt := congrArg (fun z => (vi z).toInt) (hLF_90.2 13 (by decide))
                have : 0 ≤ (gi (C_124 0) 21).toInt ∧ (gi (C_124 0) 21).toInt ≤ 250 := fM_0_21 t_126
                have : 0 ≤ (gi (C_124 0) 7).toInt ∧ (gi (C_124 0) 7).toInt ≤ 250 := fM_0_7 t_126
                have : 0 ≤ (gi (C_124 0) 23).toInt ∧ (gi (C_124 0) 23).toInt ≤ 250 := fM_0_23 t_126
                have : 0 ≤ (gi (C_124 0) 13).toInt ∧ (gi (C_124 0) 13).toInt ≤ 5 := fM_0_13 t_126
                have : 0 ≤ (gi (K90 0) 21).toInt ∧ (gi (K90 0) 21).toInt ≤ 250 := fM_0_21 t_127
                have : 0 ≤ (gi (K90 0) 7).toInt ∧ (gi (K90 0) 7).toInt ≤ 250 := fM_0_7 t_127
                have : 0 ≤ (gi (K90 0) 23).toInt ∧ (gi (K90 0) 23).toInt ≤ 250 := fM_0_23 t_127
                have : 0 ≤ (gi (K90 0) 13).toInt ∧ (gi (K90 0) 13).toInt ≤ 5 := fM_0_13 t_127
                have : (gi (C 0) 7).toInt ≤ (gi (K90 0) 21).toInt := Int32.le_iff_toInt_le.mp c_128
                rw [hQ]
                exact W.vret hx hb hr (fun t ht hW => ⟨⟨K90, rfl, ⟨hT, hF, ⟨(by omega), (by omega), (by omega)⟩⟩, ⟨by rw [ht]; exact hP, hD⟩⟩, hS.F ht⟩) hS.2.2 dX7_look_267
              · refine lv_aload_n hx hb dX7_look_101 rfl (lv_at hl 0 rfl) ?_
                refine va_get (D := D) (ci := 7) (v := .ref (a 7)) (C := RX7) (T := TX7) (N := 29) hx hb htg ig_7 hown hK hP 0 (oh_wg (Nat.lt_of_lt_of_le (by decide) hn) (sM_0 hT)) rfl 6 (by decide) (htg _ q_979) (fun _ h9 => h9) rfl dX7_look_102 ?_
                refine lv_aload_n hx hb dX7_look_105 rfl (lv_at hl 0 rfl) ?_
                refine va_get (D := D) (ci := 7) (v := .int (gi (K90 0) 21)) (C := RX7) (T := TX7) (N := 29) hx hb htg ig_7 hown hK hP 0 (oh_wg (Nat.lt_of_lt_of_le (by decide) hn) (sM_0 hT)) rfl 21 (by decide) (htg _ q_994) (fun _ h9 => h9) rfl dX7_look_106 ?_
                have : (gi (C_124 0) 21).toInt = (gi (C_75 0) 21).toInt := congrArg Int32.toInt (show gi (C_124 0) 21 = gi (C_75 0) 21 by rw [e_125]; rfl)
                have : (gi (C_124 0) 7).toInt = (gi (C_75 0) 7).toInt := congrArg Int32.toInt (show gi (C_124 0) 7 = gi (C_75 0) 7 by rw [e_125]; rfl)
                have : (gi (C_124 0) 23).toInt = (gi (C_75 0) 23).toInt := congrArg Int32.toInt (show gi (C_124 0) 23 = gi (C_75 0) 23 by rw [e_125]; rfl)
                have : (gi (C_124 0) 13).toInt = (gi (C_75 0) 13).toInt := congrArg Int32.toInt (show gi (C_124 0) 13 = gi (C_75 0) 13 by rw [e_125]; rfl)
                have : (gi (K90 0) 7).toInt = (gi (C_124 0) 7).toInt := congrArg (fun z => (vi z).toInt) (hLF_90.2 7 (by decide))
                have : (gi (K90 0) 23).toInt = (gi (C_124 0) 23).toInt := congrArg (fun z => (vi z).toInt) (hLF_90.2 23 (by decide))
                have : (gi (K90 0) 13).toInt = (gi (C_124 0) 13).toInt := congrArg (fun z => (vi z).toInt) (hLF_90.2 13 (by decide))
                have : 0 ≤ (gi (C_124 0) 21).toInt ∧ (gi (C_124 0) 21).toInt ≤ 250 := fM_0_21 t_126
                have : 0 ≤ (gi (C_124 0) 7).toInt ∧ (gi (C_124 0) 7).toInt ≤ 250 := fM_0_7 t_126
                have : 0 ≤ (gi (C_124 0) 23).toInt ∧ (gi (C_124 0) 23).toInt ≤ 250 := fM_0_23 t_126
                have : 0 ≤ (gi (C_124 0) 13).toInt ∧ (gi (C_124 0) 13).toInt ≤ 5 := fM_0_13 t_126
                have : 0 ≤ (gi (K90 0) 21).toInt ∧ (gi (K90 0) 21).toInt ≤ 250 := fM_0_21 t_127
                have : 0 ≤ (gi (K90 0) 7).toInt ∧ (gi (K90 0) 7).toInt ≤ 250 := fM_0_7 t_127
                have : 0 ≤ (gi (K90 0) 23).toInt ∧ (gi (K90 0) 23).toInt ≤ 250 := fM_0_23 t_127
                have : 0 ≤ (gi (K90 0) 13).toInt ∧ (gi (K90 0) 13).toInt ≤ 5 := fM_0_13 t_127
                have : (gi (K90 0) 21).toInt < (gi (C 0) 7).toInt := Int32.lt_iff_toInt_lt.mp (Int32.not_le.mp c_128)
                have n_129 : vp_in (gi (K90 0) 21) 250 := (vp_in_iff.mpr ⟨by omega, by omega⟩)
                refine th_iald hx hb hK hP 7 (Nat.lt_of_lt_of_le (by decide) hn) (Eq.trans (Eq.trans (hLF_90.1 7 rfl (by decide)) (Eq.trans (th_un e_125 (by decide)) (Eq.trans (th_un e_76 (by decide)) (Eq.trans (th_un e_73 (by decide)) (hLF_0.1 7 rfl (by decide)))))) (sM_7 hT0)) n_129 dX7_look_109 ?_
                refine tq_S (As := [.int (ga (C 7) (gi (K90 0) 21).toNatClampNeg)]) (rest := []) (ws := []) ⟨hx, hb, hml, hown, htg⟩ (c_X7_isLetter l D E G (ga (C 7) (gi (K90 0) 21).toNatClampNeg)) (va_cwS 1 htg (oh_gS q_1201 q_1202 q_73 q_1203) rfl rfl rfl pdX7_isLetter ⟨Nat.le_of_ble_eq_true rfl, Nat.le_of_ble_eq_true rfl⟩) hK va_nil hG hS rfl hl.1 rfl (Nat.le_of_ble_eq_true rfl) dX7_look_110 ⟨Nat.le_of_ble_eq_true rfl, Nat.le_of_ble_eq_true rfl⟩ (fun r_130 hq_131 => ?_)
                refine lv_if_eq (tgt := 267) hx hb dX7_look_113 (by decide) (fun (c_132 : r_130 = 0) => ?_) (fun (c_132 : ¬ (r_130 = 0)) => ?_)
                · rw [hQ]
                  exact W.vret hx hb hr (fun t ht hW => ⟨⟨K90, rfl, ⟨hT, hF, ⟨(by omega), (by omega), (by omega)⟩⟩, ⟨by rw [ht]; exact hP, hD⟩⟩, hS.F ht⟩) hS.2.2 dX7_look_267
                · refine lv_aload_n hx hb dX7_look_116 rfl (lv_at hl 0 rfl) ?_
                  refine lv_dup hx hb dX7_look_117 rfl ?_
                  refine va_get (D := D) (ci := 7) (v := .int (gi (K90 0) 21)) (C := RX7) (T := TX7) (N := 29) hx hb htg ig_7 hown hK hP 0 (oh_wg (Nat.lt_of_lt_of_le (by decide) hn) (sM_0 hT)) rfl 21 (by decide) (htg _ q_994) (fun _ h9 => h9) rfl dX7_look_118 ?_
                  refine lv_iconst (v := 1) hx hb dX7_look_121 (by decide) ?_
                  refine lv_iadd hx hb dX7_look_122 ?_
                  have hpf_123 : rg (gi (K90 0) 21) 0 249 := ⟨by omega, by omega⟩
                  refine th_put (Tp := TyM a E) (Rl := fr [] [21, 22, 23, 24] C) (ci := 7) (v := .int ((gi (K90 0) 21) + 1)) (ty := .int) (CC := RX7) (T := TX7) (N := 29) hx hb htg ig_7 tyX7 tyX7_ok nmX7 hown hK hP hD hS 0 (Nat.lt_of_lt_of_le (by decide) hn) (sM_0 hT) rfl 21 (by decide) (htg _ q_994) (fun _ h9 => h9) rfl (by decide +kernel) rfl rfl (Nat.le_of_ble_eq_true rfl) (hT.up 0 (by decide) ⟨rfl, (fM_0_7 hT), (fM_0_9 hT), (fM_0_11 hT), (fM_0_13 hT), (fM_0_15 hT), (rg_w (rg_add (lo := 1) (hi := 250) hpf_123 (rg_c (v := 1) (lo := 1) (hi := 1) (by decide)) (by decide)) (by decide)), (fM_0_23 hT)⟩) (fr_fd hF (sM_0 hT) (by decide)) dX7_look_123 (fun C_133 H locs e_134 hT hF hP hD hS => ?_)
                  have t_135 := hT
                  refine lv_goto (tgt := 90) hx hb dX7_look_126 (by decide) ?_
                  have : (gi (C_133 0) 21).toInt = ((gi (K90 0) 21) + 1).toInt := congrArg Int32.toInt (show gi (C_133 0) 21 = ((gi (K90 0) 21) + 1) by rw [e_134]; rfl)
                  have : ((gi (K90 0) 21) + 1).toInt = (gi (K90 0) 21).toInt + 1 := oh_incr (rn_ltu (u' := 249) (Int32.not_le.mp c_128) (fM_0_21 t_127) (rn_ltl (l' := 1) (Int32.not_le.mp c_2) (fM_0_21 t_1) (fM_0_7 hT0) (by decide)) (by decide)) (by decide)
                  have : (gi (C_133 0) 7).toInt = (gi (K90 0) 7).toInt := congrArg Int32.toInt (show gi (C_133 0) 7 = gi (K90 0) 7 by rw [e_134]; rfl)
                  have : (gi (C_133 0) 23).toInt = (gi (K90 0) 23).toInt := congrArg Int32.toInt (show gi (C_133 0) 23 = gi (K90 0) 23 by rw [e_134]; rfl)
                  have : (gi (C_133 0) 13).toInt = (gi (K90 0) 13).toInt := congrArg Int32.toInt (show gi (C_133 0) 13 = gi (K90 0) 13 by rw [e_134]; rfl)
                  have : 0 ≤ (gi (C_133 0) 21).toInt ∧ (gi (C_133 0) 21).toInt ≤ 250 := fM_0_21 t_135
                  have : 0 ≤ (gi (C_133 0) 7).toInt ∧ (gi (C_133 0) 7).toInt ≤ 250 := fM_0_7 t_135
                  have : 0 ≤ (gi (C_133 0) 23).toInt ∧ (gi (C_133 0) 23).toInt ≤ 250 := fM_0_23 t_135
                  have : 0 ≤ (gi (C_133 0) 13).toInt ∧ (gi (C_133 0) 13).toInt ≤ 5 := fM_0_13 t_135
                  exact ih_90 _ (hd_90 ▸ (by rw [(show gi (C_133 0) 21 = ((gi (K90 0) 21) + 1) by rw [e_134]; rfl)]; exact mu_up 250 (rn_ltu (u' := 249) (Int32.not_le.mp c_128) (fM_0_21 t_127) (rn_ltl (l' := 1) (Int32.not_le.mp c_2) (fM_0_21 t_1) (fM_0_7 hT0) (by decide)) (by decide)) (by decide))) C_133  _ _ ls rfl (by omega) hT hF (fr_fde hLF_90 e_134 (sM_0 t_127) (by decide)) hP hD hS (lv_sub hl [0] rfl)
            have : (gi (C_124 0) 21).toInt = (gi (C_75 0) 21).toInt := congrArg Int32.toInt (show gi (C_124 0) 21 = gi (C_75 0) 21 by rw [e_125]; rfl)
            have : (gi (C_124 0) 7).toInt = (gi (C_75 0) 7).toInt := congrArg Int32.toInt (show gi (C_124 0) 7 = gi (C_75 0) 7 by rw [e_125]; rfl)
            have : (gi (C_124 0) 23).toInt = (gi (C_75 0) 23).toInt := congrArg Int32.toInt (show gi (C_124 0) 23 = gi (C_75 0) 23 by rw [e_125]; rfl)
            have : (gi (C_124 0) 13).toInt = (gi (C_75 0) 13).toInt := congrArg Int32.toInt (show gi (C_124 0) 13 = gi (C_75 0) 13 by rw [e_125]; rfl)
            have : 0 ≤ (gi (C_124 0) 21).toInt ∧ (gi (C_124 0) 21).toInt ≤ 250 := fM_0_21 t_126
            have : 0 ≤ (gi (C_124 0) 7).toInt ∧ (gi (C_124 0) 7).toInt ≤ 250 := fM_0_7 t_126
            have : 0 ≤ (gi (C_124 0) 23).toInt ∧ (gi (C_124 0) 23).toInt ≤ 250 := fM_0_23 t_126
            have : 0 ≤ (gi (C_124 0) 13).toInt ∧ (gi (C_124 0) 13).toInt ≤ 5 := fM_0_13 t_126
            exact L_90 _ C_124  _ _ ls rfl (by omega) hT hF fr_rf hP hD hS (lv_sub hl [0] rfl)
        · refine lv_aload_n hx hb dX7_look_62 rfl (lv_at hl 0 rfl) ?_
          refine lv_iconst (v := 0) hx hb dX7_look_63 (by decide) ?_
          refine th_put (Tp := TyM a E) (Rl := fr [] [21, 22, 23, 24] C) (ci := 7) (v := .int 0) (ty := .int) (CC := RX7) (T := TX7) (N := 29) hx hb htg ig_7 tyX7 tyX7_ok nmX7 hown hK hP hD hS 0 (Nat.lt_of_lt_of_le (by decide) hn) (sM_0 hT) rfl 22 (by decide) (htg _ q_995) (fun _ h9 => h9) rfl (by decide +kernel) rfl rfl (Nat.le_of_ble_eq_true rfl) (hT.up 0 (by decide) ⟨rfl, (fM_0_7 hT), (fM_0_9 hT), (fM_0_11 hT), (fM_0_13 hT), (fM_0_15 hT), (fM_0_21 hT), (fM_0_23 hT)⟩) (fr_fd hF (sM_0 hT) (by decide)) dX7_look_64 (fun C_136 H locs e_137 hT hF hP hD hS => ?_)
          have t_138 := hT
          refine lv_goto (tgt := 267) hx hb dX7_look_67 (by decide) ?_
          have : (gi (C_72 0) 21).toInt = (gi (K0 0) 21).toInt := congrArg Int32.toInt (show gi (C_72 0) 21 = gi (K0 0) 21 by rw [e_73]; rfl)
          have : (gi (C_72 0) 7).toInt = (gi (K0 0) 7).toInt := congrArg Int32.toInt (show gi (C_72 0) 7 = gi (K0 0) 7 by rw [e_73]; rfl)
          have : (gi (C_72 0) 23).toInt = (gi (K0 0) 21).toInt := congrArg Int32.toInt (show gi (C_72 0) 23 = (gi (K0 0) 21) by rw [e_73]; rfl)
          have : (gi (C_72 0) 13).toInt = (gi (K0 0) 13).toInt := congrArg Int32.toInt (show gi (C_72 0) 13 = gi (K0 0) 13 by rw [e_73]; rfl)
          have : (gi (C_75 0) 21).toInt = (gi (C_72 0) 21).toInt := congrArg Int32.toInt (show gi (C_75 0) 21 = gi (C_72 0) 21 by rw [e_76]; rfl)
          have : (gi (C_75 0) 7).toInt = (gi (C_72 0) 7).toInt := congrArg Int32.toInt (show gi (C_75 0) 7 = gi (C_72 0) 7 by rw [e_76]; rfl)
          have : (gi (C_75 0) 23).toInt = (gi (C_72 0) 23).toInt := congrArg Int32.toInt (show gi (C_75 0) 23 = gi (C_72 0) 23 by rw [e_76]; rfl)
          have : (gi (C_75 0) 13).toInt = (gi (C_72 0) 13).toInt := congrArg Int32.toInt (show gi (C_75 0) 13 = gi (C_72 0) 13 by rw [e_76]; rfl)
          have : (gi (C_136 0) 21).toInt = (gi (C_75 0) 21).toInt := congrArg Int32.toInt (show gi (C_136 0) 21 = gi (C_75 0) 21 by rw [e_137]; rfl)
          have : (gi (C_136 0) 7).toInt = (gi (C_75 0) 7).toInt := congrArg Int32.toInt (show gi (C_136 0) 7 = gi (C_75 0) 7 by rw [e_137]; rfl)
          have : (gi (C_136 0) 23).toInt = (gi (C_75 0) 23).toInt := congrArg Int32.toInt (show gi (C_136 0) 23 = gi (C_75 0) 23 by rw [e_137]; rfl)
          have : (gi (C_136 0) 13).toInt = (gi (C_75 0) 13).toInt := congrArg Int32.toInt (show gi (C_136 0) 13 = gi (C_75 0) 13 by rw [e_137]; rfl)
          have : 0 ≤ (gi (C_72 0) 21).toInt ∧ (gi (C_72 0) 21).toInt ≤ 250 := fM_0_21 t_74
          have : 0 ≤ (gi (C_72 0) 7).toInt ∧ (gi (C_72 0) 7).toInt ≤ 250 := fM_0_7 t_74
          have : 0 ≤ (gi (C_72 0) 23).toInt ∧ (gi (C_72 0) 23).toInt ≤ 250 := fM_0_23 t_74
          have : 0 ≤ (gi (C_72 0) 13).toInt ∧ (gi (C_72 0) 13).toInt ≤ 5 := fM_0_13 t_74
          have : 0 ≤ (gi (C_75 0) 21).toInt ∧ (gi (C_75 0) 21).toInt ≤ 250 := fM_0_21 t_77
          have : 0 ≤ (gi (C_75 0) 7).toInt ∧ (gi (C_75 0) 7).toInt ≤ 250 := fM_0_7 t_77
          have : 0 ≤ (gi (C_75 0) 23).toInt ∧ (gi (C_75 0) 23).toInt ≤ 250 := fM_0_23 t_77
          have : 0 ≤ (gi (C_75 0) 13).toInt ∧ (gi (C_75 0) 13).toInt ≤ 5 := fM_0_13 t_77
          have : 0 ≤ (gi (C_136 0) 21).toInt ∧ (gi (C_136 0) 21).toInt ≤ 250 := fM_0_21 t_138
          have : 0 ≤ (gi (C_136 0) 7).toInt ∧ (gi (C_136 0) 7).toInt ≤ 250 := fM_0_7 t_138
          have : 0 ≤ (gi (C_136 0) 23).toInt ∧ (gi (C_136 0) 23).toInt ≤ 250 := fM_0_23 t_138
          have : 0 ≤ (gi (C_136 0) 13).toInt ∧ (gi (C_136 0) 13).toInt ≤ 5 := fM_0_13 t_138
          rw [hQ]
          exact W.vret hx hb hr (fun t ht hW => ⟨⟨C_136, rfl, ⟨hT, hF, ⟨(by omega), (by omega), (by omega)⟩⟩, ⟨by rw [ht]; exact hP, hD⟩⟩, hS.F ht⟩) hS.2.2 dX7_look_267
      · refine lv_aload_n hx hb dX7_look_25 rfl (lv_at hl 0 rfl) ?_
        refine lv_dup hx hb dX7_look_26 rfl ?_
        refine va_get (D := D) (ci := 7) (v := .int (gi (K0 0) 21)) (C := RX7) (T := TX7) (N := 29) hx hb htg ig_7 hown hK hP 0 (oh_wg (Nat.lt_of_lt_of_le (by decide) hn) (sM_0 hT)) rfl 21 (by decide) (htg _ q_994) (fun _ h9 => h9) rfl dX7_look_27 ?_
        refine lv_iconst (v := 1) hx hb dX7_look_30 (by decide) ?_
        refine lv_iadd hx hb dX7_look_31 ?_
        have hpf_32 : rg (gi (K0 0) 21) 0 249 := ⟨by omega, by omega⟩
        refine th_put (Tp := TyM a E) (Rl := fr [] [21, 22, 23, 24] C) (ci := 7) (v := .int ((gi (K0 0) 21) + 1)) (ty := .int) (CC := RX7) (T := TX7) (N := 29) hx hb htg ig_7 tyX7 tyX7_ok nmX7 hown hK hP hD hS 0 (Nat.lt_of_lt_of_le (by decide) hn) (sM_0 hT) rfl 21 (by decide) (htg _ q_994) (fun _ h9 => h9) rfl (by decide +kernel) rfl rfl (Nat.le_of_ble_eq_true rfl) (hT.up 0 (by decide) ⟨rfl, (fM_0_7 hT), (fM_0_9 hT), (fM_0_11 hT), (fM_0_13 hT), (fM_0_15 hT), (rg_w (rg_add (lo := 1) (hi := 250) hpf_32 (rg_c (v := 1) (lo := 1) (hi := 1) (by decide)) (by decide)) (by decide)), (fM_0_23 hT)⟩) (fr_fd hF (sM_0 hT) (by decide)) dX7_look_32 (fun C_139 H locs e_140 hT hF hP hD hS => ?_)
        have t_141 := hT
        refine lv_goto (tgt := 0) hx hb dX7_look_35 (by decide) ?_
        have : (gi (C_139 0) 21).toInt = ((gi (K0 0) 21) + 1).toInt := congrArg Int32.toInt (show gi (C_139 0) 21 = ((gi (K0 0) 21) + 1) by rw [e_140]; rfl)
        have : ((gi (K0 0) 21) + 1).toInt = (gi (K0 0) 21).toInt + 1 := oh_incr (rn_ltu (u' := 249) (Int32.not_le.mp c_2) (fM_0_21 t_1) (fM_0_7 hT0) (by decide)) (by decide)
        have : (gi (C_139 0) 7).toInt = (gi (K0 0) 7).toInt := congrArg Int32.toInt (show gi (C_139 0) 7 = gi (K0 0) 7 by rw [e_140]; rfl)
        have : (gi (C_139 0) 23).toInt = (gi (K0 0) 23).toInt := congrArg Int32.toInt (show gi (C_139 0) 23 = gi (K0 0) 23 by rw [e_140]; rfl)
        have : (gi (C_139 0) 13).toInt = (gi (K0 0) 13).toInt := congrArg Int32.toInt (show gi (C_139 0) 13 = gi (K0 0) 13 by rw [e_140]; rfl)
        have : 0 ≤ (gi (C_139 0) 21).toInt ∧ (gi (C_139 0) 21).toInt ≤ 250 := fM_0_21 t_141
        have : 0 ≤ (gi (C_139 0) 7).toInt ∧ (gi (C_139 0) 7).toInt ≤ 250 := fM_0_7 t_141
        have : 0 ≤ (gi (C_139 0) 23).toInt ∧ (gi (C_139 0) 23).toInt ≤ 250 := fM_0_23 t_141
        have : 0 ≤ (gi (C_139 0) 13).toInt ∧ (gi (C_139 0) 13).toInt ≤ 5 := fM_0_13 t_141
        exact ih_0 _ (hd_0 ▸ (by rw [(show gi (C_139 0) 21 = ((gi (K0 0) 21) + 1) by rw [e_140]; rfl)]; exact mu_up 250 (rn_ltu (u' := 249) (Int32.not_le.mp c_2) (fM_0_21 t_1) (fM_0_7 hT0) (by decide)) (by decide))) C_139  _ _ ls rfl (by omega) hT hF (fr_fde hLF_0 e_140 (sM_0 t_1) (by decide)) hP hD hS (lv_sub hl [0] rfl)
  have : 0 ≤ (gi (C 0) 21).toInt ∧ (gi (C 0) 21).toInt ≤ 250 := fM_0_21 hT0
  have : 0 ≤ (gi (C 0) 7).toInt ∧ (gi (C 0) 7).toInt ≤ 250 := fM_0_7 hT0
  have : 0 ≤ (gi (C 0) 23).toInt ∧ (gi (C 0) 23).toInt ≤ 250 := fM_0_23 hT0
  have : 0 ≤ (gi (C 0) 13).toInt ∧ (gi (C 0) 13).toInt ≤ 5 := fM_0_13 hT0
  exact L_0 _ C  _ _ ls rfl (by omega) hT hF fr_rf hP hD hS (lv_sub hl [0] rfl)

set_option maxHeartbeats 4000000 in
set_option maxRecDepth 100000 in
theorem c_X7_wrong (l : Launch) (D : va_G) (E : Nat → ClassId) (G : Nat → Nat) (sz : Nat) (a : Nat → Nat) (C : Nat → va_E) (n : Nat) (hn : 74 ≤ n) (hT : TyM a E C) : Met l yX7_wrong (oh_w yX7_wrong cX7_wrong 1 (some .boolean)) ({ frames := 0, cells := 0, slots := 0, locals := 0 }) (oh_Pm D E G [.ref (a 0)] (oh_W n a C) sz) (va_Qi (fun r (u : Nat → va_E) => TyM a E u ∧ fr [] [25] C u ∧ (r = 0 ∨ r = 1) ∧ (r = 0)) (oh_B D (va_A (oh_W n a C) sz) (fun u => oh_W n a u)) (va_A (oh_W n a C) sz)) 0 0 (va_A (oh_W n a C) sz) := by
  refine Met.ofW (cc := cX7_wrong) (maxL := 1) (ret := (some .boolean)) (by decide) rfl ?_
  intro p e s m args below meth c s₁ B hml hv
  obtain ⟨rfl, hsz, hP, hK, hD0, hG⟩ := hv
  have hx := B.exec
  have hb := B.bytes
  have hr := B.returns
  have hts := atoms_spec (ws := (oh_w yX7_wrong cX7_wrong 1 (some .boolean))) B.pre
  have htg : ∀ w ∈ oh_t, w.before _ s = true := fun w h => hts w (List.mem_cons_of_mem _ h)
  have hown : s.vm.findClass RX7 = some m.cls := findClass_of_methodNamed B.named
  have hlocks := B.notSynchronized
  have hT0 := hT
  subst hsz
  have hD := hD0.self (sz := s.heap.size)
  generalize hAe : va_A (oh_W n a C) s.heap.size = A at hD hG ⊢
  have hA : ∀ q : Nat, s.heap.size ≤ q → A q := fun q h => by rw [← hAe]; exact Or.inr h
  have hS : va_S A s.heap s.heap [] := va_S.rf
  have hF : fr [] [25] C C := fr_rf
  have hl := lv_entry ([.ref (a 0)]) (n := 1) (Nat.le_of_ble_eq_true rfl)
  rw [lg_entry_eq]
  generalize (lg_sl ([.ref (a 0)]) ++ List.replicate (1 - (lg_sl ([.ref (a 0)])).length) Slot.unset).toArray = ls at hl ⊢
  have hl : lv_has ls 1 [(0, .ref (a 0))] := hl
  refine oh_genQ (fun Q hQ => ?_)
  refine lv_aload_n hx hb dX7_wrong_0 rfl (lv_at hl 0 rfl) ?_
  refine lv_aload_n hx hb dX7_wrong_1 rfl (lv_at hl 0 rfl) ?_
  refine va_get (D := D) (ci := 7) (v := .int (gi (C 0) 23)) (C := RX7) (T := TX7) (N := 29) hx hb htg ig_7 hown hK hP 0 (oh_wg (Nat.lt_of_lt_of_le (by decide) hn) (sM_0 hT)) rfl 23 (by decide) (htg _ q_996) (fun _ h9 => h9) rfl dX7_wrong_2 ?_
  refine th_put (Tp := TyM a E) (Rl := fr [] [25] C) (ci := 7) (v := .int (gi (C 0) 23)) (ty := .int) (CC := RX7) (T := TX7) (N := 29) hx hb htg ig_7 tyX7 tyX7_ok nmX7 hown hK hP hD hS 0 (Nat.lt_of_lt_of_le (by decide) hn) (sM_0 hT) rfl 25 (by decide) (htg _ q_998) (fun _ h9 => h9) rfl (by decide +kernel) rfl rfl (Nat.le_of_ble_eq_true rfl) (hT.up 0 (by decide) ⟨rfl, (fM_0_7 hT), (fM_0_9 hT), (fM_0_11 hT), (fM_0_13 hT), (fM_0_15 hT), (fM_0_21 hT), (fM_0_23 hT)⟩) (fr_fd hF (sM_0 hT) (by decide)) dX7_wrong_5 (fun C_1 H locs e_2 hT hF hP hD hS => ?_)
  have t_3 := hT
  refine lv_iconst (v := 0) hx hb dX7_wrong_8 (by decide) ?_
  rw [hQ]
  exact W.zret (v := 0) (ty := .boolean) hx hb hr (by decide) (fun t ht hW => ⟨⟨0, C_1, rfl, ⟨hT, hF, ⟨(Or.inl rfl), rfl⟩⟩, ⟨by rw [ht]; exact hP, hD⟩⟩, hS.F ht⟩) hS.2.2 dX7_wrong_9

set_option maxHeartbeats 4000000 in
set_option maxRecDepth 100000 in
theorem c_X7_isWord (l : Launch) (D : va_G) (E : Nat → ClassId) (G : Nat → Nat) (a : Nat → Nat) (C : Nat → va_E) (n : Nat) (hn : 74 ≤ n) (hT : TyM a E C) (j : Nat) (hj : j < 34) : Met l yX7_isWord (oh_w yX7_isWord cX7_isWord 3 (some .boolean)) ({ frames := 4, cells := 0, slots := 0, locals := 85 }) (oh_Pp D E G [.ref (a 0), .ref (G (3 + j))] (oh_W n a C)) (vp_Si (fun r => (r = 0 ∨ r = 1) ∧ (r ≠ 0 → (3 ≤ (gi (C 0) 21).toInt - (gi (C 0) 23).toInt)))) 0 0 (fun _ => False) := by
  refine Met.ofW (cc := cX7_isWord) (maxL := 3) (ret := (some .boolean)) (by decide) rfl ?_
  intro p e s m args below meth c s₁ B hml hv
  obtain ⟨rfl, hP, hK, hG⟩ := hv
  have hx := B.exec
  have hb := B.bytes
  have hr := B.returns
  have hts := atoms_spec (ws := (oh_w yX7_isWord cX7_isWord 3 (some .boolean))) B.pre
  have htg : ∀ w ∈ oh_t, w.before _ s = true := fun w h => hts w (List.mem_cons_of_mem _ h)
  have hown : s.vm.findClass RX7 = some m.cls := findClass_of_methodNamed B.named
  have hlocks := B.notSynchronized
  have hT0 := hT
  have hS : va_S (fun _ => False) s.heap s.heap [] := va_S.rf
  have hl := lv_entry ([.ref (a 0), .ref (G (3 + j))]) (n := 3) (Nat.le_of_ble_eq_true rfl)
  rw [lg_entry_eq]
  generalize (lg_sl ([.ref (a 0), .ref (G (3 + j))]) ++ List.replicate (3 - (lg_sl ([.ref (a 0), .ref (G (3 + j))])).length) Slot.unset).toArray = ls at hl ⊢
  have hl : lv_has ls 3 [(0, .ref (a 0)), (1, .ref (G (3 + j)))] := hl
  refine oh_genQ (fun Q hQ => ?_)
  refine lv_aload_n hx hb dX7_isWord_0 rfl (lv_at hl 0 rfl) ?_
  refine va_get (D := D) (ci := 7) (v := .int (gi (C 0) 22)) (C := RX7) (T := TX7) (N := 29) hx hb htg ig_7 hown hK hP 0 (oh_wg (Nat.lt_of_lt_of_le (by decide) hn) (sM_0 hT)) rfl 22 (by decide) (htg _ q_995) (fun _ h9 => h9) rfl dX7_isWord_1 ?_
  refine lv_iconst (v := 1) hx hb dX7_isWord_4 (by decide) ?_
  refine lv_icmp_ne (tgt := 24) hx hb dX7_isWord_5 (by decide) (fun (c_1 : ¬ ((gi (C 0) 22) = 1)) => ?_) (fun (c_1 : (gi (C 0) 22) = 1) => ?_)
  · refine lv_iconst (v := 0) hx hb dX7_isWord_24 (by decide) ?_
    rw [hQ]
    exact W.zret (v := 0) (ty := .boolean) hx hb hr (by decide) (fun t ht hW => ⟨0, rfl, ⟨(Or.inl rfl), (fun h9 => absurd rfl h9)⟩, ht⟩) (fun q h => by cases h) dX7_isWord_25
  · refine lv_aload_n hx hb dX7_isWord_8 rfl (lv_at hl 0 rfl) ?_
    refine va_get (D := D) (ci := 7) (v := .int (gi (C 0) 21)) (C := RX7) (T := TX7) (N := 29) hx hb htg ig_7 hown hK hP 0 (oh_wg (Nat.lt_of_lt_of_le (by decide) hn) (sM_0 hT)) rfl 21 (by decide) (htg _ q_994) (fun _ h9 => h9) rfl dX7_isWord_9 ?_
    refine lv_aload_n hx hb dX7_isWord_12 rfl (lv_at hl 0 rfl) ?_
    refine va_get (D := D) (ci := 7) (v := .int (gi (C 0) 23)) (C := RX7) (T := TX7) (N := 29) hx hb htg ig_7 hown hK hP 0 (oh_wg (Nat.lt_of_lt_of_le (by decide) hn) (sM_0 hT)) rfl 23 (by decide) (htg _ q_996) (fun _ h9 => h9) rfl dX7_isWord_13 ?_
    refine lv_isub hx hb dX7_isWord_16 ?_
    refine lv_aload_n hx hb dX7_isWord_17 rfl (lv_at hl 1 rfl) ?_
    refine tq_V (As := []) (rest := [.int ((gi (C 0) 21) - (gi (C 0) 23))]) (ws := []) ⟨hx, hb, hml, hown, htg⟩ (c_J0_length_8abf5 l D E G j hj) (cwV 0 htg (oh_gV q_1219 q_522 q_523 q_75 q_524) rfl rfl rfl pdVJ0_length_8abf5 ⟨Nat.le_of_ble_eq_true rfl, Nat.le_of_ble_eq_true rfl⟩) hK va_nil hG hS (oh_srec hG hS hj) rfl hl.1 rfl (Nat.le_of_ble_eq_true rfl) dX7_isWord_18 ⟨Nat.le_of_ble_eq_true rfl, Nat.le_of_ble_eq_true rfl⟩ (fun r_2 hq_3 => ?_)
    subst hq_3
    refine lv_icmp_eq (tgt := 26) hx hb dX7_isWord_21 (by decide) (fun (c_4 : ((gi (C 0) 21) - (gi (C 0) 23)) = (Int32.ofNat (oh_len j))) => ?_) (fun (c_4 : ¬ (((gi (C 0) 21) - (gi (C 0) 23)) = (Int32.ofNat (oh_len j)))) => ?_)
    · refine lv_iconst (v := 0) hx hb dX7_isWord_26 (by decide) ?_
      refine lv_istore_n (lv' := [(2, .int 0), (0, .ref (a 0)), (1, .ref (G (3 + j)))]) hx hb dX7_isWord_27 rfl hl (by decide) rfl (fun ls hl => ?_)
      have L_28 : ∀ (d : Nat) (z28_2 : Int32) (ls : Array Slot), (6 - z28_2.toInt).toNat = d → rg z28_2 0 6 → lv_has ls 3 [(2, .int z28_2), (0, .ref (a 0)), (1, .ref (G (3 + j)))] → W p l e ({ frames := 4, cells := 0, slots := 0, locals := 85 }) s m (([.ref (a 0), .ref (G (3 + j))] : List Value).toArray) below meth c s.heap [] 0 0 Q (F0 m 28 ls []) := by
        intro d
        induction d using Nat.strongRecOn with
        | ind d ih_28 =>
        intro z28_2 ls hd_28 hz28_2 hl
        refine lv_iload_n hx hb dX7_isWord_28 rfl (lv_at hl 0 rfl) ?_
        refine lv_aload_n hx hb dX7_isWord_29 rfl (lv_at hl 2 rfl) ?_
        refine tq_V (As := []) (rest := [.int z28_2]) (ws := []) ⟨hx, hb, hml, hown, htg⟩ (c_J0_length_8abf5 l D E G j hj) (cwV 0 htg (oh_gV q_1219 q_522 q_523 q_75 q_524) rfl rfl rfl pdVJ0_length_8abf5 ⟨Nat.le_of_ble_eq_true rfl, Nat.le_of_ble_eq_true rfl⟩) hK va_nil hG hS (oh_srec hG hS hj) rfl hl.1 rfl (Nat.le_of_ble_eq_true rfl) dX7_isWord_30 ⟨Nat.le_of_ble_eq_true rfl, Nat.le_of_ble_eq_true rfl⟩ (fun r_5 hq_6 => ?_)
        subst hq_6
        refine lv_icmp_ge (tgt := 63) hx hb dX7_isWord_33 (by decide) (fun (c_7 : (Int32.ofNat (oh_len j)) ≤ z28_2) => ?_) (fun (c_7 : ¬ ((Int32.ofNat (oh_len j)) ≤ z28_2)) => ?_)
        · refine lv_iconst (v := 1) hx hb dX7_isWord_63 (by decide) ?_
          rw [hQ]
          exact W.zret (v := 1) (ty := .boolean) hx hb hr (by decide) (fun t ht hW => ⟨1, rfl, ⟨(Or.inr rfl), (fun _ => (oh_wl (fM_0_21 hT0) (fM_0_23 hT0) c_4 (oh_lenr hj)))⟩, ht⟩) (fun q h => by cases h) dX7_isWord_64
        · refine lv_aload_n hx hb dX7_isWord_36 rfl (lv_at hl 1 rfl) ?_
          refine va_get (D := D) (ci := 7) (v := .ref (a 7)) (C := RX7) (T := TX7) (N := 29) hx hb htg ig_7 hown hK hP 0 (oh_wg (Nat.lt_of_lt_of_le (by decide) hn) (sM_0 hT)) rfl 6 (by decide) (htg _ q_979) (fun _ h9 => h9) rfl dX7_isWord_37 ?_
          refine lv_aload_n hx hb dX7_isWord_40 rfl (lv_at hl 1 rfl) ?_
          refine va_get (D := D) (ci := 7) (v := .int (gi (C 0) 23)) (C := RX7) (T := TX7) (N := 29) hx hb htg ig_7 hown hK hP 0 (oh_wg (Nat.lt_of_lt_of_le (by decide) hn) (sM_0 hT)) rfl 23 (by decide) (htg _ q_996) (fun _ h9 => h9) rfl dX7_isWord_41 ?_
          refine lv_iload_n hx hb dX7_isWord_44 rfl (lv_at hl 0 rfl) ?_
          refine lv_iadd hx hb dX7_isWord_45 ?_
          have n_8 : vp_in ((gi (C 0) 23) + z28_2) 250 := (oh_wix (fM_0_21 hT0) (fM_0_23 hT0) c_4 (rg_w (rn_ltu (u' := 5) (Int32.not_le.mp c_7) hz28_2 (oh_lenr hj) (by decide)) (by decide)) (Int32.not_le.mp c_7))
          refine th_iald hx hb hK hP 7 (Nat.lt_of_lt_of_le (by decide) hn) (sM_7 hT) n_8 dX7_isWord_46 ?_
          refine lv_aload_n hx hb dX7_isWord_47 rfl (lv_at hl 2 rfl) ?_
          refine lv_iload_n hx hb dX7_isWord_48 rfl (lv_at hl 0 rfl) ?_
          refine tq_V (As := [.int z28_2]) (rest := [.int (ga (C 7) ((gi (C 0) 23) + z28_2).toNatClampNeg)]) (ws := []) ⟨hx, hb, hml, hown, htg⟩ (c_J0_charAt_5068e l D E G j z28_2 hj (oh_nn (rn_ltu (u' := 5) (Int32.not_le.mp c_7) hz28_2 (oh_lenr hj) (by decide)) (by decide)) (Int32.not_le.mp c_7)) (cwV 1 htg (oh_gV q_1220 q_532 q_533 q_75 q_534) rfl rfl rfl pdVJ0_charAt_5068e ⟨Nat.le_of_ble_eq_true rfl, Nat.le_of_ble_eq_true rfl⟩) hK va_nil hG hS (oh_srec hG hS hj) rfl hl.1 rfl (Nat.le_of_ble_eq_true rfl) dX7_isWord_49 ⟨Nat.le_of_ble_eq_true rfl, Nat.le_of_ble_eq_true rfl⟩ (fun r_9 hq_10 => ?_)
          subst hq_10
          refine lv_icmp_eq (tgt := 57) hx hb dX7_isWord_52 (by decide) (fun (c_11 : (ga (C 7) ((gi (C 0) 23) + z28_2).toNatClampNeg) = (oh_byt j (z28_2).toNatClampNeg)) => ?_) (fun (c_11 : ¬ ((ga (C 7) ((gi (C 0) 23) + z28_2).toNatClampNeg) = (oh_byt j (z28_2).toNatClampNeg))) => ?_)
          · refine lv_iinc (v := z28_2 + 1) (lv' := [(2, .int (z28_2 + 1)), (0, .ref (a 0)), (1, .ref (G (3 + j)))]) hx hb dX7_isWord_57 hl (k := 0) rfl (by rfl) (by decide) rfl (fun ls hl => ?_)
            refine lv_goto (tgt := 28) hx hb dX7_isWord_60 (by decide) ?_
            exact ih_28 _ (hd_28 ▸ mu_up 6 (rn_ltu (u' := 5) (Int32.not_le.mp c_7) hz28_2 (oh_lenr hj) (by decide)) (by decide)) (z28_2 + 1) ls rfl (rg_w (rg_add (lo := 1) (hi := 6) (rn_ltu (u' := 5) (Int32.not_le.mp c_7) hz28_2 (oh_lenr hj) (by decide)) (rg_c (v := 1) (lo := 1) (hi := 1) (by decide)) (by decide)) (by decide)) (lv_sub hl [0, 1, 2] rfl)
          · refine lv_iconst (v := 0) hx hb dX7_isWord_55 (by decide) ?_
            rw [hQ]
            exact W.zret (v := 0) (ty := .boolean) hx hb hr (by decide) (fun t ht hW => ⟨0, rfl, ⟨(Or.inl rfl), (fun h9 => absurd rfl h9)⟩, ht⟩) (fun q h => by cases h) dX7_isWord_56
      exact L_28 _ 0 ls rfl (rg_w (rg_c (v := 0) (lo := 0) (hi := 0) (by decide)) (by decide)) (lv_sub hl [0, 1, 2] rfl)
    · refine lv_iconst (v := 0) hx hb dX7_isWord_24 (by decide) ?_
      rw [hQ]
      exact W.zret (v := 0) (ty := .boolean) hx hb hr (by decide) (fun t ht hW => ⟨0, rfl, ⟨(Or.inl rfl), (fun h9 => absurd rfl h9)⟩, ht⟩) (fun q h => by cases h) dX7_isWord_25

set_option maxHeartbeats 4000000 in
set_option maxRecDepth 100000 in
theorem c_X7_number (l : Launch) (D : va_G) (E : Nat → ClassId) (G : Nat → Nat) (sz : Nat) (a : Nat → Nat) (C : Nat → va_E) (n : Nat) (hn : 74 ≤ n) (hT : TyM a E C) (k : Nat) (x1 : Int32) (x2 : Int32) (x3 : Int32) (hok : okR a E n k x1 x2 x3) (hat : (gi (C 0) 21).toInt ≤ (gi (C 0) 7).toInt) : Met l yX7_number (oh_w yX7_number cX7_number 5 (some .boolean)) ({ frames := 2, cells := 0, slots := 0, locals := 40 }) (oh_Pm D E G [.ref (a 0), .ref (a k), .int x1, .int x2, .int x3] (oh_W n a C) sz) (va_Qi (fun r (u : Nat → va_E) => TyM a E u ∧ fr [(k, k + 1)] [21, 22, 23, 24, 25] C u ∧ (r = 0 ∨ r = 1) ∧ (((gi (C 0) 21).toInt ≤ (gi (u 0) 21).toInt) ∧ ((gi (u 0) 21).toInt ≤ (gi (u 0) 7).toInt)) ∧ (∀ jj, jj ≠ x1.toNatClampNeg → ga (u k) jj = ga (C k) jj) ∧ (r ≠ 0 → (x2.toInt ≤ (ga (u k) x1.toNatClampNeg).toInt))) (oh_B D (va_A (oh_W n a C) sz) (fun u => oh_W n a u)) (va_A (oh_W n a C) sz)) 0 0 (va_A (oh_W n a C) sz) := by
  refine Met.ofW (cc := cX7_number) (maxL := 5) (ret := (some .boolean)) (by decide) rfl ?_
  intro p e s m args below meth c s₁ B hml hv
  obtain ⟨rfl, hsz, hP, hK, hD0, hG⟩ := hv
  have hx := B.exec
  have hb := B.bytes
  have hr := B.returns
  have hts := atoms_spec (ws := (oh_w yX7_number cX7_number 5 (some .boolean))) B.pre
  have htg : ∀ w ∈ oh_t, w.before _ s = true := fun w h => hts w (List.mem_cons_of_mem _ h)
  have hown : s.vm.findClass RX7 = some m.cls := findClass_of_methodNamed B.named
  have hlocks := B.notSynchronized
  have hT0 := hT
  subst hsz
  have hD := hD0.self (sz := s.heap.size)
  generalize hAe : va_A (oh_W n a C) s.heap.size = A at hD hG ⊢
  have hA : ∀ q : Nat, s.heap.size ≤ q → A q := fun q h => by rw [← hAe]; exact Or.inr h
  have hS : va_S A s.heap s.heap [] := va_S.rf
  have hF : fr [(k, k + 1)] [21, 22, 23, 24, 25] C C := fr_rf
  have hl := lv_entry ([.ref (a 0), .ref (a k), .int x1, .int x2, .int x3]) (n := 5) (Nat.le_of_ble_eq_true rfl)
  rw [lg_entry_eq]
  generalize (lg_sl ([.ref (a 0), .ref (a k), .int x1, .int x2, .int x3]) ++ List.replicate (5 - (lg_sl ([.ref (a 0), .ref (a k), .int x1, .int x2, .int x3])).length) Slot.unset).toArray = ls at hl ⊢
  have hl : lv_has ls 5 [(0, .ref (a 0)), (1, .ref (a k)), (2, .int x1), (3, .int x2), (4, .int x3)] := hl
  refine oh_genQ (fun Q hQ => ?_)
  have hok0 := hok
  obtain ⟨hk1, hk0, N1, hs1, hi1, hu1⟩ := hok
  have hok := hok0
  refine lv_aload_n hx hb dX7_number_0 rfl (lv_at hl 0 rfl) ?_
  refine va_get (D := D) (ci := 7) (v := .int (gi (C 0) 22)) (C := RX7) (T := TX7) (N := 29) hx hb htg ig_7 hown hK hP 0 (oh_wg (Nat.lt_of_lt_of_le (by decide) hn) (sM_0 hT)) rfl 22 (by decide) (htg _ q_995) (fun _ h9 => h9) rfl dX7_number_1 ?_
  refine lv_iconst (v := 2) hx hb dX7_number_4 (by decide) ?_
  refine lv_icmp_ne (tgt := 23) hx hb dX7_number_5 (by decide) (fun (c_1 : ¬ ((gi (C 0) 22) = 2)) => ?_) (fun (c_1 : (gi (C 0) 22) = 2) => ?_)
  · refine lv_aload_n hx hb dX7_number_23 rfl (lv_at hl 0 rfl) ?_
    refine tm_V (As := []) (rest := []) ⟨hx, hb, hml, hown, htg⟩ (c_X7_wrong l D E G _ a C n hn hT) (cwV 0 htg (oh_gV q_1229 q_1231 q_44 q_73 q_1232) rfl rfl rfl pdVX7_wrong ⟨Nat.le_of_ble_eq_true rfl, Nat.le_of_ble_eq_true rfl⟩) hK hP hD hG hS hA (va_recv hK hP (ci := 7) (q0 := 0) rfl (oh_wg (Nat.lt_of_lt_of_le (by decide) hn) (sM_0 hT))) rfl hl.1 rfl (Nat.le_of_ble_eq_true rfl) dX7_number_24 ⟨Nat.le_of_ble_eq_true rfl, Nat.le_of_ble_eq_true rfl⟩ (fun r_2 C_3 H locs hq_4 hP hD hS => ?_)
    obtain ⟨hT, f_5, hq_4⟩ := hq_4
    have hF := fr_tr hF f_5 rfl (by decide)
    refine W.widen (k := 0) (n := 0) (Nat.le_refl _) (Nat.le_refl _) ?_
    have t_6 := hT
    have : (gi (C_3 0) 21).toInt = (gi (C 0) 21).toInt := congrArg (fun z => (vi z).toInt) (f_5.2 21 (by decide))
    have : (gi (C_3 0) 7).toInt = (gi (C 0) 7).toInt := congrArg (fun z => (vi z).toInt) (f_5.2 7 (by decide))
    have : (gi (C_3 0) 23).toInt = (gi (C 0) 23).toInt := congrArg (fun z => (vi z).toInt) (f_5.2 23 (by decide))
    have : (gi (C_3 0) 13).toInt = (gi (C 0) 13).toInt := congrArg (fun z => (vi z).toInt) (f_5.2 13 (by decide))
    have : 0 ≤ (gi (C 0) 21).toInt ∧ (gi (C 0) 21).toInt ≤ 250 := fM_0_21 hT0
    have : 0 ≤ (gi (C 0) 7).toInt ∧ (gi (C 0) 7).toInt ≤ 250 := fM_0_7 hT0
    have : 0 ≤ (gi (C 0) 23).toInt ∧ (gi (C 0) 23).toInt ≤ 250 := fM_0_23 hT0
    have : 0 ≤ (gi (C 0) 13).toInt ∧ (gi (C 0) 13).toInt ≤ 5 := fM_0_13 hT0
    have : 0 ≤ (gi (C_3 0) 21).toInt ∧ (gi (C_3 0) 21).toInt ≤ 250 := fM_0_21 t_6
    have : 0 ≤ (gi (C_3 0) 7).toInt ∧ (gi (C_3 0) 7).toInt ≤ 250 := fM_0_7 t_6
    have : 0 ≤ (gi (C_3 0) 23).toInt ∧ (gi (C_3 0) 23).toInt ≤ 250 := fM_0_23 t_6
    have : 0 ≤ (gi (C_3 0) 13).toInt ∧ (gi (C_3 0) 13).toInt ≤ 5 := fM_0_13 t_6
    have : (2 : Int32).toInt = 2 := rfl
    have : ¬ (gi (C 0) 22).toInt = (2 : Int32).toInt := fun h7 => c_1 (Int32.toInt_inj.mp h7)
    rw [hQ]
    exact W.zret (v := r_2) (ty := .boolean) hx hb hr (oh_nb hq_4.1) (fun t ht hW => ⟨⟨r_2, C_3, rfl, ⟨hT, hF, ⟨hq_4.1, ⟨(by omega), (by omega)⟩, (fun j hj => congrArg (fun z => ga z j) (f_5.1 k rfl hk0)), (fun h9 => (absurd hq_4.2 h9))⟩⟩, ⟨by rw [ht]; exact hP, hD⟩⟩, hS.F ht⟩) hS.2.2 dX7_number_27
  · refine lv_aload_n hx hb dX7_number_8 rfl (lv_at hl 0 rfl) ?_
    refine va_get (D := D) (ci := 7) (v := .long (gl (C 0) 24)) (C := RX7) (T := TX7) (N := 29) hx hb htg ig_7 hown hK hP 0 (oh_wg (Nat.lt_of_lt_of_le (by decide) hn) (sM_0 hT)) rfl 24 (by decide) (htg _ q_997) (fun _ h9 => h9) rfl dX7_number_9 ?_
    refine lv_iload_n hx hb dX7_number_12 rfl (lv_at hl 3 rfl) ?_
    refine lv_i2l (v := Int32.toInt64 x2) hx hb dX7_number_13 (by rfl) ?_
    refine lv_iload hx hb dX7_number_14 (lv_at hl 4 rfl) ?_
    refine lv_i2l (v := Int32.toInt64 x3) hx hb dX7_number_16 (by rfl) ?_
    refine tq_S (As := [.long (gl (C 0) 24), .long (Int32.toInt64 x2), .long (Int32.toInt64 x3)]) (rest := []) (ws := []) ⟨hx, hb, hml, hown, htg⟩ (c_X7_in l D E G (gl (C 0) 24) (Int32.toInt64 x2) (Int32.toInt64 x3)) (va_cwS 3 htg (oh_gS q_1066 q_1067 q_73 q_1068) rfl rfl rfl pdX7_in ⟨Nat.le_of_ble_eq_true rfl, Nat.le_of_ble_eq_true rfl⟩) hK va_nil hG hS rfl hl.1 rfl (Nat.le_of_ble_eq_true rfl) dX7_number_17 ⟨Nat.le_of_ble_eq_true rfl, Nat.le_of_ble_eq_true rfl⟩ (fun r_7 hq_8 => ?_)
    refine lv_if_ne (tgt := 28) hx hb dX7_number_20 (by decide) (fun (c_9 : ¬ (r_7 = 0)) => ?_) (fun (c_9 : r_7 = 0) => ?_)
    · have u_10 := hq_8.2.1 c_9
      refine lv_aload_n hx hb dX7_number_28 rfl (lv_at hl 1 rfl) ?_
      refine lv_iload_n hx hb dX7_number_29 rfl (lv_at hl 2 rfl) ?_
      refine lv_aload_n hx hb dX7_number_30 rfl (lv_at hl 0 rfl) ?_
      refine va_get (D := D) (ci := 7) (v := .long (gl (C 0) 24)) (C := RX7) (T := TX7) (N := 29) hx hb htg ig_7 hown hK hP 0 (oh_wg (Nat.lt_of_lt_of_le (by decide) hn) (sM_0 hT)) rfl 24 (by decide) (htg _ q_997) (fun _ h9 => h9) rfl dX7_number_31 ?_
      refine lv_l2i (v := Int64.toInt32 (gl (C 0) 24)) hx hb dX7_number_34 rfl ?_
      refine th_iast (T := TyM a E) (Rl := fr [(k, k + 1)] [21, 22, 23, 24, 25] C) hx hb hK hP hD hS k hk1 (hs1 _ hT) hi1 (hu1 _ _ hT (oh_l2ile u_10.1 u_10.2).1 (oh_l2ile u_10.1 u_10.2).2) (fr_st hF hk0 (inR_of (p := (k, k + 1)) (List.mem_singleton.mpr rfl) (Nat.le_refl _) (Nat.lt_succ_self _))) dX7_number_35 (fun C_11 H locs e_12 hT hF hP hD hS => ?_)
      have t_13 := hT
      refine lv_aload_n hx hb dX7_number_36 rfl (lv_at hl 0 rfl) ?_
      have : (gi (C_11 0) 21).toInt = (gi (C 0) 21).toInt := congrArg (fun z => (gi z 21).toInt) (th_un e_12 (by omega))
      have : (gi (C_11 0) 7).toInt = (gi (C 0) 7).toInt := congrArg (fun z => (gi z 7).toInt) (th_un e_12 (by omega))
      have : (gi (C_11 0) 23).toInt = (gi (C 0) 23).toInt := congrArg (fun z => (gi z 23).toInt) (th_un e_12 (by omega))
      have : (gi (C_11 0) 13).toInt = (gi (C 0) 13).toInt := congrArg (fun z => (gi z 13).toInt) (th_un e_12 (by omega))
      have : 0 ≤ (gi (C 0) 21).toInt ∧ (gi (C 0) 21).toInt ≤ 250 := fM_0_21 hT0
      have : 0 ≤ (gi (C 0) 7).toInt ∧ (gi (C 0) 7).toInt ≤ 250 := fM_0_7 hT0
      have : 0 ≤ (gi (C 0) 23).toInt ∧ (gi (C 0) 23).toInt ≤ 250 := fM_0_23 hT0
      have : 0 ≤ (gi (C 0) 13).toInt ∧ (gi (C 0) 13).toInt ≤ 5 := fM_0_13 hT0
      have : 0 ≤ (gi (C_11 0) 21).toInt ∧ (gi (C_11 0) 21).toInt ≤ 250 := fM_0_21 t_13
      have : 0 ≤ (gi (C_11 0) 7).toInt ∧ (gi (C_11 0) 7).toInt ≤ 250 := fM_0_7 t_13
      have : 0 ≤ (gi (C_11 0) 23).toInt ∧ (gi (C_11 0) 23).toInt ≤ 250 := fM_0_23 t_13
      have : 0 ≤ (gi (C_11 0) 13).toInt ∧ (gi (C_11 0) 13).toInt ≤ 5 := fM_0_13 t_13
      have : (2 : Int32).toInt = 2 := rfl
      refine tm_Vv (As := []) (rest := []) ⟨hx, hb, hml, hown, htg⟩ (c_X7_look l D E G _ a C_11 n hn hT (by omega)) (cwV 0 htg (oh_gV q_1197 q_1199 q_39 q_73 q_1200) rfl rfl rfl pdVX7_look ⟨Nat.le_of_ble_eq_true rfl, Nat.le_of_ble_eq_true rfl⟩) hK hP hD hG hS hA (va_recv hK hP (ci := 7) (q0 := 0) rfl (oh_wg (Nat.lt_of_lt_of_le (by decide) hn) (sM_0 hT))) rfl hl.1 rfl (Nat.le_of_ble_eq_true rfl) dX7_number_37 ⟨Nat.le_of_ble_eq_true rfl, Nat.le_of_ble_eq_true rfl⟩ (fun C_15 H locs hq_16 hP hD hS => ?_)
      obtain ⟨hT, f_17, hq_16⟩ := hq_16
      have hF := fr_tr hF f_17 rfl (by decide)
      refine W.widen (k := 0) (n := 0) (Nat.le_refl _) (Nat.le_refl _) ?_
      have t_18 := hT
      refine lv_iconst (v := 1) hx hb dX7_number_40 (by decide) ?_
      have : (gi (C_15 0) 7).toInt = (gi (C_11 0) 7).toInt := congrArg (fun z => (vi z).toInt) (f_17.2 7 (by decide))
      have : (gi (C_15 0) 13).toInt = (gi (C_11 0) 13).toInt := congrArg (fun z => (vi z).toInt) (f_17.2 13 (by decide))
      have : 0 ≤ (gi (C_15 0) 21).toInt ∧ (gi (C_15 0) 21).toInt ≤ 250 := fM_0_21 t_18
      have : 0 ≤ (gi (C_15 0) 7).toInt ∧ (gi (C_15 0) 7).toInt ≤ 250 := fM_0_7 t_18
      have : 0 ≤ (gi (C_15 0) 23).toInt ∧ (gi (C_15 0) 23).toInt ≤ 250 := fM_0_23 t_18
      have : 0 ≤ (gi (C_15 0) 13).toInt ∧ (gi (C_15 0) 13).toInt ≤ 5 := fM_0_13 t_18
      rw [hQ]
      exact W.zret (v := 1) (ty := .boolean) hx hb hr (by decide) (fun t ht hW => ⟨⟨1, C_15, rfl, ⟨hT, hF, ⟨(Or.inr rfl), ⟨(by omega), hq_16.2.2⟩, (fun j hj => by rw [f_17.1 k rfl hk0, st_ga e_12]; exact pk_un hj), (fun _ => (by rw [f_17.1 k rfl hk0, st_ga e_12, pk_us]; exact Int32.le_iff_toInt_le.mp (oh_l2ile u_10.1 u_10.2).1))⟩⟩, ⟨by rw [ht]; exact hP, hD⟩⟩, hS.F ht⟩) hS.2.2 dX7_number_41
    · have u_19 := hq_8.2.2 c_9
      refine lv_aload_n hx hb dX7_number_23 rfl (lv_at hl 0 rfl) ?_
      refine tm_V (As := []) (rest := []) ⟨hx, hb, hml, hown, htg⟩ (c_X7_wrong l D E G _ a C n hn hT) (cwV 0 htg (oh_gV q_1229 q_1231 q_44 q_73 q_1232) rfl rfl rfl pdVX7_wrong ⟨Nat.le_of_ble_eq_true rfl, Nat.le_of_ble_eq_true rfl⟩) hK hP hD hG hS hA (va_recv hK hP (ci := 7) (q0 := 0) rfl (oh_wg (Nat.lt_of_lt_of_le (by decide) hn) (sM_0 hT))) rfl hl.1 rfl (Nat.le_of_ble_eq_true rfl) dX7_number_24 ⟨Nat.le_of_ble_eq_true rfl, Nat.le_of_ble_eq_true rfl⟩ (fun r_20 C_21 H locs hq_22 hP hD hS => ?_)
      obtain ⟨hT, f_23, hq_22⟩ := hq_22
      have hF := fr_tr hF f_23 rfl (by decide)
      refine W.widen (k := 0) (n := 0) (Nat.le_refl _) (Nat.le_refl _) ?_
      have t_24 := hT
      have : (gi (C_21 0) 21).toInt = (gi (C 0) 21).toInt := congrArg (fun z => (vi z).toInt) (f_23.2 21 (by decide))
      have : (gi (C_21 0) 7).toInt = (gi (C 0) 7).toInt := congrArg (fun z => (vi z).toInt) (f_23.2 7 (by decide))
      have : (gi (C_21 0) 23).toInt = (gi (C 0) 23).toInt := congrArg (fun z => (vi z).toInt) (f_23.2 23 (by decide))
      have : (gi (C_21 0) 13).toInt = (gi (C 0) 13).toInt := congrArg (fun z => (vi z).toInt) (f_23.2 13 (by decide))
      have : 0 ≤ (gi (C 0) 21).toInt ∧ (gi (C 0) 21).toInt ≤ 250 := fM_0_21 hT0
      have : 0 ≤ (gi (C 0) 7).toInt ∧ (gi (C 0) 7).toInt ≤ 250 := fM_0_7 hT0
      have : 0 ≤ (gi (C 0) 23).toInt ∧ (gi (C 0) 23).toInt ≤ 250 := fM_0_23 hT0
      have : 0 ≤ (gi (C 0) 13).toInt ∧ (gi (C 0) 13).toInt ≤ 5 := fM_0_13 hT0
      have : 0 ≤ (gi (C_21 0) 21).toInt ∧ (gi (C_21 0) 21).toInt ≤ 250 := fM_0_21 t_24
      have : 0 ≤ (gi (C_21 0) 7).toInt ∧ (gi (C_21 0) 7).toInt ≤ 250 := fM_0_7 t_24
      have : 0 ≤ (gi (C_21 0) 23).toInt ∧ (gi (C_21 0) 23).toInt ≤ 250 := fM_0_23 t_24
      have : 0 ≤ (gi (C_21 0) 13).toInt ∧ (gi (C_21 0) 13).toInt ≤ 5 := fM_0_13 t_24
      have : (2 : Int32).toInt = 2 := rfl
      rw [hQ]
      exact W.zret (v := r_20) (ty := .boolean) hx hb hr (oh_nb hq_22.1) (fun t ht hW => ⟨⟨r_20, C_21, rfl, ⟨hT, hF, ⟨hq_22.1, ⟨(by omega), (by omega)⟩, (fun j hj => congrArg (fun z => ga z j) (f_23.1 k rfl hk0)), (fun h9 => (absurd hq_22.2 h9))⟩⟩, ⟨by rw [ht]; exact hP, hD⟩⟩, hS.F ht⟩) hS.2.2 dX7_number_27

set_option maxHeartbeats 4000000 in
set_option maxRecDepth 100000 in
theorem c_X7_told (l : Launch) (D : va_G) (E : Nat → ClassId) (G : Nat → Nat) (sz : Nat) (a : Nat → Nat) (C : Nat → va_E) (n : Nat) (hn : 74 ≤ n) (hT : TyM a E C) (j : Nat) (k : Nat) (x1 : Int32) (x2 : Int32) (x3 : Int32) (hj : j < 34) (hok : okR a E n k x1 x2 x3) (hat : (gi (C 0) 21).toInt ≤ (gi (C 0) 7).toInt) : Met l yX7_told (oh_w yX7_told cX7_told 6 (some .boolean)) ({ frames := 5, cells := 0, slots := 0, locals := 107 }) (oh_Pm D E G [.ref (a 0), .ref (G (3 + j)), .ref (a k), .int x1, .int x2, .int x3] (oh_W n a C) sz) (va_Qi (fun r (u : Nat → va_E) => TyM a E u ∧ fr [(k, k + 1)] [21, 22, 23, 24, 25] C u ∧ (r = 0 ∨ r = 1) ∧ (((gi (C 0) 21).toInt ≤ (gi (u 0) 21).toInt) ∧ ((gi (u 0) 21).toInt ≤ (gi (u 0) 7).toInt)) ∧ (∀ jj, jj ≠ x1.toNatClampNeg → ga (u k) jj = ga (C k) jj) ∧ (r ≠ 0 → (x2.toInt ≤ (ga (u k) x1.toNatClampNeg).toInt)) ∧ (r ≠ 0 → ((gi (C 0) 23).toInt + 3 ≤ (gi (u 0) 21).toInt))) (oh_B D (va_A (oh_W n a C) sz) (fun u => oh_W n a u)) (va_A (oh_W n a C) sz)) 0 0 (va_A (oh_W n a C) sz) := by
  refine Met.ofW (cc := cX7_told) (maxL := 6) (ret := (some .boolean)) (by decide) rfl ?_
  intro p e s m args below meth c s₁ B hml hv
  obtain ⟨rfl, hsz, hP, hK, hD0, hG⟩ := hv
  have hx := B.exec
  have hb := B.bytes
  have hr := B.returns
  have hts := atoms_spec (ws := (oh_w yX7_told cX7_told 6 (some .boolean))) B.pre
  have htg : ∀ w ∈ oh_t, w.before _ s = true := fun w h => hts w (List.mem_cons_of_mem _ h)
  have hown : s.vm.findClass RX7 = some m.cls := findClass_of_methodNamed B.named
  have hlocks := B.notSynchronized
  have hT0 := hT
  subst hsz
  have hD := hD0.self (sz := s.heap.size)
  generalize hAe : va_A (oh_W n a C) s.heap.size = A at hD hG ⊢
  have hA : ∀ q : Nat, s.heap.size ≤ q → A q := fun q h => by rw [← hAe]; exact Or.inr h
  have hS : va_S A s.heap s.heap [] := va_S.rf
  have hF : fr [(k, k + 1)] [21, 22, 23, 24, 25] C C := fr_rf
  have hl := lv_entry ([.ref (a 0), .ref (G (3 + j)), .ref (a k), .int x1, .int x2, .int x3]) (n := 6) (Nat.le_of_ble_eq_true rfl)
  rw [lg_entry_eq]
  generalize (lg_sl ([.ref (a 0), .ref (G (3 + j)), .ref (a k), .int x1, .int x2, .int x3]) ++ List.replicate (6 - (lg_sl ([.ref (a 0), .ref (G (3 + j)), .ref (a k), .int x1, .int x2, .int x3])).length) Slot.unset).toArray = ls at hl ⊢
  have hl : lv_has ls 6 [(0, .ref (a 0)), (1, .ref (G (3 + j))), (2, .ref (a k)), (3, .int x1), (4, .int x2), (5, .int x3)] := hl
  refine oh_genQ (fun Q hQ => ?_)
  have hok0 := hok
  obtain ⟨hk1, hk0, N1, hs1, hi1, hu1⟩ := hok
  have hok := hok0
  refine lv_aload_n hx hb dX7_told_0 rfl (lv_at hl 0 rfl) ?_
  refine lv_aload_n hx hb dX7_told_1 rfl (lv_at hl 1 rfl) ?_
  refine tq_V (As := [.ref (G (3 + j))]) (rest := []) (ws := (oh_W n a C)) ⟨hx, hb, hml, hown, htg⟩ (c_X7_isWord l D E G a C n hn hT j hj) (cwV 1 htg (oh_gV q_1215 q_1217 q_41 q_73 q_1218) rfl rfl rfl pdVX7_isWord ⟨Nat.le_of_ble_eq_true rfl, Nat.le_of_ble_eq_true rfl⟩) hK hP hG hS (va_recv hK hP (ci := 7) (q0 := 0) rfl (oh_wg (Nat.lt_of_lt_of_le (by decide) hn) (sM_0 hT))) rfl hl.1 rfl (Nat.le_of_ble_eq_true rfl) dX7_told_2 ⟨Nat.le_of_ble_eq_true rfl, Nat.le_of_ble_eq_true rfl⟩ (fun r_1 hq_2 => ?_)
  refine lv_if_ne (tgt := 13) hx hb dX7_told_5 (by decide) (fun (c_3 : ¬ (r_1 = 0)) => ?_) (fun (c_3 : r_1 = 0) => ?_)
  · have u_4 := hq_2.2 c_3
    refine lv_aload_n hx hb dX7_told_13 rfl (lv_at hl 0 rfl) ?_
    have : 0 ≤ (gi (C 0) 21).toInt ∧ (gi (C 0) 21).toInt ≤ 250 := fM_0_21 hT0
    have : 0 ≤ (gi (C 0) 7).toInt ∧ (gi (C 0) 7).toInt ≤ 250 := fM_0_7 hT0
    have : 0 ≤ (gi (C 0) 23).toInt ∧ (gi (C 0) 23).toInt ≤ 250 := fM_0_23 hT0
    have : 0 ≤ (gi (C 0) 13).toInt ∧ (gi (C 0) 13).toInt ≤ 5 := fM_0_13 hT0
    refine tm_Vv (As := []) (rest := []) ⟨hx, hb, hml, hown, htg⟩ (c_X7_look l D E G _ a C n hn hT (by omega)) (cwV 0 htg (oh_gV q_1197 q_1199 q_39 q_73 q_1200) rfl rfl rfl pdVX7_look ⟨Nat.le_of_ble_eq_true rfl, Nat.le_of_ble_eq_true rfl⟩) hK hP hD hG hS hA (va_recv hK hP (ci := 7) (q0 := 0) rfl (oh_wg (Nat.lt_of_lt_of_le (by decide) hn) (sM_0 hT))) rfl hl.1 rfl (Nat.le_of_ble_eq_true rfl) dX7_told_14 ⟨Nat.le_of_ble_eq_true rfl, Nat.le_of_ble_eq_true rfl⟩ (fun C_6 H locs hq_7 hP hD hS => ?_)
    obtain ⟨hT, f_8, hq_7⟩ := hq_7
    have hF := fr_tr hF f_8 rfl (by decide)
    refine W.widen (k := 0) (n := 0) (Nat.le_refl _) (Nat.le_refl _) ?_
    have t_9 := hT
    refine lv_aload_n hx hb dX7_told_17 rfl (lv_at hl 0 rfl) ?_
    refine lv_aload_n hx hb dX7_told_18 rfl (lv_at hl 2 rfl) ?_
    refine lv_iload_n hx hb dX7_told_19 rfl (lv_at hl 3 rfl) ?_
    refine lv_iload hx hb dX7_told_20 (lv_at hl 4 rfl) ?_
    refine lv_iload hx hb dX7_told_22 (lv_at hl 5 rfl) ?_
    have : (gi (C_6 0) 7).toInt = (gi (C 0) 7).toInt := congrArg (fun z => (vi z).toInt) (f_8.2 7 (by decide))
    have : (gi (C_6 0) 13).toInt = (gi (C 0) 13).toInt := congrArg (fun z => (vi z).toInt) (f_8.2 13 (by decide))
    have : 0 ≤ (gi (C_6 0) 21).toInt ∧ (gi (C_6 0) 21).toInt ≤ 250 := fM_0_21 t_9
    have : 0 ≤ (gi (C_6 0) 7).toInt ∧ (gi (C_6 0) 7).toInt ≤ 250 := fM_0_7 t_9
    have : 0 ≤ (gi (C_6 0) 23).toInt ∧ (gi (C_6 0) 23).toInt ≤ 250 := fM_0_23 t_9
    have : 0 ≤ (gi (C_6 0) 13).toInt ∧ (gi (C_6 0) 13).toInt ≤ 5 := fM_0_13 t_9
    refine tm_V (As := [.ref (a k), .int x1, .int x2, .int x3]) (rest := []) ⟨hx, hb, hml, hown, htg⟩ (c_X7_number l D E G _ a C_6 n hn hT k x1 x2 x3 hok (by omega)) (cwV 4 htg (oh_gV q_1225 q_1227 q_43 q_73 q_1228) rfl rfl rfl pdVX7_number ⟨Nat.le_of_ble_eq_true rfl, Nat.le_of_ble_eq_true rfl⟩) hK hP hD hG hS hA (va_recv hK hP (ci := 7) (q0 := 0) rfl (oh_wg (Nat.lt_of_lt_of_le (by decide) hn) (sM_0 hT))) rfl hl.1 rfl (Nat.le_of_ble_eq_true rfl) dX7_told_24 ⟨Nat.le_of_ble_eq_true rfl, Nat.le_of_ble_eq_true rfl⟩ (fun r_10 C_11 H locs hq_12 hP hD hS => ?_)
    obtain ⟨hT, f_13, hq_12⟩ := hq_12
    have hF := fr_trs hF f_13 (by decide)
    refine W.widen (k := 0) (n := 0) (Nat.le_refl _) (Nat.le_refl _) ?_
    have t_14 := hT
    have : (gi (C_11 0) 7).toInt = (gi (C_6 0) 7).toInt := congrArg (fun z => (vi z).toInt) (f_13.2 7 (by decide))
    have : (gi (C_11 0) 13).toInt = (gi (C_6 0) 13).toInt := congrArg (fun z => (vi z).toInt) (f_13.2 13 (by decide))
    have : 0 ≤ (gi (C_11 0) 21).toInt ∧ (gi (C_11 0) 21).toInt ≤ 250 := fM_0_21 t_14
    have : 0 ≤ (gi (C_11 0) 7).toInt ∧ (gi (C_11 0) 7).toInt ≤ 250 := fM_0_7 t_14
    have : 0 ≤ (gi (C_11 0) 23).toInt ∧ (gi (C_11 0) 23).toInt ≤ 250 := fM_0_23 t_14
    have : 0 ≤ (gi (C_11 0) 13).toInt ∧ (gi (C_11 0) 13).toInt ≤ 5 := fM_0_13 t_14
    rw [hQ]
    exact W.zret (v := r_10) (ty := .boolean) hx hb hr (oh_nb hq_12.1) (fun t ht hW => ⟨⟨r_10, C_11, rfl, ⟨hT, hF, ⟨hq_12.1, ⟨(by omega), hq_12.2.1.2⟩, (fun j hj => Eq.trans (hq_12.2.2.1 j hj) (congrArg (fun z => ga z j) (f_8.1 k rfl hk0))), (fun h9 => (hq_12.2.2.2 h9)), (fun h9 => (by omega))⟩⟩, ⟨by rw [ht]; exact hP, hD⟩⟩, hS.F ht⟩) hS.2.2 dX7_told_27
  · refine lv_aload_n hx hb dX7_told_8 rfl (lv_at hl 0 rfl) ?_
    refine tm_V (As := []) (rest := []) ⟨hx, hb, hml, hown, htg⟩ (c_X7_wrong l D E G _ a C n hn hT) (cwV 0 htg (oh_gV q_1229 q_1231 q_44 q_73 q_1232) rfl rfl rfl pdVX7_wrong ⟨Nat.le_of_ble_eq_true rfl, Nat.le_of_ble_eq_true rfl⟩) hK hP hD hG hS hA (va_recv hK hP (ci := 7) (q0 := 0) rfl (oh_wg (Nat.lt_of_lt_of_le (by decide) hn) (sM_0 hT))) rfl hl.1 rfl (Nat.le_of_ble_eq_true rfl) dX7_told_9 ⟨Nat.le_of_ble_eq_true rfl, Nat.le_of_ble_eq_true rfl⟩ (fun r_15 C_16 H locs hq_17 hP hD hS => ?_)
    obtain ⟨hT, f_18, hq_17⟩ := hq_17
    have hF := fr_tr hF f_18 rfl (by decide)
    refine W.widen (k := 0) (n := 0) (Nat.le_refl _) (Nat.le_refl _) ?_
    have t_19 := hT
    have : (gi (C_16 0) 21).toInt = (gi (C 0) 21).toInt := congrArg (fun z => (vi z).toInt) (f_18.2 21 (by decide))
    have : (gi (C_16 0) 7).toInt = (gi (C 0) 7).toInt := congrArg (fun z => (vi z).toInt) (f_18.2 7 (by decide))
    have : (gi (C_16 0) 23).toInt = (gi (C 0) 23).toInt := congrArg (fun z => (vi z).toInt) (f_18.2 23 (by decide))
    have : (gi (C_16 0) 13).toInt = (gi (C 0) 13).toInt := congrArg (fun z => (vi z).toInt) (f_18.2 13 (by decide))
    have : 0 ≤ (gi (C 0) 21).toInt ∧ (gi (C 0) 21).toInt ≤ 250 := fM_0_21 hT0
    have : 0 ≤ (gi (C 0) 7).toInt ∧ (gi (C 0) 7).toInt ≤ 250 := fM_0_7 hT0
    have : 0 ≤ (gi (C 0) 23).toInt ∧ (gi (C 0) 23).toInt ≤ 250 := fM_0_23 hT0
    have : 0 ≤ (gi (C 0) 13).toInt ∧ (gi (C 0) 13).toInt ≤ 5 := fM_0_13 hT0
    have : 0 ≤ (gi (C_16 0) 21).toInt ∧ (gi (C_16 0) 21).toInt ≤ 250 := fM_0_21 t_19
    have : 0 ≤ (gi (C_16 0) 7).toInt ∧ (gi (C_16 0) 7).toInt ≤ 250 := fM_0_7 t_19
    have : 0 ≤ (gi (C_16 0) 23).toInt ∧ (gi (C_16 0) 23).toInt ≤ 250 := fM_0_23 t_19
    have : 0 ≤ (gi (C_16 0) 13).toInt ∧ (gi (C_16 0) 13).toInt ≤ 5 := fM_0_13 t_19
    rw [hQ]
    exact W.zret (v := r_15) (ty := .boolean) hx hb hr (oh_nb hq_17.1) (fun t ht hW => ⟨⟨r_15, C_16, rfl, ⟨hT, hF, ⟨hq_17.1, ⟨(by omega), (by omega)⟩, (fun j hj => congrArg (fun z => ga z j) (f_18.1 k rfl hk0)), (fun h9 => (absurd hq_17.2 h9)), (fun h9 => (absurd hq_17.2 h9))⟩⟩, ⟨by rw [ht]; exact hP, hD⟩⟩, hS.F ht⟩) hS.2.2 dX7_told_12

set_option maxHeartbeats 4000000 in
set_option maxRecDepth 100000 in
theorem c_X7_perhaps (l : Launch) (D : va_G) (E : Nat → ClassId) (G : Nat → Nat) (sz : Nat) (a : Nat → Nat) (C : Nat → va_E) (n : Nat) (hn : 74 ≤ n) (hT : TyM a E C) (j : Nat) (k : Nat) (x1 : Int32) (x2 : Int32) (x3 : Int32) (hj : j < 34) (hok : okR a E n k x1 x2 x3) (hat : (gi (C 0) 21).toInt ≤ (gi (C 0) 7).toInt) : Met l yX7_perhaps (oh_w yX7_perhaps cX7_perhaps 6 (some .boolean)) ({ frames := 6, cells := 0, slots := 0, locals := 132 }) (oh_Pm D E G [.ref (a 0), .ref (G (3 + j)), .ref (a k), .int x1, .int x2, .int x3] (oh_W n a C) sz) (va_Qi (fun r (u : Nat → va_E) => TyM a E u ∧ fr [(k, k + 1)] [21, 22, 23, 24, 25] C u ∧ (r = 0 ∨ r = 1) ∧ (((gi (C 0) 21).toInt ≤ (gi (u 0) 21).toInt) ∧ ((gi (u 0) 21).toInt ≤ (gi (u 0) 7).toInt)) ∧ (∀ jj, jj ≠ x1.toNatClampNeg → ga (u k) jj = ga (C k) jj)) (oh_B D (va_A (oh_W n a C) sz) (fun u => oh_W n a u)) (va_A (oh_W n a C) sz)) 0 0 (va_A (oh_W n a C) sz) := by
  refine Met.ofW (cc := cX7_perhaps) (maxL := 6) (ret := (some .boolean)) (by decide) rfl ?_
  intro p e s m args below meth c s₁ B hml hv
  obtain ⟨rfl, hsz, hP, hK, hD0, hG⟩ := hv
  have hx := B.exec
  have hb := B.bytes
  have hr := B.returns
  have hts := atoms_spec (ws := (oh_w yX7_perhaps cX7_perhaps 6 (some .boolean))) B.pre
  have htg : ∀ w ∈ oh_t, w.before _ s = true := fun w h => hts w (List.mem_cons_of_mem _ h)
  have hown : s.vm.findClass RX7 = some m.cls := findClass_of_methodNamed B.named
  have hlocks := B.notSynchronized
  have hT0 := hT
  subst hsz
  have hD := hD0.self (sz := s.heap.size)
  generalize hAe : va_A (oh_W n a C) s.heap.size = A at hD hG ⊢
  have hA : ∀ q : Nat, s.heap.size ≤ q → A q := fun q h => by rw [← hAe]; exact Or.inr h
  have hS : va_S A s.heap s.heap [] := va_S.rf
  have hF : fr [(k, k + 1)] [21, 22, 23, 24, 25] C C := fr_rf
  have hl := lv_entry ([.ref (a 0), .ref (G (3 + j)), .ref (a k), .int x1, .int x2, .int x3]) (n := 6) (Nat.le_of_ble_eq_true rfl)
  rw [lg_entry_eq]
  generalize (lg_sl ([.ref (a 0), .ref (G (3 + j)), .ref (a k), .int x1, .int x2, .int x3]) ++ List.replicate (6 - (lg_sl ([.ref (a 0), .ref (G (3 + j)), .ref (a k), .int x1, .int x2, .int x3])).length) Slot.unset).toArray = ls at hl ⊢
  have hl : lv_has ls 6 [(0, .ref (a 0)), (1, .ref (G (3 + j))), (2, .ref (a k)), (3, .int x1), (4, .int x2), (5, .int x3)] := hl
  refine oh_genQ (fun Q hQ => ?_)
  have hok0 := hok
  obtain ⟨hk1, hk0, N1, hs1, hi1, hu1⟩ := hok
  have hok := hok0
  refine lv_aload_n hx hb dX7_perhaps_0 rfl (lv_at hl 0 rfl) ?_
  refine lv_aload_n hx hb dX7_perhaps_1 rfl (lv_at hl 1 rfl) ?_
  refine tq_V (As := [.ref (G (3 + j))]) (rest := []) (ws := (oh_W n a C)) ⟨hx, hb, hml, hown, htg⟩ (c_X7_isWord l D E G a C n hn hT j hj) (cwV 1 htg (oh_gV q_1215 q_1217 q_41 q_73 q_1218) rfl rfl rfl pdVX7_isWord ⟨Nat.le_of_ble_eq_true rfl, Nat.le_of_ble_eq_true rfl⟩) hK hP hG hS (va_recv hK hP (ci := 7) (q0 := 0) rfl (oh_wg (Nat.lt_of_lt_of_le (by decide) hn) (sM_0 hT))) rfl hl.1 rfl (Nat.le_of_ble_eq_true rfl) dX7_perhaps_2 ⟨Nat.le_of_ble_eq_true rfl, Nat.le_of_ble_eq_true rfl⟩ (fun r_1 hq_2 => ?_)
  refine lv_if_eq (tgt := 22) hx hb dX7_perhaps_5 (by decide) (fun (c_3 : r_1 = 0) => ?_) (fun (c_3 : ¬ (r_1 = 0)) => ?_)
  · refine lv_iconst (v := 1) hx hb dX7_perhaps_22 (by decide) ?_
    refine lv_goto (tgt := 27) hx hb dX7_perhaps_23 (by decide) ?_
    have : 0 ≤ (gi (C 0) 21).toInt ∧ (gi (C 0) 21).toInt ≤ 250 := fM_0_21 hT0
    have : 0 ≤ (gi (C 0) 7).toInt ∧ (gi (C 0) 7).toInt ≤ 250 := fM_0_7 hT0
    have : 0 ≤ (gi (C 0) 23).toInt ∧ (gi (C 0) 23).toInt ≤ 250 := fM_0_23 hT0
    have : 0 ≤ (gi (C 0) 13).toInt ∧ (gi (C 0) 13).toInt ≤ 5 := fM_0_13 hT0
    rw [hQ]
    exact W.zret (v := 1) (ty := .boolean) hx hb hr (by decide) (fun t ht hW => ⟨⟨1, C, rfl, ⟨hT, hF, ⟨(Or.inr rfl), ⟨(by omega), (by omega)⟩, (fun j hj => rfl)⟩⟩, ⟨by rw [ht]; exact hP, hD⟩⟩, hS.F ht⟩) hS.2.2 dX7_perhaps_27
  · have u_4 := hq_2.2 c_3
    refine lv_aload_n hx hb dX7_perhaps_8 rfl (lv_at hl 0 rfl) ?_
    refine lv_aload_n hx hb dX7_perhaps_9 rfl (lv_at hl 1 rfl) ?_
    refine lv_aload_n hx hb dX7_perhaps_10 rfl (lv_at hl 2 rfl) ?_
    refine lv_iload_n hx hb dX7_perhaps_11 rfl (lv_at hl 3 rfl) ?_
    refine lv_iload hx hb dX7_perhaps_12 (lv_at hl 4 rfl) ?_
    refine lv_iload hx hb dX7_perhaps_14 (lv_at hl 5 rfl) ?_
    have : 0 ≤ (gi (C 0) 21).toInt ∧ (gi (C 0) 21).toInt ≤ 250 := fM_0_21 hT0
    have : 0 ≤ (gi (C 0) 7).toInt ∧ (gi (C 0) 7).toInt ≤ 250 := fM_0_7 hT0
    have : 0 ≤ (gi (C 0) 23).toInt ∧ (gi (C 0) 23).toInt ≤ 250 := fM_0_23 hT0
    have : 0 ≤ (gi (C 0) 13).toInt ∧ (gi (C 0) 13).toInt ≤ 5 := fM_0_13 hT0
    refine tm_V (As := [.ref (G (3 + j)), .ref (a k), .int x1, .int x2, .int x3]) (rest := []) ⟨hx, hb, hml, hown, htg⟩ (c_X7_told l D E G _ a C n hn hT j k x1 x2 x3 hj hok (by omega)) (cwV 5 htg (oh_gV q_1234 q_1236 q_45 q_73 q_1237) rfl rfl rfl pdVX7_told ⟨Nat.le_of_ble_eq_true rfl, Nat.le_of_ble_eq_true rfl⟩) hK hP hD hG hS hA (va_recv hK hP (ci := 7) (q0 := 0) rfl (oh_wg (Nat.lt_of_lt_of_le (by decide) hn) (sM_0 hT))) rfl hl.1 rfl (Nat.le_of_ble_eq_true rfl) dX7_perhaps_16 ⟨Nat.le_of_ble_eq_true rfl, Nat.le_of_ble_eq_true rfl⟩ (fun r_5 C_6 H locs hq_7 hP hD hS => ?_)
    obtain ⟨hT, f_8, hq_7⟩ := hq_7
    have hF := fr_trs hF f_8 (by decide)
    refine W.widen (k := 0) (n := 0) (Nat.le_refl _) (Nat.le_refl _) ?_
    have t_9 := hT
    refine lv_if_eq (tgt := 26) hx hb dX7_perhaps_19 (by decide) (fun (c_10 : r_5 = 0) => ?_) (fun (c_10 : ¬ (r_5 = 0)) => ?_)
    · refine lv_iconst (v := 0) hx hb dX7_perhaps_26 (by decide) ?_
      rw [hQ]
      exact W.zret (v := 0) (ty := .boolean) hx hb hr (by decide) (fun t ht hW => ⟨⟨0, C_6, rfl, ⟨hT, hF, ⟨(Or.inl rfl), ⟨hq_7.2.1.1, hq_7.2.1.2⟩, hq_7.2.2.1⟩⟩, ⟨by rw [ht]; exact hP, hD⟩⟩, hS.F ht⟩) hS.2.2 dX7_perhaps_27
    · have u_11 := hq_7.2.2.2.1 c_10
      have u_12 := hq_7.2.2.2.2 c_10
      refine lv_iconst (v := 1) hx hb dX7_perhaps_22 (by decide) ?_
      refine lv_goto (tgt := 27) hx hb dX7_perhaps_23 (by decide) ?_
      rw [hQ]
      exact W.zret (v := 1) (ty := .boolean) hx hb hr (by decide) (fun t ht hW => ⟨⟨1, C_6, rfl, ⟨hT, hF, ⟨(Or.inr rfl), ⟨hq_7.2.1.1, hq_7.2.1.2⟩, hq_7.2.2.1⟩⟩, ⟨by rw [ht]; exact hP, hD⟩⟩, hS.F ht⟩) hS.2.2 dX7_perhaps_27
