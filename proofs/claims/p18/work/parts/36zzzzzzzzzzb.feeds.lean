/-! EXACT: bytes that are fed -/
def bytOf (v z : Int32) : Int32 := (v >>> ((8 * z) &&& 31)) &&& 255
def fedZ (v : Int32) : Nat → (Nat → Int32) → Nat → (Nat → Int32)
  | 0, f, _ => f
  | k + 1, f, s => fedZ v k (upd f s (bytOf v (Int32.ofNat k))) (s + 1)
theorem fedZ_s {v : Int32} {k s : Nat} {f : Nat → Int32} : fedZ v (k + 1) f s = fedZ v k (upd f s (bytOf v (Int32.ofNat k))) (s + 1) := rfl
theorem ofc3 {z : Int32} (h : rg z 0 3) : Int32.ofNat z.toNatClampNeg = z := by
  refine Int32.toInt_inj.mp ?_
  have e := oh_nat h (by decide)
  have e2 : (Int32.ofNat z.toNatClampNeg).toInt = (z.toNatClampNeg : Int) := nI_toInt (by have := h.2; omega)
  rw [e2, e]
theorem fz_s {v z s s2 : Int32} {f f2 : Nat → Int32} (hz : rg z 0 3) (hs : rg s 0 249) (e : f2 = upd f s.toNatClampNeg (bytOf v z)) (es : s2 = s + 1) : fedZ v ((z + (-1)).toInt + 1).toNat f2 s2.toNatClampNeg = fedZ v (z.toInt + 1).toNat f s.toNatClampNeg := by
  have e1 := oh_sub1 (z := z) (rg_w hz (by decide))
  have e2 : s2.toNatClampNeg = s.toNatClampNeg + 1 := by
    show s2.toInt.toNat = s.toInt.toNat + 1
    rw [es, oh_add1 hs]
    have := hs.1
    omega
  have e3 := oh_nat hz (by decide)
  have e4 := ofc3 hz
  rw [e2, e, e1, show (z.toInt + 1).toNat = z.toNatClampNeg + 1 by omega, show (z.toInt - 1 + 1).toNat = z.toNatClampNeg by omega, fedZ_s, e4]
theorem fz_0 {v n s : Int32} {f : Nat → Int32} (hn : rg n 1 4) : fedZ v ((n - 1).toInt + 1).toNat f s.toNatClampNeg = fedZ v n.toInt.toNat f s.toNatClampNeg := by
  rw [oh_sub1' hn, show (n.toInt - 1 + 1).toNat = n.toInt.toNat by omega]
theorem fz_e {v z s : Int32} {f : Nat → Int32} (c : z < 0) : fedZ v (z.toInt + 1).toNat f s.toNatClampNeg = f := by
  have h := Int32.lt_iff_toInt_lt.mp c
  have c0 : (0 : Int32).toInt = 0 := rfl
  rw [show (z.toInt + 1).toNat = 0 by omega]
  rfl
noncomputable def fedF (f : Nat → Int32) (s v n : Int32) : Nat → Int32 := if ¬ ((1 : Int32) ≤ n ∧ n ≤ 4) then f else if (250 : Int32) < s + n then f else fedZ v n.toInt.toNat f s.toNatClampNeg
theorem ff1 {f g : Nat → Int32} {s v n : Int32} (e : g = f) (h : ¬ ((1 : Int32) ≤ n ∧ n ≤ 4)) : g = fedF f s v n := by rw [e]; exact (if_pos h).symm
theorem ff2 {f g : Nat → Int32} {s v n : Int32} (e : g = f) (h1 : (1 : Int32) ≤ n) (h2 : n ≤ 4) (c : (250 : Int32) < s + n) : g = fedF f s v n := by
  rw [e]
  unfold fedF
  rw [if_neg (fun q => q ⟨h1, h2⟩), if_pos c]
theorem ff3 {f g : Nat → Int32} {s v n : Int32} (e : g = fedZ v n.toInt.toNat f s.toNatClampNeg) (h1 : (1 : Int32) ≤ n) (h2 : n ≤ 4) (c : s + n ≤ (250 : Int32)) : g = fedF f s v n := by
  unfold fedF
  rw [if_neg (fun q => q ⟨h1, h2⟩), if_neg (fun q => absurd q (Int32.not_lt.mpr c))]
  exact e

set_option maxHeartbeats 4000000 in
set_option maxRecDepth 100000 in
theorem e_X4_append (l : Launch) (D : va_G) (E : Nat → ClassId) (G : Nat → Nat) (sz : Nat) (a : Nat → Nat) (C : Nat → va_E) (hT : TyX a E C) (x1 : Int32) (x2 : Int32) (hx2 : rg x2 1 4) (hp : (gi (C 5) 1).toInt + x2.toInt ≤ 250) : Met l yX4_append (oh_w yX4_append cX4_append 4 none) ({ frames := 0, cells := 0, slots := 0, locals := 0 }) (oh_Pm D E G [.ref (a 5), .int x1, .int x2] (oh_W 35 a C) sz) (va_Qv (fun (u : Nat → va_E) => TyX a E u ∧ fr [(5, 6), (32, 33)] [] C u ∧ ((gi (u 5) 1).toInt = (gi (C 5) 1).toInt + x2.toInt) ∧ (ga (u 32) = fedZ x1 x2.toInt.toNat (ga (C 32)) (gi (C 5) 1).toNatClampNeg)) (oh_B D (va_A (oh_W 35 a C) sz) (fun u => oh_W 35 a u)) (va_A (oh_W 35 a C) sz)) 0 0 (va_A (oh_W 35 a C) sz) := by
  refine Met.ofW (cc := cX4_append) (maxL := 4) (ret := none) (by decide) rfl ?_
  intro p e s m args below meth c s₁ B hml hv
  obtain ⟨rfl, hsz, hP, hK, hD0, hG⟩ := hv
  have hx := B.exec
  have hb := B.bytes
  have hr := B.returns
  have hts := atoms_spec (ws := (oh_w yX4_append cX4_append 4 none)) B.pre
  have htg : ∀ w ∈ oh_t, w.before _ s = true := fun w h => hts w (List.mem_cons_of_mem _ h)
  have hown : s.vm.findClass RX4 = some m.cls := findClass_of_methodNamed B.named
  have hlocks := B.notSynchronized
  have hT0 := hT
  subst hsz
  have hD := hD0.self (sz := s.heap.size)
  generalize hAe : va_A (oh_W 35 a C) s.heap.size = A at hD hG ⊢
  have hA : ∀ q : Nat, s.heap.size ≤ q → A q := fun q h => by rw [← hAe]; exact Or.inr h
  have hS : va_S A s.heap s.heap [] := va_S.rf
  have hF : fr [(5, 6), (32, 33)] [] C C := fr_rf
  have hl := lv_entry ([.ref (a 5), .int x1, .int x2]) (n := 4) (Nat.le_of_ble_eq_true rfl)
  rw [lg_entry_eq]
  generalize (lg_sl ([.ref (a 5), .int x1, .int x2]) ++ List.replicate (4 - (lg_sl ([.ref (a 5), .int x1, .int x2])).length) Slot.unset).toArray = ls at hl ⊢
  have hl : lv_has ls 4 [(0, .ref (a 5)), (1, .int x1), (2, .int x2)] := hl
  refine oh_genQ (fun Q hQ => ?_)
  refine lv_iload_n hx hb dX4_append_0 rfl (lv_at hl 2 rfl) ?_
  refine lv_iconst (v := 1) hx hb dX4_append_1 (by decide) ?_
  refine lv_isub hx hb dX4_append_2 ?_
  refine lv_istore_n (lv' := [(3, .int (x2 - 1)), (0, .ref (a 5)), (1, .int x1), (2, .int x2)]) hx hb dX4_append_3 rfl hl (by decide) rfl (fun ls hl => ?_)
  have L_4 : ∀ (d : Nat) (K4 : Nat → va_E) (z4_3 : Int32) (H : Heap) (locs : List Loc) (ls : Array Slot), (z4_3.toInt + 1).toNat = d → rg z4_3 (-1) 3 → ((gi (K4 5) 1).toInt + z4_3.toInt = (gi (C 5) 1).toInt + x2.toInt - 1) → (fedZ x1 (z4_3.toInt + 1).toNat (ga (K4 32)) (gi (K4 5) 1).toNatClampNeg = fedZ x1 x2.toInt.toNat (ga (C 32)) (gi (C 5) 1).toNatClampNeg) → TyX a E K4 → fr [(5, 6), (32, 33)] [] C K4 → fr [(5, 6), (32, 33)] [] C K4 → va_P D vwCl (oh_W 35 a K4) H → va_D A (oh_W 35 a K4) → va_S A s.heap H locs → lv_has ls 4 [(3, .int z4_3), (0, .ref (a 5)), (1, .int x1), (2, .int x2)] → W p l e ({ frames := 0, cells := 0, slots := 0, locals := 0 }) s m (([.ref (a 5), .int x1, .int x2] : List Value).toArray) below meth c H locs 0 0 Q (F0 m 4 ls []) := by
    intro d
    induction d using Nat.strongRecOn with
    | ind d ih_4 =>
    intro K4 z4_3 H locs ls hd_4 hz4_3 hv_4 hb_4 hT hF hLF_4 hP hD hS hl
    have t_1 := hT
    refine lv_iload_n hx hb dX4_append_4 rfl (lv_at hl 0 rfl) ?_
    refine lv_if_lt (tgt := 43) hx hb dX4_append_5 (by decide) (fun (c_2 : z4_3 < 0) => ?_) (fun (c_2 : ¬ (z4_3 < 0)) => ?_)
    · rw [hQ]
      exact W.vret hx hb hr (fun t ht hW => ⟨⟨K4, rfl, ⟨hT, hF, ⟨(by have h7 := (rn_ltu (u' := (-1)) c_2 hz4_3 (rg_c (v := 0) (lo := 0) (hi := 0) (by decide)) (by decide)); have h8 := h7.1; have h9 := h7.2; omega), (Eq.trans (fz_e c_2).symm hb_4)⟩⟩, ⟨by rw [ht]; exact hP, hD⟩⟩, hS.F ht⟩) hS.2.2 dX4_append_43
    · refine lv_aload_n hx hb dX4_append_8 rfl (lv_at hl 1 rfl) ?_
      refine va_get (D := D) (ci := 4) (v := .ref (a 32)) (C := RX4) (T := TX4) (N := 6) hx hb htg ig_4 hown hK hP 5 (oh_wg (by decide) (sX_5 hT)) rfl 0 (by decide) (htg _ q_217) (fun _ h9 => h9) rfl dX4_append_9 ?_
      refine lv_aload_n hx hb dX4_append_12 rfl (lv_at hl 1 rfl) ?_
      refine va_get (D := D) (ci := 4) (v := .int (gi (K4 5) 1)) (C := RX4) (T := TX4) (N := 6) hx hb htg ig_4 hown hK hP 5 (oh_wg (by decide) (sX_5 hT)) rfl 1 (by decide) (htg _ q_218) (fun _ h9 => h9) rfl dX4_append_13 ?_
      refine lv_iload_n hx hb dX4_append_16 rfl (lv_at hl 2 rfl) ?_
      refine lv_bipush (v := 8) hx hb dX4_append_17 (by decide) ?_
      refine lv_iload_n hx hb dX4_append_19 rfl (lv_at hl 0 rfl) ?_
      refine lv_imul hx hb dX4_append_20 ?_
      refine lv_ishr hx hb dX4_append_21 ?_
      refine lv_sipush (v := 255) hx hb dX4_append_22 (by decide) ?_
      refine lv_iand hx hb dX4_append_25 ?_
      have n_3 : vp_in (gi (K4 5) 1) 250 := (rg_in (l := 0) (u := 249) ⟨(fX_5_1 t_1).1, (oh_ap1 (rg_w (rn_lel (Int32.not_lt.mp c_2) (rg_c (v := 0) (lo := 0) (hi := 0) (by decide)) hz4_3) (by decide)) (fX_5_1 hT0) hx2 hp hv_4).2⟩ (by decide))
      refine th_iast (T := TyX a E) (Rl := fr [(5, 6), (32, 33)] [] C) hx hb hK hP hD hS 32 (by decide) (sX_32 hT) n_3 (hT.up 32 (tA_upd (tX_32 hT) tA_any)) (fr_st hF (by decide) (by decide)) dX4_append_26 (fun C_4 H locs e_5 hT hF hP hD hS => ?_)
      have t_6 := hT
      refine lv_aload_n hx hb dX4_append_27 rfl (lv_at hl 1 rfl) ?_
      refine lv_dup hx hb dX4_append_28 rfl ?_
      refine va_get (D := D) (ci := 4) (v := .int (gi (K4 5) 1)) (C := RX4) (T := TX4) (N := 6) hx hb htg ig_4 hown hK hP 5 (oh_wg (by decide) (sX_5 hT)) rfl 1 (by decide) (htg _ q_218) (fun _ h9 => h9) (oh_fv (c := C_4 5) (j := 1) rfl (congrArg (fun z => gi z 1) (th_un e_5 (by decide)))) dX4_append_29 ?_
      refine lv_iconst (v := 1) hx hb dX4_append_32 (by decide) ?_
      refine lv_iadd hx hb dX4_append_33 ?_
      refine th_put (Tp := TyX a E) (Rl := fr [(5, 6), (32, 33)] [] C) (ci := 4) (v := .int ((gi (K4 5) 1) + 1)) (ty := .int) (CC := RX4) (T := TX4) (N := 6) hx hb htg ig_4 tyX4 tyX4_ok nmX4 hown hK hP hD hS 5 (by decide) (sX_5 hT) rfl 1 (by decide) (htg _ q_218) (fun _ h9 => h9) rfl (by decide +kernel) rfl rfl (Nat.le_of_ble_eq_true rfl) (hT.up 5 ⟨rfl, (rg_w (rg_add (lo := 1) (hi := 250) (l := 0) (u := 249) ⟨(fX_5_1 t_1).1, (oh_ap1 (rg_w (rn_lel (Int32.not_lt.mp c_2) (rg_c (v := 0) (lo := 0) (hi := 0) (by decide)) hz4_3) (by decide)) (fX_5_1 hT0) hx2 hp hv_4).2⟩ (rg_c (v := 1) (lo := 1) (hi := 1) (by decide)) (by decide)) (by decide)), (fX_5_2 hT), (fX_5_4 hT), (fX_5_5 hT)⟩) (fr_st hF (by decide) (by decide)) dX4_append_34 (fun C_7 H locs e_8 hT hF hP hD hS => ?_)
      have t_9 := hT
      refine lv_iinc (v := z4_3 + (-1)) (lv' := [(3, .int (z4_3 + (-1))), (0, .ref (a 5)), (1, .int x1), (2, .int x2)]) hx hb dX4_append_37 hl (k := 0) rfl (by rfl) (by decide) rfl (fun ls hl => ?_)
      refine lv_goto (tgt := 4) hx hb dX4_append_40 (by decide) ?_
      exact ih_4 _ (hd_4 ▸ mu_dn (rn_lel (Int32.not_lt.mp c_2) (rg_c (v := 0) (lo := 0) (hi := 0) (by decide)) hz4_3) (by decide)) C_7 (z4_3 + (-1)) _ _ ls rfl (rg_w (rg_add (lo := (-1)) (hi := 2) (rn_lel (Int32.not_lt.mp c_2) (rg_c (v := 0) (lo := 0) (hi := 0) (by decide)) hz4_3) (rg_c (v := (-1)) (lo := (-1)) (hi := (-1)) (by decide)) (by decide)) (by decide)) (by rw [(show gi (C_7 5) 1 = ((gi (K4 5) 1) + 1) by rw [e_8]; rfl), oh_add1 ⟨(fX_5_1 t_1).1, (oh_ap1 (rg_w (rn_lel (Int32.not_lt.mp c_2) (rg_c (v := 0) (lo := 0) (hi := 0) (by decide)) hz4_3) (by decide)) (fX_5_1 hT0) hx2 hp hv_4).2⟩, oh_sub1 (rg_w (rn_lel (Int32.not_lt.mp c_2) (rg_c (v := 0) (lo := 0) (hi := 0) (by decide)) hz4_3) (by decide))]; omega) (Eq.trans (fz_s (rg_w (rn_lel (Int32.not_lt.mp c_2) (rg_c (v := 0) (lo := 0) (hi := 0) (by decide)) hz4_3) (by decide)) ⟨(fX_5_1 t_1).1, (oh_ap1 (rg_w (rn_lel (Int32.not_lt.mp c_2) (rg_c (v := 0) (lo := 0) (hi := 0) (by decide)) hz4_3) (by decide)) (fX_5_1 hT0) hx2 hp hv_4).2⟩ (Eq.trans (congrArg ga (th_un e_8 (by decide))) (st_ga e_5)) (show gi (C_7 5) 1 = ((gi (K4 5) 1) + 1) by rw [e_8]; rfl)) hb_4) hT hF (fr_ste (fr_ste hLF_4 e_5 (by decide) (by decide)) e_8 (by decide) (by decide)) hP hD hS (lv_sub hl [0, 1, 2, 3] rfl)
  exact L_4 _ C (x2 - 1) _ _ ls rfl (rg_w (rg_sub (lo := 0) (hi := 3) hx2 (rg_c (v := 1) (lo := 1) (hi := 1) (by decide)) (by decide)) (by decide)) (by rw [oh_sub1' hx2]; omega) (fz_0 hx2) hT hF fr_rf hP hD hS (lv_sub hl [0, 1, 2, 3] rfl)

set_option maxHeartbeats 4000000 in
set_option maxRecDepth 100000 in
theorem e_X6_feed (l : Launch) (D : va_G) (E : Nat → ClassId) (G : Nat → Nat) (sz : Nat) (a : Nat → Nat) (C : Nat → va_E) (hT : TyX a E C) (x1 : Int32) (x2 : Int32) : Met l yX6_feed (oh_w yX6_feed cX6_feed 3 (some .int)) ({ frames := 2, cells := 0, slots := 0, locals := 44 }) (oh_Pm D E G [.ref (a 0), .int x1, .int x2] (oh_W 35 a C) sz) (va_Qi (fun r (u : Nat → va_E) => TyX a E u ∧ fr [(5, 6), (7, 8), (32, 33)] [] C u ∧ (r = oh_feed (gi (C 5) 1) x2) ∧ (gi (u 5) 1 = oh_fsz (gi (C 5) 1) x2) ∧ (ga (u 32) = fedF (ga (C 32)) (gi (C 5) 1) x1 x2)) (oh_B D (va_A (oh_W 35 a C) sz) (fun u => oh_W 35 a u)) (va_A (oh_W 35 a C) sz)) 0 0 (va_A (oh_W 35 a C) sz) := by
  refine Met.ofW (cc := cX6_feed) (maxL := 3) (ret := (some .int)) (by decide) rfl ?_
  intro p e s m args below meth c s₁ B hml hv
  obtain ⟨rfl, hsz, hP, hK, hD0, hG⟩ := hv
  have hx := B.exec
  have hb := B.bytes
  have hr := B.returns
  have hts := atoms_spec (ws := (oh_w yX6_feed cX6_feed 3 (some .int))) B.pre
  have htg : ∀ w ∈ oh_t, w.before _ s = true := fun w h => hts w (List.mem_cons_of_mem _ h)
  have hown : s.vm.findClass RX6 = some m.cls := findClass_of_methodNamed B.named
  have hlocks := B.notSynchronized
  have hT0 := hT
  subst hsz
  have hD := hD0.self (sz := s.heap.size)
  generalize hAe : va_A (oh_W 35 a C) s.heap.size = A at hD hG ⊢
  have hA : ∀ q : Nat, s.heap.size ≤ q → A q := fun q h => by rw [← hAe]; exact Or.inr h
  have hS : va_S A s.heap s.heap [] := va_S.rf
  have hF : fr [(5, 6), (7, 8), (32, 33)] [] C C := fr_rf
  have hl := lv_entry ([.ref (a 0), .int x1, .int x2]) (n := 3) (Nat.le_of_ble_eq_true rfl)
  rw [lg_entry_eq]
  generalize (lg_sl ([.ref (a 0), .int x1, .int x2]) ++ List.replicate (3 - (lg_sl ([.ref (a 0), .int x1, .int x2])).length) Slot.unset).toArray = ls at hl ⊢
  have hl : lv_has ls 3 [(0, .ref (a 0)), (1, .int x1), (2, .int x2)] := hl
  refine oh_genQ (fun Q hQ => ?_)
  refine lv_iload_n hx hb dX6_feed_0 rfl (lv_at hl 2 rfl) ?_
  refine lv_iconst (v := 1) hx hb dX6_feed_1 (by decide) ?_
  refine lv_iconst (v := 4) hx hb dX6_feed_2 (by decide) ?_
  refine tq_S (As := [.int x2, .int 1, .int 4]) (rest := []) (ws := []) ⟨hx, hb, hml, hown, htg⟩ (c_X6_within l D E G x2 (1 : Int32) (4 : Int32)) (va_cwS 3 htg (oh_gS q_293 q_294 q_66 q_295) rfl rfl rfl pdX6_within ⟨Nat.le_of_ble_eq_true rfl, Nat.le_of_ble_eq_true rfl⟩) hK va_nil hG hS rfl hl.1 rfl (Nat.le_of_ble_eq_true rfl) dX6_feed_3 ⟨Nat.le_of_ble_eq_true rfl, Nat.le_of_ble_eq_true rfl⟩ (fun r_1 hq_2 => ?_)
  refine lv_if_ne (tgt := 16) hx hb dX6_feed_6 (by decide) (fun (c_3 : ¬ (r_1 = 0)) => ?_) (fun (c_3 : r_1 = 0) => ?_)
  · have u_4 := hq_2.2.1 c_3
    refine lv_aload_n hx hb dX6_feed_16 rfl (lv_at hl 0 rfl) ?_
    refine va_get (D := D) (ci := 6) (v := .ref (a 5)) (C := RX6) (T := TX6) (N := 9) hx hb htg ig_6 hown hK hP 0 (oh_wg (by decide) (sX_0 hT)) rfl 5 (by decide) (htg _ q_263) (fun _ h9 => h9) rfl dX6_feed_17 ?_
    refine va_get (D := D) (ci := 4) (v := .int (gi (C 5) 1)) (C := RX4) (T := TX4) (N := 6) hx hb htg ig_4 hown hK hP 5 (oh_wg (by decide) (sX_5 hT)) rfl 1 (by decide) (htg _ q_219) (fun _ h9 => h9) rfl dX6_feed_20 ?_
    refine lv_iload_n hx hb dX6_feed_23 rfl (lv_at hl 2 rfl) ?_
    refine lv_iadd hx hb dX6_feed_24 ?_
    refine lv_sipush (v := 250) hx hb dX6_feed_25 (by decide) ?_
    refine lv_icmp_le (tgt := 38) hx hb dX6_feed_28 (by decide) (fun (c_5 : ((gi (C 5) 1) + x2) ≤ 250) => ?_) (fun (c_5 : ¬ (((gi (C 5) 1) + x2) ≤ 250)) => ?_)
    · refine lv_aload_n hx hb dX6_feed_38 rfl (lv_at hl 0 rfl) ?_
      refine va_get (D := D) (ci := 6) (v := .ref (a 5)) (C := RX6) (T := TX6) (N := 9) hx hb htg ig_6 hown hK hP 0 (oh_wg (by decide) (sX_0 hT)) rfl 5 (by decide) (htg _ q_263) (fun _ h9 => h9) rfl dX6_feed_39 ?_
      refine lv_iload_n hx hb dX6_feed_42 rfl (lv_at hl 1 rfl) ?_
      refine lv_iload_n hx hb dX6_feed_43 rfl (lv_at hl 2 rfl) ?_
      refine tm_Vv (As := [.int x1, .int x2]) (rest := []) ⟨hx, hb, hml, hown, htg⟩ (e_X4_append l D E G _ a C hT x1 x2 (rg_w (rn_leu u_4.2 (rn_lel u_4.1 (rg_c (v := 1) (lo := 1) (hi := 1) (by decide)) (rg_any _)) (rg_c (v := 4) (lo := 4) (hi := 4) (by decide))) (by decide)) (oh_fdp (fX_5_1 hT) u_4.1 u_4.2 c_5)) (cwV 2 htg (oh_gV q_487 q_488 q_489 q_71 q_490) rfl rfl rfl pdVX4_append ⟨Nat.le_of_ble_eq_true rfl, Nat.le_of_ble_eq_true rfl⟩) hK hP hD hG hS hA (va_recv hK hP (ci := 4) (q0 := 5) rfl (oh_wg (by decide) (sX_5 hT))) rfl hl.1 rfl (Nat.le_of_ble_eq_true rfl) dX6_feed_44 ⟨Nat.le_of_ble_eq_true rfl, Nat.le_of_ble_eq_true rfl⟩ (fun C_7 H locs hq_8 hP hD hS => ?_)
      obtain ⟨hT, f_9, hq_8⟩ := hq_8
      have hF := fr_tr hF f_9 (by decide) (by decide)
      refine W.widen (k := 0) (n := 0) (Nat.le_refl _) (Nat.le_refl _) ?_
      have t_10 := hT
      refine lv_aload_n hx hb dX6_feed_47 rfl (lv_at hl 0 rfl) ?_
      refine va_get (D := D) (ci := 6) (v := .ref (a 5)) (C := RX6) (T := TX6) (N := 9) hx hb htg ig_6 hown hK hP 0 (oh_wg (by decide) (sX_0 hT)) rfl 5 (by decide) (htg _ q_263) (fun _ h9 => h9) rfl dX6_feed_48 ?_
      refine va_get (D := D) (ci := 4) (v := .int (gi (C_7 5) 1)) (C := RX4) (T := TX4) (N := 6) hx hb htg ig_4 hown hK hP 5 (oh_wg (by decide) (sX_5 hT)) rfl 1 (by decide) (htg _ q_219) (fun _ h9 => h9) rfl dX6_feed_51 ?_
      rw [hQ]
      exact W.iret (v := gi (C_7 5) 1) hx hb hr (fun t ht hW => ⟨⟨gi (C_7 5) 1, C_7, rfl, ⟨hT, hF, ⟨(oh_fd3 (fX_5_1 hT0) u_4.1 u_4.2 c_5 hq_8.1), (oh_fz3 (fX_5_1 hT0) u_4.1 u_4.2 c_5 hq_8.1), (ff3 hq_8.2 u_4.1 u_4.2 c_5)⟩⟩, ⟨by rw [ht]; exact hP, hD⟩⟩, hS.F ht⟩) hS.2.2 dX6_feed_54
    · refine lv_aload_n hx hb dX6_feed_31 rfl (lv_at hl 0 rfl) ?_
      refine lv_bipush (v := (-6)) hx hb dX6_feed_32 (by decide) ?_
      refine tm_V (As := [.int (-6)]) (rest := []) ⟨hx, hb, hml, hown, htg⟩ (c_X6_refuse l D E G _ a C hT ((-6) : Int32)) (cwV 1 htg (oh_gV q_296 q_298 q_0 q_66 q_299) rfl rfl rfl pdVX6_refuse ⟨Nat.le_of_ble_eq_true rfl, Nat.le_of_ble_eq_true rfl⟩) hK hP hD hG hS hA (va_recv hK hP (ci := 6) (q0 := 0) rfl (oh_wg (by decide) (sX_0 hT))) rfl hl.1 rfl (Nat.le_of_ble_eq_true rfl) dX6_feed_34 ⟨Nat.le_of_ble_eq_true rfl, Nat.le_of_ble_eq_true rfl⟩ (fun r_11 C_12 H locs hq_13 hP hD hS => ?_)
      obtain ⟨hT, f_14, hq_13⟩ := hq_13
      have hF := fr_tr hF f_14 (by decide) (by decide)
      refine W.widen (k := 0) (n := 0) (Nat.le_refl _) (Nat.le_refl _) ?_
      have t_15 := hT
      rw [hQ]
      exact W.iret (v := r_11) hx hb hr (fun t ht hW => ⟨⟨r_11, C_12, rfl, ⟨hT, hF, ⟨(oh_fd2 hq_13 u_4.1 u_4.2 (Int32.not_le.mp c_5)), (oh_fz2 (congrArg (fun z => gi z 1) (f_14.1 5 rfl (by decide))) u_4.1 u_4.2 (Int32.not_le.mp c_5)), (ff2 (congrArg ga (f_14.1 32 rfl (by decide))) u_4.1 u_4.2 (Int32.not_le.mp c_5))⟩⟩, ⟨by rw [ht]; exact hP, hD⟩⟩, hS.F ht⟩) hS.2.2 dX6_feed_37
  · have u_16 := hq_2.2.2 c_3
    refine lv_aload_n hx hb dX6_feed_9 rfl (lv_at hl 0 rfl) ?_
    refine lv_bipush (v := (-2)) hx hb dX6_feed_10 (by decide) ?_
    refine tm_V (As := [.int (-2)]) (rest := []) ⟨hx, hb, hml, hown, htg⟩ (c_X6_refuse l D E G _ a C hT ((-2) : Int32)) (cwV 1 htg (oh_gV q_296 q_298 q_0 q_66 q_299) rfl rfl rfl pdVX6_refuse ⟨Nat.le_of_ble_eq_true rfl, Nat.le_of_ble_eq_true rfl⟩) hK hP hD hG hS hA (va_recv hK hP (ci := 6) (q0 := 0) rfl (oh_wg (by decide) (sX_0 hT))) rfl hl.1 rfl (Nat.le_of_ble_eq_true rfl) dX6_feed_12 ⟨Nat.le_of_ble_eq_true rfl, Nat.le_of_ble_eq_true rfl⟩ (fun r_17 C_18 H locs hq_19 hP hD hS => ?_)
    obtain ⟨hT, f_20, hq_19⟩ := hq_19
    have hF := fr_tr hF f_20 (by decide) (by decide)
    refine W.widen (k := 0) (n := 0) (Nat.le_refl _) (Nat.le_refl _) ?_
    have t_21 := hT
    rw [hQ]
    exact W.iret (v := r_17) hx hb hr (fun t ht hW => ⟨⟨r_17, C_18, rfl, ⟨hT, hF, ⟨(oh_fd1 hq_19 u_16), (oh_fz1 (congrArg (fun z => gi z 1) (f_20.1 5 rfl (by decide))) u_16), (ff1 (congrArg ga (f_20.1 32 rfl (by decide))) u_16)⟩⟩, ⟨by rw [ht]; exact hP, hD⟩⟩, hS.F ht⟩) hS.2.2 dX6_feed_15

set_option maxHeartbeats 4000000 in
set_option maxRecDepth 100000 in
theorem e_X7_feed (l : Launch) (D : va_G) (E : Nat → ClassId) (G : Nat → Nat) (sz : Nat) (a : Nat → Nat) (C : Nat → va_E) (n : Nat) (hn : 74 ≤ n) (hT : TyM a E C) (x1 : Int32) (x2 : Int32) (hR : RelM C) : Met l yX7_feed (oh_w yX7_feed cX7_feed 4 (some .int)) ({ frames := 1, cells := 0, slots := 0, locals := 25 }) (oh_Pm D E G [.ref (a 0), .int x1, .int x2] (oh_W n a C) sz) (va_Qi (fun r (u : Nat → va_E) => TyM a E u ∧ fr [(7, 8), (8, 9)] [7] C u ∧ (RelM u) ∧ (r = oh_feed (gi (C 0) 7) x2) ∧ (gi (u 0) 7 = oh_fsz (gi (C 0) 7) x2) ∧ (ga (u 7) = fedF (ga (C 7)) (gi (C 0) 7) x1 x2)) (oh_B D (va_A (oh_W n a C) sz) (fun u => oh_W n a u)) (va_A (oh_W n a C) sz)) 0 0 (va_A (oh_W n a C) sz) := by
  refine Met.ofW (cc := cX7_feed) (maxL := 4) (ret := (some .int)) (by decide) rfl ?_
  intro p e s m args below meth c s₁ B hml hv
  obtain ⟨rfl, hsz, hP, hK, hD0, hG⟩ := hv
  have hx := B.exec
  have hb := B.bytes
  have hr := B.returns
  have hts := atoms_spec (ws := (oh_w yX7_feed cX7_feed 4 (some .int))) B.pre
  have htg : ∀ w ∈ oh_t, w.before _ s = true := fun w h => hts w (List.mem_cons_of_mem _ h)
  have hown : s.vm.findClass RX7 = some m.cls := findClass_of_methodNamed B.named
  have hlocks := B.notSynchronized
  have hT0 := hT
  subst hsz
  have hD := hD0.self (sz := s.heap.size)
  generalize hAe : va_A (oh_W n a C) s.heap.size = A at hD hG ⊢
  have hA : ∀ q : Nat, s.heap.size ≤ q → A q := fun q h => by rw [← hAe]; exact Or.inr h
  have hS : va_S A s.heap s.heap [] := va_S.rf
  have hF : fr [(7, 8), (8, 9)] [7] C C := fr_rf
  have hl := lv_entry ([.ref (a 0), .int x1, .int x2]) (n := 4) (Nat.le_of_ble_eq_true rfl)
  rw [lg_entry_eq]
  generalize (lg_sl ([.ref (a 0), .int x1, .int x2]) ++ List.replicate (4 - (lg_sl ([.ref (a 0), .int x1, .int x2])).length) Slot.unset).toArray = ls at hl ⊢
  have hl : lv_has ls 4 [(0, .ref (a 0)), (1, .int x1), (2, .int x2)] := hl
  refine oh_genQ (fun Q hQ => ?_)
  refine lv_iload_n hx hb dX7_feed_0 rfl (lv_at hl 2 rfl) ?_
  refine lv_i2l (v := Int32.toInt64 x2) hx hb dX7_feed_1 (by rfl) ?_
  refine lv_lconst (v := 1) hx hb dX7_feed_2 (by decide) ?_
  refine lv_ldc2 (v := 4) hx hb hown (htg _ q_1069) dX7_feed_3 ?_
  refine tq_S (As := [.long (Int32.toInt64 x2), .long 1, .long 4]) (rest := []) (ws := []) ⟨hx, hb, hml, hown, htg⟩ (c_X7_in l D E G (Int32.toInt64 x2) (1 : Int64) (4 : Int64)) (va_cwS 3 htg (oh_gS q_1066 q_1067 q_73 q_1068) rfl rfl rfl pdX7_in ⟨Nat.le_of_ble_eq_true rfl, Nat.le_of_ble_eq_true rfl⟩) hK va_nil hG hS rfl hl.1 rfl (Nat.le_of_ble_eq_true rfl) dX7_feed_6 ⟨Nat.le_of_ble_eq_true rfl, Nat.le_of_ble_eq_true rfl⟩ (fun r_1 hq_2 => ?_)
  refine lv_if_ne (tgt := 19) hx hb dX7_feed_9 (by decide) (fun (c_3 : ¬ (r_1 = 0)) => ?_) (fun (c_3 : r_1 = 0) => ?_)
  · have u_4 := hq_2.2.1 c_3
    refine lv_iload_n hx hb dX7_feed_19 rfl (lv_at hl 2 rfl) ?_
    refine lv_sipush (v := 250) hx hb dX7_feed_20 (by decide) ?_
    refine lv_aload_n hx hb dX7_feed_23 rfl (lv_at hl 0 rfl) ?_
    refine va_get (D := D) (ci := 7) (v := .int (gi (C 0) 7)) (C := RX7) (T := TX7) (N := 29) hx hb htg ig_7 hown hK hP 0 (oh_wg (Nat.lt_of_lt_of_le (by decide) hn) (sM_0 hT)) rfl 7 (by decide) (htg _ q_980) (fun _ h9 => h9) rfl dX7_feed_24 ?_
    refine lv_isub hx hb dX7_feed_27 ?_
    refine lv_icmp_le (tgt := 38) hx hb dX7_feed_28 (by decide) (fun (c_5 : x2 ≤ (250 - (gi (C 0) 7))) => ?_) (fun (c_5 : ¬ (x2 ≤ (250 - (gi (C 0) 7)))) => ?_)
    · refine lv_iload_n hx hb dX7_feed_38 rfl (lv_at hl 2 rfl) ?_
      refine lv_iconst (v := 1) hx hb dX7_feed_39 (by decide) ?_
      refine lv_isub hx hb dX7_feed_40 ?_
      refine lv_istore_n (lv' := [(3, .int (x2 - 1)), (0, .ref (a 0)), (1, .int x1), (2, .int x2)]) hx hb dX7_feed_41 rfl hl (by decide) rfl (fun ls hl => ?_)
      have L_42 : ∀ (d : Nat) (K42 : Nat → va_E) (z42_3 : Int32) (H : Heap) (locs : List Loc) (ls : Array Slot), (z42_3.toInt + 1).toNat = d → rg z42_3 (-1) 3 → ((gi (K42 0) 7).toInt + z42_3.toInt = (gi (C 0) 7).toInt + x2.toInt - 1) → (fedZ x1 (z42_3.toInt + 1).toNat (ga (K42 7)) (gi (K42 0) 7).toNatClampNeg = fedZ x1 x2.toInt.toNat (ga (C 7)) (gi (C 0) 7).toNatClampNeg) → TyM a E K42 → fr [(7, 8), (8, 9)] [7] C K42 → fr [(7, 8)] [7] C K42 → va_P D vwCl (oh_W n a K42) H → va_D A (oh_W n a K42) → va_S A s.heap H locs → lv_has ls 4 [(3, .int z42_3), (0, .ref (a 0)), (1, .int x1), (2, .int x2)] → W p l e ({ frames := 1, cells := 0, slots := 0, locals := 25 }) s m (([.ref (a 0), .int x1, .int x2] : List Value).toArray) below meth c H locs 0 0 Q (F0 m 42 ls []) := by
        intro d
        induction d using Nat.strongRecOn with
        | ind d ih_42 =>
        intro K42 z42_3 H locs ls hd_42 hz42_3 hv_42 hb_42 hT hF hLF_42 hP hD hS hl
        have t_6 := hT
        refine lv_iload_n hx hb dX7_feed_42 rfl (lv_at hl 0 rfl) ?_
        refine lv_if_lt (tgt := 78) hx hb dX7_feed_43 (by decide) (fun (c_7 : z42_3 < 0) => ?_) (fun (c_7 : ¬ (z42_3 < 0)) => ?_)
        · refine lv_aload_n hx hb dX7_feed_78 rfl (lv_at hl 1 rfl) ?_
          refine va_get (D := D) (ci := 7) (v := .int (gi (K42 0) 7)) (C := RX7) (T := TX7) (N := 29) hx hb htg ig_7 hown hK hP 0 (oh_wg (Nat.lt_of_lt_of_le (by decide) hn) (sM_0 hT)) rfl 7 (by decide) (htg _ q_980) (fun _ h9 => h9) rfl dX7_feed_79 ?_
          rw [hQ]
          exact W.iret (v := gi (K42 0) 7) hx hb hr (fun t ht hW => ⟨⟨gi (K42 0) 7, K42, rfl, ⟨hT, hF, ⟨⟨hR.1.fr hF (by decide), hR.2.fr hF (by decide)⟩, (oh_fd3 (fM_0_7 hT0) (oh_rgI (p := 1) (q := 4) (rg_w (lo := 1) (hi := 4) (rg_il (rgL_i (rg_il (rnL_leu u_4.2 (rnL_lel u_4.1 (rgL_c (v := 1) (lo := 1) (hi := 1) (by decide)) (rgL_i (rg_any _))) (rgL_c (v := 4) (lo := 4) (hi := 4) (by decide)))))) (by decide))).1 (oh_rgI (p := 1) (q := 4) (rg_w (lo := 1) (hi := 4) (rg_il (rgL_i (rg_il (rnL_leu u_4.2 (rnL_lel u_4.1 (rgL_c (v := 1) (lo := 1) (hi := 1) (by decide)) (rgL_i (rg_any _))) (rgL_c (v := 4) (lo := 4) (hi := 4) (by decide)))))) (by decide))).2 (oh_fle (fM_0_7 hT0) (rg_w (lo := 1) (hi := 4) (rg_il (rgL_i (rg_il (rnL_leu u_4.2 (rnL_lel u_4.1 (rgL_c (v := 1) (lo := 1) (hi := 1) (by decide)) (rgL_i (rg_any _))) (rgL_c (v := 4) (lo := 4) (hi := 4) (by decide)))))) (by decide)) c_5) (by have h7 := (rn_ltu (u' := (-1)) c_7 hz42_3 (rg_c (v := 0) (lo := 0) (hi := 0) (by decide)) (by decide)); have h8 := h7.1; have h9 := h7.2; omega)), (oh_fz3 (fM_0_7 hT0) (oh_rgI (p := 1) (q := 4) (rg_w (lo := 1) (hi := 4) (rg_il (rgL_i (rg_il (rnL_leu u_4.2 (rnL_lel u_4.1 (rgL_c (v := 1) (lo := 1) (hi := 1) (by decide)) (rgL_i (rg_any _))) (rgL_c (v := 4) (lo := 4) (hi := 4) (by decide)))))) (by decide))).1 (oh_rgI (p := 1) (q := 4) (rg_w (lo := 1) (hi := 4) (rg_il (rgL_i (rg_il (rnL_leu u_4.2 (rnL_lel u_4.1 (rgL_c (v := 1) (lo := 1) (hi := 1) (by decide)) (rgL_i (rg_any _))) (rgL_c (v := 4) (lo := 4) (hi := 4) (by decide)))))) (by decide))).2 (oh_fle (fM_0_7 hT0) (rg_w (lo := 1) (hi := 4) (rg_il (rgL_i (rg_il (rnL_leu u_4.2 (rnL_lel u_4.1 (rgL_c (v := 1) (lo := 1) (hi := 1) (by decide)) (rgL_i (rg_any _))) (rgL_c (v := 4) (lo := 4) (hi := 4) (by decide)))))) (by decide)) c_5) (by have h7 := (rn_ltu (u' := (-1)) c_7 hz42_3 (rg_c (v := 0) (lo := 0) (hi := 0) (by decide)) (by decide)); have h8 := h7.1; have h9 := h7.2; omega)), (ff3 (Eq.trans (fz_e c_7).symm hb_42) (oh_rgI (p := 1) (q := 4) (rg_w (lo := 1) (hi := 4) (rg_il (rgL_i (rg_il (rnL_leu u_4.2 (rnL_lel u_4.1 (rgL_c (v := 1) (lo := 1) (hi := 1) (by decide)) (rgL_i (rg_any _))) (rgL_c (v := 4) (lo := 4) (hi := 4) (by decide)))))) (by decide))).1 (oh_rgI (p := 1) (q := 4) (rg_w (lo := 1) (hi := 4) (rg_il (rgL_i (rg_il (rnL_leu u_4.2 (rnL_lel u_4.1 (rgL_c (v := 1) (lo := 1) (hi := 1) (by decide)) (rgL_i (rg_any _))) (rgL_c (v := 4) (lo := 4) (hi := 4) (by decide)))))) (by decide))).2 (oh_fle (fM_0_7 hT0) (rg_w (lo := 1) (hi := 4) (rg_il (rgL_i (rg_il (rnL_leu u_4.2 (rnL_lel u_4.1 (rgL_c (v := 1) (lo := 1) (hi := 1) (by decide)) (rgL_i (rg_any _))) (rgL_c (v := 4) (lo := 4) (hi := 4) (by decide)))))) (by decide)) c_5))⟩⟩, ⟨by rw [ht]; exact hP, hD⟩⟩, hS.F ht⟩) hS.2.2 dX7_feed_82
        · refine lv_aload_n hx hb dX7_feed_46 rfl (lv_at hl 1 rfl) ?_
          refine va_get (D := D) (ci := 7) (v := .ref (a 7)) (C := RX7) (T := TX7) (N := 29) hx hb htg ig_7 hown hK hP 0 (oh_wg (Nat.lt_of_lt_of_le (by decide) hn) (sM_0 hT)) rfl 6 (by decide) (htg _ q_979) (fun _ h9 => h9) rfl dX7_feed_47 ?_
          refine lv_aload_n hx hb dX7_feed_50 rfl (lv_at hl 1 rfl) ?_
          refine lv_dup hx hb dX7_feed_51 rfl ?_
          refine va_get (D := D) (ci := 7) (v := .int (gi (K42 0) 7)) (C := RX7) (T := TX7) (N := 29) hx hb htg ig_7 hown hK hP 0 (oh_wg (Nat.lt_of_lt_of_le (by decide) hn) (sM_0 hT)) rfl 7 (by decide) (htg _ q_980) (fun _ h9 => h9) rfl dX7_feed_52 ?_
          refine lv_dup_x1 hx hb dX7_feed_55 rfl rfl ?_
          refine lv_iconst (v := 1) hx hb dX7_feed_56 (by decide) ?_
          refine lv_iadd hx hb dX7_feed_57 ?_
          refine th_put (Tp := TyM a E) (Rl := fr [(7, 8), (8, 9)] [7] C) (ci := 7) (v := .int ((gi (K42 0) 7) + 1)) (ty := .int) (CC := RX7) (T := TX7) (N := 29) hx hb htg ig_7 tyX7 tyX7_ok nmX7 hown hK hP hD hS 0 (Nat.lt_of_lt_of_le (by decide) hn) (sM_0 hT) rfl 7 (by decide) (htg _ q_980) (fun _ h9 => h9) rfl (by decide +kernel) rfl rfl (Nat.le_of_ble_eq_true rfl) (hT.up 0 (by decide) ⟨rfl, (rg_w (rg_add (lo := 1) (hi := 250) (l := 0) (u := 249) ⟨(fM_0_7 t_6).1, (oh_ap1 (rg_w (rn_lel (Int32.not_lt.mp c_7) (rg_c (v := 0) (lo := 0) (hi := 0) (by decide)) hz42_3) (by decide)) (fM_0_7 hT0) (rg_w (lo := 1) (hi := 4) (rg_il (rgL_i (rg_il (rnL_leu u_4.2 (rnL_lel u_4.1 (rgL_c (v := 1) (lo := 1) (hi := 1) (by decide)) (rgL_i (rg_any _))) (rgL_c (v := 4) (lo := 4) (hi := 4) (by decide)))))) (by decide)) (oh_fdp (fM_0_7 hT0) (oh_rgI (p := 1) (q := 4) (rg_w (lo := 1) (hi := 4) (rg_il (rgL_i (rg_il (rnL_leu u_4.2 (rnL_lel u_4.1 (rgL_c (v := 1) (lo := 1) (hi := 1) (by decide)) (rgL_i (rg_any _))) (rgL_c (v := 4) (lo := 4) (hi := 4) (by decide)))))) (by decide))).1 (oh_rgI (p := 1) (q := 4) (rg_w (lo := 1) (hi := 4) (rg_il (rgL_i (rg_il (rnL_leu u_4.2 (rnL_lel u_4.1 (rgL_c (v := 1) (lo := 1) (hi := 1) (by decide)) (rgL_i (rg_any _))) (rgL_c (v := 4) (lo := 4) (hi := 4) (by decide)))))) (by decide))).2 (oh_fle (fM_0_7 hT0) (rg_w (lo := 1) (hi := 4) (rg_il (rgL_i (rg_il (rnL_leu u_4.2 (rnL_lel u_4.1 (rgL_c (v := 1) (lo := 1) (hi := 1) (by decide)) (rgL_i (rg_any _))) (rgL_c (v := 4) (lo := 4) (hi := 4) (by decide)))))) (by decide)) c_5)) hv_42).2⟩ (rg_c (v := 1) (lo := 1) (hi := 1) (by decide)) (by decide)) (by decide)), (fM_0_9 hT), (fM_0_11 hT), (fM_0_13 hT), (fM_0_15 hT), (fM_0_21 hT), (fM_0_23 hT)⟩) (fr_fd hF (sM_0 hT) (by decide)) dX7_feed_58 (fun C_8 H locs e_9 hT hF hP hD hS => ?_)
          have t_10 := hT
          refine lv_iload_n hx hb dX7_feed_61 rfl (lv_at hl 2 rfl) ?_
          refine lv_bipush (v := 8) hx hb dX7_feed_62 (by decide) ?_
          refine lv_iload_n hx hb dX7_feed_64 rfl (lv_at hl 0 rfl) ?_
          refine lv_imul hx hb dX7_feed_65 ?_
          refine lv_ishr hx hb dX7_feed_66 ?_
          refine lv_sipush (v := 255) hx hb dX7_feed_67 (by decide) ?_
          refine lv_iand hx hb dX7_feed_70 ?_
          have n_11 : vp_in (gi (K42 0) 7) 250 := (rg_in (l := 0) (u := 249) ⟨(fM_0_7 t_6).1, (oh_ap1 (rg_w (rn_lel (Int32.not_lt.mp c_7) (rg_c (v := 0) (lo := 0) (hi := 0) (by decide)) hz42_3) (by decide)) (fM_0_7 hT0) (rg_w (lo := 1) (hi := 4) (rg_il (rgL_i (rg_il (rnL_leu u_4.2 (rnL_lel u_4.1 (rgL_c (v := 1) (lo := 1) (hi := 1) (by decide)) (rgL_i (rg_any _))) (rgL_c (v := 4) (lo := 4) (hi := 4) (by decide)))))) (by decide)) (oh_fdp (fM_0_7 hT0) (oh_rgI (p := 1) (q := 4) (rg_w (lo := 1) (hi := 4) (rg_il (rgL_i (rg_il (rnL_leu u_4.2 (rnL_lel u_4.1 (rgL_c (v := 1) (lo := 1) (hi := 1) (by decide)) (rgL_i (rg_any _))) (rgL_c (v := 4) (lo := 4) (hi := 4) (by decide)))))) (by decide))).1 (oh_rgI (p := 1) (q := 4) (rg_w (lo := 1) (hi := 4) (rg_il (rgL_i (rg_il (rnL_leu u_4.2 (rnL_lel u_4.1 (rgL_c (v := 1) (lo := 1) (hi := 1) (by decide)) (rgL_i (rg_any _))) (rgL_c (v := 4) (lo := 4) (hi := 4) (by decide)))))) (by decide))).2 (oh_fle (fM_0_7 hT0) (rg_w (lo := 1) (hi := 4) (rg_il (rgL_i (rg_il (rnL_leu u_4.2 (rnL_lel u_4.1 (rgL_c (v := 1) (lo := 1) (hi := 1) (by decide)) (rgL_i (rg_any _))) (rgL_c (v := 4) (lo := 4) (hi := 4) (by decide)))))) (by decide)) c_5)) hv_42).2⟩ (by decide))
          refine th_iast (T := TyM a E) (Rl := fr [(7, 8), (8, 9)] [7] C) hx hb hK hP hD hS 7 (Nat.lt_of_lt_of_le (by decide) hn) (sM_7 hT) n_11 (hT.up 7 (by decide) (tA_upd (tM_7 hT) tA_any)) (fr_st hF (by decide) (by decide)) dX7_feed_71 (fun C_12 H locs e_13 hT hF hP hD hS => ?_)
          have t_14 := hT
          refine lv_iinc (v := z42_3 + (-1)) (lv' := [(3, .int (z42_3 + (-1))), (0, .ref (a 0)), (1, .int x1), (2, .int x2)]) hx hb dX7_feed_72 hl (k := 0) rfl (by rfl) (by decide) rfl (fun ls hl => ?_)
          refine lv_goto (tgt := 42) hx hb dX7_feed_75 (by decide) ?_
          exact ih_42 _ (hd_42 ▸ mu_dn (rn_lel (Int32.not_lt.mp c_7) (rg_c (v := 0) (lo := 0) (hi := 0) (by decide)) hz42_3) (by decide)) C_12 (z42_3 + (-1)) _ _ ls rfl (rg_w (rg_add (lo := (-1)) (hi := 2) (rn_lel (Int32.not_lt.mp c_7) (rg_c (v := 0) (lo := 0) (hi := 0) (by decide)) hz42_3) (rg_c (v := (-1)) (lo := (-1)) (hi := (-1)) (by decide)) (by decide)) (by decide)) (by rw [(Eq.trans (congrArg (fun z => gi z 7) (th_un e_13 (by decide))) (show gi (C_8 0) 7 = ((gi (K42 0) 7) + 1) by rw [e_9]; rfl)), oh_add1 ⟨(fM_0_7 t_6).1, (oh_ap1 (rg_w (rn_lel (Int32.not_lt.mp c_7) (rg_c (v := 0) (lo := 0) (hi := 0) (by decide)) hz42_3) (by decide)) (fM_0_7 hT0) (rg_w (lo := 1) (hi := 4) (rg_il (rgL_i (rg_il (rnL_leu u_4.2 (rnL_lel u_4.1 (rgL_c (v := 1) (lo := 1) (hi := 1) (by decide)) (rgL_i (rg_any _))) (rgL_c (v := 4) (lo := 4) (hi := 4) (by decide)))))) (by decide)) (oh_fdp (fM_0_7 hT0) (oh_rgI (p := 1) (q := 4) (rg_w (lo := 1) (hi := 4) (rg_il (rgL_i (rg_il (rnL_leu u_4.2 (rnL_lel u_4.1 (rgL_c (v := 1) (lo := 1) (hi := 1) (by decide)) (rgL_i (rg_any _))) (rgL_c (v := 4) (lo := 4) (hi := 4) (by decide)))))) (by decide))).1 (oh_rgI (p := 1) (q := 4) (rg_w (lo := 1) (hi := 4) (rg_il (rgL_i (rg_il (rnL_leu u_4.2 (rnL_lel u_4.1 (rgL_c (v := 1) (lo := 1) (hi := 1) (by decide)) (rgL_i (rg_any _))) (rgL_c (v := 4) (lo := 4) (hi := 4) (by decide)))))) (by decide))).2 (oh_fle (fM_0_7 hT0) (rg_w (lo := 1) (hi := 4) (rg_il (rgL_i (rg_il (rnL_leu u_4.2 (rnL_lel u_4.1 (rgL_c (v := 1) (lo := 1) (hi := 1) (by decide)) (rgL_i (rg_any _))) (rgL_c (v := 4) (lo := 4) (hi := 4) (by decide)))))) (by decide)) c_5)) hv_42).2⟩, oh_sub1 (rg_w (rn_lel (Int32.not_lt.mp c_7) (rg_c (v := 0) (lo := 0) (hi := 0) (by decide)) hz42_3) (by decide))]; omega) (Eq.trans (fz_s (rg_w (rn_lel (Int32.not_lt.mp c_7) (rg_c (v := 0) (lo := 0) (hi := 0) (by decide)) hz42_3) (by decide)) ⟨(fM_0_7 t_6).1, (oh_ap1 (rg_w (rn_lel (Int32.not_lt.mp c_7) (rg_c (v := 0) (lo := 0) (hi := 0) (by decide)) hz42_3) (by decide)) (fM_0_7 hT0) (rg_w (lo := 1) (hi := 4) (rg_il (rgL_i (rg_il (rnL_leu u_4.2 (rnL_lel u_4.1 (rgL_c (v := 1) (lo := 1) (hi := 1) (by decide)) (rgL_i (rg_any _))) (rgL_c (v := 4) (lo := 4) (hi := 4) (by decide)))))) (by decide)) (oh_fdp (fM_0_7 hT0) (oh_rgI (p := 1) (q := 4) (rg_w (lo := 1) (hi := 4) (rg_il (rgL_i (rg_il (rnL_leu u_4.2 (rnL_lel u_4.1 (rgL_c (v := 1) (lo := 1) (hi := 1) (by decide)) (rgL_i (rg_any _))) (rgL_c (v := 4) (lo := 4) (hi := 4) (by decide)))))) (by decide))).1 (oh_rgI (p := 1) (q := 4) (rg_w (lo := 1) (hi := 4) (rg_il (rgL_i (rg_il (rnL_leu u_4.2 (rnL_lel u_4.1 (rgL_c (v := 1) (lo := 1) (hi := 1) (by decide)) (rgL_i (rg_any _))) (rgL_c (v := 4) (lo := 4) (hi := 4) (by decide)))))) (by decide))).2 (oh_fle (fM_0_7 hT0) (rg_w (lo := 1) (hi := 4) (rg_il (rgL_i (rg_il (rnL_leu u_4.2 (rnL_lel u_4.1 (rgL_c (v := 1) (lo := 1) (hi := 1) (by decide)) (rgL_i (rg_any _))) (rgL_c (v := 4) (lo := 4) (hi := 4) (by decide)))))) (by decide)) c_5)) hv_42).2⟩ (Eq.trans (st_ga e_13) (congrArg (fun z => upd z _ _) (congrArg ga (th_un e_9 (by decide))))) (Eq.trans (congrArg (fun z => gi z 7) (th_un e_13 (by decide))) (show gi (C_8 0) 7 = ((gi (K42 0) 7) + 1) by rw [e_9]; rfl))) hb_42) hT hF (fr_ste (fr_fde hLF_42 e_9 (sM_0 t_6) (by decide)) e_13 (by decide) (by decide)) hP hD hS (lv_sub hl [0, 1, 2, 3] rfl)
      exact L_42 _ C (x2 - 1) _ _ ls rfl (rg_w (rg_sub (lo := 0) (hi := 3) (rg_il (rgL_i (rg_il (rnL_leu u_4.2 (rnL_lel u_4.1 (rgL_c (v := 1) (lo := 1) (hi := 1) (by decide)) (rgL_i (rg_any _))) (rgL_c (v := 4) (lo := 4) (hi := 4) (by decide)))))) (rg_c (v := 1) (lo := 1) (hi := 1) (by decide)) (by decide)) (by decide)) (by rw [oh_sub1' (rg_w (lo := 1) (hi := 4) (rg_il (rgL_i (rg_il (rnL_leu u_4.2 (rnL_lel u_4.1 (rgL_c (v := 1) (lo := 1) (hi := 1) (by decide)) (rgL_i (rg_any _))) (rgL_c (v := 4) (lo := 4) (hi := 4) (by decide)))))) (by decide))]; omega) (fz_0 (rg_w (lo := 1) (hi := 4) (rg_il (rgL_i (rg_il (rnL_leu u_4.2 (rnL_lel u_4.1 (rgL_c (v := 1) (lo := 1) (hi := 1) (by decide)) (rgL_i (rg_any _))) (rgL_c (v := 4) (lo := 4) (hi := 4) (by decide)))))) (by decide))) hT hF fr_rf hP hD hS (lv_sub hl [0, 1, 2, 3] rfl)
    · refine lv_aload_n hx hb dX7_feed_31 rfl (lv_at hl 0 rfl) ?_
      refine lv_bipush (v := (-6)) hx hb dX7_feed_32 (by decide) ?_
      refine tm_V (As := [.int (-6)]) (rest := []) ⟨hx, hb, hml, hown, htg⟩ (c_X7_refuse l D E G _ a C n hn hT ((-6) : Int32) (rg_w (rg_c (v := (-6)) (lo := (-6)) (hi := (-6)) (by decide)) (by decide))) (cwV 1 htg (oh_gV q_1071 q_1073 q_29 q_73 q_1074) rfl rfl rfl pdVX7_refuse ⟨Nat.le_of_ble_eq_true rfl, Nat.le_of_ble_eq_true rfl⟩) hK hP hD hG hS hA (va_recv hK hP (ci := 7) (q0 := 0) rfl (oh_wg (Nat.lt_of_lt_of_le (by decide) hn) (sM_0 hT))) rfl hl.1 rfl (Nat.le_of_ble_eq_true rfl) dX7_feed_34 ⟨Nat.le_of_ble_eq_true rfl, Nat.le_of_ble_eq_true rfl⟩ (fun r_15 C_16 H locs hq_17 hP hD hS => ?_)
      obtain ⟨hT, f_18, hq_17⟩ := hq_17
      have hF := fr_tr hF f_18 (by decide) (by decide)
      refine W.widen (k := 0) (n := 0) (Nat.le_refl _) (Nat.le_refl _) ?_
      have t_19 := hT
      rw [hQ]
      exact W.iret (v := r_15) hx hb hr (fun t ht hW => ⟨⟨r_15, C_16, rfl, ⟨hT, hF, ⟨⟨hR.1.fr hF (by decide), hR.2.fr hF (by decide)⟩, (oh_fd2 hq_17 (oh_rgI (p := 1) (q := 4) (rg_w (lo := 1) (hi := 4) (rg_il (rgL_i (rg_il (rnL_leu u_4.2 (rnL_lel u_4.1 (rgL_c (v := 1) (lo := 1) (hi := 1) (by decide)) (rgL_i (rg_any _))) (rgL_c (v := 4) (lo := 4) (hi := 4) (by decide)))))) (by decide))).1 (oh_rgI (p := 1) (q := 4) (rg_w (lo := 1) (hi := 4) (rg_il (rgL_i (rg_il (rnL_leu u_4.2 (rnL_lel u_4.1 (rgL_c (v := 1) (lo := 1) (hi := 1) (by decide)) (rgL_i (rg_any _))) (rgL_c (v := 4) (lo := 4) (hi := 4) (by decide)))))) (by decide))).2 (oh_flt (fM_0_7 hT0) (rg_w (lo := 1) (hi := 4) (rg_il (rgL_i (rg_il (rnL_leu u_4.2 (rnL_lel u_4.1 (rgL_c (v := 1) (lo := 1) (hi := 1) (by decide)) (rgL_i (rg_any _))) (rgL_c (v := 4) (lo := 4) (hi := 4) (by decide)))))) (by decide)) (Int32.not_le.mp c_5))), (oh_fz2 (congrArg vi (f_18.2 7 (by decide))) (oh_rgI (p := 1) (q := 4) (rg_w (lo := 1) (hi := 4) (rg_il (rgL_i (rg_il (rnL_leu u_4.2 (rnL_lel u_4.1 (rgL_c (v := 1) (lo := 1) (hi := 1) (by decide)) (rgL_i (rg_any _))) (rgL_c (v := 4) (lo := 4) (hi := 4) (by decide)))))) (by decide))).1 (oh_rgI (p := 1) (q := 4) (rg_w (lo := 1) (hi := 4) (rg_il (rgL_i (rg_il (rnL_leu u_4.2 (rnL_lel u_4.1 (rgL_c (v := 1) (lo := 1) (hi := 1) (by decide)) (rgL_i (rg_any _))) (rgL_c (v := 4) (lo := 4) (hi := 4) (by decide)))))) (by decide))).2 (oh_flt (fM_0_7 hT0) (rg_w (lo := 1) (hi := 4) (rg_il (rgL_i (rg_il (rnL_leu u_4.2 (rnL_lel u_4.1 (rgL_c (v := 1) (lo := 1) (hi := 1) (by decide)) (rgL_i (rg_any _))) (rgL_c (v := 4) (lo := 4) (hi := 4) (by decide)))))) (by decide)) (Int32.not_le.mp c_5))), (ff2 (congrArg ga (f_18.1 7 rfl (by decide))) (oh_rgI (p := 1) (q := 4) (rg_w (lo := 1) (hi := 4) (rg_il (rgL_i (rg_il (rnL_leu u_4.2 (rnL_lel u_4.1 (rgL_c (v := 1) (lo := 1) (hi := 1) (by decide)) (rgL_i (rg_any _))) (rgL_c (v := 4) (lo := 4) (hi := 4) (by decide)))))) (by decide))).1 (oh_rgI (p := 1) (q := 4) (rg_w (lo := 1) (hi := 4) (rg_il (rgL_i (rg_il (rnL_leu u_4.2 (rnL_lel u_4.1 (rgL_c (v := 1) (lo := 1) (hi := 1) (by decide)) (rgL_i (rg_any _))) (rgL_c (v := 4) (lo := 4) (hi := 4) (by decide)))))) (by decide))).2 (oh_flt (fM_0_7 hT0) (rg_w (lo := 1) (hi := 4) (rg_il (rgL_i (rg_il (rnL_leu u_4.2 (rnL_lel u_4.1 (rgL_c (v := 1) (lo := 1) (hi := 1) (by decide)) (rgL_i (rg_any _))) (rgL_c (v := 4) (lo := 4) (hi := 4) (by decide)))))) (by decide)) (Int32.not_le.mp c_5)))⟩⟩, ⟨by rw [ht]; exact hP, hD⟩⟩, hS.F ht⟩) hS.2.2 dX7_feed_37
  · have u_20 := hq_2.2.2 c_3
    refine lv_aload_n hx hb dX7_feed_12 rfl (lv_at hl 0 rfl) ?_
    refine lv_bipush (v := (-2)) hx hb dX7_feed_13 (by decide) ?_
    refine tm_V (As := [.int (-2)]) (rest := []) ⟨hx, hb, hml, hown, htg⟩ (c_X7_refuse l D E G _ a C n hn hT ((-2) : Int32) (rg_w (rg_c (v := (-2)) (lo := (-2)) (hi := (-2)) (by decide)) (by decide))) (cwV 1 htg (oh_gV q_1071 q_1073 q_29 q_73 q_1074) rfl rfl rfl pdVX7_refuse ⟨Nat.le_of_ble_eq_true rfl, Nat.le_of_ble_eq_true rfl⟩) hK hP hD hG hS hA (va_recv hK hP (ci := 7) (q0 := 0) rfl (oh_wg (Nat.lt_of_lt_of_le (by decide) hn) (sM_0 hT))) rfl hl.1 rfl (Nat.le_of_ble_eq_true rfl) dX7_feed_15 ⟨Nat.le_of_ble_eq_true rfl, Nat.le_of_ble_eq_true rfl⟩ (fun r_21 C_22 H locs hq_23 hP hD hS => ?_)
    obtain ⟨hT, f_24, hq_23⟩ := hq_23
    have hF := fr_tr hF f_24 (by decide) (by decide)
    refine W.widen (k := 0) (n := 0) (Nat.le_refl _) (Nat.le_refl _) ?_
    have t_25 := hT
    rw [hQ]
    exact W.iret (v := r_21) hx hb hr (fun t ht hW => ⟨⟨r_21, C_22, rfl, ⟨hT, hF, ⟨⟨hR.1.fr hF (by decide), hR.2.fr hF (by decide)⟩, (oh_fd1 hq_23 (oh_in64 (l' := 1) (k' := 4) rfl rfl u_20)), (oh_fz1 (congrArg vi (f_24.2 7 (by decide))) (oh_in64 (l' := 1) (k' := 4) rfl rfl u_20)), (ff1 (congrArg ga (f_24.1 7 rfl (by decide))) (oh_in64 (l' := 1) (k' := 4) rfl rfl u_20))⟩⟩, ⟨by rw [ht]; exact hP, hD⟩⟩, hS.F ht⟩) hS.2.2 dX7_feed_18
