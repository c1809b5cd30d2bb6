/-! EXACT: bytes that are fed -/
def bytOf (v z : Int32) : Int32 := (v >>> ((8 * z) &&& 31)) &&& 255
def fedZ (v : Int32) : Nat → (Nat → Int32) → Nat → (Nat → Int32)
  | 0, f, _ => f
  | k + 1, f, s => fedZ v k (upd f s (bytOf v (Int32.ofNat k))) (s + 1)
theorem fedZ_s {v : Int32} {k s : Nat} {f : Nat → Int32} : fedZ v (k + 1) f s = fedZ v k (upd f s (bytOf v (Int32.ofNat k))) (s + 1) := rfl
theorem ofc3 {z : Int32} (h : rg z 0 3) : Int32.ofNat z.toNatClampNeg = z := by
  refine Int32.toInt_inj.mp ?_
  have e := oh_nat h (by decide)
  have e2 : (Int32.ofNat z.toNatClampNeg).toInt = (z.toNatClampNeg : Int) := nI_toInt (by have := h.2; omega)
  rw [e2, e]
theorem fz_s {v z s s2 : Int32} {f f2 : Nat → Int32} (hz : rg z 0 3) (hs : rg s 0 249) (e : f2 = upd f s.toNatClampNeg (bytOf v z)) (es : s2 = s + 1) : fedZ v ((z + (-1)).toInt + 1).toNat f2 s2.toNatClampNeg = fedZ v (z.toInt + 1).toNat f s.toNatClampNeg := by
  have e1 := oh_sub1 (z := z) (rg_w hz (by decide))
  have e2 : s2.toNatClampNeg = s.toNatClampNeg + 1 := by
    show s2.toInt.toNat = s.toInt.toNat + 1
    rw [es, oh_add1 hs]
    have := hs.1
    omega
  have e3 := oh_nat hz (by decide)
  have e4 := ofc3 hz
  rw [e2, e, e1, show (z.toInt + 1).toNat = z.toNatClampNeg + 1 by omega, show (z.toInt - 1 + 1).toNat = z.toNatClampNeg by omega, fedZ_s, e4]
theorem fz_0 {v n s : Int32} {f : Nat → Int32} (hn : rg n 1 4) : fedZ v ((n - 1).toInt + 1).toNat f s.toNatClampNeg = fedZ v n.toInt.toNat f s.toNatClampNeg := by
  rw [oh_sub1' hn, show (n.toInt - 1 + 1).toNat = n.toInt.toNat by omega]
theorem fz_e {v z s : Int32} {f : Nat → Int32} (c : z < 0) : fedZ v (z.toInt + 1).toNat f s.toNatClampNeg = f := by
  have h := Int32.lt_iff_toInt_lt.mp c
  have c0 : (0 : Int32).toInt = 0 := rfl
  rw [show (z.toInt + 1).toNat = 0 by omega]
  rfl
noncomputable def fedF (f : Nat → Int32) (s v n : Int32) : Nat → Int32 := if ¬ ((1 : Int32) ≤ n ∧ n ≤ 4) then f else if (250 : Int32) < s + n then f else fedZ v n.toInt.toNat f s.toNatClampNeg
theorem ff1 {f g : Nat → Int32} {s v n : Int32} (e : g = f) (h : ¬ ((1 : Int32) ≤ n ∧ n ≤ 4)) : g = fedF f s v n := by rw [e]; exact (if_pos h).symm
theorem ff2 {f g : Nat → Int32} {s v n : Int32} (e : g = f) (h1 : (1 : Int32) ≤ n) (h2 : n ≤ 4) (c : (250 : Int32) < s + n) : g = fedF f s v n := by
  rw [e]
  unfold fedF
  rw [if_neg (fun q => q ⟨h1, h2⟩), if_pos c]
theorem ff3 {f g : Nat → Int32} {s v n : Int32} (e : g = fedZ v n.toInt.toNat f s.toNatClampNeg) (h1 : (1 : Int32) ≤ n) (h2 : n ≤ 4) (c : s + n ≤ (250 : Int32)) : g = fedF f s v n := by
  unfold fedF
  rw [if_neg (fun q => q ⟨h1, h2⟩), if_neg (fun q => absurd q (Int32.not_lt.mpr c))]
  exact e

set_option maxHeartbeats 4000000 in
set_option maxRecDepth 100000 in
theorem e_X4_append (l : Launch) (D : va_G) (E : Nat → ClassId) (G : Nat → Nat) (sz : Nat) (a : Nat → Nat) (C : Nat → va_E) (hT : TyX a E C) (x1 : Int32) (x2 : Int32) (hx2 : rg x2 1 4) (hp : (gi (C 5) 1).toInt + x2.toInt ≤ 250) : Met l yX4_append (oh_w yX4_append cX4_append 4 none) ({ frames := 0, cells := 0, slots := 0, locals := 0 }) (oh_Pm D E G [.ref (a 5), .int x1, .int x2] (oh_W 35 a C) sz) (va_Qv (fun (u : Nat → va_E) => TyX a E u ∧ fr [(5, 6), (32, 33)] [] C u ∧ ((gi (u 5) 1).toInt = (gi (C 5) 1).toInt + x2.toInt) ∧ (ga (u 32) = fedZ x1 x2.toInt.toNat (ga (C 32)) (gi (C 5) 1).toNatClampNeg)) (oh_B D (va_A (oh_W 35 a C) sz) (fun u => oh_W 35 a u)) (va_A (oh_W 35 a C) sz)) 0 0 (va_A (oh_W 35 a C) sz) := by
  refine Met.ofW (cc := cX4_append) (maxL := 4) (ret := none) (by decide) rfl ?_
  intro p e s m args below meth c s₁ B hml hv
  obtain ⟨rfl, hsz, hP, hK, hD0, hG⟩ := hv
  have hx := B.exec
  have hb := B.bytes
  have hr := B.returns
  have hts := atoms_spec (ws := (oh_w yX4_append cX4_append 4 none)) B.pre
  have htg : ∀ w ∈ oh_t, w.before _ s = true := fun w h => hts w (List.mem_cons_of_mem _ h)
  have hown : s.vm.findClass RX4 = some m.cls := findClass_of_methodNamed B.named
  have hlocks := B.notSynchronized
  have hT0 := hT
  subst hsz
  have hD := hD0.self (sz := s.heap.size)
  generalize hAe : va_A (oh_W 35 a C) s.heap.size = A at hD hG ⊢
  have hA : ∀ q : Nat, s.heap.size ≤ q → A q := fun q h => by rw [← hAe]; exact Or.inr h
  have hS : va_S A s.heap s.heap [] := va_S.rf
  have hF : fr [(5, 6), (32, 33)] [] C C := fr_rf
  have hl := lv_entry ([.ref (a 5), .int x1, .int x2]) (n := 4) (Nat.le_of_ble_eq_true rfl)
  rw [lg_entry_eq]
  generalize (lg_sl ([.ref (a 5), .int x1, .int x2]) ++ List.replicate (4 - (lg_sl ([.ref (a 5), .int x1, .int x2])).length) Slot.unset).toArray = ls at hl ⊢
  have hl : lv_has ls 4 [(0, .ref (a 5)), (1, .int x1), (2, .int x2)] := hl
  refine oh_genQ (fun Q hQ => ?_)
  refine lv_iload_n hx hb dX4_append_0 rfl (lv_at hl 2 rfl) ?_
  refine lv_iconst (v := 1) hx hb dX4_append_1 (by decide) ?_
  refine lv_isub hx hb dX4_append_2 ?_
  refine lv_istore_n (lv' := [(3, .int (x2 - 1)), (0, .ref (a 5)), (1, .int x1), (2, .int x2)]) hx hb dX4_append_3 rfl hl (by decide) rfl (fun ls hl => ?_)
  have L_4 : ∀ (d : Nat) (K4 : Nat → va_E) (z4_3 : Int32) (H : Heap) (locs : List Loc) (ls : Array Slot), (z4_3.toInt + 1).toNat = d → rg z4_3 (-1) 3 → ((gi (K4 5) 1).toInt + z4_3.toInt = (gi (C 5) 1).toInt + x2.toInt - 1) → (fedZ x1 (z4_3.toInt + 1).toNat (ga (K4 32)) (gi (K4 5) 1).toNatClampNeg = fedZ x1 x2.toInt.toNat (ga (C 32)) (gi (C 5) 1).toNatClampNeg) → TyX a E K4 → fr [(5, 6), (32, 33)] [] C K4 → fr [(5, 6), (32, 33)] [] C K4 → va_P D vwCl (oh_W 35 a K4) H → va_D A (oh_W 35 a K4) → va_S A s.heap H locs → lv_has ls 4 [(3, .int z4_3), (0, .ref (a 5)), (1, .int x1), (2, .int x2)] → W p l e ({ frames := 0, cells := 0, slots := 0, locals := 0 }) s m (([.ref (a 5), .int x1, .int x2] : List Value).toArray) below meth c H locs 0 0 Q (F0 m 4 ls []) := by
    intro d
    induction d using Nat.strongRecOn with
    | ind d ih_4 =>
    intro K4 z4_3 H locs ls hd_4 hz4_3 hv_4 hb_4 hT hF hLF_4 hP hD hS hl
    have t_1 := hT
    refine lv_iload_n hx hb dX4_append_4 rfl (lv_at hl 0 rfl) ?_
    refine lv_if_lt (tgt := 43) hx hb dX4_append_5 (by decide) (fun (c_2 : z4_3 < 0) => ?_) (fun (c_2 : ¬ (z4_3 < 0)) => ?_)
    · rw [hQ]
      exact W.vret hx hb hr (fun t ht hW => ⟨⟨K4, rfl, ⟨hT, hF, ⟨(by have h7 := (rn_ltu (u' := (-1)) c_2 hz4_3 (rg_c (v := 0) (lo := 0) (hi := 0) (by decide)) (by decide)); have h8 := h7.1; have h9 := h7.2; omega), (Eq.trans (fz_e c_2).symm hb_4)⟩⟩, ⟨by rw [ht]; exact hP, hD⟩⟩, hS.F ht⟩) hS.2.2 dX4_append_43
    · refine lv_aload_n hx hb dX4_append_8 rfl (lv_at hl 1 rfl) ?_
      refine va_get (D := D) (ci := 4) (v := .ref (a 32)) (C := RX4) (T := TX4) (N := 6) hx hb htg ig_4 hown hK hP 5 (oh_wg (by decide) (sX_5 hT)) rfl 0 (by decide) (htg _ q_217) (fun _ h9 => h9) rfl dX4_append_9 ?_
      refine lv_aload_n hx hb dX4_append_12 rfl (lv_at hl 1 rfl) ?_
      refine va_get (D := D) (ci := 4) (v := .int (gi (K4 5) 1)) (C := RX4) (T := TX4) (N := 6) hx hb htg ig_4 hown hK hP 5 (oh_wg (by decide) (sX_5 hT)) rfl 1 (by decide) (htg _ q_218) (fun _ h9 => h9) rfl dX4_append_13 ?_
      refine lv_iload_n hx hb dX4_append_16 rfl (lv_at hl 2 rfl) ?_
      refine lv_bipush (v := 8) hx hb dX4_append_17 (by decide) ?_
      refine lv_iload_n hx hb dX4_append_19 rfl (lv_at hl 0 rfl) ?_
      refine lv_imul hx hb dX4_append_20 ?_
      refine lv_ishr hx hb dX4_append_21 ?_
      refine lv_sipush (v := 255) hx hb dX4_append_22 (by decide) ?_
      refine lv_iand hx hb dX4_append_25 ?_
      have n_3 : vp_in (gi (K4 5) 1) 250 := (rg_in (l := 0) (u := 249) ⟨(fX_5_1 t_1).1, (oh_ap1 (rg_w (rn_lel (Int32.not_lt.mp c_2) (rg_c (v := 0) (lo := 0) (hi := 0) (by decide)) hz4_3) (by decide)) (fX_5_1 hT0) hx2 hp hv_4).2⟩ (by decide))
      refine th_iast (T := TyX a E) (Rl := fr [(5, 6), (32, 33)] [] C) hx hb hK hP hD hS 32 (by decide) (sX_32 hT) n_3 (hT.up 32 (tA_upd (tX_32 hT) tA_any)) (fr_st hF (by decide) (by decide)) dX4_append_26 (fun C_4 H locs e_5 hT hF hP hD hS => ?_)
      have t_6 := hT
      refine lv_aload_n hx hb dX4_append_27 rfl (lv_at hl 1 rfl) ?_
      refine lv_dup hx hb dX4_append_28 rfl ?_
      refine va_get (D := D) (ci := 4) (v := .int (gi (K4 5) 1)) (C := RX4) (T := TX4) (N := 6) hx hb htg ig_4 hown hK hP 5 (oh_wg (by decide) (sX_5 hT)) rfl 1 (by decide) (htg _ q_218) (fun _ h9 => h9) (oh_fv (c := C_4 5) (j := 1) rfl (congrArg (fun z => gi z 1) (th_un e_5 (by decide)))) dX4_append_29 ?_
      refine lv_iconst (v := 1) hx hb dX4_append_32 (by decide) ?_
      refine lv_iadd hx hb dX4_append_33 ?_
      refine th_put (Tp := TyX a E) (Rl := fr [(5, 6), (32, 33)] [] C) (ci := 4) (v := .int ((gi (K4 5) 1) + 1)) (ty := .int) (CC := RX4) (T := TX4) (N := 6) hx hb htg ig_4 tyX4 tyX4_ok nmX4 hown hK hP hD hS 5 (by decide) (sX_5 hT) rfl 1 (by decide) (htg _ q_218) (fun _ h9 => h9) rfl (by decide +kernel) rfl rfl (Nat.le_of_ble_eq_true rfl) (hT.up 5 ⟨rfl, (rg_w (rg_add (lo := 1) (hi := 250) (l := 0) (u := 249) ⟨(fX_5_1 t_1).1, (oh_ap1 (rg_w (rn_lel (Int32.not_lt.mp c_2) (rg_c (v := 0) (lo := 0) (hi := 0) (by decide)) hz4_3) (by decide)) (fX_5_1 hT0) hx2 hp hv_4).2⟩ (rg_c (v := 1) (lo := 1) (hi := 1) (by decide)) (by decide)) (by decide)), (fX_5_2 hT), (fX_5_4 hT), (fX_5_5 hT)⟩) (fr_st hF (by decide) (by decide)) dX4_append_34 (fun C_7 H locs e_8 hT hF hP hD hS => ?_)
      have t_9 := hT
      refine lv_iinc (v := z4_3 + (-1)) (lv' := [(3, .int (z4_3 + (-1))), (0, .ref (a 5)), (1, .int x1), (2, .int x2)]) hx hb dX4_append_37 hl (k := 0) rfl (by rfl) (by decide) rfl (fun ls hl => ?_)
      refine lv_goto (tgt := 4) hx hb dX4_append_40 (by decide) ?_
      exact ih_4 _ (hd_4 ▸ mu_dn (rn_lel (Int32.not_lt.mp c_2) (rg_c (v := 0) (lo := 0) (hi := 0) (by decide)) hz4_3) (by decide)) C_7 (z4_3 + (-1)) _ _ ls rfl (rg_w (rg_add (lo := (-1)) (hi := 2) (rn_lel (Int32.not_lt.mp c_2) (rg_c (v := 0) (lo := 0) (hi := 0) (by decide)) hz4_3) (rg_c (v := (-1)) (lo := (-1)) (hi := (-1)) (by decide)) (by decide)) (by decide)) (by rw [(show gi (C_7 5) 1 = ((gi (K4 5) 1) + 1) by rw [e_8]; rfl), oh_add1 ⟨(fX_5_1 t_1).1, (oh_ap1 (rg_w (rn_lel (Int32.not_lt.mp c_2) (rg_c (v := 0) (lo := 0) (hi := 0) (by decide)) hz4_3) (by decide)) (fX_5_1 hT0) hx2 hp hv_4).2⟩, oh_sub1 (rg_w (rn_lel (Int32.not_lt.mp c_2) (rg_c (v := 0) (lo := 0) (hi := 0) (by decide)) hz4_3) (by decide))]; omega) (Eq.trans (fz_s (rg_w (rn_lel (Int32.not_lt.mp c_2) (rg_c (v := 0) (lo := 0) (hi := 0) (by decide)) hz4_3) (by decide)) ⟨(fX_5_1 t_1).1, (oh_ap1 (rg_w (rn_lel (Int32.not_lt.mp c_2) (rg_c (v := 0) (lo := 0) (hi := 0) (by decide)) hz4_3) (by decide)) (fX_5_1 hT0) hx2 hp hv_4).2⟩ (Eq.trans (congrArg ga (th_un e_8 (by decide))) (st_ga e_5)) (show gi (C_7 5) 1 = ((gi (K4 5) 1) + 1) by rw [e_8]; rfl)) hb_4) hT hF (fr_ste (fr_ste hLF_4 e_5 (by decide) (by decide)) e_8 (by decide) (by decide)) hP hD hS (lv_sub hl [0, 1, 2, 3] rfl)
  exact L_4 _ C (x2 - 1) _ _ ls rfl (rg_w (rg_sub (lo := 0) (hi := 3) hx2 (rg_c (v := 1) (lo := 1) (hi := 1) (by decide)) (by decide)) (by decide)) (by rw [oh_sub1' hx2]; omega) (fz_0 hx2) hT hF fr_rf hP hD hS (lv_sub hl [0, 1, 2, 3] rfl)

set_option maxHeartbeats 4000000 in
set_option maxRecDepth 100000 in
theorem e_X6_feed (l : Launch) (D : va_G) (E : Nat → ClassId) (G : Nat → Nat) (sz : Nat) (a : Nat → Nat) (C : Nat → va_E) (hT : TyX a E C) (x1 : Int32) (x2 : Int32) : Met l yX6_feed (oh_w yX6_feed cX6_feed 3 (some .int)) ({ frames := 2, cells := 0, slots := 0, locals := 44 }) (oh_Pm D E G [.ref (a 0), .int x1, .int x2] (oh_W 35 a C) sz) (va_Qi (fun r (u : Nat → va_E) => TyX a E u ∧ fr [(5, 6), (7, 8), (32, 33)] [] C u ∧ (r = oh_feed (gi (C 5) 1) x2) ∧ (gi (u 5) 1 = oh_fsz (gi (C 5) 1) x2) ∧ (ga (u 32) = fedF (ga (C 32)) (gi (C 5) 1) x1 x2)) (oh_B D (va_A (oh_W 35 a C) sz) (fun u => oh_W 35 a u)) (va_A (oh_W 35 a C) sz)) 0 0 (va_A (oh_W 35 a C) sz) := by
  refine Met.ofW (cc := cX6_feed) (maxL := 3) (ret := (some .int)) (by decide) rfl ?_
  intro p e s m args below meth c s₁ B hml hv
  obtain ⟨rfl, hsz, hP, hK, hD0, hG⟩ := hv
  have hx := B.exec
  have hb := B.bytes
  have hr := B.returns
  have hts := atoms_spec (ws := (oh_w yX6_feed cX6_feed 3 (some .int))) B.pre
  have htg : ∀ w ∈ oh_t, w.before _ s = true := fun w h => hts w (List.mem_cons_of_mem _ h)
  have hown : s.vm.findClass RX6 = some m.cls := findClass_of_methodNamed B.named
  have hlocks := B.notSynchronized
  have hT0 := hT
  subst hsz
  have hD := hD0.self (sz := s.heap.size)
  generalize hAe : va_A (oh_W 35 a C) s.heap.size = A at hD hG ⊢
  have hA : ∀ q : Nat, s.heap.size ≤ q → A q := fun q h => by rw [← hAe]; exact Or.inr h
  have hS : va_S A s.heap s.heap [] := va_S.rf
  have hF : fr [(5, 6), (7, 8), (32, 33)] [] C C := fr_rf
  have hl := lv_entry ([.ref (a 0), .int x1, .int x2]) (n := 3) (Nat.le_of_ble_eq_true rfl)
  rw [lg_entry_eq]
  generalize (lg_sl ([.ref (a 0), .int x1, .int x2]) ++ List.replicate (3 - (lg_sl ([.ref (a 0), .int x1, .int x2])).length) Slot.unset).toArray = ls at hl ⊢
  have hl : lv_has ls 3 [(0, .ref (a 0)), (1, .int x1), (2, .int x2)] := hl
  refine oh_genQ (fun Q hQ => ?_)
  refine lv_iload_n hx hb dX6_feed_0 rfl (lv_at hl 2 rfl) ?_
  refine lv_iconst (v := 1) hx hb dX6_feed_1 (by decide) ?_
  refine lv_iconst (v := 4) hx hb dX6_feed_2 (by decide) ?_
  refine tq_S (As := [.int x2, .int 1, .int 4]) (rest := []) (ws := []) ⟨hx, hb, hml, hown, htg⟩ (c_X6_within l D E G x2 (1 : Int32) (4 : Int32)) (va_cwS 3 htg (oh_gS q_293 q_294 q_66 q_295) rfl rfl rfl pdX6_within ⟨Nat.le_of_ble_eq_true rfl, Nat.le_of_ble_eq_true rfl⟩) hK va_nil hG hS rfl hl.1 rfl (Nat.le_of_ble_eq_true rfl) dX6_feed_3 ⟨Nat.le_of_ble_eq_true rfl, Nat.le_of_ble_eq_true rfl⟩ (fun r_1 hq_2 => ?_)
  refine lv_if_ne (tgt := 16) hx hb dX6_feed_6 (by decide) (fun (c_3 : ¬ (r_1 = 0)) => ?_) (fun (c_3 : r_1 = 0) => ?_)
  · have u_4 := hq_2.2.1 c_3
    refine lv_aload_n hx hb dX6_feed_16 rfl (lv_at hl 0 rfl) ?_
    refine va_get (D := D) (ci := 6) (v := .ref (a 5)) (C := RX6) (T := TX6) (N := 9) hx hb htg ig_6 hown hK hP 0 (oh_wg (by decide) (sX_0 hT)) rfl 5 (by decide) (htg _ q_263) (fun _ h9 => h9) rfl dX6_feed_17 ?_
    refine va_get (D := D) (ci := 4) (v := .int (gi (C 5) 1)) (C := RX4) (T := TX4) (N := 6) hx hb htg ig_4 hown hK hP 5 (oh_wg (by decide) (sX_5 hT)) rfl 1 (by decide) (htg _ q_219) (fun _ h9 => h9) rfl dX6_feed_20 ?_
    refine lv_iload_n hx hb dX6_feed_23 rfl (lv_at hl 2 rfl) ?_
    refine lv_iadd hx hb dX6_feed_24 ?_
    refine lv_sipush (v := 250) hx hb dX6_feed_25 (by decide) ?_
    refine lv_icmp_le (tgt := 38) hx hb dX6_feed_28 (by decide) (fun (c_5 : ((gi (C 5) 1) + x2) ≤ 250) => ?_) (fun (c_5 : ¬ (((gi (C 5) 1) + x2) ≤ 250)) => ?_)
    · refine lv_aload_n hx hb dX6_feed_38 rfl (lv_at hl 0 rfl) ?_
      refine va_get (D := D) (ci := 6) (v := .ref (a 5)) (C := RX6) (T := TX6) (N := 9) hx hb htg ig_6 hown hK hP 0 (oh_wg (by decide) (sX_0 hT)) rfl 5 (by decide) (htg _ q_263) (fun _ h9 => h9) rfl dX6_feed_39 ?_
      refine lv_iload_n hx hb dX6_feed_42 rfl (lv_at hl 1 rfl) ?_
      refine lv_iload_n hx hb dX6_feed_43 rfl (lv_at hl 2 rfl) ?_
      refine tm_Vv (As := [.int x1, .int x2]) (rest := []) ⟨hx, hb, hml, hown, htg⟩ (e_X4_append l D E G _ a C hT x1 x2 (rg_w (rn_leu u_4.2 (rn_lel u_4.1 (rg_c (v := 1) (lo := 1) (hi := 1) (by decide)) (rg_any _)) (rg_c (v := 4) (lo := 4) (hi := 4) (by decide))) (by decide)) (oh_fdp (fX_5_1 hT) u_4.1 u_4.2 c_5)) (cwV 2 htg (oh_gV q_487 q_488 q_489 q_71 q_490) rfl rfl rfl pdVX4_append ⟨Nat.le_of_ble_eq_true rfl, Nat.le_of_ble_eq_true rfl⟩) hK hP hD hG hS hA (va_recv hK hP (ci := 4) (q0 := 5) rfl (oh_wg (by decide) (sX_5 hT))) rfl hl.1 rfl (Nat.le_of_ble_eq_true rfl) dX6_feed_44 ⟨Nat.le_of_ble_eq_true rfl, Nat.le_of_ble_eq_true rfl⟩ (fun C_7 H locs hq_8 hP hD hS => ?_)
      obtain ⟨hT, f_9, hq_8⟩ := hq_8
      have hF := fr_tr hF f_9 (by decide) (by decide)
      refine W.widen (k := 0) (n := 0) (Nat.le_refl _) (Nat.le_refl _) ?_
      have t_10 := hT
      refine lv_aload_n hx hb dX6_feed_47 rfl (lv_at hl 0 rfl) ?_
      refine va_get (D := D) (ci := 6) (v := .ref (a 5)) (C := RX6) (T := TX6) (N := 9) hx hb htg ig_6 hown hK hP 0 (oh_wg (by decide) (sX_0 hT)) rfl 5 (by decide) (htg _ q_263) (fun _ h9 => h9) rfl dX6_feed_48 ?_
      refine va_get (D := D) (ci := 4) (v := .int (gi (C_7 5) 1)) (C := RX4) (T := TX4) (N := 6) hx hb htg ig_4 hown hK hP 5 (oh_wg (by decide) (sX_5 hT)) rfl 1 (by decide) (htg _ q_219) (fun _ h9 => h9) rfl dX6_feed_51 ?_
      rw [hQ]
      exact W.iret (v := gi (C_7 5) 1) hx hb hr (fun t ht hW => ⟨⟨gi (C_7 5) 1, C_7, rfl, ⟨hT, hF, ⟨(oh_fd3 (fX_5_1 hT0) u_4.1 u_4.2 c_5 hq_8.1), (oh_fz3 (fX_5_1 hT0) u_4.1 u_4.2 c_5 hq_8.1), (ff3 hq_8.2 u_4.1 u_4.2 c_5)⟩⟩, ⟨by rw [ht]; exact hP, hD⟩⟩, hS.F ht⟩) hS.2.2 dX6_feed_54
    · refine lv_aload_n hx hb dX6_feed_31 rfl (lv_at hl 0 rfl) ?_
      refine lv_bipush (v := (-6)) hx hb dX6_feed_32 (by decide) ?_
      refine tm_V (As := [.int (-6)]) (rest := []) ⟨hx, hb, hml, hown, htg⟩ (c_X6_refuse l D E G _ a C hT ((-6) : Int32)) (cwV 1 htg (oh_gV q_296 q_298 q_0 q_66 q_299) rfl rfl rfl pdVX6_refuse ⟨Nat.le_of_ble_eq_true rfl, Nat.le_of_ble_eq_true rfl⟩) hK hP hD hG hS hA (va_recv hK hP (ci := 6) (q0 := 0) rfl (oh_wg (by decide) (sX_0 hT))) rfl hl.1 rfl (Nat.le_of_ble_eq_true rfl) dX6_feed_34 ⟨Nat.le_of_ble_eq_true rfl, Nat.le_of_ble_eq_true rfl⟩ (fun r_11 C_12 H locs hq_13 hP hD hS => ?_)
      obtain ⟨hT, f_14, hq_13⟩ := hq_13
      have hF := fr_tr hF f_14 (by decide) (by decide)
      refine W.widen (k := 0) (n := 0) (Nat.le_refl _) (Nat.le_refl _) ?_
      have t_15 := hT
      rw [hQ]
      exact W.iret (v := r_11) hx hb hr (fun t ht hW => ⟨⟨r_11, C_12, rfl, ⟨hT, hF, ⟨(oh_fd2 hq_13 u_4.1 u_4.2 (Int32.not_le.mp c_5)), (oh_fz2 (congrArg (fun z => gi z 1) (f_14.1 5 rfl (by decide))) u_4.1 u_4.2 (Int32.not_le.mp c_5)), (ff2 (congrArg ga (f_14.1 32 rfl (by decide))) u_4.1 u_4.2 (Int32.not_le.mp c_5))⟩⟩, ⟨by rw [ht]; exact hP, hD⟩⟩, hS.F ht⟩) hS.2.2 dX6_feed_37
  · have u_16 := hq_2.2.2 c_3
    refine lv_aload_n hx hb dX6_feed_9 rfl (lv_at hl 0 rfl) ?_
    refine lv_bipush (v := (-2)) hx hb dX6_feed_10 (by decide) ?_
    refine tm_V (As := [.int (-2)]) (rest := []) ⟨hx, hb, hml, hown, htg⟩ (c_X6_refuse l D E G _ a C hT ((-2) : Int32)) (cwV 1 htg (oh_gV q_296 q_298 q_0 q_66 q_299) rfl rfl rfl pdVX6_refuse ⟨Nat.le_of_ble_eq_true rfl, Nat.le_of_ble_eq_true rfl⟩) hK hP hD hG hS hA (va_recv hK hP (ci := 6) (q0 := 0) rfl (oh_wg (by decide) (sX_0 hT))) rfl hl.1 rfl (Nat.le_of_ble_eq_true rfl) dX6_feed_12 ⟨Nat.le_of_ble_eq_true rfl, Nat.le_of_ble_eq_true rfl⟩ (fun r_17 C_18 H locs hq_19 hP hD hS => ?_)
    obtain ⟨hT, f_20, hq_19⟩ := hq_19
    have hF := fr_tr hF f_20 (by decide) (by decide)
    refine W.widen (k := 0) (n := 0) (Nat.le_refl _) (Nat.le_refl _) ?_
    have t_21 := hT
    rw [hQ]
    exact W.iret (v := r_17) hx hb hr (fun t ht hW => ⟨⟨r_17, C_18, rfl, ⟨hT, hF, ⟨(oh_fd1 hq_19 u_16), (oh_fz1 (congrArg (fun z => gi z 1) (f_20.1 5 rfl (by decide))) u_16), (ff1 (congrArg ga (f_20.1 32 rfl (by decide))) u_16)⟩⟩, ⟨by rw [ht]; exact hP, hD⟩⟩, hS.F ht⟩) hS.2.2 dX6_feed_15

set_option maxHeartbeats 4000000 in
set_option maxRecDepth 100000 in
theorem e_X7_feed (l : Launch) (D : va_G) (E : Nat → ClassId) (G : Nat → Nat) (sz : Nat) (a : Nat → Nat) (C : Nat → va_E) (n : Nat) (hn : 74 ≤ n) (hT : TyM a E C) (x1 : Int32) (x2 : Int32) (hR : RelM C) : Met l yX7_feed (oh_w yX7_feed cX7_feed 4 (some .int)) ({ frames := 1, cells := 0, slots := 0, locals := 25 }) (oh_Pm D E G [.ref (a 0), .int x1, .int x2] (oh_W n a C) sz) (va_Qi (fun r (u : Nat → va_E) => TyM a E u ∧ fr [(7, 8), (8, 9)] [7] C u ∧ (RelM u) ∧ (r = oh_feed (gi (C 0) 7) x2) ∧ (gi (u 0) 7 = oh_fsz (gi (C 0) 7) x2) ∧ (ga (u 7) = fedF (ga (C 7)) (gi (C 0) 7) x1 x2)) (oh_B D (va_A (oh_W n a C) sz) (fun u => oh_W n a u)) (va_A (oh_W n a C) sz)) 0 0 (va_A (oh_W n a C) sz) := by
  refine Met.ofW (cc := cX7_feed) (maxL := 4) (ret := (some .int)) (by decide) rfl ?_
  intro p e s m args below meth c s₁ B hml hv
  obtain ⟨rfl, hsz, hP, hK, hD0, hG⟩ := hv
  have hx := B.exec
  have hb := B.bytes
  have hr := B.returns
  have hts := atoms_spec (ws := (oh_w yX7_feed cX7_feed 4 (some .int))) B.pre
  have htg : ∀ w ∈ oh_t, w.before _ s = true := fun w h => hts w (List.mem_cons_of_mem _ h)
  have hown : s.vm.findClass RX7 = some m.cls := findClass_of_methodNamed B.named
  have hlocks := B.notSynchronized
  have hT0 := hT
  subst hsz
  have hD := hD0.self (sz := s.heap.size)
  generalize hAe : va_A (oh_W n a C) s.heap.size = A at hD hG ⊢
  have hA : ∀ q : Nat, s.heap.size ≤ q → A q := fun q h => by rw [← hAe]; exact Or.inr h
  have hS : va_S A s.heap s.heap [] := va_S.rf
  have hF : fr [(7, 8), (8, 9)] [7] C C := fr_rf
  have hl := lv_entry ([.ref (a 0), .int x1, .int x2]) (n := 4) (Nat.le_of_ble_eq_true rfl)
  rw [lg_entry_eq]
  generalize (lg_sl ([.ref (a 0), .int x1, .int x2]) ++ List.replicate (4 - (lg_sl ([.ref (a 0), .int x1, .int x2])).length) Slot.unset).toArray = ls at hl ⊢
  have hl : lv_has ls 4 [(0, .ref (a 0)), (1, .int x1), (2, .int x2)] := hl
  refine oh_genQ (fun Q hQ => ?_)
  refine lv_iload_n hx hb dX7_feed_0 rfl (lv_at hl 2 rfl) ?_
  refine lv_i2l (v := Int32.toInt64 x2) hx hb dX7_feed_1 (by rfl) ?_
  refine lv_lconst (v := 1) hx hb dX7_feed_2 (by decide) ?_
  refine lv_ldc2 (v := 4) hx hb hown (htg _ q_1069) dX7_feed_3 ?_
  refine tq_S (As := [.long (Int32.toInt64 x2), .long 1, .long 4]) (rest := []) (ws := []) ⟨hx, hb, hml, hown, htg⟩ (c_X7_in l D E G (Int32.toInt64 x2) (1 : Int64) (4 : Int64)) (va_cwS 3 htg (oh_gS q_1066 q_1067 q_73 q_1068) rfl rfl rfl pdX7_in ⟨Nat.le_of_ble_eq_true rfl, Nat.le_of_ble_eq_true rfl⟩) hK va_nil hG hS rfl hl.1 rfl (Nat.le_of_ble_eq_true rfl) dX7_feed_6 ⟨Nat.le_of_ble_eq_true rfl, Nat.le_of_ble_eq_true rfl⟩ (fun r_1 hq_2 => ?_)
  refine lv_if_ne (tgt := 19) hx hb dX7_feed_9 (by decide) (fun (c_3 : ¬ (r_1 = 0)) => ?_) (fun (c_3 : r_1 = 0) => ?_)
  · have u_4 := hq_2.2.1 c_3
    refine lv_iload_n hx hb dX7_feed_19 rfl (lv_at hl 2 rfl) ?_
    refine lv_sipush (v := 250) hx hb dX7_feed_20 (by decide) ?_
    refine lv_aload_n hx hb dX7_feed_23 rfl (lv_at hl 0 rfl) ?_
    refine va_get (D := D) (ci := 7) (v := .int (gi (C 0) 7)) (C := RX7) (T := TX7) (N := 29) hx hb htg ig_7 hown hK hP 0 (oh_wg (Nat.lt_of_lt_of_le (by decide) hn) (sM_0 hT)) rfl 7 (by decide) (htg _ q_980) (fun _ h9 => h9) rfl dX7_feed_24 ?_
    refine lv_isub hx hb dX7_feed_27 ?_
    refine lv_icmp_le (tgt := 38) hx hb dX7_feed_28 (by decide) (fun (c_5 : x2 ≤ (250 - (gi (C 0) 7))) => ?_) (fun (c_5 : ¬ (x2 ≤ (250 - (gi (C 0) 7)))) => ?_)
    · refine lv_iload_n hx hb dX7_feed_38 rfl (lv_at hl 2 rfl) ?_
      refine lv_iconst (v := 1) hx hb dX7_feed_39 (by decide) ?_
      refine lv_isub hx hb dX7_feed_40 ?_
      refine lv_istore_n (lv' := [(3, .int (x2 - 1)), (0, .ref (a 0)), (1, .int x1), (2, .int x2)]) hx hb dX7_feed_41 rfl hl (by decide) rfl (fun ls hl => ?_)
      have L_42 : ∀ (d : Nat) (K42 : Nat → va_E) (z42_3 : Int32) (H : Heap) (locs : List Loc) (ls : Array Slot), (z42_3.toInt + 1).toNat = d → rg z42_3 (-1) 3 → ((gi (K42 0) 7).toInt + z42_3.toInt = (gi (C 0) 7).toInt + x2.toInt - 1) → (fedZ x1 (z42_3.toInt + 1).toNat (ga (K42 7)) (gi (K42 0) 7).toNatClampNeg = fedZ x1 x2.toInt.toNat (ga (C 7)) (gi (C 0) 7).toNatClampNeg) → TyM a E K42 → fr [(7, 8), (8, 9)] [7] C K42 → fr [(7, 8)] [7] C K42 → va_P D vwCl (oh_W n a K42) H → va_D A (oh_W n a K42) → va_S A s.heap H locs → lv_has ls 4 [(3, .int z42_3), (0, .ref (a 0)), (1, .int x1), (2, .int x2)] → W p l e ({ frames := 1, cells := 0, slots := 0, locals := 25 }) s m (([.ref (a 0), .int x1, .int x2] : List Value).toArray) below meth c H locs 0 0 Q (F0 m 42 ls []) := by
        intro d
        induction d using Nat.strongRecOn with
        | ind d ih_42 =>
        intro K42 z42_3 H locs ls hd_42 hz42_3 hv_42 hb_42 hT hF hLF_42 hP hD hS hl
        have t_6 := hT
        refine lv_iload_n hx hb dX7_feed_42 rfl (lv_at hl 0 rfl) ?_
        refine lv_if_lt (tgt := 78) hx hb dX7_feed_43 (by decide) (fun (c_7 : z42_3 < 0) => ?_) (fun (c_7 : ¬ (z42_3 < 0)) => ?_)
        · refine lv_aload_n hx hb dX7_feed_78 rfl (lv_at hl 1 rfl) ?_
          refine va_get (D := D) (ci := 7) (v := .int (gi (K42 0) 7)) (C := RX7) (T := TX7) (N := 29) hx hb htg ig_7 hown hK hP 0 (oh_wg (Nat.lt_of_lt_of_le (by decide) hn) (sM_0 hT)) rfl 7 (by decide) (htg _ q_980) (fun _ h9 => h9) rfl dX7_feed_79 ?_
          rw [hQ]
          exact W.iret (v := gi (K42 0) 7) hx hb hr (fun t ht hW => ⟨⟨gi (K42 0) 7, K42, rfl, ⟨hT, hF, ⟨⟨hR.1.fr hF (by decide), hR.2.fr hF (by decide)⟩, (oh_fd3 (fM_0_7 hT0) (oh_rgI (p := 1) (q := 4) (rg_w (lo := 1) (hi := 4) (rg_il (rgL_i (rg_il (rnL_leu u_4.2 (rnL_lel u_4.1 (rgL_c (v := 1) (lo := 1) (hi := 1) (by decide)) (rgL_i (rg_any _))) (rgL_c (v := 4) (lo := 4) (hi := 4) (by decide)))))) (by decide))).1 (oh_rgI (p := 1) (q := 4) (rg_w (lo := 1) (hi := 4) (rg_il (rgL_i (rg_il (rnL_leu u_4.2 (rnL_lel u_4.1 (rgL_c (v := 1) (lo := 1) (hi := 1) (by decide)) (rgL_i (rg_any _))) (rgL_c (v := 4) (lo := 4) (hi := 4) (by decide)))))) (by decide))).2 (oh_fle (fM_0_7 hT0) (rg_w (lo := 1) (hi := 4) (rg_il (rgL_i (rg_il (rnL_leu u_4.2 (rnL_lel u_4.1 (rgL_c (v := 1) (lo := 1) (hi := 1) (by decide)) (rgL_i (rg_any _))) (rgL_c (v := 4) (lo := 4) (hi := 4) (by decide)))))) (by decide)) c_5) (by have h7 := (rn_ltu (u' := (-1)) c_7 hz42_3 (rg_c (v := 0) (lo := 0) (hi := 0) (by decide)) (by decide)); have h8 := h7.1; have h9 := h7.2; omega)), (oh_fz3 (fM_0_7 hT0) (oh_rgI (p := 1) (q := 4) (rg_w (lo := 1) (hi := 4) (rg_il (rgL_i (rg_il (rnL_leu u_4.2 (rnL_lel u_4.1 (rgL_c (v := 1) (lo := 1) (hi := 1) (by decide)) (rgL_i (rg_any _))) (rgL_c (v := 4) (lo := 4) (hi := 4) (by decide)))))) (by decide))).1 (oh_rgI (p := 1) (q := 4) (rg_w (lo := 1) (hi := 4) (rg_il (rgL_i (rg_il (rnL_leu u_4.2 (rnL_lel u_4.1 (rgL_c (v := 1) (lo := 1) (hi := 1) (by decide)) (rgL_i (rg_any _))) (rgL_c (v := 4) (lo := 4) (hi := 4) (by decide)))))) (by decide))).2 (oh_fle (fM_0_7 hT0) (rg_w (lo := 1) (hi := 4) (rg_il (rgL_i (rg_il (rnL_leu u_4.2 (rnL_lel u_4.1 (rgL_c (v := 1) (lo := 1) (hi := 1) (by decide)) (rgL_i (rg_any _))) (rgL_c (v := 4) (lo := 4) (hi := 4) (by decide)))))) (by decide)) c_5) (by have h7 := (rn_ltu (u' := (-1)) c_7 hz42_3 (rg_c (v := 0) (lo := 0) (hi := 0) (by decide)) (by decide)); have h8 := h7.1; have h9 := h7.2; omega)), (ff3 (Eq.trans (fz_e c_7).symm hb_42) (oh_rgI (p := 1) (q := 4) (rg_w (lo := 1) (hi := 4) (rg_il (rgL_i (rg_il (rnL_leu u_4.2 (rnL_lel u_4.1 (rgL_c (v := 1) (lo := 1) (hi := 1) (by decide)) (rgL_i (rg_any _))) (rgL_c (v := 4) (lo := 4) (hi := 4) (by decide)))))) (by decide))).1 (oh_rgI (p := 1) (q := 4) (rg_w (lo := 1) (hi := 4) (rg_il (rgL_i (rg_il (rnL_leu u_4.2 (rnL_lel u_4.1 (rgL_c (v := 1) (lo := 1) (hi := 1) (by decide)) (rgL_i (rg_any _))) (rgL_c (v := 4) (lo := 4) (hi := 4) (by decide)))))) (by decide))).2 (oh_fle (fM_0_7 hT0) (rg_w (lo := 1) (hi := 4) (rg_il (rgL_i (rg_il (rnL_leu u_4.2 (rnL_lel u_4.1 (rgL_c (v := 1) (lo := 1) (hi := 1) (by decide)) (rgL_i (rg_any _))) (rgL_c (v := 4) (lo := 4) (hi := 4) (by decide)))))) (by decide)) c_5))⟩⟩, ⟨by rw [ht]; exact hP, hD⟩⟩, hS.F ht⟩) hS.2.2 dX7_feed_82
        · refine lv_aload_n hx hb dX7_feed_46 rfl (lv_at hl 1 rfl) ?_
          refine va_get (D := D) (ci := 7) (v := .ref (a 7)) (C := RX7) (T := TX7) (N := 29) hx hb htg ig_7 hown hK hP 0 (oh_wg (Nat.lt_of_lt_of_le (by decide) hn) (sM_0 hT)) rfl 6 (by decide) (htg _ q_979) (fun _ h9 => h9) rfl dX7_feed_47 ?_
          refine lv_aload_n hx hb dX7_feed_50 rfl (lv_at hl 1 rfl) ?_
          refine lv_dup hx hb dX7_feed_51 rfl ?_
          refine va_get (D := D) (ci := 7) (v := .int (gi (K42 0) 7)) (C := RX7) (T := TX7) (N := 29) hx hb htg ig_7 hown hK hP 0 (oh_wg (Nat.lt_of_lt_of_le (by decide) hn) (sM_0 hT)) rfl 7 (by decide) (htg _ q_980) (fun _ h9 => h9) rfl dX7_feed_52 ?_
          refine lv_dup_x1 hx hb dX7_feed_55 rfl rfl ?_
          refine lv_iconst (v := 1) hx hb dX7_feed_56 (by decide) ?_
          refine lv_iadd hx hb dX7_feed_57 ?_
          refine th_put (Tp := TyM a E) (Rl := fr [(7, 8), (8, 9)] [7] C) (ci := 7) (v := .int ((gi (K42 0) 7) + 1)) (ty := .int) (CC := RX7) (T := TX7) (N := 29) hx hb htg ig_7 tyX7 tyX7_ok nmX7 hown hK hP hD hS 0 (Nat.lt_of_lt_of_le (by decide) hn) (sM_0 hT) rfl 7 (by decide) (htg _ q_980) (fun _ h9 => h9) rfl (by decide +kernel) rfl rfl (Nat.le_of_ble_eq_true rfl) (hT.up 0 (by decide) ⟨rfl, (rg_w (rg_add (lo := 1) (hi := 250) (l := 0) (u := 249) ⟨(fM_0_7 t_6).1, (oh_ap1 (rg_w (rn_lel (Int32.not_lt.mp c_7) (rg_c (v := 0) (lo := 0) (hi := 0) (by decide)) hz42_3) (by decide)) (fM_0_7 hT0) (rg_w (lo := 1) (hi := 4) (rg_il (rgL_i (rg_il (rnL_leu u_4.2 (rnL_lel u_4.1 (rgL_c (v := 1) (lo := 1) (hi := 1) (by decide)) (rgL_i (rg_any _))) (rgL_c (v := 4) (lo := 4) (hi := 4) (by decide)))))) (by decide)) (oh_fdp (fM_0_7 hT0) (oh_rgI (p := 1) (q := 4) (rg_w (lo := 1) (hi := 4) (rg_il (rgL_i (rg_il (rnL_leu u_4.2 (rnL_lel u_4.1 (rgL_c (v := 1) (lo := 1) (hi := 1) (by decide)) (rgL_i (rg_any _))) (rgL_c (v := 4) (lo := 4) (hi := 4) (by decide)))))) (by decide))).1 (oh_rgI (p := 1) (q := 4) (rg_w (lo := 1) (hi := 4) (rg_il (rgL_i (rg_il (rnL_leu u_4.2 (rnL_lel u_4.1 (rgL_c (v := 1) (lo := 1) (hi := 1) (by decide)) (rgL_i (rg_any _))) (rgL_c (v := 4) (lo := 4) (hi := 4) (by decide)))))) (by decide))).2 (oh_fle (fM_0_7 hT0) (rg_w (lo := 1) (hi := 4) (rg_il (rgL_i (rg_il (rnL_leu u_4.2 (rnL_lel u_4.1 (rgL_c (v := 1) (lo := 1) (hi := 1) (by decide)) (rgL_i (rg_any _))) (rgL_c (v := 4) (lo := 4) (hi := 4) (by decide)))))) (by decide)) c_5)) hv_42).2⟩ (rg_c (v := 1) (lo := 1) (hi := 1) (by decide)) (by decide)) (by decide)), (fM_0_9 hT), (fM_0_11 hT), (fM_0_13 hT), (fM_0_15 hT), (fM_0_21 hT), (fM_0_23 hT)⟩) (fr_fd hF (sM_0 hT) (by decide)) dX7_feed_58 (fun C_8 H locs e_9 hT hF hP hD hS => ?_)
          have t_10 := hT
          refine lv_iload_n hx hb dX7_feed_61 rfl (lv_at hl 2 rfl) ?_
          refine lv_bipush (v := 8) hx hb dX7_feed_62 (by decide) ?_
          refine lv_iload_n hx hb dX7_feed_64 rfl (lv_at hl 0 rfl) ?_
          refine lv_imul hx hb dX7_feed_65 ?_
          refine lv_ishr hx hb dX7_feed_66 ?_
          refine lv_sipush (v := 255) hx hb dX7_feed_67 (by decide) ?_
          refine lv_iand hx hb dX7_feed_70 ?_
          have n_11 : vp_in (gi (K42 0) 7) 250 := (rg_in (l := 0) (u := 249) ⟨(fM_0_7 t_6).1, (oh_ap1 (rg_w (rn_lel (Int32.not_lt.mp c_7) (rg_c (v := 0) (lo := 0) (hi := 0) (by decide)) hz42_3) (by decide)) (fM_0_7 hT0) (rg_w (lo := 1) (hi := 4) (rg_il (rgL_i (rg_il (rnL_leu u_4.2 (rnL_lel u_4.1 (rgL_c (v := 1) (lo := 1) (hi := 1) (by decide)) (rgL_i (rg_any _))) (rgL_c (v := 4) (lo := 4) (hi := 4) (by decide)))))) (by decide)) (oh_fdp (fM_0_7 hT0) (oh_rgI (p := 1) (q := 4) (rg_w (lo := 1) (hi := 4) (rg_il (rgL_i (rg_il (rnL_leu u_4.2 (rnL_lel u_4.1 (rgL_c (v := 1) (lo := 1) (hi := 1) (by decide)) (rgL_i (rg_any _))) (rgL_c (v := 4) (lo := 4) (hi := 4) (by decide)))))) (by decide))).1 (oh_rgI (p := 1) (q := 4) (rg_w (lo := 1) (hi := 4) (rg_il (rgL_i (rg_il (rnL_leu u_4.2 (rnL_lel u_4.1 (rgL_c (v := 1) (lo := 1) (hi := 1) (by decide)) (rgL_i (rg_any _))) (rgL_c (v := 4) (lo := 4) (hi := 4) (by decide)))))) (by decide))).2 (oh_fle (fM_0_7 hT0) (rg_w (lo := 1) (hi := 4) (rg_il (rgL_i (rg_il (rnL_leu u_4.2 (rnL_lel u_4.1 (rgL_c (v := 1) (lo := 1) (hi := 1) (by decide)) (rgL_i (rg_any _))) (rgL_c (v := 4) (lo := 4) (hi := 4) (by decide)))))) (by decide)) c_5)) hv_42).2⟩ (by decide))
          refine th_iast (T := TyM a E) (Rl := fr [(7, 8), (8, 9)] [7] C) hx hb hK hP hD hS 7 (Nat.lt_of_lt_of_le (by decide) hn) (sM_7 hT) n_11 (hT.up 7 (by decide) (tA_upd (tM_7 hT) tA_any)) (fr_st hF (by decide) (by decide)) dX7_feed_71 (fun C_12 H locs e_13 hT hF hP hD hS => ?_)
          have t_14 := hT
          refine lv_iinc (v := z42_3 + (-1)) (lv' := [(3, .int (z42_3 + (-1))), (0, .ref (a 0)), (1, .int x1), (2, .int x2)]) hx hb dX7_feed_72 hl (k := 0) rfl (by rfl) (by decide) rfl (fun ls hl => ?_)
          refine lv_goto (tgt := 42) hx hb dX7_feed_75 (by decide) ?_
          exact ih_42 _ (hd_42 ▸ mu_dn (rn_lel (Int32.not_lt.mp c_7) (rg_c (v := 0) (lo := 0) (hi := 0) (by decide)) hz42_3) (by decide)) C_12 (z42_3 + (-1)) _ _ ls rfl (rg_w (rg_add (lo := (-1)) (hi := 2) (rn_lel (Int32.not_lt.mp c_7) (rg_c (v := 0) (lo := 0) (hi := 0) (by decide)) hz42_3) (rg_c (v := (-1)) (lo := (-1)) (hi := (-1)) (by decide)) (by decide)) (by decide)) (by rw [(Eq.trans (congrArg (fun z => gi z 7) (th_un e_13 (by decide))) (show gi (C_8 0) 7 = ((gi (K42 0) 7) + 1) by rw [e_9]; rfl)), oh_add1 ⟨(fM_0_7 t_6).1, (oh_ap1 (rg_w (rn_lel (Int32.not_lt.mp c_7) (rg_c (v := 0) (lo := 0) (hi := 0) (by decide)) hz42_3) (by decide)) (fM_0_7 hT0) (rg_w (lo := 1) (hi := 4) (rg_il (rgL_i (rg_il (rnL_leu u_4.2 (rnL_lel u_4.1 (rgL_c (v := 1) (lo := 1) (hi := 1) (by decide)) (rgL_i (rg_any _))) (rgL_c (v := 4) (lo := 4) (hi := 4) (by decide)))))) (by decide)) (oh_fdp (fM_0_7 hT0) (oh_rgI (p := 1) (q := 4) (rg_w (lo := 1) (hi := 4) (rg_il (rgL_i (rg_il (rnL_leu u_4.2 (rnL_lel u_4.1 (rgL_c (v := 1) (lo := 1) (hi := 1) (by decide)) (rgL_i (rg_any _))) (rgL_c (v := 4) (lo := 4) (hi := 4) (by decide)))))) (by decide))).1 (oh_rgI (p := 1) (q := 4) (rg_w (lo := 1) (hi := 4) (rg_il (rgL_i (rg_il (rnL_leu u_4.2 (rnL_lel u_4.1 (rgL_c (v := 1) (lo := 1) (hi := 1) (by decide)) (rgL_i (rg_any _))) (rgL_c (v := 4) (lo := 4) (hi := 4) (by decide)))))) (by decide))).2 (oh_fle (fM_0_7 hT0) (rg_w (lo := 1) (hi := 4) (rg_il (rgL_i (rg_il (rnL_leu u_4.2 (rnL_lel u_4.1 (rgL_c (v := 1) (lo := 1) (hi := 1) (by decide)) (rgL_i (rg_any _))) (rgL_c (v := 4) (lo := 4) (hi := 4) (by decide)))))) (by decide)) c_5)) hv_42).2⟩, oh_sub1 (rg_w (rn_lel (Int32.not_lt.mp c_7) (rg_c (v := 0) (lo := 0) (hi := 0) (by decide)) hz42_3) (by decide))]; omega) (Eq.trans (fz_s (rg_w (rn_lel (Int32.not_lt.mp c_7) (rg_c (v := 0) (lo := 0) (hi := 0) (by decide)) hz42_3) (by decide)) ⟨(fM_0_7 t_6).1, (oh_ap1 (rg_w (rn_lel (Int32.not_lt.mp c_7) (rg_c (v := 0) (lo := 0) (hi := 0) (by decide)) hz42_3) (by decide)) (fM_0_7 hT0) (rg_w (lo := 1) (hi := 4) (rg_il (rgL_i (rg_il (rnL_leu u_4.2 (rnL_lel u_4.1 (rgL_c (v := 1) (lo := 1) (hi := 1) (by decide)) (rgL_i (rg_any _))) (rgL_c (v := 4) (lo := 4) (hi := 4) (by decide)))))) (by decide)) (oh_fdp (fM_0_7 hT0) (oh_rgI (p := 1) (q := 4) (rg_w (lo := 1) (hi := 4) (rg_il (rgL_i (rg_il (rnL_leu u_4.2 (rnL_lel u_4.1 (rgL_c (v := 1) (lo := 1) (hi := 1) (by decide)) (rgL_i (rg_any _))) (rgL_c (v := 4) (lo := 4) (hi := 4) (by decide)))))) (by decide))).1 (oh_rgI (p := 1) (q := 4) (rg_w (lo := 1) (hi := 4) (rg_il (rgL_i (rg_il (rnL_leu u_4.2 (rnL_lel u_4.1 (rgL_c (v := 1) (lo := 1) (hi := 1) (by decide)) (rgL_i (rg_any _))) (rgL_c (v := 4) (lo := 4) (hi := 4) (by decide)))))) (by decide))).2 (oh_fle (fM_0_7 hT0) (rg_w (lo := 1) (hi := 4) (rg_il (rgL_i (rg_il (rnL_leu u_4.2 (rnL_lel u_4.1 (rgL_c (v := 1) (lo := 1) (hi := 1) (by decide)) (rgL_i (rg_any _))) (rgL_c (v := 4) (lo := 4) (hi := 4) (by decide)))))) (by decide)) c_5)) hv_42).2⟩ (Eq.trans (st_ga e_13) (congrArg (fun z => upd z _ _) (congrArg ga (th_un e_9 (by decide))))) (Eq.trans (congrArg (fun z => gi z 7) (th_un e_13 (by decide))) (show gi (C_8 0) 7 = ((gi (K42 0) 7) + 1) by rw [e_9]; rfl))) hb_42) hT hF (fr_ste (fr_fde hLF_42 e_9 (sM_0 t_6) (by decide)) e_13 (by decide) (by decide)) hP hD hS (lv_sub hl [0, 1, 2, 3] rfl)
      exact L_42 _ C (x2 - 1) _ _ ls rfl (rg_w (rg_sub (lo := 0) (hi := 3) (rg_il (rgL_i (rg_il (rnL_leu u_4.2 (rnL_lel u_4.1 (rgL_c (v := 1) (lo := 1) (hi := 1) (by decide)) (rgL_i (rg_any _))) (rgL_c (v := 4) (lo := 4) (hi := 4) (by decide)))))) (rg_c (v := 1) (lo := 1) (hi := 1) (by decide)) (by decide)) (by decide)) (by rw [oh_sub1' (rg_w (lo := 1) (hi := 4) (rg_il (rgL_i (rg_il (rnL_leu u_4.2 (rnL_lel u_4.1 (rgL_c (v := 1) (lo := 1) (hi := 1) (by decide)) (rgL_i (rg_any _))) (rgL_c (v := 4) (lo := 4) (hi := 4) (by decide)))))) (by decide))]; omega) (fz_0 (rg_w (lo := 1) (hi := 4) (rg_il (rgL_i (rg_il (rnL_leu u_4.2 (rnL_lel u_4.1 (rgL_c (v := 1) (lo := 1) (hi := 1) (by decide)) (rgL_i (rg_any _))) (rgL_c (v := 4) (lo := 4) (hi := 4) (by decide)))))) (by decide))) hT hF fr_rf hP hD hS (lv_sub hl [0, 1, 2, 3] rfl)
    · refine lv_aload_n hx hb dX7_feed_31 rfl (lv_at hl 0 rfl) ?_
      refine lv_bipush (v := (-6)) hx hb dX7_feed_32 (by decide) ?_
      refine tm_V (As := [.int (-6)]) (rest := []) ⟨hx, hb, hml, hown, htg⟩ (c_X7_refuse l D E G _ a C n hn hT ((-6) : Int32) (rg_w (rg_c (v := (-6)) (lo := (-6)) (hi := (-6)) (by decide)) (by decide))) (cwV 1 htg (oh_gV q_1071 q_1073 q_29 q_73 q_1074) rfl rfl rfl pdVX7_refuse ⟨Nat.le_of_ble_eq_true rfl, Nat.le_of_ble_eq_true rfl⟩) hK hP hD hG hS hA (va_recv hK hP (ci := 7) (q0 := 0) rfl (oh_wg (Nat.lt_of_lt_of_le (by decide) hn) (sM_0 hT))) rfl hl.1 rfl (Nat.le_of_ble_eq_true rfl) dX7_feed_34 ⟨Nat.le_of_ble_eq_true rfl, Nat.le_of_ble_eq_true rfl⟩ (fun r_15 C_16 H locs hq_17 hP hD hS => ?_)
      obtain ⟨hT, f_18, hq_17⟩ := hq_17
      have hF := fr_tr hF f_18 (by decide) (by decide)
      refine W.widen (k := 0) (n := 0) (Nat.le_refl _) (Nat.le_refl _) ?_
      have t_19 := hT
      rw [hQ]
      exact W.iret (v := r_15) hx hb hr (fun t ht hW => ⟨⟨r_15, C_16, rfl, ⟨hT, hF, ⟨⟨hR.1.fr hF (by decide), hR.2.fr hF (by decide)⟩, (oh_fd2 hq_17 (oh_rgI (p := 1) (q := 4) (rg_w (lo := 1) (hi := 4) (rg_il (rgL_i (rg_il (rnL_leu u_4.2 (rnL_lel u_4.1 (rgL_c (v := 1) (lo := 1) (hi := 1) (by decide)) (rgL_i (rg_any _))) (rgL_c (v := 4) (lo := 4) (hi := 4) (by decide)))))) (by decide))).1 (oh_rgI (p := 1) (q := 4) (rg_w (lo := 1) (hi := 4) (rg_il (rgL_i (rg_il (rnL_leu u_4.2 (rnL_lel u_4.1 (rgL_c (v := 1) (lo := 1) (hi := 1) (by decide)) (rgL_i (rg_any _))) (rgL_c (v := 4) (lo := 4) (hi := 4) (by decide)))))) (by decide))).2 (oh_flt (fM_0_7 hT0) (rg_w (lo := 1) (hi := 4) (rg_il (rgL_i (rg_il (rnL_leu u_4.2 (rnL_lel u_4.1 (rgL_c (v := 1) (lo := 1) (hi := 1) (by decide)) (rgL_i (rg_any _))) (rgL_c (v := 4) (lo := 4) (hi := 4) (by decide)))))) (by decide)) (Int32.not_le.mp c_5))), (oh_fz2 (congrArg vi (f_18.2 7 (by decide))) (oh_rgI (p := 1) (q := 4) (rg_w (lo := 1) (hi := 4) (rg_il (rgL_i (rg_il (rnL_leu u_4.2 (rnL_lel u_4.1 (rgL_c (v := 1) (lo := 1) (hi := 1) (by decide)) (rgL_i (rg_any _))) (rgL_c (v := 4) (lo := 4) (hi := 4) (by decide)))))) (by decide))).1 (oh_rgI (p := 1) (q := 4) (rg_w (lo := 1) (hi := 4) (rg_il (rgL_i (rg_il (rnL_leu u_4.2 (rnL_lel u_4.1 (rgL_c (v := 1) (lo := 1) (hi := 1) (by decide)) (rgL_i (rg_any _))) (rgL_c (v := 4) (lo := 4) (hi := 4) (by decide)))))) (by decide))).2 (oh_flt (fM_0_7 hT0) (rg_w (lo := 1) (hi := 4) (rg_il (rgL_i (rg_il (rnL_leu u_4.2 (rnL_lel u_4.1 (rgL_c (v := 1) (lo := 1) (hi := 1) (by decide)) (rgL_i (rg_any _))) (rgL_c (v := 4) (lo := 4) (hi := 4) (by decide)))))) (by decide)) (Int32.not_le.mp c_5))), (ff2 (congrArg ga (f_18.1 7 rfl (by decide))) (oh_rgI (p := 1) (q := 4) (rg_w (lo := 1) (hi := 4) (rg_il (rgL_i (rg_il (rnL_leu u_4.2 (rnL_lel u_4.1 (rgL_c (v := 1) (lo := 1) (hi := 1) (by decide)) (rgL_i (rg_any _))) (rgL_c (v := 4) (lo := 4) (hi := 4) (by decide)))))) (by decide))).1 (oh_rgI (p := 1) (q := 4) (rg_w (lo := 1) (hi := 4) (rg_il (rgL_i (rg_il (rnL_leu u_4.2 (rnL_lel u_4.1 (rgL_c (v := 1) (lo := 1) (hi := 1) (by decide)) (rgL_i (rg_any _))) (rgL_c (v := 4) (lo := 4) (hi := 4) (by decide)))))) (by decide))).2 (oh_flt (fM_0_7 hT0) (rg_w (lo := 1) (hi := 4) (rg_il (rgL_i (rg_il (rnL_leu u_4.2 (rnL_lel u_4.1 (rgL_c (v := 1) (lo := 1) (hi := 1) (by decide)) (rgL_i (rg_any _))) (rgL_c (v := 4) (lo := 4) (hi := 4) (by decide)))))) (by decide)) (Int32.not_le.mp c_5)))⟩⟩, ⟨by rw [ht]; exact hP, hD⟩⟩, hS.F ht⟩) hS.2.2 dX7_feed_37
  · have u_20 := hq_2.2.2 c_3
    refine lv_aload_n hx hb dX7_feed_12 rfl (lv_at hl 0 rfl) ?_
    refine lv_bipush (v := (-2)) hx hb dX7_feed_13 (by decide) ?_
    refine tm_V (As := [.int (-2)]) (rest := []) ⟨hx, hb, hml, hown, htg⟩ (c_X7_refuse l D E G _ a C n hn hT ((-2) : Int32) (rg_w (rg_c (v := (-2)) (lo := (-2)) (hi := (-2)) (by decide)) (by decide))) (cwV 1 htg (oh_gV q_1071 q_1073 q_29 q_73 q_1074) rfl rfl rfl pdVX7_refuse ⟨Nat.le_of_ble_eq_true rfl, Nat.le_of_ble_eq_true rfl⟩) hK hP hD hG hS hA (va_recv hK hP (ci := 7) (q0 := 0) rfl (oh_wg (Nat.lt_of_lt_of_le (by decide) hn) (sM_0 hT))) rfl hl.1 rfl (Nat.le_of_ble_eq_true rfl) dX7_feed_15 ⟨Nat.le_of_ble_eq_true rfl, Nat.le_of_ble_eq_true rfl⟩ (fun r_21 C_22 H locs hq_23 hP hD hS => ?_)
    obtain ⟨hT, f_24, hq_23⟩ := hq_23
    have hF := fr_tr hF f_24 (by decide) (by decide)
    refine W.widen (k := 0) (n := 0) (Nat.le_refl _) (Nat.le_refl _) ?_
    have t_25 := hT
    rw [hQ]
    exact W.iret (v := r_21) hx hb hr (fun t ht hW => ⟨⟨r_21, C_22, rfl, ⟨hT, hF, ⟨⟨hR.1.fr hF (by decide), hR.2.fr hF (by decide)⟩, (oh_fd1 hq_23 (oh_in64 (l' := 1) (k' := 4) rfl rfl u_20)), (oh_fz1 (congrArg vi (f_24.2 7 (by decide))) (oh_in64 (l' := 1) (k' := 4) rfl rfl u_20)), (ff1 (congrArg ga (f_24.1 7 rfl (by decide))) (oh_in64 (l' := 1) (k' := 4) rfl rfl u_20))⟩⟩, ⟨by rw [ht]; exact hP, hD⟩⟩, hS.F ht⟩) hS.2.2 dX7_feed_18
/-! EXACT: what is told of the land -/
noncomputable def spRoadOf (A : LA) (r w : Int32) : Int32 := pif ((0 ≤ r ∧ r < A 5 0 0) ∧ (0 ≤ w ∧ w ≤ 6)) (A 0 r.toNatClampNeg w.toNatClampNeg) (-2)
noncomputable def spLen (A : LA) (w : Int32) : Int32 := pif (0 ≤ w ∧ w < A 5 0 2) (A 2 w.toNatClampNeg 1 * (A 2 w.toNatClampNeg 0 - 1) + 4) (-2)
def okPk (n2 n3 w s : Int32) : Prop := (0 ≤ w ∧ w < n2) ∧ (0 ≤ s ∧ s ≤ ((1 : Int32) <<< (n3 &&& 31)) - 1)
noncomputable def spBegin (A : LA) (w s f t : Int32) : Int32 := pif (okPk (A 5 0 2) (A 5 0 3) w s ∧ (0 ≤ f ∧ f ≤ 15) ∧ (0 ≤ t ∧ t ≤ 15)) 1 (-2)
theorem colX_v {C : Nat → va_E} {A : LA} {t : Nat} {r w W : Int32} {ur uw : Int} (hA : absX 10 C A) (ht : t < 4) (hr : rg r 0 ur) (hW : W.toInt = (wid t : Int)) (hw : rg w 0 uw) (hd : decide (ur * wid t + uw ≤ 2147483647 ∧ 0 ≤ ur ∧ uw < (wid t : Int)) = true) (hl : r < A 5 0 t) (hv : vis t w.toNatClampNeg) : ga (C (10 + 1 + t)) (r * W + w).toNatClampNeg = A t r.toNatClampNeg w.toNatClampNeg := by
  have h2 := of_decide_eq_true hd
  have e2 := oh_nat hw (by decide)
  rw [oh_rixz hr hW hw (decide_eq_true ⟨h2.1, h2.2.1⟩)]
  exact hA.2.2 t ht r.toNatClampNeg (by rw [oh_nat hr (by decide)]; exact Int32.lt_iff_toInt_lt.mp hl) _ (by have := hw.2; omega) hv
theorem colM_v {C : Nat → va_E} {A : LA} {t j : Nat} {r : Int32} {ur : Int} (hA : absM C A) (ht : t < 4) (hr : rg r 0 ur) (hj : j < wid t) (hl : r < A 5 0 t) (hv : vis t j) : ga (C (blk t + r.toNatClampNeg)) j = A t r.toNatClampNeg j := hA.2.2 t ht r.toNatClampNeg (by rw [oh_nat hr (by decide)]; exact Int32.lt_iff_toInt_lt.mp hl) j hj hv

set_option maxHeartbeats 4000000 in
set_option maxRecDepth 100000 in
theorem e_X6_isWaggon (l : Launch) (D : va_G) (E : Nat → ClassId) (G : Nat → Nat) (a : Nat → Nat) (C : Nat → va_E) (hT : TyX a E C) (x1 : Int32) : Met l yX6_isWaggon (oh_w yX6_isWaggon cX6_isWaggon 2 (some .boolean)) ({ frames := 1, cells := 0, slots := 0, locals := 22 }) (oh_Pp D E G [.ref (a 0), .int x1] (oh_W 35 a C)) (vp_Si (fun r => (r = 0 ∨ r = 1) ∧ (r ≠ 0 → rg x1 0 4 ∧ ((0 : Int32) ≤ x1 ∧ x1 < ga (C 10) ((2 : Int32)).toNatClampNeg)) ∧ (r = 0 → (¬ ((0 : Int32) ≤ x1 ∧ x1 < ga (C 10) ((2 : Int32)).toNatClampNeg))))) 0 0 (fun _ => False) := by
  refine Met.ofW (cc := cX6_isWaggon) (maxL := 2) (ret := (some .boolean)) (by decide) rfl ?_
  intro p e s m args below meth c s₁ B hml hv
  obtain ⟨rfl, hP, hK, hG⟩ := hv
  have hx := B.exec
  have hb := B.bytes
  have hr := B.returns
  have hts := atoms_spec (ws := (oh_w yX6_isWaggon cX6_isWaggon 2 (some .boolean))) B.pre
  have htg : ∀ w ∈ oh_t, w.before _ s = true := fun w h => hts w (List.mem_cons_of_mem _ h)
  have hown : s.vm.findClass RX6 = some m.cls := findClass_of_methodNamed B.named
  have hlocks := B.notSynchronized
  have hT0 := hT
  have hS : va_S (fun _ => False) s.heap s.heap [] := va_S.rf
  have hl := lv_entry ([.ref (a 0), .int x1]) (n := 2) (Nat.le_of_ble_eq_true rfl)
  rw [lg_entry_eq]
  generalize (lg_sl ([.ref (a 0), .int x1]) ++ List.replicate (2 - (lg_sl ([.ref (a 0), .int x1])).length) Slot.unset).toArray = ls at hl ⊢
  have hl : lv_has ls 2 [(0, .ref (a 0)), (1, .int x1)] := hl
  refine oh_genQ (fun Q hQ => ?_)
  refine lv_iload_n hx hb dX6_isWaggon_0 rfl (lv_at hl 1 rfl) ?_
  refine lv_iconst (v := 0) hx hb dX6_isWaggon_1 (by decide) ?_
  refine lv_aload_n hx hb dX6_isWaggon_2 rfl (lv_at hl 0 rfl) ?_
  refine va_get (D := D) (ci := 6) (v := .ref (a 1)) (C := RX6) (T := TX6) (N := 9) hx hb htg ig_6 hown hK hP 0 (oh_wg (by decide) (sX_0 hT)) rfl 0 (by decide) (htg _ q_258) (fun _ h9 => h9) rfl dX6_isWaggon_3 ?_
  refine va_get (D := D) (ci := 0) (v := .ref (a 10)) (C := RX0) (T := TX0) (N := 8) hx hb htg ig_0 hown hK hP 1 (oh_wg (by decide) (sX_1 hT)) rfl 0 (by decide) (htg _ q_100) (fun _ h9 => h9) rfl dX6_isWaggon_6 ?_
  refine lv_iconst (v := 2) hx hb dX6_isWaggon_9 (by decide) ?_
  refine th_iald hx hb hK hP 10 (by decide) (sX_10 hT) (rg_in (rg_c (v := 2) (lo := 2) (hi := 2) (by decide)) (by decide)) dX6_isWaggon_10 ?_
  refine lv_iconst (v := 1) hx hb dX6_isWaggon_11 (by decide) ?_
  refine lv_isub hx hb dX6_isWaggon_12 ?_
  refine tq_S (As := [.int x1, .int 0, .int ((ga (C 10) ((2 : Int32)).toNatClampNeg) - 1)]) (rest := []) (ws := []) ⟨hx, hb, hml, hown, htg⟩ (c_X6_within l D E G x1 (0 : Int32) ((ga (C 10) ((2 : Int32)).toNatClampNeg) - 1)) (va_cwS 3 htg (oh_gS q_293 q_294 q_66 q_295) rfl rfl rfl pdX6_within ⟨Nat.le_of_ble_eq_true rfl, Nat.le_of_ble_eq_true rfl⟩) hK va_nil hG hS rfl hl.1 rfl (Nat.le_of_ble_eq_true rfl) dX6_isWaggon_13 ⟨Nat.le_of_ble_eq_true rfl, Nat.le_of_ble_eq_true rfl⟩ (fun r_1 hq_2 => ?_)
  rw [hQ]
  exact W.zret (v := r_1) (ty := .boolean) hx hb hr (oh_nb hq_2.1) (fun t ht hW => ⟨r_1, rfl, ⟨hq_2.1, (fun h9 => ⟨(rg_w (rn_leu (hq_2.2.1 h9).2 (rn_lel (hq_2.2.1 h9).1 (rg_c (v := 0) (lo := 0) (hi := 0) (by decide)) (rg_any _)) (rg_sub (lo := (-1)) (hi := 4) (tA_rdc (lo := 0) (hi := 5) (tX_10 hT0) (rg_in (rg_c (v := 2) (lo := 2) (hi := 2) (by decide)) (by decide)) (show _ = 2 by decide) (by decide)) (rg_c (v := 1) (lo := 1) (hi := 1) (by decide)) (by decide))) (by decide)), ⟨(hq_2.2.1 h9).1, oh_ltX (cntX 2 hT0 (by decide)) (hq_2.2.1 h9).2⟩⟩), (fun h9 => (fun h8 => (hq_2.2.2 h9) ((is_n (cntX 2 hT0 (by decide))).mpr h8)))⟩, ht⟩) (fun q h => by cases h) dX6_isWaggon_16

set_option maxHeartbeats 4000000 in
set_option maxRecDepth 100000 in
theorem e_X6_roadOf (l : Launch) (D : va_G) (E : Nat → ClassId) (G : Nat → Nat) (sz : Nat) (a : Nat → Nat) (C : Nat → va_E) (hT : TyX a E C) (x1 : Int32) (x2 : Int32) : Met l yX6_roadOf (oh_w yX6_roadOf cX6_roadOf 3 (some .int)) ({ frames := 2, cells := 0, slots := 0, locals := 44 }) (oh_Pm D E G [.ref (a 0), .int x1, .int x2] (oh_W 35 a C) sz) (va_Qi (fun r (u : Nat → va_E) => TyX a E u ∧ fr [(7, 8)] [] C u ∧ (∀ A : LA, absX 10 C A → r = spRoadOf A x1 x2)) (oh_B D (va_A (oh_W 35 a C) sz) (fun u => oh_W 35 a u)) (va_A (oh_W 35 a C) sz)) 0 0 (va_A (oh_W 35 a C) sz) := by
  refine Met.ofW (cc := cX6_roadOf) (maxL := 3) (ret := (some .int)) (by decide) rfl ?_
  intro p e s m args below meth c s₁ B hml hv
  obtain ⟨rfl, hsz, hP, hK, hD0, hG⟩ := hv
  have hx := B.exec
  have hb := B.bytes
  have hr := B.returns
  have hts := atoms_spec (ws := (oh_w yX6_roadOf cX6_roadOf 3 (some .int))) B.pre
  have htg : ∀ w ∈ oh_t, w.before _ s = true := fun w h => hts w (List.mem_cons_of_mem _ h)
  have hown : s.vm.findClass RX6 = some m.cls := findClass_of_methodNamed B.named
  have hlocks := B.notSynchronized
  have hT0 := hT
  subst hsz
  have hD := hD0.self (sz := s.heap.size)
  generalize hAe : va_A (oh_W 35 a C) s.heap.size = A at hD hG ⊢
  have hA : ∀ q : Nat, s.heap.size ≤ q → A q := fun q h => by rw [← hAe]; exact Or.inr h
  have hS : va_S A s.heap s.heap [] := va_S.rf
  have hF : fr [(7, 8)] [] C C := fr_rf
  have hl := lv_entry ([.ref (a 0), .int x1, .int x2]) (n := 3) (Nat.le_of_ble_eq_true rfl)
  rw [lg_entry_eq]
  generalize (lg_sl ([.ref (a 0), .int x1, .int x2]) ++ List.replicate (3 - (lg_sl ([.ref (a 0), .int x1, .int x2])).length) Slot.unset).toArray = ls at hl ⊢
  have hl : lv_has ls 3 [(0, .ref (a 0)), (1, .int x1), (2, .int x2)] := hl
  refine oh_genQ (fun Q hQ => ?_)
  refine lv_aload_n hx hb dX6_roadOf_0 rfl (lv_at hl 0 rfl) ?_
  refine lv_iload_n hx hb dX6_roadOf_1 rfl (lv_at hl 1 rfl) ?_
  refine tq_V (As := [.int x1]) (rest := []) (ws := (oh_W 35 a C)) ⟨hx, hb, hml, hown, htg⟩ (e_X6_isRoad l D E G a C hT x1) (cwV 1 htg (oh_gV q_428 q_430 q_5 q_66 q_431) rfl rfl rfl pdVX6_isRoad ⟨Nat.le_of_ble_eq_true rfl, Nat.le_of_ble_eq_true rfl⟩) hK hP hG hS (va_recv hK hP (ci := 6) (q0 := 0) rfl (oh_wg (by decide) (sX_0 hT))) rfl hl.1 rfl (Nat.le_of_ble_eq_true rfl) dX6_roadOf_2 ⟨Nat.le_of_ble_eq_true rfl, Nat.le_of_ble_eq_true rfl⟩ (fun r_1 hq_2 => ?_)
  refine lv_if_eq (tgt := 18) hx hb dX6_roadOf_5 (by decide) (fun (c_3 : r_1 = 0) => ?_) (fun (c_3 : ¬ (r_1 = 0)) => ?_)
  · have u_4 := hq_2.2.2 c_3
    refine lv_aload_n hx hb dX6_roadOf_18 rfl (lv_at hl 0 rfl) ?_
    refine lv_bipush (v := (-2)) hx hb dX6_roadOf_19 (by decide) ?_
    refine tm_V (As := [.int (-2)]) (rest := []) ⟨hx, hb, hml, hown, htg⟩ (c_X6_refuse l D E G _ a C hT ((-2) : Int32)) (cwV 1 htg (oh_gV q_296 q_298 q_0 q_66 q_299) rfl rfl rfl pdVX6_refuse ⟨Nat.le_of_ble_eq_true rfl, Nat.le_of_ble_eq_true rfl⟩) hK hP hD hG hS hA (va_recv hK hP (ci := 6) (q0 := 0) rfl (oh_wg (by decide) (sX_0 hT))) rfl hl.1 rfl (Nat.le_of_ble_eq_true rfl) dX6_roadOf_21 ⟨Nat.le_of_ble_eq_true rfl, Nat.le_of_ble_eq_true rfl⟩ (fun r_5 C_6 H locs hq_7 hP hD hS => ?_)
    obtain ⟨hT, f_8, hq_7⟩ := hq_7
    have hF := fr_tr hF f_8 (by decide) (by decide)
    refine W.widen (k := 0) (n := 0) (Nat.le_refl _) (Nat.le_refl _) ?_
    have t_9 := hT
    rw [hQ]
    exact W.iret (v := r_5) hx hb hr (fun t ht hW => ⟨⟨r_5, C_6, rfl, ⟨hT, hF, (fun A hA => Eq.trans hq_7 (pif_neg (fun h8 => by have h7 := h8.1; rw [← (show ga (C 10) ((0 : Int32)).toNatClampNeg = A 5 0 0 from hA.1 0 (by decide))] at h7; exact u_4 h7)).symm)⟩, ⟨by rw [ht]; exact hP, hD⟩⟩, hS.F ht⟩) hS.2.2 dX6_roadOf_24
  · have u_10 := hq_2.2.1 c_3
    refine lv_iload_n hx hb dX6_roadOf_8 rfl (lv_at hl 2 rfl) ?_
    refine lv_iconst (v := 0) hx hb dX6_roadOf_9 (by decide) ?_
    refine lv_bipush (v := 6) hx hb dX6_roadOf_10 (by decide) ?_
    refine tq_S (As := [.int x2, .int 0, .int 6]) (rest := []) (ws := []) ⟨hx, hb, hml, hown, htg⟩ (c_X6_within l D E G x2 (0 : Int32) (6 : Int32)) (va_cwS 3 htg (oh_gS q_293 q_294 q_66 q_295) rfl rfl rfl pdX6_within ⟨Nat.le_of_ble_eq_true rfl, Nat.le_of_ble_eq_true rfl⟩) hK va_nil hG hS rfl hl.1 rfl (Nat.le_of_ble_eq_true rfl) dX6_roadOf_12 ⟨Nat.le_of_ble_eq_true rfl, Nat.le_of_ble_eq_true rfl⟩ (fun r_11 hq_12 => ?_)
    refine lv_if_ne (tgt := 25) hx hb dX6_roadOf_15 (by decide) (fun (c_13 : ¬ (r_11 = 0)) => ?_) (fun (c_13 : r_11 = 0) => ?_)
    · have u_14 := hq_12.2.1 c_13
      refine lv_aload_n hx hb dX6_roadOf_25 rfl (lv_at hl 0 rfl) ?_
      refine va_get (D := D) (ci := 6) (v := .ref (a 1)) (C := RX6) (T := TX6) (N := 9) hx hb htg ig_6 hown hK hP 0 (oh_wg (by decide) (sX_0 hT)) rfl 0 (by decide) (htg _ q_258) (fun _ h9 => h9) rfl dX6_roadOf_26 ?_
      refine lv_iload_n hx hb dX6_roadOf_29 rfl (lv_at hl 1 rfl) ?_
      refine lv_iload_n hx hb dX6_roadOf_30 rfl (lv_at hl 2 rfl) ?_
      refine tq_V (As := [.int x1, .int x2]) (rest := []) (ws := (oh_W 35 a C)) ⟨hx, hb, hml, hown, htg⟩ (c_X0_ofRoad l D E G a C hT x1 x2 (rg_w u_10.1 (by decide)) (rg_w (rn_leu u_14.2 (rn_lel u_14.1 (rg_c (v := 0) (lo := 0) (hi := 0) (by decide)) (rg_any _)) (rg_c (v := 6) (lo := 6) (hi := 6) (by decide))) (by decide))) (cwV 2 htg (oh_gV q_479 q_480 q_481 q_67 q_482) rfl rfl rfl pdVX0_ofRoad ⟨Nat.le_of_ble_eq_true rfl, Nat.le_of_ble_eq_true rfl⟩) hK hP hG hS (va_recv hK hP (ci := 0) (q0 := 1) rfl (oh_wg (by decide) (sX_1 hT))) rfl hl.1 rfl (Nat.le_of_ble_eq_true rfl) dX6_roadOf_31 ⟨Nat.le_of_ble_eq_true rfl, Nat.le_of_ble_eq_true rfl⟩ (fun r_15 hq_16 => ?_)
      subst hq_16
      rw [hQ]
      exact W.iret (v := ga (C 11) ((x1 * 7) + x2).toNatClampNeg) hx hb hr (fun t ht hW => ⟨⟨ga (C 11) ((x1 * 7) + x2).toNatClampNeg, C, rfl, ⟨hT, hF, (fun A hA => Eq.trans (colX_v (t := 0) hA (by decide) (rg_w (lo := 0) (hi := 23) u_10.1 (by decide)) rfl (rg_w (lo := 0) (hi := 6) (rn_leu u_14.2 (rn_lel u_14.1 (rg_c (v := 0) (lo := 0) (hi := 0) (by decide)) (rg_any _)) (rg_c (v := 6) (lo := 6) (hi := 6) (by decide))) (by decide)) (by decide) (show 0 ≤ x1 ∧ x1 < A 5 0 0 by rw [← (show ga (C 10) ((0 : Int32)).toNatClampNeg = A 5 0 0 from hA.1 0 (by decide))]; exact u_10.2).2 (by unfold vis; omega)) (pif_pos ⟨(show 0 ≤ x1 ∧ x1 < A 5 0 0 by rw [← (show ga (C 10) ((0 : Int32)).toNatClampNeg = A 5 0 0 from hA.1 0 (by decide))]; exact u_10.2), (oh_rgI (p := 0) (q := 6) (rg_w (lo := 0) (hi := 6) (rn_leu u_14.2 (rn_lel u_14.1 (rg_c (v := 0) (lo := 0) (hi := 0) (by decide)) (rg_any _)) (rg_c (v := 6) (lo := 6) (hi := 6) (by decide))) (by decide)))⟩).symm)⟩, ⟨by rw [ht]; exact hP, hD⟩⟩, hS.F ht⟩) hS.2.2 dX6_roadOf_34
    · have u_17 := hq_12.2.2 c_13
      refine lv_aload_n hx hb dX6_roadOf_18 rfl (lv_at hl 0 rfl) ?_
      refine lv_bipush (v := (-2)) hx hb dX6_roadOf_19 (by decide) ?_
      refine tm_V (As := [.int (-2)]) (rest := []) ⟨hx, hb, hml, hown, htg⟩ (c_X6_refuse l D E G _ a C hT ((-2) : Int32)) (cwV 1 htg (oh_gV q_296 q_298 q_0 q_66 q_299) rfl rfl rfl pdVX6_refuse ⟨Nat.le_of_ble_eq_true rfl, Nat.le_of_ble_eq_true rfl⟩) hK hP hD hG hS hA (va_recv hK hP (ci := 6) (q0 := 0) rfl (oh_wg (by decide) (sX_0 hT))) rfl hl.1 rfl (Nat.le_of_ble_eq_true rfl) dX6_roadOf_21 ⟨Nat.le_of_ble_eq_true rfl, Nat.le_of_ble_eq_true rfl⟩ (fun r_18 C_19 H locs hq_20 hP hD hS => ?_)
      obtain ⟨hT, f_21, hq_20⟩ := hq_20
      have hF := fr_tr hF f_21 (by decide) (by decide)
      refine W.widen (k := 0) (n := 0) (Nat.le_refl _) (Nat.le_refl _) ?_
      have t_22 := hT
      rw [hQ]
      exact W.iret (v := r_18) hx hb hr (fun t ht hW => ⟨⟨r_18, C_19, rfl, ⟨hT, hF, (fun A hA => Eq.trans hq_20 (pif_neg (fun h8 => u_17 h8.2)).symm)⟩, ⟨by rw [ht]; exact hP, hD⟩⟩, hS.F ht⟩) hS.2.2 dX6_roadOf_24

set_option maxHeartbeats 4000000 in
set_option maxRecDepth 100000 in
theorem e_X0_waggonLength (l : Launch) (D : va_G) (E : Nat → ClassId) (G : Nat → Nat) (a : Nat → Nat) (C : Nat → va_E) (hT : TyX a E C) (x1 : Int32) (hx1 : rg x1 0 4) : Met l yX0_waggonLength (oh_w yX0_waggonLength cX0_waggonLength 2 (some .int)) ({ frames := 1, cells := 0, slots := 0, locals := 22 }) (oh_Pp D E G [.ref (a 1), .int x1] (oh_W 35 a C)) (vp_Si (fun r => r = ((ga (C 13) ((x1 * 3) + 1).toNatClampNeg) * ((ga (C 13) ((x1 * 3) + 0).toNatClampNeg) - 1)) + 4)) 0 0 (fun _ => False) := by
  refine Met.ofW (cc := cX0_waggonLength) (maxL := 2) (ret := (some .int)) (by decide) rfl ?_
  intro p e s m args below meth c s₁ B hml hv
  obtain ⟨rfl, hP, hK, hG⟩ := hv
  have hx := B.exec
  have hb := B.bytes
  have hr := B.returns
  have hts := atoms_spec (ws := (oh_w yX0_waggonLength cX0_waggonLength 2 (some .int))) B.pre
  have htg : ∀ w ∈ oh_t, w.before _ s = true := fun w h => hts w (List.mem_cons_of_mem _ h)
  have hown : s.vm.findClass RX0 = some m.cls := findClass_of_methodNamed B.named
  have hlocks := B.notSynchronized
  have hT0 := hT
  have hS : va_S (fun _ => False) s.heap s.heap [] := va_S.rf
  have hl := lv_entry ([.ref (a 1), .int x1]) (n := 2) (Nat.le_of_ble_eq_true rfl)
  rw [lg_entry_eq]
  generalize (lg_sl ([.ref (a 1), .int x1]) ++ List.replicate (2 - (lg_sl ([.ref (a 1), .int x1])).length) Slot.unset).toArray = ls at hl ⊢
  have hl : lv_has ls 2 [(0, .ref (a 1)), (1, .int x1)] := hl
  refine oh_genQ (fun Q hQ => ?_)
  refine lv_aload_n hx hb dX0_waggonLength_0 rfl (lv_at hl 0 rfl) ?_
  refine lv_iload_n hx hb dX0_waggonLength_1 rfl (lv_at hl 1 rfl) ?_
  refine lv_iconst (v := 1) hx hb dX0_waggonLength_2 (by decide) ?_
  refine tq_V (As := [.int x1, .int 1]) (rest := []) (ws := (oh_W 35 a C)) ⟨hx, hb, hml, hown, htg⟩ (c_X0_ofWaggon l D E G a C hT x1 (1 : Int32) (rg_w hx1 (by decide)) (rg_w (rg_c (v := 1) (lo := 1) (hi := 1) (by decide)) (by decide))) (cwV 2 htg (oh_gV q_687 q_688 q_689 q_67 q_690) rfl rfl rfl pdVX0_ofWaggon ⟨Nat.le_of_ble_eq_true rfl, Nat.le_of_ble_eq_true rfl⟩) hK hP hG hS (va_recv hK hP (ci := 0) (q0 := 1) rfl (oh_wg (by decide) (sX_1 hT))) rfl hl.1 rfl (Nat.le_of_ble_eq_true rfl) dX0_waggonLength_3 ⟨Nat.le_of_ble_eq_true rfl, Nat.le_of_ble_eq_true rfl⟩ (fun r_1 hq_2 => ?_)
  subst hq_2
  refine lv_aload_n hx hb dX0_waggonLength_6 rfl (lv_at hl 0 rfl) ?_
  refine lv_iload_n hx hb dX0_waggonLength_7 rfl (lv_at hl 1 rfl) ?_
  refine lv_iconst (v := 0) hx hb dX0_waggonLength_8 (by decide) ?_
  refine tq_V (As := [.int x1, .int 0]) (rest := [.int (ga (C 13) ((x1 * 3) + 1).toNatClampNeg)]) (ws := (oh_W 35 a C)) ⟨hx, hb, hml, hown, htg⟩ (c_X0_ofWaggon l D E G a C hT x1 (0 : Int32) (rg_w hx1 (by decide)) (rg_w (rg_c (v := 0) (lo := 0) (hi := 0) (by decide)) (by decide))) (cwV 2 htg (oh_gV q_687 q_688 q_689 q_67 q_690) rfl rfl rfl pdVX0_ofWaggon ⟨Nat.le_of_ble_eq_true rfl, Nat.le_of_ble_eq_true rfl⟩) hK hP hG hS (va_recv hK hP (ci := 0) (q0 := 1) rfl (oh_wg (by decide) (sX_1 hT))) rfl hl.1 rfl (Nat.le_of_ble_eq_true rfl) dX0_waggonLength_9 ⟨Nat.le_of_ble_eq_true rfl, Nat.le_of_ble_eq_true rfl⟩ (fun r_3 hq_4 => ?_)
  subst hq_4
  refine lv_iconst (v := 1) hx hb dX0_waggonLength_12 (by decide) ?_
  refine lv_isub hx hb dX0_waggonLength_13 ?_
  refine lv_imul hx hb dX0_waggonLength_14 ?_
  refine lv_iconst (v := 4) hx hb dX0_waggonLength_15 (by decide) ?_
  refine lv_iadd hx hb dX0_waggonLength_16 ?_
  rw [hQ]
  exact W.iret (v := ((ga (C 13) ((x1 * 3) + 1).toNatClampNeg) * ((ga (C 13) ((x1 * 3) + 0).toNatClampNeg) - 1)) + 4) hx hb hr (fun t ht hW => ⟨((ga (C 13) ((x1 * 3) + 1).toNatClampNeg) * ((ga (C 13) ((x1 * 3) + 0).toNatClampNeg) - 1)) + 4, rfl, rfl, ht⟩) (fun q h => by cases h) dX0_waggonLength_17

set_option maxHeartbeats 4000000 in
set_option maxRecDepth 100000 in
theorem e_X6_length (l : Launch) (D : va_G) (E : Nat → ClassId) (G : Nat → Nat) (sz : Nat) (a : Nat → Nat) (C : Nat → va_E) (hT : TyX a E C) (x1 : Int32) : Met l yX6_length (oh_w yX6_length cX6_length 2 (some .int)) ({ frames := 2, cells := 0, slots := 0, locals := 44 }) (oh_Pm D E G [.ref (a 0), .int x1] (oh_W 35 a C) sz) (va_Qi (fun r (u : Nat → va_E) => TyX a E u ∧ fr [(7, 8)] [] C u ∧ (∀ A : LA, absX 10 C A → r = spLen A x1)) (oh_B D (va_A (oh_W 35 a C) sz) (fun u => oh_W 35 a u)) (va_A (oh_W 35 a C) sz)) 0 0 (va_A (oh_W 35 a C) sz) := by
  refine Met.ofW (cc := cX6_length) (maxL := 2) (ret := (some .int)) (by decide) rfl ?_
  intro p e s m args below meth c s₁ B hml hv
  obtain ⟨rfl, hsz, hP, hK, hD0, hG⟩ := hv
  have hx := B.exec
  have hb := B.bytes
  have hr := B.returns
  have hts := atoms_spec (ws := (oh_w yX6_length cX6_length 2 (some .int))) B.pre
  have htg : ∀ w ∈ oh_t, w.before _ s = true := fun w h => hts w (List.mem_cons_of_mem _ h)
  have hown : s.vm.findClass RX6 = some m.cls := findClass_of_methodNamed B.named
  have hlocks := B.notSynchronized
  have hT0 := hT
  subst hsz
  have hD := hD0.self (sz := s.heap.size)
  generalize hAe : va_A (oh_W 35 a C) s.heap.size = A at hD hG ⊢
  have hA : ∀ q : Nat, s.heap.size ≤ q → A q := fun q h => by rw [← hAe]; exact Or.inr h
  have hS : va_S A s.heap s.heap [] := va_S.rf
  have hF : fr [(7, 8)] [] C C := fr_rf
  have hl := lv_entry ([.ref (a 0), .int x1]) (n := 2) (Nat.le_of_ble_eq_true rfl)
  rw [lg_entry_eq]
  generalize (lg_sl ([.ref (a 0), .int x1]) ++ List.replicate (2 - (lg_sl ([.ref (a 0), .int x1])).length) Slot.unset).toArray = ls at hl ⊢
  have hl : lv_has ls 2 [(0, .ref (a 0)), (1, .int x1)] := hl
  refine oh_genQ (fun Q hQ => ?_)
  refine lv_aload_n hx hb dX6_length_0 rfl (lv_at hl 0 rfl) ?_
  refine lv_iload_n hx hb dX6_length_1 rfl (lv_at hl 1 rfl) ?_
  refine tq_V (As := [.int x1]) (rest := []) (ws := (oh_W 35 a C)) ⟨hx, hb, hml, hown, htg⟩ (e_X6_isWaggon l D E G a C hT x1) (cwV 1 htg (oh_gV q_679 q_681 q_15 q_66 q_682) rfl rfl rfl pdVX6_isWaggon ⟨Nat.le_of_ble_eq_true rfl, Nat.le_of_ble_eq_true rfl⟩) hK hP hG hS (va_recv hK hP (ci := 6) (q0 := 0) rfl (oh_wg (by decide) (sX_0 hT))) rfl hl.1 rfl (Nat.le_of_ble_eq_true rfl) dX6_length_2 ⟨Nat.le_of_ble_eq_true rfl, Nat.le_of_ble_eq_true rfl⟩ (fun r_1 hq_2 => ?_)
  refine lv_if_ne (tgt := 15) hx hb dX6_length_5 (by decide) (fun (c_3 : ¬ (r_1 = 0)) => ?_) (fun (c_3 : r_1 = 0) => ?_)
  · have u_4 := hq_2.2.1 c_3
    refine lv_aload_n hx hb dX6_length_15 rfl (lv_at hl 0 rfl) ?_
    refine va_get (D := D) (ci := 6) (v := .ref (a 1)) (C := RX6) (T := TX6) (N := 9) hx hb htg ig_6 hown hK hP 0 (oh_wg (by decide) (sX_0 hT)) rfl 0 (by decide) (htg _ q_258) (fun _ h9 => h9) rfl dX6_length_16 ?_
    refine lv_iload_n hx hb dX6_length_19 rfl (lv_at hl 1 rfl) ?_
    refine tq_V (As := [.int x1]) (rest := []) (ws := (oh_W 35 a C)) ⟨hx, hb, hml, hown, htg⟩ (e_X0_waggonLength l D E G a C hT x1 (rg_w u_4.1 (by decide))) (cwV 1 htg (oh_gV q_683 q_684 q_685 q_67 q_686) rfl rfl rfl pdVX0_waggonLength ⟨Nat.le_of_ble_eq_true rfl, Nat.le_of_ble_eq_true rfl⟩) hK hP hG hS (va_recv hK hP (ci := 0) (q0 := 1) rfl (oh_wg (by decide) (sX_1 hT))) rfl hl.1 rfl (Nat.le_of_ble_eq_true rfl) dX6_length_20 ⟨Nat.le_of_ble_eq_true rfl, Nat.le_of_ble_eq_true rfl⟩ (fun r_5 hq_6 => ?_)
    subst hq_6
    rw [hQ]
    exact W.iret (v := ((ga (C 13) ((x1 * 3) + 1).toNatClampNeg) * ((ga (C 13) ((x1 * 3) + 0).toNatClampNeg) - 1)) + 4) hx hb hr (fun t ht hW => ⟨⟨((ga (C 13) ((x1 * 3) + 1).toNatClampNeg) * ((ga (C 13) ((x1 * 3) + 0).toNatClampNeg) - 1)) + 4, C, rfl, ⟨hT, hF, (fun A hA => Eq.trans (by rw [(show ga (C 13) (x1 * 3 + 1).toNatClampNeg = A 2 x1.toNatClampNeg 1 from colX_v (t := 2) (w := 1) hA (by decide) (rg_w (lo := 0) (hi := 4) u_4.1 (by decide)) rfl (rg_c (v := 1) (lo := 0) (hi := 1) (by decide)) (by decide) (show 0 ≤ x1 ∧ x1 < A 5 0 2 by rw [← (show ga (C 10) ((2 : Int32)).toNatClampNeg = A 5 0 2 from hA.1 2 (by decide))]; exact u_4.2).2 (by unfold vis; omega)), (show ga (C 13) (x1 * 3 + 0).toNatClampNeg = A 2 x1.toNatClampNeg 0 from colX_v (t := 2) (w := 0) hA (by decide) (rg_w (lo := 0) (hi := 4) u_4.1 (by decide)) rfl (rg_c (v := 0) (lo := 0) (hi := 0) (by decide)) (by decide) (show 0 ≤ x1 ∧ x1 < A 5 0 2 by rw [← (show ga (C 10) ((2 : Int32)).toNatClampNeg = A 5 0 2 from hA.1 2 (by decide))]; exact u_4.2).2 (by unfold vis; omega))]) (pif_pos (show 0 ≤ x1 ∧ x1 < A 5 0 2 by rw [← (show ga (C 10) ((2 : Int32)).toNatClampNeg = A 5 0 2 from hA.1 2 (by decide))]; exact u_4.2)).symm)⟩, ⟨by rw [ht]; exact hP, hD⟩⟩, hS.F ht⟩) hS.2.2 dX6_length_23
  · have u_7 := hq_2.2.2 c_3
    refine lv_aload_n hx hb dX6_length_8 rfl (lv_at hl 0 rfl) ?_
    refine lv_bipush (v := (-2)) hx hb dX6_length_9 (by decide) ?_
    refine tm_V (As := [.int (-2)]) (rest := []) ⟨hx, hb, hml, hown, htg⟩ (c_X6_refuse l D E G _ a C hT ((-2) : Int32)) (cwV 1 htg (oh_gV q_296 q_298 q_0 q_66 q_299) rfl rfl rfl pdVX6_refuse ⟨Nat.le_of_ble_eq_true rfl, Nat.le_of_ble_eq_true rfl⟩) hK hP hD hG hS hA (va_recv hK hP (ci := 6) (q0 := 0) rfl (oh_wg (by decide) (sX_0 hT))) rfl hl.1 rfl (Nat.le_of_ble_eq_true rfl) dX6_length_11 ⟨Nat.le_of_ble_eq_true rfl, Nat.le_of_ble_eq_true rfl⟩ (fun r_8 C_9 H locs hq_10 hP hD hS => ?_)
    obtain ⟨hT, f_11, hq_10⟩ := hq_10
    have hF := fr_tr hF f_11 (by decide) (by decide)
    refine W.widen (k := 0) (n := 0) (Nat.le_refl _) (Nat.le_refl _) ?_
    have t_12 := hT
    rw [hQ]
    exact W.iret (v := r_8) hx hb hr (fun t ht hW => ⟨⟨r_8, C_9, rfl, ⟨hT, hF, (fun A hA => Eq.trans hq_10 (pif_neg (by rw [← (show ga (C 10) ((2 : Int32)).toNatClampNeg = A 5 0 2 from hA.1 2 (by decide))]; exact u_7)).symm)⟩, ⟨by rw [ht]; exact hP, hD⟩⟩, hS.F ht⟩) hS.2.2 dX6_length_14

set_option maxHeartbeats 4000000 in
set_option maxRecDepth 100000 in
theorem e_X0_setsOfParts (l : Launch) (D : va_G) (E : Nat → ClassId) (G : Nat → Nat) (a : Nat → Nat) (C : Nat → va_E) (hT : TyX a E C) : Met l yX0_setsOfParts (oh_w yX0_setsOfParts cX0_setsOfParts 1 (some .int)) ({ frames := 0, cells := 0, slots := 0, locals := 0 }) (oh_Pp D E G [.ref (a 1)] (oh_W 35 a C)) (vp_Si (fun r => r = (1 : Int32) <<< ((ga (C 10) ((3 : Int32)).toNatClampNeg) &&& 31))) 0 0 (fun _ => False) := by
  refine Met.ofW (cc := cX0_setsOfParts) (maxL := 1) (ret := (some .int)) (by decide) rfl ?_
  intro p e s m args below meth c s₁ B hml hv
  obtain ⟨rfl, hP, hK, hG⟩ := hv
  have hx := B.exec
  have hb := B.bytes
  have hr := B.returns
  have hts := atoms_spec (ws := (oh_w yX0_setsOfParts cX0_setsOfParts 1 (some .int))) B.pre
  have htg : ∀ w ∈ oh_t, w.before _ s = true := fun w h => hts w (List.mem_cons_of_mem _ h)
  have hown : s.vm.findClass RX0 = some m.cls := findClass_of_methodNamed B.named
  have hlocks := B.notSynchronized
  have hT0 := hT
  have hS : va_S (fun _ => False) s.heap s.heap [] := va_S.rf
  have hl := lv_entry ([.ref (a 1)]) (n := 1) (Nat.le_of_ble_eq_true rfl)
  rw [lg_entry_eq]
  generalize (lg_sl ([.ref (a 1)]) ++ List.replicate (1 - (lg_sl ([.ref (a 1)])).length) Slot.unset).toArray = ls at hl ⊢
  have hl : lv_has ls 1 [(0, .ref (a 1))] := hl
  refine oh_genQ (fun Q hQ => ?_)
  refine lv_iconst (v := 1) hx hb dX0_setsOfParts_0 (by decide) ?_
  refine lv_aload_n hx hb dX0_setsOfParts_1 rfl (lv_at hl 0 rfl) ?_
  refine va_get (D := D) (ci := 0) (v := .ref (a 10)) (C := RX0) (T := TX0) (N := 8) hx hb htg ig_0 hown hK hP 1 (oh_wg (by decide) (sX_1 hT)) rfl 0 (by decide) (htg _ q_97) (fun _ h9 => h9) rfl dX0_setsOfParts_2 ?_
  refine lv_iconst (v := 3) hx hb dX0_setsOfParts_5 (by decide) ?_
  refine th_iald hx hb hK hP 10 (by decide) (sX_10 hT) (rg_in (rg_c (v := 3) (lo := 3) (hi := 3) (by decide)) (by decide)) dX0_setsOfParts_6 ?_
  refine lv_ishl hx hb dX0_setsOfParts_7 ?_
  rw [hQ]
  exact W.iret (v := (1 : Int32) <<< ((ga (C 10) ((3 : Int32)).toNatClampNeg) &&& 31)) hx hb hr (fun t ht hW => ⟨(1 : Int32) <<< ((ga (C 10) ((3 : Int32)).toNatClampNeg) &&& 31), rfl, rfl, ht⟩) (fun q h => by cases h) dX0_setsOfParts_8

set_option maxHeartbeats 4000000 in
set_option maxRecDepth 100000 in
theorem e_X6_isPack (l : Launch) (D : va_G) (E : Nat → ClassId) (G : Nat → Nat) (a : Nat → Nat) (C : Nat → va_E) (hT : TyX a E C) (x1 : Int32) (x2 : Int32) : Met l yX6_isPack (oh_w yX6_isPack cX6_isPack 3 (some .boolean)) ({ frames := 2, cells := 0, slots := 0, locals := 43 }) (oh_Pp D E G [.ref (a 0), .int x1, .int x2] (oh_W 35 a C)) (vp_Si (fun r => (r = 0 ∨ r = 1) ∧ (r ≠ 0 → rg x1 0 4 ∧ (okPk (ga (C 10) ((2 : Int32)).toNatClampNeg) (ga (C 10) ((3 : Int32)).toNatClampNeg) x1 x2)) ∧ (r = 0 → (¬ okPk (ga (C 10) ((2 : Int32)).toNatClampNeg) (ga (C 10) ((3 : Int32)).toNatClampNeg) x1 x2)))) 0 0 (fun _ => False) := by
  refine Met.ofW (cc := cX6_isPack) (maxL := 3) (ret := (some .boolean)) (by decide) rfl ?_
  intro p e s m args below meth c s₁ B hml hv
  obtain ⟨rfl, hP, hK, hG⟩ := hv
  have hx := B.exec
  have hb := B.bytes
  have hr := B.returns
  have hts := atoms_spec (ws := (oh_w yX6_isPack cX6_isPack 3 (some .boolean))) B.pre
  have htg : ∀ w ∈ oh_t, w.before _ s = true := fun w h => hts w (List.mem_cons_of_mem _ h)
  have hown : s.vm.findClass RX6 = some m.cls := findClass_of_methodNamed B.named
  have hlocks := B.notSynchronized
  have hT0 := hT
  have hS : va_S (fun _ => False) s.heap s.heap [] := va_S.rf
  have hl := lv_entry ([.ref (a 0), .int x1, .int x2]) (n := 3) (Nat.le_of_ble_eq_true rfl)
  rw [lg_entry_eq]
  generalize (lg_sl ([.ref (a 0), .int x1, .int x2]) ++ List.replicate (3 - (lg_sl ([.ref (a 0), .int x1, .int x2])).length) Slot.unset).toArray = ls at hl ⊢
  have hl : lv_has ls 3 [(0, .ref (a 0)), (1, .int x1), (2, .int x2)] := hl
  refine oh_genQ (fun Q hQ => ?_)
  refine lv_aload_n hx hb dX6_isPack_0 rfl (lv_at hl 0 rfl) ?_
  refine lv_iload_n hx hb dX6_isPack_1 rfl (lv_at hl 1 rfl) ?_
  refine tq_V (As := [.int x1]) (rest := []) (ws := (oh_W 35 a C)) ⟨hx, hb, hml, hown, htg⟩ (e_X6_isWaggon l D E G a C hT x1) (cwV 1 htg (oh_gV q_679 q_681 q_15 q_66 q_682) rfl rfl rfl pdVX6_isWaggon ⟨Nat.le_of_ble_eq_true rfl, Nat.le_of_ble_eq_true rfl⟩) hK hP hG hS (va_recv hK hP (ci := 6) (q0 := 0) rfl (oh_wg (by decide) (sX_0 hT))) rfl hl.1 rfl (Nat.le_of_ble_eq_true rfl) dX6_isPack_2 ⟨Nat.le_of_ble_eq_true rfl, Nat.le_of_ble_eq_true rfl⟩ (fun r_1 hq_2 => ?_)
  refine lv_if_eq (tgt := 29) hx hb dX6_isPack_5 (by decide) (fun (c_3 : r_1 = 0) => ?_) (fun (c_3 : ¬ (r_1 = 0)) => ?_)
  · have u_4 := hq_2.2.2 c_3
    refine lv_iconst (v := 0) hx hb dX6_isPack_29 (by decide) ?_
    rw [hQ]
    exact W.zret (v := 0) (ty := .boolean) hx hb hr (by decide) (fun t ht hW => ⟨0, rfl, ⟨(Or.inl rfl), (fun h9 => absurd rfl h9), (fun _ => (fun h8 => u_4 h8.1))⟩, ht⟩) (fun q h => by cases h) dX6_isPack_30
  · have u_5 := hq_2.2.1 c_3
    refine lv_iload_n hx hb dX6_isPack_8 rfl (lv_at hl 2 rfl) ?_
    refine lv_iconst (v := 0) hx hb dX6_isPack_9 (by decide) ?_
    refine lv_aload_n hx hb dX6_isPack_10 rfl (lv_at hl 0 rfl) ?_
    refine va_get (D := D) (ci := 6) (v := .ref (a 1)) (C := RX6) (T := TX6) (N := 9) hx hb htg ig_6 hown hK hP 0 (oh_wg (by decide) (sX_0 hT)) rfl 0 (by decide) (htg _ q_258) (fun _ h9 => h9) rfl dX6_isPack_11 ?_
    refine tq_V (As := []) (rest := [.int 0, .int x2]) (ws := (oh_W 35 a C)) ⟨hx, hb, hml, hown, htg⟩ (e_X0_setsOfParts l D E G a C hT) (cwV 0 htg (oh_gV q_699 q_700 q_701 q_67 q_702) rfl rfl rfl pdVX0_setsOfParts ⟨Nat.le_of_ble_eq_true rfl, Nat.le_of_ble_eq_true rfl⟩) hK hP hG hS (va_recv hK hP (ci := 0) (q0 := 1) rfl (oh_wg (by decide) (sX_1 hT))) rfl hl.1 rfl (Nat.le_of_ble_eq_true rfl) dX6_isPack_14 ⟨Nat.le_of_ble_eq_true rfl, Nat.le_of_ble_eq_true rfl⟩ (fun r_6 hq_7 => ?_)
    subst hq_7
    refine lv_iconst (v := 1) hx hb dX6_isPack_17 (by decide) ?_
    refine lv_isub hx hb dX6_isPack_18 ?_
    refine tq_S (As := [.int x2, .int 0, .int (((1 : Int32) <<< ((ga (C 10) ((3 : Int32)).toNatClampNeg) &&& 31)) - 1)]) (rest := []) (ws := []) ⟨hx, hb, hml, hown, htg⟩ (c_X6_within l D E G x2 (0 : Int32) (((1 : Int32) <<< ((ga (C 10) ((3 : Int32)).toNatClampNeg) &&& 31)) - 1)) (va_cwS 3 htg (oh_gS q_293 q_294 q_66 q_295) rfl rfl rfl pdX6_within ⟨Nat.le_of_ble_eq_true rfl, Nat.le_of_ble_eq_true rfl⟩) hK va_nil hG hS rfl hl.1 rfl (Nat.le_of_ble_eq_true rfl) dX6_isPack_19 ⟨Nat.le_of_ble_eq_true rfl, Nat.le_of_ble_eq_true rfl⟩ (fun r_8 hq_9 => ?_)
    refine lv_if_eq (tgt := 29) hx hb dX6_isPack_22 (by decide) (fun (c_10 : r_8 = 0) => ?_) (fun (c_10 : ¬ (r_8 = 0)) => ?_)
    · have u_11 := hq_9.2.2 c_10
      refine lv_iconst (v := 0) hx hb dX6_isPack_29 (by decide) ?_
      rw [hQ]
      exact W.zret (v := 0) (ty := .boolean) hx hb hr (by decide) (fun t ht hW => ⟨0, rfl, ⟨(Or.inl rfl), (fun h9 => absurd rfl h9), (fun _ => (fun h8 => u_11 h8.2))⟩, ht⟩) (fun q h => by cases h) dX6_isPack_30
    · have u_12 := hq_9.2.1 c_10
      refine lv_iconst (v := 1) hx hb dX6_isPack_25 (by decide) ?_
      refine lv_goto (tgt := 30) hx hb dX6_isPack_26 (by decide) ?_
      rw [hQ]
      exact W.zret (v := 1) (ty := .boolean) hx hb hr (by decide) (fun t ht hW => ⟨1, rfl, ⟨(Or.inr rfl), (fun _ => ⟨(rg_w u_5.1 (by decide)), ⟨u_5.2, ⟨u_12.1, u_12.2⟩⟩⟩), (fun h9 => absurd h9 (by decide))⟩, ht⟩) (fun q h => by cases h) dX6_isPack_30

set_option maxHeartbeats 4000000 in
set_option maxRecDepth 100000 in
theorem e_X6_isJourney (l : Launch) (D : va_G) (E : Nat → ClassId) (G : Nat → Nat) (a : Nat → Nat) (C : Nat → va_E) (hT : TyX a E C) (x1 : Int32) (x2 : Int32) (x3 : Int32) (x4 : Int32) : Met l yX6_isJourney (oh_w yX6_isJourney cX6_isJourney 5 (some .boolean)) ({ frames := 3, cells := 0, slots := 0, locals := 65 }) (oh_Pp D E G [.ref (a 0), .int x1, .int x2, .int x3, .int x4] (oh_W 35 a C)) (vp_Si (fun r => (r = 0 ∨ r = 1) ∧ (r ≠ 0 → rg x1 0 4 ∧ rg x3 0 15 ∧ rg x4 0 15 ∧ (okPk (ga (C 10) ((2 : Int32)).toNatClampNeg) (ga (C 10) ((3 : Int32)).toNatClampNeg) x1 x2 ∧ ((0 : Int32) ≤ x3 ∧ x3 ≤ 15) ∧ ((0 : Int32) ≤ x4 ∧ x4 ≤ 15))) ∧ (r = 0 → (¬ (okPk (ga (C 10) ((2 : Int32)).toNatClampNeg) (ga (C 10) ((3 : Int32)).toNatClampNeg) x1 x2 ∧ ((0 : Int32) ≤ x3 ∧ x3 ≤ 15) ∧ ((0 : Int32) ≤ x4 ∧ x4 ≤ 15)))))) 0 0 (fun _ => False) := by
  refine Met.ofW (cc := cX6_isJourney) (maxL := 5) (ret := (some .boolean)) (by decide) rfl ?_
  intro p e s m args below meth c s₁ B hml hv
  obtain ⟨rfl, hP, hK, hG⟩ := hv
  have hx := B.exec
  have hb := B.bytes
  have hr := B.returns
  have hts := atoms_spec (ws := (oh_w yX6_isJourney cX6_isJourney 5 (some .boolean))) B.pre
  have htg : ∀ w ∈ oh_t, w.before _ s = true := fun w h => hts w (List.mem_cons_of_mem _ h)
  have hown : s.vm.findClass RX6 = some m.cls := findClass_of_methodNamed B.named
  have hlocks := B.notSynchronized
  have hT0 := hT
  have hS : va_S (fun _ => False) s.heap s.heap [] := va_S.rf
  have hl := lv_entry ([.ref (a 0), .int x1, .int x2, .int x3, .int x4]) (n := 5) (Nat.le_of_ble_eq_true rfl)
  rw [lg_entry_eq]
  generalize (lg_sl ([.ref (a 0), .int x1, .int x2, .int x3, .int x4]) ++ List.replicate (5 - (lg_sl ([.ref (a 0), .int x1, .int x2, .int x3, .int x4])).length) Slot.unset).toArray = ls at hl ⊢
  have hl : lv_has ls 5 [(0, .ref (a 0)), (1, .int x1), (2, .int x2), (3, .int x3), (4, .int x4)] := hl
  refine oh_genQ (fun Q hQ => ?_)
  refine lv_aload_n hx hb dX6_isJourney_0 rfl (lv_at hl 0 rfl) ?_
  refine lv_iload_n hx hb dX6_isJourney_1 rfl (lv_at hl 1 rfl) ?_
  refine lv_iload_n hx hb dX6_isJourney_2 rfl (lv_at hl 2 rfl) ?_
  refine tq_V (As := [.int x1, .int x2]) (rest := []) (ws := (oh_W 35 a C)) ⟨hx, hb, hml, hown, htg⟩ (e_X6_isPack l D E G a C hT x1 x2) (cwV 2 htg (oh_gV q_695 q_697 q_16 q_66 q_698) rfl rfl rfl pdVX6_isPack ⟨Nat.le_of_ble_eq_true rfl, Nat.le_of_ble_eq_true rfl⟩) hK hP hG hS (va_recv hK hP (ci := 6) (q0 := 0) rfl (oh_wg (by decide) (sX_0 hT))) rfl hl.1 rfl (Nat.le_of_ble_eq_true rfl) dX6_isJourney_3 ⟨Nat.le_of_ble_eq_true rfl, Nat.le_of_ble_eq_true rfl⟩ (fun r_1 hq_2 => ?_)
  refine lv_if_eq (tgt := 28) hx hb dX6_isJourney_6 (by decide) (fun (c_3 : r_1 = 0) => ?_) (fun (c_3 : ¬ (r_1 = 0)) => ?_)
  · have u_4 := hq_2.2.2 c_3
    refine lv_iconst (v := 0) hx hb dX6_isJourney_28 (by decide) ?_
    rw [hQ]
    exact W.zret (v := 0) (ty := .boolean) hx hb hr (by decide) (fun t ht hW => ⟨0, rfl, ⟨(Or.inl rfl), (fun h9 => absurd rfl h9), (fun _ => (fun h8 => u_4 h8.1))⟩, ht⟩) (fun q h => by cases h) dX6_isJourney_29
  · have u_5 := hq_2.2.1 c_3
    refine lv_iload_n hx hb dX6_isJourney_9 rfl (lv_at hl 3 rfl) ?_
    refine tq_S (As := [.int x3]) (rest := []) (ws := []) ⟨hx, hb, hml, hown, htg⟩ (e_X6_isPlace l D E G x3) (va_cwS 1 htg (oh_gS q_413 q_414 q_66 q_415) rfl rfl rfl pdX6_isPlace ⟨Nat.le_of_ble_eq_true rfl, Nat.le_of_ble_eq_true rfl⟩) hK va_nil hG hS rfl hl.1 rfl (Nat.le_of_ble_eq_true rfl) dX6_isJourney_10 ⟨Nat.le_of_ble_eq_true rfl, Nat.le_of_ble_eq_true rfl⟩ (fun r_6 hq_7 => ?_)
    refine lv_if_eq (tgt := 28) hx hb dX6_isJourney_13 (by decide) (fun (c_8 : r_6 = 0) => ?_) (fun (c_8 : ¬ (r_6 = 0)) => ?_)
    · have u_9 := hq_7.2.2 c_8
      refine lv_iconst (v := 0) hx hb dX6_isJourney_28 (by decide) ?_
      rw [hQ]
      exact W.zret (v := 0) (ty := .boolean) hx hb hr (by decide) (fun t ht hW => ⟨0, rfl, ⟨(Or.inl rfl), (fun h9 => absurd rfl h9), (fun _ => (fun h8 => u_9 h8.2.1))⟩, ht⟩) (fun q h => by cases h) dX6_isJourney_29
    · have u_10 := hq_7.2.1 c_8
      refine lv_iload hx hb dX6_isJourney_16 (lv_at hl 4 rfl) ?_
      refine tq_S (As := [.int x4]) (rest := []) (ws := []) ⟨hx, hb, hml, hown, htg⟩ (e_X6_isPlace l D E G x4) (va_cwS 1 htg (oh_gS q_413 q_414 q_66 q_415) rfl rfl rfl pdX6_isPlace ⟨Nat.le_of_ble_eq_true rfl, Nat.le_of_ble_eq_true rfl⟩) hK va_nil hG hS rfl hl.1 rfl (Nat.le_of_ble_eq_true rfl) dX6_isJourney_18 ⟨Nat.le_of_ble_eq_true rfl, Nat.le_of_ble_eq_true rfl⟩ (fun r_11 hq_12 => ?_)
      refine lv_if_eq (tgt := 28) hx hb dX6_isJourney_21 (by decide) (fun (c_13 : r_11 = 0) => ?_) (fun (c_13 : ¬ (r_11 = 0)) => ?_)
      · have u_14 := hq_12.2.2 c_13
        refine lv_iconst (v := 0) hx hb dX6_isJourney_28 (by decide) ?_
        rw [hQ]
        exact W.zret (v := 0) (ty := .boolean) hx hb hr (by decide) (fun t ht hW => ⟨0, rfl, ⟨(Or.inl rfl), (fun h9 => absurd rfl h9), (fun _ => (fun h8 => u_14 h8.2.2))⟩, ht⟩) (fun q h => by cases h) dX6_isJourney_29
      · have u_15 := hq_12.2.1 c_13
        refine lv_iconst (v := 1) hx hb dX6_isJourney_24 (by decide) ?_
        refine lv_goto (tgt := 29) hx hb dX6_isJourney_25 (by decide) ?_
        rw [hQ]
        exact W.zret (v := 1) (ty := .boolean) hx hb hr (by decide) (fun t ht hW => ⟨1, rfl, ⟨(Or.inr rfl), (fun _ => ⟨(rg_w u_5.1 (by decide)), (rg_w u_10 (by decide)), (rg_w u_15 (by decide)), ⟨u_5.2, (oh_rgI (p := 0) (q := 15) (rg_w (lo := 0) (hi := 15) u_10 (by decide))), (oh_rgI (p := 0) (q := 15) (rg_w (lo := 0) (hi := 15) u_15 (by decide)))⟩⟩), (fun h9 => absurd h9 (by decide))⟩, ht⟩) (fun q h => by cases h) dX6_isJourney_29

set_option maxHeartbeats 4000000 in
set_option maxRecDepth 100000 in
theorem e_X6_begin (l : Launch) (D : va_G) (E : Nat → ClassId) (G : Nat → Nat) (sz : Nat) (a : Nat → Nat) (C : Nat → va_E) (hT : TyX a E C) (x1 : Int32) (x2 : Int32) (x3 : Int32) (x4 : Int32) : Met l yX6_begin (oh_w yX6_begin cX6_begin 5 (some .int)) ({ frames := 4, cells := 0, slots := 0, locals := 89 }) (oh_Pm D E G [.ref (a 0), .int x1, .int x2, .int x3, .int x4] (oh_W 35 a C) sz) (va_Qi (fun r (u : Nat → va_E) => TyX a E u ∧ fr [(1, 2), (7, 8), (9, 10), (16, 17)] [] C u ∧ (∀ A : LA, absX 10 C A → r = spBegin A x1 x2 x3 x4)) (oh_B D (va_A (oh_W 35 a C) sz) (fun u => oh_W 35 a u)) (va_A (oh_W 35 a C) sz)) 0 0 (va_A (oh_W 35 a C) sz) := by
  refine Met.ofW (cc := cX6_begin) (maxL := 5) (ret := (some .int)) (by decide) rfl ?_
  intro p e s m args below meth c s₁ B hml hv
  obtain ⟨rfl, hsz, hP, hK, hD0, hG⟩ := hv
  have hx := B.exec
  have hb := B.bytes
  have hr := B.returns
  have hts := atoms_spec (ws := (oh_w yX6_begin cX6_begin 5 (some .int))) B.pre
  have htg : ∀ w ∈ oh_t, w.before _ s = true := fun w h => hts w (List.mem_cons_of_mem _ h)
  have hown : s.vm.findClass RX6 = some m.cls := findClass_of_methodNamed B.named
  have hlocks := B.notSynchronized
  have hT0 := hT
  subst hsz
  have hD := hD0.self (sz := s.heap.size)
  generalize hAe : va_A (oh_W 35 a C) s.heap.size = A at hD hG ⊢
  have hA : ∀ q : Nat, s.heap.size ≤ q → A q := fun q h => by rw [← hAe]; exact Or.inr h
  have hS : va_S A s.heap s.heap [] := va_S.rf
  have hF : fr [(1, 2), (7, 8), (9, 10), (16, 17)] [] C C := fr_rf
  have hl := lv_entry ([.ref (a 0), .int x1, .int x2, .int x3, .int x4]) (n := 5) (Nat.le_of_ble_eq_true rfl)
  rw [lg_entry_eq]
  generalize (lg_sl ([.ref (a 0), .int x1, .int x2, .int x3, .int x4]) ++ List.replicate (5 - (lg_sl ([.ref (a 0), .int x1, .int x2, .int x3, .int x4])).length) Slot.unset).toArray = ls at hl ⊢
  have hl : lv_has ls 5 [(0, .ref (a 0)), (1, .int x1), (2, .int x2), (3, .int x3), (4, .int x4)] := hl
  refine oh_genQ (fun Q hQ => ?_)
  refine lv_aload_n hx hb dX6_begin_0 rfl (lv_at hl 0 rfl) ?_
  refine lv_iload_n hx hb dX6_begin_1 rfl (lv_at hl 1 rfl) ?_
  refine lv_iload_n hx hb dX6_begin_2 rfl (lv_at hl 2 rfl) ?_
  refine lv_iload_n hx hb dX6_begin_3 rfl (lv_at hl 3 rfl) ?_
  refine lv_iload hx hb dX6_begin_4 (lv_at hl 4 rfl) ?_
  refine tq_V (As := [.int x1, .int x2, .int x3, .int x4]) (rest := []) (ws := (oh_W 35 a C)) ⟨hx, hb, hml, hown, htg⟩ (e_X6_isJourney l D E G a C hT x1 x2 x3 x4) (cwV 4 htg (oh_gV q_776 q_778 q_17 q_66 q_779) rfl rfl rfl pdVX6_isJourney ⟨Nat.le_of_ble_eq_true rfl, Nat.le_of_ble_eq_true rfl⟩) hK hP hG hS (va_recv hK hP (ci := 6) (q0 := 0) rfl (oh_wg (by decide) (sX_0 hT))) rfl hl.1 rfl (Nat.le_of_ble_eq_true rfl) dX6_begin_6 ⟨Nat.le_of_ble_eq_true rfl, Nat.le_of_ble_eq_true rfl⟩ (fun r_1 hq_2 => ?_)
  refine lv_if_ne (tgt := 19) hx hb dX6_begin_9 (by decide) (fun (c_3 : ¬ (r_1 = 0)) => ?_) (fun (c_3 : r_1 = 0) => ?_)
  · have u_4 := hq_2.2.1 c_3
    refine lv_aload_n hx hb dX6_begin_19 rfl (lv_at hl 0 rfl) ?_
    refine va_get (D := D) (ci := 6) (v := .ref (a 3)) (C := RX6) (T := TX6) (N := 9) hx hb htg ig_6 hown hK hP 0 (oh_wg (by decide) (sX_0 hT)) rfl 3 (by decide) (htg _ q_261) (fun _ h9 => h9) rfl dX6_begin_20 ?_
    refine va_get (D := D) (ci := 5) (v := .ref (a 9)) (C := RX5) (T := TX5) (N := 7) hx hb htg ig_5 hown hK hP 3 (oh_wg (by decide) (sX_3 hT)) rfl 1 (by decide) (htg _ q_169) (fun _ h9 => h9) rfl dX6_begin_23 ?_
    refine lv_aload_n hx hb dX6_begin_26 rfl (lv_at hl 0 rfl) ?_
    refine va_get (D := D) (ci := 6) (v := .ref (a 1)) (C := RX6) (T := TX6) (N := 9) hx hb htg ig_6 hown hK hP 0 (oh_wg (by decide) (sX_0 hT)) rfl 0 (by decide) (htg _ q_258) (fun _ h9 => h9) rfl dX6_begin_27 ?_
    refine lv_iload_n hx hb dX6_begin_30 rfl (lv_at hl 1 rfl) ?_
    refine lv_iload_n hx hb dX6_begin_31 rfl (lv_at hl 2 rfl) ?_
    refine tm_Vv (As := [.ref (a 1), .int x1, .int x2]) (rest := []) ⟨hx, hb, hml, hown, htg⟩ (c_X1_take l D E G _ a C hT x1 x2 (rg_w u_4.1 (by decide))) (cwV 3 htg (oh_gV q_703 q_704 q_705 q_69 q_706) rfl rfl rfl pdVX1_take ⟨Nat.le_of_ble_eq_true rfl, Nat.le_of_ble_eq_true rfl⟩) hK hP hD hG hS hA (va_recv hK hP (ci := 1) (q0 := 9) rfl (oh_wg (by decide) (sX_9 hT))) rfl hl.1 rfl (Nat.le_of_ble_eq_true rfl) dX6_begin_32 ⟨Nat.le_of_ble_eq_true rfl, Nat.le_of_ble_eq_true rfl⟩ (fun C_6 H locs hq_7 hP hD hS => ?_)
    obtain ⟨hT, f_8, hq_7⟩ := hq_7
    have hF := fr_tr hF f_8 (by decide) (by decide)
    refine W.widen (k := 0) (n := 0) (Nat.le_refl _) (Nat.le_refl _) ?_
    have t_9 := hT
    refine lv_aload_n hx hb dX6_begin_35 rfl (lv_at hl 0 rfl) ?_
    refine va_get (D := D) (ci := 6) (v := .ref (a 1)) (C := RX6) (T := TX6) (N := 9) hx hb htg ig_6 hown hK hP 0 (oh_wg (by decide) (sX_0 hT)) rfl 0 (by decide) (htg _ q_258) (fun _ h9 => h9) rfl dX6_begin_36 ?_
    refine lv_iload_n hx hb dX6_begin_39 rfl (lv_at hl 1 rfl) ?_
    refine lv_iload_n hx hb dX6_begin_40 rfl (lv_at hl 2 rfl) ?_
    refine lv_iload_n hx hb dX6_begin_41 rfl (lv_at hl 3 rfl) ?_
    refine lv_iload hx hb dX6_begin_42 (lv_at hl 4 rfl) ?_
    refine lv_aload_n hx hb dX6_begin_44 rfl (lv_at hl 0 rfl) ?_
    refine va_get (D := D) (ci := 6) (v := .ref (a 3)) (C := RX6) (T := TX6) (N := 9) hx hb htg ig_6 hown hK hP 0 (oh_wg (by decide) (sX_0 hT)) rfl 3 (by decide) (htg _ q_261) (fun _ h9 => h9) rfl dX6_begin_45 ?_
    refine va_get (D := D) (ci := 5) (v := .ref (a 9)) (C := RX5) (T := TX5) (N := 7) hx hb htg ig_5 hown hK hP 3 (oh_wg (by decide) (sX_3 hT)) rfl 1 (by decide) (htg _ q_169) (fun _ h9 => h9) rfl dX6_begin_48 ?_
    refine va_get (D := D) (ci := 1) (v := .int (gi (C_6 9) 4)) (C := RX1) (T := TX1) (N := 5) hx hb htg ig_1 hown hK hP 9 (oh_wg (by decide) (sX_9 hT)) rfl 4 (by decide) (htg _ q_154) (fun _ h9 => h9) rfl dX6_begin_51 ?_
    refine tm_Vv (As := [.int x1, .int x2, .int x3, .int x4, .int (gi (C_6 9) 4)]) (rest := []) ⟨hx, hb, hml, hown, htg⟩ (c_X0_startTrip l D E G _ a C_6 hT x1 x2 x3 x4 (gi (C_6 9) 4) (rg_w u_4.1 (by decide)) (rg_w u_4.2.1 (by decide)) (rg_w u_4.2.2.1 (by decide))) (cwV 5 htg (oh_gV q_908 q_909 q_910 q_67 q_911) rfl rfl rfl pdVX0_startTrip ⟨Nat.le_of_ble_eq_true rfl, Nat.le_of_ble_eq_true rfl⟩) hK hP hD hG hS hA (va_recv hK hP (ci := 0) (q0 := 1) rfl (oh_wg (by decide) (sX_1 hT))) rfl hl.1 rfl (Nat.le_of_ble_eq_true rfl) dX6_begin_54 ⟨Nat.le_of_ble_eq_true rfl, Nat.le_of_ble_eq_true rfl⟩ (fun C_11 H locs hq_12 hP hD hS => ?_)
    obtain ⟨hT, f_13, hq_12⟩ := hq_12
    have hF := fr_tr hF f_13 (by decide) (by decide)
    refine W.widen (k := 0) (n := 0) (Nat.le_refl _) (Nat.le_refl _) ?_
    have t_14 := hT
    refine lv_iconst (v := 1) hx hb dX6_begin_57 (by decide) ?_
    rw [hQ]
    exact W.iret (v := 1) hx hb hr (fun t ht hW => ⟨⟨1, C_11, rfl, ⟨hT, hF, (fun A hA => by unfold spBegin; rw [← (show ga (C 10) ((2 : Int32)).toNatClampNeg = A 5 0 2 from hA.1 2 (by decide)), ← (show ga (C 10) ((3 : Int32)).toNatClampNeg = A 5 0 3 from hA.1 3 (by decide))]; exact (pif_pos u_4.2.2.2).symm)⟩, ⟨by rw [ht]; exact hP, hD⟩⟩, hS.F ht⟩) hS.2.2 dX6_begin_58
  · have u_15 := hq_2.2.2 c_3
    refine lv_aload_n hx hb dX6_begin_12 rfl (lv_at hl 0 rfl) ?_
    refine lv_bipush (v := (-2)) hx hb dX6_begin_13 (by decide) ?_
    refine tm_V (As := [.int (-2)]) (rest := []) ⟨hx, hb, hml, hown, htg⟩ (c_X6_refuse l D E G _ a C hT ((-2) : Int32)) (cwV 1 htg (oh_gV q_296 q_298 q_0 q_66 q_299) rfl rfl rfl pdVX6_refuse ⟨Nat.le_of_ble_eq_true rfl, Nat.le_of_ble_eq_true rfl⟩) hK hP hD hG hS hA (va_recv hK hP (ci := 6) (q0 := 0) rfl (oh_wg (by decide) (sX_0 hT))) rfl hl.1 rfl (Nat.le_of_ble_eq_true rfl) dX6_begin_15 ⟨Nat.le_of_ble_eq_true rfl, Nat.le_of_ble_eq_true rfl⟩ (fun r_16 C_17 H locs hq_18 hP hD hS => ?_)
    obtain ⟨hT, f_19, hq_18⟩ := hq_18
    have hF := fr_tr hF f_19 (by decide) (by decide)
    refine W.widen (k := 0) (n := 0) (Nat.le_refl _) (Nat.le_refl _) ?_
    have t_20 := hT
    rw [hQ]
    exact W.iret (v := r_16) hx hb hr (fun t ht hW => ⟨⟨r_16, C_17, rfl, ⟨hT, hF, (fun A hA => by unfold spBegin; rw [← (show ga (C 10) ((2 : Int32)).toNatClampNeg = A 5 0 2 from hA.1 2 (by decide)), ← (show ga (C 10) ((3 : Int32)).toNatClampNeg = A 5 0 3 from hA.1 3 (by decide))]; exact Eq.trans hq_18 (pif_neg u_15).symm)⟩, ⟨by rw [ht]; exact hP, hD⟩⟩, hS.F ht⟩) hS.2.2 dX6_begin_18

set_option maxHeartbeats 4000000 in
set_option maxRecDepth 100000 in
theorem e_X7_isWaggon (l : Launch) (D : va_G) (E : Nat → ClassId) (G : Nat → Nat) (a : Nat → Nat) (C : Nat → va_E) (n : Nat) (hn : 74 ≤ n) (hT : TyM a E C) (x1 : Int32) (hR : RelW C) : Met l yX7_isWaggon (oh_w yX7_isWaggon cX7_isWaggon 2 (some .boolean)) ({ frames := 1, cells := 0, slots := 0, locals := 25 }) (oh_Pp D E G [.ref (a 0), .int x1] (oh_W n a C)) (vp_Si (fun r => (r = 0 ∨ r = 1) ∧ (r ≠ 0 → rg x1 0 4 ∧ (oh_pos C x1) ∧ (x1.toInt < (gi (C 0) 13).toInt) ∧ ((0 : Int32) ≤ x1 ∧ x1 < gi (C 0) 13)) ∧ (r = 0 → (¬ ((0 : Int32) ≤ x1 ∧ x1 < gi (C 0) 13))))) 0 0 (fun _ => False) := by
  refine Met.ofW (cc := cX7_isWaggon) (maxL := 2) (ret := (some .boolean)) (by decide) rfl ?_
  intro p e s m args below meth c s₁ B hml hv
  obtain ⟨rfl, hP, hK, hG⟩ := hv
  have hx := B.exec
  have hb := B.bytes
  have hr := B.returns
  have hts := atoms_spec (ws := (oh_w yX7_isWaggon cX7_isWaggon 2 (some .boolean))) B.pre
  have htg : ∀ w ∈ oh_t, w.before _ s = true := fun w h => hts w (List.mem_cons_of_mem _ h)
  have hown : s.vm.findClass RX7 = some m.cls := findClass_of_methodNamed B.named
  have hlocks := B.notSynchronized
  have hT0 := hT
  have hS : va_S (fun _ => False) s.heap s.heap [] := va_S.rf
  have hl := lv_entry ([.ref (a 0), .int x1]) (n := 2) (Nat.le_of_ble_eq_true rfl)
  rw [lg_entry_eq]
  generalize (lg_sl ([.ref (a 0), .int x1]) ++ List.replicate (2 - (lg_sl ([.ref (a 0), .int x1])).length) Slot.unset).toArray = ls at hl ⊢
  have hl : lv_has ls 2 [(0, .ref (a 0)), (1, .int x1)] := hl
  refine oh_genQ (fun Q hQ => ?_)
  refine lv_iload_n hx hb dX7_isWaggon_0 rfl (lv_at hl 1 rfl) ?_
  refine lv_i2l (v := Int32.toInt64 x1) hx hb dX7_isWaggon_1 (by rfl) ?_
  refine lv_lconst (v := 0) hx hb dX7_isWaggon_2 (by decide) ?_
  refine lv_aload_n hx hb dX7_isWaggon_3 rfl (lv_at hl 0 rfl) ?_
  refine va_get (D := D) (ci := 7) (v := .int (gi (C 0) 13)) (C := RX7) (T := TX7) (N := 29) hx hb htg ig_7 hown hK hP 0 (oh_wg (Nat.lt_of_lt_of_le (by decide) hn) (sM_0 hT)) rfl 13 (by decide) (htg _ q_986) (fun _ h9 => h9) rfl dX7_isWaggon_4 ?_
  refine lv_iconst (v := 1) hx hb dX7_isWaggon_7 (by decide) ?_
  refine lv_isub hx hb dX7_isWaggon_8 ?_
  refine lv_i2l (v := Int32.toInt64 ((gi (C 0) 13) - 1)) hx hb dX7_isWaggon_9 (by rfl) ?_
  refine tq_S (As := [.long (Int32.toInt64 x1), .long 0, .long (Int32.toInt64 ((gi (C 0) 13) - 1))]) (rest := []) (ws := []) ⟨hx, hb, hml, hown, htg⟩ (c_X7_in l D E G (Int32.toInt64 x1) (0 : Int64) (Int32.toInt64 ((gi (C 0) 13) - 1))) (va_cwS 3 htg (oh_gS q_1066 q_1067 q_73 q_1068) rfl rfl rfl pdX7_in ⟨Nat.le_of_ble_eq_true rfl, Nat.le_of_ble_eq_true rfl⟩) hK va_nil hG hS rfl hl.1 rfl (Nat.le_of_ble_eq_true rfl) dX7_isWaggon_10 ⟨Nat.le_of_ble_eq_true rfl, Nat.le_of_ble_eq_true rfl⟩ (fun r_1 hq_2 => ?_)
  rw [hQ]
  exact W.zret (v := r_1) (ty := .boolean) hx hb hr (oh_nb hq_2.1) (fun t ht hW => ⟨r_1, rfl, ⟨hq_2.1, (fun h9 => ⟨(rg_w (rg_il (rnL_leu (hq_2.2.1 h9).2 (rgL_i (rg_il (rnL_lel (hq_2.2.1 h9).1 (rgL_c (v := 0) (lo := 0) (hi := 0) (by decide)) (rgL_i (rg_any _))))) (rgL_i (rg_sub (lo := (-1)) (hi := 4) (fM_0_13 hT0) (rg_c (v := 1) (lo := 1) (hi := 1) (by decide)) (by decide))))) (by decide)), (oh_posof hR (rg_w (rg_il (rnL_leu (hq_2.2.1 h9).2 (rgL_i (rg_il (rnL_lel (hq_2.2.1 h9).1 (rgL_c (v := 0) (lo := 0) (hi := 0) (by decide)) (rgL_i (rg_any _))))) (rgL_i (rg_sub (lo := (-1)) (hi := 4) (fM_0_13 hT0) (rg_c (v := 1) (lo := 1) (hi := 1) (by decide)) (by decide))))) (by decide)) (fM_0_13 hT) (hq_2.2.1 h9).2), (oh_posl (fM_0_13 hT) (hq_2.2.1 h9).2), ((is_n64 (rg_w (lo := 0) (hi := 24) (fM_0_13 hT0) (by decide))).mp ⟨(hq_2.2.1 h9).1, (hq_2.2.1 h9).2⟩)⟩), (fun h9 => (fun h8 => (hq_2.2.2 h9) ((is_n64 (rg_w (lo := 0) (hi := 24) (fM_0_13 hT0) (by decide))).mpr h8)))⟩, ht⟩) (fun q h => by cases h) dX7_isWaggon_13

theorem pk64 {s m : Int32} : ((0 : Int64) ≤ Int32.toInt64 s ∧ Int32.toInt64 s ≤ Int32.toInt64 m) ↔ (0 ≤ s ∧ s ≤ m) := oh_in64' (x := s) (lo := 0) (hi := m)

set_option maxHeartbeats 4000000 in
set_option maxRecDepth 100000 in
theorem e_X7_isPack (l : Launch) (D : va_G) (E : Nat → ClassId) (G : Nat → Nat) (a : Nat → Nat) (C : Nat → va_E) (n : Nat) (hn : 74 ≤ n) (hT : TyM a E C) (x1 : Int32) (x2 : Int32) (hR : RelW C) : Met l yX7_isPack (oh_w yX7_isPack cX7_isPack 3 (some .boolean)) ({ frames := 2, cells := 0, slots := 0, locals := 46 }) (oh_Pp D E G [.ref (a 0), .int x1, .int x2] (oh_W n a C)) (vp_Si (fun r => (r = 0 ∨ r = 1) ∧ (r ≠ 0 → rg x1 0 4 ∧ (oh_pos C x1) ∧ (x1.toInt < (gi (C 0) 13).toInt) ∧ (okPk (gi (C 0) 13) (gi (C 0) 15) x1 x2)) ∧ (r = 0 → (¬ okPk (gi (C 0) 13) (gi (C 0) 15) x1 x2)))) 0 0 (fun _ => False) := by
  refine Met.ofW (cc := cX7_isPack) (maxL := 3) (ret := (some .boolean)) (by decide) rfl ?_
  intro p e s m args below meth c s₁ B hml hv
  obtain ⟨rfl, hP, hK, hG⟩ := hv
  have hx := B.exec
  have hb := B.bytes
  have hr := B.returns
  have hts := atoms_spec (ws := (oh_w yX7_isPack cX7_isPack 3 (some .boolean))) B.pre
  have htg : ∀ w ∈ oh_t, w.before _ s = true := fun w h => hts w (List.mem_cons_of_mem _ h)
  have hown : s.vm.findClass RX7 = some m.cls := findClass_of_methodNamed B.named
  have hlocks := B.notSynchronized
  have hT0 := hT
  have hS : va_S (fun _ => False) s.heap s.heap [] := va_S.rf
  have hl := lv_entry ([.ref (a 0), .int x1, .int x2]) (n := 3) (Nat.le_of_ble_eq_true rfl)
  rw [lg_entry_eq]
  generalize (lg_sl ([.ref (a 0), .int x1, .int x2]) ++ List.replicate (3 - (lg_sl ([.ref (a 0), .int x1, .int x2])).length) Slot.unset).toArray = ls at hl ⊢
  have hl : lv_has ls 3 [(0, .ref (a 0)), (1, .int x1), (2, .int x2)] := hl
  refine oh_genQ (fun Q hQ => ?_)
  refine lv_aload_n hx hb dX7_isPack_0 rfl (lv_at hl 0 rfl) ?_
  refine lv_iload_n hx hb dX7_isPack_1 rfl (lv_at hl 1 rfl) ?_
  refine tq_V (As := [.int x1]) (rest := []) (ws := (oh_W n a C)) ⟨hx, hb, hml, hown, htg⟩ (e_X7_isWaggon l D E G a C n hn hT x1 hR) (cwV 1 htg (oh_gV q_1278 q_1280 q_48 q_73 q_1281) rfl rfl rfl pdVX7_isWaggon ⟨Nat.le_of_ble_eq_true rfl, Nat.le_of_ble_eq_true rfl⟩) hK hP hG hS (va_recv hK hP (ci := 7) (q0 := 0) rfl (oh_wg (Nat.lt_of_lt_of_le (by decide) hn) (sM_0 hT))) rfl hl.1 rfl (Nat.le_of_ble_eq_true rfl) dX7_isPack_2 ⟨Nat.le_of_ble_eq_true rfl, Nat.le_of_ble_eq_true rfl⟩ (fun r_1 hq_2 => ?_)
  refine lv_if_eq (tgt := 30) hx hb dX7_isPack_5 (by decide) (fun (c_3 : r_1 = 0) => ?_) (fun (c_3 : ¬ (r_1 = 0)) => ?_)
  · have u_4 := hq_2.2.2 c_3
    refine lv_iconst (v := 0) hx hb dX7_isPack_30 (by decide) ?_
    rw [hQ]
    exact W.zret (v := 0) (ty := .boolean) hx hb hr (by decide) (fun t ht hW => ⟨0, rfl, ⟨(Or.inl rfl), (fun h9 => absurd rfl h9), (fun _ => (fun h8 => u_4 h8.1))⟩, ht⟩) (fun q h => by cases h) dX7_isPack_31
  · have u_5 := hq_2.2.1 c_3
    refine lv_iload_n hx hb dX7_isPack_8 rfl (lv_at hl 2 rfl) ?_
    refine lv_i2l (v := Int32.toInt64 x2) hx hb dX7_isPack_9 (by rfl) ?_
    refine lv_lconst (v := 0) hx hb dX7_isPack_10 (by decide) ?_
    refine lv_iconst (v := 1) hx hb dX7_isPack_11 (by decide) ?_
    refine lv_aload_n hx hb dX7_isPack_12 rfl (lv_at hl 0 rfl) ?_
    refine va_get (D := D) (ci := 7) (v := .int (gi (C 0) 15)) (C := RX7) (T := TX7) (N := 29) hx hb htg ig_7 hown hK hP 0 (oh_wg (Nat.lt_of_lt_of_le (by decide) hn) (sM_0 hT)) rfl 15 (by decide) (htg _ q_988) (fun _ h9 => h9) rfl dX7_isPack_13 ?_
    refine lv_ishl hx hb dX7_isPack_16 ?_
    refine lv_iconst (v := 1) hx hb dX7_isPack_17 (by decide) ?_
    refine lv_isub hx hb dX7_isPack_18 ?_
    refine lv_i2l (v := Int32.toInt64 (((1 : Int32) <<< ((gi (C 0) 15) &&& 31)) - 1)) hx hb dX7_isPack_19 (by rfl) ?_
    refine tq_S (As := [.long (Int32.toInt64 x2), .long 0, .long (Int32.toInt64 (((1 : Int32) <<< ((gi (C 0) 15) &&& 31)) - 1))]) (rest := []) (ws := []) ⟨hx, hb, hml, hown, htg⟩ (c_X7_in l D E G (Int32.toInt64 x2) (0 : Int64) (Int32.toInt64 (((1 : Int32) <<< ((gi (C 0) 15) &&& 31)) - 1))) (va_cwS 3 htg (oh_gS q_1066 q_1067 q_73 q_1068) rfl rfl rfl pdX7_in ⟨Nat.le_of_ble_eq_true rfl, Nat.le_of_ble_eq_true rfl⟩) hK va_nil hG hS rfl hl.1 rfl (Nat.le_of_ble_eq_true rfl) dX7_isPack_20 ⟨Nat.le_of_ble_eq_true rfl, Nat.le_of_ble_eq_true rfl⟩ (fun r_6 hq_7 => ?_)
    refine lv_if_eq (tgt := 30) hx hb dX7_isPack_23 (by decide) (fun (c_8 : r_6 = 0) => ?_) (fun (c_8 : ¬ (r_6 = 0)) => ?_)
    · have u_9 := hq_7.2.2 c_8
      refine lv_iconst (v := 0) hx hb dX7_isPack_30 (by decide) ?_
      rw [hQ]
      exact W.zret (v := 0) (ty := .boolean) hx hb hr (by decide) (fun t ht hW => ⟨0, rfl, ⟨(Or.inl rfl), (fun h9 => absurd rfl h9), (fun _ => (fun h8 => u_9 (pk64.mpr h8.2)))⟩, ht⟩) (fun q h => by cases h) dX7_isPack_31
    · have u_10 := hq_7.2.1 c_8
      refine lv_iconst (v := 1) hx hb dX7_isPack_26 (by decide) ?_
      refine lv_goto (tgt := 31) hx hb dX7_isPack_27 (by decide) ?_
      rw [hQ]
      exact W.zret (v := 1) (ty := .boolean) hx hb hr (by decide) (fun t ht hW => ⟨1, rfl, ⟨(Or.inr rfl), (fun _ => ⟨(rg_w u_5.1 (by decide)), u_5.2.1, u_5.2.2.1, ⟨u_5.2.2.2, pk64.mp ⟨u_10.1, u_10.2⟩⟩⟩), (fun h9 => absurd h9 (by decide))⟩, ht⟩) (fun q h => by cases h) dX7_isPack_31

set_option maxHeartbeats 4000000 in
set_option maxRecDepth 100000 in
theorem e_X7_roadOf (l : Launch) (D : va_G) (E : Nat → ClassId) (G : Nat → Nat) (sz : Nat) (a : Nat → Nat) (C : Nat → va_E) (n : Nat) (hn : 74 ≤ n) (hT : TyM a E C) (x1 : Int32) (x2 : Int32) (hR : RelM C) : Met l yX7_roadOf (oh_w yX7_roadOf cX7_roadOf 3 (some .int)) ({ frames := 2, cells := 0, slots := 0, locals := 46 }) (oh_Pm D E G [.ref (a 0), .int x1, .int x2] (oh_W n a C) sz) (va_Qi (fun r (u : Nat → va_E) => TyM a E u ∧ fr [(8, 9)] [] C u ∧ (RelM u) ∧ (∀ A : LA, absM C A → r = spRoadOf A x1 x2)) (oh_B D (va_A (oh_W n a C) sz) (fun u => oh_W n a u)) (va_A (oh_W n a C) sz)) 0 0 (va_A (oh_W n a C) sz) := by
  refine Met.ofW (cc := cX7_roadOf) (maxL := 3) (ret := (some .int)) (by decide) rfl ?_
  intro p e s m args below meth c s₁ B hml hv
  obtain ⟨rfl, hsz, hP, hK, hD0, hG⟩ := hv
  have hx := B.exec
  have hb := B.bytes
  have hr := B.returns
  have hts := atoms_spec (ws := (oh_w yX7_roadOf cX7_roadOf 3 (some .int))) B.pre
  have htg : ∀ w ∈ oh_t, w.before _ s = true := fun w h => hts w (List.mem_cons_of_mem _ h)
  have hown : s.vm.findClass RX7 = some m.cls := findClass_of_methodNamed B.named
  have hlocks := B.notSynchronized
  have hT0 := hT
  subst hsz
  have hD := hD0.self (sz := s.heap.size)
  generalize hAe : va_A (oh_W n a C) s.heap.size = A at hD hG ⊢
  have hA : ∀ q : Nat, s.heap.size ≤ q → A q := fun q h => by rw [← hAe]; exact Or.inr h
  have hS : va_S A s.heap s.heap [] := va_S.rf
  have hF : fr [(8, 9)] [] C C := fr_rf
  have hl := lv_entry ([.ref (a 0), .int x1, .int x2]) (n := 3) (Nat.le_of_ble_eq_true rfl)
  rw [lg_entry_eq]
  generalize (lg_sl ([.ref (a 0), .int x1, .int x2]) ++ List.replicate (3 - (lg_sl ([.ref (a 0), .int x1, .int x2])).length) Slot.unset).toArray = ls at hl ⊢
  have hl : lv_has ls 3 [(0, .ref (a 0)), (1, .int x1), (2, .int x2)] := hl
  refine oh_genQ (fun Q hQ => ?_)
  refine lv_aload_n hx hb dX7_roadOf_0 rfl (lv_at hl 0 rfl) ?_
  refine lv_iload_n hx hb dX7_roadOf_1 rfl (lv_at hl 1 rfl) ?_
  refine tq_V (As := [.int x1]) (rest := []) (ws := (oh_W n a C)) ⟨hx, hb, hml, hown, htg⟩ (e_X7_isRoad l D E G a C n hn hT x1) (cwV 1 htg (oh_gV q_1145 q_1147 q_36 q_73 q_1148) rfl rfl rfl pdVX7_isRoad ⟨Nat.le_of_ble_eq_true rfl, Nat.le_of_ble_eq_true rfl⟩) hK hP hG hS (va_recv hK hP (ci := 7) (q0 := 0) rfl (oh_wg (Nat.lt_of_lt_of_le (by decide) hn) (sM_0 hT))) rfl hl.1 rfl (Nat.le_of_ble_eq_true rfl) dX7_roadOf_2 ⟨Nat.le_of_ble_eq_true rfl, Nat.le_of_ble_eq_true rfl⟩ (fun r_1 hq_2 => ?_)
  refine lv_if_eq (tgt := 31) hx hb dX7_roadOf_5 (by decide) (fun (c_3 : r_1 = 0) => ?_) (fun (c_3 : ¬ (r_1 = 0)) => ?_)
  · have u_4 := hq_2.2.2 c_3
    refine lv_aload_n hx hb dX7_roadOf_31 rfl (lv_at hl 0 rfl) ?_
    refine lv_bipush (v := (-2)) hx hb dX7_roadOf_32 (by decide) ?_
    refine tm_V (As := [.int (-2)]) (rest := []) ⟨hx, hb, hml, hown, htg⟩ (c_X7_refuse l D E G _ a C n hn hT ((-2) : Int32) (rg_w (rg_c (v := (-2)) (lo := (-2)) (hi := (-2)) (by decide)) (by decide))) (cwV 1 htg (oh_gV q_1071 q_1073 q_29 q_73 q_1074) rfl rfl rfl pdVX7_refuse ⟨Nat.le_of_ble_eq_true rfl, Nat.le_of_ble_eq_true rfl⟩) hK hP hD hG hS hA (va_recv hK hP (ci := 7) (q0 := 0) rfl (oh_wg (Nat.lt_of_lt_of_le (by decide) hn) (sM_0 hT))) rfl hl.1 rfl (Nat.le_of_ble_eq_true rfl) dX7_roadOf_34 ⟨Nat.le_of_ble_eq_true rfl, Nat.le_of_ble_eq_true rfl⟩ (fun r_5 C_6 H locs hq_7 hP hD hS => ?_)
    obtain ⟨hT, f_8, hq_7⟩ := hq_7
    have hF := fr_tr hF f_8 (by decide) (by decide)
    refine W.widen (k := 0) (n := 0) (Nat.le_refl _) (Nat.le_refl _) ?_
    have t_9 := hT
    rw [hQ]
    exact W.iret (v := r_5) hx hb hr (fun t ht hW => ⟨⟨r_5, C_6, rfl, ⟨hT, hF, ⟨⟨hR.1.fr hF (by decide), hR.2.fr hF (by decide)⟩, (fun A hA => Eq.trans hq_7 (pif_neg (fun h8 => by have h7 := h8.1; rw [← (show gi (C 0) 9 = A 5 0 0 from hA.1 0 (by decide))] at h7; exact u_4 h7)).symm)⟩⟩, ⟨by rw [ht]; exact hP, hD⟩⟩, hS.F ht⟩) hS.2.2 dX7_roadOf_37
  · have u_10 := hq_2.2.1 c_3
    refine lv_iload_n hx hb dX7_roadOf_8 rfl (lv_at hl 2 rfl) ?_
    refine lv_i2l (v := Int32.toInt64 x2) hx hb dX7_roadOf_9 (by rfl) ?_
    refine lv_lconst (v := 0) hx hb dX7_roadOf_10 (by decide) ?_
    refine lv_ldc2 (v := 6) hx hb hown (htg _ q_1265) dX7_roadOf_11 ?_
    refine tq_S (As := [.long (Int32.toInt64 x2), .long 0, .long 6]) (rest := []) (ws := []) ⟨hx, hb, hml, hown, htg⟩ (c_X7_in l D E G (Int32.toInt64 x2) (0 : Int64) (6 : Int64)) (va_cwS 3 htg (oh_gS q_1066 q_1067 q_73 q_1068) rfl rfl rfl pdX7_in ⟨Nat.le_of_ble_eq_true rfl, Nat.le_of_ble_eq_true rfl⟩) hK va_nil hG hS rfl hl.1 rfl (Nat.le_of_ble_eq_true rfl) dX7_roadOf_14 ⟨Nat.le_of_ble_eq_true rfl, Nat.le_of_ble_eq_true rfl⟩ (fun r_11 hq_12 => ?_)
    refine lv_if_eq (tgt := 31) hx hb dX7_roadOf_17 (by decide) (fun (c_13 : r_11 = 0) => ?_) (fun (c_13 : ¬ (r_11 = 0)) => ?_)
    · have u_14 := hq_12.2.2 c_13
      refine lv_aload_n hx hb dX7_roadOf_31 rfl (lv_at hl 0 rfl) ?_
      refine lv_bipush (v := (-2)) hx hb dX7_roadOf_32 (by decide) ?_
      refine tm_V (As := [.int (-2)]) (rest := []) ⟨hx, hb, hml, hown, htg⟩ (c_X7_refuse l D E G _ a C n hn hT ((-2) : Int32) (rg_w (rg_c (v := (-2)) (lo := (-2)) (hi := (-2)) (by decide)) (by decide))) (cwV 1 htg (oh_gV q_1071 q_1073 q_29 q_73 q_1074) rfl rfl rfl pdVX7_refuse ⟨Nat.le_of_ble_eq_true rfl, Nat.le_of_ble_eq_true rfl⟩) hK hP hD hG hS hA (va_recv hK hP (ci := 7) (q0 := 0) rfl (oh_wg (Nat.lt_of_lt_of_le (by decide) hn) (sM_0 hT))) rfl hl.1 rfl (Nat.le_of_ble_eq_true rfl) dX7_roadOf_34 ⟨Nat.le_of_ble_eq_true rfl, Nat.le_of_ble_eq_true rfl⟩ (fun r_15 C_16 H locs hq_17 hP hD hS => ?_)
      obtain ⟨hT, f_18, hq_17⟩ := hq_17
      have hF := fr_tr hF f_18 (by decide) (by decide)
      refine W.widen (k := 0) (n := 0) (Nat.le_refl _) (Nat.le_refl _) ?_
      have t_19 := hT
      rw [hQ]
      exact W.iret (v := r_15) hx hb hr (fun t ht hW => ⟨⟨r_15, C_16, rfl, ⟨hT, hF, ⟨⟨hR.1.fr hF (by decide), hR.2.fr hF (by decide)⟩, (fun A hA => Eq.trans hq_17 (pif_neg (fun h8 => (oh_in64 (l' := 0) (k' := 6) rfl rfl u_14) h8.2)).symm)⟩⟩, ⟨by rw [ht]; exact hP, hD⟩⟩, hS.F ht⟩) hS.2.2 dX7_roadOf_37
    · have u_20 := hq_12.2.1 c_13
      refine lv_aload_n hx hb dX7_roadOf_20 rfl (lv_at hl 0 rfl) ?_
      refine va_get (D := D) (ci := 7) (v := .ref (a 9)) (C := RX7) (T := TX7) (N := 29) hx hb htg ig_7 hown hK hP 0 (oh_wg (Nat.lt_of_lt_of_le (by decide) hn) (sM_0 hT)) rfl 10 (by decide) (htg _ q_983) (fun _ h9 => h9) rfl dX7_roadOf_21 ?_
      refine lv_iload_n hx hb dX7_roadOf_24 rfl (lv_at hl 1 rfl) ?_
      have n_21 : vp_in x1 24 := (rg_in u_10.1 (by decide))
      have b_22 : (x1).toNatClampNeg < 24 := vp_lt n_21
      refine th_aald hx hb hK hP 9 2 (Nat.lt_of_lt_of_le (by decide) hn) (sM_9 hT) rfl n_21 dX7_roadOf_25 ?_
      refine lv_iload_n hx hb dX7_roadOf_26 rfl (lv_at hl 2 rfl) ?_
      have n_23 : vp_in x2 7 := (rg_in (rg_il (rgL_i (rg_il (rnL_leu u_20.2 (rnL_lel u_20.1 (rgL_c (v := 0) (lo := 0) (hi := 0) (by decide)) (rgL_i (rg_any _))) (rgL_c (v := 6) (lo := 6) (hi := 6) (by decide)))))) (by decide))
      refine th_iald hx hb hK hP (24 + (x1).toNatClampNeg) (lt_blk b_22 hn (by decide)) (hT.broad b_22).1 n_23 dX7_roadOf_27 ?_
      refine lv_goto (tgt := 37) hx hb dX7_roadOf_28 (by decide) ?_
      rw [hQ]
      exact W.iret (v := ga (C (24 + (x1).toNatClampNeg)) (x2).toNatClampNeg) hx hb hr (fun t ht hW => ⟨⟨ga (C (24 + (x1).toNatClampNeg)) (x2).toNatClampNeg, C, rfl, ⟨hT, hF, ⟨hR, (fun A hA => Eq.trans (colM_v (t := 0) hA (by decide) (rg_w (lo := 0) (hi := 23) u_10.1 (by decide)) (show x2.toNatClampNeg < 7 from vp_lt (rg_in (rg_w (lo := 0) (hi := 6) (rg_il (rgL_i (rg_il (rnL_leu u_20.2 (rnL_lel u_20.1 (rgL_c (v := 0) (lo := 0) (hi := 0) (by decide)) (rgL_i (rg_any _))) (rgL_c (v := 6) (lo := 6) (hi := 6) (by decide)))))) (by decide)) (by decide))) (show 0 ≤ x1 ∧ x1 < A 5 0 0 by rw [← (show gi (C 0) 9 = A 5 0 0 from hA.1 0 (by decide))]; exact u_10.2).2 (by unfold vis; omega)) (pif_pos ⟨(show 0 ≤ x1 ∧ x1 < A 5 0 0 by rw [← (show gi (C 0) 9 = A 5 0 0 from hA.1 0 (by decide))]; exact u_10.2), (oh_rgI (p := 0) (q := 6) (rg_w (lo := 0) (hi := 6) (rg_il (rgL_i (rg_il (rnL_leu u_20.2 (rnL_lel u_20.1 (rgL_c (v := 0) (lo := 0) (hi := 0) (by decide)) (rgL_i (rg_any _))) (rgL_c (v := 6) (lo := 6) (hi := 6) (by decide)))))) (by decide)))⟩).symm)⟩⟩, ⟨by rw [ht]; exact hP, hD⟩⟩, hS.F ht⟩) hS.2.2 dX7_roadOf_37

set_option maxHeartbeats 4000000 in
set_option maxRecDepth 100000 in
theorem e_X7_lengthOf (l : Launch) (D : va_G) (E : Nat → ClassId) (G : Nat → Nat) (a : Nat → Nat) (C : Nat → va_E) (n : Nat) (hn : 74 ≤ n) (hT : TyM a E C) (x1 : Int32) (hx1 : rg x1 0 4) : Met l yX7_lengthOf (oh_w yX7_lengthOf cX7_lengthOf 2 (some .int)) ({ frames := 0, cells := 0, slots := 0, locals := 0 }) (oh_Pp D E G [.ref (a 0), .int x1] (oh_W n a C)) (vp_Si (fun r => r = ((ga (C (64 + (x1).toNatClampNeg)) ((1 : Int32)).toNatClampNeg) * ((ga (C (64 + (x1).toNatClampNeg)) ((0 : Int32)).toNatClampNeg) - 1)) + 4)) 0 0 (fun _ => False) := by
  refine Met.ofW (cc := cX7_lengthOf) (maxL := 2) (ret := (some .int)) (by decide) rfl ?_
  intro p e s m args below meth c s₁ B hml hv
  obtain ⟨rfl, hP, hK, hG⟩ := hv
  have hx := B.exec
  have hb := B.bytes
  have hr := B.returns
  have hts := atoms_spec (ws := (oh_w yX7_lengthOf cX7_lengthOf 2 (some .int))) B.pre
  have htg : ∀ w ∈ oh_t, w.before _ s = true := fun w h => hts w (List.mem_cons_of_mem _ h)
  have hown : s.vm.findClass RX7 = some m.cls := findClass_of_methodNamed B.named
  have hlocks := B.notSynchronized
  have hT0 := hT
  have hS : va_S (fun _ => False) s.heap s.heap [] := va_S.rf
  have hl := lv_entry ([.ref (a 0), .int x1]) (n := 2) (Nat.le_of_ble_eq_true rfl)
  rw [lg_entry_eq]
  generalize (lg_sl ([.ref (a 0), .int x1]) ++ List.replicate (2 - (lg_sl ([.ref (a 0), .int x1])).length) Slot.unset).toArray = ls at hl ⊢
  have hl : lv_has ls 2 [(0, .ref (a 0)), (1, .int x1)] := hl
  refine oh_genQ (fun Q hQ => ?_)
  refine lv_aload_n hx hb dX7_lengthOf_0 rfl (lv_at hl 0 rfl) ?_
  refine va_get (D := D) (ci := 7) (v := .ref (a 11)) (C := RX7) (T := TX7) (N := 29) hx hb htg ig_7 hown hK hP 0 (oh_wg (Nat.lt_of_lt_of_le (by decide) hn) (sM_0 hT)) rfl 14 (by decide) (htg _ q_987) (fun _ h9 => h9) rfl dX7_lengthOf_1 ?_
  refine lv_iload_n hx hb dX7_lengthOf_4 rfl (lv_at hl 1 rfl) ?_
  have n_1 : vp_in x1 5 := (rg_in hx1 (by decide))
  have b_2 : (x1).toNatClampNeg < 5 := vp_lt n_1
  refine th_aald hx hb hK hP 11 2 (Nat.lt_of_lt_of_le (by decide) hn) (sM_11 hT) rfl n_1 dX7_lengthOf_5 ?_
  refine lv_iconst (v := 1) hx hb dX7_lengthOf_6 (by decide) ?_
  refine th_iald hx hb hK hP (64 + (x1).toNatClampNeg) (lt_blk b_2 hn (by decide)) (hT.bwaggon b_2).1 (rg_in (rg_c (v := 1) (lo := 1) (hi := 1) (by decide)) (by decide)) dX7_lengthOf_7 ?_
  refine lv_aload_n hx hb dX7_lengthOf_8 rfl (lv_at hl 0 rfl) ?_
  refine va_get (D := D) (ci := 7) (v := .ref (a 11)) (C := RX7) (T := TX7) (N := 29) hx hb htg ig_7 hown hK hP 0 (oh_wg (Nat.lt_of_lt_of_le (by decide) hn) (sM_0 hT)) rfl 14 (by decide) (htg _ q_987) (fun _ h9 => h9) rfl dX7_lengthOf_9 ?_
  refine lv_iload_n hx hb dX7_lengthOf_12 rfl (lv_at hl 1 rfl) ?_
  have n_3 : vp_in x1 5 := (rg_in hx1 (by decide))
  have b_4 : (x1).toNatClampNeg < 5 := vp_lt n_3
  refine th_aald hx hb hK hP 11 2 (Nat.lt_of_lt_of_le (by decide) hn) (sM_11 hT) rfl n_3 dX7_lengthOf_13 ?_
  refine lv_iconst (v := 0) hx hb dX7_lengthOf_14 (by decide) ?_
  refine th_iald hx hb hK hP (64 + (x1).toNatClampNeg) (lt_blk b_4 hn (by decide)) (hT.bwaggon b_4).1 (rg_in (rg_c (v := 0) (lo := 0) (hi := 0) (by decide)) (by decide)) dX7_lengthOf_15 ?_
  refine lv_iconst (v := 1) hx hb dX7_lengthOf_16 (by decide) ?_
  refine lv_isub hx hb dX7_lengthOf_17 ?_
  refine lv_imul hx hb dX7_lengthOf_18 ?_
  refine lv_iconst (v := 4) hx hb dX7_lengthOf_19 (by decide) ?_
  refine lv_iadd hx hb dX7_lengthOf_20 ?_
  rw [hQ]
  exact W.iret (v := ((ga (C (64 + (x1).toNatClampNeg)) ((1 : Int32)).toNatClampNeg) * ((ga (C (64 + (x1).toNatClampNeg)) ((0 : Int32)).toNatClampNeg) - 1)) + 4) hx hb hr (fun t ht hW => ⟨((ga (C (64 + (x1).toNatClampNeg)) ((1 : Int32)).toNatClampNeg) * ((ga (C (64 + (x1).toNatClampNeg)) ((0 : Int32)).toNatClampNeg) - 1)) + 4, rfl, rfl, ht⟩) (fun q h => by cases h) dX7_lengthOf_21

set_option maxHeartbeats 4000000 in
set_option maxRecDepth 100000 in
theorem e_X7_length (l : Launch) (D : va_G) (E : Nat → ClassId) (G : Nat → Nat) (sz : Nat) (a : Nat → Nat) (C : Nat → va_E) (n : Nat) (hn : 74 ≤ n) (hT : TyM a E C) (x1 : Int32) (hR : RelM C) : Met l yX7_length (oh_w yX7_length cX7_length 2 (some .int)) ({ frames := 2, cells := 0, slots := 0, locals := 46 }) (oh_Pm D E G [.ref (a 0), .int x1] (oh_W n a C) sz) (va_Qi (fun r (u : Nat → va_E) => TyM a E u ∧ fr [(8, 9)] [] C u ∧ (RelM u) ∧ (∀ A : LA, absM C A → r = spLen A x1)) (oh_B D (va_A (oh_W n a C) sz) (fun u => oh_W n a u)) (va_A (oh_W n a C) sz)) 0 0 (va_A (oh_W n a C) sz) := by
  refine Met.ofW (cc := cX7_length) (maxL := 2) (ret := (some .int)) (by decide) rfl ?_
  intro p e s m args below meth c s₁ B hml hv
  obtain ⟨rfl, hsz, hP, hK, hD0, hG⟩ := hv
  have hx := B.exec
  have hb := B.bytes
  have hr := B.returns
  have hts := atoms_spec (ws := (oh_w yX7_length cX7_length 2 (some .int))) B.pre
  have htg : ∀ w ∈ oh_t, w.before _ s = true := fun w h => hts w (List.mem_cons_of_mem _ h)
  have hown : s.vm.findClass RX7 = some m.cls := findClass_of_methodNamed B.named
  have hlocks := B.notSynchronized
  have hT0 := hT
  subst hsz
  have hD := hD0.self (sz := s.heap.size)
  generalize hAe : va_A (oh_W n a C) s.heap.size = A at hD hG ⊢
  have hA : ∀ q : Nat, s.heap.size ≤ q → A q := fun q h => by rw [← hAe]; exact Or.inr h
  have hS : va_S A s.heap s.heap [] := va_S.rf
  have hF : fr [(8, 9)] [] C C := fr_rf
  have hl := lv_entry ([.ref (a 0), .int x1]) (n := 2) (Nat.le_of_ble_eq_true rfl)
  rw [lg_entry_eq]
  generalize (lg_sl ([.ref (a 0), .int x1]) ++ List.replicate (2 - (lg_sl ([.ref (a 0), .int x1])).length) Slot.unset).toArray = ls at hl ⊢
  have hl : lv_has ls 2 [(0, .ref (a 0)), (1, .int x1)] := hl
  refine oh_genQ (fun Q hQ => ?_)
  refine lv_aload_n hx hb dX7_length_0 rfl (lv_at hl 0 rfl) ?_
  refine lv_iload_n hx hb dX7_length_1 rfl (lv_at hl 1 rfl) ?_
  refine tq_V (As := [.int x1]) (rest := []) (ws := (oh_W n a C)) ⟨hx, hb, hml, hown, htg⟩ (e_X7_isWaggon l D E G a C n hn hT x1 hR.1) (cwV 1 htg (oh_gV q_1278 q_1280 q_48 q_73 q_1281) rfl rfl rfl pdVX7_isWaggon ⟨Nat.le_of_ble_eq_true rfl, Nat.le_of_ble_eq_true rfl⟩) hK hP hG hS (va_recv hK hP (ci := 7) (q0 := 0) rfl (oh_wg (Nat.lt_of_lt_of_le (by decide) hn) (sM_0 hT))) rfl hl.1 rfl (Nat.le_of_ble_eq_true rfl) dX7_length_2 ⟨Nat.le_of_ble_eq_true rfl, Nat.le_of_ble_eq_true rfl⟩ (fun r_1 hq_2 => ?_)
  refine lv_if_eq (tgt := 16) hx hb dX7_length_5 (by decide) (fun (c_3 : r_1 = 0) => ?_) (fun (c_3 : ¬ (r_1 = 0)) => ?_)
  · have u_4 := hq_2.2.2 c_3
    refine lv_aload_n hx hb dX7_length_16 rfl (lv_at hl 0 rfl) ?_
    refine lv_bipush (v := (-2)) hx hb dX7_length_17 (by decide) ?_
    refine tm_V (As := [.int (-2)]) (rest := []) ⟨hx, hb, hml, hown, htg⟩ (c_X7_refuse l D E G _ a C n hn hT ((-2) : Int32) (rg_w (rg_c (v := (-2)) (lo := (-2)) (hi := (-2)) (by decide)) (by decide))) (cwV 1 htg (oh_gV q_1071 q_1073 q_29 q_73 q_1074) rfl rfl rfl pdVX7_refuse ⟨Nat.le_of_ble_eq_true rfl, Nat.le_of_ble_eq_true rfl⟩) hK hP hD hG hS hA (va_recv hK hP (ci := 7) (q0 := 0) rfl (oh_wg (Nat.lt_of_lt_of_le (by decide) hn) (sM_0 hT))) rfl hl.1 rfl (Nat.le_of_ble_eq_true rfl) dX7_length_19 ⟨Nat.le_of_ble_eq_true rfl, Nat.le_of_ble_eq_true rfl⟩ (fun r_5 C_6 H locs hq_7 hP hD hS => ?_)
    obtain ⟨hT, f_8, hq_7⟩ := hq_7
    have hF := fr_tr hF f_8 (by decide) (by decide)
    refine W.widen (k := 0) (n := 0) (Nat.le_refl _) (Nat.le_refl _) ?_
    have t_9 := hT
    rw [hQ]
    exact W.iret (v := r_5) hx hb hr (fun t ht hW => ⟨⟨r_5, C_6, rfl, ⟨hT, hF, ⟨⟨hR.1.fr hF (by decide), hR.2.fr hF (by decide)⟩, (fun A hA => Eq.trans hq_7 (pif_neg (by rw [← (show gi (C 0) 13 = A 5 0 2 from hA.1 2 (by decide))]; exact u_4)).symm)⟩⟩, ⟨by rw [ht]; exact hP, hD⟩⟩, hS.F ht⟩) hS.2.2 dX7_length_22
  · have u_10 := hq_2.2.1 c_3
    refine lv_aload_n hx hb dX7_length_8 rfl (lv_at hl 0 rfl) ?_
    refine lv_iload_n hx hb dX7_length_9 rfl (lv_at hl 1 rfl) ?_
    refine tq_V (As := [.int x1]) (rest := []) (ws := (oh_W n a C)) ⟨hx, hb, hml, hown, htg⟩ (e_X7_lengthOf l D E G a C n hn hT x1 (rg_w u_10.1 (by decide))) (cwV 1 htg (oh_gV q_1282 q_1284 q_49 q_73 q_1285) rfl rfl rfl pdVX7_lengthOf ⟨Nat.le_of_ble_eq_true rfl, Nat.le_of_ble_eq_true rfl⟩) hK hP hG hS (va_recv hK hP (ci := 7) (q0 := 0) rfl (oh_wg (Nat.lt_of_lt_of_le (by decide) hn) (sM_0 hT))) rfl hl.1 rfl (Nat.le_of_ble_eq_true rfl) dX7_length_10 ⟨Nat.le_of_ble_eq_true rfl, Nat.le_of_ble_eq_true rfl⟩ (fun r_11 hq_12 => ?_)
    subst hq_12
    refine lv_goto (tgt := 22) hx hb dX7_length_13 (by decide) ?_
    rw [hQ]
    exact W.iret (v := ((ga (C (64 + (x1).toNatClampNeg)) ((1 : Int32)).toNatClampNeg) * ((ga (C (64 + (x1).toNatClampNeg)) ((0 : Int32)).toNatClampNeg) - 1)) + 4) hx hb hr (fun t ht hW => ⟨⟨((ga (C (64 + (x1).toNatClampNeg)) ((1 : Int32)).toNatClampNeg) * ((ga (C (64 + (x1).toNatClampNeg)) ((0 : Int32)).toNatClampNeg) - 1)) + 4, C, rfl, ⟨hT, hF, ⟨hR, (fun A hA => Eq.trans (by rw [(show ga (C (64 + (x1).toNatClampNeg)) ((1 : Int32)).toNatClampNeg = A 2 x1.toNatClampNeg 1 from colM_v (t := 2) hA (by decide) (rg_w (lo := 0) (hi := 4) u_10.1 (by decide)) (by decide) (show 0 ≤ x1 ∧ x1 < A 5 0 2 by rw [← (show gi (C 0) 13 = A 5 0 2 from hA.1 2 (by decide))]; exact u_10.2.2.2).2 (by unfold vis; omega)), (show ga (C (64 + (x1).toNatClampNeg)) ((0 : Int32)).toNatClampNeg = A 2 x1.toNatClampNeg 0 from colM_v (t := 2) hA (by decide) (rg_w (lo := 0) (hi := 4) u_10.1 (by decide)) (by decide) (show 0 ≤ x1 ∧ x1 < A 5 0 2 by rw [← (show gi (C 0) 13 = A 5 0 2 from hA.1 2 (by decide))]; exact u_10.2.2.2).2 (by unfold vis; omega))]) (pif_pos (show 0 ≤ x1 ∧ x1 < A 5 0 2 by rw [← (show gi (C 0) 13 = A 5 0 2 from hA.1 2 (by decide))]; exact u_10.2.2.2)).symm)⟩⟩, ⟨by rw [ht]; exact hP, hD⟩⟩, hS.F ht⟩) hS.2.2 dX7_length_22

set_option maxHeartbeats 4000000 in
set_option maxRecDepth 100000 in
theorem e_X7_begin (l : Launch) (D : va_G) (E : Nat → ClassId) (G : Nat → Nat) (sz : Nat) (a : Nat → Nat) (C : Nat → va_E) (n : Nat) (hn : 74 ≤ n) (hT : TyM a E C) (x1 : Int32) (x2 : Int32) (x3 : Int32) (x4 : Int32) (hR : RelM C) : Met l yX7_begin (oh_w yX7_begin cX7_begin 5 (some .int)) ({ frames := 3, cells := 0, slots := 0, locals := 68 }) (oh_Pm D E G [.ref (a 0), .int x1, .int x2, .int x3, .int x4] (oh_W n a C) sz) (va_Qi (fun r (u : Nat → va_E) => TyM a E u ∧ fr [(8, 9), (14, 15)] [19] C u ∧ (RelM u) ∧ (∀ A : LA, absM C A → r = spBegin A x1 x2 x3 x4)) (oh_B D (va_A (oh_W n a C) sz) (fun u => oh_W n a u)) (va_A (oh_W n a C) sz)) 0 0 (va_A (oh_W n a C) sz) := by
  refine Met.ofW (cc := cX7_begin) (maxL := 5) (ret := (some .int)) (by decide) rfl ?_
  intro p e s m args below meth c s₁ B hml hv
  obtain ⟨rfl, hsz, hP, hK, hD0, hG⟩ := hv
  have hx := B.exec
  have hb := B.bytes
  have hr := B.returns
  have hts := atoms_spec (ws := (oh_w yX7_begin cX7_begin 5 (some .int))) B.pre
  have htg : ∀ w ∈ oh_t, w.before _ s = true := fun w h => hts w (List.mem_cons_of_mem _ h)
  have hown : s.vm.findClass RX7 = some m.cls := findClass_of_methodNamed B.named
  have hlocks := B.notSynchronized
  have hT0 := hT
  subst hsz
  have hD := hD0.self (sz := s.heap.size)
  generalize hAe : va_A (oh_W n a C) s.heap.size = A at hD hG ⊢
  have hA : ∀ q : Nat, s.heap.size ≤ q → A q := fun q h => by rw [← hAe]; exact Or.inr h
  have hS : va_S A s.heap s.heap [] := va_S.rf
  have hF : fr [(8, 9), (14, 15)] [19] C C := fr_rf
  have hl := lv_entry ([.ref (a 0), .int x1, .int x2, .int x3, .int x4]) (n := 5) (Nat.le_of_ble_eq_true rfl)
  rw [lg_entry_eq]
  generalize (lg_sl ([.ref (a 0), .int x1, .int x2, .int x3, .int x4]) ++ List.replicate (5 - (lg_sl ([.ref (a 0), .int x1, .int x2, .int x3, .int x4])).length) Slot.unset).toArray = ls at hl ⊢
  have hl : lv_has ls 5 [(0, .ref (a 0)), (1, .int x1), (2, .int x2), (3, .int x3), (4, .int x4)] := hl
  refine oh_genQ (fun Q hQ => ?_)
  refine lv_aload_n hx hb dX7_begin_0 rfl (lv_at hl 0 rfl) ?_
  refine lv_iload_n hx hb dX7_begin_1 rfl (lv_at hl 1 rfl) ?_
  refine lv_iload_n hx hb dX7_begin_2 rfl (lv_at hl 2 rfl) ?_
  refine tq_V (As := [.int x1, .int x2]) (rest := []) (ws := (oh_W n a C)) ⟨hx, hb, hml, hown, htg⟩ (e_X7_isPack l D E G a C n hn hT x1 x2 hR.1) (cwV 2 htg (oh_gV q_1290 q_1292 q_50 q_73 q_1293) rfl rfl rfl pdVX7_isPack ⟨Nat.le_of_ble_eq_true rfl, Nat.le_of_ble_eq_true rfl⟩) hK hP hG hS (va_recv hK hP (ci := 7) (q0 := 0) rfl (oh_wg (Nat.lt_of_lt_of_le (by decide) hn) (sM_0 hT))) rfl hl.1 rfl (Nat.le_of_ble_eq_true rfl) dX7_begin_3 ⟨Nat.le_of_ble_eq_true rfl, Nat.le_of_ble_eq_true rfl⟩ (fun r_1 hq_2 => ?_)
  refine lv_if_eq (tgt := 24) hx hb dX7_begin_6 (by decide) (fun (c_3 : r_1 = 0) => ?_) (fun (c_3 : ¬ (r_1 = 0)) => ?_)
  · have u_4 := hq_2.2.2 c_3
    refine lv_aload_n hx hb dX7_begin_24 rfl (lv_at hl 0 rfl) ?_
    refine lv_bipush (v := (-2)) hx hb dX7_begin_25 (by decide) ?_
    refine tm_V (As := [.int (-2)]) (rest := []) ⟨hx, hb, hml, hown, htg⟩ (c_X7_refuse l D E G _ a C n hn hT ((-2) : Int32) (rg_w (rg_c (v := (-2)) (lo := (-2)) (hi := (-2)) (by decide)) (by decide))) (cwV 1 htg (oh_gV q_1071 q_1073 q_29 q_73 q_1074) rfl rfl rfl pdVX7_refuse ⟨Nat.le_of_ble_eq_true rfl, Nat.le_of_ble_eq_true rfl⟩) hK hP hD hG hS hA (va_recv hK hP (ci := 7) (q0 := 0) rfl (oh_wg (Nat.lt_of_lt_of_le (by decide) hn) (sM_0 hT))) rfl hl.1 rfl (Nat.le_of_ble_eq_true rfl) dX7_begin_27 ⟨Nat.le_of_ble_eq_true rfl, Nat.le_of_ble_eq_true rfl⟩ (fun r_5 C_6 H locs hq_7 hP hD hS => ?_)
    obtain ⟨hT, f_8, hq_7⟩ := hq_7
    have hF := fr_tr hF f_8 (by decide) (by decide)
    refine W.widen (k := 0) (n := 0) (Nat.le_refl _) (Nat.le_refl _) ?_
    have t_9 := hT
    rw [hQ]
    exact W.iret (v := r_5) hx hb hr (fun t ht hW => ⟨⟨r_5, C_6, rfl, ⟨hT, hF, ⟨⟨(RelW.fr hR.1 f_8 (by decide)), hR.2.fr hF (by decide)⟩, (fun A hA => by unfold spBegin; rw [← (show gi (C 0) 13 = A 5 0 2 from hA.1 2 (by decide)), ← (show gi (C 0) 15 = A 5 0 3 from hA.1 3 (by decide))]; exact Eq.trans hq_7 (pif_neg (fun h8 => u_4 h8.1)).symm)⟩⟩, ⟨by rw [ht]; exact hP, hD⟩⟩, hS.F ht⟩) hS.2.2 dX7_begin_30
  · have u_10 := hq_2.2.1 c_3
    refine lv_iload_n hx hb dX7_begin_9 rfl (lv_at hl 3 rfl) ?_
    refine tq_S (As := [.int x3]) (rest := []) (ws := []) ⟨hx, hb, hml, hown, htg⟩ (e_X7_isPlace l D E G x3) (va_cwS 1 htg (oh_gS q_1130 q_1131 q_73 q_1132) rfl rfl rfl pdX7_isPlace ⟨Nat.le_of_ble_eq_true rfl, Nat.le_of_ble_eq_true rfl⟩) hK va_nil hG hS rfl hl.1 rfl (Nat.le_of_ble_eq_true rfl) dX7_begin_10 ⟨Nat.le_of_ble_eq_true rfl, Nat.le_of_ble_eq_true rfl⟩ (fun r_11 hq_12 => ?_)
    refine lv_if_eq (tgt := 24) hx hb dX7_begin_13 (by decide) (fun (c_13 : r_11 = 0) => ?_) (fun (c_13 : ¬ (r_11 = 0)) => ?_)
    · have u_14 := hq_12.2.2 c_13
      refine lv_aload_n hx hb dX7_begin_24 rfl (lv_at hl 0 rfl) ?_
      refine lv_bipush (v := (-2)) hx hb dX7_begin_25 (by decide) ?_
      refine tm_V (As := [.int (-2)]) (rest := []) ⟨hx, hb, hml, hown, htg⟩ (c_X7_refuse l D E G _ a C n hn hT ((-2) : Int32) (rg_w (rg_c (v := (-2)) (lo := (-2)) (hi := (-2)) (by decide)) (by decide))) (cwV 1 htg (oh_gV q_1071 q_1073 q_29 q_73 q_1074) rfl rfl rfl pdVX7_refuse ⟨Nat.le_of_ble_eq_true rfl, Nat.le_of_ble_eq_true rfl⟩) hK hP hD hG hS hA (va_recv hK hP (ci := 7) (q0 := 0) rfl (oh_wg (Nat.lt_of_lt_of_le (by decide) hn) (sM_0 hT))) rfl hl.1 rfl (Nat.le_of_ble_eq_true rfl) dX7_begin_27 ⟨Nat.le_of_ble_eq_true rfl, Nat.le_of_ble_eq_true rfl⟩ (fun r_15 C_16 H locs hq_17 hP hD hS => ?_)
      obtain ⟨hT, f_18, hq_17⟩ := hq_17
      have hF := fr_tr hF f_18 (by decide) (by decide)
      refine W.widen (k := 0) (n := 0) (Nat.le_refl _) (Nat.le_refl _) ?_
      have t_19 := hT
      rw [hQ]
      exact W.iret (v := r_15) hx hb hr (fun t ht hW => ⟨⟨r_15, C_16, rfl, ⟨hT, hF, ⟨⟨(RelW.fr hR.1 f_18 (by decide)), hR.2.fr hF (by decide)⟩, (fun A hA => by unfold spBegin; rw [← (show gi (C 0) 13 = A 5 0 2 from hA.1 2 (by decide)), ← (show gi (C 0) 15 = A 5 0 3 from hA.1 3 (by decide))]; exact Eq.trans hq_17 (pif_neg (fun h8 => u_14 h8.2.1)).symm)⟩⟩, ⟨by rw [ht]; exact hP, hD⟩⟩, hS.F ht⟩) hS.2.2 dX7_begin_30
    · have u_20 := hq_12.2.1 c_13
      refine lv_iload hx hb dX7_begin_16 (lv_at hl 4 rfl) ?_
      refine tq_S (As := [.int x4]) (rest := []) (ws := []) ⟨hx, hb, hml, hown, htg⟩ (e_X7_isPlace l D E G x4) (va_cwS 1 htg (oh_gS q_1130 q_1131 q_73 q_1132) rfl rfl rfl pdX7_isPlace ⟨Nat.le_of_ble_eq_true rfl, Nat.le_of_ble_eq_true rfl⟩) hK va_nil hG hS rfl hl.1 rfl (Nat.le_of_ble_eq_true rfl) dX7_begin_18 ⟨Nat.le_of_ble_eq_true rfl, Nat.le_of_ble_eq_true rfl⟩ (fun r_21 hq_22 => ?_)
      refine lv_if_ne (tgt := 31) hx hb dX7_begin_21 (by decide) (fun (c_23 : ¬ (r_21 = 0)) => ?_) (fun (c_23 : r_21 = 0) => ?_)
      · have u_24 := hq_22.2.1 c_23
        refine lv_aload_n hx hb dX7_begin_31 rfl (lv_at hl 0 rfl) ?_
        refine va_get (D := D) (ci := 7) (v := .ref (a 14)) (C := RX7) (T := TX7) (N := 29) hx hb htg ig_7 hown hK hP 0 (oh_wg (Nat.lt_of_lt_of_le (by decide) hn) (sM_0 hT)) rfl 18 (by decide) (htg _ q_991) (fun _ h9 => h9) rfl dX7_begin_32 ?_
        refine lv_iconst (v := 0) hx hb dX7_begin_35 (by decide) ?_
        refine lv_iconst (v := 1) hx hb dX7_begin_36 (by decide) ?_
        refine th_iast (T := TyM a E) (Rl := fr [(8, 9), (14, 15)] [19] C) hx hb hK hP hD hS 14 (Nat.lt_of_lt_of_le (by decide) hn) (sM_14 hT) (rg_in (rg_c (v := 0) (lo := 0) (hi := 0) (by decide)) (by decide)) (hT.up 14 (by decide) (tA_upd (tM_14 hT) (tA_stc (show _ = 0 by decide) (rg_c (v := 1) (lo := 1) (hi := 1) (by decide)) (by decide)))) (fr_st hF (by decide) (by decide)) dX7_begin_37 (fun C_25 H locs e_26 hT hF hP hD hS => ?_)
        have t_27 := hT
        refine lv_aload_n hx hb dX7_begin_38 rfl (lv_at hl 0 rfl) ?_
        refine va_get (D := D) (ci := 7) (v := .ref (a 14)) (C := RX7) (T := TX7) (N := 29) hx hb htg ig_7 hown hK hP 0 (oh_wg (Nat.lt_of_lt_of_le (by decide) hn) (sM_0 hT)) rfl 18 (by decide) (htg _ q_991) (fun _ h9 => h9) rfl dX7_begin_39 ?_
        refine lv_iconst (v := 1) hx hb dX7_begin_42 (by decide) ?_
        refine lv_iload_n hx hb dX7_begin_43 rfl (lv_at hl 1 rfl) ?_
        refine th_iast (T := TyM a E) (Rl := fr [(8, 9), (14, 15)] [19] C) hx hb hK hP hD hS 14 (Nat.lt_of_lt_of_le (by decide) hn) (sM_14 hT) (rg_in (rg_c (v := 1) (lo := 1) (hi := 1) (by decide)) (by decide)) (hT.up 14 (by decide) (tA_upd (tM_14 hT) (tA_stc (show _ = 1 by decide) u_10.1 (by decide)))) (fr_st hF (by decide) (by decide)) dX7_begin_44 (fun C_28 H locs e_29 hT hF hP hD hS => ?_)
        have t_30 := hT
        refine lv_aload_n hx hb dX7_begin_45 rfl (lv_at hl 0 rfl) ?_
        refine va_get (D := D) (ci := 7) (v := .ref (a 14)) (C := RX7) (T := TX7) (N := 29) hx hb htg ig_7 hown hK hP 0 (oh_wg (Nat.lt_of_lt_of_le (by decide) hn) (sM_0 hT)) rfl 18 (by decide) (htg _ q_991) (fun _ h9 => h9) rfl dX7_begin_46 ?_
        refine lv_iconst (v := 2) hx hb dX7_begin_49 (by decide) ?_
        refine lv_iload_n hx hb dX7_begin_50 rfl (lv_at hl 2 rfl) ?_
        refine th_iast (T := TyM a E) (Rl := fr [(8, 9), (14, 15)] [19] C) hx hb hK hP hD hS 14 (Nat.lt_of_lt_of_le (by decide) hn) (sM_14 hT) (rg_in (rg_c (v := 2) (lo := 2) (hi := 2) (by decide)) (by decide)) (hT.up 14 (by decide) (tA_upd (tM_14 hT) (tA_stc (show _ = 2 by decide) (rg_any _) (by decide)))) (fr_st hF (by decide) (by decide)) dX7_begin_51 (fun C_31 H locs e_32 hT hF hP hD hS => ?_)
        have t_33 := hT
        refine lv_aload_n hx hb dX7_begin_52 rfl (lv_at hl 0 rfl) ?_
        refine va_get (D := D) (ci := 7) (v := .ref (a 14)) (C := RX7) (T := TX7) (N := 29) hx hb htg ig_7 hown hK hP 0 (oh_wg (Nat.lt_of_lt_of_le (by decide) hn) (sM_0 hT)) rfl 18 (by decide) (htg _ q_991) (fun _ h9 => h9) rfl dX7_begin_53 ?_
        refine lv_iconst (v := 3) hx hb dX7_begin_56 (by decide) ?_
        refine lv_iload_n hx hb dX7_begin_57 rfl (lv_at hl 3 rfl) ?_
        refine th_iast (T := TyM a E) (Rl := fr [(8, 9), (14, 15)] [19] C) hx hb hK hP hD hS 14 (Nat.lt_of_lt_of_le (by decide) hn) (sM_14 hT) (rg_in (rg_c (v := 3) (lo := 3) (hi := 3) (by decide)) (by decide)) (hT.up 14 (by decide) (tA_upd (tM_14 hT) (tA_stc (show _ = 3 by decide) u_20 (by decide)))) (fr_st hF (by decide) (by decide)) dX7_begin_58 (fun C_34 H locs e_35 hT hF hP hD hS => ?_)
        have t_36 := hT
        refine lv_aload_n hx hb dX7_begin_59 rfl (lv_at hl 0 rfl) ?_
        refine va_get (D := D) (ci := 7) (v := .ref (a 14)) (C := RX7) (T := TX7) (N := 29) hx hb htg ig_7 hown hK hP 0 (oh_wg (Nat.lt_of_lt_of_le (by decide) hn) (sM_0 hT)) rfl 18 (by decide) (htg _ q_991) (fun _ h9 => h9) rfl dX7_begin_60 ?_
        refine lv_iconst (v := 4) hx hb dX7_begin_63 (by decide) ?_
        refine lv_iload hx hb dX7_begin_64 (lv_at hl 4 rfl) ?_
        refine th_iast (T := TyM a E) (Rl := fr [(8, 9), (14, 15)] [19] C) hx hb hK hP hD hS 14 (Nat.lt_of_lt_of_le (by decide) hn) (sM_14 hT) (rg_in (rg_c (v := 4) (lo := 4) (hi := 4) (by decide)) (by decide)) (hT.up 14 (by decide) (tA_upd (tM_14 hT) (tA_stc (show _ = 4 by decide) u_24 (by decide)))) (fr_st hF (by decide) (by decide)) dX7_begin_66 (fun C_37 H locs e_38 hT hF hP hD hS => ?_)
        have t_39 := hT
        refine lv_aload_n hx hb dX7_begin_67 rfl (lv_at hl 0 rfl) ?_
        refine va_get (D := D) (ci := 7) (v := .ref (a 14)) (C := RX7) (T := TX7) (N := 29) hx hb htg ig_7 hown hK hP 0 (oh_wg (Nat.lt_of_lt_of_le (by decide) hn) (sM_0 hT)) rfl 18 (by decide) (htg _ q_991) (fun _ h9 => h9) rfl dX7_begin_68 ?_
        refine lv_iconst (v := 5) hx hb dX7_begin_71 (by decide) ?_
        refine lv_iconst (v := 0) hx hb dX7_begin_72 (by decide) ?_
        refine th_iast (T := TyM a E) (Rl := fr [(8, 9), (14, 15)] [19] C) hx hb hK hP hD hS 14 (Nat.lt_of_lt_of_le (by decide) hn) (sM_14 hT) (rg_in (rg_c (v := 5) (lo := 5) (hi := 5) (by decide)) (by decide)) (hT.up 14 (by decide) (tA_upd (tM_14 hT) (tA_stc (show _ = 5 by decide) (rg_c (v := 0) (lo := 0) (hi := 0) (by decide)) (by decide)))) (fr_st hF (by decide) (by decide)) dX7_begin_73 (fun C_40 H locs e_41 hT hF hP hD hS => ?_)
        have t_42 := hT
        refine lv_aload_n hx hb dX7_begin_74 rfl (lv_at hl 0 rfl) ?_
        refine va_get (D := D) (ci := 7) (v := .ref (a 14)) (C := RX7) (T := TX7) (N := 29) hx hb htg ig_7 hown hK hP 0 (oh_wg (Nat.lt_of_lt_of_le (by decide) hn) (sM_0 hT)) rfl 18 (by decide) (htg _ q_991) (fun _ h9 => h9) rfl dX7_begin_75 ?_
        refine lv_bipush (v := 6) hx hb dX7_begin_78 (by decide) ?_
        refine lv_iconst (v := 0) hx hb dX7_begin_80 (by decide) ?_
        refine th_iast (T := TyM a E) (Rl := fr [(8, 9), (14, 15)] [19] C) hx hb hK hP hD hS 14 (Nat.lt_of_lt_of_le (by decide) hn) (sM_14 hT) (rg_in (rg_c (v := 6) (lo := 6) (hi := 6) (by decide)) (by decide)) (hT.up 14 (by decide) (tA_upd (tM_14 hT) (tA_stc (show _ = 6 by decide) (rg_c (v := 0) (lo := 0) (hi := 0) (by decide)) (by decide)))) (fr_st hF (by decide) (by decide)) dX7_begin_81 (fun C_43 H locs e_44 hT hF hP hD hS => ?_)
        have t_45 := hT
        refine lv_aload_n hx hb dX7_begin_82 rfl (lv_at hl 0 rfl) ?_
        refine lv_aload_n hx hb dX7_begin_83 rfl (lv_at hl 0 rfl) ?_
        refine lv_iload_n hx hb dX7_begin_84 rfl (lv_at hl 2 rfl) ?_
        refine tq_V (As := [.int x2]) (rest := [.ref (a 0)]) (ws := (oh_W n a C_43)) ⟨hx, hb, hml, hown, htg⟩ (c_X7_partsCoin l D E G a C_43 n hn hT x2) (cwV 1 htg (oh_gV q_1356 q_1358 q_61 q_73 q_1359) rfl rfl rfl pdVX7_partsCoin ⟨Nat.le_of_ble_eq_true rfl, Nat.le_of_ble_eq_true rfl⟩) hK hP hG hS (va_recv hK hP (ci := 7) (q0 := 0) rfl (oh_wg (Nat.lt_of_lt_of_le (by decide) hn) (sM_0 hT))) rfl hl.1 rfl (Nat.le_of_ble_eq_true rfl) dX7_begin_85 ⟨Nat.le_of_ble_eq_true rfl, Nat.le_of_ble_eq_true rfl⟩ (fun r_46 hq_47 => ?_)
        refine th_put (Tp := TyM a E) (Rl := fr [(8, 9), (14, 15)] [19] C) (ci := 7) (v := .int r_46) (ty := .int) (CC := RX7) (T := TX7) (N := 29) hx hb htg ig_7 tyX7 tyX7_ok nmX7 hown hK hP hD hS 0 (Nat.lt_of_lt_of_le (by decide) hn) (sM_0 hT) rfl 19 (by decide) (htg _ q_992) (fun _ h9 => h9) rfl (by decide +kernel) rfl rfl (Nat.le_of_ble_eq_true rfl) (hT.up 0 (by decide) ⟨rfl, (fM_0_7 hT), (fM_0_9 hT), (fM_0_11 hT), (fM_0_13 hT), (fM_0_15 hT), (fM_0_21 hT), (fM_0_23 hT)⟩) (fr_fd hF (sM_0 hT) (by decide)) dX7_begin_88 (fun C_48 H locs e_49 hT hF hP hD hS => ?_)
        have t_50 := hT
        refine lv_iconst (v := 1) hx hb dX7_begin_91 (by decide) ?_
        rw [hQ]
        exact W.iret (v := 1) hx hb hr (fun t ht hW => ⟨⟨1, C_48, rfl, ⟨hT, hF, ⟨⟨relW_mk hR.1 hF (by decide) (fun _ => by rw [(th_un e_49 (by decide)), (st_ga e_44), pk_un (by decide), (st_ga e_41), pk_un (by decide), (st_ga e_38), pk_un (by decide), (st_ga e_35), pk_un (by decide), (st_ga e_32), pk_un (by decide), (st_ga e_29)]; exact u_10.2.2.1), hR.2.fr hF (by decide)⟩, (fun A hA => by unfold spBegin; rw [← (show gi (C 0) 13 = A 5 0 2 from hA.1 2 (by decide)), ← (show gi (C 0) 15 = A 5 0 3 from hA.1 3 (by decide))]; exact (pif_pos ⟨u_10.2.2.2, (oh_rgI (p := 0) (q := 15) (rg_w (lo := 0) (hi := 15) u_20 (by decide))), (oh_rgI (p := 0) (q := 15) (rg_w (lo := 0) (hi := 15) u_24 (by decide)))⟩).symm)⟩⟩, ⟨by rw [ht]; exact hP, hD⟩⟩, hS.F ht⟩) hS.2.2 dX7_begin_92
      · have u_51 := hq_22.2.2 c_23
        refine lv_aload_n hx hb dX7_begin_24 rfl (lv_at hl 0 rfl) ?_
        refine lv_bipush (v := (-2)) hx hb dX7_begin_25 (by decide) ?_
        refine tm_V (As := [.int (-2)]) (rest := []) ⟨hx, hb, hml, hown, htg⟩ (c_X7_refuse l D E G _ a C n hn hT ((-2) : Int32) (rg_w (rg_c (v := (-2)) (lo := (-2)) (hi := (-2)) (by decide)) (by decide))) (cwV 1 htg (oh_gV q_1071 q_1073 q_29 q_73 q_1074) rfl rfl rfl pdVX7_refuse ⟨Nat.le_of_ble_eq_true rfl, Nat.le_of_ble_eq_true rfl⟩) hK hP hD hG hS hA (va_recv hK hP (ci := 7) (q0 := 0) rfl (oh_wg (Nat.lt_of_lt_of_le (by decide) hn) (sM_0 hT))) rfl hl.1 rfl (Nat.le_of_ble_eq_true rfl) dX7_begin_27 ⟨Nat.le_of_ble_eq_true rfl, Nat.le_of_ble_eq_true rfl⟩ (fun r_52 C_53 H locs hq_54 hP hD hS => ?_)
        obtain ⟨hT, f_55, hq_54⟩ := hq_54
        have hF := fr_tr hF f_55 (by decide) (by decide)
        refine W.widen (k := 0) (n := 0) (Nat.le_refl _) (Nat.le_refl _) ?_
        have t_56 := hT
        rw [hQ]
        exact W.iret (v := r_52) hx hb hr (fun t ht hW => ⟨⟨r_52, C_53, rfl, ⟨hT, hF, ⟨⟨(RelW.fr hR.1 f_55 (by decide)), hR.2.fr hF (by decide)⟩, (fun A hA => by unfold spBegin; rw [← (show gi (C 0) 13 = A 5 0 2 from hA.1 2 (by decide)), ← (show gi (C 0) 15 = A 5 0 3 from hA.1 3 (by decide))]; exact Eq.trans hq_54 (pif_neg (fun h8 => u_51 h8.2.2)).symm)⟩⟩, ⟨by rw [ht]; exact hP, hD⟩⟩, hS.F ht⟩) hS.2.2 dX7_begin_30
/-! EXACT: a pack's weight on an axle, on a bridge -/
noncomputable def sumA (A : LA) (set : Int32) (col : Nat) : Nat → Int32
  | 0 => 0
  | k + 1 => sumA A set col k + pif ((set >>> (Int32.ofNat k &&& 31)) &&& 1 = 0) 0 (A 3 k col)
def rndUp (v b : Int32) : Int32 := if (0 : Int32) < b then (v + b - 1) / b else 0
def cutBy (v b : Int32) : Int32 := if (0 : Int32) < b then v / b else 0
def aLoad (ax tare wt sum : Int32) : Int32 := rndUp (if tare + wt - sum < 0 then 0 else tare + wt - sum) ax
noncomputable def aL (A : LA) (w s : Int32) : Int32 := aLoad (A 2 w.toNatClampNeg 0) (A 2 w.toNatClampNeg 2) (A 4 0 0) (sumA A s 0 (A 5 0 3).toNatClampNeg)
noncomputable def spAxle (A : LA) (w s : Int32) : Int32 := pif (okPk (A 5 0 2) (A 5 0 3) w s) (aL A w s) (-2)
noncomputable def stOn (A : LA) (w s b : Int32) : Int32 := (if cutBy (A 1 b.toNatClampNeg 2) (A 2 w.toNatClampNeg 1) + 1 < A 2 w.toNatClampNeg 0 then cutBy (A 1 b.toNatClampNeg 2) (A 2 w.toNatClampNeg 1) + 1 else A 2 w.toNatClampNeg 0) * aL A w s
noncomputable def spStrain (A : LA) (w s b : Int32) : Int32 := pif (okPk (A 5 0 2) (A 5 0 3) w s ∧ (0 ≤ b ∧ b < A 5 0 1)) (stOn A w s b) (-2)
theorem oh_bit (x : Int32) : x &&& 1 = 0 ∨ x &&& 1 = 1 := by
  obtain ⟨j, hj, ej⟩ := pk_andE x (m := 1) 1 (by decide)
  have hj : j < 2 := hj
  rcases (show j = 0 ∨ j = 1 by omega) with rfl | rfl
  · exact Or.inl ej
  · exact Or.inr ej
theorem oh_ofc {z : Int32} {l u : Int} (h : rg z l u) (hl : 0 ≤ l) : Int32.ofNat z.toNatClampNeg = z := by
  refine Int32.toInt_inj.mp ?_
  have e := oh_nat h hl
  have h2 := Int32.toInt_lt z
  have e2 : (Int32.ofNat z.toNatClampNeg).toInt = (z.toNatClampNeg : Int) := nI_toInt (by omega)
  rw [e2, e]
theorem sumA_s {A : LA} {set z : Int32} {col : Nat} {u : Int} (hz : rg z 0 u) (hu : decide (u ≤ 1000) = true) : sumA A set col (z + 1).toNatClampNeg = sumA A set col z.toNatClampNeg + pif ((set >>> (z &&& 31)) &&& 1 = 0) 0 (A 3 z.toNatClampNeg col) := by
  have hu2 := of_decide_eq_true hu
  have e1 : (z + 1).toInt = z.toInt + 1 := by
    rw [Int32.toInt_add]
    exact oh_bmod (by show _ ≤ z.toInt + 1; have := hz.1; omega) (by show z.toInt + 1 ≤ _; have := hz.2; omega)
  have e3 : (z + 1).toNatClampNeg = z.toNatClampNeg + 1 := by
    show (z + 1).toInt.toNat = z.toInt.toNat + 1
    rw [e1]
    have := hz.1
    omega
  rw [e3]
  show sumA A set col z.toNatClampNeg + pif ((set >>> (Int32.ofNat z.toNatClampNeg &&& 31)) &&& 1 = 0) 0 (A 3 z.toNatClampNeg col) = _
  rw [oh_ofc hz (by decide)]

set_option maxHeartbeats 4000000 in
set_option maxRecDepth 100000 in
theorem e_X0_sumOfParts (l : Launch) (D : va_G) (E : Nat → ClassId) (G : Nat → Nat) (a : Nat → Nat) (C : Nat → va_E) (hT : TyX a E C) (x1 : Int32) (x2 : Int32) (hx2 : rg x2 0 1) : Met l yX0_sumOfParts (oh_w yX0_sumOfParts cX0_sumOfParts 5 (some .int)) ({ frames := 0, cells := 0, slots := 0, locals := 0 }) (oh_Pp D E G [.ref (a 1), .int x1, .int x2] (oh_W 35 a C)) (vp_Si (fun r => (∀ A : LA, absX 10 C A → r = sumA A x1 x2.toNatClampNeg (A 5 0 3).toNatClampNeg))) 0 0 (fun _ => False) := by
  refine Met.ofW (cc := cX0_sumOfParts) (maxL := 5) (ret := (some .int)) (by decide) rfl ?_
  intro p e s m args below meth c s₁ B hml hv
  obtain ⟨rfl, hP, hK, hG⟩ := hv
  have hx := B.exec
  have hb := B.bytes
  have hr := B.returns
  have hts := atoms_spec (ws := (oh_w yX0_sumOfParts cX0_sumOfParts 5 (some .int))) B.pre
  have htg : ∀ w ∈ oh_t, w.before _ s = true := fun w h => hts w (List.mem_cons_of_mem _ h)
  have hown : s.vm.findClass RX0 = some m.cls := findClass_of_methodNamed B.named
  have hlocks := B.notSynchronized
  have hT0 := hT
  have hS : va_S (fun _ => False) s.heap s.heap [] := va_S.rf
  have hl := lv_entry ([.ref (a 1), .int x1, .int x2]) (n := 5) (Nat.le_of_ble_eq_true rfl)
  rw [lg_entry_eq]
  generalize (lg_sl ([.ref (a 1), .int x1, .int x2]) ++ List.replicate (5 - (lg_sl ([.ref (a 1), .int x1, .int x2])).length) Slot.unset).toArray = ls at hl ⊢
  have hl : lv_has ls 5 [(0, .ref (a 1)), (1, .int x1), (2, .int x2)] := hl
  refine oh_genQ (fun Q hQ => ?_)
  refine lv_iconst (v := 0) hx hb dX0_sumOfParts_0 (by decide) ?_
  refine lv_istore_n (lv' := [(3, .int 0), (0, .ref (a 1)), (1, .int x1), (2, .int x2)]) hx hb dX0_sumOfParts_1 rfl hl (by decide) rfl (fun ls hl => ?_)
  refine lv_iconst (v := 0) hx hb dX0_sumOfParts_2 (by decide) ?_
  refine lv_istore (lv' := [(4, .int 0), (3, .int 0), (0, .ref (a 1)), (1, .int x1), (2, .int x2)]) hx hb dX0_sumOfParts_3 hl (by decide) rfl (fun ls hl => ?_)
  have L_5 : ∀ (d : Nat) (z5_4 : Int32) (z5_3 : Int32) (ls : Array Slot), (5 - z5_4.toInt).toNat = d → rg z5_4 0 5 → (∀ A : LA, absX 10 C A → z5_3 = sumA A x1 x2.toNatClampNeg z5_4.toNatClampNeg) → (z5_4.toInt ≤ (ga (C 10) ((3 : Int32)).toNatClampNeg).toInt) → lv_has ls 5 [(4, .int z5_4), (3, .int z5_3), (0, .ref (a 1)), (1, .int x1), (2, .int x2)] → W p l e ({ frames := 0, cells := 0, slots := 0, locals := 0 }) s m (([.ref (a 1), .int x1, .int x2] : List Value).toArray) below meth c s.heap [] 0 0 Q (F0 m 5 ls []) := by
    intro d
    induction d using Nat.strongRecOn with
    | ind d ih_5 =>
    intro z5_4 z5_3 ls hd_5 hz5_4 hx_5 hy_5 hl
    refine lv_iload hx hb dX0_sumOfParts_5 (lv_at hl 0 rfl) ?_
    refine lv_aload_n hx hb dX0_sumOfParts_7 rfl (lv_at hl 2 rfl) ?_
    refine va_get (D := D) (ci := 0) (v := .ref (a 10)) (C := RX0) (T := TX0) (N := 8) hx hb htg ig_0 hown hK hP 1 (oh_wg (by decide) (sX_1 hT)) rfl 0 (by decide) (htg _ q_97) (fun _ h9 => h9) rfl dX0_sumOfParts_8 ?_
    refine lv_iconst (v := 3) hx hb dX0_sumOfParts_11 (by decide) ?_
    refine th_iald hx hb hK hP 10 (by decide) (sX_10 hT) (rg_in (rg_c (v := 3) (lo := 3) (hi := 3) (by decide)) (by decide)) dX0_sumOfParts_12 ?_
    refine lv_icmp_ge (tgt := 46) hx hb dX0_sumOfParts_13 (by decide) (fun (c_1 : (ga (C 10) ((3 : Int32)).toNatClampNeg) ≤ z5_4) => ?_) (fun (c_1 : ¬ ((ga (C 10) ((3 : Int32)).toNatClampNeg) ≤ z5_4)) => ?_)
    · refine lv_iload_n hx hb dX0_sumOfParts_46 rfl (lv_at hl 1 rfl) ?_
      rw [hQ]
      exact W.iret (v := z5_3) hx hb hr (fun t ht hW => ⟨z5_3, rfl, (fun A hA => by rw [hx_5 A hA, show z5_4 = A 5 0 3 from Eq.trans (show z5_4 = ga (C 10) ((3 : Int32)).toNatClampNeg from Int32.toInt_inj.mp (by have h7 := Int32.le_iff_toInt_le.mp c_1; have h8 := hy_5; omega)) (hA.1 3 (by decide))]), ht⟩) (fun q h => by cases h) dX0_sumOfParts_47
    · refine lv_iload_n hx hb dX0_sumOfParts_16 rfl (lv_at hl 3 rfl) ?_
      refine lv_iload hx hb dX0_sumOfParts_17 (lv_at hl 0 rfl) ?_
      refine lv_ishr hx hb dX0_sumOfParts_19 ?_
      refine lv_iconst (v := 1) hx hb dX0_sumOfParts_20 (by decide) ?_
      refine lv_iand hx hb dX0_sumOfParts_21 ?_
      refine lv_iconst (v := 1) hx hb dX0_sumOfParts_22 (by decide) ?_
      refine lv_icmp_ne (tgt := 40) hx hb dX0_sumOfParts_23 (by decide) (fun (c_2 : ¬ (((x1 >>> (z5_4 &&& 31)) &&& 1) = 1)) => ?_) (fun (c_2 : ((x1 >>> (z5_4 &&& 31)) &&& 1) = 1) => ?_)
      · refine lv_iinc (v := z5_4 + 1) (lv' := [(4, .int (z5_4 + 1)), (3, .int z5_3), (0, .ref (a 1)), (1, .int x1), (2, .int x2)]) hx hb dX0_sumOfParts_40 hl (k := 0) rfl (by rfl) (by decide) rfl (fun ls hl => ?_)
        refine lv_goto (tgt := 5) hx hb dX0_sumOfParts_43 (by decide) ?_
        exact ih_5 _ (hd_5 ▸ mu_up 5 (rn_ltu (u' := 4) (Int32.not_le.mp c_1) hz5_4 (tA_rdc (lo := 0) (hi := 5) (tX_10 hT0) (rg_in (rg_c (v := 3) (lo := 3) (hi := 3) (by decide)) (by decide)) (show _ = 3 by decide) (by decide)) (by decide)) (by decide)) (z5_4 + 1) z5_3 ls rfl (rg_w (rg_add (lo := 1) (hi := 5) (rn_ltu (u' := 4) (Int32.not_le.mp c_1) hz5_4 (tA_rdc (lo := 0) (hi := 5) (tX_10 hT0) (rg_in (rg_c (v := 3) (lo := 3) (hi := 3) (by decide)) (by decide)) (show _ = 3 by decide) (by decide)) (by decide)) (rg_c (v := 1) (lo := 1) (hi := 1) (by decide)) (by decide)) (by decide)) (fun A hA => by rw [sumA_s (rg_w (lo := 0) (hi := 4) (rn_ltu (u' := 4) (Int32.not_le.mp c_1) hz5_4 (tA_rdc (lo := 0) (hi := 5) (tX_10 hT0) (rg_in (rg_c (v := 3) (lo := 3) (hi := 3) (by decide)) (by decide)) (show _ = 3 by decide) (by decide)) (by decide)) (by decide)) (by decide), pif_pos ((oh_bit _).resolve_right c_2), ← hx_5 A hA, Int32.add_zero]) (by have h7 := Int32.lt_iff_toInt_lt.mp (Int32.not_le.mp c_1); have h8 : (z5_4 + 1).toInt = z5_4.toInt + 1 := oh_incr (rn_ltu (u' := 4) (Int32.not_le.mp c_1) hz5_4 (tA_rdc (lo := 0) (hi := 5) (tX_10 hT0) (rg_in (rg_c (v := 3) (lo := 3) (hi := 3) (by decide)) (by decide)) (show _ = 3 by decide) (by decide)) (by decide)) (by decide); omega) (lv_sub hl [0, 1, 2, 3, 4] rfl)
      · refine lv_iload_n hx hb dX0_sumOfParts_26 rfl (lv_at hl 1 rfl) ?_
        refine lv_aload_n hx hb dX0_sumOfParts_27 rfl (lv_at hl 2 rfl) ?_
        refine va_get (D := D) (ci := 0) (v := .ref (a 14)) (C := RX0) (T := TX0) (N := 8) hx hb htg ig_0 hown hK hP 1 (oh_wg (by decide) (sX_1 hT)) rfl 4 (by decide) (htg _ q_105) (fun _ h9 => h9) rfl dX0_sumOfParts_28 ?_
        refine lv_iload hx hb dX0_sumOfParts_31 (lv_at hl 0 rfl) ?_
        refine lv_iconst (v := 2) hx hb dX0_sumOfParts_33 (by decide) ?_
        refine lv_imul hx hb dX0_sumOfParts_34 ?_
        refine lv_iload_n hx hb dX0_sumOfParts_35 rfl (lv_at hl 4 rfl) ?_
        refine lv_iadd hx hb dX0_sumOfParts_36 ?_
        have n_3 : vp_in ((z5_4 * 2) + x2) 10 := (rg_in (rg_add (lo := 0) (hi := 9) (rg_mul (lo := 0) (hi := 8) (rn_ltu (u' := 4) (Int32.not_le.mp c_1) hz5_4 (tA_rdc (lo := 0) (hi := 5) (tX_10 hT0) (rg_in (rg_c (v := 3) (lo := 3) (hi := 3) (by decide)) (by decide)) (show _ = 3 by decide) (by decide)) (by decide)) (rg_c (v := 2) (lo := 2) (hi := 2) (by decide)) (by decide)) hx2 (by decide)) (by decide))
        refine th_iald hx hb hK hP 14 (by decide) (sX_14 hT) n_3 dX0_sumOfParts_37 ?_
        refine lv_iadd hx hb dX0_sumOfParts_38 ?_
        refine lv_istore_n (lv' := [(3, .int (z5_3 + (ga (C 14) ((z5_4 * 2) + x2).toNatClampNeg))), (4, .int z5_4), (0, .ref (a 1)), (1, .int x1), (2, .int x2)]) hx hb dX0_sumOfParts_39 rfl hl (by decide) rfl (fun ls hl => ?_)
        refine lv_iinc (v := z5_4 + 1) (lv' := [(4, .int (z5_4 + 1)), (3, .int (z5_3 + (ga (C 14) ((z5_4 * 2) + x2).toNatClampNeg))), (0, .ref (a 1)), (1, .int x1), (2, .int x2)]) hx hb dX0_sumOfParts_40 hl (k := 1) rfl (by rfl) (by decide) rfl (fun ls hl => ?_)
        refine lv_goto (tgt := 5) hx hb dX0_sumOfParts_43 (by decide) ?_
        exact ih_5 _ (hd_5 ▸ mu_up 5 (rn_ltu (u' := 4) (Int32.not_le.mp c_1) hz5_4 (tA_rdc (lo := 0) (hi := 5) (tX_10 hT0) (rg_in (rg_c (v := 3) (lo := 3) (hi := 3) (by decide)) (by decide)) (show _ = 3 by decide) (by decide)) (by decide)) (by decide)) (z5_4 + 1) (z5_3 + (ga (C 14) ((z5_4 * 2) + x2).toNatClampNeg)) ls rfl (rg_w (rg_add (lo := 1) (hi := 5) (rn_ltu (u' := 4) (Int32.not_le.mp c_1) hz5_4 (tA_rdc (lo := 0) (hi := 5) (tX_10 hT0) (rg_in (rg_c (v := 3) (lo := 3) (hi := 3) (by decide)) (by decide)) (show _ = 3 by decide) (by decide)) (by decide)) (rg_c (v := 1) (lo := 1) (hi := 1) (by decide)) (by decide)) (by decide)) (fun A hA => by rw [sumA_s (rg_w (lo := 0) (hi := 4) (rn_ltu (u' := 4) (Int32.not_le.mp c_1) hz5_4 (tA_rdc (lo := 0) (hi := 5) (tX_10 hT0) (rg_in (rg_c (v := 3) (lo := 3) (hi := 3) (by decide)) (by decide)) (show _ = 3 by decide) (by decide)) (by decide)) (by decide)) (by decide), pif_neg (by rw [c_2]; decide), ← hx_5 A hA, (show ga (C 14) (z5_4 * 2 + x2).toNatClampNeg = A 3 z5_4.toNatClampNeg x2.toNatClampNeg from colX_v (t := 3) hA (by decide) (rg_w (lo := 0) (hi := 4) (rn_ltu (u' := 4) (Int32.not_le.mp c_1) hz5_4 (tA_rdc (lo := 0) (hi := 5) (tX_10 hT0) (rg_in (rg_c (v := 3) (lo := 3) (hi := 3) (by decide)) (by decide)) (show _ = 3 by decide) (by decide)) (by decide)) (by decide)) rfl hx2 (by decide) (show z5_4 < A 5 0 3 from oh_lte (Int32.not_le.mp c_1) (hA.1 3 (by decide))) (by unfold vis; omega))]) (by have h7 := Int32.lt_iff_toInt_lt.mp (Int32.not_le.mp c_1); have h8 : (z5_4 + 1).toInt = z5_4.toInt + 1 := oh_incr (rn_ltu (u' := 4) (Int32.not_le.mp c_1) hz5_4 (tA_rdc (lo := 0) (hi := 5) (tX_10 hT0) (rg_in (rg_c (v := 3) (lo := 3) (hi := 3) (by decide)) (by decide)) (show _ = 3 by decide) (by decide)) (by decide)) (by decide); omega) (lv_sub hl [0, 1, 2, 3, 4] rfl)
  exact L_5 _ 0 0 ls rfl (rg_w (rg_c (v := 0) (lo := 0) (hi := 0) (by decide)) (by decide)) (fun A hA => rfl) (cntX 3 hT0 (by decide)).1 (lv_sub hl [0, 1, 2, 3, 4] rfl)

set_option maxHeartbeats 4000000 in
set_option maxRecDepth 100000 in
theorem e_X6_roundedUp (l : Launch) (D : va_G) (E : Nat → ClassId) (G : Nat → Nat) (x1 : Int32) (x2 : Int32) : Met l yX6_roundedUp (oh_w yX6_roundedUp cX6_roundedUp 2 (some .int)) ({ frames := 0, cells := 0, slots := 0, locals := 0 }) (oh_Pp D E G [.int x1, .int x2] []) (vp_Si (fun r => (r = rndUp x1 x2))) 0 0 (fun _ => False) := by
  refine Met.ofW (cc := cX6_roundedUp) (maxL := 2) (ret := (some .int)) (by decide) rfl ?_
  intro p e s m args below meth c s₁ B hml hv
  obtain ⟨rfl, hP, hK, hG⟩ := hv
  have hx := B.exec
  have hb := B.bytes
  have hr := B.returns
  have hts := atoms_spec (ws := (oh_w yX6_roundedUp cX6_roundedUp 2 (some .int))) B.pre
  have htg : ∀ w ∈ oh_t, w.before _ s = true := fun w h => hts w (List.mem_cons_of_mem _ h)
  have hown : s.vm.findClass RX6 = some m.cls := findClass_of_methodNamed B.named
  have hlocks := B.notSynchronized
  have hS : va_S (fun _ => False) s.heap s.heap [] := va_S.rf
  have hl := lv_entry ([.int x1, .int x2]) (n := 2) (Nat.le_of_ble_eq_true rfl)
  rw [lg_entry_eq]
  generalize (lg_sl ([.int x1, .int x2]) ++ List.replicate (2 - (lg_sl ([.int x1, .int x2])).length) Slot.unset).toArray = ls at hl ⊢
  have hl : lv_has ls 2 [(0, .int x1), (1, .int x2)] := hl
  refine oh_genQ (fun Q hQ => ?_)
  refine lv_iload_n hx hb dX6_roundedUp_0 rfl (lv_at hl 1 rfl) ?_
  refine lv_if_gt (tgt := 8) hx hb dX6_roundedUp_1 (by decide) (fun (c_1 : (0 : Int32) < x2) => ?_) (fun (c_1 : ¬ ((0 : Int32) < x2)) => ?_)
  · refine lv_iload_n hx hb dX6_roundedUp_8 rfl (lv_at hl 0 rfl) ?_
    refine lv_iload_n hx hb dX6_roundedUp_9 rfl (lv_at hl 1 rfl) ?_
    refine lv_iadd hx hb dX6_roundedUp_10 ?_
    refine lv_iconst (v := 1) hx hb dX6_roundedUp_11 (by decide) ?_
    refine lv_isub hx hb dX6_roundedUp_12 ?_
    refine lv_iload_n hx hb dX6_roundedUp_13 rfl (lv_at hl 1 rfl) ?_
    refine lv_idiv hx hb dX6_roundedUp_14 (rg_ne0 (rn_ltl (l' := 1) c_1 (rg_c (v := 0) (lo := 0) (hi := 0) (by decide)) (rg_any _) (by decide)) (by decide)) ?_
    rw [hQ]
    exact W.iret (v := ((x1 + x2) - 1) / x2) hx hb hr (fun t ht hW => ⟨((x1 + x2) - 1) / x2, rfl, (if_pos c_1).symm, ht⟩) (fun q h => by cases h) dX6_roundedUp_15
  · refine lv_iconst (v := 0) hx hb dX6_roundedUp_4 (by decide) ?_
    refine lv_goto (tgt := 15) hx hb dX6_roundedUp_5 (by decide) ?_
    rw [hQ]
    exact W.iret (v := 0) hx hb hr (fun t ht hW => ⟨0, rfl, (if_neg (Int32.not_lt.mpr (Int32.not_lt.mp c_1))).symm, ht⟩) (fun q h => by cases h) dX6_roundedUp_15

set_option maxHeartbeats 4000000 in
set_option maxRecDepth 100000 in
theorem e_X6_cut (l : Launch) (D : va_G) (E : Nat → ClassId) (G : Nat → Nat) (x1 : Int32) (x2 : Int32) : Met l yX6_cut (oh_w yX6_cut cX6_cut 2 (some .int)) ({ frames := 0, cells := 0, slots := 0, locals := 0 }) (oh_Pp D E G [.int x1, .int x2] []) (vp_Si (fun r => (r = cutBy x1 x2))) 0 0 (fun _ => False) := by
  refine Met.ofW (cc := cX6_cut) (maxL := 2) (ret := (some .int)) (by decide) rfl ?_
  intro p e s m args below meth c s₁ B hml hv
  obtain ⟨rfl, hP, hK, hG⟩ := hv
  have hx := B.exec
  have hb := B.bytes
  have hr := B.returns
  have hts := atoms_spec (ws := (oh_w yX6_cut cX6_cut 2 (some .int))) B.pre
  have htg : ∀ w ∈ oh_t, w.before _ s = true := fun w h => hts w (List.mem_cons_of_mem _ h)
  have hown : s.vm.findClass RX6 = some m.cls := findClass_of_methodNamed B.named
  have hlocks := B.notSynchronized
  have hS : va_S (fun _ => False) s.heap s.heap [] := va_S.rf
  have hl := lv_entry ([.int x1, .int x2]) (n := 2) (Nat.le_of_ble_eq_true rfl)
  rw [lg_entry_eq]
  generalize (lg_sl ([.int x1, .int x2]) ++ List.replicate (2 - (lg_sl ([.int x1, .int x2])).length) Slot.unset).toArray = ls at hl ⊢
  have hl : lv_has ls 2 [(0, .int x1), (1, .int x2)] := hl
  refine oh_genQ (fun Q hQ => ?_)
  refine lv_iload_n hx hb dX6_cut_0 rfl (lv_at hl 1 rfl) ?_
  refine lv_if_gt (tgt := 8) hx hb dX6_cut_1 (by decide) (fun (c_1 : (0 : Int32) < x2) => ?_) (fun (c_1 : ¬ ((0 : Int32) < x2)) => ?_)
  · refine lv_iload_n hx hb dX6_cut_8 rfl (lv_at hl 0 rfl) ?_
    refine lv_iload_n hx hb dX6_cut_9 rfl (lv_at hl 1 rfl) ?_
    refine lv_idiv hx hb dX6_cut_10 (rg_ne0 (rn_ltl (l' := 1) c_1 (rg_c (v := 0) (lo := 0) (hi := 0) (by decide)) (rg_any _) (by decide)) (by decide)) ?_
    rw [hQ]
    exact W.iret (v := x1 / x2) hx hb hr (fun t ht hW => ⟨x1 / x2, rfl, (if_pos c_1).symm, ht⟩) (fun q h => by cases h) dX6_cut_11
  · refine lv_iconst (v := 0) hx hb dX6_cut_4 (by decide) ?_
    refine lv_goto (tgt := 11) hx hb dX6_cut_5 (by decide) ?_
    rw [hQ]
    exact W.iret (v := 0) hx hb hr (fun t ht hW => ⟨0, rfl, (if_neg (Int32.not_lt.mpr (Int32.not_lt.mp c_1))).symm, ht⟩) (fun q h => by cases h) dX6_cut_11

set_option maxHeartbeats 4000000 in
set_option maxRecDepth 100000 in
theorem e_X1_take (l : Launch) (D : va_G) (E : Nat → ClassId) (G : Nat → Nat) (sz : Nat) (a : Nat → Nat) (C : Nat → va_E) (hT : TyX a E C) (x1 : Int32) (x2 : Int32) (hx1 : rg x1 0 4) : Met l yX1_take (oh_w yX1_take cX1_take 5 none) ({ frames := 2, cells := 0, slots := 0, locals := 43 }) (oh_Pm D E G [.ref (a 9), .ref (a 1), .int x1, .int x2] (oh_W 35 a C) sz) (va_Qv (fun (u : Nat → va_E) => TyX a E u ∧ fr [(9, 10)] [] C u ∧ (gi (u 9) 0 = ga (C 13) ((x1 * 3) + 0).toNatClampNeg) ∧ (gi (u 9) 1 = ga (C 13) ((x1 * 3) + 1).toNatClampNeg) ∧ (∀ A : LA, absX 10 C A → gi (u 9) 3 = aLoad (ga (C 13) ((x1 * 3) + 0).toNatClampNeg) (ga (C 13) ((x1 * 3) + 2).toNatClampNeg) (ga (C 15) ((0 : Int32)).toNatClampNeg) (sumA A x2 0 (A 5 0 3).toNatClampNeg))) (oh_B D (va_A (oh_W 35 a C) sz) (fun u => oh_W 35 a u)) (va_A (oh_W 35 a C) sz)) 0 0 (va_A (oh_W 35 a C) sz) := by
  refine Met.ofW (cc := cX1_take) (maxL := 5) (ret := none) (by decide) rfl ?_
  intro p e s m args below meth c s₁ B hml hv
  obtain ⟨rfl, hsz, hP, hK, hD0, hG⟩ := hv
  have hx := B.exec
  have hb := B.bytes
  have hr := B.returns
  have hts := atoms_spec (ws := (oh_w yX1_take cX1_take 5 none)) B.pre
  have htg : ∀ w ∈ oh_t, w.before _ s = true := fun w h => hts w (List.mem_cons_of_mem _ h)
  have hown : s.vm.findClass RX1 = some m.cls := findClass_of_methodNamed B.named
  have hlocks := B.notSynchronized
  have hT0 := hT
  subst hsz
  have hD := hD0.self (sz := s.heap.size)
  generalize hAe : va_A (oh_W 35 a C) s.heap.size = A at hD hG ⊢
  have hA : ∀ q : Nat, s.heap.size ≤ q → A q := fun q h => by rw [← hAe]; exact Or.inr h
  have hS : va_S A s.heap s.heap [] := va_S.rf
  have hF : fr [(9, 10)] [] C C := fr_rf
  have hl := lv_entry ([.ref (a 9), .ref (a 1), .int x1, .int x2]) (n := 5) (Nat.le_of_ble_eq_true rfl)
  rw [lg_entry_eq]
  generalize (lg_sl ([.ref (a 9), .ref (a 1), .int x1, .int x2]) ++ List.replicate (5 - (lg_sl ([.ref (a 9), .ref (a 1), .int x1, .int x2])).length) Slot.unset).toArray = ls at hl ⊢
  have hl : lv_has ls 5 [(0, .ref (a 9)), (1, .ref (a 1)), (2, .int x1), (3, .int x2)] := hl
  refine oh_genQ (fun Q hQ => ?_)
  refine lv_aload_n hx hb dX1_take_0 rfl (lv_at hl 0 rfl) ?_
  refine lv_aload_n hx hb dX1_take_1 rfl (lv_at hl 1 rfl) ?_
  refine lv_iload_n hx hb dX1_take_2 rfl (lv_at hl 2 rfl) ?_
  refine lv_iconst (v := 0) hx hb dX1_take_3 (by decide) ?_
  refine tq_V (As := [.int x1, .int 0]) (rest := [.ref (a 9)]) (ws := (oh_W 35 a C)) ⟨hx, hb, hml, hown, htg⟩ (c_X0_ofWaggon l D E G a C hT x1 (0 : Int32) (rg_w hx1 (by decide)) (rg_w (rg_c (v := 0) (lo := 0) (hi := 0) (by decide)) (by decide))) (cwV 2 htg (oh_gV q_707 q_688 q_689 q_67 q_690) rfl rfl rfl pdVX0_ofWaggon ⟨Nat.le_of_ble_eq_true rfl, Nat.le_of_ble_eq_true rfl⟩) hK hP hG hS (va_recv hK hP (ci := 0) (q0 := 1) rfl (oh_wg (by decide) (sX_1 hT))) rfl hl.1 rfl (Nat.le_of_ble_eq_true rfl) dX1_take_4 ⟨Nat.le_of_ble_eq_true rfl, Nat.le_of_ble_eq_true rfl⟩ (fun r_1 hq_2 => ?_)
  subst hq_2
  refine th_put (Tp := TyX a E) (Rl := fr [(9, 10)] [] C) (ci := 1) (v := .int (ga (C 13) ((x1 * 3) + 0).toNatClampNeg)) (ty := .int) (CC := RX1) (T := TX1) (N := 5) hx hb htg ig_1 tyX1 tyX1_ok nmX1 hown hK hP hD hS 9 (by decide) (sX_9 hT) rfl 0 (by decide) (htg _ q_145) (fun _ h9 => h9) rfl (by decide +kernel) rfl rfl (Nat.le_of_ble_eq_true rfl) (hT.up 9 rfl) (fr_st hF (by decide) (by decide)) dX1_take_7 (fun C_3 H locs e_4 hT hF hP hD hS => ?_)
  have t_5 := hT
  refine lv_aload_n hx hb dX1_take_10 rfl (lv_at hl 0 rfl) ?_
  refine lv_aload_n hx hb dX1_take_11 rfl (lv_at hl 1 rfl) ?_
  refine lv_iload_n hx hb dX1_take_12 rfl (lv_at hl 2 rfl) ?_
  refine lv_iconst (v := 1) hx hb dX1_take_13 (by decide) ?_
  refine tq_V (As := [.int x1, .int 1]) (rest := [.ref (a 9)]) (ws := (oh_W 35 a C_3)) ⟨hx, hb, hml, hown, htg⟩ (c_X0_ofWaggon l D E G a C_3 hT x1 (1 : Int32) (rg_w hx1 (by decide)) (rg_w (rg_c (v := 1) (lo := 1) (hi := 1) (by decide)) (by decide))) (cwV 2 htg (oh_gV q_707 q_688 q_689 q_67 q_690) rfl rfl rfl pdVX0_ofWaggon ⟨Nat.le_of_ble_eq_true rfl, Nat.le_of_ble_eq_true rfl⟩) hK hP hG hS (va_recv hK hP (ci := 0) (q0 := 1) rfl (oh_wg (by decide) (sX_1 hT))) rfl hl.1 rfl (Nat.le_of_ble_eq_true rfl) dX1_take_14 ⟨Nat.le_of_ble_eq_true rfl, Nat.le_of_ble_eq_true rfl⟩ (fun r_6 hq_7 => ?_)
  subst hq_7
  refine th_put (Tp := TyX a E) (Rl := fr [(9, 10)] [] C) (ci := 1) (v := .int (ga (C_3 13) ((x1 * 3) + 1).toNatClampNeg)) (ty := .int) (CC := RX1) (T := TX1) (N := 5) hx hb htg ig_1 tyX1 tyX1_ok nmX1 hown hK hP hD hS 9 (by decide) (sX_9 hT) rfl 1 (by decide) (htg _ q_146) (fun _ h9 => h9) rfl (by decide +kernel) rfl rfl (Nat.le_of_ble_eq_true rfl) (hT.up 9 rfl) (fr_st hF (by decide) (by decide)) dX1_take_17 (fun C_8 H locs e_9 hT hF hP hD hS => ?_)
  have t_10 := hT
  refine lv_aload_n hx hb dX1_take_20 rfl (lv_at hl 0 rfl) ?_
  refine lv_aload_n hx hb dX1_take_21 rfl (lv_at hl 1 rfl) ?_
  refine lv_iload_n hx hb dX1_take_22 rfl (lv_at hl 2 rfl) ?_
  refine tq_V (As := [.int x1]) (rest := [.ref (a 9)]) (ws := (oh_W 35 a C_8)) ⟨hx, hb, hml, hown, htg⟩ (e_X0_waggonLength l D E G a C_8 hT x1 (rg_w hx1 (by decide))) (cwV 1 htg (oh_gV q_708 q_684 q_685 q_67 q_686) rfl rfl rfl pdVX0_waggonLength ⟨Nat.le_of_ble_eq_true rfl, Nat.le_of_ble_eq_true rfl⟩) hK hP hG hS (va_recv hK hP (ci := 0) (q0 := 1) rfl (oh_wg (by decide) (sX_1 hT))) rfl hl.1 rfl (Nat.le_of_ble_eq_true rfl) dX1_take_23 ⟨Nat.le_of_ble_eq_true rfl, Nat.le_of_ble_eq_true rfl⟩ (fun r_11 hq_12 => ?_)
  subst hq_12
  refine th_put (Tp := TyX a E) (Rl := fr [(9, 10)] [] C) (ci := 1) (v := .int (((ga (C_8 13) ((x1 * 3) + 1).toNatClampNeg) * ((ga (C_8 13) ((x1 * 3) + 0).toNatClampNeg) - 1)) + 4)) (ty := .int) (CC := RX1) (T := TX1) (N := 5) hx hb htg ig_1 tyX1 tyX1_ok nmX1 hown hK hP hD hS 9 (by decide) (sX_9 hT) rfl 2 (by decide) (htg _ q_147) (fun _ h9 => h9) rfl (by decide +kernel) rfl rfl (Nat.le_of_ble_eq_true rfl) (hT.up 9 rfl) (fr_st hF (by decide) (by decide)) dX1_take_26 (fun C_13 H locs e_14 hT hF hP hD hS => ?_)
  have t_15 := hT
  refine lv_aload_n hx hb dX1_take_29 rfl (lv_at hl 1 rfl) ?_
  refine lv_iload_n hx hb dX1_take_30 rfl (lv_at hl 2 rfl) ?_
  refine lv_iconst (v := 2) hx hb dX1_take_31 (by decide) ?_
  refine tq_V (As := [.int x1, .int 2]) (rest := []) (ws := (oh_W 35 a C_13)) ⟨hx, hb, hml, hown, htg⟩ (c_X0_ofWaggon l D E G a C_13 hT x1 (2 : Int32) (rg_w hx1 (by decide)) (rg_w (rg_c (v := 2) (lo := 2) (hi := 2) (by decide)) (by decide))) (cwV 2 htg (oh_gV q_707 q_688 q_689 q_67 q_690) rfl rfl rfl pdVX0_ofWaggon ⟨Nat.le_of_ble_eq_true rfl, Nat.le_of_ble_eq_true rfl⟩) hK hP hG hS (va_recv hK hP (ci := 0) (q0 := 1) rfl (oh_wg (by decide) (sX_1 hT))) rfl hl.1 rfl (Nat.le_of_ble_eq_true rfl) dX1_take_32 ⟨Nat.le_of_ble_eq_true rfl, Nat.le_of_ble_eq_true rfl⟩ (fun r_16 hq_17 => ?_)
  subst hq_17
  refine lv_aload_n hx hb dX1_take_35 rfl (lv_at hl 1 rfl) ?_
  refine va_get (D := D) (ci := 0) (v := .ref (a 15)) (C := RX0) (T := TX0) (N := 8) hx hb htg ig_0 hown hK hP 1 (oh_wg (by decide) (sX_1 hT)) rfl 5 (by decide) (htg _ q_108) (fun _ h9 => h9) rfl dX1_take_36 ?_
  refine lv_iconst (v := 0) hx hb dX1_take_39 (by decide) ?_
  refine th_iald hx hb hK hP 15 (by decide) (Eq.trans (Eq.trans (th_un e_14 (by decide)) (Eq.trans (th_un e_9 (by decide)) (th_un e_4 (by decide)))) (sX_15 hT0)) (rg_in (rg_c (v := 0) (lo := 0) (hi := 0) (by decide)) (by decide)) dX1_take_40 ?_
  refine lv_iadd hx hb dX1_take_41 ?_
  refine lv_aload_n hx hb dX1_take_42 rfl (lv_at hl 1 rfl) ?_
  refine lv_iload_n hx hb dX1_take_43 rfl (lv_at hl 3 rfl) ?_
  refine lv_iconst (v := 0) hx hb dX1_take_44 (by decide) ?_
  refine tq_V (As := [.int x2, .int 0]) (rest := [.int ((ga (C_13 13) ((x1 * 3) + 2).toNatClampNeg) + (ga (C 15) ((0 : Int32)).toNatClampNeg))]) (ws := (oh_W 35 a C_13)) ⟨hx, hb, hml, hown, htg⟩ (e_X0_sumOfParts l D E G a C_13 hT x2 (0 : Int32) (rg_w (rg_c (v := 0) (lo := 0) (hi := 0) (by decide)) (by decide))) (cwV 2 htg (oh_gV q_709 q_710 q_711 q_67 q_712) rfl rfl rfl pdVX0_sumOfParts ⟨Nat.le_of_ble_eq_true rfl, Nat.le_of_ble_eq_true rfl⟩) hK hP hG hS (va_recv hK hP (ci := 0) (q0 := 1) rfl (oh_wg (by decide) (sX_1 hT))) rfl hl.1 rfl (Nat.le_of_ble_eq_true rfl) dX1_take_45 ⟨Nat.le_of_ble_eq_true rfl, Nat.le_of_ble_eq_true rfl⟩ (fun r_18 hq_19 => ?_)
  refine lv_isub hx hb dX1_take_48 ?_
  refine lv_istore (lv' := [(4, .int (((ga (C_13 13) ((x1 * 3) + 2).toNatClampNeg) + (ga (C 15) ((0 : Int32)).toNatClampNeg)) - r_18)), (0, .ref (a 9)), (1, .ref (a 1)), (2, .int x1), (3, .int x2)]) hx hb dX1_take_49 hl (by decide) rfl (fun ls hl => ?_)
  refine lv_aload_n hx hb dX1_take_51 rfl (lv_at hl 1 rfl) ?_
  refine lv_iload hx hb dX1_take_52 (lv_at hl 0 rfl) ?_
  refine lv_iconst (v := 0) hx hb dX1_take_54 (by decide) ?_
  refine va_mmax hx hb (by rw [hml]; exact hl.1.symm) hown (htg _ q_713) (htg _ q_714) (htg _ q_79) (htg _ q_715) (Nat.le_of_ble_eq_true rfl) (Nat.le_of_ble_eq_true rfl) (Nat.le_of_ble_eq_true rfl) (Nat.le_of_ble_eq_true rfl) dX1_take_55 ?_
  refine lv_aload_n hx hb dX1_take_58 rfl (lv_at hl 1 rfl) ?_
  refine va_get (D := D) (ci := 1) (v := .int (ga (C 13) ((x1 * 3) + 0).toNatClampNeg)) (C := RX1) (T := TX1) (N := 5) hx hb htg ig_1 hown hK hP 9 (oh_wg (by decide) (sX_9 hT)) rfl 0 (by decide) (htg _ q_145) (fun _ h9 => h9) (oh_fv (c := C_13 9) (j := 0) rfl (Eq.trans (show gi (C_13 9) 0 = gi (C_8 9) 0 by rw [e_14]; rfl) (Eq.trans (show gi (C_8 9) 0 = gi (C_3 9) 0 by rw [e_9]; rfl) (show gi (C_3 9) 0 = (ga (C 13) ((x1 * 3) + 0).toNatClampNeg) by rw [e_4]; rfl)))) dX1_take_59 ?_
  refine tq_SN (As := [.int (if ((ga (C_13 13) ((x1 * 3) + 2).toNatClampNeg) + (ga (C 15) ((0 : Int32)).toNatClampNeg)) - r_18 < 0 then 0 else ((ga (C_13 13) ((x1 * 3) + 2).toNatClampNeg) + (ga (C 15) ((0 : Int32)).toNatClampNeg)) - r_18), .int (ga (C 13) ((x1 * 3) + 0).toNatClampNeg)]) (rest := [.ref (a 9)]) (ws := []) ⟨hx, hb, hml, hown, htg⟩ (e_X6_roundedUp l D E G (if ((ga (C_13 13) ((x1 * 3) + 2).toNatClampNeg) + (ga (C 15) ((0 : Int32)).toNatClampNeg)) - r_18 < 0 then 0 else ((ga (C_13 13) ((x1 * 3) + 2).toNatClampNeg) + (ga (C 15) ((0 : Int32)).toNatClampNeg)) - r_18) (ga (C 13) ((x1 * 3) + 0).toNatClampNeg)) ⟨va_cnB (y := yX6_roundedUp) 2 htg (oh_gW q_718) rfl rfl rfl (hG.1 ("OneHeavyLoad$Pack", 43, ⟨"OneHeavyLoad", "roundedUp", "(II)I"⟩, "OneHeavyLoad") (List.mem_of_getElem? (i := 3) rfl)) (htg _ q_66) pdX6_roundedUp ⟨Nat.le_of_ble_eq_true rfl, Nat.le_of_ble_eq_true rfl⟩, htg _ q_717, trivial⟩ hK va_nil hG hS rfl hl.1 rfl (Nat.le_of_ble_eq_true rfl) dX1_take_62 ⟨Nat.le_of_ble_eq_true rfl, Nat.le_of_ble_eq_true rfl⟩ (fun r_20 hq_21 => ?_)
  refine th_put (Tp := TyX a E) (Rl := fr [(9, 10)] [] C) (ci := 1) (v := .int r_20) (ty := .int) (CC := RX1) (T := TX1) (N := 5) hx hb htg ig_1 tyX1 tyX1_ok nmX1 hown hK hP hD hS 9 (by decide) (sX_9 hT) rfl 3 (by decide) (htg _ q_149) (fun _ h9 => h9) rfl (by decide +kernel) rfl rfl (Nat.le_of_ble_eq_true rfl) (hT.up 9 rfl) (fr_st hF (by decide) (by decide)) dX1_take_65 (fun C_22 H locs e_23 hT hF hP hD hS => ?_)
  have t_24 := hT
  refine lv_aload_n hx hb dX1_take_68 rfl (lv_at hl 1 rfl) ?_
  refine lv_aload_n hx hb dX1_take_69 rfl (lv_at hl 2 rfl) ?_
  refine lv_iload_n hx hb dX1_take_70 rfl (lv_at hl 4 rfl) ?_
  refine lv_iconst (v := 1) hx hb dX1_take_71 (by decide) ?_
  refine tq_V (As := [.int x2, .int 1]) (rest := [.ref (a 9)]) (ws := (oh_W 35 a C_22)) ⟨hx, hb, hml, hown, htg⟩ (e_X0_sumOfParts l D E G a C_22 hT x2 (1 : Int32) (rg_w (rg_c (v := 1) (lo := 1) (hi := 1) (by decide)) (by decide))) (cwV 2 htg (oh_gV q_709 q_710 q_711 q_67 q_712) rfl rfl rfl pdVX0_sumOfParts ⟨Nat.le_of_ble_eq_true rfl, Nat.le_of_ble_eq_true rfl⟩) hK hP hG hS (va_recv hK hP (ci := 0) (q0 := 1) rfl (oh_wg (by decide) (sX_1 hT))) rfl hl.1 rfl (Nat.le_of_ble_eq_true rfl) dX1_take_72 ⟨Nat.le_of_ble_eq_true rfl, Nat.le_of_ble_eq_true rfl⟩ (fun r_25 hq_26 => ?_)
  refine th_put (Tp := TyX a E) (Rl := fr [(9, 10)] [] C) (ci := 1) (v := .int r_25) (ty := .int) (CC := RX1) (T := TX1) (N := 5) hx hb htg ig_1 tyX1 tyX1_ok nmX1 hown hK hP hD hS 9 (by decide) (sX_9 hT) rfl 4 (by decide) (htg _ q_152) (fun _ h9 => h9) rfl (by decide +kernel) rfl rfl (Nat.le_of_ble_eq_true rfl) (hT.up 9 rfl) (fr_st hF (by decide) (by decide)) dX1_take_75 (fun C_27 H locs e_28 hT hF hP hD hS => ?_)
  have t_29 := hT
  rw [hQ]
  exact W.vret hx hb hr (fun t ht hW => ⟨⟨C_27, rfl, ⟨hT, hF, ⟨(Eq.trans (show gi (C_27 9) 0 = gi (C_22 9) 0 by rw [e_28]; rfl) (Eq.trans (show gi (C_22 9) 0 = gi (C_13 9) 0 by rw [e_23]; rfl) (Eq.trans (show gi (C_13 9) 0 = gi (C_8 9) 0 by rw [e_14]; rfl) (Eq.trans (show gi (C_8 9) 0 = gi (C_3 9) 0 by rw [e_9]; rfl) (show gi (C_3 9) 0 = (ga (C 13) ((x1 * 3) + 0).toNatClampNeg) by rw [e_4]; rfl))))), (Eq.trans (Eq.trans (show gi (C_27 9) 1 = gi (C_22 9) 1 by rw [e_28]; rfl) (Eq.trans (show gi (C_22 9) 1 = gi (C_13 9) 1 by rw [e_23]; rfl) (Eq.trans (show gi (C_13 9) 1 = gi (C_8 9) 1 by rw [e_14]; rfl) (show gi (C_8 9) 1 = (ga (C_3 13) ((x1 * 3) + 1).toNatClampNeg) by rw [e_9]; rfl)))) (congrArg (fun z => ga z _) (th_un e_4 (by decide)))), (fun A hA => Eq.trans (Eq.trans (show gi (C_27 9) 3 = gi (C_22 9) 3 by rw [e_28]; rfl) (show gi (C_22 9) 3 = r_20 by rw [e_23]; rfl)) (by rw [hq_21, hq_19 A (absX_eq hA (fun k k1 k2 => (Eq.trans (th_un e_14 (by omega)) (Eq.trans (th_un e_9 (by omega)) (th_un e_4 (by omega)))))), show C_13 13 = C 13 from (Eq.trans (th_un e_14 (by decide)) (Eq.trans (th_un e_9 (by decide)) (th_un e_4 (by decide))))]; rfl))⟩⟩, ⟨by rw [ht]; exact hP, hD⟩⟩, hS.F ht⟩) hS.2.2 dX1_take_78

set_option maxHeartbeats 4000000 in
set_option maxRecDepth 100000 in
theorem e_X1_strainOn (l : Launch) (D : va_G) (E : Nat → ClassId) (G : Nat → Nat) (a : Nat → Nat) (C : Nat → va_E) (hT : TyX a E C) (x1 : Int32) : Met l yX1_strainOn (oh_w yX1_strainOn cX1_strainOn 2 (some .int)) ({ frames := 1, cells := 0, slots := 0, locals := 21 }) (oh_Pp D E G [.ref (a 9), .int x1] (oh_W 35 a C)) (vp_Si (fun r => (r = (if cutBy x1 (gi (C 9) 1) + 1 < gi (C 9) 0 then cutBy x1 (gi (C 9) 1) + 1 else gi (C 9) 0) * gi (C 9) 3))) 0 0 (fun _ => False) := by
  refine Met.ofW (cc := cX1_strainOn) (maxL := 2) (ret := (some .int)) (by decide) rfl ?_
  intro p e s m args below meth c s₁ B hml hv
  obtain ⟨rfl, hP, hK, hG⟩ := hv
  have hx := B.exec
  have hb := B.bytes
  have hr := B.returns
  have hts := atoms_spec (ws := (oh_w yX1_strainOn cX1_strainOn 2 (some .int))) B.pre
  have htg : ∀ w ∈ oh_t, w.before _ s = true := fun w h => hts w (List.mem_cons_of_mem _ h)
  have hown : s.vm.findClass RX1 = some m.cls := findClass_of_methodNamed B.named
  have hlocks := B.notSynchronized
  have hT0 := hT
  have hS : va_S (fun _ => False) s.heap s.heap [] := va_S.rf
  have hl := lv_entry ([.ref (a 9), .int x1]) (n := 2) (Nat.le_of_ble_eq_true rfl)
  rw [lg_entry_eq]
  generalize (lg_sl ([.ref (a 9), .int x1]) ++ List.replicate (2 - (lg_sl ([.ref (a 9), .int x1])).length) Slot.unset).toArray = ls at hl ⊢
  have hl : lv_has ls 2 [(0, .ref (a 9)), (1, .int x1)] := hl
  refine oh_genQ (fun Q hQ => ?_)
  refine lv_aload_n hx hb dX1_strainOn_0 rfl (lv_at hl 0 rfl) ?_
  refine va_get (D := D) (ci := 1) (v := .int (gi (C 9) 0)) (C := RX1) (T := TX1) (N := 5) hx hb htg ig_1 hown hK hP 9 (oh_wg (by decide) (sX_9 hT)) rfl 0 (by decide) (htg _ q_145) (fun _ h9 => h9) rfl dX1_strainOn_1 ?_
  refine lv_iload_n hx hb dX1_strainOn_4 rfl (lv_at hl 1 rfl) ?_
  refine lv_aload_n hx hb dX1_strainOn_5 rfl (lv_at hl 0 rfl) ?_
  refine va_get (D := D) (ci := 1) (v := .int (gi (C 9) 1)) (C := RX1) (T := TX1) (N := 5) hx hb htg ig_1 hown hK hP 9 (oh_wg (by decide) (sX_9 hT)) rfl 1 (by decide) (htg _ q_146) (fun _ h9 => h9) rfl dX1_strainOn_6 ?_
  refine tq_SN (As := [.int x1, .int (gi (C 9) 1)]) (rest := [.int (gi (C 9) 0)]) (ws := []) ⟨hx, hb, hml, hown, htg⟩ (e_X6_cut l D E G x1 (gi (C 9) 1)) ⟨va_cnB (y := yX6_cut) 2 htg (oh_gW q_729) rfl rfl rfl (hG.1 ("OneHeavyLoad$Pack", 52, ⟨"OneHeavyLoad", "cut", "(II)I"⟩, "OneHeavyLoad") (List.mem_of_getElem? (i := 4) rfl)) (htg _ q_66) pdX6_cut ⟨Nat.le_of_ble_eq_true rfl, Nat.le_of_ble_eq_true rfl⟩, htg _ q_728, trivial⟩ hK va_nil hG hS rfl hl.1 rfl (Nat.le_of_ble_eq_true rfl) dX1_strainOn_9 ⟨Nat.le_of_ble_eq_true rfl, Nat.le_of_ble_eq_true rfl⟩ (fun r_1 hq_2 => ?_)
  refine lv_iconst (v := 1) hx hb dX1_strainOn_12 (by decide) ?_
  refine lv_iadd hx hb dX1_strainOn_13 ?_
  refine va_mmin hx hb (by rw [hml]; exact hl.1.symm) hown (htg _ q_730) (htg _ q_731) (htg _ q_79) (htg _ q_732) (Nat.le_of_ble_eq_true rfl) (Nat.le_of_ble_eq_true rfl) (Nat.le_of_ble_eq_true rfl) (Nat.le_of_ble_eq_true rfl) dX1_strainOn_14 ?_
  refine lv_aload_n hx hb dX1_strainOn_17 rfl (lv_at hl 0 rfl) ?_
  refine va_get (D := D) (ci := 1) (v := .int (gi (C 9) 3)) (C := RX1) (T := TX1) (N := 5) hx hb htg ig_1 hown hK hP 9 (oh_wg (by decide) (sX_9 hT)) rfl 3 (by decide) (htg _ q_149) (fun _ h9 => h9) rfl dX1_strainOn_18 ?_
  refine lv_imul hx hb dX1_strainOn_21 ?_
  rw [hQ]
  exact W.iret (v := (if r_1 + 1 < gi (C 9) 0 then r_1 + 1 else gi (C 9) 0) * (gi (C 9) 3)) hx hb hr (fun t ht hW => ⟨(if r_1 + 1 < gi (C 9) 0 then r_1 + 1 else gi (C 9) 0) * (gi (C 9) 3), rfl, (by rw [hq_2]), ht⟩) (fun q h => by cases h) dX1_strainOn_22

set_option maxHeartbeats 4000000 in
set_option maxRecDepth 100000 in
theorem e_X6_axle (l : Launch) (D : va_G) (E : Nat → ClassId) (G : Nat → Nat) (sz : Nat) (a : Nat → Nat) (C : Nat → va_E) (hT : TyX a E C) (x1 : Int32) (x2 : Int32) : Met l yX6_axle (oh_w yX6_axle cX6_axle 3 (some .int)) ({ frames := 3, cells := 0, slots := 0, locals := 67 }) (oh_Pm D E G [.ref (a 0), .int x1, .int x2] (oh_W 35 a C) sz) (va_Qi (fun r (u : Nat → va_E) => TyX a E u ∧ fr [(7, 8), (9, 10)] [] C u ∧ (∀ A : LA, absX 10 C A → r = spAxle A x1 x2)) (oh_B D (va_A (oh_W 35 a C) sz) (fun u => oh_W 35 a u)) (va_A (oh_W 35 a C) sz)) 0 0 (va_A (oh_W 35 a C) sz) := by
  refine Met.ofW (cc := cX6_axle) (maxL := 3) (ret := (some .int)) (by decide) rfl ?_
  intro p e s m args below meth c s₁ B hml hv
  obtain ⟨rfl, hsz, hP, hK, hD0, hG⟩ := hv
  have hx := B.exec
  have hb := B.bytes
  have hr := B.returns
  have hts := atoms_spec (ws := (oh_w yX6_axle cX6_axle 3 (some .int))) B.pre
  have htg : ∀ w ∈ oh_t, w.before _ s = true := fun w h => hts w (List.mem_cons_of_mem _ h)
  have hown : s.vm.findClass RX6 = some m.cls := findClass_of_methodNamed B.named
  have hlocks := B.notSynchronized
  have hT0 := hT
  subst hsz
  have hD := hD0.self (sz := s.heap.size)
  generalize hAe : va_A (oh_W 35 a C) s.heap.size = A at hD hG ⊢
  have hA : ∀ q : Nat, s.heap.size ≤ q → A q := fun q h => by rw [← hAe]; exact Or.inr h
  have hS : va_S A s.heap s.heap [] := va_S.rf
  have hF : fr [(7, 8), (9, 10)] [] C C := fr_rf
  have hl := lv_entry ([.ref (a 0), .int x1, .int x2]) (n := 3) (Nat.le_of_ble_eq_true rfl)
  rw [lg_entry_eq]
  generalize (lg_sl ([.ref (a 0), .int x1, .int x2]) ++ List.replicate (3 - (lg_sl ([.ref (a 0), .int x1, .int x2])).length) Slot.unset).toArray = ls at hl ⊢
  have hl : lv_has ls 3 [(0, .ref (a 0)), (1, .int x1), (2, .int x2)] := hl
  refine oh_genQ (fun Q hQ => ?_)
  refine lv_aload_n hx hb dX6_axle_0 rfl (lv_at hl 0 rfl) ?_
  refine lv_iload_n hx hb dX6_axle_1 rfl (lv_at hl 1 rfl) ?_
  refine lv_iload_n hx hb dX6_axle_2 rfl (lv_at hl 2 rfl) ?_
  refine tq_V (As := [.int x1, .int x2]) (rest := []) (ws := (oh_W 35 a C)) ⟨hx, hb, hml, hown, htg⟩ (e_X6_isPack l D E G a C hT x1 x2) (cwV 2 htg (oh_gV q_695 q_697 q_16 q_66 q_698) rfl rfl rfl pdVX6_isPack ⟨Nat.le_of_ble_eq_true rfl, Nat.le_of_ble_eq_true rfl⟩) hK hP hG hS (va_recv hK hP (ci := 6) (q0 := 0) rfl (oh_wg (by decide) (sX_0 hT))) rfl hl.1 rfl (Nat.le_of_ble_eq_true rfl) dX6_axle_3 ⟨Nat.le_of_ble_eq_true rfl, Nat.le_of_ble_eq_true rfl⟩ (fun r_1 hq_2 => ?_)
  refine lv_if_ne (tgt := 16) hx hb dX6_axle_6 (by decide) (fun (c_3 : ¬ (r_1 = 0)) => ?_) (fun (c_3 : r_1 = 0) => ?_)
  · have u_4 := hq_2.2.1 c_3
    refine lv_aload_n hx hb dX6_axle_16 rfl (lv_at hl 0 rfl) ?_
    refine va_get (D := D) (ci := 6) (v := .ref (a 3)) (C := RX6) (T := TX6) (N := 9) hx hb htg ig_6 hown hK hP 0 (oh_wg (by decide) (sX_0 hT)) rfl 3 (by decide) (htg _ q_261) (fun _ h9 => h9) rfl dX6_axle_17 ?_
    refine va_get (D := D) (ci := 5) (v := .ref (a 9)) (C := RX5) (T := TX5) (N := 7) hx hb htg ig_5 hown hK hP 3 (oh_wg (by decide) (sX_3 hT)) rfl 1 (by decide) (htg _ q_169) (fun _ h9 => h9) rfl dX6_axle_20 ?_
    refine lv_aload_n hx hb dX6_axle_23 rfl (lv_at hl 0 rfl) ?_
    refine va_get (D := D) (ci := 6) (v := .ref (a 1)) (C := RX6) (T := TX6) (N := 9) hx hb htg ig_6 hown hK hP 0 (oh_wg (by decide) (sX_0 hT)) rfl 0 (by decide) (htg _ q_258) (fun _ h9 => h9) rfl dX6_axle_24 ?_
    refine lv_iload_n hx hb dX6_axle_27 rfl (lv_at hl 1 rfl) ?_
    refine lv_iload_n hx hb dX6_axle_28 rfl (lv_at hl 2 rfl) ?_
    refine tm_Vv (As := [.ref (a 1), .int x1, .int x2]) (rest := []) ⟨hx, hb, hml, hown, htg⟩ (e_X1_take l D E G _ a C hT x1 x2 (rg_w u_4.1 (by decide))) (cwV 3 htg (oh_gV q_703 q_704 q_705 q_69 q_706) rfl rfl rfl pdVX1_take ⟨Nat.le_of_ble_eq_true rfl, Nat.le_of_ble_eq_true rfl⟩) hK hP hD hG hS hA (va_recv hK hP (ci := 1) (q0 := 9) rfl (oh_wg (by decide) (sX_9 hT))) rfl hl.1 rfl (Nat.le_of_ble_eq_true rfl) dX6_axle_29 ⟨Nat.le_of_ble_eq_true rfl, Nat.le_of_ble_eq_true rfl⟩ (fun C_6 H locs hq_7 hP hD hS => ?_)
    obtain ⟨hT, f_8, hq_7⟩ := hq_7
    have hF := fr_tr hF f_8 (by decide) (by decide)
    refine W.widen (k := 0) (n := 0) (Nat.le_refl _) (Nat.le_refl _) ?_
    have t_9 := hT
    refine lv_aload_n hx hb dX6_axle_32 rfl (lv_at hl 0 rfl) ?_
    refine va_get (D := D) (ci := 6) (v := .ref (a 3)) (C := RX6) (T := TX6) (N := 9) hx hb htg ig_6 hown hK hP 0 (oh_wg (by decide) (sX_0 hT)) rfl 3 (by decide) (htg _ q_261) (fun _ h9 => h9) rfl dX6_axle_33 ?_
    refine va_get (D := D) (ci := 5) (v := .ref (a 9)) (C := RX5) (T := TX5) (N := 7) hx hb htg ig_5 hown hK hP 3 (oh_wg (by decide) (sX_3 hT)) rfl 1 (by decide) (htg _ q_169) (fun _ h9 => h9) rfl dX6_axle_36 ?_
    refine va_get (D := D) (ci := 1) (v := .int (gi (C_6 9) 3)) (C := RX1) (T := TX1) (N := 5) hx hb htg ig_1 hown hK hP 9 (oh_wg (by decide) (sX_9 hT)) rfl 3 (by decide) (htg _ q_151) (fun _ h9 => h9) rfl dX6_axle_39 ?_
    rw [hQ]
    exact W.iret (v := gi (C_6 9) 3) hx hb hr (fun t ht hW => ⟨⟨gi (C_6 9) 3, C_6, rfl, ⟨hT, hF, (fun A hA => Eq.trans (show gi (C_6 9) 3 = aL A x1 x2 by rw [hq_7.2.2 A hA, (show ga (C 13) (x1 * 3 + 0).toNatClampNeg = A 2 x1.toNatClampNeg 0 from colX_v (t := 2) (w := 0) hA (by decide) (rg_w (lo := 0) (hi := 4) u_4.1 (by decide)) rfl (rg_c (v := 0) (lo := 0) (hi := 0) (by decide)) (by decide) (show okPk (A 5 0 2) (A 5 0 3) x1 x2 by rw [← (show ga (C 10) ((2 : Int32)).toNatClampNeg = A 5 0 2 from hA.1 2 (by decide)), ← (show ga (C 10) ((3 : Int32)).toNatClampNeg = A 5 0 3 from hA.1 3 (by decide))]; exact u_4.2).1.2 (by unfold vis; omega)), (show ga (C 13) (x1 * 3 + 2).toNatClampNeg = A 2 x1.toNatClampNeg 2 from colX_v (t := 2) (w := 2) hA (by decide) (rg_w (lo := 0) (hi := 4) u_4.1 (by decide)) rfl (rg_c (v := 2) (lo := 0) (hi := 2) (by decide)) (by decide) (show okPk (A 5 0 2) (A 5 0 3) x1 x2 by rw [← (show ga (C 10) ((2 : Int32)).toNatClampNeg = A 5 0 2 from hA.1 2 (by decide)), ← (show ga (C 10) ((3 : Int32)).toNatClampNeg = A 5 0 3 from hA.1 3 (by decide))]; exact u_4.2).1.2 (by unfold vis; omega)), show ga (C 15) ((0 : Int32)).toNatClampNeg = A 4 0 0 from hA.2.1 0 (by decide)]; rfl) (pif_pos (show okPk (A 5 0 2) (A 5 0 3) x1 x2 by rw [← (show ga (C 10) ((2 : Int32)).toNatClampNeg = A 5 0 2 from hA.1 2 (by decide)), ← (show ga (C 10) ((3 : Int32)).toNatClampNeg = A 5 0 3 from hA.1 3 (by decide))]; exact u_4.2)).symm)⟩, ⟨by rw [ht]; exact hP, hD⟩⟩, hS.F ht⟩) hS.2.2 dX6_axle_42
  · have u_10 := hq_2.2.2 c_3
    refine lv_aload_n hx hb dX6_axle_9 rfl (lv_at hl 0 rfl) ?_
    refine lv_bipush (v := (-2)) hx hb dX6_axle_10 (by decide) ?_
    refine tm_V (As := [.int (-2)]) (rest := []) ⟨hx, hb, hml, hown, htg⟩ (c_X6_refuse l D E G _ a C hT ((-2) : Int32)) (cwV 1 htg (oh_gV q_296 q_298 q_0 q_66 q_299) rfl rfl rfl pdVX6_refuse ⟨Nat.le_of_ble_eq_true rfl, Nat.le_of_ble_eq_true rfl⟩) hK hP hD hG hS hA (va_recv hK hP (ci := 6) (q0 := 0) rfl (oh_wg (by decide) (sX_0 hT))) rfl hl.1 rfl (Nat.le_of_ble_eq_true rfl) dX6_axle_12 ⟨Nat.le_of_ble_eq_true rfl, Nat.le_of_ble_eq_true rfl⟩ (fun r_11 C_12 H locs hq_13 hP hD hS => ?_)
    obtain ⟨hT, f_14, hq_13⟩ := hq_13
    have hF := fr_tr hF f_14 (by decide) (by decide)
    refine W.widen (k := 0) (n := 0) (Nat.le_refl _) (Nat.le_refl _) ?_
    have t_15 := hT
    rw [hQ]
    exact W.iret (v := r_11) hx hb hr (fun t ht hW => ⟨⟨r_11, C_12, rfl, ⟨hT, hF, (fun A hA => Eq.trans hq_13 (pif_neg (show ¬ okPk (A 5 0 2) (A 5 0 3) x1 x2 by rw [← (show ga (C 10) ((2 : Int32)).toNatClampNeg = A 5 0 2 from hA.1 2 (by decide)), ← (show ga (C 10) ((3 : Int32)).toNatClampNeg = A 5 0 3 from hA.1 3 (by decide))]; exact u_10)).symm)⟩, ⟨by rw [ht]; exact hP, hD⟩⟩, hS.F ht⟩) hS.2.2 dX6_axle_15

set_option maxHeartbeats 4000000 in
set_option maxRecDepth 100000 in
theorem e_X6_strain (l : Launch) (D : va_G) (E : Nat → ClassId) (G : Nat → Nat) (sz : Nat) (a : Nat → Nat) (C : Nat → va_E) (hT : TyX a E C) (x1 : Int32) (x2 : Int32) (x3 : Int32) : Met l yX6_strain (oh_w yX6_strain cX6_strain 4 (some .int)) ({ frames := 3, cells := 0, slots := 0, locals := 67 }) (oh_Pm D E G [.ref (a 0), .int x1, .int x2, .int x3] (oh_W 35 a C) sz) (va_Qi (fun r (u : Nat → va_E) => TyX a E u ∧ fr [(7, 8), (9, 10)] [] C u ∧ (∀ A : LA, absX 10 C A → r = spStrain A x1 x2 x3)) (oh_B D (va_A (oh_W 35 a C) sz) (fun u => oh_W 35 a u)) (va_A (oh_W 35 a C) sz)) 0 0 (va_A (oh_W 35 a C) sz) := by
  refine Met.ofW (cc := cX6_strain) (maxL := 4) (ret := (some .int)) (by decide) rfl ?_
  intro p e s m args below meth c s₁ B hml hv
  obtain ⟨rfl, hsz, hP, hK, hD0, hG⟩ := hv
  have hx := B.exec
  have hb := B.bytes
  have hr := B.returns
  have hts := atoms_spec (ws := (oh_w yX6_strain cX6_strain 4 (some .int))) B.pre
  have htg : ∀ w ∈ oh_t, w.before _ s = true := fun w h => hts w (List.mem_cons_of_mem _ h)
  have hown : s.vm.findClass RX6 = some m.cls := findClass_of_methodNamed B.named
  have hlocks := B.notSynchronized
  have hT0 := hT
  subst hsz
  have hD := hD0.self (sz := s.heap.size)
  generalize hAe : va_A (oh_W 35 a C) s.heap.size = A at hD hG ⊢
  have hA : ∀ q : Nat, s.heap.size ≤ q → A q := fun q h => by rw [← hAe]; exact Or.inr h
  have hS : va_S A s.heap s.heap [] := va_S.rf
  have hF : fr [(7, 8), (9, 10)] [] C C := fr_rf
  have hl := lv_entry ([.ref (a 0), .int x1, .int x2, .int x3]) (n := 4) (Nat.le_of_ble_eq_true rfl)
  rw [lg_entry_eq]
  generalize (lg_sl ([.ref (a 0), .int x1, .int x2, .int x3]) ++ List.replicate (4 - (lg_sl ([.ref (a 0), .int x1, .int x2, .int x3])).length) Slot.unset).toArray = ls at hl ⊢
  have hl : lv_has ls 4 [(0, .ref (a 0)), (1, .int x1), (2, .int x2), (3, .int x3)] := hl
  refine oh_genQ (fun Q hQ => ?_)
  refine lv_aload_n hx hb dX6_strain_0 rfl (lv_at hl 0 rfl) ?_
  refine lv_iload_n hx hb dX6_strain_1 rfl (lv_at hl 1 rfl) ?_
  refine lv_iload_n hx hb dX6_strain_2 rfl (lv_at hl 2 rfl) ?_
  refine tq_V (As := [.int x1, .int x2]) (rest := []) (ws := (oh_W 35 a C)) ⟨hx, hb, hml, hown, htg⟩ (e_X6_isPack l D E G a C hT x1 x2) (cwV 2 htg (oh_gV q_695 q_697 q_16 q_66 q_698) rfl rfl rfl pdVX6_isPack ⟨Nat.le_of_ble_eq_true rfl, Nat.le_of_ble_eq_true rfl⟩) hK hP hG hS (va_recv hK hP (ci := 6) (q0 := 0) rfl (oh_wg (by decide) (sX_0 hT))) rfl hl.1 rfl (Nat.le_of_ble_eq_true rfl) dX6_strain_3 ⟨Nat.le_of_ble_eq_true rfl, Nat.le_of_ble_eq_true rfl⟩ (fun r_1 hq_2 => ?_)
  refine lv_if_eq (tgt := 17) hx hb dX6_strain_6 (by decide) (fun (c_3 : r_1 = 0) => ?_) (fun (c_3 : ¬ (r_1 = 0)) => ?_)
  · have u_4 := hq_2.2.2 c_3
    refine lv_aload_n hx hb dX6_strain_17 rfl (lv_at hl 0 rfl) ?_
    refine lv_bipush (v := (-2)) hx hb dX6_strain_18 (by decide) ?_
    refine tm_V (As := [.int (-2)]) (rest := []) ⟨hx, hb, hml, hown, htg⟩ (c_X6_refuse l D E G _ a C hT ((-2) : Int32)) (cwV 1 htg (oh_gV q_296 q_298 q_0 q_66 q_299) rfl rfl rfl pdVX6_refuse ⟨Nat.le_of_ble_eq_true rfl, Nat.le_of_ble_eq_true rfl⟩) hK hP hD hG hS hA (va_recv hK hP (ci := 6) (q0 := 0) rfl (oh_wg (by decide) (sX_0 hT))) rfl hl.1 rfl (Nat.le_of_ble_eq_true rfl) dX6_strain_20 ⟨Nat.le_of_ble_eq_true rfl, Nat.le_of_ble_eq_true rfl⟩ (fun r_5 C_6 H locs hq_7 hP hD hS => ?_)
    obtain ⟨hT, f_8, hq_7⟩ := hq_7
    have hF := fr_tr hF f_8 (by decide) (by decide)
    refine W.widen (k := 0) (n := 0) (Nat.le_refl _) (Nat.le_refl _) ?_
    have t_9 := hT
    rw [hQ]
    exact W.iret (v := r_5) hx hb hr (fun t ht hW => ⟨⟨r_5, C_6, rfl, ⟨hT, hF, (fun A hA => Eq.trans hq_7 (pif_neg (fun h8 => (show ¬ okPk (A 5 0 2) (A 5 0 3) x1 x2 by rw [← (show ga (C 10) ((2 : Int32)).toNatClampNeg = A 5 0 2 from hA.1 2 (by decide)), ← (show ga (C 10) ((3 : Int32)).toNatClampNeg = A 5 0 3 from hA.1 3 (by decide))]; exact u_4) h8.1)).symm)⟩, ⟨by rw [ht]; exact hP, hD⟩⟩, hS.F ht⟩) hS.2.2 dX6_strain_23
  · have u_10 := hq_2.2.1 c_3
    refine lv_aload_n hx hb dX6_strain_9 rfl (lv_at hl 0 rfl) ?_
    refine lv_iload_n hx hb dX6_strain_10 rfl (lv_at hl 3 rfl) ?_
    refine tq_V (As := [.int x3]) (rest := []) (ws := (oh_W 35 a C)) ⟨hx, hb, hml, hown, htg⟩ (e_X6_isBridge l D E G a C hT x3) (cwV 1 htg (oh_gV q_366 q_368 q_2 q_66 q_369) rfl rfl rfl pdVX6_isBridge ⟨Nat.le_of_ble_eq_true rfl, Nat.le_of_ble_eq_true rfl⟩) hK hP hG hS (va_recv hK hP (ci := 6) (q0 := 0) rfl (oh_wg (by decide) (sX_0 hT))) rfl hl.1 rfl (Nat.le_of_ble_eq_true rfl) dX6_strain_11 ⟨Nat.le_of_ble_eq_true rfl, Nat.le_of_ble_eq_true rfl⟩ (fun r_11 hq_12 => ?_)
    refine lv_if_ne (tgt := 24) hx hb dX6_strain_14 (by decide) (fun (c_13 : ¬ (r_11 = 0)) => ?_) (fun (c_13 : r_11 = 0) => ?_)
    · have u_14 := hq_12.2.1 c_13
      refine lv_aload_n hx hb dX6_strain_24 rfl (lv_at hl 0 rfl) ?_
      refine va_get (D := D) (ci := 6) (v := .ref (a 3)) (C := RX6) (T := TX6) (N := 9) hx hb htg ig_6 hown hK hP 0 (oh_wg (by decide) (sX_0 hT)) rfl 3 (by decide) (htg _ q_261) (fun _ h9 => h9) rfl dX6_strain_25 ?_
      refine va_get (D := D) (ci := 5) (v := .ref (a 9)) (C := RX5) (T := TX5) (N := 7) hx hb htg ig_5 hown hK hP 3 (oh_wg (by decide) (sX_3 hT)) rfl 1 (by decide) (htg _ q_169) (fun _ h9 => h9) rfl dX6_strain_28 ?_
      refine lv_aload_n hx hb dX6_strain_31 rfl (lv_at hl 0 rfl) ?_
      refine va_get (D := D) (ci := 6) (v := .ref (a 1)) (C := RX6) (T := TX6) (N := 9) hx hb htg ig_6 hown hK hP 0 (oh_wg (by decide) (sX_0 hT)) rfl 0 (by decide) (htg _ q_258) (fun _ h9 => h9) rfl dX6_strain_32 ?_
      refine lv_iload_n hx hb dX6_strain_35 rfl (lv_at hl 1 rfl) ?_
      refine lv_iload_n hx hb dX6_strain_36 rfl (lv_at hl 2 rfl) ?_
      refine tm_Vv (As := [.ref (a 1), .int x1, .int x2]) (rest := []) ⟨hx, hb, hml, hown, htg⟩ (e_X1_take l D E G _ a C hT x1 x2 (rg_w u_10.1 (by decide))) (cwV 3 htg (oh_gV q_703 q_704 q_705 q_69 q_706) rfl rfl rfl pdVX1_take ⟨Nat.le_of_ble_eq_true rfl, Nat.le_of_ble_eq_true rfl⟩) hK hP hD hG hS hA (va_recv hK hP (ci := 1) (q0 := 9) rfl (oh_wg (by decide) (sX_9 hT))) rfl hl.1 rfl (Nat.le_of_ble_eq_true rfl) dX6_strain_37 ⟨Nat.le_of_ble_eq_true rfl, Nat.le_of_ble_eq_true rfl⟩ (fun C_16 H locs hq_17 hP hD hS => ?_)
      obtain ⟨hT, f_18, hq_17⟩ := hq_17
      have hF := fr_tr hF f_18 (by decide) (by decide)
      refine W.widen (k := 0) (n := 0) (Nat.le_refl _) (Nat.le_refl _) ?_
      have t_19 := hT
      refine lv_aload_n hx hb dX6_strain_40 rfl (lv_at hl 0 rfl) ?_
      refine va_get (D := D) (ci := 6) (v := .ref (a 3)) (C := RX6) (T := TX6) (N := 9) hx hb htg ig_6 hown hK hP 0 (oh_wg (by decide) (sX_0 hT)) rfl 3 (by decide) (htg _ q_261) (fun _ h9 => h9) rfl dX6_strain_41 ?_
      refine va_get (D := D) (ci := 5) (v := .ref (a 9)) (C := RX5) (T := TX5) (N := 7) hx hb htg ig_5 hown hK hP 3 (oh_wg (by decide) (sX_3 hT)) rfl 1 (by decide) (htg _ q_169) (fun _ h9 => h9) rfl dX6_strain_44 ?_
      refine lv_aload_n hx hb dX6_strain_47 rfl (lv_at hl 0 rfl) ?_
      refine va_get (D := D) (ci := 6) (v := .ref (a 1)) (C := RX6) (T := TX6) (N := 9) hx hb htg ig_6 hown hK hP 0 (oh_wg (by decide) (sX_0 hT)) rfl 0 (by decide) (htg _ q_258) (fun _ h9 => h9) rfl dX6_strain_48 ?_
      refine lv_iload_n hx hb dX6_strain_51 rfl (lv_at hl 3 rfl) ?_
      refine lv_iconst (v := 2) hx hb dX6_strain_52 (by decide) ?_
      refine tq_V (As := [.int x3, .int 2]) (rest := [.ref (a 9)]) (ws := (oh_W 35 a C_16)) ⟨hx, hb, hml, hown, htg⟩ (c_X0_ofBridge l D E G a C_16 hT x3 (2 : Int32) (rg_w u_14.1 (by decide)) (rg_w (rg_c (v := 2) (lo := 2) (hi := 2) (by decide)) (by decide))) (cwV 2 htg (oh_gV q_392 q_385 q_386 q_67 q_387) rfl rfl rfl pdVX0_ofBridge ⟨Nat.le_of_ble_eq_true rfl, Nat.le_of_ble_eq_true rfl⟩) hK hP hG hS (va_recv hK hP (ci := 0) (q0 := 1) rfl (oh_wg (by decide) (sX_1 hT))) rfl hl.1 rfl (Nat.le_of_ble_eq_true rfl) dX6_strain_53 ⟨Nat.le_of_ble_eq_true rfl, Nat.le_of_ble_eq_true rfl⟩ (fun r_20 hq_21 => ?_)
      subst hq_21
      refine tq_V (As := [.int (ga (C_16 12) ((x3 * 10) + 2).toNatClampNeg)]) (rest := []) (ws := (oh_W 35 a C_16)) ⟨hx, hb, hml, hown, htg⟩ (e_X1_strainOn l D E G a C_16 hT (ga (C_16 12) ((x3 * 10) + 2).toNatClampNeg)) (cwV 1 htg (oh_gV q_723 q_724 q_725 q_69 q_726) rfl rfl rfl pdVX1_strainOn ⟨Nat.le_of_ble_eq_true rfl, Nat.le_of_ble_eq_true rfl⟩) hK hP hG hS (va_recv hK hP (ci := 1) (q0 := 9) rfl (oh_wg (by decide) (sX_9 hT))) rfl hl.1 rfl (Nat.le_of_ble_eq_true rfl) dX6_strain_56 ⟨Nat.le_of_ble_eq_true rfl, Nat.le_of_ble_eq_true rfl⟩ (fun r_22 hq_23 => ?_)
      rw [hQ]
      exact W.iret (v := r_22) hx hb hr (fun t ht hW => ⟨⟨r_22, C_16, rfl, ⟨hT, hF, (fun A hA => Eq.trans (Eq.trans hq_23 (by rw [(show ga (C_16 12) (x3 * 10 + 2).toNatClampNeg = A 1 x3.toNatClampNeg 2 from Eq.trans (congrArg (fun z => ga z _) (f_18.1 12 rfl (by decide))) (colX_v (t := 1) (w := 2) hA (by decide) (rg_w (lo := 0) (hi := 15) u_14.1 (by decide)) rfl (rg_c (v := 2) (lo := 0) (hi := 2) (by decide)) (by decide) (show 0 ≤ x3 ∧ x3 < A 5 0 1 by rw [← (show ga (C 10) ((1 : Int32)).toNatClampNeg = A 5 0 1 from hA.1 1 (by decide))]; exact u_14.2).2 (by unfold vis; intro z; exact absurd z.2 (by decide)))), (show gi (C_16 9) 0 = A 2 x1.toNatClampNeg 0 from Eq.trans hq_17.1 (show ga (C 13) (x1 * 3 + 0).toNatClampNeg = A 2 x1.toNatClampNeg 0 from colX_v (t := 2) (w := 0) hA (by decide) (rg_w (lo := 0) (hi := 4) u_10.1 (by decide)) rfl (rg_c (v := 0) (lo := 0) (hi := 0) (by decide)) (by decide) (show okPk (A 5 0 2) (A 5 0 3) x1 x2 by rw [← (show ga (C 10) ((2 : Int32)).toNatClampNeg = A 5 0 2 from hA.1 2 (by decide)), ← (show ga (C 10) ((3 : Int32)).toNatClampNeg = A 5 0 3 from hA.1 3 (by decide))]; exact u_10.2).1.2 (by unfold vis; omega))), (show gi (C_16 9) 1 = A 2 x1.toNatClampNeg 1 from Eq.trans hq_17.2.1 (show ga (C 13) (x1 * 3 + 1).toNatClampNeg = A 2 x1.toNatClampNeg 1 from colX_v (t := 2) (w := 1) hA (by decide) (rg_w (lo := 0) (hi := 4) u_10.1 (by decide)) rfl (rg_c (v := 1) (lo := 0) (hi := 1) (by decide)) (by decide) (show okPk (A 5 0 2) (A 5 0 3) x1 x2 by rw [← (show ga (C 10) ((2 : Int32)).toNatClampNeg = A 5 0 2 from hA.1 2 (by decide)), ← (show ga (C 10) ((3 : Int32)).toNatClampNeg = A 5 0 3 from hA.1 3 (by decide))]; exact u_10.2).1.2 (by unfold vis; omega))), (show gi (C_16 9) 3 = aL A x1 x2 by rw [hq_17.2.2 A hA, (show ga (C 13) (x1 * 3 + 0).toNatClampNeg = A 2 x1.toNatClampNeg 0 from colX_v (t := 2) (w := 0) hA (by decide) (rg_w (lo := 0) (hi := 4) u_10.1 (by decide)) rfl (rg_c (v := 0) (lo := 0) (hi := 0) (by decide)) (by decide) (show okPk (A 5 0 2) (A 5 0 3) x1 x2 by rw [← (show ga (C 10) ((2 : Int32)).toNatClampNeg = A 5 0 2 from hA.1 2 (by decide)), ← (show ga (C 10) ((3 : Int32)).toNatClampNeg = A 5 0 3 from hA.1 3 (by decide))]; exact u_10.2).1.2 (by unfold vis; omega)), (show ga (C 13) (x1 * 3 + 2).toNatClampNeg = A 2 x1.toNatClampNeg 2 from colX_v (t := 2) (w := 2) hA (by decide) (rg_w (lo := 0) (hi := 4) u_10.1 (by decide)) rfl (rg_c (v := 2) (lo := 0) (hi := 2) (by decide)) (by decide) (show okPk (A 5 0 2) (A 5 0 3) x1 x2 by rw [← (show ga (C 10) ((2 : Int32)).toNatClampNeg = A 5 0 2 from hA.1 2 (by decide)), ← (show ga (C 10) ((3 : Int32)).toNatClampNeg = A 5 0 3 from hA.1 3 (by decide))]; exact u_10.2).1.2 (by unfold vis; omega)), show ga (C 15) ((0 : Int32)).toNatClampNeg = A 4 0 0 from hA.2.1 0 (by decide)]; rfl)]; rfl)) (pif_pos ⟨(show okPk (A 5 0 2) (A 5 0 3) x1 x2 by rw [← (show ga (C 10) ((2 : Int32)).toNatClampNeg = A 5 0 2 from hA.1 2 (by decide)), ← (show ga (C 10) ((3 : Int32)).toNatClampNeg = A 5 0 3 from hA.1 3 (by decide))]; exact u_10.2), (show 0 ≤ x3 ∧ x3 < A 5 0 1 by rw [← (show ga (C 10) ((1 : Int32)).toNatClampNeg = A 5 0 1 from hA.1 1 (by decide))]; exact u_14.2)⟩).symm)⟩, ⟨by rw [ht]; exact hP, hD⟩⟩, hS.F ht⟩) hS.2.2 dX6_strain_59
    · have u_24 := hq_12.2.2 c_13
      refine lv_aload_n hx hb dX6_strain_17 rfl (lv_at hl 0 rfl) ?_
      refine lv_bipush (v := (-2)) hx hb dX6_strain_18 (by decide) ?_
      refine tm_V (As := [.int (-2)]) (rest := []) ⟨hx, hb, hml, hown, htg⟩ (c_X6_refuse l D E G _ a C hT ((-2) : Int32)) (cwV 1 htg (oh_gV q_296 q_298 q_0 q_66 q_299) rfl rfl rfl pdVX6_refuse ⟨Nat.le_of_ble_eq_true rfl, Nat.le_of_ble_eq_true rfl⟩) hK hP hD hG hS hA (va_recv hK hP (ci := 6) (q0 := 0) rfl (oh_wg (by decide) (sX_0 hT))) rfl hl.1 rfl (Nat.le_of_ble_eq_true rfl) dX6_strain_20 ⟨Nat.le_of_ble_eq_true rfl, Nat.le_of_ble_eq_true rfl⟩ (fun r_25 C_26 H locs hq_27 hP hD hS => ?_)
      obtain ⟨hT, f_28, hq_27⟩ := hq_27
      have hF := fr_tr hF f_28 (by decide) (by decide)
      refine W.widen (k := 0) (n := 0) (Nat.le_refl _) (Nat.le_refl _) ?_
      have t_29 := hT
      rw [hQ]
      exact W.iret (v := r_25) hx hb hr (fun t ht hW => ⟨⟨r_25, C_26, rfl, ⟨hT, hF, (fun A hA => Eq.trans hq_27 (pif_neg (fun h8 => by have h7 := h8.2; rw [← (show ga (C 10) ((1 : Int32)).toNatClampNeg = A 5 0 1 from hA.1 1 (by decide))] at h7; exact u_24 h7)).symm)⟩, ⟨by rw [ht]; exact hP, hD⟩⟩, hS.F ht⟩) hS.2.2 dX6_strain_23

theorem i32_sa (x y z : Int32) : x - (y + z) = x - y - z := (Int32.sub_sub x y z).symm
theorem mn_le {s a : Int32} (h : s ≤ a) : s = if s < a then s else a := by
  by_cases c : s < a
  · rw [if_pos c]
  · rw [if_neg c]
    exact Int32.le_antisymm h (Int32.not_lt.mp c)
theorem mn_gt {s a : Int32} (h : a < s) : a = if s < a then s else a := (if_neg (Int32.not_lt.mpr (Int32.le_of_lt h))).symm
theorem cut_p {v b : Int32} (h : (0 : Int32) < b) : v / b = cutBy v b := (if_pos h).symm

set_option maxHeartbeats 4000000 in
set_option maxRecDepth 100000 in
theorem e_X7_axleLoad (l : Launch) (D : va_G) (E : Nat → ClassId) (G : Nat → Nat) (a : Nat → Nat) (C : Nat → va_E) (n : Nat) (hn : 74 ≤ n) (hT : TyM a E C) (x1 : Int32) (x2 : Int32) (hx1 : rg x1 0 4) (hw : oh_pos C x1) : Met l yX7_axleLoad (oh_w yX7_axleLoad cX7_axleLoad 5 (some .int)) ({ frames := 0, cells := 0, slots := 0, locals := 0 }) (oh_Pp D E G [.ref (a 0), .int x1, .int x2] (oh_W n a C)) (vp_Si (fun r => (∀ A : LA, absM C A → r = aLoad (ga (C (64 + (x1).toNatClampNeg)) ((0 : Int32)).toNatClampNeg) (ga (C (64 + (x1).toNatClampNeg)) ((2 : Int32)).toNatClampNeg) (ga (C 13) ((0 : Int32)).toNatClampNeg) (sumA A x2 0 (A 5 0 3).toNatClampNeg)))) 0 0 (fun _ => False) := by
  refine Met.ofW (cc := cX7_axleLoad) (maxL := 5) (ret := (some .int)) (by decide) rfl ?_
  intro p e s m args below meth c s₁ B hml hv
  obtain ⟨rfl, hP, hK, hG⟩ := hv
  have hx := B.exec
  have hb := B.bytes
  have hr := B.returns
  have hts := atoms_spec (ws := (oh_w yX7_axleLoad cX7_axleLoad 5 (some .int))) B.pre
  have htg : ∀ w ∈ oh_t, w.before _ s = true := fun w h => hts w (List.mem_cons_of_mem _ h)
  have hown : s.vm.findClass RX7 = some m.cls := findClass_of_methodNamed B.named
  have hlocks := B.notSynchronized
  have hT0 := hT
  have hS : va_S (fun _ => False) s.heap s.heap [] := va_S.rf
  have hl := lv_entry ([.ref (a 0), .int x1, .int x2]) (n := 5) (Nat.le_of_ble_eq_true rfl)
  rw [lg_entry_eq]
  generalize (lg_sl ([.ref (a 0), .int x1, .int x2]) ++ List.replicate (5 - (lg_sl ([.ref (a 0), .int x1, .int x2])).length) Slot.unset).toArray = ls at hl ⊢
  have hl : lv_has ls 5 [(0, .ref (a 0)), (1, .int x1), (2, .int x2)] := hl
  refine oh_genQ (fun Q hQ => ?_)
  refine lv_aload_n hx hb dX7_axleLoad_0 rfl (lv_at hl 0 rfl) ?_
  refine va_get (D := D) (ci := 7) (v := .ref (a 11)) (C := RX7) (T := TX7) (N := 29) hx hb htg ig_7 hown hK hP 0 (oh_wg (Nat.lt_of_lt_of_le (by decide) hn) (sM_0 hT)) rfl 14 (by decide) (htg _ q_987) (fun _ h9 => h9) rfl dX7_axleLoad_1 ?_
  refine lv_iload_n hx hb dX7_axleLoad_4 rfl (lv_at hl 1 rfl) ?_
  have n_1 : vp_in x1 5 := (rg_in hx1 (by decide))
  have b_2 : (x1).toNatClampNeg < 5 := vp_lt n_1
  refine th_aald hx hb hK hP 11 2 (Nat.lt_of_lt_of_le (by decide) hn) (sM_11 hT) rfl n_1 dX7_axleLoad_5 ?_
  refine lv_iconst (v := 2) hx hb dX7_axleLoad_6 (by decide) ?_
  refine th_iald hx hb hK hP (64 + (x1).toNatClampNeg) (lt_blk b_2 hn (by decide)) (hT.bwaggon b_2).1 (rg_in (rg_c (v := 2) (lo := 2) (hi := 2) (by decide)) (by decide)) dX7_axleLoad_7 ?_
  refine lv_aload_n hx hb dX7_axleLoad_8 rfl (lv_at hl 0 rfl) ?_
  refine va_get (D := D) (ci := 7) (v := .ref (a 13)) (C := RX7) (T := TX7) (N := 29) hx hb htg ig_7 hown hK hP 0 (oh_wg (Nat.lt_of_lt_of_le (by decide) hn) (sM_0 hT)) rfl 17 (by decide) (htg _ q_990) (fun _ h9 => h9) rfl dX7_axleLoad_9 ?_
  refine lv_iconst (v := 0) hx hb dX7_axleLoad_12 (by decide) ?_
  refine th_iald hx hb hK hP 13 (Nat.lt_of_lt_of_le (by decide) hn) (sM_13 hT) (rg_in (rg_c (v := 0) (lo := 0) (hi := 0) (by decide)) (by decide)) dX7_axleLoad_13 ?_
  refine lv_iadd hx hb dX7_axleLoad_14 ?_
  refine lv_istore_n (lv' := [(3, .int ((ga (C (64 + (x1).toNatClampNeg)) ((2 : Int32)).toNatClampNeg) + (ga (C 13) ((0 : Int32)).toNatClampNeg))), (0, .ref (a 0)), (1, .int x1), (2, .int x2)]) hx hb dX7_axleLoad_15 rfl hl (by decide) rfl (fun ls hl => ?_)
  refine lv_iconst (v := 0) hx hb dX7_axleLoad_16 (by decide) ?_
  refine lv_istore (lv' := [(4, .int 0), (3, .int ((ga (C (64 + (x1).toNatClampNeg)) ((2 : Int32)).toNatClampNeg) + (ga (C 13) ((0 : Int32)).toNatClampNeg))), (0, .ref (a 0)), (1, .int x1), (2, .int x2)]) hx hb dX7_axleLoad_17 hl (by decide) rfl (fun ls hl => ?_)
  have L_19 : ∀ (d : Nat) (z19_4 : Int32) (z19_3 : Int32) (ls : Array Slot), (5 - z19_4.toInt).toNat = d → rg z19_4 0 5 → (∀ A : LA, absM C A → z19_3 = (ga (C (64 + (x1).toNatClampNeg)) ((2 : Int32)).toNatClampNeg + ga (C 13) ((0 : Int32)).toNatClampNeg) - sumA A x2 0 z19_4.toNatClampNeg) → (z19_4.toInt ≤ (gi (C 0) 15).toInt) → lv_has ls 5 [(4, .int z19_4), (3, .int z19_3), (0, .ref (a 0)), (1, .int x1), (2, .int x2)] → W p l e ({ frames := 0, cells := 0, slots := 0, locals := 0 }) s m (([.ref (a 0), .int x1, .int x2] : List Value).toArray) below meth c s.heap [] 0 0 Q (F0 m 19 ls []) := by
    intro d
    induction d using Nat.strongRecOn with
    | ind d ih_19 =>
    intro z19_4 z19_3 ls hd_19 hz19_4 hx_19 hy_19 hl
    refine lv_iload hx hb dX7_axleLoad_19 (lv_at hl 0 rfl) ?_
    refine lv_aload_n hx hb dX7_axleLoad_21 rfl (lv_at hl 2 rfl) ?_
    refine va_get (D := D) (ci := 7) (v := .int (gi (C 0) 15)) (C := RX7) (T := TX7) (N := 29) hx hb htg ig_7 hown hK hP 0 (oh_wg (Nat.lt_of_lt_of_le (by decide) hn) (sM_0 hT)) rfl 15 (by decide) (htg _ q_988) (fun _ h9 => h9) rfl dX7_axleLoad_22 ?_
    refine lv_icmp_ge (tgt := 59) hx hb dX7_axleLoad_25 (by decide) (fun (c_3 : (gi (C 0) 15) ≤ z19_4) => ?_) (fun (c_3 : ¬ ((gi (C 0) 15) ≤ z19_4)) => ?_)
    · refine lv_iload_n hx hb dX7_axleLoad_59 rfl (lv_at hl 1 rfl) ?_
      refine lv_if_ge (tgt := 67) hx hb dX7_axleLoad_60 (by decide) (fun (c_4 : (0 : Int32) ≤ z19_3) => ?_) (fun (c_4 : ¬ ((0 : Int32) ≤ z19_3)) => ?_)
      · refine lv_iload_n hx hb dX7_axleLoad_67 rfl (lv_at hl 1 rfl) ?_
        refine lv_istore_n (lv' := [(3, .int z19_3), (4, .int z19_4), (0, .ref (a 0)), (1, .int x1), (2, .int x2)]) hx hb dX7_axleLoad_68 rfl hl (by decide) rfl (fun ls hl => ?_)
        refine lv_iload_n hx hb dX7_axleLoad_69 rfl (lv_at hl 0 rfl) ?_
        refine lv_aload_n hx hb dX7_axleLoad_70 rfl (lv_at hl 2 rfl) ?_
        refine va_get (D := D) (ci := 7) (v := .ref (a 11)) (C := RX7) (T := TX7) (N := 29) hx hb htg ig_7 hown hK hP 0 (oh_wg (Nat.lt_of_lt_of_le (by decide) hn) (sM_0 hT)) rfl 14 (by decide) (htg _ q_987) (fun _ h9 => h9) rfl dX7_axleLoad_71 ?_
        refine lv_iload_n hx hb dX7_axleLoad_74 rfl (lv_at hl 3 rfl) ?_
        have n_5 : vp_in x1 5 := (rg_in hx1 (by decide))
        have b_6 : (x1).toNatClampNeg < 5 := vp_lt n_5
        refine th_aald hx hb hK hP 11 2 (Nat.lt_of_lt_of_le (by decide) hn) (sM_11 hT) rfl n_5 dX7_axleLoad_75 ?_
        refine lv_iconst (v := 0) hx hb dX7_axleLoad_76 (by decide) ?_
        refine th_iald hx hb hK hP (64 + (x1).toNatClampNeg) (lt_blk b_6 hn (by decide)) (hT.bwaggon b_6).1 (rg_in (rg_c (v := 0) (lo := 0) (hi := 0) (by decide)) (by decide)) dX7_axleLoad_77 ?_
        refine lv_iadd hx hb dX7_axleLoad_78 ?_
        refine lv_iconst (v := 1) hx hb dX7_axleLoad_79 (by decide) ?_
        refine lv_isub hx hb dX7_axleLoad_80 ?_
        refine lv_aload_n hx hb dX7_axleLoad_81 rfl (lv_at hl 2 rfl) ?_
        refine va_get (D := D) (ci := 7) (v := .ref (a 11)) (C := RX7) (T := TX7) (N := 29) hx hb htg ig_7 hown hK hP 0 (oh_wg (Nat.lt_of_lt_of_le (by decide) hn) (sM_0 hT)) rfl 14 (by decide) (htg _ q_987) (fun _ h9 => h9) rfl dX7_axleLoad_82 ?_
        refine lv_iload_n hx hb dX7_axleLoad_85 rfl (lv_at hl 3 rfl) ?_
        have n_7 : vp_in x1 5 := (rg_in hx1 (by decide))
        have b_8 : (x1).toNatClampNeg < 5 := vp_lt n_7
        refine th_aald hx hb hK hP 11 2 (Nat.lt_of_lt_of_le (by decide) hn) (sM_11 hT) rfl n_7 dX7_axleLoad_86 ?_
        refine lv_iconst (v := 0) hx hb dX7_axleLoad_87 (by decide) ?_
        refine th_iald hx hb hK hP (64 + (x1).toNatClampNeg) (lt_blk b_8 hn (by decide)) (hT.bwaggon b_8).1 (rg_in (rg_c (v := 0) (lo := 0) (hi := 0) (by decide)) (by decide)) dX7_axleLoad_88 ?_
        refine lv_idiv hx hb dX7_axleLoad_89 (rg_ne0 (oh_pos0 hw) (by decide)) ?_
        rw [hQ]
        exact W.iret (v := ((z19_3 + (ga (C (64 + (x1).toNatClampNeg)) ((0 : Int32)).toNatClampNeg)) - 1) / (ga (C (64 + (x1).toNatClampNeg)) ((0 : Int32)).toNatClampNeg)) hx hb hr (fun t ht hW => ⟨((z19_3 + (ga (C (64 + (x1).toNatClampNeg)) ((0 : Int32)).toNatClampNeg)) - 1) / (ga (C (64 + (x1).toNatClampNeg)) ((0 : Int32)).toNatClampNeg), rfl, (fun A hA => by have h1 := hx_19 A hA; rw [(show z19_4 = A 5 0 3 from Eq.trans (show z19_4 = gi (C 0) 15 from Int32.toInt_inj.mp (by have h7 := Int32.le_iff_toInt_le.mp c_3; have h8 := hy_19; omega)) (hA.1 3 (by decide)))] at h1; unfold aLoad rndUp; rw [if_pos (show (0 : Int32) < ga (C (64 + (x1).toNatClampNeg)) ((0 : Int32)).toNatClampNeg from Int32.lt_iff_toInt_lt.mpr hw.1), ← h1, (if_neg (Int32.not_lt.mpr c_4))]), ht⟩) (fun q h => by cases h) dX7_axleLoad_90
      · refine lv_iconst (v := 0) hx hb dX7_axleLoad_63 (by decide) ?_
        refine lv_goto (tgt := 68) hx hb dX7_axleLoad_64 (by decide) ?_
        refine lv_istore_n (lv' := [(3, .int 0), (4, .int z19_4), (0, .ref (a 0)), (1, .int x1), (2, .int x2)]) hx hb dX7_axleLoad_68 rfl hl (by decide) rfl (fun ls hl => ?_)
        refine lv_iload_n hx hb dX7_axleLoad_69 rfl (lv_at hl 0 rfl) ?_
        refine lv_aload_n hx hb dX7_axleLoad_70 rfl (lv_at hl 2 rfl) ?_
        refine va_get (D := D) (ci := 7) (v := .ref (a 11)) (C := RX7) (T := TX7) (N := 29) hx hb htg ig_7 hown hK hP 0 (oh_wg (Nat.lt_of_lt_of_le (by decide) hn) (sM_0 hT)) rfl 14 (by decide) (htg _ q_987) (fun _ h9 => h9) rfl dX7_axleLoad_71 ?_
        refine lv_iload_n hx hb dX7_axleLoad_74 rfl (lv_at hl 3 rfl) ?_
        have n_9 : vp_in x1 5 := (rg_in hx1 (by decide))
        have b_10 : (x1).toNatClampNeg < 5 := vp_lt n_9
        refine th_aald hx hb hK hP 11 2 (Nat.lt_of_lt_of_le (by decide) hn) (sM_11 hT) rfl n_9 dX7_axleLoad_75 ?_
        refine lv_iconst (v := 0) hx hb dX7_axleLoad_76 (by decide) ?_
        refine th_iald hx hb hK hP (64 + (x1).toNatClampNeg) (lt_blk b_10 hn (by decide)) (hT.bwaggon b_10).1 (rg_in (rg_c (v := 0) (lo := 0) (hi := 0) (by decide)) (by decide)) dX7_axleLoad_77 ?_
        refine lv_iadd hx hb dX7_axleLoad_78 ?_
        refine lv_iconst (v := 1) hx hb dX7_axleLoad_79 (by decide) ?_
        refine lv_isub hx hb dX7_axleLoad_80 ?_
        refine lv_aload_n hx hb dX7_axleLoad_81 rfl (lv_at hl 2 rfl) ?_
        refine va_get (D := D) (ci := 7) (v := .ref (a 11)) (C := RX7) (T := TX7) (N := 29) hx hb htg ig_7 hown hK hP 0 (oh_wg (Nat.lt_of_lt_of_le (by decide) hn) (sM_0 hT)) rfl 14 (by decide) (htg _ q_987) (fun _ h9 => h9) rfl dX7_axleLoad_82 ?_
        refine lv_iload_n hx hb dX7_axleLoad_85 rfl (lv_at hl 3 rfl) ?_
        have n_11 : vp_in x1 5 := (rg_in hx1 (by decide))
        have b_12 : (x1).toNatClampNeg < 5 := vp_lt n_11
        refine th_aald hx hb hK hP 11 2 (Nat.lt_of_lt_of_le (by decide) hn) (sM_11 hT) rfl n_11 dX7_axleLoad_86 ?_
        refine lv_iconst (v := 0) hx hb dX7_axleLoad_87 (by decide) ?_
        refine th_iald hx hb hK hP (64 + (x1).toNatClampNeg) (lt_blk b_12 hn (by decide)) (hT.bwaggon b_12).1 (rg_in (rg_c (v := 0) (lo := 0) (hi := 0) (by decide)) (by decide)) dX7_axleLoad_88 ?_
        refine lv_idiv hx hb dX7_axleLoad_89 (rg_ne0 (oh_pos0 hw) (by decide)) ?_
        rw [hQ]
        exact W.iret (v := ((0 + (ga (C (64 + (x1).toNatClampNeg)) ((0 : Int32)).toNatClampNeg)) - 1) / (ga (C (64 + (x1).toNatClampNeg)) ((0 : Int32)).toNatClampNeg)) hx hb hr (fun t ht hW => ⟨((0 + (ga (C (64 + (x1).toNatClampNeg)) ((0 : Int32)).toNatClampNeg)) - 1) / (ga (C (64 + (x1).toNatClampNeg)) ((0 : Int32)).toNatClampNeg), rfl, (fun A hA => by have h1 := hx_19 A hA; rw [(show z19_4 = A 5 0 3 from Eq.trans (show z19_4 = gi (C 0) 15 from Int32.toInt_inj.mp (by have h7 := Int32.le_iff_toInt_le.mp c_3; have h8 := hy_19; omega)) (hA.1 3 (by decide)))] at h1; unfold aLoad rndUp; rw [if_pos (show (0 : Int32) < ga (C (64 + (x1).toNatClampNeg)) ((0 : Int32)).toNatClampNeg from Int32.lt_iff_toInt_lt.mpr hw.1), ← h1, (if_pos (Int32.not_le.mp c_4))]), ht⟩) (fun q h => by cases h) dX7_axleLoad_90
    · refine lv_iload_n hx hb dX7_axleLoad_28 rfl (lv_at hl 1 rfl) ?_
      refine lv_iload_n hx hb dX7_axleLoad_29 rfl (lv_at hl 4 rfl) ?_
      refine lv_iload hx hb dX7_axleLoad_30 (lv_at hl 0 rfl) ?_
      refine lv_ishr hx hb dX7_axleLoad_32 ?_
      refine lv_iconst (v := 1) hx hb dX7_axleLoad_33 (by decide) ?_
      refine lv_iand hx hb dX7_axleLoad_34 ?_
      refine lv_if_eq (tgt := 50) hx hb dX7_axleLoad_35 (by decide) (fun (c_13 : ((x2 >>> (z19_4 &&& 31)) &&& 1) = 0) => ?_) (fun (c_13 : ¬ (((x2 >>> (z19_4 &&& 31)) &&& 1) = 0)) => ?_)
      · refine lv_iconst (v := 0) hx hb dX7_axleLoad_50 (by decide) ?_
        refine lv_isub hx hb dX7_axleLoad_51 ?_
        refine lv_istore_n (lv' := [(3, .int (z19_3 - 0)), (4, .int z19_4), (0, .ref (a 0)), (1, .int x1), (2, .int x2)]) hx hb dX7_axleLoad_52 rfl hl (by decide) rfl (fun ls hl => ?_)
        refine lv_iinc (v := z19_4 + 1) (lv' := [(4, .int (z19_4 + 1)), (3, .int (z19_3 - 0)), (0, .ref (a 0)), (1, .int x1), (2, .int x2)]) hx hb dX7_axleLoad_53 hl (k := 1) rfl (by rfl) (by decide) rfl (fun ls hl => ?_)
        refine lv_goto (tgt := 19) hx hb dX7_axleLoad_56 (by decide) ?_
        exact ih_19 _ (hd_19 ▸ mu_up 5 (rn_ltu (u' := 4) (Int32.not_le.mp c_3) hz19_4 (fM_0_15 hT0) (by decide)) (by decide)) (z19_4 + 1) (z19_3 - 0) ls rfl (rg_w (rg_add (lo := 1) (hi := 5) (rn_ltu (u' := 4) (Int32.not_le.mp c_3) hz19_4 (fM_0_15 hT0) (by decide)) (rg_c (v := 1) (lo := 1) (hi := 1) (by decide)) (by decide)) (by decide)) (fun A hA => by rw [sumA_s (rg_w (lo := 0) (hi := 4) (rn_ltu (u' := 4) (Int32.not_le.mp c_3) hz19_4 (fM_0_15 hT0) (by decide)) (by decide)) (by decide), pif_pos c_13, Int32.add_zero, ← hx_19 A hA, Int32.sub_zero]) (by have h7 := Int32.lt_iff_toInt_lt.mp (Int32.not_le.mp c_3); have h8 : (z19_4 + 1).toInt = z19_4.toInt + 1 := oh_incr (rn_ltu (u' := 4) (Int32.not_le.mp c_3) hz19_4 (fM_0_15 hT0) (by decide)) (by decide); omega) (lv_sub hl [0, 1, 2, 3, 4] rfl)
      · refine lv_aload_n hx hb dX7_axleLoad_38 rfl (lv_at hl 2 rfl) ?_
        refine va_get (D := D) (ci := 7) (v := .ref (a 12)) (C := RX7) (T := TX7) (N := 29) hx hb htg ig_7 hown hK hP 0 (oh_wg (Nat.lt_of_lt_of_le (by decide) hn) (sM_0 hT)) rfl 16 (by decide) (htg _ q_989) (fun _ h9 => h9) rfl dX7_axleLoad_39 ?_
        refine lv_iload hx hb dX7_axleLoad_42 (lv_at hl 0 rfl) ?_
        have n_14 : vp_in z19_4 5 := (rg_in (rn_ltu (u' := 4) (Int32.not_le.mp c_3) hz19_4 (fM_0_15 hT0) (by decide)) (by decide))
        have b_15 : (z19_4).toNatClampNeg < 5 := vp_lt n_14
        refine th_aald hx hb hK hP 12 2 (Nat.lt_of_lt_of_le (by decide) hn) (sM_12 hT) rfl n_14 dX7_axleLoad_44 ?_
        refine lv_iconst (v := 0) hx hb dX7_axleLoad_45 (by decide) ?_
        refine th_iald hx hb hK hP (69 + (z19_4).toNatClampNeg) (lt_blk b_15 hn (by decide)) (hT.bpart b_15).1 (rg_in (rg_c (v := 0) (lo := 0) (hi := 0) (by decide)) (by decide)) dX7_axleLoad_46 ?_
        refine lv_goto (tgt := 51) hx hb dX7_axleLoad_47 (by decide) ?_
        refine lv_isub hx hb dX7_axleLoad_51 ?_
        refine lv_istore_n (lv' := [(3, .int (z19_3 - (ga (C (69 + (z19_4).toNatClampNeg)) ((0 : Int32)).toNatClampNeg))), (4, .int z19_4), (0, .ref (a 0)), (1, .int x1), (2, .int x2)]) hx hb dX7_axleLoad_52 rfl hl (by decide) rfl (fun ls hl => ?_)
        refine lv_iinc (v := z19_4 + 1) (lv' := [(4, .int (z19_4 + 1)), (3, .int (z19_3 - (ga (C (69 + (z19_4).toNatClampNeg)) ((0 : Int32)).toNatClampNeg))), (0, .ref (a 0)), (1, .int x1), (2, .int x2)]) hx hb dX7_axleLoad_53 hl (k := 1) rfl (by rfl) (by decide) rfl (fun ls hl => ?_)
        refine lv_goto (tgt := 19) hx hb dX7_axleLoad_56 (by decide) ?_
        exact ih_19 _ (hd_19 ▸ mu_up 5 (rn_ltu (u' := 4) (Int32.not_le.mp c_3) hz19_4 (fM_0_15 hT0) (by decide)) (by decide)) (z19_4 + 1) (z19_3 - (ga (C (69 + (z19_4).toNatClampNeg)) ((0 : Int32)).toNatClampNeg)) ls rfl (rg_w (rg_add (lo := 1) (hi := 5) (rn_ltu (u' := 4) (Int32.not_le.mp c_3) hz19_4 (fM_0_15 hT0) (by decide)) (rg_c (v := 1) (lo := 1) (hi := 1) (by decide)) (by decide)) (by decide)) (fun A hA => by rw [sumA_s (rg_w (lo := 0) (hi := 4) (rn_ltu (u' := 4) (Int32.not_le.mp c_3) hz19_4 (fM_0_15 hT0) (by decide)) (by decide)) (by decide), pif_neg c_13, i32_sa, ← hx_19 A hA, (show ga (C (69 + (z19_4).toNatClampNeg)) ((0 : Int32)).toNatClampNeg = A 3 z19_4.toNatClampNeg 0 from colM_v (t := 3) hA (by decide) (rg_w (lo := 0) (hi := 4) (rn_ltu (u' := 4) (Int32.not_le.mp c_3) hz19_4 (fM_0_15 hT0) (by decide)) (by decide)) (by decide) (show z19_4 < A 5 0 3 from oh_lte (Int32.not_le.mp c_3) (hA.1 3 (by decide))) (by unfold vis; omega))]) (by have h7 := Int32.lt_iff_toInt_lt.mp (Int32.not_le.mp c_3); have h8 : (z19_4 + 1).toInt = z19_4.toInt + 1 := oh_incr (rn_ltu (u' := 4) (Int32.not_le.mp c_3) hz19_4 (fM_0_15 hT0) (by decide)) (by decide); omega) (lv_sub hl [0, 1, 2, 3, 4] rfl)
  exact L_19 _ 0 ((ga (C (64 + (x1).toNatClampNeg)) ((2 : Int32)).toNatClampNeg) + (ga (C 13) ((0 : Int32)).toNatClampNeg)) ls rfl (rg_w (rg_c (v := 0) (lo := 0) (hi := 0) (by decide)) (by decide)) (fun A hA => (Int32.sub_zero _).symm) (fM_0_15 hT0).1 (lv_sub hl [0, 1, 2, 3, 4] rfl)

set_option maxHeartbeats 4000000 in
set_option maxRecDepth 100000 in
theorem e_X7_strainOf (l : Launch) (D : va_G) (E : Nat → ClassId) (G : Nat → Nat) (a : Nat → Nat) (C : Nat → va_E) (n : Nat) (hn : 74 ≤ n) (hT : TyM a E C) (x1 : Int32) (x2 : Int32) (x3 : Int32) (hx1 : rg x1 0 4) (hx3 : rg x3 0 15) (hw : oh_pos C x1) : Met l yX7_strainOf (oh_w yX7_strainOf cX7_strainOf 5 (some .int)) ({ frames := 1, cells := 0, slots := 0, locals := 24 }) (oh_Pp D E G [.ref (a 0), .int x1, .int x2, .int x3] (oh_W n a C)) (vp_Si (fun r => (∀ A : LA, absM C A → r = (if cutBy (ga (C (48 + (x3).toNatClampNeg)) ((2 : Int32)).toNatClampNeg) (ga (C (64 + (x1).toNatClampNeg)) ((1 : Int32)).toNatClampNeg) + 1 < ga (C (64 + (x1).toNatClampNeg)) ((0 : Int32)).toNatClampNeg then cutBy (ga (C (48 + (x3).toNatClampNeg)) ((2 : Int32)).toNatClampNeg) (ga (C (64 + (x1).toNatClampNeg)) ((1 : Int32)).toNatClampNeg) + 1 else ga (C (64 + (x1).toNatClampNeg)) ((0 : Int32)).toNatClampNeg) * aLoad (ga (C (64 + (x1).toNatClampNeg)) ((0 : Int32)).toNatClampNeg) (ga (C (64 + (x1).toNatClampNeg)) ((2 : Int32)).toNatClampNeg) (ga (C 13) ((0 : Int32)).toNatClampNeg) (sumA A x2 0 (A 5 0 3).toNatClampNeg)))) 0 0 (fun _ => False) := by
  refine Met.ofW (cc := cX7_strainOf) (maxL := 5) (ret := (some .int)) (by decide) rfl ?_
  intro p e s m args below meth c s₁ B hml hv
  obtain ⟨rfl, hP, hK, hG⟩ := hv
  have hx := B.exec
  have hb := B.bytes
  have hr := B.returns
  have hts := atoms_spec (ws := (oh_w yX7_strainOf cX7_strainOf 5 (some .int))) B.pre
  have htg : ∀ w ∈ oh_t, w.before _ s = true := fun w h => hts w (List.mem_cons_of_mem _ h)
  have hown : s.vm.findClass RX7 = some m.cls := findClass_of_methodNamed B.named
  have hlocks := B.notSynchronized
  have hT0 := hT
  have hS : va_S (fun _ => False) s.heap s.heap [] := va_S.rf
  have hl := lv_entry ([.ref (a 0), .int x1, .int x2, .int x3]) (n := 5) (Nat.le_of_ble_eq_true rfl)
  rw [lg_entry_eq]
  generalize (lg_sl ([.ref (a 0), .int x1, .int x2, .int x3]) ++ List.replicate (5 - (lg_sl ([.ref (a 0), .int x1, .int x2, .int x3])).length) Slot.unset).toArray = ls at hl ⊢
  have hl : lv_has ls 5 [(0, .ref (a 0)), (1, .int x1), (2, .int x2), (3, .int x3)] := hl
  refine oh_genQ (fun Q hQ => ?_)
  refine lv_aload_n hx hb dX7_strainOf_0 rfl (lv_at hl 0 rfl) ?_
  refine va_get (D := D) (ci := 7) (v := .ref (a 10)) (C := RX7) (T := TX7) (N := 29) hx hb htg ig_7 hown hK hP 0 (oh_wg (Nat.lt_of_lt_of_le (by decide) hn) (sM_0 hT)) rfl 12 (by decide) (htg _ q_985) (fun _ h9 => h9) rfl dX7_strainOf_1 ?_
  refine lv_iload_n hx hb dX7_strainOf_4 rfl (lv_at hl 3 rfl) ?_
  have n_1 : vp_in x3 16 := (rg_in hx3 (by decide))
  have b_2 : (x3).toNatClampNeg < 16 := vp_lt n_1
  refine th_aald hx hb hK hP 10 2 (Nat.lt_of_lt_of_le (by decide) hn) (sM_10 hT) rfl n_1 dX7_strainOf_5 ?_
  refine lv_iconst (v := 2) hx hb dX7_strainOf_6 (by decide) ?_
  refine th_iald hx hb hK hP (48 + (x3).toNatClampNeg) (lt_blk b_2 hn (by decide)) (hT.bbridge b_2).1 (rg_in (rg_c (v := 2) (lo := 2) (hi := 2) (by decide)) (by decide)) dX7_strainOf_7 ?_
  refine lv_aload_n hx hb dX7_strainOf_8 rfl (lv_at hl 0 rfl) ?_
  refine va_get (D := D) (ci := 7) (v := .ref (a 11)) (C := RX7) (T := TX7) (N := 29) hx hb htg ig_7 hown hK hP 0 (oh_wg (Nat.lt_of_lt_of_le (by decide) hn) (sM_0 hT)) rfl 14 (by decide) (htg _ q_987) (fun _ h9 => h9) rfl dX7_strainOf_9 ?_
  refine lv_iload_n hx hb dX7_strainOf_12 rfl (lv_at hl 1 rfl) ?_
  have n_3 : vp_in x1 5 := (rg_in hx1 (by decide))
  have b_4 : (x1).toNatClampNeg < 5 := vp_lt n_3
  refine th_aald hx hb hK hP 11 2 (Nat.lt_of_lt_of_le (by decide) hn) (sM_11 hT) rfl n_3 dX7_strainOf_13 ?_
  refine lv_iconst (v := 1) hx hb dX7_strainOf_14 (by decide) ?_
  refine th_iald hx hb hK hP (64 + (x1).toNatClampNeg) (lt_blk b_4 hn (by decide)) (hT.bwaggon b_4).1 (rg_in (rg_c (v := 1) (lo := 1) (hi := 1) (by decide)) (by decide)) dX7_strainOf_15 ?_
  refine lv_idiv hx hb dX7_strainOf_16 (rg_ne0 (oh_pos1 hw) (by decide)) ?_
  refine lv_iconst (v := 1) hx hb dX7_strainOf_17 (by decide) ?_
  refine lv_iadd hx hb dX7_strainOf_18 ?_
  refine lv_istore (lv' := [(4, .int (((ga (C (48 + (x3).toNatClampNeg)) ((2 : Int32)).toNatClampNeg) / (ga (C (64 + (x1).toNatClampNeg)) ((1 : Int32)).toNatClampNeg)) + 1)), (0, .ref (a 0)), (1, .int x1), (2, .int x2), (3, .int x3)]) hx hb dX7_strainOf_19 hl (by decide) rfl (fun ls hl => ?_)
  refine lv_iload hx hb dX7_strainOf_21 (lv_at hl 0 rfl) ?_
  refine lv_aload_n hx hb dX7_strainOf_23 rfl (lv_at hl 1 rfl) ?_
  refine va_get (D := D) (ci := 7) (v := .ref (a 11)) (C := RX7) (T := TX7) (N := 29) hx hb htg ig_7 hown hK hP 0 (oh_wg (Nat.lt_of_lt_of_le (by decide) hn) (sM_0 hT)) rfl 14 (by decide) (htg _ q_987) (fun _ h9 => h9) rfl dX7_strainOf_24 ?_
  refine lv_iload_n hx hb dX7_strainOf_27 rfl (lv_at hl 2 rfl) ?_
  have n_5 : vp_in x1 5 := (rg_in hx1 (by decide))
  have b_6 : (x1).toNatClampNeg < 5 := vp_lt n_5
  refine th_aald hx hb hK hP 11 2 (Nat.lt_of_lt_of_le (by decide) hn) (sM_11 hT) rfl n_5 dX7_strainOf_28 ?_
  refine lv_iconst (v := 0) hx hb dX7_strainOf_29 (by decide) ?_
  refine th_iald hx hb hK hP (64 + (x1).toNatClampNeg) (lt_blk b_6 hn (by decide)) (hT.bwaggon b_6).1 (rg_in (rg_c (v := 0) (lo := 0) (hi := 0) (by decide)) (by decide)) dX7_strainOf_30 ?_
  refine lv_icmp_le (tgt := 45) hx hb dX7_strainOf_31 (by decide) (fun (c_7 : (((ga (C (48 + (x3).toNatClampNeg)) ((2 : Int32)).toNatClampNeg) / (ga (C (64 + (x1).toNatClampNeg)) ((1 : Int32)).toNatClampNeg)) + 1) ≤ (ga (C (64 + (x1).toNatClampNeg)) ((0 : Int32)).toNatClampNeg)) => ?_) (fun (c_7 : ¬ ((((ga (C (48 + (x3).toNatClampNeg)) ((2 : Int32)).toNatClampNeg) / (ga (C (64 + (x1).toNatClampNeg)) ((1 : Int32)).toNatClampNeg)) + 1) ≤ (ga (C (64 + (x1).toNatClampNeg)) ((0 : Int32)).toNatClampNeg))) => ?_)
  · refine lv_iload hx hb dX7_strainOf_45 (lv_at hl 0 rfl) ?_
    refine lv_istore (lv' := [(4, .int (((ga (C (48 + (x3).toNatClampNeg)) ((2 : Int32)).toNatClampNeg) / (ga (C (64 + (x1).toNatClampNeg)) ((1 : Int32)).toNatClampNeg)) + 1)), (0, .ref (a 0)), (1, .int x1), (2, .int x2), (3, .int x3)]) hx hb dX7_strainOf_47 hl (by decide) rfl (fun ls hl => ?_)
    refine lv_iload hx hb dX7_strainOf_49 (lv_at hl 0 rfl) ?_
    refine lv_aload_n hx hb dX7_strainOf_51 rfl (lv_at hl 1 rfl) ?_
    refine lv_iload_n hx hb dX7_strainOf_52 rfl (lv_at hl 2 rfl) ?_
    refine lv_iload_n hx hb dX7_strainOf_53 rfl (lv_at hl 3 rfl) ?_
    refine tq_V (As := [.int x1, .int x2]) (rest := [.int (((ga (C (48 + (x3).toNatClampNeg)) ((2 : Int32)).toNatClampNeg) / (ga (C (64 + (x1).toNatClampNeg)) ((1 : Int32)).toNatClampNeg)) + 1)]) (ws := (oh_W n a C)) ⟨hx, hb, hml, hown, htg⟩ (e_X7_axleLoad l D E G a C n hn hT x1 x2 (rg_w hx1 (by decide)) hw) (cwV 2 htg (oh_gV q_1294 q_1296 q_51 q_73 q_1297) rfl rfl rfl pdVX7_axleLoad ⟨Nat.le_of_ble_eq_true rfl, Nat.le_of_ble_eq_true rfl⟩) hK hP hG hS (va_recv hK hP (ci := 7) (q0 := 0) rfl (oh_wg (Nat.lt_of_lt_of_le (by decide) hn) (sM_0 hT))) rfl hl.1 rfl (Nat.le_of_ble_eq_true rfl) dX7_strainOf_54 ⟨Nat.le_of_ble_eq_true rfl, Nat.le_of_ble_eq_true rfl⟩ (fun r_8 hq_9 => ?_)
    refine lv_imul hx hb dX7_strainOf_57 ?_
    rw [hQ]
    exact W.iret (v := (((ga (C (48 + (x3).toNatClampNeg)) ((2 : Int32)).toNatClampNeg) / (ga (C (64 + (x1).toNatClampNeg)) ((1 : Int32)).toNatClampNeg)) + 1) * r_8) hx hb hr (fun t ht hW => ⟨(((ga (C (48 + (x3).toNatClampNeg)) ((2 : Int32)).toNatClampNeg) / (ga (C (64 + (x1).toNatClampNeg)) ((1 : Int32)).toNatClampNeg)) + 1) * r_8, rfl, (fun A hA => by rw [hq_9 A hA, ← cut_p (v := ga (C (48 + (x3).toNatClampNeg)) ((2 : Int32)).toNatClampNeg) (show (0 : Int32) < ga (C (64 + (x1).toNatClampNeg)) ((1 : Int32)).toNatClampNeg from Int32.lt_iff_toInt_lt.mpr hw.2)]; exact congrArg (fun z => z * aLoad (ga (C (64 + (x1).toNatClampNeg)) ((0 : Int32)).toNatClampNeg) (ga (C (64 + (x1).toNatClampNeg)) ((2 : Int32)).toNatClampNeg) (ga (C 13) ((0 : Int32)).toNatClampNeg) (sumA A x2 0 (A 5 0 3).toNatClampNeg)) (mn_le c_7)), ht⟩) (fun q h => by cases h) dX7_strainOf_58
  · refine lv_aload_n hx hb dX7_strainOf_34 rfl (lv_at hl 1 rfl) ?_
    refine va_get (D := D) (ci := 7) (v := .ref (a 11)) (C := RX7) (T := TX7) (N := 29) hx hb htg ig_7 hown hK hP 0 (oh_wg (Nat.lt_of_lt_of_le (by decide) hn) (sM_0 hT)) rfl 14 (by decide) (htg _ q_987) (fun _ h9 => h9) rfl dX7_strainOf_35 ?_
    refine lv_iload_n hx hb dX7_strainOf_38 rfl (lv_at hl 2 rfl) ?_
    have n_10 : vp_in x1 5 := (rg_in hx1 (by decide))
    have b_11 : (x1).toNatClampNeg < 5 := vp_lt n_10
    refine th_aald hx hb hK hP 11 2 (Nat.lt_of_lt_of_le (by decide) hn) (sM_11 hT) rfl n_10 dX7_strainOf_39 ?_
    refine lv_iconst (v := 0) hx hb dX7_strainOf_40 (by decide) ?_
    refine th_iald hx hb hK hP (64 + (x1).toNatClampNeg) (lt_blk b_11 hn (by decide)) (hT.bwaggon b_11).1 (rg_in (rg_c (v := 0) (lo := 0) (hi := 0) (by decide)) (by decide)) dX7_strainOf_41 ?_
    refine lv_goto (tgt := 47) hx hb dX7_strainOf_42 (by decide) ?_
    refine lv_istore (lv' := [(4, .int (ga (C (64 + (x1).toNatClampNeg)) ((0 : Int32)).toNatClampNeg)), (0, .ref (a 0)), (1, .int x1), (2, .int x2), (3, .int x3)]) hx hb dX7_strainOf_47 hl (by decide) rfl (fun ls hl => ?_)
    refine lv_iload hx hb dX7_strainOf_49 (lv_at hl 0 rfl) ?_
    refine lv_aload_n hx hb dX7_strainOf_51 rfl (lv_at hl 1 rfl) ?_
    refine lv_iload_n hx hb dX7_strainOf_52 rfl (lv_at hl 2 rfl) ?_
    refine lv_iload_n hx hb dX7_strainOf_53 rfl (lv_at hl 3 rfl) ?_
    refine tq_V (As := [.int x1, .int x2]) (rest := [.int (ga (C (64 + (x1).toNatClampNeg)) ((0 : Int32)).toNatClampNeg)]) (ws := (oh_W n a C)) ⟨hx, hb, hml, hown, htg⟩ (e_X7_axleLoad l D E G a C n hn hT x1 x2 (rg_w hx1 (by decide)) hw) (cwV 2 htg (oh_gV q_1294 q_1296 q_51 q_73 q_1297) rfl rfl rfl pdVX7_axleLoad ⟨Nat.le_of_ble_eq_true rfl, Nat.le_of_ble_eq_true rfl⟩) hK hP hG hS (va_recv hK hP (ci := 7) (q0 := 0) rfl (oh_wg (Nat.lt_of_lt_of_le (by decide) hn) (sM_0 hT))) rfl hl.1 rfl (Nat.le_of_ble_eq_true rfl) dX7_strainOf_54 ⟨Nat.le_of_ble_eq_true rfl, Nat.le_of_ble_eq_true rfl⟩ (fun r_12 hq_13 => ?_)
    refine lv_imul hx hb dX7_strainOf_57 ?_
    rw [hQ]
    exact W.iret (v := (ga (C (64 + (x1).toNatClampNeg)) ((0 : Int32)).toNatClampNeg) * r_12) hx hb hr (fun t ht hW => ⟨(ga (C (64 + (x1).toNatClampNeg)) ((0 : Int32)).toNatClampNeg) * r_12, rfl, (fun A hA => by rw [hq_13 A hA, ← cut_p (v := ga (C (48 + (x3).toNatClampNeg)) ((2 : Int32)).toNatClampNeg) (show (0 : Int32) < ga (C (64 + (x1).toNatClampNeg)) ((1 : Int32)).toNatClampNeg from Int32.lt_iff_toInt_lt.mpr hw.2)]; exact congrArg (fun z => z * aLoad (ga (C (64 + (x1).toNatClampNeg)) ((0 : Int32)).toNatClampNeg) (ga (C (64 + (x1).toNatClampNeg)) ((2 : Int32)).toNatClampNeg) (ga (C 13) ((0 : Int32)).toNatClampNeg) (sumA A x2 0 (A 5 0 3).toNatClampNeg)) (mn_gt (Int32.not_le.mp c_7))), ht⟩) (fun q h => by cases h) dX7_strainOf_58

set_option maxHeartbeats 4000000 in
set_option maxRecDepth 100000 in
theorem e_X7_axle (l : Launch) (D : va_G) (E : Nat → ClassId) (G : Nat → Nat) (sz : Nat) (a : Nat → Nat) (C : Nat → va_E) (n : Nat) (hn : 74 ≤ n) (hT : TyM a E C) (x1 : Int32) (x2 : Int32) (hR : RelM C) : Met l yX7_axle (oh_w yX7_axle cX7_axle 3 (some .int)) ({ frames := 3, cells := 0, slots := 0, locals := 68 }) (oh_Pm D E G [.ref (a 0), .int x1, .int x2] (oh_W n a C) sz) (va_Qi (fun r (u : Nat → va_E) => TyM a E u ∧ fr [(8, 9)] [] C u ∧ (RelM u) ∧ (∀ A : LA, absM C A → r = spAxle A x1 x2)) (oh_B D (va_A (oh_W n a C) sz) (fun u => oh_W n a u)) (va_A (oh_W n a C) sz)) 0 0 (va_A (oh_W n a C) sz) := by
  refine Met.ofW (cc := cX7_axle) (maxL := 3) (ret := (some .int)) (by decide) rfl ?_
  intro p e s m args below meth c s₁ B hml hv
  obtain ⟨rfl, hsz, hP, hK, hD0, hG⟩ := hv
  have hx := B.exec
  have hb := B.bytes
  have hr := B.returns
  have hts := atoms_spec (ws := (oh_w yX7_axle cX7_axle 3 (some .int))) B.pre
  have htg : ∀ w ∈ oh_t, w.before _ s = true := fun w h => hts w (List.mem_cons_of_mem _ h)
  have hown : s.vm.findClass RX7 = some m.cls := findClass_of_methodNamed B.named
  have hlocks := B.notSynchronized
  have hT0 := hT
  subst hsz
  have hD := hD0.self (sz := s.heap.size)
  generalize hAe : va_A (oh_W n a C) s.heap.size = A at hD hG ⊢
  have hA : ∀ q : Nat, s.heap.size ≤ q → A q := fun q h => by rw [← hAe]; exact Or.inr h
  have hS : va_S A s.heap s.heap [] := va_S.rf
  have hF : fr [(8, 9)] [] C C := fr_rf
  have hl := lv_entry ([.ref (a 0), .int x1, .int x2]) (n := 3) (Nat.le_of_ble_eq_true rfl)
  rw [lg_entry_eq]
  generalize (lg_sl ([.ref (a 0), .int x1, .int x2]) ++ List.replicate (3 - (lg_sl ([.ref (a 0), .int x1, .int x2])).length) Slot.unset).toArray = ls at hl ⊢
  have hl : lv_has ls 3 [(0, .ref (a 0)), (1, .int x1), (2, .int x2)] := hl
  refine oh_genQ (fun Q hQ => ?_)
  refine lv_aload_n hx hb dX7_axle_0 rfl (lv_at hl 0 rfl) ?_
  refine lv_iload_n hx hb dX7_axle_1 rfl (lv_at hl 1 rfl) ?_
  refine lv_iload_n hx hb dX7_axle_2 rfl (lv_at hl 2 rfl) ?_
  refine tq_V (As := [.int x1, .int x2]) (rest := []) (ws := (oh_W n a C)) ⟨hx, hb, hml, hown, htg⟩ (e_X7_isPack l D E G a C n hn hT x1 x2 hR.1) (cwV 2 htg (oh_gV q_1290 q_1292 q_50 q_73 q_1293) rfl rfl rfl pdVX7_isPack ⟨Nat.le_of_ble_eq_true rfl, Nat.le_of_ble_eq_true rfl⟩) hK hP hG hS (va_recv hK hP (ci := 7) (q0 := 0) rfl (oh_wg (Nat.lt_of_lt_of_le (by decide) hn) (sM_0 hT))) rfl hl.1 rfl (Nat.le_of_ble_eq_true rfl) dX7_axle_3 ⟨Nat.le_of_ble_eq_true rfl, Nat.le_of_ble_eq_true rfl⟩ (fun r_1 hq_2 => ?_)
  refine lv_if_eq (tgt := 18) hx hb dX7_axle_6 (by decide) (fun (c_3 : r_1 = 0) => ?_) (fun (c_3 : ¬ (r_1 = 0)) => ?_)
  · have u_4 := hq_2.2.2 c_3
    refine lv_aload_n hx hb dX7_axle_18 rfl (lv_at hl 0 rfl) ?_
    refine lv_bipush (v := (-2)) hx hb dX7_axle_19 (by decide) ?_
    refine tm_V (As := [.int (-2)]) (rest := []) ⟨hx, hb, hml, hown, htg⟩ (c_X7_refuse l D E G _ a C n hn hT ((-2) : Int32) (rg_w (rg_c (v := (-2)) (lo := (-2)) (hi := (-2)) (by decide)) (by decide))) (cwV 1 htg (oh_gV q_1071 q_1073 q_29 q_73 q_1074) rfl rfl rfl pdVX7_refuse ⟨Nat.le_of_ble_eq_true rfl, Nat.le_of_ble_eq_true rfl⟩) hK hP hD hG hS hA (va_recv hK hP (ci := 7) (q0 := 0) rfl (oh_wg (Nat.lt_of_lt_of_le (by decide) hn) (sM_0 hT))) rfl hl.1 rfl (Nat.le_of_ble_eq_true rfl) dX7_axle_21 ⟨Nat.le_of_ble_eq_true rfl, Nat.le_of_ble_eq_true rfl⟩ (fun r_5 C_6 H locs hq_7 hP hD hS => ?_)
    obtain ⟨hT, f_8, hq_7⟩ := hq_7
    have hF := fr_tr hF f_8 (by decide) (by decide)
    refine W.widen (k := 0) (n := 0) (Nat.le_refl _) (Nat.le_refl _) ?_
    have t_9 := hT
    rw [hQ]
    exact W.iret (v := r_5) hx hb hr (fun t ht hW => ⟨⟨r_5, C_6, rfl, ⟨hT, hF, ⟨⟨hR.1.fr hF (by decide), hR.2.fr hF (by decide)⟩, (fun A hA => Eq.trans hq_7 (pif_neg (show ¬ okPk (A 5 0 2) (A 5 0 3) x1 x2 by rw [← (show gi (C 0) 13 = A 5 0 2 from hA.1 2 (by decide)), ← (show gi (C 0) 15 = A 5 0 3 from hA.1 3 (by decide))]; exact u_4)).symm)⟩⟩, ⟨by rw [ht]; exact hP, hD⟩⟩, hS.F ht⟩) hS.2.2 dX7_axle_24
  · have u_10 := hq_2.2.1 c_3
    refine lv_aload_n hx hb dX7_axle_9 rfl (lv_at hl 0 rfl) ?_
    refine lv_iload_n hx hb dX7_axle_10 rfl (lv_at hl 1 rfl) ?_
    refine lv_iload_n hx hb dX7_axle_11 rfl (lv_at hl 2 rfl) ?_
    refine tq_V (As := [.int x1, .int x2]) (rest := []) (ws := (oh_W n a C)) ⟨hx, hb, hml, hown, htg⟩ (e_X7_axleLoad l D E G a C n hn hT x1 x2 (rg_w u_10.1 (by decide)) u_10.2.1) (cwV 2 htg (oh_gV q_1294 q_1296 q_51 q_73 q_1297) rfl rfl rfl pdVX7_axleLoad ⟨Nat.le_of_ble_eq_true rfl, Nat.le_of_ble_eq_true rfl⟩) hK hP hG hS (va_recv hK hP (ci := 7) (q0 := 0) rfl (oh_wg (Nat.lt_of_lt_of_le (by decide) hn) (sM_0 hT))) rfl hl.1 rfl (Nat.le_of_ble_eq_true rfl) dX7_axle_12 ⟨Nat.le_of_ble_eq_true rfl, Nat.le_of_ble_eq_true rfl⟩ (fun r_11 hq_12 => ?_)
    refine lv_goto (tgt := 24) hx hb dX7_axle_15 (by decide) ?_
    rw [hQ]
    exact W.iret (v := r_11) hx hb hr (fun t ht hW => ⟨⟨r_11, C, rfl, ⟨hT, hF, ⟨hR, (fun A hA => Eq.trans (by rw [hq_12 A hA, (show ga (C (64 + (x1).toNatClampNeg)) ((0 : Int32)).toNatClampNeg = A 2 x1.toNatClampNeg 0 from colM_v (t := 2) hA (by decide) (rg_w (lo := 0) (hi := 4) u_10.1 (by decide)) (by decide) (show okPk (A 5 0 2) (A 5 0 3) x1 x2 by rw [← (show gi (C 0) 13 = A 5 0 2 from hA.1 2 (by decide)), ← (show gi (C 0) 15 = A 5 0 3 from hA.1 3 (by decide))]; exact u_10.2.2.2).1.2 (by unfold vis; omega)), (show ga (C (64 + (x1).toNatClampNeg)) ((2 : Int32)).toNatClampNeg = A 2 x1.toNatClampNeg 2 from colM_v (t := 2) hA (by decide) (rg_w (lo := 0) (hi := 4) u_10.1 (by decide)) (by decide) (show okPk (A 5 0 2) (A 5 0 3) x1 x2 by rw [← (show gi (C 0) 13 = A 5 0 2 from hA.1 2 (by decide)), ← (show gi (C 0) 15 = A 5 0 3 from hA.1 3 (by decide))]; exact u_10.2.2.2).1.2 (by unfold vis; omega)), show ga (C 13) ((0 : Int32)).toNatClampNeg = A 4 0 0 from hA.2.1 0 (by decide)]; rfl) (pif_pos (show okPk (A 5 0 2) (A 5 0 3) x1 x2 by rw [← (show gi (C 0) 13 = A 5 0 2 from hA.1 2 (by decide)), ← (show gi (C 0) 15 = A 5 0 3 from hA.1 3 (by decide))]; exact u_10.2.2.2)).symm)⟩⟩, ⟨by rw [ht]; exact hP, hD⟩⟩, hS.F ht⟩) hS.2.2 dX7_axle_24

set_option maxHeartbeats 4000000 in
set_option maxRecDepth 100000 in
theorem e_X7_strain (l : Launch) (D : va_G) (E : Nat → ClassId) (G : Nat → Nat) (sz : Nat) (a : Nat → Nat) (C : Nat → va_E) (n : Nat) (hn : 74 ≤ n) (hT : TyM a E C) (x1 : Int32) (x2 : Int32) (x3 : Int32) (hR : RelM C) : Met l yX7_strain (oh_w yX7_strain cX7_strain 4 (some .int)) ({ frames := 3, cells := 0, slots := 0, locals := 68 }) (oh_Pm D E G [.ref (a 0), .int x1, .int x2, .int x3] (oh_W n a C) sz) (va_Qi (fun r (u : Nat → va_E) => TyM a E u ∧ fr [(8, 9)] [] C u ∧ (RelM u) ∧ (∀ A : LA, absM C A → r = spStrain A x1 x2 x3)) (oh_B D (va_A (oh_W n a C) sz) (fun u => oh_W n a u)) (va_A (oh_W n a C) sz)) 0 0 (va_A (oh_W n a C) sz) := by
  refine Met.ofW (cc := cX7_strain) (maxL := 4) (ret := (some .int)) (by decide) rfl ?_
  intro p e s m args below meth c s₁ B hml hv
  obtain ⟨rfl, hsz, hP, hK, hD0, hG⟩ := hv
  have hx := B.exec
  have hb := B.bytes
  have hr := B.returns
  have hts := atoms_spec (ws := (oh_w yX7_strain cX7_strain 4 (some .int))) B.pre
  have htg : ∀ w ∈ oh_t, w.before _ s = true := fun w h => hts w (List.mem_cons_of_mem _ h)
  have hown : s.vm.findClass RX7 = some m.cls := findClass_of_methodNamed B.named
  have hlocks := B.notSynchronized
  have hT0 := hT
  subst hsz
  have hD := hD0.self (sz := s.heap.size)
  generalize hAe : va_A (oh_W n a C) s.heap.size = A at hD hG ⊢
  have hA : ∀ q : Nat, s.heap.size ≤ q → A q := fun q h => by rw [← hAe]; exact Or.inr h
  have hS : va_S A s.heap s.heap [] := va_S.rf
  have hF : fr [(8, 9)] [] C C := fr_rf
  have hl := lv_entry ([.ref (a 0), .int x1, .int x2, .int x3]) (n := 4) (Nat.le_of_ble_eq_true rfl)
  rw [lg_entry_eq]
  generalize (lg_sl ([.ref (a 0), .int x1, .int x2, .int x3]) ++ List.replicate (4 - (lg_sl ([.ref (a 0), .int x1, .int x2, .int x3])).length) Slot.unset).toArray = ls at hl ⊢
  have hl : lv_has ls 4 [(0, .ref (a 0)), (1, .int x1), (2, .int x2), (3, .int x3)] := hl
  refine oh_genQ (fun Q hQ => ?_)
  refine lv_aload_n hx hb dX7_strain_0 rfl (lv_at hl 0 rfl) ?_
  refine lv_iload_n hx hb dX7_strain_1 rfl (lv_at hl 1 rfl) ?_
  refine lv_iload_n hx hb dX7_strain_2 rfl (lv_at hl 2 rfl) ?_
  refine tq_V (As := [.int x1, .int x2]) (rest := []) (ws := (oh_W n a C)) ⟨hx, hb, hml, hown, htg⟩ (e_X7_isPack l D E G a C n hn hT x1 x2 hR.1) (cwV 2 htg (oh_gV q_1290 q_1292 q_50 q_73 q_1293) rfl rfl rfl pdVX7_isPack ⟨Nat.le_of_ble_eq_true rfl, Nat.le_of_ble_eq_true rfl⟩) hK hP hG hS (va_recv hK hP (ci := 7) (q0 := 0) rfl (oh_wg (Nat.lt_of_lt_of_le (by decide) hn) (sM_0 hT))) rfl hl.1 rfl (Nat.le_of_ble_eq_true rfl) dX7_strain_3 ⟨Nat.le_of_ble_eq_true rfl, Nat.le_of_ble_eq_true rfl⟩ (fun r_1 hq_2 => ?_)
  refine lv_if_eq (tgt := 27) hx hb dX7_strain_6 (by decide) (fun (c_3 : r_1 = 0) => ?_) (fun (c_3 : ¬ (r_1 = 0)) => ?_)
  · have u_4 := hq_2.2.2 c_3
    refine lv_aload_n hx hb dX7_strain_27 rfl (lv_at hl 0 rfl) ?_
    refine lv_bipush (v := (-2)) hx hb dX7_strain_28 (by decide) ?_
    refine tm_V (As := [.int (-2)]) (rest := []) ⟨hx, hb, hml, hown, htg⟩ (c_X7_refuse l D E G _ a C n hn hT ((-2) : Int32) (rg_w (rg_c (v := (-2)) (lo := (-2)) (hi := (-2)) (by decide)) (by decide))) (cwV 1 htg (oh_gV q_1071 q_1073 q_29 q_73 q_1074) rfl rfl rfl pdVX7_refuse ⟨Nat.le_of_ble_eq_true rfl, Nat.le_of_ble_eq_true rfl⟩) hK hP hD hG hS hA (va_recv hK hP (ci := 7) (q0 := 0) rfl (oh_wg (Nat.lt_of_lt_of_le (by decide) hn) (sM_0 hT))) rfl hl.1 rfl (Nat.le_of_ble_eq_true rfl) dX7_strain_30 ⟨Nat.le_of_ble_eq_true rfl, Nat.le_of_ble_eq_true rfl⟩ (fun r_5 C_6 H locs hq_7 hP hD hS => ?_)
    obtain ⟨hT, f_8, hq_7⟩ := hq_7
    have hF := fr_tr hF f_8 (by decide) (by decide)
    refine W.widen (k := 0) (n := 0) (Nat.le_refl _) (Nat.le_refl _) ?_
    have t_9 := hT
    rw [hQ]
    exact W.iret (v := r_5) hx hb hr (fun t ht hW => ⟨⟨r_5, C_6, rfl, ⟨hT, hF, ⟨⟨hR.1.fr hF (by decide), hR.2.fr hF (by decide)⟩, (fun A hA => Eq.trans hq_7 (pif_neg (fun h8 => (show ¬ okPk (A 5 0 2) (A 5 0 3) x1 x2 by rw [← (show gi (C 0) 13 = A 5 0 2 from hA.1 2 (by decide)), ← (show gi (C 0) 15 = A 5 0 3 from hA.1 3 (by decide))]; exact u_4) h8.1)).symm)⟩⟩, ⟨by rw [ht]; exact hP, hD⟩⟩, hS.F ht⟩) hS.2.2 dX7_strain_33
  · have u_10 := hq_2.2.1 c_3
    refine lv_aload_n hx hb dX7_strain_9 rfl (lv_at hl 0 rfl) ?_
    refine lv_iload_n hx hb dX7_strain_10 rfl (lv_at hl 3 rfl) ?_
    refine tq_V (As := [.int x3]) (rest := []) (ws := (oh_W n a C)) ⟨hx, hb, hml, hown, htg⟩ (e_X7_isBridge l D E G a C n hn hT x3) (cwV 1 htg (oh_gV q_1098 q_1100 q_30 q_73 q_1101) rfl rfl rfl pdVX7_isBridge ⟨Nat.le_of_ble_eq_true rfl, Nat.le_of_ble_eq_true rfl⟩) hK hP hG hS (va_recv hK hP (ci := 7) (q0 := 0) rfl (oh_wg (Nat.lt_of_lt_of_le (by decide) hn) (sM_0 hT))) rfl hl.1 rfl (Nat.le_of_ble_eq_true rfl) dX7_strain_11 ⟨Nat.le_of_ble_eq_true rfl, Nat.le_of_ble_eq_true rfl⟩ (fun r_11 hq_12 => ?_)
    refine lv_if_eq (tgt := 27) hx hb dX7_strain_14 (by decide) (fun (c_13 : r_11 = 0) => ?_) (fun (c_13 : ¬ (r_11 = 0)) => ?_)
    · have u_14 := hq_12.2.2 c_13
      refine lv_aload_n hx hb dX7_strain_27 rfl (lv_at hl 0 rfl) ?_
      refine lv_bipush (v := (-2)) hx hb dX7_strain_28 (by decide) ?_
      refine tm_V (As := [.int (-2)]) (rest := []) ⟨hx, hb, hml, hown, htg⟩ (c_X7_refuse l D E G _ a C n hn hT ((-2) : Int32) (rg_w (rg_c (v := (-2)) (lo := (-2)) (hi := (-2)) (by decide)) (by decide))) (cwV 1 htg (oh_gV q_1071 q_1073 q_29 q_73 q_1074) rfl rfl rfl pdVX7_refuse ⟨Nat.le_of_ble_eq_true rfl, Nat.le_of_ble_eq_true rfl⟩) hK hP hD hG hS hA (va_recv hK hP (ci := 7) (q0 := 0) rfl (oh_wg (Nat.lt_of_lt_of_le (by decide) hn) (sM_0 hT))) rfl hl.1 rfl (Nat.le_of_ble_eq_true rfl) dX7_strain_30 ⟨Nat.le_of_ble_eq_true rfl, Nat.le_of_ble_eq_true rfl⟩ (fun r_15 C_16 H locs hq_17 hP hD hS => ?_)
      obtain ⟨hT, f_18, hq_17⟩ := hq_17
      have hF := fr_tr hF f_18 (by decide) (by decide)
      refine W.widen (k := 0) (n := 0) (Nat.le_refl _) (Nat.le_refl _) ?_
      have t_19 := hT
      rw [hQ]
      exact W.iret (v := r_15) hx hb hr (fun t ht hW => ⟨⟨r_15, C_16, rfl, ⟨hT, hF, ⟨⟨hR.1.fr hF (by decide), hR.2.fr hF (by decide)⟩, (fun A hA => Eq.trans hq_17 (pif_neg (fun h8 => by have h7 := h8.2; rw [← (show gi (C 0) 11 = A 5 0 1 from hA.1 1 (by decide))] at h7; exact u_14 h7)).symm)⟩⟩, ⟨by rw [ht]; exact hP, hD⟩⟩, hS.F ht⟩) hS.2.2 dX7_strain_33
    · have u_20 := hq_12.2.1 c_13
      refine lv_aload_n hx hb dX7_strain_17 rfl (lv_at hl 0 rfl) ?_
      refine lv_iload_n hx hb dX7_strain_18 rfl (lv_at hl 1 rfl) ?_
      refine lv_iload_n hx hb dX7_strain_19 rfl (lv_at hl 2 rfl) ?_
      refine lv_iload_n hx hb dX7_strain_20 rfl (lv_at hl 3 rfl) ?_
      refine tq_V (As := [.int x1, .int x2, .int x3]) (rest := []) (ws := (oh_W n a C)) ⟨hx, hb, hml, hown, htg⟩ (e_X7_strainOf l D E G a C n hn hT x1 x2 x3 (rg_w u_10.1 (by decide)) (rg_w u_20.1 (by decide)) u_10.2.1) (cwV 3 htg (oh_gV q_1302 q_1304 q_52 q_73 q_1305) rfl rfl rfl pdVX7_strainOf ⟨Nat.le_of_ble_eq_true rfl, Nat.le_of_ble_eq_true rfl⟩) hK hP hG hS (va_recv hK hP (ci := 7) (q0 := 0) rfl (oh_wg (Nat.lt_of_lt_of_le (by decide) hn) (sM_0 hT))) rfl hl.1 rfl (Nat.le_of_ble_eq_true rfl) dX7_strain_21 ⟨Nat.le_of_ble_eq_true rfl, Nat.le_of_ble_eq_true rfl⟩ (fun r_21 hq_22 => ?_)
      refine lv_goto (tgt := 33) hx hb dX7_strain_24 (by decide) ?_
      rw [hQ]
      exact W.iret (v := r_21) hx hb hr (fun t ht hW => ⟨⟨r_21, C, rfl, ⟨hT, hF, ⟨hR, (fun A hA => Eq.trans (by rw [hq_22 A hA, (show ga (C (64 + (x1).toNatClampNeg)) ((0 : Int32)).toNatClampNeg = A 2 x1.toNatClampNeg 0 from colM_v (t := 2) hA (by decide) (rg_w (lo := 0) (hi := 4) u_10.1 (by decide)) (by decide) (show okPk (A 5 0 2) (A 5 0 3) x1 x2 by rw [← (show gi (C 0) 13 = A 5 0 2 from hA.1 2 (by decide)), ← (show gi (C 0) 15 = A 5 0 3 from hA.1 3 (by decide))]; exact u_10.2.2.2).1.2 (by unfold vis; omega)), (show ga (C (64 + (x1).toNatClampNeg)) ((2 : Int32)).toNatClampNeg = A 2 x1.toNatClampNeg 2 from colM_v (t := 2) hA (by decide) (rg_w (lo := 0) (hi := 4) u_10.1 (by decide)) (by decide) (show okPk (A 5 0 2) (A 5 0 3) x1 x2 by rw [← (show gi (C 0) 13 = A 5 0 2 from hA.1 2 (by decide)), ← (show gi (C 0) 15 = A 5 0 3 from hA.1 3 (by decide))]; exact u_10.2.2.2).1.2 (by unfold vis; omega)), show ga (C 13) ((0 : Int32)).toNatClampNeg = A 4 0 0 from hA.2.1 0 (by decide), (show ga (C (64 + (x1).toNatClampNeg)) ((1 : Int32)).toNatClampNeg = A 2 x1.toNatClampNeg 1 from colM_v (t := 2) hA (by decide) (rg_w (lo := 0) (hi := 4) u_10.1 (by decide)) (by decide) (show okPk (A 5 0 2) (A 5 0 3) x1 x2 by rw [← (show gi (C 0) 13 = A 5 0 2 from hA.1 2 (by decide)), ← (show gi (C 0) 15 = A 5 0 3 from hA.1 3 (by decide))]; exact u_10.2.2.2).1.2 (by unfold vis; omega)), (show ga (C (48 + (x3).toNatClampNeg)) ((2 : Int32)).toNatClampNeg = A 1 x3.toNatClampNeg 2 from colM_v (t := 1) hA (by decide) (rg_w (lo := 0) (hi := 15) u_20.1 (by decide)) (by decide) (show 0 ≤ x3 ∧ x3 < A 5 0 1 by rw [← (show gi (C 0) 11 = A 5 0 1 from hA.1 1 (by decide))]; exact u_20.2).2 (by unfold vis; intro z; exact absurd z.2 (by decide)))]; rfl) (pif_pos ⟨(show okPk (A 5 0 2) (A 5 0 3) x1 x2 by rw [← (show gi (C 0) 13 = A 5 0 2 from hA.1 2 (by decide)), ← (show gi (C 0) 15 = A 5 0 3 from hA.1 3 (by decide))]; exact u_10.2.2.2), (show 0 ≤ x3 ∧ x3 < A 5 0 1 by rw [← (show gi (C 0) 11 = A 5 0 1 from hA.1 1 (by decide))]; exact u_20.2)⟩).symm)⟩⟩, ⟨by rw [ht]; exact hP, hD⟩⟩, hS.F ht⟩) hS.2.2 dX7_strain_33
/-! EXACT: show's answer -/
noncomputable def spShow (A : LA) (s b : Int32) : Int32 := pif ((0 ≤ s ∧ s ≤ 7) ∧ (b = -1 ∨ (0 ≤ b ∧ b < A 5 0 1))) 1 (-2)
/-! EXACT: what shelves hold (as holds() tells it), and rows' sizes -/
abbrev HZ := (Nat → Int32) × (Nat → Int32)
def rowH (h : Int32) : Prop := ¬ h = -1 ∧ ¬ (10 : Int32) ≤ h
def okH (h : Int32) : Prop := h = -1 ∨ (0 ≤ h ∧ h ≤ 4) ∨ (10 : Int32) ≤ h
def absHX (C : Nat → va_E) (S : HZ) : Prop := ∀ s, s < 8 → ga (C 29) s = S.1 s ∧ okH (S.1 s) ∧ (rowH (S.1 s) → ga (C 30) s = S.2 s)
def absHM (C : Nat → va_E) (S : HZ) : Prop := ∀ s, s < 8 → okH (S.1 s) ∧ (S.1 s = -1 → ga (C 1) s = 0) ∧ (rowH (S.1 s) → ga (C 1) s = 1 ∧ ga (C 2) s = S.1 s ∧ ga (C 3) s = S.2 s) ∧ ((10 : Int32) ≤ S.1 s → ga (C 1) s = 2 ∧ 10 + ga (C 6) s = S.1 s)
theorem rowH_4 {h : Int32} (h0 : 0 ≤ h) (h4 : h ≤ 4) : rowH h := ⟨fun e => by rw [e] at h0; exact absurd h0 (by decide), fun e => absurd (Int32.le_trans e h4) (by decide)⟩
theorem rowH_b {h : Int32} (e : (10 : Int32) ≤ h) : ¬ rowH h := fun q => q.2 e
theorem hx_row {C u : Nat → va_E} {S : HZ} {s : Nat} {t n : Int32} (h : absHX C S) (h0 : 0 ≤ t) (h4 : t ≤ 4) (e29 : ga (u 29) = upd (ga (C 29)) s t) (e30 : ga (u 30) = upd (ga (C 30)) s n) : absHX u (upd S.1 s t, upd S.2 s n) := by
  intro a ha
  obtain ⟨g1, g2, g3⟩ := h a ha
  show ga (u 29) a = upd S.1 s t a ∧ okH (upd S.1 s t a) ∧ (rowH (upd S.1 s t a) → ga (u 30) a = upd S.2 s n a)
  rw [e29, e30]
  by_cases q : a = s
  · rw [q, pk_us, pk_us, pk_us, pk_us]
    exact ⟨rfl, Or.inr (Or.inl ⟨h0, h4⟩), fun _ => rfl⟩
  · rw [pk_un q, pk_un q, pk_un q, pk_un q]
    exact ⟨g1, g2, g3⟩
theorem hx_put {C u : Nat → va_E} {S : HZ} {s : Nat} {t n : Int32} (h : absHX C S) (ht : okH t) (hn : ¬ rowH t) (e29 : ga (u 29) = upd (ga (C 29)) s t) (e30 : ga (u 30) = upd (ga (C 30)) s n) : absHX u (upd S.1 s t, S.2) := by
  intro a ha
  obtain ⟨g1, g2, g3⟩ := h a ha
  show ga (u 29) a = upd S.1 s t a ∧ okH (upd S.1 s t a) ∧ (rowH (upd S.1 s t a) → ga (u 30) a = S.2 a)
  rw [e29, e30]
  by_cases q : a = s
  · rw [q, pk_us, pk_us, pk_us]
    exact ⟨rfl, ht, fun z => absurd z hn⟩
  · rw [pk_un q, pk_un q, pk_un q]
    exact ⟨g1, g2, g3⟩
theorem hm_row {C u : Nat → va_E} {S : HZ} {s : Nat} {t n : Int32} (h : absHM C S) (h0 : 0 ≤ t) (h4 : t ≤ 4) (e1 : ga (u 1) = upd (ga (C 1)) s 1) (e2 : ga (u 2) = upd (ga (C 2)) s t) (e3 : ga (u 3) = upd (ga (C 3)) s n) (e6 : u 6 = C 6) : absHM u (upd S.1 s t, upd S.2 s n) := by
  intro a ha
  obtain ⟨g1, g2, g3, g4⟩ := h a ha
  show okH (upd S.1 s t a) ∧ (upd S.1 s t a = -1 → ga (u 1) a = 0) ∧ (rowH (upd S.1 s t a) → ga (u 1) a = 1 ∧ ga (u 2) a = upd S.1 s t a ∧ ga (u 3) a = upd S.2 s n a) ∧ ((10 : Int32) ≤ upd S.1 s t a → ga (u 1) a = 2 ∧ 10 + ga (u 6) a = upd S.1 s t a)
  rw [e1, e2, e3, e6]
  by_cases q : a = s
  · rw [q, pk_us, pk_us, pk_us, pk_us, pk_us]
    exact ⟨Or.inr (Or.inl ⟨h0, h4⟩), fun z => absurd z (rowH_4 h0 h4).1, fun _ => ⟨rfl, rfl, rfl⟩, fun z => absurd z (rowH_4 h0 h4).2⟩
  · rw [pk_un q, pk_un q, pk_un q, pk_un q, pk_un q]
    exact ⟨g1, g2, g3, g4⟩
noncomputable def cdB (b : Int32) : Int32 := pif (b = -1) (-1) (10 + b)
theorem cdB_ok {b : Int32} (h : b = -1 ∨ rg b 0 15) : okH (cdB b) ∧ ¬ rowH (cdB b) := by
  by_cases q : b = -1
  · have e : cdB b = -1 := pif_pos q
    rw [e]
    exact ⟨Or.inl rfl, fun z => z.1 rfl⟩
  · have e : cdB b = 10 + b := pif_neg q
    rw [e]
    rcases h with h | h
    · exact absurd h q
    · have e2 : (10 + b).toInt = 10 + b.toInt := by
        rw [Int32.toInt_add]
        exact oh_bmod (by show _ ≤ 10 + b.toInt; have := h.1; omega) (by show 10 + b.toInt ≤ _; have := h.2; omega)
      have l : (10 : Int32) ≤ 10 + b := Int32.le_iff_toInt_le.mpr (by show (10 : Int) ≤ _; rw [e2]; have := h.1; omega)
      exact ⟨Or.inr (Or.inr l), rowH_b l⟩
theorem hm_put {C u : Nat → va_E} {S : HZ} {s : Nat} {b k : Int32} (h : absHM C S) (hb : b = -1 ∨ rg b 0 15) (hk : k = pif (b = -1) 0 2) (e1 : ga (u 1) = upd (ga (C 1)) s k) (e6 : ga (u 6) = upd (ga (C 6)) s b) (e2 : u 2 = C 2) (e3 : u 3 = C 3) : absHM u (upd S.1 s (cdB b), S.2) := by
  obtain ⟨c1, c2⟩ := cdB_ok hb
  intro a ha
  obtain ⟨g1, g2, g3, g4⟩ := h a ha
  show okH (upd S.1 s (cdB b) a) ∧ (upd S.1 s (cdB b) a = -1 → ga (u 1) a = 0) ∧ (rowH (upd S.1 s (cdB b) a) → ga (u 1) a = 1 ∧ ga (u 2) a = upd S.1 s (cdB b) a ∧ ga (u 3) a = S.2 a) ∧ ((10 : Int32) ≤ upd S.1 s (cdB b) a → ga (u 1) a = 2 ∧ 10 + ga (u 6) a = upd S.1 s (cdB b) a)
  rw [e1, e2, e3, e6]
  by_cases q : a = s
  · rw [q, pk_us, pk_us, pk_us]
    refine ⟨c1, fun z => ?_, fun z => absurd z c2, fun z => ?_⟩
    · by_cases w : b = -1
      · rw [hk, pif_pos w]
      · have e : cdB b = 10 + b := pif_neg w
        rcases hb with hb | hb
        · exact absurd hb w
        · rw [e] at z
          have e2 : (10 + b).toInt = 10 + b.toInt := by
            rw [Int32.toInt_add]
            exact oh_bmod (by show _ ≤ 10 + b.toInt; have := hb.1; omega) (by show 10 + b.toInt ≤ _; have := hb.2; omega)
          rw [z] at e2
          have : (-1 : Int32).toInt = -1 := rfl
          have := hb.1
          omega
    · by_cases w : b = -1
      · have e : cdB b = -1 := pif_pos w
        rw [e] at z
        exact absurd z (by decide)
      · rw [hk, pif_neg w]
        exact ⟨rfl, (pif_neg w).symm⟩
  · rw [pk_un q, pk_un q, pk_un q]
    exact ⟨g1, g2, g3, g4⟩
noncomputable def spRw (S : HZ) (s t n : Int32) : HZ := pif ((0 ≤ s ∧ s ≤ 7) ∧ (0 ≤ t ∧ t ≤ 4) ∧ (0 ≤ n ∧ n ≤ 40)) (upd S.1 s.toNatClampNeg t, upd S.2 s.toNatClampNeg n) S
noncomputable def spSw (A : LA) (S : HZ) (s b : Int32) : HZ := pif ((0 ≤ s ∧ s ≤ 7) ∧ (b = -1 ∨ (0 ≤ b ∧ b < A 5 0 1))) (upd S.1 s.toNatClampNeg (cdB b), S.2) S
noncomputable def spHolds (S : HZ) (s : Int32) : Int32 := pif (0 ≤ s ∧ s ≤ 7) (S.1 s.toNatClampNeg) (-1)
theorem hx_fr {C u : Nat → va_E} {S : HZ} (h : absHX C S) (e29 : u 29 = C 29) (e30 : u 30 = C 30) : absHX u S := by
  intro a ha
  rw [e29, e30]
  exact h a ha
theorem hm_fr {C u : Nat → va_E} {S : HZ} (h : absHM C S) (e1 : u 1 = C 1) (e2 : u 2 = C 2) (e3 : u 3 = C 3) (e6 : u 6 = C 6) : absHM u S := by
  intro a ha
  rw [e1, e2, e3, e6]
  exact h a ha
theorem hm_k {C : Nat → va_E} {S : HZ} {s : Nat} (h : absHM C S) (hs : s < 8) : (ga (C 1) s = 0 ↔ S.1 s = -1) ∧ (ga (C 1) s = 1 ↔ rowH (S.1 s)) ∧ (ga (C 1) s = 2 ↔ (10 : Int32) ≤ S.1 s) := by
  obtain ⟨g1, g2, g3, g4⟩ := h s hs
  rcases g1 with g | g | g
  · have k := g2 g
    rw [k]
    exact ⟨⟨fun _ => g, fun _ => rfl⟩, ⟨fun z => absurd z (by decide), fun z => absurd g z.1⟩, ⟨fun z => absurd z (by decide), fun z => by rw [g] at z; exact absurd z (by decide)⟩⟩
  · have r := rowH_4 g.1 g.2
    have k := (g3 r).1
    rw [k]
    exact ⟨⟨fun z => absurd z (by decide), fun z => absurd z r.1⟩, ⟨fun _ => r, fun _ => rfl⟩, ⟨fun z => absurd z (by decide), fun z => absurd z r.2⟩⟩
  · have k := (g4 g).1
    rw [k]
    exact ⟨⟨fun z => absurd z (by decide), fun z => by rw [z] at g; exact absurd g (by decide)⟩, ⟨fun z => absurd z (by decide), fun z => absurd g z.2⟩, ⟨fun _ => g, fun _ => rfl⟩⟩

set_option maxHeartbeats 4000000 in
set_option maxRecDepth 100000 in
theorem e_X3_putRow (l : Launch) (D : va_G) (E : Nat → ClassId) (G : Nat → Nat) (sz : Nat) (a : Nat → Nat) (C : Nat → va_E) (hT : TyX a E C) (x1 : Int32) (x2 : Int32) (x3 : Int32) (hx1 : rg x1 0 7) (hx3 : rg x3 0 40) : Met l yX3_putRow (oh_w yX3_putRow cX3_putRow 5 none) ({ frames := 0, cells := 0, slots := 0, locals := 0 }) (oh_Pm D E G [.ref (a 4), .int x1, .int x2, .int x3] (oh_W 35 a C) sz) (va_Qv (fun (u : Nat → va_E) => TyX a E u ∧ fr [(29, 32)] [] C u ∧ (ga (u 29) = upd (ga (C 29)) x1.toNatClampNeg x2) ∧ (ga (u 30) = upd (ga (C 30)) x1.toNatClampNeg x3)) (oh_B D (va_A (oh_W 35 a C) sz) (fun u => oh_W 35 a u)) (va_A (oh_W 35 a C) sz)) 0 0 (va_A (oh_W 35 a C) sz) := by
  refine Met.ofW (cc := cX3_putRow) (maxL := 5) (ret := none) (by decide) rfl ?_
  intro p e s m args below meth c s₁ B hml hv
  obtain ⟨rfl, hsz, hP, hK, hD0, hG⟩ := hv
  have hx := B.exec
  have hb := B.bytes
  have hr := B.returns
  have hts := atoms_spec (ws := (oh_w yX3_putRow cX3_putRow 5 none)) B.pre
  have htg : ∀ w ∈ oh_t, w.before _ s = true := fun w h => hts w (List.mem_cons_of_mem _ h)
  have hown : s.vm.findClass RX3 = some m.cls := findClass_of_methodNamed B.named
  have hlocks := B.notSynchronized
  have hT0 := hT
  subst hsz
  have hD := hD0.self (sz := s.heap.size)
  generalize hAe : va_A (oh_W 35 a C) s.heap.size = A at hD hG ⊢
  have hA : ∀ q : Nat, s.heap.size ≤ q → A q := fun q h => by rw [← hAe]; exact Or.inr h
  have hS : va_S A s.heap s.heap [] := va_S.rf
  have hF : fr [(29, 32)] [] C C := fr_rf
  have hl := lv_entry ([.ref (a 4), .int x1, .int x2, .int x3]) (n := 5) (Nat.le_of_ble_eq_true rfl)
  rw [lg_entry_eq]
  generalize (lg_sl ([.ref (a 4), .int x1, .int x2, .int x3]) ++ List.replicate (5 - (lg_sl ([.ref (a 4), .int x1, .int x2, .int x3])).length) Slot.unset).toArray = ls at hl ⊢
  have hl : lv_has ls 5 [(0, .ref (a 4)), (1, .int x1), (2, .int x2), (3, .int x3)] := hl
  refine oh_genQ (fun Q hQ => ?_)
  refine lv_aload_n hx hb dX3_putRow_0 rfl (lv_at hl 0 rfl) ?_
  refine va_get (D := D) (ci := 3) (v := .ref (a 29)) (C := RX3) (T := TX3) (N := 3) hx hb htg ig_3 hown hK hP 4 (oh_wg (by decide) (sX_4 hT)) rfl 0 (by decide) (htg _ q_198) (fun _ h9 => h9) rfl dX3_putRow_1 ?_
  refine lv_iload_n hx hb dX3_putRow_4 rfl (lv_at hl 1 rfl) ?_
  refine lv_iload_n hx hb dX3_putRow_5 rfl (lv_at hl 2 rfl) ?_
  have n_1 : vp_in x1 8 := (rg_in hx1 (by decide))
  refine th_iast (T := TyX a E) (Rl := fr [(29, 32)] [] C) hx hb hK hP hD hS 29 (by decide) (sX_29 hT) n_1 (hT.up 29 (tA_upd (tX_29 hT) tA_any)) (fr_st hF (by decide) (by decide)) dX3_putRow_6 (fun C_2 H locs e_3 hT hF hP hD hS => ?_)
  have t_4 := hT
  refine lv_aload_n hx hb dX3_putRow_7 rfl (lv_at hl 0 rfl) ?_
  refine va_get (D := D) (ci := 3) (v := .ref (a 30)) (C := RX3) (T := TX3) (N := 3) hx hb htg ig_3 hown hK hP 4 (oh_wg (by decide) (sX_4 hT)) rfl 1 (by decide) (htg _ q_200) (fun _ h9 => h9) rfl dX3_putRow_8 ?_
  refine lv_iload_n hx hb dX3_putRow_11 rfl (lv_at hl 1 rfl) ?_
  refine lv_iload_n hx hb dX3_putRow_12 rfl (lv_at hl 3 rfl) ?_
  have n_5 : vp_in x1 8 := (rg_in hx1 (by decide))
  refine th_iast (T := TyX a E) (Rl := fr [(29, 32)] [] C) hx hb hK hP hD hS 30 (by decide) (sX_30 hT) n_5 (hT.up 30 (tA_upd (tX_30 hT) (tA_stc (Nat.mod_one _) hx3 (by decide)))) (fr_st hF (by decide) (by decide)) dX3_putRow_13 (fun C_6 H locs e_7 hT hF hP hD hS => ?_)
  have t_8 := hT
  refine lv_iconst (v := 0) hx hb dX3_putRow_14 (by decide) ?_
  refine lv_istore (lv' := [(4, .int 0), (0, .ref (a 4)), (1, .int x1), (2, .int x2), (3, .int x3)]) hx hb dX3_putRow_15 hl (by decide) rfl (fun ls hl => ?_)
  have L_17 : ∀ (d : Nat) (K17 : Nat → va_E) (z17_4 : Int32) (H : Heap) (locs : List Loc) (ls : Array Slot), (40 - z17_4.toInt).toNat = d → rg z17_4 0 40 → TyX a E K17 → fr [(29, 32)] [] C K17 → fr [(31, 32)] [] C_6 K17 → va_P D vwCl (oh_W 35 a K17) H → va_D A (oh_W 35 a K17) → va_S A s.heap H locs → lv_has ls 5 [(4, .int z17_4), (0, .ref (a 4)), (1, .int x1), (2, .int x2), (3, .int x3)] → W p l e ({ frames := 0, cells := 0, slots := 0, locals := 0 }) s m (([.ref (a 4), .int x1, .int x2, .int x3] : List Value).toArray) below meth c H locs 0 0 Q (F0 m 17 ls []) := by
    intro d
    induction d using Nat.strongRecOn with
    | ind d ih_17 =>
    intro K17 z17_4 H locs ls hd_17 hz17_4 hT hF hLF_17 hP hD hS hl
    have t_9 := hT
    refine lv_iload hx hb dX3_putRow_17 (lv_at hl 0 rfl) ?_
    refine lv_iload_n hx hb dX3_putRow_19 rfl (lv_at hl 4 rfl) ?_
    refine lv_icmp_ge (tgt := 42) hx hb dX3_putRow_20 (by decide) (fun (c_10 : x3 ≤ z17_4) => ?_) (fun (c_10 : ¬ (x3 ≤ z17_4)) => ?_)
    · rw [hQ]
      exact W.vret hx hb hr (fun t ht hW => ⟨⟨K17, rfl, ⟨hT, hF, ⟨(by rw [(Eq.trans (hLF_17.1 29 rfl (by decide)) (th_un e_7 (by decide))), (st_ga e_3)]), (by rw [(hLF_17.1 30 rfl (by decide)), (st_ga e_7), (th_un e_3 (by decide))])⟩⟩, ⟨by rw [ht]; exact hP, hD⟩⟩, hS.F ht⟩) hS.2.2 dX3_putRow_42
    · refine lv_aload_n hx hb dX3_putRow_23 rfl (lv_at hl 1 rfl) ?_
      refine va_get (D := D) (ci := 3) (v := .ref (a 31)) (C := RX3) (T := TX3) (N := 3) hx hb htg ig_3 hown hK hP 4 (oh_wg (by decide) (sX_4 hT)) rfl 2 (by decide) (htg _ q_202) (fun _ h9 => h9) rfl dX3_putRow_24 ?_
      refine lv_iload_n hx hb dX3_putRow_27 rfl (lv_at hl 2 rfl) ?_
      refine lv_bipush (v := 40) hx hb dX3_putRow_28 (by decide) ?_
      refine lv_imul hx hb dX3_putRow_30 ?_
      refine lv_iload hx hb dX3_putRow_31 (lv_at hl 0 rfl) ?_
      refine lv_iadd hx hb dX3_putRow_33 ?_
      refine lv_lconst (v := 0) hx hb dX3_putRow_34 (by decide) ?_
      have n_11 : vp_in ((x1 * 40) + z17_4) 320 := (rg_in (rg_add (lo := 0) (hi := 319) (rg_mul (lo := 0) (hi := 280) hx1 (rg_c (v := 40) (lo := 40) (hi := 40) (by decide)) (by decide)) (rn_ltu (u' := 39) (Int32.not_le.mp c_10) hz17_4 hx3 (by decide)) (by decide)) (by decide))
      refine th_last (T := TyX a E) (Rl := fr [(29, 32)] [] C) hx hb hK hP hD hS 31 (by decide) (sX_31 hT) n_11 (hT.up 31 rfl) (fr_st hF (by decide) (by decide)) dX3_putRow_35 (fun C_12 H locs e_13 hT hF hP hD hS => ?_)
      have t_14 := hT
      refine lv_iinc (v := z17_4 + 1) (lv' := [(4, .int (z17_4 + 1)), (0, .ref (a 4)), (1, .int x1), (2, .int x2), (3, .int x3)]) hx hb dX3_putRow_36 hl (k := 0) rfl (by rfl) (by decide) rfl (fun ls hl => ?_)
      refine lv_goto (tgt := 17) hx hb dX3_putRow_39 (by decide) ?_
      exact ih_17 _ (hd_17 ▸ mu_up 40 (rn_ltu (u' := 39) (Int32.not_le.mp c_10) hz17_4 hx3 (by decide)) (by decide)) C_12 (z17_4 + 1) _ _ ls rfl (rg_w (rg_add (lo := 1) (hi := 40) (rn_ltu (u' := 39) (Int32.not_le.mp c_10) hz17_4 hx3 (by decide)) (rg_c (v := 1) (lo := 1) (hi := 1) (by decide)) (by decide)) (by decide)) hT hF (fr_ste hLF_17 e_13 (by decide) (by decide)) hP hD hS (lv_sub hl [0, 1, 2, 3, 4] rfl)
  exact L_17 _ C_6 0 _ _ ls rfl (rg_w (rg_c (v := 0) (lo := 0) (hi := 0) (by decide)) (by decide)) hT hF fr_rf hP hD hS (lv_sub hl [0, 1, 2, 3, 4] rfl)

set_option maxHeartbeats 4000000 in
set_option maxRecDepth 100000 in
theorem e_X3_putBridge (l : Launch) (D : va_G) (E : Nat → ClassId) (G : Nat → Nat) (sz : Nat) (a : Nat → Nat) (C : Nat → va_E) (hT : TyX a E C) (x1 : Int32) (x2 : Int32) (hx1 : rg x1 0 7) : Met l yX3_putBridge (oh_w yX3_putBridge cX3_putBridge 3 none) ({ frames := 0, cells := 0, slots := 0, locals := 0 }) (oh_Pm D E G [.ref (a 4), .int x1, .int x2] (oh_W 35 a C) sz) (va_Qv (fun (u : Nat → va_E) => TyX a E u ∧ fr [(29, 31)] [] C u ∧ (ga (u 29) = upd (ga (C 29)) x1.toNatClampNeg (cdB x2)) ∧ (ga (u 30) = upd (ga (C 30)) x1.toNatClampNeg 0)) (oh_B D (va_A (oh_W 35 a C) sz) (fun u => oh_W 35 a u)) (va_A (oh_W 35 a C) sz)) 0 0 (va_A (oh_W 35 a C) sz) := by
  refine Met.ofW (cc := cX3_putBridge) (maxL := 3) (ret := none) (by decide) rfl ?_
  intro p e s m args below meth c s₁ B hml hv
  obtain ⟨rfl, hsz, hP, hK, hD0, hG⟩ := hv
  have hx := B.exec
  have hb := B.bytes
  have hr := B.returns
  have hts := atoms_spec (ws := (oh_w yX3_putBridge cX3_putBridge 3 none)) B.pre
  have htg : ∀ w ∈ oh_t, w.before _ s = true := fun w h => hts w (List.mem_cons_of_mem _ h)
  have hown : s.vm.findClass RX3 = some m.cls := findClass_of_methodNamed B.named
  have hlocks := B.notSynchronized
  have hT0 := hT
  subst hsz
  have hD := hD0.self (sz := s.heap.size)
  generalize hAe : va_A (oh_W 35 a C) s.heap.size = A at hD hG ⊢
  have hA : ∀ q : Nat, s.heap.size ≤ q → A q := fun q h => by rw [← hAe]; exact Or.inr h
  have hS : va_S A s.heap s.heap [] := va_S.rf
  have hF : fr [(29, 31)] [] C C := fr_rf
  have hl := lv_entry ([.ref (a 4), .int x1, .int x2]) (n := 3) (Nat.le_of_ble_eq_true rfl)
  rw [lg_entry_eq]
  generalize (lg_sl ([.ref (a 4), .int x1, .int x2]) ++ List.replicate (3 - (lg_sl ([.ref (a 4), .int x1, .int x2])).length) Slot.unset).toArray = ls at hl ⊢
  have hl : lv_has ls 3 [(0, .ref (a 4)), (1, .int x1), (2, .int x2)] := hl
  refine oh_genQ (fun Q hQ => ?_)
  refine lv_aload_n hx hb dX3_putBridge_0 rfl (lv_at hl 0 rfl) ?_
  refine va_get (D := D) (ci := 3) (v := .ref (a 29)) (C := RX3) (T := TX3) (N := 3) hx hb htg ig_3 hown hK hP 4 (oh_wg (by decide) (sX_4 hT)) rfl 0 (by decide) (htg _ q_198) (fun _ h9 => h9) rfl dX3_putBridge_1 ?_
  refine lv_iload_n hx hb dX3_putBridge_4 rfl (lv_at hl 1 rfl) ?_
  refine lv_iload_n hx hb dX3_putBridge_5 rfl (lv_at hl 2 rfl) ?_
  refine lv_iconst (v := (-1)) hx hb dX3_putBridge_6 (by decide) ?_
  refine lv_icmp_ne (tgt := 14) hx hb dX3_putBridge_7 (by decide) (fun (c_1 : ¬ (x2 = (-1))) => ?_) (fun (c_1 : x2 = (-1)) => ?_)
  · refine lv_bipush (v := 10) hx hb dX3_putBridge_14 (by decide) ?_
    refine lv_iload_n hx hb dX3_putBridge_16 rfl (lv_at hl 2 rfl) ?_
    refine lv_iadd hx hb dX3_putBridge_17 ?_
    have n_2 : vp_in x1 8 := (rg_in hx1 (by decide))
    refine th_iast (T := TyX a E) (Rl := fr [(29, 31)] [] C) hx hb hK hP hD hS 29 (by decide) (sX_29 hT) n_2 (hT.up 29 (tA_upd (tX_29 hT) tA_any)) (fr_st hF (by decide) (by decide)) dX3_putBridge_18 (fun C_3 H locs e_4 hT hF hP hD hS => ?_)
    have t_5 := hT
    refine lv_aload_n hx hb dX3_putBridge_19 rfl (lv_at hl 0 rfl) ?_
    refine va_get (D := D) (ci := 3) (v := .ref (a 30)) (C := RX3) (T := TX3) (N := 3) hx hb htg ig_3 hown hK hP 4 (oh_wg (by decide) (sX_4 hT)) rfl 1 (by decide) (htg _ q_200) (fun _ h9 => h9) rfl dX3_putBridge_20 ?_
    refine lv_iload_n hx hb dX3_putBridge_23 rfl (lv_at hl 1 rfl) ?_
    refine lv_iconst (v := 0) hx hb dX3_putBridge_24 (by decide) ?_
    have n_6 : vp_in x1 8 := (rg_in hx1 (by decide))
    refine th_iast (T := TyX a E) (Rl := fr [(29, 31)] [] C) hx hb hK hP hD hS 30 (by decide) (sX_30 hT) n_6 (hT.up 30 (tA_upd (tX_30 hT) (tA_stc (Nat.mod_one _) (rg_c (v := 0) (lo := 0) (hi := 0) (by decide)) (by decide)))) (fr_st hF (by decide) (by decide)) dX3_putBridge_25 (fun C_7 H locs e_8 hT hF hP hD hS => ?_)
    have t_9 := hT
    rw [hQ]
    exact W.vret hx hb hr (fun t ht hW => ⟨⟨C_7, rfl, ⟨hT, hF, ⟨(by rw [(th_un e_8 (by decide)), (st_ga e_4)]; exact congrArg (fun z => upd (ga (C 29)) x1.toNatClampNeg z) (pif_neg c_1).symm), (by rw [(st_ga e_8), (th_un e_4 (by decide))])⟩⟩, ⟨by rw [ht]; exact hP, hD⟩⟩, hS.F ht⟩) hS.2.2 dX3_putBridge_26
  · refine lv_iconst (v := (-1)) hx hb dX3_putBridge_10 (by decide) ?_
    refine lv_goto (tgt := 18) hx hb dX3_putBridge_11 (by decide) ?_
    have n_10 : vp_in x1 8 := (rg_in hx1 (by decide))
    refine th_iast (T := TyX a E) (Rl := fr [(29, 31)] [] C) hx hb hK hP hD hS 29 (by decide) (sX_29 hT) n_10 (hT.up 29 (tA_upd (tX_29 hT) tA_any)) (fr_st hF (by decide) (by decide)) dX3_putBridge_18 (fun C_11 H locs e_12 hT hF hP hD hS => ?_)
    have t_13 := hT
    refine lv_aload_n hx hb dX3_putBridge_19 rfl (lv_at hl 0 rfl) ?_
    refine va_get (D := D) (ci := 3) (v := .ref (a 30)) (C := RX3) (T := TX3) (N := 3) hx hb htg ig_3 hown hK hP 4 (oh_wg (by decide) (sX_4 hT)) rfl 1 (by decide) (htg _ q_200) (fun _ h9 => h9) rfl dX3_putBridge_20 ?_
    refine lv_iload_n hx hb dX3_putBridge_23 rfl (lv_at hl 1 rfl) ?_
    refine lv_iconst (v := 0) hx hb dX3_putBridge_24 (by decide) ?_
    have n_14 : vp_in x1 8 := (rg_in hx1 (by decide))
    refine th_iast (T := TyX a E) (Rl := fr [(29, 31)] [] C) hx hb hK hP hD hS 30 (by decide) (sX_30 hT) n_14 (hT.up 30 (tA_upd (tX_30 hT) (tA_stc (Nat.mod_one _) (rg_c (v := 0) (lo := 0) (hi := 0) (by decide)) (by decide)))) (fr_st hF (by decide) (by decide)) dX3_putBridge_25 (fun C_15 H locs e_16 hT hF hP hD hS => ?_)
    have t_17 := hT
    rw [hQ]
    exact W.vret hx hb hr (fun t ht hW => ⟨⟨C_15, rfl, ⟨hT, hF, ⟨(by rw [(th_un e_16 (by decide)), (st_ga e_12)]; exact congrArg (fun z => upd (ga (C 29)) x1.toNatClampNeg z) (pif_pos c_1).symm), (by rw [(st_ga e_16), (th_un e_12 (by decide))])⟩⟩, ⟨by rw [ht]; exact hP, hD⟩⟩, hS.F ht⟩) hS.2.2 dX3_putBridge_26

set_option maxHeartbeats 4000000 in
set_option maxRecDepth 100000 in
theorem e_X6_row (l : Launch) (D : va_G) (E : Nat → ClassId) (G : Nat → Nat) (sz : Nat) (a : Nat → Nat) (C : Nat → va_E) (hT : TyX a E C) (x1 : Int32) (x2 : Int32) (x3 : Int32) : Met l yX6_row (oh_w yX6_row cX6_row 4 (some .int)) ({ frames := 2, cells := 0, slots := 0, locals := 44 }) (oh_Pm D E G [.ref (a 0), .int x1, .int x2, .int x3] (oh_W 35 a C) sz) (va_Qi (fun r (u : Nat → va_E) => TyX a E u ∧ fr [(7, 8), (29, 32)] [] C u ∧ (r = oh_row x1 x2 x3) ∧ (∀ S : HZ, absHX C S → absHX u (spRw S x1 x2 x3))) (oh_B D (va_A (oh_W 35 a C) sz) (fun u => oh_W 35 a u)) (va_A (oh_W 35 a C) sz)) 0 0 (va_A (oh_W 35 a C) sz) := by
  refine Met.ofW (cc := cX6_row) (maxL := 4) (ret := (some .int)) (by decide) rfl ?_
  intro p e s m args below meth c s₁ B hml hv
  obtain ⟨rfl, hsz, hP, hK, hD0, hG⟩ := hv
  have hx := B.exec
  have hb := B.bytes
  have hr := B.returns
  have hts := atoms_spec (ws := (oh_w yX6_row cX6_row 4 (some .int))) B.pre
  have htg : ∀ w ∈ oh_t, w.before _ s = true := fun w h => hts w (List.mem_cons_of_mem _ h)
  have hown : s.vm.findClass RX6 = some m.cls := findClass_of_methodNamed B.named
  have hlocks := B.notSynchronized
  have hT0 := hT
  subst hsz
  have hD := hD0.self (sz := s.heap.size)
  generalize hAe : va_A (oh_W 35 a C) s.heap.size = A at hD hG ⊢
  have hA : ∀ q : Nat, s.heap.size ≤ q → A q := fun q h => by rw [← hAe]; exact Or.inr h
  have hS : va_S A s.heap s.heap [] := va_S.rf
  have hF : fr [(7, 8), (29, 32)] [] C C := fr_rf
  have hl := lv_entry ([.ref (a 0), .int x1, .int x2, .int x3]) (n := 4) (Nat.le_of_ble_eq_true rfl)
  rw [lg_entry_eq]
  generalize (lg_sl ([.ref (a 0), .int x1, .int x2, .int x3]) ++ List.replicate (4 - (lg_sl ([.ref (a 0), .int x1, .int x2, .int x3])).length) Slot.unset).toArray = ls at hl ⊢
  have hl : lv_has ls 4 [(0, .ref (a 0)), (1, .int x1), (2, .int x2), (3, .int x3)] := hl
  refine oh_genQ (fun Q hQ => ?_)
  refine lv_iload_n hx hb dX6_row_0 rfl (lv_at hl 1 rfl) ?_
  refine tq_S (As := [.int x1]) (rest := []) (ws := []) ⟨hx, hb, hml, hown, htg⟩ (c_X6_isShelf l D E G x1) (va_cwS 1 htg (oh_gS q_290 q_291 q_66 q_292) rfl rfl rfl pdX6_isShelf ⟨Nat.le_of_ble_eq_true rfl, Nat.le_of_ble_eq_true rfl⟩) hK va_nil hG hS rfl hl.1 rfl (Nat.le_of_ble_eq_true rfl) dX6_row_1 ⟨Nat.le_of_ble_eq_true rfl, Nat.le_of_ble_eq_true rfl⟩ (fun r_1 hq_2 => ?_)
  refine lv_if_eq (tgt := 26) hx hb dX6_row_4 (by decide) (fun (c_3 : r_1 = 0) => ?_) (fun (c_3 : ¬ (r_1 = 0)) => ?_)
  · have u_4 := hq_2.2.2 c_3
    refine lv_aload_n hx hb dX6_row_26 rfl (lv_at hl 0 rfl) ?_
    refine lv_bipush (v := (-2)) hx hb dX6_row_27 (by decide) ?_
    refine tm_V (As := [.int (-2)]) (rest := []) ⟨hx, hb, hml, hown, htg⟩ (c_X6_refuse l D E G _ a C hT ((-2) : Int32)) (cwV 1 htg (oh_gV q_296 q_298 q_0 q_66 q_299) rfl rfl rfl pdVX6_refuse ⟨Nat.le_of_ble_eq_true rfl, Nat.le_of_ble_eq_true rfl⟩) hK hP hD hG hS hA (va_recv hK hP (ci := 6) (q0 := 0) rfl (oh_wg (by decide) (sX_0 hT))) rfl hl.1 rfl (Nat.le_of_ble_eq_true rfl) dX6_row_29 ⟨Nat.le_of_ble_eq_true rfl, Nat.le_of_ble_eq_true rfl⟩ (fun r_5 C_6 H locs hq_7 hP hD hS => ?_)
    obtain ⟨hT, f_8, hq_7⟩ := hq_7
    have hF := fr_tr hF f_8 (by decide) (by decide)
    refine W.widen (k := 0) (n := 0) (Nat.le_refl _) (Nat.le_refl _) ?_
    have t_9 := hT
    rw [hQ]
    exact W.iret (v := r_5) hx hb hr (fun t ht hW => ⟨⟨r_5, C_6, rfl, ⟨hT, hF, ⟨(oh_row2 hq_7 (Or.inl u_4)), (fun S hS0 => by rw [show spRw S x1 x2 x3 = S from pif_neg (fun h8 => u_4 h8.1)]; exact (hx_fr hS0 (f_8.1 29 rfl (by decide)) (f_8.1 30 rfl (by decide))))⟩⟩, ⟨by rw [ht]; exact hP, hD⟩⟩, hS.F ht⟩) hS.2.2 dX6_row_32
  · have u_10 := hq_2.2.1 c_3
    refine lv_iload_n hx hb dX6_row_7 rfl (lv_at hl 2 rfl) ?_
    refine lv_iconst (v := 0) hx hb dX6_row_8 (by decide) ?_
    refine lv_iconst (v := 4) hx hb dX6_row_9 (by decide) ?_
    refine tq_S (As := [.int x2, .int 0, .int 4]) (rest := []) (ws := []) ⟨hx, hb, hml, hown, htg⟩ (c_X6_within l D E G x2 (0 : Int32) (4 : Int32)) (va_cwS 3 htg (oh_gS q_293 q_294 q_66 q_295) rfl rfl rfl pdX6_within ⟨Nat.le_of_ble_eq_true rfl, Nat.le_of_ble_eq_true rfl⟩) hK va_nil hG hS rfl hl.1 rfl (Nat.le_of_ble_eq_true rfl) dX6_row_10 ⟨Nat.le_of_ble_eq_true rfl, Nat.le_of_ble_eq_true rfl⟩ (fun r_11 hq_12 => ?_)
    refine lv_if_eq (tgt := 26) hx hb dX6_row_13 (by decide) (fun (c_13 : r_11 = 0) => ?_) (fun (c_13 : ¬ (r_11 = 0)) => ?_)
    · have u_14 := hq_12.2.2 c_13
      refine lv_aload_n hx hb dX6_row_26 rfl (lv_at hl 0 rfl) ?_
      refine lv_bipush (v := (-2)) hx hb dX6_row_27 (by decide) ?_
      refine tm_V (As := [.int (-2)]) (rest := []) ⟨hx, hb, hml, hown, htg⟩ (c_X6_refuse l D E G _ a C hT ((-2) : Int32)) (cwV 1 htg (oh_gV q_296 q_298 q_0 q_66 q_299) rfl rfl rfl pdVX6_refuse ⟨Nat.le_of_ble_eq_true rfl, Nat.le_of_ble_eq_true rfl⟩) hK hP hD hG hS hA (va_recv hK hP (ci := 6) (q0 := 0) rfl (oh_wg (by decide) (sX_0 hT))) rfl hl.1 rfl (Nat.le_of_ble_eq_true rfl) dX6_row_29 ⟨Nat.le_of_ble_eq_true rfl, Nat.le_of_ble_eq_true rfl⟩ (fun r_15 C_16 H locs hq_17 hP hD hS => ?_)
      obtain ⟨hT, f_18, hq_17⟩ := hq_17
      have hF := fr_tr hF f_18 (by decide) (by decide)
      refine W.widen (k := 0) (n := 0) (Nat.le_refl _) (Nat.le_refl _) ?_
      have t_19 := hT
      rw [hQ]
      exact W.iret (v := r_15) hx hb hr (fun t ht hW => ⟨⟨r_15, C_16, rfl, ⟨hT, hF, ⟨(oh_row2 hq_17 (Or.inr (Or.inl u_14))), (fun S hS0 => by rw [show spRw S x1 x2 x3 = S from pif_neg (fun h8 => u_14 h8.2.1)]; exact (hx_fr hS0 (f_18.1 29 rfl (by decide)) (f_18.1 30 rfl (by decide))))⟩⟩, ⟨by rw [ht]; exact hP, hD⟩⟩, hS.F ht⟩) hS.2.2 dX6_row_32
    · have u_20 := hq_12.2.1 c_13
      refine lv_iload_n hx hb dX6_row_16 rfl (lv_at hl 3 rfl) ?_
      refine lv_iconst (v := 0) hx hb dX6_row_17 (by decide) ?_
      refine lv_bipush (v := 40) hx hb dX6_row_18 (by decide) ?_
      refine tq_S (As := [.int x3, .int 0, .int 40]) (rest := []) (ws := []) ⟨hx, hb, hml, hown, htg⟩ (c_X6_within l D E G x3 (0 : Int32) (40 : Int32)) (va_cwS 3 htg (oh_gS q_293 q_294 q_66 q_295) rfl rfl rfl pdX6_within ⟨Nat.le_of_ble_eq_true rfl, Nat.le_of_ble_eq_true rfl⟩) hK va_nil hG hS rfl hl.1 rfl (Nat.le_of_ble_eq_true rfl) dX6_row_20 ⟨Nat.le_of_ble_eq_true rfl, Nat.le_of_ble_eq_true rfl⟩ (fun r_21 hq_22 => ?_)
      refine lv_if_ne (tgt := 33) hx hb dX6_row_23 (by decide) (fun (c_23 : ¬ (r_21 = 0)) => ?_) (fun (c_23 : r_21 = 0) => ?_)
      · have u_24 := hq_22.2.1 c_23
        refine lv_aload_n hx hb dX6_row_33 rfl (lv_at hl 0 rfl) ?_
        refine va_get (D := D) (ci := 6) (v := .ref (a 4)) (C := RX6) (T := TX6) (N := 9) hx hb htg ig_6 hown hK hP 0 (oh_wg (by decide) (sX_0 hT)) rfl 4 (by decide) (htg _ q_262) (fun _ h9 => h9) rfl dX6_row_34 ?_
        refine lv_iload_n hx hb dX6_row_37 rfl (lv_at hl 1 rfl) ?_
        refine lv_iload_n hx hb dX6_row_38 rfl (lv_at hl 2 rfl) ?_
        refine lv_iload_n hx hb dX6_row_39 rfl (lv_at hl 3 rfl) ?_
        refine tm_Vv (As := [.int x1, .int x2, .int x3]) (rest := []) ⟨hx, hb, hml, hown, htg⟩ (e_X3_putRow l D E G _ a C hT x1 x2 x3 (rg_w u_10 (by decide)) (rg_w (rn_leu u_24.2 (rn_lel u_24.1 (rg_c (v := 0) (lo := 0) (hi := 0) (by decide)) (rg_any _)) (rg_c (v := 40) (lo := 40) (hi := 40) (by decide))) (by decide))) (cwV 3 htg (oh_gV q_300 q_301 q_302 q_70 q_303) rfl rfl rfl pdVX3_putRow ⟨Nat.le_of_ble_eq_true rfl, Nat.le_of_ble_eq_true rfl⟩) hK hP hD hG hS hA (va_recv hK hP (ci := 3) (q0 := 4) rfl (oh_wg (by decide) (sX_4 hT))) rfl hl.1 rfl (Nat.le_of_ble_eq_true rfl) dX6_row_40 ⟨Nat.le_of_ble_eq_true rfl, Nat.le_of_ble_eq_true rfl⟩ (fun C_26 H locs hq_27 hP hD hS => ?_)
        obtain ⟨hT, f_28, hq_27⟩ := hq_27
        have hF := fr_tr hF f_28 (by decide) (by decide)
        refine W.widen (k := 0) (n := 0) (Nat.le_refl _) (Nat.le_refl _) ?_
        have t_29 := hT
        refine lv_iconst (v := 1) hx hb dX6_row_43 (by decide) ?_
        rw [hQ]
        exact W.iret (v := 1) hx hb hr (fun t ht hW => ⟨⟨1, C_26, rfl, ⟨hT, hF, ⟨(oh_row1 (rg_w u_10 (by decide)) (rg_w (rn_leu u_20.2 (rn_lel u_20.1 (rg_c (v := 0) (lo := 0) (hi := 0) (by decide)) (rg_any _)) (rg_c (v := 4) (lo := 4) (hi := 4) (by decide))) (by decide)) (rg_w (rn_leu u_24.2 (rn_lel u_24.1 (rg_c (v := 0) (lo := 0) (hi := 0) (by decide)) (rg_any _)) (rg_c (v := 40) (lo := 40) (hi := 40) (by decide))) (by decide))), (fun S hS0 => by rw [show spRw S x1 x2 x3 = _ from pif_pos ⟨(oh_rgI (p := 0) (q := 7) (rg_w (lo := 0) (hi := 7) u_10 (by decide))), (oh_rgI (p := 0) (q := 4) (rg_w (lo := 0) (hi := 4) (rn_leu u_20.2 (rn_lel u_20.1 (rg_c (v := 0) (lo := 0) (hi := 0) (by decide)) (rg_any _)) (rg_c (v := 4) (lo := 4) (hi := 4) (by decide))) (by decide))), (oh_rgI (p := 0) (q := 40) (rg_w (lo := 0) (hi := 40) (rn_leu u_24.2 (rn_lel u_24.1 (rg_c (v := 0) (lo := 0) (hi := 0) (by decide)) (rg_any _)) (rg_c (v := 40) (lo := 40) (hi := 40) (by decide))) (by decide)))⟩]; exact hx_row hS0 (oh_rgI (p := 0) (q := 4) (rg_w (lo := 0) (hi := 4) (rn_leu u_20.2 (rn_lel u_20.1 (rg_c (v := 0) (lo := 0) (hi := 0) (by decide)) (rg_any _)) (rg_c (v := 4) (lo := 4) (hi := 4) (by decide))) (by decide))).1 (oh_rgI (p := 0) (q := 4) (rg_w (lo := 0) (hi := 4) (rn_leu u_20.2 (rn_lel u_20.1 (rg_c (v := 0) (lo := 0) (hi := 0) (by decide)) (rg_any _)) (rg_c (v := 4) (lo := 4) (hi := 4) (by decide))) (by decide))).2 hq_27.1 hq_27.2)⟩⟩, ⟨by rw [ht]; exact hP, hD⟩⟩, hS.F ht⟩) hS.2.2 dX6_row_44
      · have u_30 := hq_22.2.2 c_23
        refine lv_aload_n hx hb dX6_row_26 rfl (lv_at hl 0 rfl) ?_
        refine lv_bipush (v := (-2)) hx hb dX6_row_27 (by decide) ?_
        refine tm_V (As := [.int (-2)]) (rest := []) ⟨hx, hb, hml, hown, htg⟩ (c_X6_refuse l D E G _ a C hT ((-2) : Int32)) (cwV 1 htg (oh_gV q_296 q_298 q_0 q_66 q_299) rfl rfl rfl pdVX6_refuse ⟨Nat.le_of_ble_eq_true rfl, Nat.le_of_ble_eq_true rfl⟩) hK hP hD hG hS hA (va_recv hK hP (ci := 6) (q0 := 0) rfl (oh_wg (by decide) (sX_0 hT))) rfl hl.1 rfl (Nat.le_of_ble_eq_true rfl) dX6_row_29 ⟨Nat.le_of_ble_eq_true rfl, Nat.le_of_ble_eq_true rfl⟩ (fun r_31 C_32 H locs hq_33 hP hD hS => ?_)
        obtain ⟨hT, f_34, hq_33⟩ := hq_33
        have hF := fr_tr hF f_34 (by decide) (by decide)
        refine W.widen (k := 0) (n := 0) (Nat.le_refl _) (Nat.le_refl _) ?_
        have t_35 := hT
        rw [hQ]
        exact W.iret (v := r_31) hx hb hr (fun t ht hW => ⟨⟨r_31, C_32, rfl, ⟨hT, hF, ⟨(oh_row2 hq_33 (Or.inr (Or.inr u_30))), (fun S hS0 => by rw [show spRw S x1 x2 x3 = S from pif_neg (fun h8 => u_30 h8.2.2)]; exact (hx_fr hS0 (f_34.1 29 rfl (by decide)) (f_34.1 30 rfl (by decide))))⟩⟩, ⟨by rw [ht]; exact hP, hD⟩⟩, hS.F ht⟩) hS.2.2 dX6_row_32
