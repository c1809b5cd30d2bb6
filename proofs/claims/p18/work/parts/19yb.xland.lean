/-! EXACT: a row of a table is written -/
def rwf (l : List Int32) : Nat → Int32 := fun j => l.getD j 0
def rowPt (w i m : Nat) (v f g : Nat → Int32) : Prop := (∀ j, j < m → g (i * w + j) = v j) ∧ ∀ k, (k < i * w ∨ i * w + w ≤ k) → g k = f k
theorem rowPt_0 {w i : Nat} {v f : Nat → Int32} : rowPt w i 0 v f f := ⟨fun j hj => absurd hj (Nat.not_lt_zero j), fun _ _ => rfl⟩
theorem rowPt_s {w i m ix : Nat} {v f g : Nat → Int32} {x : Int32} (h : rowPt w i m v f g) (hm : m < w) (hx : x = v m) (hi : ix = i * w + m) : rowPt w i (m + 1) v f (upd g ix x) := by
  subst hi
  refine ⟨fun j hj => ?_, fun k hk => ?_⟩
  · by_cases e : j = m
    · rw [e, pk_us, hx]
    · rw [pk_un (by omega)]
      exact h.1 j (by omega)
  · rw [pk_un (by omega)]
    exact h.2 k hk
theorem rowPt_st {w i m ix k N : Nat} {v f : Nat → Int32} {x : Int32} {cA : ClassId} {C C2 : Nat → va_E} (h : rowPt w i m v f (ga (C k))) (e : C2 = updc C k (.inl (cA, N, .inl (upd (ga (C k)) ix x)))) (hm : m < w) (hx : x = v m) (hi : ix = i * w + m) : rowPt w i (m + 1) v f (ga (C2 k)) := by
  rw [st_ga e]
  exact rowPt_s h hm hx hi
theorem rowPt_c {w i m k : Nat} {v f : Nat → Int32} {C C2 : Nat → va_E} (h : rowPt w i m v f (ga (C k))) (e : C2 k = C k) : rowPt w i m v f (ga (C2 k)) := by rw [e]; exact h
theorem oh_rix {c W J : Int32} {u : Int} {w j : Nat} (hc : rg c 0 u) (hW : W.toInt = (w : Int)) (hJ : J.toInt = (j : Int)) (hd : decide (u * w + j ≤ 2147483647 ∧ 0 ≤ u) = true) : (c * W + J).toNatClampNeg = c.toNatClampNeg * w + j := by
  have h2 := of_decide_eq_true hd
  obtain ⟨b1, b2⟩ := hc
  have hw : (0 : Int) ≤ (w : Int) := Int.natCast_nonneg w
  have m1 : 0 ≤ c.toInt * (w : Int) := Int.mul_nonneg b1 hw
  have m2 : c.toInt * (w : Int) ≤ u * (w : Int) := Int.mul_le_mul_of_nonneg_right b2 hw
  have e1 : (c * W).toInt = c.toInt * (w : Int) := by rw [Int32.toInt_mul, hW, oh_bmod (by omega) (by omega)]
  have e2 : (c * W + J).toInt = c.toInt * (w : Int) + (j : Int) := by rw [Int32.toInt_add, e1, hJ, oh_bmod (by omega) (by omega)]
  show (c * W + J).toInt.toNat = c.toInt.toNat * w + j
  rw [e2]
  have : ((c.toInt.toNat * w + j : Nat) : Int) = c.toInt * (w : Int) + (j : Int) := by
    rw [Int.natCast_add, Int.natCast_mul, Int.toNat_of_nonneg b1]
  omega
theorem oh_rixz {c W z : Int32} {u uz : Int} {w : Nat} (hc : rg c 0 u) (hW : W.toInt = (w : Int)) (hz : rg z 0 uz) (hd : decide (u * w + uz ≤ 2147483647 ∧ 0 ≤ u) = true) : (c * W + z).toNatClampNeg = c.toNatClampNeg * w + z.toNatClampNeg := by
  have h2 := of_decide_eq_true hd
  obtain ⟨b1, b2⟩ := hc
  obtain ⟨z1, z2⟩ := hz
  have hw : (0 : Int) ≤ (w : Int) := Int.natCast_nonneg w
  have m1 : 0 ≤ c.toInt * (w : Int) := Int.mul_nonneg b1 hw
  have m2 : c.toInt * (w : Int) ≤ u * (w : Int) := Int.mul_le_mul_of_nonneg_right b2 hw
  have e1 : (c * W).toInt = c.toInt * (w : Int) := by rw [Int32.toInt_mul, hW, oh_bmod (by omega) (by omega)]
  have e2 : (c * W + z).toInt = c.toInt * (w : Int) + z.toInt := by rw [Int32.toInt_add, e1, oh_bmod (by omega) (by omega)]
  show (c * W + z).toInt.toNat = c.toInt.toNat * w + z.toInt.toNat
  rw [e2]
  have : ((c.toInt.toNat * w : Nat) : Int) = c.toInt * (w : Int) := by
    rw [Int.natCast_mul, Int.toNat_of_nonneg b1]
  omega
theorem rowPt_z {w i ix k N : Nat} {v f : Nat → Int32} {x z : Int32} {uz : Int} {cA : ClassId} {C C2 : Nat → va_E} (h : rowPt w i z.toNatClampNeg v f (ga (C k))) (e : C2 = updc C k (.inl (cA, N, .inl (upd (ga (C k)) ix x)))) (hz : rg z 0 uz) (hu : decide (uz < (w : Int) ∧ uz ≤ 1000) = true) (hx : x = v z.toNatClampNeg) (hi : ix = i * w + z.toNatClampNeg) : rowPt w i (z + 1).toNatClampNeg v f (ga (C2 k)) := by
  have hu2 := of_decide_eq_true hu
  have e2 := oh_nat hz (by decide)
  have e1 : (z + 1).toInt = z.toInt + 1 := by
    rw [Int32.toInt_add]
    exact oh_bmod (by show _ ≤ z.toInt + 1; have := hz.1; omega) (by show z.toInt + 1 ≤ _; have := hz.2; omega)
  have e3 : (z + 1).toNatClampNeg = z.toNatClampNeg + 1 := by
    show (z + 1).toInt.toNat = z.toInt.toNat + 1
    rw [e1]
    have := hz.1
    omega
  rw [e3]
  exact rowPt_st h e (by have := hz.2; omega) hx hi
theorem rwf5 {a b c d e : Int32} {k : Nat} (h : 5 ≤ k) (h2 : k < 10) : (0 : Int32) = rwf [a, b, c, d, e, 0, 0, 0, 0, 0] k := by
  rcases (show k = 5 ∨ k = 6 ∨ k = 7 ∨ k = 8 ∨ k = 9 by omega) with rfl | rfl | rfl | rfl | rfl <;> rfl
theorem oh_zeq {z : Int32} {k : Int32} {l u : Int} (hz : rg z l u) (c : k ≤ z) (hd : decide (u ≤ k.toInt) = true) : z = k := by
  have h2 := of_decide_eq_true hd
  have := Int32.le_iff_toInt_le.mp c
  have := hz.2
  exact Int32.toInt_inj.mp (by omega)
/-- more columns of a row that was written -/
theorem rowPt_2 {w i j1 j2 : Nat} {v v2 f g : Nat → Int32} {x1 x2 : Int32} (h : rowPt w i w v f g) (h1 : j1 < w) (h2 : j2 < w) (hne : j1 ≠ j2) (e1 : x1 = v2 j1) (e2 : x2 = v2 j2) (ev : ∀ j, j < w → j ≠ j1 → j ≠ j2 → v j = v2 j) : rowPt w i w v2 f (upd (upd g (i * w + j1) x1) (i * w + j2) x2) := by
  refine ⟨fun j hj => ?_, fun k hk => ?_⟩
  · by_cases q2 : j = j2
    · rw [q2, pk_us, e2]
    · rw [pk_un (by omega)]
      by_cases q1 : j = j1
      · rw [q1, pk_us, e1]
      · rw [pk_un (by omega), h.1 j hj]
        exact ev j hj q1 q2
  · rw [pk_un (by omega), pk_un (by omega)]
    exact h.2 k hk
theorem rowPt_end {w i : Nat} {v f g : Nat → Int32} {z W : Int32} (h : rowPt w i z.toNatClampNeg v f g) (e : z = W) (hW : W.toNatClampNeg = w) : rowPt w i w v f g := by
  rw [e, hW] at h
  exact h

set_option maxHeartbeats 4000000 in
set_option maxRecDepth 100000 in
theorem e_X0_addRoad (l : Launch) (D : va_G) (E : Nat → ClassId) (G : Nat → Nat) (sz : Nat) (a : Nat → Nat) (C : Nat → va_E) (hT : TyX a E C) (x1 : Int32) (x2 : Int32) (x3 : Int32) (x4 : Int32) (x5 : Int32) (x6 : Int32) (hx1 : rg x1 0 15) (hx2 : rg x2 0 15) (hroom : rg (ga (C 10) ((0 : Int32)).toNatClampNeg) 0 23) : Met l yX0_addRoad (oh_w yX0_addRoad cX0_addRoad 8 (some .int)) ({ frames := 0, cells := 0, slots := 0, locals := 0 }) (oh_Pm D E G [.ref (a 1), .int x1, .int x2, .int x3, .int x4, .int x5, .int x6] (oh_W 35 a C) sz) (va_Qi (fun r (u : Nat → va_E) => TyX a E u ∧ fr [(10, 12)] [] C u ∧ (r = ga (C 10) ((0 : Int32)).toNatClampNeg) ∧ (ga (u 10) = upd (ga (C 10)) ((0 : Int32)).toNatClampNeg (ga (C 10) ((0 : Int32)).toNatClampNeg + 1)) ∧ (rowPt 7 (ga (C 10) ((0 : Int32)).toNatClampNeg).toNatClampNeg 7 (rwf [x1, x2, x3, x4, x5, x6, 0]) (ga (C 11)) (ga (u 11)))) (oh_B D (va_A (oh_W 35 a C) sz) (fun u => oh_W 35 a u)) (va_A (oh_W 35 a C) sz)) 0 0 (va_A (oh_W 35 a C) sz) := by
  refine Met.ofW (cc := cX0_addRoad) (maxL := 8) (ret := (some .int)) (by decide) rfl ?_
  intro p e s m args below meth c s₁ B hml hv
  obtain ⟨rfl, hsz, hP, hK, hD0, hG⟩ := hv
  have hx := B.exec
  have hb := B.bytes
  have hr := B.returns
  have hts := atoms_spec (ws := (oh_w yX0_addRoad cX0_addRoad 8 (some .int))) B.pre
  have htg : ∀ w ∈ oh_t, w.before _ s = true := fun w h => hts w (List.mem_cons_of_mem _ h)
  have hown : s.vm.findClass RX0 = some m.cls := findClass_of_methodNamed B.named
  have hlocks := B.notSynchronized
  have hT0 := hT
  subst hsz
  have hD := hD0.self (sz := s.heap.size)
  generalize hAe : va_A (oh_W 35 a C) s.heap.size = A at hD hG ⊢
  have hA : ∀ q : Nat, s.heap.size ≤ q → A q := fun q h => by rw [← hAe]; exact Or.inr h
  have hS : va_S A s.heap s.heap [] := va_S.rf
  have hF : fr [(10, 12)] [] C C := fr_rf
  have hl := lv_entry ([.ref (a 1), .int x1, .int x2, .int x3, .int x4, .int x5, .int x6]) (n := 8) (Nat.le_of_ble_eq_true rfl)
  rw [lg_entry_eq]
  generalize (lg_sl ([.ref (a 1), .int x1, .int x2, .int x3, .int x4, .int x5, .int x6]) ++ List.replicate (8 - (lg_sl ([.ref (a 1), .int x1, .int x2, .int x3, .int x4, .int x5, .int x6])).length) Slot.unset).toArray = ls at hl ⊢
  have hl : lv_has ls 8 [(0, .ref (a 1)), (1, .int x1), (2, .int x2), (3, .int x3), (4, .int x4), (5, .int x5), (6, .int x6)] := hl
  refine oh_genQ (fun Q hQ => ?_)
  refine lv_aload_n hx hb dX0_addRoad_0 rfl (lv_at hl 0 rfl) ?_
  refine va_get (D := D) (ci := 0) (v := .ref (a 10)) (C := RX0) (T := TX0) (N := 8) hx hb htg ig_0 hown hK hP 1 (oh_wg (by decide) (sX_1 hT)) rfl 0 (by decide) (htg _ q_97) (fun _ h9 => h9) rfl dX0_addRoad_1 ?_
  refine lv_iconst (v := 0) hx hb dX0_addRoad_4 (by decide) ?_
  refine th_iald hx hb hK hP 10 (by decide) (sX_10 hT) (rg_in (rg_c (v := 0) (lo := 0) (hi := 0) (by decide)) (by decide)) dX0_addRoad_5 ?_
  refine lv_bipush (v := 7) hx hb dX0_addRoad_6 (by decide) ?_
  refine lv_imul hx hb dX0_addRoad_8 ?_
  refine lv_istore (lv' := [(7, .int ((ga (C 10) ((0 : Int32)).toNatClampNeg) * 7)), (0, .ref (a 1)), (1, .int x1), (2, .int x2), (3, .int x3), (4, .int x4), (5, .int x5), (6, .int x6)]) hx hb dX0_addRoad_9 hl (by decide) rfl (fun ls hl => ?_)
  refine lv_aload_n hx hb dX0_addRoad_11 rfl (lv_at hl 1 rfl) ?_
  refine va_get (D := D) (ci := 0) (v := .ref (a 11)) (C := RX0) (T := TX0) (N := 8) hx hb htg ig_0 hown hK hP 1 (oh_wg (by decide) (sX_1 hT)) rfl 1 (by decide) (htg _ q_101) (fun _ h9 => h9) rfl dX0_addRoad_12 ?_
  refine lv_iload hx hb dX0_addRoad_15 (lv_at hl 0 rfl) ?_
  refine lv_iconst (v := 0) hx hb dX0_addRoad_17 (by decide) ?_
  refine lv_iadd hx hb dX0_addRoad_18 ?_
  refine lv_iload_n hx hb dX0_addRoad_19 rfl (lv_at hl 2 rfl) ?_
  have n_1 : vp_in (((ga (C 10) ((0 : Int32)).toNatClampNeg) * 7) + 0) 168 := (rg_in (rg_add (lo := 0) (hi := 161) (rg_mul (lo := 0) (hi := 161) hroom (rg_c (v := 7) (lo := 7) (hi := 7) (by decide)) (by decide)) (rg_c (v := 0) (lo := 0) (hi := 0) (by decide)) (by decide)) (by decide))
  refine th_iast (T := TyX a E) (Rl := fr [(10, 12)] [] C) hx hb hK hP hD hS 11 (by decide) (sX_11 hT) n_1 (hT.up 11 (tA_upd (tX_11 hT) (tA_stc (oh_col (W := 7) hroom rfl (rg_c (v := 0) (lo := 0) (hi := 0) (by decide)) (by decide)) hx1 (by decide)))) (fr_st hF (by decide) (by decide)) dX0_addRoad_20 (fun C_2 H locs e_3 hT hF hP hD hS => ?_)
  have t_4 := hT
  refine lv_aload_n hx hb dX0_addRoad_21 rfl (lv_at hl 1 rfl) ?_
  refine va_get (D := D) (ci := 0) (v := .ref (a 11)) (C := RX0) (T := TX0) (N := 8) hx hb htg ig_0 hown hK hP 1 (oh_wg (by decide) (sX_1 hT)) rfl 1 (by decide) (htg _ q_101) (fun _ h9 => h9) rfl dX0_addRoad_22 ?_
  refine lv_iload hx hb dX0_addRoad_25 (lv_at hl 0 rfl) ?_
  refine lv_iconst (v := 1) hx hb dX0_addRoad_27 (by decide) ?_
  refine lv_iadd hx hb dX0_addRoad_28 ?_
  refine lv_iload_n hx hb dX0_addRoad_29 rfl (lv_at hl 3 rfl) ?_
  have n_5 : vp_in (((ga (C 10) ((0 : Int32)).toNatClampNeg) * 7) + 1) 168 := (rg_in (rg_add (lo := 1) (hi := 162) (rg_mul (lo := 0) (hi := 161) hroom (rg_c (v := 7) (lo := 7) (hi := 7) (by decide)) (by decide)) (rg_c (v := 1) (lo := 1) (hi := 1) (by decide)) (by decide)) (by decide))
  refine th_iast (T := TyX a E) (Rl := fr [(10, 12)] [] C) hx hb hK hP hD hS 11 (by decide) (sX_11 hT) n_5 (hT.up 11 (tA_upd (tX_11 hT) (tA_stc (oh_col (W := 7) hroom rfl (rg_c (v := 1) (lo := 1) (hi := 1) (by decide)) (by decide)) hx2 (by decide)))) (fr_st hF (by decide) (by decide)) dX0_addRoad_30 (fun C_6 H locs e_7 hT hF hP hD hS => ?_)
  have t_8 := hT
  refine lv_aload_n hx hb dX0_addRoad_31 rfl (lv_at hl 1 rfl) ?_
  refine va_get (D := D) (ci := 0) (v := .ref (a 11)) (C := RX0) (T := TX0) (N := 8) hx hb htg ig_0 hown hK hP 1 (oh_wg (by decide) (sX_1 hT)) rfl 1 (by decide) (htg _ q_101) (fun _ h9 => h9) rfl dX0_addRoad_32 ?_
  refine lv_iload hx hb dX0_addRoad_35 (lv_at hl 0 rfl) ?_
  refine lv_iconst (v := 2) hx hb dX0_addRoad_37 (by decide) ?_
  refine lv_iadd hx hb dX0_addRoad_38 ?_
  refine lv_iload_n hx hb dX0_addRoad_39 rfl (lv_at hl 4 rfl) ?_
  have n_9 : vp_in (((ga (C 10) ((0 : Int32)).toNatClampNeg) * 7) + 2) 168 := (rg_in (rg_add (lo := 2) (hi := 163) (rg_mul (lo := 0) (hi := 161) hroom (rg_c (v := 7) (lo := 7) (hi := 7) (by decide)) (by decide)) (rg_c (v := 2) (lo := 2) (hi := 2) (by decide)) (by decide)) (by decide))
  refine th_iast (T := TyX a E) (Rl := fr [(10, 12)] [] C) hx hb hK hP hD hS 11 (by decide) (sX_11 hT) n_9 (hT.up 11 (tA_upd (tX_11 hT) (tA_stc (oh_col (W := 7) hroom rfl (rg_c (v := 2) (lo := 2) (hi := 2) (by decide)) (by decide)) (rg_any _) (by decide)))) (fr_st hF (by decide) (by decide)) dX0_addRoad_40 (fun C_10 H locs e_11 hT hF hP hD hS => ?_)
  have t_12 := hT
  refine lv_aload_n hx hb dX0_addRoad_41 rfl (lv_at hl 1 rfl) ?_
  refine va_get (D := D) (ci := 0) (v := .ref (a 11)) (C := RX0) (T := TX0) (N := 8) hx hb htg ig_0 hown hK hP 1 (oh_wg (by decide) (sX_1 hT)) rfl 1 (by decide) (htg _ q_101) (fun _ h9 => h9) rfl dX0_addRoad_42 ?_
  refine lv_iload hx hb dX0_addRoad_45 (lv_at hl 0 rfl) ?_
  refine lv_iconst (v := 3) hx hb dX0_addRoad_47 (by decide) ?_
  refine lv_iadd hx hb dX0_addRoad_48 ?_
  refine lv_iload hx hb dX0_addRoad_49 (lv_at hl 5 rfl) ?_
  have n_13 : vp_in (((ga (C 10) ((0 : Int32)).toNatClampNeg) * 7) + 3) 168 := (rg_in (rg_add (lo := 3) (hi := 164) (rg_mul (lo := 0) (hi := 161) hroom (rg_c (v := 7) (lo := 7) (hi := 7) (by decide)) (by decide)) (rg_c (v := 3) (lo := 3) (hi := 3) (by decide)) (by decide)) (by decide))
  refine th_iast (T := TyX a E) (Rl := fr [(10, 12)] [] C) hx hb hK hP hD hS 11 (by decide) (sX_11 hT) n_13 (hT.up 11 (tA_upd (tX_11 hT) (tA_stc (oh_col (W := 7) hroom rfl (rg_c (v := 3) (lo := 3) (hi := 3) (by decide)) (by decide)) (rg_any _) (by decide)))) (fr_st hF (by decide) (by decide)) dX0_addRoad_51 (fun C_14 H locs e_15 hT hF hP hD hS => ?_)
  have t_16 := hT
  refine lv_aload_n hx hb dX0_addRoad_52 rfl (lv_at hl 1 rfl) ?_
  refine va_get (D := D) (ci := 0) (v := .ref (a 11)) (C := RX0) (T := TX0) (N := 8) hx hb htg ig_0 hown hK hP 1 (oh_wg (by decide) (sX_1 hT)) rfl 1 (by decide) (htg _ q_101) (fun _ h9 => h9) rfl dX0_addRoad_53 ?_
  refine lv_iload hx hb dX0_addRoad_56 (lv_at hl 0 rfl) ?_
  refine lv_iconst (v := 4) hx hb dX0_addRoad_58 (by decide) ?_
  refine lv_iadd hx hb dX0_addRoad_59 ?_
  refine lv_iload hx hb dX0_addRoad_60 (lv_at hl 6 rfl) ?_
  have n_17 : vp_in (((ga (C 10) ((0 : Int32)).toNatClampNeg) * 7) + 4) 168 := (rg_in (rg_add (lo := 4) (hi := 165) (rg_mul (lo := 0) (hi := 161) hroom (rg_c (v := 7) (lo := 7) (hi := 7) (by decide)) (by decide)) (rg_c (v := 4) (lo := 4) (hi := 4) (by decide)) (by decide)) (by decide))
  refine th_iast (T := TyX a E) (Rl := fr [(10, 12)] [] C) hx hb hK hP hD hS 11 (by decide) (sX_11 hT) n_17 (hT.up 11 (tA_upd (tX_11 hT) (tA_stc (oh_col (W := 7) hroom rfl (rg_c (v := 4) (lo := 4) (hi := 4) (by decide)) (by decide)) (rg_any _) (by decide)))) (fr_st hF (by decide) (by decide)) dX0_addRoad_62 (fun C_18 H locs e_19 hT hF hP hD hS => ?_)
  have t_20 := hT
  refine lv_aload_n hx hb dX0_addRoad_63 rfl (lv_at hl 1 rfl) ?_
  refine va_get (D := D) (ci := 0) (v := .ref (a 11)) (C := RX0) (T := TX0) (N := 8) hx hb htg ig_0 hown hK hP 1 (oh_wg (by decide) (sX_1 hT)) rfl 1 (by decide) (htg _ q_101) (fun _ h9 => h9) rfl dX0_addRoad_64 ?_
  refine lv_iload hx hb dX0_addRoad_67 (lv_at hl 0 rfl) ?_
  refine lv_iconst (v := 5) hx hb dX0_addRoad_69 (by decide) ?_
  refine lv_iadd hx hb dX0_addRoad_70 ?_
  refine lv_iload hx hb dX0_addRoad_71 (lv_at hl 7 rfl) ?_
  have n_21 : vp_in (((ga (C 10) ((0 : Int32)).toNatClampNeg) * 7) + 5) 168 := (rg_in (rg_add (lo := 5) (hi := 166) (rg_mul (lo := 0) (hi := 161) hroom (rg_c (v := 7) (lo := 7) (hi := 7) (by decide)) (by decide)) (rg_c (v := 5) (lo := 5) (hi := 5) (by decide)) (by decide)) (by decide))
  refine th_iast (T := TyX a E) (Rl := fr [(10, 12)] [] C) hx hb hK hP hD hS 11 (by decide) (sX_11 hT) n_21 (hT.up 11 (tA_upd (tX_11 hT) (tA_stc (oh_col (W := 7) hroom rfl (rg_c (v := 5) (lo := 5) (hi := 5) (by decide)) (by decide)) (rg_any _) (by decide)))) (fr_st hF (by decide) (by decide)) dX0_addRoad_73 (fun C_22 H locs e_23 hT hF hP hD hS => ?_)
  have t_24 := hT
  refine lv_aload_n hx hb dX0_addRoad_74 rfl (lv_at hl 1 rfl) ?_
  refine va_get (D := D) (ci := 0) (v := .ref (a 11)) (C := RX0) (T := TX0) (N := 8) hx hb htg ig_0 hown hK hP 1 (oh_wg (by decide) (sX_1 hT)) rfl 1 (by decide) (htg _ q_101) (fun _ h9 => h9) rfl dX0_addRoad_75 ?_
  refine lv_iload hx hb dX0_addRoad_78 (lv_at hl 0 rfl) ?_
  refine lv_bipush (v := 6) hx hb dX0_addRoad_80 (by decide) ?_
  refine lv_iadd hx hb dX0_addRoad_82 ?_
  refine lv_iconst (v := 0) hx hb dX0_addRoad_83 (by decide) ?_
  have n_25 : vp_in (((ga (C 10) ((0 : Int32)).toNatClampNeg) * 7) + 6) 168 := (rg_in (rg_add (lo := 6) (hi := 167) (rg_mul (lo := 0) (hi := 161) hroom (rg_c (v := 7) (lo := 7) (hi := 7) (by decide)) (by decide)) (rg_c (v := 6) (lo := 6) (hi := 6) (by decide)) (by decide)) (by decide))
  refine th_iast (T := TyX a E) (Rl := fr [(10, 12)] [] C) hx hb hK hP hD hS 11 (by decide) (sX_11 hT) n_25 (hT.up 11 (tA_upd (tX_11 hT) (tA_stc (oh_col (W := 7) hroom rfl (rg_c (v := 6) (lo := 6) (hi := 6) (by decide)) (by decide)) (rg_c (v := 0) (lo := 0) (hi := 0) (by decide)) (by decide)))) (fr_st hF (by decide) (by decide)) dX0_addRoad_84 (fun C_26 H locs e_27 hT hF hP hD hS => ?_)
  have t_28 := hT
  refine lv_aload_n hx hb dX0_addRoad_85 rfl (lv_at hl 1 rfl) ?_
  refine va_get (D := D) (ci := 0) (v := .ref (a 10)) (C := RX0) (T := TX0) (N := 8) hx hb htg ig_0 hown hK hP 1 (oh_wg (by decide) (sX_1 hT)) rfl 0 (by decide) (htg _ q_97) (fun _ h9 => h9) rfl dX0_addRoad_86 ?_
  refine lv_iconst (v := 0) hx hb dX0_addRoad_89 (by decide) ?_
  refine lv_dup2_11 hx hb dX0_addRoad_90 rfl rfl ?_
  refine th_iald hx hb hK hP 10 (by decide) (Eq.trans (Eq.trans (th_un e_27 (by decide)) (Eq.trans (th_un e_23 (by decide)) (Eq.trans (th_un e_19 (by decide)) (Eq.trans (th_un e_15 (by decide)) (Eq.trans (th_un e_11 (by decide)) (Eq.trans (th_un e_7 (by decide)) (th_un e_3 (by decide)))))))) (sX_10 hT0)) (rg_in (rg_c (v := 0) (lo := 0) (hi := 0) (by decide)) (by decide)) dX0_addRoad_91 ?_
  refine lv_dup_x2 hx hb dX0_addRoad_92 rfl rfl rfl ?_
  refine lv_iconst (v := 1) hx hb dX0_addRoad_93 (by decide) ?_
  refine lv_iadd hx hb dX0_addRoad_94 ?_
  refine th_iast (T := TyX a E) (Rl := fr [(10, 12)] [] C) hx hb hK hP hD hS 10 (by decide) (sX_10 hT) (rg_in (rg_c (v := 0) (lo := 0) (hi := 0) (by decide)) (by decide)) (hT.up 10 (tA_upd (tX_10 hT) (tA_stc (show _ = 0 by decide) (rg_add (lo := 1) (hi := 24) hroom (rg_c (v := 1) (lo := 1) (hi := 1) (by decide)) (by decide)) (by decide)))) (fr_st hF (by decide) (by decide)) dX0_addRoad_95 (fun C_29 H locs e_30 hT hF hP hD hS => ?_)
  have t_31 := hT
  rw [hQ]
  exact W.iret (v := ga (C 10) ((0 : Int32)).toNatClampNeg) hx hb hr (fun t ht hW => ⟨⟨ga (C 10) ((0 : Int32)).toNatClampNeg, C_29, rfl, ⟨hT, hF, ⟨rfl, (by rw [(st_ga e_30), (Eq.trans (th_un e_27 (by decide)) (Eq.trans (th_un e_23 (by decide)) (Eq.trans (th_un e_19 (by decide)) (Eq.trans (th_un e_15 (by decide)) (Eq.trans (th_un e_11 (by decide)) (Eq.trans (th_un e_7 (by decide)) (th_un e_3 (by decide))))))))]), (rowPt_c (rowPt_st (rowPt_st (rowPt_st (rowPt_st (rowPt_st (rowPt_st (rowPt_st rowPt_0 e_3 (by decide) rfl (oh_rix hroom rfl rfl (by decide))) e_7 (by decide) rfl (oh_rix hroom rfl rfl (by decide))) e_11 (by decide) rfl (oh_rix hroom rfl rfl (by decide))) e_15 (by decide) rfl (oh_rix hroom rfl rfl (by decide))) e_19 (by decide) rfl (oh_rix hroom rfl rfl (by decide))) e_23 (by decide) rfl (oh_rix hroom rfl rfl (by decide))) e_27 (by decide) rfl (oh_rix hroom rfl rfl (by decide))) (th_un e_30 (by decide)))⟩⟩, ⟨by rw [ht]; exact hP, hD⟩⟩, hS.F ht⟩) hS.2.2 dX0_addRoad_96

set_option maxHeartbeats 4000000 in
set_option maxRecDepth 100000 in
theorem e_X0_addBridge (l : Launch) (D : va_G) (E : Nat → ClassId) (G : Nat → Nat) (sz : Nat) (a : Nat → Nat) (C : Nat → va_E) (hT : TyX a E C) (x1 : Int32) (x2 : Int32) (x3 : Int32) (x4 : Int32) (x5 : Int32) (hx1 : rg x1 0 23) (hx2 : rg x2 0 5) (hroom : rg (ga (C 10) ((1 : Int32)).toNatClampNeg) 0 15) : Met l yX0_addBridge (oh_w yX0_addBridge cX0_addBridge 8 (some .int)) ({ frames := 0, cells := 0, slots := 0, locals := 0 }) (oh_Pm D E G [.ref (a 1), .int x1, .int x2, .int x3, .int x4, .int x5] (oh_W 35 a C) sz) (va_Qi (fun r (u : Nat → va_E) => TyX a E u ∧ fr [(10, 11), (12, 13)] [] C u ∧ rg r 0 15 ∧ (r = ga (C 10) ((1 : Int32)).toNatClampNeg) ∧ (ga (u 10) = upd (ga (C 10)) ((1 : Int32)).toNatClampNeg (ga (C 10) ((1 : Int32)).toNatClampNeg + 1)) ∧ (rowPt 10 (ga (C 10) ((1 : Int32)).toNatClampNeg).toNatClampNeg 10 (rwf [x1, x2, x3, x4, x5, 0, 0, 0, 0, 0]) (ga (C 12)) (ga (u 12)))) (oh_B D (va_A (oh_W 35 a C) sz) (fun u => oh_W 35 a u)) (va_A (oh_W 35 a C) sz)) 0 0 (va_A (oh_W 35 a C) sz) := by
  refine Met.ofW (cc := cX0_addBridge) (maxL := 8) (ret := (some .int)) (by decide) rfl ?_
  intro p e s m args below meth c s₁ B hml hv
  obtain ⟨rfl, hsz, hP, hK, hD0, hG⟩ := hv
  have hx := B.exec
  have hb := B.bytes
  have hr := B.returns
  have hts := atoms_spec (ws := (oh_w yX0_addBridge cX0_addBridge 8 (some .int))) B.pre
  have htg : ∀ w ∈ oh_t, w.before _ s = true := fun w h => hts w (List.mem_cons_of_mem _ h)
  have hown : s.vm.findClass RX0 = some m.cls := findClass_of_methodNamed B.named
  have hlocks := B.notSynchronized
  have hT0 := hT
  subst hsz
  have hD := hD0.self (sz := s.heap.size)
  generalize hAe : va_A (oh_W 35 a C) s.heap.size = A at hD hG ⊢
  have hA : ∀ q : Nat, s.heap.size ≤ q → A q := fun q h => by rw [← hAe]; exact Or.inr h
  have hS : va_S A s.heap s.heap [] := va_S.rf
  have hF : fr [(10, 11), (12, 13)] [] C C := fr_rf
  have hl := lv_entry ([.ref (a 1), .int x1, .int x2, .int x3, .int x4, .int x5]) (n := 8) (Nat.le_of_ble_eq_true rfl)
  rw [lg_entry_eq]
  generalize (lg_sl ([.ref (a 1), .int x1, .int x2, .int x3, .int x4, .int x5]) ++ List.replicate (8 - (lg_sl ([.ref (a 1), .int x1, .int x2, .int x3, .int x4, .int x5])).length) Slot.unset).toArray = ls at hl ⊢
  have hl : lv_has ls 8 [(0, .ref (a 1)), (1, .int x1), (2, .int x2), (3, .int x3), (4, .int x4), (5, .int x5)] := hl
  refine oh_genQ (fun Q hQ => ?_)
  refine lv_aload_n hx hb dX0_addBridge_0 rfl (lv_at hl 0 rfl) ?_
  refine va_get (D := D) (ci := 0) (v := .ref (a 10)) (C := RX0) (T := TX0) (N := 8) hx hb htg ig_0 hown hK hP 1 (oh_wg (by decide) (sX_1 hT)) rfl 0 (by decide) (htg _ q_97) (fun _ h9 => h9) rfl dX0_addBridge_1 ?_
  refine lv_iconst (v := 1) hx hb dX0_addBridge_4 (by decide) ?_
  refine th_iald hx hb hK hP 10 (by decide) (sX_10 hT) (rg_in (rg_c (v := 1) (lo := 1) (hi := 1) (by decide)) (by decide)) dX0_addBridge_5 ?_
  refine lv_bipush (v := 10) hx hb dX0_addBridge_6 (by decide) ?_
  refine lv_imul hx hb dX0_addBridge_8 ?_
  refine lv_istore (lv' := [(6, .int ((ga (C 10) ((1 : Int32)).toNatClampNeg) * 10)), (0, .ref (a 1)), (1, .int x1), (2, .int x2), (3, .int x3), (4, .int x4), (5, .int x5)]) hx hb dX0_addBridge_9 hl (by decide) rfl (fun ls hl => ?_)
  refine lv_aload_n hx hb dX0_addBridge_11 rfl (lv_at hl 1 rfl) ?_
  refine va_get (D := D) (ci := 0) (v := .ref (a 12)) (C := RX0) (T := TX0) (N := 8) hx hb htg ig_0 hown hK hP 1 (oh_wg (by decide) (sX_1 hT)) rfl 2 (by decide) (htg _ q_103) (fun _ h9 => h9) rfl dX0_addBridge_12 ?_
  refine lv_iload hx hb dX0_addBridge_15 (lv_at hl 0 rfl) ?_
  refine lv_iconst (v := 0) hx hb dX0_addBridge_17 (by decide) ?_
  refine lv_iadd hx hb dX0_addBridge_18 ?_
  refine lv_iload_n hx hb dX0_addBridge_19 rfl (lv_at hl 2 rfl) ?_
  have n_1 : vp_in (((ga (C 10) ((1 : Int32)).toNatClampNeg) * 10) + 0) 160 := (rg_in (rg_add (lo := 0) (hi := 150) (rg_mul (lo := 0) (hi := 150) hroom (rg_c (v := 10) (lo := 10) (hi := 10) (by decide)) (by decide)) (rg_c (v := 0) (lo := 0) (hi := 0) (by decide)) (by decide)) (by decide))
  refine th_iast (T := TyX a E) (Rl := fr [(10, 11), (12, 13)] [] C) hx hb hK hP hD hS 12 (by decide) (sX_12 hT) n_1 (hT.up 12 (tA_upd (tX_12 hT) (tA_stc (oh_col (W := 10) hroom rfl (rg_c (v := 0) (lo := 0) (hi := 0) (by decide)) (by decide)) hx1 (by decide)))) (fr_st hF (by decide) (by decide)) dX0_addBridge_20 (fun C_2 H locs e_3 hT hF hP hD hS => ?_)
  have t_4 := hT
  refine lv_aload_n hx hb dX0_addBridge_21 rfl (lv_at hl 1 rfl) ?_
  refine va_get (D := D) (ci := 0) (v := .ref (a 12)) (C := RX0) (T := TX0) (N := 8) hx hb htg ig_0 hown hK hP 1 (oh_wg (by decide) (sX_1 hT)) rfl 2 (by decide) (htg _ q_103) (fun _ h9 => h9) rfl dX0_addBridge_22 ?_
  refine lv_iload hx hb dX0_addBridge_25 (lv_at hl 0 rfl) ?_
  refine lv_iconst (v := 1) hx hb dX0_addBridge_27 (by decide) ?_
  refine lv_iadd hx hb dX0_addBridge_28 ?_
  refine lv_iload_n hx hb dX0_addBridge_29 rfl (lv_at hl 3 rfl) ?_
  have n_5 : vp_in (((ga (C 10) ((1 : Int32)).toNatClampNeg) * 10) + 1) 160 := (rg_in (rg_add (lo := 1) (hi := 151) (rg_mul (lo := 0) (hi := 150) hroom (rg_c (v := 10) (lo := 10) (hi := 10) (by decide)) (by decide)) (rg_c (v := 1) (lo := 1) (hi := 1) (by decide)) (by decide)) (by decide))
  refine th_iast (T := TyX a E) (Rl := fr [(10, 11), (12, 13)] [] C) hx hb hK hP hD hS 12 (by decide) (sX_12 hT) n_5 (hT.up 12 (tA_upd (tX_12 hT) (tA_stc (oh_col (W := 10) hroom rfl (rg_c (v := 1) (lo := 1) (hi := 1) (by decide)) (by decide)) hx2 (by decide)))) (fr_st hF (by decide) (by decide)) dX0_addBridge_30 (fun C_6 H locs e_7 hT hF hP hD hS => ?_)
  have t_8 := hT
  refine lv_aload_n hx hb dX0_addBridge_31 rfl (lv_at hl 1 rfl) ?_
  refine va_get (D := D) (ci := 0) (v := .ref (a 12)) (C := RX0) (T := TX0) (N := 8) hx hb htg ig_0 hown hK hP 1 (oh_wg (by decide) (sX_1 hT)) rfl 2 (by decide) (htg _ q_103) (fun _ h9 => h9) rfl dX0_addBridge_32 ?_
  refine lv_iload hx hb dX0_addBridge_35 (lv_at hl 0 rfl) ?_
  refine lv_iconst (v := 2) hx hb dX0_addBridge_37 (by decide) ?_
  refine lv_iadd hx hb dX0_addBridge_38 ?_
  refine lv_iload_n hx hb dX0_addBridge_39 rfl (lv_at hl 4 rfl) ?_
  have n_9 : vp_in (((ga (C 10) ((1 : Int32)).toNatClampNeg) * 10) + 2) 160 := (rg_in (rg_add (lo := 2) (hi := 152) (rg_mul (lo := 0) (hi := 150) hroom (rg_c (v := 10) (lo := 10) (hi := 10) (by decide)) (by decide)) (rg_c (v := 2) (lo := 2) (hi := 2) (by decide)) (by decide)) (by decide))
  refine th_iast (T := TyX a E) (Rl := fr [(10, 11), (12, 13)] [] C) hx hb hK hP hD hS 12 (by decide) (sX_12 hT) n_9 (hT.up 12 (tA_upd (tX_12 hT) (tA_stc (oh_col (W := 10) hroom rfl (rg_c (v := 2) (lo := 2) (hi := 2) (by decide)) (by decide)) (rg_any _) (by decide)))) (fr_st hF (by decide) (by decide)) dX0_addBridge_40 (fun C_10 H locs e_11 hT hF hP hD hS => ?_)
  have t_12 := hT
  refine lv_aload_n hx hb dX0_addBridge_41 rfl (lv_at hl 1 rfl) ?_
  refine va_get (D := D) (ci := 0) (v := .ref (a 12)) (C := RX0) (T := TX0) (N := 8) hx hb htg ig_0 hown hK hP 1 (oh_wg (by decide) (sX_1 hT)) rfl 2 (by decide) (htg _ q_103) (fun _ h9 => h9) rfl dX0_addBridge_42 ?_
  refine lv_iload hx hb dX0_addBridge_45 (lv_at hl 0 rfl) ?_
  refine lv_iconst (v := 3) hx hb dX0_addBridge_47 (by decide) ?_
  refine lv_iadd hx hb dX0_addBridge_48 ?_
  refine lv_iload hx hb dX0_addBridge_49 (lv_at hl 5 rfl) ?_
  have n_13 : vp_in (((ga (C 10) ((1 : Int32)).toNatClampNeg) * 10) + 3) 160 := (rg_in (rg_add (lo := 3) (hi := 153) (rg_mul (lo := 0) (hi := 150) hroom (rg_c (v := 10) (lo := 10) (hi := 10) (by decide)) (by decide)) (rg_c (v := 3) (lo := 3) (hi := 3) (by decide)) (by decide)) (by decide))
  refine th_iast (T := TyX a E) (Rl := fr [(10, 11), (12, 13)] [] C) hx hb hK hP hD hS 12 (by decide) (sX_12 hT) n_13 (hT.up 12 (tA_upd (tX_12 hT) (tA_stc (oh_col (W := 10) hroom rfl (rg_c (v := 3) (lo := 3) (hi := 3) (by decide)) (by decide)) (rg_any _) (by decide)))) (fr_st hF (by decide) (by decide)) dX0_addBridge_51 (fun C_14 H locs e_15 hT hF hP hD hS => ?_)
  have t_16 := hT
  refine lv_aload_n hx hb dX0_addBridge_52 rfl (lv_at hl 1 rfl) ?_
  refine va_get (D := D) (ci := 0) (v := .ref (a 12)) (C := RX0) (T := TX0) (N := 8) hx hb htg ig_0 hown hK hP 1 (oh_wg (by decide) (sX_1 hT)) rfl 2 (by decide) (htg _ q_103) (fun _ h9 => h9) rfl dX0_addBridge_53 ?_
  refine lv_iload hx hb dX0_addBridge_56 (lv_at hl 0 rfl) ?_
  refine lv_iconst (v := 4) hx hb dX0_addBridge_58 (by decide) ?_
  refine lv_iadd hx hb dX0_addBridge_59 ?_
  refine lv_iload hx hb dX0_addBridge_60 (lv_at hl 6 rfl) ?_
  have n_17 : vp_in (((ga (C 10) ((1 : Int32)).toNatClampNeg) * 10) + 4) 160 := (rg_in (rg_add (lo := 4) (hi := 154) (rg_mul (lo := 0) (hi := 150) hroom (rg_c (v := 10) (lo := 10) (hi := 10) (by decide)) (by decide)) (rg_c (v := 4) (lo := 4) (hi := 4) (by decide)) (by decide)) (by decide))
  refine th_iast (T := TyX a E) (Rl := fr [(10, 11), (12, 13)] [] C) hx hb hK hP hD hS 12 (by decide) (sX_12 hT) n_17 (hT.up 12 (tA_upd (tX_12 hT) (tA_stc (oh_col (W := 10) hroom rfl (rg_c (v := 4) (lo := 4) (hi := 4) (by decide)) (by decide)) (rg_any _) (by decide)))) (fr_st hF (by decide) (by decide)) dX0_addBridge_62 (fun C_18 H locs e_19 hT hF hP hD hS => ?_)
  have t_20 := hT
  refine lv_iconst (v := 5) hx hb dX0_addBridge_63 (by decide) ?_
  refine lv_istore (lv' := [(7, .int 5), (6, .int ((ga (C 10) ((1 : Int32)).toNatClampNeg) * 10)), (0, .ref (a 1)), (1, .int x1), (2, .int x2), (3, .int x3), (4, .int x4), (5, .int x5)]) hx hb dX0_addBridge_64 hl (by decide) rfl (fun ls hl => ?_)
  have L_66 : ∀ (d : Nat) (K66 : Nat → va_E) (z66_7 : Int32) (H : Heap) (locs : List Loc) (ls : Array Slot), (10 - z66_7.toInt).toNat = d → rg z66_7 5 10 → (rowPt 10 (ga (C 10) ((1 : Int32)).toNatClampNeg).toNatClampNeg z66_7.toNatClampNeg (rwf [x1, x2, x3, x4, x5, 0, 0, 0, 0, 0]) (ga (C 12)) (ga (K66 12))) → TyX a E K66 → fr [(10, 11), (12, 13)] [] C K66 → fr [(12, 13)] [] C_18 K66 → va_P D vwCl (oh_W 35 a K66) H → va_D A (oh_W 35 a K66) → va_S A s.heap H locs → lv_has ls 8 [(7, .int z66_7), (6, .int ((ga (C 10) ((1 : Int32)).toNatClampNeg) * 10)), (0, .ref (a 1)), (1, .int x1), (2, .int x2), (3, .int x3), (4, .int x4), (5, .int x5)] → W p l e ({ frames := 0, cells := 0, slots := 0, locals := 0 }) s m (([.ref (a 1), .int x1, .int x2, .int x3, .int x4, .int x5] : List Value).toArray) below meth c H locs 0 0 Q (F0 m 66 ls []) := by
    intro d
    induction d using Nat.strongRecOn with
    | ind d ih_66 =>
    intro K66 z66_7 H locs ls hd_66 hz66_7 hx_66 hT hF hLF_66 hP hD hS hl
    have t_21 := hT
    refine lv_iload hx hb dX0_addBridge_66 (lv_at hl 0 rfl) ?_
    refine lv_bipush (v := 10) hx hb dX0_addBridge_68 (by decide) ?_
    refine lv_icmp_ge (tgt := 90) hx hb dX0_addBridge_70 (by decide) (fun (c_22 : (10 : Int32) ≤ z66_7) => ?_) (fun (c_22 : ¬ ((10 : Int32) ≤ z66_7)) => ?_)
    · refine lv_aload_n hx hb dX0_addBridge_90 rfl (lv_at hl 2 rfl) ?_
      refine va_get (D := D) (ci := 0) (v := .ref (a 10)) (C := RX0) (T := TX0) (N := 8) hx hb htg ig_0 hown hK hP 1 (oh_wg (by decide) (sX_1 hT)) rfl 0 (by decide) (htg _ q_97) (fun _ h9 => h9) rfl dX0_addBridge_91 ?_
      refine lv_iconst (v := 1) hx hb dX0_addBridge_94 (by decide) ?_
      refine lv_dup2_11 hx hb dX0_addBridge_95 rfl rfl ?_
      refine th_iald hx hb hK hP 10 (by decide) (Eq.trans (Eq.trans (hLF_66.1 10 rfl (by decide)) (Eq.trans (th_un e_19 (by decide)) (Eq.trans (th_un e_15 (by decide)) (Eq.trans (th_un e_11 (by decide)) (Eq.trans (th_un e_7 (by decide)) (th_un e_3 (by decide))))))) (sX_10 hT0)) (rg_in (rg_c (v := 1) (lo := 1) (hi := 1) (by decide)) (by decide)) dX0_addBridge_96 ?_
      refine lv_dup_x2 hx hb dX0_addBridge_97 rfl rfl rfl ?_
      refine lv_iconst (v := 1) hx hb dX0_addBridge_98 (by decide) ?_
      refine lv_iadd hx hb dX0_addBridge_99 ?_
      refine th_iast (T := TyX a E) (Rl := fr [(10, 11), (12, 13)] [] C) hx hb hK hP hD hS 10 (by decide) (sX_10 hT) (rg_in (rg_c (v := 1) (lo := 1) (hi := 1) (by decide)) (by decide)) (hT.up 10 (tA_upd (tX_10 hT) (tA_stc (show _ = 1 by decide) (rg_add (lo := 1) (hi := 16) hroom (rg_c (v := 1) (lo := 1) (hi := 1) (by decide)) (by decide)) (by decide)))) (fr_st hF (by decide) (by decide)) dX0_addBridge_100 (fun C_23 H locs e_24 hT hF hP hD hS => ?_)
      have t_25 := hT
      rw [hQ]
      exact W.iret (v := ga (C 10) ((1 : Int32)).toNatClampNeg) hx hb hr (fun t ht hW => ⟨⟨ga (C 10) ((1 : Int32)).toNatClampNeg, C_23, rfl, ⟨hT, hF, ⟨(rg_w hroom (by decide)), rfl, (by rw [(st_ga e_24), (Eq.trans (hLF_66.1 10 rfl (by decide)) (Eq.trans (th_un e_19 (by decide)) (Eq.trans (th_un e_15 (by decide)) (Eq.trans (th_un e_11 (by decide)) (Eq.trans (th_un e_7 (by decide)) (th_un e_3 (by decide)))))))]), (rowPt_c (rowPt_end hx_66 (oh_zeq (k := 10) hz66_7 c_22 (by decide)) (by decide)) (th_un e_24 (by decide)))⟩⟩, ⟨by rw [ht]; exact hP, hD⟩⟩, hS.F ht⟩) hS.2.2 dX0_addBridge_101
    · refine lv_aload_n hx hb dX0_addBridge_73 rfl (lv_at hl 2 rfl) ?_
      refine va_get (D := D) (ci := 0) (v := .ref (a 12)) (C := RX0) (T := TX0) (N := 8) hx hb htg ig_0 hown hK hP 1 (oh_wg (by decide) (sX_1 hT)) rfl 2 (by decide) (htg _ q_103) (fun _ h9 => h9) rfl dX0_addBridge_74 ?_
      refine lv_iload hx hb dX0_addBridge_77 (lv_at hl 1 rfl) ?_
      refine lv_iload hx hb dX0_addBridge_79 (lv_at hl 0 rfl) ?_
      refine lv_iadd hx hb dX0_addBridge_81 ?_
      refine lv_iconst (v := 0) hx hb dX0_addBridge_82 (by decide) ?_
      have n_26 : vp_in (((ga (C 10) ((1 : Int32)).toNatClampNeg) * 10) + z66_7) 160 := (rg_in (rg_add (lo := 5) (hi := 159) (rg_mul (lo := 0) (hi := 150) hroom (rg_c (v := 10) (lo := 10) (hi := 10) (by decide)) (by decide)) (rn_ltu (u' := 9) (Int32.not_le.mp c_22) hz66_7 (rg_c (v := 10) (lo := 10) (hi := 10) (by decide)) (by decide)) (by decide)) (by decide))
      refine th_iast (T := TyX a E) (Rl := fr [(10, 11), (12, 13)] [] C) hx hb hK hP hD hS 12 (by decide) (sX_12 hT) n_26 (hT.up 12 (tA_upd (tX_12 hT) (tA_sth (oh_col (W := 10) hroom rfl (rn_ltu (u' := 9) (Int32.not_le.mp c_22) hz66_7 (rg_c (v := 10) (lo := 10) (hi := 10) (by decide)) (by decide)) (by decide)) (rn_ltu (u' := 9) (Int32.not_le.mp c_22) hz66_7 (rg_c (v := 10) (lo := 10) (hi := 10) (by decide)) (by decide)) (by decide)))) (fr_st hF (by decide) (by decide)) dX0_addBridge_83 (fun C_27 H locs e_28 hT hF hP hD hS => ?_)
      have t_29 := hT
      refine lv_iinc (v := z66_7 + 1) (lv' := [(7, .int (z66_7 + 1)), (6, .int ((ga (C 10) ((1 : Int32)).toNatClampNeg) * 10)), (0, .ref (a 1)), (1, .int x1), (2, .int x2), (3, .int x3), (4, .int x4), (5, .int x5)]) hx hb dX0_addBridge_84 hl (k := 0) rfl (by rfl) (by decide) rfl (fun ls hl => ?_)
      refine lv_goto (tgt := 66) hx hb dX0_addBridge_87 (by decide) ?_
      exact ih_66 _ (hd_66 ▸ mu_up 10 (rn_ltu (u' := 9) (Int32.not_le.mp c_22) hz66_7 (rg_c (v := 10) (lo := 10) (hi := 10) (by decide)) (by decide)) (by decide)) C_27 (z66_7 + 1) _ _ ls rfl (rg_w (rg_add (lo := 6) (hi := 10) (rn_ltu (u' := 9) (Int32.not_le.mp c_22) hz66_7 (rg_c (v := 10) (lo := 10) (hi := 10) (by decide)) (by decide)) (rg_c (v := 1) (lo := 1) (hi := 1) (by decide)) (by decide)) (by decide)) (rowPt_z hx_66 e_28 (rg_w (lo := 0) (hi := 9) (rn_ltu (u' := 9) (Int32.not_le.mp c_22) hz66_7 (rg_c (v := 10) (lo := 10) (hi := 10) (by decide)) (by decide)) (by decide)) (by decide) (rwf5 (by have h7 := (rn_ltu (u' := 9) (Int32.not_le.mp c_22) hz66_7 (rg_c (v := 10) (lo := 10) (hi := 10) (by decide)) (by decide)); have h8 := oh_nat h7 (by decide); have h9 := h7.1; omega) (by have h7 := (rn_ltu (u' := 9) (Int32.not_le.mp c_22) hz66_7 (rg_c (v := 10) (lo := 10) (hi := 10) (by decide)) (by decide)); have h8 := oh_nat h7 (by decide); have h9 := h7.2; omega)) (oh_rixz hroom rfl (rg_w (lo := 0) (hi := 9) (rn_ltu (u' := 9) (Int32.not_le.mp c_22) hz66_7 (rg_c (v := 10) (lo := 10) (hi := 10) (by decide)) (by decide)) (by decide)) (by decide))) hT hF (fr_ste hLF_66 e_28 (by decide) (by decide)) hP hD hS (lv_sub hl [0, 1, 2, 3, 4, 5, 6, 7] rfl)
  exact L_66 _ C_18 5 _ _ ls rfl (rg_w (rg_c (v := 5) (lo := 5) (hi := 5) (by decide)) (by decide)) (rowPt_st (rowPt_st (rowPt_st (rowPt_st (rowPt_st rowPt_0 e_3 (by decide) rfl (oh_rix hroom rfl rfl (by decide))) e_7 (by decide) rfl (oh_rix hroom rfl rfl (by decide))) e_11 (by decide) rfl (oh_rix hroom rfl rfl (by decide))) e_15 (by decide) rfl (oh_rix hroom rfl rfl (by decide))) e_19 (by decide) rfl (oh_rix hroom rfl rfl (by decide))) hT hF fr_rf hP hD hS (lv_sub hl [0, 1, 2, 3, 4, 5, 6, 7] rfl)

set_option maxHeartbeats 4000000 in
set_option maxRecDepth 100000 in
theorem e_X0_putBridgeColumn (l : Launch) (D : va_G) (E : Nat → ClassId) (G : Nat → Nat) (sz : Nat) (a : Nat → Nat) (C : Nat → va_E) (hT : TyX a E C) (x1 : Int32) (x2 : Int32) (x3 : Int32) (hx1 : rg x1 0 15) (hx2 : rg x2 2 9) : Met l yX0_putBridgeColumn (oh_w yX0_putBridgeColumn cX0_putBridgeColumn 4 none) ({ frames := 0, cells := 0, slots := 0, locals := 0 }) (oh_Pm D E G [.ref (a 1), .int x1, .int x2, .int x3] (oh_W 35 a C) sz) (va_Qv (fun (u : Nat → va_E) => TyX a E u ∧ fr [(12, 13)] [] C u ∧ (ga (u 12) = upd (ga (C 12)) (x1 * 10 + x2).toNatClampNeg x3)) (oh_B D (va_A (oh_W 35 a C) sz) (fun u => oh_W 35 a u)) (va_A (oh_W 35 a C) sz)) 0 0 (va_A (oh_W 35 a C) sz) := by
  refine Met.ofW (cc := cX0_putBridgeColumn) (maxL := 4) (ret := none) (by decide) rfl ?_
  intro p e s m args below meth c s₁ B hml hv
  obtain ⟨rfl, hsz, hP, hK, hD0, hG⟩ := hv
  have hx := B.exec
  have hb := B.bytes
  have hr := B.returns
  have hts := atoms_spec (ws := (oh_w yX0_putBridgeColumn cX0_putBridgeColumn 4 none)) B.pre
  have htg : ∀ w ∈ oh_t, w.before _ s = true := fun w h => hts w (List.mem_cons_of_mem _ h)
  have hown : s.vm.findClass RX0 = some m.cls := findClass_of_methodNamed B.named
  have hlocks := B.notSynchronized
  have hT0 := hT
  subst hsz
  have hD := hD0.self (sz := s.heap.size)
  generalize hAe : va_A (oh_W 35 a C) s.heap.size = A at hD hG ⊢
  have hA : ∀ q : Nat, s.heap.size ≤ q → A q := fun q h => by rw [← hAe]; exact Or.inr h
  have hS : va_S A s.heap s.heap [] := va_S.rf
  have hF : fr [(12, 13)] [] C C := fr_rf
  have hl := lv_entry ([.ref (a 1), .int x1, .int x2, .int x3]) (n := 4) (Nat.le_of_ble_eq_true rfl)
  rw [lg_entry_eq]
  generalize (lg_sl ([.ref (a 1), .int x1, .int x2, .int x3]) ++ List.replicate (4 - (lg_sl ([.ref (a 1), .int x1, .int x2, .int x3])).length) Slot.unset).toArray = ls at hl ⊢
  have hl : lv_has ls 4 [(0, .ref (a 1)), (1, .int x1), (2, .int x2), (3, .int x3)] := hl
  refine oh_genQ (fun Q hQ => ?_)
  refine lv_aload_n hx hb dX0_putBridgeColumn_0 rfl (lv_at hl 0 rfl) ?_
  refine va_get (D := D) (ci := 0) (v := .ref (a 12)) (C := RX0) (T := TX0) (N := 8) hx hb htg ig_0 hown hK hP 1 (oh_wg (by decide) (sX_1 hT)) rfl 2 (by decide) (htg _ q_103) (fun _ h9 => h9) rfl dX0_putBridgeColumn_1 ?_
  refine lv_iload_n hx hb dX0_putBridgeColumn_4 rfl (lv_at hl 1 rfl) ?_
  refine lv_bipush (v := 10) hx hb dX0_putBridgeColumn_5 (by decide) ?_
  refine lv_imul hx hb dX0_putBridgeColumn_7 ?_
  refine lv_iload_n hx hb dX0_putBridgeColumn_8 rfl (lv_at hl 2 rfl) ?_
  refine lv_iadd hx hb dX0_putBridgeColumn_9 ?_
  refine lv_iload_n hx hb dX0_putBridgeColumn_10 rfl (lv_at hl 3 rfl) ?_
  have n_1 : vp_in ((x1 * 10) + x2) 160 := (rg_in (rg_add (lo := 2) (hi := 159) (rg_mul (lo := 0) (hi := 150) hx1 (rg_c (v := 10) (lo := 10) (hi := 10) (by decide)) (by decide)) hx2 (by decide)) (by decide))
  refine th_iast (T := TyX a E) (Rl := fr [(12, 13)] [] C) hx hb hK hP hD hS 12 (by decide) (sX_12 hT) n_1 (hT.up 12 (tA_upd (tX_12 hT) (tA_sth (oh_col (W := 10) hx1 rfl hx2 (by decide)) hx2 (by decide)))) (fr_st hF (by decide) (by decide)) dX0_putBridgeColumn_11 (fun C_2 H locs e_3 hT hF hP hD hS => ?_)
  have t_4 := hT
  rw [hQ]
  exact W.vret hx hb hr (fun t ht hW => ⟨⟨C_2, rfl, ⟨hT, hF, (by rw [(st_ga e_3)])⟩, ⟨by rw [ht]; exact hP, hD⟩⟩, hS.F ht⟩) hS.2.2 dX0_putBridgeColumn_12

set_option maxHeartbeats 4000000 in
set_option maxRecDepth 100000 in
theorem e_X0_putProp (l : Launch) (D : va_G) (E : Nat → ClassId) (G : Nat → Nat) (sz : Nat) (a : Nat → Nat) (C : Nat → va_E) (hT : TyX a E C) (x1 : Int32) (x2 : Int32) (x3 : Int32) (hx1 : rg x1 0 15) : Met l yX0_putProp (oh_w yX0_putProp cX0_putProp 4 none) ({ frames := 1, cells := 0, slots := 0, locals := 23 }) (oh_Pm D E G [.ref (a 1), .int x1, .int x2, .int x3] (oh_W 35 a C) sz) (va_Qv (fun (u : Nat → va_E) => TyX a E u ∧ fr [(12, 13)] [] C u ∧ (ga (u 12) = upd (upd (ga (C 12)) (x1 * 10 + 5).toNatClampNeg x2) (x1 * 10 + 6).toNatClampNeg x3)) (oh_B D (va_A (oh_W 35 a C) sz) (fun u => oh_W 35 a u)) (va_A (oh_W 35 a C) sz)) 0 0 (va_A (oh_W 35 a C) sz) := by
  refine Met.ofW (cc := cX0_putProp) (maxL := 4) (ret := none) (by decide) rfl ?_
  intro p e s m args below meth c s₁ B hml hv
  obtain ⟨rfl, hsz, hP, hK, hD0, hG⟩ := hv
  have hx := B.exec
  have hb := B.bytes
  have hr := B.returns
  have hts := atoms_spec (ws := (oh_w yX0_putProp cX0_putProp 4 none)) B.pre
  have htg : ∀ w ∈ oh_t, w.before _ s = true := fun w h => hts w (List.mem_cons_of_mem _ h)
  have hown : s.vm.findClass RX0 = some m.cls := findClass_of_methodNamed B.named
  have hlocks := B.notSynchronized
  have hT0 := hT
  subst hsz
  have hD := hD0.self (sz := s.heap.size)
  generalize hAe : va_A (oh_W 35 a C) s.heap.size = A at hD hG ⊢
  have hA : ∀ q : Nat, s.heap.size ≤ q → A q := fun q h => by rw [← hAe]; exact Or.inr h
  have hS : va_S A s.heap s.heap [] := va_S.rf
  have hF : fr [(12, 13)] [] C C := fr_rf
  have hl := lv_entry ([.ref (a 1), .int x1, .int x2, .int x3]) (n := 4) (Nat.le_of_ble_eq_true rfl)
  rw [lg_entry_eq]
  generalize (lg_sl ([.ref (a 1), .int x1, .int x2, .int x3]) ++ List.replicate (4 - (lg_sl ([.ref (a 1), .int x1, .int x2, .int x3])).length) Slot.unset).toArray = ls at hl ⊢
  have hl : lv_has ls 4 [(0, .ref (a 1)), (1, .int x1), (2, .int x2), (3, .int x3)] := hl
  refine oh_genQ (fun Q hQ => ?_)
  refine lv_aload_n hx hb dX0_putProp_0 rfl (lv_at hl 0 rfl) ?_
  refine lv_iload_n hx hb dX0_putProp_1 rfl (lv_at hl 1 rfl) ?_
  refine lv_iconst (v := 5) hx hb dX0_putProp_2 (by decide) ?_
  refine lv_iload_n hx hb dX0_putProp_3 rfl (lv_at hl 2 rfl) ?_
  refine tm_Vv (As := [.int x1, .int 5, .int x2]) (rest := []) ⟨hx, hb, hml, hown, htg⟩ (e_X0_putBridgeColumn l D E G _ a C hT x1 (5 : Int32) x2 (rg_w hx1 (by decide)) (rg_w (rg_c (v := 5) (lo := 5) (hi := 5) (by decide)) (by decide))) (cwV 3 htg (oh_gV q_444 q_445 q_446 q_67 q_447) rfl rfl rfl pdVX0_putBridgeColumn ⟨Nat.le_of_ble_eq_true rfl, Nat.le_of_ble_eq_true rfl⟩) hK hP hD hG hS hA (va_recv hK hP (ci := 0) (q0 := 1) rfl (oh_wg (by decide) (sX_1 hT))) rfl hl.1 rfl (Nat.le_of_ble_eq_true rfl) dX0_putProp_4 ⟨Nat.le_of_ble_eq_true rfl, Nat.le_of_ble_eq_true rfl⟩ (fun C_2 H locs hq_3 hP hD hS => ?_)
  obtain ⟨hT, f_4, hq_3⟩ := hq_3
  have hF := fr_tr hF f_4 (by decide) (by decide)
  refine W.widen (k := 0) (n := 0) (Nat.le_refl _) (Nat.le_refl _) ?_
  have t_5 := hT
  refine lv_aload_n hx hb dX0_putProp_7 rfl (lv_at hl 0 rfl) ?_
  refine lv_iload_n hx hb dX0_putProp_8 rfl (lv_at hl 1 rfl) ?_
  refine lv_bipush (v := 6) hx hb dX0_putProp_9 (by decide) ?_
  refine lv_iload_n hx hb dX0_putProp_11 rfl (lv_at hl 3 rfl) ?_
  refine tm_Vv (As := [.int x1, .int 6, .int x3]) (rest := []) ⟨hx, hb, hml, hown, htg⟩ (e_X0_putBridgeColumn l D E G _ a C_2 hT x1 (6 : Int32) x3 (rg_w hx1 (by decide)) (rg_w (rg_c (v := 6) (lo := 6) (hi := 6) (by decide)) (by decide))) (cwV 3 htg (oh_gV q_444 q_445 q_446 q_67 q_447) rfl rfl rfl pdVX0_putBridgeColumn ⟨Nat.le_of_ble_eq_true rfl, Nat.le_of_ble_eq_true rfl⟩) hK hP hD hG hS hA (va_recv hK hP (ci := 0) (q0 := 1) rfl (oh_wg (by decide) (sX_1 hT))) rfl hl.1 rfl (Nat.le_of_ble_eq_true rfl) dX0_putProp_12 ⟨Nat.le_of_ble_eq_true rfl, Nat.le_of_ble_eq_true rfl⟩ (fun C_7 H locs hq_8 hP hD hS => ?_)
  obtain ⟨hT, f_9, hq_8⟩ := hq_8
  have hF := fr_tr hF f_9 (by decide) (by decide)
  refine W.widen (k := 0) (n := 0) (Nat.le_refl _) (Nat.le_refl _) ?_
  have t_10 := hT
  rw [hQ]
  exact W.vret hx hb hr (fun t ht hW => ⟨⟨C_7, rfl, ⟨hT, hF, (by rw [hq_8, hq_3])⟩, ⟨by rw [ht]; exact hP, hD⟩⟩, hS.F ht⟩) hS.2.2 dX0_putProp_15

set_option maxHeartbeats 4000000 in
set_option maxRecDepth 100000 in
theorem e_X0_addWaggon (l : Launch) (D : va_G) (E : Nat → ClassId) (G : Nat → Nat) (sz : Nat) (a : Nat → Nat) (C : Nat → va_E) (hT : TyX a E C) (x1 : Int32) (x2 : Int32) (x3 : Int32) (hroom : rg (ga (C 10) ((2 : Int32)).toNatClampNeg) 0 4) : Met l yX0_addWaggon (oh_w yX0_addWaggon cX0_addWaggon 5 (some .int)) ({ frames := 0, cells := 0, slots := 0, locals := 0 }) (oh_Pm D E G [.ref (a 1), .int x1, .int x2, .int x3] (oh_W 35 a C) sz) (va_Qi (fun r (u : Nat → va_E) => TyX a E u ∧ fr [(10, 11), (13, 14)] [] C u ∧ (r = ga (C 10) ((2 : Int32)).toNatClampNeg) ∧ (ga (u 10) = upd (ga (C 10)) ((2 : Int32)).toNatClampNeg (ga (C 10) ((2 : Int32)).toNatClampNeg + 1)) ∧ (rowPt 3 (ga (C 10) ((2 : Int32)).toNatClampNeg).toNatClampNeg 3 (rwf [x1, x2, x3]) (ga (C 13)) (ga (u 13)))) (oh_B D (va_A (oh_W 35 a C) sz) (fun u => oh_W 35 a u)) (va_A (oh_W 35 a C) sz)) 0 0 (va_A (oh_W 35 a C) sz) := by
  refine Met.ofW (cc := cX0_addWaggon) (maxL := 5) (ret := (some .int)) (by decide) rfl ?_
  intro p e s m args below meth c s₁ B hml hv
  obtain ⟨rfl, hsz, hP, hK, hD0, hG⟩ := hv
  have hx := B.exec
  have hb := B.bytes
  have hr := B.returns
  have hts := atoms_spec (ws := (oh_w yX0_addWaggon cX0_addWaggon 5 (some .int))) B.pre
  have htg : ∀ w ∈ oh_t, w.before _ s = true := fun w h => hts w (List.mem_cons_of_mem _ h)
  have hown : s.vm.findClass RX0 = some m.cls := findClass_of_methodNamed B.named
  have hlocks := B.notSynchronized
  have hT0 := hT
  subst hsz
  have hD := hD0.self (sz := s.heap.size)
  generalize hAe : va_A (oh_W 35 a C) s.heap.size = A at hD hG ⊢
  have hA : ∀ q : Nat, s.heap.size ≤ q → A q := fun q h => by rw [← hAe]; exact Or.inr h
  have hS : va_S A s.heap s.heap [] := va_S.rf
  have hF : fr [(10, 11), (13, 14)] [] C C := fr_rf
  have hl := lv_entry ([.ref (a 1), .int x1, .int x2, .int x3]) (n := 5) (Nat.le_of_ble_eq_true rfl)
  rw [lg_entry_eq]
  generalize (lg_sl ([.ref (a 1), .int x1, .int x2, .int x3]) ++ List.replicate (5 - (lg_sl ([.ref (a 1), .int x1, .int x2, .int x3])).length) Slot.unset).toArray = ls at hl ⊢
  have hl : lv_has ls 5 [(0, .ref (a 1)), (1, .int x1), (2, .int x2), (3, .int x3)] := hl
  refine oh_genQ (fun Q hQ => ?_)
  refine lv_aload_n hx hb dX0_addWaggon_0 rfl (lv_at hl 0 rfl) ?_
  refine va_get (D := D) (ci := 0) (v := .ref (a 10)) (C := RX0) (T := TX0) (N := 8) hx hb htg ig_0 hown hK hP 1 (oh_wg (by decide) (sX_1 hT)) rfl 0 (by decide) (htg _ q_97) (fun _ h9 => h9) rfl dX0_addWaggon_1 ?_
  refine lv_iconst (v := 2) hx hb dX0_addWaggon_4 (by decide) ?_
  refine th_iald hx hb hK hP 10 (by decide) (sX_10 hT) (rg_in (rg_c (v := 2) (lo := 2) (hi := 2) (by decide)) (by decide)) dX0_addWaggon_5 ?_
  refine lv_iconst (v := 3) hx hb dX0_addWaggon_6 (by decide) ?_
  refine lv_imul hx hb dX0_addWaggon_7 ?_
  refine lv_istore (lv' := [(4, .int ((ga (C 10) ((2 : Int32)).toNatClampNeg) * 3)), (0, .ref (a 1)), (1, .int x1), (2, .int x2), (3, .int x3)]) hx hb dX0_addWaggon_8 hl (by decide) rfl (fun ls hl => ?_)
  refine lv_aload_n hx hb dX0_addWaggon_10 rfl (lv_at hl 1 rfl) ?_
  refine va_get (D := D) (ci := 0) (v := .ref (a 13)) (C := RX0) (T := TX0) (N := 8) hx hb htg ig_0 hown hK hP 1 (oh_wg (by decide) (sX_1 hT)) rfl 3 (by decide) (htg _ q_104) (fun _ h9 => h9) rfl dX0_addWaggon_11 ?_
  refine lv_iload hx hb dX0_addWaggon_14 (lv_at hl 0 rfl) ?_
  refine lv_iconst (v := 0) hx hb dX0_addWaggon_16 (by decide) ?_
  refine lv_iadd hx hb dX0_addWaggon_17 ?_
  refine lv_iload_n hx hb dX0_addWaggon_18 rfl (lv_at hl 2 rfl) ?_
  have n_1 : vp_in (((ga (C 10) ((2 : Int32)).toNatClampNeg) * 3) + 0) 15 := (rg_in (rg_add (lo := 0) (hi := 12) (rg_mul (lo := 0) (hi := 12) hroom (rg_c (v := 3) (lo := 3) (hi := 3) (by decide)) (by decide)) (rg_c (v := 0) (lo := 0) (hi := 0) (by decide)) (by decide)) (by decide))
  refine th_iast (T := TyX a E) (Rl := fr [(10, 11), (13, 14)] [] C) hx hb hK hP hD hS 13 (by decide) (sX_13 hT) n_1 (hT.up 13 (tA_upd (tX_13 hT) tA_any)) (fr_st hF (by decide) (by decide)) dX0_addWaggon_19 (fun C_2 H locs e_3 hT hF hP hD hS => ?_)
  have t_4 := hT
  refine lv_aload_n hx hb dX0_addWaggon_20 rfl (lv_at hl 1 rfl) ?_
  refine va_get (D := D) (ci := 0) (v := .ref (a 13)) (C := RX0) (T := TX0) (N := 8) hx hb htg ig_0 hown hK hP 1 (oh_wg (by decide) (sX_1 hT)) rfl 3 (by decide) (htg _ q_104) (fun _ h9 => h9) rfl dX0_addWaggon_21 ?_
  refine lv_iload hx hb dX0_addWaggon_24 (lv_at hl 0 rfl) ?_
  refine lv_iconst (v := 1) hx hb dX0_addWaggon_26 (by decide) ?_
  refine lv_iadd hx hb dX0_addWaggon_27 ?_
  refine lv_iload_n hx hb dX0_addWaggon_28 rfl (lv_at hl 3 rfl) ?_
  have n_5 : vp_in (((ga (C 10) ((2 : Int32)).toNatClampNeg) * 3) + 1) 15 := (rg_in (rg_add (lo := 1) (hi := 13) (rg_mul (lo := 0) (hi := 12) hroom (rg_c (v := 3) (lo := 3) (hi := 3) (by decide)) (by decide)) (rg_c (v := 1) (lo := 1) (hi := 1) (by decide)) (by decide)) (by decide))
  refine th_iast (T := TyX a E) (Rl := fr [(10, 11), (13, 14)] [] C) hx hb hK hP hD hS 13 (by decide) (sX_13 hT) n_5 (hT.up 13 (tA_upd (tX_13 hT) tA_any)) (fr_st hF (by decide) (by decide)) dX0_addWaggon_29 (fun C_6 H locs e_7 hT hF hP hD hS => ?_)
  have t_8 := hT
  refine lv_aload_n hx hb dX0_addWaggon_30 rfl (lv_at hl 1 rfl) ?_
  refine va_get (D := D) (ci := 0) (v := .ref (a 13)) (C := RX0) (T := TX0) (N := 8) hx hb htg ig_0 hown hK hP 1 (oh_wg (by decide) (sX_1 hT)) rfl 3 (by decide) (htg _ q_104) (fun _ h9 => h9) rfl dX0_addWaggon_31 ?_
  refine lv_iload hx hb dX0_addWaggon_34 (lv_at hl 0 rfl) ?_
  refine lv_iconst (v := 2) hx hb dX0_addWaggon_36 (by decide) ?_
  refine lv_iadd hx hb dX0_addWaggon_37 ?_
  refine lv_iload_n hx hb dX0_addWaggon_38 rfl (lv_at hl 4 rfl) ?_
  have n_9 : vp_in (((ga (C 10) ((2 : Int32)).toNatClampNeg) * 3) + 2) 15 := (rg_in (rg_add (lo := 2) (hi := 14) (rg_mul (lo := 0) (hi := 12) hroom (rg_c (v := 3) (lo := 3) (hi := 3) (by decide)) (by decide)) (rg_c (v := 2) (lo := 2) (hi := 2) (by decide)) (by decide)) (by decide))
  refine th_iast (T := TyX a E) (Rl := fr [(10, 11), (13, 14)] [] C) hx hb hK hP hD hS 13 (by decide) (sX_13 hT) n_9 (hT.up 13 (tA_upd (tX_13 hT) tA_any)) (fr_st hF (by decide) (by decide)) dX0_addWaggon_39 (fun C_10 H locs e_11 hT hF hP hD hS => ?_)
  have t_12 := hT
  refine lv_aload_n hx hb dX0_addWaggon_40 rfl (lv_at hl 1 rfl) ?_
  refine va_get (D := D) (ci := 0) (v := .ref (a 10)) (C := RX0) (T := TX0) (N := 8) hx hb htg ig_0 hown hK hP 1 (oh_wg (by decide) (sX_1 hT)) rfl 0 (by decide) (htg _ q_97) (fun _ h9 => h9) rfl dX0_addWaggon_41 ?_
  refine lv_iconst (v := 2) hx hb dX0_addWaggon_44 (by decide) ?_
  refine lv_dup2_11 hx hb dX0_addWaggon_45 rfl rfl ?_
  refine th_iald hx hb hK hP 10 (by decide) (Eq.trans (Eq.trans (th_un e_11 (by decide)) (Eq.trans (th_un e_7 (by decide)) (th_un e_3 (by decide)))) (sX_10 hT0)) (rg_in (rg_c (v := 2) (lo := 2) (hi := 2) (by decide)) (by decide)) dX0_addWaggon_46 ?_
  refine lv_dup_x2 hx hb dX0_addWaggon_47 rfl rfl rfl ?_
  refine lv_iconst (v := 1) hx hb dX0_addWaggon_48 (by decide) ?_
  refine lv_iadd hx hb dX0_addWaggon_49 ?_
  refine th_iast (T := TyX a E) (Rl := fr [(10, 11), (13, 14)] [] C) hx hb hK hP hD hS 10 (by decide) (sX_10 hT) (rg_in (rg_c (v := 2) (lo := 2) (hi := 2) (by decide)) (by decide)) (hT.up 10 (tA_upd (tX_10 hT) (tA_stc (show _ = 2 by decide) (rg_add (lo := 1) (hi := 5) hroom (rg_c (v := 1) (lo := 1) (hi := 1) (by decide)) (by decide)) (by decide)))) (fr_st hF (by decide) (by decide)) dX0_addWaggon_50 (fun C_13 H locs e_14 hT hF hP hD hS => ?_)
  have t_15 := hT
  rw [hQ]
  exact W.iret (v := ga (C 10) ((2 : Int32)).toNatClampNeg) hx hb hr (fun t ht hW => ⟨⟨ga (C 10) ((2 : Int32)).toNatClampNeg, C_13, rfl, ⟨hT, hF, ⟨rfl, (by rw [(st_ga e_14), (Eq.trans (th_un e_11 (by decide)) (Eq.trans (th_un e_7 (by decide)) (th_un e_3 (by decide))))]), (rowPt_c (rowPt_st (rowPt_st (rowPt_st rowPt_0 e_3 (by decide) rfl (oh_rix hroom rfl rfl (by decide))) e_7 (by decide) rfl (oh_rix hroom rfl rfl (by decide))) e_11 (by decide) rfl (oh_rix hroom rfl rfl (by decide))) (th_un e_14 (by decide)))⟩⟩, ⟨by rw [ht]; exact hP, hD⟩⟩, hS.F ht⟩) hS.2.2 dX0_addWaggon_51

set_option maxHeartbeats 4000000 in
set_option maxRecDepth 100000 in
theorem e_X0_addPart (l : Launch) (D : va_G) (E : Nat → ClassId) (G : Nat → Nat) (sz : Nat) (a : Nat → Nat) (C : Nat → va_E) (hT : TyX a E C) (x1 : Int32) (x2 : Int32) (hroom : rg (ga (C 10) ((3 : Int32)).toNatClampNeg) 0 4) : Met l yX0_addPart (oh_w yX0_addPart cX0_addPart 4 (some .int)) ({ frames := 0, cells := 0, slots := 0, locals := 0 }) (oh_Pm D E G [.ref (a 1), .int x1, .int x2] (oh_W 35 a C) sz) (va_Qi (fun r (u : Nat → va_E) => TyX a E u ∧ fr [(10, 11), (14, 15)] [] C u ∧ (r = ga (C 10) ((3 : Int32)).toNatClampNeg) ∧ (ga (u 10) = upd (ga (C 10)) ((3 : Int32)).toNatClampNeg (ga (C 10) ((3 : Int32)).toNatClampNeg + 1)) ∧ (rowPt 2 (ga (C 10) ((3 : Int32)).toNatClampNeg).toNatClampNeg 2 (rwf [x1, x2]) (ga (C 14)) (ga (u 14)))) (oh_B D (va_A (oh_W 35 a C) sz) (fun u => oh_W 35 a u)) (va_A (oh_W 35 a C) sz)) 0 0 (va_A (oh_W 35 a C) sz) := by
  refine Met.ofW (cc := cX0_addPart) (maxL := 4) (ret := (some .int)) (by decide) rfl ?_
  intro p e s m args below meth c s₁ B hml hv
  obtain ⟨rfl, hsz, hP, hK, hD0, hG⟩ := hv
  have hx := B.exec
  have hb := B.bytes
  have hr := B.returns
  have hts := atoms_spec (ws := (oh_w yX0_addPart cX0_addPart 4 (some .int))) B.pre
  have htg : ∀ w ∈ oh_t, w.before _ s = true := fun w h => hts w (List.mem_cons_of_mem _ h)
  have hown : s.vm.findClass RX0 = some m.cls := findClass_of_methodNamed B.named
  have hlocks := B.notSynchronized
  have hT0 := hT
  subst hsz
  have hD := hD0.self (sz := s.heap.size)
  generalize hAe : va_A (oh_W 35 a C) s.heap.size = A at hD hG ⊢
  have hA : ∀ q : Nat, s.heap.size ≤ q → A q := fun q h => by rw [← hAe]; exact Or.inr h
  have hS : va_S A s.heap s.heap [] := va_S.rf
  have hF : fr [(10, 11), (14, 15)] [] C C := fr_rf
  have hl := lv_entry ([.ref (a 1), .int x1, .int x2]) (n := 4) (Nat.le_of_ble_eq_true rfl)
  rw [lg_entry_eq]
  generalize (lg_sl ([.ref (a 1), .int x1, .int x2]) ++ List.replicate (4 - (lg_sl ([.ref (a 1), .int x1, .int x2])).length) Slot.unset).toArray = ls at hl ⊢
  have hl : lv_has ls 4 [(0, .ref (a 1)), (1, .int x1), (2, .int x2)] := hl
  refine oh_genQ (fun Q hQ => ?_)
  refine lv_aload_n hx hb dX0_addPart_0 rfl (lv_at hl 0 rfl) ?_
  refine va_get (D := D) (ci := 0) (v := .ref (a 10)) (C := RX0) (T := TX0) (N := 8) hx hb htg ig_0 hown hK hP 1 (oh_wg (by decide) (sX_1 hT)) rfl 0 (by decide) (htg _ q_97) (fun _ h9 => h9) rfl dX0_addPart_1 ?_
  refine lv_iconst (v := 3) hx hb dX0_addPart_4 (by decide) ?_
  refine th_iald hx hb hK hP 10 (by decide) (sX_10 hT) (rg_in (rg_c (v := 3) (lo := 3) (hi := 3) (by decide)) (by decide)) dX0_addPart_5 ?_
  refine lv_iconst (v := 2) hx hb dX0_addPart_6 (by decide) ?_
  refine lv_imul hx hb dX0_addPart_7 ?_
  refine lv_istore_n (lv' := [(3, .int ((ga (C 10) ((3 : Int32)).toNatClampNeg) * 2)), (0, .ref (a 1)), (1, .int x1), (2, .int x2)]) hx hb dX0_addPart_8 rfl hl (by decide) rfl (fun ls hl => ?_)
  refine lv_aload_n hx hb dX0_addPart_9 rfl (lv_at hl 1 rfl) ?_
  refine va_get (D := D) (ci := 0) (v := .ref (a 14)) (C := RX0) (T := TX0) (N := 8) hx hb htg ig_0 hown hK hP 1 (oh_wg (by decide) (sX_1 hT)) rfl 4 (by decide) (htg _ q_105) (fun _ h9 => h9) rfl dX0_addPart_10 ?_
  refine lv_iload_n hx hb dX0_addPart_13 rfl (lv_at hl 0 rfl) ?_
  refine lv_iconst (v := 0) hx hb dX0_addPart_14 (by decide) ?_
  refine lv_iadd hx hb dX0_addPart_15 ?_
  refine lv_iload_n hx hb dX0_addPart_16 rfl (lv_at hl 2 rfl) ?_
  have n_1 : vp_in (((ga (C 10) ((3 : Int32)).toNatClampNeg) * 2) + 0) 10 := (rg_in (rg_add (lo := 0) (hi := 8) (rg_mul (lo := 0) (hi := 8) hroom (rg_c (v := 2) (lo := 2) (hi := 2) (by decide)) (by decide)) (rg_c (v := 0) (lo := 0) (hi := 0) (by decide)) (by decide)) (by decide))
  refine th_iast (T := TyX a E) (Rl := fr [(10, 11), (14, 15)] [] C) hx hb hK hP hD hS 14 (by decide) (sX_14 hT) n_1 (hT.up 14 (tA_upd (tX_14 hT) tA_any)) (fr_st hF (by decide) (by decide)) dX0_addPart_17 (fun C_2 H locs e_3 hT hF hP hD hS => ?_)
  have t_4 := hT
  refine lv_aload_n hx hb dX0_addPart_18 rfl (lv_at hl 1 rfl) ?_
  refine va_get (D := D) (ci := 0) (v := .ref (a 14)) (C := RX0) (T := TX0) (N := 8) hx hb htg ig_0 hown hK hP 1 (oh_wg (by decide) (sX_1 hT)) rfl 4 (by decide) (htg _ q_105) (fun _ h9 => h9) rfl dX0_addPart_19 ?_
  refine lv_iload_n hx hb dX0_addPart_22 rfl (lv_at hl 0 rfl) ?_
  refine lv_iconst (v := 1) hx hb dX0_addPart_23 (by decide) ?_
  refine lv_iadd hx hb dX0_addPart_24 ?_
  refine lv_iload_n hx hb dX0_addPart_25 rfl (lv_at hl 3 rfl) ?_
  have n_5 : vp_in (((ga (C 10) ((3 : Int32)).toNatClampNeg) * 2) + 1) 10 := (rg_in (rg_add (lo := 1) (hi := 9) (rg_mul (lo := 0) (hi := 8) hroom (rg_c (v := 2) (lo := 2) (hi := 2) (by decide)) (by decide)) (rg_c (v := 1) (lo := 1) (hi := 1) (by decide)) (by decide)) (by decide))
  refine th_iast (T := TyX a E) (Rl := fr [(10, 11), (14, 15)] [] C) hx hb hK hP hD hS 14 (by decide) (sX_14 hT) n_5 (hT.up 14 (tA_upd (tX_14 hT) tA_any)) (fr_st hF (by decide) (by decide)) dX0_addPart_26 (fun C_6 H locs e_7 hT hF hP hD hS => ?_)
  have t_8 := hT
  refine lv_aload_n hx hb dX0_addPart_27 rfl (lv_at hl 1 rfl) ?_
  refine va_get (D := D) (ci := 0) (v := .ref (a 10)) (C := RX0) (T := TX0) (N := 8) hx hb htg ig_0 hown hK hP 1 (oh_wg (by decide) (sX_1 hT)) rfl 0 (by decide) (htg _ q_97) (fun _ h9 => h9) rfl dX0_addPart_28 ?_
  refine lv_iconst (v := 3) hx hb dX0_addPart_31 (by decide) ?_
  refine lv_dup2_11 hx hb dX0_addPart_32 rfl rfl ?_
  refine th_iald hx hb hK hP 10 (by decide) (Eq.trans (Eq.trans (th_un e_7 (by decide)) (th_un e_3 (by decide))) (sX_10 hT0)) (rg_in (rg_c (v := 3) (lo := 3) (hi := 3) (by decide)) (by decide)) dX0_addPart_33 ?_
  refine lv_dup_x2 hx hb dX0_addPart_34 rfl rfl rfl ?_
  refine lv_iconst (v := 1) hx hb dX0_addPart_35 (by decide) ?_
  refine lv_iadd hx hb dX0_addPart_36 ?_
  refine th_iast (T := TyX a E) (Rl := fr [(10, 11), (14, 15)] [] C) hx hb hK hP hD hS 10 (by decide) (sX_10 hT) (rg_in (rg_c (v := 3) (lo := 3) (hi := 3) (by decide)) (by decide)) (hT.up 10 (tA_upd (tX_10 hT) (tA_stc (show _ = 3 by decide) (rg_add (lo := 1) (hi := 5) hroom (rg_c (v := 1) (lo := 1) (hi := 1) (by decide)) (by decide)) (by decide)))) (fr_st hF (by decide) (by decide)) dX0_addPart_37 (fun C_9 H locs e_10 hT hF hP hD hS => ?_)
  have t_11 := hT
  rw [hQ]
  exact W.iret (v := ga (C 10) ((3 : Int32)).toNatClampNeg) hx hb hr (fun t ht hW => ⟨⟨ga (C 10) ((3 : Int32)).toNatClampNeg, C_9, rfl, ⟨hT, hF, ⟨rfl, (by rw [(st_ga e_10), (Eq.trans (th_un e_7 (by decide)) (th_un e_3 (by decide)))]), (rowPt_c (rowPt_st (rowPt_st rowPt_0 e_3 (by decide) rfl (oh_rix hroom rfl rfl (by decide))) e_7 (by decide) rfl (oh_rix hroom rfl rfl (by decide))) (th_un e_10 (by decide)))⟩⟩, ⟨by rw [ht]; exact hP, hD⟩⟩, hS.F ht⟩) hS.2.2 dX0_addPart_38

set_option maxHeartbeats 4000000 in
set_option maxRecDepth 100000 in
theorem e_X0_hasRoom (l : Launch) (D : va_G) (E : Nat → ClassId) (G : Nat → Nat) (a : Nat → Nat) (C : Nat → va_E) (hT : TyX a E C) (x1 : Int32) (hx1 : rg x1 0 3) : Met l yX0_hasRoom (oh_w yX0_hasRoom cX0_hasRoom 2 (some .boolean)) ({ frames := 0, cells := 0, slots := 0, locals := 0 }) (oh_Pp D E G [.ref (a 1), .int x1] (oh_W 35 a C)) (vp_Si (fun r => (r = 0 ∨ r = 1) ∧ (r ≠ 0 → (ga (C 10) x1.toNatClampNeg < oh_room x1.toNatClampNeg)) ∧ (r = 0 → (¬ ga (C 10) x1.toNatClampNeg < oh_room x1.toNatClampNeg)))) 0 0 (fun _ => False) := by
  refine Met.ofW (cc := cX0_hasRoom) (maxL := 2) (ret := (some .boolean)) (by decide) rfl ?_
  intro p e s m args below meth c s₁ B hml hv
  obtain ⟨rfl, hP, hK, hG⟩ := hv
  have hx := B.exec
  have hb := B.bytes
  have hr := B.returns
  have hts := atoms_spec (ws := (oh_w yX0_hasRoom cX0_hasRoom 2 (some .boolean))) B.pre
  have htg : ∀ w ∈ oh_t, w.before _ s = true := fun w h => hts w (List.mem_cons_of_mem _ h)
  have hown : s.vm.findClass RX0 = some m.cls := findClass_of_methodNamed B.named
  have hlocks := B.notSynchronized
  have hT0 := hT
  have hS : va_S (fun _ => False) s.heap s.heap [] := va_S.rf
  have hl := lv_entry ([.ref (a 1), .int x1]) (n := 2) (Nat.le_of_ble_eq_true rfl)
  rw [lg_entry_eq]
  generalize (lg_sl ([.ref (a 1), .int x1]) ++ List.replicate (2 - (lg_sl ([.ref (a 1), .int x1])).length) Slot.unset).toArray = ls at hl ⊢
  have hl : lv_has ls 2 [(0, .ref (a 1)), (1, .int x1)] := hl
  refine oh_genQ (fun Q hQ => ?_)
  refine lv_aload_n hx hb dX0_hasRoom_0 rfl (lv_at hl 0 rfl) ?_
  refine va_get (D := D) (ci := 0) (v := .ref (a 10)) (C := RX0) (T := TX0) (N := 8) hx hb htg ig_0 hown hK hP 1 (oh_wg (by decide) (sX_1 hT)) rfl 0 (by decide) (htg _ q_97) (fun _ h9 => h9) rfl dX0_hasRoom_1 ?_
  refine lv_iload_n hx hb dX0_hasRoom_4 rfl (lv_at hl 1 rfl) ?_
  have n_1 : vp_in x1 4 := (rg_in hx1 (by decide))
  refine th_iald hx hb hK hP 10 (by decide) (sX_10 hT) n_1 dX0_hasRoom_5 ?_
  refine va_getsN hx hb hG.2.2.2.1.1 hS hown (va_Nw.use rfl (hG.2.1 ("OneHeavyLoad$Land", 9, "OneHeavyLoad", "ROOM", "[I", "OneHeavyLoad") (List.mem_of_getElem? (i := 0) rfl))) (fun _ h9 => h9) dX0_hasRoom_6 ?_
  refine lv_iload_n hx hb dX0_hasRoom_9 rfl (lv_at hl 1 rfl) ?_
  refine va_ti (v := .int (oh_room (x1).toNatClampNeg)) hx hb hG.2.2.2.1.2 hS (rg_in hx1 (by decide)) rfl dX0_hasRoom_10 ?_
  refine lv_icmp_ge (tgt := 18) hx hb dX0_hasRoom_11 (by decide) (fun (c_2 : (oh_room (x1).toNatClampNeg) ≤ (ga (C 10) (x1).toNatClampNeg)) => ?_) (fun (c_2 : ¬ ((oh_room (x1).toNatClampNeg) ≤ (ga (C 10) (x1).toNatClampNeg))) => ?_)
  · refine lv_iconst (v := 0) hx hb dX0_hasRoom_18 (by decide) ?_
    rw [hQ]
    exact W.zret (v := 0) (ty := .boolean) hx hb hr (by decide) (fun t ht hW => ⟨0, rfl, ⟨(Or.inl rfl), (fun h9 => absurd rfl h9), (fun _ => (Int32.not_lt.mpr c_2))⟩, ht⟩) (fun q h => by cases h) dX0_hasRoom_19
  · refine lv_iconst (v := 1) hx hb dX0_hasRoom_14 (by decide) ?_
    refine lv_goto (tgt := 19) hx hb dX0_hasRoom_15 (by decide) ?_
    rw [hQ]
    exact W.zret (v := 1) (ty := .boolean) hx hb hr (by decide) (fun t ht hW => ⟨1, rfl, ⟨(Or.inr rfl), (fun _ => (Int32.not_le.mp c_2)), (fun h9 => absurd h9 (by decide))⟩, ht⟩) (fun q h => by cases h) dX0_hasRoom_19
