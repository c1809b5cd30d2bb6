/-! EXACT: a row of a table is written -/
def rwf (l : List Int32) : Nat → Int32 := fun j => l.getD j 0
def rowPt (w i m : Nat) (v f g : Nat → Int32) : Prop := (∀ j, j < m → g (i * w + j) = v j) ∧ ∀ k, (k < i * w ∨ i * w + w ≤ k) → g k = f k
theorem rowPt_0 {w i : Nat} {v f : Nat → Int32} : rowPt w i 0 v f f := ⟨fun j hj => absurd hj (Nat.not_lt_zero j), fun _ _ => rfl⟩
theorem rowPt_s {w i m ix : Nat} {v f g : Nat → Int32} {x : Int32} (h : rowPt w i m v f g) (hm : m < w) (hx : x = v m) (hi : ix = i * w + m) : rowPt w i (m + 1) v f (upd g ix x) := by
  subst hi
  refine ⟨fun j hj => ?_, fun k hk => ?_⟩
  · by_cases e : j = m
    · rw [e, pk_us, hx]
    · rw [pk_un (by omega)]
      exact h.1 j (by omega)
  · rw [pk_un (by omega)]
    exact h.2 k hk
theorem rowPt_st {w i m ix k N : Nat} {v f : Nat → Int32} {x : Int32} {cA : ClassId} {C C2 : Nat → va_E} (h : rowPt w i m v f (ga (C k))) (e : C2 = updc C k (.inl (cA, N, .inl (upd (ga (C k)) ix x)))) (hm : m < w) (hx : x = v m) (hi : ix = i * w + m) : rowPt w i (m + 1) v f (ga (C2 k)) := by
  rw [st_ga e]
  exact rowPt_s h hm hx hi
theorem rowPt_c {w i m k : Nat} {v f : Nat → Int32} {C C2 : Nat → va_E} (h : rowPt w i m v f (ga (C k))) (e : C2 k = C k) : rowPt w i m v f (ga (C2 k)) := by rw [e]; exact h
theorem oh_rix {c W J : Int32} {u : Int} {w j : Nat} (hc : rg c 0 u) (hW : W.toInt = (w : Int)) (hJ : J.toInt = (j : Int)) (hd : decide (u * w + j ≤ 2147483647 ∧ 0 ≤ u) = true) : (c * W + J).toNatClampNeg = c.toNatClampNeg * w + j := by
  have h2 := of_decide_eq_true hd
  obtain ⟨b1, b2⟩ := hc
  have hw : (0 : Int) ≤ (w : Int) := Int.natCast_nonneg w
  have m1 : 0 ≤ c.toInt * (w : Int) := Int.mul_nonneg b1 hw
  have m2 : c.toInt * (w : Int) ≤ u * (w : Int) := Int.mul_le_mul_of_nonneg_right b2 hw
  have e1 : (c * W).toInt = c.toInt * (w : Int) := by rw [Int32.toInt_mul, hW, oh_bmod (by omega) (by omega)]
  have e2 : (c * W + J).toInt = c.toInt * (w : Int) + (j : Int) := by rw [Int32.toInt_add, e1, hJ, oh_bmod (by omega) (by omega)]
  show (c * W + J).toInt.toNat = c.toInt.toNat * w + j
  rw [e2]
  have : ((c.toInt.toNat * w + j : Nat) : Int) = c.toInt * (w : Int) + (j : Int) := by
    rw [Int.natCast_add, Int.natCast_mul, Int.toNat_of_nonneg b1]
  omega
theorem oh_rixz {c W z : Int32} {u uz : Int} {w : Nat} (hc : rg c 0 u) (hW : W.toInt = (w : Int)) (hz : rg z 0 uz) (hd : decide (u * w + uz ≤ 2147483647 ∧ 0 ≤ u) = true) : (c * W + z).toNatClampNeg = c.toNatClampNeg * w + z.toNatClampNeg := by
  have h2 := of_decide_eq_true hd
  obtain ⟨b1, b2⟩ := hc
  obtain ⟨z1, z2⟩ := hz
  have hw : (0 : Int) ≤ (w : Int) := Int.natCast_nonneg w
  have m1 : 0 ≤ c.toInt * (w : Int) := Int.mul_nonneg b1 hw
  have m2 : c.toInt * (w : Int) ≤ u * (w : Int) := Int.mul_le_mul_of_nonneg_right b2 hw
  have e1 : (c * W).toInt = c.toInt * (w : Int) := by rw [Int32.toInt_mul, hW, oh_bmod (by omega) (by omega)]
  have e2 : (c * W + z).toInt = c.toInt * (w : Int) + z.toInt := by rw [Int32.toInt_add, e1, oh_bmod (by omega) (by omega)]
  show (c * W + z).toInt.toNat = c.toInt.toNat * w + z.toInt.toNat
  rw [e2]
  have : ((c.toInt.toNat * w : Nat) : Int) = c.toInt * (w : Int) := by
    rw [Int.natCast_mul, Int.toNat_of_nonneg b1]
  omega
theorem rowPt_z {w i ix k N : Nat} {v f : Nat → Int32} {x z : Int32} {uz : Int} {cA : ClassId} {C C2 : Nat → va_E} (h : rowPt w i z.toNatClampNeg v f (ga (C k))) (e : C2 = updc C k (.inl (cA, N, .inl (upd (ga (C k)) ix x)))) (hz : rg z 0 uz) (hu : decide (uz < (w : Int) ∧ uz ≤ 1000) = true) (hx : x = v z.toNatClampNeg) (hi : ix = i * w + z.toNatClampNeg) : rowPt w i (z + 1).toNatClampNeg v f (ga (C2 k)) := by
  have hu2 := of_decide_eq_true hu
  have e2 := oh_nat hz (by decide)
  have e1 : (z + 1).toInt = z.toInt + 1 := by
    rw [Int32.toInt_add]
    exact oh_bmod (by show _ ≤ z.toInt + 1; have := hz.1; omega) (by show z.toInt + 1 ≤ _; have := hz.2; omega)
  have e3 : (z + 1).toNatClampNeg = z.toNatClampNeg + 1 := by
    show (z + 1).toInt.toNat = z.toInt.toNat + 1
    rw [e1]
    have := hz.1
    omega
  rw [e3]
  exact rowPt_st h e (by have := hz.2; omega) hx hi
theorem rwf5 {a b c d e : Int32} {k : Nat} (h : 5 ≤ k) (h2 : k < 10) : (0 : Int32) = rwf [a, b, c, d, e, 0, 0, 0, 0, 0] k := by
  rcases (show k = 5 ∨ k = 6 ∨ k = 7 ∨ k = 8 ∨ k = 9 by omega) with rfl | rfl | rfl | rfl | rfl <;> rfl
theorem oh_zeq {z : Int32} {k : Int32} {l u : Int} (hz : rg z l u) (c : k ≤ z) (hd : decide (u ≤ k.toInt) = true) : z = k := by
  have h2 := of_decide_eq_true hd
  have := Int32.le_iff_toInt_le.mp c
  have := hz.2
  exact Int32.toInt_inj.mp (by omega)
/-- more columns of a row that was written -/
theorem rowPt_2 {w i j1 j2 : Nat} {v v2 f g : Nat → Int32} {x1 x2 : Int32} (h : rowPt w i w v f g) (h1 : j1 < w) (h2 : j2 < w) (hne : j1 ≠ j2) (e1 : x1 = v2 j1) (e2 : x2 = v2 j2) (ev : ∀ j, j < w → j ≠ j1 → j ≠ j2 → v j = v2 j) : rowPt w i w v2 f (upd (upd g (i * w + j1) x1) (i * w + j2) x2) := by
  refine ⟨fun j hj => ?_, fun k hk => ?_⟩
  · by_cases q2 : j = j2
    · rw [q2, pk_us, e2]
    · rw [pk_un (by omega)]
      by_cases q1 : j = j1
      · rw [q1, pk_us, e1]
      · rw [pk_un (by omega), h.1 j hj]
        exact ev j hj q1 q2
  · rw [pk_un (by omega), pk_un (by omega)]
    exact h.2 k hk
theorem rowPt_end {w i : Nat} {v f g : Nat → Int32} {z W : Int32} (h : rowPt w i z.toNatClampNeg v f g) (e : z = W) (hW : W.toNatClampNeg = w) : rowPt w i w v f g := by
  rw [e, hW] at h
  exact h

set_option maxHeartbeats 4000000 in
set_option maxRecDepth 100000 in
theorem e_X0_addRoad (l : Launch) (D : va_G) (E : Nat → ClassId) (G : Nat → Nat) (sz : Nat) (a : Nat → Nat) (C : Nat → va_E) (hT : TyX a E C) (x1 : Int32) (x2 : Int32) (x3 : Int32) (x4 : Int32) (x5 : Int32) (x6 : Int32) (hx1 : rg x1 0 15) (hx2 : rg x2 0 15) (hroom : rg (ga (C 10) ((0 : Int32)).toNatClampNeg) 0 23) : Met l yX0_addRoad (oh_w yX0_addRoad cX0_addRoad 8 (some .int)) ({ frames := 0, cells := 0, slots := 0, locals := 0 }) (oh_Pm D E G [.ref (a 1), .int x1, .int x2, .int x3, .int x4, .int x5, .int x6] (oh_W 35 a C) sz) (va_Qi (fun r (u : Nat → va_E) => TyX a E u ∧ fr [(10, 12)] [] C u ∧ (r = ga (C 10) ((0 : Int32)).toNatClampNeg) ∧ (ga (u 10) = upd (ga (C 10)) ((0 : Int32)).toNatClampNeg (ga (C 10) ((0 : Int32)).toNatClampNeg + 1)) ∧ (rowPt 7 (ga (C 10) ((0 : Int32)).toNatClampNeg).toNatClampNeg 7 (rwf [x1, x2, x3, x4, x5, x6, 0]) (ga (C 11)) (ga (u 11)))) (oh_B D (va_A (oh_W 35 a C) sz) (fun u => oh_W 35 a u)) (va_A (oh_W 35 a C) sz)) 0 0 (va_A (oh_W 35 a C) sz) := by
  refine Met.ofW (cc := cX0_addRoad) (maxL := 8) (ret := (some .int)) (by decide) rfl ?_
  intro p e s m args below meth c s₁ B hml hv
  obtain ⟨rfl, hsz, hP, hK, hD0, hG⟩ := hv
  have hx := B.exec
  have hb := B.bytes
  have hr := B.returns
  have hts := atoms_spec (ws := (oh_w yX0_addRoad cX0_addRoad 8 (some .int))) B.pre
  have htg : ∀ w ∈ oh_t, w.before _ s = true := fun w h => hts w (List.mem_cons_of_mem _ h)
  have hown : s.vm.findClass RX0 = some m.cls := findClass_of_methodNamed B.named
  have hlocks := B.notSynchronized
  have hT0 := hT
  subst hsz
  have hD := hD0.self (sz := s.heap.size)
  generalize hAe : va_A (oh_W 35 a C) s.heap.size = A at hD hG ⊢
  have hA : ∀ q : Nat, s.heap.size ≤ q → A q := fun q h => by rw [← hAe]; exact Or.inr h
  have hS : va_S A s.heap s.heap [] := va_S.rf
  have hF : fr [(10, 12)] [] C C := fr_rf
  have hl := lv_entry ([.ref (a 1), .int x1, .int x2, .int x3, .int x4, .int x5, .int x6]) (n := 8) (Nat.le_of_ble_eq_true rfl)
  rw [lg_entry_eq]
  generalize (lg_sl ([.ref (a 1), .int x1, .int x2, .int x3, .int x4, .int x5, .int x6]) ++ List.replicate (8 - (lg_sl ([.ref (a 1), .int x1, .int x2, .int x3, .int x4, .int x5, .int x6])).length) Slot.unset).toArray = ls at hl ⊢
  have hl : lv_has ls 8 [(0, .ref (a 1)), (1, .int x1), (2, .int x2), (3, .int x3), (4, .int x4), (5, .int x5), (6, .int x6)] := hl
  refine oh_genQ (fun Q hQ => ?_)
  refine lv_aload_n hx hb dX0_addRoad_0 rfl (lv_at hl 0 rfl) ?_
  refine va_get (D := D) (ci := 0) (v := .ref (a 10)) (C := RX0) (T := TX0) (N := 8) hx hb htg ig_0 hown hK hP 1 (oh_wg (by decide) (sX_1 hT)) rfl 0 (by decide) (htg _ q_97) (fun _ h9 => h9) rfl dX0_addRoad_1 ?_
  refine lv_iconst (v := 0) hx hb dX0_addRoad_4 (by decide) ?_
  refine th_iald hx hb hK hP 10 (by decide) (sX_10 hT) (rg_in (rg_c (v := 0) (lo := 0) (hi := 0) (by decide)) (by decide)) dX0_addRoad_5 ?_
  refine lv_bipush (v := 7) hx hb dX0_addRoad_6 (by decide) ?_
  refine lv_imul hx hb dX0_addRoad_8 ?_
  refine lv_istore (lv' := [(7, .int ((ga (C 10) ((0 : Int32)).toNatClampNeg) * 7)), (0, .ref (a 1)), (1, .int x1), (2, .int x2), (3, .int x3), (4, .int x4), (5, .int x5), (6, .int x6)]) hx hb dX0_addRoad_9 hl (by decide) rfl (fun ls hl => ?_)
  refine lv_aload_n hx hb dX0_addRoad_11 rfl (lv_at hl 1 rfl) ?_
  refine va_get (D := D) (ci := 0) (v := .ref (a 11)) (C := RX0) (T := TX0) (N := 8) hx hb htg ig_0 hown hK hP 1 (oh_wg (by decide) (sX_1 hT)) rfl 1 (by decide) (htg _ q_101) (fun _ h9 => h9) rfl dX0_addRoad_12 ?_
  refine lv_iload hx hb dX0_addRoad_15 (lv_at hl 0 rfl) ?_
  refine lv_iconst (v := 0) hx hb dX0_addRoad_17 (by decide) ?_
  refine lv_iadd hx hb dX0_addRoad_18 ?_
  refine lv_iload_n hx hb dX0_addRoad_19 rfl (lv_at hl 2 rfl) ?_
  have n_1 : vp_in (((ga (C 10) ((0 : Int32)).toNatClampNeg) * 7) + 0) 168 := (rg_in (rg_add (lo := 0) (hi := 161) (rg_mul (lo := 0) (hi := 161) hroom (rg_c (v := 7) (lo := 7) (hi := 7) (by decide)) (by decide)) (rg_c (v := 0) (lo := 0) (hi := 0) (by decide)) (by decide)) (by decide))
  refine th_iast (T := TyX a E) (Rl := fr [(10, 12)] [] C) hx hb hK hP hD hS 11 (by decide) (sX_11 hT) n_1 (hT.up 11 (tA_upd (tX_11 hT) (tA_stc (oh_col (W := 7) hroom rfl (rg_c (v := 0) (lo := 0) (hi := 0) (by decide)) (by decide)) hx1 (by decide)))) (fr_st hF (by decide) (by decide)) dX0_addRoad_20 (fun C_2 H locs e_3 hT hF hP hD hS => ?_)
  have t_4 := hT
  refine lv_aload_n hx hb dX0_addRoad_21 rfl (lv_at hl 1 rfl) ?_
  refine va_get (D := D) (ci := 0) (v := .ref (a 11)) (C := RX0) (T := TX0) (N := 8) hx hb htg ig_0 hown hK hP 1 (oh_wg (by decide) (sX_1 hT)) rfl 1 (by decide) (htg _ q_101) (fun _ h9 => h9) rfl dX0_addRoad_22 ?_
  refine lv_iload hx hb dX0_addRoad_25 (lv_at hl 0 rfl) ?_
  refine lv_iconst (v := 1) hx hb dX0_addRoad_27 (by decide) ?_
  refine lv_iadd hx hb dX0_addRoad_28 ?_
  refine lv_iload_n hx hb dX0_addRoad_29 rfl (lv_at hl 3 rfl) ?_
  have n_5 : vp_in (((ga (C 10) ((0 : Int32)).toNatClampNeg) * 7) + 1) 168 := (rg_in (rg_add (lo := 1) (hi := 162) (rg_mul (lo := 0) (hi := 161) hroom (rg_c (v := 7) (lo := 7) (hi := 7) (by decide)) (by decide)) (rg_c (v := 1) (lo := 1) (hi := 1) (by decide)) (by decide)) (by decide))
  refine th_iast (T := TyX a E) (Rl := fr [(10, 12)] [] C) hx hb hK hP hD hS 11 (by decide) (sX_11 hT) n_5 (hT.up 11 (tA_upd (tX_11 hT) (tA_stc (oh_col (W := 7) hroom rfl (rg_c (v := 1) (lo := 1) (hi := 1) (by decide)) (by decide)) hx2 (by decide)))) (fr_st hF (by decide) (by decide)) dX0_addRoad_30 (fun C_6 H locs e_7 hT hF hP hD hS => ?_)
  have t_8 := hT
  refine lv_aload_n hx hb dX0_addRoad_31 rfl (lv_at hl 1 rfl) ?_
  refine va_get (D := D) (ci := 0) (v := .ref (a 11)) (C := RX0) (T := TX0) (N := 8) hx hb htg ig_0 hown hK hP 1 (oh_wg (by decide) (sX_1 hT)) rfl 1 (by decide) (htg _ q_101) (fun _ h9 => h9) rfl dX0_addRoad_32 ?_
  refine lv_iload hx hb dX0_addRoad_35 (lv_at hl 0 rfl) ?_
  refine lv_iconst (v := 2) hx hb dX0_addRoad_37 (by decide) ?_
  refine lv_iadd hx hb dX0_addRoad_38 ?_
  refine lv_iload_n hx hb dX0_addRoad_39 rfl (lv_at hl 4 rfl) ?_
  have n_9 : vp_in (((ga (C 10) ((0 : Int32)).toNatClampNeg) * 7) + 2) 168 := (rg_in (rg_add (lo := 2) (hi := 163) (rg_mul (lo := 0) (hi := 161) hroom (rg_c (v := 7) (lo := 7) (hi := 7) (by decide)) (by decide)) (rg_c (v := 2) (lo := 2) (hi := 2) (by decide)) (by decide)) (by decide))
  refine th_iast (T := TyX a E) (Rl := fr [(10, 12)] [] C) hx hb hK hP hD hS 11 (by decide) (sX_11 hT) n_9 (hT.up 11 (tA_upd (tX_11 hT) (tA_stc (oh_col (W := 7) hroom rfl (rg_c (v := 2) (lo := 2) (hi := 2) (by decide)) (by decide)) (rg_any _) (by decide)))) (fr_st hF (by decide) (by decide)) dX0_addRoad_40 (fun C_10 H locs e_11 hT hF hP hD hS => ?_)
  have t_12 := hT
  refine lv_aload_n hx hb dX0_addRoad_41 rfl (lv_at hl 1 rfl) ?_
  refine va_get (D := D) (ci := 0) (v := .ref (a 11)) (C := RX0) (T := TX0) (N := 8) hx hb htg ig_0 hown hK hP 1 (oh_wg (by decide) (sX_1 hT)) rfl 1 (by decide) (htg _ q_101) (fun _ h9 => h9) rfl dX0_addRoad_42 ?_
  refine lv_iload hx hb dX0_addRoad_45 (lv_at hl 0 rfl) ?_
  refine lv_iconst (v := 3) hx hb dX0_addRoad_47 (by decide) ?_
  refine lv_iadd hx hb dX0_addRoad_48 ?_
  refine lv_iload hx hb dX0_addRoad_49 (lv_at hl 5 rfl) ?_
  have n_13 : vp_in (((ga (C 10) ((0 : Int32)).toNatClampNeg) * 7) + 3) 168 := (rg_in (rg_add (lo := 3) (hi := 164) (rg_mul (lo := 0) (hi := 161) hroom (rg_c (v := 7) (lo := 7) (hi := 7) (by decide)) (by decide)) (rg_c (v := 3) (lo := 3) (hi := 3) (by decide)) (by decide)) (by decide))
  refine th_iast (T := TyX a E) (Rl := fr [(10, 12)] [] C) hx hb hK hP hD hS 11 (by decide) (sX_11 hT) n_13 (hT.up 11 (tA_upd (tX_11 hT) (tA_stc (oh_col (W := 7) hroom rfl (rg_c (v := 3) (lo := 3) (hi := 3) (by decide)) (by decide)) (rg_any _) (by decide)))) (fr_st hF (by decide) (by decide)) dX0_addRoad_51 (fun C_14 H locs e_15 hT hF hP hD hS => ?_)
  have t_16 := hT
  refine lv_aload_n hx hb dX0_addRoad_52 rfl (lv_at hl 1 rfl) ?_
  refine va_get (D := D) (ci := 0) (v := .ref (a 11)) (C := RX0) (T := TX0) (N := 8) hx hb htg ig_0 hown hK hP 1 (oh_wg (by decide) (sX_1 hT)) rfl 1 (by decide) (htg _ q_101) (fun _ h9 => h9) rfl dX0_addRoad_53 ?_
  refine lv_iload hx hb dX0_addRoad_56 (lv_at hl 0 rfl) ?_
  refine lv_iconst (v := 4) hx hb dX0_addRoad_58 (by decide) ?_
  refine lv_iadd hx hb dX0_addRoad_59 ?_
  refine lv_iload hx hb dX0_addRoad_60 (lv_at hl 6 rfl) ?_
  have n_17 : vp_in (((ga (C 10) ((0 : Int32)).toNatClampNeg) * 7) + 4) 168 := (rg_in (rg_add (lo := 4) (hi := 165) (rg_mul (lo := 0) (hi := 161) hroom (rg_c (v := 7) (lo := 7) (hi := 7) (by decide)) (by decide)) (rg_c (v := 4) (lo := 4) (hi := 4) (by decide)) (by decide)) (by decide))
  refine th_iast (T := TyX a E) (Rl := fr [(10, 12)] [] C) hx hb hK hP hD hS 11 (by decide) (sX_11 hT) n_17 (hT.up 11 (tA_upd (tX_11 hT) (tA_stc (oh_col (W := 7) hroom rfl (rg_c (v := 4) (lo := 4) (hi := 4) (by decide)) (by decide)) (rg_any _) (by decide)))) (fr_st hF (by decide) (by decide)) dX0_addRoad_62 (fun C_18 H locs e_19 hT hF hP hD hS => ?_)
  have t_20 := hT
  refine lv_aload_n hx hb dX0_addRoad_63 rfl (lv_at hl 1 rfl) ?_
  refine va_get (D := D) (ci := 0) (v := .ref (a 11)) (C := RX0) (T := TX0) (N := 8) hx hb htg ig_0 hown hK hP 1 (oh_wg (by decide) (sX_1 hT)) rfl 1 (by decide) (htg _ q_101) (fun _ h9 => h9) rfl dX0_addRoad_64 ?_
  refine lv_iload hx hb dX0_addRoad_67 (lv_at hl 0 rfl) ?_
  refine lv_iconst (v := 5) hx hb dX0_addRoad_69 (by decide) ?_
  refine lv_iadd hx hb dX0_addRoad_70 ?_
  refine lv_iload hx hb dX0_addRoad_71 (lv_at hl 7 rfl) ?_
  have n_21 : vp_in (((ga (C 10) ((0 : Int32)).toNatClampNeg) * 7) + 5) 168 := (rg_in (rg_add (lo := 5) (hi := 166) (rg_mul (lo := 0) (hi := 161) hroom (rg_c (v := 7) (lo := 7) (hi := 7) (by decide)) (by decide)) (rg_c (v := 5) (lo := 5) (hi := 5) (by decide)) (by decide)) (by decide))
  refine th_iast (T := TyX a E) (Rl := fr [(10, 12)] [] C) hx hb hK hP hD hS 11 (by decide) (sX_11 hT) n_21 (hT.up 11 (tA_upd (tX_11 hT) (tA_stc (oh_col (W := 7) hroom rfl (rg_c (v := 5) (lo := 5) (hi := 5) (by decide)) (by decide)) (rg_any _) (by decide)))) (fr_st hF (by decide) (by decide)) dX0_addRoad_73 (fun C_22 H locs e_23 hT hF hP hD hS => ?_)
  have t_24 := hT
  refine lv_aload_n hx hb dX0_addRoad_74 rfl (lv_at hl 1 rfl) ?_
  refine va_get (D := D) (ci := 0) (v := .ref (a 11)) (C := RX0) (T := TX0) (N := 8) hx hb htg ig_0 hown hK hP 1 (oh_wg (by decide) (sX_1 hT)) rfl 1 (by decide) (htg _ q_101) (fun _ h9 => h9) rfl dX0_addRoad_75 ?_
  refine lv_iload hx hb dX0_addRoad_78 (lv_at hl 0 rfl) ?_
  refine lv_bipush (v := 6) hx hb dX0_addRoad_80 (by decide) ?_
  refine lv_iadd hx hb dX0_addRoad_82 ?_
  refine lv_iconst (v := 0) hx hb dX0_addRoad_83 (by decide) ?_
  have n_25 : vp_in (((ga (C 10) ((0 : Int32)).toNatClampNeg) * 7) + 6) 168 := (rg_in (rg_add (lo := 6) (hi := 167) (rg_mul (lo := 0) (hi := 161) hroom (rg_c (v := 7) (lo := 7) (hi := 7) (by decide)) (by decide)) (rg_c (v := 6) (lo := 6) (hi := 6) (by decide)) (by decide)) (by decide))
  refine th_iast (T := TyX a E) (Rl := fr [(10, 12)] [] C) hx hb hK hP hD hS 11 (by decide) (sX_11 hT) n_25 (hT.up 11 (tA_upd (tX_11 hT) (tA_stc (oh_col (W := 7) hroom rfl (rg_c (v := 6) (lo := 6) (hi := 6) (by decide)) (by decide)) (rg_c (v := 0) (lo := 0) (hi := 0) (by decide)) (by decide)))) (fr_st hF (by decide) (by decide)) dX0_addRoad_84 (fun C_26 H locs e_27 hT hF hP hD hS => ?_)
  have t_28 := hT
  refine lv_aload_n hx hb dX0_addRoad_85 rfl (lv_at hl 1 rfl) ?_
  refine va_get (D := D) (ci := 0) (v := .ref (a 10)) (C := RX0) (T := TX0) (N := 8) hx hb htg ig_0 hown hK hP 1 (oh_wg (by decide) (sX_1 hT)) rfl 0 (by decide) (htg _ q_97) (fun _ h9 => h9) rfl dX0_addRoad_86 ?_
  refine lv_iconst (v := 0) hx hb dX0_addRoad_89 (by decide) ?_
  refine lv_dup2_11 hx hb dX0_addRoad_90 rfl rfl ?_
  refine th_iald hx hb hK hP 10 (by decide) (Eq.trans (Eq.trans (th_un e_27 (by decide)) (Eq.trans (th_un e_23 (by decide)) (Eq.trans (th_un e_19 (by decide)) (Eq.trans (th_un e_15 (by decide)) (Eq.trans (th_un e_11 (by decide)) (Eq.trans (th_un e_7 (by decide)) (th_un e_3 (by decide)))))))) (sX_10 hT0)) (rg_in (rg_c (v := 0) (lo := 0) (hi := 0) (by decide)) (by decide)) dX0_addRoad_91 ?_
  refine lv_dup_x2 hx hb dX0_addRoad_92 rfl rfl rfl ?_
  refine lv_iconst (v := 1) hx hb dX0_addRoad_93 (by decide) ?_
  refine lv_iadd hx hb dX0_addRoad_94 ?_
  refine th_iast (T := TyX a E) (Rl := fr [(10, 12)] [] C) hx hb hK hP hD hS 10 (by decide) (sX_10 hT) (rg_in (rg_c (v := 0) (lo := 0) (hi := 0) (by decide)) (by decide)) (hT.up 10 (tA_upd (tX_10 hT) (tA_stc (show _ = 0 by decide) (rg_add (lo := 1) (hi := 24) hroom (rg_c (v := 1) (lo := 1) (hi := 1) (by decide)) (by decide)) (by decide)))) (fr_st hF (by decide) (by decide)) dX0_addRoad_95 (fun C_29 H locs e_30 hT hF hP hD hS => ?_)
  have t_31 := hT
  rw [hQ]
  exact W.iret (v := ga (C 10) ((0 : Int32)).toNatClampNeg) hx hb hr (fun t ht hW => ⟨⟨ga (C 10) ((0 : Int32)).toNatClampNeg, C_29, rfl, ⟨hT, hF, ⟨rfl, (by rw [(st_ga e_30), (Eq.trans (th_un e_27 (by decide)) (Eq.trans (th_un e_23 (by decide)) (Eq.trans (th_un e_19 (by decide)) (Eq.trans (th_un e_15 (by decide)) (Eq.trans (th_un e_11 (by decide)) (Eq.trans (th_un e_7 (by decide)) (th_un e_3 (by decide))))))))]), (rowPt_c (rowPt_st (rowPt_st (rowPt_st (rowPt_st (rowPt_st (rowPt_st (rowPt_st rowPt_0 e_3 (by decide) rfl (oh_rix hroom rfl rfl (by decide))) e_7 (by decide) rfl (oh_rix hroom rfl rfl (by decide))) e_11 (by decide) rfl (oh_rix hroom rfl rfl (by decide))) e_15 (by decide) rfl (oh_rix hroom rfl rfl (by decide))) e_19 (by decide) rfl (oh_rix hroom rfl rfl (by decide))) e_23 (by decide) rfl (oh_rix hroom rfl rfl (by decide))) e_27 (by decide) rfl (oh_rix hroom rfl rfl (by decide))) (th_un e_30 (by decide)))⟩⟩, ⟨by rw [ht]; exact hP, hD⟩⟩, hS.F ht⟩) hS.2.2 dX0_addRoad_96

set_option maxHeartbeats 4000000 in
set_option maxRecDepth 100000 in
theorem e_X0_addBridge (l : Launch) (D : va_G) (E : Nat → ClassId) (G : Nat → Nat) (sz : Nat) (a : Nat → Nat) (C : Nat → va_E) (hT : TyX a E C) (x1 : Int32) (x2 : Int32) (x3 : Int32) (x4 : Int32) (x5 : Int32) (hx1 : rg x1 0 23) (hx2 : rg x2 0 5) (hroom : rg (ga (C 10) ((1 : Int32)).toNatClampNeg) 0 15) : Met l yX0_addBridge (oh_w yX0_addBridge cX0_addBridge 8 (some .int)) ({ frames := 0, cells := 0, slots := 0, locals := 0 }) (oh_Pm D E G [.ref (a 1), .int x1, .int x2, .int x3, .int x4, .int x5] (oh_W 35 a C) sz) (va_Qi (fun r (u : Nat → va_E) => TyX a E u ∧ fr [(10, 11), (12, 13)] [] C u ∧ rg r 0 15 ∧ (r = ga (C 10) ((1 : Int32)).toNatClampNeg) ∧ (ga (u 10) = upd (ga (C 10)) ((1 : Int32)).toNatClampNeg (ga (C 10) ((1 : Int32)).toNatClampNeg + 1)) ∧ (rowPt 10 (ga (C 10) ((1 : Int32)).toNatClampNeg).toNatClampNeg 10 (rwf [x1, x2, x3, x4, x5, 0, 0, 0, 0, 0]) (ga (C 12)) (ga (u 12)))) (oh_B D (va_A (oh_W 35 a C) sz) (fun u => oh_W 35 a u)) (va_A (oh_W 35 a C) sz)) 0 0 (va_A (oh_W 35 a C) sz) := by
  refine Met.ofW (cc := cX0_addBridge) (maxL := 8) (ret := (some .int)) (by decide) rfl ?_
  intro p e s m args below meth c s₁ B hml hv
  obtain ⟨rfl, hsz, hP, hK, hD0, hG⟩ := hv
  have hx := B.exec
  have hb := B.bytes
  have hr := B.returns
  have hts := atoms_spec (ws := (oh_w yX0_addBridge cX0_addBridge 8 (some .int))) B.pre
  have htg : ∀ w ∈ oh_t, w.before _ s = true := fun w h => hts w (List.mem_cons_of_mem _ h)
  have hown : s.vm.findClass RX0 = some m.cls := findClass_of_methodNamed B.named
  have hlocks := B.notSynchronized
  have hT0 := hT
  subst hsz
  have hD := hD0.self (sz := s.heap.size)
  generalize hAe : va_A (oh_W 35 a C) s.heap.size = A at hD hG ⊢
  have hA : ∀ q : Nat, s.heap.size ≤ q → A q := fun q h => by rw [← hAe]; exact Or.inr h
  have hS : va_S A s.heap s.heap [] := va_S.rf
  have hF : fr [(10, 11), (12, 13)] [] C C := fr_rf
  have hl := lv_entry ([.ref (a 1), .int x1, .int x2, .int x3, .int x4, .int x5]) (n := 8) (Nat.le_of_ble_eq_true rfl)
  rw [lg_entry_eq]
  generalize (lg_sl ([.ref (a 1), .int x1, .int x2, .int x3, .int x4, .int x5]) ++ List.replicate (8 - (lg_sl ([.ref (a 1), .int x1, .int x2, .int x3, .int x4, .int x5])).length) Slot.unset).toArray = ls at hl ⊢
  have hl : lv_has ls 8 [(0, .ref (a 1)), (1, .int x1), (2, .int x2), (3, .int x3), (4, .int x4), (5, .int x5)] := hl
  refine oh_genQ (fun Q hQ => ?_)
  refine lv_aload_n hx hb dX0_addBridge_0 rfl (lv_at hl 0 rfl) ?_
  refine va_get (D := D) (ci := 0) (v := .ref (a 10)) (C := RX0) (T := TX0) (N := 8) hx hb htg ig_0 hown hK hP 1 (oh_wg (by decide) (sX_1 hT)) rfl 0 (by decide) (htg _ q_97) (fun _ h9 => h9) rfl dX0_addBridge_1 ?_
  refine lv_iconst (v := 1) hx hb dX0_addBridge_4 (by decide) ?_
  refine th_iald hx hb hK hP 10 (by decide) (sX_10 hT) (rg_in (rg_c (v := 1) (lo := 1) (hi := 1) (by decide)) (by decide)) dX0_addBridge_5 ?_
  refine lv_bipush (v := 10) hx hb dX0_addBridge_6 (by decide) ?_
  refine lv_imul hx hb dX0_addBridge_8 ?_
  refine lv_istore (lv' := [(6, .int ((ga (C 10) ((1 : Int32)).toNatClampNeg) * 10)), (0, .ref (a 1)), (1, .int x1), (2, .int x2), (3, .int x3), (4, .int x4), (5, .int x5)]) hx hb dX0_addBridge_9 hl (by decide) rfl (fun ls hl => ?_)
  refine lv_aload_n hx hb dX0_addBridge_11 rfl (lv_at hl 1 rfl) ?_
  refine va_get (D := D) (ci := 0) (v := .ref (a 12)) (C := RX0) (T := TX0) (N := 8) hx hb htg ig_0 hown hK hP 1 (oh_wg (by decide) (sX_1 hT)) rfl 2 (by decide) (htg _ q_103) (fun _ h9 => h9) rfl dX0_addBridge_12 ?_
  refine lv_iload hx hb dX0_addBridge_15 (lv_at hl 0 rfl) ?_
  refine lv_iconst (v := 0) hx hb dX0_addBridge_17 (by decide) ?_
  refine lv_iadd hx hb dX0_addBridge_18 ?_
  refine lv_iload_n hx hb dX0_addBridge_19 rfl (lv_at hl 2 rfl) ?_
  have n_1 : vp_in (((ga (C 10) ((1 : Int32)).toNatClampNeg) * 10) + 0) 160 := (rg_in (rg_add (lo := 0) (hi := 150) (rg_mul (lo := 0) (hi := 150) hroom (rg_c (v := 10) (lo := 10) (hi := 10) (by decide)) (by decide)) (rg_c (v := 0) (lo := 0) (hi := 0) (by decide)) (by decide)) (by decide))
  refine th_iast (T := TyX a E) (Rl := fr [(10, 11), (12, 13)] [] C) hx hb hK hP hD hS 12 (by decide) (sX_12 hT) n_1 (hT.up 12 (tA_upd (tX_12 hT) (tA_stc (oh_col (W := 10) hroom rfl (rg_c (v := 0) (lo := 0) (hi := 0) (by decide)) (by decide)) hx1 (by decide)))) (fr_st hF (by decide) (by decide)) dX0_addBridge_20 (fun C_2 H locs e_3 hT hF hP hD hS => ?_)
  have t_4 := hT
  refine lv_aload_n hx hb dX0_addBridge_21 rfl (lv_at hl 1 rfl) ?_
  refine va_get (D := D) (ci := 0) (v := .ref (a 12)) (C := RX0) (T := TX0) (N := 8) hx hb htg ig_0 hown hK hP 1 (oh_wg (by decide) (sX_1 hT)) rfl 2 (by decide) (htg _ q_103) (fun _ h9 => h9) rfl dX0_addBridge_22 ?_
  refine lv_iload hx hb dX0_addBridge_25 (lv_at hl 0 rfl) ?_
  refine lv_iconst (v := 1) hx hb dX0_addBridge_27 (by decide) ?_
  refine lv_iadd hx hb dX0_addBridge_28 ?_
  refine lv_iload_n hx hb dX0_addBridge_29 rfl (lv_at hl 3 rfl) ?_
  have n_5 : vp_in (((ga (C 10) ((1 : Int32)).toNatClampNeg) * 10) + 1) 160 := (rg_in (rg_add (lo := 1) (hi := 151) (rg_mul (lo := 0) (hi := 150) hroom (rg_c (v := 10) (lo := 10) (hi := 10) (by decide)) (by decide)) (rg_c (v := 1) (lo := 1) (hi := 1) (by decide)) (by decide)) (by decide))
  refine th_iast (T := TyX a E) (Rl := fr [(10, 11), (12, 13)] [] C) hx hb hK hP hD hS 12 (by decide) (sX_12 hT) n_5 (hT.up 12 (tA_upd (tX_12 hT) (tA_stc (oh_col (W := 10) hroom rfl (rg_c (v := 1) (lo := 1) (hi := 1) (by decide)) (by decide)) hx2 (by decide)))) (fr_st hF (by decide) (by decide)) dX0_addBridge_30 (fun C_6 H locs e_7 hT hF hP hD hS => ?_)
  have t_8 := hT
  refine lv_aload_n hx hb dX0_addBridge_31 rfl (lv_at hl 1 rfl) ?_
  refine va_get (D := D) (ci := 0) (v := .ref (a 12)) (C := RX0) (T := TX0) (N := 8) hx hb htg ig_0 hown hK hP 1 (oh_wg (by decide) (sX_1 hT)) rfl 2 (by decide) (htg _ q_103) (fun _ h9 => h9) rfl dX0_addBridge_32 ?_
  refine lv_iload hx hb dX0_addBridge_35 (lv_at hl 0 rfl) ?_
  refine lv_iconst (v := 2) hx hb dX0_addBridge_37 (by decide) ?_
  refine lv_iadd hx hb dX0_addBridge_38 ?_
  refine lv_iload_n hx hb dX0_addBridge_39 rfl (lv_at hl 4 rfl) ?_
  have n_9 : vp_in (((ga (C 10) ((1 : Int32)).toNatClampNeg) * 10) + 2) 160 := (rg_in (rg_add (lo := 2) (hi := 152) (rg_mul (lo := 0) (hi := 150) hroom (rg_c (v := 10) (lo := 10) (hi := 10) (by decide)) (by decide)) (rg_c (v := 2) (lo := 2) (hi := 2) (by decide)) (by decide)) (by decide))
  refine th_iast (T := TyX a E) (Rl := fr [(10, 11), (12, 13)] [] C) hx hb hK hP hD hS 12 (by decide) (sX_12 hT) n_9 (hT.up 12 (tA_upd (tX_12 hT) (tA_stc (oh_col (W := 10) hroom rfl (rg_c (v := 2) (lo := 2) (hi := 2) (by decide)) (by decide)) (rg_any _) (by decide)))) (fr_st hF (by decide) (by decide)) dX0_addBridge_40 (fun C_10 H locs e_11 hT hF hP hD hS => ?_)
  have t_12 := hT
  refine lv_aload_n hx hb dX0_addBridge_41 rfl (lv_at hl 1 rfl) ?_
  refine va_get (D := D) (ci := 0) (v := .ref (a 12)) (C := RX0) (T := TX0) (N := 8) hx hb htg ig_0 hown hK hP 1 (oh_wg (by decide) (sX_1 hT)) rfl 2 (by decide) (htg _ q_103) (fun _ h9 => h9) rfl dX0_addBridge_42 ?_
  refine lv_iload hx hb dX0_addBridge_45 (lv_at hl 0 rfl) ?_
  refine lv_iconst (v := 3) hx hb dX0_addBridge_47 (by decide) ?_
  refine lv_iadd hx hb dX0_addBridge_48 ?_
  refine lv_iload hx hb dX0_addBridge_49 (lv_at hl 5 rfl) ?_
  have n_13 : vp_in (((ga (C 10) ((1 : Int32)).toNatClampNeg) * 10) + 3) 160 := (rg_in (rg_add (lo := 3) (hi := 153) (rg_mul (lo := 0) (hi := 150) hroom (rg_c (v := 10) (lo := 10) (hi := 10) (by decide)) (by decide)) (rg_c (v := 3) (lo := 3) (hi := 3) (by decide)) (by decide)) (by decide))
  refine th_iast (T := TyX a E) (Rl := fr [(10, 11), (12, 13)] [] C) hx hb hK hP hD hS 12 (by decide) (sX_12 hT) n_13 (hT.up 12 (tA_upd (tX_12 hT) (tA_stc (oh_col (W := 10) hroom rfl (rg_c (v := 3) (lo := 3) (hi := 3) (by decide)) (by decide)) (rg_any _) (by decide)))) (fr_st hF (by decide) (by decide)) dX0_addBridge_51 (fun C_14 H locs e_15 hT hF hP hD hS => ?_)
  have t_16 := hT
  refine lv_aload_n hx hb dX0_addBridge_52 rfl (lv_at hl 1 rfl) ?_
  refine va_get (D := D) (ci := 0) (v := .ref (a 12)) (C := RX0) (T := TX0) (N := 8) hx hb htg ig_0 hown hK hP 1 (oh_wg (by decide) (sX_1 hT)) rfl 2 (by decide) (htg _ q_103) (fun _ h9 => h9) rfl dX0_addBridge_53 ?_
  refine lv_iload hx hb dX0_addBridge_56 (lv_at hl 0 rfl) ?_
  refine lv_iconst (v := 4) hx hb dX0_addBridge_58 (by decide) ?_
  refine lv_iadd hx hb dX0_addBridge_59 ?_
  refine lv_iload hx hb dX0_addBridge_60 (lv_at hl 6 rfl) ?_
  have n_17 : vp_in (((ga (C 10) ((1 : Int32)).toNatClampNeg) * 10) + 4) 160 := (rg_in (rg_add (lo := 4) (hi := 154) (rg_mul (lo := 0) (hi := 150) hroom (rg_c (v := 10) (lo := 10) (hi := 10) (by decide)) (by decide)) (rg_c (v := 4) (lo := 4) (hi := 4) (by decide)) (by decide)) (by decide))
  refine th_iast (T := TyX a E) (Rl := fr [(10, 11), (12, 13)] [] C) hx hb hK hP hD hS 12 (by decide) (sX_12 hT) n_17 (hT.up 12 (tA_upd (tX_12 hT) (tA_stc (oh_col (W := 10) hroom rfl (rg_c (v := 4) (lo := 4) (hi := 4) (by decide)) (by decide)) (rg_any _) (by decide)))) (fr_st hF (by decide) (by decide)) dX0_addBridge_62 (fun C_18 H locs e_19 hT hF hP hD hS => ?_)
  have t_20 := hT
  refine lv_iconst (v := 5) hx hb dX0_addBridge_63 (by decide) ?_
  refine lv_istore (lv' := [(7, .int 5), (6, .int ((ga (C 10) ((1 : Int32)).toNatClampNeg) * 10)), (0, .ref (a 1)), (1, .int x1), (2, .int x2), (3, .int x3), (4, .int x4), (5, .int x5)]) hx hb dX0_addBridge_64 hl (by decide) rfl (fun ls hl => ?_)
  have L_66 : ∀ (d : Nat) (K66 : Nat → va_E) (z66_7 : Int32) (H : Heap) (locs : List Loc) (ls : Array Slot), (10 - z66_7.toInt).toNat = d → rg z66_7 5 10 → (rowPt 10 (ga (C 10) ((1 : Int32)).toNatClampNeg).toNatClampNeg z66_7.toNatClampNeg (rwf [x1, x2, x3, x4, x5, 0, 0, 0, 0, 0]) (ga (C 12)) (ga (K66 12))) → TyX a E K66 → fr [(10, 11), (12, 13)] [] C K66 → fr [(12, 13)] [] C_18 K66 → va_P D vwCl (oh_W 35 a K66) H → va_D A (oh_W 35 a K66) → va_S A s.heap H locs → lv_has ls 8 [(7, .int z66_7), (6, .int ((ga (C 10) ((1 : Int32)).toNatClampNeg) * 10)), (0, .ref (a 1)), (1, .int x1), (2, .int x2), (3, .int x3), (4, .int x4), (5, .int x5)] → W p l e ({ frames := 0, cells := 0, slots := 0, locals := 0 }) s m (([.ref (a 1), .int x1, .int x2, .int x3, .int x4, .int x5] : List Value).toArray) below meth c H locs 0 0 Q (F0 m 66 ls []) := by
    intro d
    induction d using Nat.strongRecOn with
    | ind d ih_66 =>
    intro K66 z66_7 H locs ls hd_66 hz66_7 hx_66 hT hF hLF_66 hP hD hS hl
    have t_21 := hT
    refine lv_iload hx hb dX0_addBridge_66 (lv_at hl 0 rfl) ?_
    refine lv_bipush (v := 10) hx hb dX0_addBridge_68 (by decide) ?_
    refine lv_icmp_ge (tgt := 90) hx hb dX0_addBridge_70 (by decide) (fun (c_22 : (10 : Int32) ≤ z66_7) => ?_) (fun (c_22 : ¬ ((10 : Int32) ≤ z66_7)) => ?_)
    · refine lv_aload_n hx hb dX0_addBridge_90 rfl (lv_at hl 2 rfl) ?_
      refine va_get (D := D) (ci := 0) (v := .ref (a 10)) (C := RX0) (T := TX0) (N := 8) hx hb htg ig_0 hown hK hP 1 (oh_wg (by decide) (sX_1 hT)) rfl 0 (by decide) (htg _ q_97) (fun _ h9 => h9) rfl dX0_addBridge_91 ?_
      refine lv_iconst (v := 1) hx hb dX0_addBridge_94 (by decide) ?_
      refine lv_dup2_11 hx hb dX0_addBridge_95 rfl rfl ?_
      refine th_iald hx hb hK hP 10 (by decide) (Eq.trans (Eq.trans (hLF_66.1 10 rfl (by decide)) (Eq.trans (th_un e_19 (by decide)) (Eq.trans (th_un e_15 (by decide)) (Eq.trans (th_un e_11 (by decide)) (Eq.trans (th_un e_7 (by decide)) (th_un e_3 (by decide))))))) (sX_10 hT0)) (rg_in (rg_c (v := 1) (lo := 1) (hi := 1) (by decide)) (by decide)) dX0_addBridge_96 ?_
      refine lv_dup_x2 hx hb dX0_addBridge_97 rfl rfl rfl ?_
      refine lv_iconst (v := 1) hx hb dX0_addBridge_98 (by decide) ?_
      refine lv_iadd hx hb dX0_addBridge_99 ?_
      refine th_iast (T := TyX a E) (Rl := fr [(10, 11), (12, 13)] [] C) hx hb hK hP hD hS 10 (by decide) (sX_10 hT) (rg_in (rg_c (v := 1) (lo := 1) (hi := 1) (by decide)) (by decide)) (hT.up 10 (tA_upd (tX_10 hT) (tA_stc (show _ = 1 by decide) (rg_add (lo := 1) (hi := 16) hroom (rg_c (v := 1) (lo := 1) (hi := 1) (by decide)) (by decide)) (by decide)))) (fr_st hF (by decide) (by decide)) dX0_addBridge_100 (fun C_23 H locs e_24 hT hF hP hD hS => ?_)
      have t_25 := hT
      rw [hQ]
      exact W.iret (v := ga (C 10) ((1 : Int32)).toNatClampNeg) hx hb hr (fun t ht hW => ⟨⟨ga (C 10) ((1 : Int32)).toNatClampNeg, C_23, rfl, ⟨hT, hF, ⟨(rg_w hroom (by decide)), rfl, (by rw [(st_ga e_24), (Eq.trans (hLF_66.1 10 rfl (by decide)) (Eq.trans (th_un e_19 (by decide)) (Eq.trans (th_un e_15 (by decide)) (Eq.trans (th_un e_11 (by decide)) (Eq.trans (th_un e_7 (by decide)) (th_un e_3 (by decide)))))))]), (rowPt_c (rowPt_end hx_66 (oh_zeq (k := 10) hz66_7 c_22 (by decide)) (by decide)) (th_un e_24 (by decide)))⟩⟩, ⟨by rw [ht]; exact hP, hD⟩⟩, hS.F ht⟩) hS.2.2 dX0_addBridge_101
    · refine lv_aload_n hx hb dX0_addBridge_73 rfl (lv_at hl 2 rfl) ?_
      refine va_get (D := D) (ci := 0) (v := .ref (a 12)) (C := RX0) (T := TX0) (N := 8) hx hb htg ig_0 hown hK hP 1 (oh_wg (by decide) (sX_1 hT)) rfl 2 (by decide) (htg _ q_103) (fun _ h9 => h9) rfl dX0_addBridge_74 ?_
      refine lv_iload hx hb dX0_addBridge_77 (lv_at hl 1 rfl) ?_
      refine lv_iload hx hb dX0_addBridge_79 (lv_at hl 0 rfl) ?_
      refine lv_iadd hx hb dX0_addBridge_81 ?_
      refine lv_iconst (v := 0) hx hb dX0_addBridge_82 (by decide) ?_
      have n_26 : vp_in (((ga (C 10) ((1 : Int32)).toNatClampNeg) * 10) + z66_7) 160 := (rg_in (rg_add (lo := 5) (hi := 159) (rg_mul (lo := 0) (hi := 150) hroom (rg_c (v := 10) (lo := 10) (hi := 10) (by decide)) (by decide)) (rn_ltu (u' := 9) (Int32.not_le.mp c_22) hz66_7 (rg_c (v := 10) (lo := 10) (hi := 10) (by decide)) (by decide)) (by decide)) (by decide))
      refine th_iast (T := TyX a E) (Rl := fr [(10, 11), (12, 13)] [] C) hx hb hK hP hD hS 12 (by decide) (sX_12 hT) n_26 (hT.up 12 (tA_upd (tX_12 hT) (tA_sth (oh_col (W := 10) hroom rfl (rn_ltu (u' := 9) (Int32.not_le.mp c_22) hz66_7 (rg_c (v := 10) (lo := 10) (hi := 10) (by decide)) (by decide)) (by decide)) (rn_ltu (u' := 9) (Int32.not_le.mp c_22) hz66_7 (rg_c (v := 10) (lo := 10) (hi := 10) (by decide)) (by decide)) (by decide)))) (fr_st hF (by decide) (by decide)) dX0_addBridge_83 (fun C_27 H locs e_28 hT hF hP hD hS => ?_)
      have t_29 := hT
      refine lv_iinc (v := z66_7 + 1) (lv' := [(7, .int (z66_7 + 1)), (6, .int ((ga (C 10) ((1 : Int32)).toNatClampNeg) * 10)), (0, .ref (a 1)), (1, .int x1), (2, .int x2), (3, .int x3), (4, .int x4), (5, .int x5)]) hx hb dX0_addBridge_84 hl (k := 0) rfl (by rfl) (by decide) rfl (fun ls hl => ?_)
      refine lv_goto (tgt := 66) hx hb dX0_addBridge_87 (by decide) ?_
      exact ih_66 _ (hd_66 ▸ mu_up 10 (rn_ltu (u' := 9) (Int32.not_le.mp c_22) hz66_7 (rg_c (v := 10) (lo := 10) (hi := 10) (by decide)) (by decide)) (by decide)) C_27 (z66_7 + 1) _ _ ls rfl (rg_w (rg_add (lo := 6) (hi := 10) (rn_ltu (u' := 9) (Int32.not_le.mp c_22) hz66_7 (rg_c (v := 10) (lo := 10) (hi := 10) (by decide)) (by decide)) (rg_c (v := 1) (lo := 1) (hi := 1) (by decide)) (by decide)) (by decide)) (rowPt_z hx_66 e_28 (rg_w (lo := 0) (hi := 9) (rn_ltu (u' := 9) (Int32.not_le.mp c_22) hz66_7 (rg_c (v := 10) (lo := 10) (hi := 10) (by decide)) (by decide)) (by decide)) (by decide) (rwf5 (by have h7 := (rn_ltu (u' := 9) (Int32.not_le.mp c_22) hz66_7 (rg_c (v := 10) (lo := 10) (hi := 10) (by decide)) (by decide)); have h8 := oh_nat h7 (by decide); have h9 := h7.1; omega) (by have h7 := (rn_ltu (u' := 9) (Int32.not_le.mp c_22) hz66_7 (rg_c (v := 10) (lo := 10) (hi := 10) (by decide)) (by decide)); have h8 := oh_nat h7 (by decide); have h9 := h7.2; omega)) (oh_rixz hroom rfl (rg_w (lo := 0) (hi := 9) (rn_ltu (u' := 9) (Int32.not_le.mp c_22) hz66_7 (rg_c (v := 10) (lo := 10) (hi := 10) (by decide)) (by decide)) (by decide)) (by decide))) hT hF (fr_ste hLF_66 e_28 (by decide) (by decide)) hP hD hS (lv_sub hl [0, 1, 2, 3, 4, 5, 6, 7] rfl)
  exact L_66 _ C_18 5 _ _ ls rfl (rg_w (rg_c (v := 5) (lo := 5) (hi := 5) (by decide)) (by decide)) (rowPt_st (rowPt_st (rowPt_st (rowPt_st (rowPt_st rowPt_0 e_3 (by decide) rfl (oh_rix hroom rfl rfl (by decide))) e_7 (by decide) rfl (oh_rix hroom rfl rfl (by decide))) e_11 (by decide) rfl (oh_rix hroom rfl rfl (by decide))) e_15 (by decide) rfl (oh_rix hroom rfl rfl (by decide))) e_19 (by decide) rfl (oh_rix hroom rfl rfl (by decide))) hT hF fr_rf hP hD hS (lv_sub hl [0, 1, 2, 3, 4, 5, 6, 7] rfl)

set_option maxHeartbeats 4000000 in
set_option maxRecDepth 100000 in
theorem e_X0_putBridgeColumn (l : Launch) (D : va_G) (E : Nat → ClassId) (G : Nat → Nat) (sz : Nat) (a : Nat → Nat) (C : Nat → va_E) (hT : TyX a E C) (x1 : Int32) (x2 : Int32) (x3 : Int32) (hx1 : rg x1 0 15) (hx2 : rg x2 2 9) : Met l yX0_putBridgeColumn (oh_w yX0_putBridgeColumn cX0_putBridgeColumn 4 none) ({ frames := 0, cells := 0, slots := 0, locals := 0 }) (oh_Pm D E G [.ref (a 1), .int x1, .int x2, .int x3] (oh_W 35 a C) sz) (va_Qv (fun (u : Nat → va_E) => TyX a E u ∧ fr [(12, 13)] [] C u ∧ (ga (u 12) = upd (ga (C 12)) (x1 * 10 + x2).toNatClampNeg x3)) (oh_B D (va_A (oh_W 35 a C) sz) (fun u => oh_W 35 a u)) (va_A (oh_W 35 a C) sz)) 0 0 (va_A (oh_W 35 a C) sz) := by
  refine Met.ofW (cc := cX0_putBridgeColumn) (maxL := 4) (ret := none) (by decide) rfl ?_
  intro p e s m args below meth c s₁ B hml hv
  obtain ⟨rfl, hsz, hP, hK, hD0, hG⟩ := hv
  have hx := B.exec
  have hb := B.bytes
  have hr := B.returns
  have hts := atoms_spec (ws := (oh_w yX0_putBridgeColumn cX0_putBridgeColumn 4 none)) B.pre
  have htg : ∀ w ∈ oh_t, w.before _ s = true := fun w h => hts w (List.mem_cons_of_mem _ h)
  have hown : s.vm.findClass RX0 = some m.cls := findClass_of_methodNamed B.named
  have hlocks := B.notSynchronized
  have hT0 := hT
  subst hsz
  have hD := hD0.self (sz := s.heap.size)
  generalize hAe : va_A (oh_W 35 a C) s.heap.size = A at hD hG ⊢
  have hA : ∀ q : Nat, s.heap.size ≤ q → A q := fun q h => by rw [← hAe]; exact Or.inr h
  have hS : va_S A s.heap s.heap [] := va_S.rf
  have hF : fr [(12, 13)] [] C C := fr_rf
  have hl := lv_entry ([.ref (a 1), .int x1, .int x2, .int x3]) (n := 4) (Nat.le_of_ble_eq_true rfl)
  rw [lg_entry_eq]
  generalize (lg_sl ([.ref (a 1), .int x1, .int x2, .int x3]) ++ List.replicate (4 - (lg_sl ([.ref (a 1), .int x1, .int x2, .int x3])).length) Slot.unset).toArray = ls at hl ⊢
  have hl : lv_has ls 4 [(0, .ref (a 1)), (1, .int x1), (2, .int x2), (3, .int x3)] := hl
  refine oh_genQ (fun Q hQ => ?_)
  refine lv_aload_n hx hb dX0_putBridgeColumn_0 rfl (lv_at hl 0 rfl) ?_
  refine va_get (D := D) (ci := 0) (v := .ref (a 12)) (C := RX0) (T := TX0) (N := 8) hx hb htg ig_0 hown hK hP 1 (oh_wg (by decide) (sX_1 hT)) rfl 2 (by decide) (htg _ q_103) (fun _ h9 => h9) rfl dX0_putBridgeColumn_1 ?_
  refine lv_iload_n hx hb dX0_putBridgeColumn_4 rfl (lv_at hl 1 rfl) ?_
  refine lv_bipush (v := 10) hx hb dX0_putBridgeColumn_5 (by decide) ?_
  refine lv_imul hx hb dX0_putBridgeColumn_7 ?_
  refine lv_iload_n hx hb dX0_putBridgeColumn_8 rfl (lv_at hl 2 rfl) ?_
  refine lv_iadd hx hb dX0_putBridgeColumn_9 ?_
  refine lv_iload_n hx hb dX0_putBridgeColumn_10 rfl (lv_at hl 3 rfl) ?_
  have n_1 : vp_in ((x1 * 10) + x2) 160 := (rg_in (rg_add (lo := 2) (hi := 159) (rg_mul (lo := 0) (hi := 150) hx1 (rg_c (v := 10) (lo := 10) (hi := 10) (by decide)) (by decide)) hx2 (by decide)) (by decide))
  refine th_iast (T := TyX a E) (Rl := fr [(12, 13)] [] C) hx hb hK hP hD hS 12 (by decide) (sX_12 hT) n_1 (hT.up 12 (tA_upd (tX_12 hT) (tA_sth (oh_col (W := 10) hx1 rfl hx2 (by decide)) hx2 (by decide)))) (fr_st hF (by decide) (by decide)) dX0_putBridgeColumn_11 (fun C_2 H locs e_3 hT hF hP hD hS => ?_)
  have t_4 := hT
  rw [hQ]
  exact W.vret hx hb hr (fun t ht hW => ⟨⟨C_2, rfl, ⟨hT, hF, (by rw [(st_ga e_3)])⟩, ⟨by rw [ht]; exact hP, hD⟩⟩, hS.F ht⟩) hS.2.2 dX0_putBridgeColumn_12

set_option maxHeartbeats 4000000 in
set_option maxRecDepth 100000 in
theorem e_X0_putProp (l : Launch) (D : va_G) (E : Nat → ClassId) (G : Nat → Nat) (sz : Nat) (a : Nat → Nat) (C : Nat → va_E) (hT : TyX a E C) (x1 : Int32) (x2 : Int32) (x3 : Int32) (hx1 : rg x1 0 15) : Met l yX0_putProp (oh_w yX0_putProp cX0_putProp 4 none) ({ frames := 1, cells := 0, slots := 0, locals := 23 }) (oh_Pm D E G [.ref (a 1), .int x1, .int x2, .int x3] (oh_W 35 a C) sz) (va_Qv (fun (u : Nat → va_E) => TyX a E u ∧ fr [(12, 13)] [] C u ∧ (ga (u 12) = upd (upd (ga (C 12)) (x1 * 10 + 5).toNatClampNeg x2) (x1 * 10 + 6).toNatClampNeg x3)) (oh_B D (va_A (oh_W 35 a C) sz) (fun u => oh_W 35 a u)) (va_A (oh_W 35 a C) sz)) 0 0 (va_A (oh_W 35 a C) sz) := by
  refine Met.ofW (cc := cX0_putProp) (maxL := 4) (ret := none) (by decide) rfl ?_
  intro p e s m args below meth c s₁ B hml hv
  obtain ⟨rfl, hsz, hP, hK, hD0, hG⟩ := hv
  have hx := B.exec
  have hb := B.bytes
  have hr := B.returns
  have hts := atoms_spec (ws := (oh_w yX0_putProp cX0_putProp 4 none)) B.pre
  have htg : ∀ w ∈ oh_t, w.before _ s = true := fun w h => hts w (List.mem_cons_of_mem _ h)
  have hown : s.vm.findClass RX0 = some m.cls := findClass_of_methodNamed B.named
  have hlocks := B.notSynchronized
  have hT0 := hT
  subst hsz
  have hD := hD0.self (sz := s.heap.size)
  generalize hAe : va_A (oh_W 35 a C) s.heap.size = A at hD hG ⊢
  have hA : ∀ q : Nat, s.heap.size ≤ q → A q := fun q h => by rw [← hAe]; exact Or.inr h
  have hS : va_S A s.heap s.heap [] := va_S.rf
  have hF : fr [(12, 13)] [] C C := fr_rf
  have hl := lv_entry ([.ref (a 1), .int x1, .int x2, .int x3]) (n := 4) (Nat.le_of_ble_eq_true rfl)
  rw [lg_entry_eq]
  generalize (lg_sl ([.ref (a 1), .int x1, .int x2, .int x3]) ++ List.replicate (4 - (lg_sl ([.ref (a 1), .int x1, .int x2, .int x3])).length) Slot.unset).toArray = ls at hl ⊢
  have hl : lv_has ls 4 [(0, .ref (a 1)), (1, .int x1), (2, .int x2), (3, .int x3)] := hl
  refine oh_genQ (fun Q hQ => ?_)
  refine lv_aload_n hx hb dX0_putProp_0 rfl (lv_at hl 0 rfl) ?_
  refine lv_iload_n hx hb dX0_putProp_1 rfl (lv_at hl 1 rfl) ?_
  refine lv_iconst (v := 5) hx hb dX0_putProp_2 (by decide) ?_
  refine lv_iload_n hx hb dX0_putProp_3 rfl (lv_at hl 2 rfl) ?_
  refine tm_Vv (As := [.int x1, .int 5, .int x2]) (rest := []) ⟨hx, hb, hml, hown, htg⟩ (e_X0_putBridgeColumn l D E G _ a C hT x1 (5 : Int32) x2 (rg_w hx1 (by decide)) (rg_w (rg_c (v := 5) (lo := 5) (hi := 5) (by decide)) (by decide))) (cwV 3 htg (oh_gV q_444 q_445 q_446 q_67 q_447) rfl rfl rfl pdVX0_putBridgeColumn ⟨Nat.le_of_ble_eq_true rfl, Nat.le_of_ble_eq_true rfl⟩) hK hP hD hG hS hA (va_recv hK hP (ci := 0) (q0 := 1) rfl (oh_wg (by decide) (sX_1 hT))) rfl hl.1 rfl (Nat.le_of_ble_eq_true rfl) dX0_putProp_4 ⟨Nat.le_of_ble_eq_true rfl, Nat.le_of_ble_eq_true rfl⟩ (fun C_2 H locs hq_3 hP hD hS => ?_)
  obtain ⟨hT, f_4, hq_3⟩ := hq_3
  have hF := fr_tr hF f_4 (by decide) (by decide)
  refine W.widen (k := 0) (n := 0) (Nat.le_refl _) (Nat.le_refl _) ?_
  have t_5 := hT
  refine lv_aload_n hx hb dX0_putProp_7 rfl (lv_at hl 0 rfl) ?_
  refine lv_iload_n hx hb dX0_putProp_8 rfl (lv_at hl 1 rfl) ?_
  refine lv_bipush (v := 6) hx hb dX0_putProp_9 (by decide) ?_
  refine lv_iload_n hx hb dX0_putProp_11 rfl (lv_at hl 3 rfl) ?_
  refine tm_Vv (As := [.int x1, .int 6, .int x3]) (rest := []) ⟨hx, hb, hml, hown, htg⟩ (e_X0_putBridgeColumn l D E G _ a C_2 hT x1 (6 : Int32) x3 (rg_w hx1 (by decide)) (rg_w (rg_c (v := 6) (lo := 6) (hi := 6) (by decide)) (by decide))) (cwV 3 htg (oh_gV q_444 q_445 q_446 q_67 q_447) rfl rfl rfl pdVX0_putBridgeColumn ⟨Nat.le_of_ble_eq_true rfl, Nat.le_of_ble_eq_true rfl⟩) hK hP hD hG hS hA (va_recv hK hP (ci := 0) (q0 := 1) rfl (oh_wg (by decide) (sX_1 hT))) rfl hl.1 rfl (Nat.le_of_ble_eq_true rfl) dX0_putProp_12 ⟨Nat.le_of_ble_eq_true rfl, Nat.le_of_ble_eq_true rfl⟩ (fun C_7 H locs hq_8 hP hD hS => ?_)
  obtain ⟨hT, f_9, hq_8⟩ := hq_8
  have hF := fr_tr hF f_9 (by decide) (by decide)
  refine W.widen (k := 0) (n := 0) (Nat.le_refl _) (Nat.le_refl _) ?_
  have t_10 := hT
  rw [hQ]
  exact W.vret hx hb hr (fun t ht hW => ⟨⟨C_7, rfl, ⟨hT, hF, (by rw [hq_8, hq_3])⟩, ⟨by rw [ht]; exact hP, hD⟩⟩, hS.F ht⟩) hS.2.2 dX0_putProp_15

set_option maxHeartbeats 4000000 in
set_option maxRecDepth 100000 in
theorem e_X0_addWaggon (l : Launch) (D : va_G) (E : Nat → ClassId) (G : Nat → Nat) (sz : Nat) (a : Nat → Nat) (C : Nat → va_E) (hT : TyX a E C) (x1 : Int32) (x2 : Int32) (x3 : Int32) (hroom : rg (ga (C 10) ((2 : Int32)).toNatClampNeg) 0 4) : Met l yX0_addWaggon (oh_w yX0_addWaggon cX0_addWaggon 5 (some .int)) ({ frames := 0, cells := 0, slots := 0, locals := 0 }) (oh_Pm D E G [.ref (a 1), .int x1, .int x2, .int x3] (oh_W 35 a C) sz) (va_Qi (fun r (u : Nat → va_E) => TyX a E u ∧ fr [(10, 11), (13, 14)] [] C u ∧ (r = ga (C 10) ((2 : Int32)).toNatClampNeg) ∧ (ga (u 10) = upd (ga (C 10)) ((2 : Int32)).toNatClampNeg (ga (C 10) ((2 : Int32)).toNatClampNeg + 1)) ∧ (rowPt 3 (ga (C 10) ((2 : Int32)).toNatClampNeg).toNatClampNeg 3 (rwf [x1, x2, x3]) (ga (C 13)) (ga (u 13)))) (oh_B D (va_A (oh_W 35 a C) sz) (fun u => oh_W 35 a u)) (va_A (oh_W 35 a C) sz)) 0 0 (va_A (oh_W 35 a C) sz) := by
  refine Met.ofW (cc := cX0_addWaggon) (maxL := 5) (ret := (some .int)) (by decide) rfl ?_
  intro p e s m args below meth c s₁ B hml hv
  obtain ⟨rfl, hsz, hP, hK, hD0, hG⟩ := hv
  have hx := B.exec
  have hb := B.bytes
  have hr := B.returns
  have hts := atoms_spec (ws := (oh_w yX0_addWaggon cX0_addWaggon 5 (some .int))) B.pre
  have htg : ∀ w ∈ oh_t, w.before _ s = true := fun w h => hts w (List.mem_cons_of_mem _ h)
  have hown : s.vm.findClass RX0 = some m.cls := findClass_of_methodNamed B.named
  have hlocks := B.notSynchronized
  have hT0 := hT
  subst hsz
  have hD := hD0.self (sz := s.heap.size)
  generalize hAe : va_A (oh_W 35 a C) s.heap.size = A at hD hG ⊢
  have hA : ∀ q : Nat, s.heap.size ≤ q → A q := fun q h => by rw [← hAe]; exact Or.inr h
  have hS : va_S A s.heap s.heap [] := va_S.rf
  have hF : fr [(10, 11), (13, 14)] [] C C := fr_rf
  have hl := lv_entry ([.ref (a 1), .int x1, .int x2, .int x3]) (n := 5) (Nat.le_of_ble_eq_true rfl)
  rw [lg_entry_eq]
  generalize (lg_sl ([.ref (a 1), .int x1, .int x2, .int x3]) ++ List.replicate (5 - (lg_sl ([.ref (a 1), .int x1, .int x2, .int x3])).length) Slot.unset).toArray = ls at hl ⊢
  have hl : lv_has ls 5 [(0, .ref (a 1)), (1, .int x1), (2, .int x2), (3, .int x3)] := hl
  refine oh_genQ (fun Q hQ => ?_)
  refine lv_aload_n hx hb dX0_addWaggon_0 rfl (lv_at hl 0 rfl) ?_
  refine va_get (D := D) (ci := 0) (v := .ref (a 10)) (C := RX0) (T := TX0) (N := 8) hx hb htg ig_0 hown hK hP 1 (oh_wg (by decide) (sX_1 hT)) rfl 0 (by decide) (htg _ q_97) (fun _ h9 => h9) rfl dX0_addWaggon_1 ?_
  refine lv_iconst (v := 2) hx hb dX0_addWaggon_4 (by decide) ?_
  refine th_iald hx hb hK hP 10 (by decide) (sX_10 hT) (rg_in (rg_c (v := 2) (lo := 2) (hi := 2) (by decide)) (by decide)) dX0_addWaggon_5 ?_
  refine lv_iconst (v := 3) hx hb dX0_addWaggon_6 (by decide) ?_
  refine lv_imul hx hb dX0_addWaggon_7 ?_
  refine lv_istore (lv' := [(4, .int ((ga (C 10) ((2 : Int32)).toNatClampNeg) * 3)), (0, .ref (a 1)), (1, .int x1), (2, .int x2), (3, .int x3)]) hx hb dX0_addWaggon_8 hl (by decide) rfl (fun ls hl => ?_)
  refine lv_aload_n hx hb dX0_addWaggon_10 rfl (lv_at hl 1 rfl) ?_
  refine va_get (D := D) (ci := 0) (v := .ref (a 13)) (C := RX0) (T := TX0) (N := 8) hx hb htg ig_0 hown hK hP 1 (oh_wg (by decide) (sX_1 hT)) rfl 3 (by decide) (htg _ q_104) (fun _ h9 => h9) rfl dX0_addWaggon_11 ?_
  refine lv_iload hx hb dX0_addWaggon_14 (lv_at hl 0 rfl) ?_
  refine lv_iconst (v := 0) hx hb dX0_addWaggon_16 (by decide) ?_
  refine lv_iadd hx hb dX0_addWaggon_17 ?_
  refine lv_iload_n hx hb dX0_addWaggon_18 rfl (lv_at hl 2 rfl) ?_
  have n_1 : vp_in (((ga (C 10) ((2 : Int32)).toNatClampNeg) * 3) + 0) 15 := (rg_in (rg_add (lo := 0) (hi := 12) (rg_mul (lo := 0) (hi := 12) hroom (rg_c (v := 3) (lo := 3) (hi := 3) (by decide)) (by decide)) (rg_c (v := 0) (lo := 0) (hi := 0) (by decide)) (by decide)) (by decide))
  refine th_iast (T := TyX a E) (Rl := fr [(10, 11), (13, 14)] [] C) hx hb hK hP hD hS 13 (by decide) (sX_13 hT) n_1 (hT.up 13 (tA_upd (tX_13 hT) tA_any)) (fr_st hF (by decide) (by decide)) dX0_addWaggon_19 (fun C_2 H locs e_3 hT hF hP hD hS => ?_)
  have t_4 := hT
  refine lv_aload_n hx hb dX0_addWaggon_20 rfl (lv_at hl 1 rfl) ?_
  refine va_get (D := D) (ci := 0) (v := .ref (a 13)) (C := RX0) (T := TX0) (N := 8) hx hb htg ig_0 hown hK hP 1 (oh_wg (by decide) (sX_1 hT)) rfl 3 (by decide) (htg _ q_104) (fun _ h9 => h9) rfl dX0_addWaggon_21 ?_
  refine lv_iload hx hb dX0_addWaggon_24 (lv_at hl 0 rfl) ?_
  refine lv_iconst (v := 1) hx hb dX0_addWaggon_26 (by decide) ?_
  refine lv_iadd hx hb dX0_addWaggon_27 ?_
  refine lv_iload_n hx hb dX0_addWaggon_28 rfl (lv_at hl 3 rfl) ?_
  have n_5 : vp_in (((ga (C 10) ((2 : Int32)).toNatClampNeg) * 3) + 1) 15 := (rg_in (rg_add (lo := 1) (hi := 13) (rg_mul (lo := 0) (hi := 12) hroom (rg_c (v := 3) (lo := 3) (hi := 3) (by decide)) (by decide)) (rg_c (v := 1) (lo := 1) (hi := 1) (by decide)) (by decide)) (by decide))
  refine th_iast (T := TyX a E) (Rl := fr [(10, 11), (13, 14)] [] C) hx hb hK hP hD hS 13 (by decide) (sX_13 hT) n_5 (hT.up 13 (tA_upd (tX_13 hT) tA_any)) (fr_st hF (by decide) (by decide)) dX0_addWaggon_29 (fun C_6 H locs e_7 hT hF hP hD hS => ?_)
  have t_8 := hT
  refine lv_aload_n hx hb dX0_addWaggon_30 rfl (lv_at hl 1 rfl) ?_
  refine va_get (D := D) (ci := 0) (v := .ref (a 13)) (C := RX0) (T := TX0) (N := 8) hx hb htg ig_0 hown hK hP 1 (oh_wg (by decide) (sX_1 hT)) rfl 3 (by decide) (htg _ q_104) (fun _ h9 => h9) rfl dX0_addWaggon_31 ?_
  refine lv_iload hx hb dX0_addWaggon_34 (lv_at hl 0 rfl) ?_
  refine lv_iconst (v := 2) hx hb dX0_addWaggon_36 (by decide) ?_
  refine lv_iadd hx hb dX0_addWaggon_37 ?_
  refine lv_iload_n hx hb dX0_addWaggon_38 rfl (lv_at hl 4 rfl) ?_
  have n_9 : vp_in (((ga (C 10) ((2 : Int32)).toNatClampNeg) * 3) + 2) 15 := (rg_in (rg_add (lo := 2) (hi := 14) (rg_mul (lo := 0) (hi := 12) hroom (rg_c (v := 3) (lo := 3) (hi := 3) (by decide)) (by decide)) (rg_c (v := 2) (lo := 2) (hi := 2) (by decide)) (by decide)) (by decide))
  refine th_iast (T := TyX a E) (Rl := fr [(10, 11), (13, 14)] [] C) hx hb hK hP hD hS 13 (by decide) (sX_13 hT) n_9 (hT.up 13 (tA_upd (tX_13 hT) tA_any)) (fr_st hF (by decide) (by decide)) dX0_addWaggon_39 (fun C_10 H locs e_11 hT hF hP hD hS => ?_)
  have t_12 := hT
  refine lv_aload_n hx hb dX0_addWaggon_40 rfl (lv_at hl 1 rfl) ?_
  refine va_get (D := D) (ci := 0) (v := .ref (a 10)) (C := RX0) (T := TX0) (N := 8) hx hb htg ig_0 hown hK hP 1 (oh_wg (by decide) (sX_1 hT)) rfl 0 (by decide) (htg _ q_97) (fun _ h9 => h9) rfl dX0_addWaggon_41 ?_
  refine lv_iconst (v := 2) hx hb dX0_addWaggon_44 (by decide) ?_
  refine lv_dup2_11 hx hb dX0_addWaggon_45 rfl rfl ?_
  refine th_iald hx hb hK hP 10 (by decide) (Eq.trans (Eq.trans (th_un e_11 (by decide)) (Eq.trans (th_un e_7 (by decide)) (th_un e_3 (by decide)))) (sX_10 hT0)) (rg_in (rg_c (v := 2) (lo := 2) (hi := 2) (by decide)) (by decide)) dX0_addWaggon_46 ?_
  refine lv_dup_x2 hx hb dX0_addWaggon_47 rfl rfl rfl ?_
  refine lv_iconst (v := 1) hx hb dX0_addWaggon_48 (by decide) ?_
  refine lv_iadd hx hb dX0_addWaggon_49 ?_
  refine th_iast (T := TyX a E) (Rl := fr [(10, 11), (13, 14)] [] C) hx hb hK hP hD hS 10 (by decide) (sX_10 hT) (rg_in (rg_c (v := 2) (lo := 2) (hi := 2) (by decide)) (by decide)) (hT.up 10 (tA_upd (tX_10 hT) (tA_stc (show _ = 2 by decide) (rg_add (lo := 1) (hi := 5) hroom (rg_c (v := 1) (lo := 1) (hi := 1) (by decide)) (by decide)) (by decide)))) (fr_st hF (by decide) (by decide)) dX0_addWaggon_50 (fun C_13 H locs e_14 hT hF hP hD hS => ?_)
  have t_15 := hT
  rw [hQ]
  exact W.iret (v := ga (C 10) ((2 : Int32)).toNatClampNeg) hx hb hr (fun t ht hW => ⟨⟨ga (C 10) ((2 : Int32)).toNatClampNeg, C_13, rfl, ⟨hT, hF, ⟨rfl, (by rw [(st_ga e_14), (Eq.trans (th_un e_11 (by decide)) (Eq.trans (th_un e_7 (by decide)) (th_un e_3 (by decide))))]), (rowPt_c (rowPt_st (rowPt_st (rowPt_st rowPt_0 e_3 (by decide) rfl (oh_rix hroom rfl rfl (by decide))) e_7 (by decide) rfl (oh_rix hroom rfl rfl (by decide))) e_11 (by decide) rfl (oh_rix hroom rfl rfl (by decide))) (th_un e_14 (by decide)))⟩⟩, ⟨by rw [ht]; exact hP, hD⟩⟩, hS.F ht⟩) hS.2.2 dX0_addWaggon_51

set_option maxHeartbeats 4000000 in
set_option maxRecDepth 100000 in
theorem e_X0_addPart (l : Launch) (D : va_G) (E : Nat → ClassId) (G : Nat → Nat) (sz : Nat) (a : Nat → Nat) (C : Nat → va_E) (hT : TyX a E C) (x1 : Int32) (x2 : Int32) (hroom : rg (ga (C 10) ((3 : Int32)).toNatClampNeg) 0 4) : Met l yX0_addPart (oh_w yX0_addPart cX0_addPart 4 (some .int)) ({ frames := 0, cells := 0, slots := 0, locals := 0 }) (oh_Pm D E G [.ref (a 1), .int x1, .int x2] (oh_W 35 a C) sz) (va_Qi (fun r (u : Nat → va_E) => TyX a E u ∧ fr [(10, 11), (14, 15)] [] C u ∧ (r = ga (C 10) ((3 : Int32)).toNatClampNeg) ∧ (ga (u 10) = upd (ga (C 10)) ((3 : Int32)).toNatClampNeg (ga (C 10) ((3 : Int32)).toNatClampNeg + 1)) ∧ (rowPt 2 (ga (C 10) ((3 : Int32)).toNatClampNeg).toNatClampNeg 2 (rwf [x1, x2]) (ga (C 14)) (ga (u 14)))) (oh_B D (va_A (oh_W 35 a C) sz) (fun u => oh_W 35 a u)) (va_A (oh_W 35 a C) sz)) 0 0 (va_A (oh_W 35 a C) sz) := by
  refine Met.ofW (cc := cX0_addPart) (maxL := 4) (ret := (some .int)) (by decide) rfl ?_
  intro p e s m args below meth c s₁ B hml hv
  obtain ⟨rfl, hsz, hP, hK, hD0, hG⟩ := hv
  have hx := B.exec
  have hb := B.bytes
  have hr := B.returns
  have hts := atoms_spec (ws := (oh_w yX0_addPart cX0_addPart 4 (some .int))) B.pre
  have htg : ∀ w ∈ oh_t, w.before _ s = true := fun w h => hts w (List.mem_cons_of_mem _ h)
  have hown : s.vm.findClass RX0 = some m.cls := findClass_of_methodNamed B.named
  have hlocks := B.notSynchronized
  have hT0 := hT
  subst hsz
  have hD := hD0.self (sz := s.heap.size)
  generalize hAe : va_A (oh_W 35 a C) s.heap.size = A at hD hG ⊢
  have hA : ∀ q : Nat, s.heap.size ≤ q → A q := fun q h => by rw [← hAe]; exact Or.inr h
  have hS : va_S A s.heap s.heap [] := va_S.rf
  have hF : fr [(10, 11), (14, 15)] [] C C := fr_rf
  have hl := lv_entry ([.ref (a 1), .int x1, .int x2]) (n := 4) (Nat.le_of_ble_eq_true rfl)
  rw [lg_entry_eq]
  generalize (lg_sl ([.ref (a 1), .int x1, .int x2]) ++ List.replicate (4 - (lg_sl ([.ref (a 1), .int x1, .int x2])).length) Slot.unset).toArray = ls at hl ⊢
  have hl : lv_has ls 4 [(0, .ref (a 1)), (1, .int x1), (2, .int x2)] := hl
  refine oh_genQ (fun Q hQ => ?_)
  refine lv_aload_n hx hb dX0_addPart_0 rfl (lv_at hl 0 rfl) ?_
  refine va_get (D := D) (ci := 0) (v := .ref (a 10)) (C := RX0) (T := TX0) (N := 8) hx hb htg ig_0 hown hK hP 1 (oh_wg (by decide) (sX_1 hT)) rfl 0 (by decide) (htg _ q_97) (fun _ h9 => h9) rfl dX0_addPart_1 ?_
  refine lv_iconst (v := 3) hx hb dX0_addPart_4 (by decide) ?_
  refine th_iald hx hb hK hP 10 (by decide) (sX_10 hT) (rg_in (rg_c (v := 3) (lo := 3) (hi := 3) (by decide)) (by decide)) dX0_addPart_5 ?_
  refine lv_iconst (v := 2) hx hb dX0_addPart_6 (by decide) ?_
  refine lv_imul hx hb dX0_addPart_7 ?_
  refine lv_istore_n (lv' := [(3, .int ((ga (C 10) ((3 : Int32)).toNatClampNeg) * 2)), (0, .ref (a 1)), (1, .int x1), (2, .int x2)]) hx hb dX0_addPart_8 rfl hl (by decide) rfl (fun ls hl => ?_)
  refine lv_aload_n hx hb dX0_addPart_9 rfl (lv_at hl 1 rfl) ?_
  refine va_get (D := D) (ci := 0) (v := .ref (a 14)) (C := RX0) (T := TX0) (N := 8) hx hb htg ig_0 hown hK hP 1 (oh_wg (by decide) (sX_1 hT)) rfl 4 (by decide) (htg _ q_105) (fun _ h9 => h9) rfl dX0_addPart_10 ?_
  refine lv_iload_n hx hb dX0_addPart_13 rfl (lv_at hl 0 rfl) ?_
  refine lv_iconst (v := 0) hx hb dX0_addPart_14 (by decide) ?_
  refine lv_iadd hx hb dX0_addPart_15 ?_
  refine lv_iload_n hx hb dX0_addPart_16 rfl (lv_at hl 2 rfl) ?_
  have n_1 : vp_in (((ga (C 10) ((3 : Int32)).toNatClampNeg) * 2) + 0) 10 := (rg_in (rg_add (lo := 0) (hi := 8) (rg_mul (lo := 0) (hi := 8) hroom (rg_c (v := 2) (lo := 2) (hi := 2) (by decide)) (by decide)) (rg_c (v := 0) (lo := 0) (hi := 0) (by decide)) (by decide)) (by decide))
  refine th_iast (T := TyX a E) (Rl := fr [(10, 11), (14, 15)] [] C) hx hb hK hP hD hS 14 (by decide) (sX_14 hT) n_1 (hT.up 14 (tA_upd (tX_14 hT) tA_any)) (fr_st hF (by decide) (by decide)) dX0_addPart_17 (fun C_2 H locs e_3 hT hF hP hD hS => ?_)
  have t_4 := hT
  refine lv_aload_n hx hb dX0_addPart_18 rfl (lv_at hl 1 rfl) ?_
  refine va_get (D := D) (ci := 0) (v := .ref (a 14)) (C := RX0) (T := TX0) (N := 8) hx hb htg ig_0 hown hK hP 1 (oh_wg (by decide) (sX_1 hT)) rfl 4 (by decide) (htg _ q_105) (fun _ h9 => h9) rfl dX0_addPart_19 ?_
  refine lv_iload_n hx hb dX0_addPart_22 rfl (lv_at hl 0 rfl) ?_
  refine lv_iconst (v := 1) hx hb dX0_addPart_23 (by decide) ?_
  refine lv_iadd hx hb dX0_addPart_24 ?_
  refine lv_iload_n hx hb dX0_addPart_25 rfl (lv_at hl 3 rfl) ?_
  have n_5 : vp_in (((ga (C 10) ((3 : Int32)).toNatClampNeg) * 2) + 1) 10 := (rg_in (rg_add (lo := 1) (hi := 9) (rg_mul (lo := 0) (hi := 8) hroom (rg_c (v := 2) (lo := 2) (hi := 2) (by decide)) (by decide)) (rg_c (v := 1) (lo := 1) (hi := 1) (by decide)) (by decide)) (by decide))
  refine th_iast (T := TyX a E) (Rl := fr [(10, 11), (14, 15)] [] C) hx hb hK hP hD hS 14 (by decide) (sX_14 hT) n_5 (hT.up 14 (tA_upd (tX_14 hT) tA_any)) (fr_st hF (by decide) (by decide)) dX0_addPart_26 (fun C_6 H locs e_7 hT hF hP hD hS => ?_)
  have t_8 := hT
  refine lv_aload_n hx hb dX0_addPart_27 rfl (lv_at hl 1 rfl) ?_
  refine va_get (D := D) (ci := 0) (v := .ref (a 10)) (C := RX0) (T := TX0) (N := 8) hx hb htg ig_0 hown hK hP 1 (oh_wg (by decide) (sX_1 hT)) rfl 0 (by decide) (htg _ q_97) (fun _ h9 => h9) rfl dX0_addPart_28 ?_
  refine lv_iconst (v := 3) hx hb dX0_addPart_31 (by decide) ?_
  refine lv_dup2_11 hx hb dX0_addPart_32 rfl rfl ?_
  refine th_iald hx hb hK hP 10 (by decide) (Eq.trans (Eq.trans (th_un e_7 (by decide)) (th_un e_3 (by decide))) (sX_10 hT0)) (rg_in (rg_c (v := 3) (lo := 3) (hi := 3) (by decide)) (by decide)) dX0_addPart_33 ?_
  refine lv_dup_x2 hx hb dX0_addPart_34 rfl rfl rfl ?_
  refine lv_iconst (v := 1) hx hb dX0_addPart_35 (by decide) ?_
  refine lv_iadd hx hb dX0_addPart_36 ?_
  refine th_iast (T := TyX a E) (Rl := fr [(10, 11), (14, 15)] [] C) hx hb hK hP hD hS 10 (by decide) (sX_10 hT) (rg_in (rg_c (v := 3) (lo := 3) (hi := 3) (by decide)) (by decide)) (hT.up 10 (tA_upd (tX_10 hT) (tA_stc (show _ = 3 by decide) (rg_add (lo := 1) (hi := 5) hroom (rg_c (v := 1) (lo := 1) (hi := 1) (by decide)) (by decide)) (by decide)))) (fr_st hF (by decide) (by decide)) dX0_addPart_37 (fun C_9 H locs e_10 hT hF hP hD hS => ?_)
  have t_11 := hT
  rw [hQ]
  exact W.iret (v := ga (C 10) ((3 : Int32)).toNatClampNeg) hx hb hr (fun t ht hW => ⟨⟨ga (C 10) ((3 : Int32)).toNatClampNeg, C_9, rfl, ⟨hT, hF, ⟨rfl, (by rw [(st_ga e_10), (Eq.trans (th_un e_7 (by decide)) (th_un e_3 (by decide)))]), (rowPt_c (rowPt_st (rowPt_st rowPt_0 e_3 (by decide) rfl (oh_rix hroom rfl rfl (by decide))) e_7 (by decide) rfl (oh_rix hroom rfl rfl (by decide))) (th_un e_10 (by decide)))⟩⟩, ⟨by rw [ht]; exact hP, hD⟩⟩, hS.F ht⟩) hS.2.2 dX0_addPart_38

set_option maxHeartbeats 4000000 in
set_option maxRecDepth 100000 in
theorem e_X0_hasRoom (l : Launch) (D : va_G) (E : Nat → ClassId) (G : Nat → Nat) (a : Nat → Nat) (C : Nat → va_E) (hT : TyX a E C) (x1 : Int32) (hx1 : rg x1 0 3) : Met l yX0_hasRoom (oh_w yX0_hasRoom cX0_hasRoom 2 (some .boolean)) ({ frames := 0, cells := 0, slots := 0, locals := 0 }) (oh_Pp D E G [.ref (a 1), .int x1] (oh_W 35 a C)) (vp_Si (fun r => (r = 0 ∨ r = 1) ∧ (r ≠ 0 → (ga (C 10) x1.toNatClampNeg < oh_room x1.toNatClampNeg)) ∧ (r = 0 → (¬ ga (C 10) x1.toNatClampNeg < oh_room x1.toNatClampNeg)))) 0 0 (fun _ => False) := by
  refine Met.ofW (cc := cX0_hasRoom) (maxL := 2) (ret := (some .boolean)) (by decide) rfl ?_
  intro p e s m args below meth c s₁ B hml hv
  obtain ⟨rfl, hP, hK, hG⟩ := hv
  have hx := B.exec
  have hb := B.bytes
  have hr := B.returns
  have hts := atoms_spec (ws := (oh_w yX0_hasRoom cX0_hasRoom 2 (some .boolean))) B.pre
  have htg : ∀ w ∈ oh_t, w.before _ s = true := fun w h => hts w (List.mem_cons_of_mem _ h)
  have hown : s.vm.findClass RX0 = some m.cls := findClass_of_methodNamed B.named
  have hlocks := B.notSynchronized
  have hT0 := hT
  have hS : va_S (fun _ => False) s.heap s.heap [] := va_S.rf
  have hl := lv_entry ([.ref (a 1), .int x1]) (n := 2) (Nat.le_of_ble_eq_true rfl)
  rw [lg_entry_eq]
  generalize (lg_sl ([.ref (a 1), .int x1]) ++ List.replicate (2 - (lg_sl ([.ref (a 1), .int x1])).length) Slot.unset).toArray = ls at hl ⊢
  have hl : lv_has ls 2 [(0, .ref (a 1)), (1, .int x1)] := hl
  refine oh_genQ (fun Q hQ => ?_)
  refine lv_aload_n hx hb dX0_hasRoom_0 rfl (lv_at hl 0 rfl) ?_
  refine va_get (D := D) (ci := 0) (v := .ref (a 10)) (C := RX0) (T := TX0) (N := 8) hx hb htg ig_0 hown hK hP 1 (oh_wg (by decide) (sX_1 hT)) rfl 0 (by decide) (htg _ q_97) (fun _ h9 => h9) rfl dX0_hasRoom_1 ?_
  refine lv_iload_n hx hb dX0_hasRoom_4 rfl (lv_at hl 1 rfl) ?_
  have n_1 : vp_in x1 4 := (rg_in hx1 (by decide))
  refine th_iald hx hb hK hP 10 (by decide) (sX_10 hT) n_1 dX0_hasRoom_5 ?_
  refine va_getsN hx hb hG.2.2.2.1.1 hS hown (va_Nw.use rfl (hG.2.1 ("OneHeavyLoad$Land", 9, "OneHeavyLoad", "ROOM", "[I", "OneHeavyLoad") (List.mem_of_getElem? (i := 0) rfl))) (fun _ h9 => h9) dX0_hasRoom_6 ?_
  refine lv_iload_n hx hb dX0_hasRoom_9 rfl (lv_at hl 1 rfl) ?_
  refine va_ti (v := .int (oh_room (x1).toNatClampNeg)) hx hb hG.2.2.2.1.2 hS (rg_in hx1 (by decide)) rfl dX0_hasRoom_10 ?_
  refine lv_icmp_ge (tgt := 18) hx hb dX0_hasRoom_11 (by decide) (fun (c_2 : (oh_room (x1).toNatClampNeg) ≤ (ga (C 10) (x1).toNatClampNeg)) => ?_) (fun (c_2 : ¬ ((oh_room (x1).toNatClampNeg) ≤ (ga (C 10) (x1).toNatClampNeg))) => ?_)
  · refine lv_iconst (v := 0) hx hb dX0_hasRoom_18 (by decide) ?_
    rw [hQ]
    exact W.zret (v := 0) (ty := .boolean) hx hb hr (by decide) (fun t ht hW => ⟨0, rfl, ⟨(Or.inl rfl), (fun h9 => absurd rfl h9), (fun _ => (Int32.not_lt.mpr c_2))⟩, ht⟩) (fun q h => by cases h) dX0_hasRoom_19
  · refine lv_iconst (v := 1) hx hb dX0_hasRoom_14 (by decide) ?_
    refine lv_goto (tgt := 19) hx hb dX0_hasRoom_15 (by decide) ?_
    rw [hQ]
    exact W.zret (v := 1) (ty := .boolean) hx hb hr (by decide) (fun t ht hW => ⟨1, rfl, ⟨(Or.inr rfl), (fun _ => (Int32.not_le.mp c_2)), (fun h9 => absurd h9 (by decide))⟩, ht⟩) (fun q h => by cases h) dX0_hasRoom_19
/-! EXACT: statements, as the class reads them -/
noncomputable def xEnt (f : Nat → Int32) (room : Prop) (p : PX) : PX := pif room (xAdv f p) (xFail p)
noncomputable def xRoad (f : Nat → Int32) (room : Prop) (p : PX) : (Nat → Int32) × PX :=
  let p1 := xEnt f room p
  let a := xNum f 0 15 p1
  let p3 := pif (numH f a.2 = a.1) (xFail a.2) a.2
  let b := xNum f 0 15 p3
  let m := xNum f 1 60 (xWord f 1 b.2)
  let r := xPer f 2 0 9 0 m.2
  let t := xPer f 3 1 99 99 r.2
  let q := xPer f 4 0 15 0 t.2
  (rwf [a.1, b.1, m.1, r.1, t.1, q.1, 0], q.2)
theorem xRoad_mk {f : Nat → Int32} {room : Prop} {p p1 p2 p3 p4 p5 p6 p7 p8 : PX} {a b m r t q : Int32} (h1 : p1 = xEnt f room p) (ha : a = (xNum f 0 15 p1).1) (h2 : p2 = (xNum f 0 15 p1).2) (h3 : p3 = pif (numH f p2 = a) (xFail p2) p2) (hb : b = (xNum f 0 15 p3).1) (h4 : p4 = (xNum f 0 15 p3).2) (hm : m = (xNum f 1 60 (xWord f 1 p4)).1) (h5 : p5 = (xNum f 1 60 (xWord f 1 p4)).2) (hr : r = (xPer f 2 0 9 0 p5).1) (h6 : p6 = (xPer f 2 0 9 0 p5).2) (ht : t = (xPer f 3 1 99 99 p6).1) (h7 : p7 = (xPer f 3 1 99 99 p6).2) (hq : q = (xPer f 4 0 15 0 p7).1) (h8 : p8 = (xPer f 4 0 15 0 p7).2) : xRoad f room p = (rwf [a, b, m, r, t, q, 0], p8) := by
  subst h8 hq h7 ht h6 hr h5 hm h4 hb h3 h2 ha h1
  rfl
noncomputable def xProp (f : Nat → Int32) (p : PX) : Int32 × Int32 × PX :=
  pif (XIs f p 10) ((xNum f 0 999 (xAdv f p)).1, (xNum f 0 999 (xNum f 0 999 (xAdv f p)).2).1, (xNum f 0 999 (xNum f 0 999 (xAdv f p)).2).2) (0, 0, p)
noncomputable def xBridge (f : Nat → Int32) (room : Prop) (nr : Int32) (p : PX) : (Nat → Int32) × PX :=
  let p1 := xEnt f room p
  let a := xNum f 0 (nr - 1) p1
  let k := xNum f 0 5 (xWord f 6 a.2)
  let s := xNum f 0 60 (xWord f 7 k.2)
  let x := xNum f 1 99 (xWord f 8 s.2)
  let l := xNum f 1 999 (xWord f 9 x.2)
  let q := xProp f l.2
  (rwf [a.1, k.1, s.1, x.1, l.1, q.1, q.2.1, 0, 0, 0], q.2.2)
theorem xBridge_mk {f : Nat → Int32} {room : Prop} {nr : Int32} {p p1 p2 p3 p4 p5 p6 p8 : PX} {a k s x l m c : Int32} (h1 : p1 = xEnt f room p) (ha : a = (xNum f 0 (nr - 1) p1).1) (h2 : p2 = (xNum f 0 (nr - 1) p1).2) (hk : k = (xNum f 0 5 (xWord f 6 p2)).1) (h3 : p3 = (xNum f 0 5 (xWord f 6 p2)).2) (hs : s = (xNum f 0 60 (xWord f 7 p3)).1) (h4 : p4 = (xNum f 0 60 (xWord f 7 p3)).2) (hx : x = (xNum f 1 99 (xWord f 8 p4)).1) (h5 : p5 = (xNum f 1 99 (xWord f 8 p4)).2) (hl : l = (xNum f 1 999 (xWord f 9 p5)).1) (h6 : p6 = (xNum f 1 999 (xWord f 9 p5)).2) (hq : xProp f p6 = (m, c, p8)) : xBridge f room nr p = (rwf [a, k, s, x, l, m, c, 0, 0, 0], p8) := by
  subst h6 hl h5 hx h4 hs h3 hk h2 ha h1
  unfold xBridge
  simp only [hq]
theorem xProp_1 {f : Nat → Int32} {p p7 p8 p9 : PX} {m c : Int32} (hw : XIs f p 10) (h7 : p7 = xIf f 10 p) (hm : m = (xNum f 0 999 p7).1) (h8 : p8 = (xNum f 0 999 p7).2) (hc : c = (xNum f 0 999 p8).1) (h9 : p9 = (xNum f 0 999 p8).2) : xProp f p = (m, c, p9) := by
  have e : xIf f 10 p = xAdv f p := pif_pos hw
  rw [e] at h7
  subst h9 hc h8 hm h7
  exact pif_pos hw
theorem xProp_0 {f : Nat → Int32} {p p7 : PX} (hw : ¬ XIs f p 10) (h7 : p7 = xIf f 10 p) : xProp f p = (0, 0, p7) := by
  have e : xIf f 10 p = p := pif_neg hw
  rw [e] at h7
  subst h7
  exact pif_neg hw
noncomputable def xWag (f : Nat → Int32) (room : Prop) (p : PX) : (Nat → Int32) × PX :=
  let p1 := xEnt f room p
  let a := xNum f 2 12 p1
  let s := xNum f 1 9 (xWord f 12 a.2)
  let t := xNum f 0 99 (xWord f 13 s.2)
  (rwf [a.1, s.1, t.1], t.2)
theorem xWag_mk {f : Nat → Int32} {room : Prop} {p p1 p2 p3 p4 : PX} {a s t : Int32} (h1 : p1 = xEnt f room p) (ha : a = (xNum f 2 12 p1).1) (h2 : p2 = (xNum f 2 12 p1).2) (hs : s = (xNum f 1 9 (xWord f 12 p2)).1) (h3 : p3 = (xNum f 1 9 (xWord f 12 p2)).2) (ht : t = (xNum f 0 99 (xWord f 13 p3)).1) (h4 : p4 = (xNum f 0 99 (xWord f 13 p3)).2) : xWag f room p = (rwf [a, s, t], p4) := by
  subst h4 ht h3 hs h2 ha h1
  rfl
noncomputable def xPart (f : Nat → Int32) (room : Prop) (p : PX) : (Nat → Int32) × PX :=
  let p1 := xEnt f room p
  let a := xNum f 1 99 p1
  let b := xNum f 0 99 a.2
  (rwf [a.1, b.1], b.2)
theorem xPart_mk {f : Nat → Int32} {room : Prop} {p p1 p2 p3 : PX} {a b : Int32} (h1 : p1 = xEnt f room p) (ha : a = (xNum f 1 99 p1).1) (h2 : p2 = (xNum f 1 99 p1).2) (hb : b = (xNum f 0 99 p2).1) (h3 : p3 = (xNum f 0 99 p2).2) : xPart f room p = (rwf [a, b], p3) := by
  subst h3 hb h2 ha h1
  rfl
theorem px_c {C u : Nat → va_E} (e : u 5 = C 5) : px u = px C := by
  unfold px
  rw [e]

set_option maxHeartbeats 4000000 in
set_option maxRecDepth 100000 in
theorem e_X2_enter (l : Launch) (D : va_G) (E : Nat → ClassId) (G : Nat → Nat) (sz : Nat) (a : Nat → Nat) (C : Nat → va_E) (hT : TyX a E C) (x1 : Int32) (hx1 : rg x1 0 3) : Met l yX2_enter (oh_w yX2_enter cX2_enter 2 none) ({ frames := 1, cells := 0, slots := 0, locals := 21 }) (oh_Pm D E G [.ref (a 6), .int x1] (oh_W 35 a C) sz) (va_Qv (fun (u : Nat → va_E) => TyX a E u ∧ fr [(5, 6)] [] C u ∧ (gi (u 5) 2 = -1 → gi (C 5) 2 = -1) ∧ (gi (u 5) 2 = -1 → ga (C 10) x1.toNatClampNeg < oh_room x1.toNatClampNeg) ∧ (px u = xEnt (ga (C 32)) (ga (C 10) x1.toNatClampNeg < oh_room x1.toNatClampNeg) (px C))) (oh_B D (va_A (oh_W 35 a C) sz) (fun u => oh_W 35 a u)) (va_A (oh_W 35 a C) sz)) 0 0 (va_A (oh_W 35 a C) sz) := by
  refine Met.ofW (cc := cX2_enter) (maxL := 2) (ret := none) (by decide) rfl ?_
  intro p e s m args below meth c s₁ B hml hv
  obtain ⟨rfl, hsz, hP, hK, hD0, hG⟩ := hv
  have hx := B.exec
  have hb := B.bytes
  have hr := B.returns
  have hts := atoms_spec (ws := (oh_w yX2_enter cX2_enter 2 none)) B.pre
  have htg : ∀ w ∈ oh_t, w.before _ s = true := fun w h => hts w (List.mem_cons_of_mem _ h)
  have hown : s.vm.findClass RX2 = some m.cls := findClass_of_methodNamed B.named
  have hlocks := B.notSynchronized
  have hT0 := hT
  subst hsz
  have hD := hD0.self (sz := s.heap.size)
  generalize hAe : va_A (oh_W 35 a C) s.heap.size = A at hD hG ⊢
  have hA : ∀ q : Nat, s.heap.size ≤ q → A q := fun q h => by rw [← hAe]; exact Or.inr h
  have hS : va_S A s.heap s.heap [] := va_S.rf
  have hF : fr [(5, 6)] [] C C := fr_rf
  have hl := lv_entry ([.ref (a 6), .int x1]) (n := 2) (Nat.le_of_ble_eq_true rfl)
  rw [lg_entry_eq]
  generalize (lg_sl ([.ref (a 6), .int x1]) ++ List.replicate (2 - (lg_sl ([.ref (a 6), .int x1])).length) Slot.unset).toArray = ls at hl ⊢
  have hl : lv_has ls 2 [(0, .ref (a 6)), (1, .int x1)] := hl
  refine oh_genQ (fun Q hQ => ?_)
  refine lv_aload_n hx hb dX2_enter_0 rfl (lv_at hl 0 rfl) ?_
  refine va_get (D := D) (ci := 2) (v := .ref (a 1)) (C := RX2) (T := TX2) (N := 4) hx hb htg ig_2 hown hK hP 6 (oh_wg (by decide) (sX_6 hT)) rfl 1 (by decide) (htg _ q_246) (fun _ h9 => h9) rfl dX2_enter_1 ?_
  refine lv_iload_n hx hb dX2_enter_4 rfl (lv_at hl 1 rfl) ?_
  refine tq_V (As := [.int x1]) (rest := []) (ws := (oh_W 35 a C)) ⟨hx, hb, hml, hown, htg⟩ (e_X0_hasRoom l D E G a C hT x1 (rg_w hx1 (by decide))) (cwV 1 htg (oh_gV q_577 q_417 q_418 q_67 q_419) rfl rfl rfl pdVX0_hasRoom ⟨Nat.le_of_ble_eq_true rfl, Nat.le_of_ble_eq_true rfl⟩) hK hP hG hS (va_recv hK hP (ci := 0) (q0 := 1) rfl (oh_wg (by decide) (sX_1 hT))) rfl hl.1 rfl (Nat.le_of_ble_eq_true rfl) dX2_enter_5 ⟨Nat.le_of_ble_eq_true rfl, Nat.le_of_ble_eq_true rfl⟩ (fun r_1 hq_2 => ?_)
  refine lv_if_eq (tgt := 21) hx hb dX2_enter_8 (by decide) (fun (c_3 : r_1 = 0) => ?_) (fun (c_3 : ¬ (r_1 = 0)) => ?_)
  · have u_4 := hq_2.2.2 c_3
    refine lv_aload_n hx hb dX2_enter_21 rfl (lv_at hl 0 rfl) ?_
    refine va_get (D := D) (ci := 2) (v := .ref (a 5)) (C := RX2) (T := TX2) (N := 4) hx hb htg ig_2 hown hK hP 6 (oh_wg (by decide) (sX_6 hT)) rfl 0 (by decide) (htg _ q_245) (fun _ h9 => h9) rfl dX2_enter_22 ?_
    refine tm_Vv (As := []) (rest := []) ⟨hx, hb, hml, hown, htg⟩ (e_X4_fail l D E G _ a C hT) (cwV 0 htg (oh_gV q_579 q_580 q_581 q_71 q_582) rfl rfl rfl pdVX4_fail ⟨Nat.le_of_ble_eq_true rfl, Nat.le_of_ble_eq_true rfl⟩) hK hP hD hG hS hA (va_recv hK hP (ci := 4) (q0 := 5) rfl (oh_wg (by decide) (sX_5 hT))) rfl hl.1 rfl (Nat.le_of_ble_eq_true rfl) dX2_enter_25 ⟨Nat.le_of_ble_eq_true rfl, Nat.le_of_ble_eq_true rfl⟩ (fun C_6 H locs hq_7 hP hD hS => ?_)
    obtain ⟨hT, f_8, hq_7⟩ := hq_7
    have hF := fr_tr hF f_8 (by decide) (by decide)
    refine W.widen (k := 0) (n := 0) (Nat.le_refl _) (Nat.le_refl _) ?_
    have t_9 := hT
    have ep_10 := hq_7.2
    rw [hQ]
    exact W.vret hx hb hr (fun t ht hW => ⟨⟨C_6, rfl, ⟨hT, hF, ⟨(fun h8 => ((fun h7 => absurd h7 (oh_nfl hq_7.1)) h8)), (fun h8 => absurd h8 (oh_nfl hq_7.1)), (Eq.trans ep_10 (pif_neg u_4).symm)⟩⟩, ⟨by rw [ht]; exact hP, hD⟩⟩, hS.F ht⟩) hS.2.2 dX2_enter_28
  · have u_11 := hq_2.2.1 c_3
    refine lv_aload_n hx hb dX2_enter_11 rfl (lv_at hl 0 rfl) ?_
    refine va_get (D := D) (ci := 2) (v := .ref (a 5)) (C := RX2) (T := TX2) (N := 4) hx hb htg ig_2 hown hK hP 6 (oh_wg (by decide) (sX_6 hT)) rfl 0 (by decide) (htg _ q_245) (fun _ h9 => h9) rfl dX2_enter_12 ?_
    refine tm_Vv (As := []) (rest := []) ⟨hx, hb, hml, hown, htg⟩ (e_X4_advance l D E G _ a C hT) (cwV 0 htg (oh_gV q_578 q_509 q_510 q_71 q_511) rfl rfl rfl pdVX4_advance ⟨Nat.le_of_ble_eq_true rfl, Nat.le_of_ble_eq_true rfl⟩) hK hP hD hG hS hA (va_recv hK hP (ci := 4) (q0 := 5) rfl (oh_wg (by decide) (sX_5 hT))) rfl hl.1 rfl (Nat.le_of_ble_eq_true rfl) dX2_enter_15 ⟨Nat.le_of_ble_eq_true rfl, Nat.le_of_ble_eq_true rfl⟩ (fun C_13 H locs hq_14 hP hD hS => ?_)
    obtain ⟨hT, f_15, hq_14⟩ := hq_14
    have hF := fr_tr hF f_15 (by decide) (by decide)
    refine W.widen (k := 0) (n := 0) (Nat.le_refl _) (Nat.le_refl _) ?_
    have t_16 := hT
    have ep_17 := hq_14.2
    refine lv_goto (tgt := 28) hx hb dX2_enter_18 (by decide) ?_
    rw [hQ]
    exact W.vret hx hb hr (fun t ht hW => ⟨⟨C_13, rfl, ⟨hT, hF, ⟨(fun h8 => ((fun h7 => Eq.trans (hq_14.1).symm h7) h8)), (fun _ => u_11), (Eq.trans ep_17 (pif_pos u_11).symm)⟩⟩, ⟨by rw [ht]; exact hP, hD⟩⟩, hS.F ht⟩) hS.2.2 dX2_enter_28

set_option maxHeartbeats 4000000 in
set_option maxRecDepth 100000 in
theorem e_X2_number (l : Launch) (D : va_G) (E : Nat → ClassId) (G : Nat → Nat) (sz : Nat) (a : Nat → Nat) (C : Nat → va_E) (hT : TyX a E C) (j : Nat) (x1 : Int32) (x2 : Int32) (hj : j < 34) : Met l yX2_number (oh_w yX2_number cX2_number 4 (some .int)) ({ frames := 6, cells := 0, slots := 0, locals := 128 }) (oh_Pm D E G [.ref (a 6), .ref (G (3 + j)), .int x1, .int x2] (oh_W 35 a C) sz) (va_Qi (fun r (u : Nat → va_E) => TyX a E u ∧ fr [(5, 6)] [] C u ∧ (gi (u 5) 2 = -1 → gi (C 5) 2 = -1) ∧ (gi (u 5) 2 = -1 → x1 ≤ r ∧ r ≤ x2) ∧ (r = (xNum (ga (C 32)) x1 x2 (xWord (ga (C 32)) j (px C))).1) ∧ (px u = (xNum (ga (C 32)) x1 x2 (xWord (ga (C 32)) j (px C))).2)) (oh_B D (va_A (oh_W 35 a C) sz) (fun u => oh_W 35 a u)) (va_A (oh_W 35 a C) sz)) 0 0 (va_A (oh_W 35 a C) sz) := by
  refine Met.ofW (cc := cX2_number) (maxL := 4) (ret := (some .int)) (by decide) rfl ?_
  intro p e s m args below meth c s₁ B hml hv
  obtain ⟨rfl, hsz, hP, hK, hD0, hG⟩ := hv
  have hx := B.exec
  have hb := B.bytes
  have hr := B.returns
  have hts := atoms_spec (ws := (oh_w yX2_number cX2_number 4 (some .int))) B.pre
  have htg : ∀ w ∈ oh_t, w.before _ s = true := fun w h => hts w (List.mem_cons_of_mem _ h)
  have hown : s.vm.findClass RX2 = some m.cls := findClass_of_methodNamed B.named
  have hlocks := B.notSynchronized
  have hT0 := hT
  subst hsz
  have hD := hD0.self (sz := s.heap.size)
  generalize hAe : va_A (oh_W 35 a C) s.heap.size = A at hD hG ⊢
  have hA : ∀ q : Nat, s.heap.size ≤ q → A q := fun q h => by rw [← hAe]; exact Or.inr h
  have hS : va_S A s.heap s.heap [] := va_S.rf
  have hF : fr [(5, 6)] [] C C := fr_rf
  have hl := lv_entry ([.ref (a 6), .ref (G (3 + j)), .int x1, .int x2]) (n := 4) (Nat.le_of_ble_eq_true rfl)
  rw [lg_entry_eq]
  generalize (lg_sl ([.ref (a 6), .ref (G (3 + j)), .int x1, .int x2]) ++ List.replicate (4 - (lg_sl ([.ref (a 6), .ref (G (3 + j)), .int x1, .int x2])).length) Slot.unset).toArray = ls at hl ⊢
  have hl : lv_has ls 4 [(0, .ref (a 6)), (1, .ref (G (3 + j))), (2, .int x1), (3, .int x2)] := hl
  refine oh_genQ (fun Q hQ => ?_)
  refine lv_aload_n hx hb dX2_number_0 rfl (lv_at hl 0 rfl) ?_
  refine va_get (D := D) (ci := 2) (v := .ref (a 5)) (C := RX2) (T := TX2) (N := 4) hx hb htg ig_2 hown hK hP 6 (oh_wg (by decide) (sX_6 hT)) rfl 0 (by decide) (htg _ q_245) (fun _ h9 => h9) rfl dX2_number_1 ?_
  refine lv_aload_n hx hb dX2_number_4 rfl (lv_at hl 1 rfl) ?_
  refine tm_Vv (As := [.ref (G (3 + j))]) (rest := []) ⟨hx, hb, hml, hown, htg⟩ (e_X4_takeWord l D E G _ a C hT j hj) (cwV 1 htg (oh_gV q_603 q_604 q_605 q_71 q_606) rfl rfl rfl pdVX4_takeWord ⟨Nat.le_of_ble_eq_true rfl, Nat.le_of_ble_eq_true rfl⟩) hK hP hD hG hS hA (va_recv hK hP (ci := 4) (q0 := 5) rfl (oh_wg (by decide) (sX_5 hT))) rfl hl.1 rfl (Nat.le_of_ble_eq_true rfl) dX2_number_5 ⟨Nat.le_of_ble_eq_true rfl, Nat.le_of_ble_eq_true rfl⟩ (fun C_2 H locs hq_3 hP hD hS => ?_)
  obtain ⟨hT, f_4, hq_3⟩ := hq_3
  have hF := fr_tr hF f_4 (by decide) (by decide)
  refine W.widen (k := 0) (n := 0) (Nat.le_refl _) (Nat.le_refl _) ?_
  have t_5 := hT
  have ep_6 := hq_3.2
  refine lv_aload_n hx hb dX2_number_8 rfl (lv_at hl 0 rfl) ?_
  refine va_get (D := D) (ci := 2) (v := .ref (a 5)) (C := RX2) (T := TX2) (N := 4) hx hb htg ig_2 hown hK hP 6 (oh_wg (by decide) (sX_6 hT)) rfl 0 (by decide) (htg _ q_245) (fun _ h9 => h9) rfl dX2_number_9 ?_
  refine lv_iload_n hx hb dX2_number_12 rfl (lv_at hl 2 rfl) ?_
  refine lv_iload_n hx hb dX2_number_13 rfl (lv_at hl 3 rfl) ?_
  refine tm_V (As := [.int x1, .int x2]) (rest := []) ⟨hx, hb, hml, hown, htg⟩ (e_X4_takeNumber l D E G _ a C_2 hT x1 x2) (cwV 2 htg (oh_gV q_583 q_584 q_585 q_71 q_586) rfl rfl rfl pdVX4_takeNumber ⟨Nat.le_of_ble_eq_true rfl, Nat.le_of_ble_eq_true rfl⟩) hK hP hD hG hS hA (va_recv hK hP (ci := 4) (q0 := 5) rfl (oh_wg (by decide) (sX_5 hT))) rfl hl.1 rfl (Nat.le_of_ble_eq_true rfl) dX2_number_14 ⟨Nat.le_of_ble_eq_true rfl, Nat.le_of_ble_eq_true rfl⟩ (fun r_7 C_8 H locs hq_9 hP hD hS => ?_)
  obtain ⟨hT, f_10, hq_9⟩ := hq_9
  have hF := fr_tr hF f_10 (by decide) (by decide)
  refine W.widen (k := 0) (n := 0) (Nat.le_refl _) (Nat.le_refl _) ?_
  have t_11 := hT
  have er_12 := hq_9.2.2.1
  rw [show ga (C_2 32) = ga (C 32) from congrArg ga (f_4.1 32 rfl (by decide))] at er_12
  have ep_13 := hq_9.2.2.2
  rw [show ga (C_2 32) = ga (C 32) from congrArg ga (f_4.1 32 rfl (by decide))] at ep_13
  rw [hQ]
  exact W.iret (v := r_7) hx hb hr (fun t ht hW => ⟨⟨r_7, C_8, rfl, ⟨hT, hF, ⟨(fun h8 => (hq_3.1 (hq_9.1 h8))), hq_9.2.1, (Eq.trans er_12 (congrArg (fun z => (xNum (ga (C 32)) x1 x2 z).1) ep_6)), (Eq.trans ep_13 (congrArg (fun z => (xNum (ga (C 32)) x1 x2 z).2) ep_6))⟩⟩, ⟨by rw [ht]; exact hP, hD⟩⟩, hS.F ht⟩) hS.2.2 dX2_number_17

set_option maxHeartbeats 4000000 in
set_option maxRecDepth 100000 in
theorem e_X2_numberIfTold (l : Launch) (D : va_G) (E : Nat → ClassId) (G : Nat → Nat) (sz : Nat) (a : Nat → Nat) (C : Nat → va_E) (hT : TyX a E C) (j : Nat) (x1 : Int32) (x2 : Int32) (x3 : Int32) (hj : j < 34) : Met l yX2_numberIfTold (oh_w yX2_numberIfTold cX2_numberIfTold 5 (some .int)) ({ frames := 6, cells := 0, slots := 0, locals := 129 }) (oh_Pm D E G [.ref (a 6), .ref (G (3 + j)), .int x1, .int x2, .int x3] (oh_W 35 a C) sz) (va_Qi (fun r (u : Nat → va_E) => TyX a E u ∧ fr [(5, 6)] [] C u ∧ (gi (u 5) 2 = -1 → gi (C 5) 2 = -1) ∧ (r = (xPer (ga (C 32)) j x1 x2 x3 (px C)).1) ∧ (px u = (xPer (ga (C 32)) j x1 x2 x3 (px C)).2)) (oh_B D (va_A (oh_W 35 a C) sz) (fun u => oh_W 35 a u)) (va_A (oh_W 35 a C) sz)) 0 0 (va_A (oh_W 35 a C) sz) := by
  refine Met.ofW (cc := cX2_numberIfTold) (maxL := 5) (ret := (some .int)) (by decide) rfl ?_
  intro p e s m args below meth c s₁ B hml hv
  obtain ⟨rfl, hsz, hP, hK, hD0, hG⟩ := hv
  have hx := B.exec
  have hb := B.bytes
  have hr := B.returns
  have hts := atoms_spec (ws := (oh_w yX2_numberIfTold cX2_numberIfTold 5 (some .int))) B.pre
  have htg : ∀ w ∈ oh_t, w.before _ s = true := fun w h => hts w (List.mem_cons_of_mem _ h)
  have hown : s.vm.findClass RX2 = some m.cls := findClass_of_methodNamed B.named
  have hlocks := B.notSynchronized
  have hT0 := hT
  subst hsz
  have hD := hD0.self (sz := s.heap.size)
  generalize hAe : va_A (oh_W 35 a C) s.heap.size = A at hD hG ⊢
  have hA : ∀ q : Nat, s.heap.size ≤ q → A q := fun q h => by rw [← hAe]; exact Or.inr h
  have hS : va_S A s.heap s.heap [] := va_S.rf
  have hF : fr [(5, 6)] [] C C := fr_rf
  have hl := lv_entry ([.ref (a 6), .ref (G (3 + j)), .int x1, .int x2, .int x3]) (n := 5) (Nat.le_of_ble_eq_true rfl)
  rw [lg_entry_eq]
  generalize (lg_sl ([.ref (a 6), .ref (G (3 + j)), .int x1, .int x2, .int x3]) ++ List.replicate (5 - (lg_sl ([.ref (a 6), .ref (G (3 + j)), .int x1, .int x2, .int x3])).length) Slot.unset).toArray = ls at hl ⊢
  have hl : lv_has ls 5 [(0, .ref (a 6)), (1, .ref (G (3 + j))), (2, .int x1), (3, .int x2), (4, .int x3)] := hl
  refine oh_genQ (fun Q hQ => ?_)
  refine lv_aload_n hx hb dX2_numberIfTold_0 rfl (lv_at hl 0 rfl) ?_
  refine va_get (D := D) (ci := 2) (v := .ref (a 5)) (C := RX2) (T := TX2) (N := 4) hx hb htg ig_2 hown hK hP 6 (oh_wg (by decide) (sX_6 hT)) rfl 0 (by decide) (htg _ q_245) (fun _ h9 => h9) rfl dX2_numberIfTold_1 ?_
  refine lv_aload_n hx hb dX2_numberIfTold_4 rfl (lv_at hl 1 rfl) ?_
  refine tm_V (As := [.ref (G (3 + j))]) (rest := []) ⟨hx, hb, hml, hown, htg⟩ (e_X4_takeWordIfThere l D E G _ a C hT j hj) (cwV 1 htg (oh_gV q_613 q_614 q_615 q_71 q_616) rfl rfl rfl pdVX4_takeWordIfThere ⟨Nat.le_of_ble_eq_true rfl, Nat.le_of_ble_eq_true rfl⟩) hK hP hD hG hS hA (va_recv hK hP (ci := 4) (q0 := 5) rfl (oh_wg (by decide) (sX_5 hT))) rfl hl.1 rfl (Nat.le_of_ble_eq_true rfl) dX2_numberIfTold_5 ⟨Nat.le_of_ble_eq_true rfl, Nat.le_of_ble_eq_true rfl⟩ (fun r_1 C_2 H locs hq_3 hP hD hS => ?_)
  obtain ⟨hT, f_4, hq_3⟩ := hq_3
  have hF := fr_tr hF f_4 (by decide) (by decide)
  refine W.widen (k := 0) (n := 0) (Nat.le_refl _) (Nat.le_refl _) ?_
  have t_5 := hT
  have ep_6 := hq_3.2.2.1
  refine lv_if_eq (tgt := 23) hx hb dX2_numberIfTold_8 (by decide) (fun (c_7 : r_1 = 0) => ?_) (fun (c_7 : ¬ (r_1 = 0)) => ?_)
  · have u_8 := hq_3.2.2.2.2 c_7
    refine lv_iload hx hb dX2_numberIfTold_23 (lv_at hl 4 rfl) ?_
    rw [hQ]
    exact W.iret (v := x3) hx hb hr (fun t ht hW => ⟨⟨x3, C_2, rfl, ⟨hT, hF, ⟨hq_3.2.1, (congrArg Prod.fst (xPer_0 u_8)).symm, (Eq.trans (Eq.trans ep_6 (pif_neg u_8)) (congrArg Prod.snd (xPer_0 u_8)).symm)⟩⟩, ⟨by rw [ht]; exact hP, hD⟩⟩, hS.F ht⟩) hS.2.2 dX2_numberIfTold_25
  · have u_9 := hq_3.2.2.2.1 c_7
    refine lv_aload_n hx hb dX2_numberIfTold_11 rfl (lv_at hl 0 rfl) ?_
    refine va_get (D := D) (ci := 2) (v := .ref (a 5)) (C := RX2) (T := TX2) (N := 4) hx hb htg ig_2 hown hK hP 6 (oh_wg (by decide) (sX_6 hT)) rfl 0 (by decide) (htg _ q_245) (fun _ h9 => h9) rfl dX2_numberIfTold_12 ?_
    refine lv_iload_n hx hb dX2_numberIfTold_15 rfl (lv_at hl 2 rfl) ?_
    refine lv_iload_n hx hb dX2_numberIfTold_16 rfl (lv_at hl 3 rfl) ?_
    refine tm_V (As := [.int x1, .int x2]) (rest := []) ⟨hx, hb, hml, hown, htg⟩ (e_X4_takeNumber l D E G _ a C_2 hT x1 x2) (cwV 2 htg (oh_gV q_583 q_584 q_585 q_71 q_586) rfl rfl rfl pdVX4_takeNumber ⟨Nat.le_of_ble_eq_true rfl, Nat.le_of_ble_eq_true rfl⟩) hK hP hD hG hS hA (va_recv hK hP (ci := 4) (q0 := 5) rfl (oh_wg (by decide) (sX_5 hT))) rfl hl.1 rfl (Nat.le_of_ble_eq_true rfl) dX2_numberIfTold_17 ⟨Nat.le_of_ble_eq_true rfl, Nat.le_of_ble_eq_true rfl⟩ (fun r_10 C_11 H locs hq_12 hP hD hS => ?_)
    obtain ⟨hT, f_13, hq_12⟩ := hq_12
    have hF := fr_tr hF f_13 (by decide) (by decide)
    refine W.widen (k := 0) (n := 0) (Nat.le_refl _) (Nat.le_refl _) ?_
    have t_14 := hT
    have er_15 := hq_12.2.2.1
    rw [show ga (C_2 32) = ga (C 32) from congrArg ga (f_4.1 32 rfl (by decide))] at er_15
    have ep_16 := hq_12.2.2.2
    rw [show ga (C_2 32) = ga (C 32) from congrArg ga (f_4.1 32 rfl (by decide))] at ep_16
    refine lv_goto (tgt := 25) hx hb dX2_numberIfTold_20 (by decide) ?_
    rw [hQ]
    exact W.iret (v := r_10) hx hb hr (fun t ht hW => ⟨⟨r_10, C_11, rfl, ⟨hT, hF, ⟨(fun h8 => (hq_3.2.1 (hq_12.1 h8))), (Eq.trans er_15 (Eq.trans (congrArg (fun z => (xNum (ga (C 32)) x1 x2 z).1) (Eq.trans ep_6 (pif_pos u_9))) (congrArg Prod.fst (xPer_1 u_9)).symm)), (Eq.trans ep_16 (Eq.trans (congrArg (fun z => (xNum (ga (C 32)) x1 x2 z).2) (Eq.trans ep_6 (pif_pos u_9))) (congrArg Prod.snd (xPer_1 u_9)).symm))⟩⟩, ⟨by rw [ht]; exact hP, hD⟩⟩, hS.F ht⟩) hS.2.2 dX2_numberIfTold_25

theorem rgB1 {a : Nat → Nat} {E : Nat → ClassId} {C : Nat → va_E} (hT : TyX a E C) : rg (ga (C 10) ((1 : Int32)).toNatClampNeg) 0 16 := tA_rdc (lo := 0) (hi := 16) (tX_10 hT) (rg_in (l := 1) (u := 1) (rg_c (by decide)) (by decide)) (k := 1) (by decide) (by decide)
theorem rwfp {a b c d e m n : Int32} {j : Nat} (hj : j < 10) (h1 : j ≠ 5) (h2 : j ≠ 6) : rwf [a, b, c, d, e, 0, 0, 0, 0, 0] j = rwf [a, b, c, d, e, m, n, 0, 0, 0] j := by
  rcases (show j = 0 ∨ j = 1 ∨ j = 2 ∨ j = 3 ∨ j = 4 ∨ j = 7 ∨ j = 8 ∨ j = 9 by omega) with rfl | rfl | rfl | rfl | rfl | rfl | rfl | rfl <;> rfl

set_option maxHeartbeats 4000000 in
set_option maxRecDepth 100000 in
theorem e_X2_readRoad (l : Launch) (D : va_G) (E : Nat → ClassId) (G : Nat → Nat) (sz : Nat) (a : Nat → Nat) (C : Nat → va_E) (hT : TyX a E C) : Met l yX2_readRoad (oh_w yX2_readRoad cX2_readRoad 7 none) ({ frames := 7, cells := 0, slots := 0, locals := 153 }) (oh_Pm D E G [.ref (a 6)] (oh_W 35 a C) sz) (va_Qv (fun (u : Nat → va_E) => TyX a E u ∧ fr [(5, 6), (10, 12)] [] C u ∧ (px u = (xRoad (ga (C 32)) (ga (C 10) ((0 : Int32)).toNatClampNeg < oh_room ((0 : Int32)).toNatClampNeg) (px C)).2) ∧ (gi (u 5) 2 = -1 → ga (u 10) = upd (ga (C 10)) ((0 : Int32)).toNatClampNeg (ga (C 10) ((0 : Int32)).toNatClampNeg + 1) ∧ rowPt 7 (ga (C 10) ((0 : Int32)).toNatClampNeg).toNatClampNeg 7 (xRoad (ga (C 32)) (ga (C 10) ((0 : Int32)).toNatClampNeg < oh_room ((0 : Int32)).toNatClampNeg) (px C)).1 (ga (C 11)) (ga (u 11))) ∧ (¬ gi (u 5) 2 = -1 → u 10 = C 10 ∧ u 11 = C 11)) (oh_B D (va_A (oh_W 35 a C) sz) (fun u => oh_W 35 a u)) (va_A (oh_W 35 a C) sz)) 0 0 (va_A (oh_W 35 a C) sz) := by
  refine Met.ofW (cc := cX2_readRoad) (maxL := 7) (ret := none) (by decide) rfl ?_
  intro p e s m args below meth c s₁ B hml hv
  obtain ⟨rfl, hsz, hP, hK, hD0, hG⟩ := hv
  have hx := B.exec
  have hb := B.bytes
  have hr := B.returns
  have hts := atoms_spec (ws := (oh_w yX2_readRoad cX2_readRoad 7 none)) B.pre
  have htg : ∀ w ∈ oh_t, w.before _ s = true := fun w h => hts w (List.mem_cons_of_mem _ h)
  have hown : s.vm.findClass RX2 = some m.cls := findClass_of_methodNamed B.named
  have hlocks := B.notSynchronized
  have hT0 := hT
  subst hsz
  have hD := hD0.self (sz := s.heap.size)
  generalize hAe : va_A (oh_W 35 a C) s.heap.size = A at hD hG ⊢
  have hA : ∀ q : Nat, s.heap.size ≤ q → A q := fun q h => by rw [← hAe]; exact Or.inr h
  have hS : va_S A s.heap s.heap [] := va_S.rf
  have hF : fr [(5, 6), (10, 12)] [] C C := fr_rf
  have hl := lv_entry ([.ref (a 6)]) (n := 7) (Nat.le_of_ble_eq_true rfl)
  rw [lg_entry_eq]
  generalize (lg_sl ([.ref (a 6)]) ++ List.replicate (7 - (lg_sl ([.ref (a 6)])).length) Slot.unset).toArray = ls at hl ⊢
  have hl : lv_has ls 7 [(0, .ref (a 6))] := hl
  refine oh_genQ (fun Q hQ => ?_)
  refine lv_aload_n hx hb dX2_readRoad_0 rfl (lv_at hl 0 rfl) ?_
  refine lv_iconst (v := 0) hx hb dX2_readRoad_1 (by decide) ?_
  refine tm_Vv (As := [.int 0]) (rest := []) ⟨hx, hb, hml, hown, htg⟩ (e_X2_enter l D E G _ a C hT (0 : Int32) (rg_w (rg_c (v := 0) (lo := 0) (hi := 0) (by decide)) (by decide))) (cwV 1 htg (oh_gV q_573 q_575 q_8 q_72 q_576) rfl rfl rfl pdVX2_enter ⟨Nat.le_of_ble_eq_true rfl, Nat.le_of_ble_eq_true rfl⟩) hK hP hD hG hS hA (va_recv hK hP (ci := 2) (q0 := 6) rfl (oh_wg (by decide) (sX_6 hT))) rfl hl.1 rfl (Nat.le_of_ble_eq_true rfl) dX2_readRoad_2 ⟨Nat.le_of_ble_eq_true rfl, Nat.le_of_ble_eq_true rfl⟩ (fun C_2 H locs hq_3 hP hD hS => ?_)
  obtain ⟨hT, f_4, hq_3⟩ := hq_3
  have hF := fr_tr hF f_4 (by decide) (by decide)
  refine W.widen (k := 0) (n := 0) (Nat.le_refl _) (Nat.le_refl _) ?_
  have t_5 := hT
  have ep_6 := hq_3.2.2
  refine lv_aload_n hx hb dX2_readRoad_5 rfl (lv_at hl 0 rfl) ?_
  refine va_get (D := D) (ci := 2) (v := .ref (a 5)) (C := RX2) (T := TX2) (N := 4) hx hb htg ig_2 hown hK hP 6 (oh_wg (by decide) (sX_6 hT)) rfl 0 (by decide) (htg _ q_245) (fun _ h9 => h9) rfl dX2_readRoad_6 ?_
  refine lv_iconst (v := 0) hx hb dX2_readRoad_9 (by decide) ?_
  refine lv_bipush (v := 15) hx hb dX2_readRoad_10 (by decide) ?_
  refine tm_V (As := [.int 0, .int 15]) (rest := []) ⟨hx, hb, hml, hown, htg⟩ (e_X4_takeNumber l D E G _ a C_2 hT (0 : Int32) (15 : Int32)) (cwV 2 htg (oh_gV q_583 q_584 q_585 q_71 q_586) rfl rfl rfl pdVX4_takeNumber ⟨Nat.le_of_ble_eq_true rfl, Nat.le_of_ble_eq_true rfl⟩) hK hP hD hG hS hA (va_recv hK hP (ci := 4) (q0 := 5) rfl (oh_wg (by decide) (sX_5 hT))) rfl hl.1 rfl (Nat.le_of_ble_eq_true rfl) dX2_readRoad_12 ⟨Nat.le_of_ble_eq_true rfl, Nat.le_of_ble_eq_true rfl⟩ (fun r_7 C_8 H locs hq_9 hP hD hS => ?_)
  obtain ⟨hT, f_10, hq_9⟩ := hq_9
  have hF := fr_tr hF f_10 (by decide) (by decide)
  refine W.widen (k := 0) (n := 0) (Nat.le_refl _) (Nat.le_refl _) ?_
  have t_11 := hT
  have er_12 := hq_9.2.2.1
  rw [show ga (C_2 32) = ga (C 32) from congrArg ga (f_4.1 32 rfl (by decide))] at er_12
  have ep_13 := hq_9.2.2.2
  rw [show ga (C_2 32) = ga (C 32) from congrArg ga (f_4.1 32 rfl (by decide))] at ep_13
  refine lv_istore_n (lv' := [(1, .int r_7), (0, .ref (a 6))]) hx hb dX2_readRoad_15 rfl hl (by decide) rfl (fun ls hl => ?_)
  refine lv_aload_n hx hb dX2_readRoad_16 rfl (lv_at hl 1 rfl) ?_
  refine va_get (D := D) (ci := 2) (v := .ref (a 5)) (C := RX2) (T := TX2) (N := 4) hx hb htg ig_2 hown hK hP 6 (oh_wg (by decide) (sX_6 hT)) rfl 0 (by decide) (htg _ q_245) (fun _ h9 => h9) rfl dX2_readRoad_17 ?_
  refine tq_V (As := []) (rest := []) (ws := (oh_W 35 a C_8)) ⟨hx, hb, hml, hown, htg⟩ (e_X4_numberHere l D E G a C_8 hT) (cwV 0 htg (oh_gV q_597 q_588 q_589 q_71 q_590) rfl rfl rfl pdVX4_numberHere ⟨Nat.le_of_ble_eq_true rfl, Nat.le_of_ble_eq_true rfl⟩) hK hP hG hS (va_recv hK hP (ci := 4) (q0 := 5) rfl (oh_wg (by decide) (sX_5 hT))) rfl hl.1 rfl (Nat.le_of_ble_eq_true rfl) dX2_readRoad_20 ⟨Nat.le_of_ble_eq_true rfl, Nat.le_of_ble_eq_true rfl⟩ (fun r_14 hq_15 => ?_)
  have er_16 := hq_15
  rw [show ga (C_8 32) = ga (C 32) from congrArg ga (Eq.trans (f_10.1 32 rfl (by decide)) (f_4.1 32 rfl (by decide)))] at er_16
  refine lv_iload_n hx hb dX2_readRoad_23 rfl (lv_at hl 0 rfl) ?_
  refine lv_icmp_ne (tgt := 34) hx hb dX2_readRoad_24 (by decide) (fun (c_17 : ¬ (r_14 = r_7)) => ?_) (fun (c_17 : r_14 = r_7) => ?_)
  · refine lv_aload_n hx hb dX2_readRoad_34 rfl (lv_at hl 1 rfl) ?_
    refine va_get (D := D) (ci := 2) (v := .ref (a 5)) (C := RX2) (T := TX2) (N := 4) hx hb htg ig_2 hown hK hP 6 (oh_wg (by decide) (sX_6 hT)) rfl 0 (by decide) (htg _ q_245) (fun _ h9 => h9) rfl dX2_readRoad_35 ?_
    refine lv_iconst (v := 0) hx hb dX2_readRoad_38 (by decide) ?_
    refine lv_bipush (v := 15) hx hb dX2_readRoad_39 (by decide) ?_
    refine tm_V (As := [.int 0, .int 15]) (rest := []) ⟨hx, hb, hml, hown, htg⟩ (e_X4_takeNumber l D E G _ a C_8 hT (0 : Int32) (15 : Int32)) (cwV 2 htg (oh_gV q_583 q_584 q_585 q_71 q_586) rfl rfl rfl pdVX4_takeNumber ⟨Nat.le_of_ble_eq_true rfl, Nat.le_of_ble_eq_true rfl⟩) hK hP hD hG hS hA (va_recv hK hP (ci := 4) (q0 := 5) rfl (oh_wg (by decide) (sX_5 hT))) rfl hl.1 rfl (Nat.le_of_ble_eq_true rfl) dX2_readRoad_41 ⟨Nat.le_of_ble_eq_true rfl, Nat.le_of_ble_eq_true rfl⟩ (fun r_18 C_19 H locs hq_20 hP hD hS => ?_)
    obtain ⟨hT, f_21, hq_20⟩ := hq_20
    have hF := fr_tr hF f_21 (by decide) (by decide)
    refine W.widen (k := 0) (n := 0) (Nat.le_refl _) (Nat.le_refl _) ?_
    have t_22 := hT
    have er_23 := hq_20.2.2.1
    rw [show ga (C_8 32) = ga (C 32) from congrArg ga (Eq.trans (f_10.1 32 rfl (by decide)) (f_4.1 32 rfl (by decide)))] at er_23
    have ep_24 := hq_20.2.2.2
    rw [show ga (C_8 32) = ga (C 32) from congrArg ga (Eq.trans (f_10.1 32 rfl (by decide)) (f_4.1 32 rfl (by decide)))] at ep_24
    refine lv_istore_n (lv' := [(2, .int r_18), (1, .int r_7), (0, .ref (a 6))]) hx hb dX2_readRoad_44 rfl hl (by decide) rfl (fun ls hl => ?_)
    refine lv_aload_n hx hb dX2_readRoad_45 rfl (lv_at hl 2 rfl) ?_
    refine va_ldcS hx hb hown (hG.2.2.1 ("OneHeavyLoad$Reader", 117, "miles", 4) (List.mem_of_getElem? (i := 1) rfl)) dX2_readRoad_46 ?_
    refine lv_iconst (v := 1) hx hb dX2_readRoad_48 (by decide) ?_
    refine lv_bipush (v := 60) hx hb dX2_readRoad_49 (by decide) ?_
    refine tm_V (As := [.ref (G (3 + 1)), .int 1, .int 60]) (rest := []) ⟨hx, hb, hml, hown, htg⟩ (e_X2_number l D E G _ a C_19 hT 1 (1 : Int32) (60 : Int32) (by decide)) (cwV 3 htg (oh_gV q_599 q_601 q_9 q_72 q_602) rfl rfl rfl pdVX2_number ⟨Nat.le_of_ble_eq_true rfl, Nat.le_of_ble_eq_true rfl⟩) hK hP hD hG hS hA (va_recv hK hP (ci := 2) (q0 := 6) rfl (oh_wg (by decide) (sX_6 hT))) rfl hl.1 rfl (Nat.le_of_ble_eq_true rfl) dX2_readRoad_51 ⟨Nat.le_of_ble_eq_true rfl, Nat.le_of_ble_eq_true rfl⟩ (fun r_25 C_26 H locs hq_27 hP hD hS => ?_)
    obtain ⟨hT, f_28, hq_27⟩ := hq_27
    have hF := fr_tr hF f_28 (by decide) (by decide)
    refine W.widen (k := 0) (n := 0) (Nat.le_refl _) (Nat.le_refl _) ?_
    have t_29 := hT
    have er_30 := hq_27.2.2.1
    rw [show ga (C_19 32) = ga (C 32) from congrArg ga (Eq.trans (f_21.1 32 rfl (by decide)) (Eq.trans (f_10.1 32 rfl (by decide)) (f_4.1 32 rfl (by decide))))] at er_30
    have ep_31 := hq_27.2.2.2
    rw [show ga (C_19 32) = ga (C 32) from congrArg ga (Eq.trans (f_21.1 32 rfl (by decide)) (Eq.trans (f_10.1 32 rfl (by decide)) (f_4.1 32 rfl (by decide))))] at ep_31
    refine lv_istore_n (lv' := [(3, .int r_25), (2, .int r_18), (1, .int r_7), (0, .ref (a 6))]) hx hb dX2_readRoad_54 rfl hl (by decide) rfl (fun ls hl => ?_)
    refine lv_aload_n hx hb dX2_readRoad_55 rfl (lv_at hl 3 rfl) ?_
    refine va_ldcS hx hb hown (hG.2.2.1 ("OneHeavyLoad$Reader", 123, "rise", 5) (List.mem_of_getElem? (i := 2) rfl)) dX2_readRoad_56 ?_
    refine lv_iconst (v := 0) hx hb dX2_readRoad_58 (by decide) ?_
    refine lv_bipush (v := 9) hx hb dX2_readRoad_59 (by decide) ?_
    refine lv_iconst (v := 0) hx hb dX2_readRoad_61 (by decide) ?_
    refine tm_V (As := [.ref (G (3 + 2)), .int 0, .int 9, .int 0]) (rest := []) ⟨hx, hb, hml, hown, htg⟩ (e_X2_numberIfTold l D E G _ a C_26 hT 2 (0 : Int32) (9 : Int32) (0 : Int32) (by decide)) (cwV 4 htg (oh_gV q_609 q_611 q_10 q_72 q_612) rfl rfl rfl pdVX2_numberIfTold ⟨Nat.le_of_ble_eq_true rfl, Nat.le_of_ble_eq_true rfl⟩) hK hP hD hG hS hA (va_recv hK hP (ci := 2) (q0 := 6) rfl (oh_wg (by decide) (sX_6 hT))) rfl hl.1 rfl (Nat.le_of_ble_eq_true rfl) dX2_readRoad_62 ⟨Nat.le_of_ble_eq_true rfl, Nat.le_of_ble_eq_true rfl⟩ (fun r_32 C_33 H locs hq_34 hP hD hS => ?_)
    obtain ⟨hT, f_35, hq_34⟩ := hq_34
    have hF := fr_tr hF f_35 (by decide) (by decide)
    refine W.widen (k := 0) (n := 0) (Nat.le_refl _) (Nat.le_refl _) ?_
    have t_36 := hT
    have er_37 := hq_34.2.1
    rw [show ga (C_26 32) = ga (C 32) from congrArg ga (Eq.trans (f_28.1 32 rfl (by decide)) (Eq.trans (f_21.1 32 rfl (by decide)) (Eq.trans (f_10.1 32 rfl (by decide)) (f_4.1 32 rfl (by decide)))))] at er_37
    have ep_38 := hq_34.2.2
    rw [show ga (C_26 32) = ga (C 32) from congrArg ga (Eq.trans (f_28.1 32 rfl (by decide)) (Eq.trans (f_21.1 32 rfl (by decide)) (Eq.trans (f_10.1 32 rfl (by decide)) (f_4.1 32 rfl (by decide)))))] at ep_38
    refine lv_istore (lv' := [(4, .int r_32), (3, .int r_25), (2, .int r_18), (1, .int r_7), (0, .ref (a 6))]) hx hb dX2_readRoad_65 hl (by decide) rfl (fun ls hl => ?_)
    refine lv_aload_n hx hb dX2_readRoad_67 rfl (lv_at hl 4 rfl) ?_
    refine va_ldcS hx hb hown (hG.2.2.1 ("OneHeavyLoad$Reader", 129, "turn", 6) (List.mem_of_getElem? (i := 3) rfl)) dX2_readRoad_68 ?_
    refine lv_iconst (v := 1) hx hb dX2_readRoad_70 (by decide) ?_
    refine lv_bipush (v := 99) hx hb dX2_readRoad_71 (by decide) ?_
    refine lv_bipush (v := 99) hx hb dX2_readRoad_73 (by decide) ?_
    refine tm_V (As := [.ref (G (3 + 3)), .int 1, .int 99, .int 99]) (rest := []) ⟨hx, hb, hml, hown, htg⟩ (e_X2_numberIfTold l D E G _ a C_33 hT 3 (1 : Int32) (99 : Int32) (99 : Int32) (by decide)) (cwV 4 htg (oh_gV q_609 q_611 q_10 q_72 q_612) rfl rfl rfl pdVX2_numberIfTold ⟨Nat.le_of_ble_eq_true rfl, Nat.le_of_ble_eq_true rfl⟩) hK hP hD hG hS hA (va_recv hK hP (ci := 2) (q0 := 6) rfl (oh_wg (by decide) (sX_6 hT))) rfl hl.1 rfl (Nat.le_of_ble_eq_true rfl) dX2_readRoad_75 ⟨Nat.le_of_ble_eq_true rfl, Nat.le_of_ble_eq_true rfl⟩ (fun r_39 C_40 H locs hq_41 hP hD hS => ?_)
    obtain ⟨hT, f_42, hq_41⟩ := hq_41
    have hF := fr_tr hF f_42 (by decide) (by decide)
    refine W.widen (k := 0) (n := 0) (Nat.le_refl _) (Nat.le_refl _) ?_
    have t_43 := hT
    have er_44 := hq_41.2.1
    rw [show ga (C_33 32) = ga (C 32) from congrArg ga (Eq.trans (f_35.1 32 rfl (by decide)) (Eq.trans (f_28.1 32 rfl (by decide)) (Eq.trans (f_21.1 32 rfl (by decide)) (Eq.trans (f_10.1 32 rfl (by decide)) (f_4.1 32 rfl (by decide))))))] at er_44
    have ep_45 := hq_41.2.2
    rw [show ga (C_33 32) = ga (C 32) from congrArg ga (Eq.trans (f_35.1 32 rfl (by decide)) (Eq.trans (f_28.1 32 rfl (by decide)) (Eq.trans (f_21.1 32 rfl (by decide)) (Eq.trans (f_10.1 32 rfl (by decide)) (f_4.1 32 rfl (by decide))))))] at ep_45
    refine lv_istore (lv' := [(5, .int r_39), (4, .int r_32), (3, .int r_25), (2, .int r_18), (1, .int r_7), (0, .ref (a 6))]) hx hb dX2_readRoad_78 hl (by decide) rfl (fun ls hl => ?_)
    refine lv_aload_n hx hb dX2_readRoad_80 rfl (lv_at hl 5 rfl) ?_
    refine va_ldcS hx hb hown (hG.2.2.1 ("OneHeavyLoad$Reader", 131, "parish", 7) (List.mem_of_getElem? (i := 4) rfl)) dX2_readRoad_81 ?_
    refine lv_iconst (v := 0) hx hb dX2_readRoad_83 (by decide) ?_
    refine lv_bipush (v := 15) hx hb dX2_readRoad_84 (by decide) ?_
    refine lv_iconst (v := 0) hx hb dX2_readRoad_86 (by decide) ?_
    refine tm_V (As := [.ref (G (3 + 4)), .int 0, .int 15, .int 0]) (rest := []) ⟨hx, hb, hml, hown, htg⟩ (e_X2_numberIfTold l D E G _ a C_40 hT 4 (0 : Int32) (15 : Int32) (0 : Int32) (by decide)) (cwV 4 htg (oh_gV q_609 q_611 q_10 q_72 q_612) rfl rfl rfl pdVX2_numberIfTold ⟨Nat.le_of_ble_eq_true rfl, Nat.le_of_ble_eq_true rfl⟩) hK hP hD hG hS hA (va_recv hK hP (ci := 2) (q0 := 6) rfl (oh_wg (by decide) (sX_6 hT))) rfl hl.1 rfl (Nat.le_of_ble_eq_true rfl) dX2_readRoad_87 ⟨Nat.le_of_ble_eq_true rfl, Nat.le_of_ble_eq_true rfl⟩ (fun r_46 C_47 H locs hq_48 hP hD hS => ?_)
    obtain ⟨hT, f_49, hq_48⟩ := hq_48
    have hF := fr_tr hF f_49 (by decide) (by decide)
    refine W.widen (k := 0) (n := 0) (Nat.le_refl _) (Nat.le_refl _) ?_
    have t_50 := hT
    have er_51 := hq_48.2.1
    rw [show ga (C_40 32) = ga (C 32) from congrArg ga (Eq.trans (f_42.1 32 rfl (by decide)) (Eq.trans (f_35.1 32 rfl (by decide)) (Eq.trans (f_28.1 32 rfl (by decide)) (Eq.trans (f_21.1 32 rfl (by decide)) (Eq.trans (f_10.1 32 rfl (by decide)) (f_4.1 32 rfl (by decide)))))))] at er_51
    have ep_52 := hq_48.2.2
    rw [show ga (C_40 32) = ga (C 32) from congrArg ga (Eq.trans (f_42.1 32 rfl (by decide)) (Eq.trans (f_35.1 32 rfl (by decide)) (Eq.trans (f_28.1 32 rfl (by decide)) (Eq.trans (f_21.1 32 rfl (by decide)) (Eq.trans (f_10.1 32 rfl (by decide)) (f_4.1 32 rfl (by decide)))))))] at ep_52
    refine lv_istore (lv' := [(6, .int r_46), (5, .int r_39), (4, .int r_32), (3, .int r_25), (2, .int r_18), (1, .int r_7), (0, .ref (a 6))]) hx hb dX2_readRoad_90 hl (by decide) rfl (fun ls hl => ?_)
    refine lv_aload_n hx hb dX2_readRoad_92 rfl (lv_at hl 6 rfl) ?_
    refine va_get (D := D) (ci := 2) (v := .ref (a 5)) (C := RX2) (T := TX2) (N := 4) hx hb htg ig_2 hown hK hP 6 (oh_wg (by decide) (sX_6 hT)) rfl 0 (by decide) (htg _ q_245) (fun _ h9 => h9) rfl dX2_readRoad_93 ?_
    refine tq_V (As := []) (rest := []) (ws := (oh_W 35 a C_47)) ⟨hx, hb, hml, hown, htg⟩ (e_X4_isSound l D E G a C_47 hT) (cwV 0 htg (oh_gV q_619 q_592 q_593 q_71 q_594) rfl rfl rfl pdVX4_isSound ⟨Nat.le_of_ble_eq_true rfl, Nat.le_of_ble_eq_true rfl⟩) hK hP hG hS (va_recv hK hP (ci := 4) (q0 := 5) rfl (oh_wg (by decide) (sX_5 hT))) rfl hl.1 rfl (Nat.le_of_ble_eq_true rfl) dX2_readRoad_96 ⟨Nat.le_of_ble_eq_true rfl, Nat.le_of_ble_eq_true rfl⟩ (fun r_53 hq_54 => ?_)
    refine lv_if_eq (tgt := 119) hx hb dX2_readRoad_99 (by decide) (fun (c_55 : r_53 = 0) => ?_) (fun (c_55 : ¬ (r_53 = 0)) => ?_)
    · have u_56 := hq_54.2.2 c_55
      have mk_57 := (xRoad_mk ep_6 er_12 ep_13 (pif_neg (fun h8 => c_17 (Eq.trans er_16 h8))).symm er_23 ep_24 er_30 ep_31 er_37 ep_38 er_44 ep_45 er_51 ep_52)
      rw [hQ]
      exact W.vret hx hb hr (fun t ht hW => ⟨⟨C_47, rfl, ⟨hT, hF, ⟨(Eq.trans rfl (congrArg (fun z => z.2) mk_57).symm), (fun h8 => absurd h8 u_56), (fun _ => ⟨(Eq.trans (f_49.1 10 rfl (by decide)) (Eq.trans (f_42.1 10 rfl (by decide)) (Eq.trans (f_35.1 10 rfl (by decide)) (Eq.trans (f_28.1 10 rfl (by decide)) (Eq.trans (f_21.1 10 rfl (by decide)) (Eq.trans (f_10.1 10 rfl (by decide)) (f_4.1 10 rfl (by decide)))))))), (Eq.trans (f_49.1 11 rfl (by decide)) (Eq.trans (f_42.1 11 rfl (by decide)) (Eq.trans (f_35.1 11 rfl (by decide)) (Eq.trans (f_28.1 11 rfl (by decide)) (Eq.trans (f_21.1 11 rfl (by decide)) (Eq.trans (f_10.1 11 rfl (by decide)) (f_4.1 11 rfl (by decide))))))))⟩)⟩⟩, ⟨by rw [ht]; exact hP, hD⟩⟩, hS.F ht⟩) hS.2.2 dX2_readRoad_119
    · have u_58 := hq_54.2.1 c_55
      have s_59 := u_58
      have s_60 := hq_27.2.1 (hq_34.1 (hq_41.1 (hq_48.1 s_59)))
      have s_61 := hq_20.2.1 (hq_27.1 (hq_34.1 (hq_41.1 (hq_48.1 s_59))))
      have s_62 := hq_9.2.1 (hq_20.1 (hq_27.1 (hq_34.1 (hq_41.1 (hq_48.1 s_59)))))
      have s_63 : ga (C 10) ((0 : Int32)).toNatClampNeg < (24 : Int32) := hq_3.2.1 (hq_9.1 (hq_20.1 (hq_27.1 (hq_34.1 (hq_41.1 (hq_48.1 s_59))))))
      refine lv_aload_n hx hb dX2_readRoad_102 rfl (lv_at hl 6 rfl) ?_
      refine va_get (D := D) (ci := 2) (v := .ref (a 1)) (C := RX2) (T := TX2) (N := 4) hx hb htg ig_2 hown hK hP 6 (oh_wg (by decide) (sX_6 hT)) rfl 1 (by decide) (htg _ q_246) (fun _ h9 => h9) rfl dX2_readRoad_103 ?_
      refine lv_iload_n hx hb dX2_readRoad_106 rfl (lv_at hl 5 rfl) ?_
      refine lv_iload_n hx hb dX2_readRoad_107 rfl (lv_at hl 4 rfl) ?_
      refine lv_iload_n hx hb dX2_readRoad_108 rfl (lv_at hl 3 rfl) ?_
      refine lv_iload hx hb dX2_readRoad_109 (lv_at hl 2 rfl) ?_
      refine lv_iload hx hb dX2_readRoad_111 (lv_at hl 1 rfl) ?_
      refine lv_iload hx hb dX2_readRoad_113 (lv_at hl 0 rfl) ?_
      refine tm_V (As := [.int r_7, .int r_18, .int r_25, .int r_32, .int r_39, .int r_46]) (rest := []) ⟨hx, hb, hml, hown, htg⟩ (e_X0_addRoad l D E G _ a C_47 hT r_7 r_18 r_25 r_32 r_39 r_46 (rg_w (rn_leu s_62.2 (rn_lel s_62.1 (rg_c (v := 0) (lo := 0) (hi := 0) (by decide)) (rg_any _)) (rg_c (v := 15) (lo := 15) (hi := 15) (by decide))) (by decide)) (rg_w (rn_leu s_61.2 (rn_lel s_61.1 (rg_c (v := 0) (lo := 0) (hi := 0) (by decide)) (rg_any _)) (rg_c (v := 15) (lo := 15) (hi := 15) (by decide))) (by decide)) (oh_rgA (Eq.trans (f_49.1 10 rfl (by decide)) (Eq.trans (f_42.1 10 rfl (by decide)) (Eq.trans (f_35.1 10 rfl (by decide)) (Eq.trans (f_28.1 10 rfl (by decide)) (Eq.trans (f_21.1 10 rfl (by decide)) (Eq.trans (f_10.1 10 rfl (by decide)) (f_4.1 10 rfl (by decide)))))))) (rg_w (lo := 0) (hi := 23) (rn_ltu (u' := 23) s_63 (tA_rdc (lo := 0) (hi := 24) (tX_10 hT0) (rg_in (rg_c (v := 0) (lo := 0) (hi := 0) (by decide)) (by decide)) (show _ = 0 by decide) (by decide)) (rg_c (v := 24) (lo := 24) (hi := 24) (by decide)) (by decide)) (by decide)))) (cwV 6 htg (oh_gV q_620 q_421 q_422 q_67 q_423) rfl rfl rfl pdVX0_addRoad ⟨Nat.le_of_ble_eq_true rfl, Nat.le_of_ble_eq_true rfl⟩) hK hP hD hG hS hA (va_recv hK hP (ci := 0) (q0 := 1) rfl (oh_wg (by decide) (sX_1 hT))) rfl hl.1 rfl (Nat.le_of_ble_eq_true rfl) dX2_readRoad_115 ⟨Nat.le_of_ble_eq_true rfl, Nat.le_of_ble_eq_true rfl⟩ (fun r_64 C_65 H locs hq_66 hP hD hS => ?_)
      obtain ⟨hT, f_67, hq_66⟩ := hq_66
      have hF := fr_tr hF f_67 (by decide) (by decide)
      refine W.widen (k := 0) (n := 0) (Nat.le_refl _) (Nat.le_refl _) ?_
      have t_68 := hT
      refine lv_pop hx hb dX2_readRoad_118 rfl ?_
      have mk_69 := (xRoad_mk ep_6 er_12 ep_13 (pif_neg (fun h8 => c_17 (Eq.trans er_16 h8))).symm er_23 ep_24 er_30 ep_31 er_37 ep_38 er_44 ep_45 er_51 ep_52)
      have hc_70 := hq_66.2.1
      have hr_71 := hq_66.2.2
      rw [show C_47 10 = C 10 from (Eq.trans (f_49.1 10 rfl (by decide)) (Eq.trans (f_42.1 10 rfl (by decide)) (Eq.trans (f_35.1 10 rfl (by decide)) (Eq.trans (f_28.1 10 rfl (by decide)) (Eq.trans (f_21.1 10 rfl (by decide)) (Eq.trans (f_10.1 10 rfl (by decide)) (f_4.1 10 rfl (by decide))))))))] at hc_70 hr_71
      rw [show C_47 11 = C 11 from (Eq.trans (f_49.1 11 rfl (by decide)) (Eq.trans (f_42.1 11 rfl (by decide)) (Eq.trans (f_35.1 11 rfl (by decide)) (Eq.trans (f_28.1 11 rfl (by decide)) (Eq.trans (f_21.1 11 rfl (by decide)) (Eq.trans (f_10.1 11 rfl (by decide)) (f_4.1 11 rfl (by decide))))))))] at hr_71
      rw [hQ]
      exact W.vret hx hb hr (fun t ht hW => ⟨⟨C_65, rfl, ⟨hT, hF, ⟨(Eq.trans (px_c (f_67.1 5 rfl (by decide))) (congrArg (fun z => z.2) mk_69).symm), (fun _ => ⟨hc_70, by rw [mk_69]; exact hr_71⟩), (fun h8 => absurd (Eq.trans (congrArg (fun z => gi z 2) (f_67.1 5 rfl (by decide))) u_58) h8)⟩⟩, ⟨by rw [ht]; exact hP, hD⟩⟩, hS.F ht⟩) hS.2.2 dX2_readRoad_119
  · refine lv_aload_n hx hb dX2_readRoad_27 rfl (lv_at hl 1 rfl) ?_
    refine va_get (D := D) (ci := 2) (v := .ref (a 5)) (C := RX2) (T := TX2) (N := 4) hx hb htg ig_2 hown hK hP 6 (oh_wg (by decide) (sX_6 hT)) rfl 0 (by decide) (htg _ q_245) (fun _ h9 => h9) rfl dX2_readRoad_28 ?_
    refine tm_Vv (As := []) (rest := []) ⟨hx, hb, hml, hown, htg⟩ (e_X4_fail l D E G _ a C_8 hT) (cwV 0 htg (oh_gV q_579 q_580 q_581 q_71 q_582) rfl rfl rfl pdVX4_fail ⟨Nat.le_of_ble_eq_true rfl, Nat.le_of_ble_eq_true rfl⟩) hK hP hD hG hS hA (va_recv hK hP (ci := 4) (q0 := 5) rfl (oh_wg (by decide) (sX_5 hT))) rfl hl.1 rfl (Nat.le_of_ble_eq_true rfl) dX2_readRoad_31 ⟨Nat.le_of_ble_eq_true rfl, Nat.le_of_ble_eq_true rfl⟩ (fun C_73 H locs hq_74 hP hD hS => ?_)
    obtain ⟨hT, f_75, hq_74⟩ := hq_74
    have hF := fr_tr hF f_75 (by decide) (by decide)
    refine W.widen (k := 0) (n := 0) (Nat.le_refl _) (Nat.le_refl _) ?_
    have t_76 := hT
    have ep_77 := hq_74.2
    refine lv_aload_n hx hb dX2_readRoad_34 rfl (lv_at hl 1 rfl) ?_
    refine va_get (D := D) (ci := 2) (v := .ref (a 5)) (C := RX2) (T := TX2) (N := 4) hx hb htg ig_2 hown hK hP 6 (oh_wg (by decide) (sX_6 hT)) rfl 0 (by decide) (htg _ q_245) (fun _ h9 => h9) rfl dX2_readRoad_35 ?_
    refine lv_iconst (v := 0) hx hb dX2_readRoad_38 (by decide) ?_
    refine lv_bipush (v := 15) hx hb dX2_readRoad_39 (by decide) ?_
    refine tm_V (As := [.int 0, .int 15]) (rest := []) ⟨hx, hb, hml, hown, htg⟩ (e_X4_takeNumber l D E G _ a C_73 hT (0 : Int32) (15 : Int32)) (cwV 2 htg (oh_gV q_583 q_584 q_585 q_71 q_586) rfl rfl rfl pdVX4_takeNumber ⟨Nat.le_of_ble_eq_true rfl, Nat.le_of_ble_eq_true rfl⟩) hK hP hD hG hS hA (va_recv hK hP (ci := 4) (q0 := 5) rfl (oh_wg (by decide) (sX_5 hT))) rfl hl.1 rfl (Nat.le_of_ble_eq_true rfl) dX2_readRoad_41 ⟨Nat.le_of_ble_eq_true rfl, Nat.le_of_ble_eq_true rfl⟩ (fun r_78 C_79 H locs hq_80 hP hD hS => ?_)
    obtain ⟨hT, f_81, hq_80⟩ := hq_80
    have hF := fr_tr hF f_81 (by decide) (by decide)
    refine W.widen (k := 0) (n := 0) (Nat.le_refl _) (Nat.le_refl _) ?_
    have t_82 := hT
    have er_83 := hq_80.2.2.1
    rw [show ga (C_73 32) = ga (C 32) from congrArg ga (Eq.trans (f_75.1 32 rfl (by decide)) (Eq.trans (f_10.1 32 rfl (by decide)) (f_4.1 32 rfl (by decide))))] at er_83
    have ep_84 := hq_80.2.2.2
    rw [show ga (C_73 32) = ga (C 32) from congrArg ga (Eq.trans (f_75.1 32 rfl (by decide)) (Eq.trans (f_10.1 32 rfl (by decide)) (f_4.1 32 rfl (by decide))))] at ep_84
    refine lv_istore_n (lv' := [(2, .int r_78), (1, .int r_7), (0, .ref (a 6))]) hx hb dX2_readRoad_44 rfl hl (by decide) rfl (fun ls hl => ?_)
    refine lv_aload_n hx hb dX2_readRoad_45 rfl (lv_at hl 2 rfl) ?_
    refine va_ldcS hx hb hown (hG.2.2.1 ("OneHeavyLoad$Reader", 117, "miles", 4) (List.mem_of_getElem? (i := 1) rfl)) dX2_readRoad_46 ?_
    refine lv_iconst (v := 1) hx hb dX2_readRoad_48 (by decide) ?_
    refine lv_bipush (v := 60) hx hb dX2_readRoad_49 (by decide) ?_
    refine tm_V (As := [.ref (G (3 + 1)), .int 1, .int 60]) (rest := []) ⟨hx, hb, hml, hown, htg⟩ (e_X2_number l D E G _ a C_79 hT 1 (1 : Int32) (60 : Int32) (by decide)) (cwV 3 htg (oh_gV q_599 q_601 q_9 q_72 q_602) rfl rfl rfl pdVX2_number ⟨Nat.le_of_ble_eq_true rfl, Nat.le_of_ble_eq_true rfl⟩) hK hP hD hG hS hA (va_recv hK hP (ci := 2) (q0 := 6) rfl (oh_wg (by decide) (sX_6 hT))) rfl hl.1 rfl (Nat.le_of_ble_eq_true rfl) dX2_readRoad_51 ⟨Nat.le_of_ble_eq_true rfl, Nat.le_of_ble_eq_true rfl⟩ (fun r_85 C_86 H locs hq_87 hP hD hS => ?_)
    obtain ⟨hT, f_88, hq_87⟩ := hq_87
    have hF := fr_tr hF f_88 (by decide) (by decide)
    refine W.widen (k := 0) (n := 0) (Nat.le_refl _) (Nat.le_refl _) ?_
    have t_89 := hT
    have er_90 := hq_87.2.2.1
    rw [show ga (C_79 32) = ga (C 32) from congrArg ga (Eq.trans (f_81.1 32 rfl (by decide)) (Eq.trans (f_75.1 32 rfl (by decide)) (Eq.trans (f_10.1 32 rfl (by decide)) (f_4.1 32 rfl (by decide)))))] at er_90
    have ep_91 := hq_87.2.2.2
    rw [show ga (C_79 32) = ga (C 32) from congrArg ga (Eq.trans (f_81.1 32 rfl (by decide)) (Eq.trans (f_75.1 32 rfl (by decide)) (Eq.trans (f_10.1 32 rfl (by decide)) (f_4.1 32 rfl (by decide)))))] at ep_91
    refine lv_istore_n (lv' := [(3, .int r_85), (2, .int r_78), (1, .int r_7), (0, .ref (a 6))]) hx hb dX2_readRoad_54 rfl hl (by decide) rfl (fun ls hl => ?_)
    refine lv_aload_n hx hb dX2_readRoad_55 rfl (lv_at hl 3 rfl) ?_
    refine va_ldcS hx hb hown (hG.2.2.1 ("OneHeavyLoad$Reader", 123, "rise", 5) (List.mem_of_getElem? (i := 2) rfl)) dX2_readRoad_56 ?_
    refine lv_iconst (v := 0) hx hb dX2_readRoad_58 (by decide) ?_
    refine lv_bipush (v := 9) hx hb dX2_readRoad_59 (by decide) ?_
    refine lv_iconst (v := 0) hx hb dX2_readRoad_61 (by decide) ?_
    refine tm_V (As := [.ref (G (3 + 2)), .int 0, .int 9, .int 0]) (rest := []) ⟨hx, hb, hml, hown, htg⟩ (e_X2_numberIfTold l D E G _ a C_86 hT 2 (0 : Int32) (9 : Int32) (0 : Int32) (by decide)) (cwV 4 htg (oh_gV q_609 q_611 q_10 q_72 q_612) rfl rfl rfl pdVX2_numberIfTold ⟨Nat.le_of_ble_eq_true rfl, Nat.le_of_ble_eq_true rfl⟩) hK hP hD hG hS hA (va_recv hK hP (ci := 2) (q0 := 6) rfl (oh_wg (by decide) (sX_6 hT))) rfl hl.1 rfl (Nat.le_of_ble_eq_true rfl) dX2_readRoad_62 ⟨Nat.le_of_ble_eq_true rfl, Nat.le_of_ble_eq_true rfl⟩ (fun r_92 C_93 H locs hq_94 hP hD hS => ?_)
    obtain ⟨hT, f_95, hq_94⟩ := hq_94
    have hF := fr_tr hF f_95 (by decide) (by decide)
    refine W.widen (k := 0) (n := 0) (Nat.le_refl _) (Nat.le_refl _) ?_
    have t_96 := hT
    have er_97 := hq_94.2.1
    rw [show ga (C_86 32) = ga (C 32) from congrArg ga (Eq.trans (f_88.1 32 rfl (by decide)) (Eq.trans (f_81.1 32 rfl (by decide)) (Eq.trans (f_75.1 32 rfl (by decide)) (Eq.trans (f_10.1 32 rfl (by decide)) (f_4.1 32 rfl (by decide))))))] at er_97
    have ep_98 := hq_94.2.2
    rw [show ga (C_86 32) = ga (C 32) from congrArg ga (Eq.trans (f_88.1 32 rfl (by decide)) (Eq.trans (f_81.1 32 rfl (by decide)) (Eq.trans (f_75.1 32 rfl (by decide)) (Eq.trans (f_10.1 32 rfl (by decide)) (f_4.1 32 rfl (by decide))))))] at ep_98
    refine lv_istore (lv' := [(4, .int r_92), (3, .int r_85), (2, .int r_78), (1, .int r_7), (0, .ref (a 6))]) hx hb dX2_readRoad_65 hl (by decide) rfl (fun ls hl => ?_)
    refine lv_aload_n hx hb dX2_readRoad_67 rfl (lv_at hl 4 rfl) ?_
    refine va_ldcS hx hb hown (hG.2.2.1 ("OneHeavyLoad$Reader", 129, "turn", 6) (List.mem_of_getElem? (i := 3) rfl)) dX2_readRoad_68 ?_
    refine lv_iconst (v := 1) hx hb dX2_readRoad_70 (by decide) ?_
    refine lv_bipush (v := 99) hx hb dX2_readRoad_71 (by decide) ?_
    refine lv_bipush (v := 99) hx hb dX2_readRoad_73 (by decide) ?_
    refine tm_V (As := [.ref (G (3 + 3)), .int 1, .int 99, .int 99]) (rest := []) ⟨hx, hb, hml, hown, htg⟩ (e_X2_numberIfTold l D E G _ a C_93 hT 3 (1 : Int32) (99 : Int32) (99 : Int32) (by decide)) (cwV 4 htg (oh_gV q_609 q_611 q_10 q_72 q_612) rfl rfl rfl pdVX2_numberIfTold ⟨Nat.le_of_ble_eq_true rfl, Nat.le_of_ble_eq_true rfl⟩) hK hP hD hG hS hA (va_recv hK hP (ci := 2) (q0 := 6) rfl (oh_wg (by decide) (sX_6 hT))) rfl hl.1 rfl (Nat.le_of_ble_eq_true rfl) dX2_readRoad_75 ⟨Nat.le_of_ble_eq_true rfl, Nat.le_of_ble_eq_true rfl⟩ (fun r_99 C_100 H locs hq_101 hP hD hS => ?_)
    obtain ⟨hT, f_102, hq_101⟩ := hq_101
    have hF := fr_tr hF f_102 (by decide) (by decide)
    refine W.widen (k := 0) (n := 0) (Nat.le_refl _) (Nat.le_refl _) ?_
    have t_103 := hT
    have er_104 := hq_101.2.1
    rw [show ga (C_93 32) = ga (C 32) from congrArg ga (Eq.trans (f_95.1 32 rfl (by decide)) (Eq.trans (f_88.1 32 rfl (by decide)) (Eq.trans (f_81.1 32 rfl (by decide)) (Eq.trans (f_75.1 32 rfl (by decide)) (Eq.trans (f_10.1 32 rfl (by decide)) (f_4.1 32 rfl (by decide)))))))] at er_104
    have ep_105 := hq_101.2.2
    rw [show ga (C_93 32) = ga (C 32) from congrArg ga (Eq.trans (f_95.1 32 rfl (by decide)) (Eq.trans (f_88.1 32 rfl (by decide)) (Eq.trans (f_81.1 32 rfl (by decide)) (Eq.trans (f_75.1 32 rfl (by decide)) (Eq.trans (f_10.1 32 rfl (by decide)) (f_4.1 32 rfl (by decide)))))))] at ep_105
    refine lv_istore (lv' := [(5, .int r_99), (4, .int r_92), (3, .int r_85), (2, .int r_78), (1, .int r_7), (0, .ref (a 6))]) hx hb dX2_readRoad_78 hl (by decide) rfl (fun ls hl => ?_)
    refine lv_aload_n hx hb dX2_readRoad_80 rfl (lv_at hl 5 rfl) ?_
    refine va_ldcS hx hb hown (hG.2.2.1 ("OneHeavyLoad$Reader", 131, "parish", 7) (List.mem_of_getElem? (i := 4) rfl)) dX2_readRoad_81 ?_
    refine lv_iconst (v := 0) hx hb dX2_readRoad_83 (by decide) ?_
    refine lv_bipush (v := 15) hx hb dX2_readRoad_84 (by decide) ?_
    refine lv_iconst (v := 0) hx hb dX2_readRoad_86 (by decide) ?_
    refine tm_V (As := [.ref (G (3 + 4)), .int 0, .int 15, .int 0]) (rest := []) ⟨hx, hb, hml, hown, htg⟩ (e_X2_numberIfTold l D E G _ a C_100 hT 4 (0 : Int32) (15 : Int32) (0 : Int32) (by decide)) (cwV 4 htg (oh_gV q_609 q_611 q_10 q_72 q_612) rfl rfl rfl pdVX2_numberIfTold ⟨Nat.le_of_ble_eq_true rfl, Nat.le_of_ble_eq_true rfl⟩) hK hP hD hG hS hA (va_recv hK hP (ci := 2) (q0 := 6) rfl (oh_wg (by decide) (sX_6 hT))) rfl hl.1 rfl (Nat.le_of_ble_eq_true rfl) dX2_readRoad_87 ⟨Nat.le_of_ble_eq_true rfl, Nat.le_of_ble_eq_true rfl⟩ (fun r_106 C_107 H locs hq_108 hP hD hS => ?_)
    obtain ⟨hT, f_109, hq_108⟩ := hq_108
    have hF := fr_tr hF f_109 (by decide) (by decide)
    refine W.widen (k := 0) (n := 0) (Nat.le_refl _) (Nat.le_refl _) ?_
    have t_110 := hT
    have er_111 := hq_108.2.1
    rw [show ga (C_100 32) = ga (C 32) from congrArg ga (Eq.trans (f_102.1 32 rfl (by decide)) (Eq.trans (f_95.1 32 rfl (by decide)) (Eq.trans (f_88.1 32 rfl (by decide)) (Eq.trans (f_81.1 32 rfl (by decide)) (Eq.trans (f_75.1 32 rfl (by decide)) (Eq.trans (f_10.1 32 rfl (by decide)) (f_4.1 32 rfl (by decide))))))))] at er_111
    have ep_112 := hq_108.2.2
    rw [show ga (C_100 32) = ga (C 32) from congrArg ga (Eq.trans (f_102.1 32 rfl (by decide)) (Eq.trans (f_95.1 32 rfl (by decide)) (Eq.trans (f_88.1 32 rfl (by decide)) (Eq.trans (f_81.1 32 rfl (by decide)) (Eq.trans (f_75.1 32 rfl (by decide)) (Eq.trans (f_10.1 32 rfl (by decide)) (f_4.1 32 rfl (by decide))))))))] at ep_112
    refine lv_istore (lv' := [(6, .int r_106), (5, .int r_99), (4, .int r_92), (3, .int r_85), (2, .int r_78), (1, .int r_7), (0, .ref (a 6))]) hx hb dX2_readRoad_90 hl (by decide) rfl (fun ls hl => ?_)
    refine lv_aload_n hx hb dX2_readRoad_92 rfl (lv_at hl 6 rfl) ?_
    refine va_get (D := D) (ci := 2) (v := .ref (a 5)) (C := RX2) (T := TX2) (N := 4) hx hb htg ig_2 hown hK hP 6 (oh_wg (by decide) (sX_6 hT)) rfl 0 (by decide) (htg _ q_245) (fun _ h9 => h9) rfl dX2_readRoad_93 ?_
    refine tq_V (As := []) (rest := []) (ws := (oh_W 35 a C_107)) ⟨hx, hb, hml, hown, htg⟩ (e_X4_isSound l D E G a C_107 hT) (cwV 0 htg (oh_gV q_619 q_592 q_593 q_71 q_594) rfl rfl rfl pdVX4_isSound ⟨Nat.le_of_ble_eq_true rfl, Nat.le_of_ble_eq_true rfl⟩) hK hP hG hS (va_recv hK hP (ci := 4) (q0 := 5) rfl (oh_wg (by decide) (sX_5 hT))) rfl hl.1 rfl (Nat.le_of_ble_eq_true rfl) dX2_readRoad_96 ⟨Nat.le_of_ble_eq_true rfl, Nat.le_of_ble_eq_true rfl⟩ (fun r_113 hq_114 => ?_)
    refine lv_if_eq (tgt := 119) hx hb dX2_readRoad_99 (by decide) (fun (c_115 : r_113 = 0) => ?_) (fun (c_115 : ¬ (r_113 = 0)) => ?_)
    · have u_116 := hq_114.2.2 c_115
      have mk_117 := (xRoad_mk ep_6 er_12 ep_13 (Eq.trans ep_77 (pif_pos (Eq.trans er_16.symm c_17)).symm) er_83 ep_84 er_90 ep_91 er_97 ep_98 er_104 ep_105 er_111 ep_112)
      rw [hQ]
      exact W.vret hx hb hr (fun t ht hW => ⟨⟨C_107, rfl, ⟨hT, hF, ⟨(Eq.trans rfl (congrArg (fun z => z.2) mk_117).symm), (fun h8 => absurd h8 u_116), (fun _ => ⟨(Eq.trans (f_109.1 10 rfl (by decide)) (Eq.trans (f_102.1 10 rfl (by decide)) (Eq.trans (f_95.1 10 rfl (by decide)) (Eq.trans (f_88.1 10 rfl (by decide)) (Eq.trans (f_81.1 10 rfl (by decide)) (Eq.trans (f_75.1 10 rfl (by decide)) (Eq.trans (f_10.1 10 rfl (by decide)) (f_4.1 10 rfl (by decide))))))))), (Eq.trans (f_109.1 11 rfl (by decide)) (Eq.trans (f_102.1 11 rfl (by decide)) (Eq.trans (f_95.1 11 rfl (by decide)) (Eq.trans (f_88.1 11 rfl (by decide)) (Eq.trans (f_81.1 11 rfl (by decide)) (Eq.trans (f_75.1 11 rfl (by decide)) (Eq.trans (f_10.1 11 rfl (by decide)) (f_4.1 11 rfl (by decide)))))))))⟩)⟩⟩, ⟨by rw [ht]; exact hP, hD⟩⟩, hS.F ht⟩) hS.2.2 dX2_readRoad_119
    · have u_118 := hq_114.2.1 c_115
      have s_119 := u_118
      have s_120 := hq_87.2.1 (hq_94.1 (hq_101.1 (hq_108.1 s_119)))
      have s_121 := hq_80.2.1 (hq_87.1 (hq_94.1 (hq_101.1 (hq_108.1 s_119))))
      have s_122 := hq_9.2.1 ((fun h7 => absurd h7 (oh_nfl hq_74.1)) (hq_80.1 (hq_87.1 (hq_94.1 (hq_101.1 (hq_108.1 s_119))))))
      have s_123 : ga (C 10) ((0 : Int32)).toNatClampNeg < (24 : Int32) := hq_3.2.1 (hq_9.1 ((fun h7 => absurd h7 (oh_nfl hq_74.1)) (hq_80.1 (hq_87.1 (hq_94.1 (hq_101.1 (hq_108.1 s_119)))))))
      refine lv_aload_n hx hb dX2_readRoad_102 rfl (lv_at hl 6 rfl) ?_
      refine va_get (D := D) (ci := 2) (v := .ref (a 1)) (C := RX2) (T := TX2) (N := 4) hx hb htg ig_2 hown hK hP 6 (oh_wg (by decide) (sX_6 hT)) rfl 1 (by decide) (htg _ q_246) (fun _ h9 => h9) rfl dX2_readRoad_103 ?_
      refine lv_iload_n hx hb dX2_readRoad_106 rfl (lv_at hl 5 rfl) ?_
      refine lv_iload_n hx hb dX2_readRoad_107 rfl (lv_at hl 4 rfl) ?_
      refine lv_iload_n hx hb dX2_readRoad_108 rfl (lv_at hl 3 rfl) ?_
      refine lv_iload hx hb dX2_readRoad_109 (lv_at hl 2 rfl) ?_
      refine lv_iload hx hb dX2_readRoad_111 (lv_at hl 1 rfl) ?_
      refine lv_iload hx hb dX2_readRoad_113 (lv_at hl 0 rfl) ?_
      refine tm_V (As := [.int r_7, .int r_78, .int r_85, .int r_92, .int r_99, .int r_106]) (rest := []) ⟨hx, hb, hml, hown, htg⟩ (e_X0_addRoad l D E G _ a C_107 hT r_7 r_78 r_85 r_92 r_99 r_106 (rg_w (rn_leu s_122.2 (rn_lel s_122.1 (rg_c (v := 0) (lo := 0) (hi := 0) (by decide)) (rn_eq c_17.symm (rg_any _))) (rg_c (v := 15) (lo := 15) (hi := 15) (by decide))) (by decide)) (rg_w (rn_leu s_121.2 (rn_lel s_121.1 (rg_c (v := 0) (lo := 0) (hi := 0) (by decide)) (rg_any _)) (rg_c (v := 15) (lo := 15) (hi := 15) (by decide))) (by decide)) (oh_rgA (Eq.trans (f_109.1 10 rfl (by decide)) (Eq.trans (f_102.1 10 rfl (by decide)) (Eq.trans (f_95.1 10 rfl (by decide)) (Eq.trans (f_88.1 10 rfl (by decide)) (Eq.trans (f_81.1 10 rfl (by decide)) (Eq.trans (f_75.1 10 rfl (by decide)) (Eq.trans (f_10.1 10 rfl (by decide)) (f_4.1 10 rfl (by decide))))))))) (rg_w (lo := 0) (hi := 23) (rn_ltu (u' := 23) s_123 (tA_rdc (lo := 0) (hi := 24) (tX_10 hT0) (rg_in (rg_c (v := 0) (lo := 0) (hi := 0) (by decide)) (by decide)) (show _ = 0 by decide) (by decide)) (rg_c (v := 24) (lo := 24) (hi := 24) (by decide)) (by decide)) (by decide)))) (cwV 6 htg (oh_gV q_620 q_421 q_422 q_67 q_423) rfl rfl rfl pdVX0_addRoad ⟨Nat.le_of_ble_eq_true rfl, Nat.le_of_ble_eq_true rfl⟩) hK hP hD hG hS hA (va_recv hK hP (ci := 0) (q0 := 1) rfl (oh_wg (by decide) (sX_1 hT))) rfl hl.1 rfl (Nat.le_of_ble_eq_true rfl) dX2_readRoad_115 ⟨Nat.le_of_ble_eq_true rfl, Nat.le_of_ble_eq_true rfl⟩ (fun r_124 C_125 H locs hq_126 hP hD hS => ?_)
      obtain ⟨hT, f_127, hq_126⟩ := hq_126
      have hF := fr_tr hF f_127 (by decide) (by decide)
      refine W.widen (k := 0) (n := 0) (Nat.le_refl _) (Nat.le_refl _) ?_
      have t_128 := hT
      refine lv_pop hx hb dX2_readRoad_118 rfl ?_
      have mk_129 := (xRoad_mk ep_6 er_12 ep_13 (Eq.trans ep_77 (pif_pos (Eq.trans er_16.symm c_17)).symm) er_83 ep_84 er_90 ep_91 er_97 ep_98 er_104 ep_105 er_111 ep_112)
      have hc_130 := hq_126.2.1
      have hr_131 := hq_126.2.2
      rw [show C_107 10 = C 10 from (Eq.trans (f_109.1 10 rfl (by decide)) (Eq.trans (f_102.1 10 rfl (by decide)) (Eq.trans (f_95.1 10 rfl (by decide)) (Eq.trans (f_88.1 10 rfl (by decide)) (Eq.trans (f_81.1 10 rfl (by decide)) (Eq.trans (f_75.1 10 rfl (by decide)) (Eq.trans (f_10.1 10 rfl (by decide)) (f_4.1 10 rfl (by decide)))))))))] at hc_130 hr_131
      rw [show C_107 11 = C 11 from (Eq.trans (f_109.1 11 rfl (by decide)) (Eq.trans (f_102.1 11 rfl (by decide)) (Eq.trans (f_95.1 11 rfl (by decide)) (Eq.trans (f_88.1 11 rfl (by decide)) (Eq.trans (f_81.1 11 rfl (by decide)) (Eq.trans (f_75.1 11 rfl (by decide)) (Eq.trans (f_10.1 11 rfl (by decide)) (f_4.1 11 rfl (by decide)))))))))] at hr_131
      rw [hQ]
      exact W.vret hx hb hr (fun t ht hW => ⟨⟨C_125, rfl, ⟨hT, hF, ⟨(Eq.trans (px_c (f_127.1 5 rfl (by decide))) (congrArg (fun z => z.2) mk_129).symm), (fun _ => ⟨hc_130, by rw [mk_129]; exact hr_131⟩), (fun h8 => absurd (Eq.trans (congrArg (fun z => gi z 2) (f_127.1 5 rfl (by decide))) u_118) h8)⟩⟩, ⟨by rw [ht]; exact hP, hD⟩⟩, hS.F ht⟩) hS.2.2 dX2_readRoad_119

set_option maxHeartbeats 4000000 in
set_option maxRecDepth 100000 in
theorem e_X2_readBridge (l : Launch) (D : va_G) (E : Nat → ClassId) (G : Nat → Nat) (sz : Nat) (a : Nat → Nat) (C : Nat → va_E) (hT : TyX a E C) : Met l yX2_readBridge (oh_w yX2_readBridge cX2_readBridge 8 none) ({ frames := 7, cells := 0, slots := 0, locals := 151 }) (oh_Pm D E G [.ref (a 6)] (oh_W 35 a C) sz) (va_Qv (fun (u : Nat → va_E) => TyX a E u ∧ fr [(5, 6), (10, 11), (12, 13)] [] C u ∧ (px u = (xBridge (ga (C 32)) (ga (C 10) ((1 : Int32)).toNatClampNeg < oh_room ((1 : Int32)).toNatClampNeg) (ga (C 10) ((0 : Int32)).toNatClampNeg) (px C)).2) ∧ (gi (u 5) 2 = -1 → ga (u 10) = upd (ga (C 10)) ((1 : Int32)).toNatClampNeg (ga (C 10) ((1 : Int32)).toNatClampNeg + 1) ∧ rowPt 10 (ga (C 10) ((1 : Int32)).toNatClampNeg).toNatClampNeg 10 (xBridge (ga (C 32)) (ga (C 10) ((1 : Int32)).toNatClampNeg < oh_room ((1 : Int32)).toNatClampNeg) (ga (C 10) ((0 : Int32)).toNatClampNeg) (px C)).1 (ga (C 12)) (ga (u 12))) ∧ (¬ gi (u 5) 2 = -1 → u 10 = C 10 ∧ u 12 = C 12)) (oh_B D (va_A (oh_W 35 a C) sz) (fun u => oh_W 35 a u)) (va_A (oh_W 35 a C) sz)) 0 0 (va_A (oh_W 35 a C) sz) := by
  refine Met.ofW (cc := cX2_readBridge) (maxL := 8) (ret := none) (by decide) rfl ?_
  intro p e s m args below meth c s₁ B hml hv
  obtain ⟨rfl, hsz, hP, hK, hD0, hG⟩ := hv
  have hx := B.exec
  have hb := B.bytes
  have hr := B.returns
  have hts := atoms_spec (ws := (oh_w yX2_readBridge cX2_readBridge 8 none)) B.pre
  have htg : ∀ w ∈ oh_t, w.before _ s = true := fun w h => hts w (List.mem_cons_of_mem _ h)
  have hown : s.vm.findClass RX2 = some m.cls := findClass_of_methodNamed B.named
  have hlocks := B.notSynchronized
  have hT0 := hT
  subst hsz
  have hD := hD0.self (sz := s.heap.size)
  generalize hAe : va_A (oh_W 35 a C) s.heap.size = A at hD hG ⊢
  have hA : ∀ q : Nat, s.heap.size ≤ q → A q := fun q h => by rw [← hAe]; exact Or.inr h
  have hS : va_S A s.heap s.heap [] := va_S.rf
  have hF : fr [(5, 6), (10, 11), (12, 13)] [] C C := fr_rf
  have hl := lv_entry ([.ref (a 6)]) (n := 8) (Nat.le_of_ble_eq_true rfl)
  rw [lg_entry_eq]
  generalize (lg_sl ([.ref (a 6)]) ++ List.replicate (8 - (lg_sl ([.ref (a 6)])).length) Slot.unset).toArray = ls at hl ⊢
  have hl : lv_has ls 8 [(0, .ref (a 6))] := hl
  refine oh_genQ (fun Q hQ => ?_)
  refine lv_aload_n hx hb dX2_readBridge_0 rfl (lv_at hl 0 rfl) ?_
  refine lv_iconst (v := 1) hx hb dX2_readBridge_1 (by decide) ?_
  refine tm_Vv (As := [.int 1]) (rest := []) ⟨hx, hb, hml, hown, htg⟩ (e_X2_enter l D E G _ a C hT (1 : Int32) (rg_w (rg_c (v := 1) (lo := 1) (hi := 1) (by decide)) (by decide))) (cwV 1 htg (oh_gV q_573 q_575 q_8 q_72 q_576) rfl rfl rfl pdVX2_enter ⟨Nat.le_of_ble_eq_true rfl, Nat.le_of_ble_eq_true rfl⟩) hK hP hD hG hS hA (va_recv hK hP (ci := 2) (q0 := 6) rfl (oh_wg (by decide) (sX_6 hT))) rfl hl.1 rfl (Nat.le_of_ble_eq_true rfl) dX2_readBridge_2 ⟨Nat.le_of_ble_eq_true rfl, Nat.le_of_ble_eq_true rfl⟩ (fun C_2 H locs hq_3 hP hD hS => ?_)
  obtain ⟨hT, f_4, hq_3⟩ := hq_3
  have hF := fr_tr hF f_4 (by decide) (by decide)
  refine W.widen (k := 0) (n := 0) (Nat.le_refl _) (Nat.le_refl _) ?_
  have t_5 := hT
  have ep_6 := hq_3.2.2
  refine lv_aload_n hx hb dX2_readBridge_5 rfl (lv_at hl 0 rfl) ?_
  refine va_get (D := D) (ci := 2) (v := .ref (a 5)) (C := RX2) (T := TX2) (N := 4) hx hb htg ig_2 hown hK hP 6 (oh_wg (by decide) (sX_6 hT)) rfl 0 (by decide) (htg _ q_245) (fun _ h9 => h9) rfl dX2_readBridge_6 ?_
  refine lv_iconst (v := 0) hx hb dX2_readBridge_9 (by decide) ?_
  refine lv_aload_n hx hb dX2_readBridge_10 rfl (lv_at hl 0 rfl) ?_
  refine va_get (D := D) (ci := 2) (v := .ref (a 1)) (C := RX2) (T := TX2) (N := 4) hx hb htg ig_2 hown hK hP 6 (oh_wg (by decide) (sX_6 hT)) rfl 1 (by decide) (htg _ q_246) (fun _ h9 => h9) rfl dX2_readBridge_11 ?_
  refine va_get (D := D) (ci := 0) (v := .ref (a 10)) (C := RX0) (T := TX0) (N := 8) hx hb htg ig_0 hown hK hP 1 (oh_wg (by decide) (sX_1 hT)) rfl 0 (by decide) (htg _ q_98) (fun _ h9 => h9) rfl dX2_readBridge_14 ?_
  refine lv_iconst (v := 0) hx hb dX2_readBridge_17 (by decide) ?_
  refine th_iald hx hb hK hP 10 (by decide) (Eq.trans (f_4.1 10 rfl (by decide)) (sX_10 hT0)) (rg_in (rg_c (v := 0) (lo := 0) (hi := 0) (by decide)) (by decide)) dX2_readBridge_18 ?_
  refine lv_iconst (v := 1) hx hb dX2_readBridge_19 (by decide) ?_
  refine lv_isub hx hb dX2_readBridge_20 ?_
  refine tm_V (As := [.int 0, .int ((ga (C 10) ((0 : Int32)).toNatClampNeg) - 1)]) (rest := []) ⟨hx, hb, hml, hown, htg⟩ (e_X4_takeNumber l D E G _ a C_2 hT (0 : Int32) ((ga (C 10) ((0 : Int32)).toNatClampNeg) - 1)) (cwV 2 htg (oh_gV q_583 q_584 q_585 q_71 q_586) rfl rfl rfl pdVX4_takeNumber ⟨Nat.le_of_ble_eq_true rfl, Nat.le_of_ble_eq_true rfl⟩) hK hP hD hG hS hA (va_recv hK hP (ci := 4) (q0 := 5) rfl (oh_wg (by decide) (sX_5 hT))) rfl hl.1 rfl (Nat.le_of_ble_eq_true rfl) dX2_readBridge_21 ⟨Nat.le_of_ble_eq_true rfl, Nat.le_of_ble_eq_true rfl⟩ (fun r_7 C_8 H locs hq_9 hP hD hS => ?_)
  obtain ⟨hT, f_10, hq_9⟩ := hq_9
  have hF := fr_tr hF f_10 (by decide) (by decide)
  refine W.widen (k := 0) (n := 0) (Nat.le_refl _) (Nat.le_refl _) ?_
  have t_11 := hT
  have er_12 := hq_9.2.2.1
  rw [show ga (C_2 32) = ga (C 32) from congrArg ga (f_4.1 32 rfl (by decide))] at er_12
  have ep_13 := hq_9.2.2.2
  rw [show ga (C_2 32) = ga (C 32) from congrArg ga (f_4.1 32 rfl (by decide))] at ep_13
  refine lv_istore_n (lv' := [(1, .int r_7), (0, .ref (a 6))]) hx hb dX2_readBridge_24 rfl hl (by decide) rfl (fun ls hl => ?_)
  refine lv_aload_n hx hb dX2_readBridge_25 rfl (lv_at hl 1 rfl) ?_
  refine va_ldcS hx hb hown (hG.2.2.1 ("OneHeavyLoad$Reader", 137, "kind", 9) (List.mem_of_getElem? (i := 6) rfl)) dX2_readBridge_26 ?_
  refine lv_iconst (v := 0) hx hb dX2_readBridge_28 (by decide) ?_
  refine lv_iconst (v := 5) hx hb dX2_readBridge_29 (by decide) ?_
  refine tm_V (As := [.ref (G (3 + 6)), .int 0, .int 5]) (rest := []) ⟨hx, hb, hml, hown, htg⟩ (e_X2_number l D E G _ a C_8 hT 6 (0 : Int32) (5 : Int32) (by decide)) (cwV 3 htg (oh_gV q_599 q_601 q_9 q_72 q_602) rfl rfl rfl pdVX2_number ⟨Nat.le_of_ble_eq_true rfl, Nat.le_of_ble_eq_true rfl⟩) hK hP hD hG hS hA (va_recv hK hP (ci := 2) (q0 := 6) rfl (oh_wg (by decide) (sX_6 hT))) rfl hl.1 rfl (Nat.le_of_ble_eq_true rfl) dX2_readBridge_30 ⟨Nat.le_of_ble_eq_true rfl, Nat.le_of_ble_eq_true rfl⟩ (fun r_14 C_15 H locs hq_16 hP hD hS => ?_)
  obtain ⟨hT, f_17, hq_16⟩ := hq_16
  have hF := fr_tr hF f_17 (by decide) (by decide)
  refine W.widen (k := 0) (n := 0) (Nat.le_refl _) (Nat.le_refl _) ?_
  have t_18 := hT
  have er_19 := hq_16.2.2.1
  rw [show ga (C_8 32) = ga (C 32) from congrArg ga (Eq.trans (f_10.1 32 rfl (by decide)) (f_4.1 32 rfl (by decide)))] at er_19
  have ep_20 := hq_16.2.2.2
  rw [show ga (C_8 32) = ga (C 32) from congrArg ga (Eq.trans (f_10.1 32 rfl (by decide)) (f_4.1 32 rfl (by decide)))] at ep_20
  refine lv_istore_n (lv' := [(2, .int r_14), (1, .int r_7), (0, .ref (a 6))]) hx hb dX2_readBridge_33 rfl hl (by decide) rfl (fun ls hl => ?_)
  refine lv_aload_n hx hb dX2_readBridge_34 rfl (lv_at hl 2 rfl) ?_
  refine va_ldcS hx hb hown (hG.2.2.1 ("OneHeavyLoad$Reader", 139, "span", 10) (List.mem_of_getElem? (i := 7) rfl)) dX2_readBridge_35 ?_
  refine lv_iconst (v := 0) hx hb dX2_readBridge_37 (by decide) ?_
  refine lv_bipush (v := 60) hx hb dX2_readBridge_38 (by decide) ?_
  refine tm_V (As := [.ref (G (3 + 7)), .int 0, .int 60]) (rest := []) ⟨hx, hb, hml, hown, htg⟩ (e_X2_number l D E G _ a C_15 hT 7 (0 : Int32) (60 : Int32) (by decide)) (cwV 3 htg (oh_gV q_599 q_601 q_9 q_72 q_602) rfl rfl rfl pdVX2_number ⟨Nat.le_of_ble_eq_true rfl, Nat.le_of_ble_eq_true rfl⟩) hK hP hD hG hS hA (va_recv hK hP (ci := 2) (q0 := 6) rfl (oh_wg (by decide) (sX_6 hT))) rfl hl.1 rfl (Nat.le_of_ble_eq_true rfl) dX2_readBridge_40 ⟨Nat.le_of_ble_eq_true rfl, Nat.le_of_ble_eq_true rfl⟩ (fun r_21 C_22 H locs hq_23 hP hD hS => ?_)
  obtain ⟨hT, f_24, hq_23⟩ := hq_23
  have hF := fr_tr hF f_24 (by decide) (by decide)
  refine W.widen (k := 0) (n := 0) (Nat.le_refl _) (Nat.le_refl _) ?_
  have t_25 := hT
  have er_26 := hq_23.2.2.1
  rw [show ga (C_15 32) = ga (C 32) from congrArg ga (Eq.trans (f_17.1 32 rfl (by decide)) (Eq.trans (f_10.1 32 rfl (by decide)) (f_4.1 32 rfl (by decide))))] at er_26
  have ep_27 := hq_23.2.2.2
  rw [show ga (C_15 32) = ga (C 32) from congrArg ga (Eq.trans (f_17.1 32 rfl (by decide)) (Eq.trans (f_10.1 32 rfl (by decide)) (f_4.1 32 rfl (by decide))))] at ep_27
  refine lv_istore_n (lv' := [(3, .int r_21), (2, .int r_14), (1, .int r_7), (0, .ref (a 6))]) hx hb dX2_readBridge_43 rfl hl (by decide) rfl (fun ls hl => ?_)
  refine lv_aload_n hx hb dX2_readBridge_44 rfl (lv_at hl 3 rfl) ?_
  refine va_ldcS hx hb hown (hG.2.2.1 ("OneHeavyLoad$Reader", 141, "axle", 11) (List.mem_of_getElem? (i := 8) rfl)) dX2_readBridge_45 ?_
  refine lv_iconst (v := 1) hx hb dX2_readBridge_47 (by decide) ?_
  refine lv_bipush (v := 99) hx hb dX2_readBridge_48 (by decide) ?_
  refine tm_V (As := [.ref (G (3 + 8)), .int 1, .int 99]) (rest := []) ⟨hx, hb, hml, hown, htg⟩ (e_X2_number l D E G _ a C_22 hT 8 (1 : Int32) (99 : Int32) (by decide)) (cwV 3 htg (oh_gV q_599 q_601 q_9 q_72 q_602) rfl rfl rfl pdVX2_number ⟨Nat.le_of_ble_eq_true rfl, Nat.le_of_ble_eq_true rfl⟩) hK hP hD hG hS hA (va_recv hK hP (ci := 2) (q0 := 6) rfl (oh_wg (by decide) (sX_6 hT))) rfl hl.1 rfl (Nat.le_of_ble_eq_true rfl) dX2_readBridge_50 ⟨Nat.le_of_ble_eq_true rfl, Nat.le_of_ble_eq_true rfl⟩ (fun r_28 C_29 H locs hq_30 hP hD hS => ?_)
  obtain ⟨hT, f_31, hq_30⟩ := hq_30
  have hF := fr_tr hF f_31 (by decide) (by decide)
  refine W.widen (k := 0) (n := 0) (Nat.le_refl _) (Nat.le_refl _) ?_
  have t_32 := hT
  have er_33 := hq_30.2.2.1
  rw [show ga (C_22 32) = ga (C 32) from congrArg ga (Eq.trans (f_24.1 32 rfl (by decide)) (Eq.trans (f_17.1 32 rfl (by decide)) (Eq.trans (f_10.1 32 rfl (by decide)) (f_4.1 32 rfl (by decide)))))] at er_33
  have ep_34 := hq_30.2.2.2
  rw [show ga (C_22 32) = ga (C 32) from congrArg ga (Eq.trans (f_24.1 32 rfl (by decide)) (Eq.trans (f_17.1 32 rfl (by decide)) (Eq.trans (f_10.1 32 rfl (by decide)) (f_4.1 32 rfl (by decide)))))] at ep_34
  refine lv_istore (lv' := [(4, .int r_28), (3, .int r_21), (2, .int r_14), (1, .int r_7), (0, .ref (a 6))]) hx hb dX2_readBridge_53 hl (by decide) rfl (fun ls hl => ?_)
  refine lv_aload_n hx hb dX2_readBridge_55 rfl (lv_at hl 4 rfl) ?_
  refine va_ldcS hx hb hown (hG.2.2.1 ("OneHeavyLoad$Reader", 143, "all", 12) (List.mem_of_getElem? (i := 9) rfl)) dX2_readBridge_56 ?_
  refine lv_iconst (v := 1) hx hb dX2_readBridge_58 (by decide) ?_
  refine lv_sipush (v := 999) hx hb dX2_readBridge_59 (by decide) ?_
  refine tm_V (As := [.ref (G (3 + 9)), .int 1, .int 999]) (rest := []) ⟨hx, hb, hml, hown, htg⟩ (e_X2_number l D E G _ a C_29 hT 9 (1 : Int32) (999 : Int32) (by decide)) (cwV 3 htg (oh_gV q_599 q_601 q_9 q_72 q_602) rfl rfl rfl pdVX2_number ⟨Nat.le_of_ble_eq_true rfl, Nat.le_of_ble_eq_true rfl⟩) hK hP hD hG hS hA (va_recv hK hP (ci := 2) (q0 := 6) rfl (oh_wg (by decide) (sX_6 hT))) rfl hl.1 rfl (Nat.le_of_ble_eq_true rfl) dX2_readBridge_62 ⟨Nat.le_of_ble_eq_true rfl, Nat.le_of_ble_eq_true rfl⟩ (fun r_35 C_36 H locs hq_37 hP hD hS => ?_)
  obtain ⟨hT, f_38, hq_37⟩ := hq_37
  have hF := fr_tr hF f_38 (by decide) (by decide)
  refine W.widen (k := 0) (n := 0) (Nat.le_refl _) (Nat.le_refl _) ?_
  have t_39 := hT
  have er_40 := hq_37.2.2.1
  rw [show ga (C_29 32) = ga (C 32) from congrArg ga (Eq.trans (f_31.1 32 rfl (by decide)) (Eq.trans (f_24.1 32 rfl (by decide)) (Eq.trans (f_17.1 32 rfl (by decide)) (Eq.trans (f_10.1 32 rfl (by decide)) (f_4.1 32 rfl (by decide))))))] at er_40
  have ep_41 := hq_37.2.2.2
  rw [show ga (C_29 32) = ga (C 32) from congrArg ga (Eq.trans (f_31.1 32 rfl (by decide)) (Eq.trans (f_24.1 32 rfl (by decide)) (Eq.trans (f_17.1 32 rfl (by decide)) (Eq.trans (f_10.1 32 rfl (by decide)) (f_4.1 32 rfl (by decide))))))] at ep_41
  refine lv_istore (lv' := [(5, .int r_35), (4, .int r_28), (3, .int r_21), (2, .int r_14), (1, .int r_7), (0, .ref (a 6))]) hx hb dX2_readBridge_65 hl (by decide) rfl (fun ls hl => ?_)
  refine lv_iconst (v := 0) hx hb dX2_readBridge_67 (by decide) ?_
  refine lv_istore (lv' := [(6, .int 0), (5, .int r_35), (4, .int r_28), (3, .int r_21), (2, .int r_14), (1, .int r_7), (0, .ref (a 6))]) hx hb dX2_readBridge_68 hl (by decide) rfl (fun ls hl => ?_)
  refine lv_iconst (v := 0) hx hb dX2_readBridge_70 (by decide) ?_
  refine lv_istore (lv' := [(7, .int 0), (6, .int 0), (5, .int r_35), (4, .int r_28), (3, .int r_21), (2, .int r_14), (1, .int r_7), (0, .ref (a 6))]) hx hb dX2_readBridge_71 hl (by decide) rfl (fun ls hl => ?_)
  refine lv_aload_n hx hb dX2_readBridge_73 rfl (lv_at hl 7 rfl) ?_
  refine va_get (D := D) (ci := 2) (v := .ref (a 5)) (C := RX2) (T := TX2) (N := 4) hx hb htg ig_2 hown hK hP 6 (oh_wg (by decide) (sX_6 hT)) rfl 0 (by decide) (htg _ q_245) (fun _ h9 => h9) rfl dX2_readBridge_74 ?_
  refine va_ldcS hx hb hown (hG.2.2.1 ("OneHeavyLoad$Reader", 145, "prop", 13) (List.mem_of_getElem? (i := 10) rfl)) dX2_readBridge_77 ?_
  refine tm_V (As := [.ref (G (3 + 10))]) (rest := []) ⟨hx, hb, hml, hown, htg⟩ (e_X4_takeWordIfThere l D E G _ a C_36 hT 10 (by decide)) (cwV 1 htg (oh_gV q_613 q_614 q_615 q_71 q_616) rfl rfl rfl pdVX4_takeWordIfThere ⟨Nat.le_of_ble_eq_true rfl, Nat.le_of_ble_eq_true rfl⟩) hK hP hD hG hS hA (va_recv hK hP (ci := 4) (q0 := 5) rfl (oh_wg (by decide) (sX_5 hT))) rfl hl.1 rfl (Nat.le_of_ble_eq_true rfl) dX2_readBridge_79 ⟨Nat.le_of_ble_eq_true rfl, Nat.le_of_ble_eq_true rfl⟩ (fun r_42 C_43 H locs hq_44 hP hD hS => ?_)
  obtain ⟨hT, f_45, hq_44⟩ := hq_44
  have hF := fr_tr hF f_45 (by decide) (by decide)
  refine W.widen (k := 0) (n := 0) (Nat.le_refl _) (Nat.le_refl _) ?_
  have t_46 := hT
  have ep_47 := hq_44.2.2.1
  rw [show ga (C_36 32) = ga (C 32) from congrArg ga (Eq.trans (f_38.1 32 rfl (by decide)) (Eq.trans (f_31.1 32 rfl (by decide)) (Eq.trans (f_24.1 32 rfl (by decide)) (Eq.trans (f_17.1 32 rfl (by decide)) (Eq.trans (f_10.1 32 rfl (by decide)) (f_4.1 32 rfl (by decide)))))))] at ep_47
  refine lv_if_eq (tgt := 111) hx hb dX2_readBridge_82 (by decide) (fun (c_48 : r_42 = 0) => ?_) (fun (c_48 : ¬ (r_42 = 0)) => ?_)
  · have u_49 := hq_44.2.2.2.2 c_48
    refine lv_aload_n hx hb dX2_readBridge_111 rfl (lv_at hl 7 rfl) ?_
    refine va_get (D := D) (ci := 2) (v := .ref (a 5)) (C := RX2) (T := TX2) (N := 4) hx hb htg ig_2 hown hK hP 6 (oh_wg (by decide) (sX_6 hT)) rfl 0 (by decide) (htg _ q_245) (fun _ h9 => h9) rfl dX2_readBridge_112 ?_
    refine tq_V (As := []) (rest := []) (ws := (oh_W 35 a C_43)) ⟨hx, hb, hml, hown, htg⟩ (e_X4_isSound l D E G a C_43 hT) (cwV 0 htg (oh_gV q_619 q_592 q_593 q_71 q_594) rfl rfl rfl pdVX4_isSound ⟨Nat.le_of_ble_eq_true rfl, Nat.le_of_ble_eq_true rfl⟩) hK hP hG hS (va_recv hK hP (ci := 4) (q0 := 5) rfl (oh_wg (by decide) (sX_5 hT))) rfl hl.1 rfl (Nat.le_of_ble_eq_true rfl) dX2_readBridge_115 ⟨Nat.le_of_ble_eq_true rfl, Nat.le_of_ble_eq_true rfl⟩ (fun r_50 hq_51 => ?_)
    refine lv_if_eq (tgt := 146) hx hb dX2_readBridge_118 (by decide) (fun (c_52 : r_50 = 0) => ?_) (fun (c_52 : ¬ (r_50 = 0)) => ?_)
    · have u_53 := hq_51.2.2 c_52
      have hw_55 := u_49
      rw [show ga (C_36 32) = ga (C 32) from congrArg ga (Eq.trans (f_38.1 32 rfl (by decide)) (Eq.trans (f_31.1 32 rfl (by decide)) (Eq.trans (f_24.1 32 rfl (by decide)) (Eq.trans (f_17.1 32 rfl (by decide)) (Eq.trans (f_10.1 32 rfl (by decide)) (f_4.1 32 rfl (by decide)))))))] at hw_55
      have mk_54 := (xBridge_mk ep_6 er_12 ep_13 er_19 ep_20 er_26 ep_27 er_33 ep_34 er_40 ep_41 (xProp_0 hw_55 ep_47))
      rw [hQ]
      exact W.vret hx hb hr (fun t ht hW => ⟨⟨C_43, rfl, ⟨hT, hF, ⟨(Eq.trans rfl (congrArg (fun z => z.2) mk_54).symm), (fun h8 => absurd h8 u_53), (fun _ => ⟨(Eq.trans (f_45.1 10 rfl (by decide)) (Eq.trans (f_38.1 10 rfl (by decide)) (Eq.trans (f_31.1 10 rfl (by decide)) (Eq.trans (f_24.1 10 rfl (by decide)) (Eq.trans (f_17.1 10 rfl (by decide)) (Eq.trans (f_10.1 10 rfl (by decide)) (f_4.1 10 rfl (by decide)))))))), (Eq.trans (f_45.1 12 rfl (by decide)) (Eq.trans (f_38.1 12 rfl (by decide)) (Eq.trans (f_31.1 12 rfl (by decide)) (Eq.trans (f_24.1 12 rfl (by decide)) (Eq.trans (f_17.1 12 rfl (by decide)) (Eq.trans (f_10.1 12 rfl (by decide)) (f_4.1 12 rfl (by decide))))))))⟩)⟩⟩, ⟨by rw [ht]; exact hP, hD⟩⟩, hS.F ht⟩) hS.2.2 dX2_readBridge_146
    · have u_56 := hq_51.2.1 c_52
      have s_57 := u_56
      have s_58 := hq_37.2.1 (hq_44.2.1 s_57)
      have s_59 := hq_30.2.1 (hq_37.1 (hq_44.2.1 s_57))
      have s_60 := hq_23.2.1 (hq_30.1 (hq_37.1 (hq_44.2.1 s_57)))
      have s_61 := hq_16.2.1 (hq_23.1 (hq_30.1 (hq_37.1 (hq_44.2.1 s_57))))
      have s_62 := hq_9.2.1 (hq_16.1 (hq_23.1 (hq_30.1 (hq_37.1 (hq_44.2.1 s_57)))))
      have s_63 : ga (C 10) ((1 : Int32)).toNatClampNeg < (16 : Int32) := hq_3.2.1 (hq_9.1 (hq_16.1 (hq_23.1 (hq_30.1 (hq_37.1 (hq_44.2.1 s_57))))))
      refine lv_aload_n hx hb dX2_readBridge_121 rfl (lv_at hl 7 rfl) ?_
      refine va_get (D := D) (ci := 2) (v := .ref (a 1)) (C := RX2) (T := TX2) (N := 4) hx hb htg ig_2 hown hK hP 6 (oh_wg (by decide) (sX_6 hT)) rfl 1 (by decide) (htg _ q_246) (fun _ h9 => h9) rfl dX2_readBridge_122 ?_
      refine lv_aload_n hx hb dX2_readBridge_125 rfl (lv_at hl 7 rfl) ?_
      refine va_get (D := D) (ci := 2) (v := .ref (a 1)) (C := RX2) (T := TX2) (N := 4) hx hb htg ig_2 hown hK hP 6 (oh_wg (by decide) (sX_6 hT)) rfl 1 (by decide) (htg _ q_246) (fun _ h9 => h9) rfl dX2_readBridge_126 ?_
      refine lv_iload_n hx hb dX2_readBridge_129 rfl (lv_at hl 6 rfl) ?_
      refine lv_iload_n hx hb dX2_readBridge_130 rfl (lv_at hl 5 rfl) ?_
      refine lv_iload_n hx hb dX2_readBridge_131 rfl (lv_at hl 4 rfl) ?_
      refine lv_iload hx hb dX2_readBridge_132 (lv_at hl 3 rfl) ?_
      refine lv_iload hx hb dX2_readBridge_134 (lv_at hl 2 rfl) ?_
      refine tm_V (As := [.int r_7, .int r_14, .int r_21, .int r_28, .int r_35]) (rest := [.ref (a 1)]) ⟨hx, hb, hml, hown, htg⟩ (e_X0_addBridge l D E G _ a C_43 hT r_7 r_14 r_21 r_28 r_35 (rg_w (rn_leu s_62.2 (rn_lel s_62.1 (rg_c (v := 0) (lo := 0) (hi := 0) (by decide)) (rg_any _)) (rg_sub (lo := (-1)) (hi := 23) (tA_rdc (lo := 0) (hi := 24) (tX_10 hT0) (rg_in (rg_c (v := 0) (lo := 0) (hi := 0) (by decide)) (by decide)) (show _ = 0 by decide) (by decide)) (rg_c (v := 1) (lo := 1) (hi := 1) (by decide)) (by decide))) (by decide)) (rg_w (rn_leu s_61.2 (rn_lel s_61.1 (rg_c (v := 0) (lo := 0) (hi := 0) (by decide)) (rg_any _)) (rg_c (v := 5) (lo := 5) (hi := 5) (by decide))) (by decide)) (oh_rgA (Eq.trans (f_45.1 10 rfl (by decide)) (Eq.trans (f_38.1 10 rfl (by decide)) (Eq.trans (f_31.1 10 rfl (by decide)) (Eq.trans (f_24.1 10 rfl (by decide)) (Eq.trans (f_17.1 10 rfl (by decide)) (Eq.trans (f_10.1 10 rfl (by decide)) (f_4.1 10 rfl (by decide)))))))) (rg_w (lo := 0) (hi := 15) (rn_ltu (u' := 15) s_63 (tA_rdc (lo := 0) (hi := 16) (tX_10 hT0) (rg_in (rg_c (v := 1) (lo := 1) (hi := 1) (by decide)) (by decide)) (show _ = 1 by decide) (by decide)) (rg_c (v := 16) (lo := 16) (hi := 16) (by decide)) (by decide)) (by decide)))) (cwV 5 htg (oh_gV q_631 q_433 q_434 q_67 q_435) rfl rfl rfl pdVX0_addBridge ⟨Nat.le_of_ble_eq_true rfl, Nat.le_of_ble_eq_true rfl⟩) hK hP hD hG hS hA (va_recv hK hP (ci := 0) (q0 := 1) rfl (oh_wg (by decide) (sX_1 hT))) rfl hl.1 rfl (Nat.le_of_ble_eq_true rfl) dX2_readBridge_136 ⟨Nat.le_of_ble_eq_true rfl, Nat.le_of_ble_eq_true rfl⟩ (fun r_64 C_65 H locs hq_66 hP hD hS => ?_)
      obtain ⟨hT, f_67, hq_66⟩ := hq_66
      have hF := fr_tr hF f_67 (by decide) (by decide)
      refine W.widen (k := 0) (n := 0) (Nat.le_refl _) (Nat.le_refl _) ?_
      have t_68 := hT
      refine lv_iload hx hb dX2_readBridge_139 (lv_at hl 1 rfl) ?_
      refine lv_iload hx hb dX2_readBridge_141 (lv_at hl 0 rfl) ?_
      refine tm_Vv (As := [.int r_64, .int 0, .int 0]) (rest := []) ⟨hx, hb, hml, hown, htg⟩ (e_X0_putProp l D E G _ a C_65 hT r_64 (0 : Int32) (0 : Int32) (rg_w hq_66.1 (by decide))) (cwV 3 htg (oh_gV q_632 q_441 q_442 q_67 q_443) rfl rfl rfl pdVX0_putProp ⟨Nat.le_of_ble_eq_true rfl, Nat.le_of_ble_eq_true rfl⟩) hK hP hD hG hS hA (va_recv hK hP (ci := 0) (q0 := 1) rfl (oh_wg (by decide) (sX_1 hT))) rfl hl.1 rfl (Nat.le_of_ble_eq_true rfl) dX2_readBridge_143 ⟨Nat.le_of_ble_eq_true rfl, Nat.le_of_ble_eq_true rfl⟩ (fun C_70 H locs hq_71 hP hD hS => ?_)
      obtain ⟨hT, f_72, hq_71⟩ := hq_71
      have hF := fr_tr hF f_72 (by decide) (by decide)
      refine W.widen (k := 0) (n := 0) (Nat.le_refl _) (Nat.le_refl _) ?_
      have t_73 := hT
      have hw_75 := u_49
      rw [show ga (C_36 32) = ga (C 32) from congrArg ga (Eq.trans (f_38.1 32 rfl (by decide)) (Eq.trans (f_31.1 32 rfl (by decide)) (Eq.trans (f_24.1 32 rfl (by decide)) (Eq.trans (f_17.1 32 rfl (by decide)) (Eq.trans (f_10.1 32 rfl (by decide)) (f_4.1 32 rfl (by decide)))))))] at hw_75
      have mk_74 := (xBridge_mk ep_6 er_12 ep_13 er_19 ep_20 er_26 ep_27 er_33 ep_34 er_40 ep_41 (xProp_0 hw_75 ep_47))
      have hc_76 := hq_66.2.2.1
      have hr_77 := hq_66.2.2.2
      rw [show C_43 10 = C 10 from (Eq.trans (f_45.1 10 rfl (by decide)) (Eq.trans (f_38.1 10 rfl (by decide)) (Eq.trans (f_31.1 10 rfl (by decide)) (Eq.trans (f_24.1 10 rfl (by decide)) (Eq.trans (f_17.1 10 rfl (by decide)) (Eq.trans (f_10.1 10 rfl (by decide)) (f_4.1 10 rfl (by decide))))))))] at hc_76 hr_77
      rw [show C_43 12 = C 12 from (Eq.trans (f_45.1 12 rfl (by decide)) (Eq.trans (f_38.1 12 rfl (by decide)) (Eq.trans (f_31.1 12 rfl (by decide)) (Eq.trans (f_24.1 12 rfl (by decide)) (Eq.trans (f_17.1 12 rfl (by decide)) (Eq.trans (f_10.1 12 rfl (by decide)) (f_4.1 12 rfl (by decide))))))))] at hr_77
      have hp_78 := hq_71
      have eb_79 := hq_66.2.1
      rw [show C_43 10 = C 10 from (Eq.trans (f_45.1 10 rfl (by decide)) (Eq.trans (f_38.1 10 rfl (by decide)) (Eq.trans (f_31.1 10 rfl (by decide)) (Eq.trans (f_24.1 10 rfl (by decide)) (Eq.trans (f_17.1 10 rfl (by decide)) (Eq.trans (f_10.1 10 rfl (by decide)) (f_4.1 10 rfl (by decide))))))))] at eb_79
      have i_80 := rgB1 hT0
      rw [eb_79, oh_rix (w := 10) (j := 5) i_80 rfl rfl (by decide), oh_rix (w := 10) (j := 6) i_80 rfl rfl (by decide)] at hp_78
      rw [hQ]
      exact W.vret hx hb hr (fun t ht hW => ⟨⟨C_70, rfl, ⟨hT, hF, ⟨(Eq.trans (px_c (Eq.trans (f_72.1 5 rfl (by decide)) (f_67.1 5 rfl (by decide)))) (congrArg (fun z => z.2) mk_74).symm), (fun _ => ⟨Eq.trans (congrArg ga ((f_72.1 10 rfl (by decide)) : C_70 10 = C_65 10)) hc_76, by rw [mk_74, hp_78]; exact rowPt_2 hr_77 (by decide) (by decide) (by decide) rfl rfl (fun j hj q1 q2 => rwfp hj q1 q2)⟩), (fun h8 => absurd (Eq.trans (Eq.trans (congrArg (fun z => gi z 2) (f_72.1 5 rfl (by decide))) (congrArg (fun z => gi z 2) (f_67.1 5 rfl (by decide)))) u_56) h8)⟩⟩, ⟨by rw [ht]; exact hP, hD⟩⟩, hS.F ht⟩) hS.2.2 dX2_readBridge_146
  · have u_81 := hq_44.2.2.2.1 c_48
    refine lv_aload_n hx hb dX2_readBridge_85 rfl (lv_at hl 7 rfl) ?_
    refine va_get (D := D) (ci := 2) (v := .ref (a 5)) (C := RX2) (T := TX2) (N := 4) hx hb htg ig_2 hown hK hP 6 (oh_wg (by decide) (sX_6 hT)) rfl 0 (by decide) (htg _ q_245) (fun _ h9 => h9) rfl dX2_readBridge_86 ?_
    refine lv_iconst (v := 0) hx hb dX2_readBridge_89 (by decide) ?_
    refine lv_sipush (v := 999) hx hb dX2_readBridge_90 (by decide) ?_
    refine tm_V (As := [.int 0, .int 999]) (rest := []) ⟨hx, hb, hml, hown, htg⟩ (e_X4_takeNumber l D E G _ a C_43 hT (0 : Int32) (999 : Int32)) (cwV 2 htg (oh_gV q_583 q_584 q_585 q_71 q_586) rfl rfl rfl pdVX4_takeNumber ⟨Nat.le_of_ble_eq_true rfl, Nat.le_of_ble_eq_true rfl⟩) hK hP hD hG hS hA (va_recv hK hP (ci := 4) (q0 := 5) rfl (oh_wg (by decide) (sX_5 hT))) rfl hl.1 rfl (Nat.le_of_ble_eq_true rfl) dX2_readBridge_93 ⟨Nat.le_of_ble_eq_true rfl, Nat.le_of_ble_eq_true rfl⟩ (fun r_82 C_83 H locs hq_84 hP hD hS => ?_)
    obtain ⟨hT, f_85, hq_84⟩ := hq_84
    have hF := fr_tr hF f_85 (by decide) (by decide)
    refine W.widen (k := 0) (n := 0) (Nat.le_refl _) (Nat.le_refl _) ?_
    have t_86 := hT
    have er_87 := hq_84.2.2.1
    rw [show ga (C_43 32) = ga (C 32) from congrArg ga (Eq.trans (f_45.1 32 rfl (by decide)) (Eq.trans (f_38.1 32 rfl (by decide)) (Eq.trans (f_31.1 32 rfl (by decide)) (Eq.trans (f_24.1 32 rfl (by decide)) (Eq.trans (f_17.1 32 rfl (by decide)) (Eq.trans (f_10.1 32 rfl (by decide)) (f_4.1 32 rfl (by decide))))))))] at er_87
    have ep_88 := hq_84.2.2.2
    rw [show ga (C_43 32) = ga (C 32) from congrArg ga (Eq.trans (f_45.1 32 rfl (by decide)) (Eq.trans (f_38.1 32 rfl (by decide)) (Eq.trans (f_31.1 32 rfl (by decide)) (Eq.trans (f_24.1 32 rfl (by decide)) (Eq.trans (f_17.1 32 rfl (by decide)) (Eq.trans (f_10.1 32 rfl (by decide)) (f_4.1 32 rfl (by decide))))))))] at ep_88
    refine lv_istore (lv' := [(6, .int r_82), (7, .int 0), (5, .int r_35), (4, .int r_28), (3, .int r_21), (2, .int r_14), (1, .int r_7), (0, .ref (a 6))]) hx hb dX2_readBridge_96 hl (by decide) rfl (fun ls hl => ?_)
    refine lv_aload_n hx hb dX2_readBridge_98 rfl (lv_at hl 7 rfl) ?_
    refine va_get (D := D) (ci := 2) (v := .ref (a 5)) (C := RX2) (T := TX2) (N := 4) hx hb htg ig_2 hown hK hP 6 (oh_wg (by decide) (sX_6 hT)) rfl 0 (by decide) (htg _ q_245) (fun _ h9 => h9) rfl dX2_readBridge_99 ?_
    refine lv_iconst (v := 0) hx hb dX2_readBridge_102 (by decide) ?_
    refine lv_sipush (v := 999) hx hb dX2_readBridge_103 (by decide) ?_
    refine tm_V (As := [.int 0, .int 999]) (rest := []) ⟨hx, hb, hml, hown, htg⟩ (e_X4_takeNumber l D E G _ a C_83 hT (0 : Int32) (999 : Int32)) (cwV 2 htg (oh_gV q_583 q_584 q_585 q_71 q_586) rfl rfl rfl pdVX4_takeNumber ⟨Nat.le_of_ble_eq_true rfl, Nat.le_of_ble_eq_true rfl⟩) hK hP hD hG hS hA (va_recv hK hP (ci := 4) (q0 := 5) rfl (oh_wg (by decide) (sX_5 hT))) rfl hl.1 rfl (Nat.le_of_ble_eq_true rfl) dX2_readBridge_106 ⟨Nat.le_of_ble_eq_true rfl, Nat.le_of_ble_eq_true rfl⟩ (fun r_89 C_90 H locs hq_91 hP hD hS => ?_)
    obtain ⟨hT, f_92, hq_91⟩ := hq_91
    have hF := fr_tr hF f_92 (by decide) (by decide)
    refine W.widen (k := 0) (n := 0) (Nat.le_refl _) (Nat.le_refl _) ?_
    have t_93 := hT
    have er_94 := hq_91.2.2.1
    rw [show ga (C_83 32) = ga (C 32) from congrArg ga (Eq.trans (f_85.1 32 rfl (by decide)) (Eq.trans (f_45.1 32 rfl (by decide)) (Eq.trans (f_38.1 32 rfl (by decide)) (Eq.trans (f_31.1 32 rfl (by decide)) (Eq.trans (f_24.1 32 rfl (by decide)) (Eq.trans (f_17.1 32 rfl (by decide)) (Eq.trans (f_10.1 32 rfl (by decide)) (f_4.1 32 rfl (by decide)))))))))] at er_94
    have ep_95 := hq_91.2.2.2
    rw [show ga (C_83 32) = ga (C 32) from congrArg ga (Eq.trans (f_85.1 32 rfl (by decide)) (Eq.trans (f_45.1 32 rfl (by decide)) (Eq.trans (f_38.1 32 rfl (by decide)) (Eq.trans (f_31.1 32 rfl (by decide)) (Eq.trans (f_24.1 32 rfl (by decide)) (Eq.trans (f_17.1 32 rfl (by decide)) (Eq.trans (f_10.1 32 rfl (by decide)) (f_4.1 32 rfl (by decide)))))))))] at ep_95
    refine lv_istore (lv' := [(7, .int r_89), (6, .int r_82), (5, .int r_35), (4, .int r_28), (3, .int r_21), (2, .int r_14), (1, .int r_7), (0, .ref (a 6))]) hx hb dX2_readBridge_109 hl (by decide) rfl (fun ls hl => ?_)
    refine lv_aload_n hx hb dX2_readBridge_111 rfl (lv_at hl 7 rfl) ?_
    refine va_get (D := D) (ci := 2) (v := .ref (a 5)) (C := RX2) (T := TX2) (N := 4) hx hb htg ig_2 hown hK hP 6 (oh_wg (by decide) (sX_6 hT)) rfl 0 (by decide) (htg _ q_245) (fun _ h9 => h9) rfl dX2_readBridge_112 ?_
    refine tq_V (As := []) (rest := []) (ws := (oh_W 35 a C_90)) ⟨hx, hb, hml, hown, htg⟩ (e_X4_isSound l D E G a C_90 hT) (cwV 0 htg (oh_gV q_619 q_592 q_593 q_71 q_594) rfl rfl rfl pdVX4_isSound ⟨Nat.le_of_ble_eq_true rfl, Nat.le_of_ble_eq_true rfl⟩) hK hP hG hS (va_recv hK hP (ci := 4) (q0 := 5) rfl (oh_wg (by decide) (sX_5 hT))) rfl hl.1 rfl (Nat.le_of_ble_eq_true rfl) dX2_readBridge_115 ⟨Nat.le_of_ble_eq_true rfl, Nat.le_of_ble_eq_true rfl⟩ (fun r_96 hq_97 => ?_)
    refine lv_if_eq (tgt := 146) hx hb dX2_readBridge_118 (by decide) (fun (c_98 : r_96 = 0) => ?_) (fun (c_98 : ¬ (r_96 = 0)) => ?_)
    · have u_99 := hq_97.2.2 c_98
      have hw_101 := u_81
      rw [show ga (C_36 32) = ga (C 32) from congrArg ga (Eq.trans (f_38.1 32 rfl (by decide)) (Eq.trans (f_31.1 32 rfl (by decide)) (Eq.trans (f_24.1 32 rfl (by decide)) (Eq.trans (f_17.1 32 rfl (by decide)) (Eq.trans (f_10.1 32 rfl (by decide)) (f_4.1 32 rfl (by decide)))))))] at hw_101
      have mk_100 := (xBridge_mk ep_6 er_12 ep_13 er_19 ep_20 er_26 ep_27 er_33 ep_34 er_40 ep_41 (xProp_1 hw_101 ep_47 er_87 ep_88 er_94 ep_95))
      rw [hQ]
      exact W.vret hx hb hr (fun t ht hW => ⟨⟨C_90, rfl, ⟨hT, hF, ⟨(Eq.trans rfl (congrArg (fun z => z.2) mk_100).symm), (fun h8 => absurd h8 u_99), (fun _ => ⟨(Eq.trans (f_92.1 10 rfl (by decide)) (Eq.trans (f_85.1 10 rfl (by decide)) (Eq.trans (f_45.1 10 rfl (by decide)) (Eq.trans (f_38.1 10 rfl (by decide)) (Eq.trans (f_31.1 10 rfl (by decide)) (Eq.trans (f_24.1 10 rfl (by decide)) (Eq.trans (f_17.1 10 rfl (by decide)) (Eq.trans (f_10.1 10 rfl (by decide)) (f_4.1 10 rfl (by decide)))))))))), (Eq.trans (f_92.1 12 rfl (by decide)) (Eq.trans (f_85.1 12 rfl (by decide)) (Eq.trans (f_45.1 12 rfl (by decide)) (Eq.trans (f_38.1 12 rfl (by decide)) (Eq.trans (f_31.1 12 rfl (by decide)) (Eq.trans (f_24.1 12 rfl (by decide)) (Eq.trans (f_17.1 12 rfl (by decide)) (Eq.trans (f_10.1 12 rfl (by decide)) (f_4.1 12 rfl (by decide))))))))))⟩)⟩⟩, ⟨by rw [ht]; exact hP, hD⟩⟩, hS.F ht⟩) hS.2.2 dX2_readBridge_146
    · have u_102 := hq_97.2.1 c_98
      have s_103 := u_102
      have s_104 := hq_91.2.1 s_103
      have s_105 := hq_84.2.1 (hq_91.1 s_103)
      have s_106 := hq_37.2.1 (hq_44.2.1 (hq_84.1 (hq_91.1 s_103)))
      have s_107 := hq_30.2.1 (hq_37.1 (hq_44.2.1 (hq_84.1 (hq_91.1 s_103))))
      have s_108 := hq_23.2.1 (hq_30.1 (hq_37.1 (hq_44.2.1 (hq_84.1 (hq_91.1 s_103)))))
      have s_109 := hq_16.2.1 (hq_23.1 (hq_30.1 (hq_37.1 (hq_44.2.1 (hq_84.1 (hq_91.1 s_103))))))
      have s_110 := hq_9.2.1 (hq_16.1 (hq_23.1 (hq_30.1 (hq_37.1 (hq_44.2.1 (hq_84.1 (hq_91.1 s_103)))))))
      have s_111 : ga (C 10) ((1 : Int32)).toNatClampNeg < (16 : Int32) := hq_3.2.1 (hq_9.1 (hq_16.1 (hq_23.1 (hq_30.1 (hq_37.1 (hq_44.2.1 (hq_84.1 (hq_91.1 s_103))))))))
      refine lv_aload_n hx hb dX2_readBridge_121 rfl (lv_at hl 7 rfl) ?_
      refine va_get (D := D) (ci := 2) (v := .ref (a 1)) (C := RX2) (T := TX2) (N := 4) hx hb htg ig_2 hown hK hP 6 (oh_wg (by decide) (sX_6 hT)) rfl 1 (by decide) (htg _ q_246) (fun _ h9 => h9) rfl dX2_readBridge_122 ?_
      refine lv_aload_n hx hb dX2_readBridge_125 rfl (lv_at hl 7 rfl) ?_
      refine va_get (D := D) (ci := 2) (v := .ref (a 1)) (C := RX2) (T := TX2) (N := 4) hx hb htg ig_2 hown hK hP 6 (oh_wg (by decide) (sX_6 hT)) rfl 1 (by decide) (htg _ q_246) (fun _ h9 => h9) rfl dX2_readBridge_126 ?_
      refine lv_iload_n hx hb dX2_readBridge_129 rfl (lv_at hl 6 rfl) ?_
      refine lv_iload_n hx hb dX2_readBridge_130 rfl (lv_at hl 5 rfl) ?_
      refine lv_iload_n hx hb dX2_readBridge_131 rfl (lv_at hl 4 rfl) ?_
      refine lv_iload hx hb dX2_readBridge_132 (lv_at hl 3 rfl) ?_
      refine lv_iload hx hb dX2_readBridge_134 (lv_at hl 2 rfl) ?_
      refine tm_V (As := [.int r_7, .int r_14, .int r_21, .int r_28, .int r_35]) (rest := [.ref (a 1)]) ⟨hx, hb, hml, hown, htg⟩ (e_X0_addBridge l D E G _ a C_90 hT r_7 r_14 r_21 r_28 r_35 (rg_w (rn_leu s_110.2 (rn_lel s_110.1 (rg_c (v := 0) (lo := 0) (hi := 0) (by decide)) (rg_any _)) (rg_sub (lo := (-1)) (hi := 23) (tA_rdc (lo := 0) (hi := 24) (tX_10 hT0) (rg_in (rg_c (v := 0) (lo := 0) (hi := 0) (by decide)) (by decide)) (show _ = 0 by decide) (by decide)) (rg_c (v := 1) (lo := 1) (hi := 1) (by decide)) (by decide))) (by decide)) (rg_w (rn_leu s_109.2 (rn_lel s_109.1 (rg_c (v := 0) (lo := 0) (hi := 0) (by decide)) (rg_any _)) (rg_c (v := 5) (lo := 5) (hi := 5) (by decide))) (by decide)) (oh_rgA (Eq.trans (f_92.1 10 rfl (by decide)) (Eq.trans (f_85.1 10 rfl (by decide)) (Eq.trans (f_45.1 10 rfl (by decide)) (Eq.trans (f_38.1 10 rfl (by decide)) (Eq.trans (f_31.1 10 rfl (by decide)) (Eq.trans (f_24.1 10 rfl (by decide)) (Eq.trans (f_17.1 10 rfl (by decide)) (Eq.trans (f_10.1 10 rfl (by decide)) (f_4.1 10 rfl (by decide)))))))))) (rg_w (lo := 0) (hi := 15) (rn_ltu (u' := 15) s_111 (tA_rdc (lo := 0) (hi := 16) (tX_10 hT0) (rg_in (rg_c (v := 1) (lo := 1) (hi := 1) (by decide)) (by decide)) (show _ = 1 by decide) (by decide)) (rg_c (v := 16) (lo := 16) (hi := 16) (by decide)) (by decide)) (by decide)))) (cwV 5 htg (oh_gV q_631 q_433 q_434 q_67 q_435) rfl rfl rfl pdVX0_addBridge ⟨Nat.le_of_ble_eq_true rfl, Nat.le_of_ble_eq_true rfl⟩) hK hP hD hG hS hA (va_recv hK hP (ci := 0) (q0 := 1) rfl (oh_wg (by decide) (sX_1 hT))) rfl hl.1 rfl (Nat.le_of_ble_eq_true rfl) dX2_readBridge_136 ⟨Nat.le_of_ble_eq_true rfl, Nat.le_of_ble_eq_true rfl⟩ (fun r_112 C_113 H locs hq_114 hP hD hS => ?_)
      obtain ⟨hT, f_115, hq_114⟩ := hq_114
      have hF := fr_tr hF f_115 (by decide) (by decide)
      refine W.widen (k := 0) (n := 0) (Nat.le_refl _) (Nat.le_refl _) ?_
      have t_116 := hT
      refine lv_iload hx hb dX2_readBridge_139 (lv_at hl 1 rfl) ?_
      refine lv_iload hx hb dX2_readBridge_141 (lv_at hl 0 rfl) ?_
      refine tm_Vv (As := [.int r_112, .int r_82, .int r_89]) (rest := []) ⟨hx, hb, hml, hown, htg⟩ (e_X0_putProp l D E G _ a C_113 hT r_112 r_82 r_89 (rg_w hq_114.1 (by decide))) (cwV 3 htg (oh_gV q_632 q_441 q_442 q_67 q_443) rfl rfl rfl pdVX0_putProp ⟨Nat.le_of_ble_eq_true rfl, Nat.le_of_ble_eq_true rfl⟩) hK hP hD hG hS hA (va_recv hK hP (ci := 0) (q0 := 1) rfl (oh_wg (by decide) (sX_1 hT))) rfl hl.1 rfl (Nat.le_of_ble_eq_true rfl) dX2_readBridge_143 ⟨Nat.le_of_ble_eq_true rfl, Nat.le_of_ble_eq_true rfl⟩ (fun C_118 H locs hq_119 hP hD hS => ?_)
      obtain ⟨hT, f_120, hq_119⟩ := hq_119
      have hF := fr_tr hF f_120 (by decide) (by decide)
      refine W.widen (k := 0) (n := 0) (Nat.le_refl _) (Nat.le_refl _) ?_
      have t_121 := hT
      have hw_123 := u_81
      rw [show ga (C_36 32) = ga (C 32) from congrArg ga (Eq.trans (f_38.1 32 rfl (by decide)) (Eq.trans (f_31.1 32 rfl (by decide)) (Eq.trans (f_24.1 32 rfl (by decide)) (Eq.trans (f_17.1 32 rfl (by decide)) (Eq.trans (f_10.1 32 rfl (by decide)) (f_4.1 32 rfl (by decide)))))))] at hw_123
      have mk_122 := (xBridge_mk ep_6 er_12 ep_13 er_19 ep_20 er_26 ep_27 er_33 ep_34 er_40 ep_41 (xProp_1 hw_123 ep_47 er_87 ep_88 er_94 ep_95))
      have hc_124 := hq_114.2.2.1
      have hr_125 := hq_114.2.2.2
      rw [show C_90 10 = C 10 from (Eq.trans (f_92.1 10 rfl (by decide)) (Eq.trans (f_85.1 10 rfl (by decide)) (Eq.trans (f_45.1 10 rfl (by decide)) (Eq.trans (f_38.1 10 rfl (by decide)) (Eq.trans (f_31.1 10 rfl (by decide)) (Eq.trans (f_24.1 10 rfl (by decide)) (Eq.trans (f_17.1 10 rfl (by decide)) (Eq.trans (f_10.1 10 rfl (by decide)) (f_4.1 10 rfl (by decide))))))))))] at hc_124 hr_125
      rw [show C_90 12 = C 12 from (Eq.trans (f_92.1 12 rfl (by decide)) (Eq.trans (f_85.1 12 rfl (by decide)) (Eq.trans (f_45.1 12 rfl (by decide)) (Eq.trans (f_38.1 12 rfl (by decide)) (Eq.trans (f_31.1 12 rfl (by decide)) (Eq.trans (f_24.1 12 rfl (by decide)) (Eq.trans (f_17.1 12 rfl (by decide)) (Eq.trans (f_10.1 12 rfl (by decide)) (f_4.1 12 rfl (by decide))))))))))] at hr_125
      have hp_126 := hq_119
      have eb_127 := hq_114.2.1
      rw [show C_90 10 = C 10 from (Eq.trans (f_92.1 10 rfl (by decide)) (Eq.trans (f_85.1 10 rfl (by decide)) (Eq.trans (f_45.1 10 rfl (by decide)) (Eq.trans (f_38.1 10 rfl (by decide)) (Eq.trans (f_31.1 10 rfl (by decide)) (Eq.trans (f_24.1 10 rfl (by decide)) (Eq.trans (f_17.1 10 rfl (by decide)) (Eq.trans (f_10.1 10 rfl (by decide)) (f_4.1 10 rfl (by decide))))))))))] at eb_127
      have i_128 := rgB1 hT0
      rw [eb_127, oh_rix (w := 10) (j := 5) i_128 rfl rfl (by decide), oh_rix (w := 10) (j := 6) i_128 rfl rfl (by decide)] at hp_126
      rw [hQ]
      exact W.vret hx hb hr (fun t ht hW => ⟨⟨C_118, rfl, ⟨hT, hF, ⟨(Eq.trans (px_c (Eq.trans (f_120.1 5 rfl (by decide)) (f_115.1 5 rfl (by decide)))) (congrArg (fun z => z.2) mk_122).symm), (fun _ => ⟨Eq.trans (congrArg ga ((f_120.1 10 rfl (by decide)) : C_118 10 = C_113 10)) hc_124, by rw [mk_122, hp_126]; exact rowPt_2 hr_125 (by decide) (by decide) (by decide) rfl rfl (fun j hj q1 q2 => rwfp hj q1 q2)⟩), (fun h8 => absurd (Eq.trans (Eq.trans (congrArg (fun z => gi z 2) (f_120.1 5 rfl (by decide))) (congrArg (fun z => gi z 2) (f_115.1 5 rfl (by decide)))) u_102) h8)⟩⟩, ⟨by rw [ht]; exact hP, hD⟩⟩, hS.F ht⟩) hS.2.2 dX2_readBridge_146

set_option maxHeartbeats 4000000 in
set_option maxRecDepth 100000 in
theorem e_X2_readWaggon (l : Launch) (D : va_G) (E : Nat → ClassId) (G : Nat → Nat) (sz : Nat) (a : Nat → Nat) (C : Nat → va_E) (hT : TyX a E C) : Met l yX2_readWaggon (oh_w yX2_readWaggon cX2_readWaggon 4 none) ({ frames := 7, cells := 0, slots := 0, locals := 151 }) (oh_Pm D E G [.ref (a 6)] (oh_W 35 a C) sz) (va_Qv (fun (u : Nat → va_E) => TyX a E u ∧ fr [(5, 6), (10, 11), (13, 14)] [] C u ∧ (px u = (xWag (ga (C 32)) (ga (C 10) ((2 : Int32)).toNatClampNeg < oh_room ((2 : Int32)).toNatClampNeg) (px C)).2) ∧ (gi (u 5) 2 = -1 → ga (u 10) = upd (ga (C 10)) ((2 : Int32)).toNatClampNeg (ga (C 10) ((2 : Int32)).toNatClampNeg + 1) ∧ rowPt 3 (ga (C 10) ((2 : Int32)).toNatClampNeg).toNatClampNeg 3 (xWag (ga (C 32)) (ga (C 10) ((2 : Int32)).toNatClampNeg < oh_room ((2 : Int32)).toNatClampNeg) (px C)).1 (ga (C 13)) (ga (u 13))) ∧ (¬ gi (u 5) 2 = -1 → u 10 = C 10 ∧ u 13 = C 13)) (oh_B D (va_A (oh_W 35 a C) sz) (fun u => oh_W 35 a u)) (va_A (oh_W 35 a C) sz)) 0 0 (va_A (oh_W 35 a C) sz) := by
  refine Met.ofW (cc := cX2_readWaggon) (maxL := 4) (ret := none) (by decide) rfl ?_
  intro p e s m args below meth c s₁ B hml hv
  obtain ⟨rfl, hsz, hP, hK, hD0, hG⟩ := hv
  have hx := B.exec
  have hb := B.bytes
  have hr := B.returns
  have hts := atoms_spec (ws := (oh_w yX2_readWaggon cX2_readWaggon 4 none)) B.pre
  have htg : ∀ w ∈ oh_t, w.before _ s = true := fun w h => hts w (List.mem_cons_of_mem _ h)
  have hown : s.vm.findClass RX2 = some m.cls := findClass_of_methodNamed B.named
  have hlocks := B.notSynchronized
  have hT0 := hT
  subst hsz
  have hD := hD0.self (sz := s.heap.size)
  generalize hAe : va_A (oh_W 35 a C) s.heap.size = A at hD hG ⊢
  have hA : ∀ q : Nat, s.heap.size ≤ q → A q := fun q h => by rw [← hAe]; exact Or.inr h
  have hS : va_S A s.heap s.heap [] := va_S.rf
  have hF : fr [(5, 6), (10, 11), (13, 14)] [] C C := fr_rf
  have hl := lv_entry ([.ref (a 6)]) (n := 4) (Nat.le_of_ble_eq_true rfl)
  rw [lg_entry_eq]
  generalize (lg_sl ([.ref (a 6)]) ++ List.replicate (4 - (lg_sl ([.ref (a 6)])).length) Slot.unset).toArray = ls at hl ⊢
  have hl : lv_has ls 4 [(0, .ref (a 6))] := hl
  refine oh_genQ (fun Q hQ => ?_)
  refine lv_aload_n hx hb dX2_readWaggon_0 rfl (lv_at hl 0 rfl) ?_
  refine lv_iconst (v := 2) hx hb dX2_readWaggon_1 (by decide) ?_
  refine tm_Vv (As := [.int 2]) (rest := []) ⟨hx, hb, hml, hown, htg⟩ (e_X2_enter l D E G _ a C hT (2 : Int32) (rg_w (rg_c (v := 2) (lo := 2) (hi := 2) (by decide)) (by decide))) (cwV 1 htg (oh_gV q_573 q_575 q_8 q_72 q_576) rfl rfl rfl pdVX2_enter ⟨Nat.le_of_ble_eq_true rfl, Nat.le_of_ble_eq_true rfl⟩) hK hP hD hG hS hA (va_recv hK hP (ci := 2) (q0 := 6) rfl (oh_wg (by decide) (sX_6 hT))) rfl hl.1 rfl (Nat.le_of_ble_eq_true rfl) dX2_readWaggon_2 ⟨Nat.le_of_ble_eq_true rfl, Nat.le_of_ble_eq_true rfl⟩ (fun C_2 H locs hq_3 hP hD hS => ?_)
  obtain ⟨hT, f_4, hq_3⟩ := hq_3
  have hF := fr_tr hF f_4 (by decide) (by decide)
  refine W.widen (k := 0) (n := 0) (Nat.le_refl _) (Nat.le_refl _) ?_
  have t_5 := hT
  have ep_6 := hq_3.2.2
  refine lv_aload_n hx hb dX2_readWaggon_5 rfl (lv_at hl 0 rfl) ?_
  refine va_get (D := D) (ci := 2) (v := .ref (a 5)) (C := RX2) (T := TX2) (N := 4) hx hb htg ig_2 hown hK hP 6 (oh_wg (by decide) (sX_6 hT)) rfl 0 (by decide) (htg _ q_245) (fun _ h9 => h9) rfl dX2_readWaggon_6 ?_
  refine lv_iconst (v := 2) hx hb dX2_readWaggon_9 (by decide) ?_
  refine lv_bipush (v := 12) hx hb dX2_readWaggon_10 (by decide) ?_
  refine tm_V (As := [.int 2, .int 12]) (rest := []) ⟨hx, hb, hml, hown, htg⟩ (e_X4_takeNumber l D E G _ a C_2 hT (2 : Int32) (12 : Int32)) (cwV 2 htg (oh_gV q_583 q_584 q_585 q_71 q_586) rfl rfl rfl pdVX4_takeNumber ⟨Nat.le_of_ble_eq_true rfl, Nat.le_of_ble_eq_true rfl⟩) hK hP hD hG hS hA (va_recv hK hP (ci := 4) (q0 := 5) rfl (oh_wg (by decide) (sX_5 hT))) rfl hl.1 rfl (Nat.le_of_ble_eq_true rfl) dX2_readWaggon_12 ⟨Nat.le_of_ble_eq_true rfl, Nat.le_of_ble_eq_true rfl⟩ (fun r_7 C_8 H locs hq_9 hP hD hS => ?_)
  obtain ⟨hT, f_10, hq_9⟩ := hq_9
  have hF := fr_tr hF f_10 (by decide) (by decide)
  refine W.widen (k := 0) (n := 0) (Nat.le_refl _) (Nat.le_refl _) ?_
  have t_11 := hT
  have er_12 := hq_9.2.2.1
  rw [show ga (C_2 32) = ga (C 32) from congrArg ga (f_4.1 32 rfl (by decide))] at er_12
  have ep_13 := hq_9.2.2.2
  rw [show ga (C_2 32) = ga (C 32) from congrArg ga (f_4.1 32 rfl (by decide))] at ep_13
  refine lv_istore_n (lv' := [(1, .int r_7), (0, .ref (a 6))]) hx hb dX2_readWaggon_15 rfl hl (by decide) rfl (fun ls hl => ?_)
  refine lv_aload_n hx hb dX2_readWaggon_16 rfl (lv_at hl 1 rfl) ?_
  refine va_ldcS hx hb hown (hG.2.2.1 ("OneHeavyLoad$Reader", 155, "space", 15) (List.mem_of_getElem? (i := 12) rfl)) dX2_readWaggon_17 ?_
  refine lv_iconst (v := 1) hx hb dX2_readWaggon_19 (by decide) ?_
  refine lv_bipush (v := 9) hx hb dX2_readWaggon_20 (by decide) ?_
  refine tm_V (As := [.ref (G (3 + 12)), .int 1, .int 9]) (rest := []) ⟨hx, hb, hml, hown, htg⟩ (e_X2_number l D E G _ a C_8 hT 12 (1 : Int32) (9 : Int32) (by decide)) (cwV 3 htg (oh_gV q_599 q_601 q_9 q_72 q_602) rfl rfl rfl pdVX2_number ⟨Nat.le_of_ble_eq_true rfl, Nat.le_of_ble_eq_true rfl⟩) hK hP hD hG hS hA (va_recv hK hP (ci := 2) (q0 := 6) rfl (oh_wg (by decide) (sX_6 hT))) rfl hl.1 rfl (Nat.le_of_ble_eq_true rfl) dX2_readWaggon_22 ⟨Nat.le_of_ble_eq_true rfl, Nat.le_of_ble_eq_true rfl⟩ (fun r_14 C_15 H locs hq_16 hP hD hS => ?_)
  obtain ⟨hT, f_17, hq_16⟩ := hq_16
  have hF := fr_tr hF f_17 (by decide) (by decide)
  refine W.widen (k := 0) (n := 0) (Nat.le_refl _) (Nat.le_refl _) ?_
  have t_18 := hT
  have er_19 := hq_16.2.2.1
  rw [show ga (C_8 32) = ga (C 32) from congrArg ga (Eq.trans (f_10.1 32 rfl (by decide)) (f_4.1 32 rfl (by decide)))] at er_19
  have ep_20 := hq_16.2.2.2
  rw [show ga (C_8 32) = ga (C 32) from congrArg ga (Eq.trans (f_10.1 32 rfl (by decide)) (f_4.1 32 rfl (by decide)))] at ep_20
  refine lv_istore_n (lv' := [(2, .int r_14), (1, .int r_7), (0, .ref (a 6))]) hx hb dX2_readWaggon_25 rfl hl (by decide) rfl (fun ls hl => ?_)
  refine lv_aload_n hx hb dX2_readWaggon_26 rfl (lv_at hl 2 rfl) ?_
  refine va_ldcS hx hb hown (hG.2.2.1 ("OneHeavyLoad$Reader", 157, "tare", 16) (List.mem_of_getElem? (i := 13) rfl)) dX2_readWaggon_27 ?_
  refine lv_iconst (v := 0) hx hb dX2_readWaggon_29 (by decide) ?_
  refine lv_bipush (v := 99) hx hb dX2_readWaggon_30 (by decide) ?_
  refine tm_V (As := [.ref (G (3 + 13)), .int 0, .int 99]) (rest := []) ⟨hx, hb, hml, hown, htg⟩ (e_X2_number l D E G _ a C_15 hT 13 (0 : Int32) (99 : Int32) (by decide)) (cwV 3 htg (oh_gV q_599 q_601 q_9 q_72 q_602) rfl rfl rfl pdVX2_number ⟨Nat.le_of_ble_eq_true rfl, Nat.le_of_ble_eq_true rfl⟩) hK hP hD hG hS hA (va_recv hK hP (ci := 2) (q0 := 6) rfl (oh_wg (by decide) (sX_6 hT))) rfl hl.1 rfl (Nat.le_of_ble_eq_true rfl) dX2_readWaggon_32 ⟨Nat.le_of_ble_eq_true rfl, Nat.le_of_ble_eq_true rfl⟩ (fun r_21 C_22 H locs hq_23 hP hD hS => ?_)
  obtain ⟨hT, f_24, hq_23⟩ := hq_23
  have hF := fr_tr hF f_24 (by decide) (by decide)
  refine W.widen (k := 0) (n := 0) (Nat.le_refl _) (Nat.le_refl _) ?_
  have t_25 := hT
  have er_26 := hq_23.2.2.1
  rw [show ga (C_15 32) = ga (C 32) from congrArg ga (Eq.trans (f_17.1 32 rfl (by decide)) (Eq.trans (f_10.1 32 rfl (by decide)) (f_4.1 32 rfl (by decide))))] at er_26
  have ep_27 := hq_23.2.2.2
  rw [show ga (C_15 32) = ga (C 32) from congrArg ga (Eq.trans (f_17.1 32 rfl (by decide)) (Eq.trans (f_10.1 32 rfl (by decide)) (f_4.1 32 rfl (by decide))))] at ep_27
  refine lv_istore_n (lv' := [(3, .int r_21), (2, .int r_14), (1, .int r_7), (0, .ref (a 6))]) hx hb dX2_readWaggon_35 rfl hl (by decide) rfl (fun ls hl => ?_)
  refine lv_aload_n hx hb dX2_readWaggon_36 rfl (lv_at hl 3 rfl) ?_
  refine va_get (D := D) (ci := 2) (v := .ref (a 5)) (C := RX2) (T := TX2) (N := 4) hx hb htg ig_2 hown hK hP 6 (oh_wg (by decide) (sX_6 hT)) rfl 0 (by decide) (htg _ q_245) (fun _ h9 => h9) rfl dX2_readWaggon_37 ?_
  refine tq_V (As := []) (rest := []) (ws := (oh_W 35 a C_22)) ⟨hx, hb, hml, hown, htg⟩ (e_X4_isSound l D E G a C_22 hT) (cwV 0 htg (oh_gV q_619 q_592 q_593 q_71 q_594) rfl rfl rfl pdVX4_isSound ⟨Nat.le_of_ble_eq_true rfl, Nat.le_of_ble_eq_true rfl⟩) hK hP hG hS (va_recv hK hP (ci := 4) (q0 := 5) rfl (oh_wg (by decide) (sX_5 hT))) rfl hl.1 rfl (Nat.le_of_ble_eq_true rfl) dX2_readWaggon_40 ⟨Nat.le_of_ble_eq_true rfl, Nat.le_of_ble_eq_true rfl⟩ (fun r_28 hq_29 => ?_)
  refine lv_if_eq (tgt := 57) hx hb dX2_readWaggon_43 (by decide) (fun (c_30 : r_28 = 0) => ?_) (fun (c_30 : ¬ (r_28 = 0)) => ?_)
  · have u_31 := hq_29.2.2 c_30
    have mk_32 := (xWag_mk ep_6 er_12 ep_13 er_19 ep_20 er_26 ep_27)
    rw [hQ]
    exact W.vret hx hb hr (fun t ht hW => ⟨⟨C_22, rfl, ⟨hT, hF, ⟨(Eq.trans rfl (congrArg (fun z => z.2) mk_32).symm), (fun h8 => absurd h8 u_31), (fun _ => ⟨(Eq.trans (f_24.1 10 rfl (by decide)) (Eq.trans (f_17.1 10 rfl (by decide)) (Eq.trans (f_10.1 10 rfl (by decide)) (f_4.1 10 rfl (by decide))))), (Eq.trans (f_24.1 13 rfl (by decide)) (Eq.trans (f_17.1 13 rfl (by decide)) (Eq.trans (f_10.1 13 rfl (by decide)) (f_4.1 13 rfl (by decide)))))⟩)⟩⟩, ⟨by rw [ht]; exact hP, hD⟩⟩, hS.F ht⟩) hS.2.2 dX2_readWaggon_57
  · have u_33 := hq_29.2.1 c_30
    have s_34 := u_33
    have s_35 := hq_23.2.1 s_34
    have s_36 := hq_16.2.1 (hq_23.1 s_34)
    have s_37 := hq_9.2.1 (hq_16.1 (hq_23.1 s_34))
    have s_38 : ga (C 10) ((2 : Int32)).toNatClampNeg < (5 : Int32) := hq_3.2.1 (hq_9.1 (hq_16.1 (hq_23.1 s_34)))
    refine lv_aload_n hx hb dX2_readWaggon_46 rfl (lv_at hl 3 rfl) ?_
    refine va_get (D := D) (ci := 2) (v := .ref (a 1)) (C := RX2) (T := TX2) (N := 4) hx hb htg ig_2 hown hK hP 6 (oh_wg (by decide) (sX_6 hT)) rfl 1 (by decide) (htg _ q_246) (fun _ h9 => h9) rfl dX2_readWaggon_47 ?_
    refine lv_iload_n hx hb dX2_readWaggon_50 rfl (lv_at hl 2 rfl) ?_
    refine lv_iload_n hx hb dX2_readWaggon_51 rfl (lv_at hl 1 rfl) ?_
    refine lv_iload_n hx hb dX2_readWaggon_52 rfl (lv_at hl 0 rfl) ?_
    refine tm_V (As := [.int r_7, .int r_14, .int r_21]) (rest := []) ⟨hx, hb, hml, hown, htg⟩ (e_X0_addWaggon l D E G _ a C_22 hT r_7 r_14 r_21 (oh_rgA (Eq.trans (f_24.1 10 rfl (by decide)) (Eq.trans (f_17.1 10 rfl (by decide)) (Eq.trans (f_10.1 10 rfl (by decide)) (f_4.1 10 rfl (by decide))))) (rg_w (lo := 0) (hi := 4) (rn_ltu (u' := 4) s_38 (tA_rdc (lo := 0) (hi := 5) (tX_10 hT0) (rg_in (rg_c (v := 2) (lo := 2) (hi := 2) (by decide)) (by decide)) (show _ = 2 by decide) (by decide)) (rg_c (v := 5) (lo := 5) (hi := 5) (by decide)) (by decide)) (by decide)))) (cwV 3 htg (oh_gV q_640 q_453 q_454 q_67 q_455) rfl rfl rfl pdVX0_addWaggon ⟨Nat.le_of_ble_eq_true rfl, Nat.le_of_ble_eq_true rfl⟩) hK hP hD hG hS hA (va_recv hK hP (ci := 0) (q0 := 1) rfl (oh_wg (by decide) (sX_1 hT))) rfl hl.1 rfl (Nat.le_of_ble_eq_true rfl) dX2_readWaggon_53 ⟨Nat.le_of_ble_eq_true rfl, Nat.le_of_ble_eq_true rfl⟩ (fun r_39 C_40 H locs hq_41 hP hD hS => ?_)
    obtain ⟨hT, f_42, hq_41⟩ := hq_41
    have hF := fr_tr hF f_42 (by decide) (by decide)
    refine W.widen (k := 0) (n := 0) (Nat.le_refl _) (Nat.le_refl _) ?_
    have t_43 := hT
    refine lv_pop hx hb dX2_readWaggon_56 rfl ?_
    have mk_44 := (xWag_mk ep_6 er_12 ep_13 er_19 ep_20 er_26 ep_27)
    have hc_45 := hq_41.2.1
    have hr_46 := hq_41.2.2
    rw [show C_22 10 = C 10 from (Eq.trans (f_24.1 10 rfl (by decide)) (Eq.trans (f_17.1 10 rfl (by decide)) (Eq.trans (f_10.1 10 rfl (by decide)) (f_4.1 10 rfl (by decide)))))] at hc_45 hr_46
    rw [show C_22 13 = C 13 from (Eq.trans (f_24.1 13 rfl (by decide)) (Eq.trans (f_17.1 13 rfl (by decide)) (Eq.trans (f_10.1 13 rfl (by decide)) (f_4.1 13 rfl (by decide)))))] at hr_46
    rw [hQ]
    exact W.vret hx hb hr (fun t ht hW => ⟨⟨C_40, rfl, ⟨hT, hF, ⟨(Eq.trans (px_c (f_42.1 5 rfl (by decide))) (congrArg (fun z => z.2) mk_44).symm), (fun _ => ⟨hc_45, by rw [mk_44]; exact hr_46⟩), (fun h8 => absurd (Eq.trans (congrArg (fun z => gi z 2) (f_42.1 5 rfl (by decide))) u_33) h8)⟩⟩, ⟨by rw [ht]; exact hP, hD⟩⟩, hS.F ht⟩) hS.2.2 dX2_readWaggon_57

set_option maxHeartbeats 4000000 in
set_option maxRecDepth 100000 in
theorem e_X2_readPart (l : Launch) (D : va_G) (E : Nat → ClassId) (G : Nat → Nat) (sz : Nat) (a : Nat → Nat) (C : Nat → va_E) (hT : TyX a E C) : Met l yX2_readPart (oh_w yX2_readPart cX2_readPart 3 none) ({ frames := 2, cells := 0, slots := 0, locals := 45 }) (oh_Pm D E G [.ref (a 6)] (oh_W 35 a C) sz) (va_Qv (fun (u : Nat → va_E) => TyX a E u ∧ fr [(5, 6), (10, 11), (14, 15)] [] C u ∧ (px u = (xPart (ga (C 32)) (ga (C 10) ((3 : Int32)).toNatClampNeg < oh_room ((3 : Int32)).toNatClampNeg) (px C)).2) ∧ (gi (u 5) 2 = -1 → ga (u 10) = upd (ga (C 10)) ((3 : Int32)).toNatClampNeg (ga (C 10) ((3 : Int32)).toNatClampNeg + 1) ∧ rowPt 2 (ga (C 10) ((3 : Int32)).toNatClampNeg).toNatClampNeg 2 (xPart (ga (C 32)) (ga (C 10) ((3 : Int32)).toNatClampNeg < oh_room ((3 : Int32)).toNatClampNeg) (px C)).1 (ga (C 14)) (ga (u 14))) ∧ (¬ gi (u 5) 2 = -1 → u 10 = C 10 ∧ u 14 = C 14)) (oh_B D (va_A (oh_W 35 a C) sz) (fun u => oh_W 35 a u)) (va_A (oh_W 35 a C) sz)) 0 0 (va_A (oh_W 35 a C) sz) := by
  refine Met.ofW (cc := cX2_readPart) (maxL := 3) (ret := none) (by decide) rfl ?_
  intro p e s m args below meth c s₁ B hml hv
  obtain ⟨rfl, hsz, hP, hK, hD0, hG⟩ := hv
  have hx := B.exec
  have hb := B.bytes
  have hr := B.returns
  have hts := atoms_spec (ws := (oh_w yX2_readPart cX2_readPart 3 none)) B.pre
  have htg : ∀ w ∈ oh_t, w.before _ s = true := fun w h => hts w (List.mem_cons_of_mem _ h)
  have hown : s.vm.findClass RX2 = some m.cls := findClass_of_methodNamed B.named
  have hlocks := B.notSynchronized
  have hT0 := hT
  subst hsz
  have hD := hD0.self (sz := s.heap.size)
  generalize hAe : va_A (oh_W 35 a C) s.heap.size = A at hD hG ⊢
  have hA : ∀ q : Nat, s.heap.size ≤ q → A q := fun q h => by rw [← hAe]; exact Or.inr h
  have hS : va_S A s.heap s.heap [] := va_S.rf
  have hF : fr [(5, 6), (10, 11), (14, 15)] [] C C := fr_rf
  have hl := lv_entry ([.ref (a 6)]) (n := 3) (Nat.le_of_ble_eq_true rfl)
  rw [lg_entry_eq]
  generalize (lg_sl ([.ref (a 6)]) ++ List.replicate (3 - (lg_sl ([.ref (a 6)])).length) Slot.unset).toArray = ls at hl ⊢
  have hl : lv_has ls 3 [(0, .ref (a 6))] := hl
  refine oh_genQ (fun Q hQ => ?_)
  refine lv_aload_n hx hb dX2_readPart_0 rfl (lv_at hl 0 rfl) ?_
  refine lv_iconst (v := 3) hx hb dX2_readPart_1 (by decide) ?_
  refine tm_Vv (As := [.int 3]) (rest := []) ⟨hx, hb, hml, hown, htg⟩ (e_X2_enter l D E G _ a C hT (3 : Int32) (rg_w (rg_c (v := 3) (lo := 3) (hi := 3) (by decide)) (by decide))) (cwV 1 htg (oh_gV q_573 q_575 q_8 q_72 q_576) rfl rfl rfl pdVX2_enter ⟨Nat.le_of_ble_eq_true rfl, Nat.le_of_ble_eq_true rfl⟩) hK hP hD hG hS hA (va_recv hK hP (ci := 2) (q0 := 6) rfl (oh_wg (by decide) (sX_6 hT))) rfl hl.1 rfl (Nat.le_of_ble_eq_true rfl) dX2_readPart_2 ⟨Nat.le_of_ble_eq_true rfl, Nat.le_of_ble_eq_true rfl⟩ (fun C_2 H locs hq_3 hP hD hS => ?_)
  obtain ⟨hT, f_4, hq_3⟩ := hq_3
  have hF := fr_tr hF f_4 (by decide) (by decide)
  refine W.widen (k := 0) (n := 0) (Nat.le_refl _) (Nat.le_refl _) ?_
  have t_5 := hT
  have ep_6 := hq_3.2.2
  refine lv_aload_n hx hb dX2_readPart_5 rfl (lv_at hl 0 rfl) ?_
  refine va_get (D := D) (ci := 2) (v := .ref (a 5)) (C := RX2) (T := TX2) (N := 4) hx hb htg ig_2 hown hK hP 6 (oh_wg (by decide) (sX_6 hT)) rfl 0 (by decide) (htg _ q_245) (fun _ h9 => h9) rfl dX2_readPart_6 ?_
  refine lv_iconst (v := 1) hx hb dX2_readPart_9 (by decide) ?_
  refine lv_bipush (v := 99) hx hb dX2_readPart_10 (by decide) ?_
  refine tm_V (As := [.int 1, .int 99]) (rest := []) ⟨hx, hb, hml, hown, htg⟩ (e_X4_takeNumber l D E G _ a C_2 hT (1 : Int32) (99 : Int32)) (cwV 2 htg (oh_gV q_583 q_584 q_585 q_71 q_586) rfl rfl rfl pdVX4_takeNumber ⟨Nat.le_of_ble_eq_true rfl, Nat.le_of_ble_eq_true rfl⟩) hK hP hD hG hS hA (va_recv hK hP (ci := 4) (q0 := 5) rfl (oh_wg (by decide) (sX_5 hT))) rfl hl.1 rfl (Nat.le_of_ble_eq_true rfl) dX2_readPart_12 ⟨Nat.le_of_ble_eq_true rfl, Nat.le_of_ble_eq_true rfl⟩ (fun r_7 C_8 H locs hq_9 hP hD hS => ?_)
  obtain ⟨hT, f_10, hq_9⟩ := hq_9
  have hF := fr_tr hF f_10 (by decide) (by decide)
  refine W.widen (k := 0) (n := 0) (Nat.le_refl _) (Nat.le_refl _) ?_
  have t_11 := hT
  have er_12 := hq_9.2.2.1
  rw [show ga (C_2 32) = ga (C 32) from congrArg ga (f_4.1 32 rfl (by decide))] at er_12
  have ep_13 := hq_9.2.2.2
  rw [show ga (C_2 32) = ga (C 32) from congrArg ga (f_4.1 32 rfl (by decide))] at ep_13
  refine lv_istore_n (lv' := [(1, .int r_7), (0, .ref (a 6))]) hx hb dX2_readPart_15 rfl hl (by decide) rfl (fun ls hl => ?_)
  refine lv_aload_n hx hb dX2_readPart_16 rfl (lv_at hl 1 rfl) ?_
  refine va_get (D := D) (ci := 2) (v := .ref (a 5)) (C := RX2) (T := TX2) (N := 4) hx hb htg ig_2 hown hK hP 6 (oh_wg (by decide) (sX_6 hT)) rfl 0 (by decide) (htg _ q_245) (fun _ h9 => h9) rfl dX2_readPart_17 ?_
  refine lv_iconst (v := 0) hx hb dX2_readPart_20 (by decide) ?_
  refine lv_bipush (v := 99) hx hb dX2_readPart_21 (by decide) ?_
  refine tm_V (As := [.int 0, .int 99]) (rest := []) ⟨hx, hb, hml, hown, htg⟩ (e_X4_takeNumber l D E G _ a C_8 hT (0 : Int32) (99 : Int32)) (cwV 2 htg (oh_gV q_583 q_584 q_585 q_71 q_586) rfl rfl rfl pdVX4_takeNumber ⟨Nat.le_of_ble_eq_true rfl, Nat.le_of_ble_eq_true rfl⟩) hK hP hD hG hS hA (va_recv hK hP (ci := 4) (q0 := 5) rfl (oh_wg (by decide) (sX_5 hT))) rfl hl.1 rfl (Nat.le_of_ble_eq_true rfl) dX2_readPart_23 ⟨Nat.le_of_ble_eq_true rfl, Nat.le_of_ble_eq_true rfl⟩ (fun r_14 C_15 H locs hq_16 hP hD hS => ?_)
  obtain ⟨hT, f_17, hq_16⟩ := hq_16
  have hF := fr_tr hF f_17 (by decide) (by decide)
  refine W.widen (k := 0) (n := 0) (Nat.le_refl _) (Nat.le_refl _) ?_
  have t_18 := hT
  have er_19 := hq_16.2.2.1
  rw [show ga (C_8 32) = ga (C 32) from congrArg ga (Eq.trans (f_10.1 32 rfl (by decide)) (f_4.1 32 rfl (by decide)))] at er_19
  have ep_20 := hq_16.2.2.2
  rw [show ga (C_8 32) = ga (C 32) from congrArg ga (Eq.trans (f_10.1 32 rfl (by decide)) (f_4.1 32 rfl (by decide)))] at ep_20
  refine lv_istore_n (lv' := [(2, .int r_14), (1, .int r_7), (0, .ref (a 6))]) hx hb dX2_readPart_26 rfl hl (by decide) rfl (fun ls hl => ?_)
  refine lv_aload_n hx hb dX2_readPart_27 rfl (lv_at hl 2 rfl) ?_
  refine va_get (D := D) (ci := 2) (v := .ref (a 5)) (C := RX2) (T := TX2) (N := 4) hx hb htg ig_2 hown hK hP 6 (oh_wg (by decide) (sX_6 hT)) rfl 0 (by decide) (htg _ q_245) (fun _ h9 => h9) rfl dX2_readPart_28 ?_
  refine tq_V (As := []) (rest := []) (ws := (oh_W 35 a C_15)) ⟨hx, hb, hml, hown, htg⟩ (e_X4_isSound l D E G a C_15 hT) (cwV 0 htg (oh_gV q_619 q_592 q_593 q_71 q_594) rfl rfl rfl pdVX4_isSound ⟨Nat.le_of_ble_eq_true rfl, Nat.le_of_ble_eq_true rfl⟩) hK hP hG hS (va_recv hK hP (ci := 4) (q0 := 5) rfl (oh_wg (by decide) (sX_5 hT))) rfl hl.1 rfl (Nat.le_of_ble_eq_true rfl) dX2_readPart_31 ⟨Nat.le_of_ble_eq_true rfl, Nat.le_of_ble_eq_true rfl⟩ (fun r_21 hq_22 => ?_)
  refine lv_if_eq (tgt := 47) hx hb dX2_readPart_34 (by decide) (fun (c_23 : r_21 = 0) => ?_) (fun (c_23 : ¬ (r_21 = 0)) => ?_)
  · have u_24 := hq_22.2.2 c_23
    have mk_25 := (xPart_mk ep_6 er_12 ep_13 er_19 ep_20)
    rw [hQ]
    exact W.vret hx hb hr (fun t ht hW => ⟨⟨C_15, rfl, ⟨hT, hF, ⟨(Eq.trans rfl (congrArg (fun z => z.2) mk_25).symm), (fun h8 => absurd h8 u_24), (fun _ => ⟨(Eq.trans (f_17.1 10 rfl (by decide)) (Eq.trans (f_10.1 10 rfl (by decide)) (f_4.1 10 rfl (by decide)))), (Eq.trans (f_17.1 14 rfl (by decide)) (Eq.trans (f_10.1 14 rfl (by decide)) (f_4.1 14 rfl (by decide))))⟩)⟩⟩, ⟨by rw [ht]; exact hP, hD⟩⟩, hS.F ht⟩) hS.2.2 dX2_readPart_47
  · have u_26 := hq_22.2.1 c_23
    have s_27 := u_26
    have s_28 := hq_16.2.1 s_27
    have s_29 := hq_9.2.1 (hq_16.1 s_27)
    have s_30 : ga (C 10) ((3 : Int32)).toNatClampNeg < (5 : Int32) := hq_3.2.1 (hq_9.1 (hq_16.1 s_27))
    refine lv_aload_n hx hb dX2_readPart_37 rfl (lv_at hl 2 rfl) ?_
    refine va_get (D := D) (ci := 2) (v := .ref (a 1)) (C := RX2) (T := TX2) (N := 4) hx hb htg ig_2 hown hK hP 6 (oh_wg (by decide) (sX_6 hT)) rfl 1 (by decide) (htg _ q_246) (fun _ h9 => h9) rfl dX2_readPart_38 ?_
    refine lv_iload_n hx hb dX2_readPart_41 rfl (lv_at hl 1 rfl) ?_
    refine lv_iload_n hx hb dX2_readPart_42 rfl (lv_at hl 0 rfl) ?_
    refine tm_V (As := [.int r_7, .int r_14]) (rest := []) ⟨hx, hb, hml, hown, htg⟩ (e_X0_addPart l D E G _ a C_15 hT r_7 r_14 (oh_rgA (Eq.trans (f_17.1 10 rfl (by decide)) (Eq.trans (f_10.1 10 rfl (by decide)) (f_4.1 10 rfl (by decide)))) (rg_w (lo := 0) (hi := 4) (rn_ltu (u' := 4) s_30 (tA_rdc (lo := 0) (hi := 5) (tX_10 hT0) (rg_in (rg_c (v := 3) (lo := 3) (hi := 3) (by decide)) (by decide)) (show _ = 3 by decide) (by decide)) (rg_c (v := 5) (lo := 5) (hi := 5) (by decide)) (by decide)) (by decide)))) (cwV 2 htg (oh_gV q_646 q_461 q_462 q_67 q_463) rfl rfl rfl pdVX0_addPart ⟨Nat.le_of_ble_eq_true rfl, Nat.le_of_ble_eq_true rfl⟩) hK hP hD hG hS hA (va_recv hK hP (ci := 0) (q0 := 1) rfl (oh_wg (by decide) (sX_1 hT))) rfl hl.1 rfl (Nat.le_of_ble_eq_true rfl) dX2_readPart_43 ⟨Nat.le_of_ble_eq_true rfl, Nat.le_of_ble_eq_true rfl⟩ (fun r_31 C_32 H locs hq_33 hP hD hS => ?_)
    obtain ⟨hT, f_34, hq_33⟩ := hq_33
    have hF := fr_tr hF f_34 (by decide) (by decide)
    refine W.widen (k := 0) (n := 0) (Nat.le_refl _) (Nat.le_refl _) ?_
    have t_35 := hT
    refine lv_pop hx hb dX2_readPart_46 rfl ?_
    have mk_36 := (xPart_mk ep_6 er_12 ep_13 er_19 ep_20)
    have hc_37 := hq_33.2.1
    have hr_38 := hq_33.2.2
    rw [show C_15 10 = C 10 from (Eq.trans (f_17.1 10 rfl (by decide)) (Eq.trans (f_10.1 10 rfl (by decide)) (f_4.1 10 rfl (by decide))))] at hc_37 hr_38
    rw [show C_15 14 = C 14 from (Eq.trans (f_17.1 14 rfl (by decide)) (Eq.trans (f_10.1 14 rfl (by decide)) (f_4.1 14 rfl (by decide))))] at hr_38
    rw [hQ]
    exact W.vret hx hb hr (fun t ht hW => ⟨⟨C_32, rfl, ⟨hT, hF, ⟨(Eq.trans (px_c (f_34.1 5 rfl (by decide))) (congrArg (fun z => z.2) mk_36).symm), (fun _ => ⟨hc_37, by rw [mk_36]; exact hr_38⟩), (fun h8 => absurd (Eq.trans (congrArg (fun z => gi z 2) (f_34.1 5 rfl (by decide))) u_26) h8)⟩⟩, ⟨by rw [ht]; exact hP, hD⟩⟩, hS.F ht⟩) hS.2.2 dX2_readPart_47
