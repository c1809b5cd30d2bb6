/-! EXACT: a pack's weight on an axle, on a bridge -/
noncomputable def sumA (A : LA) (set : Int32) (col : Nat) : Nat → Int32
  | 0 => 0
  | k + 1 => sumA A set col k + pif ((set >>> (Int32.ofNat k &&& 31)) &&& 1 = 0) 0 (A 3 k col)
def rndUp (v b : Int32) : Int32 := if (0 : Int32) < b then (v + b - 1) / b else 0
def cutBy (v b : Int32) : Int32 := if (0 : Int32) < b then v / b else 0
def aLoad (ax tare wt sum : Int32) : Int32 := rndUp (if tare + wt - sum < 0 then 0 else tare + wt - sum) ax
noncomputable def aL (A : LA) (w s : Int32) : Int32 := aLoad (A 2 w.toNatClampNeg 0) (A 2 w.toNatClampNeg 2) (A 4 0 0) (sumA A s 0 (A 5 0 3).toNatClampNeg)
noncomputable def spAxle (A : LA) (w s : Int32) : Int32 := pif (okPk (A 5 0 2) (A 5 0 3) w s) (aL A w s) (-2)
noncomputable def stOn (A : LA) (w s b : Int32) : Int32 := (if cutBy (A 1 b.toNatClampNeg 2) (A 2 w.toNatClampNeg 1) + 1 < A 2 w.toNatClampNeg 0 then cutBy (A 1 b.toNatClampNeg 2) (A 2 w.toNatClampNeg 1) + 1 else A 2 w.toNatClampNeg 0) * aL A w s
noncomputable def spStrain (A : LA) (w s b : Int32) : Int32 := pif (okPk (A 5 0 2) (A 5 0 3) w s ∧ (0 ≤ b ∧ b < A 5 0 1)) (stOn A w s b) (-2)
theorem oh_bit (x : Int32) : x &&& 1 = 0 ∨ x &&& 1 = 1 := by
  obtain ⟨j, hj, ej⟩ := pk_andE x (m := 1) 1 (by decide)
  have hj : j < 2 := hj
  rcases (show j = 0 ∨ j = 1 by omega) with rfl | rfl
  · exact Or.inl ej
  · exact Or.inr ej
theorem oh_ofc {z : Int32} {l u : Int} (h : rg z l u) (hl : 0 ≤ l) : Int32.ofNat z.toNatClampNeg = z := by
  refine Int32.toInt_inj.mp ?_
  have e := oh_nat h hl
  have h2 := Int32.toInt_lt z
  have e2 : (Int32.ofNat z.toNatClampNeg).toInt = (z.toNatClampNeg : Int) := nI_toInt (by omega)
  rw [e2, e]
theorem sumA_s {A : LA} {set z : Int32} {col : Nat} {u : Int} (hz : rg z 0 u) (hu : decide (u ≤ 1000) = true) : sumA A set col (z + 1).toNatClampNeg = sumA A set col z.toNatClampNeg + pif ((set >>> (z &&& 31)) &&& 1 = 0) 0 (A 3 z.toNatClampNeg col) := by
  have hu2 := of_decide_eq_true hu
  have e1 : (z + 1).toInt = z.toInt + 1 := by
    rw [Int32.toInt_add]
    exact oh_bmod (by show _ ≤ z.toInt + 1; have := hz.1; omega) (by show z.toInt + 1 ≤ _; have := hz.2; omega)
  have e3 : (z + 1).toNatClampNeg = z.toNatClampNeg + 1 := by
    show (z + 1).toInt.toNat = z.toInt.toNat + 1
    rw [e1]
    have := hz.1
    omega
  rw [e3]
  show sumA A set col z.toNatClampNeg + pif ((set >>> (Int32.ofNat z.toNatClampNeg &&& 31)) &&& 1 = 0) 0 (A 3 z.toNatClampNeg col) = _
  rw [oh_ofc hz (by decide)]

set_option maxHeartbeats 4000000 in
set_option maxRecDepth 100000 in
theorem e_X0_sumOfParts (l : Launch) (D : va_G) (E : Nat → ClassId) (G : Nat → Nat) (a : Nat → Nat) (C : Nat → va_E) (hT : TyX a E C) (x1 : Int32) (x2 : Int32) (hx2 : rg x2 0 1) : Met l yX0_sumOfParts (oh_w yX0_sumOfParts cX0_sumOfParts 5 (some .int)) ({ frames := 0, cells := 0, slots := 0, locals := 0 }) (oh_Pp D E G [.ref (a 1), .int x1, .int x2] (oh_W 35 a C)) (vp_Si (fun r => (∀ A : LA, absX 10 C A → r = sumA A x1 x2.toNatClampNeg (A 5 0 3).toNatClampNeg))) 0 0 (fun _ => False) := by
  refine Met.ofW (cc := cX0_sumOfParts) (maxL := 5) (ret := (some .int)) (by decide) rfl ?_
  intro p e s m args below meth c s₁ B hml hv
  obtain ⟨rfl, hP, hK, hG⟩ := hv
  have hx := B.exec
  have hb := B.bytes
  have hr := B.returns
  have hts := atoms_spec (ws := (oh_w yX0_sumOfParts cX0_sumOfParts 5 (some .int))) B.pre
  have htg : ∀ w ∈ oh_t, w.before _ s = true := fun w h => hts w (List.mem_cons_of_mem _ h)
  have hown : s.vm.findClass RX0 = some m.cls := findClass_of_methodNamed B.named
  have hlocks := B.notSynchronized
  have hT0 := hT
  have hS : va_S (fun _ => False) s.heap s.heap [] := va_S.rf
  have hl := lv_entry ([.ref (a 1), .int x1, .int x2]) (n := 5) (Nat.le_of_ble_eq_true rfl)
  rw [lg_entry_eq]
  generalize (lg_sl ([.ref (a 1), .int x1, .int x2]) ++ List.replicate (5 - (lg_sl ([.ref (a 1), .int x1, .int x2])).length) Slot.unset).toArray = ls at hl ⊢
  have hl : lv_has ls 5 [(0, .ref (a 1)), (1, .int x1), (2, .int x2)] := hl
  refine oh_genQ (fun Q hQ => ?_)
  refine lv_iconst (v := 0) hx hb dX0_sumOfParts_0 (by decide) ?_
  refine lv_istore_n (lv' := [(3, .int 0), (0, .ref (a 1)), (1, .int x1), (2, .int x2)]) hx hb dX0_sumOfParts_1 rfl hl (by decide) rfl (fun ls hl => ?_)
  refine lv_iconst (v := 0) hx hb dX0_sumOfParts_2 (by decide) ?_
  refine lv_istore (lv' := [(4, .int 0), (3, .int 0), (0, .ref (a 1)), (1, .int x1), (2, .int x2)]) hx hb dX0_sumOfParts_3 hl (by decide) rfl (fun ls hl => ?_)
  have L_5 : ∀ (d : Nat) (z5_4 : Int32) (z5_3 : Int32) (ls : Array Slot), (5 - z5_4.toInt).toNat = d → rg z5_4 0 5 → (∀ A : LA, absX 10 C A → z5_3 = sumA A x1 x2.toNatClampNeg z5_4.toNatClampNeg) → (z5_4.toInt ≤ (ga (C 10) ((3 : Int32)).toNatClampNeg).toInt) → lv_has ls 5 [(4, .int z5_4), (3, .int z5_3), (0, .ref (a 1)), (1, .int x1), (2, .int x2)] → W p l e ({ frames := 0, cells := 0, slots := 0, locals := 0 }) s m (([.ref (a 1), .int x1, .int x2] : List Value).toArray) below meth c s.heap [] 0 0 Q (F0 m 5 ls []) := by
    intro d
    induction d using Nat.strongRecOn with
    | ind d ih_5 =>
    intro z5_4 z5_3 ls hd_5 hz5_4 hx_5 hy_5 hl
    refine lv_iload hx hb dX0_sumOfParts_5 (lv_at hl 0 rfl) ?_
    refine lv_aload_n hx hb dX0_sumOfParts_7 rfl (lv_at hl 2 rfl) ?_
    refine va_get (D := D) (ci := 0) (v := .ref (a 10)) (C := RX0) (T := TX0) (N := 8) hx hb htg ig_0 hown hK hP 1 (oh_wg (by decide) (sX_1 hT)) rfl 0 (by decide) (htg _ q_97) (fun _ h9 => h9) rfl dX0_sumOfParts_8 ?_
    refine lv_iconst (v := 3) hx hb dX0_sumOfParts_11 (by decide) ?_
    refine th_iald hx hb hK hP 10 (by decide) (sX_10 hT) (rg_in (rg_c (v := 3) (lo := 3) (hi := 3) (by decide)) (by decide)) dX0_sumOfParts_12 ?_
    refine lv_icmp_ge (tgt := 46) hx hb dX0_sumOfParts_13 (by decide) (fun (c_1 : (ga (C 10) ((3 : Int32)).toNatClampNeg) ≤ z5_4) => ?_) (fun (c_1 : ¬ ((ga (C 10) ((3 : Int32)).toNatClampNeg) ≤ z5_4)) => ?_)
    · refine lv_iload_n hx hb dX0_sumOfParts_46 rfl (lv_at hl 1 rfl) ?_
      rw [hQ]
      exact W.iret (v := z5_3) hx hb hr (fun t ht hW => ⟨z5_3, rfl, (fun A hA => by rw [hx_5 A hA, show z5_4 = A 5 0 3 from Eq.trans (show z5_4 = ga (C 10) ((3 : Int32)).toNatClampNeg from Int32.toInt_inj.mp (by have h7 := Int32.le_iff_toInt_le.mp c_1; have h8 := hy_5; omega)) (hA.1 3 (by decide))]), ht⟩) (fun q h => by cases h) dX0_sumOfParts_47
    · refine lv_iload_n hx hb dX0_sumOfParts_16 rfl (lv_at hl 3 rfl) ?_
      refine lv_iload hx hb dX0_sumOfParts_17 (lv_at hl 0 rfl) ?_
      refine lv_ishr hx hb dX0_sumOfParts_19 ?_
      refine lv_iconst (v := 1) hx hb dX0_sumOfParts_20 (by decide) ?_
      refine lv_iand hx hb dX0_sumOfParts_21 ?_
      refine lv_iconst (v := 1) hx hb dX0_sumOfParts_22 (by decide) ?_
      refine lv_icmp_ne (tgt := 40) hx hb dX0_sumOfParts_23 (by decide) (fun (c_2 : ¬ (((x1 >>> (z5_4 &&& 31)) &&& 1) = 1)) => ?_) (fun (c_2 : ((x1 >>> (z5_4 &&& 31)) &&& 1) = 1) => ?_)
      · refine lv_iinc (v := z5_4 + 1) (lv' := [(4, .int (z5_4 + 1)), (3, .int z5_3), (0, .ref (a 1)), (1, .int x1), (2, .int x2)]) hx hb dX0_sumOfParts_40 hl (k := 0) rfl (by rfl) (by decide) rfl (fun ls hl => ?_)
        refine lv_goto (tgt := 5) hx hb dX0_sumOfParts_43 (by decide) ?_
        exact ih_5 _ (hd_5 ▸ mu_up 5 (rn_ltu (u' := 4) (Int32.not_le.mp c_1) hz5_4 (tA_rdc (lo := 0) (hi := 5) (tX_10 hT0) (rg_in (rg_c (v := 3) (lo := 3) (hi := 3) (by decide)) (by decide)) (show _ = 3 by decide) (by decide)) (by decide)) (by decide)) (z5_4 + 1) z5_3 ls rfl (rg_w (rg_add (lo := 1) (hi := 5) (rn_ltu (u' := 4) (Int32.not_le.mp c_1) hz5_4 (tA_rdc (lo := 0) (hi := 5) (tX_10 hT0) (rg_in (rg_c (v := 3) (lo := 3) (hi := 3) (by decide)) (by decide)) (show _ = 3 by decide) (by decide)) (by decide)) (rg_c (v := 1) (lo := 1) (hi := 1) (by decide)) (by decide)) (by decide)) (fun A hA => by rw [sumA_s (rg_w (lo := 0) (hi := 4) (rn_ltu (u' := 4) (Int32.not_le.mp c_1) hz5_4 (tA_rdc (lo := 0) (hi := 5) (tX_10 hT0) (rg_in (rg_c (v := 3) (lo := 3) (hi := 3) (by decide)) (by decide)) (show _ = 3 by decide) (by decide)) (by decide)) (by decide)) (by decide), pif_pos ((oh_bit _).resolve_right c_2), ← hx_5 A hA, Int32.add_zero]) (by have h7 := Int32.lt_iff_toInt_lt.mp (Int32.not_le.mp c_1); have h8 : (z5_4 + 1).toInt = z5_4.toInt + 1 := oh_incr (rn_ltu (u' := 4) (Int32.not_le.mp c_1) hz5_4 (tA_rdc (lo := 0) (hi := 5) (tX_10 hT0) (rg_in (rg_c (v := 3) (lo := 3) (hi := 3) (by decide)) (by decide)) (show _ = 3 by decide) (by decide)) (by decide)) (by decide); omega) (lv_sub hl [0, 1, 2, 3, 4] rfl)
      · refine lv_iload_n hx hb dX0_sumOfParts_26 rfl (lv_at hl 1 rfl) ?_
        refine lv_aload_n hx hb dX0_sumOfParts_27 rfl (lv_at hl 2 rfl) ?_
        refine va_get (D := D) (ci := 0) (v := .ref (a 14)) (C := RX0) (T := TX0) (N := 8) hx hb htg ig_0 hown hK hP 1 (oh_wg (by decide) (sX_1 hT)) rfl 4 (by decide) (htg _ q_105) (fun _ h9 => h9) rfl dX0_sumOfParts_28 ?_
        refine lv_iload hx hb dX0_sumOfParts_31 (lv_at hl 0 rfl) ?_
        refine lv_iconst (v := 2) hx hb dX0_sumOfParts_33 (by decide) ?_
        refine lv_imul hx hb dX0_sumOfParts_34 ?_
        refine lv_iload_n hx hb dX0_sumOfParts_35 rfl (lv_at hl 4 rfl) ?_
        refine lv_iadd hx hb dX0_sumOfParts_36 ?_
        have n_3 : vp_in ((z5_4 * 2) + x2) 10 := (rg_in (rg_add (lo := 0) (hi := 9) (rg_mul (lo := 0) (hi := 8) (rn_ltu (u' := 4) (Int32.not_le.mp c_1) hz5_4 (tA_rdc (lo := 0) (hi := 5) (tX_10 hT0) (rg_in (rg_c (v := 3) (lo := 3) (hi := 3) (by decide)) (by decide)) (show _ = 3 by decide) (by decide)) (by decide)) (rg_c (v := 2) (lo := 2) (hi := 2) (by decide)) (by decide)) hx2 (by decide)) (by decide))
        refine th_iald hx hb hK hP 14 (by decide) (sX_14 hT) n_3 dX0_sumOfParts_37 ?_
        refine lv_iadd hx hb dX0_sumOfParts_38 ?_
        refine lv_istore_n (lv' := [(3, .int (z5_3 + (ga (C 14) ((z5_4 * 2) + x2).toNatClampNeg))), (4, .int z5_4), (0, .ref (a 1)), (1, .int x1), (2, .int x2)]) hx hb dX0_sumOfParts_39 rfl hl (by decide) rfl (fun ls hl => ?_)
        refine lv_iinc (v := z5_4 + 1) (lv' := [(4, .int (z5_4 + 1)), (3, .int (z5_3 + (ga (C 14) ((z5_4 * 2) + x2).toNatClampNeg))), (0, .ref (a 1)), (1, .int x1), (2, .int x2)]) hx hb dX0_sumOfParts_40 hl (k := 1) rfl (by rfl) (by decide) rfl (fun ls hl => ?_)
        refine lv_goto (tgt := 5) hx hb dX0_sumOfParts_43 (by decide) ?_
        exact ih_5 _ (hd_5 ▸ mu_up 5 (rn_ltu (u' := 4) (Int32.not_le.mp c_1) hz5_4 (tA_rdc (lo := 0) (hi := 5) (tX_10 hT0) (rg_in (rg_c (v := 3) (lo := 3) (hi := 3) (by decide)) (by decide)) (show _ = 3 by decide) (by decide)) (by decide)) (by decide)) (z5_4 + 1) (z5_3 + (ga (C 14) ((z5_4 * 2) + x2).toNatClampNeg)) ls rfl (rg_w (rg_add (lo := 1) (hi := 5) (rn_ltu (u' := 4) (Int32.not_le.mp c_1) hz5_4 (tA_rdc (lo := 0) (hi := 5) (tX_10 hT0) (rg_in (rg_c (v := 3) (lo := 3) (hi := 3) (by decide)) (by decide)) (show _ = 3 by decide) (by decide)) (by decide)) (rg_c (v := 1) (lo := 1) (hi := 1) (by decide)) (by decide)) (by decide)) (fun A hA => by rw [sumA_s (rg_w (lo := 0) (hi := 4) (rn_ltu (u' := 4) (Int32.not_le.mp c_1) hz5_4 (tA_rdc (lo := 0) (hi := 5) (tX_10 hT0) (rg_in (rg_c (v := 3) (lo := 3) (hi := 3) (by decide)) (by decide)) (show _ = 3 by decide) (by decide)) (by decide)) (by decide)) (by decide), pif_neg (by rw [c_2]; decide), ← hx_5 A hA, (show ga (C 14) (z5_4 * 2 + x2).toNatClampNeg = A 3 z5_4.toNatClampNeg x2.toNatClampNeg from colX_v (t := 3) hA (by decide) (rg_w (lo := 0) (hi := 4) (rn_ltu (u' := 4) (Int32.not_le.mp c_1) hz5_4 (tA_rdc (lo := 0) (hi := 5) (tX_10 hT0) (rg_in (rg_c (v := 3) (lo := 3) (hi := 3) (by decide)) (by decide)) (show _ = 3 by decide) (by decide)) (by decide)) (by decide)) rfl hx2 (by decide) (show z5_4 < A 5 0 3 from oh_lte (Int32.not_le.mp c_1) (hA.1 3 (by decide))) (by unfold vis; omega))]) (by have h7 := Int32.lt_iff_toInt_lt.mp (Int32.not_le.mp c_1); have h8 : (z5_4 + 1).toInt = z5_4.toInt + 1 := oh_incr (rn_ltu (u' := 4) (Int32.not_le.mp c_1) hz5_4 (tA_rdc (lo := 0) (hi := 5) (tX_10 hT0) (rg_in (rg_c (v := 3) (lo := 3) (hi := 3) (by decide)) (by decide)) (show _ = 3 by decide) (by decide)) (by decide)) (by decide); omega) (lv_sub hl [0, 1, 2, 3, 4] rfl)
  exact L_5 _ 0 0 ls rfl (rg_w (rg_c (v := 0) (lo := 0) (hi := 0) (by decide)) (by decide)) (fun A hA => rfl) (cntX 3 hT0 (by decide)).1 (lv_sub hl [0, 1, 2, 3, 4] rfl)

set_option maxHeartbeats 4000000 in
set_option maxRecDepth 100000 in
theorem e_X6_roundedUp (l : Launch) (D : va_G) (E : Nat → ClassId) (G : Nat → Nat) (x1 : Int32) (x2 : Int32) : Met l yX6_roundedUp (oh_w yX6_roundedUp cX6_roundedUp 2 (some .int)) ({ frames := 0, cells := 0, slots := 0, locals := 0 }) (oh_Pp D E G [.int x1, .int x2] []) (vp_Si (fun r => (r = rndUp x1 x2))) 0 0 (fun _ => False) := by
  refine Met.ofW (cc := cX6_roundedUp) (maxL := 2) (ret := (some .int)) (by decide) rfl ?_
  intro p e s m args below meth c s₁ B hml hv
  obtain ⟨rfl, hP, hK, hG⟩ := hv
  have hx := B.exec
  have hb := B.bytes
  have hr := B.returns
  have hts := atoms_spec (ws := (oh_w yX6_roundedUp cX6_roundedUp 2 (some .int))) B.pre
  have htg : ∀ w ∈ oh_t, w.before _ s = true := fun w h => hts w (List.mem_cons_of_mem _ h)
  have hown : s.vm.findClass RX6 = some m.cls := findClass_of_methodNamed B.named
  have hlocks := B.notSynchronized
  have hS : va_S (fun _ => False) s.heap s.heap [] := va_S.rf
  have hl := lv_entry ([.int x1, .int x2]) (n := 2) (Nat.le_of_ble_eq_true rfl)
  rw [lg_entry_eq]
  generalize (lg_sl ([.int x1, .int x2]) ++ List.replicate (2 - (lg_sl ([.int x1, .int x2])).length) Slot.unset).toArray = ls at hl ⊢
  have hl : lv_has ls 2 [(0, .int x1), (1, .int x2)] := hl
  refine oh_genQ (fun Q hQ => ?_)
  refine lv_iload_n hx hb dX6_roundedUp_0 rfl (lv_at hl 1 rfl) ?_
  refine lv_if_gt (tgt := 8) hx hb dX6_roundedUp_1 (by decide) (fun (c_1 : (0 : Int32) < x2) => ?_) (fun (c_1 : ¬ ((0 : Int32) < x2)) => ?_)
  · refine lv_iload_n hx hb dX6_roundedUp_8 rfl (lv_at hl 0 rfl) ?_
    refine lv_iload_n hx hb dX6_roundedUp_9 rfl (lv_at hl 1 rfl) ?_
    refine lv_iadd hx hb dX6_roundedUp_10 ?_
    refine lv_iconst (v := 1) hx hb dX6_roundedUp_11 (by decide) ?_
    refine lv_isub hx hb dX6_roundedUp_12 ?_
    refine lv_iload_n hx hb dX6_roundedUp_13 rfl (lv_at hl 1 rfl) ?_
    refine lv_idiv hx hb dX6_roundedUp_14 (rg_ne0 (rn_ltl (l' := 1) c_1 (rg_c (v := 0) (lo := 0) (hi := 0) (by decide)) (rg_any _) (by decide)) (by decide)) ?_
    rw [hQ]
    exact W.iret (v := ((x1 + x2) - 1) / x2) hx hb hr (fun t ht hW => ⟨((x1 + x2) - 1) / x2, rfl, (if_pos c_1).symm, ht⟩) (fun q h => by cases h) dX6_roundedUp_15
  · refine lv_iconst (v := 0) hx hb dX6_roundedUp_4 (by decide) ?_
    refine lv_goto (tgt := 15) hx hb dX6_roundedUp_5 (by decide) ?_
    rw [hQ]
    exact W.iret (v := 0) hx hb hr (fun t ht hW => ⟨0, rfl, (if_neg (Int32.not_lt.mpr (Int32.not_lt.mp c_1))).symm, ht⟩) (fun q h => by cases h) dX6_roundedUp_15

set_option maxHeartbeats 4000000 in
set_option maxRecDepth 100000 in
theorem e_X6_cut (l : Launch) (D : va_G) (E : Nat → ClassId) (G : Nat → Nat) (x1 : Int32) (x2 : Int32) : Met l yX6_cut (oh_w yX6_cut cX6_cut 2 (some .int)) ({ frames := 0, cells := 0, slots := 0, locals := 0 }) (oh_Pp D E G [.int x1, .int x2] []) (vp_Si (fun r => (r = cutBy x1 x2))) 0 0 (fun _ => False) := by
  refine Met.ofW (cc := cX6_cut) (maxL := 2) (ret := (some .int)) (by decide) rfl ?_
  intro p e s m args below meth c s₁ B hml hv
  obtain ⟨rfl, hP, hK, hG⟩ := hv
  have hx := B.exec
  have hb := B.bytes
  have hr := B.returns
  have hts := atoms_spec (ws := (oh_w yX6_cut cX6_cut 2 (some .int))) B.pre
  have htg : ∀ w ∈ oh_t, w.before _ s = true := fun w h => hts w (List.mem_cons_of_mem _ h)
  have hown : s.vm.findClass RX6 = some m.cls := findClass_of_methodNamed B.named
  have hlocks := B.notSynchronized
  have hS : va_S (fun _ => False) s.heap s.heap [] := va_S.rf
  have hl := lv_entry ([.int x1, .int x2]) (n := 2) (Nat.le_of_ble_eq_true rfl)
  rw [lg_entry_eq]
  generalize (lg_sl ([.int x1, .int x2]) ++ List.replicate (2 - (lg_sl ([.int x1, .int x2])).length) Slot.unset).toArray = ls at hl ⊢
  have hl : lv_has ls 2 [(0, .int x1), (1, .int x2)] := hl
  refine oh_genQ (fun Q hQ => ?_)
  refine lv_iload_n hx hb dX6_cut_0 rfl (lv_at hl 1 rfl) ?_
  refine lv_if_gt (tgt := 8) hx hb dX6_cut_1 (by decide) (fun (c_1 : (0 : Int32) < x2) => ?_) (fun (c_1 : ¬ ((0 : Int32) < x2)) => ?_)
  · refine lv_iload_n hx hb dX6_cut_8 rfl (lv_at hl 0 rfl) ?_
    refine lv_iload_n hx hb dX6_cut_9 rfl (lv_at hl 1 rfl) ?_
    refine lv_idiv hx hb dX6_cut_10 (rg_ne0 (rn_ltl (l' := 1) c_1 (rg_c (v := 0) (lo := 0) (hi := 0) (by decide)) (rg_any _) (by decide)) (by decide)) ?_
    rw [hQ]
    exact W.iret (v := x1 / x2) hx hb hr (fun t ht hW => ⟨x1 / x2, rfl, (if_pos c_1).symm, ht⟩) (fun q h => by cases h) dX6_cut_11
  · refine lv_iconst (v := 0) hx hb dX6_cut_4 (by decide) ?_
    refine lv_goto (tgt := 11) hx hb dX6_cut_5 (by decide) ?_
    rw [hQ]
    exact W.iret (v := 0) hx hb hr (fun t ht hW => ⟨0, rfl, (if_neg (Int32.not_lt.mpr (Int32.not_lt.mp c_1))).symm, ht⟩) (fun q h => by cases h) dX6_cut_11

set_option maxHeartbeats 4000000 in
set_option maxRecDepth 100000 in
theorem e_X1_take (l : Launch) (D : va_G) (E : Nat → ClassId) (G : Nat → Nat) (sz : Nat) (a : Nat → Nat) (C : Nat → va_E) (hT : TyX a E C) (x1 : Int32) (x2 : Int32) (hx1 : rg x1 0 4) : Met l yX1_take (oh_w yX1_take cX1_take 5 none) ({ frames := 2, cells := 0, slots := 0, locals := 43 }) (oh_Pm D E G [.ref (a 9), .ref (a 1), .int x1, .int x2] (oh_W 35 a C) sz) (va_Qv (fun (u : Nat → va_E) => TyX a E u ∧ fr [(9, 10)] [] C u ∧ (gi (u 9) 0 = ga (C 13) ((x1 * 3) + 0).toNatClampNeg) ∧ (gi (u 9) 1 = ga (C 13) ((x1 * 3) + 1).toNatClampNeg) ∧ (∀ A : LA, absX 10 C A → gi (u 9) 3 = aLoad (ga (C 13) ((x1 * 3) + 0).toNatClampNeg) (ga (C 13) ((x1 * 3) + 2).toNatClampNeg) (ga (C 15) ((0 : Int32)).toNatClampNeg) (sumA A x2 0 (A 5 0 3).toNatClampNeg))) (oh_B D (va_A (oh_W 35 a C) sz) (fun u => oh_W 35 a u)) (va_A (oh_W 35 a C) sz)) 0 0 (va_A (oh_W 35 a C) sz) := by
  refine Met.ofW (cc := cX1_take) (maxL := 5) (ret := none) (by decide) rfl ?_
  intro p e s m args below meth c s₁ B hml hv
  obtain ⟨rfl, hsz, hP, hK, hD0, hG⟩ := hv
  have hx := B.exec
  have hb := B.bytes
  have hr := B.returns
  have hts := atoms_spec (ws := (oh_w yX1_take cX1_take 5 none)) B.pre
  have htg : ∀ w ∈ oh_t, w.before _ s = true := fun w h => hts w (List.mem_cons_of_mem _ h)
  have hown : s.vm.findClass RX1 = some m.cls := findClass_of_methodNamed B.named
  have hlocks := B.notSynchronized
  have hT0 := hT
  subst hsz
  have hD := hD0.self (sz := s.heap.size)
  generalize hAe : va_A (oh_W 35 a C) s.heap.size = A at hD hG ⊢
  have hA : ∀ q : Nat, s.heap.size ≤ q → A q := fun q h => by rw [← hAe]; exact Or.inr h
  have hS : va_S A s.heap s.heap [] := va_S.rf
  have hF : fr [(9, 10)] [] C C := fr_rf
  have hl := lv_entry ([.ref (a 9), .ref (a 1), .int x1, .int x2]) (n := 5) (Nat.le_of_ble_eq_true rfl)
  rw [lg_entry_eq]
  generalize (lg_sl ([.ref (a 9), .ref (a 1), .int x1, .int x2]) ++ List.replicate (5 - (lg_sl ([.ref (a 9), .ref (a 1), .int x1, .int x2])).length) Slot.unset).toArray = ls at hl ⊢
  have hl : lv_has ls 5 [(0, .ref (a 9)), (1, .ref (a 1)), (2, .int x1), (3, .int x2)] := hl
  refine oh_genQ (fun Q hQ => ?_)
  refine lv_aload_n hx hb dX1_take_0 rfl (lv_at hl 0 rfl) ?_
  refine lv_aload_n hx hb dX1_take_1 rfl (lv_at hl 1 rfl) ?_
  refine lv_iload_n hx hb dX1_take_2 rfl (lv_at hl 2 rfl) ?_
  refine lv_iconst (v := 0) hx hb dX1_take_3 (by decide) ?_
  refine tq_V (As := [.int x1, .int 0]) (rest := [.ref (a 9)]) (ws := (oh_W 35 a C)) ⟨hx, hb, hml, hown, htg⟩ (c_X0_ofWaggon l D E G a C hT x1 (0 : Int32) (rg_w hx1 (by decide)) (rg_w (rg_c (v := 0) (lo := 0) (hi := 0) (by decide)) (by decide))) (cwV 2 htg (oh_gV q_707 q_688 q_689 q_67 q_690) rfl rfl rfl pdVX0_ofWaggon ⟨Nat.le_of_ble_eq_true rfl, Nat.le_of_ble_eq_true rfl⟩) hK hP hG hS (va_recv hK hP (ci := 0) (q0 := 1) rfl (oh_wg (by decide) (sX_1 hT))) rfl hl.1 rfl (Nat.le_of_ble_eq_true rfl) dX1_take_4 ⟨Nat.le_of_ble_eq_true rfl, Nat.le_of_ble_eq_true rfl⟩ (fun r_1 hq_2 => ?_)
  subst hq_2
  refine th_put (Tp := TyX a E) (Rl := fr [(9, 10)] [] C) (ci := 1) (v := .int (ga (C 13) ((x1 * 3) + 0).toNatClampNeg)) (ty := .int) (CC := RX1) (T := TX1) (N := 5) hx hb htg ig_1 tyX1 tyX1_ok nmX1 hown hK hP hD hS 9 (by decide) (sX_9 hT) rfl 0 (by decide) (htg _ q_145) (fun _ h9 => h9) rfl (by decide +kernel) rfl rfl (Nat.le_of_ble_eq_true rfl) (hT.up 9 rfl) (fr_st hF (by decide) (by decide)) dX1_take_7 (fun C_3 H locs e_4 hT hF hP hD hS => ?_)
  have t_5 := hT
  refine lv_aload_n hx hb dX1_take_10 rfl (lv_at hl 0 rfl) ?_
  refine lv_aload_n hx hb dX1_take_11 rfl (lv_at hl 1 rfl) ?_
  refine lv_iload_n hx hb dX1_take_12 rfl (lv_at hl 2 rfl) ?_
  refine lv_iconst (v := 1) hx hb dX1_take_13 (by decide) ?_
  refine tq_V (As := [.int x1, .int 1]) (rest := [.ref (a 9)]) (ws := (oh_W 35 a C_3)) ⟨hx, hb, hml, hown, htg⟩ (c_X0_ofWaggon l D E G a C_3 hT x1 (1 : Int32) (rg_w hx1 (by decide)) (rg_w (rg_c (v := 1) (lo := 1) (hi := 1) (by decide)) (by decide))) (cwV 2 htg (oh_gV q_707 q_688 q_689 q_67 q_690) rfl rfl rfl pdVX0_ofWaggon ⟨Nat.le_of_ble_eq_true rfl, Nat.le_of_ble_eq_true rfl⟩) hK hP hG hS (va_recv hK hP (ci := 0) (q0 := 1) rfl (oh_wg (by decide) (sX_1 hT))) rfl hl.1 rfl (Nat.le_of_ble_eq_true rfl) dX1_take_14 ⟨Nat.le_of_ble_eq_true rfl, Nat.le_of_ble_eq_true rfl⟩ (fun r_6 hq_7 => ?_)
  subst hq_7
  refine th_put (Tp := TyX a E) (Rl := fr [(9, 10)] [] C) (ci := 1) (v := .int (ga (C_3 13) ((x1 * 3) + 1).toNatClampNeg)) (ty := .int) (CC := RX1) (T := TX1) (N := 5) hx hb htg ig_1 tyX1 tyX1_ok nmX1 hown hK hP hD hS 9 (by decide) (sX_9 hT) rfl 1 (by decide) (htg _ q_146) (fun _ h9 => h9) rfl (by decide +kernel) rfl rfl (Nat.le_of_ble_eq_true rfl) (hT.up 9 rfl) (fr_st hF (by decide) (by decide)) dX1_take_17 (fun C_8 H locs e_9 hT hF hP hD hS => ?_)
  have t_10 := hT
  refine lv_aload_n hx hb dX1_take_20 rfl (lv_at hl 0 rfl) ?_
  refine lv_aload_n hx hb dX1_take_21 rfl (lv_at hl 1 rfl) ?_
  refine lv_iload_n hx hb dX1_take_22 rfl (lv_at hl 2 rfl) ?_
  refine tq_V (As := [.int x1]) (rest := [.ref (a 9)]) (ws := (oh_W 35 a C_8)) ⟨hx, hb, hml, hown, htg⟩ (e_X0_waggonLength l D E G a C_8 hT x1 (rg_w hx1 (by decide))) (cwV 1 htg (oh_gV q_708 q_684 q_685 q_67 q_686) rfl rfl rfl pdVX0_waggonLength ⟨Nat.le_of_ble_eq_true rfl, Nat.le_of_ble_eq_true rfl⟩) hK hP hG hS (va_recv hK hP (ci := 0) (q0 := 1) rfl (oh_wg (by decide) (sX_1 hT))) rfl hl.1 rfl (Nat.le_of_ble_eq_true rfl) dX1_take_23 ⟨Nat.le_of_ble_eq_true rfl, Nat.le_of_ble_eq_true rfl⟩ (fun r_11 hq_12 => ?_)
  subst hq_12
  refine th_put (Tp := TyX a E) (Rl := fr [(9, 10)] [] C) (ci := 1) (v := .int (((ga (C_8 13) ((x1 * 3) + 1).toNatClampNeg) * ((ga (C_8 13) ((x1 * 3) + 0).toNatClampNeg) - 1)) + 4)) (ty := .int) (CC := RX1) (T := TX1) (N := 5) hx hb htg ig_1 tyX1 tyX1_ok nmX1 hown hK hP hD hS 9 (by decide) (sX_9 hT) rfl 2 (by decide) (htg _ q_147) (fun _ h9 => h9) rfl (by decide +kernel) rfl rfl (Nat.le_of_ble_eq_true rfl) (hT.up 9 rfl) (fr_st hF (by decide) (by decide)) dX1_take_26 (fun C_13 H locs e_14 hT hF hP hD hS => ?_)
  have t_15 := hT
  refine lv_aload_n hx hb dX1_take_29 rfl (lv_at hl 1 rfl) ?_
  refine lv_iload_n hx hb dX1_take_30 rfl (lv_at hl 2 rfl) ?_
  refine lv_iconst (v := 2) hx hb dX1_take_31 (by decide) ?_
  refine tq_V (As := [.int x1, .int 2]) (rest := []) (ws := (oh_W 35 a C_13)) ⟨hx, hb, hml, hown, htg⟩ (c_X0_ofWaggon l D E G a C_13 hT x1 (2 : Int32) (rg_w hx1 (by decide)) (rg_w (rg_c (v := 2) (lo := 2) (hi := 2) (by decide)) (by decide))) (cwV 2 htg (oh_gV q_707 q_688 q_689 q_67 q_690) rfl rfl rfl pdVX0_ofWaggon ⟨Nat.le_of_ble_eq_true rfl, Nat.le_of_ble_eq_true rfl⟩) hK hP hG hS (va_recv hK hP (ci := 0) (q0 := 1) rfl (oh_wg (by decide) (sX_1 hT))) rfl hl.1 rfl (Nat.le_of_ble_eq_true rfl) dX1_take_32 ⟨Nat.le_of_ble_eq_true rfl, Nat.le_of_ble_eq_true rfl⟩ (fun r_16 hq_17 => ?_)
  subst hq_17
  refine lv_aload_n hx hb dX1_take_35 rfl (lv_at hl 1 rfl) ?_
  refine va_get (D := D) (ci := 0) (v := .ref (a 15)) (C := RX0) (T := TX0) (N := 8) hx hb htg ig_0 hown hK hP 1 (oh_wg (by decide) (sX_1 hT)) rfl 5 (by decide) (htg _ q_108) (fun _ h9 => h9) rfl dX1_take_36 ?_
  refine lv_iconst (v := 0) hx hb dX1_take_39 (by decide) ?_
  refine th_iald hx hb hK hP 15 (by decide) (Eq.trans (Eq.trans (th_un e_14 (by decide)) (Eq.trans (th_un e_9 (by decide)) (th_un e_4 (by decide)))) (sX_15 hT0)) (rg_in (rg_c (v := 0) (lo := 0) (hi := 0) (by decide)) (by decide)) dX1_take_40 ?_
  refine lv_iadd hx hb dX1_take_41 ?_
  refine lv_aload_n hx hb dX1_take_42 rfl (lv_at hl 1 rfl) ?_
  refine lv_iload_n hx hb dX1_take_43 rfl (lv_at hl 3 rfl) ?_
  refine lv_iconst (v := 0) hx hb dX1_take_44 (by decide) ?_
  refine tq_V (As := [.int x2, .int 0]) (rest := [.int ((ga (C_13 13) ((x1 * 3) + 2).toNatClampNeg) + (ga (C 15) ((0 : Int32)).toNatClampNeg))]) (ws := (oh_W 35 a C_13)) ⟨hx, hb, hml, hown, htg⟩ (e_X0_sumOfParts l D E G a C_13 hT x2 (0 : Int32) (rg_w (rg_c (v := 0) (lo := 0) (hi := 0) (by decide)) (by decide))) (cwV 2 htg (oh_gV q_709 q_710 q_711 q_67 q_712) rfl rfl rfl pdVX0_sumOfParts ⟨Nat.le_of_ble_eq_true rfl, Nat.le_of_ble_eq_true rfl⟩) hK hP hG hS (va_recv hK hP (ci := 0) (q0 := 1) rfl (oh_wg (by decide) (sX_1 hT))) rfl hl.1 rfl (Nat.le_of_ble_eq_true rfl) dX1_take_45 ⟨Nat.le_of_ble_eq_true rfl, Nat.le_of_ble_eq_true rfl⟩ (fun r_18 hq_19 => ?_)
  refine lv_isub hx hb dX1_take_48 ?_
  refine lv_istore (lv' := [(4, .int (((ga (C_13 13) ((x1 * 3) + 2).toNatClampNeg) + (ga (C 15) ((0 : Int32)).toNatClampNeg)) - r_18)), (0, .ref (a 9)), (1, .ref (a 1)), (2, .int x1), (3, .int x2)]) hx hb dX1_take_49 hl (by decide) rfl (fun ls hl => ?_)
  refine lv_aload_n hx hb dX1_take_51 rfl (lv_at hl 1 rfl) ?_
  refine lv_iload hx hb dX1_take_52 (lv_at hl 0 rfl) ?_
  refine lv_iconst (v := 0) hx hb dX1_take_54 (by decide) ?_
  refine va_mmax hx hb (by rw [hml]; exact hl.1.symm) hown (htg _ q_713) (htg _ q_714) (htg _ q_79) (htg _ q_715) (Nat.le_of_ble_eq_true rfl) (Nat.le_of_ble_eq_true rfl) (Nat.le_of_ble_eq_true rfl) (Nat.le_of_ble_eq_true rfl) dX1_take_55 ?_
  refine lv_aload_n hx hb dX1_take_58 rfl (lv_at hl 1 rfl) ?_
  refine va_get (D := D) (ci := 1) (v := .int (ga (C 13) ((x1 * 3) + 0).toNatClampNeg)) (C := RX1) (T := TX1) (N := 5) hx hb htg ig_1 hown hK hP 9 (oh_wg (by decide) (sX_9 hT)) rfl 0 (by decide) (htg _ q_145) (fun _ h9 => h9) (oh_fv (c := C_13 9) (j := 0) rfl (Eq.trans (show gi (C_13 9) 0 = gi (C_8 9) 0 by rw [e_14]; rfl) (Eq.trans (show gi (C_8 9) 0 = gi (C_3 9) 0 by rw [e_9]; rfl) (show gi (C_3 9) 0 = (ga (C 13) ((x1 * 3) + 0).toNatClampNeg) by rw [e_4]; rfl)))) dX1_take_59 ?_
  refine tq_SN (As := [.int (if ((ga (C_13 13) ((x1 * 3) + 2).toNatClampNeg) + (ga (C 15) ((0 : Int32)).toNatClampNeg)) - r_18 < 0 then 0 else ((ga (C_13 13) ((x1 * 3) + 2).toNatClampNeg) + (ga (C 15) ((0 : Int32)).toNatClampNeg)) - r_18), .int (ga (C 13) ((x1 * 3) + 0).toNatClampNeg)]) (rest := [.ref (a 9)]) (ws := []) ⟨hx, hb, hml, hown, htg⟩ (e_X6_roundedUp l D E G (if ((ga (C_13 13) ((x1 * 3) + 2).toNatClampNeg) + (ga (C 15) ((0 : Int32)).toNatClampNeg)) - r_18 < 0 then 0 else ((ga (C_13 13) ((x1 * 3) + 2).toNatClampNeg) + (ga (C 15) ((0 : Int32)).toNatClampNeg)) - r_18) (ga (C 13) ((x1 * 3) + 0).toNatClampNeg)) ⟨va_cnB (y := yX6_roundedUp) 2 htg (oh_gW q_718) rfl rfl rfl (hG.1 ("OneHeavyLoad$Pack", 43, ⟨"OneHeavyLoad", "roundedUp", "(II)I"⟩, "OneHeavyLoad") (List.mem_of_getElem? (i := 3) rfl)) (htg _ q_66) pdX6_roundedUp ⟨Nat.le_of_ble_eq_true rfl, Nat.le_of_ble_eq_true rfl⟩, htg _ q_717, trivial⟩ hK va_nil hG hS rfl hl.1 rfl (Nat.le_of_ble_eq_true rfl) dX1_take_62 ⟨Nat.le_of_ble_eq_true rfl, Nat.le_of_ble_eq_true rfl⟩ (fun r_20 hq_21 => ?_)
  refine th_put (Tp := TyX a E) (Rl := fr [(9, 10)] [] C) (ci := 1) (v := .int r_20) (ty := .int) (CC := RX1) (T := TX1) (N := 5) hx hb htg ig_1 tyX1 tyX1_ok nmX1 hown hK hP hD hS 9 (by decide) (sX_9 hT) rfl 3 (by decide) (htg _ q_149) (fun _ h9 => h9) rfl (by decide +kernel) rfl rfl (Nat.le_of_ble_eq_true rfl) (hT.up 9 rfl) (fr_st hF (by decide) (by decide)) dX1_take_65 (fun C_22 H locs e_23 hT hF hP hD hS => ?_)
  have t_24 := hT
  refine lv_aload_n hx hb dX1_take_68 rfl (lv_at hl 1 rfl) ?_
  refine lv_aload_n hx hb dX1_take_69 rfl (lv_at hl 2 rfl) ?_
  refine lv_iload_n hx hb dX1_take_70 rfl (lv_at hl 4 rfl) ?_
  refine lv_iconst (v := 1) hx hb dX1_take_71 (by decide) ?_
  refine tq_V (As := [.int x2, .int 1]) (rest := [.ref (a 9)]) (ws := (oh_W 35 a C_22)) ⟨hx, hb, hml, hown, htg⟩ (e_X0_sumOfParts l D E G a C_22 hT x2 (1 : Int32) (rg_w (rg_c (v := 1) (lo := 1) (hi := 1) (by decide)) (by decide))) (cwV 2 htg (oh_gV q_709 q_710 q_711 q_67 q_712) rfl rfl rfl pdVX0_sumOfParts ⟨Nat.le_of_ble_eq_true rfl, Nat.le_of_ble_eq_true rfl⟩) hK hP hG hS (va_recv hK hP (ci := 0) (q0 := 1) rfl (oh_wg (by decide) (sX_1 hT))) rfl hl.1 rfl (Nat.le_of_ble_eq_true rfl) dX1_take_72 ⟨Nat.le_of_ble_eq_true rfl, Nat.le_of_ble_eq_true rfl⟩ (fun r_25 hq_26 => ?_)
  refine th_put (Tp := TyX a E) (Rl := fr [(9, 10)] [] C) (ci := 1) (v := .int r_25) (ty := .int) (CC := RX1) (T := TX1) (N := 5) hx hb htg ig_1 tyX1 tyX1_ok nmX1 hown hK hP hD hS 9 (by decide) (sX_9 hT) rfl 4 (by decide) (htg _ q_152) (fun _ h9 => h9) rfl (by decide +kernel) rfl rfl (Nat.le_of_ble_eq_true rfl) (hT.up 9 rfl) (fr_st hF (by decide) (by decide)) dX1_take_75 (fun C_27 H locs e_28 hT hF hP hD hS => ?_)
  have t_29 := hT
  rw [hQ]
  exact W.vret hx hb hr (fun t ht hW => ⟨⟨C_27, rfl, ⟨hT, hF, ⟨(Eq.trans (show gi (C_27 9) 0 = gi (C_22 9) 0 by rw [e_28]; rfl) (Eq.trans (show gi (C_22 9) 0 = gi (C_13 9) 0 by rw [e_23]; rfl) (Eq.trans (show gi (C_13 9) 0 = gi (C_8 9) 0 by rw [e_14]; rfl) (Eq.trans (show gi (C_8 9) 0 = gi (C_3 9) 0 by rw [e_9]; rfl) (show gi (C_3 9) 0 = (ga (C 13) ((x1 * 3) + 0).toNatClampNeg) by rw [e_4]; rfl))))), (Eq.trans (Eq.trans (show gi (C_27 9) 1 = gi (C_22 9) 1 by rw [e_28]; rfl) (Eq.trans (show gi (C_22 9) 1 = gi (C_13 9) 1 by rw [e_23]; rfl) (Eq.trans (show gi (C_13 9) 1 = gi (C_8 9) 1 by rw [e_14]; rfl) (show gi (C_8 9) 1 = (ga (C_3 13) ((x1 * 3) + 1).toNatClampNeg) by rw [e_9]; rfl)))) (congrArg (fun z => ga z _) (th_un e_4 (by decide)))), (fun A hA => Eq.trans (Eq.trans (show gi (C_27 9) 3 = gi (C_22 9) 3 by rw [e_28]; rfl) (show gi (C_22 9) 3 = r_20 by rw [e_23]; rfl)) (by rw [hq_21, hq_19 A (absX_eq hA (fun k k1 k2 => (Eq.trans (th_un e_14 (by omega)) (Eq.trans (th_un e_9 (by omega)) (th_un e_4 (by omega)))))), show C_13 13 = C 13 from (Eq.trans (th_un e_14 (by decide)) (Eq.trans (th_un e_9 (by decide)) (th_un e_4 (by decide))))]; rfl))⟩⟩, ⟨by rw [ht]; exact hP, hD⟩⟩, hS.F ht⟩) hS.2.2 dX1_take_78

set_option maxHeartbeats 4000000 in
set_option maxRecDepth 100000 in
theorem e_X1_strainOn (l : Launch) (D : va_G) (E : Nat → ClassId) (G : Nat → Nat) (a : Nat → Nat) (C : Nat → va_E) (hT : TyX a E C) (x1 : Int32) : Met l yX1_strainOn (oh_w yX1_strainOn cX1_strainOn 2 (some .int)) ({ frames := 1, cells := 0, slots := 0, locals := 21 }) (oh_Pp D E G [.ref (a 9), .int x1] (oh_W 35 a C)) (vp_Si (fun r => (r = (if cutBy x1 (gi (C 9) 1) + 1 < gi (C 9) 0 then cutBy x1 (gi (C 9) 1) + 1 else gi (C 9) 0) * gi (C 9) 3))) 0 0 (fun _ => False) := by
  refine Met.ofW (cc := cX1_strainOn) (maxL := 2) (ret := (some .int)) (by decide) rfl ?_
  intro p e s m args below meth c s₁ B hml hv
  obtain ⟨rfl, hP, hK, hG⟩ := hv
  have hx := B.exec
  have hb := B.bytes
  have hr := B.returns
  have hts := atoms_spec (ws := (oh_w yX1_strainOn cX1_strainOn 2 (some .int))) B.pre
  have htg : ∀ w ∈ oh_t, w.before _ s = true := fun w h => hts w (List.mem_cons_of_mem _ h)
  have hown : s.vm.findClass RX1 = some m.cls := findClass_of_methodNamed B.named
  have hlocks := B.notSynchronized
  have hT0 := hT
  have hS : va_S (fun _ => False) s.heap s.heap [] := va_S.rf
  have hl := lv_entry ([.ref (a 9), .int x1]) (n := 2) (Nat.le_of_ble_eq_true rfl)
  rw [lg_entry_eq]
  generalize (lg_sl ([.ref (a 9), .int x1]) ++ List.replicate (2 - (lg_sl ([.ref (a 9), .int x1])).length) Slot.unset).toArray = ls at hl ⊢
  have hl : lv_has ls 2 [(0, .ref (a 9)), (1, .int x1)] := hl
  refine oh_genQ (fun Q hQ => ?_)
  refine lv_aload_n hx hb dX1_strainOn_0 rfl (lv_at hl 0 rfl) ?_
  refine va_get (D := D) (ci := 1) (v := .int (gi (C 9) 0)) (C := RX1) (T := TX1) (N := 5) hx hb htg ig_1 hown hK hP 9 (oh_wg (by decide) (sX_9 hT)) rfl 0 (by decide) (htg _ q_145) (fun _ h9 => h9) rfl dX1_strainOn_1 ?_
  refine lv_iload_n hx hb dX1_strainOn_4 rfl (lv_at hl 1 rfl) ?_
  refine lv_aload_n hx hb dX1_strainOn_5 rfl (lv_at hl 0 rfl) ?_
  refine va_get (D := D) (ci := 1) (v := .int (gi (C 9) 1)) (C := RX1) (T := TX1) (N := 5) hx hb htg ig_1 hown hK hP 9 (oh_wg (by decide) (sX_9 hT)) rfl 1 (by decide) (htg _ q_146) (fun _ h9 => h9) rfl dX1_strainOn_6 ?_
  refine tq_SN (As := [.int x1, .int (gi (C 9) 1)]) (rest := [.int (gi (C 9) 0)]) (ws := []) ⟨hx, hb, hml, hown, htg⟩ (e_X6_cut l D E G x1 (gi (C 9) 1)) ⟨va_cnB (y := yX6_cut) 2 htg (oh_gW q_729) rfl rfl rfl (hG.1 ("OneHeavyLoad$Pack", 52, ⟨"OneHeavyLoad", "cut", "(II)I"⟩, "OneHeavyLoad") (List.mem_of_getElem? (i := 4) rfl)) (htg _ q_66) pdX6_cut ⟨Nat.le_of_ble_eq_true rfl, Nat.le_of_ble_eq_true rfl⟩, htg _ q_728, trivial⟩ hK va_nil hG hS rfl hl.1 rfl (Nat.le_of_ble_eq_true rfl) dX1_strainOn_9 ⟨Nat.le_of_ble_eq_true rfl, Nat.le_of_ble_eq_true rfl⟩ (fun r_1 hq_2 => ?_)
  refine lv_iconst (v := 1) hx hb dX1_strainOn_12 (by decide) ?_
  refine lv_iadd hx hb dX1_strainOn_13 ?_
  refine va_mmin hx hb (by rw [hml]; exact hl.1.symm) hown (htg _ q_730) (htg _ q_731) (htg _ q_79) (htg _ q_732) (Nat.le_of_ble_eq_true rfl) (Nat.le_of_ble_eq_true rfl) (Nat.le_of_ble_eq_true rfl) (Nat.le_of_ble_eq_true rfl) dX1_strainOn_14 ?_
  refine lv_aload_n hx hb dX1_strainOn_17 rfl (lv_at hl 0 rfl) ?_
  refine va_get (D := D) (ci := 1) (v := .int (gi (C 9) 3)) (C := RX1) (T := TX1) (N := 5) hx hb htg ig_1 hown hK hP 9 (oh_wg (by decide) (sX_9 hT)) rfl 3 (by decide) (htg _ q_149) (fun _ h9 => h9) rfl dX1_strainOn_18 ?_
  refine lv_imul hx hb dX1_strainOn_21 ?_
  rw [hQ]
  exact W.iret (v := (if r_1 + 1 < gi (C 9) 0 then r_1 + 1 else gi (C 9) 0) * (gi (C 9) 3)) hx hb hr (fun t ht hW => ⟨(if r_1 + 1 < gi (C 9) 0 then r_1 + 1 else gi (C 9) 0) * (gi (C 9) 3), rfl, (by rw [hq_2]), ht⟩) (fun q h => by cases h) dX1_strainOn_22

set_option maxHeartbeats 4000000 in
set_option maxRecDepth 100000 in
theorem e_X6_axle (l : Launch) (D : va_G) (E : Nat → ClassId) (G : Nat → Nat) (sz : Nat) (a : Nat → Nat) (C : Nat → va_E) (hT : TyX a E C) (x1 : Int32) (x2 : Int32) : Met l yX6_axle (oh_w yX6_axle cX6_axle 3 (some .int)) ({ frames := 3, cells := 0, slots := 0, locals := 67 }) (oh_Pm D E G [.ref (a 0), .int x1, .int x2] (oh_W 35 a C) sz) (va_Qi (fun r (u : Nat → va_E) => TyX a E u ∧ fr [(7, 8), (9, 10)] [] C u ∧ (∀ A : LA, absX 10 C A → r = spAxle A x1 x2)) (oh_B D (va_A (oh_W 35 a C) sz) (fun u => oh_W 35 a u)) (va_A (oh_W 35 a C) sz)) 0 0 (va_A (oh_W 35 a C) sz) := by
  refine Met.ofW (cc := cX6_axle) (maxL := 3) (ret := (some .int)) (by decide) rfl ?_
  intro p e s m args below meth c s₁ B hml hv
  obtain ⟨rfl, hsz, hP, hK, hD0, hG⟩ := hv
  have hx := B.exec
  have hb := B.bytes
  have hr := B.returns
  have hts := atoms_spec (ws := (oh_w yX6_axle cX6_axle 3 (some .int))) B.pre
  have htg : ∀ w ∈ oh_t, w.before _ s = true := fun w h => hts w (List.mem_cons_of_mem _ h)
  have hown : s.vm.findClass RX6 = some m.cls := findClass_of_methodNamed B.named
  have hlocks := B.notSynchronized
  have hT0 := hT
  subst hsz
  have hD := hD0.self (sz := s.heap.size)
  generalize hAe : va_A (oh_W 35 a C) s.heap.size = A at hD hG ⊢
  have hA : ∀ q : Nat, s.heap.size ≤ q → A q := fun q h => by rw [← hAe]; exact Or.inr h
  have hS : va_S A s.heap s.heap [] := va_S.rf
  have hF : fr [(7, 8), (9, 10)] [] C C := fr_rf
  have hl := lv_entry ([.ref (a 0), .int x1, .int x2]) (n := 3) (Nat.le_of_ble_eq_true rfl)
  rw [lg_entry_eq]
  generalize (lg_sl ([.ref (a 0), .int x1, .int x2]) ++ List.replicate (3 - (lg_sl ([.ref (a 0), .int x1, .int x2])).length) Slot.unset).toArray = ls at hl ⊢
  have hl : lv_has ls 3 [(0, .ref (a 0)), (1, .int x1), (2, .int x2)] := hl
  refine oh_genQ (fun Q hQ => ?_)
  refine lv_aload_n hx hb dX6_axle_0 rfl (lv_at hl 0 rfl) ?_
  refine lv_iload_n hx hb dX6_axle_1 rfl (lv_at hl 1 rfl) ?_
  refine lv_iload_n hx hb dX6_axle_2 rfl (lv_at hl 2 rfl) ?_
  refine tq_V (As := [.int x1, .int x2]) (rest := []) (ws := (oh_W 35 a C)) ⟨hx, hb, hml, hown, htg⟩ (e_X6_isPack l D E G a C hT x1 x2) (cwV 2 htg (oh_gV q_695 q_697 q_16 q_66 q_698) rfl rfl rfl pdVX6_isPack ⟨Nat.le_of_ble_eq_true rfl, Nat.le_of_ble_eq_true rfl⟩) hK hP hG hS (va_recv hK hP (ci := 6) (q0 := 0) rfl (oh_wg (by decide) (sX_0 hT))) rfl hl.1 rfl (Nat.le_of_ble_eq_true rfl) dX6_axle_3 ⟨Nat.le_of_ble_eq_true rfl, Nat.le_of_ble_eq_true rfl⟩ (fun r_1 hq_2 => ?_)
  refine lv_if_ne (tgt := 16) hx hb dX6_axle_6 (by decide) (fun (c_3 : ¬ (r_1 = 0)) => ?_) (fun (c_3 : r_1 = 0) => ?_)
  · have u_4 := hq_2.2.1 c_3
    refine lv_aload_n hx hb dX6_axle_16 rfl (lv_at hl 0 rfl) ?_
    refine va_get (D := D) (ci := 6) (v := .ref (a 3)) (C := RX6) (T := TX6) (N := 9) hx hb htg ig_6 hown hK hP 0 (oh_wg (by decide) (sX_0 hT)) rfl 3 (by decide) (htg _ q_261) (fun _ h9 => h9) rfl dX6_axle_17 ?_
    refine va_get (D := D) (ci := 5) (v := .ref (a 9)) (C := RX5) (T := TX5) (N := 7) hx hb htg ig_5 hown hK hP 3 (oh_wg (by decide) (sX_3 hT)) rfl 1 (by decide) (htg _ q_169) (fun _ h9 => h9) rfl dX6_axle_20 ?_
    refine lv_aload_n hx hb dX6_axle_23 rfl (lv_at hl 0 rfl) ?_
    refine va_get (D := D) (ci := 6) (v := .ref (a 1)) (C := RX6) (T := TX6) (N := 9) hx hb htg ig_6 hown hK hP 0 (oh_wg (by decide) (sX_0 hT)) rfl 0 (by decide) (htg _ q_258) (fun _ h9 => h9) rfl dX6_axle_24 ?_
    refine lv_iload_n hx hb dX6_axle_27 rfl (lv_at hl 1 rfl) ?_
    refine lv_iload_n hx hb dX6_axle_28 rfl (lv_at hl 2 rfl) ?_
    refine tm_Vv (As := [.ref (a 1), .int x1, .int x2]) (rest := []) ⟨hx, hb, hml, hown, htg⟩ (e_X1_take l D E G _ a C hT x1 x2 (rg_w u_4.1 (by decide))) (cwV 3 htg (oh_gV q_703 q_704 q_705 q_69 q_706) rfl rfl rfl pdVX1_take ⟨Nat.le_of_ble_eq_true rfl, Nat.le_of_ble_eq_true rfl⟩) hK hP hD hG hS hA (va_recv hK hP (ci := 1) (q0 := 9) rfl (oh_wg (by decide) (sX_9 hT))) rfl hl.1 rfl (Nat.le_of_ble_eq_true rfl) dX6_axle_29 ⟨Nat.le_of_ble_eq_true rfl, Nat.le_of_ble_eq_true rfl⟩ (fun C_6 H locs hq_7 hP hD hS => ?_)
    obtain ⟨hT, f_8, hq_7⟩ := hq_7
    have hF := fr_tr hF f_8 (by decide) (by decide)
    refine W.widen (k := 0) (n := 0) (Nat.le_refl _) (Nat.le_refl _) ?_
    have t_9 := hT
    refine lv_aload_n hx hb dX6_axle_32 rfl (lv_at hl 0 rfl) ?_
    refine va_get (D := D) (ci := 6) (v := .ref (a 3)) (C := RX6) (T := TX6) (N := 9) hx hb htg ig_6 hown hK hP 0 (oh_wg (by decide) (sX_0 hT)) rfl 3 (by decide) (htg _ q_261) (fun _ h9 => h9) rfl dX6_axle_33 ?_
    refine va_get (D := D) (ci := 5) (v := .ref (a 9)) (C := RX5) (T := TX5) (N := 7) hx hb htg ig_5 hown hK hP 3 (oh_wg (by decide) (sX_3 hT)) rfl 1 (by decide) (htg _ q_169) (fun _ h9 => h9) rfl dX6_axle_36 ?_
    refine va_get (D := D) (ci := 1) (v := .int (gi (C_6 9) 3)) (C := RX1) (T := TX1) (N := 5) hx hb htg ig_1 hown hK hP 9 (oh_wg (by decide) (sX_9 hT)) rfl 3 (by decide) (htg _ q_151) (fun _ h9 => h9) rfl dX6_axle_39 ?_
    rw [hQ]
    exact W.iret (v := gi (C_6 9) 3) hx hb hr (fun t ht hW => ⟨⟨gi (C_6 9) 3, C_6, rfl, ⟨hT, hF, (fun A hA => Eq.trans (show gi (C_6 9) 3 = aL A x1 x2 by rw [hq_7.2.2 A hA, (show ga (C 13) (x1 * 3 + 0).toNatClampNeg = A 2 x1.toNatClampNeg 0 from colX_v (t := 2) (w := 0) hA (by decide) (rg_w (lo := 0) (hi := 4) u_4.1 (by decide)) rfl (rg_c (v := 0) (lo := 0) (hi := 0) (by decide)) (by decide) (show okPk (A 5 0 2) (A 5 0 3) x1 x2 by rw [← (show ga (C 10) ((2 : Int32)).toNatClampNeg = A 5 0 2 from hA.1 2 (by decide)), ← (show ga (C 10) ((3 : Int32)).toNatClampNeg = A 5 0 3 from hA.1 3 (by decide))]; exact u_4.2).1.2 (by unfold vis; omega)), (show ga (C 13) (x1 * 3 + 2).toNatClampNeg = A 2 x1.toNatClampNeg 2 from colX_v (t := 2) (w := 2) hA (by decide) (rg_w (lo := 0) (hi := 4) u_4.1 (by decide)) rfl (rg_c (v := 2) (lo := 0) (hi := 2) (by decide)) (by decide) (show okPk (A 5 0 2) (A 5 0 3) x1 x2 by rw [← (show ga (C 10) ((2 : Int32)).toNatClampNeg = A 5 0 2 from hA.1 2 (by decide)), ← (show ga (C 10) ((3 : Int32)).toNatClampNeg = A 5 0 3 from hA.1 3 (by decide))]; exact u_4.2).1.2 (by unfold vis; omega)), show ga (C 15) ((0 : Int32)).toNatClampNeg = A 4 0 0 from hA.2.1 0 (by decide)]; rfl) (pif_pos (show okPk (A 5 0 2) (A 5 0 3) x1 x2 by rw [← (show ga (C 10) ((2 : Int32)).toNatClampNeg = A 5 0 2 from hA.1 2 (by decide)), ← (show ga (C 10) ((3 : Int32)).toNatClampNeg = A 5 0 3 from hA.1 3 (by decide))]; exact u_4.2)).symm)⟩, ⟨by rw [ht]; exact hP, hD⟩⟩, hS.F ht⟩) hS.2.2 dX6_axle_42
  · have u_10 := hq_2.2.2 c_3
    refine lv_aload_n hx hb dX6_axle_9 rfl (lv_at hl 0 rfl) ?_
    refine lv_bipush (v := (-2)) hx hb dX6_axle_10 (by decide) ?_
    refine tm_V (As := [.int (-2)]) (rest := []) ⟨hx, hb, hml, hown, htg⟩ (c_X6_refuse l D E G _ a C hT ((-2) : Int32)) (cwV 1 htg (oh_gV q_296 q_298 q_0 q_66 q_299) rfl rfl rfl pdVX6_refuse ⟨Nat.le_of_ble_eq_true rfl, Nat.le_of_ble_eq_true rfl⟩) hK hP hD hG hS hA (va_recv hK hP (ci := 6) (q0 := 0) rfl (oh_wg (by decide) (sX_0 hT))) rfl hl.1 rfl (Nat.le_of_ble_eq_true rfl) dX6_axle_12 ⟨Nat.le_of_ble_eq_true rfl, Nat.le_of_ble_eq_true rfl⟩ (fun r_11 C_12 H locs hq_13 hP hD hS => ?_)
    obtain ⟨hT, f_14, hq_13⟩ := hq_13
    have hF := fr_tr hF f_14 (by decide) (by decide)
    refine W.widen (k := 0) (n := 0) (Nat.le_refl _) (Nat.le_refl _) ?_
    have t_15 := hT
    rw [hQ]
    exact W.iret (v := r_11) hx hb hr (fun t ht hW => ⟨⟨r_11, C_12, rfl, ⟨hT, hF, (fun A hA => Eq.trans hq_13 (pif_neg (show ¬ okPk (A 5 0 2) (A 5 0 3) x1 x2 by rw [← (show ga (C 10) ((2 : Int32)).toNatClampNeg = A 5 0 2 from hA.1 2 (by decide)), ← (show ga (C 10) ((3 : Int32)).toNatClampNeg = A 5 0 3 from hA.1 3 (by decide))]; exact u_10)).symm)⟩, ⟨by rw [ht]; exact hP, hD⟩⟩, hS.F ht⟩) hS.2.2 dX6_axle_15

set_option maxHeartbeats 4000000 in
set_option maxRecDepth 100000 in
theorem e_X6_strain (l : Launch) (D : va_G) (E : Nat → ClassId) (G : Nat → Nat) (sz : Nat) (a : Nat → Nat) (C : Nat → va_E) (hT : TyX a E C) (x1 : Int32) (x2 : Int32) (x3 : Int32) : Met l yX6_strain (oh_w yX6_strain cX6_strain 4 (some .int)) ({ frames := 3, cells := 0, slots := 0, locals := 67 }) (oh_Pm D E G [.ref (a 0), .int x1, .int x2, .int x3] (oh_W 35 a C) sz) (va_Qi (fun r (u : Nat → va_E) => TyX a E u ∧ fr [(7, 8), (9, 10)] [] C u ∧ (∀ A : LA, absX 10 C A → r = spStrain A x1 x2 x3)) (oh_B D (va_A (oh_W 35 a C) sz) (fun u => oh_W 35 a u)) (va_A (oh_W 35 a C) sz)) 0 0 (va_A (oh_W 35 a C) sz) := by
  refine Met.ofW (cc := cX6_strain) (maxL := 4) (ret := (some .int)) (by decide) rfl ?_
  intro p e s m args below meth c s₁ B hml hv
  obtain ⟨rfl, hsz, hP, hK, hD0, hG⟩ := hv
  have hx := B.exec
  have hb := B.bytes
  have hr := B.returns
  have hts := atoms_spec (ws := (oh_w yX6_strain cX6_strain 4 (some .int))) B.pre
  have htg : ∀ w ∈ oh_t, w.before _ s = true := fun w h => hts w (List.mem_cons_of_mem _ h)
  have hown : s.vm.findClass RX6 = some m.cls := findClass_of_methodNamed B.named
  have hlocks := B.notSynchronized
  have hT0 := hT
  subst hsz
  have hD := hD0.self (sz := s.heap.size)
  generalize hAe : va_A (oh_W 35 a C) s.heap.size = A at hD hG ⊢
  have hA : ∀ q : Nat, s.heap.size ≤ q → A q := fun q h => by rw [← hAe]; exact Or.inr h
  have hS : va_S A s.heap s.heap [] := va_S.rf
  have hF : fr [(7, 8), (9, 10)] [] C C := fr_rf
  have hl := lv_entry ([.ref (a 0), .int x1, .int x2, .int x3]) (n := 4) (Nat.le_of_ble_eq_true rfl)
  rw [lg_entry_eq]
  generalize (lg_sl ([.ref (a 0), .int x1, .int x2, .int x3]) ++ List.replicate (4 - (lg_sl ([.ref (a 0), .int x1, .int x2, .int x3])).length) Slot.unset).toArray = ls at hl ⊢
  have hl : lv_has ls 4 [(0, .ref (a 0)), (1, .int x1), (2, .int x2), (3, .int x3)] := hl
  refine oh_genQ (fun Q hQ => ?_)
  refine lv_aload_n hx hb dX6_strain_0 rfl (lv_at hl 0 rfl) ?_
  refine lv_iload_n hx hb dX6_strain_1 rfl (lv_at hl 1 rfl) ?_
  refine lv_iload_n hx hb dX6_strain_2 rfl (lv_at hl 2 rfl) ?_
  refine tq_V (As := [.int x1, .int x2]) (rest := []) (ws := (oh_W 35 a C)) ⟨hx, hb, hml, hown, htg⟩ (e_X6_isPack l D E G a C hT x1 x2) (cwV 2 htg (oh_gV q_695 q_697 q_16 q_66 q_698) rfl rfl rfl pdVX6_isPack ⟨Nat.le_of_ble_eq_true rfl, Nat.le_of_ble_eq_true rfl⟩) hK hP hG hS (va_recv hK hP (ci := 6) (q0 := 0) rfl (oh_wg (by decide) (sX_0 hT))) rfl hl.1 rfl (Nat.le_of_ble_eq_true rfl) dX6_strain_3 ⟨Nat.le_of_ble_eq_true rfl, Nat.le_of_ble_eq_true rfl⟩ (fun r_1 hq_2 => ?_)
  refine lv_if_eq (tgt := 17) hx hb dX6_strain_6 (by decide) (fun (c_3 : r_1 = 0) => ?_) (fun (c_3 : ¬ (r_1 = 0)) => ?_)
  · have u_4 := hq_2.2.2 c_3
    refine lv_aload_n hx hb dX6_strain_17 rfl (lv_at hl 0 rfl) ?_
    refine lv_bipush (v := (-2)) hx hb dX6_strain_18 (by decide) ?_
    refine tm_V (As := [.int (-2)]) (rest := []) ⟨hx, hb, hml, hown, htg⟩ (c_X6_refuse l D E G _ a C hT ((-2) : Int32)) (cwV 1 htg (oh_gV q_296 q_298 q_0 q_66 q_299) rfl rfl rfl pdVX6_refuse ⟨Nat.le_of_ble_eq_true rfl, Nat.le_of_ble_eq_true rfl⟩) hK hP hD hG hS hA (va_recv hK hP (ci := 6) (q0 := 0) rfl (oh_wg (by decide) (sX_0 hT))) rfl hl.1 rfl (Nat.le_of_ble_eq_true rfl) dX6_strain_20 ⟨Nat.le_of_ble_eq_true rfl, Nat.le_of_ble_eq_true rfl⟩ (fun r_5 C_6 H locs hq_7 hP hD hS => ?_)
    obtain ⟨hT, f_8, hq_7⟩ := hq_7
    have hF := fr_tr hF f_8 (by decide) (by decide)
    refine W.widen (k := 0) (n := 0) (Nat.le_refl _) (Nat.le_refl _) ?_
    have t_9 := hT
    rw [hQ]
    exact W.iret (v := r_5) hx hb hr (fun t ht hW => ⟨⟨r_5, C_6, rfl, ⟨hT, hF, (fun A hA => Eq.trans hq_7 (pif_neg (fun h8 => (show ¬ okPk (A 5 0 2) (A 5 0 3) x1 x2 by rw [← (show ga (C 10) ((2 : Int32)).toNatClampNeg = A 5 0 2 from hA.1 2 (by decide)), ← (show ga (C 10) ((3 : Int32)).toNatClampNeg = A 5 0 3 from hA.1 3 (by decide))]; exact u_4) h8.1)).symm)⟩, ⟨by rw [ht]; exact hP, hD⟩⟩, hS.F ht⟩) hS.2.2 dX6_strain_23
  · have u_10 := hq_2.2.1 c_3
    refine lv_aload_n hx hb dX6_strain_9 rfl (lv_at hl 0 rfl) ?_
    refine lv_iload_n hx hb dX6_strain_10 rfl (lv_at hl 3 rfl) ?_
    refine tq_V (As := [.int x3]) (rest := []) (ws := (oh_W 35 a C)) ⟨hx, hb, hml, hown, htg⟩ (e_X6_isBridge l D E G a C hT x3) (cwV 1 htg (oh_gV q_366 q_368 q_2 q_66 q_369) rfl rfl rfl pdVX6_isBridge ⟨Nat.le_of_ble_eq_true rfl, Nat.le_of_ble_eq_true rfl⟩) hK hP hG hS (va_recv hK hP (ci := 6) (q0 := 0) rfl (oh_wg (by decide) (sX_0 hT))) rfl hl.1 rfl (Nat.le_of_ble_eq_true rfl) dX6_strain_11 ⟨Nat.le_of_ble_eq_true rfl, Nat.le_of_ble_eq_true rfl⟩ (fun r_11 hq_12 => ?_)
    refine lv_if_ne (tgt := 24) hx hb dX6_strain_14 (by decide) (fun (c_13 : ¬ (r_11 = 0)) => ?_) (fun (c_13 : r_11 = 0) => ?_)
    · have u_14 := hq_12.2.1 c_13
      refine lv_aload_n hx hb dX6_strain_24 rfl (lv_at hl 0 rfl) ?_
      refine va_get (D := D) (ci := 6) (v := .ref (a 3)) (C := RX6) (T := TX6) (N := 9) hx hb htg ig_6 hown hK hP 0 (oh_wg (by decide) (sX_0 hT)) rfl 3 (by decide) (htg _ q_261) (fun _ h9 => h9) rfl dX6_strain_25 ?_
      refine va_get (D := D) (ci := 5) (v := .ref (a 9)) (C := RX5) (T := TX5) (N := 7) hx hb htg ig_5 hown hK hP 3 (oh_wg (by decide) (sX_3 hT)) rfl 1 (by decide) (htg _ q_169) (fun _ h9 => h9) rfl dX6_strain_28 ?_
      refine lv_aload_n hx hb dX6_strain_31 rfl (lv_at hl 0 rfl) ?_
      refine va_get (D := D) (ci := 6) (v := .ref (a 1)) (C := RX6) (T := TX6) (N := 9) hx hb htg ig_6 hown hK hP 0 (oh_wg (by decide) (sX_0 hT)) rfl 0 (by decide) (htg _ q_258) (fun _ h9 => h9) rfl dX6_strain_32 ?_
      refine lv_iload_n hx hb dX6_strain_35 rfl (lv_at hl 1 rfl) ?_
      refine lv_iload_n hx hb dX6_strain_36 rfl (lv_at hl 2 rfl) ?_
      refine tm_Vv (As := [.ref (a 1), .int x1, .int x2]) (rest := []) ⟨hx, hb, hml, hown, htg⟩ (e_X1_take l D E G _ a C hT x1 x2 (rg_w u_10.1 (by decide))) (cwV 3 htg (oh_gV q_703 q_704 q_705 q_69 q_706) rfl rfl rfl pdVX1_take ⟨Nat.le_of_ble_eq_true rfl, Nat.le_of_ble_eq_true rfl⟩) hK hP hD hG hS hA (va_recv hK hP (ci := 1) (q0 := 9) rfl (oh_wg (by decide) (sX_9 hT))) rfl hl.1 rfl (Nat.le_of_ble_eq_true rfl) dX6_strain_37 ⟨Nat.le_of_ble_eq_true rfl, Nat.le_of_ble_eq_true rfl⟩ (fun C_16 H locs hq_17 hP hD hS => ?_)
      obtain ⟨hT, f_18, hq_17⟩ := hq_17
      have hF := fr_tr hF f_18 (by decide) (by decide)
      refine W.widen (k := 0) (n := 0) (Nat.le_refl _) (Nat.le_refl _) ?_
      have t_19 := hT
      refine lv_aload_n hx hb dX6_strain_40 rfl (lv_at hl 0 rfl) ?_
      refine va_get (D := D) (ci := 6) (v := .ref (a 3)) (C := RX6) (T := TX6) (N := 9) hx hb htg ig_6 hown hK hP 0 (oh_wg (by decide) (sX_0 hT)) rfl 3 (by decide) (htg _ q_261) (fun _ h9 => h9) rfl dX6_strain_41 ?_
      refine va_get (D := D) (ci := 5) (v := .ref (a 9)) (C := RX5) (T := TX5) (N := 7) hx hb htg ig_5 hown hK hP 3 (oh_wg (by decide) (sX_3 hT)) rfl 1 (by decide) (htg _ q_169) (fun _ h9 => h9) rfl dX6_strain_44 ?_
      refine lv_aload_n hx hb dX6_strain_47 rfl (lv_at hl 0 rfl) ?_
      refine va_get (D := D) (ci := 6) (v := .ref (a 1)) (C := RX6) (T := TX6) (N := 9) hx hb htg ig_6 hown hK hP 0 (oh_wg (by decide) (sX_0 hT)) rfl 0 (by decide) (htg _ q_258) (fun _ h9 => h9) rfl dX6_strain_48 ?_
      refine lv_iload_n hx hb dX6_strain_51 rfl (lv_at hl 3 rfl) ?_
      refine lv_iconst (v := 2) hx hb dX6_strain_52 (by decide) ?_
      refine tq_V (As := [.int x3, .int 2]) (rest := [.ref (a 9)]) (ws := (oh_W 35 a C_16)) ⟨hx, hb, hml, hown, htg⟩ (c_X0_ofBridge l D E G a C_16 hT x3 (2 : Int32) (rg_w u_14.1 (by decide)) (rg_w (rg_c (v := 2) (lo := 2) (hi := 2) (by decide)) (by decide))) (cwV 2 htg (oh_gV q_392 q_385 q_386 q_67 q_387) rfl rfl rfl pdVX0_ofBridge ⟨Nat.le_of_ble_eq_true rfl, Nat.le_of_ble_eq_true rfl⟩) hK hP hG hS (va_recv hK hP (ci := 0) (q0 := 1) rfl (oh_wg (by decide) (sX_1 hT))) rfl hl.1 rfl (Nat.le_of_ble_eq_true rfl) dX6_strain_53 ⟨Nat.le_of_ble_eq_true rfl, Nat.le_of_ble_eq_true rfl⟩ (fun r_20 hq_21 => ?_)
      subst hq_21
      refine tq_V (As := [.int (ga (C_16 12) ((x3 * 10) + 2).toNatClampNeg)]) (rest := []) (ws := (oh_W 35 a C_16)) ⟨hx, hb, hml, hown, htg⟩ (e_X1_strainOn l D E G a C_16 hT (ga (C_16 12) ((x3 * 10) + 2).toNatClampNeg)) (cwV 1 htg (oh_gV q_723 q_724 q_725 q_69 q_726) rfl rfl rfl pdVX1_strainOn ⟨Nat.le_of_ble_eq_true rfl, Nat.le_of_ble_eq_true rfl⟩) hK hP hG hS (va_recv hK hP (ci := 1) (q0 := 9) rfl (oh_wg (by decide) (sX_9 hT))) rfl hl.1 rfl (Nat.le_of_ble_eq_true rfl) dX6_strain_56 ⟨Nat.le_of_ble_eq_true rfl, Nat.le_of_ble_eq_true rfl⟩ (fun r_22 hq_23 => ?_)
      rw [hQ]
      exact W.iret (v := r_22) hx hb hr (fun t ht hW => ⟨⟨r_22, C_16, rfl, ⟨hT, hF, (fun A hA => Eq.trans (Eq.trans hq_23 (by rw [(show ga (C_16 12) (x3 * 10 + 2).toNatClampNeg = A 1 x3.toNatClampNeg 2 from Eq.trans (congrArg (fun z => ga z _) (f_18.1 12 rfl (by decide))) (colX_v (t := 1) (w := 2) hA (by decide) (rg_w (lo := 0) (hi := 15) u_14.1 (by decide)) rfl (rg_c (v := 2) (lo := 0) (hi := 2) (by decide)) (by decide) (show 0 ≤ x3 ∧ x3 < A 5 0 1 by rw [← (show ga (C 10) ((1 : Int32)).toNatClampNeg = A 5 0 1 from hA.1 1 (by decide))]; exact u_14.2).2 (by unfold vis; intro z; exact absurd z.2 (by decide)))), (show gi (C_16 9) 0 = A 2 x1.toNatClampNeg 0 from Eq.trans hq_17.1 (show ga (C 13) (x1 * 3 + 0).toNatClampNeg = A 2 x1.toNatClampNeg 0 from colX_v (t := 2) (w := 0) hA (by decide) (rg_w (lo := 0) (hi := 4) u_10.1 (by decide)) rfl (rg_c (v := 0) (lo := 0) (hi := 0) (by decide)) (by decide) (show okPk (A 5 0 2) (A 5 0 3) x1 x2 by rw [← (show ga (C 10) ((2 : Int32)).toNatClampNeg = A 5 0 2 from hA.1 2 (by decide)), ← (show ga (C 10) ((3 : Int32)).toNatClampNeg = A 5 0 3 from hA.1 3 (by decide))]; exact u_10.2).1.2 (by unfold vis; omega))), (show gi (C_16 9) 1 = A 2 x1.toNatClampNeg 1 from Eq.trans hq_17.2.1 (show ga (C 13) (x1 * 3 + 1).toNatClampNeg = A 2 x1.toNatClampNeg 1 from colX_v (t := 2) (w := 1) hA (by decide) (rg_w (lo := 0) (hi := 4) u_10.1 (by decide)) rfl (rg_c (v := 1) (lo := 0) (hi := 1) (by decide)) (by decide) (show okPk (A 5 0 2) (A 5 0 3) x1 x2 by rw [← (show ga (C 10) ((2 : Int32)).toNatClampNeg = A 5 0 2 from hA.1 2 (by decide)), ← (show ga (C 10) ((3 : Int32)).toNatClampNeg = A 5 0 3 from hA.1 3 (by decide))]; exact u_10.2).1.2 (by unfold vis; omega))), (show gi (C_16 9) 3 = aL A x1 x2 by rw [hq_17.2.2 A hA, (show ga (C 13) (x1 * 3 + 0).toNatClampNeg = A 2 x1.toNatClampNeg 0 from colX_v (t := 2) (w := 0) hA (by decide) (rg_w (lo := 0) (hi := 4) u_10.1 (by decide)) rfl (rg_c (v := 0) (lo := 0) (hi := 0) (by decide)) (by decide) (show okPk (A 5 0 2) (A 5 0 3) x1 x2 by rw [← (show ga (C 10) ((2 : Int32)).toNatClampNeg = A 5 0 2 from hA.1 2 (by decide)), ← (show ga (C 10) ((3 : Int32)).toNatClampNeg = A 5 0 3 from hA.1 3 (by decide))]; exact u_10.2).1.2 (by unfold vis; omega)), (show ga (C 13) (x1 * 3 + 2).toNatClampNeg = A 2 x1.toNatClampNeg 2 from colX_v (t := 2) (w := 2) hA (by decide) (rg_w (lo := 0) (hi := 4) u_10.1 (by decide)) rfl (rg_c (v := 2) (lo := 0) (hi := 2) (by decide)) (by decide) (show okPk (A 5 0 2) (A 5 0 3) x1 x2 by rw [← (show ga (C 10) ((2 : Int32)).toNatClampNeg = A 5 0 2 from hA.1 2 (by decide)), ← (show ga (C 10) ((3 : Int32)).toNatClampNeg = A 5 0 3 from hA.1 3 (by decide))]; exact u_10.2).1.2 (by unfold vis; omega)), show ga (C 15) ((0 : Int32)).toNatClampNeg = A 4 0 0 from hA.2.1 0 (by decide)]; rfl)]; rfl)) (pif_pos ⟨(show okPk (A 5 0 2) (A 5 0 3) x1 x2 by rw [← (show ga (C 10) ((2 : Int32)).toNatClampNeg = A 5 0 2 from hA.1 2 (by decide)), ← (show ga (C 10) ((3 : Int32)).toNatClampNeg = A 5 0 3 from hA.1 3 (by decide))]; exact u_10.2), (show 0 ≤ x3 ∧ x3 < A 5 0 1 by rw [← (show ga (C 10) ((1 : Int32)).toNatClampNeg = A 5 0 1 from hA.1 1 (by decide))]; exact u_14.2)⟩).symm)⟩, ⟨by rw [ht]; exact hP, hD⟩⟩, hS.F ht⟩) hS.2.2 dX6_strain_59
    · have u_24 := hq_12.2.2 c_13
      refine lv_aload_n hx hb dX6_strain_17 rfl (lv_at hl 0 rfl) ?_
      refine lv_bipush (v := (-2)) hx hb dX6_strain_18 (by decide) ?_
      refine tm_V (As := [.int (-2)]) (rest := []) ⟨hx, hb, hml, hown, htg⟩ (c_X6_refuse l D E G _ a C hT ((-2) : Int32)) (cwV 1 htg (oh_gV q_296 q_298 q_0 q_66 q_299) rfl rfl rfl pdVX6_refuse ⟨Nat.le_of_ble_eq_true rfl, Nat.le_of_ble_eq_true rfl⟩) hK hP hD hG hS hA (va_recv hK hP (ci := 6) (q0 := 0) rfl (oh_wg (by decide) (sX_0 hT))) rfl hl.1 rfl (Nat.le_of_ble_eq_true rfl) dX6_strain_20 ⟨Nat.le_of_ble_eq_true rfl, Nat.le_of_ble_eq_true rfl⟩ (fun r_25 C_26 H locs hq_27 hP hD hS => ?_)
      obtain ⟨hT, f_28, hq_27⟩ := hq_27
      have hF := fr_tr hF f_28 (by decide) (by decide)
      refine W.widen (k := 0) (n := 0) (Nat.le_refl _) (Nat.le_refl _) ?_
      have t_29 := hT
      rw [hQ]
      exact W.iret (v := r_25) hx hb hr (fun t ht hW => ⟨⟨r_25, C_26, rfl, ⟨hT, hF, (fun A hA => Eq.trans hq_27 (pif_neg (fun h8 => by have h7 := h8.2; rw [← (show ga (C 10) ((1 : Int32)).toNatClampNeg = A 5 0 1 from hA.1 1 (by decide))] at h7; exact u_24 h7)).symm)⟩, ⟨by rw [ht]; exact hP, hD⟩⟩, hS.F ht⟩) hS.2.2 dX6_strain_23

theorem i32_sa (x y z : Int32) : x - (y + z) = x - y - z := (Int32.sub_sub x y z).symm
theorem mn_le {s a : Int32} (h : s ≤ a) : s = if s < a then s else a := by
  by_cases c : s < a
  · rw [if_pos c]
  · rw [if_neg c]
    exact Int32.le_antisymm h (Int32.not_lt.mp c)
theorem mn_gt {s a : Int32} (h : a < s) : a = if s < a then s else a := (if_neg (Int32.not_lt.mpr (Int32.le_of_lt h))).symm
theorem cut_p {v b : Int32} (h : (0 : Int32) < b) : v / b = cutBy v b := (if_pos h).symm

set_option maxHeartbeats 4000000 in
set_option maxRecDepth 100000 in
theorem e_X7_axleLoad (l : Launch) (D : va_G) (E : Nat → ClassId) (G : Nat → Nat) (a : Nat → Nat) (C : Nat → va_E) (n : Nat) (hn : 74 ≤ n) (hT : TyM a E C) (x1 : Int32) (x2 : Int32) (hx1 : rg x1 0 4) (hw : oh_pos C x1) : Met l yX7_axleLoad (oh_w yX7_axleLoad cX7_axleLoad 5 (some .int)) ({ frames := 0, cells := 0, slots := 0, locals := 0 }) (oh_Pp D E G [.ref (a 0), .int x1, .int x2] (oh_W n a C)) (vp_Si (fun r => (∀ A : LA, absM C A → r = aLoad (ga (C (64 + (x1).toNatClampNeg)) ((0 : Int32)).toNatClampNeg) (ga (C (64 + (x1).toNatClampNeg)) ((2 : Int32)).toNatClampNeg) (ga (C 13) ((0 : Int32)).toNatClampNeg) (sumA A x2 0 (A 5 0 3).toNatClampNeg)))) 0 0 (fun _ => False) := by
  refine Met.ofW (cc := cX7_axleLoad) (maxL := 5) (ret := (some .int)) (by decide) rfl ?_
  intro p e s m args below meth c s₁ B hml hv
  obtain ⟨rfl, hP, hK, hG⟩ := hv
  have hx := B.exec
  have hb := B.bytes
  have hr := B.returns
  have hts := atoms_spec (ws := (oh_w yX7_axleLoad cX7_axleLoad 5 (some .int))) B.pre
  have htg : ∀ w ∈ oh_t, w.before _ s = true := fun w h => hts w (List.mem_cons_of_mem _ h)
  have hown : s.vm.findClass RX7 = some m.cls := findClass_of_methodNamed B.named
  have hlocks := B.notSynchronized
  have hT0 := hT
  have hS : va_S (fun _ => False) s.heap s.heap [] := va_S.rf
  have hl := lv_entry ([.ref (a 0), .int x1, .int x2]) (n := 5) (Nat.le_of_ble_eq_true rfl)
  rw [lg_entry_eq]
  generalize (lg_sl ([.ref (a 0), .int x1, .int x2]) ++ List.replicate (5 - (lg_sl ([.ref (a 0), .int x1, .int x2])).length) Slot.unset).toArray = ls at hl ⊢
  have hl : lv_has ls 5 [(0, .ref (a 0)), (1, .int x1), (2, .int x2)] := hl
  refine oh_genQ (fun Q hQ => ?_)
  refine lv_aload_n hx hb dX7_axleLoad_0 rfl (lv_at hl 0 rfl) ?_
  refine va_get (D := D) (ci := 7) (v := .ref (a 11)) (C := RX7) (T := TX7) (N := 29) hx hb htg ig_7 hown hK hP 0 (oh_wg (Nat.lt_of_lt_of_le (by decide) hn) (sM_0 hT)) rfl 14 (by decide) (htg _ q_987) (fun _ h9 => h9) rfl dX7_axleLoad_1 ?_
  refine lv_iload_n hx hb dX7_axleLoad_4 rfl (lv_at hl 1 rfl) ?_
  have n_1 : vp_in x1 5 := (rg_in hx1 (by decide))
  have b_2 : (x1).toNatClampNeg < 5 := vp_lt n_1
  refine th_aald hx hb hK hP 11 2 (Nat.lt_of_lt_of_le (by decide) hn) (sM_11 hT) rfl n_1 dX7_axleLoad_5 ?_
  refine lv_iconst (v := 2) hx hb dX7_axleLoad_6 (by decide) ?_
  refine th_iald hx hb hK hP (64 + (x1).toNatClampNeg) (lt_blk b_2 hn (by decide)) (hT.bwaggon b_2).1 (rg_in (rg_c (v := 2) (lo := 2) (hi := 2) (by decide)) (by decide)) dX7_axleLoad_7 ?_
  refine lv_aload_n hx hb dX7_axleLoad_8 rfl (lv_at hl 0 rfl) ?_
  refine va_get (D := D) (ci := 7) (v := .ref (a 13)) (C := RX7) (T := TX7) (N := 29) hx hb htg ig_7 hown hK hP 0 (oh_wg (Nat.lt_of_lt_of_le (by decide) hn) (sM_0 hT)) rfl 17 (by decide) (htg _ q_990) (fun _ h9 => h9) rfl dX7_axleLoad_9 ?_
  refine lv_iconst (v := 0) hx hb dX7_axleLoad_12 (by decide) ?_
  refine th_iald hx hb hK hP 13 (Nat.lt_of_lt_of_le (by decide) hn) (sM_13 hT) (rg_in (rg_c (v := 0) (lo := 0) (hi := 0) (by decide)) (by decide)) dX7_axleLoad_13 ?_
  refine lv_iadd hx hb dX7_axleLoad_14 ?_
  refine lv_istore_n (lv' := [(3, .int ((ga (C (64 + (x1).toNatClampNeg)) ((2 : Int32)).toNatClampNeg) + (ga (C 13) ((0 : Int32)).toNatClampNeg))), (0, .ref (a 0)), (1, .int x1), (2, .int x2)]) hx hb dX7_axleLoad_15 rfl hl (by decide) rfl (fun ls hl => ?_)
  refine lv_iconst (v := 0) hx hb dX7_axleLoad_16 (by decide) ?_
  refine lv_istore (lv' := [(4, .int 0), (3, .int ((ga (C (64 + (x1).toNatClampNeg)) ((2 : Int32)).toNatClampNeg) + (ga (C 13) ((0 : Int32)).toNatClampNeg))), (0, .ref (a 0)), (1, .int x1), (2, .int x2)]) hx hb dX7_axleLoad_17 hl (by decide) rfl (fun ls hl => ?_)
  have L_19 : ∀ (d : Nat) (z19_4 : Int32) (z19_3 : Int32) (ls : Array Slot), (5 - z19_4.toInt).toNat = d → rg z19_4 0 5 → (∀ A : LA, absM C A → z19_3 = (ga (C (64 + (x1).toNatClampNeg)) ((2 : Int32)).toNatClampNeg + ga (C 13) ((0 : Int32)).toNatClampNeg) - sumA A x2 0 z19_4.toNatClampNeg) → (z19_4.toInt ≤ (gi (C 0) 15).toInt) → lv_has ls 5 [(4, .int z19_4), (3, .int z19_3), (0, .ref (a 0)), (1, .int x1), (2, .int x2)] → W p l e ({ frames := 0, cells := 0, slots := 0, locals := 0 }) s m (([.ref (a 0), .int x1, .int x2] : List Value).toArray) below meth c s.heap [] 0 0 Q (F0 m 19 ls []) := by
    intro d
    induction d using Nat.strongRecOn with
    | ind d ih_19 =>
    intro z19_4 z19_3 ls hd_19 hz19_4 hx_19 hy_19 hl
    refine lv_iload hx hb dX7_axleLoad_19 (lv_at hl 0 rfl) ?_
    refine lv_aload_n hx hb dX7_axleLoad_21 rfl (lv_at hl 2 rfl) ?_
    refine va_get (D := D) (ci := 7) (v := .int (gi (C 0) 15)) (C := RX7) (T := TX7) (N := 29) hx hb htg ig_7 hown hK hP 0 (oh_wg (Nat.lt_of_lt_of_le (by decide) hn) (sM_0 hT)) rfl 15 (by decide) (htg _ q_988) (fun _ h9 => h9) rfl dX7_axleLoad_22 ?_
    refine lv_icmp_ge (tgt := 59) hx hb dX7_axleLoad_25 (by decide) (fun (c_3 : (gi (C 0) 15) ≤ z19_4) => ?_) (fun (c_3 : ¬ ((gi (C 0) 15) ≤ z19_4)) => ?_)
    · refine lv_iload_n hx hb dX7_axleLoad_59 rfl (lv_at hl 1 rfl) ?_
      refine lv_if_ge (tgt := 67) hx hb dX7_axleLoad_60 (by decide) (fun (c_4 : (0 : Int32) ≤ z19_3) => ?_) (fun (c_4 : ¬ ((0 : Int32) ≤ z19_3)) => ?_)
      · refine lv_iload_n hx hb dX7_axleLoad_67 rfl (lv_at hl 1 rfl) ?_
        refine lv_istore_n (lv' := [(3, .int z19_3), (4, .int z19_4), (0, .ref (a 0)), (1, .int x1), (2, .int x2)]) hx hb dX7_axleLoad_68 rfl hl (by decide) rfl (fun ls hl => ?_)
        refine lv_iload_n hx hb dX7_axleLoad_69 rfl (lv_at hl 0 rfl) ?_
        refine lv_aload_n hx hb dX7_axleLoad_70 rfl (lv_at hl 2 rfl) ?_
        refine va_get (D := D) (ci := 7) (v := .ref (a 11)) (C := RX7) (T := TX7) (N := 29) hx hb htg ig_7 hown hK hP 0 (oh_wg (Nat.lt_of_lt_of_le (by decide) hn) (sM_0 hT)) rfl 14 (by decide) (htg _ q_987) (fun _ h9 => h9) rfl dX7_axleLoad_71 ?_
        refine lv_iload_n hx hb dX7_axleLoad_74 rfl (lv_at hl 3 rfl) ?_
        have n_5 : vp_in x1 5 := (rg_in hx1 (by decide))
        have b_6 : (x1).toNatClampNeg < 5 := vp_lt n_5
        refine th_aald hx hb hK hP 11 2 (Nat.lt_of_lt_of_le (by decide) hn) (sM_11 hT) rfl n_5 dX7_axleLoad_75 ?_
        refine lv_iconst (v := 0) hx hb dX7_axleLoad_76 (by decide) ?_
        refine th_iald hx hb hK hP (64 + (x1).toNatClampNeg) (lt_blk b_6 hn (by decide)) (hT.bwaggon b_6).1 (rg_in (rg_c (v := 0) (lo := 0) (hi := 0) (by decide)) (by decide)) dX7_axleLoad_77 ?_
        refine lv_iadd hx hb dX7_axleLoad_78 ?_
        refine lv_iconst (v := 1) hx hb dX7_axleLoad_79 (by decide) ?_
        refine lv_isub hx hb dX7_axleLoad_80 ?_
        refine lv_aload_n hx hb dX7_axleLoad_81 rfl (lv_at hl 2 rfl) ?_
        refine va_get (D := D) (ci := 7) (v := .ref (a 11)) (C := RX7) (T := TX7) (N := 29) hx hb htg ig_7 hown hK hP 0 (oh_wg (Nat.lt_of_lt_of_le (by decide) hn) (sM_0 hT)) rfl 14 (by decide) (htg _ q_987) (fun _ h9 => h9) rfl dX7_axleLoad_82 ?_
        refine lv_iload_n hx hb dX7_axleLoad_85 rfl (lv_at hl 3 rfl) ?_
        have n_7 : vp_in x1 5 := (rg_in hx1 (by decide))
        have b_8 : (x1).toNatClampNeg < 5 := vp_lt n_7
        refine th_aald hx hb hK hP 11 2 (Nat.lt_of_lt_of_le (by decide) hn) (sM_11 hT) rfl n_7 dX7_axleLoad_86 ?_
        refine lv_iconst (v := 0) hx hb dX7_axleLoad_87 (by decide) ?_
        refine th_iald hx hb hK hP (64 + (x1).toNatClampNeg) (lt_blk b_8 hn (by decide)) (hT.bwaggon b_8).1 (rg_in (rg_c (v := 0) (lo := 0) (hi := 0) (by decide)) (by decide)) dX7_axleLoad_88 ?_
        refine lv_idiv hx hb dX7_axleLoad_89 (rg_ne0 (oh_pos0 hw) (by decide)) ?_
        rw [hQ]
        exact W.iret (v := ((z19_3 + (ga (C (64 + (x1).toNatClampNeg)) ((0 : Int32)).toNatClampNeg)) - 1) / (ga (C (64 + (x1).toNatClampNeg)) ((0 : Int32)).toNatClampNeg)) hx hb hr (fun t ht hW => ⟨((z19_3 + (ga (C (64 + (x1).toNatClampNeg)) ((0 : Int32)).toNatClampNeg)) - 1) / (ga (C (64 + (x1).toNatClampNeg)) ((0 : Int32)).toNatClampNeg), rfl, (fun A hA => by have h1 := hx_19 A hA; rw [(show z19_4 = A 5 0 3 from Eq.trans (show z19_4 = gi (C 0) 15 from Int32.toInt_inj.mp (by have h7 := Int32.le_iff_toInt_le.mp c_3; have h8 := hy_19; omega)) (hA.1 3 (by decide)))] at h1; unfold aLoad rndUp; rw [if_pos (show (0 : Int32) < ga (C (64 + (x1).toNatClampNeg)) ((0 : Int32)).toNatClampNeg from Int32.lt_iff_toInt_lt.mpr hw.1), ← h1, (if_neg (Int32.not_lt.mpr c_4))]), ht⟩) (fun q h => by cases h) dX7_axleLoad_90
      · refine lv_iconst (v := 0) hx hb dX7_axleLoad_63 (by decide) ?_
        refine lv_goto (tgt := 68) hx hb dX7_axleLoad_64 (by decide) ?_
        refine lv_istore_n (lv' := [(3, .int 0), (4, .int z19_4), (0, .ref (a 0)), (1, .int x1), (2, .int x2)]) hx hb dX7_axleLoad_68 rfl hl (by decide) rfl (fun ls hl => ?_)
        refine lv_iload_n hx hb dX7_axleLoad_69 rfl (lv_at hl 0 rfl) ?_
        refine lv_aload_n hx hb dX7_axleLoad_70 rfl (lv_at hl 2 rfl) ?_
        refine va_get (D := D) (ci := 7) (v := .ref (a 11)) (C := RX7) (T := TX7) (N := 29) hx hb htg ig_7 hown hK hP 0 (oh_wg (Nat.lt_of_lt_of_le (by decide) hn) (sM_0 hT)) rfl 14 (by decide) (htg _ q_987) (fun _ h9 => h9) rfl dX7_axleLoad_71 ?_
        refine lv_iload_n hx hb dX7_axleLoad_74 rfl (lv_at hl 3 rfl) ?_
        have n_9 : vp_in x1 5 := (rg_in hx1 (by decide))
        have b_10 : (x1).toNatClampNeg < 5 := vp_lt n_9
        refine th_aald hx hb hK hP 11 2 (Nat.lt_of_lt_of_le (by decide) hn) (sM_11 hT) rfl n_9 dX7_axleLoad_75 ?_
        refine lv_iconst (v := 0) hx hb dX7_axleLoad_76 (by decide) ?_
        refine th_iald hx hb hK hP (64 + (x1).toNatClampNeg) (lt_blk b_10 hn (by decide)) (hT.bwaggon b_10).1 (rg_in (rg_c (v := 0) (lo := 0) (hi := 0) (by decide)) (by decide)) dX7_axleLoad_77 ?_
        refine lv_iadd hx hb dX7_axleLoad_78 ?_
        refine lv_iconst (v := 1) hx hb dX7_axleLoad_79 (by decide) ?_
        refine lv_isub hx hb dX7_axleLoad_80 ?_
        refine lv_aload_n hx hb dX7_axleLoad_81 rfl (lv_at hl 2 rfl) ?_
        refine va_get (D := D) (ci := 7) (v := .ref (a 11)) (C := RX7) (T := TX7) (N := 29) hx hb htg ig_7 hown hK hP 0 (oh_wg (Nat.lt_of_lt_of_le (by decide) hn) (sM_0 hT)) rfl 14 (by decide) (htg _ q_987) (fun _ h9 => h9) rfl dX7_axleLoad_82 ?_
        refine lv_iload_n hx hb dX7_axleLoad_85 rfl (lv_at hl 3 rfl) ?_
        have n_11 : vp_in x1 5 := (rg_in hx1 (by decide))
        have b_12 : (x1).toNatClampNeg < 5 := vp_lt n_11
        refine th_aald hx hb hK hP 11 2 (Nat.lt_of_lt_of_le (by decide) hn) (sM_11 hT) rfl n_11 dX7_axleLoad_86 ?_
        refine lv_iconst (v := 0) hx hb dX7_axleLoad_87 (by decide) ?_
        refine th_iald hx hb hK hP (64 + (x1).toNatClampNeg) (lt_blk b_12 hn (by decide)) (hT.bwaggon b_12).1 (rg_in (rg_c (v := 0) (lo := 0) (hi := 0) (by decide)) (by decide)) dX7_axleLoad_88 ?_
        refine lv_idiv hx hb dX7_axleLoad_89 (rg_ne0 (oh_pos0 hw) (by decide)) ?_
        rw [hQ]
        exact W.iret (v := ((0 + (ga (C (64 + (x1).toNatClampNeg)) ((0 : Int32)).toNatClampNeg)) - 1) / (ga (C (64 + (x1).toNatClampNeg)) ((0 : Int32)).toNatClampNeg)) hx hb hr (fun t ht hW => ⟨((0 + (ga (C (64 + (x1).toNatClampNeg)) ((0 : Int32)).toNatClampNeg)) - 1) / (ga (C (64 + (x1).toNatClampNeg)) ((0 : Int32)).toNatClampNeg), rfl, (fun A hA => by have h1 := hx_19 A hA; rw [(show z19_4 = A 5 0 3 from Eq.trans (show z19_4 = gi (C 0) 15 from Int32.toInt_inj.mp (by have h7 := Int32.le_iff_toInt_le.mp c_3; have h8 := hy_19; omega)) (hA.1 3 (by decide)))] at h1; unfold aLoad rndUp; rw [if_pos (show (0 : Int32) < ga (C (64 + (x1).toNatClampNeg)) ((0 : Int32)).toNatClampNeg from Int32.lt_iff_toInt_lt.mpr hw.1), ← h1, (if_pos (Int32.not_le.mp c_4))]), ht⟩) (fun q h => by cases h) dX7_axleLoad_90
    · refine lv_iload_n hx hb dX7_axleLoad_28 rfl (lv_at hl 1 rfl) ?_
      refine lv_iload_n hx hb dX7_axleLoad_29 rfl (lv_at hl 4 rfl) ?_
      refine lv_iload hx hb dX7_axleLoad_30 (lv_at hl 0 rfl) ?_
      refine lv_ishr hx hb dX7_axleLoad_32 ?_
      refine lv_iconst (v := 1) hx hb dX7_axleLoad_33 (by decide) ?_
      refine lv_iand hx hb dX7_axleLoad_34 ?_
      refine lv_if_eq (tgt := 50) hx hb dX7_axleLoad_35 (by decide) (fun (c_13 : ((x2 >>> (z19_4 &&& 31)) &&& 1) = 0) => ?_) (fun (c_13 : ¬ (((x2 >>> (z19_4 &&& 31)) &&& 1) = 0)) => ?_)
      · refine lv_iconst (v := 0) hx hb dX7_axleLoad_50 (by decide) ?_
        refine lv_isub hx hb dX7_axleLoad_51 ?_
        refine lv_istore_n (lv' := [(3, .int (z19_3 - 0)), (4, .int z19_4), (0, .ref (a 0)), (1, .int x1), (2, .int x2)]) hx hb dX7_axleLoad_52 rfl hl (by decide) rfl (fun ls hl => ?_)
        refine lv_iinc (v := z19_4 + 1) (lv' := [(4, .int (z19_4 + 1)), (3, .int (z19_3 - 0)), (0, .ref (a 0)), (1, .int x1), (2, .int x2)]) hx hb dX7_axleLoad_53 hl (k := 1) rfl (by rfl) (by decide) rfl (fun ls hl => ?_)
        refine lv_goto (tgt := 19) hx hb dX7_axleLoad_56 (by decide) ?_
        exact ih_19 _ (hd_19 ▸ mu_up 5 (rn_ltu (u' := 4) (Int32.not_le.mp c_3) hz19_4 (fM_0_15 hT0) (by decide)) (by decide)) (z19_4 + 1) (z19_3 - 0) ls rfl (rg_w (rg_add (lo := 1) (hi := 5) (rn_ltu (u' := 4) (Int32.not_le.mp c_3) hz19_4 (fM_0_15 hT0) (by decide)) (rg_c (v := 1) (lo := 1) (hi := 1) (by decide)) (by decide)) (by decide)) (fun A hA => by rw [sumA_s (rg_w (lo := 0) (hi := 4) (rn_ltu (u' := 4) (Int32.not_le.mp c_3) hz19_4 (fM_0_15 hT0) (by decide)) (by decide)) (by decide), pif_pos c_13, Int32.add_zero, ← hx_19 A hA, Int32.sub_zero]) (by have h7 := Int32.lt_iff_toInt_lt.mp (Int32.not_le.mp c_3); have h8 : (z19_4 + 1).toInt = z19_4.toInt + 1 := oh_incr (rn_ltu (u' := 4) (Int32.not_le.mp c_3) hz19_4 (fM_0_15 hT0) (by decide)) (by decide); omega) (lv_sub hl [0, 1, 2, 3, 4] rfl)
      · refine lv_aload_n hx hb dX7_axleLoad_38 rfl (lv_at hl 2 rfl) ?_
        refine va_get (D := D) (ci := 7) (v := .ref (a 12)) (C := RX7) (T := TX7) (N := 29) hx hb htg ig_7 hown hK hP 0 (oh_wg (Nat.lt_of_lt_of_le (by decide) hn) (sM_0 hT)) rfl 16 (by decide) (htg _ q_989) (fun _ h9 => h9) rfl dX7_axleLoad_39 ?_
        refine lv_iload hx hb dX7_axleLoad_42 (lv_at hl 0 rfl) ?_
        have n_14 : vp_in z19_4 5 := (rg_in (rn_ltu (u' := 4) (Int32.not_le.mp c_3) hz19_4 (fM_0_15 hT0) (by decide)) (by decide))
        have b_15 : (z19_4).toNatClampNeg < 5 := vp_lt n_14
        refine th_aald hx hb hK hP 12 2 (Nat.lt_of_lt_of_le (by decide) hn) (sM_12 hT) rfl n_14 dX7_axleLoad_44 ?_
        refine lv_iconst (v := 0) hx hb dX7_axleLoad_45 (by decide) ?_
        refine th_iald hx hb hK hP (69 + (z19_4).toNatClampNeg) (lt_blk b_15 hn (by decide)) (hT.bpart b_15).1 (rg_in (rg_c (v := 0) (lo := 0) (hi := 0) (by decide)) (by decide)) dX7_axleLoad_46 ?_
        refine lv_goto (tgt := 51) hx hb dX7_axleLoad_47 (by decide) ?_
        refine lv_isub hx hb dX7_axleLoad_51 ?_
        refine lv_istore_n (lv' := [(3, .int (z19_3 - (ga (C (69 + (z19_4).toNatClampNeg)) ((0 : Int32)).toNatClampNeg))), (4, .int z19_4), (0, .ref (a 0)), (1, .int x1), (2, .int x2)]) hx hb dX7_axleLoad_52 rfl hl (by decide) rfl (fun ls hl => ?_)
        refine lv_iinc (v := z19_4 + 1) (lv' := [(4, .int (z19_4 + 1)), (3, .int (z19_3 - (ga (C (69 + (z19_4).toNatClampNeg)) ((0 : Int32)).toNatClampNeg))), (0, .ref (a 0)), (1, .int x1), (2, .int x2)]) hx hb dX7_axleLoad_53 hl (k := 1) rfl (by rfl) (by decide) rfl (fun ls hl => ?_)
        refine lv_goto (tgt := 19) hx hb dX7_axleLoad_56 (by decide) ?_
        exact ih_19 _ (hd_19 ▸ mu_up 5 (rn_ltu (u' := 4) (Int32.not_le.mp c_3) hz19_4 (fM_0_15 hT0) (by decide)) (by decide)) (z19_4 + 1) (z19_3 - (ga (C (69 + (z19_4).toNatClampNeg)) ((0 : Int32)).toNatClampNeg)) ls rfl (rg_w (rg_add (lo := 1) (hi := 5) (rn_ltu (u' := 4) (Int32.not_le.mp c_3) hz19_4 (fM_0_15 hT0) (by decide)) (rg_c (v := 1) (lo := 1) (hi := 1) (by decide)) (by decide)) (by decide)) (fun A hA => by rw [sumA_s (rg_w (lo := 0) (hi := 4) (rn_ltu (u' := 4) (Int32.not_le.mp c_3) hz19_4 (fM_0_15 hT0) (by decide)) (by decide)) (by decide), pif_neg c_13, i32_sa, ← hx_19 A hA, (show ga (C (69 + (z19_4).toNatClampNeg)) ((0 : Int32)).toNatClampNeg = A 3 z19_4.toNatClampNeg 0 from colM_v (t := 3) hA (by decide) (rg_w (lo := 0) (hi := 4) (rn_ltu (u' := 4) (Int32.not_le.mp c_3) hz19_4 (fM_0_15 hT0) (by decide)) (by decide)) (by decide) (show z19_4 < A 5 0 3 from oh_lte (Int32.not_le.mp c_3) (hA.1 3 (by decide))) (by unfold vis; omega))]) (by have h7 := Int32.lt_iff_toInt_lt.mp (Int32.not_le.mp c_3); have h8 : (z19_4 + 1).toInt = z19_4.toInt + 1 := oh_incr (rn_ltu (u' := 4) (Int32.not_le.mp c_3) hz19_4 (fM_0_15 hT0) (by decide)) (by decide); omega) (lv_sub hl [0, 1, 2, 3, 4] rfl)
  exact L_19 _ 0 ((ga (C (64 + (x1).toNatClampNeg)) ((2 : Int32)).toNatClampNeg) + (ga (C 13) ((0 : Int32)).toNatClampNeg)) ls rfl (rg_w (rg_c (v := 0) (lo := 0) (hi := 0) (by decide)) (by decide)) (fun A hA => (Int32.sub_zero _).symm) (fM_0_15 hT0).1 (lv_sub hl [0, 1, 2, 3, 4] rfl)

set_option maxHeartbeats 4000000 in
set_option maxRecDepth 100000 in
theorem e_X7_strainOf (l : Launch) (D : va_G) (E : Nat → ClassId) (G : Nat → Nat) (a : Nat → Nat) (C : Nat → va_E) (n : Nat) (hn : 74 ≤ n) (hT : TyM a E C) (x1 : Int32) (x2 : Int32) (x3 : Int32) (hx1 : rg x1 0 4) (hx3 : rg x3 0 15) (hw : oh_pos C x1) : Met l yX7_strainOf (oh_w yX7_strainOf cX7_strainOf 5 (some .int)) ({ frames := 1, cells := 0, slots := 0, locals := 24 }) (oh_Pp D E G [.ref (a 0), .int x1, .int x2, .int x3] (oh_W n a C)) (vp_Si (fun r => (∀ A : LA, absM C A → r = (if cutBy (ga (C (48 + (x3).toNatClampNeg)) ((2 : Int32)).toNatClampNeg) (ga (C (64 + (x1).toNatClampNeg)) ((1 : Int32)).toNatClampNeg) + 1 < ga (C (64 + (x1).toNatClampNeg)) ((0 : Int32)).toNatClampNeg then cutBy (ga (C (48 + (x3).toNatClampNeg)) ((2 : Int32)).toNatClampNeg) (ga (C (64 + (x1).toNatClampNeg)) ((1 : Int32)).toNatClampNeg) + 1 else ga (C (64 + (x1).toNatClampNeg)) ((0 : Int32)).toNatClampNeg) * aLoad (ga (C (64 + (x1).toNatClampNeg)) ((0 : Int32)).toNatClampNeg) (ga (C (64 + (x1).toNatClampNeg)) ((2 : Int32)).toNatClampNeg) (ga (C 13) ((0 : Int32)).toNatClampNeg) (sumA A x2 0 (A 5 0 3).toNatClampNeg)))) 0 0 (fun _ => False) := by
  refine Met.ofW (cc := cX7_strainOf) (maxL := 5) (ret := (some .int)) (by decide) rfl ?_
  intro p e s m args below meth c s₁ B hml hv
  obtain ⟨rfl, hP, hK, hG⟩ := hv
  have hx := B.exec
  have hb := B.bytes
  have hr := B.returns
  have hts := atoms_spec (ws := (oh_w yX7_strainOf cX7_strainOf 5 (some .int))) B.pre
  have htg : ∀ w ∈ oh_t, w.before _ s = true := fun w h => hts w (List.mem_cons_of_mem _ h)
  have hown : s.vm.findClass RX7 = some m.cls := findClass_of_methodNamed B.named
  have hlocks := B.notSynchronized
  have hT0 := hT
  have hS : va_S (fun _ => False) s.heap s.heap [] := va_S.rf
  have hl := lv_entry ([.ref (a 0), .int x1, .int x2, .int x3]) (n := 5) (Nat.le_of_ble_eq_true rfl)
  rw [lg_entry_eq]
  generalize (lg_sl ([.ref (a 0), .int x1, .int x2, .int x3]) ++ List.replicate (5 - (lg_sl ([.ref (a 0), .int x1, .int x2, .int x3])).length) Slot.unset).toArray = ls at hl ⊢
  have hl : lv_has ls 5 [(0, .ref (a 0)), (1, .int x1), (2, .int x2), (3, .int x3)] := hl
  refine oh_genQ (fun Q hQ => ?_)
  refine lv_aload_n hx hb dX7_strainOf_0 rfl (lv_at hl 0 rfl) ?_
  refine va_get (D := D) (ci := 7) (v := .ref (a 10)) (C := RX7) (T := TX7) (N := 29) hx hb htg ig_7 hown hK hP 0 (oh_wg (Nat.lt_of_lt_of_le (by decide) hn) (sM_0 hT)) rfl 12 (by decide) (htg _ q_985) (fun _ h9 => h9) rfl dX7_strainOf_1 ?_
  refine lv_iload_n hx hb dX7_strainOf_4 rfl (lv_at hl 3 rfl) ?_
  have n_1 : vp_in x3 16 := (rg_in hx3 (by decide))
  have b_2 : (x3).toNatClampNeg < 16 := vp_lt n_1
  refine th_aald hx hb hK hP 10 2 (Nat.lt_of_lt_of_le (by decide) hn) (sM_10 hT) rfl n_1 dX7_strainOf_5 ?_
  refine lv_iconst (v := 2) hx hb dX7_strainOf_6 (by decide) ?_
  refine th_iald hx hb hK hP (48 + (x3).toNatClampNeg) (lt_blk b_2 hn (by decide)) (hT.bbridge b_2).1 (rg_in (rg_c (v := 2) (lo := 2) (hi := 2) (by decide)) (by decide)) dX7_strainOf_7 ?_
  refine lv_aload_n hx hb dX7_strainOf_8 rfl (lv_at hl 0 rfl) ?_
  refine va_get (D := D) (ci := 7) (v := .ref (a 11)) (C := RX7) (T := TX7) (N := 29) hx hb htg ig_7 hown hK hP 0 (oh_wg (Nat.lt_of_lt_of_le (by decide) hn) (sM_0 hT)) rfl 14 (by decide) (htg _ q_987) (fun _ h9 => h9) rfl dX7_strainOf_9 ?_
  refine lv_iload_n hx hb dX7_strainOf_12 rfl (lv_at hl 1 rfl) ?_
  have n_3 : vp_in x1 5 := (rg_in hx1 (by decide))
  have b_4 : (x1).toNatClampNeg < 5 := vp_lt n_3
  refine th_aald hx hb hK hP 11 2 (Nat.lt_of_lt_of_le (by decide) hn) (sM_11 hT) rfl n_3 dX7_strainOf_13 ?_
  refine lv_iconst (v := 1) hx hb dX7_strainOf_14 (by decide) ?_
  refine th_iald hx hb hK hP (64 + (x1).toNatClampNeg) (lt_blk b_4 hn (by decide)) (hT.bwaggon b_4).1 (rg_in (rg_c (v := 1) (lo := 1) (hi := 1) (by decide)) (by decide)) dX7_strainOf_15 ?_
  refine lv_idiv hx hb dX7_strainOf_16 (rg_ne0 (oh_pos1 hw) (by decide)) ?_
  refine lv_iconst (v := 1) hx hb dX7_strainOf_17 (by decide) ?_
  refine lv_iadd hx hb dX7_strainOf_18 ?_
  refine lv_istore (lv' := [(4, .int (((ga (C (48 + (x3).toNatClampNeg)) ((2 : Int32)).toNatClampNeg) / (ga (C (64 + (x1).toNatClampNeg)) ((1 : Int32)).toNatClampNeg)) + 1)), (0, .ref (a 0)), (1, .int x1), (2, .int x2), (3, .int x3)]) hx hb dX7_strainOf_19 hl (by decide) rfl (fun ls hl => ?_)
  refine lv_iload hx hb dX7_strainOf_21 (lv_at hl 0 rfl) ?_
  refine lv_aload_n hx hb dX7_strainOf_23 rfl (lv_at hl 1 rfl) ?_
  refine va_get (D := D) (ci := 7) (v := .ref (a 11)) (C := RX7) (T := TX7) (N := 29) hx hb htg ig_7 hown hK hP 0 (oh_wg (Nat.lt_of_lt_of_le (by decide) hn) (sM_0 hT)) rfl 14 (by decide) (htg _ q_987) (fun _ h9 => h9) rfl dX7_strainOf_24 ?_
  refine lv_iload_n hx hb dX7_strainOf_27 rfl (lv_at hl 2 rfl) ?_
  have n_5 : vp_in x1 5 := (rg_in hx1 (by decide))
  have b_6 : (x1).toNatClampNeg < 5 := vp_lt n_5
  refine th_aald hx hb hK hP 11 2 (Nat.lt_of_lt_of_le (by decide) hn) (sM_11 hT) rfl n_5 dX7_strainOf_28 ?_
  refine lv_iconst (v := 0) hx hb dX7_strainOf_29 (by decide) ?_
  refine th_iald hx hb hK hP (64 + (x1).toNatClampNeg) (lt_blk b_6 hn (by decide)) (hT.bwaggon b_6).1 (rg_in (rg_c (v := 0) (lo := 0) (hi := 0) (by decide)) (by decide)) dX7_strainOf_30 ?_
  refine lv_icmp_le (tgt := 45) hx hb dX7_strainOf_31 (by decide) (fun (c_7 : (((ga (C (48 + (x3).toNatClampNeg)) ((2 : Int32)).toNatClampNeg) / (ga (C (64 + (x1).toNatClampNeg)) ((1 : Int32)).toNatClampNeg)) + 1) ≤ (ga (C (64 + (x1).toNatClampNeg)) ((0 : Int32)).toNatClampNeg)) => ?_) (fun (c_7 : ¬ ((((ga (C (48 + (x3).toNatClampNeg)) ((2 : Int32)).toNatClampNeg) / (ga (C (64 + (x1).toNatClampNeg)) ((1 : Int32)).toNatClampNeg)) + 1) ≤ (ga (C (64 + (x1).toNatClampNeg)) ((0 : Int32)).toNatClampNeg))) => ?_)
  · refine lv_iload hx hb dX7_strainOf_45 (lv_at hl 0 rfl) ?_
    refine lv_istore (lv' := [(4, .int (((ga (C (48 + (x3).toNatClampNeg)) ((2 : Int32)).toNatClampNeg) / (ga (C (64 + (x1).toNatClampNeg)) ((1 : Int32)).toNatClampNeg)) + 1)), (0, .ref (a 0)), (1, .int x1), (2, .int x2), (3, .int x3)]) hx hb dX7_strainOf_47 hl (by decide) rfl (fun ls hl => ?_)
    refine lv_iload hx hb dX7_strainOf_49 (lv_at hl 0 rfl) ?_
    refine lv_aload_n hx hb dX7_strainOf_51 rfl (lv_at hl 1 rfl) ?_
    refine lv_iload_n hx hb dX7_strainOf_52 rfl (lv_at hl 2 rfl) ?_
    refine lv_iload_n hx hb dX7_strainOf_53 rfl (lv_at hl 3 rfl) ?_
    refine tq_V (As := [.int x1, .int x2]) (rest := [.int (((ga (C (48 + (x3).toNatClampNeg)) ((2 : Int32)).toNatClampNeg) / (ga (C (64 + (x1).toNatClampNeg)) ((1 : Int32)).toNatClampNeg)) + 1)]) (ws := (oh_W n a C)) ⟨hx, hb, hml, hown, htg⟩ (e_X7_axleLoad l D E G a C n hn hT x1 x2 (rg_w hx1 (by decide)) hw) (cwV 2 htg (oh_gV q_1294 q_1296 q_51 q_73 q_1297) rfl rfl rfl pdVX7_axleLoad ⟨Nat.le_of_ble_eq_true rfl, Nat.le_of_ble_eq_true rfl⟩) hK hP hG hS (va_recv hK hP (ci := 7) (q0 := 0) rfl (oh_wg (Nat.lt_of_lt_of_le (by decide) hn) (sM_0 hT))) rfl hl.1 rfl (Nat.le_of_ble_eq_true rfl) dX7_strainOf_54 ⟨Nat.le_of_ble_eq_true rfl, Nat.le_of_ble_eq_true rfl⟩ (fun r_8 hq_9 => ?_)
    refine lv_imul hx hb dX7_strainOf_57 ?_
    rw [hQ]
    exact W.iret (v := (((ga (C (48 + (x3).toNatClampNeg)) ((2 : Int32)).toNatClampNeg) / (ga (C (64 + (x1).toNatClampNeg)) ((1 : Int32)).toNatClampNeg)) + 1) * r_8) hx hb hr (fun t ht hW => ⟨(((ga (C (48 + (x3).toNatClampNeg)) ((2 : Int32)).toNatClampNeg) / (ga (C (64 + (x1).toNatClampNeg)) ((1 : Int32)).toNatClampNeg)) + 1) * r_8, rfl, (fun A hA => by rw [hq_9 A hA, ← cut_p (v := ga (C (48 + (x3).toNatClampNeg)) ((2 : Int32)).toNatClampNeg) (show (0 : Int32) < ga (C (64 + (x1).toNatClampNeg)) ((1 : Int32)).toNatClampNeg from Int32.lt_iff_toInt_lt.mpr hw.2)]; exact congrArg (fun z => z * aLoad (ga (C (64 + (x1).toNatClampNeg)) ((0 : Int32)).toNatClampNeg) (ga (C (64 + (x1).toNatClampNeg)) ((2 : Int32)).toNatClampNeg) (ga (C 13) ((0 : Int32)).toNatClampNeg) (sumA A x2 0 (A 5 0 3).toNatClampNeg)) (mn_le c_7)), ht⟩) (fun q h => by cases h) dX7_strainOf_58
  · refine lv_aload_n hx hb dX7_strainOf_34 rfl (lv_at hl 1 rfl) ?_
    refine va_get (D := D) (ci := 7) (v := .ref (a 11)) (C := RX7) (T := TX7) (N := 29) hx hb htg ig_7 hown hK hP 0 (oh_wg (Nat.lt_of_lt_of_le (by decide) hn) (sM_0 hT)) rfl 14 (by decide) (htg _ q_987) (fun _ h9 => h9) rfl dX7_strainOf_35 ?_
    refine lv_iload_n hx hb dX7_strainOf_38 rfl (lv_at hl 2 rfl) ?_
    have n_10 : vp_in x1 5 := (rg_in hx1 (by decide))
    have b_11 : (x1).toNatClampNeg < 5 := vp_lt n_10
    refine th_aald hx hb hK hP 11 2 (Nat.lt_of_lt_of_le (by decide) hn) (sM_11 hT) rfl n_10 dX7_strainOf_39 ?_
    refine lv_iconst (v := 0) hx hb dX7_strainOf_40 (by decide) ?_
    refine th_iald hx hb hK hP (64 + (x1).toNatClampNeg) (lt_blk b_11 hn (by decide)) (hT.bwaggon b_11).1 (rg_in (rg_c (v := 0) (lo := 0) (hi := 0) (by decide)) (by decide)) dX7_strainOf_41 ?_
    refine lv_goto (tgt := 47) hx hb dX7_strainOf_42 (by decide) ?_
    refine lv_istore (lv' := [(4, .int (ga (C (64 + (x1).toNatClampNeg)) ((0 : Int32)).toNatClampNeg)), (0, .ref (a 0)), (1, .int x1), (2, .int x2), (3, .int x3)]) hx hb dX7_strainOf_47 hl (by decide) rfl (fun ls hl => ?_)
    refine lv_iload hx hb dX7_strainOf_49 (lv_at hl 0 rfl) ?_
    refine lv_aload_n hx hb dX7_strainOf_51 rfl (lv_at hl 1 rfl) ?_
    refine lv_iload_n hx hb dX7_strainOf_52 rfl (lv_at hl 2 rfl) ?_
    refine lv_iload_n hx hb dX7_strainOf_53 rfl (lv_at hl 3 rfl) ?_
    refine tq_V (As := [.int x1, .int x2]) (rest := [.int (ga (C (64 + (x1).toNatClampNeg)) ((0 : Int32)).toNatClampNeg)]) (ws := (oh_W n a C)) ⟨hx, hb, hml, hown, htg⟩ (e_X7_axleLoad l D E G a C n hn hT x1 x2 (rg_w hx1 (by decide)) hw) (cwV 2 htg (oh_gV q_1294 q_1296 q_51 q_73 q_1297) rfl rfl rfl pdVX7_axleLoad ⟨Nat.le_of_ble_eq_true rfl, Nat.le_of_ble_eq_true rfl⟩) hK hP hG hS (va_recv hK hP (ci := 7) (q0 := 0) rfl (oh_wg (Nat.lt_of_lt_of_le (by decide) hn) (sM_0 hT))) rfl hl.1 rfl (Nat.le_of_ble_eq_true rfl) dX7_strainOf_54 ⟨Nat.le_of_ble_eq_true rfl, Nat.le_of_ble_eq_true rfl⟩ (fun r_12 hq_13 => ?_)
    refine lv_imul hx hb dX7_strainOf_57 ?_
    rw [hQ]
    exact W.iret (v := (ga (C (64 + (x1).toNatClampNeg)) ((0 : Int32)).toNatClampNeg) * r_12) hx hb hr (fun t ht hW => ⟨(ga (C (64 + (x1).toNatClampNeg)) ((0 : Int32)).toNatClampNeg) * r_12, rfl, (fun A hA => by rw [hq_13 A hA, ← cut_p (v := ga (C (48 + (x3).toNatClampNeg)) ((2 : Int32)).toNatClampNeg) (show (0 : Int32) < ga (C (64 + (x1).toNatClampNeg)) ((1 : Int32)).toNatClampNeg from Int32.lt_iff_toInt_lt.mpr hw.2)]; exact congrArg (fun z => z * aLoad (ga (C (64 + (x1).toNatClampNeg)) ((0 : Int32)).toNatClampNeg) (ga (C (64 + (x1).toNatClampNeg)) ((2 : Int32)).toNatClampNeg) (ga (C 13) ((0 : Int32)).toNatClampNeg) (sumA A x2 0 (A 5 0 3).toNatClampNeg)) (mn_gt (Int32.not_le.mp c_7))), ht⟩) (fun q h => by cases h) dX7_strainOf_58

set_option maxHeartbeats 4000000 in
set_option maxRecDepth 100000 in
theorem e_X7_axle (l : Launch) (D : va_G) (E : Nat → ClassId) (G : Nat → Nat) (sz : Nat) (a : Nat → Nat) (C : Nat → va_E) (n : Nat) (hn : 74 ≤ n) (hT : TyM a E C) (x1 : Int32) (x2 : Int32) (hR : RelM C) : Met l yX7_axle (oh_w yX7_axle cX7_axle 3 (some .int)) ({ frames := 3, cells := 0, slots := 0, locals := 68 }) (oh_Pm D E G [.ref (a 0), .int x1, .int x2] (oh_W n a C) sz) (va_Qi (fun r (u : Nat → va_E) => TyM a E u ∧ fr [(8, 9)] [] C u ∧ (RelM u) ∧ (∀ A : LA, absM C A → r = spAxle A x1 x2)) (oh_B D (va_A (oh_W n a C) sz) (fun u => oh_W n a u)) (va_A (oh_W n a C) sz)) 0 0 (va_A (oh_W n a C) sz) := by
  refine Met.ofW (cc := cX7_axle) (maxL := 3) (ret := (some .int)) (by decide) rfl ?_
  intro p e s m args below meth c s₁ B hml hv
  obtain ⟨rfl, hsz, hP, hK, hD0, hG⟩ := hv
  have hx := B.exec
  have hb := B.bytes
  have hr := B.returns
  have hts := atoms_spec (ws := (oh_w yX7_axle cX7_axle 3 (some .int))) B.pre
  have htg : ∀ w ∈ oh_t, w.before _ s = true := fun w h => hts w (List.mem_cons_of_mem _ h)
  have hown : s.vm.findClass RX7 = some m.cls := findClass_of_methodNamed B.named
  have hlocks := B.notSynchronized
  have hT0 := hT
  subst hsz
  have hD := hD0.self (sz := s.heap.size)
  generalize hAe : va_A (oh_W n a C) s.heap.size = A at hD hG ⊢
  have hA : ∀ q : Nat, s.heap.size ≤ q → A q := fun q h => by rw [← hAe]; exact Or.inr h
  have hS : va_S A s.heap s.heap [] := va_S.rf
  have hF : fr [(8, 9)] [] C C := fr_rf
  have hl := lv_entry ([.ref (a 0), .int x1, .int x2]) (n := 3) (Nat.le_of_ble_eq_true rfl)
  rw [lg_entry_eq]
  generalize (lg_sl ([.ref (a 0), .int x1, .int x2]) ++ List.replicate (3 - (lg_sl ([.ref (a 0), .int x1, .int x2])).length) Slot.unset).toArray = ls at hl ⊢
  have hl : lv_has ls 3 [(0, .ref (a 0)), (1, .int x1), (2, .int x2)] := hl
  refine oh_genQ (fun Q hQ => ?_)
  refine lv_aload_n hx hb dX7_axle_0 rfl (lv_at hl 0 rfl) ?_
  refine lv_iload_n hx hb dX7_axle_1 rfl (lv_at hl 1 rfl) ?_
  refine lv_iload_n hx hb dX7_axle_2 rfl (lv_at hl 2 rfl) ?_
  refine tq_V (As := [.int x1, .int x2]) (rest := []) (ws := (oh_W n a C)) ⟨hx, hb, hml, hown, htg⟩ (e_X7_isPack l D E G a C n hn hT x1 x2 hR.1) (cwV 2 htg (oh_gV q_1290 q_1292 q_50 q_73 q_1293) rfl rfl rfl pdVX7_isPack ⟨Nat.le_of_ble_eq_true rfl, Nat.le_of_ble_eq_true rfl⟩) hK hP hG hS (va_recv hK hP (ci := 7) (q0 := 0) rfl (oh_wg (Nat.lt_of_lt_of_le (by decide) hn) (sM_0 hT))) rfl hl.1 rfl (Nat.le_of_ble_eq_true rfl) dX7_axle_3 ⟨Nat.le_of_ble_eq_true rfl, Nat.le_of_ble_eq_true rfl⟩ (fun r_1 hq_2 => ?_)
  refine lv_if_eq (tgt := 18) hx hb dX7_axle_6 (by decide) (fun (c_3 : r_1 = 0) => ?_) (fun (c_3 : ¬ (r_1 = 0)) => ?_)
  · have u_4 := hq_2.2.2 c_3
    refine lv_aload_n hx hb dX7_axle_18 rfl (lv_at hl 0 rfl) ?_
    refine lv_bipush (v := (-2)) hx hb dX7_axle_19 (by decide) ?_
    refine tm_V (As := [.int (-2)]) (rest := []) ⟨hx, hb, hml, hown, htg⟩ (c_X7_refuse l D E G _ a C n hn hT ((-2) : Int32) (rg_w (rg_c (v := (-2)) (lo := (-2)) (hi := (-2)) (by decide)) (by decide))) (cwV 1 htg (oh_gV q_1071 q_1073 q_29 q_73 q_1074) rfl rfl rfl pdVX7_refuse ⟨Nat.le_of_ble_eq_true rfl, Nat.le_of_ble_eq_true rfl⟩) hK hP hD hG hS hA (va_recv hK hP (ci := 7) (q0 := 0) rfl (oh_wg (Nat.lt_of_lt_of_le (by decide) hn) (sM_0 hT))) rfl hl.1 rfl (Nat.le_of_ble_eq_true rfl) dX7_axle_21 ⟨Nat.le_of_ble_eq_true rfl, Nat.le_of_ble_eq_true rfl⟩ (fun r_5 C_6 H locs hq_7 hP hD hS => ?_)
    obtain ⟨hT, f_8, hq_7⟩ := hq_7
    have hF := fr_tr hF f_8 (by decide) (by decide)
    refine W.widen (k := 0) (n := 0) (Nat.le_refl _) (Nat.le_refl _) ?_
    have t_9 := hT
    rw [hQ]
    exact W.iret (v := r_5) hx hb hr (fun t ht hW => ⟨⟨r_5, C_6, rfl, ⟨hT, hF, ⟨⟨hR.1.fr hF (by decide), hR.2.fr hF (by decide)⟩, (fun A hA => Eq.trans hq_7 (pif_neg (show ¬ okPk (A 5 0 2) (A 5 0 3) x1 x2 by rw [← (show gi (C 0) 13 = A 5 0 2 from hA.1 2 (by decide)), ← (show gi (C 0) 15 = A 5 0 3 from hA.1 3 (by decide))]; exact u_4)).symm)⟩⟩, ⟨by rw [ht]; exact hP, hD⟩⟩, hS.F ht⟩) hS.2.2 dX7_axle_24
  · have u_10 := hq_2.2.1 c_3
    refine lv_aload_n hx hb dX7_axle_9 rfl (lv_at hl 0 rfl) ?_
    refine lv_iload_n hx hb dX7_axle_10 rfl (lv_at hl 1 rfl) ?_
    refine lv_iload_n hx hb dX7_axle_11 rfl (lv_at hl 2 rfl) ?_
    refine tq_V (As := [.int x1, .int x2]) (rest := []) (ws := (oh_W n a C)) ⟨hx, hb, hml, hown, htg⟩ (e_X7_axleLoad l D E G a C n hn hT x1 x2 (rg_w u_10.1 (by decide)) u_10.2.1) (cwV 2 htg (oh_gV q_1294 q_1296 q_51 q_73 q_1297) rfl rfl rfl pdVX7_axleLoad ⟨Nat.le_of_ble_eq_true rfl, Nat.le_of_ble_eq_true rfl⟩) hK hP hG hS (va_recv hK hP (ci := 7) (q0 := 0) rfl (oh_wg (Nat.lt_of_lt_of_le (by decide) hn) (sM_0 hT))) rfl hl.1 rfl (Nat.le_of_ble_eq_true rfl) dX7_axle_12 ⟨Nat.le_of_ble_eq_true rfl, Nat.le_of_ble_eq_true rfl⟩ (fun r_11 hq_12 => ?_)
    refine lv_goto (tgt := 24) hx hb dX7_axle_15 (by decide) ?_
    rw [hQ]
    exact W.iret (v := r_11) hx hb hr (fun t ht hW => ⟨⟨r_11, C, rfl, ⟨hT, hF, ⟨hR, (fun A hA => Eq.trans (by rw [hq_12 A hA, (show ga (C (64 + (x1).toNatClampNeg)) ((0 : Int32)).toNatClampNeg = A 2 x1.toNatClampNeg 0 from colM_v (t := 2) hA (by decide) (rg_w (lo := 0) (hi := 4) u_10.1 (by decide)) (by decide) (show okPk (A 5 0 2) (A 5 0 3) x1 x2 by rw [← (show gi (C 0) 13 = A 5 0 2 from hA.1 2 (by decide)), ← (show gi (C 0) 15 = A 5 0 3 from hA.1 3 (by decide))]; exact u_10.2.2.2).1.2 (by unfold vis; omega)), (show ga (C (64 + (x1).toNatClampNeg)) ((2 : Int32)).toNatClampNeg = A 2 x1.toNatClampNeg 2 from colM_v (t := 2) hA (by decide) (rg_w (lo := 0) (hi := 4) u_10.1 (by decide)) (by decide) (show okPk (A 5 0 2) (A 5 0 3) x1 x2 by rw [← (show gi (C 0) 13 = A 5 0 2 from hA.1 2 (by decide)), ← (show gi (C 0) 15 = A 5 0 3 from hA.1 3 (by decide))]; exact u_10.2.2.2).1.2 (by unfold vis; omega)), show ga (C 13) ((0 : Int32)).toNatClampNeg = A 4 0 0 from hA.2.1 0 (by decide)]; rfl) (pif_pos (show okPk (A 5 0 2) (A 5 0 3) x1 x2 by rw [← (show gi (C 0) 13 = A 5 0 2 from hA.1 2 (by decide)), ← (show gi (C 0) 15 = A 5 0 3 from hA.1 3 (by decide))]; exact u_10.2.2.2)).symm)⟩⟩, ⟨by rw [ht]; exact hP, hD⟩⟩, hS.F ht⟩) hS.2.2 dX7_axle_24

set_option maxHeartbeats 4000000 in
set_option maxRecDepth 100000 in
theorem e_X7_strain (l : Launch) (D : va_G) (E : Nat → ClassId) (G : Nat → Nat) (sz : Nat) (a : Nat → Nat) (C : Nat → va_E) (n : Nat) (hn : 74 ≤ n) (hT : TyM a E C) (x1 : Int32) (x2 : Int32) (x3 : Int32) (hR : RelM C) : Met l yX7_strain (oh_w yX7_strain cX7_strain 4 (some .int)) ({ frames := 3, cells := 0, slots := 0, locals := 68 }) (oh_Pm D E G [.ref (a 0), .int x1, .int x2, .int x3] (oh_W n a C) sz) (va_Qi (fun r (u : Nat → va_E) => TyM a E u ∧ fr [(8, 9)] [] C u ∧ (RelM u) ∧ (∀ A : LA, absM C A → r = spStrain A x1 x2 x3)) (oh_B D (va_A (oh_W n a C) sz) (fun u => oh_W n a u)) (va_A (oh_W n a C) sz)) 0 0 (va_A (oh_W n a C) sz) := by
  refine Met.ofW (cc := cX7_strain) (maxL := 4) (ret := (some .int)) (by decide) rfl ?_
  intro p e s m args below meth c s₁ B hml hv
  obtain ⟨rfl, hsz, hP, hK, hD0, hG⟩ := hv
  have hx := B.exec
  have hb := B.bytes
  have hr := B.returns
  have hts := atoms_spec (ws := (oh_w yX7_strain cX7_strain 4 (some .int))) B.pre
  have htg : ∀ w ∈ oh_t, w.before _ s = true := fun w h => hts w (List.mem_cons_of_mem _ h)
  have hown : s.vm.findClass RX7 = some m.cls := findClass_of_methodNamed B.named
  have hlocks := B.notSynchronized
  have hT0 := hT
  subst hsz
  have hD := hD0.self (sz := s.heap.size)
  generalize hAe : va_A (oh_W n a C) s.heap.size = A at hD hG ⊢
  have hA : ∀ q : Nat, s.heap.size ≤ q → A q := fun q h => by rw [← hAe]; exact Or.inr h
  have hS : va_S A s.heap s.heap [] := va_S.rf
  have hF : fr [(8, 9)] [] C C := fr_rf
  have hl := lv_entry ([.ref (a 0), .int x1, .int x2, .int x3]) (n := 4) (Nat.le_of_ble_eq_true rfl)
  rw [lg_entry_eq]
  generalize (lg_sl ([.ref (a 0), .int x1, .int x2, .int x3]) ++ List.replicate (4 - (lg_sl ([.ref (a 0), .int x1, .int x2, .int x3])).length) Slot.unset).toArray = ls at hl ⊢
  have hl : lv_has ls 4 [(0, .ref (a 0)), (1, .int x1), (2, .int x2), (3, .int x3)] := hl
  refine oh_genQ (fun Q hQ => ?_)
  refine lv_aload_n hx hb dX7_strain_0 rfl (lv_at hl 0 rfl) ?_
  refine lv_iload_n hx hb dX7_strain_1 rfl (lv_at hl 1 rfl) ?_
  refine lv_iload_n hx hb dX7_strain_2 rfl (lv_at hl 2 rfl) ?_
  refine tq_V (As := [.int x1, .int x2]) (rest := []) (ws := (oh_W n a C)) ⟨hx, hb, hml, hown, htg⟩ (e_X7_isPack l D E G a C n hn hT x1 x2 hR.1) (cwV 2 htg (oh_gV q_1290 q_1292 q_50 q_73 q_1293) rfl rfl rfl pdVX7_isPack ⟨Nat.le_of_ble_eq_true rfl, Nat.le_of_ble_eq_true rfl⟩) hK hP hG hS (va_recv hK hP (ci := 7) (q0 := 0) rfl (oh_wg (Nat.lt_of_lt_of_le (by decide) hn) (sM_0 hT))) rfl hl.1 rfl (Nat.le_of_ble_eq_true rfl) dX7_strain_3 ⟨Nat.le_of_ble_eq_true rfl, Nat.le_of_ble_eq_true rfl⟩ (fun r_1 hq_2 => ?_)
  refine lv_if_eq (tgt := 27) hx hb dX7_strain_6 (by decide) (fun (c_3 : r_1 = 0) => ?_) (fun (c_3 : ¬ (r_1 = 0)) => ?_)
  · have u_4 := hq_2.2.2 c_3
    refine lv_aload_n hx hb dX7_strain_27 rfl (lv_at hl 0 rfl) ?_
    refine lv_bipush (v := (-2)) hx hb dX7_strain_28 (by decide) ?_
    refine tm_V (As := [.int (-2)]) (rest := []) ⟨hx, hb, hml, hown, htg⟩ (c_X7_refuse l D E G _ a C n hn hT ((-2) : Int32) (rg_w (rg_c (v := (-2)) (lo := (-2)) (hi := (-2)) (by decide)) (by decide))) (cwV 1 htg (oh_gV q_1071 q_1073 q_29 q_73 q_1074) rfl rfl rfl pdVX7_refuse ⟨Nat.le_of_ble_eq_true rfl, Nat.le_of_ble_eq_true rfl⟩) hK hP hD hG hS hA (va_recv hK hP (ci := 7) (q0 := 0) rfl (oh_wg (Nat.lt_of_lt_of_le (by decide) hn) (sM_0 hT))) rfl hl.1 rfl (Nat.le_of_ble_eq_true rfl) dX7_strain_30 ⟨Nat.le_of_ble_eq_true rfl, Nat.le_of_ble_eq_true rfl⟩ (fun r_5 C_6 H locs hq_7 hP hD hS => ?_)
    obtain ⟨hT, f_8, hq_7⟩ := hq_7
    have hF := fr_tr hF f_8 (by decide) (by decide)
    refine W.widen (k := 0) (n := 0) (Nat.le_refl _) (Nat.le_refl _) ?_
    have t_9 := hT
    rw [hQ]
    exact W.iret (v := r_5) hx hb hr (fun t ht hW => ⟨⟨r_5, C_6, rfl, ⟨hT, hF, ⟨⟨hR.1.fr hF (by decide), hR.2.fr hF (by decide)⟩, (fun A hA => Eq.trans hq_7 (pif_neg (fun h8 => (show ¬ okPk (A 5 0 2) (A 5 0 3) x1 x2 by rw [← (show gi (C 0) 13 = A 5 0 2 from hA.1 2 (by decide)), ← (show gi (C 0) 15 = A 5 0 3 from hA.1 3 (by decide))]; exact u_4) h8.1)).symm)⟩⟩, ⟨by rw [ht]; exact hP, hD⟩⟩, hS.F ht⟩) hS.2.2 dX7_strain_33
  · have u_10 := hq_2.2.1 c_3
    refine lv_aload_n hx hb dX7_strain_9 rfl (lv_at hl 0 rfl) ?_
    refine lv_iload_n hx hb dX7_strain_10 rfl (lv_at hl 3 rfl) ?_
    refine tq_V (As := [.int x3]) (rest := []) (ws := (oh_W n a C)) ⟨hx, hb, hml, hown, htg⟩ (e_X7_isBridge l D E G a C n hn hT x3) (cwV 1 htg (oh_gV q_1098 q_1100 q_30 q_73 q_1101) rfl rfl rfl pdVX7_isBridge ⟨Nat.le_of_ble_eq_true rfl, Nat.le_of_ble_eq_true rfl⟩) hK hP hG hS (va_recv hK hP (ci := 7) (q0 := 0) rfl (oh_wg (Nat.lt_of_lt_of_le (by decide) hn) (sM_0 hT))) rfl hl.1 rfl (Nat.le_of_ble_eq_true rfl) dX7_strain_11 ⟨Nat.le_of_ble_eq_true rfl, Nat.le_of_ble_eq_true rfl⟩ (fun r_11 hq_12 => ?_)
    refine lv_if_eq (tgt := 27) hx hb dX7_strain_14 (by decide) (fun (c_13 : r_11 = 0) => ?_) (fun (c_13 : ¬ (r_11 = 0)) => ?_)
    · have u_14 := hq_12.2.2 c_13
      refine lv_aload_n hx hb dX7_strain_27 rfl (lv_at hl 0 rfl) ?_
      refine lv_bipush (v := (-2)) hx hb dX7_strain_28 (by decide) ?_
      refine tm_V (As := [.int (-2)]) (rest := []) ⟨hx, hb, hml, hown, htg⟩ (c_X7_refuse l D E G _ a C n hn hT ((-2) : Int32) (rg_w (rg_c (v := (-2)) (lo := (-2)) (hi := (-2)) (by decide)) (by decide))) (cwV 1 htg (oh_gV q_1071 q_1073 q_29 q_73 q_1074) rfl rfl rfl pdVX7_refuse ⟨Nat.le_of_ble_eq_true rfl, Nat.le_of_ble_eq_true rfl⟩) hK hP hD hG hS hA (va_recv hK hP (ci := 7) (q0 := 0) rfl (oh_wg (Nat.lt_of_lt_of_le (by decide) hn) (sM_0 hT))) rfl hl.1 rfl (Nat.le_of_ble_eq_true rfl) dX7_strain_30 ⟨Nat.le_of_ble_eq_true rfl, Nat.le_of_ble_eq_true rfl⟩ (fun r_15 C_16 H locs hq_17 hP hD hS => ?_)
      obtain ⟨hT, f_18, hq_17⟩ := hq_17
      have hF := fr_tr hF f_18 (by decide) (by decide)
      refine W.widen (k := 0) (n := 0) (Nat.le_refl _) (Nat.le_refl _) ?_
      have t_19 := hT
      rw [hQ]
      exact W.iret (v := r_15) hx hb hr (fun t ht hW => ⟨⟨r_15, C_16, rfl, ⟨hT, hF, ⟨⟨hR.1.fr hF (by decide), hR.2.fr hF (by decide)⟩, (fun A hA => Eq.trans hq_17 (pif_neg (fun h8 => by have h7 := h8.2; rw [← (show gi (C 0) 11 = A 5 0 1 from hA.1 1 (by decide))] at h7; exact u_14 h7)).symm)⟩⟩, ⟨by rw [ht]; exact hP, hD⟩⟩, hS.F ht⟩) hS.2.2 dX7_strain_33
    · have u_20 := hq_12.2.1 c_13
      refine lv_aload_n hx hb dX7_strain_17 rfl (lv_at hl 0 rfl) ?_
      refine lv_iload_n hx hb dX7_strain_18 rfl (lv_at hl 1 rfl) ?_
      refine lv_iload_n hx hb dX7_strain_19 rfl (lv_at hl 2 rfl) ?_
      refine lv_iload_n hx hb dX7_strain_20 rfl (lv_at hl 3 rfl) ?_
      refine tq_V (As := [.int x1, .int x2, .int x3]) (rest := []) (ws := (oh_W n a C)) ⟨hx, hb, hml, hown, htg⟩ (e_X7_strainOf l D E G a C n hn hT x1 x2 x3 (rg_w u_10.1 (by decide)) (rg_w u_20.1 (by decide)) u_10.2.1) (cwV 3 htg (oh_gV q_1302 q_1304 q_52 q_73 q_1305) rfl rfl rfl pdVX7_strainOf ⟨Nat.le_of_ble_eq_true rfl, Nat.le_of_ble_eq_true rfl⟩) hK hP hG hS (va_recv hK hP (ci := 7) (q0 := 0) rfl (oh_wg (Nat.lt_of_lt_of_le (by decide) hn) (sM_0 hT))) rfl hl.1 rfl (Nat.le_of_ble_eq_true rfl) dX7_strain_21 ⟨Nat.le_of_ble_eq_true rfl, Nat.le_of_ble_eq_true rfl⟩ (fun r_21 hq_22 => ?_)
      refine lv_goto (tgt := 33) hx hb dX7_strain_24 (by decide) ?_
      rw [hQ]
      exact W.iret (v := r_21) hx hb hr (fun t ht hW => ⟨⟨r_21, C, rfl, ⟨hT, hF, ⟨hR, (fun A hA => Eq.trans (by rw [hq_22 A hA, (show ga (C (64 + (x1).toNatClampNeg)) ((0 : Int32)).toNatClampNeg = A 2 x1.toNatClampNeg 0 from colM_v (t := 2) hA (by decide) (rg_w (lo := 0) (hi := 4) u_10.1 (by decide)) (by decide) (show okPk (A 5 0 2) (A 5 0 3) x1 x2 by rw [← (show gi (C 0) 13 = A 5 0 2 from hA.1 2 (by decide)), ← (show gi (C 0) 15 = A 5 0 3 from hA.1 3 (by decide))]; exact u_10.2.2.2).1.2 (by unfold vis; omega)), (show ga (C (64 + (x1).toNatClampNeg)) ((2 : Int32)).toNatClampNeg = A 2 x1.toNatClampNeg 2 from colM_v (t := 2) hA (by decide) (rg_w (lo := 0) (hi := 4) u_10.1 (by decide)) (by decide) (show okPk (A 5 0 2) (A 5 0 3) x1 x2 by rw [← (show gi (C 0) 13 = A 5 0 2 from hA.1 2 (by decide)), ← (show gi (C 0) 15 = A 5 0 3 from hA.1 3 (by decide))]; exact u_10.2.2.2).1.2 (by unfold vis; omega)), show ga (C 13) ((0 : Int32)).toNatClampNeg = A 4 0 0 from hA.2.1 0 (by decide), (show ga (C (64 + (x1).toNatClampNeg)) ((1 : Int32)).toNatClampNeg = A 2 x1.toNatClampNeg 1 from colM_v (t := 2) hA (by decide) (rg_w (lo := 0) (hi := 4) u_10.1 (by decide)) (by decide) (show okPk (A 5 0 2) (A 5 0 3) x1 x2 by rw [← (show gi (C 0) 13 = A 5 0 2 from hA.1 2 (by decide)), ← (show gi (C 0) 15 = A 5 0 3 from hA.1 3 (by decide))]; exact u_10.2.2.2).1.2 (by unfold vis; omega)), (show ga (C (48 + (x3).toNatClampNeg)) ((2 : Int32)).toNatClampNeg = A 1 x3.toNatClampNeg 2 from colM_v (t := 1) hA (by decide) (rg_w (lo := 0) (hi := 15) u_20.1 (by decide)) (by decide) (show 0 ≤ x3 ∧ x3 < A 5 0 1 by rw [← (show gi (C 0) 11 = A 5 0 1 from hA.1 1 (by decide))]; exact u_20.2).2 (by unfold vis; intro z; exact absurd z.2 (by decide)))]; rfl) (pif_pos ⟨(show okPk (A 5 0 2) (A 5 0 3) x1 x2 by rw [← (show gi (C 0) 13 = A 5 0 2 from hA.1 2 (by decide)), ← (show gi (C 0) 15 = A 5 0 3 from hA.1 3 (by decide))]; exact u_10.2.2.2), (show 0 ≤ x3 ∧ x3 < A 5 0 1 by rw [← (show gi (C 0) 11 = A 5 0 1 from hA.1 1 (by decide))]; exact u_20.2)⟩).symm)⟩⟩, ⟨by rw [ht]; exact hP, hD⟩⟩, hS.F ht⟩) hS.2.2 dX7_strain_33
theorem bg_dX7_over_0 : bysAt cX7_over 0 [3, 61, 28, 42, 190, 162, 0, 15, 43, 28, 42, 28, 46, 79, 132, 2, 1, 167, 255, 241, 177] := bysAt_of (by decide +kernel)
theorem dX7_over_0 : decode cX7_over 0 = .ok (.iconst 0, 1) := o_3 (bg_dX7_over_0 0 3 rfl)
theorem dX7_over_1 : decode cX7_over 1 = .ok (.istore_n 2, 1) := o_61 (bg_dX7_over_0 1 61 rfl)
theorem dX7_over_2 : decode cX7_over 2 = .ok (.iload_n 2, 1) := o_28 (bg_dX7_over_0 2 28 rfl)
theorem dX7_over_3 : decode cX7_over 3 = .ok (.aload_n 0, 1) := o_42 (bg_dX7_over_0 3 42 rfl)
theorem dX7_over_4 : decode cX7_over 4 = .ok (.arraylength, 1) := o_190 (bg_dX7_over_0 4 190 rfl)
theorem dX7_over_5 : decode cX7_over 5 = .ok (.if_icmp .ge 15, 3) := o_162 (bg_dX7_over_0 5 162 rfl) (bg_dX7_over_0 6 0 rfl) (bg_dX7_over_0 7 15 rfl) (by decide +kernel)
theorem dX7_over_8 : decode cX7_over 8 = .ok (.aload_n 1, 1) := o_43 (bg_dX7_over_0 8 43 rfl)
theorem dX7_over_9 : decode cX7_over 9 = .ok (.iload_n 2, 1) := o_28 (bg_dX7_over_0 9 28 rfl)
theorem dX7_over_10 : decode cX7_over 10 = .ok (.aload_n 0, 1) := o_42 (bg_dX7_over_0 10 42 rfl)
theorem dX7_over_11 : decode cX7_over 11 = .ok (.iload_n 2, 1) := o_28 (bg_dX7_over_0 11 28 rfl)
theorem dX7_over_12 : decode cX7_over 12 = .ok (.iaload, 1) := o_46 (bg_dX7_over_0 12 46 rfl)
theorem dX7_over_13 : decode cX7_over 13 = .ok (.iastore, 1) := o_79 (bg_dX7_over_0 13 79 rfl)
theorem dX7_over_17 : decode cX7_over 17 = .ok (.goto (-15), 3) := o_167 (bg_dX7_over_0 17 167 rfl) (bg_dX7_over_0 18 255 rfl) (bg_dX7_over_0 19 241 rfl) (by decide +kernel)
theorem dX7_over_20 : decode cX7_over 20 = .ok (.return_, 1) := o_177 (bg_dX7_over_0 20 177 rfl)
theorem bg_dX7_overAll_0 : bysAt cX7_overAll 0 [3, 61, 28, 42, 190, 162, 0, 18, 42, 28, 50, 43, 28, 50, 184, 1, 71, 132, 2, 1, 167, 255, 238] := bysAt_of (by decide +kernel)
theorem dX7_overAll_0 : decode cX7_overAll 0 = .ok (.iconst 0, 1) := o_3 (bg_dX7_overAll_0 0 3 rfl)
theorem dX7_overAll_1 : decode cX7_overAll 1 = .ok (.istore_n 2, 1) := o_61 (bg_dX7_overAll_0 1 61 rfl)
theorem dX7_overAll_2 : decode cX7_overAll 2 = .ok (.iload_n 2, 1) := o_28 (bg_dX7_overAll_0 2 28 rfl)
theorem dX7_overAll_3 : decode cX7_overAll 3 = .ok (.aload_n 0, 1) := o_42 (bg_dX7_overAll_0 3 42 rfl)
theorem dX7_overAll_4 : decode cX7_overAll 4 = .ok (.arraylength, 1) := o_190 (bg_dX7_overAll_0 4 190 rfl)
theorem dX7_overAll_5 : decode cX7_overAll 5 = .ok (.if_icmp .ge 18, 3) := o_162 (bg_dX7_overAll_0 5 162 rfl) (bg_dX7_overAll_0 6 0 rfl) (bg_dX7_overAll_0 7 18 rfl) (by decide +kernel)
theorem dX7_overAll_8 : decode cX7_overAll 8 = .ok (.aload_n 0, 1) := o_42 (bg_dX7_overAll_0 8 42 rfl)
theorem dX7_overAll_9 : decode cX7_overAll 9 = .ok (.iload_n 2, 1) := o_28 (bg_dX7_overAll_0 9 28 rfl)
theorem dX7_overAll_10 : decode cX7_overAll 10 = .ok (.aaload, 1) := o_50 (bg_dX7_overAll_0 10 50 rfl)
theorem dX7_overAll_11 : decode cX7_overAll 11 = .ok (.aload_n 1, 1) := o_43 (bg_dX7_overAll_0 11 43 rfl)
theorem dX7_overAll_12 : decode cX7_overAll 12 = .ok (.iload_n 2, 1) := o_28 (bg_dX7_overAll_0 12 28 rfl)
theorem dX7_overAll_13 : decode cX7_overAll 13 = .ok (.aaload, 1) := o_50 (bg_dX7_overAll_0 13 50 rfl)
theorem dX7_overAll_14 : decode cX7_overAll 14 = .ok (.invokestatic 327, 3) := o_184 (bg_dX7_overAll_0 14 184 rfl) (bg_dX7_overAll_0 15 1 rfl) (bg_dX7_overAll_0 16 71 rfl)
theorem dX7_overAll_20 : decode cX7_overAll 20 = .ok (.goto (-18), 3) := o_167 (bg_dX7_overAll_0 20 167 rfl) (bg_dX7_overAll_0 21 255 rfl) (bg_dX7_overAll_0 22 238 rfl) (by decide +kernel)
theorem bg_dX7_overAll_23 : bysAt cX7_overAll 23 [177] := bysAt_of (by decide +kernel)
theorem dX7_overAll_23 : decode cX7_overAll 23 = .ok (.return_, 1) := o_177 (bg_dX7_overAll_23 0 177 rfl)
theorem bg_dX7_takeFrom_0 : bysAt cX7_takeFrom 0 [42, 43, 180, 0, 66, 181, 0, 66, 43, 180, 0, 39, 42, 180, 0, 39, 184, 1, 75, 42, 43, 180, 0, 70, 181, 0, 70, 43] := bysAt_of (by decide +kernel)
theorem dX7_takeFrom_0 : decode cX7_takeFrom 0 = .ok (.aload_n 0, 1) := o_42 (bg_dX7_takeFrom_0 0 42 rfl)
theorem dX7_takeFrom_1 : decode cX7_takeFrom 1 = .ok (.aload_n 1, 1) := o_43 (bg_dX7_takeFrom_0 1 43 rfl)
theorem dX7_takeFrom_2 : decode cX7_takeFrom 2 = .ok (.getfield 66, 3) := o_180 (bg_dX7_takeFrom_0 2 180 rfl) (bg_dX7_takeFrom_0 3 0 rfl) (bg_dX7_takeFrom_0 4 66 rfl)
theorem dX7_takeFrom_5 : decode cX7_takeFrom 5 = .ok (.putfield 66, 3) := o_181 (bg_dX7_takeFrom_0 5 181 rfl) (bg_dX7_takeFrom_0 6 0 rfl) (bg_dX7_takeFrom_0 7 66 rfl)
theorem dX7_takeFrom_8 : decode cX7_takeFrom 8 = .ok (.aload_n 1, 1) := o_43 (bg_dX7_takeFrom_0 8 43 rfl)
theorem dX7_takeFrom_9 : decode cX7_takeFrom 9 = .ok (.getfield 39, 3) := o_180 (bg_dX7_takeFrom_0 9 180 rfl) (bg_dX7_takeFrom_0 10 0 rfl) (bg_dX7_takeFrom_0 11 39 rfl)
theorem dX7_takeFrom_12 : decode cX7_takeFrom 12 = .ok (.aload_n 0, 1) := o_42 (bg_dX7_takeFrom_0 12 42 rfl)
theorem dX7_takeFrom_13 : decode cX7_takeFrom 13 = .ok (.getfield 39, 3) := o_180 (bg_dX7_takeFrom_0 13 180 rfl) (bg_dX7_takeFrom_0 14 0 rfl) (bg_dX7_takeFrom_0 15 39 rfl)
theorem dX7_takeFrom_16 : decode cX7_takeFrom 16 = .ok (.invokestatic 331, 3) := o_184 (bg_dX7_takeFrom_0 16 184 rfl) (bg_dX7_takeFrom_0 17 1 rfl) (bg_dX7_takeFrom_0 18 75 rfl)
theorem dX7_takeFrom_19 : decode cX7_takeFrom 19 = .ok (.aload_n 0, 1) := o_42 (bg_dX7_takeFrom_0 19 42 rfl)
theorem dX7_takeFrom_20 : decode cX7_takeFrom 20 = .ok (.aload_n 1, 1) := o_43 (bg_dX7_takeFrom_0 20 43 rfl)
theorem dX7_takeFrom_21 : decode cX7_takeFrom 21 = .ok (.getfield 70, 3) := o_180 (bg_dX7_takeFrom_0 21 180 rfl) (bg_dX7_takeFrom_0 22 0 rfl) (bg_dX7_takeFrom_0 23 70 rfl)
theorem dX7_takeFrom_24 : decode cX7_takeFrom 24 = .ok (.putfield 70, 3) := o_181 (bg_dX7_takeFrom_0 24 181 rfl) (bg_dX7_takeFrom_0 25 0 rfl) (bg_dX7_takeFrom_0 26 70 rfl)
theorem dX7_takeFrom_27 : decode cX7_takeFrom 27 = .ok (.aload_n 1, 1) := o_43 (bg_dX7_takeFrom_0 27 43 rfl)
theorem bg_dX7_takeFrom_28 : bysAt cX7_takeFrom 28 [180, 0, 42, 42, 180, 0, 42, 184, 1, 75, 42, 43, 180, 0, 73, 181, 0, 73, 43, 180, 0, 45, 42, 180, 0, 45, 184, 1, 75, 42] := bysAt_of (by decide +kernel)
theorem dX7_takeFrom_28 : decode cX7_takeFrom 28 = .ok (.getfield 42, 3) := o_180 (bg_dX7_takeFrom_28 0 180 rfl) (bg_dX7_takeFrom_28 1 0 rfl) (bg_dX7_takeFrom_28 2 42 rfl)
theorem dX7_takeFrom_31 : decode cX7_takeFrom 31 = .ok (.aload_n 0, 1) := o_42 (bg_dX7_takeFrom_28 3 42 rfl)
theorem dX7_takeFrom_32 : decode cX7_takeFrom 32 = .ok (.getfield 42, 3) := o_180 (bg_dX7_takeFrom_28 4 180 rfl) (bg_dX7_takeFrom_28 5 0 rfl) (bg_dX7_takeFrom_28 6 42 rfl)
theorem dX7_takeFrom_35 : decode cX7_takeFrom 35 = .ok (.invokestatic 331, 3) := o_184 (bg_dX7_takeFrom_28 7 184 rfl) (bg_dX7_takeFrom_28 8 1 rfl) (bg_dX7_takeFrom_28 9 75 rfl)
theorem dX7_takeFrom_38 : decode cX7_takeFrom 38 = .ok (.aload_n 0, 1) := o_42 (bg_dX7_takeFrom_28 10 42 rfl)
theorem dX7_takeFrom_39 : decode cX7_takeFrom 39 = .ok (.aload_n 1, 1) := o_43 (bg_dX7_takeFrom_28 11 43 rfl)
theorem dX7_takeFrom_40 : decode cX7_takeFrom 40 = .ok (.getfield 73, 3) := o_180 (bg_dX7_takeFrom_28 12 180 rfl) (bg_dX7_takeFrom_28 13 0 rfl) (bg_dX7_takeFrom_28 14 73 rfl)
theorem dX7_takeFrom_43 : decode cX7_takeFrom 43 = .ok (.putfield 73, 3) := o_181 (bg_dX7_takeFrom_28 15 181 rfl) (bg_dX7_takeFrom_28 16 0 rfl) (bg_dX7_takeFrom_28 17 73 rfl)
theorem dX7_takeFrom_46 : decode cX7_takeFrom 46 = .ok (.aload_n 1, 1) := o_43 (bg_dX7_takeFrom_28 18 43 rfl)
theorem dX7_takeFrom_47 : decode cX7_takeFrom 47 = .ok (.getfield 45, 3) := o_180 (bg_dX7_takeFrom_28 19 180 rfl) (bg_dX7_takeFrom_28 20 0 rfl) (bg_dX7_takeFrom_28 21 45 rfl)
theorem dX7_takeFrom_50 : decode cX7_takeFrom 50 = .ok (.aload_n 0, 1) := o_42 (bg_dX7_takeFrom_28 22 42 rfl)
theorem dX7_takeFrom_51 : decode cX7_takeFrom 51 = .ok (.getfield 45, 3) := o_180 (bg_dX7_takeFrom_28 23 180 rfl) (bg_dX7_takeFrom_28 24 0 rfl) (bg_dX7_takeFrom_28 25 45 rfl)
theorem dX7_takeFrom_54 : decode cX7_takeFrom 54 = .ok (.invokestatic 331, 3) := o_184 (bg_dX7_takeFrom_28 26 184 rfl) (bg_dX7_takeFrom_28 27 1 rfl) (bg_dX7_takeFrom_28 28 75 rfl)
theorem dX7_takeFrom_57 : decode cX7_takeFrom 57 = .ok (.aload_n 0, 1) := o_42 (bg_dX7_takeFrom_28 29 42 rfl)
theorem bg_dX7_takeFrom_58 : bysAt cX7_takeFrom 58 [43, 180, 0, 80, 181, 0, 80, 43, 180, 0, 48, 42, 180, 0, 48, 184, 1, 75, 43, 180, 0, 51, 42, 180, 0, 51, 184, 1, 71, 43] := bysAt_of (by decide +kernel)
theorem dX7_takeFrom_58 : decode cX7_takeFrom 58 = .ok (.aload_n 1, 1) := o_43 (bg_dX7_takeFrom_58 0 43 rfl)
theorem dX7_takeFrom_59 : decode cX7_takeFrom 59 = .ok (.getfield 80, 3) := o_180 (bg_dX7_takeFrom_58 1 180 rfl) (bg_dX7_takeFrom_58 2 0 rfl) (bg_dX7_takeFrom_58 3 80 rfl)
theorem dX7_takeFrom_62 : decode cX7_takeFrom 62 = .ok (.putfield 80, 3) := o_181 (bg_dX7_takeFrom_58 4 181 rfl) (bg_dX7_takeFrom_58 5 0 rfl) (bg_dX7_takeFrom_58 6 80 rfl)
theorem dX7_takeFrom_65 : decode cX7_takeFrom 65 = .ok (.aload_n 1, 1) := o_43 (bg_dX7_takeFrom_58 7 43 rfl)
theorem dX7_takeFrom_66 : decode cX7_takeFrom 66 = .ok (.getfield 48, 3) := o_180 (bg_dX7_takeFrom_58 8 180 rfl) (bg_dX7_takeFrom_58 9 0 rfl) (bg_dX7_takeFrom_58 10 48 rfl)
theorem dX7_takeFrom_69 : decode cX7_takeFrom 69 = .ok (.aload_n 0, 1) := o_42 (bg_dX7_takeFrom_58 11 42 rfl)
theorem dX7_takeFrom_70 : decode cX7_takeFrom 70 = .ok (.getfield 48, 3) := o_180 (bg_dX7_takeFrom_58 12 180 rfl) (bg_dX7_takeFrom_58 13 0 rfl) (bg_dX7_takeFrom_58 14 48 rfl)
theorem dX7_takeFrom_73 : decode cX7_takeFrom 73 = .ok (.invokestatic 331, 3) := o_184 (bg_dX7_takeFrom_58 15 184 rfl) (bg_dX7_takeFrom_58 16 1 rfl) (bg_dX7_takeFrom_58 17 75 rfl)
theorem dX7_takeFrom_76 : decode cX7_takeFrom 76 = .ok (.aload_n 1, 1) := o_43 (bg_dX7_takeFrom_58 18 43 rfl)
theorem dX7_takeFrom_77 : decode cX7_takeFrom 77 = .ok (.getfield 51, 3) := o_180 (bg_dX7_takeFrom_58 19 180 rfl) (bg_dX7_takeFrom_58 20 0 rfl) (bg_dX7_takeFrom_58 21 51 rfl)
theorem dX7_takeFrom_80 : decode cX7_takeFrom 80 = .ok (.aload_n 0, 1) := o_42 (bg_dX7_takeFrom_58 22 42 rfl)
theorem dX7_takeFrom_81 : decode cX7_takeFrom 81 = .ok (.getfield 51, 3) := o_180 (bg_dX7_takeFrom_58 23 180 rfl) (bg_dX7_takeFrom_58 24 0 rfl) (bg_dX7_takeFrom_58 25 51 rfl)
theorem dX7_takeFrom_84 : decode cX7_takeFrom 84 = .ok (.invokestatic 327, 3) := o_184 (bg_dX7_takeFrom_58 26 184 rfl) (bg_dX7_takeFrom_58 27 1 rfl) (bg_dX7_takeFrom_58 28 71 rfl)
theorem dX7_takeFrom_87 : decode cX7_takeFrom 87 = .ok (.aload_n 1, 1) := o_43 (bg_dX7_takeFrom_58 29 43 rfl)
theorem bg_dX7_takeFrom_88 : bysAt cX7_takeFrom 88 [180, 0, 54, 42, 180, 0, 54, 184, 1, 71, 42, 43, 180, 1, 68, 181, 1, 68, 177] := bysAt_of (by decide +kernel)
theorem dX7_takeFrom_88 : decode cX7_takeFrom 88 = .ok (.getfield 54, 3) := o_180 (bg_dX7_takeFrom_88 0 180 rfl) (bg_dX7_takeFrom_88 1 0 rfl) (bg_dX7_takeFrom_88 2 54 rfl)
theorem dX7_takeFrom_91 : decode cX7_takeFrom 91 = .ok (.aload_n 0, 1) := o_42 (bg_dX7_takeFrom_88 3 42 rfl)
theorem dX7_takeFrom_92 : decode cX7_takeFrom 92 = .ok (.getfield 54, 3) := o_180 (bg_dX7_takeFrom_88 4 180 rfl) (bg_dX7_takeFrom_88 5 0 rfl) (bg_dX7_takeFrom_88 6 54 rfl)
theorem dX7_takeFrom_95 : decode cX7_takeFrom 95 = .ok (.invokestatic 327, 3) := o_184 (bg_dX7_takeFrom_88 7 184 rfl) (bg_dX7_takeFrom_88 8 1 rfl) (bg_dX7_takeFrom_88 9 71 rfl)
theorem dX7_takeFrom_98 : decode cX7_takeFrom 98 = .ok (.aload_n 0, 1) := o_42 (bg_dX7_takeFrom_88 10 42 rfl)
theorem dX7_takeFrom_99 : decode cX7_takeFrom 99 = .ok (.aload_n 1, 1) := o_43 (bg_dX7_takeFrom_88 11 43 rfl)
theorem dX7_takeFrom_100 : decode cX7_takeFrom 100 = .ok (.getfield 324, 3) := o_180 (bg_dX7_takeFrom_88 12 180 rfl) (bg_dX7_takeFrom_88 13 1 rfl) (bg_dX7_takeFrom_88 14 68 rfl)
theorem dX7_takeFrom_103 : decode cX7_takeFrom 103 = .ok (.putfield 324, 3) := o_181 (bg_dX7_takeFrom_88 15 181 rfl) (bg_dX7_takeFrom_88 16 1 rfl) (bg_dX7_takeFrom_88 17 68 rfl)
theorem dX7_takeFrom_106 : decode cX7_takeFrom 106 = .ok (.return_, 1) := o_177 (bg_dX7_takeFrom_88 18 177 rfl)
theorem pdX7_over : yX7_over.cls ≠ "java/lang/invoke/MethodHandle" ∧ yX7_over.cls ≠ "java/lang/invoke/VarHandle" ∧ (parseMethodDescriptor yX7_over.desc).map (fun d => d.parameters.length) = some 2 := by decide +kernel
theorem dX7_over_14 : decode cX7_over 14 = .ok (.iinc 2 1, 3) := by decide +kernel
theorem dX7_overAll_17 : decode cX7_overAll 17 = .ok (.iinc 2 1, 3) := by decide +kernel
theorem updc_updc {C : Nat → va_E} {k : Nat} {x y : va_E} : updc (updc C k x) k y = updc C k y := by
  funext i
  unfold updc
  by_cases h : i = k <;> simp [h]
set_option maxHeartbeats 4000000 in
set_option maxRecDepth 100000 in
theorem lp_over {p : Program} {l : Launch} {e : Env} {R : Room} {s : State} {m : MethodId} {args : Array Value} {below : List Frame} {meth : Method} {c : Code} {cells slots : Nat} {Q : State → Prop} {D : va_G} {E : Nat → ClassId} {A : Nat → Prop} (hx : p.tables.exec = Jvm.exec) (hb : c.code = cX7_over) (hK : va_K D vwCl (oh_ty E) s) {n : Nat} {a : Nat → Nat} (C : Nat → va_E) (k1 k2 N : Nat) (hN : N < 1000) (h1 : k1 < n) (h2 : k2 < n) (hne : k1 ≠ k2) (hs1 : C k1 = .inl (E 0, N, .inl (ga (C k1))))
    (kk : ∀ (g : Nat → Int32) (H : Heap) (locs : List Loc) (ls : Array Slot), (∀ i, i < N → g i = ga (C k1) i) → va_P D vwCl (oh_W n a (updc C k2 (.inl (E 0, N, .inl g)))) H → va_D A (oh_W n a (updc C k2 (.inl (E 0, N, .inl g)))) → va_S A s.heap H locs → W p l e R s m args below meth c H locs cells slots Q (F0 m 20 ls [])) :
    ∀ (d j : Nat) (g : Nat → Int32) (H : Heap) (locs : List Loc) (ls : Array Slot), j + d = N → (∀ i, i < j → g i = ga (C k1) i) → va_P D vwCl (oh_W n a (updc C k2 (.inl (E 0, N, .inl g)))) H → va_D A (oh_W n a (updc C k2 (.inl (E 0, N, .inl g)))) → va_S A s.heap H locs → lv_has ls 3 [(2, .int (nI j)), (0, .ref (a k1)), (1, .ref (a k2))] → W p l e R s m args below meth c H locs cells slots Q (F0 m 2 ls []) := by
  intro d
  induction d with
  | zero =>
    intro j g H locs ls hjk hg hP hD hS hl
    have hjN : j = N := by omega
    have e1 : (updc C k2 (.inl (E 0, N, .inl g))) k1 = .inl (E 0, N, .inl (ga (C k1))) := by rw [updc_ne hne]; exact hs1
    refine lv_iload_n hx hb dX7_over_2 rfl (lv_at hl 0 rfl) ?_
    refine lv_aload_n hx hb dX7_over_3 rfl (lv_at hl 1 rfl) ?_
    refine va_alen (v := Int32.ofNat N) hx hb hK hP k1 0 (oh_wg h1 e1) rfl rfl dX7_over_4 ?_
    refine lv_icmp_ge (tgt := 20) hx hb dX7_over_5 (by decide) (fun _ => ?_) (fun c => absurd (show (Int32.ofNat N) ≤ (nI j) from show nI N ≤ nI j from nI_le (by omega) (by omega)) c)
    exact kk g H locs ls (by rw [← hjN]; exact hg) hP hD hS
  | succ d ih =>
    intro j g H locs ls hjk hg hP hD hS hl
    have hjN : j < N := by omega
    have e1 : (updc C k2 (.inl (E 0, N, .inl g))) k1 = .inl (E 0, N, .inl (ga (C k1))) := by rw [updc_ne hne]; exact hs1
    refine lv_iload_n hx hb dX7_over_2 rfl (lv_at hl 0 rfl) ?_
    refine lv_aload_n hx hb dX7_over_3 rfl (lv_at hl 1 rfl) ?_
    refine va_alen (v := Int32.ofNat N) hx hb hK hP k1 0 (oh_wg h1 e1) rfl rfl dX7_over_4 ?_
    refine lv_icmp_ge (tgt := 20) hx hb dX7_over_5 (by decide) (fun c => absurd c (show ¬ ((Int32.ofNat N) ≤ (nI j)) from show ¬ nI N ≤ nI j from nI_ge hjN (by omega))) (fun _ => ?_)
    refine lv_aload_n hx hb dX7_over_8 rfl (lv_at hl 2 rfl) ?_
    refine lv_iload_n hx hb dX7_over_9 rfl (lv_at hl 0 rfl) ?_
    refine lv_aload_n hx hb dX7_over_10 rfl (lv_at hl 1 rfl) ?_
    refine lv_iload_n hx hb dX7_over_11 rfl (lv_at hl 0 rfl) ?_
    refine th_iald hx hb hK hP k1 h1 e1 (vp_in_nI hjN (by omega)) dX7_over_12 ?_
    refine th_iast (T := fun _ => True) (Rl := fun _ => True) hx hb hK hP hD hS k2 h2 updc_eq (vp_in_nI hjN (by omega)) trivial trivial dX7_over_13 (fun C2 H locs e2 _ _ hP hD hS => ?_)
    rw [updc_updc] at e2
    subst e2
    refine lv_iinc (v := nI (j + 1)) (lv' := [(2, .int (nI (j + 1))), (0, .ref (a k1)), (1, .ref (a k2))]) hx hb dX7_over_14 hl (k := 0) rfl (by exact nI_1 j) (by decide) rfl (fun ls hl => ?_)
    refine lv_goto (tgt := 2) hx hb dX7_over_17 (by decide) ?_
    refine ih (j + 1) _ H locs ls (by omega) (fun i hi => ?_) hP hD hS (lv_sub hl [0, 1, 2] rfl)
    have ej : (nI j).toNatClampNeg = j := nI_clamp (by omega)
    rw [ej]
    by_cases h : i = j
    · rw [h, pk_us]
    · rw [pk_un h]
      exact hg i (by omega)
set_option maxHeartbeats 4000000 in
set_option maxRecDepth 100000 in
theorem c_X7_over (l : Launch) (D : va_G) (E : Nat → ClassId) (G : Nat → Nat) (sz : Nat) (n : Nat) (a : Nat → Nat) (C : Nat → va_E) (k1 k2 N : Nat) (hN : N < 1000) (h1 : k1 < n) (h2 : k2 < n) (hne : k1 ≠ k2) (hs1 : C k1 = .inl (E 0, N, .inl (ga (C k1)))) (hs2 : C k2 = .inl (E 0, N, .inl (ga (C k2)))) : Met l yX7_over (oh_w yX7_over cX7_over 3 none) ({ frames := 0, cells := 0, slots := 0, locals := 0 }) (oh_Pm D E G [.ref (a k1), .ref (a k2)] (oh_W n a C) sz) (va_Qv (fun (u : Nat → va_E) => ∃ g : Nat → Int32, u = updc C k2 (.inl (E 0, N, .inl g)) ∧ ∀ i, i < N → g i = ga (C k1) i) (oh_B D (va_A (oh_W n a C) sz) (fun u => oh_W n a u)) (va_A (oh_W n a C) sz)) 0 0 (va_A (oh_W n a C) sz) := by
  refine Met.ofW (cc := cX7_over) (maxL := 3) (ret := none) (by decide) rfl ?_
  intro p e s m args below meth c s₁ B hml hv
  obtain ⟨rfl, hsz, hP, hK, hD0, hG⟩ := hv
  have hx := B.exec
  have hb := B.bytes
  have hr := B.returns
  have hts := atoms_spec (ws := (oh_w yX7_over cX7_over 3 none)) B.pre
  have htg : ∀ w ∈ oh_t, w.before _ s = true := fun w h => hts w (List.mem_cons_of_mem _ h)
  have hown : s.vm.findClass RX7 = some m.cls := findClass_of_methodNamed B.named
  have hlocks := B.notSynchronized
  subst hsz
  have hD := hD0.self (sz := s.heap.size)
  generalize hAe : va_A (oh_W n a C) s.heap.size = A at hD hG ⊢
  have hA : ∀ q : Nat, s.heap.size ≤ q → A q := fun q h => by rw [← hAe]; exact Or.inr h
  have hS : va_S A s.heap s.heap [] := va_S.rf
  have hl := lv_entry ([.ref (a k1), .ref (a k2)]) (n := 3) (Nat.le_of_ble_eq_true rfl)
  rw [lg_entry_eq]
  generalize (lg_sl ([.ref (a k1), .ref (a k2)]) ++ List.replicate (3 - (lg_sl ([.ref (a k1), .ref (a k2)])).length) Slot.unset).toArray = ls at hl ⊢
  have hl : lv_has ls 3 [(0, .ref (a k1)), (1, .ref (a k2))] := hl
  have hC : updc C k2 (.inl (E 0, N, .inl (ga (C k2)))) = C := by
    funext i
    by_cases h : i = k2
    · rw [h, updc_eq, ← hs2]
    · rw [updc_ne h]
  refine lv_iconst (v := 0) hx hb dX7_over_0 (by decide) ?_
  refine lv_istore_n (lv' := [(2, .int 0), (0, .ref (a k1)), (1, .ref (a k2))]) hx hb dX7_over_1 rfl hl (by decide) rfl (fun ls hl => ?_)
  refine lp_over hx hb hK C k1 k2 N hN h1 h2 hne hs1 (fun g H locs ls hg hP hD hS => ?_) N 0 (ga (C k2)) s.heap [] ls (by omega) (fun i hi => by omega) (by rw [hC]; exact hP) (by rw [hC]; exact hD) hS (by rw [nI_0]; exact lv_sub hl [0, 1, 2] rfl)
  exact W.vret hx hb hr (fun t ht hW => ⟨⟨_, rfl, ⟨g, rfl, hg⟩, ⟨by rw [ht]; exact hP, hD⟩⟩, hS.F ht⟩) hS.2.2 dX7_over_20

/-- rows of a block that are copies of another's -/
def cpd (E : Nat → ClassId) (N b1 b2 j : Nat) (C u : Nat → va_E) : Prop := (∀ i, i < j → ∃ g : Nat → Int32, u (b2 + i) = .inl (E 0, N, .inl g) ∧ ∀ q, q < N → g q = ga (C (b1 + i)) q) ∧ ∀ k, (∀ i, i < j → k ≠ b2 + i) → u k = C k
theorem cpd_0 {E : Nat → ClassId} {N b1 b2 : Nat} {C : Nat → va_E} : cpd E N b1 b2 0 C C := ⟨fun i hi => by omega, fun _ _ => rfl⟩
theorem cpd_s {E : Nat → ClassId} {N b1 b2 j : Nat} {C u : Nat → va_E} {g : Nat → Int32} (h : cpd E N b1 b2 j C u) (hd : ∀ i, i ≤ j → b1 + j ≠ b2 + i) (hg : ∀ i, i < N → g i = ga (u (b1 + j)) i) : cpd E N b1 b2 (j + 1) C (updc u (b2 + j) (.inl (E 0, N, .inl g))) := by
  refine ⟨fun i hi => ?_, fun k hk => ?_⟩
  · by_cases e : i = j
    · subst e
      refine ⟨g, updc_eq, fun q hq => ?_⟩
      rw [hg q hq, h.2 (b1 + i) (fun z hz => hd z (by omega))]
    · rw [updc_ne (by omega)]
      exact h.1 i (by omega)
  · rw [updc_ne (hk j (by omega))]
    exact h.2 k (fun i hi => hk i (by omega))
set_option maxHeartbeats 4000000 in
set_option maxRecDepth 100000 in
theorem lp_overAll {p : Program} {l : Launch} {e : Env} {R : Room} {s : State} {m : MethodId} {args : Array Value} {below : List Frame} {meth : Method} {c : Code} {cells slots : Nat} {Q : State → Prop} {D : va_G} {E : Nat → ClassId} {A : Nat → Prop} {G : Nat → Nat} (hx : p.tables.exec = Jvm.exec) (hb : c.code = cX7_overAll) (htg : ∀ w ∈ oh_t, w.before args s = true) (hown : s.vm.findClass RX7 = some m.cls) (hml : c.maxLocals = 3) (hK : va_K D vwCl (oh_ty E) s) (hG : oh_G G A s) (hA : ∀ q, s.heap.size ≤ q → A q) {n : Nat} {a : Nat → Nat} (C : Nat → va_E) (k1 k2 b1 b2 M N : Nat) (hR : R = ({ frames := 1, cells := 0, slots := 0, locals := 22 })) (hc0 : cells = 0) (hs0 : slots = 0) (hN : N < 1000) (hM : M < 1000) (h1 : k1 < n) (h2 : k2 < n) (hb1 : b1 + M ≤ n) (hb2 : b2 + M ≤ n) (hdis : b1 + M ≤ b2 ∨ b2 + M ≤ b1) (hk1 : ∀ i, i < M → k1 ≠ b2 + i) (hk2 : ∀ i, i < M → k2 ≠ b2 + i) (hs1 : C k1 = .inl (E 2, M, .inr (.inr (.inr (.inr (qf a M b1)))))) (hs2 : C k2 = .inl (E 2, M, .inr (.inr (.inr (.inr (qf a M b2)))))) (hr1 : ∀ i, i < M → C (b1 + i) = .inl (E 0, N, .inl (ga (C (b1 + i))))) (hr2 : ∀ i, i < M → C (b2 + i) = .inl (E 0, N, .inl (ga (C (b2 + i)))))
    (kk : ∀ (u : Nat → va_E) (H : Heap) (locs : List Loc) (ls : Array Slot), cpd E N b1 b2 M C u → va_P D vwCl (oh_W n a u) H → va_D A (oh_W n a u) → va_S A s.heap H locs → W p l e R s m args below meth c H locs cells slots Q (F0 m 23 ls [])) :
    ∀ (d j : Nat) (u : Nat → va_E) (H : Heap) (locs : List Loc) (ls : Array Slot), j + d = M → cpd E N b1 b2 j C u → va_P D vwCl (oh_W n a u) H → va_D A (oh_W n a u) → va_S A s.heap H locs → lv_has ls 3 [(2, .int (nI j)), (0, .ref (a k1)), (1, .ref (a k2))] → W p l e R s m args below meth c H locs cells slots Q (F0 m 2 ls []) := by
  subst hR hc0 hs0
  intro d
  induction d with
  | zero =>
    intro j u H locs ls hjk hu hP hD hS hl
    have hjN : j = M := by omega
    have e1 : u k1 = .inl (E 2, M, .inr (.inr (.inr (.inr (qf a M b1))))) := by rw [hu.2 k1 (fun i hi => hk1 i (by omega))]; exact hs1
    refine lv_iload_n hx hb dX7_overAll_2 rfl (lv_at hl 0 rfl) ?_
    refine lv_aload_n hx hb dX7_overAll_3 rfl (lv_at hl 1 rfl) ?_
    refine va_alen (v := Int32.ofNat M) hx hb hK hP k1 2 (oh_wg h1 e1) rfl rfl dX7_overAll_4 ?_
    refine lv_icmp_ge (tgt := 23) hx hb dX7_overAll_5 (by decide) (fun _ => ?_) (fun c => absurd (show (Int32.ofNat M) ≤ (nI j) from show nI M ≤ nI j from nI_le (by omega) (by omega)) c)
    exact kk u H locs ls (by rw [← hjN]; exact hu) hP hD hS
  | succ d ih =>
    intro j u H locs ls hjk hu hP hD hS hl
    have hjN : j < M := by omega
    have ej : (nI j).toNatClampNeg = j := nI_clamp (by omega)
    have e1 : u k1 = .inl (E 2, M, .inr (.inr (.inr (.inr (qf a M b1))))) := by rw [hu.2 k1 (fun i hi => hk1 i (by omega))]; exact hs1
    have e2 : u k2 = .inl (E 2, M, .inr (.inr (.inr (.inr (qf a M b2))))) := by rw [hu.2 k2 (fun i hi => hk2 i (by omega))]; exact hs2
    have f1 : u (b1 + j) = .inl (E 0, N, .inl (ga (u (b1 + j)))) := by rw [hu.2 (b1 + j) (fun i hi => by omega)]; exact hr1 j hjN
    have f2 : u (b2 + j) = .inl (E 0, N, .inl (ga (u (b2 + j)))) := by rw [hu.2 (b2 + j) (fun i hi => by omega)]; exact hr2 j hjN
    refine lv_iload_n hx hb dX7_overAll_2 rfl (lv_at hl 0 rfl) ?_
    refine lv_aload_n hx hb dX7_overAll_3 rfl (lv_at hl 1 rfl) ?_
    refine va_alen (v := Int32.ofNat M) hx hb hK hP k1 2 (oh_wg h1 e1) rfl rfl dX7_overAll_4 ?_
    refine lv_icmp_ge (tgt := 23) hx hb dX7_overAll_5 (by decide) (fun c => absurd c (show ¬ ((Int32.ofNat M) ≤ (nI j)) from show ¬ nI M ≤ nI j from nI_ge hjN (by omega))) (fun _ => ?_)
    refine lv_aload_n hx hb dX7_overAll_8 rfl (lv_at hl 1 rfl) ?_
    refine lv_iload_n hx hb dX7_overAll_9 rfl (lv_at hl 0 rfl) ?_
    refine th_aald hx hb hK hP k1 2 h1 e1 rfl (vp_in_nI hjN (by omega)) dX7_overAll_10 ?_
    refine lv_aload_n hx hb dX7_overAll_11 rfl (lv_at hl 2 rfl) ?_
    refine lv_iload_n hx hb dX7_overAll_12 rfl (lv_at hl 0 rfl) ?_
    refine th_aald hx hb hK hP k2 2 h2 e2 rfl (vp_in_nI hjN (by omega)) dX7_overAll_13 ?_
    rw [ej]
    refine tm_Sv (As := [.ref (a (b1 + j)), .ref (a (b2 + j))]) (rest := []) ⟨hx, hb, hml, hown, htg⟩ (c_X7_over l D E G _ n a u (b1 + j) (b2 + j) N hN (by omega) (by omega) (by omega) f1 f2) (va_cwS 2 htg (oh_gS q_1434 q_1435 q_73 q_1436) rfl rfl rfl pdX7_over ⟨Nat.le_of_ble_eq_true rfl, Nat.le_of_ble_eq_true rfl⟩) hK hP hD hG hS hA rfl hl.1 rfl (Nat.le_of_ble_eq_true rfl) dX7_overAll_14 ⟨Nat.le_of_ble_eq_true rfl, Nat.le_of_ble_eq_true rfl⟩ (fun u2 H locs hq hP hD hS => ?_)
    obtain ⟨g, rfl, hg⟩ := hq
    refine W.widen (k := 0) (n := 0) (Nat.le_refl _) (Nat.le_refl _) ?_
    refine lv_iinc (v := nI (j + 1)) (lv' := [(2, .int (nI (j + 1))), (0, .ref (a k1)), (1, .ref (a k2))]) hx hb dX7_overAll_17 hl (k := 0) rfl (by exact nI_1 j) (by decide) rfl (fun ls hl => ?_)
    refine lv_goto (tgt := 2) hx hb dX7_overAll_20 (by decide) ?_
    exact ih (j + 1) _ H locs ls (by omega) (cpd_s hu (fun i hi => by omega) hg) hP hD hS (lv_sub hl [0, 1, 2] rfl)
set_option maxHeartbeats 4000000 in
set_option maxRecDepth 100000 in
theorem c_X7_overAll (l : Launch) (D : va_G) (E : Nat → ClassId) (G : Nat → Nat) (sz : Nat) (n : Nat) (a : Nat → Nat) (C : Nat → va_E) (k1 k2 b1 b2 M N : Nat) (hN : N < 1000) (hM : M < 1000) (h1 : k1 < n) (h2 : k2 < n) (hb1 : b1 + M ≤ n) (hb2 : b2 + M ≤ n) (hdis : b1 + M ≤ b2 ∨ b2 + M ≤ b1) (hk1 : ∀ i, i < M → k1 ≠ b2 + i) (hk2 : ∀ i, i < M → k2 ≠ b2 + i) (hs1 : C k1 = .inl (E 2, M, .inr (.inr (.inr (.inr (qf a M b1)))))) (hs2 : C k2 = .inl (E 2, M, .inr (.inr (.inr (.inr (qf a M b2)))))) (hr1 : ∀ i, i < M → C (b1 + i) = .inl (E 0, N, .inl (ga (C (b1 + i))))) (hr2 : ∀ i, i < M → C (b2 + i) = .inl (E 0, N, .inl (ga (C (b2 + i))))) : Met l yX7_overAll (oh_w yX7_overAll cX7_overAll 3 none) ({ frames := 1, cells := 0, slots := 0, locals := 22 }) (oh_Pm D E G [.ref (a k1), .ref (a k2)] (oh_W n a C) sz) (va_Qv (fun (u : Nat → va_E) => cpd E N b1 b2 M C u) (oh_B D (va_A (oh_W n a C) sz) (fun u => oh_W n a u)) (va_A (oh_W n a C) sz)) 0 0 (va_A (oh_W n a C) sz) := by
  refine Met.ofW (cc := cX7_overAll) (maxL := 3) (ret := none) (by decide) rfl ?_
  intro p e s m args below meth c s₁ B hml hv
  obtain ⟨rfl, hsz, hP, hK, hD0, hG⟩ := hv
  have hx := B.exec
  have hb := B.bytes
  have hr := B.returns
  have hts := atoms_spec (ws := (oh_w yX7_overAll cX7_overAll 3 none)) B.pre
  have htg : ∀ w ∈ oh_t, w.before _ s = true := fun w h => hts w (List.mem_cons_of_mem _ h)
  have hown : s.vm.findClass RX7 = some m.cls := findClass_of_methodNamed B.named
  have hlocks := B.notSynchronized
  subst hsz
  have hD := hD0.self (sz := s.heap.size)
  generalize hAe : va_A (oh_W n a C) s.heap.size = A at hD hG ⊢
  have hA : ∀ q : Nat, s.heap.size ≤ q → A q := fun q h => by rw [← hAe]; exact Or.inr h
  have hS : va_S A s.heap s.heap [] := va_S.rf
  have hl := lv_entry ([.ref (a k1), .ref (a k2)]) (n := 3) (Nat.le_of_ble_eq_true rfl)
  rw [lg_entry_eq]
  generalize (lg_sl ([.ref (a k1), .ref (a k2)]) ++ List.replicate (3 - (lg_sl ([.ref (a k1), .ref (a k2)])).length) Slot.unset).toArray = ls at hl ⊢
  have hl : lv_has ls 3 [(0, .ref (a k1)), (1, .ref (a k2))] := hl
  refine lv_iconst (v := 0) hx hb dX7_overAll_0 (by decide) ?_
  refine lv_istore_n (lv' := [(2, .int 0), (0, .ref (a k1)), (1, .ref (a k2))]) hx hb dX7_overAll_1 rfl hl (by decide) rfl (fun ls hl => ?_)
  refine lp_overAll hx hb htg hown hml hK hG hA C k1 k2 b1 b2 M N rfl rfl rfl hN hM h1 h2 hb1 hb2 hdis hk1 hk2 hs1 hs2 hr1 hr2 (fun u H locs ls hu hP hD hS => ?_) M 0 C s.heap [] ls (by omega) cpd_0 hP hD hS (by rw [nI_0]; exact lv_sub hl [0, 1, 2] rfl)
  exact W.vret hx hb hr (fun t ht hW => ⟨⟨u, rfl, hu, ⟨by rw [ht]; exact hP, hD⟩⟩, hS.F ht⟩) hS.2.2 dX7_overAll_23
/-! FULL: what a bridge bears, by its columns; what it needs -/
noncomputable def belF (kd fa sk fr v : Int32) : Int32 := pif (fa = 1 ∨ (kd = 5 ∧ fr = 0)) 0 (pif ((kd = 4 ∨ kd = 5) ∧ sk = 0) (v / 2) v)
noncomputable def bAxF (kd ax fa sk fr : Int32) : Int32 := belF kd fa sk fr (pif (kd = 2) (ax + 5) ax)
noncomputable def bUnF (kd al fa sk fr : Int32) : Int32 := belF kd fa sk fr (pif (kd = 1 ∨ kd = 2) (al + al / 10) al)
noncomputable def bAlF (P : Prop) (kd al mo fa sk fr : Int32) : Int32 := pif (P ∧ fa = 0) (bUnF kd al fa sk fr + mo) (bUnF kd al fa sk fr)
noncomputable def ndF (kd ax al mo pr fa sk fr ld sn : Int32) : Int32 := pif (bAxF kd ax fa sk fr < ld) 2 (pif (sn ≤ bAlF (pr = 1) kd al mo fa sk fr) 0 (pif (pr = 1 ∨ kd = 3) 2 (pif (sn ≤ bAlF True kd al mo fa sk fr) 1 2)))
theorem bAlF_c {P Q : Prop} {kd al mo fa sk fr : Int32} (h : P ↔ Q) : bAlF P kd al mo fa sk fr = bAlF Q kd al mo fa sk fr := by rw [propext h]

set_option maxHeartbeats 4000000 in
set_option maxRecDepth 100000 in
theorem e_X0_believed (l : Launch) (D : va_G) (E : Nat → ClassId) (G : Nat → Nat) (a : Nat → Nat) (C : Nat → va_E) (hT : TyX a E C) (x1 : Int32) (x2 : Int32) (hx1 : rg x1 0 150) : Met l yX0_believed (oh_w yX0_believed cX0_believed 5 (some .int)) ({ frames := 0, cells := 0, slots := 0, locals := 0 }) (oh_Pp D E G [.ref (a 1), .int x1, .int x2] (oh_W 35 a C)) (vp_Si (fun r => (r = belF (ga (C 12) (x1 + 1).toNatClampNeg) (ga (C 12) (x1 + 8).toNatClampNeg) (ga (C 12) (x1 + 9).toNatClampNeg) (ga (C 15) ((2 : Int32)).toNatClampNeg) x2))) 0 0 (fun _ => False) := by
  refine Met.ofW (cc := cX0_believed) (maxL := 5) (ret := (some .int)) (by decide) rfl ?_
  intro p e s m args below meth c s₁ B hml hv
  obtain ⟨rfl, hP, hK, hG⟩ := hv
  have hx := B.exec
  have hb := B.bytes
  have hr := B.returns
  have hts := atoms_spec (ws := (oh_w yX0_believed cX0_believed 5 (some .int))) B.pre
  have htg : ∀ w ∈ oh_t, w.before _ s = true := fun w h => hts w (List.mem_cons_of_mem _ h)
  have hown : s.vm.findClass RX0 = some m.cls := findClass_of_methodNamed B.named
  have hlocks := B.notSynchronized
  have hT0 := hT
  have hS : va_S (fun _ => False) s.heap s.heap [] := va_S.rf
  have hl := lv_entry ([.ref (a 1), .int x1, .int x2]) (n := 5) (Nat.le_of_ble_eq_true rfl)
  rw [lg_entry_eq]
  generalize (lg_sl ([.ref (a 1), .int x1, .int x2]) ++ List.replicate (5 - (lg_sl ([.ref (a 1), .int x1, .int x2])).length) Slot.unset).toArray = ls at hl ⊢
  have hl : lv_has ls 5 [(0, .ref (a 1)), (1, .int x1), (2, .int x2)] := hl
  refine oh_genQ (fun Q hQ => ?_)
  refine lv_aload_n hx hb dX0_believed_0 rfl (lv_at hl 0 rfl) ?_
  refine va_get (D := D) (ci := 0) (v := .ref (a 12)) (C := RX0) (T := TX0) (N := 8) hx hb htg ig_0 hown hK hP 1 (oh_wg (by decide) (sX_1 hT)) rfl 2 (by decide) (htg _ q_103) (fun _ h9 => h9) rfl dX0_believed_1 ?_
  refine lv_iload_n hx hb dX0_believed_4 rfl (lv_at hl 1 rfl) ?_
  refine lv_iconst (v := 1) hx hb dX0_believed_5 (by decide) ?_
  refine lv_iadd hx hb dX0_believed_6 ?_
  have n_1 : vp_in (x1 + 1) 160 := (rg_in (rg_add (lo := 1) (hi := 151) hx1 (rg_c (v := 1) (lo := 1) (hi := 1) (by decide)) (by decide)) (by decide))
  refine th_iald hx hb hK hP 12 (by decide) (sX_12 hT) n_1 dX0_believed_7 ?_
  refine lv_istore_n (lv' := [(3, .int (ga (C 12) (x1 + 1).toNatClampNeg)), (0, .ref (a 1)), (1, .int x1), (2, .int x2)]) hx hb dX0_believed_8 rfl hl (by decide) rfl (fun ls hl => ?_)
  refine lv_aload_n hx hb dX0_believed_9 rfl (lv_at hl 1 rfl) ?_
  refine va_get (D := D) (ci := 0) (v := .ref (a 12)) (C := RX0) (T := TX0) (N := 8) hx hb htg ig_0 hown hK hP 1 (oh_wg (by decide) (sX_1 hT)) rfl 2 (by decide) (htg _ q_103) (fun _ h9 => h9) rfl dX0_believed_10 ?_
  refine lv_iload_n hx hb dX0_believed_13 rfl (lv_at hl 2 rfl) ?_
  refine lv_bipush (v := 8) hx hb dX0_believed_14 (by decide) ?_
  refine lv_iadd hx hb dX0_believed_16 ?_
  have n_2 : vp_in (x1 + 8) 160 := (rg_in (rg_add (lo := 8) (hi := 158) hx1 (rg_c (v := 8) (lo := 8) (hi := 8) (by decide)) (by decide)) (by decide))
  refine th_iald hx hb hK hP 12 (by decide) (sX_12 hT) n_2 dX0_believed_17 ?_
  refine lv_iconst (v := 1) hx hb dX0_believed_18 (by decide) ?_
  refine lv_icmp_eq (tgt := 36) hx hb dX0_believed_19 (by decide) (fun (c_3 : (ga (C 12) (x1 + 8).toNatClampNeg) = 1) => ?_) (fun (c_3 : ¬ ((ga (C 12) (x1 + 8).toNatClampNeg) = 1)) => ?_)
  · refine lv_iconst (v := 0) hx hb dX0_believed_36 (by decide) ?_
    rw [hQ]
    exact W.iret (v := 0) hx hb hr (fun t ht hW => ⟨0, rfl, ((pif_pos (Or.inl c_3))).symm, ht⟩) (fun q h => by cases h) dX0_believed_37
  · refine lv_iload_n hx hb dX0_believed_22 rfl (lv_at hl 0 rfl) ?_
    refine lv_iconst (v := 5) hx hb dX0_believed_23 (by decide) ?_
    refine lv_icmp_ne (tgt := 38) hx hb dX0_believed_24 (by decide) (fun (c_4 : ¬ ((ga (C 12) (x1 + 1).toNatClampNeg) = 5)) => ?_) (fun (c_4 : (ga (C 12) (x1 + 1).toNatClampNeg) = 5) => ?_)
    · refine lv_iload_n hx hb dX0_believed_38 rfl (lv_at hl 0 rfl) ?_
      refine lv_iconst (v := 4) hx hb dX0_believed_39 (by decide) ?_
      refine lv_icmp_eq (tgt := 48) hx hb dX0_believed_40 (by decide) (fun (c_5 : (ga (C 12) (x1 + 1).toNatClampNeg) = 4) => ?_) (fun (c_5 : ¬ ((ga (C 12) (x1 + 1).toNatClampNeg) = 4)) => ?_)
      · refine lv_iconst (v := 1) hx hb dX0_believed_48 (by decide) ?_
        refine lv_goto (tgt := 53) hx hb dX0_believed_49 (by decide) ?_
        refine lv_istore (lv' := [(4, .int 1), (3, .int (ga (C 12) (x1 + 1).toNatClampNeg)), (0, .ref (a 1)), (1, .int x1), (2, .int x2)]) hx hb dX0_believed_53 hl (by decide) rfl (fun ls hl => ?_)
        refine lv_iload hx hb dX0_believed_55 (lv_at hl 0 rfl) ?_
        refine lv_if_eq (tgt := 78) hx hb dX0_believed_57 (by decide) (fun c => absurd c (show ¬ ((1 : Int32) = 0) from by decide)) (fun _ => ?_)
        refine lv_aload_n hx hb dX0_believed_60 rfl (lv_at hl 2 rfl) ?_
        refine va_get (D := D) (ci := 0) (v := .ref (a 12)) (C := RX0) (T := TX0) (N := 8) hx hb htg ig_0 hown hK hP 1 (oh_wg (by decide) (sX_1 hT)) rfl 2 (by decide) (htg _ q_103) (fun _ h9 => h9) rfl dX0_believed_61 ?_
        refine lv_iload_n hx hb dX0_believed_64 rfl (lv_at hl 3 rfl) ?_
        refine lv_bipush (v := 9) hx hb dX0_believed_65 (by decide) ?_
        refine lv_iadd hx hb dX0_believed_67 ?_
        have n_6 : vp_in (x1 + 9) 160 := (rg_in (rg_add (lo := 9) (hi := 159) hx1 (rg_c (v := 9) (lo := 9) (hi := 9) (by decide)) (by decide)) (by decide))
        refine th_iald hx hb hK hP 12 (by decide) (sX_12 hT) n_6 dX0_believed_68 ?_
        refine lv_if_ne (tgt := 78) hx hb dX0_believed_69 (by decide) (fun (c_7 : ¬ ((ga (C 12) (x1 + 9).toNatClampNeg) = 0)) => ?_) (fun (c_7 : (ga (C 12) (x1 + 9).toNatClampNeg) = 0) => ?_)
        · refine lv_iload_n hx hb dX0_believed_78 rfl (lv_at hl 4 rfl) ?_
          rw [hQ]
          exact W.iret (v := x2) hx hb hr (fun t ht hW => ⟨x2, rfl, ((Eq.trans (pif_neg (fun h8 => h8.elim c_3 (fun h8 => c_4 h8.1))) (pif_neg (fun h8 => c_7 h8.2)))).symm, ht⟩) (fun q h => by cases h) dX0_believed_79
        · refine lv_iload_n hx hb dX0_believed_72 rfl (lv_at hl 4 rfl) ?_
          refine lv_iconst (v := 2) hx hb dX0_believed_73 (by decide) ?_
          refine lv_idiv hx hb dX0_believed_74 (by decide) ?_
          refine lv_goto (tgt := 79) hx hb dX0_believed_75 (by decide) ?_
          rw [hQ]
          exact W.iret (v := x2 / 2) hx hb hr (fun t ht hW => ⟨x2 / 2, rfl, ((Eq.trans (pif_neg (fun h8 => h8.elim c_3 (fun h8 => c_4 h8.1))) (pif_pos ⟨(Or.inl c_5), c_7⟩))).symm, ht⟩) (fun q h => by cases h) dX0_believed_79
      · refine lv_iload_n hx hb dX0_believed_43 rfl (lv_at hl 0 rfl) ?_
        refine lv_iconst (v := 5) hx hb dX0_believed_44 (by decide) ?_
        refine lv_icmp_ne (tgt := 52) hx hb dX0_believed_45 (by decide) (fun (c_8 : ¬ ((ga (C 12) (x1 + 1).toNatClampNeg) = 5)) => ?_) (fun (c_8 : (ga (C 12) (x1 + 1).toNatClampNeg) = 5) => ?_)
        · refine lv_iconst (v := 0) hx hb dX0_believed_52 (by decide) ?_
          refine lv_istore (lv' := [(4, .int 0), (3, .int (ga (C 12) (x1 + 1).toNatClampNeg)), (0, .ref (a 1)), (1, .int x1), (2, .int x2)]) hx hb dX0_believed_53 hl (by decide) rfl (fun ls hl => ?_)
          refine lv_iload hx hb dX0_believed_55 (lv_at hl 0 rfl) ?_
          refine lv_if_eq (tgt := 78) hx hb dX0_believed_57 (by decide) (fun _ => ?_) (fun c => absurd (show (0 : Int32) = 0 from by decide) c)
          refine lv_iload_n hx hb dX0_believed_78 rfl (lv_at hl 4 rfl) ?_
          rw [hQ]
          exact W.iret (v := x2) hx hb hr (fun t ht hW => ⟨x2, rfl, ((Eq.trans (pif_neg (fun h8 => h8.elim c_3 (fun h8 => c_8 h8.1))) (pif_neg (fun h8 => (fun h8 => h8.elim c_5 c_8) h8.1)))).symm, ht⟩) (fun q h => by cases h) dX0_believed_79
        · refine lv_iconst (v := 1) hx hb dX0_believed_48 (by decide) ?_
          refine lv_goto (tgt := 53) hx hb dX0_believed_49 (by decide) ?_
          refine lv_istore (lv' := [(4, .int 1), (3, .int (ga (C 12) (x1 + 1).toNatClampNeg)), (0, .ref (a 1)), (1, .int x1), (2, .int x2)]) hx hb dX0_believed_53 hl (by decide) rfl (fun ls hl => ?_)
          refine lv_iload hx hb dX0_believed_55 (lv_at hl 0 rfl) ?_
          refine lv_if_eq (tgt := 78) hx hb dX0_believed_57 (by decide) (fun c => absurd c (show ¬ ((1 : Int32) = 0) from by decide)) (fun _ => ?_)
          refine lv_aload_n hx hb dX0_believed_60 rfl (lv_at hl 2 rfl) ?_
          refine va_get (D := D) (ci := 0) (v := .ref (a 12)) (C := RX0) (T := TX0) (N := 8) hx hb htg ig_0 hown hK hP 1 (oh_wg (by decide) (sX_1 hT)) rfl 2 (by decide) (htg _ q_103) (fun _ h9 => h9) rfl dX0_believed_61 ?_
          refine lv_iload_n hx hb dX0_believed_64 rfl (lv_at hl 3 rfl) ?_
          refine lv_bipush (v := 9) hx hb dX0_believed_65 (by decide) ?_
          refine lv_iadd hx hb dX0_believed_67 ?_
          have n_9 : vp_in (x1 + 9) 160 := (rg_in (rg_add (lo := 9) (hi := 159) hx1 (rg_c (v := 9) (lo := 9) (hi := 9) (by decide)) (by decide)) (by decide))
          refine th_iald hx hb hK hP 12 (by decide) (sX_12 hT) n_9 dX0_believed_68 ?_
          refine lv_if_ne (tgt := 78) hx hb dX0_believed_69 (by decide) (fun (c_10 : ¬ ((ga (C 12) (x1 + 9).toNatClampNeg) = 0)) => ?_) (fun (c_10 : (ga (C 12) (x1 + 9).toNatClampNeg) = 0) => ?_)
          · refine lv_iload_n hx hb dX0_believed_78 rfl (lv_at hl 4 rfl) ?_
            rw [hQ]
            exact W.iret (v := x2) hx hb hr (fun t ht hW => ⟨x2, rfl, (absurd c_8 c_4), ht⟩) (fun q h => by cases h) dX0_believed_79
          · refine lv_iload_n hx hb dX0_believed_72 rfl (lv_at hl 4 rfl) ?_
            refine lv_iconst (v := 2) hx hb dX0_believed_73 (by decide) ?_
            refine lv_idiv hx hb dX0_believed_74 (by decide) ?_
            refine lv_goto (tgt := 79) hx hb dX0_believed_75 (by decide) ?_
            rw [hQ]
            exact W.iret (v := x2 / 2) hx hb hr (fun t ht hW => ⟨x2 / 2, rfl, (absurd c_8 c_4), ht⟩) (fun q h => by cases h) dX0_believed_79
    · refine lv_aload_n hx hb dX0_believed_27 rfl (lv_at hl 1 rfl) ?_
      refine va_get (D := D) (ci := 0) (v := .ref (a 15)) (C := RX0) (T := TX0) (N := 8) hx hb htg ig_0 hown hK hP 1 (oh_wg (by decide) (sX_1 hT)) rfl 5 (by decide) (htg _ q_106) (fun _ h9 => h9) rfl dX0_believed_28 ?_
      refine lv_iconst (v := 2) hx hb dX0_believed_31 (by decide) ?_
      refine th_iald hx hb hK hP 15 (by decide) (sX_15 hT) (rg_in (rg_c (v := 2) (lo := 2) (hi := 2) (by decide)) (by decide)) dX0_believed_32 ?_
      refine lv_if_ne (tgt := 38) hx hb dX0_believed_33 (by decide) (fun (c_11 : ¬ ((ga (C 15) ((2 : Int32)).toNatClampNeg) = 0)) => ?_) (fun (c_11 : (ga (C 15) ((2 : Int32)).toNatClampNeg) = 0) => ?_)
      · refine lv_iload_n hx hb dX0_believed_38 rfl (lv_at hl 0 rfl) ?_
        refine lv_iconst (v := 4) hx hb dX0_believed_39 (by decide) ?_
        refine lv_icmp_eq (tgt := 48) hx hb dX0_believed_40 (by decide) (fun (c_12 : (ga (C 12) (x1 + 1).toNatClampNeg) = 4) => ?_) (fun (c_12 : ¬ ((ga (C 12) (x1 + 1).toNatClampNeg) = 4)) => ?_)
        · refine lv_iconst (v := 1) hx hb dX0_believed_48 (by decide) ?_
          refine lv_goto (tgt := 53) hx hb dX0_believed_49 (by decide) ?_
          refine lv_istore (lv' := [(4, .int 1), (3, .int (ga (C 12) (x1 + 1).toNatClampNeg)), (0, .ref (a 1)), (1, .int x1), (2, .int x2)]) hx hb dX0_believed_53 hl (by decide) rfl (fun ls hl => ?_)
          refine lv_iload hx hb dX0_believed_55 (lv_at hl 0 rfl) ?_
          refine lv_if_eq (tgt := 78) hx hb dX0_believed_57 (by decide) (fun c => absurd c (show ¬ ((1 : Int32) = 0) from by decide)) (fun _ => ?_)
          refine lv_aload_n hx hb dX0_believed_60 rfl (lv_at hl 2 rfl) ?_
          refine va_get (D := D) (ci := 0) (v := .ref (a 12)) (C := RX0) (T := TX0) (N := 8) hx hb htg ig_0 hown hK hP 1 (oh_wg (by decide) (sX_1 hT)) rfl 2 (by decide) (htg _ q_103) (fun _ h9 => h9) rfl dX0_believed_61 ?_
          refine lv_iload_n hx hb dX0_believed_64 rfl (lv_at hl 3 rfl) ?_
          refine lv_bipush (v := 9) hx hb dX0_believed_65 (by decide) ?_
          refine lv_iadd hx hb dX0_believed_67 ?_
          have n_13 : vp_in (x1 + 9) 160 := (rg_in (rg_add (lo := 9) (hi := 159) hx1 (rg_c (v := 9) (lo := 9) (hi := 9) (by decide)) (by decide)) (by decide))
          refine th_iald hx hb hK hP 12 (by decide) (sX_12 hT) n_13 dX0_believed_68 ?_
          refine lv_if_ne (tgt := 78) hx hb dX0_believed_69 (by decide) (fun (c_14 : ¬ ((ga (C 12) (x1 + 9).toNatClampNeg) = 0)) => ?_) (fun (c_14 : (ga (C 12) (x1 + 9).toNatClampNeg) = 0) => ?_)
          · refine lv_iload_n hx hb dX0_believed_78 rfl (lv_at hl 4 rfl) ?_
            rw [hQ]
            exact W.iret (v := x2) hx hb hr (fun t ht hW => ⟨x2, rfl, (absurd (Eq.trans (Eq.symm c_4) c_12) (by decide)), ht⟩) (fun q h => by cases h) dX0_believed_79
          · refine lv_iload_n hx hb dX0_believed_72 rfl (lv_at hl 4 rfl) ?_
            refine lv_iconst (v := 2) hx hb dX0_believed_73 (by decide) ?_
            refine lv_idiv hx hb dX0_believed_74 (by decide) ?_
            refine lv_goto (tgt := 79) hx hb dX0_believed_75 (by decide) ?_
            rw [hQ]
            exact W.iret (v := x2 / 2) hx hb hr (fun t ht hW => ⟨x2 / 2, rfl, (absurd (Eq.trans (Eq.symm c_4) c_12) (by decide)), ht⟩) (fun q h => by cases h) dX0_believed_79
        · refine lv_iload_n hx hb dX0_believed_43 rfl (lv_at hl 0 rfl) ?_
          refine lv_iconst (v := 5) hx hb dX0_believed_44 (by decide) ?_
          refine lv_icmp_ne (tgt := 52) hx hb dX0_believed_45 (by decide) (fun (c_15 : ¬ ((ga (C 12) (x1 + 1).toNatClampNeg) = 5)) => ?_) (fun (c_15 : (ga (C 12) (x1 + 1).toNatClampNeg) = 5) => ?_)
          · refine lv_iconst (v := 0) hx hb dX0_believed_52 (by decide) ?_
            refine lv_istore (lv' := [(4, .int 0), (3, .int (ga (C 12) (x1 + 1).toNatClampNeg)), (0, .ref (a 1)), (1, .int x1), (2, .int x2)]) hx hb dX0_believed_53 hl (by decide) rfl (fun ls hl => ?_)
            refine lv_iload hx hb dX0_believed_55 (lv_at hl 0 rfl) ?_
            refine lv_if_eq (tgt := 78) hx hb dX0_believed_57 (by decide) (fun _ => ?_) (fun c => absurd (show (0 : Int32) = 0 from by decide) c)
            refine lv_iload_n hx hb dX0_believed_78 rfl (lv_at hl 4 rfl) ?_
            rw [hQ]
            exact W.iret (v := x2) hx hb hr (fun t ht hW => ⟨x2, rfl, (absurd c_4 c_15), ht⟩) (fun q h => by cases h) dX0_believed_79
          · refine lv_iconst (v := 1) hx hb dX0_believed_48 (by decide) ?_
            refine lv_goto (tgt := 53) hx hb dX0_believed_49 (by decide) ?_
            refine lv_istore (lv' := [(4, .int 1), (3, .int (ga (C 12) (x1 + 1).toNatClampNeg)), (0, .ref (a 1)), (1, .int x1), (2, .int x2)]) hx hb dX0_believed_53 hl (by decide) rfl (fun ls hl => ?_)
            refine lv_iload hx hb dX0_believed_55 (lv_at hl 0 rfl) ?_
            refine lv_if_eq (tgt := 78) hx hb dX0_believed_57 (by decide) (fun c => absurd c (show ¬ ((1 : Int32) = 0) from by decide)) (fun _ => ?_)
            refine lv_aload_n hx hb dX0_believed_60 rfl (lv_at hl 2 rfl) ?_
            refine va_get (D := D) (ci := 0) (v := .ref (a 12)) (C := RX0) (T := TX0) (N := 8) hx hb htg ig_0 hown hK hP 1 (oh_wg (by decide) (sX_1 hT)) rfl 2 (by decide) (htg _ q_103) (fun _ h9 => h9) rfl dX0_believed_61 ?_
            refine lv_iload_n hx hb dX0_believed_64 rfl (lv_at hl 3 rfl) ?_
            refine lv_bipush (v := 9) hx hb dX0_believed_65 (by decide) ?_
            refine lv_iadd hx hb dX0_believed_67 ?_
            have n_16 : vp_in (x1 + 9) 160 := (rg_in (rg_add (lo := 9) (hi := 159) hx1 (rg_c (v := 9) (lo := 9) (hi := 9) (by decide)) (by decide)) (by decide))
            refine th_iald hx hb hK hP 12 (by decide) (sX_12 hT) n_16 dX0_believed_68 ?_
            refine lv_if_ne (tgt := 78) hx hb dX0_believed_69 (by decide) (fun (c_17 : ¬ ((ga (C 12) (x1 + 9).toNatClampNeg) = 0)) => ?_) (fun (c_17 : (ga (C 12) (x1 + 9).toNatClampNeg) = 0) => ?_)
            · refine lv_iload_n hx hb dX0_believed_78 rfl (lv_at hl 4 rfl) ?_
              rw [hQ]
              exact W.iret (v := x2) hx hb hr (fun t ht hW => ⟨x2, rfl, ((Eq.trans (pif_neg (fun h8 => h8.elim c_3 (fun h8 => c_11 h8.2))) (pif_neg (fun h8 => c_17 h8.2)))).symm, ht⟩) (fun q h => by cases h) dX0_believed_79
            · refine lv_iload_n hx hb dX0_believed_72 rfl (lv_at hl 4 rfl) ?_
              refine lv_iconst (v := 2) hx hb dX0_believed_73 (by decide) ?_
              refine lv_idiv hx hb dX0_believed_74 (by decide) ?_
              refine lv_goto (tgt := 79) hx hb dX0_believed_75 (by decide) ?_
              rw [hQ]
              exact W.iret (v := x2 / 2) hx hb hr (fun t ht hW => ⟨x2 / 2, rfl, ((Eq.trans (pif_neg (fun h8 => h8.elim c_3 (fun h8 => c_11 h8.2))) (pif_pos ⟨(Or.inr c_15), c_17⟩))).symm, ht⟩) (fun q h => by cases h) dX0_believed_79
      · refine lv_iconst (v := 0) hx hb dX0_believed_36 (by decide) ?_
        rw [hQ]
        exact W.iret (v := 0) hx hb hr (fun t ht hW => ⟨0, rfl, ((pif_pos (Or.inr ⟨c_4, c_11⟩))).symm, ht⟩) (fun q h => by cases h) dX0_believed_37

set_option maxHeartbeats 4000000 in
set_option maxRecDepth 100000 in
theorem e_X0_bearsAxle (l : Launch) (D : va_G) (E : Nat → ClassId) (G : Nat → Nat) (a : Nat → Nat) (C : Nat → va_E) (hT : TyX a E C) (x1 : Int32) (hx1 : rg x1 0 15) : Met l yX0_bearsAxle (oh_w yX0_bearsAxle cX0_bearsAxle 4 (some .int)) ({ frames := 1, cells := 0, slots := 0, locals := 24 }) (oh_Pp D E G [.ref (a 1), .int x1] (oh_W 35 a C)) (vp_Si (fun r => (r = bAxF (ga (C 12) ((x1 * 10) + 1).toNatClampNeg) (ga (C 12) ((x1 * 10) + 3).toNatClampNeg) (ga (C 12) ((x1 * 10) + 8).toNatClampNeg) (ga (C 12) ((x1 * 10) + 9).toNatClampNeg) (ga (C 15) ((2 : Int32)).toNatClampNeg)))) 0 0 (fun _ => False) := by
  refine Met.ofW (cc := cX0_bearsAxle) (maxL := 4) (ret := (some .int)) (by decide) rfl ?_
  intro p e s m args below meth c s₁ B hml hv
  obtain ⟨rfl, hP, hK, hG⟩ := hv
  have hx := B.exec
  have hb := B.bytes
  have hr := B.returns
  have hts := atoms_spec (ws := (oh_w yX0_bearsAxle cX0_bearsAxle 4 (some .int))) B.pre
  have htg : ∀ w ∈ oh_t, w.before _ s = true := fun w h => hts w (List.mem_cons_of_mem _ h)
  have hown : s.vm.findClass RX0 = some m.cls := findClass_of_methodNamed B.named
  have hlocks := B.notSynchronized
  have hT0 := hT
  have hS : va_S (fun _ => False) s.heap s.heap [] := va_S.rf
  have hl := lv_entry ([.ref (a 1), .int x1]) (n := 4) (Nat.le_of_ble_eq_true rfl)
  rw [lg_entry_eq]
  generalize (lg_sl ([.ref (a 1), .int x1]) ++ List.replicate (4 - (lg_sl ([.ref (a 1), .int x1])).length) Slot.unset).toArray = ls at hl ⊢
  have hl : lv_has ls 4 [(0, .ref (a 1)), (1, .int x1)] := hl
  refine oh_genQ (fun Q hQ => ?_)
  refine lv_iload_n hx hb dX0_bearsAxle_0 rfl (lv_at hl 1 rfl) ?_
  refine lv_bipush (v := 10) hx hb dX0_bearsAxle_1 (by decide) ?_
  refine lv_imul hx hb dX0_bearsAxle_3 ?_
  refine lv_istore_n (lv' := [(2, .int (x1 * 10)), (0, .ref (a 1)), (1, .int x1)]) hx hb dX0_bearsAxle_4 rfl hl (by decide) rfl (fun ls hl => ?_)
  refine lv_aload_n hx hb dX0_bearsAxle_5 rfl (lv_at hl 1 rfl) ?_
  refine va_get (D := D) (ci := 0) (v := .ref (a 12)) (C := RX0) (T := TX0) (N := 8) hx hb htg ig_0 hown hK hP 1 (oh_wg (by decide) (sX_1 hT)) rfl 2 (by decide) (htg _ q_103) (fun _ h9 => h9) rfl dX0_bearsAxle_6 ?_
  refine lv_iload_n hx hb dX0_bearsAxle_9 rfl (lv_at hl 0 rfl) ?_
  refine lv_iconst (v := 3) hx hb dX0_bearsAxle_10 (by decide) ?_
  refine lv_iadd hx hb dX0_bearsAxle_11 ?_
  have n_1 : vp_in ((x1 * 10) + 3) 160 := (rg_in (rg_add (lo := 3) (hi := 153) (rg_mul (lo := 0) (hi := 150) hx1 (rg_c (v := 10) (lo := 10) (hi := 10) (by decide)) (by decide)) (rg_c (v := 3) (lo := 3) (hi := 3) (by decide)) (by decide)) (by decide))
  refine th_iald hx hb hK hP 12 (by decide) (sX_12 hT) n_1 dX0_bearsAxle_12 ?_
  refine lv_istore_n (lv' := [(3, .int (ga (C 12) ((x1 * 10) + 3).toNatClampNeg)), (2, .int (x1 * 10)), (0, .ref (a 1)), (1, .int x1)]) hx hb dX0_bearsAxle_13 rfl hl (by decide) rfl (fun ls hl => ?_)
  refine lv_aload_n hx hb dX0_bearsAxle_14 rfl (lv_at hl 2 rfl) ?_
  refine lv_iload_n hx hb dX0_bearsAxle_15 rfl (lv_at hl 1 rfl) ?_
  refine lv_aload_n hx hb dX0_bearsAxle_16 rfl (lv_at hl 2 rfl) ?_
  refine va_get (D := D) (ci := 0) (v := .ref (a 12)) (C := RX0) (T := TX0) (N := 8) hx hb htg ig_0 hown hK hP 1 (oh_wg (by decide) (sX_1 hT)) rfl 2 (by decide) (htg _ q_103) (fun _ h9 => h9) rfl dX0_bearsAxle_17 ?_
  refine lv_iload_n hx hb dX0_bearsAxle_20 rfl (lv_at hl 1 rfl) ?_
  refine lv_iconst (v := 1) hx hb dX0_bearsAxle_21 (by decide) ?_
  refine lv_iadd hx hb dX0_bearsAxle_22 ?_
  have n_2 : vp_in ((x1 * 10) + 1) 160 := (rg_in (rg_add (lo := 1) (hi := 151) (rg_mul (lo := 0) (hi := 150) hx1 (rg_c (v := 10) (lo := 10) (hi := 10) (by decide)) (by decide)) (rg_c (v := 1) (lo := 1) (hi := 1) (by decide)) (by decide)) (by decide))
  refine th_iald hx hb hK hP 12 (by decide) (sX_12 hT) n_2 dX0_bearsAxle_23 ?_
  refine lv_iconst (v := 2) hx hb dX0_bearsAxle_24 (by decide) ?_
  refine lv_icmp_ne (tgt := 34) hx hb dX0_bearsAxle_25 (by decide) (fun (c_3 : ¬ ((ga (C 12) ((x1 * 10) + 1).toNatClampNeg) = 2)) => ?_) (fun (c_3 : (ga (C 12) ((x1 * 10) + 1).toNatClampNeg) = 2) => ?_)
  · refine lv_iload_n hx hb dX0_bearsAxle_34 rfl (lv_at hl 0 rfl) ?_
    refine tq_V (As := [.int (x1 * 10), .int (ga (C 12) ((x1 * 10) + 3).toNatClampNeg)]) (rest := []) (ws := (oh_W 35 a C)) ⟨hx, hb, hml, hown, htg⟩ (e_X0_believed l D E G a C hT (x1 * 10) (ga (C 12) ((x1 * 10) + 3).toNatClampNeg) (rg_w (rg_mul (lo := 0) (hi := 150) hx1 (rg_c (v := 10) (lo := 10) (hi := 10) (by decide)) (by decide)) (by decide))) (cwV 2 htg (oh_gV q_397 q_399 q_4 q_67 q_400) rfl rfl rfl pdVX0_believed ⟨Nat.le_of_ble_eq_true rfl, Nat.le_of_ble_eq_true rfl⟩) hK hP hG hS (va_recv hK hP (ci := 0) (q0 := 1) rfl (oh_wg (by decide) (sX_1 hT))) rfl hl.1 rfl (Nat.le_of_ble_eq_true rfl) dX0_bearsAxle_35 ⟨Nat.le_of_ble_eq_true rfl, Nat.le_of_ble_eq_true rfl⟩ (fun r_4 hq_5 => ?_)
    rw [hQ]
    exact W.iret (v := r_4) hx hb hr (fun t ht hW => ⟨r_4, rfl, (Eq.trans hq_5 (congrArg (belF (ga (C 12) ((x1 * 10) + 1).toNatClampNeg) (ga (C 12) ((x1 * 10) + 8).toNatClampNeg) (ga (C 12) ((x1 * 10) + 9).toNatClampNeg) (ga (C 15) ((2 : Int32)).toNatClampNeg)) ((pif_neg c_3)).symm)), ht⟩) (fun q h => by cases h) dX0_bearsAxle_38
  · refine lv_iload_n hx hb dX0_bearsAxle_28 rfl (lv_at hl 0 rfl) ?_
    refine lv_iconst (v := 5) hx hb dX0_bearsAxle_29 (by decide) ?_
    refine lv_iadd hx hb dX0_bearsAxle_30 ?_
    refine lv_goto (tgt := 35) hx hb dX0_bearsAxle_31 (by decide) ?_
    refine tq_V (As := [.int (x1 * 10), .int ((ga (C 12) ((x1 * 10) + 3).toNatClampNeg) + 5)]) (rest := []) (ws := (oh_W 35 a C)) ⟨hx, hb, hml, hown, htg⟩ (e_X0_believed l D E G a C hT (x1 * 10) ((ga (C 12) ((x1 * 10) + 3).toNatClampNeg) + 5) (rg_w (rg_mul (lo := 0) (hi := 150) hx1 (rg_c (v := 10) (lo := 10) (hi := 10) (by decide)) (by decide)) (by decide))) (cwV 2 htg (oh_gV q_397 q_399 q_4 q_67 q_400) rfl rfl rfl pdVX0_believed ⟨Nat.le_of_ble_eq_true rfl, Nat.le_of_ble_eq_true rfl⟩) hK hP hG hS (va_recv hK hP (ci := 0) (q0 := 1) rfl (oh_wg (by decide) (sX_1 hT))) rfl hl.1 rfl (Nat.le_of_ble_eq_true rfl) dX0_bearsAxle_35 ⟨Nat.le_of_ble_eq_true rfl, Nat.le_of_ble_eq_true rfl⟩ (fun r_6 hq_7 => ?_)
    rw [hQ]
    exact W.iret (v := r_6) hx hb hr (fun t ht hW => ⟨r_6, rfl, (Eq.trans hq_7 (congrArg (belF (ga (C 12) ((x1 * 10) + 1).toNatClampNeg) (ga (C 12) ((x1 * 10) + 8).toNatClampNeg) (ga (C 12) ((x1 * 10) + 9).toNatClampNeg) (ga (C 15) ((2 : Int32)).toNatClampNeg)) ((pif_pos c_3)).symm)), ht⟩) (fun q h => by cases h) dX0_bearsAxle_38

theorem oh_b1 {x : Int32} (h : rg x 0 1) (c : ¬ x = 0) : x = 1 := by
  have e0 : x.toInt ≠ 0 := fun e => c (Int32.toInt_inj.mp e)
  refine Int32.toInt_inj.mp ?_
  have c1 : (1 : Int32).toInt = 1 := rfl
  have := h.1
  have := h.2
  omega

set_option maxHeartbeats 4000000 in
set_option maxRecDepth 100000 in
theorem e_X0_bearsAll (l : Launch) (D : va_G) (E : Nat → ClassId) (G : Nat → Nat) (a : Nat → Nat) (C : Nat → va_E) (hT : TyX a E C) (x1 : Int32) (x2 : Int32) (hx1 : rg x1 0 15) (hx2 : rg x2 0 1) : Met l yX0_bearsAll (oh_w yX0_bearsAll cX0_bearsAll 8 (some .int)) ({ frames := 1, cells := 0, slots := 0, locals := 24 }) (oh_Pp D E G [.ref (a 1), .int x1, .int x2] (oh_W 35 a C)) (vp_Si (fun r => (r = bAlF (x2 = 1) (ga (C 12) ((x1 * 10) + 1).toNatClampNeg) (ga (C 12) ((x1 * 10) + 4).toNatClampNeg) (ga (C 12) ((x1 * 10) + 5).toNatClampNeg) (ga (C 12) ((x1 * 10) + 8).toNatClampNeg) (ga (C 12) ((x1 * 10) + 9).toNatClampNeg) (ga (C 15) ((2 : Int32)).toNatClampNeg)))) 0 0 (fun _ => False) := by
  refine Met.ofW (cc := cX0_bearsAll) (maxL := 8) (ret := (some .int)) (by decide) rfl ?_
  intro p e s m args below meth c s₁ B hml hv
  obtain ⟨rfl, hP, hK, hG⟩ := hv
  have hx := B.exec
  have hb := B.bytes
  have hr := B.returns
  have hts := atoms_spec (ws := (oh_w yX0_bearsAll cX0_bearsAll 8 (some .int))) B.pre
  have htg : ∀ w ∈ oh_t, w.before _ s = true := fun w h => hts w (List.mem_cons_of_mem _ h)
  have hown : s.vm.findClass RX0 = some m.cls := findClass_of_methodNamed B.named
  have hlocks := B.notSynchronized
  have hT0 := hT
  have hS : va_S (fun _ => False) s.heap s.heap [] := va_S.rf
  have hl := lv_entry ([.ref (a 1), .int x1, .int x2]) (n := 8) (Nat.le_of_ble_eq_true rfl)
  rw [lg_entry_eq]
  generalize (lg_sl ([.ref (a 1), .int x1, .int x2]) ++ List.replicate (8 - (lg_sl ([.ref (a 1), .int x1, .int x2])).length) Slot.unset).toArray = ls at hl ⊢
  have hl : lv_has ls 8 [(0, .ref (a 1)), (1, .int x1), (2, .int x2)] := hl
  refine oh_genQ (fun Q hQ => ?_)
  refine lv_iload_n hx hb dX0_bearsAll_0 rfl (lv_at hl 1 rfl) ?_
  refine lv_bipush (v := 10) hx hb dX0_bearsAll_1 (by decide) ?_
  refine lv_imul hx hb dX0_bearsAll_3 ?_
  refine lv_istore_n (lv' := [(3, .int (x1 * 10)), (0, .ref (a 1)), (1, .int x1), (2, .int x2)]) hx hb dX0_bearsAll_4 rfl hl (by decide) rfl (fun ls hl => ?_)
  refine lv_aload_n hx hb dX0_bearsAll_5 rfl (lv_at hl 1 rfl) ?_
  refine va_get (D := D) (ci := 0) (v := .ref (a 12)) (C := RX0) (T := TX0) (N := 8) hx hb htg ig_0 hown hK hP 1 (oh_wg (by decide) (sX_1 hT)) rfl 2 (by decide) (htg _ q_103) (fun _ h9 => h9) rfl dX0_bearsAll_6 ?_
  refine lv_iload_n hx hb dX0_bearsAll_9 rfl (lv_at hl 0 rfl) ?_
  refine lv_iconst (v := 1) hx hb dX0_bearsAll_10 (by decide) ?_
  refine lv_iadd hx hb dX0_bearsAll_11 ?_
  have n_1 : vp_in ((x1 * 10) + 1) 160 := (rg_in (rg_add (lo := 1) (hi := 151) (rg_mul (lo := 0) (hi := 150) hx1 (rg_c (v := 10) (lo := 10) (hi := 10) (by decide)) (by decide)) (rg_c (v := 1) (lo := 1) (hi := 1) (by decide)) (by decide)) (by decide))
  refine th_iald hx hb hK hP 12 (by decide) (sX_12 hT) n_1 dX0_bearsAll_12 ?_
  refine lv_istore (lv' := [(4, .int (ga (C 12) ((x1 * 10) + 1).toNatClampNeg)), (3, .int (x1 * 10)), (0, .ref (a 1)), (1, .int x1), (2, .int x2)]) hx hb dX0_bearsAll_13 hl (by decide) rfl (fun ls hl => ?_)
  refine lv_aload_n hx hb dX0_bearsAll_15 rfl (lv_at hl 2 rfl) ?_
  refine va_get (D := D) (ci := 0) (v := .ref (a 12)) (C := RX0) (T := TX0) (N := 8) hx hb htg ig_0 hown hK hP 1 (oh_wg (by decide) (sX_1 hT)) rfl 2 (by decide) (htg _ q_103) (fun _ h9 => h9) rfl dX0_bearsAll_16 ?_
  refine lv_iload_n hx hb dX0_bearsAll_19 rfl (lv_at hl 1 rfl) ?_
  refine lv_iconst (v := 4) hx hb dX0_bearsAll_20 (by decide) ?_
  refine lv_iadd hx hb dX0_bearsAll_21 ?_
  have n_2 : vp_in ((x1 * 10) + 4) 160 := (rg_in (rg_add (lo := 4) (hi := 154) (rg_mul (lo := 0) (hi := 150) hx1 (rg_c (v := 10) (lo := 10) (hi := 10) (by decide)) (by decide)) (rg_c (v := 4) (lo := 4) (hi := 4) (by decide)) (by decide)) (by decide))
  refine th_iald hx hb hK hP 12 (by decide) (sX_12 hT) n_2 dX0_bearsAll_22 ?_
  refine lv_istore (lv' := [(5, .int (ga (C 12) ((x1 * 10) + 4).toNatClampNeg)), (4, .int (ga (C 12) ((x1 * 10) + 1).toNatClampNeg)), (3, .int (x1 * 10)), (0, .ref (a 1)), (1, .int x1), (2, .int x2)]) hx hb dX0_bearsAll_23 hl (by decide) rfl (fun ls hl => ?_)
  refine lv_iload hx hb dX0_bearsAll_25 (lv_at hl 1 rfl) ?_
  refine lv_iconst (v := 1) hx hb dX0_bearsAll_27 (by decide) ?_
  refine lv_icmp_eq (tgt := 37) hx hb dX0_bearsAll_28 (by decide) (fun (c_3 : (ga (C 12) ((x1 * 10) + 1).toNatClampNeg) = 1) => ?_) (fun (c_3 : ¬ ((ga (C 12) ((x1 * 10) + 1).toNatClampNeg) = 1)) => ?_)
  · refine lv_iconst (v := 1) hx hb dX0_bearsAll_37 (by decide) ?_
    refine lv_goto (tgt := 42) hx hb dX0_bearsAll_38 (by decide) ?_
    refine lv_istore (lv' := [(6, .int 1), (5, .int (ga (C 12) ((x1 * 10) + 4).toNatClampNeg)), (4, .int (ga (C 12) ((x1 * 10) + 1).toNatClampNeg)), (3, .int (x1 * 10)), (0, .ref (a 1)), (1, .int x1), (2, .int x2)]) hx hb dX0_bearsAll_42 hl (by decide) rfl (fun ls hl => ?_)
    refine lv_aload_n hx hb dX0_bearsAll_44 rfl (lv_at hl 4 rfl) ?_
    refine lv_iload_n hx hb dX0_bearsAll_45 rfl (lv_at hl 3 rfl) ?_
    refine lv_iload hx hb dX0_bearsAll_46 (lv_at hl 0 rfl) ?_
    refine lv_if_eq (tgt := 62) hx hb dX0_bearsAll_48 (by decide) (fun c => absurd c (show ¬ ((1 : Int32) = 0) from by decide)) (fun _ => ?_)
    refine lv_iload hx hb dX0_bearsAll_51 (lv_at hl 1 rfl) ?_
    refine lv_iload hx hb dX0_bearsAll_53 (lv_at hl 1 rfl) ?_
    refine lv_bipush (v := 10) hx hb dX0_bearsAll_55 (by decide) ?_
    refine lv_idiv hx hb dX0_bearsAll_57 (by decide) ?_
    refine lv_iadd hx hb dX0_bearsAll_58 ?_
    refine lv_goto (tgt := 64) hx hb dX0_bearsAll_59 (by decide) ?_
    refine tq_V (As := [.int (x1 * 10), .int ((ga (C 12) ((x1 * 10) + 4).toNatClampNeg) + ((ga (C 12) ((x1 * 10) + 4).toNatClampNeg) / 10))]) (rest := []) (ws := (oh_W 35 a C)) ⟨hx, hb, hml, hown, htg⟩ (e_X0_believed l D E G a C hT (x1 * 10) ((ga (C 12) ((x1 * 10) + 4).toNatClampNeg) + ((ga (C 12) ((x1 * 10) + 4).toNatClampNeg) / 10)) (rg_w (rg_mul (lo := 0) (hi := 150) hx1 (rg_c (v := 10) (lo := 10) (hi := 10) (by decide)) (by decide)) (by decide))) (cwV 2 htg (oh_gV q_397 q_399 q_4 q_67 q_400) rfl rfl rfl pdVX0_believed ⟨Nat.le_of_ble_eq_true rfl, Nat.le_of_ble_eq_true rfl⟩) hK hP hG hS (va_recv hK hP (ci := 0) (q0 := 1) rfl (oh_wg (by decide) (sX_1 hT))) rfl hl.1 rfl (Nat.le_of_ble_eq_true rfl) dX0_bearsAll_64 ⟨Nat.le_of_ble_eq_true rfl, Nat.le_of_ble_eq_true rfl⟩ (fun r_4 hq_5 => ?_)
    refine lv_istore (lv' := [(7, .int r_4), (6, .int 1), (5, .int (ga (C 12) ((x1 * 10) + 4).toNatClampNeg)), (4, .int (ga (C 12) ((x1 * 10) + 1).toNatClampNeg)), (3, .int (x1 * 10)), (0, .ref (a 1)), (1, .int x1), (2, .int x2)]) hx hb dX0_bearsAll_67 hl (by decide) rfl (fun ls hl => ?_)
    refine lv_iload_n hx hb dX0_bearsAll_69 rfl (lv_at hl 7 rfl) ?_
    refine lv_if_eq (tgt := 99) hx hb dX0_bearsAll_70 (by decide) (fun (c_6 : x2 = 0) => ?_) (fun (c_6 : ¬ (x2 = 0)) => ?_)
    · refine lv_iload hx hb dX0_bearsAll_99 (lv_at hl 0 rfl) ?_
      rw [hQ]
      exact W.iret (v := r_4) hx hb hr (fun t ht hW => ⟨r_4, rfl, (by rw [(show r_4 = bUnF (ga (C 12) ((x1 * 10) + 1).toNatClampNeg) (ga (C 12) ((x1 * 10) + 4).toNatClampNeg) (ga (C 12) ((x1 * 10) + 8).toNatClampNeg) (ga (C 12) ((x1 * 10) + 9).toNatClampNeg) (ga (C 15) ((2 : Int32)).toNatClampNeg) from Eq.trans hq_5 (congrArg (belF (ga (C 12) ((x1 * 10) + 1).toNatClampNeg) (ga (C 12) ((x1 * 10) + 8).toNatClampNeg) (ga (C 12) ((x1 * 10) + 9).toNatClampNeg) (ga (C 15) ((2 : Int32)).toNatClampNeg)) ((pif_pos (Or.inl c_3))).symm))]; exact ((pif_neg (fun h8 => (fun h8 => absurd (Eq.trans (Eq.symm c_6) h8) (by decide)) h8.1))).symm), ht⟩) (fun q h => by cases h) dX0_bearsAll_101
    · refine lv_aload_n hx hb dX0_bearsAll_73 rfl (lv_at hl 5 rfl) ?_
      refine va_get (D := D) (ci := 0) (v := .ref (a 12)) (C := RX0) (T := TX0) (N := 8) hx hb htg ig_0 hown hK hP 1 (oh_wg (by decide) (sX_1 hT)) rfl 2 (by decide) (htg _ q_103) (fun _ h9 => h9) rfl dX0_bearsAll_74 ?_
      refine lv_iload_n hx hb dX0_bearsAll_77 rfl (lv_at hl 4 rfl) ?_
      refine lv_bipush (v := 8) hx hb dX0_bearsAll_78 (by decide) ?_
      refine lv_iadd hx hb dX0_bearsAll_80 ?_
      have n_7 : vp_in ((x1 * 10) + 8) 160 := (rg_in (rg_add (lo := 8) (hi := 158) (rg_mul (lo := 0) (hi := 150) hx1 (rg_c (v := 10) (lo := 10) (hi := 10) (by decide)) (by decide)) (rg_c (v := 8) (lo := 8) (hi := 8) (by decide)) (by decide)) (by decide))
      refine th_iald hx hb hK hP 12 (by decide) (sX_12 hT) n_7 dX0_bearsAll_81 ?_
      refine lv_if_ne (tgt := 99) hx hb dX0_bearsAll_82 (by decide) (fun (c_8 : ¬ ((ga (C 12) ((x1 * 10) + 8).toNatClampNeg) = 0)) => ?_) (fun (c_8 : (ga (C 12) ((x1 * 10) + 8).toNatClampNeg) = 0) => ?_)
      · refine lv_iload hx hb dX0_bearsAll_99 (lv_at hl 0 rfl) ?_
        rw [hQ]
        exact W.iret (v := r_4) hx hb hr (fun t ht hW => ⟨r_4, rfl, (by rw [(show r_4 = bUnF (ga (C 12) ((x1 * 10) + 1).toNatClampNeg) (ga (C 12) ((x1 * 10) + 4).toNatClampNeg) (ga (C 12) ((x1 * 10) + 8).toNatClampNeg) (ga (C 12) ((x1 * 10) + 9).toNatClampNeg) (ga (C 15) ((2 : Int32)).toNatClampNeg) from Eq.trans hq_5 (congrArg (belF (ga (C 12) ((x1 * 10) + 1).toNatClampNeg) (ga (C 12) ((x1 * 10) + 8).toNatClampNeg) (ga (C 12) ((x1 * 10) + 9).toNatClampNeg) (ga (C 15) ((2 : Int32)).toNatClampNeg)) ((pif_pos (Or.inl c_3))).symm))]; exact ((pif_neg (fun h8 => c_8 h8.2))).symm), ht⟩) (fun q h => by cases h) dX0_bearsAll_101
      · refine lv_iload hx hb dX0_bearsAll_85 (lv_at hl 0 rfl) ?_
        refine lv_aload_n hx hb dX0_bearsAll_87 rfl (lv_at hl 5 rfl) ?_
        refine va_get (D := D) (ci := 0) (v := .ref (a 12)) (C := RX0) (T := TX0) (N := 8) hx hb htg ig_0 hown hK hP 1 (oh_wg (by decide) (sX_1 hT)) rfl 2 (by decide) (htg _ q_103) (fun _ h9 => h9) rfl dX0_bearsAll_88 ?_
        refine lv_iload_n hx hb dX0_bearsAll_91 rfl (lv_at hl 4 rfl) ?_
        refine lv_iconst (v := 5) hx hb dX0_bearsAll_92 (by decide) ?_
        refine lv_iadd hx hb dX0_bearsAll_93 ?_
        have n_9 : vp_in ((x1 * 10) + 5) 160 := (rg_in (rg_add (lo := 5) (hi := 155) (rg_mul (lo := 0) (hi := 150) hx1 (rg_c (v := 10) (lo := 10) (hi := 10) (by decide)) (by decide)) (rg_c (v := 5) (lo := 5) (hi := 5) (by decide)) (by decide)) (by decide))
        refine th_iald hx hb hK hP 12 (by decide) (sX_12 hT) n_9 dX0_bearsAll_94 ?_
        refine lv_iadd hx hb dX0_bearsAll_95 ?_
        refine lv_goto (tgt := 101) hx hb dX0_bearsAll_96 (by decide) ?_
        rw [hQ]
        exact W.iret (v := r_4 + (ga (C 12) ((x1 * 10) + 5).toNatClampNeg)) hx hb hr (fun t ht hW => ⟨r_4 + (ga (C 12) ((x1 * 10) + 5).toNatClampNeg), rfl, (by rw [(show r_4 = bUnF (ga (C 12) ((x1 * 10) + 1).toNatClampNeg) (ga (C 12) ((x1 * 10) + 4).toNatClampNeg) (ga (C 12) ((x1 * 10) + 8).toNatClampNeg) (ga (C 12) ((x1 * 10) + 9).toNatClampNeg) (ga (C 15) ((2 : Int32)).toNatClampNeg) from Eq.trans hq_5 (congrArg (belF (ga (C 12) ((x1 * 10) + 1).toNatClampNeg) (ga (C 12) ((x1 * 10) + 8).toNatClampNeg) (ga (C 12) ((x1 * 10) + 9).toNatClampNeg) (ga (C 15) ((2 : Int32)).toNatClampNeg)) ((pif_pos (Or.inl c_3))).symm))]; exact ((pif_pos ⟨(oh_b1 hx2 c_6), c_8⟩)).symm), ht⟩) (fun q h => by cases h) dX0_bearsAll_101
  · refine lv_iload hx hb dX0_bearsAll_31 (lv_at hl 1 rfl) ?_
    refine lv_iconst (v := 2) hx hb dX0_bearsAll_33 (by decide) ?_
    refine lv_icmp_ne (tgt := 41) hx hb dX0_bearsAll_34 (by decide) (fun (c_10 : ¬ ((ga (C 12) ((x1 * 10) + 1).toNatClampNeg) = 2)) => ?_) (fun (c_10 : (ga (C 12) ((x1 * 10) + 1).toNatClampNeg) = 2) => ?_)
    · refine lv_iconst (v := 0) hx hb dX0_bearsAll_41 (by decide) ?_
      refine lv_istore (lv' := [(6, .int 0), (5, .int (ga (C 12) ((x1 * 10) + 4).toNatClampNeg)), (4, .int (ga (C 12) ((x1 * 10) + 1).toNatClampNeg)), (3, .int (x1 * 10)), (0, .ref (a 1)), (1, .int x1), (2, .int x2)]) hx hb dX0_bearsAll_42 hl (by decide) rfl (fun ls hl => ?_)
      refine lv_aload_n hx hb dX0_bearsAll_44 rfl (lv_at hl 4 rfl) ?_
      refine lv_iload_n hx hb dX0_bearsAll_45 rfl (lv_at hl 3 rfl) ?_
      refine lv_iload hx hb dX0_bearsAll_46 (lv_at hl 0 rfl) ?_
      refine lv_if_eq (tgt := 62) hx hb dX0_bearsAll_48 (by decide) (fun _ => ?_) (fun c => absurd (show (0 : Int32) = 0 from by decide) c)
      refine lv_iload hx hb dX0_bearsAll_62 (lv_at hl 1 rfl) ?_
      refine tq_V (As := [.int (x1 * 10), .int (ga (C 12) ((x1 * 10) + 4).toNatClampNeg)]) (rest := []) (ws := (oh_W 35 a C)) ⟨hx, hb, hml, hown, htg⟩ (e_X0_believed l D E G a C hT (x1 * 10) (ga (C 12) ((x1 * 10) + 4).toNatClampNeg) (rg_w (rg_mul (lo := 0) (hi := 150) hx1 (rg_c (v := 10) (lo := 10) (hi := 10) (by decide)) (by decide)) (by decide))) (cwV 2 htg (oh_gV q_397 q_399 q_4 q_67 q_400) rfl rfl rfl pdVX0_believed ⟨Nat.le_of_ble_eq_true rfl, Nat.le_of_ble_eq_true rfl⟩) hK hP hG hS (va_recv hK hP (ci := 0) (q0 := 1) rfl (oh_wg (by decide) (sX_1 hT))) rfl hl.1 rfl (Nat.le_of_ble_eq_true rfl) dX0_bearsAll_64 ⟨Nat.le_of_ble_eq_true rfl, Nat.le_of_ble_eq_true rfl⟩ (fun r_11 hq_12 => ?_)
      refine lv_istore (lv' := [(7, .int r_11), (6, .int 0), (5, .int (ga (C 12) ((x1 * 10) + 4).toNatClampNeg)), (4, .int (ga (C 12) ((x1 * 10) + 1).toNatClampNeg)), (3, .int (x1 * 10)), (0, .ref (a 1)), (1, .int x1), (2, .int x2)]) hx hb dX0_bearsAll_67 hl (by decide) rfl (fun ls hl => ?_)
      refine lv_iload_n hx hb dX0_bearsAll_69 rfl (lv_at hl 7 rfl) ?_
      refine lv_if_eq (tgt := 99) hx hb dX0_bearsAll_70 (by decide) (fun (c_13 : x2 = 0) => ?_) (fun (c_13 : ¬ (x2 = 0)) => ?_)
      · refine lv_iload hx hb dX0_bearsAll_99 (lv_at hl 0 rfl) ?_
        rw [hQ]
        exact W.iret (v := r_11) hx hb hr (fun t ht hW => ⟨r_11, rfl, (by rw [(show r_11 = bUnF (ga (C 12) ((x1 * 10) + 1).toNatClampNeg) (ga (C 12) ((x1 * 10) + 4).toNatClampNeg) (ga (C 12) ((x1 * 10) + 8).toNatClampNeg) (ga (C 12) ((x1 * 10) + 9).toNatClampNeg) (ga (C 15) ((2 : Int32)).toNatClampNeg) from Eq.trans hq_12 (congrArg (belF (ga (C 12) ((x1 * 10) + 1).toNatClampNeg) (ga (C 12) ((x1 * 10) + 8).toNatClampNeg) (ga (C 12) ((x1 * 10) + 9).toNatClampNeg) (ga (C 15) ((2 : Int32)).toNatClampNeg)) ((pif_neg (fun h8 => h8.elim c_3 c_10))).symm))]; exact ((pif_neg (fun h8 => (fun h8 => absurd (Eq.trans (Eq.symm c_13) h8) (by decide)) h8.1))).symm), ht⟩) (fun q h => by cases h) dX0_bearsAll_101
      · refine lv_aload_n hx hb dX0_bearsAll_73 rfl (lv_at hl 5 rfl) ?_
        refine va_get (D := D) (ci := 0) (v := .ref (a 12)) (C := RX0) (T := TX0) (N := 8) hx hb htg ig_0 hown hK hP 1 (oh_wg (by decide) (sX_1 hT)) rfl 2 (by decide) (htg _ q_103) (fun _ h9 => h9) rfl dX0_bearsAll_74 ?_
        refine lv_iload_n hx hb dX0_bearsAll_77 rfl (lv_at hl 4 rfl) ?_
        refine lv_bipush (v := 8) hx hb dX0_bearsAll_78 (by decide) ?_
        refine lv_iadd hx hb dX0_bearsAll_80 ?_
        have n_14 : vp_in ((x1 * 10) + 8) 160 := (rg_in (rg_add (lo := 8) (hi := 158) (rg_mul (lo := 0) (hi := 150) hx1 (rg_c (v := 10) (lo := 10) (hi := 10) (by decide)) (by decide)) (rg_c (v := 8) (lo := 8) (hi := 8) (by decide)) (by decide)) (by decide))
        refine th_iald hx hb hK hP 12 (by decide) (sX_12 hT) n_14 dX0_bearsAll_81 ?_
        refine lv_if_ne (tgt := 99) hx hb dX0_bearsAll_82 (by decide) (fun (c_15 : ¬ ((ga (C 12) ((x1 * 10) + 8).toNatClampNeg) = 0)) => ?_) (fun (c_15 : (ga (C 12) ((x1 * 10) + 8).toNatClampNeg) = 0) => ?_)
        · refine lv_iload hx hb dX0_bearsAll_99 (lv_at hl 0 rfl) ?_
          rw [hQ]
          exact W.iret (v := r_11) hx hb hr (fun t ht hW => ⟨r_11, rfl, (by rw [(show r_11 = bUnF (ga (C 12) ((x1 * 10) + 1).toNatClampNeg) (ga (C 12) ((x1 * 10) + 4).toNatClampNeg) (ga (C 12) ((x1 * 10) + 8).toNatClampNeg) (ga (C 12) ((x1 * 10) + 9).toNatClampNeg) (ga (C 15) ((2 : Int32)).toNatClampNeg) from Eq.trans hq_12 (congrArg (belF (ga (C 12) ((x1 * 10) + 1).toNatClampNeg) (ga (C 12) ((x1 * 10) + 8).toNatClampNeg) (ga (C 12) ((x1 * 10) + 9).toNatClampNeg) (ga (C 15) ((2 : Int32)).toNatClampNeg)) ((pif_neg (fun h8 => h8.elim c_3 c_10))).symm))]; exact ((pif_neg (fun h8 => c_15 h8.2))).symm), ht⟩) (fun q h => by cases h) dX0_bearsAll_101
        · refine lv_iload hx hb dX0_bearsAll_85 (lv_at hl 0 rfl) ?_
          refine lv_aload_n hx hb dX0_bearsAll_87 rfl (lv_at hl 5 rfl) ?_
          refine va_get (D := D) (ci := 0) (v := .ref (a 12)) (C := RX0) (T := TX0) (N := 8) hx hb htg ig_0 hown hK hP 1 (oh_wg (by decide) (sX_1 hT)) rfl 2 (by decide) (htg _ q_103) (fun _ h9 => h9) rfl dX0_bearsAll_88 ?_
          refine lv_iload_n hx hb dX0_bearsAll_91 rfl (lv_at hl 4 rfl) ?_
          refine lv_iconst (v := 5) hx hb dX0_bearsAll_92 (by decide) ?_
          refine lv_iadd hx hb dX0_bearsAll_93 ?_
          have n_16 : vp_in ((x1 * 10) + 5) 160 := (rg_in (rg_add (lo := 5) (hi := 155) (rg_mul (lo := 0) (hi := 150) hx1 (rg_c (v := 10) (lo := 10) (hi := 10) (by decide)) (by decide)) (rg_c (v := 5) (lo := 5) (hi := 5) (by decide)) (by decide)) (by decide))
          refine th_iald hx hb hK hP 12 (by decide) (sX_12 hT) n_16 dX0_bearsAll_94 ?_
          refine lv_iadd hx hb dX0_bearsAll_95 ?_
          refine lv_goto (tgt := 101) hx hb dX0_bearsAll_96 (by decide) ?_
          rw [hQ]
          exact W.iret (v := r_11 + (ga (C 12) ((x1 * 10) + 5).toNatClampNeg)) hx hb hr (fun t ht hW => ⟨r_11 + (ga (C 12) ((x1 * 10) + 5).toNatClampNeg), rfl, (by rw [(show r_11 = bUnF (ga (C 12) ((x1 * 10) + 1).toNatClampNeg) (ga (C 12) ((x1 * 10) + 4).toNatClampNeg) (ga (C 12) ((x1 * 10) + 8).toNatClampNeg) (ga (C 12) ((x1 * 10) + 9).toNatClampNeg) (ga (C 15) ((2 : Int32)).toNatClampNeg) from Eq.trans hq_12 (congrArg (belF (ga (C 12) ((x1 * 10) + 1).toNatClampNeg) (ga (C 12) ((x1 * 10) + 8).toNatClampNeg) (ga (C 12) ((x1 * 10) + 9).toNatClampNeg) (ga (C 15) ((2 : Int32)).toNatClampNeg)) ((pif_neg (fun h8 => h8.elim c_3 c_10))).symm))]; exact ((pif_pos ⟨(oh_b1 hx2 c_13), c_15⟩)).symm), ht⟩) (fun q h => by cases h) dX0_bearsAll_101
    · refine lv_iconst (v := 1) hx hb dX0_bearsAll_37 (by decide) ?_
      refine lv_goto (tgt := 42) hx hb dX0_bearsAll_38 (by decide) ?_
      refine lv_istore (lv' := [(6, .int 1), (5, .int (ga (C 12) ((x1 * 10) + 4).toNatClampNeg)), (4, .int (ga (C 12) ((x1 * 10) + 1).toNatClampNeg)), (3, .int (x1 * 10)), (0, .ref (a 1)), (1, .int x1), (2, .int x2)]) hx hb dX0_bearsAll_42 hl (by decide) rfl (fun ls hl => ?_)
      refine lv_aload_n hx hb dX0_bearsAll_44 rfl (lv_at hl 4 rfl) ?_
      refine lv_iload_n hx hb dX0_bearsAll_45 rfl (lv_at hl 3 rfl) ?_
      refine lv_iload hx hb dX0_bearsAll_46 (lv_at hl 0 rfl) ?_
      refine lv_if_eq (tgt := 62) hx hb dX0_bearsAll_48 (by decide) (fun c => absurd c (show ¬ ((1 : Int32) = 0) from by decide)) (fun _ => ?_)
      refine lv_iload hx hb dX0_bearsAll_51 (lv_at hl 1 rfl) ?_
      refine lv_iload hx hb dX0_bearsAll_53 (lv_at hl 1 rfl) ?_
      refine lv_bipush (v := 10) hx hb dX0_bearsAll_55 (by decide) ?_
      refine lv_idiv hx hb dX0_bearsAll_57 (by decide) ?_
      refine lv_iadd hx hb dX0_bearsAll_58 ?_
      refine lv_goto (tgt := 64) hx hb dX0_bearsAll_59 (by decide) ?_
      refine tq_V (As := [.int (x1 * 10), .int ((ga (C 12) ((x1 * 10) + 4).toNatClampNeg) + ((ga (C 12) ((x1 * 10) + 4).toNatClampNeg) / 10))]) (rest := []) (ws := (oh_W 35 a C)) ⟨hx, hb, hml, hown, htg⟩ (e_X0_believed l D E G a C hT (x1 * 10) ((ga (C 12) ((x1 * 10) + 4).toNatClampNeg) + ((ga (C 12) ((x1 * 10) + 4).toNatClampNeg) / 10)) (rg_w (rg_mul (lo := 0) (hi := 150) hx1 (rg_c (v := 10) (lo := 10) (hi := 10) (by decide)) (by decide)) (by decide))) (cwV 2 htg (oh_gV q_397 q_399 q_4 q_67 q_400) rfl rfl rfl pdVX0_believed ⟨Nat.le_of_ble_eq_true rfl, Nat.le_of_ble_eq_true rfl⟩) hK hP hG hS (va_recv hK hP (ci := 0) (q0 := 1) rfl (oh_wg (by decide) (sX_1 hT))) rfl hl.1 rfl (Nat.le_of_ble_eq_true rfl) dX0_bearsAll_64 ⟨Nat.le_of_ble_eq_true rfl, Nat.le_of_ble_eq_true rfl⟩ (fun r_17 hq_18 => ?_)
      refine lv_istore (lv' := [(7, .int r_17), (6, .int 1), (5, .int (ga (C 12) ((x1 * 10) + 4).toNatClampNeg)), (4, .int (ga (C 12) ((x1 * 10) + 1).toNatClampNeg)), (3, .int (x1 * 10)), (0, .ref (a 1)), (1, .int x1), (2, .int x2)]) hx hb dX0_bearsAll_67 hl (by decide) rfl (fun ls hl => ?_)
      refine lv_iload_n hx hb dX0_bearsAll_69 rfl (lv_at hl 7 rfl) ?_
      refine lv_if_eq (tgt := 99) hx hb dX0_bearsAll_70 (by decide) (fun (c_19 : x2 = 0) => ?_) (fun (c_19 : ¬ (x2 = 0)) => ?_)
      · refine lv_iload hx hb dX0_bearsAll_99 (lv_at hl 0 rfl) ?_
        rw [hQ]
        exact W.iret (v := r_17) hx hb hr (fun t ht hW => ⟨r_17, rfl, (by rw [(show r_17 = bUnF (ga (C 12) ((x1 * 10) + 1).toNatClampNeg) (ga (C 12) ((x1 * 10) + 4).toNatClampNeg) (ga (C 12) ((x1 * 10) + 8).toNatClampNeg) (ga (C 12) ((x1 * 10) + 9).toNatClampNeg) (ga (C 15) ((2 : Int32)).toNatClampNeg) from Eq.trans hq_18 (congrArg (belF (ga (C 12) ((x1 * 10) + 1).toNatClampNeg) (ga (C 12) ((x1 * 10) + 8).toNatClampNeg) (ga (C 12) ((x1 * 10) + 9).toNatClampNeg) (ga (C 15) ((2 : Int32)).toNatClampNeg)) ((pif_pos (Or.inr c_10))).symm))]; exact ((pif_neg (fun h8 => (fun h8 => absurd (Eq.trans (Eq.symm c_19) h8) (by decide)) h8.1))).symm), ht⟩) (fun q h => by cases h) dX0_bearsAll_101
      · refine lv_aload_n hx hb dX0_bearsAll_73 rfl (lv_at hl 5 rfl) ?_
        refine va_get (D := D) (ci := 0) (v := .ref (a 12)) (C := RX0) (T := TX0) (N := 8) hx hb htg ig_0 hown hK hP 1 (oh_wg (by decide) (sX_1 hT)) rfl 2 (by decide) (htg _ q_103) (fun _ h9 => h9) rfl dX0_bearsAll_74 ?_
        refine lv_iload_n hx hb dX0_bearsAll_77 rfl (lv_at hl 4 rfl) ?_
        refine lv_bipush (v := 8) hx hb dX0_bearsAll_78 (by decide) ?_
        refine lv_iadd hx hb dX0_bearsAll_80 ?_
        have n_20 : vp_in ((x1 * 10) + 8) 160 := (rg_in (rg_add (lo := 8) (hi := 158) (rg_mul (lo := 0) (hi := 150) hx1 (rg_c (v := 10) (lo := 10) (hi := 10) (by decide)) (by decide)) (rg_c (v := 8) (lo := 8) (hi := 8) (by decide)) (by decide)) (by decide))
        refine th_iald hx hb hK hP 12 (by decide) (sX_12 hT) n_20 dX0_bearsAll_81 ?_
        refine lv_if_ne (tgt := 99) hx hb dX0_bearsAll_82 (by decide) (fun (c_21 : ¬ ((ga (C 12) ((x1 * 10) + 8).toNatClampNeg) = 0)) => ?_) (fun (c_21 : (ga (C 12) ((x1 * 10) + 8).toNatClampNeg) = 0) => ?_)
        · refine lv_iload hx hb dX0_bearsAll_99 (lv_at hl 0 rfl) ?_
          rw [hQ]
          exact W.iret (v := r_17) hx hb hr (fun t ht hW => ⟨r_17, rfl, (by rw [(show r_17 = bUnF (ga (C 12) ((x1 * 10) + 1).toNatClampNeg) (ga (C 12) ((x1 * 10) + 4).toNatClampNeg) (ga (C 12) ((x1 * 10) + 8).toNatClampNeg) (ga (C 12) ((x1 * 10) + 9).toNatClampNeg) (ga (C 15) ((2 : Int32)).toNatClampNeg) from Eq.trans hq_18 (congrArg (belF (ga (C 12) ((x1 * 10) + 1).toNatClampNeg) (ga (C 12) ((x1 * 10) + 8).toNatClampNeg) (ga (C 12) ((x1 * 10) + 9).toNatClampNeg) (ga (C 15) ((2 : Int32)).toNatClampNeg)) ((pif_pos (Or.inr c_10))).symm))]; exact ((pif_neg (fun h8 => c_21 h8.2))).symm), ht⟩) (fun q h => by cases h) dX0_bearsAll_101
        · refine lv_iload hx hb dX0_bearsAll_85 (lv_at hl 0 rfl) ?_
          refine lv_aload_n hx hb dX0_bearsAll_87 rfl (lv_at hl 5 rfl) ?_
          refine va_get (D := D) (ci := 0) (v := .ref (a 12)) (C := RX0) (T := TX0) (N := 8) hx hb htg ig_0 hown hK hP 1 (oh_wg (by decide) (sX_1 hT)) rfl 2 (by decide) (htg _ q_103) (fun _ h9 => h9) rfl dX0_bearsAll_88 ?_
          refine lv_iload_n hx hb dX0_bearsAll_91 rfl (lv_at hl 4 rfl) ?_
          refine lv_iconst (v := 5) hx hb dX0_bearsAll_92 (by decide) ?_
          refine lv_iadd hx hb dX0_bearsAll_93 ?_
          have n_22 : vp_in ((x1 * 10) + 5) 160 := (rg_in (rg_add (lo := 5) (hi := 155) (rg_mul (lo := 0) (hi := 150) hx1 (rg_c (v := 10) (lo := 10) (hi := 10) (by decide)) (by decide)) (rg_c (v := 5) (lo := 5) (hi := 5) (by decide)) (by decide)) (by decide))
          refine th_iald hx hb hK hP 12 (by decide) (sX_12 hT) n_22 dX0_bearsAll_94 ?_
          refine lv_iadd hx hb dX0_bearsAll_95 ?_
          refine lv_goto (tgt := 101) hx hb dX0_bearsAll_96 (by decide) ?_
          rw [hQ]
          exact W.iret (v := r_17 + (ga (C 12) ((x1 * 10) + 5).toNatClampNeg)) hx hb hr (fun t ht hW => ⟨r_17 + (ga (C 12) ((x1 * 10) + 5).toNatClampNeg), rfl, (by rw [(show r_17 = bUnF (ga (C 12) ((x1 * 10) + 1).toNatClampNeg) (ga (C 12) ((x1 * 10) + 4).toNatClampNeg) (ga (C 12) ((x1 * 10) + 8).toNatClampNeg) (ga (C 12) ((x1 * 10) + 9).toNatClampNeg) (ga (C 15) ((2 : Int32)).toNatClampNeg) from Eq.trans hq_18 (congrArg (belF (ga (C 12) ((x1 * 10) + 1).toNatClampNeg) (ga (C 12) ((x1 * 10) + 8).toNatClampNeg) (ga (C 12) ((x1 * 10) + 9).toNatClampNeg) (ga (C 15) ((2 : Int32)).toNatClampNeg)) ((pif_pos (Or.inr c_10))).symm))]; exact ((pif_pos ⟨(oh_b1 hx2 c_19), c_21⟩)).symm), ht⟩) (fun q h => by cases h) dX0_bearsAll_101

set_option maxHeartbeats 4000000 in
set_option maxRecDepth 100000 in
theorem e_X0_isPropped (l : Launch) (D : va_G) (E : Nat → ClassId) (G : Nat → Nat) (a : Nat → Nat) (C : Nat → va_E) (hT : TyX a E C) (x1 : Int32) (hx1 : rg x1 0 15) : Met l yX0_isPropped (oh_w yX0_isPropped cX0_isPropped 2 (some .boolean)) ({ frames := 1, cells := 0, slots := 0, locals := 22 }) (oh_Pp D E G [.ref (a 1), .int x1] (oh_W 35 a C)) (vp_Si (fun r => (r = 0 ∨ r = 1) ∧ (r = 1 ↔ ga (C 12) ((x1 * 10) + 7).toNatClampNeg = 1))) 0 0 (fun _ => False) := by
  refine Met.ofW (cc := cX0_isPropped) (maxL := 2) (ret := (some .boolean)) (by decide) rfl ?_
  intro p e s m args below meth c s₁ B hml hv
  obtain ⟨rfl, hP, hK, hG⟩ := hv
  have hx := B.exec
  have hb := B.bytes
  have hr := B.returns
  have hts := atoms_spec (ws := (oh_w yX0_isPropped cX0_isPropped 2 (some .boolean))) B.pre
  have htg : ∀ w ∈ oh_t, w.before _ s = true := fun w h => hts w (List.mem_cons_of_mem _ h)
  have hown : s.vm.findClass RX0 = some m.cls := findClass_of_methodNamed B.named
  have hlocks := B.notSynchronized
  have hT0 := hT
  have hS : va_S (fun _ => False) s.heap s.heap [] := va_S.rf
  have hl := lv_entry ([.ref (a 1), .int x1]) (n := 2) (Nat.le_of_ble_eq_true rfl)
  rw [lg_entry_eq]
  generalize (lg_sl ([.ref (a 1), .int x1]) ++ List.replicate (2 - (lg_sl ([.ref (a 1), .int x1])).length) Slot.unset).toArray = ls at hl ⊢
  have hl : lv_has ls 2 [(0, .ref (a 1)), (1, .int x1)] := hl
  refine oh_genQ (fun Q hQ => ?_)
  refine lv_aload_n hx hb dX0_isPropped_0 rfl (lv_at hl 0 rfl) ?_
  refine lv_iload_n hx hb dX0_isPropped_1 rfl (lv_at hl 1 rfl) ?_
  refine lv_bipush (v := 7) hx hb dX0_isPropped_2 (by decide) ?_
  refine tq_V (As := [.int x1, .int 7]) (rest := []) (ws := (oh_W 35 a C)) ⟨hx, hb, hml, hown, htg⟩ (c_X0_ofBridge l D E G a C hT x1 (7 : Int32) (rg_w hx1 (by decide)) (rg_w (rg_c (v := 7) (lo := 7) (hi := 7) (by decide)) (by decide))) (cwV 2 htg (oh_gV q_384 q_385 q_386 q_67 q_387) rfl rfl rfl pdVX0_ofBridge ⟨Nat.le_of_ble_eq_true rfl, Nat.le_of_ble_eq_true rfl⟩) hK hP hG hS (va_recv hK hP (ci := 0) (q0 := 1) rfl (oh_wg (by decide) (sX_1 hT))) rfl hl.1 rfl (Nat.le_of_ble_eq_true rfl) dX0_isPropped_4 ⟨Nat.le_of_ble_eq_true rfl, Nat.le_of_ble_eq_true rfl⟩ (fun r_1 hq_2 => ?_)
  subst hq_2
  refine lv_iconst (v := 1) hx hb dX0_isPropped_7 (by decide) ?_
  refine lv_icmp_ne (tgt := 15) hx hb dX0_isPropped_8 (by decide) (fun (c_3 : ¬ ((ga (C 12) ((x1 * 10) + 7).toNatClampNeg) = 1)) => ?_) (fun (c_3 : (ga (C 12) ((x1 * 10) + 7).toNatClampNeg) = 1) => ?_)
  · refine lv_iconst (v := 0) hx hb dX0_isPropped_15 (by decide) ?_
    rw [hQ]
    exact W.zret (v := 0) (ty := .boolean) hx hb hr (by decide) (fun t ht hW => ⟨0, rfl, ⟨(Or.inl rfl), ⟨fun h8 => absurd h8 (by decide), fun h8 => absurd h8 c_3⟩⟩, ht⟩) (fun q h => by cases h) dX0_isPropped_16
  · refine lv_iconst (v := 1) hx hb dX0_isPropped_11 (by decide) ?_
    refine lv_goto (tgt := 16) hx hb dX0_isPropped_12 (by decide) ?_
    rw [hQ]
    exact W.zret (v := 1) (ty := .boolean) hx hb hr (by decide) (fun t ht hW => ⟨1, rfl, ⟨(Or.inr rfl), ⟨fun _ => c_3, fun _ => rfl⟩⟩, ht⟩) (fun q h => by cases h) dX0_isPropped_16

set_option maxHeartbeats 4000000 in
set_option maxRecDepth 100000 in
theorem e_X1_needsOf (l : Launch) (D : va_G) (E : Nat → ClassId) (G : Nat → Nat) (a : Nat → Nat) (C : Nat → va_E) (hT : TyX a E C) (x1 : Int32) (hx1 : rg x1 0 15) : Met l yX1_needsOf (oh_w yX1_needsOf cX1_needsOf 5 (some .int)) ({ frames := 2, cells := 0, slots := 0, locals := 51 }) (oh_Pp D E G [.ref (a 9), .ref (a 1), .int x1] (oh_W 35 a C)) (vp_Si (fun r => (r = ndF (ga (C 12) ((x1 * 10) + 1).toNatClampNeg) (ga (C 12) ((x1 * 10) + 3).toNatClampNeg) (ga (C 12) ((x1 * 10) + 4).toNatClampNeg) (ga (C 12) ((x1 * 10) + 5).toNatClampNeg) (ga (C 12) ((x1 * 10) + 7).toNatClampNeg) (ga (C 12) ((x1 * 10) + 8).toNatClampNeg) (ga (C 12) ((x1 * 10) + 9).toNatClampNeg) (ga (C 15) ((2 : Int32)).toNatClampNeg) (gi (C 9) 3) ((if cutBy (ga (C 12) ((x1 * 10) + 2).toNatClampNeg) (gi (C 9) 1) + 1 < gi (C 9) 0 then cutBy (ga (C 12) ((x1 * 10) + 2).toNatClampNeg) (gi (C 9) 1) + 1 else gi (C 9) 0) * gi (C 9) 3)))) 0 0 (fun _ => False) := by
  refine Met.ofW (cc := cX1_needsOf) (maxL := 5) (ret := (some .int)) (by decide) rfl ?_
  intro p e s m args below meth c s₁ B hml hv
  obtain ⟨rfl, hP, hK, hG⟩ := hv
  have hx := B.exec
  have hb := B.bytes
  have hr := B.returns
  have hts := atoms_spec (ws := (oh_w yX1_needsOf cX1_needsOf 5 (some .int))) B.pre
  have htg : ∀ w ∈ oh_t, w.before _ s = true := fun w h => hts w (List.mem_cons_of_mem _ h)
  have hown : s.vm.findClass RX1 = some m.cls := findClass_of_methodNamed B.named
  have hlocks := B.notSynchronized
  have hT0 := hT
  have hS : va_S (fun _ => False) s.heap s.heap [] := va_S.rf
  have hl := lv_entry ([.ref (a 9), .ref (a 1), .int x1]) (n := 5) (Nat.le_of_ble_eq_true rfl)
  rw [lg_entry_eq]
  generalize (lg_sl ([.ref (a 9), .ref (a 1), .int x1]) ++ List.replicate (5 - (lg_sl ([.ref (a 9), .ref (a 1), .int x1])).length) Slot.unset).toArray = ls at hl ⊢
  have hl : lv_has ls 5 [(0, .ref (a 9)), (1, .ref (a 1)), (2, .int x1)] := hl
  refine oh_genQ (fun Q hQ => ?_)
  refine lv_aload_n hx hb dX1_needsOf_0 rfl (lv_at hl 0 rfl) ?_
  refine va_get (D := D) (ci := 1) (v := .int (gi (C 9) 3)) (C := RX1) (T := TX1) (N := 5) hx hb htg ig_1 hown hK hP 9 (oh_wg (by decide) (sX_9 hT)) rfl 3 (by decide) (htg _ q_149) (fun _ h9 => h9) rfl dX1_needsOf_1 ?_
  refine lv_aload_n hx hb dX1_needsOf_4 rfl (lv_at hl 1 rfl) ?_
  refine lv_iload_n hx hb dX1_needsOf_5 rfl (lv_at hl 2 rfl) ?_
  refine tq_V (As := [.int x1]) (rest := [.int (gi (C 9) 3)]) (ws := (oh_W 35 a C)) ⟨hx, hb, hml, hown, htg⟩ (e_X0_bearsAxle l D E G a C hT x1 (rg_w hx1 (by decide))) (cwV 1 htg (oh_gV q_741 q_394 q_395 q_67 q_396) rfl rfl rfl pdVX0_bearsAxle ⟨Nat.le_of_ble_eq_true rfl, Nat.le_of_ble_eq_true rfl⟩) hK hP hG hS (va_recv hK hP (ci := 0) (q0 := 1) rfl (oh_wg (by decide) (sX_1 hT))) rfl hl.1 rfl (Nat.le_of_ble_eq_true rfl) dX1_needsOf_6 ⟨Nat.le_of_ble_eq_true rfl, Nat.le_of_ble_eq_true rfl⟩ (fun r_1 hq_2 => ?_)
  refine lv_icmp_le (tgt := 14) hx hb dX1_needsOf_9 (by decide) (fun (c_3 : (gi (C 9) 3) ≤ r_1) => ?_) (fun (c_3 : ¬ ((gi (C 9) 3) ≤ r_1)) => ?_)
  · refine lv_aload_n hx hb dX1_needsOf_14 rfl (lv_at hl 0 rfl) ?_
    refine lv_aload_n hx hb dX1_needsOf_15 rfl (lv_at hl 1 rfl) ?_
    refine lv_iload_n hx hb dX1_needsOf_16 rfl (lv_at hl 2 rfl) ?_
    refine lv_iconst (v := 2) hx hb dX1_needsOf_17 (by decide) ?_
    refine tq_V (As := [.int x1, .int 2]) (rest := [.ref (a 9)]) (ws := (oh_W 35 a C)) ⟨hx, hb, hml, hown, htg⟩ (c_X0_ofBridge l D E G a C hT x1 (2 : Int32) (rg_w hx1 (by decide)) (rg_w (rg_c (v := 2) (lo := 2) (hi := 2) (by decide)) (by decide))) (cwV 2 htg (oh_gV q_742 q_385 q_386 q_67 q_387) rfl rfl rfl pdVX0_ofBridge ⟨Nat.le_of_ble_eq_true rfl, Nat.le_of_ble_eq_true rfl⟩) hK hP hG hS (va_recv hK hP (ci := 0) (q0 := 1) rfl (oh_wg (by decide) (sX_1 hT))) rfl hl.1 rfl (Nat.le_of_ble_eq_true rfl) dX1_needsOf_18 ⟨Nat.le_of_ble_eq_true rfl, Nat.le_of_ble_eq_true rfl⟩ (fun r_4 hq_5 => ?_)
    subst hq_5
    refine tq_V (As := [.int (ga (C 12) ((x1 * 10) + 2).toNatClampNeg)]) (rest := []) (ws := (oh_W 35 a C)) ⟨hx, hb, hml, hown, htg⟩ (e_X1_strainOn l D E G a C hT (ga (C 12) ((x1 * 10) + 2).toNatClampNeg)) (cwV 1 htg (oh_gV q_743 q_724 q_725 q_69 q_726) rfl rfl rfl pdVX1_strainOn ⟨Nat.le_of_ble_eq_true rfl, Nat.le_of_ble_eq_true rfl⟩) hK hP hG hS (va_recv hK hP (ci := 1) (q0 := 9) rfl (oh_wg (by decide) (sX_9 hT))) rfl hl.1 rfl (Nat.le_of_ble_eq_true rfl) dX1_needsOf_21 ⟨Nat.le_of_ble_eq_true rfl, Nat.le_of_ble_eq_true rfl⟩ (fun r_6 hq_7 => ?_)
    refine lv_istore_n (lv' := [(3, .int r_6), (0, .ref (a 9)), (1, .ref (a 1)), (2, .int x1)]) hx hb dX1_needsOf_24 rfl hl (by decide) rfl (fun ls hl => ?_)
    refine lv_aload_n hx hb dX1_needsOf_25 rfl (lv_at hl 2 rfl) ?_
    refine lv_iload_n hx hb dX1_needsOf_26 rfl (lv_at hl 3 rfl) ?_
    refine tq_V (As := [.int x1]) (rest := []) (ws := (oh_W 35 a C)) ⟨hx, hb, hml, hown, htg⟩ (e_X0_isPropped l D E G a C hT x1 (rg_w hx1 (by decide))) (cwV 1 htg (oh_gV q_744 q_402 q_403 q_67 q_404) rfl rfl rfl pdVX0_isPropped ⟨Nat.le_of_ble_eq_true rfl, Nat.le_of_ble_eq_true rfl⟩) hK hP hG hS (va_recv hK hP (ci := 0) (q0 := 1) rfl (oh_wg (by decide) (sX_1 hT))) rfl hl.1 rfl (Nat.le_of_ble_eq_true rfl) dX1_needsOf_27 ⟨Nat.le_of_ble_eq_true rfl, Nat.le_of_ble_eq_true rfl⟩ (fun r_8 hq_9 => ?_)
    refine lv_istore (lv' := [(4, .int r_8), (3, .int r_6), (0, .ref (a 9)), (1, .ref (a 1)), (2, .int x1)]) hx hb dX1_needsOf_30 hl (by decide) rfl (fun ls hl => ?_)
    refine lv_iload_n hx hb dX1_needsOf_32 rfl (lv_at hl 1 rfl) ?_
    refine lv_aload_n hx hb dX1_needsOf_33 rfl (lv_at hl 3 rfl) ?_
    refine lv_iload_n hx hb dX1_needsOf_34 rfl (lv_at hl 4 rfl) ?_
    refine lv_iload hx hb dX1_needsOf_35 (lv_at hl 0 rfl) ?_
    refine tq_V (As := [.int x1, .int r_8]) (rest := [.int r_6]) (ws := (oh_W 35 a C)) ⟨hx, hb, hml, hown, htg⟩ (e_X0_bearsAll l D E G a C hT x1 r_8 (rg_w hx1 (by decide)) (rg_w (oh_rgb hq_9.1) (by decide))) (cwV 2 htg (oh_gV q_745 q_406 q_407 q_67 q_408) rfl rfl rfl pdVX0_bearsAll ⟨Nat.le_of_ble_eq_true rfl, Nat.le_of_ble_eq_true rfl⟩) hK hP hG hS (va_recv hK hP (ci := 0) (q0 := 1) rfl (oh_wg (by decide) (sX_1 hT))) rfl hl.1 rfl (Nat.le_of_ble_eq_true rfl) dX1_needsOf_37 ⟨Nat.le_of_ble_eq_true rfl, Nat.le_of_ble_eq_true rfl⟩ (fun r_10 hq_11 => ?_)
    refine lv_icmp_gt (tgt := 45) hx hb dX1_needsOf_40 (by decide) (fun (c_12 : r_10 < r_6) => ?_) (fun (c_12 : ¬ (r_10 < r_6)) => ?_)
    · refine lv_iload hx hb dX1_needsOf_45 (lv_at hl 0 rfl) ?_
      refine lv_if_ne (tgt := 60) hx hb dX1_needsOf_47 (by decide) (fun (c_13 : ¬ (r_8 = 0)) => ?_) (fun (c_13 : r_8 = 0) => ?_)
      · refine lv_iconst (v := 2) hx hb dX1_needsOf_60 (by decide) ?_
        rw [hQ]
        exact W.iret (v := 2) hx hb hr (fun t ht hW => ⟨2, rfl, ((Eq.trans (pif_neg (show ¬ (bAxF (ga (C 12) ((x1 * 10) + 1).toNatClampNeg) (ga (C 12) ((x1 * 10) + 3).toNatClampNeg) (ga (C 12) ((x1 * 10) + 8).toNatClampNeg) (ga (C 12) ((x1 * 10) + 9).toNatClampNeg) (ga (C 15) ((2 : Int32)).toNatClampNeg) < gi (C 9) 3) by rw [← hq_2]; exact (Int32.not_lt.mpr c_3))) (Eq.trans (pif_neg (show ¬ ((if cutBy (ga (C 12) ((x1 * 10) + 2).toNatClampNeg) (gi (C 9) 1) + 1 < gi (C 9) 0 then cutBy (ga (C 12) ((x1 * 10) + 2).toNatClampNeg) (gi (C 9) 1) + 1 else gi (C 9) 0) * gi (C 9) 3 ≤ bAlF (ga (C 12) ((x1 * 10) + 7).toNatClampNeg = 1) (ga (C 12) ((x1 * 10) + 1).toNatClampNeg) (ga (C 12) ((x1 * 10) + 4).toNatClampNeg) (ga (C 12) ((x1 * 10) + 5).toNatClampNeg) (ga (C 12) ((x1 * 10) + 8).toNatClampNeg) (ga (C 12) ((x1 * 10) + 9).toNatClampNeg) (ga (C 15) ((2 : Int32)).toNatClampNeg)) by rw [← hq_7, ← bAlF_c hq_9.2, ← hq_11]; exact (Int32.not_le.mpr c_12))) (pif_pos (Or.inl (hq_9.2.mp (oh_b1 (rg_w (lo := 0) (hi := 1) (rn_nel (l' := 1) c_13 (oh_rgb hq_9.1) (rg_c (v := 0) (lo := 0) (hi := 0) (by decide)) (by decide)) (by decide)) c_13))))))).symm, ht⟩) (fun q h => by cases h) dX1_needsOf_61
      · refine lv_aload_n hx hb dX1_needsOf_50 rfl (lv_at hl 3 rfl) ?_
        refine lv_iload_n hx hb dX1_needsOf_51 rfl (lv_at hl 4 rfl) ?_
        refine lv_iconst (v := 1) hx hb dX1_needsOf_52 (by decide) ?_
        refine tq_V (As := [.int x1, .int 1]) (rest := []) (ws := (oh_W 35 a C)) ⟨hx, hb, hml, hown, htg⟩ (c_X0_ofBridge l D E G a C hT x1 (1 : Int32) (rg_w hx1 (by decide)) (rg_w (rg_c (v := 1) (lo := 1) (hi := 1) (by decide)) (by decide))) (cwV 2 htg (oh_gV q_742 q_385 q_386 q_67 q_387) rfl rfl rfl pdVX0_ofBridge ⟨Nat.le_of_ble_eq_true rfl, Nat.le_of_ble_eq_true rfl⟩) hK hP hG hS (va_recv hK hP (ci := 0) (q0 := 1) rfl (oh_wg (by decide) (sX_1 hT))) rfl hl.1 rfl (Nat.le_of_ble_eq_true rfl) dX1_needsOf_53 ⟨Nat.le_of_ble_eq_true rfl, Nat.le_of_ble_eq_true rfl⟩ (fun r_14 hq_15 => ?_)
        subst hq_15
        refine lv_iconst (v := 3) hx hb dX1_needsOf_56 (by decide) ?_
        refine lv_icmp_ne (tgt := 62) hx hb dX1_needsOf_57 (by decide) (fun (c_16 : ¬ ((ga (C 12) ((x1 * 10) + 1).toNatClampNeg) = 3)) => ?_) (fun (c_16 : (ga (C 12) ((x1 * 10) + 1).toNatClampNeg) = 3) => ?_)
        · refine lv_iload_n hx hb dX1_needsOf_62 rfl (lv_at hl 1 rfl) ?_
          refine lv_aload_n hx hb dX1_needsOf_63 rfl (lv_at hl 3 rfl) ?_
          refine lv_iload_n hx hb dX1_needsOf_64 rfl (lv_at hl 4 rfl) ?_
          refine lv_iconst (v := 1) hx hb dX1_needsOf_65 (by decide) ?_
          refine tq_V (As := [.int x1, .int 1]) (rest := [.int r_6]) (ws := (oh_W 35 a C)) ⟨hx, hb, hml, hown, htg⟩ (e_X0_bearsAll l D E G a C hT x1 (1 : Int32) (rg_w hx1 (by decide)) (rg_w (rg_c (v := 1) (lo := 1) (hi := 1) (by decide)) (by decide))) (cwV 2 htg (oh_gV q_745 q_406 q_407 q_67 q_408) rfl rfl rfl pdVX0_bearsAll ⟨Nat.le_of_ble_eq_true rfl, Nat.le_of_ble_eq_true rfl⟩) hK hP hG hS (va_recv hK hP (ci := 0) (q0 := 1) rfl (oh_wg (by decide) (sX_1 hT))) rfl hl.1 rfl (Nat.le_of_ble_eq_true rfl) dX1_needsOf_66 ⟨Nat.le_of_ble_eq_true rfl, Nat.le_of_ble_eq_true rfl⟩ (fun r_17 hq_18 => ?_)
          refine lv_icmp_gt (tgt := 76) hx hb dX1_needsOf_69 (by decide) (fun (c_19 : r_17 < r_6) => ?_) (fun (c_19 : ¬ (r_17 < r_6)) => ?_)
          · refine lv_iconst (v := 2) hx hb dX1_needsOf_76 (by decide) ?_
            rw [hQ]
            exact W.iret (v := 2) hx hb hr (fun t ht hW => ⟨2, rfl, ((Eq.trans (pif_neg (show ¬ (bAxF (ga (C 12) ((x1 * 10) + 1).toNatClampNeg) (ga (C 12) ((x1 * 10) + 3).toNatClampNeg) (ga (C 12) ((x1 * 10) + 8).toNatClampNeg) (ga (C 12) ((x1 * 10) + 9).toNatClampNeg) (ga (C 15) ((2 : Int32)).toNatClampNeg) < gi (C 9) 3) by rw [← hq_2]; exact (Int32.not_lt.mpr c_3))) (Eq.trans (pif_neg (show ¬ ((if cutBy (ga (C 12) ((x1 * 10) + 2).toNatClampNeg) (gi (C 9) 1) + 1 < gi (C 9) 0 then cutBy (ga (C 12) ((x1 * 10) + 2).toNatClampNeg) (gi (C 9) 1) + 1 else gi (C 9) 0) * gi (C 9) 3 ≤ bAlF (ga (C 12) ((x1 * 10) + 7).toNatClampNeg = 1) (ga (C 12) ((x1 * 10) + 1).toNatClampNeg) (ga (C 12) ((x1 * 10) + 4).toNatClampNeg) (ga (C 12) ((x1 * 10) + 5).toNatClampNeg) (ga (C 12) ((x1 * 10) + 8).toNatClampNeg) (ga (C 12) ((x1 * 10) + 9).toNatClampNeg) (ga (C 15) ((2 : Int32)).toNatClampNeg)) by rw [← hq_7, ← bAlF_c hq_9.2, ← hq_11]; exact (Int32.not_le.mpr c_12))) (Eq.trans (pif_neg (fun h8 => h8.elim (fun h8 => absurd (Eq.trans (Eq.symm c_13) (hq_9.2.mpr h8)) (by decide)) c_16)) (pif_neg (show ¬ ((if cutBy (ga (C 12) ((x1 * 10) + 2).toNatClampNeg) (gi (C 9) 1) + 1 < gi (C 9) 0 then cutBy (ga (C 12) ((x1 * 10) + 2).toNatClampNeg) (gi (C 9) 1) + 1 else gi (C 9) 0) * gi (C 9) 3 ≤ bAlF (True) (ga (C 12) ((x1 * 10) + 1).toNatClampNeg) (ga (C 12) ((x1 * 10) + 4).toNatClampNeg) (ga (C 12) ((x1 * 10) + 5).toNatClampNeg) (ga (C 12) ((x1 * 10) + 8).toNatClampNeg) (ga (C 12) ((x1 * 10) + 9).toNatClampNeg) (ga (C 15) ((2 : Int32)).toNatClampNeg)) by rw [← hq_7, ← bAlF_c ⟨fun _ => trivial, fun _ => rfl⟩, ← hq_18]; exact (Int32.not_le.mpr c_19))))))).symm, ht⟩) (fun q h => by cases h) dX1_needsOf_77
          · refine lv_iconst (v := 1) hx hb dX1_needsOf_72 (by decide) ?_
            refine lv_goto (tgt := 77) hx hb dX1_needsOf_73 (by decide) ?_
            rw [hQ]
            exact W.iret (v := 1) hx hb hr (fun t ht hW => ⟨1, rfl, ((Eq.trans (pif_neg (show ¬ (bAxF (ga (C 12) ((x1 * 10) + 1).toNatClampNeg) (ga (C 12) ((x1 * 10) + 3).toNatClampNeg) (ga (C 12) ((x1 * 10) + 8).toNatClampNeg) (ga (C 12) ((x1 * 10) + 9).toNatClampNeg) (ga (C 15) ((2 : Int32)).toNatClampNeg) < gi (C 9) 3) by rw [← hq_2]; exact (Int32.not_lt.mpr c_3))) (Eq.trans (pif_neg (show ¬ ((if cutBy (ga (C 12) ((x1 * 10) + 2).toNatClampNeg) (gi (C 9) 1) + 1 < gi (C 9) 0 then cutBy (ga (C 12) ((x1 * 10) + 2).toNatClampNeg) (gi (C 9) 1) + 1 else gi (C 9) 0) * gi (C 9) 3 ≤ bAlF (ga (C 12) ((x1 * 10) + 7).toNatClampNeg = 1) (ga (C 12) ((x1 * 10) + 1).toNatClampNeg) (ga (C 12) ((x1 * 10) + 4).toNatClampNeg) (ga (C 12) ((x1 * 10) + 5).toNatClampNeg) (ga (C 12) ((x1 * 10) + 8).toNatClampNeg) (ga (C 12) ((x1 * 10) + 9).toNatClampNeg) (ga (C 15) ((2 : Int32)).toNatClampNeg)) by rw [← hq_7, ← bAlF_c hq_9.2, ← hq_11]; exact (Int32.not_le.mpr c_12))) (Eq.trans (pif_neg (fun h8 => h8.elim (fun h8 => absurd (Eq.trans (Eq.symm c_13) (hq_9.2.mpr h8)) (by decide)) c_16)) (pif_pos (show ((if cutBy (ga (C 12) ((x1 * 10) + 2).toNatClampNeg) (gi (C 9) 1) + 1 < gi (C 9) 0 then cutBy (ga (C 12) ((x1 * 10) + 2).toNatClampNeg) (gi (C 9) 1) + 1 else gi (C 9) 0) * gi (C 9) 3 ≤ bAlF (True) (ga (C 12) ((x1 * 10) + 1).toNatClampNeg) (ga (C 12) ((x1 * 10) + 4).toNatClampNeg) (ga (C 12) ((x1 * 10) + 5).toNatClampNeg) (ga (C 12) ((x1 * 10) + 8).toNatClampNeg) (ga (C 12) ((x1 * 10) + 9).toNatClampNeg) (ga (C 15) ((2 : Int32)).toNatClampNeg)) by rw [← hq_7, ← bAlF_c ⟨fun _ => trivial, fun _ => rfl⟩, ← hq_18]; exact (Int32.not_lt.mp c_19))))))).symm, ht⟩) (fun q h => by cases h) dX1_needsOf_77
        · refine lv_iconst (v := 2) hx hb dX1_needsOf_60 (by decide) ?_
          rw [hQ]
          exact W.iret (v := 2) hx hb hr (fun t ht hW => ⟨2, rfl, ((Eq.trans (pif_neg (show ¬ (bAxF (ga (C 12) ((x1 * 10) + 1).toNatClampNeg) (ga (C 12) ((x1 * 10) + 3).toNatClampNeg) (ga (C 12) ((x1 * 10) + 8).toNatClampNeg) (ga (C 12) ((x1 * 10) + 9).toNatClampNeg) (ga (C 15) ((2 : Int32)).toNatClampNeg) < gi (C 9) 3) by rw [← hq_2]; exact (Int32.not_lt.mpr c_3))) (Eq.trans (pif_neg (show ¬ ((if cutBy (ga (C 12) ((x1 * 10) + 2).toNatClampNeg) (gi (C 9) 1) + 1 < gi (C 9) 0 then cutBy (ga (C 12) ((x1 * 10) + 2).toNatClampNeg) (gi (C 9) 1) + 1 else gi (C 9) 0) * gi (C 9) 3 ≤ bAlF (ga (C 12) ((x1 * 10) + 7).toNatClampNeg = 1) (ga (C 12) ((x1 * 10) + 1).toNatClampNeg) (ga (C 12) ((x1 * 10) + 4).toNatClampNeg) (ga (C 12) ((x1 * 10) + 5).toNatClampNeg) (ga (C 12) ((x1 * 10) + 8).toNatClampNeg) (ga (C 12) ((x1 * 10) + 9).toNatClampNeg) (ga (C 15) ((2 : Int32)).toNatClampNeg)) by rw [← hq_7, ← bAlF_c hq_9.2, ← hq_11]; exact (Int32.not_le.mpr c_12))) (pif_pos (Or.inr c_16))))).symm, ht⟩) (fun q h => by cases h) dX1_needsOf_61
    · refine lv_iconst (v := 0) hx hb dX1_needsOf_43 (by decide) ?_
      rw [hQ]
      exact W.iret (v := 0) hx hb hr (fun t ht hW => ⟨0, rfl, ((Eq.trans (pif_neg (show ¬ (bAxF (ga (C 12) ((x1 * 10) + 1).toNatClampNeg) (ga (C 12) ((x1 * 10) + 3).toNatClampNeg) (ga (C 12) ((x1 * 10) + 8).toNatClampNeg) (ga (C 12) ((x1 * 10) + 9).toNatClampNeg) (ga (C 15) ((2 : Int32)).toNatClampNeg) < gi (C 9) 3) by rw [← hq_2]; exact (Int32.not_lt.mpr c_3))) (pif_pos (show ((if cutBy (ga (C 12) ((x1 * 10) + 2).toNatClampNeg) (gi (C 9) 1) + 1 < gi (C 9) 0 then cutBy (ga (C 12) ((x1 * 10) + 2).toNatClampNeg) (gi (C 9) 1) + 1 else gi (C 9) 0) * gi (C 9) 3 ≤ bAlF (ga (C 12) ((x1 * 10) + 7).toNatClampNeg = 1) (ga (C 12) ((x1 * 10) + 1).toNatClampNeg) (ga (C 12) ((x1 * 10) + 4).toNatClampNeg) (ga (C 12) ((x1 * 10) + 5).toNatClampNeg) (ga (C 12) ((x1 * 10) + 8).toNatClampNeg) (ga (C 12) ((x1 * 10) + 9).toNatClampNeg) (ga (C 15) ((2 : Int32)).toNatClampNeg)) by rw [← hq_7, ← bAlF_c hq_9.2, ← hq_11]; exact (Int32.not_lt.mp c_12))))).symm, ht⟩) (fun q h => by cases h) dX1_needsOf_44
  · refine lv_iconst (v := 2) hx hb dX1_needsOf_12 (by decide) ?_
    rw [hQ]
    exact W.iret (v := 2) hx hb hr (fun t ht hW => ⟨2, rfl, ((pif_pos (show (bAxF (ga (C 12) ((x1 * 10) + 1).toNatClampNeg) (ga (C 12) ((x1 * 10) + 3).toNatClampNeg) (ga (C 12) ((x1 * 10) + 8).toNatClampNeg) (ga (C 12) ((x1 * 10) + 9).toNatClampNeg) (ga (C 15) ((2 : Int32)).toNatClampNeg) < gi (C 9) 3) by rw [← hq_2]; exact (Int32.not_le.mp c_3)))).symm, ht⟩) (fun q h => by cases h) dX1_needsOf_13
