theorem rg_no {x : Int32} {l u : Int} (h : rg x l u) (hd : decide (u < l) = true) : False := by
  have h2 := of_decide_eq_true hd
  obtain ⟨a1, a2⟩ := h
  omega
theorem rg_nev {x k : Int32} {l u : Int} (h : rg x l u) (hd : decide (k.toInt < l ∨ u < k.toInt) = true) : ¬ x = k := by
  have h2 := of_decide_eq_true hd
  intro e
  subst e
  obtain ⟨a1, a2⟩ := h
  omega
/-- a waggon's numbers are no divisors 0 -/
def oh_pos (C : Nat → va_E) (w : Int32) : Prop := 1 ≤ (ga (C (64 + w.toNatClampNeg)) ((0 : Int32)).toNatClampNeg).toInt ∧ 1 ≤ (ga (C (64 + w.toNatClampNeg)) ((1 : Int32)).toNatClampNeg).toInt
theorem oh_pos0 {C : Nat → va_E} {w : Int32} (h : oh_pos C w) : rg (ga (C (64 + w.toNatClampNeg)) ((0 : Int32)).toNatClampNeg) 1 2147483647 := ⟨h.1, (rg_any _).2⟩
theorem oh_pos1 {C : Nat → va_E} {w : Int32} (h : oh_pos C w) : rg (ga (C (64 + w.toNatClampNeg)) ((1 : Int32)).toNatClampNeg) 1 2147483647 := ⟨h.2, (rg_any _).2⟩
theorem oh_posU {C C2 : Nat → va_E} {w : Int32} (hw : rg w 0 4) (e : ∀ i, i < 5 → C2 (64 + i) = C (64 + i)) (h : oh_pos C w) : oh_pos C2 w := by
  have hi : w.toNatClampNeg < 5 := by
    have := oh_nat hw (by decide)
    have := hw.2
    omega
  unfold oh_pos
  rw [e _ hi]
  exact h
def RelW (C : Nat → va_E) : Prop := (∀ w : Nat, w < 5 → (w : Int) < (gi (C 0) 13).toInt → 1 ≤ (ga (C (64 + w)) 0).toInt ∧ 1 ≤ (ga (C (64 + w)) 1).toInt) ∧ (¬ ga (C 14) 0 = 0 → (ga (C 14) 1).toInt < (gi (C 0) 13).toInt)
def RelS (C : Nat → va_E) : Prop := ∀ s : Nat, s < 8 → ga (C 1) s = 2 → 0 ≤ (ga (C 6) s).toInt
def RelM (C : Nat → va_E) : Prop := RelW C ∧ RelS C
def okW (mc : List (Nat × Nat)) (mf : List Nat) : Bool := !(inR mc 14) && mc.all (fun p => Nat.ble 69 p.1 || Nat.ble p.2 64) && !(mf.contains 13)
def okS (mc : List (Nat × Nat)) : Bool := !(inR mc 1) && !(inR mc 6)
theorem RelW.fr {mc : List (Nat × Nat)} {mf : List Nat} {C u : Nat → va_E} (h : RelW C) (hf : fr mc mf C u) (hd : okW mc mf = true) : RelW u := by
  unfold okW at hd
  rw [Bool.and_eq_true, Bool.and_eq_true] at hd
  obtain ⟨⟨h1, h2⟩, h3⟩ := hd
  have e14 : u 14 = C 14 := hf.1 14 (by simpa using h1) (by decide)
  have e0 : gi (u 0) 13 = gi (C 0) 13 := congrArg vi (hf.2 13 (by simpa using h3))
  have er : ∀ i, i < 5 → u (64 + i) = C (64 + i) := fun i hi => hf.1 _ (inR_out hi h2) (by omega)
  refine ⟨fun w hw hl => ?_, fun h9 => ?_⟩
  · rw [er w hw]
    rw [e0] at hl
    exact h.1 w hw hl
  · rw [e14] at h9 ⊢
    rw [e0]
    exact h.2 h9
theorem RelS.fr {mc : List (Nat × Nat)} {mf : List Nat} {C u : Nat → va_E} (h : RelS C) (hf : fr mc mf C u) (hd : okS mc = true) : RelS u := by
  unfold okS at hd
  rw [Bool.and_eq_true] at hd
  have e1 : u 1 = C 1 := hf.1 1 (by simpa using hd.1) (by decide)
  have e6 : u 6 = C 6 := hf.1 6 (by simpa using hd.2) (by decide)
  intro s hs
  rw [e1, e6]
  exact h s hs
theorem oh_nI13 {x : Int32} (h : rg x 0 5) : (x - 1).toInt = x.toInt - 1 := by
  rw [Int32.toInt_sub]
  exact oh_bmod (by show _ ≤ x.toInt - 1; have := h.1; omega) (by show x.toInt - 1 ≤ _; have := h.2; omega)
theorem oh_posof {C : Nat → va_E} {w : Int32} (hR : RelW C) (h : rg w 0 4) (hw : rg (gi (C 0) 13) 0 5) (c : Int32.toInt64 w ≤ Int32.toInt64 (gi (C 0) 13 - 1)) : oh_pos C w := by
  have c1 := Int64.le_iff_toInt_le.mp c
  rw [oh_l32, oh_l32, oh_nI13 hw] at c1
  have e := oh_nat h (by decide)
  have := h.2
  exact hR.1 w.toNatClampNeg (by omega) (by omega)
theorem oh_posl {C : Nat → va_E} {w : Int32} (hw : rg (gi (C 0) 13) 0 5) (c : Int32.toInt64 w ≤ Int32.toInt64 (gi (C 0) 13 - 1)) : w.toInt < (gi (C 0) 13).toInt := by
  have c1 := Int64.le_iff_toInt_le.mp c
  rw [oh_l32, oh_l32, oh_nI13 hw] at c1
  omega
theorem oh_posu {a : Nat → Nat} {E : Nat → ClassId} {C : Nat → va_E} (hR : RelW C) (hT : TyM a E C) (c : ¬ ga (C 14) ((0 : Int32)).toNatClampNeg = 0) : oh_pos C (ga (C 14) ((1 : Int32)).toNatClampNeg) := by
  have h1 := hR.2 c
  have h2 : rg (ga (C 14) ((1 : Int32)).toNatClampNeg) 0 4 := tA_rdc (lo := 0) (hi := 4) (tM_14 hT) (rg_in (l := 1) (u := 1) (rg_c (by decide)) (by decide)) (k := 1) (by decide) (by decide)
  have e := oh_nat h2 (by decide)
  have := h2.2
  exact hR.1 _ (by omega) (by rw [e]; exact h1)
theorem relW_mk {mc : List (Nat × Nat)} {mf : List Nat} {C u : Nat → va_E} (h : RelW C) (hf : fr mc mf C u) (hd : (mc.all (fun p => Nat.ble 69 p.1 || Nat.ble p.2 64) && !(mf.contains 13)) = true) (hu : ¬ ga (u 14) 0 = 0 → (ga (u 14) 1).toInt < (gi (C 0) 13).toInt) : RelW u := by
  rw [Bool.and_eq_true] at hd
  obtain ⟨h2, h3⟩ := hd
  have e0 : gi (u 0) 13 = gi (C 0) 13 := congrArg vi (hf.2 13 (by simpa using h3))
  have er : ∀ i, i < 5 → u (64 + i) = C (64 + i) := fun i hi => hf.1 _ (inR_out hi h2) (by omega)
  refine ⟨fun w hw hl => ?_, fun h9 => ?_⟩
  · rw [er w hw]
    rw [e0] at hl
    exact h.1 w hw hl
  · rw [e0]
    exact hu h9
theorem oh_posw {C : Nat → va_E} {w : Int32} (hR : RelW C) (h : rg w 0 4) (c : w < gi (C 0) 13) : oh_pos C w := by
  have c1 := Int32.lt_iff_toInt_lt.mp c
  have e := oh_nat h (by decide)
  have := h.2
  exact hR.1 w.toNatClampNeg (by omega) (by omega)
theorem oh_shown {a : Nat → Nat} {E : Nat → ClassId} {C : Nat → va_E} (hT : TyM a E C) (hR : RelM C) {s : Int32} (hs : rg s 0 7) (hin : vp_in s 8) (c : ga (C 1) s.toNatClampNeg = 2) : rg (ga (C 6) s.toNatClampNeg) 0 15 := by
  have h1 := hR.2 s.toNatClampNeg (vp_lt hin) c
  have h2 := tA_rdc (lo := -1) (hi := 15) (tM_6 hT) hin (Nat.mod_one _) (by decide)
  exact ⟨h1, h2.2⟩

set_option maxHeartbeats 4000000 in
set_option maxRecDepth 100000 in
theorem c_X7_in (l : Launch) (D : va_G) (E : Nat → ClassId) (G : Nat → Nat) (x1 : Int64) (x2 : Int64) (x3 : Int64) : Met l yX7_in (oh_w yX7_in cX7_in 6 (some .boolean)) ({ frames := 0, cells := 0, slots := 0, locals := 0 }) (oh_Pp D E G [.long x1, .long x2, .long x3] []) (vp_Si (fun r => (r = 0 ∨ r = 1) ∧ (r ≠ 0 → x2 ≤ x1 ∧ x1 ≤ x3) ∧ (r = 0 → (¬ (x2 ≤ x1 ∧ x1 ≤ x3))))) 0 0 (fun _ => False) := by
  refine Met.ofW (cc := cX7_in) (maxL := 6) (ret := (some .boolean)) (by decide) rfl ?_
  intro p e s m args below meth c s₁ B hml hv
  obtain ⟨rfl, hP, hK, hG⟩ := hv
  have hx := B.exec
  have hb := B.bytes
  have hr := B.returns
  have hts := atoms_spec (ws := (oh_w yX7_in cX7_in 6 (some .boolean))) B.pre
  have htg : ∀ w ∈ oh_t, w.before _ s = true := fun w h => hts w (List.mem_cons_of_mem _ h)
  have hown : s.vm.findClass RX7 = some m.cls := findClass_of_methodNamed B.named
  have hlocks := B.notSynchronized
  have hS : va_S (fun _ => False) s.heap s.heap [] := va_S.rf
  have hl := lv_entry ([.long x1, .long x2, .long x3]) (n := 6) (Nat.le_of_ble_eq_true rfl)
  rw [lg_entry_eq]
  generalize (lg_sl ([.long x1, .long x2, .long x3]) ++ List.replicate (6 - (lg_sl ([.long x1, .long x2, .long x3])).length) Slot.unset).toArray = ls at hl ⊢
  have hl : lv_has ls 6 [(0, .long x1), (2, .long x2), (4, .long x3)] := hl
  refine oh_genQ (fun Q hQ => ?_)
  refine lv_lload_n hx hb dX7_in_0 rfl (lv_at hl 0 rfl) ?_
  refine lv_lload_n hx hb dX7_in_1 rfl (lv_at hl 1 rfl) ?_
  refine W.lcmp hx hb dX7_in_2 ?_
  refine lv_if_lt (tgt := 17) hx hb dX7_in_3 (by decide) (fun (c_1 : (lg_cmp x1 x2) < 0) => ?_) (fun (c_1 : ¬ ((lg_cmp x1 x2) < 0)) => ?_)
  · refine lv_iconst (v := 0) hx hb dX7_in_17 (by decide) ?_
    rw [hQ]
    exact W.zret (v := 0) (ty := .boolean) hx hb hr (by decide) (fun t ht hW => ⟨0, rfl, ⟨(Or.inl rfl), (fun h9 => absurd rfl h9), (fun _ => (fun h8 => absurd h8.1 (Int64.not_le.mpr (oh_lc_lt c_1))))⟩, ht⟩) (fun q h => by cases h) dX7_in_18
  · refine lv_lload_n hx hb dX7_in_6 rfl (lv_at hl 0 rfl) ?_
    refine lv_lload hx hb dX7_in_7 (lv_at hl 2 rfl) ?_
    refine W.lcmp hx hb dX7_in_9 ?_
    refine lv_if_gt (tgt := 17) hx hb dX7_in_10 (by decide) (fun (c_2 : (0 : Int32) < (lg_cmp x1 x3)) => ?_) (fun (c_2 : ¬ ((0 : Int32) < (lg_cmp x1 x3))) => ?_)
    · refine lv_iconst (v := 0) hx hb dX7_in_17 (by decide) ?_
      rw [hQ]
      exact W.zret (v := 0) (ty := .boolean) hx hb hr (by decide) (fun t ht hW => ⟨0, rfl, ⟨(Or.inl rfl), (fun h9 => absurd rfl h9), (fun _ => (fun h8 => absurd h8.2 (Int64.not_le.mpr (oh_lc_gt c_2))))⟩, ht⟩) (fun q h => by cases h) dX7_in_18
    · refine lv_iconst (v := 1) hx hb dX7_in_13 (by decide) ?_
      refine lv_goto (tgt := 18) hx hb dX7_in_14 (by decide) ?_
      rw [hQ]
      exact W.zret (v := 1) (ty := .boolean) hx hb hr (by decide) (fun t ht hW => ⟨1, rfl, ⟨(Or.inr rfl), (fun _ => ⟨(oh_lc_nlt c_1), (oh_lc_ngt c_2)⟩), (fun h9 => absurd h9 (by decide))⟩, ht⟩) (fun q h => by cases h) dX7_in_18

set_option maxHeartbeats 4000000 in
set_option maxRecDepth 100000 in
theorem c_X7_isPlace (l : Launch) (D : va_G) (E : Nat → ClassId) (G : Nat → Nat) (x1 : Int32) : Met l yX7_isPlace (oh_w yX7_isPlace cX7_isPlace 1 (some .boolean)) ({ frames := 1, cells := 0, slots := 0, locals := 25 }) (oh_Pp D E G [.int x1] []) (vp_Si (fun r => (r = 0 ∨ r = 1) ∧ (r ≠ 0 → rg x1 0 15))) 0 0 (fun _ => False) := by
  refine Met.ofW (cc := cX7_isPlace) (maxL := 1) (ret := (some .boolean)) (by decide) rfl ?_
  intro p e s m args below meth c s₁ B hml hv
  obtain ⟨rfl, hP, hK, hG⟩ := hv
  have hx := B.exec
  have hb := B.bytes
  have hr := B.returns
  have hts := atoms_spec (ws := (oh_w yX7_isPlace cX7_isPlace 1 (some .boolean))) B.pre
  have htg : ∀ w ∈ oh_t, w.before _ s = true := fun w h => hts w (List.mem_cons_of_mem _ h)
  have hown : s.vm.findClass RX7 = some m.cls := findClass_of_methodNamed B.named
  have hlocks := B.notSynchronized
  have hS : va_S (fun _ => False) s.heap s.heap [] := va_S.rf
  have hl := lv_entry ([.int x1]) (n := 1) (Nat.le_of_ble_eq_true rfl)
  rw [lg_entry_eq]
  generalize (lg_sl ([.int x1]) ++ List.replicate (1 - (lg_sl ([.int x1])).length) Slot.unset).toArray = ls at hl ⊢
  have hl : lv_has ls 1 [(0, .int x1)] := hl
  refine oh_genQ (fun Q hQ => ?_)
  refine lv_iload_n hx hb dX7_isPlace_0 rfl (lv_at hl 0 rfl) ?_
  refine lv_i2l (v := Int32.toInt64 x1) hx hb dX7_isPlace_1 (by rfl) ?_
  refine lv_lconst (v := 0) hx hb dX7_isPlace_2 (by decide) ?_
  refine lv_ldc2 (v := 15) hx hb hown (htg _ q_1133) dX7_isPlace_3 ?_
  refine tq_S (As := [.long (Int32.toInt64 x1), .long 0, .long 15]) (rest := []) (ws := []) ⟨hx, hb, hml, hown, htg⟩ (c_X7_in l D E G (Int32.toInt64 x1) (0 : Int64) (15 : Int64)) (va_cwS 3 htg (oh_gS q_1066 q_1067 q_73 q_1068) rfl rfl rfl pdX7_in ⟨Nat.le_of_ble_eq_true rfl, Nat.le_of_ble_eq_true rfl⟩) hK va_nil hG hS rfl hl.1 rfl (Nat.le_of_ble_eq_true rfl) dX7_isPlace_6 ⟨Nat.le_of_ble_eq_true rfl, Nat.le_of_ble_eq_true rfl⟩ (fun r_1 hq_2 => ?_)
  rw [hQ]
  exact W.zret (v := r_1) (ty := .boolean) hx hb hr (oh_nb hq_2.1) (fun t ht hW => ⟨r_1, rfl, ⟨hq_2.1, (fun h9 => (rg_w (rg_il (rgL_i (rg_il (rnL_leu (hq_2.2.1 h9).2 (rnL_lel (hq_2.2.1 h9).1 (rgL_c (v := 0) (lo := 0) (hi := 0) (by decide)) (rgL_i (rg_any _))) (rgL_c (v := 15) (lo := 15) (hi := 15) (by decide)))))) (by decide)))⟩, ht⟩) (fun q h => by cases h) dX7_isPlace_9

set_option maxHeartbeats 4000000 in
set_option maxRecDepth 100000 in
theorem c_X7_fit (l : Launch) (D : va_G) (E : Nat → ClassId) (G : Nat → Nat) (x1 : Int32) (x2 : Int64) : Met l yX7_fit (oh_w yX7_fit cX7_fit 3 (some .long)) ({ frames := 0, cells := 0, slots := 0, locals := 0 }) (oh_Pp D E G [.int x1, .long x2] []) (vp_Sl (fun r => True)) 0 0 (fun _ => False) := by
  refine Met.ofW (cc := cX7_fit) (maxL := 3) (ret := (some .long)) (by decide) rfl ?_
  intro p e s m args below meth c s₁ B hml hv
  obtain ⟨rfl, hP, hK, hG⟩ := hv
  have hx := B.exec
  have hb := B.bytes
  have hr := B.returns
  have hts := atoms_spec (ws := (oh_w yX7_fit cX7_fit 3 (some .long))) B.pre
  have htg : ∀ w ∈ oh_t, w.before _ s = true := fun w h => hts w (List.mem_cons_of_mem _ h)
  have hown : s.vm.findClass RX7 = some m.cls := findClass_of_methodNamed B.named
  have hlocks := B.notSynchronized
  have hS : va_S (fun _ => False) s.heap s.heap [] := va_S.rf
  have hl := lv_entry ([.int x1, .long x2]) (n := 3) (Nat.le_of_ble_eq_true rfl)
  rw [lg_entry_eq]
  generalize (lg_sl ([.int x1, .long x2]) ++ List.replicate (3 - (lg_sl ([.int x1, .long x2])).length) Slot.unset).toArray = ls at hl ⊢
  have hl : lv_has ls 3 [(0, .int x1), (1, .long x2)] := hl
  refine oh_genQ (fun Q hQ => ?_)
  refine lv_iload_n hx hb dX7_fit_0 rfl (lv_at hl 0 rfl) ?_
  by_cases c_1 : x1 = 0
  · refine lv_tableIn (off := 31) (tgt := 32) hx hb dX7_fit_1 (by rw [c_1]; decide) (by rw [c_1]; decide) (by rw [c_1]; decide) (by decide) ?_
    refine lv_lload_n hx hb dX7_fit_32 rfl (lv_at hl 1 rfl) ?_
    refine lv_l2i (v := Int64.toInt32 x2) hx hb dX7_fit_33 rfl ?_
    refine lv_i2b (v := (Int64.toInt32 x2).toInt8.toInt32) hx hb dX7_fit_34 rfl ?_
    refine lv_i2l (v := Int32.toInt64 ((Int64.toInt32 x2).toInt8.toInt32)) hx hb dX7_fit_35 (by rfl) ?_
    rw [hQ]
    exact W.lret (v := Int32.toInt64 ((Int64.toInt32 x2).toInt8.toInt32)) hx hb hr (fun t ht hW => ⟨Int32.toInt64 ((Int64.toInt32 x2).toInt8.toInt32), rfl, trivial, ht⟩) (fun q h => by cases h) dX7_fit_36
  · by_cases c_2 : x1 = 1
    · refine lv_tableIn (off := 36) (tgt := 37) hx hb dX7_fit_1 (by rw [c_2]; decide) (by rw [c_2]; decide) (by rw [c_2]; decide) (by decide) ?_
      refine lv_lload_n hx hb dX7_fit_37 rfl (lv_at hl 1 rfl) ?_
      refine lv_l2i (v := Int64.toInt32 x2) hx hb dX7_fit_38 rfl ?_
      refine lv_i2s (v := (Int64.toInt32 x2).toInt16.toInt32) hx hb dX7_fit_39 rfl ?_
      refine lv_i2l (v := Int32.toInt64 ((Int64.toInt32 x2).toInt16.toInt32)) hx hb dX7_fit_40 (by rfl) ?_
      rw [hQ]
      exact W.lret (v := Int32.toInt64 ((Int64.toInt32 x2).toInt16.toInt32)) hx hb hr (fun t ht hW => ⟨Int32.toInt64 ((Int64.toInt32 x2).toInt16.toInt32), rfl, trivial, ht⟩) (fun q h => by cases h) dX7_fit_41
    · by_cases c_3 : x1 = 2
      · refine lv_tableIn (off := 41) (tgt := 42) hx hb dX7_fit_1 (by rw [c_3]; decide) (by rw [c_3]; decide) (by rw [c_3]; decide) (by decide) ?_
        refine lv_lload_n hx hb dX7_fit_42 rfl (lv_at hl 1 rfl) ?_
        refine lv_l2i (v := Int64.toInt32 x2) hx hb dX7_fit_43 rfl ?_
        refine lv_i2l (v := Int32.toInt64 (Int64.toInt32 x2)) hx hb dX7_fit_44 (by rfl) ?_
        rw [hQ]
        exact W.lret (v := Int32.toInt64 (Int64.toInt32 x2)) hx hb hr (fun t ht hW => ⟨Int32.toInt64 (Int64.toInt32 x2), rfl, trivial, ht⟩) (fun q h => by cases h) dX7_fit_45
      · by_cases c_4 : x1 = 3
        · refine lv_tableIn (off := 45) (tgt := 46) hx hb dX7_fit_1 (by rw [c_4]; decide) (by rw [c_4]; decide) (by rw [c_4]; decide) (by decide) ?_
          refine lv_lload_n hx hb dX7_fit_46 rfl (lv_at hl 1 rfl) ?_
          rw [hQ]
          exact W.lret (v := x2) hx hb hr (fun t ht hW => ⟨x2, rfl, trivial, ht⟩) (fun q h => by cases h) dX7_fit_47
        · refine lv_tableOut (tgt := 48) hx hb dX7_fit_1 (by have h9 := And.intro (oh_ne c_1 (k := 0) (by decide)) (And.intro (oh_ne c_2 (k := 1) (by decide)) (And.intro (oh_ne c_3 (k := 2) (by decide)) (And.intro (oh_ne c_4 (k := 3) (by decide)) trivial))); omega) (by decide) ?_
          refine lv_lload_n hx hb dX7_fit_48 rfl (lv_at hl 1 rfl) ?_
          refine lv_lconst (v := 0) hx hb dX7_fit_49 (by decide) ?_
          refine W.lcmp hx hb dX7_fit_50 ?_
          refine lv_if_eq (tgt := 58) hx hb dX7_fit_51 (by decide) (fun (c_5 : (lg_cmp x2 0) = 0) => ?_) (fun (c_5 : ¬ ((lg_cmp x2 0) = 0)) => ?_)
          · refine lv_lconst (v := 0) hx hb dX7_fit_58 (by decide) ?_
            rw [hQ]
            exact W.lret (v := 0) hx hb hr (fun t ht hW => ⟨0, rfl, trivial, ht⟩) (fun q h => by cases h) dX7_fit_59
          · refine lv_lconst (v := 1) hx hb dX7_fit_54 (by decide) ?_
            refine lv_goto (tgt := 59) hx hb dX7_fit_55 (by decide) ?_
            rw [hQ]
            exact W.lret (v := 1) hx hb hr (fun t ht hW => ⟨1, rfl, trivial, ht⟩) (fun q h => by cases h) dX7_fit_59

set_option maxHeartbeats 4000000 in
set_option maxRecDepth 100000 in
theorem c_X7_isUnder (l : Launch) (D : va_G) (E : Nat → ClassId) (G : Nat → Nat) (x1 : Int32) (x2 : Int32) : Met l yX7_isUnder (oh_w yX7_isUnder cX7_isUnder 2 (some .boolean)) ({ frames := 0, cells := 0, slots := 0, locals := 0 }) (oh_Pp D E G [.int x1, .int x2] []) (vp_Si (fun r => (r = 0 ∨ r = 1))) 0 0 (fun _ => False) := by
  refine Met.ofW (cc := cX7_isUnder) (maxL := 2) (ret := (some .boolean)) (by decide) rfl ?_
  intro p e s m args below meth c s₁ B hml hv
  obtain ⟨rfl, hP, hK, hG⟩ := hv
  have hx := B.exec
  have hb := B.bytes
  have hr := B.returns
  have hts := atoms_spec (ws := (oh_w yX7_isUnder cX7_isUnder 2 (some .boolean))) B.pre
  have htg : ∀ w ∈ oh_t, w.before _ s = true := fun w h => hts w (List.mem_cons_of_mem _ h)
  have hown : s.vm.findClass RX7 = some m.cls := findClass_of_methodNamed B.named
  have hlocks := B.notSynchronized
  have hS : va_S (fun _ => False) s.heap s.heap [] := va_S.rf
  have hl := lv_entry ([.int x1, .int x2]) (n := 2) (Nat.le_of_ble_eq_true rfl)
  rw [lg_entry_eq]
  generalize (lg_sl ([.int x1, .int x2]) ++ List.replicate (2 - (lg_sl ([.int x1, .int x2])).length) Slot.unset).toArray = ls at hl ⊢
  have hl : lv_has ls 2 [(0, .int x1), (1, .int x2)] := hl
  refine oh_genQ (fun Q hQ => ?_)
  refine lv_iload_n hx hb dX7_isUnder_0 rfl (lv_at hl 1 rfl) ?_
  refine lv_if_eq (tgt := 29) hx hb dX7_isUnder_1 (by decide) (fun (c_1 : x2 = 0) => ?_) (fun (c_1 : ¬ (x2 = 0)) => ?_)
  · refine lv_iconst (v := 1) hx hb dX7_isUnder_29 (by decide) ?_
    refine lv_goto (tgt := 34) hx hb dX7_isUnder_30 (by decide) ?_
    rw [hQ]
    exact W.zret (v := 1) (ty := .boolean) hx hb hr (by decide) (fun t ht hW => ⟨1, rfl, (Or.inr rfl), ht⟩) (fun q h => by cases h) dX7_isUnder_34
  · refine lv_iload_n hx hb dX7_isUnder_4 rfl (lv_at hl 0 rfl) ?_
    refine lv_iload_n hx hb dX7_isUnder_5 rfl (lv_at hl 1 rfl) ?_
    refine lv_icmp_eq (tgt := 29) hx hb dX7_isUnder_6 (by decide) (fun (c_2 : x1 = x2) => ?_) (fun (c_2 : ¬ (x1 = x2)) => ?_)
    · refine lv_iconst (v := 1) hx hb dX7_isUnder_29 (by decide) ?_
      refine lv_goto (tgt := 34) hx hb dX7_isUnder_30 (by decide) ?_
      rw [hQ]
      exact W.zret (v := 1) (ty := .boolean) hx hb hr (by decide) (fun t ht hW => ⟨1, rfl, (Or.inr rfl), ht⟩) (fun q h => by cases h) dX7_isUnder_34
    · refine lv_iload_n hx hb dX7_isUnder_9 rfl (lv_at hl 1 rfl) ?_
      refine lv_iconst (v := 1) hx hb dX7_isUnder_10 (by decide) ?_
      refine lv_icmp_ne (tgt := 19) hx hb dX7_isUnder_11 (by decide) (fun (c_3 : ¬ (x2 = 1)) => ?_) (fun (c_3 : x2 = 1) => ?_)
      · refine lv_iload_n hx hb dX7_isUnder_19 rfl (lv_at hl 1 rfl) ?_
        refine lv_iconst (v := 4) hx hb dX7_isUnder_20 (by decide) ?_
        refine lv_icmp_ne (tgt := 33) hx hb dX7_isUnder_21 (by decide) (fun (c_4 : ¬ (x2 = 4)) => ?_) (fun (c_4 : x2 = 4) => ?_)
        · refine lv_iconst (v := 0) hx hb dX7_isUnder_33 (by decide) ?_
          rw [hQ]
          exact W.zret (v := 0) (ty := .boolean) hx hb hr (by decide) (fun t ht hW => ⟨0, rfl, (Or.inl rfl), ht⟩) (fun q h => by cases h) dX7_isUnder_34
        · refine lv_iload_n hx hb dX7_isUnder_24 rfl (lv_at hl 0 rfl) ?_
          refine lv_iconst (v := 5) hx hb dX7_isUnder_25 (by decide) ?_
          refine lv_icmp_ne (tgt := 33) hx hb dX7_isUnder_26 (by decide) (fun (c_5 : ¬ (x1 = 5)) => ?_) (fun (c_5 : x1 = 5) => ?_)
          · refine lv_iconst (v := 0) hx hb dX7_isUnder_33 (by decide) ?_
            rw [hQ]
            exact W.zret (v := 0) (ty := .boolean) hx hb hr (by decide) (fun t ht hW => ⟨0, rfl, (Or.inl rfl), ht⟩) (fun q h => by cases h) dX7_isUnder_34
          · refine lv_iconst (v := 1) hx hb dX7_isUnder_29 (by decide) ?_
            refine lv_goto (tgt := 34) hx hb dX7_isUnder_30 (by decide) ?_
            rw [hQ]
            exact W.zret (v := 1) (ty := .boolean) hx hb hr (by decide) (fun t ht hW => ⟨1, rfl, (Or.inr rfl), ht⟩) (fun q h => by cases h) dX7_isUnder_34
      · refine lv_iload_n hx hb dX7_isUnder_14 rfl (lv_at hl 0 rfl) ?_
        refine lv_iconst (v := 2) hx hb dX7_isUnder_15 (by decide) ?_
        refine lv_icmp_eq (tgt := 29) hx hb dX7_isUnder_16 (by decide) (fun (c_6 : x1 = 2) => ?_) (fun (c_6 : ¬ (x1 = 2)) => ?_)
        · refine lv_iconst (v := 1) hx hb dX7_isUnder_29 (by decide) ?_
          refine lv_goto (tgt := 34) hx hb dX7_isUnder_30 (by decide) ?_
          rw [hQ]
          exact W.zret (v := 1) (ty := .boolean) hx hb hr (by decide) (fun t ht hW => ⟨1, rfl, (Or.inr rfl), ht⟩) (fun q h => by cases h) dX7_isUnder_34
        · refine lv_iload_n hx hb dX7_isUnder_19 rfl (lv_at hl 1 rfl) ?_
          refine lv_iconst (v := 4) hx hb dX7_isUnder_20 (by decide) ?_
          refine lv_icmp_ne (tgt := 33) hx hb dX7_isUnder_21 (by decide) (fun (c_7 : ¬ (x2 = 4)) => ?_) (fun (c_7 : x2 = 4) => ?_)
          · refine lv_iconst (v := 0) hx hb dX7_isUnder_33 (by decide) ?_
            rw [hQ]
            exact W.zret (v := 0) (ty := .boolean) hx hb hr (by decide) (fun t ht hW => ⟨0, rfl, (Or.inl rfl), ht⟩) (fun q h => by cases h) dX7_isUnder_34
          · refine lv_iload_n hx hb dX7_isUnder_24 rfl (lv_at hl 0 rfl) ?_
            refine lv_iconst (v := 5) hx hb dX7_isUnder_25 (by decide) ?_
            refine lv_icmp_ne (tgt := 33) hx hb dX7_isUnder_26 (by decide) (fun (c_8 : ¬ (x1 = 5)) => ?_) (fun (c_8 : x1 = 5) => ?_)
            · refine lv_iconst (v := 0) hx hb dX7_isUnder_33 (by decide) ?_
              rw [hQ]
              exact W.zret (v := 0) (ty := .boolean) hx hb hr (by decide) (fun t ht hW => ⟨0, rfl, (Or.inl rfl), ht⟩) (fun q h => by cases h) dX7_isUnder_34
            · refine lv_iconst (v := 1) hx hb dX7_isUnder_29 (by decide) ?_
              refine lv_goto (tgt := 34) hx hb dX7_isUnder_30 (by decide) ?_
              rw [hQ]
              exact W.zret (v := 1) (ty := .boolean) hx hb hr (by decide) (fun t ht hW => ⟨1, rfl, (Or.inr rfl), ht⟩) (fun q h => by cases h) dX7_isUnder_34

set_option maxHeartbeats 4000000 in
set_option maxRecDepth 100000 in
theorem c_X7_bits (l : Launch) (D : va_G) (E : Nat → ClassId) (G : Nat → Nat) (x1 : Int32) : Met l yX7_bits (oh_w yX7_bits cX7_bits 3 (some .int)) ({ frames := 0, cells := 0, slots := 0, locals := 0 }) (oh_Pp D E G [.int x1] []) (vp_Si (fun r => True)) 0 0 (fun _ => False) := by
  refine Met.ofW (cc := cX7_bits) (maxL := 3) (ret := (some .int)) (by decide) rfl ?_
  intro p e s m args below meth c s₁ B hml hv
  obtain ⟨rfl, hP, hK, hG⟩ := hv
  have hx := B.exec
  have hb := B.bytes
  have hr := B.returns
  have hts := atoms_spec (ws := (oh_w yX7_bits cX7_bits 3 (some .int))) B.pre
  have htg : ∀ w ∈ oh_t, w.before _ s = true := fun w h => hts w (List.mem_cons_of_mem _ h)
  have hown : s.vm.findClass RX7 = some m.cls := findClass_of_methodNamed B.named
  have hlocks := B.notSynchronized
  have hS : va_S (fun _ => False) s.heap s.heap [] := va_S.rf
  have hl := lv_entry ([.int x1]) (n := 3) (Nat.le_of_ble_eq_true rfl)
  rw [lg_entry_eq]
  generalize (lg_sl ([.int x1]) ++ List.replicate (3 - (lg_sl ([.int x1])).length) Slot.unset).toArray = ls at hl ⊢
  have hl : lv_has ls 3 [(0, .int x1)] := hl
  refine oh_genQ (fun Q hQ => ?_)
  refine lv_iconst (v := 0) hx hb dX7_bits_0 (by decide) ?_
  refine lv_istore_n (lv' := [(1, .int 0), (0, .int x1)]) hx hb dX7_bits_1 rfl hl (by decide) rfl (fun ls hl => ?_)
  refine lv_iconst (v := 0) hx hb dX7_bits_2 (by decide) ?_
  refine lv_istore_n (lv' := [(2, .int 0), (1, .int 0), (0, .int x1)]) hx hb dX7_bits_3 rfl hl (by decide) rfl (fun ls hl => ?_)
  have L_4 : ∀ (d : Nat) (z4_2 : Int32) (z4_1 : Int32) (ls : Array Slot), (16 - z4_2.toInt).toNat = d → rg z4_2 0 16 → lv_has ls 3 [(2, .int z4_2), (1, .int z4_1), (0, .int x1)] → W p l e ({ frames := 0, cells := 0, slots := 0, locals := 0 }) s m (([.int x1] : List Value).toArray) below meth c s.heap [] 0 0 Q (F0 m 4 ls []) := by
    intro d
    induction d using Nat.strongRecOn with
    | ind d ih_4 =>
    intro z4_2 z4_1 ls hd_4 hz4_2 hl
    refine lv_iload_n hx hb dX7_bits_4 rfl (lv_at hl 0 rfl) ?_
    refine lv_bipush (v := 16) hx hb dX7_bits_5 (by decide) ?_
    refine lv_icmp_ge (tgt := 24) hx hb dX7_bits_7 (by decide) (fun (c_1 : (16 : Int32) ≤ z4_2) => ?_) (fun (c_1 : ¬ ((16 : Int32) ≤ z4_2)) => ?_)
    · refine lv_iload_n hx hb dX7_bits_24 rfl (lv_at hl 1 rfl) ?_
      rw [hQ]
      exact W.iret (v := z4_1) hx hb hr (fun t ht hW => ⟨z4_1, rfl, trivial, ht⟩) (fun q h => by cases h) dX7_bits_25
    · refine lv_iload_n hx hb dX7_bits_10 rfl (lv_at hl 1 rfl) ?_
      refine lv_iload_n hx hb dX7_bits_11 rfl (lv_at hl 2 rfl) ?_
      refine lv_iload_n hx hb dX7_bits_12 rfl (lv_at hl 0 rfl) ?_
      refine lv_ishr hx hb dX7_bits_13 ?_
      refine lv_iconst (v := 1) hx hb dX7_bits_14 (by decide) ?_
      refine lv_iand hx hb dX7_bits_15 ?_
      refine lv_iadd hx hb dX7_bits_16 ?_
      refine lv_istore_n (lv' := [(1, .int (z4_1 + ((x1 >>> (z4_2 &&& 31)) &&& 1))), (2, .int z4_2), (0, .int x1)]) hx hb dX7_bits_17 rfl hl (by decide) rfl (fun ls hl => ?_)
      refine lv_iinc (v := z4_2 + 1) (lv' := [(2, .int (z4_2 + 1)), (1, .int (z4_1 + ((x1 >>> (z4_2 &&& 31)) &&& 1))), (0, .int x1)]) hx hb dX7_bits_18 hl (k := 1) rfl (by rfl) (by decide) rfl (fun ls hl => ?_)
      refine lv_goto (tgt := 4) hx hb dX7_bits_21 (by decide) ?_
      exact ih_4 _ (hd_4 ▸ mu_up 16 (rn_ltu (u' := 15) (Int32.not_le.mp c_1) hz4_2 (rg_c (v := 16) (lo := 16) (hi := 16) (by decide)) (by decide)) (by decide)) (z4_2 + 1) (z4_1 + ((x1 >>> (z4_2 &&& 31)) &&& 1)) ls rfl (rg_w (rg_add (lo := 1) (hi := 16) (rn_ltu (u' := 15) (Int32.not_le.mp c_1) hz4_2 (rg_c (v := 16) (lo := 16) (hi := 16) (by decide)) (by decide)) (rg_c (v := 1) (lo := 1) (hi := 1) (by decide)) (by decide)) (by decide)) (lv_sub hl [0, 1, 2] rfl)
  exact L_4 _ 0 0 ls rfl (rg_w (rg_c (v := 0) (lo := 0) (hi := 0) (by decide)) (by decide)) (lv_sub hl [0, 1, 2] rfl)

set_option maxHeartbeats 4000000 in
set_option maxRecDepth 100000 in
theorem c_X7_refuse (l : Launch) (D : va_G) (E : Nat → ClassId) (G : Nat → Nat) (sz : Nat) (a : Nat → Nat) (C : Nat → va_E) (n : Nat) (hn : 74 ≤ n) (hT : TyM a E C) (x1 : Int32) (hx1 : rg x1 (-7) 0) : Met l yX7_refuse (oh_w yX7_refuse cX7_refuse 2 (some .int)) ({ frames := 0, cells := 0, slots := 0, locals := 0 }) (oh_Pm D E G [.ref (a 0), .int x1] (oh_W n a C) sz) (va_Qi (fun r (u : Nat → va_E) => TyM a E u ∧ fr [(8, 9)] [] C u ∧ r = x1) (oh_B D (va_A (oh_W n a C) sz) (fun u => oh_W n a u)) (va_A (oh_W n a C) sz)) 0 0 (va_A (oh_W n a C) sz) := by
  refine Met.ofW (cc := cX7_refuse) (maxL := 2) (ret := (some .int)) (by decide) rfl ?_
  intro p e s m args below meth c s₁ B hml hv
  obtain ⟨rfl, hsz, hP, hK, hD0, hG⟩ := hv
  have hx := B.exec
  have hb := B.bytes
  have hr := B.returns
  have hts := atoms_spec (ws := (oh_w yX7_refuse cX7_refuse 2 (some .int))) B.pre
  have htg : ∀ w ∈ oh_t, w.before _ s = true := fun w h => hts w (List.mem_cons_of_mem _ h)
  have hown : s.vm.findClass RX7 = some m.cls := findClass_of_methodNamed B.named
  have hlocks := B.notSynchronized
  have hT0 := hT
  subst hsz
  have hD := hD0.self (sz := s.heap.size)
  generalize hAe : va_A (oh_W n a C) s.heap.size = A at hD hG ⊢
  have hA : ∀ q : Nat, s.heap.size ≤ q → A q := fun q h => by rw [← hAe]; exact Or.inr h
  have hS : va_S A s.heap s.heap [] := va_S.rf
  have hF : fr [(8, 9)] [] C C := fr_rf
  have hl := lv_entry ([.ref (a 0), .int x1]) (n := 2) (Nat.le_of_ble_eq_true rfl)
  rw [lg_entry_eq]
  generalize (lg_sl ([.ref (a 0), .int x1]) ++ List.replicate (2 - (lg_sl ([.ref (a 0), .int x1])).length) Slot.unset).toArray = ls at hl ⊢
  have hl : lv_has ls 2 [(0, .ref (a 0)), (1, .int x1)] := hl
  refine oh_genQ (fun Q hQ => ?_)
  refine lv_aload_n hx hb dX7_refuse_0 rfl (lv_at hl 0 rfl) ?_
  refine va_get (D := D) (ci := 7) (v := .ref (a 8)) (C := RX7) (T := TX7) (N := 29) hx hb htg ig_7 hown hK hP 0 (oh_wg (Nat.lt_of_lt_of_le (by decide) hn) (sM_0 hT)) rfl 8 (by decide) (htg _ q_981) (fun _ h9 => h9) rfl dX7_refuse_1 ?_
  refine lv_iload_n hx hb dX7_refuse_4 rfl (lv_at hl 1 rfl) ?_
  refine lv_ineg hx hb dX7_refuse_5 ?_
  refine lv_dup2_11 hx hb dX7_refuse_6 rfl rfl ?_
  have n_1 : vp_in (-x1) 8 := (rg_in (rg_neg (lo := 0) (hi := 7) hx1 (by decide)) (by decide))
  refine th_iald hx hb hK hP 8 (Nat.lt_of_lt_of_le (by decide) hn) (sM_8 hT) n_1 dX7_refuse_7 ?_
  refine lv_iconst (v := 1) hx hb dX7_refuse_8 (by decide) ?_
  refine lv_iadd hx hb dX7_refuse_9 ?_
  have n_2 : vp_in (-x1) 8 := (rg_in (rg_neg (lo := 0) (hi := 7) hx1 (by decide)) (by decide))
  refine th_iast (T := TyM a E) (Rl := fr [(8, 9)] [] C) hx hb hK hP hD hS 8 (Nat.lt_of_lt_of_le (by decide) hn) (sM_8 hT) n_2 (hT.up 8 (by decide) (tA_upd (tM_8 hT) tA_any)) (fr_st hF (by decide) (by decide)) dX7_refuse_10 (fun C_3 H locs e_4 hT hF hP hD hS => ?_)
  have t_5 := hT
  refine lv_iload_n hx hb dX7_refuse_11 rfl (lv_at hl 1 rfl) ?_
  rw [hQ]
  exact W.iret (v := x1) hx hb hr (fun t ht hW => ⟨⟨x1, C_3, rfl, ⟨hT, hF, rfl⟩, ⟨by rw [ht]; exact hP, hD⟩⟩, hS.F ht⟩) hS.2.2 dX7_refuse_12

set_option maxHeartbeats 4000000 in
set_option maxRecDepth 100000 in
theorem c_X7_isBridge (l : Launch) (D : va_G) (E : Nat → ClassId) (G : Nat → Nat) (a : Nat → Nat) (C : Nat → va_E) (n : Nat) (hn : 74 ≤ n) (hT : TyM a E C) (x1 : Int32) : Met l yX7_isBridge (oh_w yX7_isBridge cX7_isBridge 2 (some .boolean)) ({ frames := 1, cells := 0, slots := 0, locals := 25 }) (oh_Pp D E G [.ref (a 0), .int x1] (oh_W n a C)) (vp_Si (fun r => (r = 0 ∨ r = 1) ∧ (r ≠ 0 → rg x1 0 15))) 0 0 (fun _ => False) := by
  refine Met.ofW (cc := cX7_isBridge) (maxL := 2) (ret := (some .boolean)) (by decide) rfl ?_
  intro p e s m args below meth c s₁ B hml hv
  obtain ⟨rfl, hP, hK, hG⟩ := hv
  have hx := B.exec
  have hb := B.bytes
  have hr := B.returns
  have hts := atoms_spec (ws := (oh_w yX7_isBridge cX7_isBridge 2 (some .boolean))) B.pre
  have htg : ∀ w ∈ oh_t, w.before _ s = true := fun w h => hts w (List.mem_cons_of_mem _ h)
  have hown : s.vm.findClass RX7 = some m.cls := findClass_of_methodNamed B.named
  have hlocks := B.notSynchronized
  have hT0 := hT
  have hS : va_S (fun _ => False) s.heap s.heap [] := va_S.rf
  have hl := lv_entry ([.ref (a 0), .int x1]) (n := 2) (Nat.le_of_ble_eq_true rfl)
  rw [lg_entry_eq]
  generalize (lg_sl ([.ref (a 0), .int x1]) ++ List.replicate (2 - (lg_sl ([.ref (a 0), .int x1])).length) Slot.unset).toArray = ls at hl ⊢
  have hl : lv_has ls 2 [(0, .ref (a 0)), (1, .int x1)] := hl
  refine oh_genQ (fun Q hQ => ?_)
  refine lv_iload_n hx hb dX7_isBridge_0 rfl (lv_at hl 1 rfl) ?_
  refine lv_i2l (v := Int32.toInt64 x1) hx hb dX7_isBridge_1 (by rfl) ?_
  refine lv_lconst (v := 0) hx hb dX7_isBridge_2 (by decide) ?_
  refine lv_aload_n hx hb dX7_isBridge_3 rfl (lv_at hl 0 rfl) ?_
  refine va_get (D := D) (ci := 7) (v := .int (gi (C 0) 11)) (C := RX7) (T := TX7) (N := 29) hx hb htg ig_7 hown hK hP 0 (oh_wg (Nat.lt_of_lt_of_le (by decide) hn) (sM_0 hT)) rfl 11 (by decide) (htg _ q_984) (fun _ h9 => h9) rfl dX7_isBridge_4 ?_
  refine lv_iconst (v := 1) hx hb dX7_isBridge_7 (by decide) ?_
  refine lv_isub hx hb dX7_isBridge_8 ?_
  refine lv_i2l (v := Int32.toInt64 ((gi (C 0) 11) - 1)) hx hb dX7_isBridge_9 (by rfl) ?_
  refine tq_S (As := [.long (Int32.toInt64 x1), .long 0, .long (Int32.toInt64 ((gi (C 0) 11) - 1))]) (rest := []) (ws := []) ⟨hx, hb, hml, hown, htg⟩ (c_X7_in l D E G (Int32.toInt64 x1) (0 : Int64) (Int32.toInt64 ((gi (C 0) 11) - 1))) (va_cwS 3 htg (oh_gS q_1066 q_1067 q_73 q_1068) rfl rfl rfl pdX7_in ⟨Nat.le_of_ble_eq_true rfl, Nat.le_of_ble_eq_true rfl⟩) hK va_nil hG hS rfl hl.1 rfl (Nat.le_of_ble_eq_true rfl) dX7_isBridge_10 ⟨Nat.le_of_ble_eq_true rfl, Nat.le_of_ble_eq_true rfl⟩ (fun r_1 hq_2 => ?_)
  rw [hQ]
  exact W.zret (v := r_1) (ty := .boolean) hx hb hr (oh_nb hq_2.1) (fun t ht hW => ⟨r_1, rfl, ⟨hq_2.1, (fun h9 => (rg_w (rg_il (rnL_leu (hq_2.2.1 h9).2 (rgL_i (rg_il (rnL_lel (hq_2.2.1 h9).1 (rgL_c (v := 0) (lo := 0) (hi := 0) (by decide)) (rgL_i (rg_any _))))) (rgL_i (rg_sub (lo := (-1)) (hi := 15) (fM_0_11 hT0) (rg_c (v := 1) (lo := 1) (hi := 1) (by decide)) (by decide))))) (by decide)))⟩, ht⟩) (fun q h => by cases h) dX7_isBridge_13

set_option maxHeartbeats 4000000 in
set_option maxRecDepth 100000 in
theorem c_X7_isWaggon (l : Launch) (D : va_G) (E : Nat → ClassId) (G : Nat → Nat) (a : Nat → Nat) (C : Nat → va_E) (n : Nat) (hn : 74 ≤ n) (hT : TyM a E C) (x1 : Int32) (hR : RelW C) : Met l yX7_isWaggon (oh_w yX7_isWaggon cX7_isWaggon 2 (some .boolean)) ({ frames := 1, cells := 0, slots := 0, locals := 25 }) (oh_Pp D E G [.ref (a 0), .int x1] (oh_W n a C)) (vp_Si (fun r => (r = 0 ∨ r = 1) ∧ (r ≠ 0 → rg x1 0 4 ∧ (oh_pos C x1) ∧ (x1.toInt < (gi (C 0) 13).toInt)))) 0 0 (fun _ => False) := by
  refine Met.ofW (cc := cX7_isWaggon) (maxL := 2) (ret := (some .boolean)) (by decide) rfl ?_
  intro p e s m args below meth c s₁ B hml hv
  obtain ⟨rfl, hP, hK, hG⟩ := hv
  have hx := B.exec
  have hb := B.bytes
  have hr := B.returns
  have hts := atoms_spec (ws := (oh_w yX7_isWaggon cX7_isWaggon 2 (some .boolean))) B.pre
  have htg : ∀ w ∈ oh_t, w.before _ s = true := fun w h => hts w (List.mem_cons_of_mem _ h)
  have hown : s.vm.findClass RX7 = some m.cls := findClass_of_methodNamed B.named
  have hlocks := B.notSynchronized
  have hT0 := hT
  have hS : va_S (fun _ => False) s.heap s.heap [] := va_S.rf
  have hl := lv_entry ([.ref (a 0), .int x1]) (n := 2) (Nat.le_of_ble_eq_true rfl)
  rw [lg_entry_eq]
  generalize (lg_sl ([.ref (a 0), .int x1]) ++ List.replicate (2 - (lg_sl ([.ref (a 0), .int x1])).length) Slot.unset).toArray = ls at hl ⊢
  have hl : lv_has ls 2 [(0, .ref (a 0)), (1, .int x1)] := hl
  refine oh_genQ (fun Q hQ => ?_)
  refine lv_iload_n hx hb dX7_isWaggon_0 rfl (lv_at hl 1 rfl) ?_
  refine lv_i2l (v := Int32.toInt64 x1) hx hb dX7_isWaggon_1 (by rfl) ?_
  refine lv_lconst (v := 0) hx hb dX7_isWaggon_2 (by decide) ?_
  refine lv_aload_n hx hb dX7_isWaggon_3 rfl (lv_at hl 0 rfl) ?_
  refine va_get (D := D) (ci := 7) (v := .int (gi (C 0) 13)) (C := RX7) (T := TX7) (N := 29) hx hb htg ig_7 hown hK hP 0 (oh_wg (Nat.lt_of_lt_of_le (by decide) hn) (sM_0 hT)) rfl 13 (by decide) (htg _ q_986) (fun _ h9 => h9) rfl dX7_isWaggon_4 ?_
  refine lv_iconst (v := 1) hx hb dX7_isWaggon_7 (by decide) ?_
  refine lv_isub hx hb dX7_isWaggon_8 ?_
  refine lv_i2l (v := Int32.toInt64 ((gi (C 0) 13) - 1)) hx hb dX7_isWaggon_9 (by rfl) ?_
  refine tq_S (As := [.long (Int32.toInt64 x1), .long 0, .long (Int32.toInt64 ((gi (C 0) 13) - 1))]) (rest := []) (ws := []) ⟨hx, hb, hml, hown, htg⟩ (c_X7_in l D E G (Int32.toInt64 x1) (0 : Int64) (Int32.toInt64 ((gi (C 0) 13) - 1))) (va_cwS 3 htg (oh_gS q_1066 q_1067 q_73 q_1068) rfl rfl rfl pdX7_in ⟨Nat.le_of_ble_eq_true rfl, Nat.le_of_ble_eq_true rfl⟩) hK va_nil hG hS rfl hl.1 rfl (Nat.le_of_ble_eq_true rfl) dX7_isWaggon_10 ⟨Nat.le_of_ble_eq_true rfl, Nat.le_of_ble_eq_true rfl⟩ (fun r_1 hq_2 => ?_)
  rw [hQ]
  exact W.zret (v := r_1) (ty := .boolean) hx hb hr (oh_nb hq_2.1) (fun t ht hW => ⟨r_1, rfl, ⟨hq_2.1, (fun h9 => ⟨(rg_w (rg_il (rnL_leu (hq_2.2.1 h9).2 (rgL_i (rg_il (rnL_lel (hq_2.2.1 h9).1 (rgL_c (v := 0) (lo := 0) (hi := 0) (by decide)) (rgL_i (rg_any _))))) (rgL_i (rg_sub (lo := (-1)) (hi := 4) (fM_0_13 hT0) (rg_c (v := 1) (lo := 1) (hi := 1) (by decide)) (by decide))))) (by decide)), (oh_posof hR (rg_w (rg_il (rnL_leu (hq_2.2.1 h9).2 (rgL_i (rg_il (rnL_lel (hq_2.2.1 h9).1 (rgL_c (v := 0) (lo := 0) (hi := 0) (by decide)) (rgL_i (rg_any _))))) (rgL_i (rg_sub (lo := (-1)) (hi := 4) (fM_0_13 hT0) (rg_c (v := 1) (lo := 1) (hi := 1) (by decide)) (by decide))))) (by decide)) (fM_0_13 hT) (hq_2.2.1 h9).2), (oh_posl (fM_0_13 hT) (hq_2.2.1 h9).2)⟩)⟩, ht⟩) (fun q h => by cases h) dX7_isWaggon_13

set_option maxHeartbeats 4000000 in
set_option maxRecDepth 100000 in
theorem c_X7_isPack (l : Launch) (D : va_G) (E : Nat → ClassId) (G : Nat → Nat) (a : Nat → Nat) (C : Nat → va_E) (n : Nat) (hn : 74 ≤ n) (hT : TyM a E C) (x1 : Int32) (x2 : Int32) (hR : RelW C) : Met l yX7_isPack (oh_w yX7_isPack cX7_isPack 3 (some .boolean)) ({ frames := 2, cells := 0, slots := 0, locals := 46 }) (oh_Pp D E G [.ref (a 0), .int x1, .int x2] (oh_W n a C)) (vp_Si (fun r => (r = 0 ∨ r = 1) ∧ (r ≠ 0 → rg x1 0 4 ∧ (oh_pos C x1) ∧ (x1.toInt < (gi (C 0) 13).toInt)))) 0 0 (fun _ => False) := by
  refine Met.ofW (cc := cX7_isPack) (maxL := 3) (ret := (some .boolean)) (by decide) rfl ?_
  intro p e s m args below meth c s₁ B hml hv
  obtain ⟨rfl, hP, hK, hG⟩ := hv
  have hx := B.exec
  have hb := B.bytes
  have hr := B.returns
  have hts := atoms_spec (ws := (oh_w yX7_isPack cX7_isPack 3 (some .boolean))) B.pre
  have htg : ∀ w ∈ oh_t, w.before _ s = true := fun w h => hts w (List.mem_cons_of_mem _ h)
  have hown : s.vm.findClass RX7 = some m.cls := findClass_of_methodNamed B.named
  have hlocks := B.notSynchronized
  have hT0 := hT
  have hS : va_S (fun _ => False) s.heap s.heap [] := va_S.rf
  have hl := lv_entry ([.ref (a 0), .int x1, .int x2]) (n := 3) (Nat.le_of_ble_eq_true rfl)
  rw [lg_entry_eq]
  generalize (lg_sl ([.ref (a 0), .int x1, .int x2]) ++ List.replicate (3 - (lg_sl ([.ref (a 0), .int x1, .int x2])).length) Slot.unset).toArray = ls at hl ⊢
  have hl : lv_has ls 3 [(0, .ref (a 0)), (1, .int x1), (2, .int x2)] := hl
  refine oh_genQ (fun Q hQ => ?_)
  refine lv_aload_n hx hb dX7_isPack_0 rfl (lv_at hl 0 rfl) ?_
  refine lv_iload_n hx hb dX7_isPack_1 rfl (lv_at hl 1 rfl) ?_
  refine tq_V (As := [.int x1]) (rest := []) (ws := (oh_W n a C)) ⟨hx, hb, hml, hown, htg⟩ (c_X7_isWaggon l D E G a C n hn hT x1 hR) (cwV 1 htg (oh_gV q_1278 q_1280 q_48 q_73 q_1281) rfl rfl rfl pdVX7_isWaggon ⟨Nat.le_of_ble_eq_true rfl, Nat.le_of_ble_eq_true rfl⟩) hK hP hG hS (va_recv hK hP (ci := 7) (q0 := 0) rfl (oh_wg (Nat.lt_of_lt_of_le (by decide) hn) (sM_0 hT))) rfl hl.1 rfl (Nat.le_of_ble_eq_true rfl) dX7_isPack_2 ⟨Nat.le_of_ble_eq_true rfl, Nat.le_of_ble_eq_true rfl⟩ (fun r_1 hq_2 => ?_)
  refine lv_if_eq (tgt := 30) hx hb dX7_isPack_5 (by decide) (fun (c_3 : r_1 = 0) => ?_) (fun (c_3 : ¬ (r_1 = 0)) => ?_)
  · refine lv_iconst (v := 0) hx hb dX7_isPack_30 (by decide) ?_
    rw [hQ]
    exact W.zret (v := 0) (ty := .boolean) hx hb hr (by decide) (fun t ht hW => ⟨0, rfl, ⟨(Or.inl rfl), (fun h9 => absurd rfl h9)⟩, ht⟩) (fun q h => by cases h) dX7_isPack_31
  · have u_4 := hq_2.2 c_3
    refine lv_iload_n hx hb dX7_isPack_8 rfl (lv_at hl 2 rfl) ?_
    refine lv_i2l (v := Int32.toInt64 x2) hx hb dX7_isPack_9 (by rfl) ?_
    refine lv_lconst (v := 0) hx hb dX7_isPack_10 (by decide) ?_
    refine lv_iconst (v := 1) hx hb dX7_isPack_11 (by decide) ?_
    refine lv_aload_n hx hb dX7_isPack_12 rfl (lv_at hl 0 rfl) ?_
    refine va_get (D := D) (ci := 7) (v := .int (gi (C 0) 15)) (C := RX7) (T := TX7) (N := 29) hx hb htg ig_7 hown hK hP 0 (oh_wg (Nat.lt_of_lt_of_le (by decide) hn) (sM_0 hT)) rfl 15 (by decide) (htg _ q_988) (fun _ h9 => h9) rfl dX7_isPack_13 ?_
    refine lv_ishl hx hb dX7_isPack_16 ?_
    refine lv_iconst (v := 1) hx hb dX7_isPack_17 (by decide) ?_
    refine lv_isub hx hb dX7_isPack_18 ?_
    refine lv_i2l (v := Int32.toInt64 (((1 : Int32) <<< ((gi (C 0) 15) &&& 31)) - 1)) hx hb dX7_isPack_19 (by rfl) ?_
    refine tq_S (As := [.long (Int32.toInt64 x2), .long 0, .long (Int32.toInt64 (((1 : Int32) <<< ((gi (C 0) 15) &&& 31)) - 1))]) (rest := []) (ws := []) ⟨hx, hb, hml, hown, htg⟩ (c_X7_in l D E G (Int32.toInt64 x2) (0 : Int64) (Int32.toInt64 (((1 : Int32) <<< ((gi (C 0) 15) &&& 31)) - 1))) (va_cwS 3 htg (oh_gS q_1066 q_1067 q_73 q_1068) rfl rfl rfl pdX7_in ⟨Nat.le_of_ble_eq_true rfl, Nat.le_of_ble_eq_true rfl⟩) hK va_nil hG hS rfl hl.1 rfl (Nat.le_of_ble_eq_true rfl) dX7_isPack_20 ⟨Nat.le_of_ble_eq_true rfl, Nat.le_of_ble_eq_true rfl⟩ (fun r_5 hq_6 => ?_)
    refine lv_if_eq (tgt := 30) hx hb dX7_isPack_23 (by decide) (fun (c_7 : r_5 = 0) => ?_) (fun (c_7 : ¬ (r_5 = 0)) => ?_)
    · have u_8 := hq_6.2.2 c_7
      refine lv_iconst (v := 0) hx hb dX7_isPack_30 (by decide) ?_
      rw [hQ]
      exact W.zret (v := 0) (ty := .boolean) hx hb hr (by decide) (fun t ht hW => ⟨0, rfl, ⟨(Or.inl rfl), (fun h9 => absurd rfl h9)⟩, ht⟩) (fun q h => by cases h) dX7_isPack_31
    · have u_9 := hq_6.2.1 c_7
      refine lv_iconst (v := 1) hx hb dX7_isPack_26 (by decide) ?_
      refine lv_goto (tgt := 31) hx hb dX7_isPack_27 (by decide) ?_
      rw [hQ]
      exact W.zret (v := 1) (ty := .boolean) hx hb hr (by decide) (fun t ht hW => ⟨1, rfl, ⟨(Or.inr rfl), (fun _ => ⟨(rg_w u_4.1 (by decide)), u_4.2.1, u_4.2.2⟩)⟩, ht⟩) (fun q h => by cases h) dX7_isPack_31

set_option maxHeartbeats 4000000 in
set_option maxRecDepth 100000 in
theorem c_X7_isHalf (l : Launch) (D : va_G) (E : Nat → ClassId) (G : Nat → Nat) (a : Nat → Nat) (C : Nat → va_E) (n : Nat) (hn : 74 ≤ n) (hT : TyM a E C) (x1 : Int32) (hx1 : rg x1 0 15) : Met l yX7_isHalf (oh_w yX7_isHalf cX7_isHalf 2 (some .boolean)) ({ frames := 0, cells := 0, slots := 0, locals := 0 }) (oh_Pp D E G [.ref (a 0), .int x1] (oh_W n a C)) (vp_Si (fun r => (r = 0 ∨ r = 1))) 0 0 (fun _ => False) := by
  refine Met.ofW (cc := cX7_isHalf) (maxL := 2) (ret := (some .boolean)) (by decide) rfl ?_
  intro p e s m args below meth c s₁ B hml hv
  obtain ⟨rfl, hP, hK, hG⟩ := hv
  have hx := B.exec
  have hb := B.bytes
  have hr := B.returns
  have hts := atoms_spec (ws := (oh_w yX7_isHalf cX7_isHalf 2 (some .boolean))) B.pre
  have htg : ∀ w ∈ oh_t, w.before _ s = true := fun w h => hts w (List.mem_cons_of_mem _ h)
  have hown : s.vm.findClass RX7 = some m.cls := findClass_of_methodNamed B.named
  have hlocks := B.notSynchronized
  have hT0 := hT
  have hS : va_S (fun _ => False) s.heap s.heap [] := va_S.rf
  have hl := lv_entry ([.ref (a 0), .int x1]) (n := 2) (Nat.le_of_ble_eq_true rfl)
  rw [lg_entry_eq]
  generalize (lg_sl ([.ref (a 0), .int x1]) ++ List.replicate (2 - (lg_sl ([.ref (a 0), .int x1])).length) Slot.unset).toArray = ls at hl ⊢
  have hl : lv_has ls 2 [(0, .ref (a 0)), (1, .int x1)] := hl
  refine oh_genQ (fun Q hQ => ?_)
  refine lv_aload_n hx hb dX7_isHalf_0 rfl (lv_at hl 0 rfl) ?_
  refine va_get (D := D) (ci := 7) (v := .ref (a 10)) (C := RX7) (T := TX7) (N := 29) hx hb htg ig_7 hown hK hP 0 (oh_wg (Nat.lt_of_lt_of_le (by decide) hn) (sM_0 hT)) rfl 12 (by decide) (htg _ q_985) (fun _ h9 => h9) rfl dX7_isHalf_1 ?_
  refine lv_iload_n hx hb dX7_isHalf_4 rfl (lv_at hl 1 rfl) ?_
  have n_1 : vp_in x1 16 := (rg_in hx1 (by decide))
  have b_2 : (x1).toNatClampNeg < 16 := vp_lt n_1
  refine th_aald hx hb hK hP 10 2 (Nat.lt_of_lt_of_le (by decide) hn) (sM_10 hT) rfl n_1 dX7_isHalf_5 ?_
  refine lv_iconst (v := 1) hx hb dX7_isHalf_6 (by decide) ?_
  refine th_iald hx hb hK hP (48 + (x1).toNatClampNeg) (lt_blk b_2 hn (by decide)) (hT.bbridge b_2).1 (rg_in (rg_c (v := 1) (lo := 1) (hi := 1) (by decide)) (by decide)) dX7_isHalf_7 ?_
  refine lv_iconst (v := 4) hx hb dX7_isHalf_8 (by decide) ?_
  refine lv_icmp_lt (tgt := 28) hx hb dX7_isHalf_9 (by decide) (fun (c_3 : (ga (C (48 + (x1).toNatClampNeg)) ((1 : Int32)).toNatClampNeg) < 4) => ?_) (fun (c_3 : ¬ ((ga (C (48 + (x1).toNatClampNeg)) ((1 : Int32)).toNatClampNeg) < 4)) => ?_)
  · refine lv_iconst (v := 0) hx hb dX7_isHalf_28 (by decide) ?_
    rw [hQ]
    exact W.zret (v := 0) (ty := .boolean) hx hb hr (by decide) (fun t ht hW => ⟨0, rfl, (Or.inl rfl), ht⟩) (fun q h => by cases h) dX7_isHalf_29
  · refine lv_aload_n hx hb dX7_isHalf_12 rfl (lv_at hl 0 rfl) ?_
    refine va_get (D := D) (ci := 7) (v := .ref (a 10)) (C := RX7) (T := TX7) (N := 29) hx hb htg ig_7 hown hK hP 0 (oh_wg (Nat.lt_of_lt_of_le (by decide) hn) (sM_0 hT)) rfl 12 (by decide) (htg _ q_985) (fun _ h9 => h9) rfl dX7_isHalf_13 ?_
    refine lv_iload_n hx hb dX7_isHalf_16 rfl (lv_at hl 1 rfl) ?_
    have n_4 : vp_in x1 16 := (rg_in hx1 (by decide))
    have b_5 : (x1).toNatClampNeg < 16 := vp_lt n_4
    refine th_aald hx hb hK hP 10 2 (Nat.lt_of_lt_of_le (by decide) hn) (sM_10 hT) rfl n_4 dX7_isHalf_17 ?_
    refine lv_bipush (v := 9) hx hb dX7_isHalf_18 (by decide) ?_
    refine th_iald hx hb hK hP (48 + (x1).toNatClampNeg) (lt_blk b_5 hn (by decide)) (hT.bbridge b_5).1 (rg_in (rg_c (v := 9) (lo := 9) (hi := 9) (by decide)) (by decide)) dX7_isHalf_20 ?_
    refine lv_if_ne (tgt := 28) hx hb dX7_isHalf_21 (by decide) (fun (c_6 : ¬ ((ga (C (48 + (x1).toNatClampNeg)) ((9 : Int32)).toNatClampNeg) = 0)) => ?_) (fun (c_6 : (ga (C (48 + (x1).toNatClampNeg)) ((9 : Int32)).toNatClampNeg) = 0) => ?_)
    · refine lv_iconst (v := 0) hx hb dX7_isHalf_28 (by decide) ?_
      rw [hQ]
      exact W.zret (v := 0) (ty := .boolean) hx hb hr (by decide) (fun t ht hW => ⟨0, rfl, (Or.inl rfl), ht⟩) (fun q h => by cases h) dX7_isHalf_29
    · refine lv_iconst (v := 1) hx hb dX7_isHalf_24 (by decide) ?_
      refine lv_goto (tgt := 29) hx hb dX7_isHalf_25 (by decide) ?_
      rw [hQ]
      exact W.zret (v := 1) (ty := .boolean) hx hb hr (by decide) (fun t ht hW => ⟨1, rfl, (Or.inr rfl), ht⟩) (fun q h => by cases h) dX7_isHalf_29

set_option maxHeartbeats 4000000 in
set_option maxRecDepth 100000 in
theorem c_X7_isNothing (l : Launch) (D : va_G) (E : Nat → ClassId) (G : Nat → Nat) (a : Nat → Nat) (C : Nat → va_E) (n : Nat) (hn : 74 ≤ n) (hT : TyM a E C) (x1 : Int32) (hx1 : rg x1 0 15) : Met l yX7_isNothing (oh_w yX7_isNothing cX7_isNothing 2 (some .boolean)) ({ frames := 0, cells := 0, slots := 0, locals := 0 }) (oh_Pp D E G [.ref (a 0), .int x1] (oh_W n a C)) (vp_Si (fun r => (r = 0 ∨ r = 1))) 0 0 (fun _ => False) := by
  refine Met.ofW (cc := cX7_isNothing) (maxL := 2) (ret := (some .boolean)) (by decide) rfl ?_
  intro p e s m args below meth c s₁ B hml hv
  obtain ⟨rfl, hP, hK, hG⟩ := hv
  have hx := B.exec
  have hb := B.bytes
  have hr := B.returns
  have hts := atoms_spec (ws := (oh_w yX7_isNothing cX7_isNothing 2 (some .boolean))) B.pre
  have htg : ∀ w ∈ oh_t, w.before _ s = true := fun w h => hts w (List.mem_cons_of_mem _ h)
  have hown : s.vm.findClass RX7 = some m.cls := findClass_of_methodNamed B.named
  have hlocks := B.notSynchronized
  have hT0 := hT
  have hS : va_S (fun _ => False) s.heap s.heap [] := va_S.rf
  have hl := lv_entry ([.ref (a 0), .int x1]) (n := 2) (Nat.le_of_ble_eq_true rfl)
  rw [lg_entry_eq]
  generalize (lg_sl ([.ref (a 0), .int x1]) ++ List.replicate (2 - (lg_sl ([.ref (a 0), .int x1])).length) Slot.unset).toArray = ls at hl ⊢
  have hl : lv_has ls 2 [(0, .ref (a 0)), (1, .int x1)] := hl
  refine oh_genQ (fun Q hQ => ?_)
  refine lv_aload_n hx hb dX7_isNothing_0 rfl (lv_at hl 0 rfl) ?_
  refine va_get (D := D) (ci := 7) (v := .ref (a 10)) (C := RX7) (T := TX7) (N := 29) hx hb htg ig_7 hown hK hP 0 (oh_wg (Nat.lt_of_lt_of_le (by decide) hn) (sM_0 hT)) rfl 12 (by decide) (htg _ q_985) (fun _ h9 => h9) rfl dX7_isNothing_1 ?_
  refine lv_iload_n hx hb dX7_isNothing_4 rfl (lv_at hl 1 rfl) ?_
  have n_1 : vp_in x1 16 := (rg_in hx1 (by decide))
  have b_2 : (x1).toNatClampNeg < 16 := vp_lt n_1
  refine th_aald hx hb hK hP 10 2 (Nat.lt_of_lt_of_le (by decide) hn) (sM_10 hT) rfl n_1 dX7_isNothing_5 ?_
  refine lv_iconst (v := 1) hx hb dX7_isNothing_6 (by decide) ?_
  refine th_iald hx hb hK hP (48 + (x1).toNatClampNeg) (lt_blk b_2 hn (by decide)) (hT.bbridge b_2).1 (rg_in (rg_c (v := 1) (lo := 1) (hi := 1) (by decide)) (by decide)) dX7_isNothing_7 ?_
  refine lv_iconst (v := 5) hx hb dX7_isNothing_8 (by decide) ?_
  refine lv_icmp_ne (tgt := 25) hx hb dX7_isNothing_9 (by decide) (fun (c_3 : ¬ ((ga (C (48 + (x1).toNatClampNeg)) ((1 : Int32)).toNatClampNeg) = 5)) => ?_) (fun (c_3 : (ga (C (48 + (x1).toNatClampNeg)) ((1 : Int32)).toNatClampNeg) = 5) => ?_)
  · refine lv_iconst (v := 0) hx hb dX7_isNothing_25 (by decide) ?_
    rw [hQ]
    exact W.zret (v := 0) (ty := .boolean) hx hb hr (by decide) (fun t ht hW => ⟨0, rfl, (Or.inl rfl), ht⟩) (fun q h => by cases h) dX7_isNothing_26
  · refine lv_aload_n hx hb dX7_isNothing_12 rfl (lv_at hl 0 rfl) ?_
    refine va_get (D := D) (ci := 7) (v := .ref (a 13)) (C := RX7) (T := TX7) (N := 29) hx hb htg ig_7 hown hK hP 0 (oh_wg (Nat.lt_of_lt_of_le (by decide) hn) (sM_0 hT)) rfl 17 (by decide) (htg _ q_990) (fun _ h9 => h9) rfl dX7_isNothing_13 ?_
    refine lv_iconst (v := 2) hx hb dX7_isNothing_16 (by decide) ?_
    refine th_iald hx hb hK hP 13 (Nat.lt_of_lt_of_le (by decide) hn) (sM_13 hT) (rg_in (rg_c (v := 2) (lo := 2) (hi := 2) (by decide)) (by decide)) dX7_isNothing_17 ?_
    refine lv_if_ne (tgt := 25) hx hb dX7_isNothing_18 (by decide) (fun (c_4 : ¬ ((ga (C 13) ((2 : Int32)).toNatClampNeg) = 0)) => ?_) (fun (c_4 : (ga (C 13) ((2 : Int32)).toNatClampNeg) = 0) => ?_)
    · refine lv_iconst (v := 0) hx hb dX7_isNothing_25 (by decide) ?_
      rw [hQ]
      exact W.zret (v := 0) (ty := .boolean) hx hb hr (by decide) (fun t ht hW => ⟨0, rfl, (Or.inl rfl), ht⟩) (fun q h => by cases h) dX7_isNothing_26
    · refine lv_iconst (v := 1) hx hb dX7_isNothing_21 (by decide) ?_
      refine lv_goto (tgt := 26) hx hb dX7_isNothing_22 (by decide) ?_
      rw [hQ]
      exact W.zret (v := 1) (ty := .boolean) hx hb hr (by decide) (fun t ht hW => ⟨1, rfl, (Or.inr rfl), ht⟩) (fun q h => by cases h) dX7_isNothing_26

set_option maxHeartbeats 4000000 in
set_option maxRecDepth 100000 in
theorem c_X7_axleOf (l : Launch) (D : va_G) (E : Nat → ClassId) (G : Nat → Nat) (a : Nat → Nat) (C : Nat → va_E) (n : Nat) (hn : 74 ≤ n) (hT : TyM a E C) (x1 : Int32) (hx1 : rg x1 0 15) : Met l yX7_axleOf (oh_w yX7_axleOf cX7_axleOf 4 (some .int)) ({ frames := 1, cells := 0, slots := 0, locals := 21 }) (oh_Pp D E G [.ref (a 0), .int x1] (oh_W n a C)) (vp_Si (fun r => True)) 0 0 (fun _ => False) := by
  refine Met.ofW (cc := cX7_axleOf) (maxL := 4) (ret := (some .int)) (by decide) rfl ?_
  intro p e s m args below meth c s₁ B hml hv
  obtain ⟨rfl, hP, hK, hG⟩ := hv
  have hx := B.exec
  have hb := B.bytes
  have hr := B.returns
  have hts := atoms_spec (ws := (oh_w yX7_axleOf cX7_axleOf 4 (some .int))) B.pre
  have htg : ∀ w ∈ oh_t, w.before _ s = true := fun w h => hts w (List.mem_cons_of_mem _ h)
  have hown : s.vm.findClass RX7 = some m.cls := findClass_of_methodNamed B.named
  have hlocks := B.notSynchronized
  have hT0 := hT
  have hS : va_S (fun _ => False) s.heap s.heap [] := va_S.rf
  have hl := lv_entry ([.ref (a 0), .int x1]) (n := 4) (Nat.le_of_ble_eq_true rfl)
  rw [lg_entry_eq]
  generalize (lg_sl ([.ref (a 0), .int x1]) ++ List.replicate (4 - (lg_sl ([.ref (a 0), .int x1])).length) Slot.unset).toArray = ls at hl ⊢
  have hl : lv_has ls 4 [(0, .ref (a 0)), (1, .int x1)] := hl
  refine oh_genQ (fun Q hQ => ?_)
  refine lv_aload_n hx hb dX7_axleOf_0 rfl (lv_at hl 0 rfl) ?_
  refine va_get (D := D) (ci := 7) (v := .ref (a 10)) (C := RX7) (T := TX7) (N := 29) hx hb htg ig_7 hown hK hP 0 (oh_wg (Nat.lt_of_lt_of_le (by decide) hn) (sM_0 hT)) rfl 12 (by decide) (htg _ q_985) (fun _ h9 => h9) rfl dX7_axleOf_1 ?_
  refine lv_iload_n hx hb dX7_axleOf_4 rfl (lv_at hl 1 rfl) ?_
  have n_1 : vp_in x1 16 := (rg_in hx1 (by decide))
  have b_2 : (x1).toNatClampNeg < 16 := vp_lt n_1
  refine th_aald hx hb hK hP 10 2 (Nat.lt_of_lt_of_le (by decide) hn) (sM_10 hT) rfl n_1 dX7_axleOf_5 ?_
  refine lv_iconst (v := 1) hx hb dX7_axleOf_6 (by decide) ?_
  refine th_iald hx hb hK hP (48 + (x1).toNatClampNeg) (lt_blk b_2 hn (by decide)) (hT.bbridge b_2).1 (rg_in (rg_c (v := 1) (lo := 1) (hi := 1) (by decide)) (by decide)) dX7_axleOf_7 ?_
  refine lv_istore_n (lv' := [(2, .int (ga (C (48 + (x1).toNatClampNeg)) ((1 : Int32)).toNatClampNeg)), (0, .ref (a 0)), (1, .int x1)]) hx hb dX7_axleOf_8 rfl hl (by decide) rfl (fun ls hl => ?_)
  refine lv_aload_n hx hb dX7_axleOf_9 rfl (lv_at hl 1 rfl) ?_
  refine va_get (D := D) (ci := 7) (v := .ref (a 10)) (C := RX7) (T := TX7) (N := 29) hx hb htg ig_7 hown hK hP 0 (oh_wg (Nat.lt_of_lt_of_le (by decide) hn) (sM_0 hT)) rfl 12 (by decide) (htg _ q_985) (fun _ h9 => h9) rfl dX7_axleOf_10 ?_
  refine lv_iload_n hx hb dX7_axleOf_13 rfl (lv_at hl 2 rfl) ?_
  have n_3 : vp_in x1 16 := (rg_in hx1 (by decide))
  have b_4 : (x1).toNatClampNeg < 16 := vp_lt n_3
  refine th_aald hx hb hK hP 10 2 (Nat.lt_of_lt_of_le (by decide) hn) (sM_10 hT) rfl n_3 dX7_axleOf_14 ?_
  refine lv_bipush (v := 8) hx hb dX7_axleOf_15 (by decide) ?_
  refine th_iald hx hb hK hP (48 + (x1).toNatClampNeg) (lt_blk b_4 hn (by decide)) (hT.bbridge b_4).1 (rg_in (rg_c (v := 8) (lo := 8) (hi := 8) (by decide)) (by decide)) dX7_axleOf_17 ?_
  refine lv_iconst (v := 1) hx hb dX7_axleOf_18 (by decide) ?_
  refine lv_icmp_eq (tgt := 30) hx hb dX7_axleOf_19 (by decide) (fun (c_5 : (ga (C (48 + (x1).toNatClampNeg)) ((8 : Int32)).toNatClampNeg) = 1) => ?_) (fun (c_5 : ¬ ((ga (C (48 + (x1).toNatClampNeg)) ((8 : Int32)).toNatClampNeg) = 1)) => ?_)
  · refine lv_iconst (v := 0) hx hb dX7_axleOf_30 (by decide) ?_
    rw [hQ]
    exact W.iret (v := 0) hx hb hr (fun t ht hW => ⟨0, rfl, trivial, ht⟩) (fun q h => by cases h) dX7_axleOf_31
  · refine lv_aload_n hx hb dX7_axleOf_22 rfl (lv_at hl 1 rfl) ?_
    refine lv_iload_n hx hb dX7_axleOf_23 rfl (lv_at hl 2 rfl) ?_
    refine tq_V (As := [.int x1]) (rest := []) (ws := (oh_W n a C)) ⟨hx, hb, hml, hown, htg⟩ (c_X7_isNothing l D E G a C n hn hT x1 (rg_w hx1 (by decide))) (cwV 1 htg (oh_gV q_1114 q_1116 q_32 q_73 q_1117) rfl rfl rfl pdVX7_isNothing ⟨Nat.le_of_ble_eq_true rfl, Nat.le_of_ble_eq_true rfl⟩) hK hP hG hS (va_recv hK hP (ci := 7) (q0 := 0) rfl (oh_wg (Nat.lt_of_lt_of_le (by decide) hn) (sM_0 hT))) rfl hl.1 rfl (Nat.le_of_ble_eq_true rfl) dX7_axleOf_24 ⟨Nat.le_of_ble_eq_true rfl, Nat.le_of_ble_eq_true rfl⟩ (fun r_6 hq_7 => ?_)
    refine lv_if_eq (tgt := 32) hx hb dX7_axleOf_27 (by decide) (fun (c_8 : r_6 = 0) => ?_) (fun (c_8 : ¬ (r_6 = 0)) => ?_)
    · refine lv_aload_n hx hb dX7_axleOf_32 rfl (lv_at hl 1 rfl) ?_
      refine va_get (D := D) (ci := 7) (v := .ref (a 10)) (C := RX7) (T := TX7) (N := 29) hx hb htg ig_7 hown hK hP 0 (oh_wg (Nat.lt_of_lt_of_le (by decide) hn) (sM_0 hT)) rfl 12 (by decide) (htg _ q_985) (fun _ h9 => h9) rfl dX7_axleOf_33 ?_
      refine lv_iload_n hx hb dX7_axleOf_36 rfl (lv_at hl 2 rfl) ?_
      have n_9 : vp_in x1 16 := (rg_in hx1 (by decide))
      have b_10 : (x1).toNatClampNeg < 16 := vp_lt n_9
      refine th_aald hx hb hK hP 10 2 (Nat.lt_of_lt_of_le (by decide) hn) (sM_10 hT) rfl n_9 dX7_axleOf_37 ?_
      refine lv_iconst (v := 3) hx hb dX7_axleOf_38 (by decide) ?_
      refine th_iald hx hb hK hP (48 + (x1).toNatClampNeg) (lt_blk b_10 hn (by decide)) (hT.bbridge b_10).1 (rg_in (rg_c (v := 3) (lo := 3) (hi := 3) (by decide)) (by decide)) dX7_axleOf_39 ?_
      refine lv_iload_n hx hb dX7_axleOf_40 rfl (lv_at hl 0 rfl) ?_
      refine lv_iconst (v := 2) hx hb dX7_axleOf_41 (by decide) ?_
      refine lv_icmp_ne (tgt := 49) hx hb dX7_axleOf_42 (by decide) (fun (c_11 : ¬ ((ga (C (48 + (x1).toNatClampNeg)) ((1 : Int32)).toNatClampNeg) = 2)) => ?_) (fun (c_11 : (ga (C (48 + (x1).toNatClampNeg)) ((1 : Int32)).toNatClampNeg) = 2) => ?_)
      · refine lv_iconst (v := 0) hx hb dX7_axleOf_49 (by decide) ?_
        refine lv_iadd hx hb dX7_axleOf_50 ?_
        refine lv_istore_n (lv' := [(3, .int ((ga (C (48 + (x1).toNatClampNeg)) ((3 : Int32)).toNatClampNeg) + 0)), (2, .int (ga (C (48 + (x1).toNatClampNeg)) ((1 : Int32)).toNatClampNeg)), (0, .ref (a 0)), (1, .int x1)]) hx hb dX7_axleOf_51 rfl hl (by decide) rfl (fun ls hl => ?_)
        refine lv_aload_n hx hb dX7_axleOf_52 rfl (lv_at hl 2 rfl) ?_
        refine lv_iload_n hx hb dX7_axleOf_53 rfl (lv_at hl 3 rfl) ?_
        refine tq_V (As := [.int x1]) (rest := []) (ws := (oh_W n a C)) ⟨hx, hb, hml, hown, htg⟩ (c_X7_isHalf l D E G a C n hn hT x1 (rg_w hx1 (by decide))) (cwV 1 htg (oh_gV q_1118 q_1120 q_33 q_73 q_1121) rfl rfl rfl pdVX7_isHalf ⟨Nat.le_of_ble_eq_true rfl, Nat.le_of_ble_eq_true rfl⟩) hK hP hG hS (va_recv hK hP (ci := 7) (q0 := 0) rfl (oh_wg (Nat.lt_of_lt_of_le (by decide) hn) (sM_0 hT))) rfl hl.1 rfl (Nat.le_of_ble_eq_true rfl) dX7_axleOf_54 ⟨Nat.le_of_ble_eq_true rfl, Nat.le_of_ble_eq_true rfl⟩ (fun r_12 hq_13 => ?_)
        refine lv_if_eq (tgt := 66) hx hb dX7_axleOf_57 (by decide) (fun (c_14 : r_12 = 0) => ?_) (fun (c_14 : ¬ (r_12 = 0)) => ?_)
        · refine lv_iload_n hx hb dX7_axleOf_66 rfl (lv_at hl 0 rfl) ?_
          rw [hQ]
          exact W.iret (v := (ga (C (48 + (x1).toNatClampNeg)) ((3 : Int32)).toNatClampNeg) + 0) hx hb hr (fun t ht hW => ⟨(ga (C (48 + (x1).toNatClampNeg)) ((3 : Int32)).toNatClampNeg) + 0, rfl, trivial, ht⟩) (fun q h => by cases h) dX7_axleOf_67
        · refine lv_iload_n hx hb dX7_axleOf_60 rfl (lv_at hl 0 rfl) ?_
          refine lv_iconst (v := 2) hx hb dX7_axleOf_61 (by decide) ?_
          refine lv_idiv hx hb dX7_axleOf_62 (by decide) ?_
          refine lv_goto (tgt := 67) hx hb dX7_axleOf_63 (by decide) ?_
          rw [hQ]
          exact W.iret (v := ((ga (C (48 + (x1).toNatClampNeg)) ((3 : Int32)).toNatClampNeg) + 0) / 2) hx hb hr (fun t ht hW => ⟨((ga (C (48 + (x1).toNatClampNeg)) ((3 : Int32)).toNatClampNeg) + 0) / 2, rfl, trivial, ht⟩) (fun q h => by cases h) dX7_axleOf_67
      · refine lv_iconst (v := 5) hx hb dX7_axleOf_45 (by decide) ?_
        refine lv_goto (tgt := 50) hx hb dX7_axleOf_46 (by decide) ?_
        refine lv_iadd hx hb dX7_axleOf_50 ?_
        refine lv_istore_n (lv' := [(3, .int ((ga (C (48 + (x1).toNatClampNeg)) ((3 : Int32)).toNatClampNeg) + 5)), (2, .int (ga (C (48 + (x1).toNatClampNeg)) ((1 : Int32)).toNatClampNeg)), (0, .ref (a 0)), (1, .int x1)]) hx hb dX7_axleOf_51 rfl hl (by decide) rfl (fun ls hl => ?_)
        refine lv_aload_n hx hb dX7_axleOf_52 rfl (lv_at hl 2 rfl) ?_
        refine lv_iload_n hx hb dX7_axleOf_53 rfl (lv_at hl 3 rfl) ?_
        refine tq_V (As := [.int x1]) (rest := []) (ws := (oh_W n a C)) ⟨hx, hb, hml, hown, htg⟩ (c_X7_isHalf l D E G a C n hn hT x1 (rg_w hx1 (by decide))) (cwV 1 htg (oh_gV q_1118 q_1120 q_33 q_73 q_1121) rfl rfl rfl pdVX7_isHalf ⟨Nat.le_of_ble_eq_true rfl, Nat.le_of_ble_eq_true rfl⟩) hK hP hG hS (va_recv hK hP (ci := 7) (q0 := 0) rfl (oh_wg (Nat.lt_of_lt_of_le (by decide) hn) (sM_0 hT))) rfl hl.1 rfl (Nat.le_of_ble_eq_true rfl) dX7_axleOf_54 ⟨Nat.le_of_ble_eq_true rfl, Nat.le_of_ble_eq_true rfl⟩ (fun r_15 hq_16 => ?_)
        refine lv_if_eq (tgt := 66) hx hb dX7_axleOf_57 (by decide) (fun (c_17 : r_15 = 0) => ?_) (fun (c_17 : ¬ (r_15 = 0)) => ?_)
        · refine lv_iload_n hx hb dX7_axleOf_66 rfl (lv_at hl 0 rfl) ?_
          rw [hQ]
          exact W.iret (v := (ga (C (48 + (x1).toNatClampNeg)) ((3 : Int32)).toNatClampNeg) + 5) hx hb hr (fun t ht hW => ⟨(ga (C (48 + (x1).toNatClampNeg)) ((3 : Int32)).toNatClampNeg) + 5, rfl, trivial, ht⟩) (fun q h => by cases h) dX7_axleOf_67
        · refine lv_iload_n hx hb dX7_axleOf_60 rfl (lv_at hl 0 rfl) ?_
          refine lv_iconst (v := 2) hx hb dX7_axleOf_61 (by decide) ?_
          refine lv_idiv hx hb dX7_axleOf_62 (by decide) ?_
          refine lv_goto (tgt := 67) hx hb dX7_axleOf_63 (by decide) ?_
          rw [hQ]
          exact W.iret (v := ((ga (C (48 + (x1).toNatClampNeg)) ((3 : Int32)).toNatClampNeg) + 5) / 2) hx hb hr (fun t ht hW => ⟨((ga (C (48 + (x1).toNatClampNeg)) ((3 : Int32)).toNatClampNeg) + 5) / 2, rfl, trivial, ht⟩) (fun q h => by cases h) dX7_axleOf_67
    · refine lv_iconst (v := 0) hx hb dX7_axleOf_30 (by decide) ?_
      rw [hQ]
      exact W.iret (v := 0) hx hb hr (fun t ht hW => ⟨0, rfl, trivial, ht⟩) (fun q h => by cases h) dX7_axleOf_31

set_option maxHeartbeats 4000000 in
set_option maxRecDepth 100000 in
theorem c_X7_allOf (l : Launch) (D : va_G) (E : Nat → ClassId) (G : Nat → Nat) (a : Nat → Nat) (C : Nat → va_E) (n : Nat) (hn : 74 ≤ n) (hT : TyM a E C) (x1 : Int32) (x2 : Int32) (hx1 : rg x1 0 15) (hx2 : rg x2 0 1) : Met l yX7_allOf (oh_w yX7_allOf cX7_allOf 5 (some .int)) ({ frames := 1, cells := 0, slots := 0, locals := 21 }) (oh_Pp D E G [.ref (a 0), .int x1, .int x2] (oh_W n a C)) (vp_Si (fun r => True)) 0 0 (fun _ => False) := by
  refine Met.ofW (cc := cX7_allOf) (maxL := 5) (ret := (some .int)) (by decide) rfl ?_
  intro p e s m args below meth c s₁ B hml hv
  obtain ⟨rfl, hP, hK, hG⟩ := hv
  have hx := B.exec
  have hb := B.bytes
  have hr := B.returns
  have hts := atoms_spec (ws := (oh_w yX7_allOf cX7_allOf 5 (some .int))) B.pre
  have htg : ∀ w ∈ oh_t, w.before _ s = true := fun w h => hts w (List.mem_cons_of_mem _ h)
  have hown : s.vm.findClass RX7 = some m.cls := findClass_of_methodNamed B.named
  have hlocks := B.notSynchronized
  have hT0 := hT
  have hS : va_S (fun _ => False) s.heap s.heap [] := va_S.rf
  have hl := lv_entry ([.ref (a 0), .int x1, .int x2]) (n := 5) (Nat.le_of_ble_eq_true rfl)
  rw [lg_entry_eq]
  generalize (lg_sl ([.ref (a 0), .int x1, .int x2]) ++ List.replicate (5 - (lg_sl ([.ref (a 0), .int x1, .int x2])).length) Slot.unset).toArray = ls at hl ⊢
  have hl : lv_has ls 5 [(0, .ref (a 0)), (1, .int x1), (2, .int x2)] := hl
  refine oh_genQ (fun Q hQ => ?_)
  refine lv_aload_n hx hb dX7_allOf_0 rfl (lv_at hl 0 rfl) ?_
  refine va_get (D := D) (ci := 7) (v := .ref (a 10)) (C := RX7) (T := TX7) (N := 29) hx hb htg ig_7 hown hK hP 0 (oh_wg (Nat.lt_of_lt_of_le (by decide) hn) (sM_0 hT)) rfl 12 (by decide) (htg _ q_985) (fun _ h9 => h9) rfl dX7_allOf_1 ?_
  refine lv_iload_n hx hb dX7_allOf_4 rfl (lv_at hl 1 rfl) ?_
  have n_1 : vp_in x1 16 := (rg_in hx1 (by decide))
  have b_2 : (x1).toNatClampNeg < 16 := vp_lt n_1
  refine th_aald hx hb hK hP 10 2 (Nat.lt_of_lt_of_le (by decide) hn) (sM_10 hT) rfl n_1 dX7_allOf_5 ?_
  refine lv_iconst (v := 1) hx hb dX7_allOf_6 (by decide) ?_
  refine th_iald hx hb hK hP (48 + (x1).toNatClampNeg) (lt_blk b_2 hn (by decide)) (hT.bbridge b_2).1 (rg_in (rg_c (v := 1) (lo := 1) (hi := 1) (by decide)) (by decide)) dX7_allOf_7 ?_
  refine lv_istore_n (lv' := [(3, .int (ga (C (48 + (x1).toNatClampNeg)) ((1 : Int32)).toNatClampNeg)), (0, .ref (a 0)), (1, .int x1), (2, .int x2)]) hx hb dX7_allOf_8 rfl hl (by decide) rfl (fun ls hl => ?_)
  refine lv_aload_n hx hb dX7_allOf_9 rfl (lv_at hl 1 rfl) ?_
  refine va_get (D := D) (ci := 7) (v := .ref (a 10)) (C := RX7) (T := TX7) (N := 29) hx hb htg ig_7 hown hK hP 0 (oh_wg (Nat.lt_of_lt_of_le (by decide) hn) (sM_0 hT)) rfl 12 (by decide) (htg _ q_985) (fun _ h9 => h9) rfl dX7_allOf_10 ?_
  refine lv_iload_n hx hb dX7_allOf_13 rfl (lv_at hl 2 rfl) ?_
  have n_3 : vp_in x1 16 := (rg_in hx1 (by decide))
  have b_4 : (x1).toNatClampNeg < 16 := vp_lt n_3
  refine th_aald hx hb hK hP 10 2 (Nat.lt_of_lt_of_le (by decide) hn) (sM_10 hT) rfl n_3 dX7_allOf_14 ?_
  refine lv_bipush (v := 8) hx hb dX7_allOf_15 (by decide) ?_
  refine th_iald hx hb hK hP (48 + (x1).toNatClampNeg) (lt_blk b_4 hn (by decide)) (hT.bbridge b_4).1 (rg_in (rg_c (v := 8) (lo := 8) (hi := 8) (by decide)) (by decide)) dX7_allOf_17 ?_
  refine lv_iconst (v := 1) hx hb dX7_allOf_18 (by decide) ?_
  refine lv_icmp_ne (tgt := 24) hx hb dX7_allOf_19 (by decide) (fun (c_5 : ¬ ((ga (C (48 + (x1).toNatClampNeg)) ((8 : Int32)).toNatClampNeg) = 1)) => ?_) (fun (c_5 : (ga (C (48 + (x1).toNatClampNeg)) ((8 : Int32)).toNatClampNeg) = 1) => ?_)
  · refine lv_aload_n hx hb dX7_allOf_24 rfl (lv_at hl 1 rfl) ?_
    refine va_get (D := D) (ci := 7) (v := .ref (a 10)) (C := RX7) (T := TX7) (N := 29) hx hb htg ig_7 hown hK hP 0 (oh_wg (Nat.lt_of_lt_of_le (by decide) hn) (sM_0 hT)) rfl 12 (by decide) (htg _ q_985) (fun _ h9 => h9) rfl dX7_allOf_25 ?_
    refine lv_iload_n hx hb dX7_allOf_28 rfl (lv_at hl 2 rfl) ?_
    have n_6 : vp_in x1 16 := (rg_in hx1 (by decide))
    have b_7 : (x1).toNatClampNeg < 16 := vp_lt n_6
    refine th_aald hx hb hK hP 10 2 (Nat.lt_of_lt_of_le (by decide) hn) (sM_10 hT) rfl n_6 dX7_allOf_29 ?_
    refine lv_iconst (v := 4) hx hb dX7_allOf_30 (by decide) ?_
    refine th_iald hx hb hK hP (48 + (x1).toNatClampNeg) (lt_blk b_7 hn (by decide)) (hT.bbridge b_7).1 (rg_in (rg_c (v := 4) (lo := 4) (hi := 4) (by decide)) (by decide)) dX7_allOf_31 ?_
    refine lv_istore (lv' := [(4, .int (ga (C (48 + (x1).toNatClampNeg)) ((4 : Int32)).toNatClampNeg)), (3, .int (ga (C (48 + (x1).toNatClampNeg)) ((1 : Int32)).toNatClampNeg)), (0, .ref (a 0)), (1, .int x1), (2, .int x2)]) hx hb dX7_allOf_32 hl (by decide) rfl (fun ls hl => ?_)
    refine lv_iload hx hb dX7_allOf_34 (lv_at hl 0 rfl) ?_
    refine lv_iload_n hx hb dX7_allOf_36 rfl (lv_at hl 1 rfl) ?_
    refine lv_iconst (v := 1) hx hb dX7_allOf_37 (by decide) ?_
    refine lv_icmp_eq (tgt := 46) hx hb dX7_allOf_38 (by decide) (fun (c_8 : (ga (C (48 + (x1).toNatClampNeg)) ((1 : Int32)).toNatClampNeg) = 1) => ?_) (fun (c_8 : ¬ ((ga (C (48 + (x1).toNatClampNeg)) ((1 : Int32)).toNatClampNeg) = 1)) => ?_)
    · refine lv_iload hx hb dX7_allOf_46 (lv_at hl 0 rfl) ?_
      refine lv_bipush (v := 10) hx hb dX7_allOf_48 (by decide) ?_
      refine lv_idiv hx hb dX7_allOf_50 (by decide) ?_
      refine lv_goto (tgt := 55) hx hb dX7_allOf_51 (by decide) ?_
      refine lv_iadd hx hb dX7_allOf_55 ?_
      refine lv_istore (lv' := [(4, .int ((ga (C (48 + (x1).toNatClampNeg)) ((4 : Int32)).toNatClampNeg) + ((ga (C (48 + (x1).toNatClampNeg)) ((4 : Int32)).toNatClampNeg) / 10))), (3, .int (ga (C (48 + (x1).toNatClampNeg)) ((1 : Int32)).toNatClampNeg)), (0, .ref (a 0)), (1, .int x1), (2, .int x2)]) hx hb dX7_allOf_56 hl (by decide) rfl (fun ls hl => ?_)
      refine lv_aload_n hx hb dX7_allOf_58 rfl (lv_at hl 2 rfl) ?_
      refine lv_iload_n hx hb dX7_allOf_59 rfl (lv_at hl 3 rfl) ?_
      refine tq_V (As := [.int x1]) (rest := []) (ws := (oh_W n a C)) ⟨hx, hb, hml, hown, htg⟩ (c_X7_isNothing l D E G a C n hn hT x1 (rg_w hx1 (by decide))) (cwV 1 htg (oh_gV q_1114 q_1116 q_32 q_73 q_1117) rfl rfl rfl pdVX7_isNothing ⟨Nat.le_of_ble_eq_true rfl, Nat.le_of_ble_eq_true rfl⟩) hK hP hG hS (va_recv hK hP (ci := 7) (q0 := 0) rfl (oh_wg (Nat.lt_of_lt_of_le (by decide) hn) (sM_0 hT))) rfl hl.1 rfl (Nat.le_of_ble_eq_true rfl) dX7_allOf_60 ⟨Nat.le_of_ble_eq_true rfl, Nat.le_of_ble_eq_true rfl⟩ (fun r_9 hq_10 => ?_)
      refine lv_if_eq (tgt := 70) hx hb dX7_allOf_63 (by decide) (fun (c_11 : r_9 = 0) => ?_) (fun (c_11 : ¬ (r_9 = 0)) => ?_)
      · refine lv_aload_n hx hb dX7_allOf_70 rfl (lv_at hl 2 rfl) ?_
        refine lv_iload_n hx hb dX7_allOf_71 rfl (lv_at hl 3 rfl) ?_
        refine tq_V (As := [.int x1]) (rest := []) (ws := (oh_W n a C)) ⟨hx, hb, hml, hown, htg⟩ (c_X7_isHalf l D E G a C n hn hT x1 (rg_w hx1 (by decide))) (cwV 1 htg (oh_gV q_1118 q_1120 q_33 q_73 q_1121) rfl rfl rfl pdVX7_isHalf ⟨Nat.le_of_ble_eq_true rfl, Nat.le_of_ble_eq_true rfl⟩) hK hP hG hS (va_recv hK hP (ci := 7) (q0 := 0) rfl (oh_wg (Nat.lt_of_lt_of_le (by decide) hn) (sM_0 hT))) rfl hl.1 rfl (Nat.le_of_ble_eq_true rfl) dX7_allOf_72 ⟨Nat.le_of_ble_eq_true rfl, Nat.le_of_ble_eq_true rfl⟩ (fun r_12 hq_13 => ?_)
        refine lv_if_eq (tgt := 85) hx hb dX7_allOf_75 (by decide) (fun (c_14 : r_12 = 0) => ?_) (fun (c_14 : ¬ (r_12 = 0)) => ?_)
        · refine lv_iload hx hb dX7_allOf_85 (lv_at hl 0 rfl) ?_
          refine lv_istore (lv' := [(4, .int ((ga (C (48 + (x1).toNatClampNeg)) ((4 : Int32)).toNatClampNeg) + ((ga (C (48 + (x1).toNatClampNeg)) ((4 : Int32)).toNatClampNeg) / 10))), (3, .int (ga (C (48 + (x1).toNatClampNeg)) ((1 : Int32)).toNatClampNeg)), (0, .ref (a 0)), (1, .int x1), (2, .int x2)]) hx hb dX7_allOf_87 hl (by decide) rfl (fun ls hl => ?_)
          refine lv_iload hx hb dX7_allOf_89 (lv_at hl 0 rfl) ?_
          refine lv_iload_n hx hb dX7_allOf_91 rfl (lv_at hl 4 rfl) ?_
          refine lv_if_eq (tgt := 106) hx hb dX7_allOf_92 (by decide) (fun (c_15 : x2 = 0) => ?_) (fun (c_15 : ¬ (x2 = 0)) => ?_)
          · refine lv_iconst (v := 0) hx hb dX7_allOf_106 (by decide) ?_
            refine lv_iadd hx hb dX7_allOf_107 ?_
            rw [hQ]
            exact W.iret (v := ((ga (C (48 + (x1).toNatClampNeg)) ((4 : Int32)).toNatClampNeg) + ((ga (C (48 + (x1).toNatClampNeg)) ((4 : Int32)).toNatClampNeg) / 10)) + 0) hx hb hr (fun t ht hW => ⟨((ga (C (48 + (x1).toNatClampNeg)) ((4 : Int32)).toNatClampNeg) + ((ga (C (48 + (x1).toNatClampNeg)) ((4 : Int32)).toNatClampNeg) / 10)) + 0, rfl, trivial, ht⟩) (fun q h => by cases h) dX7_allOf_108
          · refine lv_aload_n hx hb dX7_allOf_95 rfl (lv_at hl 2 rfl) ?_
            refine va_get (D := D) (ci := 7) (v := .ref (a 10)) (C := RX7) (T := TX7) (N := 29) hx hb htg ig_7 hown hK hP 0 (oh_wg (Nat.lt_of_lt_of_le (by decide) hn) (sM_0 hT)) rfl 12 (by decide) (htg _ q_985) (fun _ h9 => h9) rfl dX7_allOf_96 ?_
            refine lv_iload_n hx hb dX7_allOf_99 rfl (lv_at hl 3 rfl) ?_
            have n_16 : vp_in x1 16 := (rg_in hx1 (by decide))
            have b_17 : (x1).toNatClampNeg < 16 := vp_lt n_16
            refine th_aald hx hb hK hP 10 2 (Nat.lt_of_lt_of_le (by decide) hn) (sM_10 hT) rfl n_16 dX7_allOf_100 ?_
            refine lv_iconst (v := 5) hx hb dX7_allOf_101 (by decide) ?_
            refine th_iald hx hb hK hP (48 + (x1).toNatClampNeg) (lt_blk b_17 hn (by decide)) (hT.bbridge b_17).1 (rg_in (rg_c (v := 5) (lo := 5) (hi := 5) (by decide)) (by decide)) dX7_allOf_102 ?_
            refine lv_goto (tgt := 107) hx hb dX7_allOf_103 (by decide) ?_
            refine lv_iadd hx hb dX7_allOf_107 ?_
            rw [hQ]
            exact W.iret (v := ((ga (C (48 + (x1).toNatClampNeg)) ((4 : Int32)).toNatClampNeg) + ((ga (C (48 + (x1).toNatClampNeg)) ((4 : Int32)).toNatClampNeg) / 10)) + (ga (C (48 + (x1).toNatClampNeg)) ((5 : Int32)).toNatClampNeg)) hx hb hr (fun t ht hW => ⟨((ga (C (48 + (x1).toNatClampNeg)) ((4 : Int32)).toNatClampNeg) + ((ga (C (48 + (x1).toNatClampNeg)) ((4 : Int32)).toNatClampNeg) / 10)) + (ga (C (48 + (x1).toNatClampNeg)) ((5 : Int32)).toNatClampNeg), rfl, trivial, ht⟩) (fun q h => by cases h) dX7_allOf_108
        · refine lv_iload hx hb dX7_allOf_78 (lv_at hl 0 rfl) ?_
          refine lv_iconst (v := 2) hx hb dX7_allOf_80 (by decide) ?_
          refine lv_idiv hx hb dX7_allOf_81 (by decide) ?_
          refine lv_goto (tgt := 87) hx hb dX7_allOf_82 (by decide) ?_
          refine lv_istore (lv' := [(4, .int (((ga (C (48 + (x1).toNatClampNeg)) ((4 : Int32)).toNatClampNeg) + ((ga (C (48 + (x1).toNatClampNeg)) ((4 : Int32)).toNatClampNeg) / 10)) / 2)), (3, .int (ga (C (48 + (x1).toNatClampNeg)) ((1 : Int32)).toNatClampNeg)), (0, .ref (a 0)), (1, .int x1), (2, .int x2)]) hx hb dX7_allOf_87 hl (by decide) rfl (fun ls hl => ?_)
          refine lv_iload hx hb dX7_allOf_89 (lv_at hl 0 rfl) ?_
          refine lv_iload_n hx hb dX7_allOf_91 rfl (lv_at hl 4 rfl) ?_
          refine lv_if_eq (tgt := 106) hx hb dX7_allOf_92 (by decide) (fun (c_18 : x2 = 0) => ?_) (fun (c_18 : ¬ (x2 = 0)) => ?_)
          · refine lv_iconst (v := 0) hx hb dX7_allOf_106 (by decide) ?_
            refine lv_iadd hx hb dX7_allOf_107 ?_
            rw [hQ]
            exact W.iret (v := (((ga (C (48 + (x1).toNatClampNeg)) ((4 : Int32)).toNatClampNeg) + ((ga (C (48 + (x1).toNatClampNeg)) ((4 : Int32)).toNatClampNeg) / 10)) / 2) + 0) hx hb hr (fun t ht hW => ⟨(((ga (C (48 + (x1).toNatClampNeg)) ((4 : Int32)).toNatClampNeg) + ((ga (C (48 + (x1).toNatClampNeg)) ((4 : Int32)).toNatClampNeg) / 10)) / 2) + 0, rfl, trivial, ht⟩) (fun q h => by cases h) dX7_allOf_108
          · refine lv_aload_n hx hb dX7_allOf_95 rfl (lv_at hl 2 rfl) ?_
            refine va_get (D := D) (ci := 7) (v := .ref (a 10)) (C := RX7) (T := TX7) (N := 29) hx hb htg ig_7 hown hK hP 0 (oh_wg (Nat.lt_of_lt_of_le (by decide) hn) (sM_0 hT)) rfl 12 (by decide) (htg _ q_985) (fun _ h9 => h9) rfl dX7_allOf_96 ?_
            refine lv_iload_n hx hb dX7_allOf_99 rfl (lv_at hl 3 rfl) ?_
            have n_19 : vp_in x1 16 := (rg_in hx1 (by decide))
            have b_20 : (x1).toNatClampNeg < 16 := vp_lt n_19
            refine th_aald hx hb hK hP 10 2 (Nat.lt_of_lt_of_le (by decide) hn) (sM_10 hT) rfl n_19 dX7_allOf_100 ?_
            refine lv_iconst (v := 5) hx hb dX7_allOf_101 (by decide) ?_
            refine th_iald hx hb hK hP (48 + (x1).toNatClampNeg) (lt_blk b_20 hn (by decide)) (hT.bbridge b_20).1 (rg_in (rg_c (v := 5) (lo := 5) (hi := 5) (by decide)) (by decide)) dX7_allOf_102 ?_
            refine lv_goto (tgt := 107) hx hb dX7_allOf_103 (by decide) ?_
            refine lv_iadd hx hb dX7_allOf_107 ?_
            rw [hQ]
            exact W.iret (v := (((ga (C (48 + (x1).toNatClampNeg)) ((4 : Int32)).toNatClampNeg) + ((ga (C (48 + (x1).toNatClampNeg)) ((4 : Int32)).toNatClampNeg) / 10)) / 2) + (ga (C (48 + (x1).toNatClampNeg)) ((5 : Int32)).toNatClampNeg)) hx hb hr (fun t ht hW => ⟨(((ga (C (48 + (x1).toNatClampNeg)) ((4 : Int32)).toNatClampNeg) + ((ga (C (48 + (x1).toNatClampNeg)) ((4 : Int32)).toNatClampNeg) / 10)) / 2) + (ga (C (48 + (x1).toNatClampNeg)) ((5 : Int32)).toNatClampNeg), rfl, trivial, ht⟩) (fun q h => by cases h) dX7_allOf_108
      · refine lv_iconst (v := 0) hx hb dX7_allOf_66 (by decide) ?_
        refine lv_goto (tgt := 87) hx hb dX7_allOf_67 (by decide) ?_
        refine lv_istore (lv' := [(4, .int 0), (3, .int (ga (C (48 + (x1).toNatClampNeg)) ((1 : Int32)).toNatClampNeg)), (0, .ref (a 0)), (1, .int x1), (2, .int x2)]) hx hb dX7_allOf_87 hl (by decide) rfl (fun ls hl => ?_)
        refine lv_iload hx hb dX7_allOf_89 (lv_at hl 0 rfl) ?_
        refine lv_iload_n hx hb dX7_allOf_91 rfl (lv_at hl 4 rfl) ?_
        refine lv_if_eq (tgt := 106) hx hb dX7_allOf_92 (by decide) (fun (c_21 : x2 = 0) => ?_) (fun (c_21 : ¬ (x2 = 0)) => ?_)
        · refine lv_iconst (v := 0) hx hb dX7_allOf_106 (by decide) ?_
          refine lv_iadd hx hb dX7_allOf_107 ?_
          refine oh_nrm (v := 0) (by decide) ?_
          rw [hQ]
          exact W.iret (v := 0) hx hb hr (fun t ht hW => ⟨0, rfl, trivial, ht⟩) (fun q h => by cases h) dX7_allOf_108
        · refine lv_aload_n hx hb dX7_allOf_95 rfl (lv_at hl 2 rfl) ?_
          refine va_get (D := D) (ci := 7) (v := .ref (a 10)) (C := RX7) (T := TX7) (N := 29) hx hb htg ig_7 hown hK hP 0 (oh_wg (Nat.lt_of_lt_of_le (by decide) hn) (sM_0 hT)) rfl 12 (by decide) (htg _ q_985) (fun _ h9 => h9) rfl dX7_allOf_96 ?_
          refine lv_iload_n hx hb dX7_allOf_99 rfl (lv_at hl 3 rfl) ?_
          have n_22 : vp_in x1 16 := (rg_in hx1 (by decide))
          have b_23 : (x1).toNatClampNeg < 16 := vp_lt n_22
          refine th_aald hx hb hK hP 10 2 (Nat.lt_of_lt_of_le (by decide) hn) (sM_10 hT) rfl n_22 dX7_allOf_100 ?_
          refine lv_iconst (v := 5) hx hb dX7_allOf_101 (by decide) ?_
          refine th_iald hx hb hK hP (48 + (x1).toNatClampNeg) (lt_blk b_23 hn (by decide)) (hT.bbridge b_23).1 (rg_in (rg_c (v := 5) (lo := 5) (hi := 5) (by decide)) (by decide)) dX7_allOf_102 ?_
          refine lv_goto (tgt := 107) hx hb dX7_allOf_103 (by decide) ?_
          refine lv_iadd hx hb dX7_allOf_107 ?_
          rw [hQ]
          exact W.iret (v := 0 + (ga (C (48 + (x1).toNatClampNeg)) ((5 : Int32)).toNatClampNeg)) hx hb hr (fun t ht hW => ⟨0 + (ga (C (48 + (x1).toNatClampNeg)) ((5 : Int32)).toNatClampNeg), rfl, trivial, ht⟩) (fun q h => by cases h) dX7_allOf_108
    · refine lv_iload_n hx hb dX7_allOf_41 rfl (lv_at hl 1 rfl) ?_
      refine lv_iconst (v := 2) hx hb dX7_allOf_42 (by decide) ?_
      refine lv_icmp_ne (tgt := 54) hx hb dX7_allOf_43 (by decide) (fun (c_24 : ¬ ((ga (C (48 + (x1).toNatClampNeg)) ((1 : Int32)).toNatClampNeg) = 2)) => ?_) (fun (c_24 : (ga (C (48 + (x1).toNatClampNeg)) ((1 : Int32)).toNatClampNeg) = 2) => ?_)
      · refine lv_iconst (v := 0) hx hb dX7_allOf_54 (by decide) ?_
        refine lv_iadd hx hb dX7_allOf_55 ?_
        refine lv_istore (lv' := [(4, .int ((ga (C (48 + (x1).toNatClampNeg)) ((4 : Int32)).toNatClampNeg) + 0)), (3, .int (ga (C (48 + (x1).toNatClampNeg)) ((1 : Int32)).toNatClampNeg)), (0, .ref (a 0)), (1, .int x1), (2, .int x2)]) hx hb dX7_allOf_56 hl (by decide) rfl (fun ls hl => ?_)
        refine lv_aload_n hx hb dX7_allOf_58 rfl (lv_at hl 2 rfl) ?_
        refine lv_iload_n hx hb dX7_allOf_59 rfl (lv_at hl 3 rfl) ?_
        refine tq_V (As := [.int x1]) (rest := []) (ws := (oh_W n a C)) ⟨hx, hb, hml, hown, htg⟩ (c_X7_isNothing l D E G a C n hn hT x1 (rg_w hx1 (by decide))) (cwV 1 htg (oh_gV q_1114 q_1116 q_32 q_73 q_1117) rfl rfl rfl pdVX7_isNothing ⟨Nat.le_of_ble_eq_true rfl, Nat.le_of_ble_eq_true rfl⟩) hK hP hG hS (va_recv hK hP (ci := 7) (q0 := 0) rfl (oh_wg (Nat.lt_of_lt_of_le (by decide) hn) (sM_0 hT))) rfl hl.1 rfl (Nat.le_of_ble_eq_true rfl) dX7_allOf_60 ⟨Nat.le_of_ble_eq_true rfl, Nat.le_of_ble_eq_true rfl⟩ (fun r_25 hq_26 => ?_)
        refine lv_if_eq (tgt := 70) hx hb dX7_allOf_63 (by decide) (fun (c_27 : r_25 = 0) => ?_) (fun (c_27 : ¬ (r_25 = 0)) => ?_)
        · refine lv_aload_n hx hb dX7_allOf_70 rfl (lv_at hl 2 rfl) ?_
          refine lv_iload_n hx hb dX7_allOf_71 rfl (lv_at hl 3 rfl) ?_
          refine tq_V (As := [.int x1]) (rest := []) (ws := (oh_W n a C)) ⟨hx, hb, hml, hown, htg⟩ (c_X7_isHalf l D E G a C n hn hT x1 (rg_w hx1 (by decide))) (cwV 1 htg (oh_gV q_1118 q_1120 q_33 q_73 q_1121) rfl rfl rfl pdVX7_isHalf ⟨Nat.le_of_ble_eq_true rfl, Nat.le_of_ble_eq_true rfl⟩) hK hP hG hS (va_recv hK hP (ci := 7) (q0 := 0) rfl (oh_wg (Nat.lt_of_lt_of_le (by decide) hn) (sM_0 hT))) rfl hl.1 rfl (Nat.le_of_ble_eq_true rfl) dX7_allOf_72 ⟨Nat.le_of_ble_eq_true rfl, Nat.le_of_ble_eq_true rfl⟩ (fun r_28 hq_29 => ?_)
          refine lv_if_eq (tgt := 85) hx hb dX7_allOf_75 (by decide) (fun (c_30 : r_28 = 0) => ?_) (fun (c_30 : ¬ (r_28 = 0)) => ?_)
          · refine lv_iload hx hb dX7_allOf_85 (lv_at hl 0 rfl) ?_
            refine lv_istore (lv' := [(4, .int ((ga (C (48 + (x1).toNatClampNeg)) ((4 : Int32)).toNatClampNeg) + 0)), (3, .int (ga (C (48 + (x1).toNatClampNeg)) ((1 : Int32)).toNatClampNeg)), (0, .ref (a 0)), (1, .int x1), (2, .int x2)]) hx hb dX7_allOf_87 hl (by decide) rfl (fun ls hl => ?_)
            refine lv_iload hx hb dX7_allOf_89 (lv_at hl 0 rfl) ?_
            refine lv_iload_n hx hb dX7_allOf_91 rfl (lv_at hl 4 rfl) ?_
            refine lv_if_eq (tgt := 106) hx hb dX7_allOf_92 (by decide) (fun (c_31 : x2 = 0) => ?_) (fun (c_31 : ¬ (x2 = 0)) => ?_)
            · refine lv_iconst (v := 0) hx hb dX7_allOf_106 (by decide) ?_
              refine lv_iadd hx hb dX7_allOf_107 ?_
              rw [hQ]
              exact W.iret (v := ((ga (C (48 + (x1).toNatClampNeg)) ((4 : Int32)).toNatClampNeg) + 0) + 0) hx hb hr (fun t ht hW => ⟨((ga (C (48 + (x1).toNatClampNeg)) ((4 : Int32)).toNatClampNeg) + 0) + 0, rfl, trivial, ht⟩) (fun q h => by cases h) dX7_allOf_108
            · refine lv_aload_n hx hb dX7_allOf_95 rfl (lv_at hl 2 rfl) ?_
              refine va_get (D := D) (ci := 7) (v := .ref (a 10)) (C := RX7) (T := TX7) (N := 29) hx hb htg ig_7 hown hK hP 0 (oh_wg (Nat.lt_of_lt_of_le (by decide) hn) (sM_0 hT)) rfl 12 (by decide) (htg _ q_985) (fun _ h9 => h9) rfl dX7_allOf_96 ?_
              refine lv_iload_n hx hb dX7_allOf_99 rfl (lv_at hl 3 rfl) ?_
              have n_32 : vp_in x1 16 := (rg_in hx1 (by decide))
              have b_33 : (x1).toNatClampNeg < 16 := vp_lt n_32
              refine th_aald hx hb hK hP 10 2 (Nat.lt_of_lt_of_le (by decide) hn) (sM_10 hT) rfl n_32 dX7_allOf_100 ?_
              refine lv_iconst (v := 5) hx hb dX7_allOf_101 (by decide) ?_
              refine th_iald hx hb hK hP (48 + (x1).toNatClampNeg) (lt_blk b_33 hn (by decide)) (hT.bbridge b_33).1 (rg_in (rg_c (v := 5) (lo := 5) (hi := 5) (by decide)) (by decide)) dX7_allOf_102 ?_
              refine lv_goto (tgt := 107) hx hb dX7_allOf_103 (by decide) ?_
              refine lv_iadd hx hb dX7_allOf_107 ?_
              rw [hQ]
              exact W.iret (v := ((ga (C (48 + (x1).toNatClampNeg)) ((4 : Int32)).toNatClampNeg) + 0) + (ga (C (48 + (x1).toNatClampNeg)) ((5 : Int32)).toNatClampNeg)) hx hb hr (fun t ht hW => ⟨((ga (C (48 + (x1).toNatClampNeg)) ((4 : Int32)).toNatClampNeg) + 0) + (ga (C (48 + (x1).toNatClampNeg)) ((5 : Int32)).toNatClampNeg), rfl, trivial, ht⟩) (fun q h => by cases h) dX7_allOf_108
          · refine lv_iload hx hb dX7_allOf_78 (lv_at hl 0 rfl) ?_
            refine lv_iconst (v := 2) hx hb dX7_allOf_80 (by decide) ?_
            refine lv_idiv hx hb dX7_allOf_81 (by decide) ?_
            refine lv_goto (tgt := 87) hx hb dX7_allOf_82 (by decide) ?_
            refine lv_istore (lv' := [(4, .int (((ga (C (48 + (x1).toNatClampNeg)) ((4 : Int32)).toNatClampNeg) + 0) / 2)), (3, .int (ga (C (48 + (x1).toNatClampNeg)) ((1 : Int32)).toNatClampNeg)), (0, .ref (a 0)), (1, .int x1), (2, .int x2)]) hx hb dX7_allOf_87 hl (by decide) rfl (fun ls hl => ?_)
            refine lv_iload hx hb dX7_allOf_89 (lv_at hl 0 rfl) ?_
            refine lv_iload_n hx hb dX7_allOf_91 rfl (lv_at hl 4 rfl) ?_
            refine lv_if_eq (tgt := 106) hx hb dX7_allOf_92 (by decide) (fun (c_34 : x2 = 0) => ?_) (fun (c_34 : ¬ (x2 = 0)) => ?_)
            · refine lv_iconst (v := 0) hx hb dX7_allOf_106 (by decide) ?_
              refine lv_iadd hx hb dX7_allOf_107 ?_
              rw [hQ]
              exact W.iret (v := (((ga (C (48 + (x1).toNatClampNeg)) ((4 : Int32)).toNatClampNeg) + 0) / 2) + 0) hx hb hr (fun t ht hW => ⟨(((ga (C (48 + (x1).toNatClampNeg)) ((4 : Int32)).toNatClampNeg) + 0) / 2) + 0, rfl, trivial, ht⟩) (fun q h => by cases h) dX7_allOf_108
            · refine lv_aload_n hx hb dX7_allOf_95 rfl (lv_at hl 2 rfl) ?_
              refine va_get (D := D) (ci := 7) (v := .ref (a 10)) (C := RX7) (T := TX7) (N := 29) hx hb htg ig_7 hown hK hP 0 (oh_wg (Nat.lt_of_lt_of_le (by decide) hn) (sM_0 hT)) rfl 12 (by decide) (htg _ q_985) (fun _ h9 => h9) rfl dX7_allOf_96 ?_
              refine lv_iload_n hx hb dX7_allOf_99 rfl (lv_at hl 3 rfl) ?_
              have n_35 : vp_in x1 16 := (rg_in hx1 (by decide))
              have b_36 : (x1).toNatClampNeg < 16 := vp_lt n_35
              refine th_aald hx hb hK hP 10 2 (Nat.lt_of_lt_of_le (by decide) hn) (sM_10 hT) rfl n_35 dX7_allOf_100 ?_
              refine lv_iconst (v := 5) hx hb dX7_allOf_101 (by decide) ?_
              refine th_iald hx hb hK hP (48 + (x1).toNatClampNeg) (lt_blk b_36 hn (by decide)) (hT.bbridge b_36).1 (rg_in (rg_c (v := 5) (lo := 5) (hi := 5) (by decide)) (by decide)) dX7_allOf_102 ?_
              refine lv_goto (tgt := 107) hx hb dX7_allOf_103 (by decide) ?_
              refine lv_iadd hx hb dX7_allOf_107 ?_
              rw [hQ]
              exact W.iret (v := (((ga (C (48 + (x1).toNatClampNeg)) ((4 : Int32)).toNatClampNeg) + 0) / 2) + (ga (C (48 + (x1).toNatClampNeg)) ((5 : Int32)).toNatClampNeg)) hx hb hr (fun t ht hW => ⟨(((ga (C (48 + (x1).toNatClampNeg)) ((4 : Int32)).toNatClampNeg) + 0) / 2) + (ga (C (48 + (x1).toNatClampNeg)) ((5 : Int32)).toNatClampNeg), rfl, trivial, ht⟩) (fun q h => by cases h) dX7_allOf_108
        · refine lv_iconst (v := 0) hx hb dX7_allOf_66 (by decide) ?_
          refine lv_goto (tgt := 87) hx hb dX7_allOf_67 (by decide) ?_
          refine lv_istore (lv' := [(4, .int 0), (3, .int (ga (C (48 + (x1).toNatClampNeg)) ((1 : Int32)).toNatClampNeg)), (0, .ref (a 0)), (1, .int x1), (2, .int x2)]) hx hb dX7_allOf_87 hl (by decide) rfl (fun ls hl => ?_)
          refine lv_iload hx hb dX7_allOf_89 (lv_at hl 0 rfl) ?_
          refine lv_iload_n hx hb dX7_allOf_91 rfl (lv_at hl 4 rfl) ?_
          refine lv_if_eq (tgt := 106) hx hb dX7_allOf_92 (by decide) (fun (c_37 : x2 = 0) => ?_) (fun (c_37 : ¬ (x2 = 0)) => ?_)
          · refine lv_iconst (v := 0) hx hb dX7_allOf_106 (by decide) ?_
            refine lv_iadd hx hb dX7_allOf_107 ?_
            refine oh_nrm (v := 0) (by decide) ?_
            rw [hQ]
            exact W.iret (v := 0) hx hb hr (fun t ht hW => ⟨0, rfl, trivial, ht⟩) (fun q h => by cases h) dX7_allOf_108
          · refine lv_aload_n hx hb dX7_allOf_95 rfl (lv_at hl 2 rfl) ?_
            refine va_get (D := D) (ci := 7) (v := .ref (a 10)) (C := RX7) (T := TX7) (N := 29) hx hb htg ig_7 hown hK hP 0 (oh_wg (Nat.lt_of_lt_of_le (by decide) hn) (sM_0 hT)) rfl 12 (by decide) (htg _ q_985) (fun _ h9 => h9) rfl dX7_allOf_96 ?_
            refine lv_iload_n hx hb dX7_allOf_99 rfl (lv_at hl 3 rfl) ?_
            have n_38 : vp_in x1 16 := (rg_in hx1 (by decide))
            have b_39 : (x1).toNatClampNeg < 16 := vp_lt n_38
            refine th_aald hx hb hK hP 10 2 (Nat.lt_of_lt_of_le (by decide) hn) (sM_10 hT) rfl n_38 dX7_allOf_100 ?_
            refine lv_iconst (v := 5) hx hb dX7_allOf_101 (by decide) ?_
            refine th_iald hx hb hK hP (48 + (x1).toNatClampNeg) (lt_blk b_39 hn (by decide)) (hT.bbridge b_39).1 (rg_in (rg_c (v := 5) (lo := 5) (hi := 5) (by decide)) (by decide)) dX7_allOf_102 ?_
            refine lv_goto (tgt := 107) hx hb dX7_allOf_103 (by decide) ?_
            refine lv_iadd hx hb dX7_allOf_107 ?_
            rw [hQ]
            exact W.iret (v := 0 + (ga (C (48 + (x1).toNatClampNeg)) ((5 : Int32)).toNatClampNeg)) hx hb hr (fun t ht hW => ⟨0 + (ga (C (48 + (x1).toNatClampNeg)) ((5 : Int32)).toNatClampNeg), rfl, trivial, ht⟩) (fun q h => by cases h) dX7_allOf_108
      · refine lv_iload hx hb dX7_allOf_46 (lv_at hl 0 rfl) ?_
        refine lv_bipush (v := 10) hx hb dX7_allOf_48 (by decide) ?_
        refine lv_idiv hx hb dX7_allOf_50 (by decide) ?_
        refine lv_goto (tgt := 55) hx hb dX7_allOf_51 (by decide) ?_
        refine lv_iadd hx hb dX7_allOf_55 ?_
        refine lv_istore (lv' := [(4, .int ((ga (C (48 + (x1).toNatClampNeg)) ((4 : Int32)).toNatClampNeg) + ((ga (C (48 + (x1).toNatClampNeg)) ((4 : Int32)).toNatClampNeg) / 10))), (3, .int (ga (C (48 + (x1).toNatClampNeg)) ((1 : Int32)).toNatClampNeg)), (0, .ref (a 0)), (1, .int x1), (2, .int x2)]) hx hb dX7_allOf_56 hl (by decide) rfl (fun ls hl => ?_)
        refine lv_aload_n hx hb dX7_allOf_58 rfl (lv_at hl 2 rfl) ?_
        refine lv_iload_n hx hb dX7_allOf_59 rfl (lv_at hl 3 rfl) ?_
        refine tq_V (As := [.int x1]) (rest := []) (ws := (oh_W n a C)) ⟨hx, hb, hml, hown, htg⟩ (c_X7_isNothing l D E G a C n hn hT x1 (rg_w hx1 (by decide))) (cwV 1 htg (oh_gV q_1114 q_1116 q_32 q_73 q_1117) rfl rfl rfl pdVX7_isNothing ⟨Nat.le_of_ble_eq_true rfl, Nat.le_of_ble_eq_true rfl⟩) hK hP hG hS (va_recv hK hP (ci := 7) (q0 := 0) rfl (oh_wg (Nat.lt_of_lt_of_le (by decide) hn) (sM_0 hT))) rfl hl.1 rfl (Nat.le_of_ble_eq_true rfl) dX7_allOf_60 ⟨Nat.le_of_ble_eq_true rfl, Nat.le_of_ble_eq_true rfl⟩ (fun r_40 hq_41 => ?_)
        refine lv_if_eq (tgt := 70) hx hb dX7_allOf_63 (by decide) (fun (c_42 : r_40 = 0) => ?_) (fun (c_42 : ¬ (r_40 = 0)) => ?_)
        · refine lv_aload_n hx hb dX7_allOf_70 rfl (lv_at hl 2 rfl) ?_
          refine lv_iload_n hx hb dX7_allOf_71 rfl (lv_at hl 3 rfl) ?_
          refine tq_V (As := [.int x1]) (rest := []) (ws := (oh_W n a C)) ⟨hx, hb, hml, hown, htg⟩ (c_X7_isHalf l D E G a C n hn hT x1 (rg_w hx1 (by decide))) (cwV 1 htg (oh_gV q_1118 q_1120 q_33 q_73 q_1121) rfl rfl rfl pdVX7_isHalf ⟨Nat.le_of_ble_eq_true rfl, Nat.le_of_ble_eq_true rfl⟩) hK hP hG hS (va_recv hK hP (ci := 7) (q0 := 0) rfl (oh_wg (Nat.lt_of_lt_of_le (by decide) hn) (sM_0 hT))) rfl hl.1 rfl (Nat.le_of_ble_eq_true rfl) dX7_allOf_72 ⟨Nat.le_of_ble_eq_true rfl, Nat.le_of_ble_eq_true rfl⟩ (fun r_43 hq_44 => ?_)
          refine lv_if_eq (tgt := 85) hx hb dX7_allOf_75 (by decide) (fun (c_45 : r_43 = 0) => ?_) (fun (c_45 : ¬ (r_43 = 0)) => ?_)
          · refine lv_iload hx hb dX7_allOf_85 (lv_at hl 0 rfl) ?_
            refine lv_istore (lv' := [(4, .int ((ga (C (48 + (x1).toNatClampNeg)) ((4 : Int32)).toNatClampNeg) + ((ga (C (48 + (x1).toNatClampNeg)) ((4 : Int32)).toNatClampNeg) / 10))), (3, .int (ga (C (48 + (x1).toNatClampNeg)) ((1 : Int32)).toNatClampNeg)), (0, .ref (a 0)), (1, .int x1), (2, .int x2)]) hx hb dX7_allOf_87 hl (by decide) rfl (fun ls hl => ?_)
            refine lv_iload hx hb dX7_allOf_89 (lv_at hl 0 rfl) ?_
            refine lv_iload_n hx hb dX7_allOf_91 rfl (lv_at hl 4 rfl) ?_
            refine lv_if_eq (tgt := 106) hx hb dX7_allOf_92 (by decide) (fun (c_46 : x2 = 0) => ?_) (fun (c_46 : ¬ (x2 = 0)) => ?_)
            · refine lv_iconst (v := 0) hx hb dX7_allOf_106 (by decide) ?_
              refine lv_iadd hx hb dX7_allOf_107 ?_
              rw [hQ]
              exact W.iret (v := ((ga (C (48 + (x1).toNatClampNeg)) ((4 : Int32)).toNatClampNeg) + ((ga (C (48 + (x1).toNatClampNeg)) ((4 : Int32)).toNatClampNeg) / 10)) + 0) hx hb hr (fun t ht hW => ⟨((ga (C (48 + (x1).toNatClampNeg)) ((4 : Int32)).toNatClampNeg) + ((ga (C (48 + (x1).toNatClampNeg)) ((4 : Int32)).toNatClampNeg) / 10)) + 0, rfl, trivial, ht⟩) (fun q h => by cases h) dX7_allOf_108
            · refine lv_aload_n hx hb dX7_allOf_95 rfl (lv_at hl 2 rfl) ?_
              refine va_get (D := D) (ci := 7) (v := .ref (a 10)) (C := RX7) (T := TX7) (N := 29) hx hb htg ig_7 hown hK hP 0 (oh_wg (Nat.lt_of_lt_of_le (by decide) hn) (sM_0 hT)) rfl 12 (by decide) (htg _ q_985) (fun _ h9 => h9) rfl dX7_allOf_96 ?_
              refine lv_iload_n hx hb dX7_allOf_99 rfl (lv_at hl 3 rfl) ?_
              have n_47 : vp_in x1 16 := (rg_in hx1 (by decide))
              have b_48 : (x1).toNatClampNeg < 16 := vp_lt n_47
              refine th_aald hx hb hK hP 10 2 (Nat.lt_of_lt_of_le (by decide) hn) (sM_10 hT) rfl n_47 dX7_allOf_100 ?_
              refine lv_iconst (v := 5) hx hb dX7_allOf_101 (by decide) ?_
              refine th_iald hx hb hK hP (48 + (x1).toNatClampNeg) (lt_blk b_48 hn (by decide)) (hT.bbridge b_48).1 (rg_in (rg_c (v := 5) (lo := 5) (hi := 5) (by decide)) (by decide)) dX7_allOf_102 ?_
              refine lv_goto (tgt := 107) hx hb dX7_allOf_103 (by decide) ?_
              refine lv_iadd hx hb dX7_allOf_107 ?_
              rw [hQ]
              exact W.iret (v := ((ga (C (48 + (x1).toNatClampNeg)) ((4 : Int32)).toNatClampNeg) + ((ga (C (48 + (x1).toNatClampNeg)) ((4 : Int32)).toNatClampNeg) / 10)) + (ga (C (48 + (x1).toNatClampNeg)) ((5 : Int32)).toNatClampNeg)) hx hb hr (fun t ht hW => ⟨((ga (C (48 + (x1).toNatClampNeg)) ((4 : Int32)).toNatClampNeg) + ((ga (C (48 + (x1).toNatClampNeg)) ((4 : Int32)).toNatClampNeg) / 10)) + (ga (C (48 + (x1).toNatClampNeg)) ((5 : Int32)).toNatClampNeg), rfl, trivial, ht⟩) (fun q h => by cases h) dX7_allOf_108
          · refine lv_iload hx hb dX7_allOf_78 (lv_at hl 0 rfl) ?_
            refine lv_iconst (v := 2) hx hb dX7_allOf_80 (by decide) ?_
            refine lv_idiv hx hb dX7_allOf_81 (by decide) ?_
            refine lv_goto (tgt := 87) hx hb dX7_allOf_82 (by decide) ?_
            refine lv_istore (lv' := [(4, .int (((ga (C (48 + (x1).toNatClampNeg)) ((4 : Int32)).toNatClampNeg) + ((ga (C (48 + (x1).toNatClampNeg)) ((4 : Int32)).toNatClampNeg) / 10)) / 2)), (3, .int (ga (C (48 + (x1).toNatClampNeg)) ((1 : Int32)).toNatClampNeg)), (0, .ref (a 0)), (1, .int x1), (2, .int x2)]) hx hb dX7_allOf_87 hl (by decide) rfl (fun ls hl => ?_)
            refine lv_iload hx hb dX7_allOf_89 (lv_at hl 0 rfl) ?_
            refine lv_iload_n hx hb dX7_allOf_91 rfl (lv_at hl 4 rfl) ?_
            refine lv_if_eq (tgt := 106) hx hb dX7_allOf_92 (by decide) (fun (c_49 : x2 = 0) => ?_) (fun (c_49 : ¬ (x2 = 0)) => ?_)
            · refine lv_iconst (v := 0) hx hb dX7_allOf_106 (by decide) ?_
              refine lv_iadd hx hb dX7_allOf_107 ?_
              rw [hQ]
              exact W.iret (v := (((ga (C (48 + (x1).toNatClampNeg)) ((4 : Int32)).toNatClampNeg) + ((ga (C (48 + (x1).toNatClampNeg)) ((4 : Int32)).toNatClampNeg) / 10)) / 2) + 0) hx hb hr (fun t ht hW => ⟨(((ga (C (48 + (x1).toNatClampNeg)) ((4 : Int32)).toNatClampNeg) + ((ga (C (48 + (x1).toNatClampNeg)) ((4 : Int32)).toNatClampNeg) / 10)) / 2) + 0, rfl, trivial, ht⟩) (fun q h => by cases h) dX7_allOf_108
            · refine lv_aload_n hx hb dX7_allOf_95 rfl (lv_at hl 2 rfl) ?_
              refine va_get (D := D) (ci := 7) (v := .ref (a 10)) (C := RX7) (T := TX7) (N := 29) hx hb htg ig_7 hown hK hP 0 (oh_wg (Nat.lt_of_lt_of_le (by decide) hn) (sM_0 hT)) rfl 12 (by decide) (htg _ q_985) (fun _ h9 => h9) rfl dX7_allOf_96 ?_
              refine lv_iload_n hx hb dX7_allOf_99 rfl (lv_at hl 3 rfl) ?_
              have n_50 : vp_in x1 16 := (rg_in hx1 (by decide))
              have b_51 : (x1).toNatClampNeg < 16 := vp_lt n_50
              refine th_aald hx hb hK hP 10 2 (Nat.lt_of_lt_of_le (by decide) hn) (sM_10 hT) rfl n_50 dX7_allOf_100 ?_
              refine lv_iconst (v := 5) hx hb dX7_allOf_101 (by decide) ?_
              refine th_iald hx hb hK hP (48 + (x1).toNatClampNeg) (lt_blk b_51 hn (by decide)) (hT.bbridge b_51).1 (rg_in (rg_c (v := 5) (lo := 5) (hi := 5) (by decide)) (by decide)) dX7_allOf_102 ?_
              refine lv_goto (tgt := 107) hx hb dX7_allOf_103 (by decide) ?_
              refine lv_iadd hx hb dX7_allOf_107 ?_
              rw [hQ]
              exact W.iret (v := (((ga (C (48 + (x1).toNatClampNeg)) ((4 : Int32)).toNatClampNeg) + ((ga (C (48 + (x1).toNatClampNeg)) ((4 : Int32)).toNatClampNeg) / 10)) / 2) + (ga (C (48 + (x1).toNatClampNeg)) ((5 : Int32)).toNatClampNeg)) hx hb hr (fun t ht hW => ⟨(((ga (C (48 + (x1).toNatClampNeg)) ((4 : Int32)).toNatClampNeg) + ((ga (C (48 + (x1).toNatClampNeg)) ((4 : Int32)).toNatClampNeg) / 10)) / 2) + (ga (C (48 + (x1).toNatClampNeg)) ((5 : Int32)).toNatClampNeg), rfl, trivial, ht⟩) (fun q h => by cases h) dX7_allOf_108
        · refine lv_iconst (v := 0) hx hb dX7_allOf_66 (by decide) ?_
          refine lv_goto (tgt := 87) hx hb dX7_allOf_67 (by decide) ?_
          refine lv_istore (lv' := [(4, .int 0), (3, .int (ga (C (48 + (x1).toNatClampNeg)) ((1 : Int32)).toNatClampNeg)), (0, .ref (a 0)), (1, .int x1), (2, .int x2)]) hx hb dX7_allOf_87 hl (by decide) rfl (fun ls hl => ?_)
          refine lv_iload hx hb dX7_allOf_89 (lv_at hl 0 rfl) ?_
          refine lv_iload_n hx hb dX7_allOf_91 rfl (lv_at hl 4 rfl) ?_
          refine lv_if_eq (tgt := 106) hx hb dX7_allOf_92 (by decide) (fun (c_52 : x2 = 0) => ?_) (fun (c_52 : ¬ (x2 = 0)) => ?_)
          · refine lv_iconst (v := 0) hx hb dX7_allOf_106 (by decide) ?_
            refine lv_iadd hx hb dX7_allOf_107 ?_
            refine oh_nrm (v := 0) (by decide) ?_
            rw [hQ]
            exact W.iret (v := 0) hx hb hr (fun t ht hW => ⟨0, rfl, trivial, ht⟩) (fun q h => by cases h) dX7_allOf_108
          · refine lv_aload_n hx hb dX7_allOf_95 rfl (lv_at hl 2 rfl) ?_
            refine va_get (D := D) (ci := 7) (v := .ref (a 10)) (C := RX7) (T := TX7) (N := 29) hx hb htg ig_7 hown hK hP 0 (oh_wg (Nat.lt_of_lt_of_le (by decide) hn) (sM_0 hT)) rfl 12 (by decide) (htg _ q_985) (fun _ h9 => h9) rfl dX7_allOf_96 ?_
            refine lv_iload_n hx hb dX7_allOf_99 rfl (lv_at hl 3 rfl) ?_
            have n_53 : vp_in x1 16 := (rg_in hx1 (by decide))
            have b_54 : (x1).toNatClampNeg < 16 := vp_lt n_53
            refine th_aald hx hb hK hP 10 2 (Nat.lt_of_lt_of_le (by decide) hn) (sM_10 hT) rfl n_53 dX7_allOf_100 ?_
            refine lv_iconst (v := 5) hx hb dX7_allOf_101 (by decide) ?_
            refine th_iald hx hb hK hP (48 + (x1).toNatClampNeg) (lt_blk b_54 hn (by decide)) (hT.bbridge b_54).1 (rg_in (rg_c (v := 5) (lo := 5) (hi := 5) (by decide)) (by decide)) dX7_allOf_102 ?_
            refine lv_goto (tgt := 107) hx hb dX7_allOf_103 (by decide) ?_
            refine lv_iadd hx hb dX7_allOf_107 ?_
            rw [hQ]
            exact W.iret (v := 0 + (ga (C (48 + (x1).toNatClampNeg)) ((5 : Int32)).toNatClampNeg)) hx hb hr (fun t ht hW => ⟨0 + (ga (C (48 + (x1).toNatClampNeg)) ((5 : Int32)).toNatClampNeg), rfl, trivial, ht⟩) (fun q h => by cases h) dX7_allOf_108
  · refine lv_iconst (v := 0) hx hb dX7_allOf_22 (by decide) ?_
    rw [hQ]
    exact W.iret (v := 0) hx hb hr (fun t ht hW => ⟨0, rfl, trivial, ht⟩) (fun q h => by cases h) dX7_allOf_23

set_option maxHeartbeats 4000000 in
set_option maxRecDepth 100000 in
theorem c_X7_lengthOf (l : Launch) (D : va_G) (E : Nat → ClassId) (G : Nat → Nat) (a : Nat → Nat) (C : Nat → va_E) (n : Nat) (hn : 74 ≤ n) (hT : TyM a E C) (x1 : Int32) (hx1 : rg x1 0 4) : Met l yX7_lengthOf (oh_w yX7_lengthOf cX7_lengthOf 2 (some .int)) ({ frames := 0, cells := 0, slots := 0, locals := 0 }) (oh_Pp D E G [.ref (a 0), .int x1] (oh_W n a C)) (vp_Si (fun r => True)) 0 0 (fun _ => False) := by
  refine Met.ofW (cc := cX7_lengthOf) (maxL := 2) (ret := (some .int)) (by decide) rfl ?_
  intro p e s m args below meth c s₁ B hml hv
  obtain ⟨rfl, hP, hK, hG⟩ := hv
  have hx := B.exec
  have hb := B.bytes
  have hr := B.returns
  have hts := atoms_spec (ws := (oh_w yX7_lengthOf cX7_lengthOf 2 (some .int))) B.pre
  have htg : ∀ w ∈ oh_t, w.before _ s = true := fun w h => hts w (List.mem_cons_of_mem _ h)
  have hown : s.vm.findClass RX7 = some m.cls := findClass_of_methodNamed B.named
  have hlocks := B.notSynchronized
  have hT0 := hT
  have hS : va_S (fun _ => False) s.heap s.heap [] := va_S.rf
  have hl := lv_entry ([.ref (a 0), .int x1]) (n := 2) (Nat.le_of_ble_eq_true rfl)
  rw [lg_entry_eq]
  generalize (lg_sl ([.ref (a 0), .int x1]) ++ List.replicate (2 - (lg_sl ([.ref (a 0), .int x1])).length) Slot.unset).toArray = ls at hl ⊢
  have hl : lv_has ls 2 [(0, .ref (a 0)), (1, .int x1)] := hl
  refine oh_genQ (fun Q hQ => ?_)
  refine lv_aload_n hx hb dX7_lengthOf_0 rfl (lv_at hl 0 rfl) ?_
  refine va_get (D := D) (ci := 7) (v := .ref (a 11)) (C := RX7) (T := TX7) (N := 29) hx hb htg ig_7 hown hK hP 0 (oh_wg (Nat.lt_of_lt_of_le (by decide) hn) (sM_0 hT)) rfl 14 (by decide) (htg _ q_987) (fun _ h9 => h9) rfl dX7_lengthOf_1 ?_
  refine lv_iload_n hx hb dX7_lengthOf_4 rfl (lv_at hl 1 rfl) ?_
  have n_1 : vp_in x1 5 := (rg_in hx1 (by decide))
  have b_2 : (x1).toNatClampNeg < 5 := vp_lt n_1
  refine th_aald hx hb hK hP 11 2 (Nat.lt_of_lt_of_le (by decide) hn) (sM_11 hT) rfl n_1 dX7_lengthOf_5 ?_
  refine lv_iconst (v := 1) hx hb dX7_lengthOf_6 (by decide) ?_
  refine th_iald hx hb hK hP (64 + (x1).toNatClampNeg) (lt_blk b_2 hn (by decide)) (hT.bwaggon b_2).1 (rg_in (rg_c (v := 1) (lo := 1) (hi := 1) (by decide)) (by decide)) dX7_lengthOf_7 ?_
  refine lv_aload_n hx hb dX7_lengthOf_8 rfl (lv_at hl 0 rfl) ?_
  refine va_get (D := D) (ci := 7) (v := .ref (a 11)) (C := RX7) (T := TX7) (N := 29) hx hb htg ig_7 hown hK hP 0 (oh_wg (Nat.lt_of_lt_of_le (by decide) hn) (sM_0 hT)) rfl 14 (by decide) (htg _ q_987) (fun _ h9 => h9) rfl dX7_lengthOf_9 ?_
  refine lv_iload_n hx hb dX7_lengthOf_12 rfl (lv_at hl 1 rfl) ?_
  have n_3 : vp_in x1 5 := (rg_in hx1 (by decide))
  have b_4 : (x1).toNatClampNeg < 5 := vp_lt n_3
  refine th_aald hx hb hK hP 11 2 (Nat.lt_of_lt_of_le (by decide) hn) (sM_11 hT) rfl n_3 dX7_lengthOf_13 ?_
  refine lv_iconst (v := 0) hx hb dX7_lengthOf_14 (by decide) ?_
  refine th_iald hx hb hK hP (64 + (x1).toNatClampNeg) (lt_blk b_4 hn (by decide)) (hT.bwaggon b_4).1 (rg_in (rg_c (v := 0) (lo := 0) (hi := 0) (by decide)) (by decide)) dX7_lengthOf_15 ?_
  refine lv_iconst (v := 1) hx hb dX7_lengthOf_16 (by decide) ?_
  refine lv_isub hx hb dX7_lengthOf_17 ?_
  refine lv_imul hx hb dX7_lengthOf_18 ?_
  refine lv_iconst (v := 4) hx hb dX7_lengthOf_19 (by decide) ?_
  refine lv_iadd hx hb dX7_lengthOf_20 ?_
  rw [hQ]
  exact W.iret (v := ((ga (C (64 + (x1).toNatClampNeg)) ((1 : Int32)).toNatClampNeg) * ((ga (C (64 + (x1).toNatClampNeg)) ((0 : Int32)).toNatClampNeg) - 1)) + 4) hx hb hr (fun t ht hW => ⟨((ga (C (64 + (x1).toNatClampNeg)) ((1 : Int32)).toNatClampNeg) * ((ga (C (64 + (x1).toNatClampNeg)) ((0 : Int32)).toNatClampNeg) - 1)) + 4, rfl, trivial, ht⟩) (fun q h => by cases h) dX7_lengthOf_21

set_option maxHeartbeats 4000000 in
set_option maxRecDepth 100000 in
theorem c_X7_axleLoad (l : Launch) (D : va_G) (E : Nat → ClassId) (G : Nat → Nat) (a : Nat → Nat) (C : Nat → va_E) (n : Nat) (hn : 74 ≤ n) (hT : TyM a E C) (x1 : Int32) (x2 : Int32) (hx1 : rg x1 0 4) (hw : oh_pos C x1) : Met l yX7_axleLoad (oh_w yX7_axleLoad cX7_axleLoad 5 (some .int)) ({ frames := 0, cells := 0, slots := 0, locals := 0 }) (oh_Pp D E G [.ref (a 0), .int x1, .int x2] (oh_W n a C)) (vp_Si (fun r => True)) 0 0 (fun _ => False) := by
  refine Met.ofW (cc := cX7_axleLoad) (maxL := 5) (ret := (some .int)) (by decide) rfl ?_
  intro p e s m args below meth c s₁ B hml hv
  obtain ⟨rfl, hP, hK, hG⟩ := hv
  have hx := B.exec
  have hb := B.bytes
  have hr := B.returns
  have hts := atoms_spec (ws := (oh_w yX7_axleLoad cX7_axleLoad 5 (some .int))) B.pre
  have htg : ∀ w ∈ oh_t, w.before _ s = true := fun w h => hts w (List.mem_cons_of_mem _ h)
  have hown : s.vm.findClass RX7 = some m.cls := findClass_of_methodNamed B.named
  have hlocks := B.notSynchronized
  have hT0 := hT
  have hS : va_S (fun _ => False) s.heap s.heap [] := va_S.rf
  have hl := lv_entry ([.ref (a 0), .int x1, .int x2]) (n := 5) (Nat.le_of_ble_eq_true rfl)
  rw [lg_entry_eq]
  generalize (lg_sl ([.ref (a 0), .int x1, .int x2]) ++ List.replicate (5 - (lg_sl ([.ref (a 0), .int x1, .int x2])).length) Slot.unset).toArray = ls at hl ⊢
  have hl : lv_has ls 5 [(0, .ref (a 0)), (1, .int x1), (2, .int x2)] := hl
  refine oh_genQ (fun Q hQ => ?_)
  refine lv_aload_n hx hb dX7_axleLoad_0 rfl (lv_at hl 0 rfl) ?_
  refine va_get (D := D) (ci := 7) (v := .ref (a 11)) (C := RX7) (T := TX7) (N := 29) hx hb htg ig_7 hown hK hP 0 (oh_wg (Nat.lt_of_lt_of_le (by decide) hn) (sM_0 hT)) rfl 14 (by decide) (htg _ q_987) (fun _ h9 => h9) rfl dX7_axleLoad_1 ?_
  refine lv_iload_n hx hb dX7_axleLoad_4 rfl (lv_at hl 1 rfl) ?_
  have n_1 : vp_in x1 5 := (rg_in hx1 (by decide))
  have b_2 : (x1).toNatClampNeg < 5 := vp_lt n_1
  refine th_aald hx hb hK hP 11 2 (Nat.lt_of_lt_of_le (by decide) hn) (sM_11 hT) rfl n_1 dX7_axleLoad_5 ?_
  refine lv_iconst (v := 2) hx hb dX7_axleLoad_6 (by decide) ?_
  refine th_iald hx hb hK hP (64 + (x1).toNatClampNeg) (lt_blk b_2 hn (by decide)) (hT.bwaggon b_2).1 (rg_in (rg_c (v := 2) (lo := 2) (hi := 2) (by decide)) (by decide)) dX7_axleLoad_7 ?_
  refine lv_aload_n hx hb dX7_axleLoad_8 rfl (lv_at hl 0 rfl) ?_
  refine va_get (D := D) (ci := 7) (v := .ref (a 13)) (C := RX7) (T := TX7) (N := 29) hx hb htg ig_7 hown hK hP 0 (oh_wg (Nat.lt_of_lt_of_le (by decide) hn) (sM_0 hT)) rfl 17 (by decide) (htg _ q_990) (fun _ h9 => h9) rfl dX7_axleLoad_9 ?_
  refine lv_iconst (v := 0) hx hb dX7_axleLoad_12 (by decide) ?_
  refine th_iald hx hb hK hP 13 (Nat.lt_of_lt_of_le (by decide) hn) (sM_13 hT) (rg_in (rg_c (v := 0) (lo := 0) (hi := 0) (by decide)) (by decide)) dX7_axleLoad_13 ?_
  refine lv_iadd hx hb dX7_axleLoad_14 ?_
  refine lv_istore_n (lv' := [(3, .int ((ga (C (64 + (x1).toNatClampNeg)) ((2 : Int32)).toNatClampNeg) + (ga (C 13) ((0 : Int32)).toNatClampNeg))), (0, .ref (a 0)), (1, .int x1), (2, .int x2)]) hx hb dX7_axleLoad_15 rfl hl (by decide) rfl (fun ls hl => ?_)
  refine lv_iconst (v := 0) hx hb dX7_axleLoad_16 (by decide) ?_
  refine lv_istore (lv' := [(4, .int 0), (3, .int ((ga (C (64 + (x1).toNatClampNeg)) ((2 : Int32)).toNatClampNeg) + (ga (C 13) ((0 : Int32)).toNatClampNeg))), (0, .ref (a 0)), (1, .int x1), (2, .int x2)]) hx hb dX7_axleLoad_17 hl (by decide) rfl (fun ls hl => ?_)
  have L_19 : ∀ (d : Nat) (z19_4 : Int32) (z19_3 : Int32) (ls : Array Slot), (5 - z19_4.toInt).toNat = d → rg z19_4 0 5 → lv_has ls 5 [(4, .int z19_4), (3, .int z19_3), (0, .ref (a 0)), (1, .int x1), (2, .int x2)] → W p l e ({ frames := 0, cells := 0, slots := 0, locals := 0 }) s m (([.ref (a 0), .int x1, .int x2] : List Value).toArray) below meth c s.heap [] 0 0 Q (F0 m 19 ls []) := by
    intro d
    induction d using Nat.strongRecOn with
    | ind d ih_19 =>
    intro z19_4 z19_3 ls hd_19 hz19_4 hl
    refine lv_iload hx hb dX7_axleLoad_19 (lv_at hl 0 rfl) ?_
    refine lv_aload_n hx hb dX7_axleLoad_21 rfl (lv_at hl 2 rfl) ?_
    refine va_get (D := D) (ci := 7) (v := .int (gi (C 0) 15)) (C := RX7) (T := TX7) (N := 29) hx hb htg ig_7 hown hK hP 0 (oh_wg (Nat.lt_of_lt_of_le (by decide) hn) (sM_0 hT)) rfl 15 (by decide) (htg _ q_988) (fun _ h9 => h9) rfl dX7_axleLoad_22 ?_
    refine lv_icmp_ge (tgt := 59) hx hb dX7_axleLoad_25 (by decide) (fun (c_3 : (gi (C 0) 15) ≤ z19_4) => ?_) (fun (c_3 : ¬ ((gi (C 0) 15) ≤ z19_4)) => ?_)
    · refine lv_iload_n hx hb dX7_axleLoad_59 rfl (lv_at hl 1 rfl) ?_
      refine lv_if_ge (tgt := 67) hx hb dX7_axleLoad_60 (by decide) (fun (c_4 : (0 : Int32) ≤ z19_3) => ?_) (fun (c_4 : ¬ ((0 : Int32) ≤ z19_3)) => ?_)
      · refine lv_iload_n hx hb dX7_axleLoad_67 rfl (lv_at hl 1 rfl) ?_
        refine lv_istore_n (lv' := [(3, .int z19_3), (4, .int z19_4), (0, .ref (a 0)), (1, .int x1), (2, .int x2)]) hx hb dX7_axleLoad_68 rfl hl (by decide) rfl (fun ls hl => ?_)
        refine lv_iload_n hx hb dX7_axleLoad_69 rfl (lv_at hl 0 rfl) ?_
        refine lv_aload_n hx hb dX7_axleLoad_70 rfl (lv_at hl 2 rfl) ?_
        refine va_get (D := D) (ci := 7) (v := .ref (a 11)) (C := RX7) (T := TX7) (N := 29) hx hb htg ig_7 hown hK hP 0 (oh_wg (Nat.lt_of_lt_of_le (by decide) hn) (sM_0 hT)) rfl 14 (by decide) (htg _ q_987) (fun _ h9 => h9) rfl dX7_axleLoad_71 ?_
        refine lv_iload_n hx hb dX7_axleLoad_74 rfl (lv_at hl 3 rfl) ?_
        have n_5 : vp_in x1 5 := (rg_in hx1 (by decide))
        have b_6 : (x1).toNatClampNeg < 5 := vp_lt n_5
        refine th_aald hx hb hK hP 11 2 (Nat.lt_of_lt_of_le (by decide) hn) (sM_11 hT) rfl n_5 dX7_axleLoad_75 ?_
        refine lv_iconst (v := 0) hx hb dX7_axleLoad_76 (by decide) ?_
        refine th_iald hx hb hK hP (64 + (x1).toNatClampNeg) (lt_blk b_6 hn (by decide)) (hT.bwaggon b_6).1 (rg_in (rg_c (v := 0) (lo := 0) (hi := 0) (by decide)) (by decide)) dX7_axleLoad_77 ?_
        refine lv_iadd hx hb dX7_axleLoad_78 ?_
        refine lv_iconst (v := 1) hx hb dX7_axleLoad_79 (by decide) ?_
        refine lv_isub hx hb dX7_axleLoad_80 ?_
        refine lv_aload_n hx hb dX7_axleLoad_81 rfl (lv_at hl 2 rfl) ?_
        refine va_get (D := D) (ci := 7) (v := .ref (a 11)) (C := RX7) (T := TX7) (N := 29) hx hb htg ig_7 hown hK hP 0 (oh_wg (Nat.lt_of_lt_of_le (by decide) hn) (sM_0 hT)) rfl 14 (by decide) (htg _ q_987) (fun _ h9 => h9) rfl dX7_axleLoad_82 ?_
        refine lv_iload_n hx hb dX7_axleLoad_85 rfl (lv_at hl 3 rfl) ?_
        have n_7 : vp_in x1 5 := (rg_in hx1 (by decide))
        have b_8 : (x1).toNatClampNeg < 5 := vp_lt n_7
        refine th_aald hx hb hK hP 11 2 (Nat.lt_of_lt_of_le (by decide) hn) (sM_11 hT) rfl n_7 dX7_axleLoad_86 ?_
        refine lv_iconst (v := 0) hx hb dX7_axleLoad_87 (by decide) ?_
        refine th_iald hx hb hK hP (64 + (x1).toNatClampNeg) (lt_blk b_8 hn (by decide)) (hT.bwaggon b_8).1 (rg_in (rg_c (v := 0) (lo := 0) (hi := 0) (by decide)) (by decide)) dX7_axleLoad_88 ?_
        refine lv_idiv hx hb dX7_axleLoad_89 (rg_ne0 (oh_pos0 hw) (by decide)) ?_
        rw [hQ]
        exact W.iret (v := ((z19_3 + (ga (C (64 + (x1).toNatClampNeg)) ((0 : Int32)).toNatClampNeg)) - 1) / (ga (C (64 + (x1).toNatClampNeg)) ((0 : Int32)).toNatClampNeg)) hx hb hr (fun t ht hW => ⟨((z19_3 + (ga (C (64 + (x1).toNatClampNeg)) ((0 : Int32)).toNatClampNeg)) - 1) / (ga (C (64 + (x1).toNatClampNeg)) ((0 : Int32)).toNatClampNeg), rfl, trivial, ht⟩) (fun q h => by cases h) dX7_axleLoad_90
      · refine lv_iconst (v := 0) hx hb dX7_axleLoad_63 (by decide) ?_
        refine lv_goto (tgt := 68) hx hb dX7_axleLoad_64 (by decide) ?_
        refine lv_istore_n (lv' := [(3, .int 0), (4, .int z19_4), (0, .ref (a 0)), (1, .int x1), (2, .int x2)]) hx hb dX7_axleLoad_68 rfl hl (by decide) rfl (fun ls hl => ?_)
        refine lv_iload_n hx hb dX7_axleLoad_69 rfl (lv_at hl 0 rfl) ?_
        refine lv_aload_n hx hb dX7_axleLoad_70 rfl (lv_at hl 2 rfl) ?_
        refine va_get (D := D) (ci := 7) (v := .ref (a 11)) (C := RX7) (T := TX7) (N := 29) hx hb htg ig_7 hown hK hP 0 (oh_wg (Nat.lt_of_lt_of_le (by decide) hn) (sM_0 hT)) rfl 14 (by decide) (htg _ q_987) (fun _ h9 => h9) rfl dX7_axleLoad_71 ?_
        refine lv_iload_n hx hb dX7_axleLoad_74 rfl (lv_at hl 3 rfl) ?_
        have n_9 : vp_in x1 5 := (rg_in hx1 (by decide))
        have b_10 : (x1).toNatClampNeg < 5 := vp_lt n_9
        refine th_aald hx hb hK hP 11 2 (Nat.lt_of_lt_of_le (by decide) hn) (sM_11 hT) rfl n_9 dX7_axleLoad_75 ?_
        refine lv_iconst (v := 0) hx hb dX7_axleLoad_76 (by decide) ?_
        refine th_iald hx hb hK hP (64 + (x1).toNatClampNeg) (lt_blk b_10 hn (by decide)) (hT.bwaggon b_10).1 (rg_in (rg_c (v := 0) (lo := 0) (hi := 0) (by decide)) (by decide)) dX7_axleLoad_77 ?_
        refine lv_iadd hx hb dX7_axleLoad_78 ?_
        refine lv_iconst (v := 1) hx hb dX7_axleLoad_79 (by decide) ?_
        refine lv_isub hx hb dX7_axleLoad_80 ?_
        refine lv_aload_n hx hb dX7_axleLoad_81 rfl (lv_at hl 2 rfl) ?_
        refine va_get (D := D) (ci := 7) (v := .ref (a 11)) (C := RX7) (T := TX7) (N := 29) hx hb htg ig_7 hown hK hP 0 (oh_wg (Nat.lt_of_lt_of_le (by decide) hn) (sM_0 hT)) rfl 14 (by decide) (htg _ q_987) (fun _ h9 => h9) rfl dX7_axleLoad_82 ?_
        refine lv_iload_n hx hb dX7_axleLoad_85 rfl (lv_at hl 3 rfl) ?_
        have n_11 : vp_in x1 5 := (rg_in hx1 (by decide))
        have b_12 : (x1).toNatClampNeg < 5 := vp_lt n_11
        refine th_aald hx hb hK hP 11 2 (Nat.lt_of_lt_of_le (by decide) hn) (sM_11 hT) rfl n_11 dX7_axleLoad_86 ?_
        refine lv_iconst (v := 0) hx hb dX7_axleLoad_87 (by decide) ?_
        refine th_iald hx hb hK hP (64 + (x1).toNatClampNeg) (lt_blk b_12 hn (by decide)) (hT.bwaggon b_12).1 (rg_in (rg_c (v := 0) (lo := 0) (hi := 0) (by decide)) (by decide)) dX7_axleLoad_88 ?_
        refine lv_idiv hx hb dX7_axleLoad_89 (rg_ne0 (oh_pos0 hw) (by decide)) ?_
        rw [hQ]
        exact W.iret (v := ((0 + (ga (C (64 + (x1).toNatClampNeg)) ((0 : Int32)).toNatClampNeg)) - 1) / (ga (C (64 + (x1).toNatClampNeg)) ((0 : Int32)).toNatClampNeg)) hx hb hr (fun t ht hW => ⟨((0 + (ga (C (64 + (x1).toNatClampNeg)) ((0 : Int32)).toNatClampNeg)) - 1) / (ga (C (64 + (x1).toNatClampNeg)) ((0 : Int32)).toNatClampNeg), rfl, trivial, ht⟩) (fun q h => by cases h) dX7_axleLoad_90
    · refine lv_iload_n hx hb dX7_axleLoad_28 rfl (lv_at hl 1 rfl) ?_
      refine lv_iload_n hx hb dX7_axleLoad_29 rfl (lv_at hl 4 rfl) ?_
      refine lv_iload hx hb dX7_axleLoad_30 (lv_at hl 0 rfl) ?_
      refine lv_ishr hx hb dX7_axleLoad_32 ?_
      refine lv_iconst (v := 1) hx hb dX7_axleLoad_33 (by decide) ?_
      refine lv_iand hx hb dX7_axleLoad_34 ?_
      refine lv_if_eq (tgt := 50) hx hb dX7_axleLoad_35 (by decide) (fun (c_13 : ((x2 >>> (z19_4 &&& 31)) &&& 1) = 0) => ?_) (fun (c_13 : ¬ (((x2 >>> (z19_4 &&& 31)) &&& 1) = 0)) => ?_)
      · refine lv_iconst (v := 0) hx hb dX7_axleLoad_50 (by decide) ?_
        refine lv_isub hx hb dX7_axleLoad_51 ?_
        refine lv_istore_n (lv' := [(3, .int (z19_3 - 0)), (4, .int z19_4), (0, .ref (a 0)), (1, .int x1), (2, .int x2)]) hx hb dX7_axleLoad_52 rfl hl (by decide) rfl (fun ls hl => ?_)
        refine lv_iinc (v := z19_4 + 1) (lv' := [(4, .int (z19_4 + 1)), (3, .int (z19_3 - 0)), (0, .ref (a 0)), (1, .int x1), (2, .int x2)]) hx hb dX7_axleLoad_53 hl (k := 1) rfl (by rfl) (by decide) rfl (fun ls hl => ?_)
        refine lv_goto (tgt := 19) hx hb dX7_axleLoad_56 (by decide) ?_
        exact ih_19 _ (hd_19 ▸ mu_up 5 (rn_ltu (u' := 4) (Int32.not_le.mp c_3) hz19_4 (fM_0_15 hT0) (by decide)) (by decide)) (z19_4 + 1) (z19_3 - 0) ls rfl (rg_w (rg_add (lo := 1) (hi := 5) (rn_ltu (u' := 4) (Int32.not_le.mp c_3) hz19_4 (fM_0_15 hT0) (by decide)) (rg_c (v := 1) (lo := 1) (hi := 1) (by decide)) (by decide)) (by decide)) (lv_sub hl [0, 1, 2, 3, 4] rfl)
      · refine lv_aload_n hx hb dX7_axleLoad_38 rfl (lv_at hl 2 rfl) ?_
        refine va_get (D := D) (ci := 7) (v := .ref (a 12)) (C := RX7) (T := TX7) (N := 29) hx hb htg ig_7 hown hK hP 0 (oh_wg (Nat.lt_of_lt_of_le (by decide) hn) (sM_0 hT)) rfl 16 (by decide) (htg _ q_989) (fun _ h9 => h9) rfl dX7_axleLoad_39 ?_
        refine lv_iload hx hb dX7_axleLoad_42 (lv_at hl 0 rfl) ?_
        have n_14 : vp_in z19_4 5 := (rg_in (rn_ltu (u' := 4) (Int32.not_le.mp c_3) hz19_4 (fM_0_15 hT0) (by decide)) (by decide))
        have b_15 : (z19_4).toNatClampNeg < 5 := vp_lt n_14
        refine th_aald hx hb hK hP 12 2 (Nat.lt_of_lt_of_le (by decide) hn) (sM_12 hT) rfl n_14 dX7_axleLoad_44 ?_
        refine lv_iconst (v := 0) hx hb dX7_axleLoad_45 (by decide) ?_
        refine th_iald hx hb hK hP (69 + (z19_4).toNatClampNeg) (lt_blk b_15 hn (by decide)) (hT.bpart b_15).1 (rg_in (rg_c (v := 0) (lo := 0) (hi := 0) (by decide)) (by decide)) dX7_axleLoad_46 ?_
        refine lv_goto (tgt := 51) hx hb dX7_axleLoad_47 (by decide) ?_
        refine lv_isub hx hb dX7_axleLoad_51 ?_
        refine lv_istore_n (lv' := [(3, .int (z19_3 - (ga (C (69 + (z19_4).toNatClampNeg)) ((0 : Int32)).toNatClampNeg))), (4, .int z19_4), (0, .ref (a 0)), (1, .int x1), (2, .int x2)]) hx hb dX7_axleLoad_52 rfl hl (by decide) rfl (fun ls hl => ?_)
        refine lv_iinc (v := z19_4 + 1) (lv' := [(4, .int (z19_4 + 1)), (3, .int (z19_3 - (ga (C (69 + (z19_4).toNatClampNeg)) ((0 : Int32)).toNatClampNeg))), (0, .ref (a 0)), (1, .int x1), (2, .int x2)]) hx hb dX7_axleLoad_53 hl (k := 1) rfl (by rfl) (by decide) rfl (fun ls hl => ?_)
        refine lv_goto (tgt := 19) hx hb dX7_axleLoad_56 (by decide) ?_
        exact ih_19 _ (hd_19 ▸ mu_up 5 (rn_ltu (u' := 4) (Int32.not_le.mp c_3) hz19_4 (fM_0_15 hT0) (by decide)) (by decide)) (z19_4 + 1) (z19_3 - (ga (C (69 + (z19_4).toNatClampNeg)) ((0 : Int32)).toNatClampNeg)) ls rfl (rg_w (rg_add (lo := 1) (hi := 5) (rn_ltu (u' := 4) (Int32.not_le.mp c_3) hz19_4 (fM_0_15 hT0) (by decide)) (rg_c (v := 1) (lo := 1) (hi := 1) (by decide)) (by decide)) (by decide)) (lv_sub hl [0, 1, 2, 3, 4] rfl)
  exact L_19 _ 0 ((ga (C (64 + (x1).toNatClampNeg)) ((2 : Int32)).toNatClampNeg) + (ga (C 13) ((0 : Int32)).toNatClampNeg)) ls rfl (rg_w (rg_c (v := 0) (lo := 0) (hi := 0) (by decide)) (by decide)) (lv_sub hl [0, 1, 2, 3, 4] rfl)

set_option maxHeartbeats 4000000 in
set_option maxRecDepth 100000 in
theorem c_X7_strainOf (l : Launch) (D : va_G) (E : Nat → ClassId) (G : Nat → Nat) (a : Nat → Nat) (C : Nat → va_E) (n : Nat) (hn : 74 ≤ n) (hT : TyM a E C) (x1 : Int32) (x2 : Int32) (x3 : Int32) (hx1 : rg x1 0 4) (hx3 : rg x3 0 15) (hw : oh_pos C x1) : Met l yX7_strainOf (oh_w yX7_strainOf cX7_strainOf 5 (some .int)) ({ frames := 1, cells := 0, slots := 0, locals := 24 }) (oh_Pp D E G [.ref (a 0), .int x1, .int x2, .int x3] (oh_W n a C)) (vp_Si (fun r => True)) 0 0 (fun _ => False) := by
  refine Met.ofW (cc := cX7_strainOf) (maxL := 5) (ret := (some .int)) (by decide) rfl ?_
  intro p e s m args below meth c s₁ B hml hv
  obtain ⟨rfl, hP, hK, hG⟩ := hv
  have hx := B.exec
  have hb := B.bytes
  have hr := B.returns
  have hts := atoms_spec (ws := (oh_w yX7_strainOf cX7_strainOf 5 (some .int))) B.pre
  have htg : ∀ w ∈ oh_t, w.before _ s = true := fun w h => hts w (List.mem_cons_of_mem _ h)
  have hown : s.vm.findClass RX7 = some m.cls := findClass_of_methodNamed B.named
  have hlocks := B.notSynchronized
  have hT0 := hT
  have hS : va_S (fun _ => False) s.heap s.heap [] := va_S.rf
  have hl := lv_entry ([.ref (a 0), .int x1, .int x2, .int x3]) (n := 5) (Nat.le_of_ble_eq_true rfl)
  rw [lg_entry_eq]
  generalize (lg_sl ([.ref (a 0), .int x1, .int x2, .int x3]) ++ List.replicate (5 - (lg_sl ([.ref (a 0), .int x1, .int x2, .int x3])).length) Slot.unset).toArray = ls at hl ⊢
  have hl : lv_has ls 5 [(0, .ref (a 0)), (1, .int x1), (2, .int x2), (3, .int x3)] := hl
  refine oh_genQ (fun Q hQ => ?_)
  refine lv_aload_n hx hb dX7_strainOf_0 rfl (lv_at hl 0 rfl) ?_
  refine va_get (D := D) (ci := 7) (v := .ref (a 10)) (C := RX7) (T := TX7) (N := 29) hx hb htg ig_7 hown hK hP 0 (oh_wg (Nat.lt_of_lt_of_le (by decide) hn) (sM_0 hT)) rfl 12 (by decide) (htg _ q_985) (fun _ h9 => h9) rfl dX7_strainOf_1 ?_
  refine lv_iload_n hx hb dX7_strainOf_4 rfl (lv_at hl 3 rfl) ?_
  have n_1 : vp_in x3 16 := (rg_in hx3 (by decide))
  have b_2 : (x3).toNatClampNeg < 16 := vp_lt n_1
  refine th_aald hx hb hK hP 10 2 (Nat.lt_of_lt_of_le (by decide) hn) (sM_10 hT) rfl n_1 dX7_strainOf_5 ?_
  refine lv_iconst (v := 2) hx hb dX7_strainOf_6 (by decide) ?_
  refine th_iald hx hb hK hP (48 + (x3).toNatClampNeg) (lt_blk b_2 hn (by decide)) (hT.bbridge b_2).1 (rg_in (rg_c (v := 2) (lo := 2) (hi := 2) (by decide)) (by decide)) dX7_strainOf_7 ?_
  refine lv_aload_n hx hb dX7_strainOf_8 rfl (lv_at hl 0 rfl) ?_
  refine va_get (D := D) (ci := 7) (v := .ref (a 11)) (C := RX7) (T := TX7) (N := 29) hx hb htg ig_7 hown hK hP 0 (oh_wg (Nat.lt_of_lt_of_le (by decide) hn) (sM_0 hT)) rfl 14 (by decide) (htg _ q_987) (fun _ h9 => h9) rfl dX7_strainOf_9 ?_
  refine lv_iload_n hx hb dX7_strainOf_12 rfl (lv_at hl 1 rfl) ?_
  have n_3 : vp_in x1 5 := (rg_in hx1 (by decide))
  have b_4 : (x1).toNatClampNeg < 5 := vp_lt n_3
  refine th_aald hx hb hK hP 11 2 (Nat.lt_of_lt_of_le (by decide) hn) (sM_11 hT) rfl n_3 dX7_strainOf_13 ?_
  refine lv_iconst (v := 1) hx hb dX7_strainOf_14 (by decide) ?_
  refine th_iald hx hb hK hP (64 + (x1).toNatClampNeg) (lt_blk b_4 hn (by decide)) (hT.bwaggon b_4).1 (rg_in (rg_c (v := 1) (lo := 1) (hi := 1) (by decide)) (by decide)) dX7_strainOf_15 ?_
  refine lv_idiv hx hb dX7_strainOf_16 (rg_ne0 (oh_pos1 hw) (by decide)) ?_
  refine lv_iconst (v := 1) hx hb dX7_strainOf_17 (by decide) ?_
  refine lv_iadd hx hb dX7_strainOf_18 ?_
  refine lv_istore (lv' := [(4, .int (((ga (C (48 + (x3).toNatClampNeg)) ((2 : Int32)).toNatClampNeg) / (ga (C (64 + (x1).toNatClampNeg)) ((1 : Int32)).toNatClampNeg)) + 1)), (0, .ref (a 0)), (1, .int x1), (2, .int x2), (3, .int x3)]) hx hb dX7_strainOf_19 hl (by decide) rfl (fun ls hl => ?_)
  refine lv_iload hx hb dX7_strainOf_21 (lv_at hl 0 rfl) ?_
  refine lv_aload_n hx hb dX7_strainOf_23 rfl (lv_at hl 1 rfl) ?_
  refine va_get (D := D) (ci := 7) (v := .ref (a 11)) (C := RX7) (T := TX7) (N := 29) hx hb htg ig_7 hown hK hP 0 (oh_wg (Nat.lt_of_lt_of_le (by decide) hn) (sM_0 hT)) rfl 14 (by decide) (htg _ q_987) (fun _ h9 => h9) rfl dX7_strainOf_24 ?_
  refine lv_iload_n hx hb dX7_strainOf_27 rfl (lv_at hl 2 rfl) ?_
  have n_5 : vp_in x1 5 := (rg_in hx1 (by decide))
  have b_6 : (x1).toNatClampNeg < 5 := vp_lt n_5
  refine th_aald hx hb hK hP 11 2 (Nat.lt_of_lt_of_le (by decide) hn) (sM_11 hT) rfl n_5 dX7_strainOf_28 ?_
  refine lv_iconst (v := 0) hx hb dX7_strainOf_29 (by decide) ?_
  refine th_iald hx hb hK hP (64 + (x1).toNatClampNeg) (lt_blk b_6 hn (by decide)) (hT.bwaggon b_6).1 (rg_in (rg_c (v := 0) (lo := 0) (hi := 0) (by decide)) (by decide)) dX7_strainOf_30 ?_
  refine lv_icmp_le (tgt := 45) hx hb dX7_strainOf_31 (by decide) (fun (c_7 : (((ga (C (48 + (x3).toNatClampNeg)) ((2 : Int32)).toNatClampNeg) / (ga (C (64 + (x1).toNatClampNeg)) ((1 : Int32)).toNatClampNeg)) + 1) ≤ (ga (C (64 + (x1).toNatClampNeg)) ((0 : Int32)).toNatClampNeg)) => ?_) (fun (c_7 : ¬ ((((ga (C (48 + (x3).toNatClampNeg)) ((2 : Int32)).toNatClampNeg) / (ga (C (64 + (x1).toNatClampNeg)) ((1 : Int32)).toNatClampNeg)) + 1) ≤ (ga (C (64 + (x1).toNatClampNeg)) ((0 : Int32)).toNatClampNeg))) => ?_)
  · refine lv_iload hx hb dX7_strainOf_45 (lv_at hl 0 rfl) ?_
    refine lv_istore (lv' := [(4, .int (((ga (C (48 + (x3).toNatClampNeg)) ((2 : Int32)).toNatClampNeg) / (ga (C (64 + (x1).toNatClampNeg)) ((1 : Int32)).toNatClampNeg)) + 1)), (0, .ref (a 0)), (1, .int x1), (2, .int x2), (3, .int x3)]) hx hb dX7_strainOf_47 hl (by decide) rfl (fun ls hl => ?_)
    refine lv_iload hx hb dX7_strainOf_49 (lv_at hl 0 rfl) ?_
    refine lv_aload_n hx hb dX7_strainOf_51 rfl (lv_at hl 1 rfl) ?_
    refine lv_iload_n hx hb dX7_strainOf_52 rfl (lv_at hl 2 rfl) ?_
    refine lv_iload_n hx hb dX7_strainOf_53 rfl (lv_at hl 3 rfl) ?_
    refine tq_V (As := [.int x1, .int x2]) (rest := [.int (((ga (C (48 + (x3).toNatClampNeg)) ((2 : Int32)).toNatClampNeg) / (ga (C (64 + (x1).toNatClampNeg)) ((1 : Int32)).toNatClampNeg)) + 1)]) (ws := (oh_W n a C)) ⟨hx, hb, hml, hown, htg⟩ (c_X7_axleLoad l D E G a C n hn hT x1 x2 (rg_w hx1 (by decide)) hw) (cwV 2 htg (oh_gV q_1294 q_1296 q_51 q_73 q_1297) rfl rfl rfl pdVX7_axleLoad ⟨Nat.le_of_ble_eq_true rfl, Nat.le_of_ble_eq_true rfl⟩) hK hP hG hS (va_recv hK hP (ci := 7) (q0 := 0) rfl (oh_wg (Nat.lt_of_lt_of_le (by decide) hn) (sM_0 hT))) rfl hl.1 rfl (Nat.le_of_ble_eq_true rfl) dX7_strainOf_54 ⟨Nat.le_of_ble_eq_true rfl, Nat.le_of_ble_eq_true rfl⟩ (fun r_8 hq_9 => ?_)
    refine lv_imul hx hb dX7_strainOf_57 ?_
    rw [hQ]
    exact W.iret (v := (((ga (C (48 + (x3).toNatClampNeg)) ((2 : Int32)).toNatClampNeg) / (ga (C (64 + (x1).toNatClampNeg)) ((1 : Int32)).toNatClampNeg)) + 1) * r_8) hx hb hr (fun t ht hW => ⟨(((ga (C (48 + (x3).toNatClampNeg)) ((2 : Int32)).toNatClampNeg) / (ga (C (64 + (x1).toNatClampNeg)) ((1 : Int32)).toNatClampNeg)) + 1) * r_8, rfl, trivial, ht⟩) (fun q h => by cases h) dX7_strainOf_58
  · refine lv_aload_n hx hb dX7_strainOf_34 rfl (lv_at hl 1 rfl) ?_
    refine va_get (D := D) (ci := 7) (v := .ref (a 11)) (C := RX7) (T := TX7) (N := 29) hx hb htg ig_7 hown hK hP 0 (oh_wg (Nat.lt_of_lt_of_le (by decide) hn) (sM_0 hT)) rfl 14 (by decide) (htg _ q_987) (fun _ h9 => h9) rfl dX7_strainOf_35 ?_
    refine lv_iload_n hx hb dX7_strainOf_38 rfl (lv_at hl 2 rfl) ?_
    have n_10 : vp_in x1 5 := (rg_in hx1 (by decide))
    have b_11 : (x1).toNatClampNeg < 5 := vp_lt n_10
    refine th_aald hx hb hK hP 11 2 (Nat.lt_of_lt_of_le (by decide) hn) (sM_11 hT) rfl n_10 dX7_strainOf_39 ?_
    refine lv_iconst (v := 0) hx hb dX7_strainOf_40 (by decide) ?_
    refine th_iald hx hb hK hP (64 + (x1).toNatClampNeg) (lt_blk b_11 hn (by decide)) (hT.bwaggon b_11).1 (rg_in (rg_c (v := 0) (lo := 0) (hi := 0) (by decide)) (by decide)) dX7_strainOf_41 ?_
    refine lv_goto (tgt := 47) hx hb dX7_strainOf_42 (by decide) ?_
    refine lv_istore (lv' := [(4, .int (ga (C (64 + (x1).toNatClampNeg)) ((0 : Int32)).toNatClampNeg)), (0, .ref (a 0)), (1, .int x1), (2, .int x2), (3, .int x3)]) hx hb dX7_strainOf_47 hl (by decide) rfl (fun ls hl => ?_)
    refine lv_iload hx hb dX7_strainOf_49 (lv_at hl 0 rfl) ?_
    refine lv_aload_n hx hb dX7_strainOf_51 rfl (lv_at hl 1 rfl) ?_
    refine lv_iload_n hx hb dX7_strainOf_52 rfl (lv_at hl 2 rfl) ?_
    refine lv_iload_n hx hb dX7_strainOf_53 rfl (lv_at hl 3 rfl) ?_
    refine tq_V (As := [.int x1, .int x2]) (rest := [.int (ga (C (64 + (x1).toNatClampNeg)) ((0 : Int32)).toNatClampNeg)]) (ws := (oh_W n a C)) ⟨hx, hb, hml, hown, htg⟩ (c_X7_axleLoad l D E G a C n hn hT x1 x2 (rg_w hx1 (by decide)) hw) (cwV 2 htg (oh_gV q_1294 q_1296 q_51 q_73 q_1297) rfl rfl rfl pdVX7_axleLoad ⟨Nat.le_of_ble_eq_true rfl, Nat.le_of_ble_eq_true rfl⟩) hK hP hG hS (va_recv hK hP (ci := 7) (q0 := 0) rfl (oh_wg (Nat.lt_of_lt_of_le (by decide) hn) (sM_0 hT))) rfl hl.1 rfl (Nat.le_of_ble_eq_true rfl) dX7_strainOf_54 ⟨Nat.le_of_ble_eq_true rfl, Nat.le_of_ble_eq_true rfl⟩ (fun r_12 hq_13 => ?_)
    refine lv_imul hx hb dX7_strainOf_57 ?_
    rw [hQ]
    exact W.iret (v := (ga (C (64 + (x1).toNatClampNeg)) ((0 : Int32)).toNatClampNeg) * r_12) hx hb hr (fun t ht hW => ⟨(ga (C (64 + (x1).toNatClampNeg)) ((0 : Int32)).toNatClampNeg) * r_12, rfl, trivial, ht⟩) (fun q h => by cases h) dX7_strainOf_58

set_option maxHeartbeats 4000000 in
set_option maxRecDepth 100000 in
theorem c_X7_needsOf (l : Launch) (D : va_G) (E : Nat → ClassId) (G : Nat → Nat) (a : Nat → Nat) (C : Nat → va_E) (n : Nat) (hn : 74 ≤ n) (hT : TyM a E C) (x1 : Int32) (x2 : Int32) (x3 : Int32) (hx1 : rg x1 0 4) (hx3 : rg x3 0 15) (hw : oh_pos C x1) : Met l yX7_needsOf (oh_w yX7_needsOf cX7_needsOf 6 (some .int)) ({ frames := 2, cells := 0, slots := 0, locals := 48 }) (oh_Pp D E G [.ref (a 0), .int x1, .int x2, .int x3] (oh_W n a C)) (vp_Si (fun r => True)) 0 0 (fun _ => False) := by
  refine Met.ofW (cc := cX7_needsOf) (maxL := 6) (ret := (some .int)) (by decide) rfl ?_
  intro p e s m args below meth c s₁ B hml hv
  obtain ⟨rfl, hP, hK, hG⟩ := hv
  have hx := B.exec
  have hb := B.bytes
  have hr := B.returns
  have hts := atoms_spec (ws := (oh_w yX7_needsOf cX7_needsOf 6 (some .int))) B.pre
  have htg : ∀ w ∈ oh_t, w.before _ s = true := fun w h => hts w (List.mem_cons_of_mem _ h)
  have hown : s.vm.findClass RX7 = some m.cls := findClass_of_methodNamed B.named
  have hlocks := B.notSynchronized
  have hT0 := hT
  have hS : va_S (fun _ => False) s.heap s.heap [] := va_S.rf
  have hl := lv_entry ([.ref (a 0), .int x1, .int x2, .int x3]) (n := 6) (Nat.le_of_ble_eq_true rfl)
  rw [lg_entry_eq]
  generalize (lg_sl ([.ref (a 0), .int x1, .int x2, .int x3]) ++ List.replicate (6 - (lg_sl ([.ref (a 0), .int x1, .int x2, .int x3])).length) Slot.unset).toArray = ls at hl ⊢
  have hl : lv_has ls 6 [(0, .ref (a 0)), (1, .int x1), (2, .int x2), (3, .int x3)] := hl
  refine oh_genQ (fun Q hQ => ?_)
  refine lv_aload_n hx hb dX7_needsOf_0 rfl (lv_at hl 0 rfl) ?_
  refine lv_iload_n hx hb dX7_needsOf_1 rfl (lv_at hl 1 rfl) ?_
  refine lv_iload_n hx hb dX7_needsOf_2 rfl (lv_at hl 2 rfl) ?_
  refine tq_V (As := [.int x1, .int x2]) (rest := []) (ws := (oh_W n a C)) ⟨hx, hb, hml, hown, htg⟩ (c_X7_axleLoad l D E G a C n hn hT x1 x2 (rg_w hx1 (by decide)) hw) (cwV 2 htg (oh_gV q_1294 q_1296 q_51 q_73 q_1297) rfl rfl rfl pdVX7_axleLoad ⟨Nat.le_of_ble_eq_true rfl, Nat.le_of_ble_eq_true rfl⟩) hK hP hG hS (va_recv hK hP (ci := 7) (q0 := 0) rfl (oh_wg (Nat.lt_of_lt_of_le (by decide) hn) (sM_0 hT))) rfl hl.1 rfl (Nat.le_of_ble_eq_true rfl) dX7_needsOf_3 ⟨Nat.le_of_ble_eq_true rfl, Nat.le_of_ble_eq_true rfl⟩ (fun r_1 hq_2 => ?_)
  refine lv_aload_n hx hb dX7_needsOf_6 rfl (lv_at hl 0 rfl) ?_
  refine lv_iload_n hx hb dX7_needsOf_7 rfl (lv_at hl 3 rfl) ?_
  refine tq_V (As := [.int x3]) (rest := [.int r_1]) (ws := (oh_W n a C)) ⟨hx, hb, hml, hown, htg⟩ (c_X7_axleOf l D E G a C n hn hT x3 (rg_w hx3 (by decide))) (cwV 1 htg (oh_gV q_1110 q_1112 q_31 q_73 q_1113) rfl rfl rfl pdVX7_axleOf ⟨Nat.le_of_ble_eq_true rfl, Nat.le_of_ble_eq_true rfl⟩) hK hP hG hS (va_recv hK hP (ci := 7) (q0 := 0) rfl (oh_wg (Nat.lt_of_lt_of_le (by decide) hn) (sM_0 hT))) rfl hl.1 rfl (Nat.le_of_ble_eq_true rfl) dX7_needsOf_8 ⟨Nat.le_of_ble_eq_true rfl, Nat.le_of_ble_eq_true rfl⟩ (fun r_3 hq_4 => ?_)
  refine lv_icmp_le (tgt := 16) hx hb dX7_needsOf_11 (by decide) (fun (c_5 : r_1 ≤ r_3) => ?_) (fun (c_5 : ¬ (r_1 ≤ r_3)) => ?_)
  · refine lv_aload_n hx hb dX7_needsOf_16 rfl (lv_at hl 0 rfl) ?_
    refine lv_iload_n hx hb dX7_needsOf_17 rfl (lv_at hl 1 rfl) ?_
    refine lv_iload_n hx hb dX7_needsOf_18 rfl (lv_at hl 2 rfl) ?_
    refine lv_iload_n hx hb dX7_needsOf_19 rfl (lv_at hl 3 rfl) ?_
    refine tq_V (As := [.int x1, .int x2, .int x3]) (rest := []) (ws := (oh_W n a C)) ⟨hx, hb, hml, hown, htg⟩ (c_X7_strainOf l D E G a C n hn hT x1 x2 x3 (rg_w hx1 (by decide)) (rg_w hx3 (by decide)) hw) (cwV 3 htg (oh_gV q_1302 q_1304 q_52 q_73 q_1305) rfl rfl rfl pdVX7_strainOf ⟨Nat.le_of_ble_eq_true rfl, Nat.le_of_ble_eq_true rfl⟩) hK hP hG hS (va_recv hK hP (ci := 7) (q0 := 0) rfl (oh_wg (Nat.lt_of_lt_of_le (by decide) hn) (sM_0 hT))) rfl hl.1 rfl (Nat.le_of_ble_eq_true rfl) dX7_needsOf_20 ⟨Nat.le_of_ble_eq_true rfl, Nat.le_of_ble_eq_true rfl⟩ (fun r_6 hq_7 => ?_)
    refine lv_istore (lv' := [(4, .int r_6), (0, .ref (a 0)), (1, .int x1), (2, .int x2), (3, .int x3)]) hx hb dX7_needsOf_23 hl (by decide) rfl (fun ls hl => ?_)
    refine lv_aload_n hx hb dX7_needsOf_25 rfl (lv_at hl 1 rfl) ?_
    refine va_get (D := D) (ci := 7) (v := .ref (a 10)) (C := RX7) (T := TX7) (N := 29) hx hb htg ig_7 hown hK hP 0 (oh_wg (Nat.lt_of_lt_of_le (by decide) hn) (sM_0 hT)) rfl 12 (by decide) (htg _ q_985) (fun _ h9 => h9) rfl dX7_needsOf_26 ?_
    refine lv_iload_n hx hb dX7_needsOf_29 rfl (lv_at hl 4 rfl) ?_
    have n_8 : vp_in x3 16 := (rg_in hx3 (by decide))
    have b_9 : (x3).toNatClampNeg < 16 := vp_lt n_8
    refine th_aald hx hb hK hP 10 2 (Nat.lt_of_lt_of_le (by decide) hn) (sM_10 hT) rfl n_8 dX7_needsOf_30 ?_
    refine lv_bipush (v := 7) hx hb dX7_needsOf_31 (by decide) ?_
    refine th_iald hx hb hK hP (48 + (x3).toNatClampNeg) (lt_blk b_9 hn (by decide)) (hT.bbridge b_9).1 (rg_in (rg_c (v := 7) (lo := 7) (hi := 7) (by decide)) (by decide)) dX7_needsOf_33 ?_
    refine lv_iconst (v := 1) hx hb dX7_needsOf_34 (by decide) ?_
    refine lv_icmp_ne (tgt := 42) hx hb dX7_needsOf_35 (by decide) (fun (c_10 : ¬ ((ga (C (48 + (x3).toNatClampNeg)) ((7 : Int32)).toNatClampNeg) = 1)) => ?_) (fun (c_10 : (ga (C (48 + (x3).toNatClampNeg)) ((7 : Int32)).toNatClampNeg) = 1) => ?_)
    · refine lv_iconst (v := 0) hx hb dX7_needsOf_42 (by decide) ?_
      refine lv_istore (lv' := [(5, .int 0), (4, .int r_6), (0, .ref (a 0)), (1, .int x1), (2, .int x2), (3, .int x3)]) hx hb dX7_needsOf_43 hl (by decide) rfl (fun ls hl => ?_)
      refine lv_iload hx hb dX7_needsOf_45 (lv_at hl 1 rfl) ?_
      refine lv_aload_n hx hb dX7_needsOf_47 rfl (lv_at hl 2 rfl) ?_
      refine lv_iload_n hx hb dX7_needsOf_48 rfl (lv_at hl 5 rfl) ?_
      refine lv_iload hx hb dX7_needsOf_49 (lv_at hl 0 rfl) ?_
      refine tq_V (As := [.int x3, .int 0]) (rest := [.int r_6]) (ws := (oh_W n a C)) ⟨hx, hb, hml, hown, htg⟩ (c_X7_allOf l D E G a C n hn hT x3 (0 : Int32) (rg_w hx3 (by decide)) (rg_w (rg_c (v := 0) (lo := 0) (hi := 0) (by decide)) (by decide))) (cwV 2 htg (oh_gV q_1122 q_1124 q_34 q_73 q_1125) rfl rfl rfl pdVX7_allOf ⟨Nat.le_of_ble_eq_true rfl, Nat.le_of_ble_eq_true rfl⟩) hK hP hG hS (va_recv hK hP (ci := 7) (q0 := 0) rfl (oh_wg (Nat.lt_of_lt_of_le (by decide) hn) (sM_0 hT))) rfl hl.1 rfl (Nat.le_of_ble_eq_true rfl) dX7_needsOf_51 ⟨Nat.le_of_ble_eq_true rfl, Nat.le_of_ble_eq_true rfl⟩ (fun r_11 hq_12 => ?_)
      refine lv_icmp_gt (tgt := 59) hx hb dX7_needsOf_54 (by decide) (fun (c_13 : r_11 < r_6) => ?_) (fun (c_13 : ¬ (r_11 < r_6)) => ?_)
      · refine lv_iload hx hb dX7_needsOf_59 (lv_at hl 0 rfl) ?_
        refine lv_if_ne (tgt := 91) hx hb dX7_needsOf_61 (by decide) (fun c => absurd (show (0 : Int32) = 0 from by decide) c) (fun _ => ?_)
        refine lv_aload_n hx hb dX7_needsOf_64 rfl (lv_at hl 2 rfl) ?_
        refine va_get (D := D) (ci := 7) (v := .ref (a 10)) (C := RX7) (T := TX7) (N := 29) hx hb htg ig_7 hown hK hP 0 (oh_wg (Nat.lt_of_lt_of_le (by decide) hn) (sM_0 hT)) rfl 12 (by decide) (htg _ q_985) (fun _ h9 => h9) rfl dX7_needsOf_65 ?_
        refine lv_iload_n hx hb dX7_needsOf_68 rfl (lv_at hl 5 rfl) ?_
        have n_14 : vp_in x3 16 := (rg_in hx3 (by decide))
        have b_15 : (x3).toNatClampNeg < 16 := vp_lt n_14
        refine th_aald hx hb hK hP 10 2 (Nat.lt_of_lt_of_le (by decide) hn) (sM_10 hT) rfl n_14 dX7_needsOf_69 ?_
        refine lv_iconst (v := 1) hx hb dX7_needsOf_70 (by decide) ?_
        refine th_iald hx hb hK hP (48 + (x3).toNatClampNeg) (lt_blk b_15 hn (by decide)) (hT.bbridge b_15).1 (rg_in (rg_c (v := 1) (lo := 1) (hi := 1) (by decide)) (by decide)) dX7_needsOf_71 ?_
        refine lv_iconst (v := 3) hx hb dX7_needsOf_72 (by decide) ?_
        refine lv_icmp_eq (tgt := 91) hx hb dX7_needsOf_73 (by decide) (fun (c_16 : (ga (C (48 + (x3).toNatClampNeg)) ((1 : Int32)).toNatClampNeg) = 3) => ?_) (fun (c_16 : ¬ ((ga (C (48 + (x3).toNatClampNeg)) ((1 : Int32)).toNatClampNeg) = 3)) => ?_)
        · refine lv_iconst (v := 2) hx hb dX7_needsOf_91 (by decide) ?_
          rw [hQ]
          exact W.iret (v := 2) hx hb hr (fun t ht hW => ⟨2, rfl, trivial, ht⟩) (fun q h => by cases h) dX7_needsOf_92
        · refine lv_iload hx hb dX7_needsOf_76 (lv_at hl 1 rfl) ?_
          refine lv_aload_n hx hb dX7_needsOf_78 rfl (lv_at hl 2 rfl) ?_
          refine lv_iload_n hx hb dX7_needsOf_79 rfl (lv_at hl 5 rfl) ?_
          refine lv_iconst (v := 1) hx hb dX7_needsOf_80 (by decide) ?_
          refine tq_V (As := [.int x3, .int 1]) (rest := [.int r_6]) (ws := (oh_W n a C)) ⟨hx, hb, hml, hown, htg⟩ (c_X7_allOf l D E G a C n hn hT x3 (1 : Int32) (rg_w hx3 (by decide)) (rg_w (rg_c (v := 1) (lo := 1) (hi := 1) (by decide)) (by decide))) (cwV 2 htg (oh_gV q_1122 q_1124 q_34 q_73 q_1125) rfl rfl rfl pdVX7_allOf ⟨Nat.le_of_ble_eq_true rfl, Nat.le_of_ble_eq_true rfl⟩) hK hP hG hS (va_recv hK hP (ci := 7) (q0 := 0) rfl (oh_wg (Nat.lt_of_lt_of_le (by decide) hn) (sM_0 hT))) rfl hl.1 rfl (Nat.le_of_ble_eq_true rfl) dX7_needsOf_81 ⟨Nat.le_of_ble_eq_true rfl, Nat.le_of_ble_eq_true rfl⟩ (fun r_17 hq_18 => ?_)
          refine lv_icmp_gt (tgt := 91) hx hb dX7_needsOf_84 (by decide) (fun (c_19 : r_17 < r_6) => ?_) (fun (c_19 : ¬ (r_17 < r_6)) => ?_)
          · refine lv_iconst (v := 2) hx hb dX7_needsOf_91 (by decide) ?_
            rw [hQ]
            exact W.iret (v := 2) hx hb hr (fun t ht hW => ⟨2, rfl, trivial, ht⟩) (fun q h => by cases h) dX7_needsOf_92
          · refine lv_iconst (v := 1) hx hb dX7_needsOf_87 (by decide) ?_
            refine lv_goto (tgt := 92) hx hb dX7_needsOf_88 (by decide) ?_
            rw [hQ]
            exact W.iret (v := 1) hx hb hr (fun t ht hW => ⟨1, rfl, trivial, ht⟩) (fun q h => by cases h) dX7_needsOf_92
      · refine lv_iconst (v := 0) hx hb dX7_needsOf_57 (by decide) ?_
        rw [hQ]
        exact W.iret (v := 0) hx hb hr (fun t ht hW => ⟨0, rfl, trivial, ht⟩) (fun q h => by cases h) dX7_needsOf_58
    · refine lv_iconst (v := 1) hx hb dX7_needsOf_38 (by decide) ?_
      refine lv_goto (tgt := 43) hx hb dX7_needsOf_39 (by decide) ?_
      refine lv_istore (lv' := [(5, .int 1), (4, .int r_6), (0, .ref (a 0)), (1, .int x1), (2, .int x2), (3, .int x3)]) hx hb dX7_needsOf_43 hl (by decide) rfl (fun ls hl => ?_)
      refine lv_iload hx hb dX7_needsOf_45 (lv_at hl 1 rfl) ?_
      refine lv_aload_n hx hb dX7_needsOf_47 rfl (lv_at hl 2 rfl) ?_
      refine lv_iload_n hx hb dX7_needsOf_48 rfl (lv_at hl 5 rfl) ?_
      refine lv_iload hx hb dX7_needsOf_49 (lv_at hl 0 rfl) ?_
      refine tq_V (As := [.int x3, .int 1]) (rest := [.int r_6]) (ws := (oh_W n a C)) ⟨hx, hb, hml, hown, htg⟩ (c_X7_allOf l D E G a C n hn hT x3 (1 : Int32) (rg_w hx3 (by decide)) (rg_w (rg_c (v := 1) (lo := 1) (hi := 1) (by decide)) (by decide))) (cwV 2 htg (oh_gV q_1122 q_1124 q_34 q_73 q_1125) rfl rfl rfl pdVX7_allOf ⟨Nat.le_of_ble_eq_true rfl, Nat.le_of_ble_eq_true rfl⟩) hK hP hG hS (va_recv hK hP (ci := 7) (q0 := 0) rfl (oh_wg (Nat.lt_of_lt_of_le (by decide) hn) (sM_0 hT))) rfl hl.1 rfl (Nat.le_of_ble_eq_true rfl) dX7_needsOf_51 ⟨Nat.le_of_ble_eq_true rfl, Nat.le_of_ble_eq_true rfl⟩ (fun r_20 hq_21 => ?_)
      refine lv_icmp_gt (tgt := 59) hx hb dX7_needsOf_54 (by decide) (fun (c_22 : r_20 < r_6) => ?_) (fun (c_22 : ¬ (r_20 < r_6)) => ?_)
      · refine lv_iload hx hb dX7_needsOf_59 (lv_at hl 0 rfl) ?_
        refine lv_if_ne (tgt := 91) hx hb dX7_needsOf_61 (by decide) (fun _ => ?_) (fun c => absurd c (show ¬ ((1 : Int32) = 0) from by decide))
        refine lv_iconst (v := 2) hx hb dX7_needsOf_91 (by decide) ?_
        rw [hQ]
        exact W.iret (v := 2) hx hb hr (fun t ht hW => ⟨2, rfl, trivial, ht⟩) (fun q h => by cases h) dX7_needsOf_92
      · refine lv_iconst (v := 0) hx hb dX7_needsOf_57 (by decide) ?_
        rw [hQ]
        exact W.iret (v := 0) hx hb hr (fun t ht hW => ⟨0, rfl, trivial, ht⟩) (fun q h => by cases h) dX7_needsOf_58
  · refine lv_iconst (v := 2) hx hb dX7_needsOf_14 (by decide) ?_
    rw [hQ]
    exact W.iret (v := 2) hx hb hr (fun t ht hW => ⟨2, rfl, trivial, ht⟩) (fun q h => by cases h) dX7_needsOf_15

set_option maxHeartbeats 4000000 in
set_option maxRecDepth 100000 in
theorem c_X7_goesOf (l : Launch) (D : va_G) (E : Nat → ClassId) (G : Nat → Nat) (a : Nat → Nat) (C : Nat → va_E) (n : Nat) (hn : 74 ≤ n) (hT : TyM a E C) (x1 : Int32) (x2 : Int32) (x3 : Int32) (hx1 : rg x1 0 4) (hx3 : rg x3 0 23) (hw : oh_pos C x1) : Met l yX7_goesOf (oh_w yX7_goesOf cX7_goesOf 5 (some .boolean)) ({ frames := 3, cells := 0, slots := 0, locals := 73 }) (oh_Pp D E G [.ref (a 0), .int x1, .int x2, .int x3] (oh_W n a C)) (vp_Si (fun r => (r = 0 ∨ r = 1))) 0 0 (fun _ => False) := by
  refine Met.ofW (cc := cX7_goesOf) (maxL := 5) (ret := (some .boolean)) (by decide) rfl ?_
  intro p e s m args below meth c s₁ B hml hv
  obtain ⟨rfl, hP, hK, hG⟩ := hv
  have hx := B.exec
  have hb := B.bytes
  have hr := B.returns
  have hts := atoms_spec (ws := (oh_w yX7_goesOf cX7_goesOf 5 (some .boolean))) B.pre
  have htg : ∀ w ∈ oh_t, w.before _ s = true := fun w h => hts w (List.mem_cons_of_mem _ h)
  have hown : s.vm.findClass RX7 = some m.cls := findClass_of_methodNamed B.named
  have hlocks := B.notSynchronized
  have hT0 := hT
  have hS : va_S (fun _ => False) s.heap s.heap [] := va_S.rf
  have hl := lv_entry ([.ref (a 0), .int x1, .int x2, .int x3]) (n := 5) (Nat.le_of_ble_eq_true rfl)
  rw [lg_entry_eq]
  generalize (lg_sl ([.ref (a 0), .int x1, .int x2, .int x3]) ++ List.replicate (5 - (lg_sl ([.ref (a 0), .int x1, .int x2, .int x3])).length) Slot.unset).toArray = ls at hl ⊢
  have hl : lv_has ls 5 [(0, .ref (a 0)), (1, .int x1), (2, .int x2), (3, .int x3)] := hl
  refine oh_genQ (fun Q hQ => ?_)
  refine lv_aload_n hx hb dX7_goesOf_0 rfl (lv_at hl 0 rfl) ?_
  refine va_get (D := D) (ci := 7) (v := .ref (a 9)) (C := RX7) (T := TX7) (N := 29) hx hb htg ig_7 hown hK hP 0 (oh_wg (Nat.lt_of_lt_of_le (by decide) hn) (sM_0 hT)) rfl 10 (by decide) (htg _ q_983) (fun _ h9 => h9) rfl dX7_goesOf_1 ?_
  refine lv_iload_n hx hb dX7_goesOf_4 rfl (lv_at hl 3 rfl) ?_
  have n_1 : vp_in x3 24 := (rg_in hx3 (by decide))
  have b_2 : (x3).toNatClampNeg < 24 := vp_lt n_1
  refine th_aald hx hb hK hP 9 2 (Nat.lt_of_lt_of_le (by decide) hn) (sM_9 hT) rfl n_1 dX7_goesOf_5 ?_
  refine lv_bipush (v := 6) hx hb dX7_goesOf_6 (by decide) ?_
  refine th_iald hx hb hK hP (24 + (x3).toNatClampNeg) (lt_blk b_2 hn (by decide)) (hT.broad b_2).1 (rg_in (rg_c (v := 6) (lo := 6) (hi := 6) (by decide)) (by decide)) dX7_goesOf_8 ?_
  refine lv_iconst (v := 1) hx hb dX7_goesOf_9 (by decide) ?_
  refine lv_icmp_eq (tgt := 29) hx hb dX7_goesOf_10 (by decide) (fun (c_3 : (ga (C (24 + (x3).toNatClampNeg)) ((6 : Int32)).toNatClampNeg) = 1) => ?_) (fun (c_3 : ¬ ((ga (C (24 + (x3).toNatClampNeg)) ((6 : Int32)).toNatClampNeg) = 1)) => ?_)
  · refine lv_iconst (v := 0) hx hb dX7_goesOf_29 (by decide) ?_
    rw [hQ]
    exact W.zret (v := 0) (ty := .boolean) hx hb hr (by decide) (fun t ht hW => ⟨0, rfl, (Or.inl rfl), ht⟩) (fun q h => by cases h) dX7_goesOf_30
  · refine lv_aload_n hx hb dX7_goesOf_13 rfl (lv_at hl 0 rfl) ?_
    refine va_get (D := D) (ci := 7) (v := .ref (a 9)) (C := RX7) (T := TX7) (N := 29) hx hb htg ig_7 hown hK hP 0 (oh_wg (Nat.lt_of_lt_of_le (by decide) hn) (sM_0 hT)) rfl 10 (by decide) (htg _ q_983) (fun _ h9 => h9) rfl dX7_goesOf_14 ?_
    refine lv_iload_n hx hb dX7_goesOf_17 rfl (lv_at hl 3 rfl) ?_
    have n_4 : vp_in x3 24 := (rg_in hx3 (by decide))
    have b_5 : (x3).toNatClampNeg < 24 := vp_lt n_4
    refine th_aald hx hb hK hP 9 2 (Nat.lt_of_lt_of_le (by decide) hn) (sM_9 hT) rfl n_4 dX7_goesOf_18 ?_
    refine lv_iconst (v := 4) hx hb dX7_goesOf_19 (by decide) ?_
    refine th_iald hx hb hK hP (24 + (x3).toNatClampNeg) (lt_blk b_5 hn (by decide)) (hT.broad b_5).1 (rg_in (rg_c (v := 4) (lo := 4) (hi := 4) (by decide)) (by decide)) dX7_goesOf_20 ?_
    refine lv_aload_n hx hb dX7_goesOf_21 rfl (lv_at hl 0 rfl) ?_
    refine lv_iload_n hx hb dX7_goesOf_22 rfl (lv_at hl 1 rfl) ?_
    refine tq_V (As := [.int x1]) (rest := [.int (ga (C (24 + (x3).toNatClampNeg)) ((4 : Int32)).toNatClampNeg)]) (ws := (oh_W n a C)) ⟨hx, hb, hml, hown, htg⟩ (c_X7_lengthOf l D E G a C n hn hT x1 (rg_w hx1 (by decide))) (cwV 1 htg (oh_gV q_1282 q_1284 q_49 q_73 q_1285) rfl rfl rfl pdVX7_lengthOf ⟨Nat.le_of_ble_eq_true rfl, Nat.le_of_ble_eq_true rfl⟩) hK hP hG hS (va_recv hK hP (ci := 7) (q0 := 0) rfl (oh_wg (Nat.lt_of_lt_of_le (by decide) hn) (sM_0 hT))) rfl hl.1 rfl (Nat.le_of_ble_eq_true rfl) dX7_goesOf_23 ⟨Nat.le_of_ble_eq_true rfl, Nat.le_of_ble_eq_true rfl⟩ (fun r_6 hq_7 => ?_)
    refine lv_icmp_ge (tgt := 31) hx hb dX7_goesOf_26 (by decide) (fun (c_8 : r_6 ≤ (ga (C (24 + (x3).toNatClampNeg)) ((4 : Int32)).toNatClampNeg)) => ?_) (fun (c_8 : ¬ (r_6 ≤ (ga (C (24 + (x3).toNatClampNeg)) ((4 : Int32)).toNatClampNeg))) => ?_)
    · refine lv_iconst (v := 0) hx hb dX7_goesOf_31 (by decide) ?_
      refine lv_istore (lv' := [(4, .int 0), (0, .ref (a 0)), (1, .int x1), (2, .int x2), (3, .int x3)]) hx hb dX7_goesOf_32 hl (by decide) rfl (fun ls hl => ?_)
      have L_34 : ∀ (d : Nat) (z34_4 : Int32) (ls : Array Slot), (16 - z34_4.toInt).toNat = d → rg z34_4 0 16 → lv_has ls 5 [(4, .int z34_4), (0, .ref (a 0)), (1, .int x1), (2, .int x2), (3, .int x3)] → W p l e ({ frames := 3, cells := 0, slots := 0, locals := 73 }) s m (([.ref (a 0), .int x1, .int x2, .int x3] : List Value).toArray) below meth c s.heap [] 0 0 Q (F0 m 34 ls []) := by
        intro d
        induction d using Nat.strongRecOn with
        | ind d ih_34 =>
        intro z34_4 ls hd_34 hz34_4 hl
        refine lv_iload hx hb dX7_goesOf_34 (lv_at hl 0 rfl) ?_
        refine lv_aload_n hx hb dX7_goesOf_36 rfl (lv_at hl 1 rfl) ?_
        refine va_get (D := D) (ci := 7) (v := .int (gi (C 0) 11)) (C := RX7) (T := TX7) (N := 29) hx hb htg ig_7 hown hK hP 0 (oh_wg (Nat.lt_of_lt_of_le (by decide) hn) (sM_0 hT)) rfl 11 (by decide) (htg _ q_984) (fun _ h9 => h9) rfl dX7_goesOf_37 ?_
        refine lv_icmp_ge (tgt := 76) hx hb dX7_goesOf_40 (by decide) (fun (c_9 : (gi (C 0) 11) ≤ z34_4) => ?_) (fun (c_9 : ¬ ((gi (C 0) 11) ≤ z34_4)) => ?_)
        · refine lv_iconst (v := 1) hx hb dX7_goesOf_76 (by decide) ?_
          rw [hQ]
          exact W.zret (v := 1) (ty := .boolean) hx hb hr (by decide) (fun t ht hW => ⟨1, rfl, (Or.inr rfl), ht⟩) (fun q h => by cases h) dX7_goesOf_77
        · refine lv_aload_n hx hb dX7_goesOf_43 rfl (lv_at hl 1 rfl) ?_
          refine va_get (D := D) (ci := 7) (v := .ref (a 10)) (C := RX7) (T := TX7) (N := 29) hx hb htg ig_7 hown hK hP 0 (oh_wg (Nat.lt_of_lt_of_le (by decide) hn) (sM_0 hT)) rfl 12 (by decide) (htg _ q_985) (fun _ h9 => h9) rfl dX7_goesOf_44 ?_
          refine lv_iload hx hb dX7_goesOf_47 (lv_at hl 0 rfl) ?_
          have n_10 : vp_in z34_4 16 := (rg_in (rn_ltu (u' := 15) (Int32.not_le.mp c_9) hz34_4 (fM_0_11 hT0) (by decide)) (by decide))
          have b_11 : (z34_4).toNatClampNeg < 16 := vp_lt n_10
          refine th_aald hx hb hK hP 10 2 (Nat.lt_of_lt_of_le (by decide) hn) (sM_10 hT) rfl n_10 dX7_goesOf_49 ?_
          refine lv_iconst (v := 0) hx hb dX7_goesOf_50 (by decide) ?_
          refine th_iald hx hb hK hP (48 + (z34_4).toNatClampNeg) (lt_blk b_11 hn (by decide)) (hT.bbridge b_11).1 (rg_in (rg_c (v := 0) (lo := 0) (hi := 0) (by decide)) (by decide)) dX7_goesOf_51 ?_
          refine lv_iload_n hx hb dX7_goesOf_52 rfl (lv_at hl 4 rfl) ?_
          refine lv_icmp_ne (tgt := 70) hx hb dX7_goesOf_53 (by decide) (fun (c_12 : ¬ ((ga (C (48 + (z34_4).toNatClampNeg)) ((0 : Int32)).toNatClampNeg) = x3)) => ?_) (fun (c_12 : (ga (C (48 + (z34_4).toNatClampNeg)) ((0 : Int32)).toNatClampNeg) = x3) => ?_)
          · refine lv_iinc (v := z34_4 + 1) (lv' := [(4, .int (z34_4 + 1)), (0, .ref (a 0)), (1, .int x1), (2, .int x2), (3, .int x3)]) hx hb dX7_goesOf_70 hl (k := 0) rfl (by rfl) (by decide) rfl (fun ls hl => ?_)
            refine lv_goto (tgt := 34) hx hb dX7_goesOf_73 (by decide) ?_
            exact ih_34 _ (hd_34 ▸ mu_up 16 (rn_ltu (u' := 15) (Int32.not_le.mp c_9) hz34_4 (fM_0_11 hT0) (by decide)) (by decide)) (z34_4 + 1) ls rfl (rg_w (rg_add (lo := 1) (hi := 16) (rn_ltu (u' := 15) (Int32.not_le.mp c_9) hz34_4 (fM_0_11 hT0) (by decide)) (rg_c (v := 1) (lo := 1) (hi := 1) (by decide)) (by decide)) (by decide)) (lv_sub hl [0, 1, 2, 3, 4] rfl)
          · refine lv_aload_n hx hb dX7_goesOf_56 rfl (lv_at hl 1 rfl) ?_
            refine lv_iload_n hx hb dX7_goesOf_57 rfl (lv_at hl 2 rfl) ?_
            refine lv_iload_n hx hb dX7_goesOf_58 rfl (lv_at hl 3 rfl) ?_
            refine lv_iload hx hb dX7_goesOf_59 (lv_at hl 0 rfl) ?_
            refine tq_V (As := [.int x1, .int x2, .int z34_4]) (rest := []) (ws := (oh_W n a C)) ⟨hx, hb, hml, hown, htg⟩ (c_X7_needsOf l D E G a C n hn hT x1 x2 z34_4 (rg_w hx1 (by decide)) (rg_w (rn_ltu (u' := 15) (Int32.not_le.mp c_9) hz34_4 (fM_0_11 hT0) (by decide)) (by decide)) hw) (cwV 3 htg (oh_gV q_1310 q_1312 q_53 q_73 q_1313) rfl rfl rfl pdVX7_needsOf ⟨Nat.le_of_ble_eq_true rfl, Nat.le_of_ble_eq_true rfl⟩) hK hP hG hS (va_recv hK hP (ci := 7) (q0 := 0) rfl (oh_wg (Nat.lt_of_lt_of_le (by decide) hn) (sM_0 hT))) rfl hl.1 rfl (Nat.le_of_ble_eq_true rfl) dX7_goesOf_61 ⟨Nat.le_of_ble_eq_true rfl, Nat.le_of_ble_eq_true rfl⟩ (fun r_13 hq_14 => ?_)
            refine lv_iconst (v := 2) hx hb dX7_goesOf_64 (by decide) ?_
            refine lv_icmp_ne (tgt := 70) hx hb dX7_goesOf_65 (by decide) (fun (c_15 : ¬ (r_13 = 2)) => ?_) (fun (c_15 : r_13 = 2) => ?_)
            · refine lv_iinc (v := z34_4 + 1) (lv' := [(4, .int (z34_4 + 1)), (0, .ref (a 0)), (1, .int x1), (2, .int x2), (3, .int x3)]) hx hb dX7_goesOf_70 hl (k := 0) rfl (by rfl) (by decide) rfl (fun ls hl => ?_)
              refine lv_goto (tgt := 34) hx hb dX7_goesOf_73 (by decide) ?_
              exact ih_34 _ (hd_34 ▸ mu_up 16 (rn_ltu (u' := 15) (Int32.not_le.mp c_9) hz34_4 (fM_0_11 hT0) (by decide)) (by decide)) (z34_4 + 1) ls rfl (rg_w (rg_add (lo := 1) (hi := 16) (rn_ltu (u' := 15) (Int32.not_le.mp c_9) hz34_4 (fM_0_11 hT0) (by decide)) (rg_c (v := 1) (lo := 1) (hi := 1) (by decide)) (by decide)) (by decide)) (lv_sub hl [0, 1, 2, 3, 4] rfl)
            · refine lv_iconst (v := 0) hx hb dX7_goesOf_68 (by decide) ?_
              rw [hQ]
              exact W.zret (v := 0) (ty := .boolean) hx hb hr (by decide) (fun t ht hW => ⟨0, rfl, (Or.inl rfl), ht⟩) (fun q h => by cases h) dX7_goesOf_69
      exact L_34 _ 0 ls rfl (rg_w (rg_c (v := 0) (lo := 0) (hi := 0) (by decide)) (by decide)) (lv_sub hl [0, 1, 2, 3, 4] rfl)
    · refine lv_iconst (v := 0) hx hb dX7_goesOf_29 (by decide) ?_
      rw [hQ]
      exact W.zret (v := 0) (ty := .boolean) hx hb hr (by decide) (fun t ht hW => ⟨0, rfl, (Or.inl rfl), ht⟩) (fun q h => by cases h) dX7_goesOf_30

set_option maxHeartbeats 4000000 in
set_option maxRecDepth 100000 in
theorem c_X7_enginesOf (l : Launch) (D : va_G) (E : Nat → ClassId) (G : Nat → Nat) (a : Nat → Nat) (C : Nat → va_E) (n : Nat) (hn : 74 ≤ n) (hT : TyM a E C) (x1 : Int32) (x2 : Int32) (x3 : Int32) (hx1 : rg x1 0 4) (hx3 : rg x3 0 23) (hw : oh_pos C x1) : Met l yX7_enginesOf (oh_w yX7_enginesOf cX7_enginesOf 4 (some .int)) ({ frames := 1, cells := 0, slots := 0, locals := 24 }) (oh_Pp D E G [.ref (a 0), .int x1, .int x2, .int x3] (oh_W n a C)) (vp_Si (fun r => True)) 0 0 (fun _ => False) := by
  refine Met.ofW (cc := cX7_enginesOf) (maxL := 4) (ret := (some .int)) (by decide) rfl ?_
  intro p e s m args below meth c s₁ B hml hv
  obtain ⟨rfl, hP, hK, hG⟩ := hv
  have hx := B.exec
  have hb := B.bytes
  have hr := B.returns
  have hts := atoms_spec (ws := (oh_w yX7_enginesOf cX7_enginesOf 4 (some .int))) B.pre
  have htg : ∀ w ∈ oh_t, w.before _ s = true := fun w h => hts w (List.mem_cons_of_mem _ h)
  have hown : s.vm.findClass RX7 = some m.cls := findClass_of_methodNamed B.named
  have hlocks := B.notSynchronized
  have hT0 := hT
  have hS : va_S (fun _ => False) s.heap s.heap [] := va_S.rf
  have hl := lv_entry ([.ref (a 0), .int x1, .int x2, .int x3]) (n := 4) (Nat.le_of_ble_eq_true rfl)
  rw [lg_entry_eq]
  generalize (lg_sl ([.ref (a 0), .int x1, .int x2, .int x3]) ++ List.replicate (4 - (lg_sl ([.ref (a 0), .int x1, .int x2, .int x3])).length) Slot.unset).toArray = ls at hl ⊢
  have hl : lv_has ls 4 [(0, .ref (a 0)), (1, .int x1), (2, .int x2), (3, .int x3)] := hl
  refine oh_genQ (fun Q hQ => ?_)
  refine lv_iconst (v := 1) hx hb dX7_enginesOf_0 (by decide) ?_
  refine lv_aload_n hx hb dX7_enginesOf_1 rfl (lv_at hl 0 rfl) ?_
  refine va_get (D := D) (ci := 7) (v := .ref (a 9)) (C := RX7) (T := TX7) (N := 29) hx hb htg ig_7 hown hK hP 0 (oh_wg (Nat.lt_of_lt_of_le (by decide) hn) (sM_0 hT)) rfl 10 (by decide) (htg _ q_983) (fun _ h9 => h9) rfl dX7_enginesOf_2 ?_
  refine lv_iload_n hx hb dX7_enginesOf_5 rfl (lv_at hl 3 rfl) ?_
  have n_1 : vp_in x3 24 := (rg_in hx3 (by decide))
  have b_2 : (x3).toNatClampNeg < 24 := vp_lt n_1
  refine th_aald hx hb hK hP 9 2 (Nat.lt_of_lt_of_le (by decide) hn) (sM_9 hT) rfl n_1 dX7_enginesOf_6 ?_
  refine lv_iconst (v := 3) hx hb dX7_enginesOf_7 (by decide) ?_
  refine th_iald hx hb hK hP (24 + (x3).toNatClampNeg) (lt_blk b_2 hn (by decide)) (hT.broad b_2).1 (rg_in (rg_c (v := 3) (lo := 3) (hi := 3) (by decide)) (by decide)) dX7_enginesOf_8 ?_
  refine lv_aload_n hx hb dX7_enginesOf_9 rfl (lv_at hl 0 rfl) ?_
  refine lv_iload_n hx hb dX7_enginesOf_10 rfl (lv_at hl 1 rfl) ?_
  refine lv_iload_n hx hb dX7_enginesOf_11 rfl (lv_at hl 2 rfl) ?_
  refine tq_V (As := [.int x1, .int x2]) (rest := [.int (ga (C (24 + (x3).toNatClampNeg)) ((3 : Int32)).toNatClampNeg), .int 1]) (ws := (oh_W n a C)) ⟨hx, hb, hml, hown, htg⟩ (c_X7_axleLoad l D E G a C n hn hT x1 x2 (rg_w hx1 (by decide)) hw) (cwV 2 htg (oh_gV q_1294 q_1296 q_51 q_73 q_1297) rfl rfl rfl pdVX7_axleLoad ⟨Nat.le_of_ble_eq_true rfl, Nat.le_of_ble_eq_true rfl⟩) hK hP hG hS (va_recv hK hP (ci := 7) (q0 := 0) rfl (oh_wg (Nat.lt_of_lt_of_le (by decide) hn) (sM_0 hT))) rfl hl.1 rfl (Nat.le_of_ble_eq_true rfl) dX7_enginesOf_12 ⟨Nat.le_of_ble_eq_true rfl, Nat.le_of_ble_eq_true rfl⟩ (fun r_3 hq_4 => ?_)
  refine lv_imul hx hb dX7_enginesOf_15 ?_
  refine lv_bipush (v := 100) hx hb dX7_enginesOf_16 (by decide) ?_
  refine lv_idiv hx hb dX7_enginesOf_18 (by decide) ?_
  refine lv_iadd hx hb dX7_enginesOf_19 ?_
  rw [hQ]
  exact W.iret (v := 1 + (((ga (C (24 + (x3).toNatClampNeg)) ((3 : Int32)).toNatClampNeg) * r_3) / 100)) hx hb hr (fun t ht hW => ⟨1 + (((ga (C (24 + (x3).toNatClampNeg)) ((3 : Int32)).toNatClampNeg) * r_3) / 100), rfl, trivial, ht⟩) (fun q h => by cases h) dX7_enginesOf_20

set_option maxHeartbeats 4000000 in
set_option maxRecDepth 100000 in
theorem c_X7_propsOf (l : Launch) (D : va_G) (E : Nat → ClassId) (G : Nat → Nat) (a : Nat → Nat) (C : Nat → va_E) (n : Nat) (hn : 74 ≤ n) (hT : TyM a E C) (x1 : Int32) (x2 : Int32) (x3 : Int32) (x4 : Int32) (hx1 : rg x1 0 4) (hx4 : rg x4 0 1) (hw : oh_pos C x1) : Met l yX7_propsOf (oh_w yX7_propsOf cX7_propsOf 7 (some .int)) ({ frames := 3, cells := 0, slots := 0, locals := 73 }) (oh_Pp D E G [.ref (a 0), .int x1, .int x2, .int x3, .int x4] (oh_W n a C)) (vp_Si (fun r => True)) 0 0 (fun _ => False) := by
  refine Met.ofW (cc := cX7_propsOf) (maxL := 7) (ret := (some .int)) (by decide) rfl ?_
  intro p e s m args below meth c s₁ B hml hv
  obtain ⟨rfl, hP, hK, hG⟩ := hv
  have hx := B.exec
  have hb := B.bytes
  have hr := B.returns
  have hts := atoms_spec (ws := (oh_w yX7_propsOf cX7_propsOf 7 (some .int))) B.pre
  have htg : ∀ w ∈ oh_t, w.before _ s = true := fun w h => hts w (List.mem_cons_of_mem _ h)
  have hown : s.vm.findClass RX7 = some m.cls := findClass_of_methodNamed B.named
  have hlocks := B.notSynchronized
  have hT0 := hT
  have hS : va_S (fun _ => False) s.heap s.heap [] := va_S.rf
  have hl := lv_entry ([.ref (a 0), .int x1, .int x2, .int x3, .int x4]) (n := 7) (Nat.le_of_ble_eq_true rfl)
  rw [lg_entry_eq]
  generalize (lg_sl ([.ref (a 0), .int x1, .int x2, .int x3, .int x4]) ++ List.replicate (7 - (lg_sl ([.ref (a 0), .int x1, .int x2, .int x3, .int x4])).length) Slot.unset).toArray = ls at hl ⊢
  have hl : lv_has ls 7 [(0, .ref (a 0)), (1, .int x1), (2, .int x2), (3, .int x3), (4, .int x4)] := hl
  refine oh_genQ (fun Q hQ => ?_)
  refine lv_iconst (v := 0) hx hb dX7_propsOf_0 (by decide) ?_
  refine lv_istore (lv' := [(5, .int 0), (0, .ref (a 0)), (1, .int x1), (2, .int x2), (3, .int x3), (4, .int x4)]) hx hb dX7_propsOf_1 hl (by decide) rfl (fun ls hl => ?_)
  refine lv_iconst (v := 0) hx hb dX7_propsOf_3 (by decide) ?_
  refine lv_istore (lv' := [(6, .int 0), (5, .int 0), (0, .ref (a 0)), (1, .int x1), (2, .int x2), (3, .int x3), (4, .int x4)]) hx hb dX7_propsOf_4 hl (by decide) rfl (fun ls hl => ?_)
  have L_6 : ∀ (d : Nat) (z6_6 : Int32) (z6_5 : Int32) (ls : Array Slot), (16 - z6_6.toInt).toNat = d → rg z6_6 0 16 → lv_has ls 7 [(6, .int z6_6), (5, .int z6_5), (0, .ref (a 0)), (1, .int x1), (2, .int x2), (3, .int x3), (4, .int x4)] → W p l e ({ frames := 3, cells := 0, slots := 0, locals := 73 }) s m (([.ref (a 0), .int x1, .int x2, .int x3, .int x4] : List Value).toArray) below meth c s.heap [] 0 0 Q (F0 m 6 ls []) := by
    intro d
    induction d using Nat.strongRecOn with
    | ind d ih_6 =>
    intro z6_6 z6_5 ls hd_6 hz6_6 hl
    refine lv_iload hx hb dX7_propsOf_6 (lv_at hl 0 rfl) ?_
    refine lv_aload_n hx hb dX7_propsOf_8 rfl (lv_at hl 2 rfl) ?_
    refine va_get (D := D) (ci := 7) (v := .int (gi (C 0) 11)) (C := RX7) (T := TX7) (N := 29) hx hb htg ig_7 hown hK hP 0 (oh_wg (Nat.lt_of_lt_of_le (by decide) hn) (sM_0 hT)) rfl 11 (by decide) (htg _ q_984) (fun _ h9 => h9) rfl dX7_propsOf_9 ?_
    refine lv_icmp_ge (tgt := 70) hx hb dX7_propsOf_12 (by decide) (fun (c_1 : (gi (C 0) 11) ≤ z6_6) => ?_) (fun (c_1 : ¬ ((gi (C 0) 11) ≤ z6_6)) => ?_)
    · refine lv_iload hx hb dX7_propsOf_70 (lv_at hl 1 rfl) ?_
      rw [hQ]
      exact W.iret (v := z6_5) hx hb hr (fun t ht hW => ⟨z6_5, rfl, trivial, ht⟩) (fun q h => by cases h) dX7_propsOf_72
    · refine lv_aload_n hx hb dX7_propsOf_15 rfl (lv_at hl 2 rfl) ?_
      refine va_get (D := D) (ci := 7) (v := .ref (a 10)) (C := RX7) (T := TX7) (N := 29) hx hb htg ig_7 hown hK hP 0 (oh_wg (Nat.lt_of_lt_of_le (by decide) hn) (sM_0 hT)) rfl 12 (by decide) (htg _ q_985) (fun _ h9 => h9) rfl dX7_propsOf_16 ?_
      refine lv_iload hx hb dX7_propsOf_19 (lv_at hl 0 rfl) ?_
      have n_2 : vp_in z6_6 16 := (rg_in (rn_ltu (u' := 15) (Int32.not_le.mp c_1) hz6_6 (fM_0_11 hT0) (by decide)) (by decide))
      have b_3 : (z6_6).toNatClampNeg < 16 := vp_lt n_2
      refine th_aald hx hb hK hP 10 2 (Nat.lt_of_lt_of_le (by decide) hn) (sM_10 hT) rfl n_2 dX7_propsOf_21 ?_
      refine lv_iconst (v := 0) hx hb dX7_propsOf_22 (by decide) ?_
      refine th_iald hx hb hK hP (48 + (z6_6).toNatClampNeg) (lt_blk b_3 hn (by decide)) (hT.bbridge b_3).1 (rg_in (rg_c (v := 0) (lo := 0) (hi := 0) (by decide)) (by decide)) dX7_propsOf_23 ?_
      refine lv_iload_n hx hb dX7_propsOf_24 rfl (lv_at hl 5 rfl) ?_
      refine lv_icmp_ne (tgt := 64) hx hb dX7_propsOf_25 (by decide) (fun (c_4 : ¬ ((ga (C (48 + (z6_6).toNatClampNeg)) ((0 : Int32)).toNatClampNeg) = x3)) => ?_) (fun (c_4 : (ga (C (48 + (z6_6).toNatClampNeg)) ((0 : Int32)).toNatClampNeg) = x3) => ?_)
      · refine lv_iinc (v := z6_6 + 1) (lv' := [(6, .int (z6_6 + 1)), (5, .int z6_5), (0, .ref (a 0)), (1, .int x1), (2, .int x2), (3, .int x3), (4, .int x4)]) hx hb dX7_propsOf_64 hl (k := 0) rfl (by rfl) (by decide) rfl (fun ls hl => ?_)
        refine lv_goto (tgt := 6) hx hb dX7_propsOf_67 (by decide) ?_
        exact ih_6 _ (hd_6 ▸ mu_up 16 (rn_ltu (u' := 15) (Int32.not_le.mp c_1) hz6_6 (fM_0_11 hT0) (by decide)) (by decide)) (z6_6 + 1) z6_5 ls rfl (rg_w (rg_add (lo := 1) (hi := 16) (rn_ltu (u' := 15) (Int32.not_le.mp c_1) hz6_6 (fM_0_11 hT0) (by decide)) (rg_c (v := 1) (lo := 1) (hi := 1) (by decide)) (by decide)) (by decide)) (lv_sub hl [0, 1, 2, 3, 4, 5, 6] rfl)
      · refine lv_aload_n hx hb dX7_propsOf_28 rfl (lv_at hl 2 rfl) ?_
        refine lv_iload_n hx hb dX7_propsOf_29 rfl (lv_at hl 3 rfl) ?_
        refine lv_iload_n hx hb dX7_propsOf_30 rfl (lv_at hl 4 rfl) ?_
        refine lv_iload hx hb dX7_propsOf_31 (lv_at hl 0 rfl) ?_
        refine tq_V (As := [.int x1, .int x2, .int z6_6]) (rest := []) (ws := (oh_W n a C)) ⟨hx, hb, hml, hown, htg⟩ (c_X7_needsOf l D E G a C n hn hT x1 x2 z6_6 (rg_w hx1 (by decide)) (rg_w (rn_ltu (u' := 15) (Int32.not_le.mp c_1) hz6_6 (fM_0_11 hT0) (by decide)) (by decide)) hw) (cwV 3 htg (oh_gV q_1310 q_1312 q_53 q_73 q_1313) rfl rfl rfl pdVX7_needsOf ⟨Nat.le_of_ble_eq_true rfl, Nat.le_of_ble_eq_true rfl⟩) hK hP hG hS (va_recv hK hP (ci := 7) (q0 := 0) rfl (oh_wg (Nat.lt_of_lt_of_le (by decide) hn) (sM_0 hT))) rfl hl.1 rfl (Nat.le_of_ble_eq_true rfl) dX7_propsOf_33 ⟨Nat.le_of_ble_eq_true rfl, Nat.le_of_ble_eq_true rfl⟩ (fun r_5 hq_6 => ?_)
        refine lv_iconst (v := 1) hx hb dX7_propsOf_36 (by decide) ?_
        refine lv_icmp_ne (tgt := 64) hx hb dX7_propsOf_37 (by decide) (fun (c_7 : ¬ (r_5 = 1)) => ?_) (fun (c_7 : r_5 = 1) => ?_)
        · refine lv_iinc (v := z6_6 + 1) (lv' := [(6, .int (z6_6 + 1)), (5, .int z6_5), (0, .ref (a 0)), (1, .int x1), (2, .int x2), (3, .int x3), (4, .int x4)]) hx hb dX7_propsOf_64 hl (k := 0) rfl (by rfl) (by decide) rfl (fun ls hl => ?_)
          refine lv_goto (tgt := 6) hx hb dX7_propsOf_67 (by decide) ?_
          exact ih_6 _ (hd_6 ▸ mu_up 16 (rn_ltu (u' := 15) (Int32.not_le.mp c_1) hz6_6 (fM_0_11 hT0) (by decide)) (by decide)) (z6_6 + 1) z6_5 ls rfl (rg_w (rg_add (lo := 1) (hi := 16) (rn_ltu (u' := 15) (Int32.not_le.mp c_1) hz6_6 (fM_0_11 hT0) (by decide)) (rg_c (v := 1) (lo := 1) (hi := 1) (by decide)) (by decide)) (by decide)) (lv_sub hl [0, 1, 2, 3, 4, 5, 6] rfl)
        · refine lv_iload hx hb dX7_propsOf_40 (lv_at hl 1 rfl) ?_
          refine lv_iload hx hb dX7_propsOf_42 (lv_at hl 6 rfl) ?_
          refine lv_if_eq (tgt := 60) hx hb dX7_propsOf_44 (by decide) (fun (c_8 : x4 = 0) => ?_) (fun (c_8 : ¬ (x4 = 0)) => ?_)
          · refine lv_iconst (v := 1) hx hb dX7_propsOf_60 (by decide) ?_
            refine lv_iadd hx hb dX7_propsOf_61 ?_
            refine lv_istore (lv' := [(5, .int (z6_5 + 1)), (6, .int z6_6), (0, .ref (a 0)), (1, .int x1), (2, .int x2), (3, .int x3), (4, .int x4)]) hx hb dX7_propsOf_62 hl (by decide) rfl (fun ls hl => ?_)
            refine lv_iinc (v := z6_6 + 1) (lv' := [(6, .int (z6_6 + 1)), (5, .int (z6_5 + 1)), (0, .ref (a 0)), (1, .int x1), (2, .int x2), (3, .int x3), (4, .int x4)]) hx hb dX7_propsOf_64 hl (k := 1) rfl (by rfl) (by decide) rfl (fun ls hl => ?_)
            refine lv_goto (tgt := 6) hx hb dX7_propsOf_67 (by decide) ?_
            exact ih_6 _ (hd_6 ▸ mu_up 16 (rn_ltu (u' := 15) (Int32.not_le.mp c_1) hz6_6 (fM_0_11 hT0) (by decide)) (by decide)) (z6_6 + 1) (z6_5 + 1) ls rfl (rg_w (rg_add (lo := 1) (hi := 16) (rn_ltu (u' := 15) (Int32.not_le.mp c_1) hz6_6 (fM_0_11 hT0) (by decide)) (rg_c (v := 1) (lo := 1) (hi := 1) (by decide)) (by decide)) (by decide)) (lv_sub hl [0, 1, 2, 3, 4, 5, 6] rfl)
          · refine lv_aload_n hx hb dX7_propsOf_47 rfl (lv_at hl 2 rfl) ?_
            refine va_get (D := D) (ci := 7) (v := .ref (a 10)) (C := RX7) (T := TX7) (N := 29) hx hb htg ig_7 hown hK hP 0 (oh_wg (Nat.lt_of_lt_of_le (by decide) hn) (sM_0 hT)) rfl 12 (by decide) (htg _ q_985) (fun _ h9 => h9) rfl dX7_propsOf_48 ?_
            refine lv_iload hx hb dX7_propsOf_51 (lv_at hl 0 rfl) ?_
            have n_9 : vp_in z6_6 16 := (rg_in (rn_ltu (u' := 15) (Int32.not_le.mp c_1) hz6_6 (fM_0_11 hT0) (by decide)) (by decide))
            have b_10 : (z6_6).toNatClampNeg < 16 := vp_lt n_9
            refine th_aald hx hb hK hP 10 2 (Nat.lt_of_lt_of_le (by decide) hn) (sM_10 hT) rfl n_9 dX7_propsOf_53 ?_
            refine lv_bipush (v := 6) hx hb dX7_propsOf_54 (by decide) ?_
            refine th_iald hx hb hK hP (48 + (z6_6).toNatClampNeg) (lt_blk b_10 hn (by decide)) (hT.bbridge b_10).1 (rg_in (rg_c (v := 6) (lo := 6) (hi := 6) (by decide)) (by decide)) dX7_propsOf_56 ?_
            refine lv_goto (tgt := 61) hx hb dX7_propsOf_57 (by decide) ?_
            refine lv_iadd hx hb dX7_propsOf_61 ?_
            refine lv_istore (lv' := [(5, .int (z6_5 + (ga (C (48 + (z6_6).toNatClampNeg)) ((6 : Int32)).toNatClampNeg))), (6, .int z6_6), (0, .ref (a 0)), (1, .int x1), (2, .int x2), (3, .int x3), (4, .int x4)]) hx hb dX7_propsOf_62 hl (by decide) rfl (fun ls hl => ?_)
            refine lv_iinc (v := z6_6 + 1) (lv' := [(6, .int (z6_6 + 1)), (5, .int (z6_5 + (ga (C (48 + (z6_6).toNatClampNeg)) ((6 : Int32)).toNatClampNeg))), (0, .ref (a 0)), (1, .int x1), (2, .int x2), (3, .int x3), (4, .int x4)]) hx hb dX7_propsOf_64 hl (k := 1) rfl (by rfl) (by decide) rfl (fun ls hl => ?_)
            refine lv_goto (tgt := 6) hx hb dX7_propsOf_67 (by decide) ?_
            exact ih_6 _ (hd_6 ▸ mu_up 16 (rn_ltu (u' := 15) (Int32.not_le.mp c_1) hz6_6 (fM_0_11 hT0) (by decide)) (by decide)) (z6_6 + 1) (z6_5 + (ga (C (48 + (z6_6).toNatClampNeg)) ((6 : Int32)).toNatClampNeg)) ls rfl (rg_w (rg_add (lo := 1) (hi := 16) (rn_ltu (u' := 15) (Int32.not_le.mp c_1) hz6_6 (fM_0_11 hT0) (by decide)) (rg_c (v := 1) (lo := 1) (hi := 1) (by decide)) (by decide)) (by decide)) (lv_sub hl [0, 1, 2, 3, 4, 5, 6] rfl)
  exact L_6 _ 0 0 ls rfl (rg_w (rg_c (v := 0) (lo := 0) (hi := 0) (by decide)) (by decide)) (lv_sub hl [0, 1, 2, 3, 4, 5, 6] rfl)

set_option maxHeartbeats 4000000 in
set_option maxRecDepth 100000 in
theorem c_X7_coinOf (l : Launch) (D : va_G) (E : Nat → ClassId) (G : Nat → Nat) (a : Nat → Nat) (C : Nat → va_E) (n : Nat) (hn : 74 ≤ n) (hT : TyM a E C) (x1 : Int32) (x2 : Int32) (x3 : Int32) (x4 : Int32) (hx1 : rg x1 0 4) (hx3 : rg x3 0 23) (hw : oh_pos C x1) : Met l yX7_coinOf (oh_w yX7_coinOf cX7_coinOf 5 (some .int)) ({ frames := 4, cells := 0, slots := 0, locals := 99 }) (oh_Pp D E G [.ref (a 0), .int x1, .int x2, .int x3, .int x4] (oh_W n a C)) (vp_Si (fun r => True)) 0 0 (fun _ => False) := by
  refine Met.ofW (cc := cX7_coinOf) (maxL := 5) (ret := (some .int)) (by decide) rfl ?_
  intro p e s m args below meth c s₁ B hml hv
  obtain ⟨rfl, hP, hK, hG⟩ := hv
  have hx := B.exec
  have hb := B.bytes
  have hr := B.returns
  have hts := atoms_spec (ws := (oh_w yX7_coinOf cX7_coinOf 5 (some .int))) B.pre
  have htg : ∀ w ∈ oh_t, w.before _ s = true := fun w h => hts w (List.mem_cons_of_mem _ h)
  have hown : s.vm.findClass RX7 = some m.cls := findClass_of_methodNamed B.named
  have hlocks := B.notSynchronized
  have hT0 := hT
  have hS : va_S (fun _ => False) s.heap s.heap [] := va_S.rf
  have hl := lv_entry ([.ref (a 0), .int x1, .int x2, .int x3, .int x4]) (n := 5) (Nat.le_of_ble_eq_true rfl)
  rw [lg_entry_eq]
  generalize (lg_sl ([.ref (a 0), .int x1, .int x2, .int x3, .int x4]) ++ List.replicate (5 - (lg_sl ([.ref (a 0), .int x1, .int x2, .int x3, .int x4])).length) Slot.unset).toArray = ls at hl ⊢
  have hl : lv_has ls 5 [(0, .ref (a 0)), (1, .int x1), (2, .int x2), (3, .int x3), (4, .int x4)] := hl
  refine oh_genQ (fun Q hQ => ?_)
  refine lv_iload hx hb dX7_coinOf_0 (lv_at hl 4 rfl) ?_
  refine lv_aload_n hx hb dX7_coinOf_2 rfl (lv_at hl 0 rfl) ?_
  refine va_get (D := D) (ci := 7) (v := .ref (a 13)) (C := RX7) (T := TX7) (N := 29) hx hb htg ig_7 hown hK hP 0 (oh_wg (Nat.lt_of_lt_of_le (by decide) hn) (sM_0 hT)) rfl 17 (by decide) (htg _ q_990) (fun _ h9 => h9) rfl dX7_coinOf_3 ?_
  refine lv_iconst (v := 1) hx hb dX7_coinOf_6 (by decide) ?_
  refine th_iald hx hb hK hP 13 (Nat.lt_of_lt_of_le (by decide) hn) (sM_13 hT) (rg_in (rg_c (v := 1) (lo := 1) (hi := 1) (by decide)) (by decide)) dX7_coinOf_7 ?_
  refine lv_imul hx hb dX7_coinOf_8 ?_
  refine lv_aload_n hx hb dX7_coinOf_9 rfl (lv_at hl 0 rfl) ?_
  refine va_get (D := D) (ci := 7) (v := .ref (a 9)) (C := RX7) (T := TX7) (N := 29) hx hb htg ig_7 hown hK hP 0 (oh_wg (Nat.lt_of_lt_of_le (by decide) hn) (sM_0 hT)) rfl 10 (by decide) (htg _ q_983) (fun _ h9 => h9) rfl dX7_coinOf_10 ?_
  refine lv_iload_n hx hb dX7_coinOf_13 rfl (lv_at hl 3 rfl) ?_
  have n_1 : vp_in x3 24 := (rg_in hx3 (by decide))
  have b_2 : (x3).toNatClampNeg < 24 := vp_lt n_1
  refine th_aald hx hb hK hP 9 2 (Nat.lt_of_lt_of_le (by decide) hn) (sM_9 hT) rfl n_1 dX7_coinOf_14 ?_
  refine lv_iconst (v := 2) hx hb dX7_coinOf_15 (by decide) ?_
  refine th_iald hx hb hK hP (24 + (x3).toNatClampNeg) (lt_blk b_2 hn (by decide)) (hT.broad b_2).1 (rg_in (rg_c (v := 2) (lo := 2) (hi := 2) (by decide)) (by decide)) dX7_coinOf_16 ?_
  refine lv_imul hx hb dX7_coinOf_17 ?_
  refine lv_aload_n hx hb dX7_coinOf_18 rfl (lv_at hl 0 rfl) ?_
  refine lv_iload_n hx hb dX7_coinOf_19 rfl (lv_at hl 1 rfl) ?_
  refine lv_iload_n hx hb dX7_coinOf_20 rfl (lv_at hl 2 rfl) ?_
  refine lv_iload_n hx hb dX7_coinOf_21 rfl (lv_at hl 3 rfl) ?_
  refine tq_V (As := [.int x1, .int x2, .int x3]) (rest := [.int ((x4 * (ga (C 13) ((1 : Int32)).toNatClampNeg)) * (ga (C (24 + (x3).toNatClampNeg)) ((2 : Int32)).toNatClampNeg))]) (ws := (oh_W n a C)) ⟨hx, hb, hml, hown, htg⟩ (c_X7_enginesOf l D E G a C n hn hT x1 x2 x3 (rg_w hx1 (by decide)) (rg_w hx3 (by decide)) hw) (cwV 3 htg (oh_gV q_1322 q_1324 q_55 q_73 q_1325) rfl rfl rfl pdVX7_enginesOf ⟨Nat.le_of_ble_eq_true rfl, Nat.le_of_ble_eq_true rfl⟩) hK hP hG hS (va_recv hK hP (ci := 7) (q0 := 0) rfl (oh_wg (Nat.lt_of_lt_of_le (by decide) hn) (sM_0 hT))) rfl hl.1 rfl (Nat.le_of_ble_eq_true rfl) dX7_coinOf_22 ⟨Nat.le_of_ble_eq_true rfl, Nat.le_of_ble_eq_true rfl⟩ (fun r_3 hq_4 => ?_)
  refine lv_imul hx hb dX7_coinOf_25 ?_
  refine lv_aload_n hx hb dX7_coinOf_26 rfl (lv_at hl 0 rfl) ?_
  refine lv_iload_n hx hb dX7_coinOf_27 rfl (lv_at hl 1 rfl) ?_
  refine lv_iload_n hx hb dX7_coinOf_28 rfl (lv_at hl 2 rfl) ?_
  refine lv_iload_n hx hb dX7_coinOf_29 rfl (lv_at hl 3 rfl) ?_
  refine lv_iconst (v := 1) hx hb dX7_coinOf_30 (by decide) ?_
  refine tq_V (As := [.int x1, .int x2, .int x3, .int 1]) (rest := [.int (((x4 * (ga (C 13) ((1 : Int32)).toNatClampNeg)) * (ga (C (24 + (x3).toNatClampNeg)) ((2 : Int32)).toNatClampNeg)) * r_3)]) (ws := (oh_W n a C)) ⟨hx, hb, hml, hown, htg⟩ (c_X7_propsOf l D E G a C n hn hT x1 x2 x3 (1 : Int32) (rg_w hx1 (by decide)) (rg_w (rg_c (v := 1) (lo := 1) (hi := 1) (by decide)) (by decide)) hw) (cwV 4 htg (oh_gV q_1330 q_1332 q_57 q_73 q_1333) rfl rfl rfl pdVX7_propsOf ⟨Nat.le_of_ble_eq_true rfl, Nat.le_of_ble_eq_true rfl⟩) hK hP hG hS (va_recv hK hP (ci := 7) (q0 := 0) rfl (oh_wg (Nat.lt_of_lt_of_le (by decide) hn) (sM_0 hT))) rfl hl.1 rfl (Nat.le_of_ble_eq_true rfl) dX7_coinOf_31 ⟨Nat.le_of_ble_eq_true rfl, Nat.le_of_ble_eq_true rfl⟩ (fun r_5 hq_6 => ?_)
  refine lv_iadd hx hb dX7_coinOf_34 ?_
  rw [hQ]
  exact W.iret (v := (((x4 * (ga (C 13) ((1 : Int32)).toNatClampNeg)) * (ga (C (24 + (x3).toNatClampNeg)) ((2 : Int32)).toNatClampNeg)) * r_3) + r_5) hx hb hr (fun t ht hW => ⟨(((x4 * (ga (C 13) ((1 : Int32)).toNatClampNeg)) * (ga (C (24 + (x3).toNatClampNeg)) ((2 : Int32)).toNatClampNeg)) * r_3) + r_5, rfl, trivial, ht⟩) (fun q h => by cases h) dX7_coinOf_35

set_option maxHeartbeats 4000000 in
set_option maxRecDepth 100000 in
theorem c_X7_daysOf (l : Launch) (D : va_G) (E : Nat → ClassId) (G : Nat → Nat) (a : Nat → Nat) (C : Nat → va_E) (n : Nat) (hn : 74 ≤ n) (hT : TyM a E C) (x1 : Int32) (x2 : Int32) (x3 : Int32) (hx1 : rg x1 0 4) (hx3 : rg x3 0 23) (hw : oh_pos C x1) : Met l yX7_daysOf (oh_w yX7_daysOf cX7_daysOf 4 (some .int)) ({ frames := 4, cells := 0, slots := 0, locals := 99 }) (oh_Pp D E G [.ref (a 0), .int x1, .int x2, .int x3] (oh_W n a C)) (vp_Si (fun r => True)) 0 0 (fun _ => False) := by
  refine Met.ofW (cc := cX7_daysOf) (maxL := 4) (ret := (some .int)) (by decide) rfl ?_
  intro p e s m args below meth c s₁ B hml hv
  obtain ⟨rfl, hP, hK, hG⟩ := hv
  have hx := B.exec
  have hb := B.bytes
  have hr := B.returns
  have hts := atoms_spec (ws := (oh_w yX7_daysOf cX7_daysOf 4 (some .int))) B.pre
  have htg : ∀ w ∈ oh_t, w.before _ s = true := fun w h => hts w (List.mem_cons_of_mem _ h)
  have hown : s.vm.findClass RX7 = some m.cls := findClass_of_methodNamed B.named
  have hlocks := B.notSynchronized
  have hT0 := hT
  have hS : va_S (fun _ => False) s.heap s.heap [] := va_S.rf
  have hl := lv_entry ([.ref (a 0), .int x1, .int x2, .int x3]) (n := 4) (Nat.le_of_ble_eq_true rfl)
  rw [lg_entry_eq]
  generalize (lg_sl ([.ref (a 0), .int x1, .int x2, .int x3]) ++ List.replicate (4 - (lg_sl ([.ref (a 0), .int x1, .int x2, .int x3])).length) Slot.unset).toArray = ls at hl ⊢
  have hl : lv_has ls 4 [(0, .ref (a 0)), (1, .int x1), (2, .int x2), (3, .int x3)] := hl
  refine oh_genQ (fun Q hQ => ?_)
  refine lv_aload_n hx hb dX7_daysOf_0 rfl (lv_at hl 0 rfl) ?_
  refine va_get (D := D) (ci := 7) (v := .ref (a 9)) (C := RX7) (T := TX7) (N := 29) hx hb htg ig_7 hown hK hP 0 (oh_wg (Nat.lt_of_lt_of_le (by decide) hn) (sM_0 hT)) rfl 10 (by decide) (htg _ q_983) (fun _ h9 => h9) rfl dX7_daysOf_1 ?_
  refine lv_iload_n hx hb dX7_daysOf_4 rfl (lv_at hl 3 rfl) ?_
  have n_1 : vp_in x3 24 := (rg_in hx3 (by decide))
  have b_2 : (x3).toNatClampNeg < 24 := vp_lt n_1
  refine th_aald hx hb hK hP 9 2 (Nat.lt_of_lt_of_le (by decide) hn) (sM_9 hT) rfl n_1 dX7_daysOf_5 ?_
  refine lv_iconst (v := 2) hx hb dX7_daysOf_6 (by decide) ?_
  refine th_iald hx hb hK hP (24 + (x3).toNatClampNeg) (lt_blk b_2 hn (by decide)) (hT.broad b_2).1 (rg_in (rg_c (v := 2) (lo := 2) (hi := 2) (by decide)) (by decide)) dX7_daysOf_7 ?_
  refine lv_bipush (v := 9) hx hb dX7_daysOf_8 (by decide) ?_
  refine lv_iadd hx hb dX7_daysOf_10 ?_
  refine lv_bipush (v := 10) hx hb dX7_daysOf_11 (by decide) ?_
  refine lv_idiv hx hb dX7_daysOf_13 (by decide) ?_
  refine lv_iconst (v := 3) hx hb dX7_daysOf_14 (by decide) ?_
  refine lv_aload_n hx hb dX7_daysOf_15 rfl (lv_at hl 0 rfl) ?_
  refine lv_iload_n hx hb dX7_daysOf_16 rfl (lv_at hl 1 rfl) ?_
  refine lv_iload_n hx hb dX7_daysOf_17 rfl (lv_at hl 2 rfl) ?_
  refine lv_iload_n hx hb dX7_daysOf_18 rfl (lv_at hl 3 rfl) ?_
  refine lv_iconst (v := 0) hx hb dX7_daysOf_19 (by decide) ?_
  refine tq_V (As := [.int x1, .int x2, .int x3, .int 0]) (rest := [.int 3, .int (((ga (C (24 + (x3).toNatClampNeg)) ((2 : Int32)).toNatClampNeg) + 9) / 10)]) (ws := (oh_W n a C)) ⟨hx, hb, hml, hown, htg⟩ (c_X7_propsOf l D E G a C n hn hT x1 x2 x3 (0 : Int32) (rg_w hx1 (by decide)) (rg_w (rg_c (v := 0) (lo := 0) (hi := 0) (by decide)) (by decide)) hw) (cwV 4 htg (oh_gV q_1330 q_1332 q_57 q_73 q_1333) rfl rfl rfl pdVX7_propsOf ⟨Nat.le_of_ble_eq_true rfl, Nat.le_of_ble_eq_true rfl⟩) hK hP hG hS (va_recv hK hP (ci := 7) (q0 := 0) rfl (oh_wg (Nat.lt_of_lt_of_le (by decide) hn) (sM_0 hT))) rfl hl.1 rfl (Nat.le_of_ble_eq_true rfl) dX7_daysOf_20 ⟨Nat.le_of_ble_eq_true rfl, Nat.le_of_ble_eq_true rfl⟩ (fun r_3 hq_4 => ?_)
  refine lv_imul hx hb dX7_daysOf_23 ?_
  refine lv_iadd hx hb dX7_daysOf_24 ?_
  rw [hQ]
  exact W.iret (v := (((ga (C (24 + (x3).toNatClampNeg)) ((2 : Int32)).toNatClampNeg) + 9) / 10) + (3 * r_3)) hx hb hr (fun t ht hW => ⟨(((ga (C (24 + (x3).toNatClampNeg)) ((2 : Int32)).toNatClampNeg) + 9) / 10) + (3 * r_3), rfl, trivial, ht⟩) (fun q h => by cases h) dX7_daysOf_25

set_option maxHeartbeats 4000000 in
set_option maxRecDepth 100000 in
theorem c_X7_findFar (l : Launch) (D : va_G) (E : Nat → ClassId) (G : Nat → Nat) (sz : Nat) (a : Nat → Nat) (C : Nat → va_E) (n : Nat) (hn : 74 ≤ n) (hT : TyM a E C) (x1 : Int32) (x2 : Int32) (x3 : Int32) (x4 : Int32) (hx1 : rg x1 0 4) (hx3 : rg x3 0 15) (hw : oh_pos C x1) : Met l yX7_findFar (oh_w yX7_findFar cX7_findFar 10 none) ({ frames := 5, cells := 0, slots := 0, locals := 123 }) (oh_Pm D E G [.ref (a 0), .int x1, .int x2, .int x3, .int x4] (oh_W n a C) sz) (va_Qv (fun (u : Nat → va_E) => TyM a E u ∧ fr [(15, 16)] [] C u ∧ True) (oh_B D (va_A (oh_W n a C) sz) (fun u => oh_W n a u)) (va_A (oh_W n a C) sz)) 0 0 (va_A (oh_W n a C) sz) := by
  refine Met.ofW (cc := cX7_findFar) (maxL := 10) (ret := none) (by decide) rfl ?_
  intro p e s m args below meth c s₁ B hml hv
  obtain ⟨rfl, hsz, hP, hK, hD0, hG⟩ := hv
  have hx := B.exec
  have hb := B.bytes
  have hr := B.returns
  have hts := atoms_spec (ws := (oh_w yX7_findFar cX7_findFar 10 none)) B.pre
  have htg : ∀ w ∈ oh_t, w.before _ s = true := fun w h => hts w (List.mem_cons_of_mem _ h)
  have hown : s.vm.findClass RX7 = some m.cls := findClass_of_methodNamed B.named
  have hlocks := B.notSynchronized
  have hT0 := hT
  subst hsz
  have hD := hD0.self (sz := s.heap.size)
  generalize hAe : va_A (oh_W n a C) s.heap.size = A at hD hG ⊢
  have hA : ∀ q : Nat, s.heap.size ≤ q → A q := fun q h => by rw [← hAe]; exact Or.inr h
  have hS : va_S A s.heap s.heap [] := va_S.rf
  have hF : fr [(15, 16)] [] C C := fr_rf
  have hl := lv_entry ([.ref (a 0), .int x1, .int x2, .int x3, .int x4]) (n := 10) (Nat.le_of_ble_eq_true rfl)
  rw [lg_entry_eq]
  generalize (lg_sl ([.ref (a 0), .int x1, .int x2, .int x3, .int x4]) ++ List.replicate (10 - (lg_sl ([.ref (a 0), .int x1, .int x2, .int x3, .int x4])).length) Slot.unset).toArray = ls at hl ⊢
  have hl : lv_has ls 10 [(0, .ref (a 0)), (1, .int x1), (2, .int x2), (3, .int x3), (4, .int x4)] := hl
  refine oh_genQ (fun Q hQ => ?_)
  refine lv_iconst (v := 0) hx hb dX7_findFar_0 (by decide) ?_
  refine lv_istore (lv' := [(5, .int 0), (0, .ref (a 0)), (1, .int x1), (2, .int x2), (3, .int x3), (4, .int x4)]) hx hb dX7_findFar_1 hl (by decide) rfl (fun ls hl => ?_)
  have L_3 : ∀ (d : Nat) (K3 : Nat → va_E) (z3_5 : Int32) (H : Heap) (locs : List Loc) (ls : Array Slot), (16 - z3_5.toInt).toNat = d → rg z3_5 0 16 → TyM a E K3 → fr [(15, 16)] [] C K3 → fr [(15, 16)] [] C K3 → va_P D vwCl (oh_W n a K3) H → va_D A (oh_W n a K3) → va_S A s.heap H locs → lv_has ls 10 [(5, .int z3_5), (0, .ref (a 0)), (1, .int x1), (2, .int x2), (3, .int x3), (4, .int x4)] → W p l e ({ frames := 5, cells := 0, slots := 0, locals := 123 }) s m (([.ref (a 0), .int x1, .int x2, .int x3, .int x4] : List Value).toArray) below meth c H locs 0 0 Q (F0 m 3 ls []) := by
    intro d
    induction d using Nat.strongRecOn with
    | ind d ih_3 =>
    intro K3 z3_5 H locs ls hd_3 hz3_5 hT hF hLF_3 hP hD hS hl
    have t_1 := hT
    refine lv_iload hx hb dX7_findFar_3 (lv_at hl 0 rfl) ?_
    refine lv_bipush (v := 16) hx hb dX7_findFar_5 (by decide) ?_
    refine lv_icmp_ge (tgt := 36) hx hb dX7_findFar_7 (by decide) (fun (c_2 : (16 : Int32) ≤ z3_5) => ?_) (fun (c_2 : ¬ ((16 : Int32) ≤ z3_5)) => ?_)
    · refine lv_iconst (v := 0) hx hb dX7_findFar_36 (by decide) ?_
      refine lv_istore (lv' := [(5, .int 0), (0, .ref (a 0)), (1, .int x1), (2, .int x2), (3, .int x3), (4, .int x4)]) hx hb dX7_findFar_37 hl (by decide) rfl (fun ls hl => ?_)
      have L_39 : ∀ (d : Nat) (K39 : Nat → va_E) (z39_5 : Int32) (H : Heap) (locs : List Loc) (ls : Array Slot), (16 - z39_5.toInt).toNat = d → rg z39_5 0 16 → TyM a E K39 → fr [(15, 16)] [] C K39 → fr [(15, 16)] [] K3 K39 → va_P D vwCl (oh_W n a K39) H → va_D A (oh_W n a K39) → va_S A s.heap H locs → lv_has ls 10 [(5, .int z39_5), (0, .ref (a 0)), (1, .int x1), (2, .int x2), (3, .int x3), (4, .int x4)] → W p l e ({ frames := 5, cells := 0, slots := 0, locals := 123 }) s m (([.ref (a 0), .int x1, .int x2, .int x3, .int x4] : List Value).toArray) below meth c H locs 0 0 Q (F0 m 39 ls []) := by
        intro d
        induction d using Nat.strongRecOn with
        | ind d ih_39 =>
        intro K39 z39_5 H locs ls hd_39 hz39_5 hT hF hLF_39 hP hD hS hl
        have t_3 := hT
        refine lv_iload hx hb dX7_findFar_39 (lv_at hl 0 rfl) ?_
        refine lv_bipush (v := 16) hx hb dX7_findFar_41 (by decide) ?_
        refine lv_icmp_ge (tgt := 231) hx hb dX7_findFar_43 (by decide) (fun (c_4 : (16 : Int32) ≤ z39_5) => ?_) (fun (c_4 : ¬ ((16 : Int32) ≤ z39_5)) => ?_)
        · rw [hQ]
          exact W.vret hx hb hr (fun t ht hW => ⟨⟨K39, rfl, ⟨hT, hF, trivial⟩, ⟨by rw [ht]; exact hP, hD⟩⟩, hS.F ht⟩) hS.2.2 dX7_findFar_231
        · refine lv_iconst (v := 0) hx hb dX7_findFar_46 (by decide) ?_
          refine lv_istore (lv' := [(6, .int 0), (5, .int z39_5), (0, .ref (a 0)), (1, .int x1), (2, .int x2), (3, .int x3), (4, .int x4)]) hx hb dX7_findFar_47 hl (by decide) rfl (fun ls hl => ?_)
          have L_49 : ∀ (d : Nat) (K49 : Nat → va_E) (z49_6 : Int32) (H : Heap) (locs : List Loc) (ls : Array Slot), (24 - z49_6.toInt).toNat = d → rg z49_6 0 24 → TyM a E K49 → fr [(15, 16)] [] C K49 → fr [(15, 16)] [] K39 K49 → va_P D vwCl (oh_W n a K49) H → va_D A (oh_W n a K49) → va_S A s.heap H locs → lv_has ls 10 [(6, .int z49_6), (5, .int z39_5), (0, .ref (a 0)), (1, .int x1), (2, .int x2), (3, .int x3), (4, .int x4)] → W p l e ({ frames := 5, cells := 0, slots := 0, locals := 123 }) s m (([.ref (a 0), .int x1, .int x2, .int x3, .int x4] : List Value).toArray) below meth c H locs 0 0 Q (F0 m 49 ls []) := by
            intro d
            induction d using Nat.strongRecOn with
            | ind d ih_49 =>
            intro K49 z49_6 H locs ls hd_49 hz49_6 hT hF hLF_49 hP hD hS hl
            have t_5 := hT
            refine lv_iload hx hb dX7_findFar_49 (lv_at hl 0 rfl) ?_
            refine lv_aload_n hx hb dX7_findFar_51 rfl (lv_at hl 2 rfl) ?_
            refine va_get (D := D) (ci := 7) (v := .int (gi (C 0) 9)) (C := RX7) (T := TX7) (N := 29) hx hb htg ig_7 hown hK hP 0 (oh_wg (Nat.lt_of_lt_of_le (by decide) hn) (sM_0 hT)) rfl 9 (by decide) (htg _ q_982) (fun _ h9 => h9) (oh_fv (c := K49 0) (j := 9) rfl (Eq.trans (congrArg vi (hLF_49.2 9 (by decide))) (Eq.trans (congrArg vi (hLF_39.2 9 (by decide))) (congrArg vi (hLF_3.2 9 (by decide)))))) dX7_findFar_52 ?_
            refine lv_icmp_ge (tgt := 225) hx hb dX7_findFar_55 (by decide) (fun (c_6 : (gi (C 0) 9) ≤ z49_6) => ?_) (fun (c_6 : ¬ ((gi (C 0) 9) ≤ z49_6)) => ?_)
            · refine lv_iinc (v := z39_5 + 1) (lv' := [(5, .int (z39_5 + 1)), (6, .int z49_6), (0, .ref (a 0)), (1, .int x1), (2, .int x2), (3, .int x3), (4, .int x4)]) hx hb dX7_findFar_225 hl (k := 1) rfl (by rfl) (by decide) rfl (fun ls hl => ?_)
              refine lv_goto (tgt := 39) hx hb dX7_findFar_228 (by decide) ?_
              exact ih_39 _ (hd_39 ▸ mu_up 16 (rn_ltu (u' := 15) (Int32.not_le.mp c_4) hz39_5 (rg_c (v := 16) (lo := 16) (hi := 16) (by decide)) (by decide)) (by decide)) K49 (z39_5 + 1) _ _ ls rfl (rg_w (rg_add (lo := 1) (hi := 16) (rn_ltu (u' := 15) (Int32.not_le.mp c_4) hz39_5 (rg_c (v := 16) (lo := 16) (hi := 16) (by decide)) (by decide)) (rg_c (v := 1) (lo := 1) (hi := 1) (by decide)) (by decide)) (by decide)) hT hF (fr_tr hLF_39 hLF_49 (by decide) (by decide)) hP hD hS (lv_sub hl [0, 2, 3, 4, 5, 6] rfl)
            · refine lv_aload_n hx hb dX7_findFar_58 rfl (lv_at hl 2 rfl) ?_
              refine lv_iload_n hx hb dX7_findFar_59 rfl (lv_at hl 3 rfl) ?_
              refine lv_iload_n hx hb dX7_findFar_60 rfl (lv_at hl 4 rfl) ?_
              refine lv_iload hx hb dX7_findFar_61 (lv_at hl 0 rfl) ?_
              refine tq_V (As := [.int x1, .int x2, .int z49_6]) (rest := []) (ws := (oh_W n a K49)) ⟨hx, hb, hml, hown, htg⟩ (c_X7_goesOf l D E G a K49 n hn hT x1 x2 z49_6 (rg_w hx1 (by decide)) (rg_w (rn_ltu (u' := 23) (Int32.not_le.mp c_6) hz49_6 (fM_0_9 hT0) (by decide)) (by decide)) (oh_posU (rg_w hx1 (by decide)) (fun i hi => hLF_49.1 _ (inR_out hi (by decide)) (by omega)) (oh_posU (rg_w hx1 (by decide)) (fun i hi => hLF_39.1 _ (inR_out hi (by decide)) (by omega)) (oh_posU (rg_w hx1 (by decide)) (fun i hi => hLF_3.1 _ (inR_out hi (by decide)) (by omega)) hw)))) (cwV 3 htg (oh_gV q_1318 q_1320 q_54 q_73 q_1321) rfl rfl rfl pdVX7_goesOf ⟨Nat.le_of_ble_eq_true rfl, Nat.le_of_ble_eq_true rfl⟩) hK hP hG hS (va_recv hK hP (ci := 7) (q0 := 0) rfl (oh_wg (Nat.lt_of_lt_of_le (by decide) hn) (sM_0 hT))) rfl hl.1 rfl (Nat.le_of_ble_eq_true rfl) dX7_findFar_63 ⟨Nat.le_of_ble_eq_true rfl, Nat.le_of_ble_eq_true rfl⟩ (fun r_7 hq_8 => ?_)
              refine lv_if_eq (tgt := 219) hx hb dX7_findFar_66 (by decide) (fun (c_9 : r_7 = 0) => ?_) (fun (c_9 : ¬ (r_7 = 0)) => ?_)
              · refine lv_iinc (v := z49_6 + 1) (lv' := [(6, .int (z49_6 + 1)), (5, .int z39_5), (0, .ref (a 0)), (1, .int x1), (2, .int x2), (3, .int x3), (4, .int x4)]) hx hb dX7_findFar_219 hl (k := 0) rfl (by rfl) (by decide) rfl (fun ls hl => ?_)
                refine lv_goto (tgt := 49) hx hb dX7_findFar_222 (by decide) ?_
                exact ih_49 _ (hd_49 ▸ mu_up 24 (rn_ltu (u' := 23) (Int32.not_le.mp c_6) hz49_6 (fM_0_9 hT0) (by decide)) (by decide)) K49 (z49_6 + 1) _ _ ls rfl (rg_w (rg_add (lo := 1) (hi := 24) (rn_ltu (u' := 23) (Int32.not_le.mp c_6) hz49_6 (fM_0_9 hT0) (by decide)) (rg_c (v := 1) (lo := 1) (hi := 1) (by decide)) (by decide)) (by decide)) hT hF hLF_49 hP hD hS (lv_sub hl [0, 1, 2, 3, 4, 5, 6] rfl)
              · refine lv_iload hx hb dX7_findFar_69 (lv_at hl 6 rfl) ?_
                refine lv_if_ne (tgt := 85) hx hb dX7_findFar_71 (by decide) (fun (c_10 : ¬ (x4 = 0)) => ?_) (fun (c_10 : x4 = 0) => ?_)
                · refine lv_aload_n hx hb dX7_findFar_85 rfl (lv_at hl 2 rfl) ?_
                  refine lv_iload_n hx hb dX7_findFar_86 rfl (lv_at hl 3 rfl) ?_
                  refine lv_iload_n hx hb dX7_findFar_87 rfl (lv_at hl 4 rfl) ?_
                  refine lv_iload hx hb dX7_findFar_88 (lv_at hl 0 rfl) ?_
                  refine lv_iload hx hb dX7_findFar_90 (lv_at hl 6 rfl) ?_
                  refine tq_V (As := [.int x1, .int x2, .int z49_6, .int x4]) (rest := []) (ws := (oh_W n a K49)) ⟨hx, hb, hml, hown, htg⟩ (c_X7_coinOf l D E G a K49 n hn hT x1 x2 z49_6 x4 (rg_w hx1 (by decide)) (rg_w (rn_ltu (u' := 23) (Int32.not_le.mp c_6) hz49_6 (fM_0_9 hT0) (by decide)) (by decide)) (oh_posU (rg_w hx1 (by decide)) (fun i hi => hLF_49.1 _ (inR_out hi (by decide)) (by omega)) (oh_posU (rg_w hx1 (by decide)) (fun i hi => hLF_39.1 _ (inR_out hi (by decide)) (by omega)) (oh_posU (rg_w hx1 (by decide)) (fun i hi => hLF_3.1 _ (inR_out hi (by decide)) (by omega)) hw)))) (cwV 4 htg (oh_gV q_1326 q_1328 q_56 q_73 q_1329) rfl rfl rfl pdVX7_coinOf ⟨Nat.le_of_ble_eq_true rfl, Nat.le_of_ble_eq_true rfl⟩) hK hP hG hS (va_recv hK hP (ci := 7) (q0 := 0) rfl (oh_wg (Nat.lt_of_lt_of_le (by decide) hn) (sM_0 hT))) rfl hl.1 rfl (Nat.le_of_ble_eq_true rfl) dX7_findFar_92 ⟨Nat.le_of_ble_eq_true rfl, Nat.le_of_ble_eq_true rfl⟩ (fun r_11 hq_12 => ?_)
                  refine lv_istore (lv' := [(7, .int r_11), (6, .int z49_6), (5, .int z39_5), (0, .ref (a 0)), (1, .int x1), (2, .int x2), (3, .int x3), (4, .int x4)]) hx hb dX7_findFar_95 hl (by decide) rfl (fun ls hl => ?_)
                  refine lv_aload_n hx hb dX7_findFar_97 rfl (lv_at hl 3 rfl) ?_
                  refine va_get (D := D) (ci := 7) (v := .ref (a 9)) (C := RX7) (T := TX7) (N := 29) hx hb htg ig_7 hown hK hP 0 (oh_wg (Nat.lt_of_lt_of_le (by decide) hn) (sM_0 hT)) rfl 10 (by decide) (htg _ q_983) (fun _ h9 => h9) rfl dX7_findFar_98 ?_
                  refine lv_iload hx hb dX7_findFar_101 (lv_at hl 1 rfl) ?_
                  have n_13 : vp_in z49_6 24 := (rg_in (rn_ltu (u' := 23) (Int32.not_le.mp c_6) hz49_6 (fM_0_9 hT0) (by decide)) (by decide))
                  have b_14 : (z49_6).toNatClampNeg < 24 := vp_lt n_13
                  refine th_aald hx hb hK hP 9 2 (Nat.lt_of_lt_of_le (by decide) hn) (sM_9 hT) rfl n_13 dX7_findFar_103 ?_
                  refine lv_iconst (v := 0) hx hb dX7_findFar_104 (by decide) ?_
                  refine th_iald hx hb hK hP (24 + (z49_6).toNatClampNeg) (lt_blk b_14 hn (by decide)) (Eq.trans (Eq.trans (hLF_49.1 (24 + (z49_6).toNatClampNeg) (by have h9 := b_14; exact inR_out h9 (by decide)) (by omega)) (Eq.trans (hLF_39.1 (24 + (z49_6).toNatClampNeg) (by have h9 := b_14; exact inR_out h9 (by decide)) (by omega)) (hLF_3.1 (24 + (z49_6).toNatClampNeg) (by have h9 := b_14; exact inR_out h9 (by decide)) (by omega)))) (hT0.broad b_14).1) (rg_in (rg_c (v := 0) (lo := 0) (hi := 0) (by decide)) (by decide)) dX7_findFar_105 ?_
                  refine lv_istore (lv' := [(8, .int (ga (C (24 + (z49_6).toNatClampNeg)) ((0 : Int32)).toNatClampNeg)), (7, .int r_11), (6, .int z49_6), (5, .int z39_5), (0, .ref (a 0)), (1, .int x1), (2, .int x2), (3, .int x3), (4, .int x4)]) hx hb dX7_findFar_106 hl (by decide) rfl (fun ls hl => ?_)
                  refine lv_aload_n hx hb dX7_findFar_108 rfl (lv_at hl 4 rfl) ?_
                  refine va_get (D := D) (ci := 7) (v := .ref (a 9)) (C := RX7) (T := TX7) (N := 29) hx hb htg ig_7 hown hK hP 0 (oh_wg (Nat.lt_of_lt_of_le (by decide) hn) (sM_0 hT)) rfl 10 (by decide) (htg _ q_983) (fun _ h9 => h9) rfl dX7_findFar_109 ?_
                  refine lv_iload hx hb dX7_findFar_112 (lv_at hl 2 rfl) ?_
                  have n_15 : vp_in z49_6 24 := (rg_in (rn_ltu (u' := 23) (Int32.not_le.mp c_6) hz49_6 (fM_0_9 hT0) (by decide)) (by decide))
                  have b_16 : (z49_6).toNatClampNeg < 24 := vp_lt n_15
                  refine th_aald hx hb hK hP 9 2 (Nat.lt_of_lt_of_le (by decide) hn) (sM_9 hT) rfl n_15 dX7_findFar_114 ?_
                  refine lv_iconst (v := 1) hx hb dX7_findFar_115 (by decide) ?_
                  refine th_iald hx hb hK hP (24 + (z49_6).toNatClampNeg) (lt_blk b_16 hn (by decide)) (Eq.trans (Eq.trans (hLF_49.1 (24 + (z49_6).toNatClampNeg) (by have h9 := b_16; exact inR_out h9 (by decide)) (by omega)) (Eq.trans (hLF_39.1 (24 + (z49_6).toNatClampNeg) (by have h9 := b_16; exact inR_out h9 (by decide)) (by omega)) (hLF_3.1 (24 + (z49_6).toNatClampNeg) (by have h9 := b_16; exact inR_out h9 (by decide)) (by omega)))) (hT0.broad b_16).1) (rg_in (rg_c (v := 1) (lo := 1) (hi := 1) (by decide)) (by decide)) dX7_findFar_116 ?_
                  refine lv_istore (lv' := [(9, .int (ga (C (24 + (z49_6).toNatClampNeg)) ((1 : Int32)).toNatClampNeg)), (8, .int (ga (C (24 + (z49_6).toNatClampNeg)) ((0 : Int32)).toNatClampNeg)), (7, .int r_11), (6, .int z49_6), (5, .int z39_5), (0, .ref (a 0)), (1, .int x1), (2, .int x2), (3, .int x3), (4, .int x4)]) hx hb dX7_findFar_117 hl (by decide) rfl (fun ls hl => ?_)
                  refine lv_aload_n hx hb dX7_findFar_119 rfl (lv_at hl 5 rfl) ?_
                  refine va_get (D := D) (ci := 7) (v := .ref (a 15)) (C := RX7) (T := TX7) (N := 29) hx hb htg ig_7 hown hK hP 0 (oh_wg (Nat.lt_of_lt_of_le (by decide) hn) (sM_0 hT)) rfl 27 (by decide) (htg _ q_1000) (fun _ h9 => h9) rfl dX7_findFar_120 ?_
                  refine lv_iload hx hb dX7_findFar_123 (lv_at hl 1 rfl) ?_
                  refine lv_aload_n hx hb dX7_findFar_125 rfl (lv_at hl 5 rfl) ?_
                  refine va_get (D := D) (ci := 7) (v := .ref (a 15)) (C := RX7) (T := TX7) (N := 29) hx hb htg ig_7 hown hK hP 0 (oh_wg (Nat.lt_of_lt_of_le (by decide) hn) (sM_0 hT)) rfl 27 (by decide) (htg _ q_1000) (fun _ h9 => h9) rfl dX7_findFar_126 ?_
                  refine lv_iload hx hb dX7_findFar_129 (lv_at hl 0 rfl) ?_
                  have n_17 : vp_in (ga (C (24 + (z49_6).toNatClampNeg)) ((1 : Int32)).toNatClampNeg) 16 := (rg_in (tA_rdc (lo := 0) (hi := 15) (hT0.broad b_16) (rg_in (rg_c (v := 1) (lo := 1) (hi := 1) (by decide)) (by decide)) (show _ = 1 by decide) (by decide)) (by decide))
                  refine th_lald hx hb hK hP 15 (Nat.lt_of_lt_of_le (by decide) hn) (sM_15 hT) n_17 dX7_findFar_131 ?_
                  refine lv_iload hx hb dX7_findFar_132 (lv_at hl 2 rfl) ?_
                  refine lv_i2l (v := Int32.toInt64 r_11) hx hb dX7_findFar_134 (by rfl) ?_
                  refine lv_ladd hx hb dX7_findFar_135 ?_
                  refine lv_aload_n hx hb dX7_findFar_136 rfl (lv_at hl 5 rfl) ?_
                  refine va_get (D := D) (ci := 7) (v := .ref (a 15)) (C := RX7) (T := TX7) (N := 29) hx hb htg ig_7 hown hK hP 0 (oh_wg (Nat.lt_of_lt_of_le (by decide) hn) (sM_0 hT)) rfl 27 (by decide) (htg _ q_1000) (fun _ h9 => h9) rfl dX7_findFar_137 ?_
                  refine lv_iload hx hb dX7_findFar_140 (lv_at hl 1 rfl) ?_
                  have n_18 : vp_in (ga (C (24 + (z49_6).toNatClampNeg)) ((0 : Int32)).toNatClampNeg) 16 := (rg_in (tA_rdc (lo := 0) (hi := 15) (hT0.broad b_14) (rg_in (rg_c (v := 0) (lo := 0) (hi := 0) (by decide)) (by decide)) (show _ = 0 by decide) (by decide)) (by decide))
                  refine th_lald hx hb hK hP 15 (Nat.lt_of_lt_of_le (by decide) hn) (sM_15 hT) n_18 dX7_findFar_142 ?_
                  refine W.lcmp hx hb dX7_findFar_143 ?_
                  refine lv_if_ge (tgt := 161) hx hb dX7_findFar_144 (by decide) (fun (c_19 : (0 : Int32) ≤ (lg_cmp ((gb (K49 15) (ga (C (24 + (z49_6).toNatClampNeg)) ((1 : Int32)).toNatClampNeg).toNatClampNeg) + (Int32.toInt64 r_11)) (gb (K49 15) (ga (C (24 + (z49_6).toNatClampNeg)) ((0 : Int32)).toNatClampNeg).toNatClampNeg))) => ?_) (fun (c_19 : ¬ ((0 : Int32) ≤ (lg_cmp ((gb (K49 15) (ga (C (24 + (z49_6).toNatClampNeg)) ((1 : Int32)).toNatClampNeg).toNatClampNeg) + (Int32.toInt64 r_11)) (gb (K49 15) (ga (C (24 + (z49_6).toNatClampNeg)) ((0 : Int32)).toNatClampNeg).toNatClampNeg)))) => ?_)
                  · refine lv_aload_n hx hb dX7_findFar_161 rfl (lv_at hl 5 rfl) ?_
                    refine va_get (D := D) (ci := 7) (v := .ref (a 15)) (C := RX7) (T := TX7) (N := 29) hx hb htg ig_7 hown hK hP 0 (oh_wg (Nat.lt_of_lt_of_le (by decide) hn) (sM_0 hT)) rfl 27 (by decide) (htg _ q_1000) (fun _ h9 => h9) rfl dX7_findFar_162 ?_
                    refine lv_iload hx hb dX7_findFar_165 (lv_at hl 1 rfl) ?_
                    have n_20 : vp_in (ga (C (24 + (z49_6).toNatClampNeg)) ((0 : Int32)).toNatClampNeg) 16 := (rg_in (tA_rdc (lo := 0) (hi := 15) (hT0.broad b_14) (rg_in (rg_c (v := 0) (lo := 0) (hi := 0) (by decide)) (by decide)) (show _ = 0 by decide) (by decide)) (by decide))
                    refine th_lald hx hb hK hP 15 (Nat.lt_of_lt_of_le (by decide) hn) (sM_15 hT) n_20 dX7_findFar_167 ?_
                    have n_21 : vp_in (ga (C (24 + (z49_6).toNatClampNeg)) ((0 : Int32)).toNatClampNeg) 16 := (rg_in (tA_rdc (lo := 0) (hi := 15) (hT0.broad b_14) (rg_in (rg_c (v := 0) (lo := 0) (hi := 0) (by decide)) (by decide)) (show _ = 0 by decide) (by decide)) (by decide))
                    refine th_last (T := TyM a E) (Rl := fr [(15, 16)] [] C) hx hb hK hP hD hS 15 (Nat.lt_of_lt_of_le (by decide) hn) (sM_15 hT) n_21 (hT.up 15 (by decide) rfl) (fr_st hF (by decide) (by decide)) dX7_findFar_168 (fun C_22 H locs e_23 hT hF hP hD hS => ?_)
                    have t_24 := hT
                    refine lv_aload_n hx hb dX7_findFar_169 rfl (lv_at hl 5 rfl) ?_
                    refine va_get (D := D) (ci := 7) (v := .ref (a 15)) (C := RX7) (T := TX7) (N := 29) hx hb htg ig_7 hown hK hP 0 (oh_wg (Nat.lt_of_lt_of_le (by decide) hn) (sM_0 hT)) rfl 27 (by decide) (htg _ q_1000) (fun _ h9 => h9) rfl dX7_findFar_170 ?_
                    refine lv_iload hx hb dX7_findFar_173 (lv_at hl 0 rfl) ?_
                    refine lv_aload_n hx hb dX7_findFar_175 rfl (lv_at hl 5 rfl) ?_
                    refine va_get (D := D) (ci := 7) (v := .ref (a 15)) (C := RX7) (T := TX7) (N := 29) hx hb htg ig_7 hown hK hP 0 (oh_wg (Nat.lt_of_lt_of_le (by decide) hn) (sM_0 hT)) rfl 27 (by decide) (htg _ q_1000) (fun _ h9 => h9) rfl dX7_findFar_176 ?_
                    refine lv_iload hx hb dX7_findFar_179 (lv_at hl 1 rfl) ?_
                    have n_25 : vp_in (ga (C (24 + (z49_6).toNatClampNeg)) ((0 : Int32)).toNatClampNeg) 16 := (rg_in (tA_rdc (lo := 0) (hi := 15) (hT0.broad b_14) (rg_in (rg_c (v := 0) (lo := 0) (hi := 0) (by decide)) (by decide)) (show _ = 0 by decide) (by decide)) (by decide))
                    refine th_lald hx hb hK hP 15 (Nat.lt_of_lt_of_le (by decide) hn) (sM_15 hT) n_25 dX7_findFar_181 ?_
                    refine lv_iload hx hb dX7_findFar_182 (lv_at hl 2 rfl) ?_
                    refine lv_i2l (v := Int32.toInt64 r_11) hx hb dX7_findFar_184 (by rfl) ?_
                    refine lv_ladd hx hb dX7_findFar_185 ?_
                    refine lv_aload_n hx hb dX7_findFar_186 rfl (lv_at hl 5 rfl) ?_
                    refine va_get (D := D) (ci := 7) (v := .ref (a 15)) (C := RX7) (T := TX7) (N := 29) hx hb htg ig_7 hown hK hP 0 (oh_wg (Nat.lt_of_lt_of_le (by decide) hn) (sM_0 hT)) rfl 27 (by decide) (htg _ q_1000) (fun _ h9 => h9) rfl dX7_findFar_187 ?_
                    refine lv_iload hx hb dX7_findFar_190 (lv_at hl 0 rfl) ?_
                    have n_26 : vp_in (ga (C (24 + (z49_6).toNatClampNeg)) ((1 : Int32)).toNatClampNeg) 16 := (rg_in (tA_rdc (lo := 0) (hi := 15) (hT0.broad b_16) (rg_in (rg_c (v := 1) (lo := 1) (hi := 1) (by decide)) (by decide)) (show _ = 1 by decide) (by decide)) (by decide))
                    refine th_lald hx hb hK hP 15 (Nat.lt_of_lt_of_le (by decide) hn) (sM_15 hT) n_26 dX7_findFar_192 ?_
                    refine W.lcmp hx hb dX7_findFar_193 ?_
                    refine lv_if_ge (tgt := 211) hx hb dX7_findFar_194 (by decide) (fun (c_27 : (0 : Int32) ≤ (lg_cmp ((gb (C_22 15) (ga (C (24 + (z49_6).toNatClampNeg)) ((0 : Int32)).toNatClampNeg).toNatClampNeg) + (Int32.toInt64 r_11)) (gb (C_22 15) (ga (C (24 + (z49_6).toNatClampNeg)) ((1 : Int32)).toNatClampNeg).toNatClampNeg))) => ?_) (fun (c_27 : ¬ ((0 : Int32) ≤ (lg_cmp ((gb (C_22 15) (ga (C (24 + (z49_6).toNatClampNeg)) ((0 : Int32)).toNatClampNeg).toNatClampNeg) + (Int32.toInt64 r_11)) (gb (C_22 15) (ga (C (24 + (z49_6).toNatClampNeg)) ((1 : Int32)).toNatClampNeg).toNatClampNeg)))) => ?_)
                    · refine lv_aload_n hx hb dX7_findFar_211 rfl (lv_at hl 5 rfl) ?_
                      refine va_get (D := D) (ci := 7) (v := .ref (a 15)) (C := RX7) (T := TX7) (N := 29) hx hb htg ig_7 hown hK hP 0 (oh_wg (Nat.lt_of_lt_of_le (by decide) hn) (sM_0 hT)) rfl 27 (by decide) (htg _ q_1000) (fun _ h9 => h9) rfl dX7_findFar_212 ?_
                      refine lv_iload hx hb dX7_findFar_215 (lv_at hl 0 rfl) ?_
                      have n_28 : vp_in (ga (C (24 + (z49_6).toNatClampNeg)) ((1 : Int32)).toNatClampNeg) 16 := (rg_in (tA_rdc (lo := 0) (hi := 15) (hT0.broad b_16) (rg_in (rg_c (v := 1) (lo := 1) (hi := 1) (by decide)) (by decide)) (show _ = 1 by decide) (by decide)) (by decide))
                      refine th_lald hx hb hK hP 15 (Nat.lt_of_lt_of_le (by decide) hn) (sM_15 hT) n_28 dX7_findFar_217 ?_
                      have n_29 : vp_in (ga (C (24 + (z49_6).toNatClampNeg)) ((1 : Int32)).toNatClampNeg) 16 := (rg_in (tA_rdc (lo := 0) (hi := 15) (hT0.broad b_16) (rg_in (rg_c (v := 1) (lo := 1) (hi := 1) (by decide)) (by decide)) (show _ = 1 by decide) (by decide)) (by decide))
                      refine th_last (T := TyM a E) (Rl := fr [(15, 16)] [] C) hx hb hK hP hD hS 15 (Nat.lt_of_lt_of_le (by decide) hn) (sM_15 hT) n_29 (hT.up 15 (by decide) rfl) (fr_st hF (by decide) (by decide)) dX7_findFar_218 (fun C_30 H locs e_31 hT hF hP hD hS => ?_)
                      have t_32 := hT
                      refine lv_iinc (v := z49_6 + 1) (lv' := [(6, .int (z49_6 + 1)), (9, .int (ga (C (24 + (z49_6).toNatClampNeg)) ((1 : Int32)).toNatClampNeg)), (8, .int (ga (C (24 + (z49_6).toNatClampNeg)) ((0 : Int32)).toNatClampNeg)), (7, .int r_11), (5, .int z39_5), (0, .ref (a 0)), (1, .int x1), (2, .int x2), (3, .int x3), (4, .int x4)]) hx hb dX7_findFar_219 hl (k := 3) rfl (by rfl) (by decide) rfl (fun ls hl => ?_)
                      refine lv_goto (tgt := 49) hx hb dX7_findFar_222 (by decide) ?_
                      exact ih_49 _ (hd_49 ▸ mu_up 24 (rn_ltu (u' := 23) (Int32.not_le.mp c_6) hz49_6 (fM_0_9 hT0) (by decide)) (by decide)) C_30 (z49_6 + 1) _ _ ls rfl (rg_w (rg_add (lo := 1) (hi := 24) (rn_ltu (u' := 23) (Int32.not_le.mp c_6) hz49_6 (fM_0_9 hT0) (by decide)) (rg_c (v := 1) (lo := 1) (hi := 1) (by decide)) (by decide)) (by decide)) hT hF (fr_ste (fr_ste hLF_49 e_23 (by decide) (by decide)) e_31 (by decide) (by decide)) hP hD hS (lv_sub hl [0, 4, 5, 6, 7, 8, 9] rfl)
                    · refine lv_aload_n hx hb dX7_findFar_197 rfl (lv_at hl 5 rfl) ?_
                      refine va_get (D := D) (ci := 7) (v := .ref (a 15)) (C := RX7) (T := TX7) (N := 29) hx hb htg ig_7 hown hK hP 0 (oh_wg (Nat.lt_of_lt_of_le (by decide) hn) (sM_0 hT)) rfl 27 (by decide) (htg _ q_1000) (fun _ h9 => h9) rfl dX7_findFar_198 ?_
                      refine lv_iload hx hb dX7_findFar_201 (lv_at hl 1 rfl) ?_
                      have n_33 : vp_in (ga (C (24 + (z49_6).toNatClampNeg)) ((0 : Int32)).toNatClampNeg) 16 := (rg_in (tA_rdc (lo := 0) (hi := 15) (hT0.broad b_14) (rg_in (rg_c (v := 0) (lo := 0) (hi := 0) (by decide)) (by decide)) (show _ = 0 by decide) (by decide)) (by decide))
                      refine th_lald hx hb hK hP 15 (Nat.lt_of_lt_of_le (by decide) hn) (sM_15 hT) n_33 dX7_findFar_203 ?_
                      refine lv_iload hx hb dX7_findFar_204 (lv_at hl 2 rfl) ?_
                      refine lv_i2l (v := Int32.toInt64 r_11) hx hb dX7_findFar_206 (by rfl) ?_
                      refine lv_ladd hx hb dX7_findFar_207 ?_
                      refine lv_goto (tgt := 218) hx hb dX7_findFar_208 (by decide) ?_
                      have n_34 : vp_in (ga (C (24 + (z49_6).toNatClampNeg)) ((1 : Int32)).toNatClampNeg) 16 := (rg_in (tA_rdc (lo := 0) (hi := 15) (hT0.broad b_16) (rg_in (rg_c (v := 1) (lo := 1) (hi := 1) (by decide)) (by decide)) (show _ = 1 by decide) (by decide)) (by decide))
                      refine th_last (T := TyM a E) (Rl := fr [(15, 16)] [] C) hx hb hK hP hD hS 15 (Nat.lt_of_lt_of_le (by decide) hn) (sM_15 hT) n_34 (hT.up 15 (by decide) rfl) (fr_st hF (by decide) (by decide)) dX7_findFar_218 (fun C_35 H locs e_36 hT hF hP hD hS => ?_)
                      have t_37 := hT
                      refine lv_iinc (v := z49_6 + 1) (lv' := [(6, .int (z49_6 + 1)), (9, .int (ga (C (24 + (z49_6).toNatClampNeg)) ((1 : Int32)).toNatClampNeg)), (8, .int (ga (C (24 + (z49_6).toNatClampNeg)) ((0 : Int32)).toNatClampNeg)), (7, .int r_11), (5, .int z39_5), (0, .ref (a 0)), (1, .int x1), (2, .int x2), (3, .int x3), (4, .int x4)]) hx hb dX7_findFar_219 hl (k := 3) rfl (by rfl) (by decide) rfl (fun ls hl => ?_)
                      refine lv_goto (tgt := 49) hx hb dX7_findFar_222 (by decide) ?_
                      exact ih_49 _ (hd_49 ▸ mu_up 24 (rn_ltu (u' := 23) (Int32.not_le.mp c_6) hz49_6 (fM_0_9 hT0) (by decide)) (by decide)) C_35 (z49_6 + 1) _ _ ls rfl (rg_w (rg_add (lo := 1) (hi := 24) (rn_ltu (u' := 23) (Int32.not_le.mp c_6) hz49_6 (fM_0_9 hT0) (by decide)) (rg_c (v := 1) (lo := 1) (hi := 1) (by decide)) (by decide)) (by decide)) hT hF (fr_ste (fr_ste hLF_49 e_23 (by decide) (by decide)) e_36 (by decide) (by decide)) hP hD hS (lv_sub hl [0, 4, 5, 6, 7, 8, 9] rfl)
                  · refine lv_aload_n hx hb dX7_findFar_147 rfl (lv_at hl 5 rfl) ?_
                    refine va_get (D := D) (ci := 7) (v := .ref (a 15)) (C := RX7) (T := TX7) (N := 29) hx hb htg ig_7 hown hK hP 0 (oh_wg (Nat.lt_of_lt_of_le (by decide) hn) (sM_0 hT)) rfl 27 (by decide) (htg _ q_1000) (fun _ h9 => h9) rfl dX7_findFar_148 ?_
                    refine lv_iload hx hb dX7_findFar_151 (lv_at hl 0 rfl) ?_
                    have n_38 : vp_in (ga (C (24 + (z49_6).toNatClampNeg)) ((1 : Int32)).toNatClampNeg) 16 := (rg_in (tA_rdc (lo := 0) (hi := 15) (hT0.broad b_16) (rg_in (rg_c (v := 1) (lo := 1) (hi := 1) (by decide)) (by decide)) (show _ = 1 by decide) (by decide)) (by decide))
                    refine th_lald hx hb hK hP 15 (Nat.lt_of_lt_of_le (by decide) hn) (sM_15 hT) n_38 dX7_findFar_153 ?_
                    refine lv_iload hx hb dX7_findFar_154 (lv_at hl 2 rfl) ?_
                    refine lv_i2l (v := Int32.toInt64 r_11) hx hb dX7_findFar_156 (by rfl) ?_
                    refine lv_ladd hx hb dX7_findFar_157 ?_
                    refine lv_goto (tgt := 168) hx hb dX7_findFar_158 (by decide) ?_
                    have n_39 : vp_in (ga (C (24 + (z49_6).toNatClampNeg)) ((0 : Int32)).toNatClampNeg) 16 := (rg_in (tA_rdc (lo := 0) (hi := 15) (hT0.broad b_14) (rg_in (rg_c (v := 0) (lo := 0) (hi := 0) (by decide)) (by decide)) (show _ = 0 by decide) (by decide)) (by decide))
                    refine th_last (T := TyM a E) (Rl := fr [(15, 16)] [] C) hx hb hK hP hD hS 15 (Nat.lt_of_lt_of_le (by decide) hn) (sM_15 hT) n_39 (hT.up 15 (by decide) rfl) (fr_st hF (by decide) (by decide)) dX7_findFar_168 (fun C_40 H locs e_41 hT hF hP hD hS => ?_)
                    have t_42 := hT
                    refine lv_aload_n hx hb dX7_findFar_169 rfl (lv_at hl 5 rfl) ?_
                    refine va_get (D := D) (ci := 7) (v := .ref (a 15)) (C := RX7) (T := TX7) (N := 29) hx hb htg ig_7 hown hK hP 0 (oh_wg (Nat.lt_of_lt_of_le (by decide) hn) (sM_0 hT)) rfl 27 (by decide) (htg _ q_1000) (fun _ h9 => h9) rfl dX7_findFar_170 ?_
                    refine lv_iload hx hb dX7_findFar_173 (lv_at hl 0 rfl) ?_
                    refine lv_aload_n hx hb dX7_findFar_175 rfl (lv_at hl 5 rfl) ?_
                    refine va_get (D := D) (ci := 7) (v := .ref (a 15)) (C := RX7) (T := TX7) (N := 29) hx hb htg ig_7 hown hK hP 0 (oh_wg (Nat.lt_of_lt_of_le (by decide) hn) (sM_0 hT)) rfl 27 (by decide) (htg _ q_1000) (fun _ h9 => h9) rfl dX7_findFar_176 ?_
                    refine lv_iload hx hb dX7_findFar_179 (lv_at hl 1 rfl) ?_
                    have n_43 : vp_in (ga (C (24 + (z49_6).toNatClampNeg)) ((0 : Int32)).toNatClampNeg) 16 := (rg_in (tA_rdc (lo := 0) (hi := 15) (hT0.broad b_14) (rg_in (rg_c (v := 0) (lo := 0) (hi := 0) (by decide)) (by decide)) (show _ = 0 by decide) (by decide)) (by decide))
                    refine th_lald hx hb hK hP 15 (Nat.lt_of_lt_of_le (by decide) hn) (sM_15 hT) n_43 dX7_findFar_181 ?_
                    refine lv_iload hx hb dX7_findFar_182 (lv_at hl 2 rfl) ?_
                    refine lv_i2l (v := Int32.toInt64 r_11) hx hb dX7_findFar_184 (by rfl) ?_
                    refine lv_ladd hx hb dX7_findFar_185 ?_
                    refine lv_aload_n hx hb dX7_findFar_186 rfl (lv_at hl 5 rfl) ?_
                    refine va_get (D := D) (ci := 7) (v := .ref (a 15)) (C := RX7) (T := TX7) (N := 29) hx hb htg ig_7 hown hK hP 0 (oh_wg (Nat.lt_of_lt_of_le (by decide) hn) (sM_0 hT)) rfl 27 (by decide) (htg _ q_1000) (fun _ h9 => h9) rfl dX7_findFar_187 ?_
                    refine lv_iload hx hb dX7_findFar_190 (lv_at hl 0 rfl) ?_
                    have n_44 : vp_in (ga (C (24 + (z49_6).toNatClampNeg)) ((1 : Int32)).toNatClampNeg) 16 := (rg_in (tA_rdc (lo := 0) (hi := 15) (hT0.broad b_16) (rg_in (rg_c (v := 1) (lo := 1) (hi := 1) (by decide)) (by decide)) (show _ = 1 by decide) (by decide)) (by decide))
                    refine th_lald hx hb hK hP 15 (Nat.lt_of_lt_of_le (by decide) hn) (sM_15 hT) n_44 dX7_findFar_192 ?_
                    refine W.lcmp hx hb dX7_findFar_193 ?_
                    refine lv_if_ge (tgt := 211) hx hb dX7_findFar_194 (by decide) (fun (c_45 : (0 : Int32) ≤ (lg_cmp ((gb (C_40 15) (ga (C (24 + (z49_6).toNatClampNeg)) ((0 : Int32)).toNatClampNeg).toNatClampNeg) + (Int32.toInt64 r_11)) (gb (C_40 15) (ga (C (24 + (z49_6).toNatClampNeg)) ((1 : Int32)).toNatClampNeg).toNatClampNeg))) => ?_) (fun (c_45 : ¬ ((0 : Int32) ≤ (lg_cmp ((gb (C_40 15) (ga (C (24 + (z49_6).toNatClampNeg)) ((0 : Int32)).toNatClampNeg).toNatClampNeg) + (Int32.toInt64 r_11)) (gb (C_40 15) (ga (C (24 + (z49_6).toNatClampNeg)) ((1 : Int32)).toNatClampNeg).toNatClampNeg)))) => ?_)
                    · refine lv_aload_n hx hb dX7_findFar_211 rfl (lv_at hl 5 rfl) ?_
                      refine va_get (D := D) (ci := 7) (v := .ref (a 15)) (C := RX7) (T := TX7) (N := 29) hx hb htg ig_7 hown hK hP 0 (oh_wg (Nat.lt_of_lt_of_le (by decide) hn) (sM_0 hT)) rfl 27 (by decide) (htg _ q_1000) (fun _ h9 => h9) rfl dX7_findFar_212 ?_
                      refine lv_iload hx hb dX7_findFar_215 (lv_at hl 0 rfl) ?_
                      have n_46 : vp_in (ga (C (24 + (z49_6).toNatClampNeg)) ((1 : Int32)).toNatClampNeg) 16 := (rg_in (tA_rdc (lo := 0) (hi := 15) (hT0.broad b_16) (rg_in (rg_c (v := 1) (lo := 1) (hi := 1) (by decide)) (by decide)) (show _ = 1 by decide) (by decide)) (by decide))
                      refine th_lald hx hb hK hP 15 (Nat.lt_of_lt_of_le (by decide) hn) (sM_15 hT) n_46 dX7_findFar_217 ?_
                      have n_47 : vp_in (ga (C (24 + (z49_6).toNatClampNeg)) ((1 : Int32)).toNatClampNeg) 16 := (rg_in (tA_rdc (lo := 0) (hi := 15) (hT0.broad b_16) (rg_in (rg_c (v := 1) (lo := 1) (hi := 1) (by decide)) (by decide)) (show _ = 1 by decide) (by decide)) (by decide))
                      refine th_last (T := TyM a E) (Rl := fr [(15, 16)] [] C) hx hb hK hP hD hS 15 (Nat.lt_of_lt_of_le (by decide) hn) (sM_15 hT) n_47 (hT.up 15 (by decide) rfl) (fr_st hF (by decide) (by decide)) dX7_findFar_218 (fun C_48 H locs e_49 hT hF hP hD hS => ?_)
                      have t_50 := hT
                      refine lv_iinc (v := z49_6 + 1) (lv' := [(6, .int (z49_6 + 1)), (9, .int (ga (C (24 + (z49_6).toNatClampNeg)) ((1 : Int32)).toNatClampNeg)), (8, .int (ga (C (24 + (z49_6).toNatClampNeg)) ((0 : Int32)).toNatClampNeg)), (7, .int r_11), (5, .int z39_5), (0, .ref (a 0)), (1, .int x1), (2, .int x2), (3, .int x3), (4, .int x4)]) hx hb dX7_findFar_219 hl (k := 3) rfl (by rfl) (by decide) rfl (fun ls hl => ?_)
                      refine lv_goto (tgt := 49) hx hb dX7_findFar_222 (by decide) ?_
                      exact ih_49 _ (hd_49 ▸ mu_up 24 (rn_ltu (u' := 23) (Int32.not_le.mp c_6) hz49_6 (fM_0_9 hT0) (by decide)) (by decide)) C_48 (z49_6 + 1) _ _ ls rfl (rg_w (rg_add (lo := 1) (hi := 24) (rn_ltu (u' := 23) (Int32.not_le.mp c_6) hz49_6 (fM_0_9 hT0) (by decide)) (rg_c (v := 1) (lo := 1) (hi := 1) (by decide)) (by decide)) (by decide)) hT hF (fr_ste (fr_ste hLF_49 e_41 (by decide) (by decide)) e_49 (by decide) (by decide)) hP hD hS (lv_sub hl [0, 4, 5, 6, 7, 8, 9] rfl)
                    · refine lv_aload_n hx hb dX7_findFar_197 rfl (lv_at hl 5 rfl) ?_
                      refine va_get (D := D) (ci := 7) (v := .ref (a 15)) (C := RX7) (T := TX7) (N := 29) hx hb htg ig_7 hown hK hP 0 (oh_wg (Nat.lt_of_lt_of_le (by decide) hn) (sM_0 hT)) rfl 27 (by decide) (htg _ q_1000) (fun _ h9 => h9) rfl dX7_findFar_198 ?_
                      refine lv_iload hx hb dX7_findFar_201 (lv_at hl 1 rfl) ?_
                      have n_51 : vp_in (ga (C (24 + (z49_6).toNatClampNeg)) ((0 : Int32)).toNatClampNeg) 16 := (rg_in (tA_rdc (lo := 0) (hi := 15) (hT0.broad b_14) (rg_in (rg_c (v := 0) (lo := 0) (hi := 0) (by decide)) (by decide)) (show _ = 0 by decide) (by decide)) (by decide))
                      refine th_lald hx hb hK hP 15 (Nat.lt_of_lt_of_le (by decide) hn) (sM_15 hT) n_51 dX7_findFar_203 ?_
                      refine lv_iload hx hb dX7_findFar_204 (lv_at hl 2 rfl) ?_
                      refine lv_i2l (v := Int32.toInt64 r_11) hx hb dX7_findFar_206 (by rfl) ?_
                      refine lv_ladd hx hb dX7_findFar_207 ?_
                      refine lv_goto (tgt := 218) hx hb dX7_findFar_208 (by decide) ?_
                      have n_52 : vp_in (ga (C (24 + (z49_6).toNatClampNeg)) ((1 : Int32)).toNatClampNeg) 16 := (rg_in (tA_rdc (lo := 0) (hi := 15) (hT0.broad b_16) (rg_in (rg_c (v := 1) (lo := 1) (hi := 1) (by decide)) (by decide)) (show _ = 1 by decide) (by decide)) (by decide))
                      refine th_last (T := TyM a E) (Rl := fr [(15, 16)] [] C) hx hb hK hP hD hS 15 (Nat.lt_of_lt_of_le (by decide) hn) (sM_15 hT) n_52 (hT.up 15 (by decide) rfl) (fr_st hF (by decide) (by decide)) dX7_findFar_218 (fun C_53 H locs e_54 hT hF hP hD hS => ?_)
                      have t_55 := hT
                      refine lv_iinc (v := z49_6 + 1) (lv' := [(6, .int (z49_6 + 1)), (9, .int (ga (C (24 + (z49_6).toNatClampNeg)) ((1 : Int32)).toNatClampNeg)), (8, .int (ga (C (24 + (z49_6).toNatClampNeg)) ((0 : Int32)).toNatClampNeg)), (7, .int r_11), (5, .int z39_5), (0, .ref (a 0)), (1, .int x1), (2, .int x2), (3, .int x3), (4, .int x4)]) hx hb dX7_findFar_219 hl (k := 3) rfl (by rfl) (by decide) rfl (fun ls hl => ?_)
                      refine lv_goto (tgt := 49) hx hb dX7_findFar_222 (by decide) ?_
                      exact ih_49 _ (hd_49 ▸ mu_up 24 (rn_ltu (u' := 23) (Int32.not_le.mp c_6) hz49_6 (fM_0_9 hT0) (by decide)) (by decide)) C_53 (z49_6 + 1) _ _ ls rfl (rg_w (rg_add (lo := 1) (hi := 24) (rn_ltu (u' := 23) (Int32.not_le.mp c_6) hz49_6 (fM_0_9 hT0) (by decide)) (rg_c (v := 1) (lo := 1) (hi := 1) (by decide)) (by decide)) (by decide)) hT hF (fr_ste (fr_ste hLF_49 e_41 (by decide) (by decide)) e_54 (by decide) (by decide)) hP hD hS (lv_sub hl [0, 4, 5, 6, 7, 8, 9] rfl)
                · refine lv_aload_n hx hb dX7_findFar_74 rfl (lv_at hl 2 rfl) ?_
                  refine lv_iload_n hx hb dX7_findFar_75 rfl (lv_at hl 3 rfl) ?_
                  refine lv_iload_n hx hb dX7_findFar_76 rfl (lv_at hl 4 rfl) ?_
                  refine lv_iload hx hb dX7_findFar_77 (lv_at hl 0 rfl) ?_
                  refine tq_V (As := [.int x1, .int x2, .int z49_6]) (rest := []) (ws := (oh_W n a K49)) ⟨hx, hb, hml, hown, htg⟩ (c_X7_daysOf l D E G a K49 n hn hT x1 x2 z49_6 (rg_w hx1 (by decide)) (rg_w (rn_ltu (u' := 23) (Int32.not_le.mp c_6) hz49_6 (fM_0_9 hT0) (by decide)) (by decide)) (oh_posU (rg_w hx1 (by decide)) (fun i hi => hLF_49.1 _ (inR_out hi (by decide)) (by omega)) (oh_posU (rg_w hx1 (by decide)) (fun i hi => hLF_39.1 _ (inR_out hi (by decide)) (by omega)) (oh_posU (rg_w hx1 (by decide)) (fun i hi => hLF_3.1 _ (inR_out hi (by decide)) (by omega)) hw)))) (cwV 3 htg (oh_gV q_1334 q_1336 q_58 q_73 q_1337) rfl rfl rfl pdVX7_daysOf ⟨Nat.le_of_ble_eq_true rfl, Nat.le_of_ble_eq_true rfl⟩) hK hP hG hS (va_recv hK hP (ci := 7) (q0 := 0) rfl (oh_wg (Nat.lt_of_lt_of_le (by decide) hn) (sM_0 hT))) rfl hl.1 rfl (Nat.le_of_ble_eq_true rfl) dX7_findFar_79 ⟨Nat.le_of_ble_eq_true rfl, Nat.le_of_ble_eq_true rfl⟩ (fun r_56 hq_57 => ?_)
                  refine lv_goto (tgt := 95) hx hb dX7_findFar_82 (by decide) ?_
                  refine lv_istore (lv' := [(7, .int r_56), (6, .int z49_6), (5, .int z39_5), (0, .ref (a 0)), (1, .int x1), (2, .int x2), (3, .int x3), (4, .int x4)]) hx hb dX7_findFar_95 hl (by decide) rfl (fun ls hl => ?_)
                  refine lv_aload_n hx hb dX7_findFar_97 rfl (lv_at hl 3 rfl) ?_
                  refine va_get (D := D) (ci := 7) (v := .ref (a 9)) (C := RX7) (T := TX7) (N := 29) hx hb htg ig_7 hown hK hP 0 (oh_wg (Nat.lt_of_lt_of_le (by decide) hn) (sM_0 hT)) rfl 10 (by decide) (htg _ q_983) (fun _ h9 => h9) rfl dX7_findFar_98 ?_
                  refine lv_iload hx hb dX7_findFar_101 (lv_at hl 1 rfl) ?_
                  have n_58 : vp_in z49_6 24 := (rg_in (rn_ltu (u' := 23) (Int32.not_le.mp c_6) hz49_6 (fM_0_9 hT0) (by decide)) (by decide))
                  have b_59 : (z49_6).toNatClampNeg < 24 := vp_lt n_58
                  refine th_aald hx hb hK hP 9 2 (Nat.lt_of_lt_of_le (by decide) hn) (sM_9 hT) rfl n_58 dX7_findFar_103 ?_
                  refine lv_iconst (v := 0) hx hb dX7_findFar_104 (by decide) ?_
                  refine th_iald hx hb hK hP (24 + (z49_6).toNatClampNeg) (lt_blk b_59 hn (by decide)) (Eq.trans (Eq.trans (hLF_49.1 (24 + (z49_6).toNatClampNeg) (by have h9 := b_59; exact inR_out h9 (by decide)) (by omega)) (Eq.trans (hLF_39.1 (24 + (z49_6).toNatClampNeg) (by have h9 := b_59; exact inR_out h9 (by decide)) (by omega)) (hLF_3.1 (24 + (z49_6).toNatClampNeg) (by have h9 := b_59; exact inR_out h9 (by decide)) (by omega)))) (hT0.broad b_59).1) (rg_in (rg_c (v := 0) (lo := 0) (hi := 0) (by decide)) (by decide)) dX7_findFar_105 ?_
                  refine lv_istore (lv' := [(8, .int (ga (C (24 + (z49_6).toNatClampNeg)) ((0 : Int32)).toNatClampNeg)), (7, .int r_56), (6, .int z49_6), (5, .int z39_5), (0, .ref (a 0)), (1, .int x1), (2, .int x2), (3, .int x3), (4, .int x4)]) hx hb dX7_findFar_106 hl (by decide) rfl (fun ls hl => ?_)
                  refine lv_aload_n hx hb dX7_findFar_108 rfl (lv_at hl 4 rfl) ?_
                  refine va_get (D := D) (ci := 7) (v := .ref (a 9)) (C := RX7) (T := TX7) (N := 29) hx hb htg ig_7 hown hK hP 0 (oh_wg (Nat.lt_of_lt_of_le (by decide) hn) (sM_0 hT)) rfl 10 (by decide) (htg _ q_983) (fun _ h9 => h9) rfl dX7_findFar_109 ?_
                  refine lv_iload hx hb dX7_findFar_112 (lv_at hl 2 rfl) ?_
                  have n_60 : vp_in z49_6 24 := (rg_in (rn_ltu (u' := 23) (Int32.not_le.mp c_6) hz49_6 (fM_0_9 hT0) (by decide)) (by decide))
                  have b_61 : (z49_6).toNatClampNeg < 24 := vp_lt n_60
                  refine th_aald hx hb hK hP 9 2 (Nat.lt_of_lt_of_le (by decide) hn) (sM_9 hT) rfl n_60 dX7_findFar_114 ?_
                  refine lv_iconst (v := 1) hx hb dX7_findFar_115 (by decide) ?_
                  refine th_iald hx hb hK hP (24 + (z49_6).toNatClampNeg) (lt_blk b_61 hn (by decide)) (Eq.trans (Eq.trans (hLF_49.1 (24 + (z49_6).toNatClampNeg) (by have h9 := b_61; exact inR_out h9 (by decide)) (by omega)) (Eq.trans (hLF_39.1 (24 + (z49_6).toNatClampNeg) (by have h9 := b_61; exact inR_out h9 (by decide)) (by omega)) (hLF_3.1 (24 + (z49_6).toNatClampNeg) (by have h9 := b_61; exact inR_out h9 (by decide)) (by omega)))) (hT0.broad b_61).1) (rg_in (rg_c (v := 1) (lo := 1) (hi := 1) (by decide)) (by decide)) dX7_findFar_116 ?_
                  refine lv_istore (lv' := [(9, .int (ga (C (24 + (z49_6).toNatClampNeg)) ((1 : Int32)).toNatClampNeg)), (8, .int (ga (C (24 + (z49_6).toNatClampNeg)) ((0 : Int32)).toNatClampNeg)), (7, .int r_56), (6, .int z49_6), (5, .int z39_5), (0, .ref (a 0)), (1, .int x1), (2, .int x2), (3, .int x3), (4, .int x4)]) hx hb dX7_findFar_117 hl (by decide) rfl (fun ls hl => ?_)
                  refine lv_aload_n hx hb dX7_findFar_119 rfl (lv_at hl 5 rfl) ?_
                  refine va_get (D := D) (ci := 7) (v := .ref (a 15)) (C := RX7) (T := TX7) (N := 29) hx hb htg ig_7 hown hK hP 0 (oh_wg (Nat.lt_of_lt_of_le (by decide) hn) (sM_0 hT)) rfl 27 (by decide) (htg _ q_1000) (fun _ h9 => h9) rfl dX7_findFar_120 ?_
                  refine lv_iload hx hb dX7_findFar_123 (lv_at hl 1 rfl) ?_
                  refine lv_aload_n hx hb dX7_findFar_125 rfl (lv_at hl 5 rfl) ?_
                  refine va_get (D := D) (ci := 7) (v := .ref (a 15)) (C := RX7) (T := TX7) (N := 29) hx hb htg ig_7 hown hK hP 0 (oh_wg (Nat.lt_of_lt_of_le (by decide) hn) (sM_0 hT)) rfl 27 (by decide) (htg _ q_1000) (fun _ h9 => h9) rfl dX7_findFar_126 ?_
                  refine lv_iload hx hb dX7_findFar_129 (lv_at hl 0 rfl) ?_
                  have n_62 : vp_in (ga (C (24 + (z49_6).toNatClampNeg)) ((1 : Int32)).toNatClampNeg) 16 := (rg_in (tA_rdc (lo := 0) (hi := 15) (hT0.broad b_61) (rg_in (rg_c (v := 1) (lo := 1) (hi := 1) (by decide)) (by decide)) (show _ = 1 by decide) (by decide)) (by decide))
                  refine th_lald hx hb hK hP 15 (Nat.lt_of_lt_of_le (by decide) hn) (sM_15 hT) n_62 dX7_findFar_131 ?_
                  refine lv_iload hx hb dX7_findFar_132 (lv_at hl 2 rfl) ?_
                  refine lv_i2l (v := Int32.toInt64 r_56) hx hb dX7_findFar_134 (by rfl) ?_
                  refine lv_ladd hx hb dX7_findFar_135 ?_
                  refine lv_aload_n hx hb dX7_findFar_136 rfl (lv_at hl 5 rfl) ?_
                  refine va_get (D := D) (ci := 7) (v := .ref (a 15)) (C := RX7) (T := TX7) (N := 29) hx hb htg ig_7 hown hK hP 0 (oh_wg (Nat.lt_of_lt_of_le (by decide) hn) (sM_0 hT)) rfl 27 (by decide) (htg _ q_1000) (fun _ h9 => h9) rfl dX7_findFar_137 ?_
                  refine lv_iload hx hb dX7_findFar_140 (lv_at hl 1 rfl) ?_
                  have n_63 : vp_in (ga (C (24 + (z49_6).toNatClampNeg)) ((0 : Int32)).toNatClampNeg) 16 := (rg_in (tA_rdc (lo := 0) (hi := 15) (hT0.broad b_59) (rg_in (rg_c (v := 0) (lo := 0) (hi := 0) (by decide)) (by decide)) (show _ = 0 by decide) (by decide)) (by decide))
                  refine th_lald hx hb hK hP 15 (Nat.lt_of_lt_of_le (by decide) hn) (sM_15 hT) n_63 dX7_findFar_142 ?_
                  refine W.lcmp hx hb dX7_findFar_143 ?_
                  refine lv_if_ge (tgt := 161) hx hb dX7_findFar_144 (by decide) (fun (c_64 : (0 : Int32) ≤ (lg_cmp ((gb (K49 15) (ga (C (24 + (z49_6).toNatClampNeg)) ((1 : Int32)).toNatClampNeg).toNatClampNeg) + (Int32.toInt64 r_56)) (gb (K49 15) (ga (C (24 + (z49_6).toNatClampNeg)) ((0 : Int32)).toNatClampNeg).toNatClampNeg))) => ?_) (fun (c_64 : ¬ ((0 : Int32) ≤ (lg_cmp ((gb (K49 15) (ga (C (24 + (z49_6).toNatClampNeg)) ((1 : Int32)).toNatClampNeg).toNatClampNeg) + (Int32.toInt64 r_56)) (gb (K49 15) (ga (C (24 + (z49_6).toNatClampNeg)) ((0 : Int32)).toNatClampNeg).toNatClampNeg)))) => ?_)
                  · refine lv_aload_n hx hb dX7_findFar_161 rfl (lv_at hl 5 rfl) ?_
                    refine va_get (D := D) (ci := 7) (v := .ref (a 15)) (C := RX7) (T := TX7) (N := 29) hx hb htg ig_7 hown hK hP 0 (oh_wg (Nat.lt_of_lt_of_le (by decide) hn) (sM_0 hT)) rfl 27 (by decide) (htg _ q_1000) (fun _ h9 => h9) rfl dX7_findFar_162 ?_
                    refine lv_iload hx hb dX7_findFar_165 (lv_at hl 1 rfl) ?_
                    have n_65 : vp_in (ga (C (24 + (z49_6).toNatClampNeg)) ((0 : Int32)).toNatClampNeg) 16 := (rg_in (tA_rdc (lo := 0) (hi := 15) (hT0.broad b_59) (rg_in (rg_c (v := 0) (lo := 0) (hi := 0) (by decide)) (by decide)) (show _ = 0 by decide) (by decide)) (by decide))
                    refine th_lald hx hb hK hP 15 (Nat.lt_of_lt_of_le (by decide) hn) (sM_15 hT) n_65 dX7_findFar_167 ?_
                    have n_66 : vp_in (ga (C (24 + (z49_6).toNatClampNeg)) ((0 : Int32)).toNatClampNeg) 16 := (rg_in (tA_rdc (lo := 0) (hi := 15) (hT0.broad b_59) (rg_in (rg_c (v := 0) (lo := 0) (hi := 0) (by decide)) (by decide)) (show _ = 0 by decide) (by decide)) (by decide))
                    refine th_last (T := TyM a E) (Rl := fr [(15, 16)] [] C) hx hb hK hP hD hS 15 (Nat.lt_of_lt_of_le (by decide) hn) (sM_15 hT) n_66 (hT.up 15 (by decide) rfl) (fr_st hF (by decide) (by decide)) dX7_findFar_168 (fun C_67 H locs e_68 hT hF hP hD hS => ?_)
                    have t_69 := hT
                    refine lv_aload_n hx hb dX7_findFar_169 rfl (lv_at hl 5 rfl) ?_
                    refine va_get (D := D) (ci := 7) (v := .ref (a 15)) (C := RX7) (T := TX7) (N := 29) hx hb htg ig_7 hown hK hP 0 (oh_wg (Nat.lt_of_lt_of_le (by decide) hn) (sM_0 hT)) rfl 27 (by decide) (htg _ q_1000) (fun _ h9 => h9) rfl dX7_findFar_170 ?_
                    refine lv_iload hx hb dX7_findFar_173 (lv_at hl 0 rfl) ?_
                    refine lv_aload_n hx hb dX7_findFar_175 rfl (lv_at hl 5 rfl) ?_
                    refine va_get (D := D) (ci := 7) (v := .ref (a 15)) (C := RX7) (T := TX7) (N := 29) hx hb htg ig_7 hown hK hP 0 (oh_wg (Nat.lt_of_lt_of_le (by decide) hn) (sM_0 hT)) rfl 27 (by decide) (htg _ q_1000) (fun _ h9 => h9) rfl dX7_findFar_176 ?_
                    refine lv_iload hx hb dX7_findFar_179 (lv_at hl 1 rfl) ?_
                    have n_70 : vp_in (ga (C (24 + (z49_6).toNatClampNeg)) ((0 : Int32)).toNatClampNeg) 16 := (rg_in (tA_rdc (lo := 0) (hi := 15) (hT0.broad b_59) (rg_in (rg_c (v := 0) (lo := 0) (hi := 0) (by decide)) (by decide)) (show _ = 0 by decide) (by decide)) (by decide))
                    refine th_lald hx hb hK hP 15 (Nat.lt_of_lt_of_le (by decide) hn) (sM_15 hT) n_70 dX7_findFar_181 ?_
                    refine lv_iload hx hb dX7_findFar_182 (lv_at hl 2 rfl) ?_
                    refine lv_i2l (v := Int32.toInt64 r_56) hx hb dX7_findFar_184 (by rfl) ?_
                    refine lv_ladd hx hb dX7_findFar_185 ?_
                    refine lv_aload_n hx hb dX7_findFar_186 rfl (lv_at hl 5 rfl) ?_
                    refine va_get (D := D) (ci := 7) (v := .ref (a 15)) (C := RX7) (T := TX7) (N := 29) hx hb htg ig_7 hown hK hP 0 (oh_wg (Nat.lt_of_lt_of_le (by decide) hn) (sM_0 hT)) rfl 27 (by decide) (htg _ q_1000) (fun _ h9 => h9) rfl dX7_findFar_187 ?_
                    refine lv_iload hx hb dX7_findFar_190 (lv_at hl 0 rfl) ?_
                    have n_71 : vp_in (ga (C (24 + (z49_6).toNatClampNeg)) ((1 : Int32)).toNatClampNeg) 16 := (rg_in (tA_rdc (lo := 0) (hi := 15) (hT0.broad b_61) (rg_in (rg_c (v := 1) (lo := 1) (hi := 1) (by decide)) (by decide)) (show _ = 1 by decide) (by decide)) (by decide))
                    refine th_lald hx hb hK hP 15 (Nat.lt_of_lt_of_le (by decide) hn) (sM_15 hT) n_71 dX7_findFar_192 ?_
                    refine W.lcmp hx hb dX7_findFar_193 ?_
                    refine lv_if_ge (tgt := 211) hx hb dX7_findFar_194 (by decide) (fun (c_72 : (0 : Int32) ≤ (lg_cmp ((gb (C_67 15) (ga (C (24 + (z49_6).toNatClampNeg)) ((0 : Int32)).toNatClampNeg).toNatClampNeg) + (Int32.toInt64 r_56)) (gb (C_67 15) (ga (C (24 + (z49_6).toNatClampNeg)) ((1 : Int32)).toNatClampNeg).toNatClampNeg))) => ?_) (fun (c_72 : ¬ ((0 : Int32) ≤ (lg_cmp ((gb (C_67 15) (ga (C (24 + (z49_6).toNatClampNeg)) ((0 : Int32)).toNatClampNeg).toNatClampNeg) + (Int32.toInt64 r_56)) (gb (C_67 15) (ga (C (24 + (z49_6).toNatClampNeg)) ((1 : Int32)).toNatClampNeg).toNatClampNeg)))) => ?_)
                    · refine lv_aload_n hx hb dX7_findFar_211 rfl (lv_at hl 5 rfl) ?_
                      refine va_get (D := D) (ci := 7) (v := .ref (a 15)) (C := RX7) (T := TX7) (N := 29) hx hb htg ig_7 hown hK hP 0 (oh_wg (Nat.lt_of_lt_of_le (by decide) hn) (sM_0 hT)) rfl 27 (by decide) (htg _ q_1000) (fun _ h9 => h9) rfl dX7_findFar_212 ?_
                      refine lv_iload hx hb dX7_findFar_215 (lv_at hl 0 rfl) ?_
                      have n_73 : vp_in (ga (C (24 + (z49_6).toNatClampNeg)) ((1 : Int32)).toNatClampNeg) 16 := (rg_in (tA_rdc (lo := 0) (hi := 15) (hT0.broad b_61) (rg_in (rg_c (v := 1) (lo := 1) (hi := 1) (by decide)) (by decide)) (show _ = 1 by decide) (by decide)) (by decide))
                      refine th_lald hx hb hK hP 15 (Nat.lt_of_lt_of_le (by decide) hn) (sM_15 hT) n_73 dX7_findFar_217 ?_
                      have n_74 : vp_in (ga (C (24 + (z49_6).toNatClampNeg)) ((1 : Int32)).toNatClampNeg) 16 := (rg_in (tA_rdc (lo := 0) (hi := 15) (hT0.broad b_61) (rg_in (rg_c (v := 1) (lo := 1) (hi := 1) (by decide)) (by decide)) (show _ = 1 by decide) (by decide)) (by decide))
                      refine th_last (T := TyM a E) (Rl := fr [(15, 16)] [] C) hx hb hK hP hD hS 15 (Nat.lt_of_lt_of_le (by decide) hn) (sM_15 hT) n_74 (hT.up 15 (by decide) rfl) (fr_st hF (by decide) (by decide)) dX7_findFar_218 (fun C_75 H locs e_76 hT hF hP hD hS => ?_)
                      have t_77 := hT
                      refine lv_iinc (v := z49_6 + 1) (lv' := [(6, .int (z49_6 + 1)), (9, .int (ga (C (24 + (z49_6).toNatClampNeg)) ((1 : Int32)).toNatClampNeg)), (8, .int (ga (C (24 + (z49_6).toNatClampNeg)) ((0 : Int32)).toNatClampNeg)), (7, .int r_56), (5, .int z39_5), (0, .ref (a 0)), (1, .int x1), (2, .int x2), (3, .int x3), (4, .int x4)]) hx hb dX7_findFar_219 hl (k := 3) rfl (by rfl) (by decide) rfl (fun ls hl => ?_)
                      refine lv_goto (tgt := 49) hx hb dX7_findFar_222 (by decide) ?_
                      exact ih_49 _ (hd_49 ▸ mu_up 24 (rn_ltu (u' := 23) (Int32.not_le.mp c_6) hz49_6 (fM_0_9 hT0) (by decide)) (by decide)) C_75 (z49_6 + 1) _ _ ls rfl (rg_w (rg_add (lo := 1) (hi := 24) (rn_ltu (u' := 23) (Int32.not_le.mp c_6) hz49_6 (fM_0_9 hT0) (by decide)) (rg_c (v := 1) (lo := 1) (hi := 1) (by decide)) (by decide)) (by decide)) hT hF (fr_ste (fr_ste hLF_49 e_68 (by decide) (by decide)) e_76 (by decide) (by decide)) hP hD hS (lv_sub hl [0, 4, 5, 6, 7, 8, 9] rfl)
                    · refine lv_aload_n hx hb dX7_findFar_197 rfl (lv_at hl 5 rfl) ?_
                      refine va_get (D := D) (ci := 7) (v := .ref (a 15)) (C := RX7) (T := TX7) (N := 29) hx hb htg ig_7 hown hK hP 0 (oh_wg (Nat.lt_of_lt_of_le (by decide) hn) (sM_0 hT)) rfl 27 (by decide) (htg _ q_1000) (fun _ h9 => h9) rfl dX7_findFar_198 ?_
                      refine lv_iload hx hb dX7_findFar_201 (lv_at hl 1 rfl) ?_
                      have n_78 : vp_in (ga (C (24 + (z49_6).toNatClampNeg)) ((0 : Int32)).toNatClampNeg) 16 := (rg_in (tA_rdc (lo := 0) (hi := 15) (hT0.broad b_59) (rg_in (rg_c (v := 0) (lo := 0) (hi := 0) (by decide)) (by decide)) (show _ = 0 by decide) (by decide)) (by decide))
                      refine th_lald hx hb hK hP 15 (Nat.lt_of_lt_of_le (by decide) hn) (sM_15 hT) n_78 dX7_findFar_203 ?_
                      refine lv_iload hx hb dX7_findFar_204 (lv_at hl 2 rfl) ?_
                      refine lv_i2l (v := Int32.toInt64 r_56) hx hb dX7_findFar_206 (by rfl) ?_
                      refine lv_ladd hx hb dX7_findFar_207 ?_
                      refine lv_goto (tgt := 218) hx hb dX7_findFar_208 (by decide) ?_
                      have n_79 : vp_in (ga (C (24 + (z49_6).toNatClampNeg)) ((1 : Int32)).toNatClampNeg) 16 := (rg_in (tA_rdc (lo := 0) (hi := 15) (hT0.broad b_61) (rg_in (rg_c (v := 1) (lo := 1) (hi := 1) (by decide)) (by decide)) (show _ = 1 by decide) (by decide)) (by decide))
                      refine th_last (T := TyM a E) (Rl := fr [(15, 16)] [] C) hx hb hK hP hD hS 15 (Nat.lt_of_lt_of_le (by decide) hn) (sM_15 hT) n_79 (hT.up 15 (by decide) rfl) (fr_st hF (by decide) (by decide)) dX7_findFar_218 (fun C_80 H locs e_81 hT hF hP hD hS => ?_)
                      have t_82 := hT
                      refine lv_iinc (v := z49_6 + 1) (lv' := [(6, .int (z49_6 + 1)), (9, .int (ga (C (24 + (z49_6).toNatClampNeg)) ((1 : Int32)).toNatClampNeg)), (8, .int (ga (C (24 + (z49_6).toNatClampNeg)) ((0 : Int32)).toNatClampNeg)), (7, .int r_56), (5, .int z39_5), (0, .ref (a 0)), (1, .int x1), (2, .int x2), (3, .int x3), (4, .int x4)]) hx hb dX7_findFar_219 hl (k := 3) rfl (by rfl) (by decide) rfl (fun ls hl => ?_)
                      refine lv_goto (tgt := 49) hx hb dX7_findFar_222 (by decide) ?_
                      exact ih_49 _ (hd_49 ▸ mu_up 24 (rn_ltu (u' := 23) (Int32.not_le.mp c_6) hz49_6 (fM_0_9 hT0) (by decide)) (by decide)) C_80 (z49_6 + 1) _ _ ls rfl (rg_w (rg_add (lo := 1) (hi := 24) (rn_ltu (u' := 23) (Int32.not_le.mp c_6) hz49_6 (fM_0_9 hT0) (by decide)) (rg_c (v := 1) (lo := 1) (hi := 1) (by decide)) (by decide)) (by decide)) hT hF (fr_ste (fr_ste hLF_49 e_68 (by decide) (by decide)) e_81 (by decide) (by decide)) hP hD hS (lv_sub hl [0, 4, 5, 6, 7, 8, 9] rfl)
                  · refine lv_aload_n hx hb dX7_findFar_147 rfl (lv_at hl 5 rfl) ?_
                    refine va_get (D := D) (ci := 7) (v := .ref (a 15)) (C := RX7) (T := TX7) (N := 29) hx hb htg ig_7 hown hK hP 0 (oh_wg (Nat.lt_of_lt_of_le (by decide) hn) (sM_0 hT)) rfl 27 (by decide) (htg _ q_1000) (fun _ h9 => h9) rfl dX7_findFar_148 ?_
                    refine lv_iload hx hb dX7_findFar_151 (lv_at hl 0 rfl) ?_
                    have n_83 : vp_in (ga (C (24 + (z49_6).toNatClampNeg)) ((1 : Int32)).toNatClampNeg) 16 := (rg_in (tA_rdc (lo := 0) (hi := 15) (hT0.broad b_61) (rg_in (rg_c (v := 1) (lo := 1) (hi := 1) (by decide)) (by decide)) (show _ = 1 by decide) (by decide)) (by decide))
                    refine th_lald hx hb hK hP 15 (Nat.lt_of_lt_of_le (by decide) hn) (sM_15 hT) n_83 dX7_findFar_153 ?_
                    refine lv_iload hx hb dX7_findFar_154 (lv_at hl 2 rfl) ?_
                    refine lv_i2l (v := Int32.toInt64 r_56) hx hb dX7_findFar_156 (by rfl) ?_
                    refine lv_ladd hx hb dX7_findFar_157 ?_
                    refine lv_goto (tgt := 168) hx hb dX7_findFar_158 (by decide) ?_
                    have n_84 : vp_in (ga (C (24 + (z49_6).toNatClampNeg)) ((0 : Int32)).toNatClampNeg) 16 := (rg_in (tA_rdc (lo := 0) (hi := 15) (hT0.broad b_59) (rg_in (rg_c (v := 0) (lo := 0) (hi := 0) (by decide)) (by decide)) (show _ = 0 by decide) (by decide)) (by decide))
                    refine th_last (T := TyM a E) (Rl := fr [(15, 16)] [] C) hx hb hK hP hD hS 15 (Nat.lt_of_lt_of_le (by decide) hn) (sM_15 hT) n_84 (hT.up 15 (by decide) rfl) (fr_st hF (by decide) (by decide)) dX7_findFar_168 (fun C_85 H locs e_86 hT hF hP hD hS => ?_)
                    have t_87 := hT
                    refine lv_aload_n hx hb dX7_findFar_169 rfl (lv_at hl 5 rfl) ?_
                    refine va_get (D := D) (ci := 7) (v := .ref (a 15)) (C := RX7) (T := TX7) (N := 29) hx hb htg ig_7 hown hK hP 0 (oh_wg (Nat.lt_of_lt_of_le (by decide) hn) (sM_0 hT)) rfl 27 (by decide) (htg _ q_1000) (fun _ h9 => h9) rfl dX7_findFar_170 ?_
                    refine lv_iload hx hb dX7_findFar_173 (lv_at hl 0 rfl) ?_
                    refine lv_aload_n hx hb dX7_findFar_175 rfl (lv_at hl 5 rfl) ?_
                    refine va_get (D := D) (ci := 7) (v := .ref (a 15)) (C := RX7) (T := TX7) (N := 29) hx hb htg ig_7 hown hK hP 0 (oh_wg (Nat.lt_of_lt_of_le (by decide) hn) (sM_0 hT)) rfl 27 (by decide) (htg _ q_1000) (fun _ h9 => h9) rfl dX7_findFar_176 ?_
                    refine lv_iload hx hb dX7_findFar_179 (lv_at hl 1 rfl) ?_
                    have n_88 : vp_in (ga (C (24 + (z49_6).toNatClampNeg)) ((0 : Int32)).toNatClampNeg) 16 := (rg_in (tA_rdc (lo := 0) (hi := 15) (hT0.broad b_59) (rg_in (rg_c (v := 0) (lo := 0) (hi := 0) (by decide)) (by decide)) (show _ = 0 by decide) (by decide)) (by decide))
                    refine th_lald hx hb hK hP 15 (Nat.lt_of_lt_of_le (by decide) hn) (sM_15 hT) n_88 dX7_findFar_181 ?_
                    refine lv_iload hx hb dX7_findFar_182 (lv_at hl 2 rfl) ?_
                    refine lv_i2l (v := Int32.toInt64 r_56) hx hb dX7_findFar_184 (by rfl) ?_
                    refine lv_ladd hx hb dX7_findFar_185 ?_
                    refine lv_aload_n hx hb dX7_findFar_186 rfl (lv_at hl 5 rfl) ?_
                    refine va_get (D := D) (ci := 7) (v := .ref (a 15)) (C := RX7) (T := TX7) (N := 29) hx hb htg ig_7 hown hK hP 0 (oh_wg (Nat.lt_of_lt_of_le (by decide) hn) (sM_0 hT)) rfl 27 (by decide) (htg _ q_1000) (fun _ h9 => h9) rfl dX7_findFar_187 ?_
                    refine lv_iload hx hb dX7_findFar_190 (lv_at hl 0 rfl) ?_
                    have n_89 : vp_in (ga (C (24 + (z49_6).toNatClampNeg)) ((1 : Int32)).toNatClampNeg) 16 := (rg_in (tA_rdc (lo := 0) (hi := 15) (hT0.broad b_61) (rg_in (rg_c (v := 1) (lo := 1) (hi := 1) (by decide)) (by decide)) (show _ = 1 by decide) (by decide)) (by decide))
                    refine th_lald hx hb hK hP 15 (Nat.lt_of_lt_of_le (by decide) hn) (sM_15 hT) n_89 dX7_findFar_192 ?_
                    refine W.lcmp hx hb dX7_findFar_193 ?_
                    refine lv_if_ge (tgt := 211) hx hb dX7_findFar_194 (by decide) (fun (c_90 : (0 : Int32) ≤ (lg_cmp ((gb (C_85 15) (ga (C (24 + (z49_6).toNatClampNeg)) ((0 : Int32)).toNatClampNeg).toNatClampNeg) + (Int32.toInt64 r_56)) (gb (C_85 15) (ga (C (24 + (z49_6).toNatClampNeg)) ((1 : Int32)).toNatClampNeg).toNatClampNeg))) => ?_) (fun (c_90 : ¬ ((0 : Int32) ≤ (lg_cmp ((gb (C_85 15) (ga (C (24 + (z49_6).toNatClampNeg)) ((0 : Int32)).toNatClampNeg).toNatClampNeg) + (Int32.toInt64 r_56)) (gb (C_85 15) (ga (C (24 + (z49_6).toNatClampNeg)) ((1 : Int32)).toNatClampNeg).toNatClampNeg)))) => ?_)
                    · refine lv_aload_n hx hb dX7_findFar_211 rfl (lv_at hl 5 rfl) ?_
                      refine va_get (D := D) (ci := 7) (v := .ref (a 15)) (C := RX7) (T := TX7) (N := 29) hx hb htg ig_7 hown hK hP 0 (oh_wg (Nat.lt_of_lt_of_le (by decide) hn) (sM_0 hT)) rfl 27 (by decide) (htg _ q_1000) (fun _ h9 => h9) rfl dX7_findFar_212 ?_
                      refine lv_iload hx hb dX7_findFar_215 (lv_at hl 0 rfl) ?_
                      have n_91 : vp_in (ga (C (24 + (z49_6).toNatClampNeg)) ((1 : Int32)).toNatClampNeg) 16 := (rg_in (tA_rdc (lo := 0) (hi := 15) (hT0.broad b_61) (rg_in (rg_c (v := 1) (lo := 1) (hi := 1) (by decide)) (by decide)) (show _ = 1 by decide) (by decide)) (by decide))
                      refine th_lald hx hb hK hP 15 (Nat.lt_of_lt_of_le (by decide) hn) (sM_15 hT) n_91 dX7_findFar_217 ?_
                      have n_92 : vp_in (ga (C (24 + (z49_6).toNatClampNeg)) ((1 : Int32)).toNatClampNeg) 16 := (rg_in (tA_rdc (lo := 0) (hi := 15) (hT0.broad b_61) (rg_in (rg_c (v := 1) (lo := 1) (hi := 1) (by decide)) (by decide)) (show _ = 1 by decide) (by decide)) (by decide))
                      refine th_last (T := TyM a E) (Rl := fr [(15, 16)] [] C) hx hb hK hP hD hS 15 (Nat.lt_of_lt_of_le (by decide) hn) (sM_15 hT) n_92 (hT.up 15 (by decide) rfl) (fr_st hF (by decide) (by decide)) dX7_findFar_218 (fun C_93 H locs e_94 hT hF hP hD hS => ?_)
                      have t_95 := hT
                      refine lv_iinc (v := z49_6 + 1) (lv' := [(6, .int (z49_6 + 1)), (9, .int (ga (C (24 + (z49_6).toNatClampNeg)) ((1 : Int32)).toNatClampNeg)), (8, .int (ga (C (24 + (z49_6).toNatClampNeg)) ((0 : Int32)).toNatClampNeg)), (7, .int r_56), (5, .int z39_5), (0, .ref (a 0)), (1, .int x1), (2, .int x2), (3, .int x3), (4, .int x4)]) hx hb dX7_findFar_219 hl (k := 3) rfl (by rfl) (by decide) rfl (fun ls hl => ?_)
                      refine lv_goto (tgt := 49) hx hb dX7_findFar_222 (by decide) ?_
                      exact ih_49 _ (hd_49 ▸ mu_up 24 (rn_ltu (u' := 23) (Int32.not_le.mp c_6) hz49_6 (fM_0_9 hT0) (by decide)) (by decide)) C_93 (z49_6 + 1) _ _ ls rfl (rg_w (rg_add (lo := 1) (hi := 24) (rn_ltu (u' := 23) (Int32.not_le.mp c_6) hz49_6 (fM_0_9 hT0) (by decide)) (rg_c (v := 1) (lo := 1) (hi := 1) (by decide)) (by decide)) (by decide)) hT hF (fr_ste (fr_ste hLF_49 e_86 (by decide) (by decide)) e_94 (by decide) (by decide)) hP hD hS (lv_sub hl [0, 4, 5, 6, 7, 8, 9] rfl)
                    · refine lv_aload_n hx hb dX7_findFar_197 rfl (lv_at hl 5 rfl) ?_
                      refine va_get (D := D) (ci := 7) (v := .ref (a 15)) (C := RX7) (T := TX7) (N := 29) hx hb htg ig_7 hown hK hP 0 (oh_wg (Nat.lt_of_lt_of_le (by decide) hn) (sM_0 hT)) rfl 27 (by decide) (htg _ q_1000) (fun _ h9 => h9) rfl dX7_findFar_198 ?_
                      refine lv_iload hx hb dX7_findFar_201 (lv_at hl 1 rfl) ?_
                      have n_96 : vp_in (ga (C (24 + (z49_6).toNatClampNeg)) ((0 : Int32)).toNatClampNeg) 16 := (rg_in (tA_rdc (lo := 0) (hi := 15) (hT0.broad b_59) (rg_in (rg_c (v := 0) (lo := 0) (hi := 0) (by decide)) (by decide)) (show _ = 0 by decide) (by decide)) (by decide))
                      refine th_lald hx hb hK hP 15 (Nat.lt_of_lt_of_le (by decide) hn) (sM_15 hT) n_96 dX7_findFar_203 ?_
                      refine lv_iload hx hb dX7_findFar_204 (lv_at hl 2 rfl) ?_
                      refine lv_i2l (v := Int32.toInt64 r_56) hx hb dX7_findFar_206 (by rfl) ?_
                      refine lv_ladd hx hb dX7_findFar_207 ?_
                      refine lv_goto (tgt := 218) hx hb dX7_findFar_208 (by decide) ?_
                      have n_97 : vp_in (ga (C (24 + (z49_6).toNatClampNeg)) ((1 : Int32)).toNatClampNeg) 16 := (rg_in (tA_rdc (lo := 0) (hi := 15) (hT0.broad b_61) (rg_in (rg_c (v := 1) (lo := 1) (hi := 1) (by decide)) (by decide)) (show _ = 1 by decide) (by decide)) (by decide))
                      refine th_last (T := TyM a E) (Rl := fr [(15, 16)] [] C) hx hb hK hP hD hS 15 (Nat.lt_of_lt_of_le (by decide) hn) (sM_15 hT) n_97 (hT.up 15 (by decide) rfl) (fr_st hF (by decide) (by decide)) dX7_findFar_218 (fun C_98 H locs e_99 hT hF hP hD hS => ?_)
                      have t_100 := hT
                      refine lv_iinc (v := z49_6 + 1) (lv' := [(6, .int (z49_6 + 1)), (9, .int (ga (C (24 + (z49_6).toNatClampNeg)) ((1 : Int32)).toNatClampNeg)), (8, .int (ga (C (24 + (z49_6).toNatClampNeg)) ((0 : Int32)).toNatClampNeg)), (7, .int r_56), (5, .int z39_5), (0, .ref (a 0)), (1, .int x1), (2, .int x2), (3, .int x3), (4, .int x4)]) hx hb dX7_findFar_219 hl (k := 3) rfl (by rfl) (by decide) rfl (fun ls hl => ?_)
                      refine lv_goto (tgt := 49) hx hb dX7_findFar_222 (by decide) ?_
                      exact ih_49 _ (hd_49 ▸ mu_up 24 (rn_ltu (u' := 23) (Int32.not_le.mp c_6) hz49_6 (fM_0_9 hT0) (by decide)) (by decide)) C_98 (z49_6 + 1) _ _ ls rfl (rg_w (rg_add (lo := 1) (hi := 24) (rn_ltu (u' := 23) (Int32.not_le.mp c_6) hz49_6 (fM_0_9 hT0) (by decide)) (rg_c (v := 1) (lo := 1) (hi := 1) (by decide)) (by decide)) (by decide)) hT hF (fr_ste (fr_ste hLF_49 e_86 (by decide) (by decide)) e_99 (by decide) (by decide)) hP hD hS (lv_sub hl [0, 4, 5, 6, 7, 8, 9] rfl)
          exact L_49 _ K39 0 _ _ ls rfl (rg_w (rg_c (v := 0) (lo := 0) (hi := 0) (by decide)) (by decide)) hT hF fr_rf hP hD hS (lv_sub hl [0, 1, 2, 3, 4, 5, 6] rfl)
      exact L_39 _ K3 0 _ _ ls rfl (rg_w (rg_c (v := 0) (lo := 0) (hi := 0) (by decide)) (by decide)) hT hF fr_rf hP hD hS (lv_sub hl [0, 1, 2, 3, 4, 5] rfl)
    · refine lv_aload_n hx hb dX7_findFar_10 rfl (lv_at hl 1 rfl) ?_
      refine va_get (D := D) (ci := 7) (v := .ref (a 15)) (C := RX7) (T := TX7) (N := 29) hx hb htg ig_7 hown hK hP 0 (oh_wg (Nat.lt_of_lt_of_le (by decide) hn) (sM_0 hT)) rfl 27 (by decide) (htg _ q_1000) (fun _ h9 => h9) rfl dX7_findFar_11 ?_
      refine lv_iload hx hb dX7_findFar_14 (lv_at hl 0 rfl) ?_
      refine lv_iload hx hb dX7_findFar_16 (lv_at hl 0 rfl) ?_
      refine lv_iload_n hx hb dX7_findFar_18 rfl (lv_at hl 4 rfl) ?_
      refine lv_icmp_ne (tgt := 26) hx hb dX7_findFar_19 (by decide) (fun (c_101 : ¬ (z3_5 = x3)) => ?_) (fun (c_101 : z3_5 = x3) => ?_)
      · refine lv_ldc2 (v := 1000000000000) hx hb hown (htg _ q_1355) dX7_findFar_26 ?_
        have n_102 : vp_in z3_5 16 := (rg_in (rn_ltu (u' := 15) (Int32.not_le.mp c_2) hz3_5 (rg_c (v := 16) (lo := 16) (hi := 16) (by decide)) (by decide)) (by decide))
        refine th_last (T := TyM a E) (Rl := fr [(15, 16)] [] C) hx hb hK hP hD hS 15 (Nat.lt_of_lt_of_le (by decide) hn) (sM_15 hT) n_102 (hT.up 15 (by decide) rfl) (fr_st hF (by decide) (by decide)) dX7_findFar_29 (fun C_103 H locs e_104 hT hF hP hD hS => ?_)
        have t_105 := hT
        refine lv_iinc (v := z3_5 + 1) (lv' := [(5, .int (z3_5 + 1)), (0, .ref (a 0)), (1, .int x1), (2, .int x2), (3, .int x3), (4, .int x4)]) hx hb dX7_findFar_30 hl (k := 0) rfl (by rfl) (by decide) rfl (fun ls hl => ?_)
        refine lv_goto (tgt := 3) hx hb dX7_findFar_33 (by decide) ?_
        exact ih_3 _ (hd_3 ▸ mu_up 16 (rn_ltu (u' := 15) (Int32.not_le.mp c_2) hz3_5 (rg_c (v := 16) (lo := 16) (hi := 16) (by decide)) (by decide)) (by decide)) C_103 (z3_5 + 1) _ _ ls rfl (rg_w (rg_add (lo := 1) (hi := 16) (rn_ltu (u' := 15) (Int32.not_le.mp c_2) hz3_5 (rg_c (v := 16) (lo := 16) (hi := 16) (by decide)) (by decide)) (rg_c (v := 1) (lo := 1) (hi := 1) (by decide)) (by decide)) (by decide)) hT hF (fr_ste hLF_3 e_104 (by decide) (by decide)) hP hD hS (lv_sub hl [0, 1, 2, 3, 4, 5] rfl)
      · refine lv_lconst (v := 0) hx hb dX7_findFar_22 (by decide) ?_
        refine lv_goto (tgt := 29) hx hb dX7_findFar_23 (by decide) ?_
        have n_106 : vp_in z3_5 16 := (rg_in (rn_eq c_101 hx3) (by decide))
        refine th_last (T := TyM a E) (Rl := fr [(15, 16)] [] C) hx hb hK hP hD hS 15 (Nat.lt_of_lt_of_le (by decide) hn) (sM_15 hT) n_106 (hT.up 15 (by decide) rfl) (fr_st hF (by decide) (by decide)) dX7_findFar_29 (fun C_107 H locs e_108 hT hF hP hD hS => ?_)
        have t_109 := hT
        refine lv_iinc (v := z3_5 + 1) (lv' := [(5, .int (z3_5 + 1)), (0, .ref (a 0)), (1, .int x1), (2, .int x2), (3, .int x3), (4, .int x4)]) hx hb dX7_findFar_30 hl (k := 0) rfl (by rfl) (by decide) rfl (fun ls hl => ?_)
        refine lv_goto (tgt := 3) hx hb dX7_findFar_33 (by decide) ?_
        exact ih_3 _ (hd_3 ▸ mu_up 16 (rn_eq c_101 hx3) (by decide)) C_107 (z3_5 + 1) _ _ ls rfl (rg_w (rg_add (lo := 1) (hi := 16) (rn_eq c_101 hx3) (rg_c (v := 1) (lo := 1) (hi := 1) (by decide)) (by decide)) (by decide)) hT hF (fr_ste hLF_3 e_108 (by decide) (by decide)) hP hD hS (lv_sub hl [0, 1, 2, 3, 4, 5] rfl)
  exact L_3 _ C 0 _ _ ls rfl (rg_w (rg_c (v := 0) (lo := 0) (hi := 0) (by decide)) (by decide)) hT hF fr_rf hP hD hS (lv_sub hl [0, 1, 2, 3, 4, 5] rfl)

set_option maxHeartbeats 4000000 in
set_option maxRecDepth 100000 in
theorem c_X7_partsCoin (l : Launch) (D : va_G) (E : Nat → ClassId) (G : Nat → Nat) (a : Nat → Nat) (C : Nat → va_E) (n : Nat) (hn : 74 ≤ n) (hT : TyM a E C) (x1 : Int32) : Met l yX7_partsCoin (oh_w yX7_partsCoin cX7_partsCoin 4 (some .int)) ({ frames := 0, cells := 0, slots := 0, locals := 0 }) (oh_Pp D E G [.ref (a 0), .int x1] (oh_W n a C)) (vp_Si (fun r => True)) 0 0 (fun _ => False) := by
  refine Met.ofW (cc := cX7_partsCoin) (maxL := 4) (ret := (some .int)) (by decide) rfl ?_
  intro p e s m args below meth c s₁ B hml hv
  obtain ⟨rfl, hP, hK, hG⟩ := hv
  have hx := B.exec
  have hb := B.bytes
  have hr := B.returns
  have hts := atoms_spec (ws := (oh_w yX7_partsCoin cX7_partsCoin 4 (some .int))) B.pre
  have htg : ∀ w ∈ oh_t, w.before _ s = true := fun w h => hts w (List.mem_cons_of_mem _ h)
  have hown : s.vm.findClass RX7 = some m.cls := findClass_of_methodNamed B.named
  have hlocks := B.notSynchronized
  have hT0 := hT
  have hS : va_S (fun _ => False) s.heap s.heap [] := va_S.rf
  have hl := lv_entry ([.ref (a 0), .int x1]) (n := 4) (Nat.le_of_ble_eq_true rfl)
  rw [lg_entry_eq]
  generalize (lg_sl ([.ref (a 0), .int x1]) ++ List.replicate (4 - (lg_sl ([.ref (a 0), .int x1])).length) Slot.unset).toArray = ls at hl ⊢
  have hl : lv_has ls 4 [(0, .ref (a 0)), (1, .int x1)] := hl
  refine oh_genQ (fun Q hQ => ?_)
  refine lv_iconst (v := 0) hx hb dX7_partsCoin_0 (by decide) ?_
  refine lv_istore_n (lv' := [(2, .int 0), (0, .ref (a 0)), (1, .int x1)]) hx hb dX7_partsCoin_1 rfl hl (by decide) rfl (fun ls hl => ?_)
  refine lv_iconst (v := 0) hx hb dX7_partsCoin_2 (by decide) ?_
  refine lv_istore_n (lv' := [(3, .int 0), (2, .int 0), (0, .ref (a 0)), (1, .int x1)]) hx hb dX7_partsCoin_3 rfl hl (by decide) rfl (fun ls hl => ?_)
  have L_4 : ∀ (d : Nat) (z4_3 : Int32) (z4_2 : Int32) (ls : Array Slot), (5 - z4_3.toInt).toNat = d → rg z4_3 0 5 → lv_has ls 4 [(3, .int z4_3), (2, .int z4_2), (0, .ref (a 0)), (1, .int x1)] → W p l e ({ frames := 0, cells := 0, slots := 0, locals := 0 }) s m (([.ref (a 0), .int x1] : List Value).toArray) below meth c s.heap [] 0 0 Q (F0 m 4 ls []) := by
    intro d
    induction d using Nat.strongRecOn with
    | ind d ih_4 =>
    intro z4_3 z4_2 ls hd_4 hz4_3 hl
    refine lv_iload_n hx hb dX7_partsCoin_4 rfl (lv_at hl 0 rfl) ?_
    refine lv_aload_n hx hb dX7_partsCoin_5 rfl (lv_at hl 2 rfl) ?_
    refine va_get (D := D) (ci := 7) (v := .int (gi (C 0) 15)) (C := RX7) (T := TX7) (N := 29) hx hb htg ig_7 hown hK hP 0 (oh_wg (Nat.lt_of_lt_of_le (by decide) hn) (sM_0 hT)) rfl 15 (by decide) (htg _ q_988) (fun _ h9 => h9) rfl dX7_partsCoin_6 ?_
    refine lv_icmp_ge (tgt := 41) hx hb dX7_partsCoin_9 (by decide) (fun (c_1 : (gi (C 0) 15) ≤ z4_3) => ?_) (fun (c_1 : ¬ ((gi (C 0) 15) ≤ z4_3)) => ?_)
    · refine lv_iload_n hx hb dX7_partsCoin_41 rfl (lv_at hl 1 rfl) ?_
      rw [hQ]
      exact W.iret (v := z4_2) hx hb hr (fun t ht hW => ⟨z4_2, rfl, trivial, ht⟩) (fun q h => by cases h) dX7_partsCoin_42
    · refine lv_iload_n hx hb dX7_partsCoin_12 rfl (lv_at hl 1 rfl) ?_
      refine lv_iload_n hx hb dX7_partsCoin_13 rfl (lv_at hl 3 rfl) ?_
      refine lv_iload_n hx hb dX7_partsCoin_14 rfl (lv_at hl 0 rfl) ?_
      refine lv_ishr hx hb dX7_partsCoin_15 ?_
      refine lv_iconst (v := 1) hx hb dX7_partsCoin_16 (by decide) ?_
      refine lv_iand hx hb dX7_partsCoin_17 ?_
      refine lv_if_eq (tgt := 32) hx hb dX7_partsCoin_18 (by decide) (fun (c_2 : ((x1 >>> (z4_3 &&& 31)) &&& 1) = 0) => ?_) (fun (c_2 : ¬ (((x1 >>> (z4_3 &&& 31)) &&& 1) = 0)) => ?_)
      · refine lv_iconst (v := 0) hx hb dX7_partsCoin_32 (by decide) ?_
        refine lv_iadd hx hb dX7_partsCoin_33 ?_
        refine lv_istore_n (lv' := [(2, .int (z4_2 + 0)), (3, .int z4_3), (0, .ref (a 0)), (1, .int x1)]) hx hb dX7_partsCoin_34 rfl hl (by decide) rfl (fun ls hl => ?_)
        refine lv_iinc (v := z4_3 + 1) (lv' := [(3, .int (z4_3 + 1)), (2, .int (z4_2 + 0)), (0, .ref (a 0)), (1, .int x1)]) hx hb dX7_partsCoin_35 hl (k := 1) rfl (by rfl) (by decide) rfl (fun ls hl => ?_)
        refine lv_goto (tgt := 4) hx hb dX7_partsCoin_38 (by decide) ?_
        exact ih_4 _ (hd_4 ▸ mu_up 5 (rn_ltu (u' := 4) (Int32.not_le.mp c_1) hz4_3 (fM_0_15 hT0) (by decide)) (by decide)) (z4_3 + 1) (z4_2 + 0) ls rfl (rg_w (rg_add (lo := 1) (hi := 5) (rn_ltu (u' := 4) (Int32.not_le.mp c_1) hz4_3 (fM_0_15 hT0) (by decide)) (rg_c (v := 1) (lo := 1) (hi := 1) (by decide)) (by decide)) (by decide)) (lv_sub hl [0, 1, 2, 3] rfl)
      · refine lv_aload_n hx hb dX7_partsCoin_21 rfl (lv_at hl 2 rfl) ?_
        refine va_get (D := D) (ci := 7) (v := .ref (a 12)) (C := RX7) (T := TX7) (N := 29) hx hb htg ig_7 hown hK hP 0 (oh_wg (Nat.lt_of_lt_of_le (by decide) hn) (sM_0 hT)) rfl 16 (by decide) (htg _ q_989) (fun _ h9 => h9) rfl dX7_partsCoin_22 ?_
        refine lv_iload_n hx hb dX7_partsCoin_25 rfl (lv_at hl 0 rfl) ?_
        have n_3 : vp_in z4_3 5 := (rg_in (rn_ltu (u' := 4) (Int32.not_le.mp c_1) hz4_3 (fM_0_15 hT0) (by decide)) (by decide))
        have b_4 : (z4_3).toNatClampNeg < 5 := vp_lt n_3
        refine th_aald hx hb hK hP 12 2 (Nat.lt_of_lt_of_le (by decide) hn) (sM_12 hT) rfl n_3 dX7_partsCoin_26 ?_
        refine lv_iconst (v := 1) hx hb dX7_partsCoin_27 (by decide) ?_
        refine th_iald hx hb hK hP (69 + (z4_3).toNatClampNeg) (lt_blk b_4 hn (by decide)) (hT.bpart b_4).1 (rg_in (rg_c (v := 1) (lo := 1) (hi := 1) (by decide)) (by decide)) dX7_partsCoin_28 ?_
        refine lv_goto (tgt := 33) hx hb dX7_partsCoin_29 (by decide) ?_
        refine lv_iadd hx hb dX7_partsCoin_33 ?_
        refine lv_istore_n (lv' := [(2, .int (z4_2 + (ga (C (69 + (z4_3).toNatClampNeg)) ((1 : Int32)).toNatClampNeg))), (3, .int z4_3), (0, .ref (a 0)), (1, .int x1)]) hx hb dX7_partsCoin_34 rfl hl (by decide) rfl (fun ls hl => ?_)
        refine lv_iinc (v := z4_3 + 1) (lv' := [(3, .int (z4_3 + 1)), (2, .int (z4_2 + (ga (C (69 + (z4_3).toNatClampNeg)) ((1 : Int32)).toNatClampNeg))), (0, .ref (a 0)), (1, .int x1)]) hx hb dX7_partsCoin_35 hl (k := 1) rfl (by rfl) (by decide) rfl (fun ls hl => ?_)
        refine lv_goto (tgt := 4) hx hb dX7_partsCoin_38 (by decide) ?_
        exact ih_4 _ (hd_4 ▸ mu_up 5 (rn_ltu (u' := 4) (Int32.not_le.mp c_1) hz4_3 (fM_0_15 hT0) (by decide)) (by decide)) (z4_3 + 1) (z4_2 + (ga (C (69 + (z4_3).toNatClampNeg)) ((1 : Int32)).toNatClampNeg)) ls rfl (rg_w (rg_add (lo := 1) (hi := 5) (rn_ltu (u' := 4) (Int32.not_le.mp c_1) hz4_3 (fM_0_15 hT0) (by decide)) (rg_c (v := 1) (lo := 1) (hi := 1) (by decide)) (by decide)) (by decide)) (lv_sub hl [0, 1, 2, 3] rfl)
  exact L_4 _ 0 0 ls rfl (rg_w (rg_c (v := 0) (lo := 0) (hi := 0) (by decide)) (by decide)) (lv_sub hl [0, 1, 2, 3] rfl)

set_option maxHeartbeats 4000000 in
set_option maxRecDepth 100000 in
theorem c_X7_cheapestOf (l : Launch) (D : va_G) (E : Nat → ClassId) (G : Nat → Nat) (sz : Nat) (a : Nat → Nat) (C : Nat → va_E) (n : Nat) (hn : 74 ≤ n) (hT : TyM a E C) (x1 : Int32) (x2 : Int32) (x3 : Int32) (x4 : Int32) (x5 : Int32) (hx1 : rg x1 0 4) (hx3 : rg x3 0 15) (hx4 : rg x4 0 15) (hw : oh_pos C x1) : Met l yX7_cheapestOf (oh_w yX7_cheapestOf cX7_cheapestOf 6 (some .int)) ({ frames := 6, cells := 0, slots := 0, locals := 152 }) (oh_Pm D E G [.ref (a 0), .int x1, .int x2, .int x3, .int x4, .int x5] (oh_W n a C) sz) (va_Qi (fun r (u : Nat → va_E) => TyM a E u ∧ fr [(15, 16)] [] C u ∧ True) (oh_B D (va_A (oh_W n a C) sz) (fun u => oh_W n a u)) (va_A (oh_W n a C) sz)) 0 0 (va_A (oh_W n a C) sz) := by
  refine Met.ofW (cc := cX7_cheapestOf) (maxL := 6) (ret := (some .int)) (by decide) rfl ?_
  intro p e s m args below meth c s₁ B hml hv
  obtain ⟨rfl, hsz, hP, hK, hD0, hG⟩ := hv
  have hx := B.exec
  have hb := B.bytes
  have hr := B.returns
  have hts := atoms_spec (ws := (oh_w yX7_cheapestOf cX7_cheapestOf 6 (some .int))) B.pre
  have htg : ∀ w ∈ oh_t, w.before _ s = true := fun w h => hts w (List.mem_cons_of_mem _ h)
  have hown : s.vm.findClass RX7 = some m.cls := findClass_of_methodNamed B.named
  have hlocks := B.notSynchronized
  have hT0 := hT
  subst hsz
  have hD := hD0.self (sz := s.heap.size)
  generalize hAe : va_A (oh_W n a C) s.heap.size = A at hD hG ⊢
  have hA : ∀ q : Nat, s.heap.size ≤ q → A q := fun q h => by rw [← hAe]; exact Or.inr h
  have hS : va_S A s.heap s.heap [] := va_S.rf
  have hF : fr [(15, 16)] [] C C := fr_rf
  have hl := lv_entry ([.ref (a 0), .int x1, .int x2, .int x3, .int x4, .int x5]) (n := 6) (Nat.le_of_ble_eq_true rfl)
  rw [lg_entry_eq]
  generalize (lg_sl ([.ref (a 0), .int x1, .int x2, .int x3, .int x4, .int x5]) ++ List.replicate (6 - (lg_sl ([.ref (a 0), .int x1, .int x2, .int x3, .int x4, .int x5])).length) Slot.unset).toArray = ls at hl ⊢
  have hl : lv_has ls 6 [(0, .ref (a 0)), (1, .int x1), (2, .int x2), (3, .int x3), (4, .int x4), (5, .int x5)] := hl
  refine oh_genQ (fun Q hQ => ?_)
  refine lv_aload_n hx hb dX7_cheapestOf_0 rfl (lv_at hl 0 rfl) ?_
  refine lv_iload_n hx hb dX7_cheapestOf_1 rfl (lv_at hl 1 rfl) ?_
  refine lv_iload_n hx hb dX7_cheapestOf_2 rfl (lv_at hl 2 rfl) ?_
  refine lv_iload hx hb dX7_cheapestOf_3 (lv_at hl 4 rfl) ?_
  refine lv_iload hx hb dX7_cheapestOf_5 (lv_at hl 5 rfl) ?_
  refine tm_Vv (As := [.int x1, .int x2, .int x4, .int x5]) (rest := []) ⟨hx, hb, hml, hown, htg⟩ (c_X7_findFar l D E G _ a C n hn hT x1 x2 x4 x5 (rg_w hx1 (by decide)) (rg_w hx4 (by decide)) hw) (cwV 4 htg (oh_gV q_1351 q_1353 q_60 q_73 q_1354) rfl rfl rfl pdVX7_findFar ⟨Nat.le_of_ble_eq_true rfl, Nat.le_of_ble_eq_true rfl⟩) hK hP hD hG hS hA (va_recv hK hP (ci := 7) (q0 := 0) rfl (oh_wg (Nat.lt_of_lt_of_le (by decide) hn) (sM_0 hT))) rfl hl.1 rfl (Nat.le_of_ble_eq_true rfl) dX7_cheapestOf_7 ⟨Nat.le_of_ble_eq_true rfl, Nat.le_of_ble_eq_true rfl⟩ (fun C_2 H locs hq_3 hP hD hS => ?_)
  obtain ⟨hT, f_4, hq_3⟩ := hq_3
  have hF := fr_tr hF f_4 (by decide) (by decide)
  refine W.widen (k := 0) (n := 0) (Nat.le_refl _) (Nat.le_refl _) ?_
  have t_5 := hT
  refine lv_aload_n hx hb dX7_cheapestOf_10 rfl (lv_at hl 0 rfl) ?_
  refine va_get (D := D) (ci := 7) (v := .ref (a 15)) (C := RX7) (T := TX7) (N := 29) hx hb htg ig_7 hown hK hP 0 (oh_wg (Nat.lt_of_lt_of_le (by decide) hn) (sM_0 hT)) rfl 27 (by decide) (htg _ q_1000) (fun _ h9 => h9) rfl dX7_cheapestOf_11 ?_
  refine lv_iload_n hx hb dX7_cheapestOf_14 rfl (lv_at hl 3 rfl) ?_
  have n_6 : vp_in x3 16 := (rg_in hx3 (by decide))
  refine th_lald hx hb hK hP 15 (Nat.lt_of_lt_of_le (by decide) hn) (sM_15 hT) n_6 dX7_cheapestOf_15 ?_
  refine lv_ldc2 (v := 1000000000000) hx hb hown (htg _ q_1355) dX7_cheapestOf_16 ?_
  refine W.lcmp hx hb dX7_cheapestOf_19 ?_
  refine lv_if_lt (tgt := 27) hx hb dX7_cheapestOf_20 (by decide) (fun (c_7 : (lg_cmp (gb (C_2 15) (x3).toNatClampNeg) 1000000000000) < 0) => ?_) (fun (c_7 : ¬ ((lg_cmp (gb (C_2 15) (x3).toNatClampNeg) 1000000000000) < 0)) => ?_)
  · refine lv_aload_n hx hb dX7_cheapestOf_27 rfl (lv_at hl 0 rfl) ?_
    refine va_get (D := D) (ci := 7) (v := .ref (a 15)) (C := RX7) (T := TX7) (N := 29) hx hb htg ig_7 hown hK hP 0 (oh_wg (Nat.lt_of_lt_of_le (by decide) hn) (sM_0 hT)) rfl 27 (by decide) (htg _ q_1000) (fun _ h9 => h9) rfl dX7_cheapestOf_28 ?_
    refine lv_iload_n hx hb dX7_cheapestOf_31 rfl (lv_at hl 3 rfl) ?_
    have n_8 : vp_in x3 16 := (rg_in hx3 (by decide))
    refine th_lald hx hb hK hP 15 (Nat.lt_of_lt_of_le (by decide) hn) (sM_15 hT) n_8 dX7_cheapestOf_32 ?_
    refine lv_l2i (v := Int64.toInt32 (gb (C_2 15) (x3).toNatClampNeg)) hx hb dX7_cheapestOf_33 rfl ?_
    refine lv_iload hx hb dX7_cheapestOf_34 (lv_at hl 5 rfl) ?_
    refine lv_aload_n hx hb dX7_cheapestOf_36 rfl (lv_at hl 0 rfl) ?_
    refine lv_iload_n hx hb dX7_cheapestOf_37 rfl (lv_at hl 2 rfl) ?_
    refine tq_V (As := [.int x2]) (rest := [.int x5, .int (Int64.toInt32 (gb (C_2 15) (x3).toNatClampNeg))]) (ws := (oh_W n a C_2)) ⟨hx, hb, hml, hown, htg⟩ (c_X7_partsCoin l D E G a C_2 n hn hT x2) (cwV 1 htg (oh_gV q_1356 q_1358 q_61 q_73 q_1359) rfl rfl rfl pdVX7_partsCoin ⟨Nat.le_of_ble_eq_true rfl, Nat.le_of_ble_eq_true rfl⟩) hK hP hG hS (va_recv hK hP (ci := 7) (q0 := 0) rfl (oh_wg (Nat.lt_of_lt_of_le (by decide) hn) (sM_0 hT))) rfl hl.1 rfl (Nat.le_of_ble_eq_true rfl) dX7_cheapestOf_38 ⟨Nat.le_of_ble_eq_true rfl, Nat.le_of_ble_eq_true rfl⟩ (fun r_9 hq_10 => ?_)
    refine lv_imul hx hb dX7_cheapestOf_41 ?_
    refine lv_iadd hx hb dX7_cheapestOf_42 ?_
    rw [hQ]
    exact W.iret (v := (Int64.toInt32 (gb (C_2 15) (x3).toNatClampNeg)) + (x5 * r_9)) hx hb hr (fun t ht hW => ⟨⟨(Int64.toInt32 (gb (C_2 15) (x3).toNatClampNeg)) + (x5 * r_9), C_2, rfl, ⟨hT, hF, trivial⟩, ⟨by rw [ht]; exact hP, hD⟩⟩, hS.F ht⟩) hS.2.2 dX7_cheapestOf_43
  · refine lv_iconst (v := (-1)) hx hb dX7_cheapestOf_23 (by decide) ?_
    refine lv_goto (tgt := 43) hx hb dX7_cheapestOf_24 (by decide) ?_
    rw [hQ]
    exact W.iret (v := (-1)) hx hb hr (fun t ht hW => ⟨⟨(-1), C_2, rfl, ⟨hT, hF, trivial⟩, ⟨by rw [ht]; exact hP, hD⟩⟩, hS.F ht⟩) hS.2.2 dX7_cheapestOf_43
