/-! FULL: a told way -/
noncomputable def spOt (P : Int32 → Prop) : Int32 := Classical.epsilon P
theorem spOt_eq {P : Int32 → Prop} {r : Int32} (h : P r) (u : ∀ a b, P a → P b → a = b) : r = spOt P := u _ _ h (Classical.epsilon_spec ⟨r, h⟩)
def twI (A : LA) (w t : Int32) (e : Nat → Int64) (f : Int32) : Nat → (Nat → Int32) → Prop
  | 0, g => g 0 = 0 ∧ g 1 = 0 ∧ g 2 = 0 ∧ g 3 = f
  | k + 1, g => ∃ g', twI A w t e f k g' ∧ wkOk A w t (e k) (g' 3) ∧ wkP A w t (Int64.toInt32 (e k)) g' g
theorem twI_u {A : LA} {w t : Int32} {e : Nat → Int64} {f : Int32} : ∀ k g h, twI A w t e f k g → twI A w t e f k h → g 0 = h 0 ∧ g 1 = h 1 ∧ g 2 = h 2 ∧ g 3 = h 3 := by
  intro k
  induction k with
  | zero =>
    intro g h a b
    obtain ⟨a0, a1, a2, a3⟩ := a
    obtain ⟨b0, b1, b2, b3⟩ := b
    exact ⟨a0.trans b0.symm, a1.trans b1.symm, a2.trans b2.symm, a3.trans b3.symm⟩
  | succ k ih =>
    intro g h a b
    obtain ⟨g', a1, _, p0, p1, p2, p3⟩ := a
    obtain ⟨h', b1, _, q0, q1, q2, q3⟩ := b
    obtain ⟨i0, i1, i2, i3⟩ := ih g' h' a1 b1
    exact ⟨by rw [p0, q0, i0], by rw [p1, q1, i1], by rw [p2, q2, i2], by rw [p3, q3, i3]⟩
theorem twI_mid {A : LA} {w t : Int32} {e : Nat → Int64} {f : Int32} : ∀ n g, twI A w t e f n g → ∀ i, i < n → ∃ g', twI A w t e f i g' ∧ wkOk A w t (e i) (g' 3) := by
  intro n
  induction n with
  | zero =>
    intro g _ i hi
    exact absurd hi (Nat.not_lt_zero i)
  | succ n ih =>
    intro g h i hi
    obtain ⟨g', h1, h2, _⟩ := h
    by_cases c : i = n
    · rw [c]
      exact ⟨g', h1, h2⟩
    · exact ih g' h1 i (by omega)
theorem twI_ok {A : LA} {w t : Int32} {e : Nat → Int64} {f : Int32} {n i : Nat} {g g2 : Nat → Int32} (h : twI A w t e f n g) (hi : i < n) (k : twI A w t e f i g2) : wkOk A w t (e i) (g2 3) := by
  obtain ⟨g', h1, h2⟩ := twI_mid n g h i hi
  rw [(twI_u i g2 g' k h1).2.2.2]
  exact h2
def twR (A : LA) (w t : Int32) (e : Nat → Int64) (f : Int32) (n : Nat) (r : Int32) : Prop := (r = -1 ∧ ∃ g, twI A w t e f n g) ∨ ∃ i, i < n ∧ r = Int32.ofNat i ∧ ∃ g, twI A w t e f i g ∧ ¬ wkOk A w t (e i) (g 3)
theorem twR_u {A : LA} {w t : Int32} {e : Nat → Int64} {f : Int32} {n : Nat} (a b : Int32) (h : twR A w t e f n a) (g : twR A w t e f n b) : a = b := by
  rcases h with ⟨h1, g1, h2⟩ | ⟨i, hi, h1, g1, h2, h3⟩
  · rcases g with ⟨k1, g2, k2⟩ | ⟨j, hj, k1, g2, k2, k3⟩
    · rw [h1, k1]
    · exact absurd (twI_ok h2 hj k2) k3
  · rcases g with ⟨k1, g2, k2⟩ | ⟨j, hj, k1, g2, k2, k3⟩
    · exact absurd (twI_ok k2 hi h2) h3
    · have e : i = j := by
        by_cases c : i < j
        · exact absurd (twI_ok k2 c h2) h3
        · by_cases d : j < i
          · exact absurd (twI_ok h2 d k2) k3
          · omega
      rw [h1, k1, e]
theorem tw_0 {A : LA} {w t : Int32} {e : Nat → Int64} {f : Int32} {g : Nat → Int32} (h0 : g 0 = 0) (h1 : g 1 = 0) (h2 : g 2 = 0) (h3 : g 3 = f) : twI A w t e f 0 g := ⟨h0, h1, h2, h3⟩
theorem tw_s {A : LA} {w t : Int32} {e : Nat → Int64} {f z : Int32} {g g' : Nat → Int32} (hz : rg z 0 31) (h : twI A w t e f z.toNatClampNeg g) (k : wkOk A w t (e z.toNatClampNeg) (g 3)) (p : wkP A w t (Int64.toInt32 (e z.toNatClampNeg)) g g') : twI A w t e f (z + 1).toNatClampNeg g' := by
  have e2 : (z + 1).toInt = z.toInt + 1 := by
    rw [Int32.toInt_add]
    exact oh_bmod (by show _ ≤ z.toInt + 1; have := hz.1; omega) (by show z.toInt + 1 ≤ _; have := hz.2; omega)
  have a := oh_nat hz (by decide)
  have b := oh_nat (i := z + 1) (l := 0) (u := 32) ⟨by rw [e2]; have := hz.1; omega, by rw [e2]; have := hz.2; omega⟩ (by decide)
  rw [show (z + 1).toNatClampNeg = z.toNatClampNeg + 1 by omega]
  exact ⟨g, h, k, p⟩
noncomputable def wnT (A : LA) (S : HZ) (w t f s n : Int32) : Int32 := pif (okPk (A 5 0 2) (A 5 0 3) w t ∧ (0 ≤ f ∧ f ≤ 15) ∧ (0 ≤ s ∧ s ≤ 7) ∧ (0 ≤ n ∧ n ≤ 20)) (pif (whyR S.1 s = 0) (pif (S.2 s.toNatClampNeg < n) (-2) 0) (whyR S.1 s)) (-2)
theorem wn_0 {A : LA} {S : HZ} {w t f s n : Int32} (h : wnT A S w t f s n = 0) : (okPk (A 5 0 2) (A 5 0 3) w t ∧ (0 ≤ f ∧ f ≤ 15) ∧ (0 ≤ s ∧ s ≤ 7) ∧ (0 ≤ n ∧ n ≤ 20)) ∧ rowH (S.1 s.toNatClampNeg) ∧ n.toInt ≤ (S.2 s.toNatClampNeg).toInt := by
  unfold wnT at h
  by_cases q : okPk (A 5 0 2) (A 5 0 3) w t ∧ (0 ≤ f ∧ f ≤ 15) ∧ (0 ≤ s ∧ s ≤ 7) ∧ (0 ≤ n ∧ n ≤ 20)
  · rw [pif_pos q] at h
    by_cases p : whyR S.1 s = 0
    · rw [pif_pos p] at h
      by_cases o : S.2 s.toNatClampNeg < n
      · rw [pif_pos o] at h
        exact absurd h (by decide)
      · exact ⟨q, (whyR_0 p).2, Int32.le_iff_toInt_le.mp (Int32.not_lt.mp o)⟩
    · rw [pif_neg p] at h
      exact absurd h p
  · rw [pif_neg q] at h
    exact absurd h (by decide)
noncomputable def spJudge (A : LA) (S : HZ) (Z : EZ) (w t f s n : Int32) : Int32 := pif (wnT A S w t f s n = 0) (spOt (twR A w t (Z s.toNatClampNeg) f n.toNatClampNeg)) (wnT A S w t f s n)
theorem el_z {C : Nat → va_E} {S : HZ} {Z : EZ} {s z n : Int32} {r : Int64} (h : absHX C S) (hE : absEX C S Z) (hs : rg s 0 7) (hr : rowH (S.1 s.toNatClampNeg)) (hz : rg z 0 20) (c : z < n) (hn : n.toInt ≤ (S.2 s.toNatClampNeg).toInt) (e : r = pif (0 ≤ z ∧ z ≤ ga (C 30) s.toNatClampNeg - 1) (gb (C 31) (s.toNatClampNeg * 40 + z.toNatClampNeg)) 0) : r = Z s.toNatClampNeg z.toNatClampNeg := by
  obtain ⟨_, _, g3⟩ := h _ (sh8 hs)
  obtain ⟨z1, z2⟩ := hE _ (sh8 hs) hr
  have c2 := Int32.lt_iff_toInt_lt.mp c
  have a := oh_nat hz (by decide)
  have e0 : (0 : Int32).toInt = 0 := rfl
  have e1 : (S.2 s.toNatClampNeg - 1).toInt = (S.2 s.toNatClampNeg).toInt - 1 := by
    rw [Int32.toInt_sub]
    exact oh_bmod (by show _ ≤ (S.2 s.toNatClampNeg).toInt - 1; have := z1.1; omega) (by show (S.2 s.toNatClampNeg).toInt - 1 ≤ _; have := z1.2; omega)
  rw [g3 hr, pif_pos ⟨Int32.le_iff_toInt_le.mpr (by rw [e0]; exact hz.1), Int32.le_iff_toInt_le.mpr (by rw [e1]; omega)⟩] at e
  rw [e]
  exact z2 _ (by omega)
noncomputable def nxG (A : LA) (w t n : Int32) (g : Nat → Int32) : Nat → Int32 := fun j => if j = 0 then g 0 + coA A w t 1 n.toNatClampNeg else if j = 1 then g 1 + dyA A w t n.toNatClampNeg else if j = 2 then g 2 ||| ((1 : Int32) <<< (A 0 n.toNatClampNeg 5 &&& 31)) else oeF (A 0 n.toNatClampNeg 0) (A 0 n.toNatClampNeg 1) (g 3)
theorem nxG_p {A : LA} {w t n : Int32} {g : Nat → Int32} : wkP A w t n g (nxG A w t n g) := ⟨rfl, rfl, rfl, rfl⟩
theorem v_lt {v : Int64} {n : Int32} (hn : rg n 0 24) (c : v ≤ Int32.toInt64 (n - 1)) : v < Int32.toInt64 n := by
  have c2 := Int64.le_iff_toInt_le.mp c
  have e : (n - 1).toInt = n.toInt - 1 := by
    rw [Int32.toInt_sub]
    exact oh_bmod (by show _ ≤ n.toInt - 1; have := hn.1; omega) (by show n.toInt - 1 ≤ _; have := hn.2; omega)
  rw [oh_l32, e] at c2
  exact Int64.lt_iff_toInt_lt.mpr (by rw [oh_l32]; omega)
theorem v_le {v : Int64} {n : Int32} (hn : rg n 0 24) (c : v < Int32.toInt64 n) : v ≤ Int32.toInt64 (n - 1) := by
  have c2 := Int64.lt_iff_toInt_lt.mp c
  have e : (n - 1).toInt = n.toInt - 1 := by
    rw [Int32.toInt_sub]
    exact oh_bmod (by show _ ≤ n.toInt - 1; have := hn.1; omega) (by show n.toInt - 1 ≤ _; have := hn.2; omega)
  rw [oh_l32] at c2
  exact Int64.le_iff_toInt_le.mpr (by rw [oh_l32, e]; omega)

set_option maxHeartbeats 4000000 in
set_option maxRecDepth 100000 in
theorem e_X6_whyNotTold (l : Launch) (D : va_G) (E : Nat → ClassId) (G : Nat → Nat) (a : Nat → Nat) (C : Nat → va_E) (hT : TyX a E C) (x1 : Int32) (x2 : Int32) (x3 : Int32) (x4 : Int32) (x5 : Int32) : Met l yX6_whyNotTold (oh_w yX6_whyNotTold cX6_whyNotTold 7 (some .int)) ({ frames := 3, cells := 0, slots := 0, locals := 65 }) (oh_Pp D E G [.ref (a 0), .int x1, .int x2, .int x3, .int x4, .int x5] (oh_W 35 a C)) (vp_Si (fun r => (r = 0 → rg x1 0 4 ∧ rg x3 0 15 ∧ rg x4 0 7 ∧ rg x5 0 20) ∧ (∀ (A : LA) (S : HZ), absX 10 C A → absHX C S → r = wnT A S x1 x2 x3 x4 x5))) 0 0 (fun _ => False) := by
  refine Met.ofW (cc := cX6_whyNotTold) (maxL := 7) (ret := (some .int)) (by decide) rfl ?_
  intro p e s m args below meth c s₁ B hml hv
  obtain ⟨rfl, hP, hK, hG⟩ := hv
  have hx := B.exec
  have hb := B.bytes
  have hr := B.returns
  have hts := atoms_spec (ws := (oh_w yX6_whyNotTold cX6_whyNotTold 7 (some .int))) B.pre
  have htg : ∀ w ∈ oh_t, w.before _ s = true := fun w h => hts w (List.mem_cons_of_mem _ h)
  have hown : s.vm.findClass RX6 = some m.cls := findClass_of_methodNamed B.named
  have hlocks := B.notSynchronized
  have hT0 := hT
  have hS : va_S (fun _ => False) s.heap s.heap [] := va_S.rf
  have hl := lv_entry ([.ref (a 0), .int x1, .int x2, .int x3, .int x4, .int x5]) (n := 7) (Nat.le_of_ble_eq_true rfl)
  rw [lg_entry_eq]
  generalize (lg_sl ([.ref (a 0), .int x1, .int x2, .int x3, .int x4, .int x5]) ++ List.replicate (7 - (lg_sl ([.ref (a 0), .int x1, .int x2, .int x3, .int x4, .int x5])).length) Slot.unset).toArray = ls at hl ⊢
  have hl : lv_has ls 7 [(0, .ref (a 0)), (1, .int x1), (2, .int x2), (3, .int x3), (4, .int x4), (5, .int x5)] := hl
  refine oh_genQ (fun Q hQ => ?_)
  refine lv_aload_n hx hb dX6_whyNotTold_0 rfl (lv_at hl 0 rfl) ?_
  refine lv_iload_n hx hb dX6_whyNotTold_1 rfl (lv_at hl 1 rfl) ?_
  refine lv_iload_n hx hb dX6_whyNotTold_2 rfl (lv_at hl 2 rfl) ?_
  refine tq_V (As := [.int x1, .int x2]) (rest := []) (ws := (oh_W 35 a C)) ⟨hx, hb, hml, hown, htg⟩ (e_X6_isPack l D E G a C hT x1 x2) (cwV 2 htg (oh_gV q_695 q_697 q_16 q_66 q_698) rfl rfl rfl pdVX6_isPack ⟨Nat.le_of_ble_eq_true rfl, Nat.le_of_ble_eq_true rfl⟩) hK hP hG hS (va_recv hK hP (ci := 6) (q0 := 0) rfl (oh_wg (by decide) (sX_0 hT))) rfl hl.1 rfl (Nat.le_of_ble_eq_true rfl) dX6_whyNotTold_3 ⟨Nat.le_of_ble_eq_true rfl, Nat.le_of_ble_eq_true rfl⟩ (fun r_1 hq_2 => ?_)
  refine lv_if_eq (tgt := 35) hx hb dX6_whyNotTold_6 (by decide) (fun (c_3 : r_1 = 0) => ?_) (fun (c_3 : ¬ (r_1 = 0)) => ?_)
  · have u_4 := hq_2.2.2 c_3
    refine lv_bipush (v := (-2)) hx hb dX6_whyNotTold_35 (by decide) ?_
    rw [hQ]
    exact W.iret (v := (-2)) hx hb hr (fun t ht hW => ⟨(-2), rfl, ⟨(fun h9 => absurd h9 (by decide)), (fun A S hA hS0 => (pif_neg (fun h8 => (show ¬ okPk (A 5 0 2) (A 5 0 3) x1 x2 by rw [← (show ga (C 10) ((2 : Int32)).toNatClampNeg = A 5 0 2 from hA.1 2 (by decide)), ← (show ga (C 10) ((3 : Int32)).toNatClampNeg = A 5 0 3 from hA.1 3 (by decide))]; exact u_4) h8.1)).symm)⟩, ht⟩) (fun q h => by cases h) dX6_whyNotTold_37
  · have u_5 := hq_2.2.1 c_3
    refine lv_iload_n hx hb dX6_whyNotTold_9 rfl (lv_at hl 3 rfl) ?_
    refine tq_S (As := [.int x3]) (rest := []) (ws := []) ⟨hx, hb, hml, hown, htg⟩ (e_X6_isPlace l D E G x3) (va_cwS 1 htg (oh_gS q_413 q_414 q_66 q_415) rfl rfl rfl pdX6_isPlace ⟨Nat.le_of_ble_eq_true rfl, Nat.le_of_ble_eq_true rfl⟩) hK va_nil hG hS rfl hl.1 rfl (Nat.le_of_ble_eq_true rfl) dX6_whyNotTold_10 ⟨Nat.le_of_ble_eq_true rfl, Nat.le_of_ble_eq_true rfl⟩ (fun r_6 hq_7 => ?_)
    refine lv_if_eq (tgt := 35) hx hb dX6_whyNotTold_13 (by decide) (fun (c_8 : r_6 = 0) => ?_) (fun (c_8 : ¬ (r_6 = 0)) => ?_)
    · have u_9 := hq_7.2.2 c_8
      refine lv_bipush (v := (-2)) hx hb dX6_whyNotTold_35 (by decide) ?_
      rw [hQ]
      exact W.iret (v := (-2)) hx hb hr (fun t ht hW => ⟨(-2), rfl, ⟨(fun h9 => absurd h9 (by decide)), (fun A S hA hS0 => (pif_neg (fun h8 => u_9 h8.2.1)).symm)⟩, ht⟩) (fun q h => by cases h) dX6_whyNotTold_37
    · have u_10 := hq_7.2.1 c_8
      refine lv_iload hx hb dX6_whyNotTold_16 (lv_at hl 4 rfl) ?_
      refine tq_S (As := [.int x4]) (rest := []) (ws := []) ⟨hx, hb, hml, hown, htg⟩ (c_X6_isShelf l D E G x4) (va_cwS 1 htg (oh_gS q_290 q_291 q_66 q_292) rfl rfl rfl pdX6_isShelf ⟨Nat.le_of_ble_eq_true rfl, Nat.le_of_ble_eq_true rfl⟩) hK va_nil hG hS rfl hl.1 rfl (Nat.le_of_ble_eq_true rfl) dX6_whyNotTold_18 ⟨Nat.le_of_ble_eq_true rfl, Nat.le_of_ble_eq_true rfl⟩ (fun r_11 hq_12 => ?_)
      refine lv_if_eq (tgt := 35) hx hb dX6_whyNotTold_21 (by decide) (fun (c_13 : r_11 = 0) => ?_) (fun (c_13 : ¬ (r_11 = 0)) => ?_)
      · have u_14 := hq_12.2.2 c_13
        refine lv_bipush (v := (-2)) hx hb dX6_whyNotTold_35 (by decide) ?_
        rw [hQ]
        exact W.iret (v := (-2)) hx hb hr (fun t ht hW => ⟨(-2), rfl, ⟨(fun h9 => absurd h9 (by decide)), (fun A S hA hS0 => (pif_neg (fun h8 => u_14 h8.2.2.1)).symm)⟩, ht⟩) (fun q h => by cases h) dX6_whyNotTold_37
      · have u_15 := hq_12.2.1 c_13
        refine lv_iload hx hb dX6_whyNotTold_24 (lv_at hl 5 rfl) ?_
        refine lv_iconst (v := 0) hx hb dX6_whyNotTold_26 (by decide) ?_
        refine lv_bipush (v := 20) hx hb dX6_whyNotTold_27 (by decide) ?_
        refine tq_S (As := [.int x5, .int 0, .int 20]) (rest := []) (ws := []) ⟨hx, hb, hml, hown, htg⟩ (c_X6_within l D E G x5 (0 : Int32) (20 : Int32)) (va_cwS 3 htg (oh_gS q_293 q_294 q_66 q_295) rfl rfl rfl pdX6_within ⟨Nat.le_of_ble_eq_true rfl, Nat.le_of_ble_eq_true rfl⟩) hK va_nil hG hS rfl hl.1 rfl (Nat.le_of_ble_eq_true rfl) dX6_whyNotTold_29 ⟨Nat.le_of_ble_eq_true rfl, Nat.le_of_ble_eq_true rfl⟩ (fun r_16 hq_17 => ?_)
        refine lv_if_ne (tgt := 38) hx hb dX6_whyNotTold_32 (by decide) (fun (c_18 : ¬ (r_16 = 0)) => ?_) (fun (c_18 : r_16 = 0) => ?_)
        · have u_19 := hq_17.2.1 c_18
          refine lv_aload_n hx hb dX6_whyNotTold_38 rfl (lv_at hl 0 rfl) ?_
          refine lv_iload hx hb dX6_whyNotTold_39 (lv_at hl 4 rfl) ?_
          refine tq_V (As := [.int x4]) (rest := []) (ws := (oh_W 35 a C)) ⟨hx, hb, hml, hown, htg⟩ (e_X6_whyNoRow l D E G a C hT x4) (cwV 1 htg (oh_gV q_308 q_310 q_1 q_66 q_311) rfl rfl rfl pdVX6_whyNoRow ⟨Nat.le_of_ble_eq_true rfl, Nat.le_of_ble_eq_true rfl⟩) hK hP hG hS (va_recv hK hP (ci := 6) (q0 := 0) rfl (oh_wg (by decide) (sX_0 hT))) rfl hl.1 rfl (Nat.le_of_ble_eq_true rfl) dX6_whyNotTold_41 ⟨Nat.le_of_ble_eq_true rfl, Nat.le_of_ble_eq_true rfl⟩ (fun r_20 hq_21 => ?_)
          refine lv_istore (lv' := [(6, .int r_20), (0, .ref (a 0)), (1, .int x1), (2, .int x2), (3, .int x3), (4, .int x4), (5, .int x5)]) hx hb dX6_whyNotTold_44 hl (by decide) rfl (fun ls hl => ?_)
          refine lv_iload hx hb dX6_whyNotTold_46 (lv_at hl 0 rfl) ?_
          refine lv_if_eq (tgt := 54) hx hb dX6_whyNotTold_48 (by decide) (fun (c_22 : r_20 = 0) => ?_) (fun (c_22 : ¬ (r_20 = 0)) => ?_)
          · have u_23 := hq_21.1 c_22
            refine lv_iload hx hb dX6_whyNotTold_54 (lv_at hl 6 rfl) ?_
            refine lv_aload_n hx hb dX6_whyNotTold_56 rfl (lv_at hl 1 rfl) ?_
            refine va_get (D := D) (ci := 6) (v := .ref (a 4)) (C := RX6) (T := TX6) (N := 9) hx hb htg ig_6 hown hK hP 0 (oh_wg (by decide) (sX_0 hT)) rfl 4 (by decide) (htg _ q_262) (fun _ h9 => h9) rfl dX6_whyNotTold_57 ?_
            refine va_get (D := D) (ci := 3) (v := .ref (a 30)) (C := RX3) (T := TX3) (N := 3) hx hb htg ig_3 hown hK hP 4 (oh_wg (by decide) (sX_4 hT)) rfl 1 (by decide) (htg _ q_201) (fun _ h9 => h9) rfl dX6_whyNotTold_60 ?_
            refine lv_iload hx hb dX6_whyNotTold_63 (lv_at hl 5 rfl) ?_
            have n_24 : vp_in x4 8 := (rg_in u_15 (by decide))
            refine th_iald hx hb hK hP 30 (by decide) (sX_30 hT) n_24 dX6_whyNotTold_65 ?_
            refine lv_icmp_le (tgt := 74) hx hb dX6_whyNotTold_66 (by decide) (fun (c_25 : x5 ≤ (ga (C 30) (x4).toNatClampNeg)) => ?_) (fun (c_25 : ¬ (x5 ≤ (ga (C 30) (x4).toNatClampNeg))) => ?_)
            · refine lv_iconst (v := 0) hx hb dX6_whyNotTold_74 (by decide) ?_
              rw [hQ]
              exact W.iret (v := 0) hx hb hr (fun t ht hW => ⟨0, rfl, ⟨(fun _ => ⟨(rg_w u_5.1 (by decide)), (rg_w u_10 (by decide)), (rg_w u_15 (by decide)), (rg_w (rn_leu u_19.2 (rn_lel u_19.1 (rg_c (v := 0) (lo := 0) (hi := 0) (by decide)) (rg_any _)) (rg_c (v := 20) (lo := 20) (hi := 20) (by decide))) (by decide))⟩), (fun A S hA hS0 => (Eq.trans (pif_pos ⟨(show okPk (A 5 0 2) (A 5 0 3) x1 x2 by rw [← (show ga (C 10) ((2 : Int32)).toNatClampNeg = A 5 0 2 from hA.1 2 (by decide)), ← (show ga (C 10) ((3 : Int32)).toNatClampNeg = A 5 0 3 from hA.1 3 (by decide))]; exact u_5.2), (oh_rgI (p := 0) (q := 15) (rg_w (lo := 0) (hi := 15) u_10 (by decide))), (oh_rgI (p := 0) (q := 7) (rg_w (lo := 0) (hi := 7) u_15 (by decide))), (oh_rgI (p := 0) (q := 20) (rg_w (lo := 0) (hi := 20) (rn_leu u_19.2 (rn_lel u_19.1 (rg_c (v := 0) (lo := 0) (hi := 0) (by decide)) (rg_any _)) (rg_c (v := 20) (lo := 20) (hi := 20) (by decide))) (by decide)))⟩) (Eq.trans (pif_pos (Eq.trans (Eq.symm (Eq.trans hq_21.2 (whyR_x hS0 x4))) c_22)) (pif_neg (by rw [← (hS0 _ (sh8 (rg_w (lo := 0) (hi := 7) u_15 (by decide)))).2.2 (whyR_0 (Eq.trans (Eq.symm (Eq.trans hq_21.2 (whyR_x hS0 x4))) c_22)).2]; exact Int32.not_lt.mpr c_25)))).symm)⟩, ht⟩) (fun q h => by cases h) dX6_whyNotTold_75
            · refine lv_bipush (v := (-2)) hx hb dX6_whyNotTold_69 (by decide) ?_
              refine lv_goto (tgt := 75) hx hb dX6_whyNotTold_71 (by decide) ?_
              rw [hQ]
              exact W.iret (v := (-2)) hx hb hr (fun t ht hW => ⟨(-2), rfl, ⟨(fun h9 => absurd h9 (by decide)), (fun A S hA hS0 => (Eq.trans (pif_pos ⟨(show okPk (A 5 0 2) (A 5 0 3) x1 x2 by rw [← (show ga (C 10) ((2 : Int32)).toNatClampNeg = A 5 0 2 from hA.1 2 (by decide)), ← (show ga (C 10) ((3 : Int32)).toNatClampNeg = A 5 0 3 from hA.1 3 (by decide))]; exact u_5.2), (oh_rgI (p := 0) (q := 15) (rg_w (lo := 0) (hi := 15) u_10 (by decide))), (oh_rgI (p := 0) (q := 7) (rg_w (lo := 0) (hi := 7) u_15 (by decide))), (oh_rgI (p := 0) (q := 20) (rg_w (lo := 0) (hi := 20) (rn_ltl (l' := 1) (Int32.not_le.mp c_25) (tA_rdc (lo := 0) (hi := 40) (tX_30 hT0) n_24 (Nat.mod_one _) (by decide)) (rn_leu u_19.2 (rn_lel u_19.1 (rg_c (v := 0) (lo := 0) (hi := 0) (by decide)) (rg_any _)) (rg_c (v := 20) (lo := 20) (hi := 20) (by decide))) (by decide)) (by decide)))⟩) (Eq.trans (pif_pos (Eq.trans (Eq.symm (Eq.trans hq_21.2 (whyR_x hS0 x4))) c_22)) (pif_pos (by rw [← (hS0 _ (sh8 (rg_w (lo := 0) (hi := 7) u_15 (by decide)))).2.2 (whyR_0 (Eq.trans (Eq.symm (Eq.trans hq_21.2 (whyR_x hS0 x4))) c_22)).2]; exact (Int32.not_le.mp c_25))))).symm)⟩, ht⟩) (fun q h => by cases h) dX6_whyNotTold_75
          · refine lv_iload hx hb dX6_whyNotTold_51 (lv_at hl 0 rfl) ?_
            rw [hQ]
            exact W.iret (v := r_20) hx hb hr (fun t ht hW => ⟨r_20, rfl, ⟨(fun h9 => ⟨(rg_w u_5.1 (by decide)), (rg_w u_10 (by decide)), (rg_w u_15 (by decide)), (rg_w (rn_leu u_19.2 (rn_lel u_19.1 (rg_c (v := 0) (lo := 0) (hi := 0) (by decide)) (rg_any _)) (rg_c (v := 20) (lo := 20) (hi := 20) (by decide))) (by decide))⟩), (fun A S hA hS0 => Eq.trans (Eq.trans hq_21.2 (whyR_x hS0 x4)) (Eq.trans (pif_pos ⟨(show okPk (A 5 0 2) (A 5 0 3) x1 x2 by rw [← (show ga (C 10) ((2 : Int32)).toNatClampNeg = A 5 0 2 from hA.1 2 (by decide)), ← (show ga (C 10) ((3 : Int32)).toNatClampNeg = A 5 0 3 from hA.1 3 (by decide))]; exact u_5.2), (oh_rgI (p := 0) (q := 15) (rg_w (lo := 0) (hi := 15) u_10 (by decide))), (oh_rgI (p := 0) (q := 7) (rg_w (lo := 0) (hi := 7) u_15 (by decide))), (oh_rgI (p := 0) (q := 20) (rg_w (lo := 0) (hi := 20) (rn_leu u_19.2 (rn_lel u_19.1 (rg_c (v := 0) (lo := 0) (hi := 0) (by decide)) (rg_any _)) (rg_c (v := 20) (lo := 20) (hi := 20) (by decide))) (by decide)))⟩) (pif_neg (fun h8 => c_22 (Eq.trans (Eq.trans hq_21.2 (whyR_x hS0 x4)) h8)))).symm)⟩, ht⟩) (fun q h => by cases h) dX6_whyNotTold_53
        · have u_26 := hq_17.2.2 c_18
          refine lv_bipush (v := (-2)) hx hb dX6_whyNotTold_35 (by decide) ?_
          rw [hQ]
          exact W.iret (v := (-2)) hx hb hr (fun t ht hW => ⟨(-2), rfl, ⟨(fun h9 => absurd h9 (by decide)), (fun A S hA hS0 => (pif_neg (fun h8 => u_26 h8.2.2.2)).symm)⟩, ht⟩) (fun q h => by cases h) dX6_whyNotTold_37

set_option maxHeartbeats 4000000 in
set_option maxRecDepth 100000 in
theorem e_X6_firstWrong (l : Launch) (D : va_G) (E : Nat → ClassId) (G : Nat → Nat) (sz : Nat) (a : Nat → Nat) (C : Nat → va_E) (hT : TyX a E C) (x1 : Int32) (x2 : Int32) (x3 : Int32) (hx1 : rg x1 0 15) (hx2 : rg x2 0 7) (hx3 : rg x3 0 20) : Met l yX6_firstWrong (oh_w yX6_firstWrong cX6_firstWrong 5 (some .int)) ({ frames := 4, cells := 0, slots := 0, locals := 89 }) (oh_Pm D E G [.ref (a 0), .int x1, .int x2, .int x3] (oh_W 35 a C) sz) (va_Qi (fun r (u : Nat → va_E) => TyX a E u ∧ fr [(28, 29)] [] C u ∧ (∀ (A : LA) (w t : Int32) (S : HZ) (Z : EZ), absX 10 C A → okA A → svX C A w t → absHX C S → absEX C S Z → rowH (S.1 x2.toNatClampNeg) → x3.toInt ≤ (S.2 x2.toNatClampNeg).toInt → twR A w t (Z x2.toNatClampNeg) x1 x3.toNatClampNeg r ∧ (r = -1 → twI A w t (Z x2.toNatClampNeg) x1 x3.toNatClampNeg (ga (u 28))))) (oh_B D (va_A (oh_W 35 a C) sz) (fun u => oh_W 35 a u)) (va_A (oh_W 35 a C) sz)) 0 0 (va_A (oh_W 35 a C) sz) := by
  refine Met.ofW (cc := cX6_firstWrong) (maxL := 5) (ret := (some .int)) (by decide) rfl ?_
  intro p e s m args below meth c s₁ B hml hv
  obtain ⟨rfl, hsz, hP, hK, hD0, hG⟩ := hv
  have hx := B.exec
  have hb := B.bytes
  have hr := B.returns
  have hts := atoms_spec (ws := (oh_w yX6_firstWrong cX6_firstWrong 5 (some .int))) B.pre
  have htg : ∀ w ∈ oh_t, w.before _ s = true := fun w h => hts w (List.mem_cons_of_mem _ h)
  have hown : s.vm.findClass RX6 = some m.cls := findClass_of_methodNamed B.named
  have hlocks := B.notSynchronized
  have hT0 := hT
  subst hsz
  have hD := hD0.self (sz := s.heap.size)
  generalize hAe : va_A (oh_W 35 a C) s.heap.size = A at hD hG ⊢
  have hA : ∀ q : Nat, s.heap.size ≤ q → A q := fun q h => by rw [← hAe]; exact Or.inr h
  have hS : va_S A s.heap s.heap [] := va_S.rf
  have hF : fr [(28, 29)] [] C C := fr_rf
  have hl := lv_entry ([.ref (a 0), .int x1, .int x2, .int x3]) (n := 5) (Nat.le_of_ble_eq_true rfl)
  rw [lg_entry_eq]
  generalize (lg_sl ([.ref (a 0), .int x1, .int x2, .int x3]) ++ List.replicate (5 - (lg_sl ([.ref (a 0), .int x1, .int x2, .int x3])).length) Slot.unset).toArray = ls at hl ⊢
  have hl : lv_has ls 5 [(0, .ref (a 0)), (1, .int x1), (2, .int x2), (3, .int x3)] := hl
  refine oh_genQ (fun Q hQ => ?_)
  refine lv_aload_n hx hb dX6_firstWrong_0 rfl (lv_at hl 0 rfl) ?_
  refine va_get (D := D) (ci := 6) (v := .ref (a 3)) (C := RX6) (T := TX6) (N := 9) hx hb htg ig_6 hown hK hP 0 (oh_wg (by decide) (sX_0 hT)) rfl 3 (by decide) (htg _ q_261) (fun _ h9 => h9) rfl dX6_firstWrong_1 ?_
  refine lv_iload_n hx hb dX6_firstWrong_4 rfl (lv_at hl 1 rfl) ?_
  refine tm_Vv (As := [.int x1]) (rest := []) ⟨hx, hb, hml, hown, htg⟩ (e_X5_setOut l D E G _ a C hT x1 (rg_w hx1 (by decide))) (cwV 1 htg (oh_gV q_838 q_839 q_840 q_68 q_841) rfl rfl rfl pdVX5_setOut ⟨Nat.le_of_ble_eq_true rfl, Nat.le_of_ble_eq_true rfl⟩) hK hP hD hG hS hA (va_recv hK hP (ci := 5) (q0 := 3) rfl (oh_wg (by decide) (sX_3 hT))) rfl hl.1 rfl (Nat.le_of_ble_eq_true rfl) dX6_firstWrong_5 ⟨Nat.le_of_ble_eq_true rfl, Nat.le_of_ble_eq_true rfl⟩ (fun C_2 H locs hq_3 hP hD hS => ?_)
  obtain ⟨hT, f_4, hq_3⟩ := hq_3
  have hF := fr_tr hF f_4 (by decide) (by decide)
  refine W.widen (k := 0) (n := 0) (Nat.le_refl _) (Nat.le_refl _) ?_
  have t_5 := hT
  refine lv_iconst (v := 0) hx hb dX6_firstWrong_8 (by decide) ?_
  refine lv_istore (lv' := [(4, .int 0), (0, .ref (a 0)), (1, .int x1), (2, .int x2), (3, .int x3)]) hx hb dX6_firstWrong_9 hl (by decide) rfl (fun ls hl => ?_)
  have L_11 : ∀ (d : Nat) (K11 : Nat → va_E) (z11_4 : Int32) (H : Heap) (locs : List Loc) (ls : Array Slot), (20 - z11_4.toInt).toNat = d → rg z11_4 0 20 → (∀ (A : LA) (w t : Int32) (S : HZ) (Z : EZ), absX 10 C A → okA A → svX C A w t → absHX C S → absEX C S Z → rowH (S.1 x2.toNatClampNeg) → x3.toInt ≤ (S.2 x2.toNatClampNeg).toInt → twI A w t (Z x2.toNatClampNeg) x1 z11_4.toNatClampNeg (ga (K11 28))) → (z11_4.toInt ≤ x3.toInt) → TyX a E K11 → fr [(28, 29)] [] C K11 → fr [(28, 29)] [] C_2 K11 → va_P D vwCl (oh_W 35 a K11) H → va_D A (oh_W 35 a K11) → va_S A s.heap H locs → lv_has ls 5 [(4, .int z11_4), (0, .ref (a 0)), (1, .int x1), (2, .int x2), (3, .int x3)] → W p l e ({ frames := 4, cells := 0, slots := 0, locals := 89 }) s m (([.ref (a 0), .int x1, .int x2, .int x3] : List Value).toArray) below meth c H locs 0 0 Q (F0 m 11 ls []) := by
    intro d
    induction d using Nat.strongRecOn with
    | ind d ih_11 =>
    intro K11 z11_4 H locs ls hd_11 hz11_4 hx_11 hy_11 hT hF hLF_11 hP hD hS hl
    have t_6 := hT
    refine lv_iload hx hb dX6_firstWrong_11 (lv_at hl 0 rfl) ?_
    refine lv_iload_n hx hb dX6_firstWrong_13 rfl (lv_at hl 4 rfl) ?_
    refine lv_icmp_ge (tgt := 46) hx hb dX6_firstWrong_14 (by decide) (fun (c_7 : x3 ≤ z11_4) => ?_) (fun (c_7 : ¬ (x3 ≤ z11_4)) => ?_)
    · refine lv_iconst (v := (-1)) hx hb dX6_firstWrong_46 (by decide) ?_
      rw [hQ]
      exact W.iret (v := (-1)) hx hb hr (fun t ht hW => ⟨⟨(-1), K11, rfl, ⟨hT, hF, (fun A w t S Z hA hok hs hS0 hE hr hn => by have h7 := hx_11 A w t S Z hA hok hs hS0 hE hr hn; rw [show z11_4 = x3 from Int32.toInt_inj.mp (by have h8 := Int32.le_iff_toInt_le.mp c_7; have h9 := hy_11; omega)] at h7; exact ⟨Or.inl ⟨rfl, _, h7⟩, fun _ => h7⟩)⟩, ⟨by rw [ht]; exact hP, hD⟩⟩, hS.F ht⟩) hS.2.2 dX6_firstWrong_47
    · refine lv_aload_n hx hb dX6_firstWrong_17 rfl (lv_at hl 1 rfl) ?_
      refine va_get (D := D) (ci := 6) (v := .ref (a 3)) (C := RX6) (T := TX6) (N := 9) hx hb htg ig_6 hown hK hP 0 (oh_wg (by decide) (sX_0 hT)) rfl 3 (by decide) (htg _ q_261) (fun _ h9 => h9) rfl dX6_firstWrong_18 ?_
      refine lv_aload_n hx hb dX6_firstWrong_21 rfl (lv_at hl 1 rfl) ?_
      refine va_get (D := D) (ci := 6) (v := .ref (a 4)) (C := RX6) (T := TX6) (N := 9) hx hb htg ig_6 hown hK hP 0 (oh_wg (by decide) (sX_0 hT)) rfl 4 (by decide) (htg _ q_262) (fun _ h9 => h9) rfl dX6_firstWrong_22 ?_
      refine lv_iload_n hx hb dX6_firstWrong_25 rfl (lv_at hl 3 rfl) ?_
      refine lv_iload hx hb dX6_firstWrong_26 (lv_at hl 0 rfl) ?_
      refine tq_Vl (As := [.int x2, .int z11_4]) (rest := [.ref (a 3)]) (ws := (oh_W 35 a K11)) ⟨hx, hb, hml, hown, htg⟩ (e_X3_elementAt l D E G a K11 hT x2 z11_4 (rg_w hx2 (by decide))) (cwV 2 htg (oh_gV q_353 q_354 q_355 q_70 q_356) rfl rfl rfl pdVX3_elementAt ⟨Nat.le_of_ble_eq_true rfl, Nat.le_of_ble_eq_true rfl⟩) hK hP hG hS (va_recv hK hP (ci := 3) (q0 := 4) rfl (oh_wg (by decide) (sX_4 hT))) rfl hl.1 rfl (Nat.le_of_ble_eq_true rfl) dX6_firstWrong_28 ⟨Nat.le_of_ble_eq_true rfl, Nat.le_of_ble_eq_true rfl⟩ (fun r_8 hq_9 => ?_)
      refine tm_V (As := [.long r_8]) (rest := []) ⟨hx, hb, hml, hown, htg⟩ (e_X5_walk l D E G _ a K11 hT r_8) (cwV 1 htg (oh_gV q_842 q_843 q_844 q_68 q_845) rfl rfl rfl pdVX5_walk ⟨Nat.le_of_ble_eq_true rfl, Nat.le_of_ble_eq_true rfl⟩) hK hP hD hG hS hA (va_recv hK hP (ci := 5) (q0 := 3) rfl (oh_wg (by decide) (sX_3 hT))) rfl hl.1 rfl (Nat.le_of_ble_eq_true rfl) dX6_firstWrong_31 ⟨Nat.le_of_ble_eq_true rfl, Nat.le_of_ble_eq_true rfl⟩ (fun r_10 C_11 H locs hq_12 hP hD hS => ?_)
      obtain ⟨hT, f_13, hq_12⟩ := hq_12
      have hF := fr_tr hF f_13 (by decide) (by decide)
      refine W.widen (k := 0) (n := 0) (Nat.le_refl _) (Nat.le_refl _) ?_
      have t_14 := hT
      refine lv_if_ne (tgt := 40) hx hb dX6_firstWrong_34 (by decide) (fun (c_15 : ¬ (r_10 = 0)) => ?_) (fun (c_15 : r_10 = 0) => ?_)
      · refine lv_iinc (v := z11_4 + 1) (lv' := [(4, .int (z11_4 + 1)), (0, .ref (a 0)), (1, .int x1), (2, .int x2), (3, .int x3)]) hx hb dX6_firstWrong_40 hl (k := 0) rfl (by rfl) (by decide) rfl (fun ls hl => ?_)
        refine lv_goto (tgt := 11) hx hb dX6_firstWrong_43 (by decide) ?_
        exact ih_11 _ (hd_11 ▸ mu_up 20 (rn_ltu (u' := 19) (Int32.not_le.mp c_7) hz11_4 hx3 (by decide)) (by decide)) C_11 (z11_4 + 1) _ _ ls rfl (rg_w (rg_add (lo := 1) (hi := 20) (rn_ltu (u' := 19) (Int32.not_le.mp c_7) hz11_4 hx3 (by decide)) (rg_c (v := 1) (lo := 1) (hi := 1) (by decide)) (by decide)) (by decide)) (fun A w t S Z hA hok hs hS0 hE hr hn => by have ez : r_8 = Z x2.toNatClampNeg z11_4.toNatClampNeg := el_z (hx_fr hS0 (Eq.trans (hLF_11.1 29 rfl (by decide)) (f_4.1 29 rfl (by decide))) (Eq.trans (hLF_11.1 30 rfl (by decide)) (f_4.1 30 rfl (by decide)))) (ex_eq hE (Eq.trans (hLF_11.1 31 rfl (by decide)) (f_4.1 31 rfl (by decide)))) hx2 hr (rg_w (lo := 0) (hi := 20) (rn_ltu (u' := 19) (Int32.not_le.mp c_7) hz11_4 hx3 (by decide)) (by decide)) (Int32.not_le.mp c_7) hn hq_9; have k := hq_12.2 A w t (absX_eq (absX_eq hA (fr_all f_4 10 15 (by decide))) (fr_all hLF_11 10 15 (by decide))) hok (svX_eq hs (Eq.trans (hLF_11.1 9 rfl (by decide)) (f_4.1 9 rfl (by decide))) (Eq.trans (hLF_11.1 24 rfl (by decide)) (f_4.1 24 rfl (by decide))) (Eq.trans (hLF_11.1 25 rfl (by decide)) (f_4.1 25 rfl (by decide)))); rw [ez] at k; have h7 := hx_11 A w t S Z hA hok hs hS0 hE hr hn; have k1 := (oh_b1 (rg_w (lo := 0) (hi := 1) (rn_nel (l' := 1) c_15 (oh_rgb hq_12.1) (rg_c (v := 0) (lo := 0) (hi := 0) (by decide)) (by decide)) (by decide)) c_15); exact tw_s (rg_w (rg_w (lo := 0) (hi := 20) (rn_ltu (u' := 19) (Int32.not_le.mp c_7) hz11_4 hx3 (by decide)) (by decide)) (by decide)) h7 (k.1.mp k1) (k.2 k1)) (by have h7 := Int32.lt_iff_toInt_lt.mp (Int32.not_le.mp c_7); have h8 : (z11_4 + 1).toInt = z11_4.toInt + 1 := oh_incr (rn_ltu (u' := 19) (Int32.not_le.mp c_7) hz11_4 hx3 (by decide)) (by decide); omega) hT hF (fr_tr hLF_11 f_13 (by decide) (by decide)) hP hD hS (lv_sub hl [0, 1, 2, 3, 4] rfl)
      · refine lv_iload hx hb dX6_firstWrong_37 (lv_at hl 0 rfl) ?_
        rw [hQ]
        exact W.iret (v := z11_4) hx hb hr (fun t ht hW => ⟨⟨z11_4, C_11, rfl, ⟨hT, hF, (fun A w t S Z hA hok hs hS0 hE hr hn => by have ez : r_8 = Z x2.toNatClampNeg z11_4.toNatClampNeg := el_z (hx_fr hS0 (Eq.trans (hLF_11.1 29 rfl (by decide)) (f_4.1 29 rfl (by decide))) (Eq.trans (hLF_11.1 30 rfl (by decide)) (f_4.1 30 rfl (by decide)))) (ex_eq hE (Eq.trans (hLF_11.1 31 rfl (by decide)) (f_4.1 31 rfl (by decide)))) hx2 hr (rg_w (lo := 0) (hi := 20) (rn_ltu (u' := 19) (Int32.not_le.mp c_7) hz11_4 hx3 (by decide)) (by decide)) (Int32.not_le.mp c_7) hn hq_9; have k := hq_12.2 A w t (absX_eq (absX_eq hA (fr_all f_4 10 15 (by decide))) (fr_all hLF_11 10 15 (by decide))) hok (svX_eq hs (Eq.trans (hLF_11.1 9 rfl (by decide)) (f_4.1 9 rfl (by decide))) (Eq.trans (hLF_11.1 24 rfl (by decide)) (f_4.1 24 rfl (by decide))) (Eq.trans (hLF_11.1 25 rfl (by decide)) (f_4.1 25 rfl (by decide)))); rw [ez] at k; have h7 := hx_11 A w t S Z hA hok hs hS0 hE hr hn; have n0 : z11_4.toNatClampNeg < x3.toNatClampNeg := (by have h5 := oh_nat (rg_w (lo := 0) (hi := 20) (rn_ltu (u' := 19) (Int32.not_le.mp c_7) hz11_4 hx3 (by decide)) (by decide)) (by decide); have h6 := oh_nat hx3 (by decide); have h8 := Int32.lt_iff_toInt_lt.mp (Int32.not_le.mp c_7); omega); exact ⟨Or.inr ⟨z11_4.toNatClampNeg, n0, (oh_ofc (rg_w (lo := 0) (hi := 20) (rn_ltu (u' := 19) (Int32.not_le.mp c_7) hz11_4 hx3 (by decide)) (by decide)) (by decide)).symm, _, h7, fun q => absurd (Eq.trans (Eq.symm (k.1.mpr q)) c_15) (by decide)⟩, fun h9 => absurd h9 (rg_nev (rg_w (lo := 0) (hi := 20) (rn_ltu (u' := 19) (Int32.not_le.mp c_7) hz11_4 hx3 (by decide)) (by decide)) (by decide))⟩)⟩, ⟨by rw [ht]; exact hP, hD⟩⟩, hS.F ht⟩) hS.2.2 dX6_firstWrong_39
  exact L_11 _ C_2 0 _ _ ls rfl (rg_w (rg_c (v := 0) (lo := 0) (hi := 0) (by decide)) (by decide)) (fun A w t S Z hA hok hs hS0 hE hr hn => tw_0 hq_3.1 hq_3.2.1 hq_3.2.2.1 hq_3.2.2.2) hx3.1 hT hF fr_rf hP hD hS (lv_sub hl [0, 1, 2, 3, 4] rfl)

set_option maxHeartbeats 4000000 in
set_option maxRecDepth 100000 in
theorem e_X6_judge (l : Launch) (D : va_G) (E : Nat → ClassId) (G : Nat → Nat) (sz : Nat) (a : Nat → Nat) (C : Nat → va_E) (hT : TyX a E C) (x1 : Int32) (x2 : Int32) (x3 : Int32) (x4 : Int32) (x5 : Int32) : Met l yX6_judge (oh_w yX6_judge cX6_judge 7 (some .int)) ({ frames := 5, cells := 0, slots := 0, locals := 113 }) (oh_Pm D E G [.ref (a 0), .int x1, .int x2, .int x3, .int x4, .int x5] (oh_W 35 a C) sz) (va_Qi (fun r (u : Nat → va_E) => TyX a E u ∧ fr [(7, 8), (9, 10), (24, 26), (28, 29)] [] C u ∧ (∀ (A : LA) (S : HZ) (Z : EZ), absX 10 C A → okA A → absHX C S → absEX C S Z → r = spJudge A S Z x1 x2 x3 x4 x5)) (oh_B D (va_A (oh_W 35 a C) sz) (fun u => oh_W 35 a u)) (va_A (oh_W 35 a C) sz)) 0 0 (va_A (oh_W 35 a C) sz) := by
  refine Met.ofW (cc := cX6_judge) (maxL := 7) (ret := (some .int)) (by decide) rfl ?_
  intro p e s m args below meth c s₁ B hml hv
  obtain ⟨rfl, hsz, hP, hK, hD0, hG⟩ := hv
  have hx := B.exec
  have hb := B.bytes
  have hr := B.returns
  have hts := atoms_spec (ws := (oh_w yX6_judge cX6_judge 7 (some .int))) B.pre
  have htg : ∀ w ∈ oh_t, w.before _ s = true := fun w h => hts w (List.mem_cons_of_mem _ h)
  have hown : s.vm.findClass RX6 = some m.cls := findClass_of_methodNamed B.named
  have hlocks := B.notSynchronized
  have hT0 := hT
  subst hsz
  have hD := hD0.self (sz := s.heap.size)
  generalize hAe : va_A (oh_W 35 a C) s.heap.size = A at hD hG ⊢
  have hA : ∀ q : Nat, s.heap.size ≤ q → A q := fun q h => by rw [← hAe]; exact Or.inr h
  have hS : va_S A s.heap s.heap [] := va_S.rf
  have hF : fr [(7, 8), (9, 10), (24, 26), (28, 29)] [] C C := fr_rf
  have hl := lv_entry ([.ref (a 0), .int x1, .int x2, .int x3, .int x4, .int x5]) (n := 7) (Nat.le_of_ble_eq_true rfl)
  rw [lg_entry_eq]
  generalize (lg_sl ([.ref (a 0), .int x1, .int x2, .int x3, .int x4, .int x5]) ++ List.replicate (7 - (lg_sl ([.ref (a 0), .int x1, .int x2, .int x3, .int x4, .int x5])).length) Slot.unset).toArray = ls at hl ⊢
  have hl : lv_has ls 7 [(0, .ref (a 0)), (1, .int x1), (2, .int x2), (3, .int x3), (4, .int x4), (5, .int x5)] := hl
  refine oh_genQ (fun Q hQ => ?_)
  refine lv_aload_n hx hb dX6_judge_0 rfl (lv_at hl 0 rfl) ?_
  refine lv_iload_n hx hb dX6_judge_1 rfl (lv_at hl 1 rfl) ?_
  refine lv_iload_n hx hb dX6_judge_2 rfl (lv_at hl 2 rfl) ?_
  refine lv_iload_n hx hb dX6_judge_3 rfl (lv_at hl 3 rfl) ?_
  refine lv_iload hx hb dX6_judge_4 (lv_at hl 4 rfl) ?_
  refine lv_iload hx hb dX6_judge_6 (lv_at hl 5 rfl) ?_
  refine tq_V (As := [.int x1, .int x2, .int x3, .int x4, .int x5]) (rest := []) (ws := (oh_W 35 a C)) ⟨hx, hb, hml, hown, htg⟩ (e_X6_whyNotTold l D E G a C hT x1 x2 x3 x4 x5) (cwV 5 htg (oh_gV q_830 q_832 q_23 q_66 q_833) rfl rfl rfl pdVX6_whyNotTold ⟨Nat.le_of_ble_eq_true rfl, Nat.le_of_ble_eq_true rfl⟩) hK hP hG hS (va_recv hK hP (ci := 6) (q0 := 0) rfl (oh_wg (by decide) (sX_0 hT))) rfl hl.1 rfl (Nat.le_of_ble_eq_true rfl) dX6_judge_8 ⟨Nat.le_of_ble_eq_true rfl, Nat.le_of_ble_eq_true rfl⟩ (fun r_1 hq_2 => ?_)
  refine lv_istore (lv' := [(6, .int r_1), (0, .ref (a 0)), (1, .int x1), (2, .int x2), (3, .int x3), (4, .int x4), (5, .int x5)]) hx hb dX6_judge_11 hl (by decide) rfl (fun ls hl => ?_)
  refine lv_iload hx hb dX6_judge_13 (lv_at hl 0 rfl) ?_
  refine lv_if_eq (tgt := 25) hx hb dX6_judge_15 (by decide) (fun (c_3 : r_1 = 0) => ?_) (fun (c_3 : ¬ (r_1 = 0)) => ?_)
  · have u_4 := hq_2.1 c_3
    refine lv_aload_n hx hb dX6_judge_25 rfl (lv_at hl 1 rfl) ?_
    refine va_get (D := D) (ci := 6) (v := .ref (a 3)) (C := RX6) (T := TX6) (N := 9) hx hb htg ig_6 hown hK hP 0 (oh_wg (by decide) (sX_0 hT)) rfl 3 (by decide) (htg _ q_261) (fun _ h9 => h9) rfl dX6_judge_26 ?_
    refine lv_iload_n hx hb dX6_judge_29 rfl (lv_at hl 2 rfl) ?_
    refine lv_iload_n hx hb dX6_judge_30 rfl (lv_at hl 3 rfl) ?_
    refine tm_Vv (As := [.int x1, .int x2]) (rest := []) ⟨hx, hb, hml, hown, htg⟩ (e_X5_survey l D E G _ a C hT x1 x2 (rg_w u_4.1 (by decide))) (cwV 2 htg (oh_gV q_750 q_751 q_752 q_68 q_753) rfl rfl rfl pdVX5_survey ⟨Nat.le_of_ble_eq_true rfl, Nat.le_of_ble_eq_true rfl⟩) hK hP hD hG hS hA (va_recv hK hP (ci := 5) (q0 := 3) rfl (oh_wg (by decide) (sX_3 hT))) rfl hl.1 rfl (Nat.le_of_ble_eq_true rfl) dX6_judge_31 ⟨Nat.le_of_ble_eq_true rfl, Nat.le_of_ble_eq_true rfl⟩ (fun C_6 H locs hq_7 hP hD hS => ?_)
    obtain ⟨hT, f_8, hq_7⟩ := hq_7
    have hF := fr_tr hF f_8 (by decide) (by decide)
    refine W.widen (k := 0) (n := 0) (Nat.le_refl _) (Nat.le_refl _) ?_
    have t_9 := hT
    refine lv_aload_n hx hb dX6_judge_34 rfl (lv_at hl 1 rfl) ?_
    refine lv_iload_n hx hb dX6_judge_35 rfl (lv_at hl 4 rfl) ?_
    refine lv_iload hx hb dX6_judge_36 (lv_at hl 5 rfl) ?_
    refine lv_iload hx hb dX6_judge_38 (lv_at hl 6 rfl) ?_
    refine tm_V (As := [.int x3, .int x4, .int x5]) (rest := []) ⟨hx, hb, hml, hown, htg⟩ (e_X6_firstWrong l D E G _ a C_6 hT x3 x4 x5 (rg_w u_4.2.1 (by decide)) (rg_w u_4.2.2.1 (by decide)) (rg_w u_4.2.2.2 (by decide))) (cwV 3 htg (oh_gV q_834 q_836 q_24 q_66 q_837) rfl rfl rfl pdVX6_firstWrong ⟨Nat.le_of_ble_eq_true rfl, Nat.le_of_ble_eq_true rfl⟩) hK hP hD hG hS hA (va_recv hK hP (ci := 6) (q0 := 0) rfl (oh_wg (by decide) (sX_0 hT))) rfl hl.1 rfl (Nat.le_of_ble_eq_true rfl) dX6_judge_40 ⟨Nat.le_of_ble_eq_true rfl, Nat.le_of_ble_eq_true rfl⟩ (fun r_10 C_11 H locs hq_12 hP hD hS => ?_)
    obtain ⟨hT, f_13, hq_12⟩ := hq_12
    have hF := fr_tr hF f_13 (by decide) (by decide)
    refine W.widen (k := 0) (n := 0) (Nat.le_refl _) (Nat.le_refl _) ?_
    have t_14 := hT
    rw [hQ]
    exact W.iret (v := r_10) hx hb hr (fun t ht hW => ⟨⟨r_10, C_11, rfl, ⟨hT, hF, (fun A S Z hA hok hS0 hE => by have w0 : wnT A S x1 x2 x3 x4 x5 = 0 := Eq.trans (Eq.symm (hq_2.2 A S hA hS0)) c_3; have hp := wn_0 w0; have k := hq_12 A x1 x2 S Z (absX_eq hA (fr_all f_8 10 15 (by decide))) hok (hq_7 A hA hp.1.1.1.2) (hx_fr hS0 (f_8.1 29 rfl (by decide)) (f_8.1 30 rfl (by decide))) (ex_eq hE (f_8.1 31 rfl (by decide))) hp.2.1 hp.2.2; exact Eq.trans (spOt_eq k.1 twR_u) (pif_pos w0).symm)⟩, ⟨by rw [ht]; exact hP, hD⟩⟩, hS.F ht⟩) hS.2.2 dX6_judge_43
  · refine lv_aload_n hx hb dX6_judge_18 rfl (lv_at hl 1 rfl) ?_
    refine lv_iload hx hb dX6_judge_19 (lv_at hl 0 rfl) ?_
    refine tm_V (As := [.int r_1]) (rest := []) ⟨hx, hb, hml, hown, htg⟩ (c_X6_refuse l D E G _ a C hT r_1) (cwV 1 htg (oh_gV q_296 q_298 q_0 q_66 q_299) rfl rfl rfl pdVX6_refuse ⟨Nat.le_of_ble_eq_true rfl, Nat.le_of_ble_eq_true rfl⟩) hK hP hD hG hS hA (va_recv hK hP (ci := 6) (q0 := 0) rfl (oh_wg (by decide) (sX_0 hT))) rfl hl.1 rfl (Nat.le_of_ble_eq_true rfl) dX6_judge_21 ⟨Nat.le_of_ble_eq_true rfl, Nat.le_of_ble_eq_true rfl⟩ (fun r_15 C_16 H locs hq_17 hP hD hS => ?_)
    obtain ⟨hT, f_18, hq_17⟩ := hq_17
    have hF := fr_tr hF f_18 (by decide) (by decide)
    refine W.widen (k := 0) (n := 0) (Nat.le_refl _) (Nat.le_refl _) ?_
    have t_19 := hT
    rw [hQ]
    exact W.iret (v := r_15) hx hb hr (fun t ht hW => ⟨⟨r_15, C_16, rfl, ⟨hT, hF, (fun A S Z hA hok hS0 hE => by have w := hq_2.2 A S hA hS0; exact Eq.trans hq_17 (Eq.trans w (pif_neg (fun h8 => c_3 (Eq.trans w h8))).symm))⟩, ⟨by rw [ht]; exact hP, hD⟩⟩, hS.F ht⟩) hS.2.2 dX6_judge_24
