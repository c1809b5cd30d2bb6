/-! EXACT: the tape's tokens, told as functions of the bytes f, the size n and a place -/
noncomputable def pif {α : Type} (c : Prop) (x y : α) : α := @ite α c (Classical.propDecidable c) x y
theorem pif_pos {α : Type} {c : Prop} {x y : α} (h : c) : pif c x y = x := if_pos h
theorem pif_neg {α : Type} {c : Prop} {x y : α} (h : ¬ c) : pif c x y = y := if_neg h
theorem pif_iff {α : Type} {c d : Prop} {x y : α} (h : c ↔ d) : pif c x y = pif d x y := by
  by_cases hc : c
  · rw [pif_pos hc, pif_pos (h.mp hc)]
  · rw [pif_neg hc, pif_neg (fun q => hc (h.mpr q))]
theorem oh_lte {x y z : Int32} (c : x < y) (e : y = z) : x < z := e ▸ c
theorem oh_lee {x y z : Int32} (c : y ≤ x) (e : y = z) : z ≤ x := e ▸ c
def pB (b : Int32) : Prop := b = 32
def pL (b : Int32) : Prop := 97 ≤ b ∧ b ≤ 122
def pD (b : Int32) : Prop := 48 ≤ b ∧ b ≤ 57
theorem pL_lo {b : Int32} (c : b < 97) : ¬ pL b := fun h => absurd h.1 (Int32.not_le.mpr c)
theorem pL_hi {b : Int32} (c : 122 < b) : ¬ pL b := fun h => absurd h.2 (Int32.not_le.mpr c)
theorem pD_lo {b : Int32} (c : b < 48) : ¬ pD b := fun h => absurd h.1 (Int32.not_le.mpr c)
theorem pD_hi {b : Int32} (c : 57 < b) : ¬ pD b := fun h => absurd h.2 (Int32.not_le.mpr c)
noncomputable def upt (p : Int32 → Prop) (f : Nat → Int32) (n : Int32) : Nat → Int32 → Int32
  | 0, z => z
  | k + 1, z => pif (z < n ∧ p (f z.toNatClampNeg)) (upt p f n k (z + 1)) z
theorem upt_succ {p : Int32 → Prop} {f : Nat → Int32} {n z : Int32} {k : Nat} : upt p f n (k + 1) z = pif (z < n ∧ p (f z.toNatClampNeg)) (upt p f n k (z + 1)) z := rfl
noncomputable def upto (p : Int32 → Prop) (f : Nat → Int32) (n z : Int32) : Int32 := upt p f n (n.toInt - z.toInt).toNat z
theorem upto_stop {p : Int32 → Prop} {f : Nat → Int32} {n z : Int32} (h : ¬ (z < n ∧ p (f z.toNatClampNeg))) : upto p f n z = z := by
  unfold upto
  cases (n.toInt - z.toInt).toNat with
  | zero => rfl
  | succ k => rw [upt_succ, pif_neg h]
theorem upto_step {p : Int32 → Prop} {f : Nat → Int32} {n z : Int32} (hz : rg z 0 249) (h : z < n) (hp : p (f z.toNatClampNeg)) : upto p f n z = upto p f n (z + 1) := by
  have e : (z + 1).toInt = z.toInt + 1 := oh_add1 hz
  have h1 := Int32.lt_iff_toInt_lt.mp h
  unfold upto
  rw [e, show (n.toInt - z.toInt).toNat = (n.toInt - (z.toInt + 1)).toNat + 1 by omega, upt_succ, pif_pos ⟨h, hp⟩]
theorem upt_ge {p : Int32 → Prop} {f : Nat → Int32} {n : Int32} (hn : rg n 0 250) : ∀ (k : Nat) (z : Int32), rg z 0 250 → z.toInt ≤ (upt p f n k z).toInt
  | 0, z, _ => Int.le_refl _
  | k + 1, z, hz => by
    rw [upt_succ]
    by_cases c : z < n ∧ p (f z.toNatClampNeg)
    · rw [pif_pos c]
      have h1 := Int32.lt_iff_toInt_lt.mp c.1
      have hz9 : rg z 0 249 := ⟨hz.1, by have := hn.2; omega⟩
      have e := oh_add1 hz9
      have h2 := upt_ge (p := p) (f := f) hn k (z + 1) ⟨by rw [e]; have := hz.1; omega, by rw [e]; have := hz9.2; omega⟩
      omega
    · rw [pif_neg c]
      exact Int.le_refl _
theorem upto_ge {p : Int32 → Prop} {f : Nat → Int32} {n z : Int32} (hn : rg n 0 250) (hz : rg z 0 250) : z ≤ upto p f n z := Int32.le_iff_toInt_le.mpr (upt_ge hn _ z hz)
theorem upto_gt {p : Int32 → Prop} {f : Nat → Int32} {n z : Int32} (hn : rg n 0 250) (hz : rg z 0 250) (h : z < n) (hp : p (f z.toNatClampNeg)) : z < upto p f n z := by
  have h1 := Int32.lt_iff_toInt_lt.mp h
  have hz9 : rg z 0 249 := ⟨hz.1, by have := hn.2; omega⟩
  have e := oh_add1 hz9
  rw [upto_step hz9 h hp]
  have h2 := Int32.le_iff_toInt_le.mp (upto_ge (p := p) (f := f) hn (z := z + 1) ⟨by rw [e]; have := hz.1; omega, by rw [e]; have := hz9.2; omega⟩)
  exact Int32.lt_iff_toInt_lt.mpr (by omega)
theorem upto_nn {p : Int32 → Prop} {f : Nat → Int32} {n z : Int32} (hn : rg n 0 250) (hz : rg z 0 250) (h : ¬ z < upto p f n z) : upto p f n z = z := by
  have h1 := Int32.le_iff_toInt_le.mp (upto_ge (p := p) (f := f) hn hz)
  have h2 := Int32.le_iff_toInt_le.mp (Int32.not_lt.mp h)
  exact Int32.toInt_inj.mp (by omega)
/-- the token that begins at S: its sort and its end -/
noncomputable def tT (f : Nat → Int32) (n S : Int32) : Int32 := pif (S < upto pL f n S) 1 (pif (S < upto pD f n S) 2 (pif (n ≤ S) 0 (pif (f S.toNatClampNeg = 59) 3 4)))
noncomputable def tE (f : Nat → Int32) (n S : Int32) : Int32 := pif (S < upto pL f n S) (upto pL f n S) (pif (S < upto pD f n S) (upto pD f n S) (pif (n ≤ S) S (S + 1)))
theorem tk_word {f : Nat → Int32} {n S e : Int32} (he : e = upto pL f n S) (c : S < e) : (1 : Int32) = tT f n S ∧ e = tE f n S := by
  subst he
  unfold tT tE
  rw [pif_pos c, pif_pos c]
  exact ⟨rfl, rfl⟩
theorem tk_num {f : Nat → Int32} {n S e : Int32} (h1 : ¬ S < upto pL f n S) (he : e = upto pD f n S) (c : S < e) : (2 : Int32) = tT f n S ∧ e = tE f n S := by
  subst he
  unfold tT tE
  rw [pif_neg h1, pif_neg h1, pif_pos c, pif_pos c]
  exact ⟨rfl, rfl⟩
theorem tk_end {f : Nat → Int32} {n S : Int32} (h1 : ¬ S < upto pL f n S) (h2 : ¬ S < upto pD f n S) (c : n ≤ S) : (0 : Int32) = tT f n S ∧ S = tE f n S := by
  unfold tT tE
  rw [pif_neg h1, pif_neg h1, pif_neg h2, pif_neg h2, pif_pos c, pif_pos c]
  exact ⟨rfl, rfl⟩
theorem tk_sgn {f : Nat → Int32} {n S : Int32} (h1 : ¬ S < upto pL f n S) (h2 : ¬ S < upto pD f n S) (c : ¬ n ≤ S) (h : f S.toNatClampNeg = 59) : (3 : Int32) = tT f n S ∧ S + 1 = tE f n S := by
  unfold tT tE
  rw [pif_neg h1, pif_neg h1, pif_neg h2, pif_neg h2, pif_neg c, pif_neg c, pif_pos h]
  exact ⟨rfl, rfl⟩
theorem tk_wrg {f : Nat → Int32} {n S : Int32} (h1 : ¬ S < upto pL f n S) (h2 : ¬ S < upto pD f n S) (c : ¬ n ≤ S) (h : ¬ f S.toNatClampNeg = 59) : (4 : Int32) = tT f n S ∧ S + 1 = tE f n S := by
  unfold tT tE
  rw [pif_neg h1, pif_neg h1, pif_neg h2, pif_neg h2, pif_neg c, pif_neg c, pif_neg h]
  exact ⟨rfl, rfl⟩
theorem upto_st {p : Int32 → Prop} {f : Nat → Int32} {n S : Int32} (h : upto p f n S = S) : ¬ S < upto p f n S := by rw [h]; exact Int32.lt_irrefl
/-- the reader's state: size, fault, sort, start, end -/
abbrev PX := Int32 × Int32 × Int32 × Int32 × Int32
def px (C : Nat → va_E) : PX := (gi (C 5) 1, gi (C 5) 2, gi (C 5) 3, gi (C 5) 4, gi (C 5) 5)
def pm (C : Nat → va_E) : PX := (gi (C 0) 7, -1, gi (C 0) 22, gi (C 0) 23, gi (C 0) 21)
noncomputable def xAdv (f : Nat → Int32) (p : PX) : PX := (p.1, p.2.1, tT f p.1 (upto pB f p.1 p.2.2.2.2), upto pB f p.1 p.2.2.2.2, tE f p.1 (upto pB f p.1 p.2.2.2.2))
noncomputable def xFail (p : PX) : PX := (p.1, pif (p.2.1 = -1) p.2.2.2.1 p.2.1, p.2.2.1, p.2.2.2.1, p.2.2.2.2)
theorem px_mk {u : Nat → va_E} {a1 a2 a3 a4 a5 : Int32} (h1 : gi (u 5) 1 = a1) (h2 : gi (u 5) 2 = a2) (h3 : gi (u 5) 3 = a3) (h4 : gi (u 5) 4 = a4) (h5 : gi (u 5) 5 = a5) : px u = (a1, a2, a3, a4, a5) := by
  unfold px
  rw [h1, h2, h3, h4, h5]
theorem pm_mk {u : Nat → va_E} {a1 a3 a4 a5 : Int32} (h1 : gi (u 0) 7 = a1) (h3 : gi (u 0) 22 = a3) (h4 : gi (u 0) 23 = a4) (h5 : gi (u 0) 21 = a5) : pm u = (a1, -1, a3, a4, a5) := by
  unfold pm
  rw [h1, h3, h4, h5]
/-- what the digits from s on, c of them, tell -/
def dvF (f : Nat → Int32) (s : Nat) : Nat → Int32
  | 0 => 0
  | c + 1 => dvF f s c * 10 + f (s + c) - 48
noncomputable def numH (f : Nat → Int32) (p : PX) : Int32 := pif (p.2.2.1 = 2 ∧ p.2.2.2.2 - p.2.2.2.1 ≤ 3) (dvF f p.2.2.2.1.toNatClampNeg (p.2.2.2.2.toInt - p.2.2.2.1.toInt).toNat) (-1)
/-- the token is the word j -/
def XIs (f : Nat → Int32) (p : PX) (j : Nat) : Prop := p.2.1 = -1 ∧ p.2.2.1 = 1 ∧ p.2.2.2.2 - p.2.2.2.1 = Int32.ofNat (oh_len j) ∧ ∀ i : Nat, i < oh_len j → f (p.2.2.2.1.toNatClampNeg + i) = oh_byt j i
noncomputable def xNum (f : Nat → Int32) (lo hi : Int32) (p : PX) : Int32 × PX := pif (p.2.1 = -1 ∧ lo ≤ numH f p ∧ numH f p ≤ hi) (numH f p, xAdv f p) (-1, xFail p)
noncomputable def xWord (f : Nat → Int32) (j : Nat) (p : PX) : PX := pif (XIs f p j) (xAdv f p) (xFail p)
noncomputable def xIf (f : Nat → Int32) (j : Nat) (p : PX) : PX := pif (XIs f p j) (xAdv f p) p
noncomputable def xSign (f : Nat → Int32) (p : PX) : PX := pif (p.2.2.1 = 3) (xAdv f p) (xFail p)
theorem oh_ixs {s i : Int32} {ui : Int} (hs : rg s 0 250) (hi : rg i 0 ui) (hu : decide (ui ≤ 1000) = true) : (s + i).toNatClampNeg = s.toNatClampNeg + i.toNatClampNeg := by
  have h2 := of_decide_eq_true hu
  have e : (s + i).toInt = s.toInt + i.toInt := by
    rw [Int32.toInt_add]
    exact oh_bmod (by have := hs.1; have := hi.1; omega) (by have := hs.2; have := hi.2; omega)
  show (s + i).toInt.toNat = s.toInt.toNat + i.toInt.toNat
  rw [e]
  have := hs.1
  have := hi.1
  omega
/-- isWord's loop -/
theorem xw_step {f : Nat → Int32} {s z : Int32} {j : Nat} {uz : Int} (hs : rg s 0 250) (hz : rg z 0 uz) (hu : decide (uz ≤ 1000) = true) (h : ∀ i : Nat, (i : Int) < z.toInt → f (s.toNatClampNeg + i) = oh_byt j i) (c : f (s + z).toNatClampNeg = oh_byt j z.toNatClampNeg) : ∀ i : Nat, (i : Int) < (z + 1).toInt → f (s.toNatClampNeg + i) = oh_byt j i := by
  have hu2 := of_decide_eq_true hu
  intro i hi
  have e : (z + 1).toInt = z.toInt + 1 := by
    rw [Int32.toInt_add]
    exact oh_bmod (by show _ ≤ z.toInt + 1; have := hz.1; omega) (by show z.toInt + 1 ≤ _; have := hz.2; omega)
  have e2 := oh_nat hz (by decide)
  by_cases q : (i : Int) < z.toInt
  · exact h i q
  · have q2 : i = z.toNatClampNeg := by omega
    rw [q2, ← oh_ixs hs hz hu]
    exact c
theorem xw_0 {f : Nat → Int32} {s : Int32} {j : Nat} : ∀ i : Nat, (i : Int) < (0 : Int32).toInt → f (s.toNatClampNeg + i) = oh_byt j i := fun i hi => absurd hi (by show ¬ (i : Int) < 0; omega)
theorem xw_all {f : Nat → Int32} {s z : Int32} {j : Nat} (hj : j < 34) (c : Int32.ofNat (oh_len j) ≤ z) (h : ∀ i : Nat, (i : Int) < z.toInt → f (s.toNatClampNeg + i) = oh_byt j i) : ∀ i : Nat, i < oh_len j → f (s.toNatClampNeg + i) = oh_byt j i := fun i hi => h i (by
  have h1 := Int32.le_iff_toInt_le.mp c
  rw [oh_lenn0 j hj] at h1
  omega)
theorem xw_no {f : Nat → Int32} {s z : Int32} {j : Nat} {uz : Int} (hj : j < 34) (hs : rg s 0 250) (hz : rg z 0 uz) (hu : decide (uz ≤ 1000) = true) (cl : z < Int32.ofNat (oh_len j)) (c : ¬ f (s + z).toNatClampNeg = oh_byt j z.toNatClampNeg) : ¬ ∀ i : Nat, i < oh_len j → f (s.toNatClampNeg + i) = oh_byt j i := by
  intro h
  have h1 := Int32.lt_iff_toInt_lt.mp cl
  rw [oh_lenn0 j hj] at h1
  have e2 := oh_nat hz (by decide)
  refine c ?_
  rw [oh_ixs hs hz hu]
  exact h _ (by omega)
/-- numberHere's loop -/
def dvI (f : Nat → Int32) (s e z v : Int32) : Prop := s.toInt ≤ z.toInt ∧ (z.toInt = s.toInt ∨ z.toInt ≤ e.toInt) ∧ v = dvF f s.toNatClampNeg (z.toInt - s.toInt).toNat
theorem dv_step {f : Nat → Int32} {s e z v : Int32} {uz : Int} (hs : rg s 0 250) (hz : rg z 0 uz) (hu : decide (uz ≤ 1000) = true) (c : z < e) (h : dvI f s e z v) : dvI f s e (z + 1) (v * 10 + f z.toNatClampNeg - 48) := by
  have hu2 := of_decide_eq_true hu
  have c1 := Int32.lt_iff_toInt_lt.mp c
  have e1 : (z + 1).toInt = z.toInt + 1 := by
    rw [Int32.toInt_add]
    exact oh_bmod (by show _ ≤ z.toInt + 1; have := hz.1; omega) (by show z.toInt + 1 ≤ _; have := hz.2; omega)
  have e2 := oh_nat hz (by decide)
  have e3 := oh_nat hs (by decide)
  obtain ⟨h1, -, h2⟩ := h
  refine ⟨by omega, Or.inr (by omega), ?_⟩
  rw [e1, show (z.toInt + 1 - s.toInt).toNat = (z.toInt - s.toInt).toNat + 1 by omega]
  show _ = dvF f s.toNatClampNeg (z.toInt - s.toInt).toNat * 10 + f (s.toNatClampNeg + (z.toInt - s.toInt).toNat) - 48
  rw [← h2, show s.toNatClampNeg + (z.toInt - s.toInt).toNat = z.toNatClampNeg by omega]
theorem dv_0 {f : Nat → Int32} {s e : Int32} : dvI f s e s 0 := ⟨Int.le_refl _, Or.inl rfl, by rw [Int.sub_self]; rfl⟩
theorem dv_end {f : Nat → Int32} {s e z v : Int32} (c : e ≤ z) (h : dvI f s e z v) : v = dvF f s.toNatClampNeg (e.toInt - s.toInt).toNat := by
  have c1 := Int32.le_iff_toInt_le.mp c
  obtain ⟨h1, h3, h2⟩ := h
  rw [h2, show (z.toInt - s.toInt).toNat = (e.toInt - s.toInt).toNat by omega]
theorem xFail_no {p : PX} (h : ¬ p.2.1 = -1) : xFail p = p := by
  unfold xFail
  rw [pif_neg h]
theorem xNum_no {f : Nat → Int32} {lo hi : Int32} {p : PX} (h : ¬ (p.2.1 = -1 ∧ lo ≤ numH f p ∧ numH f p ≤ hi)) : xNum f lo hi p = (-1, xFail p) := pif_neg h
theorem xNum_ok {f : Nat → Int32} {lo hi v : Int32} {p : PX} (e : v = numH f p) (h0 : p.2.1 = -1) (h1 : lo ≤ v) (h2 : v ≤ hi) : xNum f lo hi p = (v, xAdv f p) := by
  subst e
  exact pif_pos ⟨h0, h1, h2⟩
theorem xNum_b {f : Nat → Int32} {lo hi v : Int32} {p : PX} (e : v = numH f p) (h : ¬ (lo ≤ v ∧ v ≤ hi)) : xNum f lo hi p = (-1, xFail p) := by
  subst e
  exact pif_neg (fun q => h q.2)
noncomputable def xPer (f : Nat → Int32) (j : Nat) (lo hi d : Int32) (p : PX) : Int32 × PX := pif (XIs f p j) (xNum f lo hi (xAdv f p)) (d, p)
theorem xPer_1 {f : Nat → Int32} {j : Nat} {lo hi d : Int32} {p : PX} (h : XIs f p j) : xPer f j lo hi d p = xNum f lo hi (xAdv f p) := pif_pos h
theorem xPer_0 {f : Nat → Int32} {j : Nat} {lo hi d : Int32} {p : PX} (h : ¬ XIs f p j) : xPer f j lo hi d p = (d, p) := pif_neg h

set_option maxHeartbeats 4000000 in
set_option maxRecDepth 100000 in
theorem e_X4_advance (l : Launch) (D : va_G) (E : Nat → ClassId) (G : Nat → Nat) (sz : Nat) (a : Nat → Nat) (C : Nat → va_E) (hT : TyX a E C) : Met l yX4_advance (oh_w yX4_advance cX4_advance 1 none) ({ frames := 0, cells := 0, slots := 0, locals := 0 }) (oh_Pm D E G [.ref (a 5)] (oh_W 35 a C) sz) (va_Qv (fun (u : Nat → va_E) => TyX a E u ∧ fr [(5, 6)] [] C u ∧ (gi (u 5) 2 = gi (C 5) 2) ∧ (px u = xAdv (ga (C 32)) (px C))) (oh_B D (va_A (oh_W 35 a C) sz) (fun u => oh_W 35 a u)) (va_A (oh_W 35 a C) sz)) 0 0 (va_A (oh_W 35 a C) sz) := by
  refine Met.ofW (cc := cX4_advance) (maxL := 1) (ret := none) (by decide) rfl ?_
  intro p e s m args below meth c s₁ B hml hv
  obtain ⟨rfl, hsz, hP, hK, hD0, hG⟩ := hv
  have hx := B.exec
  have hb := B.bytes
  have hr := B.returns
  have hts := atoms_spec (ws := (oh_w yX4_advance cX4_advance 1 none)) B.pre
  have htg : ∀ w ∈ oh_t, w.before _ s = true := fun w h => hts w (List.mem_cons_of_mem _ h)
  have hown : s.vm.findClass RX4 = some m.cls := findClass_of_methodNamed B.named
  have hlocks := B.notSynchronized
  have hT0 := hT
  subst hsz
  have hD := hD0.self (sz := s.heap.size)
  generalize hAe : va_A (oh_W 35 a C) s.heap.size = A at hD hG ⊢
  have hA : ∀ q : Nat, s.heap.size ≤ q → A q := fun q h => by rw [← hAe]; exact Or.inr h
  have hS : va_S A s.heap s.heap [] := va_S.rf
  have hF : fr [(5, 6)] [] C C := fr_rf
  have hl := lv_entry ([.ref (a 5)]) (n := 1) (Nat.le_of_ble_eq_true rfl)
  rw [lg_entry_eq]
  generalize (lg_sl ([.ref (a 5)]) ++ List.replicate (1 - (lg_sl ([.ref (a 5)])).length) Slot.unset).toArray = ls at hl ⊢
  have hl : lv_has ls 1 [(0, .ref (a 5))] := hl
  refine oh_genQ (fun Q hQ => ?_)
  refine lv_aload_n hx hb dX4_advance_0 rfl (lv_at hl 0 rfl) ?_
  refine lv_aload_n hx hb dX4_advance_1 rfl (lv_at hl 0 rfl) ?_
  refine va_get (D := D) (ci := 4) (v := .int (gi (C 5) 5)) (C := RX4) (T := TX4) (N := 6) hx hb htg ig_4 hown hK hP 5 (oh_wg (by decide) (sX_5 hT)) rfl 5 (by decide) (htg _ q_224) (fun _ h9 => h9) rfl dX4_advance_2 ?_
  refine th_put (Tp := TyX a E) (Rl := fr [(5, 6)] [] C) (ci := 4) (v := .int (gi (C 5) 5)) (ty := .int) (CC := RX4) (T := TX4) (N := 6) hx hb htg ig_4 tyX4 tyX4_ok nmX4 hown hK hP hD hS 5 (by decide) (sX_5 hT) rfl 4 (by decide) (htg _ q_223) (fun _ h9 => h9) rfl (by decide +kernel) rfl rfl (Nat.le_of_ble_eq_true rfl) (hT.up 5 ⟨rfl, (fX_5_1 hT), (fX_5_2 hT), (rg_w (fX_5_5 hT0) (by decide)), (fX_5_5 hT)⟩) (fr_st hF (by decide) (by decide)) dX4_advance_5 (fun C_1 H locs e_2 hT hF hP hD hS => ?_)
  have t_3 := hT
  have L_8 : ∀ (d : Nat) (K8 : Nat → va_E) (H : Heap) (locs : List Loc) (ls : Array Slot), (250 - (gi (K8 5) 4).toInt).toNat = d → (gi (K8 5) 2 = gi (C 5) 2) → (gi (K8 5) 1 = (gi (C 5) 1) ∧ (upto pB (ga (C 32)) (gi (C 5) 1) (gi (K8 5) 4)) = (upto pB (ga (C 32)) (gi (C 5) 1) (gi (C 5) 5))) → TyX a E K8 → fr [(5, 6)] [] C K8 → fr [(5, 6)] [] C_1 K8 → va_P D vwCl (oh_W 35 a K8) H → va_D A (oh_W 35 a K8) → va_S A s.heap H locs → lv_has ls 1 [(0, .ref (a 5))] → W p l e ({ frames := 0, cells := 0, slots := 0, locals := 0 }) s m (([.ref (a 5)] : List Value).toArray) below meth c H locs 0 0 Q (F0 m 8 ls []) := by
    intro d
    induction d using Nat.strongRecOn with
    | ind d ih_8 =>
    intro K8  H locs ls hd_8 hv_8 hs_8 hT hF hLF_8 hP hD hS hl
    have t_4 := hT
    refine lv_aload_n hx hb dX4_advance_8 rfl (lv_at hl 0 rfl) ?_
    refine va_get (D := D) (ci := 4) (v := .int (gi (K8 5) 4)) (C := RX4) (T := TX4) (N := 6) hx hb htg ig_4 hown hK hP 5 (oh_wg (by decide) (sX_5 hT)) rfl 4 (by decide) (htg _ q_223) (fun _ h9 => h9) rfl dX4_advance_9 ?_
    refine lv_aload_n hx hb dX4_advance_12 rfl (lv_at hl 0 rfl) ?_
    refine va_get (D := D) (ci := 4) (v := .int (gi (K8 5) 1)) (C := RX4) (T := TX4) (N := 6) hx hb htg ig_4 hown hK hP 5 (oh_wg (by decide) (sX_5 hT)) rfl 1 (by decide) (htg _ q_218) (fun _ h9 => h9) rfl dX4_advance_13 ?_
    refine lv_icmp_ge (tgt := 46) hx hb dX4_advance_16 (by decide) (fun (c_5 : (gi (K8 5) 1) ≤ (gi (K8 5) 4)) => ?_) (fun (c_5 : ¬ ((gi (K8 5) 1) ≤ (gi (K8 5) 4))) => ?_)
    · refine lv_aload_n hx hb dX4_advance_46 rfl (lv_at hl 0 rfl) ?_
      refine lv_aload_n hx hb dX4_advance_47 rfl (lv_at hl 0 rfl) ?_
      refine va_get (D := D) (ci := 4) (v := .int (gi (K8 5) 4)) (C := RX4) (T := TX4) (N := 6) hx hb htg ig_4 hown hK hP 5 (oh_wg (by decide) (sX_5 hT)) rfl 4 (by decide) (htg _ q_223) (fun _ h9 => h9) rfl dX4_advance_48 ?_
      refine th_put (Tp := TyX a E) (Rl := fr [(5, 6)] [] C) (ci := 4) (v := .int (gi (K8 5) 4)) (ty := .int) (CC := RX4) (T := TX4) (N := 6) hx hb htg ig_4 tyX4 tyX4_ok nmX4 hown hK hP hD hS 5 (by decide) (sX_5 hT) rfl 5 (by decide) (htg _ q_224) (fun _ h9 => h9) rfl (by decide +kernel) rfl rfl (Nat.le_of_ble_eq_true rfl) (hT.up 5 ⟨rfl, (fX_5_1 hT), (fX_5_2 hT), (fX_5_4 hT), (rg_w (fX_5_4 t_4) (by decide))⟩) (fr_st hF (by decide) (by decide)) dX4_advance_51 (fun C_6 H locs e_7 hT hF hP hD hS => ?_)
      have t_8 := hT
      have L_54 : ∀ (d : Nat) (K54 : Nat → va_E) (H : Heap) (locs : List Loc) (ls : Array Slot), (250 - (gi (K54 5) 5).toInt).toNat = d → (gi (K54 5) 2 = gi (C 5) 2) → (gi (K54 5) 1 = (gi (C 5) 1) ∧ gi (K54 5) 4 = (upto pB (ga (C 32)) (gi (C 5) 1) (gi (C 5) 5)) ∧ (upto pL (ga (C 32)) (gi (C 5) 1) (gi (K54 5) 5)) = (upto pL (ga (C 32)) (gi (C 5) 1) (upto pB (ga (C 32)) (gi (C 5) 1) (gi (C 5) 5)))) → TyX a E K54 → fr [(5, 6)] [] C K54 → fr [(5, 6)] [] C_6 K54 → va_P D vwCl (oh_W 35 a K54) H → va_D A (oh_W 35 a K54) → va_S A s.heap H locs → lv_has ls 1 [(0, .ref (a 5))] → W p l e ({ frames := 0, cells := 0, slots := 0, locals := 0 }) s m (([.ref (a 5)] : List Value).toArray) below meth c H locs 0 0 Q (F0 m 54 ls []) := by
        intro d
        induction d using Nat.strongRecOn with
        | ind d ih_54 =>
        intro K54  H locs ls hd_54 hv_54 hs_54 hT hF hLF_54 hP hD hS hl
        have t_9 := hT
        refine lv_aload_n hx hb dX4_advance_54 rfl (lv_at hl 0 rfl) ?_
        refine va_get (D := D) (ci := 4) (v := .int (gi (K54 5) 5)) (C := RX4) (T := TX4) (N := 6) hx hb htg ig_4 hown hK hP 5 (oh_wg (by decide) (sX_5 hT)) rfl 5 (by decide) (htg _ q_224) (fun _ h9 => h9) rfl dX4_advance_55 ?_
        refine lv_aload_n hx hb dX4_advance_58 rfl (lv_at hl 0 rfl) ?_
        refine va_get (D := D) (ci := 4) (v := .int (gi (K54 5) 1)) (C := RX4) (T := TX4) (N := 6) hx hb htg ig_4 hown hK hP 5 (oh_wg (by decide) (sX_5 hT)) rfl 1 (by decide) (htg _ q_218) (fun _ h9 => h9) rfl dX4_advance_59 ?_
        refine lv_icmp_ge (tgt := 106) hx hb dX4_advance_62 (by decide) (fun (c_10 : (gi (K54 5) 1) ≤ (gi (K54 5) 5)) => ?_) (fun (c_10 : ¬ ((gi (K54 5) 1) ≤ (gi (K54 5) 5))) => ?_)
        · refine lv_aload_n hx hb dX4_advance_106 rfl (lv_at hl 0 rfl) ?_
          refine va_get (D := D) (ci := 4) (v := .int (gi (K54 5) 5)) (C := RX4) (T := TX4) (N := 6) hx hb htg ig_4 hown hK hP 5 (oh_wg (by decide) (sX_5 hT)) rfl 5 (by decide) (htg _ q_224) (fun _ h9 => h9) rfl dX4_advance_107 ?_
          refine lv_aload_n hx hb dX4_advance_110 rfl (lv_at hl 0 rfl) ?_
          refine va_get (D := D) (ci := 4) (v := .int (gi (K54 5) 4)) (C := RX4) (T := TX4) (N := 6) hx hb htg ig_4 hown hK hP 5 (oh_wg (by decide) (sX_5 hT)) rfl 4 (by decide) (htg _ q_223) (fun _ h9 => h9) rfl dX4_advance_111 ?_
          refine lv_icmp_le (tgt := 123) hx hb dX4_advance_114 (by decide) (fun (c_11 : (gi (K54 5) 5) ≤ (gi (K54 5) 4)) => ?_) (fun (c_11 : ¬ ((gi (K54 5) 5) ≤ (gi (K54 5) 4))) => ?_)
          · have L_123 : ∀ (d : Nat) (K123 : Nat → va_E) (H : Heap) (locs : List Loc) (ls : Array Slot), (250 - (gi (K123 5) 5).toInt).toNat = d → (gi (K123 5) 2 = gi (C 5) 2) → (gi (K123 5) 1 = (gi (C 5) 1) ∧ gi (K123 5) 4 = (upto pB (ga (C 32)) (gi (C 5) 1) (gi (C 5) 5)) ∧ ¬ (upto pB (ga (C 32)) (gi (C 5) 1) (gi (C 5) 5)) < (upto pL (ga (C 32)) (gi (C 5) 1) (upto pB (ga (C 32)) (gi (C 5) 1) (gi (C 5) 5))) ∧ (upto pD (ga (C 32)) (gi (C 5) 1) (gi (K123 5) 5)) = (upto pD (ga (C 32)) (gi (C 5) 1) (upto pB (ga (C 32)) (gi (C 5) 1) (gi (C 5) 5)))) → TyX a E K123 → fr [(5, 6)] [] C K123 → fr [(5, 6)] [] K54 K123 → va_P D vwCl (oh_W 35 a K123) H → va_D A (oh_W 35 a K123) → va_S A s.heap H locs → lv_has ls 1 [(0, .ref (a 5))] → W p l e ({ frames := 0, cells := 0, slots := 0, locals := 0 }) s m (([.ref (a 5)] : List Value).toArray) below meth c H locs 0 0 Q (F0 m 123 ls []) := by
              intro d
              induction d using Nat.strongRecOn with
              | ind d ih_123 =>
              intro K123  H locs ls hd_123 hv_123 hs_123 hT hF hLF_123 hP hD hS hl
              have t_12 := hT
              refine lv_aload_n hx hb dX4_advance_123 rfl (lv_at hl 0 rfl) ?_
              refine va_get (D := D) (ci := 4) (v := .int (gi (K123 5) 5)) (C := RX4) (T := TX4) (N := 6) hx hb htg ig_4 hown hK hP 5 (oh_wg (by decide) (sX_5 hT)) rfl 5 (by decide) (htg _ q_224) (fun _ h9 => h9) rfl dX4_advance_124 ?_
              refine lv_aload_n hx hb dX4_advance_127 rfl (lv_at hl 0 rfl) ?_
              refine va_get (D := D) (ci := 4) (v := .int (gi (K123 5) 1)) (C := RX4) (T := TX4) (N := 6) hx hb htg ig_4 hown hK hP 5 (oh_wg (by decide) (sX_5 hT)) rfl 1 (by decide) (htg _ q_218) (fun _ h9 => h9) rfl dX4_advance_128 ?_
              refine lv_icmp_ge (tgt := 175) hx hb dX4_advance_131 (by decide) (fun (c_13 : (gi (K123 5) 1) ≤ (gi (K123 5) 5)) => ?_) (fun (c_13 : ¬ ((gi (K123 5) 1) ≤ (gi (K123 5) 5))) => ?_)
              · refine lv_aload_n hx hb dX4_advance_175 rfl (lv_at hl 0 rfl) ?_
                refine va_get (D := D) (ci := 4) (v := .int (gi (K123 5) 5)) (C := RX4) (T := TX4) (N := 6) hx hb htg ig_4 hown hK hP 5 (oh_wg (by decide) (sX_5 hT)) rfl 5 (by decide) (htg _ q_224) (fun _ h9 => h9) rfl dX4_advance_176 ?_
                refine lv_aload_n hx hb dX4_advance_179 rfl (lv_at hl 0 rfl) ?_
                refine va_get (D := D) (ci := 4) (v := .int (gi (K123 5) 4)) (C := RX4) (T := TX4) (N := 6) hx hb htg ig_4 hown hK hP 5 (oh_wg (by decide) (sX_5 hT)) rfl 4 (by decide) (htg _ q_223) (fun _ h9 => h9) rfl dX4_advance_180 ?_
                refine lv_icmp_le (tgt := 192) hx hb dX4_advance_183 (by decide) (fun (c_14 : (gi (K123 5) 5) ≤ (gi (K123 5) 4)) => ?_) (fun (c_14 : ¬ ((gi (K123 5) 5) ≤ (gi (K123 5) 4))) => ?_)
                · refine lv_aload_n hx hb dX4_advance_192 rfl (lv_at hl 0 rfl) ?_
                  refine va_get (D := D) (ci := 4) (v := .int (gi (K123 5) 4)) (C := RX4) (T := TX4) (N := 6) hx hb htg ig_4 hown hK hP 5 (oh_wg (by decide) (sX_5 hT)) rfl 4 (by decide) (htg _ q_223) (fun _ h9 => h9) rfl dX4_advance_193 ?_
                  refine lv_aload_n hx hb dX4_advance_196 rfl (lv_at hl 0 rfl) ?_
                  refine va_get (D := D) (ci := 4) (v := .int (gi (K123 5) 1)) (C := RX4) (T := TX4) (N := 6) hx hb htg ig_4 hown hK hP 5 (oh_wg (by decide) (sX_5 hT)) rfl 1 (by decide) (htg _ q_218) (fun _ h9 => h9) rfl dX4_advance_197 ?_
                  refine lv_icmp_lt (tgt := 209) hx hb dX4_advance_200 (by decide) (fun (c_15 : (gi (K123 5) 4) < (gi (K123 5) 1)) => ?_) (fun (c_15 : ¬ ((gi (K123 5) 4) < (gi (K123 5) 1))) => ?_)
                  · refine lv_aload_n hx hb dX4_advance_209 rfl (lv_at hl 0 rfl) ?_
                    refine lv_aload_n hx hb dX4_advance_210 rfl (lv_at hl 0 rfl) ?_
                    refine va_get (D := D) (ci := 4) (v := .ref (a 32)) (C := RX4) (T := TX4) (N := 6) hx hb htg ig_4 hown hK hP 5 (oh_wg (by decide) (sX_5 hT)) rfl 0 (by decide) (htg _ q_217) (fun _ h9 => h9) rfl dX4_advance_211 ?_
                    refine lv_aload_n hx hb dX4_advance_214 rfl (lv_at hl 0 rfl) ?_
                    refine va_get (D := D) (ci := 4) (v := .int (gi (K123 5) 4)) (C := RX4) (T := TX4) (N := 6) hx hb htg ig_4 hown hK hP 5 (oh_wg (by decide) (sX_5 hT)) rfl 4 (by decide) (htg _ q_223) (fun _ h9 => h9) rfl dX4_advance_215 ?_
                    have n_16 : vp_in (gi (K123 5) 4) 250 := (rg_in (rn_ltu (u' := 249) c_15 (rn_lel c_14 (rn_lel c_13 (rn_ltl (l' := 1) c_15 (fX_5_4 t_12) (fX_5_1 t_12) (by decide)) (fX_5_5 t_12)) (fX_5_4 t_12)) (fX_5_1 t_12) (by decide)) (by decide))
                    refine th_iald hx hb hK hP 32 (by decide) (Eq.trans (Eq.trans (hLF_123.1 32 rfl (by decide)) (Eq.trans (hLF_54.1 32 rfl (by decide)) (Eq.trans (th_un e_7 (by decide)) (Eq.trans (hLF_8.1 32 rfl (by decide)) (th_un e_2 (by decide)))))) (sX_32 hT0)) n_16 dX4_advance_218 ?_
                    refine lv_bipush (v := 59) hx hb dX4_advance_219 (by decide) ?_
                    refine lv_icmp_ne (tgt := 228) hx hb dX4_advance_221 (by decide) (fun (c_17 : ¬ ((ga (C 32) (gi (K123 5) 4).toNatClampNeg) = 59)) => ?_) (fun (c_17 : (ga (C 32) (gi (K123 5) 4).toNatClampNeg) = 59) => ?_)
                    · refine lv_iconst (v := 4) hx hb dX4_advance_228 (by decide) ?_
                      refine th_put (Tp := TyX a E) (Rl := fr [(5, 6)] [] C) (ci := 4) (v := .int 4) (ty := .int) (CC := RX4) (T := TX4) (N := 6) hx hb htg ig_4 tyX4 tyX4_ok nmX4 hown hK hP hD hS 5 (by decide) (sX_5 hT) rfl 3 (by decide) (htg _ q_222) (fun _ h9 => h9) rfl (by decide +kernel) rfl rfl (Nat.le_of_ble_eq_true rfl) (hT.up 5 ⟨rfl, (fX_5_1 hT), (fX_5_2 hT), (fX_5_4 hT), (fX_5_5 hT)⟩) (fr_st hF (by decide) (by decide)) dX4_advance_229 (fun C_18 H locs e_19 hT hF hP hD hS => ?_)
                      have t_20 := hT
                      refine lv_aload_n hx hb dX4_advance_232 rfl (lv_at hl 0 rfl) ?_
                      refine lv_aload_n hx hb dX4_advance_233 rfl (lv_at hl 0 rfl) ?_
                      refine va_get (D := D) (ci := 4) (v := .int (gi (K123 5) 4)) (C := RX4) (T := TX4) (N := 6) hx hb htg ig_4 hown hK hP 5 (oh_wg (by decide) (sX_5 hT)) rfl 4 (by decide) (htg _ q_223) (fun _ h9 => h9) (oh_fv (c := C_18 5) (j := 4) rfl (show gi (C_18 5) 4 = gi (K123 5) 4 by rw [e_19]; rfl)) dX4_advance_234 ?_
                      refine lv_iconst (v := 1) hx hb dX4_advance_237 (by decide) ?_
                      refine lv_iadd hx hb dX4_advance_238 ?_
                      refine th_put (Tp := TyX a E) (Rl := fr [(5, 6)] [] C) (ci := 4) (v := .int ((gi (K123 5) 4) + 1)) (ty := .int) (CC := RX4) (T := TX4) (N := 6) hx hb htg ig_4 tyX4 tyX4_ok nmX4 hown hK hP hD hS 5 (by decide) (sX_5 hT) rfl 5 (by decide) (htg _ q_224) (fun _ h9 => h9) rfl (by decide +kernel) rfl rfl (Nat.le_of_ble_eq_true rfl) (hT.up 5 ⟨rfl, (fX_5_1 hT), (fX_5_2 hT), (fX_5_4 hT), (rg_w (rg_add (lo := 2) (hi := 250) (rn_ltu (u' := 249) c_15 (rn_lel c_14 (rn_lel c_13 (rn_ltl (l' := 1) c_15 (fX_5_4 t_12) (fX_5_1 t_12) (by decide)) (fX_5_5 t_12)) (fX_5_4 t_12)) (fX_5_1 t_12) (by decide)) (rg_c (v := 1) (lo := 1) (hi := 1) (by decide)) (by decide)) (by decide))⟩) (fr_st hF (by decide) (by decide)) dX4_advance_239 (fun C_21 H locs e_22 hT hF hP hD hS => ?_)
                      have t_23 := hT
                      have hM_24 : ¬ (upto pB (ga (C 32)) (gi (C 5) 1) (gi (C 5) 5)) < (upto pD (ga (C 32)) (gi (C 5) 1) (upto pB (ga (C 32)) (gi (C 5) 1) (gi (C 5) 5))) := by rw [← (Eq.trans (upto_stop (p := pD) (fun h8 => absurd (oh_lte h8.1 hs_123.1.symm) (Int32.not_lt.mpr c_13))).symm hs_123.2.2.2), ← hs_123.2.1]; exact Int32.not_lt.mpr c_14
                      have tk_25 := (tk_wrg hs_123.2.2.1 hM_24 (fun h8 => absurd (oh_lee (by rw [← hs_123.2.1] at h8; exact h8) hs_123.1.symm) (Int32.not_le.mpr c_15)) (by rw [← hs_123.2.1]; exact c_17))
                      rw [hQ]
                      exact W.vret hx hb hr (fun t ht hW => ⟨⟨C_21, rfl, ⟨hT, hF, ⟨(Eq.trans (Eq.trans (show gi (C_21 5) 2 = gi (C_18 5) 2 by rw [e_22]; rfl) (show gi (C_18 5) 2 = gi (K123 5) 2 by rw [e_19]; rfl)) hv_123), (px_mk (Eq.trans (Eq.trans (show gi (C_21 5) 1 = gi (C_18 5) 1 by rw [e_22]; rfl) (show gi (C_18 5) 1 = gi (K123 5) 1 by rw [e_19]; rfl)) hs_123.1) (Eq.trans (Eq.trans (show gi (C_21 5) 2 = gi (C_18 5) 2 by rw [e_22]; rfl) (show gi (C_18 5) 2 = gi (K123 5) 2 by rw [e_19]; rfl)) hv_123) (Eq.trans (Eq.trans (show gi (C_21 5) 3 = gi (C_18 5) 3 by rw [e_22]; rfl) (show gi (C_18 5) 3 = (4 : Int32) by rw [e_19]; rfl)) tk_25.1) (Eq.trans (Eq.trans (show gi (C_21 5) 4 = gi (C_18 5) 4 by rw [e_22]; rfl) (show gi (C_18 5) 4 = gi (K123 5) 4 by rw [e_19]; rfl)) hs_123.2.1) (Eq.trans (Eq.trans (show gi (C_21 5) 5 = ((gi (K123 5) 4) + 1) by rw [e_22]; rfl) (congrArg (fun z => z + 1) hs_123.2.1)) tk_25.2))⟩⟩, ⟨by rw [ht]; exact hP, hD⟩⟩, hS.F ht⟩) hS.2.2 dX4_advance_242
                    · refine lv_iconst (v := 3) hx hb dX4_advance_224 (by decide) ?_
                      refine lv_goto (tgt := 229) hx hb dX4_advance_225 (by decide) ?_
                      refine th_put (Tp := TyX a E) (Rl := fr [(5, 6)] [] C) (ci := 4) (v := .int 3) (ty := .int) (CC := RX4) (T := TX4) (N := 6) hx hb htg ig_4 tyX4 tyX4_ok nmX4 hown hK hP hD hS 5 (by decide) (sX_5 hT) rfl 3 (by decide) (htg _ q_222) (fun _ h9 => h9) rfl (by decide +kernel) rfl rfl (Nat.le_of_ble_eq_true rfl) (hT.up 5 ⟨rfl, (fX_5_1 hT), (fX_5_2 hT), (fX_5_4 hT), (fX_5_5 hT)⟩) (fr_st hF (by decide) (by decide)) dX4_advance_229 (fun C_26 H locs e_27 hT hF hP hD hS => ?_)
                      have t_28 := hT
                      refine lv_aload_n hx hb dX4_advance_232 rfl (lv_at hl 0 rfl) ?_
                      refine lv_aload_n hx hb dX4_advance_233 rfl (lv_at hl 0 rfl) ?_
                      refine va_get (D := D) (ci := 4) (v := .int (gi (K123 5) 4)) (C := RX4) (T := TX4) (N := 6) hx hb htg ig_4 hown hK hP 5 (oh_wg (by decide) (sX_5 hT)) rfl 4 (by decide) (htg _ q_223) (fun _ h9 => h9) (oh_fv (c := C_26 5) (j := 4) rfl (show gi (C_26 5) 4 = gi (K123 5) 4 by rw [e_27]; rfl)) dX4_advance_234 ?_
                      refine lv_iconst (v := 1) hx hb dX4_advance_237 (by decide) ?_
                      refine lv_iadd hx hb dX4_advance_238 ?_
                      refine th_put (Tp := TyX a E) (Rl := fr [(5, 6)] [] C) (ci := 4) (v := .int ((gi (K123 5) 4) + 1)) (ty := .int) (CC := RX4) (T := TX4) (N := 6) hx hb htg ig_4 tyX4 tyX4_ok nmX4 hown hK hP hD hS 5 (by decide) (sX_5 hT) rfl 5 (by decide) (htg _ q_224) (fun _ h9 => h9) rfl (by decide +kernel) rfl rfl (Nat.le_of_ble_eq_true rfl) (hT.up 5 ⟨rfl, (fX_5_1 hT), (fX_5_2 hT), (fX_5_4 hT), (rg_w (rg_add (lo := 2) (hi := 250) (rn_ltu (u' := 249) c_15 (rn_lel c_14 (rn_lel c_13 (rn_ltl (l' := 1) c_15 (fX_5_4 t_12) (fX_5_1 t_12) (by decide)) (fX_5_5 t_12)) (fX_5_4 t_12)) (fX_5_1 t_12) (by decide)) (rg_c (v := 1) (lo := 1) (hi := 1) (by decide)) (by decide)) (by decide))⟩) (fr_st hF (by decide) (by decide)) dX4_advance_239 (fun C_29 H locs e_30 hT hF hP hD hS => ?_)
                      have t_31 := hT
                      have hM_32 : ¬ (upto pB (ga (C 32)) (gi (C 5) 1) (gi (C 5) 5)) < (upto pD (ga (C 32)) (gi (C 5) 1) (upto pB (ga (C 32)) (gi (C 5) 1) (gi (C 5) 5))) := by rw [← (Eq.trans (upto_stop (p := pD) (fun h8 => absurd (oh_lte h8.1 hs_123.1.symm) (Int32.not_lt.mpr c_13))).symm hs_123.2.2.2), ← hs_123.2.1]; exact Int32.not_lt.mpr c_14
                      have tk_33 := (tk_sgn hs_123.2.2.1 hM_32 (fun h8 => absurd (oh_lee (by rw [← hs_123.2.1] at h8; exact h8) hs_123.1.symm) (Int32.not_le.mpr c_15)) (by rw [← hs_123.2.1]; exact c_17))
                      rw [hQ]
                      exact W.vret hx hb hr (fun t ht hW => ⟨⟨C_29, rfl, ⟨hT, hF, ⟨(Eq.trans (Eq.trans (show gi (C_29 5) 2 = gi (C_26 5) 2 by rw [e_30]; rfl) (show gi (C_26 5) 2 = gi (K123 5) 2 by rw [e_27]; rfl)) hv_123), (px_mk (Eq.trans (Eq.trans (show gi (C_29 5) 1 = gi (C_26 5) 1 by rw [e_30]; rfl) (show gi (C_26 5) 1 = gi (K123 5) 1 by rw [e_27]; rfl)) hs_123.1) (Eq.trans (Eq.trans (show gi (C_29 5) 2 = gi (C_26 5) 2 by rw [e_30]; rfl) (show gi (C_26 5) 2 = gi (K123 5) 2 by rw [e_27]; rfl)) hv_123) (Eq.trans (Eq.trans (show gi (C_29 5) 3 = gi (C_26 5) 3 by rw [e_30]; rfl) (show gi (C_26 5) 3 = (3 : Int32) by rw [e_27]; rfl)) tk_33.1) (Eq.trans (Eq.trans (show gi (C_29 5) 4 = gi (C_26 5) 4 by rw [e_30]; rfl) (show gi (C_26 5) 4 = gi (K123 5) 4 by rw [e_27]; rfl)) hs_123.2.1) (Eq.trans (Eq.trans (show gi (C_29 5) 5 = ((gi (K123 5) 4) + 1) by rw [e_30]; rfl) (congrArg (fun z => z + 1) hs_123.2.1)) tk_33.2))⟩⟩, ⟨by rw [ht]; exact hP, hD⟩⟩, hS.F ht⟩) hS.2.2 dX4_advance_242
                  · refine lv_aload_n hx hb dX4_advance_203 rfl (lv_at hl 0 rfl) ?_
                    refine lv_iconst (v := 0) hx hb dX4_advance_204 (by decide) ?_
                    refine th_put (Tp := TyX a E) (Rl := fr [(5, 6)] [] C) (ci := 4) (v := .int 0) (ty := .int) (CC := RX4) (T := TX4) (N := 6) hx hb htg ig_4 tyX4 tyX4_ok nmX4 hown hK hP hD hS 5 (by decide) (sX_5 hT) rfl 3 (by decide) (htg _ q_222) (fun _ h9 => h9) rfl (by decide +kernel) rfl rfl (Nat.le_of_ble_eq_true rfl) (hT.up 5 ⟨rfl, (fX_5_1 hT), (fX_5_2 hT), (fX_5_4 hT), (fX_5_5 hT)⟩) (fr_st hF (by decide) (by decide)) dX4_advance_205 (fun C_34 H locs e_35 hT hF hP hD hS => ?_)
                    have t_36 := hT
                    have hM_37 : ¬ (upto pB (ga (C 32)) (gi (C 5) 1) (gi (C 5) 5)) < (upto pD (ga (C 32)) (gi (C 5) 1) (upto pB (ga (C 32)) (gi (C 5) 1) (gi (C 5) 5))) := by rw [← (Eq.trans (upto_stop (p := pD) (fun h8 => absurd (oh_lte h8.1 hs_123.1.symm) (Int32.not_lt.mpr c_13))).symm hs_123.2.2.2), ← hs_123.2.1]; exact Int32.not_lt.mpr c_14
                    have hZ_38 : gi (K123 5) 5 = (upto pB (ga (C 32)) (gi (C 5) 1) (gi (C 5) 5)) := Eq.trans (Eq.trans (upto_stop (p := pD) (fun h8 => absurd (oh_lte h8.1 hs_123.1.symm) (Int32.not_lt.mpr c_13))).symm hs_123.2.2.2) (upto_nn (fX_5_1 hT0) (by rw [← hs_123.2.1]; exact (rg_w (lo := 0) (hi := 250) (fX_5_4 t_12) (by decide))) hM_37)
                    have tk_39 := (tk_end hs_123.2.2.1 hM_37 (by rw [← hs_123.2.1, ← hs_123.1]; exact (Int32.not_lt.mp c_15)))
                    rw [hQ]
                    exact W.vret hx hb hr (fun t ht hW => ⟨⟨C_34, rfl, ⟨hT, hF, ⟨(Eq.trans (show gi (C_34 5) 2 = gi (K123 5) 2 by rw [e_35]; rfl) hv_123), (px_mk (Eq.trans (show gi (C_34 5) 1 = gi (K123 5) 1 by rw [e_35]; rfl) hs_123.1) (Eq.trans (show gi (C_34 5) 2 = gi (K123 5) 2 by rw [e_35]; rfl) hv_123) (Eq.trans (show gi (C_34 5) 3 = (0 : Int32) by rw [e_35]; rfl) tk_39.1) (Eq.trans (show gi (C_34 5) 4 = gi (K123 5) 4 by rw [e_35]; rfl) hs_123.2.1) (Eq.trans (Eq.trans (show gi (C_34 5) 5 = gi (K123 5) 5 by rw [e_35]; rfl) hZ_38) tk_39.2))⟩⟩, ⟨by rw [ht]; exact hP, hD⟩⟩, hS.F ht⟩) hS.2.2 dX4_advance_208
                · refine lv_aload_n hx hb dX4_advance_186 rfl (lv_at hl 0 rfl) ?_
                  refine lv_iconst (v := 2) hx hb dX4_advance_187 (by decide) ?_
                  refine th_put (Tp := TyX a E) (Rl := fr [(5, 6)] [] C) (ci := 4) (v := .int 2) (ty := .int) (CC := RX4) (T := TX4) (N := 6) hx hb htg ig_4 tyX4 tyX4_ok nmX4 hown hK hP hD hS 5 (by decide) (sX_5 hT) rfl 3 (by decide) (htg _ q_222) (fun _ h9 => h9) rfl (by decide +kernel) rfl rfl (Nat.le_of_ble_eq_true rfl) (hT.up 5 ⟨rfl, (fX_5_1 hT), (fX_5_2 hT), (fX_5_4 hT), (fX_5_5 hT)⟩) (fr_st hF (by decide) (by decide)) dX4_advance_188 (fun C_40 H locs e_41 hT hF hP hD hS => ?_)
                  have t_42 := hT
                  have tk_43 := (tk_num hs_123.2.2.1 (Eq.trans (upto_stop (p := pD) (fun h8 => absurd (oh_lte h8.1 hs_123.1.symm) (Int32.not_lt.mpr c_13))).symm hs_123.2.2.2) (by rw [← hs_123.2.1]; exact (Int32.not_le.mp c_14)))
                  rw [hQ]
                  exact W.vret hx hb hr (fun t ht hW => ⟨⟨C_40, rfl, ⟨hT, hF, ⟨(Eq.trans (show gi (C_40 5) 2 = gi (K123 5) 2 by rw [e_41]; rfl) hv_123), (px_mk (Eq.trans (show gi (C_40 5) 1 = gi (K123 5) 1 by rw [e_41]; rfl) hs_123.1) (Eq.trans (show gi (C_40 5) 2 = gi (K123 5) 2 by rw [e_41]; rfl) hv_123) (Eq.trans (show gi (C_40 5) 3 = (2 : Int32) by rw [e_41]; rfl) tk_43.1) (Eq.trans (show gi (C_40 5) 4 = gi (K123 5) 4 by rw [e_41]; rfl) hs_123.2.1) (Eq.trans (show gi (C_40 5) 5 = gi (K123 5) 5 by rw [e_41]; rfl) tk_43.2))⟩⟩, ⟨by rw [ht]; exact hP, hD⟩⟩, hS.F ht⟩) hS.2.2 dX4_advance_191
              · refine lv_aload_n hx hb dX4_advance_134 rfl (lv_at hl 0 rfl) ?_
                refine va_get (D := D) (ci := 4) (v := .ref (a 32)) (C := RX4) (T := TX4) (N := 6) hx hb htg ig_4 hown hK hP 5 (oh_wg (by decide) (sX_5 hT)) rfl 0 (by decide) (htg _ q_217) (fun _ h9 => h9) rfl dX4_advance_135 ?_
                refine lv_aload_n hx hb dX4_advance_138 rfl (lv_at hl 0 rfl) ?_
                refine va_get (D := D) (ci := 4) (v := .int (gi (K123 5) 5)) (C := RX4) (T := TX4) (N := 6) hx hb htg ig_4 hown hK hP 5 (oh_wg (by decide) (sX_5 hT)) rfl 5 (by decide) (htg _ q_224) (fun _ h9 => h9) rfl dX4_advance_139 ?_
                have n_44 : vp_in (gi (K123 5) 5) 250 := (rg_in (rn_ltu (u' := 249) (Int32.not_le.mp c_13) (fX_5_5 t_12) (fX_5_1 t_12) (by decide)) (by decide))
                refine th_iald hx hb hK hP 32 (by decide) (Eq.trans (Eq.trans (hLF_123.1 32 rfl (by decide)) (Eq.trans (hLF_54.1 32 rfl (by decide)) (Eq.trans (th_un e_7 (by decide)) (Eq.trans (hLF_8.1 32 rfl (by decide)) (th_un e_2 (by decide)))))) (sX_32 hT0)) n_44 dX4_advance_142 ?_
                refine lv_bipush (v := 48) hx hb dX4_advance_143 (by decide) ?_
                refine lv_icmp_lt (tgt := 175) hx hb dX4_advance_145 (by decide) (fun (c_45 : (ga (C 32) (gi (K123 5) 5).toNatClampNeg) < 48) => ?_) (fun (c_45 : ¬ ((ga (C 32) (gi (K123 5) 5).toNatClampNeg) < 48)) => ?_)
                · refine lv_aload_n hx hb dX4_advance_175 rfl (lv_at hl 0 rfl) ?_
                  refine va_get (D := D) (ci := 4) (v := .int (gi (K123 5) 5)) (C := RX4) (T := TX4) (N := 6) hx hb htg ig_4 hown hK hP 5 (oh_wg (by decide) (sX_5 hT)) rfl 5 (by decide) (htg _ q_224) (fun _ h9 => h9) rfl dX4_advance_176 ?_
                  refine lv_aload_n hx hb dX4_advance_179 rfl (lv_at hl 0 rfl) ?_
                  refine va_get (D := D) (ci := 4) (v := .int (gi (K123 5) 4)) (C := RX4) (T := TX4) (N := 6) hx hb htg ig_4 hown hK hP 5 (oh_wg (by decide) (sX_5 hT)) rfl 4 (by decide) (htg _ q_223) (fun _ h9 => h9) rfl dX4_advance_180 ?_
                  refine lv_icmp_le (tgt := 192) hx hb dX4_advance_183 (by decide) (fun (c_46 : (gi (K123 5) 5) ≤ (gi (K123 5) 4)) => ?_) (fun (c_46 : ¬ ((gi (K123 5) 5) ≤ (gi (K123 5) 4))) => ?_)
                  · refine lv_aload_n hx hb dX4_advance_192 rfl (lv_at hl 0 rfl) ?_
                    refine va_get (D := D) (ci := 4) (v := .int (gi (K123 5) 4)) (C := RX4) (T := TX4) (N := 6) hx hb htg ig_4 hown hK hP 5 (oh_wg (by decide) (sX_5 hT)) rfl 4 (by decide) (htg _ q_223) (fun _ h9 => h9) rfl dX4_advance_193 ?_
                    refine lv_aload_n hx hb dX4_advance_196 rfl (lv_at hl 0 rfl) ?_
                    refine va_get (D := D) (ci := 4) (v := .int (gi (K123 5) 1)) (C := RX4) (T := TX4) (N := 6) hx hb htg ig_4 hown hK hP 5 (oh_wg (by decide) (sX_5 hT)) rfl 1 (by decide) (htg _ q_218) (fun _ h9 => h9) rfl dX4_advance_197 ?_
                    refine lv_icmp_lt (tgt := 209) hx hb dX4_advance_200 (by decide) (fun (c_47 : (gi (K123 5) 4) < (gi (K123 5) 1)) => ?_) (fun (c_47 : ¬ ((gi (K123 5) 4) < (gi (K123 5) 1))) => ?_)
                    · refine lv_aload_n hx hb dX4_advance_209 rfl (lv_at hl 0 rfl) ?_
                      refine lv_aload_n hx hb dX4_advance_210 rfl (lv_at hl 0 rfl) ?_
                      refine va_get (D := D) (ci := 4) (v := .ref (a 32)) (C := RX4) (T := TX4) (N := 6) hx hb htg ig_4 hown hK hP 5 (oh_wg (by decide) (sX_5 hT)) rfl 0 (by decide) (htg _ q_217) (fun _ h9 => h9) rfl dX4_advance_211 ?_
                      refine lv_aload_n hx hb dX4_advance_214 rfl (lv_at hl 0 rfl) ?_
                      refine va_get (D := D) (ci := 4) (v := .int (gi (K123 5) 4)) (C := RX4) (T := TX4) (N := 6) hx hb htg ig_4 hown hK hP 5 (oh_wg (by decide) (sX_5 hT)) rfl 4 (by decide) (htg _ q_223) (fun _ h9 => h9) rfl dX4_advance_215 ?_
                      have n_48 : vp_in (gi (K123 5) 4) 250 := (rg_in (rn_ltu (u' := 249) c_47 (fX_5_4 t_12) (rn_ltl (l' := 1) (Int32.not_le.mp c_13) (fX_5_5 t_12) (fX_5_1 t_12) (by decide)) (by decide)) (by decide))
                      refine th_iald hx hb hK hP 32 (by decide) (Eq.trans (Eq.trans (hLF_123.1 32 rfl (by decide)) (Eq.trans (hLF_54.1 32 rfl (by decide)) (Eq.trans (th_un e_7 (by decide)) (Eq.trans (hLF_8.1 32 rfl (by decide)) (th_un e_2 (by decide)))))) (sX_32 hT0)) n_48 dX4_advance_218 ?_
                      refine lv_bipush (v := 59) hx hb dX4_advance_219 (by decide) ?_
                      refine lv_icmp_ne (tgt := 228) hx hb dX4_advance_221 (by decide) (fun (c_49 : ¬ ((ga (C 32) (gi (K123 5) 4).toNatClampNeg) = 59)) => ?_) (fun (c_49 : (ga (C 32) (gi (K123 5) 4).toNatClampNeg) = 59) => ?_)
                      · refine lv_iconst (v := 4) hx hb dX4_advance_228 (by decide) ?_
                        refine th_put (Tp := TyX a E) (Rl := fr [(5, 6)] [] C) (ci := 4) (v := .int 4) (ty := .int) (CC := RX4) (T := TX4) (N := 6) hx hb htg ig_4 tyX4 tyX4_ok nmX4 hown hK hP hD hS 5 (by decide) (sX_5 hT) rfl 3 (by decide) (htg _ q_222) (fun _ h9 => h9) rfl (by decide +kernel) rfl rfl (Nat.le_of_ble_eq_true rfl) (hT.up 5 ⟨rfl, (fX_5_1 hT), (fX_5_2 hT), (fX_5_4 hT), (fX_5_5 hT)⟩) (fr_st hF (by decide) (by decide)) dX4_advance_229 (fun C_50 H locs e_51 hT hF hP hD hS => ?_)
                        have t_52 := hT
                        refine lv_aload_n hx hb dX4_advance_232 rfl (lv_at hl 0 rfl) ?_
                        refine lv_aload_n hx hb dX4_advance_233 rfl (lv_at hl 0 rfl) ?_
                        refine va_get (D := D) (ci := 4) (v := .int (gi (K123 5) 4)) (C := RX4) (T := TX4) (N := 6) hx hb htg ig_4 hown hK hP 5 (oh_wg (by decide) (sX_5 hT)) rfl 4 (by decide) (htg _ q_223) (fun _ h9 => h9) (oh_fv (c := C_50 5) (j := 4) rfl (show gi (C_50 5) 4 = gi (K123 5) 4 by rw [e_51]; rfl)) dX4_advance_234 ?_
                        refine lv_iconst (v := 1) hx hb dX4_advance_237 (by decide) ?_
                        refine lv_iadd hx hb dX4_advance_238 ?_
                        refine th_put (Tp := TyX a E) (Rl := fr [(5, 6)] [] C) (ci := 4) (v := .int ((gi (K123 5) 4) + 1)) (ty := .int) (CC := RX4) (T := TX4) (N := 6) hx hb htg ig_4 tyX4 tyX4_ok nmX4 hown hK hP hD hS 5 (by decide) (sX_5 hT) rfl 5 (by decide) (htg _ q_224) (fun _ h9 => h9) rfl (by decide +kernel) rfl rfl (Nat.le_of_ble_eq_true rfl) (hT.up 5 ⟨rfl, (fX_5_1 hT), (fX_5_2 hT), (fX_5_4 hT), (rg_w (rg_add (lo := 1) (hi := 250) (rn_ltu (u' := 249) c_47 (fX_5_4 t_12) (rn_ltl (l' := 1) (Int32.not_le.mp c_13) (fX_5_5 t_12) (fX_5_1 t_12) (by decide)) (by decide)) (rg_c (v := 1) (lo := 1) (hi := 1) (by decide)) (by decide)) (by decide))⟩) (fr_st hF (by decide) (by decide)) dX4_advance_239 (fun C_53 H locs e_54 hT hF hP hD hS => ?_)
                        have t_55 := hT
                        have hM_56 : ¬ (upto pB (ga (C 32)) (gi (C 5) 1) (gi (C 5) 5)) < (upto pD (ga (C 32)) (gi (C 5) 1) (upto pB (ga (C 32)) (gi (C 5) 1) (gi (C 5) 5))) := by rw [← (Eq.trans (upto_stop (p := pD) (fun h8 => pD_lo c_45 h8.2)).symm hs_123.2.2.2), ← hs_123.2.1]; exact Int32.not_lt.mpr c_46
                        have tk_57 := (tk_wrg hs_123.2.2.1 hM_56 (fun h8 => absurd (oh_lee (by rw [← hs_123.2.1] at h8; exact h8) hs_123.1.symm) (Int32.not_le.mpr c_47)) (by rw [← hs_123.2.1]; exact c_49))
                        rw [hQ]
                        exact W.vret hx hb hr (fun t ht hW => ⟨⟨C_53, rfl, ⟨hT, hF, ⟨(Eq.trans (Eq.trans (show gi (C_53 5) 2 = gi (C_50 5) 2 by rw [e_54]; rfl) (show gi (C_50 5) 2 = gi (K123 5) 2 by rw [e_51]; rfl)) hv_123), (px_mk (Eq.trans (Eq.trans (show gi (C_53 5) 1 = gi (C_50 5) 1 by rw [e_54]; rfl) (show gi (C_50 5) 1 = gi (K123 5) 1 by rw [e_51]; rfl)) hs_123.1) (Eq.trans (Eq.trans (show gi (C_53 5) 2 = gi (C_50 5) 2 by rw [e_54]; rfl) (show gi (C_50 5) 2 = gi (K123 5) 2 by rw [e_51]; rfl)) hv_123) (Eq.trans (Eq.trans (show gi (C_53 5) 3 = gi (C_50 5) 3 by rw [e_54]; rfl) (show gi (C_50 5) 3 = (4 : Int32) by rw [e_51]; rfl)) tk_57.1) (Eq.trans (Eq.trans (show gi (C_53 5) 4 = gi (C_50 5) 4 by rw [e_54]; rfl) (show gi (C_50 5) 4 = gi (K123 5) 4 by rw [e_51]; rfl)) hs_123.2.1) (Eq.trans (Eq.trans (show gi (C_53 5) 5 = ((gi (K123 5) 4) + 1) by rw [e_54]; rfl) (congrArg (fun z => z + 1) hs_123.2.1)) tk_57.2))⟩⟩, ⟨by rw [ht]; exact hP, hD⟩⟩, hS.F ht⟩) hS.2.2 dX4_advance_242
                      · refine lv_iconst (v := 3) hx hb dX4_advance_224 (by decide) ?_
                        refine lv_goto (tgt := 229) hx hb dX4_advance_225 (by decide) ?_
                        refine th_put (Tp := TyX a E) (Rl := fr [(5, 6)] [] C) (ci := 4) (v := .int 3) (ty := .int) (CC := RX4) (T := TX4) (N := 6) hx hb htg ig_4 tyX4 tyX4_ok nmX4 hown hK hP hD hS 5 (by decide) (sX_5 hT) rfl 3 (by decide) (htg _ q_222) (fun _ h9 => h9) rfl (by decide +kernel) rfl rfl (Nat.le_of_ble_eq_true rfl) (hT.up 5 ⟨rfl, (fX_5_1 hT), (fX_5_2 hT), (fX_5_4 hT), (fX_5_5 hT)⟩) (fr_st hF (by decide) (by decide)) dX4_advance_229 (fun C_58 H locs e_59 hT hF hP hD hS => ?_)
                        have t_60 := hT
                        refine lv_aload_n hx hb dX4_advance_232 rfl (lv_at hl 0 rfl) ?_
                        refine lv_aload_n hx hb dX4_advance_233 rfl (lv_at hl 0 rfl) ?_
                        refine va_get (D := D) (ci := 4) (v := .int (gi (K123 5) 4)) (C := RX4) (T := TX4) (N := 6) hx hb htg ig_4 hown hK hP 5 (oh_wg (by decide) (sX_5 hT)) rfl 4 (by decide) (htg _ q_223) (fun _ h9 => h9) (oh_fv (c := C_58 5) (j := 4) rfl (show gi (C_58 5) 4 = gi (K123 5) 4 by rw [e_59]; rfl)) dX4_advance_234 ?_
                        refine lv_iconst (v := 1) hx hb dX4_advance_237 (by decide) ?_
                        refine lv_iadd hx hb dX4_advance_238 ?_
                        refine th_put (Tp := TyX a E) (Rl := fr [(5, 6)] [] C) (ci := 4) (v := .int ((gi (K123 5) 4) + 1)) (ty := .int) (CC := RX4) (T := TX4) (N := 6) hx hb htg ig_4 tyX4 tyX4_ok nmX4 hown hK hP hD hS 5 (by decide) (sX_5 hT) rfl 5 (by decide) (htg _ q_224) (fun _ h9 => h9) rfl (by decide +kernel) rfl rfl (Nat.le_of_ble_eq_true rfl) (hT.up 5 ⟨rfl, (fX_5_1 hT), (fX_5_2 hT), (fX_5_4 hT), (rg_w (rg_add (lo := 1) (hi := 250) (rn_ltu (u' := 249) c_47 (fX_5_4 t_12) (rn_ltl (l' := 1) (Int32.not_le.mp c_13) (fX_5_5 t_12) (fX_5_1 t_12) (by decide)) (by decide)) (rg_c (v := 1) (lo := 1) (hi := 1) (by decide)) (by decide)) (by decide))⟩) (fr_st hF (by decide) (by decide)) dX4_advance_239 (fun C_61 H locs e_62 hT hF hP hD hS => ?_)
                        have t_63 := hT
                        have hM_64 : ¬ (upto pB (ga (C 32)) (gi (C 5) 1) (gi (C 5) 5)) < (upto pD (ga (C 32)) (gi (C 5) 1) (upto pB (ga (C 32)) (gi (C 5) 1) (gi (C 5) 5))) := by rw [← (Eq.trans (upto_stop (p := pD) (fun h8 => pD_lo c_45 h8.2)).symm hs_123.2.2.2), ← hs_123.2.1]; exact Int32.not_lt.mpr c_46
                        have tk_65 := (tk_sgn hs_123.2.2.1 hM_64 (fun h8 => absurd (oh_lee (by rw [← hs_123.2.1] at h8; exact h8) hs_123.1.symm) (Int32.not_le.mpr c_47)) (by rw [← hs_123.2.1]; exact c_49))
                        rw [hQ]
                        exact W.vret hx hb hr (fun t ht hW => ⟨⟨C_61, rfl, ⟨hT, hF, ⟨(Eq.trans (Eq.trans (show gi (C_61 5) 2 = gi (C_58 5) 2 by rw [e_62]; rfl) (show gi (C_58 5) 2 = gi (K123 5) 2 by rw [e_59]; rfl)) hv_123), (px_mk (Eq.trans (Eq.trans (show gi (C_61 5) 1 = gi (C_58 5) 1 by rw [e_62]; rfl) (show gi (C_58 5) 1 = gi (K123 5) 1 by rw [e_59]; rfl)) hs_123.1) (Eq.trans (Eq.trans (show gi (C_61 5) 2 = gi (C_58 5) 2 by rw [e_62]; rfl) (show gi (C_58 5) 2 = gi (K123 5) 2 by rw [e_59]; rfl)) hv_123) (Eq.trans (Eq.trans (show gi (C_61 5) 3 = gi (C_58 5) 3 by rw [e_62]; rfl) (show gi (C_58 5) 3 = (3 : Int32) by rw [e_59]; rfl)) tk_65.1) (Eq.trans (Eq.trans (show gi (C_61 5) 4 = gi (C_58 5) 4 by rw [e_62]; rfl) (show gi (C_58 5) 4 = gi (K123 5) 4 by rw [e_59]; rfl)) hs_123.2.1) (Eq.trans (Eq.trans (show gi (C_61 5) 5 = ((gi (K123 5) 4) + 1) by rw [e_62]; rfl) (congrArg (fun z => z + 1) hs_123.2.1)) tk_65.2))⟩⟩, ⟨by rw [ht]; exact hP, hD⟩⟩, hS.F ht⟩) hS.2.2 dX4_advance_242
                    · refine lv_aload_n hx hb dX4_advance_203 rfl (lv_at hl 0 rfl) ?_
                      refine lv_iconst (v := 0) hx hb dX4_advance_204 (by decide) ?_
                      refine th_put (Tp := TyX a E) (Rl := fr [(5, 6)] [] C) (ci := 4) (v := .int 0) (ty := .int) (CC := RX4) (T := TX4) (N := 6) hx hb htg ig_4 tyX4 tyX4_ok nmX4 hown hK hP hD hS 5 (by decide) (sX_5 hT) rfl 3 (by decide) (htg _ q_222) (fun _ h9 => h9) rfl (by decide +kernel) rfl rfl (Nat.le_of_ble_eq_true rfl) (hT.up 5 ⟨rfl, (fX_5_1 hT), (fX_5_2 hT), (fX_5_4 hT), (fX_5_5 hT)⟩) (fr_st hF (by decide) (by decide)) dX4_advance_205 (fun C_66 H locs e_67 hT hF hP hD hS => ?_)
                      have t_68 := hT
                      have hM_69 : ¬ (upto pB (ga (C 32)) (gi (C 5) 1) (gi (C 5) 5)) < (upto pD (ga (C 32)) (gi (C 5) 1) (upto pB (ga (C 32)) (gi (C 5) 1) (gi (C 5) 5))) := by rw [← (Eq.trans (upto_stop (p := pD) (fun h8 => pD_lo c_45 h8.2)).symm hs_123.2.2.2), ← hs_123.2.1]; exact Int32.not_lt.mpr c_46
                      have hZ_70 : gi (K123 5) 5 = (upto pB (ga (C 32)) (gi (C 5) 1) (gi (C 5) 5)) := Eq.trans (Eq.trans (upto_stop (p := pD) (fun h8 => pD_lo c_45 h8.2)).symm hs_123.2.2.2) (upto_nn (fX_5_1 hT0) (by rw [← hs_123.2.1]; exact (rg_w (lo := 0) (hi := 250) (rn_lel (Int32.not_lt.mp c_47) (rn_ltl (l' := 1) (Int32.not_le.mp c_13) (fX_5_5 t_12) (fX_5_1 t_12) (by decide)) (fX_5_4 t_12)) (by decide))) hM_69)
                      have tk_71 := (tk_end hs_123.2.2.1 hM_69 (by rw [← hs_123.2.1, ← hs_123.1]; exact (Int32.not_lt.mp c_47)))
                      rw [hQ]
                      exact W.vret hx hb hr (fun t ht hW => ⟨⟨C_66, rfl, ⟨hT, hF, ⟨(Eq.trans (show gi (C_66 5) 2 = gi (K123 5) 2 by rw [e_67]; rfl) hv_123), (px_mk (Eq.trans (show gi (C_66 5) 1 = gi (K123 5) 1 by rw [e_67]; rfl) hs_123.1) (Eq.trans (show gi (C_66 5) 2 = gi (K123 5) 2 by rw [e_67]; rfl) hv_123) (Eq.trans (show gi (C_66 5) 3 = (0 : Int32) by rw [e_67]; rfl) tk_71.1) (Eq.trans (show gi (C_66 5) 4 = gi (K123 5) 4 by rw [e_67]; rfl) hs_123.2.1) (Eq.trans (Eq.trans (show gi (C_66 5) 5 = gi (K123 5) 5 by rw [e_67]; rfl) hZ_70) tk_71.2))⟩⟩, ⟨by rw [ht]; exact hP, hD⟩⟩, hS.F ht⟩) hS.2.2 dX4_advance_208
                  · refine lv_aload_n hx hb dX4_advance_186 rfl (lv_at hl 0 rfl) ?_
                    refine lv_iconst (v := 2) hx hb dX4_advance_187 (by decide) ?_
                    refine th_put (Tp := TyX a E) (Rl := fr [(5, 6)] [] C) (ci := 4) (v := .int 2) (ty := .int) (CC := RX4) (T := TX4) (N := 6) hx hb htg ig_4 tyX4 tyX4_ok nmX4 hown hK hP hD hS 5 (by decide) (sX_5 hT) rfl 3 (by decide) (htg _ q_222) (fun _ h9 => h9) rfl (by decide +kernel) rfl rfl (Nat.le_of_ble_eq_true rfl) (hT.up 5 ⟨rfl, (fX_5_1 hT), (fX_5_2 hT), (fX_5_4 hT), (fX_5_5 hT)⟩) (fr_st hF (by decide) (by decide)) dX4_advance_188 (fun C_72 H locs e_73 hT hF hP hD hS => ?_)
                    have t_74 := hT
                    have tk_75 := (tk_num hs_123.2.2.1 (Eq.trans (upto_stop (p := pD) (fun h8 => pD_lo c_45 h8.2)).symm hs_123.2.2.2) (by rw [← hs_123.2.1]; exact (Int32.not_le.mp c_46)))
                    rw [hQ]
                    exact W.vret hx hb hr (fun t ht hW => ⟨⟨C_72, rfl, ⟨hT, hF, ⟨(Eq.trans (show gi (C_72 5) 2 = gi (K123 5) 2 by rw [e_73]; rfl) hv_123), (px_mk (Eq.trans (show gi (C_72 5) 1 = gi (K123 5) 1 by rw [e_73]; rfl) hs_123.1) (Eq.trans (show gi (C_72 5) 2 = gi (K123 5) 2 by rw [e_73]; rfl) hv_123) (Eq.trans (show gi (C_72 5) 3 = (2 : Int32) by rw [e_73]; rfl) tk_75.1) (Eq.trans (show gi (C_72 5) 4 = gi (K123 5) 4 by rw [e_73]; rfl) hs_123.2.1) (Eq.trans (show gi (C_72 5) 5 = gi (K123 5) 5 by rw [e_73]; rfl) tk_75.2))⟩⟩, ⟨by rw [ht]; exact hP, hD⟩⟩, hS.F ht⟩) hS.2.2 dX4_advance_191
                · refine lv_aload_n hx hb dX4_advance_148 rfl (lv_at hl 0 rfl) ?_
                  refine va_get (D := D) (ci := 4) (v := .ref (a 32)) (C := RX4) (T := TX4) (N := 6) hx hb htg ig_4 hown hK hP 5 (oh_wg (by decide) (sX_5 hT)) rfl 0 (by decide) (htg _ q_217) (fun _ h9 => h9) rfl dX4_advance_149 ?_
                  refine lv_aload_n hx hb dX4_advance_152 rfl (lv_at hl 0 rfl) ?_
                  refine va_get (D := D) (ci := 4) (v := .int (gi (K123 5) 5)) (C := RX4) (T := TX4) (N := 6) hx hb htg ig_4 hown hK hP 5 (oh_wg (by decide) (sX_5 hT)) rfl 5 (by decide) (htg _ q_224) (fun _ h9 => h9) rfl dX4_advance_153 ?_
                  have n_76 : vp_in (gi (K123 5) 5) 250 := (rg_in (rn_ltu (u' := 249) (Int32.not_le.mp c_13) (fX_5_5 t_12) (fX_5_1 t_12) (by decide)) (by decide))
                  refine th_iald hx hb hK hP 32 (by decide) (Eq.trans (Eq.trans (hLF_123.1 32 rfl (by decide)) (Eq.trans (hLF_54.1 32 rfl (by decide)) (Eq.trans (th_un e_7 (by decide)) (Eq.trans (hLF_8.1 32 rfl (by decide)) (th_un e_2 (by decide)))))) (sX_32 hT0)) n_76 dX4_advance_156 ?_
                  refine lv_bipush (v := 57) hx hb dX4_advance_157 (by decide) ?_
                  refine lv_icmp_gt (tgt := 175) hx hb dX4_advance_159 (by decide) (fun (c_77 : (57 : Int32) < (ga (C 32) (gi (K123 5) 5).toNatClampNeg)) => ?_) (fun (c_77 : ¬ ((57 : Int32) < (ga (C 32) (gi (K123 5) 5).toNatClampNeg))) => ?_)
                  · refine lv_aload_n hx hb dX4_advance_175 rfl (lv_at hl 0 rfl) ?_
                    refine va_get (D := D) (ci := 4) (v := .int (gi (K123 5) 5)) (C := RX4) (T := TX4) (N := 6) hx hb htg ig_4 hown hK hP 5 (oh_wg (by decide) (sX_5 hT)) rfl 5 (by decide) (htg _ q_224) (fun _ h9 => h9) rfl dX4_advance_176 ?_
                    refine lv_aload_n hx hb dX4_advance_179 rfl (lv_at hl 0 rfl) ?_
                    refine va_get (D := D) (ci := 4) (v := .int (gi (K123 5) 4)) (C := RX4) (T := TX4) (N := 6) hx hb htg ig_4 hown hK hP 5 (oh_wg (by decide) (sX_5 hT)) rfl 4 (by decide) (htg _ q_223) (fun _ h9 => h9) rfl dX4_advance_180 ?_
                    refine lv_icmp_le (tgt := 192) hx hb dX4_advance_183 (by decide) (fun (c_78 : (gi (K123 5) 5) ≤ (gi (K123 5) 4)) => ?_) (fun (c_78 : ¬ ((gi (K123 5) 5) ≤ (gi (K123 5) 4))) => ?_)
                    · refine lv_aload_n hx hb dX4_advance_192 rfl (lv_at hl 0 rfl) ?_
                      refine va_get (D := D) (ci := 4) (v := .int (gi (K123 5) 4)) (C := RX4) (T := TX4) (N := 6) hx hb htg ig_4 hown hK hP 5 (oh_wg (by decide) (sX_5 hT)) rfl 4 (by decide) (htg _ q_223) (fun _ h9 => h9) rfl dX4_advance_193 ?_
                      refine lv_aload_n hx hb dX4_advance_196 rfl (lv_at hl 0 rfl) ?_
                      refine va_get (D := D) (ci := 4) (v := .int (gi (K123 5) 1)) (C := RX4) (T := TX4) (N := 6) hx hb htg ig_4 hown hK hP 5 (oh_wg (by decide) (sX_5 hT)) rfl 1 (by decide) (htg _ q_218) (fun _ h9 => h9) rfl dX4_advance_197 ?_
                      refine lv_icmp_lt (tgt := 209) hx hb dX4_advance_200 (by decide) (fun (c_79 : (gi (K123 5) 4) < (gi (K123 5) 1)) => ?_) (fun (c_79 : ¬ ((gi (K123 5) 4) < (gi (K123 5) 1))) => ?_)
                      · refine lv_aload_n hx hb dX4_advance_209 rfl (lv_at hl 0 rfl) ?_
                        refine lv_aload_n hx hb dX4_advance_210 rfl (lv_at hl 0 rfl) ?_
                        refine va_get (D := D) (ci := 4) (v := .ref (a 32)) (C := RX4) (T := TX4) (N := 6) hx hb htg ig_4 hown hK hP 5 (oh_wg (by decide) (sX_5 hT)) rfl 0 (by decide) (htg _ q_217) (fun _ h9 => h9) rfl dX4_advance_211 ?_
                        refine lv_aload_n hx hb dX4_advance_214 rfl (lv_at hl 0 rfl) ?_
                        refine va_get (D := D) (ci := 4) (v := .int (gi (K123 5) 4)) (C := RX4) (T := TX4) (N := 6) hx hb htg ig_4 hown hK hP 5 (oh_wg (by decide) (sX_5 hT)) rfl 4 (by decide) (htg _ q_223) (fun _ h9 => h9) rfl dX4_advance_215 ?_
                        have n_80 : vp_in (gi (K123 5) 4) 250 := (rg_in (rn_ltu (u' := 249) c_79 (fX_5_4 t_12) (rn_ltl (l' := 1) (Int32.not_le.mp c_13) (fX_5_5 t_12) (fX_5_1 t_12) (by decide)) (by decide)) (by decide))
                        refine th_iald hx hb hK hP 32 (by decide) (Eq.trans (Eq.trans (hLF_123.1 32 rfl (by decide)) (Eq.trans (hLF_54.1 32 rfl (by decide)) (Eq.trans (th_un e_7 (by decide)) (Eq.trans (hLF_8.1 32 rfl (by decide)) (th_un e_2 (by decide)))))) (sX_32 hT0)) n_80 dX4_advance_218 ?_
                        refine lv_bipush (v := 59) hx hb dX4_advance_219 (by decide) ?_
                        refine lv_icmp_ne (tgt := 228) hx hb dX4_advance_221 (by decide) (fun (c_81 : ¬ ((ga (C 32) (gi (K123 5) 4).toNatClampNeg) = 59)) => ?_) (fun (c_81 : (ga (C 32) (gi (K123 5) 4).toNatClampNeg) = 59) => ?_)
                        · refine lv_iconst (v := 4) hx hb dX4_advance_228 (by decide) ?_
                          refine th_put (Tp := TyX a E) (Rl := fr [(5, 6)] [] C) (ci := 4) (v := .int 4) (ty := .int) (CC := RX4) (T := TX4) (N := 6) hx hb htg ig_4 tyX4 tyX4_ok nmX4 hown hK hP hD hS 5 (by decide) (sX_5 hT) rfl 3 (by decide) (htg _ q_222) (fun _ h9 => h9) rfl (by decide +kernel) rfl rfl (Nat.le_of_ble_eq_true rfl) (hT.up 5 ⟨rfl, (fX_5_1 hT), (fX_5_2 hT), (fX_5_4 hT), (fX_5_5 hT)⟩) (fr_st hF (by decide) (by decide)) dX4_advance_229 (fun C_82 H locs e_83 hT hF hP hD hS => ?_)
                          have t_84 := hT
                          refine lv_aload_n hx hb dX4_advance_232 rfl (lv_at hl 0 rfl) ?_
                          refine lv_aload_n hx hb dX4_advance_233 rfl (lv_at hl 0 rfl) ?_
                          refine va_get (D := D) (ci := 4) (v := .int (gi (K123 5) 4)) (C := RX4) (T := TX4) (N := 6) hx hb htg ig_4 hown hK hP 5 (oh_wg (by decide) (sX_5 hT)) rfl 4 (by decide) (htg _ q_223) (fun _ h9 => h9) (oh_fv (c := C_82 5) (j := 4) rfl (show gi (C_82 5) 4 = gi (K123 5) 4 by rw [e_83]; rfl)) dX4_advance_234 ?_
                          refine lv_iconst (v := 1) hx hb dX4_advance_237 (by decide) ?_
                          refine lv_iadd hx hb dX4_advance_238 ?_
                          refine th_put (Tp := TyX a E) (Rl := fr [(5, 6)] [] C) (ci := 4) (v := .int ((gi (K123 5) 4) + 1)) (ty := .int) (CC := RX4) (T := TX4) (N := 6) hx hb htg ig_4 tyX4 tyX4_ok nmX4 hown hK hP hD hS 5 (by decide) (sX_5 hT) rfl 5 (by decide) (htg _ q_224) (fun _ h9 => h9) rfl (by decide +kernel) rfl rfl (Nat.le_of_ble_eq_true rfl) (hT.up 5 ⟨rfl, (fX_5_1 hT), (fX_5_2 hT), (fX_5_4 hT), (rg_w (rg_add (lo := 1) (hi := 250) (rn_ltu (u' := 249) c_79 (fX_5_4 t_12) (rn_ltl (l' := 1) (Int32.not_le.mp c_13) (fX_5_5 t_12) (fX_5_1 t_12) (by decide)) (by decide)) (rg_c (v := 1) (lo := 1) (hi := 1) (by decide)) (by decide)) (by decide))⟩) (fr_st hF (by decide) (by decide)) dX4_advance_239 (fun C_85 H locs e_86 hT hF hP hD hS => ?_)
                          have t_87 := hT
                          have hM_88 : ¬ (upto pB (ga (C 32)) (gi (C 5) 1) (gi (C 5) 5)) < (upto pD (ga (C 32)) (gi (C 5) 1) (upto pB (ga (C 32)) (gi (C 5) 1) (gi (C 5) 5))) := by rw [← (Eq.trans (upto_stop (p := pD) (fun h8 => pD_hi c_77 h8.2)).symm hs_123.2.2.2), ← hs_123.2.1]; exact Int32.not_lt.mpr c_78
                          have tk_89 := (tk_wrg hs_123.2.2.1 hM_88 (fun h8 => absurd (oh_lee (by rw [← hs_123.2.1] at h8; exact h8) hs_123.1.symm) (Int32.not_le.mpr c_79)) (by rw [← hs_123.2.1]; exact c_81))
                          rw [hQ]
                          exact W.vret hx hb hr (fun t ht hW => ⟨⟨C_85, rfl, ⟨hT, hF, ⟨(Eq.trans (Eq.trans (show gi (C_85 5) 2 = gi (C_82 5) 2 by rw [e_86]; rfl) (show gi (C_82 5) 2 = gi (K123 5) 2 by rw [e_83]; rfl)) hv_123), (px_mk (Eq.trans (Eq.trans (show gi (C_85 5) 1 = gi (C_82 5) 1 by rw [e_86]; rfl) (show gi (C_82 5) 1 = gi (K123 5) 1 by rw [e_83]; rfl)) hs_123.1) (Eq.trans (Eq.trans (show gi (C_85 5) 2 = gi (C_82 5) 2 by rw [e_86]; rfl) (show gi (C_82 5) 2 = gi (K123 5) 2 by rw [e_83]; rfl)) hv_123) (Eq.trans (Eq.trans (show gi (C_85 5) 3 = gi (C_82 5) 3 by rw [e_86]; rfl) (show gi (C_82 5) 3 = (4 : Int32) by rw [e_83]; rfl)) tk_89.1) (Eq.trans (Eq.trans (show gi (C_85 5) 4 = gi (C_82 5) 4 by rw [e_86]; rfl) (show gi (C_82 5) 4 = gi (K123 5) 4 by rw [e_83]; rfl)) hs_123.2.1) (Eq.trans (Eq.trans (show gi (C_85 5) 5 = ((gi (K123 5) 4) + 1) by rw [e_86]; rfl) (congrArg (fun z => z + 1) hs_123.2.1)) tk_89.2))⟩⟩, ⟨by rw [ht]; exact hP, hD⟩⟩, hS.F ht⟩) hS.2.2 dX4_advance_242
                        · refine lv_iconst (v := 3) hx hb dX4_advance_224 (by decide) ?_
                          refine lv_goto (tgt := 229) hx hb dX4_advance_225 (by decide) ?_
                          refine th_put (Tp := TyX a E) (Rl := fr [(5, 6)] [] C) (ci := 4) (v := .int 3) (ty := .int) (CC := RX4) (T := TX4) (N := 6) hx hb htg ig_4 tyX4 tyX4_ok nmX4 hown hK hP hD hS 5 (by decide) (sX_5 hT) rfl 3 (by decide) (htg _ q_222) (fun _ h9 => h9) rfl (by decide +kernel) rfl rfl (Nat.le_of_ble_eq_true rfl) (hT.up 5 ⟨rfl, (fX_5_1 hT), (fX_5_2 hT), (fX_5_4 hT), (fX_5_5 hT)⟩) (fr_st hF (by decide) (by decide)) dX4_advance_229 (fun C_90 H locs e_91 hT hF hP hD hS => ?_)
                          have t_92 := hT
                          refine lv_aload_n hx hb dX4_advance_232 rfl (lv_at hl 0 rfl) ?_
                          refine lv_aload_n hx hb dX4_advance_233 rfl (lv_at hl 0 rfl) ?_
                          refine va_get (D := D) (ci := 4) (v := .int (gi (K123 5) 4)) (C := RX4) (T := TX4) (N := 6) hx hb htg ig_4 hown hK hP 5 (oh_wg (by decide) (sX_5 hT)) rfl 4 (by decide) (htg _ q_223) (fun _ h9 => h9) (oh_fv (c := C_90 5) (j := 4) rfl (show gi (C_90 5) 4 = gi (K123 5) 4 by rw [e_91]; rfl)) dX4_advance_234 ?_
                          refine lv_iconst (v := 1) hx hb dX4_advance_237 (by decide) ?_
                          refine lv_iadd hx hb dX4_advance_238 ?_
                          refine th_put (Tp := TyX a E) (Rl := fr [(5, 6)] [] C) (ci := 4) (v := .int ((gi (K123 5) 4) + 1)) (ty := .int) (CC := RX4) (T := TX4) (N := 6) hx hb htg ig_4 tyX4 tyX4_ok nmX4 hown hK hP hD hS 5 (by decide) (sX_5 hT) rfl 5 (by decide) (htg _ q_224) (fun _ h9 => h9) rfl (by decide +kernel) rfl rfl (Nat.le_of_ble_eq_true rfl) (hT.up 5 ⟨rfl, (fX_5_1 hT), (fX_5_2 hT), (fX_5_4 hT), (rg_w (rg_add (lo := 1) (hi := 250) (rn_ltu (u' := 249) c_79 (fX_5_4 t_12) (rn_ltl (l' := 1) (Int32.not_le.mp c_13) (fX_5_5 t_12) (fX_5_1 t_12) (by decide)) (by decide)) (rg_c (v := 1) (lo := 1) (hi := 1) (by decide)) (by decide)) (by decide))⟩) (fr_st hF (by decide) (by decide)) dX4_advance_239 (fun C_93 H locs e_94 hT hF hP hD hS => ?_)
                          have t_95 := hT
                          have hM_96 : ¬ (upto pB (ga (C 32)) (gi (C 5) 1) (gi (C 5) 5)) < (upto pD (ga (C 32)) (gi (C 5) 1) (upto pB (ga (C 32)) (gi (C 5) 1) (gi (C 5) 5))) := by rw [← (Eq.trans (upto_stop (p := pD) (fun h8 => pD_hi c_77 h8.2)).symm hs_123.2.2.2), ← hs_123.2.1]; exact Int32.not_lt.mpr c_78
                          have tk_97 := (tk_sgn hs_123.2.2.1 hM_96 (fun h8 => absurd (oh_lee (by rw [← hs_123.2.1] at h8; exact h8) hs_123.1.symm) (Int32.not_le.mpr c_79)) (by rw [← hs_123.2.1]; exact c_81))
                          rw [hQ]
                          exact W.vret hx hb hr (fun t ht hW => ⟨⟨C_93, rfl, ⟨hT, hF, ⟨(Eq.trans (Eq.trans (show gi (C_93 5) 2 = gi (C_90 5) 2 by rw [e_94]; rfl) (show gi (C_90 5) 2 = gi (K123 5) 2 by rw [e_91]; rfl)) hv_123), (px_mk (Eq.trans (Eq.trans (show gi (C_93 5) 1 = gi (C_90 5) 1 by rw [e_94]; rfl) (show gi (C_90 5) 1 = gi (K123 5) 1 by rw [e_91]; rfl)) hs_123.1) (Eq.trans (Eq.trans (show gi (C_93 5) 2 = gi (C_90 5) 2 by rw [e_94]; rfl) (show gi (C_90 5) 2 = gi (K123 5) 2 by rw [e_91]; rfl)) hv_123) (Eq.trans (Eq.trans (show gi (C_93 5) 3 = gi (C_90 5) 3 by rw [e_94]; rfl) (show gi (C_90 5) 3 = (3 : Int32) by rw [e_91]; rfl)) tk_97.1) (Eq.trans (Eq.trans (show gi (C_93 5) 4 = gi (C_90 5) 4 by rw [e_94]; rfl) (show gi (C_90 5) 4 = gi (K123 5) 4 by rw [e_91]; rfl)) hs_123.2.1) (Eq.trans (Eq.trans (show gi (C_93 5) 5 = ((gi (K123 5) 4) + 1) by rw [e_94]; rfl) (congrArg (fun z => z + 1) hs_123.2.1)) tk_97.2))⟩⟩, ⟨by rw [ht]; exact hP, hD⟩⟩, hS.F ht⟩) hS.2.2 dX4_advance_242
                      · refine lv_aload_n hx hb dX4_advance_203 rfl (lv_at hl 0 rfl) ?_
                        refine lv_iconst (v := 0) hx hb dX4_advance_204 (by decide) ?_
                        refine th_put (Tp := TyX a E) (Rl := fr [(5, 6)] [] C) (ci := 4) (v := .int 0) (ty := .int) (CC := RX4) (T := TX4) (N := 6) hx hb htg ig_4 tyX4 tyX4_ok nmX4 hown hK hP hD hS 5 (by decide) (sX_5 hT) rfl 3 (by decide) (htg _ q_222) (fun _ h9 => h9) rfl (by decide +kernel) rfl rfl (Nat.le_of_ble_eq_true rfl) (hT.up 5 ⟨rfl, (fX_5_1 hT), (fX_5_2 hT), (fX_5_4 hT), (fX_5_5 hT)⟩) (fr_st hF (by decide) (by decide)) dX4_advance_205 (fun C_98 H locs e_99 hT hF hP hD hS => ?_)
                        have t_100 := hT
                        have hM_101 : ¬ (upto pB (ga (C 32)) (gi (C 5) 1) (gi (C 5) 5)) < (upto pD (ga (C 32)) (gi (C 5) 1) (upto pB (ga (C 32)) (gi (C 5) 1) (gi (C 5) 5))) := by rw [← (Eq.trans (upto_stop (p := pD) (fun h8 => pD_hi c_77 h8.2)).symm hs_123.2.2.2), ← hs_123.2.1]; exact Int32.not_lt.mpr c_78
                        have hZ_102 : gi (K123 5) 5 = (upto pB (ga (C 32)) (gi (C 5) 1) (gi (C 5) 5)) := Eq.trans (Eq.trans (upto_stop (p := pD) (fun h8 => pD_hi c_77 h8.2)).symm hs_123.2.2.2) (upto_nn (fX_5_1 hT0) (by rw [← hs_123.2.1]; exact (rg_w (lo := 0) (hi := 250) (rn_lel (Int32.not_lt.mp c_79) (rn_ltl (l' := 1) (Int32.not_le.mp c_13) (fX_5_5 t_12) (fX_5_1 t_12) (by decide)) (fX_5_4 t_12)) (by decide))) hM_101)
                        have tk_103 := (tk_end hs_123.2.2.1 hM_101 (by rw [← hs_123.2.1, ← hs_123.1]; exact (Int32.not_lt.mp c_79)))
                        rw [hQ]
                        exact W.vret hx hb hr (fun t ht hW => ⟨⟨C_98, rfl, ⟨hT, hF, ⟨(Eq.trans (show gi (C_98 5) 2 = gi (K123 5) 2 by rw [e_99]; rfl) hv_123), (px_mk (Eq.trans (show gi (C_98 5) 1 = gi (K123 5) 1 by rw [e_99]; rfl) hs_123.1) (Eq.trans (show gi (C_98 5) 2 = gi (K123 5) 2 by rw [e_99]; rfl) hv_123) (Eq.trans (show gi (C_98 5) 3 = (0 : Int32) by rw [e_99]; rfl) tk_103.1) (Eq.trans (show gi (C_98 5) 4 = gi (K123 5) 4 by rw [e_99]; rfl) hs_123.2.1) (Eq.trans (Eq.trans (show gi (C_98 5) 5 = gi (K123 5) 5 by rw [e_99]; rfl) hZ_102) tk_103.2))⟩⟩, ⟨by rw [ht]; exact hP, hD⟩⟩, hS.F ht⟩) hS.2.2 dX4_advance_208
                    · refine lv_aload_n hx hb dX4_advance_186 rfl (lv_at hl 0 rfl) ?_
                      refine lv_iconst (v := 2) hx hb dX4_advance_187 (by decide) ?_
                      refine th_put (Tp := TyX a E) (Rl := fr [(5, 6)] [] C) (ci := 4) (v := .int 2) (ty := .int) (CC := RX4) (T := TX4) (N := 6) hx hb htg ig_4 tyX4 tyX4_ok nmX4 hown hK hP hD hS 5 (by decide) (sX_5 hT) rfl 3 (by decide) (htg _ q_222) (fun _ h9 => h9) rfl (by decide +kernel) rfl rfl (Nat.le_of_ble_eq_true rfl) (hT.up 5 ⟨rfl, (fX_5_1 hT), (fX_5_2 hT), (fX_5_4 hT), (fX_5_5 hT)⟩) (fr_st hF (by decide) (by decide)) dX4_advance_188 (fun C_104 H locs e_105 hT hF hP hD hS => ?_)
                      have t_106 := hT
                      have tk_107 := (tk_num hs_123.2.2.1 (Eq.trans (upto_stop (p := pD) (fun h8 => pD_hi c_77 h8.2)).symm hs_123.2.2.2) (by rw [← hs_123.2.1]; exact (Int32.not_le.mp c_78)))
                      rw [hQ]
                      exact W.vret hx hb hr (fun t ht hW => ⟨⟨C_104, rfl, ⟨hT, hF, ⟨(Eq.trans (show gi (C_104 5) 2 = gi (K123 5) 2 by rw [e_105]; rfl) hv_123), (px_mk (Eq.trans (show gi (C_104 5) 1 = gi (K123 5) 1 by rw [e_105]; rfl) hs_123.1) (Eq.trans (show gi (C_104 5) 2 = gi (K123 5) 2 by rw [e_105]; rfl) hv_123) (Eq.trans (show gi (C_104 5) 3 = (2 : Int32) by rw [e_105]; rfl) tk_107.1) (Eq.trans (show gi (C_104 5) 4 = gi (K123 5) 4 by rw [e_105]; rfl) hs_123.2.1) (Eq.trans (show gi (C_104 5) 5 = gi (K123 5) 5 by rw [e_105]; rfl) tk_107.2))⟩⟩, ⟨by rw [ht]; exact hP, hD⟩⟩, hS.F ht⟩) hS.2.2 dX4_advance_191
                  · refine lv_aload_n hx hb dX4_advance_162 rfl (lv_at hl 0 rfl) ?_
                    refine lv_dup hx hb dX4_advance_163 rfl ?_
                    refine va_get (D := D) (ci := 4) (v := .int (gi (K123 5) 5)) (C := RX4) (T := TX4) (N := 6) hx hb htg ig_4 hown hK hP 5 (oh_wg (by decide) (sX_5 hT)) rfl 5 (by decide) (htg _ q_224) (fun _ h9 => h9) rfl dX4_advance_164 ?_
                    refine lv_iconst (v := 1) hx hb dX4_advance_167 (by decide) ?_
                    refine lv_iadd hx hb dX4_advance_168 ?_
                    refine th_put (Tp := TyX a E) (Rl := fr [(5, 6)] [] C) (ci := 4) (v := .int ((gi (K123 5) 5) + 1)) (ty := .int) (CC := RX4) (T := TX4) (N := 6) hx hb htg ig_4 tyX4 tyX4_ok nmX4 hown hK hP hD hS 5 (by decide) (sX_5 hT) rfl 5 (by decide) (htg _ q_224) (fun _ h9 => h9) rfl (by decide +kernel) rfl rfl (Nat.le_of_ble_eq_true rfl) (hT.up 5 ⟨rfl, (fX_5_1 hT), (fX_5_2 hT), (fX_5_4 hT), (rg_w (rg_add (lo := 1) (hi := 250) (rn_ltu (u' := 249) (Int32.not_le.mp c_13) (fX_5_5 t_12) (fX_5_1 t_12) (by decide)) (rg_c (v := 1) (lo := 1) (hi := 1) (by decide)) (by decide)) (by decide))⟩) (fr_st hF (by decide) (by decide)) dX4_advance_169 (fun C_108 H locs e_109 hT hF hP hD hS => ?_)
                    have t_110 := hT
                    refine lv_goto (tgt := 123) hx hb dX4_advance_172 (by decide) ?_
                    exact ih_123 _ (hd_123 ▸ (by rw [(show gi (C_108 5) 5 = ((gi (K123 5) 5) + 1) by rw [e_109]; rfl)]; exact mu_up 250 (rn_ltu (u' := 249) (Int32.not_le.mp c_13) (fX_5_5 t_12) (fX_5_1 t_12) (by decide)) (by decide))) C_108  _ _ ls rfl (Eq.trans (show gi (C_108 5) 2 = gi (K123 5) 2 by rw [e_109]; rfl) hv_123) ⟨Eq.trans (show gi (C_108 5) 1 = gi (K123 5) 1 by rw [e_109]; rfl) hs_123.1, Eq.trans (show gi (C_108 5) 4 = gi (K123 5) 4 by rw [e_109]; rfl) hs_123.2.1, hs_123.2.2.1, Eq.trans (congrArg (upto pD (ga (C 32)) (gi (C 5) 1)) (show gi (C_108 5) 5 = ((gi (K123 5) 5) + 1) by rw [e_109]; rfl)) (Eq.trans (upto_step (p := pD) (rg_w (lo := 0) (hi := 249) (rn_ltu (u' := 249) (Int32.not_le.mp c_13) (fX_5_5 t_12) (fX_5_1 t_12) (by decide)) (by decide)) (oh_lte (Int32.not_le.mp c_13) hs_123.1) ⟨(Int32.not_lt.mp c_45), (Int32.not_lt.mp c_77)⟩).symm hs_123.2.2.2)⟩ hT hF (fr_ste hLF_123 e_109 (by decide) (by decide)) hP hD hS (lv_sub hl [0] rfl)
            have hE_111 : gi (K54 5) 5 = (upto pL (ga (C 32)) (gi (C 5) 1) (upto pB (ga (C 32)) (gi (C 5) 1) (gi (C 5) 5))) := (Eq.trans (upto_stop (p := pL) (fun h8 => absurd (oh_lte h8.1 hs_54.1.symm) (Int32.not_lt.mpr c_10))).symm hs_54.2.2)
            have hN_112 : ¬ (upto pB (ga (C 32)) (gi (C 5) 1) (gi (C 5) 5)) < (upto pL (ga (C 32)) (gi (C 5) 1) (upto pB (ga (C 32)) (gi (C 5) 1) (gi (C 5) 5))) := by rw [← hE_111, ← hs_54.2.1]; exact Int32.not_lt.mpr c_11
            have hZ_113 : gi (K54 5) 5 = (upto pB (ga (C 32)) (gi (C 5) 1) (gi (C 5) 5)) := Eq.trans hE_111 (upto_nn (fX_5_1 hT0) (by rw [← hs_54.2.1]; exact (rg_w (lo := 0) (hi := 250) (fX_5_4 t_9) (by decide))) hN_112)
            exact L_123 _ K54  _ _ ls rfl (Eq.trans rfl hv_54) ⟨hs_54.1, hs_54.2.1, hN_112, (congrArg (upto pD (ga (C 32)) (gi (C 5) 1)) hZ_113)⟩ hT hF fr_rf hP hD hS (lv_sub hl [0] rfl)
          · refine lv_aload_n hx hb dX4_advance_117 rfl (lv_at hl 0 rfl) ?_
            refine lv_iconst (v := 1) hx hb dX4_advance_118 (by decide) ?_
            refine th_put (Tp := TyX a E) (Rl := fr [(5, 6)] [] C) (ci := 4) (v := .int 1) (ty := .int) (CC := RX4) (T := TX4) (N := 6) hx hb htg ig_4 tyX4 tyX4_ok nmX4 hown hK hP hD hS 5 (by decide) (sX_5 hT) rfl 3 (by decide) (htg _ q_222) (fun _ h9 => h9) rfl (by decide +kernel) rfl rfl (Nat.le_of_ble_eq_true rfl) (hT.up 5 ⟨rfl, (fX_5_1 hT), (fX_5_2 hT), (fX_5_4 hT), (fX_5_5 hT)⟩) (fr_st hF (by decide) (by decide)) dX4_advance_119 (fun C_114 H locs e_115 hT hF hP hD hS => ?_)
            have t_116 := hT
            have tk_117 := (tk_word (Eq.trans (upto_stop (p := pL) (fun h8 => absurd (oh_lte h8.1 hs_54.1.symm) (Int32.not_lt.mpr c_10))).symm hs_54.2.2) (by rw [← hs_54.2.1]; exact (Int32.not_le.mp c_11)))
            rw [hQ]
            exact W.vret hx hb hr (fun t ht hW => ⟨⟨C_114, rfl, ⟨hT, hF, ⟨(Eq.trans (show gi (C_114 5) 2 = gi (K54 5) 2 by rw [e_115]; rfl) hv_54), (px_mk (Eq.trans (show gi (C_114 5) 1 = gi (K54 5) 1 by rw [e_115]; rfl) hs_54.1) (Eq.trans (show gi (C_114 5) 2 = gi (K54 5) 2 by rw [e_115]; rfl) hv_54) (Eq.trans (show gi (C_114 5) 3 = (1 : Int32) by rw [e_115]; rfl) tk_117.1) (Eq.trans (show gi (C_114 5) 4 = gi (K54 5) 4 by rw [e_115]; rfl) hs_54.2.1) (Eq.trans (show gi (C_114 5) 5 = gi (K54 5) 5 by rw [e_115]; rfl) tk_117.2))⟩⟩, ⟨by rw [ht]; exact hP, hD⟩⟩, hS.F ht⟩) hS.2.2 dX4_advance_122
        · refine lv_aload_n hx hb dX4_advance_65 rfl (lv_at hl 0 rfl) ?_
          refine va_get (D := D) (ci := 4) (v := .ref (a 32)) (C := RX4) (T := TX4) (N := 6) hx hb htg ig_4 hown hK hP 5 (oh_wg (by decide) (sX_5 hT)) rfl 0 (by decide) (htg _ q_217) (fun _ h9 => h9) rfl dX4_advance_66 ?_
          refine lv_aload_n hx hb dX4_advance_69 rfl (lv_at hl 0 rfl) ?_
          refine va_get (D := D) (ci := 4) (v := .int (gi (K54 5) 5)) (C := RX4) (T := TX4) (N := 6) hx hb htg ig_4 hown hK hP 5 (oh_wg (by decide) (sX_5 hT)) rfl 5 (by decide) (htg _ q_224) (fun _ h9 => h9) rfl dX4_advance_70 ?_
          have n_118 : vp_in (gi (K54 5) 5) 250 := (rg_in (rn_ltu (u' := 249) (Int32.not_le.mp c_10) (fX_5_5 t_9) (fX_5_1 t_9) (by decide)) (by decide))
          refine th_iald hx hb hK hP 32 (by decide) (Eq.trans (Eq.trans (hLF_54.1 32 rfl (by decide)) (Eq.trans (th_un e_7 (by decide)) (Eq.trans (hLF_8.1 32 rfl (by decide)) (th_un e_2 (by decide))))) (sX_32 hT0)) n_118 dX4_advance_73 ?_
          refine lv_bipush (v := 97) hx hb dX4_advance_74 (by decide) ?_
          refine lv_icmp_lt (tgt := 106) hx hb dX4_advance_76 (by decide) (fun (c_119 : (ga (C 32) (gi (K54 5) 5).toNatClampNeg) < 97) => ?_) (fun (c_119 : ¬ ((ga (C 32) (gi (K54 5) 5).toNatClampNeg) < 97)) => ?_)
          · refine lv_aload_n hx hb dX4_advance_106 rfl (lv_at hl 0 rfl) ?_
            refine va_get (D := D) (ci := 4) (v := .int (gi (K54 5) 5)) (C := RX4) (T := TX4) (N := 6) hx hb htg ig_4 hown hK hP 5 (oh_wg (by decide) (sX_5 hT)) rfl 5 (by decide) (htg _ q_224) (fun _ h9 => h9) rfl dX4_advance_107 ?_
            refine lv_aload_n hx hb dX4_advance_110 rfl (lv_at hl 0 rfl) ?_
            refine va_get (D := D) (ci := 4) (v := .int (gi (K54 5) 4)) (C := RX4) (T := TX4) (N := 6) hx hb htg ig_4 hown hK hP 5 (oh_wg (by decide) (sX_5 hT)) rfl 4 (by decide) (htg _ q_223) (fun _ h9 => h9) rfl dX4_advance_111 ?_
            refine lv_icmp_le (tgt := 123) hx hb dX4_advance_114 (by decide) (fun (c_120 : (gi (K54 5) 5) ≤ (gi (K54 5) 4)) => ?_) (fun (c_120 : ¬ ((gi (K54 5) 5) ≤ (gi (K54 5) 4))) => ?_)
            · have L_123 : ∀ (d : Nat) (K123 : Nat → va_E) (H : Heap) (locs : List Loc) (ls : Array Slot), (250 - (gi (K123 5) 5).toInt).toNat = d → (gi (K123 5) 2 = gi (C 5) 2) → (gi (K123 5) 1 = (gi (C 5) 1) ∧ gi (K123 5) 4 = (upto pB (ga (C 32)) (gi (C 5) 1) (gi (C 5) 5)) ∧ ¬ (upto pB (ga (C 32)) (gi (C 5) 1) (gi (C 5) 5)) < (upto pL (ga (C 32)) (gi (C 5) 1) (upto pB (ga (C 32)) (gi (C 5) 1) (gi (C 5) 5))) ∧ (upto pD (ga (C 32)) (gi (C 5) 1) (gi (K123 5) 5)) = (upto pD (ga (C 32)) (gi (C 5) 1) (upto pB (ga (C 32)) (gi (C 5) 1) (gi (C 5) 5)))) → TyX a E K123 → fr [(5, 6)] [] C K123 → fr [(5, 6)] [] K54 K123 → va_P D vwCl (oh_W 35 a K123) H → va_D A (oh_W 35 a K123) → va_S A s.heap H locs → lv_has ls 1 [(0, .ref (a 5))] → W p l e ({ frames := 0, cells := 0, slots := 0, locals := 0 }) s m (([.ref (a 5)] : List Value).toArray) below meth c H locs 0 0 Q (F0 m 123 ls []) := by
                intro d
                induction d using Nat.strongRecOn with
                | ind d ih_123 =>
                intro K123  H locs ls hd_123 hv_123 hs_123 hT hF hLF_123 hP hD hS hl
                have t_121 := hT
                refine lv_aload_n hx hb dX4_advance_123 rfl (lv_at hl 0 rfl) ?_
                refine va_get (D := D) (ci := 4) (v := .int (gi (K123 5) 5)) (C := RX4) (T := TX4) (N := 6) hx hb htg ig_4 hown hK hP 5 (oh_wg (by decide) (sX_5 hT)) rfl 5 (by decide) (htg _ q_224) (fun _ h9 => h9) rfl dX4_advance_124 ?_
                refine lv_aload_n hx hb dX4_advance_127 rfl (lv_at hl 0 rfl) ?_
                refine va_get (D := D) (ci := 4) (v := .int (gi (K123 5) 1)) (C := RX4) (T := TX4) (N := 6) hx hb htg ig_4 hown hK hP 5 (oh_wg (by decide) (sX_5 hT)) rfl 1 (by decide) (htg _ q_218) (fun _ h9 => h9) rfl dX4_advance_128 ?_
                refine lv_icmp_ge (tgt := 175) hx hb dX4_advance_131 (by decide) (fun (c_122 : (gi (K123 5) 1) ≤ (gi (K123 5) 5)) => ?_) (fun (c_122 : ¬ ((gi (K123 5) 1) ≤ (gi (K123 5) 5))) => ?_)
                · refine lv_aload_n hx hb dX4_advance_175 rfl (lv_at hl 0 rfl) ?_
                  refine va_get (D := D) (ci := 4) (v := .int (gi (K123 5) 5)) (C := RX4) (T := TX4) (N := 6) hx hb htg ig_4 hown hK hP 5 (oh_wg (by decide) (sX_5 hT)) rfl 5 (by decide) (htg _ q_224) (fun _ h9 => h9) rfl dX4_advance_176 ?_
                  refine lv_aload_n hx hb dX4_advance_179 rfl (lv_at hl 0 rfl) ?_
                  refine va_get (D := D) (ci := 4) (v := .int (gi (K123 5) 4)) (C := RX4) (T := TX4) (N := 6) hx hb htg ig_4 hown hK hP 5 (oh_wg (by decide) (sX_5 hT)) rfl 4 (by decide) (htg _ q_223) (fun _ h9 => h9) rfl dX4_advance_180 ?_
                  refine lv_icmp_le (tgt := 192) hx hb dX4_advance_183 (by decide) (fun (c_123 : (gi (K123 5) 5) ≤ (gi (K123 5) 4)) => ?_) (fun (c_123 : ¬ ((gi (K123 5) 5) ≤ (gi (K123 5) 4))) => ?_)
                  · refine lv_aload_n hx hb dX4_advance_192 rfl (lv_at hl 0 rfl) ?_
                    refine va_get (D := D) (ci := 4) (v := .int (gi (K123 5) 4)) (C := RX4) (T := TX4) (N := 6) hx hb htg ig_4 hown hK hP 5 (oh_wg (by decide) (sX_5 hT)) rfl 4 (by decide) (htg _ q_223) (fun _ h9 => h9) rfl dX4_advance_193 ?_
                    refine lv_aload_n hx hb dX4_advance_196 rfl (lv_at hl 0 rfl) ?_
                    refine va_get (D := D) (ci := 4) (v := .int (gi (K123 5) 1)) (C := RX4) (T := TX4) (N := 6) hx hb htg ig_4 hown hK hP 5 (oh_wg (by decide) (sX_5 hT)) rfl 1 (by decide) (htg _ q_218) (fun _ h9 => h9) rfl dX4_advance_197 ?_
                    refine lv_icmp_lt (tgt := 209) hx hb dX4_advance_200 (by decide) (fun (c_124 : (gi (K123 5) 4) < (gi (K123 5) 1)) => ?_) (fun (c_124 : ¬ ((gi (K123 5) 4) < (gi (K123 5) 1))) => ?_)
                    · refine lv_aload_n hx hb dX4_advance_209 rfl (lv_at hl 0 rfl) ?_
                      refine lv_aload_n hx hb dX4_advance_210 rfl (lv_at hl 0 rfl) ?_
                      refine va_get (D := D) (ci := 4) (v := .ref (a 32)) (C := RX4) (T := TX4) (N := 6) hx hb htg ig_4 hown hK hP 5 (oh_wg (by decide) (sX_5 hT)) rfl 0 (by decide) (htg _ q_217) (fun _ h9 => h9) rfl dX4_advance_211 ?_
                      refine lv_aload_n hx hb dX4_advance_214 rfl (lv_at hl 0 rfl) ?_
                      refine va_get (D := D) (ci := 4) (v := .int (gi (K123 5) 4)) (C := RX4) (T := TX4) (N := 6) hx hb htg ig_4 hown hK hP 5 (oh_wg (by decide) (sX_5 hT)) rfl 4 (by decide) (htg _ q_223) (fun _ h9 => h9) rfl dX4_advance_215 ?_
                      have n_125 : vp_in (gi (K123 5) 4) 250 := (rg_in (rn_ltu (u' := 249) c_124 (rn_lel c_123 (rn_lel c_122 (rn_ltl (l' := 1) c_124 (fX_5_4 t_121) (fX_5_1 t_121) (by decide)) (fX_5_5 t_121)) (fX_5_4 t_121)) (fX_5_1 t_121) (by decide)) (by decide))
                      refine th_iald hx hb hK hP 32 (by decide) (Eq.trans (Eq.trans (hLF_123.1 32 rfl (by decide)) (Eq.trans (hLF_54.1 32 rfl (by decide)) (Eq.trans (th_un e_7 (by decide)) (Eq.trans (hLF_8.1 32 rfl (by decide)) (th_un e_2 (by decide)))))) (sX_32 hT0)) n_125 dX4_advance_218 ?_
                      refine lv_bipush (v := 59) hx hb dX4_advance_219 (by decide) ?_
                      refine lv_icmp_ne (tgt := 228) hx hb dX4_advance_221 (by decide) (fun (c_126 : ¬ ((ga (C 32) (gi (K123 5) 4).toNatClampNeg) = 59)) => ?_) (fun (c_126 : (ga (C 32) (gi (K123 5) 4).toNatClampNeg) = 59) => ?_)
                      · refine lv_iconst (v := 4) hx hb dX4_advance_228 (by decide) ?_
                        refine th_put (Tp := TyX a E) (Rl := fr [(5, 6)] [] C) (ci := 4) (v := .int 4) (ty := .int) (CC := RX4) (T := TX4) (N := 6) hx hb htg ig_4 tyX4 tyX4_ok nmX4 hown hK hP hD hS 5 (by decide) (sX_5 hT) rfl 3 (by decide) (htg _ q_222) (fun _ h9 => h9) rfl (by decide +kernel) rfl rfl (Nat.le_of_ble_eq_true rfl) (hT.up 5 ⟨rfl, (fX_5_1 hT), (fX_5_2 hT), (fX_5_4 hT), (fX_5_5 hT)⟩) (fr_st hF (by decide) (by decide)) dX4_advance_229 (fun C_127 H locs e_128 hT hF hP hD hS => ?_)
                        have t_129 := hT
                        refine lv_aload_n hx hb dX4_advance_232 rfl (lv_at hl 0 rfl) ?_
                        refine lv_aload_n hx hb dX4_advance_233 rfl (lv_at hl 0 rfl) ?_
                        refine va_get (D := D) (ci := 4) (v := .int (gi (K123 5) 4)) (C := RX4) (T := TX4) (N := 6) hx hb htg ig_4 hown hK hP 5 (oh_wg (by decide) (sX_5 hT)) rfl 4 (by decide) (htg _ q_223) (fun _ h9 => h9) (oh_fv (c := C_127 5) (j := 4) rfl (show gi (C_127 5) 4 = gi (K123 5) 4 by rw [e_128]; rfl)) dX4_advance_234 ?_
                        refine lv_iconst (v := 1) hx hb dX4_advance_237 (by decide) ?_
                        refine lv_iadd hx hb dX4_advance_238 ?_
                        refine th_put (Tp := TyX a E) (Rl := fr [(5, 6)] [] C) (ci := 4) (v := .int ((gi (K123 5) 4) + 1)) (ty := .int) (CC := RX4) (T := TX4) (N := 6) hx hb htg ig_4 tyX4 tyX4_ok nmX4 hown hK hP hD hS 5 (by decide) (sX_5 hT) rfl 5 (by decide) (htg _ q_224) (fun _ h9 => h9) rfl (by decide +kernel) rfl rfl (Nat.le_of_ble_eq_true rfl) (hT.up 5 ⟨rfl, (fX_5_1 hT), (fX_5_2 hT), (fX_5_4 hT), (rg_w (rg_add (lo := 2) (hi := 250) (rn_ltu (u' := 249) c_124 (rn_lel c_123 (rn_lel c_122 (rn_ltl (l' := 1) c_124 (fX_5_4 t_121) (fX_5_1 t_121) (by decide)) (fX_5_5 t_121)) (fX_5_4 t_121)) (fX_5_1 t_121) (by decide)) (rg_c (v := 1) (lo := 1) (hi := 1) (by decide)) (by decide)) (by decide))⟩) (fr_st hF (by decide) (by decide)) dX4_advance_239 (fun C_130 H locs e_131 hT hF hP hD hS => ?_)
                        have t_132 := hT
                        have hM_133 : ¬ (upto pB (ga (C 32)) (gi (C 5) 1) (gi (C 5) 5)) < (upto pD (ga (C 32)) (gi (C 5) 1) (upto pB (ga (C 32)) (gi (C 5) 1) (gi (C 5) 5))) := by rw [← (Eq.trans (upto_stop (p := pD) (fun h8 => absurd (oh_lte h8.1 hs_123.1.symm) (Int32.not_lt.mpr c_122))).symm hs_123.2.2.2), ← hs_123.2.1]; exact Int32.not_lt.mpr c_123
                        have tk_134 := (tk_wrg hs_123.2.2.1 hM_133 (fun h8 => absurd (oh_lee (by rw [← hs_123.2.1] at h8; exact h8) hs_123.1.symm) (Int32.not_le.mpr c_124)) (by rw [← hs_123.2.1]; exact c_126))
                        rw [hQ]
                        exact W.vret hx hb hr (fun t ht hW => ⟨⟨C_130, rfl, ⟨hT, hF, ⟨(Eq.trans (Eq.trans (show gi (C_130 5) 2 = gi (C_127 5) 2 by rw [e_131]; rfl) (show gi (C_127 5) 2 = gi (K123 5) 2 by rw [e_128]; rfl)) hv_123), (px_mk (Eq.trans (Eq.trans (show gi (C_130 5) 1 = gi (C_127 5) 1 by rw [e_131]; rfl) (show gi (C_127 5) 1 = gi (K123 5) 1 by rw [e_128]; rfl)) hs_123.1) (Eq.trans (Eq.trans (show gi (C_130 5) 2 = gi (C_127 5) 2 by rw [e_131]; rfl) (show gi (C_127 5) 2 = gi (K123 5) 2 by rw [e_128]; rfl)) hv_123) (Eq.trans (Eq.trans (show gi (C_130 5) 3 = gi (C_127 5) 3 by rw [e_131]; rfl) (show gi (C_127 5) 3 = (4 : Int32) by rw [e_128]; rfl)) tk_134.1) (Eq.trans (Eq.trans (show gi (C_130 5) 4 = gi (C_127 5) 4 by rw [e_131]; rfl) (show gi (C_127 5) 4 = gi (K123 5) 4 by rw [e_128]; rfl)) hs_123.2.1) (Eq.trans (Eq.trans (show gi (C_130 5) 5 = ((gi (K123 5) 4) + 1) by rw [e_131]; rfl) (congrArg (fun z => z + 1) hs_123.2.1)) tk_134.2))⟩⟩, ⟨by rw [ht]; exact hP, hD⟩⟩, hS.F ht⟩) hS.2.2 dX4_advance_242
                      · refine lv_iconst (v := 3) hx hb dX4_advance_224 (by decide) ?_
                        refine lv_goto (tgt := 229) hx hb dX4_advance_225 (by decide) ?_
                        refine th_put (Tp := TyX a E) (Rl := fr [(5, 6)] [] C) (ci := 4) (v := .int 3) (ty := .int) (CC := RX4) (T := TX4) (N := 6) hx hb htg ig_4 tyX4 tyX4_ok nmX4 hown hK hP hD hS 5 (by decide) (sX_5 hT) rfl 3 (by decide) (htg _ q_222) (fun _ h9 => h9) rfl (by decide +kernel) rfl rfl (Nat.le_of_ble_eq_true rfl) (hT.up 5 ⟨rfl, (fX_5_1 hT), (fX_5_2 hT), (fX_5_4 hT), (fX_5_5 hT)⟩) (fr_st hF (by decide) (by decide)) dX4_advance_229 (fun C_135 H locs e_136 hT hF hP hD hS => ?_)
                        have t_137 := hT
                        refine lv_aload_n hx hb dX4_advance_232 rfl (lv_at hl 0 rfl) ?_
                        refine lv_aload_n hx hb dX4_advance_233 rfl (lv_at hl 0 rfl) ?_
                        refine va_get (D := D) (ci := 4) (v := .int (gi (K123 5) 4)) (C := RX4) (T := TX4) (N := 6) hx hb htg ig_4 hown hK hP 5 (oh_wg (by decide) (sX_5 hT)) rfl 4 (by decide) (htg _ q_223) (fun _ h9 => h9) (oh_fv (c := C_135 5) (j := 4) rfl (show gi (C_135 5) 4 = gi (K123 5) 4 by rw [e_136]; rfl)) dX4_advance_234 ?_
                        refine lv_iconst (v := 1) hx hb dX4_advance_237 (by decide) ?_
                        refine lv_iadd hx hb dX4_advance_238 ?_
                        refine th_put (Tp := TyX a E) (Rl := fr [(5, 6)] [] C) (ci := 4) (v := .int ((gi (K123 5) 4) + 1)) (ty := .int) (CC := RX4) (T := TX4) (N := 6) hx hb htg ig_4 tyX4 tyX4_ok nmX4 hown hK hP hD hS 5 (by decide) (sX_5 hT) rfl 5 (by decide) (htg _ q_224) (fun _ h9 => h9) rfl (by decide +kernel) rfl rfl (Nat.le_of_ble_eq_true rfl) (hT.up 5 ⟨rfl, (fX_5_1 hT), (fX_5_2 hT), (fX_5_4 hT), (rg_w (rg_add (lo := 2) (hi := 250) (rn_ltu (u' := 249) c_124 (rn_lel c_123 (rn_lel c_122 (rn_ltl (l' := 1) c_124 (fX_5_4 t_121) (fX_5_1 t_121) (by decide)) (fX_5_5 t_121)) (fX_5_4 t_121)) (fX_5_1 t_121) (by decide)) (rg_c (v := 1) (lo := 1) (hi := 1) (by decide)) (by decide)) (by decide))⟩) (fr_st hF (by decide) (by decide)) dX4_advance_239 (fun C_138 H locs e_139 hT hF hP hD hS => ?_)
                        have t_140 := hT
                        have hM_141 : ¬ (upto pB (ga (C 32)) (gi (C 5) 1) (gi (C 5) 5)) < (upto pD (ga (C 32)) (gi (C 5) 1) (upto pB (ga (C 32)) (gi (C 5) 1) (gi (C 5) 5))) := by rw [← (Eq.trans (upto_stop (p := pD) (fun h8 => absurd (oh_lte h8.1 hs_123.1.symm) (Int32.not_lt.mpr c_122))).symm hs_123.2.2.2), ← hs_123.2.1]; exact Int32.not_lt.mpr c_123
                        have tk_142 := (tk_sgn hs_123.2.2.1 hM_141 (fun h8 => absurd (oh_lee (by rw [← hs_123.2.1] at h8; exact h8) hs_123.1.symm) (Int32.not_le.mpr c_124)) (by rw [← hs_123.2.1]; exact c_126))
                        rw [hQ]
                        exact W.vret hx hb hr (fun t ht hW => ⟨⟨C_138, rfl, ⟨hT, hF, ⟨(Eq.trans (Eq.trans (show gi (C_138 5) 2 = gi (C_135 5) 2 by rw [e_139]; rfl) (show gi (C_135 5) 2 = gi (K123 5) 2 by rw [e_136]; rfl)) hv_123), (px_mk (Eq.trans (Eq.trans (show gi (C_138 5) 1 = gi (C_135 5) 1 by rw [e_139]; rfl) (show gi (C_135 5) 1 = gi (K123 5) 1 by rw [e_136]; rfl)) hs_123.1) (Eq.trans (Eq.trans (show gi (C_138 5) 2 = gi (C_135 5) 2 by rw [e_139]; rfl) (show gi (C_135 5) 2 = gi (K123 5) 2 by rw [e_136]; rfl)) hv_123) (Eq.trans (Eq.trans (show gi (C_138 5) 3 = gi (C_135 5) 3 by rw [e_139]; rfl) (show gi (C_135 5) 3 = (3 : Int32) by rw [e_136]; rfl)) tk_142.1) (Eq.trans (Eq.trans (show gi (C_138 5) 4 = gi (C_135 5) 4 by rw [e_139]; rfl) (show gi (C_135 5) 4 = gi (K123 5) 4 by rw [e_136]; rfl)) hs_123.2.1) (Eq.trans (Eq.trans (show gi (C_138 5) 5 = ((gi (K123 5) 4) + 1) by rw [e_139]; rfl) (congrArg (fun z => z + 1) hs_123.2.1)) tk_142.2))⟩⟩, ⟨by rw [ht]; exact hP, hD⟩⟩, hS.F ht⟩) hS.2.2 dX4_advance_242
                    · refine lv_aload_n hx hb dX4_advance_203 rfl (lv_at hl 0 rfl) ?_
                      refine lv_iconst (v := 0) hx hb dX4_advance_204 (by decide) ?_
                      refine th_put (Tp := TyX a E) (Rl := fr [(5, 6)] [] C) (ci := 4) (v := .int 0) (ty := .int) (CC := RX4) (T := TX4) (N := 6) hx hb htg ig_4 tyX4 tyX4_ok nmX4 hown hK hP hD hS 5 (by decide) (sX_5 hT) rfl 3 (by decide) (htg _ q_222) (fun _ h9 => h9) rfl (by decide +kernel) rfl rfl (Nat.le_of_ble_eq_true rfl) (hT.up 5 ⟨rfl, (fX_5_1 hT), (fX_5_2 hT), (fX_5_4 hT), (fX_5_5 hT)⟩) (fr_st hF (by decide) (by decide)) dX4_advance_205 (fun C_143 H locs e_144 hT hF hP hD hS => ?_)
                      have t_145 := hT
                      have hM_146 : ¬ (upto pB (ga (C 32)) (gi (C 5) 1) (gi (C 5) 5)) < (upto pD (ga (C 32)) (gi (C 5) 1) (upto pB (ga (C 32)) (gi (C 5) 1) (gi (C 5) 5))) := by rw [← (Eq.trans (upto_stop (p := pD) (fun h8 => absurd (oh_lte h8.1 hs_123.1.symm) (Int32.not_lt.mpr c_122))).symm hs_123.2.2.2), ← hs_123.2.1]; exact Int32.not_lt.mpr c_123
                      have hZ_147 : gi (K123 5) 5 = (upto pB (ga (C 32)) (gi (C 5) 1) (gi (C 5) 5)) := Eq.trans (Eq.trans (upto_stop (p := pD) (fun h8 => absurd (oh_lte h8.1 hs_123.1.symm) (Int32.not_lt.mpr c_122))).symm hs_123.2.2.2) (upto_nn (fX_5_1 hT0) (by rw [← hs_123.2.1]; exact (rg_w (lo := 0) (hi := 250) (fX_5_4 t_121) (by decide))) hM_146)
                      have tk_148 := (tk_end hs_123.2.2.1 hM_146 (by rw [← hs_123.2.1, ← hs_123.1]; exact (Int32.not_lt.mp c_124)))
                      rw [hQ]
                      exact W.vret hx hb hr (fun t ht hW => ⟨⟨C_143, rfl, ⟨hT, hF, ⟨(Eq.trans (show gi (C_143 5) 2 = gi (K123 5) 2 by rw [e_144]; rfl) hv_123), (px_mk (Eq.trans (show gi (C_143 5) 1 = gi (K123 5) 1 by rw [e_144]; rfl) hs_123.1) (Eq.trans (show gi (C_143 5) 2 = gi (K123 5) 2 by rw [e_144]; rfl) hv_123) (Eq.trans (show gi (C_143 5) 3 = (0 : Int32) by rw [e_144]; rfl) tk_148.1) (Eq.trans (show gi (C_143 5) 4 = gi (K123 5) 4 by rw [e_144]; rfl) hs_123.2.1) (Eq.trans (Eq.trans (show gi (C_143 5) 5 = gi (K123 5) 5 by rw [e_144]; rfl) hZ_147) tk_148.2))⟩⟩, ⟨by rw [ht]; exact hP, hD⟩⟩, hS.F ht⟩) hS.2.2 dX4_advance_208
                  · refine lv_aload_n hx hb dX4_advance_186 rfl (lv_at hl 0 rfl) ?_
                    refine lv_iconst (v := 2) hx hb dX4_advance_187 (by decide) ?_
                    refine th_put (Tp := TyX a E) (Rl := fr [(5, 6)] [] C) (ci := 4) (v := .int 2) (ty := .int) (CC := RX4) (T := TX4) (N := 6) hx hb htg ig_4 tyX4 tyX4_ok nmX4 hown hK hP hD hS 5 (by decide) (sX_5 hT) rfl 3 (by decide) (htg _ q_222) (fun _ h9 => h9) rfl (by decide +kernel) rfl rfl (Nat.le_of_ble_eq_true rfl) (hT.up 5 ⟨rfl, (fX_5_1 hT), (fX_5_2 hT), (fX_5_4 hT), (fX_5_5 hT)⟩) (fr_st hF (by decide) (by decide)) dX4_advance_188 (fun C_149 H locs e_150 hT hF hP hD hS => ?_)
                    have t_151 := hT
                    have tk_152 := (tk_num hs_123.2.2.1 (Eq.trans (upto_stop (p := pD) (fun h8 => absurd (oh_lte h8.1 hs_123.1.symm) (Int32.not_lt.mpr c_122))).symm hs_123.2.2.2) (by rw [← hs_123.2.1]; exact (Int32.not_le.mp c_123)))
                    rw [hQ]
                    exact W.vret hx hb hr (fun t ht hW => ⟨⟨C_149, rfl, ⟨hT, hF, ⟨(Eq.trans (show gi (C_149 5) 2 = gi (K123 5) 2 by rw [e_150]; rfl) hv_123), (px_mk (Eq.trans (show gi (C_149 5) 1 = gi (K123 5) 1 by rw [e_150]; rfl) hs_123.1) (Eq.trans (show gi (C_149 5) 2 = gi (K123 5) 2 by rw [e_150]; rfl) hv_123) (Eq.trans (show gi (C_149 5) 3 = (2 : Int32) by rw [e_150]; rfl) tk_152.1) (Eq.trans (show gi (C_149 5) 4 = gi (K123 5) 4 by rw [e_150]; rfl) hs_123.2.1) (Eq.trans (show gi (C_149 5) 5 = gi (K123 5) 5 by rw [e_150]; rfl) tk_152.2))⟩⟩, ⟨by rw [ht]; exact hP, hD⟩⟩, hS.F ht⟩) hS.2.2 dX4_advance_191
                · refine lv_aload_n hx hb dX4_advance_134 rfl (lv_at hl 0 rfl) ?_
                  refine va_get (D := D) (ci := 4) (v := .ref (a 32)) (C := RX4) (T := TX4) (N := 6) hx hb htg ig_4 hown hK hP 5 (oh_wg (by decide) (sX_5 hT)) rfl 0 (by decide) (htg _ q_217) (fun _ h9 => h9) rfl dX4_advance_135 ?_
                  refine lv_aload_n hx hb dX4_advance_138 rfl (lv_at hl 0 rfl) ?_
                  refine va_get (D := D) (ci := 4) (v := .int (gi (K123 5) 5)) (C := RX4) (T := TX4) (N := 6) hx hb htg ig_4 hown hK hP 5 (oh_wg (by decide) (sX_5 hT)) rfl 5 (by decide) (htg _ q_224) (fun _ h9 => h9) rfl dX4_advance_139 ?_
                  have n_153 : vp_in (gi (K123 5) 5) 250 := (rg_in (rn_ltu (u' := 249) (Int32.not_le.mp c_122) (fX_5_5 t_121) (fX_5_1 t_121) (by decide)) (by decide))
                  refine th_iald hx hb hK hP 32 (by decide) (Eq.trans (Eq.trans (hLF_123.1 32 rfl (by decide)) (Eq.trans (hLF_54.1 32 rfl (by decide)) (Eq.trans (th_un e_7 (by decide)) (Eq.trans (hLF_8.1 32 rfl (by decide)) (th_un e_2 (by decide)))))) (sX_32 hT0)) n_153 dX4_advance_142 ?_
                  refine lv_bipush (v := 48) hx hb dX4_advance_143 (by decide) ?_
                  refine lv_icmp_lt (tgt := 175) hx hb dX4_advance_145 (by decide) (fun (c_154 : (ga (C 32) (gi (K123 5) 5).toNatClampNeg) < 48) => ?_) (fun (c_154 : ¬ ((ga (C 32) (gi (K123 5) 5).toNatClampNeg) < 48)) => ?_)
                  · refine lv_aload_n hx hb dX4_advance_175 rfl (lv_at hl 0 rfl) ?_
                    refine va_get (D := D) (ci := 4) (v := .int (gi (K123 5) 5)) (C := RX4) (T := TX4) (N := 6) hx hb htg ig_4 hown hK hP 5 (oh_wg (by decide) (sX_5 hT)) rfl 5 (by decide) (htg _ q_224) (fun _ h9 => h9) rfl dX4_advance_176 ?_
                    refine lv_aload_n hx hb dX4_advance_179 rfl (lv_at hl 0 rfl) ?_
                    refine va_get (D := D) (ci := 4) (v := .int (gi (K123 5) 4)) (C := RX4) (T := TX4) (N := 6) hx hb htg ig_4 hown hK hP 5 (oh_wg (by decide) (sX_5 hT)) rfl 4 (by decide) (htg _ q_223) (fun _ h9 => h9) rfl dX4_advance_180 ?_
                    refine lv_icmp_le (tgt := 192) hx hb dX4_advance_183 (by decide) (fun (c_155 : (gi (K123 5) 5) ≤ (gi (K123 5) 4)) => ?_) (fun (c_155 : ¬ ((gi (K123 5) 5) ≤ (gi (K123 5) 4))) => ?_)
                    · refine lv_aload_n hx hb dX4_advance_192 rfl (lv_at hl 0 rfl) ?_
                      refine va_get (D := D) (ci := 4) (v := .int (gi (K123 5) 4)) (C := RX4) (T := TX4) (N := 6) hx hb htg ig_4 hown hK hP 5 (oh_wg (by decide) (sX_5 hT)) rfl 4 (by decide) (htg _ q_223) (fun _ h9 => h9) rfl dX4_advance_193 ?_
                      refine lv_aload_n hx hb dX4_advance_196 rfl (lv_at hl 0 rfl) ?_
                      refine va_get (D := D) (ci := 4) (v := .int (gi (K123 5) 1)) (C := RX4) (T := TX4) (N := 6) hx hb htg ig_4 hown hK hP 5 (oh_wg (by decide) (sX_5 hT)) rfl 1 (by decide) (htg _ q_218) (fun _ h9 => h9) rfl dX4_advance_197 ?_
                      refine lv_icmp_lt (tgt := 209) hx hb dX4_advance_200 (by decide) (fun (c_156 : (gi (K123 5) 4) < (gi (K123 5) 1)) => ?_) (fun (c_156 : ¬ ((gi (K123 5) 4) < (gi (K123 5) 1))) => ?_)
                      · refine lv_aload_n hx hb dX4_advance_209 rfl (lv_at hl 0 rfl) ?_
                        refine lv_aload_n hx hb dX4_advance_210 rfl (lv_at hl 0 rfl) ?_
                        refine va_get (D := D) (ci := 4) (v := .ref (a 32)) (C := RX4) (T := TX4) (N := 6) hx hb htg ig_4 hown hK hP 5 (oh_wg (by decide) (sX_5 hT)) rfl 0 (by decide) (htg _ q_217) (fun _ h9 => h9) rfl dX4_advance_211 ?_
                        refine lv_aload_n hx hb dX4_advance_214 rfl (lv_at hl 0 rfl) ?_
                        refine va_get (D := D) (ci := 4) (v := .int (gi (K123 5) 4)) (C := RX4) (T := TX4) (N := 6) hx hb htg ig_4 hown hK hP 5 (oh_wg (by decide) (sX_5 hT)) rfl 4 (by decide) (htg _ q_223) (fun _ h9 => h9) rfl dX4_advance_215 ?_
                        have n_157 : vp_in (gi (K123 5) 4) 250 := (rg_in (rn_ltu (u' := 249) c_156 (fX_5_4 t_121) (rn_ltl (l' := 1) (Int32.not_le.mp c_122) (fX_5_5 t_121) (fX_5_1 t_121) (by decide)) (by decide)) (by decide))
                        refine th_iald hx hb hK hP 32 (by decide) (Eq.trans (Eq.trans (hLF_123.1 32 rfl (by decide)) (Eq.trans (hLF_54.1 32 rfl (by decide)) (Eq.trans (th_un e_7 (by decide)) (Eq.trans (hLF_8.1 32 rfl (by decide)) (th_un e_2 (by decide)))))) (sX_32 hT0)) n_157 dX4_advance_218 ?_
                        refine lv_bipush (v := 59) hx hb dX4_advance_219 (by decide) ?_
                        refine lv_icmp_ne (tgt := 228) hx hb dX4_advance_221 (by decide) (fun (c_158 : ¬ ((ga (C 32) (gi (K123 5) 4).toNatClampNeg) = 59)) => ?_) (fun (c_158 : (ga (C 32) (gi (K123 5) 4).toNatClampNeg) = 59) => ?_)
                        · refine lv_iconst (v := 4) hx hb dX4_advance_228 (by decide) ?_
                          refine th_put (Tp := TyX a E) (Rl := fr [(5, 6)] [] C) (ci := 4) (v := .int 4) (ty := .int) (CC := RX4) (T := TX4) (N := 6) hx hb htg ig_4 tyX4 tyX4_ok nmX4 hown hK hP hD hS 5 (by decide) (sX_5 hT) rfl 3 (by decide) (htg _ q_222) (fun _ h9 => h9) rfl (by decide +kernel) rfl rfl (Nat.le_of_ble_eq_true rfl) (hT.up 5 ⟨rfl, (fX_5_1 hT), (fX_5_2 hT), (fX_5_4 hT), (fX_5_5 hT)⟩) (fr_st hF (by decide) (by decide)) dX4_advance_229 (fun C_159 H locs e_160 hT hF hP hD hS => ?_)
                          have t_161 := hT
                          refine lv_aload_n hx hb dX4_advance_232 rfl (lv_at hl 0 rfl) ?_
                          refine lv_aload_n hx hb dX4_advance_233 rfl (lv_at hl 0 rfl) ?_
                          refine va_get (D := D) (ci := 4) (v := .int (gi (K123 5) 4)) (C := RX4) (T := TX4) (N := 6) hx hb htg ig_4 hown hK hP 5 (oh_wg (by decide) (sX_5 hT)) rfl 4 (by decide) (htg _ q_223) (fun _ h9 => h9) (oh_fv (c := C_159 5) (j := 4) rfl (show gi (C_159 5) 4 = gi (K123 5) 4 by rw [e_160]; rfl)) dX4_advance_234 ?_
                          refine lv_iconst (v := 1) hx hb dX4_advance_237 (by decide) ?_
                          refine lv_iadd hx hb dX4_advance_238 ?_
                          refine th_put (Tp := TyX a E) (Rl := fr [(5, 6)] [] C) (ci := 4) (v := .int ((gi (K123 5) 4) + 1)) (ty := .int) (CC := RX4) (T := TX4) (N := 6) hx hb htg ig_4 tyX4 tyX4_ok nmX4 hown hK hP hD hS 5 (by decide) (sX_5 hT) rfl 5 (by decide) (htg _ q_224) (fun _ h9 => h9) rfl (by decide +kernel) rfl rfl (Nat.le_of_ble_eq_true rfl) (hT.up 5 ⟨rfl, (fX_5_1 hT), (fX_5_2 hT), (fX_5_4 hT), (rg_w (rg_add (lo := 1) (hi := 250) (rn_ltu (u' := 249) c_156 (fX_5_4 t_121) (rn_ltl (l' := 1) (Int32.not_le.mp c_122) (fX_5_5 t_121) (fX_5_1 t_121) (by decide)) (by decide)) (rg_c (v := 1) (lo := 1) (hi := 1) (by decide)) (by decide)) (by decide))⟩) (fr_st hF (by decide) (by decide)) dX4_advance_239 (fun C_162 H locs e_163 hT hF hP hD hS => ?_)
                          have t_164 := hT
                          have hM_165 : ¬ (upto pB (ga (C 32)) (gi (C 5) 1) (gi (C 5) 5)) < (upto pD (ga (C 32)) (gi (C 5) 1) (upto pB (ga (C 32)) (gi (C 5) 1) (gi (C 5) 5))) := by rw [← (Eq.trans (upto_stop (p := pD) (fun h8 => pD_lo c_154 h8.2)).symm hs_123.2.2.2), ← hs_123.2.1]; exact Int32.not_lt.mpr c_155
                          have tk_166 := (tk_wrg hs_123.2.2.1 hM_165 (fun h8 => absurd (oh_lee (by rw [← hs_123.2.1] at h8; exact h8) hs_123.1.symm) (Int32.not_le.mpr c_156)) (by rw [← hs_123.2.1]; exact c_158))
                          rw [hQ]
                          exact W.vret hx hb hr (fun t ht hW => ⟨⟨C_162, rfl, ⟨hT, hF, ⟨(Eq.trans (Eq.trans (show gi (C_162 5) 2 = gi (C_159 5) 2 by rw [e_163]; rfl) (show gi (C_159 5) 2 = gi (K123 5) 2 by rw [e_160]; rfl)) hv_123), (px_mk (Eq.trans (Eq.trans (show gi (C_162 5) 1 = gi (C_159 5) 1 by rw [e_163]; rfl) (show gi (C_159 5) 1 = gi (K123 5) 1 by rw [e_160]; rfl)) hs_123.1) (Eq.trans (Eq.trans (show gi (C_162 5) 2 = gi (C_159 5) 2 by rw [e_163]; rfl) (show gi (C_159 5) 2 = gi (K123 5) 2 by rw [e_160]; rfl)) hv_123) (Eq.trans (Eq.trans (show gi (C_162 5) 3 = gi (C_159 5) 3 by rw [e_163]; rfl) (show gi (C_159 5) 3 = (4 : Int32) by rw [e_160]; rfl)) tk_166.1) (Eq.trans (Eq.trans (show gi (C_162 5) 4 = gi (C_159 5) 4 by rw [e_163]; rfl) (show gi (C_159 5) 4 = gi (K123 5) 4 by rw [e_160]; rfl)) hs_123.2.1) (Eq.trans (Eq.trans (show gi (C_162 5) 5 = ((gi (K123 5) 4) + 1) by rw [e_163]; rfl) (congrArg (fun z => z + 1) hs_123.2.1)) tk_166.2))⟩⟩, ⟨by rw [ht]; exact hP, hD⟩⟩, hS.F ht⟩) hS.2.2 dX4_advance_242
                        · refine lv_iconst (v := 3) hx hb dX4_advance_224 (by decide) ?_
                          refine lv_goto (tgt := 229) hx hb dX4_advance_225 (by decide) ?_
                          refine th_put (Tp := TyX a E) (Rl := fr [(5, 6)] [] C) (ci := 4) (v := .int 3) (ty := .int) (CC := RX4) (T := TX4) (N := 6) hx hb htg ig_4 tyX4 tyX4_ok nmX4 hown hK hP hD hS 5 (by decide) (sX_5 hT) rfl 3 (by decide) (htg _ q_222) (fun _ h9 => h9) rfl (by decide +kernel) rfl rfl (Nat.le_of_ble_eq_true rfl) (hT.up 5 ⟨rfl, (fX_5_1 hT), (fX_5_2 hT), (fX_5_4 hT), (fX_5_5 hT)⟩) (fr_st hF (by decide) (by decide)) dX4_advance_229 (fun C_167 H locs e_168 hT hF hP hD hS => ?_)
                          have t_169 := hT
                          refine lv_aload_n hx hb dX4_advance_232 rfl (lv_at hl 0 rfl) ?_
                          refine lv_aload_n hx hb dX4_advance_233 rfl (lv_at hl 0 rfl) ?_
                          refine va_get (D := D) (ci := 4) (v := .int (gi (K123 5) 4)) (C := RX4) (T := TX4) (N := 6) hx hb htg ig_4 hown hK hP 5 (oh_wg (by decide) (sX_5 hT)) rfl 4 (by decide) (htg _ q_223) (fun _ h9 => h9) (oh_fv (c := C_167 5) (j := 4) rfl (show gi (C_167 5) 4 = gi (K123 5) 4 by rw [e_168]; rfl)) dX4_advance_234 ?_
                          refine lv_iconst (v := 1) hx hb dX4_advance_237 (by decide) ?_
                          refine lv_iadd hx hb dX4_advance_238 ?_
                          refine th_put (Tp := TyX a E) (Rl := fr [(5, 6)] [] C) (ci := 4) (v := .int ((gi (K123 5) 4) + 1)) (ty := .int) (CC := RX4) (T := TX4) (N := 6) hx hb htg ig_4 tyX4 tyX4_ok nmX4 hown hK hP hD hS 5 (by decide) (sX_5 hT) rfl 5 (by decide) (htg _ q_224) (fun _ h9 => h9) rfl (by decide +kernel) rfl rfl (Nat.le_of_ble_eq_true rfl) (hT.up 5 ⟨rfl, (fX_5_1 hT), (fX_5_2 hT), (fX_5_4 hT), (rg_w (rg_add (lo := 1) (hi := 250) (rn_ltu (u' := 249) c_156 (fX_5_4 t_121) (rn_ltl (l' := 1) (Int32.not_le.mp c_122) (fX_5_5 t_121) (fX_5_1 t_121) (by decide)) (by decide)) (rg_c (v := 1) (lo := 1) (hi := 1) (by decide)) (by decide)) (by decide))⟩) (fr_st hF (by decide) (by decide)) dX4_advance_239 (fun C_170 H locs e_171 hT hF hP hD hS => ?_)
                          have t_172 := hT
                          have hM_173 : ¬ (upto pB (ga (C 32)) (gi (C 5) 1) (gi (C 5) 5)) < (upto pD (ga (C 32)) (gi (C 5) 1) (upto pB (ga (C 32)) (gi (C 5) 1) (gi (C 5) 5))) := by rw [← (Eq.trans (upto_stop (p := pD) (fun h8 => pD_lo c_154 h8.2)).symm hs_123.2.2.2), ← hs_123.2.1]; exact Int32.not_lt.mpr c_155
                          have tk_174 := (tk_sgn hs_123.2.2.1 hM_173 (fun h8 => absurd (oh_lee (by rw [← hs_123.2.1] at h8; exact h8) hs_123.1.symm) (Int32.not_le.mpr c_156)) (by rw [← hs_123.2.1]; exact c_158))
                          rw [hQ]
                          exact W.vret hx hb hr (fun t ht hW => ⟨⟨C_170, rfl, ⟨hT, hF, ⟨(Eq.trans (Eq.trans (show gi (C_170 5) 2 = gi (C_167 5) 2 by rw [e_171]; rfl) (show gi (C_167 5) 2 = gi (K123 5) 2 by rw [e_168]; rfl)) hv_123), (px_mk (Eq.trans (Eq.trans (show gi (C_170 5) 1 = gi (C_167 5) 1 by rw [e_171]; rfl) (show gi (C_167 5) 1 = gi (K123 5) 1 by rw [e_168]; rfl)) hs_123.1) (Eq.trans (Eq.trans (show gi (C_170 5) 2 = gi (C_167 5) 2 by rw [e_171]; rfl) (show gi (C_167 5) 2 = gi (K123 5) 2 by rw [e_168]; rfl)) hv_123) (Eq.trans (Eq.trans (show gi (C_170 5) 3 = gi (C_167 5) 3 by rw [e_171]; rfl) (show gi (C_167 5) 3 = (3 : Int32) by rw [e_168]; rfl)) tk_174.1) (Eq.trans (Eq.trans (show gi (C_170 5) 4 = gi (C_167 5) 4 by rw [e_171]; rfl) (show gi (C_167 5) 4 = gi (K123 5) 4 by rw [e_168]; rfl)) hs_123.2.1) (Eq.trans (Eq.trans (show gi (C_170 5) 5 = ((gi (K123 5) 4) + 1) by rw [e_171]; rfl) (congrArg (fun z => z + 1) hs_123.2.1)) tk_174.2))⟩⟩, ⟨by rw [ht]; exact hP, hD⟩⟩, hS.F ht⟩) hS.2.2 dX4_advance_242
                      · refine lv_aload_n hx hb dX4_advance_203 rfl (lv_at hl 0 rfl) ?_
                        refine lv_iconst (v := 0) hx hb dX4_advance_204 (by decide) ?_
                        refine th_put (Tp := TyX a E) (Rl := fr [(5, 6)] [] C) (ci := 4) (v := .int 0) (ty := .int) (CC := RX4) (T := TX4) (N := 6) hx hb htg ig_4 tyX4 tyX4_ok nmX4 hown hK hP hD hS 5 (by decide) (sX_5 hT) rfl 3 (by decide) (htg _ q_222) (fun _ h9 => h9) rfl (by decide +kernel) rfl rfl (Nat.le_of_ble_eq_true rfl) (hT.up 5 ⟨rfl, (fX_5_1 hT), (fX_5_2 hT), (fX_5_4 hT), (fX_5_5 hT)⟩) (fr_st hF (by decide) (by decide)) dX4_advance_205 (fun C_175 H locs e_176 hT hF hP hD hS => ?_)
                        have t_177 := hT
                        have hM_178 : ¬ (upto pB (ga (C 32)) (gi (C 5) 1) (gi (C 5) 5)) < (upto pD (ga (C 32)) (gi (C 5) 1) (upto pB (ga (C 32)) (gi (C 5) 1) (gi (C 5) 5))) := by rw [← (Eq.trans (upto_stop (p := pD) (fun h8 => pD_lo c_154 h8.2)).symm hs_123.2.2.2), ← hs_123.2.1]; exact Int32.not_lt.mpr c_155
                        have hZ_179 : gi (K123 5) 5 = (upto pB (ga (C 32)) (gi (C 5) 1) (gi (C 5) 5)) := Eq.trans (Eq.trans (upto_stop (p := pD) (fun h8 => pD_lo c_154 h8.2)).symm hs_123.2.2.2) (upto_nn (fX_5_1 hT0) (by rw [← hs_123.2.1]; exact (rg_w (lo := 0) (hi := 250) (rn_lel (Int32.not_lt.mp c_156) (rn_ltl (l' := 1) (Int32.not_le.mp c_122) (fX_5_5 t_121) (fX_5_1 t_121) (by decide)) (fX_5_4 t_121)) (by decide))) hM_178)
                        have tk_180 := (tk_end hs_123.2.2.1 hM_178 (by rw [← hs_123.2.1, ← hs_123.1]; exact (Int32.not_lt.mp c_156)))
                        rw [hQ]
                        exact W.vret hx hb hr (fun t ht hW => ⟨⟨C_175, rfl, ⟨hT, hF, ⟨(Eq.trans (show gi (C_175 5) 2 = gi (K123 5) 2 by rw [e_176]; rfl) hv_123), (px_mk (Eq.trans (show gi (C_175 5) 1 = gi (K123 5) 1 by rw [e_176]; rfl) hs_123.1) (Eq.trans (show gi (C_175 5) 2 = gi (K123 5) 2 by rw [e_176]; rfl) hv_123) (Eq.trans (show gi (C_175 5) 3 = (0 : Int32) by rw [e_176]; rfl) tk_180.1) (Eq.trans (show gi (C_175 5) 4 = gi (K123 5) 4 by rw [e_176]; rfl) hs_123.2.1) (Eq.trans (Eq.trans (show gi (C_175 5) 5 = gi (K123 5) 5 by rw [e_176]; rfl) hZ_179) tk_180.2))⟩⟩, ⟨by rw [ht]; exact hP, hD⟩⟩, hS.F ht⟩) hS.2.2 dX4_advance_208
                    · refine lv_aload_n hx hb dX4_advance_186 rfl (lv_at hl 0 rfl) ?_
                      refine lv_iconst (v := 2) hx hb dX4_advance_187 (by decide) ?_
                      refine th_put (Tp := TyX a E) (Rl := fr [(5, 6)] [] C) (ci := 4) (v := .int 2) (ty := .int) (CC := RX4) (T := TX4) (N := 6) hx hb htg ig_4 tyX4 tyX4_ok nmX4 hown hK hP hD hS 5 (by decide) (sX_5 hT) rfl 3 (by decide) (htg _ q_222) (fun _ h9 => h9) rfl (by decide +kernel) rfl rfl (Nat.le_of_ble_eq_true rfl) (hT.up 5 ⟨rfl, (fX_5_1 hT), (fX_5_2 hT), (fX_5_4 hT), (fX_5_5 hT)⟩) (fr_st hF (by decide) (by decide)) dX4_advance_188 (fun C_181 H locs e_182 hT hF hP hD hS => ?_)
                      have t_183 := hT
                      have tk_184 := (tk_num hs_123.2.2.1 (Eq.trans (upto_stop (p := pD) (fun h8 => pD_lo c_154 h8.2)).symm hs_123.2.2.2) (by rw [← hs_123.2.1]; exact (Int32.not_le.mp c_155)))
                      rw [hQ]
                      exact W.vret hx hb hr (fun t ht hW => ⟨⟨C_181, rfl, ⟨hT, hF, ⟨(Eq.trans (show gi (C_181 5) 2 = gi (K123 5) 2 by rw [e_182]; rfl) hv_123), (px_mk (Eq.trans (show gi (C_181 5) 1 = gi (K123 5) 1 by rw [e_182]; rfl) hs_123.1) (Eq.trans (show gi (C_181 5) 2 = gi (K123 5) 2 by rw [e_182]; rfl) hv_123) (Eq.trans (show gi (C_181 5) 3 = (2 : Int32) by rw [e_182]; rfl) tk_184.1) (Eq.trans (show gi (C_181 5) 4 = gi (K123 5) 4 by rw [e_182]; rfl) hs_123.2.1) (Eq.trans (show gi (C_181 5) 5 = gi (K123 5) 5 by rw [e_182]; rfl) tk_184.2))⟩⟩, ⟨by rw [ht]; exact hP, hD⟩⟩, hS.F ht⟩) hS.2.2 dX4_advance_191
                  · refine lv_aload_n hx hb dX4_advance_148 rfl (lv_at hl 0 rfl) ?_
                    refine va_get (D := D) (ci := 4) (v := .ref (a 32)) (C := RX4) (T := TX4) (N := 6) hx hb htg ig_4 hown hK hP 5 (oh_wg (by decide) (sX_5 hT)) rfl 0 (by decide) (htg _ q_217) (fun _ h9 => h9) rfl dX4_advance_149 ?_
                    refine lv_aload_n hx hb dX4_advance_152 rfl (lv_at hl 0 rfl) ?_
                    refine va_get (D := D) (ci := 4) (v := .int (gi (K123 5) 5)) (C := RX4) (T := TX4) (N := 6) hx hb htg ig_4 hown hK hP 5 (oh_wg (by decide) (sX_5 hT)) rfl 5 (by decide) (htg _ q_224) (fun _ h9 => h9) rfl dX4_advance_153 ?_
                    have n_185 : vp_in (gi (K123 5) 5) 250 := (rg_in (rn_ltu (u' := 249) (Int32.not_le.mp c_122) (fX_5_5 t_121) (fX_5_1 t_121) (by decide)) (by decide))
                    refine th_iald hx hb hK hP 32 (by decide) (Eq.trans (Eq.trans (hLF_123.1 32 rfl (by decide)) (Eq.trans (hLF_54.1 32 rfl (by decide)) (Eq.trans (th_un e_7 (by decide)) (Eq.trans (hLF_8.1 32 rfl (by decide)) (th_un e_2 (by decide)))))) (sX_32 hT0)) n_185 dX4_advance_156 ?_
                    refine lv_bipush (v := 57) hx hb dX4_advance_157 (by decide) ?_
                    refine lv_icmp_gt (tgt := 175) hx hb dX4_advance_159 (by decide) (fun (c_186 : (57 : Int32) < (ga (C 32) (gi (K123 5) 5).toNatClampNeg)) => ?_) (fun (c_186 : ¬ ((57 : Int32) < (ga (C 32) (gi (K123 5) 5).toNatClampNeg))) => ?_)
                    · refine lv_aload_n hx hb dX4_advance_175 rfl (lv_at hl 0 rfl) ?_
                      refine va_get (D := D) (ci := 4) (v := .int (gi (K123 5) 5)) (C := RX4) (T := TX4) (N := 6) hx hb htg ig_4 hown hK hP 5 (oh_wg (by decide) (sX_5 hT)) rfl 5 (by decide) (htg _ q_224) (fun _ h9 => h9) rfl dX4_advance_176 ?_
                      refine lv_aload_n hx hb dX4_advance_179 rfl (lv_at hl 0 rfl) ?_
                      refine va_get (D := D) (ci := 4) (v := .int (gi (K123 5) 4)) (C := RX4) (T := TX4) (N := 6) hx hb htg ig_4 hown hK hP 5 (oh_wg (by decide) (sX_5 hT)) rfl 4 (by decide) (htg _ q_223) (fun _ h9 => h9) rfl dX4_advance_180 ?_
                      refine lv_icmp_le (tgt := 192) hx hb dX4_advance_183 (by decide) (fun (c_187 : (gi (K123 5) 5) ≤ (gi (K123 5) 4)) => ?_) (fun (c_187 : ¬ ((gi (K123 5) 5) ≤ (gi (K123 5) 4))) => ?_)
                      · refine lv_aload_n hx hb dX4_advance_192 rfl (lv_at hl 0 rfl) ?_
                        refine va_get (D := D) (ci := 4) (v := .int (gi (K123 5) 4)) (C := RX4) (T := TX4) (N := 6) hx hb htg ig_4 hown hK hP 5 (oh_wg (by decide) (sX_5 hT)) rfl 4 (by decide) (htg _ q_223) (fun _ h9 => h9) rfl dX4_advance_193 ?_
                        refine lv_aload_n hx hb dX4_advance_196 rfl (lv_at hl 0 rfl) ?_
                        refine va_get (D := D) (ci := 4) (v := .int (gi (K123 5) 1)) (C := RX4) (T := TX4) (N := 6) hx hb htg ig_4 hown hK hP 5 (oh_wg (by decide) (sX_5 hT)) rfl 1 (by decide) (htg _ q_218) (fun _ h9 => h9) rfl dX4_advance_197 ?_
                        refine lv_icmp_lt (tgt := 209) hx hb dX4_advance_200 (by decide) (fun (c_188 : (gi (K123 5) 4) < (gi (K123 5) 1)) => ?_) (fun (c_188 : ¬ ((gi (K123 5) 4) < (gi (K123 5) 1))) => ?_)
                        · refine lv_aload_n hx hb dX4_advance_209 rfl (lv_at hl 0 rfl) ?_
                          refine lv_aload_n hx hb dX4_advance_210 rfl (lv_at hl 0 rfl) ?_
                          refine va_get (D := D) (ci := 4) (v := .ref (a 32)) (C := RX4) (T := TX4) (N := 6) hx hb htg ig_4 hown hK hP 5 (oh_wg (by decide) (sX_5 hT)) rfl 0 (by decide) (htg _ q_217) (fun _ h9 => h9) rfl dX4_advance_211 ?_
                          refine lv_aload_n hx hb dX4_advance_214 rfl (lv_at hl 0 rfl) ?_
                          refine va_get (D := D) (ci := 4) (v := .int (gi (K123 5) 4)) (C := RX4) (T := TX4) (N := 6) hx hb htg ig_4 hown hK hP 5 (oh_wg (by decide) (sX_5 hT)) rfl 4 (by decide) (htg _ q_223) (fun _ h9 => h9) rfl dX4_advance_215 ?_
                          have n_189 : vp_in (gi (K123 5) 4) 250 := (rg_in (rn_ltu (u' := 249) c_188 (fX_5_4 t_121) (rn_ltl (l' := 1) (Int32.not_le.mp c_122) (fX_5_5 t_121) (fX_5_1 t_121) (by decide)) (by decide)) (by decide))
                          refine th_iald hx hb hK hP 32 (by decide) (Eq.trans (Eq.trans (hLF_123.1 32 rfl (by decide)) (Eq.trans (hLF_54.1 32 rfl (by decide)) (Eq.trans (th_un e_7 (by decide)) (Eq.trans (hLF_8.1 32 rfl (by decide)) (th_un e_2 (by decide)))))) (sX_32 hT0)) n_189 dX4_advance_218 ?_
                          refine lv_bipush (v := 59) hx hb dX4_advance_219 (by decide) ?_
                          refine lv_icmp_ne (tgt := 228) hx hb dX4_advance_221 (by decide) (fun (c_190 : ¬ ((ga (C 32) (gi (K123 5) 4).toNatClampNeg) = 59)) => ?_) (fun (c_190 : (ga (C 32) (gi (K123 5) 4).toNatClampNeg) = 59) => ?_)
                          · refine lv_iconst (v := 4) hx hb dX4_advance_228 (by decide) ?_
                            refine th_put (Tp := TyX a E) (Rl := fr [(5, 6)] [] C) (ci := 4) (v := .int 4) (ty := .int) (CC := RX4) (T := TX4) (N := 6) hx hb htg ig_4 tyX4 tyX4_ok nmX4 hown hK hP hD hS 5 (by decide) (sX_5 hT) rfl 3 (by decide) (htg _ q_222) (fun _ h9 => h9) rfl (by decide +kernel) rfl rfl (Nat.le_of_ble_eq_true rfl) (hT.up 5 ⟨rfl, (fX_5_1 hT), (fX_5_2 hT), (fX_5_4 hT), (fX_5_5 hT)⟩) (fr_st hF (by decide) (by decide)) dX4_advance_229 (fun C_191 H locs e_192 hT hF hP hD hS => ?_)
                            have t_193 := hT
                            refine lv_aload_n hx hb dX4_advance_232 rfl (lv_at hl 0 rfl) ?_
                            refine lv_aload_n hx hb dX4_advance_233 rfl (lv_at hl 0 rfl) ?_
                            refine va_get (D := D) (ci := 4) (v := .int (gi (K123 5) 4)) (C := RX4) (T := TX4) (N := 6) hx hb htg ig_4 hown hK hP 5 (oh_wg (by decide) (sX_5 hT)) rfl 4 (by decide) (htg _ q_223) (fun _ h9 => h9) (oh_fv (c := C_191 5) (j := 4) rfl (show gi (C_191 5) 4 = gi (K123 5) 4 by rw [e_192]; rfl)) dX4_advance_234 ?_
                            refine lv_iconst (v := 1) hx hb dX4_advance_237 (by decide) ?_
                            refine lv_iadd hx hb dX4_advance_238 ?_
                            refine th_put (Tp := TyX a E) (Rl := fr [(5, 6)] [] C) (ci := 4) (v := .int ((gi (K123 5) 4) + 1)) (ty := .int) (CC := RX4) (T := TX4) (N := 6) hx hb htg ig_4 tyX4 tyX4_ok nmX4 hown hK hP hD hS 5 (by decide) (sX_5 hT) rfl 5 (by decide) (htg _ q_224) (fun _ h9 => h9) rfl (by decide +kernel) rfl rfl (Nat.le_of_ble_eq_true rfl) (hT.up 5 ⟨rfl, (fX_5_1 hT), (fX_5_2 hT), (fX_5_4 hT), (rg_w (rg_add (lo := 1) (hi := 250) (rn_ltu (u' := 249) c_188 (fX_5_4 t_121) (rn_ltl (l' := 1) (Int32.not_le.mp c_122) (fX_5_5 t_121) (fX_5_1 t_121) (by decide)) (by decide)) (rg_c (v := 1) (lo := 1) (hi := 1) (by decide)) (by decide)) (by decide))⟩) (fr_st hF (by decide) (by decide)) dX4_advance_239 (fun C_194 H locs e_195 hT hF hP hD hS => ?_)
                            have t_196 := hT
                            have hM_197 : ¬ (upto pB (ga (C 32)) (gi (C 5) 1) (gi (C 5) 5)) < (upto pD (ga (C 32)) (gi (C 5) 1) (upto pB (ga (C 32)) (gi (C 5) 1) (gi (C 5) 5))) := by rw [← (Eq.trans (upto_stop (p := pD) (fun h8 => pD_hi c_186 h8.2)).symm hs_123.2.2.2), ← hs_123.2.1]; exact Int32.not_lt.mpr c_187
                            have tk_198 := (tk_wrg hs_123.2.2.1 hM_197 (fun h8 => absurd (oh_lee (by rw [← hs_123.2.1] at h8; exact h8) hs_123.1.symm) (Int32.not_le.mpr c_188)) (by rw [← hs_123.2.1]; exact c_190))
                            rw [hQ]
                            exact W.vret hx hb hr (fun t ht hW => ⟨⟨C_194, rfl, ⟨hT, hF, ⟨(Eq.trans (Eq.trans (show gi (C_194 5) 2 = gi (C_191 5) 2 by rw [e_195]; rfl) (show gi (C_191 5) 2 = gi (K123 5) 2 by rw [e_192]; rfl)) hv_123), (px_mk (Eq.trans (Eq.trans (show gi (C_194 5) 1 = gi (C_191 5) 1 by rw [e_195]; rfl) (show gi (C_191 5) 1 = gi (K123 5) 1 by rw [e_192]; rfl)) hs_123.1) (Eq.trans (Eq.trans (show gi (C_194 5) 2 = gi (C_191 5) 2 by rw [e_195]; rfl) (show gi (C_191 5) 2 = gi (K123 5) 2 by rw [e_192]; rfl)) hv_123) (Eq.trans (Eq.trans (show gi (C_194 5) 3 = gi (C_191 5) 3 by rw [e_195]; rfl) (show gi (C_191 5) 3 = (4 : Int32) by rw [e_192]; rfl)) tk_198.1) (Eq.trans (Eq.trans (show gi (C_194 5) 4 = gi (C_191 5) 4 by rw [e_195]; rfl) (show gi (C_191 5) 4 = gi (K123 5) 4 by rw [e_192]; rfl)) hs_123.2.1) (Eq.trans (Eq.trans (show gi (C_194 5) 5 = ((gi (K123 5) 4) + 1) by rw [e_195]; rfl) (congrArg (fun z => z + 1) hs_123.2.1)) tk_198.2))⟩⟩, ⟨by rw [ht]; exact hP, hD⟩⟩, hS.F ht⟩) hS.2.2 dX4_advance_242
                          · refine lv_iconst (v := 3) hx hb dX4_advance_224 (by decide) ?_
                            refine lv_goto (tgt := 229) hx hb dX4_advance_225 (by decide) ?_
                            refine th_put (Tp := TyX a E) (Rl := fr [(5, 6)] [] C) (ci := 4) (v := .int 3) (ty := .int) (CC := RX4) (T := TX4) (N := 6) hx hb htg ig_4 tyX4 tyX4_ok nmX4 hown hK hP hD hS 5 (by decide) (sX_5 hT) rfl 3 (by decide) (htg _ q_222) (fun _ h9 => h9) rfl (by decide +kernel) rfl rfl (Nat.le_of_ble_eq_true rfl) (hT.up 5 ⟨rfl, (fX_5_1 hT), (fX_5_2 hT), (fX_5_4 hT), (fX_5_5 hT)⟩) (fr_st hF (by decide) (by decide)) dX4_advance_229 (fun C_199 H locs e_200 hT hF hP hD hS => ?_)
                            have t_201 := hT
                            refine lv_aload_n hx hb dX4_advance_232 rfl (lv_at hl 0 rfl) ?_
                            refine lv_aload_n hx hb dX4_advance_233 rfl (lv_at hl 0 rfl) ?_
                            refine va_get (D := D) (ci := 4) (v := .int (gi (K123 5) 4)) (C := RX4) (T := TX4) (N := 6) hx hb htg ig_4 hown hK hP 5 (oh_wg (by decide) (sX_5 hT)) rfl 4 (by decide) (htg _ q_223) (fun _ h9 => h9) (oh_fv (c := C_199 5) (j := 4) rfl (show gi (C_199 5) 4 = gi (K123 5) 4 by rw [e_200]; rfl)) dX4_advance_234 ?_
                            refine lv_iconst (v := 1) hx hb dX4_advance_237 (by decide) ?_
                            refine lv_iadd hx hb dX4_advance_238 ?_
                            refine th_put (Tp := TyX a E) (Rl := fr [(5, 6)] [] C) (ci := 4) (v := .int ((gi (K123 5) 4) + 1)) (ty := .int) (CC := RX4) (T := TX4) (N := 6) hx hb htg ig_4 tyX4 tyX4_ok nmX4 hown hK hP hD hS 5 (by decide) (sX_5 hT) rfl 5 (by decide) (htg _ q_224) (fun _ h9 => h9) rfl (by decide +kernel) rfl rfl (Nat.le_of_ble_eq_true rfl) (hT.up 5 ⟨rfl, (fX_5_1 hT), (fX_5_2 hT), (fX_5_4 hT), (rg_w (rg_add (lo := 1) (hi := 250) (rn_ltu (u' := 249) c_188 (fX_5_4 t_121) (rn_ltl (l' := 1) (Int32.not_le.mp c_122) (fX_5_5 t_121) (fX_5_1 t_121) (by decide)) (by decide)) (rg_c (v := 1) (lo := 1) (hi := 1) (by decide)) (by decide)) (by decide))⟩) (fr_st hF (by decide) (by decide)) dX4_advance_239 (fun C_202 H locs e_203 hT hF hP hD hS => ?_)
                            have t_204 := hT
                            have hM_205 : ¬ (upto pB (ga (C 32)) (gi (C 5) 1) (gi (C 5) 5)) < (upto pD (ga (C 32)) (gi (C 5) 1) (upto pB (ga (C 32)) (gi (C 5) 1) (gi (C 5) 5))) := by rw [← (Eq.trans (upto_stop (p := pD) (fun h8 => pD_hi c_186 h8.2)).symm hs_123.2.2.2), ← hs_123.2.1]; exact Int32.not_lt.mpr c_187
                            have tk_206 := (tk_sgn hs_123.2.2.1 hM_205 (fun h8 => absurd (oh_lee (by rw [← hs_123.2.1] at h8; exact h8) hs_123.1.symm) (Int32.not_le.mpr c_188)) (by rw [← hs_123.2.1]; exact c_190))
                            rw [hQ]
                            exact W.vret hx hb hr (fun t ht hW => ⟨⟨C_202, rfl, ⟨hT, hF, ⟨(Eq.trans (Eq.trans (show gi (C_202 5) 2 = gi (C_199 5) 2 by rw [e_203]; rfl) (show gi (C_199 5) 2 = gi (K123 5) 2 by rw [e_200]; rfl)) hv_123), (px_mk (Eq.trans (Eq.trans (show gi (C_202 5) 1 = gi (C_199 5) 1 by rw [e_203]; rfl) (show gi (C_199 5) 1 = gi (K123 5) 1 by rw [e_200]; rfl)) hs_123.1) (Eq.trans (Eq.trans (show gi (C_202 5) 2 = gi (C_199 5) 2 by rw [e_203]; rfl) (show gi (C_199 5) 2 = gi (K123 5) 2 by rw [e_200]; rfl)) hv_123) (Eq.trans (Eq.trans (show gi (C_202 5) 3 = gi (C_199 5) 3 by rw [e_203]; rfl) (show gi (C_199 5) 3 = (3 : Int32) by rw [e_200]; rfl)) tk_206.1) (Eq.trans (Eq.trans (show gi (C_202 5) 4 = gi (C_199 5) 4 by rw [e_203]; rfl) (show gi (C_199 5) 4 = gi (K123 5) 4 by rw [e_200]; rfl)) hs_123.2.1) (Eq.trans (Eq.trans (show gi (C_202 5) 5 = ((gi (K123 5) 4) + 1) by rw [e_203]; rfl) (congrArg (fun z => z + 1) hs_123.2.1)) tk_206.2))⟩⟩, ⟨by rw [ht]; exact hP, hD⟩⟩, hS.F ht⟩) hS.2.2 dX4_advance_242
                        · refine lv_aload_n hx hb dX4_advance_203 rfl (lv_at hl 0 rfl) ?_
                          refine lv_iconst (v := 0) hx hb dX4_advance_204 (by decide) ?_
                          refine th_put (Tp := TyX a E) (Rl := fr [(5, 6)] [] C) (ci := 4) (v := .int 0) (ty := .int) (CC := RX4) (T := TX4) (N := 6) hx hb htg ig_4 tyX4 tyX4_ok nmX4 hown hK hP hD hS 5 (by decide) (sX_5 hT) rfl 3 (by decide) (htg _ q_222) (fun _ h9 => h9) rfl (by decide +kernel) rfl rfl (Nat.le_of_ble_eq_true rfl) (hT.up 5 ⟨rfl, (fX_5_1 hT), (fX_5_2 hT), (fX_5_4 hT), (fX_5_5 hT)⟩) (fr_st hF (by decide) (by decide)) dX4_advance_205 (fun C_207 H locs e_208 hT hF hP hD hS => ?_)
                          have t_209 := hT
                          have hM_210 : ¬ (upto pB (ga (C 32)) (gi (C 5) 1) (gi (C 5) 5)) < (upto pD (ga (C 32)) (gi (C 5) 1) (upto pB (ga (C 32)) (gi (C 5) 1) (gi (C 5) 5))) := by rw [← (Eq.trans (upto_stop (p := pD) (fun h8 => pD_hi c_186 h8.2)).symm hs_123.2.2.2), ← hs_123.2.1]; exact Int32.not_lt.mpr c_187
                          have hZ_211 : gi (K123 5) 5 = (upto pB (ga (C 32)) (gi (C 5) 1) (gi (C 5) 5)) := Eq.trans (Eq.trans (upto_stop (p := pD) (fun h8 => pD_hi c_186 h8.2)).symm hs_123.2.2.2) (upto_nn (fX_5_1 hT0) (by rw [← hs_123.2.1]; exact (rg_w (lo := 0) (hi := 250) (rn_lel (Int32.not_lt.mp c_188) (rn_ltl (l' := 1) (Int32.not_le.mp c_122) (fX_5_5 t_121) (fX_5_1 t_121) (by decide)) (fX_5_4 t_121)) (by decide))) hM_210)
                          have tk_212 := (tk_end hs_123.2.2.1 hM_210 (by rw [← hs_123.2.1, ← hs_123.1]; exact (Int32.not_lt.mp c_188)))
                          rw [hQ]
                          exact W.vret hx hb hr (fun t ht hW => ⟨⟨C_207, rfl, ⟨hT, hF, ⟨(Eq.trans (show gi (C_207 5) 2 = gi (K123 5) 2 by rw [e_208]; rfl) hv_123), (px_mk (Eq.trans (show gi (C_207 5) 1 = gi (K123 5) 1 by rw [e_208]; rfl) hs_123.1) (Eq.trans (show gi (C_207 5) 2 = gi (K123 5) 2 by rw [e_208]; rfl) hv_123) (Eq.trans (show gi (C_207 5) 3 = (0 : Int32) by rw [e_208]; rfl) tk_212.1) (Eq.trans (show gi (C_207 5) 4 = gi (K123 5) 4 by rw [e_208]; rfl) hs_123.2.1) (Eq.trans (Eq.trans (show gi (C_207 5) 5 = gi (K123 5) 5 by rw [e_208]; rfl) hZ_211) tk_212.2))⟩⟩, ⟨by rw [ht]; exact hP, hD⟩⟩, hS.F ht⟩) hS.2.2 dX4_advance_208
                      · refine lv_aload_n hx hb dX4_advance_186 rfl (lv_at hl 0 rfl) ?_
                        refine lv_iconst (v := 2) hx hb dX4_advance_187 (by decide) ?_
                        refine th_put (Tp := TyX a E) (Rl := fr [(5, 6)] [] C) (ci := 4) (v := .int 2) (ty := .int) (CC := RX4) (T := TX4) (N := 6) hx hb htg ig_4 tyX4 tyX4_ok nmX4 hown hK hP hD hS 5 (by decide) (sX_5 hT) rfl 3 (by decide) (htg _ q_222) (fun _ h9 => h9) rfl (by decide +kernel) rfl rfl (Nat.le_of_ble_eq_true rfl) (hT.up 5 ⟨rfl, (fX_5_1 hT), (fX_5_2 hT), (fX_5_4 hT), (fX_5_5 hT)⟩) (fr_st hF (by decide) (by decide)) dX4_advance_188 (fun C_213 H locs e_214 hT hF hP hD hS => ?_)
                        have t_215 := hT
                        have tk_216 := (tk_num hs_123.2.2.1 (Eq.trans (upto_stop (p := pD) (fun h8 => pD_hi c_186 h8.2)).symm hs_123.2.2.2) (by rw [← hs_123.2.1]; exact (Int32.not_le.mp c_187)))
                        rw [hQ]
                        exact W.vret hx hb hr (fun t ht hW => ⟨⟨C_213, rfl, ⟨hT, hF, ⟨(Eq.trans (show gi (C_213 5) 2 = gi (K123 5) 2 by rw [e_214]; rfl) hv_123), (px_mk (Eq.trans (show gi (C_213 5) 1 = gi (K123 5) 1 by rw [e_214]; rfl) hs_123.1) (Eq.trans (show gi (C_213 5) 2 = gi (K123 5) 2 by rw [e_214]; rfl) hv_123) (Eq.trans (show gi (C_213 5) 3 = (2 : Int32) by rw [e_214]; rfl) tk_216.1) (Eq.trans (show gi (C_213 5) 4 = gi (K123 5) 4 by rw [e_214]; rfl) hs_123.2.1) (Eq.trans (show gi (C_213 5) 5 = gi (K123 5) 5 by rw [e_214]; rfl) tk_216.2))⟩⟩, ⟨by rw [ht]; exact hP, hD⟩⟩, hS.F ht⟩) hS.2.2 dX4_advance_191
                    · refine lv_aload_n hx hb dX4_advance_162 rfl (lv_at hl 0 rfl) ?_
                      refine lv_dup hx hb dX4_advance_163 rfl ?_
                      refine va_get (D := D) (ci := 4) (v := .int (gi (K123 5) 5)) (C := RX4) (T := TX4) (N := 6) hx hb htg ig_4 hown hK hP 5 (oh_wg (by decide) (sX_5 hT)) rfl 5 (by decide) (htg _ q_224) (fun _ h9 => h9) rfl dX4_advance_164 ?_
                      refine lv_iconst (v := 1) hx hb dX4_advance_167 (by decide) ?_
                      refine lv_iadd hx hb dX4_advance_168 ?_
                      refine th_put (Tp := TyX a E) (Rl := fr [(5, 6)] [] C) (ci := 4) (v := .int ((gi (K123 5) 5) + 1)) (ty := .int) (CC := RX4) (T := TX4) (N := 6) hx hb htg ig_4 tyX4 tyX4_ok nmX4 hown hK hP hD hS 5 (by decide) (sX_5 hT) rfl 5 (by decide) (htg _ q_224) (fun _ h9 => h9) rfl (by decide +kernel) rfl rfl (Nat.le_of_ble_eq_true rfl) (hT.up 5 ⟨rfl, (fX_5_1 hT), (fX_5_2 hT), (fX_5_4 hT), (rg_w (rg_add (lo := 1) (hi := 250) (rn_ltu (u' := 249) (Int32.not_le.mp c_122) (fX_5_5 t_121) (fX_5_1 t_121) (by decide)) (rg_c (v := 1) (lo := 1) (hi := 1) (by decide)) (by decide)) (by decide))⟩) (fr_st hF (by decide) (by decide)) dX4_advance_169 (fun C_217 H locs e_218 hT hF hP hD hS => ?_)
                      have t_219 := hT
                      refine lv_goto (tgt := 123) hx hb dX4_advance_172 (by decide) ?_
                      exact ih_123 _ (hd_123 ▸ (by rw [(show gi (C_217 5) 5 = ((gi (K123 5) 5) + 1) by rw [e_218]; rfl)]; exact mu_up 250 (rn_ltu (u' := 249) (Int32.not_le.mp c_122) (fX_5_5 t_121) (fX_5_1 t_121) (by decide)) (by decide))) C_217  _ _ ls rfl (Eq.trans (show gi (C_217 5) 2 = gi (K123 5) 2 by rw [e_218]; rfl) hv_123) ⟨Eq.trans (show gi (C_217 5) 1 = gi (K123 5) 1 by rw [e_218]; rfl) hs_123.1, Eq.trans (show gi (C_217 5) 4 = gi (K123 5) 4 by rw [e_218]; rfl) hs_123.2.1, hs_123.2.2.1, Eq.trans (congrArg (upto pD (ga (C 32)) (gi (C 5) 1)) (show gi (C_217 5) 5 = ((gi (K123 5) 5) + 1) by rw [e_218]; rfl)) (Eq.trans (upto_step (p := pD) (rg_w (lo := 0) (hi := 249) (rn_ltu (u' := 249) (Int32.not_le.mp c_122) (fX_5_5 t_121) (fX_5_1 t_121) (by decide)) (by decide)) (oh_lte (Int32.not_le.mp c_122) hs_123.1) ⟨(Int32.not_lt.mp c_154), (Int32.not_lt.mp c_186)⟩).symm hs_123.2.2.2)⟩ hT hF (fr_ste hLF_123 e_218 (by decide) (by decide)) hP hD hS (lv_sub hl [0] rfl)
              have hE_220 : gi (K54 5) 5 = (upto pL (ga (C 32)) (gi (C 5) 1) (upto pB (ga (C 32)) (gi (C 5) 1) (gi (C 5) 5))) := (Eq.trans (upto_stop (p := pL) (fun h8 => pL_lo c_119 h8.2)).symm hs_54.2.2)
              have hN_221 : ¬ (upto pB (ga (C 32)) (gi (C 5) 1) (gi (C 5) 5)) < (upto pL (ga (C 32)) (gi (C 5) 1) (upto pB (ga (C 32)) (gi (C 5) 1) (gi (C 5) 5))) := by rw [← hE_220, ← hs_54.2.1]; exact Int32.not_lt.mpr c_120
              have hZ_222 : gi (K54 5) 5 = (upto pB (ga (C 32)) (gi (C 5) 1) (gi (C 5) 5)) := Eq.trans hE_220 (upto_nn (fX_5_1 hT0) (by rw [← hs_54.2.1]; exact (rg_w (lo := 0) (hi := 250) (fX_5_4 t_9) (by decide))) hN_221)
              exact L_123 _ K54  _ _ ls rfl (Eq.trans rfl hv_54) ⟨hs_54.1, hs_54.2.1, hN_221, (congrArg (upto pD (ga (C 32)) (gi (C 5) 1)) hZ_222)⟩ hT hF fr_rf hP hD hS (lv_sub hl [0] rfl)
            · refine lv_aload_n hx hb dX4_advance_117 rfl (lv_at hl 0 rfl) ?_
              refine lv_iconst (v := 1) hx hb dX4_advance_118 (by decide) ?_
              refine th_put (Tp := TyX a E) (Rl := fr [(5, 6)] [] C) (ci := 4) (v := .int 1) (ty := .int) (CC := RX4) (T := TX4) (N := 6) hx hb htg ig_4 tyX4 tyX4_ok nmX4 hown hK hP hD hS 5 (by decide) (sX_5 hT) rfl 3 (by decide) (htg _ q_222) (fun _ h9 => h9) rfl (by decide +kernel) rfl rfl (Nat.le_of_ble_eq_true rfl) (hT.up 5 ⟨rfl, (fX_5_1 hT), (fX_5_2 hT), (fX_5_4 hT), (fX_5_5 hT)⟩) (fr_st hF (by decide) (by decide)) dX4_advance_119 (fun C_223 H locs e_224 hT hF hP hD hS => ?_)
              have t_225 := hT
              have tk_226 := (tk_word (Eq.trans (upto_stop (p := pL) (fun h8 => pL_lo c_119 h8.2)).symm hs_54.2.2) (by rw [← hs_54.2.1]; exact (Int32.not_le.mp c_120)))
              rw [hQ]
              exact W.vret hx hb hr (fun t ht hW => ⟨⟨C_223, rfl, ⟨hT, hF, ⟨(Eq.trans (show gi (C_223 5) 2 = gi (K54 5) 2 by rw [e_224]; rfl) hv_54), (px_mk (Eq.trans (show gi (C_223 5) 1 = gi (K54 5) 1 by rw [e_224]; rfl) hs_54.1) (Eq.trans (show gi (C_223 5) 2 = gi (K54 5) 2 by rw [e_224]; rfl) hv_54) (Eq.trans (show gi (C_223 5) 3 = (1 : Int32) by rw [e_224]; rfl) tk_226.1) (Eq.trans (show gi (C_223 5) 4 = gi (K54 5) 4 by rw [e_224]; rfl) hs_54.2.1) (Eq.trans (show gi (C_223 5) 5 = gi (K54 5) 5 by rw [e_224]; rfl) tk_226.2))⟩⟩, ⟨by rw [ht]; exact hP, hD⟩⟩, hS.F ht⟩) hS.2.2 dX4_advance_122
          · refine lv_aload_n hx hb dX4_advance_79 rfl (lv_at hl 0 rfl) ?_
            refine va_get (D := D) (ci := 4) (v := .ref (a 32)) (C := RX4) (T := TX4) (N := 6) hx hb htg ig_4 hown hK hP 5 (oh_wg (by decide) (sX_5 hT)) rfl 0 (by decide) (htg _ q_217) (fun _ h9 => h9) rfl dX4_advance_80 ?_
            refine lv_aload_n hx hb dX4_advance_83 rfl (lv_at hl 0 rfl) ?_
            refine va_get (D := D) (ci := 4) (v := .int (gi (K54 5) 5)) (C := RX4) (T := TX4) (N := 6) hx hb htg ig_4 hown hK hP 5 (oh_wg (by decide) (sX_5 hT)) rfl 5 (by decide) (htg _ q_224) (fun _ h9 => h9) rfl dX4_advance_84 ?_
            have n_227 : vp_in (gi (K54 5) 5) 250 := (rg_in (rn_ltu (u' := 249) (Int32.not_le.mp c_10) (fX_5_5 t_9) (fX_5_1 t_9) (by decide)) (by decide))
            refine th_iald hx hb hK hP 32 (by decide) (Eq.trans (Eq.trans (hLF_54.1 32 rfl (by decide)) (Eq.trans (th_un e_7 (by decide)) (Eq.trans (hLF_8.1 32 rfl (by decide)) (th_un e_2 (by decide))))) (sX_32 hT0)) n_227 dX4_advance_87 ?_
            refine lv_bipush (v := 122) hx hb dX4_advance_88 (by decide) ?_
            refine lv_icmp_gt (tgt := 106) hx hb dX4_advance_90 (by decide) (fun (c_228 : (122 : Int32) < (ga (C 32) (gi (K54 5) 5).toNatClampNeg)) => ?_) (fun (c_228 : ¬ ((122 : Int32) < (ga (C 32) (gi (K54 5) 5).toNatClampNeg))) => ?_)
            · refine lv_aload_n hx hb dX4_advance_106 rfl (lv_at hl 0 rfl) ?_
              refine va_get (D := D) (ci := 4) (v := .int (gi (K54 5) 5)) (C := RX4) (T := TX4) (N := 6) hx hb htg ig_4 hown hK hP 5 (oh_wg (by decide) (sX_5 hT)) rfl 5 (by decide) (htg _ q_224) (fun _ h9 => h9) rfl dX4_advance_107 ?_
              refine lv_aload_n hx hb dX4_advance_110 rfl (lv_at hl 0 rfl) ?_
              refine va_get (D := D) (ci := 4) (v := .int (gi (K54 5) 4)) (C := RX4) (T := TX4) (N := 6) hx hb htg ig_4 hown hK hP 5 (oh_wg (by decide) (sX_5 hT)) rfl 4 (by decide) (htg _ q_223) (fun _ h9 => h9) rfl dX4_advance_111 ?_
              refine lv_icmp_le (tgt := 123) hx hb dX4_advance_114 (by decide) (fun (c_229 : (gi (K54 5) 5) ≤ (gi (K54 5) 4)) => ?_) (fun (c_229 : ¬ ((gi (K54 5) 5) ≤ (gi (K54 5) 4))) => ?_)
              · have L_123 : ∀ (d : Nat) (K123 : Nat → va_E) (H : Heap) (locs : List Loc) (ls : Array Slot), (250 - (gi (K123 5) 5).toInt).toNat = d → (gi (K123 5) 2 = gi (C 5) 2) → (gi (K123 5) 1 = (gi (C 5) 1) ∧ gi (K123 5) 4 = (upto pB (ga (C 32)) (gi (C 5) 1) (gi (C 5) 5)) ∧ ¬ (upto pB (ga (C 32)) (gi (C 5) 1) (gi (C 5) 5)) < (upto pL (ga (C 32)) (gi (C 5) 1) (upto pB (ga (C 32)) (gi (C 5) 1) (gi (C 5) 5))) ∧ (upto pD (ga (C 32)) (gi (C 5) 1) (gi (K123 5) 5)) = (upto pD (ga (C 32)) (gi (C 5) 1) (upto pB (ga (C 32)) (gi (C 5) 1) (gi (C 5) 5)))) → TyX a E K123 → fr [(5, 6)] [] C K123 → fr [(5, 6)] [] K54 K123 → va_P D vwCl (oh_W 35 a K123) H → va_D A (oh_W 35 a K123) → va_S A s.heap H locs → lv_has ls 1 [(0, .ref (a 5))] → W p l e ({ frames := 0, cells := 0, slots := 0, locals := 0 }) s m (([.ref (a 5)] : List Value).toArray) below meth c H locs 0 0 Q (F0 m 123 ls []) := by
                  intro d
                  induction d using Nat.strongRecOn with
                  | ind d ih_123 =>
                  intro K123  H locs ls hd_123 hv_123 hs_123 hT hF hLF_123 hP hD hS hl
                  have t_230 := hT
                  refine lv_aload_n hx hb dX4_advance_123 rfl (lv_at hl 0 rfl) ?_
                  refine va_get (D := D) (ci := 4) (v := .int (gi (K123 5) 5)) (C := RX4) (T := TX4) (N := 6) hx hb htg ig_4 hown hK hP 5 (oh_wg (by decide) (sX_5 hT)) rfl 5 (by decide) (htg _ q_224) (fun _ h9 => h9) rfl dX4_advance_124 ?_
                  refine lv_aload_n hx hb dX4_advance_127 rfl (lv_at hl 0 rfl) ?_
                  refine va_get (D := D) (ci := 4) (v := .int (gi (K123 5) 1)) (C := RX4) (T := TX4) (N := 6) hx hb htg ig_4 hown hK hP 5 (oh_wg (by decide) (sX_5 hT)) rfl 1 (by decide) (htg _ q_218) (fun _ h9 => h9) rfl dX4_advance_128 ?_
                  refine lv_icmp_ge (tgt := 175) hx hb dX4_advance_131 (by decide) (fun (c_231 : (gi (K123 5) 1) ≤ (gi (K123 5) 5)) => ?_) (fun (c_231 : ¬ ((gi (K123 5) 1) ≤ (gi (K123 5) 5))) => ?_)
                  · refine lv_aload_n hx hb dX4_advance_175 rfl (lv_at hl 0 rfl) ?_
                    refine va_get (D := D) (ci := 4) (v := .int (gi (K123 5) 5)) (C := RX4) (T := TX4) (N := 6) hx hb htg ig_4 hown hK hP 5 (oh_wg (by decide) (sX_5 hT)) rfl 5 (by decide) (htg _ q_224) (fun _ h9 => h9) rfl dX4_advance_176 ?_
                    refine lv_aload_n hx hb dX4_advance_179 rfl (lv_at hl 0 rfl) ?_
                    refine va_get (D := D) (ci := 4) (v := .int (gi (K123 5) 4)) (C := RX4) (T := TX4) (N := 6) hx hb htg ig_4 hown hK hP 5 (oh_wg (by decide) (sX_5 hT)) rfl 4 (by decide) (htg _ q_223) (fun _ h9 => h9) rfl dX4_advance_180 ?_
                    refine lv_icmp_le (tgt := 192) hx hb dX4_advance_183 (by decide) (fun (c_232 : (gi (K123 5) 5) ≤ (gi (K123 5) 4)) => ?_) (fun (c_232 : ¬ ((gi (K123 5) 5) ≤ (gi (K123 5) 4))) => ?_)
                    · refine lv_aload_n hx hb dX4_advance_192 rfl (lv_at hl 0 rfl) ?_
                      refine va_get (D := D) (ci := 4) (v := .int (gi (K123 5) 4)) (C := RX4) (T := TX4) (N := 6) hx hb htg ig_4 hown hK hP 5 (oh_wg (by decide) (sX_5 hT)) rfl 4 (by decide) (htg _ q_223) (fun _ h9 => h9) rfl dX4_advance_193 ?_
                      refine lv_aload_n hx hb dX4_advance_196 rfl (lv_at hl 0 rfl) ?_
                      refine va_get (D := D) (ci := 4) (v := .int (gi (K123 5) 1)) (C := RX4) (T := TX4) (N := 6) hx hb htg ig_4 hown hK hP 5 (oh_wg (by decide) (sX_5 hT)) rfl 1 (by decide) (htg _ q_218) (fun _ h9 => h9) rfl dX4_advance_197 ?_
                      refine lv_icmp_lt (tgt := 209) hx hb dX4_advance_200 (by decide) (fun (c_233 : (gi (K123 5) 4) < (gi (K123 5) 1)) => ?_) (fun (c_233 : ¬ ((gi (K123 5) 4) < (gi (K123 5) 1))) => ?_)
                      · refine lv_aload_n hx hb dX4_advance_209 rfl (lv_at hl 0 rfl) ?_
                        refine lv_aload_n hx hb dX4_advance_210 rfl (lv_at hl 0 rfl) ?_
                        refine va_get (D := D) (ci := 4) (v := .ref (a 32)) (C := RX4) (T := TX4) (N := 6) hx hb htg ig_4 hown hK hP 5 (oh_wg (by decide) (sX_5 hT)) rfl 0 (by decide) (htg _ q_217) (fun _ h9 => h9) rfl dX4_advance_211 ?_
                        refine lv_aload_n hx hb dX4_advance_214 rfl (lv_at hl 0 rfl) ?_
                        refine va_get (D := D) (ci := 4) (v := .int (gi (K123 5) 4)) (C := RX4) (T := TX4) (N := 6) hx hb htg ig_4 hown hK hP 5 (oh_wg (by decide) (sX_5 hT)) rfl 4 (by decide) (htg _ q_223) (fun _ h9 => h9) rfl dX4_advance_215 ?_
                        have n_234 : vp_in (gi (K123 5) 4) 250 := (rg_in (rn_ltu (u' := 249) c_233 (rn_lel c_232 (rn_lel c_231 (rn_ltl (l' := 1) c_233 (fX_5_4 t_230) (fX_5_1 t_230) (by decide)) (fX_5_5 t_230)) (fX_5_4 t_230)) (fX_5_1 t_230) (by decide)) (by decide))
                        refine th_iald hx hb hK hP 32 (by decide) (Eq.trans (Eq.trans (hLF_123.1 32 rfl (by decide)) (Eq.trans (hLF_54.1 32 rfl (by decide)) (Eq.trans (th_un e_7 (by decide)) (Eq.trans (hLF_8.1 32 rfl (by decide)) (th_un e_2 (by decide)))))) (sX_32 hT0)) n_234 dX4_advance_218 ?_
                        refine lv_bipush (v := 59) hx hb dX4_advance_219 (by decide) ?_
                        refine lv_icmp_ne (tgt := 228) hx hb dX4_advance_221 (by decide) (fun (c_235 : ¬ ((ga (C 32) (gi (K123 5) 4).toNatClampNeg) = 59)) => ?_) (fun (c_235 : (ga (C 32) (gi (K123 5) 4).toNatClampNeg) = 59) => ?_)
                        · refine lv_iconst (v := 4) hx hb dX4_advance_228 (by decide) ?_
                          refine th_put (Tp := TyX a E) (Rl := fr [(5, 6)] [] C) (ci := 4) (v := .int 4) (ty := .int) (CC := RX4) (T := TX4) (N := 6) hx hb htg ig_4 tyX4 tyX4_ok nmX4 hown hK hP hD hS 5 (by decide) (sX_5 hT) rfl 3 (by decide) (htg _ q_222) (fun _ h9 => h9) rfl (by decide +kernel) rfl rfl (Nat.le_of_ble_eq_true rfl) (hT.up 5 ⟨rfl, (fX_5_1 hT), (fX_5_2 hT), (fX_5_4 hT), (fX_5_5 hT)⟩) (fr_st hF (by decide) (by decide)) dX4_advance_229 (fun C_236 H locs e_237 hT hF hP hD hS => ?_)
                          have t_238 := hT
                          refine lv_aload_n hx hb dX4_advance_232 rfl (lv_at hl 0 rfl) ?_
                          refine lv_aload_n hx hb dX4_advance_233 rfl (lv_at hl 0 rfl) ?_
                          refine va_get (D := D) (ci := 4) (v := .int (gi (K123 5) 4)) (C := RX4) (T := TX4) (N := 6) hx hb htg ig_4 hown hK hP 5 (oh_wg (by decide) (sX_5 hT)) rfl 4 (by decide) (htg _ q_223) (fun _ h9 => h9) (oh_fv (c := C_236 5) (j := 4) rfl (show gi (C_236 5) 4 = gi (K123 5) 4 by rw [e_237]; rfl)) dX4_advance_234 ?_
                          refine lv_iconst (v := 1) hx hb dX4_advance_237 (by decide) ?_
                          refine lv_iadd hx hb dX4_advance_238 ?_
                          refine th_put (Tp := TyX a E) (Rl := fr [(5, 6)] [] C) (ci := 4) (v := .int ((gi (K123 5) 4) + 1)) (ty := .int) (CC := RX4) (T := TX4) (N := 6) hx hb htg ig_4 tyX4 tyX4_ok nmX4 hown hK hP hD hS 5 (by decide) (sX_5 hT) rfl 5 (by decide) (htg _ q_224) (fun _ h9 => h9) rfl (by decide +kernel) rfl rfl (Nat.le_of_ble_eq_true rfl) (hT.up 5 ⟨rfl, (fX_5_1 hT), (fX_5_2 hT), (fX_5_4 hT), (rg_w (rg_add (lo := 2) (hi := 250) (rn_ltu (u' := 249) c_233 (rn_lel c_232 (rn_lel c_231 (rn_ltl (l' := 1) c_233 (fX_5_4 t_230) (fX_5_1 t_230) (by decide)) (fX_5_5 t_230)) (fX_5_4 t_230)) (fX_5_1 t_230) (by decide)) (rg_c (v := 1) (lo := 1) (hi := 1) (by decide)) (by decide)) (by decide))⟩) (fr_st hF (by decide) (by decide)) dX4_advance_239 (fun C_239 H locs e_240 hT hF hP hD hS => ?_)
                          have t_241 := hT
                          have hM_242 : ¬ (upto pB (ga (C 32)) (gi (C 5) 1) (gi (C 5) 5)) < (upto pD (ga (C 32)) (gi (C 5) 1) (upto pB (ga (C 32)) (gi (C 5) 1) (gi (C 5) 5))) := by rw [← (Eq.trans (upto_stop (p := pD) (fun h8 => absurd (oh_lte h8.1 hs_123.1.symm) (Int32.not_lt.mpr c_231))).symm hs_123.2.2.2), ← hs_123.2.1]; exact Int32.not_lt.mpr c_232
                          have tk_243 := (tk_wrg hs_123.2.2.1 hM_242 (fun h8 => absurd (oh_lee (by rw [← hs_123.2.1] at h8; exact h8) hs_123.1.symm) (Int32.not_le.mpr c_233)) (by rw [← hs_123.2.1]; exact c_235))
                          rw [hQ]
                          exact W.vret hx hb hr (fun t ht hW => ⟨⟨C_239, rfl, ⟨hT, hF, ⟨(Eq.trans (Eq.trans (show gi (C_239 5) 2 = gi (C_236 5) 2 by rw [e_240]; rfl) (show gi (C_236 5) 2 = gi (K123 5) 2 by rw [e_237]; rfl)) hv_123), (px_mk (Eq.trans (Eq.trans (show gi (C_239 5) 1 = gi (C_236 5) 1 by rw [e_240]; rfl) (show gi (C_236 5) 1 = gi (K123 5) 1 by rw [e_237]; rfl)) hs_123.1) (Eq.trans (Eq.trans (show gi (C_239 5) 2 = gi (C_236 5) 2 by rw [e_240]; rfl) (show gi (C_236 5) 2 = gi (K123 5) 2 by rw [e_237]; rfl)) hv_123) (Eq.trans (Eq.trans (show gi (C_239 5) 3 = gi (C_236 5) 3 by rw [e_240]; rfl) (show gi (C_236 5) 3 = (4 : Int32) by rw [e_237]; rfl)) tk_243.1) (Eq.trans (Eq.trans (show gi (C_239 5) 4 = gi (C_236 5) 4 by rw [e_240]; rfl) (show gi (C_236 5) 4 = gi (K123 5) 4 by rw [e_237]; rfl)) hs_123.2.1) (Eq.trans (Eq.trans (show gi (C_239 5) 5 = ((gi (K123 5) 4) + 1) by rw [e_240]; rfl) (congrArg (fun z => z + 1) hs_123.2.1)) tk_243.2))⟩⟩, ⟨by rw [ht]; exact hP, hD⟩⟩, hS.F ht⟩) hS.2.2 dX4_advance_242
                        · refine lv_iconst (v := 3) hx hb dX4_advance_224 (by decide) ?_
                          refine lv_goto (tgt := 229) hx hb dX4_advance_225 (by decide) ?_
                          refine th_put (Tp := TyX a E) (Rl := fr [(5, 6)] [] C) (ci := 4) (v := .int 3) (ty := .int) (CC := RX4) (T := TX4) (N := 6) hx hb htg ig_4 tyX4 tyX4_ok nmX4 hown hK hP hD hS 5 (by decide) (sX_5 hT) rfl 3 (by decide) (htg _ q_222) (fun _ h9 => h9) rfl (by decide +kernel) rfl rfl (Nat.le_of_ble_eq_true rfl) (hT.up 5 ⟨rfl, (fX_5_1 hT), (fX_5_2 hT), (fX_5_4 hT), (fX_5_5 hT)⟩) (fr_st hF (by decide) (by decide)) dX4_advance_229 (fun C_244 H locs e_245 hT hF hP hD hS => ?_)
                          have t_246 := hT
                          refine lv_aload_n hx hb dX4_advance_232 rfl (lv_at hl 0 rfl) ?_
                          refine lv_aload_n hx hb dX4_advance_233 rfl (lv_at hl 0 rfl) ?_
                          refine va_get (D := D) (ci := 4) (v := .int (gi (K123 5) 4)) (C := RX4) (T := TX4) (N := 6) hx hb htg ig_4 hown hK hP 5 (oh_wg (by decide) (sX_5 hT)) rfl 4 (by decide) (htg _ q_223) (fun _ h9 => h9) (oh_fv (c := C_244 5) (j := 4) rfl (show gi (C_244 5) 4 = gi (K123 5) 4 by rw [e_245]; rfl)) dX4_advance_234 ?_
                          refine lv_iconst (v := 1) hx hb dX4_advance_237 (by decide) ?_
                          refine lv_iadd hx hb dX4_advance_238 ?_
                          refine th_put (Tp := TyX a E) (Rl := fr [(5, 6)] [] C) (ci := 4) (v := .int ((gi (K123 5) 4) + 1)) (ty := .int) (CC := RX4) (T := TX4) (N := 6) hx hb htg ig_4 tyX4 tyX4_ok nmX4 hown hK hP hD hS 5 (by decide) (sX_5 hT) rfl 5 (by decide) (htg _ q_224) (fun _ h9 => h9) rfl (by decide +kernel) rfl rfl (Nat.le_of_ble_eq_true rfl) (hT.up 5 ⟨rfl, (fX_5_1 hT), (fX_5_2 hT), (fX_5_4 hT), (rg_w (rg_add (lo := 2) (hi := 250) (rn_ltu (u' := 249) c_233 (rn_lel c_232 (rn_lel c_231 (rn_ltl (l' := 1) c_233 (fX_5_4 t_230) (fX_5_1 t_230) (by decide)) (fX_5_5 t_230)) (fX_5_4 t_230)) (fX_5_1 t_230) (by decide)) (rg_c (v := 1) (lo := 1) (hi := 1) (by decide)) (by decide)) (by decide))⟩) (fr_st hF (by decide) (by decide)) dX4_advance_239 (fun C_247 H locs e_248 hT hF hP hD hS => ?_)
                          have t_249 := hT
                          have hM_250 : ¬ (upto pB (ga (C 32)) (gi (C 5) 1) (gi (C 5) 5)) < (upto pD (ga (C 32)) (gi (C 5) 1) (upto pB (ga (C 32)) (gi (C 5) 1) (gi (C 5) 5))) := by rw [← (Eq.trans (upto_stop (p := pD) (fun h8 => absurd (oh_lte h8.1 hs_123.1.symm) (Int32.not_lt.mpr c_231))).symm hs_123.2.2.2), ← hs_123.2.1]; exact Int32.not_lt.mpr c_232
                          have tk_251 := (tk_sgn hs_123.2.2.1 hM_250 (fun h8 => absurd (oh_lee (by rw [← hs_123.2.1] at h8; exact h8) hs_123.1.symm) (Int32.not_le.mpr c_233)) (by rw [← hs_123.2.1]; exact c_235))
                          rw [hQ]
                          exact W.vret hx hb hr (fun t ht hW => ⟨⟨C_247, rfl, ⟨hT, hF, ⟨(Eq.trans (Eq.trans (show gi (C_247 5) 2 = gi (C_244 5) 2 by rw [e_248]; rfl) (show gi (C_244 5) 2 = gi (K123 5) 2 by rw [e_245]; rfl)) hv_123), (px_mk (Eq.trans (Eq.trans (show gi (C_247 5) 1 = gi (C_244 5) 1 by rw [e_248]; rfl) (show gi (C_244 5) 1 = gi (K123 5) 1 by rw [e_245]; rfl)) hs_123.1) (Eq.trans (Eq.trans (show gi (C_247 5) 2 = gi (C_244 5) 2 by rw [e_248]; rfl) (show gi (C_244 5) 2 = gi (K123 5) 2 by rw [e_245]; rfl)) hv_123) (Eq.trans (Eq.trans (show gi (C_247 5) 3 = gi (C_244 5) 3 by rw [e_248]; rfl) (show gi (C_244 5) 3 = (3 : Int32) by rw [e_245]; rfl)) tk_251.1) (Eq.trans (Eq.trans (show gi (C_247 5) 4 = gi (C_244 5) 4 by rw [e_248]; rfl) (show gi (C_244 5) 4 = gi (K123 5) 4 by rw [e_245]; rfl)) hs_123.2.1) (Eq.trans (Eq.trans (show gi (C_247 5) 5 = ((gi (K123 5) 4) + 1) by rw [e_248]; rfl) (congrArg (fun z => z + 1) hs_123.2.1)) tk_251.2))⟩⟩, ⟨by rw [ht]; exact hP, hD⟩⟩, hS.F ht⟩) hS.2.2 dX4_advance_242
                      · refine lv_aload_n hx hb dX4_advance_203 rfl (lv_at hl 0 rfl) ?_
                        refine lv_iconst (v := 0) hx hb dX4_advance_204 (by decide) ?_
                        refine th_put (Tp := TyX a E) (Rl := fr [(5, 6)] [] C) (ci := 4) (v := .int 0) (ty := .int) (CC := RX4) (T := TX4) (N := 6) hx hb htg ig_4 tyX4 tyX4_ok nmX4 hown hK hP hD hS 5 (by decide) (sX_5 hT) rfl 3 (by decide) (htg _ q_222) (fun _ h9 => h9) rfl (by decide +kernel) rfl rfl (Nat.le_of_ble_eq_true rfl) (hT.up 5 ⟨rfl, (fX_5_1 hT), (fX_5_2 hT), (fX_5_4 hT), (fX_5_5 hT)⟩) (fr_st hF (by decide) (by decide)) dX4_advance_205 (fun C_252 H locs e_253 hT hF hP hD hS => ?_)
                        have t_254 := hT
                        have hM_255 : ¬ (upto pB (ga (C 32)) (gi (C 5) 1) (gi (C 5) 5)) < (upto pD (ga (C 32)) (gi (C 5) 1) (upto pB (ga (C 32)) (gi (C 5) 1) (gi (C 5) 5))) := by rw [← (Eq.trans (upto_stop (p := pD) (fun h8 => absurd (oh_lte h8.1 hs_123.1.symm) (Int32.not_lt.mpr c_231))).symm hs_123.2.2.2), ← hs_123.2.1]; exact Int32.not_lt.mpr c_232
                        have hZ_256 : gi (K123 5) 5 = (upto pB (ga (C 32)) (gi (C 5) 1) (gi (C 5) 5)) := Eq.trans (Eq.trans (upto_stop (p := pD) (fun h8 => absurd (oh_lte h8.1 hs_123.1.symm) (Int32.not_lt.mpr c_231))).symm hs_123.2.2.2) (upto_nn (fX_5_1 hT0) (by rw [← hs_123.2.1]; exact (rg_w (lo := 0) (hi := 250) (fX_5_4 t_230) (by decide))) hM_255)
                        have tk_257 := (tk_end hs_123.2.2.1 hM_255 (by rw [← hs_123.2.1, ← hs_123.1]; exact (Int32.not_lt.mp c_233)))
                        rw [hQ]
                        exact W.vret hx hb hr (fun t ht hW => ⟨⟨C_252, rfl, ⟨hT, hF, ⟨(Eq.trans (show gi (C_252 5) 2 = gi (K123 5) 2 by rw [e_253]; rfl) hv_123), (px_mk (Eq.trans (show gi (C_252 5) 1 = gi (K123 5) 1 by rw [e_253]; rfl) hs_123.1) (Eq.trans (show gi (C_252 5) 2 = gi (K123 5) 2 by rw [e_253]; rfl) hv_123) (Eq.trans (show gi (C_252 5) 3 = (0 : Int32) by rw [e_253]; rfl) tk_257.1) (Eq.trans (show gi (C_252 5) 4 = gi (K123 5) 4 by rw [e_253]; rfl) hs_123.2.1) (Eq.trans (Eq.trans (show gi (C_252 5) 5 = gi (K123 5) 5 by rw [e_253]; rfl) hZ_256) tk_257.2))⟩⟩, ⟨by rw [ht]; exact hP, hD⟩⟩, hS.F ht⟩) hS.2.2 dX4_advance_208
                    · refine lv_aload_n hx hb dX4_advance_186 rfl (lv_at hl 0 rfl) ?_
                      refine lv_iconst (v := 2) hx hb dX4_advance_187 (by decide) ?_
                      refine th_put (Tp := TyX a E) (Rl := fr [(5, 6)] [] C) (ci := 4) (v := .int 2) (ty := .int) (CC := RX4) (T := TX4) (N := 6) hx hb htg ig_4 tyX4 tyX4_ok nmX4 hown hK hP hD hS 5 (by decide) (sX_5 hT) rfl 3 (by decide) (htg _ q_222) (fun _ h9 => h9) rfl (by decide +kernel) rfl rfl (Nat.le_of_ble_eq_true rfl) (hT.up 5 ⟨rfl, (fX_5_1 hT), (fX_5_2 hT), (fX_5_4 hT), (fX_5_5 hT)⟩) (fr_st hF (by decide) (by decide)) dX4_advance_188 (fun C_258 H locs e_259 hT hF hP hD hS => ?_)
                      have t_260 := hT
                      have tk_261 := (tk_num hs_123.2.2.1 (Eq.trans (upto_stop (p := pD) (fun h8 => absurd (oh_lte h8.1 hs_123.1.symm) (Int32.not_lt.mpr c_231))).symm hs_123.2.2.2) (by rw [← hs_123.2.1]; exact (Int32.not_le.mp c_232)))
                      rw [hQ]
                      exact W.vret hx hb hr (fun t ht hW => ⟨⟨C_258, rfl, ⟨hT, hF, ⟨(Eq.trans (show gi (C_258 5) 2 = gi (K123 5) 2 by rw [e_259]; rfl) hv_123), (px_mk (Eq.trans (show gi (C_258 5) 1 = gi (K123 5) 1 by rw [e_259]; rfl) hs_123.1) (Eq.trans (show gi (C_258 5) 2 = gi (K123 5) 2 by rw [e_259]; rfl) hv_123) (Eq.trans (show gi (C_258 5) 3 = (2 : Int32) by rw [e_259]; rfl) tk_261.1) (Eq.trans (show gi (C_258 5) 4 = gi (K123 5) 4 by rw [e_259]; rfl) hs_123.2.1) (Eq.trans (show gi (C_258 5) 5 = gi (K123 5) 5 by rw [e_259]; rfl) tk_261.2))⟩⟩, ⟨by rw [ht]; exact hP, hD⟩⟩, hS.F ht⟩) hS.2.2 dX4_advance_191
                  · refine lv_aload_n hx hb dX4_advance_134 rfl (lv_at hl 0 rfl) ?_
                    refine va_get (D := D) (ci := 4) (v := .ref (a 32)) (C := RX4) (T := TX4) (N := 6) hx hb htg ig_4 hown hK hP 5 (oh_wg (by decide) (sX_5 hT)) rfl 0 (by decide) (htg _ q_217) (fun _ h9 => h9) rfl dX4_advance_135 ?_
                    refine lv_aload_n hx hb dX4_advance_138 rfl (lv_at hl 0 rfl) ?_
                    refine va_get (D := D) (ci := 4) (v := .int (gi (K123 5) 5)) (C := RX4) (T := TX4) (N := 6) hx hb htg ig_4 hown hK hP 5 (oh_wg (by decide) (sX_5 hT)) rfl 5 (by decide) (htg _ q_224) (fun _ h9 => h9) rfl dX4_advance_139 ?_
                    have n_262 : vp_in (gi (K123 5) 5) 250 := (rg_in (rn_ltu (u' := 249) (Int32.not_le.mp c_231) (fX_5_5 t_230) (fX_5_1 t_230) (by decide)) (by decide))
                    refine th_iald hx hb hK hP 32 (by decide) (Eq.trans (Eq.trans (hLF_123.1 32 rfl (by decide)) (Eq.trans (hLF_54.1 32 rfl (by decide)) (Eq.trans (th_un e_7 (by decide)) (Eq.trans (hLF_8.1 32 rfl (by decide)) (th_un e_2 (by decide)))))) (sX_32 hT0)) n_262 dX4_advance_142 ?_
                    refine lv_bipush (v := 48) hx hb dX4_advance_143 (by decide) ?_
                    refine lv_icmp_lt (tgt := 175) hx hb dX4_advance_145 (by decide) (fun (c_263 : (ga (C 32) (gi (K123 5) 5).toNatClampNeg) < 48) => ?_) (fun (c_263 : ¬ ((ga (C 32) (gi (K123 5) 5).toNatClampNeg) < 48)) => ?_)
                    · refine lv_aload_n hx hb dX4_advance_175 rfl (lv_at hl 0 rfl) ?_
                      refine va_get (D := D) (ci := 4) (v := .int (gi (K123 5) 5)) (C := RX4) (T := TX4) (N := 6) hx hb htg ig_4 hown hK hP 5 (oh_wg (by decide) (sX_5 hT)) rfl 5 (by decide) (htg _ q_224) (fun _ h9 => h9) rfl dX4_advance_176 ?_
                      refine lv_aload_n hx hb dX4_advance_179 rfl (lv_at hl 0 rfl) ?_
                      refine va_get (D := D) (ci := 4) (v := .int (gi (K123 5) 4)) (C := RX4) (T := TX4) (N := 6) hx hb htg ig_4 hown hK hP 5 (oh_wg (by decide) (sX_5 hT)) rfl 4 (by decide) (htg _ q_223) (fun _ h9 => h9) rfl dX4_advance_180 ?_
                      refine lv_icmp_le (tgt := 192) hx hb dX4_advance_183 (by decide) (fun (c_264 : (gi (K123 5) 5) ≤ (gi (K123 5) 4)) => ?_) (fun (c_264 : ¬ ((gi (K123 5) 5) ≤ (gi (K123 5) 4))) => ?_)
                      · refine lv_aload_n hx hb dX4_advance_192 rfl (lv_at hl 0 rfl) ?_
                        refine va_get (D := D) (ci := 4) (v := .int (gi (K123 5) 4)) (C := RX4) (T := TX4) (N := 6) hx hb htg ig_4 hown hK hP 5 (oh_wg (by decide) (sX_5 hT)) rfl 4 (by decide) (htg _ q_223) (fun _ h9 => h9) rfl dX4_advance_193 ?_
                        refine lv_aload_n hx hb dX4_advance_196 rfl (lv_at hl 0 rfl) ?_
                        refine va_get (D := D) (ci := 4) (v := .int (gi (K123 5) 1)) (C := RX4) (T := TX4) (N := 6) hx hb htg ig_4 hown hK hP 5 (oh_wg (by decide) (sX_5 hT)) rfl 1 (by decide) (htg _ q_218) (fun _ h9 => h9) rfl dX4_advance_197 ?_
                        refine lv_icmp_lt (tgt := 209) hx hb dX4_advance_200 (by decide) (fun (c_265 : (gi (K123 5) 4) < (gi (K123 5) 1)) => ?_) (fun (c_265 : ¬ ((gi (K123 5) 4) < (gi (K123 5) 1))) => ?_)
                        · refine lv_aload_n hx hb dX4_advance_209 rfl (lv_at hl 0 rfl) ?_
                          refine lv_aload_n hx hb dX4_advance_210 rfl (lv_at hl 0 rfl) ?_
                          refine va_get (D := D) (ci := 4) (v := .ref (a 32)) (C := RX4) (T := TX4) (N := 6) hx hb htg ig_4 hown hK hP 5 (oh_wg (by decide) (sX_5 hT)) rfl 0 (by decide) (htg _ q_217) (fun _ h9 => h9) rfl dX4_advance_211 ?_
                          refine lv_aload_n hx hb dX4_advance_214 rfl (lv_at hl 0 rfl) ?_
                          refine va_get (D := D) (ci := 4) (v := .int (gi (K123 5) 4)) (C := RX4) (T := TX4) (N := 6) hx hb htg ig_4 hown hK hP 5 (oh_wg (by decide) (sX_5 hT)) rfl 4 (by decide) (htg _ q_223) (fun _ h9 => h9) rfl dX4_advance_215 ?_
                          have n_266 : vp_in (gi (K123 5) 4) 250 := (rg_in (rn_ltu (u' := 249) c_265 (fX_5_4 t_230) (rn_ltl (l' := 1) (Int32.not_le.mp c_231) (fX_5_5 t_230) (fX_5_1 t_230) (by decide)) (by decide)) (by decide))
                          refine th_iald hx hb hK hP 32 (by decide) (Eq.trans (Eq.trans (hLF_123.1 32 rfl (by decide)) (Eq.trans (hLF_54.1 32 rfl (by decide)) (Eq.trans (th_un e_7 (by decide)) (Eq.trans (hLF_8.1 32 rfl (by decide)) (th_un e_2 (by decide)))))) (sX_32 hT0)) n_266 dX4_advance_218 ?_
                          refine lv_bipush (v := 59) hx hb dX4_advance_219 (by decide) ?_
                          refine lv_icmp_ne (tgt := 228) hx hb dX4_advance_221 (by decide) (fun (c_267 : ¬ ((ga (C 32) (gi (K123 5) 4).toNatClampNeg) = 59)) => ?_) (fun (c_267 : (ga (C 32) (gi (K123 5) 4).toNatClampNeg) = 59) => ?_)
                          · refine lv_iconst (v := 4) hx hb dX4_advance_228 (by decide) ?_
                            refine th_put (Tp := TyX a E) (Rl := fr [(5, 6)] [] C) (ci := 4) (v := .int 4) (ty := .int) (CC := RX4) (T := TX4) (N := 6) hx hb htg ig_4 tyX4 tyX4_ok nmX4 hown hK hP hD hS 5 (by decide) (sX_5 hT) rfl 3 (by decide) (htg _ q_222) (fun _ h9 => h9) rfl (by decide +kernel) rfl rfl (Nat.le_of_ble_eq_true rfl) (hT.up 5 ⟨rfl, (fX_5_1 hT), (fX_5_2 hT), (fX_5_4 hT), (fX_5_5 hT)⟩) (fr_st hF (by decide) (by decide)) dX4_advance_229 (fun C_268 H locs e_269 hT hF hP hD hS => ?_)
                            have t_270 := hT
                            refine lv_aload_n hx hb dX4_advance_232 rfl (lv_at hl 0 rfl) ?_
                            refine lv_aload_n hx hb dX4_advance_233 rfl (lv_at hl 0 rfl) ?_
                            refine va_get (D := D) (ci := 4) (v := .int (gi (K123 5) 4)) (C := RX4) (T := TX4) (N := 6) hx hb htg ig_4 hown hK hP 5 (oh_wg (by decide) (sX_5 hT)) rfl 4 (by decide) (htg _ q_223) (fun _ h9 => h9) (oh_fv (c := C_268 5) (j := 4) rfl (show gi (C_268 5) 4 = gi (K123 5) 4 by rw [e_269]; rfl)) dX4_advance_234 ?_
                            refine lv_iconst (v := 1) hx hb dX4_advance_237 (by decide) ?_
                            refine lv_iadd hx hb dX4_advance_238 ?_
                            refine th_put (Tp := TyX a E) (Rl := fr [(5, 6)] [] C) (ci := 4) (v := .int ((gi (K123 5) 4) + 1)) (ty := .int) (CC := RX4) (T := TX4) (N := 6) hx hb htg ig_4 tyX4 tyX4_ok nmX4 hown hK hP hD hS 5 (by decide) (sX_5 hT) rfl 5 (by decide) (htg _ q_224) (fun _ h9 => h9) rfl (by decide +kernel) rfl rfl (Nat.le_of_ble_eq_true rfl) (hT.up 5 ⟨rfl, (fX_5_1 hT), (fX_5_2 hT), (fX_5_4 hT), (rg_w (rg_add (lo := 1) (hi := 250) (rn_ltu (u' := 249) c_265 (fX_5_4 t_230) (rn_ltl (l' := 1) (Int32.not_le.mp c_231) (fX_5_5 t_230) (fX_5_1 t_230) (by decide)) (by decide)) (rg_c (v := 1) (lo := 1) (hi := 1) (by decide)) (by decide)) (by decide))⟩) (fr_st hF (by decide) (by decide)) dX4_advance_239 (fun C_271 H locs e_272 hT hF hP hD hS => ?_)
                            have t_273 := hT
                            have hM_274 : ¬ (upto pB (ga (C 32)) (gi (C 5) 1) (gi (C 5) 5)) < (upto pD (ga (C 32)) (gi (C 5) 1) (upto pB (ga (C 32)) (gi (C 5) 1) (gi (C 5) 5))) := by rw [← (Eq.trans (upto_stop (p := pD) (fun h8 => pD_lo c_263 h8.2)).symm hs_123.2.2.2), ← hs_123.2.1]; exact Int32.not_lt.mpr c_264
                            have tk_275 := (tk_wrg hs_123.2.2.1 hM_274 (fun h8 => absurd (oh_lee (by rw [← hs_123.2.1] at h8; exact h8) hs_123.1.symm) (Int32.not_le.mpr c_265)) (by rw [← hs_123.2.1]; exact c_267))
                            rw [hQ]
                            exact W.vret hx hb hr (fun t ht hW => ⟨⟨C_271, rfl, ⟨hT, hF, ⟨(Eq.trans (Eq.trans (show gi (C_271 5) 2 = gi (C_268 5) 2 by rw [e_272]; rfl) (show gi (C_268 5) 2 = gi (K123 5) 2 by rw [e_269]; rfl)) hv_123), (px_mk (Eq.trans (Eq.trans (show gi (C_271 5) 1 = gi (C_268 5) 1 by rw [e_272]; rfl) (show gi (C_268 5) 1 = gi (K123 5) 1 by rw [e_269]; rfl)) hs_123.1) (Eq.trans (Eq.trans (show gi (C_271 5) 2 = gi (C_268 5) 2 by rw [e_272]; rfl) (show gi (C_268 5) 2 = gi (K123 5) 2 by rw [e_269]; rfl)) hv_123) (Eq.trans (Eq.trans (show gi (C_271 5) 3 = gi (C_268 5) 3 by rw [e_272]; rfl) (show gi (C_268 5) 3 = (4 : Int32) by rw [e_269]; rfl)) tk_275.1) (Eq.trans (Eq.trans (show gi (C_271 5) 4 = gi (C_268 5) 4 by rw [e_272]; rfl) (show gi (C_268 5) 4 = gi (K123 5) 4 by rw [e_269]; rfl)) hs_123.2.1) (Eq.trans (Eq.trans (show gi (C_271 5) 5 = ((gi (K123 5) 4) + 1) by rw [e_272]; rfl) (congrArg (fun z => z + 1) hs_123.2.1)) tk_275.2))⟩⟩, ⟨by rw [ht]; exact hP, hD⟩⟩, hS.F ht⟩) hS.2.2 dX4_advance_242
                          · refine lv_iconst (v := 3) hx hb dX4_advance_224 (by decide) ?_
                            refine lv_goto (tgt := 229) hx hb dX4_advance_225 (by decide) ?_
                            refine th_put (Tp := TyX a E) (Rl := fr [(5, 6)] [] C) (ci := 4) (v := .int 3) (ty := .int) (CC := RX4) (T := TX4) (N := 6) hx hb htg ig_4 tyX4 tyX4_ok nmX4 hown hK hP hD hS 5 (by decide) (sX_5 hT) rfl 3 (by decide) (htg _ q_222) (fun _ h9 => h9) rfl (by decide +kernel) rfl rfl (Nat.le_of_ble_eq_true rfl) (hT.up 5 ⟨rfl, (fX_5_1 hT), (fX_5_2 hT), (fX_5_4 hT), (fX_5_5 hT)⟩) (fr_st hF (by decide) (by decide)) dX4_advance_229 (fun C_276 H locs e_277 hT hF hP hD hS => ?_)
                            have t_278 := hT
                            refine lv_aload_n hx hb dX4_advance_232 rfl (lv_at hl 0 rfl) ?_
                            refine lv_aload_n hx hb dX4_advance_233 rfl (lv_at hl 0 rfl) ?_
                            refine va_get (D := D) (ci := 4) (v := .int (gi (K123 5) 4)) (C := RX4) (T := TX4) (N := 6) hx hb htg ig_4 hown hK hP 5 (oh_wg (by decide) (sX_5 hT)) rfl 4 (by decide) (htg _ q_223) (fun _ h9 => h9) (oh_fv (c := C_276 5) (j := 4) rfl (show gi (C_276 5) 4 = gi (K123 5) 4 by rw [e_277]; rfl)) dX4_advance_234 ?_
                            refine lv_iconst (v := 1) hx hb dX4_advance_237 (by decide) ?_
                            refine lv_iadd hx hb dX4_advance_238 ?_
                            refine th_put (Tp := TyX a E) (Rl := fr [(5, 6)] [] C) (ci := 4) (v := .int ((gi (K123 5) 4) + 1)) (ty := .int) (CC := RX4) (T := TX4) (N := 6) hx hb htg ig_4 tyX4 tyX4_ok nmX4 hown hK hP hD hS 5 (by decide) (sX_5 hT) rfl 5 (by decide) (htg _ q_224) (fun _ h9 => h9) rfl (by decide +kernel) rfl rfl (Nat.le_of_ble_eq_true rfl) (hT.up 5 ⟨rfl, (fX_5_1 hT), (fX_5_2 hT), (fX_5_4 hT), (rg_w (rg_add (lo := 1) (hi := 250) (rn_ltu (u' := 249) c_265 (fX_5_4 t_230) (rn_ltl (l' := 1) (Int32.not_le.mp c_231) (fX_5_5 t_230) (fX_5_1 t_230) (by decide)) (by decide)) (rg_c (v := 1) (lo := 1) (hi := 1) (by decide)) (by decide)) (by decide))⟩) (fr_st hF (by decide) (by decide)) dX4_advance_239 (fun C_279 H locs e_280 hT hF hP hD hS => ?_)
                            have t_281 := hT
                            have hM_282 : ¬ (upto pB (ga (C 32)) (gi (C 5) 1) (gi (C 5) 5)) < (upto pD (ga (C 32)) (gi (C 5) 1) (upto pB (ga (C 32)) (gi (C 5) 1) (gi (C 5) 5))) := by rw [← (Eq.trans (upto_stop (p := pD) (fun h8 => pD_lo c_263 h8.2)).symm hs_123.2.2.2), ← hs_123.2.1]; exact Int32.not_lt.mpr c_264
                            have tk_283 := (tk_sgn hs_123.2.2.1 hM_282 (fun h8 => absurd (oh_lee (by rw [← hs_123.2.1] at h8; exact h8) hs_123.1.symm) (Int32.not_le.mpr c_265)) (by rw [← hs_123.2.1]; exact c_267))
                            rw [hQ]
                            exact W.vret hx hb hr (fun t ht hW => ⟨⟨C_279, rfl, ⟨hT, hF, ⟨(Eq.trans (Eq.trans (show gi (C_279 5) 2 = gi (C_276 5) 2 by rw [e_280]; rfl) (show gi (C_276 5) 2 = gi (K123 5) 2 by rw [e_277]; rfl)) hv_123), (px_mk (Eq.trans (Eq.trans (show gi (C_279 5) 1 = gi (C_276 5) 1 by rw [e_280]; rfl) (show gi (C_276 5) 1 = gi (K123 5) 1 by rw [e_277]; rfl)) hs_123.1) (Eq.trans (Eq.trans (show gi (C_279 5) 2 = gi (C_276 5) 2 by rw [e_280]; rfl) (show gi (C_276 5) 2 = gi (K123 5) 2 by rw [e_277]; rfl)) hv_123) (Eq.trans (Eq.trans (show gi (C_279 5) 3 = gi (C_276 5) 3 by rw [e_280]; rfl) (show gi (C_276 5) 3 = (3 : Int32) by rw [e_277]; rfl)) tk_283.1) (Eq.trans (Eq.trans (show gi (C_279 5) 4 = gi (C_276 5) 4 by rw [e_280]; rfl) (show gi (C_276 5) 4 = gi (K123 5) 4 by rw [e_277]; rfl)) hs_123.2.1) (Eq.trans (Eq.trans (show gi (C_279 5) 5 = ((gi (K123 5) 4) + 1) by rw [e_280]; rfl) (congrArg (fun z => z + 1) hs_123.2.1)) tk_283.2))⟩⟩, ⟨by rw [ht]; exact hP, hD⟩⟩, hS.F ht⟩) hS.2.2 dX4_advance_242
                        · refine lv_aload_n hx hb dX4_advance_203 rfl (lv_at hl 0 rfl) ?_
                          refine lv_iconst (v := 0) hx hb dX4_advance_204 (by decide) ?_
                          refine th_put (Tp := TyX a E) (Rl := fr [(5, 6)] [] C) (ci := 4) (v := .int 0) (ty := .int) (CC := RX4) (T := TX4) (N := 6) hx hb htg ig_4 tyX4 tyX4_ok nmX4 hown hK hP hD hS 5 (by decide) (sX_5 hT) rfl 3 (by decide) (htg _ q_222) (fun _ h9 => h9) rfl (by decide +kernel) rfl rfl (Nat.le_of_ble_eq_true rfl) (hT.up 5 ⟨rfl, (fX_5_1 hT), (fX_5_2 hT), (fX_5_4 hT), (fX_5_5 hT)⟩) (fr_st hF (by decide) (by decide)) dX4_advance_205 (fun C_284 H locs e_285 hT hF hP hD hS => ?_)
                          have t_286 := hT
                          have hM_287 : ¬ (upto pB (ga (C 32)) (gi (C 5) 1) (gi (C 5) 5)) < (upto pD (ga (C 32)) (gi (C 5) 1) (upto pB (ga (C 32)) (gi (C 5) 1) (gi (C 5) 5))) := by rw [← (Eq.trans (upto_stop (p := pD) (fun h8 => pD_lo c_263 h8.2)).symm hs_123.2.2.2), ← hs_123.2.1]; exact Int32.not_lt.mpr c_264
                          have hZ_288 : gi (K123 5) 5 = (upto pB (ga (C 32)) (gi (C 5) 1) (gi (C 5) 5)) := Eq.trans (Eq.trans (upto_stop (p := pD) (fun h8 => pD_lo c_263 h8.2)).symm hs_123.2.2.2) (upto_nn (fX_5_1 hT0) (by rw [← hs_123.2.1]; exact (rg_w (lo := 0) (hi := 250) (rn_lel (Int32.not_lt.mp c_265) (rn_ltl (l' := 1) (Int32.not_le.mp c_231) (fX_5_5 t_230) (fX_5_1 t_230) (by decide)) (fX_5_4 t_230)) (by decide))) hM_287)
                          have tk_289 := (tk_end hs_123.2.2.1 hM_287 (by rw [← hs_123.2.1, ← hs_123.1]; exact (Int32.not_lt.mp c_265)))
                          rw [hQ]
                          exact W.vret hx hb hr (fun t ht hW => ⟨⟨C_284, rfl, ⟨hT, hF, ⟨(Eq.trans (show gi (C_284 5) 2 = gi (K123 5) 2 by rw [e_285]; rfl) hv_123), (px_mk (Eq.trans (show gi (C_284 5) 1 = gi (K123 5) 1 by rw [e_285]; rfl) hs_123.1) (Eq.trans (show gi (C_284 5) 2 = gi (K123 5) 2 by rw [e_285]; rfl) hv_123) (Eq.trans (show gi (C_284 5) 3 = (0 : Int32) by rw [e_285]; rfl) tk_289.1) (Eq.trans (show gi (C_284 5) 4 = gi (K123 5) 4 by rw [e_285]; rfl) hs_123.2.1) (Eq.trans (Eq.trans (show gi (C_284 5) 5 = gi (K123 5) 5 by rw [e_285]; rfl) hZ_288) tk_289.2))⟩⟩, ⟨by rw [ht]; exact hP, hD⟩⟩, hS.F ht⟩) hS.2.2 dX4_advance_208
                      · refine lv_aload_n hx hb dX4_advance_186 rfl (lv_at hl 0 rfl) ?_
                        refine lv_iconst (v := 2) hx hb dX4_advance_187 (by decide) ?_
                        refine th_put (Tp := TyX a E) (Rl := fr [(5, 6)] [] C) (ci := 4) (v := .int 2) (ty := .int) (CC := RX4) (T := TX4) (N := 6) hx hb htg ig_4 tyX4 tyX4_ok nmX4 hown hK hP hD hS 5 (by decide) (sX_5 hT) rfl 3 (by decide) (htg _ q_222) (fun _ h9 => h9) rfl (by decide +kernel) rfl rfl (Nat.le_of_ble_eq_true rfl) (hT.up 5 ⟨rfl, (fX_5_1 hT), (fX_5_2 hT), (fX_5_4 hT), (fX_5_5 hT)⟩) (fr_st hF (by decide) (by decide)) dX4_advance_188 (fun C_290 H locs e_291 hT hF hP hD hS => ?_)
                        have t_292 := hT
                        have tk_293 := (tk_num hs_123.2.2.1 (Eq.trans (upto_stop (p := pD) (fun h8 => pD_lo c_263 h8.2)).symm hs_123.2.2.2) (by rw [← hs_123.2.1]; exact (Int32.not_le.mp c_264)))
                        rw [hQ]
                        exact W.vret hx hb hr (fun t ht hW => ⟨⟨C_290, rfl, ⟨hT, hF, ⟨(Eq.trans (show gi (C_290 5) 2 = gi (K123 5) 2 by rw [e_291]; rfl) hv_123), (px_mk (Eq.trans (show gi (C_290 5) 1 = gi (K123 5) 1 by rw [e_291]; rfl) hs_123.1) (Eq.trans (show gi (C_290 5) 2 = gi (K123 5) 2 by rw [e_291]; rfl) hv_123) (Eq.trans (show gi (C_290 5) 3 = (2 : Int32) by rw [e_291]; rfl) tk_293.1) (Eq.trans (show gi (C_290 5) 4 = gi (K123 5) 4 by rw [e_291]; rfl) hs_123.2.1) (Eq.trans (show gi (C_290 5) 5 = gi (K123 5) 5 by rw [e_291]; rfl) tk_293.2))⟩⟩, ⟨by rw [ht]; exact hP, hD⟩⟩, hS.F ht⟩) hS.2.2 dX4_advance_191
                    · refine lv_aload_n hx hb dX4_advance_148 rfl (lv_at hl 0 rfl) ?_
                      refine va_get (D := D) (ci := 4) (v := .ref (a 32)) (C := RX4) (T := TX4) (N := 6) hx hb htg ig_4 hown hK hP 5 (oh_wg (by decide) (sX_5 hT)) rfl 0 (by decide) (htg _ q_217) (fun _ h9 => h9) rfl dX4_advance_149 ?_
                      refine lv_aload_n hx hb dX4_advance_152 rfl (lv_at hl 0 rfl) ?_
                      refine va_get (D := D) (ci := 4) (v := .int (gi (K123 5) 5)) (C := RX4) (T := TX4) (N := 6) hx hb htg ig_4 hown hK hP 5 (oh_wg (by decide) (sX_5 hT)) rfl 5 (by decide) (htg _ q_224) (fun _ h9 => h9) rfl dX4_advance_153 ?_
                      have n_294 : vp_in (gi (K123 5) 5) 250 := (rg_in (rn_ltu (u' := 249) (Int32.not_le.mp c_231) (fX_5_5 t_230) (fX_5_1 t_230) (by decide)) (by decide))
                      refine th_iald hx hb hK hP 32 (by decide) (Eq.trans (Eq.trans (hLF_123.1 32 rfl (by decide)) (Eq.trans (hLF_54.1 32 rfl (by decide)) (Eq.trans (th_un e_7 (by decide)) (Eq.trans (hLF_8.1 32 rfl (by decide)) (th_un e_2 (by decide)))))) (sX_32 hT0)) n_294 dX4_advance_156 ?_
                      refine lv_bipush (v := 57) hx hb dX4_advance_157 (by decide) ?_
                      refine lv_icmp_gt (tgt := 175) hx hb dX4_advance_159 (by decide) (fun (c_295 : (57 : Int32) < (ga (C 32) (gi (K123 5) 5).toNatClampNeg)) => ?_) (fun (c_295 : ¬ ((57 : Int32) < (ga (C 32) (gi (K123 5) 5).toNatClampNeg))) => ?_)
                      · refine lv_aload_n hx hb dX4_advance_175 rfl (lv_at hl 0 rfl) ?_
                        refine va_get (D := D) (ci := 4) (v := .int (gi (K123 5) 5)) (C := RX4) (T := TX4) (N := 6) hx hb htg ig_4 hown hK hP 5 (oh_wg (by decide) (sX_5 hT)) rfl 5 (by decide) (htg _ q_224) (fun _ h9 => h9) rfl dX4_advance_176 ?_
                        refine lv_aload_n hx hb dX4_advance_179 rfl (lv_at hl 0 rfl) ?_
                        refine va_get (D := D) (ci := 4) (v := .int (gi (K123 5) 4)) (C := RX4) (T := TX4) (N := 6) hx hb htg ig_4 hown hK hP 5 (oh_wg (by decide) (sX_5 hT)) rfl 4 (by decide) (htg _ q_223) (fun _ h9 => h9) rfl dX4_advance_180 ?_
                        refine lv_icmp_le (tgt := 192) hx hb dX4_advance_183 (by decide) (fun (c_296 : (gi (K123 5) 5) ≤ (gi (K123 5) 4)) => ?_) (fun (c_296 : ¬ ((gi (K123 5) 5) ≤ (gi (K123 5) 4))) => ?_)
                        · refine lv_aload_n hx hb dX4_advance_192 rfl (lv_at hl 0 rfl) ?_
                          refine va_get (D := D) (ci := 4) (v := .int (gi (K123 5) 4)) (C := RX4) (T := TX4) (N := 6) hx hb htg ig_4 hown hK hP 5 (oh_wg (by decide) (sX_5 hT)) rfl 4 (by decide) (htg _ q_223) (fun _ h9 => h9) rfl dX4_advance_193 ?_
                          refine lv_aload_n hx hb dX4_advance_196 rfl (lv_at hl 0 rfl) ?_
                          refine va_get (D := D) (ci := 4) (v := .int (gi (K123 5) 1)) (C := RX4) (T := TX4) (N := 6) hx hb htg ig_4 hown hK hP 5 (oh_wg (by decide) (sX_5 hT)) rfl 1 (by decide) (htg _ q_218) (fun _ h9 => h9) rfl dX4_advance_197 ?_
                          refine lv_icmp_lt (tgt := 209) hx hb dX4_advance_200 (by decide) (fun (c_297 : (gi (K123 5) 4) < (gi (K123 5) 1)) => ?_) (fun (c_297 : ¬ ((gi (K123 5) 4) < (gi (K123 5) 1))) => ?_)
                          · refine lv_aload_n hx hb dX4_advance_209 rfl (lv_at hl 0 rfl) ?_
                            refine lv_aload_n hx hb dX4_advance_210 rfl (lv_at hl 0 rfl) ?_
                            refine va_get (D := D) (ci := 4) (v := .ref (a 32)) (C := RX4) (T := TX4) (N := 6) hx hb htg ig_4 hown hK hP 5 (oh_wg (by decide) (sX_5 hT)) rfl 0 (by decide) (htg _ q_217) (fun _ h9 => h9) rfl dX4_advance_211 ?_
                            refine lv_aload_n hx hb dX4_advance_214 rfl (lv_at hl 0 rfl) ?_
                            refine va_get (D := D) (ci := 4) (v := .int (gi (K123 5) 4)) (C := RX4) (T := TX4) (N := 6) hx hb htg ig_4 hown hK hP 5 (oh_wg (by decide) (sX_5 hT)) rfl 4 (by decide) (htg _ q_223) (fun _ h9 => h9) rfl dX4_advance_215 ?_
                            have n_298 : vp_in (gi (K123 5) 4) 250 := (rg_in (rn_ltu (u' := 249) c_297 (fX_5_4 t_230) (rn_ltl (l' := 1) (Int32.not_le.mp c_231) (fX_5_5 t_230) (fX_5_1 t_230) (by decide)) (by decide)) (by decide))
                            refine th_iald hx hb hK hP 32 (by decide) (Eq.trans (Eq.trans (hLF_123.1 32 rfl (by decide)) (Eq.trans (hLF_54.1 32 rfl (by decide)) (Eq.trans (th_un e_7 (by decide)) (Eq.trans (hLF_8.1 32 rfl (by decide)) (th_un e_2 (by decide)))))) (sX_32 hT0)) n_298 dX4_advance_218 ?_
                            refine lv_bipush (v := 59) hx hb dX4_advance_219 (by decide) ?_
                            refine lv_icmp_ne (tgt := 228) hx hb dX4_advance_221 (by decide) (fun (c_299 : ¬ ((ga (C 32) (gi (K123 5) 4).toNatClampNeg) = 59)) => ?_) (fun (c_299 : (ga (C 32) (gi (K123 5) 4).toNatClampNeg) = 59) => ?_)
                            · refine lv_iconst (v := 4) hx hb dX4_advance_228 (by decide) ?_
                              refine th_put (Tp := TyX a E) (Rl := fr [(5, 6)] [] C) (ci := 4) (v := .int 4) (ty := .int) (CC := RX4) (T := TX4) (N := 6) hx hb htg ig_4 tyX4 tyX4_ok nmX4 hown hK hP hD hS 5 (by decide) (sX_5 hT) rfl 3 (by decide) (htg _ q_222) (fun _ h9 => h9) rfl (by decide +kernel) rfl rfl (Nat.le_of_ble_eq_true rfl) (hT.up 5 ⟨rfl, (fX_5_1 hT), (fX_5_2 hT), (fX_5_4 hT), (fX_5_5 hT)⟩) (fr_st hF (by decide) (by decide)) dX4_advance_229 (fun C_300 H locs e_301 hT hF hP hD hS => ?_)
                              have t_302 := hT
                              refine lv_aload_n hx hb dX4_advance_232 rfl (lv_at hl 0 rfl) ?_
                              refine lv_aload_n hx hb dX4_advance_233 rfl (lv_at hl 0 rfl) ?_
                              refine va_get (D := D) (ci := 4) (v := .int (gi (K123 5) 4)) (C := RX4) (T := TX4) (N := 6) hx hb htg ig_4 hown hK hP 5 (oh_wg (by decide) (sX_5 hT)) rfl 4 (by decide) (htg _ q_223) (fun _ h9 => h9) (oh_fv (c := C_300 5) (j := 4) rfl (show gi (C_300 5) 4 = gi (K123 5) 4 by rw [e_301]; rfl)) dX4_advance_234 ?_
                              refine lv_iconst (v := 1) hx hb dX4_advance_237 (by decide) ?_
                              refine lv_iadd hx hb dX4_advance_238 ?_
                              refine th_put (Tp := TyX a E) (Rl := fr [(5, 6)] [] C) (ci := 4) (v := .int ((gi (K123 5) 4) + 1)) (ty := .int) (CC := RX4) (T := TX4) (N := 6) hx hb htg ig_4 tyX4 tyX4_ok nmX4 hown hK hP hD hS 5 (by decide) (sX_5 hT) rfl 5 (by decide) (htg _ q_224) (fun _ h9 => h9) rfl (by decide +kernel) rfl rfl (Nat.le_of_ble_eq_true rfl) (hT.up 5 ⟨rfl, (fX_5_1 hT), (fX_5_2 hT), (fX_5_4 hT), (rg_w (rg_add (lo := 1) (hi := 250) (rn_ltu (u' := 249) c_297 (fX_5_4 t_230) (rn_ltl (l' := 1) (Int32.not_le.mp c_231) (fX_5_5 t_230) (fX_5_1 t_230) (by decide)) (by decide)) (rg_c (v := 1) (lo := 1) (hi := 1) (by decide)) (by decide)) (by decide))⟩) (fr_st hF (by decide) (by decide)) dX4_advance_239 (fun C_303 H locs e_304 hT hF hP hD hS => ?_)
                              have t_305 := hT
                              have hM_306 : ¬ (upto pB (ga (C 32)) (gi (C 5) 1) (gi (C 5) 5)) < (upto pD (ga (C 32)) (gi (C 5) 1) (upto pB (ga (C 32)) (gi (C 5) 1) (gi (C 5) 5))) := by rw [← (Eq.trans (upto_stop (p := pD) (fun h8 => pD_hi c_295 h8.2)).symm hs_123.2.2.2), ← hs_123.2.1]; exact Int32.not_lt.mpr c_296
                              have tk_307 := (tk_wrg hs_123.2.2.1 hM_306 (fun h8 => absurd (oh_lee (by rw [← hs_123.2.1] at h8; exact h8) hs_123.1.symm) (Int32.not_le.mpr c_297)) (by rw [← hs_123.2.1]; exact c_299))
                              rw [hQ]
                              exact W.vret hx hb hr (fun t ht hW => ⟨⟨C_303, rfl, ⟨hT, hF, ⟨(Eq.trans (Eq.trans (show gi (C_303 5) 2 = gi (C_300 5) 2 by rw [e_304]; rfl) (show gi (C_300 5) 2 = gi (K123 5) 2 by rw [e_301]; rfl)) hv_123), (px_mk (Eq.trans (Eq.trans (show gi (C_303 5) 1 = gi (C_300 5) 1 by rw [e_304]; rfl) (show gi (C_300 5) 1 = gi (K123 5) 1 by rw [e_301]; rfl)) hs_123.1) (Eq.trans (Eq.trans (show gi (C_303 5) 2 = gi (C_300 5) 2 by rw [e_304]; rfl) (show gi (C_300 5) 2 = gi (K123 5) 2 by rw [e_301]; rfl)) hv_123) (Eq.trans (Eq.trans (show gi (C_303 5) 3 = gi (C_300 5) 3 by rw [e_304]; rfl) (show gi (C_300 5) 3 = (4 : Int32) by rw [e_301]; rfl)) tk_307.1) (Eq.trans (Eq.trans (show gi (C_303 5) 4 = gi (C_300 5) 4 by rw [e_304]; rfl) (show gi (C_300 5) 4 = gi (K123 5) 4 by rw [e_301]; rfl)) hs_123.2.1) (Eq.trans (Eq.trans (show gi (C_303 5) 5 = ((gi (K123 5) 4) + 1) by rw [e_304]; rfl) (congrArg (fun z => z + 1) hs_123.2.1)) tk_307.2))⟩⟩, ⟨by rw [ht]; exact hP, hD⟩⟩, hS.F ht⟩) hS.2.2 dX4_advance_242
                            · refine lv_iconst (v := 3) hx hb dX4_advance_224 (by decide) ?_
                              refine lv_goto (tgt := 229) hx hb dX4_advance_225 (by decide) ?_
                              refine th_put (Tp := TyX a E) (Rl := fr [(5, 6)] [] C) (ci := 4) (v := .int 3) (ty := .int) (CC := RX4) (T := TX4) (N := 6) hx hb htg ig_4 tyX4 tyX4_ok nmX4 hown hK hP hD hS 5 (by decide) (sX_5 hT) rfl 3 (by decide) (htg _ q_222) (fun _ h9 => h9) rfl (by decide +kernel) rfl rfl (Nat.le_of_ble_eq_true rfl) (hT.up 5 ⟨rfl, (fX_5_1 hT), (fX_5_2 hT), (fX_5_4 hT), (fX_5_5 hT)⟩) (fr_st hF (by decide) (by decide)) dX4_advance_229 (fun C_308 H locs e_309 hT hF hP hD hS => ?_)
                              have t_310 := hT
                              refine lv_aload_n hx hb dX4_advance_232 rfl (lv_at hl 0 rfl) ?_
                              refine lv_aload_n hx hb dX4_advance_233 rfl (lv_at hl 0 rfl) ?_
                              refine va_get (D := D) (ci := 4) (v := .int (gi (K123 5) 4)) (C := RX4) (T := TX4) (N := 6) hx hb htg ig_4 hown hK hP 5 (oh_wg (by decide) (sX_5 hT)) rfl 4 (by decide) (htg _ q_223) (fun _ h9 => h9) (oh_fv (c := C_308 5) (j := 4) rfl (show gi (C_308 5) 4 = gi (K123 5) 4 by rw [e_309]; rfl)) dX4_advance_234 ?_
                              refine lv_iconst (v := 1) hx hb dX4_advance_237 (by decide) ?_
                              refine lv_iadd hx hb dX4_advance_238 ?_
                              refine th_put (Tp := TyX a E) (Rl := fr [(5, 6)] [] C) (ci := 4) (v := .int ((gi (K123 5) 4) + 1)) (ty := .int) (CC := RX4) (T := TX4) (N := 6) hx hb htg ig_4 tyX4 tyX4_ok nmX4 hown hK hP hD hS 5 (by decide) (sX_5 hT) rfl 5 (by decide) (htg _ q_224) (fun _ h9 => h9) rfl (by decide +kernel) rfl rfl (Nat.le_of_ble_eq_true rfl) (hT.up 5 ⟨rfl, (fX_5_1 hT), (fX_5_2 hT), (fX_5_4 hT), (rg_w (rg_add (lo := 1) (hi := 250) (rn_ltu (u' := 249) c_297 (fX_5_4 t_230) (rn_ltl (l' := 1) (Int32.not_le.mp c_231) (fX_5_5 t_230) (fX_5_1 t_230) (by decide)) (by decide)) (rg_c (v := 1) (lo := 1) (hi := 1) (by decide)) (by decide)) (by decide))⟩) (fr_st hF (by decide) (by decide)) dX4_advance_239 (fun C_311 H locs e_312 hT hF hP hD hS => ?_)
                              have t_313 := hT
                              have hM_314 : ¬ (upto pB (ga (C 32)) (gi (C 5) 1) (gi (C 5) 5)) < (upto pD (ga (C 32)) (gi (C 5) 1) (upto pB (ga (C 32)) (gi (C 5) 1) (gi (C 5) 5))) := by rw [← (Eq.trans (upto_stop (p := pD) (fun h8 => pD_hi c_295 h8.2)).symm hs_123.2.2.2), ← hs_123.2.1]; exact Int32.not_lt.mpr c_296
                              have tk_315 := (tk_sgn hs_123.2.2.1 hM_314 (fun h8 => absurd (oh_lee (by rw [← hs_123.2.1] at h8; exact h8) hs_123.1.symm) (Int32.not_le.mpr c_297)) (by rw [← hs_123.2.1]; exact c_299))
                              rw [hQ]
                              exact W.vret hx hb hr (fun t ht hW => ⟨⟨C_311, rfl, ⟨hT, hF, ⟨(Eq.trans (Eq.trans (show gi (C_311 5) 2 = gi (C_308 5) 2 by rw [e_312]; rfl) (show gi (C_308 5) 2 = gi (K123 5) 2 by rw [e_309]; rfl)) hv_123), (px_mk (Eq.trans (Eq.trans (show gi (C_311 5) 1 = gi (C_308 5) 1 by rw [e_312]; rfl) (show gi (C_308 5) 1 = gi (K123 5) 1 by rw [e_309]; rfl)) hs_123.1) (Eq.trans (Eq.trans (show gi (C_311 5) 2 = gi (C_308 5) 2 by rw [e_312]; rfl) (show gi (C_308 5) 2 = gi (K123 5) 2 by rw [e_309]; rfl)) hv_123) (Eq.trans (Eq.trans (show gi (C_311 5) 3 = gi (C_308 5) 3 by rw [e_312]; rfl) (show gi (C_308 5) 3 = (3 : Int32) by rw [e_309]; rfl)) tk_315.1) (Eq.trans (Eq.trans (show gi (C_311 5) 4 = gi (C_308 5) 4 by rw [e_312]; rfl) (show gi (C_308 5) 4 = gi (K123 5) 4 by rw [e_309]; rfl)) hs_123.2.1) (Eq.trans (Eq.trans (show gi (C_311 5) 5 = ((gi (K123 5) 4) + 1) by rw [e_312]; rfl) (congrArg (fun z => z + 1) hs_123.2.1)) tk_315.2))⟩⟩, ⟨by rw [ht]; exact hP, hD⟩⟩, hS.F ht⟩) hS.2.2 dX4_advance_242
                          · refine lv_aload_n hx hb dX4_advance_203 rfl (lv_at hl 0 rfl) ?_
                            refine lv_iconst (v := 0) hx hb dX4_advance_204 (by decide) ?_
                            refine th_put (Tp := TyX a E) (Rl := fr [(5, 6)] [] C) (ci := 4) (v := .int 0) (ty := .int) (CC := RX4) (T := TX4) (N := 6) hx hb htg ig_4 tyX4 tyX4_ok nmX4 hown hK hP hD hS 5 (by decide) (sX_5 hT) rfl 3 (by decide) (htg _ q_222) (fun _ h9 => h9) rfl (by decide +kernel) rfl rfl (Nat.le_of_ble_eq_true rfl) (hT.up 5 ⟨rfl, (fX_5_1 hT), (fX_5_2 hT), (fX_5_4 hT), (fX_5_5 hT)⟩) (fr_st hF (by decide) (by decide)) dX4_advance_205 (fun C_316 H locs e_317 hT hF hP hD hS => ?_)
                            have t_318 := hT
                            have hM_319 : ¬ (upto pB (ga (C 32)) (gi (C 5) 1) (gi (C 5) 5)) < (upto pD (ga (C 32)) (gi (C 5) 1) (upto pB (ga (C 32)) (gi (C 5) 1) (gi (C 5) 5))) := by rw [← (Eq.trans (upto_stop (p := pD) (fun h8 => pD_hi c_295 h8.2)).symm hs_123.2.2.2), ← hs_123.2.1]; exact Int32.not_lt.mpr c_296
                            have hZ_320 : gi (K123 5) 5 = (upto pB (ga (C 32)) (gi (C 5) 1) (gi (C 5) 5)) := Eq.trans (Eq.trans (upto_stop (p := pD) (fun h8 => pD_hi c_295 h8.2)).symm hs_123.2.2.2) (upto_nn (fX_5_1 hT0) (by rw [← hs_123.2.1]; exact (rg_w (lo := 0) (hi := 250) (rn_lel (Int32.not_lt.mp c_297) (rn_ltl (l' := 1) (Int32.not_le.mp c_231) (fX_5_5 t_230) (fX_5_1 t_230) (by decide)) (fX_5_4 t_230)) (by decide))) hM_319)
                            have tk_321 := (tk_end hs_123.2.2.1 hM_319 (by rw [← hs_123.2.1, ← hs_123.1]; exact (Int32.not_lt.mp c_297)))
                            rw [hQ]
                            exact W.vret hx hb hr (fun t ht hW => ⟨⟨C_316, rfl, ⟨hT, hF, ⟨(Eq.trans (show gi (C_316 5) 2 = gi (K123 5) 2 by rw [e_317]; rfl) hv_123), (px_mk (Eq.trans (show gi (C_316 5) 1 = gi (K123 5) 1 by rw [e_317]; rfl) hs_123.1) (Eq.trans (show gi (C_316 5) 2 = gi (K123 5) 2 by rw [e_317]; rfl) hv_123) (Eq.trans (show gi (C_316 5) 3 = (0 : Int32) by rw [e_317]; rfl) tk_321.1) (Eq.trans (show gi (C_316 5) 4 = gi (K123 5) 4 by rw [e_317]; rfl) hs_123.2.1) (Eq.trans (Eq.trans (show gi (C_316 5) 5 = gi (K123 5) 5 by rw [e_317]; rfl) hZ_320) tk_321.2))⟩⟩, ⟨by rw [ht]; exact hP, hD⟩⟩, hS.F ht⟩) hS.2.2 dX4_advance_208
                        · refine lv_aload_n hx hb dX4_advance_186 rfl (lv_at hl 0 rfl) ?_
                          refine lv_iconst (v := 2) hx hb dX4_advance_187 (by decide) ?_
                          refine th_put (Tp := TyX a E) (Rl := fr [(5, 6)] [] C) (ci := 4) (v := .int 2) (ty := .int) (CC := RX4) (T := TX4) (N := 6) hx hb htg ig_4 tyX4 tyX4_ok nmX4 hown hK hP hD hS 5 (by decide) (sX_5 hT) rfl 3 (by decide) (htg _ q_222) (fun _ h9 => h9) rfl (by decide +kernel) rfl rfl (Nat.le_of_ble_eq_true rfl) (hT.up 5 ⟨rfl, (fX_5_1 hT), (fX_5_2 hT), (fX_5_4 hT), (fX_5_5 hT)⟩) (fr_st hF (by decide) (by decide)) dX4_advance_188 (fun C_322 H locs e_323 hT hF hP hD hS => ?_)
                          have t_324 := hT
                          have tk_325 := (tk_num hs_123.2.2.1 (Eq.trans (upto_stop (p := pD) (fun h8 => pD_hi c_295 h8.2)).symm hs_123.2.2.2) (by rw [← hs_123.2.1]; exact (Int32.not_le.mp c_296)))
                          rw [hQ]
                          exact W.vret hx hb hr (fun t ht hW => ⟨⟨C_322, rfl, ⟨hT, hF, ⟨(Eq.trans (show gi (C_322 5) 2 = gi (K123 5) 2 by rw [e_323]; rfl) hv_123), (px_mk (Eq.trans (show gi (C_322 5) 1 = gi (K123 5) 1 by rw [e_323]; rfl) hs_123.1) (Eq.trans (show gi (C_322 5) 2 = gi (K123 5) 2 by rw [e_323]; rfl) hv_123) (Eq.trans (show gi (C_322 5) 3 = (2 : Int32) by rw [e_323]; rfl) tk_325.1) (Eq.trans (show gi (C_322 5) 4 = gi (K123 5) 4 by rw [e_323]; rfl) hs_123.2.1) (Eq.trans (show gi (C_322 5) 5 = gi (K123 5) 5 by rw [e_323]; rfl) tk_325.2))⟩⟩, ⟨by rw [ht]; exact hP, hD⟩⟩, hS.F ht⟩) hS.2.2 dX4_advance_191
                      · refine lv_aload_n hx hb dX4_advance_162 rfl (lv_at hl 0 rfl) ?_
                        refine lv_dup hx hb dX4_advance_163 rfl ?_
                        refine va_get (D := D) (ci := 4) (v := .int (gi (K123 5) 5)) (C := RX4) (T := TX4) (N := 6) hx hb htg ig_4 hown hK hP 5 (oh_wg (by decide) (sX_5 hT)) rfl 5 (by decide) (htg _ q_224) (fun _ h9 => h9) rfl dX4_advance_164 ?_
                        refine lv_iconst (v := 1) hx hb dX4_advance_167 (by decide) ?_
                        refine lv_iadd hx hb dX4_advance_168 ?_
                        refine th_put (Tp := TyX a E) (Rl := fr [(5, 6)] [] C) (ci := 4) (v := .int ((gi (K123 5) 5) + 1)) (ty := .int) (CC := RX4) (T := TX4) (N := 6) hx hb htg ig_4 tyX4 tyX4_ok nmX4 hown hK hP hD hS 5 (by decide) (sX_5 hT) rfl 5 (by decide) (htg _ q_224) (fun _ h9 => h9) rfl (by decide +kernel) rfl rfl (Nat.le_of_ble_eq_true rfl) (hT.up 5 ⟨rfl, (fX_5_1 hT), (fX_5_2 hT), (fX_5_4 hT), (rg_w (rg_add (lo := 1) (hi := 250) (rn_ltu (u' := 249) (Int32.not_le.mp c_231) (fX_5_5 t_230) (fX_5_1 t_230) (by decide)) (rg_c (v := 1) (lo := 1) (hi := 1) (by decide)) (by decide)) (by decide))⟩) (fr_st hF (by decide) (by decide)) dX4_advance_169 (fun C_326 H locs e_327 hT hF hP hD hS => ?_)
                        have t_328 := hT
                        refine lv_goto (tgt := 123) hx hb dX4_advance_172 (by decide) ?_
                        exact ih_123 _ (hd_123 ▸ (by rw [(show gi (C_326 5) 5 = ((gi (K123 5) 5) + 1) by rw [e_327]; rfl)]; exact mu_up 250 (rn_ltu (u' := 249) (Int32.not_le.mp c_231) (fX_5_5 t_230) (fX_5_1 t_230) (by decide)) (by decide))) C_326  _ _ ls rfl (Eq.trans (show gi (C_326 5) 2 = gi (K123 5) 2 by rw [e_327]; rfl) hv_123) ⟨Eq.trans (show gi (C_326 5) 1 = gi (K123 5) 1 by rw [e_327]; rfl) hs_123.1, Eq.trans (show gi (C_326 5) 4 = gi (K123 5) 4 by rw [e_327]; rfl) hs_123.2.1, hs_123.2.2.1, Eq.trans (congrArg (upto pD (ga (C 32)) (gi (C 5) 1)) (show gi (C_326 5) 5 = ((gi (K123 5) 5) + 1) by rw [e_327]; rfl)) (Eq.trans (upto_step (p := pD) (rg_w (lo := 0) (hi := 249) (rn_ltu (u' := 249) (Int32.not_le.mp c_231) (fX_5_5 t_230) (fX_5_1 t_230) (by decide)) (by decide)) (oh_lte (Int32.not_le.mp c_231) hs_123.1) ⟨(Int32.not_lt.mp c_263), (Int32.not_lt.mp c_295)⟩).symm hs_123.2.2.2)⟩ hT hF (fr_ste hLF_123 e_327 (by decide) (by decide)) hP hD hS (lv_sub hl [0] rfl)
                have hE_329 : gi (K54 5) 5 = (upto pL (ga (C 32)) (gi (C 5) 1) (upto pB (ga (C 32)) (gi (C 5) 1) (gi (C 5) 5))) := (Eq.trans (upto_stop (p := pL) (fun h8 => pL_hi c_228 h8.2)).symm hs_54.2.2)
                have hN_330 : ¬ (upto pB (ga (C 32)) (gi (C 5) 1) (gi (C 5) 5)) < (upto pL (ga (C 32)) (gi (C 5) 1) (upto pB (ga (C 32)) (gi (C 5) 1) (gi (C 5) 5))) := by rw [← hE_329, ← hs_54.2.1]; exact Int32.not_lt.mpr c_229
                have hZ_331 : gi (K54 5) 5 = (upto pB (ga (C 32)) (gi (C 5) 1) (gi (C 5) 5)) := Eq.trans hE_329 (upto_nn (fX_5_1 hT0) (by rw [← hs_54.2.1]; exact (rg_w (lo := 0) (hi := 250) (fX_5_4 t_9) (by decide))) hN_330)
                exact L_123 _ K54  _ _ ls rfl (Eq.trans rfl hv_54) ⟨hs_54.1, hs_54.2.1, hN_330, (congrArg (upto pD (ga (C 32)) (gi (C 5) 1)) hZ_331)⟩ hT hF fr_rf hP hD hS (lv_sub hl [0] rfl)
              · refine lv_aload_n hx hb dX4_advance_117 rfl (lv_at hl 0 rfl) ?_
                refine lv_iconst (v := 1) hx hb dX4_advance_118 (by decide) ?_
                refine th_put (Tp := TyX a E) (Rl := fr [(5, 6)] [] C) (ci := 4) (v := .int 1) (ty := .int) (CC := RX4) (T := TX4) (N := 6) hx hb htg ig_4 tyX4 tyX4_ok nmX4 hown hK hP hD hS 5 (by decide) (sX_5 hT) rfl 3 (by decide) (htg _ q_222) (fun _ h9 => h9) rfl (by decide +kernel) rfl rfl (Nat.le_of_ble_eq_true rfl) (hT.up 5 ⟨rfl, (fX_5_1 hT), (fX_5_2 hT), (fX_5_4 hT), (fX_5_5 hT)⟩) (fr_st hF (by decide) (by decide)) dX4_advance_119 (fun C_332 H locs e_333 hT hF hP hD hS => ?_)
                have t_334 := hT
                have tk_335 := (tk_word (Eq.trans (upto_stop (p := pL) (fun h8 => pL_hi c_228 h8.2)).symm hs_54.2.2) (by rw [← hs_54.2.1]; exact (Int32.not_le.mp c_229)))
                rw [hQ]
                exact W.vret hx hb hr (fun t ht hW => ⟨⟨C_332, rfl, ⟨hT, hF, ⟨(Eq.trans (show gi (C_332 5) 2 = gi (K54 5) 2 by rw [e_333]; rfl) hv_54), (px_mk (Eq.trans (show gi (C_332 5) 1 = gi (K54 5) 1 by rw [e_333]; rfl) hs_54.1) (Eq.trans (show gi (C_332 5) 2 = gi (K54 5) 2 by rw [e_333]; rfl) hv_54) (Eq.trans (show gi (C_332 5) 3 = (1 : Int32) by rw [e_333]; rfl) tk_335.1) (Eq.trans (show gi (C_332 5) 4 = gi (K54 5) 4 by rw [e_333]; rfl) hs_54.2.1) (Eq.trans (show gi (C_332 5) 5 = gi (K54 5) 5 by rw [e_333]; rfl) tk_335.2))⟩⟩, ⟨by rw [ht]; exact hP, hD⟩⟩, hS.F ht⟩) hS.2.2 dX4_advance_122
            · refine lv_aload_n hx hb dX4_advance_93 rfl (lv_at hl 0 rfl) ?_
              refine lv_dup hx hb dX4_advance_94 rfl ?_
              refine va_get (D := D) (ci := 4) (v := .int (gi (K54 5) 5)) (C := RX4) (T := TX4) (N := 6) hx hb htg ig_4 hown hK hP 5 (oh_wg (by decide) (sX_5 hT)) rfl 5 (by decide) (htg _ q_224) (fun _ h9 => h9) rfl dX4_advance_95 ?_
              refine lv_iconst (v := 1) hx hb dX4_advance_98 (by decide) ?_
              refine lv_iadd hx hb dX4_advance_99 ?_
              refine th_put (Tp := TyX a E) (Rl := fr [(5, 6)] [] C) (ci := 4) (v := .int ((gi (K54 5) 5) + 1)) (ty := .int) (CC := RX4) (T := TX4) (N := 6) hx hb htg ig_4 tyX4 tyX4_ok nmX4 hown hK hP hD hS 5 (by decide) (sX_5 hT) rfl 5 (by decide) (htg _ q_224) (fun _ h9 => h9) rfl (by decide +kernel) rfl rfl (Nat.le_of_ble_eq_true rfl) (hT.up 5 ⟨rfl, (fX_5_1 hT), (fX_5_2 hT), (fX_5_4 hT), (rg_w (rg_add (lo := 1) (hi := 250) (rn_ltu (u' := 249) (Int32.not_le.mp c_10) (fX_5_5 t_9) (fX_5_1 t_9) (by decide)) (rg_c (v := 1) (lo := 1) (hi := 1) (by decide)) (by decide)) (by decide))⟩) (fr_st hF (by decide) (by decide)) dX4_advance_100 (fun C_336 H locs e_337 hT hF hP hD hS => ?_)
              have t_338 := hT
              refine lv_goto (tgt := 54) hx hb dX4_advance_103 (by decide) ?_
              exact ih_54 _ (hd_54 ▸ (by rw [(show gi (C_336 5) 5 = ((gi (K54 5) 5) + 1) by rw [e_337]; rfl)]; exact mu_up 250 (rn_ltu (u' := 249) (Int32.not_le.mp c_10) (fX_5_5 t_9) (fX_5_1 t_9) (by decide)) (by decide))) C_336  _ _ ls rfl (Eq.trans (show gi (C_336 5) 2 = gi (K54 5) 2 by rw [e_337]; rfl) hv_54) ⟨Eq.trans (show gi (C_336 5) 1 = gi (K54 5) 1 by rw [e_337]; rfl) hs_54.1, Eq.trans (show gi (C_336 5) 4 = gi (K54 5) 4 by rw [e_337]; rfl) hs_54.2.1, Eq.trans (congrArg (upto pL (ga (C 32)) (gi (C 5) 1)) (show gi (C_336 5) 5 = ((gi (K54 5) 5) + 1) by rw [e_337]; rfl)) (Eq.trans (upto_step (p := pL) (rg_w (lo := 0) (hi := 249) (rn_ltu (u' := 249) (Int32.not_le.mp c_10) (fX_5_5 t_9) (fX_5_1 t_9) (by decide)) (by decide)) (oh_lte (Int32.not_le.mp c_10) hs_54.1) ⟨(Int32.not_lt.mp c_119), (Int32.not_lt.mp c_228)⟩).symm hs_54.2.2)⟩ hT hF (fr_ste hLF_54 e_337 (by decide) (by decide)) hP hD hS (lv_sub hl [0] rfl)
      have hS_339 : gi (K8 5) 4 = (upto pB (ga (C 32)) (gi (C 5) 1) (gi (C 5) 5)) := Eq.trans (upto_stop (p := pB) (fun h8 => absurd (oh_lte h8.1 hs_8.1.symm) (Int32.not_lt.mpr c_5))).symm hs_8.2
      exact L_54 _ C_6  _ _ ls rfl (Eq.trans (show gi (C_6 5) 2 = gi (K8 5) 2 by rw [e_7]; rfl) hv_8) ⟨Eq.trans (show gi (C_6 5) 1 = gi (K8 5) 1 by rw [e_7]; rfl) hs_8.1, Eq.trans (show gi (C_6 5) 4 = gi (K8 5) 4 by rw [e_7]; rfl) hS_339, (congrArg (upto pL (ga (C 32)) (gi (C 5) 1)) (Eq.trans (show gi (C_6 5) 5 = (gi (K8 5) 4) by rw [e_7]; rfl) hS_339))⟩ hT hF fr_rf hP hD hS (lv_sub hl [0] rfl)
    · refine lv_aload_n hx hb dX4_advance_19 rfl (lv_at hl 0 rfl) ?_
      refine va_get (D := D) (ci := 4) (v := .ref (a 32)) (C := RX4) (T := TX4) (N := 6) hx hb htg ig_4 hown hK hP 5 (oh_wg (by decide) (sX_5 hT)) rfl 0 (by decide) (htg _ q_217) (fun _ h9 => h9) rfl dX4_advance_20 ?_
      refine lv_aload_n hx hb dX4_advance_23 rfl (lv_at hl 0 rfl) ?_
      refine va_get (D := D) (ci := 4) (v := .int (gi (K8 5) 4)) (C := RX4) (T := TX4) (N := 6) hx hb htg ig_4 hown hK hP 5 (oh_wg (by decide) (sX_5 hT)) rfl 4 (by decide) (htg _ q_223) (fun _ h9 => h9) rfl dX4_advance_24 ?_
      have n_340 : vp_in (gi (K8 5) 4) 250 := (rg_in (rn_ltu (u' := 249) (Int32.not_le.mp c_5) (fX_5_4 t_4) (fX_5_1 t_4) (by decide)) (by decide))
      refine th_iald hx hb hK hP 32 (by decide) (Eq.trans (Eq.trans (hLF_8.1 32 rfl (by decide)) (th_un e_2 (by decide))) (sX_32 hT0)) n_340 dX4_advance_27 ?_
      refine lv_bipush (v := 32) hx hb dX4_advance_28 (by decide) ?_
      refine lv_icmp_ne (tgt := 46) hx hb dX4_advance_30 (by decide) (fun (c_341 : ¬ ((ga (C 32) (gi (K8 5) 4).toNatClampNeg) = 32)) => ?_) (fun (c_341 : (ga (C 32) (gi (K8 5) 4).toNatClampNeg) = 32) => ?_)
      · refine lv_aload_n hx hb dX4_advance_46 rfl (lv_at hl 0 rfl) ?_
        refine lv_aload_n hx hb dX4_advance_47 rfl (lv_at hl 0 rfl) ?_
        refine va_get (D := D) (ci := 4) (v := .int (gi (K8 5) 4)) (C := RX4) (T := TX4) (N := 6) hx hb htg ig_4 hown hK hP 5 (oh_wg (by decide) (sX_5 hT)) rfl 4 (by decide) (htg _ q_223) (fun _ h9 => h9) rfl dX4_advance_48 ?_
        refine th_put (Tp := TyX a E) (Rl := fr [(5, 6)] [] C) (ci := 4) (v := .int (gi (K8 5) 4)) (ty := .int) (CC := RX4) (T := TX4) (N := 6) hx hb htg ig_4 tyX4 tyX4_ok nmX4 hown hK hP hD hS 5 (by decide) (sX_5 hT) rfl 5 (by decide) (htg _ q_224) (fun _ h9 => h9) rfl (by decide +kernel) rfl rfl (Nat.le_of_ble_eq_true rfl) (hT.up 5 ⟨rfl, (fX_5_1 hT), (fX_5_2 hT), (fX_5_4 hT), (rg_w (rn_ltu (u' := 249) (Int32.not_le.mp c_5) (fX_5_4 t_4) (fX_5_1 t_4) (by decide)) (by decide))⟩) (fr_st hF (by decide) (by decide)) dX4_advance_51 (fun C_342 H locs e_343 hT hF hP hD hS => ?_)
        have t_344 := hT
        have L_54 : ∀ (d : Nat) (K54 : Nat → va_E) (H : Heap) (locs : List Loc) (ls : Array Slot), (250 - (gi (K54 5) 5).toInt).toNat = d → (gi (K54 5) 2 = gi (C 5) 2) → (gi (K54 5) 1 = (gi (C 5) 1) ∧ gi (K54 5) 4 = (upto pB (ga (C 32)) (gi (C 5) 1) (gi (C 5) 5)) ∧ (upto pL (ga (C 32)) (gi (C 5) 1) (gi (K54 5) 5)) = (upto pL (ga (C 32)) (gi (C 5) 1) (upto pB (ga (C 32)) (gi (C 5) 1) (gi (C 5) 5)))) → TyX a E K54 → fr [(5, 6)] [] C K54 → fr [(5, 6)] [] C_342 K54 → va_P D vwCl (oh_W 35 a K54) H → va_D A (oh_W 35 a K54) → va_S A s.heap H locs → lv_has ls 1 [(0, .ref (a 5))] → W p l e ({ frames := 0, cells := 0, slots := 0, locals := 0 }) s m (([.ref (a 5)] : List Value).toArray) below meth c H locs 0 0 Q (F0 m 54 ls []) := by
          intro d
          induction d using Nat.strongRecOn with
          | ind d ih_54 =>
          intro K54  H locs ls hd_54 hv_54 hs_54 hT hF hLF_54 hP hD hS hl
          have t_345 := hT
          refine lv_aload_n hx hb dX4_advance_54 rfl (lv_at hl 0 rfl) ?_
          refine va_get (D := D) (ci := 4) (v := .int (gi (K54 5) 5)) (C := RX4) (T := TX4) (N := 6) hx hb htg ig_4 hown hK hP 5 (oh_wg (by decide) (sX_5 hT)) rfl 5 (by decide) (htg _ q_224) (fun _ h9 => h9) rfl dX4_advance_55 ?_
          refine lv_aload_n hx hb dX4_advance_58 rfl (lv_at hl 0 rfl) ?_
          refine va_get (D := D) (ci := 4) (v := .int (gi (K54 5) 1)) (C := RX4) (T := TX4) (N := 6) hx hb htg ig_4 hown hK hP 5 (oh_wg (by decide) (sX_5 hT)) rfl 1 (by decide) (htg _ q_218) (fun _ h9 => h9) rfl dX4_advance_59 ?_
          refine lv_icmp_ge (tgt := 106) hx hb dX4_advance_62 (by decide) (fun (c_346 : (gi (K54 5) 1) ≤ (gi (K54 5) 5)) => ?_) (fun (c_346 : ¬ ((gi (K54 5) 1) ≤ (gi (K54 5) 5))) => ?_)
          · refine lv_aload_n hx hb dX4_advance_106 rfl (lv_at hl 0 rfl) ?_
            refine va_get (D := D) (ci := 4) (v := .int (gi (K54 5) 5)) (C := RX4) (T := TX4) (N := 6) hx hb htg ig_4 hown hK hP 5 (oh_wg (by decide) (sX_5 hT)) rfl 5 (by decide) (htg _ q_224) (fun _ h9 => h9) rfl dX4_advance_107 ?_
            refine lv_aload_n hx hb dX4_advance_110 rfl (lv_at hl 0 rfl) ?_
            refine va_get (D := D) (ci := 4) (v := .int (gi (K54 5) 4)) (C := RX4) (T := TX4) (N := 6) hx hb htg ig_4 hown hK hP 5 (oh_wg (by decide) (sX_5 hT)) rfl 4 (by decide) (htg _ q_223) (fun _ h9 => h9) rfl dX4_advance_111 ?_
            refine lv_icmp_le (tgt := 123) hx hb dX4_advance_114 (by decide) (fun (c_347 : (gi (K54 5) 5) ≤ (gi (K54 5) 4)) => ?_) (fun (c_347 : ¬ ((gi (K54 5) 5) ≤ (gi (K54 5) 4))) => ?_)
            · have L_123 : ∀ (d : Nat) (K123 : Nat → va_E) (H : Heap) (locs : List Loc) (ls : Array Slot), (250 - (gi (K123 5) 5).toInt).toNat = d → (gi (K123 5) 2 = gi (C 5) 2) → (gi (K123 5) 1 = (gi (C 5) 1) ∧ gi (K123 5) 4 = (upto pB (ga (C 32)) (gi (C 5) 1) (gi (C 5) 5)) ∧ ¬ (upto pB (ga (C 32)) (gi (C 5) 1) (gi (C 5) 5)) < (upto pL (ga (C 32)) (gi (C 5) 1) (upto pB (ga (C 32)) (gi (C 5) 1) (gi (C 5) 5))) ∧ (upto pD (ga (C 32)) (gi (C 5) 1) (gi (K123 5) 5)) = (upto pD (ga (C 32)) (gi (C 5) 1) (upto pB (ga (C 32)) (gi (C 5) 1) (gi (C 5) 5)))) → TyX a E K123 → fr [(5, 6)] [] C K123 → fr [(5, 6)] [] K54 K123 → va_P D vwCl (oh_W 35 a K123) H → va_D A (oh_W 35 a K123) → va_S A s.heap H locs → lv_has ls 1 [(0, .ref (a 5))] → W p l e ({ frames := 0, cells := 0, slots := 0, locals := 0 }) s m (([.ref (a 5)] : List Value).toArray) below meth c H locs 0 0 Q (F0 m 123 ls []) := by
                intro d
                induction d using Nat.strongRecOn with
                | ind d ih_123 =>
                intro K123  H locs ls hd_123 hv_123 hs_123 hT hF hLF_123 hP hD hS hl
                have t_348 := hT
                refine lv_aload_n hx hb dX4_advance_123 rfl (lv_at hl 0 rfl) ?_
                refine va_get (D := D) (ci := 4) (v := .int (gi (K123 5) 5)) (C := RX4) (T := TX4) (N := 6) hx hb htg ig_4 hown hK hP 5 (oh_wg (by decide) (sX_5 hT)) rfl 5 (by decide) (htg _ q_224) (fun _ h9 => h9) rfl dX4_advance_124 ?_
                refine lv_aload_n hx hb dX4_advance_127 rfl (lv_at hl 0 rfl) ?_
                refine va_get (D := D) (ci := 4) (v := .int (gi (K123 5) 1)) (C := RX4) (T := TX4) (N := 6) hx hb htg ig_4 hown hK hP 5 (oh_wg (by decide) (sX_5 hT)) rfl 1 (by decide) (htg _ q_218) (fun _ h9 => h9) rfl dX4_advance_128 ?_
                refine lv_icmp_ge (tgt := 175) hx hb dX4_advance_131 (by decide) (fun (c_349 : (gi (K123 5) 1) ≤ (gi (K123 5) 5)) => ?_) (fun (c_349 : ¬ ((gi (K123 5) 1) ≤ (gi (K123 5) 5))) => ?_)
                · refine lv_aload_n hx hb dX4_advance_175 rfl (lv_at hl 0 rfl) ?_
                  refine va_get (D := D) (ci := 4) (v := .int (gi (K123 5) 5)) (C := RX4) (T := TX4) (N := 6) hx hb htg ig_4 hown hK hP 5 (oh_wg (by decide) (sX_5 hT)) rfl 5 (by decide) (htg _ q_224) (fun _ h9 => h9) rfl dX4_advance_176 ?_
                  refine lv_aload_n hx hb dX4_advance_179 rfl (lv_at hl 0 rfl) ?_
                  refine va_get (D := D) (ci := 4) (v := .int (gi (K123 5) 4)) (C := RX4) (T := TX4) (N := 6) hx hb htg ig_4 hown hK hP 5 (oh_wg (by decide) (sX_5 hT)) rfl 4 (by decide) (htg _ q_223) (fun _ h9 => h9) rfl dX4_advance_180 ?_
                  refine lv_icmp_le (tgt := 192) hx hb dX4_advance_183 (by decide) (fun (c_350 : (gi (K123 5) 5) ≤ (gi (K123 5) 4)) => ?_) (fun (c_350 : ¬ ((gi (K123 5) 5) ≤ (gi (K123 5) 4))) => ?_)
                  · refine lv_aload_n hx hb dX4_advance_192 rfl (lv_at hl 0 rfl) ?_
                    refine va_get (D := D) (ci := 4) (v := .int (gi (K123 5) 4)) (C := RX4) (T := TX4) (N := 6) hx hb htg ig_4 hown hK hP 5 (oh_wg (by decide) (sX_5 hT)) rfl 4 (by decide) (htg _ q_223) (fun _ h9 => h9) rfl dX4_advance_193 ?_
                    refine lv_aload_n hx hb dX4_advance_196 rfl (lv_at hl 0 rfl) ?_
                    refine va_get (D := D) (ci := 4) (v := .int (gi (K123 5) 1)) (C := RX4) (T := TX4) (N := 6) hx hb htg ig_4 hown hK hP 5 (oh_wg (by decide) (sX_5 hT)) rfl 1 (by decide) (htg _ q_218) (fun _ h9 => h9) rfl dX4_advance_197 ?_
                    refine lv_icmp_lt (tgt := 209) hx hb dX4_advance_200 (by decide) (fun (c_351 : (gi (K123 5) 4) < (gi (K123 5) 1)) => ?_) (fun (c_351 : ¬ ((gi (K123 5) 4) < (gi (K123 5) 1))) => ?_)
                    · refine lv_aload_n hx hb dX4_advance_209 rfl (lv_at hl 0 rfl) ?_
                      refine lv_aload_n hx hb dX4_advance_210 rfl (lv_at hl 0 rfl) ?_
                      refine va_get (D := D) (ci := 4) (v := .ref (a 32)) (C := RX4) (T := TX4) (N := 6) hx hb htg ig_4 hown hK hP 5 (oh_wg (by decide) (sX_5 hT)) rfl 0 (by decide) (htg _ q_217) (fun _ h9 => h9) rfl dX4_advance_211 ?_
                      refine lv_aload_n hx hb dX4_advance_214 rfl (lv_at hl 0 rfl) ?_
                      refine va_get (D := D) (ci := 4) (v := .int (gi (K123 5) 4)) (C := RX4) (T := TX4) (N := 6) hx hb htg ig_4 hown hK hP 5 (oh_wg (by decide) (sX_5 hT)) rfl 4 (by decide) (htg _ q_223) (fun _ h9 => h9) rfl dX4_advance_215 ?_
                      have n_352 : vp_in (gi (K123 5) 4) 250 := (rg_in (rn_ltu (u' := 249) c_351 (rn_lel c_350 (rn_lel c_349 (rn_ltl (l' := 1) c_351 (fX_5_4 t_348) (fX_5_1 t_348) (by decide)) (fX_5_5 t_348)) (fX_5_4 t_348)) (fX_5_1 t_348) (by decide)) (by decide))
                      refine th_iald hx hb hK hP 32 (by decide) (Eq.trans (Eq.trans (hLF_123.1 32 rfl (by decide)) (Eq.trans (hLF_54.1 32 rfl (by decide)) (Eq.trans (th_un e_343 (by decide)) (Eq.trans (hLF_8.1 32 rfl (by decide)) (th_un e_2 (by decide)))))) (sX_32 hT0)) n_352 dX4_advance_218 ?_
                      refine lv_bipush (v := 59) hx hb dX4_advance_219 (by decide) ?_
                      refine lv_icmp_ne (tgt := 228) hx hb dX4_advance_221 (by decide) (fun (c_353 : ¬ ((ga (C 32) (gi (K123 5) 4).toNatClampNeg) = 59)) => ?_) (fun (c_353 : (ga (C 32) (gi (K123 5) 4).toNatClampNeg) = 59) => ?_)
                      · refine lv_iconst (v := 4) hx hb dX4_advance_228 (by decide) ?_
                        refine th_put (Tp := TyX a E) (Rl := fr [(5, 6)] [] C) (ci := 4) (v := .int 4) (ty := .int) (CC := RX4) (T := TX4) (N := 6) hx hb htg ig_4 tyX4 tyX4_ok nmX4 hown hK hP hD hS 5 (by decide) (sX_5 hT) rfl 3 (by decide) (htg _ q_222) (fun _ h9 => h9) rfl (by decide +kernel) rfl rfl (Nat.le_of_ble_eq_true rfl) (hT.up 5 ⟨rfl, (fX_5_1 hT), (fX_5_2 hT), (fX_5_4 hT), (fX_5_5 hT)⟩) (fr_st hF (by decide) (by decide)) dX4_advance_229 (fun C_354 H locs e_355 hT hF hP hD hS => ?_)
                        have t_356 := hT
                        refine lv_aload_n hx hb dX4_advance_232 rfl (lv_at hl 0 rfl) ?_
                        refine lv_aload_n hx hb dX4_advance_233 rfl (lv_at hl 0 rfl) ?_
                        refine va_get (D := D) (ci := 4) (v := .int (gi (K123 5) 4)) (C := RX4) (T := TX4) (N := 6) hx hb htg ig_4 hown hK hP 5 (oh_wg (by decide) (sX_5 hT)) rfl 4 (by decide) (htg _ q_223) (fun _ h9 => h9) (oh_fv (c := C_354 5) (j := 4) rfl (show gi (C_354 5) 4 = gi (K123 5) 4 by rw [e_355]; rfl)) dX4_advance_234 ?_
                        refine lv_iconst (v := 1) hx hb dX4_advance_237 (by decide) ?_
                        refine lv_iadd hx hb dX4_advance_238 ?_
                        refine th_put (Tp := TyX a E) (Rl := fr [(5, 6)] [] C) (ci := 4) (v := .int ((gi (K123 5) 4) + 1)) (ty := .int) (CC := RX4) (T := TX4) (N := 6) hx hb htg ig_4 tyX4 tyX4_ok nmX4 hown hK hP hD hS 5 (by decide) (sX_5 hT) rfl 5 (by decide) (htg _ q_224) (fun _ h9 => h9) rfl (by decide +kernel) rfl rfl (Nat.le_of_ble_eq_true rfl) (hT.up 5 ⟨rfl, (fX_5_1 hT), (fX_5_2 hT), (fX_5_4 hT), (rg_w (rg_add (lo := 2) (hi := 250) (rn_ltu (u' := 249) c_351 (rn_lel c_350 (rn_lel c_349 (rn_ltl (l' := 1) c_351 (fX_5_4 t_348) (fX_5_1 t_348) (by decide)) (fX_5_5 t_348)) (fX_5_4 t_348)) (fX_5_1 t_348) (by decide)) (rg_c (v := 1) (lo := 1) (hi := 1) (by decide)) (by decide)) (by decide))⟩) (fr_st hF (by decide) (by decide)) dX4_advance_239 (fun C_357 H locs e_358 hT hF hP hD hS => ?_)
                        have t_359 := hT
                        have hM_360 : ¬ (upto pB (ga (C 32)) (gi (C 5) 1) (gi (C 5) 5)) < (upto pD (ga (C 32)) (gi (C 5) 1) (upto pB (ga (C 32)) (gi (C 5) 1) (gi (C 5) 5))) := by rw [← (Eq.trans (upto_stop (p := pD) (fun h8 => absurd (oh_lte h8.1 hs_123.1.symm) (Int32.not_lt.mpr c_349))).symm hs_123.2.2.2), ← hs_123.2.1]; exact Int32.not_lt.mpr c_350
                        have tk_361 := (tk_wrg hs_123.2.2.1 hM_360 (fun h8 => absurd (oh_lee (by rw [← hs_123.2.1] at h8; exact h8) hs_123.1.symm) (Int32.not_le.mpr c_351)) (by rw [← hs_123.2.1]; exact c_353))
                        rw [hQ]
                        exact W.vret hx hb hr (fun t ht hW => ⟨⟨C_357, rfl, ⟨hT, hF, ⟨(Eq.trans (Eq.trans (show gi (C_357 5) 2 = gi (C_354 5) 2 by rw [e_358]; rfl) (show gi (C_354 5) 2 = gi (K123 5) 2 by rw [e_355]; rfl)) hv_123), (px_mk (Eq.trans (Eq.trans (show gi (C_357 5) 1 = gi (C_354 5) 1 by rw [e_358]; rfl) (show gi (C_354 5) 1 = gi (K123 5) 1 by rw [e_355]; rfl)) hs_123.1) (Eq.trans (Eq.trans (show gi (C_357 5) 2 = gi (C_354 5) 2 by rw [e_358]; rfl) (show gi (C_354 5) 2 = gi (K123 5) 2 by rw [e_355]; rfl)) hv_123) (Eq.trans (Eq.trans (show gi (C_357 5) 3 = gi (C_354 5) 3 by rw [e_358]; rfl) (show gi (C_354 5) 3 = (4 : Int32) by rw [e_355]; rfl)) tk_361.1) (Eq.trans (Eq.trans (show gi (C_357 5) 4 = gi (C_354 5) 4 by rw [e_358]; rfl) (show gi (C_354 5) 4 = gi (K123 5) 4 by rw [e_355]; rfl)) hs_123.2.1) (Eq.trans (Eq.trans (show gi (C_357 5) 5 = ((gi (K123 5) 4) + 1) by rw [e_358]; rfl) (congrArg (fun z => z + 1) hs_123.2.1)) tk_361.2))⟩⟩, ⟨by rw [ht]; exact hP, hD⟩⟩, hS.F ht⟩) hS.2.2 dX4_advance_242
                      · refine lv_iconst (v := 3) hx hb dX4_advance_224 (by decide) ?_
                        refine lv_goto (tgt := 229) hx hb dX4_advance_225 (by decide) ?_
                        refine th_put (Tp := TyX a E) (Rl := fr [(5, 6)] [] C) (ci := 4) (v := .int 3) (ty := .int) (CC := RX4) (T := TX4) (N := 6) hx hb htg ig_4 tyX4 tyX4_ok nmX4 hown hK hP hD hS 5 (by decide) (sX_5 hT) rfl 3 (by decide) (htg _ q_222) (fun _ h9 => h9) rfl (by decide +kernel) rfl rfl (Nat.le_of_ble_eq_true rfl) (hT.up 5 ⟨rfl, (fX_5_1 hT), (fX_5_2 hT), (fX_5_4 hT), (fX_5_5 hT)⟩) (fr_st hF (by decide) (by decide)) dX4_advance_229 (fun C_362 H locs e_363 hT hF hP hD hS => ?_)
                        have t_364 := hT
                        refine lv_aload_n hx hb dX4_advance_232 rfl (lv_at hl 0 rfl) ?_
                        refine lv_aload_n hx hb dX4_advance_233 rfl (lv_at hl 0 rfl) ?_
                        refine va_get (D := D) (ci := 4) (v := .int (gi (K123 5) 4)) (C := RX4) (T := TX4) (N := 6) hx hb htg ig_4 hown hK hP 5 (oh_wg (by decide) (sX_5 hT)) rfl 4 (by decide) (htg _ q_223) (fun _ h9 => h9) (oh_fv (c := C_362 5) (j := 4) rfl (show gi (C_362 5) 4 = gi (K123 5) 4 by rw [e_363]; rfl)) dX4_advance_234 ?_
                        refine lv_iconst (v := 1) hx hb dX4_advance_237 (by decide) ?_
                        refine lv_iadd hx hb dX4_advance_238 ?_
                        refine th_put (Tp := TyX a E) (Rl := fr [(5, 6)] [] C) (ci := 4) (v := .int ((gi (K123 5) 4) + 1)) (ty := .int) (CC := RX4) (T := TX4) (N := 6) hx hb htg ig_4 tyX4 tyX4_ok nmX4 hown hK hP hD hS 5 (by decide) (sX_5 hT) rfl 5 (by decide) (htg _ q_224) (fun _ h9 => h9) rfl (by decide +kernel) rfl rfl (Nat.le_of_ble_eq_true rfl) (hT.up 5 ⟨rfl, (fX_5_1 hT), (fX_5_2 hT), (fX_5_4 hT), (rg_w (rg_add (lo := 2) (hi := 250) (rn_ltu (u' := 249) c_351 (rn_lel c_350 (rn_lel c_349 (rn_ltl (l' := 1) c_351 (fX_5_4 t_348) (fX_5_1 t_348) (by decide)) (fX_5_5 t_348)) (fX_5_4 t_348)) (fX_5_1 t_348) (by decide)) (rg_c (v := 1) (lo := 1) (hi := 1) (by decide)) (by decide)) (by decide))⟩) (fr_st hF (by decide) (by decide)) dX4_advance_239 (fun C_365 H locs e_366 hT hF hP hD hS => ?_)
                        have t_367 := hT
                        have hM_368 : ¬ (upto pB (ga (C 32)) (gi (C 5) 1) (gi (C 5) 5)) < (upto pD (ga (C 32)) (gi (C 5) 1) (upto pB (ga (C 32)) (gi (C 5) 1) (gi (C 5) 5))) := by rw [← (Eq.trans (upto_stop (p := pD) (fun h8 => absurd (oh_lte h8.1 hs_123.1.symm) (Int32.not_lt.mpr c_349))).symm hs_123.2.2.2), ← hs_123.2.1]; exact Int32.not_lt.mpr c_350
                        have tk_369 := (tk_sgn hs_123.2.2.1 hM_368 (fun h8 => absurd (oh_lee (by rw [← hs_123.2.1] at h8; exact h8) hs_123.1.symm) (Int32.not_le.mpr c_351)) (by rw [← hs_123.2.1]; exact c_353))
                        rw [hQ]
                        exact W.vret hx hb hr (fun t ht hW => ⟨⟨C_365, rfl, ⟨hT, hF, ⟨(Eq.trans (Eq.trans (show gi (C_365 5) 2 = gi (C_362 5) 2 by rw [e_366]; rfl) (show gi (C_362 5) 2 = gi (K123 5) 2 by rw [e_363]; rfl)) hv_123), (px_mk (Eq.trans (Eq.trans (show gi (C_365 5) 1 = gi (C_362 5) 1 by rw [e_366]; rfl) (show gi (C_362 5) 1 = gi (K123 5) 1 by rw [e_363]; rfl)) hs_123.1) (Eq.trans (Eq.trans (show gi (C_365 5) 2 = gi (C_362 5) 2 by rw [e_366]; rfl) (show gi (C_362 5) 2 = gi (K123 5) 2 by rw [e_363]; rfl)) hv_123) (Eq.trans (Eq.trans (show gi (C_365 5) 3 = gi (C_362 5) 3 by rw [e_366]; rfl) (show gi (C_362 5) 3 = (3 : Int32) by rw [e_363]; rfl)) tk_369.1) (Eq.trans (Eq.trans (show gi (C_365 5) 4 = gi (C_362 5) 4 by rw [e_366]; rfl) (show gi (C_362 5) 4 = gi (K123 5) 4 by rw [e_363]; rfl)) hs_123.2.1) (Eq.trans (Eq.trans (show gi (C_365 5) 5 = ((gi (K123 5) 4) + 1) by rw [e_366]; rfl) (congrArg (fun z => z + 1) hs_123.2.1)) tk_369.2))⟩⟩, ⟨by rw [ht]; exact hP, hD⟩⟩, hS.F ht⟩) hS.2.2 dX4_advance_242
                    · refine lv_aload_n hx hb dX4_advance_203 rfl (lv_at hl 0 rfl) ?_
                      refine lv_iconst (v := 0) hx hb dX4_advance_204 (by decide) ?_
                      refine th_put (Tp := TyX a E) (Rl := fr [(5, 6)] [] C) (ci := 4) (v := .int 0) (ty := .int) (CC := RX4) (T := TX4) (N := 6) hx hb htg ig_4 tyX4 tyX4_ok nmX4 hown hK hP hD hS 5 (by decide) (sX_5 hT) rfl 3 (by decide) (htg _ q_222) (fun _ h9 => h9) rfl (by decide +kernel) rfl rfl (Nat.le_of_ble_eq_true rfl) (hT.up 5 ⟨rfl, (fX_5_1 hT), (fX_5_2 hT), (fX_5_4 hT), (fX_5_5 hT)⟩) (fr_st hF (by decide) (by decide)) dX4_advance_205 (fun C_370 H locs e_371 hT hF hP hD hS => ?_)
                      have t_372 := hT
                      have hM_373 : ¬ (upto pB (ga (C 32)) (gi (C 5) 1) (gi (C 5) 5)) < (upto pD (ga (C 32)) (gi (C 5) 1) (upto pB (ga (C 32)) (gi (C 5) 1) (gi (C 5) 5))) := by rw [← (Eq.trans (upto_stop (p := pD) (fun h8 => absurd (oh_lte h8.1 hs_123.1.symm) (Int32.not_lt.mpr c_349))).symm hs_123.2.2.2), ← hs_123.2.1]; exact Int32.not_lt.mpr c_350
                      have hZ_374 : gi (K123 5) 5 = (upto pB (ga (C 32)) (gi (C 5) 1) (gi (C 5) 5)) := Eq.trans (Eq.trans (upto_stop (p := pD) (fun h8 => absurd (oh_lte h8.1 hs_123.1.symm) (Int32.not_lt.mpr c_349))).symm hs_123.2.2.2) (upto_nn (fX_5_1 hT0) (by rw [← hs_123.2.1]; exact (rg_w (lo := 0) (hi := 250) (fX_5_4 t_348) (by decide))) hM_373)
                      have tk_375 := (tk_end hs_123.2.2.1 hM_373 (by rw [← hs_123.2.1, ← hs_123.1]; exact (Int32.not_lt.mp c_351)))
                      rw [hQ]
                      exact W.vret hx hb hr (fun t ht hW => ⟨⟨C_370, rfl, ⟨hT, hF, ⟨(Eq.trans (show gi (C_370 5) 2 = gi (K123 5) 2 by rw [e_371]; rfl) hv_123), (px_mk (Eq.trans (show gi (C_370 5) 1 = gi (K123 5) 1 by rw [e_371]; rfl) hs_123.1) (Eq.trans (show gi (C_370 5) 2 = gi (K123 5) 2 by rw [e_371]; rfl) hv_123) (Eq.trans (show gi (C_370 5) 3 = (0 : Int32) by rw [e_371]; rfl) tk_375.1) (Eq.trans (show gi (C_370 5) 4 = gi (K123 5) 4 by rw [e_371]; rfl) hs_123.2.1) (Eq.trans (Eq.trans (show gi (C_370 5) 5 = gi (K123 5) 5 by rw [e_371]; rfl) hZ_374) tk_375.2))⟩⟩, ⟨by rw [ht]; exact hP, hD⟩⟩, hS.F ht⟩) hS.2.2 dX4_advance_208
                  · refine lv_aload_n hx hb dX4_advance_186 rfl (lv_at hl 0 rfl) ?_
                    refine lv_iconst (v := 2) hx hb dX4_advance_187 (by decide) ?_
                    refine th_put (Tp := TyX a E) (Rl := fr [(5, 6)] [] C) (ci := 4) (v := .int 2) (ty := .int) (CC := RX4) (T := TX4) (N := 6) hx hb htg ig_4 tyX4 tyX4_ok nmX4 hown hK hP hD hS 5 (by decide) (sX_5 hT) rfl 3 (by decide) (htg _ q_222) (fun _ h9 => h9) rfl (by decide +kernel) rfl rfl (Nat.le_of_ble_eq_true rfl) (hT.up 5 ⟨rfl, (fX_5_1 hT), (fX_5_2 hT), (fX_5_4 hT), (fX_5_5 hT)⟩) (fr_st hF (by decide) (by decide)) dX4_advance_188 (fun C_376 H locs e_377 hT hF hP hD hS => ?_)
                    have t_378 := hT
                    have tk_379 := (tk_num hs_123.2.2.1 (Eq.trans (upto_stop (p := pD) (fun h8 => absurd (oh_lte h8.1 hs_123.1.symm) (Int32.not_lt.mpr c_349))).symm hs_123.2.2.2) (by rw [← hs_123.2.1]; exact (Int32.not_le.mp c_350)))
                    rw [hQ]
                    exact W.vret hx hb hr (fun t ht hW => ⟨⟨C_376, rfl, ⟨hT, hF, ⟨(Eq.trans (show gi (C_376 5) 2 = gi (K123 5) 2 by rw [e_377]; rfl) hv_123), (px_mk (Eq.trans (show gi (C_376 5) 1 = gi (K123 5) 1 by rw [e_377]; rfl) hs_123.1) (Eq.trans (show gi (C_376 5) 2 = gi (K123 5) 2 by rw [e_377]; rfl) hv_123) (Eq.trans (show gi (C_376 5) 3 = (2 : Int32) by rw [e_377]; rfl) tk_379.1) (Eq.trans (show gi (C_376 5) 4 = gi (K123 5) 4 by rw [e_377]; rfl) hs_123.2.1) (Eq.trans (show gi (C_376 5) 5 = gi (K123 5) 5 by rw [e_377]; rfl) tk_379.2))⟩⟩, ⟨by rw [ht]; exact hP, hD⟩⟩, hS.F ht⟩) hS.2.2 dX4_advance_191
                · refine lv_aload_n hx hb dX4_advance_134 rfl (lv_at hl 0 rfl) ?_
                  refine va_get (D := D) (ci := 4) (v := .ref (a 32)) (C := RX4) (T := TX4) (N := 6) hx hb htg ig_4 hown hK hP 5 (oh_wg (by decide) (sX_5 hT)) rfl 0 (by decide) (htg _ q_217) (fun _ h9 => h9) rfl dX4_advance_135 ?_
                  refine lv_aload_n hx hb dX4_advance_138 rfl (lv_at hl 0 rfl) ?_
                  refine va_get (D := D) (ci := 4) (v := .int (gi (K123 5) 5)) (C := RX4) (T := TX4) (N := 6) hx hb htg ig_4 hown hK hP 5 (oh_wg (by decide) (sX_5 hT)) rfl 5 (by decide) (htg _ q_224) (fun _ h9 => h9) rfl dX4_advance_139 ?_
                  have n_380 : vp_in (gi (K123 5) 5) 250 := (rg_in (rn_ltu (u' := 249) (Int32.not_le.mp c_349) (fX_5_5 t_348) (fX_5_1 t_348) (by decide)) (by decide))
                  refine th_iald hx hb hK hP 32 (by decide) (Eq.trans (Eq.trans (hLF_123.1 32 rfl (by decide)) (Eq.trans (hLF_54.1 32 rfl (by decide)) (Eq.trans (th_un e_343 (by decide)) (Eq.trans (hLF_8.1 32 rfl (by decide)) (th_un e_2 (by decide)))))) (sX_32 hT0)) n_380 dX4_advance_142 ?_
                  refine lv_bipush (v := 48) hx hb dX4_advance_143 (by decide) ?_
                  refine lv_icmp_lt (tgt := 175) hx hb dX4_advance_145 (by decide) (fun (c_381 : (ga (C 32) (gi (K123 5) 5).toNatClampNeg) < 48) => ?_) (fun (c_381 : ¬ ((ga (C 32) (gi (K123 5) 5).toNatClampNeg) < 48)) => ?_)
                  · refine lv_aload_n hx hb dX4_advance_175 rfl (lv_at hl 0 rfl) ?_
                    refine va_get (D := D) (ci := 4) (v := .int (gi (K123 5) 5)) (C := RX4) (T := TX4) (N := 6) hx hb htg ig_4 hown hK hP 5 (oh_wg (by decide) (sX_5 hT)) rfl 5 (by decide) (htg _ q_224) (fun _ h9 => h9) rfl dX4_advance_176 ?_
                    refine lv_aload_n hx hb dX4_advance_179 rfl (lv_at hl 0 rfl) ?_
                    refine va_get (D := D) (ci := 4) (v := .int (gi (K123 5) 4)) (C := RX4) (T := TX4) (N := 6) hx hb htg ig_4 hown hK hP 5 (oh_wg (by decide) (sX_5 hT)) rfl 4 (by decide) (htg _ q_223) (fun _ h9 => h9) rfl dX4_advance_180 ?_
                    refine lv_icmp_le (tgt := 192) hx hb dX4_advance_183 (by decide) (fun (c_382 : (gi (K123 5) 5) ≤ (gi (K123 5) 4)) => ?_) (fun (c_382 : ¬ ((gi (K123 5) 5) ≤ (gi (K123 5) 4))) => ?_)
                    · refine lv_aload_n hx hb dX4_advance_192 rfl (lv_at hl 0 rfl) ?_
                      refine va_get (D := D) (ci := 4) (v := .int (gi (K123 5) 4)) (C := RX4) (T := TX4) (N := 6) hx hb htg ig_4 hown hK hP 5 (oh_wg (by decide) (sX_5 hT)) rfl 4 (by decide) (htg _ q_223) (fun _ h9 => h9) rfl dX4_advance_193 ?_
                      refine lv_aload_n hx hb dX4_advance_196 rfl (lv_at hl 0 rfl) ?_
                      refine va_get (D := D) (ci := 4) (v := .int (gi (K123 5) 1)) (C := RX4) (T := TX4) (N := 6) hx hb htg ig_4 hown hK hP 5 (oh_wg (by decide) (sX_5 hT)) rfl 1 (by decide) (htg _ q_218) (fun _ h9 => h9) rfl dX4_advance_197 ?_
                      refine lv_icmp_lt (tgt := 209) hx hb dX4_advance_200 (by decide) (fun (c_383 : (gi (K123 5) 4) < (gi (K123 5) 1)) => ?_) (fun (c_383 : ¬ ((gi (K123 5) 4) < (gi (K123 5) 1))) => ?_)
                      · refine lv_aload_n hx hb dX4_advance_209 rfl (lv_at hl 0 rfl) ?_
                        refine lv_aload_n hx hb dX4_advance_210 rfl (lv_at hl 0 rfl) ?_
                        refine va_get (D := D) (ci := 4) (v := .ref (a 32)) (C := RX4) (T := TX4) (N := 6) hx hb htg ig_4 hown hK hP 5 (oh_wg (by decide) (sX_5 hT)) rfl 0 (by decide) (htg _ q_217) (fun _ h9 => h9) rfl dX4_advance_211 ?_
                        refine lv_aload_n hx hb dX4_advance_214 rfl (lv_at hl 0 rfl) ?_
                        refine va_get (D := D) (ci := 4) (v := .int (gi (K123 5) 4)) (C := RX4) (T := TX4) (N := 6) hx hb htg ig_4 hown hK hP 5 (oh_wg (by decide) (sX_5 hT)) rfl 4 (by decide) (htg _ q_223) (fun _ h9 => h9) rfl dX4_advance_215 ?_
                        have n_384 : vp_in (gi (K123 5) 4) 250 := (rg_in (rn_ltu (u' := 249) c_383 (fX_5_4 t_348) (rn_ltl (l' := 1) (Int32.not_le.mp c_349) (fX_5_5 t_348) (fX_5_1 t_348) (by decide)) (by decide)) (by decide))
                        refine th_iald hx hb hK hP 32 (by decide) (Eq.trans (Eq.trans (hLF_123.1 32 rfl (by decide)) (Eq.trans (hLF_54.1 32 rfl (by decide)) (Eq.trans (th_un e_343 (by decide)) (Eq.trans (hLF_8.1 32 rfl (by decide)) (th_un e_2 (by decide)))))) (sX_32 hT0)) n_384 dX4_advance_218 ?_
                        refine lv_bipush (v := 59) hx hb dX4_advance_219 (by decide) ?_
                        refine lv_icmp_ne (tgt := 228) hx hb dX4_advance_221 (by decide) (fun (c_385 : ¬ ((ga (C 32) (gi (K123 5) 4).toNatClampNeg) = 59)) => ?_) (fun (c_385 : (ga (C 32) (gi (K123 5) 4).toNatClampNeg) = 59) => ?_)
                        · refine lv_iconst (v := 4) hx hb dX4_advance_228 (by decide) ?_
                          refine th_put (Tp := TyX a E) (Rl := fr [(5, 6)] [] C) (ci := 4) (v := .int 4) (ty := .int) (CC := RX4) (T := TX4) (N := 6) hx hb htg ig_4 tyX4 tyX4_ok nmX4 hown hK hP hD hS 5 (by decide) (sX_5 hT) rfl 3 (by decide) (htg _ q_222) (fun _ h9 => h9) rfl (by decide +kernel) rfl rfl (Nat.le_of_ble_eq_true rfl) (hT.up 5 ⟨rfl, (fX_5_1 hT), (fX_5_2 hT), (fX_5_4 hT), (fX_5_5 hT)⟩) (fr_st hF (by decide) (by decide)) dX4_advance_229 (fun C_386 H locs e_387 hT hF hP hD hS => ?_)
                          have t_388 := hT
                          refine lv_aload_n hx hb dX4_advance_232 rfl (lv_at hl 0 rfl) ?_
                          refine lv_aload_n hx hb dX4_advance_233 rfl (lv_at hl 0 rfl) ?_
                          refine va_get (D := D) (ci := 4) (v := .int (gi (K123 5) 4)) (C := RX4) (T := TX4) (N := 6) hx hb htg ig_4 hown hK hP 5 (oh_wg (by decide) (sX_5 hT)) rfl 4 (by decide) (htg _ q_223) (fun _ h9 => h9) (oh_fv (c := C_386 5) (j := 4) rfl (show gi (C_386 5) 4 = gi (K123 5) 4 by rw [e_387]; rfl)) dX4_advance_234 ?_
                          refine lv_iconst (v := 1) hx hb dX4_advance_237 (by decide) ?_
                          refine lv_iadd hx hb dX4_advance_238 ?_
                          refine th_put (Tp := TyX a E) (Rl := fr [(5, 6)] [] C) (ci := 4) (v := .int ((gi (K123 5) 4) + 1)) (ty := .int) (CC := RX4) (T := TX4) (N := 6) hx hb htg ig_4 tyX4 tyX4_ok nmX4 hown hK hP hD hS 5 (by decide) (sX_5 hT) rfl 5 (by decide) (htg _ q_224) (fun _ h9 => h9) rfl (by decide +kernel) rfl rfl (Nat.le_of_ble_eq_true rfl) (hT.up 5 ⟨rfl, (fX_5_1 hT), (fX_5_2 hT), (fX_5_4 hT), (rg_w (rg_add (lo := 1) (hi := 250) (rn_ltu (u' := 249) c_383 (fX_5_4 t_348) (rn_ltl (l' := 1) (Int32.not_le.mp c_349) (fX_5_5 t_348) (fX_5_1 t_348) (by decide)) (by decide)) (rg_c (v := 1) (lo := 1) (hi := 1) (by decide)) (by decide)) (by decide))⟩) (fr_st hF (by decide) (by decide)) dX4_advance_239 (fun C_389 H locs e_390 hT hF hP hD hS => ?_)
                          have t_391 := hT
                          have hM_392 : ¬ (upto pB (ga (C 32)) (gi (C 5) 1) (gi (C 5) 5)) < (upto pD (ga (C 32)) (gi (C 5) 1) (upto pB (ga (C 32)) (gi (C 5) 1) (gi (C 5) 5))) := by rw [← (Eq.trans (upto_stop (p := pD) (fun h8 => pD_lo c_381 h8.2)).symm hs_123.2.2.2), ← hs_123.2.1]; exact Int32.not_lt.mpr c_382
                          have tk_393 := (tk_wrg hs_123.2.2.1 hM_392 (fun h8 => absurd (oh_lee (by rw [← hs_123.2.1] at h8; exact h8) hs_123.1.symm) (Int32.not_le.mpr c_383)) (by rw [← hs_123.2.1]; exact c_385))
                          rw [hQ]
                          exact W.vret hx hb hr (fun t ht hW => ⟨⟨C_389, rfl, ⟨hT, hF, ⟨(Eq.trans (Eq.trans (show gi (C_389 5) 2 = gi (C_386 5) 2 by rw [e_390]; rfl) (show gi (C_386 5) 2 = gi (K123 5) 2 by rw [e_387]; rfl)) hv_123), (px_mk (Eq.trans (Eq.trans (show gi (C_389 5) 1 = gi (C_386 5) 1 by rw [e_390]; rfl) (show gi (C_386 5) 1 = gi (K123 5) 1 by rw [e_387]; rfl)) hs_123.1) (Eq.trans (Eq.trans (show gi (C_389 5) 2 = gi (C_386 5) 2 by rw [e_390]; rfl) (show gi (C_386 5) 2 = gi (K123 5) 2 by rw [e_387]; rfl)) hv_123) (Eq.trans (Eq.trans (show gi (C_389 5) 3 = gi (C_386 5) 3 by rw [e_390]; rfl) (show gi (C_386 5) 3 = (4 : Int32) by rw [e_387]; rfl)) tk_393.1) (Eq.trans (Eq.trans (show gi (C_389 5) 4 = gi (C_386 5) 4 by rw [e_390]; rfl) (show gi (C_386 5) 4 = gi (K123 5) 4 by rw [e_387]; rfl)) hs_123.2.1) (Eq.trans (Eq.trans (show gi (C_389 5) 5 = ((gi (K123 5) 4) + 1) by rw [e_390]; rfl) (congrArg (fun z => z + 1) hs_123.2.1)) tk_393.2))⟩⟩, ⟨by rw [ht]; exact hP, hD⟩⟩, hS.F ht⟩) hS.2.2 dX4_advance_242
                        · refine lv_iconst (v := 3) hx hb dX4_advance_224 (by decide) ?_
                          refine lv_goto (tgt := 229) hx hb dX4_advance_225 (by decide) ?_
                          refine th_put (Tp := TyX a E) (Rl := fr [(5, 6)] [] C) (ci := 4) (v := .int 3) (ty := .int) (CC := RX4) (T := TX4) (N := 6) hx hb htg ig_4 tyX4 tyX4_ok nmX4 hown hK hP hD hS 5 (by decide) (sX_5 hT) rfl 3 (by decide) (htg _ q_222) (fun _ h9 => h9) rfl (by decide +kernel) rfl rfl (Nat.le_of_ble_eq_true rfl) (hT.up 5 ⟨rfl, (fX_5_1 hT), (fX_5_2 hT), (fX_5_4 hT), (fX_5_5 hT)⟩) (fr_st hF (by decide) (by decide)) dX4_advance_229 (fun C_394 H locs e_395 hT hF hP hD hS => ?_)
                          have t_396 := hT
                          refine lv_aload_n hx hb dX4_advance_232 rfl (lv_at hl 0 rfl) ?_
                          refine lv_aload_n hx hb dX4_advance_233 rfl (lv_at hl 0 rfl) ?_
                          refine va_get (D := D) (ci := 4) (v := .int (gi (K123 5) 4)) (C := RX4) (T := TX4) (N := 6) hx hb htg ig_4 hown hK hP 5 (oh_wg (by decide) (sX_5 hT)) rfl 4 (by decide) (htg _ q_223) (fun _ h9 => h9) (oh_fv (c := C_394 5) (j := 4) rfl (show gi (C_394 5) 4 = gi (K123 5) 4 by rw [e_395]; rfl)) dX4_advance_234 ?_
                          refine lv_iconst (v := 1) hx hb dX4_advance_237 (by decide) ?_
                          refine lv_iadd hx hb dX4_advance_238 ?_
                          refine th_put (Tp := TyX a E) (Rl := fr [(5, 6)] [] C) (ci := 4) (v := .int ((gi (K123 5) 4) + 1)) (ty := .int) (CC := RX4) (T := TX4) (N := 6) hx hb htg ig_4 tyX4 tyX4_ok nmX4 hown hK hP hD hS 5 (by decide) (sX_5 hT) rfl 5 (by decide) (htg _ q_224) (fun _ h9 => h9) rfl (by decide +kernel) rfl rfl (Nat.le_of_ble_eq_true rfl) (hT.up 5 ⟨rfl, (fX_5_1 hT), (fX_5_2 hT), (fX_5_4 hT), (rg_w (rg_add (lo := 1) (hi := 250) (rn_ltu (u' := 249) c_383 (fX_5_4 t_348) (rn_ltl (l' := 1) (Int32.not_le.mp c_349) (fX_5_5 t_348) (fX_5_1 t_348) (by decide)) (by decide)) (rg_c (v := 1) (lo := 1) (hi := 1) (by decide)) (by decide)) (by decide))⟩) (fr_st hF (by decide) (by decide)) dX4_advance_239 (fun C_397 H locs e_398 hT hF hP hD hS => ?_)
                          have t_399 := hT
                          have hM_400 : ¬ (upto pB (ga (C 32)) (gi (C 5) 1) (gi (C 5) 5)) < (upto pD (ga (C 32)) (gi (C 5) 1) (upto pB (ga (C 32)) (gi (C 5) 1) (gi (C 5) 5))) := by rw [← (Eq.trans (upto_stop (p := pD) (fun h8 => pD_lo c_381 h8.2)).symm hs_123.2.2.2), ← hs_123.2.1]; exact Int32.not_lt.mpr c_382
                          have tk_401 := (tk_sgn hs_123.2.2.1 hM_400 (fun h8 => absurd (oh_lee (by rw [← hs_123.2.1] at h8; exact h8) hs_123.1.symm) (Int32.not_le.mpr c_383)) (by rw [← hs_123.2.1]; exact c_385))
                          rw [hQ]
                          exact W.vret hx hb hr (fun t ht hW => ⟨⟨C_397, rfl, ⟨hT, hF, ⟨(Eq.trans (Eq.trans (show gi (C_397 5) 2 = gi (C_394 5) 2 by rw [e_398]; rfl) (show gi (C_394 5) 2 = gi (K123 5) 2 by rw [e_395]; rfl)) hv_123), (px_mk (Eq.trans (Eq.trans (show gi (C_397 5) 1 = gi (C_394 5) 1 by rw [e_398]; rfl) (show gi (C_394 5) 1 = gi (K123 5) 1 by rw [e_395]; rfl)) hs_123.1) (Eq.trans (Eq.trans (show gi (C_397 5) 2 = gi (C_394 5) 2 by rw [e_398]; rfl) (show gi (C_394 5) 2 = gi (K123 5) 2 by rw [e_395]; rfl)) hv_123) (Eq.trans (Eq.trans (show gi (C_397 5) 3 = gi (C_394 5) 3 by rw [e_398]; rfl) (show gi (C_394 5) 3 = (3 : Int32) by rw [e_395]; rfl)) tk_401.1) (Eq.trans (Eq.trans (show gi (C_397 5) 4 = gi (C_394 5) 4 by rw [e_398]; rfl) (show gi (C_394 5) 4 = gi (K123 5) 4 by rw [e_395]; rfl)) hs_123.2.1) (Eq.trans (Eq.trans (show gi (C_397 5) 5 = ((gi (K123 5) 4) + 1) by rw [e_398]; rfl) (congrArg (fun z => z + 1) hs_123.2.1)) tk_401.2))⟩⟩, ⟨by rw [ht]; exact hP, hD⟩⟩, hS.F ht⟩) hS.2.2 dX4_advance_242
                      · refine lv_aload_n hx hb dX4_advance_203 rfl (lv_at hl 0 rfl) ?_
                        refine lv_iconst (v := 0) hx hb dX4_advance_204 (by decide) ?_
                        refine th_put (Tp := TyX a E) (Rl := fr [(5, 6)] [] C) (ci := 4) (v := .int 0) (ty := .int) (CC := RX4) (T := TX4) (N := 6) hx hb htg ig_4 tyX4 tyX4_ok nmX4 hown hK hP hD hS 5 (by decide) (sX_5 hT) rfl 3 (by decide) (htg _ q_222) (fun _ h9 => h9) rfl (by decide +kernel) rfl rfl (Nat.le_of_ble_eq_true rfl) (hT.up 5 ⟨rfl, (fX_5_1 hT), (fX_5_2 hT), (fX_5_4 hT), (fX_5_5 hT)⟩) (fr_st hF (by decide) (by decide)) dX4_advance_205 (fun C_402 H locs e_403 hT hF hP hD hS => ?_)
                        have t_404 := hT
                        have hM_405 : ¬ (upto pB (ga (C 32)) (gi (C 5) 1) (gi (C 5) 5)) < (upto pD (ga (C 32)) (gi (C 5) 1) (upto pB (ga (C 32)) (gi (C 5) 1) (gi (C 5) 5))) := by rw [← (Eq.trans (upto_stop (p := pD) (fun h8 => pD_lo c_381 h8.2)).symm hs_123.2.2.2), ← hs_123.2.1]; exact Int32.not_lt.mpr c_382
                        have hZ_406 : gi (K123 5) 5 = (upto pB (ga (C 32)) (gi (C 5) 1) (gi (C 5) 5)) := Eq.trans (Eq.trans (upto_stop (p := pD) (fun h8 => pD_lo c_381 h8.2)).symm hs_123.2.2.2) (upto_nn (fX_5_1 hT0) (by rw [← hs_123.2.1]; exact (rg_w (lo := 0) (hi := 250) (rn_lel (Int32.not_lt.mp c_383) (rn_ltl (l' := 1) (Int32.not_le.mp c_349) (fX_5_5 t_348) (fX_5_1 t_348) (by decide)) (fX_5_4 t_348)) (by decide))) hM_405)
                        have tk_407 := (tk_end hs_123.2.2.1 hM_405 (by rw [← hs_123.2.1, ← hs_123.1]; exact (Int32.not_lt.mp c_383)))
                        rw [hQ]
                        exact W.vret hx hb hr (fun t ht hW => ⟨⟨C_402, rfl, ⟨hT, hF, ⟨(Eq.trans (show gi (C_402 5) 2 = gi (K123 5) 2 by rw [e_403]; rfl) hv_123), (px_mk (Eq.trans (show gi (C_402 5) 1 = gi (K123 5) 1 by rw [e_403]; rfl) hs_123.1) (Eq.trans (show gi (C_402 5) 2 = gi (K123 5) 2 by rw [e_403]; rfl) hv_123) (Eq.trans (show gi (C_402 5) 3 = (0 : Int32) by rw [e_403]; rfl) tk_407.1) (Eq.trans (show gi (C_402 5) 4 = gi (K123 5) 4 by rw [e_403]; rfl) hs_123.2.1) (Eq.trans (Eq.trans (show gi (C_402 5) 5 = gi (K123 5) 5 by rw [e_403]; rfl) hZ_406) tk_407.2))⟩⟩, ⟨by rw [ht]; exact hP, hD⟩⟩, hS.F ht⟩) hS.2.2 dX4_advance_208
                    · refine lv_aload_n hx hb dX4_advance_186 rfl (lv_at hl 0 rfl) ?_
                      refine lv_iconst (v := 2) hx hb dX4_advance_187 (by decide) ?_
                      refine th_put (Tp := TyX a E) (Rl := fr [(5, 6)] [] C) (ci := 4) (v := .int 2) (ty := .int) (CC := RX4) (T := TX4) (N := 6) hx hb htg ig_4 tyX4 tyX4_ok nmX4 hown hK hP hD hS 5 (by decide) (sX_5 hT) rfl 3 (by decide) (htg _ q_222) (fun _ h9 => h9) rfl (by decide +kernel) rfl rfl (Nat.le_of_ble_eq_true rfl) (hT.up 5 ⟨rfl, (fX_5_1 hT), (fX_5_2 hT), (fX_5_4 hT), (fX_5_5 hT)⟩) (fr_st hF (by decide) (by decide)) dX4_advance_188 (fun C_408 H locs e_409 hT hF hP hD hS => ?_)
                      have t_410 := hT
                      have tk_411 := (tk_num hs_123.2.2.1 (Eq.trans (upto_stop (p := pD) (fun h8 => pD_lo c_381 h8.2)).symm hs_123.2.2.2) (by rw [← hs_123.2.1]; exact (Int32.not_le.mp c_382)))
                      rw [hQ]
                      exact W.vret hx hb hr (fun t ht hW => ⟨⟨C_408, rfl, ⟨hT, hF, ⟨(Eq.trans (show gi (C_408 5) 2 = gi (K123 5) 2 by rw [e_409]; rfl) hv_123), (px_mk (Eq.trans (show gi (C_408 5) 1 = gi (K123 5) 1 by rw [e_409]; rfl) hs_123.1) (Eq.trans (show gi (C_408 5) 2 = gi (K123 5) 2 by rw [e_409]; rfl) hv_123) (Eq.trans (show gi (C_408 5) 3 = (2 : Int32) by rw [e_409]; rfl) tk_411.1) (Eq.trans (show gi (C_408 5) 4 = gi (K123 5) 4 by rw [e_409]; rfl) hs_123.2.1) (Eq.trans (show gi (C_408 5) 5 = gi (K123 5) 5 by rw [e_409]; rfl) tk_411.2))⟩⟩, ⟨by rw [ht]; exact hP, hD⟩⟩, hS.F ht⟩) hS.2.2 dX4_advance_191
                  · refine lv_aload_n hx hb dX4_advance_148 rfl (lv_at hl 0 rfl) ?_
                    refine va_get (D := D) (ci := 4) (v := .ref (a 32)) (C := RX4) (T := TX4) (N := 6) hx hb htg ig_4 hown hK hP 5 (oh_wg (by decide) (sX_5 hT)) rfl 0 (by decide) (htg _ q_217) (fun _ h9 => h9) rfl dX4_advance_149 ?_
                    refine lv_aload_n hx hb dX4_advance_152 rfl (lv_at hl 0 rfl) ?_
                    refine va_get (D := D) (ci := 4) (v := .int (gi (K123 5) 5)) (C := RX4) (T := TX4) (N := 6) hx hb htg ig_4 hown hK hP 5 (oh_wg (by decide) (sX_5 hT)) rfl 5 (by decide) (htg _ q_224) (fun _ h9 => h9) rfl dX4_advance_153 ?_
                    have n_412 : vp_in (gi (K123 5) 5) 250 := (rg_in (rn_ltu (u' := 249) (Int32.not_le.mp c_349) (fX_5_5 t_348) (fX_5_1 t_348) (by decide)) (by decide))
                    refine th_iald hx hb hK hP 32 (by decide) (Eq.trans (Eq.trans (hLF_123.1 32 rfl (by decide)) (Eq.trans (hLF_54.1 32 rfl (by decide)) (Eq.trans (th_un e_343 (by decide)) (Eq.trans (hLF_8.1 32 rfl (by decide)) (th_un e_2 (by decide)))))) (sX_32 hT0)) n_412 dX4_advance_156 ?_
                    refine lv_bipush (v := 57) hx hb dX4_advance_157 (by decide) ?_
                    refine lv_icmp_gt (tgt := 175) hx hb dX4_advance_159 (by decide) (fun (c_413 : (57 : Int32) < (ga (C 32) (gi (K123 5) 5).toNatClampNeg)) => ?_) (fun (c_413 : ¬ ((57 : Int32) < (ga (C 32) (gi (K123 5) 5).toNatClampNeg))) => ?_)
                    · refine lv_aload_n hx hb dX4_advance_175 rfl (lv_at hl 0 rfl) ?_
                      refine va_get (D := D) (ci := 4) (v := .int (gi (K123 5) 5)) (C := RX4) (T := TX4) (N := 6) hx hb htg ig_4 hown hK hP 5 (oh_wg (by decide) (sX_5 hT)) rfl 5 (by decide) (htg _ q_224) (fun _ h9 => h9) rfl dX4_advance_176 ?_
                      refine lv_aload_n hx hb dX4_advance_179 rfl (lv_at hl 0 rfl) ?_
                      refine va_get (D := D) (ci := 4) (v := .int (gi (K123 5) 4)) (C := RX4) (T := TX4) (N := 6) hx hb htg ig_4 hown hK hP 5 (oh_wg (by decide) (sX_5 hT)) rfl 4 (by decide) (htg _ q_223) (fun _ h9 => h9) rfl dX4_advance_180 ?_
                      refine lv_icmp_le (tgt := 192) hx hb dX4_advance_183 (by decide) (fun (c_414 : (gi (K123 5) 5) ≤ (gi (K123 5) 4)) => ?_) (fun (c_414 : ¬ ((gi (K123 5) 5) ≤ (gi (K123 5) 4))) => ?_)
                      · refine lv_aload_n hx hb dX4_advance_192 rfl (lv_at hl 0 rfl) ?_
                        refine va_get (D := D) (ci := 4) (v := .int (gi (K123 5) 4)) (C := RX4) (T := TX4) (N := 6) hx hb htg ig_4 hown hK hP 5 (oh_wg (by decide) (sX_5 hT)) rfl 4 (by decide) (htg _ q_223) (fun _ h9 => h9) rfl dX4_advance_193 ?_
                        refine lv_aload_n hx hb dX4_advance_196 rfl (lv_at hl 0 rfl) ?_
                        refine va_get (D := D) (ci := 4) (v := .int (gi (K123 5) 1)) (C := RX4) (T := TX4) (N := 6) hx hb htg ig_4 hown hK hP 5 (oh_wg (by decide) (sX_5 hT)) rfl 1 (by decide) (htg _ q_218) (fun _ h9 => h9) rfl dX4_advance_197 ?_
                        refine lv_icmp_lt (tgt := 209) hx hb dX4_advance_200 (by decide) (fun (c_415 : (gi (K123 5) 4) < (gi (K123 5) 1)) => ?_) (fun (c_415 : ¬ ((gi (K123 5) 4) < (gi (K123 5) 1))) => ?_)
                        · refine lv_aload_n hx hb dX4_advance_209 rfl (lv_at hl 0 rfl) ?_
                          refine lv_aload_n hx hb dX4_advance_210 rfl (lv_at hl 0 rfl) ?_
                          refine va_get (D := D) (ci := 4) (v := .ref (a 32)) (C := RX4) (T := TX4) (N := 6) hx hb htg ig_4 hown hK hP 5 (oh_wg (by decide) (sX_5 hT)) rfl 0 (by decide) (htg _ q_217) (fun _ h9 => h9) rfl dX4_advance_211 ?_
                          refine lv_aload_n hx hb dX4_advance_214 rfl (lv_at hl 0 rfl) ?_
                          refine va_get (D := D) (ci := 4) (v := .int (gi (K123 5) 4)) (C := RX4) (T := TX4) (N := 6) hx hb htg ig_4 hown hK hP 5 (oh_wg (by decide) (sX_5 hT)) rfl 4 (by decide) (htg _ q_223) (fun _ h9 => h9) rfl dX4_advance_215 ?_
                          have n_416 : vp_in (gi (K123 5) 4) 250 := (rg_in (rn_ltu (u' := 249) c_415 (fX_5_4 t_348) (rn_ltl (l' := 1) (Int32.not_le.mp c_349) (fX_5_5 t_348) (fX_5_1 t_348) (by decide)) (by decide)) (by decide))
                          refine th_iald hx hb hK hP 32 (by decide) (Eq.trans (Eq.trans (hLF_123.1 32 rfl (by decide)) (Eq.trans (hLF_54.1 32 rfl (by decide)) (Eq.trans (th_un e_343 (by decide)) (Eq.trans (hLF_8.1 32 rfl (by decide)) (th_un e_2 (by decide)))))) (sX_32 hT0)) n_416 dX4_advance_218 ?_
                          refine lv_bipush (v := 59) hx hb dX4_advance_219 (by decide) ?_
                          refine lv_icmp_ne (tgt := 228) hx hb dX4_advance_221 (by decide) (fun (c_417 : ¬ ((ga (C 32) (gi (K123 5) 4).toNatClampNeg) = 59)) => ?_) (fun (c_417 : (ga (C 32) (gi (K123 5) 4).toNatClampNeg) = 59) => ?_)
                          · refine lv_iconst (v := 4) hx hb dX4_advance_228 (by decide) ?_
                            refine th_put (Tp := TyX a E) (Rl := fr [(5, 6)] [] C) (ci := 4) (v := .int 4) (ty := .int) (CC := RX4) (T := TX4) (N := 6) hx hb htg ig_4 tyX4 tyX4_ok nmX4 hown hK hP hD hS 5 (by decide) (sX_5 hT) rfl 3 (by decide) (htg _ q_222) (fun _ h9 => h9) rfl (by decide +kernel) rfl rfl (Nat.le_of_ble_eq_true rfl) (hT.up 5 ⟨rfl, (fX_5_1 hT), (fX_5_2 hT), (fX_5_4 hT), (fX_5_5 hT)⟩) (fr_st hF (by decide) (by decide)) dX4_advance_229 (fun C_418 H locs e_419 hT hF hP hD hS => ?_)
                            have t_420 := hT
                            refine lv_aload_n hx hb dX4_advance_232 rfl (lv_at hl 0 rfl) ?_
                            refine lv_aload_n hx hb dX4_advance_233 rfl (lv_at hl 0 rfl) ?_
                            refine va_get (D := D) (ci := 4) (v := .int (gi (K123 5) 4)) (C := RX4) (T := TX4) (N := 6) hx hb htg ig_4 hown hK hP 5 (oh_wg (by decide) (sX_5 hT)) rfl 4 (by decide) (htg _ q_223) (fun _ h9 => h9) (oh_fv (c := C_418 5) (j := 4) rfl (show gi (C_418 5) 4 = gi (K123 5) 4 by rw [e_419]; rfl)) dX4_advance_234 ?_
                            refine lv_iconst (v := 1) hx hb dX4_advance_237 (by decide) ?_
                            refine lv_iadd hx hb dX4_advance_238 ?_
                            refine th_put (Tp := TyX a E) (Rl := fr [(5, 6)] [] C) (ci := 4) (v := .int ((gi (K123 5) 4) + 1)) (ty := .int) (CC := RX4) (T := TX4) (N := 6) hx hb htg ig_4 tyX4 tyX4_ok nmX4 hown hK hP hD hS 5 (by decide) (sX_5 hT) rfl 5 (by decide) (htg _ q_224) (fun _ h9 => h9) rfl (by decide +kernel) rfl rfl (Nat.le_of_ble_eq_true rfl) (hT.up 5 ⟨rfl, (fX_5_1 hT), (fX_5_2 hT), (fX_5_4 hT), (rg_w (rg_add (lo := 1) (hi := 250) (rn_ltu (u' := 249) c_415 (fX_5_4 t_348) (rn_ltl (l' := 1) (Int32.not_le.mp c_349) (fX_5_5 t_348) (fX_5_1 t_348) (by decide)) (by decide)) (rg_c (v := 1) (lo := 1) (hi := 1) (by decide)) (by decide)) (by decide))⟩) (fr_st hF (by decide) (by decide)) dX4_advance_239 (fun C_421 H locs e_422 hT hF hP hD hS => ?_)
                            have t_423 := hT
                            have hM_424 : ¬ (upto pB (ga (C 32)) (gi (C 5) 1) (gi (C 5) 5)) < (upto pD (ga (C 32)) (gi (C 5) 1) (upto pB (ga (C 32)) (gi (C 5) 1) (gi (C 5) 5))) := by rw [← (Eq.trans (upto_stop (p := pD) (fun h8 => pD_hi c_413 h8.2)).symm hs_123.2.2.2), ← hs_123.2.1]; exact Int32.not_lt.mpr c_414
                            have tk_425 := (tk_wrg hs_123.2.2.1 hM_424 (fun h8 => absurd (oh_lee (by rw [← hs_123.2.1] at h8; exact h8) hs_123.1.symm) (Int32.not_le.mpr c_415)) (by rw [← hs_123.2.1]; exact c_417))
                            rw [hQ]
                            exact W.vret hx hb hr (fun t ht hW => ⟨⟨C_421, rfl, ⟨hT, hF, ⟨(Eq.trans (Eq.trans (show gi (C_421 5) 2 = gi (C_418 5) 2 by rw [e_422]; rfl) (show gi (C_418 5) 2 = gi (K123 5) 2 by rw [e_419]; rfl)) hv_123), (px_mk (Eq.trans (Eq.trans (show gi (C_421 5) 1 = gi (C_418 5) 1 by rw [e_422]; rfl) (show gi (C_418 5) 1 = gi (K123 5) 1 by rw [e_419]; rfl)) hs_123.1) (Eq.trans (Eq.trans (show gi (C_421 5) 2 = gi (C_418 5) 2 by rw [e_422]; rfl) (show gi (C_418 5) 2 = gi (K123 5) 2 by rw [e_419]; rfl)) hv_123) (Eq.trans (Eq.trans (show gi (C_421 5) 3 = gi (C_418 5) 3 by rw [e_422]; rfl) (show gi (C_418 5) 3 = (4 : Int32) by rw [e_419]; rfl)) tk_425.1) (Eq.trans (Eq.trans (show gi (C_421 5) 4 = gi (C_418 5) 4 by rw [e_422]; rfl) (show gi (C_418 5) 4 = gi (K123 5) 4 by rw [e_419]; rfl)) hs_123.2.1) (Eq.trans (Eq.trans (show gi (C_421 5) 5 = ((gi (K123 5) 4) + 1) by rw [e_422]; rfl) (congrArg (fun z => z + 1) hs_123.2.1)) tk_425.2))⟩⟩, ⟨by rw [ht]; exact hP, hD⟩⟩, hS.F ht⟩) hS.2.2 dX4_advance_242
                          · refine lv_iconst (v := 3) hx hb dX4_advance_224 (by decide) ?_
                            refine lv_goto (tgt := 229) hx hb dX4_advance_225 (by decide) ?_
                            refine th_put (Tp := TyX a E) (Rl := fr [(5, 6)] [] C) (ci := 4) (v := .int 3) (ty := .int) (CC := RX4) (T := TX4) (N := 6) hx hb htg ig_4 tyX4 tyX4_ok nmX4 hown hK hP hD hS 5 (by decide) (sX_5 hT) rfl 3 (by decide) (htg _ q_222) (fun _ h9 => h9) rfl (by decide +kernel) rfl rfl (Nat.le_of_ble_eq_true rfl) (hT.up 5 ⟨rfl, (fX_5_1 hT), (fX_5_2 hT), (fX_5_4 hT), (fX_5_5 hT)⟩) (fr_st hF (by decide) (by decide)) dX4_advance_229 (fun C_426 H locs e_427 hT hF hP hD hS => ?_)
                            have t_428 := hT
                            refine lv_aload_n hx hb dX4_advance_232 rfl (lv_at hl 0 rfl) ?_
                            refine lv_aload_n hx hb dX4_advance_233 rfl (lv_at hl 0 rfl) ?_
                            refine va_get (D := D) (ci := 4) (v := .int (gi (K123 5) 4)) (C := RX4) (T := TX4) (N := 6) hx hb htg ig_4 hown hK hP 5 (oh_wg (by decide) (sX_5 hT)) rfl 4 (by decide) (htg _ q_223) (fun _ h9 => h9) (oh_fv (c := C_426 5) (j := 4) rfl (show gi (C_426 5) 4 = gi (K123 5) 4 by rw [e_427]; rfl)) dX4_advance_234 ?_
                            refine lv_iconst (v := 1) hx hb dX4_advance_237 (by decide) ?_
                            refine lv_iadd hx hb dX4_advance_238 ?_
                            refine th_put (Tp := TyX a E) (Rl := fr [(5, 6)] [] C) (ci := 4) (v := .int ((gi (K123 5) 4) + 1)) (ty := .int) (CC := RX4) (T := TX4) (N := 6) hx hb htg ig_4 tyX4 tyX4_ok nmX4 hown hK hP hD hS 5 (by decide) (sX_5 hT) rfl 5 (by decide) (htg _ q_224) (fun _ h9 => h9) rfl (by decide +kernel) rfl rfl (Nat.le_of_ble_eq_true rfl) (hT.up 5 ⟨rfl, (fX_5_1 hT), (fX_5_2 hT), (fX_5_4 hT), (rg_w (rg_add (lo := 1) (hi := 250) (rn_ltu (u' := 249) c_415 (fX_5_4 t_348) (rn_ltl (l' := 1) (Int32.not_le.mp c_349) (fX_5_5 t_348) (fX_5_1 t_348) (by decide)) (by decide)) (rg_c (v := 1) (lo := 1) (hi := 1) (by decide)) (by decide)) (by decide))⟩) (fr_st hF (by decide) (by decide)) dX4_advance_239 (fun C_429 H locs e_430 hT hF hP hD hS => ?_)
                            have t_431 := hT
                            have hM_432 : ¬ (upto pB (ga (C 32)) (gi (C 5) 1) (gi (C 5) 5)) < (upto pD (ga (C 32)) (gi (C 5) 1) (upto pB (ga (C 32)) (gi (C 5) 1) (gi (C 5) 5))) := by rw [← (Eq.trans (upto_stop (p := pD) (fun h8 => pD_hi c_413 h8.2)).symm hs_123.2.2.2), ← hs_123.2.1]; exact Int32.not_lt.mpr c_414
                            have tk_433 := (tk_sgn hs_123.2.2.1 hM_432 (fun h8 => absurd (oh_lee (by rw [← hs_123.2.1] at h8; exact h8) hs_123.1.symm) (Int32.not_le.mpr c_415)) (by rw [← hs_123.2.1]; exact c_417))
                            rw [hQ]
                            exact W.vret hx hb hr (fun t ht hW => ⟨⟨C_429, rfl, ⟨hT, hF, ⟨(Eq.trans (Eq.trans (show gi (C_429 5) 2 = gi (C_426 5) 2 by rw [e_430]; rfl) (show gi (C_426 5) 2 = gi (K123 5) 2 by rw [e_427]; rfl)) hv_123), (px_mk (Eq.trans (Eq.trans (show gi (C_429 5) 1 = gi (C_426 5) 1 by rw [e_430]; rfl) (show gi (C_426 5) 1 = gi (K123 5) 1 by rw [e_427]; rfl)) hs_123.1) (Eq.trans (Eq.trans (show gi (C_429 5) 2 = gi (C_426 5) 2 by rw [e_430]; rfl) (show gi (C_426 5) 2 = gi (K123 5) 2 by rw [e_427]; rfl)) hv_123) (Eq.trans (Eq.trans (show gi (C_429 5) 3 = gi (C_426 5) 3 by rw [e_430]; rfl) (show gi (C_426 5) 3 = (3 : Int32) by rw [e_427]; rfl)) tk_433.1) (Eq.trans (Eq.trans (show gi (C_429 5) 4 = gi (C_426 5) 4 by rw [e_430]; rfl) (show gi (C_426 5) 4 = gi (K123 5) 4 by rw [e_427]; rfl)) hs_123.2.1) (Eq.trans (Eq.trans (show gi (C_429 5) 5 = ((gi (K123 5) 4) + 1) by rw [e_430]; rfl) (congrArg (fun z => z + 1) hs_123.2.1)) tk_433.2))⟩⟩, ⟨by rw [ht]; exact hP, hD⟩⟩, hS.F ht⟩) hS.2.2 dX4_advance_242
                        · refine lv_aload_n hx hb dX4_advance_203 rfl (lv_at hl 0 rfl) ?_
                          refine lv_iconst (v := 0) hx hb dX4_advance_204 (by decide) ?_
                          refine th_put (Tp := TyX a E) (Rl := fr [(5, 6)] [] C) (ci := 4) (v := .int 0) (ty := .int) (CC := RX4) (T := TX4) (N := 6) hx hb htg ig_4 tyX4 tyX4_ok nmX4 hown hK hP hD hS 5 (by decide) (sX_5 hT) rfl 3 (by decide) (htg _ q_222) (fun _ h9 => h9) rfl (by decide +kernel) rfl rfl (Nat.le_of_ble_eq_true rfl) (hT.up 5 ⟨rfl, (fX_5_1 hT), (fX_5_2 hT), (fX_5_4 hT), (fX_5_5 hT)⟩) (fr_st hF (by decide) (by decide)) dX4_advance_205 (fun C_434 H locs e_435 hT hF hP hD hS => ?_)
                          have t_436 := hT
                          have hM_437 : ¬ (upto pB (ga (C 32)) (gi (C 5) 1) (gi (C 5) 5)) < (upto pD (ga (C 32)) (gi (C 5) 1) (upto pB (ga (C 32)) (gi (C 5) 1) (gi (C 5) 5))) := by rw [← (Eq.trans (upto_stop (p := pD) (fun h8 => pD_hi c_413 h8.2)).symm hs_123.2.2.2), ← hs_123.2.1]; exact Int32.not_lt.mpr c_414
                          have hZ_438 : gi (K123 5) 5 = (upto pB (ga (C 32)) (gi (C 5) 1) (gi (C 5) 5)) := Eq.trans (Eq.trans (upto_stop (p := pD) (fun h8 => pD_hi c_413 h8.2)).symm hs_123.2.2.2) (upto_nn (fX_5_1 hT0) (by rw [← hs_123.2.1]; exact (rg_w (lo := 0) (hi := 250) (rn_lel (Int32.not_lt.mp c_415) (rn_ltl (l' := 1) (Int32.not_le.mp c_349) (fX_5_5 t_348) (fX_5_1 t_348) (by decide)) (fX_5_4 t_348)) (by decide))) hM_437)
                          have tk_439 := (tk_end hs_123.2.2.1 hM_437 (by rw [← hs_123.2.1, ← hs_123.1]; exact (Int32.not_lt.mp c_415)))
                          rw [hQ]
                          exact W.vret hx hb hr (fun t ht hW => ⟨⟨C_434, rfl, ⟨hT, hF, ⟨(Eq.trans (show gi (C_434 5) 2 = gi (K123 5) 2 by rw [e_435]; rfl) hv_123), (px_mk (Eq.trans (show gi (C_434 5) 1 = gi (K123 5) 1 by rw [e_435]; rfl) hs_123.1) (Eq.trans (show gi (C_434 5) 2 = gi (K123 5) 2 by rw [e_435]; rfl) hv_123) (Eq.trans (show gi (C_434 5) 3 = (0 : Int32) by rw [e_435]; rfl) tk_439.1) (Eq.trans (show gi (C_434 5) 4 = gi (K123 5) 4 by rw [e_435]; rfl) hs_123.2.1) (Eq.trans (Eq.trans (show gi (C_434 5) 5 = gi (K123 5) 5 by rw [e_435]; rfl) hZ_438) tk_439.2))⟩⟩, ⟨by rw [ht]; exact hP, hD⟩⟩, hS.F ht⟩) hS.2.2 dX4_advance_208
                      · refine lv_aload_n hx hb dX4_advance_186 rfl (lv_at hl 0 rfl) ?_
                        refine lv_iconst (v := 2) hx hb dX4_advance_187 (by decide) ?_
                        refine th_put (Tp := TyX a E) (Rl := fr [(5, 6)] [] C) (ci := 4) (v := .int 2) (ty := .int) (CC := RX4) (T := TX4) (N := 6) hx hb htg ig_4 tyX4 tyX4_ok nmX4 hown hK hP hD hS 5 (by decide) (sX_5 hT) rfl 3 (by decide) (htg _ q_222) (fun _ h9 => h9) rfl (by decide +kernel) rfl rfl (Nat.le_of_ble_eq_true rfl) (hT.up 5 ⟨rfl, (fX_5_1 hT), (fX_5_2 hT), (fX_5_4 hT), (fX_5_5 hT)⟩) (fr_st hF (by decide) (by decide)) dX4_advance_188 (fun C_440 H locs e_441 hT hF hP hD hS => ?_)
                        have t_442 := hT
                        have tk_443 := (tk_num hs_123.2.2.1 (Eq.trans (upto_stop (p := pD) (fun h8 => pD_hi c_413 h8.2)).symm hs_123.2.2.2) (by rw [← hs_123.2.1]; exact (Int32.not_le.mp c_414)))
                        rw [hQ]
                        exact W.vret hx hb hr (fun t ht hW => ⟨⟨C_440, rfl, ⟨hT, hF, ⟨(Eq.trans (show gi (C_440 5) 2 = gi (K123 5) 2 by rw [e_441]; rfl) hv_123), (px_mk (Eq.trans (show gi (C_440 5) 1 = gi (K123 5) 1 by rw [e_441]; rfl) hs_123.1) (Eq.trans (show gi (C_440 5) 2 = gi (K123 5) 2 by rw [e_441]; rfl) hv_123) (Eq.trans (show gi (C_440 5) 3 = (2 : Int32) by rw [e_441]; rfl) tk_443.1) (Eq.trans (show gi (C_440 5) 4 = gi (K123 5) 4 by rw [e_441]; rfl) hs_123.2.1) (Eq.trans (show gi (C_440 5) 5 = gi (K123 5) 5 by rw [e_441]; rfl) tk_443.2))⟩⟩, ⟨by rw [ht]; exact hP, hD⟩⟩, hS.F ht⟩) hS.2.2 dX4_advance_191
                    · refine lv_aload_n hx hb dX4_advance_162 rfl (lv_at hl 0 rfl) ?_
                      refine lv_dup hx hb dX4_advance_163 rfl ?_
                      refine va_get (D := D) (ci := 4) (v := .int (gi (K123 5) 5)) (C := RX4) (T := TX4) (N := 6) hx hb htg ig_4 hown hK hP 5 (oh_wg (by decide) (sX_5 hT)) rfl 5 (by decide) (htg _ q_224) (fun _ h9 => h9) rfl dX4_advance_164 ?_
                      refine lv_iconst (v := 1) hx hb dX4_advance_167 (by decide) ?_
                      refine lv_iadd hx hb dX4_advance_168 ?_
                      refine th_put (Tp := TyX a E) (Rl := fr [(5, 6)] [] C) (ci := 4) (v := .int ((gi (K123 5) 5) + 1)) (ty := .int) (CC := RX4) (T := TX4) (N := 6) hx hb htg ig_4 tyX4 tyX4_ok nmX4 hown hK hP hD hS 5 (by decide) (sX_5 hT) rfl 5 (by decide) (htg _ q_224) (fun _ h9 => h9) rfl (by decide +kernel) rfl rfl (Nat.le_of_ble_eq_true rfl) (hT.up 5 ⟨rfl, (fX_5_1 hT), (fX_5_2 hT), (fX_5_4 hT), (rg_w (rg_add (lo := 1) (hi := 250) (rn_ltu (u' := 249) (Int32.not_le.mp c_349) (fX_5_5 t_348) (fX_5_1 t_348) (by decide)) (rg_c (v := 1) (lo := 1) (hi := 1) (by decide)) (by decide)) (by decide))⟩) (fr_st hF (by decide) (by decide)) dX4_advance_169 (fun C_444 H locs e_445 hT hF hP hD hS => ?_)
                      have t_446 := hT
                      refine lv_goto (tgt := 123) hx hb dX4_advance_172 (by decide) ?_
                      exact ih_123 _ (hd_123 ▸ (by rw [(show gi (C_444 5) 5 = ((gi (K123 5) 5) + 1) by rw [e_445]; rfl)]; exact mu_up 250 (rn_ltu (u' := 249) (Int32.not_le.mp c_349) (fX_5_5 t_348) (fX_5_1 t_348) (by decide)) (by decide))) C_444  _ _ ls rfl (Eq.trans (show gi (C_444 5) 2 = gi (K123 5) 2 by rw [e_445]; rfl) hv_123) ⟨Eq.trans (show gi (C_444 5) 1 = gi (K123 5) 1 by rw [e_445]; rfl) hs_123.1, Eq.trans (show gi (C_444 5) 4 = gi (K123 5) 4 by rw [e_445]; rfl) hs_123.2.1, hs_123.2.2.1, Eq.trans (congrArg (upto pD (ga (C 32)) (gi (C 5) 1)) (show gi (C_444 5) 5 = ((gi (K123 5) 5) + 1) by rw [e_445]; rfl)) (Eq.trans (upto_step (p := pD) (rg_w (lo := 0) (hi := 249) (rn_ltu (u' := 249) (Int32.not_le.mp c_349) (fX_5_5 t_348) (fX_5_1 t_348) (by decide)) (by decide)) (oh_lte (Int32.not_le.mp c_349) hs_123.1) ⟨(Int32.not_lt.mp c_381), (Int32.not_lt.mp c_413)⟩).symm hs_123.2.2.2)⟩ hT hF (fr_ste hLF_123 e_445 (by decide) (by decide)) hP hD hS (lv_sub hl [0] rfl)
              have hE_447 : gi (K54 5) 5 = (upto pL (ga (C 32)) (gi (C 5) 1) (upto pB (ga (C 32)) (gi (C 5) 1) (gi (C 5) 5))) := (Eq.trans (upto_stop (p := pL) (fun h8 => absurd (oh_lte h8.1 hs_54.1.symm) (Int32.not_lt.mpr c_346))).symm hs_54.2.2)
              have hN_448 : ¬ (upto pB (ga (C 32)) (gi (C 5) 1) (gi (C 5) 5)) < (upto pL (ga (C 32)) (gi (C 5) 1) (upto pB (ga (C 32)) (gi (C 5) 1) (gi (C 5) 5))) := by rw [← hE_447, ← hs_54.2.1]; exact Int32.not_lt.mpr c_347
              have hZ_449 : gi (K54 5) 5 = (upto pB (ga (C 32)) (gi (C 5) 1) (gi (C 5) 5)) := Eq.trans hE_447 (upto_nn (fX_5_1 hT0) (by rw [← hs_54.2.1]; exact (rg_w (lo := 0) (hi := 250) (fX_5_4 t_345) (by decide))) hN_448)
              exact L_123 _ K54  _ _ ls rfl (Eq.trans rfl hv_54) ⟨hs_54.1, hs_54.2.1, hN_448, (congrArg (upto pD (ga (C 32)) (gi (C 5) 1)) hZ_449)⟩ hT hF fr_rf hP hD hS (lv_sub hl [0] rfl)
            · refine lv_aload_n hx hb dX4_advance_117 rfl (lv_at hl 0 rfl) ?_
              refine lv_iconst (v := 1) hx hb dX4_advance_118 (by decide) ?_
              refine th_put (Tp := TyX a E) (Rl := fr [(5, 6)] [] C) (ci := 4) (v := .int 1) (ty := .int) (CC := RX4) (T := TX4) (N := 6) hx hb htg ig_4 tyX4 tyX4_ok nmX4 hown hK hP hD hS 5 (by decide) (sX_5 hT) rfl 3 (by decide) (htg _ q_222) (fun _ h9 => h9) rfl (by decide +kernel) rfl rfl (Nat.le_of_ble_eq_true rfl) (hT.up 5 ⟨rfl, (fX_5_1 hT), (fX_5_2 hT), (fX_5_4 hT), (fX_5_5 hT)⟩) (fr_st hF (by decide) (by decide)) dX4_advance_119 (fun C_450 H locs e_451 hT hF hP hD hS => ?_)
              have t_452 := hT
              have tk_453 := (tk_word (Eq.trans (upto_stop (p := pL) (fun h8 => absurd (oh_lte h8.1 hs_54.1.symm) (Int32.not_lt.mpr c_346))).symm hs_54.2.2) (by rw [← hs_54.2.1]; exact (Int32.not_le.mp c_347)))
              rw [hQ]
              exact W.vret hx hb hr (fun t ht hW => ⟨⟨C_450, rfl, ⟨hT, hF, ⟨(Eq.trans (show gi (C_450 5) 2 = gi (K54 5) 2 by rw [e_451]; rfl) hv_54), (px_mk (Eq.trans (show gi (C_450 5) 1 = gi (K54 5) 1 by rw [e_451]; rfl) hs_54.1) (Eq.trans (show gi (C_450 5) 2 = gi (K54 5) 2 by rw [e_451]; rfl) hv_54) (Eq.trans (show gi (C_450 5) 3 = (1 : Int32) by rw [e_451]; rfl) tk_453.1) (Eq.trans (show gi (C_450 5) 4 = gi (K54 5) 4 by rw [e_451]; rfl) hs_54.2.1) (Eq.trans (show gi (C_450 5) 5 = gi (K54 5) 5 by rw [e_451]; rfl) tk_453.2))⟩⟩, ⟨by rw [ht]; exact hP, hD⟩⟩, hS.F ht⟩) hS.2.2 dX4_advance_122
          · refine lv_aload_n hx hb dX4_advance_65 rfl (lv_at hl 0 rfl) ?_
            refine va_get (D := D) (ci := 4) (v := .ref (a 32)) (C := RX4) (T := TX4) (N := 6) hx hb htg ig_4 hown hK hP 5 (oh_wg (by decide) (sX_5 hT)) rfl 0 (by decide) (htg _ q_217) (fun _ h9 => h9) rfl dX4_advance_66 ?_
            refine lv_aload_n hx hb dX4_advance_69 rfl (lv_at hl 0 rfl) ?_
            refine va_get (D := D) (ci := 4) (v := .int (gi (K54 5) 5)) (C := RX4) (T := TX4) (N := 6) hx hb htg ig_4 hown hK hP 5 (oh_wg (by decide) (sX_5 hT)) rfl 5 (by decide) (htg _ q_224) (fun _ h9 => h9) rfl dX4_advance_70 ?_
            have n_454 : vp_in (gi (K54 5) 5) 250 := (rg_in (rn_ltu (u' := 249) (Int32.not_le.mp c_346) (fX_5_5 t_345) (fX_5_1 t_345) (by decide)) (by decide))
            refine th_iald hx hb hK hP 32 (by decide) (Eq.trans (Eq.trans (hLF_54.1 32 rfl (by decide)) (Eq.trans (th_un e_343 (by decide)) (Eq.trans (hLF_8.1 32 rfl (by decide)) (th_un e_2 (by decide))))) (sX_32 hT0)) n_454 dX4_advance_73 ?_
            refine lv_bipush (v := 97) hx hb dX4_advance_74 (by decide) ?_
            refine lv_icmp_lt (tgt := 106) hx hb dX4_advance_76 (by decide) (fun (c_455 : (ga (C 32) (gi (K54 5) 5).toNatClampNeg) < 97) => ?_) (fun (c_455 : ¬ ((ga (C 32) (gi (K54 5) 5).toNatClampNeg) < 97)) => ?_)
            · refine lv_aload_n hx hb dX4_advance_106 rfl (lv_at hl 0 rfl) ?_
              refine va_get (D := D) (ci := 4) (v := .int (gi (K54 5) 5)) (C := RX4) (T := TX4) (N := 6) hx hb htg ig_4 hown hK hP 5 (oh_wg (by decide) (sX_5 hT)) rfl 5 (by decide) (htg _ q_224) (fun _ h9 => h9) rfl dX4_advance_107 ?_
              refine lv_aload_n hx hb dX4_advance_110 rfl (lv_at hl 0 rfl) ?_
              refine va_get (D := D) (ci := 4) (v := .int (gi (K54 5) 4)) (C := RX4) (T := TX4) (N := 6) hx hb htg ig_4 hown hK hP 5 (oh_wg (by decide) (sX_5 hT)) rfl 4 (by decide) (htg _ q_223) (fun _ h9 => h9) rfl dX4_advance_111 ?_
              refine lv_icmp_le (tgt := 123) hx hb dX4_advance_114 (by decide) (fun (c_456 : (gi (K54 5) 5) ≤ (gi (K54 5) 4)) => ?_) (fun (c_456 : ¬ ((gi (K54 5) 5) ≤ (gi (K54 5) 4))) => ?_)
              · have L_123 : ∀ (d : Nat) (K123 : Nat → va_E) (H : Heap) (locs : List Loc) (ls : Array Slot), (250 - (gi (K123 5) 5).toInt).toNat = d → (gi (K123 5) 2 = gi (C 5) 2) → (gi (K123 5) 1 = (gi (C 5) 1) ∧ gi (K123 5) 4 = (upto pB (ga (C 32)) (gi (C 5) 1) (gi (C 5) 5)) ∧ ¬ (upto pB (ga (C 32)) (gi (C 5) 1) (gi (C 5) 5)) < (upto pL (ga (C 32)) (gi (C 5) 1) (upto pB (ga (C 32)) (gi (C 5) 1) (gi (C 5) 5))) ∧ (upto pD (ga (C 32)) (gi (C 5) 1) (gi (K123 5) 5)) = (upto pD (ga (C 32)) (gi (C 5) 1) (upto pB (ga (C 32)) (gi (C 5) 1) (gi (C 5) 5)))) → TyX a E K123 → fr [(5, 6)] [] C K123 → fr [(5, 6)] [] K54 K123 → va_P D vwCl (oh_W 35 a K123) H → va_D A (oh_W 35 a K123) → va_S A s.heap H locs → lv_has ls 1 [(0, .ref (a 5))] → W p l e ({ frames := 0, cells := 0, slots := 0, locals := 0 }) s m (([.ref (a 5)] : List Value).toArray) below meth c H locs 0 0 Q (F0 m 123 ls []) := by
                  intro d
                  induction d using Nat.strongRecOn with
                  | ind d ih_123 =>
                  intro K123  H locs ls hd_123 hv_123 hs_123 hT hF hLF_123 hP hD hS hl
                  have t_457 := hT
                  refine lv_aload_n hx hb dX4_advance_123 rfl (lv_at hl 0 rfl) ?_
                  refine va_get (D := D) (ci := 4) (v := .int (gi (K123 5) 5)) (C := RX4) (T := TX4) (N := 6) hx hb htg ig_4 hown hK hP 5 (oh_wg (by decide) (sX_5 hT)) rfl 5 (by decide) (htg _ q_224) (fun _ h9 => h9) rfl dX4_advance_124 ?_
                  refine lv_aload_n hx hb dX4_advance_127 rfl (lv_at hl 0 rfl) ?_
                  refine va_get (D := D) (ci := 4) (v := .int (gi (K123 5) 1)) (C := RX4) (T := TX4) (N := 6) hx hb htg ig_4 hown hK hP 5 (oh_wg (by decide) (sX_5 hT)) rfl 1 (by decide) (htg _ q_218) (fun _ h9 => h9) rfl dX4_advance_128 ?_
                  refine lv_icmp_ge (tgt := 175) hx hb dX4_advance_131 (by decide) (fun (c_458 : (gi (K123 5) 1) ≤ (gi (K123 5) 5)) => ?_) (fun (c_458 : ¬ ((gi (K123 5) 1) ≤ (gi (K123 5) 5))) => ?_)
                  · refine lv_aload_n hx hb dX4_advance_175 rfl (lv_at hl 0 rfl) ?_
                    refine va_get (D := D) (ci := 4) (v := .int (gi (K123 5) 5)) (C := RX4) (T := TX4) (N := 6) hx hb htg ig_4 hown hK hP 5 (oh_wg (by decide) (sX_5 hT)) rfl 5 (by decide) (htg _ q_224) (fun _ h9 => h9) rfl dX4_advance_176 ?_
                    refine lv_aload_n hx hb dX4_advance_179 rfl (lv_at hl 0 rfl) ?_
                    refine va_get (D := D) (ci := 4) (v := .int (gi (K123 5) 4)) (C := RX4) (T := TX4) (N := 6) hx hb htg ig_4 hown hK hP 5 (oh_wg (by decide) (sX_5 hT)) rfl 4 (by decide) (htg _ q_223) (fun _ h9 => h9) rfl dX4_advance_180 ?_
                    refine lv_icmp_le (tgt := 192) hx hb dX4_advance_183 (by decide) (fun (c_459 : (gi (K123 5) 5) ≤ (gi (K123 5) 4)) => ?_) (fun (c_459 : ¬ ((gi (K123 5) 5) ≤ (gi (K123 5) 4))) => ?_)
                    · refine lv_aload_n hx hb dX4_advance_192 rfl (lv_at hl 0 rfl) ?_
                      refine va_get (D := D) (ci := 4) (v := .int (gi (K123 5) 4)) (C := RX4) (T := TX4) (N := 6) hx hb htg ig_4 hown hK hP 5 (oh_wg (by decide) (sX_5 hT)) rfl 4 (by decide) (htg _ q_223) (fun _ h9 => h9) rfl dX4_advance_193 ?_
                      refine lv_aload_n hx hb dX4_advance_196 rfl (lv_at hl 0 rfl) ?_
                      refine va_get (D := D) (ci := 4) (v := .int (gi (K123 5) 1)) (C := RX4) (T := TX4) (N := 6) hx hb htg ig_4 hown hK hP 5 (oh_wg (by decide) (sX_5 hT)) rfl 1 (by decide) (htg _ q_218) (fun _ h9 => h9) rfl dX4_advance_197 ?_
                      refine lv_icmp_lt (tgt := 209) hx hb dX4_advance_200 (by decide) (fun (c_460 : (gi (K123 5) 4) < (gi (K123 5) 1)) => ?_) (fun (c_460 : ¬ ((gi (K123 5) 4) < (gi (K123 5) 1))) => ?_)
                      · refine lv_aload_n hx hb dX4_advance_209 rfl (lv_at hl 0 rfl) ?_
                        refine lv_aload_n hx hb dX4_advance_210 rfl (lv_at hl 0 rfl) ?_
                        refine va_get (D := D) (ci := 4) (v := .ref (a 32)) (C := RX4) (T := TX4) (N := 6) hx hb htg ig_4 hown hK hP 5 (oh_wg (by decide) (sX_5 hT)) rfl 0 (by decide) (htg _ q_217) (fun _ h9 => h9) rfl dX4_advance_211 ?_
                        refine lv_aload_n hx hb dX4_advance_214 rfl (lv_at hl 0 rfl) ?_
                        refine va_get (D := D) (ci := 4) (v := .int (gi (K123 5) 4)) (C := RX4) (T := TX4) (N := 6) hx hb htg ig_4 hown hK hP 5 (oh_wg (by decide) (sX_5 hT)) rfl 4 (by decide) (htg _ q_223) (fun _ h9 => h9) rfl dX4_advance_215 ?_
                        have n_461 : vp_in (gi (K123 5) 4) 250 := (rg_in (rn_ltu (u' := 249) c_460 (rn_lel c_459 (rn_lel c_458 (rn_ltl (l' := 1) c_460 (fX_5_4 t_457) (fX_5_1 t_457) (by decide)) (fX_5_5 t_457)) (fX_5_4 t_457)) (fX_5_1 t_457) (by decide)) (by decide))
                        refine th_iald hx hb hK hP 32 (by decide) (Eq.trans (Eq.trans (hLF_123.1 32 rfl (by decide)) (Eq.trans (hLF_54.1 32 rfl (by decide)) (Eq.trans (th_un e_343 (by decide)) (Eq.trans (hLF_8.1 32 rfl (by decide)) (th_un e_2 (by decide)))))) (sX_32 hT0)) n_461 dX4_advance_218 ?_
                        refine lv_bipush (v := 59) hx hb dX4_advance_219 (by decide) ?_
                        refine lv_icmp_ne (tgt := 228) hx hb dX4_advance_221 (by decide) (fun (c_462 : ¬ ((ga (C 32) (gi (K123 5) 4).toNatClampNeg) = 59)) => ?_) (fun (c_462 : (ga (C 32) (gi (K123 5) 4).toNatClampNeg) = 59) => ?_)
                        · refine lv_iconst (v := 4) hx hb dX4_advance_228 (by decide) ?_
                          refine th_put (Tp := TyX a E) (Rl := fr [(5, 6)] [] C) (ci := 4) (v := .int 4) (ty := .int) (CC := RX4) (T := TX4) (N := 6) hx hb htg ig_4 tyX4 tyX4_ok nmX4 hown hK hP hD hS 5 (by decide) (sX_5 hT) rfl 3 (by decide) (htg _ q_222) (fun _ h9 => h9) rfl (by decide +kernel) rfl rfl (Nat.le_of_ble_eq_true rfl) (hT.up 5 ⟨rfl, (fX_5_1 hT), (fX_5_2 hT), (fX_5_4 hT), (fX_5_5 hT)⟩) (fr_st hF (by decide) (by decide)) dX4_advance_229 (fun C_463 H locs e_464 hT hF hP hD hS => ?_)
                          have t_465 := hT
                          refine lv_aload_n hx hb dX4_advance_232 rfl (lv_at hl 0 rfl) ?_
                          refine lv_aload_n hx hb dX4_advance_233 rfl (lv_at hl 0 rfl) ?_
                          refine va_get (D := D) (ci := 4) (v := .int (gi (K123 5) 4)) (C := RX4) (T := TX4) (N := 6) hx hb htg ig_4 hown hK hP 5 (oh_wg (by decide) (sX_5 hT)) rfl 4 (by decide) (htg _ q_223) (fun _ h9 => h9) (oh_fv (c := C_463 5) (j := 4) rfl (show gi (C_463 5) 4 = gi (K123 5) 4 by rw [e_464]; rfl)) dX4_advance_234 ?_
                          refine lv_iconst (v := 1) hx hb dX4_advance_237 (by decide) ?_
                          refine lv_iadd hx hb dX4_advance_238 ?_
                          refine th_put (Tp := TyX a E) (Rl := fr [(5, 6)] [] C) (ci := 4) (v := .int ((gi (K123 5) 4) + 1)) (ty := .int) (CC := RX4) (T := TX4) (N := 6) hx hb htg ig_4 tyX4 tyX4_ok nmX4 hown hK hP hD hS 5 (by decide) (sX_5 hT) rfl 5 (by decide) (htg _ q_224) (fun _ h9 => h9) rfl (by decide +kernel) rfl rfl (Nat.le_of_ble_eq_true rfl) (hT.up 5 ⟨rfl, (fX_5_1 hT), (fX_5_2 hT), (fX_5_4 hT), (rg_w (rg_add (lo := 2) (hi := 250) (rn_ltu (u' := 249) c_460 (rn_lel c_459 (rn_lel c_458 (rn_ltl (l' := 1) c_460 (fX_5_4 t_457) (fX_5_1 t_457) (by decide)) (fX_5_5 t_457)) (fX_5_4 t_457)) (fX_5_1 t_457) (by decide)) (rg_c (v := 1) (lo := 1) (hi := 1) (by decide)) (by decide)) (by decide))⟩) (fr_st hF (by decide) (by decide)) dX4_advance_239 (fun C_466 H locs e_467 hT hF hP hD hS => ?_)
                          have t_468 := hT
                          have hM_469 : ¬ (upto pB (ga (C 32)) (gi (C 5) 1) (gi (C 5) 5)) < (upto pD (ga (C 32)) (gi (C 5) 1) (upto pB (ga (C 32)) (gi (C 5) 1) (gi (C 5) 5))) := by rw [← (Eq.trans (upto_stop (p := pD) (fun h8 => absurd (oh_lte h8.1 hs_123.1.symm) (Int32.not_lt.mpr c_458))).symm hs_123.2.2.2), ← hs_123.2.1]; exact Int32.not_lt.mpr c_459
                          have tk_470 := (tk_wrg hs_123.2.2.1 hM_469 (fun h8 => absurd (oh_lee (by rw [← hs_123.2.1] at h8; exact h8) hs_123.1.symm) (Int32.not_le.mpr c_460)) (by rw [← hs_123.2.1]; exact c_462))
                          rw [hQ]
                          exact W.vret hx hb hr (fun t ht hW => ⟨⟨C_466, rfl, ⟨hT, hF, ⟨(Eq.trans (Eq.trans (show gi (C_466 5) 2 = gi (C_463 5) 2 by rw [e_467]; rfl) (show gi (C_463 5) 2 = gi (K123 5) 2 by rw [e_464]; rfl)) hv_123), (px_mk (Eq.trans (Eq.trans (show gi (C_466 5) 1 = gi (C_463 5) 1 by rw [e_467]; rfl) (show gi (C_463 5) 1 = gi (K123 5) 1 by rw [e_464]; rfl)) hs_123.1) (Eq.trans (Eq.trans (show gi (C_466 5) 2 = gi (C_463 5) 2 by rw [e_467]; rfl) (show gi (C_463 5) 2 = gi (K123 5) 2 by rw [e_464]; rfl)) hv_123) (Eq.trans (Eq.trans (show gi (C_466 5) 3 = gi (C_463 5) 3 by rw [e_467]; rfl) (show gi (C_463 5) 3 = (4 : Int32) by rw [e_464]; rfl)) tk_470.1) (Eq.trans (Eq.trans (show gi (C_466 5) 4 = gi (C_463 5) 4 by rw [e_467]; rfl) (show gi (C_463 5) 4 = gi (K123 5) 4 by rw [e_464]; rfl)) hs_123.2.1) (Eq.trans (Eq.trans (show gi (C_466 5) 5 = ((gi (K123 5) 4) + 1) by rw [e_467]; rfl) (congrArg (fun z => z + 1) hs_123.2.1)) tk_470.2))⟩⟩, ⟨by rw [ht]; exact hP, hD⟩⟩, hS.F ht⟩) hS.2.2 dX4_advance_242
                        · refine lv_iconst (v := 3) hx hb dX4_advance_224 (by decide) ?_
                          refine lv_goto (tgt := 229) hx hb dX4_advance_225 (by decide) ?_
                          refine th_put (Tp := TyX a E) (Rl := fr [(5, 6)] [] C) (ci := 4) (v := .int 3) (ty := .int) (CC := RX4) (T := TX4) (N := 6) hx hb htg ig_4 tyX4 tyX4_ok nmX4 hown hK hP hD hS 5 (by decide) (sX_5 hT) rfl 3 (by decide) (htg _ q_222) (fun _ h9 => h9) rfl (by decide +kernel) rfl rfl (Nat.le_of_ble_eq_true rfl) (hT.up 5 ⟨rfl, (fX_5_1 hT), (fX_5_2 hT), (fX_5_4 hT), (fX_5_5 hT)⟩) (fr_st hF (by decide) (by decide)) dX4_advance_229 (fun C_471 H locs e_472 hT hF hP hD hS => ?_)
                          have t_473 := hT
                          refine lv_aload_n hx hb dX4_advance_232 rfl (lv_at hl 0 rfl) ?_
                          refine lv_aload_n hx hb dX4_advance_233 rfl (lv_at hl 0 rfl) ?_
                          refine va_get (D := D) (ci := 4) (v := .int (gi (K123 5) 4)) (C := RX4) (T := TX4) (N := 6) hx hb htg ig_4 hown hK hP 5 (oh_wg (by decide) (sX_5 hT)) rfl 4 (by decide) (htg _ q_223) (fun _ h9 => h9) (oh_fv (c := C_471 5) (j := 4) rfl (show gi (C_471 5) 4 = gi (K123 5) 4 by rw [e_472]; rfl)) dX4_advance_234 ?_
                          refine lv_iconst (v := 1) hx hb dX4_advance_237 (by decide) ?_
                          refine lv_iadd hx hb dX4_advance_238 ?_
                          refine th_put (Tp := TyX a E) (Rl := fr [(5, 6)] [] C) (ci := 4) (v := .int ((gi (K123 5) 4) + 1)) (ty := .int) (CC := RX4) (T := TX4) (N := 6) hx hb htg ig_4 tyX4 tyX4_ok nmX4 hown hK hP hD hS 5 (by decide) (sX_5 hT) rfl 5 (by decide) (htg _ q_224) (fun _ h9 => h9) rfl (by decide +kernel) rfl rfl (Nat.le_of_ble_eq_true rfl) (hT.up 5 ⟨rfl, (fX_5_1 hT), (fX_5_2 hT), (fX_5_4 hT), (rg_w (rg_add (lo := 2) (hi := 250) (rn_ltu (u' := 249) c_460 (rn_lel c_459 (rn_lel c_458 (rn_ltl (l' := 1) c_460 (fX_5_4 t_457) (fX_5_1 t_457) (by decide)) (fX_5_5 t_457)) (fX_5_4 t_457)) (fX_5_1 t_457) (by decide)) (rg_c (v := 1) (lo := 1) (hi := 1) (by decide)) (by decide)) (by decide))⟩) (fr_st hF (by decide) (by decide)) dX4_advance_239 (fun C_474 H locs e_475 hT hF hP hD hS => ?_)
                          have t_476 := hT
                          have hM_477 : ¬ (upto pB (ga (C 32)) (gi (C 5) 1) (gi (C 5) 5)) < (upto pD (ga (C 32)) (gi (C 5) 1) (upto pB (ga (C 32)) (gi (C 5) 1) (gi (C 5) 5))) := by rw [← (Eq.trans (upto_stop (p := pD) (fun h8 => absurd (oh_lte h8.1 hs_123.1.symm) (Int32.not_lt.mpr c_458))).symm hs_123.2.2.2), ← hs_123.2.1]; exact Int32.not_lt.mpr c_459
                          have tk_478 := (tk_sgn hs_123.2.2.1 hM_477 (fun h8 => absurd (oh_lee (by rw [← hs_123.2.1] at h8; exact h8) hs_123.1.symm) (Int32.not_le.mpr c_460)) (by rw [← hs_123.2.1]; exact c_462))
                          rw [hQ]
                          exact W.vret hx hb hr (fun t ht hW => ⟨⟨C_474, rfl, ⟨hT, hF, ⟨(Eq.trans (Eq.trans (show gi (C_474 5) 2 = gi (C_471 5) 2 by rw [e_475]; rfl) (show gi (C_471 5) 2 = gi (K123 5) 2 by rw [e_472]; rfl)) hv_123), (px_mk (Eq.trans (Eq.trans (show gi (C_474 5) 1 = gi (C_471 5) 1 by rw [e_475]; rfl) (show gi (C_471 5) 1 = gi (K123 5) 1 by rw [e_472]; rfl)) hs_123.1) (Eq.trans (Eq.trans (show gi (C_474 5) 2 = gi (C_471 5) 2 by rw [e_475]; rfl) (show gi (C_471 5) 2 = gi (K123 5) 2 by rw [e_472]; rfl)) hv_123) (Eq.trans (Eq.trans (show gi (C_474 5) 3 = gi (C_471 5) 3 by rw [e_475]; rfl) (show gi (C_471 5) 3 = (3 : Int32) by rw [e_472]; rfl)) tk_478.1) (Eq.trans (Eq.trans (show gi (C_474 5) 4 = gi (C_471 5) 4 by rw [e_475]; rfl) (show gi (C_471 5) 4 = gi (K123 5) 4 by rw [e_472]; rfl)) hs_123.2.1) (Eq.trans (Eq.trans (show gi (C_474 5) 5 = ((gi (K123 5) 4) + 1) by rw [e_475]; rfl) (congrArg (fun z => z + 1) hs_123.2.1)) tk_478.2))⟩⟩, ⟨by rw [ht]; exact hP, hD⟩⟩, hS.F ht⟩) hS.2.2 dX4_advance_242
                      · refine lv_aload_n hx hb dX4_advance_203 rfl (lv_at hl 0 rfl) ?_
                        refine lv_iconst (v := 0) hx hb dX4_advance_204 (by decide) ?_
                        refine th_put (Tp := TyX a E) (Rl := fr [(5, 6)] [] C) (ci := 4) (v := .int 0) (ty := .int) (CC := RX4) (T := TX4) (N := 6) hx hb htg ig_4 tyX4 tyX4_ok nmX4 hown hK hP hD hS 5 (by decide) (sX_5 hT) rfl 3 (by decide) (htg _ q_222) (fun _ h9 => h9) rfl (by decide +kernel) rfl rfl (Nat.le_of_ble_eq_true rfl) (hT.up 5 ⟨rfl, (fX_5_1 hT), (fX_5_2 hT), (fX_5_4 hT), (fX_5_5 hT)⟩) (fr_st hF (by decide) (by decide)) dX4_advance_205 (fun C_479 H locs e_480 hT hF hP hD hS => ?_)
                        have t_481 := hT
                        have hM_482 : ¬ (upto pB (ga (C 32)) (gi (C 5) 1) (gi (C 5) 5)) < (upto pD (ga (C 32)) (gi (C 5) 1) (upto pB (ga (C 32)) (gi (C 5) 1) (gi (C 5) 5))) := by rw [← (Eq.trans (upto_stop (p := pD) (fun h8 => absurd (oh_lte h8.1 hs_123.1.symm) (Int32.not_lt.mpr c_458))).symm hs_123.2.2.2), ← hs_123.2.1]; exact Int32.not_lt.mpr c_459
                        have hZ_483 : gi (K123 5) 5 = (upto pB (ga (C 32)) (gi (C 5) 1) (gi (C 5) 5)) := Eq.trans (Eq.trans (upto_stop (p := pD) (fun h8 => absurd (oh_lte h8.1 hs_123.1.symm) (Int32.not_lt.mpr c_458))).symm hs_123.2.2.2) (upto_nn (fX_5_1 hT0) (by rw [← hs_123.2.1]; exact (rg_w (lo := 0) (hi := 250) (fX_5_4 t_457) (by decide))) hM_482)
                        have tk_484 := (tk_end hs_123.2.2.1 hM_482 (by rw [← hs_123.2.1, ← hs_123.1]; exact (Int32.not_lt.mp c_460)))
                        rw [hQ]
                        exact W.vret hx hb hr (fun t ht hW => ⟨⟨C_479, rfl, ⟨hT, hF, ⟨(Eq.trans (show gi (C_479 5) 2 = gi (K123 5) 2 by rw [e_480]; rfl) hv_123), (px_mk (Eq.trans (show gi (C_479 5) 1 = gi (K123 5) 1 by rw [e_480]; rfl) hs_123.1) (Eq.trans (show gi (C_479 5) 2 = gi (K123 5) 2 by rw [e_480]; rfl) hv_123) (Eq.trans (show gi (C_479 5) 3 = (0 : Int32) by rw [e_480]; rfl) tk_484.1) (Eq.trans (show gi (C_479 5) 4 = gi (K123 5) 4 by rw [e_480]; rfl) hs_123.2.1) (Eq.trans (Eq.trans (show gi (C_479 5) 5 = gi (K123 5) 5 by rw [e_480]; rfl) hZ_483) tk_484.2))⟩⟩, ⟨by rw [ht]; exact hP, hD⟩⟩, hS.F ht⟩) hS.2.2 dX4_advance_208
                    · refine lv_aload_n hx hb dX4_advance_186 rfl (lv_at hl 0 rfl) ?_
                      refine lv_iconst (v := 2) hx hb dX4_advance_187 (by decide) ?_
                      refine th_put (Tp := TyX a E) (Rl := fr [(5, 6)] [] C) (ci := 4) (v := .int 2) (ty := .int) (CC := RX4) (T := TX4) (N := 6) hx hb htg ig_4 tyX4 tyX4_ok nmX4 hown hK hP hD hS 5 (by decide) (sX_5 hT) rfl 3 (by decide) (htg _ q_222) (fun _ h9 => h9) rfl (by decide +kernel) rfl rfl (Nat.le_of_ble_eq_true rfl) (hT.up 5 ⟨rfl, (fX_5_1 hT), (fX_5_2 hT), (fX_5_4 hT), (fX_5_5 hT)⟩) (fr_st hF (by decide) (by decide)) dX4_advance_188 (fun C_485 H locs e_486 hT hF hP hD hS => ?_)
                      have t_487 := hT
                      have tk_488 := (tk_num hs_123.2.2.1 (Eq.trans (upto_stop (p := pD) (fun h8 => absurd (oh_lte h8.1 hs_123.1.symm) (Int32.not_lt.mpr c_458))).symm hs_123.2.2.2) (by rw [← hs_123.2.1]; exact (Int32.not_le.mp c_459)))
                      rw [hQ]
                      exact W.vret hx hb hr (fun t ht hW => ⟨⟨C_485, rfl, ⟨hT, hF, ⟨(Eq.trans (show gi (C_485 5) 2 = gi (K123 5) 2 by rw [e_486]; rfl) hv_123), (px_mk (Eq.trans (show gi (C_485 5) 1 = gi (K123 5) 1 by rw [e_486]; rfl) hs_123.1) (Eq.trans (show gi (C_485 5) 2 = gi (K123 5) 2 by rw [e_486]; rfl) hv_123) (Eq.trans (show gi (C_485 5) 3 = (2 : Int32) by rw [e_486]; rfl) tk_488.1) (Eq.trans (show gi (C_485 5) 4 = gi (K123 5) 4 by rw [e_486]; rfl) hs_123.2.1) (Eq.trans (show gi (C_485 5) 5 = gi (K123 5) 5 by rw [e_486]; rfl) tk_488.2))⟩⟩, ⟨by rw [ht]; exact hP, hD⟩⟩, hS.F ht⟩) hS.2.2 dX4_advance_191
                  · refine lv_aload_n hx hb dX4_advance_134 rfl (lv_at hl 0 rfl) ?_
                    refine va_get (D := D) (ci := 4) (v := .ref (a 32)) (C := RX4) (T := TX4) (N := 6) hx hb htg ig_4 hown hK hP 5 (oh_wg (by decide) (sX_5 hT)) rfl 0 (by decide) (htg _ q_217) (fun _ h9 => h9) rfl dX4_advance_135 ?_
                    refine lv_aload_n hx hb dX4_advance_138 rfl (lv_at hl 0 rfl) ?_
                    refine va_get (D := D) (ci := 4) (v := .int (gi (K123 5) 5)) (C := RX4) (T := TX4) (N := 6) hx hb htg ig_4 hown hK hP 5 (oh_wg (by decide) (sX_5 hT)) rfl 5 (by decide) (htg _ q_224) (fun _ h9 => h9) rfl dX4_advance_139 ?_
                    have n_489 : vp_in (gi (K123 5) 5) 250 := (rg_in (rn_ltu (u' := 249) (Int32.not_le.mp c_458) (fX_5_5 t_457) (fX_5_1 t_457) (by decide)) (by decide))
                    refine th_iald hx hb hK hP 32 (by decide) (Eq.trans (Eq.trans (hLF_123.1 32 rfl (by decide)) (Eq.trans (hLF_54.1 32 rfl (by decide)) (Eq.trans (th_un e_343 (by decide)) (Eq.trans (hLF_8.1 32 rfl (by decide)) (th_un e_2 (by decide)))))) (sX_32 hT0)) n_489 dX4_advance_142 ?_
                    refine lv_bipush (v := 48) hx hb dX4_advance_143 (by decide) ?_
                    refine lv_icmp_lt (tgt := 175) hx hb dX4_advance_145 (by decide) (fun (c_490 : (ga (C 32) (gi (K123 5) 5).toNatClampNeg) < 48) => ?_) (fun (c_490 : ¬ ((ga (C 32) (gi (K123 5) 5).toNatClampNeg) < 48)) => ?_)
                    · refine lv_aload_n hx hb dX4_advance_175 rfl (lv_at hl 0 rfl) ?_
                      refine va_get (D := D) (ci := 4) (v := .int (gi (K123 5) 5)) (C := RX4) (T := TX4) (N := 6) hx hb htg ig_4 hown hK hP 5 (oh_wg (by decide) (sX_5 hT)) rfl 5 (by decide) (htg _ q_224) (fun _ h9 => h9) rfl dX4_advance_176 ?_
                      refine lv_aload_n hx hb dX4_advance_179 rfl (lv_at hl 0 rfl) ?_
                      refine va_get (D := D) (ci := 4) (v := .int (gi (K123 5) 4)) (C := RX4) (T := TX4) (N := 6) hx hb htg ig_4 hown hK hP 5 (oh_wg (by decide) (sX_5 hT)) rfl 4 (by decide) (htg _ q_223) (fun _ h9 => h9) rfl dX4_advance_180 ?_
                      refine lv_icmp_le (tgt := 192) hx hb dX4_advance_183 (by decide) (fun (c_491 : (gi (K123 5) 5) ≤ (gi (K123 5) 4)) => ?_) (fun (c_491 : ¬ ((gi (K123 5) 5) ≤ (gi (K123 5) 4))) => ?_)
                      · refine lv_aload_n hx hb dX4_advance_192 rfl (lv_at hl 0 rfl) ?_
                        refine va_get (D := D) (ci := 4) (v := .int (gi (K123 5) 4)) (C := RX4) (T := TX4) (N := 6) hx hb htg ig_4 hown hK hP 5 (oh_wg (by decide) (sX_5 hT)) rfl 4 (by decide) (htg _ q_223) (fun _ h9 => h9) rfl dX4_advance_193 ?_
                        refine lv_aload_n hx hb dX4_advance_196 rfl (lv_at hl 0 rfl) ?_
                        refine va_get (D := D) (ci := 4) (v := .int (gi (K123 5) 1)) (C := RX4) (T := TX4) (N := 6) hx hb htg ig_4 hown hK hP 5 (oh_wg (by decide) (sX_5 hT)) rfl 1 (by decide) (htg _ q_218) (fun _ h9 => h9) rfl dX4_advance_197 ?_
                        refine lv_icmp_lt (tgt := 209) hx hb dX4_advance_200 (by decide) (fun (c_492 : (gi (K123 5) 4) < (gi (K123 5) 1)) => ?_) (fun (c_492 : ¬ ((gi (K123 5) 4) < (gi (K123 5) 1))) => ?_)
                        · refine lv_aload_n hx hb dX4_advance_209 rfl (lv_at hl 0 rfl) ?_
                          refine lv_aload_n hx hb dX4_advance_210 rfl (lv_at hl 0 rfl) ?_
                          refine va_get (D := D) (ci := 4) (v := .ref (a 32)) (C := RX4) (T := TX4) (N := 6) hx hb htg ig_4 hown hK hP 5 (oh_wg (by decide) (sX_5 hT)) rfl 0 (by decide) (htg _ q_217) (fun _ h9 => h9) rfl dX4_advance_211 ?_
                          refine lv_aload_n hx hb dX4_advance_214 rfl (lv_at hl 0 rfl) ?_
                          refine va_get (D := D) (ci := 4) (v := .int (gi (K123 5) 4)) (C := RX4) (T := TX4) (N := 6) hx hb htg ig_4 hown hK hP 5 (oh_wg (by decide) (sX_5 hT)) rfl 4 (by decide) (htg _ q_223) (fun _ h9 => h9) rfl dX4_advance_215 ?_
                          have n_493 : vp_in (gi (K123 5) 4) 250 := (rg_in (rn_ltu (u' := 249) c_492 (fX_5_4 t_457) (rn_ltl (l' := 1) (Int32.not_le.mp c_458) (fX_5_5 t_457) (fX_5_1 t_457) (by decide)) (by decide)) (by decide))
                          refine th_iald hx hb hK hP 32 (by decide) (Eq.trans (Eq.trans (hLF_123.1 32 rfl (by decide)) (Eq.trans (hLF_54.1 32 rfl (by decide)) (Eq.trans (th_un e_343 (by decide)) (Eq.trans (hLF_8.1 32 rfl (by decide)) (th_un e_2 (by decide)))))) (sX_32 hT0)) n_493 dX4_advance_218 ?_
                          refine lv_bipush (v := 59) hx hb dX4_advance_219 (by decide) ?_
                          refine lv_icmp_ne (tgt := 228) hx hb dX4_advance_221 (by decide) (fun (c_494 : ¬ ((ga (C 32) (gi (K123 5) 4).toNatClampNeg) = 59)) => ?_) (fun (c_494 : (ga (C 32) (gi (K123 5) 4).toNatClampNeg) = 59) => ?_)
                          · refine lv_iconst (v := 4) hx hb dX4_advance_228 (by decide) ?_
                            refine th_put (Tp := TyX a E) (Rl := fr [(5, 6)] [] C) (ci := 4) (v := .int 4) (ty := .int) (CC := RX4) (T := TX4) (N := 6) hx hb htg ig_4 tyX4 tyX4_ok nmX4 hown hK hP hD hS 5 (by decide) (sX_5 hT) rfl 3 (by decide) (htg _ q_222) (fun _ h9 => h9) rfl (by decide +kernel) rfl rfl (Nat.le_of_ble_eq_true rfl) (hT.up 5 ⟨rfl, (fX_5_1 hT), (fX_5_2 hT), (fX_5_4 hT), (fX_5_5 hT)⟩) (fr_st hF (by decide) (by decide)) dX4_advance_229 (fun C_495 H locs e_496 hT hF hP hD hS => ?_)
                            have t_497 := hT
                            refine lv_aload_n hx hb dX4_advance_232 rfl (lv_at hl 0 rfl) ?_
                            refine lv_aload_n hx hb dX4_advance_233 rfl (lv_at hl 0 rfl) ?_
                            refine va_get (D := D) (ci := 4) (v := .int (gi (K123 5) 4)) (C := RX4) (T := TX4) (N := 6) hx hb htg ig_4 hown hK hP 5 (oh_wg (by decide) (sX_5 hT)) rfl 4 (by decide) (htg _ q_223) (fun _ h9 => h9) (oh_fv (c := C_495 5) (j := 4) rfl (show gi (C_495 5) 4 = gi (K123 5) 4 by rw [e_496]; rfl)) dX4_advance_234 ?_
                            refine lv_iconst (v := 1) hx hb dX4_advance_237 (by decide) ?_
                            refine lv_iadd hx hb dX4_advance_238 ?_
                            refine th_put (Tp := TyX a E) (Rl := fr [(5, 6)] [] C) (ci := 4) (v := .int ((gi (K123 5) 4) + 1)) (ty := .int) (CC := RX4) (T := TX4) (N := 6) hx hb htg ig_4 tyX4 tyX4_ok nmX4 hown hK hP hD hS 5 (by decide) (sX_5 hT) rfl 5 (by decide) (htg _ q_224) (fun _ h9 => h9) rfl (by decide +kernel) rfl rfl (Nat.le_of_ble_eq_true rfl) (hT.up 5 ⟨rfl, (fX_5_1 hT), (fX_5_2 hT), (fX_5_4 hT), (rg_w (rg_add (lo := 1) (hi := 250) (rn_ltu (u' := 249) c_492 (fX_5_4 t_457) (rn_ltl (l' := 1) (Int32.not_le.mp c_458) (fX_5_5 t_457) (fX_5_1 t_457) (by decide)) (by decide)) (rg_c (v := 1) (lo := 1) (hi := 1) (by decide)) (by decide)) (by decide))⟩) (fr_st hF (by decide) (by decide)) dX4_advance_239 (fun C_498 H locs e_499 hT hF hP hD hS => ?_)
                            have t_500 := hT
                            have hM_501 : ¬ (upto pB (ga (C 32)) (gi (C 5) 1) (gi (C 5) 5)) < (upto pD (ga (C 32)) (gi (C 5) 1) (upto pB (ga (C 32)) (gi (C 5) 1) (gi (C 5) 5))) := by rw [← (Eq.trans (upto_stop (p := pD) (fun h8 => pD_lo c_490 h8.2)).symm hs_123.2.2.2), ← hs_123.2.1]; exact Int32.not_lt.mpr c_491
                            have tk_502 := (tk_wrg hs_123.2.2.1 hM_501 (fun h8 => absurd (oh_lee (by rw [← hs_123.2.1] at h8; exact h8) hs_123.1.symm) (Int32.not_le.mpr c_492)) (by rw [← hs_123.2.1]; exact c_494))
                            rw [hQ]
                            exact W.vret hx hb hr (fun t ht hW => ⟨⟨C_498, rfl, ⟨hT, hF, ⟨(Eq.trans (Eq.trans (show gi (C_498 5) 2 = gi (C_495 5) 2 by rw [e_499]; rfl) (show gi (C_495 5) 2 = gi (K123 5) 2 by rw [e_496]; rfl)) hv_123), (px_mk (Eq.trans (Eq.trans (show gi (C_498 5) 1 = gi (C_495 5) 1 by rw [e_499]; rfl) (show gi (C_495 5) 1 = gi (K123 5) 1 by rw [e_496]; rfl)) hs_123.1) (Eq.trans (Eq.trans (show gi (C_498 5) 2 = gi (C_495 5) 2 by rw [e_499]; rfl) (show gi (C_495 5) 2 = gi (K123 5) 2 by rw [e_496]; rfl)) hv_123) (Eq.trans (Eq.trans (show gi (C_498 5) 3 = gi (C_495 5) 3 by rw [e_499]; rfl) (show gi (C_495 5) 3 = (4 : Int32) by rw [e_496]; rfl)) tk_502.1) (Eq.trans (Eq.trans (show gi (C_498 5) 4 = gi (C_495 5) 4 by rw [e_499]; rfl) (show gi (C_495 5) 4 = gi (K123 5) 4 by rw [e_496]; rfl)) hs_123.2.1) (Eq.trans (Eq.trans (show gi (C_498 5) 5 = ((gi (K123 5) 4) + 1) by rw [e_499]; rfl) (congrArg (fun z => z + 1) hs_123.2.1)) tk_502.2))⟩⟩, ⟨by rw [ht]; exact hP, hD⟩⟩, hS.F ht⟩) hS.2.2 dX4_advance_242
                          · refine lv_iconst (v := 3) hx hb dX4_advance_224 (by decide) ?_
                            refine lv_goto (tgt := 229) hx hb dX4_advance_225 (by decide) ?_
                            refine th_put (Tp := TyX a E) (Rl := fr [(5, 6)] [] C) (ci := 4) (v := .int 3) (ty := .int) (CC := RX4) (T := TX4) (N := 6) hx hb htg ig_4 tyX4 tyX4_ok nmX4 hown hK hP hD hS 5 (by decide) (sX_5 hT) rfl 3 (by decide) (htg _ q_222) (fun _ h9 => h9) rfl (by decide +kernel) rfl rfl (Nat.le_of_ble_eq_true rfl) (hT.up 5 ⟨rfl, (fX_5_1 hT), (fX_5_2 hT), (fX_5_4 hT), (fX_5_5 hT)⟩) (fr_st hF (by decide) (by decide)) dX4_advance_229 (fun C_503 H locs e_504 hT hF hP hD hS => ?_)
                            have t_505 := hT
                            refine lv_aload_n hx hb dX4_advance_232 rfl (lv_at hl 0 rfl) ?_
                            refine lv_aload_n hx hb dX4_advance_233 rfl (lv_at hl 0 rfl) ?_
                            refine va_get (D := D) (ci := 4) (v := .int (gi (K123 5) 4)) (C := RX4) (T := TX4) (N := 6) hx hb htg ig_4 hown hK hP 5 (oh_wg (by decide) (sX_5 hT)) rfl 4 (by decide) (htg _ q_223) (fun _ h9 => h9) (oh_fv (c := C_503 5) (j := 4) rfl (show gi (C_503 5) 4 = gi (K123 5) 4 by rw [e_504]; rfl)) dX4_advance_234 ?_
                            refine lv_iconst (v := 1) hx hb dX4_advance_237 (by decide) ?_
                            refine lv_iadd hx hb dX4_advance_238 ?_
                            refine th_put (Tp := TyX a E) (Rl := fr [(5, 6)] [] C) (ci := 4) (v := .int ((gi (K123 5) 4) + 1)) (ty := .int) (CC := RX4) (T := TX4) (N := 6) hx hb htg ig_4 tyX4 tyX4_ok nmX4 hown hK hP hD hS 5 (by decide) (sX_5 hT) rfl 5 (by decide) (htg _ q_224) (fun _ h9 => h9) rfl (by decide +kernel) rfl rfl (Nat.le_of_ble_eq_true rfl) (hT.up 5 ⟨rfl, (fX_5_1 hT), (fX_5_2 hT), (fX_5_4 hT), (rg_w (rg_add (lo := 1) (hi := 250) (rn_ltu (u' := 249) c_492 (fX_5_4 t_457) (rn_ltl (l' := 1) (Int32.not_le.mp c_458) (fX_5_5 t_457) (fX_5_1 t_457) (by decide)) (by decide)) (rg_c (v := 1) (lo := 1) (hi := 1) (by decide)) (by decide)) (by decide))⟩) (fr_st hF (by decide) (by decide)) dX4_advance_239 (fun C_506 H locs e_507 hT hF hP hD hS => ?_)
                            have t_508 := hT
                            have hM_509 : ¬ (upto pB (ga (C 32)) (gi (C 5) 1) (gi (C 5) 5)) < (upto pD (ga (C 32)) (gi (C 5) 1) (upto pB (ga (C 32)) (gi (C 5) 1) (gi (C 5) 5))) := by rw [← (Eq.trans (upto_stop (p := pD) (fun h8 => pD_lo c_490 h8.2)).symm hs_123.2.2.2), ← hs_123.2.1]; exact Int32.not_lt.mpr c_491
                            have tk_510 := (tk_sgn hs_123.2.2.1 hM_509 (fun h8 => absurd (oh_lee (by rw [← hs_123.2.1] at h8; exact h8) hs_123.1.symm) (Int32.not_le.mpr c_492)) (by rw [← hs_123.2.1]; exact c_494))
                            rw [hQ]
                            exact W.vret hx hb hr (fun t ht hW => ⟨⟨C_506, rfl, ⟨hT, hF, ⟨(Eq.trans (Eq.trans (show gi (C_506 5) 2 = gi (C_503 5) 2 by rw [e_507]; rfl) (show gi (C_503 5) 2 = gi (K123 5) 2 by rw [e_504]; rfl)) hv_123), (px_mk (Eq.trans (Eq.trans (show gi (C_506 5) 1 = gi (C_503 5) 1 by rw [e_507]; rfl) (show gi (C_503 5) 1 = gi (K123 5) 1 by rw [e_504]; rfl)) hs_123.1) (Eq.trans (Eq.trans (show gi (C_506 5) 2 = gi (C_503 5) 2 by rw [e_507]; rfl) (show gi (C_503 5) 2 = gi (K123 5) 2 by rw [e_504]; rfl)) hv_123) (Eq.trans (Eq.trans (show gi (C_506 5) 3 = gi (C_503 5) 3 by rw [e_507]; rfl) (show gi (C_503 5) 3 = (3 : Int32) by rw [e_504]; rfl)) tk_510.1) (Eq.trans (Eq.trans (show gi (C_506 5) 4 = gi (C_503 5) 4 by rw [e_507]; rfl) (show gi (C_503 5) 4 = gi (K123 5) 4 by rw [e_504]; rfl)) hs_123.2.1) (Eq.trans (Eq.trans (show gi (C_506 5) 5 = ((gi (K123 5) 4) + 1) by rw [e_507]; rfl) (congrArg (fun z => z + 1) hs_123.2.1)) tk_510.2))⟩⟩, ⟨by rw [ht]; exact hP, hD⟩⟩, hS.F ht⟩) hS.2.2 dX4_advance_242
                        · refine lv_aload_n hx hb dX4_advance_203 rfl (lv_at hl 0 rfl) ?_
                          refine lv_iconst (v := 0) hx hb dX4_advance_204 (by decide) ?_
                          refine th_put (Tp := TyX a E) (Rl := fr [(5, 6)] [] C) (ci := 4) (v := .int 0) (ty := .int) (CC := RX4) (T := TX4) (N := 6) hx hb htg ig_4 tyX4 tyX4_ok nmX4 hown hK hP hD hS 5 (by decide) (sX_5 hT) rfl 3 (by decide) (htg _ q_222) (fun _ h9 => h9) rfl (by decide +kernel) rfl rfl (Nat.le_of_ble_eq_true rfl) (hT.up 5 ⟨rfl, (fX_5_1 hT), (fX_5_2 hT), (fX_5_4 hT), (fX_5_5 hT)⟩) (fr_st hF (by decide) (by decide)) dX4_advance_205 (fun C_511 H locs e_512 hT hF hP hD hS => ?_)
                          have t_513 := hT
                          have hM_514 : ¬ (upto pB (ga (C 32)) (gi (C 5) 1) (gi (C 5) 5)) < (upto pD (ga (C 32)) (gi (C 5) 1) (upto pB (ga (C 32)) (gi (C 5) 1) (gi (C 5) 5))) := by rw [← (Eq.trans (upto_stop (p := pD) (fun h8 => pD_lo c_490 h8.2)).symm hs_123.2.2.2), ← hs_123.2.1]; exact Int32.not_lt.mpr c_491
                          have hZ_515 : gi (K123 5) 5 = (upto pB (ga (C 32)) (gi (C 5) 1) (gi (C 5) 5)) := Eq.trans (Eq.trans (upto_stop (p := pD) (fun h8 => pD_lo c_490 h8.2)).symm hs_123.2.2.2) (upto_nn (fX_5_1 hT0) (by rw [← hs_123.2.1]; exact (rg_w (lo := 0) (hi := 250) (rn_lel (Int32.not_lt.mp c_492) (rn_ltl (l' := 1) (Int32.not_le.mp c_458) (fX_5_5 t_457) (fX_5_1 t_457) (by decide)) (fX_5_4 t_457)) (by decide))) hM_514)
                          have tk_516 := (tk_end hs_123.2.2.1 hM_514 (by rw [← hs_123.2.1, ← hs_123.1]; exact (Int32.not_lt.mp c_492)))
                          rw [hQ]
                          exact W.vret hx hb hr (fun t ht hW => ⟨⟨C_511, rfl, ⟨hT, hF, ⟨(Eq.trans (show gi (C_511 5) 2 = gi (K123 5) 2 by rw [e_512]; rfl) hv_123), (px_mk (Eq.trans (show gi (C_511 5) 1 = gi (K123 5) 1 by rw [e_512]; rfl) hs_123.1) (Eq.trans (show gi (C_511 5) 2 = gi (K123 5) 2 by rw [e_512]; rfl) hv_123) (Eq.trans (show gi (C_511 5) 3 = (0 : Int32) by rw [e_512]; rfl) tk_516.1) (Eq.trans (show gi (C_511 5) 4 = gi (K123 5) 4 by rw [e_512]; rfl) hs_123.2.1) (Eq.trans (Eq.trans (show gi (C_511 5) 5 = gi (K123 5) 5 by rw [e_512]; rfl) hZ_515) tk_516.2))⟩⟩, ⟨by rw [ht]; exact hP, hD⟩⟩, hS.F ht⟩) hS.2.2 dX4_advance_208
                      · refine lv_aload_n hx hb dX4_advance_186 rfl (lv_at hl 0 rfl) ?_
                        refine lv_iconst (v := 2) hx hb dX4_advance_187 (by decide) ?_
                        refine th_put (Tp := TyX a E) (Rl := fr [(5, 6)] [] C) (ci := 4) (v := .int 2) (ty := .int) (CC := RX4) (T := TX4) (N := 6) hx hb htg ig_4 tyX4 tyX4_ok nmX4 hown hK hP hD hS 5 (by decide) (sX_5 hT) rfl 3 (by decide) (htg _ q_222) (fun _ h9 => h9) rfl (by decide +kernel) rfl rfl (Nat.le_of_ble_eq_true rfl) (hT.up 5 ⟨rfl, (fX_5_1 hT), (fX_5_2 hT), (fX_5_4 hT), (fX_5_5 hT)⟩) (fr_st hF (by decide) (by decide)) dX4_advance_188 (fun C_517 H locs e_518 hT hF hP hD hS => ?_)
                        have t_519 := hT
                        have tk_520 := (tk_num hs_123.2.2.1 (Eq.trans (upto_stop (p := pD) (fun h8 => pD_lo c_490 h8.2)).symm hs_123.2.2.2) (by rw [← hs_123.2.1]; exact (Int32.not_le.mp c_491)))
                        rw [hQ]
                        exact W.vret hx hb hr (fun t ht hW => ⟨⟨C_517, rfl, ⟨hT, hF, ⟨(Eq.trans (show gi (C_517 5) 2 = gi (K123 5) 2 by rw [e_518]; rfl) hv_123), (px_mk (Eq.trans (show gi (C_517 5) 1 = gi (K123 5) 1 by rw [e_518]; rfl) hs_123.1) (Eq.trans (show gi (C_517 5) 2 = gi (K123 5) 2 by rw [e_518]; rfl) hv_123) (Eq.trans (show gi (C_517 5) 3 = (2 : Int32) by rw [e_518]; rfl) tk_520.1) (Eq.trans (show gi (C_517 5) 4 = gi (K123 5) 4 by rw [e_518]; rfl) hs_123.2.1) (Eq.trans (show gi (C_517 5) 5 = gi (K123 5) 5 by rw [e_518]; rfl) tk_520.2))⟩⟩, ⟨by rw [ht]; exact hP, hD⟩⟩, hS.F ht⟩) hS.2.2 dX4_advance_191
                    · refine lv_aload_n hx hb dX4_advance_148 rfl (lv_at hl 0 rfl) ?_
                      refine va_get (D := D) (ci := 4) (v := .ref (a 32)) (C := RX4) (T := TX4) (N := 6) hx hb htg ig_4 hown hK hP 5 (oh_wg (by decide) (sX_5 hT)) rfl 0 (by decide) (htg _ q_217) (fun _ h9 => h9) rfl dX4_advance_149 ?_
                      refine lv_aload_n hx hb dX4_advance_152 rfl (lv_at hl 0 rfl) ?_
                      refine va_get (D := D) (ci := 4) (v := .int (gi (K123 5) 5)) (C := RX4) (T := TX4) (N := 6) hx hb htg ig_4 hown hK hP 5 (oh_wg (by decide) (sX_5 hT)) rfl 5 (by decide) (htg _ q_224) (fun _ h9 => h9) rfl dX4_advance_153 ?_
                      have n_521 : vp_in (gi (K123 5) 5) 250 := (rg_in (rn_ltu (u' := 249) (Int32.not_le.mp c_458) (fX_5_5 t_457) (fX_5_1 t_457) (by decide)) (by decide))
                      refine th_iald hx hb hK hP 32 (by decide) (Eq.trans (Eq.trans (hLF_123.1 32 rfl (by decide)) (Eq.trans (hLF_54.1 32 rfl (by decide)) (Eq.trans (th_un e_343 (by decide)) (Eq.trans (hLF_8.1 32 rfl (by decide)) (th_un e_2 (by decide)))))) (sX_32 hT0)) n_521 dX4_advance_156 ?_
                      refine lv_bipush (v := 57) hx hb dX4_advance_157 (by decide) ?_
                      refine lv_icmp_gt (tgt := 175) hx hb dX4_advance_159 (by decide) (fun (c_522 : (57 : Int32) < (ga (C 32) (gi (K123 5) 5).toNatClampNeg)) => ?_) (fun (c_522 : ¬ ((57 : Int32) < (ga (C 32) (gi (K123 5) 5).toNatClampNeg))) => ?_)
                      · refine lv_aload_n hx hb dX4_advance_175 rfl (lv_at hl 0 rfl) ?_
                        refine va_get (D := D) (ci := 4) (v := .int (gi (K123 5) 5)) (C := RX4) (T := TX4) (N := 6) hx hb htg ig_4 hown hK hP 5 (oh_wg (by decide) (sX_5 hT)) rfl 5 (by decide) (htg _ q_224) (fun _ h9 => h9) rfl dX4_advance_176 ?_
                        refine lv_aload_n hx hb dX4_advance_179 rfl (lv_at hl 0 rfl) ?_
                        refine va_get (D := D) (ci := 4) (v := .int (gi (K123 5) 4)) (C := RX4) (T := TX4) (N := 6) hx hb htg ig_4 hown hK hP 5 (oh_wg (by decide) (sX_5 hT)) rfl 4 (by decide) (htg _ q_223) (fun _ h9 => h9) rfl dX4_advance_180 ?_
                        refine lv_icmp_le (tgt := 192) hx hb dX4_advance_183 (by decide) (fun (c_523 : (gi (K123 5) 5) ≤ (gi (K123 5) 4)) => ?_) (fun (c_523 : ¬ ((gi (K123 5) 5) ≤ (gi (K123 5) 4))) => ?_)
                        · refine lv_aload_n hx hb dX4_advance_192 rfl (lv_at hl 0 rfl) ?_
                          refine va_get (D := D) (ci := 4) (v := .int (gi (K123 5) 4)) (C := RX4) (T := TX4) (N := 6) hx hb htg ig_4 hown hK hP 5 (oh_wg (by decide) (sX_5 hT)) rfl 4 (by decide) (htg _ q_223) (fun _ h9 => h9) rfl dX4_advance_193 ?_
                          refine lv_aload_n hx hb dX4_advance_196 rfl (lv_at hl 0 rfl) ?_
                          refine va_get (D := D) (ci := 4) (v := .int (gi (K123 5) 1)) (C := RX4) (T := TX4) (N := 6) hx hb htg ig_4 hown hK hP 5 (oh_wg (by decide) (sX_5 hT)) rfl 1 (by decide) (htg _ q_218) (fun _ h9 => h9) rfl dX4_advance_197 ?_
                          refine lv_icmp_lt (tgt := 209) hx hb dX4_advance_200 (by decide) (fun (c_524 : (gi (K123 5) 4) < (gi (K123 5) 1)) => ?_) (fun (c_524 : ¬ ((gi (K123 5) 4) < (gi (K123 5) 1))) => ?_)
                          · refine lv_aload_n hx hb dX4_advance_209 rfl (lv_at hl 0 rfl) ?_
                            refine lv_aload_n hx hb dX4_advance_210 rfl (lv_at hl 0 rfl) ?_
                            refine va_get (D := D) (ci := 4) (v := .ref (a 32)) (C := RX4) (T := TX4) (N := 6) hx hb htg ig_4 hown hK hP 5 (oh_wg (by decide) (sX_5 hT)) rfl 0 (by decide) (htg _ q_217) (fun _ h9 => h9) rfl dX4_advance_211 ?_
                            refine lv_aload_n hx hb dX4_advance_214 rfl (lv_at hl 0 rfl) ?_
                            refine va_get (D := D) (ci := 4) (v := .int (gi (K123 5) 4)) (C := RX4) (T := TX4) (N := 6) hx hb htg ig_4 hown hK hP 5 (oh_wg (by decide) (sX_5 hT)) rfl 4 (by decide) (htg _ q_223) (fun _ h9 => h9) rfl dX4_advance_215 ?_
                            have n_525 : vp_in (gi (K123 5) 4) 250 := (rg_in (rn_ltu (u' := 249) c_524 (fX_5_4 t_457) (rn_ltl (l' := 1) (Int32.not_le.mp c_458) (fX_5_5 t_457) (fX_5_1 t_457) (by decide)) (by decide)) (by decide))
                            refine th_iald hx hb hK hP 32 (by decide) (Eq.trans (Eq.trans (hLF_123.1 32 rfl (by decide)) (Eq.trans (hLF_54.1 32 rfl (by decide)) (Eq.trans (th_un e_343 (by decide)) (Eq.trans (hLF_8.1 32 rfl (by decide)) (th_un e_2 (by decide)))))) (sX_32 hT0)) n_525 dX4_advance_218 ?_
                            refine lv_bipush (v := 59) hx hb dX4_advance_219 (by decide) ?_
                            refine lv_icmp_ne (tgt := 228) hx hb dX4_advance_221 (by decide) (fun (c_526 : ¬ ((ga (C 32) (gi (K123 5) 4).toNatClampNeg) = 59)) => ?_) (fun (c_526 : (ga (C 32) (gi (K123 5) 4).toNatClampNeg) = 59) => ?_)
                            · refine lv_iconst (v := 4) hx hb dX4_advance_228 (by decide) ?_
                              refine th_put (Tp := TyX a E) (Rl := fr [(5, 6)] [] C) (ci := 4) (v := .int 4) (ty := .int) (CC := RX4) (T := TX4) (N := 6) hx hb htg ig_4 tyX4 tyX4_ok nmX4 hown hK hP hD hS 5 (by decide) (sX_5 hT) rfl 3 (by decide) (htg _ q_222) (fun _ h9 => h9) rfl (by decide +kernel) rfl rfl (Nat.le_of_ble_eq_true rfl) (hT.up 5 ⟨rfl, (fX_5_1 hT), (fX_5_2 hT), (fX_5_4 hT), (fX_5_5 hT)⟩) (fr_st hF (by decide) (by decide)) dX4_advance_229 (fun C_527 H locs e_528 hT hF hP hD hS => ?_)
                              have t_529 := hT
                              refine lv_aload_n hx hb dX4_advance_232 rfl (lv_at hl 0 rfl) ?_
                              refine lv_aload_n hx hb dX4_advance_233 rfl (lv_at hl 0 rfl) ?_
                              refine va_get (D := D) (ci := 4) (v := .int (gi (K123 5) 4)) (C := RX4) (T := TX4) (N := 6) hx hb htg ig_4 hown hK hP 5 (oh_wg (by decide) (sX_5 hT)) rfl 4 (by decide) (htg _ q_223) (fun _ h9 => h9) (oh_fv (c := C_527 5) (j := 4) rfl (show gi (C_527 5) 4 = gi (K123 5) 4 by rw [e_528]; rfl)) dX4_advance_234 ?_
                              refine lv_iconst (v := 1) hx hb dX4_advance_237 (by decide) ?_
                              refine lv_iadd hx hb dX4_advance_238 ?_
                              refine th_put (Tp := TyX a E) (Rl := fr [(5, 6)] [] C) (ci := 4) (v := .int ((gi (K123 5) 4) + 1)) (ty := .int) (CC := RX4) (T := TX4) (N := 6) hx hb htg ig_4 tyX4 tyX4_ok nmX4 hown hK hP hD hS 5 (by decide) (sX_5 hT) rfl 5 (by decide) (htg _ q_224) (fun _ h9 => h9) rfl (by decide +kernel) rfl rfl (Nat.le_of_ble_eq_true rfl) (hT.up 5 ⟨rfl, (fX_5_1 hT), (fX_5_2 hT), (fX_5_4 hT), (rg_w (rg_add (lo := 1) (hi := 250) (rn_ltu (u' := 249) c_524 (fX_5_4 t_457) (rn_ltl (l' := 1) (Int32.not_le.mp c_458) (fX_5_5 t_457) (fX_5_1 t_457) (by decide)) (by decide)) (rg_c (v := 1) (lo := 1) (hi := 1) (by decide)) (by decide)) (by decide))⟩) (fr_st hF (by decide) (by decide)) dX4_advance_239 (fun C_530 H locs e_531 hT hF hP hD hS => ?_)
                              have t_532 := hT
                              have hM_533 : ¬ (upto pB (ga (C 32)) (gi (C 5) 1) (gi (C 5) 5)) < (upto pD (ga (C 32)) (gi (C 5) 1) (upto pB (ga (C 32)) (gi (C 5) 1) (gi (C 5) 5))) := by rw [← (Eq.trans (upto_stop (p := pD) (fun h8 => pD_hi c_522 h8.2)).symm hs_123.2.2.2), ← hs_123.2.1]; exact Int32.not_lt.mpr c_523
                              have tk_534 := (tk_wrg hs_123.2.2.1 hM_533 (fun h8 => absurd (oh_lee (by rw [← hs_123.2.1] at h8; exact h8) hs_123.1.symm) (Int32.not_le.mpr c_524)) (by rw [← hs_123.2.1]; exact c_526))
                              rw [hQ]
                              exact W.vret hx hb hr (fun t ht hW => ⟨⟨C_530, rfl, ⟨hT, hF, ⟨(Eq.trans (Eq.trans (show gi (C_530 5) 2 = gi (C_527 5) 2 by rw [e_531]; rfl) (show gi (C_527 5) 2 = gi (K123 5) 2 by rw [e_528]; rfl)) hv_123), (px_mk (Eq.trans (Eq.trans (show gi (C_530 5) 1 = gi (C_527 5) 1 by rw [e_531]; rfl) (show gi (C_527 5) 1 = gi (K123 5) 1 by rw [e_528]; rfl)) hs_123.1) (Eq.trans (Eq.trans (show gi (C_530 5) 2 = gi (C_527 5) 2 by rw [e_531]; rfl) (show gi (C_527 5) 2 = gi (K123 5) 2 by rw [e_528]; rfl)) hv_123) (Eq.trans (Eq.trans (show gi (C_530 5) 3 = gi (C_527 5) 3 by rw [e_531]; rfl) (show gi (C_527 5) 3 = (4 : Int32) by rw [e_528]; rfl)) tk_534.1) (Eq.trans (Eq.trans (show gi (C_530 5) 4 = gi (C_527 5) 4 by rw [e_531]; rfl) (show gi (C_527 5) 4 = gi (K123 5) 4 by rw [e_528]; rfl)) hs_123.2.1) (Eq.trans (Eq.trans (show gi (C_530 5) 5 = ((gi (K123 5) 4) + 1) by rw [e_531]; rfl) (congrArg (fun z => z + 1) hs_123.2.1)) tk_534.2))⟩⟩, ⟨by rw [ht]; exact hP, hD⟩⟩, hS.F ht⟩) hS.2.2 dX4_advance_242
                            · refine lv_iconst (v := 3) hx hb dX4_advance_224 (by decide) ?_
                              refine lv_goto (tgt := 229) hx hb dX4_advance_225 (by decide) ?_
                              refine th_put (Tp := TyX a E) (Rl := fr [(5, 6)] [] C) (ci := 4) (v := .int 3) (ty := .int) (CC := RX4) (T := TX4) (N := 6) hx hb htg ig_4 tyX4 tyX4_ok nmX4 hown hK hP hD hS 5 (by decide) (sX_5 hT) rfl 3 (by decide) (htg _ q_222) (fun _ h9 => h9) rfl (by decide +kernel) rfl rfl (Nat.le_of_ble_eq_true rfl) (hT.up 5 ⟨rfl, (fX_5_1 hT), (fX_5_2 hT), (fX_5_4 hT), (fX_5_5 hT)⟩) (fr_st hF (by decide) (by decide)) dX4_advance_229 (fun C_535 H locs e_536 hT hF hP hD hS => ?_)
                              have t_537 := hT
                              refine lv_aload_n hx hb dX4_advance_232 rfl (lv_at hl 0 rfl) ?_
                              refine lv_aload_n hx hb dX4_advance_233 rfl (lv_at hl 0 rfl) ?_
                              refine va_get (D := D) (ci := 4) (v := .int (gi (K123 5) 4)) (C := RX4) (T := TX4) (N := 6) hx hb htg ig_4 hown hK hP 5 (oh_wg (by decide) (sX_5 hT)) rfl 4 (by decide) (htg _ q_223) (fun _ h9 => h9) (oh_fv (c := C_535 5) (j := 4) rfl (show gi (C_535 5) 4 = gi (K123 5) 4 by rw [e_536]; rfl)) dX4_advance_234 ?_
                              refine lv_iconst (v := 1) hx hb dX4_advance_237 (by decide) ?_
                              refine lv_iadd hx hb dX4_advance_238 ?_
                              refine th_put (Tp := TyX a E) (Rl := fr [(5, 6)] [] C) (ci := 4) (v := .int ((gi (K123 5) 4) + 1)) (ty := .int) (CC := RX4) (T := TX4) (N := 6) hx hb htg ig_4 tyX4 tyX4_ok nmX4 hown hK hP hD hS 5 (by decide) (sX_5 hT) rfl 5 (by decide) (htg _ q_224) (fun _ h9 => h9) rfl (by decide +kernel) rfl rfl (Nat.le_of_ble_eq_true rfl) (hT.up 5 ⟨rfl, (fX_5_1 hT), (fX_5_2 hT), (fX_5_4 hT), (rg_w (rg_add (lo := 1) (hi := 250) (rn_ltu (u' := 249) c_524 (fX_5_4 t_457) (rn_ltl (l' := 1) (Int32.not_le.mp c_458) (fX_5_5 t_457) (fX_5_1 t_457) (by decide)) (by decide)) (rg_c (v := 1) (lo := 1) (hi := 1) (by decide)) (by decide)) (by decide))⟩) (fr_st hF (by decide) (by decide)) dX4_advance_239 (fun C_538 H locs e_539 hT hF hP hD hS => ?_)
                              have t_540 := hT
                              have hM_541 : ¬ (upto pB (ga (C 32)) (gi (C 5) 1) (gi (C 5) 5)) < (upto pD (ga (C 32)) (gi (C 5) 1) (upto pB (ga (C 32)) (gi (C 5) 1) (gi (C 5) 5))) := by rw [← (Eq.trans (upto_stop (p := pD) (fun h8 => pD_hi c_522 h8.2)).symm hs_123.2.2.2), ← hs_123.2.1]; exact Int32.not_lt.mpr c_523
                              have tk_542 := (tk_sgn hs_123.2.2.1 hM_541 (fun h8 => absurd (oh_lee (by rw [← hs_123.2.1] at h8; exact h8) hs_123.1.symm) (Int32.not_le.mpr c_524)) (by rw [← hs_123.2.1]; exact c_526))
                              rw [hQ]
                              exact W.vret hx hb hr (fun t ht hW => ⟨⟨C_538, rfl, ⟨hT, hF, ⟨(Eq.trans (Eq.trans (show gi (C_538 5) 2 = gi (C_535 5) 2 by rw [e_539]; rfl) (show gi (C_535 5) 2 = gi (K123 5) 2 by rw [e_536]; rfl)) hv_123), (px_mk (Eq.trans (Eq.trans (show gi (C_538 5) 1 = gi (C_535 5) 1 by rw [e_539]; rfl) (show gi (C_535 5) 1 = gi (K123 5) 1 by rw [e_536]; rfl)) hs_123.1) (Eq.trans (Eq.trans (show gi (C_538 5) 2 = gi (C_535 5) 2 by rw [e_539]; rfl) (show gi (C_535 5) 2 = gi (K123 5) 2 by rw [e_536]; rfl)) hv_123) (Eq.trans (Eq.trans (show gi (C_538 5) 3 = gi (C_535 5) 3 by rw [e_539]; rfl) (show gi (C_535 5) 3 = (3 : Int32) by rw [e_536]; rfl)) tk_542.1) (Eq.trans (Eq.trans (show gi (C_538 5) 4 = gi (C_535 5) 4 by rw [e_539]; rfl) (show gi (C_535 5) 4 = gi (K123 5) 4 by rw [e_536]; rfl)) hs_123.2.1) (Eq.trans (Eq.trans (show gi (C_538 5) 5 = ((gi (K123 5) 4) + 1) by rw [e_539]; rfl) (congrArg (fun z => z + 1) hs_123.2.1)) tk_542.2))⟩⟩, ⟨by rw [ht]; exact hP, hD⟩⟩, hS.F ht⟩) hS.2.2 dX4_advance_242
                          · refine lv_aload_n hx hb dX4_advance_203 rfl (lv_at hl 0 rfl) ?_
                            refine lv_iconst (v := 0) hx hb dX4_advance_204 (by decide) ?_
                            refine th_put (Tp := TyX a E) (Rl := fr [(5, 6)] [] C) (ci := 4) (v := .int 0) (ty := .int) (CC := RX4) (T := TX4) (N := 6) hx hb htg ig_4 tyX4 tyX4_ok nmX4 hown hK hP hD hS 5 (by decide) (sX_5 hT) rfl 3 (by decide) (htg _ q_222) (fun _ h9 => h9) rfl (by decide +kernel) rfl rfl (Nat.le_of_ble_eq_true rfl) (hT.up 5 ⟨rfl, (fX_5_1 hT), (fX_5_2 hT), (fX_5_4 hT), (fX_5_5 hT)⟩) (fr_st hF (by decide) (by decide)) dX4_advance_205 (fun C_543 H locs e_544 hT hF hP hD hS => ?_)
                            have t_545 := hT
                            have hM_546 : ¬ (upto pB (ga (C 32)) (gi (C 5) 1) (gi (C 5) 5)) < (upto pD (ga (C 32)) (gi (C 5) 1) (upto pB (ga (C 32)) (gi (C 5) 1) (gi (C 5) 5))) := by rw [← (Eq.trans (upto_stop (p := pD) (fun h8 => pD_hi c_522 h8.2)).symm hs_123.2.2.2), ← hs_123.2.1]; exact Int32.not_lt.mpr c_523
                            have hZ_547 : gi (K123 5) 5 = (upto pB (ga (C 32)) (gi (C 5) 1) (gi (C 5) 5)) := Eq.trans (Eq.trans (upto_stop (p := pD) (fun h8 => pD_hi c_522 h8.2)).symm hs_123.2.2.2) (upto_nn (fX_5_1 hT0) (by rw [← hs_123.2.1]; exact (rg_w (lo := 0) (hi := 250) (rn_lel (Int32.not_lt.mp c_524) (rn_ltl (l' := 1) (Int32.not_le.mp c_458) (fX_5_5 t_457) (fX_5_1 t_457) (by decide)) (fX_5_4 t_457)) (by decide))) hM_546)
                            have tk_548 := (tk_end hs_123.2.2.1 hM_546 (by rw [← hs_123.2.1, ← hs_123.1]; exact (Int32.not_lt.mp c_524)))
                            rw [hQ]
                            exact W.vret hx hb hr (fun t ht hW => ⟨⟨C_543, rfl, ⟨hT, hF, ⟨(Eq.trans (show gi (C_543 5) 2 = gi (K123 5) 2 by rw [e_544]; rfl) hv_123), (px_mk (Eq.trans (show gi (C_543 5) 1 = gi (K123 5) 1 by rw [e_544]; rfl) hs_123.1) (Eq.trans (show gi (C_543 5) 2 = gi (K123 5) 2 by rw [e_544]; rfl) hv_123) (Eq.trans (show gi (C_543 5) 3 = (0 : Int32) by rw [e_544]; rfl) tk_548.1) (Eq.trans (show gi (C_543 5) 4 = gi (K123 5) 4 by rw [e_544]; rfl) hs_123.2.1) (Eq.trans (Eq.trans (show gi (C_543 5) 5 = gi (K123 5) 5 by rw [e_544]; rfl) hZ_547) tk_548.2))⟩⟩, ⟨by rw [ht]; exact hP, hD⟩⟩, hS.F ht⟩) hS.2.2 dX4_advance_208
                        · refine lv_aload_n hx hb dX4_advance_186 rfl (lv_at hl 0 rfl) ?_
                          refine lv_iconst (v := 2) hx hb dX4_advance_187 (by decide) ?_
                          refine th_put (Tp := TyX a E) (Rl := fr [(5, 6)] [] C) (ci := 4) (v := .int 2) (ty := .int) (CC := RX4) (T := TX4) (N := 6) hx hb htg ig_4 tyX4 tyX4_ok nmX4 hown hK hP hD hS 5 (by decide) (sX_5 hT) rfl 3 (by decide) (htg _ q_222) (fun _ h9 => h9) rfl (by decide +kernel) rfl rfl (Nat.le_of_ble_eq_true rfl) (hT.up 5 ⟨rfl, (fX_5_1 hT), (fX_5_2 hT), (fX_5_4 hT), (fX_5_5 hT)⟩) (fr_st hF (by decide) (by decide)) dX4_advance_188 (fun C_549 H locs e_550 hT hF hP hD hS => ?_)
                          have t_551 := hT
                          have tk_552 := (tk_num hs_123.2.2.1 (Eq.trans (upto_stop (p := pD) (fun h8 => pD_hi c_522 h8.2)).symm hs_123.2.2.2) (by rw [← hs_123.2.1]; exact (Int32.not_le.mp c_523)))
                          rw [hQ]
                          exact W.vret hx hb hr (fun t ht hW => ⟨⟨C_549, rfl, ⟨hT, hF, ⟨(Eq.trans (show gi (C_549 5) 2 = gi (K123 5) 2 by rw [e_550]; rfl) hv_123), (px_mk (Eq.trans (show gi (C_549 5) 1 = gi (K123 5) 1 by rw [e_550]; rfl) hs_123.1) (Eq.trans (show gi (C_549 5) 2 = gi (K123 5) 2 by rw [e_550]; rfl) hv_123) (Eq.trans (show gi (C_549 5) 3 = (2 : Int32) by rw [e_550]; rfl) tk_552.1) (Eq.trans (show gi (C_549 5) 4 = gi (K123 5) 4 by rw [e_550]; rfl) hs_123.2.1) (Eq.trans (show gi (C_549 5) 5 = gi (K123 5) 5 by rw [e_550]; rfl) tk_552.2))⟩⟩, ⟨by rw [ht]; exact hP, hD⟩⟩, hS.F ht⟩) hS.2.2 dX4_advance_191
                      · refine lv_aload_n hx hb dX4_advance_162 rfl (lv_at hl 0 rfl) ?_
                        refine lv_dup hx hb dX4_advance_163 rfl ?_
                        refine va_get (D := D) (ci := 4) (v := .int (gi (K123 5) 5)) (C := RX4) (T := TX4) (N := 6) hx hb htg ig_4 hown hK hP 5 (oh_wg (by decide) (sX_5 hT)) rfl 5 (by decide) (htg _ q_224) (fun _ h9 => h9) rfl dX4_advance_164 ?_
                        refine lv_iconst (v := 1) hx hb dX4_advance_167 (by decide) ?_
                        refine lv_iadd hx hb dX4_advance_168 ?_
                        refine th_put (Tp := TyX a E) (Rl := fr [(5, 6)] [] C) (ci := 4) (v := .int ((gi (K123 5) 5) + 1)) (ty := .int) (CC := RX4) (T := TX4) (N := 6) hx hb htg ig_4 tyX4 tyX4_ok nmX4 hown hK hP hD hS 5 (by decide) (sX_5 hT) rfl 5 (by decide) (htg _ q_224) (fun _ h9 => h9) rfl (by decide +kernel) rfl rfl (Nat.le_of_ble_eq_true rfl) (hT.up 5 ⟨rfl, (fX_5_1 hT), (fX_5_2 hT), (fX_5_4 hT), (rg_w (rg_add (lo := 1) (hi := 250) (rn_ltu (u' := 249) (Int32.not_le.mp c_458) (fX_5_5 t_457) (fX_5_1 t_457) (by decide)) (rg_c (v := 1) (lo := 1) (hi := 1) (by decide)) (by decide)) (by decide))⟩) (fr_st hF (by decide) (by decide)) dX4_advance_169 (fun C_553 H locs e_554 hT hF hP hD hS => ?_)
                        have t_555 := hT
                        refine lv_goto (tgt := 123) hx hb dX4_advance_172 (by decide) ?_
                        exact ih_123 _ (hd_123 ▸ (by rw [(show gi (C_553 5) 5 = ((gi (K123 5) 5) + 1) by rw [e_554]; rfl)]; exact mu_up 250 (rn_ltu (u' := 249) (Int32.not_le.mp c_458) (fX_5_5 t_457) (fX_5_1 t_457) (by decide)) (by decide))) C_553  _ _ ls rfl (Eq.trans (show gi (C_553 5) 2 = gi (K123 5) 2 by rw [e_554]; rfl) hv_123) ⟨Eq.trans (show gi (C_553 5) 1 = gi (K123 5) 1 by rw [e_554]; rfl) hs_123.1, Eq.trans (show gi (C_553 5) 4 = gi (K123 5) 4 by rw [e_554]; rfl) hs_123.2.1, hs_123.2.2.1, Eq.trans (congrArg (upto pD (ga (C 32)) (gi (C 5) 1)) (show gi (C_553 5) 5 = ((gi (K123 5) 5) + 1) by rw [e_554]; rfl)) (Eq.trans (upto_step (p := pD) (rg_w (lo := 0) (hi := 249) (rn_ltu (u' := 249) (Int32.not_le.mp c_458) (fX_5_5 t_457) (fX_5_1 t_457) (by decide)) (by decide)) (oh_lte (Int32.not_le.mp c_458) hs_123.1) ⟨(Int32.not_lt.mp c_490), (Int32.not_lt.mp c_522)⟩).symm hs_123.2.2.2)⟩ hT hF (fr_ste hLF_123 e_554 (by decide) (by decide)) hP hD hS (lv_sub hl [0] rfl)
                have hE_556 : gi (K54 5) 5 = (upto pL (ga (C 32)) (gi (C 5) 1) (upto pB (ga (C 32)) (gi (C 5) 1) (gi (C 5) 5))) := (Eq.trans (upto_stop (p := pL) (fun h8 => pL_lo c_455 h8.2)).symm hs_54.2.2)
                have hN_557 : ¬ (upto pB (ga (C 32)) (gi (C 5) 1) (gi (C 5) 5)) < (upto pL (ga (C 32)) (gi (C 5) 1) (upto pB (ga (C 32)) (gi (C 5) 1) (gi (C 5) 5))) := by rw [← hE_556, ← hs_54.2.1]; exact Int32.not_lt.mpr c_456
                have hZ_558 : gi (K54 5) 5 = (upto pB (ga (C 32)) (gi (C 5) 1) (gi (C 5) 5)) := Eq.trans hE_556 (upto_nn (fX_5_1 hT0) (by rw [← hs_54.2.1]; exact (rg_w (lo := 0) (hi := 250) (fX_5_4 t_345) (by decide))) hN_557)
                exact L_123 _ K54  _ _ ls rfl (Eq.trans rfl hv_54) ⟨hs_54.1, hs_54.2.1, hN_557, (congrArg (upto pD (ga (C 32)) (gi (C 5) 1)) hZ_558)⟩ hT hF fr_rf hP hD hS (lv_sub hl [0] rfl)
              · refine lv_aload_n hx hb dX4_advance_117 rfl (lv_at hl 0 rfl) ?_
                refine lv_iconst (v := 1) hx hb dX4_advance_118 (by decide) ?_
                refine th_put (Tp := TyX a E) (Rl := fr [(5, 6)] [] C) (ci := 4) (v := .int 1) (ty := .int) (CC := RX4) (T := TX4) (N := 6) hx hb htg ig_4 tyX4 tyX4_ok nmX4 hown hK hP hD hS 5 (by decide) (sX_5 hT) rfl 3 (by decide) (htg _ q_222) (fun _ h9 => h9) rfl (by decide +kernel) rfl rfl (Nat.le_of_ble_eq_true rfl) (hT.up 5 ⟨rfl, (fX_5_1 hT), (fX_5_2 hT), (fX_5_4 hT), (fX_5_5 hT)⟩) (fr_st hF (by decide) (by decide)) dX4_advance_119 (fun C_559 H locs e_560 hT hF hP hD hS => ?_)
                have t_561 := hT
                have tk_562 := (tk_word (Eq.trans (upto_stop (p := pL) (fun h8 => pL_lo c_455 h8.2)).symm hs_54.2.2) (by rw [← hs_54.2.1]; exact (Int32.not_le.mp c_456)))
                rw [hQ]
                exact W.vret hx hb hr (fun t ht hW => ⟨⟨C_559, rfl, ⟨hT, hF, ⟨(Eq.trans (show gi (C_559 5) 2 = gi (K54 5) 2 by rw [e_560]; rfl) hv_54), (px_mk (Eq.trans (show gi (C_559 5) 1 = gi (K54 5) 1 by rw [e_560]; rfl) hs_54.1) (Eq.trans (show gi (C_559 5) 2 = gi (K54 5) 2 by rw [e_560]; rfl) hv_54) (Eq.trans (show gi (C_559 5) 3 = (1 : Int32) by rw [e_560]; rfl) tk_562.1) (Eq.trans (show gi (C_559 5) 4 = gi (K54 5) 4 by rw [e_560]; rfl) hs_54.2.1) (Eq.trans (show gi (C_559 5) 5 = gi (K54 5) 5 by rw [e_560]; rfl) tk_562.2))⟩⟩, ⟨by rw [ht]; exact hP, hD⟩⟩, hS.F ht⟩) hS.2.2 dX4_advance_122
            · refine lv_aload_n hx hb dX4_advance_79 rfl (lv_at hl 0 rfl) ?_
              refine va_get (D := D) (ci := 4) (v := .ref (a 32)) (C := RX4) (T := TX4) (N := 6) hx hb htg ig_4 hown hK hP 5 (oh_wg (by decide) (sX_5 hT)) rfl 0 (by decide) (htg _ q_217) (fun _ h9 => h9) rfl dX4_advance_80 ?_
              refine lv_aload_n hx hb dX4_advance_83 rfl (lv_at hl 0 rfl) ?_
              refine va_get (D := D) (ci := 4) (v := .int (gi (K54 5) 5)) (C := RX4) (T := TX4) (N := 6) hx hb htg ig_4 hown hK hP 5 (oh_wg (by decide) (sX_5 hT)) rfl 5 (by decide) (htg _ q_224) (fun _ h9 => h9) rfl dX4_advance_84 ?_
              have n_563 : vp_in (gi (K54 5) 5) 250 := (rg_in (rn_ltu (u' := 249) (Int32.not_le.mp c_346) (fX_5_5 t_345) (fX_5_1 t_345) (by decide)) (by decide))
              refine th_iald hx hb hK hP 32 (by decide) (Eq.trans (Eq.trans (hLF_54.1 32 rfl (by decide)) (Eq.trans (th_un e_343 (by decide)) (Eq.trans (hLF_8.1 32 rfl (by decide)) (th_un e_2 (by decide))))) (sX_32 hT0)) n_563 dX4_advance_87 ?_
              refine lv_bipush (v := 122) hx hb dX4_advance_88 (by decide) ?_
              refine lv_icmp_gt (tgt := 106) hx hb dX4_advance_90 (by decide) (fun (c_564 : (122 : Int32) < (ga (C 32) (gi (K54 5) 5).toNatClampNeg)) => ?_) (fun (c_564 : ¬ ((122 : Int32) < (ga (C 32) (gi (K54 5) 5).toNatClampNeg))) => ?_)
              · refine lv_aload_n hx hb dX4_advance_106 rfl (lv_at hl 0 rfl) ?_
                refine va_get (D := D) (ci := 4) (v := .int (gi (K54 5) 5)) (C := RX4) (T := TX4) (N := 6) hx hb htg ig_4 hown hK hP 5 (oh_wg (by decide) (sX_5 hT)) rfl 5 (by decide) (htg _ q_224) (fun _ h9 => h9) rfl dX4_advance_107 ?_
                refine lv_aload_n hx hb dX4_advance_110 rfl (lv_at hl 0 rfl) ?_
                refine va_get (D := D) (ci := 4) (v := .int (gi (K54 5) 4)) (C := RX4) (T := TX4) (N := 6) hx hb htg ig_4 hown hK hP 5 (oh_wg (by decide) (sX_5 hT)) rfl 4 (by decide) (htg _ q_223) (fun _ h9 => h9) rfl dX4_advance_111 ?_
                refine lv_icmp_le (tgt := 123) hx hb dX4_advance_114 (by decide) (fun (c_565 : (gi (K54 5) 5) ≤ (gi (K54 5) 4)) => ?_) (fun (c_565 : ¬ ((gi (K54 5) 5) ≤ (gi (K54 5) 4))) => ?_)
                · have L_123 : ∀ (d : Nat) (K123 : Nat → va_E) (H : Heap) (locs : List Loc) (ls : Array Slot), (250 - (gi (K123 5) 5).toInt).toNat = d → (gi (K123 5) 2 = gi (C 5) 2) → (gi (K123 5) 1 = (gi (C 5) 1) ∧ gi (K123 5) 4 = (upto pB (ga (C 32)) (gi (C 5) 1) (gi (C 5) 5)) ∧ ¬ (upto pB (ga (C 32)) (gi (C 5) 1) (gi (C 5) 5)) < (upto pL (ga (C 32)) (gi (C 5) 1) (upto pB (ga (C 32)) (gi (C 5) 1) (gi (C 5) 5))) ∧ (upto pD (ga (C 32)) (gi (C 5) 1) (gi (K123 5) 5)) = (upto pD (ga (C 32)) (gi (C 5) 1) (upto pB (ga (C 32)) (gi (C 5) 1) (gi (C 5) 5)))) → TyX a E K123 → fr [(5, 6)] [] C K123 → fr [(5, 6)] [] K54 K123 → va_P D vwCl (oh_W 35 a K123) H → va_D A (oh_W 35 a K123) → va_S A s.heap H locs → lv_has ls 1 [(0, .ref (a 5))] → W p l e ({ frames := 0, cells := 0, slots := 0, locals := 0 }) s m (([.ref (a 5)] : List Value).toArray) below meth c H locs 0 0 Q (F0 m 123 ls []) := by
                    intro d
                    induction d using Nat.strongRecOn with
                    | ind d ih_123 =>
                    intro K123  H locs ls hd_123 hv_123 hs_123 hT hF hLF_123 hP hD hS hl
                    have t_566 := hT
                    refine lv_aload_n hx hb dX4_advance_123 rfl (lv_at hl 0 rfl) ?_
                    refine va_get (D := D) (ci := 4) (v := .int (gi (K123 5) 5)) (C := RX4) (T := TX4) (N := 6) hx hb htg ig_4 hown hK hP 5 (oh_wg (by decide) (sX_5 hT)) rfl 5 (by decide) (htg _ q_224) (fun _ h9 => h9) rfl dX4_advance_124 ?_
                    refine lv_aload_n hx hb dX4_advance_127 rfl (lv_at hl 0 rfl) ?_
                    refine va_get (D := D) (ci := 4) (v := .int (gi (K123 5) 1)) (C := RX4) (T := TX4) (N := 6) hx hb htg ig_4 hown hK hP 5 (oh_wg (by decide) (sX_5 hT)) rfl 1 (by decide) (htg _ q_218) (fun _ h9 => h9) rfl dX4_advance_128 ?_
                    refine lv_icmp_ge (tgt := 175) hx hb dX4_advance_131 (by decide) (fun (c_567 : (gi (K123 5) 1) ≤ (gi (K123 5) 5)) => ?_) (fun (c_567 : ¬ ((gi (K123 5) 1) ≤ (gi (K123 5) 5))) => ?_)
                    · refine lv_aload_n hx hb dX4_advance_175 rfl (lv_at hl 0 rfl) ?_
                      refine va_get (D := D) (ci := 4) (v := .int (gi (K123 5) 5)) (C := RX4) (T := TX4) (N := 6) hx hb htg ig_4 hown hK hP 5 (oh_wg (by decide) (sX_5 hT)) rfl 5 (by decide) (htg _ q_224) (fun _ h9 => h9) rfl dX4_advance_176 ?_
                      refine lv_aload_n hx hb dX4_advance_179 rfl (lv_at hl 0 rfl) ?_
                      refine va_get (D := D) (ci := 4) (v := .int (gi (K123 5) 4)) (C := RX4) (T := TX4) (N := 6) hx hb htg ig_4 hown hK hP 5 (oh_wg (by decide) (sX_5 hT)) rfl 4 (by decide) (htg _ q_223) (fun _ h9 => h9) rfl dX4_advance_180 ?_
                      refine lv_icmp_le (tgt := 192) hx hb dX4_advance_183 (by decide) (fun (c_568 : (gi (K123 5) 5) ≤ (gi (K123 5) 4)) => ?_) (fun (c_568 : ¬ ((gi (K123 5) 5) ≤ (gi (K123 5) 4))) => ?_)
                      · refine lv_aload_n hx hb dX4_advance_192 rfl (lv_at hl 0 rfl) ?_
                        refine va_get (D := D) (ci := 4) (v := .int (gi (K123 5) 4)) (C := RX4) (T := TX4) (N := 6) hx hb htg ig_4 hown hK hP 5 (oh_wg (by decide) (sX_5 hT)) rfl 4 (by decide) (htg _ q_223) (fun _ h9 => h9) rfl dX4_advance_193 ?_
                        refine lv_aload_n hx hb dX4_advance_196 rfl (lv_at hl 0 rfl) ?_
                        refine va_get (D := D) (ci := 4) (v := .int (gi (K123 5) 1)) (C := RX4) (T := TX4) (N := 6) hx hb htg ig_4 hown hK hP 5 (oh_wg (by decide) (sX_5 hT)) rfl 1 (by decide) (htg _ q_218) (fun _ h9 => h9) rfl dX4_advance_197 ?_
                        refine lv_icmp_lt (tgt := 209) hx hb dX4_advance_200 (by decide) (fun (c_569 : (gi (K123 5) 4) < (gi (K123 5) 1)) => ?_) (fun (c_569 : ¬ ((gi (K123 5) 4) < (gi (K123 5) 1))) => ?_)
                        · refine lv_aload_n hx hb dX4_advance_209 rfl (lv_at hl 0 rfl) ?_
                          refine lv_aload_n hx hb dX4_advance_210 rfl (lv_at hl 0 rfl) ?_
                          refine va_get (D := D) (ci := 4) (v := .ref (a 32)) (C := RX4) (T := TX4) (N := 6) hx hb htg ig_4 hown hK hP 5 (oh_wg (by decide) (sX_5 hT)) rfl 0 (by decide) (htg _ q_217) (fun _ h9 => h9) rfl dX4_advance_211 ?_
                          refine lv_aload_n hx hb dX4_advance_214 rfl (lv_at hl 0 rfl) ?_
                          refine va_get (D := D) (ci := 4) (v := .int (gi (K123 5) 4)) (C := RX4) (T := TX4) (N := 6) hx hb htg ig_4 hown hK hP 5 (oh_wg (by decide) (sX_5 hT)) rfl 4 (by decide) (htg _ q_223) (fun _ h9 => h9) rfl dX4_advance_215 ?_
                          have n_570 : vp_in (gi (K123 5) 4) 250 := (rg_in (rn_ltu (u' := 249) c_569 (rn_lel c_568 (rn_lel c_567 (rn_ltl (l' := 1) c_569 (fX_5_4 t_566) (fX_5_1 t_566) (by decide)) (fX_5_5 t_566)) (fX_5_4 t_566)) (fX_5_1 t_566) (by decide)) (by decide))
                          refine th_iald hx hb hK hP 32 (by decide) (Eq.trans (Eq.trans (hLF_123.1 32 rfl (by decide)) (Eq.trans (hLF_54.1 32 rfl (by decide)) (Eq.trans (th_un e_343 (by decide)) (Eq.trans (hLF_8.1 32 rfl (by decide)) (th_un e_2 (by decide)))))) (sX_32 hT0)) n_570 dX4_advance_218 ?_
                          refine lv_bipush (v := 59) hx hb dX4_advance_219 (by decide) ?_
                          refine lv_icmp_ne (tgt := 228) hx hb dX4_advance_221 (by decide) (fun (c_571 : ¬ ((ga (C 32) (gi (K123 5) 4).toNatClampNeg) = 59)) => ?_) (fun (c_571 : (ga (C 32) (gi (K123 5) 4).toNatClampNeg) = 59) => ?_)
                          · refine lv_iconst (v := 4) hx hb dX4_advance_228 (by decide) ?_
                            refine th_put (Tp := TyX a E) (Rl := fr [(5, 6)] [] C) (ci := 4) (v := .int 4) (ty := .int) (CC := RX4) (T := TX4) (N := 6) hx hb htg ig_4 tyX4 tyX4_ok nmX4 hown hK hP hD hS 5 (by decide) (sX_5 hT) rfl 3 (by decide) (htg _ q_222) (fun _ h9 => h9) rfl (by decide +kernel) rfl rfl (Nat.le_of_ble_eq_true rfl) (hT.up 5 ⟨rfl, (fX_5_1 hT), (fX_5_2 hT), (fX_5_4 hT), (fX_5_5 hT)⟩) (fr_st hF (by decide) (by decide)) dX4_advance_229 (fun C_572 H locs e_573 hT hF hP hD hS => ?_)
                            have t_574 := hT
                            refine lv_aload_n hx hb dX4_advance_232 rfl (lv_at hl 0 rfl) ?_
                            refine lv_aload_n hx hb dX4_advance_233 rfl (lv_at hl 0 rfl) ?_
                            refine va_get (D := D) (ci := 4) (v := .int (gi (K123 5) 4)) (C := RX4) (T := TX4) (N := 6) hx hb htg ig_4 hown hK hP 5 (oh_wg (by decide) (sX_5 hT)) rfl 4 (by decide) (htg _ q_223) (fun _ h9 => h9) (oh_fv (c := C_572 5) (j := 4) rfl (show gi (C_572 5) 4 = gi (K123 5) 4 by rw [e_573]; rfl)) dX4_advance_234 ?_
                            refine lv_iconst (v := 1) hx hb dX4_advance_237 (by decide) ?_
                            refine lv_iadd hx hb dX4_advance_238 ?_
                            refine th_put (Tp := TyX a E) (Rl := fr [(5, 6)] [] C) (ci := 4) (v := .int ((gi (K123 5) 4) + 1)) (ty := .int) (CC := RX4) (T := TX4) (N := 6) hx hb htg ig_4 tyX4 tyX4_ok nmX4 hown hK hP hD hS 5 (by decide) (sX_5 hT) rfl 5 (by decide) (htg _ q_224) (fun _ h9 => h9) rfl (by decide +kernel) rfl rfl (Nat.le_of_ble_eq_true rfl) (hT.up 5 ⟨rfl, (fX_5_1 hT), (fX_5_2 hT), (fX_5_4 hT), (rg_w (rg_add (lo := 2) (hi := 250) (rn_ltu (u' := 249) c_569 (rn_lel c_568 (rn_lel c_567 (rn_ltl (l' := 1) c_569 (fX_5_4 t_566) (fX_5_1 t_566) (by decide)) (fX_5_5 t_566)) (fX_5_4 t_566)) (fX_5_1 t_566) (by decide)) (rg_c (v := 1) (lo := 1) (hi := 1) (by decide)) (by decide)) (by decide))⟩) (fr_st hF (by decide) (by decide)) dX4_advance_239 (fun C_575 H locs e_576 hT hF hP hD hS => ?_)
                            have t_577 := hT
                            have hM_578 : ¬ (upto pB (ga (C 32)) (gi (C 5) 1) (gi (C 5) 5)) < (upto pD (ga (C 32)) (gi (C 5) 1) (upto pB (ga (C 32)) (gi (C 5) 1) (gi (C 5) 5))) := by rw [← (Eq.trans (upto_stop (p := pD) (fun h8 => absurd (oh_lte h8.1 hs_123.1.symm) (Int32.not_lt.mpr c_567))).symm hs_123.2.2.2), ← hs_123.2.1]; exact Int32.not_lt.mpr c_568
                            have tk_579 := (tk_wrg hs_123.2.2.1 hM_578 (fun h8 => absurd (oh_lee (by rw [← hs_123.2.1] at h8; exact h8) hs_123.1.symm) (Int32.not_le.mpr c_569)) (by rw [← hs_123.2.1]; exact c_571))
                            rw [hQ]
                            exact W.vret hx hb hr (fun t ht hW => ⟨⟨C_575, rfl, ⟨hT, hF, ⟨(Eq.trans (Eq.trans (show gi (C_575 5) 2 = gi (C_572 5) 2 by rw [e_576]; rfl) (show gi (C_572 5) 2 = gi (K123 5) 2 by rw [e_573]; rfl)) hv_123), (px_mk (Eq.trans (Eq.trans (show gi (C_575 5) 1 = gi (C_572 5) 1 by rw [e_576]; rfl) (show gi (C_572 5) 1 = gi (K123 5) 1 by rw [e_573]; rfl)) hs_123.1) (Eq.trans (Eq.trans (show gi (C_575 5) 2 = gi (C_572 5) 2 by rw [e_576]; rfl) (show gi (C_572 5) 2 = gi (K123 5) 2 by rw [e_573]; rfl)) hv_123) (Eq.trans (Eq.trans (show gi (C_575 5) 3 = gi (C_572 5) 3 by rw [e_576]; rfl) (show gi (C_572 5) 3 = (4 : Int32) by rw [e_573]; rfl)) tk_579.1) (Eq.trans (Eq.trans (show gi (C_575 5) 4 = gi (C_572 5) 4 by rw [e_576]; rfl) (show gi (C_572 5) 4 = gi (K123 5) 4 by rw [e_573]; rfl)) hs_123.2.1) (Eq.trans (Eq.trans (show gi (C_575 5) 5 = ((gi (K123 5) 4) + 1) by rw [e_576]; rfl) (congrArg (fun z => z + 1) hs_123.2.1)) tk_579.2))⟩⟩, ⟨by rw [ht]; exact hP, hD⟩⟩, hS.F ht⟩) hS.2.2 dX4_advance_242
                          · refine lv_iconst (v := 3) hx hb dX4_advance_224 (by decide) ?_
                            refine lv_goto (tgt := 229) hx hb dX4_advance_225 (by decide) ?_
                            refine th_put (Tp := TyX a E) (Rl := fr [(5, 6)] [] C) (ci := 4) (v := .int 3) (ty := .int) (CC := RX4) (T := TX4) (N := 6) hx hb htg ig_4 tyX4 tyX4_ok nmX4 hown hK hP hD hS 5 (by decide) (sX_5 hT) rfl 3 (by decide) (htg _ q_222) (fun _ h9 => h9) rfl (by decide +kernel) rfl rfl (Nat.le_of_ble_eq_true rfl) (hT.up 5 ⟨rfl, (fX_5_1 hT), (fX_5_2 hT), (fX_5_4 hT), (fX_5_5 hT)⟩) (fr_st hF (by decide) (by decide)) dX4_advance_229 (fun C_580 H locs e_581 hT hF hP hD hS => ?_)
                            have t_582 := hT
                            refine lv_aload_n hx hb dX4_advance_232 rfl (lv_at hl 0 rfl) ?_
                            refine lv_aload_n hx hb dX4_advance_233 rfl (lv_at hl 0 rfl) ?_
                            refine va_get (D := D) (ci := 4) (v := .int (gi (K123 5) 4)) (C := RX4) (T := TX4) (N := 6) hx hb htg ig_4 hown hK hP 5 (oh_wg (by decide) (sX_5 hT)) rfl 4 (by decide) (htg _ q_223) (fun _ h9 => h9) (oh_fv (c := C_580 5) (j := 4) rfl (show gi (C_580 5) 4 = gi (K123 5) 4 by rw [e_581]; rfl)) dX4_advance_234 ?_
                            refine lv_iconst (v := 1) hx hb dX4_advance_237 (by decide) ?_
                            refine lv_iadd hx hb dX4_advance_238 ?_
                            refine th_put (Tp := TyX a E) (Rl := fr [(5, 6)] [] C) (ci := 4) (v := .int ((gi (K123 5) 4) + 1)) (ty := .int) (CC := RX4) (T := TX4) (N := 6) hx hb htg ig_4 tyX4 tyX4_ok nmX4 hown hK hP hD hS 5 (by decide) (sX_5 hT) rfl 5 (by decide) (htg _ q_224) (fun _ h9 => h9) rfl (by decide +kernel) rfl rfl (Nat.le_of_ble_eq_true rfl) (hT.up 5 ⟨rfl, (fX_5_1 hT), (fX_5_2 hT), (fX_5_4 hT), (rg_w (rg_add (lo := 2) (hi := 250) (rn_ltu (u' := 249) c_569 (rn_lel c_568 (rn_lel c_567 (rn_ltl (l' := 1) c_569 (fX_5_4 t_566) (fX_5_1 t_566) (by decide)) (fX_5_5 t_566)) (fX_5_4 t_566)) (fX_5_1 t_566) (by decide)) (rg_c (v := 1) (lo := 1) (hi := 1) (by decide)) (by decide)) (by decide))⟩) (fr_st hF (by decide) (by decide)) dX4_advance_239 (fun C_583 H locs e_584 hT hF hP hD hS => ?_)
                            have t_585 := hT
                            have hM_586 : ¬ (upto pB (ga (C 32)) (gi (C 5) 1) (gi (C 5) 5)) < (upto pD (ga (C 32)) (gi (C 5) 1) (upto pB (ga (C 32)) (gi (C 5) 1) (gi (C 5) 5))) := by rw [← (Eq.trans (upto_stop (p := pD) (fun h8 => absurd (oh_lte h8.1 hs_123.1.symm) (Int32.not_lt.mpr c_567))).symm hs_123.2.2.2), ← hs_123.2.1]; exact Int32.not_lt.mpr c_568
                            have tk_587 := (tk_sgn hs_123.2.2.1 hM_586 (fun h8 => absurd (oh_lee (by rw [← hs_123.2.1] at h8; exact h8) hs_123.1.symm) (Int32.not_le.mpr c_569)) (by rw [← hs_123.2.1]; exact c_571))
                            rw [hQ]
                            exact W.vret hx hb hr (fun t ht hW => ⟨⟨C_583, rfl, ⟨hT, hF, ⟨(Eq.trans (Eq.trans (show gi (C_583 5) 2 = gi (C_580 5) 2 by rw [e_584]; rfl) (show gi (C_580 5) 2 = gi (K123 5) 2 by rw [e_581]; rfl)) hv_123), (px_mk (Eq.trans (Eq.trans (show gi (C_583 5) 1 = gi (C_580 5) 1 by rw [e_584]; rfl) (show gi (C_580 5) 1 = gi (K123 5) 1 by rw [e_581]; rfl)) hs_123.1) (Eq.trans (Eq.trans (show gi (C_583 5) 2 = gi (C_580 5) 2 by rw [e_584]; rfl) (show gi (C_580 5) 2 = gi (K123 5) 2 by rw [e_581]; rfl)) hv_123) (Eq.trans (Eq.trans (show gi (C_583 5) 3 = gi (C_580 5) 3 by rw [e_584]; rfl) (show gi (C_580 5) 3 = (3 : Int32) by rw [e_581]; rfl)) tk_587.1) (Eq.trans (Eq.trans (show gi (C_583 5) 4 = gi (C_580 5) 4 by rw [e_584]; rfl) (show gi (C_580 5) 4 = gi (K123 5) 4 by rw [e_581]; rfl)) hs_123.2.1) (Eq.trans (Eq.trans (show gi (C_583 5) 5 = ((gi (K123 5) 4) + 1) by rw [e_584]; rfl) (congrArg (fun z => z + 1) hs_123.2.1)) tk_587.2))⟩⟩, ⟨by rw [ht]; exact hP, hD⟩⟩, hS.F ht⟩) hS.2.2 dX4_advance_242
                        · refine lv_aload_n hx hb dX4_advance_203 rfl (lv_at hl 0 rfl) ?_
                          refine lv_iconst (v := 0) hx hb dX4_advance_204 (by decide) ?_
                          refine th_put (Tp := TyX a E) (Rl := fr [(5, 6)] [] C) (ci := 4) (v := .int 0) (ty := .int) (CC := RX4) (T := TX4) (N := 6) hx hb htg ig_4 tyX4 tyX4_ok nmX4 hown hK hP hD hS 5 (by decide) (sX_5 hT) rfl 3 (by decide) (htg _ q_222) (fun _ h9 => h9) rfl (by decide +kernel) rfl rfl (Nat.le_of_ble_eq_true rfl) (hT.up 5 ⟨rfl, (fX_5_1 hT), (fX_5_2 hT), (fX_5_4 hT), (fX_5_5 hT)⟩) (fr_st hF (by decide) (by decide)) dX4_advance_205 (fun C_588 H locs e_589 hT hF hP hD hS => ?_)
                          have t_590 := hT
                          have hM_591 : ¬ (upto pB (ga (C 32)) (gi (C 5) 1) (gi (C 5) 5)) < (upto pD (ga (C 32)) (gi (C 5) 1) (upto pB (ga (C 32)) (gi (C 5) 1) (gi (C 5) 5))) := by rw [← (Eq.trans (upto_stop (p := pD) (fun h8 => absurd (oh_lte h8.1 hs_123.1.symm) (Int32.not_lt.mpr c_567))).symm hs_123.2.2.2), ← hs_123.2.1]; exact Int32.not_lt.mpr c_568
                          have hZ_592 : gi (K123 5) 5 = (upto pB (ga (C 32)) (gi (C 5) 1) (gi (C 5) 5)) := Eq.trans (Eq.trans (upto_stop (p := pD) (fun h8 => absurd (oh_lte h8.1 hs_123.1.symm) (Int32.not_lt.mpr c_567))).symm hs_123.2.2.2) (upto_nn (fX_5_1 hT0) (by rw [← hs_123.2.1]; exact (rg_w (lo := 0) (hi := 250) (fX_5_4 t_566) (by decide))) hM_591)
                          have tk_593 := (tk_end hs_123.2.2.1 hM_591 (by rw [← hs_123.2.1, ← hs_123.1]; exact (Int32.not_lt.mp c_569)))
                          rw [hQ]
                          exact W.vret hx hb hr (fun t ht hW => ⟨⟨C_588, rfl, ⟨hT, hF, ⟨(Eq.trans (show gi (C_588 5) 2 = gi (K123 5) 2 by rw [e_589]; rfl) hv_123), (px_mk (Eq.trans (show gi (C_588 5) 1 = gi (K123 5) 1 by rw [e_589]; rfl) hs_123.1) (Eq.trans (show gi (C_588 5) 2 = gi (K123 5) 2 by rw [e_589]; rfl) hv_123) (Eq.trans (show gi (C_588 5) 3 = (0 : Int32) by rw [e_589]; rfl) tk_593.1) (Eq.trans (show gi (C_588 5) 4 = gi (K123 5) 4 by rw [e_589]; rfl) hs_123.2.1) (Eq.trans (Eq.trans (show gi (C_588 5) 5 = gi (K123 5) 5 by rw [e_589]; rfl) hZ_592) tk_593.2))⟩⟩, ⟨by rw [ht]; exact hP, hD⟩⟩, hS.F ht⟩) hS.2.2 dX4_advance_208
                      · refine lv_aload_n hx hb dX4_advance_186 rfl (lv_at hl 0 rfl) ?_
                        refine lv_iconst (v := 2) hx hb dX4_advance_187 (by decide) ?_
                        refine th_put (Tp := TyX a E) (Rl := fr [(5, 6)] [] C) (ci := 4) (v := .int 2) (ty := .int) (CC := RX4) (T := TX4) (N := 6) hx hb htg ig_4 tyX4 tyX4_ok nmX4 hown hK hP hD hS 5 (by decide) (sX_5 hT) rfl 3 (by decide) (htg _ q_222) (fun _ h9 => h9) rfl (by decide +kernel) rfl rfl (Nat.le_of_ble_eq_true rfl) (hT.up 5 ⟨rfl, (fX_5_1 hT), (fX_5_2 hT), (fX_5_4 hT), (fX_5_5 hT)⟩) (fr_st hF (by decide) (by decide)) dX4_advance_188 (fun C_594 H locs e_595 hT hF hP hD hS => ?_)
                        have t_596 := hT
                        have tk_597 := (tk_num hs_123.2.2.1 (Eq.trans (upto_stop (p := pD) (fun h8 => absurd (oh_lte h8.1 hs_123.1.symm) (Int32.not_lt.mpr c_567))).symm hs_123.2.2.2) (by rw [← hs_123.2.1]; exact (Int32.not_le.mp c_568)))
                        rw [hQ]
                        exact W.vret hx hb hr (fun t ht hW => ⟨⟨C_594, rfl, ⟨hT, hF, ⟨(Eq.trans (show gi (C_594 5) 2 = gi (K123 5) 2 by rw [e_595]; rfl) hv_123), (px_mk (Eq.trans (show gi (C_594 5) 1 = gi (K123 5) 1 by rw [e_595]; rfl) hs_123.1) (Eq.trans (show gi (C_594 5) 2 = gi (K123 5) 2 by rw [e_595]; rfl) hv_123) (Eq.trans (show gi (C_594 5) 3 = (2 : Int32) by rw [e_595]; rfl) tk_597.1) (Eq.trans (show gi (C_594 5) 4 = gi (K123 5) 4 by rw [e_595]; rfl) hs_123.2.1) (Eq.trans (show gi (C_594 5) 5 = gi (K123 5) 5 by rw [e_595]; rfl) tk_597.2))⟩⟩, ⟨by rw [ht]; exact hP, hD⟩⟩, hS.F ht⟩) hS.2.2 dX4_advance_191
                    · refine lv_aload_n hx hb dX4_advance_134 rfl (lv_at hl 0 rfl) ?_
                      refine va_get (D := D) (ci := 4) (v := .ref (a 32)) (C := RX4) (T := TX4) (N := 6) hx hb htg ig_4 hown hK hP 5 (oh_wg (by decide) (sX_5 hT)) rfl 0 (by decide) (htg _ q_217) (fun _ h9 => h9) rfl dX4_advance_135 ?_
                      refine lv_aload_n hx hb dX4_advance_138 rfl (lv_at hl 0 rfl) ?_
                      refine va_get (D := D) (ci := 4) (v := .int (gi (K123 5) 5)) (C := RX4) (T := TX4) (N := 6) hx hb htg ig_4 hown hK hP 5 (oh_wg (by decide) (sX_5 hT)) rfl 5 (by decide) (htg _ q_224) (fun _ h9 => h9) rfl dX4_advance_139 ?_
                      have n_598 : vp_in (gi (K123 5) 5) 250 := (rg_in (rn_ltu (u' := 249) (Int32.not_le.mp c_567) (fX_5_5 t_566) (fX_5_1 t_566) (by decide)) (by decide))
                      refine th_iald hx hb hK hP 32 (by decide) (Eq.trans (Eq.trans (hLF_123.1 32 rfl (by decide)) (Eq.trans (hLF_54.1 32 rfl (by decide)) (Eq.trans (th_un e_343 (by decide)) (Eq.trans (hLF_8.1 32 rfl (by decide)) (th_un e_2 (by decide)))))) (sX_32 hT0)) n_598 dX4_advance_142 ?_
                      refine lv_bipush (v := 48) hx hb dX4_advance_143 (by decide) ?_
                      refine lv_icmp_lt (tgt := 175) hx hb dX4_advance_145 (by decide) (fun (c_599 : (ga (C 32) (gi (K123 5) 5).toNatClampNeg) < 48) => ?_) (fun (c_599 : ¬ ((ga (C 32) (gi (K123 5) 5).toNatClampNeg) < 48)) => ?_)
                      · refine lv_aload_n hx hb dX4_advance_175 rfl (lv_at hl 0 rfl) ?_
                        refine va_get (D := D) (ci := 4) (v := .int (gi (K123 5) 5)) (C := RX4) (T := TX4) (N := 6) hx hb htg ig_4 hown hK hP 5 (oh_wg (by decide) (sX_5 hT)) rfl 5 (by decide) (htg _ q_224) (fun _ h9 => h9) rfl dX4_advance_176 ?_
                        refine lv_aload_n hx hb dX4_advance_179 rfl (lv_at hl 0 rfl) ?_
                        refine va_get (D := D) (ci := 4) (v := .int (gi (K123 5) 4)) (C := RX4) (T := TX4) (N := 6) hx hb htg ig_4 hown hK hP 5 (oh_wg (by decide) (sX_5 hT)) rfl 4 (by decide) (htg _ q_223) (fun _ h9 => h9) rfl dX4_advance_180 ?_
                        refine lv_icmp_le (tgt := 192) hx hb dX4_advance_183 (by decide) (fun (c_600 : (gi (K123 5) 5) ≤ (gi (K123 5) 4)) => ?_) (fun (c_600 : ¬ ((gi (K123 5) 5) ≤ (gi (K123 5) 4))) => ?_)
                        · refine lv_aload_n hx hb dX4_advance_192 rfl (lv_at hl 0 rfl) ?_
                          refine va_get (D := D) (ci := 4) (v := .int (gi (K123 5) 4)) (C := RX4) (T := TX4) (N := 6) hx hb htg ig_4 hown hK hP 5 (oh_wg (by decide) (sX_5 hT)) rfl 4 (by decide) (htg _ q_223) (fun _ h9 => h9) rfl dX4_advance_193 ?_
                          refine lv_aload_n hx hb dX4_advance_196 rfl (lv_at hl 0 rfl) ?_
                          refine va_get (D := D) (ci := 4) (v := .int (gi (K123 5) 1)) (C := RX4) (T := TX4) (N := 6) hx hb htg ig_4 hown hK hP 5 (oh_wg (by decide) (sX_5 hT)) rfl 1 (by decide) (htg _ q_218) (fun _ h9 => h9) rfl dX4_advance_197 ?_
                          refine lv_icmp_lt (tgt := 209) hx hb dX4_advance_200 (by decide) (fun (c_601 : (gi (K123 5) 4) < (gi (K123 5) 1)) => ?_) (fun (c_601 : ¬ ((gi (K123 5) 4) < (gi (K123 5) 1))) => ?_)
                          · refine lv_aload_n hx hb dX4_advance_209 rfl (lv_at hl 0 rfl) ?_
                            refine lv_aload_n hx hb dX4_advance_210 rfl (lv_at hl 0 rfl) ?_
                            refine va_get (D := D) (ci := 4) (v := .ref (a 32)) (C := RX4) (T := TX4) (N := 6) hx hb htg ig_4 hown hK hP 5 (oh_wg (by decide) (sX_5 hT)) rfl 0 (by decide) (htg _ q_217) (fun _ h9 => h9) rfl dX4_advance_211 ?_
                            refine lv_aload_n hx hb dX4_advance_214 rfl (lv_at hl 0 rfl) ?_
                            refine va_get (D := D) (ci := 4) (v := .int (gi (K123 5) 4)) (C := RX4) (T := TX4) (N := 6) hx hb htg ig_4 hown hK hP 5 (oh_wg (by decide) (sX_5 hT)) rfl 4 (by decide) (htg _ q_223) (fun _ h9 => h9) rfl dX4_advance_215 ?_
                            have n_602 : vp_in (gi (K123 5) 4) 250 := (rg_in (rn_ltu (u' := 249) c_601 (fX_5_4 t_566) (rn_ltl (l' := 1) (Int32.not_le.mp c_567) (fX_5_5 t_566) (fX_5_1 t_566) (by decide)) (by decide)) (by decide))
                            refine th_iald hx hb hK hP 32 (by decide) (Eq.trans (Eq.trans (hLF_123.1 32 rfl (by decide)) (Eq.trans (hLF_54.1 32 rfl (by decide)) (Eq.trans (th_un e_343 (by decide)) (Eq.trans (hLF_8.1 32 rfl (by decide)) (th_un e_2 (by decide)))))) (sX_32 hT0)) n_602 dX4_advance_218 ?_
                            refine lv_bipush (v := 59) hx hb dX4_advance_219 (by decide) ?_
                            refine lv_icmp_ne (tgt := 228) hx hb dX4_advance_221 (by decide) (fun (c_603 : ¬ ((ga (C 32) (gi (K123 5) 4).toNatClampNeg) = 59)) => ?_) (fun (c_603 : (ga (C 32) (gi (K123 5) 4).toNatClampNeg) = 59) => ?_)
                            · refine lv_iconst (v := 4) hx hb dX4_advance_228 (by decide) ?_
                              refine th_put (Tp := TyX a E) (Rl := fr [(5, 6)] [] C) (ci := 4) (v := .int 4) (ty := .int) (CC := RX4) (T := TX4) (N := 6) hx hb htg ig_4 tyX4 tyX4_ok nmX4 hown hK hP hD hS 5 (by decide) (sX_5 hT) rfl 3 (by decide) (htg _ q_222) (fun _ h9 => h9) rfl (by decide +kernel) rfl rfl (Nat.le_of_ble_eq_true rfl) (hT.up 5 ⟨rfl, (fX_5_1 hT), (fX_5_2 hT), (fX_5_4 hT), (fX_5_5 hT)⟩) (fr_st hF (by decide) (by decide)) dX4_advance_229 (fun C_604 H locs e_605 hT hF hP hD hS => ?_)
                              have t_606 := hT
                              refine lv_aload_n hx hb dX4_advance_232 rfl (lv_at hl 0 rfl) ?_
                              refine lv_aload_n hx hb dX4_advance_233 rfl (lv_at hl 0 rfl) ?_
                              refine va_get (D := D) (ci := 4) (v := .int (gi (K123 5) 4)) (C := RX4) (T := TX4) (N := 6) hx hb htg ig_4 hown hK hP 5 (oh_wg (by decide) (sX_5 hT)) rfl 4 (by decide) (htg _ q_223) (fun _ h9 => h9) (oh_fv (c := C_604 5) (j := 4) rfl (show gi (C_604 5) 4 = gi (K123 5) 4 by rw [e_605]; rfl)) dX4_advance_234 ?_
                              refine lv_iconst (v := 1) hx hb dX4_advance_237 (by decide) ?_
                              refine lv_iadd hx hb dX4_advance_238 ?_
                              refine th_put (Tp := TyX a E) (Rl := fr [(5, 6)] [] C) (ci := 4) (v := .int ((gi (K123 5) 4) + 1)) (ty := .int) (CC := RX4) (T := TX4) (N := 6) hx hb htg ig_4 tyX4 tyX4_ok nmX4 hown hK hP hD hS 5 (by decide) (sX_5 hT) rfl 5 (by decide) (htg _ q_224) (fun _ h9 => h9) rfl (by decide +kernel) rfl rfl (Nat.le_of_ble_eq_true rfl) (hT.up 5 ⟨rfl, (fX_5_1 hT), (fX_5_2 hT), (fX_5_4 hT), (rg_w (rg_add (lo := 1) (hi := 250) (rn_ltu (u' := 249) c_601 (fX_5_4 t_566) (rn_ltl (l' := 1) (Int32.not_le.mp c_567) (fX_5_5 t_566) (fX_5_1 t_566) (by decide)) (by decide)) (rg_c (v := 1) (lo := 1) (hi := 1) (by decide)) (by decide)) (by decide))⟩) (fr_st hF (by decide) (by decide)) dX4_advance_239 (fun C_607 H locs e_608 hT hF hP hD hS => ?_)
                              have t_609 := hT
                              have hM_610 : ¬ (upto pB (ga (C 32)) (gi (C 5) 1) (gi (C 5) 5)) < (upto pD (ga (C 32)) (gi (C 5) 1) (upto pB (ga (C 32)) (gi (C 5) 1) (gi (C 5) 5))) := by rw [← (Eq.trans (upto_stop (p := pD) (fun h8 => pD_lo c_599 h8.2)).symm hs_123.2.2.2), ← hs_123.2.1]; exact Int32.not_lt.mpr c_600
                              have tk_611 := (tk_wrg hs_123.2.2.1 hM_610 (fun h8 => absurd (oh_lee (by rw [← hs_123.2.1] at h8; exact h8) hs_123.1.symm) (Int32.not_le.mpr c_601)) (by rw [← hs_123.2.1]; exact c_603))
                              rw [hQ]
                              exact W.vret hx hb hr (fun t ht hW => ⟨⟨C_607, rfl, ⟨hT, hF, ⟨(Eq.trans (Eq.trans (show gi (C_607 5) 2 = gi (C_604 5) 2 by rw [e_608]; rfl) (show gi (C_604 5) 2 = gi (K123 5) 2 by rw [e_605]; rfl)) hv_123), (px_mk (Eq.trans (Eq.trans (show gi (C_607 5) 1 = gi (C_604 5) 1 by rw [e_608]; rfl) (show gi (C_604 5) 1 = gi (K123 5) 1 by rw [e_605]; rfl)) hs_123.1) (Eq.trans (Eq.trans (show gi (C_607 5) 2 = gi (C_604 5) 2 by rw [e_608]; rfl) (show gi (C_604 5) 2 = gi (K123 5) 2 by rw [e_605]; rfl)) hv_123) (Eq.trans (Eq.trans (show gi (C_607 5) 3 = gi (C_604 5) 3 by rw [e_608]; rfl) (show gi (C_604 5) 3 = (4 : Int32) by rw [e_605]; rfl)) tk_611.1) (Eq.trans (Eq.trans (show gi (C_607 5) 4 = gi (C_604 5) 4 by rw [e_608]; rfl) (show gi (C_604 5) 4 = gi (K123 5) 4 by rw [e_605]; rfl)) hs_123.2.1) (Eq.trans (Eq.trans (show gi (C_607 5) 5 = ((gi (K123 5) 4) + 1) by rw [e_608]; rfl) (congrArg (fun z => z + 1) hs_123.2.1)) tk_611.2))⟩⟩, ⟨by rw [ht]; exact hP, hD⟩⟩, hS.F ht⟩) hS.2.2 dX4_advance_242
                            · refine lv_iconst (v := 3) hx hb dX4_advance_224 (by decide) ?_
                              refine lv_goto (tgt := 229) hx hb dX4_advance_225 (by decide) ?_
                              refine th_put (Tp := TyX a E) (Rl := fr [(5, 6)] [] C) (ci := 4) (v := .int 3) (ty := .int) (CC := RX4) (T := TX4) (N := 6) hx hb htg ig_4 tyX4 tyX4_ok nmX4 hown hK hP hD hS 5 (by decide) (sX_5 hT) rfl 3 (by decide) (htg _ q_222) (fun _ h9 => h9) rfl (by decide +kernel) rfl rfl (Nat.le_of_ble_eq_true rfl) (hT.up 5 ⟨rfl, (fX_5_1 hT), (fX_5_2 hT), (fX_5_4 hT), (fX_5_5 hT)⟩) (fr_st hF (by decide) (by decide)) dX4_advance_229 (fun C_612 H locs e_613 hT hF hP hD hS => ?_)
                              have t_614 := hT
                              refine lv_aload_n hx hb dX4_advance_232 rfl (lv_at hl 0 rfl) ?_
                              refine lv_aload_n hx hb dX4_advance_233 rfl (lv_at hl 0 rfl) ?_
                              refine va_get (D := D) (ci := 4) (v := .int (gi (K123 5) 4)) (C := RX4) (T := TX4) (N := 6) hx hb htg ig_4 hown hK hP 5 (oh_wg (by decide) (sX_5 hT)) rfl 4 (by decide) (htg _ q_223) (fun _ h9 => h9) (oh_fv (c := C_612 5) (j := 4) rfl (show gi (C_612 5) 4 = gi (K123 5) 4 by rw [e_613]; rfl)) dX4_advance_234 ?_
                              refine lv_iconst (v := 1) hx hb dX4_advance_237 (by decide) ?_
                              refine lv_iadd hx hb dX4_advance_238 ?_
                              refine th_put (Tp := TyX a E) (Rl := fr [(5, 6)] [] C) (ci := 4) (v := .int ((gi (K123 5) 4) + 1)) (ty := .int) (CC := RX4) (T := TX4) (N := 6) hx hb htg ig_4 tyX4 tyX4_ok nmX4 hown hK hP hD hS 5 (by decide) (sX_5 hT) rfl 5 (by decide) (htg _ q_224) (fun _ h9 => h9) rfl (by decide +kernel) rfl rfl (Nat.le_of_ble_eq_true rfl) (hT.up 5 ⟨rfl, (fX_5_1 hT), (fX_5_2 hT), (fX_5_4 hT), (rg_w (rg_add (lo := 1) (hi := 250) (rn_ltu (u' := 249) c_601 (fX_5_4 t_566) (rn_ltl (l' := 1) (Int32.not_le.mp c_567) (fX_5_5 t_566) (fX_5_1 t_566) (by decide)) (by decide)) (rg_c (v := 1) (lo := 1) (hi := 1) (by decide)) (by decide)) (by decide))⟩) (fr_st hF (by decide) (by decide)) dX4_advance_239 (fun C_615 H locs e_616 hT hF hP hD hS => ?_)
                              have t_617 := hT
                              have hM_618 : ¬ (upto pB (ga (C 32)) (gi (C 5) 1) (gi (C 5) 5)) < (upto pD (ga (C 32)) (gi (C 5) 1) (upto pB (ga (C 32)) (gi (C 5) 1) (gi (C 5) 5))) := by rw [← (Eq.trans (upto_stop (p := pD) (fun h8 => pD_lo c_599 h8.2)).symm hs_123.2.2.2), ← hs_123.2.1]; exact Int32.not_lt.mpr c_600
                              have tk_619 := (tk_sgn hs_123.2.2.1 hM_618 (fun h8 => absurd (oh_lee (by rw [← hs_123.2.1] at h8; exact h8) hs_123.1.symm) (Int32.not_le.mpr c_601)) (by rw [← hs_123.2.1]; exact c_603))
                              rw [hQ]
                              exact W.vret hx hb hr (fun t ht hW => ⟨⟨C_615, rfl, ⟨hT, hF, ⟨(Eq.trans (Eq.trans (show gi (C_615 5) 2 = gi (C_612 5) 2 by rw [e_616]; rfl) (show gi (C_612 5) 2 = gi (K123 5) 2 by rw [e_613]; rfl)) hv_123), (px_mk (Eq.trans (Eq.trans (show gi (C_615 5) 1 = gi (C_612 5) 1 by rw [e_616]; rfl) (show gi (C_612 5) 1 = gi (K123 5) 1 by rw [e_613]; rfl)) hs_123.1) (Eq.trans (Eq.trans (show gi (C_615 5) 2 = gi (C_612 5) 2 by rw [e_616]; rfl) (show gi (C_612 5) 2 = gi (K123 5) 2 by rw [e_613]; rfl)) hv_123) (Eq.trans (Eq.trans (show gi (C_615 5) 3 = gi (C_612 5) 3 by rw [e_616]; rfl) (show gi (C_612 5) 3 = (3 : Int32) by rw [e_613]; rfl)) tk_619.1) (Eq.trans (Eq.trans (show gi (C_615 5) 4 = gi (C_612 5) 4 by rw [e_616]; rfl) (show gi (C_612 5) 4 = gi (K123 5) 4 by rw [e_613]; rfl)) hs_123.2.1) (Eq.trans (Eq.trans (show gi (C_615 5) 5 = ((gi (K123 5) 4) + 1) by rw [e_616]; rfl) (congrArg (fun z => z + 1) hs_123.2.1)) tk_619.2))⟩⟩, ⟨by rw [ht]; exact hP, hD⟩⟩, hS.F ht⟩) hS.2.2 dX4_advance_242
                          · refine lv_aload_n hx hb dX4_advance_203 rfl (lv_at hl 0 rfl) ?_
                            refine lv_iconst (v := 0) hx hb dX4_advance_204 (by decide) ?_
                            refine th_put (Tp := TyX a E) (Rl := fr [(5, 6)] [] C) (ci := 4) (v := .int 0) (ty := .int) (CC := RX4) (T := TX4) (N := 6) hx hb htg ig_4 tyX4 tyX4_ok nmX4 hown hK hP hD hS 5 (by decide) (sX_5 hT) rfl 3 (by decide) (htg _ q_222) (fun _ h9 => h9) rfl (by decide +kernel) rfl rfl (Nat.le_of_ble_eq_true rfl) (hT.up 5 ⟨rfl, (fX_5_1 hT), (fX_5_2 hT), (fX_5_4 hT), (fX_5_5 hT)⟩) (fr_st hF (by decide) (by decide)) dX4_advance_205 (fun C_620 H locs e_621 hT hF hP hD hS => ?_)
                            have t_622 := hT
                            have hM_623 : ¬ (upto pB (ga (C 32)) (gi (C 5) 1) (gi (C 5) 5)) < (upto pD (ga (C 32)) (gi (C 5) 1) (upto pB (ga (C 32)) (gi (C 5) 1) (gi (C 5) 5))) := by rw [← (Eq.trans (upto_stop (p := pD) (fun h8 => pD_lo c_599 h8.2)).symm hs_123.2.2.2), ← hs_123.2.1]; exact Int32.not_lt.mpr c_600
                            have hZ_624 : gi (K123 5) 5 = (upto pB (ga (C 32)) (gi (C 5) 1) (gi (C 5) 5)) := Eq.trans (Eq.trans (upto_stop (p := pD) (fun h8 => pD_lo c_599 h8.2)).symm hs_123.2.2.2) (upto_nn (fX_5_1 hT0) (by rw [← hs_123.2.1]; exact (rg_w (lo := 0) (hi := 250) (rn_lel (Int32.not_lt.mp c_601) (rn_ltl (l' := 1) (Int32.not_le.mp c_567) (fX_5_5 t_566) (fX_5_1 t_566) (by decide)) (fX_5_4 t_566)) (by decide))) hM_623)
                            have tk_625 := (tk_end hs_123.2.2.1 hM_623 (by rw [← hs_123.2.1, ← hs_123.1]; exact (Int32.not_lt.mp c_601)))
                            rw [hQ]
                            exact W.vret hx hb hr (fun t ht hW => ⟨⟨C_620, rfl, ⟨hT, hF, ⟨(Eq.trans (show gi (C_620 5) 2 = gi (K123 5) 2 by rw [e_621]; rfl) hv_123), (px_mk (Eq.trans (show gi (C_620 5) 1 = gi (K123 5) 1 by rw [e_621]; rfl) hs_123.1) (Eq.trans (show gi (C_620 5) 2 = gi (K123 5) 2 by rw [e_621]; rfl) hv_123) (Eq.trans (show gi (C_620 5) 3 = (0 : Int32) by rw [e_621]; rfl) tk_625.1) (Eq.trans (show gi (C_620 5) 4 = gi (K123 5) 4 by rw [e_621]; rfl) hs_123.2.1) (Eq.trans (Eq.trans (show gi (C_620 5) 5 = gi (K123 5) 5 by rw [e_621]; rfl) hZ_624) tk_625.2))⟩⟩, ⟨by rw [ht]; exact hP, hD⟩⟩, hS.F ht⟩) hS.2.2 dX4_advance_208
                        · refine lv_aload_n hx hb dX4_advance_186 rfl (lv_at hl 0 rfl) ?_
                          refine lv_iconst (v := 2) hx hb dX4_advance_187 (by decide) ?_
                          refine th_put (Tp := TyX a E) (Rl := fr [(5, 6)] [] C) (ci := 4) (v := .int 2) (ty := .int) (CC := RX4) (T := TX4) (N := 6) hx hb htg ig_4 tyX4 tyX4_ok nmX4 hown hK hP hD hS 5 (by decide) (sX_5 hT) rfl 3 (by decide) (htg _ q_222) (fun _ h9 => h9) rfl (by decide +kernel) rfl rfl (Nat.le_of_ble_eq_true rfl) (hT.up 5 ⟨rfl, (fX_5_1 hT), (fX_5_2 hT), (fX_5_4 hT), (fX_5_5 hT)⟩) (fr_st hF (by decide) (by decide)) dX4_advance_188 (fun C_626 H locs e_627 hT hF hP hD hS => ?_)
                          have t_628 := hT
                          have tk_629 := (tk_num hs_123.2.2.1 (Eq.trans (upto_stop (p := pD) (fun h8 => pD_lo c_599 h8.2)).symm hs_123.2.2.2) (by rw [← hs_123.2.1]; exact (Int32.not_le.mp c_600)))
                          rw [hQ]
                          exact W.vret hx hb hr (fun t ht hW => ⟨⟨C_626, rfl, ⟨hT, hF, ⟨(Eq.trans (show gi (C_626 5) 2 = gi (K123 5) 2 by rw [e_627]; rfl) hv_123), (px_mk (Eq.trans (show gi (C_626 5) 1 = gi (K123 5) 1 by rw [e_627]; rfl) hs_123.1) (Eq.trans (show gi (C_626 5) 2 = gi (K123 5) 2 by rw [e_627]; rfl) hv_123) (Eq.trans (show gi (C_626 5) 3 = (2 : Int32) by rw [e_627]; rfl) tk_629.1) (Eq.trans (show gi (C_626 5) 4 = gi (K123 5) 4 by rw [e_627]; rfl) hs_123.2.1) (Eq.trans (show gi (C_626 5) 5 = gi (K123 5) 5 by rw [e_627]; rfl) tk_629.2))⟩⟩, ⟨by rw [ht]; exact hP, hD⟩⟩, hS.F ht⟩) hS.2.2 dX4_advance_191
                      · refine lv_aload_n hx hb dX4_advance_148 rfl (lv_at hl 0 rfl) ?_
                        refine va_get (D := D) (ci := 4) (v := .ref (a 32)) (C := RX4) (T := TX4) (N := 6) hx hb htg ig_4 hown hK hP 5 (oh_wg (by decide) (sX_5 hT)) rfl 0 (by decide) (htg _ q_217) (fun _ h9 => h9) rfl dX4_advance_149 ?_
                        refine lv_aload_n hx hb dX4_advance_152 rfl (lv_at hl 0 rfl) ?_
                        refine va_get (D := D) (ci := 4) (v := .int (gi (K123 5) 5)) (C := RX4) (T := TX4) (N := 6) hx hb htg ig_4 hown hK hP 5 (oh_wg (by decide) (sX_5 hT)) rfl 5 (by decide) (htg _ q_224) (fun _ h9 => h9) rfl dX4_advance_153 ?_
                        have n_630 : vp_in (gi (K123 5) 5) 250 := (rg_in (rn_ltu (u' := 249) (Int32.not_le.mp c_567) (fX_5_5 t_566) (fX_5_1 t_566) (by decide)) (by decide))
                        refine th_iald hx hb hK hP 32 (by decide) (Eq.trans (Eq.trans (hLF_123.1 32 rfl (by decide)) (Eq.trans (hLF_54.1 32 rfl (by decide)) (Eq.trans (th_un e_343 (by decide)) (Eq.trans (hLF_8.1 32 rfl (by decide)) (th_un e_2 (by decide)))))) (sX_32 hT0)) n_630 dX4_advance_156 ?_
                        refine lv_bipush (v := 57) hx hb dX4_advance_157 (by decide) ?_
                        refine lv_icmp_gt (tgt := 175) hx hb dX4_advance_159 (by decide) (fun (c_631 : (57 : Int32) < (ga (C 32) (gi (K123 5) 5).toNatClampNeg)) => ?_) (fun (c_631 : ¬ ((57 : Int32) < (ga (C 32) (gi (K123 5) 5).toNatClampNeg))) => ?_)
                        · refine lv_aload_n hx hb dX4_advance_175 rfl (lv_at hl 0 rfl) ?_
                          refine va_get (D := D) (ci := 4) (v := .int (gi (K123 5) 5)) (C := RX4) (T := TX4) (N := 6) hx hb htg ig_4 hown hK hP 5 (oh_wg (by decide) (sX_5 hT)) rfl 5 (by decide) (htg _ q_224) (fun _ h9 => h9) rfl dX4_advance_176 ?_
                          refine lv_aload_n hx hb dX4_advance_179 rfl (lv_at hl 0 rfl) ?_
                          refine va_get (D := D) (ci := 4) (v := .int (gi (K123 5) 4)) (C := RX4) (T := TX4) (N := 6) hx hb htg ig_4 hown hK hP 5 (oh_wg (by decide) (sX_5 hT)) rfl 4 (by decide) (htg _ q_223) (fun _ h9 => h9) rfl dX4_advance_180 ?_
                          refine lv_icmp_le (tgt := 192) hx hb dX4_advance_183 (by decide) (fun (c_632 : (gi (K123 5) 5) ≤ (gi (K123 5) 4)) => ?_) (fun (c_632 : ¬ ((gi (K123 5) 5) ≤ (gi (K123 5) 4))) => ?_)
                          · refine lv_aload_n hx hb dX4_advance_192 rfl (lv_at hl 0 rfl) ?_
                            refine va_get (D := D) (ci := 4) (v := .int (gi (K123 5) 4)) (C := RX4) (T := TX4) (N := 6) hx hb htg ig_4 hown hK hP 5 (oh_wg (by decide) (sX_5 hT)) rfl 4 (by decide) (htg _ q_223) (fun _ h9 => h9) rfl dX4_advance_193 ?_
                            refine lv_aload_n hx hb dX4_advance_196 rfl (lv_at hl 0 rfl) ?_
                            refine va_get (D := D) (ci := 4) (v := .int (gi (K123 5) 1)) (C := RX4) (T := TX4) (N := 6) hx hb htg ig_4 hown hK hP 5 (oh_wg (by decide) (sX_5 hT)) rfl 1 (by decide) (htg _ q_218) (fun _ h9 => h9) rfl dX4_advance_197 ?_
                            refine lv_icmp_lt (tgt := 209) hx hb dX4_advance_200 (by decide) (fun (c_633 : (gi (K123 5) 4) < (gi (K123 5) 1)) => ?_) (fun (c_633 : ¬ ((gi (K123 5) 4) < (gi (K123 5) 1))) => ?_)
                            · refine lv_aload_n hx hb dX4_advance_209 rfl (lv_at hl 0 rfl) ?_
                              refine lv_aload_n hx hb dX4_advance_210 rfl (lv_at hl 0 rfl) ?_
                              refine va_get (D := D) (ci := 4) (v := .ref (a 32)) (C := RX4) (T := TX4) (N := 6) hx hb htg ig_4 hown hK hP 5 (oh_wg (by decide) (sX_5 hT)) rfl 0 (by decide) (htg _ q_217) (fun _ h9 => h9) rfl dX4_advance_211 ?_
                              refine lv_aload_n hx hb dX4_advance_214 rfl (lv_at hl 0 rfl) ?_
                              refine va_get (D := D) (ci := 4) (v := .int (gi (K123 5) 4)) (C := RX4) (T := TX4) (N := 6) hx hb htg ig_4 hown hK hP 5 (oh_wg (by decide) (sX_5 hT)) rfl 4 (by decide) (htg _ q_223) (fun _ h9 => h9) rfl dX4_advance_215 ?_
                              have n_634 : vp_in (gi (K123 5) 4) 250 := (rg_in (rn_ltu (u' := 249) c_633 (fX_5_4 t_566) (rn_ltl (l' := 1) (Int32.not_le.mp c_567) (fX_5_5 t_566) (fX_5_1 t_566) (by decide)) (by decide)) (by decide))
                              refine th_iald hx hb hK hP 32 (by decide) (Eq.trans (Eq.trans (hLF_123.1 32 rfl (by decide)) (Eq.trans (hLF_54.1 32 rfl (by decide)) (Eq.trans (th_un e_343 (by decide)) (Eq.trans (hLF_8.1 32 rfl (by decide)) (th_un e_2 (by decide)))))) (sX_32 hT0)) n_634 dX4_advance_218 ?_
                              refine lv_bipush (v := 59) hx hb dX4_advance_219 (by decide) ?_
                              refine lv_icmp_ne (tgt := 228) hx hb dX4_advance_221 (by decide) (fun (c_635 : ¬ ((ga (C 32) (gi (K123 5) 4).toNatClampNeg) = 59)) => ?_) (fun (c_635 : (ga (C 32) (gi (K123 5) 4).toNatClampNeg) = 59) => ?_)
                              · refine lv_iconst (v := 4) hx hb dX4_advance_228 (by decide) ?_
                                refine th_put (Tp := TyX a E) (Rl := fr [(5, 6)] [] C) (ci := 4) (v := .int 4) (ty := .int) (CC := RX4) (T := TX4) (N := 6) hx hb htg ig_4 tyX4 tyX4_ok nmX4 hown hK hP hD hS 5 (by decide) (sX_5 hT) rfl 3 (by decide) (htg _ q_222) (fun _ h9 => h9) rfl (by decide +kernel) rfl rfl (Nat.le_of_ble_eq_true rfl) (hT.up 5 ⟨rfl, (fX_5_1 hT), (fX_5_2 hT), (fX_5_4 hT), (fX_5_5 hT)⟩) (fr_st hF (by decide) (by decide)) dX4_advance_229 (fun C_636 H locs e_637 hT hF hP hD hS => ?_)
                                have t_638 := hT
                                refine lv_aload_n hx hb dX4_advance_232 rfl (lv_at hl 0 rfl) ?_
                                refine lv_aload_n hx hb dX4_advance_233 rfl (lv_at hl 0 rfl) ?_
                                refine va_get (D := D) (ci := 4) (v := .int (gi (K123 5) 4)) (C := RX4) (T := TX4) (N := 6) hx hb htg ig_4 hown hK hP 5 (oh_wg (by decide) (sX_5 hT)) rfl 4 (by decide) (htg _ q_223) (fun _ h9 => h9) (oh_fv (c := C_636 5) (j := 4) rfl (show gi (C_636 5) 4 = gi (K123 5) 4 by rw [e_637]; rfl)) dX4_advance_234 ?_
                                refine lv_iconst (v := 1) hx hb dX4_advance_237 (by decide) ?_
                                refine lv_iadd hx hb dX4_advance_238 ?_
                                refine th_put (Tp := TyX a E) (Rl := fr [(5, 6)] [] C) (ci := 4) (v := .int ((gi (K123 5) 4) + 1)) (ty := .int) (CC := RX4) (T := TX4) (N := 6) hx hb htg ig_4 tyX4 tyX4_ok nmX4 hown hK hP hD hS 5 (by decide) (sX_5 hT) rfl 5 (by decide) (htg _ q_224) (fun _ h9 => h9) rfl (by decide +kernel) rfl rfl (Nat.le_of_ble_eq_true rfl) (hT.up 5 ⟨rfl, (fX_5_1 hT), (fX_5_2 hT), (fX_5_4 hT), (rg_w (rg_add (lo := 1) (hi := 250) (rn_ltu (u' := 249) c_633 (fX_5_4 t_566) (rn_ltl (l' := 1) (Int32.not_le.mp c_567) (fX_5_5 t_566) (fX_5_1 t_566) (by decide)) (by decide)) (rg_c (v := 1) (lo := 1) (hi := 1) (by decide)) (by decide)) (by decide))⟩) (fr_st hF (by decide) (by decide)) dX4_advance_239 (fun C_639 H locs e_640 hT hF hP hD hS => ?_)
                                have t_641 := hT
                                have hM_642 : ¬ (upto pB (ga (C 32)) (gi (C 5) 1) (gi (C 5) 5)) < (upto pD (ga (C 32)) (gi (C 5) 1) (upto pB (ga (C 32)) (gi (C 5) 1) (gi (C 5) 5))) := by rw [← (Eq.trans (upto_stop (p := pD) (fun h8 => pD_hi c_631 h8.2)).symm hs_123.2.2.2), ← hs_123.2.1]; exact Int32.not_lt.mpr c_632
                                have tk_643 := (tk_wrg hs_123.2.2.1 hM_642 (fun h8 => absurd (oh_lee (by rw [← hs_123.2.1] at h8; exact h8) hs_123.1.symm) (Int32.not_le.mpr c_633)) (by rw [← hs_123.2.1]; exact c_635))
                                rw [hQ]
                                exact W.vret hx hb hr (fun t ht hW => ⟨⟨C_639, rfl, ⟨hT, hF, ⟨(Eq.trans (Eq.trans (show gi (C_639 5) 2 = gi (C_636 5) 2 by rw [e_640]; rfl) (show gi (C_636 5) 2 = gi (K123 5) 2 by rw [e_637]; rfl)) hv_123), (px_mk (Eq.trans (Eq.trans (show gi (C_639 5) 1 = gi (C_636 5) 1 by rw [e_640]; rfl) (show gi (C_636 5) 1 = gi (K123 5) 1 by rw [e_637]; rfl)) hs_123.1) (Eq.trans (Eq.trans (show gi (C_639 5) 2 = gi (C_636 5) 2 by rw [e_640]; rfl) (show gi (C_636 5) 2 = gi (K123 5) 2 by rw [e_637]; rfl)) hv_123) (Eq.trans (Eq.trans (show gi (C_639 5) 3 = gi (C_636 5) 3 by rw [e_640]; rfl) (show gi (C_636 5) 3 = (4 : Int32) by rw [e_637]; rfl)) tk_643.1) (Eq.trans (Eq.trans (show gi (C_639 5) 4 = gi (C_636 5) 4 by rw [e_640]; rfl) (show gi (C_636 5) 4 = gi (K123 5) 4 by rw [e_637]; rfl)) hs_123.2.1) (Eq.trans (Eq.trans (show gi (C_639 5) 5 = ((gi (K123 5) 4) + 1) by rw [e_640]; rfl) (congrArg (fun z => z + 1) hs_123.2.1)) tk_643.2))⟩⟩, ⟨by rw [ht]; exact hP, hD⟩⟩, hS.F ht⟩) hS.2.2 dX4_advance_242
                              · refine lv_iconst (v := 3) hx hb dX4_advance_224 (by decide) ?_
                                refine lv_goto (tgt := 229) hx hb dX4_advance_225 (by decide) ?_
                                refine th_put (Tp := TyX a E) (Rl := fr [(5, 6)] [] C) (ci := 4) (v := .int 3) (ty := .int) (CC := RX4) (T := TX4) (N := 6) hx hb htg ig_4 tyX4 tyX4_ok nmX4 hown hK hP hD hS 5 (by decide) (sX_5 hT) rfl 3 (by decide) (htg _ q_222) (fun _ h9 => h9) rfl (by decide +kernel) rfl rfl (Nat.le_of_ble_eq_true rfl) (hT.up 5 ⟨rfl, (fX_5_1 hT), (fX_5_2 hT), (fX_5_4 hT), (fX_5_5 hT)⟩) (fr_st hF (by decide) (by decide)) dX4_advance_229 (fun C_644 H locs e_645 hT hF hP hD hS => ?_)
                                have t_646 := hT
                                refine lv_aload_n hx hb dX4_advance_232 rfl (lv_at hl 0 rfl) ?_
                                refine lv_aload_n hx hb dX4_advance_233 rfl (lv_at hl 0 rfl) ?_
                                refine va_get (D := D) (ci := 4) (v := .int (gi (K123 5) 4)) (C := RX4) (T := TX4) (N := 6) hx hb htg ig_4 hown hK hP 5 (oh_wg (by decide) (sX_5 hT)) rfl 4 (by decide) (htg _ q_223) (fun _ h9 => h9) (oh_fv (c := C_644 5) (j := 4) rfl (show gi (C_644 5) 4 = gi (K123 5) 4 by rw [e_645]; rfl)) dX4_advance_234 ?_
                                refine lv_iconst (v := 1) hx hb dX4_advance_237 (by decide) ?_
                                refine lv_iadd hx hb dX4_advance_238 ?_
                                refine th_put (Tp := TyX a E) (Rl := fr [(5, 6)] [] C) (ci := 4) (v := .int ((gi (K123 5) 4) + 1)) (ty := .int) (CC := RX4) (T := TX4) (N := 6) hx hb htg ig_4 tyX4 tyX4_ok nmX4 hown hK hP hD hS 5 (by decide) (sX_5 hT) rfl 5 (by decide) (htg _ q_224) (fun _ h9 => h9) rfl (by decide +kernel) rfl rfl (Nat.le_of_ble_eq_true rfl) (hT.up 5 ⟨rfl, (fX_5_1 hT), (fX_5_2 hT), (fX_5_4 hT), (rg_w (rg_add (lo := 1) (hi := 250) (rn_ltu (u' := 249) c_633 (fX_5_4 t_566) (rn_ltl (l' := 1) (Int32.not_le.mp c_567) (fX_5_5 t_566) (fX_5_1 t_566) (by decide)) (by decide)) (rg_c (v := 1) (lo := 1) (hi := 1) (by decide)) (by decide)) (by decide))⟩) (fr_st hF (by decide) (by decide)) dX4_advance_239 (fun C_647 H locs e_648 hT hF hP hD hS => ?_)
                                have t_649 := hT
                                have hM_650 : ¬ (upto pB (ga (C 32)) (gi (C 5) 1) (gi (C 5) 5)) < (upto pD (ga (C 32)) (gi (C 5) 1) (upto pB (ga (C 32)) (gi (C 5) 1) (gi (C 5) 5))) := by rw [← (Eq.trans (upto_stop (p := pD) (fun h8 => pD_hi c_631 h8.2)).symm hs_123.2.2.2), ← hs_123.2.1]; exact Int32.not_lt.mpr c_632
                                have tk_651 := (tk_sgn hs_123.2.2.1 hM_650 (fun h8 => absurd (oh_lee (by rw [← hs_123.2.1] at h8; exact h8) hs_123.1.symm) (Int32.not_le.mpr c_633)) (by rw [← hs_123.2.1]; exact c_635))
                                rw [hQ]
                                exact W.vret hx hb hr (fun t ht hW => ⟨⟨C_647, rfl, ⟨hT, hF, ⟨(Eq.trans (Eq.trans (show gi (C_647 5) 2 = gi (C_644 5) 2 by rw [e_648]; rfl) (show gi (C_644 5) 2 = gi (K123 5) 2 by rw [e_645]; rfl)) hv_123), (px_mk (Eq.trans (Eq.trans (show gi (C_647 5) 1 = gi (C_644 5) 1 by rw [e_648]; rfl) (show gi (C_644 5) 1 = gi (K123 5) 1 by rw [e_645]; rfl)) hs_123.1) (Eq.trans (Eq.trans (show gi (C_647 5) 2 = gi (C_644 5) 2 by rw [e_648]; rfl) (show gi (C_644 5) 2 = gi (K123 5) 2 by rw [e_645]; rfl)) hv_123) (Eq.trans (Eq.trans (show gi (C_647 5) 3 = gi (C_644 5) 3 by rw [e_648]; rfl) (show gi (C_644 5) 3 = (3 : Int32) by rw [e_645]; rfl)) tk_651.1) (Eq.trans (Eq.trans (show gi (C_647 5) 4 = gi (C_644 5) 4 by rw [e_648]; rfl) (show gi (C_644 5) 4 = gi (K123 5) 4 by rw [e_645]; rfl)) hs_123.2.1) (Eq.trans (Eq.trans (show gi (C_647 5) 5 = ((gi (K123 5) 4) + 1) by rw [e_648]; rfl) (congrArg (fun z => z + 1) hs_123.2.1)) tk_651.2))⟩⟩, ⟨by rw [ht]; exact hP, hD⟩⟩, hS.F ht⟩) hS.2.2 dX4_advance_242
                            · refine lv_aload_n hx hb dX4_advance_203 rfl (lv_at hl 0 rfl) ?_
                              refine lv_iconst (v := 0) hx hb dX4_advance_204 (by decide) ?_
                              refine th_put (Tp := TyX a E) (Rl := fr [(5, 6)] [] C) (ci := 4) (v := .int 0) (ty := .int) (CC := RX4) (T := TX4) (N := 6) hx hb htg ig_4 tyX4 tyX4_ok nmX4 hown hK hP hD hS 5 (by decide) (sX_5 hT) rfl 3 (by decide) (htg _ q_222) (fun _ h9 => h9) rfl (by decide +kernel) rfl rfl (Nat.le_of_ble_eq_true rfl) (hT.up 5 ⟨rfl, (fX_5_1 hT), (fX_5_2 hT), (fX_5_4 hT), (fX_5_5 hT)⟩) (fr_st hF (by decide) (by decide)) dX4_advance_205 (fun C_652 H locs e_653 hT hF hP hD hS => ?_)
                              have t_654 := hT
                              have hM_655 : ¬ (upto pB (ga (C 32)) (gi (C 5) 1) (gi (C 5) 5)) < (upto pD (ga (C 32)) (gi (C 5) 1) (upto pB (ga (C 32)) (gi (C 5) 1) (gi (C 5) 5))) := by rw [← (Eq.trans (upto_stop (p := pD) (fun h8 => pD_hi c_631 h8.2)).symm hs_123.2.2.2), ← hs_123.2.1]; exact Int32.not_lt.mpr c_632
                              have hZ_656 : gi (K123 5) 5 = (upto pB (ga (C 32)) (gi (C 5) 1) (gi (C 5) 5)) := Eq.trans (Eq.trans (upto_stop (p := pD) (fun h8 => pD_hi c_631 h8.2)).symm hs_123.2.2.2) (upto_nn (fX_5_1 hT0) (by rw [← hs_123.2.1]; exact (rg_w (lo := 0) (hi := 250) (rn_lel (Int32.not_lt.mp c_633) (rn_ltl (l' := 1) (Int32.not_le.mp c_567) (fX_5_5 t_566) (fX_5_1 t_566) (by decide)) (fX_5_4 t_566)) (by decide))) hM_655)
                              have tk_657 := (tk_end hs_123.2.2.1 hM_655 (by rw [← hs_123.2.1, ← hs_123.1]; exact (Int32.not_lt.mp c_633)))
                              rw [hQ]
                              exact W.vret hx hb hr (fun t ht hW => ⟨⟨C_652, rfl, ⟨hT, hF, ⟨(Eq.trans (show gi (C_652 5) 2 = gi (K123 5) 2 by rw [e_653]; rfl) hv_123), (px_mk (Eq.trans (show gi (C_652 5) 1 = gi (K123 5) 1 by rw [e_653]; rfl) hs_123.1) (Eq.trans (show gi (C_652 5) 2 = gi (K123 5) 2 by rw [e_653]; rfl) hv_123) (Eq.trans (show gi (C_652 5) 3 = (0 : Int32) by rw [e_653]; rfl) tk_657.1) (Eq.trans (show gi (C_652 5) 4 = gi (K123 5) 4 by rw [e_653]; rfl) hs_123.2.1) (Eq.trans (Eq.trans (show gi (C_652 5) 5 = gi (K123 5) 5 by rw [e_653]; rfl) hZ_656) tk_657.2))⟩⟩, ⟨by rw [ht]; exact hP, hD⟩⟩, hS.F ht⟩) hS.2.2 dX4_advance_208
                          · refine lv_aload_n hx hb dX4_advance_186 rfl (lv_at hl 0 rfl) ?_
                            refine lv_iconst (v := 2) hx hb dX4_advance_187 (by decide) ?_
                            refine th_put (Tp := TyX a E) (Rl := fr [(5, 6)] [] C) (ci := 4) (v := .int 2) (ty := .int) (CC := RX4) (T := TX4) (N := 6) hx hb htg ig_4 tyX4 tyX4_ok nmX4 hown hK hP hD hS 5 (by decide) (sX_5 hT) rfl 3 (by decide) (htg _ q_222) (fun _ h9 => h9) rfl (by decide +kernel) rfl rfl (Nat.le_of_ble_eq_true rfl) (hT.up 5 ⟨rfl, (fX_5_1 hT), (fX_5_2 hT), (fX_5_4 hT), (fX_5_5 hT)⟩) (fr_st hF (by decide) (by decide)) dX4_advance_188 (fun C_658 H locs e_659 hT hF hP hD hS => ?_)
                            have t_660 := hT
                            have tk_661 := (tk_num hs_123.2.2.1 (Eq.trans (upto_stop (p := pD) (fun h8 => pD_hi c_631 h8.2)).symm hs_123.2.2.2) (by rw [← hs_123.2.1]; exact (Int32.not_le.mp c_632)))
                            rw [hQ]
                            exact W.vret hx hb hr (fun t ht hW => ⟨⟨C_658, rfl, ⟨hT, hF, ⟨(Eq.trans (show gi (C_658 5) 2 = gi (K123 5) 2 by rw [e_659]; rfl) hv_123), (px_mk (Eq.trans (show gi (C_658 5) 1 = gi (K123 5) 1 by rw [e_659]; rfl) hs_123.1) (Eq.trans (show gi (C_658 5) 2 = gi (K123 5) 2 by rw [e_659]; rfl) hv_123) (Eq.trans (show gi (C_658 5) 3 = (2 : Int32) by rw [e_659]; rfl) tk_661.1) (Eq.trans (show gi (C_658 5) 4 = gi (K123 5) 4 by rw [e_659]; rfl) hs_123.2.1) (Eq.trans (show gi (C_658 5) 5 = gi (K123 5) 5 by rw [e_659]; rfl) tk_661.2))⟩⟩, ⟨by rw [ht]; exact hP, hD⟩⟩, hS.F ht⟩) hS.2.2 dX4_advance_191
                        · refine lv_aload_n hx hb dX4_advance_162 rfl (lv_at hl 0 rfl) ?_
                          refine lv_dup hx hb dX4_advance_163 rfl ?_
                          refine va_get (D := D) (ci := 4) (v := .int (gi (K123 5) 5)) (C := RX4) (T := TX4) (N := 6) hx hb htg ig_4 hown hK hP 5 (oh_wg (by decide) (sX_5 hT)) rfl 5 (by decide) (htg _ q_224) (fun _ h9 => h9) rfl dX4_advance_164 ?_
                          refine lv_iconst (v := 1) hx hb dX4_advance_167 (by decide) ?_
                          refine lv_iadd hx hb dX4_advance_168 ?_
                          refine th_put (Tp := TyX a E) (Rl := fr [(5, 6)] [] C) (ci := 4) (v := .int ((gi (K123 5) 5) + 1)) (ty := .int) (CC := RX4) (T := TX4) (N := 6) hx hb htg ig_4 tyX4 tyX4_ok nmX4 hown hK hP hD hS 5 (by decide) (sX_5 hT) rfl 5 (by decide) (htg _ q_224) (fun _ h9 => h9) rfl (by decide +kernel) rfl rfl (Nat.le_of_ble_eq_true rfl) (hT.up 5 ⟨rfl, (fX_5_1 hT), (fX_5_2 hT), (fX_5_4 hT), (rg_w (rg_add (lo := 1) (hi := 250) (rn_ltu (u' := 249) (Int32.not_le.mp c_567) (fX_5_5 t_566) (fX_5_1 t_566) (by decide)) (rg_c (v := 1) (lo := 1) (hi := 1) (by decide)) (by decide)) (by decide))⟩) (fr_st hF (by decide) (by decide)) dX4_advance_169 (fun C_662 H locs e_663 hT hF hP hD hS => ?_)
                          have t_664 := hT
                          refine lv_goto (tgt := 123) hx hb dX4_advance_172 (by decide) ?_
                          exact ih_123 _ (hd_123 ▸ (by rw [(show gi (C_662 5) 5 = ((gi (K123 5) 5) + 1) by rw [e_663]; rfl)]; exact mu_up 250 (rn_ltu (u' := 249) (Int32.not_le.mp c_567) (fX_5_5 t_566) (fX_5_1 t_566) (by decide)) (by decide))) C_662  _ _ ls rfl (Eq.trans (show gi (C_662 5) 2 = gi (K123 5) 2 by rw [e_663]; rfl) hv_123) ⟨Eq.trans (show gi (C_662 5) 1 = gi (K123 5) 1 by rw [e_663]; rfl) hs_123.1, Eq.trans (show gi (C_662 5) 4 = gi (K123 5) 4 by rw [e_663]; rfl) hs_123.2.1, hs_123.2.2.1, Eq.trans (congrArg (upto pD (ga (C 32)) (gi (C 5) 1)) (show gi (C_662 5) 5 = ((gi (K123 5) 5) + 1) by rw [e_663]; rfl)) (Eq.trans (upto_step (p := pD) (rg_w (lo := 0) (hi := 249) (rn_ltu (u' := 249) (Int32.not_le.mp c_567) (fX_5_5 t_566) (fX_5_1 t_566) (by decide)) (by decide)) (oh_lte (Int32.not_le.mp c_567) hs_123.1) ⟨(Int32.not_lt.mp c_599), (Int32.not_lt.mp c_631)⟩).symm hs_123.2.2.2)⟩ hT hF (fr_ste hLF_123 e_663 (by decide) (by decide)) hP hD hS (lv_sub hl [0] rfl)
                  have hE_665 : gi (K54 5) 5 = (upto pL (ga (C 32)) (gi (C 5) 1) (upto pB (ga (C 32)) (gi (C 5) 1) (gi (C 5) 5))) := (Eq.trans (upto_stop (p := pL) (fun h8 => pL_hi c_564 h8.2)).symm hs_54.2.2)
                  have hN_666 : ¬ (upto pB (ga (C 32)) (gi (C 5) 1) (gi (C 5) 5)) < (upto pL (ga (C 32)) (gi (C 5) 1) (upto pB (ga (C 32)) (gi (C 5) 1) (gi (C 5) 5))) := by rw [← hE_665, ← hs_54.2.1]; exact Int32.not_lt.mpr c_565
                  have hZ_667 : gi (K54 5) 5 = (upto pB (ga (C 32)) (gi (C 5) 1) (gi (C 5) 5)) := Eq.trans hE_665 (upto_nn (fX_5_1 hT0) (by rw [← hs_54.2.1]; exact (rg_w (lo := 0) (hi := 250) (fX_5_4 t_345) (by decide))) hN_666)
                  exact L_123 _ K54  _ _ ls rfl (Eq.trans rfl hv_54) ⟨hs_54.1, hs_54.2.1, hN_666, (congrArg (upto pD (ga (C 32)) (gi (C 5) 1)) hZ_667)⟩ hT hF fr_rf hP hD hS (lv_sub hl [0] rfl)
                · refine lv_aload_n hx hb dX4_advance_117 rfl (lv_at hl 0 rfl) ?_
                  refine lv_iconst (v := 1) hx hb dX4_advance_118 (by decide) ?_
                  refine th_put (Tp := TyX a E) (Rl := fr [(5, 6)] [] C) (ci := 4) (v := .int 1) (ty := .int) (CC := RX4) (T := TX4) (N := 6) hx hb htg ig_4 tyX4 tyX4_ok nmX4 hown hK hP hD hS 5 (by decide) (sX_5 hT) rfl 3 (by decide) (htg _ q_222) (fun _ h9 => h9) rfl (by decide +kernel) rfl rfl (Nat.le_of_ble_eq_true rfl) (hT.up 5 ⟨rfl, (fX_5_1 hT), (fX_5_2 hT), (fX_5_4 hT), (fX_5_5 hT)⟩) (fr_st hF (by decide) (by decide)) dX4_advance_119 (fun C_668 H locs e_669 hT hF hP hD hS => ?_)
                  have t_670 := hT
                  have tk_671 := (tk_word (Eq.trans (upto_stop (p := pL) (fun h8 => pL_hi c_564 h8.2)).symm hs_54.2.2) (by rw [← hs_54.2.1]; exact (Int32.not_le.mp c_565)))
                  rw [hQ]
                  exact W.vret hx hb hr (fun t ht hW => ⟨⟨C_668, rfl, ⟨hT, hF, ⟨(Eq.trans (show gi (C_668 5) 2 = gi (K54 5) 2 by rw [e_669]; rfl) hv_54), (px_mk (Eq.trans (show gi (C_668 5) 1 = gi (K54 5) 1 by rw [e_669]; rfl) hs_54.1) (Eq.trans (show gi (C_668 5) 2 = gi (K54 5) 2 by rw [e_669]; rfl) hv_54) (Eq.trans (show gi (C_668 5) 3 = (1 : Int32) by rw [e_669]; rfl) tk_671.1) (Eq.trans (show gi (C_668 5) 4 = gi (K54 5) 4 by rw [e_669]; rfl) hs_54.2.1) (Eq.trans (show gi (C_668 5) 5 = gi (K54 5) 5 by rw [e_669]; rfl) tk_671.2))⟩⟩, ⟨by rw [ht]; exact hP, hD⟩⟩, hS.F ht⟩) hS.2.2 dX4_advance_122
              · refine lv_aload_n hx hb dX4_advance_93 rfl (lv_at hl 0 rfl) ?_
                refine lv_dup hx hb dX4_advance_94 rfl ?_
                refine va_get (D := D) (ci := 4) (v := .int (gi (K54 5) 5)) (C := RX4) (T := TX4) (N := 6) hx hb htg ig_4 hown hK hP 5 (oh_wg (by decide) (sX_5 hT)) rfl 5 (by decide) (htg _ q_224) (fun _ h9 => h9) rfl dX4_advance_95 ?_
                refine lv_iconst (v := 1) hx hb dX4_advance_98 (by decide) ?_
                refine lv_iadd hx hb dX4_advance_99 ?_
                refine th_put (Tp := TyX a E) (Rl := fr [(5, 6)] [] C) (ci := 4) (v := .int ((gi (K54 5) 5) + 1)) (ty := .int) (CC := RX4) (T := TX4) (N := 6) hx hb htg ig_4 tyX4 tyX4_ok nmX4 hown hK hP hD hS 5 (by decide) (sX_5 hT) rfl 5 (by decide) (htg _ q_224) (fun _ h9 => h9) rfl (by decide +kernel) rfl rfl (Nat.le_of_ble_eq_true rfl) (hT.up 5 ⟨rfl, (fX_5_1 hT), (fX_5_2 hT), (fX_5_4 hT), (rg_w (rg_add (lo := 1) (hi := 250) (rn_ltu (u' := 249) (Int32.not_le.mp c_346) (fX_5_5 t_345) (fX_5_1 t_345) (by decide)) (rg_c (v := 1) (lo := 1) (hi := 1) (by decide)) (by decide)) (by decide))⟩) (fr_st hF (by decide) (by decide)) dX4_advance_100 (fun C_672 H locs e_673 hT hF hP hD hS => ?_)
                have t_674 := hT
                refine lv_goto (tgt := 54) hx hb dX4_advance_103 (by decide) ?_
                exact ih_54 _ (hd_54 ▸ (by rw [(show gi (C_672 5) 5 = ((gi (K54 5) 5) + 1) by rw [e_673]; rfl)]; exact mu_up 250 (rn_ltu (u' := 249) (Int32.not_le.mp c_346) (fX_5_5 t_345) (fX_5_1 t_345) (by decide)) (by decide))) C_672  _ _ ls rfl (Eq.trans (show gi (C_672 5) 2 = gi (K54 5) 2 by rw [e_673]; rfl) hv_54) ⟨Eq.trans (show gi (C_672 5) 1 = gi (K54 5) 1 by rw [e_673]; rfl) hs_54.1, Eq.trans (show gi (C_672 5) 4 = gi (K54 5) 4 by rw [e_673]; rfl) hs_54.2.1, Eq.trans (congrArg (upto pL (ga (C 32)) (gi (C 5) 1)) (show gi (C_672 5) 5 = ((gi (K54 5) 5) + 1) by rw [e_673]; rfl)) (Eq.trans (upto_step (p := pL) (rg_w (lo := 0) (hi := 249) (rn_ltu (u' := 249) (Int32.not_le.mp c_346) (fX_5_5 t_345) (fX_5_1 t_345) (by decide)) (by decide)) (oh_lte (Int32.not_le.mp c_346) hs_54.1) ⟨(Int32.not_lt.mp c_455), (Int32.not_lt.mp c_564)⟩).symm hs_54.2.2)⟩ hT hF (fr_ste hLF_54 e_673 (by decide) (by decide)) hP hD hS (lv_sub hl [0] rfl)
        have hS_675 : gi (K8 5) 4 = (upto pB (ga (C 32)) (gi (C 5) 1) (gi (C 5) 5)) := Eq.trans (upto_stop (p := pB) (fun h8 => c_341 h8.2)).symm hs_8.2
        exact L_54 _ C_342  _ _ ls rfl (Eq.trans (show gi (C_342 5) 2 = gi (K8 5) 2 by rw [e_343]; rfl) hv_8) ⟨Eq.trans (show gi (C_342 5) 1 = gi (K8 5) 1 by rw [e_343]; rfl) hs_8.1, Eq.trans (show gi (C_342 5) 4 = gi (K8 5) 4 by rw [e_343]; rfl) hS_675, (congrArg (upto pL (ga (C 32)) (gi (C 5) 1)) (Eq.trans (show gi (C_342 5) 5 = (gi (K8 5) 4) by rw [e_343]; rfl) hS_675))⟩ hT hF fr_rf hP hD hS (lv_sub hl [0] rfl)
      · refine lv_aload_n hx hb dX4_advance_33 rfl (lv_at hl 0 rfl) ?_
        refine lv_dup hx hb dX4_advance_34 rfl ?_
        refine va_get (D := D) (ci := 4) (v := .int (gi (K8 5) 4)) (C := RX4) (T := TX4) (N := 6) hx hb htg ig_4 hown hK hP 5 (oh_wg (by decide) (sX_5 hT)) rfl 4 (by decide) (htg _ q_223) (fun _ h9 => h9) rfl dX4_advance_35 ?_
        refine lv_iconst (v := 1) hx hb dX4_advance_38 (by decide) ?_
        refine lv_iadd hx hb dX4_advance_39 ?_
        refine th_put (Tp := TyX a E) (Rl := fr [(5, 6)] [] C) (ci := 4) (v := .int ((gi (K8 5) 4) + 1)) (ty := .int) (CC := RX4) (T := TX4) (N := 6) hx hb htg ig_4 tyX4 tyX4_ok nmX4 hown hK hP hD hS 5 (by decide) (sX_5 hT) rfl 4 (by decide) (htg _ q_223) (fun _ h9 => h9) rfl (by decide +kernel) rfl rfl (Nat.le_of_ble_eq_true rfl) (hT.up 5 ⟨rfl, (fX_5_1 hT), (fX_5_2 hT), (rg_w (rg_add (lo := 1) (hi := 250) (rn_ltu (u' := 249) (Int32.not_le.mp c_5) (fX_5_4 t_4) (fX_5_1 t_4) (by decide)) (rg_c (v := 1) (lo := 1) (hi := 1) (by decide)) (by decide)) (by decide)), (fX_5_5 hT)⟩) (fr_st hF (by decide) (by decide)) dX4_advance_40 (fun C_676 H locs e_677 hT hF hP hD hS => ?_)
        have t_678 := hT
        refine lv_goto (tgt := 8) hx hb dX4_advance_43 (by decide) ?_
        exact ih_8 _ (hd_8 ▸ (by rw [(show gi (C_676 5) 4 = ((gi (K8 5) 4) + 1) by rw [e_677]; rfl)]; exact mu_up 250 (rn_ltu (u' := 249) (Int32.not_le.mp c_5) (fX_5_4 t_4) (fX_5_1 t_4) (by decide)) (by decide))) C_676  _ _ ls rfl (Eq.trans (show gi (C_676 5) 2 = gi (K8 5) 2 by rw [e_677]; rfl) hv_8) ⟨Eq.trans (show gi (C_676 5) 1 = gi (K8 5) 1 by rw [e_677]; rfl) hs_8.1, Eq.trans (congrArg (upto pB (ga (C 32)) (gi (C 5) 1)) (show gi (C_676 5) 4 = ((gi (K8 5) 4) + 1) by rw [e_677]; rfl)) (Eq.trans (upto_step (p := pB) (rg_w (lo := 0) (hi := 249) (rn_ltu (u' := 249) (Int32.not_le.mp c_5) (fX_5_4 t_4) (fX_5_1 t_4) (by decide)) (by decide)) (oh_lte (Int32.not_le.mp c_5) hs_8.1) c_341).symm hs_8.2)⟩ hT hF (fr_ste hLF_8 e_677 (by decide) (by decide)) hP hD hS (lv_sub hl [0] rfl)
  exact L_8 _ C_1  _ _ ls rfl (show gi (C_1 5) 2 = gi (C 5) 2 by rw [e_2]; rfl) ⟨(show gi (C_1 5) 1 = gi (C 5) 1 by rw [e_2]; rfl), (congrArg (upto pB (ga (C 32)) (gi (C 5) 1)) (show gi (C_1 5) 4 = (gi (C 5) 5) by rw [e_2]; rfl))⟩ hT hF fr_rf hP hD hS (lv_sub hl [0] rfl)

set_option maxHeartbeats 4000000 in
set_option maxRecDepth 100000 in
theorem e_X4_fail (l : Launch) (D : va_G) (E : Nat → ClassId) (G : Nat → Nat) (sz : Nat) (a : Nat → Nat) (C : Nat → va_E) (hT : TyX a E C) : Met l yX4_fail (oh_w yX4_fail cX4_fail 1 none) ({ frames := 0, cells := 0, slots := 0, locals := 0 }) (oh_Pm D E G [.ref (a 5)] (oh_W 35 a C) sz) (va_Qv (fun (u : Nat → va_E) => TyX a E u ∧ fr [(5, 6)] [] C u ∧ (rg (gi (u 5) 2) 0 250) ∧ (px u = xFail (px C))) (oh_B D (va_A (oh_W 35 a C) sz) (fun u => oh_W 35 a u)) (va_A (oh_W 35 a C) sz)) 0 0 (va_A (oh_W 35 a C) sz) := by
  refine Met.ofW (cc := cX4_fail) (maxL := 1) (ret := none) (by decide) rfl ?_
  intro p e s m args below meth c s₁ B hml hv
  obtain ⟨rfl, hsz, hP, hK, hD0, hG⟩ := hv
  have hx := B.exec
  have hb := B.bytes
  have hr := B.returns
  have hts := atoms_spec (ws := (oh_w yX4_fail cX4_fail 1 none)) B.pre
  have htg : ∀ w ∈ oh_t, w.before _ s = true := fun w h => hts w (List.mem_cons_of_mem _ h)
  have hown : s.vm.findClass RX4 = some m.cls := findClass_of_methodNamed B.named
  have hlocks := B.notSynchronized
  have hT0 := hT
  subst hsz
  have hD := hD0.self (sz := s.heap.size)
  generalize hAe : va_A (oh_W 35 a C) s.heap.size = A at hD hG ⊢
  have hA : ∀ q : Nat, s.heap.size ≤ q → A q := fun q h => by rw [← hAe]; exact Or.inr h
  have hS : va_S A s.heap s.heap [] := va_S.rf
  have hF : fr [(5, 6)] [] C C := fr_rf
  have hl := lv_entry ([.ref (a 5)]) (n := 1) (Nat.le_of_ble_eq_true rfl)
  rw [lg_entry_eq]
  generalize (lg_sl ([.ref (a 5)]) ++ List.replicate (1 - (lg_sl ([.ref (a 5)])).length) Slot.unset).toArray = ls at hl ⊢
  have hl : lv_has ls 1 [(0, .ref (a 5))] := hl
  refine oh_genQ (fun Q hQ => ?_)
  refine lv_aload_n hx hb dX4_fail_0 rfl (lv_at hl 0 rfl) ?_
  refine va_get (D := D) (ci := 4) (v := .int (gi (C 5) 2)) (C := RX4) (T := TX4) (N := 6) hx hb htg ig_4 hown hK hP 5 (oh_wg (by decide) (sX_5 hT)) rfl 2 (by decide) (htg _ q_220) (fun _ h9 => h9) rfl dX4_fail_1 ?_
  refine lv_iconst (v := (-1)) hx hb dX4_fail_4 (by decide) ?_
  refine lv_icmp_ne (tgt := 16) hx hb dX4_fail_5 (by decide) (fun (c_1 : ¬ ((gi (C 5) 2) = (-1))) => ?_) (fun (c_1 : (gi (C 5) 2) = (-1)) => ?_)
  · rw [hQ]
    exact W.vret hx hb hr (fun t ht hW => ⟨⟨C, rfl, ⟨hT, hF, ⟨(rg_w (lo := 0) (hi := 250) (rn_nel (l' := 0) c_1 (fX_5_2 hT0) (rg_c (v := (-1)) (lo := (-1)) (hi := (-1)) (by decide)) (by decide)) (by decide)), (xFail_no c_1).symm⟩⟩, ⟨by rw [ht]; exact hP, hD⟩⟩, hS.F ht⟩) hS.2.2 dX4_fail_16
  · refine lv_aload_n hx hb dX4_fail_8 rfl (lv_at hl 0 rfl) ?_
    refine lv_aload_n hx hb dX4_fail_9 rfl (lv_at hl 0 rfl) ?_
    refine va_get (D := D) (ci := 4) (v := .int (gi (C 5) 4)) (C := RX4) (T := TX4) (N := 6) hx hb htg ig_4 hown hK hP 5 (oh_wg (by decide) (sX_5 hT)) rfl 4 (by decide) (htg _ q_223) (fun _ h9 => h9) rfl dX4_fail_10 ?_
    refine th_put (Tp := TyX a E) (Rl := fr [(5, 6)] [] C) (ci := 4) (v := .int (gi (C 5) 4)) (ty := .int) (CC := RX4) (T := TX4) (N := 6) hx hb htg ig_4 tyX4 tyX4_ok nmX4 hown hK hP hD hS 5 (by decide) (sX_5 hT) rfl 2 (by decide) (htg _ q_220) (fun _ h9 => h9) rfl (by decide +kernel) rfl rfl (Nat.le_of_ble_eq_true rfl) (hT.up 5 ⟨rfl, (fX_5_1 hT), (rg_w (fX_5_4 hT0) (by decide)), (fX_5_4 hT), (fX_5_5 hT)⟩) (fr_st hF (by decide) (by decide)) dX4_fail_13 (fun C_2 H locs e_3 hT hF hP hD hS => ?_)
    have t_4 := hT
    rw [hQ]
    exact W.vret hx hb hr (fun t ht hW => ⟨⟨C_2, rfl, ⟨hT, hF, ⟨(oh_rgF (show gi (C_2 5) 2 = (gi (C 5) 4) by rw [e_3]; rfl) (rg_w (lo := 0) (hi := 250) (fX_5_4 hT0) (by decide))), (px_mk (show gi (C_2 5) 1 = gi (C 5) 1 by rw [e_3]; rfl) (Eq.trans (show gi (C_2 5) 2 = (gi (C 5) 4) by rw [e_3]; rfl) (pif_pos c_1).symm) (show gi (C_2 5) 3 = gi (C 5) 3 by rw [e_3]; rfl) (show gi (C_2 5) 4 = gi (C 5) 4 by rw [e_3]; rfl) (show gi (C_2 5) 5 = gi (C 5) 5 by rw [e_3]; rfl))⟩⟩, ⟨by rw [ht]; exact hP, hD⟩⟩, hS.F ht⟩) hS.2.2 dX4_fail_16

set_option maxHeartbeats 4000000 in
set_option maxRecDepth 100000 in
theorem e_X4_isSound (l : Launch) (D : va_G) (E : Nat → ClassId) (G : Nat → Nat) (a : Nat → Nat) (C : Nat → va_E) (hT : TyX a E C) : Met l yX4_isSound (oh_w yX4_isSound cX4_isSound 1 (some .boolean)) ({ frames := 0, cells := 0, slots := 0, locals := 0 }) (oh_Pp D E G [.ref (a 5)] (oh_W 35 a C)) (vp_Si (fun r => (r = 0 ∨ r = 1) ∧ (r ≠ 0 → (gi (C 5) 2 = -1)) ∧ (r = 0 → (¬ gi (C 5) 2 = -1)))) 0 0 (fun _ => False) := by
  refine Met.ofW (cc := cX4_isSound) (maxL := 1) (ret := (some .boolean)) (by decide) rfl ?_
  intro p e s m args below meth c s₁ B hml hv
  obtain ⟨rfl, hP, hK, hG⟩ := hv
  have hx := B.exec
  have hb := B.bytes
  have hr := B.returns
  have hts := atoms_spec (ws := (oh_w yX4_isSound cX4_isSound 1 (some .boolean))) B.pre
  have htg : ∀ w ∈ oh_t, w.before _ s = true := fun w h => hts w (List.mem_cons_of_mem _ h)
  have hown : s.vm.findClass RX4 = some m.cls := findClass_of_methodNamed B.named
  have hlocks := B.notSynchronized
  have hT0 := hT
  have hS : va_S (fun _ => False) s.heap s.heap [] := va_S.rf
  have hl := lv_entry ([.ref (a 5)]) (n := 1) (Nat.le_of_ble_eq_true rfl)
  rw [lg_entry_eq]
  generalize (lg_sl ([.ref (a 5)]) ++ List.replicate (1 - (lg_sl ([.ref (a 5)])).length) Slot.unset).toArray = ls at hl ⊢
  have hl : lv_has ls 1 [(0, .ref (a 5))] := hl
  refine oh_genQ (fun Q hQ => ?_)
  refine lv_aload_n hx hb dX4_isSound_0 rfl (lv_at hl 0 rfl) ?_
  refine va_get (D := D) (ci := 4) (v := .int (gi (C 5) 2)) (C := RX4) (T := TX4) (N := 6) hx hb htg ig_4 hown hK hP 5 (oh_wg (by decide) (sX_5 hT)) rfl 2 (by decide) (htg _ q_220) (fun _ h9 => h9) rfl dX4_isSound_1 ?_
  refine lv_iconst (v := (-1)) hx hb dX4_isSound_4 (by decide) ?_
  refine lv_icmp_ne (tgt := 12) hx hb dX4_isSound_5 (by decide) (fun (c_1 : ¬ ((gi (C 5) 2) = (-1))) => ?_) (fun (c_1 : (gi (C 5) 2) = (-1)) => ?_)
  · refine lv_iconst (v := 0) hx hb dX4_isSound_12 (by decide) ?_
    rw [hQ]
    exact W.zret (v := 0) (ty := .boolean) hx hb hr (by decide) (fun t ht hW => ⟨0, rfl, ⟨(Or.inl rfl), (fun h9 => absurd rfl h9), (fun _ => c_1)⟩, ht⟩) (fun q h => by cases h) dX4_isSound_13
  · refine lv_iconst (v := 1) hx hb dX4_isSound_8 (by decide) ?_
    refine lv_goto (tgt := 13) hx hb dX4_isSound_9 (by decide) ?_
    rw [hQ]
    exact W.zret (v := 1) (ty := .boolean) hx hb hr (by decide) (fun t ht hW => ⟨1, rfl, ⟨(Or.inr rfl), (fun _ => c_1), (fun h9 => absurd h9 (by decide))⟩, ht⟩) (fun q h => by cases h) dX4_isSound_13

set_option maxHeartbeats 4000000 in
set_option maxRecDepth 100000 in
theorem e_X4_isEnd (l : Launch) (D : va_G) (E : Nat → ClassId) (G : Nat → Nat) (a : Nat → Nat) (C : Nat → va_E) (hT : TyX a E C) : Met l yX4_isEnd (oh_w yX4_isEnd cX4_isEnd 1 (some .boolean)) ({ frames := 0, cells := 0, slots := 0, locals := 0 }) (oh_Pp D E G [.ref (a 5)] (oh_W 35 a C)) (vp_Si (fun r => (r = 0 ∨ r = 1) ∧ (r ≠ 0 → (gi (C 5) 3 = 0)) ∧ (r = 0 → (¬ gi (C 5) 3 = 0)))) 0 0 (fun _ => False) := by
  refine Met.ofW (cc := cX4_isEnd) (maxL := 1) (ret := (some .boolean)) (by decide) rfl ?_
  intro p e s m args below meth c s₁ B hml hv
  obtain ⟨rfl, hP, hK, hG⟩ := hv
  have hx := B.exec
  have hb := B.bytes
  have hr := B.returns
  have hts := atoms_spec (ws := (oh_w yX4_isEnd cX4_isEnd 1 (some .boolean))) B.pre
  have htg : ∀ w ∈ oh_t, w.before _ s = true := fun w h => hts w (List.mem_cons_of_mem _ h)
  have hown : s.vm.findClass RX4 = some m.cls := findClass_of_methodNamed B.named
  have hlocks := B.notSynchronized
  have hT0 := hT
  have hS : va_S (fun _ => False) s.heap s.heap [] := va_S.rf
  have hl := lv_entry ([.ref (a 5)]) (n := 1) (Nat.le_of_ble_eq_true rfl)
  rw [lg_entry_eq]
  generalize (lg_sl ([.ref (a 5)]) ++ List.replicate (1 - (lg_sl ([.ref (a 5)])).length) Slot.unset).toArray = ls at hl ⊢
  have hl : lv_has ls 1 [(0, .ref (a 5))] := hl
  refine oh_genQ (fun Q hQ => ?_)
  refine lv_aload_n hx hb dX4_isEnd_0 rfl (lv_at hl 0 rfl) ?_
  refine va_get (D := D) (ci := 4) (v := .int (gi (C 5) 3)) (C := RX4) (T := TX4) (N := 6) hx hb htg ig_4 hown hK hP 5 (oh_wg (by decide) (sX_5 hT)) rfl 3 (by decide) (htg _ q_222) (fun _ h9 => h9) rfl dX4_isEnd_1 ?_
  refine lv_if_ne (tgt := 11) hx hb dX4_isEnd_4 (by decide) (fun (c_1 : ¬ ((gi (C 5) 3) = 0)) => ?_) (fun (c_1 : (gi (C 5) 3) = 0) => ?_)
  · refine lv_iconst (v := 0) hx hb dX4_isEnd_11 (by decide) ?_
    rw [hQ]
    exact W.zret (v := 0) (ty := .boolean) hx hb hr (by decide) (fun t ht hW => ⟨0, rfl, ⟨(Or.inl rfl), (fun h9 => absurd rfl h9), (fun _ => c_1)⟩, ht⟩) (fun q h => by cases h) dX4_isEnd_12
  · refine lv_iconst (v := 1) hx hb dX4_isEnd_7 (by decide) ?_
    refine lv_goto (tgt := 12) hx hb dX4_isEnd_8 (by decide) ?_
    rw [hQ]
    exact W.zret (v := 1) (ty := .boolean) hx hb hr (by decide) (fun t ht hW => ⟨1, rfl, ⟨(Or.inr rfl), (fun _ => c_1), (fun h9 => absurd h9 (by decide))⟩, ht⟩) (fun q h => by cases h) dX4_isEnd_12

set_option maxHeartbeats 4000000 in
set_option maxRecDepth 100000 in
theorem e_X4_isWord (l : Launch) (D : va_G) (E : Nat → ClassId) (G : Nat → Nat) (a : Nat → Nat) (C : Nat → va_E) (hT : TyX a E C) (j : Nat) (hj : j < 34) : Met l yX4_isWord (oh_w yX4_isWord cX4_isWord 3 (some .boolean)) ({ frames := 4, cells := 0, slots := 0, locals := 85 }) (oh_Pp D E G [.ref (a 5), .ref (G (3 + j))] (oh_W 35 a C)) (vp_Si (fun r => (r = 0 ∨ r = 1) ∧ (r ≠ 0 → (XIs (ga (C 32)) (px C) j)) ∧ (r = 0 → (¬ XIs (ga (C 32)) (px C) j)))) 0 0 (fun _ => False) := by
  refine Met.ofW (cc := cX4_isWord) (maxL := 3) (ret := (some .boolean)) (by decide) rfl ?_
  intro p e s m args below meth c s₁ B hml hv
  obtain ⟨rfl, hP, hK, hG⟩ := hv
  have hx := B.exec
  have hb := B.bytes
  have hr := B.returns
  have hts := atoms_spec (ws := (oh_w yX4_isWord cX4_isWord 3 (some .boolean))) B.pre
  have htg : ∀ w ∈ oh_t, w.before _ s = true := fun w h => hts w (List.mem_cons_of_mem _ h)
  have hown : s.vm.findClass RX4 = some m.cls := findClass_of_methodNamed B.named
  have hlocks := B.notSynchronized
  have hT0 := hT
  have hS : va_S (fun _ => False) s.heap s.heap [] := va_S.rf
  have hl := lv_entry ([.ref (a 5), .ref (G (3 + j))]) (n := 3) (Nat.le_of_ble_eq_true rfl)
  rw [lg_entry_eq]
  generalize (lg_sl ([.ref (a 5), .ref (G (3 + j))]) ++ List.replicate (3 - (lg_sl ([.ref (a 5), .ref (G (3 + j))])).length) Slot.unset).toArray = ls at hl ⊢
  have hl : lv_has ls 3 [(0, .ref (a 5)), (1, .ref (G (3 + j)))] := hl
  refine oh_genQ (fun Q hQ => ?_)
  refine lv_aload_n hx hb dX4_isWord_0 rfl (lv_at hl 0 rfl) ?_
  refine va_get (D := D) (ci := 4) (v := .int (gi (C 5) 2)) (C := RX4) (T := TX4) (N := 6) hx hb htg ig_4 hown hK hP 5 (oh_wg (by decide) (sX_5 hT)) rfl 2 (by decide) (htg _ q_220) (fun _ h9 => h9) rfl dX4_isWord_1 ?_
  refine lv_iconst (v := (-1)) hx hb dX4_isWord_4 (by decide) ?_
  refine lv_icmp_ne (tgt := 32) hx hb dX4_isWord_5 (by decide) (fun (c_1 : ¬ ((gi (C 5) 2) = (-1))) => ?_) (fun (c_1 : (gi (C 5) 2) = (-1)) => ?_)
  · refine lv_iconst (v := 0) hx hb dX4_isWord_32 (by decide) ?_
    rw [hQ]
    exact W.zret (v := 0) (ty := .boolean) hx hb hr (by decide) (fun t ht hW => ⟨0, rfl, ⟨(Or.inl rfl), (fun h9 => absurd rfl h9), (fun _ => (fun h8 => c_1 h8.1))⟩, ht⟩) (fun q h => by cases h) dX4_isWord_33
  · refine lv_aload_n hx hb dX4_isWord_8 rfl (lv_at hl 0 rfl) ?_
    refine va_get (D := D) (ci := 4) (v := .int (gi (C 5) 3)) (C := RX4) (T := TX4) (N := 6) hx hb htg ig_4 hown hK hP 5 (oh_wg (by decide) (sX_5 hT)) rfl 3 (by decide) (htg _ q_222) (fun _ h9 => h9) rfl dX4_isWord_9 ?_
    refine lv_iconst (v := 1) hx hb dX4_isWord_12 (by decide) ?_
    refine lv_icmp_ne (tgt := 32) hx hb dX4_isWord_13 (by decide) (fun (c_2 : ¬ ((gi (C 5) 3) = 1)) => ?_) (fun (c_2 : (gi (C 5) 3) = 1) => ?_)
    · refine lv_iconst (v := 0) hx hb dX4_isWord_32 (by decide) ?_
      rw [hQ]
      exact W.zret (v := 0) (ty := .boolean) hx hb hr (by decide) (fun t ht hW => ⟨0, rfl, ⟨(Or.inl rfl), (fun h9 => absurd rfl h9), (fun _ => (fun h8 => c_2 h8.2.1))⟩, ht⟩) (fun q h => by cases h) dX4_isWord_33
    · refine lv_aload_n hx hb dX4_isWord_16 rfl (lv_at hl 0 rfl) ?_
      refine va_get (D := D) (ci := 4) (v := .int (gi (C 5) 5)) (C := RX4) (T := TX4) (N := 6) hx hb htg ig_4 hown hK hP 5 (oh_wg (by decide) (sX_5 hT)) rfl 5 (by decide) (htg _ q_224) (fun _ h9 => h9) rfl dX4_isWord_17 ?_
      refine lv_aload_n hx hb dX4_isWord_20 rfl (lv_at hl 0 rfl) ?_
      refine va_get (D := D) (ci := 4) (v := .int (gi (C 5) 4)) (C := RX4) (T := TX4) (N := 6) hx hb htg ig_4 hown hK hP 5 (oh_wg (by decide) (sX_5 hT)) rfl 4 (by decide) (htg _ q_223) (fun _ h9 => h9) rfl dX4_isWord_21 ?_
      refine lv_isub hx hb dX4_isWord_24 ?_
      refine lv_aload_n hx hb dX4_isWord_25 rfl (lv_at hl 1 rfl) ?_
      refine tq_V (As := []) (rest := [.int ((gi (C 5) 5) - (gi (C 5) 4))]) (ws := []) ⟨hx, hb, hml, hown, htg⟩ (c_J0_length_8abf5 l D E G j hj) (cwV 0 htg (oh_gV q_521 q_522 q_523 q_75 q_524) rfl rfl rfl pdVJ0_length_8abf5 ⟨Nat.le_of_ble_eq_true rfl, Nat.le_of_ble_eq_true rfl⟩) hK va_nil hG hS (oh_srec hG hS hj) rfl hl.1 rfl (Nat.le_of_ble_eq_true rfl) dX4_isWord_26 ⟨Nat.le_of_ble_eq_true rfl, Nat.le_of_ble_eq_true rfl⟩ (fun r_3 hq_4 => ?_)
      subst hq_4
      refine lv_icmp_eq (tgt := 34) hx hb dX4_isWord_29 (by decide) (fun (c_5 : ((gi (C 5) 5) - (gi (C 5) 4)) = (Int32.ofNat (oh_len j))) => ?_) (fun (c_5 : ¬ (((gi (C 5) 5) - (gi (C 5) 4)) = (Int32.ofNat (oh_len j)))) => ?_)
      · refine lv_iconst (v := 0) hx hb dX4_isWord_34 (by decide) ?_
        refine lv_istore_n (lv' := [(2, .int 0), (0, .ref (a 5)), (1, .ref (G (3 + j)))]) hx hb dX4_isWord_35 rfl hl (by decide) rfl (fun ls hl => ?_)
        have L_36 : ∀ (d : Nat) (z36_2 : Int32) (ls : Array Slot), (6 - z36_2.toInt).toNat = d → rg z36_2 0 6 → (∀ i : Nat, (i : Int) < z36_2.toInt → ga (C 32) ((gi (C 5) 4).toNatClampNeg + i) = oh_byt j i) → lv_has ls 3 [(2, .int z36_2), (0, .ref (a 5)), (1, .ref (G (3 + j)))] → W p l e ({ frames := 4, cells := 0, slots := 0, locals := 85 }) s m (([.ref (a 5), .ref (G (3 + j))] : List Value).toArray) below meth c s.heap [] 0 0 Q (F0 m 36 ls []) := by
          intro d
          induction d using Nat.strongRecOn with
          | ind d ih_36 =>
          intro z36_2 ls hd_36 hz36_2 hx_36 hl
          refine lv_iload_n hx hb dX4_isWord_36 rfl (lv_at hl 0 rfl) ?_
          refine lv_aload_n hx hb dX4_isWord_37 rfl (lv_at hl 2 rfl) ?_
          refine tq_V (As := []) (rest := [.int z36_2]) (ws := []) ⟨hx, hb, hml, hown, htg⟩ (c_J0_length_8abf5 l D E G j hj) (cwV 0 htg (oh_gV q_521 q_522 q_523 q_75 q_524) rfl rfl rfl pdVJ0_length_8abf5 ⟨Nat.le_of_ble_eq_true rfl, Nat.le_of_ble_eq_true rfl⟩) hK va_nil hG hS (oh_srec hG hS hj) rfl hl.1 rfl (Nat.le_of_ble_eq_true rfl) dX4_isWord_38 ⟨Nat.le_of_ble_eq_true rfl, Nat.le_of_ble_eq_true rfl⟩ (fun r_6 hq_7 => ?_)
          subst hq_7
          refine lv_icmp_ge (tgt := 71) hx hb dX4_isWord_41 (by decide) (fun (c_8 : (Int32.ofNat (oh_len j)) ≤ z36_2) => ?_) (fun (c_8 : ¬ ((Int32.ofNat (oh_len j)) ≤ z36_2)) => ?_)
          · refine lv_iconst (v := 1) hx hb dX4_isWord_71 (by decide) ?_
            rw [hQ]
            exact W.zret (v := 1) (ty := .boolean) hx hb hr (by decide) (fun t ht hW => ⟨1, rfl, ⟨(Or.inr rfl), (fun _ => ⟨c_1, c_2, c_5, xw_all hj c_8 hx_36⟩), (fun h9 => absurd h9 (by decide))⟩, ht⟩) (fun q h => by cases h) dX4_isWord_72
          · refine lv_aload_n hx hb dX4_isWord_44 rfl (lv_at hl 1 rfl) ?_
            refine va_get (D := D) (ci := 4) (v := .ref (a 32)) (C := RX4) (T := TX4) (N := 6) hx hb htg ig_4 hown hK hP 5 (oh_wg (by decide) (sX_5 hT)) rfl 0 (by decide) (htg _ q_217) (fun _ h9 => h9) rfl dX4_isWord_45 ?_
            refine lv_aload_n hx hb dX4_isWord_48 rfl (lv_at hl 1 rfl) ?_
            refine va_get (D := D) (ci := 4) (v := .int (gi (C 5) 4)) (C := RX4) (T := TX4) (N := 6) hx hb htg ig_4 hown hK hP 5 (oh_wg (by decide) (sX_5 hT)) rfl 4 (by decide) (htg _ q_223) (fun _ h9 => h9) rfl dX4_isWord_49 ?_
            refine lv_iload_n hx hb dX4_isWord_52 rfl (lv_at hl 0 rfl) ?_
            refine lv_iadd hx hb dX4_isWord_53 ?_
            have n_9 : vp_in ((gi (C 5) 4) + z36_2) 250 := (oh_wix (fX_5_5 hT0) (fX_5_4 hT0) c_5 (rg_w (rn_ltu (u' := 5) (Int32.not_le.mp c_8) hz36_2 (oh_lenr hj) (by decide)) (by decide)) (Int32.not_le.mp c_8))
            refine th_iald hx hb hK hP 32 (by decide) (sX_32 hT) n_9 dX4_isWord_54 ?_
            refine lv_aload_n hx hb dX4_isWord_55 rfl (lv_at hl 2 rfl) ?_
            refine lv_iload_n hx hb dX4_isWord_56 rfl (lv_at hl 0 rfl) ?_
            refine tq_V (As := [.int z36_2]) (rest := [.int (ga (C 32) ((gi (C 5) 4) + z36_2).toNatClampNeg)]) (ws := []) ⟨hx, hb, hml, hown, htg⟩ (c_J0_charAt_5068e l D E G j z36_2 hj (oh_nn (rn_ltu (u' := 5) (Int32.not_le.mp c_8) hz36_2 (oh_lenr hj) (by decide)) (by decide)) (Int32.not_le.mp c_8)) (cwV 1 htg (oh_gV q_531 q_532 q_533 q_75 q_534) rfl rfl rfl pdVJ0_charAt_5068e ⟨Nat.le_of_ble_eq_true rfl, Nat.le_of_ble_eq_true rfl⟩) hK va_nil hG hS (oh_srec hG hS hj) rfl hl.1 rfl (Nat.le_of_ble_eq_true rfl) dX4_isWord_57 ⟨Nat.le_of_ble_eq_true rfl, Nat.le_of_ble_eq_true rfl⟩ (fun r_10 hq_11 => ?_)
            subst hq_11
            refine lv_icmp_eq (tgt := 65) hx hb dX4_isWord_60 (by decide) (fun (c_12 : (ga (C 32) ((gi (C 5) 4) + z36_2).toNatClampNeg) = (oh_byt j (z36_2).toNatClampNeg)) => ?_) (fun (c_12 : ¬ ((ga (C 32) ((gi (C 5) 4) + z36_2).toNatClampNeg) = (oh_byt j (z36_2).toNatClampNeg))) => ?_)
            · refine lv_iinc (v := z36_2 + 1) (lv' := [(2, .int (z36_2 + 1)), (0, .ref (a 5)), (1, .ref (G (3 + j)))]) hx hb dX4_isWord_65 hl (k := 0) rfl (by rfl) (by decide) rfl (fun ls hl => ?_)
              refine lv_goto (tgt := 36) hx hb dX4_isWord_68 (by decide) ?_
              exact ih_36 _ (hd_36 ▸ mu_up 6 (rn_ltu (u' := 5) (Int32.not_le.mp c_8) hz36_2 (oh_lenr hj) (by decide)) (by decide)) (z36_2 + 1) ls rfl (rg_w (rg_add (lo := 1) (hi := 6) (rn_ltu (u' := 5) (Int32.not_le.mp c_8) hz36_2 (oh_lenr hj) (by decide)) (rg_c (v := 1) (lo := 1) (hi := 1) (by decide)) (by decide)) (by decide)) (xw_step (rg_w (lo := 0) (hi := 250) (fX_5_4 hT0) (by decide)) (rn_ltu (u' := 5) (Int32.not_le.mp c_8) hz36_2 (oh_lenr hj) (by decide)) (by decide) hx_36 c_12) (lv_sub hl [0, 1, 2] rfl)
            · refine lv_iconst (v := 0) hx hb dX4_isWord_63 (by decide) ?_
              rw [hQ]
              exact W.zret (v := 0) (ty := .boolean) hx hb hr (by decide) (fun t ht hW => ⟨0, rfl, ⟨(Or.inl rfl), (fun h9 => absurd rfl h9), (fun _ => (fun h8 => xw_no hj (rg_w (lo := 0) (hi := 250) (fX_5_4 hT0) (by decide)) (rn_ltu (u' := 5) (Int32.not_le.mp c_8) hz36_2 (oh_lenr hj) (by decide)) (by decide) (Int32.not_le.mp c_8) c_12 h8.2.2.2))⟩, ht⟩) (fun q h => by cases h) dX4_isWord_64
        exact L_36 _ 0 ls rfl (rg_w (rg_c (v := 0) (lo := 0) (hi := 0) (by decide)) (by decide)) xw_0 (lv_sub hl [0, 1, 2] rfl)
      · refine lv_iconst (v := 0) hx hb dX4_isWord_32 (by decide) ?_
        rw [hQ]
        exact W.zret (v := 0) (ty := .boolean) hx hb hr (by decide) (fun t ht hW => ⟨0, rfl, ⟨(Or.inl rfl), (fun h9 => absurd rfl h9), (fun _ => (fun h8 => c_5 h8.2.2.1))⟩, ht⟩) (fun q h => by cases h) dX4_isWord_33

set_option maxHeartbeats 4000000 in
set_option maxRecDepth 100000 in
theorem e_X4_numberHere (l : Launch) (D : va_G) (E : Nat → ClassId) (G : Nat → Nat) (a : Nat → Nat) (C : Nat → va_E) (hT : TyX a E C) : Met l yX4_numberHere (oh_w yX4_numberHere cX4_numberHere 3 (some .int)) ({ frames := 0, cells := 0, slots := 0, locals := 0 }) (oh_Pp D E G [.ref (a 5)] (oh_W 35 a C)) (vp_Si (fun r => (r = numH (ga (C 32)) (px C)))) 0 0 (fun _ => False) := by
  refine Met.ofW (cc := cX4_numberHere) (maxL := 3) (ret := (some .int)) (by decide) rfl ?_
  intro p e s m args below meth c s₁ B hml hv
  obtain ⟨rfl, hP, hK, hG⟩ := hv
  have hx := B.exec
  have hb := B.bytes
  have hr := B.returns
  have hts := atoms_spec (ws := (oh_w yX4_numberHere cX4_numberHere 3 (some .int))) B.pre
  have htg : ∀ w ∈ oh_t, w.before _ s = true := fun w h => hts w (List.mem_cons_of_mem _ h)
  have hown : s.vm.findClass RX4 = some m.cls := findClass_of_methodNamed B.named
  have hlocks := B.notSynchronized
  have hT0 := hT
  have hS : va_S (fun _ => False) s.heap s.heap [] := va_S.rf
  have hl := lv_entry ([.ref (a 5)]) (n := 3) (Nat.le_of_ble_eq_true rfl)
  rw [lg_entry_eq]
  generalize (lg_sl ([.ref (a 5)]) ++ List.replicate (3 - (lg_sl ([.ref (a 5)])).length) Slot.unset).toArray = ls at hl ⊢
  have hl : lv_has ls 3 [(0, .ref (a 5))] := hl
  refine oh_genQ (fun Q hQ => ?_)
  refine lv_aload_n hx hb dX4_numberHere_0 rfl (lv_at hl 0 rfl) ?_
  refine va_get (D := D) (ci := 4) (v := .int (gi (C 5) 3)) (C := RX4) (T := TX4) (N := 6) hx hb htg ig_4 hown hK hP 5 (oh_wg (by decide) (sX_5 hT)) rfl 3 (by decide) (htg _ q_222) (fun _ h9 => h9) rfl dX4_numberHere_1 ?_
  refine lv_iconst (v := 2) hx hb dX4_numberHere_4 (by decide) ?_
  refine lv_icmp_ne (tgt := 21) hx hb dX4_numberHere_5 (by decide) (fun (c_1 : ¬ ((gi (C 5) 3) = 2)) => ?_) (fun (c_1 : (gi (C 5) 3) = 2) => ?_)
  · refine lv_iconst (v := (-1)) hx hb dX4_numberHere_21 (by decide) ?_
    rw [hQ]
    exact W.iret (v := (-1)) hx hb hr (fun t ht hW => ⟨(-1), rfl, (pif_neg (fun h8 => c_1 h8.1)).symm, ht⟩) (fun q h => by cases h) dX4_numberHere_22
  · refine lv_aload_n hx hb dX4_numberHere_8 rfl (lv_at hl 0 rfl) ?_
    refine va_get (D := D) (ci := 4) (v := .int (gi (C 5) 5)) (C := RX4) (T := TX4) (N := 6) hx hb htg ig_4 hown hK hP 5 (oh_wg (by decide) (sX_5 hT)) rfl 5 (by decide) (htg _ q_224) (fun _ h9 => h9) rfl dX4_numberHere_9 ?_
    refine lv_aload_n hx hb dX4_numberHere_12 rfl (lv_at hl 0 rfl) ?_
    refine va_get (D := D) (ci := 4) (v := .int (gi (C 5) 4)) (C := RX4) (T := TX4) (N := 6) hx hb htg ig_4 hown hK hP 5 (oh_wg (by decide) (sX_5 hT)) rfl 4 (by decide) (htg _ q_223) (fun _ h9 => h9) rfl dX4_numberHere_13 ?_
    refine lv_isub hx hb dX4_numberHere_16 ?_
    refine lv_iconst (v := 3) hx hb dX4_numberHere_17 (by decide) ?_
    refine lv_icmp_le (tgt := 23) hx hb dX4_numberHere_18 (by decide) (fun (c_2 : ((gi (C 5) 5) - (gi (C 5) 4)) ≤ 3) => ?_) (fun (c_2 : ¬ (((gi (C 5) 5) - (gi (C 5) 4)) ≤ 3)) => ?_)
    · refine lv_iconst (v := 0) hx hb dX4_numberHere_23 (by decide) ?_
      refine lv_istore_n (lv' := [(1, .int 0), (0, .ref (a 5))]) hx hb dX4_numberHere_24 rfl hl (by decide) rfl (fun ls hl => ?_)
      refine lv_aload_n hx hb dX4_numberHere_25 rfl (lv_at hl 1 rfl) ?_
      refine va_get (D := D) (ci := 4) (v := .int (gi (C 5) 4)) (C := RX4) (T := TX4) (N := 6) hx hb htg ig_4 hown hK hP 5 (oh_wg (by decide) (sX_5 hT)) rfl 4 (by decide) (htg _ q_223) (fun _ h9 => h9) rfl dX4_numberHere_26 ?_
      refine lv_istore_n (lv' := [(2, .int (gi (C 5) 4)), (1, .int 0), (0, .ref (a 5))]) hx hb dX4_numberHere_29 rfl hl (by decide) rfl (fun ls hl => ?_)
      have L_30 : ∀ (d : Nat) (z30_2 : Int32) (z30_1 : Int32) (ls : Array Slot), (250 - z30_2.toInt).toNat = d → rg z30_2 0 250 → (dvI (ga (C 32)) (gi (C 5) 4) (gi (C 5) 5) z30_2 z30_1) → lv_has ls 3 [(2, .int z30_2), (1, .int z30_1), (0, .ref (a 5))] → W p l e ({ frames := 0, cells := 0, slots := 0, locals := 0 }) s m (([.ref (a 5)] : List Value).toArray) below meth c s.heap [] 0 0 Q (F0 m 30 ls []) := by
        intro d
        induction d using Nat.strongRecOn with
        | ind d ih_30 =>
        intro z30_2 z30_1 ls hd_30 hz30_2 hx_30 hl
        refine lv_iload_n hx hb dX4_numberHere_30 rfl (lv_at hl 0 rfl) ?_
        refine lv_aload_n hx hb dX4_numberHere_31 rfl (lv_at hl 2 rfl) ?_
        refine va_get (D := D) (ci := 4) (v := .int (gi (C 5) 5)) (C := RX4) (T := TX4) (N := 6) hx hb htg ig_4 hown hK hP 5 (oh_wg (by decide) (sX_5 hT)) rfl 5 (by decide) (htg _ q_224) (fun _ h9 => h9) rfl dX4_numberHere_32 ?_
        refine lv_icmp_ge (tgt := 59) hx hb dX4_numberHere_35 (by decide) (fun (c_3 : (gi (C 5) 5) ≤ z30_2) => ?_) (fun (c_3 : ¬ ((gi (C 5) 5) ≤ z30_2)) => ?_)
        · refine lv_iload_n hx hb dX4_numberHere_59 rfl (lv_at hl 1 rfl) ?_
          rw [hQ]
          exact W.iret (v := z30_1) hx hb hr (fun t ht hW => ⟨z30_1, rfl, (Eq.trans (dv_end c_3 hx_30) (pif_pos ⟨c_1, c_2⟩).symm), ht⟩) (fun q h => by cases h) dX4_numberHere_60
        · refine lv_iload_n hx hb dX4_numberHere_38 rfl (lv_at hl 1 rfl) ?_
          refine lv_bipush (v := 10) hx hb dX4_numberHere_39 (by decide) ?_
          refine lv_imul hx hb dX4_numberHere_41 ?_
          refine lv_aload_n hx hb dX4_numberHere_42 rfl (lv_at hl 2 rfl) ?_
          refine va_get (D := D) (ci := 4) (v := .ref (a 32)) (C := RX4) (T := TX4) (N := 6) hx hb htg ig_4 hown hK hP 5 (oh_wg (by decide) (sX_5 hT)) rfl 0 (by decide) (htg _ q_217) (fun _ h9 => h9) rfl dX4_numberHere_43 ?_
          refine lv_iload_n hx hb dX4_numberHere_46 rfl (lv_at hl 0 rfl) ?_
          have n_4 : vp_in z30_2 250 := (rg_in (rn_ltu (u' := 249) (Int32.not_le.mp c_3) hz30_2 (fX_5_5 hT0) (by decide)) (by decide))
          refine th_iald hx hb hK hP 32 (by decide) (sX_32 hT) n_4 dX4_numberHere_47 ?_
          refine lv_iadd hx hb dX4_numberHere_48 ?_
          refine lv_bipush (v := 48) hx hb dX4_numberHere_49 (by decide) ?_
          refine lv_isub hx hb dX4_numberHere_51 ?_
          refine lv_istore_n (lv' := [(1, .int (((z30_1 * 10) + (ga (C 32) (z30_2).toNatClampNeg)) - 48)), (2, .int z30_2), (0, .ref (a 5))]) hx hb dX4_numberHere_52 rfl hl (by decide) rfl (fun ls hl => ?_)
          refine lv_iinc (v := z30_2 + 1) (lv' := [(2, .int (z30_2 + 1)), (1, .int (((z30_1 * 10) + (ga (C 32) (z30_2).toNatClampNeg)) - 48)), (0, .ref (a 5))]) hx hb dX4_numberHere_53 hl (k := 1) rfl (by rfl) (by decide) rfl (fun ls hl => ?_)
          refine lv_goto (tgt := 30) hx hb dX4_numberHere_56 (by decide) ?_
          exact ih_30 _ (hd_30 ▸ mu_up 250 (rn_ltu (u' := 249) (Int32.not_le.mp c_3) hz30_2 (fX_5_5 hT0) (by decide)) (by decide)) (z30_2 + 1) (((z30_1 * 10) + (ga (C 32) (z30_2).toNatClampNeg)) - 48) ls rfl (rg_w (rg_add (lo := 1) (hi := 250) (rn_ltu (u' := 249) (Int32.not_le.mp c_3) hz30_2 (fX_5_5 hT0) (by decide)) (rg_c (v := 1) (lo := 1) (hi := 1) (by decide)) (by decide)) (by decide)) (dv_step (rg_w (lo := 0) (hi := 250) (fX_5_4 hT0) (by decide)) (rn_ltu (u' := 249) (Int32.not_le.mp c_3) hz30_2 (fX_5_5 hT0) (by decide)) (by decide) (Int32.not_le.mp c_3) hx_30) (lv_sub hl [0, 1, 2] rfl)
      exact L_30 _ (gi (C 5) 4) 0 ls rfl (rg_w (fX_5_4 hT0) (by decide)) dv_0 (lv_sub hl [0, 1, 2] rfl)
    · refine lv_iconst (v := (-1)) hx hb dX4_numberHere_21 (by decide) ?_
      rw [hQ]
      exact W.iret (v := (-1)) hx hb hr (fun t ht hW => ⟨(-1), rfl, (pif_neg (fun h8 => absurd h8.2 (Int32.not_le.mpr (Int32.not_le.mp c_2)))).symm, ht⟩) (fun q h => by cases h) dX4_numberHere_22

set_option maxHeartbeats 4000000 in
set_option maxRecDepth 100000 in
theorem e_X4_takeSign (l : Launch) (D : va_G) (E : Nat → ClassId) (G : Nat → Nat) (sz : Nat) (a : Nat → Nat) (C : Nat → va_E) (hT : TyX a E C) : Met l yX4_takeSign (oh_w yX4_takeSign cX4_takeSign 1 none) ({ frames := 1, cells := 0, slots := 0, locals := 20 }) (oh_Pm D E G [.ref (a 5)] (oh_W 35 a C) sz) (va_Qv (fun (u : Nat → va_E) => TyX a E u ∧ fr [(5, 6)] [] C u ∧ (gi (u 5) 2 = -1 → gi (C 5) 2 = -1) ∧ (px u = xSign (ga (C 32)) (px C))) (oh_B D (va_A (oh_W 35 a C) sz) (fun u => oh_W 35 a u)) (va_A (oh_W 35 a C) sz)) 0 0 (va_A (oh_W 35 a C) sz) := by
  refine Met.ofW (cc := cX4_takeSign) (maxL := 1) (ret := none) (by decide) rfl ?_
  intro p e s m args below meth c s₁ B hml hv
  obtain ⟨rfl, hsz, hP, hK, hD0, hG⟩ := hv
  have hx := B.exec
  have hb := B.bytes
  have hr := B.returns
  have hts := atoms_spec (ws := (oh_w yX4_takeSign cX4_takeSign 1 none)) B.pre
  have htg : ∀ w ∈ oh_t, w.before _ s = true := fun w h => hts w (List.mem_cons_of_mem _ h)
  have hown : s.vm.findClass RX4 = some m.cls := findClass_of_methodNamed B.named
  have hlocks := B.notSynchronized
  have hT0 := hT
  subst hsz
  have hD := hD0.self (sz := s.heap.size)
  generalize hAe : va_A (oh_W 35 a C) s.heap.size = A at hD hG ⊢
  have hA : ∀ q : Nat, s.heap.size ≤ q → A q := fun q h => by rw [← hAe]; exact Or.inr h
  have hS : va_S A s.heap s.heap [] := va_S.rf
  have hF : fr [(5, 6)] [] C C := fr_rf
  have hl := lv_entry ([.ref (a 5)]) (n := 1) (Nat.le_of_ble_eq_true rfl)
  rw [lg_entry_eq]
  generalize (lg_sl ([.ref (a 5)]) ++ List.replicate (1 - (lg_sl ([.ref (a 5)])).length) Slot.unset).toArray = ls at hl ⊢
  have hl : lv_has ls 1 [(0, .ref (a 5))] := hl
  refine oh_genQ (fun Q hQ => ?_)
  refine lv_aload_n hx hb dX4_takeSign_0 rfl (lv_at hl 0 rfl) ?_
  refine va_get (D := D) (ci := 4) (v := .int (gi (C 5) 3)) (C := RX4) (T := TX4) (N := 6) hx hb htg ig_4 hown hK hP 5 (oh_wg (by decide) (sX_5 hT)) rfl 3 (by decide) (htg _ q_222) (fun _ h9 => h9) rfl dX4_takeSign_1 ?_
  refine lv_iconst (v := 3) hx hb dX4_takeSign_4 (by decide) ?_
  refine lv_icmp_ne (tgt := 15) hx hb dX4_takeSign_5 (by decide) (fun (c_1 : ¬ ((gi (C 5) 3) = 3)) => ?_) (fun (c_1 : (gi (C 5) 3) = 3) => ?_)
  · refine lv_aload_n hx hb dX4_takeSign_15 rfl (lv_at hl 0 rfl) ?_
    refine tm_Vv (As := []) (rest := []) ⟨hx, hb, hml, hown, htg⟩ (e_X4_fail l D E G _ a C hT) (cwV 0 htg (oh_gV q_596 q_580 q_581 q_71 q_582) rfl rfl rfl pdVX4_fail ⟨Nat.le_of_ble_eq_true rfl, Nat.le_of_ble_eq_true rfl⟩) hK hP hD hG hS hA (va_recv hK hP (ci := 4) (q0 := 5) rfl (oh_wg (by decide) (sX_5 hT))) rfl hl.1 rfl (Nat.le_of_ble_eq_true rfl) dX4_takeSign_16 ⟨Nat.le_of_ble_eq_true rfl, Nat.le_of_ble_eq_true rfl⟩ (fun C_3 H locs hq_4 hP hD hS => ?_)
    obtain ⟨hT, f_5, hq_4⟩ := hq_4
    have hF := fr_tr hF f_5 (by decide) (by decide)
    refine W.widen (k := 0) (n := 0) (Nat.le_refl _) (Nat.le_refl _) ?_
    have t_6 := hT
    have ep_7 := hq_4.2
    rw [hQ]
    exact W.vret hx hb hr (fun t ht hW => ⟨⟨C_3, rfl, ⟨hT, hF, ⟨(fun h8 => ((fun h7 => absurd h7 (oh_nfl hq_4.1)) h8)), (Eq.trans ep_7 (pif_neg c_1).symm)⟩⟩, ⟨by rw [ht]; exact hP, hD⟩⟩, hS.F ht⟩) hS.2.2 dX4_takeSign_19
  · refine lv_aload_n hx hb dX4_takeSign_8 rfl (lv_at hl 0 rfl) ?_
    refine tm_Vv (As := []) (rest := []) ⟨hx, hb, hml, hown, htg⟩ (e_X4_advance l D E G _ a C hT) (cwV 0 htg (oh_gV q_508 q_509 q_510 q_71 q_511) rfl rfl rfl pdVX4_advance ⟨Nat.le_of_ble_eq_true rfl, Nat.le_of_ble_eq_true rfl⟩) hK hP hD hG hS hA (va_recv hK hP (ci := 4) (q0 := 5) rfl (oh_wg (by decide) (sX_5 hT))) rfl hl.1 rfl (Nat.le_of_ble_eq_true rfl) dX4_takeSign_9 ⟨Nat.le_of_ble_eq_true rfl, Nat.le_of_ble_eq_true rfl⟩ (fun C_9 H locs hq_10 hP hD hS => ?_)
    obtain ⟨hT, f_11, hq_10⟩ := hq_10
    have hF := fr_tr hF f_11 (by decide) (by decide)
    refine W.widen (k := 0) (n := 0) (Nat.le_refl _) (Nat.le_refl _) ?_
    have t_12 := hT
    have ep_13 := hq_10.2
    refine lv_goto (tgt := 19) hx hb dX4_takeSign_12 (by decide) ?_
    rw [hQ]
    exact W.vret hx hb hr (fun t ht hW => ⟨⟨C_9, rfl, ⟨hT, hF, ⟨(fun h8 => ((fun h7 => Eq.trans (hq_10.1).symm h7) h8)), (Eq.trans ep_13 (pif_pos c_1).symm)⟩⟩, ⟨by rw [ht]; exact hP, hD⟩⟩, hS.F ht⟩) hS.2.2 dX4_takeSign_19

set_option maxHeartbeats 4000000 in
set_option maxRecDepth 100000 in
theorem e_X4_takeWord (l : Launch) (D : va_G) (E : Nat → ClassId) (G : Nat → Nat) (sz : Nat) (a : Nat → Nat) (C : Nat → va_E) (hT : TyX a E C) (j : Nat) (hj : j < 34) : Met l yX4_takeWord (oh_w yX4_takeWord cX4_takeWord 2 none) ({ frames := 5, cells := 0, slots := 0, locals := 107 }) (oh_Pm D E G [.ref (a 5), .ref (G (3 + j))] (oh_W 35 a C) sz) (va_Qv (fun (u : Nat → va_E) => TyX a E u ∧ fr [(5, 6)] [] C u ∧ (gi (u 5) 2 = -1 → gi (C 5) 2 = -1) ∧ (px u = xWord (ga (C 32)) j (px C))) (oh_B D (va_A (oh_W 35 a C) sz) (fun u => oh_W 35 a u)) (va_A (oh_W 35 a C) sz)) 0 0 (va_A (oh_W 35 a C) sz) := by
  refine Met.ofW (cc := cX4_takeWord) (maxL := 2) (ret := none) (by decide) rfl ?_
  intro p e s m args below meth c s₁ B hml hv
  obtain ⟨rfl, hsz, hP, hK, hD0, hG⟩ := hv
  have hx := B.exec
  have hb := B.bytes
  have hr := B.returns
  have hts := atoms_spec (ws := (oh_w yX4_takeWord cX4_takeWord 2 none)) B.pre
  have htg : ∀ w ∈ oh_t, w.before _ s = true := fun w h => hts w (List.mem_cons_of_mem _ h)
  have hown : s.vm.findClass RX4 = some m.cls := findClass_of_methodNamed B.named
  have hlocks := B.notSynchronized
  have hT0 := hT
  subst hsz
  have hD := hD0.self (sz := s.heap.size)
  generalize hAe : va_A (oh_W 35 a C) s.heap.size = A at hD hG ⊢
  have hA : ∀ q : Nat, s.heap.size ≤ q → A q := fun q h => by rw [← hAe]; exact Or.inr h
  have hS : va_S A s.heap s.heap [] := va_S.rf
  have hF : fr [(5, 6)] [] C C := fr_rf
  have hl := lv_entry ([.ref (a 5), .ref (G (3 + j))]) (n := 2) (Nat.le_of_ble_eq_true rfl)
  rw [lg_entry_eq]
  generalize (lg_sl ([.ref (a 5), .ref (G (3 + j))]) ++ List.replicate (2 - (lg_sl ([.ref (a 5), .ref (G (3 + j))])).length) Slot.unset).toArray = ls at hl ⊢
  have hl : lv_has ls 2 [(0, .ref (a 5)), (1, .ref (G (3 + j)))] := hl
  refine oh_genQ (fun Q hQ => ?_)
  refine lv_aload_n hx hb dX4_takeWord_0 rfl (lv_at hl 0 rfl) ?_
  refine lv_aload_n hx hb dX4_takeWord_1 rfl (lv_at hl 1 rfl) ?_
  refine tq_V (As := [.ref (G (3 + j))]) (rest := []) (ws := (oh_W 35 a C)) ⟨hx, hb, hml, hown, htg⟩ (e_X4_isWord l D E G a C hT j hj) (cwV 1 htg (oh_gV q_607 q_518 q_519 q_71 q_520) rfl rfl rfl pdVX4_isWord ⟨Nat.le_of_ble_eq_true rfl, Nat.le_of_ble_eq_true rfl⟩) hK hP hG hS (va_recv hK hP (ci := 4) (q0 := 5) rfl (oh_wg (by decide) (sX_5 hT))) rfl hl.1 rfl (Nat.le_of_ble_eq_true rfl) dX4_takeWord_2 ⟨Nat.le_of_ble_eq_true rfl, Nat.le_of_ble_eq_true rfl⟩ (fun r_1 hq_2 => ?_)
  refine lv_if_eq (tgt := 15) hx hb dX4_takeWord_5 (by decide) (fun (c_3 : r_1 = 0) => ?_) (fun (c_3 : ¬ (r_1 = 0)) => ?_)
  · have u_4 := hq_2.2.2 c_3
    refine lv_aload_n hx hb dX4_takeWord_15 rfl (lv_at hl 0 rfl) ?_
    refine tm_Vv (As := []) (rest := []) ⟨hx, hb, hml, hown, htg⟩ (e_X4_fail l D E G _ a C hT) (cwV 0 htg (oh_gV q_596 q_580 q_581 q_71 q_582) rfl rfl rfl pdVX4_fail ⟨Nat.le_of_ble_eq_true rfl, Nat.le_of_ble_eq_true rfl⟩) hK hP hD hG hS hA (va_recv hK hP (ci := 4) (q0 := 5) rfl (oh_wg (by decide) (sX_5 hT))) rfl hl.1 rfl (Nat.le_of_ble_eq_true rfl) dX4_takeWord_16 ⟨Nat.le_of_ble_eq_true rfl, Nat.le_of_ble_eq_true rfl⟩ (fun C_6 H locs hq_7 hP hD hS => ?_)
    obtain ⟨hT, f_8, hq_7⟩ := hq_7
    have hF := fr_tr hF f_8 (by decide) (by decide)
    refine W.widen (k := 0) (n := 0) (Nat.le_refl _) (Nat.le_refl _) ?_
    have t_9 := hT
    have ep_10 := hq_7.2
    rw [hQ]
    exact W.vret hx hb hr (fun t ht hW => ⟨⟨C_6, rfl, ⟨hT, hF, ⟨(fun h8 => ((fun h7 => absurd h7 (oh_nfl hq_7.1)) h8)), (Eq.trans ep_10 (pif_neg u_4).symm)⟩⟩, ⟨by rw [ht]; exact hP, hD⟩⟩, hS.F ht⟩) hS.2.2 dX4_takeWord_19
  · have u_11 := hq_2.2.1 c_3
    refine lv_aload_n hx hb dX4_takeWord_8 rfl (lv_at hl 0 rfl) ?_
    refine tm_Vv (As := []) (rest := []) ⟨hx, hb, hml, hown, htg⟩ (e_X4_advance l D E G _ a C hT) (cwV 0 htg (oh_gV q_508 q_509 q_510 q_71 q_511) rfl rfl rfl pdVX4_advance ⟨Nat.le_of_ble_eq_true rfl, Nat.le_of_ble_eq_true rfl⟩) hK hP hD hG hS hA (va_recv hK hP (ci := 4) (q0 := 5) rfl (oh_wg (by decide) (sX_5 hT))) rfl hl.1 rfl (Nat.le_of_ble_eq_true rfl) dX4_takeWord_9 ⟨Nat.le_of_ble_eq_true rfl, Nat.le_of_ble_eq_true rfl⟩ (fun C_13 H locs hq_14 hP hD hS => ?_)
    obtain ⟨hT, f_15, hq_14⟩ := hq_14
    have hF := fr_tr hF f_15 (by decide) (by decide)
    refine W.widen (k := 0) (n := 0) (Nat.le_refl _) (Nat.le_refl _) ?_
    have t_16 := hT
    have ep_17 := hq_14.2
    refine lv_goto (tgt := 19) hx hb dX4_takeWord_12 (by decide) ?_
    rw [hQ]
    exact W.vret hx hb hr (fun t ht hW => ⟨⟨C_13, rfl, ⟨hT, hF, ⟨(fun h8 => ((fun h7 => Eq.trans (hq_14.1).symm h7) h8)), (Eq.trans ep_17 (pif_pos u_11).symm)⟩⟩, ⟨by rw [ht]; exact hP, hD⟩⟩, hS.F ht⟩) hS.2.2 dX4_takeWord_19

set_option maxHeartbeats 4000000 in
set_option maxRecDepth 100000 in
theorem e_X4_takeWordIfThere (l : Launch) (D : va_G) (E : Nat → ClassId) (G : Nat → Nat) (sz : Nat) (a : Nat → Nat) (C : Nat → va_E) (hT : TyX a E C) (j : Nat) (hj : j < 34) : Met l yX4_takeWordIfThere (oh_w yX4_takeWordIfThere cX4_takeWordIfThere 3 (some .boolean)) ({ frames := 5, cells := 0, slots := 0, locals := 107 }) (oh_Pm D E G [.ref (a 5), .ref (G (3 + j))] (oh_W 35 a C) sz) (va_Qi (fun r (u : Nat → va_E) => TyX a E u ∧ fr [(5, 6)] [] C u ∧ (r = 0 ∨ r = 1) ∧ (gi (u 5) 2 = -1 → gi (C 5) 2 = -1) ∧ (px u = xIf (ga (C 32)) j (px C)) ∧ (r ≠ 0 → (XIs (ga (C 32)) (px C) j)) ∧ (r = 0 → (¬ XIs (ga (C 32)) (px C) j))) (oh_B D (va_A (oh_W 35 a C) sz) (fun u => oh_W 35 a u)) (va_A (oh_W 35 a C) sz)) 0 0 (va_A (oh_W 35 a C) sz) := by
  refine Met.ofW (cc := cX4_takeWordIfThere) (maxL := 3) (ret := (some .boolean)) (by decide) rfl ?_
  intro p e s m args below meth c s₁ B hml hv
  obtain ⟨rfl, hsz, hP, hK, hD0, hG⟩ := hv
  have hx := B.exec
  have hb := B.bytes
  have hr := B.returns
  have hts := atoms_spec (ws := (oh_w yX4_takeWordIfThere cX4_takeWordIfThere 3 (some .boolean))) B.pre
  have htg : ∀ w ∈ oh_t, w.before _ s = true := fun w h => hts w (List.mem_cons_of_mem _ h)
  have hown : s.vm.findClass RX4 = some m.cls := findClass_of_methodNamed B.named
  have hlocks := B.notSynchronized
  have hT0 := hT
  subst hsz
  have hD := hD0.self (sz := s.heap.size)
  generalize hAe : va_A (oh_W 35 a C) s.heap.size = A at hD hG ⊢
  have hA : ∀ q : Nat, s.heap.size ≤ q → A q := fun q h => by rw [← hAe]; exact Or.inr h
  have hS : va_S A s.heap s.heap [] := va_S.rf
  have hF : fr [(5, 6)] [] C C := fr_rf
  have hl := lv_entry ([.ref (a 5), .ref (G (3 + j))]) (n := 3) (Nat.le_of_ble_eq_true rfl)
  rw [lg_entry_eq]
  generalize (lg_sl ([.ref (a 5), .ref (G (3 + j))]) ++ List.replicate (3 - (lg_sl ([.ref (a 5), .ref (G (3 + j))])).length) Slot.unset).toArray = ls at hl ⊢
  have hl : lv_has ls 3 [(0, .ref (a 5)), (1, .ref (G (3 + j)))] := hl
  refine oh_genQ (fun Q hQ => ?_)
  refine lv_aload_n hx hb dX4_takeWordIfThere_0 rfl (lv_at hl 0 rfl) ?_
  refine lv_aload_n hx hb dX4_takeWordIfThere_1 rfl (lv_at hl 1 rfl) ?_
  refine tq_V (As := [.ref (G (3 + j))]) (rest := []) (ws := (oh_W 35 a C)) ⟨hx, hb, hml, hown, htg⟩ (e_X4_isWord l D E G a C hT j hj) (cwV 1 htg (oh_gV q_607 q_518 q_519 q_71 q_520) rfl rfl rfl pdVX4_isWord ⟨Nat.le_of_ble_eq_true rfl, Nat.le_of_ble_eq_true rfl⟩) hK hP hG hS (va_recv hK hP (ci := 4) (q0 := 5) rfl (oh_wg (by decide) (sX_5 hT))) rfl hl.1 rfl (Nat.le_of_ble_eq_true rfl) dX4_takeWordIfThere_2 ⟨Nat.le_of_ble_eq_true rfl, Nat.le_of_ble_eq_true rfl⟩ (fun r_1 hq_2 => ?_)
  refine lv_istore_n (lv' := [(2, .int r_1), (0, .ref (a 5)), (1, .ref (G (3 + j)))]) hx hb dX4_takeWordIfThere_5 rfl hl (by decide) rfl (fun ls hl => ?_)
  refine lv_iload_n hx hb dX4_takeWordIfThere_6 rfl (lv_at hl 0 rfl) ?_
  refine lv_if_eq (tgt := 14) hx hb dX4_takeWordIfThere_7 (by decide) (fun (c_3 : r_1 = 0) => ?_) (fun (c_3 : ¬ (r_1 = 0)) => ?_)
  · have u_4 := hq_2.2.2 c_3
    refine lv_iload_n hx hb dX4_takeWordIfThere_14 rfl (lv_at hl 0 rfl) ?_
    rw [hQ]
    exact W.zret (v := r_1) (ty := .boolean) hx hb hr (oh_nb hq_2.1) (fun t ht hW => ⟨⟨r_1, C, rfl, ⟨hT, hF, ⟨hq_2.1, (fun h8 => h8), (Eq.trans rfl (pif_neg u_4).symm), (fun h9 => (hq_2.2.1 h9)), (fun h9 => (hq_2.2.2 h9))⟩⟩, ⟨by rw [ht]; exact hP, hD⟩⟩, hS.F ht⟩) hS.2.2 dX4_takeWordIfThere_15
  · have u_5 := hq_2.2.1 c_3
    refine lv_aload_n hx hb dX4_takeWordIfThere_10 rfl (lv_at hl 1 rfl) ?_
    refine tm_Vv (As := []) (rest := []) ⟨hx, hb, hml, hown, htg⟩ (e_X4_advance l D E G _ a C hT) (cwV 0 htg (oh_gV q_508 q_509 q_510 q_71 q_511) rfl rfl rfl pdVX4_advance ⟨Nat.le_of_ble_eq_true rfl, Nat.le_of_ble_eq_true rfl⟩) hK hP hD hG hS hA (va_recv hK hP (ci := 4) (q0 := 5) rfl (oh_wg (by decide) (sX_5 hT))) rfl hl.1 rfl (Nat.le_of_ble_eq_true rfl) dX4_takeWordIfThere_11 ⟨Nat.le_of_ble_eq_true rfl, Nat.le_of_ble_eq_true rfl⟩ (fun C_7 H locs hq_8 hP hD hS => ?_)
    obtain ⟨hT, f_9, hq_8⟩ := hq_8
    have hF := fr_tr hF f_9 (by decide) (by decide)
    refine W.widen (k := 0) (n := 0) (Nat.le_refl _) (Nat.le_refl _) ?_
    have t_10 := hT
    have ep_11 := hq_8.2
    refine lv_iload_n hx hb dX4_takeWordIfThere_14 rfl (lv_at hl 0 rfl) ?_
    rw [hQ]
    exact W.zret (v := r_1) (ty := .boolean) hx hb hr (oh_nb hq_2.1) (fun t ht hW => ⟨⟨r_1, C_7, rfl, ⟨hT, hF, ⟨hq_2.1, (fun h8 => ((fun h7 => Eq.trans (hq_8.1).symm h7) h8)), (Eq.trans ep_11 (pif_pos u_5).symm), (fun h9 => (hq_2.2.1 h9)), (fun h9 => (hq_2.2.2 h9))⟩⟩, ⟨by rw [ht]; exact hP, hD⟩⟩, hS.F ht⟩) hS.2.2 dX4_takeWordIfThere_15

set_option maxHeartbeats 4000000 in
set_option maxRecDepth 100000 in
theorem e_X4_takeNumber (l : Launch) (D : va_G) (E : Nat → ClassId) (G : Nat → Nat) (sz : Nat) (a : Nat → Nat) (C : Nat → va_E) (hT : TyX a E C) (x1 : Int32) (x2 : Int32) : Met l yX4_takeNumber (oh_w yX4_takeNumber cX4_takeNumber 4 (some .int)) ({ frames := 1, cells := 0, slots := 0, locals := 22 }) (oh_Pm D E G [.ref (a 5), .int x1, .int x2] (oh_W 35 a C) sz) (va_Qi (fun r (u : Nat → va_E) => TyX a E u ∧ fr [(5, 6)] [] C u ∧ (gi (u 5) 2 = -1 → gi (C 5) 2 = -1) ∧ (gi (u 5) 2 = -1 → x1 ≤ r ∧ r ≤ x2) ∧ (r = (xNum (ga (C 32)) x1 x2 (px C)).1) ∧ (px u = (xNum (ga (C 32)) x1 x2 (px C)).2)) (oh_B D (va_A (oh_W 35 a C) sz) (fun u => oh_W 35 a u)) (va_A (oh_W 35 a C) sz)) 0 0 (va_A (oh_W 35 a C) sz) := by
  refine Met.ofW (cc := cX4_takeNumber) (maxL := 4) (ret := (some .int)) (by decide) rfl ?_
  intro p e s m args below meth c s₁ B hml hv
  obtain ⟨rfl, hsz, hP, hK, hD0, hG⟩ := hv
  have hx := B.exec
  have hb := B.bytes
  have hr := B.returns
  have hts := atoms_spec (ws := (oh_w yX4_takeNumber cX4_takeNumber 4 (some .int))) B.pre
  have htg : ∀ w ∈ oh_t, w.before _ s = true := fun w h => hts w (List.mem_cons_of_mem _ h)
  have hown : s.vm.findClass RX4 = some m.cls := findClass_of_methodNamed B.named
  have hlocks := B.notSynchronized
  have hT0 := hT
  subst hsz
  have hD := hD0.self (sz := s.heap.size)
  generalize hAe : va_A (oh_W 35 a C) s.heap.size = A at hD hG ⊢
  have hA : ∀ q : Nat, s.heap.size ≤ q → A q := fun q h => by rw [← hAe]; exact Or.inr h
  have hS : va_S A s.heap s.heap [] := va_S.rf
  have hF : fr [(5, 6)] [] C C := fr_rf
  have hl := lv_entry ([.ref (a 5), .int x1, .int x2]) (n := 4) (Nat.le_of_ble_eq_true rfl)
  rw [lg_entry_eq]
  generalize (lg_sl ([.ref (a 5), .int x1, .int x2]) ++ List.replicate (4 - (lg_sl ([.ref (a 5), .int x1, .int x2])).length) Slot.unset).toArray = ls at hl ⊢
  have hl : lv_has ls 4 [(0, .ref (a 5)), (1, .int x1), (2, .int x2)] := hl
  refine oh_genQ (fun Q hQ => ?_)
  refine lv_aload_n hx hb dX4_takeNumber_0 rfl (lv_at hl 0 rfl) ?_
  refine tq_V (As := []) (rest := []) (ws := (oh_W 35 a C)) ⟨hx, hb, hml, hown, htg⟩ (e_X4_numberHere l D E G a C hT) (cwV 0 htg (oh_gV q_587 q_588 q_589 q_71 q_590) rfl rfl rfl pdVX4_numberHere ⟨Nat.le_of_ble_eq_true rfl, Nat.le_of_ble_eq_true rfl⟩) hK hP hG hS (va_recv hK hP (ci := 4) (q0 := 5) rfl (oh_wg (by decide) (sX_5 hT))) rfl hl.1 rfl (Nat.le_of_ble_eq_true rfl) dX4_takeNumber_1 ⟨Nat.le_of_ble_eq_true rfl, Nat.le_of_ble_eq_true rfl⟩ (fun r_1 hq_2 => ?_)
  have er_3 := hq_2
  refine lv_istore_n (lv' := [(3, .int r_1), (0, .ref (a 5)), (1, .int x1), (2, .int x2)]) hx hb dX4_takeNumber_4 rfl hl (by decide) rfl (fun ls hl => ?_)
  refine lv_aload_n hx hb dX4_takeNumber_5 rfl (lv_at hl 1 rfl) ?_
  refine tq_V (As := []) (rest := []) (ws := (oh_W 35 a C)) ⟨hx, hb, hml, hown, htg⟩ (e_X4_isSound l D E G a C hT) (cwV 0 htg (oh_gV q_591 q_592 q_593 q_71 q_594) rfl rfl rfl pdVX4_isSound ⟨Nat.le_of_ble_eq_true rfl, Nat.le_of_ble_eq_true rfl⟩) hK hP hG hS (va_recv hK hP (ci := 4) (q0 := 5) rfl (oh_wg (by decide) (sX_5 hT))) rfl hl.1 rfl (Nat.le_of_ble_eq_true rfl) dX4_takeNumber_6 ⟨Nat.le_of_ble_eq_true rfl, Nat.le_of_ble_eq_true rfl⟩ (fun r_4 hq_5 => ?_)
  refine lv_if_eq (tgt := 21) hx hb dX4_takeNumber_9 (by decide) (fun (c_6 : r_4 = 0) => ?_) (fun (c_6 : ¬ (r_4 = 0)) => ?_)
  · have u_7 := hq_5.2.2 c_6
    refine lv_aload_n hx hb dX4_takeNumber_21 rfl (lv_at hl 1 rfl) ?_
    refine tm_Vv (As := []) (rest := []) ⟨hx, hb, hml, hown, htg⟩ (e_X4_fail l D E G _ a C hT) (cwV 0 htg (oh_gV q_596 q_580 q_581 q_71 q_582) rfl rfl rfl pdVX4_fail ⟨Nat.le_of_ble_eq_true rfl, Nat.le_of_ble_eq_true rfl⟩) hK hP hD hG hS hA (va_recv hK hP (ci := 4) (q0 := 5) rfl (oh_wg (by decide) (sX_5 hT))) rfl hl.1 rfl (Nat.le_of_ble_eq_true rfl) dX4_takeNumber_22 ⟨Nat.le_of_ble_eq_true rfl, Nat.le_of_ble_eq_true rfl⟩ (fun C_9 H locs hq_10 hP hD hS => ?_)
    obtain ⟨hT, f_11, hq_10⟩ := hq_10
    have hF := fr_tr hF f_11 (by decide) (by decide)
    refine W.widen (k := 0) (n := 0) (Nat.le_refl _) (Nat.le_refl _) ?_
    have t_12 := hT
    have ep_13 := hq_10.2
    refine lv_iconst (v := (-1)) hx hb dX4_takeNumber_25 (by decide) ?_
    rw [hQ]
    exact W.iret (v := (-1)) hx hb hr (fun t ht hW => ⟨⟨(-1), C_9, rfl, ⟨hT, hF, ⟨(fun h8 => ((fun h7 => absurd h7 (oh_nfl hq_10.1)) h8)), (fun h8 => absurd h8 (oh_nfl hq_10.1)), (congrArg Prod.fst (xNum_no (fun h8 => u_7 h8.1))).symm, (Eq.trans ep_13 (congrArg Prod.snd (xNum_no (fun h8 => u_7 h8.1))).symm)⟩⟩, ⟨by rw [ht]; exact hP, hD⟩⟩, hS.F ht⟩) hS.2.2 dX4_takeNumber_26
  · have u_14 := hq_5.2.1 c_6
    have s_15 := u_14
    refine lv_iload_n hx hb dX4_takeNumber_12 rfl (lv_at hl 0 rfl) ?_
    refine lv_iload_n hx hb dX4_takeNumber_13 rfl (lv_at hl 2 rfl) ?_
    refine lv_iload_n hx hb dX4_takeNumber_14 rfl (lv_at hl 3 rfl) ?_
    refine tq_SN (As := [.int r_1, .int x1, .int x2]) (rest := []) (ws := []) ⟨hx, hb, hml, hown, htg⟩ (c_X6_within l D E G r_1 x1 x2) ⟨va_cnB (y := yX6_within) 3 htg (oh_gW q_295) rfl rfl rfl (hG.1 ("OneHeavyLoad$Tape", 58, ⟨"OneHeavyLoad", "within", "(III)Z"⟩, "OneHeavyLoad") (List.mem_of_getElem? (i := 2) rfl)) (htg _ q_66) pdX6_within ⟨Nat.le_of_ble_eq_true rfl, Nat.le_of_ble_eq_true rfl⟩, htg _ q_294, trivial⟩ hK va_nil hG hS rfl hl.1 rfl (Nat.le_of_ble_eq_true rfl) dX4_takeNumber_15 ⟨Nat.le_of_ble_eq_true rfl, Nat.le_of_ble_eq_true rfl⟩ (fun r_16 hq_17 => ?_)
    refine lv_if_ne (tgt := 27) hx hb dX4_takeNumber_18 (by decide) (fun (c_18 : ¬ (r_16 = 0)) => ?_) (fun (c_18 : r_16 = 0) => ?_)
    · have u_19 := hq_17.2.1 c_18
      refine lv_aload_n hx hb dX4_takeNumber_27 rfl (lv_at hl 1 rfl) ?_
      refine tm_Vv (As := []) (rest := []) ⟨hx, hb, hml, hown, htg⟩ (e_X4_advance l D E G _ a C hT) (cwV 0 htg (oh_gV q_508 q_509 q_510 q_71 q_511) rfl rfl rfl pdVX4_advance ⟨Nat.le_of_ble_eq_true rfl, Nat.le_of_ble_eq_true rfl⟩) hK hP hD hG hS hA (va_recv hK hP (ci := 4) (q0 := 5) rfl (oh_wg (by decide) (sX_5 hT))) rfl hl.1 rfl (Nat.le_of_ble_eq_true rfl) dX4_takeNumber_28 ⟨Nat.le_of_ble_eq_true rfl, Nat.le_of_ble_eq_true rfl⟩ (fun C_21 H locs hq_22 hP hD hS => ?_)
      obtain ⟨hT, f_23, hq_22⟩ := hq_22
      have hF := fr_tr hF f_23 (by decide) (by decide)
      refine W.widen (k := 0) (n := 0) (Nat.le_refl _) (Nat.le_refl _) ?_
      have t_24 := hT
      have ep_25 := hq_22.2
      refine lv_iload_n hx hb dX4_takeNumber_31 rfl (lv_at hl 0 rfl) ?_
      rw [hQ]
      exact W.iret (v := r_1) hx hb hr (fun t ht hW => ⟨⟨r_1, C_21, rfl, ⟨hT, hF, ⟨(fun h8 => ((fun h7 => Eq.trans (hq_22.1).symm h7) h8)), (fun _ => ⟨u_19.1, u_19.2⟩), (congrArg Prod.fst (xNum_ok hq_2 u_14 u_19.1 u_19.2)).symm, (Eq.trans ep_25 (congrArg Prod.snd (xNum_ok hq_2 u_14 u_19.1 u_19.2)).symm)⟩⟩, ⟨by rw [ht]; exact hP, hD⟩⟩, hS.F ht⟩) hS.2.2 dX4_takeNumber_32
    · have u_26 := hq_17.2.2 c_18
      refine lv_aload_n hx hb dX4_takeNumber_21 rfl (lv_at hl 1 rfl) ?_
      refine tm_Vv (As := []) (rest := []) ⟨hx, hb, hml, hown, htg⟩ (e_X4_fail l D E G _ a C hT) (cwV 0 htg (oh_gV q_596 q_580 q_581 q_71 q_582) rfl rfl rfl pdVX4_fail ⟨Nat.le_of_ble_eq_true rfl, Nat.le_of_ble_eq_true rfl⟩) hK hP hD hG hS hA (va_recv hK hP (ci := 4) (q0 := 5) rfl (oh_wg (by decide) (sX_5 hT))) rfl hl.1 rfl (Nat.le_of_ble_eq_true rfl) dX4_takeNumber_22 ⟨Nat.le_of_ble_eq_true rfl, Nat.le_of_ble_eq_true rfl⟩ (fun C_28 H locs hq_29 hP hD hS => ?_)
      obtain ⟨hT, f_30, hq_29⟩ := hq_29
      have hF := fr_tr hF f_30 (by decide) (by decide)
      refine W.widen (k := 0) (n := 0) (Nat.le_refl _) (Nat.le_refl _) ?_
      have t_31 := hT
      have ep_32 := hq_29.2
      refine lv_iconst (v := (-1)) hx hb dX4_takeNumber_25 (by decide) ?_
      rw [hQ]
      exact W.iret (v := (-1)) hx hb hr (fun t ht hW => ⟨⟨(-1), C_28, rfl, ⟨hT, hF, ⟨(fun h8 => ((fun h7 => absurd h7 (oh_nfl hq_29.1)) h8)), (fun h8 => absurd h8 (oh_nfl hq_29.1)), (congrArg Prod.fst (xNum_b hq_2 u_26)).symm, (Eq.trans ep_32 (congrArg Prod.snd (xNum_b hq_2 u_26)).symm)⟩⟩, ⟨by rw [ht]; exact hP, hD⟩⟩, hS.F ht⟩) hS.2.2 dX4_takeNumber_26

set_option maxHeartbeats 4000000 in
set_option maxRecDepth 100000 in
theorem e_X4_rewind (l : Launch) (D : va_G) (E : Nat → ClassId) (G : Nat → Nat) (sz : Nat) (a : Nat → Nat) (C : Nat → va_E) (hT : TyX a E C) : Met l yX4_rewind (oh_w yX4_rewind cX4_rewind 1 none) ({ frames := 1, cells := 0, slots := 0, locals := 20 }) (oh_Pm D E G [.ref (a 5)] (oh_W 35 a C) sz) (va_Qv (fun (u : Nat → va_E) => TyX a E u ∧ fr [(5, 6)] [] C u ∧ (px u = xAdv (ga (C 32)) (gi (C 5) 1, -1, gi (C 5) 3, gi (C 5) 4, 0))) (oh_B D (va_A (oh_W 35 a C) sz) (fun u => oh_W 35 a u)) (va_A (oh_W 35 a C) sz)) 0 0 (va_A (oh_W 35 a C) sz) := by
  refine Met.ofW (cc := cX4_rewind) (maxL := 1) (ret := none) (by decide) rfl ?_
  intro p e s m args below meth c s₁ B hml hv
  obtain ⟨rfl, hsz, hP, hK, hD0, hG⟩ := hv
  have hx := B.exec
  have hb := B.bytes
  have hr := B.returns
  have hts := atoms_spec (ws := (oh_w yX4_rewind cX4_rewind 1 none)) B.pre
  have htg : ∀ w ∈ oh_t, w.before _ s = true := fun w h => hts w (List.mem_cons_of_mem _ h)
  have hown : s.vm.findClass RX4 = some m.cls := findClass_of_methodNamed B.named
  have hlocks := B.notSynchronized
  have hT0 := hT
  subst hsz
  have hD := hD0.self (sz := s.heap.size)
  generalize hAe : va_A (oh_W 35 a C) s.heap.size = A at hD hG ⊢
  have hA : ∀ q : Nat, s.heap.size ≤ q → A q := fun q h => by rw [← hAe]; exact Or.inr h
  have hS : va_S A s.heap s.heap [] := va_S.rf
  have hF : fr [(5, 6)] [] C C := fr_rf
  have hl := lv_entry ([.ref (a 5)]) (n := 1) (Nat.le_of_ble_eq_true rfl)
  rw [lg_entry_eq]
  generalize (lg_sl ([.ref (a 5)]) ++ List.replicate (1 - (lg_sl ([.ref (a 5)])).length) Slot.unset).toArray = ls at hl ⊢
  have hl : lv_has ls 1 [(0, .ref (a 5))] := hl
  refine oh_genQ (fun Q hQ => ?_)
  refine lv_aload_n hx hb dX4_rewind_0 rfl (lv_at hl 0 rfl) ?_
  refine lv_iconst (v := (-1)) hx hb dX4_rewind_1 (by decide) ?_
  refine th_put (Tp := TyX a E) (Rl := fr [(5, 6)] [] C) (ci := 4) (v := .int (-1)) (ty := .int) (CC := RX4) (T := TX4) (N := 6) hx hb htg ig_4 tyX4 tyX4_ok nmX4 hown hK hP hD hS 5 (by decide) (sX_5 hT) rfl 2 (by decide) (htg _ q_220) (fun _ h9 => h9) rfl (by decide +kernel) rfl rfl (Nat.le_of_ble_eq_true rfl) (hT.up 5 ⟨rfl, (fX_5_1 hT), (rg_w (rg_c (v := (-1)) (lo := (-1)) (hi := (-1)) (by decide)) (by decide)), (fX_5_4 hT), (fX_5_5 hT)⟩) (fr_st hF (by decide) (by decide)) dX4_rewind_2 (fun C_1 H locs e_2 hT hF hP hD hS => ?_)
  have t_3 := hT
  refine lv_aload_n hx hb dX4_rewind_5 rfl (lv_at hl 0 rfl) ?_
  refine lv_iconst (v := 0) hx hb dX4_rewind_6 (by decide) ?_
  refine th_put (Tp := TyX a E) (Rl := fr [(5, 6)] [] C) (ci := 4) (v := .int 0) (ty := .int) (CC := RX4) (T := TX4) (N := 6) hx hb htg ig_4 tyX4 tyX4_ok nmX4 hown hK hP hD hS 5 (by decide) (sX_5 hT) rfl 5 (by decide) (htg _ q_224) (fun _ h9 => h9) rfl (by decide +kernel) rfl rfl (Nat.le_of_ble_eq_true rfl) (hT.up 5 ⟨rfl, (fX_5_1 hT), (fX_5_2 hT), (fX_5_4 hT), (rg_w (rg_c (v := 0) (lo := 0) (hi := 0) (by decide)) (by decide))⟩) (fr_st hF (by decide) (by decide)) dX4_rewind_7 (fun C_4 H locs e_5 hT hF hP hD hS => ?_)
  have t_6 := hT
  refine lv_aload_n hx hb dX4_rewind_10 rfl (lv_at hl 0 rfl) ?_
  refine tm_Vv (As := []) (rest := []) ⟨hx, hb, hml, hown, htg⟩ (e_X4_advance l D E G _ a C_4 hT) (cwV 0 htg (oh_gV q_508 q_509 q_510 q_71 q_511) rfl rfl rfl pdVX4_advance ⟨Nat.le_of_ble_eq_true rfl, Nat.le_of_ble_eq_true rfl⟩) hK hP hD hG hS hA (va_recv hK hP (ci := 4) (q0 := 5) rfl (oh_wg (by decide) (sX_5 hT))) rfl hl.1 rfl (Nat.le_of_ble_eq_true rfl) dX4_rewind_11 ⟨Nat.le_of_ble_eq_true rfl, Nat.le_of_ble_eq_true rfl⟩ (fun C_8 H locs hq_9 hP hD hS => ?_)
  obtain ⟨hT, f_10, hq_9⟩ := hq_9
  have hF := fr_tr hF f_10 (by decide) (by decide)
  refine W.widen (k := 0) (n := 0) (Nat.le_refl _) (Nat.le_refl _) ?_
  have t_11 := hT
  have ep_12 := hq_9.2
  rw [show ga (C_4 32) = ga (C 32) from congrArg ga (Eq.trans (th_un e_5 (by decide)) (th_un e_2 (by decide)))] at ep_12
  rw [hQ]
  exact W.vret hx hb hr (fun t ht hW => ⟨⟨C_8, rfl, ⟨hT, hF, (Eq.trans ep_12 (congrArg (xAdv (ga (C 32))) (px_mk (Eq.trans (show gi (C_4 5) 1 = gi (C_1 5) 1 by rw [e_5]; rfl) (show gi (C_1 5) 1 = gi (C 5) 1 by rw [e_2]; rfl)) (Eq.trans (show gi (C_4 5) 2 = gi (C_1 5) 2 by rw [e_5]; rfl) (show gi (C_1 5) 2 = ((-1) : Int32) by rw [e_2]; rfl)) (Eq.trans (show gi (C_4 5) 3 = gi (C_1 5) 3 by rw [e_5]; rfl) (show gi (C_1 5) 3 = gi (C 5) 3 by rw [e_2]; rfl)) (Eq.trans (show gi (C_4 5) 4 = gi (C_1 5) 4 by rw [e_5]; rfl) (show gi (C_1 5) 4 = gi (C 5) 4 by rw [e_2]; rfl)) (show gi (C_4 5) 5 = (0 : Int32) by rw [e_5]; rfl))))⟩, ⟨by rw [ht]; exact hP, hD⟩⟩, hS.F ht⟩) hS.2.2 dX4_rewind_14
