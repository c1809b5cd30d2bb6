/-! FULL: with less weight, or with frost, no road stops going -/
theorem wk_mono {E F : Ed} {s : Nat} (h : ∀ u v e, E u v e → ∃ e', F u v e') : ∀ k p d, Wk E s k p d → ∃ d', Wk F s k p d' := by
  intro k
  induction k with
  | zero =>
    intro p d w
    exact ⟨d, w⟩
  | succ k ih =>
    intro p d w
    obtain ⟨q, c, e, w1, w2, _⟩ := w
    obtain ⟨c', w3⟩ := ih q c w1
    obtain ⟨e', w4⟩ := h q p e w2
    exact ⟨c' + e', q, c', e', w3, w4, rfl⟩
theorem hasW_mono {E F : Ed} {s p : Nat} (h : ∀ u v e, E u v e → ∃ e', F u v e') (w : hasW E s p) : hasW F s p := by
  obtain ⟨d, ⟨k, hk⟩, _⟩ := w
  obtain ⟨d', h2⟩ := wk_mono h k p d hk
  exact ls_ex d' ⟨k, h2⟩
theorem edR_mono {n : Nat} {a b : Nat → Nat} {g g' : Nat → Prop} {c c' : Nat → Nat} (h : ∀ r, r < n → g r → g' r) : ∀ u v e, EdR n a b g c u v e → ∃ e', EdR n a b g' c' u v e' := by
  intro u v e hE
  obtain ⟨r, hr, hg, hx, _⟩ := hE
  exact ⟨c' r, r, hr, h r hr hg, hx, rfl⟩
theorem set_o {A : LA} {k t : Nat} {v : Int32} (ht : t ≠ 4) : setA A k v t = A t := funext (fun i => funext (fun j => if_neg (fun q => ht q.1)))
theorem sumA_set {A : LA} {k : Nat} {v s : Int32} {col : Nat} : ∀ n, sumA (setA A k v) s col n = sumA A s col n := by
  intro n
  induction n with
  | zero => rfl
  | succ n ih =>
    show sumA (setA A k v) s col n + pif ((s >>> (Int32.ofNat n &&& 31)) &&& 1 = 0) 0 (setA A k v 3 n col) = sumA A s col n + pif ((s >>> (Int32.ofNat n &&& 31)) &&& 1 = 0) 0 (A 3 n col)
    rw [ih, setA_t (by decide)]
theorem n0_set {A : LA} {k : Nat} {v : Int32} : n0A (setA A k v) = n0A A := by
  unfold n0A
  rw [set_o (t := 5) (by decide)]
theorem n1_set {A : LA} {k : Nat} {v : Int32} : n1A (setA A k v) = n1A A := by
  unfold n1A
  rw [set_o (t := 5) (by decide)]
theorem aA_set {A : LA} {k : Nat} {v : Int32} : aA (setA A k v) = aA A := by
  funext r
  unfold aA
  rw [set_o (t := 0) (by decide)]
theorem bA_set {A : LA} {k : Nat} {v : Int32} : bA (setA A k v) = bA A := by
  funext r
  unfold bA
  rw [set_o (t := 0) (by decide)]
theorem ps_set {A : LA} {k : Nat} {v w : Int32} : psA (setA A k v) w = psA A w := by
  funext r
  unfold psA lenA
  rw [set_o (t := 0) (by decide), set_o (t := 2) (by decide)]
theorem rd_set {A : LA} {k : Nat} {v : Int32} : rdA (setA A k v) = rdA A := by
  funext r
  unfold rdA
  rw [set_o (t := 1) (by decide)]
theorem gs_set {A : LA} {k : Nat} {v w s : Int32} {r : Nat} : gsA (setA A k v) w s r ↔ gsU (psA A w) (rdA A) (ndA (setA A k v) w s) (n1A A) r := by
  unfold gsA
  rw [ps_set, rd_set, n1_set]
theorem ec_set {A : LA} {k : Nat} {v w s n : Int32} : EcA (setA A k v) w s n = EdR (n0A A) (aA A) (bA A) (gsA (setA A k v) w s) (cA (setA A k v) w s n) := by
  unfold EcA
  rw [n0_set, aA_set, bA_set]
/-- roads that go with the one go with the other: so do ways -/
theorem hw_set {A : LA} {k l : Nat} {v u w s n m : Int32} {f t : Nat} (h : ∀ b, b < n1A A → ¬ ndA (setA A k v) w s b = 2 → ¬ ndA (setA A l u) w s b = 2) (q : hasW (EcA (setA A k v) w s n) f t) : hasW (EcA (setA A l u) w s m) f t := by
  rw [ec_set] at q ⊢
  refine hasW_mono (edR_mono (fun r hr hg => ?_)) q
  have hg2 := gs_set.mp hg
  exact gs_set.mpr ⟨hg2.1, fun b hb e => h b hb (hg2.2 b hb e)⟩
noncomputable def ndG (bA bP bT pr kd ld sn : Int32) : Int32 := pif (bA < ld) 2 (pif (sn ≤ bP) 0 (pif (pr = 1 ∨ kd = 3) 2 (pif (sn ≤ bT) 1 2)))
theorem ndG_m {bA bA' bP bP' bT bT' pr kd ld ld' sn sn' : Int32} (h1 : bA ≤ bA') (h2 : bP ≤ bP') (h3 : bT ≤ bT') (h4 : ld' ≤ ld) (h5 : sn' ≤ sn) (h : ¬ ndG bA bP bT pr kd ld sn = 2) : ¬ ndG bA' bP' bT' pr kd ld' sn' = 2 := by
  unfold ndG at h ⊢
  by_cases a : bA < ld
  · exact absurd (pif_pos a) h
  · rw [pif_neg a] at h
    rw [pif_neg (Int32.not_lt.mpr (Int32.le_trans h4 (Int32.le_trans (Int32.not_lt.mp a) h1)))]
    by_cases b' : sn' ≤ bP'
    · rw [pif_pos b']
      decide
    · rw [pif_neg b']
      rw [pif_neg (fun b => b' (Int32.le_trans h5 (Int32.le_trans b h2)))] at h
      by_cases c : pr = 1 ∨ kd = 3
      · exact absurd (pif_pos c) h
      · rw [pif_neg c] at h ⊢
        by_cases e : sn ≤ bT
        · rw [pif_pos (Int32.le_trans h5 (Int32.le_trans e h3))]
          decide
        · exact absurd (pif_neg e) h
theorem belF_r {kd fa sk fr v : Int32} {u : Int} (hv : rg v 0 u) (hu : decide (0 ≤ u ∧ u ≤ 2000) = true) : rg (belF kd fa sk fr v) 0 u := by
  have h2 := of_decide_eq_true hu
  unfold belF
  by_cases q : fa = 1 ∨ (kd = 5 ∧ fr = 0)
  · rw [pif_pos q]
    exact ⟨by decide, h2.1⟩
  · rw [pif_neg q]
    by_cases p : (kd = 4 ∨ kd = 5) ∧ sk = 0
    · rw [pif_pos p]
      exact rg_div2 hv (by decide) (decide_eq_true ⟨Int.le_refl u, by omega⟩)
    · rw [pif_neg p]
      exact hv
theorem belF_f {kd fa sk v : Int32} {u : Int} (hv : rg v 0 u) (hu : decide (0 ≤ u ∧ u ≤ 2000) = true) : (belF kd fa sk 0 v).toInt ≤ (belF kd fa sk 1 v).toInt := by
  by_cases q : fa = 1 ∨ (kd = 5 ∧ (0 : Int32) = 0)
  · rw [show belF kd fa sk 0 v = 0 from pif_pos q]
    exact (belF_r (kd := kd) (fa := fa) (sk := sk) (fr := 1) hv hu).1
  · unfold belF
    rw [pif_neg q, pif_neg (show ¬ (fa = 1 ∨ (kd = 5 ∧ (1 : Int32) = 0)) from fun z => q (z.elim Or.inl (fun y => absurd y.2 (by decide))))]
    exact Int.le_refl _
theorem vAx {kd ax : Int32} (h : rg ax 1 99) : rg (pif (kd = 2) (ax + 5) ax) 0 104 := by
  by_cases q : kd = 2
  · rw [pif_pos q]
    exact rg_add h (rg_c (v := 5) (lo := 5) (hi := 5) (by decide)) (by decide)
  · rw [pif_neg q]
    exact rg_w h (by decide)
theorem vUn {kd al : Int32} (h : rg al 1 999) : rg (pif (kd = 1 ∨ kd = 2) (al + al / 10) al) 0 1998 := by
  by_cases q : kd = 1 ∨ kd = 2
  · rw [pif_pos q]
    exact rg_add h (rg_div2 (rg_w (lo := 0) (hi := 999) h (by decide)) (by decide) (hi := 999) (by decide)) (by decide)
  · rw [pif_neg q]
    exact rg_w h (by decide)
theorem bAxF_f {kd ax fa sk : Int32} (h : rg ax 1 99) : bAxF kd ax fa sk 0 ≤ bAxF kd ax fa sk 1 := Int32.le_iff_toInt_le.mpr (belF_f (vAx h) (by decide))
theorem bAlF_f {P : Prop} {kd al mo fa sk : Int32} (h : rg al 1 999) (hm : rg mo 0 999) : bAlF P kd al mo fa sk 0 ≤ bAlF P kd al mo fa sk 1 := by
  have h1 : (bUnF kd al fa sk 0).toInt ≤ (bUnF kd al fa sk 1).toInt := belF_f (vUn h) (by decide)
  have h2 : rg (bUnF kd al fa sk 0) 0 1998 := belF_r (vUn h) (by decide)
  have h3 : rg (bUnF kd al fa sk 1) 0 1998 := belF_r (vUn h) (by decide)
  refine Int32.le_iff_toInt_le.mpr ?_
  unfold bAlF
  by_cases q : P ∧ fa = 0
  · rw [pif_pos q, pif_pos q, Int32.toInt_add, Int32.toInt_add, oh_bmod (by have := h2.1; have := hm.1; omega) (by have := h2.2; have := hm.2; omega), oh_bmod (by have := h3.1; have := hm.1; omega) (by have := h3.2; have := hm.2; omega)]
    omega
  · rw [pif_neg q, pif_neg q]
    exact h1
theorem aL_f {A : LA} {v w s : Int32} : aL (setA A 2 v) w s = aL A w s := by
  unfold aL
  rw [set_o (t := 2) (by decide), sumA_set, set_o (t := 5) (by decide), show setA A 2 v 4 0 0 = A 4 0 0 from if_neg (by decide)]
theorem nd_f {A : LA} {v w s : Int32} {b : Nat} : ndA (setA A 2 v) w s b = ndG (bAxF (A 1 b 1) (A 1 b 3) (A 1 b 8) (A 1 b 9) v) (bAlF (A 1 b 7 = 1) (A 1 b 1) (A 1 b 4) (A 1 b 5) (A 1 b 8) (A 1 b 9) v) (bAlF True (A 1 b 1) (A 1 b 4) (A 1 b 5) (A 1 b 8) (A 1 b 9) v) (A 1 b 7) (A 1 b 1) (aL A w s) (snA A w s b) := by
  unfold ndA snA
  rw [aL_f, set_o (t := 1) (by decide), set_o (t := 2) (by decide), show setA A 2 v 4 0 2 = v from if_pos ⟨rfl, rfl, rfl⟩]
  rfl
/-- a way without frost is one with it -/
theorem hw_f {A : LA} (h : okA A) {w s n m : Int32} {f t : Nat} (q : hasW (EcA (setA A 2 0) w s n) f t) : hasW (EcA (setA A 2 1) w s m) f t := by
  refine hw_set (fun b hb => ?_) q
  have hv := h.2.2.2.1 b (h.n1 hb)
  rw [nd_f, nd_f]
  exact ndG_m (bAxF_f hv.2.2.2.1) (bAlF_f hv.2.2.2.2.1 hv.2.2.2.2.2.1) (bAlF_f hv.2.2.2.2.1 hv.2.2.2.2.2.1) (Int32.le_refl _) (Int32.le_refl _)
theorem rnd_i {m ax : Int32} (hm : rg m 0 999) (ha : rg ax 2 12) : (rndUp m ax).toInt = (m.toInt + ax.toInt - 1) / ax.toInt := by
  have hm1 := hm.1
  have hm2 := hm.2
  have ha1 := ha.1
  have ha2 := ha.2
  have e1 : (m + ax).toInt = m.toInt + ax.toInt := by
    rw [Int32.toInt_add]
    exact oh_bmod (by omega) (by omega)
  have e : (m + ax - 1).toInt = m.toInt + ax.toInt - 1 := by
    rw [Int32.toInt_sub, e1, show (1 : Int32).toInt = 1 from rfl]
    exact oh_bmod (by omega) (by omega)
  have hp : (0 : Int32) < ax := Int32.lt_iff_toInt_lt.mpr (by show (0 : Int) < _; omega)
  have a1 : 0 ≤ (m.toInt + ax.toInt - 1) / ax.toInt := Int.ediv_nonneg (by omega) (by omega)
  have a2 : (m.toInt + ax.toInt - 1) / ax.toInt ≤ m.toInt + ax.toInt - 1 := Int.ediv_le_self _ (by omega)
  unfold rndUp
  rw [if_pos hp, Int32.toInt_div, e, Int.tdiv_eq_ediv_of_nonneg (by omega)]
  exact oh_bmod (by omega) (by omega)
theorem wt_i {ta x su : Int32} (ht : rg ta 0 99) (hx : rg x 0 900) (hs : rg su 0 495) : rg (if ta + x - su < 0 then 0 else ta + x - su) 0 999 ∧ (if ta + x - su < 0 then 0 else ta + x - su).toInt = if ta.toInt + x.toInt - su.toInt < 0 then 0 else ta.toInt + x.toInt - su.toInt := by
  have h1 := ht.1
  have h2 := ht.2
  have h3 := hx.1
  have h4 := hx.2
  have h5 := hs.1
  have h6 := hs.2
  have e1 : (ta + x).toInt = ta.toInt + x.toInt := by
    rw [Int32.toInt_add]
    exact oh_bmod (by omega) (by omega)
  have e : (ta + x - su).toInt = ta.toInt + x.toInt - su.toInt := by
    rw [Int32.toInt_sub, e1]
    exact oh_bmod (by omega) (by omega)
  by_cases q : ta + x - su < 0
  · have q2 := Int32.lt_iff_toInt_lt.mp q
    rw [e, show (0 : Int32).toInt = 0 from rfl] at q2
    rw [if_pos q, if_pos q2]
    exact ⟨⟨by decide, by decide⟩, rfl⟩
  · have q2 := Int32.le_iff_toInt_le.mp (Int32.not_lt.mp q)
    rw [e, show (0 : Int32).toInt = 0 from rfl] at q2
    rw [if_neg q, if_neg (by omega)]
    exact ⟨⟨by omega, by omega⟩, e⟩
theorem aLoad_m {ax ta x y su : Int32} (ha : rg ax 2 12) (ht : rg ta 0 99) (hx : rg x 0 900) (hy : rg y 0 900) (hs : rg su 0 495) (c : x.toInt ≤ y.toInt) : (aLoad ax ta x su).toInt ≤ (aLoad ax ta y su).toInt := by
  have h1 := ha.1
  obtain ⟨a1, a2⟩ := wt_i ht hx hs
  obtain ⟨b1, b2⟩ := wt_i ht hy hs
  unfold aLoad
  rw [rnd_i a1 ha, rnd_i b1 ha, a2, b2]
  refine Int.ediv_le_ediv (by omega) ?_
  by_cases p : ta.toInt + x.toInt - su.toInt < 0
  · rw [if_pos p]
    by_cases q : ta.toInt + y.toInt - su.toInt < 0
    · rw [if_pos q]
      omega
    · rw [if_neg q]
      omega
  · rw [if_neg p, if_neg (by omega)]
    omega
theorem aLoad_r {ax ta x su : Int32} (ha : rg ax 2 12) (ht : rg ta 0 99) (hx : rg x 0 900) (hs : rg su 0 495) : rg (aLoad ax ta x su) 0 1010 := by
  obtain ⟨a1, a2⟩ := wt_i ht hx hs
  have h1 := ha.1
  have h2 := ha.2
  have h3 := a1.1
  have h4 := a1.2
  unfold aLoad rg
  rw [rnd_i a1 ha]
  have b1 := Int.ediv_nonneg (a := (if ta + x - su < 0 then 0 else ta + x - su).toInt + ax.toInt - 1) (b := ax.toInt) (by omega) (by omega)
  have b2 := Int.ediv_le_self (a := (if ta + x - su < 0 then 0 else ta + x - su).toInt + ax.toInt - 1) ax.toInt (by omega)
  omega
noncomputable def stdA (A : LA) (w : Int32) (b : Nat) : Int32 := if cutBy (A 1 b 2) (A 2 w.toNatClampNeg 1) + 1 < A 2 w.toNatClampNeg 0 then cutBy (A 1 b 2) (A 2 w.toNatClampNeg 1) + 1 else A 2 w.toNatClampNeg 0
theorem stdA_r {A : LA} (h : okA A) {w : Int32} (h0 : rg w 0 4) (hl : w < A 5 0 2) {b : Nat} (hb : b < n1A A) : rg (stdA A w b) 0 61 := by
  obtain ⟨ha, hs, _⟩ := h.wg h0 hl
  have hv := (h.2.2.2.1 b (h.n1 hb)).2.2.1
  have hc : rg (cutBy (A 1 b 2) (A 2 w.toNatClampNeg 1)) 0 60 := by
    unfold cutBy
    rw [if_pos (Int32.lt_iff_toInt_lt.mpr (by have := hs.1; show (0 : Int) < _; omega))]
    exact rg_div2 hv hs.1 (by decide)
  unfold stdA
  by_cases q : cutBy (A 1 b 2) (A 2 w.toNatClampNeg 1) + 1 < A 2 w.toNatClampNeg 0
  · rw [if_pos q]
    exact rg_add hc (rg_c (v := 1) (lo := 1) (hi := 1) (by decide)) (by decide)
  · rw [if_neg q]
    exact rg_w ha (by decide)
theorem mul_m {k x y : Int32} (hk : rg k 0 61) (hx : rg x 0 1010) (hy : rg y 0 1010) (c : x.toInt ≤ y.toInt) : (k * x).toInt ≤ (k * y).toInt := by
  have a1 : 0 ≤ k.toInt * x.toInt := Int.mul_nonneg hk.1 hx.1
  have a2 : k.toInt * x.toInt ≤ 61 * 1010 := Int.mul_le_mul hk.2 hx.2 hx.1 (by decide)
  have b1 : 0 ≤ k.toInt * y.toInt := Int.mul_nonneg hk.1 hy.1
  have b2 : k.toInt * y.toInt ≤ 61 * 1010 := Int.mul_le_mul hk.2 hy.2 hy.1 (by decide)
  rw [Int32.toInt_mul, Int32.toInt_mul, oh_bmod (by omega) (by omega), oh_bmod (by omega) (by omega)]
  exact Int.mul_le_mul_of_nonneg_left c hk.1
theorem nd_w {A : LA} {v w s : Int32} {b : Nat} : ndA (setA A 0 v) w s b = ndG (bAxF (A 1 b 1) (A 1 b 3) (A 1 b 8) (A 1 b 9) (A 4 0 2)) (bAlF (A 1 b 7 = 1) (A 1 b 1) (A 1 b 4) (A 1 b 5) (A 1 b 8) (A 1 b 9) (A 4 0 2)) (bAlF True (A 1 b 1) (A 1 b 4) (A 1 b 5) (A 1 b 8) (A 1 b 9) (A 4 0 2)) (A 1 b 7) (A 1 b 1) (aLoad (A 2 w.toNatClampNeg 0) (A 2 w.toNatClampNeg 2) v (sumA A s 0 (A 5 0 3).toNatClampNeg)) (stdA A w b * aLoad (A 2 w.toNatClampNeg 0) (A 2 w.toNatClampNeg 2) v (sumA A s 0 (A 5 0 3).toNatClampNeg)) := by
  unfold ndA snA aL
  rw [sumA_set, set_o (t := 1) (by decide), set_o (t := 2) (by decide), set_o (t := 5) (by decide), show setA A 0 v 4 0 0 = v from if_pos ⟨rfl, rfl, rfl⟩, show setA A 0 v 4 0 2 = A 4 0 2 from if_neg (by decide)]
  rfl
/-- a way for a weight is one for each lesser -/
theorem hw_w {A : LA} (h : okA A) {x y w s n m : Int32} {f t : Nat} (h0 : rg w 0 4) (hl : w < A 5 0 2) (hx : rg x 0 900) (hy : rg y 0 900) (c : x.toInt ≤ y.toInt) (q : hasW (EcA (setA A 0 y) w s n) f t) : hasW (EcA (setA A 0 x) w s m) f t := by
  obtain ⟨ha, _, ht⟩ := h.wg h0 hl
  have hs := sumA_r h s (col := 0) (by decide)
  have e := aLoad_m ha ht hx hy hs c
  refine hw_set (fun b hb => ?_) q
  rw [nd_w, nd_w]
  exact ndG_m (Int32.le_refl _) (Int32.le_refl _) (Int32.le_refl _) (Int32.le_iff_toInt_le.mpr e) (Int32.le_iff_toInt_le.mpr (mul_m (stdA_r h h0 hl hb) (aLoad_r ha ht hx hs) (aLoad_r ha ht hy hs) e))
theorem absX_sk (k0 : Nat) {C u : Nat → va_E} {A : LA} {v : Int32} (h : absX 10 C A) (hf : ∀ k, 10 ≤ k → k ≤ 14 → u k = C k) (e0 : ga (u 15) k0 = v) (e1 : ∀ j, j ≠ k0 → ga (u 15) j = ga (C 15) j) : absX 10 u (setA A k0 v) := by
  refine absX_set h (show ga (u 15) = upd (ga (C 15)) k0 v from funext (fun j => ?_)) hf
  by_cases q : j = k0
  · rw [q, pk_us]
    exact e0
  · rw [pk_un q]
    exact e1 j q
theorem absM_sk (k0 : Nat) {a : Nat → Nat} {E : Nat → ClassId} {C u : Nat → va_E} {A : LA} {v : Int32} {mc : List (Nat × Nat)} {mf : List Nat} (h : absM C A) (hT : TyM a E C) (hf : fr mc mf C u) (e0 : ga (u 13) k0 = v) (e1 : ∀ j, j ≠ k0 → ga (u 13) j = ga (C 13) j) (hd1 : (mc.all (fun p => Nat.ble p.2 24 || Nat.ble 74 p.1)) = true) (hd2 : ((List.range 4).all (fun t => !(mf.contains (9 + 2 * t)))) = true) : absM u (setA A k0 v) := by
  refine absM_set h (fun s hs => congrArg vi (hf.2 _ ?_)) (fun j hj => ?_) (fun s hs i hi => hf.1 _ ?_ ?_)
  · have h2 := List.all_eq_true.mp hd2 s (List.mem_range.mpr hs)
    simpa using h2
  · by_cases q : j = k0
    · rw [if_pos q, q]
      exact e0
    · rw [if_neg q]
      exact e1 j q
  · have h1 := (cntM hT s hs).2
    have hb : 24 ≤ blk s + i ∧ blk s + i < 74 := by
      rcases (show s = 0 ∨ s = 1 ∨ s = 2 ∨ s = 3 by omega) with rfl | rfl | rfl | rfl <;> simp only [blk, blkN] at * <;> omega
    cases e : inR mc (blk s + i) with
    | false => rfl
    | true =>
      unfold inR at e
      rw [List.any_eq_true] at e
      obtain ⟨p, hp, h1⟩ := e
      rw [Bool.and_eq_true, Nat.ble_eq, Nat.blt_eq] at h1
      have h2 := List.all_eq_true.mp hd1 p hp
      rw [Bool.or_eq_true, Nat.ble_eq, Nat.ble_eq] at h2
      omega
  · have := blk_lo hs
    omega
theorem set_52 {A : LA} {k : Nat} {v w : Int32} (h : w < A 5 0 2) : w < setA A k v 5 0 2 := by
  rw [setA_5]
  exact h
