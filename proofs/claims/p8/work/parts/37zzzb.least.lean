/-! FULL: a land as it may be -/
theorem rg_mul2 {x y : Int32} {u v hi : Int} (hx : rg x 0 u) (hy : rg y 0 v) (h : decide (0 ≤ u ∧ 0 ≤ v ∧ u * v ≤ hi ∧ hi ≤ 2147483647) = true) : rg (x * y) 0 hi := by
  have h2 := of_decide_eq_true h
  have a1 : 0 ≤ x.toInt * y.toInt := Int.mul_nonneg hx.1 hy.1
  have a2 : x.toInt * y.toInt ≤ u * v := Int.mul_le_mul hx.2 hy.2 hy.1 h2.1
  unfold rg
  rw [Int32.toInt_mul, oh_bmod (by omega) (by omega)]
  omega
theorem rg_div2 {x y : Int32} {u hi : Int} (hx : rg x 0 u) (hy : 1 ≤ y.toInt) (h : decide (u ≤ hi ∧ hi ≤ 2147483647) = true) : rg (x / y) 0 hi := by
  have h2 := of_decide_eq_true h
  have e : x.toInt.tdiv y.toInt = x.toInt / y.toInt := Int.tdiv_eq_ediv_of_nonneg hx.1
  have a1 : 0 ≤ x.toInt / y.toInt := Int.ediv_nonneg hx.1 (by omega)
  have a2 : x.toInt / y.toInt ≤ x.toInt := Int.ediv_le_self _ hx.1
  have := hx.2
  unfold rg
  rw [Int32.toInt_div, e, oh_bmod (by omega) (by omega)]
  omega
def okVR (v : Nat → Int32) : Prop := rg (v 0) 0 15 ∧ rg (v 1) 0 15 ∧ rg (v 2) 1 60 ∧ rg (v 3) 0 9 ∧ rg (v 4) 1 99 ∧ rg (v 5) 0 15 ∧ rg (v 6) 0 1
def okVB (v : Nat → Int32) : Prop := rg (v 0) 0 23 ∧ rg (v 1) 0 5 ∧ rg (v 2) 0 60 ∧ rg (v 3) 1 99 ∧ rg (v 4) 1 999 ∧ rg (v 5) 0 999 ∧ rg (v 6) 0 999 ∧ rg (v 7) 0 1 ∧ rg (v 8) 0 1 ∧ rg (v 9) 0 1 ∧ (v 1 = 3 → v 7 = 0)
def okVW (v : Nat → Int32) : Prop := rg (v 0) 2 12 ∧ rg (v 1) 1 9 ∧ rg (v 2) 0 99
def okVP (v : Nat → Int32) : Prop := rg (v 0) 1 99 ∧ rg (v 1) 0 99
def okA (A : LA) : Prop := (rg (A 5 0 0) 0 24 ∧ rg (A 5 0 1) 0 16 ∧ rg (A 5 0 2) 0 5 ∧ rg (A 5 0 3) 0 5) ∧ (rg (A 4 0 0) 0 900 ∧ rg (A 4 0 1) 0 99 ∧ rg (A 4 0 2) 0 1) ∧ (∀ i : Nat, (i : Int) < (A 5 0 0).toInt → okVR (A 0 i)) ∧ (∀ i : Nat, (i : Int) < (A 5 0 1).toInt → okVB (A 1 i)) ∧ (∀ i : Nat, (i : Int) < (A 5 0 2).toInt → okVW (A 2 i)) ∧ (∀ i : Nat, (i : Int) < (A 5 0 3).toInt → okVP (A 3 i))
theorem okA.i {A : LA} (h : okA A) : okI A := fun b hb => (h.2.2.2.1 b hb).2.2.2.2.2.2.2.2.2.2
theorem okA.n0 {A : LA} (h : okA A) {r : Nat} (hr : r < n0A A) : (r : Int) < (A 5 0 0).toInt := by
  have := h.1.1.1
  have hr : r < (A 5 0 0).toInt.toNat := hr
  omega
theorem okA.n1 {A : LA} (h : okA A) {r : Nat} (hr : r < n1A A) : (r : Int) < (A 5 0 1).toInt := by
  have := h.1.2.1.1
  have hr : r < (A 5 0 1).toInt.toNat := hr
  omega
theorem okA.n16 {A : LA} (h : okA A) : n1A A ≤ 16 := by
  have := h.1.2.1.2
  show (A 5 0 1).toInt.toNat ≤ 16
  omega
theorem okA.wg {A : LA} (h : okA A) {w : Int32} (h0 : rg w 0 4) (hl : w < A 5 0 2) : okVW (A 2 w.toNatClampNeg) := h.2.2.2.2.1 _ (by rw [oh_nat h0 (by decide)]; exact Int32.lt_iff_toInt_lt.mp hl)
theorem sumA_b {A : LA} (h : okA A) {s : Int32} {col : Nat} (hc : col < 2) : ∀ k : Nat, k ≤ (A 5 0 3).toInt.toNat → rg (sumA A s col k) 0 (99 * k) := by
  intro k
  induction k with
  | zero =>
    intro _
    exact ⟨by show (0 : Int) ≤ (0 : Int32).toInt; decide, by show (0 : Int32).toInt ≤ _; have : (0 : Int32).toInt = 0 := rfl; omega⟩
  | succ k ih =>
    intro hk
    have h1 := ih (by omega)
    have h5 := h.1.2.2.2
    have h0 := h5.2
    have hp := h.2.2.2.2.2 k (by have := h5.1; omega)
    have hv : rg (pif ((s >>> (Int32.ofNat k &&& 31)) &&& 1 = 0) 0 (A 3 k col)) 0 99 := by
      by_cases q : (s >>> (Int32.ofNat k &&& 31)) &&& 1 = 0
      · rw [pif_pos q]
        exact ⟨by decide, by decide⟩
      · rw [pif_neg q]
        rcases (show col = 0 ∨ col = 1 by omega) with rfl | rfl
        · exact ⟨by have := hp.1.1; omega, hp.1.2⟩
        · exact hp.2
    have e : (sumA A s col k + pif ((s >>> (Int32.ofNat k &&& 31)) &&& 1 = 0) 0 (A 3 k col)).toInt = (sumA A s col k).toInt + (pif ((s >>> (Int32.ofNat k &&& 31)) &&& 1 = 0) 0 (A 3 k col)).toInt := by
      rw [Int32.toInt_add]
      exact oh_bmod (by have := h1.1; have := hv.1; omega) (by have := h1.2; have := hv.2; omega)
    show rg (sumA A s col k + pif ((s >>> (Int32.ofNat k &&& 31)) &&& 1 = 0) 0 (A 3 k col)) 0 _
    unfold rg
    rw [e]
    have := h1.1
    have := h1.2
    have := hv.1
    have := hv.2
    omega
theorem sumA_r {A : LA} (h : okA A) (s : Int32) {col : Nat} (hc : col < 2) : rg (sumA A s col (A 5 0 3).toNatClampNeg) 0 495 := by
  have h1 := sumA_b h (s := s) hc (A 5 0 3).toNatClampNeg (Nat.le_refl _)
  have h5 := h.1.2.2.2
  have e := oh_nat h5 (by decide)
  exact ⟨h1.1, by have := h1.2; have := h5.2; omega⟩
theorem aL_b {A : LA} (h : okA A) {w : Int32} (s : Int32) (h0 : rg w 0 4) (hl : w < A 5 0 2) : rg (aL A w s) 0 1010 := by
  obtain ⟨ha, _, ht⟩ := h.wg h0 hl
  have hs := sumA_r h s (col := 0) (by decide)
  have hw := h.2.1.1
  have hd : rg (A 2 w.toNatClampNeg 2 + A 4 0 0 - sumA A s 0 (A 5 0 3).toNatClampNeg) (-495) 999 := rg_sub (rg_add ht hw (lo := 0) (hi := 999) (by decide)) hs (by decide)
  have hm : rg (if A 2 w.toNatClampNeg 2 + A 4 0 0 - sumA A s 0 (A 5 0 3).toNatClampNeg < 0 then 0 else A 2 w.toNatClampNeg 2 + A 4 0 0 - sumA A s 0 (A 5 0 3).toNatClampNeg) 0 999 := by
    by_cases q : A 2 w.toNatClampNeg 2 + A 4 0 0 - sumA A s 0 (A 5 0 3).toNatClampNeg < 0
    · rw [if_pos q]
      exact ⟨by decide, by decide⟩
    · rw [if_neg q]
      have q2 := Int32.le_iff_toInt_le.mp (Int32.not_lt.mp q)
      exact ⟨q2, hd.2⟩
  have hp : (0 : Int32) < A 2 w.toNatClampNeg 0 := Int32.lt_iff_toInt_lt.mpr (by have := ha.1; show (0 : Int) < _; omega)
  unfold aL aLoad rndUp
  rw [if_pos hp]
  exact rg_div2 (rg_sub (rg_add hm ha (lo := 2) (hi := 1011) (by decide)) (rg_c (v := 1) (lo := 1) (hi := 1) (by decide)) (lo := 0) (hi := 1010) (by decide)) (by have := ha.1; omega) (by decide)
theorem rg_d100 {x : Int32} {u hi : Int} (hx : rg x 0 u) (h : decide (0 ≤ u ∧ u / 100 ≤ hi ∧ hi ≤ 2147483647) = true) : rg (x / 100) 0 hi := by
  have h2 := of_decide_eq_true h
  have e : x.toInt.tdiv (100 : Int32).toInt = x.toInt / 100 := Int.tdiv_eq_ediv_of_nonneg hx.1
  have a := hx.1
  have b := hx.2
  unfold rg
  rw [Int32.toInt_div, e, oh_bmod (by omega) (by omega)]
  omega
theorem engA_b {A : LA} (h : okA A) {w : Int32} (s : Int32) (h0 : rg w 0 4) (hl : w < A 5 0 2) {r : Nat} (hr : r < n0A A) : rg (engA A w s r) 0 91 := by
  have h3 := (h.2.2.1 r (h.n0 hr)).2.2.2.1
  exact rg_add (rg_c (v := 1) (lo := 1) (hi := 1) (by decide)) (rg_d100 (rg_mul2 h3 (aL_b h s h0 hl) (hi := 9090) (by decide)) (hi := 90) (by decide)) (by decide)
theorem pqA_b {A : LA} (h : okA A) (w s : Int32) (r : Nat) : rg (pqA A w s r) 0 15984 := by
  have h1 : rg (pqA A w s r) 0 ((n1A A : Int) * 999) := pcU_b (rd := rdA A) (nd := ndA A w s) (v := fun b => A 1 b 6) (r := r) (m := 999) (by decide) (by decide) (n1A A) h.n16 (fun b hb => (h.2.2.2.1 b (h.n1 hb)).2.2.2.2.2.2.1)
  exact ⟨h1.1, by have := h1.2; have := h.n16; omega⟩
theorem coA_b {A : LA} (h : okA A) {w n : Int32} (s : Int32) (h0 : rg w 0 4) (hl : w < A 5 0 2) (hn : rg n 0 20) {r : Nat} (hr : r < n0A A) : rg (coA A w s n r) 0 60000000 := by
  have hr2 := h.2.2.1 r (h.n0 hr)
  have h2 : rg (A 0 r 2) 0 60 := ⟨by have := hr2.2.2.1.1; omega, hr2.2.2.1.2⟩
  exact rg_add (rg_mul2 (rg_mul2 (rg_mul2 hn h.2.1.2.1 (hi := 1980) (by decide)) h2 (hi := 118800) (by decide)) (engA_b h s h0 hl hr) (hi := 10810800) (by decide)) (pqA_b h w s r) (by decide)
theorem dyA_b {A : LA} (h : okA A) (w s : Int32) {r : Nat} (hr : r < n0A A) : rg (dyA A w s r) 0 60000000 := by
  have hr2 := h.2.2.1 r (h.n0 hr)
  have h2 : rg (A 0 r 2) 0 60 := ⟨by have := hr2.2.2.1.1; omega, hr2.2.2.1.2⟩
  have hp : rg (pcA A w s r) 0 16 := pc1_b h.n16
  have hu : rg (rndUp (A 0 r 2) 10) 0 69 := by
    unfold rndUp
    rw [if_pos (by decide)]
    exact rg_div2 (rg_sub (rg_add h2 (rg_c (v := 10) (lo := 10) (hi := 10) (by decide)) (lo := 10) (hi := 70) (by decide)) (rg_c (v := 1) (lo := 1) (hi := 1) (by decide)) (lo := 0) (hi := 69) (by decide)) (by decide) (by decide)
  exact rg_add hu (rg_mul2 (rg_c (v := 3) (lo := 0) (hi := 3) (by decide)) hp (hi := 48) (by decide)) (by decide)
/-- the roads for a pack and n loads; by days -/
def aA (A : LA) (r : Nat) : Nat := (A 0 r 0).toNatClampNeg
def bA (A : LA) (r : Nat) : Nat := (A 0 r 1).toNatClampNeg
noncomputable def cA (A : LA) (w s n : Int32) (r : Nat) : Nat := (coA A w s n r).toNatClampNeg
noncomputable def dA (A : LA) (w s : Int32) (r : Nat) : Nat := (dyA A w s r).toNatClampNeg
def EcA (A : LA) (w s n : Int32) : Ed := EdR (n0A A) (aA A) (bA A) (gsA A w s) (cA A w s n)
def EdyA (A : LA) (w s : Int32) : Ed := EdR (n0A A) (aA A) (bA A) (gsA A w s) (dA A w s)
theorem abA {A : LA} (h : okA A) : ∀ r, r < n0A A → aA A r < 16 ∧ bA A r < 16 := by
  intro r hr
  obtain ⟨h0, h1, _⟩ := h.2.2.1 r (h.n0 hr)
  exact ⟨p16 h0, p16 h1⟩
theorem gx_c {C : Nat → va_E} {A : LA} {w s n : Int32} (hA : absX 10 C A) (h : okA A) (h0 : rg w 0 4) (hl : w < A 5 0 2) (hn : rg n 0 20) (hs : svX C A w s) (hp : ∀ r : Nat, r < n0A A → gsA A w s r → ga (C 26) r = coA A w s n r) : GX C (n0A A) (aA A) (bA A) (gsA A w s) (cA A w s n) := by
  have e0 := oh_nat h.1.1 (by decide)
  refine ⟨by rw [show ga (C 10) 0 = A 5 0 0 from hA.1 0 (by decide)]; exact e0, by have := h.1.1.2; show (A 5 0 0).toInt.toNat ≤ 24; omega, fun r hr => ?_⟩
  obtain ⟨k0, k1, _⟩ := h.2.2.1 r (h.n0 hr)
  have hb := coA_b h s h0 hl hn hr
  refine ⟨⟨?_, ?_⟩, abA h r hr, ?_, fun hg => ⟨?_, ?_⟩⟩
  · rw [show ga (C 11) (r * 7 + 0) = A 0 r 0 from hA.2.2 0 (by decide) r (h.n0 hr) 0 (by decide) (by unfold vis; omega)]
    exact (oh_nat k0 (by decide)).symm
  · rw [show ga (C 11) (r * 7 + 1) = A 0 r 1 from hA.2.2 0 (by decide) r (h.n0 hr) 1 (by decide) (by unfold vis; omega)]
    exact (oh_nat k1 (by decide)).symm
  · have := sv_g hs.2 hr h.n16
    exact ⟨fun z q => (this.mp q) z, fun z => Classical.byContradiction (fun q => z (this.mpr q))⟩
  · rw [hp r hr hg]
    exact (oh_nat hb (by decide)).symm
  · have := oh_nat hb (by decide)
    have := hb.2
    show (coA A w s n r).toNatClampNeg ≤ 60000000
    omega
theorem gx_d {C : Nat → va_E} {A : LA} {w s : Int32} (hA : absX 10 C A) (h : okA A) (hs : svX C A w s) (hp : ∀ r : Nat, r < n0A A → gsA A w s r → ga (C 26) r = dyA A w s r) : GX C (n0A A) (aA A) (bA A) (gsA A w s) (dA A w s) := by
  have e0 := oh_nat h.1.1 (by decide)
  refine ⟨by rw [show ga (C 10) 0 = A 5 0 0 from hA.1 0 (by decide)]; exact e0, by have := h.1.1.2; show (A 5 0 0).toInt.toNat ≤ 24; omega, fun r hr => ?_⟩
  obtain ⟨k0, k1, _⟩ := h.2.2.1 r (h.n0 hr)
  have hb := dyA_b h w s hr
  refine ⟨⟨?_, ?_⟩, abA h r hr, ?_, fun hg => ⟨?_, ?_⟩⟩
  · rw [show ga (C 11) (r * 7 + 0) = A 0 r 0 from hA.2.2 0 (by decide) r (h.n0 hr) 0 (by decide) (by unfold vis; omega)]
    exact (oh_nat k0 (by decide)).symm
  · rw [show ga (C 11) (r * 7 + 1) = A 0 r 1 from hA.2.2 0 (by decide) r (h.n0 hr) 1 (by decide) (by unfold vis; omega)]
    exact (oh_nat k1 (by decide)).symm
  · have := sv_g hs.2 hr h.n16
    exact ⟨fun z q => (this.mp q) z, fun z => Classical.byContradiction (fun q => z (this.mpr q))⟩
  · rw [hp r hr hg]
    exact (oh_nat hb (by decide)).symm
  · have := oh_nat hb (by decide)
    have := hb.2
    show (dyA A w s r).toNatClampNeg ≤ 60000000
    omega

/-! FULL: least sums as numbers; the first road -/
def hasW (E : Ed) (s p : Nat) : Prop := ∃ d, Ls E s p d
noncomputable def lsN (E : Ed) (s p : Nat) : Nat := Classical.epsilon (fun d => Ls E s p d)
theorem lsN_s {E : Ed} {s p : Nat} (h : hasW E s p) : Ls E s p (lsN E s p) := Classical.epsilon_spec h
theorem lsN_eq {E : Ed} {s p d : Nat} (h : Ls E s p d) : lsN E s p = d := ls_eq (lsN_s ⟨d, h⟩) h
theorem hasW_rev {E : Ed} (hS : ∀ u v e, E u v e → E v u e) {s p : Nat} (h : hasW E s p) : hasW E p s := by
  obtain ⟨d, hd⟩ := h
  exact ⟨d, ls_rev hS hd⟩
theorem hasW_sym {E : Ed} (hS : ∀ u v e, E u v e → E v u e) {s p : Nat} : hasW E s p = hasW E p s := propext ⟨hasW_rev hS, hasW_rev hS⟩
theorem lsN_sym {E : Ed} (hS : ∀ u v e, E u v e → E v u e) {s p : Nat} : lsN E s p = lsN E p s := by
  by_cases h : hasW E s p
  · exact (lsN_eq (ls_rev hS (lsN_s h))).symm
  · unfold lsN
    rw [show (fun d => Ls E s p d) = (fun d => Ls E p s d) from funext (fun d => propext ⟨fun z => absurd ⟨d, z⟩ h, fun z => absurd (hasW_rev hS ⟨d, z⟩) h⟩)]
theorem dn_y {E : Ed} {s I p : Nat} {f : Nat → Nat} (h : Dn E s I f) (hp : p < 16) (q : hasW E s p) : f p = lsN E s p := (h p hp).1 _ (lsN_s q)
theorem dn_n {E : Ed} {s I p : Nat} {f : Nat → Nat} (h : Dn E s I f) (hp : p < 16) (q : ¬ hasW E s p) : f p = I := (h p hp).2 (fun d hd => q ⟨d, hd⟩)
theorem dn_i {E : Ed} {s I p : Nat} {f : Nat → Nat} (h : Dn E s I f) (hI : ∀ p d, p < 16 → Ls E s p d → d < I) (hp : p < 16) : f p = I ↔ ¬ hasW E s p := by
  constructor
  · intro e q
    have h1 := dn_y h hp q
    have h2 := hI p _ hp (lsN_s q)
    omega
  · exact dn_n h hp
theorem ec_fin {A : LA} (h : okA A) {w n : Int32} (s : Int32) (h0 : rg w 0 4) (hl : w < A 5 0 2) (hn : rg n 0 20) {p : Nat} (hp : p < 16) : ∀ q d, q < 16 → Ls (EcA A w s n) p q d → d ≤ 900000000 := by
  refine ls_bnd (M := 60000000) (edR_M (abA h) (fun r hr _ => ?_)) hp
  have hb := coA_b h s h0 hl hn hr
  have := oh_nat hb (by decide)
  have := hb.2
  show (coA A w s n r).toNatClampNeg ≤ 60000000
  omega
theorem ed_fin {A : LA} (h : okA A) (w s : Int32) {p : Nat} (hp : p < 16) : ∀ q d, q < 16 → Ls (EdyA A w s) p q d → d ≤ 900000000 := by
  refine ls_bnd (M := 60000000) (edR_M (abA h) (fun r hr _ => ?_)) hp
  have hb := dyA_b h w s hr
  have := oh_nat hb (by decide)
  have := hb.2
  show (dyA A w s r).toNatClampNeg ≤ 60000000
  omega
/-- what leastCoin answers -/
noncomputable def lcA (A : LA) (w s f t n : Int32) : Int32 := pif (hasW (EcA A w s n) f.toNatClampNeg t.toNatClampNeg) (Int32.ofNat (lsN (EcA A w s n) f.toNatClampNeg t.toNatClampNeg) + n * sumA A s 1 (A 5 0 3).toNatClampNeg) 1000000000
noncomputable def ldA (A : LA) (w s f t : Int32) : Int32 := pif (hasW (EdyA A w s) f.toNatClampNeg t.toNatClampNeg) (Int32.ofNat (lsN (EdyA A w s) f.toNatClampNeg t.toNatClampNeg)) 1000000000
theorem fX_i {E : Ed} {s p : Nat} {h : Nat → Int32} (D : Dn E s 1000000000 (fN h)) (hF : ∀ q d, q < 16 → Ls E s q d → d ≤ 900000000) (hp : p < 16) : h p = 1000000000 ↔ ¬ hasW E s p := by
  rw [← dn_i D (fun q d hq hd => Nat.lt_of_le_of_lt (hF q d hq hd) (by decide)) hp]
  constructor
  · intro e
    show (h p).toNatClampNeg = _
    rw [e]
    rfl
  · intro e
    have e : (h p).toInt.toNat = 1000000000 := e
    exact Int32.toInt_inj.mp (show (h p).toInt = 1000000000 by omega)
theorem fX_y {E : Ed} {s p : Nat} {h : Nat → Int32} (hn : nnF h) (D : Dn E s 1000000000 (fN h)) (hF : ∀ q d, q < 16 → Ls E s q d → d ≤ 900000000) (hp : p < 16) (q : hasW E s p) : (h p).toInt = (lsN E s p : Int) ∧ lsN E s p ≤ 900000000 := by
  have e := dn_y D hp q
  have i := fN_i hn hp
  exact ⟨by omega, hF p _ hp (lsN_s q)⟩
theorem lc_y {A : LA} {w s f t n v c : Int32} {h : Nat → Int32} (hn : nnF h) (D : Dn (EcA A w s n) f.toNatClampNeg 1000000000 (fN h)) (hF : ∀ q d, q < 16 → Ls (EcA A w s n) f.toNatClampNeg q d → d ≤ 900000000) (ht : rg t 0 15) (c1 : ¬ h t.toNatClampNeg = 1000000000) (e : v = h t.toNatClampNeg) (ec : c = sumA A s 1 (A 5 0 3).toNatClampNeg) : v + n * c = lcA A w s f t n := by
  have q : hasW (EcA A w s n) f.toNatClampNeg t.toNatClampNeg := Classical.byContradiction (fun z => c1 ((fX_i D hF (p16 ht)).mpr z))
  obtain ⟨h1, h2⟩ := fX_y hn D hF (p16 ht) q
  unfold lcA
  rw [pif_pos q, e, ec]
  refine congrArg (fun z => z + _) (Int32.toInt_inj.mp ?_)
  rw [h1]
  exact (nI_toInt (by omega)).symm
theorem lc_n {A : LA} {w s f t n : Int32} {h : Nat → Int32} (D : Dn (EcA A w s n) f.toNatClampNeg 1000000000 (fN h)) (hF : ∀ q d, q < 16 → Ls (EcA A w s n) f.toNatClampNeg q d → d ≤ 900000000) (ht : rg t 0 15) (c1 : h t.toNatClampNeg = 1000000000) : (1000000000 : Int32) = lcA A w s f t n := (pif_neg ((fX_i D hF (p16 ht)).mp c1)).symm
theorem ld_e {A : LA} {w s f t : Int32} {h : Nat → Int32} (hn : nnF h) (D : Dn (EdyA A w s) f.toNatClampNeg 1000000000 (fN h)) (hF : ∀ q d, q < 16 → Ls (EdyA A w s) f.toNatClampNeg q d → d ≤ 900000000) (ht : rg t 0 15) : h t.toNatClampNeg = ldA A w s f t := by
  unfold ldA
  by_cases q : hasW (EdyA A w s) f.toNatClampNeg t.toNatClampNeg
  · obtain ⟨h1, h2⟩ := fX_y hn D hF (p16 ht) q
    rw [pif_pos q]
    refine Int32.toInt_inj.mp ?_
    rw [h1]
    exact (nI_toInt (by omega)).symm
  · rw [pif_neg q]
    exact (fX_i D hF (p16 ht)).mpr q
/-- a road that begins a cheapest way -/
def fqA (A : LA) (w s f t : Int32) (r : Nat) : Prop := gsA A w s r ∧ (aA A r = f.toNatClampNeg ∨ bA A r = f.toNatClampNeg) ∧ hasW (EcA A w s 1) t.toNatClampNeg (if aA A r = f.toNatClampNeg then bA A r else aA A r) ∧ lsN (EcA A w s 1) t.toNatClampNeg (if aA A r = f.toNatClampNeg then bA A r else aA A r) + cA A w s 1 r = lsN (EcA A w s 1) t.toNatClampNeg f.toNatClampNeg
/-- the least of them -/
def frA (A : LA) (w s f t r : Int32) : Prop := (r = -1 ∧ ∀ i, i < n0A A → ¬ fqA A w s f t i) ∨ (∃ i, i < n0A A ∧ r = Int32.ofNat i ∧ fqA A w s f t i ∧ ∀ k, k < i → ¬ fqA A w s f t k)
theorem frA_u {A : LA} (h : okA A) {w s f t r x : Int32} (h1 : frA A w s f t r) (h2 : frA A w s f t x) : r = x := by
  rcases h1 with ⟨e1, g1⟩ | ⟨i, li, e1, q1, m1⟩ <;> rcases h2 with ⟨e2, g2⟩ | ⟨j, lj, e2, q2, m2⟩
  · rw [e1, e2]
  · exact absurd q2 (g1 j lj)
  · exact absurd q1 (g2 i li)
  · have : i = j := by
      rcases Nat.lt_trichotomy i j with q | q | q
      · exact absurd q1 (m2 i q)
      · exact q
      · exact absurd q2 (m1 j q)
    rw [e1, e2, this]
/-- the other end of a road, as the class tells it -/
noncomputable def oeF (x y p : Int32) : Int32 := pif (x = p) y (pif (y = p) x (-1))
theorem fq_s {f : Nat → Prop} {z : Int32} (hz : rg z 0 23) (h : ∀ i : Nat, (i : Int) < z.toInt → ¬ f i) (hn : ¬ f z.toNatClampNeg) : ∀ i : Nat, (i : Int) < (z + 1).toInt → ¬ f i := by
  intro i hi
  rw [oh_inc24 ⟨hz.1, by have := hz.2; omega⟩] at hi
  have ez := oh_nat hz (by decide)
  by_cases q : i = z.toNatClampNeg
  · rw [q]
    exact hn
  · exact h i (by omega)
theorem i32N {x y : Int32} (hx : rg x 0 15) (hy : rg y 0 15) : x = y ↔ x.toNatClampNeg = y.toNatClampNeg := by
  constructor
  · intro e
    rw [e]
  · intro e
    have a := oh_nat hx (by decide)
    have b := oh_nat hy (by decide)
    exact Int32.toInt_inj.mp (by omega)
theorem rg_n1 {x : Int32} (hx : rg x 0 15) : ¬ x = -1 := by
  intro e
  rw [e] at hx
  exact absurd hx.1 (by decide)
theorem oe_1 {A : LA} (h : okA A) {r : Nat} {f nx : Int32} (hr : r < n0A A) (hf : rg f 0 15) (e : nx = oeF (A 0 r 0) (A 0 r 1) f) : (nx = -1 ↔ ¬ (aA A r = f.toNatClampNeg ∨ bA A r = f.toNatClampNeg)) ∧ (¬ nx = -1 → rg nx 0 15 ∧ nx.toNatClampNeg = if aA A r = f.toNatClampNeg then bA A r else aA A r) := by
  obtain ⟨h0, h1, _⟩ := h.2.2.1 r (h.n0 hr)
  by_cases q : A 0 r 0 = f
  · have e1 : nx = A 0 r 1 := Eq.trans e (pif_pos q)
    have q2 : aA A r = f.toNatClampNeg := (i32N h0 hf).mp q
    refine ⟨⟨fun z => absurd (e1.symm.trans z) (rg_n1 h1), fun z => absurd (Or.inl q2) z⟩, fun _ => ⟨by rw [e1]; exact h1, ?_⟩⟩
    rw [if_pos q2, e1]
    rfl
  · have q2 : ¬ aA A r = f.toNatClampNeg := fun z => q ((i32N h0 hf).mpr z)
    by_cases p : A 0 r 1 = f
    · have e1 : nx = A 0 r 0 := Eq.trans e (Eq.trans (pif_neg q) (pif_pos p))
      have p2 : bA A r = f.toNatClampNeg := (i32N h1 hf).mp p
      refine ⟨⟨fun z => absurd (e1.symm.trans z) (rg_n1 h0), fun z => absurd (Or.inr p2) z⟩, fun _ => ⟨by rw [e1]; exact h0, ?_⟩⟩
      rw [if_neg q2, e1]
      rfl
    · have e1 : nx = -1 := Eq.trans e (Eq.trans (pif_neg q) (pif_neg p))
      have p2 : ¬ bA A r = f.toNatClampNeg := fun z => p ((i32N h1 hf).mpr z)
      exact ⟨⟨fun _ z => z.elim q2 p2, fun _ => e1⟩, fun z => absurd e1 z⟩
theorem fq_i {A : LA} (hk : okA A) {w s f t nx p : Int32} {r : Nat} {h : Nat → Int32} (h0 : rg w 0 4) (hl : w < A 5 0 2) (hf : rg f 0 15) (ht : rg t 0 15) (hn : nnF h) (D : Dn (EcA A w s 1) t.toNatClampNeg 1000000000 (fN h)) (hr : r < n0A A) (hg : gsA A w s r) (hp : p = coA A w s 1 r) (e : nx = oeF (A 0 r 0) (A 0 r 1) f) (hx : ¬ nx = -1) : (¬ h nx.toNatClampNeg = 1000000000 ∧ h nx.toNatClampNeg + p = h f.toNatClampNeg) ↔ fqA A w s f t r := by
  have hF := ec_fin hk s h0 hl (n := 1) ⟨by decide, by decide⟩ (p16 ht)
  obtain ⟨o1, o2⟩ := oe_1 hk hr hf e
  obtain ⟨rx, ex⟩ := o2 hx
  have hor : aA A r = f.toNatClampNeg ∨ bA A r = f.toNatClampNeg := Classical.byContradiction (fun z => hx (o1.mpr z))
  have hb := coA_b hk s h0 hl (n := 1) ⟨by decide, by decide⟩ hr
  have hc : (coA A w s 1 r).toInt = (cA A w s 1 r : Int) := (oh_nat hb (by decide)).symm
  have hw : hasW (EcA A w s 1) t.toNatClampNeg nx.toNatClampNeg → hasW (EcA A w s 1) t.toNatClampNeg f.toNatClampNeg := by
    intro q
    have q2 := (lsN_s q).1
    have ed : EcA A w s 1 nx.toNatClampNeg f.toNatClampNeg (cA A w s 1 r) := by
      refine ⟨r, hr, hg, ?_, rfl⟩
      rw [ex]
      by_cases z : aA A r = f.toNatClampNeg
      · rw [if_pos z]
        exact Or.inr ⟨z, rfl⟩
      · rw [if_neg z]
        exact Or.inl ⟨rfl, hor.resolve_left z⟩
    obtain ⟨d, hd⟩ := ls_ex _ (rch_s q2 ed)
    exact ⟨d, hd⟩
  constructor
  · rintro ⟨c1, c2⟩
    have q : hasW (EcA A w s 1) t.toNatClampNeg nx.toNatClampNeg := Classical.byContradiction (fun z => c1 ((fX_i D hF (p16 rx)).mpr z))
    obtain ⟨a1, a2⟩ := fX_y hn D hF (p16 rx) q
    obtain ⟨b1, b2⟩ := fX_y hn D hF (p16 hf) (hw q)
    have c3 := congrArg Int32.toInt c2
    rw [hp, Int32.toInt_add, hc, a1, b1, oh_bmod (by omega) (by have := hb.2; omega)] at c3
    refine ⟨hg, hor, by rw [← ex]; exact q, ?_⟩
    rw [← ex]
    omega
  · intro q
    obtain ⟨_, _, q1, q2⟩ := q
    rw [← ex] at q1 q2
    obtain ⟨a1, a2⟩ := fX_y hn D hF (p16 rx) q1
    obtain ⟨b1, b2⟩ := fX_y hn D hF (p16 hf) (hw q1)
    refine ⟨fun z => (fX_i D hF (p16 rx)).mp z q1, Int32.toInt_inj.mp ?_⟩
    rw [hp, Int32.toInt_add, hc, a1, b1, oh_bmod (by omega) (by have := hb.2; omega)]
    omega

set_option maxHeartbeats 4000000 in
set_option maxRecDepth 100000 in
theorem e_X5_otherEnd (l : Launch) (D : va_G) (E : Nat → ClassId) (G : Nat → Nat) (a : Nat → Nat) (C : Nat → va_E) (hT : TyX a E C) (x1 : Int32) (x2 : Int32) (hx1 : rg x1 0 23) : Met l yX5_otherEnd (oh_w yX5_otherEnd cX5_otherEnd 3 (some .int)) ({ frames := 1, cells := 0, slots := 0, locals := 22 }) (oh_Pp D E G [.ref (a 3), .int x1, .int x2] (oh_W 35 a C)) (vp_Si (fun r => rg r (-1) 15 ∧ (r = oeF (ga (C 11) ((x1 * 7) + 0).toNatClampNeg) (ga (C 11) ((x1 * 7) + 1).toNatClampNeg) x2))) 0 0 (fun _ => False) := by
  refine Met.ofW (cc := cX5_otherEnd) (maxL := 3) (ret := (some .int)) (by decide) rfl ?_
  intro p e s m args below meth c s₁ B hml hv
  obtain ⟨rfl, hP, hK, hG⟩ := hv
  have hx := B.exec
  have hb := B.bytes
  have hr := B.returns
  have hts := atoms_spec (ws := (oh_w yX5_otherEnd cX5_otherEnd 3 (some .int))) B.pre
  have htg : ∀ w ∈ oh_t, w.before _ s = true := fun w h => hts w (List.mem_cons_of_mem _ h)
  have hown : s.vm.findClass RX5 = some m.cls := findClass_of_methodNamed B.named
  have hlocks := B.notSynchronized
  have hT0 := hT
  have hS : va_S (fun _ => False) s.heap s.heap [] := va_S.rf
  have hl := lv_entry ([.ref (a 3), .int x1, .int x2]) (n := 3) (Nat.le_of_ble_eq_true rfl)
  rw [lg_entry_eq]
  generalize (lg_sl ([.ref (a 3), .int x1, .int x2]) ++ List.replicate (3 - (lg_sl ([.ref (a 3), .int x1, .int x2])).length) Slot.unset).toArray = ls at hl ⊢
  have hl : lv_has ls 3 [(0, .ref (a 3)), (1, .int x1), (2, .int x2)] := hl
  refine oh_genQ (fun Q hQ => ?_)
  refine lv_aload_n hx hb dX5_otherEnd_0 rfl (lv_at hl 0 rfl) ?_
  refine va_get (D := D) (ci := 5) (v := .ref (a 1)) (C := RX5) (T := TX5) (N := 7) hx hb htg ig_5 hown hK hP 3 (oh_wg (by decide) (sX_3 hT)) rfl 0 (by decide) (htg _ q_167) (fun _ h9 => h9) rfl dX5_otherEnd_1 ?_
  refine lv_iload_n hx hb dX5_otherEnd_4 rfl (lv_at hl 1 rfl) ?_
  refine lv_iconst (v := 0) hx hb dX5_otherEnd_5 (by decide) ?_
  refine tq_V (As := [.int x1, .int 0]) (rest := []) (ws := (oh_W 35 a C)) ⟨hx, hb, hml, hown, htg⟩ (c_X0_ofRoad l D E G a C hT x1 (0 : Int32) (rg_w hx1 (by decide)) (rg_w (rg_c (v := 0) (lo := 0) (hi := 0) (by decide)) (by decide))) (cwV 2 htg (oh_gV q_755 q_480 q_481 q_67 q_482) rfl rfl rfl pdVX0_ofRoad ⟨Nat.le_of_ble_eq_true rfl, Nat.le_of_ble_eq_true rfl⟩) hK hP hG hS (va_recv hK hP (ci := 0) (q0 := 1) rfl (oh_wg (by decide) (sX_1 hT))) rfl hl.1 rfl (Nat.le_of_ble_eq_true rfl) dX5_otherEnd_6 ⟨Nat.le_of_ble_eq_true rfl, Nat.le_of_ble_eq_true rfl⟩ (fun r_1 hq_2 => ?_)
  subst hq_2
  refine lv_iload_n hx hb dX5_otherEnd_9 rfl (lv_at hl 2 rfl) ?_
  refine lv_icmp_ne (tgt := 23) hx hb dX5_otherEnd_10 (by decide) (fun (c_3 : ¬ ((ga (C 11) ((x1 * 7) + 0).toNatClampNeg) = x2)) => ?_) (fun (c_3 : (ga (C 11) ((x1 * 7) + 0).toNatClampNeg) = x2) => ?_)
  · refine lv_aload_n hx hb dX5_otherEnd_23 rfl (lv_at hl 0 rfl) ?_
    refine va_get (D := D) (ci := 5) (v := .ref (a 1)) (C := RX5) (T := TX5) (N := 7) hx hb htg ig_5 hown hK hP 3 (oh_wg (by decide) (sX_3 hT)) rfl 0 (by decide) (htg _ q_167) (fun _ h9 => h9) rfl dX5_otherEnd_24 ?_
    refine lv_iload_n hx hb dX5_otherEnd_27 rfl (lv_at hl 1 rfl) ?_
    refine lv_iconst (v := 1) hx hb dX5_otherEnd_28 (by decide) ?_
    refine tq_V (As := [.int x1, .int 1]) (rest := []) (ws := (oh_W 35 a C)) ⟨hx, hb, hml, hown, htg⟩ (c_X0_ofRoad l D E G a C hT x1 (1 : Int32) (rg_w hx1 (by decide)) (rg_w (rg_c (v := 1) (lo := 1) (hi := 1) (by decide)) (by decide))) (cwV 2 htg (oh_gV q_755 q_480 q_481 q_67 q_482) rfl rfl rfl pdVX0_ofRoad ⟨Nat.le_of_ble_eq_true rfl, Nat.le_of_ble_eq_true rfl⟩) hK hP hG hS (va_recv hK hP (ci := 0) (q0 := 1) rfl (oh_wg (by decide) (sX_1 hT))) rfl hl.1 rfl (Nat.le_of_ble_eq_true rfl) dX5_otherEnd_29 ⟨Nat.le_of_ble_eq_true rfl, Nat.le_of_ble_eq_true rfl⟩ (fun r_4 hq_5 => ?_)
    subst hq_5
    refine lv_iload_n hx hb dX5_otherEnd_32 rfl (lv_at hl 2 rfl) ?_
    refine lv_icmp_ne (tgt := 48) hx hb dX5_otherEnd_33 (by decide) (fun (c_6 : ¬ ((ga (C 11) ((x1 * 7) + 1).toNatClampNeg) = x2)) => ?_) (fun (c_6 : (ga (C 11) ((x1 * 7) + 1).toNatClampNeg) = x2) => ?_)
    · refine lv_iconst (v := (-1)) hx hb dX5_otherEnd_48 (by decide) ?_
      rw [hQ]
      exact W.iret (v := (-1)) hx hb hr (fun t ht hW => ⟨(-1), rfl, ⟨(rg_w (rg_c (v := (-1)) (lo := (-1)) (hi := (-1)) (by decide)) (by decide)), ((Eq.trans (pif_neg c_3) (pif_neg c_6))).symm⟩, ht⟩) (fun q h => by cases h) dX5_otherEnd_49
    · refine lv_aload_n hx hb dX5_otherEnd_36 rfl (lv_at hl 0 rfl) ?_
      refine va_get (D := D) (ci := 5) (v := .ref (a 1)) (C := RX5) (T := TX5) (N := 7) hx hb htg ig_5 hown hK hP 3 (oh_wg (by decide) (sX_3 hT)) rfl 0 (by decide) (htg _ q_167) (fun _ h9 => h9) rfl dX5_otherEnd_37 ?_
      refine lv_iload_n hx hb dX5_otherEnd_40 rfl (lv_at hl 1 rfl) ?_
      refine lv_iconst (v := 0) hx hb dX5_otherEnd_41 (by decide) ?_
      refine tq_V (As := [.int x1, .int 0]) (rest := []) (ws := (oh_W 35 a C)) ⟨hx, hb, hml, hown, htg⟩ (c_X0_ofRoad l D E G a C hT x1 (0 : Int32) (rg_w hx1 (by decide)) (rg_w (rg_c (v := 0) (lo := 0) (hi := 0) (by decide)) (by decide))) (cwV 2 htg (oh_gV q_755 q_480 q_481 q_67 q_482) rfl rfl rfl pdVX0_ofRoad ⟨Nat.le_of_ble_eq_true rfl, Nat.le_of_ble_eq_true rfl⟩) hK hP hG hS (va_recv hK hP (ci := 0) (q0 := 1) rfl (oh_wg (by decide) (sX_1 hT))) rfl hl.1 rfl (Nat.le_of_ble_eq_true rfl) dX5_otherEnd_42 ⟨Nat.le_of_ble_eq_true rfl, Nat.le_of_ble_eq_true rfl⟩ (fun r_7 hq_8 => ?_)
      subst hq_8
      refine lv_goto (tgt := 49) hx hb dX5_otherEnd_45 (by decide) ?_
      rw [hQ]
      exact W.iret (v := ga (C 11) ((x1 * 7) + 0).toNatClampNeg) hx hb hr (fun t ht hW => ⟨ga (C 11) ((x1 * 7) + 0).toNatClampNeg, rfl, ⟨(rg_w (tA_rdc (lo := 0) (hi := 15) (tX_11 hT0) (rg_in (rg_add (lo := 0) (hi := 161) (rg_mul (lo := 0) (hi := 161) hx1 (rg_c (v := 7) (lo := 7) (hi := 7) (by decide)) (by decide)) (rg_c (v := 0) (lo := 0) (hi := 0) (by decide)) (by decide)) (by decide)) (oh_col (W := 7) hx1 rfl (rg_c (v := 0) (lo := 0) (hi := 0) (by decide)) (by decide)) (by decide)) (by decide)), ((Eq.trans (pif_neg c_3) (pif_pos c_6))).symm⟩, ht⟩) (fun q h => by cases h) dX5_otherEnd_49
  · refine lv_aload_n hx hb dX5_otherEnd_13 rfl (lv_at hl 0 rfl) ?_
    refine va_get (D := D) (ci := 5) (v := .ref (a 1)) (C := RX5) (T := TX5) (N := 7) hx hb htg ig_5 hown hK hP 3 (oh_wg (by decide) (sX_3 hT)) rfl 0 (by decide) (htg _ q_167) (fun _ h9 => h9) rfl dX5_otherEnd_14 ?_
    refine lv_iload_n hx hb dX5_otherEnd_17 rfl (lv_at hl 1 rfl) ?_
    refine lv_iconst (v := 1) hx hb dX5_otherEnd_18 (by decide) ?_
    refine tq_V (As := [.int x1, .int 1]) (rest := []) (ws := (oh_W 35 a C)) ⟨hx, hb, hml, hown, htg⟩ (c_X0_ofRoad l D E G a C hT x1 (1 : Int32) (rg_w hx1 (by decide)) (rg_w (rg_c (v := 1) (lo := 1) (hi := 1) (by decide)) (by decide))) (cwV 2 htg (oh_gV q_755 q_480 q_481 q_67 q_482) rfl rfl rfl pdVX0_ofRoad ⟨Nat.le_of_ble_eq_true rfl, Nat.le_of_ble_eq_true rfl⟩) hK hP hG hS (va_recv hK hP (ci := 0) (q0 := 1) rfl (oh_wg (by decide) (sX_1 hT))) rfl hl.1 rfl (Nat.le_of_ble_eq_true rfl) dX5_otherEnd_19 ⟨Nat.le_of_ble_eq_true rfl, Nat.le_of_ble_eq_true rfl⟩ (fun r_9 hq_10 => ?_)
    subst hq_10
    rw [hQ]
    exact W.iret (v := ga (C 11) ((x1 * 7) + 1).toNatClampNeg) hx hb hr (fun t ht hW => ⟨ga (C 11) ((x1 * 7) + 1).toNatClampNeg, rfl, ⟨(rg_w (tA_rdc (lo := 0) (hi := 15) (tX_11 hT0) (rg_in (rg_add (lo := 1) (hi := 162) (rg_mul (lo := 0) (hi := 161) hx1 (rg_c (v := 7) (lo := 7) (hi := 7) (by decide)) (by decide)) (rg_c (v := 1) (lo := 1) (hi := 1) (by decide)) (by decide)) (by decide)) (oh_col (W := 7) hx1 rfl (rg_c (v := 1) (lo := 1) (hi := 1) (by decide)) (by decide)) (by decide)) (by decide)), ((pif_pos c_3)).symm⟩, ht⟩) (fun q h => by cases h) dX5_otherEnd_22

set_option maxHeartbeats 4000000 in
set_option maxRecDepth 100000 in
theorem e_X5_leastCoin (l : Launch) (D : va_G) (E : Nat → ClassId) (G : Nat → Nat) (sz : Nat) (a : Nat → Nat) (C : Nat → va_E) (hT : TyX a E C) (x1 : Int32) (x2 : Int32) (x3 : Int32) (x4 : Int32) (x5 : Int32) (hx1 : rg x1 0 4) (hx3 : rg x3 0 15) (hx4 : rg x4 0 15) : Met l yX5_leastCoin (oh_w yX5_leastCoin cX5_leastCoin 6 (some .int)) ({ frames := 4, cells := 0, slots := 0, locals := 100 }) (oh_Pm D E G [.ref (a 3), .int x1, .int x2, .int x3, .int x4, .int x5] (oh_W 35 a C) sz) (va_Qi (fun r (u : Nat → va_E) => TyX a E u ∧ fr [(9, 10), (24, 28)] [] C u ∧ (∀ A : LA, absX 10 C A → okA A → x1 < A 5 0 2 → rg x5 0 20 → r = lcA A x1 x2 x3 x4 x5)) (oh_B D (va_A (oh_W 35 a C) sz) (fun u => oh_W 35 a u)) (va_A (oh_W 35 a C) sz)) 0 0 (va_A (oh_W 35 a C) sz) := by
  refine Met.ofW (cc := cX5_leastCoin) (maxL := 6) (ret := (some .int)) (by decide) rfl ?_
  intro p e s m args below meth c s₁ B hml hv
  obtain ⟨rfl, hsz, hP, hK, hD0, hG⟩ := hv
  have hx := B.exec
  have hb := B.bytes
  have hr := B.returns
  have hts := atoms_spec (ws := (oh_w yX5_leastCoin cX5_leastCoin 6 (some .int))) B.pre
  have htg : ∀ w ∈ oh_t, w.before _ s = true := fun w h => hts w (List.mem_cons_of_mem _ h)
  have hown : s.vm.findClass RX5 = some m.cls := findClass_of_methodNamed B.named
  have hlocks := B.notSynchronized
  have hT0 := hT
  subst hsz
  have hD := hD0.self (sz := s.heap.size)
  generalize hAe : va_A (oh_W 35 a C) s.heap.size = A at hD hG ⊢
  have hA : ∀ q : Nat, s.heap.size ≤ q → A q := fun q h => by rw [← hAe]; exact Or.inr h
  have hS : va_S A s.heap s.heap [] := va_S.rf
  have hF : fr [(9, 10), (24, 28)] [] C C := fr_rf
  have hl := lv_entry ([.ref (a 3), .int x1, .int x2, .int x3, .int x4, .int x5]) (n := 6) (Nat.le_of_ble_eq_true rfl)
  rw [lg_entry_eq]
  generalize (lg_sl ([.ref (a 3), .int x1, .int x2, .int x3, .int x4, .int x5]) ++ List.replicate (6 - (lg_sl ([.ref (a 3), .int x1, .int x2, .int x3, .int x4, .int x5])).length) Slot.unset).toArray = ls at hl ⊢
  have hl : lv_has ls 6 [(0, .ref (a 3)), (1, .int x1), (2, .int x2), (3, .int x3), (4, .int x4), (5, .int x5)] := hl
  refine oh_genQ (fun Q hQ => ?_)
  refine lv_aload_n hx hb dX5_leastCoin_0 rfl (lv_at hl 0 rfl) ?_
  refine lv_iload_n hx hb dX5_leastCoin_1 rfl (lv_at hl 1 rfl) ?_
  refine lv_iload_n hx hb dX5_leastCoin_2 rfl (lv_at hl 2 rfl) ?_
  refine tm_Vv (As := [.int x1, .int x2]) (rest := []) ⟨hx, hb, hml, hown, htg⟩ (e_X5_survey l D E G _ a C hT x1 x2 (rg_w hx1 (by decide))) (cwV 2 htg (oh_gV q_784 q_751 q_752 q_68 q_753) rfl rfl rfl pdVX5_survey ⟨Nat.le_of_ble_eq_true rfl, Nat.le_of_ble_eq_true rfl⟩) hK hP hD hG hS hA (va_recv hK hP (ci := 5) (q0 := 3) rfl (oh_wg (by decide) (sX_3 hT))) rfl hl.1 rfl (Nat.le_of_ble_eq_true rfl) dX5_leastCoin_3 ⟨Nat.le_of_ble_eq_true rfl, Nat.le_of_ble_eq_true rfl⟩ (fun C_2 H locs hq_3 hP hD hS => ?_)
  obtain ⟨hT, f_4, hq_3⟩ := hq_3
  have hF := fr_tr hF f_4 (by decide) (by decide)
  refine W.widen (k := 0) (n := 0) (Nat.le_refl _) (Nat.le_refl _) ?_
  have t_5 := hT
  refine lv_aload_n hx hb dX5_leastCoin_6 rfl (lv_at hl 0 rfl) ?_
  refine lv_iload hx hb dX5_leastCoin_7 (lv_at hl 5 rfl) ?_
  refine tm_Vv (As := [.int x5]) (rest := []) ⟨hx, hb, hml, hown, htg⟩ (e_X5_priceByCoin l D E G _ a C_2 hT x5) (cwV 1 htg (oh_gV q_785 q_787 q_18 q_68 q_788) rfl rfl rfl pdVX5_priceByCoin ⟨Nat.le_of_ble_eq_true rfl, Nat.le_of_ble_eq_true rfl⟩) hK hP hD hG hS hA (va_recv hK hP (ci := 5) (q0 := 3) rfl (oh_wg (by decide) (sX_3 hT))) rfl hl.1 rfl (Nat.le_of_ble_eq_true rfl) dX5_leastCoin_9 ⟨Nat.le_of_ble_eq_true rfl, Nat.le_of_ble_eq_true rfl⟩ (fun C_7 H locs hq_8 hP hD hS => ?_)
  obtain ⟨hT, f_9, hq_8⟩ := hq_8
  have hF := fr_tr hF f_9 (by decide) (by decide)
  refine W.widen (k := 0) (n := 0) (Nat.le_refl _) (Nat.le_refl _) ?_
  have t_10 := hT
  refine lv_aload_n hx hb dX5_leastCoin_12 rfl (lv_at hl 0 rfl) ?_
  refine lv_iload_n hx hb dX5_leastCoin_13 rfl (lv_at hl 3 rfl) ?_
  refine tm_Vv (As := [.int x3]) (rest := []) ⟨hx, hb, hml, hown, htg⟩ (e_X5_spread l D E G _ a C_7 hT x3 (rg_w hx3 (by decide))) (cwV 1 htg (oh_gV q_790 q_792 q_19 q_68 q_793) rfl rfl rfl pdVX5_spread ⟨Nat.le_of_ble_eq_true rfl, Nat.le_of_ble_eq_true rfl⟩) hK hP hD hG hS hA (va_recv hK hP (ci := 5) (q0 := 3) rfl (oh_wg (by decide) (sX_3 hT))) rfl hl.1 rfl (Nat.le_of_ble_eq_true rfl) dX5_leastCoin_14 ⟨Nat.le_of_ble_eq_true rfl, Nat.le_of_ble_eq_true rfl⟩ (fun C_12 H locs hq_13 hP hD hS => ?_)
  obtain ⟨hT, f_14, hq_13⟩ := hq_13
  have hF := fr_tr hF f_14 (by decide) (by decide)
  refine W.widen (k := 0) (n := 0) (Nat.le_refl _) (Nat.le_refl _) ?_
  have t_15 := hT
  refine lv_aload_n hx hb dX5_leastCoin_17 rfl (lv_at hl 0 rfl) ?_
  refine va_get (D := D) (ci := 5) (v := .ref (a 27)) (C := RX5) (T := TX5) (N := 7) hx hb htg ig_5 hown hK hP 3 (oh_wg (by decide) (sX_3 hT)) rfl 5 (by decide) (htg _ q_174) (fun _ h9 => h9) rfl dX5_leastCoin_18 ?_
  refine lv_iload hx hb dX5_leastCoin_21 (lv_at hl 4 rfl) ?_
  have n_16 : vp_in x4 16 := (rg_in hx4 (by decide))
  refine th_iald hx hb hK hP 27 (by decide) (sX_27 hT) n_16 dX5_leastCoin_23 ?_
  refine lv_ldc (v := 1000000000) hx hb hown (htg _ q_794) dX5_leastCoin_24 ?_
  refine lv_icmp_ne (tgt := 34) hx hb dX5_leastCoin_26 (by decide) (fun (c_17 : ¬ ((ga (C_12 27) (x4).toNatClampNeg) = 1000000000)) => ?_) (fun (c_17 : (ga (C_12 27) (x4).toNatClampNeg) = 1000000000) => ?_)
  · refine lv_aload_n hx hb dX5_leastCoin_34 rfl (lv_at hl 0 rfl) ?_
    refine va_get (D := D) (ci := 5) (v := .ref (a 27)) (C := RX5) (T := TX5) (N := 7) hx hb htg ig_5 hown hK hP 3 (oh_wg (by decide) (sX_3 hT)) rfl 5 (by decide) (htg _ q_174) (fun _ h9 => h9) rfl dX5_leastCoin_35 ?_
    refine lv_iload hx hb dX5_leastCoin_38 (lv_at hl 4 rfl) ?_
    have n_18 : vp_in x4 16 := (rg_in hx4 (by decide))
    refine th_iald hx hb hK hP 27 (by decide) (sX_27 hT) n_18 dX5_leastCoin_40 ?_
    refine lv_iload hx hb dX5_leastCoin_41 (lv_at hl 5 rfl) ?_
    refine lv_aload_n hx hb dX5_leastCoin_43 rfl (lv_at hl 0 rfl) ?_
    refine va_get (D := D) (ci := 5) (v := .ref (a 9)) (C := RX5) (T := TX5) (N := 7) hx hb htg ig_5 hown hK hP 3 (oh_wg (by decide) (sX_3 hT)) rfl 1 (by decide) (htg _ q_168) (fun _ h9 => h9) rfl dX5_leastCoin_44 ?_
    refine va_get (D := D) (ci := 1) (v := .int (gi (C_2 9) 4)) (C := RX1) (T := TX1) (N := 5) hx hb htg ig_1 hown hK hP 9 (oh_wg (by decide) (sX_9 hT)) rfl 4 (by decide) (htg _ q_153) (fun _ h9 => h9) (oh_fv (c := C_12 9) (j := 4) rfl (Eq.trans (congrArg (fun z => gi z 4) (f_14.1 9 rfl (by decide))) (congrArg (fun z => gi z 4) (f_9.1 9 rfl (by decide))))) dX5_leastCoin_47 ?_
    refine lv_imul hx hb dX5_leastCoin_50 ?_
    refine lv_iadd hx hb dX5_leastCoin_51 ?_
    rw [hQ]
    exact W.iret (v := (ga (C_12 27) (x4).toNatClampNeg) + (x5 * (gi (C_2 9) 4))) hx hb hr (fun t ht hW => ⟨⟨(ga (C_12 27) (x4).toNatClampNeg) + (x5 * (gi (C_2 9) 4)), C_12, rfl, ⟨hT, hF, (fun A hA hok hl hn => by have hs2 : svX C_2 A x1 x2 := hq_3 A hA hl; have hA2 := (absX_eq hA (fr_all f_4 10 15 (by decide))); have hA7 := (absX_eq (absX_eq hA (fr_all f_4 10 15 (by decide))) (fr_all f_9 10 15 (by decide))); have hs7 : svX C_7 A x1 x2 := svX_eq hs2 (f_9.1 9 rfl (by decide)) (f_9.1 24 rfl (by decide)) (f_9.1 25 rfl (by decide)); have G := gx_c hA7 hok hx1 hl hn hs7 (hq_8 A x1 x2 hA2 hs2); have hF := ec_fin hok x2 hx1 hl (n := x5) hn (p16 hx3); obtain ⟨hnn, D⟩ := hq_13 _ _ _ _ _ G; exact lc_y hnn D hF hx4 c_17 rfl hs2.1.2.2.2.2)⟩, ⟨by rw [ht]; exact hP, hD⟩⟩, hS.F ht⟩) hS.2.2 dX5_leastCoin_52
  · refine lv_ldc (v := 1000000000) hx hb hown (htg _ q_794) dX5_leastCoin_29 ?_
    refine lv_goto (tgt := 52) hx hb dX5_leastCoin_31 (by decide) ?_
    rw [hQ]
    exact W.iret (v := 1000000000) hx hb hr (fun t ht hW => ⟨⟨1000000000, C_12, rfl, ⟨hT, hF, (fun A hA hok hl hn => by have hs2 : svX C_2 A x1 x2 := hq_3 A hA hl; have hA2 := (absX_eq hA (fr_all f_4 10 15 (by decide))); have hA7 := (absX_eq (absX_eq hA (fr_all f_4 10 15 (by decide))) (fr_all f_9 10 15 (by decide))); have hs7 : svX C_7 A x1 x2 := svX_eq hs2 (f_9.1 9 rfl (by decide)) (f_9.1 24 rfl (by decide)) (f_9.1 25 rfl (by decide)); have G := gx_c hA7 hok hx1 hl hn hs7 (hq_8 A x1 x2 hA2 hs2); have hF := ec_fin hok x2 hx1 hl (n := x5) hn (p16 hx3); obtain ⟨hnn, D⟩ := hq_13 _ _ _ _ _ G; exact lc_n D hF hx4 c_17)⟩, ⟨by rw [ht]; exact hP, hD⟩⟩, hS.F ht⟩) hS.2.2 dX5_leastCoin_52

set_option maxHeartbeats 4000000 in
set_option maxRecDepth 100000 in
theorem e_X5_firstRoad (l : Launch) (D : va_G) (E : Nat → ClassId) (G : Nat → Nat) (sz : Nat) (a : Nat → Nat) (C : Nat → va_E) (hT : TyX a E C) (x1 : Int32) (x2 : Int32) (x3 : Int32) (x4 : Int32) (hx1 : rg x1 0 4) (hx3 : rg x3 0 15) (hx4 : rg x4 0 15) : Met l yX5_firstRoad (oh_w yX5_firstRoad cX5_firstRoad 7 (some .int)) ({ frames := 4, cells := 0, slots := 0, locals := 100 }) (oh_Pm D E G [.ref (a 3), .int x1, .int x2, .int x3, .int x4] (oh_W 35 a C) sz) (va_Qi (fun r (u : Nat → va_E) => TyX a E u ∧ fr [(9, 10), (24, 28)] [] C u ∧ rg r (-1) 23 ∧ (∀ A : LA, absX 10 C A → okA A → x1 < A 5 0 2 → frA A x1 x2 x3 x4 r) ∧ (∀ A : LA, absX 10 C A → x1 < A 5 0 2 → svX u A x1 x2)) (oh_B D (va_A (oh_W 35 a C) sz) (fun u => oh_W 35 a u)) (va_A (oh_W 35 a C) sz)) 0 0 (va_A (oh_W 35 a C) sz) := by
  refine Met.ofW (cc := cX5_firstRoad) (maxL := 7) (ret := (some .int)) (by decide) rfl ?_
  intro p e s m args below meth c s₁ B hml hv
  obtain ⟨rfl, hsz, hP, hK, hD0, hG⟩ := hv
  have hx := B.exec
  have hb := B.bytes
  have hr := B.returns
  have hts := atoms_spec (ws := (oh_w yX5_firstRoad cX5_firstRoad 7 (some .int))) B.pre
  have htg : ∀ w ∈ oh_t, w.before _ s = true := fun w h => hts w (List.mem_cons_of_mem _ h)
  have hown : s.vm.findClass RX5 = some m.cls := findClass_of_methodNamed B.named
  have hlocks := B.notSynchronized
  have hT0 := hT
  subst hsz
  have hD := hD0.self (sz := s.heap.size)
  generalize hAe : va_A (oh_W 35 a C) s.heap.size = A at hD hG ⊢
  have hA : ∀ q : Nat, s.heap.size ≤ q → A q := fun q h => by rw [← hAe]; exact Or.inr h
  have hS : va_S A s.heap s.heap [] := va_S.rf
  have hF : fr [(9, 10), (24, 28)] [] C C := fr_rf
  have hl := lv_entry ([.ref (a 3), .int x1, .int x2, .int x3, .int x4]) (n := 7) (Nat.le_of_ble_eq_true rfl)
  rw [lg_entry_eq]
  generalize (lg_sl ([.ref (a 3), .int x1, .int x2, .int x3, .int x4]) ++ List.replicate (7 - (lg_sl ([.ref (a 3), .int x1, .int x2, .int x3, .int x4])).length) Slot.unset).toArray = ls at hl ⊢
  have hl : lv_has ls 7 [(0, .ref (a 3)), (1, .int x1), (2, .int x2), (3, .int x3), (4, .int x4)] := hl
  refine oh_genQ (fun Q hQ => ?_)
  refine lv_aload_n hx hb dX5_firstRoad_0 rfl (lv_at hl 0 rfl) ?_
  refine lv_iload_n hx hb dX5_firstRoad_1 rfl (lv_at hl 1 rfl) ?_
  refine lv_iload_n hx hb dX5_firstRoad_2 rfl (lv_at hl 2 rfl) ?_
  refine tm_Vv (As := [.int x1, .int x2]) (rest := []) ⟨hx, hb, hml, hown, htg⟩ (e_X5_survey l D E G _ a C hT x1 x2 (rg_w hx1 (by decide))) (cwV 2 htg (oh_gV q_784 q_751 q_752 q_68 q_753) rfl rfl rfl pdVX5_survey ⟨Nat.le_of_ble_eq_true rfl, Nat.le_of_ble_eq_true rfl⟩) hK hP hD hG hS hA (va_recv hK hP (ci := 5) (q0 := 3) rfl (oh_wg (by decide) (sX_3 hT))) rfl hl.1 rfl (Nat.le_of_ble_eq_true rfl) dX5_firstRoad_3 ⟨Nat.le_of_ble_eq_true rfl, Nat.le_of_ble_eq_true rfl⟩ (fun C_2 H locs hq_3 hP hD hS => ?_)
  obtain ⟨hT, f_4, hq_3⟩ := hq_3
  have hF := fr_tr hF f_4 (by decide) (by decide)
  refine W.widen (k := 0) (n := 0) (Nat.le_refl _) (Nat.le_refl _) ?_
  have t_5 := hT
  refine lv_aload_n hx hb dX5_firstRoad_6 rfl (lv_at hl 0 rfl) ?_
  refine lv_iconst (v := 1) hx hb dX5_firstRoad_7 (by decide) ?_
  refine tm_Vv (As := [.int 1]) (rest := []) ⟨hx, hb, hml, hown, htg⟩ (e_X5_priceByCoin l D E G _ a C_2 hT (1 : Int32)) (cwV 1 htg (oh_gV q_785 q_787 q_18 q_68 q_788) rfl rfl rfl pdVX5_priceByCoin ⟨Nat.le_of_ble_eq_true rfl, Nat.le_of_ble_eq_true rfl⟩) hK hP hD hG hS hA (va_recv hK hP (ci := 5) (q0 := 3) rfl (oh_wg (by decide) (sX_3 hT))) rfl hl.1 rfl (Nat.le_of_ble_eq_true rfl) dX5_firstRoad_8 ⟨Nat.le_of_ble_eq_true rfl, Nat.le_of_ble_eq_true rfl⟩ (fun C_7 H locs hq_8 hP hD hS => ?_)
  obtain ⟨hT, f_9, hq_8⟩ := hq_8
  have hF := fr_tr hF f_9 (by decide) (by decide)
  refine W.widen (k := 0) (n := 0) (Nat.le_refl _) (Nat.le_refl _) ?_
  have t_10 := hT
  refine lv_aload_n hx hb dX5_firstRoad_11 rfl (lv_at hl 0 rfl) ?_
  refine lv_iload hx hb dX5_firstRoad_12 (lv_at hl 4 rfl) ?_
  refine tm_Vv (As := [.int x4]) (rest := []) ⟨hx, hb, hml, hown, htg⟩ (e_X5_spread l D E G _ a C_7 hT x4 (rg_w hx4 (by decide))) (cwV 1 htg (oh_gV q_790 q_792 q_19 q_68 q_793) rfl rfl rfl pdVX5_spread ⟨Nat.le_of_ble_eq_true rfl, Nat.le_of_ble_eq_true rfl⟩) hK hP hD hG hS hA (va_recv hK hP (ci := 5) (q0 := 3) rfl (oh_wg (by decide) (sX_3 hT))) rfl hl.1 rfl (Nat.le_of_ble_eq_true rfl) dX5_firstRoad_14 ⟨Nat.le_of_ble_eq_true rfl, Nat.le_of_ble_eq_true rfl⟩ (fun C_12 H locs hq_13 hP hD hS => ?_)
  obtain ⟨hT, f_14, hq_13⟩ := hq_13
  have hF := fr_tr hF f_14 (by decide) (by decide)
  refine W.widen (k := 0) (n := 0) (Nat.le_refl _) (Nat.le_refl _) ?_
  have t_15 := hT
  refine lv_iconst (v := 0) hx hb dX5_firstRoad_17 (by decide) ?_
  refine lv_istore (lv' := [(5, .int 0), (0, .ref (a 3)), (1, .int x1), (2, .int x2), (3, .int x3), (4, .int x4)]) hx hb dX5_firstRoad_18 hl (by decide) rfl (fun ls hl => ?_)
  have L_20 : ∀ (d : Nat) (K20 : Nat → va_E) (z20_5 : Int32) (H : Heap) (locs : List Loc) (ls : Array Slot), (24 - z20_5.toInt).toNat = d → rg z20_5 0 24 → (∀ A : LA, absX 10 C A → okA A → x1 < A 5 0 2 → ∀ i : Nat, (i : Int) < z20_5.toInt → ¬ fqA A x1 x2 x3 x4 i) → TyX a E K20 → fr [(9, 10), (24, 28)] [] C K20 → fr [] [] C_12 K20 → va_P D vwCl (oh_W 35 a K20) H → va_D A (oh_W 35 a K20) → va_S A s.heap H locs → lv_has ls 7 [(5, .int z20_5), (0, .ref (a 3)), (1, .int x1), (2, .int x2), (3, .int x3), (4, .int x4)] → W p l e ({ frames := 4, cells := 0, slots := 0, locals := 100 }) s m (([.ref (a 3), .int x1, .int x2, .int x3, .int x4] : List Value).toArray) below meth c H locs 0 0 Q (F0 m 20 ls []) := by
    intro d
    induction d using Nat.strongRecOn with
    | ind d ih_20 =>
    intro K20 z20_5 H locs ls hd_20 hz20_5 hx_20 hT hF hLF_20 hP hD hS hl
    have t_16 := hT
    refine lv_iload hx hb dX5_firstRoad_20 (lv_at hl 0 rfl) ?_
    refine lv_aload_n hx hb dX5_firstRoad_22 rfl (lv_at hl 1 rfl) ?_
    refine va_get (D := D) (ci := 5) (v := .ref (a 1)) (C := RX5) (T := TX5) (N := 7) hx hb htg ig_5 hown hK hP 3 (oh_wg (by decide) (sX_3 hT)) rfl 0 (by decide) (htg _ q_167) (fun _ h9 => h9) rfl dX5_firstRoad_23 ?_
    refine va_get (D := D) (ci := 0) (v := .ref (a 10)) (C := RX0) (T := TX0) (N := 8) hx hb htg ig_0 hown hK hP 1 (oh_wg (by decide) (sX_1 hT)) rfl 0 (by decide) (htg _ q_99) (fun _ h9 => h9) rfl dX5_firstRoad_26 ?_
    refine lv_iconst (v := 0) hx hb dX5_firstRoad_29 (by decide) ?_
    refine th_iald hx hb hK hP 10 (by decide) (Eq.trans (Eq.trans (hLF_20.1 10 rfl (by decide)) (Eq.trans (f_14.1 10 rfl (by decide)) (Eq.trans (f_9.1 10 rfl (by decide)) (f_4.1 10 rfl (by decide))))) (sX_10 hT0)) (rg_in (rg_c (v := 0) (lo := 0) (hi := 0) (by decide)) (by decide)) dX5_firstRoad_30 ?_
    refine lv_icmp_ge (tgt := 105) hx hb dX5_firstRoad_31 (by decide) (fun (c_17 : (ga (C 10) ((0 : Int32)).toNatClampNeg) ≤ z20_5) => ?_) (fun (c_17 : ¬ ((ga (C 10) ((0 : Int32)).toNatClampNeg) ≤ z20_5)) => ?_)
    · refine lv_iconst (v := (-1)) hx hb dX5_firstRoad_105 (by decide) ?_
      rw [hQ]
      exact W.iret (v := (-1)) hx hb hr (fun t ht hW => ⟨⟨(-1), K20, rfl, ⟨hT, hF, ⟨(rg_w (rg_c (v := (-1)) (lo := (-1)) (hi := (-1)) (by decide)) (by decide)), (fun A hA hok hl => Or.inl ⟨rfl, fun i hi => hx_20 A hA hok hl i (by have h5 := hok.n0 hi; have h6 := Int32.le_iff_toInt_le.mp c_17; rw [show ga (C 10) ((0 : Int32)).toNatClampNeg = A 5 0 0 from hA.1 0 (by decide)] at h6; omega)⟩), (fun A hA hl => svX_eq (hq_3 A hA hl) (Eq.trans (hLF_20.1 9 rfl (by decide)) (Eq.trans (f_14.1 9 rfl (by decide)) (f_9.1 9 rfl (by decide)))) (Eq.trans (hLF_20.1 24 rfl (by decide)) (Eq.trans (f_14.1 24 rfl (by decide)) (f_9.1 24 rfl (by decide)))) (Eq.trans (hLF_20.1 25 rfl (by decide)) (Eq.trans (f_14.1 25 rfl (by decide)) (f_9.1 25 rfl (by decide)))))⟩⟩, ⟨by rw [ht]; exact hP, hD⟩⟩, hS.F ht⟩) hS.2.2 dX5_firstRoad_106
    · refine lv_aload_n hx hb dX5_firstRoad_34 rfl (lv_at hl 1 rfl) ?_
      refine lv_iload hx hb dX5_firstRoad_35 (lv_at hl 0 rfl) ?_
      refine lv_iload_n hx hb dX5_firstRoad_37 rfl (lv_at hl 4 rfl) ?_
      refine tq_V (As := [.int z20_5, .int x3]) (rest := []) (ws := (oh_W 35 a K20)) ⟨hx, hb, hml, hown, htg⟩ (e_X5_otherEnd l D E G a K20 hT z20_5 x3 (rg_w (rn_ltu (u' := 23) (Int32.not_le.mp c_17) hz20_5 (tA_rdc (lo := 0) (hi := 24) (tX_10 hT0) (rg_in (rg_c (v := 0) (lo := 0) (hi := 0) (by decide)) (by decide)) (show _ = 0 by decide) (by decide)) (by decide)) (by decide))) (cwV 2 htg (oh_gV q_846 q_848 q_25 q_68 q_849) rfl rfl rfl pdVX5_otherEnd ⟨Nat.le_of_ble_eq_true rfl, Nat.le_of_ble_eq_true rfl⟩) hK hP hG hS (va_recv hK hP (ci := 5) (q0 := 3) rfl (oh_wg (by decide) (sX_3 hT))) rfl hl.1 rfl (Nat.le_of_ble_eq_true rfl) dX5_firstRoad_38 ⟨Nat.le_of_ble_eq_true rfl, Nat.le_of_ble_eq_true rfl⟩ (fun r_18 hq_19 => ?_)
      refine lv_istore (lv' := [(6, .int r_18), (5, .int z20_5), (0, .ref (a 3)), (1, .int x1), (2, .int x2), (3, .int x3), (4, .int x4)]) hx hb dX5_firstRoad_41 hl (by decide) rfl (fun ls hl => ?_)
      refine lv_aload_n hx hb dX5_firstRoad_43 rfl (lv_at hl 2 rfl) ?_
      refine va_get (D := D) (ci := 5) (v := .ref (a 24)) (C := RX5) (T := TX5) (N := 7) hx hb htg ig_5 hown hK hP 3 (oh_wg (by decide) (sX_3 hT)) rfl 2 (by decide) (htg _ q_170) (fun _ h9 => h9) rfl dX5_firstRoad_44 ?_
      refine lv_iload hx hb dX5_firstRoad_47 (lv_at hl 1 rfl) ?_
      have n_20 : vp_in z20_5 24 := (rg_in (rn_ltu (u' := 23) (Int32.not_le.mp c_17) hz20_5 (tA_rdc (lo := 0) (hi := 24) (tX_10 hT0) (rg_in (rg_c (v := 0) (lo := 0) (hi := 0) (by decide)) (by decide)) (show _ = 0 by decide) (by decide)) (by decide)) (by decide))
      refine th_iald hx hb hK hP 24 (by decide) (Eq.trans (Eq.trans (hLF_20.1 24 rfl (by decide)) (Eq.trans (f_14.1 24 rfl (by decide)) (f_9.1 24 rfl (by decide)))) (sX_24 t_5)) n_20 dX5_firstRoad_49 ?_
      refine lv_iconst (v := (-1)) hx hb dX5_firstRoad_50 (by decide) ?_
      refine lv_icmp_eq (tgt := 99) hx hb dX5_firstRoad_51 (by decide) (fun (c_21 : (ga (C_2 24) (z20_5).toNatClampNeg) = (-1)) => ?_) (fun (c_21 : ¬ ((ga (C_2 24) (z20_5).toNatClampNeg) = (-1))) => ?_)
      · refine lv_iinc (v := z20_5 + 1) (lv' := [(5, .int (z20_5 + 1)), (6, .int r_18), (0, .ref (a 3)), (1, .int x1), (2, .int x2), (3, .int x3), (4, .int x4)]) hx hb dX5_firstRoad_99 hl (k := 1) rfl (by rfl) (by decide) rfl (fun ls hl => ?_)
        refine lv_goto (tgt := 20) hx hb dX5_firstRoad_102 (by decide) ?_
        exact ih_20 _ (hd_20 ▸ mu_up 24 (rn_ltu (u' := 23) (Int32.not_le.mp c_17) hz20_5 (tA_rdc (lo := 0) (hi := 24) (tX_10 hT0) (rg_in (rg_c (v := 0) (lo := 0) (hi := 0) (by decide)) (by decide)) (show _ = 0 by decide) (by decide)) (by decide)) (by decide)) K20 (z20_5 + 1) _ _ ls rfl (rg_w (rg_add (lo := 1) (hi := 24) (rn_ltu (u' := 23) (Int32.not_le.mp c_17) hz20_5 (tA_rdc (lo := 0) (hi := 24) (tX_10 hT0) (rg_in (rg_c (v := 0) (lo := 0) (hi := 0) (by decide)) (by decide)) (show _ = 0 by decide) (by decide)) (by decide)) (rg_c (v := 1) (lo := 1) (hi := 1) (by decide)) (by decide)) (by decide)) (fun A hA hok hl => by have hz1 : z20_5 < A 5 0 0 := oh_lte (Int32.not_le.mp c_17) (hA.1 0 (by decide)); have hr : z20_5.toNatClampNeg < n0A A := n0_lt (rg_w (lo := 0) (hi := 23) (rn_ltu (u' := 23) (Int32.not_le.mp c_17) hz20_5 (tA_rdc (lo := 0) (hi := 24) (tX_10 hT0) (rg_in (rg_c (v := 0) (lo := 0) (hi := 0) (by decide)) (by decide)) (show _ = 0 by decide) (by decide)) (by decide)) (by decide)) hz1; have hs2 : svX C_2 A x1 x2 := hq_3 A hA hl; have hA2 := (absX_eq hA (fr_all f_4 10 15 (by decide))); have hA7 := (absX_eq (absX_eq hA (fr_all f_4 10 15 (by decide))) (fr_all f_9 10 15 (by decide))); have hs7 : svX C_7 A x1 x2 := svX_eq hs2 (f_9.1 9 rfl (by decide)) (f_9.1 24 rfl (by decide)) (f_9.1 25 rfl (by decide)); have G := gx_c hA7 hok hx1 hl ⟨by decide, by decide⟩ hs7 (hq_8 A x1 x2 hA2 hs2); have hF := ec_fin hok x2 hx1 hl (n := 1) ⟨by decide, by decide⟩ (p16 hx4); obtain ⟨hnn, D⟩ := hq_13 _ _ _ _ _ G; exact fq_s (rg_w (lo := 0) (hi := 23) (rn_ltu (u' := 23) (Int32.not_le.mp c_17) hz20_5 (tA_rdc (lo := 0) (hi := 24) (tX_10 hT0) (rg_in (rg_c (v := 0) (lo := 0) (hi := 0) (by decide)) (by decide)) (show _ = 0 by decide) (by decide)) (by decide)) (by decide)) (hx_20 A hA hok hl) (fun q => (sv_g hs2.2 hr hok.n16).mp c_21 q.1)) hT hF hLF_20 hP hD hS (lv_sub hl [0, 2, 3, 4, 5, 6] rfl)
      · refine lv_iload hx hb dX5_firstRoad_54 (lv_at hl 0 rfl) ?_
        refine lv_iconst (v := (-1)) hx hb dX5_firstRoad_56 (by decide) ?_
        refine lv_icmp_eq (tgt := 99) hx hb dX5_firstRoad_57 (by decide) (fun (c_22 : r_18 = (-1)) => ?_) (fun (c_22 : ¬ (r_18 = (-1))) => ?_)
        · refine lv_iinc (v := z20_5 + 1) (lv' := [(5, .int (z20_5 + 1)), (6, .int r_18), (0, .ref (a 3)), (1, .int x1), (2, .int x2), (3, .int x3), (4, .int x4)]) hx hb dX5_firstRoad_99 hl (k := 1) rfl (by rfl) (by decide) rfl (fun ls hl => ?_)
          refine lv_goto (tgt := 20) hx hb dX5_firstRoad_102 (by decide) ?_
          exact ih_20 _ (hd_20 ▸ mu_up 24 (rn_ltu (u' := 23) (Int32.not_le.mp c_17) hz20_5 (tA_rdc (lo := 0) (hi := 24) (tX_10 hT0) (rg_in (rg_c (v := 0) (lo := 0) (hi := 0) (by decide)) (by decide)) (show _ = 0 by decide) (by decide)) (by decide)) (by decide)) K20 (z20_5 + 1) _ _ ls rfl (rg_w (rg_add (lo := 1) (hi := 24) (rn_ltu (u' := 23) (Int32.not_le.mp c_17) hz20_5 (tA_rdc (lo := 0) (hi := 24) (tX_10 hT0) (rg_in (rg_c (v := 0) (lo := 0) (hi := 0) (by decide)) (by decide)) (show _ = 0 by decide) (by decide)) (by decide)) (rg_c (v := 1) (lo := 1) (hi := 1) (by decide)) (by decide)) (by decide)) (fun A hA hok hl => by have hz1 : z20_5 < A 5 0 0 := oh_lte (Int32.not_le.mp c_17) (hA.1 0 (by decide)); have hr : z20_5.toNatClampNeg < n0A A := n0_lt (rg_w (lo := 0) (hi := 23) (rn_ltu (u' := 23) (Int32.not_le.mp c_17) hz20_5 (tA_rdc (lo := 0) (hi := 24) (tX_10 hT0) (rg_in (rg_c (v := 0) (lo := 0) (hi := 0) (by decide)) (by decide)) (show _ = 0 by decide) (by decide)) (by decide)) (by decide)) hz1; have hs2 : svX C_2 A x1 x2 := hq_3 A hA hl; have hA2 := (absX_eq hA (fr_all f_4 10 15 (by decide))); have hA7 := (absX_eq (absX_eq hA (fr_all f_4 10 15 (by decide))) (fr_all f_9 10 15 (by decide))); have hs7 : svX C_7 A x1 x2 := svX_eq hs2 (f_9.1 9 rfl (by decide)) (f_9.1 24 rfl (by decide)) (f_9.1 25 rfl (by decide)); have G := gx_c hA7 hok hx1 hl ⟨by decide, by decide⟩ hs7 (hq_8 A x1 x2 hA2 hs2); have hF := ec_fin hok x2 hx1 hl (n := 1) ⟨by decide, by decide⟩ (p16 hx4); obtain ⟨hnn, D⟩ := hq_13 _ _ _ _ _ G; have hK := (absX_eq (absX_eq (absX_eq (absX_eq hA (fr_all f_4 10 15 (by decide))) (fr_all f_9 10 15 (by decide))) (fr_all f_14 10 15 (by decide))) (fr_all hLF_20 10 15 (by decide))); have e0 : ga (K20 11) ((z20_5 * 7) + 0).toNatClampNeg = A 0 z20_5.toNatClampNeg 0 := rcX hK (rg_w (lo := 0) (hi := 23) (rn_ltu (u' := 23) (Int32.not_le.mp c_17) hz20_5 (tA_rdc (lo := 0) (hi := 24) (tX_10 hT0) (rg_in (rg_c (v := 0) (lo := 0) (hi := 0) (by decide)) (by decide)) (show _ = 0 by decide) (by decide)) (by decide)) (by decide)) hz1 ⟨by decide, by decide⟩; have e1 : ga (K20 11) ((z20_5 * 7) + 1).toNatClampNeg = A 0 z20_5.toNatClampNeg 1 := rcX hK (rg_w (lo := 0) (hi := 23) (rn_ltu (u' := 23) (Int32.not_le.mp c_17) hz20_5 (tA_rdc (lo := 0) (hi := 24) (tX_10 hT0) (rg_in (rg_c (v := 0) (lo := 0) (hi := 0) (by decide)) (by decide)) (show _ = 0 by decide) (by decide)) (by decide)) (by decide)) hz1 ⟨by decide, by decide⟩; have eo := hq_19.2; rw [e0, e1] at eo; exact fq_s (rg_w (lo := 0) (hi := 23) (rn_ltu (u' := 23) (Int32.not_le.mp c_17) hz20_5 (tA_rdc (lo := 0) (hi := 24) (tX_10 hT0) (rg_in (rg_c (v := 0) (lo := 0) (hi := 0) (by decide)) (by decide)) (show _ = 0 by decide) (by decide)) (by decide)) (by decide)) (hx_20 A hA hok hl) (fun q => ((oe_1 hok hr hx3 eo).1.mp c_22) q.2.1)) hT hF hLF_20 hP hD hS (lv_sub hl [0, 2, 3, 4, 5, 6] rfl)
        · refine lv_aload_n hx hb dX5_firstRoad_60 rfl (lv_at hl 2 rfl) ?_
          refine va_get (D := D) (ci := 5) (v := .ref (a 27)) (C := RX5) (T := TX5) (N := 7) hx hb htg ig_5 hown hK hP 3 (oh_wg (by decide) (sX_3 hT)) rfl 5 (by decide) (htg _ q_174) (fun _ h9 => h9) rfl dX5_firstRoad_61 ?_
          refine lv_iload hx hb dX5_firstRoad_64 (lv_at hl 0 rfl) ?_
          have n_23 : vp_in r_18 16 := (rg_in (rn_nel (l' := 0) c_22 hq_19.1 (rg_c (v := (-1)) (lo := (-1)) (hi := (-1)) (by decide)) (by decide)) (by decide))
          refine th_iald hx hb hK hP 27 (by decide) (Eq.trans (hLF_20.1 27 rfl (by decide)) (sX_27 t_15)) n_23 dX5_firstRoad_66 ?_
          refine lv_ldc (v := 1000000000) hx hb hown (htg _ q_794) dX5_firstRoad_67 ?_
          refine lv_icmp_eq (tgt := 99) hx hb dX5_firstRoad_69 (by decide) (fun (c_24 : (ga (C_12 27) (r_18).toNatClampNeg) = 1000000000) => ?_) (fun (c_24 : ¬ ((ga (C_12 27) (r_18).toNatClampNeg) = 1000000000)) => ?_)
          · refine lv_iinc (v := z20_5 + 1) (lv' := [(5, .int (z20_5 + 1)), (6, .int r_18), (0, .ref (a 3)), (1, .int x1), (2, .int x2), (3, .int x3), (4, .int x4)]) hx hb dX5_firstRoad_99 hl (k := 1) rfl (by rfl) (by decide) rfl (fun ls hl => ?_)
            refine lv_goto (tgt := 20) hx hb dX5_firstRoad_102 (by decide) ?_
            exact ih_20 _ (hd_20 ▸ mu_up 24 (rn_ltu (u' := 23) (Int32.not_le.mp c_17) hz20_5 (tA_rdc (lo := 0) (hi := 24) (tX_10 hT0) (rg_in (rg_c (v := 0) (lo := 0) (hi := 0) (by decide)) (by decide)) (show _ = 0 by decide) (by decide)) (by decide)) (by decide)) K20 (z20_5 + 1) _ _ ls rfl (rg_w (rg_add (lo := 1) (hi := 24) (rn_ltu (u' := 23) (Int32.not_le.mp c_17) hz20_5 (tA_rdc (lo := 0) (hi := 24) (tX_10 hT0) (rg_in (rg_c (v := 0) (lo := 0) (hi := 0) (by decide)) (by decide)) (show _ = 0 by decide) (by decide)) (by decide)) (rg_c (v := 1) (lo := 1) (hi := 1) (by decide)) (by decide)) (by decide)) (fun A hA hok hl => by have hz1 : z20_5 < A 5 0 0 := oh_lte (Int32.not_le.mp c_17) (hA.1 0 (by decide)); have hr : z20_5.toNatClampNeg < n0A A := n0_lt (rg_w (lo := 0) (hi := 23) (rn_ltu (u' := 23) (Int32.not_le.mp c_17) hz20_5 (tA_rdc (lo := 0) (hi := 24) (tX_10 hT0) (rg_in (rg_c (v := 0) (lo := 0) (hi := 0) (by decide)) (by decide)) (show _ = 0 by decide) (by decide)) (by decide)) (by decide)) hz1; have hs2 : svX C_2 A x1 x2 := hq_3 A hA hl; have hA2 := (absX_eq hA (fr_all f_4 10 15 (by decide))); have hA7 := (absX_eq (absX_eq hA (fr_all f_4 10 15 (by decide))) (fr_all f_9 10 15 (by decide))); have hs7 : svX C_7 A x1 x2 := svX_eq hs2 (f_9.1 9 rfl (by decide)) (f_9.1 24 rfl (by decide)) (f_9.1 25 rfl (by decide)); have G := gx_c hA7 hok hx1 hl ⟨by decide, by decide⟩ hs7 (hq_8 A x1 x2 hA2 hs2); have hF := ec_fin hok x2 hx1 hl (n := 1) ⟨by decide, by decide⟩ (p16 hx4); obtain ⟨hnn, D⟩ := hq_13 _ _ _ _ _ G; have hK := (absX_eq (absX_eq (absX_eq (absX_eq hA (fr_all f_4 10 15 (by decide))) (fr_all f_9 10 15 (by decide))) (fr_all f_14 10 15 (by decide))) (fr_all hLF_20 10 15 (by decide))); have e0 : ga (K20 11) ((z20_5 * 7) + 0).toNatClampNeg = A 0 z20_5.toNatClampNeg 0 := rcX hK (rg_w (lo := 0) (hi := 23) (rn_ltu (u' := 23) (Int32.not_le.mp c_17) hz20_5 (tA_rdc (lo := 0) (hi := 24) (tX_10 hT0) (rg_in (rg_c (v := 0) (lo := 0) (hi := 0) (by decide)) (by decide)) (show _ = 0 by decide) (by decide)) (by decide)) (by decide)) hz1 ⟨by decide, by decide⟩; have e1 : ga (K20 11) ((z20_5 * 7) + 1).toNatClampNeg = A 0 z20_5.toNatClampNeg 1 := rcX hK (rg_w (lo := 0) (hi := 23) (rn_ltu (u' := 23) (Int32.not_le.mp c_17) hz20_5 (tA_rdc (lo := 0) (hi := 24) (tX_10 hT0) (rg_in (rg_c (v := 0) (lo := 0) (hi := 0) (by decide)) (by decide)) (show _ = 0 by decide) (by decide)) (by decide)) (by decide)) hz1 ⟨by decide, by decide⟩; have eo := hq_19.2; rw [e0, e1] at eo; have hg := (show gsA A x1 x2 z20_5.toNatClampNeg from Classical.byContradiction (fun q => c_21 ((sv_g hs2.2 hr hok.n16).mpr q))); have hq := fq_i hok hx1 hl hx3 hx4 hnn D hr hg (show ga (C_7 26) (z20_5).toNatClampNeg = coA A x1 x2 1 z20_5.toNatClampNeg from hq_8 A x1 x2 hA2 hs2 _ hr hg) eo c_22; exact fq_s (rg_w (lo := 0) (hi := 23) (rn_ltu (u' := 23) (Int32.not_le.mp c_17) hz20_5 (tA_rdc (lo := 0) (hi := 24) (tX_10 hT0) (rg_in (rg_c (v := 0) (lo := 0) (hi := 0) (by decide)) (by decide)) (show _ = 0 by decide) (by decide)) (by decide)) (by decide)) (hx_20 A hA hok hl) (fun q => (hq.mpr q).1 c_24)) hT hF hLF_20 hP hD hS (lv_sub hl [0, 2, 3, 4, 5, 6] rfl)
          · refine lv_aload_n hx hb dX5_firstRoad_72 rfl (lv_at hl 2 rfl) ?_
            refine va_get (D := D) (ci := 5) (v := .ref (a 27)) (C := RX5) (T := TX5) (N := 7) hx hb htg ig_5 hown hK hP 3 (oh_wg (by decide) (sX_3 hT)) rfl 5 (by decide) (htg _ q_174) (fun _ h9 => h9) rfl dX5_firstRoad_73 ?_
            refine lv_iload hx hb dX5_firstRoad_76 (lv_at hl 0 rfl) ?_
            have n_25 : vp_in r_18 16 := (rg_in (rn_nel (l' := 0) c_22 hq_19.1 (rg_c (v := (-1)) (lo := (-1)) (hi := (-1)) (by decide)) (by decide)) (by decide))
            refine th_iald hx hb hK hP 27 (by decide) (Eq.trans (hLF_20.1 27 rfl (by decide)) (sX_27 t_15)) n_25 dX5_firstRoad_78 ?_
            refine lv_aload_n hx hb dX5_firstRoad_79 rfl (lv_at hl 2 rfl) ?_
            refine va_get (D := D) (ci := 5) (v := .ref (a 26)) (C := RX5) (T := TX5) (N := 7) hx hb htg ig_5 hown hK hP 3 (oh_wg (by decide) (sX_3 hT)) rfl 4 (by decide) (htg _ q_173) (fun _ h9 => h9) rfl dX5_firstRoad_80 ?_
            refine lv_iload hx hb dX5_firstRoad_83 (lv_at hl 1 rfl) ?_
            have n_26 : vp_in z20_5 24 := (rg_in (rn_ltu (u' := 23) (Int32.not_le.mp c_17) hz20_5 (tA_rdc (lo := 0) (hi := 24) (tX_10 hT0) (rg_in (rg_c (v := 0) (lo := 0) (hi := 0) (by decide)) (by decide)) (show _ = 0 by decide) (by decide)) (by decide)) (by decide))
            refine th_iald hx hb hK hP 26 (by decide) (Eq.trans (Eq.trans (hLF_20.1 26 rfl (by decide)) (f_14.1 26 rfl (by decide))) (sX_26 t_10)) n_26 dX5_firstRoad_85 ?_
            refine lv_iadd hx hb dX5_firstRoad_86 ?_
            refine lv_aload_n hx hb dX5_firstRoad_87 rfl (lv_at hl 2 rfl) ?_
            refine va_get (D := D) (ci := 5) (v := .ref (a 27)) (C := RX5) (T := TX5) (N := 7) hx hb htg ig_5 hown hK hP 3 (oh_wg (by decide) (sX_3 hT)) rfl 5 (by decide) (htg _ q_174) (fun _ h9 => h9) rfl dX5_firstRoad_88 ?_
            refine lv_iload_n hx hb dX5_firstRoad_91 rfl (lv_at hl 5 rfl) ?_
            have n_27 : vp_in x3 16 := (rg_in hx3 (by decide))
            refine th_iald hx hb hK hP 27 (by decide) (Eq.trans (hLF_20.1 27 rfl (by decide)) (sX_27 t_15)) n_27 dX5_firstRoad_92 ?_
            refine lv_icmp_ne (tgt := 99) hx hb dX5_firstRoad_93 (by decide) (fun (c_28 : ¬ (((ga (C_12 27) (r_18).toNatClampNeg) + (ga (C_7 26) (z20_5).toNatClampNeg)) = (ga (C_12 27) (x3).toNatClampNeg))) => ?_) (fun (c_28 : ((ga (C_12 27) (r_18).toNatClampNeg) + (ga (C_7 26) (z20_5).toNatClampNeg)) = (ga (C_12 27) (x3).toNatClampNeg)) => ?_)
            · refine lv_iinc (v := z20_5 + 1) (lv' := [(5, .int (z20_5 + 1)), (6, .int r_18), (0, .ref (a 3)), (1, .int x1), (2, .int x2), (3, .int x3), (4, .int x4)]) hx hb dX5_firstRoad_99 hl (k := 1) rfl (by rfl) (by decide) rfl (fun ls hl => ?_)
              refine lv_goto (tgt := 20) hx hb dX5_firstRoad_102 (by decide) ?_
              exact ih_20 _ (hd_20 ▸ mu_up 24 (rn_ltu (u' := 23) (Int32.not_le.mp c_17) hz20_5 (tA_rdc (lo := 0) (hi := 24) (tX_10 hT0) (rg_in (rg_c (v := 0) (lo := 0) (hi := 0) (by decide)) (by decide)) (show _ = 0 by decide) (by decide)) (by decide)) (by decide)) K20 (z20_5 + 1) _ _ ls rfl (rg_w (rg_add (lo := 1) (hi := 24) (rn_ltu (u' := 23) (Int32.not_le.mp c_17) hz20_5 (tA_rdc (lo := 0) (hi := 24) (tX_10 hT0) (rg_in (rg_c (v := 0) (lo := 0) (hi := 0) (by decide)) (by decide)) (show _ = 0 by decide) (by decide)) (by decide)) (rg_c (v := 1) (lo := 1) (hi := 1) (by decide)) (by decide)) (by decide)) (fun A hA hok hl => by have hz1 : z20_5 < A 5 0 0 := oh_lte (Int32.not_le.mp c_17) (hA.1 0 (by decide)); have hr : z20_5.toNatClampNeg < n0A A := n0_lt (rg_w (lo := 0) (hi := 23) (rn_ltu (u' := 23) (Int32.not_le.mp c_17) hz20_5 (tA_rdc (lo := 0) (hi := 24) (tX_10 hT0) (rg_in (rg_c (v := 0) (lo := 0) (hi := 0) (by decide)) (by decide)) (show _ = 0 by decide) (by decide)) (by decide)) (by decide)) hz1; have hs2 : svX C_2 A x1 x2 := hq_3 A hA hl; have hA2 := (absX_eq hA (fr_all f_4 10 15 (by decide))); have hA7 := (absX_eq (absX_eq hA (fr_all f_4 10 15 (by decide))) (fr_all f_9 10 15 (by decide))); have hs7 : svX C_7 A x1 x2 := svX_eq hs2 (f_9.1 9 rfl (by decide)) (f_9.1 24 rfl (by decide)) (f_9.1 25 rfl (by decide)); have G := gx_c hA7 hok hx1 hl ⟨by decide, by decide⟩ hs7 (hq_8 A x1 x2 hA2 hs2); have hF := ec_fin hok x2 hx1 hl (n := 1) ⟨by decide, by decide⟩ (p16 hx4); obtain ⟨hnn, D⟩ := hq_13 _ _ _ _ _ G; have hK := (absX_eq (absX_eq (absX_eq (absX_eq hA (fr_all f_4 10 15 (by decide))) (fr_all f_9 10 15 (by decide))) (fr_all f_14 10 15 (by decide))) (fr_all hLF_20 10 15 (by decide))); have e0 : ga (K20 11) ((z20_5 * 7) + 0).toNatClampNeg = A 0 z20_5.toNatClampNeg 0 := rcX hK (rg_w (lo := 0) (hi := 23) (rn_ltu (u' := 23) (Int32.not_le.mp c_17) hz20_5 (tA_rdc (lo := 0) (hi := 24) (tX_10 hT0) (rg_in (rg_c (v := 0) (lo := 0) (hi := 0) (by decide)) (by decide)) (show _ = 0 by decide) (by decide)) (by decide)) (by decide)) hz1 ⟨by decide, by decide⟩; have e1 : ga (K20 11) ((z20_5 * 7) + 1).toNatClampNeg = A 0 z20_5.toNatClampNeg 1 := rcX hK (rg_w (lo := 0) (hi := 23) (rn_ltu (u' := 23) (Int32.not_le.mp c_17) hz20_5 (tA_rdc (lo := 0) (hi := 24) (tX_10 hT0) (rg_in (rg_c (v := 0) (lo := 0) (hi := 0) (by decide)) (by decide)) (show _ = 0 by decide) (by decide)) (by decide)) (by decide)) hz1 ⟨by decide, by decide⟩; have eo := hq_19.2; rw [e0, e1] at eo; have hg := (show gsA A x1 x2 z20_5.toNatClampNeg from Classical.byContradiction (fun q => c_21 ((sv_g hs2.2 hr hok.n16).mpr q))); have hq := fq_i hok hx1 hl hx3 hx4 hnn D hr hg (show ga (C_7 26) (z20_5).toNatClampNeg = coA A x1 x2 1 z20_5.toNatClampNeg from hq_8 A x1 x2 hA2 hs2 _ hr hg) eo c_22; exact fq_s (rg_w (lo := 0) (hi := 23) (rn_ltu (u' := 23) (Int32.not_le.mp c_17) hz20_5 (tA_rdc (lo := 0) (hi := 24) (tX_10 hT0) (rg_in (rg_c (v := 0) (lo := 0) (hi := 0) (by decide)) (by decide)) (show _ = 0 by decide) (by decide)) (by decide)) (by decide)) (hx_20 A hA hok hl) (fun q => c_28 (hq.mpr q).2)) hT hF hLF_20 hP hD hS (lv_sub hl [0, 2, 3, 4, 5, 6] rfl)
            · refine lv_iload hx hb dX5_firstRoad_96 (lv_at hl 1 rfl) ?_
              rw [hQ]
              exact W.iret (v := z20_5) hx hb hr (fun t ht hW => ⟨⟨z20_5, K20, rfl, ⟨hT, hF, ⟨(rg_w (rn_ltu (u' := 23) (Int32.not_le.mp c_17) hz20_5 (tA_rdc (lo := 0) (hi := 24) (tX_10 hT0) (rg_in (rg_c (v := 0) (lo := 0) (hi := 0) (by decide)) (by decide)) (show _ = 0 by decide) (by decide)) (by decide)) (by decide)), (fun A hA hok hl => by have hz1 : z20_5 < A 5 0 0 := oh_lte (Int32.not_le.mp c_17) (hA.1 0 (by decide)); have hr : z20_5.toNatClampNeg < n0A A := n0_lt (rg_w (lo := 0) (hi := 23) (rn_ltu (u' := 23) (Int32.not_le.mp c_17) hz20_5 (tA_rdc (lo := 0) (hi := 24) (tX_10 hT0) (rg_in (rg_c (v := 0) (lo := 0) (hi := 0) (by decide)) (by decide)) (show _ = 0 by decide) (by decide)) (by decide)) (by decide)) hz1; have hs2 : svX C_2 A x1 x2 := hq_3 A hA hl; have hA2 := (absX_eq hA (fr_all f_4 10 15 (by decide))); have hA7 := (absX_eq (absX_eq hA (fr_all f_4 10 15 (by decide))) (fr_all f_9 10 15 (by decide))); have hs7 : svX C_7 A x1 x2 := svX_eq hs2 (f_9.1 9 rfl (by decide)) (f_9.1 24 rfl (by decide)) (f_9.1 25 rfl (by decide)); have G := gx_c hA7 hok hx1 hl ⟨by decide, by decide⟩ hs7 (hq_8 A x1 x2 hA2 hs2); have hF := ec_fin hok x2 hx1 hl (n := 1) ⟨by decide, by decide⟩ (p16 hx4); obtain ⟨hnn, D⟩ := hq_13 _ _ _ _ _ G; have hK := (absX_eq (absX_eq (absX_eq (absX_eq hA (fr_all f_4 10 15 (by decide))) (fr_all f_9 10 15 (by decide))) (fr_all f_14 10 15 (by decide))) (fr_all hLF_20 10 15 (by decide))); have e0 : ga (K20 11) ((z20_5 * 7) + 0).toNatClampNeg = A 0 z20_5.toNatClampNeg 0 := rcX hK (rg_w (lo := 0) (hi := 23) (rn_ltu (u' := 23) (Int32.not_le.mp c_17) hz20_5 (tA_rdc (lo := 0) (hi := 24) (tX_10 hT0) (rg_in (rg_c (v := 0) (lo := 0) (hi := 0) (by decide)) (by decide)) (show _ = 0 by decide) (by decide)) (by decide)) (by decide)) hz1 ⟨by decide, by decide⟩; have e1 : ga (K20 11) ((z20_5 * 7) + 1).toNatClampNeg = A 0 z20_5.toNatClampNeg 1 := rcX hK (rg_w (lo := 0) (hi := 23) (rn_ltu (u' := 23) (Int32.not_le.mp c_17) hz20_5 (tA_rdc (lo := 0) (hi := 24) (tX_10 hT0) (rg_in (rg_c (v := 0) (lo := 0) (hi := 0) (by decide)) (by decide)) (show _ = 0 by decide) (by decide)) (by decide)) (by decide)) hz1 ⟨by decide, by decide⟩; have eo := hq_19.2; rw [e0, e1] at eo; have hg := (show gsA A x1 x2 z20_5.toNatClampNeg from Classical.byContradiction (fun q => c_21 ((sv_g hs2.2 hr hok.n16).mpr q))); have hq := fq_i hok hx1 hl hx3 hx4 hnn D hr hg (show ga (C_7 26) (z20_5).toNatClampNeg = coA A x1 x2 1 z20_5.toNatClampNeg from hq_8 A x1 x2 hA2 hs2 _ hr hg) eo c_22; exact Or.inr ⟨z20_5.toNatClampNeg, hr, (oh_ofc (rg_w (lo := 0) (hi := 23) (rn_ltu (u' := 23) (Int32.not_le.mp c_17) hz20_5 (tA_rdc (lo := 0) (hi := 24) (tX_10 hT0) (rg_in (rg_c (v := 0) (lo := 0) (hi := 0) (by decide)) (by decide)) (show _ = 0 by decide) (by decide)) (by decide)) (by decide)) (by decide)).symm, (hq.mp ⟨c_24, c_28⟩), fun k hk => hx_20 A hA hok hl k (by have h5 := oh_nat (rg_w (lo := 0) (hi := 23) (rn_ltu (u' := 23) (Int32.not_le.mp c_17) hz20_5 (tA_rdc (lo := 0) (hi := 24) (tX_10 hT0) (rg_in (rg_c (v := 0) (lo := 0) (hi := 0) (by decide)) (by decide)) (show _ = 0 by decide) (by decide)) (by decide)) (by decide)) (by decide); omega)⟩), (fun A hA hl => svX_eq (hq_3 A hA hl) (Eq.trans (hLF_20.1 9 rfl (by decide)) (Eq.trans (f_14.1 9 rfl (by decide)) (f_9.1 9 rfl (by decide)))) (Eq.trans (hLF_20.1 24 rfl (by decide)) (Eq.trans (f_14.1 24 rfl (by decide)) (f_9.1 24 rfl (by decide)))) (Eq.trans (hLF_20.1 25 rfl (by decide)) (Eq.trans (f_14.1 25 rfl (by decide)) (f_9.1 25 rfl (by decide)))))⟩⟩, ⟨by rw [ht]; exact hP, hD⟩⟩, hS.F ht⟩) hS.2.2 dX5_firstRoad_98
  exact L_20 _ C_12 0 _ _ ls rfl (rg_w (rg_c (v := 0) (lo := 0) (hi := 0) (by decide)) (by decide)) (fun A hA hok hl i hi => absurd hi (by show ¬ (i : Int) < 0; omega)) hT hF fr_rf hP hD hS (lv_sub hl [0, 1, 2, 3, 4, 5] rfl)
/-! FULL: the reference: what a bridge bears, needs; which roads go; what they cost -/
theorem hf_c {kd sk : Int32} (h : kd.toInt ≤ 5) : ((4 : Int32) ≤ kd ∧ sk = 0) ↔ ((kd = 4 ∨ kd = 5) ∧ sk = 0) := by
  have e4 : (4 : Int32).toInt = 4 := rfl
  have e5 : (5 : Int32).toInt = 5 := rfl
  constructor
  · intro q
    have q1 := Int32.le_iff_toInt_le.mp q.1
    rcases (show kd.toInt = 4 ∨ kd.toInt = 5 by omega) with z | z
    · exact ⟨Or.inl (Int32.toInt_inj.mp (by rw [z, e4])), q.2⟩
    · exact ⟨Or.inr (Int32.toInt_inj.mp (by rw [z, e5])), q.2⟩
  · intro q
    refine ⟨?_, q.2⟩
    rcases q.1 with z | z
    · rw [z]; decide
    · rw [z]; decide
theorem rg01 {x : Int32} (h : rg x 0 1) (c : ¬ x = 1) : x = 0 := by
  have e1 : x.toInt ≠ 1 := fun e => c (Int32.toInt_inj.mp e)
  refine Int32.toInt_inj.mp ?_
  show x.toInt = 0
  have := h.1
  have := h.2
  omega

set_option maxHeartbeats 4000000 in
set_option maxRecDepth 100000 in
theorem e_X7_isHalf (l : Launch) (D : va_G) (E : Nat → ClassId) (G : Nat → Nat) (a : Nat → Nat) (C : Nat → va_E) (n : Nat) (hn : 74 ≤ n) (hT : TyM a E C) (x1 : Int32) (hx1 : rg x1 0 15) : Met l yX7_isHalf (oh_w yX7_isHalf cX7_isHalf 2 (some .boolean)) ({ frames := 0, cells := 0, slots := 0, locals := 0 }) (oh_Pp D E G [.ref (a 0), .int x1] (oh_W n a C)) (vp_Si (fun r => (r = 0 ∨ r = 1) ∧ (r = 1 ↔ ((4 : Int32) ≤ ga (C (48 + (x1).toNatClampNeg)) ((1 : Int32)).toNatClampNeg ∧ ga (C (48 + (x1).toNatClampNeg)) ((9 : Int32)).toNatClampNeg = 0)))) 0 0 (fun _ => False) := by
  refine Met.ofW (cc := cX7_isHalf) (maxL := 2) (ret := (some .boolean)) (by decide) rfl ?_
  intro p e s m args below meth c s₁ B hml hv
  obtain ⟨rfl, hP, hK, hG⟩ := hv
  have hx := B.exec
  have hb := B.bytes
  have hr := B.returns
  have hts := atoms_spec (ws := (oh_w yX7_isHalf cX7_isHalf 2 (some .boolean))) B.pre
  have htg : ∀ w ∈ oh_t, w.before _ s = true := fun w h => hts w (List.mem_cons_of_mem _ h)
  have hown : s.vm.findClass RX7 = some m.cls := findClass_of_methodNamed B.named
  have hlocks := B.notSynchronized
  have hT0 := hT
  have hS : va_S (fun _ => False) s.heap s.heap [] := va_S.rf
  have hl := lv_entry ([.ref (a 0), .int x1]) (n := 2) (Nat.le_of_ble_eq_true rfl)
  rw [lg_entry_eq]
  generalize (lg_sl ([.ref (a 0), .int x1]) ++ List.replicate (2 - (lg_sl ([.ref (a 0), .int x1])).length) Slot.unset).toArray = ls at hl ⊢
  have hl : lv_has ls 2 [(0, .ref (a 0)), (1, .int x1)] := hl
  refine oh_genQ (fun Q hQ => ?_)
  refine lv_aload_n hx hb dX7_isHalf_0 rfl (lv_at hl 0 rfl) ?_
  refine va_get (D := D) (ci := 7) (v := .ref (a 10)) (C := RX7) (T := TX7) (N := 29) hx hb htg ig_7 hown hK hP 0 (oh_wg (Nat.lt_of_lt_of_le (by decide) hn) (sM_0 hT)) rfl 12 (by decide) (htg _ q_985) (fun _ h9 => h9) rfl dX7_isHalf_1 ?_
  refine lv_iload_n hx hb dX7_isHalf_4 rfl (lv_at hl 1 rfl) ?_
  have n_1 : vp_in x1 16 := (rg_in hx1 (by decide))
  have b_2 : (x1).toNatClampNeg < 16 := vp_lt n_1
  refine th_aald hx hb hK hP 10 2 (Nat.lt_of_lt_of_le (by decide) hn) (sM_10 hT) rfl n_1 dX7_isHalf_5 ?_
  refine lv_iconst (v := 1) hx hb dX7_isHalf_6 (by decide) ?_
  refine th_iald hx hb hK hP (48 + (x1).toNatClampNeg) (lt_blk b_2 hn (by decide)) (hT.bbridge b_2).1 (rg_in (rg_c (v := 1) (lo := 1) (hi := 1) (by decide)) (by decide)) dX7_isHalf_7 ?_
  refine lv_iconst (v := 4) hx hb dX7_isHalf_8 (by decide) ?_
  refine lv_icmp_lt (tgt := 28) hx hb dX7_isHalf_9 (by decide) (fun (c_3 : (ga (C (48 + (x1).toNatClampNeg)) ((1 : Int32)).toNatClampNeg) < 4) => ?_) (fun (c_3 : ¬ ((ga (C (48 + (x1).toNatClampNeg)) ((1 : Int32)).toNatClampNeg) < 4)) => ?_)
  · refine lv_iconst (v := 0) hx hb dX7_isHalf_28 (by decide) ?_
    rw [hQ]
    exact W.zret (v := 0) (ty := .boolean) hx hb hr (by decide) (fun t ht hW => ⟨0, rfl, ⟨(Or.inl rfl), ⟨fun h8 => absurd h8 (by decide), fun h8 => absurd h8 (fun h8 => (Int32.not_le.mpr c_3) h8.1)⟩⟩, ht⟩) (fun q h => by cases h) dX7_isHalf_29
  · refine lv_aload_n hx hb dX7_isHalf_12 rfl (lv_at hl 0 rfl) ?_
    refine va_get (D := D) (ci := 7) (v := .ref (a 10)) (C := RX7) (T := TX7) (N := 29) hx hb htg ig_7 hown hK hP 0 (oh_wg (Nat.lt_of_lt_of_le (by decide) hn) (sM_0 hT)) rfl 12 (by decide) (htg _ q_985) (fun _ h9 => h9) rfl dX7_isHalf_13 ?_
    refine lv_iload_n hx hb dX7_isHalf_16 rfl (lv_at hl 1 rfl) ?_
    have n_4 : vp_in x1 16 := (rg_in hx1 (by decide))
    have b_5 : (x1).toNatClampNeg < 16 := vp_lt n_4
    refine th_aald hx hb hK hP 10 2 (Nat.lt_of_lt_of_le (by decide) hn) (sM_10 hT) rfl n_4 dX7_isHalf_17 ?_
    refine lv_bipush (v := 9) hx hb dX7_isHalf_18 (by decide) ?_
    refine th_iald hx hb hK hP (48 + (x1).toNatClampNeg) (lt_blk b_5 hn (by decide)) (hT.bbridge b_5).1 (rg_in (rg_c (v := 9) (lo := 9) (hi := 9) (by decide)) (by decide)) dX7_isHalf_20 ?_
    refine lv_if_ne (tgt := 28) hx hb dX7_isHalf_21 (by decide) (fun (c_6 : ¬ ((ga (C (48 + (x1).toNatClampNeg)) ((9 : Int32)).toNatClampNeg) = 0)) => ?_) (fun (c_6 : (ga (C (48 + (x1).toNatClampNeg)) ((9 : Int32)).toNatClampNeg) = 0) => ?_)
    · refine lv_iconst (v := 0) hx hb dX7_isHalf_28 (by decide) ?_
      rw [hQ]
      exact W.zret (v := 0) (ty := .boolean) hx hb hr (by decide) (fun t ht hW => ⟨0, rfl, ⟨(Or.inl rfl), ⟨fun h8 => absurd h8 (by decide), fun h8 => absurd h8 (fun h8 => c_6 h8.2)⟩⟩, ht⟩) (fun q h => by cases h) dX7_isHalf_29
    · refine lv_iconst (v := 1) hx hb dX7_isHalf_24 (by decide) ?_
      refine lv_goto (tgt := 29) hx hb dX7_isHalf_25 (by decide) ?_
      rw [hQ]
      exact W.zret (v := 1) (ty := .boolean) hx hb hr (by decide) (fun t ht hW => ⟨1, rfl, ⟨(Or.inr rfl), ⟨fun _ => ⟨(Int32.not_lt.mp c_3), c_6⟩, fun _ => rfl⟩⟩, ht⟩) (fun q h => by cases h) dX7_isHalf_29

set_option maxHeartbeats 4000000 in
set_option maxRecDepth 100000 in
theorem e_X7_isNothing (l : Launch) (D : va_G) (E : Nat → ClassId) (G : Nat → Nat) (a : Nat → Nat) (C : Nat → va_E) (n : Nat) (hn : 74 ≤ n) (hT : TyM a E C) (x1 : Int32) (hx1 : rg x1 0 15) : Met l yX7_isNothing (oh_w yX7_isNothing cX7_isNothing 2 (some .boolean)) ({ frames := 0, cells := 0, slots := 0, locals := 0 }) (oh_Pp D E G [.ref (a 0), .int x1] (oh_W n a C)) (vp_Si (fun r => (r = 0 ∨ r = 1) ∧ (r = 1 ↔ (ga (C (48 + (x1).toNatClampNeg)) ((1 : Int32)).toNatClampNeg = 5 ∧ ga (C 13) ((2 : Int32)).toNatClampNeg = 0)))) 0 0 (fun _ => False) := by
  refine Met.ofW (cc := cX7_isNothing) (maxL := 2) (ret := (some .boolean)) (by decide) rfl ?_
  intro p e s m args below meth c s₁ B hml hv
  obtain ⟨rfl, hP, hK, hG⟩ := hv
  have hx := B.exec
  have hb := B.bytes
  have hr := B.returns
  have hts := atoms_spec (ws := (oh_w yX7_isNothing cX7_isNothing 2 (some .boolean))) B.pre
  have htg : ∀ w ∈ oh_t, w.before _ s = true := fun w h => hts w (List.mem_cons_of_mem _ h)
  have hown : s.vm.findClass RX7 = some m.cls := findClass_of_methodNamed B.named
  have hlocks := B.notSynchronized
  have hT0 := hT
  have hS : va_S (fun _ => False) s.heap s.heap [] := va_S.rf
  have hl := lv_entry ([.ref (a 0), .int x1]) (n := 2) (Nat.le_of_ble_eq_true rfl)
  rw [lg_entry_eq]
  generalize (lg_sl ([.ref (a 0), .int x1]) ++ List.replicate (2 - (lg_sl ([.ref (a 0), .int x1])).length) Slot.unset).toArray = ls at hl ⊢
  have hl : lv_has ls 2 [(0, .ref (a 0)), (1, .int x1)] := hl
  refine oh_genQ (fun Q hQ => ?_)
  refine lv_aload_n hx hb dX7_isNothing_0 rfl (lv_at hl 0 rfl) ?_
  refine va_get (D := D) (ci := 7) (v := .ref (a 10)) (C := RX7) (T := TX7) (N := 29) hx hb htg ig_7 hown hK hP 0 (oh_wg (Nat.lt_of_lt_of_le (by decide) hn) (sM_0 hT)) rfl 12 (by decide) (htg _ q_985) (fun _ h9 => h9) rfl dX7_isNothing_1 ?_
  refine lv_iload_n hx hb dX7_isNothing_4 rfl (lv_at hl 1 rfl) ?_
  have n_1 : vp_in x1 16 := (rg_in hx1 (by decide))
  have b_2 : (x1).toNatClampNeg < 16 := vp_lt n_1
  refine th_aald hx hb hK hP 10 2 (Nat.lt_of_lt_of_le (by decide) hn) (sM_10 hT) rfl n_1 dX7_isNothing_5 ?_
  refine lv_iconst (v := 1) hx hb dX7_isNothing_6 (by decide) ?_
  refine th_iald hx hb hK hP (48 + (x1).toNatClampNeg) (lt_blk b_2 hn (by decide)) (hT.bbridge b_2).1 (rg_in (rg_c (v := 1) (lo := 1) (hi := 1) (by decide)) (by decide)) dX7_isNothing_7 ?_
  refine lv_iconst (v := 5) hx hb dX7_isNothing_8 (by decide) ?_
  refine lv_icmp_ne (tgt := 25) hx hb dX7_isNothing_9 (by decide) (fun (c_3 : ¬ ((ga (C (48 + (x1).toNatClampNeg)) ((1 : Int32)).toNatClampNeg) = 5)) => ?_) (fun (c_3 : (ga (C (48 + (x1).toNatClampNeg)) ((1 : Int32)).toNatClampNeg) = 5) => ?_)
  · refine lv_iconst (v := 0) hx hb dX7_isNothing_25 (by decide) ?_
    rw [hQ]
    exact W.zret (v := 0) (ty := .boolean) hx hb hr (by decide) (fun t ht hW => ⟨0, rfl, ⟨(Or.inl rfl), ⟨fun h8 => absurd h8 (by decide), fun h8 => absurd h8 (fun h8 => c_3 h8.1)⟩⟩, ht⟩) (fun q h => by cases h) dX7_isNothing_26
  · refine lv_aload_n hx hb dX7_isNothing_12 rfl (lv_at hl 0 rfl) ?_
    refine va_get (D := D) (ci := 7) (v := .ref (a 13)) (C := RX7) (T := TX7) (N := 29) hx hb htg ig_7 hown hK hP 0 (oh_wg (Nat.lt_of_lt_of_le (by decide) hn) (sM_0 hT)) rfl 17 (by decide) (htg _ q_990) (fun _ h9 => h9) rfl dX7_isNothing_13 ?_
    refine lv_iconst (v := 2) hx hb dX7_isNothing_16 (by decide) ?_
    refine th_iald hx hb hK hP 13 (Nat.lt_of_lt_of_le (by decide) hn) (sM_13 hT) (rg_in (rg_c (v := 2) (lo := 2) (hi := 2) (by decide)) (by decide)) dX7_isNothing_17 ?_
    refine lv_if_ne (tgt := 25) hx hb dX7_isNothing_18 (by decide) (fun (c_4 : ¬ ((ga (C 13) ((2 : Int32)).toNatClampNeg) = 0)) => ?_) (fun (c_4 : (ga (C 13) ((2 : Int32)).toNatClampNeg) = 0) => ?_)
    · refine lv_iconst (v := 0) hx hb dX7_isNothing_25 (by decide) ?_
      rw [hQ]
      exact W.zret (v := 0) (ty := .boolean) hx hb hr (by decide) (fun t ht hW => ⟨0, rfl, ⟨(Or.inl rfl), ⟨fun h8 => absurd h8 (by decide), fun h8 => absurd h8 (fun h8 => c_4 h8.2)⟩⟩, ht⟩) (fun q h => by cases h) dX7_isNothing_26
    · refine lv_iconst (v := 1) hx hb dX7_isNothing_21 (by decide) ?_
      refine lv_goto (tgt := 26) hx hb dX7_isNothing_22 (by decide) ?_
      rw [hQ]
      exact W.zret (v := 1) (ty := .boolean) hx hb hr (by decide) (fun t ht hW => ⟨1, rfl, ⟨(Or.inr rfl), ⟨fun _ => ⟨c_3, c_4⟩, fun _ => rfl⟩⟩, ht⟩) (fun q h => by cases h) dX7_isNothing_26

set_option maxHeartbeats 4000000 in
set_option maxRecDepth 100000 in
theorem e_X7_axleOf (l : Launch) (D : va_G) (E : Nat → ClassId) (G : Nat → Nat) (a : Nat → Nat) (C : Nat → va_E) (n : Nat) (hn : 74 ≤ n) (hT : TyM a E C) (x1 : Int32) (hx1 : rg x1 0 15) : Met l yX7_axleOf (oh_w yX7_axleOf cX7_axleOf 4 (some .int)) ({ frames := 1, cells := 0, slots := 0, locals := 21 }) (oh_Pp D E G [.ref (a 0), .int x1] (oh_W n a C)) (vp_Si (fun r => ((ga (C (48 + (x1).toNatClampNeg)) ((1 : Int32)).toNatClampNeg).toInt ≤ 5 → r = bAxF (ga (C (48 + (x1).toNatClampNeg)) ((1 : Int32)).toNatClampNeg) (ga (C (48 + (x1).toNatClampNeg)) ((3 : Int32)).toNatClampNeg) (ga (C (48 + (x1).toNatClampNeg)) ((8 : Int32)).toNatClampNeg) (ga (C (48 + (x1).toNatClampNeg)) ((9 : Int32)).toNatClampNeg) (ga (C 13) ((2 : Int32)).toNatClampNeg)))) 0 0 (fun _ => False) := by
  refine Met.ofW (cc := cX7_axleOf) (maxL := 4) (ret := (some .int)) (by decide) rfl ?_
  intro p e s m args below meth c s₁ B hml hv
  obtain ⟨rfl, hP, hK, hG⟩ := hv
  have hx := B.exec
  have hb := B.bytes
  have hr := B.returns
  have hts := atoms_spec (ws := (oh_w yX7_axleOf cX7_axleOf 4 (some .int))) B.pre
  have htg : ∀ w ∈ oh_t, w.before _ s = true := fun w h => hts w (List.mem_cons_of_mem _ h)
  have hown : s.vm.findClass RX7 = some m.cls := findClass_of_methodNamed B.named
  have hlocks := B.notSynchronized
  have hT0 := hT
  have hS : va_S (fun _ => False) s.heap s.heap [] := va_S.rf
  have hl := lv_entry ([.ref (a 0), .int x1]) (n := 4) (Nat.le_of_ble_eq_true rfl)
  rw [lg_entry_eq]
  generalize (lg_sl ([.ref (a 0), .int x1]) ++ List.replicate (4 - (lg_sl ([.ref (a 0), .int x1])).length) Slot.unset).toArray = ls at hl ⊢
  have hl : lv_has ls 4 [(0, .ref (a 0)), (1, .int x1)] := hl
  refine oh_genQ (fun Q hQ => ?_)
  refine lv_aload_n hx hb dX7_axleOf_0 rfl (lv_at hl 0 rfl) ?_
  refine va_get (D := D) (ci := 7) (v := .ref (a 10)) (C := RX7) (T := TX7) (N := 29) hx hb htg ig_7 hown hK hP 0 (oh_wg (Nat.lt_of_lt_of_le (by decide) hn) (sM_0 hT)) rfl 12 (by decide) (htg _ q_985) (fun _ h9 => h9) rfl dX7_axleOf_1 ?_
  refine lv_iload_n hx hb dX7_axleOf_4 rfl (lv_at hl 1 rfl) ?_
  have n_1 : vp_in x1 16 := (rg_in hx1 (by decide))
  have b_2 : (x1).toNatClampNeg < 16 := vp_lt n_1
  refine th_aald hx hb hK hP 10 2 (Nat.lt_of_lt_of_le (by decide) hn) (sM_10 hT) rfl n_1 dX7_axleOf_5 ?_
  refine lv_iconst (v := 1) hx hb dX7_axleOf_6 (by decide) ?_
  refine th_iald hx hb hK hP (48 + (x1).toNatClampNeg) (lt_blk b_2 hn (by decide)) (hT.bbridge b_2).1 (rg_in (rg_c (v := 1) (lo := 1) (hi := 1) (by decide)) (by decide)) dX7_axleOf_7 ?_
  refine lv_istore_n (lv' := [(2, .int (ga (C (48 + (x1).toNatClampNeg)) ((1 : Int32)).toNatClampNeg)), (0, .ref (a 0)), (1, .int x1)]) hx hb dX7_axleOf_8 rfl hl (by decide) rfl (fun ls hl => ?_)
  refine lv_aload_n hx hb dX7_axleOf_9 rfl (lv_at hl 1 rfl) ?_
  refine va_get (D := D) (ci := 7) (v := .ref (a 10)) (C := RX7) (T := TX7) (N := 29) hx hb htg ig_7 hown hK hP 0 (oh_wg (Nat.lt_of_lt_of_le (by decide) hn) (sM_0 hT)) rfl 12 (by decide) (htg _ q_985) (fun _ h9 => h9) rfl dX7_axleOf_10 ?_
  refine lv_iload_n hx hb dX7_axleOf_13 rfl (lv_at hl 2 rfl) ?_
  have n_3 : vp_in x1 16 := (rg_in hx1 (by decide))
  have b_4 : (x1).toNatClampNeg < 16 := vp_lt n_3
  refine th_aald hx hb hK hP 10 2 (Nat.lt_of_lt_of_le (by decide) hn) (sM_10 hT) rfl n_3 dX7_axleOf_14 ?_
  refine lv_bipush (v := 8) hx hb dX7_axleOf_15 (by decide) ?_
  refine th_iald hx hb hK hP (48 + (x1).toNatClampNeg) (lt_blk b_4 hn (by decide)) (hT.bbridge b_4).1 (rg_in (rg_c (v := 8) (lo := 8) (hi := 8) (by decide)) (by decide)) dX7_axleOf_17 ?_
  refine lv_iconst (v := 1) hx hb dX7_axleOf_18 (by decide) ?_
  refine lv_icmp_eq (tgt := 30) hx hb dX7_axleOf_19 (by decide) (fun (c_5 : (ga (C (48 + (x1).toNatClampNeg)) ((8 : Int32)).toNatClampNeg) = 1) => ?_) (fun (c_5 : ¬ ((ga (C (48 + (x1).toNatClampNeg)) ((8 : Int32)).toNatClampNeg) = 1)) => ?_)
  · refine lv_iconst (v := 0) hx hb dX7_axleOf_30 (by decide) ?_
    rw [hQ]
    exact W.iret (v := 0) hx hb hr (fun t ht hW => ⟨0, rfl, (fun hk => ((pif_pos (Or.inl c_5))).symm), ht⟩) (fun q h => by cases h) dX7_axleOf_31
  · refine lv_aload_n hx hb dX7_axleOf_22 rfl (lv_at hl 1 rfl) ?_
    refine lv_iload_n hx hb dX7_axleOf_23 rfl (lv_at hl 2 rfl) ?_
    refine tq_V (As := [.int x1]) (rest := []) (ws := (oh_W n a C)) ⟨hx, hb, hml, hown, htg⟩ (e_X7_isNothing l D E G a C n hn hT x1 (rg_w hx1 (by decide))) (cwV 1 htg (oh_gV q_1114 q_1116 q_32 q_73 q_1117) rfl rfl rfl pdVX7_isNothing ⟨Nat.le_of_ble_eq_true rfl, Nat.le_of_ble_eq_true rfl⟩) hK hP hG hS (va_recv hK hP (ci := 7) (q0 := 0) rfl (oh_wg (Nat.lt_of_lt_of_le (by decide) hn) (sM_0 hT))) rfl hl.1 rfl (Nat.le_of_ble_eq_true rfl) dX7_axleOf_24 ⟨Nat.le_of_ble_eq_true rfl, Nat.le_of_ble_eq_true rfl⟩ (fun r_6 hq_7 => ?_)
    refine lv_if_eq (tgt := 32) hx hb dX7_axleOf_27 (by decide) (fun (c_8 : r_6 = 0) => ?_) (fun (c_8 : ¬ (r_6 = 0)) => ?_)
    · refine lv_aload_n hx hb dX7_axleOf_32 rfl (lv_at hl 1 rfl) ?_
      refine va_get (D := D) (ci := 7) (v := .ref (a 10)) (C := RX7) (T := TX7) (N := 29) hx hb htg ig_7 hown hK hP 0 (oh_wg (Nat.lt_of_lt_of_le (by decide) hn) (sM_0 hT)) rfl 12 (by decide) (htg _ q_985) (fun _ h9 => h9) rfl dX7_axleOf_33 ?_
      refine lv_iload_n hx hb dX7_axleOf_36 rfl (lv_at hl 2 rfl) ?_
      have n_9 : vp_in x1 16 := (rg_in hx1 (by decide))
      have b_10 : (x1).toNatClampNeg < 16 := vp_lt n_9
      refine th_aald hx hb hK hP 10 2 (Nat.lt_of_lt_of_le (by decide) hn) (sM_10 hT) rfl n_9 dX7_axleOf_37 ?_
      refine lv_iconst (v := 3) hx hb dX7_axleOf_38 (by decide) ?_
      refine th_iald hx hb hK hP (48 + (x1).toNatClampNeg) (lt_blk b_10 hn (by decide)) (hT.bbridge b_10).1 (rg_in (rg_c (v := 3) (lo := 3) (hi := 3) (by decide)) (by decide)) dX7_axleOf_39 ?_
      refine lv_iload_n hx hb dX7_axleOf_40 rfl (lv_at hl 0 rfl) ?_
      refine lv_iconst (v := 2) hx hb dX7_axleOf_41 (by decide) ?_
      refine lv_icmp_ne (tgt := 49) hx hb dX7_axleOf_42 (by decide) (fun (c_11 : ¬ ((ga (C (48 + (x1).toNatClampNeg)) ((1 : Int32)).toNatClampNeg) = 2)) => ?_) (fun (c_11 : (ga (C (48 + (x1).toNatClampNeg)) ((1 : Int32)).toNatClampNeg) = 2) => ?_)
      · refine lv_iconst (v := 0) hx hb dX7_axleOf_49 (by decide) ?_
        refine lv_iadd hx hb dX7_axleOf_50 ?_
        refine lv_istore_n (lv' := [(3, .int ((ga (C (48 + (x1).toNatClampNeg)) ((3 : Int32)).toNatClampNeg) + 0)), (2, .int (ga (C (48 + (x1).toNatClampNeg)) ((1 : Int32)).toNatClampNeg)), (0, .ref (a 0)), (1, .int x1)]) hx hb dX7_axleOf_51 rfl hl (by decide) rfl (fun ls hl => ?_)
        refine lv_aload_n hx hb dX7_axleOf_52 rfl (lv_at hl 2 rfl) ?_
        refine lv_iload_n hx hb dX7_axleOf_53 rfl (lv_at hl 3 rfl) ?_
        refine tq_V (As := [.int x1]) (rest := []) (ws := (oh_W n a C)) ⟨hx, hb, hml, hown, htg⟩ (e_X7_isHalf l D E G a C n hn hT x1 (rg_w hx1 (by decide))) (cwV 1 htg (oh_gV q_1118 q_1120 q_33 q_73 q_1121) rfl rfl rfl pdVX7_isHalf ⟨Nat.le_of_ble_eq_true rfl, Nat.le_of_ble_eq_true rfl⟩) hK hP hG hS (va_recv hK hP (ci := 7) (q0 := 0) rfl (oh_wg (Nat.lt_of_lt_of_le (by decide) hn) (sM_0 hT))) rfl hl.1 rfl (Nat.le_of_ble_eq_true rfl) dX7_axleOf_54 ⟨Nat.le_of_ble_eq_true rfl, Nat.le_of_ble_eq_true rfl⟩ (fun r_12 hq_13 => ?_)
        refine lv_if_eq (tgt := 66) hx hb dX7_axleOf_57 (by decide) (fun (c_14 : r_12 = 0) => ?_) (fun (c_14 : ¬ (r_12 = 0)) => ?_)
        · refine lv_iload_n hx hb dX7_axleOf_66 rfl (lv_at hl 0 rfl) ?_
          rw [hQ]
          exact W.iret (v := (ga (C (48 + (x1).toNatClampNeg)) ((3 : Int32)).toNatClampNeg) + 0) hx hb hr (fun t ht hW => ⟨(ga (C (48 + (x1).toNatClampNeg)) ((3 : Int32)).toNatClampNeg) + 0, rfl, (fun hk => Eq.trans (show _ = belF (ga (C (48 + (x1).toNatClampNeg)) ((1 : Int32)).toNatClampNeg) (ga (C (48 + (x1).toNatClampNeg)) ((8 : Int32)).toNatClampNeg) (ga (C (48 + (x1).toNatClampNeg)) ((9 : Int32)).toNatClampNeg) (ga (C 13) ((2 : Int32)).toNatClampNeg) (ga (C (48 + (x1).toNatClampNeg)) ((3 : Int32)).toNatClampNeg + 0) from ((Eq.trans (pif_neg (fun h8 => h8.elim c_5 (fun h8 => absurd (Eq.trans (Eq.symm c_8) (hq_7.2.mpr h8)) (by decide)))) (pif_neg (fun h8 => absurd (Eq.trans (Eq.symm c_14) (hq_13.2.mpr ((hf_c hk).mpr h8))) (by decide))))).symm) (congrArg (belF (ga (C (48 + (x1).toNatClampNeg)) ((1 : Int32)).toNatClampNeg) (ga (C (48 + (x1).toNatClampNeg)) ((8 : Int32)).toNatClampNeg) (ga (C (48 + (x1).toNatClampNeg)) ((9 : Int32)).toNatClampNeg) (ga (C 13) ((2 : Int32)).toNatClampNeg)) (show _ = (ga (C (48 + (x1).toNatClampNeg)) ((3 : Int32)).toNatClampNeg + 0) from (Eq.trans (pif_neg c_11) (Int32.add_zero _).symm)).symm)), ht⟩) (fun q h => by cases h) dX7_axleOf_67
        · refine lv_iload_n hx hb dX7_axleOf_60 rfl (lv_at hl 0 rfl) ?_
          refine lv_iconst (v := 2) hx hb dX7_axleOf_61 (by decide) ?_
          refine lv_idiv hx hb dX7_axleOf_62 (by decide) ?_
          refine lv_goto (tgt := 67) hx hb dX7_axleOf_63 (by decide) ?_
          rw [hQ]
          exact W.iret (v := ((ga (C (48 + (x1).toNatClampNeg)) ((3 : Int32)).toNatClampNeg) + 0) / 2) hx hb hr (fun t ht hW => ⟨((ga (C (48 + (x1).toNatClampNeg)) ((3 : Int32)).toNatClampNeg) + 0) / 2, rfl, (fun hk => Eq.trans (show _ = belF (ga (C (48 + (x1).toNatClampNeg)) ((1 : Int32)).toNatClampNeg) (ga (C (48 + (x1).toNatClampNeg)) ((8 : Int32)).toNatClampNeg) (ga (C (48 + (x1).toNatClampNeg)) ((9 : Int32)).toNatClampNeg) (ga (C 13) ((2 : Int32)).toNatClampNeg) (ga (C (48 + (x1).toNatClampNeg)) ((3 : Int32)).toNatClampNeg + 0) from ((Eq.trans (pif_neg (fun h8 => h8.elim c_5 (fun h8 => absurd (Eq.trans (Eq.symm c_8) (hq_7.2.mpr h8)) (by decide)))) (pif_pos ((hf_c hk).mp (hq_13.2.mp (oh_b1 (rg_w (lo := 0) (hi := 1) (rn_nel (l' := 1) c_14 (oh_rgb hq_13.1) (rg_c (v := 0) (lo := 0) (hi := 0) (by decide)) (by decide)) (by decide)) c_14)))))).symm) (congrArg (belF (ga (C (48 + (x1).toNatClampNeg)) ((1 : Int32)).toNatClampNeg) (ga (C (48 + (x1).toNatClampNeg)) ((8 : Int32)).toNatClampNeg) (ga (C (48 + (x1).toNatClampNeg)) ((9 : Int32)).toNatClampNeg) (ga (C 13) ((2 : Int32)).toNatClampNeg)) (show _ = (ga (C (48 + (x1).toNatClampNeg)) ((3 : Int32)).toNatClampNeg + 0) from (Eq.trans (pif_neg c_11) (Int32.add_zero _).symm)).symm)), ht⟩) (fun q h => by cases h) dX7_axleOf_67
      · refine lv_iconst (v := 5) hx hb dX7_axleOf_45 (by decide) ?_
        refine lv_goto (tgt := 50) hx hb dX7_axleOf_46 (by decide) ?_
        refine lv_iadd hx hb dX7_axleOf_50 ?_
        refine lv_istore_n (lv' := [(3, .int ((ga (C (48 + (x1).toNatClampNeg)) ((3 : Int32)).toNatClampNeg) + 5)), (2, .int (ga (C (48 + (x1).toNatClampNeg)) ((1 : Int32)).toNatClampNeg)), (0, .ref (a 0)), (1, .int x1)]) hx hb dX7_axleOf_51 rfl hl (by decide) rfl (fun ls hl => ?_)
        refine lv_aload_n hx hb dX7_axleOf_52 rfl (lv_at hl 2 rfl) ?_
        refine lv_iload_n hx hb dX7_axleOf_53 rfl (lv_at hl 3 rfl) ?_
        refine tq_V (As := [.int x1]) (rest := []) (ws := (oh_W n a C)) ⟨hx, hb, hml, hown, htg⟩ (e_X7_isHalf l D E G a C n hn hT x1 (rg_w hx1 (by decide))) (cwV 1 htg (oh_gV q_1118 q_1120 q_33 q_73 q_1121) rfl rfl rfl pdVX7_isHalf ⟨Nat.le_of_ble_eq_true rfl, Nat.le_of_ble_eq_true rfl⟩) hK hP hG hS (va_recv hK hP (ci := 7) (q0 := 0) rfl (oh_wg (Nat.lt_of_lt_of_le (by decide) hn) (sM_0 hT))) rfl hl.1 rfl (Nat.le_of_ble_eq_true rfl) dX7_axleOf_54 ⟨Nat.le_of_ble_eq_true rfl, Nat.le_of_ble_eq_true rfl⟩ (fun r_15 hq_16 => ?_)
        refine lv_if_eq (tgt := 66) hx hb dX7_axleOf_57 (by decide) (fun (c_17 : r_15 = 0) => ?_) (fun (c_17 : ¬ (r_15 = 0)) => ?_)
        · refine lv_iload_n hx hb dX7_axleOf_66 rfl (lv_at hl 0 rfl) ?_
          rw [hQ]
          exact W.iret (v := (ga (C (48 + (x1).toNatClampNeg)) ((3 : Int32)).toNatClampNeg) + 5) hx hb hr (fun t ht hW => ⟨(ga (C (48 + (x1).toNatClampNeg)) ((3 : Int32)).toNatClampNeg) + 5, rfl, (fun hk => Eq.trans (show _ = belF (ga (C (48 + (x1).toNatClampNeg)) ((1 : Int32)).toNatClampNeg) (ga (C (48 + (x1).toNatClampNeg)) ((8 : Int32)).toNatClampNeg) (ga (C (48 + (x1).toNatClampNeg)) ((9 : Int32)).toNatClampNeg) (ga (C 13) ((2 : Int32)).toNatClampNeg) (ga (C (48 + (x1).toNatClampNeg)) ((3 : Int32)).toNatClampNeg + 5) from ((Eq.trans (pif_neg (fun h8 => h8.elim c_5 (fun h8 => absurd (Eq.trans (Eq.symm c_8) (hq_7.2.mpr h8)) (by decide)))) (pif_neg (fun h8 => absurd (Eq.trans (Eq.symm c_17) (hq_16.2.mpr ((hf_c hk).mpr h8))) (by decide))))).symm) (congrArg (belF (ga (C (48 + (x1).toNatClampNeg)) ((1 : Int32)).toNatClampNeg) (ga (C (48 + (x1).toNatClampNeg)) ((8 : Int32)).toNatClampNeg) (ga (C (48 + (x1).toNatClampNeg)) ((9 : Int32)).toNatClampNeg) (ga (C 13) ((2 : Int32)).toNatClampNeg)) (show _ = (ga (C (48 + (x1).toNatClampNeg)) ((3 : Int32)).toNatClampNeg + 5) from (pif_pos c_11)).symm)), ht⟩) (fun q h => by cases h) dX7_axleOf_67
        · refine lv_iload_n hx hb dX7_axleOf_60 rfl (lv_at hl 0 rfl) ?_
          refine lv_iconst (v := 2) hx hb dX7_axleOf_61 (by decide) ?_
          refine lv_idiv hx hb dX7_axleOf_62 (by decide) ?_
          refine lv_goto (tgt := 67) hx hb dX7_axleOf_63 (by decide) ?_
          rw [hQ]
          exact W.iret (v := ((ga (C (48 + (x1).toNatClampNeg)) ((3 : Int32)).toNatClampNeg) + 5) / 2) hx hb hr (fun t ht hW => ⟨((ga (C (48 + (x1).toNatClampNeg)) ((3 : Int32)).toNatClampNeg) + 5) / 2, rfl, (fun hk => Eq.trans (show _ = belF (ga (C (48 + (x1).toNatClampNeg)) ((1 : Int32)).toNatClampNeg) (ga (C (48 + (x1).toNatClampNeg)) ((8 : Int32)).toNatClampNeg) (ga (C (48 + (x1).toNatClampNeg)) ((9 : Int32)).toNatClampNeg) (ga (C 13) ((2 : Int32)).toNatClampNeg) (ga (C (48 + (x1).toNatClampNeg)) ((3 : Int32)).toNatClampNeg + 5) from ((Eq.trans (pif_neg (fun h8 => h8.elim c_5 (fun h8 => absurd (Eq.trans (Eq.symm c_8) (hq_7.2.mpr h8)) (by decide)))) (pif_pos ((hf_c hk).mp (hq_16.2.mp (oh_b1 (rg_w (lo := 0) (hi := 1) (rn_nel (l' := 1) c_17 (oh_rgb hq_16.1) (rg_c (v := 0) (lo := 0) (hi := 0) (by decide)) (by decide)) (by decide)) c_17)))))).symm) (congrArg (belF (ga (C (48 + (x1).toNatClampNeg)) ((1 : Int32)).toNatClampNeg) (ga (C (48 + (x1).toNatClampNeg)) ((8 : Int32)).toNatClampNeg) (ga (C (48 + (x1).toNatClampNeg)) ((9 : Int32)).toNatClampNeg) (ga (C 13) ((2 : Int32)).toNatClampNeg)) (show _ = (ga (C (48 + (x1).toNatClampNeg)) ((3 : Int32)).toNatClampNeg + 5) from (pif_pos c_11)).symm)), ht⟩) (fun q h => by cases h) dX7_axleOf_67
    · refine lv_iconst (v := 0) hx hb dX7_axleOf_30 (by decide) ?_
      rw [hQ]
      exact W.iret (v := 0) hx hb hr (fun t ht hW => ⟨0, rfl, (fun hk => ((pif_pos (Or.inr (hq_7.2.mp (oh_b1 (rg_w (lo := 0) (hi := 1) (rn_nel (l' := 1) c_8 (oh_rgb hq_7.1) (rg_c (v := 0) (lo := 0) (hi := 0) (by decide)) (by decide)) (by decide)) c_8))))).symm), ht⟩) (fun q h => by cases h) dX7_axleOf_31

set_option maxHeartbeats 4000000 in
set_option maxRecDepth 100000 in
theorem e_X7_allOf (l : Launch) (D : va_G) (E : Nat → ClassId) (G : Nat → Nat) (a : Nat → Nat) (C : Nat → va_E) (n : Nat) (hn : 74 ≤ n) (hT : TyM a E C) (x1 : Int32) (x2 : Int32) (hx1 : rg x1 0 15) (hx2 : rg x2 0 1) : Met l yX7_allOf (oh_w yX7_allOf cX7_allOf 5 (some .int)) ({ frames := 1, cells := 0, slots := 0, locals := 21 }) (oh_Pp D E G [.ref (a 0), .int x1, .int x2] (oh_W n a C)) (vp_Si (fun r => ((ga (C (48 + (x1).toNatClampNeg)) ((1 : Int32)).toNatClampNeg).toInt ≤ 5 → rg (ga (C (48 + (x1).toNatClampNeg)) ((8 : Int32)).toNatClampNeg) 0 1 → r = bAlF (x2 = 1) (ga (C (48 + (x1).toNatClampNeg)) ((1 : Int32)).toNatClampNeg) (ga (C (48 + (x1).toNatClampNeg)) ((4 : Int32)).toNatClampNeg) (ga (C (48 + (x1).toNatClampNeg)) ((5 : Int32)).toNatClampNeg) (ga (C (48 + (x1).toNatClampNeg)) ((8 : Int32)).toNatClampNeg) (ga (C (48 + (x1).toNatClampNeg)) ((9 : Int32)).toNatClampNeg) (ga (C 13) ((2 : Int32)).toNatClampNeg)))) 0 0 (fun _ => False) := by
  refine Met.ofW (cc := cX7_allOf) (maxL := 5) (ret := (some .int)) (by decide) rfl ?_
  intro p e s m args below meth c s₁ B hml hv
  obtain ⟨rfl, hP, hK, hG⟩ := hv
  have hx := B.exec
  have hb := B.bytes
  have hr := B.returns
  have hts := atoms_spec (ws := (oh_w yX7_allOf cX7_allOf 5 (some .int))) B.pre
  have htg : ∀ w ∈ oh_t, w.before _ s = true := fun w h => hts w (List.mem_cons_of_mem _ h)
  have hown : s.vm.findClass RX7 = some m.cls := findClass_of_methodNamed B.named
  have hlocks := B.notSynchronized
  have hT0 := hT
  have hS : va_S (fun _ => False) s.heap s.heap [] := va_S.rf
  have hl := lv_entry ([.ref (a 0), .int x1, .int x2]) (n := 5) (Nat.le_of_ble_eq_true rfl)
  rw [lg_entry_eq]
  generalize (lg_sl ([.ref (a 0), .int x1, .int x2]) ++ List.replicate (5 - (lg_sl ([.ref (a 0), .int x1, .int x2])).length) Slot.unset).toArray = ls at hl ⊢
  have hl : lv_has ls 5 [(0, .ref (a 0)), (1, .int x1), (2, .int x2)] := hl
  refine oh_genQ (fun Q hQ => ?_)
  refine lv_aload_n hx hb dX7_allOf_0 rfl (lv_at hl 0 rfl) ?_
  refine va_get (D := D) (ci := 7) (v := .ref (a 10)) (C := RX7) (T := TX7) (N := 29) hx hb htg ig_7 hown hK hP 0 (oh_wg (Nat.lt_of_lt_of_le (by decide) hn) (sM_0 hT)) rfl 12 (by decide) (htg _ q_985) (fun _ h9 => h9) rfl dX7_allOf_1 ?_
  refine lv_iload_n hx hb dX7_allOf_4 rfl (lv_at hl 1 rfl) ?_
  have n_1 : vp_in x1 16 := (rg_in hx1 (by decide))
  have b_2 : (x1).toNatClampNeg < 16 := vp_lt n_1
  refine th_aald hx hb hK hP 10 2 (Nat.lt_of_lt_of_le (by decide) hn) (sM_10 hT) rfl n_1 dX7_allOf_5 ?_
  refine lv_iconst (v := 1) hx hb dX7_allOf_6 (by decide) ?_
  refine th_iald hx hb hK hP (48 + (x1).toNatClampNeg) (lt_blk b_2 hn (by decide)) (hT.bbridge b_2).1 (rg_in (rg_c (v := 1) (lo := 1) (hi := 1) (by decide)) (by decide)) dX7_allOf_7 ?_
  refine lv_istore_n (lv' := [(3, .int (ga (C (48 + (x1).toNatClampNeg)) ((1 : Int32)).toNatClampNeg)), (0, .ref (a 0)), (1, .int x1), (2, .int x2)]) hx hb dX7_allOf_8 rfl hl (by decide) rfl (fun ls hl => ?_)
  refine lv_aload_n hx hb dX7_allOf_9 rfl (lv_at hl 1 rfl) ?_
  refine va_get (D := D) (ci := 7) (v := .ref (a 10)) (C := RX7) (T := TX7) (N := 29) hx hb htg ig_7 hown hK hP 0 (oh_wg (Nat.lt_of_lt_of_le (by decide) hn) (sM_0 hT)) rfl 12 (by decide) (htg _ q_985) (fun _ h9 => h9) rfl dX7_allOf_10 ?_
  refine lv_iload_n hx hb dX7_allOf_13 rfl (lv_at hl 2 rfl) ?_
  have n_3 : vp_in x1 16 := (rg_in hx1 (by decide))
  have b_4 : (x1).toNatClampNeg < 16 := vp_lt n_3
  refine th_aald hx hb hK hP 10 2 (Nat.lt_of_lt_of_le (by decide) hn) (sM_10 hT) rfl n_3 dX7_allOf_14 ?_
  refine lv_bipush (v := 8) hx hb dX7_allOf_15 (by decide) ?_
  refine th_iald hx hb hK hP (48 + (x1).toNatClampNeg) (lt_blk b_4 hn (by decide)) (hT.bbridge b_4).1 (rg_in (rg_c (v := 8) (lo := 8) (hi := 8) (by decide)) (by decide)) dX7_allOf_17 ?_
  refine lv_iconst (v := 1) hx hb dX7_allOf_18 (by decide) ?_
  refine lv_icmp_ne (tgt := 24) hx hb dX7_allOf_19 (by decide) (fun (c_5 : ¬ ((ga (C (48 + (x1).toNatClampNeg)) ((8 : Int32)).toNatClampNeg) = 1)) => ?_) (fun (c_5 : (ga (C (48 + (x1).toNatClampNeg)) ((8 : Int32)).toNatClampNeg) = 1) => ?_)
  · refine lv_aload_n hx hb dX7_allOf_24 rfl (lv_at hl 1 rfl) ?_
    refine va_get (D := D) (ci := 7) (v := .ref (a 10)) (C := RX7) (T := TX7) (N := 29) hx hb htg ig_7 hown hK hP 0 (oh_wg (Nat.lt_of_lt_of_le (by decide) hn) (sM_0 hT)) rfl 12 (by decide) (htg _ q_985) (fun _ h9 => h9) rfl dX7_allOf_25 ?_
    refine lv_iload_n hx hb dX7_allOf_28 rfl (lv_at hl 2 rfl) ?_
    have n_6 : vp_in x1 16 := (rg_in hx1 (by decide))
    have b_7 : (x1).toNatClampNeg < 16 := vp_lt n_6
    refine th_aald hx hb hK hP 10 2 (Nat.lt_of_lt_of_le (by decide) hn) (sM_10 hT) rfl n_6 dX7_allOf_29 ?_
    refine lv_iconst (v := 4) hx hb dX7_allOf_30 (by decide) ?_
    refine th_iald hx hb hK hP (48 + (x1).toNatClampNeg) (lt_blk b_7 hn (by decide)) (hT.bbridge b_7).1 (rg_in (rg_c (v := 4) (lo := 4) (hi := 4) (by decide)) (by decide)) dX7_allOf_31 ?_
    refine lv_istore (lv' := [(4, .int (ga (C (48 + (x1).toNatClampNeg)) ((4 : Int32)).toNatClampNeg)), (3, .int (ga (C (48 + (x1).toNatClampNeg)) ((1 : Int32)).toNatClampNeg)), (0, .ref (a 0)), (1, .int x1), (2, .int x2)]) hx hb dX7_allOf_32 hl (by decide) rfl (fun ls hl => ?_)
    refine lv_iload hx hb dX7_allOf_34 (lv_at hl 0 rfl) ?_
    refine lv_iload_n hx hb dX7_allOf_36 rfl (lv_at hl 1 rfl) ?_
    refine lv_iconst (v := 1) hx hb dX7_allOf_37 (by decide) ?_
    refine lv_icmp_eq (tgt := 46) hx hb dX7_allOf_38 (by decide) (fun (c_8 : (ga (C (48 + (x1).toNatClampNeg)) ((1 : Int32)).toNatClampNeg) = 1) => ?_) (fun (c_8 : ¬ ((ga (C (48 + (x1).toNatClampNeg)) ((1 : Int32)).toNatClampNeg) = 1)) => ?_)
    · refine lv_iload hx hb dX7_allOf_46 (lv_at hl 0 rfl) ?_
      refine lv_bipush (v := 10) hx hb dX7_allOf_48 (by decide) ?_
      refine lv_idiv hx hb dX7_allOf_50 (by decide) ?_
      refine lv_goto (tgt := 55) hx hb dX7_allOf_51 (by decide) ?_
      refine lv_iadd hx hb dX7_allOf_55 ?_
      refine lv_istore (lv' := [(4, .int ((ga (C (48 + (x1).toNatClampNeg)) ((4 : Int32)).toNatClampNeg) + ((ga (C (48 + (x1).toNatClampNeg)) ((4 : Int32)).toNatClampNeg) / 10))), (3, .int (ga (C (48 + (x1).toNatClampNeg)) ((1 : Int32)).toNatClampNeg)), (0, .ref (a 0)), (1, .int x1), (2, .int x2)]) hx hb dX7_allOf_56 hl (by decide) rfl (fun ls hl => ?_)
      refine lv_aload_n hx hb dX7_allOf_58 rfl (lv_at hl 2 rfl) ?_
      refine lv_iload_n hx hb dX7_allOf_59 rfl (lv_at hl 3 rfl) ?_
      refine tq_V (As := [.int x1]) (rest := []) (ws := (oh_W n a C)) ⟨hx, hb, hml, hown, htg⟩ (e_X7_isNothing l D E G a C n hn hT x1 (rg_w hx1 (by decide))) (cwV 1 htg (oh_gV q_1114 q_1116 q_32 q_73 q_1117) rfl rfl rfl pdVX7_isNothing ⟨Nat.le_of_ble_eq_true rfl, Nat.le_of_ble_eq_true rfl⟩) hK hP hG hS (va_recv hK hP (ci := 7) (q0 := 0) rfl (oh_wg (Nat.lt_of_lt_of_le (by decide) hn) (sM_0 hT))) rfl hl.1 rfl (Nat.le_of_ble_eq_true rfl) dX7_allOf_60 ⟨Nat.le_of_ble_eq_true rfl, Nat.le_of_ble_eq_true rfl⟩ (fun r_9 hq_10 => ?_)
      refine lv_if_eq (tgt := 70) hx hb dX7_allOf_63 (by decide) (fun (c_11 : r_9 = 0) => ?_) (fun (c_11 : ¬ (r_9 = 0)) => ?_)
      · refine lv_aload_n hx hb dX7_allOf_70 rfl (lv_at hl 2 rfl) ?_
        refine lv_iload_n hx hb dX7_allOf_71 rfl (lv_at hl 3 rfl) ?_
        refine tq_V (As := [.int x1]) (rest := []) (ws := (oh_W n a C)) ⟨hx, hb, hml, hown, htg⟩ (e_X7_isHalf l D E G a C n hn hT x1 (rg_w hx1 (by decide))) (cwV 1 htg (oh_gV q_1118 q_1120 q_33 q_73 q_1121) rfl rfl rfl pdVX7_isHalf ⟨Nat.le_of_ble_eq_true rfl, Nat.le_of_ble_eq_true rfl⟩) hK hP hG hS (va_recv hK hP (ci := 7) (q0 := 0) rfl (oh_wg (Nat.lt_of_lt_of_le (by decide) hn) (sM_0 hT))) rfl hl.1 rfl (Nat.le_of_ble_eq_true rfl) dX7_allOf_72 ⟨Nat.le_of_ble_eq_true rfl, Nat.le_of_ble_eq_true rfl⟩ (fun r_12 hq_13 => ?_)
        refine lv_if_eq (tgt := 85) hx hb dX7_allOf_75 (by decide) (fun (c_14 : r_12 = 0) => ?_) (fun (c_14 : ¬ (r_12 = 0)) => ?_)
        · refine lv_iload hx hb dX7_allOf_85 (lv_at hl 0 rfl) ?_
          refine lv_istore (lv' := [(4, .int ((ga (C (48 + (x1).toNatClampNeg)) ((4 : Int32)).toNatClampNeg) + ((ga (C (48 + (x1).toNatClampNeg)) ((4 : Int32)).toNatClampNeg) / 10))), (3, .int (ga (C (48 + (x1).toNatClampNeg)) ((1 : Int32)).toNatClampNeg)), (0, .ref (a 0)), (1, .int x1), (2, .int x2)]) hx hb dX7_allOf_87 hl (by decide) rfl (fun ls hl => ?_)
          refine lv_iload hx hb dX7_allOf_89 (lv_at hl 0 rfl) ?_
          refine lv_iload_n hx hb dX7_allOf_91 rfl (lv_at hl 4 rfl) ?_
          refine lv_if_eq (tgt := 106) hx hb dX7_allOf_92 (by decide) (fun (c_15 : x2 = 0) => ?_) (fun (c_15 : ¬ (x2 = 0)) => ?_)
          · refine lv_iconst (v := 0) hx hb dX7_allOf_106 (by decide) ?_
            refine lv_iadd hx hb dX7_allOf_107 ?_
            rw [hQ]
            exact W.iret (v := ((ga (C (48 + (x1).toNatClampNeg)) ((4 : Int32)).toNatClampNeg) + ((ga (C (48 + (x1).toNatClampNeg)) ((4 : Int32)).toNatClampNeg) / 10)) + 0) hx hb hr (fun t ht hW => ⟨((ga (C (48 + (x1).toNatClampNeg)) ((4 : Int32)).toNatClampNeg) + ((ga (C (48 + (x1).toNatClampNeg)) ((4 : Int32)).toNatClampNeg) / 10)) + 0, rfl, (fun hk hf => Eq.trans (Eq.trans (Int32.add_zero _) (show (ga (C (48 + (x1).toNatClampNeg)) ((4 : Int32)).toNatClampNeg + ga (C (48 + (x1).toNatClampNeg)) ((4 : Int32)).toNatClampNeg / 10) = bUnF (ga (C (48 + (x1).toNatClampNeg)) ((1 : Int32)).toNatClampNeg) (ga (C (48 + (x1).toNatClampNeg)) ((4 : Int32)).toNatClampNeg) (ga (C (48 + (x1).toNatClampNeg)) ((8 : Int32)).toNatClampNeg) (ga (C (48 + (x1).toNatClampNeg)) ((9 : Int32)).toNatClampNeg) (ga (C 13) ((2 : Int32)).toNatClampNeg) from Eq.trans (show _ = belF (ga (C (48 + (x1).toNatClampNeg)) ((1 : Int32)).toNatClampNeg) (ga (C (48 + (x1).toNatClampNeg)) ((8 : Int32)).toNatClampNeg) (ga (C (48 + (x1).toNatClampNeg)) ((9 : Int32)).toNatClampNeg) (ga (C 13) ((2 : Int32)).toNatClampNeg) (ga (C (48 + (x1).toNatClampNeg)) ((4 : Int32)).toNatClampNeg + ga (C (48 + (x1).toNatClampNeg)) ((4 : Int32)).toNatClampNeg / 10) from ((Eq.trans (pif_neg (fun h8 => h8.elim c_5 (fun h8 => absurd (Eq.trans (Eq.symm c_11) (hq_10.2.mpr h8)) (by decide)))) (pif_neg (fun h8 => absurd (Eq.trans (Eq.symm c_14) (hq_13.2.mpr ((hf_c hk).mpr h8))) (by decide))))).symm) (congrArg (belF (ga (C (48 + (x1).toNatClampNeg)) ((1 : Int32)).toNatClampNeg) (ga (C (48 + (x1).toNatClampNeg)) ((8 : Int32)).toNatClampNeg) (ga (C (48 + (x1).toNatClampNeg)) ((9 : Int32)).toNatClampNeg) (ga (C 13) ((2 : Int32)).toNatClampNeg)) (show _ = (ga (C (48 + (x1).toNatClampNeg)) ((4 : Int32)).toNatClampNeg + ga (C (48 + (x1).toNatClampNeg)) ((4 : Int32)).toNatClampNeg / 10) from (pif_pos (Or.inl c_8))).symm))) (pif_neg (fun h8 => absurd (Eq.trans (Eq.symm c_15) h8.1) (by decide))).symm), ht⟩) (fun q h => by cases h) dX7_allOf_108
          · refine lv_aload_n hx hb dX7_allOf_95 rfl (lv_at hl 2 rfl) ?_
            refine va_get (D := D) (ci := 7) (v := .ref (a 10)) (C := RX7) (T := TX7) (N := 29) hx hb htg ig_7 hown hK hP 0 (oh_wg (Nat.lt_of_lt_of_le (by decide) hn) (sM_0 hT)) rfl 12 (by decide) (htg _ q_985) (fun _ h9 => h9) rfl dX7_allOf_96 ?_
            refine lv_iload_n hx hb dX7_allOf_99 rfl (lv_at hl 3 rfl) ?_
            have n_16 : vp_in x1 16 := (rg_in hx1 (by decide))
            have b_17 : (x1).toNatClampNeg < 16 := vp_lt n_16
            refine th_aald hx hb hK hP 10 2 (Nat.lt_of_lt_of_le (by decide) hn) (sM_10 hT) rfl n_16 dX7_allOf_100 ?_
            refine lv_iconst (v := 5) hx hb dX7_allOf_101 (by decide) ?_
            refine th_iald hx hb hK hP (48 + (x1).toNatClampNeg) (lt_blk b_17 hn (by decide)) (hT.bbridge b_17).1 (rg_in (rg_c (v := 5) (lo := 5) (hi := 5) (by decide)) (by decide)) dX7_allOf_102 ?_
            refine lv_goto (tgt := 107) hx hb dX7_allOf_103 (by decide) ?_
            refine lv_iadd hx hb dX7_allOf_107 ?_
            rw [hQ]
            exact W.iret (v := ((ga (C (48 + (x1).toNatClampNeg)) ((4 : Int32)).toNatClampNeg) + ((ga (C (48 + (x1).toNatClampNeg)) ((4 : Int32)).toNatClampNeg) / 10)) + (ga (C (48 + (x1).toNatClampNeg)) ((5 : Int32)).toNatClampNeg)) hx hb hr (fun t ht hW => ⟨((ga (C (48 + (x1).toNatClampNeg)) ((4 : Int32)).toNatClampNeg) + ((ga (C (48 + (x1).toNatClampNeg)) ((4 : Int32)).toNatClampNeg) / 10)) + (ga (C (48 + (x1).toNatClampNeg)) ((5 : Int32)).toNatClampNeg), rfl, (fun hk hf => Eq.trans (congrArg (fun z => z + ga (C (48 + (x1).toNatClampNeg)) ((5 : Int32)).toNatClampNeg) (show (ga (C (48 + (x1).toNatClampNeg)) ((4 : Int32)).toNatClampNeg + ga (C (48 + (x1).toNatClampNeg)) ((4 : Int32)).toNatClampNeg / 10) = bUnF (ga (C (48 + (x1).toNatClampNeg)) ((1 : Int32)).toNatClampNeg) (ga (C (48 + (x1).toNatClampNeg)) ((4 : Int32)).toNatClampNeg) (ga (C (48 + (x1).toNatClampNeg)) ((8 : Int32)).toNatClampNeg) (ga (C (48 + (x1).toNatClampNeg)) ((9 : Int32)).toNatClampNeg) (ga (C 13) ((2 : Int32)).toNatClampNeg) from Eq.trans (show _ = belF (ga (C (48 + (x1).toNatClampNeg)) ((1 : Int32)).toNatClampNeg) (ga (C (48 + (x1).toNatClampNeg)) ((8 : Int32)).toNatClampNeg) (ga (C (48 + (x1).toNatClampNeg)) ((9 : Int32)).toNatClampNeg) (ga (C 13) ((2 : Int32)).toNatClampNeg) (ga (C (48 + (x1).toNatClampNeg)) ((4 : Int32)).toNatClampNeg + ga (C (48 + (x1).toNatClampNeg)) ((4 : Int32)).toNatClampNeg / 10) from ((Eq.trans (pif_neg (fun h8 => h8.elim c_5 (fun h8 => absurd (Eq.trans (Eq.symm c_11) (hq_10.2.mpr h8)) (by decide)))) (pif_neg (fun h8 => absurd (Eq.trans (Eq.symm c_14) (hq_13.2.mpr ((hf_c hk).mpr h8))) (by decide))))).symm) (congrArg (belF (ga (C (48 + (x1).toNatClampNeg)) ((1 : Int32)).toNatClampNeg) (ga (C (48 + (x1).toNatClampNeg)) ((8 : Int32)).toNatClampNeg) (ga (C (48 + (x1).toNatClampNeg)) ((9 : Int32)).toNatClampNeg) (ga (C 13) ((2 : Int32)).toNatClampNeg)) (show _ = (ga (C (48 + (x1).toNatClampNeg)) ((4 : Int32)).toNatClampNeg + ga (C (48 + (x1).toNatClampNeg)) ((4 : Int32)).toNatClampNeg / 10) from (pif_pos (Or.inl c_8))).symm))) (pif_pos ⟨oh_b1 hx2 c_15, (rg01 hf c_5)⟩).symm), ht⟩) (fun q h => by cases h) dX7_allOf_108
        · refine lv_iload hx hb dX7_allOf_78 (lv_at hl 0 rfl) ?_
          refine lv_iconst (v := 2) hx hb dX7_allOf_80 (by decide) ?_
          refine lv_idiv hx hb dX7_allOf_81 (by decide) ?_
          refine lv_goto (tgt := 87) hx hb dX7_allOf_82 (by decide) ?_
          refine lv_istore (lv' := [(4, .int (((ga (C (48 + (x1).toNatClampNeg)) ((4 : Int32)).toNatClampNeg) + ((ga (C (48 + (x1).toNatClampNeg)) ((4 : Int32)).toNatClampNeg) / 10)) / 2)), (3, .int (ga (C (48 + (x1).toNatClampNeg)) ((1 : Int32)).toNatClampNeg)), (0, .ref (a 0)), (1, .int x1), (2, .int x2)]) hx hb dX7_allOf_87 hl (by decide) rfl (fun ls hl => ?_)
          refine lv_iload hx hb dX7_allOf_89 (lv_at hl 0 rfl) ?_
          refine lv_iload_n hx hb dX7_allOf_91 rfl (lv_at hl 4 rfl) ?_
          refine lv_if_eq (tgt := 106) hx hb dX7_allOf_92 (by decide) (fun (c_18 : x2 = 0) => ?_) (fun (c_18 : ¬ (x2 = 0)) => ?_)
          · refine lv_iconst (v := 0) hx hb dX7_allOf_106 (by decide) ?_
            refine lv_iadd hx hb dX7_allOf_107 ?_
            rw [hQ]
            exact W.iret (v := (((ga (C (48 + (x1).toNatClampNeg)) ((4 : Int32)).toNatClampNeg) + ((ga (C (48 + (x1).toNatClampNeg)) ((4 : Int32)).toNatClampNeg) / 10)) / 2) + 0) hx hb hr (fun t ht hW => ⟨(((ga (C (48 + (x1).toNatClampNeg)) ((4 : Int32)).toNatClampNeg) + ((ga (C (48 + (x1).toNatClampNeg)) ((4 : Int32)).toNatClampNeg) / 10)) / 2) + 0, rfl, (fun hk hf => Eq.trans (Eq.trans (Int32.add_zero _) (show ((ga (C (48 + (x1).toNatClampNeg)) ((4 : Int32)).toNatClampNeg + ga (C (48 + (x1).toNatClampNeg)) ((4 : Int32)).toNatClampNeg / 10) / 2) = bUnF (ga (C (48 + (x1).toNatClampNeg)) ((1 : Int32)).toNatClampNeg) (ga (C (48 + (x1).toNatClampNeg)) ((4 : Int32)).toNatClampNeg) (ga (C (48 + (x1).toNatClampNeg)) ((8 : Int32)).toNatClampNeg) (ga (C (48 + (x1).toNatClampNeg)) ((9 : Int32)).toNatClampNeg) (ga (C 13) ((2 : Int32)).toNatClampNeg) from Eq.trans (show _ = belF (ga (C (48 + (x1).toNatClampNeg)) ((1 : Int32)).toNatClampNeg) (ga (C (48 + (x1).toNatClampNeg)) ((8 : Int32)).toNatClampNeg) (ga (C (48 + (x1).toNatClampNeg)) ((9 : Int32)).toNatClampNeg) (ga (C 13) ((2 : Int32)).toNatClampNeg) (ga (C (48 + (x1).toNatClampNeg)) ((4 : Int32)).toNatClampNeg + ga (C (48 + (x1).toNatClampNeg)) ((4 : Int32)).toNatClampNeg / 10) from ((Eq.trans (pif_neg (fun h8 => h8.elim c_5 (fun h8 => absurd (Eq.trans (Eq.symm c_11) (hq_10.2.mpr h8)) (by decide)))) (pif_pos ((hf_c hk).mp (hq_13.2.mp (oh_b1 (rg_w (lo := 0) (hi := 1) (rn_nel (l' := 1) c_14 (oh_rgb hq_13.1) (rg_c (v := 0) (lo := 0) (hi := 0) (by decide)) (by decide)) (by decide)) c_14)))))).symm) (congrArg (belF (ga (C (48 + (x1).toNatClampNeg)) ((1 : Int32)).toNatClampNeg) (ga (C (48 + (x1).toNatClampNeg)) ((8 : Int32)).toNatClampNeg) (ga (C (48 + (x1).toNatClampNeg)) ((9 : Int32)).toNatClampNeg) (ga (C 13) ((2 : Int32)).toNatClampNeg)) (show _ = (ga (C (48 + (x1).toNatClampNeg)) ((4 : Int32)).toNatClampNeg + ga (C (48 + (x1).toNatClampNeg)) ((4 : Int32)).toNatClampNeg / 10) from (pif_pos (Or.inl c_8))).symm))) (pif_neg (fun h8 => absurd (Eq.trans (Eq.symm c_18) h8.1) (by decide))).symm), ht⟩) (fun q h => by cases h) dX7_allOf_108
          · refine lv_aload_n hx hb dX7_allOf_95 rfl (lv_at hl 2 rfl) ?_
            refine va_get (D := D) (ci := 7) (v := .ref (a 10)) (C := RX7) (T := TX7) (N := 29) hx hb htg ig_7 hown hK hP 0 (oh_wg (Nat.lt_of_lt_of_le (by decide) hn) (sM_0 hT)) rfl 12 (by decide) (htg _ q_985) (fun _ h9 => h9) rfl dX7_allOf_96 ?_
            refine lv_iload_n hx hb dX7_allOf_99 rfl (lv_at hl 3 rfl) ?_
            have n_19 : vp_in x1 16 := (rg_in hx1 (by decide))
            have b_20 : (x1).toNatClampNeg < 16 := vp_lt n_19
            refine th_aald hx hb hK hP 10 2 (Nat.lt_of_lt_of_le (by decide) hn) (sM_10 hT) rfl n_19 dX7_allOf_100 ?_
            refine lv_iconst (v := 5) hx hb dX7_allOf_101 (by decide) ?_
            refine th_iald hx hb hK hP (48 + (x1).toNatClampNeg) (lt_blk b_20 hn (by decide)) (hT.bbridge b_20).1 (rg_in (rg_c (v := 5) (lo := 5) (hi := 5) (by decide)) (by decide)) dX7_allOf_102 ?_
            refine lv_goto (tgt := 107) hx hb dX7_allOf_103 (by decide) ?_
            refine lv_iadd hx hb dX7_allOf_107 ?_
            rw [hQ]
            exact W.iret (v := (((ga (C (48 + (x1).toNatClampNeg)) ((4 : Int32)).toNatClampNeg) + ((ga (C (48 + (x1).toNatClampNeg)) ((4 : Int32)).toNatClampNeg) / 10)) / 2) + (ga (C (48 + (x1).toNatClampNeg)) ((5 : Int32)).toNatClampNeg)) hx hb hr (fun t ht hW => ⟨(((ga (C (48 + (x1).toNatClampNeg)) ((4 : Int32)).toNatClampNeg) + ((ga (C (48 + (x1).toNatClampNeg)) ((4 : Int32)).toNatClampNeg) / 10)) / 2) + (ga (C (48 + (x1).toNatClampNeg)) ((5 : Int32)).toNatClampNeg), rfl, (fun hk hf => Eq.trans (congrArg (fun z => z + ga (C (48 + (x1).toNatClampNeg)) ((5 : Int32)).toNatClampNeg) (show ((ga (C (48 + (x1).toNatClampNeg)) ((4 : Int32)).toNatClampNeg + ga (C (48 + (x1).toNatClampNeg)) ((4 : Int32)).toNatClampNeg / 10) / 2) = bUnF (ga (C (48 + (x1).toNatClampNeg)) ((1 : Int32)).toNatClampNeg) (ga (C (48 + (x1).toNatClampNeg)) ((4 : Int32)).toNatClampNeg) (ga (C (48 + (x1).toNatClampNeg)) ((8 : Int32)).toNatClampNeg) (ga (C (48 + (x1).toNatClampNeg)) ((9 : Int32)).toNatClampNeg) (ga (C 13) ((2 : Int32)).toNatClampNeg) from Eq.trans (show _ = belF (ga (C (48 + (x1).toNatClampNeg)) ((1 : Int32)).toNatClampNeg) (ga (C (48 + (x1).toNatClampNeg)) ((8 : Int32)).toNatClampNeg) (ga (C (48 + (x1).toNatClampNeg)) ((9 : Int32)).toNatClampNeg) (ga (C 13) ((2 : Int32)).toNatClampNeg) (ga (C (48 + (x1).toNatClampNeg)) ((4 : Int32)).toNatClampNeg + ga (C (48 + (x1).toNatClampNeg)) ((4 : Int32)).toNatClampNeg / 10) from ((Eq.trans (pif_neg (fun h8 => h8.elim c_5 (fun h8 => absurd (Eq.trans (Eq.symm c_11) (hq_10.2.mpr h8)) (by decide)))) (pif_pos ((hf_c hk).mp (hq_13.2.mp (oh_b1 (rg_w (lo := 0) (hi := 1) (rn_nel (l' := 1) c_14 (oh_rgb hq_13.1) (rg_c (v := 0) (lo := 0) (hi := 0) (by decide)) (by decide)) (by decide)) c_14)))))).symm) (congrArg (belF (ga (C (48 + (x1).toNatClampNeg)) ((1 : Int32)).toNatClampNeg) (ga (C (48 + (x1).toNatClampNeg)) ((8 : Int32)).toNatClampNeg) (ga (C (48 + (x1).toNatClampNeg)) ((9 : Int32)).toNatClampNeg) (ga (C 13) ((2 : Int32)).toNatClampNeg)) (show _ = (ga (C (48 + (x1).toNatClampNeg)) ((4 : Int32)).toNatClampNeg + ga (C (48 + (x1).toNatClampNeg)) ((4 : Int32)).toNatClampNeg / 10) from (pif_pos (Or.inl c_8))).symm))) (pif_pos ⟨oh_b1 hx2 c_18, (rg01 hf c_5)⟩).symm), ht⟩) (fun q h => by cases h) dX7_allOf_108
      · refine lv_iconst (v := 0) hx hb dX7_allOf_66 (by decide) ?_
        refine lv_goto (tgt := 87) hx hb dX7_allOf_67 (by decide) ?_
        refine lv_istore (lv' := [(4, .int 0), (3, .int (ga (C (48 + (x1).toNatClampNeg)) ((1 : Int32)).toNatClampNeg)), (0, .ref (a 0)), (1, .int x1), (2, .int x2)]) hx hb dX7_allOf_87 hl (by decide) rfl (fun ls hl => ?_)
        refine lv_iload hx hb dX7_allOf_89 (lv_at hl 0 rfl) ?_
        refine lv_iload_n hx hb dX7_allOf_91 rfl (lv_at hl 4 rfl) ?_
        refine lv_if_eq (tgt := 106) hx hb dX7_allOf_92 (by decide) (fun (c_21 : x2 = 0) => ?_) (fun (c_21 : ¬ (x2 = 0)) => ?_)
        · refine lv_iconst (v := 0) hx hb dX7_allOf_106 (by decide) ?_
          refine lv_iadd hx hb dX7_allOf_107 ?_
          refine oh_nrm (v := 0) (by decide) ?_
          rw [hQ]
          exact W.iret (v := 0) hx hb hr (fun t ht hW => ⟨0, rfl, (fun hk hf => Eq.trans (Eq.trans rfl (show 0 = bUnF (ga (C (48 + (x1).toNatClampNeg)) ((1 : Int32)).toNatClampNeg) (ga (C (48 + (x1).toNatClampNeg)) ((4 : Int32)).toNatClampNeg) (ga (C (48 + (x1).toNatClampNeg)) ((8 : Int32)).toNatClampNeg) (ga (C (48 + (x1).toNatClampNeg)) ((9 : Int32)).toNatClampNeg) (ga (C 13) ((2 : Int32)).toNatClampNeg) from Eq.trans (show _ = belF (ga (C (48 + (x1).toNatClampNeg)) ((1 : Int32)).toNatClampNeg) (ga (C (48 + (x1).toNatClampNeg)) ((8 : Int32)).toNatClampNeg) (ga (C (48 + (x1).toNatClampNeg)) ((9 : Int32)).toNatClampNeg) (ga (C 13) ((2 : Int32)).toNatClampNeg) (ga (C (48 + (x1).toNatClampNeg)) ((4 : Int32)).toNatClampNeg + ga (C (48 + (x1).toNatClampNeg)) ((4 : Int32)).toNatClampNeg / 10) from ((pif_pos (Or.inr (hq_10.2.mp (oh_b1 (rg_w (lo := 0) (hi := 1) (rn_nel (l' := 1) c_11 (oh_rgb hq_10.1) (rg_c (v := 0) (lo := 0) (hi := 0) (by decide)) (by decide)) (by decide)) c_11))))).symm) (congrArg (belF (ga (C (48 + (x1).toNatClampNeg)) ((1 : Int32)).toNatClampNeg) (ga (C (48 + (x1).toNatClampNeg)) ((8 : Int32)).toNatClampNeg) (ga (C (48 + (x1).toNatClampNeg)) ((9 : Int32)).toNatClampNeg) (ga (C 13) ((2 : Int32)).toNatClampNeg)) (show _ = (ga (C (48 + (x1).toNatClampNeg)) ((4 : Int32)).toNatClampNeg + ga (C (48 + (x1).toNatClampNeg)) ((4 : Int32)).toNatClampNeg / 10) from (pif_pos (Or.inl c_8))).symm))) (pif_neg (fun h8 => absurd (Eq.trans (Eq.symm c_21) h8.1) (by decide))).symm), ht⟩) (fun q h => by cases h) dX7_allOf_108
        · refine lv_aload_n hx hb dX7_allOf_95 rfl (lv_at hl 2 rfl) ?_
          refine va_get (D := D) (ci := 7) (v := .ref (a 10)) (C := RX7) (T := TX7) (N := 29) hx hb htg ig_7 hown hK hP 0 (oh_wg (Nat.lt_of_lt_of_le (by decide) hn) (sM_0 hT)) rfl 12 (by decide) (htg _ q_985) (fun _ h9 => h9) rfl dX7_allOf_96 ?_
          refine lv_iload_n hx hb dX7_allOf_99 rfl (lv_at hl 3 rfl) ?_
          have n_22 : vp_in x1 16 := (rg_in hx1 (by decide))
          have b_23 : (x1).toNatClampNeg < 16 := vp_lt n_22
          refine th_aald hx hb hK hP 10 2 (Nat.lt_of_lt_of_le (by decide) hn) (sM_10 hT) rfl n_22 dX7_allOf_100 ?_
          refine lv_iconst (v := 5) hx hb dX7_allOf_101 (by decide) ?_
          refine th_iald hx hb hK hP (48 + (x1).toNatClampNeg) (lt_blk b_23 hn (by decide)) (hT.bbridge b_23).1 (rg_in (rg_c (v := 5) (lo := 5) (hi := 5) (by decide)) (by decide)) dX7_allOf_102 ?_
          refine lv_goto (tgt := 107) hx hb dX7_allOf_103 (by decide) ?_
          refine lv_iadd hx hb dX7_allOf_107 ?_
          rw [hQ]
          exact W.iret (v := 0 + (ga (C (48 + (x1).toNatClampNeg)) ((5 : Int32)).toNatClampNeg)) hx hb hr (fun t ht hW => ⟨0 + (ga (C (48 + (x1).toNatClampNeg)) ((5 : Int32)).toNatClampNeg), rfl, (fun hk hf => Eq.trans (congrArg (fun z => z + ga (C (48 + (x1).toNatClampNeg)) ((5 : Int32)).toNatClampNeg) (show 0 = bUnF (ga (C (48 + (x1).toNatClampNeg)) ((1 : Int32)).toNatClampNeg) (ga (C (48 + (x1).toNatClampNeg)) ((4 : Int32)).toNatClampNeg) (ga (C (48 + (x1).toNatClampNeg)) ((8 : Int32)).toNatClampNeg) (ga (C (48 + (x1).toNatClampNeg)) ((9 : Int32)).toNatClampNeg) (ga (C 13) ((2 : Int32)).toNatClampNeg) from Eq.trans (show _ = belF (ga (C (48 + (x1).toNatClampNeg)) ((1 : Int32)).toNatClampNeg) (ga (C (48 + (x1).toNatClampNeg)) ((8 : Int32)).toNatClampNeg) (ga (C (48 + (x1).toNatClampNeg)) ((9 : Int32)).toNatClampNeg) (ga (C 13) ((2 : Int32)).toNatClampNeg) (ga (C (48 + (x1).toNatClampNeg)) ((4 : Int32)).toNatClampNeg + ga (C (48 + (x1).toNatClampNeg)) ((4 : Int32)).toNatClampNeg / 10) from ((pif_pos (Or.inr (hq_10.2.mp (oh_b1 (rg_w (lo := 0) (hi := 1) (rn_nel (l' := 1) c_11 (oh_rgb hq_10.1) (rg_c (v := 0) (lo := 0) (hi := 0) (by decide)) (by decide)) (by decide)) c_11))))).symm) (congrArg (belF (ga (C (48 + (x1).toNatClampNeg)) ((1 : Int32)).toNatClampNeg) (ga (C (48 + (x1).toNatClampNeg)) ((8 : Int32)).toNatClampNeg) (ga (C (48 + (x1).toNatClampNeg)) ((9 : Int32)).toNatClampNeg) (ga (C 13) ((2 : Int32)).toNatClampNeg)) (show _ = (ga (C (48 + (x1).toNatClampNeg)) ((4 : Int32)).toNatClampNeg + ga (C (48 + (x1).toNatClampNeg)) ((4 : Int32)).toNatClampNeg / 10) from (pif_pos (Or.inl c_8))).symm))) (pif_pos ⟨oh_b1 hx2 c_21, (rg01 hf c_5)⟩).symm), ht⟩) (fun q h => by cases h) dX7_allOf_108
    · refine lv_iload_n hx hb dX7_allOf_41 rfl (lv_at hl 1 rfl) ?_
      refine lv_iconst (v := 2) hx hb dX7_allOf_42 (by decide) ?_
      refine lv_icmp_ne (tgt := 54) hx hb dX7_allOf_43 (by decide) (fun (c_24 : ¬ ((ga (C (48 + (x1).toNatClampNeg)) ((1 : Int32)).toNatClampNeg) = 2)) => ?_) (fun (c_24 : (ga (C (48 + (x1).toNatClampNeg)) ((1 : Int32)).toNatClampNeg) = 2) => ?_)
      · refine lv_iconst (v := 0) hx hb dX7_allOf_54 (by decide) ?_
        refine lv_iadd hx hb dX7_allOf_55 ?_
        refine lv_istore (lv' := [(4, .int ((ga (C (48 + (x1).toNatClampNeg)) ((4 : Int32)).toNatClampNeg) + 0)), (3, .int (ga (C (48 + (x1).toNatClampNeg)) ((1 : Int32)).toNatClampNeg)), (0, .ref (a 0)), (1, .int x1), (2, .int x2)]) hx hb dX7_allOf_56 hl (by decide) rfl (fun ls hl => ?_)
        refine lv_aload_n hx hb dX7_allOf_58 rfl (lv_at hl 2 rfl) ?_
        refine lv_iload_n hx hb dX7_allOf_59 rfl (lv_at hl 3 rfl) ?_
        refine tq_V (As := [.int x1]) (rest := []) (ws := (oh_W n a C)) ⟨hx, hb, hml, hown, htg⟩ (e_X7_isNothing l D E G a C n hn hT x1 (rg_w hx1 (by decide))) (cwV 1 htg (oh_gV q_1114 q_1116 q_32 q_73 q_1117) rfl rfl rfl pdVX7_isNothing ⟨Nat.le_of_ble_eq_true rfl, Nat.le_of_ble_eq_true rfl⟩) hK hP hG hS (va_recv hK hP (ci := 7) (q0 := 0) rfl (oh_wg (Nat.lt_of_lt_of_le (by decide) hn) (sM_0 hT))) rfl hl.1 rfl (Nat.le_of_ble_eq_true rfl) dX7_allOf_60 ⟨Nat.le_of_ble_eq_true rfl, Nat.le_of_ble_eq_true rfl⟩ (fun r_25 hq_26 => ?_)
        refine lv_if_eq (tgt := 70) hx hb dX7_allOf_63 (by decide) (fun (c_27 : r_25 = 0) => ?_) (fun (c_27 : ¬ (r_25 = 0)) => ?_)
        · refine lv_aload_n hx hb dX7_allOf_70 rfl (lv_at hl 2 rfl) ?_
          refine lv_iload_n hx hb dX7_allOf_71 rfl (lv_at hl 3 rfl) ?_
          refine tq_V (As := [.int x1]) (rest := []) (ws := (oh_W n a C)) ⟨hx, hb, hml, hown, htg⟩ (e_X7_isHalf l D E G a C n hn hT x1 (rg_w hx1 (by decide))) (cwV 1 htg (oh_gV q_1118 q_1120 q_33 q_73 q_1121) rfl rfl rfl pdVX7_isHalf ⟨Nat.le_of_ble_eq_true rfl, Nat.le_of_ble_eq_true rfl⟩) hK hP hG hS (va_recv hK hP (ci := 7) (q0 := 0) rfl (oh_wg (Nat.lt_of_lt_of_le (by decide) hn) (sM_0 hT))) rfl hl.1 rfl (Nat.le_of_ble_eq_true rfl) dX7_allOf_72 ⟨Nat.le_of_ble_eq_true rfl, Nat.le_of_ble_eq_true rfl⟩ (fun r_28 hq_29 => ?_)
          refine lv_if_eq (tgt := 85) hx hb dX7_allOf_75 (by decide) (fun (c_30 : r_28 = 0) => ?_) (fun (c_30 : ¬ (r_28 = 0)) => ?_)
          · refine lv_iload hx hb dX7_allOf_85 (lv_at hl 0 rfl) ?_
            refine lv_istore (lv' := [(4, .int ((ga (C (48 + (x1).toNatClampNeg)) ((4 : Int32)).toNatClampNeg) + 0)), (3, .int (ga (C (48 + (x1).toNatClampNeg)) ((1 : Int32)).toNatClampNeg)), (0, .ref (a 0)), (1, .int x1), (2, .int x2)]) hx hb dX7_allOf_87 hl (by decide) rfl (fun ls hl => ?_)
            refine lv_iload hx hb dX7_allOf_89 (lv_at hl 0 rfl) ?_
            refine lv_iload_n hx hb dX7_allOf_91 rfl (lv_at hl 4 rfl) ?_
            refine lv_if_eq (tgt := 106) hx hb dX7_allOf_92 (by decide) (fun (c_31 : x2 = 0) => ?_) (fun (c_31 : ¬ (x2 = 0)) => ?_)
            · refine lv_iconst (v := 0) hx hb dX7_allOf_106 (by decide) ?_
              refine lv_iadd hx hb dX7_allOf_107 ?_
              rw [hQ]
              exact W.iret (v := ((ga (C (48 + (x1).toNatClampNeg)) ((4 : Int32)).toNatClampNeg) + 0) + 0) hx hb hr (fun t ht hW => ⟨((ga (C (48 + (x1).toNatClampNeg)) ((4 : Int32)).toNatClampNeg) + 0) + 0, rfl, (fun hk hf => Eq.trans (Eq.trans (Int32.add_zero _) (show (ga (C (48 + (x1).toNatClampNeg)) ((4 : Int32)).toNatClampNeg + 0) = bUnF (ga (C (48 + (x1).toNatClampNeg)) ((1 : Int32)).toNatClampNeg) (ga (C (48 + (x1).toNatClampNeg)) ((4 : Int32)).toNatClampNeg) (ga (C (48 + (x1).toNatClampNeg)) ((8 : Int32)).toNatClampNeg) (ga (C (48 + (x1).toNatClampNeg)) ((9 : Int32)).toNatClampNeg) (ga (C 13) ((2 : Int32)).toNatClampNeg) from Eq.trans (show _ = belF (ga (C (48 + (x1).toNatClampNeg)) ((1 : Int32)).toNatClampNeg) (ga (C (48 + (x1).toNatClampNeg)) ((8 : Int32)).toNatClampNeg) (ga (C (48 + (x1).toNatClampNeg)) ((9 : Int32)).toNatClampNeg) (ga (C 13) ((2 : Int32)).toNatClampNeg) (ga (C (48 + (x1).toNatClampNeg)) ((4 : Int32)).toNatClampNeg + 0) from ((Eq.trans (pif_neg (fun h8 => h8.elim c_5 (fun h8 => absurd (Eq.trans (Eq.symm c_27) (hq_26.2.mpr h8)) (by decide)))) (pif_neg (fun h8 => absurd (Eq.trans (Eq.symm c_30) (hq_29.2.mpr ((hf_c hk).mpr h8))) (by decide))))).symm) (congrArg (belF (ga (C (48 + (x1).toNatClampNeg)) ((1 : Int32)).toNatClampNeg) (ga (C (48 + (x1).toNatClampNeg)) ((8 : Int32)).toNatClampNeg) (ga (C (48 + (x1).toNatClampNeg)) ((9 : Int32)).toNatClampNeg) (ga (C 13) ((2 : Int32)).toNatClampNeg)) (show _ = (ga (C (48 + (x1).toNatClampNeg)) ((4 : Int32)).toNatClampNeg + 0) from (Eq.trans (pif_neg (fun h8 => h8.elim c_8 c_24)) (Int32.add_zero _).symm)).symm))) (pif_neg (fun h8 => absurd (Eq.trans (Eq.symm c_31) h8.1) (by decide))).symm), ht⟩) (fun q h => by cases h) dX7_allOf_108
            · refine lv_aload_n hx hb dX7_allOf_95 rfl (lv_at hl 2 rfl) ?_
              refine va_get (D := D) (ci := 7) (v := .ref (a 10)) (C := RX7) (T := TX7) (N := 29) hx hb htg ig_7 hown hK hP 0 (oh_wg (Nat.lt_of_lt_of_le (by decide) hn) (sM_0 hT)) rfl 12 (by decide) (htg _ q_985) (fun _ h9 => h9) rfl dX7_allOf_96 ?_
              refine lv_iload_n hx hb dX7_allOf_99 rfl (lv_at hl 3 rfl) ?_
              have n_32 : vp_in x1 16 := (rg_in hx1 (by decide))
              have b_33 : (x1).toNatClampNeg < 16 := vp_lt n_32
              refine th_aald hx hb hK hP 10 2 (Nat.lt_of_lt_of_le (by decide) hn) (sM_10 hT) rfl n_32 dX7_allOf_100 ?_
              refine lv_iconst (v := 5) hx hb dX7_allOf_101 (by decide) ?_
              refine th_iald hx hb hK hP (48 + (x1).toNatClampNeg) (lt_blk b_33 hn (by decide)) (hT.bbridge b_33).1 (rg_in (rg_c (v := 5) (lo := 5) (hi := 5) (by decide)) (by decide)) dX7_allOf_102 ?_
              refine lv_goto (tgt := 107) hx hb dX7_allOf_103 (by decide) ?_
              refine lv_iadd hx hb dX7_allOf_107 ?_
              rw [hQ]
              exact W.iret (v := ((ga (C (48 + (x1).toNatClampNeg)) ((4 : Int32)).toNatClampNeg) + 0) + (ga (C (48 + (x1).toNatClampNeg)) ((5 : Int32)).toNatClampNeg)) hx hb hr (fun t ht hW => ⟨((ga (C (48 + (x1).toNatClampNeg)) ((4 : Int32)).toNatClampNeg) + 0) + (ga (C (48 + (x1).toNatClampNeg)) ((5 : Int32)).toNatClampNeg), rfl, (fun hk hf => Eq.trans (congrArg (fun z => z + ga (C (48 + (x1).toNatClampNeg)) ((5 : Int32)).toNatClampNeg) (show (ga (C (48 + (x1).toNatClampNeg)) ((4 : Int32)).toNatClampNeg + 0) = bUnF (ga (C (48 + (x1).toNatClampNeg)) ((1 : Int32)).toNatClampNeg) (ga (C (48 + (x1).toNatClampNeg)) ((4 : Int32)).toNatClampNeg) (ga (C (48 + (x1).toNatClampNeg)) ((8 : Int32)).toNatClampNeg) (ga (C (48 + (x1).toNatClampNeg)) ((9 : Int32)).toNatClampNeg) (ga (C 13) ((2 : Int32)).toNatClampNeg) from Eq.trans (show _ = belF (ga (C (48 + (x1).toNatClampNeg)) ((1 : Int32)).toNatClampNeg) (ga (C (48 + (x1).toNatClampNeg)) ((8 : Int32)).toNatClampNeg) (ga (C (48 + (x1).toNatClampNeg)) ((9 : Int32)).toNatClampNeg) (ga (C 13) ((2 : Int32)).toNatClampNeg) (ga (C (48 + (x1).toNatClampNeg)) ((4 : Int32)).toNatClampNeg + 0) from ((Eq.trans (pif_neg (fun h8 => h8.elim c_5 (fun h8 => absurd (Eq.trans (Eq.symm c_27) (hq_26.2.mpr h8)) (by decide)))) (pif_neg (fun h8 => absurd (Eq.trans (Eq.symm c_30) (hq_29.2.mpr ((hf_c hk).mpr h8))) (by decide))))).symm) (congrArg (belF (ga (C (48 + (x1).toNatClampNeg)) ((1 : Int32)).toNatClampNeg) (ga (C (48 + (x1).toNatClampNeg)) ((8 : Int32)).toNatClampNeg) (ga (C (48 + (x1).toNatClampNeg)) ((9 : Int32)).toNatClampNeg) (ga (C 13) ((2 : Int32)).toNatClampNeg)) (show _ = (ga (C (48 + (x1).toNatClampNeg)) ((4 : Int32)).toNatClampNeg + 0) from (Eq.trans (pif_neg (fun h8 => h8.elim c_8 c_24)) (Int32.add_zero _).symm)).symm))) (pif_pos ⟨oh_b1 hx2 c_31, (rg01 hf c_5)⟩).symm), ht⟩) (fun q h => by cases h) dX7_allOf_108
          · refine lv_iload hx hb dX7_allOf_78 (lv_at hl 0 rfl) ?_
            refine lv_iconst (v := 2) hx hb dX7_allOf_80 (by decide) ?_
            refine lv_idiv hx hb dX7_allOf_81 (by decide) ?_
            refine lv_goto (tgt := 87) hx hb dX7_allOf_82 (by decide) ?_
            refine lv_istore (lv' := [(4, .int (((ga (C (48 + (x1).toNatClampNeg)) ((4 : Int32)).toNatClampNeg) + 0) / 2)), (3, .int (ga (C (48 + (x1).toNatClampNeg)) ((1 : Int32)).toNatClampNeg)), (0, .ref (a 0)), (1, .int x1), (2, .int x2)]) hx hb dX7_allOf_87 hl (by decide) rfl (fun ls hl => ?_)
            refine lv_iload hx hb dX7_allOf_89 (lv_at hl 0 rfl) ?_
            refine lv_iload_n hx hb dX7_allOf_91 rfl (lv_at hl 4 rfl) ?_
            refine lv_if_eq (tgt := 106) hx hb dX7_allOf_92 (by decide) (fun (c_34 : x2 = 0) => ?_) (fun (c_34 : ¬ (x2 = 0)) => ?_)
            · refine lv_iconst (v := 0) hx hb dX7_allOf_106 (by decide) ?_
              refine lv_iadd hx hb dX7_allOf_107 ?_
              rw [hQ]
              exact W.iret (v := (((ga (C (48 + (x1).toNatClampNeg)) ((4 : Int32)).toNatClampNeg) + 0) / 2) + 0) hx hb hr (fun t ht hW => ⟨(((ga (C (48 + (x1).toNatClampNeg)) ((4 : Int32)).toNatClampNeg) + 0) / 2) + 0, rfl, (fun hk hf => Eq.trans (Eq.trans (Int32.add_zero _) (show ((ga (C (48 + (x1).toNatClampNeg)) ((4 : Int32)).toNatClampNeg + 0) / 2) = bUnF (ga (C (48 + (x1).toNatClampNeg)) ((1 : Int32)).toNatClampNeg) (ga (C (48 + (x1).toNatClampNeg)) ((4 : Int32)).toNatClampNeg) (ga (C (48 + (x1).toNatClampNeg)) ((8 : Int32)).toNatClampNeg) (ga (C (48 + (x1).toNatClampNeg)) ((9 : Int32)).toNatClampNeg) (ga (C 13) ((2 : Int32)).toNatClampNeg) from Eq.trans (show _ = belF (ga (C (48 + (x1).toNatClampNeg)) ((1 : Int32)).toNatClampNeg) (ga (C (48 + (x1).toNatClampNeg)) ((8 : Int32)).toNatClampNeg) (ga (C (48 + (x1).toNatClampNeg)) ((9 : Int32)).toNatClampNeg) (ga (C 13) ((2 : Int32)).toNatClampNeg) (ga (C (48 + (x1).toNatClampNeg)) ((4 : Int32)).toNatClampNeg + 0) from ((Eq.trans (pif_neg (fun h8 => h8.elim c_5 (fun h8 => absurd (Eq.trans (Eq.symm c_27) (hq_26.2.mpr h8)) (by decide)))) (pif_pos ((hf_c hk).mp (hq_29.2.mp (oh_b1 (rg_w (lo := 0) (hi := 1) (rn_nel (l' := 1) c_30 (oh_rgb hq_29.1) (rg_c (v := 0) (lo := 0) (hi := 0) (by decide)) (by decide)) (by decide)) c_30)))))).symm) (congrArg (belF (ga (C (48 + (x1).toNatClampNeg)) ((1 : Int32)).toNatClampNeg) (ga (C (48 + (x1).toNatClampNeg)) ((8 : Int32)).toNatClampNeg) (ga (C (48 + (x1).toNatClampNeg)) ((9 : Int32)).toNatClampNeg) (ga (C 13) ((2 : Int32)).toNatClampNeg)) (show _ = (ga (C (48 + (x1).toNatClampNeg)) ((4 : Int32)).toNatClampNeg + 0) from (Eq.trans (pif_neg (fun h8 => h8.elim c_8 c_24)) (Int32.add_zero _).symm)).symm))) (pif_neg (fun h8 => absurd (Eq.trans (Eq.symm c_34) h8.1) (by decide))).symm), ht⟩) (fun q h => by cases h) dX7_allOf_108
            · refine lv_aload_n hx hb dX7_allOf_95 rfl (lv_at hl 2 rfl) ?_
              refine va_get (D := D) (ci := 7) (v := .ref (a 10)) (C := RX7) (T := TX7) (N := 29) hx hb htg ig_7 hown hK hP 0 (oh_wg (Nat.lt_of_lt_of_le (by decide) hn) (sM_0 hT)) rfl 12 (by decide) (htg _ q_985) (fun _ h9 => h9) rfl dX7_allOf_96 ?_
              refine lv_iload_n hx hb dX7_allOf_99 rfl (lv_at hl 3 rfl) ?_
              have n_35 : vp_in x1 16 := (rg_in hx1 (by decide))
              have b_36 : (x1).toNatClampNeg < 16 := vp_lt n_35
              refine th_aald hx hb hK hP 10 2 (Nat.lt_of_lt_of_le (by decide) hn) (sM_10 hT) rfl n_35 dX7_allOf_100 ?_
              refine lv_iconst (v := 5) hx hb dX7_allOf_101 (by decide) ?_
              refine th_iald hx hb hK hP (48 + (x1).toNatClampNeg) (lt_blk b_36 hn (by decide)) (hT.bbridge b_36).1 (rg_in (rg_c (v := 5) (lo := 5) (hi := 5) (by decide)) (by decide)) dX7_allOf_102 ?_
              refine lv_goto (tgt := 107) hx hb dX7_allOf_103 (by decide) ?_
              refine lv_iadd hx hb dX7_allOf_107 ?_
              rw [hQ]
              exact W.iret (v := (((ga (C (48 + (x1).toNatClampNeg)) ((4 : Int32)).toNatClampNeg) + 0) / 2) + (ga (C (48 + (x1).toNatClampNeg)) ((5 : Int32)).toNatClampNeg)) hx hb hr (fun t ht hW => ⟨(((ga (C (48 + (x1).toNatClampNeg)) ((4 : Int32)).toNatClampNeg) + 0) / 2) + (ga (C (48 + (x1).toNatClampNeg)) ((5 : Int32)).toNatClampNeg), rfl, (fun hk hf => Eq.trans (congrArg (fun z => z + ga (C (48 + (x1).toNatClampNeg)) ((5 : Int32)).toNatClampNeg) (show ((ga (C (48 + (x1).toNatClampNeg)) ((4 : Int32)).toNatClampNeg + 0) / 2) = bUnF (ga (C (48 + (x1).toNatClampNeg)) ((1 : Int32)).toNatClampNeg) (ga (C (48 + (x1).toNatClampNeg)) ((4 : Int32)).toNatClampNeg) (ga (C (48 + (x1).toNatClampNeg)) ((8 : Int32)).toNatClampNeg) (ga (C (48 + (x1).toNatClampNeg)) ((9 : Int32)).toNatClampNeg) (ga (C 13) ((2 : Int32)).toNatClampNeg) from Eq.trans (show _ = belF (ga (C (48 + (x1).toNatClampNeg)) ((1 : Int32)).toNatClampNeg) (ga (C (48 + (x1).toNatClampNeg)) ((8 : Int32)).toNatClampNeg) (ga (C (48 + (x1).toNatClampNeg)) ((9 : Int32)).toNatClampNeg) (ga (C 13) ((2 : Int32)).toNatClampNeg) (ga (C (48 + (x1).toNatClampNeg)) ((4 : Int32)).toNatClampNeg + 0) from ((Eq.trans (pif_neg (fun h8 => h8.elim c_5 (fun h8 => absurd (Eq.trans (Eq.symm c_27) (hq_26.2.mpr h8)) (by decide)))) (pif_pos ((hf_c hk).mp (hq_29.2.mp (oh_b1 (rg_w (lo := 0) (hi := 1) (rn_nel (l' := 1) c_30 (oh_rgb hq_29.1) (rg_c (v := 0) (lo := 0) (hi := 0) (by decide)) (by decide)) (by decide)) c_30)))))).symm) (congrArg (belF (ga (C (48 + (x1).toNatClampNeg)) ((1 : Int32)).toNatClampNeg) (ga (C (48 + (x1).toNatClampNeg)) ((8 : Int32)).toNatClampNeg) (ga (C (48 + (x1).toNatClampNeg)) ((9 : Int32)).toNatClampNeg) (ga (C 13) ((2 : Int32)).toNatClampNeg)) (show _ = (ga (C (48 + (x1).toNatClampNeg)) ((4 : Int32)).toNatClampNeg + 0) from (Eq.trans (pif_neg (fun h8 => h8.elim c_8 c_24)) (Int32.add_zero _).symm)).symm))) (pif_pos ⟨oh_b1 hx2 c_34, (rg01 hf c_5)⟩).symm), ht⟩) (fun q h => by cases h) dX7_allOf_108
        · refine lv_iconst (v := 0) hx hb dX7_allOf_66 (by decide) ?_
          refine lv_goto (tgt := 87) hx hb dX7_allOf_67 (by decide) ?_
          refine lv_istore (lv' := [(4, .int 0), (3, .int (ga (C (48 + (x1).toNatClampNeg)) ((1 : Int32)).toNatClampNeg)), (0, .ref (a 0)), (1, .int x1), (2, .int x2)]) hx hb dX7_allOf_87 hl (by decide) rfl (fun ls hl => ?_)
          refine lv_iload hx hb dX7_allOf_89 (lv_at hl 0 rfl) ?_
          refine lv_iload_n hx hb dX7_allOf_91 rfl (lv_at hl 4 rfl) ?_
          refine lv_if_eq (tgt := 106) hx hb dX7_allOf_92 (by decide) (fun (c_37 : x2 = 0) => ?_) (fun (c_37 : ¬ (x2 = 0)) => ?_)
          · refine lv_iconst (v := 0) hx hb dX7_allOf_106 (by decide) ?_
            refine lv_iadd hx hb dX7_allOf_107 ?_
            refine oh_nrm (v := 0) (by decide) ?_
            rw [hQ]
            exact W.iret (v := 0) hx hb hr (fun t ht hW => ⟨0, rfl, (fun hk hf => Eq.trans (Eq.trans rfl (show 0 = bUnF (ga (C (48 + (x1).toNatClampNeg)) ((1 : Int32)).toNatClampNeg) (ga (C (48 + (x1).toNatClampNeg)) ((4 : Int32)).toNatClampNeg) (ga (C (48 + (x1).toNatClampNeg)) ((8 : Int32)).toNatClampNeg) (ga (C (48 + (x1).toNatClampNeg)) ((9 : Int32)).toNatClampNeg) (ga (C 13) ((2 : Int32)).toNatClampNeg) from Eq.trans (show _ = belF (ga (C (48 + (x1).toNatClampNeg)) ((1 : Int32)).toNatClampNeg) (ga (C (48 + (x1).toNatClampNeg)) ((8 : Int32)).toNatClampNeg) (ga (C (48 + (x1).toNatClampNeg)) ((9 : Int32)).toNatClampNeg) (ga (C 13) ((2 : Int32)).toNatClampNeg) (ga (C (48 + (x1).toNatClampNeg)) ((4 : Int32)).toNatClampNeg + 0) from ((pif_pos (Or.inr (hq_26.2.mp (oh_b1 (rg_w (lo := 0) (hi := 1) (rn_nel (l' := 1) c_27 (oh_rgb hq_26.1) (rg_c (v := 0) (lo := 0) (hi := 0) (by decide)) (by decide)) (by decide)) c_27))))).symm) (congrArg (belF (ga (C (48 + (x1).toNatClampNeg)) ((1 : Int32)).toNatClampNeg) (ga (C (48 + (x1).toNatClampNeg)) ((8 : Int32)).toNatClampNeg) (ga (C (48 + (x1).toNatClampNeg)) ((9 : Int32)).toNatClampNeg) (ga (C 13) ((2 : Int32)).toNatClampNeg)) (show _ = (ga (C (48 + (x1).toNatClampNeg)) ((4 : Int32)).toNatClampNeg + 0) from (Eq.trans (pif_neg (fun h8 => h8.elim c_8 c_24)) (Int32.add_zero _).symm)).symm))) (pif_neg (fun h8 => absurd (Eq.trans (Eq.symm c_37) h8.1) (by decide))).symm), ht⟩) (fun q h => by cases h) dX7_allOf_108
          · refine lv_aload_n hx hb dX7_allOf_95 rfl (lv_at hl 2 rfl) ?_
            refine va_get (D := D) (ci := 7) (v := .ref (a 10)) (C := RX7) (T := TX7) (N := 29) hx hb htg ig_7 hown hK hP 0 (oh_wg (Nat.lt_of_lt_of_le (by decide) hn) (sM_0 hT)) rfl 12 (by decide) (htg _ q_985) (fun _ h9 => h9) rfl dX7_allOf_96 ?_
            refine lv_iload_n hx hb dX7_allOf_99 rfl (lv_at hl 3 rfl) ?_
            have n_38 : vp_in x1 16 := (rg_in hx1 (by decide))
            have b_39 : (x1).toNatClampNeg < 16 := vp_lt n_38
            refine th_aald hx hb hK hP 10 2 (Nat.lt_of_lt_of_le (by decide) hn) (sM_10 hT) rfl n_38 dX7_allOf_100 ?_
            refine lv_iconst (v := 5) hx hb dX7_allOf_101 (by decide) ?_
            refine th_iald hx hb hK hP (48 + (x1).toNatClampNeg) (lt_blk b_39 hn (by decide)) (hT.bbridge b_39).1 (rg_in (rg_c (v := 5) (lo := 5) (hi := 5) (by decide)) (by decide)) dX7_allOf_102 ?_
            refine lv_goto (tgt := 107) hx hb dX7_allOf_103 (by decide) ?_
            refine lv_iadd hx hb dX7_allOf_107 ?_
            rw [hQ]
            exact W.iret (v := 0 + (ga (C (48 + (x1).toNatClampNeg)) ((5 : Int32)).toNatClampNeg)) hx hb hr (fun t ht hW => ⟨0 + (ga (C (48 + (x1).toNatClampNeg)) ((5 : Int32)).toNatClampNeg), rfl, (fun hk hf => Eq.trans (congrArg (fun z => z + ga (C (48 + (x1).toNatClampNeg)) ((5 : Int32)).toNatClampNeg) (show 0 = bUnF (ga (C (48 + (x1).toNatClampNeg)) ((1 : Int32)).toNatClampNeg) (ga (C (48 + (x1).toNatClampNeg)) ((4 : Int32)).toNatClampNeg) (ga (C (48 + (x1).toNatClampNeg)) ((8 : Int32)).toNatClampNeg) (ga (C (48 + (x1).toNatClampNeg)) ((9 : Int32)).toNatClampNeg) (ga (C 13) ((2 : Int32)).toNatClampNeg) from Eq.trans (show _ = belF (ga (C (48 + (x1).toNatClampNeg)) ((1 : Int32)).toNatClampNeg) (ga (C (48 + (x1).toNatClampNeg)) ((8 : Int32)).toNatClampNeg) (ga (C (48 + (x1).toNatClampNeg)) ((9 : Int32)).toNatClampNeg) (ga (C 13) ((2 : Int32)).toNatClampNeg) (ga (C (48 + (x1).toNatClampNeg)) ((4 : Int32)).toNatClampNeg + 0) from ((pif_pos (Or.inr (hq_26.2.mp (oh_b1 (rg_w (lo := 0) (hi := 1) (rn_nel (l' := 1) c_27 (oh_rgb hq_26.1) (rg_c (v := 0) (lo := 0) (hi := 0) (by decide)) (by decide)) (by decide)) c_27))))).symm) (congrArg (belF (ga (C (48 + (x1).toNatClampNeg)) ((1 : Int32)).toNatClampNeg) (ga (C (48 + (x1).toNatClampNeg)) ((8 : Int32)).toNatClampNeg) (ga (C (48 + (x1).toNatClampNeg)) ((9 : Int32)).toNatClampNeg) (ga (C 13) ((2 : Int32)).toNatClampNeg)) (show _ = (ga (C (48 + (x1).toNatClampNeg)) ((4 : Int32)).toNatClampNeg + 0) from (Eq.trans (pif_neg (fun h8 => h8.elim c_8 c_24)) (Int32.add_zero _).symm)).symm))) (pif_pos ⟨oh_b1 hx2 c_37, (rg01 hf c_5)⟩).symm), ht⟩) (fun q h => by cases h) dX7_allOf_108
      · refine lv_iload hx hb dX7_allOf_46 (lv_at hl 0 rfl) ?_
        refine lv_bipush (v := 10) hx hb dX7_allOf_48 (by decide) ?_
        refine lv_idiv hx hb dX7_allOf_50 (by decide) ?_
        refine lv_goto (tgt := 55) hx hb dX7_allOf_51 (by decide) ?_
        refine lv_iadd hx hb dX7_allOf_55 ?_
        refine lv_istore (lv' := [(4, .int ((ga (C (48 + (x1).toNatClampNeg)) ((4 : Int32)).toNatClampNeg) + ((ga (C (48 + (x1).toNatClampNeg)) ((4 : Int32)).toNatClampNeg) / 10))), (3, .int (ga (C (48 + (x1).toNatClampNeg)) ((1 : Int32)).toNatClampNeg)), (0, .ref (a 0)), (1, .int x1), (2, .int x2)]) hx hb dX7_allOf_56 hl (by decide) rfl (fun ls hl => ?_)
        refine lv_aload_n hx hb dX7_allOf_58 rfl (lv_at hl 2 rfl) ?_
        refine lv_iload_n hx hb dX7_allOf_59 rfl (lv_at hl 3 rfl) ?_
        refine tq_V (As := [.int x1]) (rest := []) (ws := (oh_W n a C)) ⟨hx, hb, hml, hown, htg⟩ (e_X7_isNothing l D E G a C n hn hT x1 (rg_w hx1 (by decide))) (cwV 1 htg (oh_gV q_1114 q_1116 q_32 q_73 q_1117) rfl rfl rfl pdVX7_isNothing ⟨Nat.le_of_ble_eq_true rfl, Nat.le_of_ble_eq_true rfl⟩) hK hP hG hS (va_recv hK hP (ci := 7) (q0 := 0) rfl (oh_wg (Nat.lt_of_lt_of_le (by decide) hn) (sM_0 hT))) rfl hl.1 rfl (Nat.le_of_ble_eq_true rfl) dX7_allOf_60 ⟨Nat.le_of_ble_eq_true rfl, Nat.le_of_ble_eq_true rfl⟩ (fun r_40 hq_41 => ?_)
        refine lv_if_eq (tgt := 70) hx hb dX7_allOf_63 (by decide) (fun (c_42 : r_40 = 0) => ?_) (fun (c_42 : ¬ (r_40 = 0)) => ?_)
        · refine lv_aload_n hx hb dX7_allOf_70 rfl (lv_at hl 2 rfl) ?_
          refine lv_iload_n hx hb dX7_allOf_71 rfl (lv_at hl 3 rfl) ?_
          refine tq_V (As := [.int x1]) (rest := []) (ws := (oh_W n a C)) ⟨hx, hb, hml, hown, htg⟩ (e_X7_isHalf l D E G a C n hn hT x1 (rg_w hx1 (by decide))) (cwV 1 htg (oh_gV q_1118 q_1120 q_33 q_73 q_1121) rfl rfl rfl pdVX7_isHalf ⟨Nat.le_of_ble_eq_true rfl, Nat.le_of_ble_eq_true rfl⟩) hK hP hG hS (va_recv hK hP (ci := 7) (q0 := 0) rfl (oh_wg (Nat.lt_of_lt_of_le (by decide) hn) (sM_0 hT))) rfl hl.1 rfl (Nat.le_of_ble_eq_true rfl) dX7_allOf_72 ⟨Nat.le_of_ble_eq_true rfl, Nat.le_of_ble_eq_true rfl⟩ (fun r_43 hq_44 => ?_)
          refine lv_if_eq (tgt := 85) hx hb dX7_allOf_75 (by decide) (fun (c_45 : r_43 = 0) => ?_) (fun (c_45 : ¬ (r_43 = 0)) => ?_)
          · refine lv_iload hx hb dX7_allOf_85 (lv_at hl 0 rfl) ?_
            refine lv_istore (lv' := [(4, .int ((ga (C (48 + (x1).toNatClampNeg)) ((4 : Int32)).toNatClampNeg) + ((ga (C (48 + (x1).toNatClampNeg)) ((4 : Int32)).toNatClampNeg) / 10))), (3, .int (ga (C (48 + (x1).toNatClampNeg)) ((1 : Int32)).toNatClampNeg)), (0, .ref (a 0)), (1, .int x1), (2, .int x2)]) hx hb dX7_allOf_87 hl (by decide) rfl (fun ls hl => ?_)
            refine lv_iload hx hb dX7_allOf_89 (lv_at hl 0 rfl) ?_
            refine lv_iload_n hx hb dX7_allOf_91 rfl (lv_at hl 4 rfl) ?_
            refine lv_if_eq (tgt := 106) hx hb dX7_allOf_92 (by decide) (fun (c_46 : x2 = 0) => ?_) (fun (c_46 : ¬ (x2 = 0)) => ?_)
            · refine lv_iconst (v := 0) hx hb dX7_allOf_106 (by decide) ?_
              refine lv_iadd hx hb dX7_allOf_107 ?_
              rw [hQ]
              exact W.iret (v := ((ga (C (48 + (x1).toNatClampNeg)) ((4 : Int32)).toNatClampNeg) + ((ga (C (48 + (x1).toNatClampNeg)) ((4 : Int32)).toNatClampNeg) / 10)) + 0) hx hb hr (fun t ht hW => ⟨((ga (C (48 + (x1).toNatClampNeg)) ((4 : Int32)).toNatClampNeg) + ((ga (C (48 + (x1).toNatClampNeg)) ((4 : Int32)).toNatClampNeg) / 10)) + 0, rfl, (fun hk hf => Eq.trans (Eq.trans (Int32.add_zero _) (show (ga (C (48 + (x1).toNatClampNeg)) ((4 : Int32)).toNatClampNeg + ga (C (48 + (x1).toNatClampNeg)) ((4 : Int32)).toNatClampNeg / 10) = bUnF (ga (C (48 + (x1).toNatClampNeg)) ((1 : Int32)).toNatClampNeg) (ga (C (48 + (x1).toNatClampNeg)) ((4 : Int32)).toNatClampNeg) (ga (C (48 + (x1).toNatClampNeg)) ((8 : Int32)).toNatClampNeg) (ga (C (48 + (x1).toNatClampNeg)) ((9 : Int32)).toNatClampNeg) (ga (C 13) ((2 : Int32)).toNatClampNeg) from Eq.trans (show _ = belF (ga (C (48 + (x1).toNatClampNeg)) ((1 : Int32)).toNatClampNeg) (ga (C (48 + (x1).toNatClampNeg)) ((8 : Int32)).toNatClampNeg) (ga (C (48 + (x1).toNatClampNeg)) ((9 : Int32)).toNatClampNeg) (ga (C 13) ((2 : Int32)).toNatClampNeg) (ga (C (48 + (x1).toNatClampNeg)) ((4 : Int32)).toNatClampNeg + ga (C (48 + (x1).toNatClampNeg)) ((4 : Int32)).toNatClampNeg / 10) from ((Eq.trans (pif_neg (fun h8 => h8.elim c_5 (fun h8 => absurd (Eq.trans (Eq.symm c_42) (hq_41.2.mpr h8)) (by decide)))) (pif_neg (fun h8 => absurd (Eq.trans (Eq.symm c_45) (hq_44.2.mpr ((hf_c hk).mpr h8))) (by decide))))).symm) (congrArg (belF (ga (C (48 + (x1).toNatClampNeg)) ((1 : Int32)).toNatClampNeg) (ga (C (48 + (x1).toNatClampNeg)) ((8 : Int32)).toNatClampNeg) (ga (C (48 + (x1).toNatClampNeg)) ((9 : Int32)).toNatClampNeg) (ga (C 13) ((2 : Int32)).toNatClampNeg)) (show _ = (ga (C (48 + (x1).toNatClampNeg)) ((4 : Int32)).toNatClampNeg + ga (C (48 + (x1).toNatClampNeg)) ((4 : Int32)).toNatClampNeg / 10) from (pif_pos (Or.inr c_24))).symm))) (pif_neg (fun h8 => absurd (Eq.trans (Eq.symm c_46) h8.1) (by decide))).symm), ht⟩) (fun q h => by cases h) dX7_allOf_108
            · refine lv_aload_n hx hb dX7_allOf_95 rfl (lv_at hl 2 rfl) ?_
              refine va_get (D := D) (ci := 7) (v := .ref (a 10)) (C := RX7) (T := TX7) (N := 29) hx hb htg ig_7 hown hK hP 0 (oh_wg (Nat.lt_of_lt_of_le (by decide) hn) (sM_0 hT)) rfl 12 (by decide) (htg _ q_985) (fun _ h9 => h9) rfl dX7_allOf_96 ?_
              refine lv_iload_n hx hb dX7_allOf_99 rfl (lv_at hl 3 rfl) ?_
              have n_47 : vp_in x1 16 := (rg_in hx1 (by decide))
              have b_48 : (x1).toNatClampNeg < 16 := vp_lt n_47
              refine th_aald hx hb hK hP 10 2 (Nat.lt_of_lt_of_le (by decide) hn) (sM_10 hT) rfl n_47 dX7_allOf_100 ?_
              refine lv_iconst (v := 5) hx hb dX7_allOf_101 (by decide) ?_
              refine th_iald hx hb hK hP (48 + (x1).toNatClampNeg) (lt_blk b_48 hn (by decide)) (hT.bbridge b_48).1 (rg_in (rg_c (v := 5) (lo := 5) (hi := 5) (by decide)) (by decide)) dX7_allOf_102 ?_
              refine lv_goto (tgt := 107) hx hb dX7_allOf_103 (by decide) ?_
              refine lv_iadd hx hb dX7_allOf_107 ?_
              rw [hQ]
              exact W.iret (v := ((ga (C (48 + (x1).toNatClampNeg)) ((4 : Int32)).toNatClampNeg) + ((ga (C (48 + (x1).toNatClampNeg)) ((4 : Int32)).toNatClampNeg) / 10)) + (ga (C (48 + (x1).toNatClampNeg)) ((5 : Int32)).toNatClampNeg)) hx hb hr (fun t ht hW => ⟨((ga (C (48 + (x1).toNatClampNeg)) ((4 : Int32)).toNatClampNeg) + ((ga (C (48 + (x1).toNatClampNeg)) ((4 : Int32)).toNatClampNeg) / 10)) + (ga (C (48 + (x1).toNatClampNeg)) ((5 : Int32)).toNatClampNeg), rfl, (fun hk hf => Eq.trans (congrArg (fun z => z + ga (C (48 + (x1).toNatClampNeg)) ((5 : Int32)).toNatClampNeg) (show (ga (C (48 + (x1).toNatClampNeg)) ((4 : Int32)).toNatClampNeg + ga (C (48 + (x1).toNatClampNeg)) ((4 : Int32)).toNatClampNeg / 10) = bUnF (ga (C (48 + (x1).toNatClampNeg)) ((1 : Int32)).toNatClampNeg) (ga (C (48 + (x1).toNatClampNeg)) ((4 : Int32)).toNatClampNeg) (ga (C (48 + (x1).toNatClampNeg)) ((8 : Int32)).toNatClampNeg) (ga (C (48 + (x1).toNatClampNeg)) ((9 : Int32)).toNatClampNeg) (ga (C 13) ((2 : Int32)).toNatClampNeg) from Eq.trans (show _ = belF (ga (C (48 + (x1).toNatClampNeg)) ((1 : Int32)).toNatClampNeg) (ga (C (48 + (x1).toNatClampNeg)) ((8 : Int32)).toNatClampNeg) (ga (C (48 + (x1).toNatClampNeg)) ((9 : Int32)).toNatClampNeg) (ga (C 13) ((2 : Int32)).toNatClampNeg) (ga (C (48 + (x1).toNatClampNeg)) ((4 : Int32)).toNatClampNeg + ga (C (48 + (x1).toNatClampNeg)) ((4 : Int32)).toNatClampNeg / 10) from ((Eq.trans (pif_neg (fun h8 => h8.elim c_5 (fun h8 => absurd (Eq.trans (Eq.symm c_42) (hq_41.2.mpr h8)) (by decide)))) (pif_neg (fun h8 => absurd (Eq.trans (Eq.symm c_45) (hq_44.2.mpr ((hf_c hk).mpr h8))) (by decide))))).symm) (congrArg (belF (ga (C (48 + (x1).toNatClampNeg)) ((1 : Int32)).toNatClampNeg) (ga (C (48 + (x1).toNatClampNeg)) ((8 : Int32)).toNatClampNeg) (ga (C (48 + (x1).toNatClampNeg)) ((9 : Int32)).toNatClampNeg) (ga (C 13) ((2 : Int32)).toNatClampNeg)) (show _ = (ga (C (48 + (x1).toNatClampNeg)) ((4 : Int32)).toNatClampNeg + ga (C (48 + (x1).toNatClampNeg)) ((4 : Int32)).toNatClampNeg / 10) from (pif_pos (Or.inr c_24))).symm))) (pif_pos ⟨oh_b1 hx2 c_46, (rg01 hf c_5)⟩).symm), ht⟩) (fun q h => by cases h) dX7_allOf_108
          · refine lv_iload hx hb dX7_allOf_78 (lv_at hl 0 rfl) ?_
            refine lv_iconst (v := 2) hx hb dX7_allOf_80 (by decide) ?_
            refine lv_idiv hx hb dX7_allOf_81 (by decide) ?_
            refine lv_goto (tgt := 87) hx hb dX7_allOf_82 (by decide) ?_
            refine lv_istore (lv' := [(4, .int (((ga (C (48 + (x1).toNatClampNeg)) ((4 : Int32)).toNatClampNeg) + ((ga (C (48 + (x1).toNatClampNeg)) ((4 : Int32)).toNatClampNeg) / 10)) / 2)), (3, .int (ga (C (48 + (x1).toNatClampNeg)) ((1 : Int32)).toNatClampNeg)), (0, .ref (a 0)), (1, .int x1), (2, .int x2)]) hx hb dX7_allOf_87 hl (by decide) rfl (fun ls hl => ?_)
            refine lv_iload hx hb dX7_allOf_89 (lv_at hl 0 rfl) ?_
            refine lv_iload_n hx hb dX7_allOf_91 rfl (lv_at hl 4 rfl) ?_
            refine lv_if_eq (tgt := 106) hx hb dX7_allOf_92 (by decide) (fun (c_49 : x2 = 0) => ?_) (fun (c_49 : ¬ (x2 = 0)) => ?_)
            · refine lv_iconst (v := 0) hx hb dX7_allOf_106 (by decide) ?_
              refine lv_iadd hx hb dX7_allOf_107 ?_
              rw [hQ]
              exact W.iret (v := (((ga (C (48 + (x1).toNatClampNeg)) ((4 : Int32)).toNatClampNeg) + ((ga (C (48 + (x1).toNatClampNeg)) ((4 : Int32)).toNatClampNeg) / 10)) / 2) + 0) hx hb hr (fun t ht hW => ⟨(((ga (C (48 + (x1).toNatClampNeg)) ((4 : Int32)).toNatClampNeg) + ((ga (C (48 + (x1).toNatClampNeg)) ((4 : Int32)).toNatClampNeg) / 10)) / 2) + 0, rfl, (fun hk hf => Eq.trans (Eq.trans (Int32.add_zero _) (show ((ga (C (48 + (x1).toNatClampNeg)) ((4 : Int32)).toNatClampNeg + ga (C (48 + (x1).toNatClampNeg)) ((4 : Int32)).toNatClampNeg / 10) / 2) = bUnF (ga (C (48 + (x1).toNatClampNeg)) ((1 : Int32)).toNatClampNeg) (ga (C (48 + (x1).toNatClampNeg)) ((4 : Int32)).toNatClampNeg) (ga (C (48 + (x1).toNatClampNeg)) ((8 : Int32)).toNatClampNeg) (ga (C (48 + (x1).toNatClampNeg)) ((9 : Int32)).toNatClampNeg) (ga (C 13) ((2 : Int32)).toNatClampNeg) from Eq.trans (show _ = belF (ga (C (48 + (x1).toNatClampNeg)) ((1 : Int32)).toNatClampNeg) (ga (C (48 + (x1).toNatClampNeg)) ((8 : Int32)).toNatClampNeg) (ga (C (48 + (x1).toNatClampNeg)) ((9 : Int32)).toNatClampNeg) (ga (C 13) ((2 : Int32)).toNatClampNeg) (ga (C (48 + (x1).toNatClampNeg)) ((4 : Int32)).toNatClampNeg + ga (C (48 + (x1).toNatClampNeg)) ((4 : Int32)).toNatClampNeg / 10) from ((Eq.trans (pif_neg (fun h8 => h8.elim c_5 (fun h8 => absurd (Eq.trans (Eq.symm c_42) (hq_41.2.mpr h8)) (by decide)))) (pif_pos ((hf_c hk).mp (hq_44.2.mp (oh_b1 (rg_w (lo := 0) (hi := 1) (rn_nel (l' := 1) c_45 (oh_rgb hq_44.1) (rg_c (v := 0) (lo := 0) (hi := 0) (by decide)) (by decide)) (by decide)) c_45)))))).symm) (congrArg (belF (ga (C (48 + (x1).toNatClampNeg)) ((1 : Int32)).toNatClampNeg) (ga (C (48 + (x1).toNatClampNeg)) ((8 : Int32)).toNatClampNeg) (ga (C (48 + (x1).toNatClampNeg)) ((9 : Int32)).toNatClampNeg) (ga (C 13) ((2 : Int32)).toNatClampNeg)) (show _ = (ga (C (48 + (x1).toNatClampNeg)) ((4 : Int32)).toNatClampNeg + ga (C (48 + (x1).toNatClampNeg)) ((4 : Int32)).toNatClampNeg / 10) from (pif_pos (Or.inr c_24))).symm))) (pif_neg (fun h8 => absurd (Eq.trans (Eq.symm c_49) h8.1) (by decide))).symm), ht⟩) (fun q h => by cases h) dX7_allOf_108
            · refine lv_aload_n hx hb dX7_allOf_95 rfl (lv_at hl 2 rfl) ?_
              refine va_get (D := D) (ci := 7) (v := .ref (a 10)) (C := RX7) (T := TX7) (N := 29) hx hb htg ig_7 hown hK hP 0 (oh_wg (Nat.lt_of_lt_of_le (by decide) hn) (sM_0 hT)) rfl 12 (by decide) (htg _ q_985) (fun _ h9 => h9) rfl dX7_allOf_96 ?_
              refine lv_iload_n hx hb dX7_allOf_99 rfl (lv_at hl 3 rfl) ?_
              have n_50 : vp_in x1 16 := (rg_in hx1 (by decide))
              have b_51 : (x1).toNatClampNeg < 16 := vp_lt n_50
              refine th_aald hx hb hK hP 10 2 (Nat.lt_of_lt_of_le (by decide) hn) (sM_10 hT) rfl n_50 dX7_allOf_100 ?_
              refine lv_iconst (v := 5) hx hb dX7_allOf_101 (by decide) ?_
              refine th_iald hx hb hK hP (48 + (x1).toNatClampNeg) (lt_blk b_51 hn (by decide)) (hT.bbridge b_51).1 (rg_in (rg_c (v := 5) (lo := 5) (hi := 5) (by decide)) (by decide)) dX7_allOf_102 ?_
              refine lv_goto (tgt := 107) hx hb dX7_allOf_103 (by decide) ?_
              refine lv_iadd hx hb dX7_allOf_107 ?_
              rw [hQ]
              exact W.iret (v := (((ga (C (48 + (x1).toNatClampNeg)) ((4 : Int32)).toNatClampNeg) + ((ga (C (48 + (x1).toNatClampNeg)) ((4 : Int32)).toNatClampNeg) / 10)) / 2) + (ga (C (48 + (x1).toNatClampNeg)) ((5 : Int32)).toNatClampNeg)) hx hb hr (fun t ht hW => ⟨(((ga (C (48 + (x1).toNatClampNeg)) ((4 : Int32)).toNatClampNeg) + ((ga (C (48 + (x1).toNatClampNeg)) ((4 : Int32)).toNatClampNeg) / 10)) / 2) + (ga (C (48 + (x1).toNatClampNeg)) ((5 : Int32)).toNatClampNeg), rfl, (fun hk hf => Eq.trans (congrArg (fun z => z + ga (C (48 + (x1).toNatClampNeg)) ((5 : Int32)).toNatClampNeg) (show ((ga (C (48 + (x1).toNatClampNeg)) ((4 : Int32)).toNatClampNeg + ga (C (48 + (x1).toNatClampNeg)) ((4 : Int32)).toNatClampNeg / 10) / 2) = bUnF (ga (C (48 + (x1).toNatClampNeg)) ((1 : Int32)).toNatClampNeg) (ga (C (48 + (x1).toNatClampNeg)) ((4 : Int32)).toNatClampNeg) (ga (C (48 + (x1).toNatClampNeg)) ((8 : Int32)).toNatClampNeg) (ga (C (48 + (x1).toNatClampNeg)) ((9 : Int32)).toNatClampNeg) (ga (C 13) ((2 : Int32)).toNatClampNeg) from Eq.trans (show _ = belF (ga (C (48 + (x1).toNatClampNeg)) ((1 : Int32)).toNatClampNeg) (ga (C (48 + (x1).toNatClampNeg)) ((8 : Int32)).toNatClampNeg) (ga (C (48 + (x1).toNatClampNeg)) ((9 : Int32)).toNatClampNeg) (ga (C 13) ((2 : Int32)).toNatClampNeg) (ga (C (48 + (x1).toNatClampNeg)) ((4 : Int32)).toNatClampNeg + ga (C (48 + (x1).toNatClampNeg)) ((4 : Int32)).toNatClampNeg / 10) from ((Eq.trans (pif_neg (fun h8 => h8.elim c_5 (fun h8 => absurd (Eq.trans (Eq.symm c_42) (hq_41.2.mpr h8)) (by decide)))) (pif_pos ((hf_c hk).mp (hq_44.2.mp (oh_b1 (rg_w (lo := 0) (hi := 1) (rn_nel (l' := 1) c_45 (oh_rgb hq_44.1) (rg_c (v := 0) (lo := 0) (hi := 0) (by decide)) (by decide)) (by decide)) c_45)))))).symm) (congrArg (belF (ga (C (48 + (x1).toNatClampNeg)) ((1 : Int32)).toNatClampNeg) (ga (C (48 + (x1).toNatClampNeg)) ((8 : Int32)).toNatClampNeg) (ga (C (48 + (x1).toNatClampNeg)) ((9 : Int32)).toNatClampNeg) (ga (C 13) ((2 : Int32)).toNatClampNeg)) (show _ = (ga (C (48 + (x1).toNatClampNeg)) ((4 : Int32)).toNatClampNeg + ga (C (48 + (x1).toNatClampNeg)) ((4 : Int32)).toNatClampNeg / 10) from (pif_pos (Or.inr c_24))).symm))) (pif_pos ⟨oh_b1 hx2 c_49, (rg01 hf c_5)⟩).symm), ht⟩) (fun q h => by cases h) dX7_allOf_108
        · refine lv_iconst (v := 0) hx hb dX7_allOf_66 (by decide) ?_
          refine lv_goto (tgt := 87) hx hb dX7_allOf_67 (by decide) ?_
          refine lv_istore (lv' := [(4, .int 0), (3, .int (ga (C (48 + (x1).toNatClampNeg)) ((1 : Int32)).toNatClampNeg)), (0, .ref (a 0)), (1, .int x1), (2, .int x2)]) hx hb dX7_allOf_87 hl (by decide) rfl (fun ls hl => ?_)
          refine lv_iload hx hb dX7_allOf_89 (lv_at hl 0 rfl) ?_
          refine lv_iload_n hx hb dX7_allOf_91 rfl (lv_at hl 4 rfl) ?_
          refine lv_if_eq (tgt := 106) hx hb dX7_allOf_92 (by decide) (fun (c_52 : x2 = 0) => ?_) (fun (c_52 : ¬ (x2 = 0)) => ?_)
          · refine lv_iconst (v := 0) hx hb dX7_allOf_106 (by decide) ?_
            refine lv_iadd hx hb dX7_allOf_107 ?_
            refine oh_nrm (v := 0) (by decide) ?_
            rw [hQ]
            exact W.iret (v := 0) hx hb hr (fun t ht hW => ⟨0, rfl, (fun hk hf => Eq.trans (Eq.trans rfl (show 0 = bUnF (ga (C (48 + (x1).toNatClampNeg)) ((1 : Int32)).toNatClampNeg) (ga (C (48 + (x1).toNatClampNeg)) ((4 : Int32)).toNatClampNeg) (ga (C (48 + (x1).toNatClampNeg)) ((8 : Int32)).toNatClampNeg) (ga (C (48 + (x1).toNatClampNeg)) ((9 : Int32)).toNatClampNeg) (ga (C 13) ((2 : Int32)).toNatClampNeg) from Eq.trans (show _ = belF (ga (C (48 + (x1).toNatClampNeg)) ((1 : Int32)).toNatClampNeg) (ga (C (48 + (x1).toNatClampNeg)) ((8 : Int32)).toNatClampNeg) (ga (C (48 + (x1).toNatClampNeg)) ((9 : Int32)).toNatClampNeg) (ga (C 13) ((2 : Int32)).toNatClampNeg) (ga (C (48 + (x1).toNatClampNeg)) ((4 : Int32)).toNatClampNeg + ga (C (48 + (x1).toNatClampNeg)) ((4 : Int32)).toNatClampNeg / 10) from ((pif_pos (Or.inr (hq_41.2.mp (oh_b1 (rg_w (lo := 0) (hi := 1) (rn_nel (l' := 1) c_42 (oh_rgb hq_41.1) (rg_c (v := 0) (lo := 0) (hi := 0) (by decide)) (by decide)) (by decide)) c_42))))).symm) (congrArg (belF (ga (C (48 + (x1).toNatClampNeg)) ((1 : Int32)).toNatClampNeg) (ga (C (48 + (x1).toNatClampNeg)) ((8 : Int32)).toNatClampNeg) (ga (C (48 + (x1).toNatClampNeg)) ((9 : Int32)).toNatClampNeg) (ga (C 13) ((2 : Int32)).toNatClampNeg)) (show _ = (ga (C (48 + (x1).toNatClampNeg)) ((4 : Int32)).toNatClampNeg + ga (C (48 + (x1).toNatClampNeg)) ((4 : Int32)).toNatClampNeg / 10) from (pif_pos (Or.inr c_24))).symm))) (pif_neg (fun h8 => absurd (Eq.trans (Eq.symm c_52) h8.1) (by decide))).symm), ht⟩) (fun q h => by cases h) dX7_allOf_108
          · refine lv_aload_n hx hb dX7_allOf_95 rfl (lv_at hl 2 rfl) ?_
            refine va_get (D := D) (ci := 7) (v := .ref (a 10)) (C := RX7) (T := TX7) (N := 29) hx hb htg ig_7 hown hK hP 0 (oh_wg (Nat.lt_of_lt_of_le (by decide) hn) (sM_0 hT)) rfl 12 (by decide) (htg _ q_985) (fun _ h9 => h9) rfl dX7_allOf_96 ?_
            refine lv_iload_n hx hb dX7_allOf_99 rfl (lv_at hl 3 rfl) ?_
            have n_53 : vp_in x1 16 := (rg_in hx1 (by decide))
            have b_54 : (x1).toNatClampNeg < 16 := vp_lt n_53
            refine th_aald hx hb hK hP 10 2 (Nat.lt_of_lt_of_le (by decide) hn) (sM_10 hT) rfl n_53 dX7_allOf_100 ?_
            refine lv_iconst (v := 5) hx hb dX7_allOf_101 (by decide) ?_
            refine th_iald hx hb hK hP (48 + (x1).toNatClampNeg) (lt_blk b_54 hn (by decide)) (hT.bbridge b_54).1 (rg_in (rg_c (v := 5) (lo := 5) (hi := 5) (by decide)) (by decide)) dX7_allOf_102 ?_
            refine lv_goto (tgt := 107) hx hb dX7_allOf_103 (by decide) ?_
            refine lv_iadd hx hb dX7_allOf_107 ?_
            rw [hQ]
            exact W.iret (v := 0 + (ga (C (48 + (x1).toNatClampNeg)) ((5 : Int32)).toNatClampNeg)) hx hb hr (fun t ht hW => ⟨0 + (ga (C (48 + (x1).toNatClampNeg)) ((5 : Int32)).toNatClampNeg), rfl, (fun hk hf => Eq.trans (congrArg (fun z => z + ga (C (48 + (x1).toNatClampNeg)) ((5 : Int32)).toNatClampNeg) (show 0 = bUnF (ga (C (48 + (x1).toNatClampNeg)) ((1 : Int32)).toNatClampNeg) (ga (C (48 + (x1).toNatClampNeg)) ((4 : Int32)).toNatClampNeg) (ga (C (48 + (x1).toNatClampNeg)) ((8 : Int32)).toNatClampNeg) (ga (C (48 + (x1).toNatClampNeg)) ((9 : Int32)).toNatClampNeg) (ga (C 13) ((2 : Int32)).toNatClampNeg) from Eq.trans (show _ = belF (ga (C (48 + (x1).toNatClampNeg)) ((1 : Int32)).toNatClampNeg) (ga (C (48 + (x1).toNatClampNeg)) ((8 : Int32)).toNatClampNeg) (ga (C (48 + (x1).toNatClampNeg)) ((9 : Int32)).toNatClampNeg) (ga (C 13) ((2 : Int32)).toNatClampNeg) (ga (C (48 + (x1).toNatClampNeg)) ((4 : Int32)).toNatClampNeg + ga (C (48 + (x1).toNatClampNeg)) ((4 : Int32)).toNatClampNeg / 10) from ((pif_pos (Or.inr (hq_41.2.mp (oh_b1 (rg_w (lo := 0) (hi := 1) (rn_nel (l' := 1) c_42 (oh_rgb hq_41.1) (rg_c (v := 0) (lo := 0) (hi := 0) (by decide)) (by decide)) (by decide)) c_42))))).symm) (congrArg (belF (ga (C (48 + (x1).toNatClampNeg)) ((1 : Int32)).toNatClampNeg) (ga (C (48 + (x1).toNatClampNeg)) ((8 : Int32)).toNatClampNeg) (ga (C (48 + (x1).toNatClampNeg)) ((9 : Int32)).toNatClampNeg) (ga (C 13) ((2 : Int32)).toNatClampNeg)) (show _ = (ga (C (48 + (x1).toNatClampNeg)) ((4 : Int32)).toNatClampNeg + ga (C (48 + (x1).toNatClampNeg)) ((4 : Int32)).toNatClampNeg / 10) from (pif_pos (Or.inr c_24))).symm))) (pif_pos ⟨oh_b1 hx2 c_52, (rg01 hf c_5)⟩).symm), ht⟩) (fun q h => by cases h) dX7_allOf_108
  · refine lv_iconst (v := 0) hx hb dX7_allOf_22 (by decide) ?_
    rw [hQ]
    exact W.iret (v := 0) hx hb hr (fun t ht hW => ⟨0, rfl, (fun hk hf => (Eq.trans (pif_neg (fun h8 => absurd (Eq.trans (Eq.symm c_5) h8.2) (by decide))) (pif_pos (Or.inl c_5))).symm), ht⟩) (fun q h => by cases h) dX7_allOf_23

set_option maxHeartbeats 4000000 in
set_option maxRecDepth 100000 in
theorem e_X7_needsOf (l : Launch) (D : va_G) (E : Nat → ClassId) (G : Nat → Nat) (a : Nat → Nat) (C : Nat → va_E) (n : Nat) (hn : 74 ≤ n) (hT : TyM a E C) (x1 : Int32) (x2 : Int32) (x3 : Int32) (hx1 : rg x1 0 4) (hx3 : rg x3 0 15) (hw : oh_pos C x1) : Met l yX7_needsOf (oh_w yX7_needsOf cX7_needsOf 6 (some .int)) ({ frames := 2, cells := 0, slots := 0, locals := 48 }) (oh_Pp D E G [.ref (a 0), .int x1, .int x2, .int x3] (oh_W n a C)) (vp_Si (fun r => (∀ A : LA, absM C A → okA A → x1 < A 5 0 2 → x3 < A 5 0 1 → r = ndA A x1 x2 x3.toNatClampNeg))) 0 0 (fun _ => False) := by
  refine Met.ofW (cc := cX7_needsOf) (maxL := 6) (ret := (some .int)) (by decide) rfl ?_
  intro p e s m args below meth c s₁ B hml hv
  obtain ⟨rfl, hP, hK, hG⟩ := hv
  have hx := B.exec
  have hb := B.bytes
  have hr := B.returns
  have hts := atoms_spec (ws := (oh_w yX7_needsOf cX7_needsOf 6 (some .int))) B.pre
  have htg : ∀ w ∈ oh_t, w.before _ s = true := fun w h => hts w (List.mem_cons_of_mem _ h)
  have hown : s.vm.findClass RX7 = some m.cls := findClass_of_methodNamed B.named
  have hlocks := B.notSynchronized
  have hT0 := hT
  have hS : va_S (fun _ => False) s.heap s.heap [] := va_S.rf
  have hl := lv_entry ([.ref (a 0), .int x1, .int x2, .int x3]) (n := 6) (Nat.le_of_ble_eq_true rfl)
  rw [lg_entry_eq]
  generalize (lg_sl ([.ref (a 0), .int x1, .int x2, .int x3]) ++ List.replicate (6 - (lg_sl ([.ref (a 0), .int x1, .int x2, .int x3])).length) Slot.unset).toArray = ls at hl ⊢
  have hl : lv_has ls 6 [(0, .ref (a 0)), (1, .int x1), (2, .int x2), (3, .int x3)] := hl
  refine oh_genQ (fun Q hQ => ?_)
  refine lv_aload_n hx hb dX7_needsOf_0 rfl (lv_at hl 0 rfl) ?_
  refine lv_iload_n hx hb dX7_needsOf_1 rfl (lv_at hl 1 rfl) ?_
  refine lv_iload_n hx hb dX7_needsOf_2 rfl (lv_at hl 2 rfl) ?_
  refine tq_V (As := [.int x1, .int x2]) (rest := []) (ws := (oh_W n a C)) ⟨hx, hb, hml, hown, htg⟩ (e_X7_axleLoad l D E G a C n hn hT x1 x2 (rg_w hx1 (by decide)) hw) (cwV 2 htg (oh_gV q_1294 q_1296 q_51 q_73 q_1297) rfl rfl rfl pdVX7_axleLoad ⟨Nat.le_of_ble_eq_true rfl, Nat.le_of_ble_eq_true rfl⟩) hK hP hG hS (va_recv hK hP (ci := 7) (q0 := 0) rfl (oh_wg (Nat.lt_of_lt_of_le (by decide) hn) (sM_0 hT))) rfl hl.1 rfl (Nat.le_of_ble_eq_true rfl) dX7_needsOf_3 ⟨Nat.le_of_ble_eq_true rfl, Nat.le_of_ble_eq_true rfl⟩ (fun r_1 hq_2 => ?_)
  refine lv_aload_n hx hb dX7_needsOf_6 rfl (lv_at hl 0 rfl) ?_
  refine lv_iload_n hx hb dX7_needsOf_7 rfl (lv_at hl 3 rfl) ?_
  refine tq_V (As := [.int x3]) (rest := [.int r_1]) (ws := (oh_W n a C)) ⟨hx, hb, hml, hown, htg⟩ (e_X7_axleOf l D E G a C n hn hT x3 (rg_w hx3 (by decide))) (cwV 1 htg (oh_gV q_1110 q_1112 q_31 q_73 q_1113) rfl rfl rfl pdVX7_axleOf ⟨Nat.le_of_ble_eq_true rfl, Nat.le_of_ble_eq_true rfl⟩) hK hP hG hS (va_recv hK hP (ci := 7) (q0 := 0) rfl (oh_wg (Nat.lt_of_lt_of_le (by decide) hn) (sM_0 hT))) rfl hl.1 rfl (Nat.le_of_ble_eq_true rfl) dX7_needsOf_8 ⟨Nat.le_of_ble_eq_true rfl, Nat.le_of_ble_eq_true rfl⟩ (fun r_3 hq_4 => ?_)
  refine lv_icmp_le (tgt := 16) hx hb dX7_needsOf_11 (by decide) (fun (c_5 : r_1 ≤ r_3) => ?_) (fun (c_5 : ¬ (r_1 ≤ r_3)) => ?_)
  · refine lv_aload_n hx hb dX7_needsOf_16 rfl (lv_at hl 0 rfl) ?_
    refine lv_iload_n hx hb dX7_needsOf_17 rfl (lv_at hl 1 rfl) ?_
    refine lv_iload_n hx hb dX7_needsOf_18 rfl (lv_at hl 2 rfl) ?_
    refine lv_iload_n hx hb dX7_needsOf_19 rfl (lv_at hl 3 rfl) ?_
    refine tq_V (As := [.int x1, .int x2, .int x3]) (rest := []) (ws := (oh_W n a C)) ⟨hx, hb, hml, hown, htg⟩ (e_X7_strainOf l D E G a C n hn hT x1 x2 x3 (rg_w hx1 (by decide)) (rg_w hx3 (by decide)) hw) (cwV 3 htg (oh_gV q_1302 q_1304 q_52 q_73 q_1305) rfl rfl rfl pdVX7_strainOf ⟨Nat.le_of_ble_eq_true rfl, Nat.le_of_ble_eq_true rfl⟩) hK hP hG hS (va_recv hK hP (ci := 7) (q0 := 0) rfl (oh_wg (Nat.lt_of_lt_of_le (by decide) hn) (sM_0 hT))) rfl hl.1 rfl (Nat.le_of_ble_eq_true rfl) dX7_needsOf_20 ⟨Nat.le_of_ble_eq_true rfl, Nat.le_of_ble_eq_true rfl⟩ (fun r_6 hq_7 => ?_)
    refine lv_istore (lv' := [(4, .int r_6), (0, .ref (a 0)), (1, .int x1), (2, .int x2), (3, .int x3)]) hx hb dX7_needsOf_23 hl (by decide) rfl (fun ls hl => ?_)
    refine lv_aload_n hx hb dX7_needsOf_25 rfl (lv_at hl 1 rfl) ?_
    refine va_get (D := D) (ci := 7) (v := .ref (a 10)) (C := RX7) (T := TX7) (N := 29) hx hb htg ig_7 hown hK hP 0 (oh_wg (Nat.lt_of_lt_of_le (by decide) hn) (sM_0 hT)) rfl 12 (by decide) (htg _ q_985) (fun _ h9 => h9) rfl dX7_needsOf_26 ?_
    refine lv_iload_n hx hb dX7_needsOf_29 rfl (lv_at hl 4 rfl) ?_
    have n_8 : vp_in x3 16 := (rg_in hx3 (by decide))
    have b_9 : (x3).toNatClampNeg < 16 := vp_lt n_8
    refine th_aald hx hb hK hP 10 2 (Nat.lt_of_lt_of_le (by decide) hn) (sM_10 hT) rfl n_8 dX7_needsOf_30 ?_
    refine lv_bipush (v := 7) hx hb dX7_needsOf_31 (by decide) ?_
    refine th_iald hx hb hK hP (48 + (x3).toNatClampNeg) (lt_blk b_9 hn (by decide)) (hT.bbridge b_9).1 (rg_in (rg_c (v := 7) (lo := 7) (hi := 7) (by decide)) (by decide)) dX7_needsOf_33 ?_
    refine lv_iconst (v := 1) hx hb dX7_needsOf_34 (by decide) ?_
    refine lv_icmp_ne (tgt := 42) hx hb dX7_needsOf_35 (by decide) (fun (c_10 : ¬ ((ga (C (48 + (x3).toNatClampNeg)) ((7 : Int32)).toNatClampNeg) = 1)) => ?_) (fun (c_10 : (ga (C (48 + (x3).toNatClampNeg)) ((7 : Int32)).toNatClampNeg) = 1) => ?_)
    · refine lv_iconst (v := 0) hx hb dX7_needsOf_42 (by decide) ?_
      refine lv_istore (lv' := [(5, .int 0), (4, .int r_6), (0, .ref (a 0)), (1, .int x1), (2, .int x2), (3, .int x3)]) hx hb dX7_needsOf_43 hl (by decide) rfl (fun ls hl => ?_)
      refine lv_iload hx hb dX7_needsOf_45 (lv_at hl 1 rfl) ?_
      refine lv_aload_n hx hb dX7_needsOf_47 rfl (lv_at hl 2 rfl) ?_
      refine lv_iload_n hx hb dX7_needsOf_48 rfl (lv_at hl 5 rfl) ?_
      refine lv_iload hx hb dX7_needsOf_49 (lv_at hl 0 rfl) ?_
      refine tq_V (As := [.int x3, .int 0]) (rest := [.int r_6]) (ws := (oh_W n a C)) ⟨hx, hb, hml, hown, htg⟩ (e_X7_allOf l D E G a C n hn hT x3 (0 : Int32) (rg_w hx3 (by decide)) (rg_w (rg_c (v := 0) (lo := 0) (hi := 0) (by decide)) (by decide))) (cwV 2 htg (oh_gV q_1122 q_1124 q_34 q_73 q_1125) rfl rfl rfl pdVX7_allOf ⟨Nat.le_of_ble_eq_true rfl, Nat.le_of_ble_eq_true rfl⟩) hK hP hG hS (va_recv hK hP (ci := 7) (q0 := 0) rfl (oh_wg (Nat.lt_of_lt_of_le (by decide) hn) (sM_0 hT))) rfl hl.1 rfl (Nat.le_of_ble_eq_true rfl) dX7_needsOf_51 ⟨Nat.le_of_ble_eq_true rfl, Nat.le_of_ble_eq_true rfl⟩ (fun r_11 hq_12 => ?_)
      refine lv_icmp_gt (tgt := 59) hx hb dX7_needsOf_54 (by decide) (fun (c_13 : r_11 < r_6) => ?_) (fun (c_13 : ¬ (r_11 < r_6)) => ?_)
      · refine lv_iload hx hb dX7_needsOf_59 (lv_at hl 0 rfl) ?_
        refine lv_if_ne (tgt := 91) hx hb dX7_needsOf_61 (by decide) (fun c => absurd (show (0 : Int32) = 0 from by decide) c) (fun _ => ?_)
        refine lv_aload_n hx hb dX7_needsOf_64 rfl (lv_at hl 2 rfl) ?_
        refine va_get (D := D) (ci := 7) (v := .ref (a 10)) (C := RX7) (T := TX7) (N := 29) hx hb htg ig_7 hown hK hP 0 (oh_wg (Nat.lt_of_lt_of_le (by decide) hn) (sM_0 hT)) rfl 12 (by decide) (htg _ q_985) (fun _ h9 => h9) rfl dX7_needsOf_65 ?_
        refine lv_iload_n hx hb dX7_needsOf_68 rfl (lv_at hl 5 rfl) ?_
        have n_14 : vp_in x3 16 := (rg_in hx3 (by decide))
        have b_15 : (x3).toNatClampNeg < 16 := vp_lt n_14
        refine th_aald hx hb hK hP 10 2 (Nat.lt_of_lt_of_le (by decide) hn) (sM_10 hT) rfl n_14 dX7_needsOf_69 ?_
        refine lv_iconst (v := 1) hx hb dX7_needsOf_70 (by decide) ?_
        refine th_iald hx hb hK hP (48 + (x3).toNatClampNeg) (lt_blk b_15 hn (by decide)) (hT.bbridge b_15).1 (rg_in (rg_c (v := 1) (lo := 1) (hi := 1) (by decide)) (by decide)) dX7_needsOf_71 ?_
        refine lv_iconst (v := 3) hx hb dX7_needsOf_72 (by decide) ?_
        refine lv_icmp_eq (tgt := 91) hx hb dX7_needsOf_73 (by decide) (fun (c_16 : (ga (C (48 + (x3).toNatClampNeg)) ((1 : Int32)).toNatClampNeg) = 3) => ?_) (fun (c_16 : ¬ ((ga (C (48 + (x3).toNatClampNeg)) ((1 : Int32)).toNatClampNeg) = 3)) => ?_)
        · refine lv_iconst (v := 2) hx hb dX7_needsOf_91 (by decide) ?_
          rw [hQ]
          exact W.iret (v := 2) hx hb hr (fun t ht hW => ⟨2, rfl, (fun A hA hok hl hb => by have i3 : rg x3 0 15 := hx3; have c0 : ga (C (48 + (x3).toNatClampNeg)) ((0 : Int32)).toNatClampNeg = A 1 x3.toNatClampNeg 0 := colM_v (t := 1) hA (by decide) i3 (by decide) hb (by unfold vis; omega); have c1 : ga (C (48 + (x3).toNatClampNeg)) ((1 : Int32)).toNatClampNeg = A 1 x3.toNatClampNeg 1 := colM_v (t := 1) hA (by decide) i3 (by decide) hb (by unfold vis; omega); have c2 : ga (C (48 + (x3).toNatClampNeg)) ((2 : Int32)).toNatClampNeg = A 1 x3.toNatClampNeg 2 := colM_v (t := 1) hA (by decide) i3 (by decide) hb (by unfold vis; omega); have c3 : ga (C (48 + (x3).toNatClampNeg)) ((3 : Int32)).toNatClampNeg = A 1 x3.toNatClampNeg 3 := colM_v (t := 1) hA (by decide) i3 (by decide) hb (by unfold vis; omega); have c4 : ga (C (48 + (x3).toNatClampNeg)) ((4 : Int32)).toNatClampNeg = A 1 x3.toNatClampNeg 4 := colM_v (t := 1) hA (by decide) i3 (by decide) hb (by unfold vis; omega); have c5 : ga (C (48 + (x3).toNatClampNeg)) ((5 : Int32)).toNatClampNeg = A 1 x3.toNatClampNeg 5 := colM_v (t := 1) hA (by decide) i3 (by decide) hb (by unfold vis; omega); have c6 : ga (C (48 + (x3).toNatClampNeg)) ((6 : Int32)).toNatClampNeg = A 1 x3.toNatClampNeg 6 := colM_v (t := 1) hA (by decide) i3 (by decide) hb (by unfold vis; omega); have c7 : ga (C (48 + (x3).toNatClampNeg)) ((7 : Int32)).toNatClampNeg = A 1 x3.toNatClampNeg 7 := colM_v (t := 1) hA (by decide) i3 (by decide) hb (by unfold vis; omega); have c8 : ga (C (48 + (x3).toNatClampNeg)) ((8 : Int32)).toNatClampNeg = A 1 x3.toNatClampNeg 8 := colM_v (t := 1) hA (by decide) i3 (by decide) hb (by unfold vis; omega); have c9 : ga (C (48 + (x3).toNatClampNeg)) ((9 : Int32)).toNatClampNeg = A 1 x3.toNatClampNeg 9 := colM_v (t := 1) hA (by decide) i3 (by decide) hb (by unfold vis; omega); have cf : ga (C 13) ((2 : Int32)).toNatClampNeg = A 4 0 2 := hA.2.1 2 (by decide); have hv := hok.2.2.2.1 x3.toNatClampNeg (by rw [oh_nat i3 (by decide)]; exact Int32.lt_iff_toInt_lt.mp hb); have hk : (ga (C (48 + (x3).toNatClampNeg)) ((1 : Int32)).toNatClampNeg).toInt ≤ 5 := (by rw [c1]; exact hv.2.1.2); have hf : rg (ga (C (48 + (x3).toNatClampNeg)) ((8 : Int32)).toNatClampNeg) 0 1 := (by rw [c8]; exact hv.2.2.2.2.2.2.2.2.1); have w0 : ga (C (64 + (x1).toNatClampNeg)) ((0 : Int32)).toNatClampNeg = A 2 x1.toNatClampNeg 0 := colM_v (t := 2) hA (by decide) hx1 (by decide) hl (by unfold vis; omega); have w1 : ga (C (64 + (x1).toNatClampNeg)) ((1 : Int32)).toNatClampNeg = A 2 x1.toNatClampNeg 1 := colM_v (t := 2) hA (by decide) hx1 (by decide) hl (by unfold vis; omega); have w2 : ga (C (64 + (x1).toNatClampNeg)) ((2 : Int32)).toNatClampNeg = A 2 x1.toNatClampNeg 2 := colM_v (t := 2) hA (by decide) hx1 (by decide) hl (by unfold vis; omega); have ws : ga (C 13) ((0 : Int32)).toNatClampNeg = A 4 0 0 := hA.2.1 0 (by decide); have el : r_1 = aL A x1 x2 := (by rw [hq_2 A hA, w0, w2, ws]; rfl); have ex : r_3 = bAxF (A 1 x3.toNatClampNeg 1) (A 1 x3.toNatClampNeg 3) (A 1 x3.toNatClampNeg 8) (A 1 x3.toNatClampNeg 9) (A 4 0 2) := (by rw [hq_4 hk, c1, c3, c8, c9, cf]); have es : r_6 = snA A x1 x2 x3.toNatClampNeg := (by rw [hq_7 A hA, c2, w0, w1, w2, ws]; rfl); have ea0 : r_11 = bAlF (A 1 x3.toNatClampNeg 7 = 1) (A 1 x3.toNatClampNeg 1) (A 1 x3.toNatClampNeg 4) (A 1 x3.toNatClampNeg 5) (A 1 x3.toNatClampNeg 8) (A 1 x3.toNatClampNeg 9) (A 4 0 2) := (by rw [hq_12 hk hf, c1, c4, c5, c8, c9, cf]; exact bAlF_c ⟨fun h8 => absurd h8 (by decide), fun h8 => absurd (Eq.trans c7 h8) c_10⟩); exact ((Eq.trans (pif_neg (show ¬ (bAxF (A 1 x3.toNatClampNeg 1) (A 1 x3.toNatClampNeg 3) (A 1 x3.toNatClampNeg 8) (A 1 x3.toNatClampNeg 9) (A 4 0 2) < aL A x1 x2) by rw [← ex, ← el]; exact (Int32.not_lt.mpr c_5))) (Eq.trans (pif_neg (show ¬ (snA A x1 x2 x3.toNatClampNeg ≤ bAlF (A 1 x3.toNatClampNeg 7 = 1) (A 1 x3.toNatClampNeg 1) (A 1 x3.toNatClampNeg 4) (A 1 x3.toNatClampNeg 5) (A 1 x3.toNatClampNeg 8) (A 1 x3.toNatClampNeg 9) (A 4 0 2)) by rw [← es, ← ea0]; exact (Int32.not_le.mpr c_13))) (pif_pos (Or.inr (Eq.trans c1.symm c_16)))))).symm), ht⟩) (fun q h => by cases h) dX7_needsOf_92
        · refine lv_iload hx hb dX7_needsOf_76 (lv_at hl 1 rfl) ?_
          refine lv_aload_n hx hb dX7_needsOf_78 rfl (lv_at hl 2 rfl) ?_
          refine lv_iload_n hx hb dX7_needsOf_79 rfl (lv_at hl 5 rfl) ?_
          refine lv_iconst (v := 1) hx hb dX7_needsOf_80 (by decide) ?_
          refine tq_V (As := [.int x3, .int 1]) (rest := [.int r_6]) (ws := (oh_W n a C)) ⟨hx, hb, hml, hown, htg⟩ (e_X7_allOf l D E G a C n hn hT x3 (1 : Int32) (rg_w hx3 (by decide)) (rg_w (rg_c (v := 1) (lo := 1) (hi := 1) (by decide)) (by decide))) (cwV 2 htg (oh_gV q_1122 q_1124 q_34 q_73 q_1125) rfl rfl rfl pdVX7_allOf ⟨Nat.le_of_ble_eq_true rfl, Nat.le_of_ble_eq_true rfl⟩) hK hP hG hS (va_recv hK hP (ci := 7) (q0 := 0) rfl (oh_wg (Nat.lt_of_lt_of_le (by decide) hn) (sM_0 hT))) rfl hl.1 rfl (Nat.le_of_ble_eq_true rfl) dX7_needsOf_81 ⟨Nat.le_of_ble_eq_true rfl, Nat.le_of_ble_eq_true rfl⟩ (fun r_17 hq_18 => ?_)
          refine lv_icmp_gt (tgt := 91) hx hb dX7_needsOf_84 (by decide) (fun (c_19 : r_17 < r_6) => ?_) (fun (c_19 : ¬ (r_17 < r_6)) => ?_)
          · refine lv_iconst (v := 2) hx hb dX7_needsOf_91 (by decide) ?_
            rw [hQ]
            exact W.iret (v := 2) hx hb hr (fun t ht hW => ⟨2, rfl, (fun A hA hok hl hb => by have i3 : rg x3 0 15 := hx3; have c0 : ga (C (48 + (x3).toNatClampNeg)) ((0 : Int32)).toNatClampNeg = A 1 x3.toNatClampNeg 0 := colM_v (t := 1) hA (by decide) i3 (by decide) hb (by unfold vis; omega); have c1 : ga (C (48 + (x3).toNatClampNeg)) ((1 : Int32)).toNatClampNeg = A 1 x3.toNatClampNeg 1 := colM_v (t := 1) hA (by decide) i3 (by decide) hb (by unfold vis; omega); have c2 : ga (C (48 + (x3).toNatClampNeg)) ((2 : Int32)).toNatClampNeg = A 1 x3.toNatClampNeg 2 := colM_v (t := 1) hA (by decide) i3 (by decide) hb (by unfold vis; omega); have c3 : ga (C (48 + (x3).toNatClampNeg)) ((3 : Int32)).toNatClampNeg = A 1 x3.toNatClampNeg 3 := colM_v (t := 1) hA (by decide) i3 (by decide) hb (by unfold vis; omega); have c4 : ga (C (48 + (x3).toNatClampNeg)) ((4 : Int32)).toNatClampNeg = A 1 x3.toNatClampNeg 4 := colM_v (t := 1) hA (by decide) i3 (by decide) hb (by unfold vis; omega); have c5 : ga (C (48 + (x3).toNatClampNeg)) ((5 : Int32)).toNatClampNeg = A 1 x3.toNatClampNeg 5 := colM_v (t := 1) hA (by decide) i3 (by decide) hb (by unfold vis; omega); have c6 : ga (C (48 + (x3).toNatClampNeg)) ((6 : Int32)).toNatClampNeg = A 1 x3.toNatClampNeg 6 := colM_v (t := 1) hA (by decide) i3 (by decide) hb (by unfold vis; omega); have c7 : ga (C (48 + (x3).toNatClampNeg)) ((7 : Int32)).toNatClampNeg = A 1 x3.toNatClampNeg 7 := colM_v (t := 1) hA (by decide) i3 (by decide) hb (by unfold vis; omega); have c8 : ga (C (48 + (x3).toNatClampNeg)) ((8 : Int32)).toNatClampNeg = A 1 x3.toNatClampNeg 8 := colM_v (t := 1) hA (by decide) i3 (by decide) hb (by unfold vis; omega); have c9 : ga (C (48 + (x3).toNatClampNeg)) ((9 : Int32)).toNatClampNeg = A 1 x3.toNatClampNeg 9 := colM_v (t := 1) hA (by decide) i3 (by decide) hb (by unfold vis; omega); have cf : ga (C 13) ((2 : Int32)).toNatClampNeg = A 4 0 2 := hA.2.1 2 (by decide); have hv := hok.2.2.2.1 x3.toNatClampNeg (by rw [oh_nat i3 (by decide)]; exact Int32.lt_iff_toInt_lt.mp hb); have hk : (ga (C (48 + (x3).toNatClampNeg)) ((1 : Int32)).toNatClampNeg).toInt ≤ 5 := (by rw [c1]; exact hv.2.1.2); have hf : rg (ga (C (48 + (x3).toNatClampNeg)) ((8 : Int32)).toNatClampNeg) 0 1 := (by rw [c8]; exact hv.2.2.2.2.2.2.2.2.1); have w0 : ga (C (64 + (x1).toNatClampNeg)) ((0 : Int32)).toNatClampNeg = A 2 x1.toNatClampNeg 0 := colM_v (t := 2) hA (by decide) hx1 (by decide) hl (by unfold vis; omega); have w1 : ga (C (64 + (x1).toNatClampNeg)) ((1 : Int32)).toNatClampNeg = A 2 x1.toNatClampNeg 1 := colM_v (t := 2) hA (by decide) hx1 (by decide) hl (by unfold vis; omega); have w2 : ga (C (64 + (x1).toNatClampNeg)) ((2 : Int32)).toNatClampNeg = A 2 x1.toNatClampNeg 2 := colM_v (t := 2) hA (by decide) hx1 (by decide) hl (by unfold vis; omega); have ws : ga (C 13) ((0 : Int32)).toNatClampNeg = A 4 0 0 := hA.2.1 0 (by decide); have el : r_1 = aL A x1 x2 := (by rw [hq_2 A hA, w0, w2, ws]; rfl); have ex : r_3 = bAxF (A 1 x3.toNatClampNeg 1) (A 1 x3.toNatClampNeg 3) (A 1 x3.toNatClampNeg 8) (A 1 x3.toNatClampNeg 9) (A 4 0 2) := (by rw [hq_4 hk, c1, c3, c8, c9, cf]); have es : r_6 = snA A x1 x2 x3.toNatClampNeg := (by rw [hq_7 A hA, c2, w0, w1, w2, ws]; rfl); have ea0 : r_11 = bAlF (A 1 x3.toNatClampNeg 7 = 1) (A 1 x3.toNatClampNeg 1) (A 1 x3.toNatClampNeg 4) (A 1 x3.toNatClampNeg 5) (A 1 x3.toNatClampNeg 8) (A 1 x3.toNatClampNeg 9) (A 4 0 2) := (by rw [hq_12 hk hf, c1, c4, c5, c8, c9, cf]; exact bAlF_c ⟨fun h8 => absurd h8 (by decide), fun h8 => absurd (Eq.trans c7 h8) c_10⟩); have ea1 : r_17 = bAlF (True) (A 1 x3.toNatClampNeg 1) (A 1 x3.toNatClampNeg 4) (A 1 x3.toNatClampNeg 5) (A 1 x3.toNatClampNeg 8) (A 1 x3.toNatClampNeg 9) (A 4 0 2) := (by rw [hq_18 hk hf, c1, c4, c5, c8, c9, cf]; exact bAlF_c ⟨fun _ => trivial, fun _ => rfl⟩); exact ((Eq.trans (pif_neg (show ¬ (bAxF (A 1 x3.toNatClampNeg 1) (A 1 x3.toNatClampNeg 3) (A 1 x3.toNatClampNeg 8) (A 1 x3.toNatClampNeg 9) (A 4 0 2) < aL A x1 x2) by rw [← ex, ← el]; exact (Int32.not_lt.mpr c_5))) (Eq.trans (pif_neg (show ¬ (snA A x1 x2 x3.toNatClampNeg ≤ bAlF (A 1 x3.toNatClampNeg 7 = 1) (A 1 x3.toNatClampNeg 1) (A 1 x3.toNatClampNeg 4) (A 1 x3.toNatClampNeg 5) (A 1 x3.toNatClampNeg 8) (A 1 x3.toNatClampNeg 9) (A 4 0 2)) by rw [← es, ← ea0]; exact (Int32.not_le.mpr c_13))) (Eq.trans (pif_neg (fun h8 => h8.elim (fun h8 => c_10 (Eq.trans c7 h8)) (fun h8 => c_16 (Eq.trans c1 h8)))) (pif_neg (show ¬ (snA A x1 x2 x3.toNatClampNeg ≤ bAlF (True) (A 1 x3.toNatClampNeg 1) (A 1 x3.toNatClampNeg 4) (A 1 x3.toNatClampNeg 5) (A 1 x3.toNatClampNeg 8) (A 1 x3.toNatClampNeg 9) (A 4 0 2)) by rw [← es, ← ea1]; exact (Int32.not_le.mpr c_19))))))).symm), ht⟩) (fun q h => by cases h) dX7_needsOf_92
          · refine lv_iconst (v := 1) hx hb dX7_needsOf_87 (by decide) ?_
            refine lv_goto (tgt := 92) hx hb dX7_needsOf_88 (by decide) ?_
            rw [hQ]
            exact W.iret (v := 1) hx hb hr (fun t ht hW => ⟨1, rfl, (fun A hA hok hl hb => by have i3 : rg x3 0 15 := hx3; have c0 : ga (C (48 + (x3).toNatClampNeg)) ((0 : Int32)).toNatClampNeg = A 1 x3.toNatClampNeg 0 := colM_v (t := 1) hA (by decide) i3 (by decide) hb (by unfold vis; omega); have c1 : ga (C (48 + (x3).toNatClampNeg)) ((1 : Int32)).toNatClampNeg = A 1 x3.toNatClampNeg 1 := colM_v (t := 1) hA (by decide) i3 (by decide) hb (by unfold vis; omega); have c2 : ga (C (48 + (x3).toNatClampNeg)) ((2 : Int32)).toNatClampNeg = A 1 x3.toNatClampNeg 2 := colM_v (t := 1) hA (by decide) i3 (by decide) hb (by unfold vis; omega); have c3 : ga (C (48 + (x3).toNatClampNeg)) ((3 : Int32)).toNatClampNeg = A 1 x3.toNatClampNeg 3 := colM_v (t := 1) hA (by decide) i3 (by decide) hb (by unfold vis; omega); have c4 : ga (C (48 + (x3).toNatClampNeg)) ((4 : Int32)).toNatClampNeg = A 1 x3.toNatClampNeg 4 := colM_v (t := 1) hA (by decide) i3 (by decide) hb (by unfold vis; omega); have c5 : ga (C (48 + (x3).toNatClampNeg)) ((5 : Int32)).toNatClampNeg = A 1 x3.toNatClampNeg 5 := colM_v (t := 1) hA (by decide) i3 (by decide) hb (by unfold vis; omega); have c6 : ga (C (48 + (x3).toNatClampNeg)) ((6 : Int32)).toNatClampNeg = A 1 x3.toNatClampNeg 6 := colM_v (t := 1) hA (by decide) i3 (by decide) hb (by unfold vis; omega); have c7 : ga (C (48 + (x3).toNatClampNeg)) ((7 : Int32)).toNatClampNeg = A 1 x3.toNatClampNeg 7 := colM_v (t := 1) hA (by decide) i3 (by decide) hb (by unfold vis; omega); have c8 : ga (C (48 + (x3).toNatClampNeg)) ((8 : Int32)).toNatClampNeg = A 1 x3.toNatClampNeg 8 := colM_v (t := 1) hA (by decide) i3 (by decide) hb (by unfold vis; omega); have c9 : ga (C (48 + (x3).toNatClampNeg)) ((9 : Int32)).toNatClampNeg = A 1 x3.toNatClampNeg 9 := colM_v (t := 1) hA (by decide) i3 (by decide) hb (by unfold vis; omega); have cf : ga (C 13) ((2 : Int32)).toNatClampNeg = A 4 0 2 := hA.2.1 2 (by decide); have hv := hok.2.2.2.1 x3.toNatClampNeg (by rw [oh_nat i3 (by decide)]; exact Int32.lt_iff_toInt_lt.mp hb); have hk : (ga (C (48 + (x3).toNatClampNeg)) ((1 : Int32)).toNatClampNeg).toInt ≤ 5 := (by rw [c1]; exact hv.2.1.2); have hf : rg (ga (C (48 + (x3).toNatClampNeg)) ((8 : Int32)).toNatClampNeg) 0 1 := (by rw [c8]; exact hv.2.2.2.2.2.2.2.2.1); have w0 : ga (C (64 + (x1).toNatClampNeg)) ((0 : Int32)).toNatClampNeg = A 2 x1.toNatClampNeg 0 := colM_v (t := 2) hA (by decide) hx1 (by decide) hl (by unfold vis; omega); have w1 : ga (C (64 + (x1).toNatClampNeg)) ((1 : Int32)).toNatClampNeg = A 2 x1.toNatClampNeg 1 := colM_v (t := 2) hA (by decide) hx1 (by decide) hl (by unfold vis; omega); have w2 : ga (C (64 + (x1).toNatClampNeg)) ((2 : Int32)).toNatClampNeg = A 2 x1.toNatClampNeg 2 := colM_v (t := 2) hA (by decide) hx1 (by decide) hl (by unfold vis; omega); have ws : ga (C 13) ((0 : Int32)).toNatClampNeg = A 4 0 0 := hA.2.1 0 (by decide); have el : r_1 = aL A x1 x2 := (by rw [hq_2 A hA, w0, w2, ws]; rfl); have ex : r_3 = bAxF (A 1 x3.toNatClampNeg 1) (A 1 x3.toNatClampNeg 3) (A 1 x3.toNatClampNeg 8) (A 1 x3.toNatClampNeg 9) (A 4 0 2) := (by rw [hq_4 hk, c1, c3, c8, c9, cf]); have es : r_6 = snA A x1 x2 x3.toNatClampNeg := (by rw [hq_7 A hA, c2, w0, w1, w2, ws]; rfl); have ea0 : r_11 = bAlF (A 1 x3.toNatClampNeg 7 = 1) (A 1 x3.toNatClampNeg 1) (A 1 x3.toNatClampNeg 4) (A 1 x3.toNatClampNeg 5) (A 1 x3.toNatClampNeg 8) (A 1 x3.toNatClampNeg 9) (A 4 0 2) := (by rw [hq_12 hk hf, c1, c4, c5, c8, c9, cf]; exact bAlF_c ⟨fun h8 => absurd h8 (by decide), fun h8 => absurd (Eq.trans c7 h8) c_10⟩); have ea1 : r_17 = bAlF (True) (A 1 x3.toNatClampNeg 1) (A 1 x3.toNatClampNeg 4) (A 1 x3.toNatClampNeg 5) (A 1 x3.toNatClampNeg 8) (A 1 x3.toNatClampNeg 9) (A 4 0 2) := (by rw [hq_18 hk hf, c1, c4, c5, c8, c9, cf]; exact bAlF_c ⟨fun _ => trivial, fun _ => rfl⟩); exact ((Eq.trans (pif_neg (show ¬ (bAxF (A 1 x3.toNatClampNeg 1) (A 1 x3.toNatClampNeg 3) (A 1 x3.toNatClampNeg 8) (A 1 x3.toNatClampNeg 9) (A 4 0 2) < aL A x1 x2) by rw [← ex, ← el]; exact (Int32.not_lt.mpr c_5))) (Eq.trans (pif_neg (show ¬ (snA A x1 x2 x3.toNatClampNeg ≤ bAlF (A 1 x3.toNatClampNeg 7 = 1) (A 1 x3.toNatClampNeg 1) (A 1 x3.toNatClampNeg 4) (A 1 x3.toNatClampNeg 5) (A 1 x3.toNatClampNeg 8) (A 1 x3.toNatClampNeg 9) (A 4 0 2)) by rw [← es, ← ea0]; exact (Int32.not_le.mpr c_13))) (Eq.trans (pif_neg (fun h8 => h8.elim (fun h8 => c_10 (Eq.trans c7 h8)) (fun h8 => c_16 (Eq.trans c1 h8)))) (pif_pos (show snA A x1 x2 x3.toNatClampNeg ≤ bAlF (True) (A 1 x3.toNatClampNeg 1) (A 1 x3.toNatClampNeg 4) (A 1 x3.toNatClampNeg 5) (A 1 x3.toNatClampNeg 8) (A 1 x3.toNatClampNeg 9) (A 4 0 2) by rw [← es, ← ea1]; exact (Int32.not_lt.mp c_19))))))).symm), ht⟩) (fun q h => by cases h) dX7_needsOf_92
      · refine lv_iconst (v := 0) hx hb dX7_needsOf_57 (by decide) ?_
        rw [hQ]
        exact W.iret (v := 0) hx hb hr (fun t ht hW => ⟨0, rfl, (fun A hA hok hl hb => by have i3 : rg x3 0 15 := hx3; have c0 : ga (C (48 + (x3).toNatClampNeg)) ((0 : Int32)).toNatClampNeg = A 1 x3.toNatClampNeg 0 := colM_v (t := 1) hA (by decide) i3 (by decide) hb (by unfold vis; omega); have c1 : ga (C (48 + (x3).toNatClampNeg)) ((1 : Int32)).toNatClampNeg = A 1 x3.toNatClampNeg 1 := colM_v (t := 1) hA (by decide) i3 (by decide) hb (by unfold vis; omega); have c2 : ga (C (48 + (x3).toNatClampNeg)) ((2 : Int32)).toNatClampNeg = A 1 x3.toNatClampNeg 2 := colM_v (t := 1) hA (by decide) i3 (by decide) hb (by unfold vis; omega); have c3 : ga (C (48 + (x3).toNatClampNeg)) ((3 : Int32)).toNatClampNeg = A 1 x3.toNatClampNeg 3 := colM_v (t := 1) hA (by decide) i3 (by decide) hb (by unfold vis; omega); have c4 : ga (C (48 + (x3).toNatClampNeg)) ((4 : Int32)).toNatClampNeg = A 1 x3.toNatClampNeg 4 := colM_v (t := 1) hA (by decide) i3 (by decide) hb (by unfold vis; omega); have c5 : ga (C (48 + (x3).toNatClampNeg)) ((5 : Int32)).toNatClampNeg = A 1 x3.toNatClampNeg 5 := colM_v (t := 1) hA (by decide) i3 (by decide) hb (by unfold vis; omega); have c6 : ga (C (48 + (x3).toNatClampNeg)) ((6 : Int32)).toNatClampNeg = A 1 x3.toNatClampNeg 6 := colM_v (t := 1) hA (by decide) i3 (by decide) hb (by unfold vis; omega); have c7 : ga (C (48 + (x3).toNatClampNeg)) ((7 : Int32)).toNatClampNeg = A 1 x3.toNatClampNeg 7 := colM_v (t := 1) hA (by decide) i3 (by decide) hb (by unfold vis; omega); have c8 : ga (C (48 + (x3).toNatClampNeg)) ((8 : Int32)).toNatClampNeg = A 1 x3.toNatClampNeg 8 := colM_v (t := 1) hA (by decide) i3 (by decide) hb (by unfold vis; omega); have c9 : ga (C (48 + (x3).toNatClampNeg)) ((9 : Int32)).toNatClampNeg = A 1 x3.toNatClampNeg 9 := colM_v (t := 1) hA (by decide) i3 (by decide) hb (by unfold vis; omega); have cf : ga (C 13) ((2 : Int32)).toNatClampNeg = A 4 0 2 := hA.2.1 2 (by decide); have hv := hok.2.2.2.1 x3.toNatClampNeg (by rw [oh_nat i3 (by decide)]; exact Int32.lt_iff_toInt_lt.mp hb); have hk : (ga (C (48 + (x3).toNatClampNeg)) ((1 : Int32)).toNatClampNeg).toInt ≤ 5 := (by rw [c1]; exact hv.2.1.2); have hf : rg (ga (C (48 + (x3).toNatClampNeg)) ((8 : Int32)).toNatClampNeg) 0 1 := (by rw [c8]; exact hv.2.2.2.2.2.2.2.2.1); have w0 : ga (C (64 + (x1).toNatClampNeg)) ((0 : Int32)).toNatClampNeg = A 2 x1.toNatClampNeg 0 := colM_v (t := 2) hA (by decide) hx1 (by decide) hl (by unfold vis; omega); have w1 : ga (C (64 + (x1).toNatClampNeg)) ((1 : Int32)).toNatClampNeg = A 2 x1.toNatClampNeg 1 := colM_v (t := 2) hA (by decide) hx1 (by decide) hl (by unfold vis; omega); have w2 : ga (C (64 + (x1).toNatClampNeg)) ((2 : Int32)).toNatClampNeg = A 2 x1.toNatClampNeg 2 := colM_v (t := 2) hA (by decide) hx1 (by decide) hl (by unfold vis; omega); have ws : ga (C 13) ((0 : Int32)).toNatClampNeg = A 4 0 0 := hA.2.1 0 (by decide); have el : r_1 = aL A x1 x2 := (by rw [hq_2 A hA, w0, w2, ws]; rfl); have ex : r_3 = bAxF (A 1 x3.toNatClampNeg 1) (A 1 x3.toNatClampNeg 3) (A 1 x3.toNatClampNeg 8) (A 1 x3.toNatClampNeg 9) (A 4 0 2) := (by rw [hq_4 hk, c1, c3, c8, c9, cf]); have es : r_6 = snA A x1 x2 x3.toNatClampNeg := (by rw [hq_7 A hA, c2, w0, w1, w2, ws]; rfl); have ea0 : r_11 = bAlF (A 1 x3.toNatClampNeg 7 = 1) (A 1 x3.toNatClampNeg 1) (A 1 x3.toNatClampNeg 4) (A 1 x3.toNatClampNeg 5) (A 1 x3.toNatClampNeg 8) (A 1 x3.toNatClampNeg 9) (A 4 0 2) := (by rw [hq_12 hk hf, c1, c4, c5, c8, c9, cf]; exact bAlF_c ⟨fun h8 => absurd h8 (by decide), fun h8 => absurd (Eq.trans c7 h8) c_10⟩); exact ((Eq.trans (pif_neg (show ¬ (bAxF (A 1 x3.toNatClampNeg 1) (A 1 x3.toNatClampNeg 3) (A 1 x3.toNatClampNeg 8) (A 1 x3.toNatClampNeg 9) (A 4 0 2) < aL A x1 x2) by rw [← ex, ← el]; exact (Int32.not_lt.mpr c_5))) (pif_pos (show snA A x1 x2 x3.toNatClampNeg ≤ bAlF (A 1 x3.toNatClampNeg 7 = 1) (A 1 x3.toNatClampNeg 1) (A 1 x3.toNatClampNeg 4) (A 1 x3.toNatClampNeg 5) (A 1 x3.toNatClampNeg 8) (A 1 x3.toNatClampNeg 9) (A 4 0 2) by rw [← es, ← ea0]; exact (Int32.not_lt.mp c_13))))).symm), ht⟩) (fun q h => by cases h) dX7_needsOf_58
    · refine lv_iconst (v := 1) hx hb dX7_needsOf_38 (by decide) ?_
      refine lv_goto (tgt := 43) hx hb dX7_needsOf_39 (by decide) ?_
      refine lv_istore (lv' := [(5, .int 1), (4, .int r_6), (0, .ref (a 0)), (1, .int x1), (2, .int x2), (3, .int x3)]) hx hb dX7_needsOf_43 hl (by decide) rfl (fun ls hl => ?_)
      refine lv_iload hx hb dX7_needsOf_45 (lv_at hl 1 rfl) ?_
      refine lv_aload_n hx hb dX7_needsOf_47 rfl (lv_at hl 2 rfl) ?_
      refine lv_iload_n hx hb dX7_needsOf_48 rfl (lv_at hl 5 rfl) ?_
      refine lv_iload hx hb dX7_needsOf_49 (lv_at hl 0 rfl) ?_
      refine tq_V (As := [.int x3, .int 1]) (rest := [.int r_6]) (ws := (oh_W n a C)) ⟨hx, hb, hml, hown, htg⟩ (e_X7_allOf l D E G a C n hn hT x3 (1 : Int32) (rg_w hx3 (by decide)) (rg_w (rg_c (v := 1) (lo := 1) (hi := 1) (by decide)) (by decide))) (cwV 2 htg (oh_gV q_1122 q_1124 q_34 q_73 q_1125) rfl rfl rfl pdVX7_allOf ⟨Nat.le_of_ble_eq_true rfl, Nat.le_of_ble_eq_true rfl⟩) hK hP hG hS (va_recv hK hP (ci := 7) (q0 := 0) rfl (oh_wg (Nat.lt_of_lt_of_le (by decide) hn) (sM_0 hT))) rfl hl.1 rfl (Nat.le_of_ble_eq_true rfl) dX7_needsOf_51 ⟨Nat.le_of_ble_eq_true rfl, Nat.le_of_ble_eq_true rfl⟩ (fun r_20 hq_21 => ?_)
      refine lv_icmp_gt (tgt := 59) hx hb dX7_needsOf_54 (by decide) (fun (c_22 : r_20 < r_6) => ?_) (fun (c_22 : ¬ (r_20 < r_6)) => ?_)
      · refine lv_iload hx hb dX7_needsOf_59 (lv_at hl 0 rfl) ?_
        refine lv_if_ne (tgt := 91) hx hb dX7_needsOf_61 (by decide) (fun _ => ?_) (fun c => absurd c (show ¬ ((1 : Int32) = 0) from by decide))
        refine lv_iconst (v := 2) hx hb dX7_needsOf_91 (by decide) ?_
        rw [hQ]
        exact W.iret (v := 2) hx hb hr (fun t ht hW => ⟨2, rfl, (fun A hA hok hl hb => by have i3 : rg x3 0 15 := hx3; have c0 : ga (C (48 + (x3).toNatClampNeg)) ((0 : Int32)).toNatClampNeg = A 1 x3.toNatClampNeg 0 := colM_v (t := 1) hA (by decide) i3 (by decide) hb (by unfold vis; omega); have c1 : ga (C (48 + (x3).toNatClampNeg)) ((1 : Int32)).toNatClampNeg = A 1 x3.toNatClampNeg 1 := colM_v (t := 1) hA (by decide) i3 (by decide) hb (by unfold vis; omega); have c2 : ga (C (48 + (x3).toNatClampNeg)) ((2 : Int32)).toNatClampNeg = A 1 x3.toNatClampNeg 2 := colM_v (t := 1) hA (by decide) i3 (by decide) hb (by unfold vis; omega); have c3 : ga (C (48 + (x3).toNatClampNeg)) ((3 : Int32)).toNatClampNeg = A 1 x3.toNatClampNeg 3 := colM_v (t := 1) hA (by decide) i3 (by decide) hb (by unfold vis; omega); have c4 : ga (C (48 + (x3).toNatClampNeg)) ((4 : Int32)).toNatClampNeg = A 1 x3.toNatClampNeg 4 := colM_v (t := 1) hA (by decide) i3 (by decide) hb (by unfold vis; omega); have c5 : ga (C (48 + (x3).toNatClampNeg)) ((5 : Int32)).toNatClampNeg = A 1 x3.toNatClampNeg 5 := colM_v (t := 1) hA (by decide) i3 (by decide) hb (by unfold vis; omega); have c6 : ga (C (48 + (x3).toNatClampNeg)) ((6 : Int32)).toNatClampNeg = A 1 x3.toNatClampNeg 6 := colM_v (t := 1) hA (by decide) i3 (by decide) hb (by unfold vis; omega); have c7 : ga (C (48 + (x3).toNatClampNeg)) ((7 : Int32)).toNatClampNeg = A 1 x3.toNatClampNeg 7 := colM_v (t := 1) hA (by decide) i3 (by decide) hb (by unfold vis; omega); have c8 : ga (C (48 + (x3).toNatClampNeg)) ((8 : Int32)).toNatClampNeg = A 1 x3.toNatClampNeg 8 := colM_v (t := 1) hA (by decide) i3 (by decide) hb (by unfold vis; omega); have c9 : ga (C (48 + (x3).toNatClampNeg)) ((9 : Int32)).toNatClampNeg = A 1 x3.toNatClampNeg 9 := colM_v (t := 1) hA (by decide) i3 (by decide) hb (by unfold vis; omega); have cf : ga (C 13) ((2 : Int32)).toNatClampNeg = A 4 0 2 := hA.2.1 2 (by decide); have hv := hok.2.2.2.1 x3.toNatClampNeg (by rw [oh_nat i3 (by decide)]; exact Int32.lt_iff_toInt_lt.mp hb); have hk : (ga (C (48 + (x3).toNatClampNeg)) ((1 : Int32)).toNatClampNeg).toInt ≤ 5 := (by rw [c1]; exact hv.2.1.2); have hf : rg (ga (C (48 + (x3).toNatClampNeg)) ((8 : Int32)).toNatClampNeg) 0 1 := (by rw [c8]; exact hv.2.2.2.2.2.2.2.2.1); have w0 : ga (C (64 + (x1).toNatClampNeg)) ((0 : Int32)).toNatClampNeg = A 2 x1.toNatClampNeg 0 := colM_v (t := 2) hA (by decide) hx1 (by decide) hl (by unfold vis; omega); have w1 : ga (C (64 + (x1).toNatClampNeg)) ((1 : Int32)).toNatClampNeg = A 2 x1.toNatClampNeg 1 := colM_v (t := 2) hA (by decide) hx1 (by decide) hl (by unfold vis; omega); have w2 : ga (C (64 + (x1).toNatClampNeg)) ((2 : Int32)).toNatClampNeg = A 2 x1.toNatClampNeg 2 := colM_v (t := 2) hA (by decide) hx1 (by decide) hl (by unfold vis; omega); have ws : ga (C 13) ((0 : Int32)).toNatClampNeg = A 4 0 0 := hA.2.1 0 (by decide); have el : r_1 = aL A x1 x2 := (by rw [hq_2 A hA, w0, w2, ws]; rfl); have ex : r_3 = bAxF (A 1 x3.toNatClampNeg 1) (A 1 x3.toNatClampNeg 3) (A 1 x3.toNatClampNeg 8) (A 1 x3.toNatClampNeg 9) (A 4 0 2) := (by rw [hq_4 hk, c1, c3, c8, c9, cf]); have es : r_6 = snA A x1 x2 x3.toNatClampNeg := (by rw [hq_7 A hA, c2, w0, w1, w2, ws]; rfl); have ea0 : r_20 = bAlF (A 1 x3.toNatClampNeg 7 = 1) (A 1 x3.toNatClampNeg 1) (A 1 x3.toNatClampNeg 4) (A 1 x3.toNatClampNeg 5) (A 1 x3.toNatClampNeg 8) (A 1 x3.toNatClampNeg 9) (A 4 0 2) := (by rw [hq_21 hk hf, c1, c4, c5, c8, c9, cf]; exact bAlF_c ⟨fun _ => (by rw [← c7]; exact c_10), fun _ => rfl⟩); exact ((Eq.trans (pif_neg (show ¬ (bAxF (A 1 x3.toNatClampNeg 1) (A 1 x3.toNatClampNeg 3) (A 1 x3.toNatClampNeg 8) (A 1 x3.toNatClampNeg 9) (A 4 0 2) < aL A x1 x2) by rw [← ex, ← el]; exact (Int32.not_lt.mpr c_5))) (Eq.trans (pif_neg (show ¬ (snA A x1 x2 x3.toNatClampNeg ≤ bAlF (A 1 x3.toNatClampNeg 7 = 1) (A 1 x3.toNatClampNeg 1) (A 1 x3.toNatClampNeg 4) (A 1 x3.toNatClampNeg 5) (A 1 x3.toNatClampNeg 8) (A 1 x3.toNatClampNeg 9) (A 4 0 2)) by rw [← es, ← ea0]; exact (Int32.not_le.mpr c_22))) (pif_pos (Or.inl (Eq.trans c7.symm c_10)))))).symm), ht⟩) (fun q h => by cases h) dX7_needsOf_92
      · refine lv_iconst (v := 0) hx hb dX7_needsOf_57 (by decide) ?_
        rw [hQ]
        exact W.iret (v := 0) hx hb hr (fun t ht hW => ⟨0, rfl, (fun A hA hok hl hb => by have i3 : rg x3 0 15 := hx3; have c0 : ga (C (48 + (x3).toNatClampNeg)) ((0 : Int32)).toNatClampNeg = A 1 x3.toNatClampNeg 0 := colM_v (t := 1) hA (by decide) i3 (by decide) hb (by unfold vis; omega); have c1 : ga (C (48 + (x3).toNatClampNeg)) ((1 : Int32)).toNatClampNeg = A 1 x3.toNatClampNeg 1 := colM_v (t := 1) hA (by decide) i3 (by decide) hb (by unfold vis; omega); have c2 : ga (C (48 + (x3).toNatClampNeg)) ((2 : Int32)).toNatClampNeg = A 1 x3.toNatClampNeg 2 := colM_v (t := 1) hA (by decide) i3 (by decide) hb (by unfold vis; omega); have c3 : ga (C (48 + (x3).toNatClampNeg)) ((3 : Int32)).toNatClampNeg = A 1 x3.toNatClampNeg 3 := colM_v (t := 1) hA (by decide) i3 (by decide) hb (by unfold vis; omega); have c4 : ga (C (48 + (x3).toNatClampNeg)) ((4 : Int32)).toNatClampNeg = A 1 x3.toNatClampNeg 4 := colM_v (t := 1) hA (by decide) i3 (by decide) hb (by unfold vis; omega); have c5 : ga (C (48 + (x3).toNatClampNeg)) ((5 : Int32)).toNatClampNeg = A 1 x3.toNatClampNeg 5 := colM_v (t := 1) hA (by decide) i3 (by decide) hb (by unfold vis; omega); have c6 : ga (C (48 + (x3).toNatClampNeg)) ((6 : Int32)).toNatClampNeg = A 1 x3.toNatClampNeg 6 := colM_v (t := 1) hA (by decide) i3 (by decide) hb (by unfold vis; omega); have c7 : ga (C (48 + (x3).toNatClampNeg)) ((7 : Int32)).toNatClampNeg = A 1 x3.toNatClampNeg 7 := colM_v (t := 1) hA (by decide) i3 (by decide) hb (by unfold vis; omega); have c8 : ga (C (48 + (x3).toNatClampNeg)) ((8 : Int32)).toNatClampNeg = A 1 x3.toNatClampNeg 8 := colM_v (t := 1) hA (by decide) i3 (by decide) hb (by unfold vis; omega); have c9 : ga (C (48 + (x3).toNatClampNeg)) ((9 : Int32)).toNatClampNeg = A 1 x3.toNatClampNeg 9 := colM_v (t := 1) hA (by decide) i3 (by decide) hb (by unfold vis; omega); have cf : ga (C 13) ((2 : Int32)).toNatClampNeg = A 4 0 2 := hA.2.1 2 (by decide); have hv := hok.2.2.2.1 x3.toNatClampNeg (by rw [oh_nat i3 (by decide)]; exact Int32.lt_iff_toInt_lt.mp hb); have hk : (ga (C (48 + (x3).toNatClampNeg)) ((1 : Int32)).toNatClampNeg).toInt ≤ 5 := (by rw [c1]; exact hv.2.1.2); have hf : rg (ga (C (48 + (x3).toNatClampNeg)) ((8 : Int32)).toNatClampNeg) 0 1 := (by rw [c8]; exact hv.2.2.2.2.2.2.2.2.1); have w0 : ga (C (64 + (x1).toNatClampNeg)) ((0 : Int32)).toNatClampNeg = A 2 x1.toNatClampNeg 0 := colM_v (t := 2) hA (by decide) hx1 (by decide) hl (by unfold vis; omega); have w1 : ga (C (64 + (x1).toNatClampNeg)) ((1 : Int32)).toNatClampNeg = A 2 x1.toNatClampNeg 1 := colM_v (t := 2) hA (by decide) hx1 (by decide) hl (by unfold vis; omega); have w2 : ga (C (64 + (x1).toNatClampNeg)) ((2 : Int32)).toNatClampNeg = A 2 x1.toNatClampNeg 2 := colM_v (t := 2) hA (by decide) hx1 (by decide) hl (by unfold vis; omega); have ws : ga (C 13) ((0 : Int32)).toNatClampNeg = A 4 0 0 := hA.2.1 0 (by decide); have el : r_1 = aL A x1 x2 := (by rw [hq_2 A hA, w0, w2, ws]; rfl); have ex : r_3 = bAxF (A 1 x3.toNatClampNeg 1) (A 1 x3.toNatClampNeg 3) (A 1 x3.toNatClampNeg 8) (A 1 x3.toNatClampNeg 9) (A 4 0 2) := (by rw [hq_4 hk, c1, c3, c8, c9, cf]); have es : r_6 = snA A x1 x2 x3.toNatClampNeg := (by rw [hq_7 A hA, c2, w0, w1, w2, ws]; rfl); have ea0 : r_20 = bAlF (A 1 x3.toNatClampNeg 7 = 1) (A 1 x3.toNatClampNeg 1) (A 1 x3.toNatClampNeg 4) (A 1 x3.toNatClampNeg 5) (A 1 x3.toNatClampNeg 8) (A 1 x3.toNatClampNeg 9) (A 4 0 2) := (by rw [hq_21 hk hf, c1, c4, c5, c8, c9, cf]; exact bAlF_c ⟨fun _ => (by rw [← c7]; exact c_10), fun _ => rfl⟩); exact ((Eq.trans (pif_neg (show ¬ (bAxF (A 1 x3.toNatClampNeg 1) (A 1 x3.toNatClampNeg 3) (A 1 x3.toNatClampNeg 8) (A 1 x3.toNatClampNeg 9) (A 4 0 2) < aL A x1 x2) by rw [← ex, ← el]; exact (Int32.not_lt.mpr c_5))) (pif_pos (show snA A x1 x2 x3.toNatClampNeg ≤ bAlF (A 1 x3.toNatClampNeg 7 = 1) (A 1 x3.toNatClampNeg 1) (A 1 x3.toNatClampNeg 4) (A 1 x3.toNatClampNeg 5) (A 1 x3.toNatClampNeg 8) (A 1 x3.toNatClampNeg 9) (A 4 0 2) by rw [← es, ← ea0]; exact (Int32.not_lt.mp c_22))))).symm), ht⟩) (fun q h => by cases h) dX7_needsOf_58
  · refine lv_iconst (v := 2) hx hb dX7_needsOf_14 (by decide) ?_
    rw [hQ]
    exact W.iret (v := 2) hx hb hr (fun t ht hW => ⟨2, rfl, (fun A hA hok hl hb => by have i3 : rg x3 0 15 := hx3; have c0 : ga (C (48 + (x3).toNatClampNeg)) ((0 : Int32)).toNatClampNeg = A 1 x3.toNatClampNeg 0 := colM_v (t := 1) hA (by decide) i3 (by decide) hb (by unfold vis; omega); have c1 : ga (C (48 + (x3).toNatClampNeg)) ((1 : Int32)).toNatClampNeg = A 1 x3.toNatClampNeg 1 := colM_v (t := 1) hA (by decide) i3 (by decide) hb (by unfold vis; omega); have c2 : ga (C (48 + (x3).toNatClampNeg)) ((2 : Int32)).toNatClampNeg = A 1 x3.toNatClampNeg 2 := colM_v (t := 1) hA (by decide) i3 (by decide) hb (by unfold vis; omega); have c3 : ga (C (48 + (x3).toNatClampNeg)) ((3 : Int32)).toNatClampNeg = A 1 x3.toNatClampNeg 3 := colM_v (t := 1) hA (by decide) i3 (by decide) hb (by unfold vis; omega); have c4 : ga (C (48 + (x3).toNatClampNeg)) ((4 : Int32)).toNatClampNeg = A 1 x3.toNatClampNeg 4 := colM_v (t := 1) hA (by decide) i3 (by decide) hb (by unfold vis; omega); have c5 : ga (C (48 + (x3).toNatClampNeg)) ((5 : Int32)).toNatClampNeg = A 1 x3.toNatClampNeg 5 := colM_v (t := 1) hA (by decide) i3 (by decide) hb (by unfold vis; omega); have c6 : ga (C (48 + (x3).toNatClampNeg)) ((6 : Int32)).toNatClampNeg = A 1 x3.toNatClampNeg 6 := colM_v (t := 1) hA (by decide) i3 (by decide) hb (by unfold vis; omega); have c7 : ga (C (48 + (x3).toNatClampNeg)) ((7 : Int32)).toNatClampNeg = A 1 x3.toNatClampNeg 7 := colM_v (t := 1) hA (by decide) i3 (by decide) hb (by unfold vis; omega); have c8 : ga (C (48 + (x3).toNatClampNeg)) ((8 : Int32)).toNatClampNeg = A 1 x3.toNatClampNeg 8 := colM_v (t := 1) hA (by decide) i3 (by decide) hb (by unfold vis; omega); have c9 : ga (C (48 + (x3).toNatClampNeg)) ((9 : Int32)).toNatClampNeg = A 1 x3.toNatClampNeg 9 := colM_v (t := 1) hA (by decide) i3 (by decide) hb (by unfold vis; omega); have cf : ga (C 13) ((2 : Int32)).toNatClampNeg = A 4 0 2 := hA.2.1 2 (by decide); have hv := hok.2.2.2.1 x3.toNatClampNeg (by rw [oh_nat i3 (by decide)]; exact Int32.lt_iff_toInt_lt.mp hb); have hk : (ga (C (48 + (x3).toNatClampNeg)) ((1 : Int32)).toNatClampNeg).toInt ≤ 5 := (by rw [c1]; exact hv.2.1.2); have hf : rg (ga (C (48 + (x3).toNatClampNeg)) ((8 : Int32)).toNatClampNeg) 0 1 := (by rw [c8]; exact hv.2.2.2.2.2.2.2.2.1); have w0 : ga (C (64 + (x1).toNatClampNeg)) ((0 : Int32)).toNatClampNeg = A 2 x1.toNatClampNeg 0 := colM_v (t := 2) hA (by decide) hx1 (by decide) hl (by unfold vis; omega); have w1 : ga (C (64 + (x1).toNatClampNeg)) ((1 : Int32)).toNatClampNeg = A 2 x1.toNatClampNeg 1 := colM_v (t := 2) hA (by decide) hx1 (by decide) hl (by unfold vis; omega); have w2 : ga (C (64 + (x1).toNatClampNeg)) ((2 : Int32)).toNatClampNeg = A 2 x1.toNatClampNeg 2 := colM_v (t := 2) hA (by decide) hx1 (by decide) hl (by unfold vis; omega); have ws : ga (C 13) ((0 : Int32)).toNatClampNeg = A 4 0 0 := hA.2.1 0 (by decide); have el : r_1 = aL A x1 x2 := (by rw [hq_2 A hA, w0, w2, ws]; rfl); have ex : r_3 = bAxF (A 1 x3.toNatClampNeg 1) (A 1 x3.toNatClampNeg 3) (A 1 x3.toNatClampNeg 8) (A 1 x3.toNatClampNeg 9) (A 4 0 2) := (by rw [hq_4 hk, c1, c3, c8, c9, cf]); exact ((pif_pos (show bAxF (A 1 x3.toNatClampNeg 1) (A 1 x3.toNatClampNeg 3) (A 1 x3.toNatClampNeg 8) (A 1 x3.toNatClampNeg 9) (A 4 0 2) < aL A x1 x2 by rw [← ex, ← el]; exact (Int32.not_le.mp c_5)))).symm), ht⟩) (fun q h => by cases h) dX7_needsOf_15
