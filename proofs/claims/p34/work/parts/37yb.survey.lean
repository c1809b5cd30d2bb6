/-! FULL: a survey of the roads: ps r: open and not too narrow; rd b: the road of bridge b; nd b: what it needs -/
def gsU (ps : Nat → Prop) (rd : Nat → Nat) (nd : Nat → Int32) (j r : Nat) : Prop := ps r ∧ ∀ b, b < j → rd b = r → ¬ nd b = 2
noncomputable def pcU (rd : Nat → Nat) (nd v : Nat → Int32) : Nat → Nat → Int32
  | 0, _ => 0
  | j + 1, r => pcU rd nd v j r + pif (rd j = r ∧ nd j = 1) (v j) 0
theorem gsU_s {ps : Nat → Prop} {rd : Nat → Nat} {nd : Nat → Int32} {j r : Nat} : gsU ps rd nd (j + 1) r ↔ (gsU ps rd nd j r ∧ (rd j = r → ¬ nd j = 2)) := by
  constructor
  · intro h
    exact ⟨⟨h.1, fun b hb => h.2 b (by omega)⟩, h.2 j (by omega)⟩
  · intro h
    refine ⟨h.1.1, fun b hb e => ?_⟩
    by_cases q : b = j
    · subst q
      exact h.2 e
    · exact h.1.2 b (by omega) e
theorem pcU_n {rd : Nat → Nat} {nd v : Nat → Int32} {j r : Nat} (h : ¬ (rd j = r ∧ nd j = 1)) : pcU rd nd v (j + 1) r = pcU rd nd v j r := by
  show pcU rd nd v j r + pif (rd j = r ∧ nd j = 1) (v j) 0 = _
  rw [pif_neg h, Int32.add_zero]
theorem pcU_y {rd : Nat → Nat} {nd v : Nat → Int32} {j r : Nat} (h : rd j = r ∧ nd j = 1) : pcU rd nd v (j + 1) r = pcU rd nd v j r + v j := by
  show pcU rd nd v j r + pif (rd j = r ∧ nd j = 1) (v j) 0 = _
  rw [pif_pos h]
/-- a sum of numbers of at most m -/
theorem pcU_b {rd : Nat → Nat} {nd v : Nat → Int32} {r : Nat} {m : Int} (hm : 0 ≤ m) (hM : 16 * m ≤ 2147483647) : ∀ j, j ≤ 16 → (∀ b, b < j → rg (v b) 0 m) → rg (pcU rd nd v j r) 0 (j * m) := by
  intro j
  induction j with
  | zero =>
    intro _ _
    exact ⟨by show (0 : Int) ≤ (0 : Int32).toInt; decide, by show (0 : Int32).toInt ≤ _; have : (0 : Int32).toInt = 0 := rfl; omega⟩
  | succ j ih =>
    intro hj hv
    have h := ih (by omega) (fun b hb => hv b (by omega))
    have h2 := hv j (by omega)
    have e : ((j + 1 : Nat) : Int) * m = j * m + m := by rw [Int.natCast_succ, Int.add_mul, Int.one_mul]
    have e3 : (j : Int) * m + m ≤ 16 * m := by
      rw [← e]
      exact Int.mul_le_mul_of_nonneg_right (by omega) hm
    by_cases q : rd j = r ∧ nd j = 1
    · rw [pcU_y q]
      have e2 : (pcU rd nd v j r + v j).toInt = (pcU rd nd v j r).toInt + (v j).toInt := by
        rw [Int32.toInt_add]
        exact oh_bmod (by have := h.1; have := h2.1; omega) (by have := h.2; have := h2.2; omega)
      unfold rg
      rw [e2, e]
      have := h.1
      have := h.2
      have := h2.1
      have := h2.2
      omega
    · rw [pcU_n q]
      unfold rg
      rw [e]
      have := h.1
      have := h.2
      omega
theorem pc1_b {rd : Nat → Nat} {nd : Nat → Int32} {r j : Nat} (hj : j ≤ 16) : rg (pcU rd nd (fun _ => 1) j r) 0 16 := by
  have h := pcU_b (rd := rd) (nd := nd) (v := fun _ => 1) (r := r) (m := 1) (by decide) (by decide) j hj (fun b _ => ⟨by show (0 : Int) ≤ (1 : Int32).toInt; decide, by show (1 : Int32).toInt ≤ 1; decide⟩)
  exact ⟨h.1, by have := h.2; omega⟩
def SV (n : Nat) (ps : Nat → Prop) (rd : Nat → Nat) (nd cn : Nat → Int32) (j : Nat) (p q : Nat → Int32) : Prop := ∀ r, r < n → (gsU ps rd nd j r → p r = pcU rd nd (fun _ => 1) j r ∧ q r = pcU rd nd cn j r) ∧ (¬ gsU ps rd nd j r → p r = -1)
theorem sv_g {n : Nat} {ps : Nat → Prop} {rd : Nat → Nat} {nd cn : Nat → Int32} {j : Nat} {p q : Nat → Int32} (h : SV n ps rd nd cn j p q) {r : Nat} (hr : r < n) (hj : j ≤ 16) : p r = -1 ↔ ¬ gsU ps rd nd j r := by
  constructor
  · intro e g
    have h1 := ((h r hr).1 g).1
    have h2 := pc1_b (rd := rd) (nd := nd) (r := r) hj
    rw [← h1, e] at h2
    exact absurd h2.1 (by decide)
  · exact (h r hr).2
theorem sv_0 {n : Nat} {ps : Nat → Prop} {rd : Nat → Nat} {nd cn : Nat → Int32} {p q : Nat → Int32} (h : ∀ r, r < n → p r = pif (ps r) 0 (-1) ∧ q r = 0) : SV n ps rd nd cn 0 p q := by
  intro r hr
  obtain ⟨h1, h2⟩ := h r hr
  refine ⟨fun g => ⟨?_, h2⟩, fun g => ?_⟩
  · rw [h1, pif_pos g.1]
    rfl
  · rw [h1]
    exact pif_neg (fun z => g ⟨z, fun b hb => absurd hb (Nat.not_lt_zero b)⟩)
theorem sv_2 {n : Nat} {ps : Nat → Prop} {rd : Nat → Nat} {nd cn : Nat → Int32} {j : Nat} {p p' q : Nat → Int32} (h : SV n ps rd nd cn j p q) (hj : j ≤ 16) (c : p (rd j) = -1 ∨ nd j = 2) (e : p' = upd p (rd j) (-1)) : SV n ps rd nd cn (j + 1) p' q := by
  intro r hr
  rw [e]
  by_cases w : r = rd j
  · subst w
    rw [pk_us]
    refine ⟨fun g => ?_, fun _ => rfl⟩
    have g2 := gsU_s.mp g
    rcases c with c | c
    · exact absurd g2.1 ((sv_g h hr hj).mp c)
    · exact absurd c (g2.2 rfl)
  · rw [pk_un w, pcU_n (fun z => w z.1.symm), pcU_n (fun z => w z.1.symm)]
    refine ⟨fun g => (h r hr).1 (gsU_s.mp g).1, fun g => (h r hr).2 (fun z => g (gsU_s.mpr ⟨z, fun z2 => absurd z2.symm w⟩))⟩
theorem sv_1 {n : Nat} {ps : Nat → Prop} {rd : Nat → Nat} {nd cn : Nat → Int32} {j : Nat} {p p' q q' : Nat → Int32} (h : SV n ps rd nd cn j p q) (hj : j ≤ 16) (c : ¬ p (rd j) = -1) (d : nd j = 1) (e : p' = upd p (rd j) (p (rd j) + 1)) (e2 : q' = upd q (rd j) (q (rd j) + cn j)) : SV n ps rd nd cn (j + 1) p' q' := by
  intro r hr
  rw [e, e2]
  by_cases w : r = rd j
  · subst w
    rw [pk_us, pk_us]
    have g : gsU ps rd nd j (rd j) := Classical.byContradiction (fun z => c ((sv_g h hr hj).mpr z))
    obtain ⟨h1, h2⟩ := (h _ hr).1 g
    refine ⟨fun _ => ⟨?_, ?_⟩, fun g2 => absurd (gsU_s.mpr ⟨g, fun _ => by rw [d]; decide⟩) g2⟩
    · rw [pcU_y ⟨rfl, d⟩, h1]
    · rw [pcU_y ⟨rfl, d⟩, h2]
  · rw [pk_un w, pk_un w, pcU_n (fun z => w z.1.symm), pcU_n (fun z => w z.1.symm)]
    refine ⟨fun g => (h r hr).1 (gsU_s.mp g).1, fun g => (h r hr).2 (fun z => g (gsU_s.mpr ⟨z, fun z2 => absurd z2.symm w⟩))⟩
theorem sv_z {n : Nat} {ps : Nat → Prop} {rd : Nat → Nat} {nd cn : Nat → Int32} {j : Nat} {p q : Nat → Int32} (h : SV n ps rd nd cn j p q) (d : ¬ nd j = 2) (d1 : ¬ nd j = 1) : SV n ps rd nd cn (j + 1) p q := by
  intro r hr
  rw [pcU_n (fun z => d1 z.2), pcU_n (fun z => d1 z.2)]
  refine ⟨fun g => (h r hr).1 (gsU_s.mp g).1, fun g => (h r hr).2 (fun z => g (gsU_s.mpr ⟨z, fun _ => d⟩))⟩
/-! FULL: of the land, for a pack -/
noncomputable def lenA (A : LA) (w : Int32) : Int32 := A 2 w.toNatClampNeg 1 * (A 2 w.toNatClampNeg 0 - 1) + 4
noncomputable def snA (A : LA) (w s : Int32) (b : Nat) : Int32 := (if cutBy (A 1 b 2) (A 2 w.toNatClampNeg 1) + 1 < A 2 w.toNatClampNeg 0 then cutBy (A 1 b 2) (A 2 w.toNatClampNeg 1) + 1 else A 2 w.toNatClampNeg 0) * aL A w s
noncomputable def ndA (A : LA) (w s : Int32) (b : Nat) : Int32 := ndF (A 1 b 1) (A 1 b 3) (A 1 b 4) (A 1 b 5) (A 1 b 7) (A 1 b 8) (A 1 b 9) (A 4 0 2) (aL A w s) (snA A w s b)
def psA (A : LA) (w : Int32) (r : Nat) : Prop := A 0 r 6 = 0 ∧ lenA A w ≤ A 0 r 4
def rdA (A : LA) (b : Nat) : Nat := (A 1 b 0).toNatClampNeg
noncomputable def n0A (A : LA) : Nat := (A 5 0 0).toNatClampNeg
noncomputable def n1A (A : LA) : Nat := (A 5 0 1).toNatClampNeg
/-- the road goes -/
def gsA (A : LA) (w s : Int32) (r : Nat) : Prop := gsU (psA A w) (rdA A) (ndA A w s) (n1A A) r
noncomputable def pcA (A : LA) (w s : Int32) (r : Nat) : Int32 := pcU (rdA A) (ndA A w s) (fun _ => 1) (n1A A) r
noncomputable def pqA (A : LA) (w s : Int32) (r : Nat) : Int32 := pcU (rdA A) (ndA A w s) (fun b => A 1 b 6) (n1A A) r
noncomputable def engA (A : LA) (w s : Int32) (r : Nat) : Int32 := 1 + A 0 r 3 * aL A w s / 100
noncomputable def coA (A : LA) (w s n : Int32) (r : Nat) : Int32 := n * A 4 0 1 * A 0 r 2 * engA A w s r + pqA A w s r
noncomputable def dyA (A : LA) (w s : Int32) (r : Nat) : Int32 := rndUp (A 0 r 2) 10 + 3 * pcA A w s r
/-- the pack that was taken -/
def pkX (K : Nat → va_E) (A : LA) (w s : Int32) : Prop := gi (K 9) 0 = A 2 w.toNatClampNeg 0 ∧ gi (K 9) 1 = A 2 w.toNatClampNeg 1 ∧ gi (K 9) 2 = lenA A w ∧ gi (K 9) 3 = aL A w s ∧ gi (K 9) 4 = sumA A s 1 (A 5 0 3).toNatClampNeg
theorem pkX_eq {C K : Nat → va_E} {A : LA} {w s : Int32} (h : pkX C A w s) (e : K 9 = C 9) : pkX K A w s := by
  unfold pkX
  rw [e]
  exact h
theorem wgX {C : Nat → va_E} {A : LA} {w j : Int32} (hA : absX 10 C A) (hw : rg w 0 4) (hl : w < A 5 0 2) (hj : rg j 0 2) : ga (C 13) ((w * 3) + j).toNatClampNeg = A 2 w.toNatClampNeg j.toNatClampNeg := colX_v (t := 2) hA (by decide) hw rfl hj (by decide) hl (by unfold vis; omega)
theorem rcX {C : Nat → va_E} {A : LA} {r j : Int32} (hA : absX 10 C A) (hr : rg r 0 23) (hl : r < A 5 0 0) (hj : rg j 0 6) : ga (C 11) ((r * 7) + j).toNatClampNeg = A 0 r.toNatClampNeg j.toNatClampNeg := colX_v (t := 0) hA (by decide) hr rfl hj (by decide) hl (by unfold vis; omega)
theorem bcX {C : Nat → va_E} {A : LA} {b j : Int32} (hA : absX 10 C A) (hb : rg b 0 15) (hl : b < A 5 0 1) (hj : rg j 0 9) : ga (C 12) ((b * 10) + j).toNatClampNeg = A 1 b.toNatClampNeg j.toNatClampNeg := colX_v (t := 1) hA (by decide) hb rfl hj (by decide) hl (by unfold vis; omega)
theorem tk_pk {C u : Nat → va_E} {A : LA} {w s : Int32} (hA : absX 10 C A) (hw : rg w 0 4) (hl : w < A 5 0 2) (e0 : gi (u 9) 0 = ga (C 13) ((w * 3) + 0).toNatClampNeg) (e1 : gi (u 9) 1 = ga (C 13) ((w * 3) + 1).toNatClampNeg) (e2 : gi (u 9) 2 = ((ga (C 13) ((w * 3) + 1).toNatClampNeg * (ga (C 13) ((w * 3) + 0).toNatClampNeg - 1)) + 4)) (e3 : gi (u 9) 3 = aLoad (ga (C 13) ((w * 3) + 0).toNatClampNeg) (ga (C 13) ((w * 3) + 2).toNatClampNeg) (ga (C 15) ((0 : Int32)).toNatClampNeg) (sumA A s 0 (A 5 0 3).toNatClampNeg)) (e4 : gi (u 9) 4 = sumA A s 1 (A 5 0 3).toNatClampNeg) : pkX u A w s := by
  have c0 : ga (C 13) ((w * 3) + 0).toNatClampNeg = A 2 w.toNatClampNeg 0 := wgX hA hw hl ⟨by decide, by decide⟩
  have c1 : ga (C 13) ((w * 3) + 1).toNatClampNeg = A 2 w.toNatClampNeg 1 := wgX hA hw hl ⟨by decide, by decide⟩
  have c2 : ga (C 13) ((w * 3) + 2).toNatClampNeg = A 2 w.toNatClampNeg 2 := wgX hA hw hl ⟨by decide, by decide⟩
  have c5 : ga (C 15) ((0 : Int32)).toNatClampNeg = A 4 0 0 := hA.2.1 0 (by decide)
  rw [c0] at e0
  rw [c1] at e1
  rw [c0, c1] at e2
  rw [c0, c2, c5] at e3
  exact ⟨e0, e1, e2, e3, e4⟩
theorem ndX {K : Nat → va_E} {A : LA} {w s z r : Int32} (hA : absX 10 K A) (hp : pkX K A w s) (hz : rg z 0 15) (hl : z < A 5 0 1) (e : r = ndF (ga (K 12) ((z * 10) + 1).toNatClampNeg) (ga (K 12) ((z * 10) + 3).toNatClampNeg) (ga (K 12) ((z * 10) + 4).toNatClampNeg) (ga (K 12) ((z * 10) + 5).toNatClampNeg) (ga (K 12) ((z * 10) + 7).toNatClampNeg) (ga (K 12) ((z * 10) + 8).toNatClampNeg) (ga (K 12) ((z * 10) + 9).toNatClampNeg) (ga (K 15) ((2 : Int32)).toNatClampNeg) (gi (K 9) 3) ((if cutBy (ga (K 12) ((z * 10) + 2).toNatClampNeg) (gi (K 9) 1) + 1 < gi (K 9) 0 then cutBy (ga (K 12) ((z * 10) + 2).toNatClampNeg) (gi (K 9) 1) + 1 else gi (K 9) 0) * gi (K 9) 3)) : r = ndA A w s z.toNatClampNeg := by
  have c1 : ga (K 12) ((z * 10) + 1).toNatClampNeg = A 1 z.toNatClampNeg 1 := bcX hA hz hl ⟨by decide, by decide⟩
  have c2 : ga (K 12) ((z * 10) + 2).toNatClampNeg = A 1 z.toNatClampNeg 2 := bcX hA hz hl ⟨by decide, by decide⟩
  have c3 : ga (K 12) ((z * 10) + 3).toNatClampNeg = A 1 z.toNatClampNeg 3 := bcX hA hz hl ⟨by decide, by decide⟩
  have c4 : ga (K 12) ((z * 10) + 4).toNatClampNeg = A 1 z.toNatClampNeg 4 := bcX hA hz hl ⟨by decide, by decide⟩
  have c5 : ga (K 12) ((z * 10) + 5).toNatClampNeg = A 1 z.toNatClampNeg 5 := bcX hA hz hl ⟨by decide, by decide⟩
  have c7 : ga (K 12) ((z * 10) + 7).toNatClampNeg = A 1 z.toNatClampNeg 7 := bcX hA hz hl ⟨by decide, by decide⟩
  have c8 : ga (K 12) ((z * 10) + 8).toNatClampNeg = A 1 z.toNatClampNeg 8 := bcX hA hz hl ⟨by decide, by decide⟩
  have c9 : ga (K 12) ((z * 10) + 9).toNatClampNeg = A 1 z.toNatClampNeg 9 := bcX hA hz hl ⟨by decide, by decide⟩
  have cf : ga (K 15) ((2 : Int32)).toNatClampNeg = A 4 0 2 := hA.2.1 2 (by decide)
  rw [c1, c2, c3, c4, c5, c7, c8, c9, cf, hp.1, hp.2.1, hp.2.2.2.1] at e
  exact e
theorem sv_l1 {P : Nat → Prop} {p p' q q' : Nat → Int32} {z v : Int32} (hz : rg z 0 23) (h : ∀ r : Nat, (r : Int) < z.toInt → p r = pif (P r) 0 (-1) ∧ q r = 0) (e : p' = upd p z.toNatClampNeg v) (e2 : q' = upd q z.toNatClampNeg 0) (hv : v = pif (P z.toNatClampNeg) 0 (-1)) : ∀ r : Nat, (r : Int) < (z + 1).toInt → p' r = pif (P r) 0 (-1) ∧ q' r = 0 := by
  intro r hr
  rw [oh_inc24 ⟨hz.1, by have := hz.2; omega⟩] at hr
  have ez := oh_nat hz (by decide)
  rw [e, e2]
  by_cases w : r = z.toNatClampNeg
  · rw [w, pk_us, pk_us]
    exact ⟨hv, rfl⟩
  · rw [pk_un w, pk_un w]
    exact h r (by omega)
theorem sv_l1e {A : LA} {w s : Int32} {p q : Nat → Int32} {z : Int32} (h : ∀ r : Nat, (r : Int) < z.toInt → p r = pif (psA A w r) 0 (-1) ∧ q r = 0) (hn : rg (A 5 0 0) 0 24) (c : A 5 0 0 ≤ z) : SV (n0A A) (psA A w) (rdA A) (ndA A w s) (fun b => A 1 b 6) 0 p q := by
  refine sv_0 (fun r hr => h r ?_)
  have e := oh_nat hn (by decide)
  have c2 := Int32.le_iff_toInt_le.mp c
  have hr : r < (A 5 0 0).toNatClampNeg := hr
  omega

set_option maxHeartbeats 4000000 in
set_option maxRecDepth 100000 in
theorem e2_X1_take (l : Launch) (D : va_G) (E : Nat → ClassId) (G : Nat → Nat) (sz : Nat) (a : Nat → Nat) (C : Nat → va_E) (hT : TyX a E C) (x1 : Int32) (x2 : Int32) (hx1 : rg x1 0 4) : Met l yX1_take (oh_w yX1_take cX1_take 5 none) ({ frames := 2, cells := 0, slots := 0, locals := 43 }) (oh_Pm D E G [.ref (a 9), .ref (a 1), .int x1, .int x2] (oh_W 35 a C) sz) (va_Qv (fun (u : Nat → va_E) => TyX a E u ∧ fr [(9, 10)] [] C u ∧ (∀ A : LA, absX 10 C A → x1 < A 5 0 2 → pkX u A x1 x2)) (oh_B D (va_A (oh_W 35 a C) sz) (fun u => oh_W 35 a u)) (va_A (oh_W 35 a C) sz)) 0 0 (va_A (oh_W 35 a C) sz) := by
  refine Met.ofW (cc := cX1_take) (maxL := 5) (ret := none) (by decide) rfl ?_
  intro p e s m args below meth c s₁ B hml hv
  obtain ⟨rfl, hsz, hP, hK, hD0, hG⟩ := hv
  have hx := B.exec
  have hb := B.bytes
  have hr := B.returns
  have hts := atoms_spec (ws := (oh_w yX1_take cX1_take 5 none)) B.pre
  have htg : ∀ w ∈ oh_t, w.before _ s = true := fun w h => hts w (List.mem_cons_of_mem _ h)
  have hown : s.vm.findClass RX1 = some m.cls := findClass_of_methodNamed B.named
  have hlocks := B.notSynchronized
  have hT0 := hT
  subst hsz
  have hD := hD0.self (sz := s.heap.size)
  generalize hAe : va_A (oh_W 35 a C) s.heap.size = A at hD hG ⊢
  have hA : ∀ q : Nat, s.heap.size ≤ q → A q := fun q h => by rw [← hAe]; exact Or.inr h
  have hS : va_S A s.heap s.heap [] := va_S.rf
  have hF : fr [(9, 10)] [] C C := fr_rf
  have hl := lv_entry ([.ref (a 9), .ref (a 1), .int x1, .int x2]) (n := 5) (Nat.le_of_ble_eq_true rfl)
  rw [lg_entry_eq]
  generalize (lg_sl ([.ref (a 9), .ref (a 1), .int x1, .int x2]) ++ List.replicate (5 - (lg_sl ([.ref (a 9), .ref (a 1), .int x1, .int x2])).length) Slot.unset).toArray = ls at hl ⊢
  have hl : lv_has ls 5 [(0, .ref (a 9)), (1, .ref (a 1)), (2, .int x1), (3, .int x2)] := hl
  refine oh_genQ (fun Q hQ => ?_)
  refine lv_aload_n hx hb dX1_take_0 rfl (lv_at hl 0 rfl) ?_
  refine lv_aload_n hx hb dX1_take_1 rfl (lv_at hl 1 rfl) ?_
  refine lv_iload_n hx hb dX1_take_2 rfl (lv_at hl 2 rfl) ?_
  refine lv_iconst (v := 0) hx hb dX1_take_3 (by decide) ?_
  refine tq_V (As := [.int x1, .int 0]) (rest := [.ref (a 9)]) (ws := (oh_W 35 a C)) ⟨hx, hb, hml, hown, htg⟩ (c_X0_ofWaggon l D E G a C hT x1 (0 : Int32) (rg_w hx1 (by decide)) (rg_w (rg_c (v := 0) (lo := 0) (hi := 0) (by decide)) (by decide))) (cwV 2 htg (oh_gV q_707 q_688 q_689 q_67 q_690) rfl rfl rfl pdVX0_ofWaggon ⟨Nat.le_of_ble_eq_true rfl, Nat.le_of_ble_eq_true rfl⟩) hK hP hG hS (va_recv hK hP (ci := 0) (q0 := 1) rfl (oh_wg (by decide) (sX_1 hT))) rfl hl.1 rfl (Nat.le_of_ble_eq_true rfl) dX1_take_4 ⟨Nat.le_of_ble_eq_true rfl, Nat.le_of_ble_eq_true rfl⟩ (fun r_1 hq_2 => ?_)
  subst hq_2
  refine th_put (Tp := TyX a E) (Rl := fr [(9, 10)] [] C) (ci := 1) (v := .int (ga (C 13) ((x1 * 3) + 0).toNatClampNeg)) (ty := .int) (CC := RX1) (T := TX1) (N := 5) hx hb htg ig_1 tyX1 tyX1_ok nmX1 hown hK hP hD hS 9 (by decide) (sX_9 hT) rfl 0 (by decide) (htg _ q_145) (fun _ h9 => h9) rfl (by decide +kernel) rfl rfl (Nat.le_of_ble_eq_true rfl) (hT.up 9 rfl) (fr_st hF (by decide) (by decide)) dX1_take_7 (fun C_3 H locs e_4 hT hF hP hD hS => ?_)
  have t_5 := hT
  refine lv_aload_n hx hb dX1_take_10 rfl (lv_at hl 0 rfl) ?_
  refine lv_aload_n hx hb dX1_take_11 rfl (lv_at hl 1 rfl) ?_
  refine lv_iload_n hx hb dX1_take_12 rfl (lv_at hl 2 rfl) ?_
  refine lv_iconst (v := 1) hx hb dX1_take_13 (by decide) ?_
  refine tq_V (As := [.int x1, .int 1]) (rest := [.ref (a 9)]) (ws := (oh_W 35 a C_3)) ⟨hx, hb, hml, hown, htg⟩ (c_X0_ofWaggon l D E G a C_3 hT x1 (1 : Int32) (rg_w hx1 (by decide)) (rg_w (rg_c (v := 1) (lo := 1) (hi := 1) (by decide)) (by decide))) (cwV 2 htg (oh_gV q_707 q_688 q_689 q_67 q_690) rfl rfl rfl pdVX0_ofWaggon ⟨Nat.le_of_ble_eq_true rfl, Nat.le_of_ble_eq_true rfl⟩) hK hP hG hS (va_recv hK hP (ci := 0) (q0 := 1) rfl (oh_wg (by decide) (sX_1 hT))) rfl hl.1 rfl (Nat.le_of_ble_eq_true rfl) dX1_take_14 ⟨Nat.le_of_ble_eq_true rfl, Nat.le_of_ble_eq_true rfl⟩ (fun r_6 hq_7 => ?_)
  subst hq_7
  refine th_put (Tp := TyX a E) (Rl := fr [(9, 10)] [] C) (ci := 1) (v := .int (ga (C_3 13) ((x1 * 3) + 1).toNatClampNeg)) (ty := .int) (CC := RX1) (T := TX1) (N := 5) hx hb htg ig_1 tyX1 tyX1_ok nmX1 hown hK hP hD hS 9 (by decide) (sX_9 hT) rfl 1 (by decide) (htg _ q_146) (fun _ h9 => h9) rfl (by decide +kernel) rfl rfl (Nat.le_of_ble_eq_true rfl) (hT.up 9 rfl) (fr_st hF (by decide) (by decide)) dX1_take_17 (fun C_8 H locs e_9 hT hF hP hD hS => ?_)
  have t_10 := hT
  refine lv_aload_n hx hb dX1_take_20 rfl (lv_at hl 0 rfl) ?_
  refine lv_aload_n hx hb dX1_take_21 rfl (lv_at hl 1 rfl) ?_
  refine lv_iload_n hx hb dX1_take_22 rfl (lv_at hl 2 rfl) ?_
  refine tq_V (As := [.int x1]) (rest := [.ref (a 9)]) (ws := (oh_W 35 a C_8)) ⟨hx, hb, hml, hown, htg⟩ (e_X0_waggonLength l D E G a C_8 hT x1 (rg_w hx1 (by decide))) (cwV 1 htg (oh_gV q_708 q_684 q_685 q_67 q_686) rfl rfl rfl pdVX0_waggonLength ⟨Nat.le_of_ble_eq_true rfl, Nat.le_of_ble_eq_true rfl⟩) hK hP hG hS (va_recv hK hP (ci := 0) (q0 := 1) rfl (oh_wg (by decide) (sX_1 hT))) rfl hl.1 rfl (Nat.le_of_ble_eq_true rfl) dX1_take_23 ⟨Nat.le_of_ble_eq_true rfl, Nat.le_of_ble_eq_true rfl⟩ (fun r_11 hq_12 => ?_)
  subst hq_12
  refine th_put (Tp := TyX a E) (Rl := fr [(9, 10)] [] C) (ci := 1) (v := .int (((ga (C_8 13) ((x1 * 3) + 1).toNatClampNeg) * ((ga (C_8 13) ((x1 * 3) + 0).toNatClampNeg) - 1)) + 4)) (ty := .int) (CC := RX1) (T := TX1) (N := 5) hx hb htg ig_1 tyX1 tyX1_ok nmX1 hown hK hP hD hS 9 (by decide) (sX_9 hT) rfl 2 (by decide) (htg _ q_147) (fun _ h9 => h9) rfl (by decide +kernel) rfl rfl (Nat.le_of_ble_eq_true rfl) (hT.up 9 rfl) (fr_st hF (by decide) (by decide)) dX1_take_26 (fun C_13 H locs e_14 hT hF hP hD hS => ?_)
  have t_15 := hT
  refine lv_aload_n hx hb dX1_take_29 rfl (lv_at hl 1 rfl) ?_
  refine lv_iload_n hx hb dX1_take_30 rfl (lv_at hl 2 rfl) ?_
  refine lv_iconst (v := 2) hx hb dX1_take_31 (by decide) ?_
  refine tq_V (As := [.int x1, .int 2]) (rest := []) (ws := (oh_W 35 a C_13)) ⟨hx, hb, hml, hown, htg⟩ (c_X0_ofWaggon l D E G a C_13 hT x1 (2 : Int32) (rg_w hx1 (by decide)) (rg_w (rg_c (v := 2) (lo := 2) (hi := 2) (by decide)) (by decide))) (cwV 2 htg (oh_gV q_707 q_688 q_689 q_67 q_690) rfl rfl rfl pdVX0_ofWaggon ⟨Nat.le_of_ble_eq_true rfl, Nat.le_of_ble_eq_true rfl⟩) hK hP hG hS (va_recv hK hP (ci := 0) (q0 := 1) rfl (oh_wg (by decide) (sX_1 hT))) rfl hl.1 rfl (Nat.le_of_ble_eq_true rfl) dX1_take_32 ⟨Nat.le_of_ble_eq_true rfl, Nat.le_of_ble_eq_true rfl⟩ (fun r_16 hq_17 => ?_)
  subst hq_17
  refine lv_aload_n hx hb dX1_take_35 rfl (lv_at hl 1 rfl) ?_
  refine va_get (D := D) (ci := 0) (v := .ref (a 15)) (C := RX0) (T := TX0) (N := 8) hx hb htg ig_0 hown hK hP 1 (oh_wg (by decide) (sX_1 hT)) rfl 5 (by decide) (htg _ q_108) (fun _ h9 => h9) rfl dX1_take_36 ?_
  refine lv_iconst (v := 0) hx hb dX1_take_39 (by decide) ?_
  refine th_iald hx hb hK hP 15 (by decide) (Eq.trans (Eq.trans (th_un e_14 (by decide)) (Eq.trans (th_un e_9 (by decide)) (th_un e_4 (by decide)))) (sX_15 hT0)) (rg_in (rg_c (v := 0) (lo := 0) (hi := 0) (by decide)) (by decide)) dX1_take_40 ?_
  refine lv_iadd hx hb dX1_take_41 ?_
  refine lv_aload_n hx hb dX1_take_42 rfl (lv_at hl 1 rfl) ?_
  refine lv_iload_n hx hb dX1_take_43 rfl (lv_at hl 3 rfl) ?_
  refine lv_iconst (v := 0) hx hb dX1_take_44 (by decide) ?_
  refine tq_V (As := [.int x2, .int 0]) (rest := [.int ((ga (C_13 13) ((x1 * 3) + 2).toNatClampNeg) + (ga (C 15) ((0 : Int32)).toNatClampNeg))]) (ws := (oh_W 35 a C_13)) ⟨hx, hb, hml, hown, htg⟩ (e_X0_sumOfParts l D E G a C_13 hT x2 (0 : Int32) (rg_w (rg_c (v := 0) (lo := 0) (hi := 0) (by decide)) (by decide))) (cwV 2 htg (oh_gV q_709 q_710 q_711 q_67 q_712) rfl rfl rfl pdVX0_sumOfParts ⟨Nat.le_of_ble_eq_true rfl, Nat.le_of_ble_eq_true rfl⟩) hK hP hG hS (va_recv hK hP (ci := 0) (q0 := 1) rfl (oh_wg (by decide) (sX_1 hT))) rfl hl.1 rfl (Nat.le_of_ble_eq_true rfl) dX1_take_45 ⟨Nat.le_of_ble_eq_true rfl, Nat.le_of_ble_eq_true rfl⟩ (fun r_18 hq_19 => ?_)
  refine lv_isub hx hb dX1_take_48 ?_
  refine lv_istore (lv' := [(4, .int (((ga (C_13 13) ((x1 * 3) + 2).toNatClampNeg) + (ga (C 15) ((0 : Int32)).toNatClampNeg)) - r_18)), (0, .ref (a 9)), (1, .ref (a 1)), (2, .int x1), (3, .int x2)]) hx hb dX1_take_49 hl (by decide) rfl (fun ls hl => ?_)
  refine lv_aload_n hx hb dX1_take_51 rfl (lv_at hl 1 rfl) ?_
  refine lv_iload hx hb dX1_take_52 (lv_at hl 0 rfl) ?_
  refine lv_iconst (v := 0) hx hb dX1_take_54 (by decide) ?_
  refine va_mmax hx hb (by rw [hml]; exact hl.1.symm) hown (htg _ q_713) (htg _ q_714) (htg _ q_79) (htg _ q_715) (Nat.le_of_ble_eq_true rfl) (Nat.le_of_ble_eq_true rfl) (Nat.le_of_ble_eq_true rfl) (Nat.le_of_ble_eq_true rfl) dX1_take_55 ?_
  refine lv_aload_n hx hb dX1_take_58 rfl (lv_at hl 1 rfl) ?_
  refine va_get (D := D) (ci := 1) (v := .int (ga (C 13) ((x1 * 3) + 0).toNatClampNeg)) (C := RX1) (T := TX1) (N := 5) hx hb htg ig_1 hown hK hP 9 (oh_wg (by decide) (sX_9 hT)) rfl 0 (by decide) (htg _ q_145) (fun _ h9 => h9) (oh_fv (c := C_13 9) (j := 0) rfl (Eq.trans (show gi (C_13 9) 0 = gi (C_8 9) 0 by rw [e_14]; rfl) (Eq.trans (show gi (C_8 9) 0 = gi (C_3 9) 0 by rw [e_9]; rfl) (show gi (C_3 9) 0 = (ga (C 13) ((x1 * 3) + 0).toNatClampNeg) by rw [e_4]; rfl)))) dX1_take_59 ?_
  refine tq_SN (As := [.int (if ((ga (C_13 13) ((x1 * 3) + 2).toNatClampNeg) + (ga (C 15) ((0 : Int32)).toNatClampNeg)) - r_18 < 0 then 0 else ((ga (C_13 13) ((x1 * 3) + 2).toNatClampNeg) + (ga (C 15) ((0 : Int32)).toNatClampNeg)) - r_18), .int (ga (C 13) ((x1 * 3) + 0).toNatClampNeg)]) (rest := [.ref (a 9)]) (ws := []) ⟨hx, hb, hml, hown, htg⟩ (e_X6_roundedUp l D E G (if ((ga (C_13 13) ((x1 * 3) + 2).toNatClampNeg) + (ga (C 15) ((0 : Int32)).toNatClampNeg)) - r_18 < 0 then 0 else ((ga (C_13 13) ((x1 * 3) + 2).toNatClampNeg) + (ga (C 15) ((0 : Int32)).toNatClampNeg)) - r_18) (ga (C 13) ((x1 * 3) + 0).toNatClampNeg)) ⟨va_cnB (y := yX6_roundedUp) 2 htg (oh_gW q_718) rfl rfl rfl (hG.1 ("OneHeavyLoad$Pack", 43, ⟨"OneHeavyLoad", "roundedUp", "(II)I"⟩, "OneHeavyLoad") (List.mem_of_getElem? (i := 3) rfl)) (htg _ q_66) pdX6_roundedUp ⟨Nat.le_of_ble_eq_true rfl, Nat.le_of_ble_eq_true rfl⟩, htg _ q_717, trivial⟩ hK va_nil hG hS rfl hl.1 rfl (Nat.le_of_ble_eq_true rfl) dX1_take_62 ⟨Nat.le_of_ble_eq_true rfl, Nat.le_of_ble_eq_true rfl⟩ (fun r_20 hq_21 => ?_)
  refine th_put (Tp := TyX a E) (Rl := fr [(9, 10)] [] C) (ci := 1) (v := .int r_20) (ty := .int) (CC := RX1) (T := TX1) (N := 5) hx hb htg ig_1 tyX1 tyX1_ok nmX1 hown hK hP hD hS 9 (by decide) (sX_9 hT) rfl 3 (by decide) (htg _ q_149) (fun _ h9 => h9) rfl (by decide +kernel) rfl rfl (Nat.le_of_ble_eq_true rfl) (hT.up 9 rfl) (fr_st hF (by decide) (by decide)) dX1_take_65 (fun C_22 H locs e_23 hT hF hP hD hS => ?_)
  have t_24 := hT
  refine lv_aload_n hx hb dX1_take_68 rfl (lv_at hl 1 rfl) ?_
  refine lv_aload_n hx hb dX1_take_69 rfl (lv_at hl 2 rfl) ?_
  refine lv_iload_n hx hb dX1_take_70 rfl (lv_at hl 4 rfl) ?_
  refine lv_iconst (v := 1) hx hb dX1_take_71 (by decide) ?_
  refine tq_V (As := [.int x2, .int 1]) (rest := [.ref (a 9)]) (ws := (oh_W 35 a C_22)) ⟨hx, hb, hml, hown, htg⟩ (e_X0_sumOfParts l D E G a C_22 hT x2 (1 : Int32) (rg_w (rg_c (v := 1) (lo := 1) (hi := 1) (by decide)) (by decide))) (cwV 2 htg (oh_gV q_709 q_710 q_711 q_67 q_712) rfl rfl rfl pdVX0_sumOfParts ⟨Nat.le_of_ble_eq_true rfl, Nat.le_of_ble_eq_true rfl⟩) hK hP hG hS (va_recv hK hP (ci := 0) (q0 := 1) rfl (oh_wg (by decide) (sX_1 hT))) rfl hl.1 rfl (Nat.le_of_ble_eq_true rfl) dX1_take_72 ⟨Nat.le_of_ble_eq_true rfl, Nat.le_of_ble_eq_true rfl⟩ (fun r_25 hq_26 => ?_)
  refine th_put (Tp := TyX a E) (Rl := fr [(9, 10)] [] C) (ci := 1) (v := .int r_25) (ty := .int) (CC := RX1) (T := TX1) (N := 5) hx hb htg ig_1 tyX1 tyX1_ok nmX1 hown hK hP hD hS 9 (by decide) (sX_9 hT) rfl 4 (by decide) (htg _ q_152) (fun _ h9 => h9) rfl (by decide +kernel) rfl rfl (Nat.le_of_ble_eq_true rfl) (hT.up 9 rfl) (fr_st hF (by decide) (by decide)) dX1_take_75 (fun C_27 H locs e_28 hT hF hP hD hS => ?_)
  have t_29 := hT
  rw [hQ]
  exact W.vret hx hb hr (fun t ht hW => ⟨⟨C_27, rfl, ⟨hT, hF, (fun A hA hl => tk_pk hA hx1 hl (Eq.trans (show gi (C_27 9) 0 = gi (C_22 9) 0 by rw [e_28]; rfl) (Eq.trans (show gi (C_22 9) 0 = gi (C_13 9) 0 by rw [e_23]; rfl) (Eq.trans (show gi (C_13 9) 0 = gi (C_8 9) 0 by rw [e_14]; rfl) (Eq.trans (show gi (C_8 9) 0 = gi (C_3 9) 0 by rw [e_9]; rfl) (show gi (C_3 9) 0 = (ga (C 13) ((x1 * 3) + 0).toNatClampNeg) by rw [e_4]; rfl))))) (Eq.trans (Eq.trans (show gi (C_27 9) 1 = gi (C_22 9) 1 by rw [e_28]; rfl) (Eq.trans (show gi (C_22 9) 1 = gi (C_13 9) 1 by rw [e_23]; rfl) (Eq.trans (show gi (C_13 9) 1 = gi (C_8 9) 1 by rw [e_14]; rfl) (show gi (C_8 9) 1 = (ga (C_3 13) ((x1 * 3) + 1).toNatClampNeg) by rw [e_9]; rfl)))) (congrArg (fun z => ga z _) (th_un e_4 (by decide)))) (Eq.trans (Eq.trans (show gi (C_27 9) 2 = gi (C_22 9) 2 by rw [e_28]; rfl) (Eq.trans (show gi (C_22 9) 2 = gi (C_13 9) 2 by rw [e_23]; rfl) (show gi (C_13 9) 2 = (((ga (C_8 13) ((x1 * 3) + 1).toNatClampNeg) * ((ga (C_8 13) ((x1 * 3) + 0).toNatClampNeg) - 1)) + 4) by rw [e_14]; rfl))) (by rw [show C_8 13 = C 13 from (Eq.trans (th_un e_9 (by decide)) (th_un e_4 (by decide)))])) ((show ∀ A : LA, absX 10 C A → gi (C_27 9) 3 = aLoad (ga (C 13) ((x1 * 3) + 0).toNatClampNeg) (ga (C 13) ((x1 * 3) + 2).toNatClampNeg) (ga (C 15) ((0 : Int32)).toNatClampNeg) (sumA A x2 0 (A 5 0 3).toNatClampNeg) from (fun A hA => Eq.trans (Eq.trans (show gi (C_27 9) 3 = gi (C_22 9) 3 by rw [e_28]; rfl) (show gi (C_22 9) 3 = r_20 by rw [e_23]; rfl)) (by rw [hq_21, hq_19 A (absX_eq hA (fun k k1 k2 => (Eq.trans (th_un e_14 (by omega)) (Eq.trans (th_un e_9 (by omega)) (th_un e_4 (by omega)))))), show C_13 13 = C 13 from (Eq.trans (th_un e_14 (by decide)) (Eq.trans (th_un e_9 (by decide)) (th_un e_4 (by decide))))]; rfl))) A hA) ((show ∀ A : LA, absX 10 C A → gi (C_27 9) 4 = sumA A x2 1 (A 5 0 3).toNatClampNeg from (fun A hA => Eq.trans (show gi (C_27 9) 4 = r_25 by rw [e_28]; rfl) (hq_26 A (absX_eq hA (fun k k1 k2 => (Eq.trans (th_un e_23 (by omega)) (Eq.trans (th_un e_14 (by omega)) (Eq.trans (th_un e_9 (by omega)) (th_un e_4 (by omega)))))))))) A hA))⟩, ⟨by rw [ht]; exact hP, hD⟩⟩, hS.F ht⟩) hS.2.2 dX1_take_78

theorem z_s15 {z : Int32} (h : rg z 0 15) : (z + 1).toNatClampNeg = z.toNatClampNeg + 1 := by
  have e2 := oh_inc24 (x := z) ⟨h.1, by have := h.2; omega⟩
  have a := oh_nat h (by decide)
  have b := oh_nat (i := z + 1) (l := 0) (u := 16) ⟨by rw [e2]; have := h.1; omega, by rw [e2]; have := h.2; omega⟩ (by decide)
  omega
theorem n1_of {C : Nat → va_E} {A : LA} {z : Int32} (hA : absX 10 C A) (c : ga (C 10) ((1 : Int32)).toNatClampNeg ≤ z) (h : z.toInt ≤ (ga (C 10) ((1 : Int32)).toNatClampNeg).toInt) : z.toNatClampNeg = n1A A := by
  have e : ga (C 10) ((1 : Int32)).toNatClampNeg = A 5 0 1 := hA.1 1 (by decide)
  have c2 := Int32.le_iff_toInt_le.mp c
  have e2 : z = ga (C 10) ((1 : Int32)).toNatClampNeg := Int32.toInt_inj.mp (by omega)
  rw [e2, e]
  rfl

set_option maxHeartbeats 4000000 in
set_option maxRecDepth 100000 in
theorem e_X5_survey (l : Launch) (D : va_G) (E : Nat → ClassId) (G : Nat → Nat) (sz : Nat) (a : Nat → Nat) (C : Nat → va_E) (hT : TyX a E C) (x1 : Int32) (x2 : Int32) (hx1 : rg x1 0 4) : Met l yX5_survey (oh_w yX5_survey cX5_survey 6 none) ({ frames := 3, cells := 0, slots := 0, locals := 75 }) (oh_Pm D E G [.ref (a 3), .int x1, .int x2] (oh_W 35 a C) sz) (va_Qv (fun (u : Nat → va_E) => TyX a E u ∧ fr [(9, 10), (24, 26)] [] C u ∧ (∀ A : LA, absX 10 C A → x1 < A 5 0 2 → pkX u A x1 x2 ∧ SV (n0A A) (psA A x1) (rdA A) (ndA A x1 x2) (fun b => A 1 b 6) (n1A A) (ga (u 24)) (ga (u 25)))) (oh_B D (va_A (oh_W 35 a C) sz) (fun u => oh_W 35 a u)) (va_A (oh_W 35 a C) sz)) 0 0 (va_A (oh_W 35 a C) sz) := by
  refine Met.ofW (cc := cX5_survey) (maxL := 6) (ret := none) (by decide) rfl ?_
  intro p e s m args below meth c s₁ B hml hv
  obtain ⟨rfl, hsz, hP, hK, hD0, hG⟩ := hv
  have hx := B.exec
  have hb := B.bytes
  have hr := B.returns
  have hts := atoms_spec (ws := (oh_w yX5_survey cX5_survey 6 none)) B.pre
  have htg : ∀ w ∈ oh_t, w.before _ s = true := fun w h => hts w (List.mem_cons_of_mem _ h)
  have hown : s.vm.findClass RX5 = some m.cls := findClass_of_methodNamed B.named
  have hlocks := B.notSynchronized
  have hT0 := hT
  subst hsz
  have hD := hD0.self (sz := s.heap.size)
  generalize hAe : va_A (oh_W 35 a C) s.heap.size = A at hD hG ⊢
  have hA : ∀ q : Nat, s.heap.size ≤ q → A q := fun q h => by rw [← hAe]; exact Or.inr h
  have hS : va_S A s.heap s.heap [] := va_S.rf
  have hF : fr [(9, 10), (24, 26)] [] C C := fr_rf
  have hl := lv_entry ([.ref (a 3), .int x1, .int x2]) (n := 6) (Nat.le_of_ble_eq_true rfl)
  rw [lg_entry_eq]
  generalize (lg_sl ([.ref (a 3), .int x1, .int x2]) ++ List.replicate (6 - (lg_sl ([.ref (a 3), .int x1, .int x2])).length) Slot.unset).toArray = ls at hl ⊢
  have hl : lv_has ls 6 [(0, .ref (a 3)), (1, .int x1), (2, .int x2)] := hl
  refine oh_genQ (fun Q hQ => ?_)
  refine lv_aload_n hx hb dX5_survey_0 rfl (lv_at hl 0 rfl) ?_
  refine va_get (D := D) (ci := 5) (v := .ref (a 9)) (C := RX5) (T := TX5) (N := 7) hx hb htg ig_5 hown hK hP 3 (oh_wg (by decide) (sX_3 hT)) rfl 1 (by decide) (htg _ q_168) (fun _ h9 => h9) rfl dX5_survey_1 ?_
  refine lv_aload_n hx hb dX5_survey_4 rfl (lv_at hl 0 rfl) ?_
  refine va_get (D := D) (ci := 5) (v := .ref (a 1)) (C := RX5) (T := TX5) (N := 7) hx hb htg ig_5 hown hK hP 3 (oh_wg (by decide) (sX_3 hT)) rfl 0 (by decide) (htg _ q_167) (fun _ h9 => h9) rfl dX5_survey_5 ?_
  refine lv_iload_n hx hb dX5_survey_8 rfl (lv_at hl 1 rfl) ?_
  refine lv_iload_n hx hb dX5_survey_9 rfl (lv_at hl 2 rfl) ?_
  refine tm_Vv (As := [.ref (a 1), .int x1, .int x2]) (rest := []) ⟨hx, hb, hml, hown, htg⟩ (e2_X1_take l D E G _ a C hT x1 x2 (rg_w hx1 (by decide))) (cwV 3 htg (oh_gV q_754 q_704 q_705 q_69 q_706) rfl rfl rfl pdVX1_take ⟨Nat.le_of_ble_eq_true rfl, Nat.le_of_ble_eq_true rfl⟩) hK hP hD hG hS hA (va_recv hK hP (ci := 1) (q0 := 9) rfl (oh_wg (by decide) (sX_9 hT))) rfl hl.1 rfl (Nat.le_of_ble_eq_true rfl) dX5_survey_10 ⟨Nat.le_of_ble_eq_true rfl, Nat.le_of_ble_eq_true rfl⟩ (fun C_2 H locs hq_3 hP hD hS => ?_)
  obtain ⟨hT, f_4, hq_3⟩ := hq_3
  have hF := fr_tr hF f_4 (by decide) (by decide)
  refine W.widen (k := 0) (n := 0) (Nat.le_refl _) (Nat.le_refl _) ?_
  have t_5 := hT
  refine lv_iconst (v := 0) hx hb dX5_survey_13 (by decide) ?_
  refine lv_istore_n (lv' := [(3, .int 0), (0, .ref (a 3)), (1, .int x1), (2, .int x2)]) hx hb dX5_survey_14 rfl hl (by decide) rfl (fun ls hl => ?_)
  have L_15 : ∀ (d : Nat) (K15 : Nat → va_E) (z15_3 : Int32) (H : Heap) (locs : List Loc) (ls : Array Slot), (24 - z15_3.toInt).toNat = d → rg z15_3 0 24 → (∀ A : LA, absX 10 C A → x1 < A 5 0 2 → ∀ r : Nat, (r : Int) < z15_3.toInt → ga (K15 24) r = pif (psA A x1 r) 0 (-1) ∧ ga (K15 25) r = 0) → TyX a E K15 → fr [(9, 10), (24, 26)] [] C K15 → fr [(24, 26)] [] C_2 K15 → va_P D vwCl (oh_W 35 a K15) H → va_D A (oh_W 35 a K15) → va_S A s.heap H locs → lv_has ls 6 [(3, .int z15_3), (0, .ref (a 3)), (1, .int x1), (2, .int x2)] → W p l e ({ frames := 3, cells := 0, slots := 0, locals := 75 }) s m (([.ref (a 3), .int x1, .int x2] : List Value).toArray) below meth c H locs 0 0 Q (F0 m 15 ls []) := by
    intro d
    induction d using Nat.strongRecOn with
    | ind d ih_15 =>
    intro K15 z15_3 H locs ls hd_15 hz15_3 hx_15 hT hF hLF_15 hP hD hS hl
    have t_6 := hT
    refine lv_iload_n hx hb dX5_survey_15 rfl (lv_at hl 0 rfl) ?_
    refine lv_aload_n hx hb dX5_survey_16 rfl (lv_at hl 1 rfl) ?_
    refine va_get (D := D) (ci := 5) (v := .ref (a 1)) (C := RX5) (T := TX5) (N := 7) hx hb htg ig_5 hown hK hP 3 (oh_wg (by decide) (sX_3 hT)) rfl 0 (by decide) (htg _ q_167) (fun _ h9 => h9) rfl dX5_survey_17 ?_
    refine va_get (D := D) (ci := 0) (v := .ref (a 10)) (C := RX0) (T := TX0) (N := 8) hx hb htg ig_0 hown hK hP 1 (oh_wg (by decide) (sX_1 hT)) rfl 0 (by decide) (htg _ q_99) (fun _ h9 => h9) rfl dX5_survey_20 ?_
    refine lv_iconst (v := 0) hx hb dX5_survey_23 (by decide) ?_
    refine th_iald hx hb hK hP 10 (by decide) (Eq.trans (Eq.trans (hLF_15.1 10 rfl (by decide)) (f_4.1 10 rfl (by decide))) (sX_10 hT0)) (rg_in (rg_c (v := 0) (lo := 0) (hi := 0) (by decide)) (by decide)) dX5_survey_24 ?_
    refine lv_icmp_ge (tgt := 96) hx hb dX5_survey_25 (by decide) (fun (c_7 : (ga (C 10) ((0 : Int32)).toNatClampNeg) ≤ z15_3) => ?_) (fun (c_7 : ¬ ((ga (C 10) ((0 : Int32)).toNatClampNeg) ≤ z15_3)) => ?_)
    · refine lv_iconst (v := 0) hx hb dX5_survey_96 (by decide) ?_
      refine lv_istore_n (lv' := [(3, .int 0), (0, .ref (a 3)), (1, .int x1), (2, .int x2)]) hx hb dX5_survey_97 rfl hl (by decide) rfl (fun ls hl => ?_)
      have L_98 : ∀ (d : Nat) (K98 : Nat → va_E) (z98_3 : Int32) (H : Heap) (locs : List Loc) (ls : Array Slot), (16 - z98_3.toInt).toNat = d → rg z98_3 0 16 → (∀ A : LA, absX 10 C A → x1 < A 5 0 2 → SV (n0A A) (psA A x1) (rdA A) (ndA A x1 x2) (fun b => A 1 b 6) z98_3.toNatClampNeg (ga (K98 24)) (ga (K98 25))) → (z98_3.toInt ≤ (ga (C 10) ((1 : Int32)).toNatClampNeg).toInt) → TyX a E K98 → fr [(9, 10), (24, 26)] [] C K98 → fr [(24, 26)] [] K15 K98 → va_P D vwCl (oh_W 35 a K98) H → va_D A (oh_W 35 a K98) → va_S A s.heap H locs → lv_has ls 6 [(3, .int z98_3), (0, .ref (a 3)), (1, .int x1), (2, .int x2)] → W p l e ({ frames := 3, cells := 0, slots := 0, locals := 75 }) s m (([.ref (a 3), .int x1, .int x2] : List Value).toArray) below meth c H locs 0 0 Q (F0 m 98 ls []) := by
        intro d
        induction d using Nat.strongRecOn with
        | ind d ih_98 =>
        intro K98 z98_3 H locs ls hd_98 hz98_3 hx_98 hy_98 hT hF hLF_98 hP hD hS hl
        have t_8 := hT
        refine lv_iload_n hx hb dX5_survey_98 rfl (lv_at hl 0 rfl) ?_
        refine lv_aload_n hx hb dX5_survey_99 rfl (lv_at hl 1 rfl) ?_
        refine va_get (D := D) (ci := 5) (v := .ref (a 1)) (C := RX5) (T := TX5) (N := 7) hx hb htg ig_5 hown hK hP 3 (oh_wg (by decide) (sX_3 hT)) rfl 0 (by decide) (htg _ q_167) (fun _ h9 => h9) rfl dX5_survey_100 ?_
        refine va_get (D := D) (ci := 0) (v := .ref (a 10)) (C := RX0) (T := TX0) (N := 8) hx hb htg ig_0 hown hK hP 1 (oh_wg (by decide) (sX_1 hT)) rfl 0 (by decide) (htg _ q_99) (fun _ h9 => h9) rfl dX5_survey_103 ?_
        refine lv_iconst (v := 1) hx hb dX5_survey_106 (by decide) ?_
        refine th_iald hx hb hK hP 10 (by decide) (Eq.trans (Eq.trans (hLF_98.1 10 rfl (by decide)) (Eq.trans (hLF_15.1 10 rfl (by decide)) (f_4.1 10 rfl (by decide)))) (sX_10 hT0)) (rg_in (rg_c (v := 1) (lo := 1) (hi := 1) (by decide)) (by decide)) dX5_survey_107 ?_
        refine lv_icmp_ge (tgt := 211) hx hb dX5_survey_108 (by decide) (fun (c_9 : (ga (C 10) ((1 : Int32)).toNatClampNeg) ≤ z98_3) => ?_) (fun (c_9 : ¬ ((ga (C 10) ((1 : Int32)).toNatClampNeg) ≤ z98_3)) => ?_)
        · rw [hQ]
          exact W.vret hx hb hr (fun t ht hW => ⟨⟨K98, rfl, ⟨hT, hF, (fun A hA hl => ⟨(pkX_eq (hq_3 A hA hl) (Eq.trans (hLF_98.1 9 rfl (by decide)) (hLF_15.1 9 rfl (by decide)))), by have h7 := hx_98 A hA hl; rw [n1_of hA c_9 hy_98] at h7; exact h7⟩)⟩, ⟨by rw [ht]; exact hP, hD⟩⟩, hS.F ht⟩) hS.2.2 dX5_survey_211
        · refine lv_aload_n hx hb dX5_survey_111 rfl (lv_at hl 1 rfl) ?_
          refine va_get (D := D) (ci := 5) (v := .ref (a 1)) (C := RX5) (T := TX5) (N := 7) hx hb htg ig_5 hown hK hP 3 (oh_wg (by decide) (sX_3 hT)) rfl 0 (by decide) (htg _ q_167) (fun _ h9 => h9) rfl dX5_survey_112 ?_
          refine lv_iload_n hx hb dX5_survey_115 rfl (lv_at hl 0 rfl) ?_
          refine lv_iconst (v := 0) hx hb dX5_survey_116 (by decide) ?_
          refine tq_V (As := [.int z98_3, .int 0]) (rest := []) (ws := (oh_W 35 a K98)) ⟨hx, hb, hml, hown, htg⟩ (c_X0_ofBridge l D E G a K98 hT z98_3 (0 : Int32) (rg_w (rn_ltu (u' := 15) (Int32.not_le.mp c_9) hz98_3 (tA_rdc (lo := 0) (hi := 16) (tX_10 hT0) (rg_in (rg_c (v := 1) (lo := 1) (hi := 1) (by decide)) (by decide)) (show _ = 1 by decide) (by decide)) (by decide)) (by decide)) (rg_w (rg_c (v := 0) (lo := 0) (hi := 0) (by decide)) (by decide))) (cwV 2 htg (oh_gV q_756 q_385 q_386 q_67 q_387) rfl rfl rfl pdVX0_ofBridge ⟨Nat.le_of_ble_eq_true rfl, Nat.le_of_ble_eq_true rfl⟩) hK hP hG hS (va_recv hK hP (ci := 0) (q0 := 1) rfl (oh_wg (by decide) (sX_1 hT))) rfl hl.1 rfl (Nat.le_of_ble_eq_true rfl) dX5_survey_117 ⟨Nat.le_of_ble_eq_true rfl, Nat.le_of_ble_eq_true rfl⟩ (fun r_10 hq_11 => ?_)
          subst hq_11
          refine lv_istore (lv' := [(4, .int (ga (K98 12) ((z98_3 * 10) + 0).toNatClampNeg)), (3, .int z98_3), (0, .ref (a 3)), (1, .int x1), (2, .int x2)]) hx hb dX5_survey_120 hl (by decide) rfl (fun ls hl => ?_)
          refine lv_aload_n hx hb dX5_survey_122 rfl (lv_at hl 2 rfl) ?_
          refine va_get (D := D) (ci := 5) (v := .ref (a 24)) (C := RX5) (T := TX5) (N := 7) hx hb htg ig_5 hown hK hP 3 (oh_wg (by decide) (sX_3 hT)) rfl 2 (by decide) (htg _ q_170) (fun _ h9 => h9) rfl dX5_survey_123 ?_
          refine lv_iload hx hb dX5_survey_126 (lv_at hl 0 rfl) ?_
          have n_12 : vp_in (ga (K98 12) ((z98_3 * 10) + 0).toNatClampNeg) 24 := (rg_in (tA_rdc (lo := 0) (hi := 23) (tX_12 t_8) (rg_in (rg_add (lo := 0) (hi := 150) (rg_mul (lo := 0) (hi := 150) (rn_ltu (u' := 15) (Int32.not_le.mp c_9) hz98_3 (tA_rdc (lo := 0) (hi := 16) (tX_10 hT0) (rg_in (rg_c (v := 1) (lo := 1) (hi := 1) (by decide)) (by decide)) (show _ = 1 by decide) (by decide)) (by decide)) (rg_c (v := 10) (lo := 10) (hi := 10) (by decide)) (by decide)) (rg_c (v := 0) (lo := 0) (hi := 0) (by decide)) (by decide)) (by decide)) (oh_col (W := 10) (rn_ltu (u' := 15) (Int32.not_le.mp c_9) hz98_3 (tA_rdc (lo := 0) (hi := 16) (tX_10 hT0) (rg_in (rg_c (v := 1) (lo := 1) (hi := 1) (by decide)) (by decide)) (show _ = 1 by decide) (by decide)) (by decide)) rfl (rg_c (v := 0) (lo := 0) (hi := 0) (by decide)) (by decide)) (by decide)) (by decide))
          refine th_iald hx hb hK hP 24 (by decide) (sX_24 hT) n_12 dX5_survey_128 ?_
          refine lv_iconst (v := (-1)) hx hb dX5_survey_129 (by decide) ?_
          refine lv_icmp_ne (tgt := 137) hx hb dX5_survey_130 (by decide) (fun (c_13 : ¬ ((ga (K98 24) (ga (K98 12) ((z98_3 * 10) + 0).toNatClampNeg).toNatClampNeg) = (-1))) => ?_) (fun (c_13 : (ga (K98 24) (ga (K98 12) ((z98_3 * 10) + 0).toNatClampNeg).toNatClampNeg) = (-1)) => ?_)
          · refine lv_aload_n hx hb dX5_survey_137 rfl (lv_at hl 2 rfl) ?_
            refine va_get (D := D) (ci := 5) (v := .ref (a 9)) (C := RX5) (T := TX5) (N := 7) hx hb htg ig_5 hown hK hP 3 (oh_wg (by decide) (sX_3 hT)) rfl 1 (by decide) (htg _ q_168) (fun _ h9 => h9) rfl dX5_survey_138 ?_
            refine lv_aload_n hx hb dX5_survey_141 rfl (lv_at hl 2 rfl) ?_
            refine va_get (D := D) (ci := 5) (v := .ref (a 1)) (C := RX5) (T := TX5) (N := 7) hx hb htg ig_5 hown hK hP 3 (oh_wg (by decide) (sX_3 hT)) rfl 0 (by decide) (htg _ q_167) (fun _ h9 => h9) rfl dX5_survey_142 ?_
            refine lv_iload_n hx hb dX5_survey_145 rfl (lv_at hl 1 rfl) ?_
            refine tq_V (As := [.ref (a 1), .int z98_3]) (rest := []) (ws := (oh_W 35 a K98)) ⟨hx, hb, hml, hown, htg⟩ (e_X1_needsOf l D E G a K98 hT z98_3 (rg_w (rn_ltu (u' := 15) (Int32.not_le.mp c_9) hz98_3 (tA_rdc (lo := 0) (hi := 16) (tX_10 hT0) (rg_in (rg_c (v := 1) (lo := 1) (hi := 1) (by decide)) (by decide)) (show _ = 1 by decide) (by decide)) (by decide)) (by decide))) (cwV 2 htg (oh_gV q_757 q_738 q_739 q_69 q_740) rfl rfl rfl pdVX1_needsOf ⟨Nat.le_of_ble_eq_true rfl, Nat.le_of_ble_eq_true rfl⟩) hK hP hG hS (va_recv hK hP (ci := 1) (q0 := 9) rfl (oh_wg (by decide) (sX_9 hT))) rfl hl.1 rfl (Nat.le_of_ble_eq_true rfl) dX5_survey_146 ⟨Nat.le_of_ble_eq_true rfl, Nat.le_of_ble_eq_true rfl⟩ (fun r_14 hq_15 => ?_)
            refine lv_istore (lv' := [(5, .int r_14), (4, .int (ga (K98 12) ((z98_3 * 10) + 0).toNatClampNeg)), (3, .int z98_3), (0, .ref (a 3)), (1, .int x1), (2, .int x2)]) hx hb dX5_survey_149 hl (by decide) rfl (fun ls hl => ?_)
            refine lv_iload hx hb dX5_survey_151 (lv_at hl 0 rfl) ?_
            refine lv_iconst (v := 2) hx hb dX5_survey_153 (by decide) ?_
            refine lv_icmp_ne (tgt := 168) hx hb dX5_survey_154 (by decide) (fun (c_16 : ¬ (r_14 = 2)) => ?_) (fun (c_16 : r_14 = 2) => ?_)
            · refine lv_iload hx hb dX5_survey_168 (lv_at hl 0 rfl) ?_
              refine lv_iconst (v := 1) hx hb dX5_survey_170 (by decide) ?_
              refine lv_icmp_ne (tgt := 205) hx hb dX5_survey_171 (by decide) (fun (c_17 : ¬ (r_14 = 1)) => ?_) (fun (c_17 : r_14 = 1) => ?_)
              · refine lv_iinc (v := z98_3 + 1) (lv' := [(3, .int (z98_3 + 1)), (5, .int r_14), (4, .int (ga (K98 12) ((z98_3 * 10) + 0).toNatClampNeg)), (0, .ref (a 3)), (1, .int x1), (2, .int x2)]) hx hb dX5_survey_205 hl (k := 2) rfl (by rfl) (by decide) rfl (fun ls hl => ?_)
                refine lv_goto (tgt := 98) hx hb dX5_survey_208 (by decide) ?_
                exact ih_98 _ (hd_98 ▸ mu_up 16 (rn_ltu (u' := 15) (Int32.not_le.mp c_9) hz98_3 (tA_rdc (lo := 0) (hi := 16) (tX_10 hT0) (rg_in (rg_c (v := 1) (lo := 1) (hi := 1) (by decide)) (by decide)) (show _ = 1 by decide) (by decide)) (by decide)) (by decide)) K98 (z98_3 + 1) _ _ ls rfl (rg_w (rg_add (lo := 1) (hi := 16) (rn_ltu (u' := 15) (Int32.not_le.mp c_9) hz98_3 (tA_rdc (lo := 0) (hi := 16) (tX_10 hT0) (rg_in (rg_c (v := 1) (lo := 1) (hi := 1) (by decide)) (by decide)) (show _ = 1 by decide) (by decide)) (by decide)) (rg_c (v := 1) (lo := 1) (hi := 1) (by decide)) (by decide)) (by decide)) (fun A hA hl => by have hK := (absX_eq (absX_eq (absX_eq hA (fr_all f_4 10 15 (by decide))) (fr_all hLF_15 10 15 (by decide))) (fr_all hLF_98 10 15 (by decide))); have hz1 : z98_3 < A 5 0 1 := oh_lte (Int32.not_le.mp c_9) (hA.1 1 (by decide)); have hrd : ga (K98 12) ((z98_3 * 10) + 0).toNatClampNeg = A 1 z98_3.toNatClampNeg 0 := bcX hK (rg_w (lo := 0) (hi := 15) (rn_ltu (u' := 15) (Int32.not_le.mp c_9) hz98_3 (tA_rdc (lo := 0) (hi := 16) (tX_10 hT0) (rg_in (rg_c (v := 1) (lo := 1) (hi := 1) (by decide)) (by decide)) (show _ = 1 by decide) (by decide)) (by decide)) (by decide)) hz1 ⟨by decide, by decide⟩; have hi : (ga (K98 12) ((z98_3 * 10) + 0).toNatClampNeg).toNatClampNeg = rdA A z98_3.toNatClampNeg := congrArg Int32.toNatClampNeg hrd; rw [(show (z98_3 + 1).toNatClampNeg = z98_3.toNatClampNeg + 1 from z_s15 (rg_w (lo := 0) (hi := 15) (rn_ltu (u' := 15) (Int32.not_le.mp c_9) hz98_3 (tA_rdc (lo := 0) (hi := 16) (tX_10 hT0) (rg_in (rg_c (v := 1) (lo := 1) (hi := 1) (by decide)) (by decide)) (show _ = 1 by decide) (by decide)) (by decide)) (by decide)))]; exact sv_z (hx_98 A hA hl) (by rw [← (show r_14 = ndA A x1 x2 z98_3.toNatClampNeg from ndX hK (pkX_eq (hq_3 A hA hl) (Eq.trans (hLF_98.1 9 rfl (by decide)) (hLF_15.1 9 rfl (by decide)))) (rg_w (lo := 0) (hi := 15) (rn_ltu (u' := 15) (Int32.not_le.mp c_9) hz98_3 (tA_rdc (lo := 0) (hi := 16) (tX_10 hT0) (rg_in (rg_c (v := 1) (lo := 1) (hi := 1) (by decide)) (by decide)) (show _ = 1 by decide) (by decide)) (by decide)) (by decide)) hz1 hq_15)]; exact c_16) (by rw [← (show r_14 = ndA A x1 x2 z98_3.toNatClampNeg from ndX hK (pkX_eq (hq_3 A hA hl) (Eq.trans (hLF_98.1 9 rfl (by decide)) (hLF_15.1 9 rfl (by decide)))) (rg_w (lo := 0) (hi := 15) (rn_ltu (u' := 15) (Int32.not_le.mp c_9) hz98_3 (tA_rdc (lo := 0) (hi := 16) (tX_10 hT0) (rg_in (rg_c (v := 1) (lo := 1) (hi := 1) (by decide)) (by decide)) (show _ = 1 by decide) (by decide)) (by decide)) (by decide)) hz1 hq_15)]; exact c_17)) (by have h7 := Int32.lt_iff_toInt_lt.mp (Int32.not_le.mp c_9); have h8 : (z98_3 + 1).toInt = z98_3.toInt + 1 := oh_incr (rn_ltu (u' := 15) (Int32.not_le.mp c_9) hz98_3 (tA_rdc (lo := 0) (hi := 16) (tX_10 hT0) (rg_in (rg_c (v := 1) (lo := 1) (hi := 1) (by decide)) (by decide)) (show _ = 1 by decide) (by decide)) (by decide)) (by decide); omega) hT hF hLF_98 hP hD hS (lv_sub hl [0, 3, 4, 5] rfl)
              · refine lv_aload_n hx hb dX5_survey_174 rfl (lv_at hl 3 rfl) ?_
                refine va_get (D := D) (ci := 5) (v := .ref (a 24)) (C := RX5) (T := TX5) (N := 7) hx hb htg ig_5 hown hK hP 3 (oh_wg (by decide) (sX_3 hT)) rfl 2 (by decide) (htg _ q_170) (fun _ h9 => h9) rfl dX5_survey_175 ?_
                refine lv_iload hx hb dX5_survey_178 (lv_at hl 1 rfl) ?_
                refine lv_dup2_11 hx hb dX5_survey_180 rfl rfl ?_
                have n_18 : vp_in (ga (K98 12) ((z98_3 * 10) + 0).toNatClampNeg) 24 := (rg_in (tA_rdc (lo := 0) (hi := 23) (tX_12 t_8) (rg_in (rg_add (lo := 0) (hi := 150) (rg_mul (lo := 0) (hi := 150) (rn_ltu (u' := 15) (Int32.not_le.mp c_9) hz98_3 (tA_rdc (lo := 0) (hi := 16) (tX_10 hT0) (rg_in (rg_c (v := 1) (lo := 1) (hi := 1) (by decide)) (by decide)) (show _ = 1 by decide) (by decide)) (by decide)) (rg_c (v := 10) (lo := 10) (hi := 10) (by decide)) (by decide)) (rg_c (v := 0) (lo := 0) (hi := 0) (by decide)) (by decide)) (by decide)) (oh_col (W := 10) (rn_ltu (u' := 15) (Int32.not_le.mp c_9) hz98_3 (tA_rdc (lo := 0) (hi := 16) (tX_10 hT0) (rg_in (rg_c (v := 1) (lo := 1) (hi := 1) (by decide)) (by decide)) (show _ = 1 by decide) (by decide)) (by decide)) rfl (rg_c (v := 0) (lo := 0) (hi := 0) (by decide)) (by decide)) (by decide)) (by decide))
                refine th_iald hx hb hK hP 24 (by decide) (sX_24 hT) n_18 dX5_survey_181 ?_
                refine lv_iconst (v := 1) hx hb dX5_survey_182 (by decide) ?_
                refine lv_iadd hx hb dX5_survey_183 ?_
                have n_19 : vp_in (ga (K98 12) ((z98_3 * 10) + 0).toNatClampNeg) 24 := (rg_in (tA_rdc (lo := 0) (hi := 23) (tX_12 t_8) (rg_in (rg_add (lo := 0) (hi := 150) (rg_mul (lo := 0) (hi := 150) (rn_ltu (u' := 15) (Int32.not_le.mp c_9) hz98_3 (tA_rdc (lo := 0) (hi := 16) (tX_10 hT0) (rg_in (rg_c (v := 1) (lo := 1) (hi := 1) (by decide)) (by decide)) (show _ = 1 by decide) (by decide)) (by decide)) (rg_c (v := 10) (lo := 10) (hi := 10) (by decide)) (by decide)) (rg_c (v := 0) (lo := 0) (hi := 0) (by decide)) (by decide)) (by decide)) (oh_col (W := 10) (rn_ltu (u' := 15) (Int32.not_le.mp c_9) hz98_3 (tA_rdc (lo := 0) (hi := 16) (tX_10 hT0) (rg_in (rg_c (v := 1) (lo := 1) (hi := 1) (by decide)) (by decide)) (show _ = 1 by decide) (by decide)) (by decide)) rfl (rg_c (v := 0) (lo := 0) (hi := 0) (by decide)) (by decide)) (by decide)) (by decide))
                refine th_iast (T := TyX a E) (Rl := fr [(9, 10), (24, 26)] [] C) hx hb hK hP hD hS 24 (by decide) (sX_24 hT) n_19 (hT.up 24 (tA_upd (tX_24 hT) tA_any)) (fr_st hF (by decide) (by decide)) dX5_survey_184 (fun C_20 H locs e_21 hT hF hP hD hS => ?_)
                have t_22 := hT
                refine lv_aload_n hx hb dX5_survey_185 rfl (lv_at hl 3 rfl) ?_
                refine va_get (D := D) (ci := 5) (v := .ref (a 25)) (C := RX5) (T := TX5) (N := 7) hx hb htg ig_5 hown hK hP 3 (oh_wg (by decide) (sX_3 hT)) rfl 3 (by decide) (htg _ q_172) (fun _ h9 => h9) rfl dX5_survey_186 ?_
                refine lv_iload hx hb dX5_survey_189 (lv_at hl 1 rfl) ?_
                refine lv_dup2_11 hx hb dX5_survey_191 rfl rfl ?_
                have n_23 : vp_in (ga (K98 12) ((z98_3 * 10) + 0).toNatClampNeg) 24 := (rg_in (tA_rdc (lo := 0) (hi := 23) (tX_12 t_8) (rg_in (rg_add (lo := 0) (hi := 150) (rg_mul (lo := 0) (hi := 150) (rn_ltu (u' := 15) (Int32.not_le.mp c_9) hz98_3 (tA_rdc (lo := 0) (hi := 16) (tX_10 hT0) (rg_in (rg_c (v := 1) (lo := 1) (hi := 1) (by decide)) (by decide)) (show _ = 1 by decide) (by decide)) (by decide)) (rg_c (v := 10) (lo := 10) (hi := 10) (by decide)) (by decide)) (rg_c (v := 0) (lo := 0) (hi := 0) (by decide)) (by decide)) (by decide)) (oh_col (W := 10) (rn_ltu (u' := 15) (Int32.not_le.mp c_9) hz98_3 (tA_rdc (lo := 0) (hi := 16) (tX_10 hT0) (rg_in (rg_c (v := 1) (lo := 1) (hi := 1) (by decide)) (by decide)) (show _ = 1 by decide) (by decide)) (by decide)) rfl (rg_c (v := 0) (lo := 0) (hi := 0) (by decide)) (by decide)) (by decide)) (by decide))
                refine th_iald hx hb hK hP 25 (by decide) (Eq.trans (th_un e_21 (by decide)) (sX_25 t_8)) n_23 dX5_survey_192 ?_
                refine lv_aload_n hx hb dX5_survey_193 rfl (lv_at hl 3 rfl) ?_
                refine va_get (D := D) (ci := 5) (v := .ref (a 1)) (C := RX5) (T := TX5) (N := 7) hx hb htg ig_5 hown hK hP 3 (oh_wg (by decide) (sX_3 hT)) rfl 0 (by decide) (htg _ q_167) (fun _ h9 => h9) rfl dX5_survey_194 ?_
                refine lv_iload_n hx hb dX5_survey_197 rfl (lv_at hl 2 rfl) ?_
                refine lv_bipush (v := 6) hx hb dX5_survey_198 (by decide) ?_
                refine tq_V (As := [.int z98_3, .int 6]) (rest := [.int (ga (K98 25) (ga (K98 12) ((z98_3 * 10) + 0).toNatClampNeg).toNatClampNeg), .int (ga (K98 12) ((z98_3 * 10) + 0).toNatClampNeg), .ref (a 25)]) (ws := (oh_W 35 a C_20)) ⟨hx, hb, hml, hown, htg⟩ (c_X0_ofBridge l D E G a C_20 hT z98_3 (6 : Int32) (rg_w (rn_ltu (u' := 15) (Int32.not_le.mp c_9) hz98_3 (tA_rdc (lo := 0) (hi := 16) (tX_10 hT0) (rg_in (rg_c (v := 1) (lo := 1) (hi := 1) (by decide)) (by decide)) (show _ = 1 by decide) (by decide)) (by decide)) (by decide)) (rg_w (rg_c (v := 6) (lo := 6) (hi := 6) (by decide)) (by decide))) (cwV 2 htg (oh_gV q_756 q_385 q_386 q_67 q_387) rfl rfl rfl pdVX0_ofBridge ⟨Nat.le_of_ble_eq_true rfl, Nat.le_of_ble_eq_true rfl⟩) hK hP hG hS (va_recv hK hP (ci := 0) (q0 := 1) rfl (oh_wg (by decide) (sX_1 hT))) rfl hl.1 rfl (Nat.le_of_ble_eq_true rfl) dX5_survey_200 ⟨Nat.le_of_ble_eq_true rfl, Nat.le_of_ble_eq_true rfl⟩ (fun r_24 hq_25 => ?_)
                subst hq_25
                refine lv_iadd hx hb dX5_survey_203 ?_
                have n_26 : vp_in (ga (K98 12) ((z98_3 * 10) + 0).toNatClampNeg) 24 := (rg_in (tA_rdc (lo := 0) (hi := 23) (tX_12 t_8) (rg_in (rg_add (lo := 0) (hi := 150) (rg_mul (lo := 0) (hi := 150) (rn_ltu (u' := 15) (Int32.not_le.mp c_9) hz98_3 (tA_rdc (lo := 0) (hi := 16) (tX_10 hT0) (rg_in (rg_c (v := 1) (lo := 1) (hi := 1) (by decide)) (by decide)) (show _ = 1 by decide) (by decide)) (by decide)) (rg_c (v := 10) (lo := 10) (hi := 10) (by decide)) (by decide)) (rg_c (v := 0) (lo := 0) (hi := 0) (by decide)) (by decide)) (by decide)) (oh_col (W := 10) (rn_ltu (u' := 15) (Int32.not_le.mp c_9) hz98_3 (tA_rdc (lo := 0) (hi := 16) (tX_10 hT0) (rg_in (rg_c (v := 1) (lo := 1) (hi := 1) (by decide)) (by decide)) (show _ = 1 by decide) (by decide)) (by decide)) rfl (rg_c (v := 0) (lo := 0) (hi := 0) (by decide)) (by decide)) (by decide)) (by decide))
                refine th_iast (T := TyX a E) (Rl := fr [(9, 10), (24, 26)] [] C) hx hb hK hP hD hS 25 (by decide) (sX_25 hT) n_26 (hT.up 25 (tA_upd (tX_25 hT) tA_any)) (fr_st hF (by decide) (by decide)) dX5_survey_204 (fun C_27 H locs e_28 hT hF hP hD hS => ?_)
                have t_29 := hT
                refine lv_iinc (v := z98_3 + 1) (lv' := [(3, .int (z98_3 + 1)), (5, .int r_14), (4, .int (ga (K98 12) ((z98_3 * 10) + 0).toNatClampNeg)), (0, .ref (a 3)), (1, .int x1), (2, .int x2)]) hx hb dX5_survey_205 hl (k := 2) rfl (by rfl) (by decide) rfl (fun ls hl => ?_)
                refine lv_goto (tgt := 98) hx hb dX5_survey_208 (by decide) ?_
                exact ih_98 _ (hd_98 ▸ mu_up 16 (rn_ltu (u' := 15) (Int32.not_le.mp c_9) hz98_3 (tA_rdc (lo := 0) (hi := 16) (tX_10 hT0) (rg_in (rg_c (v := 1) (lo := 1) (hi := 1) (by decide)) (by decide)) (show _ = 1 by decide) (by decide)) (by decide)) (by decide)) C_27 (z98_3 + 1) _ _ ls rfl (rg_w (rg_add (lo := 1) (hi := 16) (rn_ltu (u' := 15) (Int32.not_le.mp c_9) hz98_3 (tA_rdc (lo := 0) (hi := 16) (tX_10 hT0) (rg_in (rg_c (v := 1) (lo := 1) (hi := 1) (by decide)) (by decide)) (show _ = 1 by decide) (by decide)) (by decide)) (rg_c (v := 1) (lo := 1) (hi := 1) (by decide)) (by decide)) (by decide)) (fun A hA hl => by have hK := (absX_eq (absX_eq (absX_eq hA (fr_all f_4 10 15 (by decide))) (fr_all hLF_15 10 15 (by decide))) (fr_all hLF_98 10 15 (by decide))); have hz1 : z98_3 < A 5 0 1 := oh_lte (Int32.not_le.mp c_9) (hA.1 1 (by decide)); have hrd : ga (K98 12) ((z98_3 * 10) + 0).toNatClampNeg = A 1 z98_3.toNatClampNeg 0 := bcX hK (rg_w (lo := 0) (hi := 15) (rn_ltu (u' := 15) (Int32.not_le.mp c_9) hz98_3 (tA_rdc (lo := 0) (hi := 16) (tX_10 hT0) (rg_in (rg_c (v := 1) (lo := 1) (hi := 1) (by decide)) (by decide)) (show _ = 1 by decide) (by decide)) (by decide)) (by decide)) hz1 ⟨by decide, by decide⟩; have hi : (ga (K98 12) ((z98_3 * 10) + 0).toNatClampNeg).toNatClampNeg = rdA A z98_3.toNatClampNeg := congrArg Int32.toNatClampNeg hrd; rw [(show (z98_3 + 1).toNatClampNeg = z98_3.toNatClampNeg + 1 from z_s15 (rg_w (lo := 0) (hi := 15) (rn_ltu (u' := 15) (Int32.not_le.mp c_9) hz98_3 (tA_rdc (lo := 0) (hi := 16) (tX_10 hT0) (rg_in (rg_c (v := 1) (lo := 1) (hi := 1) (by decide)) (by decide)) (show _ = 1 by decide) (by decide)) (by decide)) (by decide)))]; exact sv_1 (hx_98 A hA hl) (show z98_3.toNatClampNeg ≤ 16 by have h5 := oh_nat (rg_w (lo := 0) (hi := 15) (rn_ltu (u' := 15) (Int32.not_le.mp c_9) hz98_3 (tA_rdc (lo := 0) (hi := 16) (tX_10 hT0) (rg_in (rg_c (v := 1) (lo := 1) (hi := 1) (by decide)) (by decide)) (show _ = 1 by decide) (by decide)) (by decide)) (by decide)) (by decide); have h6 := (rg_w (lo := 0) (hi := 15) (rn_ltu (u' := 15) (Int32.not_le.mp c_9) hz98_3 (tA_rdc (lo := 0) (hi := 16) (tX_10 hT0) (rg_in (rg_c (v := 1) (lo := 1) (hi := 1) (by decide)) (by decide)) (show _ = 1 by decide) (by decide)) (by decide)) (by decide)).2; omega) (by rw [← hi]; exact c_13) (by rw [← (show r_14 = ndA A x1 x2 z98_3.toNatClampNeg from ndX hK (pkX_eq (hq_3 A hA hl) (Eq.trans (hLF_98.1 9 rfl (by decide)) (hLF_15.1 9 rfl (by decide)))) (rg_w (lo := 0) (hi := 15) (rn_ltu (u' := 15) (Int32.not_le.mp c_9) hz98_3 (tA_rdc (lo := 0) (hi := 16) (tX_10 hT0) (rg_in (rg_c (v := 1) (lo := 1) (hi := 1) (by decide)) (by decide)) (show _ = 1 by decide) (by decide)) (by decide)) (by decide)) hz1 hq_15)]; exact c_17) (by rw [show ga (C_27 24) = ga (C_20 24) from congrArg ga (th_un e_28 (by decide)), st_ga e_21, hi]) (by rw [st_ga e_28, show C_20 25 = K98 25 from th_un e_21 (by decide), show C_20 12 = K98 12 from th_un e_21 (by decide), hi, (show ga (K98 12) ((z98_3 * 10) + 6).toNatClampNeg = A 1 z98_3.toNatClampNeg 6 from bcX hK (rg_w (lo := 0) (hi := 15) (rn_ltu (u' := 15) (Int32.not_le.mp c_9) hz98_3 (tA_rdc (lo := 0) (hi := 16) (tX_10 hT0) (rg_in (rg_c (v := 1) (lo := 1) (hi := 1) (by decide)) (by decide)) (show _ = 1 by decide) (by decide)) (by decide)) (by decide)) hz1 ⟨by decide, by decide⟩)])) (by have h7 := Int32.lt_iff_toInt_lt.mp (Int32.not_le.mp c_9); have h8 : (z98_3 + 1).toInt = z98_3.toInt + 1 := oh_incr (rn_ltu (u' := 15) (Int32.not_le.mp c_9) hz98_3 (tA_rdc (lo := 0) (hi := 16) (tX_10 hT0) (rg_in (rg_c (v := 1) (lo := 1) (hi := 1) (by decide)) (by decide)) (show _ = 1 by decide) (by decide)) (by decide)) (by decide); omega) hT hF (fr_ste (fr_ste hLF_98 e_21 (by decide) (by decide)) e_28 (by decide) (by decide)) hP hD hS (lv_sub hl [0, 3, 4, 5] rfl)
            · refine lv_aload_n hx hb dX5_survey_157 rfl (lv_at hl 3 rfl) ?_
              refine va_get (D := D) (ci := 5) (v := .ref (a 24)) (C := RX5) (T := TX5) (N := 7) hx hb htg ig_5 hown hK hP 3 (oh_wg (by decide) (sX_3 hT)) rfl 2 (by decide) (htg _ q_170) (fun _ h9 => h9) rfl dX5_survey_158 ?_
              refine lv_iload hx hb dX5_survey_161 (lv_at hl 1 rfl) ?_
              refine lv_iconst (v := (-1)) hx hb dX5_survey_163 (by decide) ?_
              have n_30 : vp_in (ga (K98 12) ((z98_3 * 10) + 0).toNatClampNeg) 24 := (rg_in (tA_rdc (lo := 0) (hi := 23) (tX_12 t_8) (rg_in (rg_add (lo := 0) (hi := 150) (rg_mul (lo := 0) (hi := 150) (rn_ltu (u' := 15) (Int32.not_le.mp c_9) hz98_3 (tA_rdc (lo := 0) (hi := 16) (tX_10 hT0) (rg_in (rg_c (v := 1) (lo := 1) (hi := 1) (by decide)) (by decide)) (show _ = 1 by decide) (by decide)) (by decide)) (rg_c (v := 10) (lo := 10) (hi := 10) (by decide)) (by decide)) (rg_c (v := 0) (lo := 0) (hi := 0) (by decide)) (by decide)) (by decide)) (oh_col (W := 10) (rn_ltu (u' := 15) (Int32.not_le.mp c_9) hz98_3 (tA_rdc (lo := 0) (hi := 16) (tX_10 hT0) (rg_in (rg_c (v := 1) (lo := 1) (hi := 1) (by decide)) (by decide)) (show _ = 1 by decide) (by decide)) (by decide)) rfl (rg_c (v := 0) (lo := 0) (hi := 0) (by decide)) (by decide)) (by decide)) (by decide))
              refine th_iast (T := TyX a E) (Rl := fr [(9, 10), (24, 26)] [] C) hx hb hK hP hD hS 24 (by decide) (sX_24 hT) n_30 (hT.up 24 (tA_upd (tX_24 hT) tA_any)) (fr_st hF (by decide) (by decide)) dX5_survey_164 (fun C_31 H locs e_32 hT hF hP hD hS => ?_)
              have t_33 := hT
              refine lv_goto (tgt := 205) hx hb dX5_survey_165 (by decide) ?_
              refine lv_iinc (v := z98_3 + 1) (lv' := [(3, .int (z98_3 + 1)), (5, .int r_14), (4, .int (ga (K98 12) ((z98_3 * 10) + 0).toNatClampNeg)), (0, .ref (a 3)), (1, .int x1), (2, .int x2)]) hx hb dX5_survey_205 hl (k := 2) rfl (by rfl) (by decide) rfl (fun ls hl => ?_)
              refine lv_goto (tgt := 98) hx hb dX5_survey_208 (by decide) ?_
              exact ih_98 _ (hd_98 ▸ mu_up 16 (rn_ltu (u' := 15) (Int32.not_le.mp c_9) hz98_3 (tA_rdc (lo := 0) (hi := 16) (tX_10 hT0) (rg_in (rg_c (v := 1) (lo := 1) (hi := 1) (by decide)) (by decide)) (show _ = 1 by decide) (by decide)) (by decide)) (by decide)) C_31 (z98_3 + 1) _ _ ls rfl (rg_w (rg_add (lo := 1) (hi := 16) (rn_ltu (u' := 15) (Int32.not_le.mp c_9) hz98_3 (tA_rdc (lo := 0) (hi := 16) (tX_10 hT0) (rg_in (rg_c (v := 1) (lo := 1) (hi := 1) (by decide)) (by decide)) (show _ = 1 by decide) (by decide)) (by decide)) (rg_c (v := 1) (lo := 1) (hi := 1) (by decide)) (by decide)) (by decide)) (fun A hA hl => by have hK := (absX_eq (absX_eq (absX_eq hA (fr_all f_4 10 15 (by decide))) (fr_all hLF_15 10 15 (by decide))) (fr_all hLF_98 10 15 (by decide))); have hz1 : z98_3 < A 5 0 1 := oh_lte (Int32.not_le.mp c_9) (hA.1 1 (by decide)); have hrd : ga (K98 12) ((z98_3 * 10) + 0).toNatClampNeg = A 1 z98_3.toNatClampNeg 0 := bcX hK (rg_w (lo := 0) (hi := 15) (rn_ltu (u' := 15) (Int32.not_le.mp c_9) hz98_3 (tA_rdc (lo := 0) (hi := 16) (tX_10 hT0) (rg_in (rg_c (v := 1) (lo := 1) (hi := 1) (by decide)) (by decide)) (show _ = 1 by decide) (by decide)) (by decide)) (by decide)) hz1 ⟨by decide, by decide⟩; have hi : (ga (K98 12) ((z98_3 * 10) + 0).toNatClampNeg).toNatClampNeg = rdA A z98_3.toNatClampNeg := congrArg Int32.toNatClampNeg hrd; rw [(show (z98_3 + 1).toNatClampNeg = z98_3.toNatClampNeg + 1 from z_s15 (rg_w (lo := 0) (hi := 15) (rn_ltu (u' := 15) (Int32.not_le.mp c_9) hz98_3 (tA_rdc (lo := 0) (hi := 16) (tX_10 hT0) (rg_in (rg_c (v := 1) (lo := 1) (hi := 1) (by decide)) (by decide)) (show _ = 1 by decide) (by decide)) (by decide)) (by decide))), show C_31 25 = K98 25 from th_un e_32 (by decide)]; exact sv_2 (hx_98 A hA hl) (show z98_3.toNatClampNeg ≤ 16 by have h5 := oh_nat (rg_w (lo := 0) (hi := 15) (rn_ltu (u' := 15) (Int32.not_le.mp c_9) hz98_3 (tA_rdc (lo := 0) (hi := 16) (tX_10 hT0) (rg_in (rg_c (v := 1) (lo := 1) (hi := 1) (by decide)) (by decide)) (show _ = 1 by decide) (by decide)) (by decide)) (by decide)) (by decide); have h6 := (rg_w (lo := 0) (hi := 15) (rn_ltu (u' := 15) (Int32.not_le.mp c_9) hz98_3 (tA_rdc (lo := 0) (hi := 16) (tX_10 hT0) (rg_in (rg_c (v := 1) (lo := 1) (hi := 1) (by decide)) (by decide)) (show _ = 1 by decide) (by decide)) (by decide)) (by decide)).2; omega) (Or.inr (by rw [← (show r_14 = ndA A x1 x2 z98_3.toNatClampNeg from ndX hK (pkX_eq (hq_3 A hA hl) (Eq.trans (hLF_98.1 9 rfl (by decide)) (hLF_15.1 9 rfl (by decide)))) (rg_w (lo := 0) (hi := 15) (rn_ltu (u' := 15) (Int32.not_le.mp c_9) hz98_3 (tA_rdc (lo := 0) (hi := 16) (tX_10 hT0) (rg_in (rg_c (v := 1) (lo := 1) (hi := 1) (by decide)) (by decide)) (show _ = 1 by decide) (by decide)) (by decide)) (by decide)) hz1 hq_15)]; exact c_16)) (by rw [st_ga e_32, hi])) (by have h7 := Int32.lt_iff_toInt_lt.mp (Int32.not_le.mp c_9); have h8 : (z98_3 + 1).toInt = z98_3.toInt + 1 := oh_incr (rn_ltu (u' := 15) (Int32.not_le.mp c_9) hz98_3 (tA_rdc (lo := 0) (hi := 16) (tX_10 hT0) (rg_in (rg_c (v := 1) (lo := 1) (hi := 1) (by decide)) (by decide)) (show _ = 1 by decide) (by decide)) (by decide)) (by decide); omega) hT hF (fr_ste hLF_98 e_32 (by decide) (by decide)) hP hD hS (lv_sub hl [0, 3, 4, 5] rfl)
          · refine lv_iconst (v := 2) hx hb dX5_survey_133 (by decide) ?_
            refine lv_goto (tgt := 149) hx hb dX5_survey_134 (by decide) ?_
            refine lv_istore (lv' := [(5, .int 2), (4, .int (ga (K98 12) ((z98_3 * 10) + 0).toNatClampNeg)), (3, .int z98_3), (0, .ref (a 3)), (1, .int x1), (2, .int x2)]) hx hb dX5_survey_149 hl (by decide) rfl (fun ls hl => ?_)
            refine lv_iload hx hb dX5_survey_151 (lv_at hl 0 rfl) ?_
            refine lv_iconst (v := 2) hx hb dX5_survey_153 (by decide) ?_
            refine lv_icmp_ne (tgt := 168) hx hb dX5_survey_154 (by decide) (fun c => absurd (show (2 : Int32) = 2 from by decide) c) (fun _ => ?_)
            refine lv_aload_n hx hb dX5_survey_157 rfl (lv_at hl 3 rfl) ?_
            refine va_get (D := D) (ci := 5) (v := .ref (a 24)) (C := RX5) (T := TX5) (N := 7) hx hb htg ig_5 hown hK hP 3 (oh_wg (by decide) (sX_3 hT)) rfl 2 (by decide) (htg _ q_170) (fun _ h9 => h9) rfl dX5_survey_158 ?_
            refine lv_iload hx hb dX5_survey_161 (lv_at hl 1 rfl) ?_
            refine lv_iconst (v := (-1)) hx hb dX5_survey_163 (by decide) ?_
            have n_34 : vp_in (ga (K98 12) ((z98_3 * 10) + 0).toNatClampNeg) 24 := (rg_in (tA_rdc (lo := 0) (hi := 23) (tX_12 t_8) (rg_in (rg_add (lo := 0) (hi := 150) (rg_mul (lo := 0) (hi := 150) (rn_ltu (u' := 15) (Int32.not_le.mp c_9) hz98_3 (tA_rdc (lo := 0) (hi := 16) (tX_10 hT0) (rg_in (rg_c (v := 1) (lo := 1) (hi := 1) (by decide)) (by decide)) (show _ = 1 by decide) (by decide)) (by decide)) (rg_c (v := 10) (lo := 10) (hi := 10) (by decide)) (by decide)) (rg_c (v := 0) (lo := 0) (hi := 0) (by decide)) (by decide)) (by decide)) (oh_col (W := 10) (rn_ltu (u' := 15) (Int32.not_le.mp c_9) hz98_3 (tA_rdc (lo := 0) (hi := 16) (tX_10 hT0) (rg_in (rg_c (v := 1) (lo := 1) (hi := 1) (by decide)) (by decide)) (show _ = 1 by decide) (by decide)) (by decide)) rfl (rg_c (v := 0) (lo := 0) (hi := 0) (by decide)) (by decide)) (by decide)) (by decide))
            refine th_iast (T := TyX a E) (Rl := fr [(9, 10), (24, 26)] [] C) hx hb hK hP hD hS 24 (by decide) (sX_24 hT) n_34 (hT.up 24 (tA_upd (tX_24 hT) tA_any)) (fr_st hF (by decide) (by decide)) dX5_survey_164 (fun C_35 H locs e_36 hT hF hP hD hS => ?_)
            have t_37 := hT
            refine lv_goto (tgt := 205) hx hb dX5_survey_165 (by decide) ?_
            refine lv_iinc (v := z98_3 + 1) (lv' := [(3, .int (z98_3 + 1)), (5, .int 2), (4, .int (ga (K98 12) ((z98_3 * 10) + 0).toNatClampNeg)), (0, .ref (a 3)), (1, .int x1), (2, .int x2)]) hx hb dX5_survey_205 hl (k := 2) rfl (by rfl) (by decide) rfl (fun ls hl => ?_)
            refine lv_goto (tgt := 98) hx hb dX5_survey_208 (by decide) ?_
            exact ih_98 _ (hd_98 ▸ mu_up 16 (rn_ltu (u' := 15) (Int32.not_le.mp c_9) hz98_3 (tA_rdc (lo := 0) (hi := 16) (tX_10 hT0) (rg_in (rg_c (v := 1) (lo := 1) (hi := 1) (by decide)) (by decide)) (show _ = 1 by decide) (by decide)) (by decide)) (by decide)) C_35 (z98_3 + 1) _ _ ls rfl (rg_w (rg_add (lo := 1) (hi := 16) (rn_ltu (u' := 15) (Int32.not_le.mp c_9) hz98_3 (tA_rdc (lo := 0) (hi := 16) (tX_10 hT0) (rg_in (rg_c (v := 1) (lo := 1) (hi := 1) (by decide)) (by decide)) (show _ = 1 by decide) (by decide)) (by decide)) (rg_c (v := 1) (lo := 1) (hi := 1) (by decide)) (by decide)) (by decide)) (fun A hA hl => by have hK := (absX_eq (absX_eq (absX_eq hA (fr_all f_4 10 15 (by decide))) (fr_all hLF_15 10 15 (by decide))) (fr_all hLF_98 10 15 (by decide))); have hz1 : z98_3 < A 5 0 1 := oh_lte (Int32.not_le.mp c_9) (hA.1 1 (by decide)); have hrd : ga (K98 12) ((z98_3 * 10) + 0).toNatClampNeg = A 1 z98_3.toNatClampNeg 0 := bcX hK (rg_w (lo := 0) (hi := 15) (rn_ltu (u' := 15) (Int32.not_le.mp c_9) hz98_3 (tA_rdc (lo := 0) (hi := 16) (tX_10 hT0) (rg_in (rg_c (v := 1) (lo := 1) (hi := 1) (by decide)) (by decide)) (show _ = 1 by decide) (by decide)) (by decide)) (by decide)) hz1 ⟨by decide, by decide⟩; have hi : (ga (K98 12) ((z98_3 * 10) + 0).toNatClampNeg).toNatClampNeg = rdA A z98_3.toNatClampNeg := congrArg Int32.toNatClampNeg hrd; rw [(show (z98_3 + 1).toNatClampNeg = z98_3.toNatClampNeg + 1 from z_s15 (rg_w (lo := 0) (hi := 15) (rn_ltu (u' := 15) (Int32.not_le.mp c_9) hz98_3 (tA_rdc (lo := 0) (hi := 16) (tX_10 hT0) (rg_in (rg_c (v := 1) (lo := 1) (hi := 1) (by decide)) (by decide)) (show _ = 1 by decide) (by decide)) (by decide)) (by decide))), show C_35 25 = K98 25 from th_un e_36 (by decide)]; exact sv_2 (hx_98 A hA hl) (show z98_3.toNatClampNeg ≤ 16 by have h5 := oh_nat (rg_w (lo := 0) (hi := 15) (rn_ltu (u' := 15) (Int32.not_le.mp c_9) hz98_3 (tA_rdc (lo := 0) (hi := 16) (tX_10 hT0) (rg_in (rg_c (v := 1) (lo := 1) (hi := 1) (by decide)) (by decide)) (show _ = 1 by decide) (by decide)) (by decide)) (by decide)) (by decide); have h6 := (rg_w (lo := 0) (hi := 15) (rn_ltu (u' := 15) (Int32.not_le.mp c_9) hz98_3 (tA_rdc (lo := 0) (hi := 16) (tX_10 hT0) (rg_in (rg_c (v := 1) (lo := 1) (hi := 1) (by decide)) (by decide)) (show _ = 1 by decide) (by decide)) (by decide)) (by decide)).2; omega) (Or.inl (by rw [← hi]; exact c_13)) (by rw [st_ga e_36, hi])) (by have h7 := Int32.lt_iff_toInt_lt.mp (Int32.not_le.mp c_9); have h8 : (z98_3 + 1).toInt = z98_3.toInt + 1 := oh_incr (rn_ltu (u' := 15) (Int32.not_le.mp c_9) hz98_3 (tA_rdc (lo := 0) (hi := 16) (tX_10 hT0) (rg_in (rg_c (v := 1) (lo := 1) (hi := 1) (by decide)) (by decide)) (show _ = 1 by decide) (by decide)) (by decide)) (by decide); omega) hT hF (fr_ste hLF_98 e_36 (by decide) (by decide)) hP hD hS (lv_sub hl [0, 3, 4, 5] rfl)
      exact L_98 _ K15 0 _ _ ls rfl (rg_w (rg_c (v := 0) (lo := 0) (hi := 0) (by decide)) (by decide)) (fun A hA hl => sv_l1e (hx_15 A hA hl) (by rw [← hA.1 0 (by decide)]; exact rg_w (cntX 0 hT0 (by decide)) (by decide)) (by rw [← hA.1 0 (by decide)]; exact c_7)) (cntX 1 hT0 (by decide)).1 hT hF fr_rf hP hD hS (lv_sub hl [0, 1, 2, 3] rfl)
    · refine lv_aload_n hx hb dX5_survey_28 rfl (lv_at hl 1 rfl) ?_
      refine va_get (D := D) (ci := 5) (v := .ref (a 1)) (C := RX5) (T := TX5) (N := 7) hx hb htg ig_5 hown hK hP 3 (oh_wg (by decide) (sX_3 hT)) rfl 0 (by decide) (htg _ q_167) (fun _ h9 => h9) rfl dX5_survey_29 ?_
      refine lv_iload_n hx hb dX5_survey_32 rfl (lv_at hl 0 rfl) ?_
      refine lv_bipush (v := 6) hx hb dX5_survey_33 (by decide) ?_
      refine tq_V (As := [.int z15_3, .int 6]) (rest := []) (ws := (oh_W 35 a K15)) ⟨hx, hb, hml, hown, htg⟩ (c_X0_ofRoad l D E G a K15 hT z15_3 (6 : Int32) (rg_w (rn_ltu (u' := 23) (Int32.not_le.mp c_7) hz15_3 (tA_rdc (lo := 0) (hi := 24) (tX_10 hT0) (rg_in (rg_c (v := 0) (lo := 0) (hi := 0) (by decide)) (by decide)) (show _ = 0 by decide) (by decide)) (by decide)) (by decide)) (rg_w (rg_c (v := 6) (lo := 6) (hi := 6) (by decide)) (by decide))) (cwV 2 htg (oh_gV q_755 q_480 q_481 q_67 q_482) rfl rfl rfl pdVX0_ofRoad ⟨Nat.le_of_ble_eq_true rfl, Nat.le_of_ble_eq_true rfl⟩) hK hP hG hS (va_recv hK hP (ci := 0) (q0 := 1) rfl (oh_wg (by decide) (sX_1 hT))) rfl hl.1 rfl (Nat.le_of_ble_eq_true rfl) dX5_survey_35 ⟨Nat.le_of_ble_eq_true rfl, Nat.le_of_ble_eq_true rfl⟩ (fun r_38 hq_39 => ?_)
      subst hq_39
      refine lv_if_ne (tgt := 64) hx hb dX5_survey_38 (by decide) (fun (c_40 : ¬ ((ga (K15 11) ((z15_3 * 7) + 6).toNatClampNeg) = 0)) => ?_) (fun (c_40 : (ga (K15 11) ((z15_3 * 7) + 6).toNatClampNeg) = 0) => ?_)
      · refine lv_iconst (v := 0) hx hb dX5_survey_64 (by decide) ?_
        refine lv_istore (lv' := [(4, .int 0), (3, .int z15_3), (0, .ref (a 3)), (1, .int x1), (2, .int x2)]) hx hb dX5_survey_65 hl (by decide) rfl (fun ls hl => ?_)
        refine lv_aload_n hx hb dX5_survey_67 rfl (lv_at hl 2 rfl) ?_
        refine va_get (D := D) (ci := 5) (v := .ref (a 24)) (C := RX5) (T := TX5) (N := 7) hx hb htg ig_5 hown hK hP 3 (oh_wg (by decide) (sX_3 hT)) rfl 2 (by decide) (htg _ q_170) (fun _ h9 => h9) rfl dX5_survey_68 ?_
        refine lv_iload_n hx hb dX5_survey_71 rfl (lv_at hl 1 rfl) ?_
        refine lv_iload hx hb dX5_survey_72 (lv_at hl 0 rfl) ?_
        refine lv_if_eq (tgt := 81) hx hb dX5_survey_74 (by decide) (fun _ => ?_) (fun c => absurd (show (0 : Int32) = 0 from by decide) c)
        refine lv_iconst (v := (-1)) hx hb dX5_survey_81 (by decide) ?_
        have n_41 : vp_in z15_3 24 := (rg_in (rn_ltu (u' := 23) (Int32.not_le.mp c_7) hz15_3 (tA_rdc (lo := 0) (hi := 24) (tX_10 hT0) (rg_in (rg_c (v := 0) (lo := 0) (hi := 0) (by decide)) (by decide)) (show _ = 0 by decide) (by decide)) (by decide)) (by decide))
        refine th_iast (T := TyX a E) (Rl := fr [(9, 10), (24, 26)] [] C) hx hb hK hP hD hS 24 (by decide) (sX_24 hT) n_41 (hT.up 24 (tA_upd (tX_24 hT) tA_any)) (fr_st hF (by decide) (by decide)) dX5_survey_82 (fun C_42 H locs e_43 hT hF hP hD hS => ?_)
        have t_44 := hT
        refine lv_aload_n hx hb dX5_survey_83 rfl (lv_at hl 2 rfl) ?_
        refine va_get (D := D) (ci := 5) (v := .ref (a 25)) (C := RX5) (T := TX5) (N := 7) hx hb htg ig_5 hown hK hP 3 (oh_wg (by decide) (sX_3 hT)) rfl 3 (by decide) (htg _ q_172) (fun _ h9 => h9) rfl dX5_survey_84 ?_
        refine lv_iload_n hx hb dX5_survey_87 rfl (lv_at hl 1 rfl) ?_
        refine lv_iconst (v := 0) hx hb dX5_survey_88 (by decide) ?_
        have n_45 : vp_in z15_3 24 := (rg_in (rn_ltu (u' := 23) (Int32.not_le.mp c_7) hz15_3 (tA_rdc (lo := 0) (hi := 24) (tX_10 hT0) (rg_in (rg_c (v := 0) (lo := 0) (hi := 0) (by decide)) (by decide)) (show _ = 0 by decide) (by decide)) (by decide)) (by decide))
        refine th_iast (T := TyX a E) (Rl := fr [(9, 10), (24, 26)] [] C) hx hb hK hP hD hS 25 (by decide) (sX_25 hT) n_45 (hT.up 25 (tA_upd (tX_25 hT) tA_any)) (fr_st hF (by decide) (by decide)) dX5_survey_89 (fun C_46 H locs e_47 hT hF hP hD hS => ?_)
        have t_48 := hT
        refine lv_iinc (v := z15_3 + 1) (lv' := [(3, .int (z15_3 + 1)), (4, .int 0), (0, .ref (a 3)), (1, .int x1), (2, .int x2)]) hx hb dX5_survey_90 hl (k := 1) rfl (by rfl) (by decide) rfl (fun ls hl => ?_)
        refine lv_goto (tgt := 15) hx hb dX5_survey_93 (by decide) ?_
        exact ih_15 _ (hd_15 ▸ mu_up 24 (rn_ltu (u' := 23) (Int32.not_le.mp c_7) hz15_3 (tA_rdc (lo := 0) (hi := 24) (tX_10 hT0) (rg_in (rg_c (v := 0) (lo := 0) (hi := 0) (by decide)) (by decide)) (show _ = 0 by decide) (by decide)) (by decide)) (by decide)) C_46 (z15_3 + 1) _ _ ls rfl (rg_w (rg_add (lo := 1) (hi := 24) (rn_ltu (u' := 23) (Int32.not_le.mp c_7) hz15_3 (tA_rdc (lo := 0) (hi := 24) (tX_10 hT0) (rg_in (rg_c (v := 0) (lo := 0) (hi := 0) (by decide)) (by decide)) (show _ = 0 by decide) (by decide)) (by decide)) (rg_c (v := 1) (lo := 1) (hi := 1) (by decide)) (by decide)) (by decide)) (fun A hA hl => by have hK := (absX_eq (absX_eq hA (fr_all f_4 10 15 (by decide))) (fr_all hLF_15 10 15 (by decide))); exact sv_l1 (rg_w (lo := 0) (hi := 23) (rn_ltu (u' := 23) (Int32.not_le.mp c_7) hz15_3 (tA_rdc (lo := 0) (hi := 24) (tX_10 hT0) (rg_in (rg_c (v := 0) (lo := 0) (hi := 0) (by decide)) (by decide)) (show _ = 0 by decide) (by decide)) (by decide)) (by decide)) (hx_15 A hA hl) (Eq.trans (congrArg ga (th_un e_47 (by decide))) (st_ga e_43)) (by rw [st_ga e_47, show C_42 25 = K15 25 from th_un e_43 (by decide)]) (pif_neg (fun h8 => c_40 (Eq.trans (show ga (K15 11) ((z15_3 * 7) + 6).toNatClampNeg = A 0 z15_3.toNatClampNeg 6 from rcX hK (rg_w (lo := 0) (hi := 23) (rn_ltu (u' := 23) (Int32.not_le.mp c_7) hz15_3 (tA_rdc (lo := 0) (hi := 24) (tX_10 hT0) (rg_in (rg_c (v := 0) (lo := 0) (hi := 0) (by decide)) (by decide)) (show _ = 0 by decide) (by decide)) (by decide)) (by decide)) (show z15_3 < A 5 0 0 from oh_lte (Int32.not_le.mp c_7) (hA.1 0 (by decide))) ⟨by decide, by decide⟩) h8.1))).symm) hT hF (fr_ste (fr_ste hLF_15 e_43 (by decide) (by decide)) e_47 (by decide) (by decide)) hP hD hS (lv_sub hl [0, 2, 3, 4] rfl)
      · refine lv_aload_n hx hb dX5_survey_41 rfl (lv_at hl 1 rfl) ?_
        refine va_get (D := D) (ci := 5) (v := .ref (a 1)) (C := RX5) (T := TX5) (N := 7) hx hb htg ig_5 hown hK hP 3 (oh_wg (by decide) (sX_3 hT)) rfl 0 (by decide) (htg _ q_167) (fun _ h9 => h9) rfl dX5_survey_42 ?_
        refine lv_iload_n hx hb dX5_survey_45 rfl (lv_at hl 0 rfl) ?_
        refine lv_iconst (v := 4) hx hb dX5_survey_46 (by decide) ?_
        refine tq_V (As := [.int z15_3, .int 4]) (rest := []) (ws := (oh_W 35 a K15)) ⟨hx, hb, hml, hown, htg⟩ (c_X0_ofRoad l D E G a K15 hT z15_3 (4 : Int32) (rg_w (rn_ltu (u' := 23) (Int32.not_le.mp c_7) hz15_3 (tA_rdc (lo := 0) (hi := 24) (tX_10 hT0) (rg_in (rg_c (v := 0) (lo := 0) (hi := 0) (by decide)) (by decide)) (show _ = 0 by decide) (by decide)) (by decide)) (by decide)) (rg_w (rg_c (v := 4) (lo := 4) (hi := 4) (by decide)) (by decide))) (cwV 2 htg (oh_gV q_755 q_480 q_481 q_67 q_482) rfl rfl rfl pdVX0_ofRoad ⟨Nat.le_of_ble_eq_true rfl, Nat.le_of_ble_eq_true rfl⟩) hK hP hG hS (va_recv hK hP (ci := 0) (q0 := 1) rfl (oh_wg (by decide) (sX_1 hT))) rfl hl.1 rfl (Nat.le_of_ble_eq_true rfl) dX5_survey_47 ⟨Nat.le_of_ble_eq_true rfl, Nat.le_of_ble_eq_true rfl⟩ (fun r_49 hq_50 => ?_)
        subst hq_50
        refine lv_aload_n hx hb dX5_survey_50 rfl (lv_at hl 1 rfl) ?_
        refine va_get (D := D) (ci := 5) (v := .ref (a 9)) (C := RX5) (T := TX5) (N := 7) hx hb htg ig_5 hown hK hP 3 (oh_wg (by decide) (sX_3 hT)) rfl 1 (by decide) (htg _ q_168) (fun _ h9 => h9) rfl dX5_survey_51 ?_
        refine va_get (D := D) (ci := 1) (v := .int (gi (C_2 9) 2)) (C := RX1) (T := TX1) (N := 5) hx hb htg ig_1 hown hK hP 9 (oh_wg (by decide) (sX_9 hT)) rfl 2 (by decide) (htg _ q_148) (fun _ h9 => h9) (oh_fv (c := K15 9) (j := 2) rfl (congrArg (fun z => gi z 2) (hLF_15.1 9 rfl (by decide)))) dX5_survey_54 ?_
        refine lv_icmp_lt (tgt := 64) hx hb dX5_survey_57 (by decide) (fun (c_51 : (ga (K15 11) ((z15_3 * 7) + 4).toNatClampNeg) < (gi (C_2 9) 2)) => ?_) (fun (c_51 : ¬ ((ga (K15 11) ((z15_3 * 7) + 4).toNatClampNeg) < (gi (C_2 9) 2))) => ?_)
        · refine lv_iconst (v := 0) hx hb dX5_survey_64 (by decide) ?_
          refine lv_istore (lv' := [(4, .int 0), (3, .int z15_3), (0, .ref (a 3)), (1, .int x1), (2, .int x2)]) hx hb dX5_survey_65 hl (by decide) rfl (fun ls hl => ?_)
          refine lv_aload_n hx hb dX5_survey_67 rfl (lv_at hl 2 rfl) ?_
          refine va_get (D := D) (ci := 5) (v := .ref (a 24)) (C := RX5) (T := TX5) (N := 7) hx hb htg ig_5 hown hK hP 3 (oh_wg (by decide) (sX_3 hT)) rfl 2 (by decide) (htg _ q_170) (fun _ h9 => h9) rfl dX5_survey_68 ?_
          refine lv_iload_n hx hb dX5_survey_71 rfl (lv_at hl 1 rfl) ?_
          refine lv_iload hx hb dX5_survey_72 (lv_at hl 0 rfl) ?_
          refine lv_if_eq (tgt := 81) hx hb dX5_survey_74 (by decide) (fun _ => ?_) (fun c => absurd (show (0 : Int32) = 0 from by decide) c)
          refine lv_iconst (v := (-1)) hx hb dX5_survey_81 (by decide) ?_
          have n_52 : vp_in z15_3 24 := (rg_in (rn_ltu (u' := 23) (Int32.not_le.mp c_7) hz15_3 (tA_rdc (lo := 0) (hi := 24) (tX_10 hT0) (rg_in (rg_c (v := 0) (lo := 0) (hi := 0) (by decide)) (by decide)) (show _ = 0 by decide) (by decide)) (by decide)) (by decide))
          refine th_iast (T := TyX a E) (Rl := fr [(9, 10), (24, 26)] [] C) hx hb hK hP hD hS 24 (by decide) (sX_24 hT) n_52 (hT.up 24 (tA_upd (tX_24 hT) tA_any)) (fr_st hF (by decide) (by decide)) dX5_survey_82 (fun C_53 H locs e_54 hT hF hP hD hS => ?_)
          have t_55 := hT
          refine lv_aload_n hx hb dX5_survey_83 rfl (lv_at hl 2 rfl) ?_
          refine va_get (D := D) (ci := 5) (v := .ref (a 25)) (C := RX5) (T := TX5) (N := 7) hx hb htg ig_5 hown hK hP 3 (oh_wg (by decide) (sX_3 hT)) rfl 3 (by decide) (htg _ q_172) (fun _ h9 => h9) rfl dX5_survey_84 ?_
          refine lv_iload_n hx hb dX5_survey_87 rfl (lv_at hl 1 rfl) ?_
          refine lv_iconst (v := 0) hx hb dX5_survey_88 (by decide) ?_
          have n_56 : vp_in z15_3 24 := (rg_in (rn_ltu (u' := 23) (Int32.not_le.mp c_7) hz15_3 (tA_rdc (lo := 0) (hi := 24) (tX_10 hT0) (rg_in (rg_c (v := 0) (lo := 0) (hi := 0) (by decide)) (by decide)) (show _ = 0 by decide) (by decide)) (by decide)) (by decide))
          refine th_iast (T := TyX a E) (Rl := fr [(9, 10), (24, 26)] [] C) hx hb hK hP hD hS 25 (by decide) (sX_25 hT) n_56 (hT.up 25 (tA_upd (tX_25 hT) tA_any)) (fr_st hF (by decide) (by decide)) dX5_survey_89 (fun C_57 H locs e_58 hT hF hP hD hS => ?_)
          have t_59 := hT
          refine lv_iinc (v := z15_3 + 1) (lv' := [(3, .int (z15_3 + 1)), (4, .int 0), (0, .ref (a 3)), (1, .int x1), (2, .int x2)]) hx hb dX5_survey_90 hl (k := 1) rfl (by rfl) (by decide) rfl (fun ls hl => ?_)
          refine lv_goto (tgt := 15) hx hb dX5_survey_93 (by decide) ?_
          exact ih_15 _ (hd_15 ▸ mu_up 24 (rn_ltu (u' := 23) (Int32.not_le.mp c_7) hz15_3 (tA_rdc (lo := 0) (hi := 24) (tX_10 hT0) (rg_in (rg_c (v := 0) (lo := 0) (hi := 0) (by decide)) (by decide)) (show _ = 0 by decide) (by decide)) (by decide)) (by decide)) C_57 (z15_3 + 1) _ _ ls rfl (rg_w (rg_add (lo := 1) (hi := 24) (rn_ltu (u' := 23) (Int32.not_le.mp c_7) hz15_3 (tA_rdc (lo := 0) (hi := 24) (tX_10 hT0) (rg_in (rg_c (v := 0) (lo := 0) (hi := 0) (by decide)) (by decide)) (show _ = 0 by decide) (by decide)) (by decide)) (rg_c (v := 1) (lo := 1) (hi := 1) (by decide)) (by decide)) (by decide)) (fun A hA hl => by have hK := (absX_eq (absX_eq hA (fr_all f_4 10 15 (by decide))) (fr_all hLF_15 10 15 (by decide))); exact sv_l1 (rg_w (lo := 0) (hi := 23) (rn_ltu (u' := 23) (Int32.not_le.mp c_7) hz15_3 (tA_rdc (lo := 0) (hi := 24) (tX_10 hT0) (rg_in (rg_c (v := 0) (lo := 0) (hi := 0) (by decide)) (by decide)) (show _ = 0 by decide) (by decide)) (by decide)) (by decide)) (hx_15 A hA hl) (Eq.trans (congrArg ga (th_un e_58 (by decide))) (st_ga e_54)) (by rw [st_ga e_58, show C_53 25 = K15 25 from th_un e_54 (by decide)]) (pif_neg (fun h8 => absurd h8.2 (Int32.not_le.mpr (by rw [← (show ga (K15 11) ((z15_3 * 7) + 4).toNatClampNeg = A 0 z15_3.toNatClampNeg 4 from rcX hK (rg_w (lo := 0) (hi := 23) (rn_ltu (u' := 23) (Int32.not_le.mp c_7) hz15_3 (tA_rdc (lo := 0) (hi := 24) (tX_10 hT0) (rg_in (rg_c (v := 0) (lo := 0) (hi := 0) (by decide)) (by decide)) (show _ = 0 by decide) (by decide)) (by decide)) (by decide)) (show z15_3 < A 5 0 0 from oh_lte (Int32.not_le.mp c_7) (hA.1 0 (by decide))) ⟨by decide, by decide⟩), ← (show gi (C_2 9) 2 = lenA A x1 from (hq_3 A hA hl).2.2.1)]; exact c_51)))).symm) hT hF (fr_ste (fr_ste hLF_15 e_54 (by decide) (by decide)) e_58 (by decide) (by decide)) hP hD hS (lv_sub hl [0, 2, 3, 4] rfl)
        · refine lv_iconst (v := 1) hx hb dX5_survey_60 (by decide) ?_
          refine lv_goto (tgt := 65) hx hb dX5_survey_61 (by decide) ?_
          refine lv_istore (lv' := [(4, .int 1), (3, .int z15_3), (0, .ref (a 3)), (1, .int x1), (2, .int x2)]) hx hb dX5_survey_65 hl (by decide) rfl (fun ls hl => ?_)
          refine lv_aload_n hx hb dX5_survey_67 rfl (lv_at hl 2 rfl) ?_
          refine va_get (D := D) (ci := 5) (v := .ref (a 24)) (C := RX5) (T := TX5) (N := 7) hx hb htg ig_5 hown hK hP 3 (oh_wg (by decide) (sX_3 hT)) rfl 2 (by decide) (htg _ q_170) (fun _ h9 => h9) rfl dX5_survey_68 ?_
          refine lv_iload_n hx hb dX5_survey_71 rfl (lv_at hl 1 rfl) ?_
          refine lv_iload hx hb dX5_survey_72 (lv_at hl 0 rfl) ?_
          refine lv_if_eq (tgt := 81) hx hb dX5_survey_74 (by decide) (fun c => absurd c (show ¬ ((1 : Int32) = 0) from by decide)) (fun _ => ?_)
          refine lv_iconst (v := 0) hx hb dX5_survey_77 (by decide) ?_
          refine lv_goto (tgt := 82) hx hb dX5_survey_78 (by decide) ?_
          have n_60 : vp_in z15_3 24 := (rg_in (rn_ltu (u' := 23) (Int32.not_le.mp c_7) hz15_3 (tA_rdc (lo := 0) (hi := 24) (tX_10 hT0) (rg_in (rg_c (v := 0) (lo := 0) (hi := 0) (by decide)) (by decide)) (show _ = 0 by decide) (by decide)) (by decide)) (by decide))
          refine th_iast (T := TyX a E) (Rl := fr [(9, 10), (24, 26)] [] C) hx hb hK hP hD hS 24 (by decide) (sX_24 hT) n_60 (hT.up 24 (tA_upd (tX_24 hT) tA_any)) (fr_st hF (by decide) (by decide)) dX5_survey_82 (fun C_61 H locs e_62 hT hF hP hD hS => ?_)
          have t_63 := hT
          refine lv_aload_n hx hb dX5_survey_83 rfl (lv_at hl 2 rfl) ?_
          refine va_get (D := D) (ci := 5) (v := .ref (a 25)) (C := RX5) (T := TX5) (N := 7) hx hb htg ig_5 hown hK hP 3 (oh_wg (by decide) (sX_3 hT)) rfl 3 (by decide) (htg _ q_172) (fun _ h9 => h9) rfl dX5_survey_84 ?_
          refine lv_iload_n hx hb dX5_survey_87 rfl (lv_at hl 1 rfl) ?_
          refine lv_iconst (v := 0) hx hb dX5_survey_88 (by decide) ?_
          have n_64 : vp_in z15_3 24 := (rg_in (rn_ltu (u' := 23) (Int32.not_le.mp c_7) hz15_3 (tA_rdc (lo := 0) (hi := 24) (tX_10 hT0) (rg_in (rg_c (v := 0) (lo := 0) (hi := 0) (by decide)) (by decide)) (show _ = 0 by decide) (by decide)) (by decide)) (by decide))
          refine th_iast (T := TyX a E) (Rl := fr [(9, 10), (24, 26)] [] C) hx hb hK hP hD hS 25 (by decide) (sX_25 hT) n_64 (hT.up 25 (tA_upd (tX_25 hT) tA_any)) (fr_st hF (by decide) (by decide)) dX5_survey_89 (fun C_65 H locs e_66 hT hF hP hD hS => ?_)
          have t_67 := hT
          refine lv_iinc (v := z15_3 + 1) (lv' := [(3, .int (z15_3 + 1)), (4, .int 1), (0, .ref (a 3)), (1, .int x1), (2, .int x2)]) hx hb dX5_survey_90 hl (k := 1) rfl (by rfl) (by decide) rfl (fun ls hl => ?_)
          refine lv_goto (tgt := 15) hx hb dX5_survey_93 (by decide) ?_
          exact ih_15 _ (hd_15 ▸ mu_up 24 (rn_ltu (u' := 23) (Int32.not_le.mp c_7) hz15_3 (tA_rdc (lo := 0) (hi := 24) (tX_10 hT0) (rg_in (rg_c (v := 0) (lo := 0) (hi := 0) (by decide)) (by decide)) (show _ = 0 by decide) (by decide)) (by decide)) (by decide)) C_65 (z15_3 + 1) _ _ ls rfl (rg_w (rg_add (lo := 1) (hi := 24) (rn_ltu (u' := 23) (Int32.not_le.mp c_7) hz15_3 (tA_rdc (lo := 0) (hi := 24) (tX_10 hT0) (rg_in (rg_c (v := 0) (lo := 0) (hi := 0) (by decide)) (by decide)) (show _ = 0 by decide) (by decide)) (by decide)) (rg_c (v := 1) (lo := 1) (hi := 1) (by decide)) (by decide)) (by decide)) (fun A hA hl => by have hK := (absX_eq (absX_eq hA (fr_all f_4 10 15 (by decide))) (fr_all hLF_15 10 15 (by decide))); exact sv_l1 (rg_w (lo := 0) (hi := 23) (rn_ltu (u' := 23) (Int32.not_le.mp c_7) hz15_3 (tA_rdc (lo := 0) (hi := 24) (tX_10 hT0) (rg_in (rg_c (v := 0) (lo := 0) (hi := 0) (by decide)) (by decide)) (show _ = 0 by decide) (by decide)) (by decide)) (by decide)) (hx_15 A hA hl) (Eq.trans (congrArg ga (th_un e_66 (by decide))) (st_ga e_62)) (by rw [st_ga e_66, show C_61 25 = K15 25 from th_un e_62 (by decide)]) (pif_pos ⟨Eq.trans (show ga (K15 11) ((z15_3 * 7) + 6).toNatClampNeg = A 0 z15_3.toNatClampNeg 6 from rcX hK (rg_w (lo := 0) (hi := 23) (rn_ltu (u' := 23) (Int32.not_le.mp c_7) hz15_3 (tA_rdc (lo := 0) (hi := 24) (tX_10 hT0) (rg_in (rg_c (v := 0) (lo := 0) (hi := 0) (by decide)) (by decide)) (show _ = 0 by decide) (by decide)) (by decide)) (by decide)) (show z15_3 < A 5 0 0 from oh_lte (Int32.not_le.mp c_7) (hA.1 0 (by decide))) ⟨by decide, by decide⟩).symm c_40, (by rw [← (show ga (K15 11) ((z15_3 * 7) + 4).toNatClampNeg = A 0 z15_3.toNatClampNeg 4 from rcX hK (rg_w (lo := 0) (hi := 23) (rn_ltu (u' := 23) (Int32.not_le.mp c_7) hz15_3 (tA_rdc (lo := 0) (hi := 24) (tX_10 hT0) (rg_in (rg_c (v := 0) (lo := 0) (hi := 0) (by decide)) (by decide)) (show _ = 0 by decide) (by decide)) (by decide)) (by decide)) (show z15_3 < A 5 0 0 from oh_lte (Int32.not_le.mp c_7) (hA.1 0 (by decide))) ⟨by decide, by decide⟩), ← (show gi (C_2 9) 2 = lenA A x1 from (hq_3 A hA hl).2.2.1)]; exact (Int32.not_lt.mp c_51))⟩).symm) hT hF (fr_ste (fr_ste hLF_15 e_62 (by decide) (by decide)) e_66 (by decide) (by decide)) hP hD hS (lv_sub hl [0, 2, 3, 4] rfl)
  exact L_15 _ C_2 0 _ _ ls rfl (rg_w (rg_c (v := 0) (lo := 0) (hi := 0) (by decide)) (by decide)) (fun A hA hl r hr => absurd hr (by show ¬ (r : Int) < 0; omega)) hT hF fr_rf hP hD hS (lv_sub hl [0, 1, 2, 3] rfl)
/-! WAYS: the least sums over roads; E u v e: a road that goes leads from u to v and costs e -/
abbrev Ed := Nat → Nat → Nat → Prop
/-- a walk of k roads from s to p, and its sum -/
def Wk (E : Ed) (s : Nat) : Nat → Nat → Nat → Prop
  | 0, p, d => p = s ∧ d = 0
  | k + 1, p, d => ∃ q c e, Wk E s k q c ∧ E q p e ∧ d = c + e
def Rch (E : Ed) (s p d : Nat) : Prop := ∃ k, Wk E s k p d
def Ls (E : Ed) (s p d : Nat) : Prop := Rch E s p d ∧ ∀ d', Rch E s p d' → d ≤ d'
theorem rch_0 (E : Ed) (s : Nat) : Rch E s s 0 := ⟨0, rfl, rfl⟩
theorem rch_s {E : Ed} {s q p c e : Nat} (h : Rch E s q c) (he : E q p e) : Rch E s p (c + e) := by
  obtain ⟨k, hk⟩ := h
  exact ⟨k + 1, q, c, e, hk, he, rfl⟩
theorem ls_eq {E : Ed} {s p c d : Nat} (h : Ls E s p c) (g : Ls E s p d) : c = d := Nat.le_antisymm (h.2 d g.1) (g.2 c h.1)
theorem ls_0 (E : Ed) (s : Nat) : Ls E s s 0 := ⟨rch_0 E s, fun _ _ => Nat.zero_le _⟩
theorem ls_ex {E : Ed} {s p : Nat} : ∀ d, Rch E s p d → ∃ c, Ls E s p c := by
  intro d
  induction d using Nat.strongRecOn with
  | ind d ih =>
  intro h
  by_cases q : ∃ d', Rch E s p d' ∧ d' < d
  · obtain ⟨d', h1, h2⟩ := q
    exact ih d' h2 h1
  · exact ⟨d, h, fun d' h1 => Nat.not_lt.mp (fun h2 => q ⟨d', h1, h2⟩)⟩
/-- from what F has to what it hasn't a least walk goes by one road -/
theorem ls_edge {E : Ed} {s : Nat} {F : Nat → Prop} (hs : F s) : ∀ k p d, Wk E s k p d → (∀ d', Rch E s p d' → d ≤ d') → ¬ F p → ∃ u v c e, F u ∧ ¬ F v ∧ Ls E s u c ∧ E u v e ∧ Ls E s v (c + e) := by
  intro k
  induction k with
  | zero =>
    intro p d h _ hn
    exact absurd (h.1 ▸ hs) hn
  | succ k ih =>
    intro p d h hm hn
    obtain ⟨q, c, e, hk, he, rfl⟩ := h
    have hq : ∀ c', Rch E s q c' → c ≤ c' := fun c' hc => by
      have := hm _ (rch_s hc he)
      omega
    by_cases w : F q
    · exact ⟨q, p, c, e, w, hn, ⟨⟨k, hk⟩, hq⟩, he, ⟨⟨k + 1, q, c, e, hk, he, rfl⟩, hm⟩⟩
    · exact ih q c hk hq w
theorem ls_edge' {E : Ed} {s p d : Nat} {F : Nat → Prop} (hs : F s) (h : Ls E s p d) (hn : ¬ F p) : ∃ u v c e, F u ∧ ¬ F v ∧ Ls E s u c ∧ E u v e ∧ Ls E s v (c + e) := by
  obtain ⟨⟨k, hk⟩, hm⟩ := h
  exact ls_edge hs k p d hk hm hn
/-- how many below n are of a sort -/
noncomputable def cntP (F : Nat → Prop) : Nat → Nat
  | 0 => 0
  | n + 1 => cntP F n + pif (F n) 1 0
theorem cntP_le (F : Nat → Prop) : ∀ n, cntP F n ≤ n := by
  intro n
  induction n with
  | zero => exact Nat.le_refl _
  | succ n ih =>
    show cntP F n + pif (F n) 1 0 ≤ n + 1
    by_cases q : F n
    · rw [pif_pos q]
      omega
    · rw [pif_neg q]
      omega
theorem cntP_mono {F G : Nat → Prop} : ∀ n, (∀ i, i < n → F i → G i) → cntP F n ≤ cntP G n := by
  intro n
  induction n with
  | zero => exact fun _ => Nat.le_refl _
  | succ n ih =>
    intro h
    have h1 := ih (fun i hi => h i (by omega))
    show cntP F n + pif (F n) 1 0 ≤ cntP G n + pif (G n) 1 0
    by_cases q : F n
    · rw [pif_pos q, pif_pos (h n (by omega) q)]
      omega
    · rw [pif_neg q]
      omega
theorem cntP_lt {F G : Nat → Prop} {v : Nat} (hv : ¬ F v) (hg : G v) : ∀ n, v < n → (∀ i, i < n → F i → G i) → cntP F n < cntP G n := by
  intro n
  induction n with
  | zero => exact fun h _ => absurd h (Nat.not_lt_zero v)
  | succ n ih =>
    intro hn h
    show cntP F n + pif (F n) 1 0 < cntP G n + pif (G n) 1 0
    by_cases w : v = n
    · subst w
      rw [pif_neg hv, pif_pos hg]
      have := cntP_mono v (fun i hi => h i (by omega))
      omega
    · have h1 := ih (by omega) (fun i hi => h i (by omega))
      by_cases q : F n
      · rw [pif_pos q, pif_pos (h n (by omega) q)]
        omega
      · rw [pif_neg q]
        omega
theorem cntP_pos {F : Nat → Prop} {v : Nat} (hv : F v) : ∀ n, v < n → 0 < cntP F n := by
  intro n
  induction n with
  | zero => exact fun h => absurd h (Nat.not_lt_zero v)
  | succ n ih =>
    intro hn
    show 0 < cntP F n + pif (F n) 1 0
    by_cases w : v = n
    · subst w
      rw [pif_pos hv]
      omega
    · have := ih (by omega)
      omega
/-- no least sum is greater than 15 roads' -/
theorem ls_bnd {E : Ed} {s M : Nat} (hE : ∀ u v e, E u v e → v < 16 ∧ e ≤ M) (hs : s < 16) : ∀ p d, p < 16 → Ls E s p d → d ≤ 15 * M := by
  have key : ∀ k, k < cntP (fun i => ∀ d, Ls E s i d → d ≤ k * M) 16 ∨ ∀ p, p < 16 → ∀ d, Ls E s p d → d ≤ k * M := by
    intro k
    induction k with
    | zero => exact Or.inl (cntP_pos (v := s) (fun d h => by rw [ls_eq h (ls_0 E s)]; exact Nat.zero_le _) 16 hs)
    | succ k ih =>
      have mono : k * M ≤ (k + 1) * M := Nat.mul_le_mul_right M (Nat.le_succ k)
      by_cases q : ∀ p, p < 16 → ∀ d, Ls E s p d → d ≤ k * M
      · exact Or.inr (fun p hp d h => Nat.le_trans (q p hp d h) mono)
      · have ih := ih.resolve_right q
        have q2 : ∃ p, ¬ ∀ d, Ls E s p d → d ≤ k * M := Classical.byContradiction (fun w => q (fun p _ => Classical.byContradiction (fun z => w ⟨p, z⟩)))
        obtain ⟨p, hp⟩ := q2
        have q3 : ∃ d, Ls E s p d := Classical.byContradiction (fun w => hp (fun d h => absurd ⟨d, h⟩ w))
        obtain ⟨d, hd⟩ := q3
        obtain ⟨u, v, c, e, fu, fv, lu, ed, lv⟩ := ls_edge' (F := fun i => ∀ d, Ls E s i d → d ≤ k * M) (fun d h => by rw [ls_eq h (ls_0 E s)]; exact Nat.zero_le _) hd hp
        have h1 := hE u v e ed
        have g : ∀ d, Ls E s v d → d ≤ (k + 1) * M := fun d h => by
          rw [ls_eq h lv, Nat.add_mul, Nat.one_mul]
          have := fu c lu
          have := h1.2
          omega
        have := cntP_lt (F := fun i => ∀ d, Ls E s i d → d ≤ k * M) (G := fun i => ∀ d, Ls E s i d → d ≤ (k + 1) * M) fv g 16 h1.1 (fun i _ h d hd => Nat.le_trans (h d hd) mono)
        exact Or.inl (by omega)
  intro p d hp h
  rcases key 15 with q | q
  · by_cases w : ∀ d, Ls E s p d → d ≤ 15 * M
    · exact w d h
    · have h2 := cntP_lt (F := fun i => ∀ d, Ls E s i d → d ≤ 15 * M) (G := fun _ => True) w trivial 16 hp (fun _ _ _ => trivial)
      have h3 := cntP_le (fun _ => True) 16
      omega
  · exact q p hp d h
/-- a state of the search: what stands there is the sum of a walk -/
def Snd (E : Ed) (s I : Nat) (f : Nat → Nat) : Prop := ∀ p, p < 16 → f p = I ∨ (f p < I ∧ Rch E s p (f p))
/-- no walk is less -/
def FdW (E : Ed) (s : Nat) (f : Nat → Nat) (p : Nat) : Prop := ∀ d, Ls E s p d → f p ≤ d
/-- after k rounds -/
def Lv (E : Ed) (s : Nat) (f : Nat → Nat) (k : Nat) : Prop := k < cntP (FdW E s f) 16 ∨ ∀ p, p < 16 → FdW E s f p
/-- the search is at its end -/
def Dn (E : Ed) (s I : Nat) (f : Nat → Nat) : Prop := ∀ p, p < 16 → (∀ d, Ls E s p d → f p = d) ∧ ((∀ d, ¬ Ls E s p d) → f p = I)
theorem lv_0 {E : Ed} {s : Nat} {f : Nat → Nat} (hs : s < 16) (h : f s = 0) : Lv E s f 0 := Or.inl (cntP_pos (v := s) (fun d _ => by rw [h]; exact Nat.zero_le d) 16 hs)
theorem lv_16 {E : Ed} {s k : Nat} {f : Nat → Nat} (h : Lv E s f k) (hk : 16 ≤ k) : ∀ p, p < 16 → FdW E s f p := by
  rcases h with h | h
  · have := cntP_le (FdW E s f) 16
    omega
  · exact h
theorem dn_of {E : Ed} {s I : Nat} {f : Nat → Nat} (h : Snd E s I f) (g : ∀ p, p < 16 → FdW E s f p) (hI : ∀ p d, p < 16 → Ls E s p d → d < I) : Dn E s I f := by
  intro p hp
  refine ⟨fun d hd => ?_, fun hn => ?_⟩
  · have h1 := g p hp d hd
    rcases h p hp with q | q
    · have := hI p d hp hd
      omega
    · exact Nat.le_antisymm h1 (hd.2 _ q.2)
  · rcases h p hp with q | q
    · exact q
    · obtain ⟨c, hc⟩ := ls_ex _ q.2
      exact absurd hc (hn c)
/-- one round over all roads: what stands there after it is no more than by any road from what stood there ahead -/
def Rlx (E : Ed) (I : Nat) (f g : Nat → Nat) : Prop := (∀ p, p < 16 → g p ≤ f p) ∧ ∀ u v e, E u v e → f u < I → g v ≤ f u + e
theorem lv_s {E : Ed} {s I k : Nat} {f g : Nat → Nat} (hE : ∀ u v e, E u v e → u < 16 ∧ v < 16) (hI : ∀ p d, p < 16 → Ls E s p d → d < I) (h0 : f s = 0) (h : Lv E s f k) (r : Rlx E I f g) : Lv E s g (k + 1) := by
  have up : ∀ p, p < 16 → FdW E s f p → FdW E s g p := fun p hp hf d hd => Nat.le_trans (r.1 p hp) (hf d hd)
  by_cases q : ∀ p, p < 16 → FdW E s f p
  · exact Or.inr (fun p hp => up p hp (q p hp))
  · have h := h.resolve_right q
    have q2 : ∃ p, ¬ FdW E s f p := Classical.byContradiction (fun w => q (fun p _ => Classical.byContradiction (fun z => w ⟨p, z⟩)))
    obtain ⟨p, hp⟩ := q2
    have q3 : ∃ d, Ls E s p d := Classical.byContradiction (fun w => hp (fun d h => absurd ⟨d, h⟩ w))
    obtain ⟨d, hd⟩ := q3
    obtain ⟨u, v, c, e, fu, fv, lu, ed, lv⟩ := ls_edge' (F := FdW E s f) (fun d _ => by rw [h0]; exact Nat.zero_le d) hd hp
    have h1 := hE u v e ed
    have h2 := fu c lu
    have h3 := hI u c h1.1 lu
    have h4 := r.2 u v e ed (by omega)
    have gv : FdW E s g v := fun d hd => by
      rw [ls_eq hd lv]
      omega
    have := cntP_lt fv gv 16 h1.2 up
    exact Or.inl (by omega)
/-- a round that changes nothing -/
theorem lv_c {E : Ed} {s I : Nat} {f : Nat → Nat} (hE : ∀ u v e, E u v e → u < 16 ∧ v < 16) (hI : ∀ p d, p < 16 → Ls E s p d → d < I) (h0 : f s = 0) (r : Rlx E I f f) : ∀ p, p < 16 → FdW E s f p := by
  intro p _
  refine Classical.byContradiction (fun hp => ?_)
  have q3 : ∃ d, Ls E s p d := Classical.byContradiction (fun w => hp (fun d h => absurd ⟨d, h⟩ w))
  obtain ⟨d, hd⟩ := q3
  obtain ⟨u, v, c, e, fu, fv, lu, ed, lv⟩ := ls_edge' (F := FdW E s f) (fun d _ => by rw [h0]; exact Nat.zero_le d) hd hp
  have h1 := hE u v e ed
  have h2 := fu c lu
  have h3 := hI u c h1.1 lu
  have h4 := r.2 u v e ed (by omega)
  refine fv (fun d hd => ?_)
  rw [ls_eq hd lv]
  omega
/-- roads go both ways -/
theorem wk_cons {E : Ed} {s t e : Nat} (he : E s t e) : ∀ k p d, Wk E t k p d → Wk E s (k + 1) p (e + d) := by
  intro k
  induction k with
  | zero =>
    intro p d h
    obtain ⟨rfl, rfl⟩ := h
    exact ⟨s, 0, e, ⟨rfl, rfl⟩, he, by omega⟩
  | succ k ih =>
    intro p d h
    obtain ⟨q, c, x, hk, hx, rfl⟩ := h
    exact ⟨q, e + c, x, ih q c hk, hx, by omega⟩
theorem rch_rev {E : Ed} (hS : ∀ u v e, E u v e → E v u e) {s : Nat} : ∀ k p d, Wk E s k p d → Rch E p s d := by
  intro k
  induction k with
  | zero =>
    intro p d h
    obtain ⟨rfl, rfl⟩ := h
    exact rch_0 E _
  | succ k ih =>
    intro p d h
    obtain ⟨q, c, x, hk, hx, rfl⟩ := h
    obtain ⟨j, hj⟩ := ih q c hk
    exact ⟨j + 1, by rw [Nat.add_comm c x]; exact wk_cons (hS _ _ _ hx) j s c hj⟩
theorem ls_rev {E : Ed} (hS : ∀ u v e, E u v e → E v u e) {s p d : Nat} (h : Ls E s p d) : Ls E p s d := by
  obtain ⟨⟨k, hk⟩, hm⟩ := h
  refine ⟨rch_rev hS k p d hk, fun d' hd => ?_⟩
  obtain ⟨j, hj⟩ := hd
  exact hm d' (rch_rev hS j s d' hj)
/-! WAYS: roads by number: their ends, which of them go, what they cost -/
def EdR (n : Nat) (a b : Nat → Nat) (g : Nat → Prop) (c : Nat → Nat) : Ed := fun u v e => ∃ r, r < n ∧ g r ∧ ((a r = u ∧ b r = v) ∨ (a r = v ∧ b r = u)) ∧ c r = e
theorem edR_sym {n : Nat} {a b : Nat → Nat} {g : Nat → Prop} {c : Nat → Nat} : ∀ u v e, EdR n a b g c u v e → EdR n a b g c v u e := by
  intro u v e h
  obtain ⟨r, hr, hg, h, he⟩ := h
  exact ⟨r, hr, hg, h.elim (fun z => Or.inr z) (fun z => Or.inl z), he⟩
theorem edR_16 {n : Nat} {a b : Nat → Nat} {g : Nat → Prop} {c : Nat → Nat} (ha : ∀ r, r < n → a r < 16 ∧ b r < 16) : ∀ u v e, EdR n a b g c u v e → u < 16 ∧ v < 16 := by
  intro u v e h
  obtain ⟨r, hr, _, h, _⟩ := h
  have := ha r hr
  rcases h with h | h <;> omega
theorem edR_M {n M : Nat} {a b : Nat → Nat} {g : Nat → Prop} {c : Nat → Nat} (ha : ∀ r, r < n → a r < 16 ∧ b r < 16) (hc : ∀ r, r < n → g r → c r ≤ M) : ∀ u v e, EdR n a b g c u v e → v < 16 ∧ e ≤ M := by
  intro u v e h
  have h1 := edR_16 ha u v e h
  obtain ⟨r, hr, hg, _, he⟩ := h
  exact ⟨h1.2, by rw [← he]; exact hc r hr hg⟩
theorem edR_I {n M I s : Nat} {a b : Nat → Nat} {g : Nat → Prop} {c : Nat → Nat} (ha : ∀ r, r < n → a r < 16 ∧ b r < 16) (hc : ∀ r, r < n → g r → c r ≤ M) (hs : s < 16) (hI : 15 * M < I) : ∀ p d, p < 16 → Ls (EdR n a b g c) s p d → d < I := fun p d hp h => Nat.lt_of_le_of_lt (ls_bnd (edR_M ha hc) hs p d hp h) hI
/-- the first j roads of a round -/
theorem rlx_0 {I : Nat} {a b : Nat → Nat} {g : Nat → Prop} {c : Nat → Nat} {f : Nat → Nat} : Rlx (EdR 0 a b g c) I f f := ⟨fun _ _ => Nat.le_refl _, fun _ _ _ h => by obtain ⟨r, hr, _⟩ := h; exact absurd hr (Nat.not_lt_zero r)⟩
theorem rlx_n {j I : Nat} {a b : Nat → Nat} {g : Nat → Prop} {c : Nat → Nat} {f0 f : Nat → Nat} (h : Rlx (EdR j a b g c) I f0 f) (hg : ¬ g j) : Rlx (EdR (j + 1) a b g c) I f0 f := by
  refine ⟨h.1, fun u v e q hu => ?_⟩
  obtain ⟨r, hr, gr, q, he⟩ := q
  by_cases w : r = j
  · exact absurd (w ▸ gr) hg
  · exact h.2 u v e ⟨r, by omega, gr, q, he⟩ hu
theorem rlx_y {j n I : Nat} {a b : Nat → Nat} {g : Nat → Prop} {c : Nat → Nat} {f0 f f' : Nat → Nat} (h : Rlx (EdR j a b g c) I f0 f) (ha : ∀ r, r < n → a r < 16 ∧ b r < 16) (hj : j < n) (hm : ∀ p, p < 16 → f' p ≤ f p) (h1 : f (a j) < I → f' (b j) ≤ f (a j) + c j) (h2 : f (b j) < I → f' (a j) ≤ f (b j) + c j) : Rlx (EdR (j + 1) a b g c) I f0 f' := by
  refine ⟨fun p hp => Nat.le_trans (hm p hp) (h.1 p hp), fun u v e q hu => ?_⟩
  obtain ⟨r, hr, gr, q, he⟩ := q
  have hw := ha r (by omega)
  by_cases w : r = j
  · subst w
    rcases q with q | q
    · have k := h.1 u (by omega)
      have := h1 (by rw [q.1]; omega)
      rw [q.1, q.2, he] at this
      omega
    · have k := h.1 u (by omega)
      have := h2 (by rw [q.2]; omega)
      rw [q.1, q.2, he] at this
      omega
  · have := h.2 u v e ⟨r, by omega, gr, q, he⟩ hu
    have := hm v (by omega)
    omega
theorem snd_put {E : Ed} {s I q p e : Nat} {f f' : Nat → Nat} (h : Snd E s I f) (hq : q < 16) (hfq : f q < I) (he : E q p e) (hx : f q + e < I) (hf : ∀ i, f' i = if i = p then f q + e else f i) : Snd E s I f' := by
  intro i hi
  rw [hf i]
  by_cases w : i = p
  · rw [if_pos w, w]
    exact Or.inr ⟨hx, rch_s ((h q hq).resolve_left (by omega)).2 he⟩
  · rw [if_neg w]
    exact h i hi
theorem snd_s {E : Ed} {s I : Nat} {f : Nat → Nat} (hI : 0 < I) (h0 : f s = 0) (h : ∀ p, p < 16 → p ≠ s → f p = I) : Snd E s I f := by
  intro p hp
  by_cases w : p = s
  · rw [w, h0]
    exact Or.inr ⟨hI, rch_0 E s⟩
  · exact Or.inl (h p hp w)
/-- the class's way with one road: the one direction, else the other -/
theorem sh_a {n j s I : Nat} {a b : Nat → Nat} {g : Nat → Prop} {c : Nat → Nat} {f0 f f' : Nat → Nat} (ha : ∀ r, r < n → a r < 16 ∧ b r < 16) (hj : j < n) (hg : g j) (hs : Snd (EdR n a b g c) s I f) (hr : Rlx (EdR j a b g c) I f0 f) (h1 : f (a j) < I) (h2 : f (a j) + c j < f (b j)) (hf : ∀ i, f' i = if i = b j then f (a j) + c j else f i) : Snd (EdR n a b g c) s I f' ∧ Rlx (EdR (j + 1) a b g c) I f0 f' := by
  have hw := ha j hj
  have hb : f (b j) ≤ I := by rcases hs _ hw.2 with q | q <;> omega
  refine ⟨snd_put (q := a j) (p := b j) (e := c j) hs hw.1 h1 ⟨j, hj, hg, Or.inl ⟨rfl, rfl⟩, rfl⟩ (by omega) hf, rlx_y hr ha hj (fun p hp => ?_) (fun _ => ?_) (fun _ => ?_)⟩
  · rw [hf p]
    by_cases w : p = b j
    · rw [if_pos w, w]
      omega
    · rw [if_neg w]
      exact Nat.le_refl _
  · rw [hf, if_pos rfl]
    exact Nat.le_refl _
  · rw [hf]
    by_cases w : a j = b j
    · rw [if_pos w]
      omega
    · rw [if_neg w]
      omega
theorem rlx_sw {j I : Nat} {a b : Nat → Nat} {g : Nat → Prop} {c : Nat → Nat} {f0 f : Nat → Nat} (h : Rlx (EdR j a b g c) I f0 f) : Rlx (EdR j b a g c) I f0 f := by
  refine ⟨h.1, fun u v e q hu => h.2 u v e ?_ hu⟩
  obtain ⟨r, hr, gr, q, he⟩ := q
  exact ⟨r, hr, gr, q.elim (fun z => Or.inr ⟨z.2, z.1⟩) (fun z => Or.inl ⟨z.2, z.1⟩), he⟩
theorem edR_sw {n : Nat} {a b : Nat → Nat} {g : Nat → Prop} {c : Nat → Nat} : EdR n a b g c = EdR n b a g c := by
  funext u v e
  refine propext ⟨fun z => ?_, fun z => ?_⟩
  · obtain ⟨r, hr, hg, q, he⟩ := z
    exact ⟨r, hr, hg, q.elim (fun z => Or.inr ⟨z.2, z.1⟩) (fun z => Or.inl ⟨z.2, z.1⟩), he⟩
  · obtain ⟨r, hr, hg, q, he⟩ := z
    exact ⟨r, hr, hg, q.elim (fun z => Or.inr ⟨z.2, z.1⟩) (fun z => Or.inl ⟨z.2, z.1⟩), he⟩
theorem sh_b {n j s I : Nat} {a b : Nat → Nat} {g : Nat → Prop} {c : Nat → Nat} {f0 f f' : Nat → Nat} (ha : ∀ r, r < n → a r < 16 ∧ b r < 16) (hj : j < n) (hg : g j) (hs : Snd (EdR n a b g c) s I f) (hr : Rlx (EdR j a b g c) I f0 f) (h1 : f (b j) < I) (h2 : f (b j) + c j < f (a j)) (hf : ∀ i, f' i = if i = a j then f (b j) + c j else f i) : Snd (EdR n a b g c) s I f' ∧ Rlx (EdR (j + 1) a b g c) I f0 f' := by
  rw [edR_sw (n := n)] at hs
  have h := sh_a (a := b) (b := a) (fun r hr => ⟨(ha r hr).2, (ha r hr).1⟩) hj hg hs (rlx_sw hr) h1 h2 hf
  rw [edR_sw (n := n)]
  exact ⟨h.1, rlx_sw h.2⟩
theorem sh_c {n j I : Nat} {a b : Nat → Nat} {g : Nat → Prop} {c : Nat → Nat} {f0 f : Nat → Nat} (ha : ∀ r, r < n → a r < 16 ∧ b r < 16) (hj : j < n) (hr : Rlx (EdR j a b g c) I f0 f) (h1 : f (a j) < I → ¬ f (a j) + c j < f (b j)) (h2 : f (b j) < I → ¬ f (b j) + c j < f (a j)) : Rlx (EdR (j + 1) a b g c) I f0 f :=
  rlx_y hr ha hj (fun _ _ => Nat.le_refl _) (fun h => Nat.not_lt.mp (h1 h)) (fun h => Nat.not_lt.mp (h2 h))

/-! FULL: the class's search -/
def fN (h : Nat → Int32) : Nat → Nat := fun p => (h p).toNatClampNeg
def nnF (h : Nat → Int32) : Prop := ∀ p, p < 16 → 0 ≤ (h p).toInt
/-- the roads as they were surveyed and priced: n of them, ends a b, those that go, what they cost -/
def GX (C : Nat → va_E) (n : Nat) (a b : Nat → Nat) (g : Nat → Prop) (c : Nat → Nat) : Prop := (n : Int) = (ga (C 10) 0).toInt ∧ n ≤ 24 ∧ ∀ r, r < n → ((ga (C 11) (r * 7 + 0)).toInt = (a r : Int) ∧ (ga (C 11) (r * 7 + 1)).toInt = (b r : Int)) ∧ (a r < 16 ∧ b r < 16) ∧ (g r ↔ ¬ ga (C 24) r = -1) ∧ (g r → (ga (C 26) r).toInt = (c r : Int) ∧ c r ≤ 60000000)
theorem GX.e16 {C : Nat → va_E} {n : Nat} {a b : Nat → Nat} {g : Nat → Prop} {c : Nat → Nat} (h : GX C n a b g c) : ∀ r, r < n → a r < 16 ∧ b r < 16 := fun r hr => (h.2.2 r hr).2.1
theorem GX.fin {C : Nat → va_E} {n s : Nat} {a b : Nat → Nat} {g : Nat → Prop} {c : Nat → Nat} (h : GX C n a b g c) (hs : s < 16) : ∀ p d, p < 16 → Ls (EdR n a b g c) s p d → d < 1000000000 := edR_I (M := 60000000) h.e16 (fun r hr hg => ((h.2.2 r hr).2.2.2 hg).2) hs (by decide)
/-- what one road does: the one direction, the other, or nothing -/
def shP (f f' : Nat → Int32) (a b p r : Int32) : Prop := (r = 1 ∧ ¬ f a.toNatClampNeg = 1000000000 ∧ f a.toNatClampNeg + p < f b.toNatClampNeg ∧ f' = upd f b.toNatClampNeg (f a.toNatClampNeg + p)) ∨ (r = 1 ∧ ¬ f b.toNatClampNeg = 1000000000 ∧ f b.toNatClampNeg + p < f a.toNatClampNeg ∧ f' = upd f a.toNatClampNeg (f b.toNatClampNeg + p)) ∨ (r = 0 ∧ (¬ f a.toNatClampNeg = 1000000000 → ¬ f a.toNatClampNeg + p < f b.toNatClampNeg) ∧ (¬ f b.toNatClampNeg = 1000000000 → ¬ f b.toNatClampNeg + p < f a.toNatClampNeg) ∧ f' = f)
def spO (E : Ed) (s : Nat) (h : Nat → Int32) (k : Nat) (ch : Int32) : Prop := nnF h ∧ fN h s = 0 ∧ Snd E s 1000000000 (fN h) ∧ Lv E s (fN h) k ∧ (ch = 0 → ∀ p, p < 16 → FdW E s (fN h) p)
def spI (n : Nat) (a b : Nat → Nat) (g : Nat → Prop) (c : Nat → Nat) (s : Nat) (h0 h : Nat → Int32) (j : Nat) (ch : Int32) : Prop := nnF h ∧ Snd (EdR n a b g c) s 1000000000 (fN h) ∧ Rlx (EdR j a b g c) 1000000000 (fN h0) (fN h) ∧ (ch = 0 → ∀ p, p < 16 → fN h p = fN h0 p)
theorem fN_i {h : Nat → Int32} (hn : nnF h) {p : Nat} (hp : p < 16) : (fN h p : Int) = (h p).toInt := by
  have := hn p hp
  show (((h p).toInt.toNat : Nat) : Int) = _
  omega
theorem spO_0 {E : Ed} {s : Nat} {h : Nat → Int32} (hs : s < 16) (h0 : h s = 0) (h1 : ∀ p, p < 16 → p ≠ s → h p = 1000000000) : spO E s h 0 1 := by
  have e0 : fN h s = 0 := by
    show (h s).toNatClampNeg = 0
    rw [h0]
    rfl
  refine ⟨fun p hp => ?_, e0, snd_s (by decide) e0 (fun p hp q => ?_), lv_0 hs e0, fun z => absurd z (by decide)⟩
  · by_cases q : p = s
    · rw [q, h0]
      decide
    · rw [h1 p hp q]
      decide
  · show (h p).toNatClampNeg = 1000000000
    rw [h1 p hp q]
    rfl
theorem spI_0 {n s k : Nat} {a b : Nat → Nat} {g : Nat → Prop} {c : Nat → Nat} {h : Nat → Int32} {ch : Int32} (H : spO (EdR n a b g c) s h k ch) : spI n a b g c s h h 0 0 := ⟨H.1, H.2.2.1, rlx_0, fun _ _ _ => rfl⟩
theorem spI_n {n s j : Nat} {a b : Nat → Nat} {g : Nat → Prop} {c : Nat → Nat} {h0 h : Nat → Int32} {ch : Int32} (H : spI n a b g c s h0 h j ch) (hg : ¬ g j) : spI n a b g c s h0 h (j + 1) ch := ⟨H.1, H.2.1, rlx_n H.2.2.1 hg, H.2.2.2⟩
theorem fN_up {h : Nat → Int32} {q : Nat} {v : Int32} {x : Nat} (hv : v.toInt = (x : Int)) : ∀ i, fN (upd h q v) i = if i = q then x else fN h i := by
  intro i
  show (upd h q v i).toNatClampNeg = _
  by_cases w : i = q
  · rw [w, pk_us, if_pos rfl]
    show v.toInt.toNat = x
    omega
  · rw [pk_un w, if_neg w]
    rfl
theorem spI_s {n s j : Nat} {a b : Nat → Nat} {g : Nat → Prop} {c : Nat → Nat} {C : Nat → va_E} {h0 h h' : Nat → Int32} {ch x y p r : Int32} (G : GX C n a b g c) (H : spI n a b g c s h0 h j ch) (hj : j < n) (hg : g j) (hx : x = ga (C 11) (j * 7 + 0)) (hy : y = ga (C 11) (j * 7 + 1)) (hp : p = ga (C 26) j) (S : shP h h' x y p r) : (r = 1 → ∀ ch', ch' = 1 → spI n a b g c s h0 h' (j + 1) ch') ∧ (¬ r = 1 → spI n a b g c s h0 h' (j + 1) ch) := by
  obtain ⟨⟨ea, eb⟩, ⟨la, lb⟩, _, ec⟩ := G.2.2 j hj
  obtain ⟨ec, hc⟩ := ec hg
  obtain ⟨hn, hs, hr, hch⟩ := H
  have exx : x.toNatClampNeg = a j := by
    rw [hx]
    show (ga (C 11) (j * 7 + 0)).toInt.toNat = a j
    omega
  have eyy : y.toNatClampNeg = b j := by
    rw [hy]
    show (ga (C 11) (j * 7 + 1)).toInt.toNat = b j
    omega
  have epp : p.toInt = (c j : Int) := by rw [hp]; exact ec
  unfold shP at S
  rw [exx, eyy] at S
  have ia := fN_i hn la
  have ib := fN_i hn lb
  have eI : (1000000000 : Int32).toInt = 1000000000 := rfl
  have ua : fN h (a j) ≤ 1000000000 := by rcases hs _ la with q | q <;> omega
  have ub : fN h (b j) ≤ 1000000000 := by rcases hs _ lb with q | q <;> omega
  have neA : ¬ h (a j) = 1000000000 ↔ fN h (a j) < 1000000000 := by
    constructor
    · intro z
      have : (h (a j)).toInt ≠ 1000000000 := fun e => z (Int32.toInt_inj.mp e)
      omega
    · intro z e
      rw [e, eI] at ia
      omega
  have neB : ¬ h (b j) = 1000000000 ↔ fN h (b j) < 1000000000 := by
    constructor
    · intro z
      have : (h (b j)).toInt ≠ 1000000000 := fun e => z (Int32.toInt_inj.mp e)
      omega
    · intro z e
      rw [e, eI] at ib
      omega
  have sA : (h (a j) + p).toInt = ((fN h (a j) + c j : Nat) : Int) := by
    rw [Int32.toInt_add, epp, ← ia]
    exact Eq.trans (oh_bmod (by omega) (by omega)) (by omega)
  have sB : (h (b j) + p).toInt = ((fN h (b j) + c j : Nat) : Int) := by
    rw [Int32.toInt_add, epp, ← ib]
    exact Eq.trans (oh_bmod (by omega) (by omega)) (by omega)
  have ltA : h (a j) + p < h (b j) ↔ fN h (a j) + c j < fN h (b j) := by
    rw [Int32.lt_iff_toInt_lt, sA]
    omega
  have ltB : h (b j) + p < h (a j) ↔ fN h (b j) + c j < fN h (a j) := by
    rw [Int32.lt_iff_toInt_lt, sB]
    omega
  rcases S with ⟨r1, n1, l1, e1⟩ | ⟨r1, n1, l1, e1⟩ | ⟨r1, n1, n2, e1⟩
  · refine ⟨fun _ ch' hc' => ?_, fun z => absurd r1 z⟩
    have K := sh_a G.e16 hj hg hs hr (neA.mp n1) (ltA.mp l1) (fN_up (q := b j) sA)
    rw [← e1] at K
    refine ⟨fun q hq => ?_, K.1, K.2, fun z => absurd (Eq.trans hc'.symm z) (by decide)⟩
    rw [e1]
    by_cases w : q = b j
    · rw [w, pk_us, sA]
      omega
    · rw [pk_un w]
      exact hn q hq
  · refine ⟨fun _ ch' hc' => ?_, fun z => absurd r1 z⟩
    have K := sh_b G.e16 hj hg hs hr (neB.mp n1) (ltB.mp l1) (fN_up (q := a j) sB)
    rw [← e1] at K
    refine ⟨fun q hq => ?_, K.1, K.2, fun z => absurd (Eq.trans hc'.symm z) (by decide)⟩
    rw [e1]
    by_cases w : q = a j
    · rw [w, pk_us, sB]
      omega
    · rw [pk_un w]
      exact hn q hq
  · refine ⟨fun z => absurd (Eq.trans r1.symm z) (by decide), fun _ => ?_⟩
    rw [e1]
    exact ⟨hn, hs, sh_c G.e16 hj hr (fun z q => n1 (neA.mpr z) (ltA.mpr q)) (fun z q => n2 (neB.mpr z) (ltB.mpr q)), hch⟩
theorem spO_s {n s k : Nat} {a b : Nat → Nat} {g : Nat → Prop} {c : Nat → Nat} {C : Nat → va_E} {h0 h : Nat → Int32} {ch0 ch : Int32} (G : GX C n a b g c) (hs : s < 16) (H : spO (EdR n a b g c) s h0 k ch0) (K : spI n a b g c s h0 h n ch) : spO (EdR n a b g c) s h (k + 1) ch := by
  obtain ⟨_, z0, _, lv, _⟩ := H
  obtain ⟨hn, hd, hr, hc⟩ := K
  have e0 : fN h s = 0 := by have := hr.1 s hs; omega
  refine ⟨hn, e0, hd, lv_s (edR_16 G.e16) (G.fin hs) z0 lv hr, fun z => lv_c (edR_16 G.e16) (G.fin hs) e0 ⟨fun _ _ => Nat.le_refl _, fun u v e hu q => ?_⟩⟩
  have := edR_16 G.e16 u v e hu
  have e1 := hc z u this.1
  rw [e1] at q ⊢
  exact hr.2 u v e hu q
theorem spO_e {n s k : Nat} {a b : Nat → Nat} {g : Nat → Prop} {c : Nat → Nat} {C : Nat → va_E} {h : Nat → Int32} {ch : Int32} (G : GX C n a b g c) (hs : s < 16) (H : spO (EdR n a b g c) s h k ch) (hk : 16 ≤ k ∨ ch = 0) : Dn (EdR n a b g c) s 1000000000 (fN h) := by
  refine dn_of H.2.2.1 ?_ (G.fin hs)
  rcases hk with q | q
  · exact lv_16 H.2.2.2.1 q
  · exact H.2.2.2.2 q
theorem fl_s {f f' : Nat → Int32} {z v : Int32} (hz : rg z 0 15) (h : ∀ p : Nat, (p : Int) < z.toInt → f p = v) (e : f' = upd f z.toNatClampNeg v) : ∀ p : Nat, (p : Int) < (z + 1).toInt → f' p = v := by
  intro p hp
  rw [oh_inc24 ⟨hz.1, by have := hz.2; omega⟩] at hp
  have ez := oh_nat hz (by decide)
  rw [e]
  by_cases q : p = z.toNatClampNeg
  · rw [q, pk_us]
  · rw [pk_un q]
    exact h p (by omega)
theorem p16 {x : Int32} (hx : rg x 0 15) : x.toNatClampNeg < 16 := by
  have := oh_nat hx (by decide)
  have := hx.2
  omega
theorem sp_i {f f' : Nat → Int32} {z x : Int32} (hx : rg x 0 15) (h : ∀ p : Nat, (p : Int) < z.toInt → f p = 1000000000) (c : 16 ≤ z) (e : f' = upd f x.toNatClampNeg 0) (E : Ed) : spO E x.toNatClampNeg f' 0 1 := by
  have c2 := Int32.le_iff_toInt_le.mp c
  have e16 : (16 : Int32).toInt = 16 := rfl
  refine spO_0 (p16 hx) (by rw [e, pk_us]) (fun p hp q => ?_)
  rw [e, pk_un q]
  exact h p (by omega)
theorem gx_lt {C : Nat → va_E} {n : Nat} {a b : Nat → Nat} {g : Nat → Prop} {c : Nat → Nat} {z : Int32} {u : Int} (G : GX C n a b g c) (hz : rg z 0 u) (hl : z < ga (C 10) ((0 : Int32)).toNatClampNeg) : z.toNatClampNeg < n := by
  have e := oh_nat hz (by decide)
  have h1 := Int32.lt_iff_toInt_lt.mp hl
  have h2 : (n : Int) = (ga (C 10) ((0 : Int32)).toNatClampNeg).toInt := G.1
  omega
theorem gx_n {C : Nat → va_E} {n : Nat} {a b : Nat → Nat} {g : Nat → Prop} {c : Nat → Nat} {z : Int32} {u : Int} (G : GX C n a b g c) (hz : rg z 0 u) (hl : ga (C 10) ((0 : Int32)).toNatClampNeg ≤ z) (h : z.toInt ≤ (ga (C 10) ((0 : Int32)).toNatClampNeg).toInt) : z.toNatClampNeg = n := by
  have e := oh_nat hz (by decide)
  have h1 := Int32.le_iff_toInt_le.mp hl
  have h2 : (n : Int) = (ga (C 10) ((0 : Int32)).toNatClampNeg).toInt := G.1
  omega
theorem k16 {z : Int32} {u : Int} (hz : rg z 0 u) (c : 16 ≤ z) : 16 ≤ z.toNatClampNeg := by
  have e := oh_nat hz (by decide)
  have c2 := Int32.le_iff_toInt_le.mp c
  have e16 : (16 : Int32).toInt = 16 := rfl
  omega

set_option maxHeartbeats 4000000 in
set_option maxRecDepth 100000 in
theorem e_X5_engines (l : Launch) (D : va_G) (E : Nat → ClassId) (G : Nat → Nat) (a : Nat → Nat) (C : Nat → va_E) (hT : TyX a E C) (x1 : Int32) (hx1 : rg x1 0 23) : Met l yX5_engines (oh_w yX5_engines cX5_engines 2 (some .int)) ({ frames := 1, cells := 0, slots := 0, locals := 22 }) (oh_Pp D E G [.ref (a 3), .int x1] (oh_W 35 a C)) (vp_Si (fun r => (r = 1 + ga (C 11) ((x1 * 7) + 3).toNatClampNeg * gi (C 9) 3 / 100))) 0 0 (fun _ => False) := by
  refine Met.ofW (cc := cX5_engines) (maxL := 2) (ret := (some .int)) (by decide) rfl ?_
  intro p e s m args below meth c s₁ B hml hv
  obtain ⟨rfl, hP, hK, hG⟩ := hv
  have hx := B.exec
  have hb := B.bytes
  have hr := B.returns
  have hts := atoms_spec (ws := (oh_w yX5_engines cX5_engines 2 (some .int))) B.pre
  have htg : ∀ w ∈ oh_t, w.before _ s = true := fun w h => hts w (List.mem_cons_of_mem _ h)
  have hown : s.vm.findClass RX5 = some m.cls := findClass_of_methodNamed B.named
  have hlocks := B.notSynchronized
  have hT0 := hT
  have hS : va_S (fun _ => False) s.heap s.heap [] := va_S.rf
  have hl := lv_entry ([.ref (a 3), .int x1]) (n := 2) (Nat.le_of_ble_eq_true rfl)
  rw [lg_entry_eq]
  generalize (lg_sl ([.ref (a 3), .int x1]) ++ List.replicate (2 - (lg_sl ([.ref (a 3), .int x1])).length) Slot.unset).toArray = ls at hl ⊢
  have hl : lv_has ls 2 [(0, .ref (a 3)), (1, .int x1)] := hl
  refine oh_genQ (fun Q hQ => ?_)
  refine lv_iconst (v := 1) hx hb dX5_engines_0 (by decide) ?_
  refine lv_aload_n hx hb dX5_engines_1 rfl (lv_at hl 0 rfl) ?_
  refine va_get (D := D) (ci := 5) (v := .ref (a 1)) (C := RX5) (T := TX5) (N := 7) hx hb htg ig_5 hown hK hP 3 (oh_wg (by decide) (sX_3 hT)) rfl 0 (by decide) (htg _ q_167) (fun _ h9 => h9) rfl dX5_engines_2 ?_
  refine lv_iload_n hx hb dX5_engines_5 rfl (lv_at hl 1 rfl) ?_
  refine lv_iconst (v := 3) hx hb dX5_engines_6 (by decide) ?_
  refine tq_V (As := [.int x1, .int 3]) (rest := [.int 1]) (ws := (oh_W 35 a C)) ⟨hx, hb, hml, hown, htg⟩ (c_X0_ofRoad l D E G a C hT x1 (3 : Int32) (rg_w hx1 (by decide)) (rg_w (rg_c (v := 3) (lo := 3) (hi := 3) (by decide)) (by decide))) (cwV 2 htg (oh_gV q_755 q_480 q_481 q_67 q_482) rfl rfl rfl pdVX0_ofRoad ⟨Nat.le_of_ble_eq_true rfl, Nat.le_of_ble_eq_true rfl⟩) hK hP hG hS (va_recv hK hP (ci := 0) (q0 := 1) rfl (oh_wg (by decide) (sX_1 hT))) rfl hl.1 rfl (Nat.le_of_ble_eq_true rfl) dX5_engines_7 ⟨Nat.le_of_ble_eq_true rfl, Nat.le_of_ble_eq_true rfl⟩ (fun r_1 hq_2 => ?_)
  subst hq_2
  refine lv_aload_n hx hb dX5_engines_10 rfl (lv_at hl 0 rfl) ?_
  refine va_get (D := D) (ci := 5) (v := .ref (a 9)) (C := RX5) (T := TX5) (N := 7) hx hb htg ig_5 hown hK hP 3 (oh_wg (by decide) (sX_3 hT)) rfl 1 (by decide) (htg _ q_168) (fun _ h9 => h9) rfl dX5_engines_11 ?_
  refine va_get (D := D) (ci := 1) (v := .int (gi (C 9) 3)) (C := RX1) (T := TX1) (N := 5) hx hb htg ig_1 hown hK hP 9 (oh_wg (by decide) (sX_9 hT)) rfl 3 (by decide) (htg _ q_150) (fun _ h9 => h9) rfl dX5_engines_14 ?_
  refine lv_imul hx hb dX5_engines_17 ?_
  refine lv_bipush (v := 100) hx hb dX5_engines_18 (by decide) ?_
  refine lv_idiv hx hb dX5_engines_20 (by decide) ?_
  refine lv_iadd hx hb dX5_engines_21 ?_
  rw [hQ]
  exact W.iret (v := 1 + (((ga (C 11) ((x1 * 7) + 3).toNatClampNeg) * (gi (C 9) 3)) / 100)) hx hb hr (fun t ht hW => ⟨1 + (((ga (C 11) ((x1 * 7) + 3).toNatClampNeg) * (gi (C 9) 3)) / 100), rfl, rfl, ht⟩) (fun q h => by cases h) dX5_engines_22

set_option maxHeartbeats 4000000 in
set_option maxRecDepth 100000 in
theorem e_X5_coinOf (l : Launch) (D : va_G) (E : Nat → ClassId) (G : Nat → Nat) (a : Nat → Nat) (C : Nat → va_E) (hT : TyX a E C) (x1 : Int32) (x2 : Int32) (hx1 : rg x1 0 23) : Met l yX5_coinOf (oh_w yX5_coinOf cX5_coinOf 3 (some .int)) ({ frames := 2, cells := 0, slots := 0, locals := 43 }) (oh_Pp D E G [.ref (a 3), .int x1, .int x2] (oh_W 35 a C)) (vp_Si (fun r => (r = x2 * ga (C 15) ((1 : Int32)).toNatClampNeg * ga (C 11) ((x1 * 7) + 2).toNatClampNeg * (1 + ga (C 11) ((x1 * 7) + 3).toNatClampNeg * gi (C 9) 3 / 100) + ga (C 25) (x1).toNatClampNeg))) 0 0 (fun _ => False) := by
  refine Met.ofW (cc := cX5_coinOf) (maxL := 3) (ret := (some .int)) (by decide) rfl ?_
  intro p e s m args below meth c s₁ B hml hv
  obtain ⟨rfl, hP, hK, hG⟩ := hv
  have hx := B.exec
  have hb := B.bytes
  have hr := B.returns
  have hts := atoms_spec (ws := (oh_w yX5_coinOf cX5_coinOf 3 (some .int))) B.pre
  have htg : ∀ w ∈ oh_t, w.before _ s = true := fun w h => hts w (List.mem_cons_of_mem _ h)
  have hown : s.vm.findClass RX5 = some m.cls := findClass_of_methodNamed B.named
  have hlocks := B.notSynchronized
  have hT0 := hT
  have hS : va_S (fun _ => False) s.heap s.heap [] := va_S.rf
  have hl := lv_entry ([.ref (a 3), .int x1, .int x2]) (n := 3) (Nat.le_of_ble_eq_true rfl)
  rw [lg_entry_eq]
  generalize (lg_sl ([.ref (a 3), .int x1, .int x2]) ++ List.replicate (3 - (lg_sl ([.ref (a 3), .int x1, .int x2])).length) Slot.unset).toArray = ls at hl ⊢
  have hl : lv_has ls 3 [(0, .ref (a 3)), (1, .int x1), (2, .int x2)] := hl
  refine oh_genQ (fun Q hQ => ?_)
  refine lv_iload_n hx hb dX5_coinOf_0 rfl (lv_at hl 2 rfl) ?_
  refine lv_aload_n hx hb dX5_coinOf_1 rfl (lv_at hl 0 rfl) ?_
  refine va_get (D := D) (ci := 5) (v := .ref (a 1)) (C := RX5) (T := TX5) (N := 7) hx hb htg ig_5 hown hK hP 3 (oh_wg (by decide) (sX_3 hT)) rfl 0 (by decide) (htg _ q_167) (fun _ h9 => h9) rfl dX5_coinOf_2 ?_
  refine va_get (D := D) (ci := 0) (v := .ref (a 15)) (C := RX0) (T := TX0) (N := 8) hx hb htg ig_0 hown hK hP 1 (oh_wg (by decide) (sX_1 hT)) rfl 5 (by decide) (htg _ q_109) (fun _ h9 => h9) rfl dX5_coinOf_5 ?_
  refine lv_iconst (v := 1) hx hb dX5_coinOf_8 (by decide) ?_
  refine th_iald hx hb hK hP 15 (by decide) (sX_15 hT) (rg_in (rg_c (v := 1) (lo := 1) (hi := 1) (by decide)) (by decide)) dX5_coinOf_9 ?_
  refine lv_imul hx hb dX5_coinOf_10 ?_
  refine lv_aload_n hx hb dX5_coinOf_11 rfl (lv_at hl 0 rfl) ?_
  refine va_get (D := D) (ci := 5) (v := .ref (a 1)) (C := RX5) (T := TX5) (N := 7) hx hb htg ig_5 hown hK hP 3 (oh_wg (by decide) (sX_3 hT)) rfl 0 (by decide) (htg _ q_167) (fun _ h9 => h9) rfl dX5_coinOf_12 ?_
  refine lv_iload_n hx hb dX5_coinOf_15 rfl (lv_at hl 1 rfl) ?_
  refine lv_iconst (v := 2) hx hb dX5_coinOf_16 (by decide) ?_
  refine tq_V (As := [.int x1, .int 2]) (rest := [.int (x2 * (ga (C 15) ((1 : Int32)).toNatClampNeg))]) (ws := (oh_W 35 a C)) ⟨hx, hb, hml, hown, htg⟩ (c_X0_ofRoad l D E G a C hT x1 (2 : Int32) (rg_w hx1 (by decide)) (rg_w (rg_c (v := 2) (lo := 2) (hi := 2) (by decide)) (by decide))) (cwV 2 htg (oh_gV q_755 q_480 q_481 q_67 q_482) rfl rfl rfl pdVX0_ofRoad ⟨Nat.le_of_ble_eq_true rfl, Nat.le_of_ble_eq_true rfl⟩) hK hP hG hS (va_recv hK hP (ci := 0) (q0 := 1) rfl (oh_wg (by decide) (sX_1 hT))) rfl hl.1 rfl (Nat.le_of_ble_eq_true rfl) dX5_coinOf_17 ⟨Nat.le_of_ble_eq_true rfl, Nat.le_of_ble_eq_true rfl⟩ (fun r_1 hq_2 => ?_)
  subst hq_2
  refine lv_imul hx hb dX5_coinOf_20 ?_
  refine lv_aload_n hx hb dX5_coinOf_21 rfl (lv_at hl 0 rfl) ?_
  refine lv_iload_n hx hb dX5_coinOf_22 rfl (lv_at hl 1 rfl) ?_
  refine tq_V (As := [.int x1]) (rest := [.int ((x2 * (ga (C 15) ((1 : Int32)).toNatClampNeg)) * (ga (C 11) ((x1 * 7) + 2).toNatClampNeg))]) (ws := (oh_W 35 a C)) ⟨hx, hb, hml, hown, htg⟩ (e_X5_engines l D E G a C hT x1 (rg_w hx1 (by decide))) (cwV 1 htg (oh_gV q_766 q_759 q_760 q_68 q_761) rfl rfl rfl pdVX5_engines ⟨Nat.le_of_ble_eq_true rfl, Nat.le_of_ble_eq_true rfl⟩) hK hP hG hS (va_recv hK hP (ci := 5) (q0 := 3) rfl (oh_wg (by decide) (sX_3 hT))) rfl hl.1 rfl (Nat.le_of_ble_eq_true rfl) dX5_coinOf_23 ⟨Nat.le_of_ble_eq_true rfl, Nat.le_of_ble_eq_true rfl⟩ (fun r_3 hq_4 => ?_)
  refine lv_imul hx hb dX5_coinOf_26 ?_
  refine lv_aload_n hx hb dX5_coinOf_27 rfl (lv_at hl 0 rfl) ?_
  refine va_get (D := D) (ci := 5) (v := .ref (a 25)) (C := RX5) (T := TX5) (N := 7) hx hb htg ig_5 hown hK hP 3 (oh_wg (by decide) (sX_3 hT)) rfl 3 (by decide) (htg _ q_172) (fun _ h9 => h9) rfl dX5_coinOf_28 ?_
  refine lv_iload_n hx hb dX5_coinOf_31 rfl (lv_at hl 1 rfl) ?_
  have n_5 : vp_in x1 24 := (rg_in hx1 (by decide))
  refine th_iald hx hb hK hP 25 (by decide) (sX_25 hT) n_5 dX5_coinOf_32 ?_
  refine lv_iadd hx hb dX5_coinOf_33 ?_
  rw [hQ]
  exact W.iret (v := (((x2 * (ga (C 15) ((1 : Int32)).toNatClampNeg)) * (ga (C 11) ((x1 * 7) + 2).toNatClampNeg)) * r_3) + (ga (C 25) (x1).toNatClampNeg)) hx hb hr (fun t ht hW => ⟨(((x2 * (ga (C 15) ((1 : Int32)).toNatClampNeg)) * (ga (C 11) ((x1 * 7) + 2).toNatClampNeg)) * r_3) + (ga (C 25) (x1).toNatClampNeg), rfl, (by rw [hq_4]), ht⟩) (fun q h => by cases h) dX5_coinOf_34

set_option maxHeartbeats 4000000 in
set_option maxRecDepth 100000 in
theorem e_X5_daysOf (l : Launch) (D : va_G) (E : Nat → ClassId) (G : Nat → Nat) (a : Nat → Nat) (C : Nat → va_E) (hT : TyX a E C) (x1 : Int32) (hx1 : rg x1 0 23) : Met l yX5_daysOf (oh_w yX5_daysOf cX5_daysOf 2 (some .int)) ({ frames := 1, cells := 0, slots := 0, locals := 22 }) (oh_Pp D E G [.ref (a 3), .int x1] (oh_W 35 a C)) (vp_Si (fun r => (r = rndUp (ga (C 11) ((x1 * 7) + 2).toNatClampNeg) 10 + 3 * ga (C 24) (x1).toNatClampNeg))) 0 0 (fun _ => False) := by
  refine Met.ofW (cc := cX5_daysOf) (maxL := 2) (ret := (some .int)) (by decide) rfl ?_
  intro p e s m args below meth c s₁ B hml hv
  obtain ⟨rfl, hP, hK, hG⟩ := hv
  have hx := B.exec
  have hb := B.bytes
  have hr := B.returns
  have hts := atoms_spec (ws := (oh_w yX5_daysOf cX5_daysOf 2 (some .int))) B.pre
  have htg : ∀ w ∈ oh_t, w.before _ s = true := fun w h => hts w (List.mem_cons_of_mem _ h)
  have hown : s.vm.findClass RX5 = some m.cls := findClass_of_methodNamed B.named
  have hlocks := B.notSynchronized
  have hT0 := hT
  have hS : va_S (fun _ => False) s.heap s.heap [] := va_S.rf
  have hl := lv_entry ([.ref (a 3), .int x1]) (n := 2) (Nat.le_of_ble_eq_true rfl)
  rw [lg_entry_eq]
  generalize (lg_sl ([.ref (a 3), .int x1]) ++ List.replicate (2 - (lg_sl ([.ref (a 3), .int x1])).length) Slot.unset).toArray = ls at hl ⊢
  have hl : lv_has ls 2 [(0, .ref (a 3)), (1, .int x1)] := hl
  refine oh_genQ (fun Q hQ => ?_)
  refine lv_aload_n hx hb dX5_daysOf_0 rfl (lv_at hl 0 rfl) ?_
  refine va_get (D := D) (ci := 5) (v := .ref (a 1)) (C := RX5) (T := TX5) (N := 7) hx hb htg ig_5 hown hK hP 3 (oh_wg (by decide) (sX_3 hT)) rfl 0 (by decide) (htg _ q_167) (fun _ h9 => h9) rfl dX5_daysOf_1 ?_
  refine lv_iload_n hx hb dX5_daysOf_4 rfl (lv_at hl 1 rfl) ?_
  refine lv_iconst (v := 2) hx hb dX5_daysOf_5 (by decide) ?_
  refine tq_V (As := [.int x1, .int 2]) (rest := []) (ws := (oh_W 35 a C)) ⟨hx, hb, hml, hown, htg⟩ (c_X0_ofRoad l D E G a C hT x1 (2 : Int32) (rg_w hx1 (by decide)) (rg_w (rg_c (v := 2) (lo := 2) (hi := 2) (by decide)) (by decide))) (cwV 2 htg (oh_gV q_755 q_480 q_481 q_67 q_482) rfl rfl rfl pdVX0_ofRoad ⟨Nat.le_of_ble_eq_true rfl, Nat.le_of_ble_eq_true rfl⟩) hK hP hG hS (va_recv hK hP (ci := 0) (q0 := 1) rfl (oh_wg (by decide) (sX_1 hT))) rfl hl.1 rfl (Nat.le_of_ble_eq_true rfl) dX5_daysOf_6 ⟨Nat.le_of_ble_eq_true rfl, Nat.le_of_ble_eq_true rfl⟩ (fun r_1 hq_2 => ?_)
  subst hq_2
  refine lv_bipush (v := 10) hx hb dX5_daysOf_9 (by decide) ?_
  refine tq_SN (As := [.int (ga (C 11) ((x1 * 7) + 2).toNatClampNeg), .int 10]) (rest := []) (ws := []) ⟨hx, hb, hml, hown, htg⟩ (e_X6_roundedUp l D E G (ga (C 11) ((x1 * 7) + 2).toNatClampNeg) (10 : Int32)) ⟨va_cnB (y := yX6_roundedUp) 2 htg (oh_gW q_718) rfl rfl rfl (hG.1 ("OneHeavyLoad$Ways", 75, ⟨"OneHeavyLoad", "roundedUp", "(II)I"⟩, "OneHeavyLoad") (List.mem_of_getElem? (i := 5) rfl)) (htg _ q_66) pdX6_roundedUp ⟨Nat.le_of_ble_eq_true rfl, Nat.le_of_ble_eq_true rfl⟩, htg _ q_717, trivial⟩ hK va_nil hG hS rfl hl.1 rfl (Nat.le_of_ble_eq_true rfl) dX5_daysOf_11 ⟨Nat.le_of_ble_eq_true rfl, Nat.le_of_ble_eq_true rfl⟩ (fun r_3 hq_4 => ?_)
  refine lv_iconst (v := 3) hx hb dX5_daysOf_14 (by decide) ?_
  refine lv_aload_n hx hb dX5_daysOf_15 rfl (lv_at hl 0 rfl) ?_
  refine va_get (D := D) (ci := 5) (v := .ref (a 24)) (C := RX5) (T := TX5) (N := 7) hx hb htg ig_5 hown hK hP 3 (oh_wg (by decide) (sX_3 hT)) rfl 2 (by decide) (htg _ q_170) (fun _ h9 => h9) rfl dX5_daysOf_16 ?_
  refine lv_iload_n hx hb dX5_daysOf_19 rfl (lv_at hl 1 rfl) ?_
  have n_5 : vp_in x1 24 := (rg_in hx1 (by decide))
  refine th_iald hx hb hK hP 24 (by decide) (sX_24 hT) n_5 dX5_daysOf_20 ?_
  refine lv_imul hx hb dX5_daysOf_21 ?_
  refine lv_iadd hx hb dX5_daysOf_22 ?_
  rw [hQ]
  exact W.iret (v := r_3 + (3 * (ga (C 24) (x1).toNatClampNeg))) hx hb hr (fun t ht hW => ⟨r_3 + (3 * (ga (C 24) (x1).toNatClampNeg)), rfl, (by rw [hq_4]), ht⟩) (fun q h => by cases h) dX5_daysOf_23

/-- what was surveyed -/
def svX (K : Nat → va_E) (A : LA) (w s : Int32) : Prop := pkX K A w s ∧ SV (n0A A) (psA A w) (rdA A) (ndA A w s) (fun b => A 1 b 6) (n1A A) (ga (K 24)) (ga (K 25))
theorem svX_eq {C K : Nat → va_E} {A : LA} {w s : Int32} (h : svX C A w s) (e9 : K 9 = C 9) (e24 : K 24 = C 24) (e25 : K 25 = C 25) : svX K A w s := by
  unfold svX
  rw [e24, e25]
  exact ⟨pkX_eq h.1 e9, h.2⟩
theorem n0_lt {A : LA} {z : Int32} {u : Int} (hz : rg z 0 u) (hl : z < A 5 0 0) : z.toNatClampNeg < n0A A := by
  have e := oh_nat hz (by decide)
  have c := Int32.lt_iff_toInt_lt.mp hl
  show z.toNatClampNeg < (A 5 0 0).toInt.toNat
  omega
theorem coX {K : Nat → va_E} {A : LA} {w s n z r : Int32} (hA : absX 10 K A) (hs : svX K A w s) (hz : rg z 0 23) (hl : z < A 5 0 0) (hg : gsA A w s z.toNatClampNeg) (e : r = n * ga (K 15) ((1 : Int32)).toNatClampNeg * ga (K 11) ((z * 7) + 2).toNatClampNeg * (1 + ga (K 11) ((z * 7) + 3).toNatClampNeg * gi (K 9) 3 / 100) + ga (K 25) (z).toNatClampNeg) : r = coA A w s n z.toNatClampNeg := by
  have c2 : ga (K 11) ((z * 7) + 2).toNatClampNeg = A 0 z.toNatClampNeg 2 := rcX hA hz hl ⟨by decide, by decide⟩
  have c3 : ga (K 11) ((z * 7) + 3).toNatClampNeg = A 0 z.toNatClampNeg 3 := rcX hA hz hl ⟨by decide, by decide⟩
  have cm : ga (K 15) ((1 : Int32)).toNatClampNeg = A 4 0 1 := hA.2.1 1 (by decide)
  have cq := ((hs.2 z.toNatClampNeg (n0_lt hz hl)).1 hg).2
  rw [c2, c3, cm, hs.1.2.2.2.1, cq] at e
  exact e
theorem enX {K : Nat → va_E} {A : LA} {w s z r : Int32} (hA : absX 10 K A) (hs : pkX K A w s) (hz : rg z 0 23) (hl : z < A 5 0 0) (e : r = 1 + ga (K 11) ((z * 7) + 3).toNatClampNeg * gi (K 9) 3 / 100) : r = engA A w s z.toNatClampNeg := by
  have c3 : ga (K 11) ((z * 7) + 3).toNatClampNeg = A 0 z.toNatClampNeg 3 := rcX hA hz hl ⟨by decide, by decide⟩
  rw [c3, hs.2.2.2.1] at e
  exact e
theorem dyX {K : Nat → va_E} {A : LA} {w s z r : Int32} (hA : absX 10 K A) (hs : svX K A w s) (hz : rg z 0 23) (hl : z < A 5 0 0) (hg : gsA A w s z.toNatClampNeg) (e : r = rndUp (ga (K 11) ((z * 7) + 2).toNatClampNeg) 10 + 3 * ga (K 24) (z).toNatClampNeg) : r = dyA A w s z.toNatClampNeg := by
  have c2 : ga (K 11) ((z * 7) + 2).toNatClampNeg = A 0 z.toNatClampNeg 2 := rcX hA hz hl ⟨by decide, by decide⟩
  have cq := ((hs.2 z.toNatClampNeg (n0_lt hz hl)).1 hg).1
  rw [c2, cq] at e
  exact e
/-- a row of prices, one more of it -/
theorem pr_s {P : Nat → Prop} {v : Nat → Int32} {p p' : Nat → Int32} {z x : Int32} (hz : rg z 0 23) (h : ∀ r : Nat, (r : Int) < z.toInt → P r → p r = v r) (e : p' = upd p z.toNatClampNeg x) (hx : P z.toNatClampNeg → x = v z.toNatClampNeg) : ∀ r : Nat, (r : Int) < (z + 1).toInt → P r → p' r = v r := by
  intro r hr hp
  rw [oh_inc24 ⟨hz.1, by have := hz.2; omega⟩] at hr
  have ez := oh_nat hz (by decide)
  rw [e]
  by_cases q : r = z.toNatClampNeg
  · rw [q, pk_us]
    rw [q] at hp
    exact hx hp
  · rw [pk_un q]
    exact h r (by omega) hp
theorem pr_e {P : Nat → Prop} {v p : Nat → Int32} {z : Int32} {A : LA} (hn : rg (A 5 0 0) 0 24) (c : A 5 0 0 ≤ z) (h : ∀ r : Nat, (r : Int) < z.toInt → P r → p r = v r) : ∀ r : Nat, r < n0A A → P r → p r = v r := by
  intro r hr
  have e := oh_nat hn (by decide)
  have c2 := Int32.le_iff_toInt_le.mp c
  have hr : r < (A 5 0 0).toNatClampNeg := hr
  exact h r (by omega)

set_option maxHeartbeats 4000000 in
set_option maxRecDepth 100000 in
theorem e_X5_priceByCoin (l : Launch) (D : va_G) (E : Nat → ClassId) (G : Nat → Nat) (sz : Nat) (a : Nat → Nat) (C : Nat → va_E) (hT : TyX a E C) (x1 : Int32) : Met l yX5_priceByCoin (oh_w yX5_priceByCoin cX5_priceByCoin 3 none) ({ frames := 3, cells := 0, slots := 0, locals := 65 }) (oh_Pm D E G [.ref (a 3), .int x1] (oh_W 35 a C) sz) (va_Qv (fun (u : Nat → va_E) => TyX a E u ∧ fr [(26, 27)] [] C u ∧ (∀ (A : LA) (w s : Int32), absX 10 C A → svX C A w s → ∀ r : Nat, r < n0A A → gsA A w s r → ga (u 26) r = coA A w s x1 r)) (oh_B D (va_A (oh_W 35 a C) sz) (fun u => oh_W 35 a u)) (va_A (oh_W 35 a C) sz)) 0 0 (va_A (oh_W 35 a C) sz) := by
  refine Met.ofW (cc := cX5_priceByCoin) (maxL := 3) (ret := none) (by decide) rfl ?_
  intro p e s m args below meth c s₁ B hml hv
  obtain ⟨rfl, hsz, hP, hK, hD0, hG⟩ := hv
  have hx := B.exec
  have hb := B.bytes
  have hr := B.returns
  have hts := atoms_spec (ws := (oh_w yX5_priceByCoin cX5_priceByCoin 3 none)) B.pre
  have htg : ∀ w ∈ oh_t, w.before _ s = true := fun w h => hts w (List.mem_cons_of_mem _ h)
  have hown : s.vm.findClass RX5 = some m.cls := findClass_of_methodNamed B.named
  have hlocks := B.notSynchronized
  have hT0 := hT
  subst hsz
  have hD := hD0.self (sz := s.heap.size)
  generalize hAe : va_A (oh_W 35 a C) s.heap.size = A at hD hG ⊢
  have hA : ∀ q : Nat, s.heap.size ≤ q → A q := fun q h => by rw [← hAe]; exact Or.inr h
  have hS : va_S A s.heap s.heap [] := va_S.rf
  have hF : fr [(26, 27)] [] C C := fr_rf
  have hl := lv_entry ([.ref (a 3), .int x1]) (n := 3) (Nat.le_of_ble_eq_true rfl)
  rw [lg_entry_eq]
  generalize (lg_sl ([.ref (a 3), .int x1]) ++ List.replicate (3 - (lg_sl ([.ref (a 3), .int x1])).length) Slot.unset).toArray = ls at hl ⊢
  have hl : lv_has ls 3 [(0, .ref (a 3)), (1, .int x1)] := hl
  refine oh_genQ (fun Q hQ => ?_)
  refine lv_iconst (v := 0) hx hb dX5_priceByCoin_0 (by decide) ?_
  refine lv_istore_n (lv' := [(2, .int 0), (0, .ref (a 3)), (1, .int x1)]) hx hb dX5_priceByCoin_1 rfl hl (by decide) rfl (fun ls hl => ?_)
  have L_2 : ∀ (d : Nat) (K2 : Nat → va_E) (z2_2 : Int32) (H : Heap) (locs : List Loc) (ls : Array Slot), (24 - z2_2.toInt).toNat = d → rg z2_2 0 24 → (∀ (A : LA) (w s : Int32), absX 10 C A → svX C A w s → ∀ r : Nat, (r : Int) < z2_2.toInt → gsA A w s r → ga (K2 26) r = coA A w s x1 r) → TyX a E K2 → fr [(26, 27)] [] C K2 → fr [(26, 27)] [] C K2 → va_P D vwCl (oh_W 35 a K2) H → va_D A (oh_W 35 a K2) → va_S A s.heap H locs → lv_has ls 3 [(2, .int z2_2), (0, .ref (a 3)), (1, .int x1)] → W p l e ({ frames := 3, cells := 0, slots := 0, locals := 65 }) s m (([.ref (a 3), .int x1] : List Value).toArray) below meth c H locs 0 0 Q (F0 m 2 ls []) := by
    intro d
    induction d using Nat.strongRecOn with
    | ind d ih_2 =>
    intro K2 z2_2 H locs ls hd_2 hz2_2 hx_2 hT hF hLF_2 hP hD hS hl
    have t_1 := hT
    refine lv_iload_n hx hb dX5_priceByCoin_2 rfl (lv_at hl 0 rfl) ?_
    refine lv_aload_n hx hb dX5_priceByCoin_3 rfl (lv_at hl 1 rfl) ?_
    refine va_get (D := D) (ci := 5) (v := .ref (a 1)) (C := RX5) (T := TX5) (N := 7) hx hb htg ig_5 hown hK hP 3 (oh_wg (by decide) (sX_3 hT)) rfl 0 (by decide) (htg _ q_167) (fun _ h9 => h9) rfl dX5_priceByCoin_4 ?_
    refine va_get (D := D) (ci := 0) (v := .ref (a 10)) (C := RX0) (T := TX0) (N := 8) hx hb htg ig_0 hown hK hP 1 (oh_wg (by decide) (sX_1 hT)) rfl 0 (by decide) (htg _ q_99) (fun _ h9 => h9) rfl dX5_priceByCoin_7 ?_
    refine lv_iconst (v := 0) hx hb dX5_priceByCoin_10 (by decide) ?_
    refine th_iald hx hb hK hP 10 (by decide) (Eq.trans (hLF_2.1 10 rfl (by decide)) (sX_10 hT0)) (rg_in (rg_c (v := 0) (lo := 0) (hi := 0) (by decide)) (by decide)) dX5_priceByCoin_11 ?_
    refine lv_icmp_ge (tgt := 33) hx hb dX5_priceByCoin_12 (by decide) (fun (c_2 : (ga (C 10) ((0 : Int32)).toNatClampNeg) ≤ z2_2) => ?_) (fun (c_2 : ¬ ((ga (C 10) ((0 : Int32)).toNatClampNeg) ≤ z2_2)) => ?_)
    · rw [hQ]
      exact W.vret hx hb hr (fun t ht hW => ⟨⟨K2, rfl, ⟨hT, hF, (fun A w s hA hs => by have hK := (absX_eq hA (fr_all hLF_2 10 15 (by decide))); have h0 : ga (C 10) ((0 : Int32)).toNatClampNeg = A 5 0 0 := hA.1 0 (by decide); exact pr_e (by rw [← hA.1 0 (by decide)]; exact rg_w (cntX 0 hT0 (by decide)) (by decide)) (by rw [← h0]; exact c_2) (hx_2 A w s hA hs))⟩, ⟨by rw [ht]; exact hP, hD⟩⟩, hS.F ht⟩) hS.2.2 dX5_priceByCoin_33
    · refine lv_aload_n hx hb dX5_priceByCoin_15 rfl (lv_at hl 1 rfl) ?_
      refine va_get (D := D) (ci := 5) (v := .ref (a 26)) (C := RX5) (T := TX5) (N := 7) hx hb htg ig_5 hown hK hP 3 (oh_wg (by decide) (sX_3 hT)) rfl 4 (by decide) (htg _ q_173) (fun _ h9 => h9) rfl dX5_priceByCoin_16 ?_
      refine lv_iload_n hx hb dX5_priceByCoin_19 rfl (lv_at hl 0 rfl) ?_
      refine lv_aload_n hx hb dX5_priceByCoin_20 rfl (lv_at hl 1 rfl) ?_
      refine lv_iload_n hx hb dX5_priceByCoin_21 rfl (lv_at hl 0 rfl) ?_
      refine lv_iload_n hx hb dX5_priceByCoin_22 rfl (lv_at hl 2 rfl) ?_
      refine tq_V (As := [.int z2_2, .int x1]) (rest := [.int z2_2, .ref (a 26)]) (ws := (oh_W 35 a K2)) ⟨hx, hb, hml, hown, htg⟩ (e_X5_coinOf l D E G a K2 hT z2_2 x1 (rg_w (rn_ltu (u' := 23) (Int32.not_le.mp c_2) hz2_2 (tA_rdc (lo := 0) (hi := 24) (tX_10 hT0) (rg_in (rg_c (v := 0) (lo := 0) (hi := 0) (by decide)) (by decide)) (show _ = 0 by decide) (by decide)) (by decide)) (by decide))) (cwV 2 htg (oh_gV q_789 q_763 q_764 q_68 q_765) rfl rfl rfl pdVX5_coinOf ⟨Nat.le_of_ble_eq_true rfl, Nat.le_of_ble_eq_true rfl⟩) hK hP hG hS (va_recv hK hP (ci := 5) (q0 := 3) rfl (oh_wg (by decide) (sX_3 hT))) rfl hl.1 rfl (Nat.le_of_ble_eq_true rfl) dX5_priceByCoin_23 ⟨Nat.le_of_ble_eq_true rfl, Nat.le_of_ble_eq_true rfl⟩ (fun r_3 hq_4 => ?_)
      have n_5 : vp_in z2_2 24 := (rg_in (rn_ltu (u' := 23) (Int32.not_le.mp c_2) hz2_2 (tA_rdc (lo := 0) (hi := 24) (tX_10 hT0) (rg_in (rg_c (v := 0) (lo := 0) (hi := 0) (by decide)) (by decide)) (show _ = 0 by decide) (by decide)) (by decide)) (by decide))
      refine th_iast (T := TyX a E) (Rl := fr [(26, 27)] [] C) hx hb hK hP hD hS 26 (by decide) (sX_26 hT) n_5 (hT.up 26 (tA_upd (tX_26 hT) tA_any)) (fr_st hF (by decide) (by decide)) dX5_priceByCoin_26 (fun C_6 H locs e_7 hT hF hP hD hS => ?_)
      have t_8 := hT
      refine lv_iinc (v := z2_2 + 1) (lv' := [(2, .int (z2_2 + 1)), (0, .ref (a 3)), (1, .int x1)]) hx hb dX5_priceByCoin_27 hl (k := 0) rfl (by rfl) (by decide) rfl (fun ls hl => ?_)
      refine lv_goto (tgt := 2) hx hb dX5_priceByCoin_30 (by decide) ?_
      exact ih_2 _ (hd_2 ▸ mu_up 24 (rn_ltu (u' := 23) (Int32.not_le.mp c_2) hz2_2 (tA_rdc (lo := 0) (hi := 24) (tX_10 hT0) (rg_in (rg_c (v := 0) (lo := 0) (hi := 0) (by decide)) (by decide)) (show _ = 0 by decide) (by decide)) (by decide)) (by decide)) C_6 (z2_2 + 1) _ _ ls rfl (rg_w (rg_add (lo := 1) (hi := 24) (rn_ltu (u' := 23) (Int32.not_le.mp c_2) hz2_2 (tA_rdc (lo := 0) (hi := 24) (tX_10 hT0) (rg_in (rg_c (v := 0) (lo := 0) (hi := 0) (by decide)) (by decide)) (show _ = 0 by decide) (by decide)) (by decide)) (rg_c (v := 1) (lo := 1) (hi := 1) (by decide)) (by decide)) (by decide)) (fun A w s hA hs => by have hK := (absX_eq hA (fr_all hLF_2 10 15 (by decide))); exact pr_s (rg_w (lo := 0) (hi := 23) (rn_ltu (u' := 23) (Int32.not_le.mp c_2) hz2_2 (tA_rdc (lo := 0) (hi := 24) (tX_10 hT0) (rg_in (rg_c (v := 0) (lo := 0) (hi := 0) (by decide)) (by decide)) (show _ = 0 by decide) (by decide)) (by decide)) (by decide)) (hx_2 A w s hA hs) (st_ga e_7) (fun hg => coX hK (svX_eq hs (hLF_2.1 9 rfl (by decide)) (hLF_2.1 24 rfl (by decide)) (hLF_2.1 25 rfl (by decide))) (rg_w (lo := 0) (hi := 23) (rn_ltu (u' := 23) (Int32.not_le.mp c_2) hz2_2 (tA_rdc (lo := 0) (hi := 24) (tX_10 hT0) (rg_in (rg_c (v := 0) (lo := 0) (hi := 0) (by decide)) (by decide)) (show _ = 0 by decide) (by decide)) (by decide)) (by decide)) (show z2_2 < A 5 0 0 from oh_lte (Int32.not_le.mp c_2) (hA.1 0 (by decide))) hg hq_4)) hT hF (fr_ste hLF_2 e_7 (by decide) (by decide)) hP hD hS (lv_sub hl [0, 1, 2] rfl)
  exact L_2 _ C 0 _ _ ls rfl (rg_w (rg_c (v := 0) (lo := 0) (hi := 0) (by decide)) (by decide)) (fun A w s hA hs r hr => absurd hr (by show ¬ (r : Int) < 0; omega)) hT hF fr_rf hP hD hS (lv_sub hl [0, 1, 2] rfl)

set_option maxHeartbeats 4000000 in
set_option maxRecDepth 100000 in
theorem e_X5_shorten (l : Launch) (D : va_G) (E : Nat → ClassId) (G : Nat → Nat) (sz : Nat) (a : Nat → Nat) (C : Nat → va_E) (hT : TyX a E C) (x1 : Int32) (hx1 : rg x1 0 23) : Met l yX5_shorten (oh_w yX5_shorten cX5_shorten 4 (some .boolean)) ({ frames := 1, cells := 0, slots := 0, locals := 22 }) (oh_Pm D E G [.ref (a 3), .int x1] (oh_W 35 a C) sz) (va_Qi (fun r (u : Nat → va_E) => TyX a E u ∧ fr [(27, 28)] [] C u ∧ (r = 0 ∨ r = 1) ∧ (shP (ga (C 27)) (ga (u 27)) (ga (C 11) ((x1 * 7) + 0).toNatClampNeg) (ga (C 11) ((x1 * 7) + 1).toNatClampNeg) (ga (C 26) (x1).toNatClampNeg) r)) (oh_B D (va_A (oh_W 35 a C) sz) (fun u => oh_W 35 a u)) (va_A (oh_W 35 a C) sz)) 0 0 (va_A (oh_W 35 a C) sz) := by
  refine Met.ofW (cc := cX5_shorten) (maxL := 4) (ret := (some .boolean)) (by decide) rfl ?_
  intro p e s m args below meth c s₁ B hml hv
  obtain ⟨rfl, hsz, hP, hK, hD0, hG⟩ := hv
  have hx := B.exec
  have hb := B.bytes
  have hr := B.returns
  have hts := atoms_spec (ws := (oh_w yX5_shorten cX5_shorten 4 (some .boolean))) B.pre
  have htg : ∀ w ∈ oh_t, w.before _ s = true := fun w h => hts w (List.mem_cons_of_mem _ h)
  have hown : s.vm.findClass RX5 = some m.cls := findClass_of_methodNamed B.named
  have hlocks := B.notSynchronized
  have hT0 := hT
  subst hsz
  have hD := hD0.self (sz := s.heap.size)
  generalize hAe : va_A (oh_W 35 a C) s.heap.size = A at hD hG ⊢
  have hA : ∀ q : Nat, s.heap.size ≤ q → A q := fun q h => by rw [← hAe]; exact Or.inr h
  have hS : va_S A s.heap s.heap [] := va_S.rf
  have hF : fr [(27, 28)] [] C C := fr_rf
  have hl := lv_entry ([.ref (a 3), .int x1]) (n := 4) (Nat.le_of_ble_eq_true rfl)
  rw [lg_entry_eq]
  generalize (lg_sl ([.ref (a 3), .int x1]) ++ List.replicate (4 - (lg_sl ([.ref (a 3), .int x1])).length) Slot.unset).toArray = ls at hl ⊢
  have hl : lv_has ls 4 [(0, .ref (a 3)), (1, .int x1)] := hl
  refine oh_genQ (fun Q hQ => ?_)
  refine lv_aload_n hx hb dX5_shorten_0 rfl (lv_at hl 0 rfl) ?_
  refine va_get (D := D) (ci := 5) (v := .ref (a 1)) (C := RX5) (T := TX5) (N := 7) hx hb htg ig_5 hown hK hP 3 (oh_wg (by decide) (sX_3 hT)) rfl 0 (by decide) (htg _ q_167) (fun _ h9 => h9) rfl dX5_shorten_1 ?_
  refine lv_iload_n hx hb dX5_shorten_4 rfl (lv_at hl 1 rfl) ?_
  refine lv_iconst (v := 0) hx hb dX5_shorten_5 (by decide) ?_
  refine tq_V (As := [.int x1, .int 0]) (rest := []) (ws := (oh_W 35 a C)) ⟨hx, hb, hml, hown, htg⟩ (c_X0_ofRoad l D E G a C hT x1 (0 : Int32) (rg_w hx1 (by decide)) (rg_w (rg_c (v := 0) (lo := 0) (hi := 0) (by decide)) (by decide))) (cwV 2 htg (oh_gV q_755 q_480 q_481 q_67 q_482) rfl rfl rfl pdVX0_ofRoad ⟨Nat.le_of_ble_eq_true rfl, Nat.le_of_ble_eq_true rfl⟩) hK hP hG hS (va_recv hK hP (ci := 0) (q0 := 1) rfl (oh_wg (by decide) (sX_1 hT))) rfl hl.1 rfl (Nat.le_of_ble_eq_true rfl) dX5_shorten_6 ⟨Nat.le_of_ble_eq_true rfl, Nat.le_of_ble_eq_true rfl⟩ (fun r_1 hq_2 => ?_)
  subst hq_2
  refine lv_istore_n (lv' := [(2, .int (ga (C 11) ((x1 * 7) + 0).toNatClampNeg)), (0, .ref (a 3)), (1, .int x1)]) hx hb dX5_shorten_9 rfl hl (by decide) rfl (fun ls hl => ?_)
  refine lv_aload_n hx hb dX5_shorten_10 rfl (lv_at hl 1 rfl) ?_
  refine va_get (D := D) (ci := 5) (v := .ref (a 1)) (C := RX5) (T := TX5) (N := 7) hx hb htg ig_5 hown hK hP 3 (oh_wg (by decide) (sX_3 hT)) rfl 0 (by decide) (htg _ q_167) (fun _ h9 => h9) rfl dX5_shorten_11 ?_
  refine lv_iload_n hx hb dX5_shorten_14 rfl (lv_at hl 2 rfl) ?_
  refine lv_iconst (v := 1) hx hb dX5_shorten_15 (by decide) ?_
  refine tq_V (As := [.int x1, .int 1]) (rest := []) (ws := (oh_W 35 a C)) ⟨hx, hb, hml, hown, htg⟩ (c_X0_ofRoad l D E G a C hT x1 (1 : Int32) (rg_w hx1 (by decide)) (rg_w (rg_c (v := 1) (lo := 1) (hi := 1) (by decide)) (by decide))) (cwV 2 htg (oh_gV q_755 q_480 q_481 q_67 q_482) rfl rfl rfl pdVX0_ofRoad ⟨Nat.le_of_ble_eq_true rfl, Nat.le_of_ble_eq_true rfl⟩) hK hP hG hS (va_recv hK hP (ci := 0) (q0 := 1) rfl (oh_wg (by decide) (sX_1 hT))) rfl hl.1 rfl (Nat.le_of_ble_eq_true rfl) dX5_shorten_16 ⟨Nat.le_of_ble_eq_true rfl, Nat.le_of_ble_eq_true rfl⟩ (fun r_3 hq_4 => ?_)
  subst hq_4
  refine lv_istore_n (lv' := [(3, .int (ga (C 11) ((x1 * 7) + 1).toNatClampNeg)), (2, .int (ga (C 11) ((x1 * 7) + 0).toNatClampNeg)), (0, .ref (a 3)), (1, .int x1)]) hx hb dX5_shorten_19 rfl hl (by decide) rfl (fun ls hl => ?_)
  refine lv_aload_n hx hb dX5_shorten_20 rfl (lv_at hl 2 rfl) ?_
  refine va_get (D := D) (ci := 5) (v := .ref (a 27)) (C := RX5) (T := TX5) (N := 7) hx hb htg ig_5 hown hK hP 3 (oh_wg (by decide) (sX_3 hT)) rfl 5 (by decide) (htg _ q_174) (fun _ h9 => h9) rfl dX5_shorten_21 ?_
  refine lv_iload_n hx hb dX5_shorten_24 rfl (lv_at hl 1 rfl) ?_
  have n_5 : vp_in (ga (C 11) ((x1 * 7) + 0).toNatClampNeg) 16 := (rg_in (tA_rdc (lo := 0) (hi := 15) (tX_11 hT0) (rg_in (rg_add (lo := 0) (hi := 161) (rg_mul (lo := 0) (hi := 161) hx1 (rg_c (v := 7) (lo := 7) (hi := 7) (by decide)) (by decide)) (rg_c (v := 0) (lo := 0) (hi := 0) (by decide)) (by decide)) (by decide)) (oh_col (W := 7) hx1 rfl (rg_c (v := 0) (lo := 0) (hi := 0) (by decide)) (by decide)) (by decide)) (by decide))
  refine th_iald hx hb hK hP 27 (by decide) (sX_27 hT) n_5 dX5_shorten_25 ?_
  refine lv_ldc (v := 1000000000) hx hb hown (htg _ q_794) dX5_shorten_26 ?_
  refine lv_icmp_eq (tgt := 74) hx hb dX5_shorten_28 (by decide) (fun (c_6 : (ga (C 27) (ga (C 11) ((x1 * 7) + 0).toNatClampNeg).toNatClampNeg) = 1000000000) => ?_) (fun (c_6 : ¬ ((ga (C 27) (ga (C 11) ((x1 * 7) + 0).toNatClampNeg).toNatClampNeg) = 1000000000)) => ?_)
  · refine lv_aload_n hx hb dX5_shorten_74 rfl (lv_at hl 2 rfl) ?_
    refine va_get (D := D) (ci := 5) (v := .ref (a 27)) (C := RX5) (T := TX5) (N := 7) hx hb htg ig_5 hown hK hP 3 (oh_wg (by decide) (sX_3 hT)) rfl 5 (by decide) (htg _ q_174) (fun _ h9 => h9) rfl dX5_shorten_75 ?_
    refine lv_iload_n hx hb dX5_shorten_78 rfl (lv_at hl 0 rfl) ?_
    have n_7 : vp_in (ga (C 11) ((x1 * 7) + 1).toNatClampNeg) 16 := (rg_in (tA_rdc (lo := 0) (hi := 15) (tX_11 hT0) (rg_in (rg_add (lo := 1) (hi := 162) (rg_mul (lo := 0) (hi := 161) hx1 (rg_c (v := 7) (lo := 7) (hi := 7) (by decide)) (by decide)) (rg_c (v := 1) (lo := 1) (hi := 1) (by decide)) (by decide)) (by decide)) (oh_col (W := 7) hx1 rfl (rg_c (v := 1) (lo := 1) (hi := 1) (by decide)) (by decide)) (by decide)) (by decide))
    refine th_iald hx hb hK hP 27 (by decide) (sX_27 hT) n_7 dX5_shorten_79 ?_
    refine lv_ldc (v := 1000000000) hx hb hown (htg _ q_794) dX5_shorten_80 ?_
    refine lv_icmp_eq (tgt := 128) hx hb dX5_shorten_82 (by decide) (fun (c_8 : (ga (C 27) (ga (C 11) ((x1 * 7) + 1).toNatClampNeg).toNatClampNeg) = 1000000000) => ?_) (fun (c_8 : ¬ ((ga (C 27) (ga (C 11) ((x1 * 7) + 1).toNatClampNeg).toNatClampNeg) = 1000000000)) => ?_)
    · refine lv_iconst (v := 0) hx hb dX5_shorten_128 (by decide) ?_
      rw [hQ]
      exact W.zret (v := 0) (ty := .boolean) hx hb hr (by decide) (fun t ht hW => ⟨⟨0, C, rfl, ⟨hT, hF, ⟨(Or.inl rfl), (Or.inr (Or.inr ⟨rfl, (fun z => absurd c_6 z), (fun z => absurd c_8 z), rfl⟩))⟩⟩, ⟨by rw [ht]; exact hP, hD⟩⟩, hS.F ht⟩) hS.2.2 dX5_shorten_129
    · refine lv_aload_n hx hb dX5_shorten_85 rfl (lv_at hl 2 rfl) ?_
      refine va_get (D := D) (ci := 5) (v := .ref (a 27)) (C := RX5) (T := TX5) (N := 7) hx hb htg ig_5 hown hK hP 3 (oh_wg (by decide) (sX_3 hT)) rfl 5 (by decide) (htg _ q_174) (fun _ h9 => h9) rfl dX5_shorten_86 ?_
      refine lv_iload_n hx hb dX5_shorten_89 rfl (lv_at hl 0 rfl) ?_
      have n_9 : vp_in (ga (C 11) ((x1 * 7) + 1).toNatClampNeg) 16 := (rg_in (tA_rdc (lo := 0) (hi := 15) (tX_11 hT0) (rg_in (rg_add (lo := 1) (hi := 162) (rg_mul (lo := 0) (hi := 161) hx1 (rg_c (v := 7) (lo := 7) (hi := 7) (by decide)) (by decide)) (rg_c (v := 1) (lo := 1) (hi := 1) (by decide)) (by decide)) (by decide)) (oh_col (W := 7) hx1 rfl (rg_c (v := 1) (lo := 1) (hi := 1) (by decide)) (by decide)) (by decide)) (by decide))
      refine th_iald hx hb hK hP 27 (by decide) (sX_27 hT) n_9 dX5_shorten_90 ?_
      refine lv_aload_n hx hb dX5_shorten_91 rfl (lv_at hl 2 rfl) ?_
      refine va_get (D := D) (ci := 5) (v := .ref (a 26)) (C := RX5) (T := TX5) (N := 7) hx hb htg ig_5 hown hK hP 3 (oh_wg (by decide) (sX_3 hT)) rfl 4 (by decide) (htg _ q_173) (fun _ h9 => h9) rfl dX5_shorten_92 ?_
      refine lv_iload_n hx hb dX5_shorten_95 rfl (lv_at hl 3 rfl) ?_
      have n_10 : vp_in x1 24 := (rg_in hx1 (by decide))
      refine th_iald hx hb hK hP 26 (by decide) (sX_26 hT) n_10 dX5_shorten_96 ?_
      refine lv_iadd hx hb dX5_shorten_97 ?_
      refine lv_aload_n hx hb dX5_shorten_98 rfl (lv_at hl 2 rfl) ?_
      refine va_get (D := D) (ci := 5) (v := .ref (a 27)) (C := RX5) (T := TX5) (N := 7) hx hb htg ig_5 hown hK hP 3 (oh_wg (by decide) (sX_3 hT)) rfl 5 (by decide) (htg _ q_174) (fun _ h9 => h9) rfl dX5_shorten_99 ?_
      refine lv_iload_n hx hb dX5_shorten_102 rfl (lv_at hl 1 rfl) ?_
      have n_11 : vp_in (ga (C 11) ((x1 * 7) + 0).toNatClampNeg) 16 := (rg_in (tA_rdc (lo := 0) (hi := 15) (tX_11 hT0) (rg_in (rg_add (lo := 0) (hi := 161) (rg_mul (lo := 0) (hi := 161) hx1 (rg_c (v := 7) (lo := 7) (hi := 7) (by decide)) (by decide)) (rg_c (v := 0) (lo := 0) (hi := 0) (by decide)) (by decide)) (by decide)) (oh_col (W := 7) hx1 rfl (rg_c (v := 0) (lo := 0) (hi := 0) (by decide)) (by decide)) (by decide)) (by decide))
      refine th_iald hx hb hK hP 27 (by decide) (sX_27 hT) n_11 dX5_shorten_103 ?_
      refine lv_icmp_ge (tgt := 128) hx hb dX5_shorten_104 (by decide) (fun (c_12 : (ga (C 27) (ga (C 11) ((x1 * 7) + 0).toNatClampNeg).toNatClampNeg) ≤ ((ga (C 27) (ga (C 11) ((x1 * 7) + 1).toNatClampNeg).toNatClampNeg) + (ga (C 26) (x1).toNatClampNeg))) => ?_) (fun (c_12 : ¬ ((ga (C 27) (ga (C 11) ((x1 * 7) + 0).toNatClampNeg).toNatClampNeg) ≤ ((ga (C 27) (ga (C 11) ((x1 * 7) + 1).toNatClampNeg).toNatClampNeg) + (ga (C 26) (x1).toNatClampNeg)))) => ?_)
      · refine lv_iconst (v := 0) hx hb dX5_shorten_128 (by decide) ?_
        rw [hQ]
        exact W.zret (v := 0) (ty := .boolean) hx hb hr (by decide) (fun t ht hW => ⟨⟨0, C, rfl, ⟨hT, hF, ⟨(Or.inl rfl), (Or.inr (Or.inr ⟨rfl, (fun z => absurd c_6 z), (fun _ => Int32.not_lt.mpr c_12), rfl⟩))⟩⟩, ⟨by rw [ht]; exact hP, hD⟩⟩, hS.F ht⟩) hS.2.2 dX5_shorten_129
      · refine lv_aload_n hx hb dX5_shorten_107 rfl (lv_at hl 2 rfl) ?_
        refine va_get (D := D) (ci := 5) (v := .ref (a 27)) (C := RX5) (T := TX5) (N := 7) hx hb htg ig_5 hown hK hP 3 (oh_wg (by decide) (sX_3 hT)) rfl 5 (by decide) (htg _ q_174) (fun _ h9 => h9) rfl dX5_shorten_108 ?_
        refine lv_iload_n hx hb dX5_shorten_111 rfl (lv_at hl 1 rfl) ?_
        refine lv_aload_n hx hb dX5_shorten_112 rfl (lv_at hl 2 rfl) ?_
        refine va_get (D := D) (ci := 5) (v := .ref (a 27)) (C := RX5) (T := TX5) (N := 7) hx hb htg ig_5 hown hK hP 3 (oh_wg (by decide) (sX_3 hT)) rfl 5 (by decide) (htg _ q_174) (fun _ h9 => h9) rfl dX5_shorten_113 ?_
        refine lv_iload_n hx hb dX5_shorten_116 rfl (lv_at hl 0 rfl) ?_
        have n_13 : vp_in (ga (C 11) ((x1 * 7) + 1).toNatClampNeg) 16 := (rg_in (tA_rdc (lo := 0) (hi := 15) (tX_11 hT0) (rg_in (rg_add (lo := 1) (hi := 162) (rg_mul (lo := 0) (hi := 161) hx1 (rg_c (v := 7) (lo := 7) (hi := 7) (by decide)) (by decide)) (rg_c (v := 1) (lo := 1) (hi := 1) (by decide)) (by decide)) (by decide)) (oh_col (W := 7) hx1 rfl (rg_c (v := 1) (lo := 1) (hi := 1) (by decide)) (by decide)) (by decide)) (by decide))
        refine th_iald hx hb hK hP 27 (by decide) (sX_27 hT) n_13 dX5_shorten_117 ?_
        refine lv_aload_n hx hb dX5_shorten_118 rfl (lv_at hl 2 rfl) ?_
        refine va_get (D := D) (ci := 5) (v := .ref (a 26)) (C := RX5) (T := TX5) (N := 7) hx hb htg ig_5 hown hK hP 3 (oh_wg (by decide) (sX_3 hT)) rfl 4 (by decide) (htg _ q_173) (fun _ h9 => h9) rfl dX5_shorten_119 ?_
        refine lv_iload_n hx hb dX5_shorten_122 rfl (lv_at hl 3 rfl) ?_
        have n_14 : vp_in x1 24 := (rg_in hx1 (by decide))
        refine th_iald hx hb hK hP 26 (by decide) (sX_26 hT) n_14 dX5_shorten_123 ?_
        refine lv_iadd hx hb dX5_shorten_124 ?_
        have n_15 : vp_in (ga (C 11) ((x1 * 7) + 0).toNatClampNeg) 16 := (rg_in (tA_rdc (lo := 0) (hi := 15) (tX_11 hT0) (rg_in (rg_add (lo := 0) (hi := 161) (rg_mul (lo := 0) (hi := 161) hx1 (rg_c (v := 7) (lo := 7) (hi := 7) (by decide)) (by decide)) (rg_c (v := 0) (lo := 0) (hi := 0) (by decide)) (by decide)) (by decide)) (oh_col (W := 7) hx1 rfl (rg_c (v := 0) (lo := 0) (hi := 0) (by decide)) (by decide)) (by decide)) (by decide))
        refine th_iast (T := TyX a E) (Rl := fr [(27, 28)] [] C) hx hb hK hP hD hS 27 (by decide) (sX_27 hT) n_15 (hT.up 27 (tA_upd (tX_27 hT) tA_any)) (fr_st hF (by decide) (by decide)) dX5_shorten_125 (fun C_16 H locs e_17 hT hF hP hD hS => ?_)
        have t_18 := hT
        refine lv_iconst (v := 1) hx hb dX5_shorten_126 (by decide) ?_
        rw [hQ]
        exact W.zret (v := 1) (ty := .boolean) hx hb hr (by decide) (fun t ht hW => ⟨⟨1, C_16, rfl, ⟨hT, hF, ⟨(Or.inr rfl), (Or.inr (Or.inl ⟨rfl, c_8, (Int32.not_le.mp c_12), st_ga e_17⟩))⟩⟩, ⟨by rw [ht]; exact hP, hD⟩⟩, hS.F ht⟩) hS.2.2 dX5_shorten_127
  · refine lv_aload_n hx hb dX5_shorten_31 rfl (lv_at hl 2 rfl) ?_
    refine va_get (D := D) (ci := 5) (v := .ref (a 27)) (C := RX5) (T := TX5) (N := 7) hx hb htg ig_5 hown hK hP 3 (oh_wg (by decide) (sX_3 hT)) rfl 5 (by decide) (htg _ q_174) (fun _ h9 => h9) rfl dX5_shorten_32 ?_
    refine lv_iload_n hx hb dX5_shorten_35 rfl (lv_at hl 1 rfl) ?_
    have n_19 : vp_in (ga (C 11) ((x1 * 7) + 0).toNatClampNeg) 16 := (rg_in (tA_rdc (lo := 0) (hi := 15) (tX_11 hT0) (rg_in (rg_add (lo := 0) (hi := 161) (rg_mul (lo := 0) (hi := 161) hx1 (rg_c (v := 7) (lo := 7) (hi := 7) (by decide)) (by decide)) (rg_c (v := 0) (lo := 0) (hi := 0) (by decide)) (by decide)) (by decide)) (oh_col (W := 7) hx1 rfl (rg_c (v := 0) (lo := 0) (hi := 0) (by decide)) (by decide)) (by decide)) (by decide))
    refine th_iald hx hb hK hP 27 (by decide) (sX_27 hT) n_19 dX5_shorten_36 ?_
    refine lv_aload_n hx hb dX5_shorten_37 rfl (lv_at hl 2 rfl) ?_
    refine va_get (D := D) (ci := 5) (v := .ref (a 26)) (C := RX5) (T := TX5) (N := 7) hx hb htg ig_5 hown hK hP 3 (oh_wg (by decide) (sX_3 hT)) rfl 4 (by decide) (htg _ q_173) (fun _ h9 => h9) rfl dX5_shorten_38 ?_
    refine lv_iload_n hx hb dX5_shorten_41 rfl (lv_at hl 3 rfl) ?_
    have n_20 : vp_in x1 24 := (rg_in hx1 (by decide))
    refine th_iald hx hb hK hP 26 (by decide) (sX_26 hT) n_20 dX5_shorten_42 ?_
    refine lv_iadd hx hb dX5_shorten_43 ?_
    refine lv_aload_n hx hb dX5_shorten_44 rfl (lv_at hl 2 rfl) ?_
    refine va_get (D := D) (ci := 5) (v := .ref (a 27)) (C := RX5) (T := TX5) (N := 7) hx hb htg ig_5 hown hK hP 3 (oh_wg (by decide) (sX_3 hT)) rfl 5 (by decide) (htg _ q_174) (fun _ h9 => h9) rfl dX5_shorten_45 ?_
    refine lv_iload_n hx hb dX5_shorten_48 rfl (lv_at hl 0 rfl) ?_
    have n_21 : vp_in (ga (C 11) ((x1 * 7) + 1).toNatClampNeg) 16 := (rg_in (tA_rdc (lo := 0) (hi := 15) (tX_11 hT0) (rg_in (rg_add (lo := 1) (hi := 162) (rg_mul (lo := 0) (hi := 161) hx1 (rg_c (v := 7) (lo := 7) (hi := 7) (by decide)) (by decide)) (rg_c (v := 1) (lo := 1) (hi := 1) (by decide)) (by decide)) (by decide)) (oh_col (W := 7) hx1 rfl (rg_c (v := 1) (lo := 1) (hi := 1) (by decide)) (by decide)) (by decide)) (by decide))
    refine th_iald hx hb hK hP 27 (by decide) (sX_27 hT) n_21 dX5_shorten_49 ?_
    refine lv_icmp_ge (tgt := 74) hx hb dX5_shorten_50 (by decide) (fun (c_22 : (ga (C 27) (ga (C 11) ((x1 * 7) + 1).toNatClampNeg).toNatClampNeg) ≤ ((ga (C 27) (ga (C 11) ((x1 * 7) + 0).toNatClampNeg).toNatClampNeg) + (ga (C 26) (x1).toNatClampNeg))) => ?_) (fun (c_22 : ¬ ((ga (C 27) (ga (C 11) ((x1 * 7) + 1).toNatClampNeg).toNatClampNeg) ≤ ((ga (C 27) (ga (C 11) ((x1 * 7) + 0).toNatClampNeg).toNatClampNeg) + (ga (C 26) (x1).toNatClampNeg)))) => ?_)
    · refine lv_aload_n hx hb dX5_shorten_74 rfl (lv_at hl 2 rfl) ?_
      refine va_get (D := D) (ci := 5) (v := .ref (a 27)) (C := RX5) (T := TX5) (N := 7) hx hb htg ig_5 hown hK hP 3 (oh_wg (by decide) (sX_3 hT)) rfl 5 (by decide) (htg _ q_174) (fun _ h9 => h9) rfl dX5_shorten_75 ?_
      refine lv_iload_n hx hb dX5_shorten_78 rfl (lv_at hl 0 rfl) ?_
      have n_23 : vp_in (ga (C 11) ((x1 * 7) + 1).toNatClampNeg) 16 := (rg_in (tA_rdc (lo := 0) (hi := 15) (tX_11 hT0) (rg_in (rg_add (lo := 1) (hi := 162) (rg_mul (lo := 0) (hi := 161) hx1 (rg_c (v := 7) (lo := 7) (hi := 7) (by decide)) (by decide)) (rg_c (v := 1) (lo := 1) (hi := 1) (by decide)) (by decide)) (by decide)) (oh_col (W := 7) hx1 rfl (rg_c (v := 1) (lo := 1) (hi := 1) (by decide)) (by decide)) (by decide)) (by decide))
      refine th_iald hx hb hK hP 27 (by decide) (sX_27 hT) n_23 dX5_shorten_79 ?_
      refine lv_ldc (v := 1000000000) hx hb hown (htg _ q_794) dX5_shorten_80 ?_
      refine lv_icmp_eq (tgt := 128) hx hb dX5_shorten_82 (by decide) (fun (c_24 : (ga (C 27) (ga (C 11) ((x1 * 7) + 1).toNatClampNeg).toNatClampNeg) = 1000000000) => ?_) (fun (c_24 : ¬ ((ga (C 27) (ga (C 11) ((x1 * 7) + 1).toNatClampNeg).toNatClampNeg) = 1000000000)) => ?_)
      · refine lv_iconst (v := 0) hx hb dX5_shorten_128 (by decide) ?_
        rw [hQ]
        exact W.zret (v := 0) (ty := .boolean) hx hb hr (by decide) (fun t ht hW => ⟨⟨0, C, rfl, ⟨hT, hF, ⟨(Or.inl rfl), (Or.inr (Or.inr ⟨rfl, (fun _ => Int32.not_lt.mpr c_22), (fun z => absurd c_24 z), rfl⟩))⟩⟩, ⟨by rw [ht]; exact hP, hD⟩⟩, hS.F ht⟩) hS.2.2 dX5_shorten_129
      · refine lv_aload_n hx hb dX5_shorten_85 rfl (lv_at hl 2 rfl) ?_
        refine va_get (D := D) (ci := 5) (v := .ref (a 27)) (C := RX5) (T := TX5) (N := 7) hx hb htg ig_5 hown hK hP 3 (oh_wg (by decide) (sX_3 hT)) rfl 5 (by decide) (htg _ q_174) (fun _ h9 => h9) rfl dX5_shorten_86 ?_
        refine lv_iload_n hx hb dX5_shorten_89 rfl (lv_at hl 0 rfl) ?_
        have n_25 : vp_in (ga (C 11) ((x1 * 7) + 1).toNatClampNeg) 16 := (rg_in (tA_rdc (lo := 0) (hi := 15) (tX_11 hT0) (rg_in (rg_add (lo := 1) (hi := 162) (rg_mul (lo := 0) (hi := 161) hx1 (rg_c (v := 7) (lo := 7) (hi := 7) (by decide)) (by decide)) (rg_c (v := 1) (lo := 1) (hi := 1) (by decide)) (by decide)) (by decide)) (oh_col (W := 7) hx1 rfl (rg_c (v := 1) (lo := 1) (hi := 1) (by decide)) (by decide)) (by decide)) (by decide))
        refine th_iald hx hb hK hP 27 (by decide) (sX_27 hT) n_25 dX5_shorten_90 ?_
        refine lv_aload_n hx hb dX5_shorten_91 rfl (lv_at hl 2 rfl) ?_
        refine va_get (D := D) (ci := 5) (v := .ref (a 26)) (C := RX5) (T := TX5) (N := 7) hx hb htg ig_5 hown hK hP 3 (oh_wg (by decide) (sX_3 hT)) rfl 4 (by decide) (htg _ q_173) (fun _ h9 => h9) rfl dX5_shorten_92 ?_
        refine lv_iload_n hx hb dX5_shorten_95 rfl (lv_at hl 3 rfl) ?_
        have n_26 : vp_in x1 24 := (rg_in hx1 (by decide))
        refine th_iald hx hb hK hP 26 (by decide) (sX_26 hT) n_26 dX5_shorten_96 ?_
        refine lv_iadd hx hb dX5_shorten_97 ?_
        refine lv_aload_n hx hb dX5_shorten_98 rfl (lv_at hl 2 rfl) ?_
        refine va_get (D := D) (ci := 5) (v := .ref (a 27)) (C := RX5) (T := TX5) (N := 7) hx hb htg ig_5 hown hK hP 3 (oh_wg (by decide) (sX_3 hT)) rfl 5 (by decide) (htg _ q_174) (fun _ h9 => h9) rfl dX5_shorten_99 ?_
        refine lv_iload_n hx hb dX5_shorten_102 rfl (lv_at hl 1 rfl) ?_
        have n_27 : vp_in (ga (C 11) ((x1 * 7) + 0).toNatClampNeg) 16 := (rg_in (tA_rdc (lo := 0) (hi := 15) (tX_11 hT0) (rg_in (rg_add (lo := 0) (hi := 161) (rg_mul (lo := 0) (hi := 161) hx1 (rg_c (v := 7) (lo := 7) (hi := 7) (by decide)) (by decide)) (rg_c (v := 0) (lo := 0) (hi := 0) (by decide)) (by decide)) (by decide)) (oh_col (W := 7) hx1 rfl (rg_c (v := 0) (lo := 0) (hi := 0) (by decide)) (by decide)) (by decide)) (by decide))
        refine th_iald hx hb hK hP 27 (by decide) (sX_27 hT) n_27 dX5_shorten_103 ?_
        refine lv_icmp_ge (tgt := 128) hx hb dX5_shorten_104 (by decide) (fun (c_28 : (ga (C 27) (ga (C 11) ((x1 * 7) + 0).toNatClampNeg).toNatClampNeg) ≤ ((ga (C 27) (ga (C 11) ((x1 * 7) + 1).toNatClampNeg).toNatClampNeg) + (ga (C 26) (x1).toNatClampNeg))) => ?_) (fun (c_28 : ¬ ((ga (C 27) (ga (C 11) ((x1 * 7) + 0).toNatClampNeg).toNatClampNeg) ≤ ((ga (C 27) (ga (C 11) ((x1 * 7) + 1).toNatClampNeg).toNatClampNeg) + (ga (C 26) (x1).toNatClampNeg)))) => ?_)
        · refine lv_iconst (v := 0) hx hb dX5_shorten_128 (by decide) ?_
          rw [hQ]
          exact W.zret (v := 0) (ty := .boolean) hx hb hr (by decide) (fun t ht hW => ⟨⟨0, C, rfl, ⟨hT, hF, ⟨(Or.inl rfl), (Or.inr (Or.inr ⟨rfl, (fun _ => Int32.not_lt.mpr c_22), (fun _ => Int32.not_lt.mpr c_28), rfl⟩))⟩⟩, ⟨by rw [ht]; exact hP, hD⟩⟩, hS.F ht⟩) hS.2.2 dX5_shorten_129
        · refine lv_aload_n hx hb dX5_shorten_107 rfl (lv_at hl 2 rfl) ?_
          refine va_get (D := D) (ci := 5) (v := .ref (a 27)) (C := RX5) (T := TX5) (N := 7) hx hb htg ig_5 hown hK hP 3 (oh_wg (by decide) (sX_3 hT)) rfl 5 (by decide) (htg _ q_174) (fun _ h9 => h9) rfl dX5_shorten_108 ?_
          refine lv_iload_n hx hb dX5_shorten_111 rfl (lv_at hl 1 rfl) ?_
          refine lv_aload_n hx hb dX5_shorten_112 rfl (lv_at hl 2 rfl) ?_
          refine va_get (D := D) (ci := 5) (v := .ref (a 27)) (C := RX5) (T := TX5) (N := 7) hx hb htg ig_5 hown hK hP 3 (oh_wg (by decide) (sX_3 hT)) rfl 5 (by decide) (htg _ q_174) (fun _ h9 => h9) rfl dX5_shorten_113 ?_
          refine lv_iload_n hx hb dX5_shorten_116 rfl (lv_at hl 0 rfl) ?_
          have n_29 : vp_in (ga (C 11) ((x1 * 7) + 1).toNatClampNeg) 16 := (rg_in (tA_rdc (lo := 0) (hi := 15) (tX_11 hT0) (rg_in (rg_add (lo := 1) (hi := 162) (rg_mul (lo := 0) (hi := 161) hx1 (rg_c (v := 7) (lo := 7) (hi := 7) (by decide)) (by decide)) (rg_c (v := 1) (lo := 1) (hi := 1) (by decide)) (by decide)) (by decide)) (oh_col (W := 7) hx1 rfl (rg_c (v := 1) (lo := 1) (hi := 1) (by decide)) (by decide)) (by decide)) (by decide))
          refine th_iald hx hb hK hP 27 (by decide) (sX_27 hT) n_29 dX5_shorten_117 ?_
          refine lv_aload_n hx hb dX5_shorten_118 rfl (lv_at hl 2 rfl) ?_
          refine va_get (D := D) (ci := 5) (v := .ref (a 26)) (C := RX5) (T := TX5) (N := 7) hx hb htg ig_5 hown hK hP 3 (oh_wg (by decide) (sX_3 hT)) rfl 4 (by decide) (htg _ q_173) (fun _ h9 => h9) rfl dX5_shorten_119 ?_
          refine lv_iload_n hx hb dX5_shorten_122 rfl (lv_at hl 3 rfl) ?_
          have n_30 : vp_in x1 24 := (rg_in hx1 (by decide))
          refine th_iald hx hb hK hP 26 (by decide) (sX_26 hT) n_30 dX5_shorten_123 ?_
          refine lv_iadd hx hb dX5_shorten_124 ?_
          have n_31 : vp_in (ga (C 11) ((x1 * 7) + 0).toNatClampNeg) 16 := (rg_in (tA_rdc (lo := 0) (hi := 15) (tX_11 hT0) (rg_in (rg_add (lo := 0) (hi := 161) (rg_mul (lo := 0) (hi := 161) hx1 (rg_c (v := 7) (lo := 7) (hi := 7) (by decide)) (by decide)) (rg_c (v := 0) (lo := 0) (hi := 0) (by decide)) (by decide)) (by decide)) (oh_col (W := 7) hx1 rfl (rg_c (v := 0) (lo := 0) (hi := 0) (by decide)) (by decide)) (by decide)) (by decide))
          refine th_iast (T := TyX a E) (Rl := fr [(27, 28)] [] C) hx hb hK hP hD hS 27 (by decide) (sX_27 hT) n_31 (hT.up 27 (tA_upd (tX_27 hT) tA_any)) (fr_st hF (by decide) (by decide)) dX5_shorten_125 (fun C_32 H locs e_33 hT hF hP hD hS => ?_)
          have t_34 := hT
          refine lv_iconst (v := 1) hx hb dX5_shorten_126 (by decide) ?_
          rw [hQ]
          exact W.zret (v := 1) (ty := .boolean) hx hb hr (by decide) (fun t ht hW => ⟨⟨1, C_32, rfl, ⟨hT, hF, ⟨(Or.inr rfl), (Or.inr (Or.inl ⟨rfl, c_24, (Int32.not_le.mp c_28), st_ga e_33⟩))⟩⟩, ⟨by rw [ht]; exact hP, hD⟩⟩, hS.F ht⟩) hS.2.2 dX5_shorten_127
    · refine lv_aload_n hx hb dX5_shorten_53 rfl (lv_at hl 2 rfl) ?_
      refine va_get (D := D) (ci := 5) (v := .ref (a 27)) (C := RX5) (T := TX5) (N := 7) hx hb htg ig_5 hown hK hP 3 (oh_wg (by decide) (sX_3 hT)) rfl 5 (by decide) (htg _ q_174) (fun _ h9 => h9) rfl dX5_shorten_54 ?_
      refine lv_iload_n hx hb dX5_shorten_57 rfl (lv_at hl 0 rfl) ?_
      refine lv_aload_n hx hb dX5_shorten_58 rfl (lv_at hl 2 rfl) ?_
      refine va_get (D := D) (ci := 5) (v := .ref (a 27)) (C := RX5) (T := TX5) (N := 7) hx hb htg ig_5 hown hK hP 3 (oh_wg (by decide) (sX_3 hT)) rfl 5 (by decide) (htg _ q_174) (fun _ h9 => h9) rfl dX5_shorten_59 ?_
      refine lv_iload_n hx hb dX5_shorten_62 rfl (lv_at hl 1 rfl) ?_
      have n_35 : vp_in (ga (C 11) ((x1 * 7) + 0).toNatClampNeg) 16 := (rg_in (tA_rdc (lo := 0) (hi := 15) (tX_11 hT0) (rg_in (rg_add (lo := 0) (hi := 161) (rg_mul (lo := 0) (hi := 161) hx1 (rg_c (v := 7) (lo := 7) (hi := 7) (by decide)) (by decide)) (rg_c (v := 0) (lo := 0) (hi := 0) (by decide)) (by decide)) (by decide)) (oh_col (W := 7) hx1 rfl (rg_c (v := 0) (lo := 0) (hi := 0) (by decide)) (by decide)) (by decide)) (by decide))
      refine th_iald hx hb hK hP 27 (by decide) (sX_27 hT) n_35 dX5_shorten_63 ?_
      refine lv_aload_n hx hb dX5_shorten_64 rfl (lv_at hl 2 rfl) ?_
      refine va_get (D := D) (ci := 5) (v := .ref (a 26)) (C := RX5) (T := TX5) (N := 7) hx hb htg ig_5 hown hK hP 3 (oh_wg (by decide) (sX_3 hT)) rfl 4 (by decide) (htg _ q_173) (fun _ h9 => h9) rfl dX5_shorten_65 ?_
      refine lv_iload_n hx hb dX5_shorten_68 rfl (lv_at hl 3 rfl) ?_
      have n_36 : vp_in x1 24 := (rg_in hx1 (by decide))
      refine th_iald hx hb hK hP 26 (by decide) (sX_26 hT) n_36 dX5_shorten_69 ?_
      refine lv_iadd hx hb dX5_shorten_70 ?_
      have n_37 : vp_in (ga (C 11) ((x1 * 7) + 1).toNatClampNeg) 16 := (rg_in (tA_rdc (lo := 0) (hi := 15) (tX_11 hT0) (rg_in (rg_add (lo := 1) (hi := 162) (rg_mul (lo := 0) (hi := 161) hx1 (rg_c (v := 7) (lo := 7) (hi := 7) (by decide)) (by decide)) (rg_c (v := 1) (lo := 1) (hi := 1) (by decide)) (by decide)) (by decide)) (oh_col (W := 7) hx1 rfl (rg_c (v := 1) (lo := 1) (hi := 1) (by decide)) (by decide)) (by decide)) (by decide))
      refine th_iast (T := TyX a E) (Rl := fr [(27, 28)] [] C) hx hb hK hP hD hS 27 (by decide) (sX_27 hT) n_37 (hT.up 27 (tA_upd (tX_27 hT) tA_any)) (fr_st hF (by decide) (by decide)) dX5_shorten_71 (fun C_38 H locs e_39 hT hF hP hD hS => ?_)
      have t_40 := hT
      refine lv_iconst (v := 1) hx hb dX5_shorten_72 (by decide) ?_
      rw [hQ]
      exact W.zret (v := 1) (ty := .boolean) hx hb hr (by decide) (fun t ht hW => ⟨⟨1, C_38, rfl, ⟨hT, hF, ⟨(Or.inr rfl), (Or.inl ⟨rfl, c_6, (Int32.not_le.mp c_22), st_ga e_39⟩)⟩⟩, ⟨by rw [ht]; exact hP, hD⟩⟩, hS.F ht⟩) hS.2.2 dX5_shorten_73
theorem z_s23 {z : Int32} (h : rg z 0 23) : (z + 1).toNatClampNeg = z.toNatClampNeg + 1 := by
  have e2 := oh_inc24 (x := z) ⟨h.1, by have := h.2; omega⟩
  have a := oh_nat h (by decide)
  have b := oh_nat (i := z + 1) (l := 0) (u := 24) ⟨by rw [e2]; have := h.1; omega, by rw [e2]; have := h.2; omega⟩ (by decide)
  omega

set_option maxHeartbeats 4000000 in
set_option maxRecDepth 100000 in
theorem e_X5_spread (l : Launch) (D : va_G) (E : Nat → ClassId) (G : Nat → Nat) (sz : Nat) (a : Nat → Nat) (C : Nat → va_E) (hT : TyX a E C) (x1 : Int32) (hx1 : rg x1 0 15) : Met l yX5_spread (oh_w yX5_spread cX5_spread 5 none) ({ frames := 2, cells := 0, slots := 0, locals := 45 }) (oh_Pm D E G [.ref (a 3), .int x1] (oh_W 35 a C) sz) (va_Qv (fun (u : Nat → va_E) => TyX a E u ∧ fr [(27, 28)] [] C u ∧ (∀ (nn : Nat) (ea eb : Nat → Nat) (eg : Nat → Prop) (ec : Nat → Nat), GX C nn ea eb eg ec → nnF (ga (u 27)) ∧ Dn (EdR nn ea eb eg ec) x1.toNatClampNeg 1000000000 (fN (ga (u 27))))) (oh_B D (va_A (oh_W 35 a C) sz) (fun u => oh_W 35 a u)) (va_A (oh_W 35 a C) sz)) 0 0 (va_A (oh_W 35 a C) sz) := by
  refine Met.ofW (cc := cX5_spread) (maxL := 5) (ret := none) (by decide) rfl ?_
  intro p e s m args below meth c s₁ B hml hv
  obtain ⟨rfl, hsz, hP, hK, hD0, hG⟩ := hv
  have hx := B.exec
  have hb := B.bytes
  have hr := B.returns
  have hts := atoms_spec (ws := (oh_w yX5_spread cX5_spread 5 none)) B.pre
  have htg : ∀ w ∈ oh_t, w.before _ s = true := fun w h => hts w (List.mem_cons_of_mem _ h)
  have hown : s.vm.findClass RX5 = some m.cls := findClass_of_methodNamed B.named
  have hlocks := B.notSynchronized
  have hT0 := hT
  subst hsz
  have hD := hD0.self (sz := s.heap.size)
  generalize hAe : va_A (oh_W 35 a C) s.heap.size = A at hD hG ⊢
  have hA : ∀ q : Nat, s.heap.size ≤ q → A q := fun q h => by rw [← hAe]; exact Or.inr h
  have hS : va_S A s.heap s.heap [] := va_S.rf
  have hF : fr [(27, 28)] [] C C := fr_rf
  have hl := lv_entry ([.ref (a 3), .int x1]) (n := 5) (Nat.le_of_ble_eq_true rfl)
  rw [lg_entry_eq]
  generalize (lg_sl ([.ref (a 3), .int x1]) ++ List.replicate (5 - (lg_sl ([.ref (a 3), .int x1])).length) Slot.unset).toArray = ls at hl ⊢
  have hl : lv_has ls 5 [(0, .ref (a 3)), (1, .int x1)] := hl
  refine oh_genQ (fun Q hQ => ?_)
  refine lv_iconst (v := 0) hx hb dX5_spread_0 (by decide) ?_
  refine lv_istore_n (lv' := [(2, .int 0), (0, .ref (a 3)), (1, .int x1)]) hx hb dX5_spread_1 rfl hl (by decide) rfl (fun ls hl => ?_)
  have L_2 : ∀ (d : Nat) (K2 : Nat → va_E) (z2_2 : Int32) (H : Heap) (locs : List Loc) (ls : Array Slot), (16 - z2_2.toInt).toNat = d → rg z2_2 0 16 → (∀ p : Nat, (p : Int) < z2_2.toInt → ga (K2 27) p = 1000000000) → TyX a E K2 → fr [(27, 28)] [] C K2 → fr [(27, 28)] [] C K2 → va_P D vwCl (oh_W 35 a K2) H → va_D A (oh_W 35 a K2) → va_S A s.heap H locs → lv_has ls 5 [(2, .int z2_2), (0, .ref (a 3)), (1, .int x1)] → W p l e ({ frames := 2, cells := 0, slots := 0, locals := 45 }) s m (([.ref (a 3), .int x1] : List Value).toArray) below meth c H locs 0 0 Q (F0 m 2 ls []) := by
    intro d
    induction d using Nat.strongRecOn with
    | ind d ih_2 =>
    intro K2 z2_2 H locs ls hd_2 hz2_2 hx_2 hT hF hLF_2 hP hD hS hl
    have t_1 := hT
    refine lv_iload_n hx hb dX5_spread_2 rfl (lv_at hl 0 rfl) ?_
    refine lv_bipush (v := 16) hx hb dX5_spread_3 (by decide) ?_
    refine lv_icmp_ge (tgt := 22) hx hb dX5_spread_5 (by decide) (fun (c_2 : (16 : Int32) ≤ z2_2) => ?_) (fun (c_2 : ¬ ((16 : Int32) ≤ z2_2)) => ?_)
    · refine lv_aload_n hx hb dX5_spread_22 rfl (lv_at hl 1 rfl) ?_
      refine va_get (D := D) (ci := 5) (v := .ref (a 27)) (C := RX5) (T := TX5) (N := 7) hx hb htg ig_5 hown hK hP 3 (oh_wg (by decide) (sX_3 hT)) rfl 5 (by decide) (htg _ q_174) (fun _ h9 => h9) rfl dX5_spread_23 ?_
      refine lv_iload_n hx hb dX5_spread_26 rfl (lv_at hl 2 rfl) ?_
      refine lv_iconst (v := 0) hx hb dX5_spread_27 (by decide) ?_
      have n_3 : vp_in x1 16 := (rg_in hx1 (by decide))
      refine th_iast (T := TyX a E) (Rl := fr [(27, 28)] [] C) hx hb hK hP hD hS 27 (by decide) (sX_27 hT) n_3 (hT.up 27 (tA_upd (tX_27 hT) tA_any)) (fr_st hF (by decide) (by decide)) dX5_spread_28 (fun C_4 H locs e_5 hT hF hP hD hS => ?_)
      have t_6 := hT
      refine lv_iconst (v := 1) hx hb dX5_spread_29 (by decide) ?_
      refine lv_istore_n (lv' := [(2, .int 1), (0, .ref (a 3)), (1, .int x1)]) hx hb dX5_spread_30 rfl hl (by decide) rfl (fun ls hl => ?_)
      refine lv_iconst (v := 0) hx hb dX5_spread_31 (by decide) ?_
      refine lv_istore_n (lv' := [(3, .int 0), (2, .int 1), (0, .ref (a 3)), (1, .int x1)]) hx hb dX5_spread_32 rfl hl (by decide) rfl (fun ls hl => ?_)
      have L_33 : ∀ (d : Nat) (K33 : Nat → va_E) (z33_3 : Int32) (z33_2 : Int32) (H : Heap) (locs : List Loc) (ls : Array Slot), (16 - z33_3.toInt).toNat = d → rg z33_3 0 16 → (∀ (nn : Nat) (ea eb : Nat → Nat) (eg : Nat → Prop) (ec : Nat → Nat), GX C nn ea eb eg ec → spO (EdR nn ea eb eg ec) x1.toNatClampNeg (ga (K33 27)) z33_3.toNatClampNeg z33_2) → TyX a E K33 → fr [(27, 28)] [] C K33 → fr [(27, 28)] [] C_4 K33 → va_P D vwCl (oh_W 35 a K33) H → va_D A (oh_W 35 a K33) → va_S A s.heap H locs → lv_has ls 5 [(3, .int z33_3), (2, .int z33_2), (0, .ref (a 3)), (1, .int x1)] → W p l e ({ frames := 2, cells := 0, slots := 0, locals := 45 }) s m (([.ref (a 3), .int x1] : List Value).toArray) below meth c H locs 0 0 Q (F0 m 33 ls []) := by
        intro d
        induction d using Nat.strongRecOn with
        | ind d ih_33 =>
        intro K33 z33_3 z33_2 H locs ls hd_33 hz33_3 hx_33 hT hF hLF_33 hP hD hS hl
        have t_7 := hT
        refine lv_iload_n hx hb dX5_spread_33 rfl (lv_at hl 0 rfl) ?_
        refine lv_bipush (v := 16) hx hb dX5_spread_34 (by decide) ?_
        refine lv_icmp_ge (tgt := 96) hx hb dX5_spread_36 (by decide) (fun (c_8 : (16 : Int32) ≤ z33_3) => ?_) (fun (c_8 : ¬ ((16 : Int32) ≤ z33_3)) => ?_)
        · rw [hQ]
          exact W.vret hx hb hr (fun t ht hW => ⟨⟨K33, rfl, ⟨hT, hF, (fun nn ea eb eg ec G => ⟨(hx_33 nn ea eb eg ec G).1, spO_e G (p16 hx1) (hx_33 nn ea eb eg ec G) (Or.inl (k16 (rg_w (lo := 0) (hi := 16) (rn_lel c_8 (rg_c (v := 16) (lo := 16) (hi := 16) (by decide)) hz33_3) (by decide)) c_8))⟩)⟩, ⟨by rw [ht]; exact hP, hD⟩⟩, hS.F ht⟩) hS.2.2 dX5_spread_96
        · refine lv_iload_n hx hb dX5_spread_39 rfl (lv_at hl 1 rfl) ?_
          refine lv_if_eq (tgt := 96) hx hb dX5_spread_40 (by decide) (fun (c_9 : z33_2 = 0) => ?_) (fun (c_9 : ¬ (z33_2 = 0)) => ?_)
          · rw [hQ]
            exact W.vret hx hb hr (fun t ht hW => ⟨⟨K33, rfl, ⟨hT, hF, (fun nn ea eb eg ec G => ⟨(hx_33 nn ea eb eg ec G).1, spO_e G (p16 hx1) (hx_33 nn ea eb eg ec G) (Or.inr c_9)⟩)⟩, ⟨by rw [ht]; exact hP, hD⟩⟩, hS.F ht⟩) hS.2.2 dX5_spread_96
          · refine lv_iconst (v := 0) hx hb dX5_spread_43 (by decide) ?_
            refine lv_istore_n (lv' := [(2, .int 0), (3, .int z33_3), (0, .ref (a 3)), (1, .int x1)]) hx hb dX5_spread_44 rfl hl (by decide) rfl (fun ls hl => ?_)
            refine lv_iconst (v := 0) hx hb dX5_spread_45 (by decide) ?_
            refine lv_istore (lv' := [(4, .int 0), (2, .int 0), (3, .int z33_3), (0, .ref (a 3)), (1, .int x1)]) hx hb dX5_spread_46 hl (by decide) rfl (fun ls hl => ?_)
            have L_48 : ∀ (d : Nat) (K48 : Nat → va_E) (z48_4 : Int32) (z48_2 : Int32) (H : Heap) (locs : List Loc) (ls : Array Slot), (24 - z48_4.toInt).toNat = d → rg z48_4 0 24 → (∀ (nn : Nat) (ea eb : Nat → Nat) (eg : Nat → Prop) (ec : Nat → Nat), GX C nn ea eb eg ec → spI nn ea eb eg ec x1.toNatClampNeg (ga (K33 27)) (ga (K48 27)) z48_4.toNatClampNeg z48_2) → (z48_4.toInt ≤ (ga (C 10) ((0 : Int32)).toNatClampNeg).toInt) → TyX a E K48 → fr [(27, 28)] [] C K48 → fr [(27, 28)] [] K33 K48 → va_P D vwCl (oh_W 35 a K48) H → va_D A (oh_W 35 a K48) → va_S A s.heap H locs → lv_has ls 5 [(4, .int z48_4), (2, .int z48_2), (3, .int z33_3), (0, .ref (a 3)), (1, .int x1)] → W p l e ({ frames := 2, cells := 0, slots := 0, locals := 45 }) s m (([.ref (a 3), .int x1] : List Value).toArray) below meth c H locs 0 0 Q (F0 m 48 ls []) := by
              intro d
              induction d using Nat.strongRecOn with
              | ind d ih_48 =>
              intro K48 z48_4 z48_2 H locs ls hd_48 hz48_4 hx_48 hy_48 hT hF hLF_48 hP hD hS hl
              have t_10 := hT
              refine lv_iload hx hb dX5_spread_48 (lv_at hl 0 rfl) ?_
              refine lv_aload_n hx hb dX5_spread_50 rfl (lv_at hl 3 rfl) ?_
              refine va_get (D := D) (ci := 5) (v := .ref (a 1)) (C := RX5) (T := TX5) (N := 7) hx hb htg ig_5 hown hK hP 3 (oh_wg (by decide) (sX_3 hT)) rfl 0 (by decide) (htg _ q_167) (fun _ h9 => h9) rfl dX5_spread_51 ?_
              refine va_get (D := D) (ci := 0) (v := .ref (a 10)) (C := RX0) (T := TX0) (N := 8) hx hb htg ig_0 hown hK hP 1 (oh_wg (by decide) (sX_1 hT)) rfl 0 (by decide) (htg _ q_99) (fun _ h9 => h9) rfl dX5_spread_54 ?_
              refine lv_iconst (v := 0) hx hb dX5_spread_57 (by decide) ?_
              refine th_iald hx hb hK hP 10 (by decide) (Eq.trans (Eq.trans (hLF_48.1 10 rfl (by decide)) (Eq.trans (hLF_33.1 10 rfl (by decide)) (Eq.trans (th_un e_5 (by decide)) (hLF_2.1 10 rfl (by decide))))) (sX_10 hT0)) (rg_in (rg_c (v := 0) (lo := 0) (hi := 0) (by decide)) (by decide)) dX5_spread_58 ?_
              refine lv_icmp_ge (tgt := 90) hx hb dX5_spread_59 (by decide) (fun (c_11 : (ga (C 10) ((0 : Int32)).toNatClampNeg) ≤ z48_4) => ?_) (fun (c_11 : ¬ ((ga (C 10) ((0 : Int32)).toNatClampNeg) ≤ z48_4)) => ?_)
              · refine lv_iinc (v := z33_3 + 1) (lv' := [(3, .int (z33_3 + 1)), (4, .int z48_4), (2, .int z48_2), (0, .ref (a 3)), (1, .int x1)]) hx hb dX5_spread_90 hl (k := 2) rfl (by rfl) (by decide) rfl (fun ls hl => ?_)
                refine lv_goto (tgt := 33) hx hb dX5_spread_93 (by decide) ?_
                exact ih_33 _ (hd_33 ▸ mu_up 16 (rn_ltu (u' := 15) (Int32.not_le.mp c_8) hz33_3 (rg_c (v := 16) (lo := 16) (hi := 16) (by decide)) (by decide)) (by decide)) K48 (z33_3 + 1) z48_2 _ _ ls rfl (rg_w (rg_add (lo := 1) (hi := 16) (rn_ltu (u' := 15) (Int32.not_le.mp c_8) hz33_3 (rg_c (v := 16) (lo := 16) (hi := 16) (by decide)) (by decide)) (rg_c (v := 1) (lo := 1) (hi := 1) (by decide)) (by decide)) (by decide)) (fun nn ea eb eg ec G => by rw [z_s15 (rg_w (lo := 0) (hi := 15) (rn_ltu (u' := 15) (Int32.not_le.mp c_8) hz33_3 (rg_c (v := 16) (lo := 16) (hi := 16) (by decide)) (by decide)) (by decide))]; have h7 := hx_48 nn ea eb eg ec G; rw [gx_n G (rg_w (lo := 0) (hi := 24) hz48_4 (by decide)) c_11 hy_48] at h7; exact spO_s G (p16 hx1) (hx_33 nn ea eb eg ec G) h7) hT hF (fr_tr hLF_33 hLF_48 (by decide) (by decide)) hP hD hS (lv_sub hl [0, 2, 3, 4] rfl)
              · refine lv_aload_n hx hb dX5_spread_62 rfl (lv_at hl 3 rfl) ?_
                refine va_get (D := D) (ci := 5) (v := .ref (a 24)) (C := RX5) (T := TX5) (N := 7) hx hb htg ig_5 hown hK hP 3 (oh_wg (by decide) (sX_3 hT)) rfl 2 (by decide) (htg _ q_170) (fun _ h9 => h9) rfl dX5_spread_63 ?_
                refine lv_iload hx hb dX5_spread_66 (lv_at hl 0 rfl) ?_
                have n_12 : vp_in z48_4 24 := (rg_in (rn_ltu (u' := 23) (Int32.not_le.mp c_11) hz48_4 (tA_rdc (lo := 0) (hi := 24) (tX_10 hT0) (rg_in (rg_c (v := 0) (lo := 0) (hi := 0) (by decide)) (by decide)) (show _ = 0 by decide) (by decide)) (by decide)) (by decide))
                refine th_iald hx hb hK hP 24 (by decide) (Eq.trans (Eq.trans (hLF_48.1 24 rfl (by decide)) (Eq.trans (hLF_33.1 24 rfl (by decide)) (Eq.trans (th_un e_5 (by decide)) (hLF_2.1 24 rfl (by decide))))) (sX_24 hT0)) n_12 dX5_spread_68 ?_
                refine lv_iconst (v := (-1)) hx hb dX5_spread_69 (by decide) ?_
                refine lv_icmp_eq (tgt := 84) hx hb dX5_spread_70 (by decide) (fun (c_13 : (ga (C 24) (z48_4).toNatClampNeg) = (-1)) => ?_) (fun (c_13 : ¬ ((ga (C 24) (z48_4).toNatClampNeg) = (-1))) => ?_)
                · refine lv_iinc (v := z48_4 + 1) (lv' := [(4, .int (z48_4 + 1)), (2, .int z48_2), (3, .int z33_3), (0, .ref (a 3)), (1, .int x1)]) hx hb dX5_spread_84 hl (k := 0) rfl (by rfl) (by decide) rfl (fun ls hl => ?_)
                  refine lv_goto (tgt := 48) hx hb dX5_spread_87 (by decide) ?_
                  exact ih_48 _ (hd_48 ▸ mu_up 24 (rn_ltu (u' := 23) (Int32.not_le.mp c_11) hz48_4 (tA_rdc (lo := 0) (hi := 24) (tX_10 hT0) (rg_in (rg_c (v := 0) (lo := 0) (hi := 0) (by decide)) (by decide)) (show _ = 0 by decide) (by decide)) (by decide)) (by decide)) K48 (z48_4 + 1) z48_2 _ _ ls rfl (rg_w (rg_add (lo := 1) (hi := 24) (rn_ltu (u' := 23) (Int32.not_le.mp c_11) hz48_4 (tA_rdc (lo := 0) (hi := 24) (tX_10 hT0) (rg_in (rg_c (v := 0) (lo := 0) (hi := 0) (by decide)) (by decide)) (show _ = 0 by decide) (by decide)) (by decide)) (rg_c (v := 1) (lo := 1) (hi := 1) (by decide)) (by decide)) (by decide)) (fun nn ea eb eg ec G => by rw [show (z48_4 + 1).toNatClampNeg = z48_4.toNatClampNeg + 1 from z_s23 (rg_w (lo := 0) (hi := 23) (rn_ltu (u' := 23) (Int32.not_le.mp c_11) hz48_4 (tA_rdc (lo := 0) (hi := 24) (tX_10 hT0) (rg_in (rg_c (v := 0) (lo := 0) (hi := 0) (by decide)) (by decide)) (show _ = 0 by decide) (by decide)) (by decide)) (by decide))]; have hj := gx_lt G (rg_w (lo := 0) (hi := 23) (rn_ltu (u' := 23) (Int32.not_le.mp c_11) hz48_4 (tA_rdc (lo := 0) (hi := 24) (tX_10 hT0) (rg_in (rg_c (v := 0) (lo := 0) (hi := 0) (by decide)) (by decide)) (show _ = 0 by decide) (by decide)) (by decide)) (by decide)) (Int32.not_le.mp c_11); have hi := (G.2.2 _ hj).2.2.1; exact spI_n (hx_48 nn ea eb eg ec G) (fun hg => hi.mp hg c_13)) (by have h7 := Int32.lt_iff_toInt_lt.mp (Int32.not_le.mp c_11); have h8 : (z48_4 + 1).toInt = z48_4.toInt + 1 := oh_incr (rn_ltu (u' := 23) (Int32.not_le.mp c_11) hz48_4 (tA_rdc (lo := 0) (hi := 24) (tX_10 hT0) (rg_in (rg_c (v := 0) (lo := 0) (hi := 0) (by decide)) (by decide)) (show _ = 0 by decide) (by decide)) (by decide)) (by decide); omega) hT hF hLF_48 hP hD hS (lv_sub hl [0, 1, 2, 3, 4] rfl)
                · refine lv_aload_n hx hb dX5_spread_73 rfl (lv_at hl 3 rfl) ?_
                  refine lv_iload hx hb dX5_spread_74 (lv_at hl 0 rfl) ?_
                  refine tm_V (As := [.int z48_4]) (rest := []) ⟨hx, hb, hml, hown, htg⟩ (e_X5_shorten l D E G _ a K48 hT z48_4 (rg_w (rn_ltu (u' := 23) (Int32.not_le.mp c_11) hz48_4 (tA_rdc (lo := 0) (hi := 24) (tX_10 hT0) (rg_in (rg_c (v := 0) (lo := 0) (hi := 0) (by decide)) (by decide)) (show _ = 0 by decide) (by decide)) (by decide)) (by decide))) (cwV 1 htg (oh_gV q_795 q_797 q_20 q_68 q_798) rfl rfl rfl pdVX5_shorten ⟨Nat.le_of_ble_eq_true rfl, Nat.le_of_ble_eq_true rfl⟩) hK hP hD hG hS hA (va_recv hK hP (ci := 5) (q0 := 3) rfl (oh_wg (by decide) (sX_3 hT))) rfl hl.1 rfl (Nat.le_of_ble_eq_true rfl) dX5_spread_76 ⟨Nat.le_of_ble_eq_true rfl, Nat.le_of_ble_eq_true rfl⟩ (fun r_14 C_15 H locs hq_16 hP hD hS => ?_)
                  obtain ⟨hT, f_17, hq_16⟩ := hq_16
                  have hF := fr_tr hF f_17 (by decide) (by decide)
                  refine W.widen (k := 0) (n := 0) (Nat.le_refl _) (Nat.le_refl _) ?_
                  have t_18 := hT
                  refine lv_if_eq (tgt := 84) hx hb dX5_spread_79 (by decide) (fun (c_19 : r_14 = 0) => ?_) (fun (c_19 : ¬ (r_14 = 0)) => ?_)
                  · refine lv_iinc (v := z48_4 + 1) (lv' := [(4, .int (z48_4 + 1)), (2, .int z48_2), (3, .int z33_3), (0, .ref (a 3)), (1, .int x1)]) hx hb dX5_spread_84 hl (k := 0) rfl (by rfl) (by decide) rfl (fun ls hl => ?_)
                    refine lv_goto (tgt := 48) hx hb dX5_spread_87 (by decide) ?_
                    exact ih_48 _ (hd_48 ▸ mu_up 24 (rn_ltu (u' := 23) (Int32.not_le.mp c_11) hz48_4 (tA_rdc (lo := 0) (hi := 24) (tX_10 hT0) (rg_in (rg_c (v := 0) (lo := 0) (hi := 0) (by decide)) (by decide)) (show _ = 0 by decide) (by decide)) (by decide)) (by decide)) C_15 (z48_4 + 1) z48_2 _ _ ls rfl (rg_w (rg_add (lo := 1) (hi := 24) (rn_ltu (u' := 23) (Int32.not_le.mp c_11) hz48_4 (tA_rdc (lo := 0) (hi := 24) (tX_10 hT0) (rg_in (rg_c (v := 0) (lo := 0) (hi := 0) (by decide)) (by decide)) (show _ = 0 by decide) (by decide)) (by decide)) (rg_c (v := 1) (lo := 1) (hi := 1) (by decide)) (by decide)) (by decide)) (fun nn ea eb eg ec G => by rw [show (z48_4 + 1).toNatClampNeg = z48_4.toNatClampNeg + 1 from z_s23 (rg_w (lo := 0) (hi := 23) (rn_ltu (u' := 23) (Int32.not_le.mp c_11) hz48_4 (tA_rdc (lo := 0) (hi := 24) (tX_10 hT0) (rg_in (rg_c (v := 0) (lo := 0) (hi := 0) (by decide)) (by decide)) (show _ = 0 by decide) (by decide)) (by decide)) (by decide))]; have hj := gx_lt G (rg_w (lo := 0) (hi := 23) (rn_ltu (u' := 23) (Int32.not_le.mp c_11) hz48_4 (tA_rdc (lo := 0) (hi := 24) (tX_10 hT0) (rg_in (rg_c (v := 0) (lo := 0) (hi := 0) (by decide)) (by decide)) (show _ = 0 by decide) (by decide)) (by decide)) (by decide)) (Int32.not_le.mp c_11); have hi := (G.2.2 _ hj).2.2.1; exact (spI_s G (hx_48 nn ea eb eg ec G) hj (hi.mpr c_13) (by rw [show K48 11 = C 11 from (Eq.trans (hLF_48.1 11 rfl (by decide)) (Eq.trans (hLF_33.1 11 rfl (by decide)) (Eq.trans (th_un e_5 (by decide)) (hLF_2.1 11 rfl (by decide))))), oh_rix (w := 7) (j := 0) (rg_w (lo := 0) (hi := 23) (rn_ltu (u' := 23) (Int32.not_le.mp c_11) hz48_4 (tA_rdc (lo := 0) (hi := 24) (tX_10 hT0) (rg_in (rg_c (v := 0) (lo := 0) (hi := 0) (by decide)) (by decide)) (show _ = 0 by decide) (by decide)) (by decide)) (by decide)) rfl rfl (by decide)]) (by rw [show K48 11 = C 11 from (Eq.trans (hLF_48.1 11 rfl (by decide)) (Eq.trans (hLF_33.1 11 rfl (by decide)) (Eq.trans (th_un e_5 (by decide)) (hLF_2.1 11 rfl (by decide))))), oh_rix (w := 7) (j := 1) (rg_w (lo := 0) (hi := 23) (rn_ltu (u' := 23) (Int32.not_le.mp c_11) hz48_4 (tA_rdc (lo := 0) (hi := 24) (tX_10 hT0) (rg_in (rg_c (v := 0) (lo := 0) (hi := 0) (by decide)) (by decide)) (show _ = 0 by decide) (by decide)) (by decide)) (by decide)) rfl rfl (by decide)]) (by rw [show K48 26 = C 26 from (Eq.trans (hLF_48.1 26 rfl (by decide)) (Eq.trans (hLF_33.1 26 rfl (by decide)) (Eq.trans (th_un e_5 (by decide)) (hLF_2.1 26 rfl (by decide)))))]) hq_16.2).2 (fun z => absurd (Eq.trans (Eq.symm c_19) z) (by decide))) (by have h7 := Int32.lt_iff_toInt_lt.mp (Int32.not_le.mp c_11); have h8 : (z48_4 + 1).toInt = z48_4.toInt + 1 := oh_incr (rn_ltu (u' := 23) (Int32.not_le.mp c_11) hz48_4 (tA_rdc (lo := 0) (hi := 24) (tX_10 hT0) (rg_in (rg_c (v := 0) (lo := 0) (hi := 0) (by decide)) (by decide)) (show _ = 0 by decide) (by decide)) (by decide)) (by decide); omega) hT hF (fr_tr hLF_48 f_17 (by decide) (by decide)) hP hD hS (lv_sub hl [0, 1, 2, 3, 4] rfl)
                  · refine lv_iconst (v := 1) hx hb dX5_spread_82 (by decide) ?_
                    refine lv_istore_n (lv' := [(2, .int 1), (4, .int z48_4), (3, .int z33_3), (0, .ref (a 3)), (1, .int x1)]) hx hb dX5_spread_83 rfl hl (by decide) rfl (fun ls hl => ?_)
                    refine lv_iinc (v := z48_4 + 1) (lv' := [(4, .int (z48_4 + 1)), (2, .int 1), (3, .int z33_3), (0, .ref (a 3)), (1, .int x1)]) hx hb dX5_spread_84 hl (k := 1) rfl (by rfl) (by decide) rfl (fun ls hl => ?_)
                    refine lv_goto (tgt := 48) hx hb dX5_spread_87 (by decide) ?_
                    exact ih_48 _ (hd_48 ▸ mu_up 24 (rn_ltu (u' := 23) (Int32.not_le.mp c_11) hz48_4 (tA_rdc (lo := 0) (hi := 24) (tX_10 hT0) (rg_in (rg_c (v := 0) (lo := 0) (hi := 0) (by decide)) (by decide)) (show _ = 0 by decide) (by decide)) (by decide)) (by decide)) C_15 (z48_4 + 1) 1 _ _ ls rfl (rg_w (rg_add (lo := 1) (hi := 24) (rn_ltu (u' := 23) (Int32.not_le.mp c_11) hz48_4 (tA_rdc (lo := 0) (hi := 24) (tX_10 hT0) (rg_in (rg_c (v := 0) (lo := 0) (hi := 0) (by decide)) (by decide)) (show _ = 0 by decide) (by decide)) (by decide)) (rg_c (v := 1) (lo := 1) (hi := 1) (by decide)) (by decide)) (by decide)) (fun nn ea eb eg ec G => by rw [show (z48_4 + 1).toNatClampNeg = z48_4.toNatClampNeg + 1 from z_s23 (rg_w (lo := 0) (hi := 23) (rn_ltu (u' := 23) (Int32.not_le.mp c_11) hz48_4 (tA_rdc (lo := 0) (hi := 24) (tX_10 hT0) (rg_in (rg_c (v := 0) (lo := 0) (hi := 0) (by decide)) (by decide)) (show _ = 0 by decide) (by decide)) (by decide)) (by decide))]; have hj := gx_lt G (rg_w (lo := 0) (hi := 23) (rn_ltu (u' := 23) (Int32.not_le.mp c_11) hz48_4 (tA_rdc (lo := 0) (hi := 24) (tX_10 hT0) (rg_in (rg_c (v := 0) (lo := 0) (hi := 0) (by decide)) (by decide)) (show _ = 0 by decide) (by decide)) (by decide)) (by decide)) (Int32.not_le.mp c_11); have hi := (G.2.2 _ hj).2.2.1; exact (spI_s G (hx_48 nn ea eb eg ec G) hj (hi.mpr c_13) (by rw [show K48 11 = C 11 from (Eq.trans (hLF_48.1 11 rfl (by decide)) (Eq.trans (hLF_33.1 11 rfl (by decide)) (Eq.trans (th_un e_5 (by decide)) (hLF_2.1 11 rfl (by decide))))), oh_rix (w := 7) (j := 0) (rg_w (lo := 0) (hi := 23) (rn_ltu (u' := 23) (Int32.not_le.mp c_11) hz48_4 (tA_rdc (lo := 0) (hi := 24) (tX_10 hT0) (rg_in (rg_c (v := 0) (lo := 0) (hi := 0) (by decide)) (by decide)) (show _ = 0 by decide) (by decide)) (by decide)) (by decide)) rfl rfl (by decide)]) (by rw [show K48 11 = C 11 from (Eq.trans (hLF_48.1 11 rfl (by decide)) (Eq.trans (hLF_33.1 11 rfl (by decide)) (Eq.trans (th_un e_5 (by decide)) (hLF_2.1 11 rfl (by decide))))), oh_rix (w := 7) (j := 1) (rg_w (lo := 0) (hi := 23) (rn_ltu (u' := 23) (Int32.not_le.mp c_11) hz48_4 (tA_rdc (lo := 0) (hi := 24) (tX_10 hT0) (rg_in (rg_c (v := 0) (lo := 0) (hi := 0) (by decide)) (by decide)) (show _ = 0 by decide) (by decide)) (by decide)) (by decide)) rfl rfl (by decide)]) (by rw [show K48 26 = C 26 from (Eq.trans (hLF_48.1 26 rfl (by decide)) (Eq.trans (hLF_33.1 26 rfl (by decide)) (Eq.trans (th_un e_5 (by decide)) (hLF_2.1 26 rfl (by decide)))))]) hq_16.2).1 (oh_b1 (rg_w (lo := 0) (hi := 1) (rn_nel (l' := 1) c_19 (oh_rgb hq_16.1) (rg_c (v := 0) (lo := 0) (hi := 0) (by decide)) (by decide)) (by decide)) c_19) 1 rfl) (by have h7 := Int32.lt_iff_toInt_lt.mp (Int32.not_le.mp c_11); have h8 : (z48_4 + 1).toInt = z48_4.toInt + 1 := oh_incr (rn_ltu (u' := 23) (Int32.not_le.mp c_11) hz48_4 (tA_rdc (lo := 0) (hi := 24) (tX_10 hT0) (rg_in (rg_c (v := 0) (lo := 0) (hi := 0) (by decide)) (by decide)) (show _ = 0 by decide) (by decide)) (by decide)) (by decide); omega) hT hF (fr_tr hLF_48 f_17 (by decide) (by decide)) hP hD hS (lv_sub hl [0, 1, 2, 3, 4] rfl)
            exact L_48 _ K33 0 0 _ _ ls rfl (rg_w (rg_c (v := 0) (lo := 0) (hi := 0) (by decide)) (by decide)) (fun nn ea eb eg ec G => spI_0 (hx_33 nn ea eb eg ec G)) (cntX 0 hT0 (by decide)).1 hT hF fr_rf hP hD hS (lv_sub hl [0, 1, 2, 3, 4] rfl)
      exact L_33 _ C_4 0 1 _ _ ls rfl (rg_w (rg_c (v := 0) (lo := 0) (hi := 0) (by decide)) (by decide)) (fun nn ea eb eg ec G => sp_i hx1 hx_2 c_2 (st_ga e_5) _) hT hF fr_rf hP hD hS (lv_sub hl [0, 1, 2, 3] rfl)
    · refine lv_aload_n hx hb dX5_spread_8 rfl (lv_at hl 1 rfl) ?_
      refine va_get (D := D) (ci := 5) (v := .ref (a 27)) (C := RX5) (T := TX5) (N := 7) hx hb htg ig_5 hown hK hP 3 (oh_wg (by decide) (sX_3 hT)) rfl 5 (by decide) (htg _ q_174) (fun _ h9 => h9) rfl dX5_spread_9 ?_
      refine lv_iload_n hx hb dX5_spread_12 rfl (lv_at hl 0 rfl) ?_
      refine lv_ldc (v := 1000000000) hx hb hown (htg _ q_794) dX5_spread_13 ?_
      have n_20 : vp_in z2_2 16 := (rg_in (rn_ltu (u' := 15) (Int32.not_le.mp c_2) hz2_2 (rg_c (v := 16) (lo := 16) (hi := 16) (by decide)) (by decide)) (by decide))
      refine th_iast (T := TyX a E) (Rl := fr [(27, 28)] [] C) hx hb hK hP hD hS 27 (by decide) (sX_27 hT) n_20 (hT.up 27 (tA_upd (tX_27 hT) tA_any)) (fr_st hF (by decide) (by decide)) dX5_spread_15 (fun C_21 H locs e_22 hT hF hP hD hS => ?_)
      have t_23 := hT
      refine lv_iinc (v := z2_2 + 1) (lv' := [(2, .int (z2_2 + 1)), (0, .ref (a 3)), (1, .int x1)]) hx hb dX5_spread_16 hl (k := 0) rfl (by rfl) (by decide) rfl (fun ls hl => ?_)
      refine lv_goto (tgt := 2) hx hb dX5_spread_19 (by decide) ?_
      exact ih_2 _ (hd_2 ▸ mu_up 16 (rn_ltu (u' := 15) (Int32.not_le.mp c_2) hz2_2 (rg_c (v := 16) (lo := 16) (hi := 16) (by decide)) (by decide)) (by decide)) C_21 (z2_2 + 1) _ _ ls rfl (rg_w (rg_add (lo := 1) (hi := 16) (rn_ltu (u' := 15) (Int32.not_le.mp c_2) hz2_2 (rg_c (v := 16) (lo := 16) (hi := 16) (by decide)) (by decide)) (rg_c (v := 1) (lo := 1) (hi := 1) (by decide)) (by decide)) (by decide)) (fl_s (rg_w (lo := 0) (hi := 15) (rn_ltu (u' := 15) (Int32.not_le.mp c_2) hz2_2 (rg_c (v := 16) (lo := 16) (hi := 16) (by decide)) (by decide)) (by decide)) hx_2 (st_ga e_22)) hT hF (fr_ste hLF_2 e_22 (by decide) (by decide)) hP hD hS (lv_sub hl [0, 1, 2] rfl)
  exact L_2 _ C 0 _ _ ls rfl (rg_w (rg_c (v := 0) (lo := 0) (hi := 0) (by decide)) (by decide)) (fun p hp => absurd hp (by show ¬ (p : Int) < 0; omega)) hT hF fr_rf hP hD hS (lv_sub hl [0, 1, 2] rfl)
/-! FULL: a land as it may be -/
theorem rg_mul2 {x y : Int32} {u v hi : Int} (hx : rg x 0 u) (hy : rg y 0 v) (h : decide (0 ≤ u ∧ 0 ≤ v ∧ u * v ≤ hi ∧ hi ≤ 2147483647) = true) : rg (x * y) 0 hi := by
  have h2 := of_decide_eq_true h
  have a1 : 0 ≤ x.toInt * y.toInt := Int.mul_nonneg hx.1 hy.1
  have a2 : x.toInt * y.toInt ≤ u * v := Int.mul_le_mul hx.2 hy.2 hy.1 h2.1
  unfold rg
  rw [Int32.toInt_mul, oh_bmod (by omega) (by omega)]
  omega
theorem rg_div2 {x y : Int32} {u hi : Int} (hx : rg x 0 u) (hy : 1 ≤ y.toInt) (h : decide (u ≤ hi ∧ hi ≤ 2147483647) = true) : rg (x / y) 0 hi := by
  have h2 := of_decide_eq_true h
  have e : x.toInt.tdiv y.toInt = x.toInt / y.toInt := Int.tdiv_eq_ediv_of_nonneg hx.1
  have a1 : 0 ≤ x.toInt / y.toInt := Int.ediv_nonneg hx.1 (by omega)
  have a2 : x.toInt / y.toInt ≤ x.toInt := Int.ediv_le_self _ hx.1
  have := hx.2
  unfold rg
  rw [Int32.toInt_div, e, oh_bmod (by omega) (by omega)]
  omega
def okVR (v : Nat → Int32) : Prop := rg (v 0) 0 15 ∧ rg (v 1) 0 15 ∧ rg (v 2) 1 60 ∧ rg (v 3) 0 9 ∧ rg (v 4) 1 99 ∧ rg (v 5) 0 15 ∧ rg (v 6) 0 1
def okVB (v : Nat → Int32) : Prop := rg (v 0) 0 23 ∧ rg (v 1) 0 5 ∧ rg (v 2) 0 60 ∧ rg (v 3) 1 99 ∧ rg (v 4) 1 999 ∧ rg (v 5) 0 999 ∧ rg (v 6) 0 999 ∧ rg (v 7) 0 1 ∧ rg (v 8) 0 1 ∧ rg (v 9) 0 1 ∧ (v 1 = 3 → v 7 = 0)
def okVW (v : Nat → Int32) : Prop := rg (v 0) 2 12 ∧ rg (v 1) 1 9 ∧ rg (v 2) 0 99
def okVP (v : Nat → Int32) : Prop := rg (v 0) 1 99 ∧ rg (v 1) 0 99
def okA (A : LA) : Prop := (rg (A 5 0 0) 0 24 ∧ rg (A 5 0 1) 0 16 ∧ rg (A 5 0 2) 0 5 ∧ rg (A 5 0 3) 0 5) ∧ (rg (A 4 0 0) 0 900 ∧ rg (A 4 0 1) 0 99 ∧ rg (A 4 0 2) 0 1) ∧ (∀ i : Nat, (i : Int) < (A 5 0 0).toInt → okVR (A 0 i)) ∧ (∀ i : Nat, (i : Int) < (A 5 0 1).toInt → okVB (A 1 i)) ∧ (∀ i : Nat, (i : Int) < (A 5 0 2).toInt → okVW (A 2 i)) ∧ (∀ i : Nat, (i : Int) < (A 5 0 3).toInt → okVP (A 3 i))
theorem okA.i {A : LA} (h : okA A) : okI A := fun b hb => (h.2.2.2.1 b hb).2.2.2.2.2.2.2.2.2.2
theorem okA.n0 {A : LA} (h : okA A) {r : Nat} (hr : r < n0A A) : (r : Int) < (A 5 0 0).toInt := by
  have := h.1.1.1
  have hr : r < (A 5 0 0).toInt.toNat := hr
  omega
theorem okA.n1 {A : LA} (h : okA A) {r : Nat} (hr : r < n1A A) : (r : Int) < (A 5 0 1).toInt := by
  have := h.1.2.1.1
  have hr : r < (A 5 0 1).toInt.toNat := hr
  omega
theorem okA.n16 {A : LA} (h : okA A) : n1A A ≤ 16 := by
  have := h.1.2.1.2
  show (A 5 0 1).toInt.toNat ≤ 16
  omega
theorem okA.wg {A : LA} (h : okA A) {w : Int32} (h0 : rg w 0 4) (hl : w < A 5 0 2) : okVW (A 2 w.toNatClampNeg) := h.2.2.2.2.1 _ (by rw [oh_nat h0 (by decide)]; exact Int32.lt_iff_toInt_lt.mp hl)
theorem sumA_b {A : LA} (h : okA A) {s : Int32} {col : Nat} (hc : col < 2) : ∀ k : Nat, k ≤ (A 5 0 3).toInt.toNat → rg (sumA A s col k) 0 (99 * k) := by
  intro k
  induction k with
  | zero =>
    intro _
    exact ⟨by show (0 : Int) ≤ (0 : Int32).toInt; decide, by show (0 : Int32).toInt ≤ _; have : (0 : Int32).toInt = 0 := rfl; omega⟩
  | succ k ih =>
    intro hk
    have h1 := ih (by omega)
    have h5 := h.1.2.2.2
    have h0 := h5.2
    have hp := h.2.2.2.2.2 k (by have := h5.1; omega)
    have hv : rg (pif ((s >>> (Int32.ofNat k &&& 31)) &&& 1 = 0) 0 (A 3 k col)) 0 99 := by
      by_cases q : (s >>> (Int32.ofNat k &&& 31)) &&& 1 = 0
      · rw [pif_pos q]
        exact ⟨by decide, by decide⟩
      · rw [pif_neg q]
        rcases (show col = 0 ∨ col = 1 by omega) with rfl | rfl
        · exact ⟨by have := hp.1.1; omega, hp.1.2⟩
        · exact hp.2
    have e : (sumA A s col k + pif ((s >>> (Int32.ofNat k &&& 31)) &&& 1 = 0) 0 (A 3 k col)).toInt = (sumA A s col k).toInt + (pif ((s >>> (Int32.ofNat k &&& 31)) &&& 1 = 0) 0 (A 3 k col)).toInt := by
      rw [Int32.toInt_add]
      exact oh_bmod (by have := h1.1; have := hv.1; omega) (by have := h1.2; have := hv.2; omega)
    show rg (sumA A s col k + pif ((s >>> (Int32.ofNat k &&& 31)) &&& 1 = 0) 0 (A 3 k col)) 0 _
    unfold rg
    rw [e]
    have := h1.1
    have := h1.2
    have := hv.1
    have := hv.2
    omega
theorem sumA_r {A : LA} (h : okA A) (s : Int32) {col : Nat} (hc : col < 2) : rg (sumA A s col (A 5 0 3).toNatClampNeg) 0 495 := by
  have h1 := sumA_b h (s := s) hc (A 5 0 3).toNatClampNeg (Nat.le_refl _)
  have h5 := h.1.2.2.2
  have e := oh_nat h5 (by decide)
  exact ⟨h1.1, by have := h1.2; have := h5.2; omega⟩
theorem aL_b {A : LA} (h : okA A) {w : Int32} (s : Int32) (h0 : rg w 0 4) (hl : w < A 5 0 2) : rg (aL A w s) 0 1010 := by
  obtain ⟨ha, _, ht⟩ := h.wg h0 hl
  have hs := sumA_r h s (col := 0) (by decide)
  have hw := h.2.1.1
  have hd : rg (A 2 w.toNatClampNeg 2 + A 4 0 0 - sumA A s 0 (A 5 0 3).toNatClampNeg) (-495) 999 := rg_sub (rg_add ht hw (lo := 0) (hi := 999) (by decide)) hs (by decide)
  have hm : rg (if A 2 w.toNatClampNeg 2 + A 4 0 0 - sumA A s 0 (A 5 0 3).toNatClampNeg < 0 then 0 else A 2 w.toNatClampNeg 2 + A 4 0 0 - sumA A s 0 (A 5 0 3).toNatClampNeg) 0 999 := by
    by_cases q : A 2 w.toNatClampNeg 2 + A 4 0 0 - sumA A s 0 (A 5 0 3).toNatClampNeg < 0
    · rw [if_pos q]
      exact ⟨by decide, by decide⟩
    · rw [if_neg q]
      have q2 := Int32.le_iff_toInt_le.mp (Int32.not_lt.mp q)
      exact ⟨q2, hd.2⟩
  have hp : (0 : Int32) < A 2 w.toNatClampNeg 0 := Int32.lt_iff_toInt_lt.mpr (by have := ha.1; show (0 : Int) < _; omega)
  unfold aL aLoad rndUp
  rw [if_pos hp]
  exact rg_div2 (rg_sub (rg_add hm ha (lo := 2) (hi := 1011) (by decide)) (rg_c (v := 1) (lo := 1) (hi := 1) (by decide)) (lo := 0) (hi := 1010) (by decide)) (by have := ha.1; omega) (by decide)
theorem rg_d100 {x : Int32} {u hi : Int} (hx : rg x 0 u) (h : decide (0 ≤ u ∧ u / 100 ≤ hi ∧ hi ≤ 2147483647) = true) : rg (x / 100) 0 hi := by
  have h2 := of_decide_eq_true h
  have e : x.toInt.tdiv (100 : Int32).toInt = x.toInt / 100 := Int.tdiv_eq_ediv_of_nonneg hx.1
  have a := hx.1
  have b := hx.2
  unfold rg
  rw [Int32.toInt_div, e, oh_bmod (by omega) (by omega)]
  omega
theorem engA_b {A : LA} (h : okA A) {w : Int32} (s : Int32) (h0 : rg w 0 4) (hl : w < A 5 0 2) {r : Nat} (hr : r < n0A A) : rg (engA A w s r) 0 91 := by
  have h3 := (h.2.2.1 r (h.n0 hr)).2.2.2.1
  exact rg_add (rg_c (v := 1) (lo := 1) (hi := 1) (by decide)) (rg_d100 (rg_mul2 h3 (aL_b h s h0 hl) (hi := 9090) (by decide)) (hi := 90) (by decide)) (by decide)
theorem pqA_b {A : LA} (h : okA A) (w s : Int32) (r : Nat) : rg (pqA A w s r) 0 15984 := by
  have h1 : rg (pqA A w s r) 0 ((n1A A : Int) * 999) := pcU_b (rd := rdA A) (nd := ndA A w s) (v := fun b => A 1 b 6) (r := r) (m := 999) (by decide) (by decide) (n1A A) h.n16 (fun b hb => (h.2.2.2.1 b (h.n1 hb)).2.2.2.2.2.2.1)
  exact ⟨h1.1, by have := h1.2; have := h.n16; omega⟩
theorem coA_b {A : LA} (h : okA A) {w n : Int32} (s : Int32) (h0 : rg w 0 4) (hl : w < A 5 0 2) (hn : rg n 0 20) {r : Nat} (hr : r < n0A A) : rg (coA A w s n r) 0 60000000 := by
  have hr2 := h.2.2.1 r (h.n0 hr)
  have h2 : rg (A 0 r 2) 0 60 := ⟨by have := hr2.2.2.1.1; omega, hr2.2.2.1.2⟩
  exact rg_add (rg_mul2 (rg_mul2 (rg_mul2 hn h.2.1.2.1 (hi := 1980) (by decide)) h2 (hi := 118800) (by decide)) (engA_b h s h0 hl hr) (hi := 10810800) (by decide)) (pqA_b h w s r) (by decide)
theorem dyA_b {A : LA} (h : okA A) (w s : Int32) {r : Nat} (hr : r < n0A A) : rg (dyA A w s r) 0 60000000 := by
  have hr2 := h.2.2.1 r (h.n0 hr)
  have h2 : rg (A 0 r 2) 0 60 := ⟨by have := hr2.2.2.1.1; omega, hr2.2.2.1.2⟩
  have hp : rg (pcA A w s r) 0 16 := pc1_b h.n16
  have hu : rg (rndUp (A 0 r 2) 10) 0 69 := by
    unfold rndUp
    rw [if_pos (by decide)]
    exact rg_div2 (rg_sub (rg_add h2 (rg_c (v := 10) (lo := 10) (hi := 10) (by decide)) (lo := 10) (hi := 70) (by decide)) (rg_c (v := 1) (lo := 1) (hi := 1) (by decide)) (lo := 0) (hi := 69) (by decide)) (by decide) (by decide)
  exact rg_add hu (rg_mul2 (rg_c (v := 3) (lo := 0) (hi := 3) (by decide)) hp (hi := 48) (by decide)) (by decide)
/-- the roads for a pack and n loads; by days -/
def aA (A : LA) (r : Nat) : Nat := (A 0 r 0).toNatClampNeg
def bA (A : LA) (r : Nat) : Nat := (A 0 r 1).toNatClampNeg
noncomputable def cA (A : LA) (w s n : Int32) (r : Nat) : Nat := (coA A w s n r).toNatClampNeg
noncomputable def dA (A : LA) (w s : Int32) (r : Nat) : Nat := (dyA A w s r).toNatClampNeg
def EcA (A : LA) (w s n : Int32) : Ed := EdR (n0A A) (aA A) (bA A) (gsA A w s) (cA A w s n)
def EdyA (A : LA) (w s : Int32) : Ed := EdR (n0A A) (aA A) (bA A) (gsA A w s) (dA A w s)
theorem abA {A : LA} (h : okA A) : ∀ r, r < n0A A → aA A r < 16 ∧ bA A r < 16 := by
  intro r hr
  obtain ⟨h0, h1, _⟩ := h.2.2.1 r (h.n0 hr)
  exact ⟨p16 h0, p16 h1⟩
theorem gx_c {C : Nat → va_E} {A : LA} {w s n : Int32} (hA : absX 10 C A) (h : okA A) (h0 : rg w 0 4) (hl : w < A 5 0 2) (hn : rg n 0 20) (hs : svX C A w s) (hp : ∀ r : Nat, r < n0A A → gsA A w s r → ga (C 26) r = coA A w s n r) : GX C (n0A A) (aA A) (bA A) (gsA A w s) (cA A w s n) := by
  have e0 := oh_nat h.1.1 (by decide)
  refine ⟨by rw [show ga (C 10) 0 = A 5 0 0 from hA.1 0 (by decide)]; exact e0, by have := h.1.1.2; show (A 5 0 0).toInt.toNat ≤ 24; omega, fun r hr => ?_⟩
  obtain ⟨k0, k1, _⟩ := h.2.2.1 r (h.n0 hr)
  have hb := coA_b h s h0 hl hn hr
  refine ⟨⟨?_, ?_⟩, abA h r hr, ?_, fun hg => ⟨?_, ?_⟩⟩
  · rw [show ga (C 11) (r * 7 + 0) = A 0 r 0 from hA.2.2 0 (by decide) r (h.n0 hr) 0 (by decide) (by unfold vis; omega)]
    exact (oh_nat k0 (by decide)).symm
  · rw [show ga (C 11) (r * 7 + 1) = A 0 r 1 from hA.2.2 0 (by decide) r (h.n0 hr) 1 (by decide) (by unfold vis; omega)]
    exact (oh_nat k1 (by decide)).symm
  · have := sv_g hs.2 hr h.n16
    exact ⟨fun z q => (this.mp q) z, fun z => Classical.byContradiction (fun q => z (this.mpr q))⟩
  · rw [hp r hr hg]
    exact (oh_nat hb (by decide)).symm
  · have := oh_nat hb (by decide)
    have := hb.2
    show (coA A w s n r).toNatClampNeg ≤ 60000000
    omega
theorem gx_d {C : Nat → va_E} {A : LA} {w s : Int32} (hA : absX 10 C A) (h : okA A) (hs : svX C A w s) (hp : ∀ r : Nat, r < n0A A → gsA A w s r → ga (C 26) r = dyA A w s r) : GX C (n0A A) (aA A) (bA A) (gsA A w s) (dA A w s) := by
  have e0 := oh_nat h.1.1 (by decide)
  refine ⟨by rw [show ga (C 10) 0 = A 5 0 0 from hA.1 0 (by decide)]; exact e0, by have := h.1.1.2; show (A 5 0 0).toInt.toNat ≤ 24; omega, fun r hr => ?_⟩
  obtain ⟨k0, k1, _⟩ := h.2.2.1 r (h.n0 hr)
  have hb := dyA_b h w s hr
  refine ⟨⟨?_, ?_⟩, abA h r hr, ?_, fun hg => ⟨?_, ?_⟩⟩
  · rw [show ga (C 11) (r * 7 + 0) = A 0 r 0 from hA.2.2 0 (by decide) r (h.n0 hr) 0 (by decide) (by unfold vis; omega)]
    exact (oh_nat k0 (by decide)).symm
  · rw [show ga (C 11) (r * 7 + 1) = A 0 r 1 from hA.2.2 0 (by decide) r (h.n0 hr) 1 (by decide) (by unfold vis; omega)]
    exact (oh_nat k1 (by decide)).symm
  · have := sv_g hs.2 hr h.n16
    exact ⟨fun z q => (this.mp q) z, fun z => Classical.byContradiction (fun q => z (this.mpr q))⟩
  · rw [hp r hr hg]
    exact (oh_nat hb (by decide)).symm
  · have := oh_nat hb (by decide)
    have := hb.2
    show (dyA A w s r).toNatClampNeg ≤ 60000000
    omega

/-! FULL: least sums as numbers; the first road -/
def hasW (E : Ed) (s p : Nat) : Prop := ∃ d, Ls E s p d
noncomputable def lsN (E : Ed) (s p : Nat) : Nat := Classical.epsilon (fun d => Ls E s p d)
theorem lsN_s {E : Ed} {s p : Nat} (h : hasW E s p) : Ls E s p (lsN E s p) := Classical.epsilon_spec h
theorem lsN_eq {E : Ed} {s p d : Nat} (h : Ls E s p d) : lsN E s p = d := ls_eq (lsN_s ⟨d, h⟩) h
theorem hasW_rev {E : Ed} (hS : ∀ u v e, E u v e → E v u e) {s p : Nat} (h : hasW E s p) : hasW E p s := by
  obtain ⟨d, hd⟩ := h
  exact ⟨d, ls_rev hS hd⟩
theorem hasW_sym {E : Ed} (hS : ∀ u v e, E u v e → E v u e) {s p : Nat} : hasW E s p = hasW E p s := propext ⟨hasW_rev hS, hasW_rev hS⟩
theorem lsN_sym {E : Ed} (hS : ∀ u v e, E u v e → E v u e) {s p : Nat} : lsN E s p = lsN E p s := by
  by_cases h : hasW E s p
  · exact (lsN_eq (ls_rev hS (lsN_s h))).symm
  · unfold lsN
    rw [show (fun d => Ls E s p d) = (fun d => Ls E p s d) from funext (fun d => propext ⟨fun z => absurd ⟨d, z⟩ h, fun z => absurd (hasW_rev hS ⟨d, z⟩) h⟩)]
theorem dn_y {E : Ed} {s I p : Nat} {f : Nat → Nat} (h : Dn E s I f) (hp : p < 16) (q : hasW E s p) : f p = lsN E s p := (h p hp).1 _ (lsN_s q)
theorem dn_n {E : Ed} {s I p : Nat} {f : Nat → Nat} (h : Dn E s I f) (hp : p < 16) (q : ¬ hasW E s p) : f p = I := (h p hp).2 (fun d hd => q ⟨d, hd⟩)
theorem dn_i {E : Ed} {s I p : Nat} {f : Nat → Nat} (h : Dn E s I f) (hI : ∀ p d, p < 16 → Ls E s p d → d < I) (hp : p < 16) : f p = I ↔ ¬ hasW E s p := by
  constructor
  · intro e q
    have h1 := dn_y h hp q
    have h2 := hI p _ hp (lsN_s q)
    omega
  · exact dn_n h hp
theorem ec_fin {A : LA} (h : okA A) {w n : Int32} (s : Int32) (h0 : rg w 0 4) (hl : w < A 5 0 2) (hn : rg n 0 20) {p : Nat} (hp : p < 16) : ∀ q d, q < 16 → Ls (EcA A w s n) p q d → d ≤ 900000000 := by
  refine ls_bnd (M := 60000000) (edR_M (abA h) (fun r hr _ => ?_)) hp
  have hb := coA_b h s h0 hl hn hr
  have := oh_nat hb (by decide)
  have := hb.2
  show (coA A w s n r).toNatClampNeg ≤ 60000000
  omega
theorem ed_fin {A : LA} (h : okA A) (w s : Int32) {p : Nat} (hp : p < 16) : ∀ q d, q < 16 → Ls (EdyA A w s) p q d → d ≤ 900000000 := by
  refine ls_bnd (M := 60000000) (edR_M (abA h) (fun r hr _ => ?_)) hp
  have hb := dyA_b h w s hr
  have := oh_nat hb (by decide)
  have := hb.2
  show (dyA A w s r).toNatClampNeg ≤ 60000000
  omega
/-- what leastCoin answers -/
noncomputable def lcA (A : LA) (w s f t n : Int32) : Int32 := pif (hasW (EcA A w s n) f.toNatClampNeg t.toNatClampNeg) (Int32.ofNat (lsN (EcA A w s n) f.toNatClampNeg t.toNatClampNeg) + n * sumA A s 1 (A 5 0 3).toNatClampNeg) 1000000000
noncomputable def ldA (A : LA) (w s f t : Int32) : Int32 := pif (hasW (EdyA A w s) f.toNatClampNeg t.toNatClampNeg) (Int32.ofNat (lsN (EdyA A w s) f.toNatClampNeg t.toNatClampNeg)) 1000000000
theorem fX_i {E : Ed} {s p : Nat} {h : Nat → Int32} (D : Dn E s 1000000000 (fN h)) (hF : ∀ q d, q < 16 → Ls E s q d → d ≤ 900000000) (hp : p < 16) : h p = 1000000000 ↔ ¬ hasW E s p := by
  rw [← dn_i D (fun q d hq hd => Nat.lt_of_le_of_lt (hF q d hq hd) (by decide)) hp]
  constructor
  · intro e
    show (h p).toNatClampNeg = _
    rw [e]
    rfl
  · intro e
    have e : (h p).toInt.toNat = 1000000000 := e
    exact Int32.toInt_inj.mp (show (h p).toInt = 1000000000 by omega)
theorem fX_y {E : Ed} {s p : Nat} {h : Nat → Int32} (hn : nnF h) (D : Dn E s 1000000000 (fN h)) (hF : ∀ q d, q < 16 → Ls E s q d → d ≤ 900000000) (hp : p < 16) (q : hasW E s p) : (h p).toInt = (lsN E s p : Int) ∧ lsN E s p ≤ 900000000 := by
  have e := dn_y D hp q
  have i := fN_i hn hp
  exact ⟨by omega, hF p _ hp (lsN_s q)⟩
theorem lc_y {A : LA} {w s f t n v c : Int32} {h : Nat → Int32} (hn : nnF h) (D : Dn (EcA A w s n) f.toNatClampNeg 1000000000 (fN h)) (hF : ∀ q d, q < 16 → Ls (EcA A w s n) f.toNatClampNeg q d → d ≤ 900000000) (ht : rg t 0 15) (c1 : ¬ h t.toNatClampNeg = 1000000000) (e : v = h t.toNatClampNeg) (ec : c = sumA A s 1 (A 5 0 3).toNatClampNeg) : v + n * c = lcA A w s f t n := by
  have q : hasW (EcA A w s n) f.toNatClampNeg t.toNatClampNeg := Classical.byContradiction (fun z => c1 ((fX_i D hF (p16 ht)).mpr z))
  obtain ⟨h1, h2⟩ := fX_y hn D hF (p16 ht) q
  unfold lcA
  rw [pif_pos q, e, ec]
  refine congrArg (fun z => z + _) (Int32.toInt_inj.mp ?_)
  rw [h1]
  exact (nI_toInt (by omega)).symm
theorem lc_n {A : LA} {w s f t n : Int32} {h : Nat → Int32} (D : Dn (EcA A w s n) f.toNatClampNeg 1000000000 (fN h)) (hF : ∀ q d, q < 16 → Ls (EcA A w s n) f.toNatClampNeg q d → d ≤ 900000000) (ht : rg t 0 15) (c1 : h t.toNatClampNeg = 1000000000) : (1000000000 : Int32) = lcA A w s f t n := (pif_neg ((fX_i D hF (p16 ht)).mp c1)).symm
theorem ld_e {A : LA} {w s f t : Int32} {h : Nat → Int32} (hn : nnF h) (D : Dn (EdyA A w s) f.toNatClampNeg 1000000000 (fN h)) (hF : ∀ q d, q < 16 → Ls (EdyA A w s) f.toNatClampNeg q d → d ≤ 900000000) (ht : rg t 0 15) : h t.toNatClampNeg = ldA A w s f t := by
  unfold ldA
  by_cases q : hasW (EdyA A w s) f.toNatClampNeg t.toNatClampNeg
  · obtain ⟨h1, h2⟩ := fX_y hn D hF (p16 ht) q
    rw [pif_pos q]
    refine Int32.toInt_inj.mp ?_
    rw [h1]
    exact (nI_toInt (by omega)).symm
  · rw [pif_neg q]
    exact (fX_i D hF (p16 ht)).mpr q
/-- a road that begins a cheapest way -/
def fqA (A : LA) (w s f t : Int32) (r : Nat) : Prop := gsA A w s r ∧ (aA A r = f.toNatClampNeg ∨ bA A r = f.toNatClampNeg) ∧ hasW (EcA A w s 1) t.toNatClampNeg (if aA A r = f.toNatClampNeg then bA A r else aA A r) ∧ lsN (EcA A w s 1) t.toNatClampNeg (if aA A r = f.toNatClampNeg then bA A r else aA A r) + cA A w s 1 r = lsN (EcA A w s 1) t.toNatClampNeg f.toNatClampNeg
/-- the least of them -/
def frA (A : LA) (w s f t r : Int32) : Prop := (r = -1 ∧ ∀ i, i < n0A A → ¬ fqA A w s f t i) ∨ (∃ i, i < n0A A ∧ r = Int32.ofNat i ∧ fqA A w s f t i ∧ ∀ k, k < i → ¬ fqA A w s f t k)
theorem frA_u {A : LA} (h : okA A) {w s f t r x : Int32} (h1 : frA A w s f t r) (h2 : frA A w s f t x) : r = x := by
  rcases h1 with ⟨e1, g1⟩ | ⟨i, li, e1, q1, m1⟩ <;> rcases h2 with ⟨e2, g2⟩ | ⟨j, lj, e2, q2, m2⟩
  · rw [e1, e2]
  · exact absurd q2 (g1 j lj)
  · exact absurd q1 (g2 i li)
  · have : i = j := by
      rcases Nat.lt_trichotomy i j with q | q | q
      · exact absurd q1 (m2 i q)
      · exact q
      · exact absurd q2 (m1 j q)
    rw [e1, e2, this]
/-- the other end of a road, as the class tells it -/
noncomputable def oeF (x y p : Int32) : Int32 := pif (x = p) y (pif (y = p) x (-1))
theorem fq_s {f : Nat → Prop} {z : Int32} (hz : rg z 0 23) (h : ∀ i : Nat, (i : Int) < z.toInt → ¬ f i) (hn : ¬ f z.toNatClampNeg) : ∀ i : Nat, (i : Int) < (z + 1).toInt → ¬ f i := by
  intro i hi
  rw [oh_inc24 ⟨hz.1, by have := hz.2; omega⟩] at hi
  have ez := oh_nat hz (by decide)
  by_cases q : i = z.toNatClampNeg
  · rw [q]
    exact hn
  · exact h i (by omega)
theorem i32N {x y : Int32} (hx : rg x 0 15) (hy : rg y 0 15) : x = y ↔ x.toNatClampNeg = y.toNatClampNeg := by
  constructor
  · intro e
    rw [e]
  · intro e
    have a := oh_nat hx (by decide)
    have b := oh_nat hy (by decide)
    exact Int32.toInt_inj.mp (by omega)
theorem rg_n1 {x : Int32} (hx : rg x 0 15) : ¬ x = -1 := by
  intro e
  rw [e] at hx
  exact absurd hx.1 (by decide)
theorem oe_1 {A : LA} (h : okA A) {r : Nat} {f nx : Int32} (hr : r < n0A A) (hf : rg f 0 15) (e : nx = oeF (A 0 r 0) (A 0 r 1) f) : (nx = -1 ↔ ¬ (aA A r = f.toNatClampNeg ∨ bA A r = f.toNatClampNeg)) ∧ (¬ nx = -1 → rg nx 0 15 ∧ nx.toNatClampNeg = if aA A r = f.toNatClampNeg then bA A r else aA A r) := by
  obtain ⟨h0, h1, _⟩ := h.2.2.1 r (h.n0 hr)
  by_cases q : A 0 r 0 = f
  · have e1 : nx = A 0 r 1 := Eq.trans e (pif_pos q)
    have q2 : aA A r = f.toNatClampNeg := (i32N h0 hf).mp q
    refine ⟨⟨fun z => absurd (e1.symm.trans z) (rg_n1 h1), fun z => absurd (Or.inl q2) z⟩, fun _ => ⟨by rw [e1]; exact h1, ?_⟩⟩
    rw [if_pos q2, e1]
    rfl
  · have q2 : ¬ aA A r = f.toNatClampNeg := fun z => q ((i32N h0 hf).mpr z)
    by_cases p : A 0 r 1 = f
    · have e1 : nx = A 0 r 0 := Eq.trans e (Eq.trans (pif_neg q) (pif_pos p))
      have p2 : bA A r = f.toNatClampNeg := (i32N h1 hf).mp p
      refine ⟨⟨fun z => absurd (e1.symm.trans z) (rg_n1 h0), fun z => absurd (Or.inr p2) z⟩, fun _ => ⟨by rw [e1]; exact h0, ?_⟩⟩
      rw [if_neg q2, e1]
      rfl
    · have e1 : nx = -1 := Eq.trans e (Eq.trans (pif_neg q) (pif_neg p))
      have p2 : ¬ bA A r = f.toNatClampNeg := fun z => p ((i32N h1 hf).mpr z)
      exact ⟨⟨fun _ z => z.elim q2 p2, fun _ => e1⟩, fun z => absurd e1 z⟩
theorem fq_i {A : LA} (hk : okA A) {w s f t nx p : Int32} {r : Nat} {h : Nat → Int32} (h0 : rg w 0 4) (hl : w < A 5 0 2) (hf : rg f 0 15) (ht : rg t 0 15) (hn : nnF h) (D : Dn (EcA A w s 1) t.toNatClampNeg 1000000000 (fN h)) (hr : r < n0A A) (hg : gsA A w s r) (hp : p = coA A w s 1 r) (e : nx = oeF (A 0 r 0) (A 0 r 1) f) (hx : ¬ nx = -1) : (¬ h nx.toNatClampNeg = 1000000000 ∧ h nx.toNatClampNeg + p = h f.toNatClampNeg) ↔ fqA A w s f t r := by
  have hF := ec_fin hk s h0 hl (n := 1) ⟨by decide, by decide⟩ (p16 ht)
  obtain ⟨o1, o2⟩ := oe_1 hk hr hf e
  obtain ⟨rx, ex⟩ := o2 hx
  have hor : aA A r = f.toNatClampNeg ∨ bA A r = f.toNatClampNeg := Classical.byContradiction (fun z => hx (o1.mpr z))
  have hb := coA_b hk s h0 hl (n := 1) ⟨by decide, by decide⟩ hr
  have hc : (coA A w s 1 r).toInt = (cA A w s 1 r : Int) := (oh_nat hb (by decide)).symm
  have hw : hasW (EcA A w s 1) t.toNatClampNeg nx.toNatClampNeg → hasW (EcA A w s 1) t.toNatClampNeg f.toNatClampNeg := by
    intro q
    have q2 := (lsN_s q).1
    have ed : EcA A w s 1 nx.toNatClampNeg f.toNatClampNeg (cA A w s 1 r) := by
      refine ⟨r, hr, hg, ?_, rfl⟩
      rw [ex]
      by_cases z : aA A r = f.toNatClampNeg
      · rw [if_pos z]
        exact Or.inr ⟨z, rfl⟩
      · rw [if_neg z]
        exact Or.inl ⟨rfl, hor.resolve_left z⟩
    obtain ⟨d, hd⟩ := ls_ex _ (rch_s q2 ed)
    exact ⟨d, hd⟩
  constructor
  · rintro ⟨c1, c2⟩
    have q : hasW (EcA A w s 1) t.toNatClampNeg nx.toNatClampNeg := Classical.byContradiction (fun z => c1 ((fX_i D hF (p16 rx)).mpr z))
    obtain ⟨a1, a2⟩ := fX_y hn D hF (p16 rx) q
    obtain ⟨b1, b2⟩ := fX_y hn D hF (p16 hf) (hw q)
    have c3 := congrArg Int32.toInt c2
    rw [hp, Int32.toInt_add, hc, a1, b1, oh_bmod (by omega) (by have := hb.2; omega)] at c3
    refine ⟨hg, hor, by rw [← ex]; exact q, ?_⟩
    rw [← ex]
    omega
  · intro q
    obtain ⟨_, _, q1, q2⟩ := q
    rw [← ex] at q1 q2
    obtain ⟨a1, a2⟩ := fX_y hn D hF (p16 rx) q1
    obtain ⟨b1, b2⟩ := fX_y hn D hF (p16 hf) (hw q1)
    refine ⟨fun z => (fX_i D hF (p16 rx)).mp z q1, Int32.toInt_inj.mp ?_⟩
    rw [hp, Int32.toInt_add, hc, a1, b1, oh_bmod (by omega) (by have := hb.2; omega)]
    omega

set_option maxHeartbeats 4000000 in
set_option maxRecDepth 100000 in
theorem e_X5_otherEnd (l : Launch) (D : va_G) (E : Nat → ClassId) (G : Nat → Nat) (a : Nat → Nat) (C : Nat → va_E) (hT : TyX a E C) (x1 : Int32) (x2 : Int32) (hx1 : rg x1 0 23) : Met l yX5_otherEnd (oh_w yX5_otherEnd cX5_otherEnd 3 (some .int)) ({ frames := 1, cells := 0, slots := 0, locals := 22 }) (oh_Pp D E G [.ref (a 3), .int x1, .int x2] (oh_W 35 a C)) (vp_Si (fun r => rg r (-1) 15 ∧ (r = oeF (ga (C 11) ((x1 * 7) + 0).toNatClampNeg) (ga (C 11) ((x1 * 7) + 1).toNatClampNeg) x2))) 0 0 (fun _ => False) := by
  refine Met.ofW (cc := cX5_otherEnd) (maxL := 3) (ret := (some .int)) (by decide) rfl ?_
  intro p e s m args below meth c s₁ B hml hv
  obtain ⟨rfl, hP, hK, hG⟩ := hv
  have hx := B.exec
  have hb := B.bytes
  have hr := B.returns
  have hts := atoms_spec (ws := (oh_w yX5_otherEnd cX5_otherEnd 3 (some .int))) B.pre
  have htg : ∀ w ∈ oh_t, w.before _ s = true := fun w h => hts w (List.mem_cons_of_mem _ h)
  have hown : s.vm.findClass RX5 = some m.cls := findClass_of_methodNamed B.named
  have hlocks := B.notSynchronized
  have hT0 := hT
  have hS : va_S (fun _ => False) s.heap s.heap [] := va_S.rf
  have hl := lv_entry ([.ref (a 3), .int x1, .int x2]) (n := 3) (Nat.le_of_ble_eq_true rfl)
  rw [lg_entry_eq]
  generalize (lg_sl ([.ref (a 3), .int x1, .int x2]) ++ List.replicate (3 - (lg_sl ([.ref (a 3), .int x1, .int x2])).length) Slot.unset).toArray = ls at hl ⊢
  have hl : lv_has ls 3 [(0, .ref (a 3)), (1, .int x1), (2, .int x2)] := hl
  refine oh_genQ (fun Q hQ => ?_)
  refine lv_aload_n hx hb dX5_otherEnd_0 rfl (lv_at hl 0 rfl) ?_
  refine va_get (D := D) (ci := 5) (v := .ref (a 1)) (C := RX5) (T := TX5) (N := 7) hx hb htg ig_5 hown hK hP 3 (oh_wg (by decide) (sX_3 hT)) rfl 0 (by decide) (htg _ q_167) (fun _ h9 => h9) rfl dX5_otherEnd_1 ?_
  refine lv_iload_n hx hb dX5_otherEnd_4 rfl (lv_at hl 1 rfl) ?_
  refine lv_iconst (v := 0) hx hb dX5_otherEnd_5 (by decide) ?_
  refine tq_V (As := [.int x1, .int 0]) (rest := []) (ws := (oh_W 35 a C)) ⟨hx, hb, hml, hown, htg⟩ (c_X0_ofRoad l D E G a C hT x1 (0 : Int32) (rg_w hx1 (by decide)) (rg_w (rg_c (v := 0) (lo := 0) (hi := 0) (by decide)) (by decide))) (cwV 2 htg (oh_gV q_755 q_480 q_481 q_67 q_482) rfl rfl rfl pdVX0_ofRoad ⟨Nat.le_of_ble_eq_true rfl, Nat.le_of_ble_eq_true rfl⟩) hK hP hG hS (va_recv hK hP (ci := 0) (q0 := 1) rfl (oh_wg (by decide) (sX_1 hT))) rfl hl.1 rfl (Nat.le_of_ble_eq_true rfl) dX5_otherEnd_6 ⟨Nat.le_of_ble_eq_true rfl, Nat.le_of_ble_eq_true rfl⟩ (fun r_1 hq_2 => ?_)
  subst hq_2
  refine lv_iload_n hx hb dX5_otherEnd_9 rfl (lv_at hl 2 rfl) ?_
  refine lv_icmp_ne (tgt := 23) hx hb dX5_otherEnd_10 (by decide) (fun (c_3 : ¬ ((ga (C 11) ((x1 * 7) + 0).toNatClampNeg) = x2)) => ?_) (fun (c_3 : (ga (C 11) ((x1 * 7) + 0).toNatClampNeg) = x2) => ?_)
  · refine lv_aload_n hx hb dX5_otherEnd_23 rfl (lv_at hl 0 rfl) ?_
    refine va_get (D := D) (ci := 5) (v := .ref (a 1)) (C := RX5) (T := TX5) (N := 7) hx hb htg ig_5 hown hK hP 3 (oh_wg (by decide) (sX_3 hT)) rfl 0 (by decide) (htg _ q_167) (fun _ h9 => h9) rfl dX5_otherEnd_24 ?_
    refine lv_iload_n hx hb dX5_otherEnd_27 rfl (lv_at hl 1 rfl) ?_
    refine lv_iconst (v := 1) hx hb dX5_otherEnd_28 (by decide) ?_
    refine tq_V (As := [.int x1, .int 1]) (rest := []) (ws := (oh_W 35 a C)) ⟨hx, hb, hml, hown, htg⟩ (c_X0_ofRoad l D E G a C hT x1 (1 : Int32) (rg_w hx1 (by decide)) (rg_w (rg_c (v := 1) (lo := 1) (hi := 1) (by decide)) (by decide))) (cwV 2 htg (oh_gV q_755 q_480 q_481 q_67 q_482) rfl rfl rfl pdVX0_ofRoad ⟨Nat.le_of_ble_eq_true rfl, Nat.le_of_ble_eq_true rfl⟩) hK hP hG hS (va_recv hK hP (ci := 0) (q0 := 1) rfl (oh_wg (by decide) (sX_1 hT))) rfl hl.1 rfl (Nat.le_of_ble_eq_true rfl) dX5_otherEnd_29 ⟨Nat.le_of_ble_eq_true rfl, Nat.le_of_ble_eq_true rfl⟩ (fun r_4 hq_5 => ?_)
    subst hq_5
    refine lv_iload_n hx hb dX5_otherEnd_32 rfl (lv_at hl 2 rfl) ?_
    refine lv_icmp_ne (tgt := 48) hx hb dX5_otherEnd_33 (by decide) (fun (c_6 : ¬ ((ga (C 11) ((x1 * 7) + 1).toNatClampNeg) = x2)) => ?_) (fun (c_6 : (ga (C 11) ((x1 * 7) + 1).toNatClampNeg) = x2) => ?_)
    · refine lv_iconst (v := (-1)) hx hb dX5_otherEnd_48 (by decide) ?_
      rw [hQ]
      exact W.iret (v := (-1)) hx hb hr (fun t ht hW => ⟨(-1), rfl, ⟨(rg_w (rg_c (v := (-1)) (lo := (-1)) (hi := (-1)) (by decide)) (by decide)), ((Eq.trans (pif_neg c_3) (pif_neg c_6))).symm⟩, ht⟩) (fun q h => by cases h) dX5_otherEnd_49
    · refine lv_aload_n hx hb dX5_otherEnd_36 rfl (lv_at hl 0 rfl) ?_
      refine va_get (D := D) (ci := 5) (v := .ref (a 1)) (C := RX5) (T := TX5) (N := 7) hx hb htg ig_5 hown hK hP 3 (oh_wg (by decide) (sX_3 hT)) rfl 0 (by decide) (htg _ q_167) (fun _ h9 => h9) rfl dX5_otherEnd_37 ?_
      refine lv_iload_n hx hb dX5_otherEnd_40 rfl (lv_at hl 1 rfl) ?_
      refine lv_iconst (v := 0) hx hb dX5_otherEnd_41 (by decide) ?_
      refine tq_V (As := [.int x1, .int 0]) (rest := []) (ws := (oh_W 35 a C)) ⟨hx, hb, hml, hown, htg⟩ (c_X0_ofRoad l D E G a C hT x1 (0 : Int32) (rg_w hx1 (by decide)) (rg_w (rg_c (v := 0) (lo := 0) (hi := 0) (by decide)) (by decide))) (cwV 2 htg (oh_gV q_755 q_480 q_481 q_67 q_482) rfl rfl rfl pdVX0_ofRoad ⟨Nat.le_of_ble_eq_true rfl, Nat.le_of_ble_eq_true rfl⟩) hK hP hG hS (va_recv hK hP (ci := 0) (q0 := 1) rfl (oh_wg (by decide) (sX_1 hT))) rfl hl.1 rfl (Nat.le_of_ble_eq_true rfl) dX5_otherEnd_42 ⟨Nat.le_of_ble_eq_true rfl, Nat.le_of_ble_eq_true rfl⟩ (fun r_7 hq_8 => ?_)
      subst hq_8
      refine lv_goto (tgt := 49) hx hb dX5_otherEnd_45 (by decide) ?_
      rw [hQ]
      exact W.iret (v := ga (C 11) ((x1 * 7) + 0).toNatClampNeg) hx hb hr (fun t ht hW => ⟨ga (C 11) ((x1 * 7) + 0).toNatClampNeg, rfl, ⟨(rg_w (tA_rdc (lo := 0) (hi := 15) (tX_11 hT0) (rg_in (rg_add (lo := 0) (hi := 161) (rg_mul (lo := 0) (hi := 161) hx1 (rg_c (v := 7) (lo := 7) (hi := 7) (by decide)) (by decide)) (rg_c (v := 0) (lo := 0) (hi := 0) (by decide)) (by decide)) (by decide)) (oh_col (W := 7) hx1 rfl (rg_c (v := 0) (lo := 0) (hi := 0) (by decide)) (by decide)) (by decide)) (by decide)), ((Eq.trans (pif_neg c_3) (pif_pos c_6))).symm⟩, ht⟩) (fun q h => by cases h) dX5_otherEnd_49
  · refine lv_aload_n hx hb dX5_otherEnd_13 rfl (lv_at hl 0 rfl) ?_
    refine va_get (D := D) (ci := 5) (v := .ref (a 1)) (C := RX5) (T := TX5) (N := 7) hx hb htg ig_5 hown hK hP 3 (oh_wg (by decide) (sX_3 hT)) rfl 0 (by decide) (htg _ q_167) (fun _ h9 => h9) rfl dX5_otherEnd_14 ?_
    refine lv_iload_n hx hb dX5_otherEnd_17 rfl (lv_at hl 1 rfl) ?_
    refine lv_iconst (v := 1) hx hb dX5_otherEnd_18 (by decide) ?_
    refine tq_V (As := [.int x1, .int 1]) (rest := []) (ws := (oh_W 35 a C)) ⟨hx, hb, hml, hown, htg⟩ (c_X0_ofRoad l D E G a C hT x1 (1 : Int32) (rg_w hx1 (by decide)) (rg_w (rg_c (v := 1) (lo := 1) (hi := 1) (by decide)) (by decide))) (cwV 2 htg (oh_gV q_755 q_480 q_481 q_67 q_482) rfl rfl rfl pdVX0_ofRoad ⟨Nat.le_of_ble_eq_true rfl, Nat.le_of_ble_eq_true rfl⟩) hK hP hG hS (va_recv hK hP (ci := 0) (q0 := 1) rfl (oh_wg (by decide) (sX_1 hT))) rfl hl.1 rfl (Nat.le_of_ble_eq_true rfl) dX5_otherEnd_19 ⟨Nat.le_of_ble_eq_true rfl, Nat.le_of_ble_eq_true rfl⟩ (fun r_9 hq_10 => ?_)
    subst hq_10
    rw [hQ]
    exact W.iret (v := ga (C 11) ((x1 * 7) + 1).toNatClampNeg) hx hb hr (fun t ht hW => ⟨ga (C 11) ((x1 * 7) + 1).toNatClampNeg, rfl, ⟨(rg_w (tA_rdc (lo := 0) (hi := 15) (tX_11 hT0) (rg_in (rg_add (lo := 1) (hi := 162) (rg_mul (lo := 0) (hi := 161) hx1 (rg_c (v := 7) (lo := 7) (hi := 7) (by decide)) (by decide)) (rg_c (v := 1) (lo := 1) (hi := 1) (by decide)) (by decide)) (by decide)) (oh_col (W := 7) hx1 rfl (rg_c (v := 1) (lo := 1) (hi := 1) (by decide)) (by decide)) (by decide)) (by decide)), ((pif_pos c_3)).symm⟩, ht⟩) (fun q h => by cases h) dX5_otherEnd_22

set_option maxHeartbeats 4000000 in
set_option maxRecDepth 100000 in
theorem e_X5_leastCoin (l : Launch) (D : va_G) (E : Nat → ClassId) (G : Nat → Nat) (sz : Nat) (a : Nat → Nat) (C : Nat → va_E) (hT : TyX a E C) (x1 : Int32) (x2 : Int32) (x3 : Int32) (x4 : Int32) (x5 : Int32) (hx1 : rg x1 0 4) (hx3 : rg x3 0 15) (hx4 : rg x4 0 15) : Met l yX5_leastCoin (oh_w yX5_leastCoin cX5_leastCoin 6 (some .int)) ({ frames := 4, cells := 0, slots := 0, locals := 100 }) (oh_Pm D E G [.ref (a 3), .int x1, .int x2, .int x3, .int x4, .int x5] (oh_W 35 a C) sz) (va_Qi (fun r (u : Nat → va_E) => TyX a E u ∧ fr [(9, 10), (24, 28)] [] C u ∧ (∀ A : LA, absX 10 C A → okA A → x1 < A 5 0 2 → rg x5 0 20 → r = lcA A x1 x2 x3 x4 x5)) (oh_B D (va_A (oh_W 35 a C) sz) (fun u => oh_W 35 a u)) (va_A (oh_W 35 a C) sz)) 0 0 (va_A (oh_W 35 a C) sz) := by
  refine Met.ofW (cc := cX5_leastCoin) (maxL := 6) (ret := (some .int)) (by decide) rfl ?_
  intro p e s m args below meth c s₁ B hml hv
  obtain ⟨rfl, hsz, hP, hK, hD0, hG⟩ := hv
  have hx := B.exec
  have hb := B.bytes
  have hr := B.returns
  have hts := atoms_spec (ws := (oh_w yX5_leastCoin cX5_leastCoin 6 (some .int))) B.pre
  have htg : ∀ w ∈ oh_t, w.before _ s = true := fun w h => hts w (List.mem_cons_of_mem _ h)
  have hown : s.vm.findClass RX5 = some m.cls := findClass_of_methodNamed B.named
  have hlocks := B.notSynchronized
  have hT0 := hT
  subst hsz
  have hD := hD0.self (sz := s.heap.size)
  generalize hAe : va_A (oh_W 35 a C) s.heap.size = A at hD hG ⊢
  have hA : ∀ q : Nat, s.heap.size ≤ q → A q := fun q h => by rw [← hAe]; exact Or.inr h
  have hS : va_S A s.heap s.heap [] := va_S.rf
  have hF : fr [(9, 10), (24, 28)] [] C C := fr_rf
  have hl := lv_entry ([.ref (a 3), .int x1, .int x2, .int x3, .int x4, .int x5]) (n := 6) (Nat.le_of_ble_eq_true rfl)
  rw [lg_entry_eq]
  generalize (lg_sl ([.ref (a 3), .int x1, .int x2, .int x3, .int x4, .int x5]) ++ List.replicate (6 - (lg_sl ([.ref (a 3), .int x1, .int x2, .int x3, .int x4, .int x5])).length) Slot.unset).toArray = ls at hl ⊢
  have hl : lv_has ls 6 [(0, .ref (a 3)), (1, .int x1), (2, .int x2), (3, .int x3), (4, .int x4), (5, .int x5)] := hl
  refine oh_genQ (fun Q hQ => ?_)
  refine lv_aload_n hx hb dX5_leastCoin_0 rfl (lv_at hl 0 rfl) ?_
  refine lv_iload_n hx hb dX5_leastCoin_1 rfl (lv_at hl 1 rfl) ?_
  refine lv_iload_n hx hb dX5_leastCoin_2 rfl (lv_at hl 2 rfl) ?_
  refine tm_Vv (As := [.int x1, .int x2]) (rest := []) ⟨hx, hb, hml, hown, htg⟩ (e_X5_survey l D E G _ a C hT x1 x2 (rg_w hx1 (by decide))) (cwV 2 htg (oh_gV q_784 q_751 q_752 q_68 q_753) rfl rfl rfl pdVX5_survey ⟨Nat.le_of_ble_eq_true rfl, Nat.le_of_ble_eq_true rfl⟩) hK hP hD hG hS hA (va_recv hK hP (ci := 5) (q0 := 3) rfl (oh_wg (by decide) (sX_3 hT))) rfl hl.1 rfl (Nat.le_of_ble_eq_true rfl) dX5_leastCoin_3 ⟨Nat.le_of_ble_eq_true rfl, Nat.le_of_ble_eq_true rfl⟩ (fun C_2 H locs hq_3 hP hD hS => ?_)
  obtain ⟨hT, f_4, hq_3⟩ := hq_3
  have hF := fr_tr hF f_4 (by decide) (by decide)
  refine W.widen (k := 0) (n := 0) (Nat.le_refl _) (Nat.le_refl _) ?_
  have t_5 := hT
  refine lv_aload_n hx hb dX5_leastCoin_6 rfl (lv_at hl 0 rfl) ?_
  refine lv_iload hx hb dX5_leastCoin_7 (lv_at hl 5 rfl) ?_
  refine tm_Vv (As := [.int x5]) (rest := []) ⟨hx, hb, hml, hown, htg⟩ (e_X5_priceByCoin l D E G _ a C_2 hT x5) (cwV 1 htg (oh_gV q_785 q_787 q_18 q_68 q_788) rfl rfl rfl pdVX5_priceByCoin ⟨Nat.le_of_ble_eq_true rfl, Nat.le_of_ble_eq_true rfl⟩) hK hP hD hG hS hA (va_recv hK hP (ci := 5) (q0 := 3) rfl (oh_wg (by decide) (sX_3 hT))) rfl hl.1 rfl (Nat.le_of_ble_eq_true rfl) dX5_leastCoin_9 ⟨Nat.le_of_ble_eq_true rfl, Nat.le_of_ble_eq_true rfl⟩ (fun C_7 H locs hq_8 hP hD hS => ?_)
  obtain ⟨hT, f_9, hq_8⟩ := hq_8
  have hF := fr_tr hF f_9 (by decide) (by decide)
  refine W.widen (k := 0) (n := 0) (Nat.le_refl _) (Nat.le_refl _) ?_
  have t_10 := hT
  refine lv_aload_n hx hb dX5_leastCoin_12 rfl (lv_at hl 0 rfl) ?_
  refine lv_iload_n hx hb dX5_leastCoin_13 rfl (lv_at hl 3 rfl) ?_
  refine tm_Vv (As := [.int x3]) (rest := []) ⟨hx, hb, hml, hown, htg⟩ (e_X5_spread l D E G _ a C_7 hT x3 (rg_w hx3 (by decide))) (cwV 1 htg (oh_gV q_790 q_792 q_19 q_68 q_793) rfl rfl rfl pdVX5_spread ⟨Nat.le_of_ble_eq_true rfl, Nat.le_of_ble_eq_true rfl⟩) hK hP hD hG hS hA (va_recv hK hP (ci := 5) (q0 := 3) rfl (oh_wg (by decide) (sX_3 hT))) rfl hl.1 rfl (Nat.le_of_ble_eq_true rfl) dX5_leastCoin_14 ⟨Nat.le_of_ble_eq_true rfl, Nat.le_of_ble_eq_true rfl⟩ (fun C_12 H locs hq_13 hP hD hS => ?_)
  obtain ⟨hT, f_14, hq_13⟩ := hq_13
  have hF := fr_tr hF f_14 (by decide) (by decide)
  refine W.widen (k := 0) (n := 0) (Nat.le_refl _) (Nat.le_refl _) ?_
  have t_15 := hT
  refine lv_aload_n hx hb dX5_leastCoin_17 rfl (lv_at hl 0 rfl) ?_
  refine va_get (D := D) (ci := 5) (v := .ref (a 27)) (C := RX5) (T := TX5) (N := 7) hx hb htg ig_5 hown hK hP 3 (oh_wg (by decide) (sX_3 hT)) rfl 5 (by decide) (htg _ q_174) (fun _ h9 => h9) rfl dX5_leastCoin_18 ?_
  refine lv_iload hx hb dX5_leastCoin_21 (lv_at hl 4 rfl) ?_
  have n_16 : vp_in x4 16 := (rg_in hx4 (by decide))
  refine th_iald hx hb hK hP 27 (by decide) (sX_27 hT) n_16 dX5_leastCoin_23 ?_
  refine lv_ldc (v := 1000000000) hx hb hown (htg _ q_794) dX5_leastCoin_24 ?_
  refine lv_icmp_ne (tgt := 34) hx hb dX5_leastCoin_26 (by decide) (fun (c_17 : ¬ ((ga (C_12 27) (x4).toNatClampNeg) = 1000000000)) => ?_) (fun (c_17 : (ga (C_12 27) (x4).toNatClampNeg) = 1000000000) => ?_)
  · refine lv_aload_n hx hb dX5_leastCoin_34 rfl (lv_at hl 0 rfl) ?_
    refine va_get (D := D) (ci := 5) (v := .ref (a 27)) (C := RX5) (T := TX5) (N := 7) hx hb htg ig_5 hown hK hP 3 (oh_wg (by decide) (sX_3 hT)) rfl 5 (by decide) (htg _ q_174) (fun _ h9 => h9) rfl dX5_leastCoin_35 ?_
    refine lv_iload hx hb dX5_leastCoin_38 (lv_at hl 4 rfl) ?_
    have n_18 : vp_in x4 16 := (rg_in hx4 (by decide))
    refine th_iald hx hb hK hP 27 (by decide) (sX_27 hT) n_18 dX5_leastCoin_40 ?_
    refine lv_iload hx hb dX5_leastCoin_41 (lv_at hl 5 rfl) ?_
    refine lv_aload_n hx hb dX5_leastCoin_43 rfl (lv_at hl 0 rfl) ?_
    refine va_get (D := D) (ci := 5) (v := .ref (a 9)) (C := RX5) (T := TX5) (N := 7) hx hb htg ig_5 hown hK hP 3 (oh_wg (by decide) (sX_3 hT)) rfl 1 (by decide) (htg _ q_168) (fun _ h9 => h9) rfl dX5_leastCoin_44 ?_
    refine va_get (D := D) (ci := 1) (v := .int (gi (C_2 9) 4)) (C := RX1) (T := TX1) (N := 5) hx hb htg ig_1 hown hK hP 9 (oh_wg (by decide) (sX_9 hT)) rfl 4 (by decide) (htg _ q_153) (fun _ h9 => h9) (oh_fv (c := C_12 9) (j := 4) rfl (Eq.trans (congrArg (fun z => gi z 4) (f_14.1 9 rfl (by decide))) (congrArg (fun z => gi z 4) (f_9.1 9 rfl (by decide))))) dX5_leastCoin_47 ?_
    refine lv_imul hx hb dX5_leastCoin_50 ?_
    refine lv_iadd hx hb dX5_leastCoin_51 ?_
    rw [hQ]
    exact W.iret (v := (ga (C_12 27) (x4).toNatClampNeg) + (x5 * (gi (C_2 9) 4))) hx hb hr (fun t ht hW => ⟨⟨(ga (C_12 27) (x4).toNatClampNeg) + (x5 * (gi (C_2 9) 4)), C_12, rfl, ⟨hT, hF, (fun A hA hok hl hn => by have hs2 : svX C_2 A x1 x2 := hq_3 A hA hl; have hA2 := (absX_eq hA (fr_all f_4 10 15 (by decide))); have hA7 := (absX_eq (absX_eq hA (fr_all f_4 10 15 (by decide))) (fr_all f_9 10 15 (by decide))); have hs7 : svX C_7 A x1 x2 := svX_eq hs2 (f_9.1 9 rfl (by decide)) (f_9.1 24 rfl (by decide)) (f_9.1 25 rfl (by decide)); have G := gx_c hA7 hok hx1 hl hn hs7 (hq_8 A x1 x2 hA2 hs2); have hF := ec_fin hok x2 hx1 hl (n := x5) hn (p16 hx3); obtain ⟨hnn, D⟩ := hq_13 _ _ _ _ _ G; exact lc_y hnn D hF hx4 c_17 rfl hs2.1.2.2.2.2)⟩, ⟨by rw [ht]; exact hP, hD⟩⟩, hS.F ht⟩) hS.2.2 dX5_leastCoin_52
  · refine lv_ldc (v := 1000000000) hx hb hown (htg _ q_794) dX5_leastCoin_29 ?_
    refine lv_goto (tgt := 52) hx hb dX5_leastCoin_31 (by decide) ?_
    rw [hQ]
    exact W.iret (v := 1000000000) hx hb hr (fun t ht hW => ⟨⟨1000000000, C_12, rfl, ⟨hT, hF, (fun A hA hok hl hn => by have hs2 : svX C_2 A x1 x2 := hq_3 A hA hl; have hA2 := (absX_eq hA (fr_all f_4 10 15 (by decide))); have hA7 := (absX_eq (absX_eq hA (fr_all f_4 10 15 (by decide))) (fr_all f_9 10 15 (by decide))); have hs7 : svX C_7 A x1 x2 := svX_eq hs2 (f_9.1 9 rfl (by decide)) (f_9.1 24 rfl (by decide)) (f_9.1 25 rfl (by decide)); have G := gx_c hA7 hok hx1 hl hn hs7 (hq_8 A x1 x2 hA2 hs2); have hF := ec_fin hok x2 hx1 hl (n := x5) hn (p16 hx3); obtain ⟨hnn, D⟩ := hq_13 _ _ _ _ _ G; exact lc_n D hF hx4 c_17)⟩, ⟨by rw [ht]; exact hP, hD⟩⟩, hS.F ht⟩) hS.2.2 dX5_leastCoin_52

set_option maxHeartbeats 4000000 in
set_option maxRecDepth 100000 in
theorem e_X5_firstRoad (l : Launch) (D : va_G) (E : Nat → ClassId) (G : Nat → Nat) (sz : Nat) (a : Nat → Nat) (C : Nat → va_E) (hT : TyX a E C) (x1 : Int32) (x2 : Int32) (x3 : Int32) (x4 : Int32) (hx1 : rg x1 0 4) (hx3 : rg x3 0 15) (hx4 : rg x4 0 15) : Met l yX5_firstRoad (oh_w yX5_firstRoad cX5_firstRoad 7 (some .int)) ({ frames := 4, cells := 0, slots := 0, locals := 100 }) (oh_Pm D E G [.ref (a 3), .int x1, .int x2, .int x3, .int x4] (oh_W 35 a C) sz) (va_Qi (fun r (u : Nat → va_E) => TyX a E u ∧ fr [(9, 10), (24, 28)] [] C u ∧ rg r (-1) 23 ∧ (∀ A : LA, absX 10 C A → okA A → x1 < A 5 0 2 → frA A x1 x2 x3 x4 r) ∧ (∀ A : LA, absX 10 C A → x1 < A 5 0 2 → svX u A x1 x2)) (oh_B D (va_A (oh_W 35 a C) sz) (fun u => oh_W 35 a u)) (va_A (oh_W 35 a C) sz)) 0 0 (va_A (oh_W 35 a C) sz) := by
  refine Met.ofW (cc := cX5_firstRoad) (maxL := 7) (ret := (some .int)) (by decide) rfl ?_
  intro p e s m args below meth c s₁ B hml hv
  obtain ⟨rfl, hsz, hP, hK, hD0, hG⟩ := hv
  have hx := B.exec
  have hb := B.bytes
  have hr := B.returns
  have hts := atoms_spec (ws := (oh_w yX5_firstRoad cX5_firstRoad 7 (some .int))) B.pre
  have htg : ∀ w ∈ oh_t, w.before _ s = true := fun w h => hts w (List.mem_cons_of_mem _ h)
  have hown : s.vm.findClass RX5 = some m.cls := findClass_of_methodNamed B.named
  have hlocks := B.notSynchronized
  have hT0 := hT
  subst hsz
  have hD := hD0.self (sz := s.heap.size)
  generalize hAe : va_A (oh_W 35 a C) s.heap.size = A at hD hG ⊢
  have hA : ∀ q : Nat, s.heap.size ≤ q → A q := fun q h => by rw [← hAe]; exact Or.inr h
  have hS : va_S A s.heap s.heap [] := va_S.rf
  have hF : fr [(9, 10), (24, 28)] [] C C := fr_rf
  have hl := lv_entry ([.ref (a 3), .int x1, .int x2, .int x3, .int x4]) (n := 7) (Nat.le_of_ble_eq_true rfl)
  rw [lg_entry_eq]
  generalize (lg_sl ([.ref (a 3), .int x1, .int x2, .int x3, .int x4]) ++ List.replicate (7 - (lg_sl ([.ref (a 3), .int x1, .int x2, .int x3, .int x4])).length) Slot.unset).toArray = ls at hl ⊢
  have hl : lv_has ls 7 [(0, .ref (a 3)), (1, .int x1), (2, .int x2), (3, .int x3), (4, .int x4)] := hl
  refine oh_genQ (fun Q hQ => ?_)
  refine lv_aload_n hx hb dX5_firstRoad_0 rfl (lv_at hl 0 rfl) ?_
  refine lv_iload_n hx hb dX5_firstRoad_1 rfl (lv_at hl 1 rfl) ?_
  refine lv_iload_n hx hb dX5_firstRoad_2 rfl (lv_at hl 2 rfl) ?_
  refine tm_Vv (As := [.int x1, .int x2]) (rest := []) ⟨hx, hb, hml, hown, htg⟩ (e_X5_survey l D E G _ a C hT x1 x2 (rg_w hx1 (by decide))) (cwV 2 htg (oh_gV q_784 q_751 q_752 q_68 q_753) rfl rfl rfl pdVX5_survey ⟨Nat.le_of_ble_eq_true rfl, Nat.le_of_ble_eq_true rfl⟩) hK hP hD hG hS hA (va_recv hK hP (ci := 5) (q0 := 3) rfl (oh_wg (by decide) (sX_3 hT))) rfl hl.1 rfl (Nat.le_of_ble_eq_true rfl) dX5_firstRoad_3 ⟨Nat.le_of_ble_eq_true rfl, Nat.le_of_ble_eq_true rfl⟩ (fun C_2 H locs hq_3 hP hD hS => ?_)
  obtain ⟨hT, f_4, hq_3⟩ := hq_3
  have hF := fr_tr hF f_4 (by decide) (by decide)
  refine W.widen (k := 0) (n := 0) (Nat.le_refl _) (Nat.le_refl _) ?_
  have t_5 := hT
  refine lv_aload_n hx hb dX5_firstRoad_6 rfl (lv_at hl 0 rfl) ?_
  refine lv_iconst (v := 1) hx hb dX5_firstRoad_7 (by decide) ?_
  refine tm_Vv (As := [.int 1]) (rest := []) ⟨hx, hb, hml, hown, htg⟩ (e_X5_priceByCoin l D E G _ a C_2 hT (1 : Int32)) (cwV 1 htg (oh_gV q_785 q_787 q_18 q_68 q_788) rfl rfl rfl pdVX5_priceByCoin ⟨Nat.le_of_ble_eq_true rfl, Nat.le_of_ble_eq_true rfl⟩) hK hP hD hG hS hA (va_recv hK hP (ci := 5) (q0 := 3) rfl (oh_wg (by decide) (sX_3 hT))) rfl hl.1 rfl (Nat.le_of_ble_eq_true rfl) dX5_firstRoad_8 ⟨Nat.le_of_ble_eq_true rfl, Nat.le_of_ble_eq_true rfl⟩ (fun C_7 H locs hq_8 hP hD hS => ?_)
  obtain ⟨hT, f_9, hq_8⟩ := hq_8
  have hF := fr_tr hF f_9 (by decide) (by decide)
  refine W.widen (k := 0) (n := 0) (Nat.le_refl _) (Nat.le_refl _) ?_
  have t_10 := hT
  refine lv_aload_n hx hb dX5_firstRoad_11 rfl (lv_at hl 0 rfl) ?_
  refine lv_iload hx hb dX5_firstRoad_12 (lv_at hl 4 rfl) ?_
  refine tm_Vv (As := [.int x4]) (rest := []) ⟨hx, hb, hml, hown, htg⟩ (e_X5_spread l D E G _ a C_7 hT x4 (rg_w hx4 (by decide))) (cwV 1 htg (oh_gV q_790 q_792 q_19 q_68 q_793) rfl rfl rfl pdVX5_spread ⟨Nat.le_of_ble_eq_true rfl, Nat.le_of_ble_eq_true rfl⟩) hK hP hD hG hS hA (va_recv hK hP (ci := 5) (q0 := 3) rfl (oh_wg (by decide) (sX_3 hT))) rfl hl.1 rfl (Nat.le_of_ble_eq_true rfl) dX5_firstRoad_14 ⟨Nat.le_of_ble_eq_true rfl, Nat.le_of_ble_eq_true rfl⟩ (fun C_12 H locs hq_13 hP hD hS => ?_)
  obtain ⟨hT, f_14, hq_13⟩ := hq_13
  have hF := fr_tr hF f_14 (by decide) (by decide)
  refine W.widen (k := 0) (n := 0) (Nat.le_refl _) (Nat.le_refl _) ?_
  have t_15 := hT
  refine lv_iconst (v := 0) hx hb dX5_firstRoad_17 (by decide) ?_
  refine lv_istore (lv' := [(5, .int 0), (0, .ref (a 3)), (1, .int x1), (2, .int x2), (3, .int x3), (4, .int x4)]) hx hb dX5_firstRoad_18 hl (by decide) rfl (fun ls hl => ?_)
  have L_20 : ∀ (d : Nat) (K20 : Nat → va_E) (z20_5 : Int32) (H : Heap) (locs : List Loc) (ls : Array Slot), (24 - z20_5.toInt).toNat = d → rg z20_5 0 24 → (∀ A : LA, absX 10 C A → okA A → x1 < A 5 0 2 → ∀ i : Nat, (i : Int) < z20_5.toInt → ¬ fqA A x1 x2 x3 x4 i) → TyX a E K20 → fr [(9, 10), (24, 28)] [] C K20 → fr [] [] C_12 K20 → va_P D vwCl (oh_W 35 a K20) H → va_D A (oh_W 35 a K20) → va_S A s.heap H locs → lv_has ls 7 [(5, .int z20_5), (0, .ref (a 3)), (1, .int x1), (2, .int x2), (3, .int x3), (4, .int x4)] → W p l e ({ frames := 4, cells := 0, slots := 0, locals := 100 }) s m (([.ref (a 3), .int x1, .int x2, .int x3, .int x4] : List Value).toArray) below meth c H locs 0 0 Q (F0 m 20 ls []) := by
    intro d
    induction d using Nat.strongRecOn with
    | ind d ih_20 =>
    intro K20 z20_5 H locs ls hd_20 hz20_5 hx_20 hT hF hLF_20 hP hD hS hl
    have t_16 := hT
    refine lv_iload hx hb dX5_firstRoad_20 (lv_at hl 0 rfl) ?_
    refine lv_aload_n hx hb dX5_firstRoad_22 rfl (lv_at hl 1 rfl) ?_
    refine va_get (D := D) (ci := 5) (v := .ref (a 1)) (C := RX5) (T := TX5) (N := 7) hx hb htg ig_5 hown hK hP 3 (oh_wg (by decide) (sX_3 hT)) rfl 0 (by decide) (htg _ q_167) (fun _ h9 => h9) rfl dX5_firstRoad_23 ?_
    refine va_get (D := D) (ci := 0) (v := .ref (a 10)) (C := RX0) (T := TX0) (N := 8) hx hb htg ig_0 hown hK hP 1 (oh_wg (by decide) (sX_1 hT)) rfl 0 (by decide) (htg _ q_99) (fun _ h9 => h9) rfl dX5_firstRoad_26 ?_
    refine lv_iconst (v := 0) hx hb dX5_firstRoad_29 (by decide) ?_
    refine th_iald hx hb hK hP 10 (by decide) (Eq.trans (Eq.trans (hLF_20.1 10 rfl (by decide)) (Eq.trans (f_14.1 10 rfl (by decide)) (Eq.trans (f_9.1 10 rfl (by decide)) (f_4.1 10 rfl (by decide))))) (sX_10 hT0)) (rg_in (rg_c (v := 0) (lo := 0) (hi := 0) (by decide)) (by decide)) dX5_firstRoad_30 ?_
    refine lv_icmp_ge (tgt := 105) hx hb dX5_firstRoad_31 (by decide) (fun (c_17 : (ga (C 10) ((0 : Int32)).toNatClampNeg) ≤ z20_5) => ?_) (fun (c_17 : ¬ ((ga (C 10) ((0 : Int32)).toNatClampNeg) ≤ z20_5)) => ?_)
    · refine lv_iconst (v := (-1)) hx hb dX5_firstRoad_105 (by decide) ?_
      rw [hQ]
      exact W.iret (v := (-1)) hx hb hr (fun t ht hW => ⟨⟨(-1), K20, rfl, ⟨hT, hF, ⟨(rg_w (rg_c (v := (-1)) (lo := (-1)) (hi := (-1)) (by decide)) (by decide)), (fun A hA hok hl => Or.inl ⟨rfl, fun i hi => hx_20 A hA hok hl i (by have h5 := hok.n0 hi; have h6 := Int32.le_iff_toInt_le.mp c_17; rw [show ga (C 10) ((0 : Int32)).toNatClampNeg = A 5 0 0 from hA.1 0 (by decide)] at h6; omega)⟩), (fun A hA hl => svX_eq (hq_3 A hA hl) (Eq.trans (hLF_20.1 9 rfl (by decide)) (Eq.trans (f_14.1 9 rfl (by decide)) (f_9.1 9 rfl (by decide)))) (Eq.trans (hLF_20.1 24 rfl (by decide)) (Eq.trans (f_14.1 24 rfl (by decide)) (f_9.1 24 rfl (by decide)))) (Eq.trans (hLF_20.1 25 rfl (by decide)) (Eq.trans (f_14.1 25 rfl (by decide)) (f_9.1 25 rfl (by decide)))))⟩⟩, ⟨by rw [ht]; exact hP, hD⟩⟩, hS.F ht⟩) hS.2.2 dX5_firstRoad_106
    · refine lv_aload_n hx hb dX5_firstRoad_34 rfl (lv_at hl 1 rfl) ?_
      refine lv_iload hx hb dX5_firstRoad_35 (lv_at hl 0 rfl) ?_
      refine lv_iload_n hx hb dX5_firstRoad_37 rfl (lv_at hl 4 rfl) ?_
      refine tq_V (As := [.int z20_5, .int x3]) (rest := []) (ws := (oh_W 35 a K20)) ⟨hx, hb, hml, hown, htg⟩ (e_X5_otherEnd l D E G a K20 hT z20_5 x3 (rg_w (rn_ltu (u' := 23) (Int32.not_le.mp c_17) hz20_5 (tA_rdc (lo := 0) (hi := 24) (tX_10 hT0) (rg_in (rg_c (v := 0) (lo := 0) (hi := 0) (by decide)) (by decide)) (show _ = 0 by decide) (by decide)) (by decide)) (by decide))) (cwV 2 htg (oh_gV q_846 q_848 q_25 q_68 q_849) rfl rfl rfl pdVX5_otherEnd ⟨Nat.le_of_ble_eq_true rfl, Nat.le_of_ble_eq_true rfl⟩) hK hP hG hS (va_recv hK hP (ci := 5) (q0 := 3) rfl (oh_wg (by decide) (sX_3 hT))) rfl hl.1 rfl (Nat.le_of_ble_eq_true rfl) dX5_firstRoad_38 ⟨Nat.le_of_ble_eq_true rfl, Nat.le_of_ble_eq_true rfl⟩ (fun r_18 hq_19 => ?_)
      refine lv_istore (lv' := [(6, .int r_18), (5, .int z20_5), (0, .ref (a 3)), (1, .int x1), (2, .int x2), (3, .int x3), (4, .int x4)]) hx hb dX5_firstRoad_41 hl (by decide) rfl (fun ls hl => ?_)
      refine lv_aload_n hx hb dX5_firstRoad_43 rfl (lv_at hl 2 rfl) ?_
      refine va_get (D := D) (ci := 5) (v := .ref (a 24)) (C := RX5) (T := TX5) (N := 7) hx hb htg ig_5 hown hK hP 3 (oh_wg (by decide) (sX_3 hT)) rfl 2 (by decide) (htg _ q_170) (fun _ h9 => h9) rfl dX5_firstRoad_44 ?_
      refine lv_iload hx hb dX5_firstRoad_47 (lv_at hl 1 rfl) ?_
      have n_20 : vp_in z20_5 24 := (rg_in (rn_ltu (u' := 23) (Int32.not_le.mp c_17) hz20_5 (tA_rdc (lo := 0) (hi := 24) (tX_10 hT0) (rg_in (rg_c (v := 0) (lo := 0) (hi := 0) (by decide)) (by decide)) (show _ = 0 by decide) (by decide)) (by decide)) (by decide))
      refine th_iald hx hb hK hP 24 (by decide) (Eq.trans (Eq.trans (hLF_20.1 24 rfl (by decide)) (Eq.trans (f_14.1 24 rfl (by decide)) (f_9.1 24 rfl (by decide)))) (sX_24 t_5)) n_20 dX5_firstRoad_49 ?_
      refine lv_iconst (v := (-1)) hx hb dX5_firstRoad_50 (by decide) ?_
      refine lv_icmp_eq (tgt := 99) hx hb dX5_firstRoad_51 (by decide) (fun (c_21 : (ga (C_2 24) (z20_5).toNatClampNeg) = (-1)) => ?_) (fun (c_21 : ¬ ((ga (C_2 24) (z20_5).toNatClampNeg) = (-1))) => ?_)
      · refine lv_iinc (v := z20_5 + 1) (lv' := [(5, .int (z20_5 + 1)), (6, .int r_18), (0, .ref (a 3)), (1, .int x1), (2, .int x2), (3, .int x3), (4, .int x4)]) hx hb dX5_firstRoad_99 hl (k := 1) rfl (by rfl) (by decide) rfl (fun ls hl => ?_)
        refine lv_goto (tgt := 20) hx hb dX5_firstRoad_102 (by decide) ?_
        exact ih_20 _ (hd_20 ▸ mu_up 24 (rn_ltu (u' := 23) (Int32.not_le.mp c_17) hz20_5 (tA_rdc (lo := 0) (hi := 24) (tX_10 hT0) (rg_in (rg_c (v := 0) (lo := 0) (hi := 0) (by decide)) (by decide)) (show _ = 0 by decide) (by decide)) (by decide)) (by decide)) K20 (z20_5 + 1) _ _ ls rfl (rg_w (rg_add (lo := 1) (hi := 24) (rn_ltu (u' := 23) (Int32.not_le.mp c_17) hz20_5 (tA_rdc (lo := 0) (hi := 24) (tX_10 hT0) (rg_in (rg_c (v := 0) (lo := 0) (hi := 0) (by decide)) (by decide)) (show _ = 0 by decide) (by decide)) (by decide)) (rg_c (v := 1) (lo := 1) (hi := 1) (by decide)) (by decide)) (by decide)) (fun A hA hok hl => by have hz1 : z20_5 < A 5 0 0 := oh_lte (Int32.not_le.mp c_17) (hA.1 0 (by decide)); have hr : z20_5.toNatClampNeg < n0A A := n0_lt (rg_w (lo := 0) (hi := 23) (rn_ltu (u' := 23) (Int32.not_le.mp c_17) hz20_5 (tA_rdc (lo := 0) (hi := 24) (tX_10 hT0) (rg_in (rg_c (v := 0) (lo := 0) (hi := 0) (by decide)) (by decide)) (show _ = 0 by decide) (by decide)) (by decide)) (by decide)) hz1; have hs2 : svX C_2 A x1 x2 := hq_3 A hA hl; have hA2 := (absX_eq hA (fr_all f_4 10 15 (by decide))); have hA7 := (absX_eq (absX_eq hA (fr_all f_4 10 15 (by decide))) (fr_all f_9 10 15 (by decide))); have hs7 : svX C_7 A x1 x2 := svX_eq hs2 (f_9.1 9 rfl (by decide)) (f_9.1 24 rfl (by decide)) (f_9.1 25 rfl (by decide)); have G := gx_c hA7 hok hx1 hl ⟨by decide, by decide⟩ hs7 (hq_8 A x1 x2 hA2 hs2); have hF := ec_fin hok x2 hx1 hl (n := 1) ⟨by decide, by decide⟩ (p16 hx4); obtain ⟨hnn, D⟩ := hq_13 _ _ _ _ _ G; exact fq_s (rg_w (lo := 0) (hi := 23) (rn_ltu (u' := 23) (Int32.not_le.mp c_17) hz20_5 (tA_rdc (lo := 0) (hi := 24) (tX_10 hT0) (rg_in (rg_c (v := 0) (lo := 0) (hi := 0) (by decide)) (by decide)) (show _ = 0 by decide) (by decide)) (by decide)) (by decide)) (hx_20 A hA hok hl) (fun q => (sv_g hs2.2 hr hok.n16).mp c_21 q.1)) hT hF hLF_20 hP hD hS (lv_sub hl [0, 2, 3, 4, 5, 6] rfl)
      · refine lv_iload hx hb dX5_firstRoad_54 (lv_at hl 0 rfl) ?_
        refine lv_iconst (v := (-1)) hx hb dX5_firstRoad_56 (by decide) ?_
        refine lv_icmp_eq (tgt := 99) hx hb dX5_firstRoad_57 (by decide) (fun (c_22 : r_18 = (-1)) => ?_) (fun (c_22 : ¬ (r_18 = (-1))) => ?_)
        · refine lv_iinc (v := z20_5 + 1) (lv' := [(5, .int (z20_5 + 1)), (6, .int r_18), (0, .ref (a 3)), (1, .int x1), (2, .int x2), (3, .int x3), (4, .int x4)]) hx hb dX5_firstRoad_99 hl (k := 1) rfl (by rfl) (by decide) rfl (fun ls hl => ?_)
          refine lv_goto (tgt := 20) hx hb dX5_firstRoad_102 (by decide) ?_
          exact ih_20 _ (hd_20 ▸ mu_up 24 (rn_ltu (u' := 23) (Int32.not_le.mp c_17) hz20_5 (tA_rdc (lo := 0) (hi := 24) (tX_10 hT0) (rg_in (rg_c (v := 0) (lo := 0) (hi := 0) (by decide)) (by decide)) (show _ = 0 by decide) (by decide)) (by decide)) (by decide)) K20 (z20_5 + 1) _ _ ls rfl (rg_w (rg_add (lo := 1) (hi := 24) (rn_ltu (u' := 23) (Int32.not_le.mp c_17) hz20_5 (tA_rdc (lo := 0) (hi := 24) (tX_10 hT0) (rg_in (rg_c (v := 0) (lo := 0) (hi := 0) (by decide)) (by decide)) (show _ = 0 by decide) (by decide)) (by decide)) (rg_c (v := 1) (lo := 1) (hi := 1) (by decide)) (by decide)) (by decide)) (fun A hA hok hl => by have hz1 : z20_5 < A 5 0 0 := oh_lte (Int32.not_le.mp c_17) (hA.1 0 (by decide)); have hr : z20_5.toNatClampNeg < n0A A := n0_lt (rg_w (lo := 0) (hi := 23) (rn_ltu (u' := 23) (Int32.not_le.mp c_17) hz20_5 (tA_rdc (lo := 0) (hi := 24) (tX_10 hT0) (rg_in (rg_c (v := 0) (lo := 0) (hi := 0) (by decide)) (by decide)) (show _ = 0 by decide) (by decide)) (by decide)) (by decide)) hz1; have hs2 : svX C_2 A x1 x2 := hq_3 A hA hl; have hA2 := (absX_eq hA (fr_all f_4 10 15 (by decide))); have hA7 := (absX_eq (absX_eq hA (fr_all f_4 10 15 (by decide))) (fr_all f_9 10 15 (by decide))); have hs7 : svX C_7 A x1 x2 := svX_eq hs2 (f_9.1 9 rfl (by decide)) (f_9.1 24 rfl (by decide)) (f_9.1 25 rfl (by decide)); have G := gx_c hA7 hok hx1 hl ⟨by decide, by decide⟩ hs7 (hq_8 A x1 x2 hA2 hs2); have hF := ec_fin hok x2 hx1 hl (n := 1) ⟨by decide, by decide⟩ (p16 hx4); obtain ⟨hnn, D⟩ := hq_13 _ _ _ _ _ G; have hK := (absX_eq (absX_eq (absX_eq (absX_eq hA (fr_all f_4 10 15 (by decide))) (fr_all f_9 10 15 (by decide))) (fr_all f_14 10 15 (by decide))) (fr_all hLF_20 10 15 (by decide))); have e0 : ga (K20 11) ((z20_5 * 7) + 0).toNatClampNeg = A 0 z20_5.toNatClampNeg 0 := rcX hK (rg_w (lo := 0) (hi := 23) (rn_ltu (u' := 23) (Int32.not_le.mp c_17) hz20_5 (tA_rdc (lo := 0) (hi := 24) (tX_10 hT0) (rg_in (rg_c (v := 0) (lo := 0) (hi := 0) (by decide)) (by decide)) (show _ = 0 by decide) (by decide)) (by decide)) (by decide)) hz1 ⟨by decide, by decide⟩; have e1 : ga (K20 11) ((z20_5 * 7) + 1).toNatClampNeg = A 0 z20_5.toNatClampNeg 1 := rcX hK (rg_w (lo := 0) (hi := 23) (rn_ltu (u' := 23) (Int32.not_le.mp c_17) hz20_5 (tA_rdc (lo := 0) (hi := 24) (tX_10 hT0) (rg_in (rg_c (v := 0) (lo := 0) (hi := 0) (by decide)) (by decide)) (show _ = 0 by decide) (by decide)) (by decide)) (by decide)) hz1 ⟨by decide, by decide⟩; have eo := hq_19.2; rw [e0, e1] at eo; exact fq_s (rg_w (lo := 0) (hi := 23) (rn_ltu (u' := 23) (Int32.not_le.mp c_17) hz20_5 (tA_rdc (lo := 0) (hi := 24) (tX_10 hT0) (rg_in (rg_c (v := 0) (lo := 0) (hi := 0) (by decide)) (by decide)) (show _ = 0 by decide) (by decide)) (by decide)) (by decide)) (hx_20 A hA hok hl) (fun q => ((oe_1 hok hr hx3 eo).1.mp c_22) q.2.1)) hT hF hLF_20 hP hD hS (lv_sub hl [0, 2, 3, 4, 5, 6] rfl)
        · refine lv_aload_n hx hb dX5_firstRoad_60 rfl (lv_at hl 2 rfl) ?_
          refine va_get (D := D) (ci := 5) (v := .ref (a 27)) (C := RX5) (T := TX5) (N := 7) hx hb htg ig_5 hown hK hP 3 (oh_wg (by decide) (sX_3 hT)) rfl 5 (by decide) (htg _ q_174) (fun _ h9 => h9) rfl dX5_firstRoad_61 ?_
          refine lv_iload hx hb dX5_firstRoad_64 (lv_at hl 0 rfl) ?_
          have n_23 : vp_in r_18 16 := (rg_in (rn_nel (l' := 0) c_22 hq_19.1 (rg_c (v := (-1)) (lo := (-1)) (hi := (-1)) (by decide)) (by decide)) (by decide))
          refine th_iald hx hb hK hP 27 (by decide) (Eq.trans (hLF_20.1 27 rfl (by decide)) (sX_27 t_15)) n_23 dX5_firstRoad_66 ?_
          refine lv_ldc (v := 1000000000) hx hb hown (htg _ q_794) dX5_firstRoad_67 ?_
          refine lv_icmp_eq (tgt := 99) hx hb dX5_firstRoad_69 (by decide) (fun (c_24 : (ga (C_12 27) (r_18).toNatClampNeg) = 1000000000) => ?_) (fun (c_24 : ¬ ((ga (C_12 27) (r_18).toNatClampNeg) = 1000000000)) => ?_)
          · refine lv_iinc (v := z20_5 + 1) (lv' := [(5, .int (z20_5 + 1)), (6, .int r_18), (0, .ref (a 3)), (1, .int x1), (2, .int x2), (3, .int x3), (4, .int x4)]) hx hb dX5_firstRoad_99 hl (k := 1) rfl (by rfl) (by decide) rfl (fun ls hl => ?_)
            refine lv_goto (tgt := 20) hx hb dX5_firstRoad_102 (by decide) ?_
            exact ih_20 _ (hd_20 ▸ mu_up 24 (rn_ltu (u' := 23) (Int32.not_le.mp c_17) hz20_5 (tA_rdc (lo := 0) (hi := 24) (tX_10 hT0) (rg_in (rg_c (v := 0) (lo := 0) (hi := 0) (by decide)) (by decide)) (show _ = 0 by decide) (by decide)) (by decide)) (by decide)) K20 (z20_5 + 1) _ _ ls rfl (rg_w (rg_add (lo := 1) (hi := 24) (rn_ltu (u' := 23) (Int32.not_le.mp c_17) hz20_5 (tA_rdc (lo := 0) (hi := 24) (tX_10 hT0) (rg_in (rg_c (v := 0) (lo := 0) (hi := 0) (by decide)) (by decide)) (show _ = 0 by decide) (by decide)) (by decide)) (rg_c (v := 1) (lo := 1) (hi := 1) (by decide)) (by decide)) (by decide)) (fun A hA hok hl => by have hz1 : z20_5 < A 5 0 0 := oh_lte (Int32.not_le.mp c_17) (hA.1 0 (by decide)); have hr : z20_5.toNatClampNeg < n0A A := n0_lt (rg_w (lo := 0) (hi := 23) (rn_ltu (u' := 23) (Int32.not_le.mp c_17) hz20_5 (tA_rdc (lo := 0) (hi := 24) (tX_10 hT0) (rg_in (rg_c (v := 0) (lo := 0) (hi := 0) (by decide)) (by decide)) (show _ = 0 by decide) (by decide)) (by decide)) (by decide)) hz1; have hs2 : svX C_2 A x1 x2 := hq_3 A hA hl; have hA2 := (absX_eq hA (fr_all f_4 10 15 (by decide))); have hA7 := (absX_eq (absX_eq hA (fr_all f_4 10 15 (by decide))) (fr_all f_9 10 15 (by decide))); have hs7 : svX C_7 A x1 x2 := svX_eq hs2 (f_9.1 9 rfl (by decide)) (f_9.1 24 rfl (by decide)) (f_9.1 25 rfl (by decide)); have G := gx_c hA7 hok hx1 hl ⟨by decide, by decide⟩ hs7 (hq_8 A x1 x2 hA2 hs2); have hF := ec_fin hok x2 hx1 hl (n := 1) ⟨by decide, by decide⟩ (p16 hx4); obtain ⟨hnn, D⟩ := hq_13 _ _ _ _ _ G; have hK := (absX_eq (absX_eq (absX_eq (absX_eq hA (fr_all f_4 10 15 (by decide))) (fr_all f_9 10 15 (by decide))) (fr_all f_14 10 15 (by decide))) (fr_all hLF_20 10 15 (by decide))); have e0 : ga (K20 11) ((z20_5 * 7) + 0).toNatClampNeg = A 0 z20_5.toNatClampNeg 0 := rcX hK (rg_w (lo := 0) (hi := 23) (rn_ltu (u' := 23) (Int32.not_le.mp c_17) hz20_5 (tA_rdc (lo := 0) (hi := 24) (tX_10 hT0) (rg_in (rg_c (v := 0) (lo := 0) (hi := 0) (by decide)) (by decide)) (show _ = 0 by decide) (by decide)) (by decide)) (by decide)) hz1 ⟨by decide, by decide⟩; have e1 : ga (K20 11) ((z20_5 * 7) + 1).toNatClampNeg = A 0 z20_5.toNatClampNeg 1 := rcX hK (rg_w (lo := 0) (hi := 23) (rn_ltu (u' := 23) (Int32.not_le.mp c_17) hz20_5 (tA_rdc (lo := 0) (hi := 24) (tX_10 hT0) (rg_in (rg_c (v := 0) (lo := 0) (hi := 0) (by decide)) (by decide)) (show _ = 0 by decide) (by decide)) (by decide)) (by decide)) hz1 ⟨by decide, by decide⟩; have eo := hq_19.2; rw [e0, e1] at eo; have hg := (show gsA A x1 x2 z20_5.toNatClampNeg from Classical.byContradiction (fun q => c_21 ((sv_g hs2.2 hr hok.n16).mpr q))); have hq := fq_i hok hx1 hl hx3 hx4 hnn D hr hg (show ga (C_7 26) (z20_5).toNatClampNeg = coA A x1 x2 1 z20_5.toNatClampNeg from hq_8 A x1 x2 hA2 hs2 _ hr hg) eo c_22; exact fq_s (rg_w (lo := 0) (hi := 23) (rn_ltu (u' := 23) (Int32.not_le.mp c_17) hz20_5 (tA_rdc (lo := 0) (hi := 24) (tX_10 hT0) (rg_in (rg_c (v := 0) (lo := 0) (hi := 0) (by decide)) (by decide)) (show _ = 0 by decide) (by decide)) (by decide)) (by decide)) (hx_20 A hA hok hl) (fun q => (hq.mpr q).1 c_24)) hT hF hLF_20 hP hD hS (lv_sub hl [0, 2, 3, 4, 5, 6] rfl)
          · refine lv_aload_n hx hb dX5_firstRoad_72 rfl (lv_at hl 2 rfl) ?_
            refine va_get (D := D) (ci := 5) (v := .ref (a 27)) (C := RX5) (T := TX5) (N := 7) hx hb htg ig_5 hown hK hP 3 (oh_wg (by decide) (sX_3 hT)) rfl 5 (by decide) (htg _ q_174) (fun _ h9 => h9) rfl dX5_firstRoad_73 ?_
            refine lv_iload hx hb dX5_firstRoad_76 (lv_at hl 0 rfl) ?_
            have n_25 : vp_in r_18 16 := (rg_in (rn_nel (l' := 0) c_22 hq_19.1 (rg_c (v := (-1)) (lo := (-1)) (hi := (-1)) (by decide)) (by decide)) (by decide))
            refine th_iald hx hb hK hP 27 (by decide) (Eq.trans (hLF_20.1 27 rfl (by decide)) (sX_27 t_15)) n_25 dX5_firstRoad_78 ?_
            refine lv_aload_n hx hb dX5_firstRoad_79 rfl (lv_at hl 2 rfl) ?_
            refine va_get (D := D) (ci := 5) (v := .ref (a 26)) (C := RX5) (T := TX5) (N := 7) hx hb htg ig_5 hown hK hP 3 (oh_wg (by decide) (sX_3 hT)) rfl 4 (by decide) (htg _ q_173) (fun _ h9 => h9) rfl dX5_firstRoad_80 ?_
            refine lv_iload hx hb dX5_firstRoad_83 (lv_at hl 1 rfl) ?_
            have n_26 : vp_in z20_5 24 := (rg_in (rn_ltu (u' := 23) (Int32.not_le.mp c_17) hz20_5 (tA_rdc (lo := 0) (hi := 24) (tX_10 hT0) (rg_in (rg_c (v := 0) (lo := 0) (hi := 0) (by decide)) (by decide)) (show _ = 0 by decide) (by decide)) (by decide)) (by decide))
            refine th_iald hx hb hK hP 26 (by decide) (Eq.trans (Eq.trans (hLF_20.1 26 rfl (by decide)) (f_14.1 26 rfl (by decide))) (sX_26 t_10)) n_26 dX5_firstRoad_85 ?_
            refine lv_iadd hx hb dX5_firstRoad_86 ?_
            refine lv_aload_n hx hb dX5_firstRoad_87 rfl (lv_at hl 2 rfl) ?_
            refine va_get (D := D) (ci := 5) (v := .ref (a 27)) (C := RX5) (T := TX5) (N := 7) hx hb htg ig_5 hown hK hP 3 (oh_wg (by decide) (sX_3 hT)) rfl 5 (by decide) (htg _ q_174) (fun _ h9 => h9) rfl dX5_firstRoad_88 ?_
            refine lv_iload_n hx hb dX5_firstRoad_91 rfl (lv_at hl 5 rfl) ?_
            have n_27 : vp_in x3 16 := (rg_in hx3 (by decide))
            refine th_iald hx hb hK hP 27 (by decide) (Eq.trans (hLF_20.1 27 rfl (by decide)) (sX_27 t_15)) n_27 dX5_firstRoad_92 ?_
            refine lv_icmp_ne (tgt := 99) hx hb dX5_firstRoad_93 (by decide) (fun (c_28 : ¬ (((ga (C_12 27) (r_18).toNatClampNeg) + (ga (C_7 26) (z20_5).toNatClampNeg)) = (ga (C_12 27) (x3).toNatClampNeg))) => ?_) (fun (c_28 : ((ga (C_12 27) (r_18).toNatClampNeg) + (ga (C_7 26) (z20_5).toNatClampNeg)) = (ga (C_12 27) (x3).toNatClampNeg)) => ?_)
            · refine lv_iinc (v := z20_5 + 1) (lv' := [(5, .int (z20_5 + 1)), (6, .int r_18), (0, .ref (a 3)), (1, .int x1), (2, .int x2), (3, .int x3), (4, .int x4)]) hx hb dX5_firstRoad_99 hl (k := 1) rfl (by rfl) (by decide) rfl (fun ls hl => ?_)
              refine lv_goto (tgt := 20) hx hb dX5_firstRoad_102 (by decide) ?_
              exact ih_20 _ (hd_20 ▸ mu_up 24 (rn_ltu (u' := 23) (Int32.not_le.mp c_17) hz20_5 (tA_rdc (lo := 0) (hi := 24) (tX_10 hT0) (rg_in (rg_c (v := 0) (lo := 0) (hi := 0) (by decide)) (by decide)) (show _ = 0 by decide) (by decide)) (by decide)) (by decide)) K20 (z20_5 + 1) _ _ ls rfl (rg_w (rg_add (lo := 1) (hi := 24) (rn_ltu (u' := 23) (Int32.not_le.mp c_17) hz20_5 (tA_rdc (lo := 0) (hi := 24) (tX_10 hT0) (rg_in (rg_c (v := 0) (lo := 0) (hi := 0) (by decide)) (by decide)) (show _ = 0 by decide) (by decide)) (by decide)) (rg_c (v := 1) (lo := 1) (hi := 1) (by decide)) (by decide)) (by decide)) (fun A hA hok hl => by have hz1 : z20_5 < A 5 0 0 := oh_lte (Int32.not_le.mp c_17) (hA.1 0 (by decide)); have hr : z20_5.toNatClampNeg < n0A A := n0_lt (rg_w (lo := 0) (hi := 23) (rn_ltu (u' := 23) (Int32.not_le.mp c_17) hz20_5 (tA_rdc (lo := 0) (hi := 24) (tX_10 hT0) (rg_in (rg_c (v := 0) (lo := 0) (hi := 0) (by decide)) (by decide)) (show _ = 0 by decide) (by decide)) (by decide)) (by decide)) hz1; have hs2 : svX C_2 A x1 x2 := hq_3 A hA hl; have hA2 := (absX_eq hA (fr_all f_4 10 15 (by decide))); have hA7 := (absX_eq (absX_eq hA (fr_all f_4 10 15 (by decide))) (fr_all f_9 10 15 (by decide))); have hs7 : svX C_7 A x1 x2 := svX_eq hs2 (f_9.1 9 rfl (by decide)) (f_9.1 24 rfl (by decide)) (f_9.1 25 rfl (by decide)); have G := gx_c hA7 hok hx1 hl ⟨by decide, by decide⟩ hs7 (hq_8 A x1 x2 hA2 hs2); have hF := ec_fin hok x2 hx1 hl (n := 1) ⟨by decide, by decide⟩ (p16 hx4); obtain ⟨hnn, D⟩ := hq_13 _ _ _ _ _ G; have hK := (absX_eq (absX_eq (absX_eq (absX_eq hA (fr_all f_4 10 15 (by decide))) (fr_all f_9 10 15 (by decide))) (fr_all f_14 10 15 (by decide))) (fr_all hLF_20 10 15 (by decide))); have e0 : ga (K20 11) ((z20_5 * 7) + 0).toNatClampNeg = A 0 z20_5.toNatClampNeg 0 := rcX hK (rg_w (lo := 0) (hi := 23) (rn_ltu (u' := 23) (Int32.not_le.mp c_17) hz20_5 (tA_rdc (lo := 0) (hi := 24) (tX_10 hT0) (rg_in (rg_c (v := 0) (lo := 0) (hi := 0) (by decide)) (by decide)) (show _ = 0 by decide) (by decide)) (by decide)) (by decide)) hz1 ⟨by decide, by decide⟩; have e1 : ga (K20 11) ((z20_5 * 7) + 1).toNatClampNeg = A 0 z20_5.toNatClampNeg 1 := rcX hK (rg_w (lo := 0) (hi := 23) (rn_ltu (u' := 23) (Int32.not_le.mp c_17) hz20_5 (tA_rdc (lo := 0) (hi := 24) (tX_10 hT0) (rg_in (rg_c (v := 0) (lo := 0) (hi := 0) (by decide)) (by decide)) (show _ = 0 by decide) (by decide)) (by decide)) (by decide)) hz1 ⟨by decide, by decide⟩; have eo := hq_19.2; rw [e0, e1] at eo; have hg := (show gsA A x1 x2 z20_5.toNatClampNeg from Classical.byContradiction (fun q => c_21 ((sv_g hs2.2 hr hok.n16).mpr q))); have hq := fq_i hok hx1 hl hx3 hx4 hnn D hr hg (show ga (C_7 26) (z20_5).toNatClampNeg = coA A x1 x2 1 z20_5.toNatClampNeg from hq_8 A x1 x2 hA2 hs2 _ hr hg) eo c_22; exact fq_s (rg_w (lo := 0) (hi := 23) (rn_ltu (u' := 23) (Int32.not_le.mp c_17) hz20_5 (tA_rdc (lo := 0) (hi := 24) (tX_10 hT0) (rg_in (rg_c (v := 0) (lo := 0) (hi := 0) (by decide)) (by decide)) (show _ = 0 by decide) (by decide)) (by decide)) (by decide)) (hx_20 A hA hok hl) (fun q => c_28 (hq.mpr q).2)) hT hF hLF_20 hP hD hS (lv_sub hl [0, 2, 3, 4, 5, 6] rfl)
            · refine lv_iload hx hb dX5_firstRoad_96 (lv_at hl 1 rfl) ?_
              rw [hQ]
              exact W.iret (v := z20_5) hx hb hr (fun t ht hW => ⟨⟨z20_5, K20, rfl, ⟨hT, hF, ⟨(rg_w (rn_ltu (u' := 23) (Int32.not_le.mp c_17) hz20_5 (tA_rdc (lo := 0) (hi := 24) (tX_10 hT0) (rg_in (rg_c (v := 0) (lo := 0) (hi := 0) (by decide)) (by decide)) (show _ = 0 by decide) (by decide)) (by decide)) (by decide)), (fun A hA hok hl => by have hz1 : z20_5 < A 5 0 0 := oh_lte (Int32.not_le.mp c_17) (hA.1 0 (by decide)); have hr : z20_5.toNatClampNeg < n0A A := n0_lt (rg_w (lo := 0) (hi := 23) (rn_ltu (u' := 23) (Int32.not_le.mp c_17) hz20_5 (tA_rdc (lo := 0) (hi := 24) (tX_10 hT0) (rg_in (rg_c (v := 0) (lo := 0) (hi := 0) (by decide)) (by decide)) (show _ = 0 by decide) (by decide)) (by decide)) (by decide)) hz1; have hs2 : svX C_2 A x1 x2 := hq_3 A hA hl; have hA2 := (absX_eq hA (fr_all f_4 10 15 (by decide))); have hA7 := (absX_eq (absX_eq hA (fr_all f_4 10 15 (by decide))) (fr_all f_9 10 15 (by decide))); have hs7 : svX C_7 A x1 x2 := svX_eq hs2 (f_9.1 9 rfl (by decide)) (f_9.1 24 rfl (by decide)) (f_9.1 25 rfl (by decide)); have G := gx_c hA7 hok hx1 hl ⟨by decide, by decide⟩ hs7 (hq_8 A x1 x2 hA2 hs2); have hF := ec_fin hok x2 hx1 hl (n := 1) ⟨by decide, by decide⟩ (p16 hx4); obtain ⟨hnn, D⟩ := hq_13 _ _ _ _ _ G; have hK := (absX_eq (absX_eq (absX_eq (absX_eq hA (fr_all f_4 10 15 (by decide))) (fr_all f_9 10 15 (by decide))) (fr_all f_14 10 15 (by decide))) (fr_all hLF_20 10 15 (by decide))); have e0 : ga (K20 11) ((z20_5 * 7) + 0).toNatClampNeg = A 0 z20_5.toNatClampNeg 0 := rcX hK (rg_w (lo := 0) (hi := 23) (rn_ltu (u' := 23) (Int32.not_le.mp c_17) hz20_5 (tA_rdc (lo := 0) (hi := 24) (tX_10 hT0) (rg_in (rg_c (v := 0) (lo := 0) (hi := 0) (by decide)) (by decide)) (show _ = 0 by decide) (by decide)) (by decide)) (by decide)) hz1 ⟨by decide, by decide⟩; have e1 : ga (K20 11) ((z20_5 * 7) + 1).toNatClampNeg = A 0 z20_5.toNatClampNeg 1 := rcX hK (rg_w (lo := 0) (hi := 23) (rn_ltu (u' := 23) (Int32.not_le.mp c_17) hz20_5 (tA_rdc (lo := 0) (hi := 24) (tX_10 hT0) (rg_in (rg_c (v := 0) (lo := 0) (hi := 0) (by decide)) (by decide)) (show _ = 0 by decide) (by decide)) (by decide)) (by decide)) hz1 ⟨by decide, by decide⟩; have eo := hq_19.2; rw [e0, e1] at eo; have hg := (show gsA A x1 x2 z20_5.toNatClampNeg from Classical.byContradiction (fun q => c_21 ((sv_g hs2.2 hr hok.n16).mpr q))); have hq := fq_i hok hx1 hl hx3 hx4 hnn D hr hg (show ga (C_7 26) (z20_5).toNatClampNeg = coA A x1 x2 1 z20_5.toNatClampNeg from hq_8 A x1 x2 hA2 hs2 _ hr hg) eo c_22; exact Or.inr ⟨z20_5.toNatClampNeg, hr, (oh_ofc (rg_w (lo := 0) (hi := 23) (rn_ltu (u' := 23) (Int32.not_le.mp c_17) hz20_5 (tA_rdc (lo := 0) (hi := 24) (tX_10 hT0) (rg_in (rg_c (v := 0) (lo := 0) (hi := 0) (by decide)) (by decide)) (show _ = 0 by decide) (by decide)) (by decide)) (by decide)) (by decide)).symm, (hq.mp ⟨c_24, c_28⟩), fun k hk => hx_20 A hA hok hl k (by have h5 := oh_nat (rg_w (lo := 0) (hi := 23) (rn_ltu (u' := 23) (Int32.not_le.mp c_17) hz20_5 (tA_rdc (lo := 0) (hi := 24) (tX_10 hT0) (rg_in (rg_c (v := 0) (lo := 0) (hi := 0) (by decide)) (by decide)) (show _ = 0 by decide) (by decide)) (by decide)) (by decide)) (by decide); omega)⟩), (fun A hA hl => svX_eq (hq_3 A hA hl) (Eq.trans (hLF_20.1 9 rfl (by decide)) (Eq.trans (f_14.1 9 rfl (by decide)) (f_9.1 9 rfl (by decide)))) (Eq.trans (hLF_20.1 24 rfl (by decide)) (Eq.trans (f_14.1 24 rfl (by decide)) (f_9.1 24 rfl (by decide)))) (Eq.trans (hLF_20.1 25 rfl (by decide)) (Eq.trans (f_14.1 25 rfl (by decide)) (f_9.1 25 rfl (by decide)))))⟩⟩, ⟨by rw [ht]; exact hP, hD⟩⟩, hS.F ht⟩) hS.2.2 dX5_firstRoad_98
  exact L_20 _ C_12 0 _ _ ls rfl (rg_w (rg_c (v := 0) (lo := 0) (hi := 0) (by decide)) (by decide)) (fun A hA hok hl i hi => absurd hi (by show ¬ (i : Int) < 0; omega)) hT hF fr_rf hP hD hS (lv_sub hl [0, 1, 2, 3, 4, 5] rfl)
