/-! EXACT: the land as a table: A t i j is column j of row i of table t (0 roads, 1 bridges, 2 waggons, 3 parts); A 4 0 j what is set; A 5 0 t how many rows table t has -/
abbrev LA := Nat → Nat → Nat → Int32
def wid : Nat → Nat
  | 0 => 7
  | 1 => 10
  | 2 => 3
  | _ => 2
def blk : Nat → Nat
  | 0 => 24
  | 1 => 48
  | 2 => 64
  | _ => 69
/-- the columns that are told: all (there is no table 9) -/
def vis (t j : Nat) : Prop := ¬ (t = 9 ∧ j = 7)
def absX (c : Nat) (C : Nat → va_E) (A : LA) : Prop := (∀ t, t < 4 → ga (C c) t = A 5 0 t) ∧ (∀ j, j < 3 → ga (C (c + 5)) j = A 4 0 j) ∧ ∀ t, t < 4 → ∀ i : Nat, (i : Int) < (A 5 0 t).toInt → ∀ j, j < wid t → vis t j → ga (C (c + 1 + t)) (i * wid t + j) = A t i j
def absM (C : Nat → va_E) (A : LA) : Prop := (∀ t, t < 4 → gi (C 0) (9 + 2 * t) = A 5 0 t) ∧ (∀ j, j < 3 → ga (C 13) j = A 4 0 j) ∧ ∀ t, t < 4 → ∀ i : Nat, (i : Int) < (A 5 0 t).toInt → ∀ j, j < wid t → vis t j → ga (C (blk t + i)) j = A t i j
def addA (A : LA) (t : Nat) (v : Nat → Int32) : LA := fun s i j => if s = t ∧ (i : Int) = (A 5 0 t).toInt then v j else if s = 5 ∧ i = 0 ∧ j = t then A 5 0 t + 1 else A s i j
def setA (A : LA) (k : Nat) (v : Int32) : LA := fun s i j => if s = 4 ∧ i = 0 ∧ j = k then v else A s i j
theorem addA_5 {A : LA} {t : Nat} {v : Nat → Int32} (ht : t < 4) : addA A t v 5 0 t = A 5 0 t + 1 := by
  unfold addA
  rw [if_neg (by omega), if_pos ⟨rfl, rfl, rfl⟩]
theorem addA_5n {A : LA} {t s : Nat} {v : Nat → Int32} (ht : t < 4) (hs : s ≠ t) : addA A t v 5 0 s = A 5 0 s := by
  unfold addA
  rw [if_neg (by omega), if_neg (by omega)]
theorem addA_4 {A : LA} {t j : Nat} {v : Nat → Int32} (ht : t < 4) : addA A t v 4 0 j = A 4 0 j := by
  unfold addA
  rw [if_neg (by omega), if_neg (by omega)]
theorem addA_new {A : LA} {t i j : Nat} {v : Nat → Int32} (hi : (i : Int) = (A 5 0 t).toInt) : addA A t v t i j = v j := by
  unfold addA
  rw [if_pos ⟨rfl, hi⟩]
theorem addA_old {A : LA} {t s i j : Nat} {v : Nat → Int32} (hs : s < 4) (hi : ¬ (s = t ∧ (i : Int) = (A 5 0 t).toInt)) : addA A t v s i j = A s i j := by
  unfold addA
  rw [if_neg hi, if_neg (by omega)]
theorem oh_inc24 {x : Int32} (h : rg x 0 24) : (x + 1).toInt = x.toInt + 1 := by
  rw [Int32.toInt_add]
  exact oh_bmod (by show _ ≤ x.toInt + 1; have := h.1; omega) (by show x.toInt + 1 ≤ _; have := h.2; omega)
theorem rowlt {i n w j : Nat} (hi : i < n) (hj : j < w) : i * w + j < n * w := by
  have h : (i + 1) * w ≤ n * w := Nat.mul_le_mul_right w hi
  rw [Nat.add_mul, Nat.one_mul] at h
  omega
theorem absX_add {c t : Nat} {C u : Nat → va_E} {A : LA} {v : Nat → Int32} (h : absX c C A) (ht : t < 4) (hc : rg (ga (C c) t) 0 24) (e1 : ga (u c) = upd (ga (C c)) t (ga (C c) t + 1)) (e2 : rowPt (wid t) (ga (C c) t).toNatClampNeg (wid t) v (ga (C (c + 1 + t))) (ga (u (c + 1 + t)))) (e3 : ∀ k, c + 1 ≤ k → k ≤ c + 5 → k ≠ c + 1 + t → u k = C k) : absX c u (addA A t v) := by
  obtain ⟨h1, h2, h3⟩ := h
  have hn := oh_nat hc (by decide)
  refine ⟨fun s hs => ?_, fun j hj => ?_, fun s hs i hi j hj hv => ?_⟩
  · rw [e1]
    by_cases q : s = t
    · rw [q, pk_us, addA_5 ht, h1 t ht]
    · rw [pk_un q, addA_5n ht q]
      exact h1 s hs
  · rw [e3 _ (by omega) (by omega) (by omega), addA_4 ht]
    exact h2 j hj
  · by_cases q : s = t
    · subst q
      rw [addA_5 hs, ← h1 s hs, oh_inc24 hc] at hi
      by_cases q2 : (i : Int) = (A 5 0 s).toInt
      · rw [addA_new q2]
        have q3 : i = (ga (C c) s).toNatClampNeg := by rw [← h1 s hs] at q2; omega
        rw [q3]
        exact e2.1 j hj
      · rw [addA_old hs (fun z => q2 z.2), e2.2 _ (Or.inl (rowlt (by rw [← h1 s hs] at q2; omega) hj))]
        exact h3 s hs i (by rw [← h1 s hs] at q2 ⊢; omega) j hj hv
    · rw [addA_5n ht q] at hi
      rw [addA_old hs (fun z => q z.1), e3 _ (by omega) (by omega) (by omega)]
      exact h3 s hs i hi j hj hv
theorem absM_add {t : Nat} {C u : Nat → va_E} {A : LA} {v : Nat → Int32} (h : absM C A) (ht : t < 4) (hc : rg (gi (C 0) (9 + 2 * t)) 0 24) (e1 : gi (u 0) (9 + 2 * t) = gi (C 0) (9 + 2 * t) + 1) (e0 : ∀ s, s < 4 → s ≠ t → gi (u 0) (9 + 2 * s) = gi (C 0) (9 + 2 * s)) (e2 : ∀ j, j < wid t → ga (u (blk t + (gi (C 0) (9 + 2 * t)).toNatClampNeg)) j = v j) (e3 : ∀ s, s < 4 → ∀ i : Nat, (i : Int) < (gi (C 0) (9 + 2 * s)).toInt → u (blk s + i) = C (blk s + i)) (e4 : u 13 = C 13) : absM u (addA A t v) := by
  obtain ⟨h1, h2, h3⟩ := h
  have hn := oh_nat hc (by decide)
  refine ⟨fun s hs => ?_, fun j hj => ?_, fun s hs i hi j hj hv => ?_⟩
  · by_cases q : s = t
    · rw [q, e1, addA_5 ht, h1 t ht]
    · rw [e0 s hs q, addA_5n ht q]
      exact h1 s hs
  · rw [e4, addA_4 ht]
    exact h2 j hj
  · by_cases q : s = t
    · subst q
      rw [addA_5 hs, ← h1 s hs, oh_inc24 hc] at hi
      by_cases q2 : (i : Int) = (A 5 0 s).toInt
      · rw [addA_new q2]
        have q3 : i = (gi (C 0) (9 + 2 * s)).toNatClampNeg := by rw [← h1 s hs] at q2; omega
        rw [q3]
        exact e2 j hj
      · have q4 : (i : Int) < (gi (C 0) (9 + 2 * s)).toInt := by rw [← h1 s hs] at q2; omega
        rw [addA_old hs (fun z => q2 z.2), e3 s hs i q4]
        exact h3 s hs i (by rw [← h1 s hs]; exact q4) j hj hv
    · rw [addA_5n ht q] at hi
      rw [addA_old hs (fun z => q z.1), e3 s hs i (by rw [h1 s hs]; exact hi)]
      exact h3 s hs i hi j hj hv
theorem setA_5 {A : LA} {k t : Nat} {v : Int32} : setA A k v 5 0 t = A 5 0 t := if_neg (by omega)
theorem setA_t {A : LA} {k s i j : Nat} {v : Int32} (h : s < 4) : setA A k v s i j = A s i j := if_neg (by omega)
theorem absX_set {c k : Nat} {C u : Nat → va_E} {A : LA} {v : Int32} (h : absX c C A) (e1 : ga (u (c + 5)) = upd (ga (C (c + 5))) k v) (e2 : ∀ j, c ≤ j → j ≤ c + 4 → u j = C j) : absX c u (setA A k v) := by
  obtain ⟨h1, h2, h3⟩ := h
  refine ⟨fun s hs => ?_, fun j hj => ?_, fun s hs i hi j hj hv => ?_⟩
  · rw [setA_5, e2 c (Nat.le_refl _) (by omega)]
    exact h1 s hs
  · rw [e1]
    unfold setA
    by_cases q : j = k
    · rw [q, pk_us, if_pos ⟨rfl, rfl, rfl⟩]
    · rw [pk_un q, if_neg (fun z => q z.2.2)]
      exact h2 j hj
  · rw [setA_5] at hi
    rw [setA_t hs, e2 _ (by omega) (by omega)]
    exact h3 s hs i hi j hj hv
theorem absM_set {k : Nat} {C u : Nat → va_E} {A : LA} {v : Int32} (h : absM C A) (e0 : ∀ s, s < 4 → gi (u 0) (9 + 2 * s) = gi (C 0) (9 + 2 * s)) (e1 : ∀ j, j < 3 → ga (u 13) j = if j = k then v else ga (C 13) j) (e3 : ∀ s, s < 4 → ∀ i : Nat, (i : Int) < (gi (C 0) (9 + 2 * s)).toInt → u (blk s + i) = C (blk s + i)) : absM u (setA A k v) := by
  obtain ⟨h1, h2, h3⟩ := h
  refine ⟨fun s hs => ?_, fun j hj => ?_, fun s hs i hi j hj hv => ?_⟩
  · rw [setA_5, e0 s hs]
    exact h1 s hs
  · rw [e1 j hj]
    unfold setA
    by_cases q : j = k
    · rw [if_pos q, if_pos ⟨rfl, rfl, q⟩]
    · rw [if_neg q, if_neg (fun z => q z.2.2)]
      exact h2 j hj
  · rw [setA_5] at hi
    rw [setA_t hs, e3 s hs i (by rw [h1 s hs]; exact hi)]
    exact h3 s hs i hi j hj hv
theorem absX_eq {c : Nat} {C u : Nat → va_E} {A : LA} (h : absX c C A) (e : ∀ k, c ≤ k → k ≤ c + 5 → u k = C k) : absX c u A := by
  obtain ⟨h1, h2, h3⟩ := h
  refine ⟨fun s hs => ?_, fun j hj => ?_, fun s hs i hi j hj hv => ?_⟩
  · rw [e c (Nat.le_refl _) (by omega)]
    exact h1 s hs
  · rw [e _ (by omega) (by omega)]
    exact h2 j hj
  · rw [e _ (by omega) (by omega)]
    exact h3 s hs i hi j hj hv
theorem absM_eq {C u : Nat → va_E} {A : LA} (h : absM C A) (e0 : ∀ s, s < 4 → gi (u 0) (9 + 2 * s) = gi (C 0) (9 + 2 * s)) (e1 : u 13 = C 13) (e3 : ∀ s, s < 4 → ∀ i : Nat, (i : Int) < (gi (C 0) (9 + 2 * s)).toInt → u (blk s + i) = C (blk s + i)) : absM u A := by
  obtain ⟨h1, h2, h3⟩ := h
  refine ⟨fun s hs => ?_, fun j hj => ?_, fun s hs i hi j hj hv => ?_⟩
  · rw [e0 s hs]
    exact h1 s hs
  · rw [e1]
    exact h2 j hj
  · rw [e3 s hs i (by rw [h1 s hs]; exact hi)]
    exact h3 s hs i hi j hj hv
/-- one statement -/
noncomputable def rdStmt (f : Nat → Int32) (p : PX) (A : LA) : Except Int32 (LA × PX) :=
  pif (XIs f p 0) (pif (A 5 0 0 < 24) (exB (rdRoad f p) fun x => .ok (addA A 0 x.1, x.2)) (.error p.2.2.2.1))
  (pif (XIs f p 5) (pif (A 5 0 1 < 16) (exB (rdBridge f (A 5 0 0) p) fun x => .ok (addA A 1 x.1, x.2)) (.error p.2.2.2.1))
  (pif (XIs f p 11) (pif (A 5 0 2 < 5) (exB (rdWag f p) fun x => .ok (addA A 2 x.1, x.2)) (.error p.2.2.2.1))
  (pif (XIs f p 14) (pif (A 5 0 3 < 5) (exB (rdPart f p) fun x => .ok (addA A 3 x.1, x.2)) (.error p.2.2.2.1))
  (pif (XIs f p 15) (exB (tNum f 15 0 900 p) fun x => .ok (setA A 0 x.1, x.2))
  (exB (tNum f 16 0 99 p) fun x => .ok (setA A 1 x.1, x.2))))))
/-- what the class has made of a statement -/
def RelSt (R : Except Int32 (LA × PX)) (C u : Nat → va_E) : Prop := match R with
  | .ok y => px u = y.2 ∧ fine y.2 ∧ absX 10 u y.1
  | .error e => gi (u 5) 2 = e ∧ ¬ e = -1 ∧ ∀ k, 10 ≤ k → k ≤ 15 → u k = C k
theorem rs_ok {R : Except Int32 (LA × PX)} {C u : Nat → va_E} {y : LA × PX} (e : R = .ok y) (h1 : px u = y.2) (h2 : fine y.2) (h3 : absX 10 u y.1) : RelSt R C u := by
  rw [e]
  exact ⟨h1, h2, h3⟩
theorem rs_er {R : Except Int32 (LA × PX)} {C u : Nat → va_E} {d : Int32} (e : R = .error d) (h1 : gi (u 5) 2 = d) (h2 : ¬ d = -1) (h3 : ∀ k, 10 ≤ k → k ≤ 15 → u k = C k) : RelSt R C u := by
  rw [e]
  exact ⟨h1, h2, h3⟩
/-- a statement that adds a row -/
theorem rs_row {R : Except Int32 ((Nat → Int32) × PX)} {x : (Nat → Int32) × PX} {C u : Nat → va_E} {A : LA} {t : Nat} (hA : absX 10 C A) (ht : t < 4) (hc : rg (ga (C 10) t) 0 24) (hv : RelV R x) (hp : px u = x.2) (h2 : gi (u 5) 2 = -1 → ga (u 10) = upd (ga (C 10)) t (ga (C 10) t + 1) ∧ rowPt (wid t) (ga (C 10) t).toNatClampNeg (wid t) x.1 (ga (C (10 + 1 + t))) (ga (u (10 + 1 + t)))) (h3 : ¬ gi (u 5) 2 = -1 → u 10 = C 10 ∧ u (10 + 1 + t) = C (10 + 1 + t)) (h4 : ∀ k, 11 ≤ k → k ≤ 15 → k ≠ 10 + 1 + t → u k = C k) : RelSt (exB R fun x => .ok (addA A t x.1, x.2)) C u := by
  have hq : gi (u 5) 2 = x.2.2.1 := congrArg (fun z => z.2.1) hp
  cases e : R with
  | error d =>
    obtain ⟨b1, b2⟩ := rv_er hv e
    have h5 := h3 (by rw [hq]; exact b2)
    refine rs_er rfl (by rw [hq]; exact b1) (by rw [← b1]; exact b2) (fun k k1 k2 => ?_)
    by_cases q : k = 10
    · rw [q]
      exact h5.1
    · by_cases q2 : k = 10 + 1 + t
      · rw [q2]
        exact h5.2
      · exact h4 k (by omega) k2 q2
  | ok y =>
    obtain ⟨b1, b2⟩ := rv_ok hv e
    rw [b1] at hp hq h2
    obtain ⟨g1, g2⟩ := h2 (by rw [hq]; exact b2.1)
    exact rs_ok rfl hp b2 (absX_add hA ht hc g1 g2 (fun k k1 k2 k3 => h4 k (by omega) (by omega) k3))
/-- what there is no room for -/
theorem xEnt_no {f : Nat → Int32} {room : Prop} {p : PX} (hr : ¬ room) : xEnt f room p = xFail p := pif_neg hr
theorem xRoad_no {f : Nat → Int32} {room : Prop} {p : PX} (hr : ¬ room) (h : fine p) : (xRoad f room p).2 = xFail p := by
  have b2 := (fine_fail h).2
  unfold xRoad
  simp only [xEnt_no hr, xN_f b2, xW_f b2, xP_f b2, xFail_no b2, pif_same]
theorem xBridge_no {f : Nat → Int32} {room : Prop} {nr : Int32} {p : PX} (hr : ¬ room) (h : fine p) : (xBridge f room nr p).2 = xFail p := by
  have b2 := (fine_fail h).2
  unfold xBridge
  simp only [xEnt_no hr, xN_f b2, xW_f b2, xPr_f b2]
theorem xWag_no {f : Nat → Int32} {room : Prop} {p : PX} (hr : ¬ room) (h : fine p) : (xWag f room p).2 = xFail p := by
  have b2 := (fine_fail h).2
  unfold xWag
  simp only [xEnt_no hr, xN_f b2, xW_f b2]
theorem xPart_no {f : Nat → Int32} {room : Prop} {p : PX} (hr : ¬ room) (h : fine p) : (xPart f room p).2 = xFail p := by
  have b2 := (fine_fail h).2
  unfold xPart
  simp only [xEnt_no hr, xN_f b2]
theorem rs_no {C u : Nat → va_E} {x p : PX} {t : Nat} (hp : px u = x) (hx : x = xFail p) (h : fine p) (h3 : ¬ gi (u 5) 2 = -1 → u 10 = C 10 ∧ u (10 + 1 + t) = C (10 + 1 + t)) (h4 : ∀ k, 11 ≤ k → k ≤ 15 → k ≠ 10 + 1 + t → u k = C k) : RelSt (.error p.2.2.2.1) C u := by
  have hq : gi (u 5) 2 = x.2.1 := congrArg (fun z => z.2.1) hp
  rw [hx] at hq
  obtain ⟨b1, b2⟩ := fine_fail h
  have h5 := h3 (by rw [hq]; exact b2)
  refine rs_er rfl (by rw [hq]; exact b1) (by rw [← b1]; exact b2) (fun k k1 k2 => ?_)
  by_cases q : k = 10
  · rw [q]
    exact h5.1
  · by_cases q2 : k = 10 + 1 + t
    · rw [q2]
      exact h5.2
    · exact h4 k (by omega) k2 q2
theorem fr_ex {mc : List (Nat × Nat)} {mf : List Nat} {C u : Nat → va_E} (hf : fr mc mf C u) (lo hi x : Nat) (hd : ((List.range (hi + 1)).all (fun k => Nat.blt k lo || Nat.beq k x || (!(inR mc k) && !(Nat.beq k 0)))) = true) : ∀ k, lo ≤ k → k ≤ hi → k ≠ x → u k = C k := by
  intro k h1 h2 h3
  have h := List.all_eq_true.mp hd k (List.mem_range.mpr (by omega))
  rw [Bool.or_eq_true, Bool.or_eq_true, Bool.and_eq_true] at h
  rcases h with (h | h) | ⟨h4, h5⟩
  · rw [Nat.blt_eq] at h
    omega
  · exact absurd (Nat.eq_of_beq_eq_true h) h3
  · refine hf.1 k (by simpa using h4) (fun e => ?_)
    rw [e] at h5
    exact absurd h5 (by decide)
theorem fr_all {mc : List (Nat × Nat)} {mf : List Nat} {C u : Nat → va_E} (hf : fr mc mf C u) (lo hi : Nat) (hd : ((List.range (hi + 1)).all (fun k => Nat.blt k lo || (!(inR mc k) && !(Nat.beq k 0)))) = true) : ∀ k, lo ≤ k → k ≤ hi → u k = C k := by
  intro k h1 h2
  have h := List.all_eq_true.mp hd k (List.mem_range.mpr (by omega))
  rw [Bool.or_eq_true, Bool.and_eq_true] at h
  rcases h with h | ⟨h4, h5⟩
  · rw [Nat.blt_eq] at h
    omega
  · refine hf.1 k (by simpa using h4) (fun e => ?_)
    rw [e] at h5
    exact absurd h5 (by decide)
theorem ss_road {F : Nat → Int32} {C u : Nat → va_E} {A : LA} (hc : rg (ga (C 10) 0) 0 24) (hw : XIs F (px C) 0) (h2 : px u = (xRoad F (ga (C 10) ((0 : Int32)).toNatClampNeg < oh_room ((0 : Int32)).toNatClampNeg) (px C)).2) (h3 : gi (u 5) 2 = -1 → ga (u 10) = upd (ga (C 10)) ((0 : Int32)).toNatClampNeg (ga (C 10) ((0 : Int32)).toNatClampNeg + 1) ∧ rowPt 7 (ga (C 10) ((0 : Int32)).toNatClampNeg).toNatClampNeg 7 (xRoad F (ga (C 10) ((0 : Int32)).toNatClampNeg < oh_room ((0 : Int32)).toNatClampNeg) (px C)).1 (ga (C 11)) (ga (u 11))) (h4 : ¬ gi (u 5) 2 = -1 → u 10 = C 10 ∧ u 11 = C 11) (h5 : ∀ k, 11 ≤ k → k ≤ 15 → k ≠ 10 + 1 + 0 → u k = C k) (hA : absX 10 C A) (hf : fine (px C)) : RelSt (rdStmt F (px C) A) C u := by
  have e0 : ga (C 10) 0 = A 5 0 0 := hA.1 0 (by decide)
  unfold rdStmt
  rw [pif_pos hw]
  by_cases r : A 5 0 0 < 24
  · rw [pif_pos r]
    exact rs_row (t := 0) hA (by decide) hc (xRoad_r (show ga (C 10) 0 < (24 : Int32) by rw [e0]; exact r) hf) h2 h3 h4 h5
  · rw [pif_neg r]
    exact rs_no (t := 0) h2 (xRoad_no (show ¬ ga (C 10) 0 < (24 : Int32) by rw [e0]; exact r) hf) hf h4 h5
theorem ss_bridge {F : Nat → Int32} {C u : Nat → va_E} {A : LA} (hc : rg (ga (C 10) 1) 0 24) (n0 : ¬ XIs F (px C) 0) (hw : XIs F (px C) 5) (h2 : px u = (xBridge F (ga (C 10) ((1 : Int32)).toNatClampNeg < oh_room ((1 : Int32)).toNatClampNeg) (ga (C 10) ((0 : Int32)).toNatClampNeg) (px C)).2) (h3 : gi (u 5) 2 = -1 → ga (u 10) = upd (ga (C 10)) ((1 : Int32)).toNatClampNeg (ga (C 10) ((1 : Int32)).toNatClampNeg + 1) ∧ rowPt 10 (ga (C 10) ((1 : Int32)).toNatClampNeg).toNatClampNeg 10 (xBridge F (ga (C 10) ((1 : Int32)).toNatClampNeg < oh_room ((1 : Int32)).toNatClampNeg) (ga (C 10) ((0 : Int32)).toNatClampNeg) (px C)).1 (ga (C 12)) (ga (u 12))) (h4 : ¬ gi (u 5) 2 = -1 → u 10 = C 10 ∧ u 12 = C 12) (h5 : ∀ k, 11 ≤ k → k ≤ 15 → k ≠ 10 + 1 + 1 → u k = C k) (hA : absX 10 C A) (hf : fine (px C)) : RelSt (rdStmt F (px C) A) C u := by
  have e0 : ga (C 10) 1 = A 5 0 1 := hA.1 1 (by decide)
  have en : ga (C 10) ((0 : Int32)).toNatClampNeg = A 5 0 0 := hA.1 0 (by decide)
  rw [en] at h2 h3
  unfold rdStmt
  rw [pif_neg n0, pif_pos hw]
  by_cases r : A 5 0 1 < 16
  · rw [pif_pos r]
    exact rs_row (t := 1) hA (by decide) hc (xBridge_r (show ga (C 10) 1 < (16 : Int32) by rw [e0]; exact r) hf) h2 h3 h4 h5
  · rw [pif_neg r]
    exact rs_no (t := 1) h2 (xBridge_no (show ¬ ga (C 10) 1 < (16 : Int32) by rw [e0]; exact r) hf) hf h4 h5
theorem ss_waggon {F : Nat → Int32} {C u : Nat → va_E} {A : LA} (hc : rg (ga (C 10) 2) 0 24) (n0 : ¬ XIs F (px C) 0) (n1 : ¬ XIs F (px C) 5) (hw : XIs F (px C) 11) (h2 : px u = (xWag F (ga (C 10) ((2 : Int32)).toNatClampNeg < oh_room ((2 : Int32)).toNatClampNeg) (px C)).2) (h3 : gi (u 5) 2 = -1 → ga (u 10) = upd (ga (C 10)) ((2 : Int32)).toNatClampNeg (ga (C 10) ((2 : Int32)).toNatClampNeg + 1) ∧ rowPt 3 (ga (C 10) ((2 : Int32)).toNatClampNeg).toNatClampNeg 3 (xWag F (ga (C 10) ((2 : Int32)).toNatClampNeg < oh_room ((2 : Int32)).toNatClampNeg) (px C)).1 (ga (C 13)) (ga (u 13))) (h4 : ¬ gi (u 5) 2 = -1 → u 10 = C 10 ∧ u 13 = C 13) (h5 : ∀ k, 11 ≤ k → k ≤ 15 → k ≠ 10 + 1 + 2 → u k = C k) (hA : absX 10 C A) (hf : fine (px C)) : RelSt (rdStmt F (px C) A) C u := by
  have e0 : ga (C 10) 2 = A 5 0 2 := hA.1 2 (by decide)
  unfold rdStmt
  rw [pif_neg n0, pif_neg n1, pif_pos hw]
  by_cases r : A 5 0 2 < 5
  · rw [pif_pos r]
    exact rs_row (t := 2) hA (by decide) hc (xWag_r (show ga (C 10) 2 < (5 : Int32) by rw [e0]; exact r) hf) h2 h3 h4 h5
  · rw [pif_neg r]
    exact rs_no (t := 2) h2 (xWag_no (show ¬ ga (C 10) 2 < (5 : Int32) by rw [e0]; exact r) hf) hf h4 h5
theorem ss_part {F : Nat → Int32} {C u : Nat → va_E} {A : LA} (hc : rg (ga (C 10) 3) 0 24) (n0 : ¬ XIs F (px C) 0) (n1 : ¬ XIs F (px C) 5) (n2 : ¬ XIs F (px C) 11) (hw : XIs F (px C) 14) (h2 : px u = (xPart F (ga (C 10) ((3 : Int32)).toNatClampNeg < oh_room ((3 : Int32)).toNatClampNeg) (px C)).2) (h3 : gi (u 5) 2 = -1 → ga (u 10) = upd (ga (C 10)) ((3 : Int32)).toNatClampNeg (ga (C 10) ((3 : Int32)).toNatClampNeg + 1) ∧ rowPt 2 (ga (C 10) ((3 : Int32)).toNatClampNeg).toNatClampNeg 2 (xPart F (ga (C 10) ((3 : Int32)).toNatClampNeg < oh_room ((3 : Int32)).toNatClampNeg) (px C)).1 (ga (C 14)) (ga (u 14))) (h4 : ¬ gi (u 5) 2 = -1 → u 10 = C 10 ∧ u 14 = C 14) (h5 : ∀ k, 11 ≤ k → k ≤ 15 → k ≠ 10 + 1 + 3 → u k = C k) (hA : absX 10 C A) (hf : fine (px C)) : RelSt (rdStmt F (px C) A) C u := by
  have e0 : ga (C 10) 3 = A 5 0 3 := hA.1 3 (by decide)
  unfold rdStmt
  rw [pif_neg n0, pif_neg n1, pif_neg n2, pif_pos hw]
  by_cases r : A 5 0 3 < 5
  · rw [pif_pos r]
    exact rs_row (t := 3) hA (by decide) hc (xPart_r (show ga (C 10) 3 < (5 : Int32) by rw [e0]; exact r) hf) h2 h3 h4 h5
  · rw [pif_neg r]
    exact rs_no (t := 3) h2 (xPart_no (show ¬ ga (C 10) 3 < (5 : Int32) by rw [e0]; exact r) hf) hf h4 h5
theorem rs_set {F : Nat → Int32} {C u : Nat → va_E} {A : LA} {j k : Nat} {hi : Int32} (hw : XIs F (px C) j) (h2 : px u = (xNum F 0 hi (xAdv F (px C))).2) (h3 : gi (u 5) 2 = -1 → ga (u 15) = upd (ga (C 15)) k (xNum F 0 hi (xAdv F (px C))).1) (h4 : ¬ gi (u 5) 2 = -1 → u 15 = C 15) (h5 : ∀ k, 10 ≤ k → k ≤ 14 → u k = C k) (hA : absX 10 C A) (hf : fine (px C)) : RelSt (exB (tNum F j 0 hi (px C)) fun x => .ok (setA A k x.1, x.2)) C u := by
  have hv := xn_m (f := F) (lo := 0) (hi := hi) (fine_adv (f := F) hf)
  have e0 : tNum F j 0 hi (px C) = mNum F 0 hi (xAdv F (px C)) := pif_pos hw
  have hq : gi (u 5) 2 = (xNum F 0 hi (xAdv F (px C))).2.2.1 := congrArg (fun z => z.2.1) h2
  rw [e0]
  cases e : mNum F 0 hi (xAdv F (px C)) with
  | error d =>
    obtain ⟨b1, b2⟩ := rv_er hv e
    have h6 := h4 (by rw [hq]; exact b2)
    refine rs_er rfl (by rw [hq]; exact b1) (by rw [← b1]; exact b2) (fun k k1 k2 => ?_)
    by_cases q : k = 15
    · rw [q]
      exact h6
    · exact h5 k k1 (by omega)
  | ok y =>
    obtain ⟨b1, b2⟩ := rv_ok hv e
    rw [b1] at h2 hq h3
    exact rs_ok rfl h2 b2 (absX_set hA (h3 (by rw [hq]; exact b2.1)) (fun k k1 k2 => h5 k k1 k2))
theorem ss_load {F : Nat → Int32} {C u : Nat → va_E} {A : LA} (n0 : ¬ XIs F (px C) 0) (n1 : ¬ XIs F (px C) 5) (n2 : ¬ XIs F (px C) 11) (n3 : ¬ XIs F (px C) 14) (hw : XIs F (px C) 15) (h2 : px u = (xNum F 0 900 (xAdv F (px C))).2) (h3 : gi (u 5) 2 = -1 → ga (u 15) = upd (ga (C 15)) 0 (xNum F 0 900 (xAdv F (px C))).1) (h4 : ¬ gi (u 5) 2 = -1 → u 15 = C 15) (h5 : ∀ k, 10 ≤ k → k ≤ 14 → u k = C k) (hA : absX 10 C A) (hf : fine (px C)) : RelSt (rdStmt F (px C) A) C u := by
  unfold rdStmt
  rw [pif_neg n0, pif_neg n1, pif_neg n2, pif_neg n3, pif_pos hw]
  exact rs_set hw h2 h3 h4 h5 hA hf
theorem ss_mile {F : Nat → Int32} {C u : Nat → va_E} {A : LA} (n0 : ¬ XIs F (px C) 0) (n1 : ¬ XIs F (px C) 5) (n2 : ¬ XIs F (px C) 11) (n3 : ¬ XIs F (px C) 14) (n4 : ¬ XIs F (px C) 15) (hw : XIs F (px C) 16) (h2 : px u = (xNum F 0 99 (xAdv F (px C))).2) (h3 : gi (u 5) 2 = -1 → ga (u 15) = upd (ga (C 15)) 1 (xNum F 0 99 (xAdv F (px C))).1) (h4 : ¬ gi (u 5) 2 = -1 → u 15 = C 15) (h5 : ∀ k, 10 ≤ k → k ≤ 14 → u k = C k) (hA : absX 10 C A) (hf : fine (px C)) : RelSt (rdStmt F (px C) A) C u := by
  unfold rdStmt
  rw [pif_neg n0, pif_neg n1, pif_neg n2, pif_neg n3, pif_neg n4]
  exact rs_set hw h2 h3 h4 h5 hA hf
theorem ss_none {F : Nat → Int32} {C u : Nat → va_E} {A : LA} (n0 : ¬ XIs F (px C) 0) (n1 : ¬ XIs F (px C) 5) (n2 : ¬ XIs F (px C) 11) (n3 : ¬ XIs F (px C) 14) (n4 : ¬ XIs F (px C) 15) (n5 : ¬ XIs F (px C) 16) (h2 : px u = xFail (px C)) (h5 : ∀ k, 10 ≤ k → k ≤ 15 → u k = C k) (hf : fine (px C)) : RelSt (rdStmt F (px C) A) C u := by
  have hq : gi (u 5) 2 = (xFail (px C)).2.1 := congrArg (fun z => z.2.1) h2
  obtain ⟨b1, b2⟩ := fine_fail hf
  unfold rdStmt
  rw [pif_neg n0, pif_neg n1, pif_neg n2, pif_neg n3, pif_neg n4, show tNum F 16 0 99 (px C) = .error (px C).2.2.2.1 from pif_neg n5]
  exact rs_er rfl (by rw [hq]; exact b1) (by rw [← b1]; exact b2) h5

set_option maxHeartbeats 4000000 in
set_option maxRecDepth 100000 in
theorem e_X2_readSetting (l : Launch) (D : va_G) (E : Nat → ClassId) (G : Nat → Nat) (sz : Nat) (a : Nat → Nat) (C : Nat → va_E) (hT : TyX a E C) (x1 : Int32) (hx1 : rg x1 0 1) : Met l yX2_readSetting (oh_w yX2_readSetting cX2_readSetting 3 none) ({ frames := 2, cells := 0, slots := 0, locals := 45 }) (oh_Pm D E G [.ref (a 6), .int x1] (oh_W 35 a C) sz) (va_Qv (fun (u : Nat → va_E) => TyX a E u ∧ fr [(5, 6), (15, 16)] [] C u ∧ (px u = (xNum (ga (C 32)) 0 (oh_maxs x1.toNatClampNeg) (px C)).2) ∧ (gi (u 5) 2 = -1 → ga (u 15) = upd (ga (C 15)) x1.toNatClampNeg (xNum (ga (C 32)) 0 (oh_maxs x1.toNatClampNeg) (px C)).1) ∧ (¬ gi (u 5) 2 = -1 → u 15 = C 15)) (oh_B D (va_A (oh_W 35 a C) sz) (fun u => oh_W 35 a u)) (va_A (oh_W 35 a C) sz)) 0 0 (va_A (oh_W 35 a C) sz) := by
  refine Met.ofW (cc := cX2_readSetting) (maxL := 3) (ret := none) (by decide) rfl ?_
  intro p e s m args below meth c s₁ B hml hv
  obtain ⟨rfl, hsz, hP, hK, hD0, hG⟩ := hv
  have hx := B.exec
  have hb := B.bytes
  have hr := B.returns
  have hts := atoms_spec (ws := (oh_w yX2_readSetting cX2_readSetting 3 none)) B.pre
  have htg : ∀ w ∈ oh_t, w.before _ s = true := fun w h => hts w (List.mem_cons_of_mem _ h)
  have hown : s.vm.findClass RX2 = some m.cls := findClass_of_methodNamed B.named
  have hlocks := B.notSynchronized
  have hT0 := hT
  subst hsz
  have hD := hD0.self (sz := s.heap.size)
  generalize hAe : va_A (oh_W 35 a C) s.heap.size = A at hD hG ⊢
  have hA : ∀ q : Nat, s.heap.size ≤ q → A q := fun q h => by rw [← hAe]; exact Or.inr h
  have hS : va_S A s.heap s.heap [] := va_S.rf
  have hF : fr [(5, 6), (15, 16)] [] C C := fr_rf
  have hl := lv_entry ([.ref (a 6), .int x1]) (n := 3) (Nat.le_of_ble_eq_true rfl)
  rw [lg_entry_eq]
  generalize (lg_sl ([.ref (a 6), .int x1]) ++ List.replicate (3 - (lg_sl ([.ref (a 6), .int x1])).length) Slot.unset).toArray = ls at hl ⊢
  have hl : lv_has ls 3 [(0, .ref (a 6)), (1, .int x1)] := hl
  refine oh_genQ (fun Q hQ => ?_)
  refine lv_aload_n hx hb dX2_readSetting_0 rfl (lv_at hl 0 rfl) ?_
  refine va_get (D := D) (ci := 2) (v := .ref (a 5)) (C := RX2) (T := TX2) (N := 4) hx hb htg ig_2 hown hK hP 6 (oh_wg (by decide) (sX_6 hT)) rfl 0 (by decide) (htg _ q_245) (fun _ h9 => h9) rfl dX2_readSetting_1 ?_
  refine lv_iconst (v := 0) hx hb dX2_readSetting_4 (by decide) ?_
  refine va_getsN hx hb hG.2.2.2.2.1.1 hS hown (va_Nw.use rfl (hG.2.1 ("OneHeavyLoad$Reader", 166, "OneHeavyLoad", "MAX_SETTING", "[I", "OneHeavyLoad") (List.mem_of_getElem? (i := 4) rfl))) (fun _ h9 => h9) dX2_readSetting_5 ?_
  refine lv_iload_n hx hb dX2_readSetting_8 rfl (lv_at hl 1 rfl) ?_
  refine va_ti (v := .int (oh_maxs (x1).toNatClampNeg)) hx hb hG.2.2.2.2.1.2 hS (rg_in hx1 (by decide)) rfl dX2_readSetting_9 ?_
  refine tm_V (As := [.int 0, .int (oh_maxs (x1).toNatClampNeg)]) (rest := []) ⟨hx, hb, hml, hown, htg⟩ (e_X4_takeNumber l D E G _ a C hT (0 : Int32) (oh_maxs (x1).toNatClampNeg)) (cwV 2 htg (oh_gV q_583 q_584 q_585 q_71 q_586) rfl rfl rfl pdVX4_takeNumber ⟨Nat.le_of_ble_eq_true rfl, Nat.le_of_ble_eq_true rfl⟩) hK hP hD hG hS hA (va_recv hK hP (ci := 4) (q0 := 5) rfl (oh_wg (by decide) (sX_5 hT))) rfl hl.1 rfl (Nat.le_of_ble_eq_true rfl) dX2_readSetting_10 ⟨Nat.le_of_ble_eq_true rfl, Nat.le_of_ble_eq_true rfl⟩ (fun r_1 C_2 H locs hq_3 hP hD hS => ?_)
  obtain ⟨hT, f_4, hq_3⟩ := hq_3
  have hF := fr_tr hF f_4 (by decide) (by decide)
  refine W.widen (k := 0) (n := 0) (Nat.le_refl _) (Nat.le_refl _) ?_
  have t_5 := hT
  have er_6 := hq_3.2.2.1
  have ep_7 := hq_3.2.2.2
  refine lv_istore_n (lv' := [(2, .int r_1), (0, .ref (a 6)), (1, .int x1)]) hx hb dX2_readSetting_13 rfl hl (by decide) rfl (fun ls hl => ?_)
  refine lv_aload_n hx hb dX2_readSetting_14 rfl (lv_at hl 1 rfl) ?_
  refine va_get (D := D) (ci := 2) (v := .ref (a 5)) (C := RX2) (T := TX2) (N := 4) hx hb htg ig_2 hown hK hP 6 (oh_wg (by decide) (sX_6 hT)) rfl 0 (by decide) (htg _ q_245) (fun _ h9 => h9) rfl dX2_readSetting_15 ?_
  refine tq_V (As := []) (rest := []) (ws := (oh_W 35 a C_2)) ⟨hx, hb, hml, hown, htg⟩ (e_X4_isSound l D E G a C_2 hT) (cwV 0 htg (oh_gV q_619 q_592 q_593 q_71 q_594) rfl rfl rfl pdVX4_isSound ⟨Nat.le_of_ble_eq_true rfl, Nat.le_of_ble_eq_true rfl⟩) hK hP hG hS (va_recv hK hP (ci := 4) (q0 := 5) rfl (oh_wg (by decide) (sX_5 hT))) rfl hl.1 rfl (Nat.le_of_ble_eq_true rfl) dX2_readSetting_18 ⟨Nat.le_of_ble_eq_true rfl, Nat.le_of_ble_eq_true rfl⟩ (fun r_8 hq_9 => ?_)
  refine lv_if_eq (tgt := 34) hx hb dX2_readSetting_21 (by decide) (fun (c_10 : r_8 = 0) => ?_) (fun (c_10 : ¬ (r_8 = 0)) => ?_)
  · have u_11 := hq_9.2.2 c_10
    rw [hQ]
    exact W.vret hx hb hr (fun t ht hW => ⟨⟨C_2, rfl, ⟨hT, hF, ⟨ep_7, (fun h8 => absurd h8 u_11), (fun _ => (f_4.1 15 rfl (by decide)))⟩⟩, ⟨by rw [ht]; exact hP, hD⟩⟩, hS.F ht⟩) hS.2.2 dX2_readSetting_34
  · have u_12 := hq_9.2.1 c_10
    have s_13 := u_12
    have s_14 := hq_3.2.1 s_13
    refine lv_aload_n hx hb dX2_readSetting_24 rfl (lv_at hl 1 rfl) ?_
    refine va_get (D := D) (ci := 2) (v := .ref (a 1)) (C := RX2) (T := TX2) (N := 4) hx hb htg ig_2 hown hK hP 6 (oh_wg (by decide) (sX_6 hT)) rfl 1 (by decide) (htg _ q_246) (fun _ h9 => h9) rfl dX2_readSetting_25 ?_
    refine va_get (D := D) (ci := 0) (v := .ref (a 15)) (C := RX0) (T := TX0) (N := 8) hx hb htg ig_0 hown hK hP 1 (oh_wg (by decide) (sX_1 hT)) rfl 5 (by decide) (htg _ q_107) (fun _ h9 => h9) rfl dX2_readSetting_28 ?_
    refine lv_iload_n hx hb dX2_readSetting_31 rfl (lv_at hl 2 rfl) ?_
    refine lv_iload_n hx hb dX2_readSetting_32 rfl (lv_at hl 0 rfl) ?_
    have n_15 : vp_in x1 3 := (rg_in hx1 (by decide))
    refine th_iast (T := TyX a E) (Rl := fr [(5, 6), (15, 16)] [] C) hx hb hK hP hD hS 15 (by decide) (sX_15 hT) n_15 (hT.up 15 (tA_upd (tX_15 hT) tA_any)) (fr_st hF (by decide) (by decide)) dX2_readSetting_33 (fun C_16 H locs e_17 hT hF hP hD hS => ?_)
    have t_18 := hT
    rw [hQ]
    exact W.vret hx hb hr (fun t ht hW => ⟨⟨C_16, rfl, ⟨hT, hF, ⟨(Eq.trans (px_c (th_un e_17 (by decide))) ep_7), (fun _ => by rw [(st_ga e_17), (f_4.1 15 rfl (by decide)), ← er_6]), (fun h8 => absurd (Eq.trans (congrArg (fun z => gi z 2) (th_un e_17 (by decide))) u_12) h8)⟩⟩, ⟨by rw [ht]; exact hP, hD⟩⟩, hS.F ht⟩) hS.2.2 dX2_readSetting_34

theorem cntX {a : Nat → Nat} {E : Nat → ClassId} {C : Nat → va_E} (t : Nat) (hT : TyX a E C) (ht : t < 4) : rg (ga (C 10) t) 0 24 := by
  have h := (tX_10 hT).2 t ht
  rcases (show t = 0 ∨ t = 1 ∨ t = 2 ∨ t = 3 by omega) with rfl | rfl | rfl | rfl <;> exact rg_w h (by decide)

set_option maxHeartbeats 4000000 in
set_option maxRecDepth 100000 in
theorem e_X2_readStatement (l : Launch) (D : va_G) (E : Nat → ClassId) (G : Nat → Nat) (sz : Nat) (a : Nat → Nat) (C : Nat → va_E) (hT : TyX a E C) : Met l yX2_readStatement (oh_w yX2_readStatement cX2_readStatement 1 none) ({ frames := 8, cells := 0, slots := 0, locals := 179 }) (oh_Pm D E G [.ref (a 6)] (oh_W 35 a C) sz) (va_Qv (fun (u : Nat → va_E) => TyX a E u ∧ fr [(5, 6), (10, 16)] [] C u ∧ (∀ A : LA, absX 10 C A → fine (px C) → RelSt (rdStmt (ga (C 32)) (px C) A) C u) ∧ (¬ gi (C 5) 2 = -1 → gi (u 5) 2 = gi (C 5) 2 ∧ ∀ k, 10 ≤ k → k ≤ 15 → u k = C k)) (oh_B D (va_A (oh_W 35 a C) sz) (fun u => oh_W 35 a u)) (va_A (oh_W 35 a C) sz)) 0 0 (va_A (oh_W 35 a C) sz) := by
  refine Met.ofW (cc := cX2_readStatement) (maxL := 1) (ret := none) (by decide) rfl ?_
  intro p e s m args below meth c s₁ B hml hv
  obtain ⟨rfl, hsz, hP, hK, hD0, hG⟩ := hv
  have hx := B.exec
  have hb := B.bytes
  have hr := B.returns
  have hts := atoms_spec (ws := (oh_w yX2_readStatement cX2_readStatement 1 none)) B.pre
  have htg : ∀ w ∈ oh_t, w.before _ s = true := fun w h => hts w (List.mem_cons_of_mem _ h)
  have hown : s.vm.findClass RX2 = some m.cls := findClass_of_methodNamed B.named
  have hlocks := B.notSynchronized
  have hT0 := hT
  subst hsz
  have hD := hD0.self (sz := s.heap.size)
  generalize hAe : va_A (oh_W 35 a C) s.heap.size = A at hD hG ⊢
  have hA : ∀ q : Nat, s.heap.size ≤ q → A q := fun q h => by rw [← hAe]; exact Or.inr h
  have hS : va_S A s.heap s.heap [] := va_S.rf
  have hF : fr [(5, 6), (10, 16)] [] C C := fr_rf
  have hl := lv_entry ([.ref (a 6)]) (n := 1) (Nat.le_of_ble_eq_true rfl)
  rw [lg_entry_eq]
  generalize (lg_sl ([.ref (a 6)]) ++ List.replicate (1 - (lg_sl ([.ref (a 6)])).length) Slot.unset).toArray = ls at hl ⊢
  have hl : lv_has ls 1 [(0, .ref (a 6))] := hl
  refine oh_genQ (fun Q hQ => ?_)
  refine lv_aload_n hx hb dX2_readStatement_0 rfl (lv_at hl 0 rfl) ?_
  refine va_get (D := D) (ci := 2) (v := .ref (a 5)) (C := RX2) (T := TX2) (N := 4) hx hb htg ig_2 hown hK hP 6 (oh_wg (by decide) (sX_6 hT)) rfl 0 (by decide) (htg _ q_245) (fun _ h9 => h9) rfl dX2_readStatement_1 ?_
  refine va_ldcS hx hb hown (hG.2.2.1 ("OneHeavyLoad$Reader", 61, "road", 3) (List.mem_of_getElem? (i := 0) rfl)) dX2_readStatement_4 ?_
  refine tq_V (As := [.ref (G (3 + 0))]) (rest := []) (ws := (oh_W 35 a C)) ⟨hx, hb, hml, hown, htg⟩ (e_X4_isWord l D E G a C hT 0 (by decide)) (cwV 1 htg (oh_gV q_517 q_518 q_519 q_71 q_520) rfl rfl rfl pdVX4_isWord ⟨Nat.le_of_ble_eq_true rfl, Nat.le_of_ble_eq_true rfl⟩) hK hP hG hS (va_recv hK hP (ci := 4) (q0 := 5) rfl (oh_wg (by decide) (sX_5 hT))) rfl hl.1 rfl (Nat.le_of_ble_eq_true rfl) dX2_readStatement_6 ⟨Nat.le_of_ble_eq_true rfl, Nat.le_of_ble_eq_true rfl⟩ (fun r_1 hq_2 => ?_)
  refine lv_if_eq (tgt := 19) hx hb dX2_readStatement_9 (by decide) (fun (c_3 : r_1 = 0) => ?_) (fun (c_3 : ¬ (r_1 = 0)) => ?_)
  · have u_4 := hq_2.2.2 c_3
    refine lv_aload_n hx hb dX2_readStatement_19 rfl (lv_at hl 0 rfl) ?_
    refine va_get (D := D) (ci := 2) (v := .ref (a 5)) (C := RX2) (T := TX2) (N := 4) hx hb htg ig_2 hown hK hP 6 (oh_wg (by decide) (sX_6 hT)) rfl 0 (by decide) (htg _ q_245) (fun _ h9 => h9) rfl dX2_readStatement_20 ?_
    refine va_ldcS hx hb hown (hG.2.2.1 ("OneHeavyLoad$Reader", 70, "bridge", 8) (List.mem_of_getElem? (i := 5) rfl)) dX2_readStatement_23 ?_
    refine tq_V (As := [.ref (G (3 + 5))]) (rest := []) (ws := (oh_W 35 a C)) ⟨hx, hb, hml, hown, htg⟩ (e_X4_isWord l D E G a C hT 5 (by decide)) (cwV 1 htg (oh_gV q_517 q_518 q_519 q_71 q_520) rfl rfl rfl pdVX4_isWord ⟨Nat.le_of_ble_eq_true rfl, Nat.le_of_ble_eq_true rfl⟩) hK hP hG hS (va_recv hK hP (ci := 4) (q0 := 5) rfl (oh_wg (by decide) (sX_5 hT))) rfl hl.1 rfl (Nat.le_of_ble_eq_true rfl) dX2_readStatement_25 ⟨Nat.le_of_ble_eq_true rfl, Nat.le_of_ble_eq_true rfl⟩ (fun r_5 hq_6 => ?_)
    refine lv_if_eq (tgt := 38) hx hb dX2_readStatement_28 (by decide) (fun (c_7 : r_5 = 0) => ?_) (fun (c_7 : ¬ (r_5 = 0)) => ?_)
    · have u_8 := hq_6.2.2 c_7
      refine lv_aload_n hx hb dX2_readStatement_38 rfl (lv_at hl 0 rfl) ?_
      refine va_get (D := D) (ci := 2) (v := .ref (a 5)) (C := RX2) (T := TX2) (N := 4) hx hb htg ig_2 hown hK hP 6 (oh_wg (by decide) (sX_6 hT)) rfl 0 (by decide) (htg _ q_245) (fun _ h9 => h9) rfl dX2_readStatement_39 ?_
      refine va_ldcS hx hb hown (hG.2.2.1 ("OneHeavyLoad$Reader", 75, "waggon", 14) (List.mem_of_getElem? (i := 11) rfl)) dX2_readStatement_42 ?_
      refine tq_V (As := [.ref (G (3 + 11))]) (rest := []) (ws := (oh_W 35 a C)) ⟨hx, hb, hml, hown, htg⟩ (e_X4_isWord l D E G a C hT 11 (by decide)) (cwV 1 htg (oh_gV q_517 q_518 q_519 q_71 q_520) rfl rfl rfl pdVX4_isWord ⟨Nat.le_of_ble_eq_true rfl, Nat.le_of_ble_eq_true rfl⟩) hK hP hG hS (va_recv hK hP (ci := 4) (q0 := 5) rfl (oh_wg (by decide) (sX_5 hT))) rfl hl.1 rfl (Nat.le_of_ble_eq_true rfl) dX2_readStatement_44 ⟨Nat.le_of_ble_eq_true rfl, Nat.le_of_ble_eq_true rfl⟩ (fun r_9 hq_10 => ?_)
      refine lv_if_eq (tgt := 57) hx hb dX2_readStatement_47 (by decide) (fun (c_11 : r_9 = 0) => ?_) (fun (c_11 : ¬ (r_9 = 0)) => ?_)
      · have u_12 := hq_10.2.2 c_11
        refine lv_aload_n hx hb dX2_readStatement_57 rfl (lv_at hl 0 rfl) ?_
        refine va_get (D := D) (ci := 2) (v := .ref (a 5)) (C := RX2) (T := TX2) (N := 4) hx hb htg ig_2 hown hK hP 6 (oh_wg (by decide) (sX_6 hT)) rfl 0 (by decide) (htg _ q_245) (fun _ h9 => h9) rfl dX2_readStatement_58 ?_
        refine va_ldcS hx hb hown (hG.2.2.1 ("OneHeavyLoad$Reader", 80, "part", 17) (List.mem_of_getElem? (i := 14) rfl)) dX2_readStatement_61 ?_
        refine tq_V (As := [.ref (G (3 + 14))]) (rest := []) (ws := (oh_W 35 a C)) ⟨hx, hb, hml, hown, htg⟩ (e_X4_isWord l D E G a C hT 14 (by decide)) (cwV 1 htg (oh_gV q_517 q_518 q_519 q_71 q_520) rfl rfl rfl pdVX4_isWord ⟨Nat.le_of_ble_eq_true rfl, Nat.le_of_ble_eq_true rfl⟩) hK hP hG hS (va_recv hK hP (ci := 4) (q0 := 5) rfl (oh_wg (by decide) (sX_5 hT))) rfl hl.1 rfl (Nat.le_of_ble_eq_true rfl) dX2_readStatement_63 ⟨Nat.le_of_ble_eq_true rfl, Nat.le_of_ble_eq_true rfl⟩ (fun r_13 hq_14 => ?_)
        refine lv_if_eq (tgt := 76) hx hb dX2_readStatement_66 (by decide) (fun (c_15 : r_13 = 0) => ?_) (fun (c_15 : ¬ (r_13 = 0)) => ?_)
        · have u_16 := hq_14.2.2 c_15
          refine lv_aload_n hx hb dX2_readStatement_76 rfl (lv_at hl 0 rfl) ?_
          refine va_get (D := D) (ci := 2) (v := .ref (a 5)) (C := RX2) (T := TX2) (N := 4) hx hb htg ig_2 hown hK hP 6 (oh_wg (by decide) (sX_6 hT)) rfl 0 (by decide) (htg _ q_245) (fun _ h9 => h9) rfl dX2_readStatement_77 ?_
          refine va_ldcS hx hb hown (hG.2.2.1 ("OneHeavyLoad$Reader", 85, "load", 18) (List.mem_of_getElem? (i := 15) rfl)) dX2_readStatement_80 ?_
          refine tm_V (As := [.ref (G (3 + 15))]) (rest := []) ⟨hx, hb, hml, hown, htg⟩ (e_X4_takeWordIfThere l D E G _ a C hT 15 (by decide)) (cwV 1 htg (oh_gV q_613 q_614 q_615 q_71 q_616) rfl rfl rfl pdVX4_takeWordIfThere ⟨Nat.le_of_ble_eq_true rfl, Nat.le_of_ble_eq_true rfl⟩) hK hP hD hG hS hA (va_recv hK hP (ci := 4) (q0 := 5) rfl (oh_wg (by decide) (sX_5 hT))) rfl hl.1 rfl (Nat.le_of_ble_eq_true rfl) dX2_readStatement_82 ⟨Nat.le_of_ble_eq_true rfl, Nat.le_of_ble_eq_true rfl⟩ (fun r_17 C_18 H locs hq_19 hP hD hS => ?_)
          obtain ⟨hT, f_20, hq_19⟩ := hq_19
          have hF := fr_tr hF f_20 (by decide) (by decide)
          refine W.widen (k := 0) (n := 0) (Nat.le_refl _) (Nat.le_refl _) ?_
          have t_21 := hT
          have ep_22 := hq_19.2.2.1
          refine lv_if_eq (tgt := 96) hx hb dX2_readStatement_85 (by decide) (fun (c_23 : r_17 = 0) => ?_) (fun (c_23 : ¬ (r_17 = 0)) => ?_)
          · have u_24 := hq_19.2.2.2.2 c_23
            refine lv_aload_n hx hb dX2_readStatement_96 rfl (lv_at hl 0 rfl) ?_
            refine va_get (D := D) (ci := 2) (v := .ref (a 5)) (C := RX2) (T := TX2) (N := 4) hx hb htg ig_2 hown hK hP 6 (oh_wg (by decide) (sX_6 hT)) rfl 0 (by decide) (htg _ q_245) (fun _ h9 => h9) rfl dX2_readStatement_97 ?_
            refine va_ldcS hx hb hown (hG.2.2.1 ("OneHeavyLoad$Reader", 94, "mile", 19) (List.mem_of_getElem? (i := 16) rfl)) dX2_readStatement_100 ?_
            refine tm_V (As := [.ref (G (3 + 16))]) (rest := []) ⟨hx, hb, hml, hown, htg⟩ (e_X4_takeWordIfThere l D E G _ a C_18 hT 16 (by decide)) (cwV 1 htg (oh_gV q_613 q_614 q_615 q_71 q_616) rfl rfl rfl pdVX4_takeWordIfThere ⟨Nat.le_of_ble_eq_true rfl, Nat.le_of_ble_eq_true rfl⟩) hK hP hD hG hS hA (va_recv hK hP (ci := 4) (q0 := 5) rfl (oh_wg (by decide) (sX_5 hT))) rfl hl.1 rfl (Nat.le_of_ble_eq_true rfl) dX2_readStatement_102 ⟨Nat.le_of_ble_eq_true rfl, Nat.le_of_ble_eq_true rfl⟩ (fun r_25 C_26 H locs hq_27 hP hD hS => ?_)
            obtain ⟨hT, f_28, hq_27⟩ := hq_27
            have hF := fr_tr hF f_28 (by decide) (by decide)
            refine W.widen (k := 0) (n := 0) (Nat.le_refl _) (Nat.le_refl _) ?_
            have t_29 := hT
            have ep_30 := hq_27.2.2.1
            rw [show ga (C_18 32) = ga (C 32) from congrArg ga (f_20.1 32 rfl (by decide))] at ep_30
            refine lv_if_eq (tgt := 116) hx hb dX2_readStatement_105 (by decide) (fun (c_31 : r_25 = 0) => ?_) (fun (c_31 : ¬ (r_25 = 0)) => ?_)
            · have u_32 := hq_27.2.2.2.2 c_31
              refine lv_aload_n hx hb dX2_readStatement_116 rfl (lv_at hl 0 rfl) ?_
              refine va_get (D := D) (ci := 2) (v := .ref (a 5)) (C := RX2) (T := TX2) (N := 4) hx hb htg ig_2 hown hK hP 6 (oh_wg (by decide) (sX_6 hT)) rfl 0 (by decide) (htg _ q_245) (fun _ h9 => h9) rfl dX2_readStatement_117 ?_
              refine tm_Vv (As := []) (rest := []) ⟨hx, hb, hml, hown, htg⟩ (e_X4_fail l D E G _ a C_26 hT) (cwV 0 htg (oh_gV q_579 q_580 q_581 q_71 q_582) rfl rfl rfl pdVX4_fail ⟨Nat.le_of_ble_eq_true rfl, Nat.le_of_ble_eq_true rfl⟩) hK hP hD hG hS hA (va_recv hK hP (ci := 4) (q0 := 5) rfl (oh_wg (by decide) (sX_5 hT))) rfl hl.1 rfl (Nat.le_of_ble_eq_true rfl) dX2_readStatement_120 ⟨Nat.le_of_ble_eq_true rfl, Nat.le_of_ble_eq_true rfl⟩ (fun C_34 H locs hq_35 hP hD hS => ?_)
              obtain ⟨hT, f_36, hq_35⟩ := hq_35
              have hF := fr_tr hF f_36 (by decide) (by decide)
              refine W.widen (k := 0) (n := 0) (Nat.le_refl _) (Nat.le_refl _) ?_
              have t_37 := hT
              have ep_38 := hq_35.2
              have ex_39 : px C_18 = px C := Eq.trans ep_22 (pif_neg u_24)
              have hm_40 := u_32
              rw [show ga (C_18 32) = ga (C 32) from congrArg ga (f_20.1 32 rfl (by decide)), ex_39] at hm_40
              have ex_41 := ep_30
              rw [ex_39] at ex_41
              have ex_42 : px C_26 = px C := Eq.trans ex_41 (pif_neg hm_40)
              have h2_43 := ep_38
              rw [ex_42] at h2_43
              rw [hQ]
              exact W.vret hx hb hr (fun t ht hW => ⟨⟨C_34, rfl, ⟨hT, hF, ⟨(fun A hA hf => ss_none u_4 u_8 u_12 u_16 u_24 hm_40 h2_43 (fun k k1 k2 => Eq.trans (fr_all f_36 10 15 (by decide) k k1 k2) (Eq.trans (fr_all f_28 10 15 (by decide) k k1 k2) (fr_all f_20 10 15 (by decide) k k1 k2))) hf), (fun h8 => ⟨Eq.trans (congrArg (fun z => z.2.1) h2_43) (congrArg (fun z : PX => z.2.1) (xFail_no h8)), (fun k k1 k2 => Eq.trans (fr_all f_36 10 15 (by decide) k k1 k2) (Eq.trans (fr_all f_28 10 15 (by decide) k k1 k2) (fr_all f_20 10 15 (by decide) k k1 k2)))⟩)⟩⟩, ⟨by rw [ht]; exact hP, hD⟩⟩, hS.F ht⟩) hS.2.2 dX2_readStatement_123
            · have u_44 := hq_27.2.2.2.1 c_31
              refine lv_aload_n hx hb dX2_readStatement_108 rfl (lv_at hl 0 rfl) ?_
              refine lv_iconst (v := 1) hx hb dX2_readStatement_109 (by decide) ?_
              refine tm_Vv (As := [.int 1]) (rest := []) ⟨hx, hb, hml, hown, htg⟩ (e_X2_readSetting l D E G _ a C_26 hT (1 : Int32) (rg_w (rg_c (v := 1) (lo := 1) (hi := 1) (by decide)) (by decide))) (cwV 1 htg (oh_gV q_648 q_650 q_14 q_72 q_651) rfl rfl rfl pdVX2_readSetting ⟨Nat.le_of_ble_eq_true rfl, Nat.le_of_ble_eq_true rfl⟩) hK hP hD hG hS hA (va_recv hK hP (ci := 2) (q0 := 6) rfl (oh_wg (by decide) (sX_6 hT))) rfl hl.1 rfl (Nat.le_of_ble_eq_true rfl) dX2_readStatement_110 ⟨Nat.le_of_ble_eq_true rfl, Nat.le_of_ble_eq_true rfl⟩ (fun C_46 H locs hq_47 hP hD hS => ?_)
              obtain ⟨hT, f_48, hq_47⟩ := hq_47
              have hF := fr_tr hF f_48 (by decide) (by decide)
              refine W.widen (k := 0) (n := 0) (Nat.le_refl _) (Nat.le_refl _) ?_
              have t_49 := hT
              have ep_50 := hq_47.1
              rw [show ga (C_26 32) = ga (C 32) from congrArg ga (Eq.trans (f_28.1 32 rfl (by decide)) (f_20.1 32 rfl (by decide)))] at ep_50
              refine lv_goto (tgt := 123) hx hb dX2_readStatement_113 (by decide) ?_
              have ex_51 : px C_18 = px C := Eq.trans ep_22 (pif_neg u_24)
              have hm_52 := u_44
              rw [show ga (C_18 32) = ga (C 32) from congrArg ga (f_20.1 32 rfl (by decide)), ex_51] at hm_52
              have ex_53 := ep_30
              rw [ex_51] at ex_53
              have ex_54 : px C_26 = xAdv (ga (C 32)) (px C) := Eq.trans ex_53 (pif_pos hm_52)
              have h2_55 := ep_50
              rw [ex_54] at h2_55
              have h3_56 := hq_47.2.1
              rw [ex_54, show C_26 15 = C 15 from (Eq.trans (f_28.1 15 rfl (by decide)) (f_20.1 15 rfl (by decide))), show ga (C_26 32) = ga (C 32) from congrArg ga (Eq.trans (f_28.1 32 rfl (by decide)) (f_20.1 32 rfl (by decide)))] at h3_56
              have h4_57 := hq_47.2.2
              rw [show C_26 15 = C 15 from (Eq.trans (f_28.1 15 rfl (by decide)) (f_20.1 15 rfl (by decide)))] at h4_57
              rw [hQ]
              exact W.vret hx hb hr (fun t ht hW => ⟨⟨C_46, rfl, ⟨hT, hF, ⟨(fun A hA hf => ss_mile u_4 u_8 u_12 u_16 u_24 hm_52 h2_55 h3_56 h4_57 (fun k k1 k2 => Eq.trans (fr_all f_48 10 14 (by decide) k k1 k2) (Eq.trans (fr_all f_28 10 14 (by decide) k k1 k2) (fr_all f_20 10 14 (by decide) k k1 k2))) hA hf), (fun h8 => absurd hm_52.1 h8)⟩⟩, ⟨by rw [ht]; exact hP, hD⟩⟩, hS.F ht⟩) hS.2.2 dX2_readStatement_123
          · have u_58 := hq_19.2.2.2.1 c_23
            refine lv_aload_n hx hb dX2_readStatement_88 rfl (lv_at hl 0 rfl) ?_
            refine lv_iconst (v := 0) hx hb dX2_readStatement_89 (by decide) ?_
            refine tm_Vv (As := [.int 0]) (rest := []) ⟨hx, hb, hml, hown, htg⟩ (e_X2_readSetting l D E G _ a C_18 hT (0 : Int32) (rg_w (rg_c (v := 0) (lo := 0) (hi := 0) (by decide)) (by decide))) (cwV 1 htg (oh_gV q_648 q_650 q_14 q_72 q_651) rfl rfl rfl pdVX2_readSetting ⟨Nat.le_of_ble_eq_true rfl, Nat.le_of_ble_eq_true rfl⟩) hK hP hD hG hS hA (va_recv hK hP (ci := 2) (q0 := 6) rfl (oh_wg (by decide) (sX_6 hT))) rfl hl.1 rfl (Nat.le_of_ble_eq_true rfl) dX2_readStatement_90 ⟨Nat.le_of_ble_eq_true rfl, Nat.le_of_ble_eq_true rfl⟩ (fun C_60 H locs hq_61 hP hD hS => ?_)
            obtain ⟨hT, f_62, hq_61⟩ := hq_61
            have hF := fr_tr hF f_62 (by decide) (by decide)
            refine W.widen (k := 0) (n := 0) (Nat.le_refl _) (Nat.le_refl _) ?_
            have t_63 := hT
            have ep_64 := hq_61.1
            rw [show ga (C_18 32) = ga (C 32) from congrArg ga (f_20.1 32 rfl (by decide))] at ep_64
            refine lv_goto (tgt := 123) hx hb dX2_readStatement_93 (by decide) ?_
            have ex_65 : px C_18 = xAdv (ga (C 32)) (px C) := Eq.trans ep_22 (pif_pos u_58)
            have h2_66 := ep_64
            rw [ex_65] at h2_66
            have h3_67 := hq_61.2.1
            rw [ex_65, show C_18 15 = C 15 from (f_20.1 15 rfl (by decide)), show ga (C_18 32) = ga (C 32) from congrArg ga (f_20.1 32 rfl (by decide))] at h3_67
            have h4_68 := hq_61.2.2
            rw [show C_18 15 = C 15 from (f_20.1 15 rfl (by decide))] at h4_68
            rw [hQ]
            exact W.vret hx hb hr (fun t ht hW => ⟨⟨C_60, rfl, ⟨hT, hF, ⟨(fun A hA hf => ss_load u_4 u_8 u_12 u_16 u_58 h2_66 h3_67 h4_68 (fun k k1 k2 => Eq.trans (fr_all f_62 10 14 (by decide) k k1 k2) (fr_all f_20 10 14 (by decide) k k1 k2)) hA hf), (fun h8 => absurd u_58.1 h8)⟩⟩, ⟨by rw [ht]; exact hP, hD⟩⟩, hS.F ht⟩) hS.2.2 dX2_readStatement_123
        · have u_69 := hq_14.2.1 c_15
          refine lv_aload_n hx hb dX2_readStatement_69 rfl (lv_at hl 0 rfl) ?_
          refine tm_Vv (As := []) (rest := []) ⟨hx, hb, hml, hown, htg⟩ (e_X2_readPart l D E G _ a C hT) (cwV 0 htg (oh_gV q_642 q_644 q_13 q_72 q_645) rfl rfl rfl pdVX2_readPart ⟨Nat.le_of_ble_eq_true rfl, Nat.le_of_ble_eq_true rfl⟩) hK hP hD hG hS hA (va_recv hK hP (ci := 2) (q0 := 6) rfl (oh_wg (by decide) (sX_6 hT))) rfl hl.1 rfl (Nat.le_of_ble_eq_true rfl) dX2_readStatement_70 ⟨Nat.le_of_ble_eq_true rfl, Nat.le_of_ble_eq_true rfl⟩ (fun C_71 H locs hq_72 hP hD hS => ?_)
          obtain ⟨hT, f_73, hq_72⟩ := hq_72
          have hF := fr_tr hF f_73 (by decide) (by decide)
          refine W.widen (k := 0) (n := 0) (Nat.le_refl _) (Nat.le_refl _) ?_
          have t_74 := hT
          have ep_75 := hq_72.1
          refine lv_goto (tgt := 123) hx hb dX2_readStatement_73 (by decide) ?_
          rw [hQ]
          exact W.vret hx hb hr (fun t ht hW => ⟨⟨C_71, rfl, ⟨hT, hF, ⟨(fun A hA hf => ss_part (rg_w (lo := 0) (hi := 24) (cntX 3 hT0 (by decide)) (by decide)) u_4 u_8 u_12 u_69 ep_75 hq_72.2.1 hq_72.2.2 (fr_ex f_73 11 15 14 (by decide)) hA hf), (fun h8 => absurd u_69.1 h8)⟩⟩, ⟨by rw [ht]; exact hP, hD⟩⟩, hS.F ht⟩) hS.2.2 dX2_readStatement_123
      · have u_76 := hq_10.2.1 c_11
        refine lv_aload_n hx hb dX2_readStatement_50 rfl (lv_at hl 0 rfl) ?_
        refine tm_Vv (As := []) (rest := []) ⟨hx, hb, hml, hown, htg⟩ (e_X2_readWaggon l D E G _ a C hT) (cwV 0 htg (oh_gV q_634 q_636 q_12 q_72 q_637) rfl rfl rfl pdVX2_readWaggon ⟨Nat.le_of_ble_eq_true rfl, Nat.le_of_ble_eq_true rfl⟩) hK hP hD hG hS hA (va_recv hK hP (ci := 2) (q0 := 6) rfl (oh_wg (by decide) (sX_6 hT))) rfl hl.1 rfl (Nat.le_of_ble_eq_true rfl) dX2_readStatement_51 ⟨Nat.le_of_ble_eq_true rfl, Nat.le_of_ble_eq_true rfl⟩ (fun C_78 H locs hq_79 hP hD hS => ?_)
        obtain ⟨hT, f_80, hq_79⟩ := hq_79
        have hF := fr_tr hF f_80 (by decide) (by decide)
        refine W.widen (k := 0) (n := 0) (Nat.le_refl _) (Nat.le_refl _) ?_
        have t_81 := hT
        have ep_82 := hq_79.1
        refine lv_goto (tgt := 123) hx hb dX2_readStatement_54 (by decide) ?_
        rw [hQ]
        exact W.vret hx hb hr (fun t ht hW => ⟨⟨C_78, rfl, ⟨hT, hF, ⟨(fun A hA hf => ss_waggon (rg_w (lo := 0) (hi := 24) (cntX 2 hT0 (by decide)) (by decide)) u_4 u_8 u_76 ep_82 hq_79.2.1 hq_79.2.2 (fr_ex f_80 11 15 13 (by decide)) hA hf), (fun h8 => absurd u_76.1 h8)⟩⟩, ⟨by rw [ht]; exact hP, hD⟩⟩, hS.F ht⟩) hS.2.2 dX2_readStatement_123
    · have u_83 := hq_6.2.1 c_7
      refine lv_aload_n hx hb dX2_readStatement_31 rfl (lv_at hl 0 rfl) ?_
      refine tm_Vv (As := []) (rest := []) ⟨hx, hb, hml, hown, htg⟩ (e_X2_readBridge l D E G _ a C hT) (cwV 0 htg (oh_gV q_622 q_624 q_11 q_72 q_625) rfl rfl rfl pdVX2_readBridge ⟨Nat.le_of_ble_eq_true rfl, Nat.le_of_ble_eq_true rfl⟩) hK hP hD hG hS hA (va_recv hK hP (ci := 2) (q0 := 6) rfl (oh_wg (by decide) (sX_6 hT))) rfl hl.1 rfl (Nat.le_of_ble_eq_true rfl) dX2_readStatement_32 ⟨Nat.le_of_ble_eq_true rfl, Nat.le_of_ble_eq_true rfl⟩ (fun C_85 H locs hq_86 hP hD hS => ?_)
      obtain ⟨hT, f_87, hq_86⟩ := hq_86
      have hF := fr_tr hF f_87 (by decide) (by decide)
      refine W.widen (k := 0) (n := 0) (Nat.le_refl _) (Nat.le_refl _) ?_
      have t_88 := hT
      have ep_89 := hq_86.1
      refine lv_goto (tgt := 123) hx hb dX2_readStatement_35 (by decide) ?_
      rw [hQ]
      exact W.vret hx hb hr (fun t ht hW => ⟨⟨C_85, rfl, ⟨hT, hF, ⟨(fun A hA hf => ss_bridge (rg_w (lo := 0) (hi := 24) (cntX 1 hT0 (by decide)) (by decide)) u_4 u_83 ep_89 hq_86.2.1 hq_86.2.2 (fr_ex f_87 11 15 12 (by decide)) hA hf), (fun h8 => absurd u_83.1 h8)⟩⟩, ⟨by rw [ht]; exact hP, hD⟩⟩, hS.F ht⟩) hS.2.2 dX2_readStatement_123
  · have u_90 := hq_2.2.1 c_3
    refine lv_aload_n hx hb dX2_readStatement_12 rfl (lv_at hl 0 rfl) ?_
    refine tm_Vv (As := []) (rest := []) ⟨hx, hb, hml, hown, htg⟩ (e_X2_readRoad l D E G _ a C hT) (cwV 0 htg (oh_gV q_569 q_571 q_7 q_72 q_572) rfl rfl rfl pdVX2_readRoad ⟨Nat.le_of_ble_eq_true rfl, Nat.le_of_ble_eq_true rfl⟩) hK hP hD hG hS hA (va_recv hK hP (ci := 2) (q0 := 6) rfl (oh_wg (by decide) (sX_6 hT))) rfl hl.1 rfl (Nat.le_of_ble_eq_true rfl) dX2_readStatement_13 ⟨Nat.le_of_ble_eq_true rfl, Nat.le_of_ble_eq_true rfl⟩ (fun C_92 H locs hq_93 hP hD hS => ?_)
    obtain ⟨hT, f_94, hq_93⟩ := hq_93
    have hF := fr_tr hF f_94 (by decide) (by decide)
    refine W.widen (k := 0) (n := 0) (Nat.le_refl _) (Nat.le_refl _) ?_
    have t_95 := hT
    have ep_96 := hq_93.1
    refine lv_goto (tgt := 123) hx hb dX2_readStatement_16 (by decide) ?_
    rw [hQ]
    exact W.vret hx hb hr (fun t ht hW => ⟨⟨C_92, rfl, ⟨hT, hF, ⟨(fun A hA hf => ss_road (rg_w (lo := 0) (hi := 24) (cntX 0 hT0 (by decide)) (by decide)) u_90 ep_96 hq_93.2.1 hq_93.2.2 (fr_ex f_94 11 15 11 (by decide)) hA hf), (fun h8 => absurd u_90.1 h8)⟩⟩, ⟨by rw [ht]; exact hP, hD⟩⟩, hS.F ht⟩) hS.2.2 dX2_readStatement_123
/-! EXACT: the whole tape -/
noncomputable def rdLoop (f : Nat → Int32) : Nat → PX → LA → Int32 → Except Int32 (LA × Int32)
  | 0, _, A, k => .ok (A, k)
  | n + 1, p, A, k => pif (p.2.2.1 = 0) (.ok (A, k)) (pif (p.2.2.1 = 3) (exB (rdStmt f (xAdv f p) A) fun x => rdLoop f n x.2 x.1 (k + 1)) (.error p.2.2.2.1))
theorem rdLoop_s {f : Nat → Int32} {n : Nat} {p : PX} {A : LA} {k : Int32} : rdLoop f (n + 1) p A k = pif (p.2.2.1 = 0) (.ok (A, k)) (pif (p.2.2.1 = 3) (exB (rdStmt f (xAdv f p) A) fun x => rdLoop f n x.2 x.1 (k + 1)) (.error p.2.2.2.1)) := rfl
noncomputable def rdTot (f : Nat → Int32) (n : Int32) (A : LA) : Except Int32 (LA × Int32) := exB (rdStmt f (xAdv f (n, -1, 0, 0, 0)) A) fun x => rdLoop f 249 x.2 x.1 1
/-- nothing of A is another in B -/
def below (A B : LA) : Prop := (∀ t, t < 4 → (A 5 0 t).toInt ≤ (B 5 0 t).toInt) ∧ (∀ t, t < 4 → ∀ i : Nat, (i : Int) < (A 5 0 t).toInt → ∀ j, B t i j = A t i j) ∧ B 4 0 2 = A 4 0 2
theorem below_rf {A : LA} : below A A := ⟨fun _ _ => Int.le_refl _, fun _ _ _ _ _ => rfl, rfl⟩
theorem below_add {A B : LA} {t : Nat} {v : Nat → Int32} (h : below A B) (ht : t < 4) (hc : rg (B 5 0 t) 0 24) : below A (addA B t v) := by
  refine ⟨fun s hs => ?_, fun s hs i hi j => ?_, ?_⟩
  · have h1 := h.1 s hs
    by_cases q : s = t
    · subst q
      rw [addA_5 hs, oh_inc24 hc]
      omega
    · rw [addA_5n ht q]
      exact h1
  · have h1 := h.1 s hs
    rw [addA_old hs (fun z => by have z1 := z.1; have z2 := z.2; subst z1; omega)]
    exact h.2.1 s hs i hi j
  · rw [addA_4 ht]
    exact h.2.2
theorem below_set {A B : LA} {k : Nat} {v : Int32} (h : below A B) (hk : k ≠ 2) : below A (setA B k v) := by
  refine ⟨fun s hs => ?_, fun s hs i hi j => ?_, ?_⟩
  · rw [setA_5]
    exact h.1 s hs
  · rw [setA_t hs]
    exact h.2.1 s hs i hi j
  · rw [show setA B k v 4 0 2 = B 4 0 2 from if_neg (fun z => hk z.2.2.symm)]
    exact h.2.2
theorem exB_ok {α β : Type} {r : Except Int32 α} {k : α → Except Int32 β} {y : β} (h : exB r k = .ok y) : ∃ x, r = .ok x ∧ k x = .ok y := by
  cases r with
  | error e => exact absurd h (by intro q; cases q)
  | ok x => exact ⟨x, rfl, h⟩
theorem below_stmt {f : Nat → Int32} {p : PX} {A B : LA} {y : LA × PX} (h : below A B) (hc : ∀ t, t < 4 → rg (B 5 0 t) 0 24) (e : rdStmt f p B = .ok y) : below A y.1 := by
  unfold rdStmt at e
  by_cases c0 : XIs f p 0
  · rw [pif_pos c0] at e
    by_cases r : B 5 0 0 < 24
    · rw [pif_pos r] at e
      obtain ⟨x, -, hx⟩ := exB_ok e
      cases hx
      exact below_add h (by decide) (hc 0 (by decide))
    · rw [pif_neg r] at e
      cases e
  · rw [pif_neg c0] at e
    by_cases c1 : XIs f p 5
    · rw [pif_pos c1] at e
      by_cases r : B 5 0 1 < 16
      · rw [pif_pos r] at e
        obtain ⟨x, -, hx⟩ := exB_ok e
        cases hx
        exact below_add h (by decide) (hc 1 (by decide))
      · rw [pif_neg r] at e
        cases e
    · rw [pif_neg c1] at e
      by_cases c2 : XIs f p 11
      · rw [pif_pos c2] at e
        by_cases r : B 5 0 2 < 5
        · rw [pif_pos r] at e
          obtain ⟨x, -, hx⟩ := exB_ok e
          cases hx
          exact below_add h (by decide) (hc 2 (by decide))
        · rw [pif_neg r] at e
          cases e
      · rw [pif_neg c2] at e
        by_cases c3 : XIs f p 14
        · rw [pif_pos c3] at e
          by_cases r : B 5 0 3 < 5
          · rw [pif_pos r] at e
            obtain ⟨x, -, hx⟩ := exB_ok e
            cases hx
            exact below_add h (by decide) (hc 3 (by decide))
          · rw [pif_neg r] at e
            cases e
        · rw [pif_neg c3] at e
          by_cases c4 : XIs f p 15
          · rw [pif_pos c4] at e
            obtain ⟨x, -, hx⟩ := exB_ok e
            cases hx
            exact below_set h (by decide)
          · rw [pif_neg c4] at e
            obtain ⟨x, -, hx⟩ := exB_ok e
            cases hx
            exact below_set h (by decide)
/-- the class at its loop -/
def XL (f : Nat → Int32) (n : Int32) (A0 : LA) (K : Nat → va_E) (z : Int32) : Prop :=
  (∃ A, fine (px K) ∧ absX 10 K A ∧ below A0 A ∧ rdLoop f (250 - z.toInt).toNat (px K) A z = rdTot f n A0) ∨ (∃ e, gi (K 5) 2 = e ∧ ¬ e = -1 ∧ (∃ A, absX 10 K A ∧ below A0 A) ∧ rdTot f n A0 = .error e)
theorem cntA {c : Nat} {C : Nat → va_E} {A : LA} (h : absX c C A) (hc : ∀ t, t < 4 → rg (ga (C c) t) 0 24) : ∀ t, t < 4 → rg (A 5 0 t) 0 24 := fun t ht => by
  rw [← h.1 t ht]
  exact hc t ht
theorem XL_0 {f : Nat → Int32} {n t s : Int32} {A0 : LA} {C C3 C4 : Nat → va_E} (hA : absX 10 C A0) (hc : ∀ t, t < 4 → rg (ga (C 10) t) 0 24) (e3 : ∀ k, 10 ≤ k → k ≤ 15 → C3 k = C k) (hp : px C3 = xAdv f (n, -1, t, s, 0)) (hn : rg n 0 250) (hst : ∀ A : LA, absX 10 C3 A → fine (px C3) → RelSt (rdStmt f (px C3) A) C3 C4) : XL f n A0 C4 1 := by
  have hf : fine (px C3) := by
    rw [hp]
    exact fine_adv0 rfl hn (by decide) (by show (0 : Int) ≤ _; exact hn.1)
  have hr := hst A0 (absX_eq hA (fun k k1 k2 => e3 k k1 (by omega))) hf
  have et : rdTot f n A0 = exB (rdStmt f (px C3) A0) fun x => rdLoop f 249 x.2 x.1 1 := by
    rw [hp]
    rfl
  cases e : rdStmt f (px C3) A0 with
  | error d =>
    rw [e] at hr et
    obtain ⟨h1, h2, h3⟩ := hr
    exact Or.inr ⟨d, h1, h2, ⟨A0, absX_eq hA (fun k k1 k2 => (h3 k k1 (by omega)).trans (e3 k k1 (by omega))), below_rf⟩, et⟩
  | ok y =>
    rw [e] at hr et
    obtain ⟨h1, h2, h3⟩ := hr
    refine Or.inl ⟨y.1, by rw [h1]; exact h2, h3, below_stmt below_rf (cntA hA hc) e, ?_⟩
    rw [et, h1]
    rfl
theorem XL_s {f : Nat → Int32} {n z : Int32} {A0 : LA} {K K1 K2 : Nat → va_E} (h : XL f n A0 K z) (hc : ∀ t, t < 4 → rg (ga (K 10) t) 0 24) (hs : gi (K 5) 2 = -1) (ht : ¬ gi (K 5) 3 = 0) (hz : rg z 0 249) (h1 : px K1 = xSign f (px K)) (e1 : ∀ k, 10 ≤ k → k ≤ 15 → K1 k = K k) (h2 : ∀ A : LA, absX 10 K1 A → fine (px K1) → RelSt (rdStmt f (px K1) A) K1 K2) (h3 : ¬ gi (K1 5) 2 = -1 → gi (K2 5) 2 = gi (K1 5) 2 ∧ ∀ k, 10 ≤ k → k ≤ 15 → K2 k = K1 k) : XL f n A0 K2 (z + 1) := by
  rcases h with ⟨A, g1, g2, g3, g4⟩ | ⟨e, g1, g2, -, -⟩
  · have e2 := oh_add1 hz
    have hA1 : absX 10 K1 A := absX_eq g2 (fun k k1 k2 => e1 k k1 (by omega))
    rw [show (250 - z.toInt).toNat = (250 - (z + 1).toInt).toNat + 1 by have := hz.2; omega, rdLoop_s, pif_neg (show ¬ (px K).2.2.1 = 0 from ht)] at g4
    by_cases q : (px K).2.2.1 = 3
    · rw [pif_pos q] at g4
      have hp : px K1 = xAdv f (px K) := Eq.trans h1 (pif_pos q)
      have hr := h2 A hA1 (by rw [hp]; exact fine_adv g1)
      rw [hp] at hr
      cases e : rdStmt f (xAdv f (px K)) A with
      | error d =>
        rw [e] at hr g4
        obtain ⟨b1, b2, b3⟩ := hr
        exact Or.inr ⟨d, b1, b2, ⟨A, absX_eq hA1 (fun k k1 k2 => b3 k k1 (by omega)), g3⟩, g4.symm⟩
      | ok y =>
        rw [e] at hr g4
        obtain ⟨b1, b2, b3⟩ := hr
        refine Or.inl ⟨y.1, by rw [b1]; exact b2, b3, below_stmt g3 (cntA g2 hc) e, ?_⟩
        rw [← g4, b1]
        rfl
    · rw [pif_neg q] at g4
      have hp : px K1 = xFail (px K) := Eq.trans h1 (pif_neg q)
      obtain ⟨b1, b2⟩ := fine_fail g1
      have hq : gi (K1 5) 2 = (xFail (px K)).2.1 := congrArg (fun z => z.2.1) hp
      obtain ⟨d1, d2⟩ := h3 (by rw [hq]; exact b2)
      refine Or.inr ⟨(px K).2.2.2.1, by rw [d1, hq]; exact b1, by rw [← b1]; exact b2, ⟨A, absX_eq hA1 (fun k k1 k2 => d2 k k1 (by omega)), g3⟩, g4.symm⟩
  · exact absurd (Eq.trans g1.symm hs) g2
def RelT (R : Except Int32 (LA × Int32)) (A0 : LA) (r : Int32) (u : Nat → va_E) : Prop := match R with
  | .ok y => gi (u 5) 2 = -1 ∧ absX 10 u y.1 ∧ r = y.2
  | .error e => gi (u 5) 2 = e ∧ ¬ e = -1 ∧ absX 10 u A0
theorem XL_ok {f : Nat → Int32} {n z : Int32} {A0 : LA} {K : Nat → va_E} (h : XL f n A0 K z) (hs : gi (K 5) 2 = -1) (ht : gi (K 5) 3 = 0 ∨ 250 ≤ z) : RelT (rdTot f n A0) A0 z K := by
  rcases h with ⟨A, g1, g2, g3, g4⟩ | ⟨e, g1, g2, -, -⟩
  · have e : rdTot f n A0 = .ok (A, z) := by
      rw [← g4]
      cases hk : (250 - z.toInt).toNat with
      | zero => rfl
      | succ m =>
        rcases ht with ht | ht
        · rw [rdLoop_s]
          exact pif_pos ht
        · have h1 := Int32.le_iff_toInt_le.mp ht
          have h2 : (250 : Int32).toInt = 250 := rfl
          omega
    rw [e]
    exact ⟨hs, g2, rfl⟩
  · exact absurd (Eq.trans g1.symm hs) g2
theorem absX_back {C K u : Nat → va_E} {A0 A : LA} (hA : absX 10 C A0) (h : absX 10 K A) (hb : below A0 A) (e10 : ∀ j, j < 4 → ga (u 10) j = ga (C 10) j) (e15 : ∀ j, j < 3 → ga (u 15) j = ga (C 15) j) (e : ∀ k, 11 ≤ k → k ≤ 14 → u k = K k) : absX 10 u A0 := by
  refine ⟨fun t ht => ?_, fun j hj => ?_, fun t ht i hi j hj hv => ?_⟩
  · rw [e10 t ht]
    exact hA.1 t ht
  · show ga (u 15) j = _
    rw [e15 j hj]
    exact hA.2.1 j hj
  · rw [e _ (by omega) (by omega), h.2.2 t ht i (by have := hb.1 t ht; omega) j hj hv]
    exact hb.2.1 t ht i hi j
theorem XL_er {f : Nat → Int32} {n z r : Int32} {A0 : LA} {C K u : Nat → va_E} (h : XL f n A0 K z) (hA : absX 10 C A0) (hs : ¬ gi (K 5) 2 = -1) (e5 : gi (u 5) 2 = gi (K 5) 2) (e10 : ∀ j, j < 4 → ga (u 10) j = ga (C 10) j) (e15 : ∀ j, j < 3 → ga (u 15) j = ga (C 15) j) (e : ∀ k, 11 ≤ k → k ≤ 14 → u k = K k) : RelT (rdTot f n A0) A0 r u := by
  rcases h with ⟨A, g1, -⟩ | ⟨d, g1, g2, ⟨A, g3, g5⟩, g4⟩
  · exact absurd g1.1 hs
  · rw [g4]
    exact ⟨e5.trans g1, g2, absX_back hA g3 g5 e10 e15 e⟩
theorem cpy0 {α : Type} {f g : Nat → α} {n j : Nat} (h : j < n) : va_cpy f g 0 0 n j = f j := by
  unfold va_cpy
  rw [if_pos ⟨Nat.zero_le _, by omega⟩, Nat.sub_zero, Nat.zero_add]
/-- what land() answers -/
def LandR (R : Except Int32 (LA × Int32)) (A0 B : LA) (r : Int32) : Prop := match R with
  | .ok y => r = y.2 ∧ B = y.1
  | .error e => r = -20 - e ∧ B = A0
theorem ga_cpy {C C2 : Nat → va_E} {k n N j : Nat} {cA : ClassId} {f g : Nat → Int32} {m : Int32} (e : C2 = updc C k (.inl (cA, n, .inl (va_cpy f g ((0 : Int32)).toNatClampNeg ((0 : Int32)).toNatClampNeg m.toNatClampNeg)))) (hN : m.toNatClampNeg = N) (hj : j < N) : ga (C2 k) j = f j := by
  rw [st_ga e, hN]
  exact cpy0 hj

set_option maxHeartbeats 4000000 in
set_option maxRecDepth 100000 in
theorem e_X2_read (l : Launch) (D : va_G) (E : Nat → ClassId) (G : Nat → Nat) (sz : Nat) (a : Nat → Nat) (C : Nat → va_E) (hT : TyX a E C) : Met l yX2_read (oh_w yX2_read cX2_read 2 (some .int)) ({ frames := 9, cells := 0, slots := 0, locals := 199 }) (oh_Pm D E G [.ref (a 6)] (oh_W 35 a C) sz) (va_Qi (fun r (u : Nat → va_E) => TyX a E u ∧ fr [(5, 6), (10, 16), (33, 35)] [] C u ∧ (∀ A0 : LA, absX 10 C A0 → RelT (rdTot (ga (C 32)) (gi (C 5) 1) A0) A0 r u)) (oh_B D (va_A (oh_W 35 a C) sz) (fun u => oh_W 35 a u)) (va_A (oh_W 35 a C) sz)) 0 0 (va_A (oh_W 35 a C) sz) := by
  refine Met.ofW (cc := cX2_read) (maxL := 2) (ret := (some .int)) (by decide) rfl ?_
  intro p e s m args below meth c s₁ B hml hv
  obtain ⟨rfl, hsz, hP, hK, hD0, hG⟩ := hv
  have hx := B.exec
  have hb := B.bytes
  have hr := B.returns
  have hts := atoms_spec (ws := (oh_w yX2_read cX2_read 2 (some .int))) B.pre
  have htg : ∀ w ∈ oh_t, w.before _ s = true := fun w h => hts w (List.mem_cons_of_mem _ h)
  have hown : s.vm.findClass RX2 = some m.cls := findClass_of_methodNamed B.named
  have hlocks := B.notSynchronized
  have hT0 := hT
  subst hsz
  have hD := hD0.self (sz := s.heap.size)
  generalize hAe : va_A (oh_W 35 a C) s.heap.size = A at hD hG ⊢
  have hA : ∀ q : Nat, s.heap.size ≤ q → A q := fun q h => by rw [← hAe]; exact Or.inr h
  have hS : va_S A s.heap s.heap [] := va_S.rf
  have hF : fr [(5, 6), (10, 16), (33, 35)] [] C C := fr_rf
  have hl := lv_entry ([.ref (a 6)]) (n := 2) (Nat.le_of_ble_eq_true rfl)
  rw [lg_entry_eq]
  generalize (lg_sl ([.ref (a 6)]) ++ List.replicate (2 - (lg_sl ([.ref (a 6)])).length) Slot.unset).toArray = ls at hl ⊢
  have hl : lv_has ls 2 [(0, .ref (a 6))] := hl
  refine oh_genQ (fun Q hQ => ?_)
  refine lv_aload_n hx hb dX2_read_0 rfl (lv_at hl 0 rfl) ?_
  refine va_get (D := D) (ci := 2) (v := .ref (a 1)) (C := RX2) (T := TX2) (N := 4) hx hb htg ig_2 hown hK hP 6 (oh_wg (by decide) (sX_6 hT)) rfl 1 (by decide) (htg _ q_246) (fun _ h9 => h9) rfl dX2_read_1 ?_
  refine va_get (D := D) (ci := 0) (v := .ref (a 10)) (C := RX0) (T := TX0) (N := 8) hx hb htg ig_0 hown hK hP 1 (oh_wg (by decide) (sX_1 hT)) rfl 0 (by decide) (htg _ q_98) (fun _ h9 => h9) rfl dX2_read_4 ?_
  refine lv_iconst (v := 0) hx hb dX2_read_7 (by decide) ?_
  refine lv_aload_n hx hb dX2_read_8 rfl (lv_at hl 0 rfl) ?_
  refine va_get (D := D) (ci := 2) (v := .ref (a 33)) (C := RX2) (T := TX2) (N := 4) hx hb htg ig_2 hown hK hP 6 (oh_wg (by decide) (sX_6 hT)) rfl 2 (by decide) (htg _ q_247) (fun _ h9 => h9) rfl dX2_read_9 ?_
  refine lv_iconst (v := 0) hx hb dX2_read_12 (by decide) ?_
  refine lv_aload_n hx hb dX2_read_13 rfl (lv_at hl 0 rfl) ?_
  refine va_get (D := D) (ci := 2) (v := .ref (a 33)) (C := RX2) (T := TX2) (N := 4) hx hb htg ig_2 hown hK hP 6 (oh_wg (by decide) (sX_6 hT)) rfl 2 (by decide) (htg _ q_247) (fun _ h9 => h9) rfl dX2_read_14 ?_
  refine va_alen (v := 4) hx hb hK hP 33 0 (oh_wg (by decide) (sX_33 hT)) rfl (show Int32.ofNat 4 = 4 by decide) dX2_read_17 ?_
  refine th_copyi (T := TyX a E) (Rl := fr [(5, 6), (10, 16), (33, 35)] [] C) hx hb (by rw [hml]; exact hl.1.symm) hown (htg _ q_503) (htg _ q_347) (htg _ q_346) (htg _ q_74) hK hP hD hS 10 33 (by decide) (by decide) (sX_10 hT) (sX_33 hT) (by decide) (by decide) (by decide) (by decide) (by decide) (hT.up 33 (tA_cpy (tX_10 hT) (tX_33 hT))) (fr_st hF (by decide) (by decide)) (Nat.le_of_ble_eq_true rfl) (Nat.le_of_ble_eq_true rfl) dX2_read_18 (fun C_1 H locs e_2 hT hF hP hD hS => ?_)
  have t_3 := hT
  refine lv_aload_n hx hb dX2_read_21 rfl (lv_at hl 0 rfl) ?_
  refine va_get (D := D) (ci := 2) (v := .ref (a 1)) (C := RX2) (T := TX2) (N := 4) hx hb htg ig_2 hown hK hP 6 (oh_wg (by decide) (sX_6 hT)) rfl 1 (by decide) (htg _ q_246) (fun _ h9 => h9) rfl dX2_read_22 ?_
  refine va_get (D := D) (ci := 0) (v := .ref (a 15)) (C := RX0) (T := TX0) (N := 8) hx hb htg ig_0 hown hK hP 1 (oh_wg (by decide) (sX_1 hT)) rfl 5 (by decide) (htg _ q_107) (fun _ h9 => h9) rfl dX2_read_25 ?_
  refine lv_iconst (v := 0) hx hb dX2_read_28 (by decide) ?_
  refine lv_aload_n hx hb dX2_read_29 rfl (lv_at hl 0 rfl) ?_
  refine va_get (D := D) (ci := 2) (v := .ref (a 34)) (C := RX2) (T := TX2) (N := 4) hx hb htg ig_2 hown hK hP 6 (oh_wg (by decide) (sX_6 hT)) rfl 3 (by decide) (htg _ q_248) (fun _ h9 => h9) rfl dX2_read_30 ?_
  refine lv_iconst (v := 0) hx hb dX2_read_33 (by decide) ?_
  refine lv_aload_n hx hb dX2_read_34 rfl (lv_at hl 0 rfl) ?_
  refine va_get (D := D) (ci := 2) (v := .ref (a 34)) (C := RX2) (T := TX2) (N := 4) hx hb htg ig_2 hown hK hP 6 (oh_wg (by decide) (sX_6 hT)) rfl 3 (by decide) (htg _ q_248) (fun _ h9 => h9) rfl dX2_read_35 ?_
  refine va_alen (v := 3) hx hb hK hP 34 0 (oh_wg (by decide) (sX_34 hT)) rfl (show Int32.ofNat 3 = 3 by decide) dX2_read_38 ?_
  refine th_copyi (T := TyX a E) (Rl := fr [(5, 6), (10, 16), (33, 35)] [] C) hx hb (by rw [hml]; exact hl.1.symm) hown (htg _ q_503) (htg _ q_347) (htg _ q_346) (htg _ q_74) hK hP hD hS 15 34 (by decide) (by decide) (sX_15 hT) (sX_34 hT) (by decide) (by decide) (by decide) (by decide) (by decide) (hT.up 34 (tA_cpy (tX_15 hT) (tX_34 hT))) (fr_st hF (by decide) (by decide)) (Nat.le_of_ble_eq_true rfl) (Nat.le_of_ble_eq_true rfl) dX2_read_39 (fun C_4 H locs e_5 hT hF hP hD hS => ?_)
  have t_6 := hT
  refine lv_aload_n hx hb dX2_read_42 rfl (lv_at hl 0 rfl) ?_
  refine va_get (D := D) (ci := 2) (v := .ref (a 5)) (C := RX2) (T := TX2) (N := 4) hx hb htg ig_2 hown hK hP 6 (oh_wg (by decide) (sX_6 hT)) rfl 0 (by decide) (htg _ q_245) (fun _ h9 => h9) rfl dX2_read_43 ?_
  refine tm_Vv (As := []) (rest := []) ⟨hx, hb, hml, hown, htg⟩ (e_X4_rewind l D E G _ a C_4 hT) (cwV 0 htg (oh_gV q_504 q_505 q_506 q_71 q_507) rfl rfl rfl pdVX4_rewind ⟨Nat.le_of_ble_eq_true rfl, Nat.le_of_ble_eq_true rfl⟩) hK hP hD hG hS hA (va_recv hK hP (ci := 4) (q0 := 5) rfl (oh_wg (by decide) (sX_5 hT))) rfl hl.1 rfl (Nat.le_of_ble_eq_true rfl) dX2_read_46 ⟨Nat.le_of_ble_eq_true rfl, Nat.le_of_ble_eq_true rfl⟩ (fun C_8 H locs hq_9 hP hD hS => ?_)
  obtain ⟨hT, f_10, hq_9⟩ := hq_9
  have hF := fr_tr hF f_10 (by decide) (by decide)
  refine W.widen (k := 0) (n := 0) (Nat.le_refl _) (Nat.le_refl _) ?_
  have t_11 := hT
  have ep_12 := hq_9
  rw [show ga (C_4 32) = ga (C 32) from congrArg ga (Eq.trans (th_un e_5 (by decide)) (th_un e_2 (by decide)))] at ep_12
  refine lv_aload_n hx hb dX2_read_49 rfl (lv_at hl 0 rfl) ?_
  refine tm_Vv (As := []) (rest := []) ⟨hx, hb, hml, hown, htg⟩ (e_X2_readStatement l D E G _ a C_8 hT) (cwV 0 htg (oh_gV q_512 q_514 q_6 q_72 q_515) rfl rfl rfl pdVX2_readStatement ⟨Nat.le_of_ble_eq_true rfl, Nat.le_of_ble_eq_true rfl⟩) hK hP hD hG hS hA (va_recv hK hP (ci := 2) (q0 := 6) rfl (oh_wg (by decide) (sX_6 hT))) rfl hl.1 rfl (Nat.le_of_ble_eq_true rfl) dX2_read_50 ⟨Nat.le_of_ble_eq_true rfl, Nat.le_of_ble_eq_true rfl⟩ (fun C_14 H locs hq_15 hP hD hS => ?_)
  obtain ⟨hT, f_16, hq_15⟩ := hq_15
  have hF := fr_tr hF f_16 (by decide) (by decide)
  refine W.widen (k := 0) (n := 0) (Nat.le_refl _) (Nat.le_refl _) ?_
  have t_17 := hT
  refine lv_iconst (v := 1) hx hb dX2_read_53 (by decide) ?_
  refine lv_istore_n (lv' := [(1, .int 1), (0, .ref (a 6))]) hx hb dX2_read_54 rfl hl (by decide) rfl (fun ls hl => ?_)
  have L_55 : ∀ (d : Nat) (K55 : Nat → va_E) (z55_1 : Int32) (H : Heap) (locs : List Loc) (ls : Array Slot), (250 - z55_1.toInt).toNat = d → rg z55_1 1 250 → (∀ A0 : LA, absX 10 C A0 → XL (ga (C 32)) (gi (C 5) 1) A0 K55 z55_1) → TyX a E K55 → fr [(5, 6), (10, 16), (33, 35)] [] C K55 → fr [(5, 6), (10, 16)] [] C_14 K55 → va_P D vwCl (oh_W 35 a K55) H → va_D A (oh_W 35 a K55) → va_S A s.heap H locs → lv_has ls 2 [(1, .int z55_1), (0, .ref (a 6))] → W p l e ({ frames := 9, cells := 0, slots := 0, locals := 199 }) s m (([.ref (a 6)] : List Value).toArray) below meth c H locs 0 0 Q (F0 m 55 ls []) := by
    intro d
    induction d using Nat.strongRecOn with
    | ind d ih_55 =>
    intro K55 z55_1 H locs ls hd_55 hz55_1 hx_55 hT hF hLF_55 hP hD hS hl
    have t_18 := hT
    refine lv_aload_n hx hb dX2_read_55 rfl (lv_at hl 1 rfl) ?_
    refine va_get (D := D) (ci := 2) (v := .ref (a 5)) (C := RX2) (T := TX2) (N := 4) hx hb htg ig_2 hown hK hP 6 (oh_wg (by decide) (sX_6 hT)) rfl 0 (by decide) (htg _ q_245) (fun _ h9 => h9) rfl dX2_read_56 ?_
    refine tq_V (As := []) (rest := []) (ws := (oh_W 35 a K55)) ⟨hx, hb, hml, hown, htg⟩ (e_X4_isSound l D E G a K55 hT) (cwV 0 htg (oh_gV q_619 q_592 q_593 q_71 q_594) rfl rfl rfl pdVX4_isSound ⟨Nat.le_of_ble_eq_true rfl, Nat.le_of_ble_eq_true rfl⟩) hK hP hG hS (va_recv hK hP (ci := 4) (q0 := 5) rfl (oh_wg (by decide) (sX_5 hT))) rfl hl.1 rfl (Nat.le_of_ble_eq_true rfl) dX2_read_59 ⟨Nat.le_of_ble_eq_true rfl, Nat.le_of_ble_eq_true rfl⟩ (fun r_19 hq_20 => ?_)
    refine lv_if_eq (tgt := 99) hx hb dX2_read_62 (by decide) (fun (c_21 : r_19 = 0) => ?_) (fun (c_21 : ¬ (r_19 = 0)) => ?_)
    · have u_22 := hq_20.2.2 c_21
      refine lv_aload_n hx hb dX2_read_99 rfl (lv_at hl 1 rfl) ?_
      refine va_get (D := D) (ci := 2) (v := .ref (a 5)) (C := RX2) (T := TX2) (N := 4) hx hb htg ig_2 hown hK hP 6 (oh_wg (by decide) (sX_6 hT)) rfl 0 (by decide) (htg _ q_245) (fun _ h9 => h9) rfl dX2_read_100 ?_
      refine tq_V (As := []) (rest := []) (ws := (oh_W 35 a K55)) ⟨hx, hb, hml, hown, htg⟩ (e_X4_isSound l D E G a K55 hT) (cwV 0 htg (oh_gV q_619 q_592 q_593 q_71 q_594) rfl rfl rfl pdVX4_isSound ⟨Nat.le_of_ble_eq_true rfl, Nat.le_of_ble_eq_true rfl⟩) hK hP hG hS (va_recv hK hP (ci := 4) (q0 := 5) rfl (oh_wg (by decide) (sX_5 hT))) rfl hl.1 rfl (Nat.le_of_ble_eq_true rfl) dX2_read_103 ⟨Nat.le_of_ble_eq_true rfl, Nat.le_of_ble_eq_true rfl⟩ (fun r_23 hq_24 => ?_)
      refine lv_if_ne (tgt := 151) hx hb dX2_read_106 (by decide) (fun (c_25 : ¬ (r_23 = 0)) => ?_) (fun (c_25 : r_23 = 0) => ?_)
      · have u_26 := hq_24.2.1 c_25
        have s_27 := u_26
        refine lv_iload_n hx hb dX2_read_151 rfl (lv_at hl 0 rfl) ?_
        rw [hQ]
        exact W.iret (v := z55_1) hx hb hr (fun t ht hW => ⟨⟨z55_1, K55, rfl, ⟨hT, hF, (absurd u_26 u_22)⟩, ⟨by rw [ht]; exact hP, hD⟩⟩, hS.F ht⟩) hS.2.2 dX2_read_152
      · have u_28 := hq_24.2.2 c_25
        refine lv_aload_n hx hb dX2_read_109 rfl (lv_at hl 1 rfl) ?_
        refine va_get (D := D) (ci := 2) (v := .ref (a 33)) (C := RX2) (T := TX2) (N := 4) hx hb htg ig_2 hown hK hP 6 (oh_wg (by decide) (sX_6 hT)) rfl 2 (by decide) (htg _ q_247) (fun _ h9 => h9) rfl dX2_read_110 ?_
        refine lv_iconst (v := 0) hx hb dX2_read_113 (by decide) ?_
        refine lv_aload_n hx hb dX2_read_114 rfl (lv_at hl 1 rfl) ?_
        refine va_get (D := D) (ci := 2) (v := .ref (a 1)) (C := RX2) (T := TX2) (N := 4) hx hb htg ig_2 hown hK hP 6 (oh_wg (by decide) (sX_6 hT)) rfl 1 (by decide) (htg _ q_246) (fun _ h9 => h9) rfl dX2_read_115 ?_
        refine va_get (D := D) (ci := 0) (v := .ref (a 10)) (C := RX0) (T := TX0) (N := 8) hx hb htg ig_0 hown hK hP 1 (oh_wg (by decide) (sX_1 hT)) rfl 0 (by decide) (htg _ q_98) (fun _ h9 => h9) rfl dX2_read_118 ?_
        refine lv_iconst (v := 0) hx hb dX2_read_121 (by decide) ?_
        refine lv_aload_n hx hb dX2_read_122 rfl (lv_at hl 1 rfl) ?_
        refine va_get (D := D) (ci := 2) (v := .ref (a 33)) (C := RX2) (T := TX2) (N := 4) hx hb htg ig_2 hown hK hP 6 (oh_wg (by decide) (sX_6 hT)) rfl 2 (by decide) (htg _ q_247) (fun _ h9 => h9) rfl dX2_read_123 ?_
        refine va_alen (v := 4) hx hb hK hP 33 0 (oh_wg (by decide) (sX_33 hT)) rfl (show Int32.ofNat 4 = 4 by decide) dX2_read_126 ?_
        refine th_copyi (T := TyX a E) (Rl := fr [(5, 6), (10, 16), (33, 35)] [] C) hx hb (by rw [hml]; exact hl.1.symm) hown (htg _ q_503) (htg _ q_347) (htg _ q_346) (htg _ q_74) hK hP hD hS 33 10 (by decide) (by decide) (sX_33 hT) (sX_10 hT) (by decide) (by decide) (by decide) (by decide) (by decide) (hT.up 10 (tA_cpy (tX_33 hT) (tX_10 hT))) (fr_st hF (by decide) (by decide)) (Nat.le_of_ble_eq_true rfl) (Nat.le_of_ble_eq_true rfl) dX2_read_127 (fun C_29 H locs e_30 hT hF hP hD hS => ?_)
        have t_31 := hT
        refine lv_aload_n hx hb dX2_read_130 rfl (lv_at hl 1 rfl) ?_
        refine va_get (D := D) (ci := 2) (v := .ref (a 34)) (C := RX2) (T := TX2) (N := 4) hx hb htg ig_2 hown hK hP 6 (oh_wg (by decide) (sX_6 hT)) rfl 3 (by decide) (htg _ q_248) (fun _ h9 => h9) rfl dX2_read_131 ?_
        refine lv_iconst (v := 0) hx hb dX2_read_134 (by decide) ?_
        refine lv_aload_n hx hb dX2_read_135 rfl (lv_at hl 1 rfl) ?_
        refine va_get (D := D) (ci := 2) (v := .ref (a 1)) (C := RX2) (T := TX2) (N := 4) hx hb htg ig_2 hown hK hP 6 (oh_wg (by decide) (sX_6 hT)) rfl 1 (by decide) (htg _ q_246) (fun _ h9 => h9) rfl dX2_read_136 ?_
        refine va_get (D := D) (ci := 0) (v := .ref (a 15)) (C := RX0) (T := TX0) (N := 8) hx hb htg ig_0 hown hK hP 1 (oh_wg (by decide) (sX_1 hT)) rfl 5 (by decide) (htg _ q_107) (fun _ h9 => h9) rfl dX2_read_139 ?_
        refine lv_iconst (v := 0) hx hb dX2_read_142 (by decide) ?_
        refine lv_aload_n hx hb dX2_read_143 rfl (lv_at hl 1 rfl) ?_
        refine va_get (D := D) (ci := 2) (v := .ref (a 34)) (C := RX2) (T := TX2) (N := 4) hx hb htg ig_2 hown hK hP 6 (oh_wg (by decide) (sX_6 hT)) rfl 3 (by decide) (htg _ q_248) (fun _ h9 => h9) rfl dX2_read_144 ?_
        refine va_alen (v := 3) hx hb hK hP 34 0 (oh_wg (by decide) (sX_34 hT)) rfl (show Int32.ofNat 3 = 3 by decide) dX2_read_147 ?_
        refine th_copyi (T := TyX a E) (Rl := fr [(5, 6), (10, 16), (33, 35)] [] C) hx hb (by rw [hml]; exact hl.1.symm) hown (htg _ q_503) (htg _ q_347) (htg _ q_346) (htg _ q_74) hK hP hD hS 34 15 (by decide) (by decide) (sX_34 hT) (sX_15 hT) (by decide) (by decide) (by decide) (by decide) (by decide) (hT.up 15 (tA_cpy (tX_34 hT) (tX_15 hT))) (fr_st hF (by decide) (by decide)) (Nat.le_of_ble_eq_true rfl) (Nat.le_of_ble_eq_true rfl) dX2_read_148 (fun C_32 H locs e_33 hT hF hP hD hS => ?_)
        have t_34 := hT
        refine lv_iload_n hx hb dX2_read_151 rfl (lv_at hl 0 rfl) ?_
        rw [hQ]
        exact W.iret (v := z55_1) hx hb hr (fun t ht hW => ⟨⟨z55_1, C_32, rfl, ⟨hT, hF, (fun A0 hA => XL_er (hx_55 A0 hA) hA u_28 (Eq.trans (congrArg (fun z => gi z 2) (th_un e_33 (by decide))) (congrArg (fun z => gi z 2) (th_un e_30 (by decide)))) (fun j hj => by rw [(th_un e_33 (by decide)), ga_cpy e_30 (N := 4) (by decide) hj, (Eq.trans (hLF_55.1 33 rfl (by decide)) (Eq.trans (f_16.1 33 rfl (by decide)) (Eq.trans (f_10.1 33 rfl (by decide)) (th_un e_5 (by decide))))), ga_cpy e_2 (N := 4) (by decide) hj]) (fun j hj => by rw [ga_cpy e_33 (N := 3) (by decide) hj, th_un e_30 (by decide), (Eq.trans (hLF_55.1 34 rfl (by decide)) (Eq.trans (f_16.1 34 rfl (by decide)) (f_10.1 34 rfl (by decide)))), ga_cpy e_5 (N := 3) (by decide) hj, th_un e_2 (by decide)]) (fun k k1 k2 => Eq.trans (th_un e_33 (by omega)) (th_un e_30 (by omega))))⟩, ⟨by rw [ht]; exact hP, hD⟩⟩, hS.F ht⟩) hS.2.2 dX2_read_152
    · have u_35 := hq_20.2.1 c_21
      have s_36 := u_35
      refine lv_aload_n hx hb dX2_read_65 rfl (lv_at hl 1 rfl) ?_
      refine va_get (D := D) (ci := 2) (v := .ref (a 5)) (C := RX2) (T := TX2) (N := 4) hx hb htg ig_2 hown hK hP 6 (oh_wg (by decide) (sX_6 hT)) rfl 0 (by decide) (htg _ q_245) (fun _ h9 => h9) rfl dX2_read_66 ?_
      refine tq_V (As := []) (rest := []) (ws := (oh_W 35 a K55)) ⟨hx, hb, hml, hown, htg⟩ (e_X4_isEnd l D E G a K55 hT) (cwV 0 htg (oh_gV q_654 q_655 q_656 q_71 q_657) rfl rfl rfl pdVX4_isEnd ⟨Nat.le_of_ble_eq_true rfl, Nat.le_of_ble_eq_true rfl⟩) hK hP hG hS (va_recv hK hP (ci := 4) (q0 := 5) rfl (oh_wg (by decide) (sX_5 hT))) rfl hl.1 rfl (Nat.le_of_ble_eq_true rfl) dX2_read_69 ⟨Nat.le_of_ble_eq_true rfl, Nat.le_of_ble_eq_true rfl⟩ (fun r_37 hq_38 => ?_)
      refine lv_if_ne (tgt := 99) hx hb dX2_read_72 (by decide) (fun (c_39 : ¬ (r_37 = 0)) => ?_) (fun (c_39 : r_37 = 0) => ?_)
      · have u_40 := hq_38.2.1 c_39
        refine lv_aload_n hx hb dX2_read_99 rfl (lv_at hl 1 rfl) ?_
        refine va_get (D := D) (ci := 2) (v := .ref (a 5)) (C := RX2) (T := TX2) (N := 4) hx hb htg ig_2 hown hK hP 6 (oh_wg (by decide) (sX_6 hT)) rfl 0 (by decide) (htg _ q_245) (fun _ h9 => h9) rfl dX2_read_100 ?_
        refine tq_V (As := []) (rest := []) (ws := (oh_W 35 a K55)) ⟨hx, hb, hml, hown, htg⟩ (e_X4_isSound l D E G a K55 hT) (cwV 0 htg (oh_gV q_619 q_592 q_593 q_71 q_594) rfl rfl rfl pdVX4_isSound ⟨Nat.le_of_ble_eq_true rfl, Nat.le_of_ble_eq_true rfl⟩) hK hP hG hS (va_recv hK hP (ci := 4) (q0 := 5) rfl (oh_wg (by decide) (sX_5 hT))) rfl hl.1 rfl (Nat.le_of_ble_eq_true rfl) dX2_read_103 ⟨Nat.le_of_ble_eq_true rfl, Nat.le_of_ble_eq_true rfl⟩ (fun r_41 hq_42 => ?_)
        refine lv_if_ne (tgt := 151) hx hb dX2_read_106 (by decide) (fun (c_43 : ¬ (r_41 = 0)) => ?_) (fun (c_43 : r_41 = 0) => ?_)
        · have u_44 := hq_42.2.1 c_43
          have s_45 := u_44
          refine lv_iload_n hx hb dX2_read_151 rfl (lv_at hl 0 rfl) ?_
          rw [hQ]
          exact W.iret (v := z55_1) hx hb hr (fun t ht hW => ⟨⟨z55_1, K55, rfl, ⟨hT, hF, (fun A0 hA => XL_ok (hx_55 A0 hA) u_44 (Or.inl u_40))⟩, ⟨by rw [ht]; exact hP, hD⟩⟩, hS.F ht⟩) hS.2.2 dX2_read_152
        · have u_46 := hq_42.2.2 c_43
          refine lv_aload_n hx hb dX2_read_109 rfl (lv_at hl 1 rfl) ?_
          refine va_get (D := D) (ci := 2) (v := .ref (a 33)) (C := RX2) (T := TX2) (N := 4) hx hb htg ig_2 hown hK hP 6 (oh_wg (by decide) (sX_6 hT)) rfl 2 (by decide) (htg _ q_247) (fun _ h9 => h9) rfl dX2_read_110 ?_
          refine lv_iconst (v := 0) hx hb dX2_read_113 (by decide) ?_
          refine lv_aload_n hx hb dX2_read_114 rfl (lv_at hl 1 rfl) ?_
          refine va_get (D := D) (ci := 2) (v := .ref (a 1)) (C := RX2) (T := TX2) (N := 4) hx hb htg ig_2 hown hK hP 6 (oh_wg (by decide) (sX_6 hT)) rfl 1 (by decide) (htg _ q_246) (fun _ h9 => h9) rfl dX2_read_115 ?_
          refine va_get (D := D) (ci := 0) (v := .ref (a 10)) (C := RX0) (T := TX0) (N := 8) hx hb htg ig_0 hown hK hP 1 (oh_wg (by decide) (sX_1 hT)) rfl 0 (by decide) (htg _ q_98) (fun _ h9 => h9) rfl dX2_read_118 ?_
          refine lv_iconst (v := 0) hx hb dX2_read_121 (by decide) ?_
          refine lv_aload_n hx hb dX2_read_122 rfl (lv_at hl 1 rfl) ?_
          refine va_get (D := D) (ci := 2) (v := .ref (a 33)) (C := RX2) (T := TX2) (N := 4) hx hb htg ig_2 hown hK hP 6 (oh_wg (by decide) (sX_6 hT)) rfl 2 (by decide) (htg _ q_247) (fun _ h9 => h9) rfl dX2_read_123 ?_
          refine va_alen (v := 4) hx hb hK hP 33 0 (oh_wg (by decide) (sX_33 hT)) rfl (show Int32.ofNat 4 = 4 by decide) dX2_read_126 ?_
          refine th_copyi (T := TyX a E) (Rl := fr [(5, 6), (10, 16), (33, 35)] [] C) hx hb (by rw [hml]; exact hl.1.symm) hown (htg _ q_503) (htg _ q_347) (htg _ q_346) (htg _ q_74) hK hP hD hS 33 10 (by decide) (by decide) (sX_33 hT) (sX_10 hT) (by decide) (by decide) (by decide) (by decide) (by decide) (hT.up 10 (tA_cpy (tX_33 hT) (tX_10 hT))) (fr_st hF (by decide) (by decide)) (Nat.le_of_ble_eq_true rfl) (Nat.le_of_ble_eq_true rfl) dX2_read_127 (fun C_47 H locs e_48 hT hF hP hD hS => ?_)
          have t_49 := hT
          refine lv_aload_n hx hb dX2_read_130 rfl (lv_at hl 1 rfl) ?_
          refine va_get (D := D) (ci := 2) (v := .ref (a 34)) (C := RX2) (T := TX2) (N := 4) hx hb htg ig_2 hown hK hP 6 (oh_wg (by decide) (sX_6 hT)) rfl 3 (by decide) (htg _ q_248) (fun _ h9 => h9) rfl dX2_read_131 ?_
          refine lv_iconst (v := 0) hx hb dX2_read_134 (by decide) ?_
          refine lv_aload_n hx hb dX2_read_135 rfl (lv_at hl 1 rfl) ?_
          refine va_get (D := D) (ci := 2) (v := .ref (a 1)) (C := RX2) (T := TX2) (N := 4) hx hb htg ig_2 hown hK hP 6 (oh_wg (by decide) (sX_6 hT)) rfl 1 (by decide) (htg _ q_246) (fun _ h9 => h9) rfl dX2_read_136 ?_
          refine va_get (D := D) (ci := 0) (v := .ref (a 15)) (C := RX0) (T := TX0) (N := 8) hx hb htg ig_0 hown hK hP 1 (oh_wg (by decide) (sX_1 hT)) rfl 5 (by decide) (htg _ q_107) (fun _ h9 => h9) rfl dX2_read_139 ?_
          refine lv_iconst (v := 0) hx hb dX2_read_142 (by decide) ?_
          refine lv_aload_n hx hb dX2_read_143 rfl (lv_at hl 1 rfl) ?_
          refine va_get (D := D) (ci := 2) (v := .ref (a 34)) (C := RX2) (T := TX2) (N := 4) hx hb htg ig_2 hown hK hP 6 (oh_wg (by decide) (sX_6 hT)) rfl 3 (by decide) (htg _ q_248) (fun _ h9 => h9) rfl dX2_read_144 ?_
          refine va_alen (v := 3) hx hb hK hP 34 0 (oh_wg (by decide) (sX_34 hT)) rfl (show Int32.ofNat 3 = 3 by decide) dX2_read_147 ?_
          refine th_copyi (T := TyX a E) (Rl := fr [(5, 6), (10, 16), (33, 35)] [] C) hx hb (by rw [hml]; exact hl.1.symm) hown (htg _ q_503) (htg _ q_347) (htg _ q_346) (htg _ q_74) hK hP hD hS 34 15 (by decide) (by decide) (sX_34 hT) (sX_15 hT) (by decide) (by decide) (by decide) (by decide) (by decide) (hT.up 15 (tA_cpy (tX_34 hT) (tX_15 hT))) (fr_st hF (by decide) (by decide)) (Nat.le_of_ble_eq_true rfl) (Nat.le_of_ble_eq_true rfl) dX2_read_148 (fun C_50 H locs e_51 hT hF hP hD hS => ?_)
          have t_52 := hT
          refine lv_iload_n hx hb dX2_read_151 rfl (lv_at hl 0 rfl) ?_
          rw [hQ]
          exact W.iret (v := z55_1) hx hb hr (fun t ht hW => ⟨⟨z55_1, C_50, rfl, ⟨hT, hF, (absurd u_35 u_46)⟩, ⟨by rw [ht]; exact hP, hD⟩⟩, hS.F ht⟩) hS.2.2 dX2_read_152
      · have u_53 := hq_38.2.2 c_39
        refine lv_iload_n hx hb dX2_read_75 rfl (lv_at hl 0 rfl) ?_
        refine lv_sipush (v := 250) hx hb dX2_read_76 (by decide) ?_
        refine lv_icmp_ge (tgt := 99) hx hb dX2_read_79 (by decide) (fun (c_54 : (250 : Int32) ≤ z55_1) => ?_) (fun (c_54 : ¬ ((250 : Int32) ≤ z55_1)) => ?_)
        · refine lv_aload_n hx hb dX2_read_99 rfl (lv_at hl 1 rfl) ?_
          refine va_get (D := D) (ci := 2) (v := .ref (a 5)) (C := RX2) (T := TX2) (N := 4) hx hb htg ig_2 hown hK hP 6 (oh_wg (by decide) (sX_6 hT)) rfl 0 (by decide) (htg _ q_245) (fun _ h9 => h9) rfl dX2_read_100 ?_
          refine tq_V (As := []) (rest := []) (ws := (oh_W 35 a K55)) ⟨hx, hb, hml, hown, htg⟩ (e_X4_isSound l D E G a K55 hT) (cwV 0 htg (oh_gV q_619 q_592 q_593 q_71 q_594) rfl rfl rfl pdVX4_isSound ⟨Nat.le_of_ble_eq_true rfl, Nat.le_of_ble_eq_true rfl⟩) hK hP hG hS (va_recv hK hP (ci := 4) (q0 := 5) rfl (oh_wg (by decide) (sX_5 hT))) rfl hl.1 rfl (Nat.le_of_ble_eq_true rfl) dX2_read_103 ⟨Nat.le_of_ble_eq_true rfl, Nat.le_of_ble_eq_true rfl⟩ (fun r_55 hq_56 => ?_)
          refine lv_if_ne (tgt := 151) hx hb dX2_read_106 (by decide) (fun (c_57 : ¬ (r_55 = 0)) => ?_) (fun (c_57 : r_55 = 0) => ?_)
          · have u_58 := hq_56.2.1 c_57
            have s_59 := u_58
            refine lv_iload_n hx hb dX2_read_151 rfl (lv_at hl 0 rfl) ?_
            rw [hQ]
            exact W.iret (v := z55_1) hx hb hr (fun t ht hW => ⟨⟨z55_1, K55, rfl, ⟨hT, hF, (fun A0 hA => XL_ok (hx_55 A0 hA) u_58 (Or.inr c_54))⟩, ⟨by rw [ht]; exact hP, hD⟩⟩, hS.F ht⟩) hS.2.2 dX2_read_152
          · have u_60 := hq_56.2.2 c_57
            refine lv_aload_n hx hb dX2_read_109 rfl (lv_at hl 1 rfl) ?_
            refine va_get (D := D) (ci := 2) (v := .ref (a 33)) (C := RX2) (T := TX2) (N := 4) hx hb htg ig_2 hown hK hP 6 (oh_wg (by decide) (sX_6 hT)) rfl 2 (by decide) (htg _ q_247) (fun _ h9 => h9) rfl dX2_read_110 ?_
            refine lv_iconst (v := 0) hx hb dX2_read_113 (by decide) ?_
            refine lv_aload_n hx hb dX2_read_114 rfl (lv_at hl 1 rfl) ?_
            refine va_get (D := D) (ci := 2) (v := .ref (a 1)) (C := RX2) (T := TX2) (N := 4) hx hb htg ig_2 hown hK hP 6 (oh_wg (by decide) (sX_6 hT)) rfl 1 (by decide) (htg _ q_246) (fun _ h9 => h9) rfl dX2_read_115 ?_
            refine va_get (D := D) (ci := 0) (v := .ref (a 10)) (C := RX0) (T := TX0) (N := 8) hx hb htg ig_0 hown hK hP 1 (oh_wg (by decide) (sX_1 hT)) rfl 0 (by decide) (htg _ q_98) (fun _ h9 => h9) rfl dX2_read_118 ?_
            refine lv_iconst (v := 0) hx hb dX2_read_121 (by decide) ?_
            refine lv_aload_n hx hb dX2_read_122 rfl (lv_at hl 1 rfl) ?_
            refine va_get (D := D) (ci := 2) (v := .ref (a 33)) (C := RX2) (T := TX2) (N := 4) hx hb htg ig_2 hown hK hP 6 (oh_wg (by decide) (sX_6 hT)) rfl 2 (by decide) (htg _ q_247) (fun _ h9 => h9) rfl dX2_read_123 ?_
            refine va_alen (v := 4) hx hb hK hP 33 0 (oh_wg (by decide) (sX_33 hT)) rfl (show Int32.ofNat 4 = 4 by decide) dX2_read_126 ?_
            refine th_copyi (T := TyX a E) (Rl := fr [(5, 6), (10, 16), (33, 35)] [] C) hx hb (by rw [hml]; exact hl.1.symm) hown (htg _ q_503) (htg _ q_347) (htg _ q_346) (htg _ q_74) hK hP hD hS 33 10 (by decide) (by decide) (sX_33 hT) (sX_10 hT) (by decide) (by decide) (by decide) (by decide) (by decide) (hT.up 10 (tA_cpy (tX_33 hT) (tX_10 hT))) (fr_st hF (by decide) (by decide)) (Nat.le_of_ble_eq_true rfl) (Nat.le_of_ble_eq_true rfl) dX2_read_127 (fun C_61 H locs e_62 hT hF hP hD hS => ?_)
            have t_63 := hT
            refine lv_aload_n hx hb dX2_read_130 rfl (lv_at hl 1 rfl) ?_
            refine va_get (D := D) (ci := 2) (v := .ref (a 34)) (C := RX2) (T := TX2) (N := 4) hx hb htg ig_2 hown hK hP 6 (oh_wg (by decide) (sX_6 hT)) rfl 3 (by decide) (htg _ q_248) (fun _ h9 => h9) rfl dX2_read_131 ?_
            refine lv_iconst (v := 0) hx hb dX2_read_134 (by decide) ?_
            refine lv_aload_n hx hb dX2_read_135 rfl (lv_at hl 1 rfl) ?_
            refine va_get (D := D) (ci := 2) (v := .ref (a 1)) (C := RX2) (T := TX2) (N := 4) hx hb htg ig_2 hown hK hP 6 (oh_wg (by decide) (sX_6 hT)) rfl 1 (by decide) (htg _ q_246) (fun _ h9 => h9) rfl dX2_read_136 ?_
            refine va_get (D := D) (ci := 0) (v := .ref (a 15)) (C := RX0) (T := TX0) (N := 8) hx hb htg ig_0 hown hK hP 1 (oh_wg (by decide) (sX_1 hT)) rfl 5 (by decide) (htg _ q_107) (fun _ h9 => h9) rfl dX2_read_139 ?_
            refine lv_iconst (v := 0) hx hb dX2_read_142 (by decide) ?_
            refine lv_aload_n hx hb dX2_read_143 rfl (lv_at hl 1 rfl) ?_
            refine va_get (D := D) (ci := 2) (v := .ref (a 34)) (C := RX2) (T := TX2) (N := 4) hx hb htg ig_2 hown hK hP 6 (oh_wg (by decide) (sX_6 hT)) rfl 3 (by decide) (htg _ q_248) (fun _ h9 => h9) rfl dX2_read_144 ?_
            refine va_alen (v := 3) hx hb hK hP 34 0 (oh_wg (by decide) (sX_34 hT)) rfl (show Int32.ofNat 3 = 3 by decide) dX2_read_147 ?_
            refine th_copyi (T := TyX a E) (Rl := fr [(5, 6), (10, 16), (33, 35)] [] C) hx hb (by rw [hml]; exact hl.1.symm) hown (htg _ q_503) (htg _ q_347) (htg _ q_346) (htg _ q_74) hK hP hD hS 34 15 (by decide) (by decide) (sX_34 hT) (sX_15 hT) (by decide) (by decide) (by decide) (by decide) (by decide) (hT.up 15 (tA_cpy (tX_34 hT) (tX_15 hT))) (fr_st hF (by decide) (by decide)) (Nat.le_of_ble_eq_true rfl) (Nat.le_of_ble_eq_true rfl) dX2_read_148 (fun C_64 H locs e_65 hT hF hP hD hS => ?_)
            have t_66 := hT
            refine lv_iload_n hx hb dX2_read_151 rfl (lv_at hl 0 rfl) ?_
            rw [hQ]
            exact W.iret (v := z55_1) hx hb hr (fun t ht hW => ⟨⟨z55_1, C_64, rfl, ⟨hT, hF, (absurd u_35 u_60)⟩, ⟨by rw [ht]; exact hP, hD⟩⟩, hS.F ht⟩) hS.2.2 dX2_read_152
        · refine lv_aload_n hx hb dX2_read_82 rfl (lv_at hl 1 rfl) ?_
          refine va_get (D := D) (ci := 2) (v := .ref (a 5)) (C := RX2) (T := TX2) (N := 4) hx hb htg ig_2 hown hK hP 6 (oh_wg (by decide) (sX_6 hT)) rfl 0 (by decide) (htg _ q_245) (fun _ h9 => h9) rfl dX2_read_83 ?_
          refine tm_Vv (As := []) (rest := []) ⟨hx, hb, hml, hown, htg⟩ (e_X4_takeSign l D E G _ a K55 hT) (cwV 0 htg (oh_gV q_658 q_659 q_660 q_71 q_661) rfl rfl rfl pdVX4_takeSign ⟨Nat.le_of_ble_eq_true rfl, Nat.le_of_ble_eq_true rfl⟩) hK hP hD hG hS hA (va_recv hK hP (ci := 4) (q0 := 5) rfl (oh_wg (by decide) (sX_5 hT))) rfl hl.1 rfl (Nat.le_of_ble_eq_true rfl) dX2_read_86 ⟨Nat.le_of_ble_eq_true rfl, Nat.le_of_ble_eq_true rfl⟩ (fun C_68 H locs hq_69 hP hD hS => ?_)
          obtain ⟨hT, f_70, hq_69⟩ := hq_69
          have hF := fr_tr hF f_70 (by decide) (by decide)
          refine W.widen (k := 0) (n := 0) (Nat.le_refl _) (Nat.le_refl _) ?_
          have t_71 := hT
          have ep_72 := hq_69.2
          rw [show ga (K55 32) = ga (C 32) from congrArg ga (Eq.trans (hLF_55.1 32 rfl (by decide)) (Eq.trans (f_16.1 32 rfl (by decide)) (Eq.trans (f_10.1 32 rfl (by decide)) (Eq.trans (th_un e_5 (by decide)) (th_un e_2 (by decide))))))] at ep_72
          refine lv_aload_n hx hb dX2_read_89 rfl (lv_at hl 1 rfl) ?_
          refine tm_Vv (As := []) (rest := []) ⟨hx, hb, hml, hown, htg⟩ (e_X2_readStatement l D E G _ a C_68 hT) (cwV 0 htg (oh_gV q_512 q_514 q_6 q_72 q_515) rfl rfl rfl pdVX2_readStatement ⟨Nat.le_of_ble_eq_true rfl, Nat.le_of_ble_eq_true rfl⟩) hK hP hD hG hS hA (va_recv hK hP (ci := 2) (q0 := 6) rfl (oh_wg (by decide) (sX_6 hT))) rfl hl.1 rfl (Nat.le_of_ble_eq_true rfl) dX2_read_90 ⟨Nat.le_of_ble_eq_true rfl, Nat.le_of_ble_eq_true rfl⟩ (fun C_74 H locs hq_75 hP hD hS => ?_)
          obtain ⟨hT, f_76, hq_75⟩ := hq_75
          have hF := fr_tr hF f_76 (by decide) (by decide)
          refine W.widen (k := 0) (n := 0) (Nat.le_refl _) (Nat.le_refl _) ?_
          have t_77 := hT
          refine lv_iinc (v := z55_1 + 1) (lv' := [(1, .int (z55_1 + 1)), (0, .ref (a 6))]) hx hb dX2_read_93 hl (k := 0) rfl (by rfl) (by decide) rfl (fun ls hl => ?_)
          refine lv_goto (tgt := 55) hx hb dX2_read_96 (by decide) ?_
          have hs_78 := hq_75.1
          rw [show ga (C_68 32) = ga (C 32) from congrArg ga (Eq.trans (f_70.1 32 rfl (by decide)) (Eq.trans (hLF_55.1 32 rfl (by decide)) (Eq.trans (f_16.1 32 rfl (by decide)) (Eq.trans (f_10.1 32 rfl (by decide)) (Eq.trans (th_un e_5 (by decide)) (th_un e_2 (by decide)))))))] at hs_78
          exact ih_55 _ (hd_55 ▸ mu_up 250 (rn_ltu (u' := 249) (Int32.not_le.mp c_54) hz55_1 (rg_c (v := 250) (lo := 250) (hi := 250) (by decide)) (by decide)) (by decide)) C_74 (z55_1 + 1) _ _ ls rfl (rg_w (rg_add (lo := 2) (hi := 250) (rn_ltu (u' := 249) (Int32.not_le.mp c_54) hz55_1 (rg_c (v := 250) (lo := 250) (hi := 250) (by decide)) (by decide)) (rg_c (v := 1) (lo := 1) (hi := 1) (by decide)) (by decide)) (by decide)) (fun A0 hA => XL_s (hx_55 A0 hA) (fun t ht => cntX t t_18 ht) u_35 u_53 (rg_w (lo := 0) (hi := 249) (rn_ltu (u' := 249) (Int32.not_le.mp c_54) hz55_1 (rg_c (v := 250) (lo := 250) (hi := 250) (by decide)) (by decide)) (by decide)) ep_72 (fun k k1 k2 => (fr_all f_70 10 15 (by decide) k k1 k2)) hs_78 hq_75.2) hT hF (fr_tr (fr_tr hLF_55 f_70 (by decide) (by decide)) f_76 (by decide) (by decide)) hP hD hS (lv_sub hl [0, 1] rfl)
  have hs_79 := hq_15.1
  rw [show ga (C_8 32) = ga (C 32) from congrArg ga (Eq.trans (f_10.1 32 rfl (by decide)) (Eq.trans (th_un e_5 (by decide)) (th_un e_2 (by decide))))] at hs_79
  have he_80 := ep_12
  rw [show C_4 5 = C 5 from (Eq.trans (th_un e_5 (by decide)) (th_un e_2 (by decide)))] at he_80
  exact L_55 _ C_14 1 _ _ ls rfl (rg_w (rg_c (v := 1) (lo := 1) (hi := 1) (by decide)) (by decide)) (fun A0 hA => XL_0 hA (fun t ht => cntX t hT0 ht) (fun k k1 k2 => (Eq.trans (fr_all f_10 10 15 (by decide) k k1 k2) (Eq.trans (th_un e_5 (by omega)) (th_un e_2 (by omega))))) he_80 (fX_5_1 hT0) hs_79) hT hF fr_rf hP hD hS (lv_sub hl [0, 1] rfl)

theorem land_ok {R : Except Int32 (LA × Int32)} {A0 : LA} {r : Int32} {K u : Nat → va_E} (h : RelT R A0 r K) (hs : gi (K 5) 2 = -1) (e : ∀ k, 10 ≤ k → k ≤ 15 → u k = K k) : ∃ B : LA, LandR R A0 B r ∧ absX 10 u B := by
  cases R with
  | error d => exact absurd (Eq.trans h.1.symm hs) h.2.1
  | ok y => exact ⟨y.1, ⟨h.2.2, rfl⟩, absX_eq h.2.1 (fun k k1 k2 => e k k1 (by omega))⟩
theorem land_er {R : Except Int32 (LA × Int32)} {A0 : LA} {r q f : Int32} {K u : Nat → va_E} (h : RelT R A0 r K) (hs : ¬ gi (K 5) 2 = -1) (hq : q = -20 - f) (hf : f = gi (K 5) 2) (e : ∀ k, 10 ≤ k → k ≤ 15 → u k = K k) : ∃ B : LA, LandR R A0 B q ∧ absX 10 u B := by
  cases R with
  | error d => exact ⟨A0, ⟨by rw [hq, hf, h.1], rfl⟩, absX_eq h.2.2 (fun k k1 k2 => e k k1 (by omega))⟩
  | ok y => exact absurd h.1 hs

set_option maxHeartbeats 4000000 in
set_option maxRecDepth 100000 in
theorem e_X6_land (l : Launch) (D : va_G) (E : Nat → ClassId) (G : Nat → Nat) (sz : Nat) (a : Nat → Nat) (C : Nat → va_E) (hT : TyX a E C) : Met l yX6_land (oh_w yX6_land cX6_land 2 (some .int)) ({ frames := 10, cells := 0, slots := 0, locals := 220 }) (oh_Pm D E G [.ref (a 0)] (oh_W 35 a C) sz) (va_Qi (fun r (u : Nat → va_E) => TyX a E u ∧ fr [(5, 6), (7, 8), (10, 16), (33, 35)] [] C u ∧ (gi (u 5) 1 = 0) ∧ (∀ A0 : LA, absX 10 C A0 → ∃ B : LA, LandR (rdTot (ga (C 32)) (gi (C 5) 1) A0) A0 B r ∧ absX 10 u B)) (oh_B D (va_A (oh_W 35 a C) sz) (fun u => oh_W 35 a u)) (va_A (oh_W 35 a C) sz)) 0 0 (va_A (oh_W 35 a C) sz) := by
  refine Met.ofW (cc := cX6_land) (maxL := 2) (ret := (some .int)) (by decide) rfl ?_
  intro p e s m args below meth c s₁ B hml hv
  obtain ⟨rfl, hsz, hP, hK, hD0, hG⟩ := hv
  have hx := B.exec
  have hb := B.bytes
  have hr := B.returns
  have hts := atoms_spec (ws := (oh_w yX6_land cX6_land 2 (some .int))) B.pre
  have htg : ∀ w ∈ oh_t, w.before _ s = true := fun w h => hts w (List.mem_cons_of_mem _ h)
  have hown : s.vm.findClass RX6 = some m.cls := findClass_of_methodNamed B.named
  have hlocks := B.notSynchronized
  have hT0 := hT
  subst hsz
  have hD := hD0.self (sz := s.heap.size)
  generalize hAe : va_A (oh_W 35 a C) s.heap.size = A at hD hG ⊢
  have hA : ∀ q : Nat, s.heap.size ≤ q → A q := fun q h => by rw [← hAe]; exact Or.inr h
  have hS : va_S A s.heap s.heap [] := va_S.rf
  have hF : fr [(5, 6), (7, 8), (10, 16), (33, 35)] [] C C := fr_rf
  have hl := lv_entry ([.ref (a 0)]) (n := 2) (Nat.le_of_ble_eq_true rfl)
  rw [lg_entry_eq]
  generalize (lg_sl ([.ref (a 0)]) ++ List.replicate (2 - (lg_sl ([.ref (a 0)])).length) Slot.unset).toArray = ls at hl ⊢
  have hl : lv_has ls 2 [(0, .ref (a 0))] := hl
  refine oh_genQ (fun Q hQ => ?_)
  refine lv_aload_n hx hb dX6_land_0 rfl (lv_at hl 0 rfl) ?_
  refine va_get (D := D) (ci := 6) (v := .ref (a 6)) (C := RX6) (T := TX6) (N := 9) hx hb htg ig_6 hown hK hP 0 (oh_wg (by decide) (sX_0 hT)) rfl 6 (by decide) (htg _ q_264) (fun _ h9 => h9) rfl dX6_land_1 ?_
  refine tm_V (As := []) (rest := []) ⟨hx, hb, hml, hown, htg⟩ (e_X2_read l D E G _ a C hT) (cwV 0 htg (oh_gV q_499 q_500 q_501 q_72 q_502) rfl rfl rfl pdVX2_read ⟨Nat.le_of_ble_eq_true rfl, Nat.le_of_ble_eq_true rfl⟩) hK hP hD hG hS hA (va_recv hK hP (ci := 2) (q0 := 6) rfl (oh_wg (by decide) (sX_6 hT))) rfl hl.1 rfl (Nat.le_of_ble_eq_true rfl) dX6_land_4 ⟨Nat.le_of_ble_eq_true rfl, Nat.le_of_ble_eq_true rfl⟩ (fun r_1 C_2 H locs hq_3 hP hD hS => ?_)
  obtain ⟨hT, f_4, hq_3⟩ := hq_3
  have hF := fr_tr hF f_4 (by decide) (by decide)
  refine W.widen (k := 0) (n := 0) (Nat.le_refl _) (Nat.le_refl _) ?_
  have t_5 := hT
  refine lv_istore_n (lv' := [(1, .int r_1), (0, .ref (a 0))]) hx hb dX6_land_7 rfl hl (by decide) rfl (fun ls hl => ?_)
  refine lv_aload_n hx hb dX6_land_8 rfl (lv_at hl 1 rfl) ?_
  refine va_get (D := D) (ci := 6) (v := .ref (a 5)) (C := RX6) (T := TX6) (N := 9) hx hb htg ig_6 hown hK hP 0 (oh_wg (by decide) (sX_0 hT)) rfl 5 (by decide) (htg _ q_263) (fun _ h9 => h9) rfl dX6_land_9 ?_
  refine lv_iconst (v := 0) hx hb dX6_land_12 (by decide) ?_
  refine th_put (Tp := TyX a E) (Rl := fr [(5, 6), (7, 8), (10, 16), (33, 35)] [] C) (ci := 4) (v := .int 0) (ty := .int) (CC := RX4) (T := TX4) (N := 6) hx hb htg ig_4 tyX4 tyX4_ok nmX4 hown hK hP hD hS 5 (by decide) (sX_5 hT) rfl 1 (by decide) (htg _ q_219) (fun _ h9 => h9) rfl (by decide +kernel) rfl rfl (Nat.le_of_ble_eq_true rfl) (hT.up 5 ⟨rfl, (rg_w (rg_c (v := 0) (lo := 0) (hi := 0) (by decide)) (by decide)), (fX_5_2 hT), (fX_5_4 hT), (fX_5_5 hT)⟩) (fr_st hF (by decide) (by decide)) dX6_land_13 (fun C_6 H locs e_7 hT hF hP hD hS => ?_)
  have t_8 := hT
  refine lv_aload_n hx hb dX6_land_16 rfl (lv_at hl 1 rfl) ?_
  refine va_get (D := D) (ci := 6) (v := .ref (a 5)) (C := RX6) (T := TX6) (N := 9) hx hb htg ig_6 hown hK hP 0 (oh_wg (by decide) (sX_0 hT)) rfl 5 (by decide) (htg _ q_263) (fun _ h9 => h9) rfl dX6_land_17 ?_
  refine va_get (D := D) (ci := 4) (v := .int (gi (C_2 5) 2)) (C := RX4) (T := TX4) (N := 6) hx hb htg ig_4 hown hK hP 5 (oh_wg (by decide) (sX_5 hT)) rfl 2 (by decide) (htg _ q_221) (fun _ h9 => h9) (oh_fv (c := C_6 5) (j := 2) rfl (show gi (C_6 5) 2 = gi (C_2 5) 2 by rw [e_7]; rfl)) dX6_land_20 ?_
  refine lv_iconst (v := (-1)) hx hb dX6_land_23 (by decide) ?_
  refine lv_icmp_eq (tgt := 45) hx hb dX6_land_24 (by decide) (fun (c_9 : (gi (C_2 5) 2) = (-1)) => ?_) (fun (c_9 : ¬ ((gi (C_2 5) 2) = (-1))) => ?_)
  · refine lv_iload_n hx hb dX6_land_45 rfl (lv_at hl 0 rfl) ?_
    rw [hQ]
    exact W.iret (v := r_1) hx hb hr (fun t ht hW => ⟨⟨r_1, C_6, rfl, ⟨hT, hF, ⟨(show gi (C_6 5) 1 = (0 : Int32) by rw [e_7]; rfl), (fun A0 hA => land_ok (hq_3 A0 hA) c_9 (fun k k1 k2 => (th_un e_7 (by omega))))⟩⟩, ⟨by rw [ht]; exact hP, hD⟩⟩, hS.F ht⟩) hS.2.2 dX6_land_46
  · refine lv_aload_n hx hb dX6_land_27 rfl (lv_at hl 1 rfl) ?_
    refine lv_bipush (v := (-2)) hx hb dX6_land_28 (by decide) ?_
    refine tm_V (As := [.int (-2)]) (rest := []) ⟨hx, hb, hml, hown, htg⟩ (c_X6_refuse l D E G _ a C_6 hT ((-2) : Int32)) (cwV 1 htg (oh_gV q_296 q_298 q_0 q_66 q_299) rfl rfl rfl pdVX6_refuse ⟨Nat.le_of_ble_eq_true rfl, Nat.le_of_ble_eq_true rfl⟩) hK hP hD hG hS hA (va_recv hK hP (ci := 6) (q0 := 0) rfl (oh_wg (by decide) (sX_0 hT))) rfl hl.1 rfl (Nat.le_of_ble_eq_true rfl) dX6_land_30 ⟨Nat.le_of_ble_eq_true rfl, Nat.le_of_ble_eq_true rfl⟩ (fun r_10 C_11 H locs hq_12 hP hD hS => ?_)
    obtain ⟨hT, f_13, hq_12⟩ := hq_12
    have hF := fr_tr hF f_13 (by decide) (by decide)
    refine W.widen (k := 0) (n := 0) (Nat.le_refl _) (Nat.le_refl _) ?_
    have t_14 := hT
    refine lv_pop hx hb dX6_land_33 rfl ?_
    refine lv_bipush (v := (-20)) hx hb dX6_land_34 (by decide) ?_
    refine lv_aload_n hx hb dX6_land_36 rfl (lv_at hl 1 rfl) ?_
    refine va_get (D := D) (ci := 6) (v := .ref (a 5)) (C := RX6) (T := TX6) (N := 9) hx hb htg ig_6 hown hK hP 0 (oh_wg (by decide) (sX_0 hT)) rfl 5 (by decide) (htg _ q_263) (fun _ h9 => h9) rfl dX6_land_37 ?_
    refine va_get (D := D) (ci := 4) (v := .int (gi (C_2 5) 2)) (C := RX4) (T := TX4) (N := 6) hx hb htg ig_4 hown hK hP 5 (oh_wg (by decide) (sX_5 hT)) rfl 2 (by decide) (htg _ q_221) (fun _ h9 => h9) (oh_fv (c := C_11 5) (j := 2) rfl (Eq.trans (congrArg (fun z => gi z 2) (f_13.1 5 rfl (by decide))) (show gi (C_6 5) 2 = gi (C_2 5) 2 by rw [e_7]; rfl))) dX6_land_40 ?_
    refine lv_isub hx hb dX6_land_43 ?_
    rw [hQ]
    exact W.iret (v := (-20) - (gi (C_2 5) 2)) hx hb hr (fun t ht hW => ⟨⟨(-20) - (gi (C_2 5) 2), C_11, rfl, ⟨hT, hF, ⟨(Eq.trans (congrArg (fun z => gi z 1) (f_13.1 5 rfl (by decide))) (show gi (C_6 5) 1 = (0 : Int32) by rw [e_7]; rfl)), (fun A0 hA => land_er (hq_3 A0 hA) c_9 rfl rfl (fun k k1 k2 => (Eq.trans (fr_all f_13 10 15 (by decide) k k1 k2) (th_un e_7 (by omega)))))⟩⟩, ⟨by rw [ht]; exact hP, hD⟩⟩, hS.F ht⟩) hS.2.2 dX6_land_44
