/-! ONE WORLD A SIDE: n cells, cell k at address a k with contents C k. A method's contract speaks of the whole world of its side; what cells may hold is told by their types (intervals). -/
def oh_W (n : Nat) (a : Nat → Nat) (C : Nat → va_E) : va_W := (List.range n).map (fun k => (a k, C k))
def updc (C : Nat → va_E) (k : Nat) (x : va_E) : Nat → va_E := fun i => if i = k then x else C i
theorem updc_eq {C : Nat → va_E} {k : Nat} {x : va_E} : updc C k x k = x := if_pos rfl
theorem updc_ne {C : Nat → va_E} {k i : Nat} {x : va_E} (h : i ≠ k) : updc C k x i = C i := if_neg h
theorem oh_wg0 {n : Nat} {a : Nat → Nat} {C : Nat → va_E} {k : Nat} (hk : k < n) : (oh_W n a C)[k]? = some (a k, C k) := by
  unfold oh_W
  rw [List.getElem?_map, List.getElem?_range hk]
  rfl
theorem oh_wg {n : Nat} {a : Nat → Nat} {C : Nat → va_E} {k : Nat} {x : va_E} (hk : k < n) (hs : C k = x) : (oh_W n a C)[k]? = some (a k, x) := by rw [oh_wg0 hk, hs]
theorem oh_wn {n : Nat} {a : Nat → Nat} {C : Nat → va_E} {k : Nat} (hk : n ≤ k) : (oh_W n a C)[k]? = none := List.getElem?_eq_none (by unfold oh_W; rw [List.length_map, List.length_range]; exact hk)
theorem oh_ws {n : Nat} {a : Nat → Nat} {C : Nat → va_E} {k : Nat} {x : va_E} (hk : k < n) : (oh_W n a C).set k (a k, x) = oh_W n a (updc C k x) := by
  apply List.ext_getElem?
  intro i
  have hl : k < (oh_W n a C).length := by unfold oh_W; rw [List.length_map, List.length_range]; exact hk
  by_cases e : k = i
  · subst e
    rw [List.getElem?_set_self hl, oh_wg0 hk, updc_eq]
  · rw [List.getElem?_set_ne e]
    by_cases h : i < n
    · rw [oh_wg0 h, oh_wg0 h, updc_ne (fun q => e q.symm)]
    · rw [oh_wn (Nat.not_lt.mp h), oh_wn (Nat.not_lt.mp h)]
def gv (c : va_E) (j : Nat) : Value := match c with
  | .inr q => q.2.getD j .null
  | .inl _ => .null
def vi (v : Value) : Int32 := match v with
  | .int x => x
  | _ => 0
def vl (v : Value) : Int64 := match v with
  | .long x => x
  | _ => 0
def gi (c : va_E) (j : Nat) : Int32 := vi (gv c j)
def gl (c : va_E) (j : Nat) : Int64 := vl (gv c j)
def ga (c : va_E) : Nat → Int32 := match c with
  | .inl (_, _, .inl f) => f
  | _ => fun _ => 0
def gb (c : va_E) : Nat → Int64 := match c with
  | .inl (_, _, .inr (.inl f)) => f
  | _ => fun _ => 0
/-! intervals -/
def rg (v : Int32) (lo hi : Int) : Prop := lo ≤ v.toInt ∧ v.toInt ≤ hi
theorem rg_c {v : Int32} {lo hi : Int} (h : decide (lo ≤ v.toInt ∧ v.toInt ≤ hi) = true) : rg v lo hi := by
  have h := of_decide_eq_true h
  exact h
theorem rg_any (v : Int32) : rg v (-2147483648) 2147483647 := ⟨by have := Int32.le_toInt v; omega, by have := Int32.toInt_lt v; omega⟩
theorem rg_w {v : Int32} {l u lo hi : Int} (h : rg v l u) (h1 : decide (lo ≤ l ∧ u ≤ hi) = true) : rg v lo hi := by
  have h2 := of_decide_eq_true h1
  exact ⟨Int.le_trans h2.1 h.1, Int.le_trans h.2 h2.2⟩
theorem oh_bmod {x : Int} (h1 : -2147483648 ≤ x) (h2 : x ≤ 2147483647) : x.bmod (2 ^ 32) = x := by
  rw [Int.bmod_def]
  split <;> omega
theorem rg_add {x y : Int32} {l u l2 u2 lo hi : Int} (hx : rg x l u) (hy : rg y l2 u2) (h : decide (-2147483648 ≤ lo ∧ lo ≤ l + l2 ∧ u + u2 ≤ hi ∧ hi ≤ 2147483647) = true) : rg (x + y) lo hi := by
  have h := of_decide_eq_true h
  obtain ⟨a1, a2⟩ := hx
  obtain ⟨b1, b2⟩ := hy
  unfold rg
  rw [Int32.toInt_add, oh_bmod (by omega) (by omega)]
  omega
theorem rg_sub {x y : Int32} {l u l2 u2 lo hi : Int} (hx : rg x l u) (hy : rg y l2 u2) (h : decide (-2147483648 ≤ lo ∧ lo ≤ l - u2 ∧ u - l2 ≤ hi ∧ hi ≤ 2147483647) = true) : rg (x - y) lo hi := by
  have h := of_decide_eq_true h
  obtain ⟨a1, a2⟩ := hx
  obtain ⟨b1, b2⟩ := hy
  unfold rg
  rw [Int32.toInt_sub, oh_bmod (by omega) (by omega)]
  omega
theorem rg_mul {x y : Int32} {l u k lo hi : Int} (hx : rg x l u) (hy : rg y k k) (h : decide (0 ≤ k ∧ -2147483648 ≤ lo ∧ lo ≤ l * k ∧ u * k ≤ hi ∧ hi ≤ 2147483647) = true) : rg (x * y) lo hi := by
  have h := of_decide_eq_true h
  obtain ⟨a1, a2⟩ := hx
  obtain ⟨b1, b2⟩ := hy
  have e : y.toInt = k := by omega
  have m1 : l * k ≤ x.toInt * k := Int.mul_le_mul_of_nonneg_right a1 h.1
  have m2 : x.toInt * k ≤ u * k := Int.mul_le_mul_of_nonneg_right a2 h.1
  unfold rg
  rw [Int32.toInt_mul, e, oh_bmod (by omega) (by omega)]
  omega
theorem rg_neg {x : Int32} {l u lo hi : Int} (hx : rg x l u) (h : decide (-2147483648 ≤ lo ∧ lo ≤ -u ∧ -l ≤ hi ∧ hi ≤ 2147483647) = true) : rg (-x) lo hi := by
  have h := of_decide_eq_true h
  obtain ⟨a1, a2⟩ := hx
  unfold rg
  rw [Int32.toInt_neg, oh_bmod (by omega) (by omega)]
  omega
theorem rg_in {i : Int32} {l u : Int} {N : Nat} (h : rg i l u) (hd : decide (0 ≤ l ∧ u < (N : Int)) = true) : vp_in i N := by
  have h2 := of_decide_eq_true hd
  exact vp_in_iff.mpr ⟨Int.le_trans h2.1 h.1, Int.lt_of_le_of_lt h.2 h2.2⟩
theorem rg_ne0 {y : Int32} {l u : Int} (h : rg y l u) (hd : decide (1 ≤ l ∨ u ≤ -1) = true) : ¬ y = 0 := by
  intro e
  subst e
  have h2 := of_decide_eq_true hd
  obtain ⟨a1, a2⟩ := h
  have : (0 : Int32).toInt = 0 := rfl
  omega
/-- what a comparison tells -/
theorem rn_ltu {x y : Int32} {l u l2 u2 u' : Int} (c : x < y) (hx : rg x l u) (hy : rg y l2 u2) (h : decide (u2 ≤ u' + 1) = true) : rg x l u' := by
  have h := of_decide_eq_true h
  have := Int32.lt_iff_toInt_lt.mp c
  obtain ⟨a1, a2⟩ := hx
  obtain ⟨b1, b2⟩ := hy
  exact ⟨a1, by omega⟩
theorem rn_ltl {x y : Int32} {l u l2 u2 l' : Int} (c : x < y) (hx : rg x l u) (hy : rg y l2 u2) (h : decide (l' ≤ l + 1) = true) : rg y l' u2 := by
  have h := of_decide_eq_true h
  have := Int32.lt_iff_toInt_lt.mp c
  obtain ⟨a1, a2⟩ := hx
  obtain ⟨b1, b2⟩ := hy
  exact ⟨by omega, b2⟩
theorem rn_leu {x y : Int32} {l u l2 u2 : Int} (c : x ≤ y) (hx : rg x l u) (hy : rg y l2 u2) : rg x l u2 := by
  have := Int32.le_iff_toInt_le.mp c
  obtain ⟨a1, a2⟩ := hx
  obtain ⟨b1, b2⟩ := hy
  exact ⟨a1, by omega⟩
theorem rn_lel {x y : Int32} {l u l2 u2 : Int} (c : x ≤ y) (hx : rg x l u) (hy : rg y l2 u2) : rg y l u2 := by
  have := Int32.le_iff_toInt_le.mp c
  obtain ⟨a1, a2⟩ := hx
  obtain ⟨b1, b2⟩ := hy
  exact ⟨by omega, b2⟩
theorem rn_eq {x y : Int32} {l u : Int} (c : x = y) (hy : rg y l u) : rg x l u := by rw [c]; exact hy
theorem rn_neu {x y : Int32} {l u k u' : Int} (c : ¬ x = y) (hx : rg x l u) (hy : rg y k k) (h : decide (u = k ∧ u' = u - 1) = true) : rg x l u' := by
  have h := of_decide_eq_true h
  obtain ⟨a1, a2⟩ := hx
  obtain ⟨b1, b2⟩ := hy
  have : x.toInt ≠ y.toInt := fun e => c (Int32.toInt_inj.mp e)
  exact ⟨a1, by omega⟩
theorem rn_nel {x y : Int32} {l u k l' : Int} (c : ¬ x = y) (hx : rg x l u) (hy : rg y k k) (h : decide (l = k ∧ l' = l + 1) = true) : rg x l' u := by
  have h := of_decide_eq_true h
  obtain ⟨a1, a2⟩ := hx
  obtain ⟨b1, b2⟩ := hy
  have : x.toInt ≠ y.toInt := fun e => c (Int32.toInt_inj.mp e)
  exact ⟨by omega, a2⟩
/-! longs -/
def rgL (v : Int64) (lo hi : Int) : Prop := lo ≤ v.toInt ∧ v.toInt ≤ hi
theorem rgL_c {v : Int64} {lo hi : Int} (h : decide (lo ≤ v.toInt ∧ v.toInt ≤ hi) = true) : rgL v lo hi := by
  have h := of_decide_eq_true h
  exact h
theorem rgL_any (v : Int64) : rgL v (-9223372036854775808) 9223372036854775807 := ⟨by have := Int64.le_toInt v; omega, by have := Int64.toInt_lt v; omega⟩
theorem oh_l32 (x : Int32) : (Int32.toInt64 x).toInt = x.toInt := Int32.toInt_toInt64 x
theorem rgL_i {x : Int32} {l u : Int} (h : rg x l u) : rgL (Int32.toInt64 x) l u := by unfold rgL; rw [oh_l32]; exact h
theorem rg_il {x : Int32} {l u : Int} (h : rgL (Int32.toInt64 x) l u) : rg x l u := by unfold rgL at h; rw [oh_l32] at h; exact h
theorem rg_l2i {v : Int64} {l u : Int} (h : rgL v l u) (hd : decide (-2147483648 ≤ l ∧ u ≤ 2147483647) = true) : rg (Int64.toInt32 v) l u := by
  have h2 := of_decide_eq_true hd
  obtain ⟨a1, a2⟩ := h
  unfold rg
  rw [Int64.toInt_toInt32, oh_bmod (by omega) (by omega)]
  exact ⟨a1, a2⟩
theorem rnL_ltu {x y : Int64} {l u l2 u2 u' : Int} (c : x < y) (hx : rgL x l u) (hy : rgL y l2 u2) (h : decide (u2 ≤ u' + 1) = true) : rgL x l u' := by
  have h := of_decide_eq_true h
  have := Int64.lt_iff_toInt_lt.mp c
  obtain ⟨a1, a2⟩ := hx
  obtain ⟨b1, b2⟩ := hy
  exact ⟨a1, by omega⟩
theorem rnL_ltl {x y : Int64} {l u l2 u2 l' : Int} (c : x < y) (hx : rgL x l u) (hy : rgL y l2 u2) (h : decide (l' ≤ l + 1) = true) : rgL y l' u2 := by
  have h := of_decide_eq_true h
  have := Int64.lt_iff_toInt_lt.mp c
  obtain ⟨a1, a2⟩ := hx
  obtain ⟨b1, b2⟩ := hy
  exact ⟨by omega, b2⟩
theorem rnL_leu {x y : Int64} {l u l2 u2 : Int} (c : x ≤ y) (hx : rgL x l u) (hy : rgL y l2 u2) : rgL x l u2 := by
  have := Int64.le_iff_toInt_le.mp c
  obtain ⟨a1, a2⟩ := hx
  obtain ⟨b1, b2⟩ := hy
  exact ⟨a1, by omega⟩
theorem rnL_lel {x y : Int64} {l u l2 u2 : Int} (c : x ≤ y) (hx : rgL x l u) (hy : rgL y l2 u2) : rgL y l u2 := by
  have := Int64.le_iff_toInt_le.mp c
  obtain ⟨a1, a2⟩ := hx
  obtain ⟨b1, b2⟩ := hy
  exact ⟨by omega, b2⟩
/-- lcmp's answer against 0 -/
theorem oh_lc_lt {x y : Int64} (h : lg_cmp x y < 0) : x < y := by
  unfold lg_cmp at h
  split at h
  · exact absurd h (by decide)
  · split at h
    · exact absurd h (by decide)
    · rename_i h1 h2
      exact Int64.lt_iff_toInt_lt.mpr (by have a : ¬ y.toInt < x.toInt := fun q => h1 (Int64.lt_iff_toInt_lt.mpr q); have b : ¬ x.toInt = y.toInt := fun q => h2 (Int64.toInt_inj.mp q); omega)
theorem oh_lc_nlt {x y : Int64} (h : ¬ lg_cmp x y < 0) : y ≤ x := by
  refine Int64.not_lt.mp (fun q => h ?_)
  unfold lg_cmp
  have q' := Int64.lt_iff_toInt_lt.mp q
  rw [if_neg (fun z => by have := Int64.lt_iff_toInt_lt.mp z; omega), if_neg (fun z => by rw [z] at q'; omega)]
  decide
theorem oh_lc_gt {x y : Int64} (h : 0 < lg_cmp x y) : y < x := by
  unfold lg_cmp at h
  split at h
  · rename_i h1
    exact h1
  · split at h
    · exact absurd h (by decide)
    · exact absurd h (by decide)
theorem oh_lc_ngt {x y : Int64} (h : ¬ 0 < lg_cmp x y) : x ≤ y := by
  refine Int64.not_lt.mp (fun q => h ?_)
  unfold lg_cmp
  rw [if_pos q]
  decide
/-! indices -/
theorem oh_nat {i : Int32} {l u : Int} (h : rg i l u) (hl : 0 ≤ l) : (i.toNatClampNeg : Int) = i.toInt := by
  obtain ⟨a1, a2⟩ := h
  show ((i.toInt.toNat : Nat) : Int) = i.toInt
  omega
/-- a place in a row of rows of width W: which column -/
theorem oh_col {b cc w : Int32} {u lc uc : Int} {W : Nat} (hb : rg b 0 u) (hw : w.toInt = (W : Int)) (hc : rg cc lc uc) (hd : decide (0 ≤ lc ∧ uc < (W : Int) ∧ u * W + uc ≤ 2147483647 ∧ 0 ≤ u) = true) : (b * w + cc).toNatClampNeg % W = cc.toNatClampNeg := by
  have h2 := of_decide_eq_true hd
  obtain ⟨b1, b2⟩ := hb
  obtain ⟨c1, c2⟩ := hc
  have hW : (0 : Int) ≤ (W : Int) := Int.natCast_nonneg W
  have m1 : 0 ≤ b.toInt * (W : Int) := Int.mul_nonneg b1 hW
  have m2 : b.toInt * (W : Int) ≤ u * (W : Int) := Int.mul_le_mul_of_nonneg_right b2 hW
  have e1 : (b * w).toInt = b.toInt * (W : Int) := by rw [Int32.toInt_mul, hw, oh_bmod (by omega) (by omega)]
  have e2 : (b * w + cc).toInt = b.toInt * (W : Int) + cc.toInt := by rw [Int32.toInt_add, e1, oh_bmod (by omega) (by omega)]
  have e3 : (b * w + cc).toNatClampNeg = b.toInt.toNat * W + cc.toInt.toNat := by
    show (b * w + cc).toInt.toNat = _
    rw [e2]
    have : ((b.toInt.toNat * W + cc.toInt.toNat : Nat) : Int) = b.toInt * (W : Int) + cc.toInt := by
      rw [Int.natCast_add, Int.natCast_mul, Int.toNat_of_nonneg b1, Int.toNat_of_nonneg (by omega)]
    omega
  rw [e3, Nat.mul_comm, Nat.mul_add_mod]
  exact Nat.mod_eq_of_lt (by show cc.toInt.toNat < W; omega)
/-! types of cells -/
def bdl (L : List (Int × Int)) (c : Nat) : Int := (L.getD c (-2147483648, 2147483647)).1
def bdh (L : List (Int × Int)) (c : Nat) : Int := (L.getD c (-2147483648, 2147483647)).2
def tA (cA : ClassId) (n W : Nat) (L : List (Int × Int)) (c : va_E) : Prop := c = .inl (cA, n, .inl (ga c)) ∧ ∀ j, j < n → rg (ga c j) (bdl L (j % W)) (bdh L (j % W))
def tB (cA : ClassId) (n : Nat) (c : va_E) : Prop := c = .inl (cA, n, .inr (.inl (gb c)))
abbrev qf (a : Nat → Nat) (n b : Nat) : Nat → Option Nat := fun i => if i < n then some (a (b + i)) else none
theorem tA_upd {cA : ClassId} {n W : Nat} {L : List (Int × Int)} {c : va_E} (h : tA cA n W L c) {i : Int32} {v : Int32} (hv : rg v (bdl L (i.toNatClampNeg % W)) (bdh L (i.toNatClampNeg % W))) : tA cA n W L (.inl (cA, n, .inl (upd (ga c) i.toNatClampNeg v))) := by
  refine ⟨rfl, fun j hj => ?_⟩
  show rg (upd (ga c) i.toNatClampNeg v j) _ _
  by_cases e : j = i.toNatClampNeg
  · rw [e, pk_us]
    exact hv
  · rw [pk_un e]
    exact h.2 j hj
theorem tA_cpy {cA : ClassId} {n W : Nat} {L : List (Int × Int)} {c d : va_E} (h : tA cA n W L c) (hd : tA cA n W L d) : tA cA n W L (.inl (cA, n, .inl (va_cpy (ga c) (ga d) 0 0 n))) := by
  refine ⟨rfl, fun j hj => ?_⟩
  show rg (va_cpy (ga c) (ga d) 0 0 n j) _ _
  unfold va_cpy
  rw [if_pos ⟨Nat.zero_le _, by omega⟩]
  have := h.2 j hj
  simpa using this
theorem tA_rd {cA : ClassId} {n W : Nat} {L : List (Int × Int)} {c : va_E} (h : tA cA n W L c) {i : Int32} (hin : vp_in i n) : rg (ga c i.toNatClampNeg) (bdl L (i.toNatClampNeg % W)) (bdh L (i.toNatClampNeg % W)) := h.2 _ (Nat.not_le.mp fun q => hin (Or.inr q))
theorem tA_rdc {cA : ClassId} {n W k : Nat} {L : List (Int × Int)} {c : va_E} (h : tA cA n W L c) {i : Int32} (hin : vp_in i n) (hk : i.toNatClampNeg % W = k) {lo hi : Int} (hd : decide (lo ≤ bdl L k ∧ bdh L k ≤ hi) = true) : rg (ga c i.toNatClampNeg) lo hi := by
  have h1 := tA_rd h hin
  rw [hk] at h1
  exact rg_w h1 hd
theorem tA_stc {W k : Nat} {L : List (Int × Int)} {i v : Int32} {lo hi : Int} (hk : i.toNatClampNeg % W = k) (hv : rg v lo hi) (hd : decide (bdl L k ≤ lo ∧ hi ≤ bdh L k) = true) : rg v (bdl L (i.toNatClampNeg % W)) (bdh L (i.toNatClampNeg % W)) := by
  rw [hk]
  exact rg_w hv hd
/-- a column that nothing is said of -/
theorem tA_sth {W : Nat} {L : List (Int × Int)} {i v c : Int32} {l u : Int} (hk : i.toNatClampNeg % W = c.toNatClampNeg) (hc : rg c l u) (hd : decide (0 ≤ l ∧ (L.length : Int) ≤ l) = true) : rg v (bdl L (i.toNatClampNeg % W)) (bdh L (i.toNatClampNeg % W)) := by
  have h2 := of_decide_eq_true hd
  have h3 := oh_nat hc h2.1
  have h4 : L.length ≤ c.toNatClampNeg := by have := hc.1; omega
  have h5 : L.getD c.toNatClampNeg (-2147483648, 2147483647) = (-2147483648, 2147483647) := by
    rw [List.getD_eq_getElem?_getD, List.getElem?_eq_none h4]
    rfl
  rw [hk]
  unfold bdl bdh
  rw [h5]
  exact rg_any v
/-! what a method leaves as it was: cells outside the ranges mc (but the first cell), and the first cell's fields outside mf -/
def inR (l : List (Nat × Nat)) (k : Nat) : Bool := l.any (fun p => Nat.ble p.1 k && Nat.blt k p.2)
def fr (mc : List (Nat × Nat)) (mf : List Nat) (C u : Nat → va_E) : Prop := (∀ k, inR mc k = false → k ≠ 0 → u k = C k) ∧ ∀ i, i ∉ mf → gv (u 0) i = gv (C 0) i
theorem fr_rf {mc : List (Nat × Nat)} {mf : List Nat} {C : Nat → va_E} : fr mc mf C C := ⟨fun _ _ _ => rfl, fun _ _ => rfl⟩
theorem fr_st {mc : List (Nat × Nat)} {mf : List Nat} {C0 C : Nat → va_E} {k : Nat} {x : va_E} (h : fr mc mf C0 C) (hk : k ≠ 0) (hm : inR mc k = true) : fr mc mf C0 (updc C k x) := by
  refine ⟨fun i hi h0 => ?_, fun i hi => ?_⟩
  · rw [updc_ne (fun e => by rw [e, hm] at hi; cases hi)]
    exact h.1 i hi h0
  · rw [updc_ne (Ne.symm hk)]
    exact h.2 i hi
theorem fr_fd {mc : List (Nat × Nat)} {mf : List Nat} {C0 C : Nat → va_E} {ci j : Nat} {fs : List Value} {v : Value} (h : fr mc mf C0 C) (hs : C 0 = .inr (ci, fs)) (hj : j ∈ mf) : fr mc mf C0 (updc C 0 (.inr (ci, fs.set j v))) := by
  refine ⟨fun i hi h0 => ?_, fun i hi => ?_⟩
  · rw [updc_ne h0]
    exact h.1 i hi h0
  · rw [updc_eq, ← h.2 i hi, hs]
    have hne : j ≠ i := fun e => hi (e ▸ hj)
    show (fs.set j v).getD i .null = fs.getD i .null
    rw [List.getD_eq_getElem?_getD, List.getD_eq_getElem?_getD, List.getElem?_set_ne hne]
theorem inR_of {l : List (Nat × Nat)} {k : Nat} {p : Nat × Nat} (hp : p ∈ l) (h1 : p.1 ≤ k) (h2 : k < p.2) : inR l k = true := by
  unfold inR
  rw [List.any_eq_true]
  refine ⟨p, hp, ?_⟩
  rw [Bool.and_eq_true]
  exact ⟨Nat.ble_eq.mpr h1, by rw [Nat.blt_eq]; exact h2⟩
theorem inR_sub {l1 l2 : List (Nat × Nat)} (h : l1.all (fun p => l2.any (fun q => Nat.ble q.1 p.1 && Nat.ble p.2 q.2)) = true) {k : Nat} (hk : inR l1 k = true) : inR l2 k = true := by
  unfold inR at hk
  rw [List.any_eq_true] at hk
  obtain ⟨p, hp, h1⟩ := hk
  rw [Bool.and_eq_true, Nat.ble_eq, Nat.blt_eq] at h1
  have h2 := List.all_eq_true.mp h p hp
  rw [List.any_eq_true] at h2
  obtain ⟨q, hq, h3⟩ := h2
  rw [Bool.and_eq_true, Nat.ble_eq, Nat.ble_eq] at h3
  exact inR_of hq (Nat.le_trans h3.1 h1.1) (Nat.lt_of_lt_of_le h1.2 h3.2)
theorem fr_tr {mc mc2 : List (Nat × Nat)} {mf mf2 : List Nat} {C0 C u : Nat → va_E} (h : fr mc mf C0 C) (h2 : fr mc2 mf2 C u) (hs : mc2.all (fun p => mc.any (fun q => Nat.ble q.1 p.1 && Nat.ble p.2 q.2)) = true) (hf : mf2.all (fun i => mf.contains i) = true) : fr mc mf C0 u := by
  refine ⟨fun k hk h0 => ?_, fun i hi => ?_⟩
  · have h3 : inR mc2 k = false := by
      cases e : inR mc2 k with
      | false => rfl
      | true => rw [inR_sub hs e] at hk; cases hk
    exact (h2.1 k h3 h0).trans (h.1 k hk h0)
  · have h3 : i ∉ mf2 := fun e => hi (by simpa using List.all_eq_true.mp hf i e)
    exact (h2.2 i h3).trans (h.2 i hi)
theorem th_un {C C2 : Nat → va_E} {k i : Nat} {x : va_E} (e : C2 = updc C k x) (h : i ≠ k) : C2 i = C i := by rw [e]; exact updc_ne h
theorem oh_nb {r : Int32} (h : r = 0 ∨ r = 1) : narrow .boolean (.int r) = .int r := by
  rcases h with h | h <;> subst h <;> rfl
/-! counters -/
theorem mu_up {x : Int32} {l u : Int} (K : Int) (h : rg x l u) (hd : decide (u < K ∧ u < 2147483647 ∧ -2147483648 ≤ l) = true) : (K - (x + 1).toInt).toNat < (K - x.toInt).toNat := by
  have h2 := of_decide_eq_true hd
  obtain ⟨a1, a2⟩ := h
  have e : (x + 1).toInt = x.toInt + 1 := by rw [Int32.toInt_add]; exact oh_bmod (by show _ ≤ x.toInt + 1; omega) (by show x.toInt + 1 ≤ _; omega)
  omega
theorem mu_dn {x : Int32} {l u : Int} (h : rg x l u) (hd : decide (0 ≤ l ∧ u ≤ 2147483647) = true) : ((x + (-1)).toInt + 1).toNat < (x.toInt + 1).toNat := by
  have h2 := of_decide_eq_true hd
  obtain ⟨a1, a2⟩ := h
  have e : (x + (-1)).toInt = x.toInt - 1 := by rw [Int32.toInt_add]; exact oh_bmod (by show _ ≤ x.toInt + (-1); omega) (by show x.toInt + (-1) ≤ _; omega)
  omega
section TH
variable {p : Program} {l : Launch} {e : Env} {R : Room} {s : State} {m : MethodId} {args : Array Value} {below : List Frame} {meth : Method} {c : Code} {H : Heap} {locs : List Loc} {cells slots : Nat} {Q : State → Prop}
variable {cc bytes : ByteArray} {pc nL maxL mc ms n nn index b : Nat} {ls : Array Slot} {st0 rest As : List Value} {D : va_G} {E : Nat → ClassId} {G : Nat → Nat} {A : Nat → Prop} {own CN host : String} {y : MethodName} {ret : Option FieldType} {rm : Room} {a : Nat → Nat} {C : Nat → va_E} {H0 : Heap}
theorem oh_genQ (h : ∀ Q' : State → Prop, Q' = Q → W p l e R s m args below meth c H locs cells slots Q' (F0 m pc ls st0)) : W p l e R s m args below meth c H locs cells slots Q (F0 m pc ls st0) := h Q rfl
theorem th_iald (hexec : p.tables.exec = Jvm.exec) (hb : c.code = cc) (hK : va_K D vwCl (oh_ty E) s) (hP : va_P D vwCl (oh_W n a C) H) (k : Nat) (hk : k < n) {N : Nat} {f : Nat → Int32} (hs : C k = .inl (E 0, N, .inl f)) {i : Int32} (hin : vp_in i N) (hdg : decode cc pc = .ok (.iaload, 1))
    (kk : W p l e R s m args below meth c H locs cells slots Q (F0 m (pc + 1) ls (.int (f i.toNatClampNeg) :: rest))) : W p l e R s m args below meth c H locs cells slots Q (F0 m pc ls (.int i :: .ref (a k) :: rest)) := va_iald hexec hb hK hP k 0 (oh_wg hk hs) rfl hin hdg kk
theorem th_lald (hexec : p.tables.exec = Jvm.exec) (hb : c.code = cc) (hK : va_K D vwCl (oh_ty E) s) (hP : va_P D vwCl (oh_W n a C) H) (k : Nat) (hk : k < n) {N : Nat} {f : Nat → Int64} (hs : C k = .inl (E 1, N, .inr (.inl f))) {i : Int32} (hin : vp_in i N) (hdg : decode cc pc = .ok (.laload, 1))
    (kk : W p l e R s m args below meth c H locs cells slots Q (F0 m (pc + 1) ls (.long (f i.toNatClampNeg) :: rest))) : W p l e R s m args below meth c H locs cells slots Q (F0 m pc ls (.int i :: .ref (a k) :: rest)) := va_lald hexec hb hK hP k 1 (oh_wg hk hs) rfl hin hdg kk
theorem th_aald (hexec : p.tables.exec = Jvm.exec) (hb : c.code = cc) (hK : va_K D vwCl (oh_ty E) s) (hP : va_P D vwCl (oh_W n a C) H) (k t0 : Nat) (hk : k < n) {cA : ClassId} {ty : FieldType} {N bs : Nat} (hs : C k = .inl (cA, N, .inr (.inr (.inr (.inr (qf a N bs)))))) (ht : (oh_ty E)[t0]? = some (cA, .array ty)) {i : Int32} (hin : vp_in i N) (hdg : decode cc pc = .ok (.aaload, 1))
    (kk : W p l e R s m args below meth c H locs cells slots Q (F0 m (pc + 1) ls (.ref (a (bs + i.toNatClampNeg)) :: rest))) : W p l e R s m args below meth c H locs cells slots Q (F0 m pc ls (.int i :: .ref (a k) :: rest)) := oh_aald hexec hb hK hP k t0 (oh_wg hk hs) ht hin (if_pos (Nat.not_le.mp fun q => hin (Or.inr q))) hdg kk
theorem th_iast {T Rl : (Nat → va_E) → Prop} (hexec : p.tables.exec = Jvm.exec) (hb : c.code = cc) (hK : va_K D vwCl (oh_ty E) s) (hP : va_P D vwCl (oh_W n a C) H) (hD : va_D A (oh_W n a C)) (hS : va_S A H0 H locs) (k : Nat) (hk : k < n) {N : Nat} {f : Nat → Int32} (hs : C k = .inl (E 0, N, .inl f)) {i x : Int32} (hin : vp_in i N) (hT : T (updc C k (.inl (E 0, N, .inl (upd f i.toNatClampNeg x))))) (hR : Rl (updc C k (.inl (E 0, N, .inl (upd f i.toNatClampNeg x))))) (hdg : decode cc pc = .ok (.iastore, 1))
    (kk : ∀ (C2 : Nat → va_E) (H1 : Heap) (locs1 : List Loc), C2 = updc C k (.inl (E 0, N, .inl (upd f i.toNatClampNeg x))) → T C2 → Rl C2 → va_P D vwCl (oh_W n a C2) H1 → va_D A (oh_W n a C2) → va_S A H0 H1 locs1 → W p l e R s m args below meth c H1 locs1 cells slots Q (F0 m (pc + 1) ls rest)) : W p l e R s m args below meth c H locs cells slots Q (F0 m pc ls (.int x :: .int i :: .ref (a k) :: rest)) :=
  va_iast hexec hb hK hP hD hS k 0 (oh_wg hk hs) rfl hin hdg (fun H1 locs1 p1 d1 s1 => kk _ H1 locs1 rfl hT hR (by rw [← oh_ws hk]; exact p1) (by rw [← oh_ws hk]; exact d1) s1)
theorem th_last {T Rl : (Nat → va_E) → Prop} (hexec : p.tables.exec = Jvm.exec) (hb : c.code = cc) (hK : va_K D vwCl (oh_ty E) s) (hP : va_P D vwCl (oh_W n a C) H) (hD : va_D A (oh_W n a C)) (hS : va_S A H0 H locs) (k : Nat) (hk : k < n) {N : Nat} {f : Nat → Int64} (hs : C k = .inl (E 1, N, .inr (.inl f))) {i : Int32} {x : Int64} (hin : vp_in i N) (hT : T (updc C k (.inl (E 1, N, .inr (.inl (vp_updL f i.toNatClampNeg x)))))) (hR : Rl (updc C k (.inl (E 1, N, .inr (.inl (vp_updL f i.toNatClampNeg x)))))) (hdg : decode cc pc = .ok (.lastore, 1))
    (kk : ∀ (C2 : Nat → va_E) (H1 : Heap) (locs1 : List Loc), C2 = updc C k (.inl (E 1, N, .inr (.inl (vp_updL f i.toNatClampNeg x)))) → T C2 → Rl C2 → va_P D vwCl (oh_W n a C2) H1 → va_D A (oh_W n a C2) → va_S A H0 H1 locs1 → W p l e R s m args below meth c H1 locs1 cells slots Q (F0 m (pc + 1) ls rest)) : W p l e R s m args below meth c H locs cells slots Q (F0 m pc ls (.long x :: .int i :: .ref (a k) :: rest)) :=
  va_last hexec hb hK hP hD hS k 1 (oh_wg hk hs) rfl hin hdg (fun H1 locs1 p1 d1 s1 => kk _ H1 locs1 rfl hT hR (by rw [← oh_ws hk]; exact p1) (by rw [← oh_ws hk]; exact d1) s1)
theorem th_put {Tp Rl : (Nat → va_E) → Prop} (hexec : p.tables.exec = Jvm.exec) (hb : c.code = cc) {ref CC : String} {T : u_T} {N ci : Nat} {Ts : List Cond} (hts : ∀ w ∈ Ts, w.before args s = true) (hin : ∀ w ∈ u_ws CC T N, w ∈ Ts) (ty0 : Nat → FieldType) (hty : ∀ k, k < N → parseFieldDescriptor (T k).2.2.1 = some (ty0 k)) (hnm : ∀ a, a < N → ∀ b, b < N → a ≠ b → (T a).2.1 ≠ (T b).2.1) (hown : s.vm.findClass own = some m.cls) (hK : va_K D vwCl (oh_ty E) s) (hP : va_P D vwCl (oh_W n a C) H) (hD : va_D A (oh_W n a C)) (hS : va_S A H0 H locs) (k : Nat) (hk : k < n) {fs : List Value} (hs : C k = .inr (ci, fs)) (hc : vwCl[ci]? = some (CC, T, N)) (j : Nat) (hj : j < N) (hlink : (Cond.fieldLink own index ref (T j).2.1 (T j).2.2.1).before args s = true) (hsame : ∀ x, s.fieldFound? (T j).1 (T j).2.1 (T j).2.2.1 = some x → s.fieldFound? ref (T j).2.1 (T j).2.2.1 = some x) (hfin : (T j).2.2.2 = false) {ty : FieldType} {v : Value} (hd : parseFieldDescriptor (T j).2.2.1 = some ty) (hn : narrow ty v = v) (hfit : fits ty v = true) (hl : j < fs.length)
    (hT : Tp (updc C k (.inr (ci, fs.set j v)))) (hR : Rl (updc C k (.inr (ci, fs.set j v)))) (hdg : decode cc pc = .ok (.putfield index, 3)) (kk : ∀ (C2 : Nat → va_E) (H1 : Heap) (locs1 : List Loc), C2 = updc C k (.inr (ci, fs.set j v)) → Tp C2 → Rl C2 → va_P D vwCl (oh_W n a C2) H1 → va_D A (oh_W n a C2) → va_S A H0 H1 locs1 → W p l e R s m args below meth c H1 locs1 cells slots Q (F0 m (pc + 3) ls rest)) : W p l e R s m args below meth c H locs cells slots Q (F0 m pc ls (v :: .ref (a k) :: rest)) :=
  va_put hexec hb hts hin ty0 hty hnm hown hK hP hD hS k (oh_wg hk hs) hc j hj hlink hsame hfin hd hn hfit hl hdg (fun H1 locs1 p1 d1 s1 => kk _ H1 locs1 rfl hT hR (by rw [← oh_ws hk]; exact p1) (by rw [← oh_ws hk]; exact d1) s1)
/-- reading methods: a property of the answer -/
theorem tq_V {post : Int32 → Prop} {ws : va_W} (S : CallFix p m c cc nL s args oh_t own) (hM : Met l y (oh_w y bytes maxL ret) rm (oh_Pp D E G (.ref b :: As) ws) (vp_Si post) 0 0 (fun _ => False)) (cw : CallW R s args own CN index y bytes maxL ret (oh_w y bytes maxL ret) rm 0 0 nn) (hK : va_K D vwCl (oh_ty E) s) (hP : va_P D vwCl ws H) (hG : oh_G G A s) (hS : va_S A s.heap H locs) (hrec : ∃ cell : Cell, H[b]? = some cell ∧ cell.vm.isStatics = false ∧ s.vm.findClass CN = some cell.cls)
    (hn : As.length = nn) (hsize : ls.size = nL) (hst : st0 = As.reverse ++ .ref b :: rest) (hW : (rest.map fun v => v.category).sum ≤ 8) (hdg : decode cc pc = .ok (.invokevirtual index, 3)) (hf : cells ≤ R.cells ∧ slots ≤ R.slots)
    (kk : ∀ r : Int32, post r → W p l e R s m args below meth c H locs cells slots Q (F0 m (pc + 3) ls (.int r :: rest))) : W p l e R s m args below meth c H locs cells slots Q (F0 m pc ls st0) :=
  vp_callSi (va_Run.run (va_runV (As := As) (rest := rest) S hM cw ⟨oh_blp, hrec, oh_pre hK hP hG hS (.ref b :: As)⟩ rfl hn hsize hst (lv_room hW) hdg hf)) kk
theorem tq_Vl {post : Int64 → Prop} {ws : va_W} (S : CallFix p m c cc nL s args oh_t own) (hM : Met l y (oh_w y bytes maxL ret) rm (oh_Pp D E G (.ref b :: As) ws) (vp_Sl post) 0 0 (fun _ => False)) (cw : CallW R s args own CN index y bytes maxL ret (oh_w y bytes maxL ret) rm 0 0 nn) (hK : va_K D vwCl (oh_ty E) s) (hP : va_P D vwCl ws H) (hG : oh_G G A s) (hS : va_S A s.heap H locs) (hrec : ∃ cell : Cell, H[b]? = some cell ∧ cell.vm.isStatics = false ∧ s.vm.findClass CN = some cell.cls)
    (hn : As.length = nn) (hsize : ls.size = nL) (hst : st0 = As.reverse ++ .ref b :: rest) (hW : (rest.map fun v => v.category).sum ≤ 8) (hdg : decode cc pc = .ok (.invokevirtual index, 3)) (hf : cells ≤ R.cells ∧ slots ≤ R.slots)
    (kk : ∀ r : Int64, post r → W p l e R s m args below meth c H locs cells slots Q (F0 m (pc + 3) ls (.long r :: rest))) : W p l e R s m args below meth c H locs cells slots Q (F0 m pc ls st0) :=
  vp_callSl (va_Run.run (va_runV (As := As) (rest := rest) S hM cw ⟨oh_blp, hrec, oh_pre hK hP hG hS (.ref b :: As)⟩ rfl hn hsize hst (lv_room hW) hdg hf)) kk
theorem tq_S {post : Int32 → Prop} {ws : va_W} (S : CallFix p m c cc nL s args oh_t own) (hM : Met l y (oh_w y bytes maxL ret) rm (oh_Pp D E G As ws) (vp_Si post) 0 0 (fun _ => False)) (cw : CallB R s args own index y bytes maxL ret (oh_w y bytes maxL ret) rm 0 0 nn ∧ (Cond.static y).before args s = true) (hK : va_K D vwCl (oh_ty E) s) (hP : va_P D vwCl ws H) (hG : oh_G G A s) (hS : va_S A s.heap H locs)
    (hn : As.length = nn) (hsize : ls.size = nL) (hst : st0 = As.reverse ++ rest) (hW : (rest.map fun v => v.category).sum ≤ 8) (hdg : decode cc pc = .ok (.invokestatic index, 3)) (hf : cells ≤ R.cells ∧ slots ≤ R.slots)
    (kk : ∀ r : Int32, post r → W p l e R s m args below meth c H locs cells slots Q (F0 m (pc + 3) ls (.int r :: rest))) : W p l e R s m args below meth c H locs cells slots Q (F0 m pc ls st0) :=
  vp_callSi (va_Run.run (va_runS (As := As) (rest := rest) S hM cw ⟨oh_blp, oh_pre hK hP hG hS As⟩ rfl hn hsize hst (lv_room hW) hdg hf)) kk
theorem tq_Sl {post : Int64 → Prop} {ws : va_W} (S : CallFix p m c cc nL s args oh_t own) (hM : Met l y (oh_w y bytes maxL ret) rm (oh_Pp D E G As ws) (vp_Sl post) 0 0 (fun _ => False)) (cw : CallB R s args own index y bytes maxL ret (oh_w y bytes maxL ret) rm 0 0 nn ∧ (Cond.static y).before args s = true) (hK : va_K D vwCl (oh_ty E) s) (hP : va_P D vwCl ws H) (hG : oh_G G A s) (hS : va_S A s.heap H locs)
    (hn : As.length = nn) (hsize : ls.size = nL) (hst : st0 = As.reverse ++ rest) (hW : (rest.map fun v => v.category).sum ≤ 8) (hdg : decode cc pc = .ok (.invokestatic index, 3)) (hf : cells ≤ R.cells ∧ slots ≤ R.slots)
    (kk : ∀ r : Int64, post r → W p l e R s m args below meth c H locs cells slots Q (F0 m (pc + 3) ls (.long r :: rest))) : W p l e R s m args below meth c H locs cells slots Q (F0 m pc ls st0) :=
  vp_callSl (va_Run.run (va_runS (As := As) (rest := rest) S hM cw ⟨oh_blp, oh_pre hK hP hG hS As⟩ rfl hn hsize hst (lv_room hW) hdg hf)) kk
theorem tq_SN {post : Int32 → Prop} {ws : va_W} (S : CallFix p m c cc nL s args oh_t own) (hM : Met l y (oh_w y bytes maxL ret) rm (oh_Pp D E G As ws) (vp_Si post) 0 0 (fun _ => False)) (cw : va_CN R s args own index y host bytes maxL ret (oh_w y bytes maxL ret) rm 0 0 nn ∧ (Cond.static y).before args s = true ∧ True) (hK : va_K D vwCl (oh_ty E) s) (hP : va_P D vwCl ws H) (hG : oh_G G A s) (hS : va_S A s.heap H locs)
    (hn : As.length = nn) (hsize : ls.size = nL) (hst : st0 = As.reverse ++ rest) (hW : (rest.map fun v => v.category).sum ≤ 8) (hdg : decode cc pc = .ok (.invokestatic index, 3)) (hf : cells ≤ R.cells ∧ slots ≤ R.slots)
    (kk : ∀ r : Int32, post r → W p l e R s m args below meth c H locs cells slots Q (F0 m (pc + 3) ls (.int r :: rest))) : W p l e R s m args below meth c H locs cells slots Q (F0 m pc ls st0) :=
  vp_callSi (va_Run.run (va_runSN (As := As) (rest := rest) S hM cw ⟨oh_blp, oh_pre hK hP hG hS As⟩ rfl hn hsize hst (lv_room hW) hdg hf)) kk
/-- writing methods over the whole world -/
abbrev tQi (D : va_G) (n : Nat) (a : Nat → Nat) (C : Nat → va_E) (sz : Nat) (post : Int32 → (Nat → va_E) → Prop) := va_Qi post (oh_B D (va_A (oh_W n a C) sz) (fun u => oh_W n a u)) (va_A (oh_W n a C) sz)
abbrev tQl (D : va_G) (n : Nat) (a : Nat → Nat) (C : Nat → va_E) (sz : Nat) (post : Int64 → (Nat → va_E) → Prop) := va_Ql post (oh_B D (va_A (oh_W n a C) sz) (fun u => oh_W n a u)) (va_A (oh_W n a C) sz)
abbrev tQv (D : va_G) (n : Nat) (a : Nat → Nat) (C : Nat → va_E) (sz : Nat) (post : (Nat → va_E) → Prop) := va_Qv post (oh_B D (va_A (oh_W n a C) sz) (fun u => oh_W n a u)) (va_A (oh_W n a C) sz)
theorem oh_allp {w : va_W} : (List.range w.length).map (fun i => w[i]?) = w.map some := by
  apply List.ext_getElem?
  intro i
  rw [List.getElem?_map, List.getElem?_map]
  by_cases h : i < w.length
  · rw [List.getElem?_range h, List.getElem?_eq_getElem h]
    simp
  · rw [List.getElem?_eq_none (by rw [List.length_range]; omega), List.getElem?_eq_none (by omega)]
    rfl
theorem oh_free {w : va_W} (hD : va_D A w) (hS : va_S A H0 H locs) (hA : ∀ q, H0.size ≤ q → A q) : ∀ q, va_A w H.size q → A q := va_free hD hS hA _ oh_allp
theorem tm_V {post : Int32 → (Nat → va_E) → Prop} (Sx : CallFix p m c cc nL s args oh_t own) (hM : Met l y (oh_w y bytes maxL ret) rm (oh_Pm D E G (.ref b :: As) (oh_W n a C) H.size) (tQi D n a C H.size post) mc ms (va_A (oh_W n a C) H.size)) (cw : CallW R s args own CN index y bytes maxL ret (oh_w y bytes maxL ret) rm mc ms nn) (hK : va_K D vwCl (oh_ty E) s) (hP : va_P D vwCl (oh_W n a C) H) (hD : va_D A (oh_W n a C)) (hG : oh_G G A s) (hS : va_S A s.heap H locs) (hA : ∀ q, s.heap.size ≤ q → A q) (hrec : ∃ cell : Cell, H[b]? = some cell ∧ cell.vm.isStatics = false ∧ s.vm.findClass CN = some cell.cls)
    (hn : As.length = nn) (hsize : ls.size = nL) (hst : st0 = As.reverse ++ .ref b :: rest) (hW : (rest.map fun v => v.category).sum ≤ 8) (hdg : decode cc pc = .ok (.invokevirtual index, 3)) (hf : cells + mc ≤ R.cells ∧ slots + ms ≤ R.slots)
    (kk : ∀ (r : Int32) (u : Nat → va_E) (H1 : Heap) (locs1 : List Loc), post r u → va_P D vwCl (oh_W n a u) H1 → va_D A (oh_W n a u) → va_S A s.heap H1 locs1 → W p l e R s m args below meth c H1 locs1 (cells + mc) (slots + ms) Q (F0 m (pc + 3) ls (.int r :: rest))) : W p l e R s m args below meth c H locs cells slots Q (F0 m pc ls st0) := by
  have hF := oh_free hD hS hA
  exact va_calli (va_runV (As := As) (rest := rest) Sx hM cw ⟨oh_blm, hrec, oh_prm hK hP hD hG hS hF (.ref b :: As)⟩ rfl hn hsize hst (lv_room hW) hdg hf) hS (fun q _ h => hF q h) hF (fun r u t H1 locs1 ht hvm hw hB hz1 hk1 hS1 => kk r u H1 locs1 hw (by rw [← ht]; exact hB.1) (hB.2.weaken (fun k q _ h => hF _ h)) hS1)
theorem tm_Vl {post : Int64 → (Nat → va_E) → Prop} (Sx : CallFix p m c cc nL s args oh_t own) (hM : Met l y (oh_w y bytes maxL ret) rm (oh_Pm D E G (.ref b :: As) (oh_W n a C) H.size) (tQl D n a C H.size post) mc ms (va_A (oh_W n a C) H.size)) (cw : CallW R s args own CN index y bytes maxL ret (oh_w y bytes maxL ret) rm mc ms nn) (hK : va_K D vwCl (oh_ty E) s) (hP : va_P D vwCl (oh_W n a C) H) (hD : va_D A (oh_W n a C)) (hG : oh_G G A s) (hS : va_S A s.heap H locs) (hA : ∀ q, s.heap.size ≤ q → A q) (hrec : ∃ cell : Cell, H[b]? = some cell ∧ cell.vm.isStatics = false ∧ s.vm.findClass CN = some cell.cls)
    (hn : As.length = nn) (hsize : ls.size = nL) (hst : st0 = As.reverse ++ .ref b :: rest) (hW : (rest.map fun v => v.category).sum ≤ 8) (hdg : decode cc pc = .ok (.invokevirtual index, 3)) (hf : cells + mc ≤ R.cells ∧ slots + ms ≤ R.slots)
    (kk : ∀ (r : Int64) (u : Nat → va_E) (H1 : Heap) (locs1 : List Loc), post r u → va_P D vwCl (oh_W n a u) H1 → va_D A (oh_W n a u) → va_S A s.heap H1 locs1 → W p l e R s m args below meth c H1 locs1 (cells + mc) (slots + ms) Q (F0 m (pc + 3) ls (.long r :: rest))) : W p l e R s m args below meth c H locs cells slots Q (F0 m pc ls st0) := by
  have hF := oh_free hD hS hA
  exact va_calll (va_runV (As := As) (rest := rest) Sx hM cw ⟨oh_blm, hrec, oh_prm hK hP hD hG hS hF (.ref b :: As)⟩ rfl hn hsize hst (lv_room hW) hdg hf) hS (fun q _ h => hF q h) hF (fun r u t H1 locs1 ht hvm hw hB hz1 hk1 hS1 => kk r u H1 locs1 hw (by rw [← ht]; exact hB.1) (hB.2.weaken (fun k q _ h => hF _ h)) hS1)
theorem tm_Vv {post : (Nat → va_E) → Prop} (Sx : CallFix p m c cc nL s args oh_t own) (hM : Met l y (oh_w y bytes maxL ret) rm (oh_Pm D E G (.ref b :: As) (oh_W n a C) H.size) (tQv D n a C H.size post) mc ms (va_A (oh_W n a C) H.size)) (cw : CallW R s args own CN index y bytes maxL ret (oh_w y bytes maxL ret) rm mc ms nn) (hK : va_K D vwCl (oh_ty E) s) (hP : va_P D vwCl (oh_W n a C) H) (hD : va_D A (oh_W n a C)) (hG : oh_G G A s) (hS : va_S A s.heap H locs) (hA : ∀ q, s.heap.size ≤ q → A q) (hrec : ∃ cell : Cell, H[b]? = some cell ∧ cell.vm.isStatics = false ∧ s.vm.findClass CN = some cell.cls)
    (hn : As.length = nn) (hsize : ls.size = nL) (hst : st0 = As.reverse ++ .ref b :: rest) (hW : (rest.map fun v => v.category).sum ≤ 8) (hdg : decode cc pc = .ok (.invokevirtual index, 3)) (hf : cells + mc ≤ R.cells ∧ slots + ms ≤ R.slots)
    (kk : ∀ (u : Nat → va_E) (H1 : Heap) (locs1 : List Loc), post u → va_P D vwCl (oh_W n a u) H1 → va_D A (oh_W n a u) → va_S A s.heap H1 locs1 → W p l e R s m args below meth c H1 locs1 (cells + mc) (slots + ms) Q (F0 m (pc + 3) ls rest)) : W p l e R s m args below meth c H locs cells slots Q (F0 m pc ls st0) := by
  have hF := oh_free hD hS hA
  exact va_callv (va_runV (As := As) (rest := rest) Sx hM cw ⟨oh_blm, hrec, oh_prm hK hP hD hG hS hF (.ref b :: As)⟩ rfl hn hsize hst (lv_room hW) hdg hf) hS (fun q _ h => hF q h) hF (fun u t H1 locs1 ht hvm hw hB hz1 hk1 hS1 => kk u H1 locs1 hw (by rw [← ht]; exact hB.1) (hB.2.weaken (fun k q _ h => hF _ h)) hS1)
theorem tm_Sv {post : (Nat → va_E) → Prop} (Sx : CallFix p m c cc nL s args oh_t own) (hM : Met l y (oh_w y bytes maxL ret) rm (oh_Pm D E G As (oh_W n a C) H.size) (tQv D n a C H.size post) mc ms (va_A (oh_W n a C) H.size)) (cw : CallB R s args own index y bytes maxL ret (oh_w y bytes maxL ret) rm mc ms nn ∧ (Cond.static y).before args s = true) (hK : va_K D vwCl (oh_ty E) s) (hP : va_P D vwCl (oh_W n a C) H) (hD : va_D A (oh_W n a C)) (hG : oh_G G A s) (hS : va_S A s.heap H locs) (hA : ∀ q, s.heap.size ≤ q → A q)
    (hn : As.length = nn) (hsize : ls.size = nL) (hst : st0 = As.reverse ++ rest) (hW : (rest.map fun v => v.category).sum ≤ 8) (hdg : decode cc pc = .ok (.invokestatic index, 3)) (hf : cells + mc ≤ R.cells ∧ slots + ms ≤ R.slots)
    (kk : ∀ (u : Nat → va_E) (H1 : Heap) (locs1 : List Loc), post u → va_P D vwCl (oh_W n a u) H1 → va_D A (oh_W n a u) → va_S A s.heap H1 locs1 → W p l e R s m args below meth c H1 locs1 (cells + mc) (slots + ms) Q (F0 m (pc + 3) ls rest)) : W p l e R s m args below meth c H locs cells slots Q (F0 m pc ls st0) := by
  have hF := oh_free hD hS hA
  exact va_callv (va_runS (As := As) (rest := rest) Sx hM cw ⟨oh_blm, oh_prm hK hP hD hG hS hF As⟩ rfl hn hsize hst (lv_room hW) hdg hf) hS (fun q _ h => hF q h) hF (fun u t H1 locs1 ht hvm hw hB hz1 hk1 hS1 => kk u H1 locs1 hw (by rw [← ht]; exact hB.1) (hB.2.weaken (fun k q _ h => hF _ h)) hS1)
end TH
