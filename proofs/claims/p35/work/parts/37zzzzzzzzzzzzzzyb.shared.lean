/-! FULL: a least sum is there or not -/
theorem lc_w {A : LA} (h : okA A) {w s f t r : Int32} (h0 : rg w 0 4) (hl : w < A 5 0 2) (hf : rg f 0 15) (ht : rg t 0 15) (e : r = lcA A w s f t 1) : r = 1000000000 ↔ ¬ hasW (EcA A w s 1) f.toNatClampNeg t.toNatClampNeg := by
  constructor
  · intro z q
    have v := lc_v h h0 hl (n := 1) ⟨by decide, by decide⟩ hf ht q
    rw [show Int32.ofNat (lsN (EcA A w s 1) f.toNatClampNeg t.toNatClampNeg) + 1 * sumA A s 1 (A 5 0 3).toNatClampNeg = lcA A w s f t 1 from (pif_pos q).symm, ← e, z] at v
    exact absurd v.2 (by decide)
  · intro q
    rw [e]
    exact pif_neg q
theorem mc_w {A : LA} (h : okA A) {w s f t r : Int32} (h0 : rg w 0 4) (hl : w < A 5 0 2) (hf : rg f 0 15) (ht : rg t 0 15) (e : r = mcA A w s f t 1) : r = -1 ↔ ¬ hasW (EcA A w s 1) f.toNatClampNeg t.toNatClampNeg := by
  constructor
  · intro z q
    have v := lc_v h h0 hl (n := 1) ⟨by decide, by decide⟩ hf ht q
    rw [show Int32.ofNat (lsN (EcA A w s 1) f.toNatClampNeg t.toNatClampNeg) + 1 * sumA A s 1 (A 5 0 3).toNatClampNeg = mcA A w s f t 1 from (pif_pos q).symm, ← e, z] at v
    exact absurd v.1 (by decide)
  · intro q
    rw [e]
    exact pif_neg q
theorem lc_r {A : LA} (h : okA A) {w s f t : Int32} (h0 : rg w 0 4) (hl : w < A 5 0 2) (hf : rg f 0 15) (ht : rg t 0 15) : rg (lcA A w s f t 1) 0 1000000000 := by
  by_cases q : hasW (EcA A w s 1) f.toNatClampNeg t.toNatClampNeg
  · rw [show lcA A w s f t 1 = _ from pif_pos q]
    exact rg_w (lc_v h h0 hl (n := 1) ⟨by decide, by decide⟩ hf ht q) (by decide)
  · rw [show lcA A w s f t 1 = _ from pif_neg q]
    exact ⟨by decide, by decide⟩
