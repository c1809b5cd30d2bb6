/-! EXACT: the reference's statements -/
theorem mn_f {f f1 : Nat → Int32} {lo hi : Int32} {p : PX} {R : Except Int32 (Int32 × PX)} (ef : f1 = f) (h : mNum f1 lo hi p = R) : mNum f lo hi p = R := ef ▸ h
theorem tn_f {f f1 : Nat → Int32} {i j : Nat} {lo hi : Int32} {p : PX} {R : Except Int32 (Int32 × PX)} (hw : sameW i j) (ef : f1 = f) (h : tNum f1 i lo hi p = R) : tNum f j lo hi p = R := by
  rw [ef, tNum_j hw] at h
  exact h
theorem pn_f {f f1 : Nat → Int32} {i j : Nat} {lo hi d d1 : Int32} {p : PX} {R : Except Int32 (Int32 × PX)} (hw : sameW i j) (ef : f1 = f) (ed : d1 = d) (h : pNum f1 i lo hi d1 p = R) : pNum f j lo hi d p = R := by
  rw [ef, ed, pNum_j hw] at h
  exact h
theorem mN_rg {f : Nat → Int32} {lo hi a : Int32} {p P : PX} (h : mNum f lo hi p = .ok (a, P)) : lo ≤ a ∧ a ≤ hi := by
  by_cases c : lo ≤ numH f p ∧ numH f p ≤ hi
  · have e : mNum f lo hi p = .ok (numH f p, xAdv f p) := pif_pos c
    rw [e] at h
    cases h
    exact c
  · have e : mNum f lo hi p = .error p.2.2.2.1 := pif_neg c
    rw [e] at h
    cases h
theorem lc0 {x y : Int64} : lg_cmp x y = 0 ↔ x = y := by
  unfold lg_cmp
  constructor
  · intro h
    split at h
    · exact absurd h (by decide)
    · split at h
      · rename_i h2
        exact h2
      · exact absurd h (by decide)
  · intro h
    rw [h, if_neg Int64.lt_irrefl, if_pos rfl]
theorem fa_eq {f : Nat → Int32} {n q t s e a : Int32} {g : Int64} (hs : rg s 0 250) (he : rg e 0 250) (hse : s.toInt ≤ e.toInt) (ht : t = 2) (hg : g = figOf f (n, q, t, s, e)) (h0 : (0 : Int32) ≤ a) (h1 : a ≤ 15) : numH f (n, q, t, s, e) = a ↔ g = Int32.toInt64 a := by
  have a0 := Int32.le_iff_toInt_le.mp h0
  have a1 := Int32.le_iff_toInt_le.mp h1
  have c0 : (0 : Int32).toInt = 0 := rfl
  have c1 : (15 : Int32).toInt = 15 := rfl
  rcases nm_eq hs he hse ht hg with ⟨-, -, h2⟩ | ⟨-, h2, h3⟩
  · rw [h2]
    constructor
    · intro h
      rw [h]
    · intro h
      have h4 := congrArg Int64.toInt h
      rw [oh_l32, oh_l32] at h4
      exact Int32.toInt_inj.mp h4
  · rw [h2, h3]
    constructor
    · intro h
      rw [← h] at a0
      have : (-1 : Int32).toInt = -1 := rfl
      omega
    · intro h
      have h4 := congrArg Int64.toInt h
      rw [oh_l32] at h4
      have : (100000 : Int64).toInt = 100000 := rfl
      omega
theorem fa_t {f : Nat → Int32} {p : PX} {a : Int32} (ht : ¬ p.2.2.1 = 2) (h0 : (0 : Int32) ≤ a) : ¬ numH f p = a := by
  intro h
  have e : numH f p = -1 := pif_neg (fun z => ht z.1)
  rw [← h, e] at h0
  exact absurd h0 (by decide)
theorem XIs_x {f : Nat → Int32} {p : PX} {i j : Nat} (hi : 0 < oh_len i) (hj : 0 < oh_len j) (hd : ¬ oh_byt i 0 = oh_byt j 0) (h1 : XIs f p i) : ¬ XIs f p j := fun h2 => hd ((h1.2.2.2 0 hi).symm.trans (h2.2.2.2 0 hj))
theorem sw_road : sameW 17 0 := ⟨by decide, by decide⟩
theorem sw_bridge : sameW 22 5 := ⟨by decide, by decide⟩
theorem sw_waggon : sameW 28 11 := ⟨by decide, by decide⟩
theorem sw_part : sameW 31 14 := ⟨by decide, by decide⟩
theorem sw_load : sameW 32 15 := ⟨by decide, by decide⟩
theorem sw_mile : sameW 33 16 := ⟨by decide, by decide⟩
theorem sw_miles : sameW 18 1 := ⟨by decide, by decide⟩
theorem sw_rise : sameW 19 2 := ⟨by decide, by decide⟩
theorem sw_turn : sameW 20 3 := ⟨by decide, by decide⟩
theorem sw_parish : sameW 21 4 := ⟨by decide, by decide⟩
theorem sw_kind : sameW 23 6 := ⟨by decide, by decide⟩
theorem sw_span : sameW 24 7 := ⟨by decide, by decide⟩
theorem sw_axle : sameW 25 8 := ⟨by decide, by decide⟩
theorem sw_all : sameW 26 9 := ⟨by decide, by decide⟩
theorem sw_prop : sameW 27 10 := ⟨by decide, by decide⟩
theorem sw_space : sameW 29 12 := ⟨by decide, by decide⟩
theorem sw_tare : sameW 30 13 := ⟨by decide, by decide⟩
theorem mr_road_e0 {f : Nat → Int32} {p : PX} {d : Int32} (e0 : mNum f 0 15 (xAdv f p) = .error d) : rdRoad f p = .error d := by
  simp only [rdRoad, exB_e e0]
theorem mr_road_e1 {f : Nat → Int32} {p P0 : PX} {v0 : Int32} (e0 : mNum f 0 15 (xAdv f p) = .ok (v0, P0)) (c : numH f P0 = v0) : rdRoad f p = .error P0.2.2.2.1 := by
  simp only [rdRoad, exB_o e0, pif_pos c]
theorem mr_road_e2 {f : Nat → Int32} {p P0 : PX} {d v0 : Int32} (e0 : mNum f 0 15 (xAdv f p) = .ok (v0, P0)) (c : ¬ numH f P0 = v0) (e2 : mNum f 0 15 P0 = .error d) : rdRoad f p = .error d := by
  simp only [rdRoad, exB_o e0, pif_neg c, exB_e e2]
theorem mr_road_e3 {f : Nat → Int32} {p P0 P2 : PX} {d v0 v2 : Int32} (e0 : mNum f 0 15 (xAdv f p) = .ok (v0, P0)) (c : ¬ numH f P0 = v0) (e2 : mNum f 0 15 P0 = .ok (v2, P2)) (e3 : tNum f 1 1 60 P2 = .error d) : rdRoad f p = .error d := by
  simp only [rdRoad, exB_o e0, pif_neg c, exB_o e2, exB_e e3]
theorem mr_road_e4 {f : Nat → Int32} {p P0 P2 P3 : PX} {d v0 v2 v3 : Int32} (e0 : mNum f 0 15 (xAdv f p) = .ok (v0, P0)) (c : ¬ numH f P0 = v0) (e2 : mNum f 0 15 P0 = .ok (v2, P2)) (e3 : tNum f 1 1 60 P2 = .ok (v3, P3)) (e4 : pNum f 2 0 9 0 P3 = .error d) : rdRoad f p = .error d := by
  simp only [rdRoad, exB_o e0, pif_neg c, exB_o e2, exB_o e3, exB_e e4]
theorem mr_road_e5 {f : Nat → Int32} {p P0 P2 P3 P4 : PX} {d v0 v2 v3 v4 : Int32} (e0 : mNum f 0 15 (xAdv f p) = .ok (v0, P0)) (c : ¬ numH f P0 = v0) (e2 : mNum f 0 15 P0 = .ok (v2, P2)) (e3 : tNum f 1 1 60 P2 = .ok (v3, P3)) (e4 : pNum f 2 0 9 0 P3 = .ok (v4, P4)) (e5 : pNum f 3 1 99 99 P4 = .error d) : rdRoad f p = .error d := by
  simp only [rdRoad, exB_o e0, pif_neg c, exB_o e2, exB_o e3, exB_o e4, exB_e e5]
theorem mr_road_e6 {f : Nat → Int32} {p P0 P2 P3 P4 P5 : PX} {d v0 v2 v3 v4 v5 : Int32} (e0 : mNum f 0 15 (xAdv f p) = .ok (v0, P0)) (c : ¬ numH f P0 = v0) (e2 : mNum f 0 15 P0 = .ok (v2, P2)) (e3 : tNum f 1 1 60 P2 = .ok (v3, P3)) (e4 : pNum f 2 0 9 0 P3 = .ok (v4, P4)) (e5 : pNum f 3 1 99 99 P4 = .ok (v5, P5)) (e6 : pNum f 4 0 15 0 P5 = .error d) : rdRoad f p = .error d := by
  simp only [rdRoad, exB_o e0, pif_neg c, exB_o e2, exB_o e3, exB_o e4, exB_o e5, exB_e e6]
theorem mr_road_ok {f : Nat → Int32} {p P0 P2 P3 P4 P5 P6 : PX} {v0 v2 v3 v4 v5 v6 : Int32} (e0 : mNum f 0 15 (xAdv f p) = .ok (v0, P0)) (c : ¬ numH f P0 = v0) (e2 : mNum f 0 15 P0 = .ok (v2, P2)) (e3 : tNum f 1 1 60 P2 = .ok (v3, P3)) (e4 : pNum f 2 0 9 0 P3 = .ok (v4, P4)) (e5 : pNum f 3 1 99 99 P4 = .ok (v5, P5)) (e6 : pNum f 4 0 15 0 P5 = .ok (v6, P6)) : rdRoad f p = .ok (rwf [v0, v2, v3, v4, v5, v6, 0], P6) := by
  simp only [rdRoad, exB_o e0, pif_neg c, exB_o e2, exB_o e3, exB_o e4, exB_o e5, exB_o e6]
theorem mr_bridge_e0 {f : Nat → Int32} {nr : Int32} {p : PX} {d : Int32} (e0 : mNum f 0 (nr - 1) (xAdv f p) = .error d) : rdBridge f nr p = .error d := by
  simp only [rdBridge, exB_e e0]
theorem mr_bridge_e1 {f : Nat → Int32} {nr : Int32} {p P0 : PX} {d v0 : Int32} (e0 : mNum f 0 (nr - 1) (xAdv f p) = .ok (v0, P0)) (e1 : tNum f 6 0 5 P0 = .error d) : rdBridge f nr p = .error d := by
  simp only [rdBridge, exB_o e0, exB_e e1]
theorem mr_bridge_e2 {f : Nat → Int32} {nr : Int32} {p P0 P1 : PX} {d v0 v1 : Int32} (e0 : mNum f 0 (nr - 1) (xAdv f p) = .ok (v0, P0)) (e1 : tNum f 6 0 5 P0 = .ok (v1, P1)) (e2 : tNum f 7 0 60 P1 = .error d) : rdBridge f nr p = .error d := by
  simp only [rdBridge, exB_o e0, exB_o e1, exB_e e2]
theorem mr_bridge_e3 {f : Nat → Int32} {nr : Int32} {p P0 P1 P2 : PX} {d v0 v1 v2 : Int32} (e0 : mNum f 0 (nr - 1) (xAdv f p) = .ok (v0, P0)) (e1 : tNum f 6 0 5 P0 = .ok (v1, P1)) (e2 : tNum f 7 0 60 P1 = .ok (v2, P2)) (e3 : tNum f 8 1 99 P2 = .error d) : rdBridge f nr p = .error d := by
  simp only [rdBridge, exB_o e0, exB_o e1, exB_o e2, exB_e e3]
theorem mr_bridge_e4 {f : Nat → Int32} {nr : Int32} {p P0 P1 P2 P3 : PX} {d v0 v1 v2 v3 : Int32} (e0 : mNum f 0 (nr - 1) (xAdv f p) = .ok (v0, P0)) (e1 : tNum f 6 0 5 P0 = .ok (v1, P1)) (e2 : tNum f 7 0 60 P1 = .ok (v2, P2)) (e3 : tNum f 8 1 99 P2 = .ok (v3, P3)) (e4 : tNum f 9 1 999 P3 = .error d) : rdBridge f nr p = .error d := by
  simp only [rdBridge, exB_o e0, exB_o e1, exB_o e2, exB_o e3, exB_e e4]
theorem mr_bridge_e5 {f : Nat → Int32} {nr : Int32} {p P0 P1 P2 P3 P4 : PX} {d v0 v1 v2 v3 v4 : Int32} (e0 : mNum f 0 (nr - 1) (xAdv f p) = .ok (v0, P0)) (e1 : tNum f 6 0 5 P0 = .ok (v1, P1)) (e2 : tNum f 7 0 60 P1 = .ok (v2, P2)) (e3 : tNum f 8 1 99 P2 = .ok (v3, P3)) (e4 : tNum f 9 1 999 P3 = .ok (v4, P4)) (e5 : rdProp f P4 = .error d) : rdBridge f nr p = .error d := by
  simp only [rdBridge, exB_o e0, exB_o e1, exB_o e2, exB_o e3, exB_o e4, exB_e e5]
theorem mr_bridge_ok {f : Nat → Int32} {nr : Int32} {p P0 P1 P2 P3 P4 P5 : PX} {v0 v1 v2 v3 v4 v5 w5 : Int32} (e0 : mNum f 0 (nr - 1) (xAdv f p) = .ok (v0, P0)) (e1 : tNum f 6 0 5 P0 = .ok (v1, P1)) (e2 : tNum f 7 0 60 P1 = .ok (v2, P2)) (e3 : tNum f 8 1 99 P2 = .ok (v3, P3)) (e4 : tNum f 9 1 999 P3 = .ok (v4, P4)) (e5 : rdProp f P4 = .ok (v5, w5, P5)) : rdBridge f nr p = .ok (rwf [v0, v1, v2, v3, v4, v5, w5, 0, 0, 0], P5) := by
  simp only [rdBridge, exB_o e0, exB_o e1, exB_o e2, exB_o e3, exB_o e4, exB_o e5]
theorem mr_wag_e0 {f : Nat → Int32} {p : PX} {d : Int32} (e0 : mNum f 2 12 (xAdv f p) = .error d) : rdWag f p = .error d := by
  simp only [rdWag, exB_e e0]
theorem mr_wag_e1 {f : Nat → Int32} {p P0 : PX} {d v0 : Int32} (e0 : mNum f 2 12 (xAdv f p) = .ok (v0, P0)) (e1 : tNum f 12 1 9 P0 = .error d) : rdWag f p = .error d := by
  simp only [rdWag, exB_o e0, exB_e e1]
theorem mr_wag_e2 {f : Nat → Int32} {p P0 P1 : PX} {d v0 v1 : Int32} (e0 : mNum f 2 12 (xAdv f p) = .ok (v0, P0)) (e1 : tNum f 12 1 9 P0 = .ok (v1, P1)) (e2 : tNum f 13 0 99 P1 = .error d) : rdWag f p = .error d := by
  simp only [rdWag, exB_o e0, exB_o e1, exB_e e2]
theorem mr_wag_ok {f : Nat → Int32} {p P0 P1 P2 : PX} {v0 v1 v2 : Int32} (e0 : mNum f 2 12 (xAdv f p) = .ok (v0, P0)) (e1 : tNum f 12 1 9 P0 = .ok (v1, P1)) (e2 : tNum f 13 0 99 P1 = .ok (v2, P2)) : rdWag f p = .ok (rwf [v0, v1, v2], P2) := by
  simp only [rdWag, exB_o e0, exB_o e1, exB_o e2]
theorem mr_part_e0 {f : Nat → Int32} {p : PX} {d : Int32} (e0 : mNum f 1 99 (xAdv f p) = .error d) : rdPart f p = .error d := by
  simp only [rdPart, exB_e e0]
theorem mr_part_e1 {f : Nat → Int32} {p P0 : PX} {d v0 : Int32} (e0 : mNum f 1 99 (xAdv f p) = .ok (v0, P0)) (e1 : mNum f 0 99 P0 = .error d) : rdPart f p = .error d := by
  simp only [rdPart, exB_o e0, exB_e e1]
theorem mr_part_ok {f : Nat → Int32} {p P0 P1 : PX} {v0 v1 : Int32} (e0 : mNum f 1 99 (xAdv f p) = .ok (v0, P0)) (e1 : mNum f 0 99 P0 = .ok (v1, P1)) : rdPart f p = .ok (rwf [v0, v1], P1) := by
  simp only [rdPart, exB_o e0, exB_o e1]
theorem mr_prop_ok {f : Nat → Int32} {p P1 P2 : PX} {m c : Int32} (hw : XIs f p 10) (e1 : tNum f 10 0 999 p = .ok (m, P1)) (e2 : mNum f 0 999 P1 = .ok (c, P2)) : rdProp f p = .ok (m, c, P2) := by
  unfold rdProp
  rw [pif_pos hw, exB_o e1, exB_o e2]
theorem mr_prop_e0 {f : Nat → Int32} {p : PX} {d : Int32} (hw : XIs f p 10) (e1 : tNum f 10 0 999 p = .error d) : rdProp f p = .error d := by
  unfold rdProp
  rw [pif_pos hw, exB_e e1]
theorem mr_prop_e1 {f : Nat → Int32} {p P1 : PX} {m d : Int32} (hw : XIs f p 10) (e1 : tNum f 10 0 999 p = .ok (m, P1)) (e2 : mNum f 0 999 P1 = .error d) : rdProp f p = .error d := by
  unfold rdProp
  rw [pif_pos hw, exB_o e1, exB_e e2]
theorem mr_prop_n {f : Nat → Int32} {p : PX} (hw : ¬ XIs f p 10) : rdProp f p = .ok (0, 0, p) := pif_neg hw
theorem rowPt0 {w : Nat} {v f g : Nat → Int32} (h : rowPt w 0 w v f g) : ∀ j, j < w → g j = v j := fun j hj => by
  have h1 := h.1 j hj
  rw [Nat.zero_mul, Nat.zero_add] at h1
  exact h1
theorem rows7 {g : Nat → Int32} {a b c d e h i : Int32} (h0 : g ((0 : Int32)).toNatClampNeg = a) (h1 : g ((1 : Int32)).toNatClampNeg = b) (h2 : g ((2 : Int32)).toNatClampNeg = c) (h3 : g ((3 : Int32)).toNatClampNeg = d) (h4 : g ((4 : Int32)).toNatClampNeg = e) (h5 : g ((5 : Int32)).toNatClampNeg = h) (h6 : g ((6 : Int32)).toNatClampNeg = i) : ∀ j, j < 7 → g j = rwf [a, b, c, d, e, h, i] j := by
  intro j hj
  rcases (show j = 0 ∨ j = 1 ∨ j = 2 ∨ j = 3 ∨ j = 4 ∨ j = 5 ∨ j = 6 by omega) with rfl | rfl | rfl | rfl | rfl | rfl | rfl
  · exact h0
  · exact h1
  · exact h2
  · exact h3
  · exact h4
  · exact h5
  · exact h6
theorem rows10 {g : Nat → Int32} {a b c d e h i k l m : Int32} (h0 : g ((0 : Int32)).toNatClampNeg = a) (h1 : g ((1 : Int32)).toNatClampNeg = b) (h2 : g ((2 : Int32)).toNatClampNeg = c) (h3 : g ((3 : Int32)).toNatClampNeg = d) (h4 : g ((4 : Int32)).toNatClampNeg = e) (h5 : g ((5 : Int32)).toNatClampNeg = h) (h6 : g ((6 : Int32)).toNatClampNeg = i) (h7 : g ((7 : Int32)).toNatClampNeg = k) (h8 : g ((8 : Int32)).toNatClampNeg = l) (h9 : g ((9 : Int32)).toNatClampNeg = m) : ∀ j, j < 10 → g j = rwf [a, b, c, d, e, h, i, k, l, m] j := by
  intro j hj
  rcases (show j = 0 ∨ j = 1 ∨ j = 2 ∨ j = 3 ∨ j = 4 ∨ j = 5 ∨ j = 6 ∨ j = 7 ∨ j = 8 ∨ j = 9 by omega) with rfl | rfl | rfl | rfl | rfl | rfl | rfl | rfl | rfl | rfl
  · exact h0
  · exact h1
  · exact h2
  · exact h3
  · exact h4
  · exact h5
  · exact h6
  · exact h7
  · exact h8
  · exact h9
theorem rows3 {g : Nat → Int32} {a b c : Int32} (h0 : g ((0 : Int32)).toNatClampNeg = a) (h1 : g ((1 : Int32)).toNatClampNeg = b) (h2 : g ((2 : Int32)).toNatClampNeg = c) : ∀ j, j < 3 → g j = rwf [a, b, c] j := by
  intro j hj
  rcases (show j = 0 ∨ j = 1 ∨ j = 2 by omega) with rfl | rfl | rfl
  · exact h0
  · exact h1
  · exact h2
theorem rows2 {g : Nat → Int32} {a b : Int32} (h0 : g ((0 : Int32)).toNatClampNeg = a) (h1 : g ((1 : Int32)).toNatClampNeg = b) : ∀ j, j < 2 → g j = rwf [a, b] j := by
  intro j hj
  rcases (show j = 0 ∨ j = 1 by omega) with rfl | rfl
  · exact h0
  · exact h1

theorem mn_p {f : Nat → Int32} {lo hi : Int32} {p q : PX} {R : Except Int32 (Int32 × PX)} (e : p = q) (h : mNum f lo hi p = R) : mNum f lo hi q = R := e ▸ h
theorem pm_fr {mc : List (Nat × Nat)} {mf : List Nat} {C u : Nat → va_E} (hf : fr mc mf C u) (hd : (!mf.contains 7 && !mf.contains 21 && !mf.contains 22 && !mf.contains 23) = true) : pm u = pm C := by
  simp only [Bool.and_eq_true] at hd
  obtain ⟨⟨⟨d7, d21⟩, d22⟩, d23⟩ := hd
  exact pm_mk (congrArg vi (hf.2 7 (by simpa using d7))) (congrArg vi (hf.2 22 (by simpa using d22))) (congrArg vi (hf.2 23 (by simpa using d23))) (congrArg vi (hf.2 21 (by simpa using d21)))
theorem pm_fd {C u : Nat → va_E} {ci j : Nat} {fs : List Value} {v : Value} (e : u = updc C 0 (.inr (ci, fs.set j v))) (hs : C 0 = .inr (ci, fs)) (hd : (!([j] : List Nat).contains 7 && !([j] : List Nat).contains 21 && !([j] : List Nat).contains 22 && !([j] : List Nat).contains 23) = true) : pm u = pm C := pm_fr (fr_fde (mc := []) (mf := [j]) fr_rf e hs (List.mem_singleton.mpr rfl)) hd

set_option maxHeartbeats 4000000 in
set_option maxRecDepth 100000 in
theorem e_X7_newRoad (l : Launch) (D : va_G) (E : Nat → ClassId) (G : Nat → Nat) (sz : Nat) (a : Nat → Nat) (C : Nat → va_E) (n : Nat) (hn : 74 ≤ n) (hT : TyM a E C) (x1 : Int32) (x2 : Int32) (hx1 : rg x1 0 15) (hx2 : rg x2 0 15) (h9 : rg (gi (C 0) 9) 0 23) : Met l yX7_newRoad (oh_w yX7_newRoad cX7_newRoad 4 none) ({ frames := 0, cells := 0, slots := 0, locals := 0 }) (oh_Pm D E G [.ref (a 0), .int x1, .int x2] (oh_W n a C) sz) (va_Qv (fun (u : Nat → va_E) => TyM a E u ∧ fr [(24, 48)] [] C u ∧ (∀ j, j < 7 → ga (u (24 + (gi (C 0) 9).toNatClampNeg)) j = rwf [x1, x2, 0, 0, 99, 0, 0] j) ∧ (∀ i, i ≠ (gi (C 0) 9).toNatClampNeg → u (24 + i) = C (24 + i))) (oh_B D (va_A (oh_W n a C) sz) (fun u => oh_W n a u)) (va_A (oh_W n a C) sz)) 0 0 (va_A (oh_W n a C) sz) := by
  refine Met.ofW (cc := cX7_newRoad) (maxL := 4) (ret := none) (by decide) rfl ?_
  intro p e s m args below meth c s₁ B hml hv
  obtain ⟨rfl, hsz, hP, hK, hD0, hG⟩ := hv
  have hx := B.exec
  have hb := B.bytes
  have hr := B.returns
  have hts := atoms_spec (ws := (oh_w yX7_newRoad cX7_newRoad 4 none)) B.pre
  have htg : ∀ w ∈ oh_t, w.before _ s = true := fun w h => hts w (List.mem_cons_of_mem _ h)
  have hown : s.vm.findClass RX7 = some m.cls := findClass_of_methodNamed B.named
  have hlocks := B.notSynchronized
  have hT0 := hT
  subst hsz
  have hD := hD0.self (sz := s.heap.size)
  generalize hAe : va_A (oh_W n a C) s.heap.size = A at hD hG ⊢
  have hA : ∀ q : Nat, s.heap.size ≤ q → A q := fun q h => by rw [← hAe]; exact Or.inr h
  have hS : va_S A s.heap s.heap [] := va_S.rf
  have hF : fr [(24, 48)] [] C C := fr_rf
  have hl := lv_entry ([.ref (a 0), .int x1, .int x2]) (n := 4) (Nat.le_of_ble_eq_true rfl)
  rw [lg_entry_eq]
  generalize (lg_sl ([.ref (a 0), .int x1, .int x2]) ++ List.replicate (4 - (lg_sl ([.ref (a 0), .int x1, .int x2])).length) Slot.unset).toArray = ls at hl ⊢
  have hl : lv_has ls 4 [(0, .ref (a 0)), (1, .int x1), (2, .int x2)] := hl
  refine oh_genQ (fun Q hQ => ?_)
  refine lv_aload_n hx hb dX7_newRoad_0 rfl (lv_at hl 0 rfl) ?_
  refine va_get (D := D) (ci := 7) (v := .ref (a 9)) (C := RX7) (T := TX7) (N := 29) hx hb htg ig_7 hown hK hP 0 (oh_wg (Nat.lt_of_lt_of_le (by decide) hn) (sM_0 hT)) rfl 10 (by decide) (htg _ q_983) (fun _ h9 => h9) rfl dX7_newRoad_1 ?_
  refine lv_aload_n hx hb dX7_newRoad_4 rfl (lv_at hl 0 rfl) ?_
  refine va_get (D := D) (ci := 7) (v := .int (gi (C 0) 9)) (C := RX7) (T := TX7) (N := 29) hx hb htg ig_7 hown hK hP 0 (oh_wg (Nat.lt_of_lt_of_le (by decide) hn) (sM_0 hT)) rfl 9 (by decide) (htg _ q_982) (fun _ h9 => h9) rfl dX7_newRoad_5 ?_
  have n_1 : vp_in (gi (C 0) 9) 24 := (rg_in h9 (by decide))
  have b_2 : (gi (C 0) 9).toNatClampNeg < 24 := vp_lt n_1
  refine th_aald hx hb hK hP 9 2 (Nat.lt_of_lt_of_le (by decide) hn) (sM_9 hT) rfl n_1 dX7_newRoad_8 ?_
  refine lv_astore_n (lv' := [(3, .ref (a (24 + (gi (C 0) 9).toNatClampNeg))), (0, .ref (a 0)), (1, .int x1), (2, .int x2)]) hx hb dX7_newRoad_9 rfl hl (by decide) rfl (fun ls hl => ?_)
  refine lv_aload_n hx hb dX7_newRoad_10 rfl (lv_at hl 0 rfl) ?_
  refine lv_iconst (v := 0) hx hb dX7_newRoad_11 (by decide) ?_
  refine lv_iload_n hx hb dX7_newRoad_12 rfl (lv_at hl 2 rfl) ?_
  refine th_iast (T := TyM a E) (Rl := fr [(24, 48)] [] C) hx hb hK hP hD hS (24 + (gi (C 0) 9).toNatClampNeg) (lt_blk b_2 hn (by decide)) (hT.broad b_2).1 (rg_in (rg_c (v := 0) (lo := 0) (hi := 0) (by decide)) (by decide)) (hT.uproad b_2 (tA_upd (hT.broad b_2) (tA_stc (show _ = 0 by decide) hx1 (by decide)))) (fr_st hF (by omega) (inR_of (p := (24, 48)) (by decide) (by show 24 ≤ _; omega) (by show _ < 48; omega))) dX7_newRoad_13 (fun C_3 H locs e_4 hT hF hP hD hS => ?_)
  have t_5 := hT
  refine lv_aload_n hx hb dX7_newRoad_14 rfl (lv_at hl 0 rfl) ?_
  refine lv_iconst (v := 1) hx hb dX7_newRoad_15 (by decide) ?_
  refine lv_iload_n hx hb dX7_newRoad_16 rfl (lv_at hl 3 rfl) ?_
  refine th_iast (T := TyM a E) (Rl := fr [(24, 48)] [] C) hx hb hK hP hD hS (24 + (gi (C 0) 9).toNatClampNeg) (lt_blk b_2 hn (by decide)) (hT.broad b_2).1 (rg_in (rg_c (v := 1) (lo := 1) (hi := 1) (by decide)) (by decide)) (hT.uproad b_2 (tA_upd (hT.broad b_2) (tA_stc (show _ = 1 by decide) hx2 (by decide)))) (fr_st hF (by omega) (inR_of (p := (24, 48)) (by decide) (by show 24 ≤ _; omega) (by show _ < 48; omega))) dX7_newRoad_17 (fun C_6 H locs e_7 hT hF hP hD hS => ?_)
  have t_8 := hT
  refine lv_aload_n hx hb dX7_newRoad_18 rfl (lv_at hl 0 rfl) ?_
  refine lv_iconst (v := 2) hx hb dX7_newRoad_19 (by decide) ?_
  refine lv_iconst (v := 0) hx hb dX7_newRoad_20 (by decide) ?_
  refine th_iast (T := TyM a E) (Rl := fr [(24, 48)] [] C) hx hb hK hP hD hS (24 + (gi (C 0) 9).toNatClampNeg) (lt_blk b_2 hn (by decide)) (hT.broad b_2).1 (rg_in (rg_c (v := 2) (lo := 2) (hi := 2) (by decide)) (by decide)) (hT.uproad b_2 (tA_upd (hT.broad b_2) (tA_stc (show _ = 2 by decide) (rg_c (v := 0) (lo := 0) (hi := 0) (by decide)) (by decide)))) (fr_st hF (by omega) (inR_of (p := (24, 48)) (by decide) (by show 24 ≤ _; omega) (by show _ < 48; omega))) dX7_newRoad_21 (fun C_9 H locs e_10 hT hF hP hD hS => ?_)
  have t_11 := hT
  refine lv_aload_n hx hb dX7_newRoad_22 rfl (lv_at hl 0 rfl) ?_
  refine lv_iconst (v := 3) hx hb dX7_newRoad_23 (by decide) ?_
  refine lv_iconst (v := 0) hx hb dX7_newRoad_24 (by decide) ?_
  refine th_iast (T := TyM a E) (Rl := fr [(24, 48)] [] C) hx hb hK hP hD hS (24 + (gi (C 0) 9).toNatClampNeg) (lt_blk b_2 hn (by decide)) (hT.broad b_2).1 (rg_in (rg_c (v := 3) (lo := 3) (hi := 3) (by decide)) (by decide)) (hT.uproad b_2 (tA_upd (hT.broad b_2) (tA_stc (show _ = 3 by decide) (rg_c (v := 0) (lo := 0) (hi := 0) (by decide)) (by decide)))) (fr_st hF (by omega) (inR_of (p := (24, 48)) (by decide) (by show 24 ≤ _; omega) (by show _ < 48; omega))) dX7_newRoad_25 (fun C_12 H locs e_13 hT hF hP hD hS => ?_)
  have t_14 := hT
  refine lv_aload_n hx hb dX7_newRoad_26 rfl (lv_at hl 0 rfl) ?_
  refine lv_iconst (v := 4) hx hb dX7_newRoad_27 (by decide) ?_
  refine lv_bipush (v := 99) hx hb dX7_newRoad_28 (by decide) ?_
  refine th_iast (T := TyM a E) (Rl := fr [(24, 48)] [] C) hx hb hK hP hD hS (24 + (gi (C 0) 9).toNatClampNeg) (lt_blk b_2 hn (by decide)) (hT.broad b_2).1 (rg_in (rg_c (v := 4) (lo := 4) (hi := 4) (by decide)) (by decide)) (hT.uproad b_2 (tA_upd (hT.broad b_2) (tA_stc (show _ = 4 by decide) (rg_c (v := 99) (lo := 99) (hi := 99) (by decide)) (by decide)))) (fr_st hF (by omega) (inR_of (p := (24, 48)) (by decide) (by show 24 ≤ _; omega) (by show _ < 48; omega))) dX7_newRoad_30 (fun C_15 H locs e_16 hT hF hP hD hS => ?_)
  have t_17 := hT
  refine lv_aload_n hx hb dX7_newRoad_31 rfl (lv_at hl 0 rfl) ?_
  refine lv_iconst (v := 5) hx hb dX7_newRoad_32 (by decide) ?_
  refine lv_iconst (v := 0) hx hb dX7_newRoad_33 (by decide) ?_
  refine th_iast (T := TyM a E) (Rl := fr [(24, 48)] [] C) hx hb hK hP hD hS (24 + (gi (C 0) 9).toNatClampNeg) (lt_blk b_2 hn (by decide)) (hT.broad b_2).1 (rg_in (rg_c (v := 5) (lo := 5) (hi := 5) (by decide)) (by decide)) (hT.uproad b_2 (tA_upd (hT.broad b_2) (tA_stc (show _ = 5 by decide) (rg_c (v := 0) (lo := 0) (hi := 0) (by decide)) (by decide)))) (fr_st hF (by omega) (inR_of (p := (24, 48)) (by decide) (by show 24 ≤ _; omega) (by show _ < 48; omega))) dX7_newRoad_34 (fun C_18 H locs e_19 hT hF hP hD hS => ?_)
  have t_20 := hT
  refine lv_aload_n hx hb dX7_newRoad_35 rfl (lv_at hl 0 rfl) ?_
  refine lv_bipush (v := 6) hx hb dX7_newRoad_36 (by decide) ?_
  refine lv_iconst (v := 0) hx hb dX7_newRoad_38 (by decide) ?_
  refine th_iast (T := TyM a E) (Rl := fr [(24, 48)] [] C) hx hb hK hP hD hS (24 + (gi (C 0) 9).toNatClampNeg) (lt_blk b_2 hn (by decide)) (hT.broad b_2).1 (rg_in (rg_c (v := 6) (lo := 6) (hi := 6) (by decide)) (by decide)) (hT.uproad b_2 (tA_upd (hT.broad b_2) (tA_stc (show _ = 6 by decide) (rg_c (v := 0) (lo := 0) (hi := 0) (by decide)) (by decide)))) (fr_st hF (by omega) (inR_of (p := (24, 48)) (by decide) (by show 24 ≤ _; omega) (by show _ < 48; omega))) dX7_newRoad_39 (fun C_21 H locs e_22 hT hF hP hD hS => ?_)
  have t_23 := hT
  rw [hQ]
  exact W.vret hx hb hr (fun t ht hW => ⟨⟨C_21, rfl, ⟨hT, hF, ⟨(rowPt0 (rowPt_st (w := 7) (i := 0) (v := rwf [x1, x2, 0, 0, 99, 0, 0]) (rowPt_st (w := 7) (i := 0) (v := rwf [x1, x2, 0, 0, 99, 0, 0]) (rowPt_st (w := 7) (i := 0) (v := rwf [x1, x2, 0, 0, 99, 0, 0]) (rowPt_st (w := 7) (i := 0) (v := rwf [x1, x2, 0, 0, 99, 0, 0]) (rowPt_st (w := 7) (i := 0) (v := rwf [x1, x2, 0, 0, 99, 0, 0]) (rowPt_st (w := 7) (i := 0) (v := rwf [x1, x2, 0, 0, 99, 0, 0]) (rowPt_st (w := 7) (i := 0) (v := rwf [x1, x2, 0, 0, 99, 0, 0]) rowPt_0 e_4 (by decide) rfl (by decide)) e_7 (by decide) rfl (by decide)) e_10 (by decide) rfl (by decide)) e_13 (by decide) rfl (by decide)) e_16 (by decide) rfl (by decide)) e_19 (by decide) rfl (by decide)) e_22 (by decide) rfl (by decide))), (fun i hne => (Eq.trans (th_un e_22 (by omega)) (Eq.trans (th_un e_19 (by omega)) (Eq.trans (th_un e_16 (by omega)) (Eq.trans (th_un e_13 (by omega)) (Eq.trans (th_un e_10 (by omega)) (Eq.trans (th_un e_7 (by omega)) (th_un e_4 (by omega)))))))))⟩⟩, ⟨by rw [ht]; exact hP, hD⟩⟩, hS.F ht⟩) hS.2.2 dX7_newRoad_40

theorem nb_s {k : Nat} {K C2 : Nat → va_E} {cA : ClassId} {z : Int32} {uz : Int} (e : C2 = updc K k (.inl (cA, 10, .inl (upd (ga (K k)) z.toNatClampNeg 0)))) (hz : rg z 0 uz) (hu : decide (uz ≤ 1000) = true) (h : ∀ j : Nat, (j : Int) < z.toInt → ga (K k) j = 0) : ∀ j : Nat, (j : Int) < (z + 1).toInt → ga (C2 k) j = 0 := by
  have hu2 := of_decide_eq_true hu
  have e1 : (z + 1).toInt = z.toInt + 1 := by
    rw [Int32.toInt_add]
    exact oh_bmod (by show _ ≤ z.toInt + 1; have := hz.1; omega) (by show z.toInt + 1 ≤ _; have := hz.2; omega)
  have e2 := oh_nat hz (by decide)
  intro j hj
  rw [st_ga e]
  by_cases q : j = z.toNatClampNeg
  · rw [q, pk_us]
  · rw [pk_un q]
    exact h j (by omega)
theorem nb_e {k : Nat} {K : Nat → va_E} {z : Int32} (c : (10 : Int32) ≤ z) (h : ∀ j : Nat, (j : Int) < z.toInt → ga (K k) j = 0) : ∀ j, j < 10 → ga (K k) j = 0 := fun j hj => h j (by
  have h1 := Int32.le_iff_toInt_le.mp c
  have h2 : (10 : Int32).toInt = 10 := rfl
  omega)

set_option maxHeartbeats 4000000 in
set_option maxRecDepth 100000 in
theorem e_X7_newBridge (l : Launch) (D : va_G) (E : Nat → ClassId) (G : Nat → Nat) (sz : Nat) (a : Nat → Nat) (C : Nat → va_E) (n : Nat) (hn : 74 ≤ n) (hT : TyM a E C) (h9 : rg (gi (C 0) 11) 0 15) : Met l yX7_newBridge (oh_w yX7_newBridge cX7_newBridge 2 none) ({ frames := 0, cells := 0, slots := 0, locals := 0 }) (oh_Pm D E G [.ref (a 0)] (oh_W n a C) sz) (va_Qv (fun (u : Nat → va_E) => TyM a E u ∧ fr [(48, 64)] [] C u ∧ (∀ j, j < 10 → ga (u (48 + (gi (C 0) 11).toNatClampNeg)) j = 0) ∧ (∀ i, i ≠ (gi (C 0) 11).toNatClampNeg → u (48 + i) = C (48 + i))) (oh_B D (va_A (oh_W n a C) sz) (fun u => oh_W n a u)) (va_A (oh_W n a C) sz)) 0 0 (va_A (oh_W n a C) sz) := by
  refine Met.ofW (cc := cX7_newBridge) (maxL := 2) (ret := none) (by decide) rfl ?_
  intro p e s m args below meth c s₁ B hml hv
  obtain ⟨rfl, hsz, hP, hK, hD0, hG⟩ := hv
  have hx := B.exec
  have hb := B.bytes
  have hr := B.returns
  have hts := atoms_spec (ws := (oh_w yX7_newBridge cX7_newBridge 2 none)) B.pre
  have htg : ∀ w ∈ oh_t, w.before _ s = true := fun w h => hts w (List.mem_cons_of_mem _ h)
  have hown : s.vm.findClass RX7 = some m.cls := findClass_of_methodNamed B.named
  have hlocks := B.notSynchronized
  have hT0 := hT
  subst hsz
  have hD := hD0.self (sz := s.heap.size)
  generalize hAe : va_A (oh_W n a C) s.heap.size = A at hD hG ⊢
  have hA : ∀ q : Nat, s.heap.size ≤ q → A q := fun q h => by rw [← hAe]; exact Or.inr h
  have hS : va_S A s.heap s.heap [] := va_S.rf
  have hF : fr [(48, 64)] [] C C := fr_rf
  have hl := lv_entry ([.ref (a 0)]) (n := 2) (Nat.le_of_ble_eq_true rfl)
  rw [lg_entry_eq]
  generalize (lg_sl ([.ref (a 0)]) ++ List.replicate (2 - (lg_sl ([.ref (a 0)])).length) Slot.unset).toArray = ls at hl ⊢
  have hl : lv_has ls 2 [(0, .ref (a 0))] := hl
  refine oh_genQ (fun Q hQ => ?_)
  refine lv_iconst (v := 0) hx hb dX7_newBridge_0 (by decide) ?_
  refine lv_istore_n (lv' := [(1, .int 0), (0, .ref (a 0))]) hx hb dX7_newBridge_1 rfl hl (by decide) rfl (fun ls hl => ?_)
  have L_2 : ∀ (d : Nat) (K2 : Nat → va_E) (z2_1 : Int32) (H : Heap) (locs : List Loc) (ls : Array Slot), (10 - z2_1.toInt).toNat = d → rg z2_1 0 10 → ((∀ j : Nat, (j : Int) < z2_1.toInt → ga (K2 (48 + (gi (C 0) 11).toNatClampNeg)) j = 0) ∧ ∀ i, i ≠ (gi (C 0) 11).toNatClampNeg → K2 (48 + i) = C (48 + i)) → TyM a E K2 → fr [(48, 64)] [] C K2 → fr [(48, 64)] [] C K2 → va_P D vwCl (oh_W n a K2) H → va_D A (oh_W n a K2) → va_S A s.heap H locs → lv_has ls 2 [(1, .int z2_1), (0, .ref (a 0))] → W p l e ({ frames := 0, cells := 0, slots := 0, locals := 0 }) s m (([.ref (a 0)] : List Value).toArray) below meth c H locs 0 0 Q (F0 m 2 ls []) := by
    intro d
    induction d using Nat.strongRecOn with
    | ind d ih_2 =>
    intro K2 z2_1 H locs ls hd_2 hz2_1 hx_2 hT hF hLF_2 hP hD hS hl
    have t_1 := hT
    refine lv_iload_n hx hb dX7_newBridge_2 rfl (lv_at hl 0 rfl) ?_
    refine lv_bipush (v := 10) hx hb dX7_newBridge_3 (by decide) ?_
    refine lv_icmp_ge (tgt := 26) hx hb dX7_newBridge_5 (by decide) (fun (c_2 : (10 : Int32) ≤ z2_1) => ?_) (fun (c_2 : ¬ ((10 : Int32) ≤ z2_1)) => ?_)
    · rw [hQ]
      exact W.vret hx hb hr (fun t ht hW => ⟨⟨K2, rfl, ⟨hT, hF, ⟨(nb_e c_2 hx_2.1), hx_2.2⟩⟩, ⟨by rw [ht]; exact hP, hD⟩⟩, hS.F ht⟩) hS.2.2 dX7_newBridge_26
    · refine lv_aload_n hx hb dX7_newBridge_8 rfl (lv_at hl 1 rfl) ?_
      refine va_get (D := D) (ci := 7) (v := .ref (a 10)) (C := RX7) (T := TX7) (N := 29) hx hb htg ig_7 hown hK hP 0 (oh_wg (Nat.lt_of_lt_of_le (by decide) hn) (sM_0 hT)) rfl 12 (by decide) (htg _ q_985) (fun _ h9 => h9) rfl dX7_newBridge_9 ?_
      refine lv_aload_n hx hb dX7_newBridge_12 rfl (lv_at hl 1 rfl) ?_
      refine va_get (D := D) (ci := 7) (v := .int (gi (C 0) 11)) (C := RX7) (T := TX7) (N := 29) hx hb htg ig_7 hown hK hP 0 (oh_wg (Nat.lt_of_lt_of_le (by decide) hn) (sM_0 hT)) rfl 11 (by decide) (htg _ q_984) (fun _ h9 => h9) (oh_fv (c := K2 0) (j := 11) rfl (congrArg vi (hLF_2.2 11 (by decide)))) dX7_newBridge_13 ?_
      have n_3 : vp_in (gi (C 0) 11) 16 := (rg_in h9 (by decide))
      have b_4 : (gi (C 0) 11).toNatClampNeg < 16 := vp_lt n_3
      refine th_aald hx hb hK hP 10 2 (Nat.lt_of_lt_of_le (by decide) hn) (sM_10 hT) rfl n_3 dX7_newBridge_16 ?_
      refine lv_iload_n hx hb dX7_newBridge_17 rfl (lv_at hl 0 rfl) ?_
      refine lv_iconst (v := 0) hx hb dX7_newBridge_18 (by decide) ?_
      have n_5 : vp_in z2_1 10 := (rg_in (rn_ltu (u' := 9) (Int32.not_le.mp c_2) hz2_1 (rg_c (v := 10) (lo := 10) (hi := 10) (by decide)) (by decide)) (by decide))
      refine th_iast (T := TyM a E) (Rl := fr [(48, 64)] [] C) hx hb hK hP hD hS (48 + (gi (C 0) 11).toNatClampNeg) (lt_blk b_4 hn (by decide)) (hT.bbridge b_4).1 n_5 (hT.upbridge b_4 (tA_upd (hT.bbridge b_4) tA_any)) (fr_st hF (by omega) (inR_of (p := (48, 64)) (by decide) (by show 48 ≤ _; omega) (by show _ < 64; omega))) dX7_newBridge_19 (fun C_6 H locs e_7 hT hF hP hD hS => ?_)
      have t_8 := hT
      refine lv_iinc (v := z2_1 + 1) (lv' := [(1, .int (z2_1 + 1)), (0, .ref (a 0))]) hx hb dX7_newBridge_20 hl (k := 0) rfl (by rfl) (by decide) rfl (fun ls hl => ?_)
      refine lv_goto (tgt := 2) hx hb dX7_newBridge_23 (by decide) ?_
      exact ih_2 _ (hd_2 ▸ mu_up 10 (rn_ltu (u' := 9) (Int32.not_le.mp c_2) hz2_1 (rg_c (v := 10) (lo := 10) (hi := 10) (by decide)) (by decide)) (by decide)) C_6 (z2_1 + 1) _ _ ls rfl (rg_w (rg_add (lo := 1) (hi := 10) (rn_ltu (u' := 9) (Int32.not_le.mp c_2) hz2_1 (rg_c (v := 10) (lo := 10) (hi := 10) (by decide)) (by decide)) (rg_c (v := 1) (lo := 1) (hi := 1) (by decide)) (by decide)) (by decide)) ⟨nb_s e_7 (rn_ltu (u' := 9) (Int32.not_le.mp c_2) hz2_1 (rg_c (v := 10) (lo := 10) (hi := 10) (by decide)) (by decide)) (by decide) hx_2.1, fun i hne => Eq.trans (th_un e_7 (by omega)) (hx_2.2 i hne)⟩ hT hF (fr_ste hLF_2 e_7 (by omega) (inR_of (p := (48, 64)) (by decide) (by show 48 ≤ _; omega) (by show _ < 64; omega))) hP hD hS (lv_sub hl [0, 1] rfl)
  exact L_2 _ C 0 _ _ ls rfl (rg_w (rg_c (v := 0) (lo := 0) (hi := 0) (by decide)) (by decide)) ⟨fun j hj => absurd hj (by show ¬ (j : Int) < 0; omega), fun i hne => rfl⟩ hT hF fr_rf hP hD hS (lv_sub hl [0, 1] rfl)

theorem fgN {C : Nat → va_E} {f : Nat → Int32} (h : FG C) (e : ga (C 7) = f) : gl (C 0) 24 = figOf f (gi (C 0) 7, -1, gi (C 0) 22, gi (C 0) 23, gi (C 0) 21) := by
  rw [← e]
  exact h

set_option maxHeartbeats 4000000 in
set_option maxRecDepth 100000 in
theorem e_X7_roadTold (l : Launch) (D : va_G) (E : Nat → ClassId) (G : Nat → Nat) (sz : Nat) (a : Nat → Nat) (C : Nat → va_E) (n : Nat) (hn : 74 ≤ n) (hT : TyM a E C) (h9 : rg (gi (C 0) 9) 0 23) (hat : (gi (C 0) 21).toInt ≤ (gi (C 0) 7).toInt) : Met l yX7_roadTold (oh_w yX7_roadTold cX7_roadTold 2 (some .boolean)) ({ frames := 7, cells := 0, slots := 0, locals := 157 }) (oh_Pm D E G [.ref (a 0), .ref (a (24 + (gi (C 0) 9).toNatClampNeg))] (oh_W n a C) sz) (va_Qi (fun r (u : Nat → va_E) => TyM a E u ∧ fr [(24, 48)] [9, 21, 22, 23, 24, 25] C u ∧ (r = 0 ∨ r = 1) ∧ (((gi (C 0) 21).toInt ≤ (gi (u 0) 21).toInt) ∧ ((gi (u 0) 21).toInt ≤ (gi (u 0) 7).toInt)) ∧ (r ≠ 0 → (∃ v : Nat → Int32, rdRoad (ga (C 7)) (pm C) = .ok (v, pm u) ∧ (∀ j, j < 7 → ga (u (24 + (gi (C 0) 9).toNatClampNeg)) j = v j) ∧ gi (u 0) 9 = gi (C 0) 9 + 1)) ∧ (r = 0 → (rdRoad (ga (C 7)) (pm C) = .error (gi (u 0) 25) ∧ gi (u 0) 9 = gi (C 0) 9)) ∧ (∀ i, i ≠ (gi (C 0) 9).toNatClampNeg → u (24 + i) = C (24 + i)) ∧ (FG u) ∧ ((gi (u 0) 23).toInt ≤ (gi (u 0) 21).toInt)) (oh_B D (va_A (oh_W n a C) sz) (fun u => oh_W n a u)) (va_A (oh_W n a C) sz)) 0 0 (va_A (oh_W n a C) sz) := by
  refine Met.ofW (cc := cX7_roadTold) (maxL := 2) (ret := (some .boolean)) (by decide) rfl ?_
  intro p e s m args below meth c s₁ B hml hv
  obtain ⟨rfl, hsz, hP, hK, hD0, hG⟩ := hv
  have hx := B.exec
  have hb := B.bytes
  have hr := B.returns
  have hts := atoms_spec (ws := (oh_w yX7_roadTold cX7_roadTold 2 (some .boolean))) B.pre
  have htg : ∀ w ∈ oh_t, w.before _ s = true := fun w h => hts w (List.mem_cons_of_mem _ h)
  have hown : s.vm.findClass RX7 = some m.cls := findClass_of_methodNamed B.named
  have hlocks := B.notSynchronized
  have hT0 := hT
  subst hsz
  have hD := hD0.self (sz := s.heap.size)
  generalize hAe : va_A (oh_W n a C) s.heap.size = A at hD hG ⊢
  have hA : ∀ q : Nat, s.heap.size ≤ q → A q := fun q h => by rw [← hAe]; exact Or.inr h
  have hS : va_S A s.heap s.heap [] := va_S.rf
  have hF : fr [(24, 48)] [9, 21, 22, 23, 24, 25] C C := fr_rf
  have hl := lv_entry ([.ref (a 0), .ref (a (24 + (gi (C 0) 9).toNatClampNeg))]) (n := 2) (Nat.le_of_ble_eq_true rfl)
  rw [lg_entry_eq]
  generalize (lg_sl ([.ref (a 0), .ref (a (24 + (gi (C 0) 9).toNatClampNeg))]) ++ List.replicate (2 - (lg_sl ([.ref (a 0), .ref (a (24 + (gi (C 0) 9).toNatClampNeg))])).length) Slot.unset).toArray = ls at hl ⊢
  have hl : lv_has ls 2 [(0, .ref (a 0)), (1, .ref (a (24 + (gi (C 0) 9).toNatClampNeg)))] := hl
  refine oh_genQ (fun Q hQ => ?_)
  have hb0 : (gi (C 0) 9).toNatClampNeg < 24 := vp_lt (rg_in h9 (by decide))
  refine lv_aload_n hx hb dX7_roadTold_0 rfl (lv_at hl 0 rfl) ?_
  refine lv_iconst (v := 0) hx hb dX7_roadTold_1 (by decide) ?_
  refine lv_iconst (v := 0) hx hb dX7_roadTold_2 (by decide) ?_
  refine tm_Vv (As := [.int 0, .int 0]) (rest := []) ⟨hx, hb, hml, hown, htg⟩ (e_X7_newRoad l D E G _ a C n hn hT (0 : Int32) (0 : Int32) (rg_w (rg_c (v := 0) (lo := 0) (hi := 0) (by decide)) (by decide)) (rg_w (rg_c (v := 0) (lo := 0) (hi := 0) (by decide)) (by decide)) (rg_w (lo := 0) (hi := 23) h9 (by decide))) (cwV 2 htg (oh_gV q_1137 q_1139 q_35 q_73 q_1140) rfl rfl rfl pdVX7_newRoad ⟨Nat.le_of_ble_eq_true rfl, Nat.le_of_ble_eq_true rfl⟩) hK hP hD hG hS hA (va_recv hK hP (ci := 7) (q0 := 0) rfl (oh_wg (Nat.lt_of_lt_of_le (by decide) hn) (sM_0 hT))) rfl hl.1 rfl (Nat.le_of_ble_eq_true rfl) dX7_roadTold_3 ⟨Nat.le_of_ble_eq_true rfl, Nat.le_of_ble_eq_true rfl⟩ (fun C_2 H locs hq_3 hP hD hS => ?_)
  obtain ⟨hT, f_4, hq_3⟩ := hq_3
  have hF := fr_tr hF f_4 (by decide) (by decide)
  refine W.widen (k := 0) (n := 0) (Nat.le_refl _) (Nat.le_refl _) ?_
  have t_5 := hT
  refine lv_aload_n hx hb dX7_roadTold_6 rfl (lv_at hl 0 rfl) ?_
  have : (gi (C_2 0) 21).toInt = (gi (C 0) 21).toInt := congrArg (fun z => (vi z).toInt) (f_4.2 21 (by decide))
  have : (gi (C_2 0) 7).toInt = (gi (C 0) 7).toInt := congrArg (fun z => (vi z).toInt) (f_4.2 7 (by decide))
  have : (gi (C_2 0) 23).toInt = (gi (C 0) 23).toInt := congrArg (fun z => (vi z).toInt) (f_4.2 23 (by decide))
  have : (gi (C_2 0) 13).toInt = (gi (C 0) 13).toInt := congrArg (fun z => (vi z).toInt) (f_4.2 13 (by decide))
  have : 0 ≤ (gi (C 0) 21).toInt ∧ (gi (C 0) 21).toInt ≤ 250 := fM_0_21 hT0
  have : 0 ≤ (gi (C 0) 7).toInt ∧ (gi (C 0) 7).toInt ≤ 250 := fM_0_7 hT0
  have : 0 ≤ (gi (C 0) 23).toInt ∧ (gi (C 0) 23).toInt ≤ 250 := fM_0_23 hT0
  have : 0 ≤ (gi (C 0) 13).toInt ∧ (gi (C 0) 13).toInt ≤ 5 := fM_0_13 hT0
  have : 0 ≤ (gi (C_2 0) 21).toInt ∧ (gi (C_2 0) 21).toInt ≤ 250 := fM_0_21 t_5
  have : 0 ≤ (gi (C_2 0) 7).toInt ∧ (gi (C_2 0) 7).toInt ≤ 250 := fM_0_7 t_5
  have : 0 ≤ (gi (C_2 0) 23).toInt ∧ (gi (C_2 0) 23).toInt ≤ 250 := fM_0_23 t_5
  have : 0 ≤ (gi (C_2 0) 13).toInt ∧ (gi (C_2 0) 13).toInt ≤ 5 := fM_0_13 t_5
  refine tm_Vv (As := []) (rest := []) ⟨hx, hb, hml, hown, htg⟩ (e_X7_look l D E G _ a C_2 n hn hT (by omega)) (cwV 0 htg (oh_gV q_1197 q_1199 q_39 q_73 q_1200) rfl rfl rfl pdVX7_look ⟨Nat.le_of_ble_eq_true rfl, Nat.le_of_ble_eq_true rfl⟩) hK hP hD hG hS hA (va_recv hK hP (ci := 7) (q0 := 0) rfl (oh_wg (Nat.lt_of_lt_of_le (by decide) hn) (sM_0 hT))) rfl hl.1 rfl (Nat.le_of_ble_eq_true rfl) dX7_roadTold_7 ⟨Nat.le_of_ble_eq_true rfl, Nat.le_of_ble_eq_true rfl⟩ (fun C_7 H locs hq_8 hP hD hS => ?_)
  obtain ⟨hT, f_9, hq_8⟩ := hq_8
  have hF := fr_tr hF f_9 (by decide) (by decide)
  refine W.widen (k := 0) (n := 0) (Nat.le_refl _) (Nat.le_refl _) ?_
  have t_10 := hT
  have ep_11 := hq_8.2.1
  rw [show ga (C_2 7) = ga (C 7) from congrArg ga (f_4.1 7 rfl (by decide))] at ep_11
  refine lv_aload_n hx hb dX7_roadTold_10 rfl (lv_at hl 0 rfl) ?_
  refine lv_aload_n hx hb dX7_roadTold_11 rfl (lv_at hl 1 rfl) ?_
  refine lv_iconst (v := 0) hx hb dX7_roadTold_12 (by decide) ?_
  refine lv_iconst (v := 0) hx hb dX7_roadTold_13 (by decide) ?_
  refine lv_bipush (v := 15) hx hb dX7_roadTold_14 (by decide) ?_
  have : (gi (C_7 0) 7).toInt = (gi (C_2 0) 7).toInt := congrArg (fun z => (vi z).toInt) (f_9.2 7 (by decide))
  have : (gi (C_7 0) 13).toInt = (gi (C_2 0) 13).toInt := congrArg (fun z => (vi z).toInt) (f_9.2 13 (by decide))
  have : 0 ≤ (gi (C_7 0) 21).toInt ∧ (gi (C_7 0) 21).toInt ≤ 250 := fM_0_21 t_10
  have : 0 ≤ (gi (C_7 0) 7).toInt ∧ (gi (C_7 0) 7).toInt ≤ 250 := fM_0_7 t_10
  have : 0 ≤ (gi (C_7 0) 23).toInt ∧ (gi (C_7 0) 23).toInt ≤ 250 := fM_0_23 t_10
  have : 0 ≤ (gi (C_7 0) 13).toInt ∧ (gi (C_7 0) 13).toInt ≤ 5 := fM_0_13 t_10
  refine tm_V (As := [.ref (a (24 + (gi (C 0) 9).toNatClampNeg)), .int 0, .int 0, .int 15]) (rest := []) ⟨hx, hb, hml, hown, htg⟩ (e_X7_number l D E G _ a C_7 n hn hT (24 + (gi (C 0) 9).toNatClampNeg) (0 : Int32) (0 : Int32) (15 : Int32) (rg_w (rg_c (v := 0) (lo := 0) (hi := 0) (by decide)) (by decide)) (rg_w (rg_c (v := 15) (lo := 15) (hi := 15) (by decide)) (by decide)) ⟨(lt_blk hb0 hn (by decide)), (by omega), 7, fun C h => (h.broad hb0).1, (rg_in (rg_c (v := 0) (lo := 0) (hi := 0) (by decide)) (by decide)), fun C v h h1 h2 => (h.uproad hb0 (tA_upd (h.broad hb0) (tA_stc (k := 0) (by decide) (oh_rgle (lo := 0) (hi := 15) h1 h2 (by decide)) (by decide))))⟩ (by omega) (fgL hq_8.2.2 (f_9.1 7 rfl (by decide))) (by omega) (by omega)) (cwV 4 htg (oh_gV q_1225 q_1227 q_43 q_73 q_1228) rfl rfl rfl pdVX7_number ⟨Nat.le_of_ble_eq_true rfl, Nat.le_of_ble_eq_true rfl⟩) hK hP hD hG hS hA (va_recv hK hP (ci := 7) (q0 := 0) rfl (oh_wg (Nat.lt_of_lt_of_le (by decide) hn) (sM_0 hT))) rfl hl.1 rfl (Nat.le_of_ble_eq_true rfl) dX7_roadTold_16 ⟨Nat.le_of_ble_eq_true rfl, Nat.le_of_ble_eq_true rfl⟩ (fun r_12 C_13 H locs hq_14 hP hD hS => ?_)
  obtain ⟨hT, f_15, hq_14⟩ := hq_14
  have hF := fr_trk hF f_15 (inR_of (p := (24, 48)) (by decide) (by show 24 ≤ _; omega) (by show _ < 48; omega)) (by decide)
  refine W.widen (k := 0) (n := 0) (Nat.le_refl _) (Nat.le_refl _) ?_
  have t_16 := hT
  refine lv_if_ne (tgt := 24) hx hb dX7_roadTold_19 (by decide) (fun (c_17 : ¬ (r_12 = 0)) => ?_) (fun (c_17 : r_12 = 0) => ?_)
  · have u_18 := hq_14.2.2.2.1 c_17
    have u_19 := hq_14.2.2.2.2.1 c_17
    refine lv_aload_n hx hb dX7_roadTold_24 rfl (lv_at hl 0 rfl) ?_
    refine va_get (D := D) (ci := 7) (v := .int (gi (C_13 0) 22)) (C := RX7) (T := TX7) (N := 29) hx hb htg ig_7 hown hK hP 0 (oh_wg (Nat.lt_of_lt_of_le (by decide) hn) (sM_0 hT)) rfl 22 (by decide) (htg _ q_995) (fun _ h9 => h9) rfl dX7_roadTold_25 ?_
    refine lv_iconst (v := 2) hx hb dX7_roadTold_28 (by decide) ?_
    refine lv_icmp_ne (tgt := 49) hx hb dX7_roadTold_29 (by decide) (fun (c_20 : ¬ ((gi (C_13 0) 22) = 2)) => ?_) (fun (c_20 : (gi (C_13 0) 22) = 2) => ?_)
    · refine lv_aload_n hx hb dX7_roadTold_49 rfl (lv_at hl 0 rfl) ?_
      refine lv_aload_n hx hb dX7_roadTold_50 rfl (lv_at hl 1 rfl) ?_
      refine lv_iconst (v := 1) hx hb dX7_roadTold_51 (by decide) ?_
      refine lv_iconst (v := 0) hx hb dX7_roadTold_52 (by decide) ?_
      refine lv_bipush (v := 15) hx hb dX7_roadTold_53 (by decide) ?_
      have : (gi (C_13 0) 7).toInt = (gi (C_7 0) 7).toInt := congrArg (fun z => (vi z).toInt) (f_15.2 7 (by decide))
      have : (gi (C_13 0) 13).toInt = (gi (C_7 0) 13).toInt := congrArg (fun z => (vi z).toInt) (f_15.2 13 (by decide))
      have : 0 ≤ (gi (C_13 0) 21).toInt ∧ (gi (C_13 0) 21).toInt ≤ 250 := fM_0_21 t_16
      have : 0 ≤ (gi (C_13 0) 7).toInt ∧ (gi (C_13 0) 7).toInt ≤ 250 := fM_0_7 t_16
      have : 0 ≤ (gi (C_13 0) 23).toInt ∧ (gi (C_13 0) 23).toInt ≤ 250 := fM_0_23 t_16
      have : 0 ≤ (gi (C_13 0) 13).toInt ∧ (gi (C_13 0) 13).toInt ≤ 5 := fM_0_13 t_16
      have : (2 : Int32).toInt = 2 := rfl
      have : ¬ (gi (C_13 0) 22).toInt = (2 : Int32).toInt := fun h7 => c_20 (Int32.toInt_inj.mp h7)
      refine tm_V (As := [.ref (a (24 + (gi (C 0) 9).toNatClampNeg)), .int 1, .int 0, .int 15]) (rest := []) ⟨hx, hb, hml, hown, htg⟩ (e_X7_number l D E G _ a C_13 n hn hT (24 + (gi (C 0) 9).toNatClampNeg) (1 : Int32) (0 : Int32) (15 : Int32) (rg_w (rg_c (v := 0) (lo := 0) (hi := 0) (by decide)) (by decide)) (rg_w (rg_c (v := 15) (lo := 15) (hi := 15) (by decide)) (by decide)) ⟨(lt_blk hb0 hn (by decide)), (by omega), 7, fun C h => (h.broad hb0).1, (rg_in (rg_c (v := 1) (lo := 1) (hi := 1) (by decide)) (by decide)), fun C v h h1 h2 => (h.uproad hb0 (tA_upd (h.broad hb0) (tA_stc (k := 1) (by decide) (oh_rgle (lo := 0) (hi := 15) h1 h2 (by decide)) (by decide))))⟩ (by omega) hq_14.2.2.2.2.2.2.2.1 (by omega) (by omega)) (cwV 4 htg (oh_gV q_1225 q_1227 q_43 q_73 q_1228) rfl rfl rfl pdVX7_number ⟨Nat.le_of_ble_eq_true rfl, Nat.le_of_ble_eq_true rfl⟩) hK hP hD hG hS hA (va_recv hK hP (ci := 7) (q0 := 0) rfl (oh_wg (Nat.lt_of_lt_of_le (by decide) hn) (sM_0 hT))) rfl hl.1 rfl (Nat.le_of_ble_eq_true rfl) dX7_roadTold_55 ⟨Nat.le_of_ble_eq_true rfl, Nat.le_of_ble_eq_true rfl⟩ (fun r_21 C_22 H locs hq_23 hP hD hS => ?_)
      obtain ⟨hT, f_24, hq_23⟩ := hq_23
      have hF := fr_trk hF f_24 (inR_of (p := (24, 48)) (by decide) (by show 24 ≤ _; omega) (by show _ < 48; omega)) (by decide)
      refine W.widen (k := 0) (n := 0) (Nat.le_refl _) (Nat.le_refl _) ?_
      have t_25 := hT
      refine lv_if_eq (tgt := 75) hx hb dX7_roadTold_58 (by decide) (fun (c_26 : r_21 = 0) => ?_) (fun (c_26 : ¬ (r_21 = 0)) => ?_)
      · have u_27 := hq_23.2.2.2.2.2.1 c_26
        have u_28 := hq_23.2.2.2.2.2.2.1 c_26
        refine lv_iconst (v := 0) hx hb dX7_roadTold_75 (by decide) ?_
        have : (gi (C_22 0) 7).toInt = (gi (C_13 0) 7).toInt := congrArg (fun z => (vi z).toInt) (f_24.2 7 (by decide))
        have : (gi (C_22 0) 13).toInt = (gi (C_13 0) 13).toInt := congrArg (fun z => (vi z).toInt) (f_24.2 13 (by decide))
        have : 0 ≤ (gi (C_22 0) 21).toInt ∧ (gi (C_22 0) 21).toInt ≤ 250 := fM_0_21 t_25
        have : 0 ≤ (gi (C_22 0) 7).toInt ∧ (gi (C_22 0) 7).toInt ≤ 250 := fM_0_7 t_25
        have : 0 ≤ (gi (C_22 0) 23).toInt ∧ (gi (C_22 0) 23).toInt ≤ 250 := fM_0_23 t_25
        have : 0 ≤ (gi (C_22 0) 13).toInt ∧ (gi (C_22 0) 13).toInt ≤ 5 := fM_0_13 t_25
        have e0_29 := (mn_p (Eq.trans ep_11 (congrArg (xAdv (ga (C 7))) (pm_fr f_4 (by decide)))) (mn_f (congrArg ga (Eq.trans (f_9.1 7 rfl (by decide)) (f_4.1 7 rfl (by decide)))) u_19))
        rw [hQ]
        exact W.zret (v := 0) (ty := .boolean) hx hb hr (by decide) (fun t ht hW => ⟨⟨0, C_22, rfl, ⟨hT, hF, ⟨(Or.inl rfl), ⟨(by omega), hq_23.2.1.2⟩, (fun h9 => absurd rfl h9), (fun _ => ⟨(mr_road_e2 e0_29 (fa_t c_20 (mN_rg e0_29).1) (mn_f (congrArg ga (Eq.trans (fr_at f_15 (by decide) (by omega)) (Eq.trans (f_9.1 7 rfl (by decide)) (f_4.1 7 rfl (by decide))))) u_27)), (Eq.trans (congrArg vi (f_24.2 9 (by decide))) (Eq.trans (congrArg vi (f_15.2 9 (by decide))) (Eq.trans (congrArg vi (f_9.2 9 (by decide))) (congrArg vi (f_4.2 9 (by decide))))))⟩), (fun i hne => (Eq.trans (fr_at f_24 (by omega) (by omega)) (Eq.trans (fr_at f_15 (by omega) (by omega)) (Eq.trans (f_9.1 _ rfl (by omega)) (hq_3.2 i hne))))), hq_23.2.2.2.2.2.2.2.1, hq_23.2.2.2.2.2.2.2.2⟩⟩, ⟨by rw [ht]; exact hP, hD⟩⟩, hS.F ht⟩) hS.2.2 dX7_roadTold_76
      · have u_30 := hq_23.2.2.2.1 c_26
        have u_31 := hq_23.2.2.2.2.1 c_26
        refine lv_aload_n hx hb dX7_roadTold_61 rfl (lv_at hl 0 rfl) ?_
        refine va_ldcS hx hb hown (hG.2.2.1 ("OneHeavyLoadModel", 219, "miles", 21) (List.mem_of_getElem? (i := 18) rfl)) dX7_roadTold_62 ?_
        refine lv_aload_n hx hb dX7_roadTold_64 rfl (lv_at hl 1 rfl) ?_
        refine lv_iconst (v := 2) hx hb dX7_roadTold_65 (by decide) ?_
        refine lv_iconst (v := 1) hx hb dX7_roadTold_66 (by decide) ?_
        refine lv_bipush (v := 60) hx hb dX7_roadTold_67 (by decide) ?_
        have : (gi (C_22 0) 7).toInt = (gi (C_13 0) 7).toInt := congrArg (fun z => (vi z).toInt) (f_24.2 7 (by decide))
        have : (gi (C_22 0) 13).toInt = (gi (C_13 0) 13).toInt := congrArg (fun z => (vi z).toInt) (f_24.2 13 (by decide))
        have : 0 ≤ (gi (C_22 0) 21).toInt ∧ (gi (C_22 0) 21).toInt ≤ 250 := fM_0_21 t_25
        have : 0 ≤ (gi (C_22 0) 7).toInt ∧ (gi (C_22 0) 7).toInt ≤ 250 := fM_0_7 t_25
        have : 0 ≤ (gi (C_22 0) 23).toInt ∧ (gi (C_22 0) 23).toInt ≤ 250 := fM_0_23 t_25
        have : 0 ≤ (gi (C_22 0) 13).toInt ∧ (gi (C_22 0) 13).toInt ≤ 5 := fM_0_13 t_25
        refine tm_V (As := [.ref (G (3 + 18)), .ref (a (24 + (gi (C 0) 9).toNatClampNeg)), .int 2, .int 1, .int 60]) (rest := []) ⟨hx, hb, hml, hown, htg⟩ (e_X7_told l D E G _ a C_22 n hn hT 18 (24 + (gi (C 0) 9).toNatClampNeg) (2 : Int32) (1 : Int32) (60 : Int32) (by decide) (rg_w (rg_c (v := 1) (lo := 1) (hi := 1) (by decide)) (by decide)) (rg_w (rg_c (v := 60) (lo := 60) (hi := 60) (by decide)) (by decide)) ⟨(lt_blk hb0 hn (by decide)), (by omega), 7, fun C h => (h.broad hb0).1, (rg_in (rg_c (v := 2) (lo := 2) (hi := 2) (by decide)) (by decide)), fun C v h h1 h2 => (h.uproad hb0 (tA_upd (h.broad hb0) (tA_stc (k := 2) (by decide) (rg_any _) (by decide))))⟩ (by omega) hq_23.2.2.2.2.2.2.2.1 (by omega) (by omega)) (cwV 5 htg (oh_gV q_1234 q_1236 q_45 q_73 q_1237) rfl rfl rfl pdVX7_told ⟨Nat.le_of_ble_eq_true rfl, Nat.le_of_ble_eq_true rfl⟩) hK hP hD hG hS hA (va_recv hK hP (ci := 7) (q0 := 0) rfl (oh_wg (Nat.lt_of_lt_of_le (by decide) hn) (sM_0 hT))) rfl hl.1 rfl (Nat.le_of_ble_eq_true rfl) dX7_roadTold_69 ⟨Nat.le_of_ble_eq_true rfl, Nat.le_of_ble_eq_true rfl⟩ (fun r_32 C_33 H locs hq_34 hP hD hS => ?_)
        obtain ⟨hT, f_35, hq_34⟩ := hq_34
        have hF := fr_trk hF f_35 (inR_of (p := (24, 48)) (by decide) (by show 24 ≤ _; omega) (by show _ < 48; omega)) (by decide)
        refine W.widen (k := 0) (n := 0) (Nat.le_refl _) (Nat.le_refl _) ?_
        have t_36 := hT
        refine lv_if_ne (tgt := 77) hx hb dX7_roadTold_72 (by decide) (fun (c_37 : ¬ (r_32 = 0)) => ?_) (fun (c_37 : r_32 = 0) => ?_)
        · have u_38 := hq_34.2.2.2.1 c_37
          have u_39 := hq_34.2.2.2.2.1 c_37
          have u_40 := hq_34.2.2.2.2.2.1 c_37
          refine lv_aload_n hx hb dX7_roadTold_77 rfl (lv_at hl 0 rfl) ?_
          refine va_ldcS hx hb hown (hG.2.2.1 ("OneHeavyLoadModel", 221, "rise", 22) (List.mem_of_getElem? (i := 19) rfl)) dX7_roadTold_78 ?_
          refine lv_aload_n hx hb dX7_roadTold_80 rfl (lv_at hl 1 rfl) ?_
          refine lv_iconst (v := 3) hx hb dX7_roadTold_81 (by decide) ?_
          refine lv_iconst (v := 0) hx hb dX7_roadTold_82 (by decide) ?_
          refine lv_bipush (v := 9) hx hb dX7_roadTold_83 (by decide) ?_
          have : (gi (C_33 0) 7).toInt = (gi (C_22 0) 7).toInt := congrArg (fun z => (vi z).toInt) (f_35.2 7 (by decide))
          have : (gi (C_33 0) 13).toInt = (gi (C_22 0) 13).toInt := congrArg (fun z => (vi z).toInt) (f_35.2 13 (by decide))
          have : 0 ≤ (gi (C_33 0) 21).toInt ∧ (gi (C_33 0) 21).toInt ≤ 250 := fM_0_21 t_36
          have : 0 ≤ (gi (C_33 0) 7).toInt ∧ (gi (C_33 0) 7).toInt ≤ 250 := fM_0_7 t_36
          have : 0 ≤ (gi (C_33 0) 23).toInt ∧ (gi (C_33 0) 23).toInt ≤ 250 := fM_0_23 t_36
          have : 0 ≤ (gi (C_33 0) 13).toInt ∧ (gi (C_33 0) 13).toInt ≤ 5 := fM_0_13 t_36
          refine tm_V (As := [.ref (G (3 + 19)), .ref (a (24 + (gi (C 0) 9).toNatClampNeg)), .int 3, .int 0, .int 9]) (rest := []) ⟨hx, hb, hml, hown, htg⟩ (e_X7_perhaps l D E G _ a C_33 n hn hT 19 (24 + (gi (C 0) 9).toNatClampNeg) (3 : Int32) (0 : Int32) (9 : Int32) (by decide) (rg_w (rg_c (v := 0) (lo := 0) (hi := 0) (by decide)) (by decide)) (rg_w (rg_c (v := 9) (lo := 9) (hi := 9) (by decide)) (by decide)) ⟨(lt_blk hb0 hn (by decide)), (by omega), 7, fun C h => (h.broad hb0).1, (rg_in (rg_c (v := 3) (lo := 3) (hi := 3) (by decide)) (by decide)), fun C v h h1 h2 => (h.uproad hb0 (tA_upd (h.broad hb0) (tA_stc (k := 3) (by decide) (rg_any _) (by decide))))⟩ (by omega) hq_34.2.2.2.2.2.2.2.2.1 (by omega) (by omega)) (cwV 5 htg (oh_gV q_1239 q_1241 q_46 q_73 q_1242) rfl rfl rfl pdVX7_perhaps ⟨Nat.le_of_ble_eq_true rfl, Nat.le_of_ble_eq_true rfl⟩) hK hP hD hG hS hA (va_recv hK hP (ci := 7) (q0 := 0) rfl (oh_wg (Nat.lt_of_lt_of_le (by decide) hn) (sM_0 hT))) rfl hl.1 rfl (Nat.le_of_ble_eq_true rfl) dX7_roadTold_85 ⟨Nat.le_of_ble_eq_true rfl, Nat.le_of_ble_eq_true rfl⟩ (fun r_41 C_42 H locs hq_43 hP hD hS => ?_)
          obtain ⟨hT, f_44, hq_43⟩ := hq_43
          have hF := fr_trk hF f_44 (inR_of (p := (24, 48)) (by decide) (by show 24 ≤ _; omega) (by show _ < 48; omega)) (by decide)
          refine W.widen (k := 0) (n := 0) (Nat.le_refl _) (Nat.le_refl _) ?_
          have t_45 := hT
          refine lv_if_eq (tgt := 119) hx hb dX7_roadTold_88 (by decide) (fun (c_46 : r_41 = 0) => ?_) (fun (c_46 : ¬ (r_41 = 0)) => ?_)
          · have u_47 := hq_43.2.2.2.2.1 c_46
            have u_48 := hq_43.2.2.2.2.2.1 c_46
            refine lv_iconst (v := 0) hx hb dX7_roadTold_119 (by decide) ?_
            have : (gi (C_42 0) 7).toInt = (gi (C_33 0) 7).toInt := congrArg (fun z => (vi z).toInt) (f_44.2 7 (by decide))
            have : (gi (C_42 0) 13).toInt = (gi (C_33 0) 13).toInt := congrArg (fun z => (vi z).toInt) (f_44.2 13 (by decide))
            have : 0 ≤ (gi (C_42 0) 21).toInt ∧ (gi (C_42 0) 21).toInt ≤ 250 := fM_0_21 t_45
            have : 0 ≤ (gi (C_42 0) 7).toInt ∧ (gi (C_42 0) 7).toInt ≤ 250 := fM_0_7 t_45
            have : 0 ≤ (gi (C_42 0) 23).toInt ∧ (gi (C_42 0) 23).toInt ≤ 250 := fM_0_23 t_45
            have : 0 ≤ (gi (C_42 0) 13).toInt ∧ (gi (C_42 0) 13).toInt ≤ 5 := fM_0_13 t_45
            have e0_49 := (mn_p (Eq.trans ep_11 (congrArg (xAdv (ga (C 7))) (pm_fr f_4 (by decide)))) (mn_f (congrArg ga (Eq.trans (f_9.1 7 rfl (by decide)) (f_4.1 7 rfl (by decide)))) u_19))
            rw [hQ]
            exact W.zret (v := 0) (ty := .boolean) hx hb hr (by decide) (fun t ht hW => ⟨⟨0, C_42, rfl, ⟨hT, hF, ⟨(Or.inl rfl), ⟨(by omega), hq_43.2.1.2⟩, (fun h9 => absurd rfl h9), (fun _ => ⟨(mr_road_e4 e0_49 (fa_t c_20 (mN_rg e0_49).1) (mn_f (congrArg ga (Eq.trans (fr_at f_15 (by decide) (by omega)) (Eq.trans (f_9.1 7 rfl (by decide)) (f_4.1 7 rfl (by decide))))) u_31) (tn_f sw_miles (congrArg ga (Eq.trans (fr_at f_24 (by decide) (by omega)) (Eq.trans (fr_at f_15 (by decide) (by omega)) (Eq.trans (f_9.1 7 rfl (by decide)) (f_4.1 7 rfl (by decide)))))) u_40) (pn_f sw_rise (congrArg ga (Eq.trans (fr_at f_35 (by decide) (by omega)) (Eq.trans (fr_at f_24 (by decide) (by omega)) (Eq.trans (fr_at f_15 (by decide) (by omega)) (Eq.trans (f_9.1 7 rfl (by decide)) (f_4.1 7 rfl (by decide))))))) (Eq.trans (hq_34.2.2.1 ((3 : Int32)).toNatClampNeg (by decide)) (Eq.trans (hq_23.2.2.1 ((3 : Int32)).toNatClampNeg (by decide)) (Eq.trans (hq_14.2.2.1 ((3 : Int32)).toNatClampNeg (by decide)) (Eq.trans (congrArg (fun z => ga z ((3 : Int32)).toNatClampNeg) (f_9.1 _ rfl (by omega))) (hq_3.1 ((3 : Int32)).toNatClampNeg (by decide)))))) u_47)), (Eq.trans (congrArg vi (f_44.2 9 (by decide))) (Eq.trans (congrArg vi (f_35.2 9 (by decide))) (Eq.trans (congrArg vi (f_24.2 9 (by decide))) (Eq.trans (congrArg vi (f_15.2 9 (by decide))) (Eq.trans (congrArg vi (f_9.2 9 (by decide))) (congrArg vi (f_4.2 9 (by decide))))))))⟩), (fun i hne => (Eq.trans (fr_at f_44 (by omega) (by omega)) (Eq.trans (fr_at f_35 (by omega) (by omega)) (Eq.trans (fr_at f_24 (by omega) (by omega)) (Eq.trans (fr_at f_15 (by omega) (by omega)) (Eq.trans (f_9.1 _ rfl (by omega)) (hq_3.2 i hne))))))), hq_43.2.2.2.2.2.2.1, hq_43.2.2.2.2.2.2.2⟩⟩, ⟨by rw [ht]; exact hP, hD⟩⟩, hS.F ht⟩) hS.2.2 dX7_roadTold_120
          · have u_50 := hq_43.2.2.2.1 c_46
            refine lv_aload_n hx hb dX7_roadTold_91 rfl (lv_at hl 0 rfl) ?_
            refine va_ldcS hx hb hown (hG.2.2.1 ("OneHeavyLoadModel", 226, "turn", 23) (List.mem_of_getElem? (i := 20) rfl)) dX7_roadTold_92 ?_
            refine lv_aload_n hx hb dX7_roadTold_94 rfl (lv_at hl 1 rfl) ?_
            refine lv_iconst (v := 4) hx hb dX7_roadTold_95 (by decide) ?_
            refine lv_iconst (v := 1) hx hb dX7_roadTold_96 (by decide) ?_
            refine lv_bipush (v := 99) hx hb dX7_roadTold_97 (by decide) ?_
            have : (gi (C_42 0) 7).toInt = (gi (C_33 0) 7).toInt := congrArg (fun z => (vi z).toInt) (f_44.2 7 (by decide))
            have : (gi (C_42 0) 13).toInt = (gi (C_33 0) 13).toInt := congrArg (fun z => (vi z).toInt) (f_44.2 13 (by decide))
            have : 0 ≤ (gi (C_42 0) 21).toInt ∧ (gi (C_42 0) 21).toInt ≤ 250 := fM_0_21 t_45
            have : 0 ≤ (gi (C_42 0) 7).toInt ∧ (gi (C_42 0) 7).toInt ≤ 250 := fM_0_7 t_45
            have : 0 ≤ (gi (C_42 0) 23).toInt ∧ (gi (C_42 0) 23).toInt ≤ 250 := fM_0_23 t_45
            have : 0 ≤ (gi (C_42 0) 13).toInt ∧ (gi (C_42 0) 13).toInt ≤ 5 := fM_0_13 t_45
            refine tm_V (As := [.ref (G (3 + 20)), .ref (a (24 + (gi (C 0) 9).toNatClampNeg)), .int 4, .int 1, .int 99]) (rest := []) ⟨hx, hb, hml, hown, htg⟩ (e_X7_perhaps l D E G _ a C_42 n hn hT 20 (24 + (gi (C 0) 9).toNatClampNeg) (4 : Int32) (1 : Int32) (99 : Int32) (by decide) (rg_w (rg_c (v := 1) (lo := 1) (hi := 1) (by decide)) (by decide)) (rg_w (rg_c (v := 99) (lo := 99) (hi := 99) (by decide)) (by decide)) ⟨(lt_blk hb0 hn (by decide)), (by omega), 7, fun C h => (h.broad hb0).1, (rg_in (rg_c (v := 4) (lo := 4) (hi := 4) (by decide)) (by decide)), fun C v h h1 h2 => (h.uproad hb0 (tA_upd (h.broad hb0) (tA_stc (k := 4) (by decide) (rg_any _) (by decide))))⟩ (by omega) hq_43.2.2.2.2.2.2.1 (by omega) (by omega)) (cwV 5 htg (oh_gV q_1239 q_1241 q_46 q_73 q_1242) rfl rfl rfl pdVX7_perhaps ⟨Nat.le_of_ble_eq_true rfl, Nat.le_of_ble_eq_true rfl⟩) hK hP hD hG hS hA (va_recv hK hP (ci := 7) (q0 := 0) rfl (oh_wg (Nat.lt_of_lt_of_le (by decide) hn) (sM_0 hT))) rfl hl.1 rfl (Nat.le_of_ble_eq_true rfl) dX7_roadTold_99 ⟨Nat.le_of_ble_eq_true rfl, Nat.le_of_ble_eq_true rfl⟩ (fun r_51 C_52 H locs hq_53 hP hD hS => ?_)
            obtain ⟨hT, f_54, hq_53⟩ := hq_53
            have hF := fr_trk hF f_54 (inR_of (p := (24, 48)) (by decide) (by show 24 ≤ _; omega) (by show _ < 48; omega)) (by decide)
            refine W.widen (k := 0) (n := 0) (Nat.le_refl _) (Nat.le_refl _) ?_
            have t_55 := hT
            refine lv_if_eq (tgt := 119) hx hb dX7_roadTold_102 (by decide) (fun (c_56 : r_51 = 0) => ?_) (fun (c_56 : ¬ (r_51 = 0)) => ?_)
            · have u_57 := hq_53.2.2.2.2.1 c_56
              have u_58 := hq_53.2.2.2.2.2.1 c_56
              refine lv_iconst (v := 0) hx hb dX7_roadTold_119 (by decide) ?_
              have : (gi (C_52 0) 7).toInt = (gi (C_42 0) 7).toInt := congrArg (fun z => (vi z).toInt) (f_54.2 7 (by decide))
              have : (gi (C_52 0) 13).toInt = (gi (C_42 0) 13).toInt := congrArg (fun z => (vi z).toInt) (f_54.2 13 (by decide))
              have : 0 ≤ (gi (C_52 0) 21).toInt ∧ (gi (C_52 0) 21).toInt ≤ 250 := fM_0_21 t_55
              have : 0 ≤ (gi (C_52 0) 7).toInt ∧ (gi (C_52 0) 7).toInt ≤ 250 := fM_0_7 t_55
              have : 0 ≤ (gi (C_52 0) 23).toInt ∧ (gi (C_52 0) 23).toInt ≤ 250 := fM_0_23 t_55
              have : 0 ≤ (gi (C_52 0) 13).toInt ∧ (gi (C_52 0) 13).toInt ≤ 5 := fM_0_13 t_55
              have e0_59 := (mn_p (Eq.trans ep_11 (congrArg (xAdv (ga (C 7))) (pm_fr f_4 (by decide)))) (mn_f (congrArg ga (Eq.trans (f_9.1 7 rfl (by decide)) (f_4.1 7 rfl (by decide)))) u_19))
              rw [hQ]
              exact W.zret (v := 0) (ty := .boolean) hx hb hr (by decide) (fun t ht hW => ⟨⟨0, C_52, rfl, ⟨hT, hF, ⟨(Or.inl rfl), ⟨(by omega), hq_53.2.1.2⟩, (fun h9 => absurd rfl h9), (fun _ => ⟨(mr_road_e5 e0_59 (fa_t c_20 (mN_rg e0_59).1) (mn_f (congrArg ga (Eq.trans (fr_at f_15 (by decide) (by omega)) (Eq.trans (f_9.1 7 rfl (by decide)) (f_4.1 7 rfl (by decide))))) u_31) (tn_f sw_miles (congrArg ga (Eq.trans (fr_at f_24 (by decide) (by omega)) (Eq.trans (fr_at f_15 (by decide) (by omega)) (Eq.trans (f_9.1 7 rfl (by decide)) (f_4.1 7 rfl (by decide)))))) u_40) (pn_f sw_rise (congrArg ga (Eq.trans (fr_at f_35 (by decide) (by omega)) (Eq.trans (fr_at f_24 (by decide) (by omega)) (Eq.trans (fr_at f_15 (by decide) (by omega)) (Eq.trans (f_9.1 7 rfl (by decide)) (f_4.1 7 rfl (by decide))))))) (Eq.trans (hq_34.2.2.1 ((3 : Int32)).toNatClampNeg (by decide)) (Eq.trans (hq_23.2.2.1 ((3 : Int32)).toNatClampNeg (by decide)) (Eq.trans (hq_14.2.2.1 ((3 : Int32)).toNatClampNeg (by decide)) (Eq.trans (congrArg (fun z => ga z ((3 : Int32)).toNatClampNeg) (f_9.1 _ rfl (by omega))) (hq_3.1 ((3 : Int32)).toNatClampNeg (by decide)))))) u_50) (pn_f sw_turn (congrArg ga (Eq.trans (fr_at f_44 (by decide) (by omega)) (Eq.trans (fr_at f_35 (by decide) (by omega)) (Eq.trans (fr_at f_24 (by decide) (by omega)) (Eq.trans (fr_at f_15 (by decide) (by omega)) (Eq.trans (f_9.1 7 rfl (by decide)) (f_4.1 7 rfl (by decide)))))))) (Eq.trans (hq_43.2.2.1 ((4 : Int32)).toNatClampNeg (by decide)) (Eq.trans (hq_34.2.2.1 ((4 : Int32)).toNatClampNeg (by decide)) (Eq.trans (hq_23.2.2.1 ((4 : Int32)).toNatClampNeg (by decide)) (Eq.trans (hq_14.2.2.1 ((4 : Int32)).toNatClampNeg (by decide)) (Eq.trans (congrArg (fun z => ga z ((4 : Int32)).toNatClampNeg) (f_9.1 _ rfl (by omega))) (hq_3.1 ((4 : Int32)).toNatClampNeg (by decide))))))) u_57)), (Eq.trans (congrArg vi (f_54.2 9 (by decide))) (Eq.trans (congrArg vi (f_44.2 9 (by decide))) (Eq.trans (congrArg vi (f_35.2 9 (by decide))) (Eq.trans (congrArg vi (f_24.2 9 (by decide))) (Eq.trans (congrArg vi (f_15.2 9 (by decide))) (Eq.trans (congrArg vi (f_9.2 9 (by decide))) (congrArg vi (f_4.2 9 (by decide)))))))))⟩), (fun i hne => (Eq.trans (fr_at f_54 (by omega) (by omega)) (Eq.trans (fr_at f_44 (by omega) (by omega)) (Eq.trans (fr_at f_35 (by omega) (by omega)) (Eq.trans (fr_at f_24 (by omega) (by omega)) (Eq.trans (fr_at f_15 (by omega) (by omega)) (Eq.trans (f_9.1 _ rfl (by omega)) (hq_3.2 i hne)))))))), hq_53.2.2.2.2.2.2.1, hq_53.2.2.2.2.2.2.2⟩⟩, ⟨by rw [ht]; exact hP, hD⟩⟩, hS.F ht⟩) hS.2.2 dX7_roadTold_120
            · have u_60 := hq_53.2.2.2.1 c_56
              refine lv_aload_n hx hb dX7_roadTold_105 rfl (lv_at hl 0 rfl) ?_
              refine va_ldcS hx hb hown (hG.2.2.1 ("OneHeavyLoadModel", 228, "parish", 24) (List.mem_of_getElem? (i := 21) rfl)) dX7_roadTold_106 ?_
              refine lv_aload_n hx hb dX7_roadTold_108 rfl (lv_at hl 1 rfl) ?_
              refine lv_iconst (v := 5) hx hb dX7_roadTold_109 (by decide) ?_
              refine lv_iconst (v := 0) hx hb dX7_roadTold_110 (by decide) ?_
              refine lv_bipush (v := 15) hx hb dX7_roadTold_111 (by decide) ?_
              have : (gi (C_52 0) 7).toInt = (gi (C_42 0) 7).toInt := congrArg (fun z => (vi z).toInt) (f_54.2 7 (by decide))
              have : (gi (C_52 0) 13).toInt = (gi (C_42 0) 13).toInt := congrArg (fun z => (vi z).toInt) (f_54.2 13 (by decide))
              have : 0 ≤ (gi (C_52 0) 21).toInt ∧ (gi (C_52 0) 21).toInt ≤ 250 := fM_0_21 t_55
              have : 0 ≤ (gi (C_52 0) 7).toInt ∧ (gi (C_52 0) 7).toInt ≤ 250 := fM_0_7 t_55
              have : 0 ≤ (gi (C_52 0) 23).toInt ∧ (gi (C_52 0) 23).toInt ≤ 250 := fM_0_23 t_55
              have : 0 ≤ (gi (C_52 0) 13).toInt ∧ (gi (C_52 0) 13).toInt ≤ 5 := fM_0_13 t_55
              refine tm_V (As := [.ref (G (3 + 21)), .ref (a (24 + (gi (C 0) 9).toNatClampNeg)), .int 5, .int 0, .int 15]) (rest := []) ⟨hx, hb, hml, hown, htg⟩ (e_X7_perhaps l D E G _ a C_52 n hn hT 21 (24 + (gi (C 0) 9).toNatClampNeg) (5 : Int32) (0 : Int32) (15 : Int32) (by decide) (rg_w (rg_c (v := 0) (lo := 0) (hi := 0) (by decide)) (by decide)) (rg_w (rg_c (v := 15) (lo := 15) (hi := 15) (by decide)) (by decide)) ⟨(lt_blk hb0 hn (by decide)), (by omega), 7, fun C h => (h.broad hb0).1, (rg_in (rg_c (v := 5) (lo := 5) (hi := 5) (by decide)) (by decide)), fun C v h h1 h2 => (h.uproad hb0 (tA_upd (h.broad hb0) (tA_stc (k := 5) (by decide) (rg_any _) (by decide))))⟩ (by omega) hq_53.2.2.2.2.2.2.1 (by omega) (by omega)) (cwV 5 htg (oh_gV q_1239 q_1241 q_46 q_73 q_1242) rfl rfl rfl pdVX7_perhaps ⟨Nat.le_of_ble_eq_true rfl, Nat.le_of_ble_eq_true rfl⟩) hK hP hD hG hS hA (va_recv hK hP (ci := 7) (q0 := 0) rfl (oh_wg (Nat.lt_of_lt_of_le (by decide) hn) (sM_0 hT))) rfl hl.1 rfl (Nat.le_of_ble_eq_true rfl) dX7_roadTold_113 ⟨Nat.le_of_ble_eq_true rfl, Nat.le_of_ble_eq_true rfl⟩ (fun r_61 C_62 H locs hq_63 hP hD hS => ?_)
              obtain ⟨hT, f_64, hq_63⟩ := hq_63
              have hF := fr_trk hF f_64 (inR_of (p := (24, 48)) (by decide) (by show 24 ≤ _; omega) (by show _ < 48; omega)) (by decide)
              refine W.widen (k := 0) (n := 0) (Nat.le_refl _) (Nat.le_refl _) ?_
              have t_65 := hT
              refine lv_if_ne (tgt := 121) hx hb dX7_roadTold_116 (by decide) (fun (c_66 : ¬ (r_61 = 0)) => ?_) (fun (c_66 : r_61 = 0) => ?_)
              · have u_67 := hq_63.2.2.2.1 c_66
                refine lv_aload_n hx hb dX7_roadTold_121 rfl (lv_at hl 0 rfl) ?_
                refine lv_dup hx hb dX7_roadTold_122 rfl ?_
                refine va_get (D := D) (ci := 7) (v := .int (gi (C 0) 9)) (C := RX7) (T := TX7) (N := 29) hx hb htg ig_7 hown hK hP 0 (oh_wg (Nat.lt_of_lt_of_le (by decide) hn) (sM_0 hT)) rfl 9 (by decide) (htg _ q_982) (fun _ h9 => h9) (oh_fv (c := C_62 0) (j := 9) rfl (Eq.trans (congrArg vi (f_64.2 9 (by decide))) (Eq.trans (congrArg vi (f_54.2 9 (by decide))) (Eq.trans (congrArg vi (f_44.2 9 (by decide))) (Eq.trans (congrArg vi (f_35.2 9 (by decide))) (Eq.trans (congrArg vi (f_24.2 9 (by decide))) (Eq.trans (congrArg vi (f_15.2 9 (by decide))) (Eq.trans (congrArg vi (f_9.2 9 (by decide))) (congrArg vi (f_4.2 9 (by decide))))))))))) dX7_roadTold_123 ?_
                refine lv_iconst (v := 1) hx hb dX7_roadTold_126 (by decide) ?_
                refine lv_iadd hx hb dX7_roadTold_127 ?_
                refine th_put (Tp := TyM a E) (Rl := fr [(24, 48)] [9, 21, 22, 23, 24, 25] C) (ci := 7) (v := .int ((gi (C 0) 9) + 1)) (ty := .int) (CC := RX7) (T := TX7) (N := 29) hx hb htg ig_7 tyX7 tyX7_ok nmX7 hown hK hP hD hS 0 (Nat.lt_of_lt_of_le (by decide) hn) (sM_0 hT) rfl 9 (by decide) (htg _ q_982) (fun _ h9 => h9) rfl (by decide +kernel) rfl rfl (Nat.le_of_ble_eq_true rfl) (hT.up 0 (by decide) ⟨rfl, (fM_0_7 hT), (rg_w (rg_add (lo := 1) (hi := 24) h9 (rg_c (v := 1) (lo := 1) (hi := 1) (by decide)) (by decide)) (by decide)), (fM_0_11 hT), (fM_0_13 hT), (fM_0_15 hT), (fM_0_21 hT), (fM_0_23 hT)⟩) (fr_fd hF (sM_0 hT) (by decide)) dX7_roadTold_128 (fun C_68 H locs e_69 hT hF hP hD hS => ?_)
                have t_70 := hT
                refine lv_iconst (v := 1) hx hb dX7_roadTold_131 (by decide) ?_
                have : (gi (C_62 0) 7).toInt = (gi (C_52 0) 7).toInt := congrArg (fun z => (vi z).toInt) (f_64.2 7 (by decide))
                have : (gi (C_62 0) 13).toInt = (gi (C_52 0) 13).toInt := congrArg (fun z => (vi z).toInt) (f_64.2 13 (by decide))
                have : (gi (C_68 0) 21).toInt = (gi (C_62 0) 21).toInt := congrArg Int32.toInt (show gi (C_68 0) 21 = gi (C_62 0) 21 by rw [e_69]; rfl)
                have : (gi (C_68 0) 7).toInt = (gi (C_62 0) 7).toInt := congrArg Int32.toInt (show gi (C_68 0) 7 = gi (C_62 0) 7 by rw [e_69]; rfl)
                have : (gi (C_68 0) 23).toInt = (gi (C_62 0) 23).toInt := congrArg Int32.toInt (show gi (C_68 0) 23 = gi (C_62 0) 23 by rw [e_69]; rfl)
                have : (gi (C_68 0) 13).toInt = (gi (C_62 0) 13).toInt := congrArg Int32.toInt (show gi (C_68 0) 13 = gi (C_62 0) 13 by rw [e_69]; rfl)
                have : 0 ≤ (gi (C_62 0) 21).toInt ∧ (gi (C_62 0) 21).toInt ≤ 250 := fM_0_21 t_65
                have : 0 ≤ (gi (C_62 0) 7).toInt ∧ (gi (C_62 0) 7).toInt ≤ 250 := fM_0_7 t_65
                have : 0 ≤ (gi (C_62 0) 23).toInt ∧ (gi (C_62 0) 23).toInt ≤ 250 := fM_0_23 t_65
                have : 0 ≤ (gi (C_62 0) 13).toInt ∧ (gi (C_62 0) 13).toInt ≤ 5 := fM_0_13 t_65
                have : 0 ≤ (gi (C_68 0) 21).toInt ∧ (gi (C_68 0) 21).toInt ≤ 250 := fM_0_21 t_70
                have : 0 ≤ (gi (C_68 0) 7).toInt ∧ (gi (C_68 0) 7).toInt ≤ 250 := fM_0_7 t_70
                have : 0 ≤ (gi (C_68 0) 23).toInt ∧ (gi (C_68 0) 23).toInt ≤ 250 := fM_0_23 t_70
                have : 0 ≤ (gi (C_68 0) 13).toInt ∧ (gi (C_68 0) 13).toInt ≤ 5 := fM_0_13 t_70
                have e0_71 := (mn_p (Eq.trans ep_11 (congrArg (xAdv (ga (C 7))) (pm_fr f_4 (by decide)))) (mn_f (congrArg ga (Eq.trans (f_9.1 7 rfl (by decide)) (f_4.1 7 rfl (by decide)))) u_19))
                rw [hQ]
                exact W.zret (v := 1) (ty := .boolean) hx hb hr (by decide) (fun t ht hW => ⟨⟨1, C_68, rfl, ⟨hT, hF, ⟨(Or.inr rfl), ⟨(by omega), (by omega)⟩, (fun _ => ⟨_, Eq.trans (mr_road_ok e0_71 (fa_t c_20 (mN_rg e0_71).1) (mn_f (congrArg ga (Eq.trans (fr_at f_15 (by decide) (by omega)) (Eq.trans (f_9.1 7 rfl (by decide)) (f_4.1 7 rfl (by decide))))) u_31) (tn_f sw_miles (congrArg ga (Eq.trans (fr_at f_24 (by decide) (by omega)) (Eq.trans (fr_at f_15 (by decide) (by omega)) (Eq.trans (f_9.1 7 rfl (by decide)) (f_4.1 7 rfl (by decide)))))) u_40) (pn_f sw_rise (congrArg ga (Eq.trans (fr_at f_35 (by decide) (by omega)) (Eq.trans (fr_at f_24 (by decide) (by omega)) (Eq.trans (fr_at f_15 (by decide) (by omega)) (Eq.trans (f_9.1 7 rfl (by decide)) (f_4.1 7 rfl (by decide))))))) (Eq.trans (hq_34.2.2.1 ((3 : Int32)).toNatClampNeg (by decide)) (Eq.trans (hq_23.2.2.1 ((3 : Int32)).toNatClampNeg (by decide)) (Eq.trans (hq_14.2.2.1 ((3 : Int32)).toNatClampNeg (by decide)) (Eq.trans (congrArg (fun z => ga z ((3 : Int32)).toNatClampNeg) (f_9.1 _ rfl (by omega))) (hq_3.1 ((3 : Int32)).toNatClampNeg (by decide)))))) u_50) (pn_f sw_turn (congrArg ga (Eq.trans (fr_at f_44 (by decide) (by omega)) (Eq.trans (fr_at f_35 (by decide) (by omega)) (Eq.trans (fr_at f_24 (by decide) (by omega)) (Eq.trans (fr_at f_15 (by decide) (by omega)) (Eq.trans (f_9.1 7 rfl (by decide)) (f_4.1 7 rfl (by decide)))))))) (Eq.trans (hq_43.2.2.1 ((4 : Int32)).toNatClampNeg (by decide)) (Eq.trans (hq_34.2.2.1 ((4 : Int32)).toNatClampNeg (by decide)) (Eq.trans (hq_23.2.2.1 ((4 : Int32)).toNatClampNeg (by decide)) (Eq.trans (hq_14.2.2.1 ((4 : Int32)).toNatClampNeg (by decide)) (Eq.trans (congrArg (fun z => ga z ((4 : Int32)).toNatClampNeg) (f_9.1 _ rfl (by omega))) (hq_3.1 ((4 : Int32)).toNatClampNeg (by decide))))))) u_60) (pn_f sw_parish (congrArg ga (Eq.trans (fr_at f_54 (by decide) (by omega)) (Eq.trans (fr_at f_44 (by decide) (by omega)) (Eq.trans (fr_at f_35 (by decide) (by omega)) (Eq.trans (fr_at f_24 (by decide) (by omega)) (Eq.trans (fr_at f_15 (by decide) (by omega)) (Eq.trans (f_9.1 7 rfl (by decide)) (f_4.1 7 rfl (by decide))))))))) (Eq.trans (hq_53.2.2.1 ((5 : Int32)).toNatClampNeg (by decide)) (Eq.trans (hq_43.2.2.1 ((5 : Int32)).toNatClampNeg (by decide)) (Eq.trans (hq_34.2.2.1 ((5 : Int32)).toNatClampNeg (by decide)) (Eq.trans (hq_23.2.2.1 ((5 : Int32)).toNatClampNeg (by decide)) (Eq.trans (hq_14.2.2.1 ((5 : Int32)).toNatClampNeg (by decide)) (Eq.trans (congrArg (fun z => ga z ((5 : Int32)).toNatClampNeg) (f_9.1 _ rfl (by omega))) (hq_3.1 ((5 : Int32)).toNatClampNeg (by decide)))))))) u_67)) (congrArg (fun z => Except.ok (_, z)) (pm_fd (j := 9) e_69 (sM_0 t_65) (by decide)).symm), rows7 (Eq.trans (congrArg (fun z => ga z ((0 : Int32)).toNatClampNeg) (th_un e_69 (by omega))) (Eq.trans (hq_63.2.2.1 ((0 : Int32)).toNatClampNeg (by decide)) (Eq.trans (hq_53.2.2.1 ((0 : Int32)).toNatClampNeg (by decide)) (Eq.trans (hq_43.2.2.1 ((0 : Int32)).toNatClampNeg (by decide)) (Eq.trans (hq_34.2.2.1 ((0 : Int32)).toNatClampNeg (by decide)) (hq_23.2.2.1 ((0 : Int32)).toNatClampNeg (by decide))))))) (Eq.trans (congrArg (fun z => ga z ((1 : Int32)).toNatClampNeg) (th_un e_69 (by omega))) (Eq.trans (hq_63.2.2.1 ((1 : Int32)).toNatClampNeg (by decide)) (Eq.trans (hq_53.2.2.1 ((1 : Int32)).toNatClampNeg (by decide)) (Eq.trans (hq_43.2.2.1 ((1 : Int32)).toNatClampNeg (by decide)) (hq_34.2.2.1 ((1 : Int32)).toNatClampNeg (by decide)))))) (Eq.trans (congrArg (fun z => ga z ((2 : Int32)).toNatClampNeg) (th_un e_69 (by omega))) (Eq.trans (hq_63.2.2.1 ((2 : Int32)).toNatClampNeg (by decide)) (Eq.trans (hq_53.2.2.1 ((2 : Int32)).toNatClampNeg (by decide)) (hq_43.2.2.1 ((2 : Int32)).toNatClampNeg (by decide))))) (Eq.trans (congrArg (fun z => ga z ((3 : Int32)).toNatClampNeg) (th_un e_69 (by omega))) (Eq.trans (hq_63.2.2.1 ((3 : Int32)).toNatClampNeg (by decide)) (hq_53.2.2.1 ((3 : Int32)).toNatClampNeg (by decide)))) (Eq.trans (congrArg (fun z => ga z ((4 : Int32)).toNatClampNeg) (th_un e_69 (by omega))) (hq_63.2.2.1 ((4 : Int32)).toNatClampNeg (by decide))) (congrArg (fun z => ga z ((5 : Int32)).toNatClampNeg) (th_un e_69 (by omega))) (Eq.trans (congrArg (fun z => ga z ((6 : Int32)).toNatClampNeg) (th_un e_69 (by omega))) (Eq.trans (hq_63.2.2.1 ((6 : Int32)).toNatClampNeg (by decide)) (Eq.trans (hq_53.2.2.1 ((6 : Int32)).toNatClampNeg (by decide)) (Eq.trans (hq_43.2.2.1 ((6 : Int32)).toNatClampNeg (by decide)) (Eq.trans (hq_34.2.2.1 ((6 : Int32)).toNatClampNeg (by decide)) (Eq.trans (hq_23.2.2.1 ((6 : Int32)).toNatClampNeg (by decide)) (Eq.trans (hq_14.2.2.1 ((6 : Int32)).toNatClampNeg (by decide)) (Eq.trans (congrArg (fun z => ga z ((6 : Int32)).toNatClampNeg) (f_9.1 _ rfl (by omega))) (hq_3.1 ((6 : Int32)).toNatClampNeg (by decide)))))))))), (show gi (C_68 0) 9 = ((gi (C 0) 9) + 1) by rw [e_69]; rfl)⟩), (fun h9 => absurd h9 (by decide)), (fun i hne => (Eq.trans (th_un e_69 (by omega)) (Eq.trans (fr_at f_64 (by omega) (by omega)) (Eq.trans (fr_at f_54 (by omega) (by omega)) (Eq.trans (fr_at f_44 (by omega) (by omega)) (Eq.trans (fr_at f_35 (by omega) (by omega)) (Eq.trans (fr_at f_24 (by omega) (by omega)) (Eq.trans (fr_at f_15 (by omega) (by omega)) (Eq.trans (f_9.1 _ rfl (by omega)) (hq_3.2 i hne)))))))))), (fgF (j := 9) hq_63.2.2.2.2.2.2.1 e_69 (sM_0 t_65) (by decide)), (by omega)⟩⟩, ⟨by rw [ht]; exact hP, hD⟩⟩, hS.F ht⟩) hS.2.2 dX7_roadTold_132
              · have u_72 := hq_63.2.2.2.2.1 c_66
                have u_73 := hq_63.2.2.2.2.2.1 c_66
                refine lv_iconst (v := 0) hx hb dX7_roadTold_119 (by decide) ?_
                have : (gi (C_62 0) 7).toInt = (gi (C_52 0) 7).toInt := congrArg (fun z => (vi z).toInt) (f_64.2 7 (by decide))
                have : (gi (C_62 0) 13).toInt = (gi (C_52 0) 13).toInt := congrArg (fun z => (vi z).toInt) (f_64.2 13 (by decide))
                have : 0 ≤ (gi (C_62 0) 21).toInt ∧ (gi (C_62 0) 21).toInt ≤ 250 := fM_0_21 t_65
                have : 0 ≤ (gi (C_62 0) 7).toInt ∧ (gi (C_62 0) 7).toInt ≤ 250 := fM_0_7 t_65
                have : 0 ≤ (gi (C_62 0) 23).toInt ∧ (gi (C_62 0) 23).toInt ≤ 250 := fM_0_23 t_65
                have : 0 ≤ (gi (C_62 0) 13).toInt ∧ (gi (C_62 0) 13).toInt ≤ 5 := fM_0_13 t_65
                have e0_74 := (mn_p (Eq.trans ep_11 (congrArg (xAdv (ga (C 7))) (pm_fr f_4 (by decide)))) (mn_f (congrArg ga (Eq.trans (f_9.1 7 rfl (by decide)) (f_4.1 7 rfl (by decide)))) u_19))
                rw [hQ]
                exact W.zret (v := 0) (ty := .boolean) hx hb hr (by decide) (fun t ht hW => ⟨⟨0, C_62, rfl, ⟨hT, hF, ⟨(Or.inl rfl), ⟨(by omega), hq_63.2.1.2⟩, (fun h9 => absurd rfl h9), (fun _ => ⟨(mr_road_e6 e0_74 (fa_t c_20 (mN_rg e0_74).1) (mn_f (congrArg ga (Eq.trans (fr_at f_15 (by decide) (by omega)) (Eq.trans (f_9.1 7 rfl (by decide)) (f_4.1 7 rfl (by decide))))) u_31) (tn_f sw_miles (congrArg ga (Eq.trans (fr_at f_24 (by decide) (by omega)) (Eq.trans (fr_at f_15 (by decide) (by omega)) (Eq.trans (f_9.1 7 rfl (by decide)) (f_4.1 7 rfl (by decide)))))) u_40) (pn_f sw_rise (congrArg ga (Eq.trans (fr_at f_35 (by decide) (by omega)) (Eq.trans (fr_at f_24 (by decide) (by omega)) (Eq.trans (fr_at f_15 (by decide) (by omega)) (Eq.trans (f_9.1 7 rfl (by decide)) (f_4.1 7 rfl (by decide))))))) (Eq.trans (hq_34.2.2.1 ((3 : Int32)).toNatClampNeg (by decide)) (Eq.trans (hq_23.2.2.1 ((3 : Int32)).toNatClampNeg (by decide)) (Eq.trans (hq_14.2.2.1 ((3 : Int32)).toNatClampNeg (by decide)) (Eq.trans (congrArg (fun z => ga z ((3 : Int32)).toNatClampNeg) (f_9.1 _ rfl (by omega))) (hq_3.1 ((3 : Int32)).toNatClampNeg (by decide)))))) u_50) (pn_f sw_turn (congrArg ga (Eq.trans (fr_at f_44 (by decide) (by omega)) (Eq.trans (fr_at f_35 (by decide) (by omega)) (Eq.trans (fr_at f_24 (by decide) (by omega)) (Eq.trans (fr_at f_15 (by decide) (by omega)) (Eq.trans (f_9.1 7 rfl (by decide)) (f_4.1 7 rfl (by decide)))))))) (Eq.trans (hq_43.2.2.1 ((4 : Int32)).toNatClampNeg (by decide)) (Eq.trans (hq_34.2.2.1 ((4 : Int32)).toNatClampNeg (by decide)) (Eq.trans (hq_23.2.2.1 ((4 : Int32)).toNatClampNeg (by decide)) (Eq.trans (hq_14.2.2.1 ((4 : Int32)).toNatClampNeg (by decide)) (Eq.trans (congrArg (fun z => ga z ((4 : Int32)).toNatClampNeg) (f_9.1 _ rfl (by omega))) (hq_3.1 ((4 : Int32)).toNatClampNeg (by decide))))))) u_60) (pn_f sw_parish (congrArg ga (Eq.trans (fr_at f_54 (by decide) (by omega)) (Eq.trans (fr_at f_44 (by decide) (by omega)) (Eq.trans (fr_at f_35 (by decide) (by omega)) (Eq.trans (fr_at f_24 (by decide) (by omega)) (Eq.trans (fr_at f_15 (by decide) (by omega)) (Eq.trans (f_9.1 7 rfl (by decide)) (f_4.1 7 rfl (by decide))))))))) (Eq.trans (hq_53.2.2.1 ((5 : Int32)).toNatClampNeg (by decide)) (Eq.trans (hq_43.2.2.1 ((5 : Int32)).toNatClampNeg (by decide)) (Eq.trans (hq_34.2.2.1 ((5 : Int32)).toNatClampNeg (by decide)) (Eq.trans (hq_23.2.2.1 ((5 : Int32)).toNatClampNeg (by decide)) (Eq.trans (hq_14.2.2.1 ((5 : Int32)).toNatClampNeg (by decide)) (Eq.trans (congrArg (fun z => ga z ((5 : Int32)).toNatClampNeg) (f_9.1 _ rfl (by omega))) (hq_3.1 ((5 : Int32)).toNatClampNeg (by decide)))))))) u_72)), (Eq.trans (congrArg vi (f_64.2 9 (by decide))) (Eq.trans (congrArg vi (f_54.2 9 (by decide))) (Eq.trans (congrArg vi (f_44.2 9 (by decide))) (Eq.trans (congrArg vi (f_35.2 9 (by decide))) (Eq.trans (congrArg vi (f_24.2 9 (by decide))) (Eq.trans (congrArg vi (f_15.2 9 (by decide))) (Eq.trans (congrArg vi (f_9.2 9 (by decide))) (congrArg vi (f_4.2 9 (by decide))))))))))⟩), (fun i hne => (Eq.trans (fr_at f_64 (by omega) (by omega)) (Eq.trans (fr_at f_54 (by omega) (by omega)) (Eq.trans (fr_at f_44 (by omega) (by omega)) (Eq.trans (fr_at f_35 (by omega) (by omega)) (Eq.trans (fr_at f_24 (by omega) (by omega)) (Eq.trans (fr_at f_15 (by omega) (by omega)) (Eq.trans (f_9.1 _ rfl (by omega)) (hq_3.2 i hne))))))))), hq_63.2.2.2.2.2.2.1, hq_63.2.2.2.2.2.2.2⟩⟩, ⟨by rw [ht]; exact hP, hD⟩⟩, hS.F ht⟩) hS.2.2 dX7_roadTold_120
        · have u_75 := hq_34.2.2.2.2.2.2.1 c_37
          have u_76 := hq_34.2.2.2.2.2.2.2.1 c_37
          refine lv_iconst (v := 0) hx hb dX7_roadTold_75 (by decide) ?_
          have : (gi (C_33 0) 7).toInt = (gi (C_22 0) 7).toInt := congrArg (fun z => (vi z).toInt) (f_35.2 7 (by decide))
          have : (gi (C_33 0) 13).toInt = (gi (C_22 0) 13).toInt := congrArg (fun z => (vi z).toInt) (f_35.2 13 (by decide))
          have : 0 ≤ (gi (C_33 0) 21).toInt ∧ (gi (C_33 0) 21).toInt ≤ 250 := fM_0_21 t_36
          have : 0 ≤ (gi (C_33 0) 7).toInt ∧ (gi (C_33 0) 7).toInt ≤ 250 := fM_0_7 t_36
          have : 0 ≤ (gi (C_33 0) 23).toInt ∧ (gi (C_33 0) 23).toInt ≤ 250 := fM_0_23 t_36
          have : 0 ≤ (gi (C_33 0) 13).toInt ∧ (gi (C_33 0) 13).toInt ≤ 5 := fM_0_13 t_36
          have e0_77 := (mn_p (Eq.trans ep_11 (congrArg (xAdv (ga (C 7))) (pm_fr f_4 (by decide)))) (mn_f (congrArg ga (Eq.trans (f_9.1 7 rfl (by decide)) (f_4.1 7 rfl (by decide)))) u_19))
          rw [hQ]
          exact W.zret (v := 0) (ty := .boolean) hx hb hr (by decide) (fun t ht hW => ⟨⟨0, C_33, rfl, ⟨hT, hF, ⟨(Or.inl rfl), ⟨(by omega), hq_34.2.1.2⟩, (fun h9 => absurd rfl h9), (fun _ => ⟨(mr_road_e3 e0_77 (fa_t c_20 (mN_rg e0_77).1) (mn_f (congrArg ga (Eq.trans (fr_at f_15 (by decide) (by omega)) (Eq.trans (f_9.1 7 rfl (by decide)) (f_4.1 7 rfl (by decide))))) u_31) (tn_f sw_miles (congrArg ga (Eq.trans (fr_at f_24 (by decide) (by omega)) (Eq.trans (fr_at f_15 (by decide) (by omega)) (Eq.trans (f_9.1 7 rfl (by decide)) (f_4.1 7 rfl (by decide)))))) u_75)), (Eq.trans (congrArg vi (f_35.2 9 (by decide))) (Eq.trans (congrArg vi (f_24.2 9 (by decide))) (Eq.trans (congrArg vi (f_15.2 9 (by decide))) (Eq.trans (congrArg vi (f_9.2 9 (by decide))) (congrArg vi (f_4.2 9 (by decide)))))))⟩), (fun i hne => (Eq.trans (fr_at f_35 (by omega) (by omega)) (Eq.trans (fr_at f_24 (by omega) (by omega)) (Eq.trans (fr_at f_15 (by omega) (by omega)) (Eq.trans (f_9.1 _ rfl (by omega)) (hq_3.2 i hne)))))), hq_34.2.2.2.2.2.2.2.2.1, hq_34.2.2.2.2.2.2.2.2.2⟩⟩, ⟨by rw [ht]; exact hP, hD⟩⟩, hS.F ht⟩) hS.2.2 dX7_roadTold_76
    · refine lv_aload_n hx hb dX7_roadTold_32 rfl (lv_at hl 0 rfl) ?_
      refine va_get (D := D) (ci := 7) (v := .long (gl (C_13 0) 24)) (C := RX7) (T := TX7) (N := 29) hx hb htg ig_7 hown hK hP 0 (oh_wg (Nat.lt_of_lt_of_le (by decide) hn) (sM_0 hT)) rfl 24 (by decide) (htg _ q_997) (fun _ h9 => h9) rfl dX7_roadTold_33 ?_
      refine lv_aload_n hx hb dX7_roadTold_36 rfl (lv_at hl 1 rfl) ?_
      refine lv_iconst (v := 0) hx hb dX7_roadTold_37 (by decide) ?_
      refine th_iald hx hb hK hP (24 + (gi (C 0) 9).toNatClampNeg) (lt_blk hb0 hn (by decide)) (hT.broad hb0).1 (rg_in (rg_c (v := 0) (lo := 0) (hi := 0) (by decide)) (by decide)) dX7_roadTold_38 ?_
      refine lv_i2l (v := Int32.toInt64 (ga (C_13 (24 + (gi (C 0) 9).toNatClampNeg)) ((0 : Int32)).toNatClampNeg)) hx hb dX7_roadTold_39 (by rfl) ?_
      refine W.lcmp hx hb dX7_roadTold_40 ?_
      refine lv_if_ne (tgt := 49) hx hb dX7_roadTold_41 (by decide) (fun (c_78 : ¬ ((lg_cmp (gl (C_13 0) 24) (Int32.toInt64 (ga (C_13 (24 + (gi (C 0) 9).toNatClampNeg)) ((0 : Int32)).toNatClampNeg))) = 0)) => ?_) (fun (c_78 : (lg_cmp (gl (C_13 0) 24) (Int32.toInt64 (ga (C_13 (24 + (gi (C 0) 9).toNatClampNeg)) ((0 : Int32)).toNatClampNeg))) = 0) => ?_)
      · refine lv_aload_n hx hb dX7_roadTold_49 rfl (lv_at hl 0 rfl) ?_
        refine lv_aload_n hx hb dX7_roadTold_50 rfl (lv_at hl 1 rfl) ?_
        refine lv_iconst (v := 1) hx hb dX7_roadTold_51 (by decide) ?_
        refine lv_iconst (v := 0) hx hb dX7_roadTold_52 (by decide) ?_
        refine lv_bipush (v := 15) hx hb dX7_roadTold_53 (by decide) ?_
        have : (gi (C_13 0) 7).toInt = (gi (C_7 0) 7).toInt := congrArg (fun z => (vi z).toInt) (f_15.2 7 (by decide))
        have : (gi (C_13 0) 13).toInt = (gi (C_7 0) 13).toInt := congrArg (fun z => (vi z).toInt) (f_15.2 13 (by decide))
        have : 0 ≤ (gi (C_13 0) 21).toInt ∧ (gi (C_13 0) 21).toInt ≤ 250 := fM_0_21 t_16
        have : 0 ≤ (gi (C_13 0) 7).toInt ∧ (gi (C_13 0) 7).toInt ≤ 250 := fM_0_7 t_16
        have : 0 ≤ (gi (C_13 0) 23).toInt ∧ (gi (C_13 0) 23).toInt ≤ 250 := fM_0_23 t_16
        have : 0 ≤ (gi (C_13 0) 13).toInt ∧ (gi (C_13 0) 13).toInt ≤ 5 := fM_0_13 t_16
        have : (2 : Int32).toInt = 2 := rfl
        refine tm_V (As := [.ref (a (24 + (gi (C 0) 9).toNatClampNeg)), .int 1, .int 0, .int 15]) (rest := []) ⟨hx, hb, hml, hown, htg⟩ (e_X7_number l D E G _ a C_13 n hn hT (24 + (gi (C 0) 9).toNatClampNeg) (1 : Int32) (0 : Int32) (15 : Int32) (rg_w (rg_c (v := 0) (lo := 0) (hi := 0) (by decide)) (by decide)) (rg_w (rg_c (v := 15) (lo := 15) (hi := 15) (by decide)) (by decide)) ⟨(lt_blk hb0 hn (by decide)), (by omega), 7, fun C h => (h.broad hb0).1, (rg_in (rg_c (v := 1) (lo := 1) (hi := 1) (by decide)) (by decide)), fun C v h h1 h2 => (h.uproad hb0 (tA_upd (h.broad hb0) (tA_stc (k := 1) (by decide) (oh_rgle (lo := 0) (hi := 15) h1 h2 (by decide)) (by decide))))⟩ (by omega) hq_14.2.2.2.2.2.2.2.1 (by omega) (by omega)) (cwV 4 htg (oh_gV q_1225 q_1227 q_43 q_73 q_1228) rfl rfl rfl pdVX7_number ⟨Nat.le_of_ble_eq_true rfl, Nat.le_of_ble_eq_true rfl⟩) hK hP hD hG hS hA (va_recv hK hP (ci := 7) (q0 := 0) rfl (oh_wg (Nat.lt_of_lt_of_le (by decide) hn) (sM_0 hT))) rfl hl.1 rfl (Nat.le_of_ble_eq_true rfl) dX7_roadTold_55 ⟨Nat.le_of_ble_eq_true rfl, Nat.le_of_ble_eq_true rfl⟩ (fun r_79 C_80 H locs hq_81 hP hD hS => ?_)
        obtain ⟨hT, f_82, hq_81⟩ := hq_81
        have hF := fr_trk hF f_82 (inR_of (p := (24, 48)) (by decide) (by show 24 ≤ _; omega) (by show _ < 48; omega)) (by decide)
        refine W.widen (k := 0) (n := 0) (Nat.le_refl _) (Nat.le_refl _) ?_
        have t_83 := hT
        refine lv_if_eq (tgt := 75) hx hb dX7_roadTold_58 (by decide) (fun (c_84 : r_79 = 0) => ?_) (fun (c_84 : ¬ (r_79 = 0)) => ?_)
        · have u_85 := hq_81.2.2.2.2.2.1 c_84
          have u_86 := hq_81.2.2.2.2.2.2.1 c_84
          refine lv_iconst (v := 0) hx hb dX7_roadTold_75 (by decide) ?_
          have : (gi (C_80 0) 7).toInt = (gi (C_13 0) 7).toInt := congrArg (fun z => (vi z).toInt) (f_82.2 7 (by decide))
          have : (gi (C_80 0) 13).toInt = (gi (C_13 0) 13).toInt := congrArg (fun z => (vi z).toInt) (f_82.2 13 (by decide))
          have : 0 ≤ (gi (C_80 0) 21).toInt ∧ (gi (C_80 0) 21).toInt ≤ 250 := fM_0_21 t_83
          have : 0 ≤ (gi (C_80 0) 7).toInt ∧ (gi (C_80 0) 7).toInt ≤ 250 := fM_0_7 t_83
          have : 0 ≤ (gi (C_80 0) 23).toInt ∧ (gi (C_80 0) 23).toInt ≤ 250 := fM_0_23 t_83
          have : 0 ≤ (gi (C_80 0) 13).toInt ∧ (gi (C_80 0) 13).toInt ≤ 5 := fM_0_13 t_83
          have e0_87 := (mn_p (Eq.trans ep_11 (congrArg (xAdv (ga (C 7))) (pm_fr f_4 (by decide)))) (mn_f (congrArg ga (Eq.trans (f_9.1 7 rfl (by decide)) (f_4.1 7 rfl (by decide)))) u_19))
          rw [hQ]
          exact W.zret (v := 0) (ty := .boolean) hx hb hr (by decide) (fun t ht hW => ⟨⟨0, C_80, rfl, ⟨hT, hF, ⟨(Or.inl rfl), ⟨(by omega), hq_81.2.1.2⟩, (fun h9 => absurd rfl h9), (fun _ => ⟨(mr_road_e2 e0_87 (fun h8 => c_78 (lc0.mpr ((fa_eq (fM_0_23 t_16) (fM_0_21 t_16) (by omega) c_20 (fgN hq_14.2.2.2.2.2.2.2.1 (congrArg ga (Eq.trans (fr_at f_15 (by decide) (by omega)) (Eq.trans (f_9.1 7 rfl (by decide)) (f_4.1 7 rfl (by decide)))))) (mN_rg e0_87).1 (mN_rg e0_87).2).mp h8))) (mn_f (congrArg ga (Eq.trans (fr_at f_15 (by decide) (by omega)) (Eq.trans (f_9.1 7 rfl (by decide)) (f_4.1 7 rfl (by decide))))) u_85)), (Eq.trans (congrArg vi (f_82.2 9 (by decide))) (Eq.trans (congrArg vi (f_15.2 9 (by decide))) (Eq.trans (congrArg vi (f_9.2 9 (by decide))) (congrArg vi (f_4.2 9 (by decide))))))⟩), (fun i hne => (Eq.trans (fr_at f_82 (by omega) (by omega)) (Eq.trans (fr_at f_15 (by omega) (by omega)) (Eq.trans (f_9.1 _ rfl (by omega)) (hq_3.2 i hne))))), hq_81.2.2.2.2.2.2.2.1, hq_81.2.2.2.2.2.2.2.2⟩⟩, ⟨by rw [ht]; exact hP, hD⟩⟩, hS.F ht⟩) hS.2.2 dX7_roadTold_76
        · have u_88 := hq_81.2.2.2.1 c_84
          have u_89 := hq_81.2.2.2.2.1 c_84
          refine lv_aload_n hx hb dX7_roadTold_61 rfl (lv_at hl 0 rfl) ?_
          refine va_ldcS hx hb hown (hG.2.2.1 ("OneHeavyLoadModel", 219, "miles", 21) (List.mem_of_getElem? (i := 18) rfl)) dX7_roadTold_62 ?_
          refine lv_aload_n hx hb dX7_roadTold_64 rfl (lv_at hl 1 rfl) ?_
          refine lv_iconst (v := 2) hx hb dX7_roadTold_65 (by decide) ?_
          refine lv_iconst (v := 1) hx hb dX7_roadTold_66 (by decide) ?_
          refine lv_bipush (v := 60) hx hb dX7_roadTold_67 (by decide) ?_
          have : (gi (C_80 0) 7).toInt = (gi (C_13 0) 7).toInt := congrArg (fun z => (vi z).toInt) (f_82.2 7 (by decide))
          have : (gi (C_80 0) 13).toInt = (gi (C_13 0) 13).toInt := congrArg (fun z => (vi z).toInt) (f_82.2 13 (by decide))
          have : 0 ≤ (gi (C_80 0) 21).toInt ∧ (gi (C_80 0) 21).toInt ≤ 250 := fM_0_21 t_83
          have : 0 ≤ (gi (C_80 0) 7).toInt ∧ (gi (C_80 0) 7).toInt ≤ 250 := fM_0_7 t_83
          have : 0 ≤ (gi (C_80 0) 23).toInt ∧ (gi (C_80 0) 23).toInt ≤ 250 := fM_0_23 t_83
          have : 0 ≤ (gi (C_80 0) 13).toInt ∧ (gi (C_80 0) 13).toInt ≤ 5 := fM_0_13 t_83
          refine tm_V (As := [.ref (G (3 + 18)), .ref (a (24 + (gi (C 0) 9).toNatClampNeg)), .int 2, .int 1, .int 60]) (rest := []) ⟨hx, hb, hml, hown, htg⟩ (e_X7_told l D E G _ a C_80 n hn hT 18 (24 + (gi (C 0) 9).toNatClampNeg) (2 : Int32) (1 : Int32) (60 : Int32) (by decide) (rg_w (rg_c (v := 1) (lo := 1) (hi := 1) (by decide)) (by decide)) (rg_w (rg_c (v := 60) (lo := 60) (hi := 60) (by decide)) (by decide)) ⟨(lt_blk hb0 hn (by decide)), (by omega), 7, fun C h => (h.broad hb0).1, (rg_in (rg_c (v := 2) (lo := 2) (hi := 2) (by decide)) (by decide)), fun C v h h1 h2 => (h.uproad hb0 (tA_upd (h.broad hb0) (tA_stc (k := 2) (by decide) (rg_any _) (by decide))))⟩ (by omega) hq_81.2.2.2.2.2.2.2.1 (by omega) (by omega)) (cwV 5 htg (oh_gV q_1234 q_1236 q_45 q_73 q_1237) rfl rfl rfl pdVX7_told ⟨Nat.le_of_ble_eq_true rfl, Nat.le_of_ble_eq_true rfl⟩) hK hP hD hG hS hA (va_recv hK hP (ci := 7) (q0 := 0) rfl (oh_wg (Nat.lt_of_lt_of_le (by decide) hn) (sM_0 hT))) rfl hl.1 rfl (Nat.le_of_ble_eq_true rfl) dX7_roadTold_69 ⟨Nat.le_of_ble_eq_true rfl, Nat.le_of_ble_eq_true rfl⟩ (fun r_90 C_91 H locs hq_92 hP hD hS => ?_)
          obtain ⟨hT, f_93, hq_92⟩ := hq_92
          have hF := fr_trk hF f_93 (inR_of (p := (24, 48)) (by decide) (by show 24 ≤ _; omega) (by show _ < 48; omega)) (by decide)
          refine W.widen (k := 0) (n := 0) (Nat.le_refl _) (Nat.le_refl _) ?_
          have t_94 := hT
          refine lv_if_ne (tgt := 77) hx hb dX7_roadTold_72 (by decide) (fun (c_95 : ¬ (r_90 = 0)) => ?_) (fun (c_95 : r_90 = 0) => ?_)
          · have u_96 := hq_92.2.2.2.1 c_95
            have u_97 := hq_92.2.2.2.2.1 c_95
            have u_98 := hq_92.2.2.2.2.2.1 c_95
            refine lv_aload_n hx hb dX7_roadTold_77 rfl (lv_at hl 0 rfl) ?_
            refine va_ldcS hx hb hown (hG.2.2.1 ("OneHeavyLoadModel", 221, "rise", 22) (List.mem_of_getElem? (i := 19) rfl)) dX7_roadTold_78 ?_
            refine lv_aload_n hx hb dX7_roadTold_80 rfl (lv_at hl 1 rfl) ?_
            refine lv_iconst (v := 3) hx hb dX7_roadTold_81 (by decide) ?_
            refine lv_iconst (v := 0) hx hb dX7_roadTold_82 (by decide) ?_
            refine lv_bipush (v := 9) hx hb dX7_roadTold_83 (by decide) ?_
            have : (gi (C_91 0) 7).toInt = (gi (C_80 0) 7).toInt := congrArg (fun z => (vi z).toInt) (f_93.2 7 (by decide))
            have : (gi (C_91 0) 13).toInt = (gi (C_80 0) 13).toInt := congrArg (fun z => (vi z).toInt) (f_93.2 13 (by decide))
            have : 0 ≤ (gi (C_91 0) 21).toInt ∧ (gi (C_91 0) 21).toInt ≤ 250 := fM_0_21 t_94
            have : 0 ≤ (gi (C_91 0) 7).toInt ∧ (gi (C_91 0) 7).toInt ≤ 250 := fM_0_7 t_94
            have : 0 ≤ (gi (C_91 0) 23).toInt ∧ (gi (C_91 0) 23).toInt ≤ 250 := fM_0_23 t_94
            have : 0 ≤ (gi (C_91 0) 13).toInt ∧ (gi (C_91 0) 13).toInt ≤ 5 := fM_0_13 t_94
            refine tm_V (As := [.ref (G (3 + 19)), .ref (a (24 + (gi (C 0) 9).toNatClampNeg)), .int 3, .int 0, .int 9]) (rest := []) ⟨hx, hb, hml, hown, htg⟩ (e_X7_perhaps l D E G _ a C_91 n hn hT 19 (24 + (gi (C 0) 9).toNatClampNeg) (3 : Int32) (0 : Int32) (9 : Int32) (by decide) (rg_w (rg_c (v := 0) (lo := 0) (hi := 0) (by decide)) (by decide)) (rg_w (rg_c (v := 9) (lo := 9) (hi := 9) (by decide)) (by decide)) ⟨(lt_blk hb0 hn (by decide)), (by omega), 7, fun C h => (h.broad hb0).1, (rg_in (rg_c (v := 3) (lo := 3) (hi := 3) (by decide)) (by decide)), fun C v h h1 h2 => (h.uproad hb0 (tA_upd (h.broad hb0) (tA_stc (k := 3) (by decide) (rg_any _) (by decide))))⟩ (by omega) hq_92.2.2.2.2.2.2.2.2.1 (by omega) (by omega)) (cwV 5 htg (oh_gV q_1239 q_1241 q_46 q_73 q_1242) rfl rfl rfl pdVX7_perhaps ⟨Nat.le_of_ble_eq_true rfl, Nat.le_of_ble_eq_true rfl⟩) hK hP hD hG hS hA (va_recv hK hP (ci := 7) (q0 := 0) rfl (oh_wg (Nat.lt_of_lt_of_le (by decide) hn) (sM_0 hT))) rfl hl.1 rfl (Nat.le_of_ble_eq_true rfl) dX7_roadTold_85 ⟨Nat.le_of_ble_eq_true rfl, Nat.le_of_ble_eq_true rfl⟩ (fun r_99 C_100 H locs hq_101 hP hD hS => ?_)
            obtain ⟨hT, f_102, hq_101⟩ := hq_101
            have hF := fr_trk hF f_102 (inR_of (p := (24, 48)) (by decide) (by show 24 ≤ _; omega) (by show _ < 48; omega)) (by decide)
            refine W.widen (k := 0) (n := 0) (Nat.le_refl _) (Nat.le_refl _) ?_
            have t_103 := hT
            refine lv_if_eq (tgt := 119) hx hb dX7_roadTold_88 (by decide) (fun (c_104 : r_99 = 0) => ?_) (fun (c_104 : ¬ (r_99 = 0)) => ?_)
            · have u_105 := hq_101.2.2.2.2.1 c_104
              have u_106 := hq_101.2.2.2.2.2.1 c_104
              refine lv_iconst (v := 0) hx hb dX7_roadTold_119 (by decide) ?_
              have : (gi (C_100 0) 7).toInt = (gi (C_91 0) 7).toInt := congrArg (fun z => (vi z).toInt) (f_102.2 7 (by decide))
              have : (gi (C_100 0) 13).toInt = (gi (C_91 0) 13).toInt := congrArg (fun z => (vi z).toInt) (f_102.2 13 (by decide))
              have : 0 ≤ (gi (C_100 0) 21).toInt ∧ (gi (C_100 0) 21).toInt ≤ 250 := fM_0_21 t_103
              have : 0 ≤ (gi (C_100 0) 7).toInt ∧ (gi (C_100 0) 7).toInt ≤ 250 := fM_0_7 t_103
              have : 0 ≤ (gi (C_100 0) 23).toInt ∧ (gi (C_100 0) 23).toInt ≤ 250 := fM_0_23 t_103
              have : 0 ≤ (gi (C_100 0) 13).toInt ∧ (gi (C_100 0) 13).toInt ≤ 5 := fM_0_13 t_103
              have e0_107 := (mn_p (Eq.trans ep_11 (congrArg (xAdv (ga (C 7))) (pm_fr f_4 (by decide)))) (mn_f (congrArg ga (Eq.trans (f_9.1 7 rfl (by decide)) (f_4.1 7 rfl (by decide)))) u_19))
              rw [hQ]
              exact W.zret (v := 0) (ty := .boolean) hx hb hr (by decide) (fun t ht hW => ⟨⟨0, C_100, rfl, ⟨hT, hF, ⟨(Or.inl rfl), ⟨(by omega), hq_101.2.1.2⟩, (fun h9 => absurd rfl h9), (fun _ => ⟨(mr_road_e4 e0_107 (fun h8 => c_78 (lc0.mpr ((fa_eq (fM_0_23 t_16) (fM_0_21 t_16) (by omega) c_20 (fgN hq_14.2.2.2.2.2.2.2.1 (congrArg ga (Eq.trans (fr_at f_15 (by decide) (by omega)) (Eq.trans (f_9.1 7 rfl (by decide)) (f_4.1 7 rfl (by decide)))))) (mN_rg e0_107).1 (mN_rg e0_107).2).mp h8))) (mn_f (congrArg ga (Eq.trans (fr_at f_15 (by decide) (by omega)) (Eq.trans (f_9.1 7 rfl (by decide)) (f_4.1 7 rfl (by decide))))) u_89) (tn_f sw_miles (congrArg ga (Eq.trans (fr_at f_82 (by decide) (by omega)) (Eq.trans (fr_at f_15 (by decide) (by omega)) (Eq.trans (f_9.1 7 rfl (by decide)) (f_4.1 7 rfl (by decide)))))) u_98) (pn_f sw_rise (congrArg ga (Eq.trans (fr_at f_93 (by decide) (by omega)) (Eq.trans (fr_at f_82 (by decide) (by omega)) (Eq.trans (fr_at f_15 (by decide) (by omega)) (Eq.trans (f_9.1 7 rfl (by decide)) (f_4.1 7 rfl (by decide))))))) (Eq.trans (hq_92.2.2.1 ((3 : Int32)).toNatClampNeg (by decide)) (Eq.trans (hq_81.2.2.1 ((3 : Int32)).toNatClampNeg (by decide)) (Eq.trans (hq_14.2.2.1 ((3 : Int32)).toNatClampNeg (by decide)) (Eq.trans (congrArg (fun z => ga z ((3 : Int32)).toNatClampNeg) (f_9.1 _ rfl (by omega))) (hq_3.1 ((3 : Int32)).toNatClampNeg (by decide)))))) u_105)), (Eq.trans (congrArg vi (f_102.2 9 (by decide))) (Eq.trans (congrArg vi (f_93.2 9 (by decide))) (Eq.trans (congrArg vi (f_82.2 9 (by decide))) (Eq.trans (congrArg vi (f_15.2 9 (by decide))) (Eq.trans (congrArg vi (f_9.2 9 (by decide))) (congrArg vi (f_4.2 9 (by decide))))))))⟩), (fun i hne => (Eq.trans (fr_at f_102 (by omega) (by omega)) (Eq.trans (fr_at f_93 (by omega) (by omega)) (Eq.trans (fr_at f_82 (by omega) (by omega)) (Eq.trans (fr_at f_15 (by omega) (by omega)) (Eq.trans (f_9.1 _ rfl (by omega)) (hq_3.2 i hne))))))), hq_101.2.2.2.2.2.2.1, hq_101.2.2.2.2.2.2.2⟩⟩, ⟨by rw [ht]; exact hP, hD⟩⟩, hS.F ht⟩) hS.2.2 dX7_roadTold_120
            · have u_108 := hq_101.2.2.2.1 c_104
              refine lv_aload_n hx hb dX7_roadTold_91 rfl (lv_at hl 0 rfl) ?_
              refine va_ldcS hx hb hown (hG.2.2.1 ("OneHeavyLoadModel", 226, "turn", 23) (List.mem_of_getElem? (i := 20) rfl)) dX7_roadTold_92 ?_
              refine lv_aload_n hx hb dX7_roadTold_94 rfl (lv_at hl 1 rfl) ?_
              refine lv_iconst (v := 4) hx hb dX7_roadTold_95 (by decide) ?_
              refine lv_iconst (v := 1) hx hb dX7_roadTold_96 (by decide) ?_
              refine lv_bipush (v := 99) hx hb dX7_roadTold_97 (by decide) ?_
              have : (gi (C_100 0) 7).toInt = (gi (C_91 0) 7).toInt := congrArg (fun z => (vi z).toInt) (f_102.2 7 (by decide))
              have : (gi (C_100 0) 13).toInt = (gi (C_91 0) 13).toInt := congrArg (fun z => (vi z).toInt) (f_102.2 13 (by decide))
              have : 0 ≤ (gi (C_100 0) 21).toInt ∧ (gi (C_100 0) 21).toInt ≤ 250 := fM_0_21 t_103
              have : 0 ≤ (gi (C_100 0) 7).toInt ∧ (gi (C_100 0) 7).toInt ≤ 250 := fM_0_7 t_103
              have : 0 ≤ (gi (C_100 0) 23).toInt ∧ (gi (C_100 0) 23).toInt ≤ 250 := fM_0_23 t_103
              have : 0 ≤ (gi (C_100 0) 13).toInt ∧ (gi (C_100 0) 13).toInt ≤ 5 := fM_0_13 t_103
              refine tm_V (As := [.ref (G (3 + 20)), .ref (a (24 + (gi (C 0) 9).toNatClampNeg)), .int 4, .int 1, .int 99]) (rest := []) ⟨hx, hb, hml, hown, htg⟩ (e_X7_perhaps l D E G _ a C_100 n hn hT 20 (24 + (gi (C 0) 9).toNatClampNeg) (4 : Int32) (1 : Int32) (99 : Int32) (by decide) (rg_w (rg_c (v := 1) (lo := 1) (hi := 1) (by decide)) (by decide)) (rg_w (rg_c (v := 99) (lo := 99) (hi := 99) (by decide)) (by decide)) ⟨(lt_blk hb0 hn (by decide)), (by omega), 7, fun C h => (h.broad hb0).1, (rg_in (rg_c (v := 4) (lo := 4) (hi := 4) (by decide)) (by decide)), fun C v h h1 h2 => (h.uproad hb0 (tA_upd (h.broad hb0) (tA_stc (k := 4) (by decide) (rg_any _) (by decide))))⟩ (by omega) hq_101.2.2.2.2.2.2.1 (by omega) (by omega)) (cwV 5 htg (oh_gV q_1239 q_1241 q_46 q_73 q_1242) rfl rfl rfl pdVX7_perhaps ⟨Nat.le_of_ble_eq_true rfl, Nat.le_of_ble_eq_true rfl⟩) hK hP hD hG hS hA (va_recv hK hP (ci := 7) (q0 := 0) rfl (oh_wg (Nat.lt_of_lt_of_le (by decide) hn) (sM_0 hT))) rfl hl.1 rfl (Nat.le_of_ble_eq_true rfl) dX7_roadTold_99 ⟨Nat.le_of_ble_eq_true rfl, Nat.le_of_ble_eq_true rfl⟩ (fun r_109 C_110 H locs hq_111 hP hD hS => ?_)
              obtain ⟨hT, f_112, hq_111⟩ := hq_111
              have hF := fr_trk hF f_112 (inR_of (p := (24, 48)) (by decide) (by show 24 ≤ _; omega) (by show _ < 48; omega)) (by decide)
              refine W.widen (k := 0) (n := 0) (Nat.le_refl _) (Nat.le_refl _) ?_
              have t_113 := hT
              refine lv_if_eq (tgt := 119) hx hb dX7_roadTold_102 (by decide) (fun (c_114 : r_109 = 0) => ?_) (fun (c_114 : ¬ (r_109 = 0)) => ?_)
              · have u_115 := hq_111.2.2.2.2.1 c_114
                have u_116 := hq_111.2.2.2.2.2.1 c_114
                refine lv_iconst (v := 0) hx hb dX7_roadTold_119 (by decide) ?_
                have : (gi (C_110 0) 7).toInt = (gi (C_100 0) 7).toInt := congrArg (fun z => (vi z).toInt) (f_112.2 7 (by decide))
                have : (gi (C_110 0) 13).toInt = (gi (C_100 0) 13).toInt := congrArg (fun z => (vi z).toInt) (f_112.2 13 (by decide))
                have : 0 ≤ (gi (C_110 0) 21).toInt ∧ (gi (C_110 0) 21).toInt ≤ 250 := fM_0_21 t_113
                have : 0 ≤ (gi (C_110 0) 7).toInt ∧ (gi (C_110 0) 7).toInt ≤ 250 := fM_0_7 t_113
                have : 0 ≤ (gi (C_110 0) 23).toInt ∧ (gi (C_110 0) 23).toInt ≤ 250 := fM_0_23 t_113
                have : 0 ≤ (gi (C_110 0) 13).toInt ∧ (gi (C_110 0) 13).toInt ≤ 5 := fM_0_13 t_113
                have e0_117 := (mn_p (Eq.trans ep_11 (congrArg (xAdv (ga (C 7))) (pm_fr f_4 (by decide)))) (mn_f (congrArg ga (Eq.trans (f_9.1 7 rfl (by decide)) (f_4.1 7 rfl (by decide)))) u_19))
                rw [hQ]
                exact W.zret (v := 0) (ty := .boolean) hx hb hr (by decide) (fun t ht hW => ⟨⟨0, C_110, rfl, ⟨hT, hF, ⟨(Or.inl rfl), ⟨(by omega), hq_111.2.1.2⟩, (fun h9 => absurd rfl h9), (fun _ => ⟨(mr_road_e5 e0_117 (fun h8 => c_78 (lc0.mpr ((fa_eq (fM_0_23 t_16) (fM_0_21 t_16) (by omega) c_20 (fgN hq_14.2.2.2.2.2.2.2.1 (congrArg ga (Eq.trans (fr_at f_15 (by decide) (by omega)) (Eq.trans (f_9.1 7 rfl (by decide)) (f_4.1 7 rfl (by decide)))))) (mN_rg e0_117).1 (mN_rg e0_117).2).mp h8))) (mn_f (congrArg ga (Eq.trans (fr_at f_15 (by decide) (by omega)) (Eq.trans (f_9.1 7 rfl (by decide)) (f_4.1 7 rfl (by decide))))) u_89) (tn_f sw_miles (congrArg ga (Eq.trans (fr_at f_82 (by decide) (by omega)) (Eq.trans (fr_at f_15 (by decide) (by omega)) (Eq.trans (f_9.1 7 rfl (by decide)) (f_4.1 7 rfl (by decide)))))) u_98) (pn_f sw_rise (congrArg ga (Eq.trans (fr_at f_93 (by decide) (by omega)) (Eq.trans (fr_at f_82 (by decide) (by omega)) (Eq.trans (fr_at f_15 (by decide) (by omega)) (Eq.trans (f_9.1 7 rfl (by decide)) (f_4.1 7 rfl (by decide))))))) (Eq.trans (hq_92.2.2.1 ((3 : Int32)).toNatClampNeg (by decide)) (Eq.trans (hq_81.2.2.1 ((3 : Int32)).toNatClampNeg (by decide)) (Eq.trans (hq_14.2.2.1 ((3 : Int32)).toNatClampNeg (by decide)) (Eq.trans (congrArg (fun z => ga z ((3 : Int32)).toNatClampNeg) (f_9.1 _ rfl (by omega))) (hq_3.1 ((3 : Int32)).toNatClampNeg (by decide)))))) u_108) (pn_f sw_turn (congrArg ga (Eq.trans (fr_at f_102 (by decide) (by omega)) (Eq.trans (fr_at f_93 (by decide) (by omega)) (Eq.trans (fr_at f_82 (by decide) (by omega)) (Eq.trans (fr_at f_15 (by decide) (by omega)) (Eq.trans (f_9.1 7 rfl (by decide)) (f_4.1 7 rfl (by decide)))))))) (Eq.trans (hq_101.2.2.1 ((4 : Int32)).toNatClampNeg (by decide)) (Eq.trans (hq_92.2.2.1 ((4 : Int32)).toNatClampNeg (by decide)) (Eq.trans (hq_81.2.2.1 ((4 : Int32)).toNatClampNeg (by decide)) (Eq.trans (hq_14.2.2.1 ((4 : Int32)).toNatClampNeg (by decide)) (Eq.trans (congrArg (fun z => ga z ((4 : Int32)).toNatClampNeg) (f_9.1 _ rfl (by omega))) (hq_3.1 ((4 : Int32)).toNatClampNeg (by decide))))))) u_115)), (Eq.trans (congrArg vi (f_112.2 9 (by decide))) (Eq.trans (congrArg vi (f_102.2 9 (by decide))) (Eq.trans (congrArg vi (f_93.2 9 (by decide))) (Eq.trans (congrArg vi (f_82.2 9 (by decide))) (Eq.trans (congrArg vi (f_15.2 9 (by decide))) (Eq.trans (congrArg vi (f_9.2 9 (by decide))) (congrArg vi (f_4.2 9 (by decide)))))))))⟩), (fun i hne => (Eq.trans (fr_at f_112 (by omega) (by omega)) (Eq.trans (fr_at f_102 (by omega) (by omega)) (Eq.trans (fr_at f_93 (by omega) (by omega)) (Eq.trans (fr_at f_82 (by omega) (by omega)) (Eq.trans (fr_at f_15 (by omega) (by omega)) (Eq.trans (f_9.1 _ rfl (by omega)) (hq_3.2 i hne)))))))), hq_111.2.2.2.2.2.2.1, hq_111.2.2.2.2.2.2.2⟩⟩, ⟨by rw [ht]; exact hP, hD⟩⟩, hS.F ht⟩) hS.2.2 dX7_roadTold_120
              · have u_118 := hq_111.2.2.2.1 c_114
                refine lv_aload_n hx hb dX7_roadTold_105 rfl (lv_at hl 0 rfl) ?_
                refine va_ldcS hx hb hown (hG.2.2.1 ("OneHeavyLoadModel", 228, "parish", 24) (List.mem_of_getElem? (i := 21) rfl)) dX7_roadTold_106 ?_
                refine lv_aload_n hx hb dX7_roadTold_108 rfl (lv_at hl 1 rfl) ?_
                refine lv_iconst (v := 5) hx hb dX7_roadTold_109 (by decide) ?_
                refine lv_iconst (v := 0) hx hb dX7_roadTold_110 (by decide) ?_
                refine lv_bipush (v := 15) hx hb dX7_roadTold_111 (by decide) ?_
                have : (gi (C_110 0) 7).toInt = (gi (C_100 0) 7).toInt := congrArg (fun z => (vi z).toInt) (f_112.2 7 (by decide))
                have : (gi (C_110 0) 13).toInt = (gi (C_100 0) 13).toInt := congrArg (fun z => (vi z).toInt) (f_112.2 13 (by decide))
                have : 0 ≤ (gi (C_110 0) 21).toInt ∧ (gi (C_110 0) 21).toInt ≤ 250 := fM_0_21 t_113
                have : 0 ≤ (gi (C_110 0) 7).toInt ∧ (gi (C_110 0) 7).toInt ≤ 250 := fM_0_7 t_113
                have : 0 ≤ (gi (C_110 0) 23).toInt ∧ (gi (C_110 0) 23).toInt ≤ 250 := fM_0_23 t_113
                have : 0 ≤ (gi (C_110 0) 13).toInt ∧ (gi (C_110 0) 13).toInt ≤ 5 := fM_0_13 t_113
                refine tm_V (As := [.ref (G (3 + 21)), .ref (a (24 + (gi (C 0) 9).toNatClampNeg)), .int 5, .int 0, .int 15]) (rest := []) ⟨hx, hb, hml, hown, htg⟩ (e_X7_perhaps l D E G _ a C_110 n hn hT 21 (24 + (gi (C 0) 9).toNatClampNeg) (5 : Int32) (0 : Int32) (15 : Int32) (by decide) (rg_w (rg_c (v := 0) (lo := 0) (hi := 0) (by decide)) (by decide)) (rg_w (rg_c (v := 15) (lo := 15) (hi := 15) (by decide)) (by decide)) ⟨(lt_blk hb0 hn (by decide)), (by omega), 7, fun C h => (h.broad hb0).1, (rg_in (rg_c (v := 5) (lo := 5) (hi := 5) (by decide)) (by decide)), fun C v h h1 h2 => (h.uproad hb0 (tA_upd (h.broad hb0) (tA_stc (k := 5) (by decide) (rg_any _) (by decide))))⟩ (by omega) hq_111.2.2.2.2.2.2.1 (by omega) (by omega)) (cwV 5 htg (oh_gV q_1239 q_1241 q_46 q_73 q_1242) rfl rfl rfl pdVX7_perhaps ⟨Nat.le_of_ble_eq_true rfl, Nat.le_of_ble_eq_true rfl⟩) hK hP hD hG hS hA (va_recv hK hP (ci := 7) (q0 := 0) rfl (oh_wg (Nat.lt_of_lt_of_le (by decide) hn) (sM_0 hT))) rfl hl.1 rfl (Nat.le_of_ble_eq_true rfl) dX7_roadTold_113 ⟨Nat.le_of_ble_eq_true rfl, Nat.le_of_ble_eq_true rfl⟩ (fun r_119 C_120 H locs hq_121 hP hD hS => ?_)
                obtain ⟨hT, f_122, hq_121⟩ := hq_121
                have hF := fr_trk hF f_122 (inR_of (p := (24, 48)) (by decide) (by show 24 ≤ _; omega) (by show _ < 48; omega)) (by decide)
                refine W.widen (k := 0) (n := 0) (Nat.le_refl _) (Nat.le_refl _) ?_
                have t_123 := hT
                refine lv_if_ne (tgt := 121) hx hb dX7_roadTold_116 (by decide) (fun (c_124 : ¬ (r_119 = 0)) => ?_) (fun (c_124 : r_119 = 0) => ?_)
                · have u_125 := hq_121.2.2.2.1 c_124
                  refine lv_aload_n hx hb dX7_roadTold_121 rfl (lv_at hl 0 rfl) ?_
                  refine lv_dup hx hb dX7_roadTold_122 rfl ?_
                  refine va_get (D := D) (ci := 7) (v := .int (gi (C 0) 9)) (C := RX7) (T := TX7) (N := 29) hx hb htg ig_7 hown hK hP 0 (oh_wg (Nat.lt_of_lt_of_le (by decide) hn) (sM_0 hT)) rfl 9 (by decide) (htg _ q_982) (fun _ h9 => h9) (oh_fv (c := C_120 0) (j := 9) rfl (Eq.trans (congrArg vi (f_122.2 9 (by decide))) (Eq.trans (congrArg vi (f_112.2 9 (by decide))) (Eq.trans (congrArg vi (f_102.2 9 (by decide))) (Eq.trans (congrArg vi (f_93.2 9 (by decide))) (Eq.trans (congrArg vi (f_82.2 9 (by decide))) (Eq.trans (congrArg vi (f_15.2 9 (by decide))) (Eq.trans (congrArg vi (f_9.2 9 (by decide))) (congrArg vi (f_4.2 9 (by decide))))))))))) dX7_roadTold_123 ?_
                  refine lv_iconst (v := 1) hx hb dX7_roadTold_126 (by decide) ?_
                  refine lv_iadd hx hb dX7_roadTold_127 ?_
                  refine th_put (Tp := TyM a E) (Rl := fr [(24, 48)] [9, 21, 22, 23, 24, 25] C) (ci := 7) (v := .int ((gi (C 0) 9) + 1)) (ty := .int) (CC := RX7) (T := TX7) (N := 29) hx hb htg ig_7 tyX7 tyX7_ok nmX7 hown hK hP hD hS 0 (Nat.lt_of_lt_of_le (by decide) hn) (sM_0 hT) rfl 9 (by decide) (htg _ q_982) (fun _ h9 => h9) rfl (by decide +kernel) rfl rfl (Nat.le_of_ble_eq_true rfl) (hT.up 0 (by decide) ⟨rfl, (fM_0_7 hT), (rg_w (rg_add (lo := 1) (hi := 24) h9 (rg_c (v := 1) (lo := 1) (hi := 1) (by decide)) (by decide)) (by decide)), (fM_0_11 hT), (fM_0_13 hT), (fM_0_15 hT), (fM_0_21 hT), (fM_0_23 hT)⟩) (fr_fd hF (sM_0 hT) (by decide)) dX7_roadTold_128 (fun C_126 H locs e_127 hT hF hP hD hS => ?_)
                  have t_128 := hT
                  refine lv_iconst (v := 1) hx hb dX7_roadTold_131 (by decide) ?_
                  have : (gi (C_120 0) 7).toInt = (gi (C_110 0) 7).toInt := congrArg (fun z => (vi z).toInt) (f_122.2 7 (by decide))
                  have : (gi (C_120 0) 13).toInt = (gi (C_110 0) 13).toInt := congrArg (fun z => (vi z).toInt) (f_122.2 13 (by decide))
                  have : (gi (C_126 0) 21).toInt = (gi (C_120 0) 21).toInt := congrArg Int32.toInt (show gi (C_126 0) 21 = gi (C_120 0) 21 by rw [e_127]; rfl)
                  have : (gi (C_126 0) 7).toInt = (gi (C_120 0) 7).toInt := congrArg Int32.toInt (show gi (C_126 0) 7 = gi (C_120 0) 7 by rw [e_127]; rfl)
                  have : (gi (C_126 0) 23).toInt = (gi (C_120 0) 23).toInt := congrArg Int32.toInt (show gi (C_126 0) 23 = gi (C_120 0) 23 by rw [e_127]; rfl)
                  have : (gi (C_126 0) 13).toInt = (gi (C_120 0) 13).toInt := congrArg Int32.toInt (show gi (C_126 0) 13 = gi (C_120 0) 13 by rw [e_127]; rfl)
                  have : 0 ≤ (gi (C_120 0) 21).toInt ∧ (gi (C_120 0) 21).toInt ≤ 250 := fM_0_21 t_123
                  have : 0 ≤ (gi (C_120 0) 7).toInt ∧ (gi (C_120 0) 7).toInt ≤ 250 := fM_0_7 t_123
                  have : 0 ≤ (gi (C_120 0) 23).toInt ∧ (gi (C_120 0) 23).toInt ≤ 250 := fM_0_23 t_123
                  have : 0 ≤ (gi (C_120 0) 13).toInt ∧ (gi (C_120 0) 13).toInt ≤ 5 := fM_0_13 t_123
                  have : 0 ≤ (gi (C_126 0) 21).toInt ∧ (gi (C_126 0) 21).toInt ≤ 250 := fM_0_21 t_128
                  have : 0 ≤ (gi (C_126 0) 7).toInt ∧ (gi (C_126 0) 7).toInt ≤ 250 := fM_0_7 t_128
                  have : 0 ≤ (gi (C_126 0) 23).toInt ∧ (gi (C_126 0) 23).toInt ≤ 250 := fM_0_23 t_128
                  have : 0 ≤ (gi (C_126 0) 13).toInt ∧ (gi (C_126 0) 13).toInt ≤ 5 := fM_0_13 t_128
                  have e0_129 := (mn_p (Eq.trans ep_11 (congrArg (xAdv (ga (C 7))) (pm_fr f_4 (by decide)))) (mn_f (congrArg ga (Eq.trans (f_9.1 7 rfl (by decide)) (f_4.1 7 rfl (by decide)))) u_19))
                  rw [hQ]
                  exact W.zret (v := 1) (ty := .boolean) hx hb hr (by decide) (fun t ht hW => ⟨⟨1, C_126, rfl, ⟨hT, hF, ⟨(Or.inr rfl), ⟨(by omega), (by omega)⟩, (fun _ => ⟨_, Eq.trans (mr_road_ok e0_129 (fun h8 => c_78 (lc0.mpr ((fa_eq (fM_0_23 t_16) (fM_0_21 t_16) (by omega) c_20 (fgN hq_14.2.2.2.2.2.2.2.1 (congrArg ga (Eq.trans (fr_at f_15 (by decide) (by omega)) (Eq.trans (f_9.1 7 rfl (by decide)) (f_4.1 7 rfl (by decide)))))) (mN_rg e0_129).1 (mN_rg e0_129).2).mp h8))) (mn_f (congrArg ga (Eq.trans (fr_at f_15 (by decide) (by omega)) (Eq.trans (f_9.1 7 rfl (by decide)) (f_4.1 7 rfl (by decide))))) u_89) (tn_f sw_miles (congrArg ga (Eq.trans (fr_at f_82 (by decide) (by omega)) (Eq.trans (fr_at f_15 (by decide) (by omega)) (Eq.trans (f_9.1 7 rfl (by decide)) (f_4.1 7 rfl (by decide)))))) u_98) (pn_f sw_rise (congrArg ga (Eq.trans (fr_at f_93 (by decide) (by omega)) (Eq.trans (fr_at f_82 (by decide) (by omega)) (Eq.trans (fr_at f_15 (by decide) (by omega)) (Eq.trans (f_9.1 7 rfl (by decide)) (f_4.1 7 rfl (by decide))))))) (Eq.trans (hq_92.2.2.1 ((3 : Int32)).toNatClampNeg (by decide)) (Eq.trans (hq_81.2.2.1 ((3 : Int32)).toNatClampNeg (by decide)) (Eq.trans (hq_14.2.2.1 ((3 : Int32)).toNatClampNeg (by decide)) (Eq.trans (congrArg (fun z => ga z ((3 : Int32)).toNatClampNeg) (f_9.1 _ rfl (by omega))) (hq_3.1 ((3 : Int32)).toNatClampNeg (by decide)))))) u_108) (pn_f sw_turn (congrArg ga (Eq.trans (fr_at f_102 (by decide) (by omega)) (Eq.trans (fr_at f_93 (by decide) (by omega)) (Eq.trans (fr_at f_82 (by decide) (by omega)) (Eq.trans (fr_at f_15 (by decide) (by omega)) (Eq.trans (f_9.1 7 rfl (by decide)) (f_4.1 7 rfl (by decide)))))))) (Eq.trans (hq_101.2.2.1 ((4 : Int32)).toNatClampNeg (by decide)) (Eq.trans (hq_92.2.2.1 ((4 : Int32)).toNatClampNeg (by decide)) (Eq.trans (hq_81.2.2.1 ((4 : Int32)).toNatClampNeg (by decide)) (Eq.trans (hq_14.2.2.1 ((4 : Int32)).toNatClampNeg (by decide)) (Eq.trans (congrArg (fun z => ga z ((4 : Int32)).toNatClampNeg) (f_9.1 _ rfl (by omega))) (hq_3.1 ((4 : Int32)).toNatClampNeg (by decide))))))) u_118) (pn_f sw_parish (congrArg ga (Eq.trans (fr_at f_112 (by decide) (by omega)) (Eq.trans (fr_at f_102 (by decide) (by omega)) (Eq.trans (fr_at f_93 (by decide) (by omega)) (Eq.trans (fr_at f_82 (by decide) (by omega)) (Eq.trans (fr_at f_15 (by decide) (by omega)) (Eq.trans (f_9.1 7 rfl (by decide)) (f_4.1 7 rfl (by decide))))))))) (Eq.trans (hq_111.2.2.1 ((5 : Int32)).toNatClampNeg (by decide)) (Eq.trans (hq_101.2.2.1 ((5 : Int32)).toNatClampNeg (by decide)) (Eq.trans (hq_92.2.2.1 ((5 : Int32)).toNatClampNeg (by decide)) (Eq.trans (hq_81.2.2.1 ((5 : Int32)).toNatClampNeg (by decide)) (Eq.trans (hq_14.2.2.1 ((5 : Int32)).toNatClampNeg (by decide)) (Eq.trans (congrArg (fun z => ga z ((5 : Int32)).toNatClampNeg) (f_9.1 _ rfl (by omega))) (hq_3.1 ((5 : Int32)).toNatClampNeg (by decide)))))))) u_125)) (congrArg (fun z => Except.ok (_, z)) (pm_fd (j := 9) e_127 (sM_0 t_123) (by decide)).symm), rows7 (Eq.trans (congrArg (fun z => ga z ((0 : Int32)).toNatClampNeg) (th_un e_127 (by omega))) (Eq.trans (hq_121.2.2.1 ((0 : Int32)).toNatClampNeg (by decide)) (Eq.trans (hq_111.2.2.1 ((0 : Int32)).toNatClampNeg (by decide)) (Eq.trans (hq_101.2.2.1 ((0 : Int32)).toNatClampNeg (by decide)) (Eq.trans (hq_92.2.2.1 ((0 : Int32)).toNatClampNeg (by decide)) (hq_81.2.2.1 ((0 : Int32)).toNatClampNeg (by decide))))))) (Eq.trans (congrArg (fun z => ga z ((1 : Int32)).toNatClampNeg) (th_un e_127 (by omega))) (Eq.trans (hq_121.2.2.1 ((1 : Int32)).toNatClampNeg (by decide)) (Eq.trans (hq_111.2.2.1 ((1 : Int32)).toNatClampNeg (by decide)) (Eq.trans (hq_101.2.2.1 ((1 : Int32)).toNatClampNeg (by decide)) (hq_92.2.2.1 ((1 : Int32)).toNatClampNeg (by decide)))))) (Eq.trans (congrArg (fun z => ga z ((2 : Int32)).toNatClampNeg) (th_un e_127 (by omega))) (Eq.trans (hq_121.2.2.1 ((2 : Int32)).toNatClampNeg (by decide)) (Eq.trans (hq_111.2.2.1 ((2 : Int32)).toNatClampNeg (by decide)) (hq_101.2.2.1 ((2 : Int32)).toNatClampNeg (by decide))))) (Eq.trans (congrArg (fun z => ga z ((3 : Int32)).toNatClampNeg) (th_un e_127 (by omega))) (Eq.trans (hq_121.2.2.1 ((3 : Int32)).toNatClampNeg (by decide)) (hq_111.2.2.1 ((3 : Int32)).toNatClampNeg (by decide)))) (Eq.trans (congrArg (fun z => ga z ((4 : Int32)).toNatClampNeg) (th_un e_127 (by omega))) (hq_121.2.2.1 ((4 : Int32)).toNatClampNeg (by decide))) (congrArg (fun z => ga z ((5 : Int32)).toNatClampNeg) (th_un e_127 (by omega))) (Eq.trans (congrArg (fun z => ga z ((6 : Int32)).toNatClampNeg) (th_un e_127 (by omega))) (Eq.trans (hq_121.2.2.1 ((6 : Int32)).toNatClampNeg (by decide)) (Eq.trans (hq_111.2.2.1 ((6 : Int32)).toNatClampNeg (by decide)) (Eq.trans (hq_101.2.2.1 ((6 : Int32)).toNatClampNeg (by decide)) (Eq.trans (hq_92.2.2.1 ((6 : Int32)).toNatClampNeg (by decide)) (Eq.trans (hq_81.2.2.1 ((6 : Int32)).toNatClampNeg (by decide)) (Eq.trans (hq_14.2.2.1 ((6 : Int32)).toNatClampNeg (by decide)) (Eq.trans (congrArg (fun z => ga z ((6 : Int32)).toNatClampNeg) (f_9.1 _ rfl (by omega))) (hq_3.1 ((6 : Int32)).toNatClampNeg (by decide)))))))))), (show gi (C_126 0) 9 = ((gi (C 0) 9) + 1) by rw [e_127]; rfl)⟩), (fun h9 => absurd h9 (by decide)), (fun i hne => (Eq.trans (th_un e_127 (by omega)) (Eq.trans (fr_at f_122 (by omega) (by omega)) (Eq.trans (fr_at f_112 (by omega) (by omega)) (Eq.trans (fr_at f_102 (by omega) (by omega)) (Eq.trans (fr_at f_93 (by omega) (by omega)) (Eq.trans (fr_at f_82 (by omega) (by omega)) (Eq.trans (fr_at f_15 (by omega) (by omega)) (Eq.trans (f_9.1 _ rfl (by omega)) (hq_3.2 i hne)))))))))), (fgF (j := 9) hq_121.2.2.2.2.2.2.1 e_127 (sM_0 t_123) (by decide)), (by omega)⟩⟩, ⟨by rw [ht]; exact hP, hD⟩⟩, hS.F ht⟩) hS.2.2 dX7_roadTold_132
                · have u_130 := hq_121.2.2.2.2.1 c_124
                  have u_131 := hq_121.2.2.2.2.2.1 c_124
                  refine lv_iconst (v := 0) hx hb dX7_roadTold_119 (by decide) ?_
                  have : (gi (C_120 0) 7).toInt = (gi (C_110 0) 7).toInt := congrArg (fun z => (vi z).toInt) (f_122.2 7 (by decide))
                  have : (gi (C_120 0) 13).toInt = (gi (C_110 0) 13).toInt := congrArg (fun z => (vi z).toInt) (f_122.2 13 (by decide))
                  have : 0 ≤ (gi (C_120 0) 21).toInt ∧ (gi (C_120 0) 21).toInt ≤ 250 := fM_0_21 t_123
                  have : 0 ≤ (gi (C_120 0) 7).toInt ∧ (gi (C_120 0) 7).toInt ≤ 250 := fM_0_7 t_123
                  have : 0 ≤ (gi (C_120 0) 23).toInt ∧ (gi (C_120 0) 23).toInt ≤ 250 := fM_0_23 t_123
                  have : 0 ≤ (gi (C_120 0) 13).toInt ∧ (gi (C_120 0) 13).toInt ≤ 5 := fM_0_13 t_123
                  have e0_132 := (mn_p (Eq.trans ep_11 (congrArg (xAdv (ga (C 7))) (pm_fr f_4 (by decide)))) (mn_f (congrArg ga (Eq.trans (f_9.1 7 rfl (by decide)) (f_4.1 7 rfl (by decide)))) u_19))
                  rw [hQ]
                  exact W.zret (v := 0) (ty := .boolean) hx hb hr (by decide) (fun t ht hW => ⟨⟨0, C_120, rfl, ⟨hT, hF, ⟨(Or.inl rfl), ⟨(by omega), hq_121.2.1.2⟩, (fun h9 => absurd rfl h9), (fun _ => ⟨(mr_road_e6 e0_132 (fun h8 => c_78 (lc0.mpr ((fa_eq (fM_0_23 t_16) (fM_0_21 t_16) (by omega) c_20 (fgN hq_14.2.2.2.2.2.2.2.1 (congrArg ga (Eq.trans (fr_at f_15 (by decide) (by omega)) (Eq.trans (f_9.1 7 rfl (by decide)) (f_4.1 7 rfl (by decide)))))) (mN_rg e0_132).1 (mN_rg e0_132).2).mp h8))) (mn_f (congrArg ga (Eq.trans (fr_at f_15 (by decide) (by omega)) (Eq.trans (f_9.1 7 rfl (by decide)) (f_4.1 7 rfl (by decide))))) u_89) (tn_f sw_miles (congrArg ga (Eq.trans (fr_at f_82 (by decide) (by omega)) (Eq.trans (fr_at f_15 (by decide) (by omega)) (Eq.trans (f_9.1 7 rfl (by decide)) (f_4.1 7 rfl (by decide)))))) u_98) (pn_f sw_rise (congrArg ga (Eq.trans (fr_at f_93 (by decide) (by omega)) (Eq.trans (fr_at f_82 (by decide) (by omega)) (Eq.trans (fr_at f_15 (by decide) (by omega)) (Eq.trans (f_9.1 7 rfl (by decide)) (f_4.1 7 rfl (by decide))))))) (Eq.trans (hq_92.2.2.1 ((3 : Int32)).toNatClampNeg (by decide)) (Eq.trans (hq_81.2.2.1 ((3 : Int32)).toNatClampNeg (by decide)) (Eq.trans (hq_14.2.2.1 ((3 : Int32)).toNatClampNeg (by decide)) (Eq.trans (congrArg (fun z => ga z ((3 : Int32)).toNatClampNeg) (f_9.1 _ rfl (by omega))) (hq_3.1 ((3 : Int32)).toNatClampNeg (by decide)))))) u_108) (pn_f sw_turn (congrArg ga (Eq.trans (fr_at f_102 (by decide) (by omega)) (Eq.trans (fr_at f_93 (by decide) (by omega)) (Eq.trans (fr_at f_82 (by decide) (by omega)) (Eq.trans (fr_at f_15 (by decide) (by omega)) (Eq.trans (f_9.1 7 rfl (by decide)) (f_4.1 7 rfl (by decide)))))))) (Eq.trans (hq_101.2.2.1 ((4 : Int32)).toNatClampNeg (by decide)) (Eq.trans (hq_92.2.2.1 ((4 : Int32)).toNatClampNeg (by decide)) (Eq.trans (hq_81.2.2.1 ((4 : Int32)).toNatClampNeg (by decide)) (Eq.trans (hq_14.2.2.1 ((4 : Int32)).toNatClampNeg (by decide)) (Eq.trans (congrArg (fun z => ga z ((4 : Int32)).toNatClampNeg) (f_9.1 _ rfl (by omega))) (hq_3.1 ((4 : Int32)).toNatClampNeg (by decide))))))) u_118) (pn_f sw_parish (congrArg ga (Eq.trans (fr_at f_112 (by decide) (by omega)) (Eq.trans (fr_at f_102 (by decide) (by omega)) (Eq.trans (fr_at f_93 (by decide) (by omega)) (Eq.trans (fr_at f_82 (by decide) (by omega)) (Eq.trans (fr_at f_15 (by decide) (by omega)) (Eq.trans (f_9.1 7 rfl (by decide)) (f_4.1 7 rfl (by decide))))))))) (Eq.trans (hq_111.2.2.1 ((5 : Int32)).toNatClampNeg (by decide)) (Eq.trans (hq_101.2.2.1 ((5 : Int32)).toNatClampNeg (by decide)) (Eq.trans (hq_92.2.2.1 ((5 : Int32)).toNatClampNeg (by decide)) (Eq.trans (hq_81.2.2.1 ((5 : Int32)).toNatClampNeg (by decide)) (Eq.trans (hq_14.2.2.1 ((5 : Int32)).toNatClampNeg (by decide)) (Eq.trans (congrArg (fun z => ga z ((5 : Int32)).toNatClampNeg) (f_9.1 _ rfl (by omega))) (hq_3.1 ((5 : Int32)).toNatClampNeg (by decide)))))))) u_130)), (Eq.trans (congrArg vi (f_122.2 9 (by decide))) (Eq.trans (congrArg vi (f_112.2 9 (by decide))) (Eq.trans (congrArg vi (f_102.2 9 (by decide))) (Eq.trans (congrArg vi (f_93.2 9 (by decide))) (Eq.trans (congrArg vi (f_82.2 9 (by decide))) (Eq.trans (congrArg vi (f_15.2 9 (by decide))) (Eq.trans (congrArg vi (f_9.2 9 (by decide))) (congrArg vi (f_4.2 9 (by decide))))))))))⟩), (fun i hne => (Eq.trans (fr_at f_122 (by omega) (by omega)) (Eq.trans (fr_at f_112 (by omega) (by omega)) (Eq.trans (fr_at f_102 (by omega) (by omega)) (Eq.trans (fr_at f_93 (by omega) (by omega)) (Eq.trans (fr_at f_82 (by omega) (by omega)) (Eq.trans (fr_at f_15 (by omega) (by omega)) (Eq.trans (f_9.1 _ rfl (by omega)) (hq_3.2 i hne))))))))), hq_121.2.2.2.2.2.2.1, hq_121.2.2.2.2.2.2.2⟩⟩, ⟨by rw [ht]; exact hP, hD⟩⟩, hS.F ht⟩) hS.2.2 dX7_roadTold_120
          · have u_133 := hq_92.2.2.2.2.2.2.1 c_95
            have u_134 := hq_92.2.2.2.2.2.2.2.1 c_95
            refine lv_iconst (v := 0) hx hb dX7_roadTold_75 (by decide) ?_
            have : (gi (C_91 0) 7).toInt = (gi (C_80 0) 7).toInt := congrArg (fun z => (vi z).toInt) (f_93.2 7 (by decide))
            have : (gi (C_91 0) 13).toInt = (gi (C_80 0) 13).toInt := congrArg (fun z => (vi z).toInt) (f_93.2 13 (by decide))
            have : 0 ≤ (gi (C_91 0) 21).toInt ∧ (gi (C_91 0) 21).toInt ≤ 250 := fM_0_21 t_94
            have : 0 ≤ (gi (C_91 0) 7).toInt ∧ (gi (C_91 0) 7).toInt ≤ 250 := fM_0_7 t_94
            have : 0 ≤ (gi (C_91 0) 23).toInt ∧ (gi (C_91 0) 23).toInt ≤ 250 := fM_0_23 t_94
            have : 0 ≤ (gi (C_91 0) 13).toInt ∧ (gi (C_91 0) 13).toInt ≤ 5 := fM_0_13 t_94
            have e0_135 := (mn_p (Eq.trans ep_11 (congrArg (xAdv (ga (C 7))) (pm_fr f_4 (by decide)))) (mn_f (congrArg ga (Eq.trans (f_9.1 7 rfl (by decide)) (f_4.1 7 rfl (by decide)))) u_19))
            rw [hQ]
            exact W.zret (v := 0) (ty := .boolean) hx hb hr (by decide) (fun t ht hW => ⟨⟨0, C_91, rfl, ⟨hT, hF, ⟨(Or.inl rfl), ⟨(by omega), hq_92.2.1.2⟩, (fun h9 => absurd rfl h9), (fun _ => ⟨(mr_road_e3 e0_135 (fun h8 => c_78 (lc0.mpr ((fa_eq (fM_0_23 t_16) (fM_0_21 t_16) (by omega) c_20 (fgN hq_14.2.2.2.2.2.2.2.1 (congrArg ga (Eq.trans (fr_at f_15 (by decide) (by omega)) (Eq.trans (f_9.1 7 rfl (by decide)) (f_4.1 7 rfl (by decide)))))) (mN_rg e0_135).1 (mN_rg e0_135).2).mp h8))) (mn_f (congrArg ga (Eq.trans (fr_at f_15 (by decide) (by omega)) (Eq.trans (f_9.1 7 rfl (by decide)) (f_4.1 7 rfl (by decide))))) u_89) (tn_f sw_miles (congrArg ga (Eq.trans (fr_at f_82 (by decide) (by omega)) (Eq.trans (fr_at f_15 (by decide) (by omega)) (Eq.trans (f_9.1 7 rfl (by decide)) (f_4.1 7 rfl (by decide)))))) u_133)), (Eq.trans (congrArg vi (f_93.2 9 (by decide))) (Eq.trans (congrArg vi (f_82.2 9 (by decide))) (Eq.trans (congrArg vi (f_15.2 9 (by decide))) (Eq.trans (congrArg vi (f_9.2 9 (by decide))) (congrArg vi (f_4.2 9 (by decide)))))))⟩), (fun i hne => (Eq.trans (fr_at f_93 (by omega) (by omega)) (Eq.trans (fr_at f_82 (by omega) (by omega)) (Eq.trans (fr_at f_15 (by omega) (by omega)) (Eq.trans (f_9.1 _ rfl (by omega)) (hq_3.2 i hne)))))), hq_92.2.2.2.2.2.2.2.2.1, hq_92.2.2.2.2.2.2.2.2.2⟩⟩, ⟨by rw [ht]; exact hP, hD⟩⟩, hS.F ht⟩) hS.2.2 dX7_roadTold_76
      · refine lv_aload_n hx hb dX7_roadTold_44 rfl (lv_at hl 0 rfl) ?_
        refine tm_V (As := []) (rest := []) ⟨hx, hb, hml, hown, htg⟩ (e_X7_wrong l D E G _ a C_13 n hn hT) (cwV 0 htg (oh_gV q_1229 q_1231 q_44 q_73 q_1232) rfl rfl rfl pdVX7_wrong ⟨Nat.le_of_ble_eq_true rfl, Nat.le_of_ble_eq_true rfl⟩) hK hP hD hG hS hA (va_recv hK hP (ci := 7) (q0 := 0) rfl (oh_wg (Nat.lt_of_lt_of_le (by decide) hn) (sM_0 hT))) rfl hl.1 rfl (Nat.le_of_ble_eq_true rfl) dX7_roadTold_45 ⟨Nat.le_of_ble_eq_true rfl, Nat.le_of_ble_eq_true rfl⟩ (fun r_136 C_137 H locs hq_138 hP hD hS => ?_)
        obtain ⟨hT, f_139, hq_138⟩ := hq_138
        have hF := fr_tr hF f_139 (by decide) (by decide)
        refine W.widen (k := 0) (n := 0) (Nat.le_refl _) (Nat.le_refl _) ?_
        have t_140 := hT
        have : (gi (C_13 0) 7).toInt = (gi (C_7 0) 7).toInt := congrArg (fun z => (vi z).toInt) (f_15.2 7 (by decide))
        have : (gi (C_13 0) 13).toInt = (gi (C_7 0) 13).toInt := congrArg (fun z => (vi z).toInt) (f_15.2 13 (by decide))
        have : (gi (C_137 0) 21).toInt = (gi (C_13 0) 21).toInt := congrArg (fun z => (vi z).toInt) (f_139.2 21 (by decide))
        have : (gi (C_137 0) 7).toInt = (gi (C_13 0) 7).toInt := congrArg (fun z => (vi z).toInt) (f_139.2 7 (by decide))
        have : (gi (C_137 0) 23).toInt = (gi (C_13 0) 23).toInt := congrArg (fun z => (vi z).toInt) (f_139.2 23 (by decide))
        have : (gi (C_137 0) 13).toInt = (gi (C_13 0) 13).toInt := congrArg (fun z => (vi z).toInt) (f_139.2 13 (by decide))
        have : 0 ≤ (gi (C_13 0) 21).toInt ∧ (gi (C_13 0) 21).toInt ≤ 250 := fM_0_21 t_16
        have : 0 ≤ (gi (C_13 0) 7).toInt ∧ (gi (C_13 0) 7).toInt ≤ 250 := fM_0_7 t_16
        have : 0 ≤ (gi (C_13 0) 23).toInt ∧ (gi (C_13 0) 23).toInt ≤ 250 := fM_0_23 t_16
        have : 0 ≤ (gi (C_13 0) 13).toInt ∧ (gi (C_13 0) 13).toInt ≤ 5 := fM_0_13 t_16
        have : 0 ≤ (gi (C_137 0) 21).toInt ∧ (gi (C_137 0) 21).toInt ≤ 250 := fM_0_21 t_140
        have : 0 ≤ (gi (C_137 0) 7).toInt ∧ (gi (C_137 0) 7).toInt ≤ 250 := fM_0_7 t_140
        have : 0 ≤ (gi (C_137 0) 23).toInt ∧ (gi (C_137 0) 23).toInt ≤ 250 := fM_0_23 t_140
        have : 0 ≤ (gi (C_137 0) 13).toInt ∧ (gi (C_137 0) 13).toInt ≤ 5 := fM_0_13 t_140
        have : (2 : Int32).toInt = 2 := rfl
        have e0_141 := (mn_p (Eq.trans ep_11 (congrArg (xAdv (ga (C 7))) (pm_fr f_4 (by decide)))) (mn_f (congrArg ga (Eq.trans (f_9.1 7 rfl (by decide)) (f_4.1 7 rfl (by decide)))) u_19))
        rw [hQ]
        exact W.zret (v := r_136) (ty := .boolean) hx hb hr (oh_nb hq_138.1) (fun t ht hW => ⟨⟨r_136, C_137, rfl, ⟨hT, hF, ⟨hq_138.1, ⟨(by omega), (by omega)⟩, (fun h9 => (absurd hq_138.2.1 h9)), (fun h9 => ⟨(Eq.trans (mr_road_e1 e0_141 ((fa_eq (fM_0_23 t_16) (fM_0_21 t_16) (by omega) c_20 (fgN hq_14.2.2.2.2.2.2.2.1 (congrArg ga (Eq.trans (fr_at f_15 (by decide) (by omega)) (Eq.trans (f_9.1 7 rfl (by decide)) (f_4.1 7 rfl (by decide)))))) (mN_rg e0_141).1 (mN_rg e0_141).2).mpr (lc0.mp c_78))) (congrArg Except.error hq_138.2.2.symm)), (Eq.trans (congrArg vi (f_139.2 9 (by decide))) (Eq.trans (congrArg vi (f_15.2 9 (by decide))) (Eq.trans (congrArg vi (f_9.2 9 (by decide))) (congrArg vi (f_4.2 9 (by decide))))))⟩), (fun i hne => (Eq.trans (f_139.1 _ rfl (by omega)) (Eq.trans (fr_at f_15 (by omega) (by omega)) (Eq.trans (f_9.1 _ rfl (by omega)) (hq_3.2 i hne))))), (fgR hq_14.2.2.2.2.2.2.2.1 f_139 (f_139.1 7 rfl (by decide)) (by decide)), (by omega)⟩⟩, ⟨by rw [ht]; exact hP, hD⟩⟩, hS.F ht⟩) hS.2.2 dX7_roadTold_48
  · have u_142 := hq_14.2.2.2.2.2.1 c_17
    have u_143 := hq_14.2.2.2.2.2.2.1 c_17
    refine lv_iconst (v := 0) hx hb dX7_roadTold_22 (by decide) ?_
    have : (gi (C_13 0) 7).toInt = (gi (C_7 0) 7).toInt := congrArg (fun z => (vi z).toInt) (f_15.2 7 (by decide))
    have : (gi (C_13 0) 13).toInt = (gi (C_7 0) 13).toInt := congrArg (fun z => (vi z).toInt) (f_15.2 13 (by decide))
    have : 0 ≤ (gi (C_13 0) 21).toInt ∧ (gi (C_13 0) 21).toInt ≤ 250 := fM_0_21 t_16
    have : 0 ≤ (gi (C_13 0) 7).toInt ∧ (gi (C_13 0) 7).toInt ≤ 250 := fM_0_7 t_16
    have : 0 ≤ (gi (C_13 0) 23).toInt ∧ (gi (C_13 0) 23).toInt ≤ 250 := fM_0_23 t_16
    have : 0 ≤ (gi (C_13 0) 13).toInt ∧ (gi (C_13 0) 13).toInt ≤ 5 := fM_0_13 t_16
    rw [hQ]
    exact W.zret (v := 0) (ty := .boolean) hx hb hr (by decide) (fun t ht hW => ⟨⟨0, C_13, rfl, ⟨hT, hF, ⟨(Or.inl rfl), ⟨(by omega), hq_14.2.1.2⟩, (fun h9 => absurd rfl h9), (fun _ => ⟨(mr_road_e0 (mn_p (Eq.trans ep_11 (congrArg (xAdv (ga (C 7))) (pm_fr f_4 (by decide)))) (mn_f (congrArg ga (Eq.trans (f_9.1 7 rfl (by decide)) (f_4.1 7 rfl (by decide)))) u_142))), (Eq.trans (congrArg vi (f_15.2 9 (by decide))) (Eq.trans (congrArg vi (f_9.2 9 (by decide))) (congrArg vi (f_4.2 9 (by decide)))))⟩), (fun i hne => (Eq.trans (fr_at f_15 (by omega) (by omega)) (Eq.trans (f_9.1 _ rfl (by omega)) (hq_3.2 i hne)))), hq_14.2.2.2.2.2.2.2.1, hq_14.2.2.2.2.2.2.2.2⟩⟩, ⟨by rw [ht]; exact hP, hD⟩⟩, hS.F ht⟩) hS.2.2 dX7_roadTold_23

theorem xw_f {f f1 : Nat → Int32} {p : PX} {i j : Nat} (hw : sameW i j) (ef : f1 = f) (h : XIs f1 p i) : XIs f p j := by
  rw [ef] at h
  exact (XIs_j hw).mp h
theorem xw_n {f f1 : Nat → Int32} {p : PX} {i j : Nat} (hw : sameW i j) (ef : f1 = f) (h : ¬ XIs f1 p i) : ¬ XIs f p j := by
  rw [ef] at h
  exact fun q => h ((XIs_j hw).mpr q)

set_option maxHeartbeats 4000000 in
set_option maxRecDepth 100000 in
theorem e_X7_bridgeTold (l : Launch) (D : va_G) (E : Nat → ClassId) (G : Nat → Nat) (sz : Nat) (a : Nat → Nat) (C : Nat → va_E) (n : Nat) (hn : 74 ≤ n) (hT : TyM a E C) (h9 : rg (gi (C 0) 11) 0 15) (hat : (gi (C 0) 21).toInt ≤ (gi (C 0) 7).toInt) : Met l yX7_bridgeTold (oh_w yX7_bridgeTold cX7_bridgeTold 2 (some .boolean)) ({ frames := 6, cells := 0, slots := 0, locals := 132 }) (oh_Pm D E G [.ref (a 0), .ref (a (48 + (gi (C 0) 11).toNatClampNeg))] (oh_W n a C) sz) (va_Qi (fun r (u : Nat → va_E) => TyM a E u ∧ fr [(48, 64)] [11, 21, 22, 23, 24, 25] C u ∧ (r = 0 ∨ r = 1) ∧ (((gi (C 0) 21).toInt ≤ (gi (u 0) 21).toInt) ∧ ((gi (u 0) 21).toInt ≤ (gi (u 0) 7).toInt)) ∧ (r ≠ 0 → (∃ v : Nat → Int32, rdBridge (ga (C 7)) (gi (C 0) 9) (pm C) = .ok (v, pm u) ∧ (∀ j, j < 10 → ga (u (48 + (gi (C 0) 11).toNatClampNeg)) j = v j) ∧ gi (u 0) 11 = gi (C 0) 11 + 1)) ∧ (r = 0 → (rdBridge (ga (C 7)) (gi (C 0) 9) (pm C) = .error (gi (u 0) 25) ∧ gi (u 0) 11 = gi (C 0) 11)) ∧ (∀ i, i ≠ (gi (C 0) 11).toNatClampNeg → u (48 + i) = C (48 + i)) ∧ (FG u) ∧ ((gi (u 0) 23).toInt ≤ (gi (u 0) 21).toInt)) (oh_B D (va_A (oh_W n a C) sz) (fun u => oh_W n a u)) (va_A (oh_W n a C) sz)) 0 0 (va_A (oh_W n a C) sz) := by
  refine Met.ofW (cc := cX7_bridgeTold) (maxL := 2) (ret := (some .boolean)) (by decide) rfl ?_
  intro p e s m args below meth c s₁ B hml hv
  obtain ⟨rfl, hsz, hP, hK, hD0, hG⟩ := hv
  have hx := B.exec
  have hb := B.bytes
  have hr := B.returns
  have hts := atoms_spec (ws := (oh_w yX7_bridgeTold cX7_bridgeTold 2 (some .boolean))) B.pre
  have htg : ∀ w ∈ oh_t, w.before _ s = true := fun w h => hts w (List.mem_cons_of_mem _ h)
  have hown : s.vm.findClass RX7 = some m.cls := findClass_of_methodNamed B.named
  have hlocks := B.notSynchronized
  have hT0 := hT
  subst hsz
  have hD := hD0.self (sz := s.heap.size)
  generalize hAe : va_A (oh_W n a C) s.heap.size = A at hD hG ⊢
  have hA : ∀ q : Nat, s.heap.size ≤ q → A q := fun q h => by rw [← hAe]; exact Or.inr h
  have hS : va_S A s.heap s.heap [] := va_S.rf
  have hF : fr [(48, 64)] [11, 21, 22, 23, 24, 25] C C := fr_rf
  have hl := lv_entry ([.ref (a 0), .ref (a (48 + (gi (C 0) 11).toNatClampNeg))]) (n := 2) (Nat.le_of_ble_eq_true rfl)
  rw [lg_entry_eq]
  generalize (lg_sl ([.ref (a 0), .ref (a (48 + (gi (C 0) 11).toNatClampNeg))]) ++ List.replicate (2 - (lg_sl ([.ref (a 0), .ref (a (48 + (gi (C 0) 11).toNatClampNeg))])).length) Slot.unset).toArray = ls at hl ⊢
  have hl : lv_has ls 2 [(0, .ref (a 0)), (1, .ref (a (48 + (gi (C 0) 11).toNatClampNeg)))] := hl
  refine oh_genQ (fun Q hQ => ?_)
  have hb0 : (gi (C 0) 11).toNatClampNeg < 16 := vp_lt (rg_in h9 (by decide))
  refine lv_aload_n hx hb dX7_bridgeTold_0 rfl (lv_at hl 0 rfl) ?_
  refine tm_Vv (As := []) (rest := []) ⟨hx, hb, hml, hown, htg⟩ (e_X7_newBridge l D E G _ a C n hn hT (rg_w (lo := 0) (hi := 15) h9 (by decide))) (cwV 0 htg (oh_gV q_1150 q_1152 q_37 q_73 q_1153) rfl rfl rfl pdVX7_newBridge ⟨Nat.le_of_ble_eq_true rfl, Nat.le_of_ble_eq_true rfl⟩) hK hP hD hG hS hA (va_recv hK hP (ci := 7) (q0 := 0) rfl (oh_wg (Nat.lt_of_lt_of_le (by decide) hn) (sM_0 hT))) rfl hl.1 rfl (Nat.le_of_ble_eq_true rfl) dX7_bridgeTold_1 ⟨Nat.le_of_ble_eq_true rfl, Nat.le_of_ble_eq_true rfl⟩ (fun C_2 H locs hq_3 hP hD hS => ?_)
  obtain ⟨hT, f_4, hq_3⟩ := hq_3
  have hF := fr_tr hF f_4 (by decide) (by decide)
  refine W.widen (k := 0) (n := 0) (Nat.le_refl _) (Nat.le_refl _) ?_
  have t_5 := hT
  refine lv_aload_n hx hb dX7_bridgeTold_4 rfl (lv_at hl 0 rfl) ?_
  have : (gi (C_2 0) 21).toInt = (gi (C 0) 21).toInt := congrArg (fun z => (vi z).toInt) (f_4.2 21 (by decide))
  have : (gi (C_2 0) 7).toInt = (gi (C 0) 7).toInt := congrArg (fun z => (vi z).toInt) (f_4.2 7 (by decide))
  have : (gi (C_2 0) 23).toInt = (gi (C 0) 23).toInt := congrArg (fun z => (vi z).toInt) (f_4.2 23 (by decide))
  have : (gi (C_2 0) 13).toInt = (gi (C 0) 13).toInt := congrArg (fun z => (vi z).toInt) (f_4.2 13 (by decide))
  have : 0 ≤ (gi (C 0) 21).toInt ∧ (gi (C 0) 21).toInt ≤ 250 := fM_0_21 hT0
  have : 0 ≤ (gi (C 0) 7).toInt ∧ (gi (C 0) 7).toInt ≤ 250 := fM_0_7 hT0
  have : 0 ≤ (gi (C 0) 23).toInt ∧ (gi (C 0) 23).toInt ≤ 250 := fM_0_23 hT0
  have : 0 ≤ (gi (C 0) 13).toInt ∧ (gi (C 0) 13).toInt ≤ 5 := fM_0_13 hT0
  have : 0 ≤ (gi (C_2 0) 21).toInt ∧ (gi (C_2 0) 21).toInt ≤ 250 := fM_0_21 t_5
  have : 0 ≤ (gi (C_2 0) 7).toInt ∧ (gi (C_2 0) 7).toInt ≤ 250 := fM_0_7 t_5
  have : 0 ≤ (gi (C_2 0) 23).toInt ∧ (gi (C_2 0) 23).toInt ≤ 250 := fM_0_23 t_5
  have : 0 ≤ (gi (C_2 0) 13).toInt ∧ (gi (C_2 0) 13).toInt ≤ 5 := fM_0_13 t_5
  refine tm_Vv (As := []) (rest := []) ⟨hx, hb, hml, hown, htg⟩ (e_X7_look l D E G _ a C_2 n hn hT (by omega)) (cwV 0 htg (oh_gV q_1197 q_1199 q_39 q_73 q_1200) rfl rfl rfl pdVX7_look ⟨Nat.le_of_ble_eq_true rfl, Nat.le_of_ble_eq_true rfl⟩) hK hP hD hG hS hA (va_recv hK hP (ci := 7) (q0 := 0) rfl (oh_wg (Nat.lt_of_lt_of_le (by decide) hn) (sM_0 hT))) rfl hl.1 rfl (Nat.le_of_ble_eq_true rfl) dX7_bridgeTold_5 ⟨Nat.le_of_ble_eq_true rfl, Nat.le_of_ble_eq_true rfl⟩ (fun C_7 H locs hq_8 hP hD hS => ?_)
  obtain ⟨hT, f_9, hq_8⟩ := hq_8
  have hF := fr_tr hF f_9 (by decide) (by decide)
  refine W.widen (k := 0) (n := 0) (Nat.le_refl _) (Nat.le_refl _) ?_
  have t_10 := hT
  have ep_11 := hq_8.2.1
  rw [show ga (C_2 7) = ga (C 7) from congrArg ga (f_4.1 7 rfl (by decide))] at ep_11
  refine lv_aload_n hx hb dX7_bridgeTold_8 rfl (lv_at hl 0 rfl) ?_
  refine lv_aload_n hx hb dX7_bridgeTold_9 rfl (lv_at hl 1 rfl) ?_
  refine lv_iconst (v := 0) hx hb dX7_bridgeTold_10 (by decide) ?_
  refine lv_iconst (v := 0) hx hb dX7_bridgeTold_11 (by decide) ?_
  refine lv_aload_n hx hb dX7_bridgeTold_12 rfl (lv_at hl 0 rfl) ?_
  refine va_get (D := D) (ci := 7) (v := .int (gi (C 0) 9)) (C := RX7) (T := TX7) (N := 29) hx hb htg ig_7 hown hK hP 0 (oh_wg (Nat.lt_of_lt_of_le (by decide) hn) (sM_0 hT)) rfl 9 (by decide) (htg _ q_982) (fun _ h9 => h9) (oh_fv (c := C_7 0) (j := 9) rfl (Eq.trans (congrArg vi (f_9.2 9 (by decide))) (congrArg vi (f_4.2 9 (by decide))))) dX7_bridgeTold_13 ?_
  refine lv_iconst (v := 1) hx hb dX7_bridgeTold_16 (by decide) ?_
  refine lv_isub hx hb dX7_bridgeTold_17 ?_
  have : (gi (C_7 0) 7).toInt = (gi (C_2 0) 7).toInt := congrArg (fun z => (vi z).toInt) (f_9.2 7 (by decide))
  have : (gi (C_7 0) 13).toInt = (gi (C_2 0) 13).toInt := congrArg (fun z => (vi z).toInt) (f_9.2 13 (by decide))
  have : 0 ≤ (gi (C_7 0) 21).toInt ∧ (gi (C_7 0) 21).toInt ≤ 250 := fM_0_21 t_10
  have : 0 ≤ (gi (C_7 0) 7).toInt ∧ (gi (C_7 0) 7).toInt ≤ 250 := fM_0_7 t_10
  have : 0 ≤ (gi (C_7 0) 23).toInt ∧ (gi (C_7 0) 23).toInt ≤ 250 := fM_0_23 t_10
  have : 0 ≤ (gi (C_7 0) 13).toInt ∧ (gi (C_7 0) 13).toInt ≤ 5 := fM_0_13 t_10
  refine tm_V (As := [.ref (a (48 + (gi (C 0) 11).toNatClampNeg)), .int 0, .int 0, .int ((gi (C 0) 9) - 1)]) (rest := []) ⟨hx, hb, hml, hown, htg⟩ (e_X7_number l D E G _ a C_7 n hn hT (48 + (gi (C 0) 11).toNatClampNeg) (0 : Int32) (0 : Int32) ((gi (C 0) 9) - 1) (rg_w (rg_c (v := 0) (lo := 0) (hi := 0) (by decide)) (by decide)) (rg_w (rg_sub (lo := (-1)) (hi := 23) (fM_0_9 hT0) (rg_c (v := 1) (lo := 1) (hi := 1) (by decide)) (by decide)) (by decide)) ⟨(lt_blk hb0 hn (by decide)), (by omega), 10, fun C h => (h.bbridge hb0).1, (rg_in (rg_c (v := 0) (lo := 0) (hi := 0) (by decide)) (by decide)), fun C v h h1 h2 => (h.upbridge hb0 (tA_upd (h.bbridge hb0) tA_any))⟩ (by omega) (fgL hq_8.2.2 (f_9.1 7 rfl (by decide))) (by omega) (by omega)) (cwV 4 htg (oh_gV q_1225 q_1227 q_43 q_73 q_1228) rfl rfl rfl pdVX7_number ⟨Nat.le_of_ble_eq_true rfl, Nat.le_of_ble_eq_true rfl⟩) hK hP hD hG hS hA (va_recv hK hP (ci := 7) (q0 := 0) rfl (oh_wg (Nat.lt_of_lt_of_le (by decide) hn) (sM_0 hT))) rfl hl.1 rfl (Nat.le_of_ble_eq_true rfl) dX7_bridgeTold_18 ⟨Nat.le_of_ble_eq_true rfl, Nat.le_of_ble_eq_true rfl⟩ (fun r_12 C_13 H locs hq_14 hP hD hS => ?_)
  obtain ⟨hT, f_15, hq_14⟩ := hq_14
  have hF := fr_trk hF f_15 (inR_of (p := (48, 64)) (by decide) (by show 48 ≤ _; omega) (by show _ < 64; omega)) (by decide)
  refine W.widen (k := 0) (n := 0) (Nat.le_refl _) (Nat.le_refl _) ?_
  have t_16 := hT
  refine lv_if_eq (tgt := 51) hx hb dX7_bridgeTold_21 (by decide) (fun (c_17 : r_12 = 0) => ?_) (fun (c_17 : ¬ (r_12 = 0)) => ?_)
  · have u_18 := hq_14.2.2.2.2.2.1 c_17
    have u_19 := hq_14.2.2.2.2.2.2.1 c_17
    refine lv_iconst (v := 0) hx hb dX7_bridgeTold_51 (by decide) ?_
    have : (gi (C_13 0) 7).toInt = (gi (C_7 0) 7).toInt := congrArg (fun z => (vi z).toInt) (f_15.2 7 (by decide))
    have : (gi (C_13 0) 13).toInt = (gi (C_7 0) 13).toInt := congrArg (fun z => (vi z).toInt) (f_15.2 13 (by decide))
    have : 0 ≤ (gi (C_13 0) 21).toInt ∧ (gi (C_13 0) 21).toInt ≤ 250 := fM_0_21 t_16
    have : 0 ≤ (gi (C_13 0) 7).toInt ∧ (gi (C_13 0) 7).toInt ≤ 250 := fM_0_7 t_16
    have : 0 ≤ (gi (C_13 0) 23).toInt ∧ (gi (C_13 0) 23).toInt ≤ 250 := fM_0_23 t_16
    have : 0 ≤ (gi (C_13 0) 13).toInt ∧ (gi (C_13 0) 13).toInt ≤ 5 := fM_0_13 t_16
    rw [hQ]
    exact W.zret (v := 0) (ty := .boolean) hx hb hr (by decide) (fun t ht hW => ⟨⟨0, C_13, rfl, ⟨hT, hF, ⟨(Or.inl rfl), ⟨(by omega), hq_14.2.1.2⟩, (fun h9 => absurd rfl h9), (fun _ => ⟨(mr_bridge_e0 (mn_p (Eq.trans ep_11 (congrArg (xAdv (ga (C 7))) (pm_fr f_4 (by decide)))) (mn_f (congrArg ga (Eq.trans (f_9.1 7 rfl (by decide)) (f_4.1 7 rfl (by decide)))) u_18))), (Eq.trans (congrArg vi (f_15.2 11 (by decide))) (Eq.trans (congrArg vi (f_9.2 11 (by decide))) (congrArg vi (f_4.2 11 (by decide)))))⟩), (fun i hne => (Eq.trans (fr_at f_15 (by omega) (by omega)) (Eq.trans (f_9.1 _ rfl (by omega)) (hq_3.2 i hne)))), hq_14.2.2.2.2.2.2.2.1, hq_14.2.2.2.2.2.2.2.2⟩⟩, ⟨by rw [ht]; exact hP, hD⟩⟩, hS.F ht⟩) hS.2.2 dX7_bridgeTold_52
  · have u_20 := hq_14.2.2.2.1 c_17
    have u_21 := hq_14.2.2.2.2.1 c_17
    refine lv_aload_n hx hb dX7_bridgeTold_24 rfl (lv_at hl 0 rfl) ?_
    refine va_ldcS hx hb hown (hG.2.2.1 ("OneHeavyLoadModel", 230, "kind", 26) (List.mem_of_getElem? (i := 23) rfl)) dX7_bridgeTold_25 ?_
    refine lv_aload_n hx hb dX7_bridgeTold_27 rfl (lv_at hl 1 rfl) ?_
    refine lv_iconst (v := 1) hx hb dX7_bridgeTold_28 (by decide) ?_
    refine lv_iconst (v := 0) hx hb dX7_bridgeTold_29 (by decide) ?_
    refine lv_iconst (v := 5) hx hb dX7_bridgeTold_30 (by decide) ?_
    have : (gi (C_13 0) 7).toInt = (gi (C_7 0) 7).toInt := congrArg (fun z => (vi z).toInt) (f_15.2 7 (by decide))
    have : (gi (C_13 0) 13).toInt = (gi (C_7 0) 13).toInt := congrArg (fun z => (vi z).toInt) (f_15.2 13 (by decide))
    have : 0 ≤ (gi (C_13 0) 21).toInt ∧ (gi (C_13 0) 21).toInt ≤ 250 := fM_0_21 t_16
    have : 0 ≤ (gi (C_13 0) 7).toInt ∧ (gi (C_13 0) 7).toInt ≤ 250 := fM_0_7 t_16
    have : 0 ≤ (gi (C_13 0) 23).toInt ∧ (gi (C_13 0) 23).toInt ≤ 250 := fM_0_23 t_16
    have : 0 ≤ (gi (C_13 0) 13).toInt ∧ (gi (C_13 0) 13).toInt ≤ 5 := fM_0_13 t_16
    refine tm_V (As := [.ref (G (3 + 23)), .ref (a (48 + (gi (C 0) 11).toNatClampNeg)), .int 1, .int 0, .int 5]) (rest := []) ⟨hx, hb, hml, hown, htg⟩ (e_X7_told l D E G _ a C_13 n hn hT 23 (48 + (gi (C 0) 11).toNatClampNeg) (1 : Int32) (0 : Int32) (5 : Int32) (by decide) (rg_w (rg_c (v := 0) (lo := 0) (hi := 0) (by decide)) (by decide)) (rg_w (rg_c (v := 5) (lo := 5) (hi := 5) (by decide)) (by decide)) ⟨(lt_blk hb0 hn (by decide)), (by omega), 10, fun C h => (h.bbridge hb0).1, (rg_in (rg_c (v := 1) (lo := 1) (hi := 1) (by decide)) (by decide)), fun C v h h1 h2 => (h.upbridge hb0 (tA_upd (h.bbridge hb0) tA_any))⟩ (by omega) hq_14.2.2.2.2.2.2.2.1 (by omega) (by omega)) (cwV 5 htg (oh_gV q_1234 q_1236 q_45 q_73 q_1237) rfl rfl rfl pdVX7_told ⟨Nat.le_of_ble_eq_true rfl, Nat.le_of_ble_eq_true rfl⟩) hK hP hD hG hS hA (va_recv hK hP (ci := 7) (q0 := 0) rfl (oh_wg (Nat.lt_of_lt_of_le (by decide) hn) (sM_0 hT))) rfl hl.1 rfl (Nat.le_of_ble_eq_true rfl) dX7_bridgeTold_31 ⟨Nat.le_of_ble_eq_true rfl, Nat.le_of_ble_eq_true rfl⟩ (fun r_22 C_23 H locs hq_24 hP hD hS => ?_)
    obtain ⟨hT, f_25, hq_24⟩ := hq_24
    have hF := fr_trk hF f_25 (inR_of (p := (48, 64)) (by decide) (by show 48 ≤ _; omega) (by show _ < 64; omega)) (by decide)
    refine W.widen (k := 0) (n := 0) (Nat.le_refl _) (Nat.le_refl _) ?_
    have t_26 := hT
    refine lv_if_eq (tgt := 51) hx hb dX7_bridgeTold_34 (by decide) (fun (c_27 : r_22 = 0) => ?_) (fun (c_27 : ¬ (r_22 = 0)) => ?_)
    · have u_28 := hq_24.2.2.2.2.2.2.1 c_27
      have u_29 := hq_24.2.2.2.2.2.2.2.1 c_27
      refine lv_iconst (v := 0) hx hb dX7_bridgeTold_51 (by decide) ?_
      have : (gi (C_23 0) 7).toInt = (gi (C_13 0) 7).toInt := congrArg (fun z => (vi z).toInt) (f_25.2 7 (by decide))
      have : (gi (C_23 0) 13).toInt = (gi (C_13 0) 13).toInt := congrArg (fun z => (vi z).toInt) (f_25.2 13 (by decide))
      have : 0 ≤ (gi (C_23 0) 21).toInt ∧ (gi (C_23 0) 21).toInt ≤ 250 := fM_0_21 t_26
      have : 0 ≤ (gi (C_23 0) 7).toInt ∧ (gi (C_23 0) 7).toInt ≤ 250 := fM_0_7 t_26
      have : 0 ≤ (gi (C_23 0) 23).toInt ∧ (gi (C_23 0) 23).toInt ≤ 250 := fM_0_23 t_26
      have : 0 ≤ (gi (C_23 0) 13).toInt ∧ (gi (C_23 0) 13).toInt ≤ 5 := fM_0_13 t_26
      rw [hQ]
      exact W.zret (v := 0) (ty := .boolean) hx hb hr (by decide) (fun t ht hW => ⟨⟨0, C_23, rfl, ⟨hT, hF, ⟨(Or.inl rfl), ⟨(by omega), hq_24.2.1.2⟩, (fun h9 => absurd rfl h9), (fun _ => ⟨(mr_bridge_e1 (mn_p (Eq.trans ep_11 (congrArg (xAdv (ga (C 7))) (pm_fr f_4 (by decide)))) (mn_f (congrArg ga (Eq.trans (f_9.1 7 rfl (by decide)) (f_4.1 7 rfl (by decide)))) u_21)) (tn_f sw_kind (congrArg ga (Eq.trans (fr_at f_15 (by decide) (by omega)) (Eq.trans (f_9.1 7 rfl (by decide)) (f_4.1 7 rfl (by decide))))) u_28)), (Eq.trans (congrArg vi (f_25.2 11 (by decide))) (Eq.trans (congrArg vi (f_15.2 11 (by decide))) (Eq.trans (congrArg vi (f_9.2 11 (by decide))) (congrArg vi (f_4.2 11 (by decide))))))⟩), (fun i hne => (Eq.trans (fr_at f_25 (by omega) (by omega)) (Eq.trans (fr_at f_15 (by omega) (by omega)) (Eq.trans (f_9.1 _ rfl (by omega)) (hq_3.2 i hne))))), hq_24.2.2.2.2.2.2.2.2.1, hq_24.2.2.2.2.2.2.2.2.2⟩⟩, ⟨by rw [ht]; exact hP, hD⟩⟩, hS.F ht⟩) hS.2.2 dX7_bridgeTold_52
    · have u_30 := hq_24.2.2.2.1 c_27
      have u_31 := hq_24.2.2.2.2.1 c_27
      have u_32 := hq_24.2.2.2.2.2.1 c_27
      refine lv_aload_n hx hb dX7_bridgeTold_37 rfl (lv_at hl 0 rfl) ?_
      refine va_ldcS hx hb hown (hG.2.2.1 ("OneHeavyLoadModel", 232, "span", 27) (List.mem_of_getElem? (i := 24) rfl)) dX7_bridgeTold_38 ?_
      refine lv_aload_n hx hb dX7_bridgeTold_40 rfl (lv_at hl 1 rfl) ?_
      refine lv_iconst (v := 2) hx hb dX7_bridgeTold_41 (by decide) ?_
      refine lv_iconst (v := 0) hx hb dX7_bridgeTold_42 (by decide) ?_
      refine lv_bipush (v := 60) hx hb dX7_bridgeTold_43 (by decide) ?_
      have : (gi (C_23 0) 7).toInt = (gi (C_13 0) 7).toInt := congrArg (fun z => (vi z).toInt) (f_25.2 7 (by decide))
      have : (gi (C_23 0) 13).toInt = (gi (C_13 0) 13).toInt := congrArg (fun z => (vi z).toInt) (f_25.2 13 (by decide))
      have : 0 ≤ (gi (C_23 0) 21).toInt ∧ (gi (C_23 0) 21).toInt ≤ 250 := fM_0_21 t_26
      have : 0 ≤ (gi (C_23 0) 7).toInt ∧ (gi (C_23 0) 7).toInt ≤ 250 := fM_0_7 t_26
      have : 0 ≤ (gi (C_23 0) 23).toInt ∧ (gi (C_23 0) 23).toInt ≤ 250 := fM_0_23 t_26
      have : 0 ≤ (gi (C_23 0) 13).toInt ∧ (gi (C_23 0) 13).toInt ≤ 5 := fM_0_13 t_26
      refine tm_V (As := [.ref (G (3 + 24)), .ref (a (48 + (gi (C 0) 11).toNatClampNeg)), .int 2, .int 0, .int 60]) (rest := []) ⟨hx, hb, hml, hown, htg⟩ (e_X7_told l D E G _ a C_23 n hn hT 24 (48 + (gi (C 0) 11).toNatClampNeg) (2 : Int32) (0 : Int32) (60 : Int32) (by decide) (rg_w (rg_c (v := 0) (lo := 0) (hi := 0) (by decide)) (by decide)) (rg_w (rg_c (v := 60) (lo := 60) (hi := 60) (by decide)) (by decide)) ⟨(lt_blk hb0 hn (by decide)), (by omega), 10, fun C h => (h.bbridge hb0).1, (rg_in (rg_c (v := 2) (lo := 2) (hi := 2) (by decide)) (by decide)), fun C v h h1 h2 => (h.upbridge hb0 (tA_upd (h.bbridge hb0) tA_any))⟩ (by omega) hq_24.2.2.2.2.2.2.2.2.1 (by omega) (by omega)) (cwV 5 htg (oh_gV q_1234 q_1236 q_45 q_73 q_1237) rfl rfl rfl pdVX7_told ⟨Nat.le_of_ble_eq_true rfl, Nat.le_of_ble_eq_true rfl⟩) hK hP hD hG hS hA (va_recv hK hP (ci := 7) (q0 := 0) rfl (oh_wg (Nat.lt_of_lt_of_le (by decide) hn) (sM_0 hT))) rfl hl.1 rfl (Nat.le_of_ble_eq_true rfl) dX7_bridgeTold_45 ⟨Nat.le_of_ble_eq_true rfl, Nat.le_of_ble_eq_true rfl⟩ (fun r_33 C_34 H locs hq_35 hP hD hS => ?_)
      obtain ⟨hT, f_36, hq_35⟩ := hq_35
      have hF := fr_trk hF f_36 (inR_of (p := (48, 64)) (by decide) (by show 48 ≤ _; omega) (by show _ < 64; omega)) (by decide)
      refine W.widen (k := 0) (n := 0) (Nat.le_refl _) (Nat.le_refl _) ?_
      have t_37 := hT
      refine lv_if_ne (tgt := 53) hx hb dX7_bridgeTold_48 (by decide) (fun (c_38 : ¬ (r_33 = 0)) => ?_) (fun (c_38 : r_33 = 0) => ?_)
      · have u_39 := hq_35.2.2.2.1 c_38
        have u_40 := hq_35.2.2.2.2.1 c_38
        have u_41 := hq_35.2.2.2.2.2.1 c_38
        refine lv_aload_n hx hb dX7_bridgeTold_53 rfl (lv_at hl 0 rfl) ?_
        refine va_ldcS hx hb hown (hG.2.2.1 ("OneHeavyLoadModel", 234, "axle", 28) (List.mem_of_getElem? (i := 25) rfl)) dX7_bridgeTold_54 ?_
        refine lv_aload_n hx hb dX7_bridgeTold_56 rfl (lv_at hl 1 rfl) ?_
        refine lv_iconst (v := 3) hx hb dX7_bridgeTold_57 (by decide) ?_
        refine lv_iconst (v := 1) hx hb dX7_bridgeTold_58 (by decide) ?_
        refine lv_bipush (v := 99) hx hb dX7_bridgeTold_59 (by decide) ?_
        have : (gi (C_34 0) 7).toInt = (gi (C_23 0) 7).toInt := congrArg (fun z => (vi z).toInt) (f_36.2 7 (by decide))
        have : (gi (C_34 0) 13).toInt = (gi (C_23 0) 13).toInt := congrArg (fun z => (vi z).toInt) (f_36.2 13 (by decide))
        have : 0 ≤ (gi (C_34 0) 21).toInt ∧ (gi (C_34 0) 21).toInt ≤ 250 := fM_0_21 t_37
        have : 0 ≤ (gi (C_34 0) 7).toInt ∧ (gi (C_34 0) 7).toInt ≤ 250 := fM_0_7 t_37
        have : 0 ≤ (gi (C_34 0) 23).toInt ∧ (gi (C_34 0) 23).toInt ≤ 250 := fM_0_23 t_37
        have : 0 ≤ (gi (C_34 0) 13).toInt ∧ (gi (C_34 0) 13).toInt ≤ 5 := fM_0_13 t_37
        refine tm_V (As := [.ref (G (3 + 25)), .ref (a (48 + (gi (C 0) 11).toNatClampNeg)), .int 3, .int 1, .int 99]) (rest := []) ⟨hx, hb, hml, hown, htg⟩ (e_X7_told l D E G _ a C_34 n hn hT 25 (48 + (gi (C 0) 11).toNatClampNeg) (3 : Int32) (1 : Int32) (99 : Int32) (by decide) (rg_w (rg_c (v := 1) (lo := 1) (hi := 1) (by decide)) (by decide)) (rg_w (rg_c (v := 99) (lo := 99) (hi := 99) (by decide)) (by decide)) ⟨(lt_blk hb0 hn (by decide)), (by omega), 10, fun C h => (h.bbridge hb0).1, (rg_in (rg_c (v := 3) (lo := 3) (hi := 3) (by decide)) (by decide)), fun C v h h1 h2 => (h.upbridge hb0 (tA_upd (h.bbridge hb0) tA_any))⟩ (by omega) hq_35.2.2.2.2.2.2.2.2.1 (by omega) (by omega)) (cwV 5 htg (oh_gV q_1234 q_1236 q_45 q_73 q_1237) rfl rfl rfl pdVX7_told ⟨Nat.le_of_ble_eq_true rfl, Nat.le_of_ble_eq_true rfl⟩) hK hP hD hG hS hA (va_recv hK hP (ci := 7) (q0 := 0) rfl (oh_wg (Nat.lt_of_lt_of_le (by decide) hn) (sM_0 hT))) rfl hl.1 rfl (Nat.le_of_ble_eq_true rfl) dX7_bridgeTold_61 ⟨Nat.le_of_ble_eq_true rfl, Nat.le_of_ble_eq_true rfl⟩ (fun r_42 C_43 H locs hq_44 hP hD hS => ?_)
        obtain ⟨hT, f_45, hq_44⟩ := hq_44
        have hF := fr_trk hF f_45 (inR_of (p := (48, 64)) (by decide) (by show 48 ≤ _; omega) (by show _ < 64; omega)) (by decide)
        refine W.widen (k := 0) (n := 0) (Nat.le_refl _) (Nat.le_refl _) ?_
        have t_46 := hT
        refine lv_if_eq (tgt := 82) hx hb dX7_bridgeTold_64 (by decide) (fun (c_47 : r_42 = 0) => ?_) (fun (c_47 : ¬ (r_42 = 0)) => ?_)
        · have u_48 := hq_44.2.2.2.2.2.2.1 c_47
          have u_49 := hq_44.2.2.2.2.2.2.2.1 c_47
          refine lv_iconst (v := 0) hx hb dX7_bridgeTold_82 (by decide) ?_
          have : (gi (C_43 0) 7).toInt = (gi (C_34 0) 7).toInt := congrArg (fun z => (vi z).toInt) (f_45.2 7 (by decide))
          have : (gi (C_43 0) 13).toInt = (gi (C_34 0) 13).toInt := congrArg (fun z => (vi z).toInt) (f_45.2 13 (by decide))
          have : 0 ≤ (gi (C_43 0) 21).toInt ∧ (gi (C_43 0) 21).toInt ≤ 250 := fM_0_21 t_46
          have : 0 ≤ (gi (C_43 0) 7).toInt ∧ (gi (C_43 0) 7).toInt ≤ 250 := fM_0_7 t_46
          have : 0 ≤ (gi (C_43 0) 23).toInt ∧ (gi (C_43 0) 23).toInt ≤ 250 := fM_0_23 t_46
          have : 0 ≤ (gi (C_43 0) 13).toInt ∧ (gi (C_43 0) 13).toInt ≤ 5 := fM_0_13 t_46
          rw [hQ]
          exact W.zret (v := 0) (ty := .boolean) hx hb hr (by decide) (fun t ht hW => ⟨⟨0, C_43, rfl, ⟨hT, hF, ⟨(Or.inl rfl), ⟨(by omega), hq_44.2.1.2⟩, (fun h9 => absurd rfl h9), (fun _ => ⟨(mr_bridge_e3 (mn_p (Eq.trans ep_11 (congrArg (xAdv (ga (C 7))) (pm_fr f_4 (by decide)))) (mn_f (congrArg ga (Eq.trans (f_9.1 7 rfl (by decide)) (f_4.1 7 rfl (by decide)))) u_21)) (tn_f sw_kind (congrArg ga (Eq.trans (fr_at f_15 (by decide) (by omega)) (Eq.trans (f_9.1 7 rfl (by decide)) (f_4.1 7 rfl (by decide))))) u_32) (tn_f sw_span (congrArg ga (Eq.trans (fr_at f_25 (by decide) (by omega)) (Eq.trans (fr_at f_15 (by decide) (by omega)) (Eq.trans (f_9.1 7 rfl (by decide)) (f_4.1 7 rfl (by decide)))))) u_41) (tn_f sw_axle (congrArg ga (Eq.trans (fr_at f_36 (by decide) (by omega)) (Eq.trans (fr_at f_25 (by decide) (by omega)) (Eq.trans (fr_at f_15 (by decide) (by omega)) (Eq.trans (f_9.1 7 rfl (by decide)) (f_4.1 7 rfl (by decide))))))) u_48)), (Eq.trans (congrArg vi (f_45.2 11 (by decide))) (Eq.trans (congrArg vi (f_36.2 11 (by decide))) (Eq.trans (congrArg vi (f_25.2 11 (by decide))) (Eq.trans (congrArg vi (f_15.2 11 (by decide))) (Eq.trans (congrArg vi (f_9.2 11 (by decide))) (congrArg vi (f_4.2 11 (by decide))))))))⟩), (fun i hne => (Eq.trans (fr_at f_45 (by omega) (by omega)) (Eq.trans (fr_at f_36 (by omega) (by omega)) (Eq.trans (fr_at f_25 (by omega) (by omega)) (Eq.trans (fr_at f_15 (by omega) (by omega)) (Eq.trans (f_9.1 _ rfl (by omega)) (hq_3.2 i hne))))))), hq_44.2.2.2.2.2.2.2.2.1, hq_44.2.2.2.2.2.2.2.2.2⟩⟩, ⟨by rw [ht]; exact hP, hD⟩⟩, hS.F ht⟩) hS.2.2 dX7_bridgeTold_83
        · have u_50 := hq_44.2.2.2.1 c_47
          have u_51 := hq_44.2.2.2.2.1 c_47
          have u_52 := hq_44.2.2.2.2.2.1 c_47
          refine lv_aload_n hx hb dX7_bridgeTold_67 rfl (lv_at hl 0 rfl) ?_
          refine va_ldcS hx hb hown (hG.2.2.1 ("OneHeavyLoadModel", 236, "all", 29) (List.mem_of_getElem? (i := 26) rfl)) dX7_bridgeTold_68 ?_
          refine lv_aload_n hx hb dX7_bridgeTold_70 rfl (lv_at hl 1 rfl) ?_
          refine lv_iconst (v := 4) hx hb dX7_bridgeTold_71 (by decide) ?_
          refine lv_iconst (v := 1) hx hb dX7_bridgeTold_72 (by decide) ?_
          refine lv_sipush (v := 999) hx hb dX7_bridgeTold_73 (by decide) ?_
          have : (gi (C_43 0) 7).toInt = (gi (C_34 0) 7).toInt := congrArg (fun z => (vi z).toInt) (f_45.2 7 (by decide))
          have : (gi (C_43 0) 13).toInt = (gi (C_34 0) 13).toInt := congrArg (fun z => (vi z).toInt) (f_45.2 13 (by decide))
          have : 0 ≤ (gi (C_43 0) 21).toInt ∧ (gi (C_43 0) 21).toInt ≤ 250 := fM_0_21 t_46
          have : 0 ≤ (gi (C_43 0) 7).toInt ∧ (gi (C_43 0) 7).toInt ≤ 250 := fM_0_7 t_46
          have : 0 ≤ (gi (C_43 0) 23).toInt ∧ (gi (C_43 0) 23).toInt ≤ 250 := fM_0_23 t_46
          have : 0 ≤ (gi (C_43 0) 13).toInt ∧ (gi (C_43 0) 13).toInt ≤ 5 := fM_0_13 t_46
          refine tm_V (As := [.ref (G (3 + 26)), .ref (a (48 + (gi (C 0) 11).toNatClampNeg)), .int 4, .int 1, .int 999]) (rest := []) ⟨hx, hb, hml, hown, htg⟩ (e_X7_told l D E G _ a C_43 n hn hT 26 (48 + (gi (C 0) 11).toNatClampNeg) (4 : Int32) (1 : Int32) (999 : Int32) (by decide) (rg_w (rg_c (v := 1) (lo := 1) (hi := 1) (by decide)) (by decide)) (rg_w (rg_c (v := 999) (lo := 999) (hi := 999) (by decide)) (by decide)) ⟨(lt_blk hb0 hn (by decide)), (by omega), 10, fun C h => (h.bbridge hb0).1, (rg_in (rg_c (v := 4) (lo := 4) (hi := 4) (by decide)) (by decide)), fun C v h h1 h2 => (h.upbridge hb0 (tA_upd (h.bbridge hb0) tA_any))⟩ (by omega) hq_44.2.2.2.2.2.2.2.2.1 (by omega) (by omega)) (cwV 5 htg (oh_gV q_1234 q_1236 q_45 q_73 q_1237) rfl rfl rfl pdVX7_told ⟨Nat.le_of_ble_eq_true rfl, Nat.le_of_ble_eq_true rfl⟩) hK hP hD hG hS hA (va_recv hK hP (ci := 7) (q0 := 0) rfl (oh_wg (Nat.lt_of_lt_of_le (by decide) hn) (sM_0 hT))) rfl hl.1 rfl (Nat.le_of_ble_eq_true rfl) dX7_bridgeTold_76 ⟨Nat.le_of_ble_eq_true rfl, Nat.le_of_ble_eq_true rfl⟩ (fun r_53 C_54 H locs hq_55 hP hD hS => ?_)
          obtain ⟨hT, f_56, hq_55⟩ := hq_55
          have hF := fr_trk hF f_56 (inR_of (p := (48, 64)) (by decide) (by show 48 ≤ _; omega) (by show _ < 64; omega)) (by decide)
          refine W.widen (k := 0) (n := 0) (Nat.le_refl _) (Nat.le_refl _) ?_
          have t_57 := hT
          refine lv_if_ne (tgt := 84) hx hb dX7_bridgeTold_79 (by decide) (fun (c_58 : ¬ (r_53 = 0)) => ?_) (fun (c_58 : r_53 = 0) => ?_)
          · have u_59 := hq_55.2.2.2.1 c_58
            have u_60 := hq_55.2.2.2.2.1 c_58
            have u_61 := hq_55.2.2.2.2.2.1 c_58
            refine lv_aload_n hx hb dX7_bridgeTold_84 rfl (lv_at hl 0 rfl) ?_
            refine va_ldcS hx hb hown (hG.2.2.1 ("OneHeavyLoadModel", 238, "prop", 30) (List.mem_of_getElem? (i := 27) rfl)) dX7_bridgeTold_85 ?_
            refine tq_V (As := [.ref (G (3 + 27))]) (rest := []) (ws := (oh_W n a C_54)) ⟨hx, hb, hml, hown, htg⟩ (e_X7_isWord l D E G a C_54 n hn hT 27 (by decide)) (cwV 1 htg (oh_gV q_1215 q_1217 q_41 q_73 q_1218) rfl rfl rfl pdVX7_isWord ⟨Nat.le_of_ble_eq_true rfl, Nat.le_of_ble_eq_true rfl⟩) hK hP hG hS (va_recv hK hP (ci := 7) (q0 := 0) rfl (oh_wg (Nat.lt_of_lt_of_le (by decide) hn) (sM_0 hT))) rfl hl.1 rfl (Nat.le_of_ble_eq_true rfl) dX7_bridgeTold_87 ⟨Nat.le_of_ble_eq_true rfl, Nat.le_of_ble_eq_true rfl⟩ (fun r_62 hq_63 => ?_)
            refine lv_if_eq (tgt := 124) hx hb dX7_bridgeTold_90 (by decide) (fun (c_64 : r_62 = 0) => ?_) (fun (c_64 : ¬ (r_62 = 0)) => ?_)
            · have u_65 := hq_63.2.2 c_64
              refine lv_aload_n hx hb dX7_bridgeTold_124 rfl (lv_at hl 0 rfl) ?_
              refine lv_dup hx hb dX7_bridgeTold_125 rfl ?_
              refine va_get (D := D) (ci := 7) (v := .int (gi (C 0) 11)) (C := RX7) (T := TX7) (N := 29) hx hb htg ig_7 hown hK hP 0 (oh_wg (Nat.lt_of_lt_of_le (by decide) hn) (sM_0 hT)) rfl 11 (by decide) (htg _ q_984) (fun _ h9 => h9) (oh_fv (c := C_54 0) (j := 11) rfl (Eq.trans (congrArg vi (f_56.2 11 (by decide))) (Eq.trans (congrArg vi (f_45.2 11 (by decide))) (Eq.trans (congrArg vi (f_36.2 11 (by decide))) (Eq.trans (congrArg vi (f_25.2 11 (by decide))) (Eq.trans (congrArg vi (f_15.2 11 (by decide))) (Eq.trans (congrArg vi (f_9.2 11 (by decide))) (congrArg vi (f_4.2 11 (by decide)))))))))) dX7_bridgeTold_126 ?_
              refine lv_iconst (v := 1) hx hb dX7_bridgeTold_129 (by decide) ?_
              refine lv_iadd hx hb dX7_bridgeTold_130 ?_
              refine th_put (Tp := TyM a E) (Rl := fr [(48, 64)] [11, 21, 22, 23, 24, 25] C) (ci := 7) (v := .int ((gi (C 0) 11) + 1)) (ty := .int) (CC := RX7) (T := TX7) (N := 29) hx hb htg ig_7 tyX7 tyX7_ok nmX7 hown hK hP hD hS 0 (Nat.lt_of_lt_of_le (by decide) hn) (sM_0 hT) rfl 11 (by decide) (htg _ q_984) (fun _ h9 => h9) rfl (by decide +kernel) rfl rfl (Nat.le_of_ble_eq_true rfl) (hT.up 0 (by decide) ⟨rfl, (fM_0_7 hT), (fM_0_9 hT), (rg_w (rg_add (lo := 1) (hi := 16) h9 (rg_c (v := 1) (lo := 1) (hi := 1) (by decide)) (by decide)) (by decide)), (fM_0_13 hT), (fM_0_15 hT), (fM_0_21 hT), (fM_0_23 hT)⟩) (fr_fd hF (sM_0 hT) (by decide)) dX7_bridgeTold_131 (fun C_66 H locs e_67 hT hF hP hD hS => ?_)
              have t_68 := hT
              refine lv_iconst (v := 1) hx hb dX7_bridgeTold_134 (by decide) ?_
              have : (gi (C_54 0) 7).toInt = (gi (C_43 0) 7).toInt := congrArg (fun z => (vi z).toInt) (f_56.2 7 (by decide))
              have : (gi (C_54 0) 13).toInt = (gi (C_43 0) 13).toInt := congrArg (fun z => (vi z).toInt) (f_56.2 13 (by decide))
              have : (gi (C_66 0) 21).toInt = (gi (C_54 0) 21).toInt := congrArg Int32.toInt (show gi (C_66 0) 21 = gi (C_54 0) 21 by rw [e_67]; rfl)
              have : (gi (C_66 0) 7).toInt = (gi (C_54 0) 7).toInt := congrArg Int32.toInt (show gi (C_66 0) 7 = gi (C_54 0) 7 by rw [e_67]; rfl)
              have : (gi (C_66 0) 23).toInt = (gi (C_54 0) 23).toInt := congrArg Int32.toInt (show gi (C_66 0) 23 = gi (C_54 0) 23 by rw [e_67]; rfl)
              have : (gi (C_66 0) 13).toInt = (gi (C_54 0) 13).toInt := congrArg Int32.toInt (show gi (C_66 0) 13 = gi (C_54 0) 13 by rw [e_67]; rfl)
              have : 0 ≤ (gi (C_54 0) 21).toInt ∧ (gi (C_54 0) 21).toInt ≤ 250 := fM_0_21 t_57
              have : 0 ≤ (gi (C_54 0) 7).toInt ∧ (gi (C_54 0) 7).toInt ≤ 250 := fM_0_7 t_57
              have : 0 ≤ (gi (C_54 0) 23).toInt ∧ (gi (C_54 0) 23).toInt ≤ 250 := fM_0_23 t_57
              have : 0 ≤ (gi (C_54 0) 13).toInt ∧ (gi (C_54 0) 13).toInt ≤ 5 := fM_0_13 t_57
              have : 0 ≤ (gi (C_66 0) 21).toInt ∧ (gi (C_66 0) 21).toInt ≤ 250 := fM_0_21 t_68
              have : 0 ≤ (gi (C_66 0) 7).toInt ∧ (gi (C_66 0) 7).toInt ≤ 250 := fM_0_7 t_68
              have : 0 ≤ (gi (C_66 0) 23).toInt ∧ (gi (C_66 0) 23).toInt ≤ 250 := fM_0_23 t_68
              have : 0 ≤ (gi (C_66 0) 13).toInt ∧ (gi (C_66 0) 13).toInt ≤ 5 := fM_0_13 t_68
              rw [hQ]
              exact W.zret (v := 1) (ty := .boolean) hx hb hr (by decide) (fun t ht hW => ⟨⟨1, C_66, rfl, ⟨hT, hF, ⟨(Or.inr rfl), ⟨(by omega), (by omega)⟩, (fun _ => ⟨_, Eq.trans (mr_bridge_ok (mn_p (Eq.trans ep_11 (congrArg (xAdv (ga (C 7))) (pm_fr f_4 (by decide)))) (mn_f (congrArg ga (Eq.trans (f_9.1 7 rfl (by decide)) (f_4.1 7 rfl (by decide)))) u_21)) (tn_f sw_kind (congrArg ga (Eq.trans (fr_at f_15 (by decide) (by omega)) (Eq.trans (f_9.1 7 rfl (by decide)) (f_4.1 7 rfl (by decide))))) u_32) (tn_f sw_span (congrArg ga (Eq.trans (fr_at f_25 (by decide) (by omega)) (Eq.trans (fr_at f_15 (by decide) (by omega)) (Eq.trans (f_9.1 7 rfl (by decide)) (f_4.1 7 rfl (by decide)))))) u_41) (tn_f sw_axle (congrArg ga (Eq.trans (fr_at f_36 (by decide) (by omega)) (Eq.trans (fr_at f_25 (by decide) (by omega)) (Eq.trans (fr_at f_15 (by decide) (by omega)) (Eq.trans (f_9.1 7 rfl (by decide)) (f_4.1 7 rfl (by decide))))))) u_52) (tn_f sw_all (congrArg ga (Eq.trans (fr_at f_45 (by decide) (by omega)) (Eq.trans (fr_at f_36 (by decide) (by omega)) (Eq.trans (fr_at f_25 (by decide) (by omega)) (Eq.trans (fr_at f_15 (by decide) (by omega)) (Eq.trans (f_9.1 7 rfl (by decide)) (f_4.1 7 rfl (by decide)))))))) u_61) (mr_prop_n (xw_n sw_prop (congrArg ga (Eq.trans (fr_at f_56 (by decide) (by omega)) (Eq.trans (fr_at f_45 (by decide) (by omega)) (Eq.trans (fr_at f_36 (by decide) (by omega)) (Eq.trans (fr_at f_25 (by decide) (by omega)) (Eq.trans (fr_at f_15 (by decide) (by omega)) (Eq.trans (f_9.1 7 rfl (by decide)) (f_4.1 7 rfl (by decide))))))))) u_65))) (congrArg (fun z => Except.ok (_, z)) (pm_fd (j := 11) e_67 (sM_0 t_57) (by decide)).symm), rows10 (Eq.trans (congrArg (fun z => ga z ((0 : Int32)).toNatClampNeg) (th_un e_67 (by omega))) (Eq.trans (hq_55.2.2.1 ((0 : Int32)).toNatClampNeg (by decide)) (Eq.trans (hq_44.2.2.1 ((0 : Int32)).toNatClampNeg (by decide)) (Eq.trans (hq_35.2.2.1 ((0 : Int32)).toNatClampNeg (by decide)) (hq_24.2.2.1 ((0 : Int32)).toNatClampNeg (by decide)))))) (Eq.trans (congrArg (fun z => ga z ((1 : Int32)).toNatClampNeg) (th_un e_67 (by omega))) (Eq.trans (hq_55.2.2.1 ((1 : Int32)).toNatClampNeg (by decide)) (Eq.trans (hq_44.2.2.1 ((1 : Int32)).toNatClampNeg (by decide)) (hq_35.2.2.1 ((1 : Int32)).toNatClampNeg (by decide))))) (Eq.trans (congrArg (fun z => ga z ((2 : Int32)).toNatClampNeg) (th_un e_67 (by omega))) (Eq.trans (hq_55.2.2.1 ((2 : Int32)).toNatClampNeg (by decide)) (hq_44.2.2.1 ((2 : Int32)).toNatClampNeg (by decide)))) (Eq.trans (congrArg (fun z => ga z ((3 : Int32)).toNatClampNeg) (th_un e_67 (by omega))) (hq_55.2.2.1 ((3 : Int32)).toNatClampNeg (by decide))) (congrArg (fun z => ga z ((4 : Int32)).toNatClampNeg) (th_un e_67 (by omega))) (Eq.trans (congrArg (fun z => ga z ((5 : Int32)).toNatClampNeg) (th_un e_67 (by omega))) (Eq.trans (hq_55.2.2.1 ((5 : Int32)).toNatClampNeg (by decide)) (Eq.trans (hq_44.2.2.1 ((5 : Int32)).toNatClampNeg (by decide)) (Eq.trans (hq_35.2.2.1 ((5 : Int32)).toNatClampNeg (by decide)) (Eq.trans (hq_24.2.2.1 ((5 : Int32)).toNatClampNeg (by decide)) (Eq.trans (hq_14.2.2.1 ((5 : Int32)).toNatClampNeg (by decide)) (Eq.trans (congrArg (fun z => ga z ((5 : Int32)).toNatClampNeg) (f_9.1 _ rfl (by omega))) (hq_3.1 ((5 : Int32)).toNatClampNeg (by decide))))))))) (Eq.trans (congrArg (fun z => ga z ((6 : Int32)).toNatClampNeg) (th_un e_67 (by omega))) (Eq.trans (hq_55.2.2.1 ((6 : Int32)).toNatClampNeg (by decide)) (Eq.trans (hq_44.2.2.1 ((6 : Int32)).toNatClampNeg (by decide)) (Eq.trans (hq_35.2.2.1 ((6 : Int32)).toNatClampNeg (by decide)) (Eq.trans (hq_24.2.2.1 ((6 : Int32)).toNatClampNeg (by decide)) (Eq.trans (hq_14.2.2.1 ((6 : Int32)).toNatClampNeg (by decide)) (Eq.trans (congrArg (fun z => ga z ((6 : Int32)).toNatClampNeg) (f_9.1 _ rfl (by omega))) (hq_3.1 ((6 : Int32)).toNatClampNeg (by decide))))))))) (Eq.trans (congrArg (fun z => ga z ((7 : Int32)).toNatClampNeg) (th_un e_67 (by omega))) (Eq.trans (hq_55.2.2.1 ((7 : Int32)).toNatClampNeg (by decide)) (Eq.trans (hq_44.2.2.1 ((7 : Int32)).toNatClampNeg (by decide)) (Eq.trans (hq_35.2.2.1 ((7 : Int32)).toNatClampNeg (by decide)) (Eq.trans (hq_24.2.2.1 ((7 : Int32)).toNatClampNeg (by decide)) (Eq.trans (hq_14.2.2.1 ((7 : Int32)).toNatClampNeg (by decide)) (Eq.trans (congrArg (fun z => ga z ((7 : Int32)).toNatClampNeg) (f_9.1 _ rfl (by omega))) (hq_3.1 ((7 : Int32)).toNatClampNeg (by decide))))))))) (Eq.trans (congrArg (fun z => ga z ((8 : Int32)).toNatClampNeg) (th_un e_67 (by omega))) (Eq.trans (hq_55.2.2.1 ((8 : Int32)).toNatClampNeg (by decide)) (Eq.trans (hq_44.2.2.1 ((8 : Int32)).toNatClampNeg (by decide)) (Eq.trans (hq_35.2.2.1 ((8 : Int32)).toNatClampNeg (by decide)) (Eq.trans (hq_24.2.2.1 ((8 : Int32)).toNatClampNeg (by decide)) (Eq.trans (hq_14.2.2.1 ((8 : Int32)).toNatClampNeg (by decide)) (Eq.trans (congrArg (fun z => ga z ((8 : Int32)).toNatClampNeg) (f_9.1 _ rfl (by omega))) (hq_3.1 ((8 : Int32)).toNatClampNeg (by decide))))))))) (Eq.trans (congrArg (fun z => ga z ((9 : Int32)).toNatClampNeg) (th_un e_67 (by omega))) (Eq.trans (hq_55.2.2.1 ((9 : Int32)).toNatClampNeg (by decide)) (Eq.trans (hq_44.2.2.1 ((9 : Int32)).toNatClampNeg (by decide)) (Eq.trans (hq_35.2.2.1 ((9 : Int32)).toNatClampNeg (by decide)) (Eq.trans (hq_24.2.2.1 ((9 : Int32)).toNatClampNeg (by decide)) (Eq.trans (hq_14.2.2.1 ((9 : Int32)).toNatClampNeg (by decide)) (Eq.trans (congrArg (fun z => ga z ((9 : Int32)).toNatClampNeg) (f_9.1 _ rfl (by omega))) (hq_3.1 ((9 : Int32)).toNatClampNeg (by decide))))))))), (show gi (C_66 0) 11 = ((gi (C 0) 11) + 1) by rw [e_67]; rfl)⟩), (fun h9 => absurd h9 (by decide)), (fun i hne => (Eq.trans (th_un e_67 (by omega)) (Eq.trans (fr_at f_56 (by omega) (by omega)) (Eq.trans (fr_at f_45 (by omega) (by omega)) (Eq.trans (fr_at f_36 (by omega) (by omega)) (Eq.trans (fr_at f_25 (by omega) (by omega)) (Eq.trans (fr_at f_15 (by omega) (by omega)) (Eq.trans (f_9.1 _ rfl (by omega)) (hq_3.2 i hne))))))))), (fgF (j := 11) hq_55.2.2.2.2.2.2.2.2.1 e_67 (sM_0 t_57) (by decide)), (by omega)⟩⟩, ⟨by rw [ht]; exact hP, hD⟩⟩, hS.F ht⟩) hS.2.2 dX7_bridgeTold_135
            · have u_69 := hq_63.2.1 c_64
              refine lv_aload_n hx hb dX7_bridgeTold_93 rfl (lv_at hl 0 rfl) ?_
              refine va_ldcS hx hb hown (hG.2.2.1 ("OneHeavyLoadModel", 238, "prop", 30) (List.mem_of_getElem? (i := 27) rfl)) dX7_bridgeTold_94 ?_
              refine lv_aload_n hx hb dX7_bridgeTold_96 rfl (lv_at hl 1 rfl) ?_
              refine lv_iconst (v := 5) hx hb dX7_bridgeTold_97 (by decide) ?_
              refine lv_iconst (v := 0) hx hb dX7_bridgeTold_98 (by decide) ?_
              refine lv_sipush (v := 999) hx hb dX7_bridgeTold_99 (by decide) ?_
              have : (gi (C_54 0) 7).toInt = (gi (C_43 0) 7).toInt := congrArg (fun z => (vi z).toInt) (f_56.2 7 (by decide))
              have : (gi (C_54 0) 13).toInt = (gi (C_43 0) 13).toInt := congrArg (fun z => (vi z).toInt) (f_56.2 13 (by decide))
              have : 0 ≤ (gi (C_54 0) 21).toInt ∧ (gi (C_54 0) 21).toInt ≤ 250 := fM_0_21 t_57
              have : 0 ≤ (gi (C_54 0) 7).toInt ∧ (gi (C_54 0) 7).toInt ≤ 250 := fM_0_7 t_57
              have : 0 ≤ (gi (C_54 0) 23).toInt ∧ (gi (C_54 0) 23).toInt ≤ 250 := fM_0_23 t_57
              have : 0 ≤ (gi (C_54 0) 13).toInt ∧ (gi (C_54 0) 13).toInt ≤ 5 := fM_0_13 t_57
              refine tm_V (As := [.ref (G (3 + 27)), .ref (a (48 + (gi (C 0) 11).toNatClampNeg)), .int 5, .int 0, .int 999]) (rest := []) ⟨hx, hb, hml, hown, htg⟩ (e_X7_told l D E G _ a C_54 n hn hT 27 (48 + (gi (C 0) 11).toNatClampNeg) (5 : Int32) (0 : Int32) (999 : Int32) (by decide) (rg_w (rg_c (v := 0) (lo := 0) (hi := 0) (by decide)) (by decide)) (rg_w (rg_c (v := 999) (lo := 999) (hi := 999) (by decide)) (by decide)) ⟨(lt_blk hb0 hn (by decide)), (by omega), 10, fun C h => (h.bbridge hb0).1, (rg_in (rg_c (v := 5) (lo := 5) (hi := 5) (by decide)) (by decide)), fun C v h h1 h2 => (h.upbridge hb0 (tA_upd (h.bbridge hb0) tA_any))⟩ (by omega) hq_55.2.2.2.2.2.2.2.2.1 (by omega) (by omega)) (cwV 5 htg (oh_gV q_1234 q_1236 q_45 q_73 q_1237) rfl rfl rfl pdVX7_told ⟨Nat.le_of_ble_eq_true rfl, Nat.le_of_ble_eq_true rfl⟩) hK hP hD hG hS hA (va_recv hK hP (ci := 7) (q0 := 0) rfl (oh_wg (Nat.lt_of_lt_of_le (by decide) hn) (sM_0 hT))) rfl hl.1 rfl (Nat.le_of_ble_eq_true rfl) dX7_bridgeTold_102 ⟨Nat.le_of_ble_eq_true rfl, Nat.le_of_ble_eq_true rfl⟩ (fun r_70 C_71 H locs hq_72 hP hD hS => ?_)
              obtain ⟨hT, f_73, hq_72⟩ := hq_72
              have hF := fr_trk hF f_73 (inR_of (p := (48, 64)) (by decide) (by show 48 ≤ _; omega) (by show _ < 64; omega)) (by decide)
              refine W.widen (k := 0) (n := 0) (Nat.le_refl _) (Nat.le_refl _) ?_
              have t_74 := hT
              refine lv_if_eq (tgt := 122) hx hb dX7_bridgeTold_105 (by decide) (fun (c_75 : r_70 = 0) => ?_) (fun (c_75 : ¬ (r_70 = 0)) => ?_)
              · have u_76 := hq_72.2.2.2.2.2.2.1 c_75
                have u_77 := hq_72.2.2.2.2.2.2.2.1 c_75
                refine lv_iconst (v := 0) hx hb dX7_bridgeTold_122 (by decide) ?_
                have : (gi (C_71 0) 7).toInt = (gi (C_54 0) 7).toInt := congrArg (fun z => (vi z).toInt) (f_73.2 7 (by decide))
                have : (gi (C_71 0) 13).toInt = (gi (C_54 0) 13).toInt := congrArg (fun z => (vi z).toInt) (f_73.2 13 (by decide))
                have : 0 ≤ (gi (C_71 0) 21).toInt ∧ (gi (C_71 0) 21).toInt ≤ 250 := fM_0_21 t_74
                have : 0 ≤ (gi (C_71 0) 7).toInt ∧ (gi (C_71 0) 7).toInt ≤ 250 := fM_0_7 t_74
                have : 0 ≤ (gi (C_71 0) 23).toInt ∧ (gi (C_71 0) 23).toInt ≤ 250 := fM_0_23 t_74
                have : 0 ≤ (gi (C_71 0) 13).toInt ∧ (gi (C_71 0) 13).toInt ≤ 5 := fM_0_13 t_74
                rw [hQ]
                exact W.zret (v := 0) (ty := .boolean) hx hb hr (by decide) (fun t ht hW => ⟨⟨0, C_71, rfl, ⟨hT, hF, ⟨(Or.inl rfl), ⟨(by omega), hq_72.2.1.2⟩, (fun h9 => absurd rfl h9), (fun _ => ⟨(mr_bridge_e5 (mn_p (Eq.trans ep_11 (congrArg (xAdv (ga (C 7))) (pm_fr f_4 (by decide)))) (mn_f (congrArg ga (Eq.trans (f_9.1 7 rfl (by decide)) (f_4.1 7 rfl (by decide)))) u_21)) (tn_f sw_kind (congrArg ga (Eq.trans (fr_at f_15 (by decide) (by omega)) (Eq.trans (f_9.1 7 rfl (by decide)) (f_4.1 7 rfl (by decide))))) u_32) (tn_f sw_span (congrArg ga (Eq.trans (fr_at f_25 (by decide) (by omega)) (Eq.trans (fr_at f_15 (by decide) (by omega)) (Eq.trans (f_9.1 7 rfl (by decide)) (f_4.1 7 rfl (by decide)))))) u_41) (tn_f sw_axle (congrArg ga (Eq.trans (fr_at f_36 (by decide) (by omega)) (Eq.trans (fr_at f_25 (by decide) (by omega)) (Eq.trans (fr_at f_15 (by decide) (by omega)) (Eq.trans (f_9.1 7 rfl (by decide)) (f_4.1 7 rfl (by decide))))))) u_52) (tn_f sw_all (congrArg ga (Eq.trans (fr_at f_45 (by decide) (by omega)) (Eq.trans (fr_at f_36 (by decide) (by omega)) (Eq.trans (fr_at f_25 (by decide) (by omega)) (Eq.trans (fr_at f_15 (by decide) (by omega)) (Eq.trans (f_9.1 7 rfl (by decide)) (f_4.1 7 rfl (by decide)))))))) u_61) (mr_prop_e0 (xw_f sw_prop (congrArg ga (Eq.trans (fr_at f_56 (by decide) (by omega)) (Eq.trans (fr_at f_45 (by decide) (by omega)) (Eq.trans (fr_at f_36 (by decide) (by omega)) (Eq.trans (fr_at f_25 (by decide) (by omega)) (Eq.trans (fr_at f_15 (by decide) (by omega)) (Eq.trans (f_9.1 7 rfl (by decide)) (f_4.1 7 rfl (by decide))))))))) u_69.2) (tn_f sw_prop (congrArg ga (Eq.trans (fr_at f_56 (by decide) (by omega)) (Eq.trans (fr_at f_45 (by decide) (by omega)) (Eq.trans (fr_at f_36 (by decide) (by omega)) (Eq.trans (fr_at f_25 (by decide) (by omega)) (Eq.trans (fr_at f_15 (by decide) (by omega)) (Eq.trans (f_9.1 7 rfl (by decide)) (f_4.1 7 rfl (by decide))))))))) u_76))), (Eq.trans (congrArg vi (f_73.2 11 (by decide))) (Eq.trans (congrArg vi (f_56.2 11 (by decide))) (Eq.trans (congrArg vi (f_45.2 11 (by decide))) (Eq.trans (congrArg vi (f_36.2 11 (by decide))) (Eq.trans (congrArg vi (f_25.2 11 (by decide))) (Eq.trans (congrArg vi (f_15.2 11 (by decide))) (Eq.trans (congrArg vi (f_9.2 11 (by decide))) (congrArg vi (f_4.2 11 (by decide))))))))))⟩), (fun i hne => (Eq.trans (fr_at f_73 (by omega) (by omega)) (Eq.trans (fr_at f_56 (by omega) (by omega)) (Eq.trans (fr_at f_45 (by omega) (by omega)) (Eq.trans (fr_at f_36 (by omega) (by omega)) (Eq.trans (fr_at f_25 (by omega) (by omega)) (Eq.trans (fr_at f_15 (by omega) (by omega)) (Eq.trans (f_9.1 _ rfl (by omega)) (hq_3.2 i hne))))))))), hq_72.2.2.2.2.2.2.2.2.1, hq_72.2.2.2.2.2.2.2.2.2⟩⟩, ⟨by rw [ht]; exact hP, hD⟩⟩, hS.F ht⟩) hS.2.2 dX7_bridgeTold_123
              · have u_78 := hq_72.2.2.2.1 c_75
                have u_79 := hq_72.2.2.2.2.1 c_75
                have u_80 := hq_72.2.2.2.2.2.1 c_75
                refine lv_aload_n hx hb dX7_bridgeTold_108 rfl (lv_at hl 0 rfl) ?_
                refine lv_aload_n hx hb dX7_bridgeTold_109 rfl (lv_at hl 1 rfl) ?_
                refine lv_bipush (v := 6) hx hb dX7_bridgeTold_110 (by decide) ?_
                refine lv_iconst (v := 0) hx hb dX7_bridgeTold_112 (by decide) ?_
                refine lv_sipush (v := 999) hx hb dX7_bridgeTold_113 (by decide) ?_
                have : (gi (C_71 0) 7).toInt = (gi (C_54 0) 7).toInt := congrArg (fun z => (vi z).toInt) (f_73.2 7 (by decide))
                have : (gi (C_71 0) 13).toInt = (gi (C_54 0) 13).toInt := congrArg (fun z => (vi z).toInt) (f_73.2 13 (by decide))
                have : 0 ≤ (gi (C_71 0) 21).toInt ∧ (gi (C_71 0) 21).toInt ≤ 250 := fM_0_21 t_74
                have : 0 ≤ (gi (C_71 0) 7).toInt ∧ (gi (C_71 0) 7).toInt ≤ 250 := fM_0_7 t_74
                have : 0 ≤ (gi (C_71 0) 23).toInt ∧ (gi (C_71 0) 23).toInt ≤ 250 := fM_0_23 t_74
                have : 0 ≤ (gi (C_71 0) 13).toInt ∧ (gi (C_71 0) 13).toInt ≤ 5 := fM_0_13 t_74
                refine tm_V (As := [.ref (a (48 + (gi (C 0) 11).toNatClampNeg)), .int 6, .int 0, .int 999]) (rest := []) ⟨hx, hb, hml, hown, htg⟩ (e_X7_number l D E G _ a C_71 n hn hT (48 + (gi (C 0) 11).toNatClampNeg) (6 : Int32) (0 : Int32) (999 : Int32) (rg_w (rg_c (v := 0) (lo := 0) (hi := 0) (by decide)) (by decide)) (rg_w (rg_c (v := 999) (lo := 999) (hi := 999) (by decide)) (by decide)) ⟨(lt_blk hb0 hn (by decide)), (by omega), 10, fun C h => (h.bbridge hb0).1, (rg_in (rg_c (v := 6) (lo := 6) (hi := 6) (by decide)) (by decide)), fun C v h h1 h2 => (h.upbridge hb0 (tA_upd (h.bbridge hb0) tA_any))⟩ (by omega) hq_72.2.2.2.2.2.2.2.2.1 (by omega) (by omega)) (cwV 4 htg (oh_gV q_1225 q_1227 q_43 q_73 q_1228) rfl rfl rfl pdVX7_number ⟨Nat.le_of_ble_eq_true rfl, Nat.le_of_ble_eq_true rfl⟩) hK hP hD hG hS hA (va_recv hK hP (ci := 7) (q0 := 0) rfl (oh_wg (Nat.lt_of_lt_of_le (by decide) hn) (sM_0 hT))) rfl hl.1 rfl (Nat.le_of_ble_eq_true rfl) dX7_bridgeTold_116 ⟨Nat.le_of_ble_eq_true rfl, Nat.le_of_ble_eq_true rfl⟩ (fun r_81 C_82 H locs hq_83 hP hD hS => ?_)
                obtain ⟨hT, f_84, hq_83⟩ := hq_83
                have hF := fr_trk hF f_84 (inR_of (p := (48, 64)) (by decide) (by show 48 ≤ _; omega) (by show _ < 64; omega)) (by decide)
                refine W.widen (k := 0) (n := 0) (Nat.le_refl _) (Nat.le_refl _) ?_
                have t_85 := hT
                refine lv_if_ne (tgt := 124) hx hb dX7_bridgeTold_119 (by decide) (fun (c_86 : ¬ (r_81 = 0)) => ?_) (fun (c_86 : r_81 = 0) => ?_)
                · have u_87 := hq_83.2.2.2.1 c_86
                  have u_88 := hq_83.2.2.2.2.1 c_86
                  refine lv_aload_n hx hb dX7_bridgeTold_124 rfl (lv_at hl 0 rfl) ?_
                  refine lv_dup hx hb dX7_bridgeTold_125 rfl ?_
                  refine va_get (D := D) (ci := 7) (v := .int (gi (C 0) 11)) (C := RX7) (T := TX7) (N := 29) hx hb htg ig_7 hown hK hP 0 (oh_wg (Nat.lt_of_lt_of_le (by decide) hn) (sM_0 hT)) rfl 11 (by decide) (htg _ q_984) (fun _ h9 => h9) (oh_fv (c := C_82 0) (j := 11) rfl (Eq.trans (congrArg vi (f_84.2 11 (by decide))) (Eq.trans (congrArg vi (f_73.2 11 (by decide))) (Eq.trans (congrArg vi (f_56.2 11 (by decide))) (Eq.trans (congrArg vi (f_45.2 11 (by decide))) (Eq.trans (congrArg vi (f_36.2 11 (by decide))) (Eq.trans (congrArg vi (f_25.2 11 (by decide))) (Eq.trans (congrArg vi (f_15.2 11 (by decide))) (Eq.trans (congrArg vi (f_9.2 11 (by decide))) (congrArg vi (f_4.2 11 (by decide)))))))))))) dX7_bridgeTold_126 ?_
                  refine lv_iconst (v := 1) hx hb dX7_bridgeTold_129 (by decide) ?_
                  refine lv_iadd hx hb dX7_bridgeTold_130 ?_
                  refine th_put (Tp := TyM a E) (Rl := fr [(48, 64)] [11, 21, 22, 23, 24, 25] C) (ci := 7) (v := .int ((gi (C 0) 11) + 1)) (ty := .int) (CC := RX7) (T := TX7) (N := 29) hx hb htg ig_7 tyX7 tyX7_ok nmX7 hown hK hP hD hS 0 (Nat.lt_of_lt_of_le (by decide) hn) (sM_0 hT) rfl 11 (by decide) (htg _ q_984) (fun _ h9 => h9) rfl (by decide +kernel) rfl rfl (Nat.le_of_ble_eq_true rfl) (hT.up 0 (by decide) ⟨rfl, (fM_0_7 hT), (fM_0_9 hT), (rg_w (rg_add (lo := 1) (hi := 16) h9 (rg_c (v := 1) (lo := 1) (hi := 1) (by decide)) (by decide)) (by decide)), (fM_0_13 hT), (fM_0_15 hT), (fM_0_21 hT), (fM_0_23 hT)⟩) (fr_fd hF (sM_0 hT) (by decide)) dX7_bridgeTold_131 (fun C_89 H locs e_90 hT hF hP hD hS => ?_)
                  have t_91 := hT
                  refine lv_iconst (v := 1) hx hb dX7_bridgeTold_134 (by decide) ?_
                  have : (gi (C_82 0) 7).toInt = (gi (C_71 0) 7).toInt := congrArg (fun z => (vi z).toInt) (f_84.2 7 (by decide))
                  have : (gi (C_82 0) 13).toInt = (gi (C_71 0) 13).toInt := congrArg (fun z => (vi z).toInt) (f_84.2 13 (by decide))
                  have : (gi (C_89 0) 21).toInt = (gi (C_82 0) 21).toInt := congrArg Int32.toInt (show gi (C_89 0) 21 = gi (C_82 0) 21 by rw [e_90]; rfl)
                  have : (gi (C_89 0) 7).toInt = (gi (C_82 0) 7).toInt := congrArg Int32.toInt (show gi (C_89 0) 7 = gi (C_82 0) 7 by rw [e_90]; rfl)
                  have : (gi (C_89 0) 23).toInt = (gi (C_82 0) 23).toInt := congrArg Int32.toInt (show gi (C_89 0) 23 = gi (C_82 0) 23 by rw [e_90]; rfl)
                  have : (gi (C_89 0) 13).toInt = (gi (C_82 0) 13).toInt := congrArg Int32.toInt (show gi (C_89 0) 13 = gi (C_82 0) 13 by rw [e_90]; rfl)
                  have : 0 ≤ (gi (C_82 0) 21).toInt ∧ (gi (C_82 0) 21).toInt ≤ 250 := fM_0_21 t_85
                  have : 0 ≤ (gi (C_82 0) 7).toInt ∧ (gi (C_82 0) 7).toInt ≤ 250 := fM_0_7 t_85
                  have : 0 ≤ (gi (C_82 0) 23).toInt ∧ (gi (C_82 0) 23).toInt ≤ 250 := fM_0_23 t_85
                  have : 0 ≤ (gi (C_82 0) 13).toInt ∧ (gi (C_82 0) 13).toInt ≤ 5 := fM_0_13 t_85
                  have : 0 ≤ (gi (C_89 0) 21).toInt ∧ (gi (C_89 0) 21).toInt ≤ 250 := fM_0_21 t_91
                  have : 0 ≤ (gi (C_89 0) 7).toInt ∧ (gi (C_89 0) 7).toInt ≤ 250 := fM_0_7 t_91
                  have : 0 ≤ (gi (C_89 0) 23).toInt ∧ (gi (C_89 0) 23).toInt ≤ 250 := fM_0_23 t_91
                  have : 0 ≤ (gi (C_89 0) 13).toInt ∧ (gi (C_89 0) 13).toInt ≤ 5 := fM_0_13 t_91
                  rw [hQ]
                  exact W.zret (v := 1) (ty := .boolean) hx hb hr (by decide) (fun t ht hW => ⟨⟨1, C_89, rfl, ⟨hT, hF, ⟨(Or.inr rfl), ⟨(by omega), (by omega)⟩, (fun _ => ⟨_, Eq.trans (mr_bridge_ok (mn_p (Eq.trans ep_11 (congrArg (xAdv (ga (C 7))) (pm_fr f_4 (by decide)))) (mn_f (congrArg ga (Eq.trans (f_9.1 7 rfl (by decide)) (f_4.1 7 rfl (by decide)))) u_21)) (tn_f sw_kind (congrArg ga (Eq.trans (fr_at f_15 (by decide) (by omega)) (Eq.trans (f_9.1 7 rfl (by decide)) (f_4.1 7 rfl (by decide))))) u_32) (tn_f sw_span (congrArg ga (Eq.trans (fr_at f_25 (by decide) (by omega)) (Eq.trans (fr_at f_15 (by decide) (by omega)) (Eq.trans (f_9.1 7 rfl (by decide)) (f_4.1 7 rfl (by decide)))))) u_41) (tn_f sw_axle (congrArg ga (Eq.trans (fr_at f_36 (by decide) (by omega)) (Eq.trans (fr_at f_25 (by decide) (by omega)) (Eq.trans (fr_at f_15 (by decide) (by omega)) (Eq.trans (f_9.1 7 rfl (by decide)) (f_4.1 7 rfl (by decide))))))) u_52) (tn_f sw_all (congrArg ga (Eq.trans (fr_at f_45 (by decide) (by omega)) (Eq.trans (fr_at f_36 (by decide) (by omega)) (Eq.trans (fr_at f_25 (by decide) (by omega)) (Eq.trans (fr_at f_15 (by decide) (by omega)) (Eq.trans (f_9.1 7 rfl (by decide)) (f_4.1 7 rfl (by decide)))))))) u_61) (mr_prop_ok (xw_f sw_prop (congrArg ga (Eq.trans (fr_at f_56 (by decide) (by omega)) (Eq.trans (fr_at f_45 (by decide) (by omega)) (Eq.trans (fr_at f_36 (by decide) (by omega)) (Eq.trans (fr_at f_25 (by decide) (by omega)) (Eq.trans (fr_at f_15 (by decide) (by omega)) (Eq.trans (f_9.1 7 rfl (by decide)) (f_4.1 7 rfl (by decide))))))))) u_69.2) (tn_f sw_prop (congrArg ga (Eq.trans (fr_at f_56 (by decide) (by omega)) (Eq.trans (fr_at f_45 (by decide) (by omega)) (Eq.trans (fr_at f_36 (by decide) (by omega)) (Eq.trans (fr_at f_25 (by decide) (by omega)) (Eq.trans (fr_at f_15 (by decide) (by omega)) (Eq.trans (f_9.1 7 rfl (by decide)) (f_4.1 7 rfl (by decide))))))))) u_80) (mn_f (congrArg ga (Eq.trans (fr_at f_73 (by decide) (by omega)) (Eq.trans (fr_at f_56 (by decide) (by omega)) (Eq.trans (fr_at f_45 (by decide) (by omega)) (Eq.trans (fr_at f_36 (by decide) (by omega)) (Eq.trans (fr_at f_25 (by decide) (by omega)) (Eq.trans (fr_at f_15 (by decide) (by omega)) (Eq.trans (f_9.1 7 rfl (by decide)) (f_4.1 7 rfl (by decide)))))))))) u_88))) (congrArg (fun z => Except.ok (_, z)) (pm_fd (j := 11) e_90 (sM_0 t_85) (by decide)).symm), rows10 (Eq.trans (congrArg (fun z => ga z ((0 : Int32)).toNatClampNeg) (th_un e_90 (by omega))) (Eq.trans (hq_83.2.2.1 ((0 : Int32)).toNatClampNeg (by decide)) (Eq.trans (hq_72.2.2.1 ((0 : Int32)).toNatClampNeg (by decide)) (Eq.trans (hq_55.2.2.1 ((0 : Int32)).toNatClampNeg (by decide)) (Eq.trans (hq_44.2.2.1 ((0 : Int32)).toNatClampNeg (by decide)) (Eq.trans (hq_35.2.2.1 ((0 : Int32)).toNatClampNeg (by decide)) (hq_24.2.2.1 ((0 : Int32)).toNatClampNeg (by decide)))))))) (Eq.trans (congrArg (fun z => ga z ((1 : Int32)).toNatClampNeg) (th_un e_90 (by omega))) (Eq.trans (hq_83.2.2.1 ((1 : Int32)).toNatClampNeg (by decide)) (Eq.trans (hq_72.2.2.1 ((1 : Int32)).toNatClampNeg (by decide)) (Eq.trans (hq_55.2.2.1 ((1 : Int32)).toNatClampNeg (by decide)) (Eq.trans (hq_44.2.2.1 ((1 : Int32)).toNatClampNeg (by decide)) (hq_35.2.2.1 ((1 : Int32)).toNatClampNeg (by decide))))))) (Eq.trans (congrArg (fun z => ga z ((2 : Int32)).toNatClampNeg) (th_un e_90 (by omega))) (Eq.trans (hq_83.2.2.1 ((2 : Int32)).toNatClampNeg (by decide)) (Eq.trans (hq_72.2.2.1 ((2 : Int32)).toNatClampNeg (by decide)) (Eq.trans (hq_55.2.2.1 ((2 : Int32)).toNatClampNeg (by decide)) (hq_44.2.2.1 ((2 : Int32)).toNatClampNeg (by decide)))))) (Eq.trans (congrArg (fun z => ga z ((3 : Int32)).toNatClampNeg) (th_un e_90 (by omega))) (Eq.trans (hq_83.2.2.1 ((3 : Int32)).toNatClampNeg (by decide)) (Eq.trans (hq_72.2.2.1 ((3 : Int32)).toNatClampNeg (by decide)) (hq_55.2.2.1 ((3 : Int32)).toNatClampNeg (by decide))))) (Eq.trans (congrArg (fun z => ga z ((4 : Int32)).toNatClampNeg) (th_un e_90 (by omega))) (Eq.trans (hq_83.2.2.1 ((4 : Int32)).toNatClampNeg (by decide)) (hq_72.2.2.1 ((4 : Int32)).toNatClampNeg (by decide)))) (Eq.trans (congrArg (fun z => ga z ((5 : Int32)).toNatClampNeg) (th_un e_90 (by omega))) (hq_83.2.2.1 ((5 : Int32)).toNatClampNeg (by decide))) (congrArg (fun z => ga z ((6 : Int32)).toNatClampNeg) (th_un e_90 (by omega))) (Eq.trans (congrArg (fun z => ga z ((7 : Int32)).toNatClampNeg) (th_un e_90 (by omega))) (Eq.trans (hq_83.2.2.1 ((7 : Int32)).toNatClampNeg (by decide)) (Eq.trans (hq_72.2.2.1 ((7 : Int32)).toNatClampNeg (by decide)) (Eq.trans (hq_55.2.2.1 ((7 : Int32)).toNatClampNeg (by decide)) (Eq.trans (hq_44.2.2.1 ((7 : Int32)).toNatClampNeg (by decide)) (Eq.trans (hq_35.2.2.1 ((7 : Int32)).toNatClampNeg (by decide)) (Eq.trans (hq_24.2.2.1 ((7 : Int32)).toNatClampNeg (by decide)) (Eq.trans (hq_14.2.2.1 ((7 : Int32)).toNatClampNeg (by decide)) (Eq.trans (congrArg (fun z => ga z ((7 : Int32)).toNatClampNeg) (f_9.1 _ rfl (by omega))) (hq_3.1 ((7 : Int32)).toNatClampNeg (by decide))))))))))) (Eq.trans (congrArg (fun z => ga z ((8 : Int32)).toNatClampNeg) (th_un e_90 (by omega))) (Eq.trans (hq_83.2.2.1 ((8 : Int32)).toNatClampNeg (by decide)) (Eq.trans (hq_72.2.2.1 ((8 : Int32)).toNatClampNeg (by decide)) (Eq.trans (hq_55.2.2.1 ((8 : Int32)).toNatClampNeg (by decide)) (Eq.trans (hq_44.2.2.1 ((8 : Int32)).toNatClampNeg (by decide)) (Eq.trans (hq_35.2.2.1 ((8 : Int32)).toNatClampNeg (by decide)) (Eq.trans (hq_24.2.2.1 ((8 : Int32)).toNatClampNeg (by decide)) (Eq.trans (hq_14.2.2.1 ((8 : Int32)).toNatClampNeg (by decide)) (Eq.trans (congrArg (fun z => ga z ((8 : Int32)).toNatClampNeg) (f_9.1 _ rfl (by omega))) (hq_3.1 ((8 : Int32)).toNatClampNeg (by decide))))))))))) (Eq.trans (congrArg (fun z => ga z ((9 : Int32)).toNatClampNeg) (th_un e_90 (by omega))) (Eq.trans (hq_83.2.2.1 ((9 : Int32)).toNatClampNeg (by decide)) (Eq.trans (hq_72.2.2.1 ((9 : Int32)).toNatClampNeg (by decide)) (Eq.trans (hq_55.2.2.1 ((9 : Int32)).toNatClampNeg (by decide)) (Eq.trans (hq_44.2.2.1 ((9 : Int32)).toNatClampNeg (by decide)) (Eq.trans (hq_35.2.2.1 ((9 : Int32)).toNatClampNeg (by decide)) (Eq.trans (hq_24.2.2.1 ((9 : Int32)).toNatClampNeg (by decide)) (Eq.trans (hq_14.2.2.1 ((9 : Int32)).toNatClampNeg (by decide)) (Eq.trans (congrArg (fun z => ga z ((9 : Int32)).toNatClampNeg) (f_9.1 _ rfl (by omega))) (hq_3.1 ((9 : Int32)).toNatClampNeg (by decide))))))))))), (show gi (C_89 0) 11 = ((gi (C 0) 11) + 1) by rw [e_90]; rfl)⟩), (fun h9 => absurd h9 (by decide)), (fun i hne => (Eq.trans (th_un e_90 (by omega)) (Eq.trans (fr_at f_84 (by omega) (by omega)) (Eq.trans (fr_at f_73 (by omega) (by omega)) (Eq.trans (fr_at f_56 (by omega) (by omega)) (Eq.trans (fr_at f_45 (by omega) (by omega)) (Eq.trans (fr_at f_36 (by omega) (by omega)) (Eq.trans (fr_at f_25 (by omega) (by omega)) (Eq.trans (fr_at f_15 (by omega) (by omega)) (Eq.trans (f_9.1 _ rfl (by omega)) (hq_3.2 i hne))))))))))), (fgF (j := 11) hq_83.2.2.2.2.2.2.2.1 e_90 (sM_0 t_85) (by decide)), (by omega)⟩⟩, ⟨by rw [ht]; exact hP, hD⟩⟩, hS.F ht⟩) hS.2.2 dX7_bridgeTold_135
                · have u_92 := hq_83.2.2.2.2.2.1 c_86
                  have u_93 := hq_83.2.2.2.2.2.2.1 c_86
                  refine lv_iconst (v := 0) hx hb dX7_bridgeTold_122 (by decide) ?_
                  have : (gi (C_82 0) 7).toInt = (gi (C_71 0) 7).toInt := congrArg (fun z => (vi z).toInt) (f_84.2 7 (by decide))
                  have : (gi (C_82 0) 13).toInt = (gi (C_71 0) 13).toInt := congrArg (fun z => (vi z).toInt) (f_84.2 13 (by decide))
                  have : 0 ≤ (gi (C_82 0) 21).toInt ∧ (gi (C_82 0) 21).toInt ≤ 250 := fM_0_21 t_85
                  have : 0 ≤ (gi (C_82 0) 7).toInt ∧ (gi (C_82 0) 7).toInt ≤ 250 := fM_0_7 t_85
                  have : 0 ≤ (gi (C_82 0) 23).toInt ∧ (gi (C_82 0) 23).toInt ≤ 250 := fM_0_23 t_85
                  have : 0 ≤ (gi (C_82 0) 13).toInt ∧ (gi (C_82 0) 13).toInt ≤ 5 := fM_0_13 t_85
                  rw [hQ]
                  exact W.zret (v := 0) (ty := .boolean) hx hb hr (by decide) (fun t ht hW => ⟨⟨0, C_82, rfl, ⟨hT, hF, ⟨(Or.inl rfl), ⟨(by omega), hq_83.2.1.2⟩, (fun h9 => absurd rfl h9), (fun _ => ⟨(mr_bridge_e5 (mn_p (Eq.trans ep_11 (congrArg (xAdv (ga (C 7))) (pm_fr f_4 (by decide)))) (mn_f (congrArg ga (Eq.trans (f_9.1 7 rfl (by decide)) (f_4.1 7 rfl (by decide)))) u_21)) (tn_f sw_kind (congrArg ga (Eq.trans (fr_at f_15 (by decide) (by omega)) (Eq.trans (f_9.1 7 rfl (by decide)) (f_4.1 7 rfl (by decide))))) u_32) (tn_f sw_span (congrArg ga (Eq.trans (fr_at f_25 (by decide) (by omega)) (Eq.trans (fr_at f_15 (by decide) (by omega)) (Eq.trans (f_9.1 7 rfl (by decide)) (f_4.1 7 rfl (by decide)))))) u_41) (tn_f sw_axle (congrArg ga (Eq.trans (fr_at f_36 (by decide) (by omega)) (Eq.trans (fr_at f_25 (by decide) (by omega)) (Eq.trans (fr_at f_15 (by decide) (by omega)) (Eq.trans (f_9.1 7 rfl (by decide)) (f_4.1 7 rfl (by decide))))))) u_52) (tn_f sw_all (congrArg ga (Eq.trans (fr_at f_45 (by decide) (by omega)) (Eq.trans (fr_at f_36 (by decide) (by omega)) (Eq.trans (fr_at f_25 (by decide) (by omega)) (Eq.trans (fr_at f_15 (by decide) (by omega)) (Eq.trans (f_9.1 7 rfl (by decide)) (f_4.1 7 rfl (by decide)))))))) u_61) (mr_prop_e1 (xw_f sw_prop (congrArg ga (Eq.trans (fr_at f_56 (by decide) (by omega)) (Eq.trans (fr_at f_45 (by decide) (by omega)) (Eq.trans (fr_at f_36 (by decide) (by omega)) (Eq.trans (fr_at f_25 (by decide) (by omega)) (Eq.trans (fr_at f_15 (by decide) (by omega)) (Eq.trans (f_9.1 7 rfl (by decide)) (f_4.1 7 rfl (by decide))))))))) u_69.2) (tn_f sw_prop (congrArg ga (Eq.trans (fr_at f_56 (by decide) (by omega)) (Eq.trans (fr_at f_45 (by decide) (by omega)) (Eq.trans (fr_at f_36 (by decide) (by omega)) (Eq.trans (fr_at f_25 (by decide) (by omega)) (Eq.trans (fr_at f_15 (by decide) (by omega)) (Eq.trans (f_9.1 7 rfl (by decide)) (f_4.1 7 rfl (by decide))))))))) u_80) (mn_f (congrArg ga (Eq.trans (fr_at f_73 (by decide) (by omega)) (Eq.trans (fr_at f_56 (by decide) (by omega)) (Eq.trans (fr_at f_45 (by decide) (by omega)) (Eq.trans (fr_at f_36 (by decide) (by omega)) (Eq.trans (fr_at f_25 (by decide) (by omega)) (Eq.trans (fr_at f_15 (by decide) (by omega)) (Eq.trans (f_9.1 7 rfl (by decide)) (f_4.1 7 rfl (by decide)))))))))) u_92))), (Eq.trans (congrArg vi (f_84.2 11 (by decide))) (Eq.trans (congrArg vi (f_73.2 11 (by decide))) (Eq.trans (congrArg vi (f_56.2 11 (by decide))) (Eq.trans (congrArg vi (f_45.2 11 (by decide))) (Eq.trans (congrArg vi (f_36.2 11 (by decide))) (Eq.trans (congrArg vi (f_25.2 11 (by decide))) (Eq.trans (congrArg vi (f_15.2 11 (by decide))) (Eq.trans (congrArg vi (f_9.2 11 (by decide))) (congrArg vi (f_4.2 11 (by decide)))))))))))⟩), (fun i hne => (Eq.trans (fr_at f_84 (by omega) (by omega)) (Eq.trans (fr_at f_73 (by omega) (by omega)) (Eq.trans (fr_at f_56 (by omega) (by omega)) (Eq.trans (fr_at f_45 (by omega) (by omega)) (Eq.trans (fr_at f_36 (by omega) (by omega)) (Eq.trans (fr_at f_25 (by omega) (by omega)) (Eq.trans (fr_at f_15 (by omega) (by omega)) (Eq.trans (f_9.1 _ rfl (by omega)) (hq_3.2 i hne)))))))))), hq_83.2.2.2.2.2.2.2.1, hq_83.2.2.2.2.2.2.2.2⟩⟩, ⟨by rw [ht]; exact hP, hD⟩⟩, hS.F ht⟩) hS.2.2 dX7_bridgeTold_123
          · have u_94 := hq_55.2.2.2.2.2.2.1 c_58
            have u_95 := hq_55.2.2.2.2.2.2.2.1 c_58
            refine lv_iconst (v := 0) hx hb dX7_bridgeTold_82 (by decide) ?_
            have : (gi (C_54 0) 7).toInt = (gi (C_43 0) 7).toInt := congrArg (fun z => (vi z).toInt) (f_56.2 7 (by decide))
            have : (gi (C_54 0) 13).toInt = (gi (C_43 0) 13).toInt := congrArg (fun z => (vi z).toInt) (f_56.2 13 (by decide))
            have : 0 ≤ (gi (C_54 0) 21).toInt ∧ (gi (C_54 0) 21).toInt ≤ 250 := fM_0_21 t_57
            have : 0 ≤ (gi (C_54 0) 7).toInt ∧ (gi (C_54 0) 7).toInt ≤ 250 := fM_0_7 t_57
            have : 0 ≤ (gi (C_54 0) 23).toInt ∧ (gi (C_54 0) 23).toInt ≤ 250 := fM_0_23 t_57
            have : 0 ≤ (gi (C_54 0) 13).toInt ∧ (gi (C_54 0) 13).toInt ≤ 5 := fM_0_13 t_57
            rw [hQ]
            exact W.zret (v := 0) (ty := .boolean) hx hb hr (by decide) (fun t ht hW => ⟨⟨0, C_54, rfl, ⟨hT, hF, ⟨(Or.inl rfl), ⟨(by omega), hq_55.2.1.2⟩, (fun h9 => absurd rfl h9), (fun _ => ⟨(mr_bridge_e4 (mn_p (Eq.trans ep_11 (congrArg (xAdv (ga (C 7))) (pm_fr f_4 (by decide)))) (mn_f (congrArg ga (Eq.trans (f_9.1 7 rfl (by decide)) (f_4.1 7 rfl (by decide)))) u_21)) (tn_f sw_kind (congrArg ga (Eq.trans (fr_at f_15 (by decide) (by omega)) (Eq.trans (f_9.1 7 rfl (by decide)) (f_4.1 7 rfl (by decide))))) u_32) (tn_f sw_span (congrArg ga (Eq.trans (fr_at f_25 (by decide) (by omega)) (Eq.trans (fr_at f_15 (by decide) (by omega)) (Eq.trans (f_9.1 7 rfl (by decide)) (f_4.1 7 rfl (by decide)))))) u_41) (tn_f sw_axle (congrArg ga (Eq.trans (fr_at f_36 (by decide) (by omega)) (Eq.trans (fr_at f_25 (by decide) (by omega)) (Eq.trans (fr_at f_15 (by decide) (by omega)) (Eq.trans (f_9.1 7 rfl (by decide)) (f_4.1 7 rfl (by decide))))))) u_52) (tn_f sw_all (congrArg ga (Eq.trans (fr_at f_45 (by decide) (by omega)) (Eq.trans (fr_at f_36 (by decide) (by omega)) (Eq.trans (fr_at f_25 (by decide) (by omega)) (Eq.trans (fr_at f_15 (by decide) (by omega)) (Eq.trans (f_9.1 7 rfl (by decide)) (f_4.1 7 rfl (by decide)))))))) u_94)), (Eq.trans (congrArg vi (f_56.2 11 (by decide))) (Eq.trans (congrArg vi (f_45.2 11 (by decide))) (Eq.trans (congrArg vi (f_36.2 11 (by decide))) (Eq.trans (congrArg vi (f_25.2 11 (by decide))) (Eq.trans (congrArg vi (f_15.2 11 (by decide))) (Eq.trans (congrArg vi (f_9.2 11 (by decide))) (congrArg vi (f_4.2 11 (by decide)))))))))⟩), (fun i hne => (Eq.trans (fr_at f_56 (by omega) (by omega)) (Eq.trans (fr_at f_45 (by omega) (by omega)) (Eq.trans (fr_at f_36 (by omega) (by omega)) (Eq.trans (fr_at f_25 (by omega) (by omega)) (Eq.trans (fr_at f_15 (by omega) (by omega)) (Eq.trans (f_9.1 _ rfl (by omega)) (hq_3.2 i hne)))))))), hq_55.2.2.2.2.2.2.2.2.1, hq_55.2.2.2.2.2.2.2.2.2⟩⟩, ⟨by rw [ht]; exact hP, hD⟩⟩, hS.F ht⟩) hS.2.2 dX7_bridgeTold_83
      · have u_96 := hq_35.2.2.2.2.2.2.1 c_38
        have u_97 := hq_35.2.2.2.2.2.2.2.1 c_38
        refine lv_iconst (v := 0) hx hb dX7_bridgeTold_51 (by decide) ?_
        have : (gi (C_34 0) 7).toInt = (gi (C_23 0) 7).toInt := congrArg (fun z => (vi z).toInt) (f_36.2 7 (by decide))
        have : (gi (C_34 0) 13).toInt = (gi (C_23 0) 13).toInt := congrArg (fun z => (vi z).toInt) (f_36.2 13 (by decide))
        have : 0 ≤ (gi (C_34 0) 21).toInt ∧ (gi (C_34 0) 21).toInt ≤ 250 := fM_0_21 t_37
        have : 0 ≤ (gi (C_34 0) 7).toInt ∧ (gi (C_34 0) 7).toInt ≤ 250 := fM_0_7 t_37
        have : 0 ≤ (gi (C_34 0) 23).toInt ∧ (gi (C_34 0) 23).toInt ≤ 250 := fM_0_23 t_37
        have : 0 ≤ (gi (C_34 0) 13).toInt ∧ (gi (C_34 0) 13).toInt ≤ 5 := fM_0_13 t_37
        rw [hQ]
        exact W.zret (v := 0) (ty := .boolean) hx hb hr (by decide) (fun t ht hW => ⟨⟨0, C_34, rfl, ⟨hT, hF, ⟨(Or.inl rfl), ⟨(by omega), hq_35.2.1.2⟩, (fun h9 => absurd rfl h9), (fun _ => ⟨(mr_bridge_e2 (mn_p (Eq.trans ep_11 (congrArg (xAdv (ga (C 7))) (pm_fr f_4 (by decide)))) (mn_f (congrArg ga (Eq.trans (f_9.1 7 rfl (by decide)) (f_4.1 7 rfl (by decide)))) u_21)) (tn_f sw_kind (congrArg ga (Eq.trans (fr_at f_15 (by decide) (by omega)) (Eq.trans (f_9.1 7 rfl (by decide)) (f_4.1 7 rfl (by decide))))) u_32) (tn_f sw_span (congrArg ga (Eq.trans (fr_at f_25 (by decide) (by omega)) (Eq.trans (fr_at f_15 (by decide) (by omega)) (Eq.trans (f_9.1 7 rfl (by decide)) (f_4.1 7 rfl (by decide)))))) u_96)), (Eq.trans (congrArg vi (f_36.2 11 (by decide))) (Eq.trans (congrArg vi (f_25.2 11 (by decide))) (Eq.trans (congrArg vi (f_15.2 11 (by decide))) (Eq.trans (congrArg vi (f_9.2 11 (by decide))) (congrArg vi (f_4.2 11 (by decide)))))))⟩), (fun i hne => (Eq.trans (fr_at f_36 (by omega) (by omega)) (Eq.trans (fr_at f_25 (by omega) (by omega)) (Eq.trans (fr_at f_15 (by omega) (by omega)) (Eq.trans (f_9.1 _ rfl (by omega)) (hq_3.2 i hne)))))), hq_35.2.2.2.2.2.2.2.2.1, hq_35.2.2.2.2.2.2.2.2.2⟩⟩, ⟨by rw [ht]; exact hP, hD⟩⟩, hS.F ht⟩) hS.2.2 dX7_bridgeTold_52
