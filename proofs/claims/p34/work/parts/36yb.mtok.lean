/-! EXACT: the reference's tokens -/
def figV (f : Nat → Int32) (s c : Nat) : Int64 := if c ≤ 3 then Int32.toInt64 (dvF f s c) else 100000
noncomputable def figOf (f : Nat → Int32) (p : PX) : Int64 := pif (p.2.2.1 = 2) (figV f p.2.2.2.1.toNatClampNeg (p.2.2.2.2.toInt - p.2.2.2.1.toInt).toNat) 0
theorem rg_dg {v b : Int32} {h : Int} (hv : rg v 0 h) (hb : pD b) (hd : decide (0 ≤ h ∧ h ≤ 99) = true) : rg (v * 10 + b - 48) 0 (h * 10 + 9) ∧ (v * 10 + b - 48).toInt = v.toInt * 10 + b.toInt - 48 := by
  have h2 := of_decide_eq_true hd
  have b1 := Int32.le_iff_toInt_le.mp hb.1
  have b2 := Int32.le_iff_toInt_le.mp hb.2
  have c1 : (48 : Int32).toInt = 48 := rfl
  have c2 : (57 : Int32).toInt = 57 := rfl
  have c3 : (10 : Int32).toInt = 10 := rfl
  obtain ⟨v1, v2⟩ := hv
  have e1 : (v * 10).toInt = v.toInt * 10 := by rw [Int32.toInt_mul, c3, oh_bmod (by omega) (by omega)]
  have e2 : (v * 10 + b).toInt = v.toInt * 10 + b.toInt := by rw [Int32.toInt_add, e1, oh_bmod (by omega) (by omega)]
  have e3 : (v * 10 + b - 48).toInt = v.toInt * 10 + b.toInt - 48 := by rw [Int32.toInt_sub, e2, c1, oh_bmod (by omega) (by omega)]
  exact ⟨⟨by rw [e3]; omega, by rw [e3]; omega⟩, e3⟩
theorem dvF_1 {f : Nat → Int32} {s : Nat} (h : pD (f s)) : rg (dvF f s 1) 0 9 := (rg_dg (v := 0) (h := 0) (rg_c (by decide)) h (by decide)).1
theorem dvF_2 {f : Nat → Int32} {s : Nat} (h : pD (f s)) (h1 : pD (f (s + 1))) : rg (dvF f s 2) 0 99 := (rg_dg (dvF_1 h) h1 (by decide)).1
theorem oh_bmod64 {x : Int} (h1 : -9223372036854775808 ≤ x) (h2 : x ≤ 9223372036854775807) : x.bmod (2 ^ 64) = x := by
  rw [Int.bmod_def]
  split <;> omega
theorem fg_add {v b : Int32} {h : Int} (hv : rg v 0 h) (hb : pD b) (hd : decide (0 ≤ h ∧ h ≤ 99) = true) : Int32.toInt64 v * 10 + Int32.toInt64 b - 48 = Int32.toInt64 (v * 10 + b - 48) := by
  have h2 := of_decide_eq_true hd
  have e := (rg_dg hv hb hd).2
  have b1 := Int32.le_iff_toInt_le.mp hb.1
  have b2 := Int32.le_iff_toInt_le.mp hb.2
  have c1 : (48 : Int32).toInt = 48 := rfl
  have c2 : (57 : Int32).toInt = 57 := rfl
  have c3 : (10 : Int64).toInt = 10 := rfl
  have c4 : (48 : Int64).toInt = 48 := rfl
  obtain ⟨v1, v2⟩ := hv
  have e1 : (Int32.toInt64 v * 10).toInt = v.toInt * 10 := by rw [Int64.toInt_mul, oh_l32, c3, oh_bmod64 (by omega) (by omega)]
  have e2 : (Int32.toInt64 v * 10 + Int32.toInt64 b).toInt = v.toInt * 10 + b.toInt := by rw [Int64.toInt_add, e1, oh_l32, oh_bmod64 (by omega) (by omega)]
  refine Int64.toInt_inj.mp ?_
  rw [Int64.toInt_sub, e2, c4, oh_l32, e, oh_bmod64 (by omega) (by omega)]
/-- the digits' loop -/
theorem fg_step1 {f : Nat → Int32} {s z : Int32} {g : Int64} (hs : rg s 0 250) (hz : rg z 0 249) (hsz : s.toInt ≤ z.toInt) (c : z - s < 3) (hg : g = figV f s.toNatClampNeg (z.toInt - s.toInt).toNat) (hd : ∀ j, s.toNatClampNeg ≤ j → j < z.toNatClampNeg → pD (f j)) (hb : pD (f z.toNatClampNeg)) : g * 10 + Int32.toInt64 (f z.toNatClampNeg) - 48 = figV f s.toNatClampNeg ((z + 1).toInt - s.toInt).toNat := by
  have e1 := oh_add1 hz
  have e2 := oh_nat hz (by decide)
  have e3 := oh_nat hs (by decide)
  have c1 := Int32.lt_iff_toInt_lt.mp c
  have e4 : (z - s).toInt = z.toInt - s.toInt := by
    rw [Int32.toInt_sub]
    exact oh_bmod (by have := hs.2; have := hz.1; omega) (by have := hs.1; have := hz.2; omega)
  have c3 : (3 : Int32).toInt = 3 := rfl
  rw [e4, c3] at c1
  obtain ⟨k, hk⟩ : ∃ k : Nat, k = (z.toInt - s.toInt).toNat := ⟨_, rfl⟩
  have ez : z.toNatClampNeg = s.toNatClampNeg + k := by omega
  rw [e1, show (z.toInt + 1 - s.toInt).toNat = k + 1 by omega, hg, ← hk]
  rw [ez] at hb hd ⊢
  have hv : rg (dvF f s.toNatClampNeg k) 0 99 := by
    rcases (show k = 0 ∨ k = 1 ∨ k = 2 by omega) with rfl | rfl | rfl
    · exact (show rg (0 : Int32) 0 99 from rg_c (by decide))
    · exact rg_w (dvF_1 (hd _ (by omega) (by omega))) (by decide)
    · exact dvF_2 (hd _ (by omega) (by omega)) (hd _ (by omega) (by omega))
  unfold figV
  rw [if_pos (by omega), if_pos (by omega)]
  exact fg_add hv hb (by decide)
theorem fg_step2 {f : Nat → Int32} {s z : Int32} (hs : rg s 0 250) (hz : rg z 0 249) (c : ¬ z - s < 3) : (100000 : Int64) = figV f s.toNatClampNeg ((z + 1).toInt - s.toInt).toNat := by
  have e1 := oh_add1 hz
  have c1 := Int32.le_iff_toInt_le.mp (Int32.not_lt.mp c)
  have e4 : (z - s).toInt = z.toInt - s.toInt := by
    rw [Int32.toInt_sub]
    exact oh_bmod (by have := hs.2; have := hz.1; omega) (by have := hs.1; have := hz.2; omega)
  have c3 : (3 : Int32).toInt = 3 := rfl
  rw [e4, c3] at c1
  unfold figV
  rw [if_neg (by rw [e1]; omega)]
theorem fg_dig {f : Nat → Int32} {s z : Int32} (hz : rg z 0 249) (hd : ∀ j, s.toNatClampNeg ≤ j → j < z.toNatClampNeg → pD (f j)) (hb : pD (f z.toNatClampNeg)) : ∀ j, s.toNatClampNeg ≤ j → j < (z + 1).toNatClampNeg → pD (f j) := by
  intro j h1 h2
  have e1 := oh_add1 hz
  have h3 : j < z.toInt.toNat + 1 := by
    have h4 : j < (z + 1).toInt.toNat := h2
    rw [e1] at h4
    have := hz.1
    omega
  by_cases q : j < z.toNatClampNeg
  · exact hd j h1 q
  · have h5 : j = z.toNatClampNeg := by
      have h6 : ¬ j < z.toInt.toNat := q
      show j = z.toInt.toNat
      omega
    rw [h5]
    exact hb
theorem fg_0 {f : Nat → Int32} {s : Int32} : (0 : Int64) = figV f s.toNatClampNeg (s.toInt - s.toInt).toNat := by
  rw [Int.sub_self]
  rfl
noncomputable def mNum (f : Nat → Int32) (lo hi : Int32) (p : PX) : Except Int32 (Int32 × PX) := pif (lo ≤ numH f p ∧ numH f p ≤ hi) (.ok (numH f p, xAdv f p)) (.error p.2.2.2.1)
noncomputable def tNum (f : Nat → Int32) (j : Nat) (lo hi : Int32) (p : PX) : Except Int32 (Int32 × PX) := pif (XIs f p j) (mNum f lo hi (xAdv f p)) (.error p.2.2.2.1)
noncomputable def pNum (f : Nat → Int32) (j : Nat) (lo hi d : Int32) (p : PX) : Except Int32 (Int32 × PX) := pif (XIs f p j) (tNum f j lo hi p) (.ok (d, p))
/-- the number that both see -/
theorem nm_eq {f : Nat → Int32} {n q t s e : Int32} {g : Int64} (hs : rg s 0 250) (he : rg e 0 250) (hse : s.toInt ≤ e.toInt) (ht : t = 2) (hg : g = figOf f (n, q, t, s, e)) : (e - s ≤ 3 ∧ numH f (n, q, t, s, e) = Int64.toInt32 g ∧ g = Int32.toInt64 (numH f (n, q, t, s, e))) ∨ (¬ e - s ≤ 3 ∧ numH f (n, q, t, s, e) = -1 ∧ g = 100000) := by
  have e4 : (e - s).toInt = e.toInt - s.toInt := by
    rw [Int32.toInt_sub]
    exact oh_bmod (by have := hs.2; have := he.1; omega) (by have := hs.1; have := he.2; omega)
  have c3 : (3 : Int32).toInt = 3 := rfl
  have g1 : g = figV f s.toNatClampNeg (e.toInt - s.toInt).toNat := Eq.trans hg (pif_pos ht)
  by_cases c : e - s ≤ 3
  · have c1 := Int32.le_iff_toInt_le.mp c
    rw [e4, c3] at c1
    have n1 : numH f (n, q, t, s, e) = dvF f s.toNatClampNeg (e.toInt - s.toInt).toNat := pif_pos ⟨ht, c⟩
    have g2 : g = Int32.toInt64 (dvF f s.toNatClampNeg (e.toInt - s.toInt).toNat) := by
      rw [g1]
      exact if_pos (by omega)
    refine Or.inl ⟨c, ?_, ?_⟩
    · rw [n1, g2]
      exact (Int32.toInt32_toInt64 _).symm
    · rw [n1, g2]
  · have c1 := Int32.lt_iff_toInt_lt.mp (Int32.not_le.mp c)
    rw [e4, c3] at c1
    refine Or.inr ⟨c, pif_neg (fun h => c h.2), ?_⟩
    rw [g1]
    exact if_neg (by omega)
theorem mN_no {f : Nat → Int32} {lo hi : Int32} {p : PX} (h : ¬ (lo ≤ numH f p ∧ numH f p ≤ hi)) : mNum f lo hi p = .error p.2.2.2.1 := pif_neg h
theorem mN_t {f : Nat → Int32} {lo hi : Int32} {p : PX} (hlo : 0 ≤ lo.toInt) (h : ¬ p.2.2.1 = 2) : mNum f lo hi p = .error p.2.2.2.1 := by
  have e : numH f p = -1 := pif_neg (fun q => h q.1)
  refine mN_no (fun q => ?_)
  have h1 := Int32.le_iff_toInt_le.mp q.1
  rw [e] at h1
  have h2 : (-1 : Int32).toInt = -1 := rfl
  omega
theorem oh_in64' {x lo hi : Int32} : (Int32.toInt64 lo ≤ Int32.toInt64 x ∧ Int32.toInt64 x ≤ Int32.toInt64 hi) ↔ (lo ≤ x ∧ x ≤ hi) := by
  rw [Int64.le_iff_toInt_le, Int64.le_iff_toInt_le, oh_l32, oh_l32, oh_l32, Int32.le_iff_toInt_le, Int32.le_iff_toInt_le]
theorem mN_bad {f : Nat → Int32} {lo hi n q t s e : Int32} {g : Int64} (hlo : 0 ≤ lo.toInt) (hs : rg s 0 250) (he : rg e 0 250) (hse : s.toInt ≤ e.toInt) (ht : t = 2) (hg : g = figOf f (n, q, t, s, e)) (h : ¬ (Int32.toInt64 lo ≤ g ∧ g ≤ Int32.toInt64 hi)) : mNum f lo hi (n, q, t, s, e) = .error s := by
  rcases nm_eq hs he hse ht hg with ⟨-, h1, h2⟩ | ⟨-, h1, h2⟩
  · rw [h2] at h
    exact mN_no (fun z => h (oh_in64'.mpr z))
  · refine mN_no (fun z => ?_)
    have h3 := Int32.le_iff_toInt_le.mp z.1
    rw [h1] at h3
    have h4 : (-1 : Int32).toInt = -1 := rfl
    omega
theorem mN_ok {f : Nat → Int32} {lo hi n q t s e : Int32} {g : Int64} (hhi : hi.toInt ≤ 999) (hs : rg s 0 250) (he : rg e 0 250) (hse : s.toInt ≤ e.toInt) (ht : t = 2) (hg : g = figOf f (n, q, t, s, e)) (c1 : Int32.toInt64 lo ≤ g) (c2 : g ≤ Int32.toInt64 hi) : mNum f lo hi (n, q, t, s, e) = .ok (Int64.toInt32 g, xAdv f (n, q, t, s, e)) := by
  rcases nm_eq hs he hse ht hg with ⟨-, h1, h2⟩ | ⟨-, h1, h2⟩
  · rw [← h1]
    rw [h2] at c1 c2
    exact pif_pos (oh_in64'.mp ⟨c1, c2⟩)
  · rw [h2] at c2
    have h3 := Int64.le_iff_toInt_le.mp c2
    rw [oh_l32] at h3
    have h4 : (100000 : Int64).toInt = 100000 := rfl
    omega

set_option maxHeartbeats 4000000 in
set_option maxRecDepth 100000 in
theorem e_X7_isLetter (l : Launch) (D : va_G) (E : Nat → ClassId) (G : Nat → Nat) (x1 : Int32) : Met l yX7_isLetter (oh_w yX7_isLetter cX7_isLetter 1 (some .boolean)) ({ frames := 0, cells := 0, slots := 0, locals := 0 }) (oh_Pp D E G [.int x1] []) (vp_Si (fun r => (r = 0 ∨ r = 1) ∧ (r ≠ 0 → (pL x1)) ∧ (r = 0 → (¬ pL x1)))) 0 0 (fun _ => False) := by
  refine Met.ofW (cc := cX7_isLetter) (maxL := 1) (ret := (some .boolean)) (by decide) rfl ?_
  intro p e s m args below meth c s₁ B hml hv
  obtain ⟨rfl, hP, hK, hG⟩ := hv
  have hx := B.exec
  have hb := B.bytes
  have hr := B.returns
  have hts := atoms_spec (ws := (oh_w yX7_isLetter cX7_isLetter 1 (some .boolean))) B.pre
  have htg : ∀ w ∈ oh_t, w.before _ s = true := fun w h => hts w (List.mem_cons_of_mem _ h)
  have hown : s.vm.findClass RX7 = some m.cls := findClass_of_methodNamed B.named
  have hlocks := B.notSynchronized
  have hS : va_S (fun _ => False) s.heap s.heap [] := va_S.rf
  have hl := lv_entry ([.int x1]) (n := 1) (Nat.le_of_ble_eq_true rfl)
  rw [lg_entry_eq]
  generalize (lg_sl ([.int x1]) ++ List.replicate (1 - (lg_sl ([.int x1])).length) Slot.unset).toArray = ls at hl ⊢
  have hl : lv_has ls 1 [(0, .int x1)] := hl
  refine oh_genQ (fun Q hQ => ?_)
  refine lv_iload_n hx hb dX7_isLetter_0 rfl (lv_at hl 0 rfl) ?_
  refine lv_bipush (v := 97) hx hb dX7_isLetter_1 (by decide) ?_
  refine lv_icmp_lt (tgt := 16) hx hb dX7_isLetter_3 (by decide) (fun (c_1 : x1 < 97) => ?_) (fun (c_1 : ¬ (x1 < 97)) => ?_)
  · refine lv_iconst (v := 0) hx hb dX7_isLetter_16 (by decide) ?_
    rw [hQ]
    exact W.zret (v := 0) (ty := .boolean) hx hb hr (by decide) (fun t ht hW => ⟨0, rfl, ⟨(Or.inl rfl), (fun h9 => absurd rfl h9), (fun _ => (pL_lo c_1))⟩, ht⟩) (fun q h => by cases h) dX7_isLetter_17
  · refine lv_iload_n hx hb dX7_isLetter_6 rfl (lv_at hl 0 rfl) ?_
    refine lv_bipush (v := 122) hx hb dX7_isLetter_7 (by decide) ?_
    refine lv_icmp_gt (tgt := 16) hx hb dX7_isLetter_9 (by decide) (fun (c_2 : (122 : Int32) < x1) => ?_) (fun (c_2 : ¬ ((122 : Int32) < x1)) => ?_)
    · refine lv_iconst (v := 0) hx hb dX7_isLetter_16 (by decide) ?_
      rw [hQ]
      exact W.zret (v := 0) (ty := .boolean) hx hb hr (by decide) (fun t ht hW => ⟨0, rfl, ⟨(Or.inl rfl), (fun h9 => absurd rfl h9), (fun _ => (pL_hi c_2))⟩, ht⟩) (fun q h => by cases h) dX7_isLetter_17
    · refine lv_iconst (v := 1) hx hb dX7_isLetter_12 (by decide) ?_
      refine lv_goto (tgt := 17) hx hb dX7_isLetter_13 (by decide) ?_
      rw [hQ]
      exact W.zret (v := 1) (ty := .boolean) hx hb hr (by decide) (fun t ht hW => ⟨1, rfl, ⟨(Or.inr rfl), (fun _ => ⟨(Int32.not_lt.mp c_1), (Int32.not_lt.mp c_2)⟩), (fun h9 => absurd h9 (by decide))⟩, ht⟩) (fun q h => by cases h) dX7_isLetter_17

set_option maxHeartbeats 4000000 in
set_option maxRecDepth 100000 in
theorem e_X7_isDigit (l : Launch) (D : va_G) (E : Nat → ClassId) (G : Nat → Nat) (x1 : Int32) : Met l yX7_isDigit (oh_w yX7_isDigit cX7_isDigit 1 (some .boolean)) ({ frames := 0, cells := 0, slots := 0, locals := 0 }) (oh_Pp D E G [.int x1] []) (vp_Si (fun r => (r = 0 ∨ r = 1) ∧ (r ≠ 0 → (pD x1)) ∧ (r = 0 → (¬ pD x1)))) 0 0 (fun _ => False) := by
  refine Met.ofW (cc := cX7_isDigit) (maxL := 1) (ret := (some .boolean)) (by decide) rfl ?_
  intro p e s m args below meth c s₁ B hml hv
  obtain ⟨rfl, hP, hK, hG⟩ := hv
  have hx := B.exec
  have hb := B.bytes
  have hr := B.returns
  have hts := atoms_spec (ws := (oh_w yX7_isDigit cX7_isDigit 1 (some .boolean))) B.pre
  have htg : ∀ w ∈ oh_t, w.before _ s = true := fun w h => hts w (List.mem_cons_of_mem _ h)
  have hown : s.vm.findClass RX7 = some m.cls := findClass_of_methodNamed B.named
  have hlocks := B.notSynchronized
  have hS : va_S (fun _ => False) s.heap s.heap [] := va_S.rf
  have hl := lv_entry ([.int x1]) (n := 1) (Nat.le_of_ble_eq_true rfl)
  rw [lg_entry_eq]
  generalize (lg_sl ([.int x1]) ++ List.replicate (1 - (lg_sl ([.int x1])).length) Slot.unset).toArray = ls at hl ⊢
  have hl : lv_has ls 1 [(0, .int x1)] := hl
  refine oh_genQ (fun Q hQ => ?_)
  refine lv_iload_n hx hb dX7_isDigit_0 rfl (lv_at hl 0 rfl) ?_
  refine lv_bipush (v := 48) hx hb dX7_isDigit_1 (by decide) ?_
  refine lv_icmp_lt (tgt := 16) hx hb dX7_isDigit_3 (by decide) (fun (c_1 : x1 < 48) => ?_) (fun (c_1 : ¬ (x1 < 48)) => ?_)
  · refine lv_iconst (v := 0) hx hb dX7_isDigit_16 (by decide) ?_
    rw [hQ]
    exact W.zret (v := 0) (ty := .boolean) hx hb hr (by decide) (fun t ht hW => ⟨0, rfl, ⟨(Or.inl rfl), (fun h9 => absurd rfl h9), (fun _ => (pD_lo c_1))⟩, ht⟩) (fun q h => by cases h) dX7_isDigit_17
  · refine lv_iload_n hx hb dX7_isDigit_6 rfl (lv_at hl 0 rfl) ?_
    refine lv_bipush (v := 57) hx hb dX7_isDigit_7 (by decide) ?_
    refine lv_icmp_gt (tgt := 16) hx hb dX7_isDigit_9 (by decide) (fun (c_2 : (57 : Int32) < x1) => ?_) (fun (c_2 : ¬ ((57 : Int32) < x1)) => ?_)
    · refine lv_iconst (v := 0) hx hb dX7_isDigit_16 (by decide) ?_
      rw [hQ]
      exact W.zret (v := 0) (ty := .boolean) hx hb hr (by decide) (fun t ht hW => ⟨0, rfl, ⟨(Or.inl rfl), (fun h9 => absurd rfl h9), (fun _ => (pD_hi c_2))⟩, ht⟩) (fun q h => by cases h) dX7_isDigit_17
    · refine lv_iconst (v := 1) hx hb dX7_isDigit_12 (by decide) ?_
      refine lv_goto (tgt := 17) hx hb dX7_isDigit_13 (by decide) ?_
      rw [hQ]
      exact W.zret (v := 1) (ty := .boolean) hx hb hr (by decide) (fun t ht hW => ⟨1, rfl, ⟨(Or.inr rfl), (fun _ => ⟨(Int32.not_lt.mp c_1), (Int32.not_lt.mp c_2)⟩), (fun h9 => absurd h9 (by decide))⟩, ht⟩) (fun q h => by cases h) dX7_isDigit_17

set_option maxHeartbeats 4000000 in
set_option maxRecDepth 100000 in
theorem e_X7_look (l : Launch) (D : va_G) (E : Nat → ClassId) (G : Nat → Nat) (sz : Nat) (a : Nat → Nat) (C : Nat → va_E) (n : Nat) (hn : 74 ≤ n) (hT : TyM a E C) (hat : (gi (C 0) 21).toInt ≤ (gi (C 0) 7).toInt) : Met l yX7_look (oh_w yX7_look cX7_look 1 none) ({ frames := 1, cells := 0, slots := 0, locals := 20 }) (oh_Pm D E G [.ref (a 0)] (oh_W n a C) sz) (va_Qv (fun (u : Nat → va_E) => TyM a E u ∧ fr [] [21, 22, 23, 24] C u ∧ (((gi (C 0) 21).toInt ≤ (gi (u 0) 23).toInt) ∧ ((gi (u 0) 23).toInt ≤ (gi (u 0) 21).toInt) ∧ ((gi (u 0) 21).toInt ≤ (gi (u 0) 7).toInt)) ∧ (pm u = xAdv (ga (C 7)) (pm C)) ∧ (gl (u 0) 24 = figOf (ga (C 7)) (pm u))) (oh_B D (va_A (oh_W n a C) sz) (fun u => oh_W n a u)) (va_A (oh_W n a C) sz)) 0 0 (va_A (oh_W n a C) sz) := by
  refine Met.ofW (cc := cX7_look) (maxL := 1) (ret := none) (by decide) rfl ?_
  intro p e s m args below meth c s₁ B hml hv
  obtain ⟨rfl, hsz, hP, hK, hD0, hG⟩ := hv
  have hx := B.exec
  have hb := B.bytes
  have hr := B.returns
  have hts := atoms_spec (ws := (oh_w yX7_look cX7_look 1 none)) B.pre
  have htg : ∀ w ∈ oh_t, w.before _ s = true := fun w h => hts w (List.mem_cons_of_mem _ h)
  have hown : s.vm.findClass RX7 = some m.cls := findClass_of_methodNamed B.named
  have hlocks := B.notSynchronized
  have hT0 := hT
  subst hsz
  have hD := hD0.self (sz := s.heap.size)
  generalize hAe : va_A (oh_W n a C) s.heap.size = A at hD hG ⊢
  have hA : ∀ q : Nat, s.heap.size ≤ q → A q := fun q h => by rw [← hAe]; exact Or.inr h
  have hS : va_S A s.heap s.heap [] := va_S.rf
  have hF : fr [] [21, 22, 23, 24] C C := fr_rf
  have hl := lv_entry ([.ref (a 0)]) (n := 1) (Nat.le_of_ble_eq_true rfl)
  rw [lg_entry_eq]
  generalize (lg_sl ([.ref (a 0)]) ++ List.replicate (1 - (lg_sl ([.ref (a 0)])).length) Slot.unset).toArray = ls at hl ⊢
  have hl : lv_has ls 1 [(0, .ref (a 0))] := hl
  refine oh_genQ (fun Q hQ => ?_)
  have hat0 := hat
  have L_0 : ∀ (d : Nat) (K0 : Nat → va_E) (H : Heap) (locs : List Loc) (ls : Array Slot), (250 - (gi (K0 0) 21).toInt).toNat = d → ((gi (C 0) 21).toInt ≤ (gi (K0 0) 21).toInt ∧ (gi (K0 0) 21).toInt ≤ (gi (K0 0) 7).toInt) → ((upto pB (ga (C 7)) (gi (C 0) 7) (gi (K0 0) 21)) = (upto pB (ga (C 7)) (gi (C 0) 7) (gi (C 0) 21))) → TyM a E K0 → fr [] [21, 22, 23, 24] C K0 → fr [] [21] C K0 → va_P D vwCl (oh_W n a K0) H → va_D A (oh_W n a K0) → va_S A s.heap H locs → lv_has ls 1 [(0, .ref (a 0))] → W p l e ({ frames := 1, cells := 0, slots := 0, locals := 20 }) s m (([.ref (a 0)] : List Value).toArray) below meth c H locs 0 0 Q (F0 m 0 ls []) := by
    intro d
    induction d using Nat.strongRecOn with
    | ind d ih_0 =>
    intro K0  H locs ls hd_0 hv_0 hs_0 hT hF hLF_0 hP hD hS hl
    have t_1 := hT
    refine lv_aload_n hx hb dX7_look_0 rfl (lv_at hl 0 rfl) ?_
    refine va_get (D := D) (ci := 7) (v := .int (gi (K0 0) 21)) (C := RX7) (T := TX7) (N := 29) hx hb htg ig_7 hown hK hP 0 (oh_wg (Nat.lt_of_lt_of_le (by decide) hn) (sM_0 hT)) rfl 21 (by decide) (htg _ q_994) (fun _ h9 => h9) rfl dX7_look_1 ?_
    refine lv_aload_n hx hb dX7_look_4 rfl (lv_at hl 0 rfl) ?_
    refine va_get (D := D) (ci := 7) (v := .int (gi (C 0) 7)) (C := RX7) (T := TX7) (N := 29) hx hb htg ig_7 hown hK hP 0 (oh_wg (Nat.lt_of_lt_of_le (by decide) hn) (sM_0 hT)) rfl 7 (by decide) (htg _ q_980) (fun _ h9 => h9) (oh_fv (c := K0 0) (j := 7) rfl (congrArg vi (hLF_0.2 7 (by decide)))) dX7_look_5 ?_
    refine lv_icmp_ge (tgt := 38) hx hb dX7_look_8 (by decide) (fun (c_2 : (gi (C 0) 7) ≤ (gi (K0 0) 21)) => ?_) (fun (c_2 : ¬ ((gi (C 0) 7) ≤ (gi (K0 0) 21))) => ?_)
    · refine lv_aload_n hx hb dX7_look_38 rfl (lv_at hl 0 rfl) ?_
      refine lv_aload_n hx hb dX7_look_39 rfl (lv_at hl 0 rfl) ?_
      refine va_get (D := D) (ci := 7) (v := .int (gi (K0 0) 21)) (C := RX7) (T := TX7) (N := 29) hx hb htg ig_7 hown hK hP 0 (oh_wg (Nat.lt_of_lt_of_le (by decide) hn) (sM_0 hT)) rfl 21 (by decide) (htg _ q_994) (fun _ h9 => h9) rfl dX7_look_40 ?_
      refine th_put (Tp := TyM a E) (Rl := fr [] [21, 22, 23, 24] C) (ci := 7) (v := .int (gi (K0 0) 21)) (ty := .int) (CC := RX7) (T := TX7) (N := 29) hx hb htg ig_7 tyX7 tyX7_ok nmX7 hown hK hP hD hS 0 (Nat.lt_of_lt_of_le (by decide) hn) (sM_0 hT) rfl 23 (by decide) (htg _ q_996) (fun _ h9 => h9) rfl (by decide +kernel) rfl rfl (Nat.le_of_ble_eq_true rfl) (hT.up 0 (by decide) ⟨rfl, (fM_0_7 hT), (fM_0_9 hT), (fM_0_11 hT), (fM_0_13 hT), (fM_0_15 hT), (fM_0_21 hT), (rg_w (fM_0_21 t_1) (by decide))⟩) (fr_fd hF (sM_0 hT) (by decide)) dX7_look_43 (fun C_3 H locs e_4 hT hF hP hD hS => ?_)
      have t_5 := hT
      refine lv_aload_n hx hb dX7_look_46 rfl (lv_at hl 0 rfl) ?_
      refine lv_lconst (v := 0) hx hb dX7_look_47 (by decide) ?_
      refine th_put (Tp := TyM a E) (Rl := fr [] [21, 22, 23, 24] C) (ci := 7) (v := .long 0) (ty := .long) (CC := RX7) (T := TX7) (N := 29) hx hb htg ig_7 tyX7 tyX7_ok nmX7 hown hK hP hD hS 0 (Nat.lt_of_lt_of_le (by decide) hn) (sM_0 hT) rfl 24 (by decide) (htg _ q_997) (fun _ h9 => h9) rfl (by decide +kernel) rfl rfl (Nat.le_of_ble_eq_true rfl) (hT.up 0 (by decide) ⟨rfl, (fM_0_7 hT), (fM_0_9 hT), (fM_0_11 hT), (fM_0_13 hT), (fM_0_15 hT), (fM_0_21 hT), (fM_0_23 hT)⟩) (fr_fd hF (sM_0 hT) (by decide)) dX7_look_48 (fun C_6 H locs e_7 hT hF hP hD hS => ?_)
      have t_8 := hT
      refine lv_aload_n hx hb dX7_look_51 rfl (lv_at hl 0 rfl) ?_
      refine va_get (D := D) (ci := 7) (v := .int (gi (K0 0) 21)) (C := RX7) (T := TX7) (N := 29) hx hb htg ig_7 hown hK hP 0 (oh_wg (Nat.lt_of_lt_of_le (by decide) hn) (sM_0 hT)) rfl 21 (by decide) (htg _ q_994) (fun _ h9 => h9) (oh_fv (c := C_6 0) (j := 21) rfl (Eq.trans (show gi (C_6 0) 21 = gi (C_3 0) 21 by rw [e_7]; rfl) (show gi (C_3 0) 21 = gi (K0 0) 21 by rw [e_4]; rfl))) dX7_look_52 ?_
      refine lv_aload_n hx hb dX7_look_55 rfl (lv_at hl 0 rfl) ?_
      refine va_get (D := D) (ci := 7) (v := .int (gi (C 0) 7)) (C := RX7) (T := TX7) (N := 29) hx hb htg ig_7 hown hK hP 0 (oh_wg (Nat.lt_of_lt_of_le (by decide) hn) (sM_0 hT)) rfl 7 (by decide) (htg _ q_980) (fun _ h9 => h9) (oh_fv (c := C_6 0) (j := 7) rfl (Eq.trans (show gi (C_6 0) 7 = gi (C_3 0) 7 by rw [e_7]; rfl) (Eq.trans (show gi (C_3 0) 7 = gi (K0 0) 7 by rw [e_4]; rfl) (congrArg vi (hLF_0.2 7 (by decide)))))) dX7_look_56 ?_
      refine lv_icmp_ne (tgt := 70) hx hb dX7_look_59 (by decide) (fun (c_9 : ¬ ((gi (K0 0) 21) = (gi (C 0) 7))) => ?_) (fun (c_9 : (gi (K0 0) 21) = (gi (C 0) 7)) => ?_)
      · refine lv_aload_n hx hb dX7_look_70 rfl (lv_at hl 0 rfl) ?_
        refine va_get (D := D) (ci := 7) (v := .ref (a 7)) (C := RX7) (T := TX7) (N := 29) hx hb htg ig_7 hown hK hP 0 (oh_wg (Nat.lt_of_lt_of_le (by decide) hn) (sM_0 hT)) rfl 6 (by decide) (htg _ q_979) (fun _ h9 => h9) rfl dX7_look_71 ?_
        refine lv_aload_n hx hb dX7_look_74 rfl (lv_at hl 0 rfl) ?_
        refine va_get (D := D) (ci := 7) (v := .int (gi (K0 0) 21)) (C := RX7) (T := TX7) (N := 29) hx hb htg ig_7 hown hK hP 0 (oh_wg (Nat.lt_of_lt_of_le (by decide) hn) (sM_0 hT)) rfl 21 (by decide) (htg _ q_994) (fun _ h9 => h9) (oh_fv (c := C_6 0) (j := 21) rfl (Eq.trans (show gi (C_6 0) 21 = gi (C_3 0) 21 by rw [e_7]; rfl) (show gi (C_3 0) 21 = gi (K0 0) 21 by rw [e_4]; rfl))) dX7_look_75 ?_
        have : (gi (K0 0) 7).toInt = (gi (C 0) 7).toInt := congrArg (fun z => (vi z).toInt) (hLF_0.2 7 (by decide))
        have : (gi (K0 0) 23).toInt = (gi (C 0) 23).toInt := congrArg (fun z => (vi z).toInt) (hLF_0.2 23 (by decide))
        have : (gi (K0 0) 13).toInt = (gi (C 0) 13).toInt := congrArg (fun z => (vi z).toInt) (hLF_0.2 13 (by decide))
        have : (gi (C_3 0) 21).toInt = (gi (K0 0) 21).toInt := congrArg Int32.toInt (show gi (C_3 0) 21 = gi (K0 0) 21 by rw [e_4]; rfl)
        have : (gi (C_3 0) 7).toInt = (gi (K0 0) 7).toInt := congrArg Int32.toInt (show gi (C_3 0) 7 = gi (K0 0) 7 by rw [e_4]; rfl)
        have : (gi (C_3 0) 23).toInt = (gi (K0 0) 21).toInt := congrArg Int32.toInt (show gi (C_3 0) 23 = (gi (K0 0) 21) by rw [e_4]; rfl)
        have : (gi (C_3 0) 13).toInt = (gi (K0 0) 13).toInt := congrArg Int32.toInt (show gi (C_3 0) 13 = gi (K0 0) 13 by rw [e_4]; rfl)
        have : (gi (C_6 0) 21).toInt = (gi (C_3 0) 21).toInt := congrArg Int32.toInt (show gi (C_6 0) 21 = gi (C_3 0) 21 by rw [e_7]; rfl)
        have : (gi (C_6 0) 7).toInt = (gi (C_3 0) 7).toInt := congrArg Int32.toInt (show gi (C_6 0) 7 = gi (C_3 0) 7 by rw [e_7]; rfl)
        have : (gi (C_6 0) 23).toInt = (gi (C_3 0) 23).toInt := congrArg Int32.toInt (show gi (C_6 0) 23 = gi (C_3 0) 23 by rw [e_7]; rfl)
        have : (gi (C_6 0) 13).toInt = (gi (C_3 0) 13).toInt := congrArg Int32.toInt (show gi (C_6 0) 13 = gi (C_3 0) 13 by rw [e_7]; rfl)
        have : 0 ≤ (gi (C 0) 21).toInt ∧ (gi (C 0) 21).toInt ≤ 250 := fM_0_21 hT0
        have : 0 ≤ (gi (C 0) 7).toInt ∧ (gi (C 0) 7).toInt ≤ 250 := fM_0_7 hT0
        have : 0 ≤ (gi (C 0) 23).toInt ∧ (gi (C 0) 23).toInt ≤ 250 := fM_0_23 hT0
        have : 0 ≤ (gi (C 0) 13).toInt ∧ (gi (C 0) 13).toInt ≤ 5 := fM_0_13 hT0
        have : 0 ≤ (gi (K0 0) 21).toInt ∧ (gi (K0 0) 21).toInt ≤ 250 := fM_0_21 t_1
        have : 0 ≤ (gi (K0 0) 7).toInt ∧ (gi (K0 0) 7).toInt ≤ 250 := fM_0_7 t_1
        have : 0 ≤ (gi (K0 0) 23).toInt ∧ (gi (K0 0) 23).toInt ≤ 250 := fM_0_23 t_1
        have : 0 ≤ (gi (K0 0) 13).toInt ∧ (gi (K0 0) 13).toInt ≤ 5 := fM_0_13 t_1
        have : 0 ≤ (gi (C_3 0) 21).toInt ∧ (gi (C_3 0) 21).toInt ≤ 250 := fM_0_21 t_5
        have : 0 ≤ (gi (C_3 0) 7).toInt ∧ (gi (C_3 0) 7).toInt ≤ 250 := fM_0_7 t_5
        have : 0 ≤ (gi (C_3 0) 23).toInt ∧ (gi (C_3 0) 23).toInt ≤ 250 := fM_0_23 t_5
        have : 0 ≤ (gi (C_3 0) 13).toInt ∧ (gi (C_3 0) 13).toInt ≤ 5 := fM_0_13 t_5
        have : 0 ≤ (gi (C_6 0) 21).toInt ∧ (gi (C_6 0) 21).toInt ≤ 250 := fM_0_21 t_8
        have : 0 ≤ (gi (C_6 0) 7).toInt ∧ (gi (C_6 0) 7).toInt ≤ 250 := fM_0_7 t_8
        have : 0 ≤ (gi (C_6 0) 23).toInt ∧ (gi (C_6 0) 23).toInt ≤ 250 := fM_0_23 t_8
        have : 0 ≤ (gi (C_6 0) 13).toInt ∧ (gi (C_6 0) 13).toInt ≤ 5 := fM_0_13 t_8
        have : (gi (C 0) 7).toInt ≤ (gi (K0 0) 21).toInt := Int32.le_iff_toInt_le.mp c_2
        have : ¬ (gi (K0 0) 21).toInt = (gi (C 0) 7).toInt := fun h7 => c_9 (Int32.toInt_inj.mp h7)
        have n_10 : vp_in (gi (K0 0) 21) 250 := (vp_in_iff.mpr ⟨by omega, by omega⟩)
        refine th_iald hx hb hK hP 7 (Nat.lt_of_lt_of_le (by decide) hn) (Eq.trans (Eq.trans (th_un e_7 (by decide)) (Eq.trans (th_un e_4 (by decide)) (hLF_0.1 7 rfl (by decide)))) (sM_7 hT0)) n_10 dX7_look_78 ?_
        refine tq_S (As := [.int (ga (C 7) (gi (K0 0) 21).toNatClampNeg)]) (rest := []) (ws := []) ⟨hx, hb, hml, hown, htg⟩ (e_X7_isLetter l D E G (ga (C 7) (gi (K0 0) 21).toNatClampNeg)) (va_cwS 1 htg (oh_gS q_1201 q_1202 q_73 q_1203) rfl rfl rfl pdX7_isLetter ⟨Nat.le_of_ble_eq_true rfl, Nat.le_of_ble_eq_true rfl⟩) hK va_nil hG hS rfl hl.1 rfl (Nat.le_of_ble_eq_true rfl) dX7_look_79 ⟨Nat.le_of_ble_eq_true rfl, Nat.le_of_ble_eq_true rfl⟩ (fun r_11 hq_12 => ?_)
        refine lv_if_eq (tgt := 129) hx hb dX7_look_82 (by decide) (fun (c_13 : r_11 = 0) => ?_) (fun (c_13 : ¬ (r_11 = 0)) => ?_)
        · have u_14 := hq_12.2.2 c_13
          refine lv_aload_n hx hb dX7_look_129 rfl (lv_at hl 0 rfl) ?_
          refine va_get (D := D) (ci := 7) (v := .ref (a 7)) (C := RX7) (T := TX7) (N := 29) hx hb htg ig_7 hown hK hP 0 (oh_wg (Nat.lt_of_lt_of_le (by decide) hn) (sM_0 hT)) rfl 6 (by decide) (htg _ q_979) (fun _ h9 => h9) rfl dX7_look_130 ?_
          refine lv_aload_n hx hb dX7_look_133 rfl (lv_at hl 0 rfl) ?_
          refine va_get (D := D) (ci := 7) (v := .int (gi (K0 0) 21)) (C := RX7) (T := TX7) (N := 29) hx hb htg ig_7 hown hK hP 0 (oh_wg (Nat.lt_of_lt_of_le (by decide) hn) (sM_0 hT)) rfl 21 (by decide) (htg _ q_994) (fun _ h9 => h9) (oh_fv (c := C_6 0) (j := 21) rfl (Eq.trans (show gi (C_6 0) 21 = gi (C_3 0) 21 by rw [e_7]; rfl) (show gi (C_3 0) 21 = gi (K0 0) 21 by rw [e_4]; rfl))) dX7_look_134 ?_
          have n_15 : vp_in (gi (K0 0) 21) 250 := (vp_in_iff.mpr ⟨by omega, by omega⟩)
          refine th_iald hx hb hK hP 7 (Nat.lt_of_lt_of_le (by decide) hn) (Eq.trans (Eq.trans (th_un e_7 (by decide)) (Eq.trans (th_un e_4 (by decide)) (hLF_0.1 7 rfl (by decide)))) (sM_7 hT0)) n_15 dX7_look_137 ?_
          refine tq_S (As := [.int (ga (C 7) (gi (K0 0) 21).toNatClampNeg)]) (rest := []) (ws := []) ⟨hx, hb, hml, hown, htg⟩ (e_X7_isDigit l D E G (ga (C 7) (gi (K0 0) 21).toNatClampNeg)) (va_cwS 1 htg (oh_gS q_1204 q_1205 q_73 q_1206) rfl rfl rfl pdX7_isDigit ⟨Nat.le_of_ble_eq_true rfl, Nat.le_of_ble_eq_true rfl⟩) hK va_nil hG hS rfl hl.1 rfl (Nat.le_of_ble_eq_true rfl) dX7_look_138 ⟨Nat.le_of_ble_eq_true rfl, Nat.le_of_ble_eq_true rfl⟩ (fun r_16 hq_17 => ?_)
          refine lv_if_eq (tgt := 234) hx hb dX7_look_141 (by decide) (fun (c_18 : r_16 = 0) => ?_) (fun (c_18 : ¬ (r_16 = 0)) => ?_)
          · have u_19 := hq_17.2.2 c_18
            refine lv_aload_n hx hb dX7_look_234 rfl (lv_at hl 0 rfl) ?_
            refine lv_aload_n hx hb dX7_look_235 rfl (lv_at hl 0 rfl) ?_
            refine va_get (D := D) (ci := 7) (v := .ref (a 7)) (C := RX7) (T := TX7) (N := 29) hx hb htg ig_7 hown hK hP 0 (oh_wg (Nat.lt_of_lt_of_le (by decide) hn) (sM_0 hT)) rfl 6 (by decide) (htg _ q_979) (fun _ h9 => h9) rfl dX7_look_236 ?_
            refine lv_aload_n hx hb dX7_look_239 rfl (lv_at hl 0 rfl) ?_
            refine va_get (D := D) (ci := 7) (v := .int (gi (K0 0) 21)) (C := RX7) (T := TX7) (N := 29) hx hb htg ig_7 hown hK hP 0 (oh_wg (Nat.lt_of_lt_of_le (by decide) hn) (sM_0 hT)) rfl 21 (by decide) (htg _ q_994) (fun _ h9 => h9) (oh_fv (c := C_6 0) (j := 21) rfl (Eq.trans (show gi (C_6 0) 21 = gi (C_3 0) 21 by rw [e_7]; rfl) (show gi (C_3 0) 21 = gi (K0 0) 21 by rw [e_4]; rfl))) dX7_look_240 ?_
            have n_20 : vp_in (gi (K0 0) 21) 250 := (vp_in_iff.mpr ⟨by omega, by omega⟩)
            refine th_iald hx hb hK hP 7 (Nat.lt_of_lt_of_le (by decide) hn) (Eq.trans (Eq.trans (th_un e_7 (by decide)) (Eq.trans (th_un e_4 (by decide)) (hLF_0.1 7 rfl (by decide)))) (sM_7 hT0)) n_20 dX7_look_243 ?_
            refine lv_bipush (v := 59) hx hb dX7_look_244 (by decide) ?_
            refine lv_icmp_ne (tgt := 253) hx hb dX7_look_246 (by decide) (fun (c_21 : ¬ ((ga (C 7) (gi (K0 0) 21).toNatClampNeg) = 59)) => ?_) (fun (c_21 : (ga (C 7) (gi (K0 0) 21).toNatClampNeg) = 59) => ?_)
            · refine lv_iconst (v := 4) hx hb dX7_look_253 (by decide) ?_
              refine th_put (Tp := TyM a E) (Rl := fr [] [21, 22, 23, 24] C) (ci := 7) (v := .int 4) (ty := .int) (CC := RX7) (T := TX7) (N := 29) hx hb htg ig_7 tyX7 tyX7_ok nmX7 hown hK hP hD hS 0 (Nat.lt_of_lt_of_le (by decide) hn) (sM_0 hT) rfl 22 (by decide) (htg _ q_995) (fun _ h9 => h9) rfl (by decide +kernel) rfl rfl (Nat.le_of_ble_eq_true rfl) (hT.up 0 (by decide) ⟨rfl, (fM_0_7 hT), (fM_0_9 hT), (fM_0_11 hT), (fM_0_13 hT), (fM_0_15 hT), (fM_0_21 hT), (fM_0_23 hT)⟩) (fr_fd hF (sM_0 hT) (by decide)) dX7_look_254 (fun C_22 H locs e_23 hT hF hP hD hS => ?_)
              have t_24 := hT
              refine lv_aload_n hx hb dX7_look_257 rfl (lv_at hl 0 rfl) ?_
              refine lv_dup hx hb dX7_look_258 rfl ?_
              refine va_get (D := D) (ci := 7) (v := .int (gi (K0 0) 21)) (C := RX7) (T := TX7) (N := 29) hx hb htg ig_7 hown hK hP 0 (oh_wg (Nat.lt_of_lt_of_le (by decide) hn) (sM_0 hT)) rfl 21 (by decide) (htg _ q_994) (fun _ h9 => h9) (oh_fv (c := C_22 0) (j := 21) rfl (Eq.trans (show gi (C_22 0) 21 = gi (C_6 0) 21 by rw [e_23]; rfl) (Eq.trans (show gi (C_6 0) 21 = gi (C_3 0) 21 by rw [e_7]; rfl) (show gi (C_3 0) 21 = gi (K0 0) 21 by rw [e_4]; rfl)))) dX7_look_259 ?_
              refine lv_iconst (v := 1) hx hb dX7_look_262 (by decide) ?_
              refine lv_iadd hx hb dX7_look_263 ?_
              have : (gi (C_22 0) 21).toInt = (gi (C_6 0) 21).toInt := congrArg Int32.toInt (show gi (C_22 0) 21 = gi (C_6 0) 21 by rw [e_23]; rfl)
              have : (gi (C_22 0) 7).toInt = (gi (C_6 0) 7).toInt := congrArg Int32.toInt (show gi (C_22 0) 7 = gi (C_6 0) 7 by rw [e_23]; rfl)
              have : (gi (C_22 0) 23).toInt = (gi (C_6 0) 23).toInt := congrArg Int32.toInt (show gi (C_22 0) 23 = gi (C_6 0) 23 by rw [e_23]; rfl)
              have : (gi (C_22 0) 13).toInt = (gi (C_6 0) 13).toInt := congrArg Int32.toInt (show gi (C_22 0) 13 = gi (C_6 0) 13 by rw [e_23]; rfl)
              have : 0 ≤ (gi (C_22 0) 21).toInt ∧ (gi (C_22 0) 21).toInt ≤ 250 := fM_0_21 t_24
              have : 0 ≤ (gi (C_22 0) 7).toInt ∧ (gi (C_22 0) 7).toInt ≤ 250 := fM_0_7 t_24
              have : 0 ≤ (gi (C_22 0) 23).toInt ∧ (gi (C_22 0) 23).toInt ≤ 250 := fM_0_23 t_24
              have : 0 ≤ (gi (C_22 0) 13).toInt ∧ (gi (C_22 0) 13).toInt ≤ 5 := fM_0_13 t_24
              have hpf_264 : rg (gi (K0 0) 21) 0 249 := ⟨by omega, by omega⟩
              refine th_put (Tp := TyM a E) (Rl := fr [] [21, 22, 23, 24] C) (ci := 7) (v := .int ((gi (K0 0) 21) + 1)) (ty := .int) (CC := RX7) (T := TX7) (N := 29) hx hb htg ig_7 tyX7 tyX7_ok nmX7 hown hK hP hD hS 0 (Nat.lt_of_lt_of_le (by decide) hn) (sM_0 hT) rfl 21 (by decide) (htg _ q_994) (fun _ h9 => h9) rfl (by decide +kernel) rfl rfl (Nat.le_of_ble_eq_true rfl) (hT.up 0 (by decide) ⟨rfl, (fM_0_7 hT), (fM_0_9 hT), (fM_0_11 hT), (fM_0_13 hT), (fM_0_15 hT), (rg_w (rg_add (lo := 1) (hi := 250) hpf_264 (rg_c (v := 1) (lo := 1) (hi := 1) (by decide)) (by decide)) (by decide)), (fM_0_23 hT)⟩) (fr_fd hF (sM_0 hT) (by decide)) dX7_look_264 (fun C_25 H locs e_26 hT hF hP hD hS => ?_)
              have t_27 := hT
              have : (gi (C_25 0) 21).toInt = ((gi (K0 0) 21) + 1).toInt := congrArg Int32.toInt (show gi (C_25 0) 21 = ((gi (K0 0) 21) + 1) by rw [e_26]; rfl)
              have : ((gi (K0 0) 21) + 1).toInt = (gi (K0 0) 21).toInt + 1 := oh_incr (fM_0_21 t_1) (by decide)
              have : (gi (C_25 0) 7).toInt = (gi (C_22 0) 7).toInt := congrArg Int32.toInt (show gi (C_25 0) 7 = gi (C_22 0) 7 by rw [e_26]; rfl)
              have : (gi (C_25 0) 23).toInt = (gi (C_22 0) 23).toInt := congrArg Int32.toInt (show gi (C_25 0) 23 = gi (C_22 0) 23 by rw [e_26]; rfl)
              have : (gi (C_25 0) 13).toInt = (gi (C_22 0) 13).toInt := congrArg Int32.toInt (show gi (C_25 0) 13 = gi (C_22 0) 13 by rw [e_26]; rfl)
              have : 0 ≤ (gi (C_25 0) 21).toInt ∧ (gi (C_25 0) 21).toInt ≤ 250 := fM_0_21 t_27
              have : 0 ≤ (gi (C_25 0) 7).toInt ∧ (gi (C_25 0) 7).toInt ≤ 250 := fM_0_7 t_27
              have : 0 ≤ (gi (C_25 0) 23).toInt ∧ (gi (C_25 0) 23).toInt ≤ 250 := fM_0_23 t_27
              have : 0 ≤ (gi (C_25 0) 13).toInt ∧ (gi (C_25 0) 13).toInt ≤ 5 := fM_0_13 t_27
              have hS_28 : gi (K0 0) 21 = (upto pB (ga (C 7)) (gi (C 0) 7) (gi (C 0) 21)) := Eq.trans (upto_stop (p := pB) (fun h8 => absurd h8.1 (Int32.not_lt.mpr c_2))).symm hs_0
              have hl_30 : (upto pB (ga (C 7)) (gi (C 0) 7) (gi (C 0) 21)) < gi (C 0) 7 := by rw [← hS_28]; exact Int32.lt_iff_toInt_lt.mpr (by omega)
              have tk_29 := tk_wrg (S := (upto pB (ga (C 7)) (gi (C 0) 7) (gi (C 0) 21))) (upto_st (upto_stop (p := pL) (fun h8 => u_14 (by have h7 := h8.2; rw [← hS_28] at h7; exact h7)))) (upto_st (upto_stop (p := pD) (fun h8 => u_19 (by have h7 := h8.2; rw [← hS_28] at h7; exact h7)))) (Int32.not_le.mpr hl_30) (by rw [← hS_28]; exact c_21)
              rw [hQ]
              exact W.vret hx hb hr (fun t ht hW => ⟨⟨C_25, rfl, ⟨hT, hF, ⟨⟨(by omega), (by omega), (by omega)⟩, (pm_mk (Eq.trans (show gi (C_25 0) 7 = gi (C_22 0) 7 by rw [e_26]; rfl) (Eq.trans (show gi (C_22 0) 7 = gi (C_6 0) 7 by rw [e_23]; rfl) (Eq.trans (show gi (C_6 0) 7 = gi (C_3 0) 7 by rw [e_7]; rfl) (Eq.trans (show gi (C_3 0) 7 = gi (K0 0) 7 by rw [e_4]; rfl) (congrArg vi (hLF_0.2 7 (by decide))))))) (Eq.trans (Eq.trans (show gi (C_25 0) 22 = gi (C_22 0) 22 by rw [e_26]; rfl) (show gi (C_22 0) 22 = (4 : Int32) by rw [e_23]; rfl)) tk_29.1) (Eq.trans (Eq.trans (show gi (C_25 0) 23 = gi (C_22 0) 23 by rw [e_26]; rfl) (Eq.trans (show gi (C_22 0) 23 = gi (C_6 0) 23 by rw [e_23]; rfl) (Eq.trans (show gi (C_6 0) 23 = gi (C_3 0) 23 by rw [e_7]; rfl) (show gi (C_3 0) 23 = (gi (K0 0) 21) by rw [e_4]; rfl)))) hS_28) (Eq.trans (show gi (C_25 0) 21 = ((gi (K0 0) 21) + 1) by rw [e_26]; rfl) (Eq.trans (congrArg (fun z => z + 1) hS_28) tk_29.2))), (Eq.trans (Eq.trans (show gl (C_25 0) 24 = gl (C_22 0) 24 by rw [e_26]; rfl) (Eq.trans (show gl (C_22 0) 24 = gl (C_6 0) 24 by rw [e_23]; rfl) (show gl (C_6 0) 24 = (0 : Int64) by rw [e_7]; rfl))) (pif_neg (fun h8 => absurd (Eq.trans (Eq.trans (show gi (C_25 0) 22 = gi (C_22 0) 22 by rw [e_26]; rfl) (show gi (C_22 0) 22 = (4 : Int32) by rw [e_23]; rfl)).symm h8) (by decide))).symm)⟩⟩, ⟨by rw [ht]; exact hP, hD⟩⟩, hS.F ht⟩) hS.2.2 dX7_look_267
            · refine lv_iconst (v := 3) hx hb dX7_look_249 (by decide) ?_
              refine lv_goto (tgt := 254) hx hb dX7_look_250 (by decide) ?_
              refine th_put (Tp := TyM a E) (Rl := fr [] [21, 22, 23, 24] C) (ci := 7) (v := .int 3) (ty := .int) (CC := RX7) (T := TX7) (N := 29) hx hb htg ig_7 tyX7 tyX7_ok nmX7 hown hK hP hD hS 0 (Nat.lt_of_lt_of_le (by decide) hn) (sM_0 hT) rfl 22 (by decide) (htg _ q_995) (fun _ h9 => h9) rfl (by decide +kernel) rfl rfl (Nat.le_of_ble_eq_true rfl) (hT.up 0 (by decide) ⟨rfl, (fM_0_7 hT), (fM_0_9 hT), (fM_0_11 hT), (fM_0_13 hT), (fM_0_15 hT), (fM_0_21 hT), (fM_0_23 hT)⟩) (fr_fd hF (sM_0 hT) (by decide)) dX7_look_254 (fun C_31 H locs e_32 hT hF hP hD hS => ?_)
              have t_33 := hT
              refine lv_aload_n hx hb dX7_look_257 rfl (lv_at hl 0 rfl) ?_
              refine lv_dup hx hb dX7_look_258 rfl ?_
              refine va_get (D := D) (ci := 7) (v := .int (gi (K0 0) 21)) (C := RX7) (T := TX7) (N := 29) hx hb htg ig_7 hown hK hP 0 (oh_wg (Nat.lt_of_lt_of_le (by decide) hn) (sM_0 hT)) rfl 21 (by decide) (htg _ q_994) (fun _ h9 => h9) (oh_fv (c := C_31 0) (j := 21) rfl (Eq.trans (show gi (C_31 0) 21 = gi (C_6 0) 21 by rw [e_32]; rfl) (Eq.trans (show gi (C_6 0) 21 = gi (C_3 0) 21 by rw [e_7]; rfl) (show gi (C_3 0) 21 = gi (K0 0) 21 by rw [e_4]; rfl)))) dX7_look_259 ?_
              refine lv_iconst (v := 1) hx hb dX7_look_262 (by decide) ?_
              refine lv_iadd hx hb dX7_look_263 ?_
              have : (gi (C_31 0) 21).toInt = (gi (C_6 0) 21).toInt := congrArg Int32.toInt (show gi (C_31 0) 21 = gi (C_6 0) 21 by rw [e_32]; rfl)
              have : (gi (C_31 0) 7).toInt = (gi (C_6 0) 7).toInt := congrArg Int32.toInt (show gi (C_31 0) 7 = gi (C_6 0) 7 by rw [e_32]; rfl)
              have : (gi (C_31 0) 23).toInt = (gi (C_6 0) 23).toInt := congrArg Int32.toInt (show gi (C_31 0) 23 = gi (C_6 0) 23 by rw [e_32]; rfl)
              have : (gi (C_31 0) 13).toInt = (gi (C_6 0) 13).toInt := congrArg Int32.toInt (show gi (C_31 0) 13 = gi (C_6 0) 13 by rw [e_32]; rfl)
              have : 0 ≤ (gi (C_31 0) 21).toInt ∧ (gi (C_31 0) 21).toInt ≤ 250 := fM_0_21 t_33
              have : 0 ≤ (gi (C_31 0) 7).toInt ∧ (gi (C_31 0) 7).toInt ≤ 250 := fM_0_7 t_33
              have : 0 ≤ (gi (C_31 0) 23).toInt ∧ (gi (C_31 0) 23).toInt ≤ 250 := fM_0_23 t_33
              have : 0 ≤ (gi (C_31 0) 13).toInt ∧ (gi (C_31 0) 13).toInt ≤ 5 := fM_0_13 t_33
              have hpf_264 : rg (gi (K0 0) 21) 0 249 := ⟨by omega, by omega⟩
              refine th_put (Tp := TyM a E) (Rl := fr [] [21, 22, 23, 24] C) (ci := 7) (v := .int ((gi (K0 0) 21) + 1)) (ty := .int) (CC := RX7) (T := TX7) (N := 29) hx hb htg ig_7 tyX7 tyX7_ok nmX7 hown hK hP hD hS 0 (Nat.lt_of_lt_of_le (by decide) hn) (sM_0 hT) rfl 21 (by decide) (htg _ q_994) (fun _ h9 => h9) rfl (by decide +kernel) rfl rfl (Nat.le_of_ble_eq_true rfl) (hT.up 0 (by decide) ⟨rfl, (fM_0_7 hT), (fM_0_9 hT), (fM_0_11 hT), (fM_0_13 hT), (fM_0_15 hT), (rg_w (rg_add (lo := 1) (hi := 250) hpf_264 (rg_c (v := 1) (lo := 1) (hi := 1) (by decide)) (by decide)) (by decide)), (fM_0_23 hT)⟩) (fr_fd hF (sM_0 hT) (by decide)) dX7_look_264 (fun C_34 H locs e_35 hT hF hP hD hS => ?_)
              have t_36 := hT
              have : (gi (C_34 0) 21).toInt = ((gi (K0 0) 21) + 1).toInt := congrArg Int32.toInt (show gi (C_34 0) 21 = ((gi (K0 0) 21) + 1) by rw [e_35]; rfl)
              have : ((gi (K0 0) 21) + 1).toInt = (gi (K0 0) 21).toInt + 1 := oh_incr (fM_0_21 t_1) (by decide)
              have : (gi (C_34 0) 7).toInt = (gi (C_31 0) 7).toInt := congrArg Int32.toInt (show gi (C_34 0) 7 = gi (C_31 0) 7 by rw [e_35]; rfl)
              have : (gi (C_34 0) 23).toInt = (gi (C_31 0) 23).toInt := congrArg Int32.toInt (show gi (C_34 0) 23 = gi (C_31 0) 23 by rw [e_35]; rfl)
              have : (gi (C_34 0) 13).toInt = (gi (C_31 0) 13).toInt := congrArg Int32.toInt (show gi (C_34 0) 13 = gi (C_31 0) 13 by rw [e_35]; rfl)
              have : 0 ≤ (gi (C_34 0) 21).toInt ∧ (gi (C_34 0) 21).toInt ≤ 250 := fM_0_21 t_36
              have : 0 ≤ (gi (C_34 0) 7).toInt ∧ (gi (C_34 0) 7).toInt ≤ 250 := fM_0_7 t_36
              have : 0 ≤ (gi (C_34 0) 23).toInt ∧ (gi (C_34 0) 23).toInt ≤ 250 := fM_0_23 t_36
              have : 0 ≤ (gi (C_34 0) 13).toInt ∧ (gi (C_34 0) 13).toInt ≤ 5 := fM_0_13 t_36
              have hS_37 : gi (K0 0) 21 = (upto pB (ga (C 7)) (gi (C 0) 7) (gi (C 0) 21)) := Eq.trans (upto_stop (p := pB) (fun h8 => absurd h8.1 (Int32.not_lt.mpr c_2))).symm hs_0
              have hl_39 : (upto pB (ga (C 7)) (gi (C 0) 7) (gi (C 0) 21)) < gi (C 0) 7 := by rw [← hS_37]; exact Int32.lt_iff_toInt_lt.mpr (by omega)
              have tk_38 := tk_sgn (S := (upto pB (ga (C 7)) (gi (C 0) 7) (gi (C 0) 21))) (upto_st (upto_stop (p := pL) (fun h8 => u_14 (by have h7 := h8.2; rw [← hS_37] at h7; exact h7)))) (upto_st (upto_stop (p := pD) (fun h8 => u_19 (by have h7 := h8.2; rw [← hS_37] at h7; exact h7)))) (Int32.not_le.mpr hl_39) (by rw [← hS_37]; exact c_21)
              rw [hQ]
              exact W.vret hx hb hr (fun t ht hW => ⟨⟨C_34, rfl, ⟨hT, hF, ⟨⟨(by omega), (by omega), (by omega)⟩, (pm_mk (Eq.trans (show gi (C_34 0) 7 = gi (C_31 0) 7 by rw [e_35]; rfl) (Eq.trans (show gi (C_31 0) 7 = gi (C_6 0) 7 by rw [e_32]; rfl) (Eq.trans (show gi (C_6 0) 7 = gi (C_3 0) 7 by rw [e_7]; rfl) (Eq.trans (show gi (C_3 0) 7 = gi (K0 0) 7 by rw [e_4]; rfl) (congrArg vi (hLF_0.2 7 (by decide))))))) (Eq.trans (Eq.trans (show gi (C_34 0) 22 = gi (C_31 0) 22 by rw [e_35]; rfl) (show gi (C_31 0) 22 = (3 : Int32) by rw [e_32]; rfl)) tk_38.1) (Eq.trans (Eq.trans (show gi (C_34 0) 23 = gi (C_31 0) 23 by rw [e_35]; rfl) (Eq.trans (show gi (C_31 0) 23 = gi (C_6 0) 23 by rw [e_32]; rfl) (Eq.trans (show gi (C_6 0) 23 = gi (C_3 0) 23 by rw [e_7]; rfl) (show gi (C_3 0) 23 = (gi (K0 0) 21) by rw [e_4]; rfl)))) hS_37) (Eq.trans (show gi (C_34 0) 21 = ((gi (K0 0) 21) + 1) by rw [e_35]; rfl) (Eq.trans (congrArg (fun z => z + 1) hS_37) tk_38.2))), (Eq.trans (Eq.trans (show gl (C_34 0) 24 = gl (C_31 0) 24 by rw [e_35]; rfl) (Eq.trans (show gl (C_31 0) 24 = gl (C_6 0) 24 by rw [e_32]; rfl) (show gl (C_6 0) 24 = (0 : Int64) by rw [e_7]; rfl))) (pif_neg (fun h8 => absurd (Eq.trans (Eq.trans (show gi (C_34 0) 22 = gi (C_31 0) 22 by rw [e_35]; rfl) (show gi (C_31 0) 22 = (3 : Int32) by rw [e_32]; rfl)).symm h8) (by decide))).symm)⟩⟩, ⟨by rw [ht]; exact hP, hD⟩⟩, hS.F ht⟩) hS.2.2 dX7_look_267
          · have u_40 := hq_17.2.1 c_18
            refine lv_aload_n hx hb dX7_look_144 rfl (lv_at hl 0 rfl) ?_
            refine lv_iconst (v := 2) hx hb dX7_look_145 (by decide) ?_
            refine th_put (Tp := TyM a E) (Rl := fr [] [21, 22, 23, 24] C) (ci := 7) (v := .int 2) (ty := .int) (CC := RX7) (T := TX7) (N := 29) hx hb htg ig_7 tyX7 tyX7_ok nmX7 hown hK hP hD hS 0 (Nat.lt_of_lt_of_le (by decide) hn) (sM_0 hT) rfl 22 (by decide) (htg _ q_995) (fun _ h9 => h9) rfl (by decide +kernel) rfl rfl (Nat.le_of_ble_eq_true rfl) (hT.up 0 (by decide) ⟨rfl, (fM_0_7 hT), (fM_0_9 hT), (fM_0_11 hT), (fM_0_13 hT), (fM_0_15 hT), (fM_0_21 hT), (fM_0_23 hT)⟩) (fr_fd hF (sM_0 hT) (by decide)) dX7_look_146 (fun C_41 H locs e_42 hT hF hP hD hS => ?_)
            have t_43 := hT
            have L_149 : ∀ (d : Nat) (K149 : Nat → va_E) (H : Heap) (locs : List Loc) (ls : Array Slot), (250 - (gi (K149 0) 21).toInt).toNat = d → ((gi (C 0) 21).toInt ≤ (gi (K149 0) 23).toInt ∧ (gi (K149 0) 23).toInt ≤ (gi (K149 0) 21).toInt ∧ (gi (K149 0) 21).toInt ≤ (gi (K149 0) 7).toInt) → ((upto pD (ga (C 7)) (gi (C 0) 7) (gi (K149 0) 21)) = (upto pD (ga (C 7)) (gi (C 0) 7) (upto pB (ga (C 7)) (gi (C 0) 7) (gi (C 0) 21))) ∧ gl (K149 0) 24 = figV (ga (C 7)) ((upto pB (ga (C 7)) (gi (C 0) 7) (gi (C 0) 21))).toNatClampNeg ((gi (K149 0) 21).toInt - ((upto pB (ga (C 7)) (gi (C 0) 7) (gi (C 0) 21))).toInt).toNat ∧ ∀ j, ((upto pB (ga (C 7)) (gi (C 0) 7) (gi (C 0) 21))).toNatClampNeg ≤ j → j < (gi (K149 0) 21).toNatClampNeg → pD ((ga (C 7)) j)) → TyM a E K149 → fr [] [21, 22, 23, 24] C K149 → fr [] [21, 24] C_41 K149 → va_P D vwCl (oh_W n a K149) H → va_D A (oh_W n a K149) → va_S A s.heap H locs → lv_has ls 1 [(0, .ref (a 0))] → W p l e ({ frames := 1, cells := 0, slots := 0, locals := 20 }) s m (([.ref (a 0)] : List Value).toArray) below meth c H locs 0 0 Q (F0 m 149 ls []) := by
              intro d
              induction d using Nat.strongRecOn with
              | ind d ih_149 =>
              intro K149  H locs ls hd_149 hv_149 hs_149 hT hF hLF_149 hP hD hS hl
              have t_44 := hT
              refine lv_aload_n hx hb dX7_look_149 rfl (lv_at hl 0 rfl) ?_
              refine va_get (D := D) (ci := 7) (v := .int (gi (K149 0) 21)) (C := RX7) (T := TX7) (N := 29) hx hb htg ig_7 hown hK hP 0 (oh_wg (Nat.lt_of_lt_of_le (by decide) hn) (sM_0 hT)) rfl 21 (by decide) (htg _ q_994) (fun _ h9 => h9) rfl dX7_look_150 ?_
              refine lv_aload_n hx hb dX7_look_153 rfl (lv_at hl 0 rfl) ?_
              refine va_get (D := D) (ci := 7) (v := .int (gi (C 0) 7)) (C := RX7) (T := TX7) (N := 29) hx hb htg ig_7 hown hK hP 0 (oh_wg (Nat.lt_of_lt_of_le (by decide) hn) (sM_0 hT)) rfl 7 (by decide) (htg _ q_980) (fun _ h9 => h9) (oh_fv (c := K149 0) (j := 7) rfl (Eq.trans (congrArg vi (hLF_149.2 7 (by decide))) (Eq.trans (show gi (C_41 0) 7 = gi (C_6 0) 7 by rw [e_42]; rfl) (Eq.trans (show gi (C_6 0) 7 = gi (C_3 0) 7 by rw [e_7]; rfl) (Eq.trans (show gi (C_3 0) 7 = gi (K0 0) 7 by rw [e_4]; rfl) (congrArg vi (hLF_0.2 7 (by decide)))))))) dX7_look_154 ?_
              refine lv_icmp_ge (tgt := 267) hx hb dX7_look_157 (by decide) (fun (c_45 : (gi (C 0) 7) ≤ (gi (K149 0) 21)) => ?_) (fun (c_45 : ¬ ((gi (C 0) 7) ≤ (gi (K149 0) 21))) => ?_)
              · have : (gi (C_41 0) 21).toInt = (gi (C_6 0) 21).toInt := congrArg Int32.toInt (show gi (C_41 0) 21 = gi (C_6 0) 21 by rw [e_42]; rfl)
                have : (gi (C_41 0) 7).toInt = (gi (C_6 0) 7).toInt := congrArg Int32.toInt (show gi (C_41 0) 7 = gi (C_6 0) 7 by rw [e_42]; rfl)
                have : (gi (C_41 0) 23).toInt = (gi (C_6 0) 23).toInt := congrArg Int32.toInt (show gi (C_41 0) 23 = gi (C_6 0) 23 by rw [e_42]; rfl)
                have : (gi (C_41 0) 13).toInt = (gi (C_6 0) 13).toInt := congrArg Int32.toInt (show gi (C_41 0) 13 = gi (C_6 0) 13 by rw [e_42]; rfl)
                have : (gi (K149 0) 7).toInt = (gi (C_41 0) 7).toInt := congrArg (fun z => (vi z).toInt) (hLF_149.2 7 (by decide))
                have : (gi (K149 0) 23).toInt = (gi (C_41 0) 23).toInt := congrArg (fun z => (vi z).toInt) (hLF_149.2 23 (by decide))
                have : (gi (K149 0) 13).toInt = (gi (C_41 0) 13).toInt := congrArg (fun z => (vi z).toInt) (hLF_149.2 13 (by decide))
                have : 0 ≤ (gi (C_41 0) 21).toInt ∧ (gi (C_41 0) 21).toInt ≤ 250 := fM_0_21 t_43
                have : 0 ≤ (gi (C_41 0) 7).toInt ∧ (gi (C_41 0) 7).toInt ≤ 250 := fM_0_7 t_43
                have : 0 ≤ (gi (C_41 0) 23).toInt ∧ (gi (C_41 0) 23).toInt ≤ 250 := fM_0_23 t_43
                have : 0 ≤ (gi (C_41 0) 13).toInt ∧ (gi (C_41 0) 13).toInt ≤ 5 := fM_0_13 t_43
                have : 0 ≤ (gi (K149 0) 21).toInt ∧ (gi (K149 0) 21).toInt ≤ 250 := fM_0_21 t_44
                have : 0 ≤ (gi (K149 0) 7).toInt ∧ (gi (K149 0) 7).toInt ≤ 250 := fM_0_7 t_44
                have : 0 ≤ (gi (K149 0) 23).toInt ∧ (gi (K149 0) 23).toInt ≤ 250 := fM_0_23 t_44
                have : 0 ≤ (gi (K149 0) 13).toInt ∧ (gi (K149 0) 13).toInt ≤ 5 := fM_0_13 t_44
                have : (gi (C 0) 7).toInt ≤ (gi (K149 0) 21).toInt := Int32.le_iff_toInt_le.mp c_45
                have hS_46 : gi (K0 0) 21 = (upto pB (ga (C 7)) (gi (C 0) 7) (gi (C 0) 21)) := Eq.trans (upto_stop (p := pB) (fun h8 => absurd h8.1 (Int32.not_lt.mpr c_2))).symm hs_0
                have hl_48 : (upto pB (ga (C 7)) (gi (C 0) 7) (gi (C 0) 21)) < gi (C 0) 7 := by rw [← hS_46]; exact Int32.lt_iff_toInt_lt.mpr (by omega)
                have hE_49 : gi (K149 0) 21 = (upto pD (ga (C 7)) (gi (C 0) 7) (upto pB (ga (C 7)) (gi (C 0) 7) (gi (C 0) 21))) := (Eq.trans (upto_stop (p := pD) (fun h8 => absurd h8.1 (Int32.not_lt.mpr c_45))).symm hs_149.1)
                have tk_47 := tk_num (S := (upto pB (ga (C 7)) (gi (C 0) 7) (gi (C 0) 21))) (upto_st (upto_stop (p := pL) (fun h8 => u_14 (by have h7 := h8.2; rw [← hS_46] at h7; exact h7)))) hE_49 (by rw [hE_49]; exact upto_gt (fM_0_7 hT0) (by rw [← hS_46]; exact (rg_w (lo := 0) (hi := 250) (fM_0_21 t_1) (by decide))) hl_48 (by rw [← hS_46]; exact u_40))
                have h_50 : gi (K149 0) 23 = (upto pB (ga (C 7)) (gi (C 0) 7) (gi (C 0) 21)) := Eq.trans (Eq.trans (congrArg vi (hLF_149.2 23 (by decide))) (Eq.trans (show gi (C_41 0) 23 = gi (C_6 0) 23 by rw [e_42]; rfl) (Eq.trans (show gi (C_6 0) 23 = gi (C_3 0) 23 by rw [e_7]; rfl) (show gi (C_3 0) 23 = (gi (K0 0) 21) by rw [e_4]; rfl)))) hS_46
                rw [hQ]
                exact W.vret hx hb hr (fun t ht hW => ⟨⟨K149, rfl, ⟨hT, hF, ⟨⟨(by omega), (by omega), (by omega)⟩, (pm_mk (Eq.trans (congrArg vi (hLF_149.2 7 (by decide))) (Eq.trans (show gi (C_41 0) 7 = gi (C_6 0) 7 by rw [e_42]; rfl) (Eq.trans (show gi (C_6 0) 7 = gi (C_3 0) 7 by rw [e_7]; rfl) (Eq.trans (show gi (C_3 0) 7 = gi (K0 0) 7 by rw [e_4]; rfl) (congrArg vi (hLF_0.2 7 (by decide))))))) (Eq.trans (Eq.trans (congrArg vi (hLF_149.2 22 (by decide))) (show gi (C_41 0) 22 = (2 : Int32) by rw [e_42]; rfl)) tk_47.1) (Eq.trans (Eq.trans (congrArg vi (hLF_149.2 23 (by decide))) (Eq.trans (show gi (C_41 0) 23 = gi (C_6 0) 23 by rw [e_42]; rfl) (Eq.trans (show gi (C_6 0) 23 = gi (C_3 0) 23 by rw [e_7]; rfl) (show gi (C_3 0) 23 = (gi (K0 0) 21) by rw [e_4]; rfl)))) hS_46) (Eq.trans rfl tk_47.2)), (Eq.trans rfl (Eq.trans hs_149.2.1 (Eq.trans (by rw [← h_50, ← (rfl : gi (K149 0) 21 = gi (K149 0) 21)]; rfl) (pif_pos (Eq.trans (congrArg vi (hLF_149.2 22 (by decide))) (show gi (C_41 0) 22 = (2 : Int32) by rw [e_42]; rfl))).symm)))⟩⟩, ⟨by rw [ht]; exact hP, hD⟩⟩, hS.F ht⟩) hS.2.2 dX7_look_267
              · refine lv_aload_n hx hb dX7_look_160 rfl (lv_at hl 0 rfl) ?_
                refine va_get (D := D) (ci := 7) (v := .ref (a 7)) (C := RX7) (T := TX7) (N := 29) hx hb htg ig_7 hown hK hP 0 (oh_wg (Nat.lt_of_lt_of_le (by decide) hn) (sM_0 hT)) rfl 6 (by decide) (htg _ q_979) (fun _ h9 => h9) rfl dX7_look_161 ?_
                refine lv_aload_n hx hb dX7_look_164 rfl (lv_at hl 0 rfl) ?_
                refine va_get (D := D) (ci := 7) (v := .int (gi (K149 0) 21)) (C := RX7) (T := TX7) (N := 29) hx hb htg ig_7 hown hK hP 0 (oh_wg (Nat.lt_of_lt_of_le (by decide) hn) (sM_0 hT)) rfl 21 (by decide) (htg _ q_994) (fun _ h9 => h9) rfl dX7_look_165 ?_
                have : (gi (C_41 0) 21).toInt = (gi (C_6 0) 21).toInt := congrArg Int32.toInt (show gi (C_41 0) 21 = gi (C_6 0) 21 by rw [e_42]; rfl)
                have : (gi (C_41 0) 7).toInt = (gi (C_6 0) 7).toInt := congrArg Int32.toInt (show gi (C_41 0) 7 = gi (C_6 0) 7 by rw [e_42]; rfl)
                have : (gi (C_41 0) 23).toInt = (gi (C_6 0) 23).toInt := congrArg Int32.toInt (show gi (C_41 0) 23 = gi (C_6 0) 23 by rw [e_42]; rfl)
                have : (gi (C_41 0) 13).toInt = (gi (C_6 0) 13).toInt := congrArg Int32.toInt (show gi (C_41 0) 13 = gi (C_6 0) 13 by rw [e_42]; rfl)
                have : (gi (K149 0) 7).toInt = (gi (C_41 0) 7).toInt := congrArg (fun z => (vi z).toInt) (hLF_149.2 7 (by decide))
                have : (gi (K149 0) 23).toInt = (gi (C_41 0) 23).toInt := congrArg (fun z => (vi z).toInt) (hLF_149.2 23 (by decide))
                have : (gi (K149 0) 13).toInt = (gi (C_41 0) 13).toInt := congrArg (fun z => (vi z).toInt) (hLF_149.2 13 (by decide))
                have : 0 ≤ (gi (C_41 0) 21).toInt ∧ (gi (C_41 0) 21).toInt ≤ 250 := fM_0_21 t_43
                have : 0 ≤ (gi (C_41 0) 7).toInt ∧ (gi (C_41 0) 7).toInt ≤ 250 := fM_0_7 t_43
                have : 0 ≤ (gi (C_41 0) 23).toInt ∧ (gi (C_41 0) 23).toInt ≤ 250 := fM_0_23 t_43
                have : 0 ≤ (gi (C_41 0) 13).toInt ∧ (gi (C_41 0) 13).toInt ≤ 5 := fM_0_13 t_43
                have : 0 ≤ (gi (K149 0) 21).toInt ∧ (gi (K149 0) 21).toInt ≤ 250 := fM_0_21 t_44
                have : 0 ≤ (gi (K149 0) 7).toInt ∧ (gi (K149 0) 7).toInt ≤ 250 := fM_0_7 t_44
                have : 0 ≤ (gi (K149 0) 23).toInt ∧ (gi (K149 0) 23).toInt ≤ 250 := fM_0_23 t_44
                have : 0 ≤ (gi (K149 0) 13).toInt ∧ (gi (K149 0) 13).toInt ≤ 5 := fM_0_13 t_44
                have : (gi (K149 0) 21).toInt < (gi (C 0) 7).toInt := Int32.lt_iff_toInt_lt.mp (Int32.not_le.mp c_45)
                have n_51 : vp_in (gi (K149 0) 21) 250 := (vp_in_iff.mpr ⟨by omega, by omega⟩)
                refine th_iald hx hb hK hP 7 (Nat.lt_of_lt_of_le (by decide) hn) (Eq.trans (Eq.trans (hLF_149.1 7 rfl (by decide)) (Eq.trans (th_un e_42 (by decide)) (Eq.trans (th_un e_7 (by decide)) (Eq.trans (th_un e_4 (by decide)) (hLF_0.1 7 rfl (by decide)))))) (sM_7 hT0)) n_51 dX7_look_168 ?_
                refine tq_S (As := [.int (ga (C 7) (gi (K149 0) 21).toNatClampNeg)]) (rest := []) (ws := []) ⟨hx, hb, hml, hown, htg⟩ (e_X7_isDigit l D E G (ga (C 7) (gi (K149 0) 21).toNatClampNeg)) (va_cwS 1 htg (oh_gS q_1204 q_1205 q_73 q_1206) rfl rfl rfl pdX7_isDigit ⟨Nat.le_of_ble_eq_true rfl, Nat.le_of_ble_eq_true rfl⟩) hK va_nil hG hS rfl hl.1 rfl (Nat.le_of_ble_eq_true rfl) dX7_look_169 ⟨Nat.le_of_ble_eq_true rfl, Nat.le_of_ble_eq_true rfl⟩ (fun r_52 hq_53 => ?_)
                refine lv_if_eq (tgt := 267) hx hb dX7_look_172 (by decide) (fun (c_54 : r_52 = 0) => ?_) (fun (c_54 : ¬ (r_52 = 0)) => ?_)
                · have u_55 := hq_53.2.2 c_54
                  have hS_56 : gi (K0 0) 21 = (upto pB (ga (C 7)) (gi (C 0) 7) (gi (C 0) 21)) := Eq.trans (upto_stop (p := pB) (fun h8 => absurd h8.1 (Int32.not_lt.mpr c_2))).symm hs_0
                  have hl_58 : (upto pB (ga (C 7)) (gi (C 0) 7) (gi (C 0) 21)) < gi (C 0) 7 := by rw [← hS_56]; exact Int32.lt_iff_toInt_lt.mpr (by omega)
                  have hE_59 : gi (K149 0) 21 = (upto pD (ga (C 7)) (gi (C 0) 7) (upto pB (ga (C 7)) (gi (C 0) 7) (gi (C 0) 21))) := (Eq.trans (upto_stop (p := pD) (fun h8 => u_55 h8.2)).symm hs_149.1)
                  have tk_57 := tk_num (S := (upto pB (ga (C 7)) (gi (C 0) 7) (gi (C 0) 21))) (upto_st (upto_stop (p := pL) (fun h8 => u_14 (by have h7 := h8.2; rw [← hS_56] at h7; exact h7)))) hE_59 (by rw [hE_59]; exact upto_gt (fM_0_7 hT0) (by rw [← hS_56]; exact (rg_w (lo := 0) (hi := 250) (rn_lel c_2 (rn_ltl (l' := 1) (Int32.not_le.mp c_45) (fM_0_21 t_44) (fM_0_7 hT0) (by decide)) (fM_0_21 t_1)) (by decide))) hl_58 (by rw [← hS_56]; exact u_40))
                  have h_60 : gi (K149 0) 23 = (upto pB (ga (C 7)) (gi (C 0) 7) (gi (C 0) 21)) := Eq.trans (Eq.trans (congrArg vi (hLF_149.2 23 (by decide))) (Eq.trans (show gi (C_41 0) 23 = gi (C_6 0) 23 by rw [e_42]; rfl) (Eq.trans (show gi (C_6 0) 23 = gi (C_3 0) 23 by rw [e_7]; rfl) (show gi (C_3 0) 23 = (gi (K0 0) 21) by rw [e_4]; rfl)))) hS_56
                  rw [hQ]
                  exact W.vret hx hb hr (fun t ht hW => ⟨⟨K149, rfl, ⟨hT, hF, ⟨⟨(by omega), (by omega), (by omega)⟩, (pm_mk (Eq.trans (congrArg vi (hLF_149.2 7 (by decide))) (Eq.trans (show gi (C_41 0) 7 = gi (C_6 0) 7 by rw [e_42]; rfl) (Eq.trans (show gi (C_6 0) 7 = gi (C_3 0) 7 by rw [e_7]; rfl) (Eq.trans (show gi (C_3 0) 7 = gi (K0 0) 7 by rw [e_4]; rfl) (congrArg vi (hLF_0.2 7 (by decide))))))) (Eq.trans (Eq.trans (congrArg vi (hLF_149.2 22 (by decide))) (show gi (C_41 0) 22 = (2 : Int32) by rw [e_42]; rfl)) tk_57.1) (Eq.trans (Eq.trans (congrArg vi (hLF_149.2 23 (by decide))) (Eq.trans (show gi (C_41 0) 23 = gi (C_6 0) 23 by rw [e_42]; rfl) (Eq.trans (show gi (C_6 0) 23 = gi (C_3 0) 23 by rw [e_7]; rfl) (show gi (C_3 0) 23 = (gi (K0 0) 21) by rw [e_4]; rfl)))) hS_56) (Eq.trans rfl tk_57.2)), (Eq.trans rfl (Eq.trans hs_149.2.1 (Eq.trans (by rw [← h_60, ← (rfl : gi (K149 0) 21 = gi (K149 0) 21)]; rfl) (pif_pos (Eq.trans (congrArg vi (hLF_149.2 22 (by decide))) (show gi (C_41 0) 22 = (2 : Int32) by rw [e_42]; rfl))).symm)))⟩⟩, ⟨by rw [ht]; exact hP, hD⟩⟩, hS.F ht⟩) hS.2.2 dX7_look_267
                · have u_61 := hq_53.2.1 c_54
                  refine lv_aload_n hx hb dX7_look_175 rfl (lv_at hl 0 rfl) ?_
                  refine lv_aload_n hx hb dX7_look_176 rfl (lv_at hl 0 rfl) ?_
                  refine va_get (D := D) (ci := 7) (v := .int (gi (K149 0) 21)) (C := RX7) (T := TX7) (N := 29) hx hb htg ig_7 hown hK hP 0 (oh_wg (Nat.lt_of_lt_of_le (by decide) hn) (sM_0 hT)) rfl 21 (by decide) (htg _ q_994) (fun _ h9 => h9) rfl dX7_look_177 ?_
                  refine lv_aload_n hx hb dX7_look_180 rfl (lv_at hl 0 rfl) ?_
                  refine va_get (D := D) (ci := 7) (v := .int (gi (K0 0) 21)) (C := RX7) (T := TX7) (N := 29) hx hb htg ig_7 hown hK hP 0 (oh_wg (Nat.lt_of_lt_of_le (by decide) hn) (sM_0 hT)) rfl 23 (by decide) (htg _ q_996) (fun _ h9 => h9) (oh_fv (c := K149 0) (j := 23) rfl (Eq.trans (congrArg vi (hLF_149.2 23 (by decide))) (Eq.trans (show gi (C_41 0) 23 = gi (C_6 0) 23 by rw [e_42]; rfl) (Eq.trans (show gi (C_6 0) 23 = gi (C_3 0) 23 by rw [e_7]; rfl) (show gi (C_3 0) 23 = (gi (K0 0) 21) by rw [e_4]; rfl))))) dX7_look_181 ?_
                  refine lv_isub hx hb dX7_look_184 ?_
                  refine lv_iconst (v := 3) hx hb dX7_look_185 (by decide) ?_
                  refine lv_icmp_ge (tgt := 215) hx hb dX7_look_186 (by decide) (fun (c_62 : (3 : Int32) ≤ ((gi (K149 0) 21) - (gi (K0 0) 21))) => ?_) (fun (c_62 : ¬ ((3 : Int32) ≤ ((gi (K149 0) 21) - (gi (K0 0) 21)))) => ?_)
                  · refine lv_ldc2 (v := 100000) hx hb hown (htg _ q_1209) dX7_look_215 ?_
                    refine th_put (Tp := TyM a E) (Rl := fr [] [21, 22, 23, 24] C) (ci := 7) (v := .long 100000) (ty := .long) (CC := RX7) (T := TX7) (N := 29) hx hb htg ig_7 tyX7 tyX7_ok nmX7 hown hK hP hD hS 0 (Nat.lt_of_lt_of_le (by decide) hn) (sM_0 hT) rfl 24 (by decide) (htg _ q_997) (fun _ h9 => h9) rfl (by decide +kernel) rfl rfl (Nat.le_of_ble_eq_true rfl) (hT.up 0 (by decide) ⟨rfl, (fM_0_7 hT), (fM_0_9 hT), (fM_0_11 hT), (fM_0_13 hT), (fM_0_15 hT), (fM_0_21 hT), (fM_0_23 hT)⟩) (fr_fd hF (sM_0 hT) (by decide)) dX7_look_218 (fun C_63 H locs e_64 hT hF hP hD hS => ?_)
                    have t_65 := hT
                    refine lv_aload_n hx hb dX7_look_221 rfl (lv_at hl 0 rfl) ?_
                    refine lv_dup hx hb dX7_look_222 rfl ?_
                    refine va_get (D := D) (ci := 7) (v := .int (gi (K149 0) 21)) (C := RX7) (T := TX7) (N := 29) hx hb htg ig_7 hown hK hP 0 (oh_wg (Nat.lt_of_lt_of_le (by decide) hn) (sM_0 hT)) rfl 21 (by decide) (htg _ q_994) (fun _ h9 => h9) (oh_fv (c := C_63 0) (j := 21) rfl (show gi (C_63 0) 21 = gi (K149 0) 21 by rw [e_64]; rfl)) dX7_look_223 ?_
                    refine lv_iconst (v := 1) hx hb dX7_look_226 (by decide) ?_
                    refine lv_iadd hx hb dX7_look_227 ?_
                    have : (gi (C_63 0) 21).toInt = (gi (K149 0) 21).toInt := congrArg Int32.toInt (show gi (C_63 0) 21 = gi (K149 0) 21 by rw [e_64]; rfl)
                    have : (gi (C_63 0) 7).toInt = (gi (K149 0) 7).toInt := congrArg Int32.toInt (show gi (C_63 0) 7 = gi (K149 0) 7 by rw [e_64]; rfl)
                    have : (gi (C_63 0) 23).toInt = (gi (K149 0) 23).toInt := congrArg Int32.toInt (show gi (C_63 0) 23 = gi (K149 0) 23 by rw [e_64]; rfl)
                    have : (gi (C_63 0) 13).toInt = (gi (K149 0) 13).toInt := congrArg Int32.toInt (show gi (C_63 0) 13 = gi (K149 0) 13 by rw [e_64]; rfl)
                    have : 0 ≤ (gi (C_63 0) 21).toInt ∧ (gi (C_63 0) 21).toInt ≤ 250 := fM_0_21 t_65
                    have : 0 ≤ (gi (C_63 0) 7).toInt ∧ (gi (C_63 0) 7).toInt ≤ 250 := fM_0_7 t_65
                    have : 0 ≤ (gi (C_63 0) 23).toInt ∧ (gi (C_63 0) 23).toInt ≤ 250 := fM_0_23 t_65
                    have : 0 ≤ (gi (C_63 0) 13).toInt ∧ (gi (C_63 0) 13).toInt ≤ 5 := fM_0_13 t_65
                    have hpf_228 : rg (gi (K149 0) 21) 0 249 := ⟨by omega, by omega⟩
                    refine th_put (Tp := TyM a E) (Rl := fr [] [21, 22, 23, 24] C) (ci := 7) (v := .int ((gi (K149 0) 21) + 1)) (ty := .int) (CC := RX7) (T := TX7) (N := 29) hx hb htg ig_7 tyX7 tyX7_ok nmX7 hown hK hP hD hS 0 (Nat.lt_of_lt_of_le (by decide) hn) (sM_0 hT) rfl 21 (by decide) (htg _ q_994) (fun _ h9 => h9) rfl (by decide +kernel) rfl rfl (Nat.le_of_ble_eq_true rfl) (hT.up 0 (by decide) ⟨rfl, (fM_0_7 hT), (fM_0_9 hT), (fM_0_11 hT), (fM_0_13 hT), (fM_0_15 hT), (rg_w (rg_add (lo := 1) (hi := 250) hpf_228 (rg_c (v := 1) (lo := 1) (hi := 1) (by decide)) (by decide)) (by decide)), (fM_0_23 hT)⟩) (fr_fd hF (sM_0 hT) (by decide)) dX7_look_228 (fun C_66 H locs e_67 hT hF hP hD hS => ?_)
                    have t_68 := hT
                    refine lv_goto (tgt := 149) hx hb dX7_look_231 (by decide) ?_
                    have : (gi (C_66 0) 21).toInt = ((gi (K149 0) 21) + 1).toInt := congrArg Int32.toInt (show gi (C_66 0) 21 = ((gi (K149 0) 21) + 1) by rw [e_67]; rfl)
                    have : ((gi (K149 0) 21) + 1).toInt = (gi (K149 0) 21).toInt + 1 := oh_incr (rn_ltu (u' := 249) (Int32.not_le.mp c_45) (fM_0_21 t_44) (fM_0_7 hT0) (by decide)) (by decide)
                    have : (gi (C_66 0) 7).toInt = (gi (C_63 0) 7).toInt := congrArg Int32.toInt (show gi (C_66 0) 7 = gi (C_63 0) 7 by rw [e_67]; rfl)
                    have : (gi (C_66 0) 23).toInt = (gi (C_63 0) 23).toInt := congrArg Int32.toInt (show gi (C_66 0) 23 = gi (C_63 0) 23 by rw [e_67]; rfl)
                    have : (gi (C_66 0) 13).toInt = (gi (C_63 0) 13).toInt := congrArg Int32.toInt (show gi (C_66 0) 13 = gi (C_63 0) 13 by rw [e_67]; rfl)
                    have : 0 ≤ (gi (C_66 0) 21).toInt ∧ (gi (C_66 0) 21).toInt ≤ 250 := fM_0_21 t_68
                    have : 0 ≤ (gi (C_66 0) 7).toInt ∧ (gi (C_66 0) 7).toInt ≤ 250 := fM_0_7 t_68
                    have : 0 ≤ (gi (C_66 0) 23).toInt ∧ (gi (C_66 0) 23).toInt ≤ 250 := fM_0_23 t_68
                    have : 0 ≤ (gi (C_66 0) 13).toInt ∧ (gi (C_66 0) 13).toInt ≤ 5 := fM_0_13 t_68
                    have hS_69 : gi (K0 0) 21 = (upto pB (ga (C 7)) (gi (C 0) 7) (gi (C 0) 21)) := Eq.trans (upto_stop (p := pB) (fun h8 => absurd h8.1 (Int32.not_lt.mpr c_2))).symm hs_0
                    have hSr_70 : rg (upto pB (ga (C 7)) (gi (C 0) 7) (gi (C 0) 21)) 0 250 := by rw [← hS_69]; exact (rg_w (lo := 0) (hi := 250) (rn_lel c_2 (rn_ltl (l' := 1) (Int32.not_le.mp c_45) (fM_0_21 t_44) (fM_0_7 hT0) (by decide)) (fM_0_21 t_1)) (by decide))
                    exact ih_149 _ (hd_149 ▸ (by rw [(show gi (C_66 0) 21 = ((gi (K149 0) 21) + 1) by rw [e_67]; rfl)]; exact mu_up 250 (rn_ltu (u' := 249) (Int32.not_le.mp c_45) (fM_0_21 t_44) (fM_0_7 hT0) (by decide)) (by decide))) C_66  _ _ ls rfl (by omega) ⟨Eq.trans (congrArg (upto pD (ga (C 7)) (gi (C 0) 7)) (show gi (C_66 0) 21 = ((gi (K149 0) 21) + 1) by rw [e_67]; rfl)) (Eq.trans (upto_step (p := pD) (rn_ltu (u' := 249) (Int32.not_le.mp c_45) (fM_0_21 t_44) (fM_0_7 hT0) (by decide)) (Int32.not_le.mp c_45) u_61).symm hs_149.1), Eq.trans (Eq.trans (show gl (C_66 0) 24 = gl (C_63 0) 24 by rw [e_67]; rfl) (show gl (C_63 0) 24 = (100000 : Int64) by rw [e_64]; rfl)) (by rw [(show gi (C_66 0) 21 = ((gi (K149 0) 21) + 1) by rw [e_67]; rfl)]; exact (fg_step2 hSr_70 (rn_ltu (u' := 249) (Int32.not_le.mp c_45) (fM_0_21 t_44) (fM_0_7 hT0) (by decide)) (by rw [← hS_69]; exact Int32.not_lt.mpr c_62))), by rw [(show gi (C_66 0) 21 = ((gi (K149 0) 21) + 1) by rw [e_67]; rfl)]; exact fg_dig (rn_ltu (u' := 249) (Int32.not_le.mp c_45) (fM_0_21 t_44) (fM_0_7 hT0) (by decide)) hs_149.2.2 u_61⟩ hT hF (fr_fde (fr_fde hLF_149 e_64 (sM_0 t_44) (by decide)) e_67 (sM_0 t_65) (by decide)) hP hD hS (lv_sub hl [0] rfl)
                  · refine lv_aload_n hx hb dX7_look_189 rfl (lv_at hl 0 rfl) ?_
                    refine va_get (D := D) (ci := 7) (v := .long (gl (K149 0) 24)) (C := RX7) (T := TX7) (N := 29) hx hb htg ig_7 hown hK hP 0 (oh_wg (Nat.lt_of_lt_of_le (by decide) hn) (sM_0 hT)) rfl 24 (by decide) (htg _ q_997) (fun _ h9 => h9) rfl dX7_look_190 ?_
                    refine lv_ldc2 (v := 10) hx hb hown (htg _ q_1207) dX7_look_193 ?_
                    refine lv_lmul hx hb dX7_look_196 ?_
                    refine lv_aload_n hx hb dX7_look_197 rfl (lv_at hl 0 rfl) ?_
                    refine va_get (D := D) (ci := 7) (v := .ref (a 7)) (C := RX7) (T := TX7) (N := 29) hx hb htg ig_7 hown hK hP 0 (oh_wg (Nat.lt_of_lt_of_le (by decide) hn) (sM_0 hT)) rfl 6 (by decide) (htg _ q_979) (fun _ h9 => h9) rfl dX7_look_198 ?_
                    refine lv_aload_n hx hb dX7_look_201 rfl (lv_at hl 0 rfl) ?_
                    refine va_get (D := D) (ci := 7) (v := .int (gi (K149 0) 21)) (C := RX7) (T := TX7) (N := 29) hx hb htg ig_7 hown hK hP 0 (oh_wg (Nat.lt_of_lt_of_le (by decide) hn) (sM_0 hT)) rfl 21 (by decide) (htg _ q_994) (fun _ h9 => h9) rfl dX7_look_202 ?_
                    have n_71 : vp_in (gi (K149 0) 21) 250 := (vp_in_iff.mpr ⟨by omega, by omega⟩)
                    refine th_iald hx hb hK hP 7 (Nat.lt_of_lt_of_le (by decide) hn) (Eq.trans (Eq.trans (hLF_149.1 7 rfl (by decide)) (Eq.trans (th_un e_42 (by decide)) (Eq.trans (th_un e_7 (by decide)) (Eq.trans (th_un e_4 (by decide)) (hLF_0.1 7 rfl (by decide)))))) (sM_7 hT0)) n_71 dX7_look_205 ?_
                    refine lv_i2l (v := Int32.toInt64 (ga (C 7) (gi (K149 0) 21).toNatClampNeg)) hx hb dX7_look_206 (by rfl) ?_
                    refine lv_ladd hx hb dX7_look_207 ?_
                    refine lv_ldc2 (v := 48) hx hb hown (htg _ q_1208) dX7_look_208 ?_
                    refine lv_lsub hx hb dX7_look_211 ?_
                    refine lv_goto (tgt := 218) hx hb dX7_look_212 (by decide) ?_
                    refine th_put (Tp := TyM a E) (Rl := fr [] [21, 22, 23, 24] C) (ci := 7) (v := .long ((((gl (K149 0) 24) * 10) + (Int32.toInt64 (ga (C 7) (gi (K149 0) 21).toNatClampNeg))) - 48)) (ty := .long) (CC := RX7) (T := TX7) (N := 29) hx hb htg ig_7 tyX7 tyX7_ok nmX7 hown hK hP hD hS 0 (Nat.lt_of_lt_of_le (by decide) hn) (sM_0 hT) rfl 24 (by decide) (htg _ q_997) (fun _ h9 => h9) rfl (by decide +kernel) rfl rfl (Nat.le_of_ble_eq_true rfl) (hT.up 0 (by decide) ⟨rfl, (fM_0_7 hT), (fM_0_9 hT), (fM_0_11 hT), (fM_0_13 hT), (fM_0_15 hT), (fM_0_21 hT), (fM_0_23 hT)⟩) (fr_fd hF (sM_0 hT) (by decide)) dX7_look_218 (fun C_72 H locs e_73 hT hF hP hD hS => ?_)
                    have t_74 := hT
                    refine lv_aload_n hx hb dX7_look_221 rfl (lv_at hl 0 rfl) ?_
                    refine lv_dup hx hb dX7_look_222 rfl ?_
                    refine va_get (D := D) (ci := 7) (v := .int (gi (K149 0) 21)) (C := RX7) (T := TX7) (N := 29) hx hb htg ig_7 hown hK hP 0 (oh_wg (Nat.lt_of_lt_of_le (by decide) hn) (sM_0 hT)) rfl 21 (by decide) (htg _ q_994) (fun _ h9 => h9) (oh_fv (c := C_72 0) (j := 21) rfl (show gi (C_72 0) 21 = gi (K149 0) 21 by rw [e_73]; rfl)) dX7_look_223 ?_
                    refine lv_iconst (v := 1) hx hb dX7_look_226 (by decide) ?_
                    refine lv_iadd hx hb dX7_look_227 ?_
                    have : (gi (C_72 0) 21).toInt = (gi (K149 0) 21).toInt := congrArg Int32.toInt (show gi (C_72 0) 21 = gi (K149 0) 21 by rw [e_73]; rfl)
                    have : (gi (C_72 0) 7).toInt = (gi (K149 0) 7).toInt := congrArg Int32.toInt (show gi (C_72 0) 7 = gi (K149 0) 7 by rw [e_73]; rfl)
                    have : (gi (C_72 0) 23).toInt = (gi (K149 0) 23).toInt := congrArg Int32.toInt (show gi (C_72 0) 23 = gi (K149 0) 23 by rw [e_73]; rfl)
                    have : (gi (C_72 0) 13).toInt = (gi (K149 0) 13).toInt := congrArg Int32.toInt (show gi (C_72 0) 13 = gi (K149 0) 13 by rw [e_73]; rfl)
                    have : 0 ≤ (gi (C_72 0) 21).toInt ∧ (gi (C_72 0) 21).toInt ≤ 250 := fM_0_21 t_74
                    have : 0 ≤ (gi (C_72 0) 7).toInt ∧ (gi (C_72 0) 7).toInt ≤ 250 := fM_0_7 t_74
                    have : 0 ≤ (gi (C_72 0) 23).toInt ∧ (gi (C_72 0) 23).toInt ≤ 250 := fM_0_23 t_74
                    have : 0 ≤ (gi (C_72 0) 13).toInt ∧ (gi (C_72 0) 13).toInt ≤ 5 := fM_0_13 t_74
                    have hpf_228 : rg (gi (K149 0) 21) 0 249 := ⟨by omega, by omega⟩
                    refine th_put (Tp := TyM a E) (Rl := fr [] [21, 22, 23, 24] C) (ci := 7) (v := .int ((gi (K149 0) 21) + 1)) (ty := .int) (CC := RX7) (T := TX7) (N := 29) hx hb htg ig_7 tyX7 tyX7_ok nmX7 hown hK hP hD hS 0 (Nat.lt_of_lt_of_le (by decide) hn) (sM_0 hT) rfl 21 (by decide) (htg _ q_994) (fun _ h9 => h9) rfl (by decide +kernel) rfl rfl (Nat.le_of_ble_eq_true rfl) (hT.up 0 (by decide) ⟨rfl, (fM_0_7 hT), (fM_0_9 hT), (fM_0_11 hT), (fM_0_13 hT), (fM_0_15 hT), (rg_w (rg_add (lo := 1) (hi := 250) hpf_228 (rg_c (v := 1) (lo := 1) (hi := 1) (by decide)) (by decide)) (by decide)), (fM_0_23 hT)⟩) (fr_fd hF (sM_0 hT) (by decide)) dX7_look_228 (fun C_75 H locs e_76 hT hF hP hD hS => ?_)
                    have t_77 := hT
                    refine lv_goto (tgt := 149) hx hb dX7_look_231 (by decide) ?_
                    have : (gi (C_75 0) 21).toInt = ((gi (K149 0) 21) + 1).toInt := congrArg Int32.toInt (show gi (C_75 0) 21 = ((gi (K149 0) 21) + 1) by rw [e_76]; rfl)
                    have : ((gi (K149 0) 21) + 1).toInt = (gi (K149 0) 21).toInt + 1 := oh_incr (rn_ltu (u' := 249) (Int32.not_le.mp c_45) (fM_0_21 t_44) (fM_0_7 hT0) (by decide)) (by decide)
                    have : (gi (C_75 0) 7).toInt = (gi (C_72 0) 7).toInt := congrArg Int32.toInt (show gi (C_75 0) 7 = gi (C_72 0) 7 by rw [e_76]; rfl)
                    have : (gi (C_75 0) 23).toInt = (gi (C_72 0) 23).toInt := congrArg Int32.toInt (show gi (C_75 0) 23 = gi (C_72 0) 23 by rw [e_76]; rfl)
                    have : (gi (C_75 0) 13).toInt = (gi (C_72 0) 13).toInt := congrArg Int32.toInt (show gi (C_75 0) 13 = gi (C_72 0) 13 by rw [e_76]; rfl)
                    have : 0 ≤ (gi (C_75 0) 21).toInt ∧ (gi (C_75 0) 21).toInt ≤ 250 := fM_0_21 t_77
                    have : 0 ≤ (gi (C_75 0) 7).toInt ∧ (gi (C_75 0) 7).toInt ≤ 250 := fM_0_7 t_77
                    have : 0 ≤ (gi (C_75 0) 23).toInt ∧ (gi (C_75 0) 23).toInt ≤ 250 := fM_0_23 t_77
                    have : 0 ≤ (gi (C_75 0) 13).toInt ∧ (gi (C_75 0) 13).toInt ≤ 5 := fM_0_13 t_77
                    have hS_78 : gi (K0 0) 21 = (upto pB (ga (C 7)) (gi (C 0) 7) (gi (C 0) 21)) := Eq.trans (upto_stop (p := pB) (fun h8 => absurd h8.1 (Int32.not_lt.mpr c_2))).symm hs_0
                    have hSr_79 : rg (upto pB (ga (C 7)) (gi (C 0) 7) (gi (C 0) 21)) 0 250 := by rw [← hS_78]; exact (rg_w (lo := 0) (hi := 250) (rn_lel c_2 (rn_ltl (l' := 1) (Int32.not_le.mp c_45) (fM_0_21 t_44) (fM_0_7 hT0) (by decide)) (fM_0_21 t_1)) (by decide))
                    have hl_80 : ((upto pB (ga (C 7)) (gi (C 0) 7) (gi (C 0) 21))).toInt ≤ (gi (K149 0) 21).toInt := by rw [← hS_78]; omega
                    exact ih_149 _ (hd_149 ▸ (by rw [(show gi (C_75 0) 21 = ((gi (K149 0) 21) + 1) by rw [e_76]; rfl)]; exact mu_up 250 (rn_ltu (u' := 249) (Int32.not_le.mp c_45) (fM_0_21 t_44) (fM_0_7 hT0) (by decide)) (by decide))) C_75  _ _ ls rfl (by omega) ⟨Eq.trans (congrArg (upto pD (ga (C 7)) (gi (C 0) 7)) (show gi (C_75 0) 21 = ((gi (K149 0) 21) + 1) by rw [e_76]; rfl)) (Eq.trans (upto_step (p := pD) (rn_ltu (u' := 249) (Int32.not_le.mp c_45) (fM_0_21 t_44) (fM_0_7 hT0) (by decide)) (Int32.not_le.mp c_45) u_61).symm hs_149.1), Eq.trans (Eq.trans (show gl (C_75 0) 24 = gl (C_72 0) 24 by rw [e_76]; rfl) (show gl (C_72 0) 24 = ((((gl (K149 0) 24) * 10) + (Int32.toInt64 (ga (C 7) (gi (K149 0) 21).toNatClampNeg))) - 48) by rw [e_73]; rfl)) (by rw [(show gi (C_75 0) 21 = ((gi (K149 0) 21) + 1) by rw [e_76]; rfl)]; exact (fg_step1 hSr_79 (rn_ltu (u' := 249) (Int32.not_le.mp c_45) (fM_0_21 t_44) (fM_0_7 hT0) (by decide)) hl_80 (by rw [← hS_78]; exact (Int32.not_le.mp c_62)) hs_149.2.1 hs_149.2.2 u_61)), by rw [(show gi (C_75 0) 21 = ((gi (K149 0) 21) + 1) by rw [e_76]; rfl)]; exact fg_dig (rn_ltu (u' := 249) (Int32.not_le.mp c_45) (fM_0_21 t_44) (fM_0_7 hT0) (by decide)) hs_149.2.2 u_61⟩ hT hF (fr_fde (fr_fde hLF_149 e_73 (sM_0 t_44) (by decide)) e_76 (sM_0 t_74) (by decide)) hP hD hS (lv_sub hl [0] rfl)
            have : (gi (C_41 0) 21).toInt = (gi (C_6 0) 21).toInt := congrArg Int32.toInt (show gi (C_41 0) 21 = gi (C_6 0) 21 by rw [e_42]; rfl)
            have : (gi (C_41 0) 7).toInt = (gi (C_6 0) 7).toInt := congrArg Int32.toInt (show gi (C_41 0) 7 = gi (C_6 0) 7 by rw [e_42]; rfl)
            have : (gi (C_41 0) 23).toInt = (gi (C_6 0) 23).toInt := congrArg Int32.toInt (show gi (C_41 0) 23 = gi (C_6 0) 23 by rw [e_42]; rfl)
            have : (gi (C_41 0) 13).toInt = (gi (C_6 0) 13).toInt := congrArg Int32.toInt (show gi (C_41 0) 13 = gi (C_6 0) 13 by rw [e_42]; rfl)
            have : 0 ≤ (gi (C_41 0) 21).toInt ∧ (gi (C_41 0) 21).toInt ≤ 250 := fM_0_21 t_43
            have : 0 ≤ (gi (C_41 0) 7).toInt ∧ (gi (C_41 0) 7).toInt ≤ 250 := fM_0_7 t_43
            have : 0 ≤ (gi (C_41 0) 23).toInt ∧ (gi (C_41 0) 23).toInt ≤ 250 := fM_0_23 t_43
            have : 0 ≤ (gi (C_41 0) 13).toInt ∧ (gi (C_41 0) 13).toInt ≤ 5 := fM_0_13 t_43
            have hS_82 : gi (K0 0) 21 = (upto pB (ga (C 7)) (gi (C 0) 7) (gi (C 0) 21)) := Eq.trans (upto_stop (p := pB) (fun h8 => absurd h8.1 (Int32.not_lt.mpr c_2))).symm hs_0
            have hA_81 : gi (C_41 0) 21 = (upto pB (ga (C 7)) (gi (C 0) 7) (gi (C 0) 21)) := Eq.trans (Eq.trans (show gi (C_41 0) 21 = gi (C_6 0) 21 by rw [e_42]; rfl) (Eq.trans (show gi (C_6 0) 21 = gi (C_3 0) 21 by rw [e_7]; rfl) (show gi (C_3 0) 21 = gi (K0 0) 21 by rw [e_4]; rfl))) hS_82
            exact L_149 _ C_41  _ _ ls rfl (by omega) ⟨(congrArg (upto pD (ga (C 7)) (gi (C 0) 7)) hA_81), Eq.trans (Eq.trans (show gl (C_41 0) 24 = gl (C_6 0) 24 by rw [e_42]; rfl) (show gl (C_6 0) 24 = (0 : Int64) by rw [e_7]; rfl)) (by rw [hA_81]; exact fg_0), fun j h8 h9 => absurd h9 (by rw [hA_81]; exact Nat.not_lt.mpr h8)⟩ hT hF fr_rf hP hD hS (lv_sub hl [0] rfl)
        · have u_83 := hq_12.2.1 c_13
          refine lv_aload_n hx hb dX7_look_85 rfl (lv_at hl 0 rfl) ?_
          refine lv_iconst (v := 1) hx hb dX7_look_86 (by decide) ?_
          refine th_put (Tp := TyM a E) (Rl := fr [] [21, 22, 23, 24] C) (ci := 7) (v := .int 1) (ty := .int) (CC := RX7) (T := TX7) (N := 29) hx hb htg ig_7 tyX7 tyX7_ok nmX7 hown hK hP hD hS 0 (Nat.lt_of_lt_of_le (by decide) hn) (sM_0 hT) rfl 22 (by decide) (htg _ q_995) (fun _ h9 => h9) rfl (by decide +kernel) rfl rfl (Nat.le_of_ble_eq_true rfl) (hT.up 0 (by decide) ⟨rfl, (fM_0_7 hT), (fM_0_9 hT), (fM_0_11 hT), (fM_0_13 hT), (fM_0_15 hT), (fM_0_21 hT), (fM_0_23 hT)⟩) (fr_fd hF (sM_0 hT) (by decide)) dX7_look_87 (fun C_84 H locs e_85 hT hF hP hD hS => ?_)
          have t_86 := hT
          have L_90 : ∀ (d : Nat) (K90 : Nat → va_E) (H : Heap) (locs : List Loc) (ls : Array Slot), (250 - (gi (K90 0) 21).toInt).toNat = d → ((gi (C 0) 21).toInt ≤ (gi (K90 0) 23).toInt ∧ (gi (K90 0) 23).toInt ≤ (gi (K90 0) 21).toInt ∧ (gi (K90 0) 21).toInt ≤ (gi (K90 0) 7).toInt) → ((upto pL (ga (C 7)) (gi (C 0) 7) (gi (K90 0) 21)) = (upto pL (ga (C 7)) (gi (C 0) 7) (upto pB (ga (C 7)) (gi (C 0) 7) (gi (C 0) 21)))) → TyM a E K90 → fr [] [21, 22, 23, 24] C K90 → fr [] [21] C_84 K90 → va_P D vwCl (oh_W n a K90) H → va_D A (oh_W n a K90) → va_S A s.heap H locs → lv_has ls 1 [(0, .ref (a 0))] → W p l e ({ frames := 1, cells := 0, slots := 0, locals := 20 }) s m (([.ref (a 0)] : List Value).toArray) below meth c H locs 0 0 Q (F0 m 90 ls []) := by
            intro d
            induction d using Nat.strongRecOn with
            | ind d ih_90 =>
            intro K90  H locs ls hd_90 hv_90 hs_90 hT hF hLF_90 hP hD hS hl
            have t_87 := hT
            refine lv_aload_n hx hb dX7_look_90 rfl (lv_at hl 0 rfl) ?_
            refine va_get (D := D) (ci := 7) (v := .int (gi (K90 0) 21)) (C := RX7) (T := TX7) (N := 29) hx hb htg ig_7 hown hK hP 0 (oh_wg (Nat.lt_of_lt_of_le (by decide) hn) (sM_0 hT)) rfl 21 (by decide) (htg _ q_994) (fun _ h9 => h9) rfl dX7_look_91 ?_
            refine lv_aload_n hx hb dX7_look_94 rfl (lv_at hl 0 rfl) ?_
            refine va_get (D := D) (ci := 7) (v := .int (gi (C 0) 7)) (C := RX7) (T := TX7) (N := 29) hx hb htg ig_7 hown hK hP 0 (oh_wg (Nat.lt_of_lt_of_le (by decide) hn) (sM_0 hT)) rfl 7 (by decide) (htg _ q_980) (fun _ h9 => h9) (oh_fv (c := K90 0) (j := 7) rfl (Eq.trans (congrArg vi (hLF_90.2 7 (by decide))) (Eq.trans (show gi (C_84 0) 7 = gi (C_6 0) 7 by rw [e_85]; rfl) (Eq.trans (show gi (C_6 0) 7 = gi (C_3 0) 7 by rw [e_7]; rfl) (Eq.trans (show gi (C_3 0) 7 = gi (K0 0) 7 by rw [e_4]; rfl) (congrArg vi (hLF_0.2 7 (by decide)))))))) dX7_look_95 ?_
            refine lv_icmp_ge (tgt := 267) hx hb dX7_look_98 (by decide) (fun (c_88 : (gi (C 0) 7) ≤ (gi (K90 0) 21)) => ?_) (fun (c_88 : ¬ ((gi (C 0) 7) ≤ (gi (K90 0) 21))) => ?_)
            · have : (gi (C_84 0) 21).toInt = (gi (C_6 0) 21).toInt := congrArg Int32.toInt (show gi (C_84 0) 21 = gi (C_6 0) 21 by rw [e_85]; rfl)
              have : (gi (C_84 0) 7).toInt = (gi (C_6 0) 7).toInt := congrArg Int32.toInt (show gi (C_84 0) 7 = gi (C_6 0) 7 by rw [e_85]; rfl)
              have : (gi (C_84 0) 23).toInt = (gi (C_6 0) 23).toInt := congrArg Int32.toInt (show gi (C_84 0) 23 = gi (C_6 0) 23 by rw [e_85]; rfl)
              have : (gi (C_84 0) 13).toInt = (gi (C_6 0) 13).toInt := congrArg Int32.toInt (show gi (C_84 0) 13 = gi (C_6 0) 13 by rw [e_85]; rfl)
              have : (gi (K90 0) 7).toInt = (gi (C_84 0) 7).toInt := congrArg (fun z => (vi z).toInt) (hLF_90.2 7 (by decide))
              have : (gi (K90 0) 23).toInt = (gi (C_84 0) 23).toInt := congrArg (fun z => (vi z).toInt) (hLF_90.2 23 (by decide))
              have : (gi (K90 0) 13).toInt = (gi (C_84 0) 13).toInt := congrArg (fun z => (vi z).toInt) (hLF_90.2 13 (by decide))
              have : 0 ≤ (gi (C_84 0) 21).toInt ∧ (gi (C_84 0) 21).toInt ≤ 250 := fM_0_21 t_86
              have : 0 ≤ (gi (C_84 0) 7).toInt ∧ (gi (C_84 0) 7).toInt ≤ 250 := fM_0_7 t_86
              have : 0 ≤ (gi (C_84 0) 23).toInt ∧ (gi (C_84 0) 23).toInt ≤ 250 := fM_0_23 t_86
              have : 0 ≤ (gi (C_84 0) 13).toInt ∧ (gi (C_84 0) 13).toInt ≤ 5 := fM_0_13 t_86
              have : 0 ≤ (gi (K90 0) 21).toInt ∧ (gi (K90 0) 21).toInt ≤ 250 := fM_0_21 t_87
              have : 0 ≤ (gi (K90 0) 7).toInt ∧ (gi (K90 0) 7).toInt ≤ 250 := fM_0_7 t_87
              have : 0 ≤ (gi (K90 0) 23).toInt ∧ (gi (K90 0) 23).toInt ≤ 250 := fM_0_23 t_87
              have : 0 ≤ (gi (K90 0) 13).toInt ∧ (gi (K90 0) 13).toInt ≤ 5 := fM_0_13 t_87
              have : (gi (C 0) 7).toInt ≤ (gi (K90 0) 21).toInt := Int32.le_iff_toInt_le.mp c_88
              have hS_89 : gi (K0 0) 21 = (upto pB (ga (C 7)) (gi (C 0) 7) (gi (C 0) 21)) := Eq.trans (upto_stop (p := pB) (fun h8 => absurd h8.1 (Int32.not_lt.mpr c_2))).symm hs_0
              have hl_91 : (upto pB (ga (C 7)) (gi (C 0) 7) (gi (C 0) 21)) < gi (C 0) 7 := by rw [← hS_89]; exact Int32.lt_iff_toInt_lt.mpr (by omega)
              have hE_92 : gi (K90 0) 21 = (upto pL (ga (C 7)) (gi (C 0) 7) (upto pB (ga (C 7)) (gi (C 0) 7) (gi (C 0) 21))) := (Eq.trans (upto_stop (p := pL) (fun h8 => absurd h8.1 (Int32.not_lt.mpr c_88))).symm hs_90)
              have tk_90 := tk_word (S := (upto pB (ga (C 7)) (gi (C 0) 7) (gi (C 0) 21))) hE_92 (by rw [hE_92]; exact upto_gt (fM_0_7 hT0) (by rw [← hS_89]; exact (rg_w (lo := 0) (hi := 250) (fM_0_21 t_1) (by decide))) hl_91 (by rw [← hS_89]; exact u_83))
              rw [hQ]
              exact W.vret hx hb hr (fun t ht hW => ⟨⟨K90, rfl, ⟨hT, hF, ⟨⟨(by omega), (by omega), (by omega)⟩, (pm_mk (Eq.trans (congrArg vi (hLF_90.2 7 (by decide))) (Eq.trans (show gi (C_84 0) 7 = gi (C_6 0) 7 by rw [e_85]; rfl) (Eq.trans (show gi (C_6 0) 7 = gi (C_3 0) 7 by rw [e_7]; rfl) (Eq.trans (show gi (C_3 0) 7 = gi (K0 0) 7 by rw [e_4]; rfl) (congrArg vi (hLF_0.2 7 (by decide))))))) (Eq.trans (Eq.trans (congrArg vi (hLF_90.2 22 (by decide))) (show gi (C_84 0) 22 = (1 : Int32) by rw [e_85]; rfl)) tk_90.1) (Eq.trans (Eq.trans (congrArg vi (hLF_90.2 23 (by decide))) (Eq.trans (show gi (C_84 0) 23 = gi (C_6 0) 23 by rw [e_85]; rfl) (Eq.trans (show gi (C_6 0) 23 = gi (C_3 0) 23 by rw [e_7]; rfl) (show gi (C_3 0) 23 = (gi (K0 0) 21) by rw [e_4]; rfl)))) hS_89) (Eq.trans rfl tk_90.2)), (Eq.trans (Eq.trans (congrArg vl (hLF_90.2 24 (by decide))) (Eq.trans (show gl (C_84 0) 24 = gl (C_6 0) 24 by rw [e_85]; rfl) (show gl (C_6 0) 24 = (0 : Int64) by rw [e_7]; rfl))) (pif_neg (fun h8 => absurd (Eq.trans (Eq.trans (congrArg vi (hLF_90.2 22 (by decide))) (show gi (C_84 0) 22 = (1 : Int32) by rw [e_85]; rfl)).symm h8) (by decide))).symm)⟩⟩, ⟨by rw [ht]; exact hP, hD⟩⟩, hS.F ht⟩) hS.2.2 dX7_look_267
            · refine lv_aload_n hx hb dX7_look_101 rfl (lv_at hl 0 rfl) ?_
              refine va_get (D := D) (ci := 7) (v := .ref (a 7)) (C := RX7) (T := TX7) (N := 29) hx hb htg ig_7 hown hK hP 0 (oh_wg (Nat.lt_of_lt_of_le (by decide) hn) (sM_0 hT)) rfl 6 (by decide) (htg _ q_979) (fun _ h9 => h9) rfl dX7_look_102 ?_
              refine lv_aload_n hx hb dX7_look_105 rfl (lv_at hl 0 rfl) ?_
              refine va_get (D := D) (ci := 7) (v := .int (gi (K90 0) 21)) (C := RX7) (T := TX7) (N := 29) hx hb htg ig_7 hown hK hP 0 (oh_wg (Nat.lt_of_lt_of_le (by decide) hn) (sM_0 hT)) rfl 21 (by decide) (htg _ q_994) (fun _ h9 => h9) rfl dX7_look_106 ?_
              have : (gi (C_84 0) 21).toInt = (gi (C_6 0) 21).toInt := congrArg Int32.toInt (show gi (C_84 0) 21 = gi (C_6 0) 21 by rw [e_85]; rfl)
              have : (gi (C_84 0) 7).toInt = (gi (C_6 0) 7).toInt := congrArg Int32.toInt (show gi (C_84 0) 7 = gi (C_6 0) 7 by rw [e_85]; rfl)
              have : (gi (C_84 0) 23).toInt = (gi (C_6 0) 23).toInt := congrArg Int32.toInt (show gi (C_84 0) 23 = gi (C_6 0) 23 by rw [e_85]; rfl)
              have : (gi (C_84 0) 13).toInt = (gi (C_6 0) 13).toInt := congrArg Int32.toInt (show gi (C_84 0) 13 = gi (C_6 0) 13 by rw [e_85]; rfl)
              have : (gi (K90 0) 7).toInt = (gi (C_84 0) 7).toInt := congrArg (fun z => (vi z).toInt) (hLF_90.2 7 (by decide))
              have : (gi (K90 0) 23).toInt = (gi (C_84 0) 23).toInt := congrArg (fun z => (vi z).toInt) (hLF_90.2 23 (by decide))
              have : (gi (K90 0) 13).toInt = (gi (C_84 0) 13).toInt := congrArg (fun z => (vi z).toInt) (hLF_90.2 13 (by decide))
              have : 0 ≤ (gi (C_84 0) 21).toInt ∧ (gi (C_84 0) 21).toInt ≤ 250 := fM_0_21 t_86
              have : 0 ≤ (gi (C_84 0) 7).toInt ∧ (gi (C_84 0) 7).toInt ≤ 250 := fM_0_7 t_86
              have : 0 ≤ (gi (C_84 0) 23).toInt ∧ (gi (C_84 0) 23).toInt ≤ 250 := fM_0_23 t_86
              have : 0 ≤ (gi (C_84 0) 13).toInt ∧ (gi (C_84 0) 13).toInt ≤ 5 := fM_0_13 t_86
              have : 0 ≤ (gi (K90 0) 21).toInt ∧ (gi (K90 0) 21).toInt ≤ 250 := fM_0_21 t_87
              have : 0 ≤ (gi (K90 0) 7).toInt ∧ (gi (K90 0) 7).toInt ≤ 250 := fM_0_7 t_87
              have : 0 ≤ (gi (K90 0) 23).toInt ∧ (gi (K90 0) 23).toInt ≤ 250 := fM_0_23 t_87
              have : 0 ≤ (gi (K90 0) 13).toInt ∧ (gi (K90 0) 13).toInt ≤ 5 := fM_0_13 t_87
              have : (gi (K90 0) 21).toInt < (gi (C 0) 7).toInt := Int32.lt_iff_toInt_lt.mp (Int32.not_le.mp c_88)
              have n_93 : vp_in (gi (K90 0) 21) 250 := (vp_in_iff.mpr ⟨by omega, by omega⟩)
              refine th_iald hx hb hK hP 7 (Nat.lt_of_lt_of_le (by decide) hn) (Eq.trans (Eq.trans (hLF_90.1 7 rfl (by decide)) (Eq.trans (th_un e_85 (by decide)) (Eq.trans (th_un e_7 (by decide)) (Eq.trans (th_un e_4 (by decide)) (hLF_0.1 7 rfl (by decide)))))) (sM_7 hT0)) n_93 dX7_look_109 ?_
              refine tq_S (As := [.int (ga (C 7) (gi (K90 0) 21).toNatClampNeg)]) (rest := []) (ws := []) ⟨hx, hb, hml, hown, htg⟩ (e_X7_isLetter l D E G (ga (C 7) (gi (K90 0) 21).toNatClampNeg)) (va_cwS 1 htg (oh_gS q_1201 q_1202 q_73 q_1203) rfl rfl rfl pdX7_isLetter ⟨Nat.le_of_ble_eq_true rfl, Nat.le_of_ble_eq_true rfl⟩) hK va_nil hG hS rfl hl.1 rfl (Nat.le_of_ble_eq_true rfl) dX7_look_110 ⟨Nat.le_of_ble_eq_true rfl, Nat.le_of_ble_eq_true rfl⟩ (fun r_94 hq_95 => ?_)
              refine lv_if_eq (tgt := 267) hx hb dX7_look_113 (by decide) (fun (c_96 : r_94 = 0) => ?_) (fun (c_96 : ¬ (r_94 = 0)) => ?_)
              · have u_97 := hq_95.2.2 c_96
                have hS_98 : gi (K0 0) 21 = (upto pB (ga (C 7)) (gi (C 0) 7) (gi (C 0) 21)) := Eq.trans (upto_stop (p := pB) (fun h8 => absurd h8.1 (Int32.not_lt.mpr c_2))).symm hs_0
                have hl_100 : (upto pB (ga (C 7)) (gi (C 0) 7) (gi (C 0) 21)) < gi (C 0) 7 := by rw [← hS_98]; exact Int32.lt_iff_toInt_lt.mpr (by omega)
                have hE_101 : gi (K90 0) 21 = (upto pL (ga (C 7)) (gi (C 0) 7) (upto pB (ga (C 7)) (gi (C 0) 7) (gi (C 0) 21))) := (Eq.trans (upto_stop (p := pL) (fun h8 => u_97 h8.2)).symm hs_90)
                have tk_99 := tk_word (S := (upto pB (ga (C 7)) (gi (C 0) 7) (gi (C 0) 21))) hE_101 (by rw [hE_101]; exact upto_gt (fM_0_7 hT0) (by rw [← hS_98]; exact (rg_w (lo := 0) (hi := 250) (rn_lel c_2 (rn_ltl (l' := 1) (Int32.not_le.mp c_88) (fM_0_21 t_87) (fM_0_7 hT0) (by decide)) (fM_0_21 t_1)) (by decide))) hl_100 (by rw [← hS_98]; exact u_83))
                rw [hQ]
                exact W.vret hx hb hr (fun t ht hW => ⟨⟨K90, rfl, ⟨hT, hF, ⟨⟨(by omega), (by omega), (by omega)⟩, (pm_mk (Eq.trans (congrArg vi (hLF_90.2 7 (by decide))) (Eq.trans (show gi (C_84 0) 7 = gi (C_6 0) 7 by rw [e_85]; rfl) (Eq.trans (show gi (C_6 0) 7 = gi (C_3 0) 7 by rw [e_7]; rfl) (Eq.trans (show gi (C_3 0) 7 = gi (K0 0) 7 by rw [e_4]; rfl) (congrArg vi (hLF_0.2 7 (by decide))))))) (Eq.trans (Eq.trans (congrArg vi (hLF_90.2 22 (by decide))) (show gi (C_84 0) 22 = (1 : Int32) by rw [e_85]; rfl)) tk_99.1) (Eq.trans (Eq.trans (congrArg vi (hLF_90.2 23 (by decide))) (Eq.trans (show gi (C_84 0) 23 = gi (C_6 0) 23 by rw [e_85]; rfl) (Eq.trans (show gi (C_6 0) 23 = gi (C_3 0) 23 by rw [e_7]; rfl) (show gi (C_3 0) 23 = (gi (K0 0) 21) by rw [e_4]; rfl)))) hS_98) (Eq.trans rfl tk_99.2)), (Eq.trans (Eq.trans (congrArg vl (hLF_90.2 24 (by decide))) (Eq.trans (show gl (C_84 0) 24 = gl (C_6 0) 24 by rw [e_85]; rfl) (show gl (C_6 0) 24 = (0 : Int64) by rw [e_7]; rfl))) (pif_neg (fun h8 => absurd (Eq.trans (Eq.trans (congrArg vi (hLF_90.2 22 (by decide))) (show gi (C_84 0) 22 = (1 : Int32) by rw [e_85]; rfl)).symm h8) (by decide))).symm)⟩⟩, ⟨by rw [ht]; exact hP, hD⟩⟩, hS.F ht⟩) hS.2.2 dX7_look_267
              · have u_102 := hq_95.2.1 c_96
                refine lv_aload_n hx hb dX7_look_116 rfl (lv_at hl 0 rfl) ?_
                refine lv_dup hx hb dX7_look_117 rfl ?_
                refine va_get (D := D) (ci := 7) (v := .int (gi (K90 0) 21)) (C := RX7) (T := TX7) (N := 29) hx hb htg ig_7 hown hK hP 0 (oh_wg (Nat.lt_of_lt_of_le (by decide) hn) (sM_0 hT)) rfl 21 (by decide) (htg _ q_994) (fun _ h9 => h9) rfl dX7_look_118 ?_
                refine lv_iconst (v := 1) hx hb dX7_look_121 (by decide) ?_
                refine lv_iadd hx hb dX7_look_122 ?_
                have hpf_123 : rg (gi (K90 0) 21) 0 249 := ⟨by omega, by omega⟩
                refine th_put (Tp := TyM a E) (Rl := fr [] [21, 22, 23, 24] C) (ci := 7) (v := .int ((gi (K90 0) 21) + 1)) (ty := .int) (CC := RX7) (T := TX7) (N := 29) hx hb htg ig_7 tyX7 tyX7_ok nmX7 hown hK hP hD hS 0 (Nat.lt_of_lt_of_le (by decide) hn) (sM_0 hT) rfl 21 (by decide) (htg _ q_994) (fun _ h9 => h9) rfl (by decide +kernel) rfl rfl (Nat.le_of_ble_eq_true rfl) (hT.up 0 (by decide) ⟨rfl, (fM_0_7 hT), (fM_0_9 hT), (fM_0_11 hT), (fM_0_13 hT), (fM_0_15 hT), (rg_w (rg_add (lo := 1) (hi := 250) hpf_123 (rg_c (v := 1) (lo := 1) (hi := 1) (by decide)) (by decide)) (by decide)), (fM_0_23 hT)⟩) (fr_fd hF (sM_0 hT) (by decide)) dX7_look_123 (fun C_103 H locs e_104 hT hF hP hD hS => ?_)
                have t_105 := hT
                refine lv_goto (tgt := 90) hx hb dX7_look_126 (by decide) ?_
                have : (gi (C_103 0) 21).toInt = ((gi (K90 0) 21) + 1).toInt := congrArg Int32.toInt (show gi (C_103 0) 21 = ((gi (K90 0) 21) + 1) by rw [e_104]; rfl)
                have : ((gi (K90 0) 21) + 1).toInt = (gi (K90 0) 21).toInt + 1 := oh_incr (rn_ltu (u' := 249) (Int32.not_le.mp c_88) (fM_0_21 t_87) (fM_0_7 hT0) (by decide)) (by decide)
                have : (gi (C_103 0) 7).toInt = (gi (K90 0) 7).toInt := congrArg Int32.toInt (show gi (C_103 0) 7 = gi (K90 0) 7 by rw [e_104]; rfl)
                have : (gi (C_103 0) 23).toInt = (gi (K90 0) 23).toInt := congrArg Int32.toInt (show gi (C_103 0) 23 = gi (K90 0) 23 by rw [e_104]; rfl)
                have : (gi (C_103 0) 13).toInt = (gi (K90 0) 13).toInt := congrArg Int32.toInt (show gi (C_103 0) 13 = gi (K90 0) 13 by rw [e_104]; rfl)
                have : 0 ≤ (gi (C_103 0) 21).toInt ∧ (gi (C_103 0) 21).toInt ≤ 250 := fM_0_21 t_105
                have : 0 ≤ (gi (C_103 0) 7).toInt ∧ (gi (C_103 0) 7).toInt ≤ 250 := fM_0_7 t_105
                have : 0 ≤ (gi (C_103 0) 23).toInt ∧ (gi (C_103 0) 23).toInt ≤ 250 := fM_0_23 t_105
                have : 0 ≤ (gi (C_103 0) 13).toInt ∧ (gi (C_103 0) 13).toInt ≤ 5 := fM_0_13 t_105
                exact ih_90 _ (hd_90 ▸ (by rw [(show gi (C_103 0) 21 = ((gi (K90 0) 21) + 1) by rw [e_104]; rfl)]; exact mu_up 250 (rn_ltu (u' := 249) (Int32.not_le.mp c_88) (fM_0_21 t_87) (fM_0_7 hT0) (by decide)) (by decide))) C_103  _ _ ls rfl (by omega) (Eq.trans (congrArg (upto pL (ga (C 7)) (gi (C 0) 7)) (show gi (C_103 0) 21 = ((gi (K90 0) 21) + 1) by rw [e_104]; rfl)) (Eq.trans (upto_step (p := pL) (rn_ltu (u' := 249) (Int32.not_le.mp c_88) (fM_0_21 t_87) (fM_0_7 hT0) (by decide)) (Int32.not_le.mp c_88) u_102).symm hs_90)) hT hF (fr_fde hLF_90 e_104 (sM_0 t_87) (by decide)) hP hD hS (lv_sub hl [0] rfl)
          have : (gi (C_84 0) 21).toInt = (gi (C_6 0) 21).toInt := congrArg Int32.toInt (show gi (C_84 0) 21 = gi (C_6 0) 21 by rw [e_85]; rfl)
          have : (gi (C_84 0) 7).toInt = (gi (C_6 0) 7).toInt := congrArg Int32.toInt (show gi (C_84 0) 7 = gi (C_6 0) 7 by rw [e_85]; rfl)
          have : (gi (C_84 0) 23).toInt = (gi (C_6 0) 23).toInt := congrArg Int32.toInt (show gi (C_84 0) 23 = gi (C_6 0) 23 by rw [e_85]; rfl)
          have : (gi (C_84 0) 13).toInt = (gi (C_6 0) 13).toInt := congrArg Int32.toInt (show gi (C_84 0) 13 = gi (C_6 0) 13 by rw [e_85]; rfl)
          have : 0 ≤ (gi (C_84 0) 21).toInt ∧ (gi (C_84 0) 21).toInt ≤ 250 := fM_0_21 t_86
          have : 0 ≤ (gi (C_84 0) 7).toInt ∧ (gi (C_84 0) 7).toInt ≤ 250 := fM_0_7 t_86
          have : 0 ≤ (gi (C_84 0) 23).toInt ∧ (gi (C_84 0) 23).toInt ≤ 250 := fM_0_23 t_86
          have : 0 ≤ (gi (C_84 0) 13).toInt ∧ (gi (C_84 0) 13).toInt ≤ 5 := fM_0_13 t_86
          have hS_106 : gi (K0 0) 21 = (upto pB (ga (C 7)) (gi (C 0) 7) (gi (C 0) 21)) := Eq.trans (upto_stop (p := pB) (fun h8 => absurd h8.1 (Int32.not_lt.mpr c_2))).symm hs_0
          exact L_90 _ C_84  _ _ ls rfl (by omega) (congrArg (upto pL (ga (C 7)) (gi (C 0) 7)) (Eq.trans (Eq.trans (show gi (C_84 0) 21 = gi (C_6 0) 21 by rw [e_85]; rfl) (Eq.trans (show gi (C_6 0) 21 = gi (C_3 0) 21 by rw [e_7]; rfl) (show gi (C_3 0) 21 = gi (K0 0) 21 by rw [e_4]; rfl))) hS_106)) hT hF fr_rf hP hD hS (lv_sub hl [0] rfl)
      · refine lv_aload_n hx hb dX7_look_62 rfl (lv_at hl 0 rfl) ?_
        refine lv_iconst (v := 0) hx hb dX7_look_63 (by decide) ?_
        refine th_put (Tp := TyM a E) (Rl := fr [] [21, 22, 23, 24] C) (ci := 7) (v := .int 0) (ty := .int) (CC := RX7) (T := TX7) (N := 29) hx hb htg ig_7 tyX7 tyX7_ok nmX7 hown hK hP hD hS 0 (Nat.lt_of_lt_of_le (by decide) hn) (sM_0 hT) rfl 22 (by decide) (htg _ q_995) (fun _ h9 => h9) rfl (by decide +kernel) rfl rfl (Nat.le_of_ble_eq_true rfl) (hT.up 0 (by decide) ⟨rfl, (fM_0_7 hT), (fM_0_9 hT), (fM_0_11 hT), (fM_0_13 hT), (fM_0_15 hT), (fM_0_21 hT), (fM_0_23 hT)⟩) (fr_fd hF (sM_0 hT) (by decide)) dX7_look_64 (fun C_107 H locs e_108 hT hF hP hD hS => ?_)
        have t_109 := hT
        refine lv_goto (tgt := 267) hx hb dX7_look_67 (by decide) ?_
        have : (gi (K0 0) 7).toInt = (gi (C 0) 7).toInt := congrArg (fun z => (vi z).toInt) (hLF_0.2 7 (by decide))
        have : (gi (K0 0) 23).toInt = (gi (C 0) 23).toInt := congrArg (fun z => (vi z).toInt) (hLF_0.2 23 (by decide))
        have : (gi (K0 0) 13).toInt = (gi (C 0) 13).toInt := congrArg (fun z => (vi z).toInt) (hLF_0.2 13 (by decide))
        have : (gi (C_3 0) 21).toInt = (gi (K0 0) 21).toInt := congrArg Int32.toInt (show gi (C_3 0) 21 = gi (K0 0) 21 by rw [e_4]; rfl)
        have : (gi (C_3 0) 7).toInt = (gi (K0 0) 7).toInt := congrArg Int32.toInt (show gi (C_3 0) 7 = gi (K0 0) 7 by rw [e_4]; rfl)
        have : (gi (C_3 0) 23).toInt = (gi (K0 0) 21).toInt := congrArg Int32.toInt (show gi (C_3 0) 23 = (gi (K0 0) 21) by rw [e_4]; rfl)
        have : (gi (C_3 0) 13).toInt = (gi (K0 0) 13).toInt := congrArg Int32.toInt (show gi (C_3 0) 13 = gi (K0 0) 13 by rw [e_4]; rfl)
        have : (gi (C_6 0) 21).toInt = (gi (C_3 0) 21).toInt := congrArg Int32.toInt (show gi (C_6 0) 21 = gi (C_3 0) 21 by rw [e_7]; rfl)
        have : (gi (C_6 0) 7).toInt = (gi (C_3 0) 7).toInt := congrArg Int32.toInt (show gi (C_6 0) 7 = gi (C_3 0) 7 by rw [e_7]; rfl)
        have : (gi (C_6 0) 23).toInt = (gi (C_3 0) 23).toInt := congrArg Int32.toInt (show gi (C_6 0) 23 = gi (C_3 0) 23 by rw [e_7]; rfl)
        have : (gi (C_6 0) 13).toInt = (gi (C_3 0) 13).toInt := congrArg Int32.toInt (show gi (C_6 0) 13 = gi (C_3 0) 13 by rw [e_7]; rfl)
        have : (gi (C_107 0) 21).toInt = (gi (C_6 0) 21).toInt := congrArg Int32.toInt (show gi (C_107 0) 21 = gi (C_6 0) 21 by rw [e_108]; rfl)
        have : (gi (C_107 0) 7).toInt = (gi (C_6 0) 7).toInt := congrArg Int32.toInt (show gi (C_107 0) 7 = gi (C_6 0) 7 by rw [e_108]; rfl)
        have : (gi (C_107 0) 23).toInt = (gi (C_6 0) 23).toInt := congrArg Int32.toInt (show gi (C_107 0) 23 = gi (C_6 0) 23 by rw [e_108]; rfl)
        have : (gi (C_107 0) 13).toInt = (gi (C_6 0) 13).toInt := congrArg Int32.toInt (show gi (C_107 0) 13 = gi (C_6 0) 13 by rw [e_108]; rfl)
        have : 0 ≤ (gi (C 0) 21).toInt ∧ (gi (C 0) 21).toInt ≤ 250 := fM_0_21 hT0
        have : 0 ≤ (gi (C 0) 7).toInt ∧ (gi (C 0) 7).toInt ≤ 250 := fM_0_7 hT0
        have : 0 ≤ (gi (C 0) 23).toInt ∧ (gi (C 0) 23).toInt ≤ 250 := fM_0_23 hT0
        have : 0 ≤ (gi (C 0) 13).toInt ∧ (gi (C 0) 13).toInt ≤ 5 := fM_0_13 hT0
        have : 0 ≤ (gi (K0 0) 21).toInt ∧ (gi (K0 0) 21).toInt ≤ 250 := fM_0_21 t_1
        have : 0 ≤ (gi (K0 0) 7).toInt ∧ (gi (K0 0) 7).toInt ≤ 250 := fM_0_7 t_1
        have : 0 ≤ (gi (K0 0) 23).toInt ∧ (gi (K0 0) 23).toInt ≤ 250 := fM_0_23 t_1
        have : 0 ≤ (gi (K0 0) 13).toInt ∧ (gi (K0 0) 13).toInt ≤ 5 := fM_0_13 t_1
        have : 0 ≤ (gi (C_3 0) 21).toInt ∧ (gi (C_3 0) 21).toInt ≤ 250 := fM_0_21 t_5
        have : 0 ≤ (gi (C_3 0) 7).toInt ∧ (gi (C_3 0) 7).toInt ≤ 250 := fM_0_7 t_5
        have : 0 ≤ (gi (C_3 0) 23).toInt ∧ (gi (C_3 0) 23).toInt ≤ 250 := fM_0_23 t_5
        have : 0 ≤ (gi (C_3 0) 13).toInt ∧ (gi (C_3 0) 13).toInt ≤ 5 := fM_0_13 t_5
        have : 0 ≤ (gi (C_6 0) 21).toInt ∧ (gi (C_6 0) 21).toInt ≤ 250 := fM_0_21 t_8
        have : 0 ≤ (gi (C_6 0) 7).toInt ∧ (gi (C_6 0) 7).toInt ≤ 250 := fM_0_7 t_8
        have : 0 ≤ (gi (C_6 0) 23).toInt ∧ (gi (C_6 0) 23).toInt ≤ 250 := fM_0_23 t_8
        have : 0 ≤ (gi (C_6 0) 13).toInt ∧ (gi (C_6 0) 13).toInt ≤ 5 := fM_0_13 t_8
        have : 0 ≤ (gi (C_107 0) 21).toInt ∧ (gi (C_107 0) 21).toInt ≤ 250 := fM_0_21 t_109
        have : 0 ≤ (gi (C_107 0) 7).toInt ∧ (gi (C_107 0) 7).toInt ≤ 250 := fM_0_7 t_109
        have : 0 ≤ (gi (C_107 0) 23).toInt ∧ (gi (C_107 0) 23).toInt ≤ 250 := fM_0_23 t_109
        have : 0 ≤ (gi (C_107 0) 13).toInt ∧ (gi (C_107 0) 13).toInt ≤ 5 := fM_0_13 t_109
        have : (gi (C 0) 7).toInt ≤ (gi (K0 0) 21).toInt := Int32.le_iff_toInt_le.mp c_2
        have hS_110 : gi (K0 0) 21 = (upto pB (ga (C 7)) (gi (C 0) 7) (gi (C 0) 21)) := Eq.trans (upto_stop (p := pB) (fun h8 => absurd h8.1 (Int32.not_lt.mpr c_2))).symm hs_0
        have tk_111 := tk_end (f := ga (C 7)) (n := gi (C 0) 7) (S := (upto pB (ga (C 7)) (gi (C 0) 7) (gi (C 0) 21))) (upto_st (upto_stop (p := pL) (fun h8 => absurd h8.1 (by rw [← hS_110, c_9]; exact Int32.lt_irrefl)))) (upto_st (upto_stop (p := pD) (fun h8 => absurd h8.1 (by rw [← hS_110, c_9]; exact Int32.lt_irrefl)))) (by rw [← hS_110, c_9]; exact Int32.le_refl _)
        rw [hQ]
        exact W.vret hx hb hr (fun t ht hW => ⟨⟨C_107, rfl, ⟨hT, hF, ⟨⟨(by omega), (by omega), (by omega)⟩, (pm_mk (Eq.trans (show gi (C_107 0) 7 = gi (C_6 0) 7 by rw [e_108]; rfl) (Eq.trans (show gi (C_6 0) 7 = gi (C_3 0) 7 by rw [e_7]; rfl) (Eq.trans (show gi (C_3 0) 7 = gi (K0 0) 7 by rw [e_4]; rfl) (congrArg vi (hLF_0.2 7 (by decide)))))) (Eq.trans (show gi (C_107 0) 22 = (0 : Int32) by rw [e_108]; rfl) tk_111.1) (Eq.trans (Eq.trans (show gi (C_107 0) 23 = gi (C_6 0) 23 by rw [e_108]; rfl) (Eq.trans (show gi (C_6 0) 23 = gi (C_3 0) 23 by rw [e_7]; rfl) (show gi (C_3 0) 23 = (gi (K0 0) 21) by rw [e_4]; rfl))) hS_110) (Eq.trans (Eq.trans (show gi (C_107 0) 21 = gi (C_6 0) 21 by rw [e_108]; rfl) (Eq.trans (show gi (C_6 0) 21 = gi (C_3 0) 21 by rw [e_7]; rfl) (show gi (C_3 0) 21 = gi (K0 0) 21 by rw [e_4]; rfl))) (Eq.trans hS_110 tk_111.2))), (Eq.trans (Eq.trans (show gl (C_107 0) 24 = gl (C_6 0) 24 by rw [e_108]; rfl) (show gl (C_6 0) 24 = (0 : Int64) by rw [e_7]; rfl)) (pif_neg (fun h8 => absurd (Eq.trans (show gi (C_107 0) 22 = (0 : Int32) by rw [e_108]; rfl).symm h8) (by decide))).symm)⟩⟩, ⟨by rw [ht]; exact hP, hD⟩⟩, hS.F ht⟩) hS.2.2 dX7_look_267
    · refine lv_aload_n hx hb dX7_look_11 rfl (lv_at hl 0 rfl) ?_
      refine va_get (D := D) (ci := 7) (v := .ref (a 7)) (C := RX7) (T := TX7) (N := 29) hx hb htg ig_7 hown hK hP 0 (oh_wg (Nat.lt_of_lt_of_le (by decide) hn) (sM_0 hT)) rfl 6 (by decide) (htg _ q_979) (fun _ h9 => h9) rfl dX7_look_12 ?_
      refine lv_aload_n hx hb dX7_look_15 rfl (lv_at hl 0 rfl) ?_
      refine va_get (D := D) (ci := 7) (v := .int (gi (K0 0) 21)) (C := RX7) (T := TX7) (N := 29) hx hb htg ig_7 hown hK hP 0 (oh_wg (Nat.lt_of_lt_of_le (by decide) hn) (sM_0 hT)) rfl 21 (by decide) (htg _ q_994) (fun _ h9 => h9) rfl dX7_look_16 ?_
      have : (gi (K0 0) 7).toInt = (gi (C 0) 7).toInt := congrArg (fun z => (vi z).toInt) (hLF_0.2 7 (by decide))
      have : (gi (K0 0) 23).toInt = (gi (C 0) 23).toInt := congrArg (fun z => (vi z).toInt) (hLF_0.2 23 (by decide))
      have : (gi (K0 0) 13).toInt = (gi (C 0) 13).toInt := congrArg (fun z => (vi z).toInt) (hLF_0.2 13 (by decide))
      have : 0 ≤ (gi (C 0) 21).toInt ∧ (gi (C 0) 21).toInt ≤ 250 := fM_0_21 hT0
      have : 0 ≤ (gi (C 0) 7).toInt ∧ (gi (C 0) 7).toInt ≤ 250 := fM_0_7 hT0
      have : 0 ≤ (gi (C 0) 23).toInt ∧ (gi (C 0) 23).toInt ≤ 250 := fM_0_23 hT0
      have : 0 ≤ (gi (C 0) 13).toInt ∧ (gi (C 0) 13).toInt ≤ 5 := fM_0_13 hT0
      have : 0 ≤ (gi (K0 0) 21).toInt ∧ (gi (K0 0) 21).toInt ≤ 250 := fM_0_21 t_1
      have : 0 ≤ (gi (K0 0) 7).toInt ∧ (gi (K0 0) 7).toInt ≤ 250 := fM_0_7 t_1
      have : 0 ≤ (gi (K0 0) 23).toInt ∧ (gi (K0 0) 23).toInt ≤ 250 := fM_0_23 t_1
      have : 0 ≤ (gi (K0 0) 13).toInt ∧ (gi (K0 0) 13).toInt ≤ 5 := fM_0_13 t_1
      have : (gi (K0 0) 21).toInt < (gi (C 0) 7).toInt := Int32.lt_iff_toInt_lt.mp (Int32.not_le.mp c_2)
      have n_112 : vp_in (gi (K0 0) 21) 250 := (vp_in_iff.mpr ⟨by omega, by omega⟩)
      refine th_iald hx hb hK hP 7 (Nat.lt_of_lt_of_le (by decide) hn) (Eq.trans (hLF_0.1 7 rfl (by decide)) (sM_7 hT0)) n_112 dX7_look_19 ?_
      refine lv_bipush (v := 32) hx hb dX7_look_20 (by decide) ?_
      refine lv_icmp_ne (tgt := 38) hx hb dX7_look_22 (by decide) (fun (c_113 : ¬ ((ga (C 7) (gi (K0 0) 21).toNatClampNeg) = 32)) => ?_) (fun (c_113 : (ga (C 7) (gi (K0 0) 21).toNatClampNeg) = 32) => ?_)
      · refine lv_aload_n hx hb dX7_look_38 rfl (lv_at hl 0 rfl) ?_
        refine lv_aload_n hx hb dX7_look_39 rfl (lv_at hl 0 rfl) ?_
        refine va_get (D := D) (ci := 7) (v := .int (gi (K0 0) 21)) (C := RX7) (T := TX7) (N := 29) hx hb htg ig_7 hown hK hP 0 (oh_wg (Nat.lt_of_lt_of_le (by decide) hn) (sM_0 hT)) rfl 21 (by decide) (htg _ q_994) (fun _ h9 => h9) rfl dX7_look_40 ?_
        refine th_put (Tp := TyM a E) (Rl := fr [] [21, 22, 23, 24] C) (ci := 7) (v := .int (gi (K0 0) 21)) (ty := .int) (CC := RX7) (T := TX7) (N := 29) hx hb htg ig_7 tyX7 tyX7_ok nmX7 hown hK hP hD hS 0 (Nat.lt_of_lt_of_le (by decide) hn) (sM_0 hT) rfl 23 (by decide) (htg _ q_996) (fun _ h9 => h9) rfl (by decide +kernel) rfl rfl (Nat.le_of_ble_eq_true rfl) (hT.up 0 (by decide) ⟨rfl, (fM_0_7 hT), (fM_0_9 hT), (fM_0_11 hT), (fM_0_13 hT), (fM_0_15 hT), (fM_0_21 hT), (rg_w (rn_ltu (u' := 249) (Int32.not_le.mp c_2) (fM_0_21 t_1) (fM_0_7 hT0) (by decide)) (by decide))⟩) (fr_fd hF (sM_0 hT) (by decide)) dX7_look_43 (fun C_114 H locs e_115 hT hF hP hD hS => ?_)
        have t_116 := hT
        refine lv_aload_n hx hb dX7_look_46 rfl (lv_at hl 0 rfl) ?_
        refine lv_lconst (v := 0) hx hb dX7_look_47 (by decide) ?_
        refine th_put (Tp := TyM a E) (Rl := fr [] [21, 22, 23, 24] C) (ci := 7) (v := .long 0) (ty := .long) (CC := RX7) (T := TX7) (N := 29) hx hb htg ig_7 tyX7 tyX7_ok nmX7 hown hK hP hD hS 0 (Nat.lt_of_lt_of_le (by decide) hn) (sM_0 hT) rfl 24 (by decide) (htg _ q_997) (fun _ h9 => h9) rfl (by decide +kernel) rfl rfl (Nat.le_of_ble_eq_true rfl) (hT.up 0 (by decide) ⟨rfl, (fM_0_7 hT), (fM_0_9 hT), (fM_0_11 hT), (fM_0_13 hT), (fM_0_15 hT), (fM_0_21 hT), (fM_0_23 hT)⟩) (fr_fd hF (sM_0 hT) (by decide)) dX7_look_48 (fun C_117 H locs e_118 hT hF hP hD hS => ?_)
        have t_119 := hT
        refine lv_aload_n hx hb dX7_look_51 rfl (lv_at hl 0 rfl) ?_
        refine va_get (D := D) (ci := 7) (v := .int (gi (K0 0) 21)) (C := RX7) (T := TX7) (N := 29) hx hb htg ig_7 hown hK hP 0 (oh_wg (Nat.lt_of_lt_of_le (by decide) hn) (sM_0 hT)) rfl 21 (by decide) (htg _ q_994) (fun _ h9 => h9) (oh_fv (c := C_117 0) (j := 21) rfl (Eq.trans (show gi (C_117 0) 21 = gi (C_114 0) 21 by rw [e_118]; rfl) (show gi (C_114 0) 21 = gi (K0 0) 21 by rw [e_115]; rfl))) dX7_look_52 ?_
        refine lv_aload_n hx hb dX7_look_55 rfl (lv_at hl 0 rfl) ?_
        refine va_get (D := D) (ci := 7) (v := .int (gi (C 0) 7)) (C := RX7) (T := TX7) (N := 29) hx hb htg ig_7 hown hK hP 0 (oh_wg (Nat.lt_of_lt_of_le (by decide) hn) (sM_0 hT)) rfl 7 (by decide) (htg _ q_980) (fun _ h9 => h9) (oh_fv (c := C_117 0) (j := 7) rfl (Eq.trans (show gi (C_117 0) 7 = gi (C_114 0) 7 by rw [e_118]; rfl) (Eq.trans (show gi (C_114 0) 7 = gi (K0 0) 7 by rw [e_115]; rfl) (congrArg vi (hLF_0.2 7 (by decide)))))) dX7_look_56 ?_
        refine lv_icmp_ne (tgt := 70) hx hb dX7_look_59 (by decide) (fun (c_120 : ¬ ((gi (K0 0) 21) = (gi (C 0) 7))) => ?_) (fun (c_120 : (gi (K0 0) 21) = (gi (C 0) 7)) => ?_)
        · refine lv_aload_n hx hb dX7_look_70 rfl (lv_at hl 0 rfl) ?_
          refine va_get (D := D) (ci := 7) (v := .ref (a 7)) (C := RX7) (T := TX7) (N := 29) hx hb htg ig_7 hown hK hP 0 (oh_wg (Nat.lt_of_lt_of_le (by decide) hn) (sM_0 hT)) rfl 6 (by decide) (htg _ q_979) (fun _ h9 => h9) rfl dX7_look_71 ?_
          refine lv_aload_n hx hb dX7_look_74 rfl (lv_at hl 0 rfl) ?_
          refine va_get (D := D) (ci := 7) (v := .int (gi (K0 0) 21)) (C := RX7) (T := TX7) (N := 29) hx hb htg ig_7 hown hK hP 0 (oh_wg (Nat.lt_of_lt_of_le (by decide) hn) (sM_0 hT)) rfl 21 (by decide) (htg _ q_994) (fun _ h9 => h9) (oh_fv (c := C_117 0) (j := 21) rfl (Eq.trans (show gi (C_117 0) 21 = gi (C_114 0) 21 by rw [e_118]; rfl) (show gi (C_114 0) 21 = gi (K0 0) 21 by rw [e_115]; rfl))) dX7_look_75 ?_
          have : (gi (C_114 0) 21).toInt = (gi (K0 0) 21).toInt := congrArg Int32.toInt (show gi (C_114 0) 21 = gi (K0 0) 21 by rw [e_115]; rfl)
          have : (gi (C_114 0) 7).toInt = (gi (K0 0) 7).toInt := congrArg Int32.toInt (show gi (C_114 0) 7 = gi (K0 0) 7 by rw [e_115]; rfl)
          have : (gi (C_114 0) 23).toInt = (gi (K0 0) 21).toInt := congrArg Int32.toInt (show gi (C_114 0) 23 = (gi (K0 0) 21) by rw [e_115]; rfl)
          have : (gi (C_114 0) 13).toInt = (gi (K0 0) 13).toInt := congrArg Int32.toInt (show gi (C_114 0) 13 = gi (K0 0) 13 by rw [e_115]; rfl)
          have : (gi (C_117 0) 21).toInt = (gi (C_114 0) 21).toInt := congrArg Int32.toInt (show gi (C_117 0) 21 = gi (C_114 0) 21 by rw [e_118]; rfl)
          have : (gi (C_117 0) 7).toInt = (gi (C_114 0) 7).toInt := congrArg Int32.toInt (show gi (C_117 0) 7 = gi (C_114 0) 7 by rw [e_118]; rfl)
          have : (gi (C_117 0) 23).toInt = (gi (C_114 0) 23).toInt := congrArg Int32.toInt (show gi (C_117 0) 23 = gi (C_114 0) 23 by rw [e_118]; rfl)
          have : (gi (C_117 0) 13).toInt = (gi (C_114 0) 13).toInt := congrArg Int32.toInt (show gi (C_117 0) 13 = gi (C_114 0) 13 by rw [e_118]; rfl)
          have : 0 ≤ (gi (C_114 0) 21).toInt ∧ (gi (C_114 0) 21).toInt ≤ 250 := fM_0_21 t_116
          have : 0 ≤ (gi (C_114 0) 7).toInt ∧ (gi (C_114 0) 7).toInt ≤ 250 := fM_0_7 t_116
          have : 0 ≤ (gi (C_114 0) 23).toInt ∧ (gi (C_114 0) 23).toInt ≤ 250 := fM_0_23 t_116
          have : 0 ≤ (gi (C_114 0) 13).toInt ∧ (gi (C_114 0) 13).toInt ≤ 5 := fM_0_13 t_116
          have : 0 ≤ (gi (C_117 0) 21).toInt ∧ (gi (C_117 0) 21).toInt ≤ 250 := fM_0_21 t_119
          have : 0 ≤ (gi (C_117 0) 7).toInt ∧ (gi (C_117 0) 7).toInt ≤ 250 := fM_0_7 t_119
          have : 0 ≤ (gi (C_117 0) 23).toInt ∧ (gi (C_117 0) 23).toInt ≤ 250 := fM_0_23 t_119
          have : 0 ≤ (gi (C_117 0) 13).toInt ∧ (gi (C_117 0) 13).toInt ≤ 5 := fM_0_13 t_119
          have : ¬ (gi (K0 0) 21).toInt = (gi (C 0) 7).toInt := fun h7 => c_120 (Int32.toInt_inj.mp h7)
          have n_121 : vp_in (gi (K0 0) 21) 250 := (vp_in_iff.mpr ⟨by omega, by omega⟩)
          refine th_iald hx hb hK hP 7 (Nat.lt_of_lt_of_le (by decide) hn) (Eq.trans (Eq.trans (th_un e_118 (by decide)) (Eq.trans (th_un e_115 (by decide)) (hLF_0.1 7 rfl (by decide)))) (sM_7 hT0)) n_121 dX7_look_78 ?_
          refine tq_S (As := [.int (ga (C 7) (gi (K0 0) 21).toNatClampNeg)]) (rest := []) (ws := []) ⟨hx, hb, hml, hown, htg⟩ (e_X7_isLetter l D E G (ga (C 7) (gi (K0 0) 21).toNatClampNeg)) (va_cwS 1 htg (oh_gS q_1201 q_1202 q_73 q_1203) rfl rfl rfl pdX7_isLetter ⟨Nat.le_of_ble_eq_true rfl, Nat.le_of_ble_eq_true rfl⟩) hK va_nil hG hS rfl hl.1 rfl (Nat.le_of_ble_eq_true rfl) dX7_look_79 ⟨Nat.le_of_ble_eq_true rfl, Nat.le_of_ble_eq_true rfl⟩ (fun r_122 hq_123 => ?_)
          refine lv_if_eq (tgt := 129) hx hb dX7_look_82 (by decide) (fun (c_124 : r_122 = 0) => ?_) (fun (c_124 : ¬ (r_122 = 0)) => ?_)
          · have u_125 := hq_123.2.2 c_124
            refine lv_aload_n hx hb dX7_look_129 rfl (lv_at hl 0 rfl) ?_
            refine va_get (D := D) (ci := 7) (v := .ref (a 7)) (C := RX7) (T := TX7) (N := 29) hx hb htg ig_7 hown hK hP 0 (oh_wg (Nat.lt_of_lt_of_le (by decide) hn) (sM_0 hT)) rfl 6 (by decide) (htg _ q_979) (fun _ h9 => h9) rfl dX7_look_130 ?_
            refine lv_aload_n hx hb dX7_look_133 rfl (lv_at hl 0 rfl) ?_
            refine va_get (D := D) (ci := 7) (v := .int (gi (K0 0) 21)) (C := RX7) (T := TX7) (N := 29) hx hb htg ig_7 hown hK hP 0 (oh_wg (Nat.lt_of_lt_of_le (by decide) hn) (sM_0 hT)) rfl 21 (by decide) (htg _ q_994) (fun _ h9 => h9) (oh_fv (c := C_117 0) (j := 21) rfl (Eq.trans (show gi (C_117 0) 21 = gi (C_114 0) 21 by rw [e_118]; rfl) (show gi (C_114 0) 21 = gi (K0 0) 21 by rw [e_115]; rfl))) dX7_look_134 ?_
            have n_126 : vp_in (gi (K0 0) 21) 250 := (vp_in_iff.mpr ⟨by omega, by omega⟩)
            refine th_iald hx hb hK hP 7 (Nat.lt_of_lt_of_le (by decide) hn) (Eq.trans (Eq.trans (th_un e_118 (by decide)) (Eq.trans (th_un e_115 (by decide)) (hLF_0.1 7 rfl (by decide)))) (sM_7 hT0)) n_126 dX7_look_137 ?_
            refine tq_S (As := [.int (ga (C 7) (gi (K0 0) 21).toNatClampNeg)]) (rest := []) (ws := []) ⟨hx, hb, hml, hown, htg⟩ (e_X7_isDigit l D E G (ga (C 7) (gi (K0 0) 21).toNatClampNeg)) (va_cwS 1 htg (oh_gS q_1204 q_1205 q_73 q_1206) rfl rfl rfl pdX7_isDigit ⟨Nat.le_of_ble_eq_true rfl, Nat.le_of_ble_eq_true rfl⟩) hK va_nil hG hS rfl hl.1 rfl (Nat.le_of_ble_eq_true rfl) dX7_look_138 ⟨Nat.le_of_ble_eq_true rfl, Nat.le_of_ble_eq_true rfl⟩ (fun r_127 hq_128 => ?_)
            refine lv_if_eq (tgt := 234) hx hb dX7_look_141 (by decide) (fun (c_129 : r_127 = 0) => ?_) (fun (c_129 : ¬ (r_127 = 0)) => ?_)
            · have u_130 := hq_128.2.2 c_129
              refine lv_aload_n hx hb dX7_look_234 rfl (lv_at hl 0 rfl) ?_
              refine lv_aload_n hx hb dX7_look_235 rfl (lv_at hl 0 rfl) ?_
              refine va_get (D := D) (ci := 7) (v := .ref (a 7)) (C := RX7) (T := TX7) (N := 29) hx hb htg ig_7 hown hK hP 0 (oh_wg (Nat.lt_of_lt_of_le (by decide) hn) (sM_0 hT)) rfl 6 (by decide) (htg _ q_979) (fun _ h9 => h9) rfl dX7_look_236 ?_
              refine lv_aload_n hx hb dX7_look_239 rfl (lv_at hl 0 rfl) ?_
              refine va_get (D := D) (ci := 7) (v := .int (gi (K0 0) 21)) (C := RX7) (T := TX7) (N := 29) hx hb htg ig_7 hown hK hP 0 (oh_wg (Nat.lt_of_lt_of_le (by decide) hn) (sM_0 hT)) rfl 21 (by decide) (htg _ q_994) (fun _ h9 => h9) (oh_fv (c := C_117 0) (j := 21) rfl (Eq.trans (show gi (C_117 0) 21 = gi (C_114 0) 21 by rw [e_118]; rfl) (show gi (C_114 0) 21 = gi (K0 0) 21 by rw [e_115]; rfl))) dX7_look_240 ?_
              have n_131 : vp_in (gi (K0 0) 21) 250 := (vp_in_iff.mpr ⟨by omega, by omega⟩)
              refine th_iald hx hb hK hP 7 (Nat.lt_of_lt_of_le (by decide) hn) (Eq.trans (Eq.trans (th_un e_118 (by decide)) (Eq.trans (th_un e_115 (by decide)) (hLF_0.1 7 rfl (by decide)))) (sM_7 hT0)) n_131 dX7_look_243 ?_
              refine lv_bipush (v := 59) hx hb dX7_look_244 (by decide) ?_
              refine lv_icmp_ne (tgt := 253) hx hb dX7_look_246 (by decide) (fun (c_132 : ¬ ((ga (C 7) (gi (K0 0) 21).toNatClampNeg) = 59)) => ?_) (fun (c_132 : (ga (C 7) (gi (K0 0) 21).toNatClampNeg) = 59) => ?_)
              · refine lv_iconst (v := 4) hx hb dX7_look_253 (by decide) ?_
                refine th_put (Tp := TyM a E) (Rl := fr [] [21, 22, 23, 24] C) (ci := 7) (v := .int 4) (ty := .int) (CC := RX7) (T := TX7) (N := 29) hx hb htg ig_7 tyX7 tyX7_ok nmX7 hown hK hP hD hS 0 (Nat.lt_of_lt_of_le (by decide) hn) (sM_0 hT) rfl 22 (by decide) (htg _ q_995) (fun _ h9 => h9) rfl (by decide +kernel) rfl rfl (Nat.le_of_ble_eq_true rfl) (hT.up 0 (by decide) ⟨rfl, (fM_0_7 hT), (fM_0_9 hT), (fM_0_11 hT), (fM_0_13 hT), (fM_0_15 hT), (fM_0_21 hT), (fM_0_23 hT)⟩) (fr_fd hF (sM_0 hT) (by decide)) dX7_look_254 (fun C_133 H locs e_134 hT hF hP hD hS => ?_)
                have t_135 := hT
                refine lv_aload_n hx hb dX7_look_257 rfl (lv_at hl 0 rfl) ?_
                refine lv_dup hx hb dX7_look_258 rfl ?_
                refine va_get (D := D) (ci := 7) (v := .int (gi (K0 0) 21)) (C := RX7) (T := TX7) (N := 29) hx hb htg ig_7 hown hK hP 0 (oh_wg (Nat.lt_of_lt_of_le (by decide) hn) (sM_0 hT)) rfl 21 (by decide) (htg _ q_994) (fun _ h9 => h9) (oh_fv (c := C_133 0) (j := 21) rfl (Eq.trans (show gi (C_133 0) 21 = gi (C_117 0) 21 by rw [e_134]; rfl) (Eq.trans (show gi (C_117 0) 21 = gi (C_114 0) 21 by rw [e_118]; rfl) (show gi (C_114 0) 21 = gi (K0 0) 21 by rw [e_115]; rfl)))) dX7_look_259 ?_
                refine lv_iconst (v := 1) hx hb dX7_look_262 (by decide) ?_
                refine lv_iadd hx hb dX7_look_263 ?_
                have : (gi (C_133 0) 21).toInt = (gi (C_117 0) 21).toInt := congrArg Int32.toInt (show gi (C_133 0) 21 = gi (C_117 0) 21 by rw [e_134]; rfl)
                have : (gi (C_133 0) 7).toInt = (gi (C_117 0) 7).toInt := congrArg Int32.toInt (show gi (C_133 0) 7 = gi (C_117 0) 7 by rw [e_134]; rfl)
                have : (gi (C_133 0) 23).toInt = (gi (C_117 0) 23).toInt := congrArg Int32.toInt (show gi (C_133 0) 23 = gi (C_117 0) 23 by rw [e_134]; rfl)
                have : (gi (C_133 0) 13).toInt = (gi (C_117 0) 13).toInt := congrArg Int32.toInt (show gi (C_133 0) 13 = gi (C_117 0) 13 by rw [e_134]; rfl)
                have : 0 ≤ (gi (C_133 0) 21).toInt ∧ (gi (C_133 0) 21).toInt ≤ 250 := fM_0_21 t_135
                have : 0 ≤ (gi (C_133 0) 7).toInt ∧ (gi (C_133 0) 7).toInt ≤ 250 := fM_0_7 t_135
                have : 0 ≤ (gi (C_133 0) 23).toInt ∧ (gi (C_133 0) 23).toInt ≤ 250 := fM_0_23 t_135
                have : 0 ≤ (gi (C_133 0) 13).toInt ∧ (gi (C_133 0) 13).toInt ≤ 5 := fM_0_13 t_135
                have hpf_264 : rg (gi (K0 0) 21) 0 249 := ⟨by omega, by omega⟩
                refine th_put (Tp := TyM a E) (Rl := fr [] [21, 22, 23, 24] C) (ci := 7) (v := .int ((gi (K0 0) 21) + 1)) (ty := .int) (CC := RX7) (T := TX7) (N := 29) hx hb htg ig_7 tyX7 tyX7_ok nmX7 hown hK hP hD hS 0 (Nat.lt_of_lt_of_le (by decide) hn) (sM_0 hT) rfl 21 (by decide) (htg _ q_994) (fun _ h9 => h9) rfl (by decide +kernel) rfl rfl (Nat.le_of_ble_eq_true rfl) (hT.up 0 (by decide) ⟨rfl, (fM_0_7 hT), (fM_0_9 hT), (fM_0_11 hT), (fM_0_13 hT), (fM_0_15 hT), (rg_w (rg_add (lo := 1) (hi := 250) hpf_264 (rg_c (v := 1) (lo := 1) (hi := 1) (by decide)) (by decide)) (by decide)), (fM_0_23 hT)⟩) (fr_fd hF (sM_0 hT) (by decide)) dX7_look_264 (fun C_136 H locs e_137 hT hF hP hD hS => ?_)
                have t_138 := hT
                have : (gi (C_136 0) 21).toInt = ((gi (K0 0) 21) + 1).toInt := congrArg Int32.toInt (show gi (C_136 0) 21 = ((gi (K0 0) 21) + 1) by rw [e_137]; rfl)
                have : ((gi (K0 0) 21) + 1).toInt = (gi (K0 0) 21).toInt + 1 := oh_incr (rn_ltu (u' := 249) (Int32.not_le.mp c_2) (fM_0_21 t_1) (fM_0_7 hT0) (by decide)) (by decide)
                have : (gi (C_136 0) 7).toInt = (gi (C_133 0) 7).toInt := congrArg Int32.toInt (show gi (C_136 0) 7 = gi (C_133 0) 7 by rw [e_137]; rfl)
                have : (gi (C_136 0) 23).toInt = (gi (C_133 0) 23).toInt := congrArg Int32.toInt (show gi (C_136 0) 23 = gi (C_133 0) 23 by rw [e_137]; rfl)
                have : (gi (C_136 0) 13).toInt = (gi (C_133 0) 13).toInt := congrArg Int32.toInt (show gi (C_136 0) 13 = gi (C_133 0) 13 by rw [e_137]; rfl)
                have : 0 ≤ (gi (C_136 0) 21).toInt ∧ (gi (C_136 0) 21).toInt ≤ 250 := fM_0_21 t_138
                have : 0 ≤ (gi (C_136 0) 7).toInt ∧ (gi (C_136 0) 7).toInt ≤ 250 := fM_0_7 t_138
                have : 0 ≤ (gi (C_136 0) 23).toInt ∧ (gi (C_136 0) 23).toInt ≤ 250 := fM_0_23 t_138
                have : 0 ≤ (gi (C_136 0) 13).toInt ∧ (gi (C_136 0) 13).toInt ≤ 5 := fM_0_13 t_138
                have hS_139 : gi (K0 0) 21 = (upto pB (ga (C 7)) (gi (C 0) 7) (gi (C 0) 21)) := Eq.trans (upto_stop (p := pB) (fun h8 => c_113 h8.2)).symm hs_0
                have hl_141 : (upto pB (ga (C 7)) (gi (C 0) 7) (gi (C 0) 21)) < gi (C 0) 7 := by rw [← hS_139]; exact Int32.lt_iff_toInt_lt.mpr (by omega)
                have tk_140 := tk_wrg (S := (upto pB (ga (C 7)) (gi (C 0) 7) (gi (C 0) 21))) (upto_st (upto_stop (p := pL) (fun h8 => u_125 (by have h7 := h8.2; rw [← hS_139] at h7; exact h7)))) (upto_st (upto_stop (p := pD) (fun h8 => u_130 (by have h7 := h8.2; rw [← hS_139] at h7; exact h7)))) (Int32.not_le.mpr hl_141) (by rw [← hS_139]; exact c_132)
                rw [hQ]
                exact W.vret hx hb hr (fun t ht hW => ⟨⟨C_136, rfl, ⟨hT, hF, ⟨⟨(by omega), (by omega), (by omega)⟩, (pm_mk (Eq.trans (show gi (C_136 0) 7 = gi (C_133 0) 7 by rw [e_137]; rfl) (Eq.trans (show gi (C_133 0) 7 = gi (C_117 0) 7 by rw [e_134]; rfl) (Eq.trans (show gi (C_117 0) 7 = gi (C_114 0) 7 by rw [e_118]; rfl) (Eq.trans (show gi (C_114 0) 7 = gi (K0 0) 7 by rw [e_115]; rfl) (congrArg vi (hLF_0.2 7 (by decide))))))) (Eq.trans (Eq.trans (show gi (C_136 0) 22 = gi (C_133 0) 22 by rw [e_137]; rfl) (show gi (C_133 0) 22 = (4 : Int32) by rw [e_134]; rfl)) tk_140.1) (Eq.trans (Eq.trans (show gi (C_136 0) 23 = gi (C_133 0) 23 by rw [e_137]; rfl) (Eq.trans (show gi (C_133 0) 23 = gi (C_117 0) 23 by rw [e_134]; rfl) (Eq.trans (show gi (C_117 0) 23 = gi (C_114 0) 23 by rw [e_118]; rfl) (show gi (C_114 0) 23 = (gi (K0 0) 21) by rw [e_115]; rfl)))) hS_139) (Eq.trans (show gi (C_136 0) 21 = ((gi (K0 0) 21) + 1) by rw [e_137]; rfl) (Eq.trans (congrArg (fun z => z + 1) hS_139) tk_140.2))), (Eq.trans (Eq.trans (show gl (C_136 0) 24 = gl (C_133 0) 24 by rw [e_137]; rfl) (Eq.trans (show gl (C_133 0) 24 = gl (C_117 0) 24 by rw [e_134]; rfl) (show gl (C_117 0) 24 = (0 : Int64) by rw [e_118]; rfl))) (pif_neg (fun h8 => absurd (Eq.trans (Eq.trans (show gi (C_136 0) 22 = gi (C_133 0) 22 by rw [e_137]; rfl) (show gi (C_133 0) 22 = (4 : Int32) by rw [e_134]; rfl)).symm h8) (by decide))).symm)⟩⟩, ⟨by rw [ht]; exact hP, hD⟩⟩, hS.F ht⟩) hS.2.2 dX7_look_267
              · refine lv_iconst (v := 3) hx hb dX7_look_249 (by decide) ?_
                refine lv_goto (tgt := 254) hx hb dX7_look_250 (by decide) ?_
                refine th_put (Tp := TyM a E) (Rl := fr [] [21, 22, 23, 24] C) (ci := 7) (v := .int 3) (ty := .int) (CC := RX7) (T := TX7) (N := 29) hx hb htg ig_7 tyX7 tyX7_ok nmX7 hown hK hP hD hS 0 (Nat.lt_of_lt_of_le (by decide) hn) (sM_0 hT) rfl 22 (by decide) (htg _ q_995) (fun _ h9 => h9) rfl (by decide +kernel) rfl rfl (Nat.le_of_ble_eq_true rfl) (hT.up 0 (by decide) ⟨rfl, (fM_0_7 hT), (fM_0_9 hT), (fM_0_11 hT), (fM_0_13 hT), (fM_0_15 hT), (fM_0_21 hT), (fM_0_23 hT)⟩) (fr_fd hF (sM_0 hT) (by decide)) dX7_look_254 (fun C_142 H locs e_143 hT hF hP hD hS => ?_)
                have t_144 := hT
                refine lv_aload_n hx hb dX7_look_257 rfl (lv_at hl 0 rfl) ?_
                refine lv_dup hx hb dX7_look_258 rfl ?_
                refine va_get (D := D) (ci := 7) (v := .int (gi (K0 0) 21)) (C := RX7) (T := TX7) (N := 29) hx hb htg ig_7 hown hK hP 0 (oh_wg (Nat.lt_of_lt_of_le (by decide) hn) (sM_0 hT)) rfl 21 (by decide) (htg _ q_994) (fun _ h9 => h9) (oh_fv (c := C_142 0) (j := 21) rfl (Eq.trans (show gi (C_142 0) 21 = gi (C_117 0) 21 by rw [e_143]; rfl) (Eq.trans (show gi (C_117 0) 21 = gi (C_114 0) 21 by rw [e_118]; rfl) (show gi (C_114 0) 21 = gi (K0 0) 21 by rw [e_115]; rfl)))) dX7_look_259 ?_
                refine lv_iconst (v := 1) hx hb dX7_look_262 (by decide) ?_
                refine lv_iadd hx hb dX7_look_263 ?_
                have : (gi (C_142 0) 21).toInt = (gi (C_117 0) 21).toInt := congrArg Int32.toInt (show gi (C_142 0) 21 = gi (C_117 0) 21 by rw [e_143]; rfl)
                have : (gi (C_142 0) 7).toInt = (gi (C_117 0) 7).toInt := congrArg Int32.toInt (show gi (C_142 0) 7 = gi (C_117 0) 7 by rw [e_143]; rfl)
                have : (gi (C_142 0) 23).toInt = (gi (C_117 0) 23).toInt := congrArg Int32.toInt (show gi (C_142 0) 23 = gi (C_117 0) 23 by rw [e_143]; rfl)
                have : (gi (C_142 0) 13).toInt = (gi (C_117 0) 13).toInt := congrArg Int32.toInt (show gi (C_142 0) 13 = gi (C_117 0) 13 by rw [e_143]; rfl)
                have : 0 ≤ (gi (C_142 0) 21).toInt ∧ (gi (C_142 0) 21).toInt ≤ 250 := fM_0_21 t_144
                have : 0 ≤ (gi (C_142 0) 7).toInt ∧ (gi (C_142 0) 7).toInt ≤ 250 := fM_0_7 t_144
                have : 0 ≤ (gi (C_142 0) 23).toInt ∧ (gi (C_142 0) 23).toInt ≤ 250 := fM_0_23 t_144
                have : 0 ≤ (gi (C_142 0) 13).toInt ∧ (gi (C_142 0) 13).toInt ≤ 5 := fM_0_13 t_144
                have hpf_264 : rg (gi (K0 0) 21) 0 249 := ⟨by omega, by omega⟩
                refine th_put (Tp := TyM a E) (Rl := fr [] [21, 22, 23, 24] C) (ci := 7) (v := .int ((gi (K0 0) 21) + 1)) (ty := .int) (CC := RX7) (T := TX7) (N := 29) hx hb htg ig_7 tyX7 tyX7_ok nmX7 hown hK hP hD hS 0 (Nat.lt_of_lt_of_le (by decide) hn) (sM_0 hT) rfl 21 (by decide) (htg _ q_994) (fun _ h9 => h9) rfl (by decide +kernel) rfl rfl (Nat.le_of_ble_eq_true rfl) (hT.up 0 (by decide) ⟨rfl, (fM_0_7 hT), (fM_0_9 hT), (fM_0_11 hT), (fM_0_13 hT), (fM_0_15 hT), (rg_w (rg_add (lo := 1) (hi := 250) hpf_264 (rg_c (v := 1) (lo := 1) (hi := 1) (by decide)) (by decide)) (by decide)), (fM_0_23 hT)⟩) (fr_fd hF (sM_0 hT) (by decide)) dX7_look_264 (fun C_145 H locs e_146 hT hF hP hD hS => ?_)
                have t_147 := hT
                have : (gi (C_145 0) 21).toInt = ((gi (K0 0) 21) + 1).toInt := congrArg Int32.toInt (show gi (C_145 0) 21 = ((gi (K0 0) 21) + 1) by rw [e_146]; rfl)
                have : ((gi (K0 0) 21) + 1).toInt = (gi (K0 0) 21).toInt + 1 := oh_incr (rn_ltu (u' := 249) (Int32.not_le.mp c_2) (fM_0_21 t_1) (fM_0_7 hT0) (by decide)) (by decide)
                have : (gi (C_145 0) 7).toInt = (gi (C_142 0) 7).toInt := congrArg Int32.toInt (show gi (C_145 0) 7 = gi (C_142 0) 7 by rw [e_146]; rfl)
                have : (gi (C_145 0) 23).toInt = (gi (C_142 0) 23).toInt := congrArg Int32.toInt (show gi (C_145 0) 23 = gi (C_142 0) 23 by rw [e_146]; rfl)
                have : (gi (C_145 0) 13).toInt = (gi (C_142 0) 13).toInt := congrArg Int32.toInt (show gi (C_145 0) 13 = gi (C_142 0) 13 by rw [e_146]; rfl)
                have : 0 ≤ (gi (C_145 0) 21).toInt ∧ (gi (C_145 0) 21).toInt ≤ 250 := fM_0_21 t_147
                have : 0 ≤ (gi (C_145 0) 7).toInt ∧ (gi (C_145 0) 7).toInt ≤ 250 := fM_0_7 t_147
                have : 0 ≤ (gi (C_145 0) 23).toInt ∧ (gi (C_145 0) 23).toInt ≤ 250 := fM_0_23 t_147
                have : 0 ≤ (gi (C_145 0) 13).toInt ∧ (gi (C_145 0) 13).toInt ≤ 5 := fM_0_13 t_147
                have hS_148 : gi (K0 0) 21 = (upto pB (ga (C 7)) (gi (C 0) 7) (gi (C 0) 21)) := Eq.trans (upto_stop (p := pB) (fun h8 => c_113 h8.2)).symm hs_0
                have hl_150 : (upto pB (ga (C 7)) (gi (C 0) 7) (gi (C 0) 21)) < gi (C 0) 7 := by rw [← hS_148]; exact Int32.lt_iff_toInt_lt.mpr (by omega)
                have tk_149 := tk_sgn (S := (upto pB (ga (C 7)) (gi (C 0) 7) (gi (C 0) 21))) (upto_st (upto_stop (p := pL) (fun h8 => u_125 (by have h7 := h8.2; rw [← hS_148] at h7; exact h7)))) (upto_st (upto_stop (p := pD) (fun h8 => u_130 (by have h7 := h8.2; rw [← hS_148] at h7; exact h7)))) (Int32.not_le.mpr hl_150) (by rw [← hS_148]; exact c_132)
                rw [hQ]
                exact W.vret hx hb hr (fun t ht hW => ⟨⟨C_145, rfl, ⟨hT, hF, ⟨⟨(by omega), (by omega), (by omega)⟩, (pm_mk (Eq.trans (show gi (C_145 0) 7 = gi (C_142 0) 7 by rw [e_146]; rfl) (Eq.trans (show gi (C_142 0) 7 = gi (C_117 0) 7 by rw [e_143]; rfl) (Eq.trans (show gi (C_117 0) 7 = gi (C_114 0) 7 by rw [e_118]; rfl) (Eq.trans (show gi (C_114 0) 7 = gi (K0 0) 7 by rw [e_115]; rfl) (congrArg vi (hLF_0.2 7 (by decide))))))) (Eq.trans (Eq.trans (show gi (C_145 0) 22 = gi (C_142 0) 22 by rw [e_146]; rfl) (show gi (C_142 0) 22 = (3 : Int32) by rw [e_143]; rfl)) tk_149.1) (Eq.trans (Eq.trans (show gi (C_145 0) 23 = gi (C_142 0) 23 by rw [e_146]; rfl) (Eq.trans (show gi (C_142 0) 23 = gi (C_117 0) 23 by rw [e_143]; rfl) (Eq.trans (show gi (C_117 0) 23 = gi (C_114 0) 23 by rw [e_118]; rfl) (show gi (C_114 0) 23 = (gi (K0 0) 21) by rw [e_115]; rfl)))) hS_148) (Eq.trans (show gi (C_145 0) 21 = ((gi (K0 0) 21) + 1) by rw [e_146]; rfl) (Eq.trans (congrArg (fun z => z + 1) hS_148) tk_149.2))), (Eq.trans (Eq.trans (show gl (C_145 0) 24 = gl (C_142 0) 24 by rw [e_146]; rfl) (Eq.trans (show gl (C_142 0) 24 = gl (C_117 0) 24 by rw [e_143]; rfl) (show gl (C_117 0) 24 = (0 : Int64) by rw [e_118]; rfl))) (pif_neg (fun h8 => absurd (Eq.trans (Eq.trans (show gi (C_145 0) 22 = gi (C_142 0) 22 by rw [e_146]; rfl) (show gi (C_142 0) 22 = (3 : Int32) by rw [e_143]; rfl)).symm h8) (by decide))).symm)⟩⟩, ⟨by rw [ht]; exact hP, hD⟩⟩, hS.F ht⟩) hS.2.2 dX7_look_267
            · have u_151 := hq_128.2.1 c_129
              refine lv_aload_n hx hb dX7_look_144 rfl (lv_at hl 0 rfl) ?_
              refine lv_iconst (v := 2) hx hb dX7_look_145 (by decide) ?_
              refine th_put (Tp := TyM a E) (Rl := fr [] [21, 22, 23, 24] C) (ci := 7) (v := .int 2) (ty := .int) (CC := RX7) (T := TX7) (N := 29) hx hb htg ig_7 tyX7 tyX7_ok nmX7 hown hK hP hD hS 0 (Nat.lt_of_lt_of_le (by decide) hn) (sM_0 hT) rfl 22 (by decide) (htg _ q_995) (fun _ h9 => h9) rfl (by decide +kernel) rfl rfl (Nat.le_of_ble_eq_true rfl) (hT.up 0 (by decide) ⟨rfl, (fM_0_7 hT), (fM_0_9 hT), (fM_0_11 hT), (fM_0_13 hT), (fM_0_15 hT), (fM_0_21 hT), (fM_0_23 hT)⟩) (fr_fd hF (sM_0 hT) (by decide)) dX7_look_146 (fun C_152 H locs e_153 hT hF hP hD hS => ?_)
              have t_154 := hT
              have L_149 : ∀ (d : Nat) (K149 : Nat → va_E) (H : Heap) (locs : List Loc) (ls : Array Slot), (250 - (gi (K149 0) 21).toInt).toNat = d → ((gi (C 0) 21).toInt ≤ (gi (K149 0) 23).toInt ∧ (gi (K149 0) 23).toInt ≤ (gi (K149 0) 21).toInt ∧ (gi (K149 0) 21).toInt ≤ (gi (K149 0) 7).toInt) → ((upto pD (ga (C 7)) (gi (C 0) 7) (gi (K149 0) 21)) = (upto pD (ga (C 7)) (gi (C 0) 7) (upto pB (ga (C 7)) (gi (C 0) 7) (gi (C 0) 21))) ∧ gl (K149 0) 24 = figV (ga (C 7)) ((upto pB (ga (C 7)) (gi (C 0) 7) (gi (C 0) 21))).toNatClampNeg ((gi (K149 0) 21).toInt - ((upto pB (ga (C 7)) (gi (C 0) 7) (gi (C 0) 21))).toInt).toNat ∧ ∀ j, ((upto pB (ga (C 7)) (gi (C 0) 7) (gi (C 0) 21))).toNatClampNeg ≤ j → j < (gi (K149 0) 21).toNatClampNeg → pD ((ga (C 7)) j)) → TyM a E K149 → fr [] [21, 22, 23, 24] C K149 → fr [] [21, 24] C_152 K149 → va_P D vwCl (oh_W n a K149) H → va_D A (oh_W n a K149) → va_S A s.heap H locs → lv_has ls 1 [(0, .ref (a 0))] → W p l e ({ frames := 1, cells := 0, slots := 0, locals := 20 }) s m (([.ref (a 0)] : List Value).toArray) below meth c H locs 0 0 Q (F0 m 149 ls []) := by
                intro d
                induction d using Nat.strongRecOn with
                | ind d ih_149 =>
                intro K149  H locs ls hd_149 hv_149 hs_149 hT hF hLF_149 hP hD hS hl
                have t_155 := hT
                refine lv_aload_n hx hb dX7_look_149 rfl (lv_at hl 0 rfl) ?_
                refine va_get (D := D) (ci := 7) (v := .int (gi (K149 0) 21)) (C := RX7) (T := TX7) (N := 29) hx hb htg ig_7 hown hK hP 0 (oh_wg (Nat.lt_of_lt_of_le (by decide) hn) (sM_0 hT)) rfl 21 (by decide) (htg _ q_994) (fun _ h9 => h9) rfl dX7_look_150 ?_
                refine lv_aload_n hx hb dX7_look_153 rfl (lv_at hl 0 rfl) ?_
                refine va_get (D := D) (ci := 7) (v := .int (gi (C 0) 7)) (C := RX7) (T := TX7) (N := 29) hx hb htg ig_7 hown hK hP 0 (oh_wg (Nat.lt_of_lt_of_le (by decide) hn) (sM_0 hT)) rfl 7 (by decide) (htg _ q_980) (fun _ h9 => h9) (oh_fv (c := K149 0) (j := 7) rfl (Eq.trans (congrArg vi (hLF_149.2 7 (by decide))) (Eq.trans (show gi (C_152 0) 7 = gi (C_117 0) 7 by rw [e_153]; rfl) (Eq.trans (show gi (C_117 0) 7 = gi (C_114 0) 7 by rw [e_118]; rfl) (Eq.trans (show gi (C_114 0) 7 = gi (K0 0) 7 by rw [e_115]; rfl) (congrArg vi (hLF_0.2 7 (by decide)))))))) dX7_look_154 ?_
                refine lv_icmp_ge (tgt := 267) hx hb dX7_look_157 (by decide) (fun (c_156 : (gi (C 0) 7) ≤ (gi (K149 0) 21)) => ?_) (fun (c_156 : ¬ ((gi (C 0) 7) ≤ (gi (K149 0) 21))) => ?_)
                · have : (gi (C_152 0) 21).toInt = (gi (C_117 0) 21).toInt := congrArg Int32.toInt (show gi (C_152 0) 21 = gi (C_117 0) 21 by rw [e_153]; rfl)
                  have : (gi (C_152 0) 7).toInt = (gi (C_117 0) 7).toInt := congrArg Int32.toInt (show gi (C_152 0) 7 = gi (C_117 0) 7 by rw [e_153]; rfl)
                  have : (gi (C_152 0) 23).toInt = (gi (C_117 0) 23).toInt := congrArg Int32.toInt (show gi (C_152 0) 23 = gi (C_117 0) 23 by rw [e_153]; rfl)
                  have : (gi (C_152 0) 13).toInt = (gi (C_117 0) 13).toInt := congrArg Int32.toInt (show gi (C_152 0) 13 = gi (C_117 0) 13 by rw [e_153]; rfl)
                  have : (gi (K149 0) 7).toInt = (gi (C_152 0) 7).toInt := congrArg (fun z => (vi z).toInt) (hLF_149.2 7 (by decide))
                  have : (gi (K149 0) 23).toInt = (gi (C_152 0) 23).toInt := congrArg (fun z => (vi z).toInt) (hLF_149.2 23 (by decide))
                  have : (gi (K149 0) 13).toInt = (gi (C_152 0) 13).toInt := congrArg (fun z => (vi z).toInt) (hLF_149.2 13 (by decide))
                  have : 0 ≤ (gi (C_152 0) 21).toInt ∧ (gi (C_152 0) 21).toInt ≤ 250 := fM_0_21 t_154
                  have : 0 ≤ (gi (C_152 0) 7).toInt ∧ (gi (C_152 0) 7).toInt ≤ 250 := fM_0_7 t_154
                  have : 0 ≤ (gi (C_152 0) 23).toInt ∧ (gi (C_152 0) 23).toInt ≤ 250 := fM_0_23 t_154
                  have : 0 ≤ (gi (C_152 0) 13).toInt ∧ (gi (C_152 0) 13).toInt ≤ 5 := fM_0_13 t_154
                  have : 0 ≤ (gi (K149 0) 21).toInt ∧ (gi (K149 0) 21).toInt ≤ 250 := fM_0_21 t_155
                  have : 0 ≤ (gi (K149 0) 7).toInt ∧ (gi (K149 0) 7).toInt ≤ 250 := fM_0_7 t_155
                  have : 0 ≤ (gi (K149 0) 23).toInt ∧ (gi (K149 0) 23).toInt ≤ 250 := fM_0_23 t_155
                  have : 0 ≤ (gi (K149 0) 13).toInt ∧ (gi (K149 0) 13).toInt ≤ 5 := fM_0_13 t_155
                  have : (gi (C 0) 7).toInt ≤ (gi (K149 0) 21).toInt := Int32.le_iff_toInt_le.mp c_156
                  have hS_157 : gi (K0 0) 21 = (upto pB (ga (C 7)) (gi (C 0) 7) (gi (C 0) 21)) := Eq.trans (upto_stop (p := pB) (fun h8 => c_113 h8.2)).symm hs_0
                  have hl_159 : (upto pB (ga (C 7)) (gi (C 0) 7) (gi (C 0) 21)) < gi (C 0) 7 := by rw [← hS_157]; exact Int32.lt_iff_toInt_lt.mpr (by omega)
                  have hE_160 : gi (K149 0) 21 = (upto pD (ga (C 7)) (gi (C 0) 7) (upto pB (ga (C 7)) (gi (C 0) 7) (gi (C 0) 21))) := (Eq.trans (upto_stop (p := pD) (fun h8 => absurd h8.1 (Int32.not_lt.mpr c_156))).symm hs_149.1)
                  have tk_158 := tk_num (S := (upto pB (ga (C 7)) (gi (C 0) 7) (gi (C 0) 21))) (upto_st (upto_stop (p := pL) (fun h8 => u_125 (by have h7 := h8.2; rw [← hS_157] at h7; exact h7)))) hE_160 (by rw [hE_160]; exact upto_gt (fM_0_7 hT0) (by rw [← hS_157]; exact (rg_w (lo := 0) (hi := 250) (rn_ltu (u' := 249) (Int32.not_le.mp c_2) (fM_0_21 t_1) (fM_0_7 hT0) (by decide)) (by decide))) hl_159 (by rw [← hS_157]; exact u_151))
                  have h_161 : gi (K149 0) 23 = (upto pB (ga (C 7)) (gi (C 0) 7) (gi (C 0) 21)) := Eq.trans (Eq.trans (congrArg vi (hLF_149.2 23 (by decide))) (Eq.trans (show gi (C_152 0) 23 = gi (C_117 0) 23 by rw [e_153]; rfl) (Eq.trans (show gi (C_117 0) 23 = gi (C_114 0) 23 by rw [e_118]; rfl) (show gi (C_114 0) 23 = (gi (K0 0) 21) by rw [e_115]; rfl)))) hS_157
                  rw [hQ]
                  exact W.vret hx hb hr (fun t ht hW => ⟨⟨K149, rfl, ⟨hT, hF, ⟨⟨(by omega), (by omega), (by omega)⟩, (pm_mk (Eq.trans (congrArg vi (hLF_149.2 7 (by decide))) (Eq.trans (show gi (C_152 0) 7 = gi (C_117 0) 7 by rw [e_153]; rfl) (Eq.trans (show gi (C_117 0) 7 = gi (C_114 0) 7 by rw [e_118]; rfl) (Eq.trans (show gi (C_114 0) 7 = gi (K0 0) 7 by rw [e_115]; rfl) (congrArg vi (hLF_0.2 7 (by decide))))))) (Eq.trans (Eq.trans (congrArg vi (hLF_149.2 22 (by decide))) (show gi (C_152 0) 22 = (2 : Int32) by rw [e_153]; rfl)) tk_158.1) (Eq.trans (Eq.trans (congrArg vi (hLF_149.2 23 (by decide))) (Eq.trans (show gi (C_152 0) 23 = gi (C_117 0) 23 by rw [e_153]; rfl) (Eq.trans (show gi (C_117 0) 23 = gi (C_114 0) 23 by rw [e_118]; rfl) (show gi (C_114 0) 23 = (gi (K0 0) 21) by rw [e_115]; rfl)))) hS_157) (Eq.trans rfl tk_158.2)), (Eq.trans rfl (Eq.trans hs_149.2.1 (Eq.trans (by rw [← h_161, ← (rfl : gi (K149 0) 21 = gi (K149 0) 21)]; rfl) (pif_pos (Eq.trans (congrArg vi (hLF_149.2 22 (by decide))) (show gi (C_152 0) 22 = (2 : Int32) by rw [e_153]; rfl))).symm)))⟩⟩, ⟨by rw [ht]; exact hP, hD⟩⟩, hS.F ht⟩) hS.2.2 dX7_look_267
                · refine lv_aload_n hx hb dX7_look_160 rfl (lv_at hl 0 rfl) ?_
                  refine va_get (D := D) (ci := 7) (v := .ref (a 7)) (C := RX7) (T := TX7) (N := 29) hx hb htg ig_7 hown hK hP 0 (oh_wg (Nat.lt_of_lt_of_le (by decide) hn) (sM_0 hT)) rfl 6 (by decide) (htg _ q_979) (fun _ h9 => h9) rfl dX7_look_161 ?_
                  refine lv_aload_n hx hb dX7_look_164 rfl (lv_at hl 0 rfl) ?_
                  refine va_get (D := D) (ci := 7) (v := .int (gi (K149 0) 21)) (C := RX7) (T := TX7) (N := 29) hx hb htg ig_7 hown hK hP 0 (oh_wg (Nat.lt_of_lt_of_le (by decide) hn) (sM_0 hT)) rfl 21 (by decide) (htg _ q_994) (fun _ h9 => h9) rfl dX7_look_165 ?_
                  have : (gi (C_152 0) 21).toInt = (gi (C_117 0) 21).toInt := congrArg Int32.toInt (show gi (C_152 0) 21 = gi (C_117 0) 21 by rw [e_153]; rfl)
                  have : (gi (C_152 0) 7).toInt = (gi (C_117 0) 7).toInt := congrArg Int32.toInt (show gi (C_152 0) 7 = gi (C_117 0) 7 by rw [e_153]; rfl)
                  have : (gi (C_152 0) 23).toInt = (gi (C_117 0) 23).toInt := congrArg Int32.toInt (show gi (C_152 0) 23 = gi (C_117 0) 23 by rw [e_153]; rfl)
                  have : (gi (C_152 0) 13).toInt = (gi (C_117 0) 13).toInt := congrArg Int32.toInt (show gi (C_152 0) 13 = gi (C_117 0) 13 by rw [e_153]; rfl)
                  have : (gi (K149 0) 7).toInt = (gi (C_152 0) 7).toInt := congrArg (fun z => (vi z).toInt) (hLF_149.2 7 (by decide))
                  have : (gi (K149 0) 23).toInt = (gi (C_152 0) 23).toInt := congrArg (fun z => (vi z).toInt) (hLF_149.2 23 (by decide))
                  have : (gi (K149 0) 13).toInt = (gi (C_152 0) 13).toInt := congrArg (fun z => (vi z).toInt) (hLF_149.2 13 (by decide))
                  have : 0 ≤ (gi (C_152 0) 21).toInt ∧ (gi (C_152 0) 21).toInt ≤ 250 := fM_0_21 t_154
                  have : 0 ≤ (gi (C_152 0) 7).toInt ∧ (gi (C_152 0) 7).toInt ≤ 250 := fM_0_7 t_154
                  have : 0 ≤ (gi (C_152 0) 23).toInt ∧ (gi (C_152 0) 23).toInt ≤ 250 := fM_0_23 t_154
                  have : 0 ≤ (gi (C_152 0) 13).toInt ∧ (gi (C_152 0) 13).toInt ≤ 5 := fM_0_13 t_154
                  have : 0 ≤ (gi (K149 0) 21).toInt ∧ (gi (K149 0) 21).toInt ≤ 250 := fM_0_21 t_155
                  have : 0 ≤ (gi (K149 0) 7).toInt ∧ (gi (K149 0) 7).toInt ≤ 250 := fM_0_7 t_155
                  have : 0 ≤ (gi (K149 0) 23).toInt ∧ (gi (K149 0) 23).toInt ≤ 250 := fM_0_23 t_155
                  have : 0 ≤ (gi (K149 0) 13).toInt ∧ (gi (K149 0) 13).toInt ≤ 5 := fM_0_13 t_155
                  have : (gi (K149 0) 21).toInt < (gi (C 0) 7).toInt := Int32.lt_iff_toInt_lt.mp (Int32.not_le.mp c_156)
                  have n_162 : vp_in (gi (K149 0) 21) 250 := (vp_in_iff.mpr ⟨by omega, by omega⟩)
                  refine th_iald hx hb hK hP 7 (Nat.lt_of_lt_of_le (by decide) hn) (Eq.trans (Eq.trans (hLF_149.1 7 rfl (by decide)) (Eq.trans (th_un e_153 (by decide)) (Eq.trans (th_un e_118 (by decide)) (Eq.trans (th_un e_115 (by decide)) (hLF_0.1 7 rfl (by decide)))))) (sM_7 hT0)) n_162 dX7_look_168 ?_
                  refine tq_S (As := [.int (ga (C 7) (gi (K149 0) 21).toNatClampNeg)]) (rest := []) (ws := []) ⟨hx, hb, hml, hown, htg⟩ (e_X7_isDigit l D E G (ga (C 7) (gi (K149 0) 21).toNatClampNeg)) (va_cwS 1 htg (oh_gS q_1204 q_1205 q_73 q_1206) rfl rfl rfl pdX7_isDigit ⟨Nat.le_of_ble_eq_true rfl, Nat.le_of_ble_eq_true rfl⟩) hK va_nil hG hS rfl hl.1 rfl (Nat.le_of_ble_eq_true rfl) dX7_look_169 ⟨Nat.le_of_ble_eq_true rfl, Nat.le_of_ble_eq_true rfl⟩ (fun r_163 hq_164 => ?_)
                  refine lv_if_eq (tgt := 267) hx hb dX7_look_172 (by decide) (fun (c_165 : r_163 = 0) => ?_) (fun (c_165 : ¬ (r_163 = 0)) => ?_)
                  · have u_166 := hq_164.2.2 c_165
                    have hS_167 : gi (K0 0) 21 = (upto pB (ga (C 7)) (gi (C 0) 7) (gi (C 0) 21)) := Eq.trans (upto_stop (p := pB) (fun h8 => c_113 h8.2)).symm hs_0
                    have hl_169 : (upto pB (ga (C 7)) (gi (C 0) 7) (gi (C 0) 21)) < gi (C 0) 7 := by rw [← hS_167]; exact Int32.lt_iff_toInt_lt.mpr (by omega)
                    have hE_170 : gi (K149 0) 21 = (upto pD (ga (C 7)) (gi (C 0) 7) (upto pB (ga (C 7)) (gi (C 0) 7) (gi (C 0) 21))) := (Eq.trans (upto_stop (p := pD) (fun h8 => u_166 h8.2)).symm hs_149.1)
                    have tk_168 := tk_num (S := (upto pB (ga (C 7)) (gi (C 0) 7) (gi (C 0) 21))) (upto_st (upto_stop (p := pL) (fun h8 => u_125 (by have h7 := h8.2; rw [← hS_167] at h7; exact h7)))) hE_170 (by rw [hE_170]; exact upto_gt (fM_0_7 hT0) (by rw [← hS_167]; exact (rg_w (lo := 0) (hi := 250) (rn_ltu (u' := 249) (Int32.not_le.mp c_2) (fM_0_21 t_1) (rn_ltl (l' := 1) (Int32.not_le.mp c_156) (fM_0_21 t_155) (fM_0_7 hT0) (by decide)) (by decide)) (by decide))) hl_169 (by rw [← hS_167]; exact u_151))
                    have h_171 : gi (K149 0) 23 = (upto pB (ga (C 7)) (gi (C 0) 7) (gi (C 0) 21)) := Eq.trans (Eq.trans (congrArg vi (hLF_149.2 23 (by decide))) (Eq.trans (show gi (C_152 0) 23 = gi (C_117 0) 23 by rw [e_153]; rfl) (Eq.trans (show gi (C_117 0) 23 = gi (C_114 0) 23 by rw [e_118]; rfl) (show gi (C_114 0) 23 = (gi (K0 0) 21) by rw [e_115]; rfl)))) hS_167
                    rw [hQ]
                    exact W.vret hx hb hr (fun t ht hW => ⟨⟨K149, rfl, ⟨hT, hF, ⟨⟨(by omega), (by omega), (by omega)⟩, (pm_mk (Eq.trans (congrArg vi (hLF_149.2 7 (by decide))) (Eq.trans (show gi (C_152 0) 7 = gi (C_117 0) 7 by rw [e_153]; rfl) (Eq.trans (show gi (C_117 0) 7 = gi (C_114 0) 7 by rw [e_118]; rfl) (Eq.trans (show gi (C_114 0) 7 = gi (K0 0) 7 by rw [e_115]; rfl) (congrArg vi (hLF_0.2 7 (by decide))))))) (Eq.trans (Eq.trans (congrArg vi (hLF_149.2 22 (by decide))) (show gi (C_152 0) 22 = (2 : Int32) by rw [e_153]; rfl)) tk_168.1) (Eq.trans (Eq.trans (congrArg vi (hLF_149.2 23 (by decide))) (Eq.trans (show gi (C_152 0) 23 = gi (C_117 0) 23 by rw [e_153]; rfl) (Eq.trans (show gi (C_117 0) 23 = gi (C_114 0) 23 by rw [e_118]; rfl) (show gi (C_114 0) 23 = (gi (K0 0) 21) by rw [e_115]; rfl)))) hS_167) (Eq.trans rfl tk_168.2)), (Eq.trans rfl (Eq.trans hs_149.2.1 (Eq.trans (by rw [← h_171, ← (rfl : gi (K149 0) 21 = gi (K149 0) 21)]; rfl) (pif_pos (Eq.trans (congrArg vi (hLF_149.2 22 (by decide))) (show gi (C_152 0) 22 = (2 : Int32) by rw [e_153]; rfl))).symm)))⟩⟩, ⟨by rw [ht]; exact hP, hD⟩⟩, hS.F ht⟩) hS.2.2 dX7_look_267
                  · have u_172 := hq_164.2.1 c_165
                    refine lv_aload_n hx hb dX7_look_175 rfl (lv_at hl 0 rfl) ?_
                    refine lv_aload_n hx hb dX7_look_176 rfl (lv_at hl 0 rfl) ?_
                    refine va_get (D := D) (ci := 7) (v := .int (gi (K149 0) 21)) (C := RX7) (T := TX7) (N := 29) hx hb htg ig_7 hown hK hP 0 (oh_wg (Nat.lt_of_lt_of_le (by decide) hn) (sM_0 hT)) rfl 21 (by decide) (htg _ q_994) (fun _ h9 => h9) rfl dX7_look_177 ?_
                    refine lv_aload_n hx hb dX7_look_180 rfl (lv_at hl 0 rfl) ?_
                    refine va_get (D := D) (ci := 7) (v := .int (gi (K0 0) 21)) (C := RX7) (T := TX7) (N := 29) hx hb htg ig_7 hown hK hP 0 (oh_wg (Nat.lt_of_lt_of_le (by decide) hn) (sM_0 hT)) rfl 23 (by decide) (htg _ q_996) (fun _ h9 => h9) (oh_fv (c := K149 0) (j := 23) rfl (Eq.trans (congrArg vi (hLF_149.2 23 (by decide))) (Eq.trans (show gi (C_152 0) 23 = gi (C_117 0) 23 by rw [e_153]; rfl) (Eq.trans (show gi (C_117 0) 23 = gi (C_114 0) 23 by rw [e_118]; rfl) (show gi (C_114 0) 23 = (gi (K0 0) 21) by rw [e_115]; rfl))))) dX7_look_181 ?_
                    refine lv_isub hx hb dX7_look_184 ?_
                    refine lv_iconst (v := 3) hx hb dX7_look_185 (by decide) ?_
                    refine lv_icmp_ge (tgt := 215) hx hb dX7_look_186 (by decide) (fun (c_173 : (3 : Int32) ≤ ((gi (K149 0) 21) - (gi (K0 0) 21))) => ?_) (fun (c_173 : ¬ ((3 : Int32) ≤ ((gi (K149 0) 21) - (gi (K0 0) 21)))) => ?_)
                    · refine lv_ldc2 (v := 100000) hx hb hown (htg _ q_1209) dX7_look_215 ?_
                      refine th_put (Tp := TyM a E) (Rl := fr [] [21, 22, 23, 24] C) (ci := 7) (v := .long 100000) (ty := .long) (CC := RX7) (T := TX7) (N := 29) hx hb htg ig_7 tyX7 tyX7_ok nmX7 hown hK hP hD hS 0 (Nat.lt_of_lt_of_le (by decide) hn) (sM_0 hT) rfl 24 (by decide) (htg _ q_997) (fun _ h9 => h9) rfl (by decide +kernel) rfl rfl (Nat.le_of_ble_eq_true rfl) (hT.up 0 (by decide) ⟨rfl, (fM_0_7 hT), (fM_0_9 hT), (fM_0_11 hT), (fM_0_13 hT), (fM_0_15 hT), (fM_0_21 hT), (fM_0_23 hT)⟩) (fr_fd hF (sM_0 hT) (by decide)) dX7_look_218 (fun C_174 H locs e_175 hT hF hP hD hS => ?_)
                      have t_176 := hT
                      refine lv_aload_n hx hb dX7_look_221 rfl (lv_at hl 0 rfl) ?_
                      refine lv_dup hx hb dX7_look_222 rfl ?_
                      refine va_get (D := D) (ci := 7) (v := .int (gi (K149 0) 21)) (C := RX7) (T := TX7) (N := 29) hx hb htg ig_7 hown hK hP 0 (oh_wg (Nat.lt_of_lt_of_le (by decide) hn) (sM_0 hT)) rfl 21 (by decide) (htg _ q_994) (fun _ h9 => h9) (oh_fv (c := C_174 0) (j := 21) rfl (show gi (C_174 0) 21 = gi (K149 0) 21 by rw [e_175]; rfl)) dX7_look_223 ?_
                      refine lv_iconst (v := 1) hx hb dX7_look_226 (by decide) ?_
                      refine lv_iadd hx hb dX7_look_227 ?_
                      have : (gi (C_174 0) 21).toInt = (gi (K149 0) 21).toInt := congrArg Int32.toInt (show gi (C_174 0) 21 = gi (K149 0) 21 by rw [e_175]; rfl)
                      have : (gi (C_174 0) 7).toInt = (gi (K149 0) 7).toInt := congrArg Int32.toInt (show gi (C_174 0) 7 = gi (K149 0) 7 by rw [e_175]; rfl)
                      have : (gi (C_174 0) 23).toInt = (gi (K149 0) 23).toInt := congrArg Int32.toInt (show gi (C_174 0) 23 = gi (K149 0) 23 by rw [e_175]; rfl)
                      have : (gi (C_174 0) 13).toInt = (gi (K149 0) 13).toInt := congrArg Int32.toInt (show gi (C_174 0) 13 = gi (K149 0) 13 by rw [e_175]; rfl)
                      have : 0 ≤ (gi (C_174 0) 21).toInt ∧ (gi (C_174 0) 21).toInt ≤ 250 := fM_0_21 t_176
                      have : 0 ≤ (gi (C_174 0) 7).toInt ∧ (gi (C_174 0) 7).toInt ≤ 250 := fM_0_7 t_176
                      have : 0 ≤ (gi (C_174 0) 23).toInt ∧ (gi (C_174 0) 23).toInt ≤ 250 := fM_0_23 t_176
                      have : 0 ≤ (gi (C_174 0) 13).toInt ∧ (gi (C_174 0) 13).toInt ≤ 5 := fM_0_13 t_176
                      have hpf_228 : rg (gi (K149 0) 21) 0 249 := ⟨by omega, by omega⟩
                      refine th_put (Tp := TyM a E) (Rl := fr [] [21, 22, 23, 24] C) (ci := 7) (v := .int ((gi (K149 0) 21) + 1)) (ty := .int) (CC := RX7) (T := TX7) (N := 29) hx hb htg ig_7 tyX7 tyX7_ok nmX7 hown hK hP hD hS 0 (Nat.lt_of_lt_of_le (by decide) hn) (sM_0 hT) rfl 21 (by decide) (htg _ q_994) (fun _ h9 => h9) rfl (by decide +kernel) rfl rfl (Nat.le_of_ble_eq_true rfl) (hT.up 0 (by decide) ⟨rfl, (fM_0_7 hT), (fM_0_9 hT), (fM_0_11 hT), (fM_0_13 hT), (fM_0_15 hT), (rg_w (rg_add (lo := 1) (hi := 250) hpf_228 (rg_c (v := 1) (lo := 1) (hi := 1) (by decide)) (by decide)) (by decide)), (fM_0_23 hT)⟩) (fr_fd hF (sM_0 hT) (by decide)) dX7_look_228 (fun C_177 H locs e_178 hT hF hP hD hS => ?_)
                      have t_179 := hT
                      refine lv_goto (tgt := 149) hx hb dX7_look_231 (by decide) ?_
                      have : (gi (C_177 0) 21).toInt = ((gi (K149 0) 21) + 1).toInt := congrArg Int32.toInt (show gi (C_177 0) 21 = ((gi (K149 0) 21) + 1) by rw [e_178]; rfl)
                      have : ((gi (K149 0) 21) + 1).toInt = (gi (K149 0) 21).toInt + 1 := oh_incr (rn_ltu (u' := 249) (Int32.not_le.mp c_156) (fM_0_21 t_155) (rn_ltl (l' := 1) (Int32.not_le.mp c_2) (fM_0_21 t_1) (fM_0_7 hT0) (by decide)) (by decide)) (by decide)
                      have : (gi (C_177 0) 7).toInt = (gi (C_174 0) 7).toInt := congrArg Int32.toInt (show gi (C_177 0) 7 = gi (C_174 0) 7 by rw [e_178]; rfl)
                      have : (gi (C_177 0) 23).toInt = (gi (C_174 0) 23).toInt := congrArg Int32.toInt (show gi (C_177 0) 23 = gi (C_174 0) 23 by rw [e_178]; rfl)
                      have : (gi (C_177 0) 13).toInt = (gi (C_174 0) 13).toInt := congrArg Int32.toInt (show gi (C_177 0) 13 = gi (C_174 0) 13 by rw [e_178]; rfl)
                      have : 0 ≤ (gi (C_177 0) 21).toInt ∧ (gi (C_177 0) 21).toInt ≤ 250 := fM_0_21 t_179
                      have : 0 ≤ (gi (C_177 0) 7).toInt ∧ (gi (C_177 0) 7).toInt ≤ 250 := fM_0_7 t_179
                      have : 0 ≤ (gi (C_177 0) 23).toInt ∧ (gi (C_177 0) 23).toInt ≤ 250 := fM_0_23 t_179
                      have : 0 ≤ (gi (C_177 0) 13).toInt ∧ (gi (C_177 0) 13).toInt ≤ 5 := fM_0_13 t_179
                      have hS_180 : gi (K0 0) 21 = (upto pB (ga (C 7)) (gi (C 0) 7) (gi (C 0) 21)) := Eq.trans (upto_stop (p := pB) (fun h8 => c_113 h8.2)).symm hs_0
                      have hSr_181 : rg (upto pB (ga (C 7)) (gi (C 0) 7) (gi (C 0) 21)) 0 250 := by rw [← hS_180]; exact (rg_w (lo := 0) (hi := 250) (rn_ltu (u' := 249) (Int32.not_le.mp c_2) (fM_0_21 t_1) (rn_ltl (l' := 1) (Int32.not_le.mp c_156) (fM_0_21 t_155) (fM_0_7 hT0) (by decide)) (by decide)) (by decide))
                      exact ih_149 _ (hd_149 ▸ (by rw [(show gi (C_177 0) 21 = ((gi (K149 0) 21) + 1) by rw [e_178]; rfl)]; exact mu_up 250 (rn_ltu (u' := 249) (Int32.not_le.mp c_156) (fM_0_21 t_155) (rn_ltl (l' := 1) (Int32.not_le.mp c_2) (fM_0_21 t_1) (fM_0_7 hT0) (by decide)) (by decide)) (by decide))) C_177  _ _ ls rfl (by omega) ⟨Eq.trans (congrArg (upto pD (ga (C 7)) (gi (C 0) 7)) (show gi (C_177 0) 21 = ((gi (K149 0) 21) + 1) by rw [e_178]; rfl)) (Eq.trans (upto_step (p := pD) (rn_ltu (u' := 249) (Int32.not_le.mp c_156) (fM_0_21 t_155) (fM_0_7 hT0) (by decide)) (Int32.not_le.mp c_156) u_172).symm hs_149.1), Eq.trans (Eq.trans (show gl (C_177 0) 24 = gl (C_174 0) 24 by rw [e_178]; rfl) (show gl (C_174 0) 24 = (100000 : Int64) by rw [e_175]; rfl)) (by rw [(show gi (C_177 0) 21 = ((gi (K149 0) 21) + 1) by rw [e_178]; rfl)]; exact (fg_step2 hSr_181 (rn_ltu (u' := 249) (Int32.not_le.mp c_156) (fM_0_21 t_155) (fM_0_7 hT0) (by decide)) (by rw [← hS_180]; exact Int32.not_lt.mpr c_173))), by rw [(show gi (C_177 0) 21 = ((gi (K149 0) 21) + 1) by rw [e_178]; rfl)]; exact fg_dig (rn_ltu (u' := 249) (Int32.not_le.mp c_156) (fM_0_21 t_155) (fM_0_7 hT0) (by decide)) hs_149.2.2 u_172⟩ hT hF (fr_fde (fr_fde hLF_149 e_175 (sM_0 t_155) (by decide)) e_178 (sM_0 t_176) (by decide)) hP hD hS (lv_sub hl [0] rfl)
                    · refine lv_aload_n hx hb dX7_look_189 rfl (lv_at hl 0 rfl) ?_
                      refine va_get (D := D) (ci := 7) (v := .long (gl (K149 0) 24)) (C := RX7) (T := TX7) (N := 29) hx hb htg ig_7 hown hK hP 0 (oh_wg (Nat.lt_of_lt_of_le (by decide) hn) (sM_0 hT)) rfl 24 (by decide) (htg _ q_997) (fun _ h9 => h9) rfl dX7_look_190 ?_
                      refine lv_ldc2 (v := 10) hx hb hown (htg _ q_1207) dX7_look_193 ?_
                      refine lv_lmul hx hb dX7_look_196 ?_
                      refine lv_aload_n hx hb dX7_look_197 rfl (lv_at hl 0 rfl) ?_
                      refine va_get (D := D) (ci := 7) (v := .ref (a 7)) (C := RX7) (T := TX7) (N := 29) hx hb htg ig_7 hown hK hP 0 (oh_wg (Nat.lt_of_lt_of_le (by decide) hn) (sM_0 hT)) rfl 6 (by decide) (htg _ q_979) (fun _ h9 => h9) rfl dX7_look_198 ?_
                      refine lv_aload_n hx hb dX7_look_201 rfl (lv_at hl 0 rfl) ?_
                      refine va_get (D := D) (ci := 7) (v := .int (gi (K149 0) 21)) (C := RX7) (T := TX7) (N := 29) hx hb htg ig_7 hown hK hP 0 (oh_wg (Nat.lt_of_lt_of_le (by decide) hn) (sM_0 hT)) rfl 21 (by decide) (htg _ q_994) (fun _ h9 => h9) rfl dX7_look_202 ?_
                      have n_182 : vp_in (gi (K149 0) 21) 250 := (vp_in_iff.mpr ⟨by omega, by omega⟩)
                      refine th_iald hx hb hK hP 7 (Nat.lt_of_lt_of_le (by decide) hn) (Eq.trans (Eq.trans (hLF_149.1 7 rfl (by decide)) (Eq.trans (th_un e_153 (by decide)) (Eq.trans (th_un e_118 (by decide)) (Eq.trans (th_un e_115 (by decide)) (hLF_0.1 7 rfl (by decide)))))) (sM_7 hT0)) n_182 dX7_look_205 ?_
                      refine lv_i2l (v := Int32.toInt64 (ga (C 7) (gi (K149 0) 21).toNatClampNeg)) hx hb dX7_look_206 (by rfl) ?_
                      refine lv_ladd hx hb dX7_look_207 ?_
                      refine lv_ldc2 (v := 48) hx hb hown (htg _ q_1208) dX7_look_208 ?_
                      refine lv_lsub hx hb dX7_look_211 ?_
                      refine lv_goto (tgt := 218) hx hb dX7_look_212 (by decide) ?_
                      refine th_put (Tp := TyM a E) (Rl := fr [] [21, 22, 23, 24] C) (ci := 7) (v := .long ((((gl (K149 0) 24) * 10) + (Int32.toInt64 (ga (C 7) (gi (K149 0) 21).toNatClampNeg))) - 48)) (ty := .long) (CC := RX7) (T := TX7) (N := 29) hx hb htg ig_7 tyX7 tyX7_ok nmX7 hown hK hP hD hS 0 (Nat.lt_of_lt_of_le (by decide) hn) (sM_0 hT) rfl 24 (by decide) (htg _ q_997) (fun _ h9 => h9) rfl (by decide +kernel) rfl rfl (Nat.le_of_ble_eq_true rfl) (hT.up 0 (by decide) ⟨rfl, (fM_0_7 hT), (fM_0_9 hT), (fM_0_11 hT), (fM_0_13 hT), (fM_0_15 hT), (fM_0_21 hT), (fM_0_23 hT)⟩) (fr_fd hF (sM_0 hT) (by decide)) dX7_look_218 (fun C_183 H locs e_184 hT hF hP hD hS => ?_)
                      have t_185 := hT
                      refine lv_aload_n hx hb dX7_look_221 rfl (lv_at hl 0 rfl) ?_
                      refine lv_dup hx hb dX7_look_222 rfl ?_
                      refine va_get (D := D) (ci := 7) (v := .int (gi (K149 0) 21)) (C := RX7) (T := TX7) (N := 29) hx hb htg ig_7 hown hK hP 0 (oh_wg (Nat.lt_of_lt_of_le (by decide) hn) (sM_0 hT)) rfl 21 (by decide) (htg _ q_994) (fun _ h9 => h9) (oh_fv (c := C_183 0) (j := 21) rfl (show gi (C_183 0) 21 = gi (K149 0) 21 by rw [e_184]; rfl)) dX7_look_223 ?_
                      refine lv_iconst (v := 1) hx hb dX7_look_226 (by decide) ?_
                      refine lv_iadd hx hb dX7_look_227 ?_
                      have : (gi (C_183 0) 21).toInt = (gi (K149 0) 21).toInt := congrArg Int32.toInt (show gi (C_183 0) 21 = gi (K149 0) 21 by rw [e_184]; rfl)
                      have : (gi (C_183 0) 7).toInt = (gi (K149 0) 7).toInt := congrArg Int32.toInt (show gi (C_183 0) 7 = gi (K149 0) 7 by rw [e_184]; rfl)
                      have : (gi (C_183 0) 23).toInt = (gi (K149 0) 23).toInt := congrArg Int32.toInt (show gi (C_183 0) 23 = gi (K149 0) 23 by rw [e_184]; rfl)
                      have : (gi (C_183 0) 13).toInt = (gi (K149 0) 13).toInt := congrArg Int32.toInt (show gi (C_183 0) 13 = gi (K149 0) 13 by rw [e_184]; rfl)
                      have : 0 ≤ (gi (C_183 0) 21).toInt ∧ (gi (C_183 0) 21).toInt ≤ 250 := fM_0_21 t_185
                      have : 0 ≤ (gi (C_183 0) 7).toInt ∧ (gi (C_183 0) 7).toInt ≤ 250 := fM_0_7 t_185
                      have : 0 ≤ (gi (C_183 0) 23).toInt ∧ (gi (C_183 0) 23).toInt ≤ 250 := fM_0_23 t_185
                      have : 0 ≤ (gi (C_183 0) 13).toInt ∧ (gi (C_183 0) 13).toInt ≤ 5 := fM_0_13 t_185
                      have hpf_228 : rg (gi (K149 0) 21) 0 249 := ⟨by omega, by omega⟩
                      refine th_put (Tp := TyM a E) (Rl := fr [] [21, 22, 23, 24] C) (ci := 7) (v := .int ((gi (K149 0) 21) + 1)) (ty := .int) (CC := RX7) (T := TX7) (N := 29) hx hb htg ig_7 tyX7 tyX7_ok nmX7 hown hK hP hD hS 0 (Nat.lt_of_lt_of_le (by decide) hn) (sM_0 hT) rfl 21 (by decide) (htg _ q_994) (fun _ h9 => h9) rfl (by decide +kernel) rfl rfl (Nat.le_of_ble_eq_true rfl) (hT.up 0 (by decide) ⟨rfl, (fM_0_7 hT), (fM_0_9 hT), (fM_0_11 hT), (fM_0_13 hT), (fM_0_15 hT), (rg_w (rg_add (lo := 1) (hi := 250) hpf_228 (rg_c (v := 1) (lo := 1) (hi := 1) (by decide)) (by decide)) (by decide)), (fM_0_23 hT)⟩) (fr_fd hF (sM_0 hT) (by decide)) dX7_look_228 (fun C_186 H locs e_187 hT hF hP hD hS => ?_)
                      have t_188 := hT
                      refine lv_goto (tgt := 149) hx hb dX7_look_231 (by decide) ?_
                      have : (gi (C_186 0) 21).toInt = ((gi (K149 0) 21) + 1).toInt := congrArg Int32.toInt (show gi (C_186 0) 21 = ((gi (K149 0) 21) + 1) by rw [e_187]; rfl)
                      have : ((gi (K149 0) 21) + 1).toInt = (gi (K149 0) 21).toInt + 1 := oh_incr (rn_ltu (u' := 249) (Int32.not_le.mp c_156) (fM_0_21 t_155) (rn_ltl (l' := 1) (Int32.not_le.mp c_2) (fM_0_21 t_1) (fM_0_7 hT0) (by decide)) (by decide)) (by decide)
                      have : (gi (C_186 0) 7).toInt = (gi (C_183 0) 7).toInt := congrArg Int32.toInt (show gi (C_186 0) 7 = gi (C_183 0) 7 by rw [e_187]; rfl)
                      have : (gi (C_186 0) 23).toInt = (gi (C_183 0) 23).toInt := congrArg Int32.toInt (show gi (C_186 0) 23 = gi (C_183 0) 23 by rw [e_187]; rfl)
                      have : (gi (C_186 0) 13).toInt = (gi (C_183 0) 13).toInt := congrArg Int32.toInt (show gi (C_186 0) 13 = gi (C_183 0) 13 by rw [e_187]; rfl)
                      have : 0 ≤ (gi (C_186 0) 21).toInt ∧ (gi (C_186 0) 21).toInt ≤ 250 := fM_0_21 t_188
                      have : 0 ≤ (gi (C_186 0) 7).toInt ∧ (gi (C_186 0) 7).toInt ≤ 250 := fM_0_7 t_188
                      have : 0 ≤ (gi (C_186 0) 23).toInt ∧ (gi (C_186 0) 23).toInt ≤ 250 := fM_0_23 t_188
                      have : 0 ≤ (gi (C_186 0) 13).toInt ∧ (gi (C_186 0) 13).toInt ≤ 5 := fM_0_13 t_188
                      have hS_189 : gi (K0 0) 21 = (upto pB (ga (C 7)) (gi (C 0) 7) (gi (C 0) 21)) := Eq.trans (upto_stop (p := pB) (fun h8 => c_113 h8.2)).symm hs_0
                      have hSr_190 : rg (upto pB (ga (C 7)) (gi (C 0) 7) (gi (C 0) 21)) 0 250 := by rw [← hS_189]; exact (rg_w (lo := 0) (hi := 250) (rn_ltu (u' := 249) (Int32.not_le.mp c_2) (fM_0_21 t_1) (rn_ltl (l' := 1) (Int32.not_le.mp c_156) (fM_0_21 t_155) (fM_0_7 hT0) (by decide)) (by decide)) (by decide))
                      have hl_191 : ((upto pB (ga (C 7)) (gi (C 0) 7) (gi (C 0) 21))).toInt ≤ (gi (K149 0) 21).toInt := by rw [← hS_189]; omega
                      exact ih_149 _ (hd_149 ▸ (by rw [(show gi (C_186 0) 21 = ((gi (K149 0) 21) + 1) by rw [e_187]; rfl)]; exact mu_up 250 (rn_ltu (u' := 249) (Int32.not_le.mp c_156) (fM_0_21 t_155) (rn_ltl (l' := 1) (Int32.not_le.mp c_2) (fM_0_21 t_1) (fM_0_7 hT0) (by decide)) (by decide)) (by decide))) C_186  _ _ ls rfl (by omega) ⟨Eq.trans (congrArg (upto pD (ga (C 7)) (gi (C 0) 7)) (show gi (C_186 0) 21 = ((gi (K149 0) 21) + 1) by rw [e_187]; rfl)) (Eq.trans (upto_step (p := pD) (rn_ltu (u' := 249) (Int32.not_le.mp c_156) (fM_0_21 t_155) (fM_0_7 hT0) (by decide)) (Int32.not_le.mp c_156) u_172).symm hs_149.1), Eq.trans (Eq.trans (show gl (C_186 0) 24 = gl (C_183 0) 24 by rw [e_187]; rfl) (show gl (C_183 0) 24 = ((((gl (K149 0) 24) * 10) + (Int32.toInt64 (ga (C 7) (gi (K149 0) 21).toNatClampNeg))) - 48) by rw [e_184]; rfl)) (by rw [(show gi (C_186 0) 21 = ((gi (K149 0) 21) + 1) by rw [e_187]; rfl)]; exact (fg_step1 hSr_190 (rn_ltu (u' := 249) (Int32.not_le.mp c_156) (fM_0_21 t_155) (fM_0_7 hT0) (by decide)) hl_191 (by rw [← hS_189]; exact (Int32.not_le.mp c_173)) hs_149.2.1 hs_149.2.2 u_172)), by rw [(show gi (C_186 0) 21 = ((gi (K149 0) 21) + 1) by rw [e_187]; rfl)]; exact fg_dig (rn_ltu (u' := 249) (Int32.not_le.mp c_156) (fM_0_21 t_155) (fM_0_7 hT0) (by decide)) hs_149.2.2 u_172⟩ hT hF (fr_fde (fr_fde hLF_149 e_184 (sM_0 t_155) (by decide)) e_187 (sM_0 t_185) (by decide)) hP hD hS (lv_sub hl [0] rfl)
              have : (gi (C_152 0) 21).toInt = (gi (C_117 0) 21).toInt := congrArg Int32.toInt (show gi (C_152 0) 21 = gi (C_117 0) 21 by rw [e_153]; rfl)
              have : (gi (C_152 0) 7).toInt = (gi (C_117 0) 7).toInt := congrArg Int32.toInt (show gi (C_152 0) 7 = gi (C_117 0) 7 by rw [e_153]; rfl)
              have : (gi (C_152 0) 23).toInt = (gi (C_117 0) 23).toInt := congrArg Int32.toInt (show gi (C_152 0) 23 = gi (C_117 0) 23 by rw [e_153]; rfl)
              have : (gi (C_152 0) 13).toInt = (gi (C_117 0) 13).toInt := congrArg Int32.toInt (show gi (C_152 0) 13 = gi (C_117 0) 13 by rw [e_153]; rfl)
              have : 0 ≤ (gi (C_152 0) 21).toInt ∧ (gi (C_152 0) 21).toInt ≤ 250 := fM_0_21 t_154
              have : 0 ≤ (gi (C_152 0) 7).toInt ∧ (gi (C_152 0) 7).toInt ≤ 250 := fM_0_7 t_154
              have : 0 ≤ (gi (C_152 0) 23).toInt ∧ (gi (C_152 0) 23).toInt ≤ 250 := fM_0_23 t_154
              have : 0 ≤ (gi (C_152 0) 13).toInt ∧ (gi (C_152 0) 13).toInt ≤ 5 := fM_0_13 t_154
              have hS_193 : gi (K0 0) 21 = (upto pB (ga (C 7)) (gi (C 0) 7) (gi (C 0) 21)) := Eq.trans (upto_stop (p := pB) (fun h8 => c_113 h8.2)).symm hs_0
              have hA_192 : gi (C_152 0) 21 = (upto pB (ga (C 7)) (gi (C 0) 7) (gi (C 0) 21)) := Eq.trans (Eq.trans (show gi (C_152 0) 21 = gi (C_117 0) 21 by rw [e_153]; rfl) (Eq.trans (show gi (C_117 0) 21 = gi (C_114 0) 21 by rw [e_118]; rfl) (show gi (C_114 0) 21 = gi (K0 0) 21 by rw [e_115]; rfl))) hS_193
              exact L_149 _ C_152  _ _ ls rfl (by omega) ⟨(congrArg (upto pD (ga (C 7)) (gi (C 0) 7)) hA_192), Eq.trans (Eq.trans (show gl (C_152 0) 24 = gl (C_117 0) 24 by rw [e_153]; rfl) (show gl (C_117 0) 24 = (0 : Int64) by rw [e_118]; rfl)) (by rw [hA_192]; exact fg_0), fun j h8 h9 => absurd h9 (by rw [hA_192]; exact Nat.not_lt.mpr h8)⟩ hT hF fr_rf hP hD hS (lv_sub hl [0] rfl)
          · have u_194 := hq_123.2.1 c_124
            refine lv_aload_n hx hb dX7_look_85 rfl (lv_at hl 0 rfl) ?_
            refine lv_iconst (v := 1) hx hb dX7_look_86 (by decide) ?_
            refine th_put (Tp := TyM a E) (Rl := fr [] [21, 22, 23, 24] C) (ci := 7) (v := .int 1) (ty := .int) (CC := RX7) (T := TX7) (N := 29) hx hb htg ig_7 tyX7 tyX7_ok nmX7 hown hK hP hD hS 0 (Nat.lt_of_lt_of_le (by decide) hn) (sM_0 hT) rfl 22 (by decide) (htg _ q_995) (fun _ h9 => h9) rfl (by decide +kernel) rfl rfl (Nat.le_of_ble_eq_true rfl) (hT.up 0 (by decide) ⟨rfl, (fM_0_7 hT), (fM_0_9 hT), (fM_0_11 hT), (fM_0_13 hT), (fM_0_15 hT), (fM_0_21 hT), (fM_0_23 hT)⟩) (fr_fd hF (sM_0 hT) (by decide)) dX7_look_87 (fun C_195 H locs e_196 hT hF hP hD hS => ?_)
            have t_197 := hT
            have L_90 : ∀ (d : Nat) (K90 : Nat → va_E) (H : Heap) (locs : List Loc) (ls : Array Slot), (250 - (gi (K90 0) 21).toInt).toNat = d → ((gi (C 0) 21).toInt ≤ (gi (K90 0) 23).toInt ∧ (gi (K90 0) 23).toInt ≤ (gi (K90 0) 21).toInt ∧ (gi (K90 0) 21).toInt ≤ (gi (K90 0) 7).toInt) → ((upto pL (ga (C 7)) (gi (C 0) 7) (gi (K90 0) 21)) = (upto pL (ga (C 7)) (gi (C 0) 7) (upto pB (ga (C 7)) (gi (C 0) 7) (gi (C 0) 21)))) → TyM a E K90 → fr [] [21, 22, 23, 24] C K90 → fr [] [21] C_195 K90 → va_P D vwCl (oh_W n a K90) H → va_D A (oh_W n a K90) → va_S A s.heap H locs → lv_has ls 1 [(0, .ref (a 0))] → W p l e ({ frames := 1, cells := 0, slots := 0, locals := 20 }) s m (([.ref (a 0)] : List Value).toArray) below meth c H locs 0 0 Q (F0 m 90 ls []) := by
              intro d
              induction d using Nat.strongRecOn with
              | ind d ih_90 =>
              intro K90  H locs ls hd_90 hv_90 hs_90 hT hF hLF_90 hP hD hS hl
              have t_198 := hT
              refine lv_aload_n hx hb dX7_look_90 rfl (lv_at hl 0 rfl) ?_
              refine va_get (D := D) (ci := 7) (v := .int (gi (K90 0) 21)) (C := RX7) (T := TX7) (N := 29) hx hb htg ig_7 hown hK hP 0 (oh_wg (Nat.lt_of_lt_of_le (by decide) hn) (sM_0 hT)) rfl 21 (by decide) (htg _ q_994) (fun _ h9 => h9) rfl dX7_look_91 ?_
              refine lv_aload_n hx hb dX7_look_94 rfl (lv_at hl 0 rfl) ?_
              refine va_get (D := D) (ci := 7) (v := .int (gi (C 0) 7)) (C := RX7) (T := TX7) (N := 29) hx hb htg ig_7 hown hK hP 0 (oh_wg (Nat.lt_of_lt_of_le (by decide) hn) (sM_0 hT)) rfl 7 (by decide) (htg _ q_980) (fun _ h9 => h9) (oh_fv (c := K90 0) (j := 7) rfl (Eq.trans (congrArg vi (hLF_90.2 7 (by decide))) (Eq.trans (show gi (C_195 0) 7 = gi (C_117 0) 7 by rw [e_196]; rfl) (Eq.trans (show gi (C_117 0) 7 = gi (C_114 0) 7 by rw [e_118]; rfl) (Eq.trans (show gi (C_114 0) 7 = gi (K0 0) 7 by rw [e_115]; rfl) (congrArg vi (hLF_0.2 7 (by decide)))))))) dX7_look_95 ?_
              refine lv_icmp_ge (tgt := 267) hx hb dX7_look_98 (by decide) (fun (c_199 : (gi (C 0) 7) ≤ (gi (K90 0) 21)) => ?_) (fun (c_199 : ¬ ((gi (C 0) 7) ≤ (gi (K90 0) 21))) => ?_)
              · have : (gi (C_195 0) 21).toInt = (gi (C_117 0) 21).toInt := congrArg Int32.toInt (show gi (C_195 0) 21 = gi (C_117 0) 21 by rw [e_196]; rfl)
                have : (gi (C_195 0) 7).toInt = (gi (C_117 0) 7).toInt := congrArg Int32.toInt (show gi (C_195 0) 7 = gi (C_117 0) 7 by rw [e_196]; rfl)
                have : (gi (C_195 0) 23).toInt = (gi (C_117 0) 23).toInt := congrArg Int32.toInt (show gi (C_195 0) 23 = gi (C_117 0) 23 by rw [e_196]; rfl)
                have : (gi (C_195 0) 13).toInt = (gi (C_117 0) 13).toInt := congrArg Int32.toInt (show gi (C_195 0) 13 = gi (C_117 0) 13 by rw [e_196]; rfl)
                have : (gi (K90 0) 7).toInt = (gi (C_195 0) 7).toInt := congrArg (fun z => (vi z).toInt) (hLF_90.2 7 (by decide))
                have : (gi (K90 0) 23).toInt = (gi (C_195 0) 23).toInt := congrArg (fun z => (vi z).toInt) (hLF_90.2 23 (by decide))
                have : (gi (K90 0) 13).toInt = (gi (C_195 0) 13).toInt := congrArg (fun z => (vi z).toInt) (hLF_90.2 13 (by decide))
                have : 0 ≤ (gi (C_195 0) 21).toInt ∧ (gi (C_195 0) 21).toInt ≤ 250 := fM_0_21 t_197
                have : 0 ≤ (gi (C_195 0) 7).toInt ∧ (gi (C_195 0) 7).toInt ≤ 250 := fM_0_7 t_197
                have : 0 ≤ (gi (C_195 0) 23).toInt ∧ (gi (C_195 0) 23).toInt ≤ 250 := fM_0_23 t_197
                have : 0 ≤ (gi (C_195 0) 13).toInt ∧ (gi (C_195 0) 13).toInt ≤ 5 := fM_0_13 t_197
                have : 0 ≤ (gi (K90 0) 21).toInt ∧ (gi (K90 0) 21).toInt ≤ 250 := fM_0_21 t_198
                have : 0 ≤ (gi (K90 0) 7).toInt ∧ (gi (K90 0) 7).toInt ≤ 250 := fM_0_7 t_198
                have : 0 ≤ (gi (K90 0) 23).toInt ∧ (gi (K90 0) 23).toInt ≤ 250 := fM_0_23 t_198
                have : 0 ≤ (gi (K90 0) 13).toInt ∧ (gi (K90 0) 13).toInt ≤ 5 := fM_0_13 t_198
                have : (gi (C 0) 7).toInt ≤ (gi (K90 0) 21).toInt := Int32.le_iff_toInt_le.mp c_199
                have hS_200 : gi (K0 0) 21 = (upto pB (ga (C 7)) (gi (C 0) 7) (gi (C 0) 21)) := Eq.trans (upto_stop (p := pB) (fun h8 => c_113 h8.2)).symm hs_0
                have hl_202 : (upto pB (ga (C 7)) (gi (C 0) 7) (gi (C 0) 21)) < gi (C 0) 7 := by rw [← hS_200]; exact Int32.lt_iff_toInt_lt.mpr (by omega)
                have hE_203 : gi (K90 0) 21 = (upto pL (ga (C 7)) (gi (C 0) 7) (upto pB (ga (C 7)) (gi (C 0) 7) (gi (C 0) 21))) := (Eq.trans (upto_stop (p := pL) (fun h8 => absurd h8.1 (Int32.not_lt.mpr c_199))).symm hs_90)
                have tk_201 := tk_word (S := (upto pB (ga (C 7)) (gi (C 0) 7) (gi (C 0) 21))) hE_203 (by rw [hE_203]; exact upto_gt (fM_0_7 hT0) (by rw [← hS_200]; exact (rg_w (lo := 0) (hi := 250) (rn_ltu (u' := 249) (Int32.not_le.mp c_2) (fM_0_21 t_1) (fM_0_7 hT0) (by decide)) (by decide))) hl_202 (by rw [← hS_200]; exact u_194))
                rw [hQ]
                exact W.vret hx hb hr (fun t ht hW => ⟨⟨K90, rfl, ⟨hT, hF, ⟨⟨(by omega), (by omega), (by omega)⟩, (pm_mk (Eq.trans (congrArg vi (hLF_90.2 7 (by decide))) (Eq.trans (show gi (C_195 0) 7 = gi (C_117 0) 7 by rw [e_196]; rfl) (Eq.trans (show gi (C_117 0) 7 = gi (C_114 0) 7 by rw [e_118]; rfl) (Eq.trans (show gi (C_114 0) 7 = gi (K0 0) 7 by rw [e_115]; rfl) (congrArg vi (hLF_0.2 7 (by decide))))))) (Eq.trans (Eq.trans (congrArg vi (hLF_90.2 22 (by decide))) (show gi (C_195 0) 22 = (1 : Int32) by rw [e_196]; rfl)) tk_201.1) (Eq.trans (Eq.trans (congrArg vi (hLF_90.2 23 (by decide))) (Eq.trans (show gi (C_195 0) 23 = gi (C_117 0) 23 by rw [e_196]; rfl) (Eq.trans (show gi (C_117 0) 23 = gi (C_114 0) 23 by rw [e_118]; rfl) (show gi (C_114 0) 23 = (gi (K0 0) 21) by rw [e_115]; rfl)))) hS_200) (Eq.trans rfl tk_201.2)), (Eq.trans (Eq.trans (congrArg vl (hLF_90.2 24 (by decide))) (Eq.trans (show gl (C_195 0) 24 = gl (C_117 0) 24 by rw [e_196]; rfl) (show gl (C_117 0) 24 = (0 : Int64) by rw [e_118]; rfl))) (pif_neg (fun h8 => absurd (Eq.trans (Eq.trans (congrArg vi (hLF_90.2 22 (by decide))) (show gi (C_195 0) 22 = (1 : Int32) by rw [e_196]; rfl)).symm h8) (by decide))).symm)⟩⟩, ⟨by rw [ht]; exact hP, hD⟩⟩, hS.F ht⟩) hS.2.2 dX7_look_267
              · refine lv_aload_n hx hb dX7_look_101 rfl (lv_at hl 0 rfl) ?_
                refine va_get (D := D) (ci := 7) (v := .ref (a 7)) (C := RX7) (T := TX7) (N := 29) hx hb htg ig_7 hown hK hP 0 (oh_wg (Nat.lt_of_lt_of_le (by decide) hn) (sM_0 hT)) rfl 6 (by decide) (htg _ q_979) (fun _ h9 => h9) rfl dX7_look_102 ?_
                refine lv_aload_n hx hb dX7_look_105 rfl (lv_at hl 0 rfl) ?_
                refine va_get (D := D) (ci := 7) (v := .int (gi (K90 0) 21)) (C := RX7) (T := TX7) (N := 29) hx hb htg ig_7 hown hK hP 0 (oh_wg (Nat.lt_of_lt_of_le (by decide) hn) (sM_0 hT)) rfl 21 (by decide) (htg _ q_994) (fun _ h9 => h9) rfl dX7_look_106 ?_
                have : (gi (C_195 0) 21).toInt = (gi (C_117 0) 21).toInt := congrArg Int32.toInt (show gi (C_195 0) 21 = gi (C_117 0) 21 by rw [e_196]; rfl)
                have : (gi (C_195 0) 7).toInt = (gi (C_117 0) 7).toInt := congrArg Int32.toInt (show gi (C_195 0) 7 = gi (C_117 0) 7 by rw [e_196]; rfl)
                have : (gi (C_195 0) 23).toInt = (gi (C_117 0) 23).toInt := congrArg Int32.toInt (show gi (C_195 0) 23 = gi (C_117 0) 23 by rw [e_196]; rfl)
                have : (gi (C_195 0) 13).toInt = (gi (C_117 0) 13).toInt := congrArg Int32.toInt (show gi (C_195 0) 13 = gi (C_117 0) 13 by rw [e_196]; rfl)
                have : (gi (K90 0) 7).toInt = (gi (C_195 0) 7).toInt := congrArg (fun z => (vi z).toInt) (hLF_90.2 7 (by decide))
                have : (gi (K90 0) 23).toInt = (gi (C_195 0) 23).toInt := congrArg (fun z => (vi z).toInt) (hLF_90.2 23 (by decide))
                have : (gi (K90 0) 13).toInt = (gi (C_195 0) 13).toInt := congrArg (fun z => (vi z).toInt) (hLF_90.2 13 (by decide))
                have : 0 ≤ (gi (C_195 0) 21).toInt ∧ (gi (C_195 0) 21).toInt ≤ 250 := fM_0_21 t_197
                have : 0 ≤ (gi (C_195 0) 7).toInt ∧ (gi (C_195 0) 7).toInt ≤ 250 := fM_0_7 t_197
                have : 0 ≤ (gi (C_195 0) 23).toInt ∧ (gi (C_195 0) 23).toInt ≤ 250 := fM_0_23 t_197
                have : 0 ≤ (gi (C_195 0) 13).toInt ∧ (gi (C_195 0) 13).toInt ≤ 5 := fM_0_13 t_197
                have : 0 ≤ (gi (K90 0) 21).toInt ∧ (gi (K90 0) 21).toInt ≤ 250 := fM_0_21 t_198
                have : 0 ≤ (gi (K90 0) 7).toInt ∧ (gi (K90 0) 7).toInt ≤ 250 := fM_0_7 t_198
                have : 0 ≤ (gi (K90 0) 23).toInt ∧ (gi (K90 0) 23).toInt ≤ 250 := fM_0_23 t_198
                have : 0 ≤ (gi (K90 0) 13).toInt ∧ (gi (K90 0) 13).toInt ≤ 5 := fM_0_13 t_198
                have : (gi (K90 0) 21).toInt < (gi (C 0) 7).toInt := Int32.lt_iff_toInt_lt.mp (Int32.not_le.mp c_199)
                have n_204 : vp_in (gi (K90 0) 21) 250 := (vp_in_iff.mpr ⟨by omega, by omega⟩)
                refine th_iald hx hb hK hP 7 (Nat.lt_of_lt_of_le (by decide) hn) (Eq.trans (Eq.trans (hLF_90.1 7 rfl (by decide)) (Eq.trans (th_un e_196 (by decide)) (Eq.trans (th_un e_118 (by decide)) (Eq.trans (th_un e_115 (by decide)) (hLF_0.1 7 rfl (by decide)))))) (sM_7 hT0)) n_204 dX7_look_109 ?_
                refine tq_S (As := [.int (ga (C 7) (gi (K90 0) 21).toNatClampNeg)]) (rest := []) (ws := []) ⟨hx, hb, hml, hown, htg⟩ (e_X7_isLetter l D E G (ga (C 7) (gi (K90 0) 21).toNatClampNeg)) (va_cwS 1 htg (oh_gS q_1201 q_1202 q_73 q_1203) rfl rfl rfl pdX7_isLetter ⟨Nat.le_of_ble_eq_true rfl, Nat.le_of_ble_eq_true rfl⟩) hK va_nil hG hS rfl hl.1 rfl (Nat.le_of_ble_eq_true rfl) dX7_look_110 ⟨Nat.le_of_ble_eq_true rfl, Nat.le_of_ble_eq_true rfl⟩ (fun r_205 hq_206 => ?_)
                refine lv_if_eq (tgt := 267) hx hb dX7_look_113 (by decide) (fun (c_207 : r_205 = 0) => ?_) (fun (c_207 : ¬ (r_205 = 0)) => ?_)
                · have u_208 := hq_206.2.2 c_207
                  have hS_209 : gi (K0 0) 21 = (upto pB (ga (C 7)) (gi (C 0) 7) (gi (C 0) 21)) := Eq.trans (upto_stop (p := pB) (fun h8 => c_113 h8.2)).symm hs_0
                  have hl_211 : (upto pB (ga (C 7)) (gi (C 0) 7) (gi (C 0) 21)) < gi (C 0) 7 := by rw [← hS_209]; exact Int32.lt_iff_toInt_lt.mpr (by omega)
                  have hE_212 : gi (K90 0) 21 = (upto pL (ga (C 7)) (gi (C 0) 7) (upto pB (ga (C 7)) (gi (C 0) 7) (gi (C 0) 21))) := (Eq.trans (upto_stop (p := pL) (fun h8 => u_208 h8.2)).symm hs_90)
                  have tk_210 := tk_word (S := (upto pB (ga (C 7)) (gi (C 0) 7) (gi (C 0) 21))) hE_212 (by rw [hE_212]; exact upto_gt (fM_0_7 hT0) (by rw [← hS_209]; exact (rg_w (lo := 0) (hi := 250) (rn_ltu (u' := 249) (Int32.not_le.mp c_2) (fM_0_21 t_1) (rn_ltl (l' := 1) (Int32.not_le.mp c_199) (fM_0_21 t_198) (fM_0_7 hT0) (by decide)) (by decide)) (by decide))) hl_211 (by rw [← hS_209]; exact u_194))
                  rw [hQ]
                  exact W.vret hx hb hr (fun t ht hW => ⟨⟨K90, rfl, ⟨hT, hF, ⟨⟨(by omega), (by omega), (by omega)⟩, (pm_mk (Eq.trans (congrArg vi (hLF_90.2 7 (by decide))) (Eq.trans (show gi (C_195 0) 7 = gi (C_117 0) 7 by rw [e_196]; rfl) (Eq.trans (show gi (C_117 0) 7 = gi (C_114 0) 7 by rw [e_118]; rfl) (Eq.trans (show gi (C_114 0) 7 = gi (K0 0) 7 by rw [e_115]; rfl) (congrArg vi (hLF_0.2 7 (by decide))))))) (Eq.trans (Eq.trans (congrArg vi (hLF_90.2 22 (by decide))) (show gi (C_195 0) 22 = (1 : Int32) by rw [e_196]; rfl)) tk_210.1) (Eq.trans (Eq.trans (congrArg vi (hLF_90.2 23 (by decide))) (Eq.trans (show gi (C_195 0) 23 = gi (C_117 0) 23 by rw [e_196]; rfl) (Eq.trans (show gi (C_117 0) 23 = gi (C_114 0) 23 by rw [e_118]; rfl) (show gi (C_114 0) 23 = (gi (K0 0) 21) by rw [e_115]; rfl)))) hS_209) (Eq.trans rfl tk_210.2)), (Eq.trans (Eq.trans (congrArg vl (hLF_90.2 24 (by decide))) (Eq.trans (show gl (C_195 0) 24 = gl (C_117 0) 24 by rw [e_196]; rfl) (show gl (C_117 0) 24 = (0 : Int64) by rw [e_118]; rfl))) (pif_neg (fun h8 => absurd (Eq.trans (Eq.trans (congrArg vi (hLF_90.2 22 (by decide))) (show gi (C_195 0) 22 = (1 : Int32) by rw [e_196]; rfl)).symm h8) (by decide))).symm)⟩⟩, ⟨by rw [ht]; exact hP, hD⟩⟩, hS.F ht⟩) hS.2.2 dX7_look_267
                · have u_213 := hq_206.2.1 c_207
                  refine lv_aload_n hx hb dX7_look_116 rfl (lv_at hl 0 rfl) ?_
                  refine lv_dup hx hb dX7_look_117 rfl ?_
                  refine va_get (D := D) (ci := 7) (v := .int (gi (K90 0) 21)) (C := RX7) (T := TX7) (N := 29) hx hb htg ig_7 hown hK hP 0 (oh_wg (Nat.lt_of_lt_of_le (by decide) hn) (sM_0 hT)) rfl 21 (by decide) (htg _ q_994) (fun _ h9 => h9) rfl dX7_look_118 ?_
                  refine lv_iconst (v := 1) hx hb dX7_look_121 (by decide) ?_
                  refine lv_iadd hx hb dX7_look_122 ?_
                  have hpf_123 : rg (gi (K90 0) 21) 0 249 := ⟨by omega, by omega⟩
                  refine th_put (Tp := TyM a E) (Rl := fr [] [21, 22, 23, 24] C) (ci := 7) (v := .int ((gi (K90 0) 21) + 1)) (ty := .int) (CC := RX7) (T := TX7) (N := 29) hx hb htg ig_7 tyX7 tyX7_ok nmX7 hown hK hP hD hS 0 (Nat.lt_of_lt_of_le (by decide) hn) (sM_0 hT) rfl 21 (by decide) (htg _ q_994) (fun _ h9 => h9) rfl (by decide +kernel) rfl rfl (Nat.le_of_ble_eq_true rfl) (hT.up 0 (by decide) ⟨rfl, (fM_0_7 hT), (fM_0_9 hT), (fM_0_11 hT), (fM_0_13 hT), (fM_0_15 hT), (rg_w (rg_add (lo := 1) (hi := 250) hpf_123 (rg_c (v := 1) (lo := 1) (hi := 1) (by decide)) (by decide)) (by decide)), (fM_0_23 hT)⟩) (fr_fd hF (sM_0 hT) (by decide)) dX7_look_123 (fun C_214 H locs e_215 hT hF hP hD hS => ?_)
                  have t_216 := hT
                  refine lv_goto (tgt := 90) hx hb dX7_look_126 (by decide) ?_
                  have : (gi (C_214 0) 21).toInt = ((gi (K90 0) 21) + 1).toInt := congrArg Int32.toInt (show gi (C_214 0) 21 = ((gi (K90 0) 21) + 1) by rw [e_215]; rfl)
                  have : ((gi (K90 0) 21) + 1).toInt = (gi (K90 0) 21).toInt + 1 := oh_incr (rn_ltu (u' := 249) (Int32.not_le.mp c_199) (fM_0_21 t_198) (rn_ltl (l' := 1) (Int32.not_le.mp c_2) (fM_0_21 t_1) (fM_0_7 hT0) (by decide)) (by decide)) (by decide)
                  have : (gi (C_214 0) 7).toInt = (gi (K90 0) 7).toInt := congrArg Int32.toInt (show gi (C_214 0) 7 = gi (K90 0) 7 by rw [e_215]; rfl)
                  have : (gi (C_214 0) 23).toInt = (gi (K90 0) 23).toInt := congrArg Int32.toInt (show gi (C_214 0) 23 = gi (K90 0) 23 by rw [e_215]; rfl)
                  have : (gi (C_214 0) 13).toInt = (gi (K90 0) 13).toInt := congrArg Int32.toInt (show gi (C_214 0) 13 = gi (K90 0) 13 by rw [e_215]; rfl)
                  have : 0 ≤ (gi (C_214 0) 21).toInt ∧ (gi (C_214 0) 21).toInt ≤ 250 := fM_0_21 t_216
                  have : 0 ≤ (gi (C_214 0) 7).toInt ∧ (gi (C_214 0) 7).toInt ≤ 250 := fM_0_7 t_216
                  have : 0 ≤ (gi (C_214 0) 23).toInt ∧ (gi (C_214 0) 23).toInt ≤ 250 := fM_0_23 t_216
                  have : 0 ≤ (gi (C_214 0) 13).toInt ∧ (gi (C_214 0) 13).toInt ≤ 5 := fM_0_13 t_216
                  exact ih_90 _ (hd_90 ▸ (by rw [(show gi (C_214 0) 21 = ((gi (K90 0) 21) + 1) by rw [e_215]; rfl)]; exact mu_up 250 (rn_ltu (u' := 249) (Int32.not_le.mp c_199) (fM_0_21 t_198) (rn_ltl (l' := 1) (Int32.not_le.mp c_2) (fM_0_21 t_1) (fM_0_7 hT0) (by decide)) (by decide)) (by decide))) C_214  _ _ ls rfl (by omega) (Eq.trans (congrArg (upto pL (ga (C 7)) (gi (C 0) 7)) (show gi (C_214 0) 21 = ((gi (K90 0) 21) + 1) by rw [e_215]; rfl)) (Eq.trans (upto_step (p := pL) (rn_ltu (u' := 249) (Int32.not_le.mp c_199) (fM_0_21 t_198) (fM_0_7 hT0) (by decide)) (Int32.not_le.mp c_199) u_213).symm hs_90)) hT hF (fr_fde hLF_90 e_215 (sM_0 t_198) (by decide)) hP hD hS (lv_sub hl [0] rfl)
            have : (gi (C_195 0) 21).toInt = (gi (C_117 0) 21).toInt := congrArg Int32.toInt (show gi (C_195 0) 21 = gi (C_117 0) 21 by rw [e_196]; rfl)
            have : (gi (C_195 0) 7).toInt = (gi (C_117 0) 7).toInt := congrArg Int32.toInt (show gi (C_195 0) 7 = gi (C_117 0) 7 by rw [e_196]; rfl)
            have : (gi (C_195 0) 23).toInt = (gi (C_117 0) 23).toInt := congrArg Int32.toInt (show gi (C_195 0) 23 = gi (C_117 0) 23 by rw [e_196]; rfl)
            have : (gi (C_195 0) 13).toInt = (gi (C_117 0) 13).toInt := congrArg Int32.toInt (show gi (C_195 0) 13 = gi (C_117 0) 13 by rw [e_196]; rfl)
            have : 0 ≤ (gi (C_195 0) 21).toInt ∧ (gi (C_195 0) 21).toInt ≤ 250 := fM_0_21 t_197
            have : 0 ≤ (gi (C_195 0) 7).toInt ∧ (gi (C_195 0) 7).toInt ≤ 250 := fM_0_7 t_197
            have : 0 ≤ (gi (C_195 0) 23).toInt ∧ (gi (C_195 0) 23).toInt ≤ 250 := fM_0_23 t_197
            have : 0 ≤ (gi (C_195 0) 13).toInt ∧ (gi (C_195 0) 13).toInt ≤ 5 := fM_0_13 t_197
            have hS_217 : gi (K0 0) 21 = (upto pB (ga (C 7)) (gi (C 0) 7) (gi (C 0) 21)) := Eq.trans (upto_stop (p := pB) (fun h8 => c_113 h8.2)).symm hs_0
            exact L_90 _ C_195  _ _ ls rfl (by omega) (congrArg (upto pL (ga (C 7)) (gi (C 0) 7)) (Eq.trans (Eq.trans (show gi (C_195 0) 21 = gi (C_117 0) 21 by rw [e_196]; rfl) (Eq.trans (show gi (C_117 0) 21 = gi (C_114 0) 21 by rw [e_118]; rfl) (show gi (C_114 0) 21 = gi (K0 0) 21 by rw [e_115]; rfl))) hS_217)) hT hF fr_rf hP hD hS (lv_sub hl [0] rfl)
        · refine lv_aload_n hx hb dX7_look_62 rfl (lv_at hl 0 rfl) ?_
          refine lv_iconst (v := 0) hx hb dX7_look_63 (by decide) ?_
          refine th_put (Tp := TyM a E) (Rl := fr [] [21, 22, 23, 24] C) (ci := 7) (v := .int 0) (ty := .int) (CC := RX7) (T := TX7) (N := 29) hx hb htg ig_7 tyX7 tyX7_ok nmX7 hown hK hP hD hS 0 (Nat.lt_of_lt_of_le (by decide) hn) (sM_0 hT) rfl 22 (by decide) (htg _ q_995) (fun _ h9 => h9) rfl (by decide +kernel) rfl rfl (Nat.le_of_ble_eq_true rfl) (hT.up 0 (by decide) ⟨rfl, (fM_0_7 hT), (fM_0_9 hT), (fM_0_11 hT), (fM_0_13 hT), (fM_0_15 hT), (fM_0_21 hT), (fM_0_23 hT)⟩) (fr_fd hF (sM_0 hT) (by decide)) dX7_look_64 (fun C_218 H locs e_219 hT hF hP hD hS => ?_)
          have t_220 := hT
          refine lv_goto (tgt := 267) hx hb dX7_look_67 (by decide) ?_
          have : (gi (C_114 0) 21).toInt = (gi (K0 0) 21).toInt := congrArg Int32.toInt (show gi (C_114 0) 21 = gi (K0 0) 21 by rw [e_115]; rfl)
          have : (gi (C_114 0) 7).toInt = (gi (K0 0) 7).toInt := congrArg Int32.toInt (show gi (C_114 0) 7 = gi (K0 0) 7 by rw [e_115]; rfl)
          have : (gi (C_114 0) 23).toInt = (gi (K0 0) 21).toInt := congrArg Int32.toInt (show gi (C_114 0) 23 = (gi (K0 0) 21) by rw [e_115]; rfl)
          have : (gi (C_114 0) 13).toInt = (gi (K0 0) 13).toInt := congrArg Int32.toInt (show gi (C_114 0) 13 = gi (K0 0) 13 by rw [e_115]; rfl)
          have : (gi (C_117 0) 21).toInt = (gi (C_114 0) 21).toInt := congrArg Int32.toInt (show gi (C_117 0) 21 = gi (C_114 0) 21 by rw [e_118]; rfl)
          have : (gi (C_117 0) 7).toInt = (gi (C_114 0) 7).toInt := congrArg Int32.toInt (show gi (C_117 0) 7 = gi (C_114 0) 7 by rw [e_118]; rfl)
          have : (gi (C_117 0) 23).toInt = (gi (C_114 0) 23).toInt := congrArg Int32.toInt (show gi (C_117 0) 23 = gi (C_114 0) 23 by rw [e_118]; rfl)
          have : (gi (C_117 0) 13).toInt = (gi (C_114 0) 13).toInt := congrArg Int32.toInt (show gi (C_117 0) 13 = gi (C_114 0) 13 by rw [e_118]; rfl)
          have : (gi (C_218 0) 21).toInt = (gi (C_117 0) 21).toInt := congrArg Int32.toInt (show gi (C_218 0) 21 = gi (C_117 0) 21 by rw [e_219]; rfl)
          have : (gi (C_218 0) 7).toInt = (gi (C_117 0) 7).toInt := congrArg Int32.toInt (show gi (C_218 0) 7 = gi (C_117 0) 7 by rw [e_219]; rfl)
          have : (gi (C_218 0) 23).toInt = (gi (C_117 0) 23).toInt := congrArg Int32.toInt (show gi (C_218 0) 23 = gi (C_117 0) 23 by rw [e_219]; rfl)
          have : (gi (C_218 0) 13).toInt = (gi (C_117 0) 13).toInt := congrArg Int32.toInt (show gi (C_218 0) 13 = gi (C_117 0) 13 by rw [e_219]; rfl)
          have : 0 ≤ (gi (C_114 0) 21).toInt ∧ (gi (C_114 0) 21).toInt ≤ 250 := fM_0_21 t_116
          have : 0 ≤ (gi (C_114 0) 7).toInt ∧ (gi (C_114 0) 7).toInt ≤ 250 := fM_0_7 t_116
          have : 0 ≤ (gi (C_114 0) 23).toInt ∧ (gi (C_114 0) 23).toInt ≤ 250 := fM_0_23 t_116
          have : 0 ≤ (gi (C_114 0) 13).toInt ∧ (gi (C_114 0) 13).toInt ≤ 5 := fM_0_13 t_116
          have : 0 ≤ (gi (C_117 0) 21).toInt ∧ (gi (C_117 0) 21).toInt ≤ 250 := fM_0_21 t_119
          have : 0 ≤ (gi (C_117 0) 7).toInt ∧ (gi (C_117 0) 7).toInt ≤ 250 := fM_0_7 t_119
          have : 0 ≤ (gi (C_117 0) 23).toInt ∧ (gi (C_117 0) 23).toInt ≤ 250 := fM_0_23 t_119
          have : 0 ≤ (gi (C_117 0) 13).toInt ∧ (gi (C_117 0) 13).toInt ≤ 5 := fM_0_13 t_119
          have : 0 ≤ (gi (C_218 0) 21).toInt ∧ (gi (C_218 0) 21).toInt ≤ 250 := fM_0_21 t_220
          have : 0 ≤ (gi (C_218 0) 7).toInt ∧ (gi (C_218 0) 7).toInt ≤ 250 := fM_0_7 t_220
          have : 0 ≤ (gi (C_218 0) 23).toInt ∧ (gi (C_218 0) 23).toInt ≤ 250 := fM_0_23 t_220
          have : 0 ≤ (gi (C_218 0) 13).toInt ∧ (gi (C_218 0) 13).toInt ≤ 5 := fM_0_13 t_220
          have hS_221 : gi (K0 0) 21 = (upto pB (ga (C 7)) (gi (C 0) 7) (gi (C 0) 21)) := Eq.trans (upto_stop (p := pB) (fun h8 => c_113 h8.2)).symm hs_0
          have tk_222 := tk_end (f := ga (C 7)) (n := gi (C 0) 7) (S := (upto pB (ga (C 7)) (gi (C 0) 7) (gi (C 0) 21))) (upto_st (upto_stop (p := pL) (fun h8 => absurd h8.1 (by rw [← hS_221, c_120]; exact Int32.lt_irrefl)))) (upto_st (upto_stop (p := pD) (fun h8 => absurd h8.1 (by rw [← hS_221, c_120]; exact Int32.lt_irrefl)))) (by rw [← hS_221, c_120]; exact Int32.le_refl _)
          rw [hQ]
          exact W.vret hx hb hr (fun t ht hW => ⟨⟨C_218, rfl, ⟨hT, hF, ⟨⟨(by omega), (by omega), (by omega)⟩, (pm_mk (Eq.trans (show gi (C_218 0) 7 = gi (C_117 0) 7 by rw [e_219]; rfl) (Eq.trans (show gi (C_117 0) 7 = gi (C_114 0) 7 by rw [e_118]; rfl) (Eq.trans (show gi (C_114 0) 7 = gi (K0 0) 7 by rw [e_115]; rfl) (congrArg vi (hLF_0.2 7 (by decide)))))) (Eq.trans (show gi (C_218 0) 22 = (0 : Int32) by rw [e_219]; rfl) tk_222.1) (Eq.trans (Eq.trans (show gi (C_218 0) 23 = gi (C_117 0) 23 by rw [e_219]; rfl) (Eq.trans (show gi (C_117 0) 23 = gi (C_114 0) 23 by rw [e_118]; rfl) (show gi (C_114 0) 23 = (gi (K0 0) 21) by rw [e_115]; rfl))) hS_221) (Eq.trans (Eq.trans (show gi (C_218 0) 21 = gi (C_117 0) 21 by rw [e_219]; rfl) (Eq.trans (show gi (C_117 0) 21 = gi (C_114 0) 21 by rw [e_118]; rfl) (show gi (C_114 0) 21 = gi (K0 0) 21 by rw [e_115]; rfl))) (Eq.trans hS_221 tk_222.2))), (Eq.trans (Eq.trans (show gl (C_218 0) 24 = gl (C_117 0) 24 by rw [e_219]; rfl) (show gl (C_117 0) 24 = (0 : Int64) by rw [e_118]; rfl)) (pif_neg (fun h8 => absurd (Eq.trans (show gi (C_218 0) 22 = (0 : Int32) by rw [e_219]; rfl).symm h8) (by decide))).symm)⟩⟩, ⟨by rw [ht]; exact hP, hD⟩⟩, hS.F ht⟩) hS.2.2 dX7_look_267
      · refine lv_aload_n hx hb dX7_look_25 rfl (lv_at hl 0 rfl) ?_
        refine lv_dup hx hb dX7_look_26 rfl ?_
        refine va_get (D := D) (ci := 7) (v := .int (gi (K0 0) 21)) (C := RX7) (T := TX7) (N := 29) hx hb htg ig_7 hown hK hP 0 (oh_wg (Nat.lt_of_lt_of_le (by decide) hn) (sM_0 hT)) rfl 21 (by decide) (htg _ q_994) (fun _ h9 => h9) rfl dX7_look_27 ?_
        refine lv_iconst (v := 1) hx hb dX7_look_30 (by decide) ?_
        refine lv_iadd hx hb dX7_look_31 ?_
        have hpf_32 : rg (gi (K0 0) 21) 0 249 := ⟨by omega, by omega⟩
        refine th_put (Tp := TyM a E) (Rl := fr [] [21, 22, 23, 24] C) (ci := 7) (v := .int ((gi (K0 0) 21) + 1)) (ty := .int) (CC := RX7) (T := TX7) (N := 29) hx hb htg ig_7 tyX7 tyX7_ok nmX7 hown hK hP hD hS 0 (Nat.lt_of_lt_of_le (by decide) hn) (sM_0 hT) rfl 21 (by decide) (htg _ q_994) (fun _ h9 => h9) rfl (by decide +kernel) rfl rfl (Nat.le_of_ble_eq_true rfl) (hT.up 0 (by decide) ⟨rfl, (fM_0_7 hT), (fM_0_9 hT), (fM_0_11 hT), (fM_0_13 hT), (fM_0_15 hT), (rg_w (rg_add (lo := 1) (hi := 250) hpf_32 (rg_c (v := 1) (lo := 1) (hi := 1) (by decide)) (by decide)) (by decide)), (fM_0_23 hT)⟩) (fr_fd hF (sM_0 hT) (by decide)) dX7_look_32 (fun C_223 H locs e_224 hT hF hP hD hS => ?_)
        have t_225 := hT
        refine lv_goto (tgt := 0) hx hb dX7_look_35 (by decide) ?_
        have : (gi (C_223 0) 21).toInt = ((gi (K0 0) 21) + 1).toInt := congrArg Int32.toInt (show gi (C_223 0) 21 = ((gi (K0 0) 21) + 1) by rw [e_224]; rfl)
        have : ((gi (K0 0) 21) + 1).toInt = (gi (K0 0) 21).toInt + 1 := oh_incr (rn_ltu (u' := 249) (Int32.not_le.mp c_2) (fM_0_21 t_1) (fM_0_7 hT0) (by decide)) (by decide)
        have : (gi (C_223 0) 7).toInt = (gi (K0 0) 7).toInt := congrArg Int32.toInt (show gi (C_223 0) 7 = gi (K0 0) 7 by rw [e_224]; rfl)
        have : (gi (C_223 0) 23).toInt = (gi (K0 0) 23).toInt := congrArg Int32.toInt (show gi (C_223 0) 23 = gi (K0 0) 23 by rw [e_224]; rfl)
        have : (gi (C_223 0) 13).toInt = (gi (K0 0) 13).toInt := congrArg Int32.toInt (show gi (C_223 0) 13 = gi (K0 0) 13 by rw [e_224]; rfl)
        have : 0 ≤ (gi (C_223 0) 21).toInt ∧ (gi (C_223 0) 21).toInt ≤ 250 := fM_0_21 t_225
        have : 0 ≤ (gi (C_223 0) 7).toInt ∧ (gi (C_223 0) 7).toInt ≤ 250 := fM_0_7 t_225
        have : 0 ≤ (gi (C_223 0) 23).toInt ∧ (gi (C_223 0) 23).toInt ≤ 250 := fM_0_23 t_225
        have : 0 ≤ (gi (C_223 0) 13).toInt ∧ (gi (C_223 0) 13).toInt ≤ 5 := fM_0_13 t_225
        exact ih_0 _ (hd_0 ▸ (by rw [(show gi (C_223 0) 21 = ((gi (K0 0) 21) + 1) by rw [e_224]; rfl)]; exact mu_up 250 (rn_ltu (u' := 249) (Int32.not_le.mp c_2) (fM_0_21 t_1) (fM_0_7 hT0) (by decide)) (by decide))) C_223  _ _ ls rfl (by omega) (Eq.trans (congrArg (upto pB (ga (C 7)) (gi (C 0) 7)) (show gi (C_223 0) 21 = ((gi (K0 0) 21) + 1) by rw [e_224]; rfl)) (Eq.trans (upto_step (p := pB) (rn_ltu (u' := 249) (Int32.not_le.mp c_2) (fM_0_21 t_1) (fM_0_7 hT0) (by decide)) (Int32.not_le.mp c_2) c_113).symm hs_0)) hT hF (fr_fde hLF_0 e_224 (sM_0 t_1) (by decide)) hP hD hS (lv_sub hl [0] rfl)
  have : 0 ≤ (gi (C 0) 21).toInt ∧ (gi (C 0) 21).toInt ≤ 250 := fM_0_21 hT0
  have : 0 ≤ (gi (C 0) 7).toInt ∧ (gi (C 0) 7).toInt ≤ 250 := fM_0_7 hT0
  have : 0 ≤ (gi (C 0) 23).toInt ∧ (gi (C 0) 23).toInt ≤ 250 := fM_0_23 hT0
  have : 0 ≤ (gi (C 0) 13).toInt ∧ (gi (C 0) 13).toInt ≤ 5 := fM_0_13 hT0
  exact L_0 _ C  _ _ ls rfl (by omega) rfl hT hF fr_rf hP hD hS (lv_sub hl [0] rfl)

set_option maxHeartbeats 4000000 in
set_option maxRecDepth 100000 in
theorem e_X7_isWord (l : Launch) (D : va_G) (E : Nat → ClassId) (G : Nat → Nat) (a : Nat → Nat) (C : Nat → va_E) (n : Nat) (hn : 74 ≤ n) (hT : TyM a E C) (j : Nat) (hj : j < 34) : Met l yX7_isWord (oh_w yX7_isWord cX7_isWord 3 (some .boolean)) ({ frames := 4, cells := 0, slots := 0, locals := 85 }) (oh_Pp D E G [.ref (a 0), .ref (G (3 + j))] (oh_W n a C)) (vp_Si (fun r => (r = 0 ∨ r = 1) ∧ (r ≠ 0 → (3 ≤ (gi (C 0) 21).toInt - (gi (C 0) 23).toInt) ∧ (XIs (ga (C 7)) (pm C) j)) ∧ (r = 0 → (¬ XIs (ga (C 7)) (pm C) j)))) 0 0 (fun _ => False) := by
  refine Met.ofW (cc := cX7_isWord) (maxL := 3) (ret := (some .boolean)) (by decide) rfl ?_
  intro p e s m args below meth c s₁ B hml hv
  obtain ⟨rfl, hP, hK, hG⟩ := hv
  have hx := B.exec
  have hb := B.bytes
  have hr := B.returns
  have hts := atoms_spec (ws := (oh_w yX7_isWord cX7_isWord 3 (some .boolean))) B.pre
  have htg : ∀ w ∈ oh_t, w.before _ s = true := fun w h => hts w (List.mem_cons_of_mem _ h)
  have hown : s.vm.findClass RX7 = some m.cls := findClass_of_methodNamed B.named
  have hlocks := B.notSynchronized
  have hT0 := hT
  have hS : va_S (fun _ => False) s.heap s.heap [] := va_S.rf
  have hl := lv_entry ([.ref (a 0), .ref (G (3 + j))]) (n := 3) (Nat.le_of_ble_eq_true rfl)
  rw [lg_entry_eq]
  generalize (lg_sl ([.ref (a 0), .ref (G (3 + j))]) ++ List.replicate (3 - (lg_sl ([.ref (a 0), .ref (G (3 + j))])).length) Slot.unset).toArray = ls at hl ⊢
  have hl : lv_has ls 3 [(0, .ref (a 0)), (1, .ref (G (3 + j)))] := hl
  refine oh_genQ (fun Q hQ => ?_)
  refine lv_aload_n hx hb dX7_isWord_0 rfl (lv_at hl 0 rfl) ?_
  refine va_get (D := D) (ci := 7) (v := .int (gi (C 0) 22)) (C := RX7) (T := TX7) (N := 29) hx hb htg ig_7 hown hK hP 0 (oh_wg (Nat.lt_of_lt_of_le (by decide) hn) (sM_0 hT)) rfl 22 (by decide) (htg _ q_995) (fun _ h9 => h9) rfl dX7_isWord_1 ?_
  refine lv_iconst (v := 1) hx hb dX7_isWord_4 (by decide) ?_
  refine lv_icmp_ne (tgt := 24) hx hb dX7_isWord_5 (by decide) (fun (c_1 : ¬ ((gi (C 0) 22) = 1)) => ?_) (fun (c_1 : (gi (C 0) 22) = 1) => ?_)
  · refine lv_iconst (v := 0) hx hb dX7_isWord_24 (by decide) ?_
    rw [hQ]
    exact W.zret (v := 0) (ty := .boolean) hx hb hr (by decide) (fun t ht hW => ⟨0, rfl, ⟨(Or.inl rfl), (fun h9 => absurd rfl h9), (fun _ => (fun h8 => c_1 h8.2.1))⟩, ht⟩) (fun q h => by cases h) dX7_isWord_25
  · refine lv_aload_n hx hb dX7_isWord_8 rfl (lv_at hl 0 rfl) ?_
    refine va_get (D := D) (ci := 7) (v := .int (gi (C 0) 21)) (C := RX7) (T := TX7) (N := 29) hx hb htg ig_7 hown hK hP 0 (oh_wg (Nat.lt_of_lt_of_le (by decide) hn) (sM_0 hT)) rfl 21 (by decide) (htg _ q_994) (fun _ h9 => h9) rfl dX7_isWord_9 ?_
    refine lv_aload_n hx hb dX7_isWord_12 rfl (lv_at hl 0 rfl) ?_
    refine va_get (D := D) (ci := 7) (v := .int (gi (C 0) 23)) (C := RX7) (T := TX7) (N := 29) hx hb htg ig_7 hown hK hP 0 (oh_wg (Nat.lt_of_lt_of_le (by decide) hn) (sM_0 hT)) rfl 23 (by decide) (htg _ q_996) (fun _ h9 => h9) rfl dX7_isWord_13 ?_
    refine lv_isub hx hb dX7_isWord_16 ?_
    refine lv_aload_n hx hb dX7_isWord_17 rfl (lv_at hl 1 rfl) ?_
    refine tq_V (As := []) (rest := [.int ((gi (C 0) 21) - (gi (C 0) 23))]) (ws := []) ⟨hx, hb, hml, hown, htg⟩ (c_J0_length_8abf5 l D E G j hj) (cwV 0 htg (oh_gV q_1219 q_522 q_523 q_75 q_524) rfl rfl rfl pdVJ0_length_8abf5 ⟨Nat.le_of_ble_eq_true rfl, Nat.le_of_ble_eq_true rfl⟩) hK va_nil hG hS (oh_srec hG hS hj) rfl hl.1 rfl (Nat.le_of_ble_eq_true rfl) dX7_isWord_18 ⟨Nat.le_of_ble_eq_true rfl, Nat.le_of_ble_eq_true rfl⟩ (fun r_2 hq_3 => ?_)
    subst hq_3
    refine lv_icmp_eq (tgt := 26) hx hb dX7_isWord_21 (by decide) (fun (c_4 : ((gi (C 0) 21) - (gi (C 0) 23)) = (Int32.ofNat (oh_len j))) => ?_) (fun (c_4 : ¬ (((gi (C 0) 21) - (gi (C 0) 23)) = (Int32.ofNat (oh_len j)))) => ?_)
    · refine lv_iconst (v := 0) hx hb dX7_isWord_26 (by decide) ?_
      refine lv_istore_n (lv' := [(2, .int 0), (0, .ref (a 0)), (1, .ref (G (3 + j)))]) hx hb dX7_isWord_27 rfl hl (by decide) rfl (fun ls hl => ?_)
      have L_28 : ∀ (d : Nat) (z28_2 : Int32) (ls : Array Slot), (6 - z28_2.toInt).toNat = d → rg z28_2 0 6 → (∀ i : Nat, (i : Int) < z28_2.toInt → ga (C 7) ((gi (C 0) 23).toNatClampNeg + i) = oh_byt j i) → lv_has ls 3 [(2, .int z28_2), (0, .ref (a 0)), (1, .ref (G (3 + j)))] → W p l e ({ frames := 4, cells := 0, slots := 0, locals := 85 }) s m (([.ref (a 0), .ref (G (3 + j))] : List Value).toArray) below meth c s.heap [] 0 0 Q (F0 m 28 ls []) := by
        intro d
        induction d using Nat.strongRecOn with
        | ind d ih_28 =>
        intro z28_2 ls hd_28 hz28_2 hx_28 hl
        refine lv_iload_n hx hb dX7_isWord_28 rfl (lv_at hl 0 rfl) ?_
        refine lv_aload_n hx hb dX7_isWord_29 rfl (lv_at hl 2 rfl) ?_
        refine tq_V (As := []) (rest := [.int z28_2]) (ws := []) ⟨hx, hb, hml, hown, htg⟩ (c_J0_length_8abf5 l D E G j hj) (cwV 0 htg (oh_gV q_1219 q_522 q_523 q_75 q_524) rfl rfl rfl pdVJ0_length_8abf5 ⟨Nat.le_of_ble_eq_true rfl, Nat.le_of_ble_eq_true rfl⟩) hK va_nil hG hS (oh_srec hG hS hj) rfl hl.1 rfl (Nat.le_of_ble_eq_true rfl) dX7_isWord_30 ⟨Nat.le_of_ble_eq_true rfl, Nat.le_of_ble_eq_true rfl⟩ (fun r_5 hq_6 => ?_)
        subst hq_6
        refine lv_icmp_ge (tgt := 63) hx hb dX7_isWord_33 (by decide) (fun (c_7 : (Int32.ofNat (oh_len j)) ≤ z28_2) => ?_) (fun (c_7 : ¬ ((Int32.ofNat (oh_len j)) ≤ z28_2)) => ?_)
        · refine lv_iconst (v := 1) hx hb dX7_isWord_63 (by decide) ?_
          rw [hQ]
          exact W.zret (v := 1) (ty := .boolean) hx hb hr (by decide) (fun t ht hW => ⟨1, rfl, ⟨(Or.inr rfl), (fun _ => ⟨(oh_wl (fM_0_21 hT0) (fM_0_23 hT0) c_4 (oh_lenr hj)), ⟨rfl, c_1, c_4, xw_all hj c_7 hx_28⟩⟩), (fun h9 => absurd h9 (by decide))⟩, ht⟩) (fun q h => by cases h) dX7_isWord_64
        · refine lv_aload_n hx hb dX7_isWord_36 rfl (lv_at hl 1 rfl) ?_
          refine va_get (D := D) (ci := 7) (v := .ref (a 7)) (C := RX7) (T := TX7) (N := 29) hx hb htg ig_7 hown hK hP 0 (oh_wg (Nat.lt_of_lt_of_le (by decide) hn) (sM_0 hT)) rfl 6 (by decide) (htg _ q_979) (fun _ h9 => h9) rfl dX7_isWord_37 ?_
          refine lv_aload_n hx hb dX7_isWord_40 rfl (lv_at hl 1 rfl) ?_
          refine va_get (D := D) (ci := 7) (v := .int (gi (C 0) 23)) (C := RX7) (T := TX7) (N := 29) hx hb htg ig_7 hown hK hP 0 (oh_wg (Nat.lt_of_lt_of_le (by decide) hn) (sM_0 hT)) rfl 23 (by decide) (htg _ q_996) (fun _ h9 => h9) rfl dX7_isWord_41 ?_
          refine lv_iload_n hx hb dX7_isWord_44 rfl (lv_at hl 0 rfl) ?_
          refine lv_iadd hx hb dX7_isWord_45 ?_
          have n_8 : vp_in ((gi (C 0) 23) + z28_2) 250 := (oh_wix (fM_0_21 hT0) (fM_0_23 hT0) c_4 (rg_w (rn_ltu (u' := 5) (Int32.not_le.mp c_7) hz28_2 (oh_lenr hj) (by decide)) (by decide)) (Int32.not_le.mp c_7))
          refine th_iald hx hb hK hP 7 (Nat.lt_of_lt_of_le (by decide) hn) (sM_7 hT) n_8 dX7_isWord_46 ?_
          refine lv_aload_n hx hb dX7_isWord_47 rfl (lv_at hl 2 rfl) ?_
          refine lv_iload_n hx hb dX7_isWord_48 rfl (lv_at hl 0 rfl) ?_
          refine tq_V (As := [.int z28_2]) (rest := [.int (ga (C 7) ((gi (C 0) 23) + z28_2).toNatClampNeg)]) (ws := []) ⟨hx, hb, hml, hown, htg⟩ (c_J0_charAt_5068e l D E G j z28_2 hj (oh_nn (rn_ltu (u' := 5) (Int32.not_le.mp c_7) hz28_2 (oh_lenr hj) (by decide)) (by decide)) (Int32.not_le.mp c_7)) (cwV 1 htg (oh_gV q_1220 q_532 q_533 q_75 q_534) rfl rfl rfl pdVJ0_charAt_5068e ⟨Nat.le_of_ble_eq_true rfl, Nat.le_of_ble_eq_true rfl⟩) hK va_nil hG hS (oh_srec hG hS hj) rfl hl.1 rfl (Nat.le_of_ble_eq_true rfl) dX7_isWord_49 ⟨Nat.le_of_ble_eq_true rfl, Nat.le_of_ble_eq_true rfl⟩ (fun r_9 hq_10 => ?_)
          subst hq_10
          refine lv_icmp_eq (tgt := 57) hx hb dX7_isWord_52 (by decide) (fun (c_11 : (ga (C 7) ((gi (C 0) 23) + z28_2).toNatClampNeg) = (oh_byt j (z28_2).toNatClampNeg)) => ?_) (fun (c_11 : ¬ ((ga (C 7) ((gi (C 0) 23) + z28_2).toNatClampNeg) = (oh_byt j (z28_2).toNatClampNeg))) => ?_)
          · refine lv_iinc (v := z28_2 + 1) (lv' := [(2, .int (z28_2 + 1)), (0, .ref (a 0)), (1, .ref (G (3 + j)))]) hx hb dX7_isWord_57 hl (k := 0) rfl (by rfl) (by decide) rfl (fun ls hl => ?_)
            refine lv_goto (tgt := 28) hx hb dX7_isWord_60 (by decide) ?_
            exact ih_28 _ (hd_28 ▸ mu_up 6 (rn_ltu (u' := 5) (Int32.not_le.mp c_7) hz28_2 (oh_lenr hj) (by decide)) (by decide)) (z28_2 + 1) ls rfl (rg_w (rg_add (lo := 1) (hi := 6) (rn_ltu (u' := 5) (Int32.not_le.mp c_7) hz28_2 (oh_lenr hj) (by decide)) (rg_c (v := 1) (lo := 1) (hi := 1) (by decide)) (by decide)) (by decide)) (xw_step (fM_0_23 hT0) (rn_ltu (u' := 5) (Int32.not_le.mp c_7) hz28_2 (oh_lenr hj) (by decide)) (by decide) hx_28 c_11) (lv_sub hl [0, 1, 2] rfl)
          · refine lv_iconst (v := 0) hx hb dX7_isWord_55 (by decide) ?_
            rw [hQ]
            exact W.zret (v := 0) (ty := .boolean) hx hb hr (by decide) (fun t ht hW => ⟨0, rfl, ⟨(Or.inl rfl), (fun h9 => absurd rfl h9), (fun _ => (fun h8 => xw_no hj (fM_0_23 hT0) (rn_ltu (u' := 5) (Int32.not_le.mp c_7) hz28_2 (oh_lenr hj) (by decide)) (by decide) (Int32.not_le.mp c_7) c_11 h8.2.2.2))⟩, ht⟩) (fun q h => by cases h) dX7_isWord_56
      exact L_28 _ 0 ls rfl (rg_w (rg_c (v := 0) (lo := 0) (hi := 0) (by decide)) (by decide)) xw_0 (lv_sub hl [0, 1, 2] rfl)
    · refine lv_iconst (v := 0) hx hb dX7_isWord_24 (by decide) ?_
      rw [hQ]
      exact W.zret (v := 0) (ty := .boolean) hx hb hr (by decide) (fun t ht hW => ⟨0, rfl, ⟨(Or.inl rfl), (fun h9 => absurd rfl h9), (fun _ => (fun h8 => c_4 h8.2.2.1))⟩, ht⟩) (fun q h => by cases h) dX7_isWord_25

set_option maxHeartbeats 4000000 in
set_option maxRecDepth 100000 in
theorem e_X7_wrong (l : Launch) (D : va_G) (E : Nat → ClassId) (G : Nat → Nat) (sz : Nat) (a : Nat → Nat) (C : Nat → va_E) (n : Nat) (hn : 74 ≤ n) (hT : TyM a E C) : Met l yX7_wrong (oh_w yX7_wrong cX7_wrong 1 (some .boolean)) ({ frames := 0, cells := 0, slots := 0, locals := 0 }) (oh_Pm D E G [.ref (a 0)] (oh_W n a C) sz) (va_Qi (fun r (u : Nat → va_E) => TyM a E u ∧ fr [] [25] C u ∧ (r = 0 ∨ r = 1) ∧ (r = 0) ∧ (gi (u 0) 25 = gi (C 0) 23)) (oh_B D (va_A (oh_W n a C) sz) (fun u => oh_W n a u)) (va_A (oh_W n a C) sz)) 0 0 (va_A (oh_W n a C) sz) := by
  refine Met.ofW (cc := cX7_wrong) (maxL := 1) (ret := (some .boolean)) (by decide) rfl ?_
  intro p e s m args below meth c s₁ B hml hv
  obtain ⟨rfl, hsz, hP, hK, hD0, hG⟩ := hv
  have hx := B.exec
  have hb := B.bytes
  have hr := B.returns
  have hts := atoms_spec (ws := (oh_w yX7_wrong cX7_wrong 1 (some .boolean))) B.pre
  have htg : ∀ w ∈ oh_t, w.before _ s = true := fun w h => hts w (List.mem_cons_of_mem _ h)
  have hown : s.vm.findClass RX7 = some m.cls := findClass_of_methodNamed B.named
  have hlocks := B.notSynchronized
  have hT0 := hT
  subst hsz
  have hD := hD0.self (sz := s.heap.size)
  generalize hAe : va_A (oh_W n a C) s.heap.size = A at hD hG ⊢
  have hA : ∀ q : Nat, s.heap.size ≤ q → A q := fun q h => by rw [← hAe]; exact Or.inr h
  have hS : va_S A s.heap s.heap [] := va_S.rf
  have hF : fr [] [25] C C := fr_rf
  have hl := lv_entry ([.ref (a 0)]) (n := 1) (Nat.le_of_ble_eq_true rfl)
  rw [lg_entry_eq]
  generalize (lg_sl ([.ref (a 0)]) ++ List.replicate (1 - (lg_sl ([.ref (a 0)])).length) Slot.unset).toArray = ls at hl ⊢
  have hl : lv_has ls 1 [(0, .ref (a 0))] := hl
  refine oh_genQ (fun Q hQ => ?_)
  refine lv_aload_n hx hb dX7_wrong_0 rfl (lv_at hl 0 rfl) ?_
  refine lv_aload_n hx hb dX7_wrong_1 rfl (lv_at hl 0 rfl) ?_
  refine va_get (D := D) (ci := 7) (v := .int (gi (C 0) 23)) (C := RX7) (T := TX7) (N := 29) hx hb htg ig_7 hown hK hP 0 (oh_wg (Nat.lt_of_lt_of_le (by decide) hn) (sM_0 hT)) rfl 23 (by decide) (htg _ q_996) (fun _ h9 => h9) rfl dX7_wrong_2 ?_
  refine th_put (Tp := TyM a E) (Rl := fr [] [25] C) (ci := 7) (v := .int (gi (C 0) 23)) (ty := .int) (CC := RX7) (T := TX7) (N := 29) hx hb htg ig_7 tyX7 tyX7_ok nmX7 hown hK hP hD hS 0 (Nat.lt_of_lt_of_le (by decide) hn) (sM_0 hT) rfl 25 (by decide) (htg _ q_998) (fun _ h9 => h9) rfl (by decide +kernel) rfl rfl (Nat.le_of_ble_eq_true rfl) (hT.up 0 (by decide) ⟨rfl, (fM_0_7 hT), (fM_0_9 hT), (fM_0_11 hT), (fM_0_13 hT), (fM_0_15 hT), (fM_0_21 hT), (fM_0_23 hT)⟩) (fr_fd hF (sM_0 hT) (by decide)) dX7_wrong_5 (fun C_1 H locs e_2 hT hF hP hD hS => ?_)
  have t_3 := hT
  refine lv_iconst (v := 0) hx hb dX7_wrong_8 (by decide) ?_
  rw [hQ]
  exact W.zret (v := 0) (ty := .boolean) hx hb hr (by decide) (fun t ht hW => ⟨⟨0, C_1, rfl, ⟨hT, hF, ⟨(Or.inl rfl), rfl, (show gi (C_1 0) 25 = (gi (C 0) 23) by rw [e_2]; rfl)⟩⟩, ⟨by rw [ht]; exact hP, hD⟩⟩, hS.F ht⟩) hS.2.2 dX7_wrong_9

/-- the figures are those of the token -/
def FG (C : Nat → va_E) : Prop := gl (C 0) 24 = figOf (ga (C 7)) (pm C)
theorem fgR {C u : Nat → va_E} {mc : List (Nat × Nat)} {mf : List Nat} (h : FG C) (hf : fr mc mf C u) (e7 : u 7 = C 7) (hd : (!mf.contains 7 && !mf.contains 21 && !mf.contains 22 && !mf.contains 23 && !mf.contains 24) = true) : FG u := by
  simp only [Bool.and_eq_true] at hd
  obtain ⟨⟨⟨⟨d7, d21⟩, d22⟩, d23⟩, d24⟩ := hd
  have e := fun i hi => hf.2 i hi
  unfold FG pm at *
  rw [e7, show gl (u 0) 24 = gl (C 0) 24 from congrArg vl (e 24 (by simpa using d24)), show gi (u 0) 7 = gi (C 0) 7 from congrArg vi (e 7 (by simpa using d7)), show gi (u 0) 21 = gi (C 0) 21 from congrArg vi (e 21 (by simpa using d21)), show gi (u 0) 22 = gi (C 0) 22 from congrArg vi (e 22 (by simpa using d22)), show gi (u 0) 23 = gi (C 0) 23 from congrArg vi (e 23 (by simpa using d23))]
  exact h
theorem fgF {C u : Nat → va_E} {ci j : Nat} {fs : List Value} {v : Value} (h : FG C) (e : u = updc C 0 (.inr (ci, fs.set j v))) (hs : C 0 = .inr (ci, fs)) (hd : (!([j] : List Nat).contains 7 && !([j] : List Nat).contains 21 && !([j] : List Nat).contains 22 && !([j] : List Nat).contains 23 && !([j] : List Nat).contains 24) = true) : FG u :=
  fgR h (fr_fde (mc := []) (mf := [j]) fr_rf e hs (List.mem_singleton.mpr rfl)) (th_un e (by decide)) hd
theorem pm_c {C u : Nat → va_E} (e0 : u 0 = C 0) : pm u = pm C := by
  unfold pm
  rw [e0]

theorem fgL {C u : Nat → va_E} (h : gl (u 0) 24 = figOf (ga (C 7)) (pm u)) (e7 : u 7 = C 7) : FG u := by
  unfold FG
  rw [e7]
  exact h

set_option maxHeartbeats 4000000 in
set_option maxRecDepth 100000 in
theorem e_X7_number (l : Launch) (D : va_G) (E : Nat → ClassId) (G : Nat → Nat) (sz : Nat) (a : Nat → Nat) (C : Nat → va_E) (n : Nat) (hn : 74 ≤ n) (hT : TyM a E C) (k : Nat) (x1 : Int32) (x2 : Int32) (x3 : Int32) (hx2 : rg x2 0 999) (hx3 : rg x3 (-1) 999) (hok : okR a E n k x1 x2 x3) (hat : (gi (C 0) 21).toInt ≤ (gi (C 0) 7).toInt) (hfg : FG C) (hft : (gi (C 0) 23).toInt ≤ (gi (C 0) 21).toInt) (hk7 : k ≠ 7) : Met l yX7_number (oh_w yX7_number cX7_number 5 (some .boolean)) ({ frames := 2, cells := 0, slots := 0, locals := 40 }) (oh_Pm D E G [.ref (a 0), .ref (a k), .int x1, .int x2, .int x3] (oh_W n a C) sz) (va_Qi (fun r (u : Nat → va_E) => TyM a E u ∧ fr [(k, k + 1)] [21, 22, 23, 24, 25] C u ∧ (r = 0 ∨ r = 1) ∧ (((gi (C 0) 21).toInt ≤ (gi (u 0) 21).toInt) ∧ ((gi (u 0) 21).toInt ≤ (gi (u 0) 7).toInt)) ∧ (∀ jj, jj ≠ x1.toNatClampNeg → ga (u k) jj = ga (C k) jj) ∧ (r ≠ 0 → (x2.toInt ≤ (ga (u k) x1.toNatClampNeg).toInt)) ∧ (r ≠ 0 → (mNum (ga (C 7)) x2 x3 (pm C) = .ok (ga (u k) x1.toNatClampNeg, pm u))) ∧ (r = 0 → (mNum (ga (C 7)) x2 x3 (pm C) = .error (gi (u 0) 25))) ∧ (r = 0 → (u k = C k)) ∧ (FG u) ∧ ((gi (u 0) 23).toInt ≤ (gi (u 0) 21).toInt)) (oh_B D (va_A (oh_W n a C) sz) (fun u => oh_W n a u)) (va_A (oh_W n a C) sz)) 0 0 (va_A (oh_W n a C) sz) := by
  refine Met.ofW (cc := cX7_number) (maxL := 5) (ret := (some .boolean)) (by decide) rfl ?_
  intro p e s m args below meth c s₁ B hml hv
  obtain ⟨rfl, hsz, hP, hK, hD0, hG⟩ := hv
  have hx := B.exec
  have hb := B.bytes
  have hr := B.returns
  have hts := atoms_spec (ws := (oh_w yX7_number cX7_number 5 (some .boolean))) B.pre
  have htg : ∀ w ∈ oh_t, w.before _ s = true := fun w h => hts w (List.mem_cons_of_mem _ h)
  have hown : s.vm.findClass RX7 = some m.cls := findClass_of_methodNamed B.named
  have hlocks := B.notSynchronized
  have hT0 := hT
  subst hsz
  have hD := hD0.self (sz := s.heap.size)
  generalize hAe : va_A (oh_W n a C) s.heap.size = A at hD hG ⊢
  have hA : ∀ q : Nat, s.heap.size ≤ q → A q := fun q h => by rw [← hAe]; exact Or.inr h
  have hS : va_S A s.heap s.heap [] := va_S.rf
  have hF : fr [(k, k + 1)] [21, 22, 23, 24, 25] C C := fr_rf
  have hl := lv_entry ([.ref (a 0), .ref (a k), .int x1, .int x2, .int x3]) (n := 5) (Nat.le_of_ble_eq_true rfl)
  rw [lg_entry_eq]
  generalize (lg_sl ([.ref (a 0), .ref (a k), .int x1, .int x2, .int x3]) ++ List.replicate (5 - (lg_sl ([.ref (a 0), .ref (a k), .int x1, .int x2, .int x3])).length) Slot.unset).toArray = ls at hl ⊢
  have hl : lv_has ls 5 [(0, .ref (a 0)), (1, .ref (a k)), (2, .int x1), (3, .int x2), (4, .int x3)] := hl
  refine oh_genQ (fun Q hQ => ?_)
  have hok0 := hok
  obtain ⟨hk1, hk0, N1, hs1, hi1, hu1⟩ := hok
  have hok := hok0
  refine lv_aload_n hx hb dX7_number_0 rfl (lv_at hl 0 rfl) ?_
  refine va_get (D := D) (ci := 7) (v := .int (gi (C 0) 22)) (C := RX7) (T := TX7) (N := 29) hx hb htg ig_7 hown hK hP 0 (oh_wg (Nat.lt_of_lt_of_le (by decide) hn) (sM_0 hT)) rfl 22 (by decide) (htg _ q_995) (fun _ h9 => h9) rfl dX7_number_1 ?_
  refine lv_iconst (v := 2) hx hb dX7_number_4 (by decide) ?_
  refine lv_icmp_ne (tgt := 23) hx hb dX7_number_5 (by decide) (fun (c_1 : ¬ ((gi (C 0) 22) = 2)) => ?_) (fun (c_1 : (gi (C 0) 22) = 2) => ?_)
  · refine lv_aload_n hx hb dX7_number_23 rfl (lv_at hl 0 rfl) ?_
    refine tm_V (As := []) (rest := []) ⟨hx, hb, hml, hown, htg⟩ (e_X7_wrong l D E G _ a C n hn hT) (cwV 0 htg (oh_gV q_1229 q_1231 q_44 q_73 q_1232) rfl rfl rfl pdVX7_wrong ⟨Nat.le_of_ble_eq_true rfl, Nat.le_of_ble_eq_true rfl⟩) hK hP hD hG hS hA (va_recv hK hP (ci := 7) (q0 := 0) rfl (oh_wg (Nat.lt_of_lt_of_le (by decide) hn) (sM_0 hT))) rfl hl.1 rfl (Nat.le_of_ble_eq_true rfl) dX7_number_24 ⟨Nat.le_of_ble_eq_true rfl, Nat.le_of_ble_eq_true rfl⟩ (fun r_2 C_3 H locs hq_4 hP hD hS => ?_)
    obtain ⟨hT, f_5, hq_4⟩ := hq_4
    have hF := fr_tr hF f_5 rfl (by decide)
    refine W.widen (k := 0) (n := 0) (Nat.le_refl _) (Nat.le_refl _) ?_
    have t_6 := hT
    have : (gi (C_3 0) 21).toInt = (gi (C 0) 21).toInt := congrArg (fun z => (vi z).toInt) (f_5.2 21 (by decide))
    have : (gi (C_3 0) 7).toInt = (gi (C 0) 7).toInt := congrArg (fun z => (vi z).toInt) (f_5.2 7 (by decide))
    have : (gi (C_3 0) 23).toInt = (gi (C 0) 23).toInt := congrArg (fun z => (vi z).toInt) (f_5.2 23 (by decide))
    have : (gi (C_3 0) 13).toInt = (gi (C 0) 13).toInt := congrArg (fun z => (vi z).toInt) (f_5.2 13 (by decide))
    have : 0 ≤ (gi (C 0) 21).toInt ∧ (gi (C 0) 21).toInt ≤ 250 := fM_0_21 hT0
    have : 0 ≤ (gi (C 0) 7).toInt ∧ (gi (C 0) 7).toInt ≤ 250 := fM_0_7 hT0
    have : 0 ≤ (gi (C 0) 23).toInt ∧ (gi (C 0) 23).toInt ≤ 250 := fM_0_23 hT0
    have : 0 ≤ (gi (C 0) 13).toInt ∧ (gi (C 0) 13).toInt ≤ 5 := fM_0_13 hT0
    have : 0 ≤ (gi (C_3 0) 21).toInt ∧ (gi (C_3 0) 21).toInt ≤ 250 := fM_0_21 t_6
    have : 0 ≤ (gi (C_3 0) 7).toInt ∧ (gi (C_3 0) 7).toInt ≤ 250 := fM_0_7 t_6
    have : 0 ≤ (gi (C_3 0) 23).toInt ∧ (gi (C_3 0) 23).toInt ≤ 250 := fM_0_23 t_6
    have : 0 ≤ (gi (C_3 0) 13).toInt ∧ (gi (C_3 0) 13).toInt ≤ 5 := fM_0_13 t_6
    have : (2 : Int32).toInt = 2 := rfl
    have : ¬ (gi (C 0) 22).toInt = (2 : Int32).toInt := fun h7 => c_1 (Int32.toInt_inj.mp h7)
    rw [hQ]
    exact W.zret (v := r_2) (ty := .boolean) hx hb hr (oh_nb hq_4.1) (fun t ht hW => ⟨⟨r_2, C_3, rfl, ⟨hT, hF, ⟨hq_4.1, ⟨(by omega), (by omega)⟩, (fun j hj => congrArg (fun z => ga z j) (f_5.1 k rfl hk0)), (fun h9 => (absurd hq_4.2.1 h9)), (fun h9 => (absurd hq_4.2.1 h9)), (fun h9 => (Eq.trans (mN_t hx2.1 c_1) (congrArg Except.error hq_4.2.2.symm))), (fun h9 => (f_5.1 k rfl hk0)), (fgR hfg f_5 (f_5.1 7 rfl (by decide)) (by decide)), (by omega)⟩⟩, ⟨by rw [ht]; exact hP, hD⟩⟩, hS.F ht⟩) hS.2.2 dX7_number_27
  · refine lv_aload_n hx hb dX7_number_8 rfl (lv_at hl 0 rfl) ?_
    refine va_get (D := D) (ci := 7) (v := .long (gl (C 0) 24)) (C := RX7) (T := TX7) (N := 29) hx hb htg ig_7 hown hK hP 0 (oh_wg (Nat.lt_of_lt_of_le (by decide) hn) (sM_0 hT)) rfl 24 (by decide) (htg _ q_997) (fun _ h9 => h9) rfl dX7_number_9 ?_
    refine lv_iload_n hx hb dX7_number_12 rfl (lv_at hl 3 rfl) ?_
    refine lv_i2l (v := Int32.toInt64 x2) hx hb dX7_number_13 (by rfl) ?_
    refine lv_iload hx hb dX7_number_14 (lv_at hl 4 rfl) ?_
    refine lv_i2l (v := Int32.toInt64 x3) hx hb dX7_number_16 (by rfl) ?_
    refine tq_S (As := [.long (gl (C 0) 24), .long (Int32.toInt64 x2), .long (Int32.toInt64 x3)]) (rest := []) (ws := []) ⟨hx, hb, hml, hown, htg⟩ (c_X7_in l D E G (gl (C 0) 24) (Int32.toInt64 x2) (Int32.toInt64 x3)) (va_cwS 3 htg (oh_gS q_1066 q_1067 q_73 q_1068) rfl rfl rfl pdX7_in ⟨Nat.le_of_ble_eq_true rfl, Nat.le_of_ble_eq_true rfl⟩) hK va_nil hG hS rfl hl.1 rfl (Nat.le_of_ble_eq_true rfl) dX7_number_17 ⟨Nat.le_of_ble_eq_true rfl, Nat.le_of_ble_eq_true rfl⟩ (fun r_7 hq_8 => ?_)
    refine lv_if_ne (tgt := 28) hx hb dX7_number_20 (by decide) (fun (c_9 : ¬ (r_7 = 0)) => ?_) (fun (c_9 : r_7 = 0) => ?_)
    · have u_10 := hq_8.2.1 c_9
      refine lv_aload_n hx hb dX7_number_28 rfl (lv_at hl 1 rfl) ?_
      refine lv_iload_n hx hb dX7_number_29 rfl (lv_at hl 2 rfl) ?_
      refine lv_aload_n hx hb dX7_number_30 rfl (lv_at hl 0 rfl) ?_
      refine va_get (D := D) (ci := 7) (v := .long (gl (C 0) 24)) (C := RX7) (T := TX7) (N := 29) hx hb htg ig_7 hown hK hP 0 (oh_wg (Nat.lt_of_lt_of_le (by decide) hn) (sM_0 hT)) rfl 24 (by decide) (htg _ q_997) (fun _ h9 => h9) rfl dX7_number_31 ?_
      refine lv_l2i (v := Int64.toInt32 (gl (C 0) 24)) hx hb dX7_number_34 rfl ?_
      refine th_iast (T := TyM a E) (Rl := fr [(k, k + 1)] [21, 22, 23, 24, 25] C) hx hb hK hP hD hS k hk1 (hs1 _ hT) hi1 (hu1 _ _ hT (oh_l2ile u_10.1 u_10.2).1 (oh_l2ile u_10.1 u_10.2).2) (fr_st hF hk0 (inR_of (p := (k, k + 1)) (List.mem_singleton.mpr rfl) (Nat.le_refl _) (Nat.lt_succ_self _))) dX7_number_35 (fun C_11 H locs e_12 hT hF hP hD hS => ?_)
      have t_13 := hT
      refine lv_aload_n hx hb dX7_number_36 rfl (lv_at hl 0 rfl) ?_
      have : (gi (C_11 0) 21).toInt = (gi (C 0) 21).toInt := congrArg (fun z => (gi z 21).toInt) (th_un e_12 (by omega))
      have : (gi (C_11 0) 7).toInt = (gi (C 0) 7).toInt := congrArg (fun z => (gi z 7).toInt) (th_un e_12 (by omega))
      have : (gi (C_11 0) 23).toInt = (gi (C 0) 23).toInt := congrArg (fun z => (gi z 23).toInt) (th_un e_12 (by omega))
      have : (gi (C_11 0) 13).toInt = (gi (C 0) 13).toInt := congrArg (fun z => (gi z 13).toInt) (th_un e_12 (by omega))
      have : 0 ≤ (gi (C 0) 21).toInt ∧ (gi (C 0) 21).toInt ≤ 250 := fM_0_21 hT0
      have : 0 ≤ (gi (C 0) 7).toInt ∧ (gi (C 0) 7).toInt ≤ 250 := fM_0_7 hT0
      have : 0 ≤ (gi (C 0) 23).toInt ∧ (gi (C 0) 23).toInt ≤ 250 := fM_0_23 hT0
      have : 0 ≤ (gi (C 0) 13).toInt ∧ (gi (C 0) 13).toInt ≤ 5 := fM_0_13 hT0
      have : 0 ≤ (gi (C_11 0) 21).toInt ∧ (gi (C_11 0) 21).toInt ≤ 250 := fM_0_21 t_13
      have : 0 ≤ (gi (C_11 0) 7).toInt ∧ (gi (C_11 0) 7).toInt ≤ 250 := fM_0_7 t_13
      have : 0 ≤ (gi (C_11 0) 23).toInt ∧ (gi (C_11 0) 23).toInt ≤ 250 := fM_0_23 t_13
      have : 0 ≤ (gi (C_11 0) 13).toInt ∧ (gi (C_11 0) 13).toInt ≤ 5 := fM_0_13 t_13
      have : (2 : Int32).toInt = 2 := rfl
      refine tm_Vv (As := []) (rest := []) ⟨hx, hb, hml, hown, htg⟩ (e_X7_look l D E G _ a C_11 n hn hT (by omega)) (cwV 0 htg (oh_gV q_1197 q_1199 q_39 q_73 q_1200) rfl rfl rfl pdVX7_look ⟨Nat.le_of_ble_eq_true rfl, Nat.le_of_ble_eq_true rfl⟩) hK hP hD hG hS hA (va_recv hK hP (ci := 7) (q0 := 0) rfl (oh_wg (Nat.lt_of_lt_of_le (by decide) hn) (sM_0 hT))) rfl hl.1 rfl (Nat.le_of_ble_eq_true rfl) dX7_number_37 ⟨Nat.le_of_ble_eq_true rfl, Nat.le_of_ble_eq_true rfl⟩ (fun C_15 H locs hq_16 hP hD hS => ?_)
      obtain ⟨hT, f_17, hq_16⟩ := hq_16
      have hF := fr_tr hF f_17 rfl (by decide)
      refine W.widen (k := 0) (n := 0) (Nat.le_refl _) (Nat.le_refl _) ?_
      have t_18 := hT
      have ep_19 := hq_16.2.1
      rw [show ga (C_11 7) = ga (C 7) from congrArg ga (th_un e_12 (by omega))] at ep_19
      refine lv_iconst (v := 1) hx hb dX7_number_40 (by decide) ?_
      have : (gi (C_15 0) 7).toInt = (gi (C_11 0) 7).toInt := congrArg (fun z => (vi z).toInt) (f_17.2 7 (by decide))
      have : (gi (C_15 0) 13).toInt = (gi (C_11 0) 13).toInt := congrArg (fun z => (vi z).toInt) (f_17.2 13 (by decide))
      have : 0 ≤ (gi (C_15 0) 21).toInt ∧ (gi (C_15 0) 21).toInt ≤ 250 := fM_0_21 t_18
      have : 0 ≤ (gi (C_15 0) 7).toInt ∧ (gi (C_15 0) 7).toInt ≤ 250 := fM_0_7 t_18
      have : 0 ≤ (gi (C_15 0) 23).toInt ∧ (gi (C_15 0) 23).toInt ≤ 250 := fM_0_23 t_18
      have : 0 ≤ (gi (C_15 0) 13).toInt ∧ (gi (C_15 0) 13).toInt ≤ 5 := fM_0_13 t_18
      rw [hQ]
      exact W.zret (v := 1) (ty := .boolean) hx hb hr (by decide) (fun t ht hW => ⟨⟨1, C_15, rfl, ⟨hT, hF, ⟨(Or.inr rfl), ⟨(by omega), hq_16.1.2.2⟩, (fun j hj => by rw [f_17.1 k rfl hk0, st_ga e_12]; exact pk_un hj), (fun _ => (by rw [f_17.1 k rfl hk0, st_ga e_12, pk_us]; exact Int32.le_iff_toInt_le.mp (oh_l2ile u_10.1 u_10.2).1)), (fun _ => (Eq.trans (mN_ok hx3.2 (fM_0_23 hT0) (fM_0_21 hT0) hft c_1 hfg u_10.1 u_10.2) (by rw [(show ga (C_15 k) x1.toNatClampNeg = Int64.toInt32 (gl (C 0) 24) by rw [f_17.1 k rfl hk0, st_ga e_12, pk_us]), (Eq.trans ep_19 (congrArg (xAdv (ga (C 7))) (pm_c (th_un e_12 (by omega)))))]; rfl))), (fun h9 => absurd h9 (by decide)), (fun h9 => absurd h9 (by decide)), (fgL hq_16.2.2 (f_17.1 7 rfl (by decide))), hq_16.1.2.1⟩⟩, ⟨by rw [ht]; exact hP, hD⟩⟩, hS.F ht⟩) hS.2.2 dX7_number_41
    · have u_20 := hq_8.2.2 c_9
      refine lv_aload_n hx hb dX7_number_23 rfl (lv_at hl 0 rfl) ?_
      refine tm_V (As := []) (rest := []) ⟨hx, hb, hml, hown, htg⟩ (e_X7_wrong l D E G _ a C n hn hT) (cwV 0 htg (oh_gV q_1229 q_1231 q_44 q_73 q_1232) rfl rfl rfl pdVX7_wrong ⟨Nat.le_of_ble_eq_true rfl, Nat.le_of_ble_eq_true rfl⟩) hK hP hD hG hS hA (va_recv hK hP (ci := 7) (q0 := 0) rfl (oh_wg (Nat.lt_of_lt_of_le (by decide) hn) (sM_0 hT))) rfl hl.1 rfl (Nat.le_of_ble_eq_true rfl) dX7_number_24 ⟨Nat.le_of_ble_eq_true rfl, Nat.le_of_ble_eq_true rfl⟩ (fun r_21 C_22 H locs hq_23 hP hD hS => ?_)
      obtain ⟨hT, f_24, hq_23⟩ := hq_23
      have hF := fr_tr hF f_24 rfl (by decide)
      refine W.widen (k := 0) (n := 0) (Nat.le_refl _) (Nat.le_refl _) ?_
      have t_25 := hT
      have : (gi (C_22 0) 21).toInt = (gi (C 0) 21).toInt := congrArg (fun z => (vi z).toInt) (f_24.2 21 (by decide))
      have : (gi (C_22 0) 7).toInt = (gi (C 0) 7).toInt := congrArg (fun z => (vi z).toInt) (f_24.2 7 (by decide))
      have : (gi (C_22 0) 23).toInt = (gi (C 0) 23).toInt := congrArg (fun z => (vi z).toInt) (f_24.2 23 (by decide))
      have : (gi (C_22 0) 13).toInt = (gi (C 0) 13).toInt := congrArg (fun z => (vi z).toInt) (f_24.2 13 (by decide))
      have : 0 ≤ (gi (C 0) 21).toInt ∧ (gi (C 0) 21).toInt ≤ 250 := fM_0_21 hT0
      have : 0 ≤ (gi (C 0) 7).toInt ∧ (gi (C 0) 7).toInt ≤ 250 := fM_0_7 hT0
      have : 0 ≤ (gi (C 0) 23).toInt ∧ (gi (C 0) 23).toInt ≤ 250 := fM_0_23 hT0
      have : 0 ≤ (gi (C 0) 13).toInt ∧ (gi (C 0) 13).toInt ≤ 5 := fM_0_13 hT0
      have : 0 ≤ (gi (C_22 0) 21).toInt ∧ (gi (C_22 0) 21).toInt ≤ 250 := fM_0_21 t_25
      have : 0 ≤ (gi (C_22 0) 7).toInt ∧ (gi (C_22 0) 7).toInt ≤ 250 := fM_0_7 t_25
      have : 0 ≤ (gi (C_22 0) 23).toInt ∧ (gi (C_22 0) 23).toInt ≤ 250 := fM_0_23 t_25
      have : 0 ≤ (gi (C_22 0) 13).toInt ∧ (gi (C_22 0) 13).toInt ≤ 5 := fM_0_13 t_25
      have : (2 : Int32).toInt = 2 := rfl
      rw [hQ]
      exact W.zret (v := r_21) (ty := .boolean) hx hb hr (oh_nb hq_23.1) (fun t ht hW => ⟨⟨r_21, C_22, rfl, ⟨hT, hF, ⟨hq_23.1, ⟨(by omega), (by omega)⟩, (fun j hj => congrArg (fun z => ga z j) (f_24.1 k rfl hk0)), (fun h9 => (absurd hq_23.2.1 h9)), (fun h9 => (absurd hq_23.2.1 h9)), (fun h9 => (Eq.trans (mN_bad hx2.1 (fM_0_23 hT0) (fM_0_21 hT0) hft c_1 hfg u_20) (congrArg Except.error hq_23.2.2.symm))), (fun h9 => (f_24.1 k rfl hk0)), (fgR hfg f_24 (f_24.1 7 rfl (by decide)) (by decide)), (by omega)⟩⟩, ⟨by rw [ht]; exact hP, hD⟩⟩, hS.F ht⟩) hS.2.2 dX7_number_27

/-! EXACT: statements, as the reference reads them -/
def exB {α β : Type} (r : Except Int32 α) (k : α → Except Int32 β) : Except Int32 β := match r with
  | .error e => .error e
  | .ok x => k x
theorem exB_e {α β : Type} {r : Except Int32 α} {k : α → Except Int32 β} {e : Int32} (h : r = .error e) : exB r k = .error e := by rw [h]; rfl
theorem exB_o {α β : Type} {r : Except Int32 α} {k : α → Except Int32 β} {x : α} (h : r = .ok x) : exB r k = k x := by rw [h]; rfl
theorem tn_of {f f1 : Nat → Int32} {j : Nat} {lo hi : Int32} {p p1 : PX} {R : Except Int32 (Int32 × PX)} (hw : XIs f p j) (ep : p1 = xAdv f p) (ef : f1 = f) (h : mNum f1 lo hi p1 = R) : tNum f j lo hi p = R := by
  rw [ef, ep] at h
  exact Eq.trans (pif_pos hw) h
/-- two words with the same letters -/
def sameW (i j : Nat) : Prop := oh_len i = oh_len j ∧ ∀ k, k < oh_len i → oh_byt i k = oh_byt j k
theorem XIs_j {f : Nat → Int32} {p : PX} {i j : Nat} (h : sameW i j) : XIs f p i ↔ XIs f p j := by
  unfold XIs
  rw [h.1]
  refine ⟨fun q => ⟨q.1, q.2.1, q.2.2.1, fun k hk => ?_⟩, fun q => ⟨q.1, q.2.1, q.2.2.1, fun k hk => ?_⟩⟩
  · rw [q.2.2.2 k hk]
    exact h.2 k (by rw [h.1]; exact hk)
  · rw [q.2.2.2 k hk]
    exact (h.2 k (by rw [h.1]; exact hk)).symm
theorem tNum_j {f : Nat → Int32} {p : PX} {i j : Nat} {lo hi : Int32} (h : sameW i j) : tNum f i lo hi p = tNum f j lo hi p := pif_iff (XIs_j h)
theorem pNum_j {f : Nat → Int32} {p : PX} {i j : Nat} {lo hi d : Int32} (h : sameW i j) : pNum f i lo hi d p = pNum f j lo hi d p := by
  unfold pNum
  rw [tNum_j h]
  exact pif_iff (XIs_j h)
noncomputable def rdRoad (f : Nat → Int32) (p : PX) : Except Int32 ((Nat → Int32) × PX) :=
  exB (mNum f 0 15 (xAdv f p)) fun a => pif (numH f a.2 = a.1) (.error a.2.2.2.2.1) (exB (mNum f 0 15 a.2) fun b => exB (tNum f 1 1 60 b.2) fun m => exB (pNum f 2 0 9 0 m.2) fun r => exB (pNum f 3 1 99 99 r.2) fun t => exB (pNum f 4 0 15 0 t.2) fun q => .ok (rwf [a.1, b.1, m.1, r.1, t.1, q.1, 0], q.2))
noncomputable def rdProp (f : Nat → Int32) (p : PX) : Except Int32 (Int32 × Int32 × PX) :=
  pif (XIs f p 10) (exB (tNum f 10 0 999 p) fun m => exB (mNum f 0 999 m.2) fun c => .ok (m.1, c.1, c.2)) (.ok (0, 0, p))
noncomputable def rdBridge (f : Nat → Int32) (nr : Int32) (p : PX) : Except Int32 ((Nat → Int32) × PX) :=
  exB (mNum f 0 (nr - 1) (xAdv f p)) fun a => exB (tNum f 6 0 5 a.2) fun k => exB (tNum f 7 0 60 k.2) fun s => exB (tNum f 8 1 99 s.2) fun x => exB (tNum f 9 1 999 x.2) fun l => exB (rdProp f l.2) fun q => .ok (rwf [a.1, k.1, s.1, x.1, l.1, q.1, q.2.1, 0, 0, 0], q.2.2)
noncomputable def rdWag (f : Nat → Int32) (p : PX) : Except Int32 ((Nat → Int32) × PX) :=
  exB (mNum f 2 12 (xAdv f p)) fun a => exB (tNum f 12 1 9 a.2) fun s => exB (tNum f 13 0 99 s.2) fun t => .ok (rwf [a.1, s.1, t.1], t.2)
noncomputable def rdPart (f : Nat → Int32) (p : PX) : Except Int32 ((Nat → Int32) × PX) :=
  exB (mNum f 1 99 (xAdv f p)) fun a => exB (mNum f 0 99 a.2) fun b => .ok (rwf [a.1, b.1], b.2)
/-- what the class's calls make of a state with a fault, and of one without -/
theorem xN_f {f : Nat → Int32} {lo hi : Int32} {p : PX} (h : ¬ p.2.1 = -1) : xNum f lo hi p = (-1, p) := by
  rw [xNum_no (fun q => h q.1), xFail_no h]
theorem xW_f {f : Nat → Int32} {j : Nat} {p : PX} (h : ¬ p.2.1 = -1) : xWord f j p = p := by
  unfold xWord
  rw [pif_neg (fun q => h q.1), xFail_no h]
theorem xP_f {f : Nat → Int32} {j : Nat} {lo hi d : Int32} {p : PX} (h : ¬ p.2.1 = -1) : xPer f j lo hi d p = (d, p) := pif_neg (fun q => h q.1)
theorem pif_same {α : Type} {c : Prop} {x : α} : pif c x x = x := by
  by_cases h : c
  · exact pif_pos h
  · exact pif_neg h
theorem upt_le {p : Int32 → Prop} {f : Nat → Int32} {n : Int32} (hn : rg n 0 250) : ∀ (k : Nat) (z : Int32), 0 ≤ z.toInt → z.toInt ≤ n.toInt → (upt p f n k z).toInt ≤ n.toInt
  | 0, z, _, h => h
  | k + 1, z, h0, h => by
    rw [upt_succ]
    by_cases c : z < n ∧ p (f z.toNatClampNeg)
    · rw [pif_pos c]
      have h1 := Int32.lt_iff_toInt_lt.mp c.1
      have e := oh_add1 (s := z) ⟨h0, by have := hn.2; omega⟩
      exact upt_le hn k (z + 1) (by omega) (by omega)
    · rw [pif_neg c]
      exact h
theorem upto_le {p : Int32 → Prop} {f : Nat → Int32} {n z : Int32} (hn : rg n 0 250) (h0 : 0 ≤ z.toInt) (h : z.toInt ≤ n.toInt) : (upto p f n z).toInt ≤ n.toInt := upt_le hn _ z h0 h
/-- a state without a fault whose token lies on the tape -/
def fine (p : PX) : Prop := p.2.1 = -1 ∧ rg p.1 0 250 ∧ 0 ≤ p.2.2.2.1.toInt ∧ 0 ≤ p.2.2.2.2.toInt ∧ p.2.2.2.2.toInt ≤ p.1.toInt
theorem fine_adv0 {f : Nat → Int32} {n q t s e : Int32} (hq : q = -1) (hn : rg n 0 250) (h0 : 0 ≤ e.toInt) (h : e.toInt ≤ n.toInt) : fine (xAdv f (n, q, t, s, e)) := by
  have hS1 : e.toInt ≤ (upto pB f n e).toInt := upt_ge hn _ e ⟨h0, by have := hn.2; omega⟩
  have hS2 : (upto pB f n e).toInt ≤ n.toInt := upto_le hn h0 h
  refine ⟨hq, hn, ?_, ?_⟩
  · show 0 ≤ (upto pB f n e).toInt
    omega
  · show 0 ≤ (tE f n (upto pB f n e)).toInt ∧ (tE f n (upto pB f n e)).toInt ≤ n.toInt
    generalize upto pB f n e = S at hS1 hS2 ⊢
    have rS : rg S 0 250 := ⟨by omega, by have := hn.2; omega⟩
    have l1 : (upto pL f n S).toInt ≤ n.toInt := upto_le hn (by omega) hS2
    have l2 : (upto pD f n S).toInt ≤ n.toInt := upto_le hn (by omega) hS2
    have g1 : S.toInt ≤ (upto pL f n S).toInt := upt_ge hn _ S rS
    have g2 : S.toInt ≤ (upto pD f n S).toInt := upt_ge hn _ S rS
    unfold tE
    by_cases c1 : S < upto pL f n S
    · rw [pif_pos c1]
      omega
    · rw [pif_neg c1]
      by_cases c2 : S < upto pD f n S
      · rw [pif_pos c2]
        omega
      · rw [pif_neg c2]
        by_cases c3 : n ≤ S
        · rw [pif_pos c3]
          omega
        · rw [pif_neg c3]
          have c4 := Int32.lt_iff_toInt_lt.mp (Int32.not_le.mp c3)
          have e1 := oh_add1 (s := S) ⟨by omega, by have := hn.2; omega⟩
          omega
theorem fine_adv {f : Nat → Int32} {p : PX} (h : fine p) : fine (xAdv f p) := fine_adv0 h.1 h.2.1 h.2.2.2.1 h.2.2.2.2
theorem nneg1 {s : Int32} (h : 0 ≤ s.toInt) : ¬ s = -1 := by
  intro e
  rw [e] at h
  exact absurd h (by decide)
theorem fine_fail {p : PX} (h : fine p) : (xFail p).2.1 = p.2.2.2.1 ∧ ¬ (xFail p).2.1 = -1 := by
  have e : (xFail p).2.1 = p.2.2.2.1 := pif_pos h.1
  exact ⟨e, by rw [e]; exact nneg1 h.2.2.1⟩
/-- what the reference tells of a reading, and what the class makes of it -/
def RelV {α : Type} (R : Except Int32 (α × PX)) (x : α × PX) : Prop := match R with
  | .ok y => x = y ∧ fine y.2
  | .error e => x.2.2.1 = e ∧ ¬ x.2.2.1 = -1
theorem rv_ok {α : Type} {R : Except Int32 (α × PX)} {x y : α × PX} (h : RelV R x) (e : R = .ok y) : x = y ∧ fine y.2 := by
  rw [e] at h
  exact h
theorem rv_er {α : Type} {R : Except Int32 (α × PX)} {x : α × PX} {d : Int32} (h : RelV R x) (e : R = .error d) : x.2.2.1 = d ∧ ¬ x.2.2.1 = -1 := by
  rw [e] at h
  exact h
theorem rv_o {α : Type} {R : Except Int32 (α × PX)} {x y : α × PX} (e : R = .ok y) (h : x = y) (hf : fine y.2) : RelV R x := by
  rw [e]
  exact ⟨h, hf⟩
theorem rv_e {α : Type} {R : Except Int32 (α × PX)} {x : α × PX} {d : Int32} (e : R = .error d) (h : x.2.2.1 = d) (hf : ¬ x.2.2.1 = -1) : RelV R x := by
  rw [e]
  exact ⟨h, hf⟩
theorem xn_m {f : Nat → Int32} {lo hi : Int32} {p : PX} (h : fine p) : RelV (mNum f lo hi p) (xNum f lo hi p) := by
  by_cases c : lo ≤ numH f p ∧ numH f p ≤ hi
  · exact rv_o (pif_pos c) (pif_pos ⟨h.1, c⟩) (fine_adv h)
  · have e : xNum f lo hi p = (-1, xFail p) := pif_neg (fun q => c q.2)
    have h2 := fine_fail h
    exact rv_e (pif_neg c) (by rw [e]; exact h2.1) (by rw [e]; exact h2.2)
theorem tn_m {f : Nat → Int32} {j : Nat} {lo hi : Int32} {p : PX} (h : fine p) : RelV (tNum f j lo hi p) (xNum f lo hi (xWord f j p)) := by
  by_cases c : XIs f p j
  · have e1 : tNum f j lo hi p = mNum f lo hi (xAdv f p) := pif_pos c
    have e2 : xWord f j p = xAdv f p := pif_pos c
    rw [e1, e2]
    exact xn_m (fine_adv h)
  · have e2 : xWord f j p = xFail p := pif_neg c
    have h2 := fine_fail h
    have e3 : xNum f lo hi (xFail p) = (-1, xFail p) := xN_f h2.2
    exact rv_e (pif_neg c) (by rw [e2, e3]; exact h2.1) (by rw [e2, e3]; exact h2.2)
theorem pn_m {f : Nat → Int32} {j : Nat} {lo hi d : Int32} {p : PX} (h : fine p) : RelV (pNum f j lo hi d p) (xPer f j lo hi d p) := by
  by_cases c : XIs f p j
  · have e1 : pNum f j lo hi d p = mNum f lo hi (xAdv f p) := Eq.trans (pif_pos c) (pif_pos c)
    have e2 : xPer f j lo hi d p = xNum f lo hi (xAdv f p) := pif_pos c
    rw [e1, e2]
    exact xn_m (fine_adv h)
  · exact rv_o (pif_neg c) (pif_neg c) h
def RelP (R : Except Int32 (Int32 × Int32 × PX)) (x : Int32 × Int32 × PX) : Prop := match R with
  | .ok y => x = y ∧ fine y.2.2
  | .error e => x.2.2.2.1 = e ∧ ¬ x.2.2.2.1 = -1
theorem rp_ok {R : Except Int32 (Int32 × Int32 × PX)} {x y : Int32 × Int32 × PX} (h : RelP R x) (e : R = .ok y) : x = y ∧ fine y.2.2 := by
  rw [e] at h
  exact h
theorem rp_er {R : Except Int32 (Int32 × Int32 × PX)} {x : Int32 × Int32 × PX} {d : Int32} (h : RelP R x) (e : R = .error d) : x.2.2.2.1 = d ∧ ¬ x.2.2.2.1 = -1 := by
  rw [e] at h
  exact h
theorem xPr_f {f : Nat → Int32} {p : PX} (h : ¬ p.2.1 = -1) : xProp f p = (0, 0, p) := pif_neg (fun q => h q.1)
theorem prop_r {f : Nat → Int32} {p : PX} (h : fine p) : RelP (rdProp f p) (xProp f p) := by
  by_cases c : XIs f p 10
  · have e1 : rdProp f p = exB (mNum f 0 999 (xAdv f p)) (fun m => exB (mNum f 0 999 m.2) fun c => .ok (m.1, c.1, c.2)) := by
      unfold rdProp
      rw [pif_pos c, show tNum f 10 0 999 p = mNum f 0 999 (xAdv f p) from pif_pos c]
    have e2 : xProp f p = ((xNum f 0 999 (xAdv f p)).1, (xNum f 0 999 (xNum f 0 999 (xAdv f p)).2).1, (xNum f 0 999 (xNum f 0 999 (xAdv f p)).2).2) := pif_pos c
    rw [e1, e2]
    have h0 : fine (xAdv f p) := fine_adv h
    generalize xAdv f p = P at h0 ⊢
    have r1 := xn_m (f := f) (lo := 0) (hi := 999) h0
    cases e3 : mNum f 0 999 P with
    | error d =>
      obtain ⟨b1, b2⟩ := rv_er r1 e3
      rw [xN_f b2]
      exact ⟨b1, b2⟩
    | ok y =>
      obtain ⟨k1, h1⟩ := rv_ok r1 e3
      rw [k1, exB_o (rfl : (Except.ok y : Except Int32 (Int32 × PX)) = .ok y)]
      have r2 := xn_m (f := f) (lo := 0) (hi := 999) h1
      cases e4 : mNum f 0 999 y.2 with
      | error d =>
        obtain ⟨b1, b2⟩ := rv_er r2 e4
        exact ⟨b1, b2⟩
      | ok z =>
        obtain ⟨k2, h2⟩ := rv_ok r2 e4
        rw [k2]
        exact ⟨rfl, h2⟩
  · have e1 : rdProp f p = .ok (0, 0, p) := pif_neg c
    have e2 : xProp f p = (0, 0, p) := pif_neg c
    rw [e1, e2]
    exact ⟨rfl, h⟩
theorem xRoad_r {f : Nat → Int32} {room : Prop} {p : PX} (hr : room) (h : fine p) : RelV (rdRoad f p) (xRoad f room p) := by
  have h0 : fine (xAdv f p) := fine_adv h
  unfold rdRoad xRoad xEnt
  simp only [pif_pos hr]
  generalize xAdv f p = P0 at h0 ⊢
  have r1 := xn_m (f := f) (lo := 0) (hi := 15) h0
  cases e1 : mNum f 0 15 P0 with
  | error d =>
    obtain ⟨b1, b2⟩ := rv_er r1 e1
    simp only [xN_f b2, xW_f b2, xP_f b2, xFail_no b2, pif_same]
    exact rv_e rfl b1 b2
  | ok y =>
    obtain ⟨e2, h1⟩ := rv_ok r1 e1
    rw [e2, exB_o (rfl : (Except.ok y : Except Int32 (Int32 × PX)) = .ok y)]
    by_cases c : numH f y.2 = y.1
    · have h2 := fine_fail h1
      simp only [pif_pos c, xN_f h2.2, xW_f h2.2, xP_f h2.2]
      exact rv_e rfl h2.1 h2.2
    · simp only [pif_neg c]
      have r2 := xn_m (f := f) (lo := 0) (hi := 15) h1
      cases e3 : mNum f 0 15 y.2 with
      | error d =>
        obtain ⟨b1, b2⟩ := rv_er r2 e3
        simp only [xN_f b2, xW_f b2, xP_f b2]
        exact rv_e rfl b1 b2
      | ok z =>
        obtain ⟨e4, h2⟩ := rv_ok r2 e3
        rw [e4, exB_o (rfl : (Except.ok z : Except Int32 (Int32 × PX)) = .ok z)]
        have r3 := tn_m (f := f) (j := 1) (lo := 1) (hi := 60) h2
        cases e5 : tNum f 1 1 60 z.2 with
        | error d =>
          obtain ⟨b1, b2⟩ := rv_er r3 e5
          simp only [xP_f b2]
          exact rv_e rfl b1 b2
        | ok w =>
          obtain ⟨e6, h3⟩ := rv_ok r3 e5
          rw [e6, exB_o (rfl : (Except.ok w : Except Int32 (Int32 × PX)) = .ok w)]
          have r4 := pn_m (f := f) (j := 2) (lo := 0) (hi := 9) (d := 0) h3
          cases e7 : pNum f 2 0 9 0 w.2 with
          | error d =>
            obtain ⟨b1, b2⟩ := rv_er r4 e7
            simp only [xP_f b2]
            exact rv_e rfl b1 b2
          | ok v =>
            obtain ⟨e8, h4⟩ := rv_ok r4 e7
            rw [e8, exB_o (rfl : (Except.ok v : Except Int32 (Int32 × PX)) = .ok v)]
            have r5 := pn_m (f := f) (j := 3) (lo := 1) (hi := 99) (d := 99) h4
            cases e9 : pNum f 3 1 99 99 v.2 with
            | error d =>
              obtain ⟨b1, b2⟩ := rv_er r5 e9
              simp only [xP_f b2]
              exact rv_e rfl b1 b2
            | ok u =>
              obtain ⟨e10, h5⟩ := rv_ok r5 e9
              rw [e10, exB_o (rfl : (Except.ok u : Except Int32 (Int32 × PX)) = .ok u)]
              have r6 := pn_m (f := f) (j := 4) (lo := 0) (hi := 15) (d := 0) h5
              cases e11 : pNum f 4 0 15 0 u.2 with
              | error d =>
                obtain ⟨b1, b2⟩ := rv_er r6 e11
                exact rv_e rfl b1 b2
              | ok q =>
                obtain ⟨e12, h6⟩ := rv_ok r6 e11
                rw [e12]
                exact rv_o rfl rfl h6
theorem xBridge_r {f : Nat → Int32} {room : Prop} {nr : Int32} {p : PX} (hr : room) (h : fine p) : RelV (rdBridge f nr p) (xBridge f room nr p) := by
  have h0 : fine (xAdv f p) := fine_adv h
  unfold rdBridge xBridge xEnt
  simp only [pif_pos hr]
  generalize xAdv f p = P at h0 ⊢
  have r1 := xn_m (f := f) (lo := 0) (hi := nr - 1) h0
  cases e1 : mNum f 0 (nr - 1) P with
  | error d =>
    obtain ⟨b1, b2⟩ := rv_er r1 e1
    simp only [xN_f b2, xW_f b2, xP_f b2, xPr_f b2]
    exact rv_e rfl b1 b2
  | ok y1 =>
    obtain ⟨k1, h1⟩ := rv_ok r1 e1
    rw [k1, exB_o (rfl : (Except.ok y1 : Except Int32 (Int32 × PX)) = .ok y1)]
    have r2 := tn_m (f := f) (j := 6) (lo := 0) (hi := 5) h1
    cases e2 : tNum f 6 0 5 y1.2 with
    | error d =>
      obtain ⟨b1, b2⟩ := rv_er r2 e2
      simp only [xN_f b2, xW_f b2, xP_f b2, xPr_f b2]
      exact rv_e rfl b1 b2
    | ok y2 =>
      obtain ⟨k2, h2⟩ := rv_ok r2 e2
      rw [k2, exB_o (rfl : (Except.ok y2 : Except Int32 (Int32 × PX)) = .ok y2)]
      have r3 := tn_m (f := f) (j := 7) (lo := 0) (hi := 60) h2
      cases e3 : tNum f 7 0 60 y2.2 with
      | error d =>
        obtain ⟨b1, b2⟩ := rv_er r3 e3
        simp only [xN_f b2, xW_f b2, xP_f b2, xPr_f b2]
        exact rv_e rfl b1 b2
      | ok y3 =>
        obtain ⟨k3, h3⟩ := rv_ok r3 e3
        rw [k3, exB_o (rfl : (Except.ok y3 : Except Int32 (Int32 × PX)) = .ok y3)]
        have r4 := tn_m (f := f) (j := 8) (lo := 1) (hi := 99) h3
        cases e4 : tNum f 8 1 99 y3.2 with
        | error d =>
          obtain ⟨b1, b2⟩ := rv_er r4 e4
          simp only [xN_f b2, xW_f b2, xP_f b2, xPr_f b2]
          exact rv_e rfl b1 b2
        | ok y4 =>
          obtain ⟨k4, h4⟩ := rv_ok r4 e4
          rw [k4, exB_o (rfl : (Except.ok y4 : Except Int32 (Int32 × PX)) = .ok y4)]
          have r5 := tn_m (f := f) (j := 9) (lo := 1) (hi := 999) h4
          cases e5 : tNum f 9 1 999 y4.2 with
          | error d =>
            obtain ⟨b1, b2⟩ := rv_er r5 e5
            simp only [xN_f b2, xW_f b2, xP_f b2, xPr_f b2]
            exact rv_e rfl b1 b2
          | ok y5 =>
            obtain ⟨k5, h5⟩ := rv_ok r5 e5
            rw [k5, exB_o (rfl : (Except.ok y5 : Except Int32 (Int32 × PX)) = .ok y5)]
            have r6 := prop_r (f := f)  h5
            cases e6 : rdProp f y5.2 with
            | error d =>
              obtain ⟨b1, b2⟩ := rp_er r6 e6
              exact rv_e rfl b1 b2
            | ok y6 =>
              obtain ⟨k6, h6⟩ := rp_ok r6 e6
              rw [k6]
              exact rv_o rfl rfl h6
theorem xWag_r {f : Nat → Int32} {room : Prop} {p : PX} (hr : room) (h : fine p) : RelV (rdWag f p) (xWag f room p) := by
  have h0 : fine (xAdv f p) := fine_adv h
  unfold rdWag xWag xEnt
  simp only [pif_pos hr]
  generalize xAdv f p = P at h0 ⊢
  have r1 := xn_m (f := f) (lo := 2) (hi := 12) h0
  cases e1 : mNum f 2 12 P with
  | error d =>
    obtain ⟨b1, b2⟩ := rv_er r1 e1
    simp only [xN_f b2, xW_f b2, xP_f b2]
    exact rv_e rfl b1 b2
  | ok y1 =>
    obtain ⟨k1, h1⟩ := rv_ok r1 e1
    rw [k1, exB_o (rfl : (Except.ok y1 : Except Int32 (Int32 × PX)) = .ok y1)]
    have r2 := tn_m (f := f) (j := 12) (lo := 1) (hi := 9) h1
    cases e2 : tNum f 12 1 9 y1.2 with
    | error d =>
      obtain ⟨b1, b2⟩ := rv_er r2 e2
      simp only [xN_f b2, xW_f b2, xP_f b2]
      exact rv_e rfl b1 b2
    | ok y2 =>
      obtain ⟨k2, h2⟩ := rv_ok r2 e2
      rw [k2, exB_o (rfl : (Except.ok y2 : Except Int32 (Int32 × PX)) = .ok y2)]
      have r3 := tn_m (f := f) (j := 13) (lo := 0) (hi := 99) h2
      cases e3 : tNum f 13 0 99 y2.2 with
      | error d =>
        obtain ⟨b1, b2⟩ := rv_er r3 e3
        exact rv_e rfl b1 b2
      | ok y3 =>
        obtain ⟨k3, h3⟩ := rv_ok r3 e3
        rw [k3]
        exact rv_o rfl rfl h3
theorem xPart_r {f : Nat → Int32} {room : Prop} {p : PX} (hr : room) (h : fine p) : RelV (rdPart f p) (xPart f room p) := by
  have h0 : fine (xAdv f p) := fine_adv h
  unfold rdPart xPart xEnt
  simp only [pif_pos hr]
  generalize xAdv f p = P at h0 ⊢
  have r1 := xn_m (f := f) (lo := 1) (hi := 99) h0
  cases e1 : mNum f 1 99 P with
  | error d =>
    obtain ⟨b1, b2⟩ := rv_er r1 e1
    simp only [xN_f b2, xW_f b2, xP_f b2]
    exact rv_e rfl b1 b2
  | ok y1 =>
    obtain ⟨k1, h1⟩ := rv_ok r1 e1
    rw [k1, exB_o (rfl : (Except.ok y1 : Except Int32 (Int32 × PX)) = .ok y1)]
    have r2 := xn_m (f := f) (lo := 0) (hi := 99) h1
    cases e2 : mNum f 0 99 y1.2 with
    | error d =>
      obtain ⟨b1, b2⟩ := rv_er r2 e2
      exact rv_e rfl b1 b2
    | ok y2 =>
      obtain ⟨k2, h2⟩ := rv_ok r2 e2
      rw [k2]
      exact rv_o rfl rfl h2

set_option maxHeartbeats 4000000 in
set_option maxRecDepth 100000 in
theorem e_X7_told (l : Launch) (D : va_G) (E : Nat → ClassId) (G : Nat → Nat) (sz : Nat) (a : Nat → Nat) (C : Nat → va_E) (n : Nat) (hn : 74 ≤ n) (hT : TyM a E C) (j : Nat) (k : Nat) (x1 : Int32) (x2 : Int32) (x3 : Int32) (hj : j < 34) (hx2 : rg x2 0 999) (hx3 : rg x3 (-1) 999) (hok : okR a E n k x1 x2 x3) (hat : (gi (C 0) 21).toInt ≤ (gi (C 0) 7).toInt) (hfg : FG C) (hft : (gi (C 0) 23).toInt ≤ (gi (C 0) 21).toInt) (hk7 : k ≠ 7) : Met l yX7_told (oh_w yX7_told cX7_told 6 (some .boolean)) ({ frames := 5, cells := 0, slots := 0, locals := 107 }) (oh_Pm D E G [.ref (a 0), .ref (G (3 + j)), .ref (a k), .int x1, .int x2, .int x3] (oh_W n a C) sz) (va_Qi (fun r (u : Nat → va_E) => TyM a E u ∧ fr [(k, k + 1)] [21, 22, 23, 24, 25] C u ∧ (r = 0 ∨ r = 1) ∧ (((gi (C 0) 21).toInt ≤ (gi (u 0) 21).toInt) ∧ ((gi (u 0) 21).toInt ≤ (gi (u 0) 7).toInt)) ∧ (∀ jj, jj ≠ x1.toNatClampNeg → ga (u k) jj = ga (C k) jj) ∧ (r ≠ 0 → (x2.toInt ≤ (ga (u k) x1.toNatClampNeg).toInt)) ∧ (r ≠ 0 → ((gi (C 0) 23).toInt + 3 ≤ (gi (u 0) 21).toInt)) ∧ (r ≠ 0 → (tNum (ga (C 7)) j x2 x3 (pm C) = .ok (ga (u k) x1.toNatClampNeg, pm u))) ∧ (r = 0 → (tNum (ga (C 7)) j x2 x3 (pm C) = .error (gi (u 0) 25))) ∧ (r = 0 → (u k = C k)) ∧ (FG u) ∧ ((gi (u 0) 23).toInt ≤ (gi (u 0) 21).toInt)) (oh_B D (va_A (oh_W n a C) sz) (fun u => oh_W n a u)) (va_A (oh_W n a C) sz)) 0 0 (va_A (oh_W n a C) sz) := by
  refine Met.ofW (cc := cX7_told) (maxL := 6) (ret := (some .boolean)) (by decide) rfl ?_
  intro p e s m args below meth c s₁ B hml hv
  obtain ⟨rfl, hsz, hP, hK, hD0, hG⟩ := hv
  have hx := B.exec
  have hb := B.bytes
  have hr := B.returns
  have hts := atoms_spec (ws := (oh_w yX7_told cX7_told 6 (some .boolean))) B.pre
  have htg : ∀ w ∈ oh_t, w.before _ s = true := fun w h => hts w (List.mem_cons_of_mem _ h)
  have hown : s.vm.findClass RX7 = some m.cls := findClass_of_methodNamed B.named
  have hlocks := B.notSynchronized
  have hT0 := hT
  subst hsz
  have hD := hD0.self (sz := s.heap.size)
  generalize hAe : va_A (oh_W n a C) s.heap.size = A at hD hG ⊢
  have hA : ∀ q : Nat, s.heap.size ≤ q → A q := fun q h => by rw [← hAe]; exact Or.inr h
  have hS : va_S A s.heap s.heap [] := va_S.rf
  have hF : fr [(k, k + 1)] [21, 22, 23, 24, 25] C C := fr_rf
  have hl := lv_entry ([.ref (a 0), .ref (G (3 + j)), .ref (a k), .int x1, .int x2, .int x3]) (n := 6) (Nat.le_of_ble_eq_true rfl)
  rw [lg_entry_eq]
  generalize (lg_sl ([.ref (a 0), .ref (G (3 + j)), .ref (a k), .int x1, .int x2, .int x3]) ++ List.replicate (6 - (lg_sl ([.ref (a 0), .ref (G (3 + j)), .ref (a k), .int x1, .int x2, .int x3])).length) Slot.unset).toArray = ls at hl ⊢
  have hl : lv_has ls 6 [(0, .ref (a 0)), (1, .ref (G (3 + j))), (2, .ref (a k)), (3, .int x1), (4, .int x2), (5, .int x3)] := hl
  refine oh_genQ (fun Q hQ => ?_)
  have hok0 := hok
  obtain ⟨hk1, hk0, N1, hs1, hi1, hu1⟩ := hok
  have hok := hok0
  refine lv_aload_n hx hb dX7_told_0 rfl (lv_at hl 0 rfl) ?_
  refine lv_aload_n hx hb dX7_told_1 rfl (lv_at hl 1 rfl) ?_
  refine tq_V (As := [.ref (G (3 + j))]) (rest := []) (ws := (oh_W n a C)) ⟨hx, hb, hml, hown, htg⟩ (e_X7_isWord l D E G a C n hn hT j hj) (cwV 1 htg (oh_gV q_1215 q_1217 q_41 q_73 q_1218) rfl rfl rfl pdVX7_isWord ⟨Nat.le_of_ble_eq_true rfl, Nat.le_of_ble_eq_true rfl⟩) hK hP hG hS (va_recv hK hP (ci := 7) (q0 := 0) rfl (oh_wg (Nat.lt_of_lt_of_le (by decide) hn) (sM_0 hT))) rfl hl.1 rfl (Nat.le_of_ble_eq_true rfl) dX7_told_2 ⟨Nat.le_of_ble_eq_true rfl, Nat.le_of_ble_eq_true rfl⟩ (fun r_1 hq_2 => ?_)
  refine lv_if_ne (tgt := 13) hx hb dX7_told_5 (by decide) (fun (c_3 : ¬ (r_1 = 0)) => ?_) (fun (c_3 : r_1 = 0) => ?_)
  · have u_4 := hq_2.2.1 c_3
    refine lv_aload_n hx hb dX7_told_13 rfl (lv_at hl 0 rfl) ?_
    have : 0 ≤ (gi (C 0) 21).toInt ∧ (gi (C 0) 21).toInt ≤ 250 := fM_0_21 hT0
    have : 0 ≤ (gi (C 0) 7).toInt ∧ (gi (C 0) 7).toInt ≤ 250 := fM_0_7 hT0
    have : 0 ≤ (gi (C 0) 23).toInt ∧ (gi (C 0) 23).toInt ≤ 250 := fM_0_23 hT0
    have : 0 ≤ (gi (C 0) 13).toInt ∧ (gi (C 0) 13).toInt ≤ 5 := fM_0_13 hT0
    refine tm_Vv (As := []) (rest := []) ⟨hx, hb, hml, hown, htg⟩ (e_X7_look l D E G _ a C n hn hT (by omega)) (cwV 0 htg (oh_gV q_1197 q_1199 q_39 q_73 q_1200) rfl rfl rfl pdVX7_look ⟨Nat.le_of_ble_eq_true rfl, Nat.le_of_ble_eq_true rfl⟩) hK hP hD hG hS hA (va_recv hK hP (ci := 7) (q0 := 0) rfl (oh_wg (Nat.lt_of_lt_of_le (by decide) hn) (sM_0 hT))) rfl hl.1 rfl (Nat.le_of_ble_eq_true rfl) dX7_told_14 ⟨Nat.le_of_ble_eq_true rfl, Nat.le_of_ble_eq_true rfl⟩ (fun C_6 H locs hq_7 hP hD hS => ?_)
    obtain ⟨hT, f_8, hq_7⟩ := hq_7
    have hF := fr_tr hF f_8 rfl (by decide)
    refine W.widen (k := 0) (n := 0) (Nat.le_refl _) (Nat.le_refl _) ?_
    have t_9 := hT
    have ep_10 := hq_7.2.1
    refine lv_aload_n hx hb dX7_told_17 rfl (lv_at hl 0 rfl) ?_
    refine lv_aload_n hx hb dX7_told_18 rfl (lv_at hl 2 rfl) ?_
    refine lv_iload_n hx hb dX7_told_19 rfl (lv_at hl 3 rfl) ?_
    refine lv_iload hx hb dX7_told_20 (lv_at hl 4 rfl) ?_
    refine lv_iload hx hb dX7_told_22 (lv_at hl 5 rfl) ?_
    have : (gi (C_6 0) 7).toInt = (gi (C 0) 7).toInt := congrArg (fun z => (vi z).toInt) (f_8.2 7 (by decide))
    have : (gi (C_6 0) 13).toInt = (gi (C 0) 13).toInt := congrArg (fun z => (vi z).toInt) (f_8.2 13 (by decide))
    have : 0 ≤ (gi (C_6 0) 21).toInt ∧ (gi (C_6 0) 21).toInt ≤ 250 := fM_0_21 t_9
    have : 0 ≤ (gi (C_6 0) 7).toInt ∧ (gi (C_6 0) 7).toInt ≤ 250 := fM_0_7 t_9
    have : 0 ≤ (gi (C_6 0) 23).toInt ∧ (gi (C_6 0) 23).toInt ≤ 250 := fM_0_23 t_9
    have : 0 ≤ (gi (C_6 0) 13).toInt ∧ (gi (C_6 0) 13).toInt ≤ 5 := fM_0_13 t_9
    refine tm_V (As := [.ref (a k), .int x1, .int x2, .int x3]) (rest := []) ⟨hx, hb, hml, hown, htg⟩ (e_X7_number l D E G _ a C_6 n hn hT k x1 x2 x3 (rg_w hx2 (by decide)) (rg_w hx3 (by decide)) hok (by omega) (fgL hq_7.2.2 (f_8.1 7 rfl (by decide))) (by omega) hk7) (cwV 4 htg (oh_gV q_1225 q_1227 q_43 q_73 q_1228) rfl rfl rfl pdVX7_number ⟨Nat.le_of_ble_eq_true rfl, Nat.le_of_ble_eq_true rfl⟩) hK hP hD hG hS hA (va_recv hK hP (ci := 7) (q0 := 0) rfl (oh_wg (Nat.lt_of_lt_of_le (by decide) hn) (sM_0 hT))) rfl hl.1 rfl (Nat.le_of_ble_eq_true rfl) dX7_told_24 ⟨Nat.le_of_ble_eq_true rfl, Nat.le_of_ble_eq_true rfl⟩ (fun r_11 C_12 H locs hq_13 hP hD hS => ?_)
    obtain ⟨hT, f_14, hq_13⟩ := hq_13
    have hF := fr_trs hF f_14 (by decide)
    refine W.widen (k := 0) (n := 0) (Nat.le_refl _) (Nat.le_refl _) ?_
    have t_15 := hT
    have : (gi (C_12 0) 7).toInt = (gi (C_6 0) 7).toInt := congrArg (fun z => (vi z).toInt) (f_14.2 7 (by decide))
    have : (gi (C_12 0) 13).toInt = (gi (C_6 0) 13).toInt := congrArg (fun z => (vi z).toInt) (f_14.2 13 (by decide))
    have : 0 ≤ (gi (C_12 0) 21).toInt ∧ (gi (C_12 0) 21).toInt ≤ 250 := fM_0_21 t_15
    have : 0 ≤ (gi (C_12 0) 7).toInt ∧ (gi (C_12 0) 7).toInt ≤ 250 := fM_0_7 t_15
    have : 0 ≤ (gi (C_12 0) 23).toInt ∧ (gi (C_12 0) 23).toInt ≤ 250 := fM_0_23 t_15
    have : 0 ≤ (gi (C_12 0) 13).toInt ∧ (gi (C_12 0) 13).toInt ≤ 5 := fM_0_13 t_15
    rw [hQ]
    exact W.zret (v := r_11) (ty := .boolean) hx hb hr (oh_nb hq_13.1) (fun t ht hW => ⟨⟨r_11, C_12, rfl, ⟨hT, hF, ⟨hq_13.1, ⟨(by omega), hq_13.2.1.2⟩, (fun j hj => Eq.trans (hq_13.2.2.1 j hj) (congrArg (fun z => ga z j) (f_8.1 k rfl hk0))), (fun h9 => (hq_13.2.2.2.1 h9)), (fun h9 => (by omega)), (fun h9 => (tn_of u_4.2 ep_10 (congrArg ga (f_8.1 7 rfl (by decide))) (hq_13.2.2.2.2.1 h9))), (fun h9 => (tn_of u_4.2 ep_10 (congrArg ga (f_8.1 7 rfl (by decide))) (hq_13.2.2.2.2.2.1 h9))), (fun h9 => (Eq.trans (hq_13.2.2.2.2.2.2.1 h9) (f_8.1 k rfl hk0))), hq_13.2.2.2.2.2.2.2.1, hq_13.2.2.2.2.2.2.2.2⟩⟩, ⟨by rw [ht]; exact hP, hD⟩⟩, hS.F ht⟩) hS.2.2 dX7_told_27
  · have u_16 := hq_2.2.2 c_3
    refine lv_aload_n hx hb dX7_told_8 rfl (lv_at hl 0 rfl) ?_
    refine tm_V (As := []) (rest := []) ⟨hx, hb, hml, hown, htg⟩ (e_X7_wrong l D E G _ a C n hn hT) (cwV 0 htg (oh_gV q_1229 q_1231 q_44 q_73 q_1232) rfl rfl rfl pdVX7_wrong ⟨Nat.le_of_ble_eq_true rfl, Nat.le_of_ble_eq_true rfl⟩) hK hP hD hG hS hA (va_recv hK hP (ci := 7) (q0 := 0) rfl (oh_wg (Nat.lt_of_lt_of_le (by decide) hn) (sM_0 hT))) rfl hl.1 rfl (Nat.le_of_ble_eq_true rfl) dX7_told_9 ⟨Nat.le_of_ble_eq_true rfl, Nat.le_of_ble_eq_true rfl⟩ (fun r_17 C_18 H locs hq_19 hP hD hS => ?_)
    obtain ⟨hT, f_20, hq_19⟩ := hq_19
    have hF := fr_tr hF f_20 rfl (by decide)
    refine W.widen (k := 0) (n := 0) (Nat.le_refl _) (Nat.le_refl _) ?_
    have t_21 := hT
    have : (gi (C_18 0) 21).toInt = (gi (C 0) 21).toInt := congrArg (fun z => (vi z).toInt) (f_20.2 21 (by decide))
    have : (gi (C_18 0) 7).toInt = (gi (C 0) 7).toInt := congrArg (fun z => (vi z).toInt) (f_20.2 7 (by decide))
    have : (gi (C_18 0) 23).toInt = (gi (C 0) 23).toInt := congrArg (fun z => (vi z).toInt) (f_20.2 23 (by decide))
    have : (gi (C_18 0) 13).toInt = (gi (C 0) 13).toInt := congrArg (fun z => (vi z).toInt) (f_20.2 13 (by decide))
    have : 0 ≤ (gi (C 0) 21).toInt ∧ (gi (C 0) 21).toInt ≤ 250 := fM_0_21 hT0
    have : 0 ≤ (gi (C 0) 7).toInt ∧ (gi (C 0) 7).toInt ≤ 250 := fM_0_7 hT0
    have : 0 ≤ (gi (C 0) 23).toInt ∧ (gi (C 0) 23).toInt ≤ 250 := fM_0_23 hT0
    have : 0 ≤ (gi (C 0) 13).toInt ∧ (gi (C 0) 13).toInt ≤ 5 := fM_0_13 hT0
    have : 0 ≤ (gi (C_18 0) 21).toInt ∧ (gi (C_18 0) 21).toInt ≤ 250 := fM_0_21 t_21
    have : 0 ≤ (gi (C_18 0) 7).toInt ∧ (gi (C_18 0) 7).toInt ≤ 250 := fM_0_7 t_21
    have : 0 ≤ (gi (C_18 0) 23).toInt ∧ (gi (C_18 0) 23).toInt ≤ 250 := fM_0_23 t_21
    have : 0 ≤ (gi (C_18 0) 13).toInt ∧ (gi (C_18 0) 13).toInt ≤ 5 := fM_0_13 t_21
    rw [hQ]
    exact W.zret (v := r_17) (ty := .boolean) hx hb hr (oh_nb hq_19.1) (fun t ht hW => ⟨⟨r_17, C_18, rfl, ⟨hT, hF, ⟨hq_19.1, ⟨(by omega), (by omega)⟩, (fun j hj => congrArg (fun z => ga z j) (f_20.1 k rfl hk0)), (fun h9 => (absurd hq_19.2.1 h9)), (fun h9 => (absurd hq_19.2.1 h9)), (fun h9 => (absurd hq_19.2.1 h9)), (fun h9 => (Eq.trans (pif_neg u_16) (congrArg Except.error hq_19.2.2.symm))), (fun h9 => (f_20.1 k rfl hk0)), (fgR hfg f_20 (f_20.1 7 rfl (by decide)) (by decide)), (by omega)⟩⟩, ⟨by rw [ht]; exact hP, hD⟩⟩, hS.F ht⟩) hS.2.2 dX7_told_12

set_option maxHeartbeats 4000000 in
set_option maxRecDepth 100000 in
theorem e_X7_perhaps (l : Launch) (D : va_G) (E : Nat → ClassId) (G : Nat → Nat) (sz : Nat) (a : Nat → Nat) (C : Nat → va_E) (n : Nat) (hn : 74 ≤ n) (hT : TyM a E C) (j : Nat) (k : Nat) (x1 : Int32) (x2 : Int32) (x3 : Int32) (hj : j < 34) (hx2 : rg x2 0 999) (hx3 : rg x3 (-1) 999) (hok : okR a E n k x1 x2 x3) (hat : (gi (C 0) 21).toInt ≤ (gi (C 0) 7).toInt) (hfg : FG C) (hft : (gi (C 0) 23).toInt ≤ (gi (C 0) 21).toInt) (hk7 : k ≠ 7) : Met l yX7_perhaps (oh_w yX7_perhaps cX7_perhaps 6 (some .boolean)) ({ frames := 6, cells := 0, slots := 0, locals := 132 }) (oh_Pm D E G [.ref (a 0), .ref (G (3 + j)), .ref (a k), .int x1, .int x2, .int x3] (oh_W n a C) sz) (va_Qi (fun r (u : Nat → va_E) => TyM a E u ∧ fr [(k, k + 1)] [21, 22, 23, 24, 25] C u ∧ (r = 0 ∨ r = 1) ∧ (((gi (C 0) 21).toInt ≤ (gi (u 0) 21).toInt) ∧ ((gi (u 0) 21).toInt ≤ (gi (u 0) 7).toInt)) ∧ (∀ jj, jj ≠ x1.toNatClampNeg → ga (u k) jj = ga (C k) jj) ∧ (r ≠ 0 → (pNum (ga (C 7)) j x2 x3 (ga (C k) x1.toNatClampNeg) (pm C) = .ok (ga (u k) x1.toNatClampNeg, pm u))) ∧ (r = 0 → (pNum (ga (C 7)) j x2 x3 (ga (C k) x1.toNatClampNeg) (pm C) = .error (gi (u 0) 25))) ∧ (r = 0 → (u k = C k)) ∧ (FG u) ∧ ((gi (u 0) 23).toInt ≤ (gi (u 0) 21).toInt)) (oh_B D (va_A (oh_W n a C) sz) (fun u => oh_W n a u)) (va_A (oh_W n a C) sz)) 0 0 (va_A (oh_W n a C) sz) := by
  refine Met.ofW (cc := cX7_perhaps) (maxL := 6) (ret := (some .boolean)) (by decide) rfl ?_
  intro p e s m args below meth c s₁ B hml hv
  obtain ⟨rfl, hsz, hP, hK, hD0, hG⟩ := hv
  have hx := B.exec
  have hb := B.bytes
  have hr := B.returns
  have hts := atoms_spec (ws := (oh_w yX7_perhaps cX7_perhaps 6 (some .boolean))) B.pre
  have htg : ∀ w ∈ oh_t, w.before _ s = true := fun w h => hts w (List.mem_cons_of_mem _ h)
  have hown : s.vm.findClass RX7 = some m.cls := findClass_of_methodNamed B.named
  have hlocks := B.notSynchronized
  have hT0 := hT
  subst hsz
  have hD := hD0.self (sz := s.heap.size)
  generalize hAe : va_A (oh_W n a C) s.heap.size = A at hD hG ⊢
  have hA : ∀ q : Nat, s.heap.size ≤ q → A q := fun q h => by rw [← hAe]; exact Or.inr h
  have hS : va_S A s.heap s.heap [] := va_S.rf
  have hF : fr [(k, k + 1)] [21, 22, 23, 24, 25] C C := fr_rf
  have hl := lv_entry ([.ref (a 0), .ref (G (3 + j)), .ref (a k), .int x1, .int x2, .int x3]) (n := 6) (Nat.le_of_ble_eq_true rfl)
  rw [lg_entry_eq]
  generalize (lg_sl ([.ref (a 0), .ref (G (3 + j)), .ref (a k), .int x1, .int x2, .int x3]) ++ List.replicate (6 - (lg_sl ([.ref (a 0), .ref (G (3 + j)), .ref (a k), .int x1, .int x2, .int x3])).length) Slot.unset).toArray = ls at hl ⊢
  have hl : lv_has ls 6 [(0, .ref (a 0)), (1, .ref (G (3 + j))), (2, .ref (a k)), (3, .int x1), (4, .int x2), (5, .int x3)] := hl
  refine oh_genQ (fun Q hQ => ?_)
  have hok0 := hok
  obtain ⟨hk1, hk0, N1, hs1, hi1, hu1⟩ := hok
  have hok := hok0
  refine lv_aload_n hx hb dX7_perhaps_0 rfl (lv_at hl 0 rfl) ?_
  refine lv_aload_n hx hb dX7_perhaps_1 rfl (lv_at hl 1 rfl) ?_
  refine tq_V (As := [.ref (G (3 + j))]) (rest := []) (ws := (oh_W n a C)) ⟨hx, hb, hml, hown, htg⟩ (e_X7_isWord l D E G a C n hn hT j hj) (cwV 1 htg (oh_gV q_1215 q_1217 q_41 q_73 q_1218) rfl rfl rfl pdVX7_isWord ⟨Nat.le_of_ble_eq_true rfl, Nat.le_of_ble_eq_true rfl⟩) hK hP hG hS (va_recv hK hP (ci := 7) (q0 := 0) rfl (oh_wg (Nat.lt_of_lt_of_le (by decide) hn) (sM_0 hT))) rfl hl.1 rfl (Nat.le_of_ble_eq_true rfl) dX7_perhaps_2 ⟨Nat.le_of_ble_eq_true rfl, Nat.le_of_ble_eq_true rfl⟩ (fun r_1 hq_2 => ?_)
  refine lv_if_eq (tgt := 22) hx hb dX7_perhaps_5 (by decide) (fun (c_3 : r_1 = 0) => ?_) (fun (c_3 : ¬ (r_1 = 0)) => ?_)
  · have u_4 := hq_2.2.2 c_3
    refine lv_iconst (v := 1) hx hb dX7_perhaps_22 (by decide) ?_
    refine lv_goto (tgt := 27) hx hb dX7_perhaps_23 (by decide) ?_
    have : 0 ≤ (gi (C 0) 21).toInt ∧ (gi (C 0) 21).toInt ≤ 250 := fM_0_21 hT0
    have : 0 ≤ (gi (C 0) 7).toInt ∧ (gi (C 0) 7).toInt ≤ 250 := fM_0_7 hT0
    have : 0 ≤ (gi (C 0) 23).toInt ∧ (gi (C 0) 23).toInt ≤ 250 := fM_0_23 hT0
    have : 0 ≤ (gi (C 0) 13).toInt ∧ (gi (C 0) 13).toInt ≤ 5 := fM_0_13 hT0
    rw [hQ]
    exact W.zret (v := 1) (ty := .boolean) hx hb hr (by decide) (fun t ht hW => ⟨⟨1, C, rfl, ⟨hT, hF, ⟨(Or.inr rfl), ⟨(by omega), (by omega)⟩, (fun j hj => rfl), (fun _ => (pif_neg u_4)), (fun h9 => absurd h9 (by decide)), (fun h9 => absurd h9 (by decide)), hfg, (by omega)⟩⟩, ⟨by rw [ht]; exact hP, hD⟩⟩, hS.F ht⟩) hS.2.2 dX7_perhaps_27
  · have u_5 := hq_2.2.1 c_3
    refine lv_aload_n hx hb dX7_perhaps_8 rfl (lv_at hl 0 rfl) ?_
    refine lv_aload_n hx hb dX7_perhaps_9 rfl (lv_at hl 1 rfl) ?_
    refine lv_aload_n hx hb dX7_perhaps_10 rfl (lv_at hl 2 rfl) ?_
    refine lv_iload_n hx hb dX7_perhaps_11 rfl (lv_at hl 3 rfl) ?_
    refine lv_iload hx hb dX7_perhaps_12 (lv_at hl 4 rfl) ?_
    refine lv_iload hx hb dX7_perhaps_14 (lv_at hl 5 rfl) ?_
    have : 0 ≤ (gi (C 0) 21).toInt ∧ (gi (C 0) 21).toInt ≤ 250 := fM_0_21 hT0
    have : 0 ≤ (gi (C 0) 7).toInt ∧ (gi (C 0) 7).toInt ≤ 250 := fM_0_7 hT0
    have : 0 ≤ (gi (C 0) 23).toInt ∧ (gi (C 0) 23).toInt ≤ 250 := fM_0_23 hT0
    have : 0 ≤ (gi (C 0) 13).toInt ∧ (gi (C 0) 13).toInt ≤ 5 := fM_0_13 hT0
    refine tm_V (As := [.ref (G (3 + j)), .ref (a k), .int x1, .int x2, .int x3]) (rest := []) ⟨hx, hb, hml, hown, htg⟩ (e_X7_told l D E G _ a C n hn hT j k x1 x2 x3 hj (rg_w hx2 (by decide)) (rg_w hx3 (by decide)) hok (by omega) hfg (by omega) hk7) (cwV 5 htg (oh_gV q_1234 q_1236 q_45 q_73 q_1237) rfl rfl rfl pdVX7_told ⟨Nat.le_of_ble_eq_true rfl, Nat.le_of_ble_eq_true rfl⟩) hK hP hD hG hS hA (va_recv hK hP (ci := 7) (q0 := 0) rfl (oh_wg (Nat.lt_of_lt_of_le (by decide) hn) (sM_0 hT))) rfl hl.1 rfl (Nat.le_of_ble_eq_true rfl) dX7_perhaps_16 ⟨Nat.le_of_ble_eq_true rfl, Nat.le_of_ble_eq_true rfl⟩ (fun r_6 C_7 H locs hq_8 hP hD hS => ?_)
    obtain ⟨hT, f_9, hq_8⟩ := hq_8
    have hF := fr_trs hF f_9 (by decide)
    refine W.widen (k := 0) (n := 0) (Nat.le_refl _) (Nat.le_refl _) ?_
    have t_10 := hT
    refine lv_if_eq (tgt := 26) hx hb dX7_perhaps_19 (by decide) (fun (c_11 : r_6 = 0) => ?_) (fun (c_11 : ¬ (r_6 = 0)) => ?_)
    · have u_12 := hq_8.2.2.2.2.2.2.1 c_11
      have u_13 := hq_8.2.2.2.2.2.2.2.1 c_11
      refine lv_iconst (v := 0) hx hb dX7_perhaps_26 (by decide) ?_
      rw [hQ]
      exact W.zret (v := 0) (ty := .boolean) hx hb hr (by decide) (fun t ht hW => ⟨⟨0, C_7, rfl, ⟨hT, hF, ⟨(Or.inl rfl), ⟨hq_8.2.1.1, hq_8.2.1.2⟩, hq_8.2.2.1, (fun h9 => absurd rfl h9), (fun _ => (Eq.trans (pif_pos u_5.2) u_12)), (fun _ => u_13), hq_8.2.2.2.2.2.2.2.2.1, hq_8.2.2.2.2.2.2.2.2.2⟩⟩, ⟨by rw [ht]; exact hP, hD⟩⟩, hS.F ht⟩) hS.2.2 dX7_perhaps_27
    · have u_14 := hq_8.2.2.2.1 c_11
      have u_15 := hq_8.2.2.2.2.1 c_11
      have u_16 := hq_8.2.2.2.2.2.1 c_11
      refine lv_iconst (v := 1) hx hb dX7_perhaps_22 (by decide) ?_
      refine lv_goto (tgt := 27) hx hb dX7_perhaps_23 (by decide) ?_
      rw [hQ]
      exact W.zret (v := 1) (ty := .boolean) hx hb hr (by decide) (fun t ht hW => ⟨⟨1, C_7, rfl, ⟨hT, hF, ⟨(Or.inr rfl), ⟨hq_8.2.1.1, hq_8.2.1.2⟩, hq_8.2.2.1, (fun _ => (Eq.trans (pif_pos u_5.2) u_16)), (fun h9 => absurd h9 (by decide)), (fun h9 => absurd h9 (by decide)), hq_8.2.2.2.2.2.2.2.2.1, hq_8.2.2.2.2.2.2.2.2.2⟩⟩, ⟨by rw [ht]; exact hP, hD⟩⟩, hS.F ht⟩) hS.2.2 dX7_perhaps_27
