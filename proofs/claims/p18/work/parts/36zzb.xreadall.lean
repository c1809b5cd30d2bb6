/-! EXACT: the whole tape -/
noncomputable def rdLoop (f : Nat → Int32) : Nat → PX → LA → Int32 → Except Int32 (LA × Int32)
  | 0, _, A, k => .ok (A, k)
  | n + 1, p, A, k => pif (p.2.2.1 = 0) (.ok (A, k)) (pif (p.2.2.1 = 3) (exB (rdStmt f (xAdv f p) A) fun x => rdLoop f n x.2 x.1 (k + 1)) (.error p.2.2.2.1))
theorem rdLoop_s {f : Nat → Int32} {n : Nat} {p : PX} {A : LA} {k : Int32} : rdLoop f (n + 1) p A k = pif (p.2.2.1 = 0) (.ok (A, k)) (pif (p.2.2.1 = 3) (exB (rdStmt f (xAdv f p) A) fun x => rdLoop f n x.2 x.1 (k + 1)) (.error p.2.2.2.1)) := rfl
noncomputable def rdTot (f : Nat → Int32) (n : Int32) (A : LA) : Except Int32 (LA × Int32) := exB (rdStmt f (xAdv f (n, -1, 0, 0, 0)) A) fun x => rdLoop f 249 x.2 x.1 1
/-- nothing of A is another in B -/
def below (A B : LA) : Prop := (∀ t, t < 4 → (A 5 0 t).toInt ≤ (B 5 0 t).toInt) ∧ (∀ t, t < 4 → ∀ i : Nat, (i : Int) < (A 5 0 t).toInt → ∀ j, B t i j = A t i j) ∧ B 4 0 2 = A 4 0 2
theorem below_rf {A : LA} : below A A := ⟨fun _ _ => Int.le_refl _, fun _ _ _ _ _ => rfl, rfl⟩
theorem below_add {A B : LA} {t : Nat} {v : Nat → Int32} (h : below A B) (ht : t < 4) (hc : rg (B 5 0 t) 0 24) : below A (addA B t v) := by
  refine ⟨fun s hs => ?_, fun s hs i hi j => ?_, ?_⟩
  · have h1 := h.1 s hs
    by_cases q : s = t
    · subst q
      rw [addA_5 hs, oh_inc24 hc]
      omega
    · rw [addA_5n ht q]
      exact h1
  · have h1 := h.1 s hs
    rw [addA_old hs (fun z => by have z1 := z.1; have z2 := z.2; subst z1; omega)]
    exact h.2.1 s hs i hi j
  · rw [addA_4 ht]
    exact h.2.2
theorem below_set {A B : LA} {k : Nat} {v : Int32} (h : below A B) (hk : k ≠ 2) : below A (setA B k v) := by
  refine ⟨fun s hs => ?_, fun s hs i hi j => ?_, ?_⟩
  · rw [setA_5]
    exact h.1 s hs
  · rw [setA_t hs]
    exact h.2.1 s hs i hi j
  · rw [show setA B k v 4 0 2 = B 4 0 2 from if_neg (fun z => hk z.2.2.symm)]
    exact h.2.2
theorem exB_ok {α β : Type} {r : Except Int32 α} {k : α → Except Int32 β} {y : β} (h : exB r k = .ok y) : ∃ x, r = .ok x ∧ k x = .ok y := by
  cases r with
  | error e => exact absurd h (by intro q; cases q)
  | ok x => exact ⟨x, rfl, h⟩
theorem below_stmt {f : Nat → Int32} {p : PX} {A B : LA} {y : LA × PX} (h : below A B) (hc : ∀ t, t < 4 → rg (B 5 0 t) 0 24) (e : rdStmt f p B = .ok y) : below A y.1 := by
  unfold rdStmt at e
  by_cases c0 : XIs f p 0
  · rw [pif_pos c0] at e
    by_cases r : B 5 0 0 < 24
    · rw [pif_pos r] at e
      obtain ⟨x, -, hx⟩ := exB_ok e
      cases hx
      exact below_add h (by decide) (hc 0 (by decide))
    · rw [pif_neg r] at e
      cases e
  · rw [pif_neg c0] at e
    by_cases c1 : XIs f p 5
    · rw [pif_pos c1] at e
      by_cases r : B 5 0 1 < 16
      · rw [pif_pos r] at e
        obtain ⟨x, -, hx⟩ := exB_ok e
        cases hx
        exact below_add h (by decide) (hc 1 (by decide))
      · rw [pif_neg r] at e
        cases e
    · rw [pif_neg c1] at e
      by_cases c2 : XIs f p 11
      · rw [pif_pos c2] at e
        by_cases r : B 5 0 2 < 5
        · rw [pif_pos r] at e
          obtain ⟨x, -, hx⟩ := exB_ok e
          cases hx
          exact below_add h (by decide) (hc 2 (by decide))
        · rw [pif_neg r] at e
          cases e
      · rw [pif_neg c2] at e
        by_cases c3 : XIs f p 14
        · rw [pif_pos c3] at e
          by_cases r : B 5 0 3 < 5
          · rw [pif_pos r] at e
            obtain ⟨x, -, hx⟩ := exB_ok e
            cases hx
            exact below_add h (by decide) (hc 3 (by decide))
          · rw [pif_neg r] at e
            cases e
        · rw [pif_neg c3] at e
          by_cases c4 : XIs f p 15
          · rw [pif_pos c4] at e
            obtain ⟨x, -, hx⟩ := exB_ok e
            cases hx
            exact below_set h (by decide)
          · rw [pif_neg c4] at e
            obtain ⟨x, -, hx⟩ := exB_ok e
            cases hx
            exact below_set h (by decide)
/-- the class at its loop -/
def XL (f : Nat → Int32) (n : Int32) (A0 : LA) (K : Nat → va_E) (z : Int32) : Prop :=
  (∃ A, fine (px K) ∧ absX 10 K A ∧ below A0 A ∧ rdLoop f (250 - z.toInt).toNat (px K) A z = rdTot f n A0) ∨ (∃ e, gi (K 5) 2 = e ∧ ¬ e = -1 ∧ (∃ A, absX 10 K A ∧ below A0 A) ∧ rdTot f n A0 = .error e)
theorem cntA {c : Nat} {C : Nat → va_E} {A : LA} (h : absX c C A) (hc : ∀ t, t < 4 → rg (ga (C c) t) 0 24) : ∀ t, t < 4 → rg (A 5 0 t) 0 24 := fun t ht => by
  rw [← h.1 t ht]
  exact hc t ht
theorem XL_0 {f : Nat → Int32} {n t s : Int32} {A0 : LA} {C C3 C4 : Nat → va_E} (hA : absX 10 C A0) (hc : ∀ t, t < 4 → rg (ga (C 10) t) 0 24) (e3 : ∀ k, 10 ≤ k → k ≤ 15 → C3 k = C k) (hp : px C3 = xAdv f (n, -1, t, s, 0)) (hn : rg n 0 250) (hst : ∀ A : LA, absX 10 C3 A → fine (px C3) → RelSt (rdStmt f (px C3) A) C3 C4) : XL f n A0 C4 1 := by
  have hf : fine (px C3) := by
    rw [hp]
    exact fine_adv0 rfl hn (by decide) (by show (0 : Int) ≤ _; exact hn.1)
  have hr := hst A0 (absX_eq hA (fun k k1 k2 => e3 k k1 (by omega))) hf
  have et : rdTot f n A0 = exB (rdStmt f (px C3) A0) fun x => rdLoop f 249 x.2 x.1 1 := by
    rw [hp]
    rfl
  cases e : rdStmt f (px C3) A0 with
  | error d =>
    rw [e] at hr et
    obtain ⟨h1, h2, h3⟩ := hr
    exact Or.inr ⟨d, h1, h2, ⟨A0, absX_eq hA (fun k k1 k2 => (h3 k k1 (by omega)).trans (e3 k k1 (by omega))), below_rf⟩, et⟩
  | ok y =>
    rw [e] at hr et
    obtain ⟨h1, h2, h3⟩ := hr
    refine Or.inl ⟨y.1, by rw [h1]; exact h2, h3, below_stmt below_rf (cntA hA hc) e, ?_⟩
    rw [et, h1]
    rfl
theorem XL_s {f : Nat → Int32} {n z : Int32} {A0 : LA} {K K1 K2 : Nat → va_E} (h : XL f n A0 K z) (hc : ∀ t, t < 4 → rg (ga (K 10) t) 0 24) (hs : gi (K 5) 2 = -1) (ht : ¬ gi (K 5) 3 = 0) (hz : rg z 0 249) (h1 : px K1 = xSign f (px K)) (e1 : ∀ k, 10 ≤ k → k ≤ 15 → K1 k = K k) (h2 : ∀ A : LA, absX 10 K1 A → fine (px K1) → RelSt (rdStmt f (px K1) A) K1 K2) (h3 : ¬ gi (K1 5) 2 = -1 → gi (K2 5) 2 = gi (K1 5) 2 ∧ ∀ k, 10 ≤ k → k ≤ 15 → K2 k = K1 k) : XL f n A0 K2 (z + 1) := by
  rcases h with ⟨A, g1, g2, g3, g4⟩ | ⟨e, g1, g2, -, -⟩
  · have e2 := oh_add1 hz
    have hA1 : absX 10 K1 A := absX_eq g2 (fun k k1 k2 => e1 k k1 (by omega))
    rw [show (250 - z.toInt).toNat = (250 - (z + 1).toInt).toNat + 1 by have := hz.2; omega, rdLoop_s, pif_neg (show ¬ (px K).2.2.1 = 0 from ht)] at g4
    by_cases q : (px K).2.2.1 = 3
    · rw [pif_pos q] at g4
      have hp : px K1 = xAdv f (px K) := Eq.trans h1 (pif_pos q)
      have hr := h2 A hA1 (by rw [hp]; exact fine_adv g1)
      rw [hp] at hr
      cases e : rdStmt f (xAdv f (px K)) A with
      | error d =>
        rw [e] at hr g4
        obtain ⟨b1, b2, b3⟩ := hr
        exact Or.inr ⟨d, b1, b2, ⟨A, absX_eq hA1 (fun k k1 k2 => b3 k k1 (by omega)), g3⟩, g4.symm⟩
      | ok y =>
        rw [e] at hr g4
        obtain ⟨b1, b2, b3⟩ := hr
        refine Or.inl ⟨y.1, by rw [b1]; exact b2, b3, below_stmt g3 (cntA g2 hc) e, ?_⟩
        rw [← g4, b1]
        rfl
    · rw [pif_neg q] at g4
      have hp : px K1 = xFail (px K) := Eq.trans h1 (pif_neg q)
      obtain ⟨b1, b2⟩ := fine_fail g1
      have hq : gi (K1 5) 2 = (xFail (px K)).2.1 := congrArg (fun z => z.2.1) hp
      obtain ⟨d1, d2⟩ := h3 (by rw [hq]; exact b2)
      refine Or.inr ⟨(px K).2.2.2.1, by rw [d1, hq]; exact b1, by rw [← b1]; exact b2, ⟨A, absX_eq hA1 (fun k k1 k2 => d2 k k1 (by omega)), g3⟩, g4.symm⟩
  · exact absurd (Eq.trans g1.symm hs) g2
def RelT (R : Except Int32 (LA × Int32)) (A0 : LA) (r : Int32) (u : Nat → va_E) : Prop := match R with
  | .ok y => gi (u 5) 2 = -1 ∧ absX 10 u y.1 ∧ r = y.2
  | .error e => gi (u 5) 2 = e ∧ ¬ e = -1 ∧ absX 10 u A0
theorem XL_ok {f : Nat → Int32} {n z : Int32} {A0 : LA} {K : Nat → va_E} (h : XL f n A0 K z) (hs : gi (K 5) 2 = -1) (ht : gi (K 5) 3 = 0 ∨ 250 ≤ z) : RelT (rdTot f n A0) A0 z K := by
  rcases h with ⟨A, g1, g2, g3, g4⟩ | ⟨e, g1, g2, -, -⟩
  · have e : rdTot f n A0 = .ok (A, z) := by
      rw [← g4]
      cases hk : (250 - z.toInt).toNat with
      | zero => rfl
      | succ m =>
        rcases ht with ht | ht
        · rw [rdLoop_s]
          exact pif_pos ht
        · have h1 := Int32.le_iff_toInt_le.mp ht
          have h2 : (250 : Int32).toInt = 250 := rfl
          omega
    rw [e]
    exact ⟨hs, g2, rfl⟩
  · exact absurd (Eq.trans g1.symm hs) g2
theorem absX_back {C K u : Nat → va_E} {A0 A : LA} (hA : absX 10 C A0) (h : absX 10 K A) (hb : below A0 A) (e10 : ∀ j, j < 4 → ga (u 10) j = ga (C 10) j) (e15 : ∀ j, j < 3 → ga (u 15) j = ga (C 15) j) (e : ∀ k, 11 ≤ k → k ≤ 14 → u k = K k) : absX 10 u A0 := by
  refine ⟨fun t ht => ?_, fun j hj => ?_, fun t ht i hi j hj hv => ?_⟩
  · rw [e10 t ht]
    exact hA.1 t ht
  · show ga (u 15) j = _
    rw [e15 j hj]
    exact hA.2.1 j hj
  · rw [e _ (by omega) (by omega), h.2.2 t ht i (by have := hb.1 t ht; omega) j hj hv]
    exact hb.2.1 t ht i hi j
theorem XL_er {f : Nat → Int32} {n z r : Int32} {A0 : LA} {C K u : Nat → va_E} (h : XL f n A0 K z) (hA : absX 10 C A0) (hs : ¬ gi (K 5) 2 = -1) (e5 : gi (u 5) 2 = gi (K 5) 2) (e10 : ∀ j, j < 4 → ga (u 10) j = ga (C 10) j) (e15 : ∀ j, j < 3 → ga (u 15) j = ga (C 15) j) (e : ∀ k, 11 ≤ k → k ≤ 14 → u k = K k) : RelT (rdTot f n A0) A0 r u := by
  rcases h with ⟨A, g1, -⟩ | ⟨d, g1, g2, ⟨A, g3, g5⟩, g4⟩
  · exact absurd g1.1 hs
  · rw [g4]
    exact ⟨e5.trans g1, g2, absX_back hA g3 g5 e10 e15 e⟩
theorem cpy0 {α : Type} {f g : Nat → α} {n j : Nat} (h : j < n) : va_cpy f g 0 0 n j = f j := by
  unfold va_cpy
  rw [if_pos ⟨Nat.zero_le _, by omega⟩, Nat.sub_zero, Nat.zero_add]
/-- what land() answers -/
def LandR (R : Except Int32 (LA × Int32)) (A0 B : LA) (r : Int32) : Prop := match R with
  | .ok y => r = y.2 ∧ B = y.1
  | .error e => r = -20 - e ∧ B = A0
theorem ga_cpy {C C2 : Nat → va_E} {k n N j : Nat} {cA : ClassId} {f g : Nat → Int32} {m : Int32} (e : C2 = updc C k (.inl (cA, n, .inl (va_cpy f g ((0 : Int32)).toNatClampNeg ((0 : Int32)).toNatClampNeg m.toNatClampNeg)))) (hN : m.toNatClampNeg = N) (hj : j < N) : ga (C2 k) j = f j := by
  rw [st_ga e, hN]
  exact cpy0 hj

set_option maxHeartbeats 4000000 in
set_option maxRecDepth 100000 in
theorem e_X2_read (l : Launch) (D : va_G) (E : Nat → ClassId) (G : Nat → Nat) (sz : Nat) (a : Nat → Nat) (C : Nat → va_E) (hT : TyX a E C) : Met l yX2_read (oh_w yX2_read cX2_read 2 (some .int)) ({ frames := 9, cells := 0, slots := 0, locals := 199 }) (oh_Pm D E G [.ref (a 6)] (oh_W 35 a C) sz) (va_Qi (fun r (u : Nat → va_E) => TyX a E u ∧ fr [(5, 6), (10, 16), (33, 35)] [] C u ∧ (∀ A0 : LA, absX 10 C A0 → RelT (rdTot (ga (C 32)) (gi (C 5) 1) A0) A0 r u)) (oh_B D (va_A (oh_W 35 a C) sz) (fun u => oh_W 35 a u)) (va_A (oh_W 35 a C) sz)) 0 0 (va_A (oh_W 35 a C) sz) := by
  refine Met.ofW (cc := cX2_read) (maxL := 2) (ret := (some .int)) (by decide) rfl ?_
  intro p e s m args below meth c s₁ B hml hv
  obtain ⟨rfl, hsz, hP, hK, hD0, hG⟩ := hv
  have hx := B.exec
  have hb := B.bytes
  have hr := B.returns
  have hts := atoms_spec (ws := (oh_w yX2_read cX2_read 2 (some .int))) B.pre
  have htg : ∀ w ∈ oh_t, w.before _ s = true := fun w h => hts w (List.mem_cons_of_mem _ h)
  have hown : s.vm.findClass RX2 = some m.cls := findClass_of_methodNamed B.named
  have hlocks := B.notSynchronized
  have hT0 := hT
  subst hsz
  have hD := hD0.self (sz := s.heap.size)
  generalize hAe : va_A (oh_W 35 a C) s.heap.size = A at hD hG ⊢
  have hA : ∀ q : Nat, s.heap.size ≤ q → A q := fun q h => by rw [← hAe]; exact Or.inr h
  have hS : va_S A s.heap s.heap [] := va_S.rf
  have hF : fr [(5, 6), (10, 16), (33, 35)] [] C C := fr_rf
  have hl := lv_entry ([.ref (a 6)]) (n := 2) (Nat.le_of_ble_eq_true rfl)
  rw [lg_entry_eq]
  generalize (lg_sl ([.ref (a 6)]) ++ List.replicate (2 - (lg_sl ([.ref (a 6)])).length) Slot.unset).toArray = ls at hl ⊢
  have hl : lv_has ls 2 [(0, .ref (a 6))] := hl
  refine oh_genQ (fun Q hQ => ?_)
  refine lv_aload_n hx hb dX2_read_0 rfl (lv_at hl 0 rfl) ?_
  refine va_get (D := D) (ci := 2) (v := .ref (a 1)) (C := RX2) (T := TX2) (N := 4) hx hb htg ig_2 hown hK hP 6 (oh_wg (by decide) (sX_6 hT)) rfl 1 (by decide) (htg _ q_246) (fun _ h9 => h9) rfl dX2_read_1 ?_
  refine va_get (D := D) (ci := 0) (v := .ref (a 10)) (C := RX0) (T := TX0) (N := 8) hx hb htg ig_0 hown hK hP 1 (oh_wg (by decide) (sX_1 hT)) rfl 0 (by decide) (htg _ q_98) (fun _ h9 => h9) rfl dX2_read_4 ?_
  refine lv_iconst (v := 0) hx hb dX2_read_7 (by decide) ?_
  refine lv_aload_n hx hb dX2_read_8 rfl (lv_at hl 0 rfl) ?_
  refine va_get (D := D) (ci := 2) (v := .ref (a 33)) (C := RX2) (T := TX2) (N := 4) hx hb htg ig_2 hown hK hP 6 (oh_wg (by decide) (sX_6 hT)) rfl 2 (by decide) (htg _ q_247) (fun _ h9 => h9) rfl dX2_read_9 ?_
  refine lv_iconst (v := 0) hx hb dX2_read_12 (by decide) ?_
  refine lv_aload_n hx hb dX2_read_13 rfl (lv_at hl 0 rfl) ?_
  refine va_get (D := D) (ci := 2) (v := .ref (a 33)) (C := RX2) (T := TX2) (N := 4) hx hb htg ig_2 hown hK hP 6 (oh_wg (by decide) (sX_6 hT)) rfl 2 (by decide) (htg _ q_247) (fun _ h9 => h9) rfl dX2_read_14 ?_
  refine va_alen (v := 4) hx hb hK hP 33 0 (oh_wg (by decide) (sX_33 hT)) rfl (show Int32.ofNat 4 = 4 by decide) dX2_read_17 ?_
  refine th_copyi (T := TyX a E) (Rl := fr [(5, 6), (10, 16), (33, 35)] [] C) hx hb (by rw [hml]; exact hl.1.symm) hown (htg _ q_503) (htg _ q_347) (htg _ q_346) (htg _ q_74) hK hP hD hS 10 33 (by decide) (by decide) (sX_10 hT) (sX_33 hT) (by decide) (by decide) (by decide) (by decide) (by decide) (hT.up 33 (tA_cpy (tX_10 hT) (tX_33 hT))) (fr_st hF (by decide) (by decide)) (Nat.le_of_ble_eq_true rfl) (Nat.le_of_ble_eq_true rfl) dX2_read_18 (fun C_1 H locs e_2 hT hF hP hD hS => ?_)
  have t_3 := hT
  refine lv_aload_n hx hb dX2_read_21 rfl (lv_at hl 0 rfl) ?_
  refine va_get (D := D) (ci := 2) (v := .ref (a 1)) (C := RX2) (T := TX2) (N := 4) hx hb htg ig_2 hown hK hP 6 (oh_wg (by decide) (sX_6 hT)) rfl 1 (by decide) (htg _ q_246) (fun _ h9 => h9) rfl dX2_read_22 ?_
  refine va_get (D := D) (ci := 0) (v := .ref (a 15)) (C := RX0) (T := TX0) (N := 8) hx hb htg ig_0 hown hK hP 1 (oh_wg (by decide) (sX_1 hT)) rfl 5 (by decide) (htg _ q_107) (fun _ h9 => h9) rfl dX2_read_25 ?_
  refine lv_iconst (v := 0) hx hb dX2_read_28 (by decide) ?_
  refine lv_aload_n hx hb dX2_read_29 rfl (lv_at hl 0 rfl) ?_
  refine va_get (D := D) (ci := 2) (v := .ref (a 34)) (C := RX2) (T := TX2) (N := 4) hx hb htg ig_2 hown hK hP 6 (oh_wg (by decide) (sX_6 hT)) rfl 3 (by decide) (htg _ q_248) (fun _ h9 => h9) rfl dX2_read_30 ?_
  refine lv_iconst (v := 0) hx hb dX2_read_33 (by decide) ?_
  refine lv_aload_n hx hb dX2_read_34 rfl (lv_at hl 0 rfl) ?_
  refine va_get (D := D) (ci := 2) (v := .ref (a 34)) (C := RX2) (T := TX2) (N := 4) hx hb htg ig_2 hown hK hP 6 (oh_wg (by decide) (sX_6 hT)) rfl 3 (by decide) (htg _ q_248) (fun _ h9 => h9) rfl dX2_read_35 ?_
  refine va_alen (v := 3) hx hb hK hP 34 0 (oh_wg (by decide) (sX_34 hT)) rfl (show Int32.ofNat 3 = 3 by decide) dX2_read_38 ?_
  refine th_copyi (T := TyX a E) (Rl := fr [(5, 6), (10, 16), (33, 35)] [] C) hx hb (by rw [hml]; exact hl.1.symm) hown (htg _ q_503) (htg _ q_347) (htg _ q_346) (htg _ q_74) hK hP hD hS 15 34 (by decide) (by decide) (sX_15 hT) (sX_34 hT) (by decide) (by decide) (by decide) (by decide) (by decide) (hT.up 34 (tA_cpy (tX_15 hT) (tX_34 hT))) (fr_st hF (by decide) (by decide)) (Nat.le_of_ble_eq_true rfl) (Nat.le_of_ble_eq_true rfl) dX2_read_39 (fun C_4 H locs e_5 hT hF hP hD hS => ?_)
  have t_6 := hT
  refine lv_aload_n hx hb dX2_read_42 rfl (lv_at hl 0 rfl) ?_
  refine va_get (D := D) (ci := 2) (v := .ref (a 5)) (C := RX2) (T := TX2) (N := 4) hx hb htg ig_2 hown hK hP 6 (oh_wg (by decide) (sX_6 hT)) rfl 0 (by decide) (htg _ q_245) (fun _ h9 => h9) rfl dX2_read_43 ?_
  refine tm_Vv (As := []) (rest := []) ⟨hx, hb, hml, hown, htg⟩ (e_X4_rewind l D E G _ a C_4 hT) (cwV 0 htg (oh_gV q_504 q_505 q_506 q_71 q_507) rfl rfl rfl pdVX4_rewind ⟨Nat.le_of_ble_eq_true rfl, Nat.le_of_ble_eq_true rfl⟩) hK hP hD hG hS hA (va_recv hK hP (ci := 4) (q0 := 5) rfl (oh_wg (by decide) (sX_5 hT))) rfl hl.1 rfl (Nat.le_of_ble_eq_true rfl) dX2_read_46 ⟨Nat.le_of_ble_eq_true rfl, Nat.le_of_ble_eq_true rfl⟩ (fun C_8 H locs hq_9 hP hD hS => ?_)
  obtain ⟨hT, f_10, hq_9⟩ := hq_9
  have hF := fr_tr hF f_10 (by decide) (by decide)
  refine W.widen (k := 0) (n := 0) (Nat.le_refl _) (Nat.le_refl _) ?_
  have t_11 := hT
  have ep_12 := hq_9
  rw [show ga (C_4 32) = ga (C 32) from congrArg ga (Eq.trans (th_un e_5 (by decide)) (th_un e_2 (by decide)))] at ep_12
  refine lv_aload_n hx hb dX2_read_49 rfl (lv_at hl 0 rfl) ?_
  refine tm_Vv (As := []) (rest := []) ⟨hx, hb, hml, hown, htg⟩ (e_X2_readStatement l D E G _ a C_8 hT) (cwV 0 htg (oh_gV q_512 q_514 q_6 q_72 q_515) rfl rfl rfl pdVX2_readStatement ⟨Nat.le_of_ble_eq_true rfl, Nat.le_of_ble_eq_true rfl⟩) hK hP hD hG hS hA (va_recv hK hP (ci := 2) (q0 := 6) rfl (oh_wg (by decide) (sX_6 hT))) rfl hl.1 rfl (Nat.le_of_ble_eq_true rfl) dX2_read_50 ⟨Nat.le_of_ble_eq_true rfl, Nat.le_of_ble_eq_true rfl⟩ (fun C_14 H locs hq_15 hP hD hS => ?_)
  obtain ⟨hT, f_16, hq_15⟩ := hq_15
  have hF := fr_tr hF f_16 (by decide) (by decide)
  refine W.widen (k := 0) (n := 0) (Nat.le_refl _) (Nat.le_refl _) ?_
  have t_17 := hT
  refine lv_iconst (v := 1) hx hb dX2_read_53 (by decide) ?_
  refine lv_istore_n (lv' := [(1, .int 1), (0, .ref (a 6))]) hx hb dX2_read_54 rfl hl (by decide) rfl (fun ls hl => ?_)
  have L_55 : ∀ (d : Nat) (K55 : Nat → va_E) (z55_1 : Int32) (H : Heap) (locs : List Loc) (ls : Array Slot), (250 - z55_1.toInt).toNat = d → rg z55_1 1 250 → (∀ A0 : LA, absX 10 C A0 → XL (ga (C 32)) (gi (C 5) 1) A0 K55 z55_1) → TyX a E K55 → fr [(5, 6), (10, 16), (33, 35)] [] C K55 → fr [(5, 6), (10, 16)] [] C_14 K55 → va_P D vwCl (oh_W 35 a K55) H → va_D A (oh_W 35 a K55) → va_S A s.heap H locs → lv_has ls 2 [(1, .int z55_1), (0, .ref (a 6))] → W p l e ({ frames := 9, cells := 0, slots := 0, locals := 199 }) s m (([.ref (a 6)] : List Value).toArray) below meth c H locs 0 0 Q (F0 m 55 ls []) := by
    intro d
    induction d using Nat.strongRecOn with
    | ind d ih_55 =>
    intro K55 z55_1 H locs ls hd_55 hz55_1 hx_55 hT hF hLF_55 hP hD hS hl
    have t_18 := hT
    refine lv_aload_n hx hb dX2_read_55 rfl (lv_at hl 1 rfl) ?_
    refine va_get (D := D) (ci := 2) (v := .ref (a 5)) (C := RX2) (T := TX2) (N := 4) hx hb htg ig_2 hown hK hP 6 (oh_wg (by decide) (sX_6 hT)) rfl 0 (by decide) (htg _ q_245) (fun _ h9 => h9) rfl dX2_read_56 ?_
    refine tq_V (As := []) (rest := []) (ws := (oh_W 35 a K55)) ⟨hx, hb, hml, hown, htg⟩ (e_X4_isSound l D E G a K55 hT) (cwV 0 htg (oh_gV q_619 q_592 q_593 q_71 q_594) rfl rfl rfl pdVX4_isSound ⟨Nat.le_of_ble_eq_true rfl, Nat.le_of_ble_eq_true rfl⟩) hK hP hG hS (va_recv hK hP (ci := 4) (q0 := 5) rfl (oh_wg (by decide) (sX_5 hT))) rfl hl.1 rfl (Nat.le_of_ble_eq_true rfl) dX2_read_59 ⟨Nat.le_of_ble_eq_true rfl, Nat.le_of_ble_eq_true rfl⟩ (fun r_19 hq_20 => ?_)
    refine lv_if_eq (tgt := 99) hx hb dX2_read_62 (by decide) (fun (c_21 : r_19 = 0) => ?_) (fun (c_21 : ¬ (r_19 = 0)) => ?_)
    · have u_22 := hq_20.2.2 c_21
      refine lv_aload_n hx hb dX2_read_99 rfl (lv_at hl 1 rfl) ?_
      refine va_get (D := D) (ci := 2) (v := .ref (a 5)) (C := RX2) (T := TX2) (N := 4) hx hb htg ig_2 hown hK hP 6 (oh_wg (by decide) (sX_6 hT)) rfl 0 (by decide) (htg _ q_245) (fun _ h9 => h9) rfl dX2_read_100 ?_
      refine tq_V (As := []) (rest := []) (ws := (oh_W 35 a K55)) ⟨hx, hb, hml, hown, htg⟩ (e_X4_isSound l D E G a K55 hT) (cwV 0 htg (oh_gV q_619 q_592 q_593 q_71 q_594) rfl rfl rfl pdVX4_isSound ⟨Nat.le_of_ble_eq_true rfl, Nat.le_of_ble_eq_true rfl⟩) hK hP hG hS (va_recv hK hP (ci := 4) (q0 := 5) rfl (oh_wg (by decide) (sX_5 hT))) rfl hl.1 rfl (Nat.le_of_ble_eq_true rfl) dX2_read_103 ⟨Nat.le_of_ble_eq_true rfl, Nat.le_of_ble_eq_true rfl⟩ (fun r_23 hq_24 => ?_)
      refine lv_if_ne (tgt := 151) hx hb dX2_read_106 (by decide) (fun (c_25 : ¬ (r_23 = 0)) => ?_) (fun (c_25 : r_23 = 0) => ?_)
      · have u_26 := hq_24.2.1 c_25
        have s_27 := u_26
        refine lv_iload_n hx hb dX2_read_151 rfl (lv_at hl 0 rfl) ?_
        rw [hQ]
        exact W.iret (v := z55_1) hx hb hr (fun t ht hW => ⟨⟨z55_1, K55, rfl, ⟨hT, hF, (absurd u_26 u_22)⟩, ⟨by rw [ht]; exact hP, hD⟩⟩, hS.F ht⟩) hS.2.2 dX2_read_152
      · have u_28 := hq_24.2.2 c_25
        refine lv_aload_n hx hb dX2_read_109 rfl (lv_at hl 1 rfl) ?_
        refine va_get (D := D) (ci := 2) (v := .ref (a 33)) (C := RX2) (T := TX2) (N := 4) hx hb htg ig_2 hown hK hP 6 (oh_wg (by decide) (sX_6 hT)) rfl 2 (by decide) (htg _ q_247) (fun _ h9 => h9) rfl dX2_read_110 ?_
        refine lv_iconst (v := 0) hx hb dX2_read_113 (by decide) ?_
        refine lv_aload_n hx hb dX2_read_114 rfl (lv_at hl 1 rfl) ?_
        refine va_get (D := D) (ci := 2) (v := .ref (a 1)) (C := RX2) (T := TX2) (N := 4) hx hb htg ig_2 hown hK hP 6 (oh_wg (by decide) (sX_6 hT)) rfl 1 (by decide) (htg _ q_246) (fun _ h9 => h9) rfl dX2_read_115 ?_
        refine va_get (D := D) (ci := 0) (v := .ref (a 10)) (C := RX0) (T := TX0) (N := 8) hx hb htg ig_0 hown hK hP 1 (oh_wg (by decide) (sX_1 hT)) rfl 0 (by decide) (htg _ q_98) (fun _ h9 => h9) rfl dX2_read_118 ?_
        refine lv_iconst (v := 0) hx hb dX2_read_121 (by decide) ?_
        refine lv_aload_n hx hb dX2_read_122 rfl (lv_at hl 1 rfl) ?_
        refine va_get (D := D) (ci := 2) (v := .ref (a 33)) (C := RX2) (T := TX2) (N := 4) hx hb htg ig_2 hown hK hP 6 (oh_wg (by decide) (sX_6 hT)) rfl 2 (by decide) (htg _ q_247) (fun _ h9 => h9) rfl dX2_read_123 ?_
        refine va_alen (v := 4) hx hb hK hP 33 0 (oh_wg (by decide) (sX_33 hT)) rfl (show Int32.ofNat 4 = 4 by decide) dX2_read_126 ?_
        refine th_copyi (T := TyX a E) (Rl := fr [(5, 6), (10, 16), (33, 35)] [] C) hx hb (by rw [hml]; exact hl.1.symm) hown (htg _ q_503) (htg _ q_347) (htg _ q_346) (htg _ q_74) hK hP hD hS 33 10 (by decide) (by decide) (sX_33 hT) (sX_10 hT) (by decide) (by decide) (by decide) (by decide) (by decide) (hT.up 10 (tA_cpy (tX_33 hT) (tX_10 hT))) (fr_st hF (by decide) (by decide)) (Nat.le_of_ble_eq_true rfl) (Nat.le_of_ble_eq_true rfl) dX2_read_127 (fun C_29 H locs e_30 hT hF hP hD hS => ?_)
        have t_31 := hT
        refine lv_aload_n hx hb dX2_read_130 rfl (lv_at hl 1 rfl) ?_
        refine va_get (D := D) (ci := 2) (v := .ref (a 34)) (C := RX2) (T := TX2) (N := 4) hx hb htg ig_2 hown hK hP 6 (oh_wg (by decide) (sX_6 hT)) rfl 3 (by decide) (htg _ q_248) (fun _ h9 => h9) rfl dX2_read_131 ?_
        refine lv_iconst (v := 0) hx hb dX2_read_134 (by decide) ?_
        refine lv_aload_n hx hb dX2_read_135 rfl (lv_at hl 1 rfl) ?_
        refine va_get (D := D) (ci := 2) (v := .ref (a 1)) (C := RX2) (T := TX2) (N := 4) hx hb htg ig_2 hown hK hP 6 (oh_wg (by decide) (sX_6 hT)) rfl 1 (by decide) (htg _ q_246) (fun _ h9 => h9) rfl dX2_read_136 ?_
        refine va_get (D := D) (ci := 0) (v := .ref (a 15)) (C := RX0) (T := TX0) (N := 8) hx hb htg ig_0 hown hK hP 1 (oh_wg (by decide) (sX_1 hT)) rfl 5 (by decide) (htg _ q_107) (fun _ h9 => h9) rfl dX2_read_139 ?_
        refine lv_iconst (v := 0) hx hb dX2_read_142 (by decide) ?_
        refine lv_aload_n hx hb dX2_read_143 rfl (lv_at hl 1 rfl) ?_
        refine va_get (D := D) (ci := 2) (v := .ref (a 34)) (C := RX2) (T := TX2) (N := 4) hx hb htg ig_2 hown hK hP 6 (oh_wg (by decide) (sX_6 hT)) rfl 3 (by decide) (htg _ q_248) (fun _ h9 => h9) rfl dX2_read_144 ?_
        refine va_alen (v := 3) hx hb hK hP 34 0 (oh_wg (by decide) (sX_34 hT)) rfl (show Int32.ofNat 3 = 3 by decide) dX2_read_147 ?_
        refine th_copyi (T := TyX a E) (Rl := fr [(5, 6), (10, 16), (33, 35)] [] C) hx hb (by rw [hml]; exact hl.1.symm) hown (htg _ q_503) (htg _ q_347) (htg _ q_346) (htg _ q_74) hK hP hD hS 34 15 (by decide) (by decide) (sX_34 hT) (sX_15 hT) (by decide) (by decide) (by decide) (by decide) (by decide) (hT.up 15 (tA_cpy (tX_34 hT) (tX_15 hT))) (fr_st hF (by decide) (by decide)) (Nat.le_of_ble_eq_true rfl) (Nat.le_of_ble_eq_true rfl) dX2_read_148 (fun C_32 H locs e_33 hT hF hP hD hS => ?_)
        have t_34 := hT
        refine lv_iload_n hx hb dX2_read_151 rfl (lv_at hl 0 rfl) ?_
        rw [hQ]
        exact W.iret (v := z55_1) hx hb hr (fun t ht hW => ⟨⟨z55_1, C_32, rfl, ⟨hT, hF, (fun A0 hA => XL_er (hx_55 A0 hA) hA u_28 (Eq.trans (congrArg (fun z => gi z 2) (th_un e_33 (by decide))) (congrArg (fun z => gi z 2) (th_un e_30 (by decide)))) (fun j hj => by rw [(th_un e_33 (by decide)), ga_cpy e_30 (N := 4) (by decide) hj, (Eq.trans (hLF_55.1 33 rfl (by decide)) (Eq.trans (f_16.1 33 rfl (by decide)) (Eq.trans (f_10.1 33 rfl (by decide)) (th_un e_5 (by decide))))), ga_cpy e_2 (N := 4) (by decide) hj]) (fun j hj => by rw [ga_cpy e_33 (N := 3) (by decide) hj, th_un e_30 (by decide), (Eq.trans (hLF_55.1 34 rfl (by decide)) (Eq.trans (f_16.1 34 rfl (by decide)) (f_10.1 34 rfl (by decide)))), ga_cpy e_5 (N := 3) (by decide) hj, th_un e_2 (by decide)]) (fun k k1 k2 => Eq.trans (th_un e_33 (by omega)) (th_un e_30 (by omega))))⟩, ⟨by rw [ht]; exact hP, hD⟩⟩, hS.F ht⟩) hS.2.2 dX2_read_152
    · have u_35 := hq_20.2.1 c_21
      have s_36 := u_35
      refine lv_aload_n hx hb dX2_read_65 rfl (lv_at hl 1 rfl) ?_
      refine va_get (D := D) (ci := 2) (v := .ref (a 5)) (C := RX2) (T := TX2) (N := 4) hx hb htg ig_2 hown hK hP 6 (oh_wg (by decide) (sX_6 hT)) rfl 0 (by decide) (htg _ q_245) (fun _ h9 => h9) rfl dX2_read_66 ?_
      refine tq_V (As := []) (rest := []) (ws := (oh_W 35 a K55)) ⟨hx, hb, hml, hown, htg⟩ (e_X4_isEnd l D E G a K55 hT) (cwV 0 htg (oh_gV q_654 q_655 q_656 q_71 q_657) rfl rfl rfl pdVX4_isEnd ⟨Nat.le_of_ble_eq_true rfl, Nat.le_of_ble_eq_true rfl⟩) hK hP hG hS (va_recv hK hP (ci := 4) (q0 := 5) rfl (oh_wg (by decide) (sX_5 hT))) rfl hl.1 rfl (Nat.le_of_ble_eq_true rfl) dX2_read_69 ⟨Nat.le_of_ble_eq_true rfl, Nat.le_of_ble_eq_true rfl⟩ (fun r_37 hq_38 => ?_)
      refine lv_if_ne (tgt := 99) hx hb dX2_read_72 (by decide) (fun (c_39 : ¬ (r_37 = 0)) => ?_) (fun (c_39 : r_37 = 0) => ?_)
      · have u_40 := hq_38.2.1 c_39
        refine lv_aload_n hx hb dX2_read_99 rfl (lv_at hl 1 rfl) ?_
        refine va_get (D := D) (ci := 2) (v := .ref (a 5)) (C := RX2) (T := TX2) (N := 4) hx hb htg ig_2 hown hK hP 6 (oh_wg (by decide) (sX_6 hT)) rfl 0 (by decide) (htg _ q_245) (fun _ h9 => h9) rfl dX2_read_100 ?_
        refine tq_V (As := []) (rest := []) (ws := (oh_W 35 a K55)) ⟨hx, hb, hml, hown, htg⟩ (e_X4_isSound l D E G a K55 hT) (cwV 0 htg (oh_gV q_619 q_592 q_593 q_71 q_594) rfl rfl rfl pdVX4_isSound ⟨Nat.le_of_ble_eq_true rfl, Nat.le_of_ble_eq_true rfl⟩) hK hP hG hS (va_recv hK hP (ci := 4) (q0 := 5) rfl (oh_wg (by decide) (sX_5 hT))) rfl hl.1 rfl (Nat.le_of_ble_eq_true rfl) dX2_read_103 ⟨Nat.le_of_ble_eq_true rfl, Nat.le_of_ble_eq_true rfl⟩ (fun r_41 hq_42 => ?_)
        refine lv_if_ne (tgt := 151) hx hb dX2_read_106 (by decide) (fun (c_43 : ¬ (r_41 = 0)) => ?_) (fun (c_43 : r_41 = 0) => ?_)
        · have u_44 := hq_42.2.1 c_43
          have s_45 := u_44
          refine lv_iload_n hx hb dX2_read_151 rfl (lv_at hl 0 rfl) ?_
          rw [hQ]
          exact W.iret (v := z55_1) hx hb hr (fun t ht hW => ⟨⟨z55_1, K55, rfl, ⟨hT, hF, (fun A0 hA => XL_ok (hx_55 A0 hA) u_44 (Or.inl u_40))⟩, ⟨by rw [ht]; exact hP, hD⟩⟩, hS.F ht⟩) hS.2.2 dX2_read_152
        · have u_46 := hq_42.2.2 c_43
          refine lv_aload_n hx hb dX2_read_109 rfl (lv_at hl 1 rfl) ?_
          refine va_get (D := D) (ci := 2) (v := .ref (a 33)) (C := RX2) (T := TX2) (N := 4) hx hb htg ig_2 hown hK hP 6 (oh_wg (by decide) (sX_6 hT)) rfl 2 (by decide) (htg _ q_247) (fun _ h9 => h9) rfl dX2_read_110 ?_
          refine lv_iconst (v := 0) hx hb dX2_read_113 (by decide) ?_
          refine lv_aload_n hx hb dX2_read_114 rfl (lv_at hl 1 rfl) ?_
          refine va_get (D := D) (ci := 2) (v := .ref (a 1)) (C := RX2) (T := TX2) (N := 4) hx hb htg ig_2 hown hK hP 6 (oh_wg (by decide) (sX_6 hT)) rfl 1 (by decide) (htg _ q_246) (fun _ h9 => h9) rfl dX2_read_115 ?_
          refine va_get (D := D) (ci := 0) (v := .ref (a 10)) (C := RX0) (T := TX0) (N := 8) hx hb htg ig_0 hown hK hP 1 (oh_wg (by decide) (sX_1 hT)) rfl 0 (by decide) (htg _ q_98) (fun _ h9 => h9) rfl dX2_read_118 ?_
          refine lv_iconst (v := 0) hx hb dX2_read_121 (by decide) ?_
          refine lv_aload_n hx hb dX2_read_122 rfl (lv_at hl 1 rfl) ?_
          refine va_get (D := D) (ci := 2) (v := .ref (a 33)) (C := RX2) (T := TX2) (N := 4) hx hb htg ig_2 hown hK hP 6 (oh_wg (by decide) (sX_6 hT)) rfl 2 (by decide) (htg _ q_247) (fun _ h9 => h9) rfl dX2_read_123 ?_
          refine va_alen (v := 4) hx hb hK hP 33 0 (oh_wg (by decide) (sX_33 hT)) rfl (show Int32.ofNat 4 = 4 by decide) dX2_read_126 ?_
          refine th_copyi (T := TyX a E) (Rl := fr [(5, 6), (10, 16), (33, 35)] [] C) hx hb (by rw [hml]; exact hl.1.symm) hown (htg _ q_503) (htg _ q_347) (htg _ q_346) (htg _ q_74) hK hP hD hS 33 10 (by decide) (by decide) (sX_33 hT) (sX_10 hT) (by decide) (by decide) (by decide) (by decide) (by decide) (hT.up 10 (tA_cpy (tX_33 hT) (tX_10 hT))) (fr_st hF (by decide) (by decide)) (Nat.le_of_ble_eq_true rfl) (Nat.le_of_ble_eq_true rfl) dX2_read_127 (fun C_47 H locs e_48 hT hF hP hD hS => ?_)
          have t_49 := hT
          refine lv_aload_n hx hb dX2_read_130 rfl (lv_at hl 1 rfl) ?_
          refine va_get (D := D) (ci := 2) (v := .ref (a 34)) (C := RX2) (T := TX2) (N := 4) hx hb htg ig_2 hown hK hP 6 (oh_wg (by decide) (sX_6 hT)) rfl 3 (by decide) (htg _ q_248) (fun _ h9 => h9) rfl dX2_read_131 ?_
          refine lv_iconst (v := 0) hx hb dX2_read_134 (by decide) ?_
          refine lv_aload_n hx hb dX2_read_135 rfl (lv_at hl 1 rfl) ?_
          refine va_get (D := D) (ci := 2) (v := .ref (a 1)) (C := RX2) (T := TX2) (N := 4) hx hb htg ig_2 hown hK hP 6 (oh_wg (by decide) (sX_6 hT)) rfl 1 (by decide) (htg _ q_246) (fun _ h9 => h9) rfl dX2_read_136 ?_
          refine va_get (D := D) (ci := 0) (v := .ref (a 15)) (C := RX0) (T := TX0) (N := 8) hx hb htg ig_0 hown hK hP 1 (oh_wg (by decide) (sX_1 hT)) rfl 5 (by decide) (htg _ q_107) (fun _ h9 => h9) rfl dX2_read_139 ?_
          refine lv_iconst (v := 0) hx hb dX2_read_142 (by decide) ?_
          refine lv_aload_n hx hb dX2_read_143 rfl (lv_at hl 1 rfl) ?_
          refine va_get (D := D) (ci := 2) (v := .ref (a 34)) (C := RX2) (T := TX2) (N := 4) hx hb htg ig_2 hown hK hP 6 (oh_wg (by decide) (sX_6 hT)) rfl 3 (by decide) (htg _ q_248) (fun _ h9 => h9) rfl dX2_read_144 ?_
          refine va_alen (v := 3) hx hb hK hP 34 0 (oh_wg (by decide) (sX_34 hT)) rfl (show Int32.ofNat 3 = 3 by decide) dX2_read_147 ?_
          refine th_copyi (T := TyX a E) (Rl := fr [(5, 6), (10, 16), (33, 35)] [] C) hx hb (by rw [hml]; exact hl.1.symm) hown (htg _ q_503) (htg _ q_347) (htg _ q_346) (htg _ q_74) hK hP hD hS 34 15 (by decide) (by decide) (sX_34 hT) (sX_15 hT) (by decide) (by decide) (by decide) (by decide) (by decide) (hT.up 15 (tA_cpy (tX_34 hT) (tX_15 hT))) (fr_st hF (by decide) (by decide)) (Nat.le_of_ble_eq_true rfl) (Nat.le_of_ble_eq_true rfl) dX2_read_148 (fun C_50 H locs e_51 hT hF hP hD hS => ?_)
          have t_52 := hT
          refine lv_iload_n hx hb dX2_read_151 rfl (lv_at hl 0 rfl) ?_
          rw [hQ]
          exact W.iret (v := z55_1) hx hb hr (fun t ht hW => ⟨⟨z55_1, C_50, rfl, ⟨hT, hF, (absurd u_35 u_46)⟩, ⟨by rw [ht]; exact hP, hD⟩⟩, hS.F ht⟩) hS.2.2 dX2_read_152
      · have u_53 := hq_38.2.2 c_39
        refine lv_iload_n hx hb dX2_read_75 rfl (lv_at hl 0 rfl) ?_
        refine lv_sipush (v := 250) hx hb dX2_read_76 (by decide) ?_
        refine lv_icmp_ge (tgt := 99) hx hb dX2_read_79 (by decide) (fun (c_54 : (250 : Int32) ≤ z55_1) => ?_) (fun (c_54 : ¬ ((250 : Int32) ≤ z55_1)) => ?_)
        · refine lv_aload_n hx hb dX2_read_99 rfl (lv_at hl 1 rfl) ?_
          refine va_get (D := D) (ci := 2) (v := .ref (a 5)) (C := RX2) (T := TX2) (N := 4) hx hb htg ig_2 hown hK hP 6 (oh_wg (by decide) (sX_6 hT)) rfl 0 (by decide) (htg _ q_245) (fun _ h9 => h9) rfl dX2_read_100 ?_
          refine tq_V (As := []) (rest := []) (ws := (oh_W 35 a K55)) ⟨hx, hb, hml, hown, htg⟩ (e_X4_isSound l D E G a K55 hT) (cwV 0 htg (oh_gV q_619 q_592 q_593 q_71 q_594) rfl rfl rfl pdVX4_isSound ⟨Nat.le_of_ble_eq_true rfl, Nat.le_of_ble_eq_true rfl⟩) hK hP hG hS (va_recv hK hP (ci := 4) (q0 := 5) rfl (oh_wg (by decide) (sX_5 hT))) rfl hl.1 rfl (Nat.le_of_ble_eq_true rfl) dX2_read_103 ⟨Nat.le_of_ble_eq_true rfl, Nat.le_of_ble_eq_true rfl⟩ (fun r_55 hq_56 => ?_)
          refine lv_if_ne (tgt := 151) hx hb dX2_read_106 (by decide) (fun (c_57 : ¬ (r_55 = 0)) => ?_) (fun (c_57 : r_55 = 0) => ?_)
          · have u_58 := hq_56.2.1 c_57
            have s_59 := u_58
            refine lv_iload_n hx hb dX2_read_151 rfl (lv_at hl 0 rfl) ?_
            rw [hQ]
            exact W.iret (v := z55_1) hx hb hr (fun t ht hW => ⟨⟨z55_1, K55, rfl, ⟨hT, hF, (fun A0 hA => XL_ok (hx_55 A0 hA) u_58 (Or.inr c_54))⟩, ⟨by rw [ht]; exact hP, hD⟩⟩, hS.F ht⟩) hS.2.2 dX2_read_152
          · have u_60 := hq_56.2.2 c_57
            refine lv_aload_n hx hb dX2_read_109 rfl (lv_at hl 1 rfl) ?_
            refine va_get (D := D) (ci := 2) (v := .ref (a 33)) (C := RX2) (T := TX2) (N := 4) hx hb htg ig_2 hown hK hP 6 (oh_wg (by decide) (sX_6 hT)) rfl 2 (by decide) (htg _ q_247) (fun _ h9 => h9) rfl dX2_read_110 ?_
            refine lv_iconst (v := 0) hx hb dX2_read_113 (by decide) ?_
            refine lv_aload_n hx hb dX2_read_114 rfl (lv_at hl 1 rfl) ?_
            refine va_get (D := D) (ci := 2) (v := .ref (a 1)) (C := RX2) (T := TX2) (N := 4) hx hb htg ig_2 hown hK hP 6 (oh_wg (by decide) (sX_6 hT)) rfl 1 (by decide) (htg _ q_246) (fun _ h9 => h9) rfl dX2_read_115 ?_
            refine va_get (D := D) (ci := 0) (v := .ref (a 10)) (C := RX0) (T := TX0) (N := 8) hx hb htg ig_0 hown hK hP 1 (oh_wg (by decide) (sX_1 hT)) rfl 0 (by decide) (htg _ q_98) (fun _ h9 => h9) rfl dX2_read_118 ?_
            refine lv_iconst (v := 0) hx hb dX2_read_121 (by decide) ?_
            refine lv_aload_n hx hb dX2_read_122 rfl (lv_at hl 1 rfl) ?_
            refine va_get (D := D) (ci := 2) (v := .ref (a 33)) (C := RX2) (T := TX2) (N := 4) hx hb htg ig_2 hown hK hP 6 (oh_wg (by decide) (sX_6 hT)) rfl 2 (by decide) (htg _ q_247) (fun _ h9 => h9) rfl dX2_read_123 ?_
            refine va_alen (v := 4) hx hb hK hP 33 0 (oh_wg (by decide) (sX_33 hT)) rfl (show Int32.ofNat 4 = 4 by decide) dX2_read_126 ?_
            refine th_copyi (T := TyX a E) (Rl := fr [(5, 6), (10, 16), (33, 35)] [] C) hx hb (by rw [hml]; exact hl.1.symm) hown (htg _ q_503) (htg _ q_347) (htg _ q_346) (htg _ q_74) hK hP hD hS 33 10 (by decide) (by decide) (sX_33 hT) (sX_10 hT) (by decide) (by decide) (by decide) (by decide) (by decide) (hT.up 10 (tA_cpy (tX_33 hT) (tX_10 hT))) (fr_st hF (by decide) (by decide)) (Nat.le_of_ble_eq_true rfl) (Nat.le_of_ble_eq_true rfl) dX2_read_127 (fun C_61 H locs e_62 hT hF hP hD hS => ?_)
            have t_63 := hT
            refine lv_aload_n hx hb dX2_read_130 rfl (lv_at hl 1 rfl) ?_
            refine va_get (D := D) (ci := 2) (v := .ref (a 34)) (C := RX2) (T := TX2) (N := 4) hx hb htg ig_2 hown hK hP 6 (oh_wg (by decide) (sX_6 hT)) rfl 3 (by decide) (htg _ q_248) (fun _ h9 => h9) rfl dX2_read_131 ?_
            refine lv_iconst (v := 0) hx hb dX2_read_134 (by decide) ?_
            refine lv_aload_n hx hb dX2_read_135 rfl (lv_at hl 1 rfl) ?_
            refine va_get (D := D) (ci := 2) (v := .ref (a 1)) (C := RX2) (T := TX2) (N := 4) hx hb htg ig_2 hown hK hP 6 (oh_wg (by decide) (sX_6 hT)) rfl 1 (by decide) (htg _ q_246) (fun _ h9 => h9) rfl dX2_read_136 ?_
            refine va_get (D := D) (ci := 0) (v := .ref (a 15)) (C := RX0) (T := TX0) (N := 8) hx hb htg ig_0 hown hK hP 1 (oh_wg (by decide) (sX_1 hT)) rfl 5 (by decide) (htg _ q_107) (fun _ h9 => h9) rfl dX2_read_139 ?_
            refine lv_iconst (v := 0) hx hb dX2_read_142 (by decide) ?_
            refine lv_aload_n hx hb dX2_read_143 rfl (lv_at hl 1 rfl) ?_
            refine va_get (D := D) (ci := 2) (v := .ref (a 34)) (C := RX2) (T := TX2) (N := 4) hx hb htg ig_2 hown hK hP 6 (oh_wg (by decide) (sX_6 hT)) rfl 3 (by decide) (htg _ q_248) (fun _ h9 => h9) rfl dX2_read_144 ?_
            refine va_alen (v := 3) hx hb hK hP 34 0 (oh_wg (by decide) (sX_34 hT)) rfl (show Int32.ofNat 3 = 3 by decide) dX2_read_147 ?_
            refine th_copyi (T := TyX a E) (Rl := fr [(5, 6), (10, 16), (33, 35)] [] C) hx hb (by rw [hml]; exact hl.1.symm) hown (htg _ q_503) (htg _ q_347) (htg _ q_346) (htg _ q_74) hK hP hD hS 34 15 (by decide) (by decide) (sX_34 hT) (sX_15 hT) (by decide) (by decide) (by decide) (by decide) (by decide) (hT.up 15 (tA_cpy (tX_34 hT) (tX_15 hT))) (fr_st hF (by decide) (by decide)) (Nat.le_of_ble_eq_true rfl) (Nat.le_of_ble_eq_true rfl) dX2_read_148 (fun C_64 H locs e_65 hT hF hP hD hS => ?_)
            have t_66 := hT
            refine lv_iload_n hx hb dX2_read_151 rfl (lv_at hl 0 rfl) ?_
            rw [hQ]
            exact W.iret (v := z55_1) hx hb hr (fun t ht hW => ⟨⟨z55_1, C_64, rfl, ⟨hT, hF, (absurd u_35 u_60)⟩, ⟨by rw [ht]; exact hP, hD⟩⟩, hS.F ht⟩) hS.2.2 dX2_read_152
        · refine lv_aload_n hx hb dX2_read_82 rfl (lv_at hl 1 rfl) ?_
          refine va_get (D := D) (ci := 2) (v := .ref (a 5)) (C := RX2) (T := TX2) (N := 4) hx hb htg ig_2 hown hK hP 6 (oh_wg (by decide) (sX_6 hT)) rfl 0 (by decide) (htg _ q_245) (fun _ h9 => h9) rfl dX2_read_83 ?_
          refine tm_Vv (As := []) (rest := []) ⟨hx, hb, hml, hown, htg⟩ (e_X4_takeSign l D E G _ a K55 hT) (cwV 0 htg (oh_gV q_658 q_659 q_660 q_71 q_661) rfl rfl rfl pdVX4_takeSign ⟨Nat.le_of_ble_eq_true rfl, Nat.le_of_ble_eq_true rfl⟩) hK hP hD hG hS hA (va_recv hK hP (ci := 4) (q0 := 5) rfl (oh_wg (by decide) (sX_5 hT))) rfl hl.1 rfl (Nat.le_of_ble_eq_true rfl) dX2_read_86 ⟨Nat.le_of_ble_eq_true rfl, Nat.le_of_ble_eq_true rfl⟩ (fun C_68 H locs hq_69 hP hD hS => ?_)
          obtain ⟨hT, f_70, hq_69⟩ := hq_69
          have hF := fr_tr hF f_70 (by decide) (by decide)
          refine W.widen (k := 0) (n := 0) (Nat.le_refl _) (Nat.le_refl _) ?_
          have t_71 := hT
          have ep_72 := hq_69.2
          rw [show ga (K55 32) = ga (C 32) from congrArg ga (Eq.trans (hLF_55.1 32 rfl (by decide)) (Eq.trans (f_16.1 32 rfl (by decide)) (Eq.trans (f_10.1 32 rfl (by decide)) (Eq.trans (th_un e_5 (by decide)) (th_un e_2 (by decide))))))] at ep_72
          refine lv_aload_n hx hb dX2_read_89 rfl (lv_at hl 1 rfl) ?_
          refine tm_Vv (As := []) (rest := []) ⟨hx, hb, hml, hown, htg⟩ (e_X2_readStatement l D E G _ a C_68 hT) (cwV 0 htg (oh_gV q_512 q_514 q_6 q_72 q_515) rfl rfl rfl pdVX2_readStatement ⟨Nat.le_of_ble_eq_true rfl, Nat.le_of_ble_eq_true rfl⟩) hK hP hD hG hS hA (va_recv hK hP (ci := 2) (q0 := 6) rfl (oh_wg (by decide) (sX_6 hT))) rfl hl.1 rfl (Nat.le_of_ble_eq_true rfl) dX2_read_90 ⟨Nat.le_of_ble_eq_true rfl, Nat.le_of_ble_eq_true rfl⟩ (fun C_74 H locs hq_75 hP hD hS => ?_)
          obtain ⟨hT, f_76, hq_75⟩ := hq_75
          have hF := fr_tr hF f_76 (by decide) (by decide)
          refine W.widen (k := 0) (n := 0) (Nat.le_refl _) (Nat.le_refl _) ?_
          have t_77 := hT
          refine lv_iinc (v := z55_1 + 1) (lv' := [(1, .int (z55_1 + 1)), (0, .ref (a 6))]) hx hb dX2_read_93 hl (k := 0) rfl (by rfl) (by decide) rfl (fun ls hl => ?_)
          refine lv_goto (tgt := 55) hx hb dX2_read_96 (by decide) ?_
          have hs_78 := hq_75.1
          rw [show ga (C_68 32) = ga (C 32) from congrArg ga (Eq.trans (f_70.1 32 rfl (by decide)) (Eq.trans (hLF_55.1 32 rfl (by decide)) (Eq.trans (f_16.1 32 rfl (by decide)) (Eq.trans (f_10.1 32 rfl (by decide)) (Eq.trans (th_un e_5 (by decide)) (th_un e_2 (by decide)))))))] at hs_78
          exact ih_55 _ (hd_55 ▸ mu_up 250 (rn_ltu (u' := 249) (Int32.not_le.mp c_54) hz55_1 (rg_c (v := 250) (lo := 250) (hi := 250) (by decide)) (by decide)) (by decide)) C_74 (z55_1 + 1) _ _ ls rfl (rg_w (rg_add (lo := 2) (hi := 250) (rn_ltu (u' := 249) (Int32.not_le.mp c_54) hz55_1 (rg_c (v := 250) (lo := 250) (hi := 250) (by decide)) (by decide)) (rg_c (v := 1) (lo := 1) (hi := 1) (by decide)) (by decide)) (by decide)) (fun A0 hA => XL_s (hx_55 A0 hA) (fun t ht => cntX t t_18 ht) u_35 u_53 (rg_w (lo := 0) (hi := 249) (rn_ltu (u' := 249) (Int32.not_le.mp c_54) hz55_1 (rg_c (v := 250) (lo := 250) (hi := 250) (by decide)) (by decide)) (by decide)) ep_72 (fun k k1 k2 => (fr_all f_70 10 15 (by decide) k k1 k2)) hs_78 hq_75.2) hT hF (fr_tr (fr_tr hLF_55 f_70 (by decide) (by decide)) f_76 (by decide) (by decide)) hP hD hS (lv_sub hl [0, 1] rfl)
  have hs_79 := hq_15.1
  rw [show ga (C_8 32) = ga (C 32) from congrArg ga (Eq.trans (f_10.1 32 rfl (by decide)) (Eq.trans (th_un e_5 (by decide)) (th_un e_2 (by decide))))] at hs_79
  have he_80 := ep_12
  rw [show C_4 5 = C 5 from (Eq.trans (th_un e_5 (by decide)) (th_un e_2 (by decide)))] at he_80
  exact L_55 _ C_14 1 _ _ ls rfl (rg_w (rg_c (v := 1) (lo := 1) (hi := 1) (by decide)) (by decide)) (fun A0 hA => XL_0 hA (fun t ht => cntX t hT0 ht) (fun k k1 k2 => (Eq.trans (fr_all f_10 10 15 (by decide) k k1 k2) (Eq.trans (th_un e_5 (by omega)) (th_un e_2 (by omega))))) he_80 (fX_5_1 hT0) hs_79) hT hF fr_rf hP hD hS (lv_sub hl [0, 1] rfl)

theorem land_ok {R : Except Int32 (LA × Int32)} {A0 : LA} {r : Int32} {K u : Nat → va_E} (h : RelT R A0 r K) (hs : gi (K 5) 2 = -1) (e : ∀ k, 10 ≤ k → k ≤ 15 → u k = K k) : ∃ B : LA, LandR R A0 B r ∧ absX 10 u B := by
  cases R with
  | error d => exact absurd (Eq.trans h.1.symm hs) h.2.1
  | ok y => exact ⟨y.1, ⟨h.2.2, rfl⟩, absX_eq h.2.1 (fun k k1 k2 => e k k1 (by omega))⟩
theorem land_er {R : Except Int32 (LA × Int32)} {A0 : LA} {r q f : Int32} {K u : Nat → va_E} (h : RelT R A0 r K) (hs : ¬ gi (K 5) 2 = -1) (hq : q = -20 - f) (hf : f = gi (K 5) 2) (e : ∀ k, 10 ≤ k → k ≤ 15 → u k = K k) : ∃ B : LA, LandR R A0 B q ∧ absX 10 u B := by
  cases R with
  | error d => exact ⟨A0, ⟨by rw [hq, hf, h.1], rfl⟩, absX_eq h.2.2 (fun k k1 k2 => e k k1 (by omega))⟩
  | ok y => exact absurd h.1 hs

set_option maxHeartbeats 4000000 in
set_option maxRecDepth 100000 in
theorem e_X6_land (l : Launch) (D : va_G) (E : Nat → ClassId) (G : Nat → Nat) (sz : Nat) (a : Nat → Nat) (C : Nat → va_E) (hT : TyX a E C) : Met l yX6_land (oh_w yX6_land cX6_land 2 (some .int)) ({ frames := 10, cells := 0, slots := 0, locals := 220 }) (oh_Pm D E G [.ref (a 0)] (oh_W 35 a C) sz) (va_Qi (fun r (u : Nat → va_E) => TyX a E u ∧ fr [(5, 6), (7, 8), (10, 16), (33, 35)] [] C u ∧ (gi (u 5) 1 = 0) ∧ (∀ A0 : LA, absX 10 C A0 → ∃ B : LA, LandR (rdTot (ga (C 32)) (gi (C 5) 1) A0) A0 B r ∧ absX 10 u B)) (oh_B D (va_A (oh_W 35 a C) sz) (fun u => oh_W 35 a u)) (va_A (oh_W 35 a C) sz)) 0 0 (va_A (oh_W 35 a C) sz) := by
  refine Met.ofW (cc := cX6_land) (maxL := 2) (ret := (some .int)) (by decide) rfl ?_
  intro p e s m args below meth c s₁ B hml hv
  obtain ⟨rfl, hsz, hP, hK, hD0, hG⟩ := hv
  have hx := B.exec
  have hb := B.bytes
  have hr := B.returns
  have hts := atoms_spec (ws := (oh_w yX6_land cX6_land 2 (some .int))) B.pre
  have htg : ∀ w ∈ oh_t, w.before _ s = true := fun w h => hts w (List.mem_cons_of_mem _ h)
  have hown : s.vm.findClass RX6 = some m.cls := findClass_of_methodNamed B.named
  have hlocks := B.notSynchronized
  have hT0 := hT
  subst hsz
  have hD := hD0.self (sz := s.heap.size)
  generalize hAe : va_A (oh_W 35 a C) s.heap.size = A at hD hG ⊢
  have hA : ∀ q : Nat, s.heap.size ≤ q → A q := fun q h => by rw [← hAe]; exact Or.inr h
  have hS : va_S A s.heap s.heap [] := va_S.rf
  have hF : fr [(5, 6), (7, 8), (10, 16), (33, 35)] [] C C := fr_rf
  have hl := lv_entry ([.ref (a 0)]) (n := 2) (Nat.le_of_ble_eq_true rfl)
  rw [lg_entry_eq]
  generalize (lg_sl ([.ref (a 0)]) ++ List.replicate (2 - (lg_sl ([.ref (a 0)])).length) Slot.unset).toArray = ls at hl ⊢
  have hl : lv_has ls 2 [(0, .ref (a 0))] := hl
  refine oh_genQ (fun Q hQ => ?_)
  refine lv_aload_n hx hb dX6_land_0 rfl (lv_at hl 0 rfl) ?_
  refine va_get (D := D) (ci := 6) (v := .ref (a 6)) (C := RX6) (T := TX6) (N := 9) hx hb htg ig_6 hown hK hP 0 (oh_wg (by decide) (sX_0 hT)) rfl 6 (by decide) (htg _ q_264) (fun _ h9 => h9) rfl dX6_land_1 ?_
  refine tm_V (As := []) (rest := []) ⟨hx, hb, hml, hown, htg⟩ (e_X2_read l D E G _ a C hT) (cwV 0 htg (oh_gV q_499 q_500 q_501 q_72 q_502) rfl rfl rfl pdVX2_read ⟨Nat.le_of_ble_eq_true rfl, Nat.le_of_ble_eq_true rfl⟩) hK hP hD hG hS hA (va_recv hK hP (ci := 2) (q0 := 6) rfl (oh_wg (by decide) (sX_6 hT))) rfl hl.1 rfl (Nat.le_of_ble_eq_true rfl) dX6_land_4 ⟨Nat.le_of_ble_eq_true rfl, Nat.le_of_ble_eq_true rfl⟩ (fun r_1 C_2 H locs hq_3 hP hD hS => ?_)
  obtain ⟨hT, f_4, hq_3⟩ := hq_3
  have hF := fr_tr hF f_4 (by decide) (by decide)
  refine W.widen (k := 0) (n := 0) (Nat.le_refl _) (Nat.le_refl _) ?_
  have t_5 := hT
  refine lv_istore_n (lv' := [(1, .int r_1), (0, .ref (a 0))]) hx hb dX6_land_7 rfl hl (by decide) rfl (fun ls hl => ?_)
  refine lv_aload_n hx hb dX6_land_8 rfl (lv_at hl 1 rfl) ?_
  refine va_get (D := D) (ci := 6) (v := .ref (a 5)) (C := RX6) (T := TX6) (N := 9) hx hb htg ig_6 hown hK hP 0 (oh_wg (by decide) (sX_0 hT)) rfl 5 (by decide) (htg _ q_263) (fun _ h9 => h9) rfl dX6_land_9 ?_
  refine lv_iconst (v := 0) hx hb dX6_land_12 (by decide) ?_
  refine th_put (Tp := TyX a E) (Rl := fr [(5, 6), (7, 8), (10, 16), (33, 35)] [] C) (ci := 4) (v := .int 0) (ty := .int) (CC := RX4) (T := TX4) (N := 6) hx hb htg ig_4 tyX4 tyX4_ok nmX4 hown hK hP hD hS 5 (by decide) (sX_5 hT) rfl 1 (by decide) (htg _ q_219) (fun _ h9 => h9) rfl (by decide +kernel) rfl rfl (Nat.le_of_ble_eq_true rfl) (hT.up 5 ⟨rfl, (rg_w (rg_c (v := 0) (lo := 0) (hi := 0) (by decide)) (by decide)), (fX_5_2 hT), (fX_5_4 hT), (fX_5_5 hT)⟩) (fr_st hF (by decide) (by decide)) dX6_land_13 (fun C_6 H locs e_7 hT hF hP hD hS => ?_)
  have t_8 := hT
  refine lv_aload_n hx hb dX6_land_16 rfl (lv_at hl 1 rfl) ?_
  refine va_get (D := D) (ci := 6) (v := .ref (a 5)) (C := RX6) (T := TX6) (N := 9) hx hb htg ig_6 hown hK hP 0 (oh_wg (by decide) (sX_0 hT)) rfl 5 (by decide) (htg _ q_263) (fun _ h9 => h9) rfl dX6_land_17 ?_
  refine va_get (D := D) (ci := 4) (v := .int (gi (C_2 5) 2)) (C := RX4) (T := TX4) (N := 6) hx hb htg ig_4 hown hK hP 5 (oh_wg (by decide) (sX_5 hT)) rfl 2 (by decide) (htg _ q_221) (fun _ h9 => h9) (oh_fv (c := C_6 5) (j := 2) rfl (show gi (C_6 5) 2 = gi (C_2 5) 2 by rw [e_7]; rfl)) dX6_land_20 ?_
  refine lv_iconst (v := (-1)) hx hb dX6_land_23 (by decide) ?_
  refine lv_icmp_eq (tgt := 45) hx hb dX6_land_24 (by decide) (fun (c_9 : (gi (C_2 5) 2) = (-1)) => ?_) (fun (c_9 : ¬ ((gi (C_2 5) 2) = (-1))) => ?_)
  · refine lv_iload_n hx hb dX6_land_45 rfl (lv_at hl 0 rfl) ?_
    rw [hQ]
    exact W.iret (v := r_1) hx hb hr (fun t ht hW => ⟨⟨r_1, C_6, rfl, ⟨hT, hF, ⟨(show gi (C_6 5) 1 = (0 : Int32) by rw [e_7]; rfl), (fun A0 hA => land_ok (hq_3 A0 hA) c_9 (fun k k1 k2 => (th_un e_7 (by omega))))⟩⟩, ⟨by rw [ht]; exact hP, hD⟩⟩, hS.F ht⟩) hS.2.2 dX6_land_46
  · refine lv_aload_n hx hb dX6_land_27 rfl (lv_at hl 1 rfl) ?_
    refine lv_bipush (v := (-2)) hx hb dX6_land_28 (by decide) ?_
    refine tm_V (As := [.int (-2)]) (rest := []) ⟨hx, hb, hml, hown, htg⟩ (c_X6_refuse l D E G _ a C_6 hT ((-2) : Int32)) (cwV 1 htg (oh_gV q_296 q_298 q_0 q_66 q_299) rfl rfl rfl pdVX6_refuse ⟨Nat.le_of_ble_eq_true rfl, Nat.le_of_ble_eq_true rfl⟩) hK hP hD hG hS hA (va_recv hK hP (ci := 6) (q0 := 0) rfl (oh_wg (by decide) (sX_0 hT))) rfl hl.1 rfl (Nat.le_of_ble_eq_true rfl) dX6_land_30 ⟨Nat.le_of_ble_eq_true rfl, Nat.le_of_ble_eq_true rfl⟩ (fun r_10 C_11 H locs hq_12 hP hD hS => ?_)
    obtain ⟨hT, f_13, hq_12⟩ := hq_12
    have hF := fr_tr hF f_13 (by decide) (by decide)
    refine W.widen (k := 0) (n := 0) (Nat.le_refl _) (Nat.le_refl _) ?_
    have t_14 := hT
    refine lv_pop hx hb dX6_land_33 rfl ?_
    refine lv_bipush (v := (-20)) hx hb dX6_land_34 (by decide) ?_
    refine lv_aload_n hx hb dX6_land_36 rfl (lv_at hl 1 rfl) ?_
    refine va_get (D := D) (ci := 6) (v := .ref (a 5)) (C := RX6) (T := TX6) (N := 9) hx hb htg ig_6 hown hK hP 0 (oh_wg (by decide) (sX_0 hT)) rfl 5 (by decide) (htg _ q_263) (fun _ h9 => h9) rfl dX6_land_37 ?_
    refine va_get (D := D) (ci := 4) (v := .int (gi (C_2 5) 2)) (C := RX4) (T := TX4) (N := 6) hx hb htg ig_4 hown hK hP 5 (oh_wg (by decide) (sX_5 hT)) rfl 2 (by decide) (htg _ q_221) (fun _ h9 => h9) (oh_fv (c := C_11 5) (j := 2) rfl (Eq.trans (congrArg (fun z => gi z 2) (f_13.1 5 rfl (by decide))) (show gi (C_6 5) 2 = gi (C_2 5) 2 by rw [e_7]; rfl))) dX6_land_40 ?_
    refine lv_isub hx hb dX6_land_43 ?_
    rw [hQ]
    exact W.iret (v := (-20) - (gi (C_2 5) 2)) hx hb hr (fun t ht hW => ⟨⟨(-20) - (gi (C_2 5) 2), C_11, rfl, ⟨hT, hF, ⟨(Eq.trans (congrArg (fun z => gi z 1) (f_13.1 5 rfl (by decide))) (show gi (C_6 5) 1 = (0 : Int32) by rw [e_7]; rfl)), (fun A0 hA => land_er (hq_3 A0 hA) c_9 rfl rfl (fun k k1 k2 => (Eq.trans (fr_all f_13 10 15 (by decide) k k1 k2) (th_un e_7 (by omega)))))⟩⟩, ⟨by rw [ht]; exact hP, hD⟩⟩, hS.F ht⟩) hS.2.2 dX6_land_44
