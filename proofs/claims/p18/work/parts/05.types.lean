/-! the types of the cells: X the class, M the reference -/
def tyX (a : Nat → Nat) (E : Nat → ClassId) (k : Nat) (c : va_E) : Prop := match k with
  | 0 => c = .inr (6, [.ref (a 1), .ref (a 2), .int (gi c 2), .ref (a 3), .ref (a 4), .ref (a 5), .ref (a 6), .ref (a 7), .ref (a 8)]) ∧ rg (gi c 2) 0 1
  | 1 => c = .inr (0, [.ref (a 10), .ref (a 11), .ref (a 12), .ref (a 13), .ref (a 14), .ref (a 15), .ref (a 16), .int (gi c 7)]) ∧ rg (gi c 7) 0 1
  | 2 => c = .inr (0, [.ref (a 17), .ref (a 18), .ref (a 19), .ref (a 20), .ref (a 21), .ref (a 22), .ref (a 23), .int (gi c 7)]) ∧ rg (gi c 7) 0 1
  | 3 => c = .inr (5, [.ref (a 1), .ref (a 9), .ref (a 24), .ref (a 25), .ref (a 26), .ref (a 27), .ref (a 28)])
  | 4 => c = .inr (3, [.ref (a 29), .ref (a 30), .ref (a 31)])
  | 5 => c = .inr (4, [.ref (a 32), .int (gi c 1), .int (gi c 2), .int (gi c 3), .int (gi c 4), .int (gi c 5)]) ∧ rg (gi c 1) 0 250 ∧ rg (gi c 2) (-1) 250 ∧ rg (gi c 4) 0 250 ∧ rg (gi c 5) 0 250
  | 6 => c = .inr (2, [.ref (a 5), .ref (a 1), .ref (a 33), .ref (a 34)])
  | 7 => tA (E 0) 5 5 [] c
  | 8 => tA (E 0) 3 3 [] c
  | 9 => c = .inr (1, [.int (gi c 0), .int (gi c 1), .int (gi c 2), .int (gi c 3), .int (gi c 4)])
  | 10 => tA (E 0) 4 4 [(0, 24), (0, 16), (0, 5), (0, 5)] c
  | 11 => tA (E 0) 168 7 [(0, 15), (0, 15)] c
  | 12 => tA (E 0) 160 10 [(0, 23), (0, 5)] c
  | 13 => tA (E 0) 15 3 [] c
  | 14 => tA (E 0) 10 2 [] c
  | 15 => tA (E 0) 3 3 [] c
  | 16 => tA (E 0) 7 7 [(0, 15), (0, 15), (-2147483648, 2147483647), (-2147483648, 2147483647), (-2147483648, 2147483647), (0, 4)] c
  | 17 => tA (E 0) 4 4 [(0, 24), (0, 16), (0, 5), (0, 5)] c
  | 18 => tA (E 0) 168 7 [(0, 15), (0, 15)] c
  | 19 => tA (E 0) 160 10 [(0, 23), (0, 5)] c
  | 20 => tA (E 0) 15 3 [] c
  | 21 => tA (E 0) 10 2 [] c
  | 22 => tA (E 0) 3 3 [] c
  | 23 => tA (E 0) 7 7 [(0, 15), (0, 15), (-2147483648, 2147483647), (-2147483648, 2147483647), (-2147483648, 2147483647), (0, 4)] c
  | 24 => tA (E 0) 24 1 [] c
  | 25 => tA (E 0) 24 1 [] c
  | 26 => tA (E 0) 24 1 [] c
  | 27 => tA (E 0) 16 1 [] c
  | 28 => tA (E 0) 4 4 [(-2147483648, 2147483647), (-2147483648, 2147483647), (-2147483648, 2147483647), (0, 15)] c
  | 29 => tA (E 0) 8 1 [] c
  | 30 => tA (E 0) 8 1 [(0, 40)] c
  | 31 => tB (E 1) 320 c
  | 32 => tA (E 0) 250 1 [] c
  | 33 => tA (E 0) 4 4 [(0, 24), (0, 16), (0, 5), (0, 5)] c
  | 34 => tA (E 0) 3 3 [] c
  | _ => True
def tyM (a : Nat → Nat) (E : Nat → ClassId) (k : Nat) (c : va_E) : Prop := match k with
  | 0 => c = .inr (7, [.ref (a 1), .ref (a 2), .ref (a 3), .ref (a 4), .ref (a 5), .ref (a 6), .ref (a 7), .int (gi c 7), .ref (a 8), .int (gi c 9), .ref (a 9), .int (gi c 11), .ref (a 10), .int (gi c 13), .ref (a 11), .int (gi c 15), .ref (a 12), .ref (a 13), .ref (a 14), .int (gi c 19), gv c 20, .int (gi c 21), .int (gi c 22), .int (gi c 23), .long (gl c 24), .int (gi c 25), .int (gi c 26), .ref (a 15), .int (gi c 28)]) ∧ rg (gi c 7) 0 250 ∧ rg (gi c 9) 0 24 ∧ rg (gi c 11) 0 16 ∧ rg (gi c 13) 0 5 ∧ rg (gi c 15) 0 5 ∧ rg (gi c 21) 0 250 ∧ rg (gi c 23) 0 250
  | 1 => tA (E 0) 8 1 [(0, 2)] c
  | 2 => tA (E 0) 8 1 [] c
  | 3 => tA (E 0) 8 1 [(0, 40)] c
  | 4 => c = .inl (E 3, 8, .inr (.inr (.inr (.inr (qf a 8 16)))))
  | 5 => tB (E 1) 40 c
  | 6 => tA (E 0) 8 1 [(-1, 15)] c
  | 7 => tA (E 0) 250 1 [] c
  | 8 => tA (E 0) 8 1 [] c
  | 9 => c = .inl (E 2, 24, .inr (.inr (.inr (.inr (qf a 24 24)))))
  | 10 => c = .inl (E 2, 16, .inr (.inr (.inr (.inr (qf a 16 48)))))
  | 11 => c = .inl (E 2, 5, .inr (.inr (.inr (.inr (qf a 5 64)))))
  | 12 => c = .inl (E 2, 5, .inr (.inr (.inr (.inr (qf a 5 69)))))
  | 13 => tA (E 0) 3 3 [] c
  | 14 => tA (E 0) 7 7 [(-2147483648, 2147483647), (0, 4), (-2147483648, 2147483647), (0, 15), (0, 15)] c
  | 15 => tB (E 1) 16 c
  | _ => True
def TyX (a : Nat → Nat) (E : Nat → ClassId) (C : Nat → va_E) : Prop := ∀ k, k < 35 → tyX a E k (C k)
def TyM (a : Nat → Nat) (E : Nat → ClassId) (C : Nat → va_E) : Prop := (∀ k, k < 16 → tyM a E k (C k)) ∧ (∀ i, i < 8 → tB (E 1) 40 (C (16 + i))) ∧ (∀ i, i < 24 → tA (E 0) 7 7 [(0, 15), (0, 15)] (C (24 + i))) ∧ (∀ i, i < 16 → tA (E 0) 10 10 [] (C (48 + i))) ∧ (∀ i, i < 5 → tA (E 0) 3 3 [(0, 12), (0, 9)] (C (64 + i))) ∧ (∀ i, i < 5 → tA (E 0) 2 2 [] (C (69 + i)))
theorem TyX.up {a : Nat → Nat} {E : Nat → ClassId} {C : Nat → va_E} (h : TyX a E C) (k : Nat) {x : va_E} (ht : tyX a E k x) : TyX a E (updc C k x) := by
  intro i hi
  by_cases e : i = k
  · subst e
    rw [updc_eq]
    exact ht
  · rw [updc_ne e]
    exact h i hi
theorem TyM.up {a : Nat → Nat} {E : Nat → ClassId} {C : Nat → va_E} (h : TyM a E C) (k : Nat) (hk : k < 16) {x : va_E} (ht : tyM a E k x) : TyM a E (updc C k x) := by
  refine ⟨fun i hi => ?_, fun i hi => by rw [updc_ne (by omega)]; exact h.2.1 i hi, fun i hi => by rw [updc_ne (by omega)]; exact h.2.2.1 i hi, fun i hi => by rw [updc_ne (by omega)]; exact h.2.2.2.1 i hi, fun i hi => by rw [updc_ne (by omega)]; exact h.2.2.2.2.1 i hi, fun i hi => by rw [updc_ne (by omega)]; exact h.2.2.2.2.2 i hi⟩
  · by_cases e : i = k
    · subst e
      rw [updc_eq]
      exact ht
    · rw [updc_ne e]
      exact h.1 i hi
theorem TyM.brows {a : Nat → Nat} {E : Nat → ClassId} {C : Nat → va_E} (h : TyM a E C) {i : Nat} (hi : i < 8) : tB (E 1) 40 (C (16 + i)) := h.2.1 i hi
theorem TyM.uprows {a : Nat → Nat} {E : Nat → ClassId} {C : Nat → va_E} (h : TyM a E C) {i : Nat} (hi : i < 8) {x : va_E} (ht : tB (E 1) 40 x) : TyM a E (updc C (16 + i) x) := by
  refine ⟨fun k hk => by rw [updc_ne (by omega)]; exact h.1 k hk, fun k hk => by
    by_cases e : k = i
    · subst e
      rw [updc_eq]
      exact ht
    · rw [updc_ne (by omega)]
      exact h.2.1 k hk, fun k hk => by rw [updc_ne (by omega)]; exact h.2.2.1 k hk, fun k hk => by rw [updc_ne (by omega)]; exact h.2.2.2.1 k hk, fun k hk => by rw [updc_ne (by omega)]; exact h.2.2.2.2.1 k hk, fun k hk => by rw [updc_ne (by omega)]; exact h.2.2.2.2.2 k hk⟩
theorem TyM.broad {a : Nat → Nat} {E : Nat → ClassId} {C : Nat → va_E} (h : TyM a E C) {i : Nat} (hi : i < 24) : tA (E 0) 7 7 [(0, 15), (0, 15)] (C (24 + i)) := h.2.2.1 i hi
theorem TyM.uproad {a : Nat → Nat} {E : Nat → ClassId} {C : Nat → va_E} (h : TyM a E C) {i : Nat} (hi : i < 24) {x : va_E} (ht : tA (E 0) 7 7 [(0, 15), (0, 15)] x) : TyM a E (updc C (24 + i) x) := by
  refine ⟨fun k hk => by rw [updc_ne (by omega)]; exact h.1 k hk, fun k hk => by rw [updc_ne (by omega)]; exact h.2.1 k hk, fun k hk => by
    by_cases e : k = i
    · subst e
      rw [updc_eq]
      exact ht
    · rw [updc_ne (by omega)]
      exact h.2.2.1 k hk, fun k hk => by rw [updc_ne (by omega)]; exact h.2.2.2.1 k hk, fun k hk => by rw [updc_ne (by omega)]; exact h.2.2.2.2.1 k hk, fun k hk => by rw [updc_ne (by omega)]; exact h.2.2.2.2.2 k hk⟩
theorem TyM.bbridge {a : Nat → Nat} {E : Nat → ClassId} {C : Nat → va_E} (h : TyM a E C) {i : Nat} (hi : i < 16) : tA (E 0) 10 10 [] (C (48 + i)) := h.2.2.2.1 i hi
theorem TyM.upbridge {a : Nat → Nat} {E : Nat → ClassId} {C : Nat → va_E} (h : TyM a E C) {i : Nat} (hi : i < 16) {x : va_E} (ht : tA (E 0) 10 10 [] x) : TyM a E (updc C (48 + i) x) := by
  refine ⟨fun k hk => by rw [updc_ne (by omega)]; exact h.1 k hk, fun k hk => by rw [updc_ne (by omega)]; exact h.2.1 k hk, fun k hk => by rw [updc_ne (by omega)]; exact h.2.2.1 k hk, fun k hk => by
    by_cases e : k = i
    · subst e
      rw [updc_eq]
      exact ht
    · rw [updc_ne (by omega)]
      exact h.2.2.2.1 k hk, fun k hk => by rw [updc_ne (by omega)]; exact h.2.2.2.2.1 k hk, fun k hk => by rw [updc_ne (by omega)]; exact h.2.2.2.2.2 k hk⟩
theorem TyM.bwaggon {a : Nat → Nat} {E : Nat → ClassId} {C : Nat → va_E} (h : TyM a E C) {i : Nat} (hi : i < 5) : tA (E 0) 3 3 [(0, 12), (0, 9)] (C (64 + i)) := h.2.2.2.2.1 i hi
theorem TyM.upwaggon {a : Nat → Nat} {E : Nat → ClassId} {C : Nat → va_E} (h : TyM a E C) {i : Nat} (hi : i < 5) {x : va_E} (ht : tA (E 0) 3 3 [(0, 12), (0, 9)] x) : TyM a E (updc C (64 + i) x) := by
  refine ⟨fun k hk => by rw [updc_ne (by omega)]; exact h.1 k hk, fun k hk => by rw [updc_ne (by omega)]; exact h.2.1 k hk, fun k hk => by rw [updc_ne (by omega)]; exact h.2.2.1 k hk, fun k hk => by rw [updc_ne (by omega)]; exact h.2.2.2.1 k hk, fun k hk => by
    by_cases e : k = i
    · subst e
      rw [updc_eq]
      exact ht
    · rw [updc_ne (by omega)]
      exact h.2.2.2.2.1 k hk, fun k hk => by rw [updc_ne (by omega)]; exact h.2.2.2.2.2 k hk⟩
theorem TyM.bpart {a : Nat → Nat} {E : Nat → ClassId} {C : Nat → va_E} (h : TyM a E C) {i : Nat} (hi : i < 5) : tA (E 0) 2 2 [] (C (69 + i)) := h.2.2.2.2.2 i hi
theorem TyM.uppart {a : Nat → Nat} {E : Nat → ClassId} {C : Nat → va_E} (h : TyM a E C) {i : Nat} (hi : i < 5) {x : va_E} (ht : tA (E 0) 2 2 [] x) : TyM a E (updc C (69 + i) x) := by
  refine ⟨fun k hk => by rw [updc_ne (by omega)]; exact h.1 k hk, fun k hk => by rw [updc_ne (by omega)]; exact h.2.1 k hk, fun k hk => by rw [updc_ne (by omega)]; exact h.2.2.1 k hk, fun k hk => by rw [updc_ne (by omega)]; exact h.2.2.2.1 k hk, fun k hk => by rw [updc_ne (by omega)]; exact h.2.2.2.2.1 k hk, fun k hk => by
    by_cases e : k = i
    · subst e
      rw [updc_eq]
      exact ht
    · rw [updc_ne (by omega)]
      exact h.2.2.2.2.2 k hk⟩
theorem sX_0 {a : Nat → Nat} {E : Nat → ClassId} {C : Nat → va_E} (h : TyX a E C) : C 0 = .inr (6, [.ref (a 1), .ref (a 2), .int (gi (C 0) 2), .ref (a 3), .ref (a 4), .ref (a 5), .ref (a 6), .ref (a 7), .ref (a 8)]) := (h 0 (by decide)).1
theorem fX_0_2 {a : Nat → Nat} {E : Nat → ClassId} {C : Nat → va_E} (h : TyX a E C) : rg (gi (C 0) 2) 0 1 := (h 0 (by decide)).2
theorem sX_1 {a : Nat → Nat} {E : Nat → ClassId} {C : Nat → va_E} (h : TyX a E C) : C 1 = .inr (0, [.ref (a 10), .ref (a 11), .ref (a 12), .ref (a 13), .ref (a 14), .ref (a 15), .ref (a 16), .int (gi (C 1) 7)]) := (h 1 (by decide)).1
theorem fX_1_7 {a : Nat → Nat} {E : Nat → ClassId} {C : Nat → va_E} (h : TyX a E C) : rg (gi (C 1) 7) 0 1 := (h 1 (by decide)).2
theorem sX_2 {a : Nat → Nat} {E : Nat → ClassId} {C : Nat → va_E} (h : TyX a E C) : C 2 = .inr (0, [.ref (a 17), .ref (a 18), .ref (a 19), .ref (a 20), .ref (a 21), .ref (a 22), .ref (a 23), .int (gi (C 2) 7)]) := (h 2 (by decide)).1
theorem fX_2_7 {a : Nat → Nat} {E : Nat → ClassId} {C : Nat → va_E} (h : TyX a E C) : rg (gi (C 2) 7) 0 1 := (h 2 (by decide)).2
theorem sX_3 {a : Nat → Nat} {E : Nat → ClassId} {C : Nat → va_E} (h : TyX a E C) : C 3 = .inr (5, [.ref (a 1), .ref (a 9), .ref (a 24), .ref (a 25), .ref (a 26), .ref (a 27), .ref (a 28)]) := (h 3 (by decide))
theorem sX_4 {a : Nat → Nat} {E : Nat → ClassId} {C : Nat → va_E} (h : TyX a E C) : C 4 = .inr (3, [.ref (a 29), .ref (a 30), .ref (a 31)]) := (h 4 (by decide))
theorem sX_5 {a : Nat → Nat} {E : Nat → ClassId} {C : Nat → va_E} (h : TyX a E C) : C 5 = .inr (4, [.ref (a 32), .int (gi (C 5) 1), .int (gi (C 5) 2), .int (gi (C 5) 3), .int (gi (C 5) 4), .int (gi (C 5) 5)]) := (h 5 (by decide)).1
theorem fX_5_1 {a : Nat → Nat} {E : Nat → ClassId} {C : Nat → va_E} (h : TyX a E C) : rg (gi (C 5) 1) 0 250 := (h 5 (by decide)).2.1
theorem fX_5_2 {a : Nat → Nat} {E : Nat → ClassId} {C : Nat → va_E} (h : TyX a E C) : rg (gi (C 5) 2) (-1) 250 := (h 5 (by decide)).2.2.1
theorem fX_5_4 {a : Nat → Nat} {E : Nat → ClassId} {C : Nat → va_E} (h : TyX a E C) : rg (gi (C 5) 4) 0 250 := (h 5 (by decide)).2.2.2.1
theorem fX_5_5 {a : Nat → Nat} {E : Nat → ClassId} {C : Nat → va_E} (h : TyX a E C) : rg (gi (C 5) 5) 0 250 := (h 5 (by decide)).2.2.2.2
theorem sX_6 {a : Nat → Nat} {E : Nat → ClassId} {C : Nat → va_E} (h : TyX a E C) : C 6 = .inr (2, [.ref (a 5), .ref (a 1), .ref (a 33), .ref (a 34)]) := (h 6 (by decide))
theorem tX_7 {a : Nat → Nat} {E : Nat → ClassId} {C : Nat → va_E} (h : TyX a E C) : tA (E 0) 5 5 [] (C 7) := h 7 (by decide)
theorem sX_7 {a : Nat → Nat} {E : Nat → ClassId} {C : Nat → va_E} (h : TyX a E C) : C 7 = .inl (E 0, 5, .inl (ga (C 7))) := (tX_7 h).1
theorem tX_8 {a : Nat → Nat} {E : Nat → ClassId} {C : Nat → va_E} (h : TyX a E C) : tA (E 0) 3 3 [] (C 8) := h 8 (by decide)
theorem sX_8 {a : Nat → Nat} {E : Nat → ClassId} {C : Nat → va_E} (h : TyX a E C) : C 8 = .inl (E 0, 3, .inl (ga (C 8))) := (tX_8 h).1
theorem sX_9 {a : Nat → Nat} {E : Nat → ClassId} {C : Nat → va_E} (h : TyX a E C) : C 9 = .inr (1, [.int (gi (C 9) 0), .int (gi (C 9) 1), .int (gi (C 9) 2), .int (gi (C 9) 3), .int (gi (C 9) 4)]) := (h 9 (by decide))
theorem tX_10 {a : Nat → Nat} {E : Nat → ClassId} {C : Nat → va_E} (h : TyX a E C) : tA (E 0) 4 4 [(0, 24), (0, 16), (0, 5), (0, 5)] (C 10) := h 10 (by decide)
theorem sX_10 {a : Nat → Nat} {E : Nat → ClassId} {C : Nat → va_E} (h : TyX a E C) : C 10 = .inl (E 0, 4, .inl (ga (C 10))) := (tX_10 h).1
theorem tX_11 {a : Nat → Nat} {E : Nat → ClassId} {C : Nat → va_E} (h : TyX a E C) : tA (E 0) 168 7 [(0, 15), (0, 15)] (C 11) := h 11 (by decide)
theorem sX_11 {a : Nat → Nat} {E : Nat → ClassId} {C : Nat → va_E} (h : TyX a E C) : C 11 = .inl (E 0, 168, .inl (ga (C 11))) := (tX_11 h).1
theorem tX_12 {a : Nat → Nat} {E : Nat → ClassId} {C : Nat → va_E} (h : TyX a E C) : tA (E 0) 160 10 [(0, 23), (0, 5)] (C 12) := h 12 (by decide)
theorem sX_12 {a : Nat → Nat} {E : Nat → ClassId} {C : Nat → va_E} (h : TyX a E C) : C 12 = .inl (E 0, 160, .inl (ga (C 12))) := (tX_12 h).1
theorem tX_13 {a : Nat → Nat} {E : Nat → ClassId} {C : Nat → va_E} (h : TyX a E C) : tA (E 0) 15 3 [] (C 13) := h 13 (by decide)
theorem sX_13 {a : Nat → Nat} {E : Nat → ClassId} {C : Nat → va_E} (h : TyX a E C) : C 13 = .inl (E 0, 15, .inl (ga (C 13))) := (tX_13 h).1
theorem tX_14 {a : Nat → Nat} {E : Nat → ClassId} {C : Nat → va_E} (h : TyX a E C) : tA (E 0) 10 2 [] (C 14) := h 14 (by decide)
theorem sX_14 {a : Nat → Nat} {E : Nat → ClassId} {C : Nat → va_E} (h : TyX a E C) : C 14 = .inl (E 0, 10, .inl (ga (C 14))) := (tX_14 h).1
theorem tX_15 {a : Nat → Nat} {E : Nat → ClassId} {C : Nat → va_E} (h : TyX a E C) : tA (E 0) 3 3 [] (C 15) := h 15 (by decide)
theorem sX_15 {a : Nat → Nat} {E : Nat → ClassId} {C : Nat → va_E} (h : TyX a E C) : C 15 = .inl (E 0, 3, .inl (ga (C 15))) := (tX_15 h).1
theorem tX_16 {a : Nat → Nat} {E : Nat → ClassId} {C : Nat → va_E} (h : TyX a E C) : tA (E 0) 7 7 [(0, 15), (0, 15), (-2147483648, 2147483647), (-2147483648, 2147483647), (-2147483648, 2147483647), (0, 4)] (C 16) := h 16 (by decide)
theorem sX_16 {a : Nat → Nat} {E : Nat → ClassId} {C : Nat → va_E} (h : TyX a E C) : C 16 = .inl (E 0, 7, .inl (ga (C 16))) := (tX_16 h).1
theorem tX_17 {a : Nat → Nat} {E : Nat → ClassId} {C : Nat → va_E} (h : TyX a E C) : tA (E 0) 4 4 [(0, 24), (0, 16), (0, 5), (0, 5)] (C 17) := h 17 (by decide)
theorem sX_17 {a : Nat → Nat} {E : Nat → ClassId} {C : Nat → va_E} (h : TyX a E C) : C 17 = .inl (E 0, 4, .inl (ga (C 17))) := (tX_17 h).1
theorem tX_18 {a : Nat → Nat} {E : Nat → ClassId} {C : Nat → va_E} (h : TyX a E C) : tA (E 0) 168 7 [(0, 15), (0, 15)] (C 18) := h 18 (by decide)
theorem sX_18 {a : Nat → Nat} {E : Nat → ClassId} {C : Nat → va_E} (h : TyX a E C) : C 18 = .inl (E 0, 168, .inl (ga (C 18))) := (tX_18 h).1
theorem tX_19 {a : Nat → Nat} {E : Nat → ClassId} {C : Nat → va_E} (h : TyX a E C) : tA (E 0) 160 10 [(0, 23), (0, 5)] (C 19) := h 19 (by decide)
theorem sX_19 {a : Nat → Nat} {E : Nat → ClassId} {C : Nat → va_E} (h : TyX a E C) : C 19 = .inl (E 0, 160, .inl (ga (C 19))) := (tX_19 h).1
theorem tX_20 {a : Nat → Nat} {E : Nat → ClassId} {C : Nat → va_E} (h : TyX a E C) : tA (E 0) 15 3 [] (C 20) := h 20 (by decide)
theorem sX_20 {a : Nat → Nat} {E : Nat → ClassId} {C : Nat → va_E} (h : TyX a E C) : C 20 = .inl (E 0, 15, .inl (ga (C 20))) := (tX_20 h).1
theorem tX_21 {a : Nat → Nat} {E : Nat → ClassId} {C : Nat → va_E} (h : TyX a E C) : tA (E 0) 10 2 [] (C 21) := h 21 (by decide)
theorem sX_21 {a : Nat → Nat} {E : Nat → ClassId} {C : Nat → va_E} (h : TyX a E C) : C 21 = .inl (E 0, 10, .inl (ga (C 21))) := (tX_21 h).1
theorem tX_22 {a : Nat → Nat} {E : Nat → ClassId} {C : Nat → va_E} (h : TyX a E C) : tA (E 0) 3 3 [] (C 22) := h 22 (by decide)
theorem sX_22 {a : Nat → Nat} {E : Nat → ClassId} {C : Nat → va_E} (h : TyX a E C) : C 22 = .inl (E 0, 3, .inl (ga (C 22))) := (tX_22 h).1
theorem tX_23 {a : Nat → Nat} {E : Nat → ClassId} {C : Nat → va_E} (h : TyX a E C) : tA (E 0) 7 7 [(0, 15), (0, 15), (-2147483648, 2147483647), (-2147483648, 2147483647), (-2147483648, 2147483647), (0, 4)] (C 23) := h 23 (by decide)
theorem sX_23 {a : Nat → Nat} {E : Nat → ClassId} {C : Nat → va_E} (h : TyX a E C) : C 23 = .inl (E 0, 7, .inl (ga (C 23))) := (tX_23 h).1
theorem tX_24 {a : Nat → Nat} {E : Nat → ClassId} {C : Nat → va_E} (h : TyX a E C) : tA (E 0) 24 1 [] (C 24) := h 24 (by decide)
theorem sX_24 {a : Nat → Nat} {E : Nat → ClassId} {C : Nat → va_E} (h : TyX a E C) : C 24 = .inl (E 0, 24, .inl (ga (C 24))) := (tX_24 h).1
theorem tX_25 {a : Nat → Nat} {E : Nat → ClassId} {C : Nat → va_E} (h : TyX a E C) : tA (E 0) 24 1 [] (C 25) := h 25 (by decide)
theorem sX_25 {a : Nat → Nat} {E : Nat → ClassId} {C : Nat → va_E} (h : TyX a E C) : C 25 = .inl (E 0, 24, .inl (ga (C 25))) := (tX_25 h).1
theorem tX_26 {a : Nat → Nat} {E : Nat → ClassId} {C : Nat → va_E} (h : TyX a E C) : tA (E 0) 24 1 [] (C 26) := h 26 (by decide)
theorem sX_26 {a : Nat → Nat} {E : Nat → ClassId} {C : Nat → va_E} (h : TyX a E C) : C 26 = .inl (E 0, 24, .inl (ga (C 26))) := (tX_26 h).1
theorem tX_27 {a : Nat → Nat} {E : Nat → ClassId} {C : Nat → va_E} (h : TyX a E C) : tA (E 0) 16 1 [] (C 27) := h 27 (by decide)
theorem sX_27 {a : Nat → Nat} {E : Nat → ClassId} {C : Nat → va_E} (h : TyX a E C) : C 27 = .inl (E 0, 16, .inl (ga (C 27))) := (tX_27 h).1
theorem tX_28 {a : Nat → Nat} {E : Nat → ClassId} {C : Nat → va_E} (h : TyX a E C) : tA (E 0) 4 4 [(-2147483648, 2147483647), (-2147483648, 2147483647), (-2147483648, 2147483647), (0, 15)] (C 28) := h 28 (by decide)
theorem sX_28 {a : Nat → Nat} {E : Nat → ClassId} {C : Nat → va_E} (h : TyX a E C) : C 28 = .inl (E 0, 4, .inl (ga (C 28))) := (tX_28 h).1
theorem tX_29 {a : Nat → Nat} {E : Nat → ClassId} {C : Nat → va_E} (h : TyX a E C) : tA (E 0) 8 1 [] (C 29) := h 29 (by decide)
theorem sX_29 {a : Nat → Nat} {E : Nat → ClassId} {C : Nat → va_E} (h : TyX a E C) : C 29 = .inl (E 0, 8, .inl (ga (C 29))) := (tX_29 h).1
theorem tX_30 {a : Nat → Nat} {E : Nat → ClassId} {C : Nat → va_E} (h : TyX a E C) : tA (E 0) 8 1 [(0, 40)] (C 30) := h 30 (by decide)
theorem sX_30 {a : Nat → Nat} {E : Nat → ClassId} {C : Nat → va_E} (h : TyX a E C) : C 30 = .inl (E 0, 8, .inl (ga (C 30))) := (tX_30 h).1
theorem sX_31 {a : Nat → Nat} {E : Nat → ClassId} {C : Nat → va_E} (h : TyX a E C) : C 31 = .inl (E 1, 320, .inr (.inl (gb (C 31)))) := h 31 (by decide)
theorem tX_32 {a : Nat → Nat} {E : Nat → ClassId} {C : Nat → va_E} (h : TyX a E C) : tA (E 0) 250 1 [] (C 32) := h 32 (by decide)
theorem sX_32 {a : Nat → Nat} {E : Nat → ClassId} {C : Nat → va_E} (h : TyX a E C) : C 32 = .inl (E 0, 250, .inl (ga (C 32))) := (tX_32 h).1
theorem tX_33 {a : Nat → Nat} {E : Nat → ClassId} {C : Nat → va_E} (h : TyX a E C) : tA (E 0) 4 4 [(0, 24), (0, 16), (0, 5), (0, 5)] (C 33) := h 33 (by decide)
theorem sX_33 {a : Nat → Nat} {E : Nat → ClassId} {C : Nat → va_E} (h : TyX a E C) : C 33 = .inl (E 0, 4, .inl (ga (C 33))) := (tX_33 h).1
theorem tX_34 {a : Nat → Nat} {E : Nat → ClassId} {C : Nat → va_E} (h : TyX a E C) : tA (E 0) 3 3 [] (C 34) := h 34 (by decide)
theorem sX_34 {a : Nat → Nat} {E : Nat → ClassId} {C : Nat → va_E} (h : TyX a E C) : C 34 = .inl (E 0, 3, .inl (ga (C 34))) := (tX_34 h).1
theorem sM_0 {a : Nat → Nat} {E : Nat → ClassId} {C : Nat → va_E} (h : TyM a E C) : C 0 = .inr (7, [.ref (a 1), .ref (a 2), .ref (a 3), .ref (a 4), .ref (a 5), .ref (a 6), .ref (a 7), .int (gi (C 0) 7), .ref (a 8), .int (gi (C 0) 9), .ref (a 9), .int (gi (C 0) 11), .ref (a 10), .int (gi (C 0) 13), .ref (a 11), .int (gi (C 0) 15), .ref (a 12), .ref (a 13), .ref (a 14), .int (gi (C 0) 19), gv (C 0) 20, .int (gi (C 0) 21), .int (gi (C 0) 22), .int (gi (C 0) 23), .long (gl (C 0) 24), .int (gi (C 0) 25), .int (gi (C 0) 26), .ref (a 15), .int (gi (C 0) 28)]) := (h.1 0 (by decide)).1
theorem fM_0_7 {a : Nat → Nat} {E : Nat → ClassId} {C : Nat → va_E} (h : TyM a E C) : rg (gi (C 0) 7) 0 250 := (h.1 0 (by decide)).2.1
theorem fM_0_9 {a : Nat → Nat} {E : Nat → ClassId} {C : Nat → va_E} (h : TyM a E C) : rg (gi (C 0) 9) 0 24 := (h.1 0 (by decide)).2.2.1
theorem fM_0_11 {a : Nat → Nat} {E : Nat → ClassId} {C : Nat → va_E} (h : TyM a E C) : rg (gi (C 0) 11) 0 16 := (h.1 0 (by decide)).2.2.2.1
theorem fM_0_13 {a : Nat → Nat} {E : Nat → ClassId} {C : Nat → va_E} (h : TyM a E C) : rg (gi (C 0) 13) 0 5 := (h.1 0 (by decide)).2.2.2.2.1
theorem fM_0_15 {a : Nat → Nat} {E : Nat → ClassId} {C : Nat → va_E} (h : TyM a E C) : rg (gi (C 0) 15) 0 5 := (h.1 0 (by decide)).2.2.2.2.2.1
theorem fM_0_21 {a : Nat → Nat} {E : Nat → ClassId} {C : Nat → va_E} (h : TyM a E C) : rg (gi (C 0) 21) 0 250 := (h.1 0 (by decide)).2.2.2.2.2.2.1
theorem fM_0_23 {a : Nat → Nat} {E : Nat → ClassId} {C : Nat → va_E} (h : TyM a E C) : rg (gi (C 0) 23) 0 250 := (h.1 0 (by decide)).2.2.2.2.2.2.2
theorem tM_1 {a : Nat → Nat} {E : Nat → ClassId} {C : Nat → va_E} (h : TyM a E C) : tA (E 0) 8 1 [(0, 2)] (C 1) := h.1 1 (by decide)
theorem sM_1 {a : Nat → Nat} {E : Nat → ClassId} {C : Nat → va_E} (h : TyM a E C) : C 1 = .inl (E 0, 8, .inl (ga (C 1))) := (tM_1 h).1
theorem tM_2 {a : Nat → Nat} {E : Nat → ClassId} {C : Nat → va_E} (h : TyM a E C) : tA (E 0) 8 1 [] (C 2) := h.1 2 (by decide)
theorem sM_2 {a : Nat → Nat} {E : Nat → ClassId} {C : Nat → va_E} (h : TyM a E C) : C 2 = .inl (E 0, 8, .inl (ga (C 2))) := (tM_2 h).1
theorem tM_3 {a : Nat → Nat} {E : Nat → ClassId} {C : Nat → va_E} (h : TyM a E C) : tA (E 0) 8 1 [(0, 40)] (C 3) := h.1 3 (by decide)
theorem sM_3 {a : Nat → Nat} {E : Nat → ClassId} {C : Nat → va_E} (h : TyM a E C) : C 3 = .inl (E 0, 8, .inl (ga (C 3))) := (tM_3 h).1
theorem sM_4 {a : Nat → Nat} {E : Nat → ClassId} {C : Nat → va_E} (h : TyM a E C) : C 4 = .inl (E 3, 8, .inr (.inr (.inr (.inr (qf a 8 16))))) := h.1 4 (by decide)
theorem sM_5 {a : Nat → Nat} {E : Nat → ClassId} {C : Nat → va_E} (h : TyM a E C) : C 5 = .inl (E 1, 40, .inr (.inl (gb (C 5)))) := h.1 5 (by decide)
theorem tM_6 {a : Nat → Nat} {E : Nat → ClassId} {C : Nat → va_E} (h : TyM a E C) : tA (E 0) 8 1 [(-1, 15)] (C 6) := h.1 6 (by decide)
theorem sM_6 {a : Nat → Nat} {E : Nat → ClassId} {C : Nat → va_E} (h : TyM a E C) : C 6 = .inl (E 0, 8, .inl (ga (C 6))) := (tM_6 h).1
theorem tM_7 {a : Nat → Nat} {E : Nat → ClassId} {C : Nat → va_E} (h : TyM a E C) : tA (E 0) 250 1 [] (C 7) := h.1 7 (by decide)
theorem sM_7 {a : Nat → Nat} {E : Nat → ClassId} {C : Nat → va_E} (h : TyM a E C) : C 7 = .inl (E 0, 250, .inl (ga (C 7))) := (tM_7 h).1
theorem tM_8 {a : Nat → Nat} {E : Nat → ClassId} {C : Nat → va_E} (h : TyM a E C) : tA (E 0) 8 1 [] (C 8) := h.1 8 (by decide)
theorem sM_8 {a : Nat → Nat} {E : Nat → ClassId} {C : Nat → va_E} (h : TyM a E C) : C 8 = .inl (E 0, 8, .inl (ga (C 8))) := (tM_8 h).1
theorem sM_9 {a : Nat → Nat} {E : Nat → ClassId} {C : Nat → va_E} (h : TyM a E C) : C 9 = .inl (E 2, 24, .inr (.inr (.inr (.inr (qf a 24 24))))) := h.1 9 (by decide)
theorem sM_10 {a : Nat → Nat} {E : Nat → ClassId} {C : Nat → va_E} (h : TyM a E C) : C 10 = .inl (E 2, 16, .inr (.inr (.inr (.inr (qf a 16 48))))) := h.1 10 (by decide)
theorem sM_11 {a : Nat → Nat} {E : Nat → ClassId} {C : Nat → va_E} (h : TyM a E C) : C 11 = .inl (E 2, 5, .inr (.inr (.inr (.inr (qf a 5 64))))) := h.1 11 (by decide)
theorem sM_12 {a : Nat → Nat} {E : Nat → ClassId} {C : Nat → va_E} (h : TyM a E C) : C 12 = .inl (E 2, 5, .inr (.inr (.inr (.inr (qf a 5 69))))) := h.1 12 (by decide)
theorem tM_13 {a : Nat → Nat} {E : Nat → ClassId} {C : Nat → va_E} (h : TyM a E C) : tA (E 0) 3 3 [] (C 13) := h.1 13 (by decide)
theorem sM_13 {a : Nat → Nat} {E : Nat → ClassId} {C : Nat → va_E} (h : TyM a E C) : C 13 = .inl (E 0, 3, .inl (ga (C 13))) := (tM_13 h).1
theorem tM_14 {a : Nat → Nat} {E : Nat → ClassId} {C : Nat → va_E} (h : TyM a E C) : tA (E 0) 7 7 [(-2147483648, 2147483647), (0, 4), (-2147483648, 2147483647), (0, 15), (0, 15)] (C 14) := h.1 14 (by decide)
theorem sM_14 {a : Nat → Nat} {E : Nat → ClassId} {C : Nat → va_E} (h : TyM a E C) : C 14 = .inl (E 0, 7, .inl (ga (C 14))) := (tM_14 h).1
theorem sM_15 {a : Nat → Nat} {E : Nat → ClassId} {C : Nat → va_E} (h : TyM a E C) : C 15 = .inl (E 1, 16, .inr (.inl (gb (C 15)))) := h.1 15 (by decide)
theorem vp_lt {i : Int32} {N : Nat} (h : vp_in i N) : i.toNatClampNeg < N := Nat.not_le.mp fun q => h (Or.inr q)
theorem lt_blk {b N i n : Nat} (hi : i < N) (hn : 74 ≤ n) (hd : decide (b + N ≤ 74) = true) : b + i < n := by
  have := of_decide_eq_true hd
  omega
theorem tA_any {v : Int32} {c : Nat} : rg v (bdl [] c) (bdh [] c) := rg_any v
