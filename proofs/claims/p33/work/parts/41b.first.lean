def cx0 (E : Nat → ClassId) (a : Nat → Nat) : Nat → va_E := fun k => ([.inr (6, [.ref (a 1), .ref (a 2), .int 0, .ref (a 3), .ref (a 4), .ref (a 5), .ref (a 6), .ref (a 7), .ref (a 8)]), .inr (0, [.ref (a 10), .ref (a 11), .ref (a 12), .ref (a 13), .ref (a 14), .ref (a 15), .ref (a 16), .int 0]), .inr (0, [.ref (a 17), .ref (a 18), .ref (a 19), .ref (a 20), .ref (a 21), .ref (a 22), .ref (a 23), .int 0]), .inr (5, [.ref (a 1), .ref (a 9), .ref (a 24), .ref (a 25), .ref (a 26), .ref (a 27), .ref (a 28)]), .inr (3, [.ref (a 29), .ref (a 30), .ref (a 31)]), .inr (4, [.ref (a 32), .int 0, .int (-1), .int 0, .int 0, .int 0]), .inr (2, [.ref (a 5), .ref (a 1), .ref (a 33), .ref (a 34)]), .inl (E 0, 5, .inl (fun _ => 0)), .inl (E 0, 3, .inl (fun _ => 0)), .inr (1, [.int 0, .int 0, .int 0, .int 0, .int 0]), .inl (E 0, 4, .inl (fun _ => 0)), .inl (E 0, 168, .inl (fun _ => 0)), .inl (E 0, 160, .inl (fun _ => 0)), .inl (E 0, 15, .inl (fun _ => 0)), .inl (E 0, 10, .inl (fun _ => 0)), .inl (E 0, 3, .inl (upd (upd (fun _ => 0) 0 100) 1 2)), .inl (E 0, 7, .inl (fun _ => 0)), .inl (E 0, 4, .inl (fun _ => 0)), .inl (E 0, 168, .inl (fun _ => 0)), .inl (E 0, 160, .inl (fun _ => 0)), .inl (E 0, 15, .inl (fun _ => 0)), .inl (E 0, 10, .inl (fun _ => 0)), .inl (E 0, 3, .inl (upd (upd (fun _ => 0) 0 100) 1 2)), .inl (E 0, 7, .inl (fun _ => 0)), .inl (E 0, 24, .inl (fun _ => 0)), .inl (E 0, 24, .inl (fun _ => 0)), .inl (E 0, 24, .inl (fun _ => 0)), .inl (E 0, 16, .inl (fun _ => 0)), .inl (E 0, 4, .inl (fun _ => 0)), .inl (E 0, 8, .inl (fun _ => (-1))), .inl (E 0, 8, .inl (fun _ => 0)), .inl (E 1, 320, .inr (.inl (fun _ => 0))), .inl (E 0, 250, .inl (fun _ => 0)), .inl (E 0, 4, .inl (fun _ => 0)), .inl (E 0, 3, .inl (fun _ => 0))] : List va_E).getD k (.inr (0, []))
def cm0 (E : Nat → ClassId) (a : Nat → Nat) : Nat → va_E := fun k => if k < 16 then ([.inr (7, [.ref (a 1), .ref (a 2), .ref (a 3), .ref (a 4), .ref (a 5), .ref (a 6), .ref (a 7), .int 0, .ref (a 8), .int 0, .ref (a 9), .int 0, .ref (a 10), .int 0, .ref (a 11), .int 0, .ref (a 12), .ref (a 13), .ref (a 14), .int 0, .null, .int 0, .int 0, .int 0, .long 0, .int 0, .int 0, .ref (a 15), .int 0]), .inl (E 0, 8, .inl (fun _ => 0)), .inl (E 0, 8, .inl (fun _ => 0)), .inl (E 0, 8, .inl (fun _ => 0)), .inl (E 3, 8, .inr (.inr (.inr (.inr (qf a 8 16))))), .inl (E 1, 40, .inr (.inl (fun _ => 0))), .inl (E 0, 8, .inl (fun _ => 0)), .inl (E 0, 250, .inl (fun _ => 0)), .inl (E 0, 8, .inl (fun _ => 0)), .inl (E 2, 24, .inr (.inr (.inr (.inr (qf a 24 24))))), .inl (E 2, 16, .inr (.inr (.inr (.inr (qf a 16 48))))), .inl (E 2, 5, .inr (.inr (.inr (.inr (qf a 5 64))))), .inl (E 2, 5, .inr (.inr (.inr (.inr (qf a 5 69))))), .inl (E 0, 3, .inl (upd (upd (upd (fun _ => 0) 0 100) 1 2) 2 0)), .inl (E 0, 7, .inl (fun _ => 0)), .inl (E 1, 16, .inr (.inl (fun _ => 0)))] : List va_E).getD k (.inr (0, [])) else  if k < 24 then .inl (E 1, 40, .inr (.inl (fun _ => 0))) else if k < 48 then .inl (E 0, 7, .inl (fun _ => 0)) else if k < 64 then .inl (E 0, 10, .inl (fun _ => 0)) else if k < 69 then .inl (E 0, 3, .inl (fun _ => 0)) else .inl (E 0, 2, .inl (fun _ => 0))
def bm0 (x r1 r2 r3 r4 r5 : Nat → Nat) : Nat → Nat := fun k => if k < 16 then x k else  if k < 24 then r1 (k - 16) else if k < 48 then r2 (k - 24) else if k < 64 then r3 (k - 48) else if k < 69 then r4 (k - 64) else r5 (k - 69)
theorem tA_z {cA : ClassId} {n W : Nat} {L : List (Int × Int)} (h : L.all (fun p => decide (p.1 ≤ 0 ∧ 0 ≤ p.2)) = true) : tA cA n W L (.inl (cA, n, .inl (fun _ => 0))) := by
  refine ⟨rfl, fun j hj => ?_⟩
  show rg 0 (bdl L (j % W)) (bdh L (j % W))
  unfold bdl bdh
  have key : (L.getD (j % W) (-2147483648, 2147483647)).1 ≤ 0 ∧ 0 ≤ (L.getD (j % W) (-2147483648, 2147483647)).2 := by
    rw [List.getD_eq_getElem?_getD]
    cases e : L[j % W]? with
    | none => exact ⟨by decide, by decide⟩
    | some p => exact of_decide_eq_true (List.all_eq_true.mp h p (List.mem_of_getElem? e))
  exact ⟨by show _ ≤ (0 : Int); exact key.1, by show (0 : Int) ≤ _; exact key.2⟩
theorem tA_e {cA : ClassId} {n W : Nat} {f : Nat → Int32} : tA cA n W [] (.inl (cA, n, .inl f)) := ⟨rfl, fun j _ => rg_any _⟩

set_option maxHeartbeats 4000000 in
set_option maxRecDepth 100000 in
theorem TyX0 (E : Nat → ClassId) (a : Nat → Nat) : TyX a E (cx0 E a) := by
  intro k hk
  rcases (show k = 0 ∨ k = 1 ∨ k = 2 ∨ k = 3 ∨ k = 4 ∨ k = 5 ∨ k = 6 ∨ k = 7 ∨ k = 8 ∨ k = 9 ∨ k = 10 ∨ k = 11 ∨ k = 12 ∨ k = 13 ∨ k = 14 ∨ k = 15 ∨ k = 16 ∨ k = 17 ∨ k = 18 ∨ k = 19 ∨ k = 20 ∨ k = 21 ∨ k = 22 ∨ k = 23 ∨ k = 24 ∨ k = 25 ∨ k = 26 ∨ k = 27 ∨ k = 28 ∨ k = 29 ∨ k = 30 ∨ k = 31 ∨ k = 32 ∨ k = 33 ∨ k = 34 by omega) with rfl | rfl | rfl | rfl | rfl | rfl | rfl | rfl | rfl | rfl | rfl | rfl | rfl | rfl | rfl | rfl | rfl | rfl | rfl | rfl | rfl | rfl | rfl | rfl | rfl | rfl | rfl | rfl | rfl | rfl | rfl | rfl | rfl | rfl | rfl
  · exact ⟨rfl, (show rg 0 0 1 from rg_c (by decide))⟩
  · exact ⟨rfl, (show rg 0 0 1 from rg_c (by decide))⟩
  · exact ⟨rfl, (show rg 0 0 1 from rg_c (by decide))⟩
  · exact rfl
  · exact rfl
  · exact ⟨rfl, (show rg 0 0 250 from rg_c (by decide)), (show rg (-1) (-1) 250 from rg_c (by decide)), (show rg 0 0 250 from rg_c (by decide)), (show rg 0 0 250 from rg_c (by decide))⟩
  · exact rfl
  · exact tA_e
  · exact tA_e
  · exact rfl
  · exact tA_z (by decide)
  · exact tA_z (by decide)
  · exact tA_z (by decide)
  · exact tA_e
  · exact tA_e
  · exact tA_e
  · exact tA_z (by decide)
  · exact tA_z (by decide)
  · exact tA_z (by decide)
  · exact tA_z (by decide)
  · exact tA_e
  · exact tA_e
  · exact tA_e
  · exact tA_z (by decide)
  · exact tA_e
  · exact tA_e
  · exact tA_e
  · exact tA_e
  · exact tA_z (by decide)
  · exact tA_e
  · exact tA_z (by decide)
  · exact rfl
  · exact tA_e
  · exact tA_z (by decide)
  · exact tA_e

set_option maxHeartbeats 4000000 in
set_option maxRecDepth 100000 in
theorem TyM0 (E : Nat → ClassId) (a : Nat → Nat) : TyM a E (cm0 E a) := by
  refine ⟨?_, ?_, ?_, ?_, ?_, ?_⟩
  · intro k hk
    rcases (show k = 0 ∨ k = 1 ∨ k = 2 ∨ k = 3 ∨ k = 4 ∨ k = 5 ∨ k = 6 ∨ k = 7 ∨ k = 8 ∨ k = 9 ∨ k = 10 ∨ k = 11 ∨ k = 12 ∨ k = 13 ∨ k = 14 ∨ k = 15 by omega) with rfl | rfl | rfl | rfl | rfl | rfl | rfl | rfl | rfl | rfl | rfl | rfl | rfl | rfl | rfl | rfl
    · exact ⟨rfl, (show rg 0 0 250 from rg_c (by decide)), (show rg 0 0 24 from rg_c (by decide)), (show rg 0 0 16 from rg_c (by decide)), (show rg 0 0 5 from rg_c (by decide)), (show rg 0 0 5 from rg_c (by decide)), (show rg 0 0 250 from rg_c (by decide)), (show rg 0 0 250 from rg_c (by decide))⟩
    · exact tA_z (by decide)
    · exact tA_e
    · exact tA_z (by decide)
    · exact rfl
    · exact rfl
    · exact tA_z (by decide)
    · exact tA_e
    · exact tA_e
    · exact rfl
    · exact rfl
    · exact rfl
    · exact rfl
    · exact tA_e
    · exact tA_z (by decide)
    · exact rfl
  · intro i hi
    have e : cm0 E a (16 + i) = .inl (E 1, 40, .inr (.inl (fun _ => 0))) := by
      unfold cm0
      rw [if_neg (by omega), if_pos (by omega)]
    rw [e]
    exact rfl
  · intro i hi
    have e : cm0 E a (24 + i) = .inl (E 0, 7, .inl (fun _ => 0)) := by
      unfold cm0
      rw [if_neg (by omega), if_neg (by omega), if_pos (by omega)]
    rw [e]
    exact tA_z (by decide)
  · intro i hi
    have e : cm0 E a (48 + i) = .inl (E 0, 10, .inl (fun _ => 0)) := by
      unfold cm0
      rw [if_neg (by omega), if_neg (by omega), if_neg (by omega), if_pos (by omega)]
    rw [e]
    exact tA_e
  · intro i hi
    have e : cm0 E a (64 + i) = .inl (E 0, 3, .inl (fun _ => 0)) := by
      unfold cm0
      rw [if_neg (by omega), if_neg (by omega), if_neg (by omega), if_neg (by omega), if_pos (by omega)]
    rw [e]
    exact tA_z (by decide)
  · intro i hi
    have e : cm0 E a (69 + i) = .inl (E 0, 2, .inl (fun _ => 0)) := by
      unfold cm0
      rw [if_neg (by omega), if_neg (by omega), if_neg (by omega), if_neg (by omega), if_neg (by omega)]
    rw [e]
    exact tA_e

theorem RelM0 (E : Nat → ClassId) (a : Nat → Nat) : RelM (cm0 E a) := by
  refine ⟨⟨fun w hw hl => ?_, fun h9 => ?_⟩, fun s hs c => ?_⟩
  · have e : (gi (cm0 E a 0) 13).toInt = 0 := rfl
    rw [e] at hl
    omega
  · exact absurd (show ga (cm0 E a 14) 0 = 0 from rfl) h9
  · have e : ga (cm0 E a 1) s = 0 := rfl
    rw [e] at c
    exact absurd c (by decide)

abbrev lw_m (E : Nat → ClassId) (x r1 r2 r3 r4 r5 : Nat → Nat) (f1 f2 f3 f4 f5 : Nat → Option Nat) : va_W := [(x 0, .inr (7, [.ref (x 1), .ref (x 2), .ref (x 3), .ref (x 4), .ref (x 5), .ref (x 6), .ref (x 7), .int 0, .ref (x 8), .int 0, .ref (x 9), .int 0, .ref (x 10), .int 0, .ref (x 11), .int 0, .ref (x 12), .ref (x 13), .ref (x 14), .int 0, .null, .int 0, .int 0, .int 0, .long 0, .int 0, .int 0, .ref (x 15), .int 0])), (x 1, .inl (E 0, 8, .inl (fun _ => 0))), (x 2, .inl (E 0, 8, .inl (fun _ => 0))), (x 3, .inl (E 0, 8, .inl (fun _ => 0))), (x 4, .inl (E 3, 8, .inr (.inr (.inr (.inr f1))))), (x 5, .inl (E 1, 40, .inr (.inl (fun _ => 0)))), (x 6, .inl (E 0, 8, .inl (fun _ => 0))), (x 7, .inl (E 0, 250, .inl (fun _ => 0))), (x 8, .inl (E 0, 8, .inl (fun _ => 0))), (x 9, .inl (E 2, 24, .inr (.inr (.inr (.inr f2))))), (x 10, .inl (E 2, 16, .inr (.inr (.inr (.inr f3))))), (x 11, .inl (E 2, 5, .inr (.inr (.inr (.inr f4))))), (x 12, .inl (E 2, 5, .inr (.inr (.inr (.inr f5))))), (x 13, .inl (E 0, 3, .inl (upd (upd (upd (fun _ => 0) 0 100) 1 2) 2 0))), (x 14, .inl (E 0, 7, .inl (fun _ => 0))), (x 15, .inl (E 1, 16, .inr (.inl (fun _ => 0))))] ++ (((((([] : va_W) ++ oh_rs r1 8 (fun _ => .inl (E 1, 40, .inr (.inl (fun _ => 0))))) ++ oh_rs r2 24 (fun _ => .inl (E 0, 7, .inl (fun _ => 0)))) ++ oh_rs r3 16 (fun _ => .inl (E 0, 10, .inl (fun _ => 0)))) ++ oh_rs r4 5 (fun _ => .inl (E 0, 3, .inl (fun _ => 0)))) ++ oh_rs r5 5 (fun _ => .inl (E 0, 2, .inl (fun _ => 0))))

set_option maxHeartbeats 4000000 in
set_option maxRecDepth 100000 in
theorem lw_mW (E : Nat → ClassId) (x r1 r2 r3 r4 r5 : Nat → Nat) : lw_m E x r1 r2 r3 r4 r5 (qf (bm0 x r1 r2 r3 r4 r5) 8 16) (qf (bm0 x r1 r2 r3 r4 r5) 24 24) (qf (bm0 x r1 r2 r3 r4 r5) 16 48) (qf (bm0 x r1 r2 r3 r4 r5) 5 64) (qf (bm0 x r1 r2 r3 r4 r5) 5 69) = oh_W 74 (bm0 x r1 r2 r3 r4 r5) (cm0 E (bm0 x r1 r2 r3 r4 r5)) := rfl

theorem lw_q1 (x r1 r2 r3 r4 r5 : Nat → Nat) : (fun i => if i < 8 then some (r1 i) else none) = qf (bm0 x r1 r2 r3 r4 r5) 8 16 := by
  funext i
  by_cases h : i < 8
  · rw [if_pos h]
    show _ = (if i < 8 then some (bm0 x r1 r2 r3 r4 r5 (16 + i)) else none)
    rw [if_pos h]
    unfold bm0
    rw [if_neg (by omega), if_pos (by omega)]
    simp
  · rw [if_neg h]
    show _ = (if i < 8 then some (bm0 x r1 r2 r3 r4 r5 (16 + i)) else none)
    rw [if_neg h]

theorem lw_q2 (x r1 r2 r3 r4 r5 : Nat → Nat) : (fun i => if i < 24 then some (r2 i) else none) = qf (bm0 x r1 r2 r3 r4 r5) 24 24 := by
  funext i
  by_cases h : i < 24
  · rw [if_pos h]
    show _ = (if i < 24 then some (bm0 x r1 r2 r3 r4 r5 (24 + i)) else none)
    rw [if_pos h]
    unfold bm0
    rw [if_neg (by omega), if_neg (by omega), if_pos (by omega)]
    simp
  · rw [if_neg h]
    show _ = (if i < 24 then some (bm0 x r1 r2 r3 r4 r5 (24 + i)) else none)
    rw [if_neg h]

theorem lw_q3 (x r1 r2 r3 r4 r5 : Nat → Nat) : (fun i => if i < 16 then some (r3 i) else none) = qf (bm0 x r1 r2 r3 r4 r5) 16 48 := by
  funext i
  by_cases h : i < 16
  · rw [if_pos h]
    show _ = (if i < 16 then some (bm0 x r1 r2 r3 r4 r5 (48 + i)) else none)
    rw [if_pos h]
    unfold bm0
    rw [if_neg (by omega), if_neg (by omega), if_neg (by omega), if_pos (by omega)]
    simp
  · rw [if_neg h]
    show _ = (if i < 16 then some (bm0 x r1 r2 r3 r4 r5 (48 + i)) else none)
    rw [if_neg h]

theorem lw_q4 (x r1 r2 r3 r4 r5 : Nat → Nat) : (fun i => if i < 5 then some (r4 i) else none) = qf (bm0 x r1 r2 r3 r4 r5) 5 64 := by
  funext i
  by_cases h : i < 5
  · rw [if_pos h]
    show _ = (if i < 5 then some (bm0 x r1 r2 r3 r4 r5 (64 + i)) else none)
    rw [if_pos h]
    unfold bm0
    rw [if_neg (by omega), if_neg (by omega), if_neg (by omega), if_neg (by omega), if_pos (by omega)]
    simp
  · rw [if_neg h]
    show _ = (if i < 5 then some (bm0 x r1 r2 r3 r4 r5 (64 + i)) else none)
    rw [if_neg h]

theorem lw_q5 (x r1 r2 r3 r4 r5 : Nat → Nat) : (fun i => if i < 5 then some (r5 i) else none) = qf (bm0 x r1 r2 r3 r4 r5) 5 69 := by
  funext i
  by_cases h : i < 5
  · rw [if_pos h]
    show _ = (if i < 5 then some (bm0 x r1 r2 r3 r4 r5 (69 + i)) else none)
    rw [if_pos h]
    unfold bm0
    rw [if_neg (by omega), if_neg (by omega), if_neg (by omega), if_neg (by omega), if_neg (by omega)]
    simp
  · rw [if_neg h]
    show _ = (if i < 5 then some (bm0 x r1 r2 r3 r4 r5 (69 + i)) else none)
    rw [if_neg h]

theorem lw_m1 {P : va_W → Prop} {E : Nat → ClassId} {x r1 r2 r3 r4 r5 : Nat → Nat} {w : va_W} (h : P (w ++ lw_m E x r1 r2 r3 r4 r5 (fun i => if i < 8 then some (r1 i) else none) (fun i => if i < 24 then some (r2 i) else none) (fun i => if i < 16 then some (r3 i) else none) (fun i => if i < 5 then some (r4 i) else none) (fun i => if i < 5 then some (r5 i) else none))) : P (w ++ oh_W 74 (bm0 x r1 r2 r3 r4 r5) (cm0 E (bm0 x r1 r2 r3 r4 r5))) := by
  rw [lw_q1 x r1 r2 r3 r4 r5, lw_q2 x r1 r2 r3 r4 r5, lw_q3 x r1 r2 r3 r4 r5, lw_q4 x r1 r2 r3 r4 r5, lw_q5 x r1 r2 r3 r4 r5, lw_mW] at h
  exact h
/-- two worlds in a row -/
def catf {α : Type} (n : Nat) (f g : Nat → α) : Nat → α := fun k => if k < n then f k else g (k - n)
theorem catf_l {α : Type} {n k : Nat} {f g : Nat → α} (h : k < n) : catf n f g k = f k := if_pos h
theorem catf_r {α : Type} {n k : Nat} {f g : Nat → α} : catf n f g (n + k) = g k := by
  unfold catf
  rw [if_neg (by omega), Nat.add_sub_cancel_left]
theorem oh_Wcat {n m : Nat} {a b : Nat → Nat} {C M : Nat → va_E} : oh_W n a C ++ oh_W m b M = oh_W (n + m) (catf n a b) (catf n C M) := by
  apply List.ext_getElem?
  intro i
  have hl : (oh_W n a C).length = n := by unfold oh_W; rw [List.length_map, List.length_range]
  by_cases h1 : i < n
  · rw [List.getElem?_append_left (by rw [hl]; exact h1), oh_wg0 h1, oh_wg0 (by omega), catf_l h1, catf_l h1]
  · rw [List.getElem?_append_right (by rw [hl]; omega), hl]
    by_cases h2 : i - n < m
    · rw [oh_wg0 h2, oh_wg0 (by omega)]
      have e : i = n + (i - n) := by omega
      rw [e, catf_r, catf_r, Nat.add_sub_cancel_left]
    · rw [oh_wn (by omega), oh_wn (by omega)]
theorem shf_cat {α : Type} {n : Nat} {f g : Nat → α} : shf n (catf n f g) = g := by
  funext k
  exact catf_r
theorem qf_congr {a a2 : Nat → Nat} {n b : Nat} (h : b + n ≤ 74) (e : ∀ k, k < 74 → a2 k = a k) : qf a2 n b = qf a n b := by
  funext i
  show (if i < n then some (a2 (b + i)) else none) = (if i < n then some (a (b + i)) else none)
  by_cases q : i < n
  · rw [if_pos q, if_pos q, e _ (by omega)]
  · rw [if_neg q, if_neg q]
set_option maxHeartbeats 4000000 in
set_option maxRecDepth 100000 in
theorem TyM.congr2 {a a2 : Nat → Nat} {E : Nat → ClassId} {C : Nat → va_E} (h : TyM a E C) (e : ∀ k, k < 74 → a2 k = a k) : TyM a2 E C := by
  refine ⟨fun k hk => ?_, h.2⟩
  have hh := h.1 k hk
  rcases (show k = 0 ∨ k = 1 ∨ k = 2 ∨ k = 3 ∨ k = 4 ∨ k = 5 ∨ k = 6 ∨ k = 7 ∨ k = 8 ∨ k = 9 ∨ k = 10 ∨ k = 11 ∨ k = 12 ∨ k = 13 ∨ k = 14 ∨ k = 15 by omega) with rfl | rfl | rfl | rfl | rfl | rfl | rfl | rfl | rfl | rfl | rfl | rfl | rfl | rfl | rfl | rfl
  · refine ⟨?_, hh.2⟩
    rw [e 1 (by decide), e 2 (by decide), e 3 (by decide), e 4 (by decide), e 5 (by decide), e 6 (by decide), e 7 (by decide), e 8 (by decide), e 9 (by decide), e 10 (by decide), e 11 (by decide), e 12 (by decide), e 13 (by decide), e 14 (by decide), e 15 (by decide)]
    exact hh.1
  · exact hh
  · exact hh
  · exact hh
  · show C 4 = _
    rw [qf_congr (by decide) e]
    exact hh
  · exact hh
  · exact hh
  · exact hh
  · exact hh
  · show C 9 = _
    rw [qf_congr (by decide) e]
    exact hh
  · show C 10 = _
    rw [qf_congr (by decide) e]
    exact hh
  · show C 11 = _
    rw [qf_congr (by decide) e]
    exact hh
  · show C 12 = _
    rw [qf_congr (by decide) e]
    exact hh
  · exact hh
  · exact hh
  · exact hh
