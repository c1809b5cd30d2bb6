def cx0 (E : Nat → ClassId) (a : Nat → Nat) : Nat → va_E := fun k => ([.inr (6, [.ref (a 1), .ref (a 2), .int 0, .ref (a 3), .ref (a 4), .ref (a 5), .ref (a 6), .ref (a 7), .ref (a 8)]), .inr (0, [.ref (a 10), .ref (a 11), .ref (a 12), .ref (a 13), .ref (a 14), .ref (a 15), .ref (a 16), .int 0]), .inr (0, [.ref (a 17), .ref (a 18), .ref (a 19), .ref (a 20), .ref (a 21), .ref (a 22), .ref (a 23), .int 0]), .inr (5, [.ref (a 1), .ref (a 9), .ref (a 24), .ref (a 25), .ref (a 26), .ref (a 27), .ref (a 28)]), .inr (3, [.ref (a 29), .ref (a 30), .ref (a 31)]), .inr (4, [.ref (a 32), .int 0, .int (-1), .int 0, .int 0, .int 0]), .inr (2, [.ref (a 5), .ref (a 1), .ref (a 33), .ref (a 34)]), .inl (E 0, 5, .inl (fun _ => 0)), .inl (E 0, 3, .inl (fun _ => 0)), .inr (1, [.int 0, .int 0, .int 0, .int 0, .int 0]), .inl (E 0, 4, .inl (fun _ => 0)), .inl (E 0, 168, .inl (fun _ => 0)), .inl (E 0, 160, .inl (fun _ => 0)), .inl (E 0, 15, .inl (fun _ => 0)), .inl (E 0, 10, .inl (fun _ => 0)), .inl (E 0, 3, .inl (upd (upd (fun _ => 0) 0 100) 1 2)), .inl (E 0, 7, .inl (fun _ => 0)), .inl (E 0, 4, .inl (fun _ => 0)), .inl (E 0, 168, .inl (fun _ => 0)), .inl (E 0, 160, .inl (fun _ => 0)), .inl (E 0, 15, .inl (fun _ => 0)), .inl (E 0, 10, .inl (fun _ => 0)), .inl (E 0, 3, .inl (upd (upd (fun _ => 0) 0 100) 1 2)), .inl (E 0, 7, .inl (fun _ => 0)), .inl (E 0, 24, .inl (fun _ => 0)), .inl (E 0, 24, .inl (fun _ => 0)), .inl (E 0, 24, .inl (fun _ => 0)), .inl (E 0, 16, .inl (fun _ => 0)), .inl (E 0, 4, .inl (fun _ => 0)), .inl (E 0, 8, .inl (fun _ => (-1))), .inl (E 0, 8, .inl (fun _ => 0)), .inl (E 1, 320, .inr (.inl (fun _ => 0))), .inl (E 0, 250, .inl (fun _ => 0)), .inl (E 0, 4, .inl (fun _ => 0)), .inl (E 0, 3, .inl (fun _ => 0))] : List va_E).getD k (.inr (0, []))
def cm0 (E : Nat → ClassId) (a : Nat → Nat) : Nat → va_E := fun k => if k < 16 then ([.inr (7, [.ref (a 1), .ref (a 2), .ref (a 3), .ref (a 4), .ref (a 5), .ref (a 6), .ref (a 7), .int 0, .ref (a 8), .int 0, .ref (a 9), .int 0, .ref (a 10), .int 0, .ref (a 11), .int 0, .ref (a 12), .ref (a 13), .ref (a 14), .int 0, .null, .int 0, .int 0, .int 0, .long 0, .int 0, .int 0, .ref (a 15), .int 0]), .inl (E 0, 8, .inl (fun _ => 0)), .inl (E 0, 8, .inl (fun _ => 0)), .inl (E 0, 8, .inl (fun _ => 0)), .inl (E 3, 8, .inr (.inr (.inr (.inr (qf a 8 16))))), .inl (E 1, 40, .inr (.inl (fun _ => 0))), .inl (E 0, 8, .inl (fun _ => 0)), .inl (E 0, 250, .inl (fun _ => 0)), .inl (E 0, 8, .inl (fun _ => 0)), .inl (E 2, 24, .inr (.inr (.inr (.inr (qf a 24 24))))), .inl (E 2, 16, .inr (.inr (.inr (.inr (qf a 16 48))))), .inl (E 2, 5, .inr (.inr (.inr (.inr (qf a 5 64))))), .inl (E 2, 5, .inr (.inr (.inr (.inr (qf a 5 69))))), .inl (E 0, 3, .inl (upd (upd (upd (fun _ => 0) 0 100) 1 2) 2 0)), .inl (E 0, 7, .inl (fun _ => 0)), .inl (E 1, 16, .inr (.inl (fun _ => 0)))] : List va_E).getD k (.inr (0, [])) else  if k < 24 then .inl (E 1, 40, .inr (.inl (fun _ => 0))) else if k < 48 then .inl (E 0, 7, .inl (fun _ => 0)) else if k < 64 then .inl (E 0, 10, .inl (fun _ => 0)) else if k < 69 then .inl (E 0, 3, .inl (fun _ => 0)) else .inl (E 0, 2, .inl (fun _ => 0))
def bm0 (x r1 r2 r3 r4 r5 : Nat → Nat) : Nat → Nat := fun k => if k < 16 then x k else  if k < 24 then r1 (k - 16) else if k < 48 then r2 (k - 24) else if k < 64 then r3 (k - 48) else if k < 69 then r4 (k - 64) else r5 (k - 69)
theorem tA_z {cA : ClassId} {n W : Nat} {L : List (Int × Int)} (h : L.all (fun p => decide (p.1 ≤ 0 ∧ 0 ≤ p.2)) = true) : tA cA n W L (.inl (cA, n, .inl (fun _ => 0))) := by
  refine ⟨rfl, fun j hj => ?_⟩
  show rg 0 (bdl L (j % W)) (bdh L (j % W))
  unfold bdl bdh
  have key : (L.getD (j % W) (-2147483648, 2147483647)).1 ≤ 0 ∧ 0 ≤ (L.getD (j % W) (-2147483648, 2147483647)).2 := by
    rw [List.getD_eq_getElem?_getD]
    cases e : L[j % W]? with
    | none => exact ⟨by decide, by decide⟩
    | some p => exact of_decide_eq_true (List.all_eq_true.mp h p (List.mem_of_getElem? e))
  exact ⟨by show _ ≤ (0 : Int); exact key.1, by show (0 : Int) ≤ _; exact key.2⟩
theorem tA_e {cA : ClassId} {n W : Nat} {f : Nat → Int32} : tA cA n W [] (.inl (cA, n, .inl f)) := ⟨rfl, fun j _ => rg_any _⟩

set_option maxHeartbeats 4000000 in
set_option maxRecDepth 100000 in
theorem TyX0 (E : Nat → ClassId) (a : Nat → Nat) : TyX a E (cx0 E a) := by
  intro k hk
  rcases (show k = 0 ∨ k = 1 ∨ k = 2 ∨ k = 3 ∨ k = 4 ∨ k = 5 ∨ k = 6 ∨ k = 7 ∨ k = 8 ∨ k = 9 ∨ k = 10 ∨ k = 11 ∨ k = 12 ∨ k = 13 ∨ k = 14 ∨ k = 15 ∨ k = 16 ∨ k = 17 ∨ k = 18 ∨ k = 19 ∨ k = 20 ∨ k = 21 ∨ k = 22 ∨ k = 23 ∨ k = 24 ∨ k = 25 ∨ k = 26 ∨ k = 27 ∨ k = 28 ∨ k = 29 ∨ k = 30 ∨ k = 31 ∨ k = 32 ∨ k = 33 ∨ k = 34 by omega) with rfl | rfl | rfl | rfl | rfl | rfl | rfl | rfl | rfl | rfl | rfl | rfl | rfl | rfl | rfl | rfl | rfl | rfl | rfl | rfl | rfl | rfl | rfl | rfl | rfl | rfl | rfl | rfl | rfl | rfl | rfl | rfl | rfl | rfl | rfl
  · exact ⟨rfl, (show rg 0 0 1 from rg_c (by decide))⟩
  · exact ⟨rfl, (show rg 0 0 1 from rg_c (by decide))⟩
  · exact ⟨rfl, (show rg 0 0 1 from rg_c (by decide))⟩
  · exact rfl
  · exact rfl
  · exact ⟨rfl, (show rg 0 0 250 from rg_c (by decide)), (show rg (-1) (-1) 250 from rg_c (by decide)), (show rg 0 0 250 from rg_c (by decide)), (show rg 0 0 250 from rg_c (by decide))⟩
  · exact rfl
  · exact tA_e
  · exact tA_e
  · exact rfl
  · exact tA_z (by decide)
  · exact tA_z (by decide)
  · exact tA_z (by decide)
  · exact tA_e
  · exact tA_e
  · exact tA_e
  · exact tA_z (by decide)
  · exact tA_z (by decide)
  · exact tA_z (by decide)
  · exact tA_z (by decide)
  · exact tA_e
  · exact tA_e
  · exact tA_e
  · exact tA_z (by decide)
  · exact tA_e
  · exact tA_e
  · exact tA_e
  · exact tA_e
  · exact tA_z (by decide)
  · exact tA_e
  · exact tA_z (by decide)
  · exact rfl
  · exact tA_e
  · exact tA_z (by decide)
  · exact tA_e

set_option maxHeartbeats 4000000 in
set_option maxRecDepth 100000 in
theorem TyM0 (E : Nat → ClassId) (a : Nat → Nat) : TyM a E (cm0 E a) := by
  refine ⟨?_, ?_, ?_, ?_, ?_, ?_⟩
  · intro k hk
    rcases (show k = 0 ∨ k = 1 ∨ k = 2 ∨ k = 3 ∨ k = 4 ∨ k = 5 ∨ k = 6 ∨ k = 7 ∨ k = 8 ∨ k = 9 ∨ k = 10 ∨ k = 11 ∨ k = 12 ∨ k = 13 ∨ k = 14 ∨ k = 15 by omega) with rfl | rfl | rfl | rfl | rfl | rfl | rfl | rfl | rfl | rfl | rfl | rfl | rfl | rfl | rfl | rfl
    · exact ⟨rfl, (show rg 0 0 250 from rg_c (by decide)), (show rg 0 0 24 from rg_c (by decide)), (show rg 0 0 16 from rg_c (by decide)), (show rg 0 0 5 from rg_c (by decide)), (show rg 0 0 5 from rg_c (by decide)), (show rg 0 0 250 from rg_c (by decide)), (show rg 0 0 250 from rg_c (by decide))⟩
    · exact tA_z (by decide)
    · exact tA_e
    · exact tA_z (by decide)
    · exact rfl
    · exact rfl
    · exact tA_z (by decide)
    · exact tA_e
    · exact tA_e
    · exact rfl
    · exact rfl
    · exact rfl
    · exact rfl
    · exact tA_e
    · exact tA_z (by decide)
    · exact rfl
  · intro i hi
    have e : cm0 E a (16 + i) = .inl (E 1, 40, .inr (.inl (fun _ => 0))) := by
      unfold cm0
      rw [if_neg (by omega), if_pos (by omega)]
    rw [e]
    exact rfl
  · intro i hi
    have e : cm0 E a (24 + i) = .inl (E 0, 7, .inl (fun _ => 0)) := by
      unfold cm0
      rw [if_neg (by omega), if_neg (by omega), if_pos (by omega)]
    rw [e]
    exact tA_z (by decide)
  · intro i hi
    have e : cm0 E a (48 + i) = .inl (E 0, 10, .inl (fun _ => 0)) := by
      unfold cm0
      rw [if_neg (by omega), if_neg (by omega), if_neg (by omega), if_pos (by omega)]
    rw [e]
    exact tA_e
  · intro i hi
    have e : cm0 E a (64 + i) = .inl (E 0, 3, .inl (fun _ => 0)) := by
      unfold cm0
      rw [if_neg (by omega), if_neg (by omega), if_neg (by omega), if_neg (by omega), if_pos (by omega)]
    rw [e]
    exact tA_z (by decide)
  · intro i hi
    have e : cm0 E a (69 + i) = .inl (E 0, 2, .inl (fun _ => 0)) := by
      unfold cm0
      rw [if_neg (by omega), if_neg (by omega), if_neg (by omega), if_neg (by omega), if_neg (by omega)]
    rw [e]
    exact tA_e

theorem RelM0 (E : Nat → ClassId) (a : Nat → Nat) : RelM (cm0 E a) := by
  refine ⟨⟨fun w hw hl => ?_, fun h9 => ?_⟩, fun s hs c => ?_⟩
  · have e : (gi (cm0 E a 0) 13).toInt = 0 := rfl
    rw [e] at hl
    omega
  · exact absurd (show ga (cm0 E a 14) 0 = 0 from rfl) h9
  · have e : ga (cm0 E a 1) s = 0 := rfl
    rw [e] at c
    exact absurd c (by decide)

abbrev lw_m (E : Nat → ClassId) (x r1 r2 r3 r4 r5 : Nat → Nat) (f1 f2 f3 f4 f5 : Nat → Option Nat) : va_W := [(x 0, .inr (7, [.ref (x 1), .ref (x 2), .ref (x 3), .ref (x 4), .ref (x 5), .ref (x 6), .ref (x 7), .int 0, .ref (x 8), .int 0, .ref (x 9), .int 0, .ref (x 10), .int 0, .ref (x 11), .int 0, .ref (x 12), .ref (x 13), .ref (x 14), .int 0, .null, .int 0, .int 0, .int 0, .long 0, .int 0, .int 0, .ref (x 15), .int 0])), (x 1, .inl (E 0, 8, .inl (fun _ => 0))), (x 2, .inl (E 0, 8, .inl (fun _ => 0))), (x 3, .inl (E 0, 8, .inl (fun _ => 0))), (x 4, .inl (E 3, 8, .inr (.inr (.inr (.inr f1))))), (x 5, .inl (E 1, 40, .inr (.inl (fun _ => 0)))), (x 6, .inl (E 0, 8, .inl (fun _ => 0))), (x 7, .inl (E 0, 250, .inl (fun _ => 0))), (x 8, .inl (E 0, 8, .inl (fun _ => 0))), (x 9, .inl (E 2, 24, .inr (.inr (.inr (.inr f2))))), (x 10, .inl (E 2, 16, .inr (.inr (.inr (.inr f3))))), (x 11, .inl (E 2, 5, .inr (.inr (.inr (.inr f4))))), (x 12, .inl (E 2, 5, .inr (.inr (.inr (.inr f5))))), (x 13, .inl (E 0, 3, .inl (upd (upd (upd (fun _ => 0) 0 100) 1 2) 2 0))), (x 14, .inl (E 0, 7, .inl (fun _ => 0))), (x 15, .inl (E 1, 16, .inr (.inl (fun _ => 0))))] ++ (((((([] : va_W) ++ oh_rs r1 8 (fun _ => .inl (E 1, 40, .inr (.inl (fun _ => 0))))) ++ oh_rs r2 24 (fun _ => .inl (E 0, 7, .inl (fun _ => 0)))) ++ oh_rs r3 16 (fun _ => .inl (E 0, 10, .inl (fun _ => 0)))) ++ oh_rs r4 5 (fun _ => .inl (E 0, 3, .inl (fun _ => 0)))) ++ oh_rs r5 5 (fun _ => .inl (E 0, 2, .inl (fun _ => 0))))

set_option maxHeartbeats 4000000 in
set_option maxRecDepth 100000 in
theorem lw_mW (E : Nat → ClassId) (x r1 r2 r3 r4 r5 : Nat → Nat) : lw_m E x r1 r2 r3 r4 r5 (qf (bm0 x r1 r2 r3 r4 r5) 8 16) (qf (bm0 x r1 r2 r3 r4 r5) 24 24) (qf (bm0 x r1 r2 r3 r4 r5) 16 48) (qf (bm0 x r1 r2 r3 r4 r5) 5 64) (qf (bm0 x r1 r2 r3 r4 r5) 5 69) = oh_W 74 (bm0 x r1 r2 r3 r4 r5) (cm0 E (bm0 x r1 r2 r3 r4 r5)) := rfl

theorem lw_q1 (x r1 r2 r3 r4 r5 : Nat → Nat) : (fun i => if i < 8 then some (r1 i) else none) = qf (bm0 x r1 r2 r3 r4 r5) 8 16 := by
  funext i
  by_cases h : i < 8
  · rw [if_pos h]
    show _ = (if i < 8 then some (bm0 x r1 r2 r3 r4 r5 (16 + i)) else none)
    rw [if_pos h]
    unfold bm0
    rw [if_neg (by omega), if_pos (by omega)]
    simp
  · rw [if_neg h]
    show _ = (if i < 8 then some (bm0 x r1 r2 r3 r4 r5 (16 + i)) else none)
    rw [if_neg h]

theorem lw_q2 (x r1 r2 r3 r4 r5 : Nat → Nat) : (fun i => if i < 24 then some (r2 i) else none) = qf (bm0 x r1 r2 r3 r4 r5) 24 24 := by
  funext i
  by_cases h : i < 24
  · rw [if_pos h]
    show _ = (if i < 24 then some (bm0 x r1 r2 r3 r4 r5 (24 + i)) else none)
    rw [if_pos h]
    unfold bm0
    rw [if_neg (by omega), if_neg (by omega), if_pos (by omega)]
    simp
  · rw [if_neg h]
    show _ = (if i < 24 then some (bm0 x r1 r2 r3 r4 r5 (24 + i)) else none)
    rw [if_neg h]

theorem lw_q3 (x r1 r2 r3 r4 r5 : Nat → Nat) : (fun i => if i < 16 then some (r3 i) else none) = qf (bm0 x r1 r2 r3 r4 r5) 16 48 := by
  funext i
  by_cases h : i < 16
  · rw [if_pos h]
    show _ = (if i < 16 then some (bm0 x r1 r2 r3 r4 r5 (48 + i)) else none)
    rw [if_pos h]
    unfold bm0
    rw [if_neg (by omega), if_neg (by omega), if_neg (by omega), if_pos (by omega)]
    simp
  · rw [if_neg h]
    show _ = (if i < 16 then some (bm0 x r1 r2 r3 r4 r5 (48 + i)) else none)
    rw [if_neg h]

theorem lw_q4 (x r1 r2 r3 r4 r5 : Nat → Nat) : (fun i => if i < 5 then some (r4 i) else none) = qf (bm0 x r1 r2 r3 r4 r5) 5 64 := by
  funext i
  by_cases h : i < 5
  · rw [if_pos h]
    show _ = (if i < 5 then some (bm0 x r1 r2 r3 r4 r5 (64 + i)) else none)
    rw [if_pos h]
    unfold bm0
    rw [if_neg (by omega), if_neg (by omega), if_neg (by omega), if_neg (by omega), if_pos (by omega)]
    simp
  · rw [if_neg h]
    show _ = (if i < 5 then some (bm0 x r1 r2 r3 r4 r5 (64 + i)) else none)
    rw [if_neg h]

theorem lw_q5 (x r1 r2 r3 r4 r5 : Nat → Nat) : (fun i => if i < 5 then some (r5 i) else none) = qf (bm0 x r1 r2 r3 r4 r5) 5 69 := by
  funext i
  by_cases h : i < 5
  · rw [if_pos h]
    show _ = (if i < 5 then some (bm0 x r1 r2 r3 r4 r5 (69 + i)) else none)
    rw [if_pos h]
    unfold bm0
    rw [if_neg (by omega), if_neg (by omega), if_neg (by omega), if_neg (by omega), if_neg (by omega)]
    simp
  · rw [if_neg h]
    show _ = (if i < 5 then some (bm0 x r1 r2 r3 r4 r5 (69 + i)) else none)
    rw [if_neg h]

theorem lw_m1 {P : va_W → Prop} {E : Nat → ClassId} {x r1 r2 r3 r4 r5 : Nat → Nat} {w : va_W} (h : P (w ++ lw_m E x r1 r2 r3 r4 r5 (fun i => if i < 8 then some (r1 i) else none) (fun i => if i < 24 then some (r2 i) else none) (fun i => if i < 16 then some (r3 i) else none) (fun i => if i < 5 then some (r4 i) else none) (fun i => if i < 5 then some (r5 i) else none))) : P (w ++ oh_W 74 (bm0 x r1 r2 r3 r4 r5) (cm0 E (bm0 x r1 r2 r3 r4 r5))) := by
  rw [lw_q1 x r1 r2 r3 r4 r5, lw_q2 x r1 r2 r3 r4 r5, lw_q3 x r1 r2 r3 r4 r5, lw_q4 x r1 r2 r3 r4 r5, lw_q5 x r1 r2 r3 r4 r5, lw_mW] at h
  exact h
/-- two worlds in a row -/
def catf {α : Type} (n : Nat) (f g : Nat → α) : Nat → α := fun k => if k < n then f k else g (k - n)
theorem catf_l {α : Type} {n k : Nat} {f g : Nat → α} (h : k < n) : catf n f g k = f k := if_pos h
theorem catf_r {α : Type} {n k : Nat} {f g : Nat → α} : catf n f g (n + k) = g k := by
  unfold catf
  rw [if_neg (by omega), Nat.add_sub_cancel_left]
theorem oh_Wcat {n m : Nat} {a b : Nat → Nat} {C M : Nat → va_E} : oh_W n a C ++ oh_W m b M = oh_W (n + m) (catf n a b) (catf n C M) := by
  apply List.ext_getElem?
  intro i
  have hl : (oh_W n a C).length = n := by unfold oh_W; rw [List.length_map, List.length_range]
  by_cases h1 : i < n
  · rw [List.getElem?_append_left (by rw [hl]; exact h1), oh_wg0 h1, oh_wg0 (by omega), catf_l h1, catf_l h1]
  · rw [List.getElem?_append_right (by rw [hl]; omega), hl]
    by_cases h2 : i - n < m
    · rw [oh_wg0 h2, oh_wg0 (by omega)]
      have e : i = n + (i - n) := by omega
      rw [e, catf_r, catf_r, Nat.add_sub_cancel_left]
    · rw [oh_wn (by omega), oh_wn (by omega)]
theorem shf_cat {α : Type} {n : Nat} {f g : Nat → α} : shf n (catf n f g) = g := by
  funext k
  exact catf_r
theorem qf_congr {a a2 : Nat → Nat} {n b : Nat} (h : b + n ≤ 74) (e : ∀ k, k < 74 → a2 k = a k) : qf a2 n b = qf a n b := by
  funext i
  show (if i < n then some (a2 (b + i)) else none) = (if i < n then some (a (b + i)) else none)
  by_cases q : i < n
  · rw [if_pos q, if_pos q, e _ (by omega)]
  · rw [if_neg q, if_neg q]
set_option maxHeartbeats 4000000 in
set_option maxRecDepth 100000 in
theorem TyM.congr2 {a a2 : Nat → Nat} {E : Nat → ClassId} {C : Nat → va_E} (h : TyM a E C) (e : ∀ k, k < 74 → a2 k = a k) : TyM a2 E C := by
  refine ⟨fun k hk => ?_, h.2⟩
  have hh := h.1 k hk
  rcases (show k = 0 ∨ k = 1 ∨ k = 2 ∨ k = 3 ∨ k = 4 ∨ k = 5 ∨ k = 6 ∨ k = 7 ∨ k = 8 ∨ k = 9 ∨ k = 10 ∨ k = 11 ∨ k = 12 ∨ k = 13 ∨ k = 14 ∨ k = 15 by omega) with rfl | rfl | rfl | rfl | rfl | rfl | rfl | rfl | rfl | rfl | rfl | rfl | rfl | rfl | rfl | rfl
  · refine ⟨?_, hh.2⟩
    rw [e 1 (by decide), e 2 (by decide), e 3 (by decide), e 4 (by decide), e 5 (by decide), e 6 (by decide), e 7 (by decide), e 8 (by decide), e 9 (by decide), e 10 (by decide), e 11 (by decide), e 12 (by decide), e 13 (by decide), e 14 (by decide), e 15 (by decide)]
    exact hh.1
  · exact hh
  · exact hh
  · exact hh
  · show C 4 = _
    rw [qf_congr (by decide) e]
    exact hh
  · exact hh
  · exact hh
  · exact hh
  · exact hh
  · show C 9 = _
    rw [qf_congr (by decide) e]
    exact hh
  · show C 10 = _
    rw [qf_congr (by decide) e]
    exact hh
  · show C 11 = _
    rw [qf_congr (by decide) e]
    exact hh
  · show C 12 = _
    rw [qf_congr (by decide) e]
    exact hh
  · exact hh
  · exact hh
  · exact hh
theorem pdX7_init : yX7_init.cls ≠ "java/lang/invoke/MethodHandle" ∧ yX7_init.cls ≠ "java/lang/invoke/VarHandle" ∧ (parseMethodDescriptor yX7_init.desc).map (fun d => d.parameters.length) = some 0 := by decide +kernel
theorem absM_74 {a : Nat → Nat} {E : Nat → ClassId} {C u : Nat → va_E} {A : LA} (h : absM C A) (hT : TyM a E C) (e : ∀ k, k < 74 → u k = C k) : absM u A := by
  refine absM_eq h (fun s hs => by rw [e 0 (by decide)]) (e 13 (by decide)) (fun s hs i hi => e _ ?_)
  have h1 := (cntM hT s hs).2
  rcases (show s = 0 ∨ s = 1 ∨ s = 2 ∨ s = 3 by omega) with rfl | rfl | rfl | rfl <;> simp only [blk, blkN] at * <;> omega
theorem oh_hdp (w v : va_W) : (List.range w.length).map (fun i => (w ++ v)[i]?) = w.map some := by
  apply List.ext_getElem?
  intro i
  rw [List.getElem?_map, List.getElem?_map]
  by_cases h : i < w.length
  · rw [List.getElem?_range h, List.getElem?_eq_getElem h]
    simp only [Option.map_some]
    rw [List.getElem?_append_left h, List.getElem?_eq_getElem h]
  · rw [List.getElem?_eq_none (by rw [List.length_range]; omega), List.getElem?_eq_none (by omega)]
    rfl
theorem oh_Wlen {n : Nat} {a : Nat → Nat} {C : Nat → va_E} : (oh_W n a C).length = n := by unfold oh_W; rw [List.length_map, List.length_range]
theorem oh_nd1 : ∀ (l : List Nat), l.Nodup → va_nd l = true
  | [], _ => rfl
  | a :: l, h => by
    rw [List.nodup_cons] at h
    simp only [va_nd, Bool.and_eq_true, decide_eq_true_eq]
    exact ⟨h.1, oh_nd1 l h.2⟩
theorem oh_lst {n : Nat} {a : Nat → Nat} {C : Nat → va_E} {x : Nat × va_E} : [n].map (fun i => (oh_W n a C ++ [x])[i]?) = [x].map some := by
  simp [List.getElem?_append_right, oh_Wlen]

set_option maxHeartbeats 4000000 in
set_option maxRecDepth 100000 in
theorem c_X7_image_n (l : Launch) (D : va_G) (E : Nat → ClassId) (G : Nat → Nat) (sz : Nat) (a : Nat → Nat) (C : Nat → va_E) (hT : TyM a E C) (hR : RelM C) (hkn : gv (C 0) 20 = .null) : Met l yX7_image (oh_w yX7_image cX7_image 1 (some .int)) ({ frames := 3, cells := 74, slots := 1116, locals := 65 }) (oh_Pm D E G [.ref (a 0)] (oh_W 74 a C) sz) (va_Qi (fun r (u : (Nat → Nat) × (Nat → va_E)) => (∀ k, k < 74 → u.1 k = a k) ∧ TyM u.1 E u.2 ∧ RelM u.2 ∧ gv (u.2 0) 20 = .ref (u.1 74) ∧ TyM (shf 74 u.1) E (shf 74 u.2) ∧ RelW (shf 74 u.2) ∧ gi (u.2 0) 7 = gi (C 0) 7 ∧ (∀ k, k ≠ 0 → k < 74 → u.2 k = C k) ∧ (∀ i, i ≠ 20 → gv (u.2 0) i = gv (C 0) i) ∧ (∀ A : LA, absM C A → absM (shf 74 u.2) A) ∧ (∀ T : TP, absTM C T → absTM (shf 74 u.2) T) ∧ r = 1) (oh_B D (va_A (oh_W 74 a C) sz) (fun u => oh_W 148 u.1 u.2)) (va_A (oh_W 74 a C) sz)) 74 1116 (va_A (oh_W 74 a C) sz) := by
  refine Met.ofW (cc := cX7_image) (maxL := 1) (ret := (some .int)) (by decide) rfl ?_
  intro p e s m args below meth c s₁ B hml hv
  obtain ⟨rfl, hsz, hP, hK, hD0, hG⟩ := hv
  have hx := B.exec
  have hb := B.bytes
  have hr := B.returns
  have hts := atoms_spec (ws := (oh_w yX7_image cX7_image 1 (some .int))) B.pre
  have htg : ∀ w ∈ oh_t, w.before _ s = true := fun w h => hts w (List.mem_cons_of_mem _ h)
  have hown : s.vm.findClass RX7 = some m.cls := findClass_of_methodNamed B.named
  have hlocks := B.notSynchronized
  subst hsz
  have hD := hD0.self (sz := s.heap.size)
  generalize hAe : va_A (oh_W 74 a C) s.heap.size = A at hD hG ⊢
  have hA : ∀ q : Nat, s.heap.size ≤ q → A q := fun q h => by rw [← hAe]; exact Or.inr h
  have hS : va_S A s.heap s.heap [] := va_S.rf
  have hl := lv_entry ([.ref (a 0)]) (n := 1) (Nat.le_of_ble_eq_true rfl)
  rw [lg_entry_eq]
  generalize (lg_sl ([.ref (a 0)]) ++ List.replicate (1 - (lg_sl ([.ref (a 0)])).length) Slot.unset).toArray = ls at hl ⊢
  have hl : lv_has ls 1 [(0, .ref (a 0))] := hl
  have hTo := hT
  refine lv_aload_n hx hb dX7_image_0 rfl (lv_at hl 0 rfl) ?_
  refine va_get (D := D) (ci := 7) (v := .null) (C := RX7) (T := TX7) (N := 29) hx hb htg ig_7 hown hK hP 0 (oh_wg (by omega) (sM_0 hT)) rfl 20 (by decide) (htg _ q_993) (fun _ h9 => h9) (congrArg some hkn) dX7_image_1 ?_
  refine lv_ifnonnullN hx hb dX7_image_4 ?_
  refine lv_aload_n hx hb dX7_image_7 rfl (lv_at hl 0 rfl) ?_
  refine va_new (ci := 7) (fs := [.null, .null, .null, .null, .null, .null, .null, .int 0, .null, .int 0, .null, .int 0, .null, .int 0, .null, .int 0, .null, .null, .null, .int 0, .null, .int 0, .int 0, .int 0, .long 0, .int 0, .int 0, .null, .int 0]) (C := RX7) (T := TX7) (N := 29) hx hb htg ig_7 tyX7 tyX7_ok hown (htg _ q_1425) (htg _ q_964) (htg _ q_73) hK hP hD hS hA rfl oh_df7 (show 1 ≤ 74 from Nat.le_of_ble_eq_true rfl) (show 29 ≤ 1116 from Nat.le_of_ble_eq_true rfl) dX7_image_8 (fun w0 H hP hD hS => ?_)
  refine W.widen (k := 1) (n := 29) (Nat.le_refl _) (Nat.le_refl _) ?_
  refine lv_dup hx hb dX7_image_11 rfl ?_
  refine oh_mI (As := []) (rest := [.ref w0, .ref (a 0)]) (wr := oh_W 74 a C) (wc := [(w0, .inr (7, [.null, .null, .null, .null, .null, .null, .null, .int 0, .null, .int 0, .null, .int 0, .null, .int 0, .null, .int 0, .null, .null, .null, .int 0, .null, .int 0, .int 0, .int 0, .long 0, .int 0, .int 0, .null, .int 0]))]) ⟨hx, hb, hml, hown, htg⟩ (c_X7_init l D E G H.size w0) (cwI 0 htg (oh_gW q_967) rfl rfl rfl (htg _ q_73) (htg _ q_1426) (htg _ q_966) rfl pdX7_init ⟨Nat.le_of_ble_eq_true rfl, Nat.le_of_ble_eq_true rfl⟩) hK hP hD hG hS hA [74] (List.range (oh_W 74 a C).length) oh_lst (oh_hdp _ _) (by decide) (oh_nd1 _ List.nodup_range) (fun i hi => by rw [oh_Wlen, List.mem_range] at hi; intro h9; rw [List.mem_singleton] at h9; omega) rfl hl.1 rfl (Nat.le_of_ble_eq_true rfl) dX7_image_12 ⟨show 74 ≤ 74 from Nat.le_refl _, show 1116 ≤ 1116 from Nat.le_refl _⟩ (fun u H locs hw hP hD hS => ?_)
  obtain ⟨q7, q15, q23, q33, q43, q51, q60, q68, q78, q90, q100, q110, q119, q140, q148, r33, r78, r90, r100, r110⟩ := u
  refine W.widen (k := 74) (n := 1116) (Nat.le_refl _) (Nat.le_refl _) ?_
  have hP := lw_m1 (P := fun w => va_P D vwCl w H) (w := oh_W 74 a C) (E := E) (x := (fun i => ([w0, q7, q15, q23, q33, q43, q51, q60, q68, q78, q90, q100, q110, q119, q140, q148] : List Nat).getD i 0)) (r1 := r33) (r2 := r78) (r3 := r90) (r4 := r100) (r5 := r110) hP
  have hD := lw_m1 (P := fun w => va_D A w) (w := oh_W 74 a C) (E := E) (x := (fun i => ([w0, q7, q15, q23, q33, q43, q51, q60, q68, q78, q90, q100, q110, q119, q140, q148] : List Nat).getD i 0)) (r1 := r33) (r2 := r78) (r3 := r90) (r4 := r100) (r5 := r110) hD
  obtain ⟨b0, eb⟩ : ∃ z, z = (bm0 (fun i => ([w0, q7, q15, q23, q33, q43, q51, q60, q68, q78, q90, q100, q110, q119, q140, q148] : List Nat).getD i 0) r33 r78 r90 r100 r110) := ⟨_, rfl⟩
  have ew : w0 = b0 0 := by rw [eb]; rfl
  rw [← eb, oh_Wcat] at hP hD
  obtain ⟨a2, ea⟩ : ∃ z, z = catf 74 a b0 := ⟨_, rfl⟩
  obtain ⟨C2, eC⟩ : ∃ z, z = catf 74 C (cm0 E b0) := ⟨_, rfl⟩
  rw [← ea, ← eC] at hP hD
  have ha2 : ∀ k, k < 74 → a2 k = a k := fun k hk => by rw [ea]; exact catf_l hk
  have hC2 : ∀ k, k < 74 → C2 k = C k := fun k hk => by rw [eC]; exact catf_l hk
  have hT2 : TyM a2 E C2 := (hT.congr hC2).congr2 ha2
  have hTk2 : TyM (shf 74 a2) E (shf 74 C2) := by rw [ea, eC, shf_cat, shf_cat]; exact TyM0 E b0
  have hw2 : w0 = a2 74 := by rw [ew, ea]; exact (catf_r (k := 0)).symm
  refine W.eq (g2 := F0 m 15 ls [.ref (a2 74), .ref (a2 0)]) (by rw [← hw2, ha2 0 (by decide)]) ?_
  rw [← ha2 0 (by decide)] at hl
  refine th_put (Tp := TyM a2 E) (Rl := fr [] [20] C2) (ci := 7) (v := .ref (a2 74)) (ty := (.object "OneHeavyLoadModel")) (CC := RX7) (T := TX7) (N := 29) hx hb htg ig_7 tyX7 tyX7_ok nmX7 hown hK hP hD hS 0 (by decide) (sM_0 hT2) rfl 20 (by decide) (htg _ q_993) (fun _ h9 => h9) rfl (by decide +kernel) rfl rfl (Nat.le_of_ble_eq_true rfl) (hT2.up 0 (by decide) ⟨rfl, (fM_0_7 hT2), (fM_0_9 hT2), (fM_0_11 hT2), (fM_0_13 hT2), (fM_0_15 hT2), (fM_0_21 hT2), (fM_0_23 hT2)⟩) (fr_fd fr_rf (sM_0 hT2) (by decide)) dX7_image_15 (fun C3 H locs e3 hT3 hF3 hP hD hS => ?_)
  have hkr : gv (C3 0) 20 = .ref (a2 74) := by rw [e3]; rfl
  have hTk : TyM (shf 74 a2) E (shf 74 C3) := hTk2.congr (fun k hk => show C3 (74 + k) = C2 (74 + k) from th_un e3 (by omega))
  have hR0 := hR
  have hR : RelM C3 := ⟨(relM_congr hR0 hC2).1.fr hF3 (by decide), (relM_congr hR0 hC2).2.fr hF3 (by decide)⟩
  have hn2 : 148 ≤ 148 := Nat.le_refl _
  have hT0 := hT
  have hT := hT3
  refine lv_aload_n hx hb dX7_image_18 rfl (lv_at hl 0 rfl) ?_
  refine va_get (D := D) (ci := 7) (v := .ref (a2 (74 + 0))) (C := RX7) (T := TX7) (N := 29) hx hb htg ig_7 hown hK hP 0 (oh_wg (by omega) (sM_0 hT)) rfl 20 (by decide) (htg _ q_993) (fun _ h9 => h9) (congrArg some hkr) dX7_image_19 ?_
  refine lv_aload_n hx hb dX7_image_22 rfl (lv_at hl 0 rfl) ?_
  have hT1s : TyM (shf 0 a2) E (shf 0 C3) := by rw [shf_0, shf_0]; exact hT
  refine tm_Vv (b := a2 (74 + 0)) (As := [.ref (a2 (0 + 0))]) (rest := []) ⟨hx, hb, hml, hown, htg⟩ (c_X7_takeFrom l D E G _ 148 a2 C3 74 0 (Or.inr ⟨rfl, rfl⟩) hn2 hTk hT1s) (cwV 1 htg (oh_gV q_1427 q_1429 q_64 q_73 q_1430) rfl rfl rfl pdVX7_takeFrom ⟨Nat.le_of_ble_eq_true rfl, Nat.le_of_ble_eq_true rfl⟩) hK hP hD hG hS hA (va_recv hK hP (ci := 7) (q0 := 74 + 0) rfl (oh_wg (by omega) (show C3 (74 + 0) = _ from sM_0 hTk))) rfl hl.1 rfl (Nat.le_of_ble_eq_true rfl) dX7_image_23 ⟨show 74 ≤ 74 from Nat.le_refl _, show 1116 ≤ 1116 from Nat.le_refl _⟩ (fun u H locs hq hP hD hS => ?_)
  obtain ⟨k1, k2, k3, k4, k5, k6, k7, k8, k9⟩ := hq
  have k9b : ∀ A : LA, absM C3 A → absM (shf 74 u) A := fun A hA => k9.1 A (by rw [shf_0]; exact hA)
  have k9t : ∀ T : TP, absTM C3 T → absTM (shf 74 u) T := fun T hT => k9.2 T (by rw [shf_0]; exact hT)
  have hcc : ∀ k, k < 74 → u k = C3 k := fun k hk => by have := k2 k hk; rw [Nat.zero_add] at this; exact this
  have hRw : RelW (shf 74 u) := relW_cp hR.1 k5 (fun w hw q hq => by have := k6 w hw q hq; rw [Nat.zero_add] at this; exact this) (fun q hq => by have := k7 q hq; rw [Nat.zero_add] at this; exact this)
  refine W.widen (k := 74) (n := 1116) (Nat.le_refl _) (Nat.le_refl _) ?_
  refine lv_iconst (v := 1) hx hb dX7_image_26 (by decide) ?_
  have hcA : ∀ k, k ≠ 0 → k < 74 → u k = C k := fun k h0 hk => by rw [hcc k hk, hF3.1 k rfl h0]; exact hC2 k hk
  have hcF : ∀ i, i ≠ 20 → gv (u 0) i = gv (C 0) i := fun i hi => by rw [hcc 0 (by decide), hF3.2 i (by simpa using hi)]; exact congrArg (fun z => gv z i) (hC2 0 (by decide))
  have hcK : ∀ A : LA, absM C A → absM (shf 74 u) A := fun A hA => k9b A (absM_fr (absM_74 hA hTo hC2) hT2 hF3 (by decide) (by decide) (by decide))
  have hcT : ∀ T : TP, absTM C T → absTM (shf 74 u) T := fun T hT => k9t T (absTM_eq (absTM_eq hT (hC2 14 (by decide)) (congrArg (fun z => gi z 19) (hC2 0 (by decide)))) (hF3.1 14 rfl (by decide)) (congrArg vi (hF3.2 19 (by decide))))
  have h7 : gi (u 0) 7 = gi (C 0) 7 := by rw [hcc 0 (by decide)]; exact Eq.trans (congrArg vi (hF3.2 7 (by decide))) (congrArg (fun z => gi z 7) (hC2 0 (by decide)))
  have hk2 : gv (u 0) 20 = .ref (a2 74) := by rw [hcc 0 (by decide)]; exact hkr
  exact W.iret (v := 1) hx hb hr (fun t ht hW => ⟨⟨1, (a2, u), rfl, ⟨ha2, hT.congr hcc, relM_congr hR hcc, hk2, k1, hRw, h7, hcA, hcF, hcK, hcT, rfl⟩, ⟨by rw [ht]; exact hP, hD⟩⟩, hS.F ht⟩) hS.2.2 dX7_image_27
section
/-! THE LAW: the class's world wx and the reference's wm side by side. -/
theorem oh_tl (wx wm : va_W) : ((List.range wm.length).map (fun i => wx.length + i)).map (fun i => (wx ++ wm)[i]?) = wm.map some := by
  rw [List.map_map]
  apply List.ext_getElem?
  intro i
  rw [List.getElem?_map, List.getElem?_map]
  by_cases h : i < wm.length
  · rw [List.getElem?_range h, List.getElem?_eq_getElem h]
    simp only [Option.map_some, Function.comp]
    rw [List.getElem?_append_right (by omega), Nat.add_sub_cancel_left, List.getElem?_eq_getElem h]
  · rw [List.getElem?_eq_none (by rw [List.length_range]; omega), List.getElem?_eq_none (by omega)]
    rfl
theorem oh_nd : ∀ (l : List Nat), l.Nodup → va_nd l = true
  | [], _ => rfl
  | a :: l, h => by
    rw [List.nodup_cons] at h
    simp only [va_nd, Bool.and_eq_true, decide_eq_true_eq]
    exact ⟨h.1, oh_nd l h.2⟩
theorem oh_ndr (c n : Nat) : va_nd ((List.range n).map (fun i => c + i)) = true := by
  apply oh_nd
  rw [List.nodup_iff_pairwise_ne, List.pairwise_map]
  exact List.nodup_range.imp (fun h e => h (by omega))
theorem oh_pre_P {D : va_G} {a b : va_W} {H : Heap} (h : va_P D vwCl (a ++ b) H) : va_P D vwCl a H := fun k q hq => h k q (by rw [List.getElem?_append_left (List.getElem?_eq_some_iff.mp hq).1]; exact hq)
theorem oh_suf_P {D : va_G} {a b : va_W} {H : Heap} (h : va_P D vwCl (a ++ b) H) : va_P D vwCl b H := fun k q hq => h (a.length + k) q (by rw [List.getElem?_append_right (by omega), Nat.add_sub_cancel_left]; exact hq)
theorem oh_swi {a b : va_W} {k : Nat} {q : Nat × va_E} (hq : (b ++ a)[k]? = some q) : (a ++ b)[if k < b.length then a.length + k else k - b.length]? = some q := by
  by_cases hk : k < b.length
  · rw [if_pos hk]
    rw [List.getElem?_append_left hk] at hq
    rw [List.getElem?_append_right (by omega), Nat.add_sub_cancel_left]
    exact hq
  · rw [if_neg hk]
    rw [List.getElem?_append_right (by omega)] at hq
    rw [List.getElem?_append_left (List.getElem?_eq_some_iff.mp hq).1]
    exact hq
theorem oh_swP {D : va_G} {a b : va_W} {H : Heap} (h : va_P D vwCl (a ++ b) H) : va_P D vwCl (b ++ a) H := fun _ q hq => h _ q (oh_swi hq)
theorem oh_swD {A : Nat → Prop} {a b : va_W} (h : va_D A (a ++ b)) : va_D A (b ++ a) := by
  refine ⟨fun i j p q hi hj e => ?_, fun k q hk => h.2 _ q (oh_swi hk)⟩
  have h1 := h.1 _ _ p q (oh_swi hi) (oh_swi hj) e
  have li := (List.getElem?_eq_some_iff.mp hi).1
  have lj := (List.getElem?_eq_some_iff.mp hj).1
  rw [List.length_append] at li lj
  by_cases c1 : i < b.length
  · by_cases c2 : j < b.length
    · rw [if_pos c1, if_pos c2] at h1
      omega
    · rw [if_pos c1, if_neg c2] at h1
      omega
  · by_cases c2 : j < b.length
    · rw [if_neg c1, if_pos c2] at h1
      omega
    · rw [if_neg c1, if_neg c2] at h1
      omega
section LWC
variable {p : Program} {l : Launch} {e : Env} {R : Room} {s : State} {m : MethodId} {args : Array Value} {below : List Frame} {meth : Method} {c : Code} {H : Heap} {locs : List Loc} {cells slots : Nat} {Q : State → Prop}
variable {cc bytes : ByteArray} {pc nL maxL mc ms nn index b : Nat} {ls : Array Slot} {st0 rest As : List Value} {D : va_G} {E : Nat → ClassId} {G : Nat → Nat} {A : Nat → Prop} {wx wm : va_W} {own CN : String} {y : MethodName} {ret : Option FieldType} {rm : Room}
theorem lw_cX {S : Type} {post : Int32 → S → Prop} {W1 : S → va_W} (Sx : CallFix p m c cc nL s args oh_t own) (hM : Met l y (oh_w y bytes maxL ret) rm (oh_Pm D E G (.ref b :: As) wx H.size) (va_Qi post (oh_B D (va_A wx H.size) W1) (va_A wx H.size)) mc ms (va_A wx H.size)) (cw : CallW R s args own CN index y bytes maxL ret (oh_w y bytes maxL ret) rm mc ms nn) (hK : va_K D vwCl (oh_ty E) s) (hP : va_P D vwCl (wx ++ wm) H) (hD : va_D A (wx ++ wm)) (hG : oh_G G A s) (hS : va_S A s.heap H locs) (hA : ∀ q, s.heap.size ≤ q → A q) (hrec : ∃ cell : Cell, H[b]? = some cell ∧ cell.vm.isStatics = false ∧ s.vm.findClass CN = some cell.cls)
    (hn : As.length = nn) (hsize : ls.size = nL) (hst : st0 = As.reverse ++ .ref b :: rest) (hW : (rest.map fun v => v.category).sum ≤ 8) (hdg : decode cc pc = .ok (.invokevirtual index, 3)) (hf : cells + mc ≤ R.cells ∧ slots + ms ≤ R.slots)
    (kk : ∀ (r : Int32) (u : S) (H1 : Heap) (locs1 : List Loc), post r u → va_P D vwCl (W1 u ++ wm) H1 → va_D A (W1 u ++ wm) → va_S A s.heap H1 locs1 → W p l e R s m args below meth c H1 locs1 (cells + mc) (slots + ms) Q (F0 m (pc + 3) ls (.int r :: rest))) : W p l e R s m args below meth c H locs cells slots Q (F0 m pc ls st0) :=
  oh_mV (wr := wm) Sx hM cw hK hP hD hG hS hA (List.range wx.length) ((List.range wm.length).map (fun i => wx.length + i)) (oh_hdp wx wm) (oh_tl wx wm) (oh_nd1 _ List.nodup_range) (oh_ndr _ _) (fun i hi h2 => by
    obtain ⟨j, -, rfl⟩ := List.mem_map.mp hi
    have := List.mem_range.mp h2
    omega) hrec hn hsize hst hW hdg hf (fun r u H1 locs1 hw hP1 hD1 hS1 => kk r u H1 locs1 hw (oh_swP hP1) (oh_swD hD1) hS1)
theorem lw_cXl {S : Type} {post : Int64 → S → Prop} {W1 : S → va_W} (Sx : CallFix p m c cc nL s args oh_t own) (hM : Met l y (oh_w y bytes maxL ret) rm (oh_Pm D E G (.ref b :: As) wx H.size) (va_Ql post (oh_B D (va_A wx H.size) W1) (va_A wx H.size)) mc ms (va_A wx H.size)) (cw : CallW R s args own CN index y bytes maxL ret (oh_w y bytes maxL ret) rm mc ms nn) (hK : va_K D vwCl (oh_ty E) s) (hP : va_P D vwCl (wx ++ wm) H) (hD : va_D A (wx ++ wm)) (hG : oh_G G A s) (hS : va_S A s.heap H locs) (hA : ∀ q, s.heap.size ≤ q → A q) (hrec : ∃ cell : Cell, H[b]? = some cell ∧ cell.vm.isStatics = false ∧ s.vm.findClass CN = some cell.cls)
    (hn : As.length = nn) (hsize : ls.size = nL) (hst : st0 = As.reverse ++ .ref b :: rest) (hW : (rest.map fun v => v.category).sum ≤ 8) (hdg : decode cc pc = .ok (.invokevirtual index, 3)) (hf : cells + mc ≤ R.cells ∧ slots + ms ≤ R.slots)
    (kk : ∀ (r : Int64) (u : S) (H1 : Heap) (locs1 : List Loc), post r u → va_P D vwCl (W1 u ++ wm) H1 → va_D A (W1 u ++ wm) → va_S A s.heap H1 locs1 → W p l e R s m args below meth c H1 locs1 (cells + mc) (slots + ms) Q (F0 m (pc + 3) ls (.long r :: rest))) : W p l e R s m args below meth c H locs cells slots Q (F0 m pc ls st0) :=
  oh_mVl (wr := wm) Sx hM cw hK hP hD hG hS hA (List.range wx.length) ((List.range wm.length).map (fun i => wx.length + i)) (oh_hdp wx wm) (oh_tl wx wm) (oh_nd1 _ List.nodup_range) (oh_ndr _ _) (fun i hi h2 => by
    obtain ⟨j, -, rfl⟩ := List.mem_map.mp hi
    have := List.mem_range.mp h2
    omega) hrec hn hsize hst hW hdg hf (fun r u H1 locs1 hw hP1 hD1 hS1 => kk r u H1 locs1 hw (oh_swP hP1) (oh_swD hD1) hS1)
theorem lw_cM {S : Type} {post : Int32 → S → Prop} {W1 : S → va_W} (Sx : CallFix p m c cc nL s args oh_t own) (hM : Met l y (oh_w y bytes maxL ret) rm (oh_Pm D E G (.ref b :: As) wm H.size) (va_Qi post (oh_B D (va_A wm H.size) W1) (va_A wm H.size)) mc ms (va_A wm H.size)) (cw : CallW R s args own CN index y bytes maxL ret (oh_w y bytes maxL ret) rm mc ms nn) (hK : va_K D vwCl (oh_ty E) s) (hP : va_P D vwCl (wx ++ wm) H) (hD : va_D A (wx ++ wm)) (hG : oh_G G A s) (hS : va_S A s.heap H locs) (hA : ∀ q, s.heap.size ≤ q → A q) (hrec : ∃ cell : Cell, H[b]? = some cell ∧ cell.vm.isStatics = false ∧ s.vm.findClass CN = some cell.cls)
    (hn : As.length = nn) (hsize : ls.size = nL) (hst : st0 = As.reverse ++ .ref b :: rest) (hW : (rest.map fun v => v.category).sum ≤ 8) (hdg : decode cc pc = .ok (.invokevirtual index, 3)) (hf : cells + mc ≤ R.cells ∧ slots + ms ≤ R.slots)
    (kk : ∀ (r : Int32) (u : S) (H1 : Heap) (locs1 : List Loc), post r u → va_P D vwCl (wx ++ W1 u) H1 → va_D A (wx ++ W1 u) → va_S A s.heap H1 locs1 → W p l e R s m args below meth c H1 locs1 (cells + mc) (slots + ms) Q (F0 m (pc + 3) ls (.int r :: rest))) : W p l e R s m args below meth c H locs cells slots Q (F0 m pc ls st0) :=
  oh_mV (wr := wx) Sx hM cw hK hP hD hG hS hA ((List.range wm.length).map (fun i => wx.length + i)) (List.range wx.length) (oh_tl wx wm) (oh_hdp wx wm) (oh_ndr _ _) (oh_nd1 _ List.nodup_range) (fun i hi h2 => by
    obtain ⟨j, -, rfl⟩ := List.mem_map.mp h2
    have := List.mem_range.mp hi
    omega) hrec hn hsize hst hW hdg hf kk
theorem lw_cMl {S : Type} {post : Int64 → S → Prop} {W1 : S → va_W} (Sx : CallFix p m c cc nL s args oh_t own) (hM : Met l y (oh_w y bytes maxL ret) rm (oh_Pm D E G (.ref b :: As) wm H.size) (va_Ql post (oh_B D (va_A wm H.size) W1) (va_A wm H.size)) mc ms (va_A wm H.size)) (cw : CallW R s args own CN index y bytes maxL ret (oh_w y bytes maxL ret) rm mc ms nn) (hK : va_K D vwCl (oh_ty E) s) (hP : va_P D vwCl (wx ++ wm) H) (hD : va_D A (wx ++ wm)) (hG : oh_G G A s) (hS : va_S A s.heap H locs) (hA : ∀ q, s.heap.size ≤ q → A q) (hrec : ∃ cell : Cell, H[b]? = some cell ∧ cell.vm.isStatics = false ∧ s.vm.findClass CN = some cell.cls)
    (hn : As.length = nn) (hsize : ls.size = nL) (hst : st0 = As.reverse ++ .ref b :: rest) (hW : (rest.map fun v => v.category).sum ≤ 8) (hdg : decode cc pc = .ok (.invokevirtual index, 3)) (hf : cells + mc ≤ R.cells ∧ slots + ms ≤ R.slots)
    (kk : ∀ (r : Int64) (u : S) (H1 : Heap) (locs1 : List Loc), post r u → va_P D vwCl (wx ++ W1 u) H1 → va_D A (wx ++ W1 u) → va_S A s.heap H1 locs1 → W p l e R s m args below meth c H1 locs1 (cells + mc) (slots + ms) Q (F0 m (pc + 3) ls (.long r :: rest))) : W p l e R s m args below meth c H locs cells slots Q (F0 m pc ls st0) :=
  oh_mVl (wr := wx) Sx hM cw hK hP hD hG hS hA ((List.range wm.length).map (fun i => wx.length + i)) (List.range wx.length) (oh_tl wx wm) (oh_hdp wx wm) (oh_ndr _ _) (oh_nd1 _ List.nodup_range) (fun i hi h2 => by
    obtain ⟨j, -, rfl⟩ := List.mem_map.mp h2
    have := List.mem_range.mp hi
    omega) hrec hn hsize hst hW hdg hf kk
end LWC
/-- the kept model -/
def KEPT (E : Nat → ClassId) (n : Nat) (b : Nat → Nat) (M : Nat → va_E) : Prop := (n = 74 ∧ gv (M 0) 20 = .null) ∨ (n = 148 ∧ gv (M 0) 20 = .ref (b 74) ∧ TyM (shf 74 b) E (shf 74 M) ∧ RelW (shf 74 M))
theorem KEPT.le {E : Nat → ClassId} {n : Nat} {b : Nat → Nat} {M : Nat → va_E} (h : KEPT E n b M) : 74 ≤ n ∧ n ≤ 148 := by
  rcases h with h | h
  · omega
  · omega
theorem kept_fr {E : Nat → ClassId} {n : Nat} {b : Nat → Nat} {M u : Nat → va_E} {mc : List (Nat × Nat)} {mf : List Nat} (h : KEPT E n b M) (hf : fr mc mf M u) (hd : (mc.all (fun p => Nat.ble p.2 74) && !(mf.contains 20)) = true) : KEPT E n b u := by
  rw [Bool.and_eq_true] at hd
  have e20 : gv (u 0) 20 = gv (M 0) 20 := hf.2 20 (by simpa using hd.2)
  have es : shf 74 u = shf 74 M := by
    funext k
    refine hf.1 (74 + k) ?_ (by omega)
    cases e : inR mc (74 + k) with
    | false => rfl
    | true =>
      unfold inR at e
      rw [List.any_eq_true] at e
      obtain ⟨p, hp, h1⟩ := e
      rw [Bool.and_eq_true, Nat.ble_eq, Nat.blt_eq] at h1
      have h2 := List.all_eq_true.mp hd.1 p hp
      rw [Nat.ble_eq] at h2
      omega
  unfold KEPT
  rw [e20, es]
  exact h
theorem lw_ix {i L : Nat} (hi : i + 8 ≤ L) (hL : L ≤ 4096) {j : Int32} {k : Int} (hj : rg j k k) (hd : decide (0 ≤ k ∧ k < 8) = true) : vp_in (nI i + j) L := by
  have h2 := of_decide_eq_true hd
  have e1 : (nI i).toInt = (i : Int) := nI_toInt (by omega)
  obtain ⟨a1, a2⟩ := hj
  have e2 : (nI i + j).toInt = (i : Int) + j.toInt := by
    rw [Int32.toInt_add, e1]
    exact oh_bmod (by omega) (by omega)
  exact vp_in_iff.mpr ⟨by rw [e2]; omega, by rw [e2]; omega⟩

/-- what is kept agrees -/
def TIEK (n : Nat) (C M : Nat → va_E) : Prop := n = 74 ∨ ∃ (A : LA) (T : TP), absX 17 C A ∧ absM (shf 74 M) A ∧ okA A ∧ absTX 2 23 C T ∧ absTM (shf 74 M) T
theorem TIEK.x {n : Nat} {C u M : Nat → va_E} (h : TIEK n C M) (e : ∀ k, 17 ≤ k → k ≤ 23 → u k = C k) (e2 : u 2 = C 2) : TIEK n u M := by
  rcases h with h | ⟨A, T, h1, h2, h3, h4, h5⟩
  · exact Or.inl h
  · exact Or.inr ⟨A, T, absX_eq h1 (fun k k1 k2 => e k k1 (by omega)), h2, h3, absTX_eq h4 (congrArg (fun z => gi z 7) e2) (e 23 (by decide) (by decide)), h5⟩
theorem shf_fr {M u : Nat → va_E} {mc : List (Nat × Nat)} {mf : List Nat} (hf : fr mc mf M u) (hd : (mc.all (fun p => Nat.ble p.2 74)) = true) : shf 74 u = shf 74 M := by
  funext k
  refine hf.1 (74 + k) ?_ (by omega)
  cases e : inR mc (74 + k) with
  | false => rfl
  | true =>
    unfold inR at e
    rw [List.any_eq_true] at e
    obtain ⟨p, hp, h1⟩ := e
    rw [Bool.and_eq_true, Nat.ble_eq, Nat.blt_eq] at h1
    have h2 := List.all_eq_true.mp hd p hp
    rw [Nat.ble_eq] at h2
    omega
theorem TIEK.m {n : Nat} {C M u : Nat → va_E} {mc : List (Nat × Nat)} {mf : List Nat} (h : TIEK n C M) (hf : fr mc mf M u) (hd : (mc.all (fun p => Nat.ble p.2 74)) = true) : TIEK n C u := by
  unfold TIEK
  rw [shf_fr hf hd]
  exact h
theorem TIEK.k {n : Nat} {C M : Nat → va_E} (h : TIEK n C M) (hn : n ≠ 74) : ∃ (A : LA) (T : TP), absX 17 C A ∧ absM (shf 74 M) A ∧ okA A ∧ absTX 2 23 C T ∧ absTM (shf 74 M) T := by
  rcases h with h | h
  · exact absurd h hn
  · exact h
theorem absX_g1 {C u : Nat → va_E} {A : LA} {mc : List (Nat × Nat)} {mf : List Nat} (x : Nat) (h : absX 10 C A) (hf : fr mc mf C u) (e : ga (u x) = ga (C x)) (hd : ((List.range (15 + 1)).all (fun k => Nat.blt k 10 || Nat.beq k x || (!(inR mc k) && !(Nat.beq k 0)))) = true) : absX 10 u A := by
  refine absX_ga h (fun k k1 k2 => ?_)
  by_cases q : k = x
  · rw [q]
    exact e
  · rw [fr_ex hf 10 15 x hd k k1 (by omega) q]
theorem absM_n {a : Nat → Nat} {E : Nat → ClassId} {C u : Nat → va_E} {A : LA} (h : absM C A) (hT : TyM a E C) (e : ∀ k, k ≠ 0 → k < 74 → u k = C k) (e0 : ∀ i, i ≠ 20 → gv (u 0) i = gv (C 0) i) : absM u A := by
  refine absM_eq h (fun s hs => congrArg vi (e0 _ (by omega))) (e 13 (by decide) (by decide)) (fun s hs i hi => e _ (by have := blk_lo hs; omega) ?_)
  have h1 := (cntM hT s hs).2
  rcases (show s = 0 ∨ s = 1 ∨ s = 2 ∨ s = 3 by omega) with rfl | rfl | rfl | rfl <;> simp only [blk, blkN] at * <;> omega
theorem landR_u {R : Except Int32 (LA × Int32)} {A0 B1 B2 : LA} {r1 r2 : Int32} (h1 : LandR R A0 B1 r1) (h2 : LandR R A0 B2 r2) : r1 = r2 ∧ B1 = B2 := by
  cases R with
  | error e => exact ⟨h1.1.trans h2.1.symm, h1.2.trans h2.2.symm⟩
  | ok y => exact ⟨h1.1.trans h2.1.symm, h1.2.trans h2.2.symm⟩
theorem absX00 (E : Nat → ClassId) (a : Nat → Nat) : absX 10 (cx0 E a) A00 := by
  refine ⟨fun t ht => ?_, fun j hj => ?_, fun t ht i hi => ?_⟩
  · rcases (show t = 0 ∨ t = 1 ∨ t = 2 ∨ t = 3 by omega) with rfl | rfl | rfl | rfl <;> rfl
  · rcases (show j = 0 ∨ j = 1 ∨ j = 2 by omega) with rfl | rfl | rfl <;> rfl
  · have h : (A00 5 0 t).toInt = 0 := rfl
    omega
theorem absM00 (E : Nat → ClassId) (a : Nat → Nat) : absM (cm0 E a) A00 := by
  refine ⟨fun t ht => ?_, fun j hj => ?_, fun t ht i hi => ?_⟩
  · rcases (show t = 0 ∨ t = 1 ∨ t = 2 ∨ t = 3 by omega) with rfl | rfl | rfl | rfl <;> rfl
  · rcases (show j = 0 ∨ j = 1 ∨ j = 2 by omega) with rfl | rfl | rfl <;> rfl
  · have h : (A00 5 0 t).toInt = 0 := rfl
    omega
def T00 : TP := fun _ => 0
theorem absTX00 (E : Nat → ClassId) (a : Nat → Nat) : absTX 1 16 (cx0 E a) T00 := ⟨rfl, rfl, rfl, rfl, rfl, rfl, rfl, rfl⟩
theorem absTM00 (E : Nat → ClassId) (ma : Nat → Nat) : absTM (cm0 E ma) T00 := tm_mk rfl rfl rfl rfl rfl rfl rfl rfl
end
/-! THE CLAIM OUT OF ONE WALK OF THE LAW'S BODY. Your part is whole_start (and what it stands on); all else here is the same for every law, but numbers. -/
def R_law : String := "OneHeavyLoadLaw"
def lw_P (b : Addr) (xs : List Int32) (args : Array Value) (s : State) : Prop := args = #[.ref b] ∧ s.IntsAt b xs ∧ xs.length ≤ 4096 ∧ (Jvm.Cond.and given_1 narrow_1).before args s = true
def lw_Q (_ : Array Value) (s : State) (o : Outcome) (t : State) : Prop := o = .returned (some (.int 1)) ∧ Framed s o t [] 600000 7302250
def lw_Z (below : List Frame) (a : Array Value) (s : State) : State → Prop := fun t => ∃ o, t.status = .running ∧ Ended t below o ∧ lw_Q a s o t
/-- the law's own end, with 1 on the stack, nothing written that was there before, its room as the claim has it -/
theorem lw_ret {p : Program} {l : Launch} {e : Env} {s : State} {m : MethodId} {below : List Frame} {meth : Method} {c : Code} {b : Nat} (hx : p.tables.exec = Jvm.exec) (hb : c.code = code) (hr : meth.sig.returnType = ret) (hlocks : meth.locks = false) {pc : Nat} {H : Heap} {ls : Array Slot} (hdg : decode code pc = .ok (.ireturn, 1)) : W p l e room_1 s m #[Value.ref b] below meth c H [] 600000 7302250 (lw_Z below #[Value.ref b] s) (F0 m pc ls [.int 1]) := by
  intro T hT X
  obtain ⟨fs, hret, hrun, hended, hW, hframe⟩ := X.leave (v := some (.int 1)) (hlocks := hlocks) (fun h => by rw [hr] at h; cases h)
  have hmeth' : T.vm.method? m = some meth := X.method'
  refine ⟨T.setFrames fs, ?_, .returned (some (.int 1)), hrun, hended, rfl, ⟨_, rfl⟩, hW, hframe⟩
  jvm_step X.here [X.here.top, hx, hb, hdg, hmeth', hr, ret, narrow_b1]
  (try refine ⟨rfl, ?_⟩); (try refine ⟨rfl, ?_⟩)
  first | (intro acts; rw [hret _ acts rfl rfl rfl]) | rw [hret _ _ rfl rfl rfl]
  exact Steps.refl _
/-- what holds at the law's entry: the machine, the code, the tables' words (any of lw_tbl by 'hts w (by decide +kernel)'), the script of L ints xs at the cell b, what the Statement gives of the start (any of its parts by flat_of_before) -/
def lw_At (p : Program) (s : State) (m : MethodId) (meth : Method) (c : Code) (b L : Nat) (xs : Nat → Int32) : Prop :=
  p.tables.exec = Jvm.exec ∧ c.code = code ∧ meth.sig.returnType = ret ∧ c.maxLocals = 4 ∧ s.vm.findClass R_law = some m.cls ∧ (∀ w ∈ lw_tbl, w.before #[Value.ref b] s = true) ∧ va_X b L xs s s.heap ∧ b < s.heap.size ∧ meth.locks = false ∧ (Jvm.Cond.and given_1 narrow_1).before #[Value.ref b] s = true
theorem bg_dL_law_220 : bysAt cL_law 220 [43, 42, 29, 4, 96, 46, 42, 29, 5, 96, 46, 42, 29, 6] := bysAt_of (by decide +kernel)
theorem dL_law_220 : decode cL_law 220 = .ok (.aload_n 1, 1) := o_43 (bg_dL_law_220 0 43 rfl)
theorem dL_law_221 : decode cL_law 221 = .ok (.aload_n 0, 1) := o_42 (bg_dL_law_220 1 42 rfl)
theorem dL_law_222 : decode cL_law 222 = .ok (.iload_n 3, 1) := o_29 (bg_dL_law_220 2 29 rfl)
theorem dL_law_223 : decode cL_law 223 = .ok (.iconst 1, 1) := o_4 (bg_dL_law_220 3 4 rfl)
theorem dL_law_224 : decode cL_law 224 = .ok (.iadd, 1) := o_96 (bg_dL_law_220 4 96 rfl)
theorem dL_law_225 : decode cL_law 225 = .ok (.iaload, 1) := o_46 (bg_dL_law_220 5 46 rfl)
theorem dL_law_226 : decode cL_law 226 = .ok (.aload_n 0, 1) := o_42 (bg_dL_law_220 6 42 rfl)
theorem dL_law_227 : decode cL_law 227 = .ok (.iload_n 3, 1) := o_29 (bg_dL_law_220 7 29 rfl)
theorem dL_law_228 : decode cL_law 228 = .ok (.iconst 2, 1) := o_5 (bg_dL_law_220 8 5 rfl)
theorem dL_law_229 : decode cL_law 229 = .ok (.iadd, 1) := o_96 (bg_dL_law_220 9 96 rfl)
theorem dL_law_230 : decode cL_law 230 = .ok (.iaload, 1) := o_46 (bg_dL_law_220 10 46 rfl)
theorem dL_law_231 : decode cL_law 231 = .ok (.aload_n 0, 1) := o_42 (bg_dL_law_220 11 42 rfl)
theorem dL_law_232 : decode cL_law 232 = .ok (.iload_n 3, 1) := o_29 (bg_dL_law_220 12 29 rfl)
theorem dL_law_233 : decode cL_law 233 = .ok (.iconst 3, 1) := o_6 (bg_dL_law_220 13 6 rfl)
theorem bg_dL_law_234 : bysAt cL_law 234 [96, 46, 182, 0, 13, 87, 44, 42, 29, 4, 96, 46, 42, 29, 5, 96] := bysAt_of (by decide +kernel)
theorem dL_law_234 : decode cL_law 234 = .ok (.iadd, 1) := o_96 (bg_dL_law_234 0 96 rfl)
theorem dL_law_235 : decode cL_law 235 = .ok (.iaload, 1) := o_46 (bg_dL_law_234 1 46 rfl)
theorem dL_law_236 : decode cL_law 236 = .ok (.invokevirtual 13, 3) := o_182 (bg_dL_law_234 2 182 rfl) (bg_dL_law_234 3 0 rfl) (bg_dL_law_234 4 13 rfl)
theorem dL_law_239 : decode cL_law 239 = .ok (.pop, 1) := o_87 (bg_dL_law_234 5 87 rfl)
theorem dL_law_240 : decode cL_law 240 = .ok (.aload_n 2, 1) := o_44 (bg_dL_law_234 6 44 rfl)
theorem dL_law_241 : decode cL_law 241 = .ok (.aload_n 0, 1) := o_42 (bg_dL_law_234 7 42 rfl)
theorem dL_law_242 : decode cL_law 242 = .ok (.iload_n 3, 1) := o_29 (bg_dL_law_234 8 29 rfl)
theorem dL_law_243 : decode cL_law 243 = .ok (.iconst 1, 1) := o_4 (bg_dL_law_234 9 4 rfl)
theorem dL_law_244 : decode cL_law 244 = .ok (.iadd, 1) := o_96 (bg_dL_law_234 10 96 rfl)
theorem dL_law_245 : decode cL_law 245 = .ok (.iaload, 1) := o_46 (bg_dL_law_234 11 46 rfl)
theorem dL_law_246 : decode cL_law 246 = .ok (.aload_n 0, 1) := o_42 (bg_dL_law_234 12 42 rfl)
theorem dL_law_247 : decode cL_law 247 = .ok (.iload_n 3, 1) := o_29 (bg_dL_law_234 13 29 rfl)
theorem dL_law_248 : decode cL_law 248 = .ok (.iconst 2, 1) := o_5 (bg_dL_law_234 14 5 rfl)
theorem dL_law_249 : decode cL_law 249 = .ok (.iadd, 1) := o_96 (bg_dL_law_234 15 96 rfl)
theorem bg_dL_law_250 : bysAt cL_law 250 [46, 42, 29, 6, 96, 46, 182, 0, 17, 87, 167, 6, 249, 43, 42, 29, 4, 96] := bysAt_of (by decide +kernel)
theorem dL_law_250 : decode cL_law 250 = .ok (.iaload, 1) := o_46 (bg_dL_law_250 0 46 rfl)
theorem dL_law_251 : decode cL_law 251 = .ok (.aload_n 0, 1) := o_42 (bg_dL_law_250 1 42 rfl)
theorem dL_law_252 : decode cL_law 252 = .ok (.iload_n 3, 1) := o_29 (bg_dL_law_250 2 29 rfl)
theorem dL_law_253 : decode cL_law 253 = .ok (.iconst 3, 1) := o_6 (bg_dL_law_250 3 6 rfl)
theorem dL_law_254 : decode cL_law 254 = .ok (.iadd, 1) := o_96 (bg_dL_law_250 4 96 rfl)
theorem dL_law_255 : decode cL_law 255 = .ok (.iaload, 1) := o_46 (bg_dL_law_250 5 46 rfl)
theorem dL_law_256 : decode cL_law 256 = .ok (.invokevirtual 17, 3) := o_182 (bg_dL_law_250 6 182 rfl) (bg_dL_law_250 7 0 rfl) (bg_dL_law_250 8 17 rfl)
theorem dL_law_259 : decode cL_law 259 = .ok (.pop, 1) := o_87 (bg_dL_law_250 9 87 rfl)
theorem dL_law_260 : decode cL_law 260 = .ok (.goto 1785, 3) := o_167 (bg_dL_law_250 10 167 rfl) (bg_dL_law_250 11 6 rfl) (bg_dL_law_250 12 249 rfl) (by decide +kernel)
theorem dL_law_263 : decode cL_law 263 = .ok (.aload_n 1, 1) := o_43 (bg_dL_law_250 13 43 rfl)
theorem dL_law_264 : decode cL_law 264 = .ok (.aload_n 0, 1) := o_42 (bg_dL_law_250 14 42 rfl)
theorem dL_law_265 : decode cL_law 265 = .ok (.iload_n 3, 1) := o_29 (bg_dL_law_250 15 29 rfl)
theorem dL_law_266 : decode cL_law 266 = .ok (.iconst 1, 1) := o_4 (bg_dL_law_250 16 4 rfl)
theorem dL_law_267 : decode cL_law 267 = .ok (.iadd, 1) := o_96 (bg_dL_law_250 17 96 rfl)
theorem bg_dL_law_268 : bysAt cL_law 268 [46, 42, 29, 5, 96, 46, 42, 29, 6, 96, 46, 133, 16, 32, 121] := bysAt_of (by decide +kernel)
theorem dL_law_268 : decode cL_law 268 = .ok (.iaload, 1) := o_46 (bg_dL_law_268 0 46 rfl)
theorem dL_law_269 : decode cL_law 269 = .ok (.aload_n 0, 1) := o_42 (bg_dL_law_268 1 42 rfl)
theorem dL_law_270 : decode cL_law 270 = .ok (.iload_n 3, 1) := o_29 (bg_dL_law_268 2 29 rfl)
theorem dL_law_271 : decode cL_law 271 = .ok (.iconst 2, 1) := o_5 (bg_dL_law_268 3 5 rfl)
theorem dL_law_272 : decode cL_law 272 = .ok (.iadd, 1) := o_96 (bg_dL_law_268 4 96 rfl)
theorem dL_law_273 : decode cL_law 273 = .ok (.iaload, 1) := o_46 (bg_dL_law_268 5 46 rfl)
theorem dL_law_274 : decode cL_law 274 = .ok (.aload_n 0, 1) := o_42 (bg_dL_law_268 6 42 rfl)
theorem dL_law_275 : decode cL_law 275 = .ok (.iload_n 3, 1) := o_29 (bg_dL_law_268 7 29 rfl)
theorem dL_law_276 : decode cL_law 276 = .ok (.iconst 3, 1) := o_6 (bg_dL_law_268 8 6 rfl)
theorem dL_law_277 : decode cL_law 277 = .ok (.iadd, 1) := o_96 (bg_dL_law_268 9 96 rfl)
theorem dL_law_278 : decode cL_law 278 = .ok (.iaload, 1) := o_46 (bg_dL_law_268 10 46 rfl)
theorem dL_law_279 : decode cL_law 279 = .ok (.i2l, 1) := o_133 (bg_dL_law_268 11 133 rfl)
theorem dL_law_280 : decode cL_law 280 = .ok (.bipush 32, 2) := o_16 (bg_dL_law_268 12 16 rfl) (bg_dL_law_268 13 32 rfl) (by decide +kernel)
theorem dL_law_282 : decode cL_law 282 = .ok (.lshl, 1) := o_121 (bg_dL_law_268 14 121 rfl)
theorem bg_dL_law_283 : bysAt cL_law 283 [42, 29, 7, 96, 46, 133, 20, 0, 18, 127, 129, 182, 0, 20, 87, 44, 42, 29] := bysAt_of (by decide +kernel)
theorem dL_law_283 : decode cL_law 283 = .ok (.aload_n 0, 1) := o_42 (bg_dL_law_283 0 42 rfl)
theorem dL_law_284 : decode cL_law 284 = .ok (.iload_n 3, 1) := o_29 (bg_dL_law_283 1 29 rfl)
theorem dL_law_285 : decode cL_law 285 = .ok (.iconst 4, 1) := o_7 (bg_dL_law_283 2 7 rfl)
theorem dL_law_286 : decode cL_law 286 = .ok (.iadd, 1) := o_96 (bg_dL_law_283 3 96 rfl)
theorem dL_law_287 : decode cL_law 287 = .ok (.iaload, 1) := o_46 (bg_dL_law_283 4 46 rfl)
theorem dL_law_288 : decode cL_law 288 = .ok (.i2l, 1) := o_133 (bg_dL_law_283 5 133 rfl)
theorem dL_law_289 : decode cL_law 289 = .ok (.ldc2_w 18, 3) := o_20 (bg_dL_law_283 6 20 rfl) (bg_dL_law_283 7 0 rfl) (bg_dL_law_283 8 18 rfl)
theorem dL_law_292 : decode cL_law 292 = .ok (.land, 1) := o_127 (bg_dL_law_283 9 127 rfl)
theorem dL_law_293 : decode cL_law 293 = .ok (.lor, 1) := o_129 (bg_dL_law_283 10 129 rfl)
theorem dL_law_294 : decode cL_law 294 = .ok (.invokevirtual 20, 3) := o_182 (bg_dL_law_283 11 182 rfl) (bg_dL_law_283 12 0 rfl) (bg_dL_law_283 13 20 rfl)
theorem dL_law_297 : decode cL_law 297 = .ok (.pop, 1) := o_87 (bg_dL_law_283 14 87 rfl)
theorem dL_law_298 : decode cL_law 298 = .ok (.aload_n 2, 1) := o_44 (bg_dL_law_283 15 44 rfl)
theorem dL_law_299 : decode cL_law 299 = .ok (.aload_n 0, 1) := o_42 (bg_dL_law_283 16 42 rfl)
theorem dL_law_300 : decode cL_law 300 = .ok (.iload_n 3, 1) := o_29 (bg_dL_law_283 17 29 rfl)
theorem bg_dL_law_301 : bysAt cL_law 301 [4, 96, 46, 42, 29, 5, 96, 46, 42, 29, 6, 96, 46, 133] := bysAt_of (by decide +kernel)
theorem dL_law_301 : decode cL_law 301 = .ok (.iconst 1, 1) := o_4 (bg_dL_law_301 0 4 rfl)
theorem dL_law_302 : decode cL_law 302 = .ok (.iadd, 1) := o_96 (bg_dL_law_301 1 96 rfl)
theorem dL_law_303 : decode cL_law 303 = .ok (.iaload, 1) := o_46 (bg_dL_law_301 2 46 rfl)
theorem dL_law_304 : decode cL_law 304 = .ok (.aload_n 0, 1) := o_42 (bg_dL_law_301 3 42 rfl)
theorem dL_law_305 : decode cL_law 305 = .ok (.iload_n 3, 1) := o_29 (bg_dL_law_301 4 29 rfl)
theorem dL_law_306 : decode cL_law 306 = .ok (.iconst 2, 1) := o_5 (bg_dL_law_301 5 5 rfl)
theorem dL_law_307 : decode cL_law 307 = .ok (.iadd, 1) := o_96 (bg_dL_law_301 6 96 rfl)
theorem dL_law_308 : decode cL_law 308 = .ok (.iaload, 1) := o_46 (bg_dL_law_301 7 46 rfl)
theorem dL_law_309 : decode cL_law 309 = .ok (.aload_n 0, 1) := o_42 (bg_dL_law_301 8 42 rfl)
theorem dL_law_310 : decode cL_law 310 = .ok (.iload_n 3, 1) := o_29 (bg_dL_law_301 9 29 rfl)
theorem dL_law_311 : decode cL_law 311 = .ok (.iconst 3, 1) := o_6 (bg_dL_law_301 10 6 rfl)
theorem dL_law_312 : decode cL_law 312 = .ok (.iadd, 1) := o_96 (bg_dL_law_301 11 96 rfl)
theorem dL_law_313 : decode cL_law 313 = .ok (.iaload, 1) := o_46 (bg_dL_law_301 12 46 rfl)
theorem dL_law_314 : decode cL_law 314 = .ok (.i2l, 1) := o_133 (bg_dL_law_301 13 133 rfl)
theorem bg_dL_law_315 : bysAt cL_law 315 [16, 32, 121, 42, 29, 7, 96, 46, 133, 20, 0, 18, 127, 129, 182, 0, 24, 87, 167, 6, 176] := bysAt_of (by decide +kernel)
theorem dL_law_315 : decode cL_law 315 = .ok (.bipush 32, 2) := o_16 (bg_dL_law_315 0 16 rfl) (bg_dL_law_315 1 32 rfl) (by decide +kernel)
theorem dL_law_317 : decode cL_law 317 = .ok (.lshl, 1) := o_121 (bg_dL_law_315 2 121 rfl)
theorem dL_law_318 : decode cL_law 318 = .ok (.aload_n 0, 1) := o_42 (bg_dL_law_315 3 42 rfl)
theorem dL_law_319 : decode cL_law 319 = .ok (.iload_n 3, 1) := o_29 (bg_dL_law_315 4 29 rfl)
theorem dL_law_320 : decode cL_law 320 = .ok (.iconst 4, 1) := o_7 (bg_dL_law_315 5 7 rfl)
theorem dL_law_321 : decode cL_law 321 = .ok (.iadd, 1) := o_96 (bg_dL_law_315 6 96 rfl)
theorem dL_law_322 : decode cL_law 322 = .ok (.iaload, 1) := o_46 (bg_dL_law_315 7 46 rfl)
theorem dL_law_323 : decode cL_law 323 = .ok (.i2l, 1) := o_133 (bg_dL_law_315 8 133 rfl)
theorem dL_law_324 : decode cL_law 324 = .ok (.ldc2_w 18, 3) := o_20 (bg_dL_law_315 9 20 rfl) (bg_dL_law_315 10 0 rfl) (bg_dL_law_315 11 18 rfl)
theorem dL_law_327 : decode cL_law 327 = .ok (.land, 1) := o_127 (bg_dL_law_315 12 127 rfl)
theorem dL_law_328 : decode cL_law 328 = .ok (.lor, 1) := o_129 (bg_dL_law_315 13 129 rfl)
theorem dL_law_329 : decode cL_law 329 = .ok (.invokevirtual 24, 3) := o_182 (bg_dL_law_315 14 182 rfl) (bg_dL_law_315 15 0 rfl) (bg_dL_law_315 16 24 rfl)
theorem dL_law_332 : decode cL_law 332 = .ok (.pop, 1) := o_87 (bg_dL_law_315 17 87 rfl)
theorem dL_law_333 : decode cL_law 333 = .ok (.goto 1712, 3) := o_167 (bg_dL_law_315 18 167 rfl) (bg_dL_law_315 19 6 rfl) (bg_dL_law_315 20 176 rfl) (by decide +kernel)
theorem bg_dL_law_336 : bysAt cL_law 336 [43, 42, 29, 4, 96, 46, 42, 29, 5, 96, 46, 42, 29, 6] := bysAt_of (by decide +kernel)
theorem dL_law_336 : decode cL_law 336 = .ok (.aload_n 1, 1) := o_43 (bg_dL_law_336 0 43 rfl)
theorem dL_law_337 : decode cL_law 337 = .ok (.aload_n 0, 1) := o_42 (bg_dL_law_336 1 42 rfl)
theorem dL_law_338 : decode cL_law 338 = .ok (.iload_n 3, 1) := o_29 (bg_dL_law_336 2 29 rfl)
theorem dL_law_339 : decode cL_law 339 = .ok (.iconst 1, 1) := o_4 (bg_dL_law_336 3 4 rfl)
theorem dL_law_340 : decode cL_law 340 = .ok (.iadd, 1) := o_96 (bg_dL_law_336 4 96 rfl)
theorem dL_law_341 : decode cL_law 341 = .ok (.iaload, 1) := o_46 (bg_dL_law_336 5 46 rfl)
theorem dL_law_342 : decode cL_law 342 = .ok (.aload_n 0, 1) := o_42 (bg_dL_law_336 6 42 rfl)
theorem dL_law_343 : decode cL_law 343 = .ok (.iload_n 3, 1) := o_29 (bg_dL_law_336 7 29 rfl)
theorem dL_law_344 : decode cL_law 344 = .ok (.iconst 2, 1) := o_5 (bg_dL_law_336 8 5 rfl)
theorem dL_law_345 : decode cL_law 345 = .ok (.iadd, 1) := o_96 (bg_dL_law_336 9 96 rfl)
theorem dL_law_346 : decode cL_law 346 = .ok (.iaload, 1) := o_46 (bg_dL_law_336 10 46 rfl)
theorem dL_law_347 : decode cL_law 347 = .ok (.aload_n 0, 1) := o_42 (bg_dL_law_336 11 42 rfl)
theorem dL_law_348 : decode cL_law 348 = .ok (.iload_n 3, 1) := o_29 (bg_dL_law_336 12 29 rfl)
theorem dL_law_349 : decode cL_law 349 = .ok (.iconst 3, 1) := o_6 (bg_dL_law_336 13 6 rfl)
theorem bg_dL_law_350 : bysAt cL_law 350 [96, 46, 42, 29, 7, 96, 46, 42, 29, 8, 96, 46, 182, 0, 25, 87] := bysAt_of (by decide +kernel)
theorem dL_law_350 : decode cL_law 350 = .ok (.iadd, 1) := o_96 (bg_dL_law_350 0 96 rfl)
theorem dL_law_351 : decode cL_law 351 = .ok (.iaload, 1) := o_46 (bg_dL_law_350 1 46 rfl)
theorem dL_law_352 : decode cL_law 352 = .ok (.aload_n 0, 1) := o_42 (bg_dL_law_350 2 42 rfl)
theorem dL_law_353 : decode cL_law 353 = .ok (.iload_n 3, 1) := o_29 (bg_dL_law_350 3 29 rfl)
theorem dL_law_354 : decode cL_law 354 = .ok (.iconst 4, 1) := o_7 (bg_dL_law_350 4 7 rfl)
theorem dL_law_355 : decode cL_law 355 = .ok (.iadd, 1) := o_96 (bg_dL_law_350 5 96 rfl)
theorem dL_law_356 : decode cL_law 356 = .ok (.iaload, 1) := o_46 (bg_dL_law_350 6 46 rfl)
theorem dL_law_357 : decode cL_law 357 = .ok (.aload_n 0, 1) := o_42 (bg_dL_law_350 7 42 rfl)
theorem dL_law_358 : decode cL_law 358 = .ok (.iload_n 3, 1) := o_29 (bg_dL_law_350 8 29 rfl)
theorem dL_law_359 : decode cL_law 359 = .ok (.iconst 5, 1) := o_8 (bg_dL_law_350 9 8 rfl)
theorem dL_law_360 : decode cL_law 360 = .ok (.iadd, 1) := o_96 (bg_dL_law_350 10 96 rfl)
theorem dL_law_361 : decode cL_law 361 = .ok (.iaload, 1) := o_46 (bg_dL_law_350 11 46 rfl)
theorem dL_law_362 : decode cL_law 362 = .ok (.invokevirtual 25, 3) := o_182 (bg_dL_law_350 12 182 rfl) (bg_dL_law_350 13 0 rfl) (bg_dL_law_350 14 25 rfl)
theorem dL_law_365 : decode cL_law 365 = .ok (.pop, 1) := o_87 (bg_dL_law_350 15 87 rfl)
theorem bg_dL_law_366 : bysAt cL_law 366 [44, 42, 29, 4, 96, 46, 42, 29, 5, 96, 46, 42, 29, 6] := bysAt_of (by decide +kernel)
theorem dL_law_366 : decode cL_law 366 = .ok (.aload_n 2, 1) := o_44 (bg_dL_law_366 0 44 rfl)
theorem dL_law_367 : decode cL_law 367 = .ok (.aload_n 0, 1) := o_42 (bg_dL_law_366 1 42 rfl)
theorem dL_law_368 : decode cL_law 368 = .ok (.iload_n 3, 1) := o_29 (bg_dL_law_366 2 29 rfl)
theorem dL_law_369 : decode cL_law 369 = .ok (.iconst 1, 1) := o_4 (bg_dL_law_366 3 4 rfl)
theorem dL_law_370 : decode cL_law 370 = .ok (.iadd, 1) := o_96 (bg_dL_law_366 4 96 rfl)
theorem dL_law_371 : decode cL_law 371 = .ok (.iaload, 1) := o_46 (bg_dL_law_366 5 46 rfl)
theorem dL_law_372 : decode cL_law 372 = .ok (.aload_n 0, 1) := o_42 (bg_dL_law_366 6 42 rfl)
theorem dL_law_373 : decode cL_law 373 = .ok (.iload_n 3, 1) := o_29 (bg_dL_law_366 7 29 rfl)
theorem dL_law_374 : decode cL_law 374 = .ok (.iconst 2, 1) := o_5 (bg_dL_law_366 8 5 rfl)
theorem dL_law_375 : decode cL_law 375 = .ok (.iadd, 1) := o_96 (bg_dL_law_366 9 96 rfl)
theorem dL_law_376 : decode cL_law 376 = .ok (.iaload, 1) := o_46 (bg_dL_law_366 10 46 rfl)
theorem dL_law_377 : decode cL_law 377 = .ok (.aload_n 0, 1) := o_42 (bg_dL_law_366 11 42 rfl)
theorem dL_law_378 : decode cL_law 378 = .ok (.iload_n 3, 1) := o_29 (bg_dL_law_366 12 29 rfl)
theorem dL_law_379 : decode cL_law 379 = .ok (.iconst 3, 1) := o_6 (bg_dL_law_366 13 6 rfl)
theorem bg_dL_law_380 : bysAt cL_law 380 [96, 46, 42, 29, 7, 96, 46, 42, 29, 8, 96, 46, 182, 0, 29, 87] := bysAt_of (by decide +kernel)
theorem dL_law_380 : decode cL_law 380 = .ok (.iadd, 1) := o_96 (bg_dL_law_380 0 96 rfl)
theorem dL_law_381 : decode cL_law 381 = .ok (.iaload, 1) := o_46 (bg_dL_law_380 1 46 rfl)
theorem dL_law_382 : decode cL_law 382 = .ok (.aload_n 0, 1) := o_42 (bg_dL_law_380 2 42 rfl)
theorem dL_law_383 : decode cL_law 383 = .ok (.iload_n 3, 1) := o_29 (bg_dL_law_380 3 29 rfl)
theorem dL_law_384 : decode cL_law 384 = .ok (.iconst 4, 1) := o_7 (bg_dL_law_380 4 7 rfl)
theorem dL_law_385 : decode cL_law 385 = .ok (.iadd, 1) := o_96 (bg_dL_law_380 5 96 rfl)
theorem dL_law_386 : decode cL_law 386 = .ok (.iaload, 1) := o_46 (bg_dL_law_380 6 46 rfl)
theorem dL_law_387 : decode cL_law 387 = .ok (.aload_n 0, 1) := o_42 (bg_dL_law_380 7 42 rfl)
theorem dL_law_388 : decode cL_law 388 = .ok (.iload_n 3, 1) := o_29 (bg_dL_law_380 8 29 rfl)
theorem dL_law_389 : decode cL_law 389 = .ok (.iconst 5, 1) := o_8 (bg_dL_law_380 9 8 rfl)
theorem dL_law_390 : decode cL_law 390 = .ok (.iadd, 1) := o_96 (bg_dL_law_380 10 96 rfl)
theorem dL_law_391 : decode cL_law 391 = .ok (.iaload, 1) := o_46 (bg_dL_law_380 11 46 rfl)
theorem dL_law_392 : decode cL_law 392 = .ok (.invokevirtual 29, 3) := o_182 (bg_dL_law_380 12 182 rfl) (bg_dL_law_380 13 0 rfl) (bg_dL_law_380 14 29 rfl)
theorem dL_law_395 : decode cL_law 395 = .ok (.pop, 1) := o_87 (bg_dL_law_380 15 87 rfl)
theorem bg_dL_law_396 : bysAt cL_law 396 [167, 6, 113, 43, 42, 29, 4, 96, 46, 42, 29, 5, 96, 46, 182, 0, 30, 88] := bysAt_of (by decide +kernel)
theorem dL_law_396 : decode cL_law 396 = .ok (.goto 1649, 3) := o_167 (bg_dL_law_396 0 167 rfl) (bg_dL_law_396 1 6 rfl) (bg_dL_law_396 2 113 rfl) (by decide +kernel)
theorem dL_law_399 : decode cL_law 399 = .ok (.aload_n 1, 1) := o_43 (bg_dL_law_396 3 43 rfl)
theorem dL_law_400 : decode cL_law 400 = .ok (.aload_n 0, 1) := o_42 (bg_dL_law_396 4 42 rfl)
theorem dL_law_401 : decode cL_law 401 = .ok (.iload_n 3, 1) := o_29 (bg_dL_law_396 5 29 rfl)
theorem dL_law_402 : decode cL_law 402 = .ok (.iconst 1, 1) := o_4 (bg_dL_law_396 6 4 rfl)
theorem dL_law_403 : decode cL_law 403 = .ok (.iadd, 1) := o_96 (bg_dL_law_396 7 96 rfl)
theorem dL_law_404 : decode cL_law 404 = .ok (.iaload, 1) := o_46 (bg_dL_law_396 8 46 rfl)
theorem dL_law_405 : decode cL_law 405 = .ok (.aload_n 0, 1) := o_42 (bg_dL_law_396 9 42 rfl)
theorem dL_law_406 : decode cL_law 406 = .ok (.iload_n 3, 1) := o_29 (bg_dL_law_396 10 29 rfl)
theorem dL_law_407 : decode cL_law 407 = .ok (.iconst 2, 1) := o_5 (bg_dL_law_396 11 5 rfl)
theorem dL_law_408 : decode cL_law 408 = .ok (.iadd, 1) := o_96 (bg_dL_law_396 12 96 rfl)
theorem dL_law_409 : decode cL_law 409 = .ok (.iaload, 1) := o_46 (bg_dL_law_396 13 46 rfl)
theorem dL_law_410 : decode cL_law 410 = .ok (.invokevirtual 30, 3) := o_182 (bg_dL_law_396 14 182 rfl) (bg_dL_law_396 15 0 rfl) (bg_dL_law_396 16 30 rfl)
theorem dL_law_413 : decode cL_law 413 = .ok (.pop2, 1) := o_88 (bg_dL_law_396 17 88 rfl)
theorem bg_dL_law_414 : bysAt cL_law 414 [44, 42, 29, 4, 96, 46, 42, 29, 5, 96, 46, 182, 0, 34, 88, 167, 6, 80] := bysAt_of (by decide +kernel)
theorem dL_law_414 : decode cL_law 414 = .ok (.aload_n 2, 1) := o_44 (bg_dL_law_414 0 44 rfl)
theorem dL_law_415 : decode cL_law 415 = .ok (.aload_n 0, 1) := o_42 (bg_dL_law_414 1 42 rfl)
theorem dL_law_416 : decode cL_law 416 = .ok (.iload_n 3, 1) := o_29 (bg_dL_law_414 2 29 rfl)
theorem dL_law_417 : decode cL_law 417 = .ok (.iconst 1, 1) := o_4 (bg_dL_law_414 3 4 rfl)
theorem dL_law_418 : decode cL_law 418 = .ok (.iadd, 1) := o_96 (bg_dL_law_414 4 96 rfl)
theorem dL_law_419 : decode cL_law 419 = .ok (.iaload, 1) := o_46 (bg_dL_law_414 5 46 rfl)
theorem dL_law_420 : decode cL_law 420 = .ok (.aload_n 0, 1) := o_42 (bg_dL_law_414 6 42 rfl)
theorem dL_law_421 : decode cL_law 421 = .ok (.iload_n 3, 1) := o_29 (bg_dL_law_414 7 29 rfl)
theorem dL_law_422 : decode cL_law 422 = .ok (.iconst 2, 1) := o_5 (bg_dL_law_414 8 5 rfl)
theorem dL_law_423 : decode cL_law 423 = .ok (.iadd, 1) := o_96 (bg_dL_law_414 9 96 rfl)
theorem dL_law_424 : decode cL_law 424 = .ok (.iaload, 1) := o_46 (bg_dL_law_414 10 46 rfl)
theorem dL_law_425 : decode cL_law 425 = .ok (.invokevirtual 34, 3) := o_182 (bg_dL_law_414 11 182 rfl) (bg_dL_law_414 12 0 rfl) (bg_dL_law_414 13 34 rfl)
theorem dL_law_428 : decode cL_law 428 = .ok (.pop2, 1) := o_88 (bg_dL_law_414 14 88 rfl)
theorem dL_law_429 : decode cL_law 429 = .ok (.goto 1616, 3) := o_167 (bg_dL_law_414 15 167 rfl) (bg_dL_law_414 16 6 rfl) (bg_dL_law_414 17 80 rfl) (by decide +kernel)
theorem bg_dL_law_432 : bysAt cL_law 432 [43, 42, 29, 4, 96, 46, 182, 0, 35, 87, 44, 42, 29, 4, 96, 46] := bysAt_of (by decide +kernel)
theorem dL_law_432 : decode cL_law 432 = .ok (.aload_n 1, 1) := o_43 (bg_dL_law_432 0 43 rfl)
theorem dL_law_433 : decode cL_law 433 = .ok (.aload_n 0, 1) := o_42 (bg_dL_law_432 1 42 rfl)
theorem dL_law_434 : decode cL_law 434 = .ok (.iload_n 3, 1) := o_29 (bg_dL_law_432 2 29 rfl)
theorem dL_law_435 : decode cL_law 435 = .ok (.iconst 1, 1) := o_4 (bg_dL_law_432 3 4 rfl)
theorem dL_law_436 : decode cL_law 436 = .ok (.iadd, 1) := o_96 (bg_dL_law_432 4 96 rfl)
theorem dL_law_437 : decode cL_law 437 = .ok (.iaload, 1) := o_46 (bg_dL_law_432 5 46 rfl)
theorem dL_law_438 : decode cL_law 438 = .ok (.invokevirtual 35, 3) := o_182 (bg_dL_law_432 6 182 rfl) (bg_dL_law_432 7 0 rfl) (bg_dL_law_432 8 35 rfl)
theorem dL_law_441 : decode cL_law 441 = .ok (.pop, 1) := o_87 (bg_dL_law_432 9 87 rfl)
theorem dL_law_442 : decode cL_law 442 = .ok (.aload_n 2, 1) := o_44 (bg_dL_law_432 10 44 rfl)
theorem dL_law_443 : decode cL_law 443 = .ok (.aload_n 0, 1) := o_42 (bg_dL_law_432 11 42 rfl)
theorem dL_law_444 : decode cL_law 444 = .ok (.iload_n 3, 1) := o_29 (bg_dL_law_432 12 29 rfl)
theorem dL_law_445 : decode cL_law 445 = .ok (.iconst 1, 1) := o_4 (bg_dL_law_432 13 4 rfl)
theorem dL_law_446 : decode cL_law 446 = .ok (.iadd, 1) := o_96 (bg_dL_law_432 14 96 rfl)
theorem dL_law_447 : decode cL_law 447 = .ok (.iaload, 1) := o_46 (bg_dL_law_432 15 46 rfl)
theorem bg_dL_law_448 : bysAt cL_law 448 [182, 0, 39, 87, 167, 6, 57, 43, 42, 29, 4, 96, 46, 42, 29, 5, 96, 46] := bysAt_of (by decide +kernel)
theorem dL_law_448 : decode cL_law 448 = .ok (.invokevirtual 39, 3) := o_182 (bg_dL_law_448 0 182 rfl) (bg_dL_law_448 1 0 rfl) (bg_dL_law_448 2 39 rfl)
theorem dL_law_451 : decode cL_law 451 = .ok (.pop, 1) := o_87 (bg_dL_law_448 3 87 rfl)
theorem dL_law_452 : decode cL_law 452 = .ok (.goto 1593, 3) := o_167 (bg_dL_law_448 4 167 rfl) (bg_dL_law_448 5 6 rfl) (bg_dL_law_448 6 57 rfl) (by decide +kernel)
theorem dL_law_455 : decode cL_law 455 = .ok (.aload_n 1, 1) := o_43 (bg_dL_law_448 7 43 rfl)
theorem dL_law_456 : decode cL_law 456 = .ok (.aload_n 0, 1) := o_42 (bg_dL_law_448 8 42 rfl)
theorem dL_law_457 : decode cL_law 457 = .ok (.iload_n 3, 1) := o_29 (bg_dL_law_448 9 29 rfl)
theorem dL_law_458 : decode cL_law 458 = .ok (.iconst 1, 1) := o_4 (bg_dL_law_448 10 4 rfl)
theorem dL_law_459 : decode cL_law 459 = .ok (.iadd, 1) := o_96 (bg_dL_law_448 11 96 rfl)
theorem dL_law_460 : decode cL_law 460 = .ok (.iaload, 1) := o_46 (bg_dL_law_448 12 46 rfl)
theorem dL_law_461 : decode cL_law 461 = .ok (.aload_n 0, 1) := o_42 (bg_dL_law_448 13 42 rfl)
theorem dL_law_462 : decode cL_law 462 = .ok (.iload_n 3, 1) := o_29 (bg_dL_law_448 14 29 rfl)
theorem dL_law_463 : decode cL_law 463 = .ok (.iconst 2, 1) := o_5 (bg_dL_law_448 15 5 rfl)
theorem dL_law_464 : decode cL_law 464 = .ok (.iadd, 1) := o_96 (bg_dL_law_448 16 96 rfl)
theorem dL_law_465 : decode cL_law 465 = .ok (.iaload, 1) := o_46 (bg_dL_law_448 17 46 rfl)
theorem bg_dL_law_466 : bysAt cL_law 466 [182, 0, 40, 87, 44, 42, 29, 4, 96, 46, 42, 29, 5, 96, 46, 182, 0, 44] := bysAt_of (by decide +kernel)
theorem dL_law_466 : decode cL_law 466 = .ok (.invokevirtual 40, 3) := o_182 (bg_dL_law_466 0 182 rfl) (bg_dL_law_466 1 0 rfl) (bg_dL_law_466 2 40 rfl)
theorem dL_law_469 : decode cL_law 469 = .ok (.pop, 1) := o_87 (bg_dL_law_466 3 87 rfl)
theorem dL_law_470 : decode cL_law 470 = .ok (.aload_n 2, 1) := o_44 (bg_dL_law_466 4 44 rfl)
theorem dL_law_471 : decode cL_law 471 = .ok (.aload_n 0, 1) := o_42 (bg_dL_law_466 5 42 rfl)
theorem dL_law_472 : decode cL_law 472 = .ok (.iload_n 3, 1) := o_29 (bg_dL_law_466 6 29 rfl)
theorem dL_law_473 : decode cL_law 473 = .ok (.iconst 1, 1) := o_4 (bg_dL_law_466 7 4 rfl)
theorem dL_law_474 : decode cL_law 474 = .ok (.iadd, 1) := o_96 (bg_dL_law_466 8 96 rfl)
theorem dL_law_475 : decode cL_law 475 = .ok (.iaload, 1) := o_46 (bg_dL_law_466 9 46 rfl)
theorem dL_law_476 : decode cL_law 476 = .ok (.aload_n 0, 1) := o_42 (bg_dL_law_466 10 42 rfl)
theorem dL_law_477 : decode cL_law 477 = .ok (.iload_n 3, 1) := o_29 (bg_dL_law_466 11 29 rfl)
theorem dL_law_478 : decode cL_law 478 = .ok (.iconst 2, 1) := o_5 (bg_dL_law_466 12 5 rfl)
theorem dL_law_479 : decode cL_law 479 = .ok (.iadd, 1) := o_96 (bg_dL_law_466 13 96 rfl)
theorem dL_law_480 : decode cL_law 480 = .ok (.iaload, 1) := o_46 (bg_dL_law_466 14 46 rfl)
theorem dL_law_481 : decode cL_law 481 = .ok (.invokevirtual 44, 3) := o_182 (bg_dL_law_466 15 182 rfl) (bg_dL_law_466 16 0 rfl) (bg_dL_law_466 17 44 rfl)
theorem bg_dL_law_484 : bysAt cL_law 484 [87, 167, 6, 24, 43, 42, 29, 4, 96, 46, 42, 29, 5, 96, 46, 182, 0, 45] := bysAt_of (by decide +kernel)
theorem dL_law_484 : decode cL_law 484 = .ok (.pop, 1) := o_87 (bg_dL_law_484 0 87 rfl)
theorem dL_law_485 : decode cL_law 485 = .ok (.goto 1560, 3) := o_167 (bg_dL_law_484 1 167 rfl) (bg_dL_law_484 2 6 rfl) (bg_dL_law_484 3 24 rfl) (by decide +kernel)
theorem dL_law_488 : decode cL_law 488 = .ok (.aload_n 1, 1) := o_43 (bg_dL_law_484 4 43 rfl)
theorem dL_law_489 : decode cL_law 489 = .ok (.aload_n 0, 1) := o_42 (bg_dL_law_484 5 42 rfl)
theorem dL_law_490 : decode cL_law 490 = .ok (.iload_n 3, 1) := o_29 (bg_dL_law_484 6 29 rfl)
theorem dL_law_491 : decode cL_law 491 = .ok (.iconst 1, 1) := o_4 (bg_dL_law_484 7 4 rfl)
theorem dL_law_492 : decode cL_law 492 = .ok (.iadd, 1) := o_96 (bg_dL_law_484 8 96 rfl)
theorem dL_law_493 : decode cL_law 493 = .ok (.iaload, 1) := o_46 (bg_dL_law_484 9 46 rfl)
theorem dL_law_494 : decode cL_law 494 = .ok (.aload_n 0, 1) := o_42 (bg_dL_law_484 10 42 rfl)
theorem dL_law_495 : decode cL_law 495 = .ok (.iload_n 3, 1) := o_29 (bg_dL_law_484 11 29 rfl)
theorem dL_law_496 : decode cL_law 496 = .ok (.iconst 2, 1) := o_5 (bg_dL_law_484 12 5 rfl)
theorem dL_law_497 : decode cL_law 497 = .ok (.iadd, 1) := o_96 (bg_dL_law_484 13 96 rfl)
theorem dL_law_498 : decode cL_law 498 = .ok (.iaload, 1) := o_46 (bg_dL_law_484 14 46 rfl)
theorem dL_law_499 : decode cL_law 499 = .ok (.invokevirtual 45, 3) := o_182 (bg_dL_law_484 15 182 rfl) (bg_dL_law_484 16 0 rfl) (bg_dL_law_484 17 45 rfl)
theorem bg_dL_law_502 : bysAt cL_law 502 [87, 44, 42, 29, 4, 96, 46, 42, 29, 5, 96, 46, 182, 0, 48, 87] := bysAt_of (by decide +kernel)
theorem dL_law_502 : decode cL_law 502 = .ok (.pop, 1) := o_87 (bg_dL_law_502 0 87 rfl)
theorem dL_law_503 : decode cL_law 503 = .ok (.aload_n 2, 1) := o_44 (bg_dL_law_502 1 44 rfl)
theorem dL_law_504 : decode cL_law 504 = .ok (.aload_n 0, 1) := o_42 (bg_dL_law_502 2 42 rfl)
theorem dL_law_505 : decode cL_law 505 = .ok (.iload_n 3, 1) := o_29 (bg_dL_law_502 3 29 rfl)
theorem dL_law_506 : decode cL_law 506 = .ok (.iconst 1, 1) := o_4 (bg_dL_law_502 4 4 rfl)
theorem dL_law_507 : decode cL_law 507 = .ok (.iadd, 1) := o_96 (bg_dL_law_502 5 96 rfl)
theorem dL_law_508 : decode cL_law 508 = .ok (.iaload, 1) := o_46 (bg_dL_law_502 6 46 rfl)
theorem dL_law_509 : decode cL_law 509 = .ok (.aload_n 0, 1) := o_42 (bg_dL_law_502 7 42 rfl)
theorem dL_law_510 : decode cL_law 510 = .ok (.iload_n 3, 1) := o_29 (bg_dL_law_502 8 29 rfl)
theorem dL_law_511 : decode cL_law 511 = .ok (.iconst 2, 1) := o_5 (bg_dL_law_502 9 5 rfl)
theorem dL_law_512 : decode cL_law 512 = .ok (.iadd, 1) := o_96 (bg_dL_law_502 10 96 rfl)
theorem dL_law_513 : decode cL_law 513 = .ok (.iaload, 1) := o_46 (bg_dL_law_502 11 46 rfl)
theorem dL_law_514 : decode cL_law 514 = .ok (.invokevirtual 48, 3) := o_182 (bg_dL_law_502 12 182 rfl) (bg_dL_law_502 13 0 rfl) (bg_dL_law_502 14 48 rfl)
theorem dL_law_517 : decode cL_law 517 = .ok (.pop, 1) := o_87 (bg_dL_law_502 15 87 rfl)
theorem bg_dL_law_518 : bysAt cL_law 518 [167, 5, 247, 43, 42, 29, 4, 96, 46, 42, 29, 5, 96, 46, 42, 29] := bysAt_of (by decide +kernel)
theorem dL_law_518 : decode cL_law 518 = .ok (.goto 1527, 3) := o_167 (bg_dL_law_518 0 167 rfl) (bg_dL_law_518 1 5 rfl) (bg_dL_law_518 2 247 rfl) (by decide +kernel)
theorem dL_law_521 : decode cL_law 521 = .ok (.aload_n 1, 1) := o_43 (bg_dL_law_518 3 43 rfl)
theorem dL_law_522 : decode cL_law 522 = .ok (.aload_n 0, 1) := o_42 (bg_dL_law_518 4 42 rfl)
theorem dL_law_523 : decode cL_law 523 = .ok (.iload_n 3, 1) := o_29 (bg_dL_law_518 5 29 rfl)
theorem dL_law_524 : decode cL_law 524 = .ok (.iconst 1, 1) := o_4 (bg_dL_law_518 6 4 rfl)
theorem dL_law_525 : decode cL_law 525 = .ok (.iadd, 1) := o_96 (bg_dL_law_518 7 96 rfl)
theorem dL_law_526 : decode cL_law 526 = .ok (.iaload, 1) := o_46 (bg_dL_law_518 8 46 rfl)
theorem dL_law_527 : decode cL_law 527 = .ok (.aload_n 0, 1) := o_42 (bg_dL_law_518 9 42 rfl)
theorem dL_law_528 : decode cL_law 528 = .ok (.iload_n 3, 1) := o_29 (bg_dL_law_518 10 29 rfl)
theorem dL_law_529 : decode cL_law 529 = .ok (.iconst 2, 1) := o_5 (bg_dL_law_518 11 5 rfl)
theorem dL_law_530 : decode cL_law 530 = .ok (.iadd, 1) := o_96 (bg_dL_law_518 12 96 rfl)
theorem dL_law_531 : decode cL_law 531 = .ok (.iaload, 1) := o_46 (bg_dL_law_518 13 46 rfl)
theorem dL_law_532 : decode cL_law 532 = .ok (.aload_n 0, 1) := o_42 (bg_dL_law_518 14 42 rfl)
theorem dL_law_533 : decode cL_law 533 = .ok (.iload_n 3, 1) := o_29 (bg_dL_law_518 15 29 rfl)
theorem bg_dL_law_534 : bysAt cL_law 534 [6, 96, 46, 42, 29, 7, 96, 46, 42, 29, 8, 96, 46, 42] := bysAt_of (by decide +kernel)
theorem dL_law_534 : decode cL_law 534 = .ok (.iconst 3, 1) := o_6 (bg_dL_law_534 0 6 rfl)
theorem dL_law_535 : decode cL_law 535 = .ok (.iadd, 1) := o_96 (bg_dL_law_534 1 96 rfl)
theorem dL_law_536 : decode cL_law 536 = .ok (.iaload, 1) := o_46 (bg_dL_law_534 2 46 rfl)
theorem dL_law_537 : decode cL_law 537 = .ok (.aload_n 0, 1) := o_42 (bg_dL_law_534 3 42 rfl)
theorem dL_law_538 : decode cL_law 538 = .ok (.iload_n 3, 1) := o_29 (bg_dL_law_534 4 29 rfl)
theorem dL_law_539 : decode cL_law 539 = .ok (.iconst 4, 1) := o_7 (bg_dL_law_534 5 7 rfl)
theorem dL_law_540 : decode cL_law 540 = .ok (.iadd, 1) := o_96 (bg_dL_law_534 6 96 rfl)
theorem dL_law_541 : decode cL_law 541 = .ok (.iaload, 1) := o_46 (bg_dL_law_534 7 46 rfl)
theorem dL_law_542 : decode cL_law 542 = .ok (.aload_n 0, 1) := o_42 (bg_dL_law_534 8 42 rfl)
theorem dL_law_543 : decode cL_law 543 = .ok (.iload_n 3, 1) := o_29 (bg_dL_law_534 9 29 rfl)
theorem dL_law_544 : decode cL_law 544 = .ok (.iconst 5, 1) := o_8 (bg_dL_law_534 10 8 rfl)
theorem dL_law_545 : decode cL_law 545 = .ok (.iadd, 1) := o_96 (bg_dL_law_534 11 96 rfl)
theorem dL_law_546 : decode cL_law 546 = .ok (.iaload, 1) := o_46 (bg_dL_law_534 12 46 rfl)
theorem dL_law_547 : decode cL_law 547 = .ok (.aload_n 0, 1) := o_42 (bg_dL_law_534 13 42 rfl)
theorem bg_dL_law_548 : bysAt cL_law 548 [29, 16, 6, 96, 46, 182, 0, 49, 87, 44, 42, 29, 4, 96, 46, 42, 29] := bysAt_of (by decide +kernel)
theorem dL_law_548 : decode cL_law 548 = .ok (.iload_n 3, 1) := o_29 (bg_dL_law_548 0 29 rfl)
theorem dL_law_549 : decode cL_law 549 = .ok (.bipush 6, 2) := o_16 (bg_dL_law_548 1 16 rfl) (bg_dL_law_548 2 6 rfl) (by decide +kernel)
theorem dL_law_551 : decode cL_law 551 = .ok (.iadd, 1) := o_96 (bg_dL_law_548 3 96 rfl)
theorem dL_law_552 : decode cL_law 552 = .ok (.iaload, 1) := o_46 (bg_dL_law_548 4 46 rfl)
theorem dL_law_553 : decode cL_law 553 = .ok (.invokevirtual 49, 3) := o_182 (bg_dL_law_548 5 182 rfl) (bg_dL_law_548 6 0 rfl) (bg_dL_law_548 7 49 rfl)
theorem dL_law_556 : decode cL_law 556 = .ok (.pop, 1) := o_87 (bg_dL_law_548 8 87 rfl)
theorem dL_law_557 : decode cL_law 557 = .ok (.aload_n 2, 1) := o_44 (bg_dL_law_548 9 44 rfl)
theorem dL_law_558 : decode cL_law 558 = .ok (.aload_n 0, 1) := o_42 (bg_dL_law_548 10 42 rfl)
theorem dL_law_559 : decode cL_law 559 = .ok (.iload_n 3, 1) := o_29 (bg_dL_law_548 11 29 rfl)
theorem dL_law_560 : decode cL_law 560 = .ok (.iconst 1, 1) := o_4 (bg_dL_law_548 12 4 rfl)
theorem dL_law_561 : decode cL_law 561 = .ok (.iadd, 1) := o_96 (bg_dL_law_548 13 96 rfl)
theorem dL_law_562 : decode cL_law 562 = .ok (.iaload, 1) := o_46 (bg_dL_law_548 14 46 rfl)
theorem dL_law_563 : decode cL_law 563 = .ok (.aload_n 0, 1) := o_42 (bg_dL_law_548 15 42 rfl)
theorem dL_law_564 : decode cL_law 564 = .ok (.iload_n 3, 1) := o_29 (bg_dL_law_548 16 29 rfl)
theorem bg_dL_law_565 : bysAt cL_law 565 [5, 96, 46, 42, 29, 6, 96, 46, 42, 29, 7, 96, 46, 42] := bysAt_of (by decide +kernel)
theorem dL_law_565 : decode cL_law 565 = .ok (.iconst 2, 1) := o_5 (bg_dL_law_565 0 5 rfl)
theorem dL_law_566 : decode cL_law 566 = .ok (.iadd, 1) := o_96 (bg_dL_law_565 1 96 rfl)
theorem dL_law_567 : decode cL_law 567 = .ok (.iaload, 1) := o_46 (bg_dL_law_565 2 46 rfl)
theorem dL_law_568 : decode cL_law 568 = .ok (.aload_n 0, 1) := o_42 (bg_dL_law_565 3 42 rfl)
theorem dL_law_569 : decode cL_law 569 = .ok (.iload_n 3, 1) := o_29 (bg_dL_law_565 4 29 rfl)
theorem dL_law_570 : decode cL_law 570 = .ok (.iconst 3, 1) := o_6 (bg_dL_law_565 5 6 rfl)
theorem dL_law_571 : decode cL_law 571 = .ok (.iadd, 1) := o_96 (bg_dL_law_565 6 96 rfl)
theorem dL_law_572 : decode cL_law 572 = .ok (.iaload, 1) := o_46 (bg_dL_law_565 7 46 rfl)
theorem dL_law_573 : decode cL_law 573 = .ok (.aload_n 0, 1) := o_42 (bg_dL_law_565 8 42 rfl)
theorem dL_law_574 : decode cL_law 574 = .ok (.iload_n 3, 1) := o_29 (bg_dL_law_565 9 29 rfl)
theorem dL_law_575 : decode cL_law 575 = .ok (.iconst 4, 1) := o_7 (bg_dL_law_565 10 7 rfl)
theorem dL_law_576 : decode cL_law 576 = .ok (.iadd, 1) := o_96 (bg_dL_law_565 11 96 rfl)
theorem dL_law_577 : decode cL_law 577 = .ok (.iaload, 1) := o_46 (bg_dL_law_565 12 46 rfl)
theorem dL_law_578 : decode cL_law 578 = .ok (.aload_n 0, 1) := o_42 (bg_dL_law_565 13 42 rfl)
theorem bg_dL_law_579 : bysAt cL_law 579 [29, 8, 96, 46, 42, 29, 16, 6, 96, 46, 182, 0, 53, 87, 167, 5, 172, 43, 42] := bysAt_of (by decide +kernel)
theorem dL_law_579 : decode cL_law 579 = .ok (.iload_n 3, 1) := o_29 (bg_dL_law_579 0 29 rfl)
theorem dL_law_580 : decode cL_law 580 = .ok (.iconst 5, 1) := o_8 (bg_dL_law_579 1 8 rfl)
theorem dL_law_581 : decode cL_law 581 = .ok (.iadd, 1) := o_96 (bg_dL_law_579 2 96 rfl)
theorem dL_law_582 : decode cL_law 582 = .ok (.iaload, 1) := o_46 (bg_dL_law_579 3 46 rfl)
theorem dL_law_583 : decode cL_law 583 = .ok (.aload_n 0, 1) := o_42 (bg_dL_law_579 4 42 rfl)
theorem dL_law_584 : decode cL_law 584 = .ok (.iload_n 3, 1) := o_29 (bg_dL_law_579 5 29 rfl)
theorem dL_law_585 : decode cL_law 585 = .ok (.bipush 6, 2) := o_16 (bg_dL_law_579 6 16 rfl) (bg_dL_law_579 7 6 rfl) (by decide +kernel)
theorem dL_law_587 : decode cL_law 587 = .ok (.iadd, 1) := o_96 (bg_dL_law_579 8 96 rfl)
theorem dL_law_588 : decode cL_law 588 = .ok (.iaload, 1) := o_46 (bg_dL_law_579 9 46 rfl)
theorem dL_law_589 : decode cL_law 589 = .ok (.invokevirtual 53, 3) := o_182 (bg_dL_law_579 10 182 rfl) (bg_dL_law_579 11 0 rfl) (bg_dL_law_579 12 53 rfl)
theorem dL_law_592 : decode cL_law 592 = .ok (.pop, 1) := o_87 (bg_dL_law_579 13 87 rfl)
theorem dL_law_593 : decode cL_law 593 = .ok (.goto 1452, 3) := o_167 (bg_dL_law_579 14 167 rfl) (bg_dL_law_579 15 5 rfl) (bg_dL_law_579 16 172 rfl) (by decide +kernel)
theorem dL_law_596 : decode cL_law 596 = .ok (.aload_n 1, 1) := o_43 (bg_dL_law_579 17 43 rfl)
theorem dL_law_597 : decode cL_law 597 = .ok (.aload_n 0, 1) := o_42 (bg_dL_law_579 18 42 rfl)
theorem bg_dL_law_598 : bysAt cL_law 598 [29, 4, 96, 46, 42, 29, 5, 96, 46, 42, 29, 6, 96, 46] := bysAt_of (by decide +kernel)
theorem dL_law_598 : decode cL_law 598 = .ok (.iload_n 3, 1) := o_29 (bg_dL_law_598 0 29 rfl)
theorem dL_law_599 : decode cL_law 599 = .ok (.iconst 1, 1) := o_4 (bg_dL_law_598 1 4 rfl)
theorem dL_law_600 : decode cL_law 600 = .ok (.iadd, 1) := o_96 (bg_dL_law_598 2 96 rfl)
theorem dL_law_601 : decode cL_law 601 = .ok (.iaload, 1) := o_46 (bg_dL_law_598 3 46 rfl)
theorem dL_law_602 : decode cL_law 602 = .ok (.aload_n 0, 1) := o_42 (bg_dL_law_598 4 42 rfl)
theorem dL_law_603 : decode cL_law 603 = .ok (.iload_n 3, 1) := o_29 (bg_dL_law_598 5 29 rfl)
theorem dL_law_604 : decode cL_law 604 = .ok (.iconst 2, 1) := o_5 (bg_dL_law_598 6 5 rfl)
theorem dL_law_605 : decode cL_law 605 = .ok (.iadd, 1) := o_96 (bg_dL_law_598 7 96 rfl)
theorem dL_law_606 : decode cL_law 606 = .ok (.iaload, 1) := o_46 (bg_dL_law_598 8 46 rfl)
theorem dL_law_607 : decode cL_law 607 = .ok (.aload_n 0, 1) := o_42 (bg_dL_law_598 9 42 rfl)
theorem dL_law_608 : decode cL_law 608 = .ok (.iload_n 3, 1) := o_29 (bg_dL_law_598 10 29 rfl)
theorem dL_law_609 : decode cL_law 609 = .ok (.iconst 3, 1) := o_6 (bg_dL_law_598 11 6 rfl)
theorem dL_law_610 : decode cL_law 610 = .ok (.iadd, 1) := o_96 (bg_dL_law_598 12 96 rfl)
theorem dL_law_611 : decode cL_law 611 = .ok (.iaload, 1) := o_46 (bg_dL_law_598 13 46 rfl)
theorem bg_dL_law_612 : bysAt cL_law 612 [42, 29, 7, 96, 46, 42, 29, 8, 96, 46, 182, 0, 54, 87, 44, 42] := bysAt_of (by decide +kernel)
theorem dL_law_612 : decode cL_law 612 = .ok (.aload_n 0, 1) := o_42 (bg_dL_law_612 0 42 rfl)
theorem dL_law_613 : decode cL_law 613 = .ok (.iload_n 3, 1) := o_29 (bg_dL_law_612 1 29 rfl)
theorem dL_law_614 : decode cL_law 614 = .ok (.iconst 4, 1) := o_7 (bg_dL_law_612 2 7 rfl)
theorem dL_law_615 : decode cL_law 615 = .ok (.iadd, 1) := o_96 (bg_dL_law_612 3 96 rfl)
theorem dL_law_616 : decode cL_law 616 = .ok (.iaload, 1) := o_46 (bg_dL_law_612 4 46 rfl)
theorem dL_law_617 : decode cL_law 617 = .ok (.aload_n 0, 1) := o_42 (bg_dL_law_612 5 42 rfl)
theorem dL_law_618 : decode cL_law 618 = .ok (.iload_n 3, 1) := o_29 (bg_dL_law_612 6 29 rfl)
theorem dL_law_619 : decode cL_law 619 = .ok (.iconst 5, 1) := o_8 (bg_dL_law_612 7 8 rfl)
theorem dL_law_620 : decode cL_law 620 = .ok (.iadd, 1) := o_96 (bg_dL_law_612 8 96 rfl)
theorem dL_law_621 : decode cL_law 621 = .ok (.iaload, 1) := o_46 (bg_dL_law_612 9 46 rfl)
theorem dL_law_622 : decode cL_law 622 = .ok (.invokevirtual 54, 3) := o_182 (bg_dL_law_612 10 182 rfl) (bg_dL_law_612 11 0 rfl) (bg_dL_law_612 12 54 rfl)
theorem dL_law_625 : decode cL_law 625 = .ok (.pop, 1) := o_87 (bg_dL_law_612 13 87 rfl)
theorem dL_law_626 : decode cL_law 626 = .ok (.aload_n 2, 1) := o_44 (bg_dL_law_612 14 44 rfl)
theorem dL_law_627 : decode cL_law 627 = .ok (.aload_n 0, 1) := o_42 (bg_dL_law_612 15 42 rfl)
theorem bg_dL_law_628 : bysAt cL_law 628 [29, 4, 96, 46, 42, 29, 5, 96, 46, 42, 29, 6, 96, 46] := bysAt_of (by decide +kernel)
theorem dL_law_628 : decode cL_law 628 = .ok (.iload_n 3, 1) := o_29 (bg_dL_law_628 0 29 rfl)
theorem dL_law_629 : decode cL_law 629 = .ok (.iconst 1, 1) := o_4 (bg_dL_law_628 1 4 rfl)
theorem dL_law_630 : decode cL_law 630 = .ok (.iadd, 1) := o_96 (bg_dL_law_628 2 96 rfl)
theorem dL_law_631 : decode cL_law 631 = .ok (.iaload, 1) := o_46 (bg_dL_law_628 3 46 rfl)
theorem dL_law_632 : decode cL_law 632 = .ok (.aload_n 0, 1) := o_42 (bg_dL_law_628 4 42 rfl)
theorem dL_law_633 : decode cL_law 633 = .ok (.iload_n 3, 1) := o_29 (bg_dL_law_628 5 29 rfl)
theorem dL_law_634 : decode cL_law 634 = .ok (.iconst 2, 1) := o_5 (bg_dL_law_628 6 5 rfl)
theorem dL_law_635 : decode cL_law 635 = .ok (.iadd, 1) := o_96 (bg_dL_law_628 7 96 rfl)
theorem dL_law_636 : decode cL_law 636 = .ok (.iaload, 1) := o_46 (bg_dL_law_628 8 46 rfl)
theorem dL_law_637 : decode cL_law 637 = .ok (.aload_n 0, 1) := o_42 (bg_dL_law_628 9 42 rfl)
theorem dL_law_638 : decode cL_law 638 = .ok (.iload_n 3, 1) := o_29 (bg_dL_law_628 10 29 rfl)
theorem dL_law_639 : decode cL_law 639 = .ok (.iconst 3, 1) := o_6 (bg_dL_law_628 11 6 rfl)
theorem dL_law_640 : decode cL_law 640 = .ok (.iadd, 1) := o_96 (bg_dL_law_628 12 96 rfl)
theorem dL_law_641 : decode cL_law 641 = .ok (.iaload, 1) := o_46 (bg_dL_law_628 13 46 rfl)
theorem bg_dL_law_642 : bysAt cL_law 642 [42, 29, 7, 96, 46, 42, 29, 8, 96, 46, 182, 0, 57, 87, 167, 5, 109, 43] := bysAt_of (by decide +kernel)
theorem dL_law_642 : decode cL_law 642 = .ok (.aload_n 0, 1) := o_42 (bg_dL_law_642 0 42 rfl)
theorem dL_law_643 : decode cL_law 643 = .ok (.iload_n 3, 1) := o_29 (bg_dL_law_642 1 29 rfl)
theorem dL_law_644 : decode cL_law 644 = .ok (.iconst 4, 1) := o_7 (bg_dL_law_642 2 7 rfl)
theorem dL_law_645 : decode cL_law 645 = .ok (.iadd, 1) := o_96 (bg_dL_law_642 3 96 rfl)
theorem dL_law_646 : decode cL_law 646 = .ok (.iaload, 1) := o_46 (bg_dL_law_642 4 46 rfl)
theorem dL_law_647 : decode cL_law 647 = .ok (.aload_n 0, 1) := o_42 (bg_dL_law_642 5 42 rfl)
theorem dL_law_648 : decode cL_law 648 = .ok (.iload_n 3, 1) := o_29 (bg_dL_law_642 6 29 rfl)
theorem dL_law_649 : decode cL_law 649 = .ok (.iconst 5, 1) := o_8 (bg_dL_law_642 7 8 rfl)
theorem dL_law_650 : decode cL_law 650 = .ok (.iadd, 1) := o_96 (bg_dL_law_642 8 96 rfl)
theorem dL_law_651 : decode cL_law 651 = .ok (.iaload, 1) := o_46 (bg_dL_law_642 9 46 rfl)
theorem dL_law_652 : decode cL_law 652 = .ok (.invokevirtual 57, 3) := o_182 (bg_dL_law_642 10 182 rfl) (bg_dL_law_642 11 0 rfl) (bg_dL_law_642 12 57 rfl)
theorem dL_law_655 : decode cL_law 655 = .ok (.pop, 1) := o_87 (bg_dL_law_642 13 87 rfl)
theorem dL_law_656 : decode cL_law 656 = .ok (.goto 1389, 3) := o_167 (bg_dL_law_642 14 167 rfl) (bg_dL_law_642 15 5 rfl) (bg_dL_law_642 16 109 rfl) (by decide +kernel)
theorem dL_law_659 : decode cL_law 659 = .ok (.aload_n 1, 1) := o_43 (bg_dL_law_642 17 43 rfl)
theorem bg_dL_law_660 : bysAt cL_law 660 [42, 29, 4, 96, 46, 42, 29, 5, 96, 46, 42, 29, 6, 96] := bysAt_of (by decide +kernel)
theorem dL_law_660 : decode cL_law 660 = .ok (.aload_n 0, 1) := o_42 (bg_dL_law_660 0 42 rfl)
theorem dL_law_661 : decode cL_law 661 = .ok (.iload_n 3, 1) := o_29 (bg_dL_law_660 1 29 rfl)
theorem dL_law_662 : decode cL_law 662 = .ok (.iconst 1, 1) := o_4 (bg_dL_law_660 2 4 rfl)
theorem dL_law_663 : decode cL_law 663 = .ok (.iadd, 1) := o_96 (bg_dL_law_660 3 96 rfl)
theorem dL_law_664 : decode cL_law 664 = .ok (.iaload, 1) := o_46 (bg_dL_law_660 4 46 rfl)
theorem dL_law_665 : decode cL_law 665 = .ok (.aload_n 0, 1) := o_42 (bg_dL_law_660 5 42 rfl)
theorem dL_law_666 : decode cL_law 666 = .ok (.iload_n 3, 1) := o_29 (bg_dL_law_660 6 29 rfl)
theorem dL_law_667 : decode cL_law 667 = .ok (.iconst 2, 1) := o_5 (bg_dL_law_660 7 5 rfl)
theorem dL_law_668 : decode cL_law 668 = .ok (.iadd, 1) := o_96 (bg_dL_law_660 8 96 rfl)
theorem dL_law_669 : decode cL_law 669 = .ok (.iaload, 1) := o_46 (bg_dL_law_660 9 46 rfl)
theorem dL_law_670 : decode cL_law 670 = .ok (.aload_n 0, 1) := o_42 (bg_dL_law_660 10 42 rfl)
theorem dL_law_671 : decode cL_law 671 = .ok (.iload_n 3, 1) := o_29 (bg_dL_law_660 11 29 rfl)
theorem dL_law_672 : decode cL_law 672 = .ok (.iconst 3, 1) := o_6 (bg_dL_law_660 12 6 rfl)
theorem dL_law_673 : decode cL_law 673 = .ok (.iadd, 1) := o_96 (bg_dL_law_660 13 96 rfl)
theorem bg_dL_law_674 : bysAt cL_law 674 [46, 182, 0, 58, 87, 44, 42, 29, 4, 96, 46, 42, 29, 5, 96, 46] := bysAt_of (by decide +kernel)
theorem dL_law_674 : decode cL_law 674 = .ok (.iaload, 1) := o_46 (bg_dL_law_674 0 46 rfl)
theorem dL_law_675 : decode cL_law 675 = .ok (.invokevirtual 58, 3) := o_182 (bg_dL_law_674 1 182 rfl) (bg_dL_law_674 2 0 rfl) (bg_dL_law_674 3 58 rfl)
theorem dL_law_678 : decode cL_law 678 = .ok (.pop, 1) := o_87 (bg_dL_law_674 4 87 rfl)
theorem dL_law_679 : decode cL_law 679 = .ok (.aload_n 2, 1) := o_44 (bg_dL_law_674 5 44 rfl)
theorem dL_law_680 : decode cL_law 680 = .ok (.aload_n 0, 1) := o_42 (bg_dL_law_674 6 42 rfl)
theorem dL_law_681 : decode cL_law 681 = .ok (.iload_n 3, 1) := o_29 (bg_dL_law_674 7 29 rfl)
theorem dL_law_682 : decode cL_law 682 = .ok (.iconst 1, 1) := o_4 (bg_dL_law_674 8 4 rfl)
theorem dL_law_683 : decode cL_law 683 = .ok (.iadd, 1) := o_96 (bg_dL_law_674 9 96 rfl)
theorem dL_law_684 : decode cL_law 684 = .ok (.iaload, 1) := o_46 (bg_dL_law_674 10 46 rfl)
theorem dL_law_685 : decode cL_law 685 = .ok (.aload_n 0, 1) := o_42 (bg_dL_law_674 11 42 rfl)
theorem dL_law_686 : decode cL_law 686 = .ok (.iload_n 3, 1) := o_29 (bg_dL_law_674 12 29 rfl)
theorem dL_law_687 : decode cL_law 687 = .ok (.iconst 2, 1) := o_5 (bg_dL_law_674 13 5 rfl)
theorem dL_law_688 : decode cL_law 688 = .ok (.iadd, 1) := o_96 (bg_dL_law_674 14 96 rfl)
theorem dL_law_689 : decode cL_law 689 = .ok (.iaload, 1) := o_46 (bg_dL_law_674 15 46 rfl)
theorem bg_dL_law_690 : bysAt cL_law 690 [42, 29, 6, 96, 46, 182, 0, 61, 87, 167, 5, 66, 43, 42, 29, 4, 96, 46] := bysAt_of (by decide +kernel)
theorem dL_law_690 : decode cL_law 690 = .ok (.aload_n 0, 1) := o_42 (bg_dL_law_690 0 42 rfl)
theorem dL_law_691 : decode cL_law 691 = .ok (.iload_n 3, 1) := o_29 (bg_dL_law_690 1 29 rfl)
theorem dL_law_692 : decode cL_law 692 = .ok (.iconst 3, 1) := o_6 (bg_dL_law_690 2 6 rfl)
theorem dL_law_693 : decode cL_law 693 = .ok (.iadd, 1) := o_96 (bg_dL_law_690 3 96 rfl)
theorem dL_law_694 : decode cL_law 694 = .ok (.iaload, 1) := o_46 (bg_dL_law_690 4 46 rfl)
theorem dL_law_695 : decode cL_law 695 = .ok (.invokevirtual 61, 3) := o_182 (bg_dL_law_690 5 182 rfl) (bg_dL_law_690 6 0 rfl) (bg_dL_law_690 7 61 rfl)
theorem dL_law_698 : decode cL_law 698 = .ok (.pop, 1) := o_87 (bg_dL_law_690 8 87 rfl)
theorem dL_law_699 : decode cL_law 699 = .ok (.goto 1346, 3) := o_167 (bg_dL_law_690 9 167 rfl) (bg_dL_law_690 10 5 rfl) (bg_dL_law_690 11 66 rfl) (by decide +kernel)
theorem dL_law_702 : decode cL_law 702 = .ok (.aload_n 1, 1) := o_43 (bg_dL_law_690 12 43 rfl)
theorem dL_law_703 : decode cL_law 703 = .ok (.aload_n 0, 1) := o_42 (bg_dL_law_690 13 42 rfl)
theorem dL_law_704 : decode cL_law 704 = .ok (.iload_n 3, 1) := o_29 (bg_dL_law_690 14 29 rfl)
theorem dL_law_705 : decode cL_law 705 = .ok (.iconst 1, 1) := o_4 (bg_dL_law_690 15 4 rfl)
theorem dL_law_706 : decode cL_law 706 = .ok (.iadd, 1) := o_96 (bg_dL_law_690 16 96 rfl)
theorem dL_law_707 : decode cL_law 707 = .ok (.iaload, 1) := o_46 (bg_dL_law_690 17 46 rfl)
theorem bg_dL_law_708 : bysAt cL_law 708 [42, 29, 5, 96, 46, 42, 29, 6, 96, 46, 182, 0, 62, 87, 44, 42] := bysAt_of (by decide +kernel)
theorem dL_law_708 : decode cL_law 708 = .ok (.aload_n 0, 1) := o_42 (bg_dL_law_708 0 42 rfl)
theorem dL_law_709 : decode cL_law 709 = .ok (.iload_n 3, 1) := o_29 (bg_dL_law_708 1 29 rfl)
theorem dL_law_710 : decode cL_law 710 = .ok (.iconst 2, 1) := o_5 (bg_dL_law_708 2 5 rfl)
theorem dL_law_711 : decode cL_law 711 = .ok (.iadd, 1) := o_96 (bg_dL_law_708 3 96 rfl)
theorem dL_law_712 : decode cL_law 712 = .ok (.iaload, 1) := o_46 (bg_dL_law_708 4 46 rfl)
theorem dL_law_713 : decode cL_law 713 = .ok (.aload_n 0, 1) := o_42 (bg_dL_law_708 5 42 rfl)
theorem dL_law_714 : decode cL_law 714 = .ok (.iload_n 3, 1) := o_29 (bg_dL_law_708 6 29 rfl)
theorem dL_law_715 : decode cL_law 715 = .ok (.iconst 3, 1) := o_6 (bg_dL_law_708 7 6 rfl)
theorem dL_law_716 : decode cL_law 716 = .ok (.iadd, 1) := o_96 (bg_dL_law_708 8 96 rfl)
theorem dL_law_717 : decode cL_law 717 = .ok (.iaload, 1) := o_46 (bg_dL_law_708 9 46 rfl)
theorem dL_law_718 : decode cL_law 718 = .ok (.invokevirtual 62, 3) := o_182 (bg_dL_law_708 10 182 rfl) (bg_dL_law_708 11 0 rfl) (bg_dL_law_708 12 62 rfl)
theorem dL_law_721 : decode cL_law 721 = .ok (.pop, 1) := o_87 (bg_dL_law_708 13 87 rfl)
theorem dL_law_722 : decode cL_law 722 = .ok (.aload_n 2, 1) := o_44 (bg_dL_law_708 14 44 rfl)
theorem dL_law_723 : decode cL_law 723 = .ok (.aload_n 0, 1) := o_42 (bg_dL_law_708 15 42 rfl)
theorem bg_dL_law_724 : bysAt cL_law 724 [29, 4, 96, 46, 42, 29, 5, 96, 46, 42, 29, 6, 96, 46] := bysAt_of (by decide +kernel)
theorem dL_law_724 : decode cL_law 724 = .ok (.iload_n 3, 1) := o_29 (bg_dL_law_724 0 29 rfl)
theorem dL_law_725 : decode cL_law 725 = .ok (.iconst 1, 1) := o_4 (bg_dL_law_724 1 4 rfl)
theorem dL_law_726 : decode cL_law 726 = .ok (.iadd, 1) := o_96 (bg_dL_law_724 2 96 rfl)
theorem dL_law_727 : decode cL_law 727 = .ok (.iaload, 1) := o_46 (bg_dL_law_724 3 46 rfl)
theorem dL_law_728 : decode cL_law 728 = .ok (.aload_n 0, 1) := o_42 (bg_dL_law_724 4 42 rfl)
theorem dL_law_729 : decode cL_law 729 = .ok (.iload_n 3, 1) := o_29 (bg_dL_law_724 5 29 rfl)
theorem dL_law_730 : decode cL_law 730 = .ok (.iconst 2, 1) := o_5 (bg_dL_law_724 6 5 rfl)
theorem dL_law_731 : decode cL_law 731 = .ok (.iadd, 1) := o_96 (bg_dL_law_724 7 96 rfl)
theorem dL_law_732 : decode cL_law 732 = .ok (.iaload, 1) := o_46 (bg_dL_law_724 8 46 rfl)
theorem dL_law_733 : decode cL_law 733 = .ok (.aload_n 0, 1) := o_42 (bg_dL_law_724 9 42 rfl)
theorem dL_law_734 : decode cL_law 734 = .ok (.iload_n 3, 1) := o_29 (bg_dL_law_724 10 29 rfl)
theorem dL_law_735 : decode cL_law 735 = .ok (.iconst 3, 1) := o_6 (bg_dL_law_724 11 6 rfl)
theorem dL_law_736 : decode cL_law 736 = .ok (.iadd, 1) := o_96 (bg_dL_law_724 12 96 rfl)
theorem dL_law_737 : decode cL_law 737 = .ok (.iaload, 1) := o_46 (bg_dL_law_724 13 46 rfl)
theorem bg_dL_law_738 : bysAt cL_law 738 [182, 0, 65, 87, 167, 5, 23, 43, 42, 29, 4, 96, 46, 42, 29, 5, 96, 46] := bysAt_of (by decide +kernel)
theorem dL_law_738 : decode cL_law 738 = .ok (.invokevirtual 65, 3) := o_182 (bg_dL_law_738 0 182 rfl) (bg_dL_law_738 1 0 rfl) (bg_dL_law_738 2 65 rfl)
theorem dL_law_741 : decode cL_law 741 = .ok (.pop, 1) := o_87 (bg_dL_law_738 3 87 rfl)
theorem dL_law_742 : decode cL_law 742 = .ok (.goto 1303, 3) := o_167 (bg_dL_law_738 4 167 rfl) (bg_dL_law_738 5 5 rfl) (bg_dL_law_738 6 23 rfl) (by decide +kernel)
theorem dL_law_745 : decode cL_law 745 = .ok (.aload_n 1, 1) := o_43 (bg_dL_law_738 7 43 rfl)
theorem dL_law_746 : decode cL_law 746 = .ok (.aload_n 0, 1) := o_42 (bg_dL_law_738 8 42 rfl)
theorem dL_law_747 : decode cL_law 747 = .ok (.iload_n 3, 1) := o_29 (bg_dL_law_738 9 29 rfl)
theorem dL_law_748 : decode cL_law 748 = .ok (.iconst 1, 1) := o_4 (bg_dL_law_738 10 4 rfl)
theorem dL_law_749 : decode cL_law 749 = .ok (.iadd, 1) := o_96 (bg_dL_law_738 11 96 rfl)
theorem dL_law_750 : decode cL_law 750 = .ok (.iaload, 1) := o_46 (bg_dL_law_738 12 46 rfl)
theorem dL_law_751 : decode cL_law 751 = .ok (.aload_n 0, 1) := o_42 (bg_dL_law_738 13 42 rfl)
theorem dL_law_752 : decode cL_law 752 = .ok (.iload_n 3, 1) := o_29 (bg_dL_law_738 14 29 rfl)
theorem dL_law_753 : decode cL_law 753 = .ok (.iconst 2, 1) := o_5 (bg_dL_law_738 15 5 rfl)
theorem dL_law_754 : decode cL_law 754 = .ok (.iadd, 1) := o_96 (bg_dL_law_738 16 96 rfl)
theorem dL_law_755 : decode cL_law 755 = .ok (.iaload, 1) := o_46 (bg_dL_law_738 17 46 rfl)
theorem bg_dL_law_756 : bysAt cL_law 756 [182, 0, 66, 87, 44, 42, 29, 4, 96, 46, 42, 29, 5, 96, 46, 182, 0, 69] := bysAt_of (by decide +kernel)
theorem dL_law_756 : decode cL_law 756 = .ok (.invokevirtual 66, 3) := o_182 (bg_dL_law_756 0 182 rfl) (bg_dL_law_756 1 0 rfl) (bg_dL_law_756 2 66 rfl)
theorem dL_law_759 : decode cL_law 759 = .ok (.pop, 1) := o_87 (bg_dL_law_756 3 87 rfl)
theorem dL_law_760 : decode cL_law 760 = .ok (.aload_n 2, 1) := o_44 (bg_dL_law_756 4 44 rfl)
theorem dL_law_761 : decode cL_law 761 = .ok (.aload_n 0, 1) := o_42 (bg_dL_law_756 5 42 rfl)
theorem dL_law_762 : decode cL_law 762 = .ok (.iload_n 3, 1) := o_29 (bg_dL_law_756 6 29 rfl)
theorem dL_law_763 : decode cL_law 763 = .ok (.iconst 1, 1) := o_4 (bg_dL_law_756 7 4 rfl)
theorem dL_law_764 : decode cL_law 764 = .ok (.iadd, 1) := o_96 (bg_dL_law_756 8 96 rfl)
theorem dL_law_765 : decode cL_law 765 = .ok (.iaload, 1) := o_46 (bg_dL_law_756 9 46 rfl)
theorem dL_law_766 : decode cL_law 766 = .ok (.aload_n 0, 1) := o_42 (bg_dL_law_756 10 42 rfl)
theorem dL_law_767 : decode cL_law 767 = .ok (.iload_n 3, 1) := o_29 (bg_dL_law_756 11 29 rfl)
theorem dL_law_768 : decode cL_law 768 = .ok (.iconst 2, 1) := o_5 (bg_dL_law_756 12 5 rfl)
theorem dL_law_769 : decode cL_law 769 = .ok (.iadd, 1) := o_96 (bg_dL_law_756 13 96 rfl)
theorem dL_law_770 : decode cL_law 770 = .ok (.iaload, 1) := o_46 (bg_dL_law_756 14 46 rfl)
theorem dL_law_771 : decode cL_law 771 = .ok (.invokevirtual 69, 3) := o_182 (bg_dL_law_756 15 182 rfl) (bg_dL_law_756 16 0 rfl) (bg_dL_law_756 17 69 rfl)
theorem bg_dL_law_774 : bysAt cL_law 774 [87, 167, 4, 246, 43, 42, 29, 4, 96, 46, 42, 29, 5, 96, 46, 182, 0, 70] := bysAt_of (by decide +kernel)
theorem dL_law_774 : decode cL_law 774 = .ok (.pop, 1) := o_87 (bg_dL_law_774 0 87 rfl)
theorem dL_law_775 : decode cL_law 775 = .ok (.goto 1270, 3) := o_167 (bg_dL_law_774 1 167 rfl) (bg_dL_law_774 2 4 rfl) (bg_dL_law_774 3 246 rfl) (by decide +kernel)
theorem dL_law_778 : decode cL_law 778 = .ok (.aload_n 1, 1) := o_43 (bg_dL_law_774 4 43 rfl)
theorem dL_law_779 : decode cL_law 779 = .ok (.aload_n 0, 1) := o_42 (bg_dL_law_774 5 42 rfl)
theorem dL_law_780 : decode cL_law 780 = .ok (.iload_n 3, 1) := o_29 (bg_dL_law_774 6 29 rfl)
theorem dL_law_781 : decode cL_law 781 = .ok (.iconst 1, 1) := o_4 (bg_dL_law_774 7 4 rfl)
theorem dL_law_782 : decode cL_law 782 = .ok (.iadd, 1) := o_96 (bg_dL_law_774 8 96 rfl)
theorem dL_law_783 : decode cL_law 783 = .ok (.iaload, 1) := o_46 (bg_dL_law_774 9 46 rfl)
theorem dL_law_784 : decode cL_law 784 = .ok (.aload_n 0, 1) := o_42 (bg_dL_law_774 10 42 rfl)
theorem dL_law_785 : decode cL_law 785 = .ok (.iload_n 3, 1) := o_29 (bg_dL_law_774 11 29 rfl)
theorem dL_law_786 : decode cL_law 786 = .ok (.iconst 2, 1) := o_5 (bg_dL_law_774 12 5 rfl)
theorem dL_law_787 : decode cL_law 787 = .ok (.iadd, 1) := o_96 (bg_dL_law_774 13 96 rfl)
theorem dL_law_788 : decode cL_law 788 = .ok (.iaload, 1) := o_46 (bg_dL_law_774 14 46 rfl)
theorem dL_law_789 : decode cL_law 789 = .ok (.invokevirtual 70, 3) := o_182 (bg_dL_law_774 15 182 rfl) (bg_dL_law_774 16 0 rfl) (bg_dL_law_774 17 70 rfl)
theorem bg_dL_law_792 : bysAt cL_law 792 [87, 44, 42, 29, 4, 96, 46, 42, 29, 5, 96, 46, 182, 0, 73, 87] := bysAt_of (by decide +kernel)
theorem dL_law_792 : decode cL_law 792 = .ok (.pop, 1) := o_87 (bg_dL_law_792 0 87 rfl)
theorem dL_law_793 : decode cL_law 793 = .ok (.aload_n 2, 1) := o_44 (bg_dL_law_792 1 44 rfl)
theorem dL_law_794 : decode cL_law 794 = .ok (.aload_n 0, 1) := o_42 (bg_dL_law_792 2 42 rfl)
theorem dL_law_795 : decode cL_law 795 = .ok (.iload_n 3, 1) := o_29 (bg_dL_law_792 3 29 rfl)
theorem dL_law_796 : decode cL_law 796 = .ok (.iconst 1, 1) := o_4 (bg_dL_law_792 4 4 rfl)
theorem dL_law_797 : decode cL_law 797 = .ok (.iadd, 1) := o_96 (bg_dL_law_792 5 96 rfl)
theorem dL_law_798 : decode cL_law 798 = .ok (.iaload, 1) := o_46 (bg_dL_law_792 6 46 rfl)
theorem dL_law_799 : decode cL_law 799 = .ok (.aload_n 0, 1) := o_42 (bg_dL_law_792 7 42 rfl)
theorem dL_law_800 : decode cL_law 800 = .ok (.iload_n 3, 1) := o_29 (bg_dL_law_792 8 29 rfl)
theorem dL_law_801 : decode cL_law 801 = .ok (.iconst 2, 1) := o_5 (bg_dL_law_792 9 5 rfl)
theorem dL_law_802 : decode cL_law 802 = .ok (.iadd, 1) := o_96 (bg_dL_law_792 10 96 rfl)
theorem dL_law_803 : decode cL_law 803 = .ok (.iaload, 1) := o_46 (bg_dL_law_792 11 46 rfl)
theorem dL_law_804 : decode cL_law 804 = .ok (.invokevirtual 73, 3) := o_182 (bg_dL_law_792 12 182 rfl) (bg_dL_law_792 13 0 rfl) (bg_dL_law_792 14 73 rfl)
theorem dL_law_807 : decode cL_law 807 = .ok (.pop, 1) := o_87 (bg_dL_law_792 15 87 rfl)
theorem bg_dL_law_808 : bysAt cL_law 808 [167, 4, 213, 43, 42, 29, 4, 96, 46, 42, 29, 5, 96, 46, 42, 29] := bysAt_of (by decide +kernel)
theorem dL_law_808 : decode cL_law 808 = .ok (.goto 1237, 3) := o_167 (bg_dL_law_808 0 167 rfl) (bg_dL_law_808 1 4 rfl) (bg_dL_law_808 2 213 rfl) (by decide +kernel)
theorem dL_law_811 : decode cL_law 811 = .ok (.aload_n 1, 1) := o_43 (bg_dL_law_808 3 43 rfl)
theorem dL_law_812 : decode cL_law 812 = .ok (.aload_n 0, 1) := o_42 (bg_dL_law_808 4 42 rfl)
theorem dL_law_813 : decode cL_law 813 = .ok (.iload_n 3, 1) := o_29 (bg_dL_law_808 5 29 rfl)
theorem dL_law_814 : decode cL_law 814 = .ok (.iconst 1, 1) := o_4 (bg_dL_law_808 6 4 rfl)
theorem dL_law_815 : decode cL_law 815 = .ok (.iadd, 1) := o_96 (bg_dL_law_808 7 96 rfl)
theorem dL_law_816 : decode cL_law 816 = .ok (.iaload, 1) := o_46 (bg_dL_law_808 8 46 rfl)
theorem dL_law_817 : decode cL_law 817 = .ok (.aload_n 0, 1) := o_42 (bg_dL_law_808 9 42 rfl)
theorem dL_law_818 : decode cL_law 818 = .ok (.iload_n 3, 1) := o_29 (bg_dL_law_808 10 29 rfl)
theorem dL_law_819 : decode cL_law 819 = .ok (.iconst 2, 1) := o_5 (bg_dL_law_808 11 5 rfl)
theorem dL_law_820 : decode cL_law 820 = .ok (.iadd, 1) := o_96 (bg_dL_law_808 12 96 rfl)
theorem dL_law_821 : decode cL_law 821 = .ok (.iaload, 1) := o_46 (bg_dL_law_808 13 46 rfl)
theorem dL_law_822 : decode cL_law 822 = .ok (.aload_n 0, 1) := o_42 (bg_dL_law_808 14 42 rfl)
theorem dL_law_823 : decode cL_law 823 = .ok (.iload_n 3, 1) := o_29 (bg_dL_law_808 15 29 rfl)
theorem bg_dL_law_824 : bysAt cL_law 824 [6, 96, 46, 153, 0, 7, 4, 167, 0, 4, 3, 182, 0, 74, 87, 44, 42, 29, 4, 96] := bysAt_of (by decide +kernel)
theorem dL_law_824 : decode cL_law 824 = .ok (.iconst 3, 1) := o_6 (bg_dL_law_824 0 6 rfl)
theorem dL_law_825 : decode cL_law 825 = .ok (.iadd, 1) := o_96 (bg_dL_law_824 1 96 rfl)
theorem dL_law_826 : decode cL_law 826 = .ok (.iaload, 1) := o_46 (bg_dL_law_824 2 46 rfl)
theorem dL_law_827 : decode cL_law 827 = .ok (.ifCond .eq 7, 3) := o_153 (bg_dL_law_824 3 153 rfl) (bg_dL_law_824 4 0 rfl) (bg_dL_law_824 5 7 rfl) (by decide +kernel)
theorem dL_law_830 : decode cL_law 830 = .ok (.iconst 1, 1) := o_4 (bg_dL_law_824 6 4 rfl)
theorem dL_law_831 : decode cL_law 831 = .ok (.goto 4, 3) := o_167 (bg_dL_law_824 7 167 rfl) (bg_dL_law_824 8 0 rfl) (bg_dL_law_824 9 4 rfl) (by decide +kernel)
theorem dL_law_834 : decode cL_law 834 = .ok (.iconst 0, 1) := o_3 (bg_dL_law_824 10 3 rfl)
theorem dL_law_835 : decode cL_law 835 = .ok (.invokevirtual 74, 3) := o_182 (bg_dL_law_824 11 182 rfl) (bg_dL_law_824 12 0 rfl) (bg_dL_law_824 13 74 rfl)
theorem dL_law_838 : decode cL_law 838 = .ok (.pop, 1) := o_87 (bg_dL_law_824 14 87 rfl)
theorem dL_law_839 : decode cL_law 839 = .ok (.aload_n 2, 1) := o_44 (bg_dL_law_824 15 44 rfl)
theorem dL_law_840 : decode cL_law 840 = .ok (.aload_n 0, 1) := o_42 (bg_dL_law_824 16 42 rfl)
theorem dL_law_841 : decode cL_law 841 = .ok (.iload_n 3, 1) := o_29 (bg_dL_law_824 17 29 rfl)
theorem dL_law_842 : decode cL_law 842 = .ok (.iconst 1, 1) := o_4 (bg_dL_law_824 18 4 rfl)
theorem dL_law_843 : decode cL_law 843 = .ok (.iadd, 1) := o_96 (bg_dL_law_824 19 96 rfl)
theorem bg_dL_law_844 : bysAt cL_law 844 [46, 42, 29, 5, 96, 46, 42, 29, 6, 96, 46, 153, 0, 7, 4, 167, 0, 4] := bysAt_of (by decide +kernel)
theorem dL_law_844 : decode cL_law 844 = .ok (.iaload, 1) := o_46 (bg_dL_law_844 0 46 rfl)
theorem dL_law_845 : decode cL_law 845 = .ok (.aload_n 0, 1) := o_42 (bg_dL_law_844 1 42 rfl)
theorem dL_law_846 : decode cL_law 846 = .ok (.iload_n 3, 1) := o_29 (bg_dL_law_844 2 29 rfl)
theorem dL_law_847 : decode cL_law 847 = .ok (.iconst 2, 1) := o_5 (bg_dL_law_844 3 5 rfl)
theorem dL_law_848 : decode cL_law 848 = .ok (.iadd, 1) := o_96 (bg_dL_law_844 4 96 rfl)
theorem dL_law_849 : decode cL_law 849 = .ok (.iaload, 1) := o_46 (bg_dL_law_844 5 46 rfl)
theorem dL_law_850 : decode cL_law 850 = .ok (.aload_n 0, 1) := o_42 (bg_dL_law_844 6 42 rfl)
theorem dL_law_851 : decode cL_law 851 = .ok (.iload_n 3, 1) := o_29 (bg_dL_law_844 7 29 rfl)
theorem dL_law_852 : decode cL_law 852 = .ok (.iconst 3, 1) := o_6 (bg_dL_law_844 8 6 rfl)
theorem dL_law_853 : decode cL_law 853 = .ok (.iadd, 1) := o_96 (bg_dL_law_844 9 96 rfl)
theorem dL_law_854 : decode cL_law 854 = .ok (.iaload, 1) := o_46 (bg_dL_law_844 10 46 rfl)
theorem dL_law_855 : decode cL_law 855 = .ok (.ifCond .eq 7, 3) := o_153 (bg_dL_law_844 11 153 rfl) (bg_dL_law_844 12 0 rfl) (bg_dL_law_844 13 7 rfl) (by decide +kernel)
theorem dL_law_858 : decode cL_law 858 = .ok (.iconst 1, 1) := o_4 (bg_dL_law_844 14 4 rfl)
theorem dL_law_859 : decode cL_law 859 = .ok (.goto 4, 3) := o_167 (bg_dL_law_844 15 167 rfl) (bg_dL_law_844 16 0 rfl) (bg_dL_law_844 17 4 rfl) (by decide +kernel)
theorem bg_dL_law_862 : bysAt cL_law 862 [3, 182, 0, 78, 87, 167, 4, 154, 43, 42, 29, 4, 96, 46, 42, 29, 5, 96] := bysAt_of (by decide +kernel)
theorem dL_law_862 : decode cL_law 862 = .ok (.iconst 0, 1) := o_3 (bg_dL_law_862 0 3 rfl)
theorem dL_law_863 : decode cL_law 863 = .ok (.invokevirtual 78, 3) := o_182 (bg_dL_law_862 1 182 rfl) (bg_dL_law_862 2 0 rfl) (bg_dL_law_862 3 78 rfl)
theorem dL_law_866 : decode cL_law 866 = .ok (.pop, 1) := o_87 (bg_dL_law_862 4 87 rfl)
theorem dL_law_867 : decode cL_law 867 = .ok (.goto 1178, 3) := o_167 (bg_dL_law_862 5 167 rfl) (bg_dL_law_862 6 4 rfl) (bg_dL_law_862 7 154 rfl) (by decide +kernel)
theorem dL_law_870 : decode cL_law 870 = .ok (.aload_n 1, 1) := o_43 (bg_dL_law_862 8 43 rfl)
theorem dL_law_871 : decode cL_law 871 = .ok (.aload_n 0, 1) := o_42 (bg_dL_law_862 9 42 rfl)
theorem dL_law_872 : decode cL_law 872 = .ok (.iload_n 3, 1) := o_29 (bg_dL_law_862 10 29 rfl)
theorem dL_law_873 : decode cL_law 873 = .ok (.iconst 1, 1) := o_4 (bg_dL_law_862 11 4 rfl)
theorem dL_law_874 : decode cL_law 874 = .ok (.iadd, 1) := o_96 (bg_dL_law_862 12 96 rfl)
theorem dL_law_875 : decode cL_law 875 = .ok (.iaload, 1) := o_46 (bg_dL_law_862 13 46 rfl)
theorem dL_law_876 : decode cL_law 876 = .ok (.aload_n 0, 1) := o_42 (bg_dL_law_862 14 42 rfl)
theorem dL_law_877 : decode cL_law 877 = .ok (.iload_n 3, 1) := o_29 (bg_dL_law_862 15 29 rfl)
theorem dL_law_878 : decode cL_law 878 = .ok (.iconst 2, 1) := o_5 (bg_dL_law_862 16 5 rfl)
theorem dL_law_879 : decode cL_law 879 = .ok (.iadd, 1) := o_96 (bg_dL_law_862 17 96 rfl)
theorem bg_dL_law_880 : bysAt cL_law 880 [46, 153, 0, 7, 4, 167, 0, 4, 3, 182, 0, 79, 87, 44, 42, 29, 4, 96, 46, 42] := bysAt_of (by decide +kernel)
theorem dL_law_880 : decode cL_law 880 = .ok (.iaload, 1) := o_46 (bg_dL_law_880 0 46 rfl)
theorem dL_law_881 : decode cL_law 881 = .ok (.ifCond .eq 7, 3) := o_153 (bg_dL_law_880 1 153 rfl) (bg_dL_law_880 2 0 rfl) (bg_dL_law_880 3 7 rfl) (by decide +kernel)
theorem dL_law_884 : decode cL_law 884 = .ok (.iconst 1, 1) := o_4 (bg_dL_law_880 4 4 rfl)
theorem dL_law_885 : decode cL_law 885 = .ok (.goto 4, 3) := o_167 (bg_dL_law_880 5 167 rfl) (bg_dL_law_880 6 0 rfl) (bg_dL_law_880 7 4 rfl) (by decide +kernel)
theorem dL_law_888 : decode cL_law 888 = .ok (.iconst 0, 1) := o_3 (bg_dL_law_880 8 3 rfl)
theorem dL_law_889 : decode cL_law 889 = .ok (.invokevirtual 79, 3) := o_182 (bg_dL_law_880 9 182 rfl) (bg_dL_law_880 10 0 rfl) (bg_dL_law_880 11 79 rfl)
theorem dL_law_892 : decode cL_law 892 = .ok (.pop, 1) := o_87 (bg_dL_law_880 12 87 rfl)
theorem dL_law_893 : decode cL_law 893 = .ok (.aload_n 2, 1) := o_44 (bg_dL_law_880 13 44 rfl)
theorem dL_law_894 : decode cL_law 894 = .ok (.aload_n 0, 1) := o_42 (bg_dL_law_880 14 42 rfl)
theorem dL_law_895 : decode cL_law 895 = .ok (.iload_n 3, 1) := o_29 (bg_dL_law_880 15 29 rfl)
theorem dL_law_896 : decode cL_law 896 = .ok (.iconst 1, 1) := o_4 (bg_dL_law_880 16 4 rfl)
theorem dL_law_897 : decode cL_law 897 = .ok (.iadd, 1) := o_96 (bg_dL_law_880 17 96 rfl)
theorem dL_law_898 : decode cL_law 898 = .ok (.iaload, 1) := o_46 (bg_dL_law_880 18 46 rfl)
theorem dL_law_899 : decode cL_law 899 = .ok (.aload_n 0, 1) := o_42 (bg_dL_law_880 19 42 rfl)
theorem bg_dL_law_900 : bysAt cL_law 900 [29, 5, 96, 46, 153, 0, 7, 4, 167, 0, 4, 3, 182, 0, 83, 87, 167, 4, 105, 43, 42, 29] := bysAt_of (by decide +kernel)
theorem dL_law_900 : decode cL_law 900 = .ok (.iload_n 3, 1) := o_29 (bg_dL_law_900 0 29 rfl)
theorem dL_law_901 : decode cL_law 901 = .ok (.iconst 2, 1) := o_5 (bg_dL_law_900 1 5 rfl)
theorem dL_law_902 : decode cL_law 902 = .ok (.iadd, 1) := o_96 (bg_dL_law_900 2 96 rfl)
theorem dL_law_903 : decode cL_law 903 = .ok (.iaload, 1) := o_46 (bg_dL_law_900 3 46 rfl)
theorem dL_law_904 : decode cL_law 904 = .ok (.ifCond .eq 7, 3) := o_153 (bg_dL_law_900 4 153 rfl) (bg_dL_law_900 5 0 rfl) (bg_dL_law_900 6 7 rfl) (by decide +kernel)
theorem dL_law_907 : decode cL_law 907 = .ok (.iconst 1, 1) := o_4 (bg_dL_law_900 7 4 rfl)
theorem dL_law_908 : decode cL_law 908 = .ok (.goto 4, 3) := o_167 (bg_dL_law_900 8 167 rfl) (bg_dL_law_900 9 0 rfl) (bg_dL_law_900 10 4 rfl) (by decide +kernel)
theorem dL_law_911 : decode cL_law 911 = .ok (.iconst 0, 1) := o_3 (bg_dL_law_900 11 3 rfl)
theorem dL_law_912 : decode cL_law 912 = .ok (.invokevirtual 83, 3) := o_182 (bg_dL_law_900 12 182 rfl) (bg_dL_law_900 13 0 rfl) (bg_dL_law_900 14 83 rfl)
theorem dL_law_915 : decode cL_law 915 = .ok (.pop, 1) := o_87 (bg_dL_law_900 15 87 rfl)
theorem dL_law_916 : decode cL_law 916 = .ok (.goto 1129, 3) := o_167 (bg_dL_law_900 16 167 rfl) (bg_dL_law_900 17 4 rfl) (bg_dL_law_900 18 105 rfl) (by decide +kernel)
theorem dL_law_919 : decode cL_law 919 = .ok (.aload_n 1, 1) := o_43 (bg_dL_law_900 19 43 rfl)
theorem dL_law_920 : decode cL_law 920 = .ok (.aload_n 0, 1) := o_42 (bg_dL_law_900 20 42 rfl)
theorem dL_law_921 : decode cL_law 921 = .ok (.iload_n 3, 1) := o_29 (bg_dL_law_900 21 29 rfl)
theorem bg_dL_law_922 : bysAt cL_law 922 [4, 96, 46, 42, 29, 5, 96, 46, 182, 0, 84, 87, 44, 42, 29, 4] := bysAt_of (by decide +kernel)
theorem dL_law_922 : decode cL_law 922 = .ok (.iconst 1, 1) := o_4 (bg_dL_law_922 0 4 rfl)
theorem dL_law_923 : decode cL_law 923 = .ok (.iadd, 1) := o_96 (bg_dL_law_922 1 96 rfl)
theorem dL_law_924 : decode cL_law 924 = .ok (.iaload, 1) := o_46 (bg_dL_law_922 2 46 rfl)
theorem dL_law_925 : decode cL_law 925 = .ok (.aload_n 0, 1) := o_42 (bg_dL_law_922 3 42 rfl)
theorem dL_law_926 : decode cL_law 926 = .ok (.iload_n 3, 1) := o_29 (bg_dL_law_922 4 29 rfl)
theorem dL_law_927 : decode cL_law 927 = .ok (.iconst 2, 1) := o_5 (bg_dL_law_922 5 5 rfl)
theorem dL_law_928 : decode cL_law 928 = .ok (.iadd, 1) := o_96 (bg_dL_law_922 6 96 rfl)
theorem dL_law_929 : decode cL_law 929 = .ok (.iaload, 1) := o_46 (bg_dL_law_922 7 46 rfl)
theorem dL_law_930 : decode cL_law 930 = .ok (.invokevirtual 84, 3) := o_182 (bg_dL_law_922 8 182 rfl) (bg_dL_law_922 9 0 rfl) (bg_dL_law_922 10 84 rfl)
theorem dL_law_933 : decode cL_law 933 = .ok (.pop, 1) := o_87 (bg_dL_law_922 11 87 rfl)
theorem dL_law_934 : decode cL_law 934 = .ok (.aload_n 2, 1) := o_44 (bg_dL_law_922 12 44 rfl)
theorem dL_law_935 : decode cL_law 935 = .ok (.aload_n 0, 1) := o_42 (bg_dL_law_922 13 42 rfl)
theorem dL_law_936 : decode cL_law 936 = .ok (.iload_n 3, 1) := o_29 (bg_dL_law_922 14 29 rfl)
theorem dL_law_937 : decode cL_law 937 = .ok (.iconst 1, 1) := o_4 (bg_dL_law_922 15 4 rfl)
theorem bg_dL_law_938 : bysAt cL_law 938 [96, 46, 42, 29, 5, 96, 46, 182, 0, 87, 87, 167, 4, 72, 43, 182, 0, 88, 87, 44] := bysAt_of (by decide +kernel)
theorem dL_law_938 : decode cL_law 938 = .ok (.iadd, 1) := o_96 (bg_dL_law_938 0 96 rfl)
theorem dL_law_939 : decode cL_law 939 = .ok (.iaload, 1) := o_46 (bg_dL_law_938 1 46 rfl)
theorem dL_law_940 : decode cL_law 940 = .ok (.aload_n 0, 1) := o_42 (bg_dL_law_938 2 42 rfl)
theorem dL_law_941 : decode cL_law 941 = .ok (.iload_n 3, 1) := o_29 (bg_dL_law_938 3 29 rfl)
theorem dL_law_942 : decode cL_law 942 = .ok (.iconst 2, 1) := o_5 (bg_dL_law_938 4 5 rfl)
theorem dL_law_943 : decode cL_law 943 = .ok (.iadd, 1) := o_96 (bg_dL_law_938 5 96 rfl)
theorem dL_law_944 : decode cL_law 944 = .ok (.iaload, 1) := o_46 (bg_dL_law_938 6 46 rfl)
theorem dL_law_945 : decode cL_law 945 = .ok (.invokevirtual 87, 3) := o_182 (bg_dL_law_938 7 182 rfl) (bg_dL_law_938 8 0 rfl) (bg_dL_law_938 9 87 rfl)
theorem dL_law_948 : decode cL_law 948 = .ok (.pop, 1) := o_87 (bg_dL_law_938 10 87 rfl)
theorem dL_law_949 : decode cL_law 949 = .ok (.goto 1096, 3) := o_167 (bg_dL_law_938 11 167 rfl) (bg_dL_law_938 12 4 rfl) (bg_dL_law_938 13 72 rfl) (by decide +kernel)
theorem dL_law_952 : decode cL_law 952 = .ok (.aload_n 1, 1) := o_43 (bg_dL_law_938 14 43 rfl)
theorem dL_law_953 : decode cL_law 953 = .ok (.invokevirtual 88, 3) := o_182 (bg_dL_law_938 15 182 rfl) (bg_dL_law_938 16 0 rfl) (bg_dL_law_938 17 88 rfl)
theorem dL_law_956 : decode cL_law 956 = .ok (.pop, 1) := o_87 (bg_dL_law_938 18 87 rfl)
theorem dL_law_957 : decode cL_law 957 = .ok (.aload_n 2, 1) := o_44 (bg_dL_law_938 19 44 rfl)
theorem bg_dL_law_958 : bysAt cL_law 958 [182, 0, 92, 87, 167, 4, 59, 43, 182, 0, 93, 87, 44, 182, 0, 96, 87, 167, 4, 46, 43, 42, 29, 4] := bysAt_of (by decide +kernel)
theorem dL_law_958 : decode cL_law 958 = .ok (.invokevirtual 92, 3) := o_182 (bg_dL_law_958 0 182 rfl) (bg_dL_law_958 1 0 rfl) (bg_dL_law_958 2 92 rfl)
theorem dL_law_961 : decode cL_law 961 = .ok (.pop, 1) := o_87 (bg_dL_law_958 3 87 rfl)
theorem dL_law_962 : decode cL_law 962 = .ok (.goto 1083, 3) := o_167 (bg_dL_law_958 4 167 rfl) (bg_dL_law_958 5 4 rfl) (bg_dL_law_958 6 59 rfl) (by decide +kernel)
theorem dL_law_965 : decode cL_law 965 = .ok (.aload_n 1, 1) := o_43 (bg_dL_law_958 7 43 rfl)
theorem dL_law_966 : decode cL_law 966 = .ok (.invokevirtual 93, 3) := o_182 (bg_dL_law_958 8 182 rfl) (bg_dL_law_958 9 0 rfl) (bg_dL_law_958 10 93 rfl)
theorem dL_law_969 : decode cL_law 969 = .ok (.pop, 1) := o_87 (bg_dL_law_958 11 87 rfl)
theorem dL_law_970 : decode cL_law 970 = .ok (.aload_n 2, 1) := o_44 (bg_dL_law_958 12 44 rfl)
theorem dL_law_971 : decode cL_law 971 = .ok (.invokevirtual 96, 3) := o_182 (bg_dL_law_958 13 182 rfl) (bg_dL_law_958 14 0 rfl) (bg_dL_law_958 15 96 rfl)
theorem dL_law_974 : decode cL_law 974 = .ok (.pop, 1) := o_87 (bg_dL_law_958 16 87 rfl)
theorem dL_law_975 : decode cL_law 975 = .ok (.goto 1070, 3) := o_167 (bg_dL_law_958 17 167 rfl) (bg_dL_law_958 18 4 rfl) (bg_dL_law_958 19 46 rfl) (by decide +kernel)
theorem dL_law_978 : decode cL_law 978 = .ok (.aload_n 1, 1) := o_43 (bg_dL_law_958 20 43 rfl)
theorem dL_law_979 : decode cL_law 979 = .ok (.aload_n 0, 1) := o_42 (bg_dL_law_958 21 42 rfl)
theorem dL_law_980 : decode cL_law 980 = .ok (.iload_n 3, 1) := o_29 (bg_dL_law_958 22 29 rfl)
theorem dL_law_981 : decode cL_law 981 = .ok (.iconst 1, 1) := o_4 (bg_dL_law_958 23 4 rfl)
theorem bg_dL_law_982 : bysAt cL_law 982 [96, 46, 42, 29, 5, 96, 46, 182, 0, 97, 87, 44, 42, 29, 4, 96] := bysAt_of (by decide +kernel)
theorem dL_law_982 : decode cL_law 982 = .ok (.iadd, 1) := o_96 (bg_dL_law_982 0 96 rfl)
theorem dL_law_983 : decode cL_law 983 = .ok (.iaload, 1) := o_46 (bg_dL_law_982 1 46 rfl)
theorem dL_law_984 : decode cL_law 984 = .ok (.aload_n 0, 1) := o_42 (bg_dL_law_982 2 42 rfl)
theorem dL_law_985 : decode cL_law 985 = .ok (.iload_n 3, 1) := o_29 (bg_dL_law_982 3 29 rfl)
theorem dL_law_986 : decode cL_law 986 = .ok (.iconst 2, 1) := o_5 (bg_dL_law_982 4 5 rfl)
theorem dL_law_987 : decode cL_law 987 = .ok (.iadd, 1) := o_96 (bg_dL_law_982 5 96 rfl)
theorem dL_law_988 : decode cL_law 988 = .ok (.iaload, 1) := o_46 (bg_dL_law_982 6 46 rfl)
theorem dL_law_989 : decode cL_law 989 = .ok (.invokevirtual 97, 3) := o_182 (bg_dL_law_982 7 182 rfl) (bg_dL_law_982 8 0 rfl) (bg_dL_law_982 9 97 rfl)
theorem dL_law_992 : decode cL_law 992 = .ok (.pop, 1) := o_87 (bg_dL_law_982 10 87 rfl)
theorem dL_law_993 : decode cL_law 993 = .ok (.aload_n 2, 1) := o_44 (bg_dL_law_982 11 44 rfl)
theorem dL_law_994 : decode cL_law 994 = .ok (.aload_n 0, 1) := o_42 (bg_dL_law_982 12 42 rfl)
theorem dL_law_995 : decode cL_law 995 = .ok (.iload_n 3, 1) := o_29 (bg_dL_law_982 13 29 rfl)
theorem dL_law_996 : decode cL_law 996 = .ok (.iconst 1, 1) := o_4 (bg_dL_law_982 14 4 rfl)
theorem dL_law_997 : decode cL_law 997 = .ok (.iadd, 1) := o_96 (bg_dL_law_982 15 96 rfl)
theorem bg_dL_law_998 : bysAt cL_law 998 [46, 42, 29, 5, 96, 46, 182, 0, 100, 87, 167, 4, 13, 43, 42, 29, 4, 96] := bysAt_of (by decide +kernel)
theorem dL_law_998 : decode cL_law 998 = .ok (.iaload, 1) := o_46 (bg_dL_law_998 0 46 rfl)
theorem dL_law_999 : decode cL_law 999 = .ok (.aload_n 0, 1) := o_42 (bg_dL_law_998 1 42 rfl)
theorem dL_law_1000 : decode cL_law 1000 = .ok (.iload_n 3, 1) := o_29 (bg_dL_law_998 2 29 rfl)
theorem dL_law_1001 : decode cL_law 1001 = .ok (.iconst 2, 1) := o_5 (bg_dL_law_998 3 5 rfl)
theorem dL_law_1002 : decode cL_law 1002 = .ok (.iadd, 1) := o_96 (bg_dL_law_998 4 96 rfl)
theorem dL_law_1003 : decode cL_law 1003 = .ok (.iaload, 1) := o_46 (bg_dL_law_998 5 46 rfl)
theorem dL_law_1004 : decode cL_law 1004 = .ok (.invokevirtual 100, 3) := o_182 (bg_dL_law_998 6 182 rfl) (bg_dL_law_998 7 0 rfl) (bg_dL_law_998 8 100 rfl)
theorem dL_law_1007 : decode cL_law 1007 = .ok (.pop, 1) := o_87 (bg_dL_law_998 9 87 rfl)
theorem dL_law_1008 : decode cL_law 1008 = .ok (.goto 1037, 3) := o_167 (bg_dL_law_998 10 167 rfl) (bg_dL_law_998 11 4 rfl) (bg_dL_law_998 12 13 rfl) (by decide +kernel)
theorem dL_law_1011 : decode cL_law 1011 = .ok (.aload_n 1, 1) := o_43 (bg_dL_law_998 13 43 rfl)
theorem dL_law_1012 : decode cL_law 1012 = .ok (.aload_n 0, 1) := o_42 (bg_dL_law_998 14 42 rfl)
theorem dL_law_1013 : decode cL_law 1013 = .ok (.iload_n 3, 1) := o_29 (bg_dL_law_998 15 29 rfl)
theorem dL_law_1014 : decode cL_law 1014 = .ok (.iconst 1, 1) := o_4 (bg_dL_law_998 16 4 rfl)
theorem dL_law_1015 : decode cL_law 1015 = .ok (.iadd, 1) := o_96 (bg_dL_law_998 17 96 rfl)
theorem bg_dL_law_1016 : bysAt cL_law 1016 [46, 42, 29, 5, 96, 46, 182, 0, 101, 87, 44, 42, 29, 4, 96, 46] := bysAt_of (by decide +kernel)
theorem dL_law_1016 : decode cL_law 1016 = .ok (.iaload, 1) := o_46 (bg_dL_law_1016 0 46 rfl)
theorem dL_law_1017 : decode cL_law 1017 = .ok (.aload_n 0, 1) := o_42 (bg_dL_law_1016 1 42 rfl)
theorem dL_law_1018 : decode cL_law 1018 = .ok (.iload_n 3, 1) := o_29 (bg_dL_law_1016 2 29 rfl)
theorem dL_law_1019 : decode cL_law 1019 = .ok (.iconst 2, 1) := o_5 (bg_dL_law_1016 3 5 rfl)
theorem dL_law_1020 : decode cL_law 1020 = .ok (.iadd, 1) := o_96 (bg_dL_law_1016 4 96 rfl)
theorem dL_law_1021 : decode cL_law 1021 = .ok (.iaload, 1) := o_46 (bg_dL_law_1016 5 46 rfl)
theorem dL_law_1022 : decode cL_law 1022 = .ok (.invokevirtual 101, 3) := o_182 (bg_dL_law_1016 6 182 rfl) (bg_dL_law_1016 7 0 rfl) (bg_dL_law_1016 8 101 rfl)
theorem dL_law_1025 : decode cL_law 1025 = .ok (.pop, 1) := o_87 (bg_dL_law_1016 9 87 rfl)
theorem dL_law_1026 : decode cL_law 1026 = .ok (.aload_n 2, 1) := o_44 (bg_dL_law_1016 10 44 rfl)
theorem dL_law_1027 : decode cL_law 1027 = .ok (.aload_n 0, 1) := o_42 (bg_dL_law_1016 11 42 rfl)
theorem dL_law_1028 : decode cL_law 1028 = .ok (.iload_n 3, 1) := o_29 (bg_dL_law_1016 12 29 rfl)
theorem dL_law_1029 : decode cL_law 1029 = .ok (.iconst 1, 1) := o_4 (bg_dL_law_1016 13 4 rfl)
theorem dL_law_1030 : decode cL_law 1030 = .ok (.iadd, 1) := o_96 (bg_dL_law_1016 14 96 rfl)
theorem dL_law_1031 : decode cL_law 1031 = .ok (.iaload, 1) := o_46 (bg_dL_law_1016 15 46 rfl)
theorem bg_dL_law_1032 : bysAt cL_law 1032 [42, 29, 5, 96, 46, 182, 0, 104, 87, 167, 3, 236, 43, 42, 29, 4, 96, 46] := bysAt_of (by decide +kernel)
theorem dL_law_1032 : decode cL_law 1032 = .ok (.aload_n 0, 1) := o_42 (bg_dL_law_1032 0 42 rfl)
theorem dL_law_1033 : decode cL_law 1033 = .ok (.iload_n 3, 1) := o_29 (bg_dL_law_1032 1 29 rfl)
theorem dL_law_1034 : decode cL_law 1034 = .ok (.iconst 2, 1) := o_5 (bg_dL_law_1032 2 5 rfl)
theorem dL_law_1035 : decode cL_law 1035 = .ok (.iadd, 1) := o_96 (bg_dL_law_1032 3 96 rfl)
theorem dL_law_1036 : decode cL_law 1036 = .ok (.iaload, 1) := o_46 (bg_dL_law_1032 4 46 rfl)
theorem dL_law_1037 : decode cL_law 1037 = .ok (.invokevirtual 104, 3) := o_182 (bg_dL_law_1032 5 182 rfl) (bg_dL_law_1032 6 0 rfl) (bg_dL_law_1032 7 104 rfl)
theorem dL_law_1040 : decode cL_law 1040 = .ok (.pop, 1) := o_87 (bg_dL_law_1032 8 87 rfl)
theorem dL_law_1041 : decode cL_law 1041 = .ok (.goto 1004, 3) := o_167 (bg_dL_law_1032 9 167 rfl) (bg_dL_law_1032 10 3 rfl) (bg_dL_law_1032 11 236 rfl) (by decide +kernel)
theorem dL_law_1044 : decode cL_law 1044 = .ok (.aload_n 1, 1) := o_43 (bg_dL_law_1032 12 43 rfl)
theorem dL_law_1045 : decode cL_law 1045 = .ok (.aload_n 0, 1) := o_42 (bg_dL_law_1032 13 42 rfl)
theorem dL_law_1046 : decode cL_law 1046 = .ok (.iload_n 3, 1) := o_29 (bg_dL_law_1032 14 29 rfl)
theorem dL_law_1047 : decode cL_law 1047 = .ok (.iconst 1, 1) := o_4 (bg_dL_law_1032 15 4 rfl)
theorem dL_law_1048 : decode cL_law 1048 = .ok (.iadd, 1) := o_96 (bg_dL_law_1032 16 96 rfl)
theorem dL_law_1049 : decode cL_law 1049 = .ok (.iaload, 1) := o_46 (bg_dL_law_1032 17 46 rfl)
theorem bg_dL_law_1050 : bysAt cL_law 1050 [42, 29, 5, 96, 46, 153, 0, 7, 4, 167, 0, 4, 3, 182, 0, 105, 87, 44, 42, 29] := bysAt_of (by decide +kernel)
theorem dL_law_1050 : decode cL_law 1050 = .ok (.aload_n 0, 1) := o_42 (bg_dL_law_1050 0 42 rfl)
theorem dL_law_1051 : decode cL_law 1051 = .ok (.iload_n 3, 1) := o_29 (bg_dL_law_1050 1 29 rfl)
theorem dL_law_1052 : decode cL_law 1052 = .ok (.iconst 2, 1) := o_5 (bg_dL_law_1050 2 5 rfl)
theorem dL_law_1053 : decode cL_law 1053 = .ok (.iadd, 1) := o_96 (bg_dL_law_1050 3 96 rfl)
theorem dL_law_1054 : decode cL_law 1054 = .ok (.iaload, 1) := o_46 (bg_dL_law_1050 4 46 rfl)
theorem dL_law_1055 : decode cL_law 1055 = .ok (.ifCond .eq 7, 3) := o_153 (bg_dL_law_1050 5 153 rfl) (bg_dL_law_1050 6 0 rfl) (bg_dL_law_1050 7 7 rfl) (by decide +kernel)
theorem dL_law_1058 : decode cL_law 1058 = .ok (.iconst 1, 1) := o_4 (bg_dL_law_1050 8 4 rfl)
theorem dL_law_1059 : decode cL_law 1059 = .ok (.goto 4, 3) := o_167 (bg_dL_law_1050 9 167 rfl) (bg_dL_law_1050 10 0 rfl) (bg_dL_law_1050 11 4 rfl) (by decide +kernel)
theorem dL_law_1062 : decode cL_law 1062 = .ok (.iconst 0, 1) := o_3 (bg_dL_law_1050 12 3 rfl)
theorem dL_law_1063 : decode cL_law 1063 = .ok (.invokevirtual 105, 3) := o_182 (bg_dL_law_1050 13 182 rfl) (bg_dL_law_1050 14 0 rfl) (bg_dL_law_1050 15 105 rfl)
theorem dL_law_1066 : decode cL_law 1066 = .ok (.pop, 1) := o_87 (bg_dL_law_1050 16 87 rfl)
theorem dL_law_1067 : decode cL_law 1067 = .ok (.aload_n 2, 1) := o_44 (bg_dL_law_1050 17 44 rfl)
theorem dL_law_1068 : decode cL_law 1068 = .ok (.aload_n 0, 1) := o_42 (bg_dL_law_1050 18 42 rfl)
theorem dL_law_1069 : decode cL_law 1069 = .ok (.iload_n 3, 1) := o_29 (bg_dL_law_1050 19 29 rfl)
theorem bg_dL_law_1070 : bysAt cL_law 1070 [4, 96, 46, 42, 29, 5, 96, 46, 153, 0, 7, 4, 167, 0, 4, 3, 182, 0, 108, 87] := bysAt_of (by decide +kernel)
theorem dL_law_1070 : decode cL_law 1070 = .ok (.iconst 1, 1) := o_4 (bg_dL_law_1070 0 4 rfl)
theorem dL_law_1071 : decode cL_law 1071 = .ok (.iadd, 1) := o_96 (bg_dL_law_1070 1 96 rfl)
theorem dL_law_1072 : decode cL_law 1072 = .ok (.iaload, 1) := o_46 (bg_dL_law_1070 2 46 rfl)
theorem dL_law_1073 : decode cL_law 1073 = .ok (.aload_n 0, 1) := o_42 (bg_dL_law_1070 3 42 rfl)
theorem dL_law_1074 : decode cL_law 1074 = .ok (.iload_n 3, 1) := o_29 (bg_dL_law_1070 4 29 rfl)
theorem dL_law_1075 : decode cL_law 1075 = .ok (.iconst 2, 1) := o_5 (bg_dL_law_1070 5 5 rfl)
theorem dL_law_1076 : decode cL_law 1076 = .ok (.iadd, 1) := o_96 (bg_dL_law_1070 6 96 rfl)
theorem dL_law_1077 : decode cL_law 1077 = .ok (.iaload, 1) := o_46 (bg_dL_law_1070 7 46 rfl)
theorem dL_law_1078 : decode cL_law 1078 = .ok (.ifCond .eq 7, 3) := o_153 (bg_dL_law_1070 8 153 rfl) (bg_dL_law_1070 9 0 rfl) (bg_dL_law_1070 10 7 rfl) (by decide +kernel)
theorem dL_law_1081 : decode cL_law 1081 = .ok (.iconst 1, 1) := o_4 (bg_dL_law_1070 11 4 rfl)
theorem dL_law_1082 : decode cL_law 1082 = .ok (.goto 4, 3) := o_167 (bg_dL_law_1070 12 167 rfl) (bg_dL_law_1070 13 0 rfl) (bg_dL_law_1070 14 4 rfl) (by decide +kernel)
theorem dL_law_1085 : decode cL_law 1085 = .ok (.iconst 0, 1) := o_3 (bg_dL_law_1070 15 3 rfl)
theorem dL_law_1086 : decode cL_law 1086 = .ok (.invokevirtual 108, 3) := o_182 (bg_dL_law_1070 16 182 rfl) (bg_dL_law_1070 17 0 rfl) (bg_dL_law_1070 18 108 rfl)
theorem dL_law_1089 : decode cL_law 1089 = .ok (.pop, 1) := o_87 (bg_dL_law_1070 19 87 rfl)
theorem bg_dL_law_1090 : bysAt cL_law 1090 [167, 3, 187, 43, 42, 29, 4, 96, 46, 182, 0, 109, 87, 44, 42, 29, 4, 96] := bysAt_of (by decide +kernel)
theorem dL_law_1090 : decode cL_law 1090 = .ok (.goto 955, 3) := o_167 (bg_dL_law_1090 0 167 rfl) (bg_dL_law_1090 1 3 rfl) (bg_dL_law_1090 2 187 rfl) (by decide +kernel)
theorem dL_law_1093 : decode cL_law 1093 = .ok (.aload_n 1, 1) := o_43 (bg_dL_law_1090 3 43 rfl)
theorem dL_law_1094 : decode cL_law 1094 = .ok (.aload_n 0, 1) := o_42 (bg_dL_law_1090 4 42 rfl)
theorem dL_law_1095 : decode cL_law 1095 = .ok (.iload_n 3, 1) := o_29 (bg_dL_law_1090 5 29 rfl)
theorem dL_law_1096 : decode cL_law 1096 = .ok (.iconst 1, 1) := o_4 (bg_dL_law_1090 6 4 rfl)
theorem dL_law_1097 : decode cL_law 1097 = .ok (.iadd, 1) := o_96 (bg_dL_law_1090 7 96 rfl)
theorem dL_law_1098 : decode cL_law 1098 = .ok (.iaload, 1) := o_46 (bg_dL_law_1090 8 46 rfl)
theorem dL_law_1099 : decode cL_law 1099 = .ok (.invokevirtual 109, 3) := o_182 (bg_dL_law_1090 9 182 rfl) (bg_dL_law_1090 10 0 rfl) (bg_dL_law_1090 11 109 rfl)
theorem dL_law_1102 : decode cL_law 1102 = .ok (.pop, 1) := o_87 (bg_dL_law_1090 12 87 rfl)
theorem dL_law_1103 : decode cL_law 1103 = .ok (.aload_n 2, 1) := o_44 (bg_dL_law_1090 13 44 rfl)
theorem dL_law_1104 : decode cL_law 1104 = .ok (.aload_n 0, 1) := o_42 (bg_dL_law_1090 14 42 rfl)
theorem dL_law_1105 : decode cL_law 1105 = .ok (.iload_n 3, 1) := o_29 (bg_dL_law_1090 15 29 rfl)
theorem dL_law_1106 : decode cL_law 1106 = .ok (.iconst 1, 1) := o_4 (bg_dL_law_1090 16 4 rfl)
theorem dL_law_1107 : decode cL_law 1107 = .ok (.iadd, 1) := o_96 (bg_dL_law_1090 17 96 rfl)
theorem bg_dL_law_1108 : bysAt cL_law 1108 [46, 182, 0, 112, 87, 167, 3, 164, 43, 42, 29, 4, 96, 46, 42, 29, 5, 96] := bysAt_of (by decide +kernel)
theorem dL_law_1108 : decode cL_law 1108 = .ok (.iaload, 1) := o_46 (bg_dL_law_1108 0 46 rfl)
theorem dL_law_1109 : decode cL_law 1109 = .ok (.invokevirtual 112, 3) := o_182 (bg_dL_law_1108 1 182 rfl) (bg_dL_law_1108 2 0 rfl) (bg_dL_law_1108 3 112 rfl)
theorem dL_law_1112 : decode cL_law 1112 = .ok (.pop, 1) := o_87 (bg_dL_law_1108 4 87 rfl)
theorem dL_law_1113 : decode cL_law 1113 = .ok (.goto 932, 3) := o_167 (bg_dL_law_1108 5 167 rfl) (bg_dL_law_1108 6 3 rfl) (bg_dL_law_1108 7 164 rfl) (by decide +kernel)
theorem dL_law_1116 : decode cL_law 1116 = .ok (.aload_n 1, 1) := o_43 (bg_dL_law_1108 8 43 rfl)
theorem dL_law_1117 : decode cL_law 1117 = .ok (.aload_n 0, 1) := o_42 (bg_dL_law_1108 9 42 rfl)
theorem dL_law_1118 : decode cL_law 1118 = .ok (.iload_n 3, 1) := o_29 (bg_dL_law_1108 10 29 rfl)
theorem dL_law_1119 : decode cL_law 1119 = .ok (.iconst 1, 1) := o_4 (bg_dL_law_1108 11 4 rfl)
theorem dL_law_1120 : decode cL_law 1120 = .ok (.iadd, 1) := o_96 (bg_dL_law_1108 12 96 rfl)
theorem dL_law_1121 : decode cL_law 1121 = .ok (.iaload, 1) := o_46 (bg_dL_law_1108 13 46 rfl)
theorem dL_law_1122 : decode cL_law 1122 = .ok (.aload_n 0, 1) := o_42 (bg_dL_law_1108 14 42 rfl)
theorem dL_law_1123 : decode cL_law 1123 = .ok (.iload_n 3, 1) := o_29 (bg_dL_law_1108 15 29 rfl)
theorem dL_law_1124 : decode cL_law 1124 = .ok (.iconst 2, 1) := o_5 (bg_dL_law_1108 16 5 rfl)
theorem dL_law_1125 : decode cL_law 1125 = .ok (.iadd, 1) := o_96 (bg_dL_law_1108 17 96 rfl)
theorem bg_dL_law_1126 : bysAt cL_law 1126 [46, 182, 0, 113, 87, 44, 42, 29, 4, 96, 46, 42, 29, 5, 96, 46] := bysAt_of (by decide +kernel)
theorem dL_law_1126 : decode cL_law 1126 = .ok (.iaload, 1) := o_46 (bg_dL_law_1126 0 46 rfl)
theorem dL_law_1127 : decode cL_law 1127 = .ok (.invokevirtual 113, 3) := o_182 (bg_dL_law_1126 1 182 rfl) (bg_dL_law_1126 2 0 rfl) (bg_dL_law_1126 3 113 rfl)
theorem dL_law_1130 : decode cL_law 1130 = .ok (.pop, 1) := o_87 (bg_dL_law_1126 4 87 rfl)
theorem dL_law_1131 : decode cL_law 1131 = .ok (.aload_n 2, 1) := o_44 (bg_dL_law_1126 5 44 rfl)
theorem dL_law_1132 : decode cL_law 1132 = .ok (.aload_n 0, 1) := o_42 (bg_dL_law_1126 6 42 rfl)
theorem dL_law_1133 : decode cL_law 1133 = .ok (.iload_n 3, 1) := o_29 (bg_dL_law_1126 7 29 rfl)
theorem dL_law_1134 : decode cL_law 1134 = .ok (.iconst 1, 1) := o_4 (bg_dL_law_1126 8 4 rfl)
theorem dL_law_1135 : decode cL_law 1135 = .ok (.iadd, 1) := o_96 (bg_dL_law_1126 9 96 rfl)
theorem dL_law_1136 : decode cL_law 1136 = .ok (.iaload, 1) := o_46 (bg_dL_law_1126 10 46 rfl)
theorem dL_law_1137 : decode cL_law 1137 = .ok (.aload_n 0, 1) := o_42 (bg_dL_law_1126 11 42 rfl)
theorem dL_law_1138 : decode cL_law 1138 = .ok (.iload_n 3, 1) := o_29 (bg_dL_law_1126 12 29 rfl)
theorem dL_law_1139 : decode cL_law 1139 = .ok (.iconst 2, 1) := o_5 (bg_dL_law_1126 13 5 rfl)
theorem dL_law_1140 : decode cL_law 1140 = .ok (.iadd, 1) := o_96 (bg_dL_law_1126 14 96 rfl)
theorem dL_law_1141 : decode cL_law 1141 = .ok (.iaload, 1) := o_46 (bg_dL_law_1126 15 46 rfl)
theorem bg_dL_law_1142 : bysAt cL_law 1142 [182, 0, 116, 87, 167, 3, 131, 43, 42, 29, 4, 96, 46, 42, 29, 5, 96, 46] := bysAt_of (by decide +kernel)
theorem dL_law_1142 : decode cL_law 1142 = .ok (.invokevirtual 116, 3) := o_182 (bg_dL_law_1142 0 182 rfl) (bg_dL_law_1142 1 0 rfl) (bg_dL_law_1142 2 116 rfl)
theorem dL_law_1145 : decode cL_law 1145 = .ok (.pop, 1) := o_87 (bg_dL_law_1142 3 87 rfl)
theorem dL_law_1146 : decode cL_law 1146 = .ok (.goto 899, 3) := o_167 (bg_dL_law_1142 4 167 rfl) (bg_dL_law_1142 5 3 rfl) (bg_dL_law_1142 6 131 rfl) (by decide +kernel)
theorem dL_law_1149 : decode cL_law 1149 = .ok (.aload_n 1, 1) := o_43 (bg_dL_law_1142 7 43 rfl)
theorem dL_law_1150 : decode cL_law 1150 = .ok (.aload_n 0, 1) := o_42 (bg_dL_law_1142 8 42 rfl)
theorem dL_law_1151 : decode cL_law 1151 = .ok (.iload_n 3, 1) := o_29 (bg_dL_law_1142 9 29 rfl)
theorem dL_law_1152 : decode cL_law 1152 = .ok (.iconst 1, 1) := o_4 (bg_dL_law_1142 10 4 rfl)
theorem dL_law_1153 : decode cL_law 1153 = .ok (.iadd, 1) := o_96 (bg_dL_law_1142 11 96 rfl)
theorem dL_law_1154 : decode cL_law 1154 = .ok (.iaload, 1) := o_46 (bg_dL_law_1142 12 46 rfl)
theorem dL_law_1155 : decode cL_law 1155 = .ok (.aload_n 0, 1) := o_42 (bg_dL_law_1142 13 42 rfl)
theorem dL_law_1156 : decode cL_law 1156 = .ok (.iload_n 3, 1) := o_29 (bg_dL_law_1142 14 29 rfl)
theorem dL_law_1157 : decode cL_law 1157 = .ok (.iconst 2, 1) := o_5 (bg_dL_law_1142 15 5 rfl)
theorem dL_law_1158 : decode cL_law 1158 = .ok (.iadd, 1) := o_96 (bg_dL_law_1142 16 96 rfl)
theorem dL_law_1159 : decode cL_law 1159 = .ok (.iaload, 1) := o_46 (bg_dL_law_1142 17 46 rfl)
theorem bg_dL_law_1160 : bysAt cL_law 1160 [42, 29, 6, 96, 46, 182, 0, 117, 87, 44, 42, 29, 4, 96, 46, 42] := bysAt_of (by decide +kernel)
theorem dL_law_1160 : decode cL_law 1160 = .ok (.aload_n 0, 1) := o_42 (bg_dL_law_1160 0 42 rfl)
theorem dL_law_1161 : decode cL_law 1161 = .ok (.iload_n 3, 1) := o_29 (bg_dL_law_1160 1 29 rfl)
theorem dL_law_1162 : decode cL_law 1162 = .ok (.iconst 3, 1) := o_6 (bg_dL_law_1160 2 6 rfl)
theorem dL_law_1163 : decode cL_law 1163 = .ok (.iadd, 1) := o_96 (bg_dL_law_1160 3 96 rfl)
theorem dL_law_1164 : decode cL_law 1164 = .ok (.iaload, 1) := o_46 (bg_dL_law_1160 4 46 rfl)
theorem dL_law_1165 : decode cL_law 1165 = .ok (.invokevirtual 117, 3) := o_182 (bg_dL_law_1160 5 182 rfl) (bg_dL_law_1160 6 0 rfl) (bg_dL_law_1160 7 117 rfl)
theorem dL_law_1168 : decode cL_law 1168 = .ok (.pop, 1) := o_87 (bg_dL_law_1160 8 87 rfl)
theorem dL_law_1169 : decode cL_law 1169 = .ok (.aload_n 2, 1) := o_44 (bg_dL_law_1160 9 44 rfl)
theorem dL_law_1170 : decode cL_law 1170 = .ok (.aload_n 0, 1) := o_42 (bg_dL_law_1160 10 42 rfl)
theorem dL_law_1171 : decode cL_law 1171 = .ok (.iload_n 3, 1) := o_29 (bg_dL_law_1160 11 29 rfl)
theorem dL_law_1172 : decode cL_law 1172 = .ok (.iconst 1, 1) := o_4 (bg_dL_law_1160 12 4 rfl)
theorem dL_law_1173 : decode cL_law 1173 = .ok (.iadd, 1) := o_96 (bg_dL_law_1160 13 96 rfl)
theorem dL_law_1174 : decode cL_law 1174 = .ok (.iaload, 1) := o_46 (bg_dL_law_1160 14 46 rfl)
theorem dL_law_1175 : decode cL_law 1175 = .ok (.aload_n 0, 1) := o_42 (bg_dL_law_1160 15 42 rfl)
theorem bg_dL_law_1176 : bysAt cL_law 1176 [29, 5, 96, 46, 42, 29, 6, 96, 46, 182, 0, 120, 87, 167, 3, 88, 43, 42] := bysAt_of (by decide +kernel)
theorem dL_law_1176 : decode cL_law 1176 = .ok (.iload_n 3, 1) := o_29 (bg_dL_law_1176 0 29 rfl)
theorem dL_law_1177 : decode cL_law 1177 = .ok (.iconst 2, 1) := o_5 (bg_dL_law_1176 1 5 rfl)
theorem dL_law_1178 : decode cL_law 1178 = .ok (.iadd, 1) := o_96 (bg_dL_law_1176 2 96 rfl)
theorem dL_law_1179 : decode cL_law 1179 = .ok (.iaload, 1) := o_46 (bg_dL_law_1176 3 46 rfl)
theorem dL_law_1180 : decode cL_law 1180 = .ok (.aload_n 0, 1) := o_42 (bg_dL_law_1176 4 42 rfl)
theorem dL_law_1181 : decode cL_law 1181 = .ok (.iload_n 3, 1) := o_29 (bg_dL_law_1176 5 29 rfl)
theorem dL_law_1182 : decode cL_law 1182 = .ok (.iconst 3, 1) := o_6 (bg_dL_law_1176 6 6 rfl)
theorem dL_law_1183 : decode cL_law 1183 = .ok (.iadd, 1) := o_96 (bg_dL_law_1176 7 96 rfl)
theorem dL_law_1184 : decode cL_law 1184 = .ok (.iaload, 1) := o_46 (bg_dL_law_1176 8 46 rfl)
theorem dL_law_1185 : decode cL_law 1185 = .ok (.invokevirtual 120, 3) := o_182 (bg_dL_law_1176 9 182 rfl) (bg_dL_law_1176 10 0 rfl) (bg_dL_law_1176 11 120 rfl)
theorem dL_law_1188 : decode cL_law 1188 = .ok (.pop, 1) := o_87 (bg_dL_law_1176 12 87 rfl)
theorem dL_law_1189 : decode cL_law 1189 = .ok (.goto 856, 3) := o_167 (bg_dL_law_1176 13 167 rfl) (bg_dL_law_1176 14 3 rfl) (bg_dL_law_1176 15 88 rfl) (by decide +kernel)
theorem dL_law_1192 : decode cL_law 1192 = .ok (.aload_n 1, 1) := o_43 (bg_dL_law_1176 16 43 rfl)
theorem dL_law_1193 : decode cL_law 1193 = .ok (.aload_n 0, 1) := o_42 (bg_dL_law_1176 17 42 rfl)
theorem bg_dL_law_1194 : bysAt cL_law 1194 [29, 4, 96, 46, 42, 29, 5, 96, 46, 42, 29, 6, 96, 46] := bysAt_of (by decide +kernel)
theorem dL_law_1194 : decode cL_law 1194 = .ok (.iload_n 3, 1) := o_29 (bg_dL_law_1194 0 29 rfl)
theorem dL_law_1195 : decode cL_law 1195 = .ok (.iconst 1, 1) := o_4 (bg_dL_law_1194 1 4 rfl)
theorem dL_law_1196 : decode cL_law 1196 = .ok (.iadd, 1) := o_96 (bg_dL_law_1194 2 96 rfl)
theorem dL_law_1197 : decode cL_law 1197 = .ok (.iaload, 1) := o_46 (bg_dL_law_1194 3 46 rfl)
theorem dL_law_1198 : decode cL_law 1198 = .ok (.aload_n 0, 1) := o_42 (bg_dL_law_1194 4 42 rfl)
theorem dL_law_1199 : decode cL_law 1199 = .ok (.iload_n 3, 1) := o_29 (bg_dL_law_1194 5 29 rfl)
theorem dL_law_1200 : decode cL_law 1200 = .ok (.iconst 2, 1) := o_5 (bg_dL_law_1194 6 5 rfl)
theorem dL_law_1201 : decode cL_law 1201 = .ok (.iadd, 1) := o_96 (bg_dL_law_1194 7 96 rfl)
theorem dL_law_1202 : decode cL_law 1202 = .ok (.iaload, 1) := o_46 (bg_dL_law_1194 8 46 rfl)
theorem dL_law_1203 : decode cL_law 1203 = .ok (.aload_n 0, 1) := o_42 (bg_dL_law_1194 9 42 rfl)
theorem dL_law_1204 : decode cL_law 1204 = .ok (.iload_n 3, 1) := o_29 (bg_dL_law_1194 10 29 rfl)
theorem dL_law_1205 : decode cL_law 1205 = .ok (.iconst 3, 1) := o_6 (bg_dL_law_1194 11 6 rfl)
theorem dL_law_1206 : decode cL_law 1206 = .ok (.iadd, 1) := o_96 (bg_dL_law_1194 12 96 rfl)
theorem dL_law_1207 : decode cL_law 1207 = .ok (.iaload, 1) := o_46 (bg_dL_law_1194 13 46 rfl)
theorem bg_dL_law_1208 : bysAt cL_law 1208 [182, 0, 121, 87, 44, 42, 29, 4, 96, 46, 42, 29, 5, 96, 46, 42] := bysAt_of (by decide +kernel)
theorem dL_law_1208 : decode cL_law 1208 = .ok (.invokevirtual 121, 3) := o_182 (bg_dL_law_1208 0 182 rfl) (bg_dL_law_1208 1 0 rfl) (bg_dL_law_1208 2 121 rfl)
theorem dL_law_1211 : decode cL_law 1211 = .ok (.pop, 1) := o_87 (bg_dL_law_1208 3 87 rfl)
theorem dL_law_1212 : decode cL_law 1212 = .ok (.aload_n 2, 1) := o_44 (bg_dL_law_1208 4 44 rfl)
theorem dL_law_1213 : decode cL_law 1213 = .ok (.aload_n 0, 1) := o_42 (bg_dL_law_1208 5 42 rfl)
theorem dL_law_1214 : decode cL_law 1214 = .ok (.iload_n 3, 1) := o_29 (bg_dL_law_1208 6 29 rfl)
theorem dL_law_1215 : decode cL_law 1215 = .ok (.iconst 1, 1) := o_4 (bg_dL_law_1208 7 4 rfl)
theorem dL_law_1216 : decode cL_law 1216 = .ok (.iadd, 1) := o_96 (bg_dL_law_1208 8 96 rfl)
theorem dL_law_1217 : decode cL_law 1217 = .ok (.iaload, 1) := o_46 (bg_dL_law_1208 9 46 rfl)
theorem dL_law_1218 : decode cL_law 1218 = .ok (.aload_n 0, 1) := o_42 (bg_dL_law_1208 10 42 rfl)
theorem dL_law_1219 : decode cL_law 1219 = .ok (.iload_n 3, 1) := o_29 (bg_dL_law_1208 11 29 rfl)
theorem dL_law_1220 : decode cL_law 1220 = .ok (.iconst 2, 1) := o_5 (bg_dL_law_1208 12 5 rfl)
theorem dL_law_1221 : decode cL_law 1221 = .ok (.iadd, 1) := o_96 (bg_dL_law_1208 13 96 rfl)
theorem dL_law_1222 : decode cL_law 1222 = .ok (.iaload, 1) := o_46 (bg_dL_law_1208 14 46 rfl)
theorem dL_law_1223 : decode cL_law 1223 = .ok (.aload_n 0, 1) := o_42 (bg_dL_law_1208 15 42 rfl)
theorem bg_dL_law_1224 : bysAt cL_law 1224 [29, 6, 96, 46, 182, 0, 124, 87, 167, 3, 45, 43, 42, 29, 4, 96, 46, 42] := bysAt_of (by decide +kernel)
theorem dL_law_1224 : decode cL_law 1224 = .ok (.iload_n 3, 1) := o_29 (bg_dL_law_1224 0 29 rfl)
theorem dL_law_1225 : decode cL_law 1225 = .ok (.iconst 3, 1) := o_6 (bg_dL_law_1224 1 6 rfl)
theorem dL_law_1226 : decode cL_law 1226 = .ok (.iadd, 1) := o_96 (bg_dL_law_1224 2 96 rfl)
theorem dL_law_1227 : decode cL_law 1227 = .ok (.iaload, 1) := o_46 (bg_dL_law_1224 3 46 rfl)
theorem dL_law_1228 : decode cL_law 1228 = .ok (.invokevirtual 124, 3) := o_182 (bg_dL_law_1224 4 182 rfl) (bg_dL_law_1224 5 0 rfl) (bg_dL_law_1224 6 124 rfl)
theorem dL_law_1231 : decode cL_law 1231 = .ok (.pop, 1) := o_87 (bg_dL_law_1224 7 87 rfl)
theorem dL_law_1232 : decode cL_law 1232 = .ok (.goto 813, 3) := o_167 (bg_dL_law_1224 8 167 rfl) (bg_dL_law_1224 9 3 rfl) (bg_dL_law_1224 10 45 rfl) (by decide +kernel)
theorem dL_law_1235 : decode cL_law 1235 = .ok (.aload_n 1, 1) := o_43 (bg_dL_law_1224 11 43 rfl)
theorem dL_law_1236 : decode cL_law 1236 = .ok (.aload_n 0, 1) := o_42 (bg_dL_law_1224 12 42 rfl)
theorem dL_law_1237 : decode cL_law 1237 = .ok (.iload_n 3, 1) := o_29 (bg_dL_law_1224 13 29 rfl)
theorem dL_law_1238 : decode cL_law 1238 = .ok (.iconst 1, 1) := o_4 (bg_dL_law_1224 14 4 rfl)
theorem dL_law_1239 : decode cL_law 1239 = .ok (.iadd, 1) := o_96 (bg_dL_law_1224 15 96 rfl)
theorem dL_law_1240 : decode cL_law 1240 = .ok (.iaload, 1) := o_46 (bg_dL_law_1224 16 46 rfl)
theorem dL_law_1241 : decode cL_law 1241 = .ok (.aload_n 0, 1) := o_42 (bg_dL_law_1224 17 42 rfl)
theorem bg_dL_law_1242 : bysAt cL_law 1242 [29, 5, 96, 46, 42, 29, 6, 96, 46, 42, 29, 7, 96, 46] := bysAt_of (by decide +kernel)
theorem dL_law_1242 : decode cL_law 1242 = .ok (.iload_n 3, 1) := o_29 (bg_dL_law_1242 0 29 rfl)
theorem dL_law_1243 : decode cL_law 1243 = .ok (.iconst 2, 1) := o_5 (bg_dL_law_1242 1 5 rfl)
theorem dL_law_1244 : decode cL_law 1244 = .ok (.iadd, 1) := o_96 (bg_dL_law_1242 2 96 rfl)
theorem dL_law_1245 : decode cL_law 1245 = .ok (.iaload, 1) := o_46 (bg_dL_law_1242 3 46 rfl)
theorem dL_law_1246 : decode cL_law 1246 = .ok (.aload_n 0, 1) := o_42 (bg_dL_law_1242 4 42 rfl)
theorem dL_law_1247 : decode cL_law 1247 = .ok (.iload_n 3, 1) := o_29 (bg_dL_law_1242 5 29 rfl)
theorem dL_law_1248 : decode cL_law 1248 = .ok (.iconst 3, 1) := o_6 (bg_dL_law_1242 6 6 rfl)
theorem dL_law_1249 : decode cL_law 1249 = .ok (.iadd, 1) := o_96 (bg_dL_law_1242 7 96 rfl)
theorem dL_law_1250 : decode cL_law 1250 = .ok (.iaload, 1) := o_46 (bg_dL_law_1242 8 46 rfl)
theorem dL_law_1251 : decode cL_law 1251 = .ok (.aload_n 0, 1) := o_42 (bg_dL_law_1242 9 42 rfl)
theorem dL_law_1252 : decode cL_law 1252 = .ok (.iload_n 3, 1) := o_29 (bg_dL_law_1242 10 29 rfl)
theorem dL_law_1253 : decode cL_law 1253 = .ok (.iconst 4, 1) := o_7 (bg_dL_law_1242 11 7 rfl)
theorem dL_law_1254 : decode cL_law 1254 = .ok (.iadd, 1) := o_96 (bg_dL_law_1242 12 96 rfl)
theorem dL_law_1255 : decode cL_law 1255 = .ok (.iaload, 1) := o_46 (bg_dL_law_1242 13 46 rfl)
theorem bg_dL_law_1256 : bysAt cL_law 1256 [182, 0, 125, 87, 44, 42, 29, 4, 96, 46, 42, 29, 5, 96, 46, 42] := bysAt_of (by decide +kernel)
theorem dL_law_1256 : decode cL_law 1256 = .ok (.invokevirtual 125, 3) := o_182 (bg_dL_law_1256 0 182 rfl) (bg_dL_law_1256 1 0 rfl) (bg_dL_law_1256 2 125 rfl)
theorem dL_law_1259 : decode cL_law 1259 = .ok (.pop, 1) := o_87 (bg_dL_law_1256 3 87 rfl)
theorem dL_law_1260 : decode cL_law 1260 = .ok (.aload_n 2, 1) := o_44 (bg_dL_law_1256 4 44 rfl)
theorem dL_law_1261 : decode cL_law 1261 = .ok (.aload_n 0, 1) := o_42 (bg_dL_law_1256 5 42 rfl)
theorem dL_law_1262 : decode cL_law 1262 = .ok (.iload_n 3, 1) := o_29 (bg_dL_law_1256 6 29 rfl)
theorem dL_law_1263 : decode cL_law 1263 = .ok (.iconst 1, 1) := o_4 (bg_dL_law_1256 7 4 rfl)
theorem dL_law_1264 : decode cL_law 1264 = .ok (.iadd, 1) := o_96 (bg_dL_law_1256 8 96 rfl)
theorem dL_law_1265 : decode cL_law 1265 = .ok (.iaload, 1) := o_46 (bg_dL_law_1256 9 46 rfl)
theorem dL_law_1266 : decode cL_law 1266 = .ok (.aload_n 0, 1) := o_42 (bg_dL_law_1256 10 42 rfl)
theorem dL_law_1267 : decode cL_law 1267 = .ok (.iload_n 3, 1) := o_29 (bg_dL_law_1256 11 29 rfl)
theorem dL_law_1268 : decode cL_law 1268 = .ok (.iconst 2, 1) := o_5 (bg_dL_law_1256 12 5 rfl)
theorem dL_law_1269 : decode cL_law 1269 = .ok (.iadd, 1) := o_96 (bg_dL_law_1256 13 96 rfl)
theorem dL_law_1270 : decode cL_law 1270 = .ok (.iaload, 1) := o_46 (bg_dL_law_1256 14 46 rfl)
theorem dL_law_1271 : decode cL_law 1271 = .ok (.aload_n 0, 1) := o_42 (bg_dL_law_1256 15 42 rfl)
theorem bg_dL_law_1272 : bysAt cL_law 1272 [29, 6, 96, 46, 42, 29, 7, 96, 46, 182, 0, 129, 87, 167, 2, 248, 43, 42] := bysAt_of (by decide +kernel)
theorem dL_law_1272 : decode cL_law 1272 = .ok (.iload_n 3, 1) := o_29 (bg_dL_law_1272 0 29 rfl)
theorem dL_law_1273 : decode cL_law 1273 = .ok (.iconst 3, 1) := o_6 (bg_dL_law_1272 1 6 rfl)
theorem dL_law_1274 : decode cL_law 1274 = .ok (.iadd, 1) := o_96 (bg_dL_law_1272 2 96 rfl)
theorem dL_law_1275 : decode cL_law 1275 = .ok (.iaload, 1) := o_46 (bg_dL_law_1272 3 46 rfl)
theorem dL_law_1276 : decode cL_law 1276 = .ok (.aload_n 0, 1) := o_42 (bg_dL_law_1272 4 42 rfl)
theorem dL_law_1277 : decode cL_law 1277 = .ok (.iload_n 3, 1) := o_29 (bg_dL_law_1272 5 29 rfl)
theorem dL_law_1278 : decode cL_law 1278 = .ok (.iconst 4, 1) := o_7 (bg_dL_law_1272 6 7 rfl)
theorem dL_law_1279 : decode cL_law 1279 = .ok (.iadd, 1) := o_96 (bg_dL_law_1272 7 96 rfl)
theorem dL_law_1280 : decode cL_law 1280 = .ok (.iaload, 1) := o_46 (bg_dL_law_1272 8 46 rfl)
theorem dL_law_1281 : decode cL_law 1281 = .ok (.invokevirtual 129, 3) := o_182 (bg_dL_law_1272 9 182 rfl) (bg_dL_law_1272 10 0 rfl) (bg_dL_law_1272 11 129 rfl)
theorem dL_law_1284 : decode cL_law 1284 = .ok (.pop, 1) := o_87 (bg_dL_law_1272 12 87 rfl)
theorem dL_law_1285 : decode cL_law 1285 = .ok (.goto 760, 3) := o_167 (bg_dL_law_1272 13 167 rfl) (bg_dL_law_1272 14 2 rfl) (bg_dL_law_1272 15 248 rfl) (by decide +kernel)
theorem dL_law_1288 : decode cL_law 1288 = .ok (.aload_n 1, 1) := o_43 (bg_dL_law_1272 16 43 rfl)
theorem dL_law_1289 : decode cL_law 1289 = .ok (.aload_n 0, 1) := o_42 (bg_dL_law_1272 17 42 rfl)
theorem bg_dL_law_1290 : bysAt cL_law 1290 [29, 4, 96, 46, 42, 29, 5, 96, 46, 42, 29, 6, 96, 46] := bysAt_of (by decide +kernel)
theorem dL_law_1290 : decode cL_law 1290 = .ok (.iload_n 3, 1) := o_29 (bg_dL_law_1290 0 29 rfl)
theorem dL_law_1291 : decode cL_law 1291 = .ok (.iconst 1, 1) := o_4 (bg_dL_law_1290 1 4 rfl)
theorem dL_law_1292 : decode cL_law 1292 = .ok (.iadd, 1) := o_96 (bg_dL_law_1290 2 96 rfl)
theorem dL_law_1293 : decode cL_law 1293 = .ok (.iaload, 1) := o_46 (bg_dL_law_1290 3 46 rfl)
theorem dL_law_1294 : decode cL_law 1294 = .ok (.aload_n 0, 1) := o_42 (bg_dL_law_1290 4 42 rfl)
theorem dL_law_1295 : decode cL_law 1295 = .ok (.iload_n 3, 1) := o_29 (bg_dL_law_1290 5 29 rfl)
theorem dL_law_1296 : decode cL_law 1296 = .ok (.iconst 2, 1) := o_5 (bg_dL_law_1290 6 5 rfl)
theorem dL_law_1297 : decode cL_law 1297 = .ok (.iadd, 1) := o_96 (bg_dL_law_1290 7 96 rfl)
theorem dL_law_1298 : decode cL_law 1298 = .ok (.iaload, 1) := o_46 (bg_dL_law_1290 8 46 rfl)
theorem dL_law_1299 : decode cL_law 1299 = .ok (.aload_n 0, 1) := o_42 (bg_dL_law_1290 9 42 rfl)
theorem dL_law_1300 : decode cL_law 1300 = .ok (.iload_n 3, 1) := o_29 (bg_dL_law_1290 10 29 rfl)
theorem dL_law_1301 : decode cL_law 1301 = .ok (.iconst 3, 1) := o_6 (bg_dL_law_1290 11 6 rfl)
theorem dL_law_1302 : decode cL_law 1302 = .ok (.iadd, 1) := o_96 (bg_dL_law_1290 12 96 rfl)
theorem dL_law_1303 : decode cL_law 1303 = .ok (.iaload, 1) := o_46 (bg_dL_law_1290 13 46 rfl)
theorem bg_dL_law_1304 : bysAt cL_law 1304 [42, 29, 7, 96, 46, 182, 0, 130, 87, 44, 42, 29, 4, 96, 46, 42] := bysAt_of (by decide +kernel)
theorem dL_law_1304 : decode cL_law 1304 = .ok (.aload_n 0, 1) := o_42 (bg_dL_law_1304 0 42 rfl)
theorem dL_law_1305 : decode cL_law 1305 = .ok (.iload_n 3, 1) := o_29 (bg_dL_law_1304 1 29 rfl)
theorem dL_law_1306 : decode cL_law 1306 = .ok (.iconst 4, 1) := o_7 (bg_dL_law_1304 2 7 rfl)
theorem dL_law_1307 : decode cL_law 1307 = .ok (.iadd, 1) := o_96 (bg_dL_law_1304 3 96 rfl)
theorem dL_law_1308 : decode cL_law 1308 = .ok (.iaload, 1) := o_46 (bg_dL_law_1304 4 46 rfl)
theorem dL_law_1309 : decode cL_law 1309 = .ok (.invokevirtual 130, 3) := o_182 (bg_dL_law_1304 5 182 rfl) (bg_dL_law_1304 6 0 rfl) (bg_dL_law_1304 7 130 rfl)
theorem dL_law_1312 : decode cL_law 1312 = .ok (.pop, 1) := o_87 (bg_dL_law_1304 8 87 rfl)
theorem dL_law_1313 : decode cL_law 1313 = .ok (.aload_n 2, 1) := o_44 (bg_dL_law_1304 9 44 rfl)
theorem dL_law_1314 : decode cL_law 1314 = .ok (.aload_n 0, 1) := o_42 (bg_dL_law_1304 10 42 rfl)
theorem dL_law_1315 : decode cL_law 1315 = .ok (.iload_n 3, 1) := o_29 (bg_dL_law_1304 11 29 rfl)
theorem dL_law_1316 : decode cL_law 1316 = .ok (.iconst 1, 1) := o_4 (bg_dL_law_1304 12 4 rfl)
theorem dL_law_1317 : decode cL_law 1317 = .ok (.iadd, 1) := o_96 (bg_dL_law_1304 13 96 rfl)
theorem dL_law_1318 : decode cL_law 1318 = .ok (.iaload, 1) := o_46 (bg_dL_law_1304 14 46 rfl)
theorem dL_law_1319 : decode cL_law 1319 = .ok (.aload_n 0, 1) := o_42 (bg_dL_law_1304 15 42 rfl)
theorem bg_dL_law_1320 : bysAt cL_law 1320 [29, 5, 96, 46, 42, 29, 6, 96, 46, 42, 29, 7, 96, 46] := bysAt_of (by decide +kernel)
theorem dL_law_1320 : decode cL_law 1320 = .ok (.iload_n 3, 1) := o_29 (bg_dL_law_1320 0 29 rfl)
theorem dL_law_1321 : decode cL_law 1321 = .ok (.iconst 2, 1) := o_5 (bg_dL_law_1320 1 5 rfl)
theorem dL_law_1322 : decode cL_law 1322 = .ok (.iadd, 1) := o_96 (bg_dL_law_1320 2 96 rfl)
theorem dL_law_1323 : decode cL_law 1323 = .ok (.iaload, 1) := o_46 (bg_dL_law_1320 3 46 rfl)
theorem dL_law_1324 : decode cL_law 1324 = .ok (.aload_n 0, 1) := o_42 (bg_dL_law_1320 4 42 rfl)
theorem dL_law_1325 : decode cL_law 1325 = .ok (.iload_n 3, 1) := o_29 (bg_dL_law_1320 5 29 rfl)
theorem dL_law_1326 : decode cL_law 1326 = .ok (.iconst 3, 1) := o_6 (bg_dL_law_1320 6 6 rfl)
theorem dL_law_1327 : decode cL_law 1327 = .ok (.iadd, 1) := o_96 (bg_dL_law_1320 7 96 rfl)
theorem dL_law_1328 : decode cL_law 1328 = .ok (.iaload, 1) := o_46 (bg_dL_law_1320 8 46 rfl)
theorem dL_law_1329 : decode cL_law 1329 = .ok (.aload_n 0, 1) := o_42 (bg_dL_law_1320 9 42 rfl)
theorem dL_law_1330 : decode cL_law 1330 = .ok (.iload_n 3, 1) := o_29 (bg_dL_law_1320 10 29 rfl)
theorem dL_law_1331 : decode cL_law 1331 = .ok (.iconst 4, 1) := o_7 (bg_dL_law_1320 11 7 rfl)
theorem dL_law_1332 : decode cL_law 1332 = .ok (.iadd, 1) := o_96 (bg_dL_law_1320 12 96 rfl)
theorem dL_law_1333 : decode cL_law 1333 = .ok (.iaload, 1) := o_46 (bg_dL_law_1320 13 46 rfl)
theorem bg_dL_law_1334 : bysAt cL_law 1334 [182, 0, 133, 87, 167, 2, 195, 43, 42, 29, 4, 96, 46, 42, 29, 5, 96, 46] := bysAt_of (by decide +kernel)
theorem dL_law_1334 : decode cL_law 1334 = .ok (.invokevirtual 133, 3) := o_182 (bg_dL_law_1334 0 182 rfl) (bg_dL_law_1334 1 0 rfl) (bg_dL_law_1334 2 133 rfl)
theorem dL_law_1337 : decode cL_law 1337 = .ok (.pop, 1) := o_87 (bg_dL_law_1334 3 87 rfl)
theorem dL_law_1338 : decode cL_law 1338 = .ok (.goto 707, 3) := o_167 (bg_dL_law_1334 4 167 rfl) (bg_dL_law_1334 5 2 rfl) (bg_dL_law_1334 6 195 rfl) (by decide +kernel)
theorem dL_law_1341 : decode cL_law 1341 = .ok (.aload_n 1, 1) := o_43 (bg_dL_law_1334 7 43 rfl)
theorem dL_law_1342 : decode cL_law 1342 = .ok (.aload_n 0, 1) := o_42 (bg_dL_law_1334 8 42 rfl)
theorem dL_law_1343 : decode cL_law 1343 = .ok (.iload_n 3, 1) := o_29 (bg_dL_law_1334 9 29 rfl)
theorem dL_law_1344 : decode cL_law 1344 = .ok (.iconst 1, 1) := o_4 (bg_dL_law_1334 10 4 rfl)
theorem dL_law_1345 : decode cL_law 1345 = .ok (.iadd, 1) := o_96 (bg_dL_law_1334 11 96 rfl)
theorem dL_law_1346 : decode cL_law 1346 = .ok (.iaload, 1) := o_46 (bg_dL_law_1334 12 46 rfl)
theorem dL_law_1347 : decode cL_law 1347 = .ok (.aload_n 0, 1) := o_42 (bg_dL_law_1334 13 42 rfl)
theorem dL_law_1348 : decode cL_law 1348 = .ok (.iload_n 3, 1) := o_29 (bg_dL_law_1334 14 29 rfl)
theorem dL_law_1349 : decode cL_law 1349 = .ok (.iconst 2, 1) := o_5 (bg_dL_law_1334 15 5 rfl)
theorem dL_law_1350 : decode cL_law 1350 = .ok (.iadd, 1) := o_96 (bg_dL_law_1334 16 96 rfl)
theorem dL_law_1351 : decode cL_law 1351 = .ok (.iaload, 1) := o_46 (bg_dL_law_1334 17 46 rfl)
theorem bg_dL_law_1352 : bysAt cL_law 1352 [42, 29, 6, 96, 46, 42, 29, 7, 96, 46, 182, 0, 134, 87, 44, 42] := bysAt_of (by decide +kernel)
theorem dL_law_1352 : decode cL_law 1352 = .ok (.aload_n 0, 1) := o_42 (bg_dL_law_1352 0 42 rfl)
theorem dL_law_1353 : decode cL_law 1353 = .ok (.iload_n 3, 1) := o_29 (bg_dL_law_1352 1 29 rfl)
theorem dL_law_1354 : decode cL_law 1354 = .ok (.iconst 3, 1) := o_6 (bg_dL_law_1352 2 6 rfl)
theorem dL_law_1355 : decode cL_law 1355 = .ok (.iadd, 1) := o_96 (bg_dL_law_1352 3 96 rfl)
theorem dL_law_1356 : decode cL_law 1356 = .ok (.iaload, 1) := o_46 (bg_dL_law_1352 4 46 rfl)
theorem dL_law_1357 : decode cL_law 1357 = .ok (.aload_n 0, 1) := o_42 (bg_dL_law_1352 5 42 rfl)
theorem dL_law_1358 : decode cL_law 1358 = .ok (.iload_n 3, 1) := o_29 (bg_dL_law_1352 6 29 rfl)
theorem dL_law_1359 : decode cL_law 1359 = .ok (.iconst 4, 1) := o_7 (bg_dL_law_1352 7 7 rfl)
theorem dL_law_1360 : decode cL_law 1360 = .ok (.iadd, 1) := o_96 (bg_dL_law_1352 8 96 rfl)
theorem dL_law_1361 : decode cL_law 1361 = .ok (.iaload, 1) := o_46 (bg_dL_law_1352 9 46 rfl)
theorem dL_law_1362 : decode cL_law 1362 = .ok (.invokevirtual 134, 3) := o_182 (bg_dL_law_1352 10 182 rfl) (bg_dL_law_1352 11 0 rfl) (bg_dL_law_1352 12 134 rfl)
theorem dL_law_1365 : decode cL_law 1365 = .ok (.pop, 1) := o_87 (bg_dL_law_1352 13 87 rfl)
theorem dL_law_1366 : decode cL_law 1366 = .ok (.aload_n 2, 1) := o_44 (bg_dL_law_1352 14 44 rfl)
theorem dL_law_1367 : decode cL_law 1367 = .ok (.aload_n 0, 1) := o_42 (bg_dL_law_1352 15 42 rfl)
theorem bg_dL_law_1368 : bysAt cL_law 1368 [29, 4, 96, 46, 42, 29, 5, 96, 46, 42, 29, 6, 96, 46] := bysAt_of (by decide +kernel)
theorem dL_law_1368 : decode cL_law 1368 = .ok (.iload_n 3, 1) := o_29 (bg_dL_law_1368 0 29 rfl)
theorem dL_law_1369 : decode cL_law 1369 = .ok (.iconst 1, 1) := o_4 (bg_dL_law_1368 1 4 rfl)
theorem dL_law_1370 : decode cL_law 1370 = .ok (.iadd, 1) := o_96 (bg_dL_law_1368 2 96 rfl)
theorem dL_law_1371 : decode cL_law 1371 = .ok (.iaload, 1) := o_46 (bg_dL_law_1368 3 46 rfl)
theorem dL_law_1372 : decode cL_law 1372 = .ok (.aload_n 0, 1) := o_42 (bg_dL_law_1368 4 42 rfl)
theorem dL_law_1373 : decode cL_law 1373 = .ok (.iload_n 3, 1) := o_29 (bg_dL_law_1368 5 29 rfl)
theorem dL_law_1374 : decode cL_law 1374 = .ok (.iconst 2, 1) := o_5 (bg_dL_law_1368 6 5 rfl)
theorem dL_law_1375 : decode cL_law 1375 = .ok (.iadd, 1) := o_96 (bg_dL_law_1368 7 96 rfl)
theorem dL_law_1376 : decode cL_law 1376 = .ok (.iaload, 1) := o_46 (bg_dL_law_1368 8 46 rfl)
theorem dL_law_1377 : decode cL_law 1377 = .ok (.aload_n 0, 1) := o_42 (bg_dL_law_1368 9 42 rfl)
theorem dL_law_1378 : decode cL_law 1378 = .ok (.iload_n 3, 1) := o_29 (bg_dL_law_1368 10 29 rfl)
theorem dL_law_1379 : decode cL_law 1379 = .ok (.iconst 3, 1) := o_6 (bg_dL_law_1368 11 6 rfl)
theorem dL_law_1380 : decode cL_law 1380 = .ok (.iadd, 1) := o_96 (bg_dL_law_1368 12 96 rfl)
theorem dL_law_1381 : decode cL_law 1381 = .ok (.iaload, 1) := o_46 (bg_dL_law_1368 13 46 rfl)
theorem bg_dL_law_1382 : bysAt cL_law 1382 [42, 29, 7, 96, 46, 182, 0, 137, 87, 167, 2, 142, 43, 42, 29, 4, 96, 46] := bysAt_of (by decide +kernel)
theorem dL_law_1382 : decode cL_law 1382 = .ok (.aload_n 0, 1) := o_42 (bg_dL_law_1382 0 42 rfl)
theorem dL_law_1383 : decode cL_law 1383 = .ok (.iload_n 3, 1) := o_29 (bg_dL_law_1382 1 29 rfl)
theorem dL_law_1384 : decode cL_law 1384 = .ok (.iconst 4, 1) := o_7 (bg_dL_law_1382 2 7 rfl)
theorem dL_law_1385 : decode cL_law 1385 = .ok (.iadd, 1) := o_96 (bg_dL_law_1382 3 96 rfl)
theorem dL_law_1386 : decode cL_law 1386 = .ok (.iaload, 1) := o_46 (bg_dL_law_1382 4 46 rfl)
theorem dL_law_1387 : decode cL_law 1387 = .ok (.invokevirtual 137, 3) := o_182 (bg_dL_law_1382 5 182 rfl) (bg_dL_law_1382 6 0 rfl) (bg_dL_law_1382 7 137 rfl)
theorem dL_law_1390 : decode cL_law 1390 = .ok (.pop, 1) := o_87 (bg_dL_law_1382 8 87 rfl)
theorem dL_law_1391 : decode cL_law 1391 = .ok (.goto 654, 3) := o_167 (bg_dL_law_1382 9 167 rfl) (bg_dL_law_1382 10 2 rfl) (bg_dL_law_1382 11 142 rfl) (by decide +kernel)
theorem dL_law_1394 : decode cL_law 1394 = .ok (.aload_n 1, 1) := o_43 (bg_dL_law_1382 12 43 rfl)
theorem dL_law_1395 : decode cL_law 1395 = .ok (.aload_n 0, 1) := o_42 (bg_dL_law_1382 13 42 rfl)
theorem dL_law_1396 : decode cL_law 1396 = .ok (.iload_n 3, 1) := o_29 (bg_dL_law_1382 14 29 rfl)
theorem dL_law_1397 : decode cL_law 1397 = .ok (.iconst 1, 1) := o_4 (bg_dL_law_1382 15 4 rfl)
theorem dL_law_1398 : decode cL_law 1398 = .ok (.iadd, 1) := o_96 (bg_dL_law_1382 16 96 rfl)
theorem dL_law_1399 : decode cL_law 1399 = .ok (.iaload, 1) := o_46 (bg_dL_law_1382 17 46 rfl)
theorem bg_dL_law_1400 : bysAt cL_law 1400 [42, 29, 5, 96, 46, 42, 29, 6, 96, 46, 42, 29, 7, 96] := bysAt_of (by decide +kernel)
theorem dL_law_1400 : decode cL_law 1400 = .ok (.aload_n 0, 1) := o_42 (bg_dL_law_1400 0 42 rfl)
theorem dL_law_1401 : decode cL_law 1401 = .ok (.iload_n 3, 1) := o_29 (bg_dL_law_1400 1 29 rfl)
theorem dL_law_1402 : decode cL_law 1402 = .ok (.iconst 2, 1) := o_5 (bg_dL_law_1400 2 5 rfl)
theorem dL_law_1403 : decode cL_law 1403 = .ok (.iadd, 1) := o_96 (bg_dL_law_1400 3 96 rfl)
theorem dL_law_1404 : decode cL_law 1404 = .ok (.iaload, 1) := o_46 (bg_dL_law_1400 4 46 rfl)
theorem dL_law_1405 : decode cL_law 1405 = .ok (.aload_n 0, 1) := o_42 (bg_dL_law_1400 5 42 rfl)
theorem dL_law_1406 : decode cL_law 1406 = .ok (.iload_n 3, 1) := o_29 (bg_dL_law_1400 6 29 rfl)
theorem dL_law_1407 : decode cL_law 1407 = .ok (.iconst 3, 1) := o_6 (bg_dL_law_1400 7 6 rfl)
theorem dL_law_1408 : decode cL_law 1408 = .ok (.iadd, 1) := o_96 (bg_dL_law_1400 8 96 rfl)
theorem dL_law_1409 : decode cL_law 1409 = .ok (.iaload, 1) := o_46 (bg_dL_law_1400 9 46 rfl)
theorem dL_law_1410 : decode cL_law 1410 = .ok (.aload_n 0, 1) := o_42 (bg_dL_law_1400 10 42 rfl)
theorem dL_law_1411 : decode cL_law 1411 = .ok (.iload_n 3, 1) := o_29 (bg_dL_law_1400 11 29 rfl)
theorem dL_law_1412 : decode cL_law 1412 = .ok (.iconst 4, 1) := o_7 (bg_dL_law_1400 12 7 rfl)
theorem dL_law_1413 : decode cL_law 1413 = .ok (.iadd, 1) := o_96 (bg_dL_law_1400 13 96 rfl)
theorem bg_dL_law_1414 : bysAt cL_law 1414 [46, 42, 29, 8, 96, 46, 182, 0, 138, 87, 44, 42, 29, 4, 96, 46] := bysAt_of (by decide +kernel)
theorem dL_law_1414 : decode cL_law 1414 = .ok (.iaload, 1) := o_46 (bg_dL_law_1414 0 46 rfl)
theorem dL_law_1415 : decode cL_law 1415 = .ok (.aload_n 0, 1) := o_42 (bg_dL_law_1414 1 42 rfl)
theorem dL_law_1416 : decode cL_law 1416 = .ok (.iload_n 3, 1) := o_29 (bg_dL_law_1414 2 29 rfl)
theorem dL_law_1417 : decode cL_law 1417 = .ok (.iconst 5, 1) := o_8 (bg_dL_law_1414 3 8 rfl)
theorem dL_law_1418 : decode cL_law 1418 = .ok (.iadd, 1) := o_96 (bg_dL_law_1414 4 96 rfl)
theorem dL_law_1419 : decode cL_law 1419 = .ok (.iaload, 1) := o_46 (bg_dL_law_1414 5 46 rfl)
theorem dL_law_1420 : decode cL_law 1420 = .ok (.invokevirtual 138, 3) := o_182 (bg_dL_law_1414 6 182 rfl) (bg_dL_law_1414 7 0 rfl) (bg_dL_law_1414 8 138 rfl)
theorem dL_law_1423 : decode cL_law 1423 = .ok (.pop, 1) := o_87 (bg_dL_law_1414 9 87 rfl)
theorem dL_law_1424 : decode cL_law 1424 = .ok (.aload_n 2, 1) := o_44 (bg_dL_law_1414 10 44 rfl)
theorem dL_law_1425 : decode cL_law 1425 = .ok (.aload_n 0, 1) := o_42 (bg_dL_law_1414 11 42 rfl)
theorem dL_law_1426 : decode cL_law 1426 = .ok (.iload_n 3, 1) := o_29 (bg_dL_law_1414 12 29 rfl)
theorem dL_law_1427 : decode cL_law 1427 = .ok (.iconst 1, 1) := o_4 (bg_dL_law_1414 13 4 rfl)
theorem dL_law_1428 : decode cL_law 1428 = .ok (.iadd, 1) := o_96 (bg_dL_law_1414 14 96 rfl)
theorem dL_law_1429 : decode cL_law 1429 = .ok (.iaload, 1) := o_46 (bg_dL_law_1414 15 46 rfl)
theorem bg_dL_law_1430 : bysAt cL_law 1430 [42, 29, 5, 96, 46, 42, 29, 6, 96, 46, 42, 29, 7, 96] := bysAt_of (by decide +kernel)
theorem dL_law_1430 : decode cL_law 1430 = .ok (.aload_n 0, 1) := o_42 (bg_dL_law_1430 0 42 rfl)
theorem dL_law_1431 : decode cL_law 1431 = .ok (.iload_n 3, 1) := o_29 (bg_dL_law_1430 1 29 rfl)
theorem dL_law_1432 : decode cL_law 1432 = .ok (.iconst 2, 1) := o_5 (bg_dL_law_1430 2 5 rfl)
theorem dL_law_1433 : decode cL_law 1433 = .ok (.iadd, 1) := o_96 (bg_dL_law_1430 3 96 rfl)
theorem dL_law_1434 : decode cL_law 1434 = .ok (.iaload, 1) := o_46 (bg_dL_law_1430 4 46 rfl)
theorem dL_law_1435 : decode cL_law 1435 = .ok (.aload_n 0, 1) := o_42 (bg_dL_law_1430 5 42 rfl)
theorem dL_law_1436 : decode cL_law 1436 = .ok (.iload_n 3, 1) := o_29 (bg_dL_law_1430 6 29 rfl)
theorem dL_law_1437 : decode cL_law 1437 = .ok (.iconst 3, 1) := o_6 (bg_dL_law_1430 7 6 rfl)
theorem dL_law_1438 : decode cL_law 1438 = .ok (.iadd, 1) := o_96 (bg_dL_law_1430 8 96 rfl)
theorem dL_law_1439 : decode cL_law 1439 = .ok (.iaload, 1) := o_46 (bg_dL_law_1430 9 46 rfl)
theorem dL_law_1440 : decode cL_law 1440 = .ok (.aload_n 0, 1) := o_42 (bg_dL_law_1430 10 42 rfl)
theorem dL_law_1441 : decode cL_law 1441 = .ok (.iload_n 3, 1) := o_29 (bg_dL_law_1430 11 29 rfl)
theorem dL_law_1442 : decode cL_law 1442 = .ok (.iconst 4, 1) := o_7 (bg_dL_law_1430 12 7 rfl)
theorem dL_law_1443 : decode cL_law 1443 = .ok (.iadd, 1) := o_96 (bg_dL_law_1430 13 96 rfl)
theorem bg_dL_law_1444 : bysAt cL_law 1444 [46, 42, 29, 8, 96, 46, 182, 0, 141, 87, 167, 2, 79, 43, 42, 29, 4, 96] := bysAt_of (by decide +kernel)
theorem dL_law_1444 : decode cL_law 1444 = .ok (.iaload, 1) := o_46 (bg_dL_law_1444 0 46 rfl)
theorem dL_law_1445 : decode cL_law 1445 = .ok (.aload_n 0, 1) := o_42 (bg_dL_law_1444 1 42 rfl)
theorem dL_law_1446 : decode cL_law 1446 = .ok (.iload_n 3, 1) := o_29 (bg_dL_law_1444 2 29 rfl)
theorem dL_law_1447 : decode cL_law 1447 = .ok (.iconst 5, 1) := o_8 (bg_dL_law_1444 3 8 rfl)
theorem dL_law_1448 : decode cL_law 1448 = .ok (.iadd, 1) := o_96 (bg_dL_law_1444 4 96 rfl)
theorem dL_law_1449 : decode cL_law 1449 = .ok (.iaload, 1) := o_46 (bg_dL_law_1444 5 46 rfl)
theorem dL_law_1450 : decode cL_law 1450 = .ok (.invokevirtual 141, 3) := o_182 (bg_dL_law_1444 6 182 rfl) (bg_dL_law_1444 7 0 rfl) (bg_dL_law_1444 8 141 rfl)
theorem dL_law_1453 : decode cL_law 1453 = .ok (.pop, 1) := o_87 (bg_dL_law_1444 9 87 rfl)
theorem dL_law_1454 : decode cL_law 1454 = .ok (.goto 591, 3) := o_167 (bg_dL_law_1444 10 167 rfl) (bg_dL_law_1444 11 2 rfl) (bg_dL_law_1444 12 79 rfl) (by decide +kernel)
theorem dL_law_1457 : decode cL_law 1457 = .ok (.aload_n 1, 1) := o_43 (bg_dL_law_1444 13 43 rfl)
theorem dL_law_1458 : decode cL_law 1458 = .ok (.aload_n 0, 1) := o_42 (bg_dL_law_1444 14 42 rfl)
theorem dL_law_1459 : decode cL_law 1459 = .ok (.iload_n 3, 1) := o_29 (bg_dL_law_1444 15 29 rfl)
theorem dL_law_1460 : decode cL_law 1460 = .ok (.iconst 1, 1) := o_4 (bg_dL_law_1444 16 4 rfl)
theorem dL_law_1461 : decode cL_law 1461 = .ok (.iadd, 1) := o_96 (bg_dL_law_1444 17 96 rfl)
theorem bg_dL_law_1462 : bysAt cL_law 1462 [46, 42, 29, 5, 96, 46, 42, 29, 6, 96, 46, 182, 0, 142, 87, 44] := bysAt_of (by decide +kernel)
theorem dL_law_1462 : decode cL_law 1462 = .ok (.iaload, 1) := o_46 (bg_dL_law_1462 0 46 rfl)
theorem dL_law_1463 : decode cL_law 1463 = .ok (.aload_n 0, 1) := o_42 (bg_dL_law_1462 1 42 rfl)
theorem dL_law_1464 : decode cL_law 1464 = .ok (.iload_n 3, 1) := o_29 (bg_dL_law_1462 2 29 rfl)
theorem dL_law_1465 : decode cL_law 1465 = .ok (.iconst 2, 1) := o_5 (bg_dL_law_1462 3 5 rfl)
theorem dL_law_1466 : decode cL_law 1466 = .ok (.iadd, 1) := o_96 (bg_dL_law_1462 4 96 rfl)
theorem dL_law_1467 : decode cL_law 1467 = .ok (.iaload, 1) := o_46 (bg_dL_law_1462 5 46 rfl)
theorem dL_law_1468 : decode cL_law 1468 = .ok (.aload_n 0, 1) := o_42 (bg_dL_law_1462 6 42 rfl)
theorem dL_law_1469 : decode cL_law 1469 = .ok (.iload_n 3, 1) := o_29 (bg_dL_law_1462 7 29 rfl)
theorem dL_law_1470 : decode cL_law 1470 = .ok (.iconst 3, 1) := o_6 (bg_dL_law_1462 8 6 rfl)
theorem dL_law_1471 : decode cL_law 1471 = .ok (.iadd, 1) := o_96 (bg_dL_law_1462 9 96 rfl)
theorem dL_law_1472 : decode cL_law 1472 = .ok (.iaload, 1) := o_46 (bg_dL_law_1462 10 46 rfl)
theorem dL_law_1473 : decode cL_law 1473 = .ok (.invokevirtual 142, 3) := o_182 (bg_dL_law_1462 11 182 rfl) (bg_dL_law_1462 12 0 rfl) (bg_dL_law_1462 13 142 rfl)
theorem dL_law_1476 : decode cL_law 1476 = .ok (.pop, 1) := o_87 (bg_dL_law_1462 14 87 rfl)
theorem dL_law_1477 : decode cL_law 1477 = .ok (.aload_n 2, 1) := o_44 (bg_dL_law_1462 15 44 rfl)
theorem bg_dL_law_1478 : bysAt cL_law 1478 [42, 29, 4, 96, 46, 42, 29, 5, 96, 46, 42, 29, 6, 96] := bysAt_of (by decide +kernel)
theorem dL_law_1478 : decode cL_law 1478 = .ok (.aload_n 0, 1) := o_42 (bg_dL_law_1478 0 42 rfl)
theorem dL_law_1479 : decode cL_law 1479 = .ok (.iload_n 3, 1) := o_29 (bg_dL_law_1478 1 29 rfl)
theorem dL_law_1480 : decode cL_law 1480 = .ok (.iconst 1, 1) := o_4 (bg_dL_law_1478 2 4 rfl)
theorem dL_law_1481 : decode cL_law 1481 = .ok (.iadd, 1) := o_96 (bg_dL_law_1478 3 96 rfl)
theorem dL_law_1482 : decode cL_law 1482 = .ok (.iaload, 1) := o_46 (bg_dL_law_1478 4 46 rfl)
theorem dL_law_1483 : decode cL_law 1483 = .ok (.aload_n 0, 1) := o_42 (bg_dL_law_1478 5 42 rfl)
theorem dL_law_1484 : decode cL_law 1484 = .ok (.iload_n 3, 1) := o_29 (bg_dL_law_1478 6 29 rfl)
theorem dL_law_1485 : decode cL_law 1485 = .ok (.iconst 2, 1) := o_5 (bg_dL_law_1478 7 5 rfl)
theorem dL_law_1486 : decode cL_law 1486 = .ok (.iadd, 1) := o_96 (bg_dL_law_1478 8 96 rfl)
theorem dL_law_1487 : decode cL_law 1487 = .ok (.iaload, 1) := o_46 (bg_dL_law_1478 9 46 rfl)
theorem dL_law_1488 : decode cL_law 1488 = .ok (.aload_n 0, 1) := o_42 (bg_dL_law_1478 10 42 rfl)
theorem dL_law_1489 : decode cL_law 1489 = .ok (.iload_n 3, 1) := o_29 (bg_dL_law_1478 11 29 rfl)
theorem dL_law_1490 : decode cL_law 1490 = .ok (.iconst 3, 1) := o_6 (bg_dL_law_1478 12 6 rfl)
theorem dL_law_1491 : decode cL_law 1491 = .ok (.iadd, 1) := o_96 (bg_dL_law_1478 13 96 rfl)
theorem bg_dL_law_1492 : bysAt cL_law 1492 [46, 182, 0, 145, 87, 167, 2, 36, 43, 42, 29, 4, 96, 46, 42, 29, 5, 96] := bysAt_of (by decide +kernel)
theorem dL_law_1492 : decode cL_law 1492 = .ok (.iaload, 1) := o_46 (bg_dL_law_1492 0 46 rfl)
theorem dL_law_1493 : decode cL_law 1493 = .ok (.invokevirtual 145, 3) := o_182 (bg_dL_law_1492 1 182 rfl) (bg_dL_law_1492 2 0 rfl) (bg_dL_law_1492 3 145 rfl)
theorem dL_law_1496 : decode cL_law 1496 = .ok (.pop, 1) := o_87 (bg_dL_law_1492 4 87 rfl)
theorem dL_law_1497 : decode cL_law 1497 = .ok (.goto 548, 3) := o_167 (bg_dL_law_1492 5 167 rfl) (bg_dL_law_1492 6 2 rfl) (bg_dL_law_1492 7 36 rfl) (by decide +kernel)
theorem dL_law_1500 : decode cL_law 1500 = .ok (.aload_n 1, 1) := o_43 (bg_dL_law_1492 8 43 rfl)
theorem dL_law_1501 : decode cL_law 1501 = .ok (.aload_n 0, 1) := o_42 (bg_dL_law_1492 9 42 rfl)
theorem dL_law_1502 : decode cL_law 1502 = .ok (.iload_n 3, 1) := o_29 (bg_dL_law_1492 10 29 rfl)
theorem dL_law_1503 : decode cL_law 1503 = .ok (.iconst 1, 1) := o_4 (bg_dL_law_1492 11 4 rfl)
theorem dL_law_1504 : decode cL_law 1504 = .ok (.iadd, 1) := o_96 (bg_dL_law_1492 12 96 rfl)
theorem dL_law_1505 : decode cL_law 1505 = .ok (.iaload, 1) := o_46 (bg_dL_law_1492 13 46 rfl)
theorem dL_law_1506 : decode cL_law 1506 = .ok (.aload_n 0, 1) := o_42 (bg_dL_law_1492 14 42 rfl)
theorem dL_law_1507 : decode cL_law 1507 = .ok (.iload_n 3, 1) := o_29 (bg_dL_law_1492 15 29 rfl)
theorem dL_law_1508 : decode cL_law 1508 = .ok (.iconst 2, 1) := o_5 (bg_dL_law_1492 16 5 rfl)
theorem dL_law_1509 : decode cL_law 1509 = .ok (.iadd, 1) := o_96 (bg_dL_law_1492 17 96 rfl)
theorem bg_dL_law_1510 : bysAt cL_law 1510 [46, 42, 29, 6, 96, 46, 42, 29, 7, 96, 46, 42, 29, 8] := bysAt_of (by decide +kernel)
theorem dL_law_1510 : decode cL_law 1510 = .ok (.iaload, 1) := o_46 (bg_dL_law_1510 0 46 rfl)
theorem dL_law_1511 : decode cL_law 1511 = .ok (.aload_n 0, 1) := o_42 (bg_dL_law_1510 1 42 rfl)
theorem dL_law_1512 : decode cL_law 1512 = .ok (.iload_n 3, 1) := o_29 (bg_dL_law_1510 2 29 rfl)
theorem dL_law_1513 : decode cL_law 1513 = .ok (.iconst 3, 1) := o_6 (bg_dL_law_1510 3 6 rfl)
theorem dL_law_1514 : decode cL_law 1514 = .ok (.iadd, 1) := o_96 (bg_dL_law_1510 4 96 rfl)
theorem dL_law_1515 : decode cL_law 1515 = .ok (.iaload, 1) := o_46 (bg_dL_law_1510 5 46 rfl)
theorem dL_law_1516 : decode cL_law 1516 = .ok (.aload_n 0, 1) := o_42 (bg_dL_law_1510 6 42 rfl)
theorem dL_law_1517 : decode cL_law 1517 = .ok (.iload_n 3, 1) := o_29 (bg_dL_law_1510 7 29 rfl)
theorem dL_law_1518 : decode cL_law 1518 = .ok (.iconst 4, 1) := o_7 (bg_dL_law_1510 8 7 rfl)
theorem dL_law_1519 : decode cL_law 1519 = .ok (.iadd, 1) := o_96 (bg_dL_law_1510 9 96 rfl)
theorem dL_law_1520 : decode cL_law 1520 = .ok (.iaload, 1) := o_46 (bg_dL_law_1510 10 46 rfl)
theorem dL_law_1521 : decode cL_law 1521 = .ok (.aload_n 0, 1) := o_42 (bg_dL_law_1510 11 42 rfl)
theorem dL_law_1522 : decode cL_law 1522 = .ok (.iload_n 3, 1) := o_29 (bg_dL_law_1510 12 29 rfl)
theorem dL_law_1523 : decode cL_law 1523 = .ok (.iconst 5, 1) := o_8 (bg_dL_law_1510 13 8 rfl)
theorem bg_dL_law_1524 : bysAt cL_law 1524 [96, 46, 182, 0, 146, 87, 44, 42, 29, 4, 96, 46, 42, 29, 5, 96] := bysAt_of (by decide +kernel)
theorem dL_law_1524 : decode cL_law 1524 = .ok (.iadd, 1) := o_96 (bg_dL_law_1524 0 96 rfl)
theorem dL_law_1525 : decode cL_law 1525 = .ok (.iaload, 1) := o_46 (bg_dL_law_1524 1 46 rfl)
theorem dL_law_1526 : decode cL_law 1526 = .ok (.invokevirtual 146, 3) := o_182 (bg_dL_law_1524 2 182 rfl) (bg_dL_law_1524 3 0 rfl) (bg_dL_law_1524 4 146 rfl)
theorem dL_law_1529 : decode cL_law 1529 = .ok (.pop, 1) := o_87 (bg_dL_law_1524 5 87 rfl)
theorem dL_law_1530 : decode cL_law 1530 = .ok (.aload_n 2, 1) := o_44 (bg_dL_law_1524 6 44 rfl)
theorem dL_law_1531 : decode cL_law 1531 = .ok (.aload_n 0, 1) := o_42 (bg_dL_law_1524 7 42 rfl)
theorem dL_law_1532 : decode cL_law 1532 = .ok (.iload_n 3, 1) := o_29 (bg_dL_law_1524 8 29 rfl)
theorem dL_law_1533 : decode cL_law 1533 = .ok (.iconst 1, 1) := o_4 (bg_dL_law_1524 9 4 rfl)
theorem dL_law_1534 : decode cL_law 1534 = .ok (.iadd, 1) := o_96 (bg_dL_law_1524 10 96 rfl)
theorem dL_law_1535 : decode cL_law 1535 = .ok (.iaload, 1) := o_46 (bg_dL_law_1524 11 46 rfl)
theorem dL_law_1536 : decode cL_law 1536 = .ok (.aload_n 0, 1) := o_42 (bg_dL_law_1524 12 42 rfl)
theorem dL_law_1537 : decode cL_law 1537 = .ok (.iload_n 3, 1) := o_29 (bg_dL_law_1524 13 29 rfl)
theorem dL_law_1538 : decode cL_law 1538 = .ok (.iconst 2, 1) := o_5 (bg_dL_law_1524 14 5 rfl)
theorem dL_law_1539 : decode cL_law 1539 = .ok (.iadd, 1) := o_96 (bg_dL_law_1524 15 96 rfl)
theorem bg_dL_law_1540 : bysAt cL_law 1540 [46, 42, 29, 6, 96, 46, 42, 29, 7, 96, 46, 42, 29, 8] := bysAt_of (by decide +kernel)
theorem dL_law_1540 : decode cL_law 1540 = .ok (.iaload, 1) := o_46 (bg_dL_law_1540 0 46 rfl)
theorem dL_law_1541 : decode cL_law 1541 = .ok (.aload_n 0, 1) := o_42 (bg_dL_law_1540 1 42 rfl)
theorem dL_law_1542 : decode cL_law 1542 = .ok (.iload_n 3, 1) := o_29 (bg_dL_law_1540 2 29 rfl)
theorem dL_law_1543 : decode cL_law 1543 = .ok (.iconst 3, 1) := o_6 (bg_dL_law_1540 3 6 rfl)
theorem dL_law_1544 : decode cL_law 1544 = .ok (.iadd, 1) := o_96 (bg_dL_law_1540 4 96 rfl)
theorem dL_law_1545 : decode cL_law 1545 = .ok (.iaload, 1) := o_46 (bg_dL_law_1540 5 46 rfl)
theorem dL_law_1546 : decode cL_law 1546 = .ok (.aload_n 0, 1) := o_42 (bg_dL_law_1540 6 42 rfl)
theorem dL_law_1547 : decode cL_law 1547 = .ok (.iload_n 3, 1) := o_29 (bg_dL_law_1540 7 29 rfl)
theorem dL_law_1548 : decode cL_law 1548 = .ok (.iconst 4, 1) := o_7 (bg_dL_law_1540 8 7 rfl)
theorem dL_law_1549 : decode cL_law 1549 = .ok (.iadd, 1) := o_96 (bg_dL_law_1540 9 96 rfl)
theorem dL_law_1550 : decode cL_law 1550 = .ok (.iaload, 1) := o_46 (bg_dL_law_1540 10 46 rfl)
theorem dL_law_1551 : decode cL_law 1551 = .ok (.aload_n 0, 1) := o_42 (bg_dL_law_1540 11 42 rfl)
theorem dL_law_1552 : decode cL_law 1552 = .ok (.iload_n 3, 1) := o_29 (bg_dL_law_1540 12 29 rfl)
theorem dL_law_1553 : decode cL_law 1553 = .ok (.iconst 5, 1) := o_8 (bg_dL_law_1540 13 8 rfl)
theorem bg_dL_law_1554 : bysAt cL_law 1554 [96, 46, 182, 0, 149, 87, 167, 1, 229, 43, 42, 29, 4, 96, 46, 42, 29, 5] := bysAt_of (by decide +kernel)
theorem dL_law_1554 : decode cL_law 1554 = .ok (.iadd, 1) := o_96 (bg_dL_law_1554 0 96 rfl)
theorem dL_law_1555 : decode cL_law 1555 = .ok (.iaload, 1) := o_46 (bg_dL_law_1554 1 46 rfl)
theorem dL_law_1556 : decode cL_law 1556 = .ok (.invokevirtual 149, 3) := o_182 (bg_dL_law_1554 2 182 rfl) (bg_dL_law_1554 3 0 rfl) (bg_dL_law_1554 4 149 rfl)
theorem dL_law_1559 : decode cL_law 1559 = .ok (.pop, 1) := o_87 (bg_dL_law_1554 5 87 rfl)
theorem dL_law_1560 : decode cL_law 1560 = .ok (.goto 485, 3) := o_167 (bg_dL_law_1554 6 167 rfl) (bg_dL_law_1554 7 1 rfl) (bg_dL_law_1554 8 229 rfl) (by decide +kernel)
theorem dL_law_1563 : decode cL_law 1563 = .ok (.aload_n 1, 1) := o_43 (bg_dL_law_1554 9 43 rfl)
theorem dL_law_1564 : decode cL_law 1564 = .ok (.aload_n 0, 1) := o_42 (bg_dL_law_1554 10 42 rfl)
theorem dL_law_1565 : decode cL_law 1565 = .ok (.iload_n 3, 1) := o_29 (bg_dL_law_1554 11 29 rfl)
theorem dL_law_1566 : decode cL_law 1566 = .ok (.iconst 1, 1) := o_4 (bg_dL_law_1554 12 4 rfl)
theorem dL_law_1567 : decode cL_law 1567 = .ok (.iadd, 1) := o_96 (bg_dL_law_1554 13 96 rfl)
theorem dL_law_1568 : decode cL_law 1568 = .ok (.iaload, 1) := o_46 (bg_dL_law_1554 14 46 rfl)
theorem dL_law_1569 : decode cL_law 1569 = .ok (.aload_n 0, 1) := o_42 (bg_dL_law_1554 15 42 rfl)
theorem dL_law_1570 : decode cL_law 1570 = .ok (.iload_n 3, 1) := o_29 (bg_dL_law_1554 16 29 rfl)
theorem dL_law_1571 : decode cL_law 1571 = .ok (.iconst 2, 1) := o_5 (bg_dL_law_1554 17 5 rfl)
theorem bg_dL_law_1572 : bysAt cL_law 1572 [96, 46, 42, 29, 6, 96, 46, 42, 29, 7, 96, 46, 42, 29] := bysAt_of (by decide +kernel)
theorem dL_law_1572 : decode cL_law 1572 = .ok (.iadd, 1) := o_96 (bg_dL_law_1572 0 96 rfl)
theorem dL_law_1573 : decode cL_law 1573 = .ok (.iaload, 1) := o_46 (bg_dL_law_1572 1 46 rfl)
theorem dL_law_1574 : decode cL_law 1574 = .ok (.aload_n 0, 1) := o_42 (bg_dL_law_1572 2 42 rfl)
theorem dL_law_1575 : decode cL_law 1575 = .ok (.iload_n 3, 1) := o_29 (bg_dL_law_1572 3 29 rfl)
theorem dL_law_1576 : decode cL_law 1576 = .ok (.iconst 3, 1) := o_6 (bg_dL_law_1572 4 6 rfl)
theorem dL_law_1577 : decode cL_law 1577 = .ok (.iadd, 1) := o_96 (bg_dL_law_1572 5 96 rfl)
theorem dL_law_1578 : decode cL_law 1578 = .ok (.iaload, 1) := o_46 (bg_dL_law_1572 6 46 rfl)
theorem dL_law_1579 : decode cL_law 1579 = .ok (.aload_n 0, 1) := o_42 (bg_dL_law_1572 7 42 rfl)
theorem dL_law_1580 : decode cL_law 1580 = .ok (.iload_n 3, 1) := o_29 (bg_dL_law_1572 8 29 rfl)
theorem dL_law_1581 : decode cL_law 1581 = .ok (.iconst 4, 1) := o_7 (bg_dL_law_1572 9 7 rfl)
theorem dL_law_1582 : decode cL_law 1582 = .ok (.iadd, 1) := o_96 (bg_dL_law_1572 10 96 rfl)
theorem dL_law_1583 : decode cL_law 1583 = .ok (.iaload, 1) := o_46 (bg_dL_law_1572 11 46 rfl)
theorem dL_law_1584 : decode cL_law 1584 = .ok (.aload_n 0, 1) := o_42 (bg_dL_law_1572 12 42 rfl)
theorem dL_law_1585 : decode cL_law 1585 = .ok (.iload_n 3, 1) := o_29 (bg_dL_law_1572 13 29 rfl)
theorem bg_dL_law_1586 : bysAt cL_law 1586 [8, 96, 46, 42, 29, 16, 6, 96, 46, 182, 0, 150, 87, 44, 42, 29, 4] := bysAt_of (by decide +kernel)
theorem dL_law_1586 : decode cL_law 1586 = .ok (.iconst 5, 1) := o_8 (bg_dL_law_1586 0 8 rfl)
theorem dL_law_1587 : decode cL_law 1587 = .ok (.iadd, 1) := o_96 (bg_dL_law_1586 1 96 rfl)
theorem dL_law_1588 : decode cL_law 1588 = .ok (.iaload, 1) := o_46 (bg_dL_law_1586 2 46 rfl)
theorem dL_law_1589 : decode cL_law 1589 = .ok (.aload_n 0, 1) := o_42 (bg_dL_law_1586 3 42 rfl)
theorem dL_law_1590 : decode cL_law 1590 = .ok (.iload_n 3, 1) := o_29 (bg_dL_law_1586 4 29 rfl)
theorem dL_law_1591 : decode cL_law 1591 = .ok (.bipush 6, 2) := o_16 (bg_dL_law_1586 5 16 rfl) (bg_dL_law_1586 6 6 rfl) (by decide +kernel)
theorem dL_law_1593 : decode cL_law 1593 = .ok (.iadd, 1) := o_96 (bg_dL_law_1586 7 96 rfl)
theorem dL_law_1594 : decode cL_law 1594 = .ok (.iaload, 1) := o_46 (bg_dL_law_1586 8 46 rfl)
theorem dL_law_1595 : decode cL_law 1595 = .ok (.invokevirtual 150, 3) := o_182 (bg_dL_law_1586 9 182 rfl) (bg_dL_law_1586 10 0 rfl) (bg_dL_law_1586 11 150 rfl)
theorem dL_law_1598 : decode cL_law 1598 = .ok (.pop, 1) := o_87 (bg_dL_law_1586 12 87 rfl)
theorem dL_law_1599 : decode cL_law 1599 = .ok (.aload_n 2, 1) := o_44 (bg_dL_law_1586 13 44 rfl)
theorem dL_law_1600 : decode cL_law 1600 = .ok (.aload_n 0, 1) := o_42 (bg_dL_law_1586 14 42 rfl)
theorem dL_law_1601 : decode cL_law 1601 = .ok (.iload_n 3, 1) := o_29 (bg_dL_law_1586 15 29 rfl)
theorem dL_law_1602 : decode cL_law 1602 = .ok (.iconst 1, 1) := o_4 (bg_dL_law_1586 16 4 rfl)
theorem bg_dL_law_1603 : bysAt cL_law 1603 [96, 46, 42, 29, 5, 96, 46, 42, 29, 6, 96, 46, 42, 29] := bysAt_of (by decide +kernel)
theorem dL_law_1603 : decode cL_law 1603 = .ok (.iadd, 1) := o_96 (bg_dL_law_1603 0 96 rfl)
theorem dL_law_1604 : decode cL_law 1604 = .ok (.iaload, 1) := o_46 (bg_dL_law_1603 1 46 rfl)
theorem dL_law_1605 : decode cL_law 1605 = .ok (.aload_n 0, 1) := o_42 (bg_dL_law_1603 2 42 rfl)
theorem dL_law_1606 : decode cL_law 1606 = .ok (.iload_n 3, 1) := o_29 (bg_dL_law_1603 3 29 rfl)
theorem dL_law_1607 : decode cL_law 1607 = .ok (.iconst 2, 1) := o_5 (bg_dL_law_1603 4 5 rfl)
theorem dL_law_1608 : decode cL_law 1608 = .ok (.iadd, 1) := o_96 (bg_dL_law_1603 5 96 rfl)
theorem dL_law_1609 : decode cL_law 1609 = .ok (.iaload, 1) := o_46 (bg_dL_law_1603 6 46 rfl)
theorem dL_law_1610 : decode cL_law 1610 = .ok (.aload_n 0, 1) := o_42 (bg_dL_law_1603 7 42 rfl)
theorem dL_law_1611 : decode cL_law 1611 = .ok (.iload_n 3, 1) := o_29 (bg_dL_law_1603 8 29 rfl)
theorem dL_law_1612 : decode cL_law 1612 = .ok (.iconst 3, 1) := o_6 (bg_dL_law_1603 9 6 rfl)
theorem dL_law_1613 : decode cL_law 1613 = .ok (.iadd, 1) := o_96 (bg_dL_law_1603 10 96 rfl)
theorem dL_law_1614 : decode cL_law 1614 = .ok (.iaload, 1) := o_46 (bg_dL_law_1603 11 46 rfl)
theorem dL_law_1615 : decode cL_law 1615 = .ok (.aload_n 0, 1) := o_42 (bg_dL_law_1603 12 42 rfl)
theorem dL_law_1616 : decode cL_law 1616 = .ok (.iload_n 3, 1) := o_29 (bg_dL_law_1603 13 29 rfl)
theorem bg_dL_law_1617 : bysAt cL_law 1617 [7, 96, 46, 42, 29, 8, 96, 46, 42, 29, 16, 6, 96, 46, 182, 0, 153] := bysAt_of (by decide +kernel)
theorem dL_law_1617 : decode cL_law 1617 = .ok (.iconst 4, 1) := o_7 (bg_dL_law_1617 0 7 rfl)
theorem dL_law_1618 : decode cL_law 1618 = .ok (.iadd, 1) := o_96 (bg_dL_law_1617 1 96 rfl)
theorem dL_law_1619 : decode cL_law 1619 = .ok (.iaload, 1) := o_46 (bg_dL_law_1617 2 46 rfl)
theorem dL_law_1620 : decode cL_law 1620 = .ok (.aload_n 0, 1) := o_42 (bg_dL_law_1617 3 42 rfl)
theorem dL_law_1621 : decode cL_law 1621 = .ok (.iload_n 3, 1) := o_29 (bg_dL_law_1617 4 29 rfl)
theorem dL_law_1622 : decode cL_law 1622 = .ok (.iconst 5, 1) := o_8 (bg_dL_law_1617 5 8 rfl)
theorem dL_law_1623 : decode cL_law 1623 = .ok (.iadd, 1) := o_96 (bg_dL_law_1617 6 96 rfl)
theorem dL_law_1624 : decode cL_law 1624 = .ok (.iaload, 1) := o_46 (bg_dL_law_1617 7 46 rfl)
theorem dL_law_1625 : decode cL_law 1625 = .ok (.aload_n 0, 1) := o_42 (bg_dL_law_1617 8 42 rfl)
theorem dL_law_1626 : decode cL_law 1626 = .ok (.iload_n 3, 1) := o_29 (bg_dL_law_1617 9 29 rfl)
theorem dL_law_1627 : decode cL_law 1627 = .ok (.bipush 6, 2) := o_16 (bg_dL_law_1617 10 16 rfl) (bg_dL_law_1617 11 6 rfl) (by decide +kernel)
theorem dL_law_1629 : decode cL_law 1629 = .ok (.iadd, 1) := o_96 (bg_dL_law_1617 12 96 rfl)
theorem dL_law_1630 : decode cL_law 1630 = .ok (.iaload, 1) := o_46 (bg_dL_law_1617 13 46 rfl)
theorem dL_law_1631 : decode cL_law 1631 = .ok (.invokevirtual 153, 3) := o_182 (bg_dL_law_1617 14 182 rfl) (bg_dL_law_1617 15 0 rfl) (bg_dL_law_1617 16 153 rfl)
theorem bg_dL_law_1634 : bysAt cL_law 1634 [87, 167, 1, 154, 43, 42, 29, 4, 96, 46, 42, 29, 5, 96, 46, 42] := bysAt_of (by decide +kernel)
theorem dL_law_1634 : decode cL_law 1634 = .ok (.pop, 1) := o_87 (bg_dL_law_1634 0 87 rfl)
theorem dL_law_1635 : decode cL_law 1635 = .ok (.goto 410, 3) := o_167 (bg_dL_law_1634 1 167 rfl) (bg_dL_law_1634 2 1 rfl) (bg_dL_law_1634 3 154 rfl) (by decide +kernel)
theorem dL_law_1638 : decode cL_law 1638 = .ok (.aload_n 1, 1) := o_43 (bg_dL_law_1634 4 43 rfl)
theorem dL_law_1639 : decode cL_law 1639 = .ok (.aload_n 0, 1) := o_42 (bg_dL_law_1634 5 42 rfl)
theorem dL_law_1640 : decode cL_law 1640 = .ok (.iload_n 3, 1) := o_29 (bg_dL_law_1634 6 29 rfl)
theorem dL_law_1641 : decode cL_law 1641 = .ok (.iconst 1, 1) := o_4 (bg_dL_law_1634 7 4 rfl)
theorem dL_law_1642 : decode cL_law 1642 = .ok (.iadd, 1) := o_96 (bg_dL_law_1634 8 96 rfl)
theorem dL_law_1643 : decode cL_law 1643 = .ok (.iaload, 1) := o_46 (bg_dL_law_1634 9 46 rfl)
theorem dL_law_1644 : decode cL_law 1644 = .ok (.aload_n 0, 1) := o_42 (bg_dL_law_1634 10 42 rfl)
theorem dL_law_1645 : decode cL_law 1645 = .ok (.iload_n 3, 1) := o_29 (bg_dL_law_1634 11 29 rfl)
theorem dL_law_1646 : decode cL_law 1646 = .ok (.iconst 2, 1) := o_5 (bg_dL_law_1634 12 5 rfl)
theorem dL_law_1647 : decode cL_law 1647 = .ok (.iadd, 1) := o_96 (bg_dL_law_1634 13 96 rfl)
theorem dL_law_1648 : decode cL_law 1648 = .ok (.iaload, 1) := o_46 (bg_dL_law_1634 14 46 rfl)
theorem dL_law_1649 : decode cL_law 1649 = .ok (.aload_n 0, 1) := o_42 (bg_dL_law_1634 15 42 rfl)
theorem bg_dL_law_1650 : bysAt cL_law 1650 [29, 6, 96, 46, 182, 0, 154, 44, 42, 29, 4, 96, 46, 42, 29, 5] := bysAt_of (by decide +kernel)
theorem dL_law_1650 : decode cL_law 1650 = .ok (.iload_n 3, 1) := o_29 (bg_dL_law_1650 0 29 rfl)
theorem dL_law_1651 : decode cL_law 1651 = .ok (.iconst 3, 1) := o_6 (bg_dL_law_1650 1 6 rfl)
theorem dL_law_1652 : decode cL_law 1652 = .ok (.iadd, 1) := o_96 (bg_dL_law_1650 2 96 rfl)
theorem dL_law_1653 : decode cL_law 1653 = .ok (.iaload, 1) := o_46 (bg_dL_law_1650 3 46 rfl)
theorem dL_law_1654 : decode cL_law 1654 = .ok (.invokevirtual 154, 3) := o_182 (bg_dL_law_1650 4 182 rfl) (bg_dL_law_1650 5 0 rfl) (bg_dL_law_1650 6 154 rfl)
theorem dL_law_1657 : decode cL_law 1657 = .ok (.aload_n 2, 1) := o_44 (bg_dL_law_1650 7 44 rfl)
theorem dL_law_1658 : decode cL_law 1658 = .ok (.aload_n 0, 1) := o_42 (bg_dL_law_1650 8 42 rfl)
theorem dL_law_1659 : decode cL_law 1659 = .ok (.iload_n 3, 1) := o_29 (bg_dL_law_1650 9 29 rfl)
theorem dL_law_1660 : decode cL_law 1660 = .ok (.iconst 1, 1) := o_4 (bg_dL_law_1650 10 4 rfl)
theorem dL_law_1661 : decode cL_law 1661 = .ok (.iadd, 1) := o_96 (bg_dL_law_1650 11 96 rfl)
theorem dL_law_1662 : decode cL_law 1662 = .ok (.iaload, 1) := o_46 (bg_dL_law_1650 12 46 rfl)
theorem dL_law_1663 : decode cL_law 1663 = .ok (.aload_n 0, 1) := o_42 (bg_dL_law_1650 13 42 rfl)
theorem dL_law_1664 : decode cL_law 1664 = .ok (.iload_n 3, 1) := o_29 (bg_dL_law_1650 14 29 rfl)
theorem dL_law_1665 : decode cL_law 1665 = .ok (.iconst 2, 1) := o_5 (bg_dL_law_1650 15 5 rfl)
theorem bg_dL_law_1666 : bysAt cL_law 1666 [96, 46, 42, 29, 6, 96, 46, 182, 0, 157, 159, 1, 113, 3, 172, 43, 42, 29, 4, 96] := bysAt_of (by decide +kernel)
theorem dL_law_1666 : decode cL_law 1666 = .ok (.iadd, 1) := o_96 (bg_dL_law_1666 0 96 rfl)
theorem dL_law_1667 : decode cL_law 1667 = .ok (.iaload, 1) := o_46 (bg_dL_law_1666 1 46 rfl)
theorem dL_law_1668 : decode cL_law 1668 = .ok (.aload_n 0, 1) := o_42 (bg_dL_law_1666 2 42 rfl)
theorem dL_law_1669 : decode cL_law 1669 = .ok (.iload_n 3, 1) := o_29 (bg_dL_law_1666 3 29 rfl)
theorem dL_law_1670 : decode cL_law 1670 = .ok (.iconst 3, 1) := o_6 (bg_dL_law_1666 4 6 rfl)
theorem dL_law_1671 : decode cL_law 1671 = .ok (.iadd, 1) := o_96 (bg_dL_law_1666 5 96 rfl)
theorem dL_law_1672 : decode cL_law 1672 = .ok (.iaload, 1) := o_46 (bg_dL_law_1666 6 46 rfl)
theorem dL_law_1673 : decode cL_law 1673 = .ok (.invokevirtual 157, 3) := o_182 (bg_dL_law_1666 7 182 rfl) (bg_dL_law_1666 8 0 rfl) (bg_dL_law_1666 9 157 rfl)
theorem dL_law_1676 : decode cL_law 1676 = .ok (.if_icmp .eq 369, 3) := o_159 (bg_dL_law_1666 10 159 rfl) (bg_dL_law_1666 11 1 rfl) (bg_dL_law_1666 12 113 rfl) (by decide +kernel)
theorem dL_law_1681 : decode cL_law 1681 = .ok (.aload_n 1, 1) := o_43 (bg_dL_law_1666 15 43 rfl)
theorem dL_law_1682 : decode cL_law 1682 = .ok (.aload_n 0, 1) := o_42 (bg_dL_law_1666 16 42 rfl)
theorem dL_law_1683 : decode cL_law 1683 = .ok (.iload_n 3, 1) := o_29 (bg_dL_law_1666 17 29 rfl)
theorem dL_law_1684 : decode cL_law 1684 = .ok (.iconst 1, 1) := o_4 (bg_dL_law_1666 18 4 rfl)
theorem dL_law_1685 : decode cL_law 1685 = .ok (.iadd, 1) := o_96 (bg_dL_law_1666 19 96 rfl)
theorem bg_dL_law_1686 : bysAt cL_law 1686 [46, 42, 29, 5, 96, 46, 42, 29, 6, 96, 46, 42, 29, 7] := bysAt_of (by decide +kernel)
theorem dL_law_1686 : decode cL_law 1686 = .ok (.iaload, 1) := o_46 (bg_dL_law_1686 0 46 rfl)
theorem dL_law_1687 : decode cL_law 1687 = .ok (.aload_n 0, 1) := o_42 (bg_dL_law_1686 1 42 rfl)
theorem dL_law_1688 : decode cL_law 1688 = .ok (.iload_n 3, 1) := o_29 (bg_dL_law_1686 2 29 rfl)
theorem dL_law_1689 : decode cL_law 1689 = .ok (.iconst 2, 1) := o_5 (bg_dL_law_1686 3 5 rfl)
theorem dL_law_1690 : decode cL_law 1690 = .ok (.iadd, 1) := o_96 (bg_dL_law_1686 4 96 rfl)
theorem dL_law_1691 : decode cL_law 1691 = .ok (.iaload, 1) := o_46 (bg_dL_law_1686 5 46 rfl)
theorem dL_law_1692 : decode cL_law 1692 = .ok (.aload_n 0, 1) := o_42 (bg_dL_law_1686 6 42 rfl)
theorem dL_law_1693 : decode cL_law 1693 = .ok (.iload_n 3, 1) := o_29 (bg_dL_law_1686 7 29 rfl)
theorem dL_law_1694 : decode cL_law 1694 = .ok (.iconst 3, 1) := o_6 (bg_dL_law_1686 8 6 rfl)
theorem dL_law_1695 : decode cL_law 1695 = .ok (.iadd, 1) := o_96 (bg_dL_law_1686 9 96 rfl)
theorem dL_law_1696 : decode cL_law 1696 = .ok (.iaload, 1) := o_46 (bg_dL_law_1686 10 46 rfl)
theorem dL_law_1697 : decode cL_law 1697 = .ok (.aload_n 0, 1) := o_42 (bg_dL_law_1686 11 42 rfl)
theorem dL_law_1698 : decode cL_law 1698 = .ok (.iload_n 3, 1) := o_29 (bg_dL_law_1686 12 29 rfl)
theorem dL_law_1699 : decode cL_law 1699 = .ok (.iconst 4, 1) := o_7 (bg_dL_law_1686 13 7 rfl)
theorem bg_dL_law_1700 : bysAt cL_law 1700 [96, 46, 182, 0, 158, 87, 44, 42, 29, 4, 96, 46, 42, 29, 5, 96] := bysAt_of (by decide +kernel)
theorem dL_law_1700 : decode cL_law 1700 = .ok (.iadd, 1) := o_96 (bg_dL_law_1700 0 96 rfl)
theorem dL_law_1701 : decode cL_law 1701 = .ok (.iaload, 1) := o_46 (bg_dL_law_1700 1 46 rfl)
theorem dL_law_1702 : decode cL_law 1702 = .ok (.invokevirtual 158, 3) := o_182 (bg_dL_law_1700 2 182 rfl) (bg_dL_law_1700 3 0 rfl) (bg_dL_law_1700 4 158 rfl)
theorem dL_law_1705 : decode cL_law 1705 = .ok (.pop, 1) := o_87 (bg_dL_law_1700 5 87 rfl)
theorem dL_law_1706 : decode cL_law 1706 = .ok (.aload_n 2, 1) := o_44 (bg_dL_law_1700 6 44 rfl)
theorem dL_law_1707 : decode cL_law 1707 = .ok (.aload_n 0, 1) := o_42 (bg_dL_law_1700 7 42 rfl)
theorem dL_law_1708 : decode cL_law 1708 = .ok (.iload_n 3, 1) := o_29 (bg_dL_law_1700 8 29 rfl)
theorem dL_law_1709 : decode cL_law 1709 = .ok (.iconst 1, 1) := o_4 (bg_dL_law_1700 9 4 rfl)
theorem dL_law_1710 : decode cL_law 1710 = .ok (.iadd, 1) := o_96 (bg_dL_law_1700 10 96 rfl)
theorem dL_law_1711 : decode cL_law 1711 = .ok (.iaload, 1) := o_46 (bg_dL_law_1700 11 46 rfl)
theorem dL_law_1712 : decode cL_law 1712 = .ok (.aload_n 0, 1) := o_42 (bg_dL_law_1700 12 42 rfl)
theorem dL_law_1713 : decode cL_law 1713 = .ok (.iload_n 3, 1) := o_29 (bg_dL_law_1700 13 29 rfl)
theorem dL_law_1714 : decode cL_law 1714 = .ok (.iconst 2, 1) := o_5 (bg_dL_law_1700 14 5 rfl)
theorem dL_law_1715 : decode cL_law 1715 = .ok (.iadd, 1) := o_96 (bg_dL_law_1700 15 96 rfl)
theorem bg_dL_law_1716 : bysAt cL_law 1716 [46, 42, 29, 6, 96, 46, 42, 29, 7, 96, 46, 182, 0, 161, 87, 167, 1, 58] := bysAt_of (by decide +kernel)
theorem dL_law_1716 : decode cL_law 1716 = .ok (.iaload, 1) := o_46 (bg_dL_law_1716 0 46 rfl)
theorem dL_law_1717 : decode cL_law 1717 = .ok (.aload_n 0, 1) := o_42 (bg_dL_law_1716 1 42 rfl)
theorem dL_law_1718 : decode cL_law 1718 = .ok (.iload_n 3, 1) := o_29 (bg_dL_law_1716 2 29 rfl)
theorem dL_law_1719 : decode cL_law 1719 = .ok (.iconst 3, 1) := o_6 (bg_dL_law_1716 3 6 rfl)
theorem dL_law_1720 : decode cL_law 1720 = .ok (.iadd, 1) := o_96 (bg_dL_law_1716 4 96 rfl)
theorem dL_law_1721 : decode cL_law 1721 = .ok (.iaload, 1) := o_46 (bg_dL_law_1716 5 46 rfl)
theorem dL_law_1722 : decode cL_law 1722 = .ok (.aload_n 0, 1) := o_42 (bg_dL_law_1716 6 42 rfl)
theorem dL_law_1723 : decode cL_law 1723 = .ok (.iload_n 3, 1) := o_29 (bg_dL_law_1716 7 29 rfl)
theorem dL_law_1724 : decode cL_law 1724 = .ok (.iconst 4, 1) := o_7 (bg_dL_law_1716 8 7 rfl)
theorem dL_law_1725 : decode cL_law 1725 = .ok (.iadd, 1) := o_96 (bg_dL_law_1716 9 96 rfl)
theorem dL_law_1726 : decode cL_law 1726 = .ok (.iaload, 1) := o_46 (bg_dL_law_1716 10 46 rfl)
theorem dL_law_1727 : decode cL_law 1727 = .ok (.invokevirtual 161, 3) := o_182 (bg_dL_law_1716 11 182 rfl) (bg_dL_law_1716 12 0 rfl) (bg_dL_law_1716 13 161 rfl)
theorem dL_law_1730 : decode cL_law 1730 = .ok (.pop, 1) := o_87 (bg_dL_law_1716 14 87 rfl)
theorem dL_law_1731 : decode cL_law 1731 = .ok (.goto 314, 3) := o_167 (bg_dL_law_1716 15 167 rfl) (bg_dL_law_1716 16 1 rfl) (bg_dL_law_1716 17 58 rfl) (by decide +kernel)
theorem bg_dL_law_1734 : bysAt cL_law 1734 [43, 42, 29, 4, 96, 46, 42, 29, 5, 96, 46, 42, 29, 6] := bysAt_of (by decide +kernel)
theorem dL_law_1734 : decode cL_law 1734 = .ok (.aload_n 1, 1) := o_43 (bg_dL_law_1734 0 43 rfl)
theorem dL_law_1735 : decode cL_law 1735 = .ok (.aload_n 0, 1) := o_42 (bg_dL_law_1734 1 42 rfl)
theorem dL_law_1736 : decode cL_law 1736 = .ok (.iload_n 3, 1) := o_29 (bg_dL_law_1734 2 29 rfl)
theorem dL_law_1737 : decode cL_law 1737 = .ok (.iconst 1, 1) := o_4 (bg_dL_law_1734 3 4 rfl)
theorem dL_law_1738 : decode cL_law 1738 = .ok (.iadd, 1) := o_96 (bg_dL_law_1734 4 96 rfl)
theorem dL_law_1739 : decode cL_law 1739 = .ok (.iaload, 1) := o_46 (bg_dL_law_1734 5 46 rfl)
theorem dL_law_1740 : decode cL_law 1740 = .ok (.aload_n 0, 1) := o_42 (bg_dL_law_1734 6 42 rfl)
theorem dL_law_1741 : decode cL_law 1741 = .ok (.iload_n 3, 1) := o_29 (bg_dL_law_1734 7 29 rfl)
theorem dL_law_1742 : decode cL_law 1742 = .ok (.iconst 2, 1) := o_5 (bg_dL_law_1734 8 5 rfl)
theorem dL_law_1743 : decode cL_law 1743 = .ok (.iadd, 1) := o_96 (bg_dL_law_1734 9 96 rfl)
theorem dL_law_1744 : decode cL_law 1744 = .ok (.iaload, 1) := o_46 (bg_dL_law_1734 10 46 rfl)
theorem dL_law_1745 : decode cL_law 1745 = .ok (.aload_n 0, 1) := o_42 (bg_dL_law_1734 11 42 rfl)
theorem dL_law_1746 : decode cL_law 1746 = .ok (.iload_n 3, 1) := o_29 (bg_dL_law_1734 12 29 rfl)
theorem dL_law_1747 : decode cL_law 1747 = .ok (.iconst 3, 1) := o_6 (bg_dL_law_1734 13 6 rfl)
theorem bg_dL_law_1748 : bysAt cL_law 1748 [96, 46, 182, 0, 162, 87, 44, 42, 29, 4, 96, 46, 42, 29, 5, 96] := bysAt_of (by decide +kernel)
theorem dL_law_1748 : decode cL_law 1748 = .ok (.iadd, 1) := o_96 (bg_dL_law_1748 0 96 rfl)
theorem dL_law_1749 : decode cL_law 1749 = .ok (.iaload, 1) := o_46 (bg_dL_law_1748 1 46 rfl)
theorem dL_law_1750 : decode cL_law 1750 = .ok (.invokevirtual 162, 3) := o_182 (bg_dL_law_1748 2 182 rfl) (bg_dL_law_1748 3 0 rfl) (bg_dL_law_1748 4 162 rfl)
theorem dL_law_1753 : decode cL_law 1753 = .ok (.pop, 1) := o_87 (bg_dL_law_1748 5 87 rfl)
theorem dL_law_1754 : decode cL_law 1754 = .ok (.aload_n 2, 1) := o_44 (bg_dL_law_1748 6 44 rfl)
theorem dL_law_1755 : decode cL_law 1755 = .ok (.aload_n 0, 1) := o_42 (bg_dL_law_1748 7 42 rfl)
theorem dL_law_1756 : decode cL_law 1756 = .ok (.iload_n 3, 1) := o_29 (bg_dL_law_1748 8 29 rfl)
theorem dL_law_1757 : decode cL_law 1757 = .ok (.iconst 1, 1) := o_4 (bg_dL_law_1748 9 4 rfl)
theorem dL_law_1758 : decode cL_law 1758 = .ok (.iadd, 1) := o_96 (bg_dL_law_1748 10 96 rfl)
theorem dL_law_1759 : decode cL_law 1759 = .ok (.iaload, 1) := o_46 (bg_dL_law_1748 11 46 rfl)
theorem dL_law_1760 : decode cL_law 1760 = .ok (.aload_n 0, 1) := o_42 (bg_dL_law_1748 12 42 rfl)
theorem dL_law_1761 : decode cL_law 1761 = .ok (.iload_n 3, 1) := o_29 (bg_dL_law_1748 13 29 rfl)
theorem dL_law_1762 : decode cL_law 1762 = .ok (.iconst 2, 1) := o_5 (bg_dL_law_1748 14 5 rfl)
theorem dL_law_1763 : decode cL_law 1763 = .ok (.iadd, 1) := o_96 (bg_dL_law_1748 15 96 rfl)
theorem bg_dL_law_1764 : bysAt cL_law 1764 [46, 42, 29, 6, 96, 46, 182, 0, 165, 87, 167, 1, 15, 43, 42, 29, 4, 96] := bysAt_of (by decide +kernel)
theorem dL_law_1764 : decode cL_law 1764 = .ok (.iaload, 1) := o_46 (bg_dL_law_1764 0 46 rfl)
theorem dL_law_1765 : decode cL_law 1765 = .ok (.aload_n 0, 1) := o_42 (bg_dL_law_1764 1 42 rfl)
theorem dL_law_1766 : decode cL_law 1766 = .ok (.iload_n 3, 1) := o_29 (bg_dL_law_1764 2 29 rfl)
theorem dL_law_1767 : decode cL_law 1767 = .ok (.iconst 3, 1) := o_6 (bg_dL_law_1764 3 6 rfl)
theorem dL_law_1768 : decode cL_law 1768 = .ok (.iadd, 1) := o_96 (bg_dL_law_1764 4 96 rfl)
theorem dL_law_1769 : decode cL_law 1769 = .ok (.iaload, 1) := o_46 (bg_dL_law_1764 5 46 rfl)
theorem dL_law_1770 : decode cL_law 1770 = .ok (.invokevirtual 165, 3) := o_182 (bg_dL_law_1764 6 182 rfl) (bg_dL_law_1764 7 0 rfl) (bg_dL_law_1764 8 165 rfl)
theorem dL_law_1773 : decode cL_law 1773 = .ok (.pop, 1) := o_87 (bg_dL_law_1764 9 87 rfl)
theorem dL_law_1774 : decode cL_law 1774 = .ok (.goto 271, 3) := o_167 (bg_dL_law_1764 10 167 rfl) (bg_dL_law_1764 11 1 rfl) (bg_dL_law_1764 12 15 rfl) (by decide +kernel)
theorem dL_law_1777 : decode cL_law 1777 = .ok (.aload_n 1, 1) := o_43 (bg_dL_law_1764 13 43 rfl)
theorem dL_law_1778 : decode cL_law 1778 = .ok (.aload_n 0, 1) := o_42 (bg_dL_law_1764 14 42 rfl)
theorem dL_law_1779 : decode cL_law 1779 = .ok (.iload_n 3, 1) := o_29 (bg_dL_law_1764 15 29 rfl)
theorem dL_law_1780 : decode cL_law 1780 = .ok (.iconst 1, 1) := o_4 (bg_dL_law_1764 16 4 rfl)
theorem dL_law_1781 : decode cL_law 1781 = .ok (.iadd, 1) := o_96 (bg_dL_law_1764 17 96 rfl)
theorem bg_dL_law_1782 : bysAt cL_law 1782 [46, 42, 29, 5, 96, 46, 42, 29, 6, 96, 46, 182, 0, 166, 87, 44] := bysAt_of (by decide +kernel)
theorem dL_law_1782 : decode cL_law 1782 = .ok (.iaload, 1) := o_46 (bg_dL_law_1782 0 46 rfl)
theorem dL_law_1783 : decode cL_law 1783 = .ok (.aload_n 0, 1) := o_42 (bg_dL_law_1782 1 42 rfl)
theorem dL_law_1784 : decode cL_law 1784 = .ok (.iload_n 3, 1) := o_29 (bg_dL_law_1782 2 29 rfl)
theorem dL_law_1785 : decode cL_law 1785 = .ok (.iconst 2, 1) := o_5 (bg_dL_law_1782 3 5 rfl)
theorem dL_law_1786 : decode cL_law 1786 = .ok (.iadd, 1) := o_96 (bg_dL_law_1782 4 96 rfl)
theorem dL_law_1787 : decode cL_law 1787 = .ok (.iaload, 1) := o_46 (bg_dL_law_1782 5 46 rfl)
theorem dL_law_1788 : decode cL_law 1788 = .ok (.aload_n 0, 1) := o_42 (bg_dL_law_1782 6 42 rfl)
theorem dL_law_1789 : decode cL_law 1789 = .ok (.iload_n 3, 1) := o_29 (bg_dL_law_1782 7 29 rfl)
theorem dL_law_1790 : decode cL_law 1790 = .ok (.iconst 3, 1) := o_6 (bg_dL_law_1782 8 6 rfl)
theorem dL_law_1791 : decode cL_law 1791 = .ok (.iadd, 1) := o_96 (bg_dL_law_1782 9 96 rfl)
theorem dL_law_1792 : decode cL_law 1792 = .ok (.iaload, 1) := o_46 (bg_dL_law_1782 10 46 rfl)
theorem dL_law_1793 : decode cL_law 1793 = .ok (.invokevirtual 166, 3) := o_182 (bg_dL_law_1782 11 182 rfl) (bg_dL_law_1782 12 0 rfl) (bg_dL_law_1782 13 166 rfl)
theorem dL_law_1796 : decode cL_law 1796 = .ok (.pop, 1) := o_87 (bg_dL_law_1782 14 87 rfl)
theorem dL_law_1797 : decode cL_law 1797 = .ok (.aload_n 2, 1) := o_44 (bg_dL_law_1782 15 44 rfl)
theorem bg_dL_law_1798 : bysAt cL_law 1798 [42, 29, 4, 96, 46, 42, 29, 5, 96, 46, 42, 29, 6, 96] := bysAt_of (by decide +kernel)
theorem dL_law_1798 : decode cL_law 1798 = .ok (.aload_n 0, 1) := o_42 (bg_dL_law_1798 0 42 rfl)
theorem dL_law_1799 : decode cL_law 1799 = .ok (.iload_n 3, 1) := o_29 (bg_dL_law_1798 1 29 rfl)
theorem dL_law_1800 : decode cL_law 1800 = .ok (.iconst 1, 1) := o_4 (bg_dL_law_1798 2 4 rfl)
theorem dL_law_1801 : decode cL_law 1801 = .ok (.iadd, 1) := o_96 (bg_dL_law_1798 3 96 rfl)
theorem dL_law_1802 : decode cL_law 1802 = .ok (.iaload, 1) := o_46 (bg_dL_law_1798 4 46 rfl)
theorem dL_law_1803 : decode cL_law 1803 = .ok (.aload_n 0, 1) := o_42 (bg_dL_law_1798 5 42 rfl)
theorem dL_law_1804 : decode cL_law 1804 = .ok (.iload_n 3, 1) := o_29 (bg_dL_law_1798 6 29 rfl)
theorem dL_law_1805 : decode cL_law 1805 = .ok (.iconst 2, 1) := o_5 (bg_dL_law_1798 7 5 rfl)
theorem dL_law_1806 : decode cL_law 1806 = .ok (.iadd, 1) := o_96 (bg_dL_law_1798 8 96 rfl)
theorem dL_law_1807 : decode cL_law 1807 = .ok (.iaload, 1) := o_46 (bg_dL_law_1798 9 46 rfl)
theorem dL_law_1808 : decode cL_law 1808 = .ok (.aload_n 0, 1) := o_42 (bg_dL_law_1798 10 42 rfl)
theorem dL_law_1809 : decode cL_law 1809 = .ok (.iload_n 3, 1) := o_29 (bg_dL_law_1798 11 29 rfl)
theorem dL_law_1810 : decode cL_law 1810 = .ok (.iconst 3, 1) := o_6 (bg_dL_law_1798 12 6 rfl)
theorem dL_law_1811 : decode cL_law 1811 = .ok (.iadd, 1) := o_96 (bg_dL_law_1798 13 96 rfl)
theorem bg_dL_law_1812 : bysAt cL_law 1812 [46, 182, 0, 169, 87, 167, 0, 228, 43, 42, 29, 4, 96, 46, 42, 29, 5, 96] := bysAt_of (by decide +kernel)
theorem dL_law_1812 : decode cL_law 1812 = .ok (.iaload, 1) := o_46 (bg_dL_law_1812 0 46 rfl)
theorem dL_law_1813 : decode cL_law 1813 = .ok (.invokevirtual 169, 3) := o_182 (bg_dL_law_1812 1 182 rfl) (bg_dL_law_1812 2 0 rfl) (bg_dL_law_1812 3 169 rfl)
theorem dL_law_1816 : decode cL_law 1816 = .ok (.pop, 1) := o_87 (bg_dL_law_1812 4 87 rfl)
theorem dL_law_1817 : decode cL_law 1817 = .ok (.goto 228, 3) := o_167 (bg_dL_law_1812 5 167 rfl) (bg_dL_law_1812 6 0 rfl) (bg_dL_law_1812 7 228 rfl) (by decide +kernel)
theorem dL_law_1820 : decode cL_law 1820 = .ok (.aload_n 1, 1) := o_43 (bg_dL_law_1812 8 43 rfl)
theorem dL_law_1821 : decode cL_law 1821 = .ok (.aload_n 0, 1) := o_42 (bg_dL_law_1812 9 42 rfl)
theorem dL_law_1822 : decode cL_law 1822 = .ok (.iload_n 3, 1) := o_29 (bg_dL_law_1812 10 29 rfl)
theorem dL_law_1823 : decode cL_law 1823 = .ok (.iconst 1, 1) := o_4 (bg_dL_law_1812 11 4 rfl)
theorem dL_law_1824 : decode cL_law 1824 = .ok (.iadd, 1) := o_96 (bg_dL_law_1812 12 96 rfl)
theorem dL_law_1825 : decode cL_law 1825 = .ok (.iaload, 1) := o_46 (bg_dL_law_1812 13 46 rfl)
theorem dL_law_1826 : decode cL_law 1826 = .ok (.aload_n 0, 1) := o_42 (bg_dL_law_1812 14 42 rfl)
theorem dL_law_1827 : decode cL_law 1827 = .ok (.iload_n 3, 1) := o_29 (bg_dL_law_1812 15 29 rfl)
theorem dL_law_1828 : decode cL_law 1828 = .ok (.iconst 2, 1) := o_5 (bg_dL_law_1812 16 5 rfl)
theorem dL_law_1829 : decode cL_law 1829 = .ok (.iadd, 1) := o_96 (bg_dL_law_1812 17 96 rfl)
theorem bg_dL_law_1830 : bysAt cL_law 1830 [46, 42, 29, 6, 96, 46, 42, 29, 7, 96, 46, 42, 29, 8] := bysAt_of (by decide +kernel)
theorem dL_law_1830 : decode cL_law 1830 = .ok (.iaload, 1) := o_46 (bg_dL_law_1830 0 46 rfl)
theorem dL_law_1831 : decode cL_law 1831 = .ok (.aload_n 0, 1) := o_42 (bg_dL_law_1830 1 42 rfl)
theorem dL_law_1832 : decode cL_law 1832 = .ok (.iload_n 3, 1) := o_29 (bg_dL_law_1830 2 29 rfl)
theorem dL_law_1833 : decode cL_law 1833 = .ok (.iconst 3, 1) := o_6 (bg_dL_law_1830 3 6 rfl)
theorem dL_law_1834 : decode cL_law 1834 = .ok (.iadd, 1) := o_96 (bg_dL_law_1830 4 96 rfl)
theorem dL_law_1835 : decode cL_law 1835 = .ok (.iaload, 1) := o_46 (bg_dL_law_1830 5 46 rfl)
theorem dL_law_1836 : decode cL_law 1836 = .ok (.aload_n 0, 1) := o_42 (bg_dL_law_1830 6 42 rfl)
theorem dL_law_1837 : decode cL_law 1837 = .ok (.iload_n 3, 1) := o_29 (bg_dL_law_1830 7 29 rfl)
theorem dL_law_1838 : decode cL_law 1838 = .ok (.iconst 4, 1) := o_7 (bg_dL_law_1830 8 7 rfl)
theorem dL_law_1839 : decode cL_law 1839 = .ok (.iadd, 1) := o_96 (bg_dL_law_1830 9 96 rfl)
theorem dL_law_1840 : decode cL_law 1840 = .ok (.iaload, 1) := o_46 (bg_dL_law_1830 10 46 rfl)
theorem dL_law_1841 : decode cL_law 1841 = .ok (.aload_n 0, 1) := o_42 (bg_dL_law_1830 11 42 rfl)
theorem dL_law_1842 : decode cL_law 1842 = .ok (.iload_n 3, 1) := o_29 (bg_dL_law_1830 12 29 rfl)
theorem dL_law_1843 : decode cL_law 1843 = .ok (.iconst 5, 1) := o_8 (bg_dL_law_1830 13 8 rfl)
theorem bg_dL_law_1844 : bysAt cL_law 1844 [96, 46, 42, 29, 16, 6, 96, 46, 42, 29, 16, 7, 96, 46, 182, 0, 170, 88] := bysAt_of (by decide +kernel)
theorem dL_law_1844 : decode cL_law 1844 = .ok (.iadd, 1) := o_96 (bg_dL_law_1844 0 96 rfl)
theorem dL_law_1845 : decode cL_law 1845 = .ok (.iaload, 1) := o_46 (bg_dL_law_1844 1 46 rfl)
theorem dL_law_1846 : decode cL_law 1846 = .ok (.aload_n 0, 1) := o_42 (bg_dL_law_1844 2 42 rfl)
theorem dL_law_1847 : decode cL_law 1847 = .ok (.iload_n 3, 1) := o_29 (bg_dL_law_1844 3 29 rfl)
theorem dL_law_1848 : decode cL_law 1848 = .ok (.bipush 6, 2) := o_16 (bg_dL_law_1844 4 16 rfl) (bg_dL_law_1844 5 6 rfl) (by decide +kernel)
theorem dL_law_1850 : decode cL_law 1850 = .ok (.iadd, 1) := o_96 (bg_dL_law_1844 6 96 rfl)
theorem dL_law_1851 : decode cL_law 1851 = .ok (.iaload, 1) := o_46 (bg_dL_law_1844 7 46 rfl)
theorem dL_law_1852 : decode cL_law 1852 = .ok (.aload_n 0, 1) := o_42 (bg_dL_law_1844 8 42 rfl)
theorem dL_law_1853 : decode cL_law 1853 = .ok (.iload_n 3, 1) := o_29 (bg_dL_law_1844 9 29 rfl)
theorem dL_law_1854 : decode cL_law 1854 = .ok (.bipush 7, 2) := o_16 (bg_dL_law_1844 10 16 rfl) (bg_dL_law_1844 11 7 rfl) (by decide +kernel)
theorem dL_law_1856 : decode cL_law 1856 = .ok (.iadd, 1) := o_96 (bg_dL_law_1844 12 96 rfl)
theorem dL_law_1857 : decode cL_law 1857 = .ok (.iaload, 1) := o_46 (bg_dL_law_1844 13 46 rfl)
theorem dL_law_1858 : decode cL_law 1858 = .ok (.invokevirtual 170, 3) := o_182 (bg_dL_law_1844 14 182 rfl) (bg_dL_law_1844 15 0 rfl) (bg_dL_law_1844 16 170 rfl)
theorem dL_law_1861 : decode cL_law 1861 = .ok (.pop2, 1) := o_88 (bg_dL_law_1844 17 88 rfl)
theorem bg_dL_law_1862 : bysAt cL_law 1862 [44, 42, 29, 4, 96, 46, 42, 29, 5, 96, 46, 42, 29, 6] := bysAt_of (by decide +kernel)
theorem dL_law_1862 : decode cL_law 1862 = .ok (.aload_n 2, 1) := o_44 (bg_dL_law_1862 0 44 rfl)
theorem dL_law_1863 : decode cL_law 1863 = .ok (.aload_n 0, 1) := o_42 (bg_dL_law_1862 1 42 rfl)
theorem dL_law_1864 : decode cL_law 1864 = .ok (.iload_n 3, 1) := o_29 (bg_dL_law_1862 2 29 rfl)
theorem dL_law_1865 : decode cL_law 1865 = .ok (.iconst 1, 1) := o_4 (bg_dL_law_1862 3 4 rfl)
theorem dL_law_1866 : decode cL_law 1866 = .ok (.iadd, 1) := o_96 (bg_dL_law_1862 4 96 rfl)
theorem dL_law_1867 : decode cL_law 1867 = .ok (.iaload, 1) := o_46 (bg_dL_law_1862 5 46 rfl)
theorem dL_law_1868 : decode cL_law 1868 = .ok (.aload_n 0, 1) := o_42 (bg_dL_law_1862 6 42 rfl)
theorem dL_law_1869 : decode cL_law 1869 = .ok (.iload_n 3, 1) := o_29 (bg_dL_law_1862 7 29 rfl)
theorem dL_law_1870 : decode cL_law 1870 = .ok (.iconst 2, 1) := o_5 (bg_dL_law_1862 8 5 rfl)
theorem dL_law_1871 : decode cL_law 1871 = .ok (.iadd, 1) := o_96 (bg_dL_law_1862 9 96 rfl)
theorem dL_law_1872 : decode cL_law 1872 = .ok (.iaload, 1) := o_46 (bg_dL_law_1862 10 46 rfl)
theorem dL_law_1873 : decode cL_law 1873 = .ok (.aload_n 0, 1) := o_42 (bg_dL_law_1862 11 42 rfl)
theorem dL_law_1874 : decode cL_law 1874 = .ok (.iload_n 3, 1) := o_29 (bg_dL_law_1862 12 29 rfl)
theorem dL_law_1875 : decode cL_law 1875 = .ok (.iconst 3, 1) := o_6 (bg_dL_law_1862 13 6 rfl)
theorem bg_dL_law_1876 : bysAt cL_law 1876 [96, 46, 42, 29, 7, 96, 46, 42, 29, 8, 96, 46, 42, 29] := bysAt_of (by decide +kernel)
theorem dL_law_1876 : decode cL_law 1876 = .ok (.iadd, 1) := o_96 (bg_dL_law_1876 0 96 rfl)
theorem dL_law_1877 : decode cL_law 1877 = .ok (.iaload, 1) := o_46 (bg_dL_law_1876 1 46 rfl)
theorem dL_law_1878 : decode cL_law 1878 = .ok (.aload_n 0, 1) := o_42 (bg_dL_law_1876 2 42 rfl)
theorem dL_law_1879 : decode cL_law 1879 = .ok (.iload_n 3, 1) := o_29 (bg_dL_law_1876 3 29 rfl)
theorem dL_law_1880 : decode cL_law 1880 = .ok (.iconst 4, 1) := o_7 (bg_dL_law_1876 4 7 rfl)
theorem dL_law_1881 : decode cL_law 1881 = .ok (.iadd, 1) := o_96 (bg_dL_law_1876 5 96 rfl)
theorem dL_law_1882 : decode cL_law 1882 = .ok (.iaload, 1) := o_46 (bg_dL_law_1876 6 46 rfl)
theorem dL_law_1883 : decode cL_law 1883 = .ok (.aload_n 0, 1) := o_42 (bg_dL_law_1876 7 42 rfl)
theorem dL_law_1884 : decode cL_law 1884 = .ok (.iload_n 3, 1) := o_29 (bg_dL_law_1876 8 29 rfl)
theorem dL_law_1885 : decode cL_law 1885 = .ok (.iconst 5, 1) := o_8 (bg_dL_law_1876 9 8 rfl)
theorem dL_law_1886 : decode cL_law 1886 = .ok (.iadd, 1) := o_96 (bg_dL_law_1876 10 96 rfl)
theorem dL_law_1887 : decode cL_law 1887 = .ok (.iaload, 1) := o_46 (bg_dL_law_1876 11 46 rfl)
theorem dL_law_1888 : decode cL_law 1888 = .ok (.aload_n 0, 1) := o_42 (bg_dL_law_1876 12 42 rfl)
theorem dL_law_1889 : decode cL_law 1889 = .ok (.iload_n 3, 1) := o_29 (bg_dL_law_1876 13 29 rfl)
theorem bg_dL_law_1890 : bysAt cL_law 1890 [16, 6, 96, 46, 42, 29, 16, 7, 96, 46, 182, 0, 174, 88, 167, 0, 141, 43, 42, 29] := bysAt_of (by decide +kernel)
theorem dL_law_1890 : decode cL_law 1890 = .ok (.bipush 6, 2) := o_16 (bg_dL_law_1890 0 16 rfl) (bg_dL_law_1890 1 6 rfl) (by decide +kernel)
theorem dL_law_1892 : decode cL_law 1892 = .ok (.iadd, 1) := o_96 (bg_dL_law_1890 2 96 rfl)
theorem dL_law_1893 : decode cL_law 1893 = .ok (.iaload, 1) := o_46 (bg_dL_law_1890 3 46 rfl)
theorem dL_law_1894 : decode cL_law 1894 = .ok (.aload_n 0, 1) := o_42 (bg_dL_law_1890 4 42 rfl)
theorem dL_law_1895 : decode cL_law 1895 = .ok (.iload_n 3, 1) := o_29 (bg_dL_law_1890 5 29 rfl)
theorem dL_law_1896 : decode cL_law 1896 = .ok (.bipush 7, 2) := o_16 (bg_dL_law_1890 6 16 rfl) (bg_dL_law_1890 7 7 rfl) (by decide +kernel)
theorem dL_law_1898 : decode cL_law 1898 = .ok (.iadd, 1) := o_96 (bg_dL_law_1890 8 96 rfl)
theorem dL_law_1899 : decode cL_law 1899 = .ok (.iaload, 1) := o_46 (bg_dL_law_1890 9 46 rfl)
theorem dL_law_1900 : decode cL_law 1900 = .ok (.invokevirtual 174, 3) := o_182 (bg_dL_law_1890 10 182 rfl) (bg_dL_law_1890 11 0 rfl) (bg_dL_law_1890 12 174 rfl)
theorem dL_law_1903 : decode cL_law 1903 = .ok (.pop2, 1) := o_88 (bg_dL_law_1890 13 88 rfl)
theorem dL_law_1904 : decode cL_law 1904 = .ok (.goto 141, 3) := o_167 (bg_dL_law_1890 14 167 rfl) (bg_dL_law_1890 15 0 rfl) (bg_dL_law_1890 16 141 rfl) (by decide +kernel)
theorem dL_law_1907 : decode cL_law 1907 = .ok (.aload_n 1, 1) := o_43 (bg_dL_law_1890 17 43 rfl)
theorem dL_law_1908 : decode cL_law 1908 = .ok (.aload_n 0, 1) := o_42 (bg_dL_law_1890 18 42 rfl)
theorem dL_law_1909 : decode cL_law 1909 = .ok (.iload_n 3, 1) := o_29 (bg_dL_law_1890 19 29 rfl)
theorem bg_dL_law_1910 : bysAt cL_law 1910 [4, 96, 46, 42, 29, 5, 96, 46, 42, 29, 6, 96, 46, 42] := bysAt_of (by decide +kernel)
theorem dL_law_1910 : decode cL_law 1910 = .ok (.iconst 1, 1) := o_4 (bg_dL_law_1910 0 4 rfl)
theorem dL_law_1911 : decode cL_law 1911 = .ok (.iadd, 1) := o_96 (bg_dL_law_1910 1 96 rfl)
theorem dL_law_1912 : decode cL_law 1912 = .ok (.iaload, 1) := o_46 (bg_dL_law_1910 2 46 rfl)
theorem dL_law_1913 : decode cL_law 1913 = .ok (.aload_n 0, 1) := o_42 (bg_dL_law_1910 3 42 rfl)
theorem dL_law_1914 : decode cL_law 1914 = .ok (.iload_n 3, 1) := o_29 (bg_dL_law_1910 4 29 rfl)
theorem dL_law_1915 : decode cL_law 1915 = .ok (.iconst 2, 1) := o_5 (bg_dL_law_1910 5 5 rfl)
theorem dL_law_1916 : decode cL_law 1916 = .ok (.iadd, 1) := o_96 (bg_dL_law_1910 6 96 rfl)
theorem dL_law_1917 : decode cL_law 1917 = .ok (.iaload, 1) := o_46 (bg_dL_law_1910 7 46 rfl)
theorem dL_law_1918 : decode cL_law 1918 = .ok (.aload_n 0, 1) := o_42 (bg_dL_law_1910 8 42 rfl)
theorem dL_law_1919 : decode cL_law 1919 = .ok (.iload_n 3, 1) := o_29 (bg_dL_law_1910 9 29 rfl)
theorem dL_law_1920 : decode cL_law 1920 = .ok (.iconst 3, 1) := o_6 (bg_dL_law_1910 10 6 rfl)
theorem dL_law_1921 : decode cL_law 1921 = .ok (.iadd, 1) := o_96 (bg_dL_law_1910 11 96 rfl)
theorem dL_law_1922 : decode cL_law 1922 = .ok (.iaload, 1) := o_46 (bg_dL_law_1910 12 46 rfl)
theorem dL_law_1923 : decode cL_law 1923 = .ok (.aload_n 0, 1) := o_42 (bg_dL_law_1910 13 42 rfl)
theorem bg_dL_law_1924 : bysAt cL_law 1924 [29, 7, 96, 46, 182, 0, 175, 87, 44, 42, 29, 4, 96, 46, 42, 29] := bysAt_of (by decide +kernel)
theorem dL_law_1924 : decode cL_law 1924 = .ok (.iload_n 3, 1) := o_29 (bg_dL_law_1924 0 29 rfl)
theorem dL_law_1925 : decode cL_law 1925 = .ok (.iconst 4, 1) := o_7 (bg_dL_law_1924 1 7 rfl)
theorem dL_law_1926 : decode cL_law 1926 = .ok (.iadd, 1) := o_96 (bg_dL_law_1924 2 96 rfl)
theorem dL_law_1927 : decode cL_law 1927 = .ok (.iaload, 1) := o_46 (bg_dL_law_1924 3 46 rfl)
theorem dL_law_1928 : decode cL_law 1928 = .ok (.invokevirtual 175, 3) := o_182 (bg_dL_law_1924 4 182 rfl) (bg_dL_law_1924 5 0 rfl) (bg_dL_law_1924 6 175 rfl)
theorem dL_law_1931 : decode cL_law 1931 = .ok (.pop, 1) := o_87 (bg_dL_law_1924 7 87 rfl)
theorem dL_law_1932 : decode cL_law 1932 = .ok (.aload_n 2, 1) := o_44 (bg_dL_law_1924 8 44 rfl)
theorem dL_law_1933 : decode cL_law 1933 = .ok (.aload_n 0, 1) := o_42 (bg_dL_law_1924 9 42 rfl)
theorem dL_law_1934 : decode cL_law 1934 = .ok (.iload_n 3, 1) := o_29 (bg_dL_law_1924 10 29 rfl)
theorem dL_law_1935 : decode cL_law 1935 = .ok (.iconst 1, 1) := o_4 (bg_dL_law_1924 11 4 rfl)
theorem dL_law_1936 : decode cL_law 1936 = .ok (.iadd, 1) := o_96 (bg_dL_law_1924 12 96 rfl)
theorem dL_law_1937 : decode cL_law 1937 = .ok (.iaload, 1) := o_46 (bg_dL_law_1924 13 46 rfl)
theorem dL_law_1938 : decode cL_law 1938 = .ok (.aload_n 0, 1) := o_42 (bg_dL_law_1924 14 42 rfl)
theorem dL_law_1939 : decode cL_law 1939 = .ok (.iload_n 3, 1) := o_29 (bg_dL_law_1924 15 29 rfl)
theorem bg_dL_law_1940 : bysAt cL_law 1940 [5, 96, 46, 42, 29, 6, 96, 46, 42, 29, 7, 96, 46, 182, 0, 178] := bysAt_of (by decide +kernel)
theorem dL_law_1940 : decode cL_law 1940 = .ok (.iconst 2, 1) := o_5 (bg_dL_law_1940 0 5 rfl)
theorem dL_law_1941 : decode cL_law 1941 = .ok (.iadd, 1) := o_96 (bg_dL_law_1940 1 96 rfl)
theorem dL_law_1942 : decode cL_law 1942 = .ok (.iaload, 1) := o_46 (bg_dL_law_1940 2 46 rfl)
theorem dL_law_1943 : decode cL_law 1943 = .ok (.aload_n 0, 1) := o_42 (bg_dL_law_1940 3 42 rfl)
theorem dL_law_1944 : decode cL_law 1944 = .ok (.iload_n 3, 1) := o_29 (bg_dL_law_1940 4 29 rfl)
theorem dL_law_1945 : decode cL_law 1945 = .ok (.iconst 3, 1) := o_6 (bg_dL_law_1940 5 6 rfl)
theorem dL_law_1946 : decode cL_law 1946 = .ok (.iadd, 1) := o_96 (bg_dL_law_1940 6 96 rfl)
theorem dL_law_1947 : decode cL_law 1947 = .ok (.iaload, 1) := o_46 (bg_dL_law_1940 7 46 rfl)
theorem dL_law_1948 : decode cL_law 1948 = .ok (.aload_n 0, 1) := o_42 (bg_dL_law_1940 8 42 rfl)
theorem dL_law_1949 : decode cL_law 1949 = .ok (.iload_n 3, 1) := o_29 (bg_dL_law_1940 9 29 rfl)
theorem dL_law_1950 : decode cL_law 1950 = .ok (.iconst 4, 1) := o_7 (bg_dL_law_1940 10 7 rfl)
theorem dL_law_1951 : decode cL_law 1951 = .ok (.iadd, 1) := o_96 (bg_dL_law_1940 11 96 rfl)
theorem dL_law_1952 : decode cL_law 1952 = .ok (.iaload, 1) := o_46 (bg_dL_law_1940 12 46 rfl)
theorem dL_law_1953 : decode cL_law 1953 = .ok (.invokevirtual 178, 3) := o_182 (bg_dL_law_1940 13 182 rfl) (bg_dL_law_1940 14 0 rfl) (bg_dL_law_1940 15 178 rfl)
theorem bg_dL_law_1956 : bysAt cL_law 1956 [87, 167, 0, 88, 43, 182, 0, 179, 87, 44, 182, 0, 182, 87, 167, 0, 75, 43, 42, 29, 4, 96] := bysAt_of (by decide +kernel)
theorem dL_law_1956 : decode cL_law 1956 = .ok (.pop, 1) := o_87 (bg_dL_law_1956 0 87 rfl)
theorem dL_law_1957 : decode cL_law 1957 = .ok (.goto 88, 3) := o_167 (bg_dL_law_1956 1 167 rfl) (bg_dL_law_1956 2 0 rfl) (bg_dL_law_1956 3 88 rfl) (by decide +kernel)
theorem dL_law_1960 : decode cL_law 1960 = .ok (.aload_n 1, 1) := o_43 (bg_dL_law_1956 4 43 rfl)
theorem dL_law_1961 : decode cL_law 1961 = .ok (.invokevirtual 179, 3) := o_182 (bg_dL_law_1956 5 182 rfl) (bg_dL_law_1956 6 0 rfl) (bg_dL_law_1956 7 179 rfl)
theorem dL_law_1964 : decode cL_law 1964 = .ok (.pop, 1) := o_87 (bg_dL_law_1956 8 87 rfl)
theorem dL_law_1965 : decode cL_law 1965 = .ok (.aload_n 2, 1) := o_44 (bg_dL_law_1956 9 44 rfl)
theorem dL_law_1966 : decode cL_law 1966 = .ok (.invokevirtual 182, 3) := o_182 (bg_dL_law_1956 10 182 rfl) (bg_dL_law_1956 11 0 rfl) (bg_dL_law_1956 12 182 rfl)
theorem dL_law_1969 : decode cL_law 1969 = .ok (.pop, 1) := o_87 (bg_dL_law_1956 13 87 rfl)
theorem dL_law_1970 : decode cL_law 1970 = .ok (.goto 75, 3) := o_167 (bg_dL_law_1956 14 167 rfl) (bg_dL_law_1956 15 0 rfl) (bg_dL_law_1956 16 75 rfl) (by decide +kernel)
theorem dL_law_1973 : decode cL_law 1973 = .ok (.aload_n 1, 1) := o_43 (bg_dL_law_1956 17 43 rfl)
theorem dL_law_1974 : decode cL_law 1974 = .ok (.aload_n 0, 1) := o_42 (bg_dL_law_1956 18 42 rfl)
theorem dL_law_1975 : decode cL_law 1975 = .ok (.iload_n 3, 1) := o_29 (bg_dL_law_1956 19 29 rfl)
theorem dL_law_1976 : decode cL_law 1976 = .ok (.iconst 1, 1) := o_4 (bg_dL_law_1956 20 4 rfl)
theorem dL_law_1977 : decode cL_law 1977 = .ok (.iadd, 1) := o_96 (bg_dL_law_1956 21 96 rfl)
theorem bg_dL_law_1978 : bysAt cL_law 1978 [46, 182, 0, 183, 87, 44, 42, 29, 4, 96, 46, 182, 0, 186, 87, 167, 0, 52, 43, 182, 0, 187] := bysAt_of (by decide +kernel)
theorem dL_law_1978 : decode cL_law 1978 = .ok (.iaload, 1) := o_46 (bg_dL_law_1978 0 46 rfl)
theorem dL_law_1979 : decode cL_law 1979 = .ok (.invokevirtual 183, 3) := o_182 (bg_dL_law_1978 1 182 rfl) (bg_dL_law_1978 2 0 rfl) (bg_dL_law_1978 3 183 rfl)
theorem dL_law_1982 : decode cL_law 1982 = .ok (.pop, 1) := o_87 (bg_dL_law_1978 4 87 rfl)
theorem dL_law_1983 : decode cL_law 1983 = .ok (.aload_n 2, 1) := o_44 (bg_dL_law_1978 5 44 rfl)
theorem dL_law_1984 : decode cL_law 1984 = .ok (.aload_n 0, 1) := o_42 (bg_dL_law_1978 6 42 rfl)
theorem dL_law_1985 : decode cL_law 1985 = .ok (.iload_n 3, 1) := o_29 (bg_dL_law_1978 7 29 rfl)
theorem dL_law_1986 : decode cL_law 1986 = .ok (.iconst 1, 1) := o_4 (bg_dL_law_1978 8 4 rfl)
theorem dL_law_1987 : decode cL_law 1987 = .ok (.iadd, 1) := o_96 (bg_dL_law_1978 9 96 rfl)
theorem dL_law_1988 : decode cL_law 1988 = .ok (.iaload, 1) := o_46 (bg_dL_law_1978 10 46 rfl)
theorem dL_law_1989 : decode cL_law 1989 = .ok (.invokevirtual 186, 3) := o_182 (bg_dL_law_1978 11 182 rfl) (bg_dL_law_1978 12 0 rfl) (bg_dL_law_1978 13 186 rfl)
theorem dL_law_1992 : decode cL_law 1992 = .ok (.pop, 1) := o_87 (bg_dL_law_1978 14 87 rfl)
theorem dL_law_1993 : decode cL_law 1993 = .ok (.goto 52, 3) := o_167 (bg_dL_law_1978 15 167 rfl) (bg_dL_law_1978 16 0 rfl) (bg_dL_law_1978 17 52 rfl) (by decide +kernel)
theorem dL_law_1996 : decode cL_law 1996 = .ok (.aload_n 1, 1) := o_43 (bg_dL_law_1978 18 43 rfl)
theorem dL_law_1997 : decode cL_law 1997 = .ok (.invokevirtual 187, 3) := o_182 (bg_dL_law_1978 19 182 rfl) (bg_dL_law_1978 20 0 rfl) (bg_dL_law_1978 21 187 rfl)
theorem bg_dL_law_2000 : bysAt cL_law 2000 [87, 44, 182, 0, 190, 87, 167, 0, 39, 43, 182, 0, 191, 87, 44, 182, 0, 194, 87, 167, 0, 26, 43, 42] := bysAt_of (by decide +kernel)
theorem dL_law_2000 : decode cL_law 2000 = .ok (.pop, 1) := o_87 (bg_dL_law_2000 0 87 rfl)
theorem dL_law_2001 : decode cL_law 2001 = .ok (.aload_n 2, 1) := o_44 (bg_dL_law_2000 1 44 rfl)
theorem dL_law_2002 : decode cL_law 2002 = .ok (.invokevirtual 190, 3) := o_182 (bg_dL_law_2000 2 182 rfl) (bg_dL_law_2000 3 0 rfl) (bg_dL_law_2000 4 190 rfl)
theorem dL_law_2005 : decode cL_law 2005 = .ok (.pop, 1) := o_87 (bg_dL_law_2000 5 87 rfl)
theorem dL_law_2006 : decode cL_law 2006 = .ok (.goto 39, 3) := o_167 (bg_dL_law_2000 6 167 rfl) (bg_dL_law_2000 7 0 rfl) (bg_dL_law_2000 8 39 rfl) (by decide +kernel)
theorem dL_law_2009 : decode cL_law 2009 = .ok (.aload_n 1, 1) := o_43 (bg_dL_law_2000 9 43 rfl)
theorem dL_law_2010 : decode cL_law 2010 = .ok (.invokevirtual 191, 3) := o_182 (bg_dL_law_2000 10 182 rfl) (bg_dL_law_2000 11 0 rfl) (bg_dL_law_2000 12 191 rfl)
theorem dL_law_2013 : decode cL_law 2013 = .ok (.pop, 1) := o_87 (bg_dL_law_2000 13 87 rfl)
theorem dL_law_2014 : decode cL_law 2014 = .ok (.aload_n 2, 1) := o_44 (bg_dL_law_2000 14 44 rfl)
theorem dL_law_2015 : decode cL_law 2015 = .ok (.invokevirtual 194, 3) := o_182 (bg_dL_law_2000 15 182 rfl) (bg_dL_law_2000 16 0 rfl) (bg_dL_law_2000 17 194 rfl)
theorem dL_law_2018 : decode cL_law 2018 = .ok (.pop, 1) := o_87 (bg_dL_law_2000 18 87 rfl)
theorem dL_law_2019 : decode cL_law 2019 = .ok (.goto 26, 3) := o_167 (bg_dL_law_2000 19 167 rfl) (bg_dL_law_2000 20 0 rfl) (bg_dL_law_2000 21 26 rfl) (by decide +kernel)
theorem dL_law_2022 : decode cL_law 2022 = .ok (.aload_n 1, 1) := o_43 (bg_dL_law_2000 22 43 rfl)
theorem dL_law_2023 : decode cL_law 2023 = .ok (.aload_n 0, 1) := o_42 (bg_dL_law_2000 23 42 rfl)
theorem bg_dL_law_2024 : bysAt cL_law 2024 [29, 4, 96, 46, 182, 0, 195, 87, 44, 42, 29, 4, 96, 46, 182, 0, 198, 87] := bysAt_of (by decide +kernel)
theorem dL_law_2024 : decode cL_law 2024 = .ok (.iload_n 3, 1) := o_29 (bg_dL_law_2024 0 29 rfl)
theorem dL_law_2025 : decode cL_law 2025 = .ok (.iconst 1, 1) := o_4 (bg_dL_law_2024 1 4 rfl)
theorem dL_law_2026 : decode cL_law 2026 = .ok (.iadd, 1) := o_96 (bg_dL_law_2024 2 96 rfl)
theorem dL_law_2027 : decode cL_law 2027 = .ok (.iaload, 1) := o_46 (bg_dL_law_2024 3 46 rfl)
theorem dL_law_2028 : decode cL_law 2028 = .ok (.invokevirtual 195, 3) := o_182 (bg_dL_law_2024 4 182 rfl) (bg_dL_law_2024 5 0 rfl) (bg_dL_law_2024 6 195 rfl)
theorem dL_law_2031 : decode cL_law 2031 = .ok (.pop, 1) := o_87 (bg_dL_law_2024 7 87 rfl)
theorem dL_law_2032 : decode cL_law 2032 = .ok (.aload_n 2, 1) := o_44 (bg_dL_law_2024 8 44 rfl)
theorem dL_law_2033 : decode cL_law 2033 = .ok (.aload_n 0, 1) := o_42 (bg_dL_law_2024 9 42 rfl)
theorem dL_law_2034 : decode cL_law 2034 = .ok (.iload_n 3, 1) := o_29 (bg_dL_law_2024 10 29 rfl)
theorem dL_law_2035 : decode cL_law 2035 = .ok (.iconst 1, 1) := o_4 (bg_dL_law_2024 11 4 rfl)
theorem dL_law_2036 : decode cL_law 2036 = .ok (.iadd, 1) := o_96 (bg_dL_law_2024 12 96 rfl)
theorem dL_law_2037 : decode cL_law 2037 = .ok (.iaload, 1) := o_46 (bg_dL_law_2024 13 46 rfl)
theorem dL_law_2038 : decode cL_law 2038 = .ok (.invokevirtual 198, 3) := o_182 (bg_dL_law_2024 14 182 rfl) (bg_dL_law_2024 15 0 rfl) (bg_dL_law_2024 16 198 rfl)
theorem dL_law_2041 : decode cL_law 2041 = .ok (.pop, 1) := o_87 (bg_dL_law_2024 17 87 rfl)
theorem bg_dL_law_2042 : bysAt cL_law 2042 [167, 0, 3] := bysAt_of (by decide +kernel)
theorem dL_law_2042 : decode cL_law 2042 = .ok (.goto 3, 3) := o_167 (bg_dL_law_2042 0 167 rfl) (bg_dL_law_2042 1 0 rfl) (bg_dL_law_2042 2 3 rfl) (by decide +kernel)
theorem pdVX6_again : yX6_again.cls = RX6 ∧ yX6_again.cls ≠ "java/lang/invoke/MethodHandle" ∧ yX6_again.cls ≠ "java/lang/invoke/VarHandle" ∧ (parseMethodDescriptor yX6_again.desc).map (fun d => d.parameters.length) = some 5 := by decide +kernel
theorem pdVX6_ask : yX6_ask.cls = RX6 ∧ yX6_ask.cls ≠ "java/lang/invoke/MethodHandle" ∧ yX6_ask.cls ≠ "java/lang/invoke/VarHandle" ∧ (parseMethodDescriptor yX6_ask.desc).map (fun d => d.parameters.length) = some 2 := by decide +kernel
theorem pdVX6_axle : yX6_axle.cls = RX6 ∧ yX6_axle.cls ≠ "java/lang/invoke/MethodHandle" ∧ yX6_axle.cls ≠ "java/lang/invoke/VarHandle" ∧ (parseMethodDescriptor yX6_axle.desc).map (fun d => d.parameters.length) = some 2 := by decide +kernel
theorem pdVX6_back : yX6_back.cls = RX6 ∧ yX6_back.cls ≠ "java/lang/invoke/MethodHandle" ∧ yX6_back.cls ≠ "java/lang/invoke/VarHandle" ∧ (parseMethodDescriptor yX6_back.desc).map (fun d => d.parameters.length) = some 0 := by decide +kernel
theorem pdVX6_bears : yX6_bears.cls = RX6 ∧ yX6_bears.cls ≠ "java/lang/invoke/MethodHandle" ∧ yX6_bears.cls ≠ "java/lang/invoke/VarHandle" ∧ (parseMethodDescriptor yX6_bears.desc).map (fun d => d.parameters.length) = some 2 := by decide +kernel
theorem pdVX6_begin : yX6_begin.cls = RX6 ∧ yX6_begin.cls ≠ "java/lang/invoke/MethodHandle" ∧ yX6_begin.cls ≠ "java/lang/invoke/VarHandle" ∧ (parseMethodDescriptor yX6_begin.desc).map (fun d => d.parameters.length) = some 4 := by decide +kernel
theorem pdVX6_best : yX6_best.cls = RX6 ∧ yX6_best.cls ≠ "java/lang/invoke/MethodHandle" ∧ yX6_best.cls ≠ "java/lang/invoke/VarHandle" ∧ (parseMethodDescriptor yX6_best.desc).map (fun d => d.parameters.length) = some 3 := by decide +kernel
theorem pdVX6_bridge : yX6_bridge.cls = RX6 ∧ yX6_bridge.cls ≠ "java/lang/invoke/MethodHandle" ∧ yX6_bridge.cls ≠ "java/lang/invoke/VarHandle" ∧ (parseMethodDescriptor yX6_bridge.desc).map (fun d => d.parameters.length) = some 5 := by decide +kernel
theorem pdVX6_bridgeOf : yX6_bridgeOf.cls = RX6 ∧ yX6_bridgeOf.cls ≠ "java/lang/invoke/MethodHandle" ∧ yX6_bridgeOf.cls ≠ "java/lang/invoke/VarHandle" ∧ (parseMethodDescriptor yX6_bridgeOf.desc).map (fun d => d.parameters.length) = some 2 := by decide +kernel
theorem pdVX6_cheapest : yX6_cheapest.cls = RX6 ∧ yX6_cheapest.cls ≠ "java/lang/invoke/MethodHandle" ∧ yX6_cheapest.cls ≠ "java/lang/invoke/VarHandle" ∧ (parseMethodDescriptor yX6_cheapest.desc).map (fun d => d.parameters.length) = some 4 := by decide +kernel
theorem pdVX6_copy : yX6_copy.cls = RX6 ∧ yX6_copy.cls ≠ "java/lang/invoke/MethodHandle" ∧ yX6_copy.cls ≠ "java/lang/invoke/VarHandle" ∧ (parseMethodDescriptor yX6_copy.desc).map (fun d => d.parameters.length) = some 5 := by decide +kernel
theorem pdVX6_element : yX6_element.cls = RX6 ∧ yX6_element.cls ≠ "java/lang/invoke/MethodHandle" ∧ yX6_element.cls ≠ "java/lang/invoke/VarHandle" ∧ (parseMethodDescriptor yX6_element.desc).map (fun d => d.parameters.length) = some 2 := by decide +kernel
theorem pdVX6_feed : yX6_feed.cls = RX6 ∧ yX6_feed.cls ≠ "java/lang/invoke/MethodHandle" ∧ yX6_feed.cls ≠ "java/lang/invoke/VarHandle" ∧ (parseMethodDescriptor yX6_feed.desc).map (fun d => d.parameters.length) = some 2 := by decide +kernel
theorem pdVX6_fewest : yX6_fewest.cls = RX6 ∧ yX6_fewest.cls ≠ "java/lang/invoke/MethodHandle" ∧ yX6_fewest.cls ≠ "java/lang/invoke/VarHandle" ∧ (parseMethodDescriptor yX6_fewest.desc).map (fun d => d.parameters.length) = some 3 := by decide +kernel
theorem pdVX6_frost : yX6_frost.cls = RX6 ∧ yX6_frost.cls ≠ "java/lang/invoke/MethodHandle" ∧ yX6_frost.cls ≠ "java/lang/invoke/VarHandle" ∧ (parseMethodDescriptor yX6_frost.desc).map (fun d => d.parameters.length) = some 7 := by decide +kernel
theorem pdVX6_goes : yX6_goes.cls = RX6 ∧ yX6_goes.cls ≠ "java/lang/invoke/MethodHandle" ∧ yX6_goes.cls ≠ "java/lang/invoke/VarHandle" ∧ (parseMethodDescriptor yX6_goes.desc).map (fun d => d.parameters.length) = some 4 := by decide +kernel
theorem pdVX6_hang : yX6_hang.cls = RX6 ∧ yX6_hang.cls ≠ "java/lang/invoke/MethodHandle" ∧ yX6_hang.cls ≠ "java/lang/invoke/VarHandle" ∧ (parseMethodDescriptor yX6_hang.desc).map (fun d => d.parameters.length) = some 4 := by decide +kernel
theorem pdVX6_holds : yX6_holds.cls = RX6 ∧ yX6_holds.cls ≠ "java/lang/invoke/MethodHandle" ∧ yX6_holds.cls ≠ "java/lang/invoke/VarHandle" ∧ (parseMethodDescriptor yX6_holds.desc).map (fun d => d.parameters.length) = some 1 := by decide +kernel
theorem pdVX6_image : yX6_image.cls = RX6 ∧ yX6_image.cls ≠ "java/lang/invoke/MethodHandle" ∧ yX6_image.cls ≠ "java/lang/invoke/VarHandle" ∧ (parseMethodDescriptor yX6_image.desc).map (fun d => d.parameters.length) = some 0 := by decide +kernel
theorem pdVX6_judge : yX6_judge.cls = RX6 ∧ yX6_judge.cls ≠ "java/lang/invoke/MethodHandle" ∧ yX6_judge.cls ≠ "java/lang/invoke/VarHandle" ∧ (parseMethodDescriptor yX6_judge.desc).map (fun d => d.parameters.length) = some 5 := by decide +kernel
theorem pdVX6_land : yX6_land.cls = RX6 ∧ yX6_land.cls ≠ "java/lang/invoke/MethodHandle" ∧ yX6_land.cls ≠ "java/lang/invoke/VarHandle" ∧ (parseMethodDescriptor yX6_land.desc).map (fun d => d.parameters.length) = some 0 := by decide +kernel
theorem pdVX6_length : yX6_length.cls = RX6 ∧ yX6_length.cls ≠ "java/lang/invoke/MethodHandle" ∧ yX6_length.cls ≠ "java/lang/invoke/VarHandle" ∧ (parseMethodDescriptor yX6_length.desc).map (fun d => d.parameters.length) = some 1 := by decide +kernel
theorem pdVX6_most : yX6_most.cls = RX6 ∧ yX6_most.cls ≠ "java/lang/invoke/MethodHandle" ∧ yX6_most.cls ≠ "java/lang/invoke/VarHandle" ∧ (parseMethodDescriptor yX6_most.desc).map (fun d => d.parameters.length) = some 3 := by decide +kernel
theorem pdVX6_needs : yX6_needs.cls = RX6 ∧ yX6_needs.cls ≠ "java/lang/invoke/MethodHandle" ∧ yX6_needs.cls ≠ "java/lang/invoke/VarHandle" ∧ (parseMethodDescriptor yX6_needs.desc).map (fun d => d.parameters.length) = some 3 := by decide +kernel
theorem pdVX6_part : yX6_part.cls = RX6 ∧ yX6_part.cls ≠ "java/lang/invoke/MethodHandle" ∧ yX6_part.cls ≠ "java/lang/invoke/VarHandle" ∧ (parseMethodDescriptor yX6_part.desc).map (fun d => d.parameters.length) = some 2 := by decide +kernel
theorem pdVX6_prop : yX6_prop.cls = RX6 ∧ yX6_prop.cls ≠ "java/lang/invoke/MethodHandle" ∧ yX6_prop.cls ≠ "java/lang/invoke/VarHandle" ∧ (parseMethodDescriptor yX6_prop.desc).map (fun d => d.parameters.length) = some 3 := by decide +kernel
theorem pdVX6_reach : yX6_reach.cls = RX6 ∧ yX6_reach.cls ≠ "java/lang/invoke/MethodHandle" ∧ yX6_reach.cls ≠ "java/lang/invoke/VarHandle" ∧ (parseMethodDescriptor yX6_reach.desc).map (fun d => d.parameters.length) = some 3 := by decide +kernel
theorem pdVX6_road : yX6_road.cls = RX6 ∧ yX6_road.cls ≠ "java/lang/invoke/MethodHandle" ∧ yX6_road.cls ≠ "java/lang/invoke/VarHandle" ∧ (parseMethodDescriptor yX6_road.desc).map (fun d => d.parameters.length) = some 6 := by decide +kernel
theorem pdVX6_roadOf : yX6_roadOf.cls = RX6 ∧ yX6_roadOf.cls ≠ "java/lang/invoke/MethodHandle" ∧ yX6_roadOf.cls ≠ "java/lang/invoke/VarHandle" ∧ (parseMethodDescriptor yX6_roadOf.desc).map (fun d => d.parameters.length) = some 2 := by decide +kernel
theorem pdVX6_row : yX6_row.cls = RX6 ∧ yX6_row.cls ≠ "java/lang/invoke/MethodHandle" ∧ yX6_row.cls ≠ "java/lang/invoke/VarHandle" ∧ (parseMethodDescriptor yX6_row.desc).map (fun d => d.parameters.length) = some 3 := by decide +kernel
theorem pdVX6_says : yX6_says.cls = RX6 ∧ yX6_says.cls ≠ "java/lang/invoke/MethodHandle" ∧ yX6_says.cls ≠ "java/lang/invoke/VarHandle" ∧ (parseMethodDescriptor yX6_says.desc).map (fun d => d.parameters.length) = some 2 := by decide +kernel
theorem pdVX6_set : yX6_set.cls = RX6 ∧ yX6_set.cls ≠ "java/lang/invoke/MethodHandle" ∧ yX6_set.cls ≠ "java/lang/invoke/VarHandle" ∧ (parseMethodDescriptor yX6_set.desc).map (fun d => d.parameters.length) = some 3 := by decide +kernel
theorem pdVX6_show : yX6_show.cls = RX6 ∧ yX6_show.cls ≠ "java/lang/invoke/MethodHandle" ∧ yX6_show.cls ≠ "java/lang/invoke/VarHandle" ∧ (parseMethodDescriptor yX6_show.desc).map (fun d => d.parameters.length) = some 2 := by decide +kernel
theorem pdVX6_shut : yX6_shut.cls = RX6 ∧ yX6_shut.cls ≠ "java/lang/invoke/MethodHandle" ∧ yX6_shut.cls ≠ "java/lang/invoke/VarHandle" ∧ (parseMethodDescriptor yX6_shut.desc).map (fun d => d.parameters.length) = some 2 := by decide +kernel
theorem pdVX6_soonest : yX6_soonest.cls = RX6 ∧ yX6_soonest.cls ≠ "java/lang/invoke/MethodHandle" ∧ yX6_soonest.cls ≠ "java/lang/invoke/VarHandle" ∧ (parseMethodDescriptor yX6_soonest.desc).map (fun d => d.parameters.length) = some 4 := by decide +kernel
theorem pdVX6_stand : yX6_stand.cls = RX6 ∧ yX6_stand.cls ≠ "java/lang/invoke/MethodHandle" ∧ yX6_stand.cls ≠ "java/lang/invoke/VarHandle" ∧ (parseMethodDescriptor yX6_stand.desc).map (fun d => d.parameters.length) = some 3 := by decide +kernel
theorem pdVX6_status : yX6_status.cls = RX6 ∧ yX6_status.cls ≠ "java/lang/invoke/MethodHandle" ∧ yX6_status.cls ≠ "java/lang/invoke/VarHandle" ∧ (parseMethodDescriptor yX6_status.desc).map (fun d => d.parameters.length) = some 1 := by decide +kernel
theorem pdVX6_step : yX6_step.cls = RX6 ∧ yX6_step.cls ≠ "java/lang/invoke/MethodHandle" ∧ yX6_step.cls ≠ "java/lang/invoke/VarHandle" ∧ (parseMethodDescriptor yX6_step.desc).map (fun d => d.parameters.length) = some 0 := by decide +kernel
theorem pdVX6_strain : yX6_strain.cls = RX6 ∧ yX6_strain.cls ≠ "java/lang/invoke/MethodHandle" ∧ yX6_strain.cls ≠ "java/lang/invoke/VarHandle" ∧ (parseMethodDescriptor yX6_strain.desc).map (fun d => d.parameters.length) = some 3 := by decide +kernel
theorem pdVX6_told : yX6_told.cls = RX6 ∧ yX6_told.cls ≠ "java/lang/invoke/MethodHandle" ∧ yX6_told.cls ≠ "java/lang/invoke/VarHandle" ∧ (parseMethodDescriptor yX6_told.desc).map (fun d => d.parameters.length) = some 6 := by decide +kernel
theorem pdVX6_under : yX6_under.cls = RX6 ∧ yX6_under.cls ≠ "java/lang/invoke/MethodHandle" ∧ yX6_under.cls ≠ "java/lang/invoke/VarHandle" ∧ (parseMethodDescriptor yX6_under.desc).map (fun d => d.parameters.length) = some 1 := by decide +kernel
theorem pdVX6_waggon : yX6_waggon.cls = RX6 ∧ yX6_waggon.cls ≠ "java/lang/invoke/MethodHandle" ∧ yX6_waggon.cls ≠ "java/lang/invoke/VarHandle" ∧ (parseMethodDescriptor yX6_waggon.desc).map (fun d => d.parameters.length) = some 3 := by decide +kernel
theorem pdVX6_wipe : yX6_wipe.cls = RX6 ∧ yX6_wipe.cls ≠ "java/lang/invoke/MethodHandle" ∧ yX6_wipe.cls ≠ "java/lang/invoke/VarHandle" ∧ (parseMethodDescriptor yX6_wipe.desc).map (fun d => d.parameters.length) = some 0 := by decide +kernel
theorem pdVX7_ask : yX7_ask.cls = RX7 ∧ yX7_ask.cls ≠ "java/lang/invoke/MethodHandle" ∧ yX7_ask.cls ≠ "java/lang/invoke/VarHandle" ∧ (parseMethodDescriptor yX7_ask.desc).map (fun d => d.parameters.length) = some 2 := by decide +kernel
theorem pdVX7_axle : yX7_axle.cls = RX7 ∧ yX7_axle.cls ≠ "java/lang/invoke/MethodHandle" ∧ yX7_axle.cls ≠ "java/lang/invoke/VarHandle" ∧ (parseMethodDescriptor yX7_axle.desc).map (fun d => d.parameters.length) = some 2 := by decide +kernel
theorem pdVX7_back : yX7_back.cls = RX7 ∧ yX7_back.cls ≠ "java/lang/invoke/MethodHandle" ∧ yX7_back.cls ≠ "java/lang/invoke/VarHandle" ∧ (parseMethodDescriptor yX7_back.desc).map (fun d => d.parameters.length) = some 0 := by decide +kernel
theorem pdVX7_bears : yX7_bears.cls = RX7 ∧ yX7_bears.cls ≠ "java/lang/invoke/MethodHandle" ∧ yX7_bears.cls ≠ "java/lang/invoke/VarHandle" ∧ (parseMethodDescriptor yX7_bears.desc).map (fun d => d.parameters.length) = some 2 := by decide +kernel
theorem pdVX7_begin : yX7_begin.cls = RX7 ∧ yX7_begin.cls ≠ "java/lang/invoke/MethodHandle" ∧ yX7_begin.cls ≠ "java/lang/invoke/VarHandle" ∧ (parseMethodDescriptor yX7_begin.desc).map (fun d => d.parameters.length) = some 4 := by decide +kernel
theorem pdVX7_best : yX7_best.cls = RX7 ∧ yX7_best.cls ≠ "java/lang/invoke/MethodHandle" ∧ yX7_best.cls ≠ "java/lang/invoke/VarHandle" ∧ (parseMethodDescriptor yX7_best.desc).map (fun d => d.parameters.length) = some 3 := by decide +kernel
theorem pdVX7_bridge : yX7_bridge.cls = RX7 ∧ yX7_bridge.cls ≠ "java/lang/invoke/MethodHandle" ∧ yX7_bridge.cls ≠ "java/lang/invoke/VarHandle" ∧ (parseMethodDescriptor yX7_bridge.desc).map (fun d => d.parameters.length) = some 5 := by decide +kernel
theorem pdVX7_bridgeOf : yX7_bridgeOf.cls = RX7 ∧ yX7_bridgeOf.cls ≠ "java/lang/invoke/MethodHandle" ∧ yX7_bridgeOf.cls ≠ "java/lang/invoke/VarHandle" ∧ (parseMethodDescriptor yX7_bridgeOf.desc).map (fun d => d.parameters.length) = some 2 := by decide +kernel
theorem pdVX7_cheapest : yX7_cheapest.cls = RX7 ∧ yX7_cheapest.cls ≠ "java/lang/invoke/MethodHandle" ∧ yX7_cheapest.cls ≠ "java/lang/invoke/VarHandle" ∧ (parseMethodDescriptor yX7_cheapest.desc).map (fun d => d.parameters.length) = some 4 := by decide +kernel
theorem pdVX7_copy : yX7_copy.cls = RX7 ∧ yX7_copy.cls ≠ "java/lang/invoke/MethodHandle" ∧ yX7_copy.cls ≠ "java/lang/invoke/VarHandle" ∧ (parseMethodDescriptor yX7_copy.desc).map (fun d => d.parameters.length) = some 5 := by decide +kernel
theorem pdVX7_element : yX7_element.cls = RX7 ∧ yX7_element.cls ≠ "java/lang/invoke/MethodHandle" ∧ yX7_element.cls ≠ "java/lang/invoke/VarHandle" ∧ (parseMethodDescriptor yX7_element.desc).map (fun d => d.parameters.length) = some 2 := by decide +kernel
theorem pdVX7_feed : yX7_feed.cls = RX7 ∧ yX7_feed.cls ≠ "java/lang/invoke/MethodHandle" ∧ yX7_feed.cls ≠ "java/lang/invoke/VarHandle" ∧ (parseMethodDescriptor yX7_feed.desc).map (fun d => d.parameters.length) = some 2 := by decide +kernel
theorem pdVX7_fewest : yX7_fewest.cls = RX7 ∧ yX7_fewest.cls ≠ "java/lang/invoke/MethodHandle" ∧ yX7_fewest.cls ≠ "java/lang/invoke/VarHandle" ∧ (parseMethodDescriptor yX7_fewest.desc).map (fun d => d.parameters.length) = some 3 := by decide +kernel
theorem pdVX7_frost : yX7_frost.cls = RX7 ∧ yX7_frost.cls ≠ "java/lang/invoke/MethodHandle" ∧ yX7_frost.cls ≠ "java/lang/invoke/VarHandle" ∧ (parseMethodDescriptor yX7_frost.desc).map (fun d => d.parameters.length) = some 7 := by decide +kernel
theorem pdVX7_goes : yX7_goes.cls = RX7 ∧ yX7_goes.cls ≠ "java/lang/invoke/MethodHandle" ∧ yX7_goes.cls ≠ "java/lang/invoke/VarHandle" ∧ (parseMethodDescriptor yX7_goes.desc).map (fun d => d.parameters.length) = some 4 := by decide +kernel
theorem pdVX7_hang : yX7_hang.cls = RX7 ∧ yX7_hang.cls ≠ "java/lang/invoke/MethodHandle" ∧ yX7_hang.cls ≠ "java/lang/invoke/VarHandle" ∧ (parseMethodDescriptor yX7_hang.desc).map (fun d => d.parameters.length) = some 4 := by decide +kernel
theorem pdVX7_holds : yX7_holds.cls = RX7 ∧ yX7_holds.cls ≠ "java/lang/invoke/MethodHandle" ∧ yX7_holds.cls ≠ "java/lang/invoke/VarHandle" ∧ (parseMethodDescriptor yX7_holds.desc).map (fun d => d.parameters.length) = some 1 := by decide +kernel
theorem pdVX7_image : yX7_image.cls = RX7 ∧ yX7_image.cls ≠ "java/lang/invoke/MethodHandle" ∧ yX7_image.cls ≠ "java/lang/invoke/VarHandle" ∧ (parseMethodDescriptor yX7_image.desc).map (fun d => d.parameters.length) = some 0 := by decide +kernel
theorem pdVX7_judge : yX7_judge.cls = RX7 ∧ yX7_judge.cls ≠ "java/lang/invoke/MethodHandle" ∧ yX7_judge.cls ≠ "java/lang/invoke/VarHandle" ∧ (parseMethodDescriptor yX7_judge.desc).map (fun d => d.parameters.length) = some 5 := by decide +kernel
theorem pdVX7_land : yX7_land.cls = RX7 ∧ yX7_land.cls ≠ "java/lang/invoke/MethodHandle" ∧ yX7_land.cls ≠ "java/lang/invoke/VarHandle" ∧ (parseMethodDescriptor yX7_land.desc).map (fun d => d.parameters.length) = some 0 := by decide +kernel
theorem pdVX7_length : yX7_length.cls = RX7 ∧ yX7_length.cls ≠ "java/lang/invoke/MethodHandle" ∧ yX7_length.cls ≠ "java/lang/invoke/VarHandle" ∧ (parseMethodDescriptor yX7_length.desc).map (fun d => d.parameters.length) = some 1 := by decide +kernel
theorem pdVX7_most : yX7_most.cls = RX7 ∧ yX7_most.cls ≠ "java/lang/invoke/MethodHandle" ∧ yX7_most.cls ≠ "java/lang/invoke/VarHandle" ∧ (parseMethodDescriptor yX7_most.desc).map (fun d => d.parameters.length) = some 3 := by decide +kernel
theorem pdVX7_needs : yX7_needs.cls = RX7 ∧ yX7_needs.cls ≠ "java/lang/invoke/MethodHandle" ∧ yX7_needs.cls ≠ "java/lang/invoke/VarHandle" ∧ (parseMethodDescriptor yX7_needs.desc).map (fun d => d.parameters.length) = some 3 := by decide +kernel
theorem pdVX7_part : yX7_part.cls = RX7 ∧ yX7_part.cls ≠ "java/lang/invoke/MethodHandle" ∧ yX7_part.cls ≠ "java/lang/invoke/VarHandle" ∧ (parseMethodDescriptor yX7_part.desc).map (fun d => d.parameters.length) = some 2 := by decide +kernel
theorem pdVX7_prop : yX7_prop.cls = RX7 ∧ yX7_prop.cls ≠ "java/lang/invoke/MethodHandle" ∧ yX7_prop.cls ≠ "java/lang/invoke/VarHandle" ∧ (parseMethodDescriptor yX7_prop.desc).map (fun d => d.parameters.length) = some 3 := by decide +kernel
theorem pdVX7_reach : yX7_reach.cls = RX7 ∧ yX7_reach.cls ≠ "java/lang/invoke/MethodHandle" ∧ yX7_reach.cls ≠ "java/lang/invoke/VarHandle" ∧ (parseMethodDescriptor yX7_reach.desc).map (fun d => d.parameters.length) = some 3 := by decide +kernel
theorem pdVX7_road : yX7_road.cls = RX7 ∧ yX7_road.cls ≠ "java/lang/invoke/MethodHandle" ∧ yX7_road.cls ≠ "java/lang/invoke/VarHandle" ∧ (parseMethodDescriptor yX7_road.desc).map (fun d => d.parameters.length) = some 6 := by decide +kernel
theorem pdVX7_roadOf : yX7_roadOf.cls = RX7 ∧ yX7_roadOf.cls ≠ "java/lang/invoke/MethodHandle" ∧ yX7_roadOf.cls ≠ "java/lang/invoke/VarHandle" ∧ (parseMethodDescriptor yX7_roadOf.desc).map (fun d => d.parameters.length) = some 2 := by decide +kernel
theorem pdVX7_row : yX7_row.cls = RX7 ∧ yX7_row.cls ≠ "java/lang/invoke/MethodHandle" ∧ yX7_row.cls ≠ "java/lang/invoke/VarHandle" ∧ (parseMethodDescriptor yX7_row.desc).map (fun d => d.parameters.length) = some 3 := by decide +kernel
theorem pdVX7_says : yX7_says.cls = RX7 ∧ yX7_says.cls ≠ "java/lang/invoke/MethodHandle" ∧ yX7_says.cls ≠ "java/lang/invoke/VarHandle" ∧ (parseMethodDescriptor yX7_says.desc).map (fun d => d.parameters.length) = some 2 := by decide +kernel
theorem pdVX7_set : yX7_set.cls = RX7 ∧ yX7_set.cls ≠ "java/lang/invoke/MethodHandle" ∧ yX7_set.cls ≠ "java/lang/invoke/VarHandle" ∧ (parseMethodDescriptor yX7_set.desc).map (fun d => d.parameters.length) = some 3 := by decide +kernel
theorem pdVX7_show : yX7_show.cls = RX7 ∧ yX7_show.cls ≠ "java/lang/invoke/MethodHandle" ∧ yX7_show.cls ≠ "java/lang/invoke/VarHandle" ∧ (parseMethodDescriptor yX7_show.desc).map (fun d => d.parameters.length) = some 2 := by decide +kernel
theorem pdVX7_shut : yX7_shut.cls = RX7 ∧ yX7_shut.cls ≠ "java/lang/invoke/MethodHandle" ∧ yX7_shut.cls ≠ "java/lang/invoke/VarHandle" ∧ (parseMethodDescriptor yX7_shut.desc).map (fun d => d.parameters.length) = some 2 := by decide +kernel
theorem pdVX7_soonest : yX7_soonest.cls = RX7 ∧ yX7_soonest.cls ≠ "java/lang/invoke/MethodHandle" ∧ yX7_soonest.cls ≠ "java/lang/invoke/VarHandle" ∧ (parseMethodDescriptor yX7_soonest.desc).map (fun d => d.parameters.length) = some 4 := by decide +kernel
theorem pdVX7_stand : yX7_stand.cls = RX7 ∧ yX7_stand.cls ≠ "java/lang/invoke/MethodHandle" ∧ yX7_stand.cls ≠ "java/lang/invoke/VarHandle" ∧ (parseMethodDescriptor yX7_stand.desc).map (fun d => d.parameters.length) = some 3 := by decide +kernel
theorem pdVX7_status : yX7_status.cls = RX7 ∧ yX7_status.cls ≠ "java/lang/invoke/MethodHandle" ∧ yX7_status.cls ≠ "java/lang/invoke/VarHandle" ∧ (parseMethodDescriptor yX7_status.desc).map (fun d => d.parameters.length) = some 1 := by decide +kernel
theorem pdVX7_step : yX7_step.cls = RX7 ∧ yX7_step.cls ≠ "java/lang/invoke/MethodHandle" ∧ yX7_step.cls ≠ "java/lang/invoke/VarHandle" ∧ (parseMethodDescriptor yX7_step.desc).map (fun d => d.parameters.length) = some 0 := by decide +kernel
theorem pdVX7_strain : yX7_strain.cls = RX7 ∧ yX7_strain.cls ≠ "java/lang/invoke/MethodHandle" ∧ yX7_strain.cls ≠ "java/lang/invoke/VarHandle" ∧ (parseMethodDescriptor yX7_strain.desc).map (fun d => d.parameters.length) = some 3 := by decide +kernel
theorem pdVX7_told_ : yX7_told_.cls = RX7 ∧ yX7_told_.cls ≠ "java/lang/invoke/MethodHandle" ∧ yX7_told_.cls ≠ "java/lang/invoke/VarHandle" ∧ (parseMethodDescriptor yX7_told_.desc).map (fun d => d.parameters.length) = some 6 := by decide +kernel
theorem pdVX7_under : yX7_under.cls = RX7 ∧ yX7_under.cls ≠ "java/lang/invoke/MethodHandle" ∧ yX7_under.cls ≠ "java/lang/invoke/VarHandle" ∧ (parseMethodDescriptor yX7_under.desc).map (fun d => d.parameters.length) = some 1 := by decide +kernel
theorem pdVX7_waggon : yX7_waggon.cls = RX7 ∧ yX7_waggon.cls ≠ "java/lang/invoke/MethodHandle" ∧ yX7_waggon.cls ≠ "java/lang/invoke/VarHandle" ∧ (parseMethodDescriptor yX7_waggon.desc).map (fun d => d.parameters.length) = some 3 := by decide +kernel
theorem pdVX7_wipe : yX7_wipe.cls = RX7 ∧ yX7_wipe.cls ≠ "java/lang/invoke/MethodHandle" ∧ yX7_wipe.cls ≠ "java/lang/invoke/VarHandle" ∧ (parseMethodDescriptor yX7_wipe.desc).map (fun d => d.parameters.length) = some 0 := by decide +kernel
