/-! EXACT: the reference's land -/
def RelMs (R : Except Int32 (LA × PX)) (A : LA) (r : Int32) (u : Nat → va_E) : Prop := (r ≠ 0 → ∃ B : LA, R = .ok (B, pm u) ∧ absM u B) ∧ (r = 0 → R = .error (gi (u 0) 25) ∧ absM u A)
def blkN : Nat → Nat
  | 0 => 24
  | 1 => 16
  | _ => 5
theorem cntM {a : Nat → Nat} {E : Nat → ClassId} {C : Nat → va_E} (hT : TyM a E C) : ∀ s, s < 4 → 0 ≤ (gi (C 0) (9 + 2 * s)).toInt ∧ (gi (C 0) (9 + 2 * s)).toInt ≤ (blkN s : Int) := by
  intro s hs
  rcases (show s = 0 ∨ s = 1 ∨ s = 2 ∨ s = 3 by omega) with rfl | rfl | rfl | rfl
  · exact fM_0_9 hT
  · exact fM_0_11 hT
  · exact fM_0_13 hT
  · exact fM_0_15 hT
theorem cntM24 {a : Nat → Nat} {E : Nat → ClassId} {C : Nat → va_E} (hT : TyM a E C) : ∀ s, s < 4 → rg (gi (C 0) (9 + 2 * s)) 0 24 := by
  intro s hs
  rcases (show s = 0 ∨ s = 1 ∨ s = 2 ∨ s = 3 by omega) with rfl | rfl | rfl | rfl
  · exact rg_w (fM_0_9 hT) (by decide)
  · exact rg_w (fM_0_11 hT) (by decide)
  · exact rg_w (fM_0_13 hT) (by decide)
  · exact rg_w (fM_0_15 hT) (by decide)
theorem frB {a : Nat → Nat} {E : Nat → ClassId} {C u : Nat → va_E} {mc : List (Nat × Nat)} {mf : List Nat} (t : Nat) (hT : TyM a E C) (hf : fr mc mf C u) (hd : ((List.range 4).all (fun s => Nat.beq s t || mc.all (fun p => Nat.ble (blk s + blkN s) p.1 || Nat.ble p.2 (blk s)))) = true) : ∀ s, s < 4 → s ≠ t → ∀ i : Nat, (i : Int) < (gi (C 0) (9 + 2 * s)).toInt → u (blk s + i) = C (blk s + i) := by
  intro s hs hne i hi
  have h := List.all_eq_true.mp hd s (List.mem_range.mpr hs)
  rw [Bool.or_eq_true] at h
  rcases h with h | h
  · exact absurd (Nat.eq_of_beq_eq_true h) hne
  · have h1 := (cntM hT s hs).2
    have hb : 0 < blk s := by
      rcases (show s = 0 ∨ s = 1 ∨ s = 2 ∨ s = 3 by omega) with rfl | rfl | rfl | rfl <;> decide
    exact hf.1 _ (inR_out (N := blkN s) (by omega) h) (by omega)
theorem frC {C u : Nat → va_E} {mc : List (Nat × Nat)} {mf : List Nat} (t : Nat) (hf : fr mc mf C u) (hd : ((List.range 4).all (fun s => Nat.beq s t || !(mf.contains (9 + 2 * s)))) = true) : ∀ s, s < 4 → s ≠ t → gi (u 0) (9 + 2 * s) = gi (C 0) (9 + 2 * s) := by
  intro s hs hne
  have h := List.all_eq_true.mp hd s (List.mem_range.mpr hs)
  rw [Bool.or_eq_true] at h
  rcases h with h | h
  · exact absurd (Nat.eq_of_beq_eq_true h) hne
  · exact congrArg vi (hf.2 _ (by simpa using h))
/-- the land is as it was -/
theorem absM_fr {a : Nat → Nat} {E : Nat → ClassId} {C u : Nat → va_E} {A : LA} {mc : List (Nat × Nat)} {mf : List Nat} (h : absM C A) (hT : TyM a E C) (hf : fr mc mf C u) (h1 : ((List.range 4).all (fun s => Nat.beq s 9 || mc.all (fun p => Nat.ble (blk s + blkN s) p.1 || Nat.ble p.2 (blk s)))) = true) (h2 : ((List.range 4).all (fun s => Nat.beq s 9 || !(mf.contains (9 + 2 * s)))) = true) (h3 : inR mc 13 = false) : absM u A :=
  absM_eq h (fun s hs => frC 9 hf h2 s hs (by omega)) (hf.1 13 h3 (by decide)) (fun s hs => frB 9 hT hf h1 s hs (by omega))
theorem ms_row {a : Nat → Nat} {E : Nat → ClassId} {R : Except Int32 ((Nat → Int32) × PX)} {C u : Nat → va_E} {A : LA} {t : Nat} {r : Int32} {mc : List (Nat × Nat)} {mf : List Nat} (hT : TyM a E C) (hA : absM C A) (ht : t < 4) (hg : r ≠ 0 → ∃ v : Nat → Int32, R = .ok (v, pm u) ∧ (∀ j, j < wid t → ga (u (blk t + (gi (C 0) (9 + 2 * t)).toNatClampNeg)) j = v j) ∧ gi (u 0) (9 + 2 * t) = gi (C 0) (9 + 2 * t) + 1) (hz : r = 0 → R = .error (gi (u 0) 25) ∧ gi (u 0) (9 + 2 * t) = gi (C 0) (9 + 2 * t)) (ho : ∀ i, i ≠ (gi (C 0) (9 + 2 * t)).toNatClampNeg → u (blk t + i) = C (blk t + i)) (hf : fr mc mf C u) (h1 : ((List.range 4).all (fun s => Nat.beq s t || mc.all (fun p => Nat.ble (blk s + blkN s) p.1 || Nat.ble p.2 (blk s)))) = true) (h2 : ((List.range 4).all (fun s => Nat.beq s t || !(mf.contains (9 + 2 * s)))) = true) (h3 : inR mc 13 = false) : RelMs (exB R fun x => .ok (addA A t x.1, x.2)) A r u := by
  have hc := cntM24 hT t ht
  have hn := oh_nat hc (by decide)
  have e13 := hf.1 13 h3 (by decide)
  have e0 := frC t hf h2
  have eb : ∀ s, s < 4 → ∀ i : Nat, (i : Int) < (gi (C 0) (9 + 2 * s)).toInt → u (blk s + i) = C (blk s + i) := by
    intro s hs i hi
    by_cases q : s = t
    · subst q
      exact ho i (by omega)
    · exact frB t hT hf h1 s hs q i hi
  refine ⟨fun hr => ?_, fun hr => ?_⟩
  · obtain ⟨v, g1, g2, g3⟩ := hg hr
    exact ⟨addA A t v, exB_o g1, absM_add hA ht hc g3 e0 g2 eb e13⟩
  · obtain ⟨g1, g2⟩ := hz hr
    refine ⟨exB_e g1, absM_eq hA (fun s hs => ?_) e13 eb⟩
    by_cases q : s = t
    · rw [q]
      exact g2
    · exact e0 s hs q
theorem ms_set {a : Nat → Nat} {E : Nat → ClassId} {R : Except Int32 (Int32 × PX)} {C u : Nat → va_E} {A : LA} {k : Nat} {r : Int32} {mc : List (Nat × Nat)} {mf : List Nat} (hT : TyM a E C) (hA : absM C A) (hg : r ≠ 0 → R = .ok (ga (u 13) k, pm u)) (ho : ∀ jj, jj ≠ k → ga (u 13) jj = ga (C 13) jj) (hz : r = 0 → R = .error (gi (u 0) 25)) (hz2 : r = 0 → u 13 = C 13) (hf : fr mc mf C u) (h1 : ((List.range 4).all (fun s => Nat.beq s 9 || mc.all (fun p => Nat.ble (blk s + blkN s) p.1 || Nat.ble p.2 (blk s)))) = true) (h2 : ((List.range 4).all (fun s => Nat.beq s 9 || !(mf.contains (9 + 2 * s)))) = true) : RelMs (exB R fun x => .ok (setA A k x.1, x.2)) A r u := by
  have e0 : ∀ s, s < 4 → gi (u 0) (9 + 2 * s) = gi (C 0) (9 + 2 * s) := fun s hs => frC 9 hf h2 s hs (by omega)
  have eb : ∀ s, s < 4 → ∀ i : Nat, (i : Int) < (gi (C 0) (9 + 2 * s)).toInt → u (blk s + i) = C (blk s + i) := fun s hs => frB 9 hT hf h1 s hs (by omega)
  refine ⟨fun hr => ⟨_, exB_o (hg hr), absM_set hA e0 (fun j hj => ?_) eb⟩, fun hr => ⟨exB_e (hz hr), absM_eq hA e0 (hz2 hr) eb⟩⟩
  by_cases q : j = k
  · rw [if_pos q, q]
  · rw [if_neg q]
    exact ho j q
theorem ms_no {a : Nat → Nat} {E : Nat → ClassId} {F : Nat → Int32} {C u : Nat → va_E} {A : LA} {r hi : Int32} {j : Nat} {mc : List (Nat × Nat)} {mf : List Nat} (hT : TyM a E C) (hA : absM C A) (hn : ¬ XIs F (pm C) j) (hg : r ≠ 0 → ∃ x, tNum F j 0 hi (pm C) = .ok x) (hz : r = 0 → tNum F j 0 hi (pm C) = .error (gi (u 0) 25)) (hz2 : r = 0 → u 13 = C 13) (hf : fr mc mf C u) (h1 : ((List.range 4).all (fun s => Nat.beq s 9 || mc.all (fun p => Nat.ble (blk s + blkN s) p.1 || Nat.ble p.2 (blk s)))) = true) (h2 : ((List.range 4).all (fun s => Nat.beq s 9 || !(mf.contains (9 + 2 * s)))) = true) : RelMs (.error (pm C).2.2.2.1) A r u := by
  have e : tNum F j 0 hi (pm C) = .error (pm C).2.2.2.1 := pif_neg hn
  refine ⟨fun hr => ?_, fun hr => ⟨?_, absM_eq hA (fun s hs => frC 9 hf h2 s hs (by omega)) (hz2 hr) (fun s hs => frB 9 hT hf h1 s hs (by omega))⟩⟩
  · obtain ⟨x, hx⟩ := hg hr
    rw [e] at hx
    cases hx
  · have h5 := hz hr
    rw [e] at h5
    exact congrArg Except.error (Except.error.inj h5)
theorem tn_un {f : Nat → Int32} {j : Nat} {lo hi : Int32} {p : PX} {R : Except Int32 (Int32 × PX)} (hw : XIs f p j) (h : tNum f j lo hi p = R) : mNum f lo hi (xAdv f p) = R := Eq.trans (pif_pos hw).symm h
theorem rs_road_y {f : Nat → Int32} {p : PX} {A : LA} (hw : XIs f p 0) (hr : A 5 0 0 < 24) : rdStmt f p A = exB (rdRoad f p) fun x => .ok (addA A 0 x.1, x.2) := by
  unfold rdStmt
  rw [pif_pos hw, pif_pos hr]
theorem rs_road_n {f : Nat → Int32} {p : PX} {A : LA} (hw : XIs f p 0) (hr : ¬ A 5 0 0 < 24) : rdStmt f p A = .error p.2.2.2.1 := by
  unfold rdStmt
  rw [pif_pos hw, pif_neg hr]
theorem rs_bridge_y {f : Nat → Int32} {p : PX} {A : LA} (n0 : ¬ XIs f p 0) (hw : XIs f p 5) (hr : A 5 0 1 < 16) : rdStmt f p A = exB (rdBridge f (A 5 0 0) p) fun x => .ok (addA A 1 x.1, x.2) := by
  unfold rdStmt
  rw [pif_neg n0, pif_pos hw, pif_pos hr]
theorem rs_bridge_n {f : Nat → Int32} {p : PX} {A : LA} (n0 : ¬ XIs f p 0) (hw : XIs f p 5) (hr : ¬ A 5 0 1 < 16) : rdStmt f p A = .error p.2.2.2.1 := by
  unfold rdStmt
  rw [pif_neg n0, pif_pos hw, pif_neg hr]
theorem rs_waggon_y {f : Nat → Int32} {p : PX} {A : LA} (n0 : ¬ XIs f p 0) (n1 : ¬ XIs f p 5) (hw : XIs f p 11) (hr : A 5 0 2 < 5) : rdStmt f p A = exB (rdWag f p) fun x => .ok (addA A 2 x.1, x.2) := by
  unfold rdStmt
  rw [pif_neg n0, pif_neg n1, pif_pos hw, pif_pos hr]
theorem rs_waggon_n {f : Nat → Int32} {p : PX} {A : LA} (n0 : ¬ XIs f p 0) (n1 : ¬ XIs f p 5) (hw : XIs f p 11) (hr : ¬ A 5 0 2 < 5) : rdStmt f p A = .error p.2.2.2.1 := by
  unfold rdStmt
  rw [pif_neg n0, pif_neg n1, pif_pos hw, pif_neg hr]
theorem rs_part_y {f : Nat → Int32} {p : PX} {A : LA} (n0 : ¬ XIs f p 0) (n1 : ¬ XIs f p 5) (n2 : ¬ XIs f p 11) (hw : XIs f p 14) (hr : A 5 0 3 < 5) : rdStmt f p A = exB (rdPart f p) fun x => .ok (addA A 3 x.1, x.2) := by
  unfold rdStmt
  rw [pif_neg n0, pif_neg n1, pif_neg n2, pif_pos hw, pif_pos hr]
theorem rs_part_n {f : Nat → Int32} {p : PX} {A : LA} (n0 : ¬ XIs f p 0) (n1 : ¬ XIs f p 5) (n2 : ¬ XIs f p 11) (hw : XIs f p 14) (hr : ¬ A 5 0 3 < 5) : rdStmt f p A = .error p.2.2.2.1 := by
  unfold rdStmt
  rw [pif_neg n0, pif_neg n1, pif_neg n2, pif_pos hw, pif_neg hr]
theorem rs_load_y {f : Nat → Int32} {p : PX} {A : LA} (n0 : ¬ XIs f p 0) (n1 : ¬ XIs f p 5) (n2 : ¬ XIs f p 11) (n3 : ¬ XIs f p 14) (hw : XIs f p 15) : rdStmt f p A = exB (tNum f 15 0 900 p) fun x => .ok (setA A 0 x.1, x.2) := by
  unfold rdStmt
  rw [pif_neg n0, pif_neg n1, pif_neg n2, pif_neg n3, pif_pos hw]
theorem rs_mile_y {f : Nat → Int32} {p : PX} {A : LA} (n0 : ¬ XIs f p 0) (n1 : ¬ XIs f p 5) (n2 : ¬ XIs f p 11) (n3 : ¬ XIs f p 14) (n4 : ¬ XIs f p 15) : rdStmt f p A = exB (tNum f 16 0 99 p) fun x => .ok (setA A 1 x.1, x.2) := by
  unfold rdStmt
  rw [pif_neg n0, pif_neg n1, pif_neg n2, pif_neg n3, pif_neg n4]
theorem ms_eq {R R2 : Except Int32 (LA × PX)} {A : LA} {r : Int32} {u : Nat → va_E} (e : R = R2) (h : RelMs R2 A r u) : RelMs R A r u := e ▸ h
/-- the reference at its loop -/
def MLp (f : Nat → Int32) (n : Int32) (A0 : LA) (K : Nat → va_E) : Prop := ∃ A : LA, absM K A ∧ below A0 A ∧ rdLoop f (250 - (gi (K 0) 26).toInt).toNat (pm K) A (gi (K 0) 26) = rdTot f n A0
def RelMr (R : Except Int32 (LA × Int32)) (A0 : LA) (r : Int32) (u : Nat → va_E) : Prop := (r ≠ 0 → ∃ B : LA, R = .ok (B, gi (u 0) 26) ∧ absM u B) ∧ (r = 0 → R = .error (gi (u 0) 25) ∧ ∃ A : LA, absM u A ∧ below A0 A)
theorem cntAM {a : Nat → Nat} {E : Nat → ClassId} {C : Nat → va_E} {A : LA} (hT : TyM a E C) (h : absM C A) : ∀ t, t < 4 → rg (A 5 0 t) 0 24 := fun t ht => by
  rw [← h.1 t ht]
  exact cntM24 hT t ht
theorem ML_0 {a : Nat → Nat} {E : Nat → ClassId} {f : Nat → Int32} {n t s r : Int32} {A0 : LA} {C3 C4 : Nat → va_E} (hT : TyM a E C3) (hA : absM C3 A0) (hp : pm C3 = xAdv f (n, -1, t, s, 0)) (hst : RelMs (rdStmt f (pm C3) A0) A0 r C4) (hr : ¬ r = 0) (h26 : gi (C4 0) 26 = 1) : MLp f n A0 C4 := by
  obtain ⟨B, e, hB⟩ := hst.1 hr
  refine ⟨B, hB, below_stmt below_rf (cntAM hT hA) e, ?_⟩
  have et : rdTot f n A0 = exB (rdStmt f (pm C3) A0) fun x => rdLoop f 249 x.2 x.1 1 := by
    rw [hp]
    rfl
  rw [et, e, h26]
  rfl
theorem ML_0e {a : Nat → Nat} {E : Nat → ClassId} {f : Nat → Int32} {n t s r : Int32} {A0 : LA} {C3 C4 : Nat → va_E} (hA : absM C3 A0) (hp : pm C3 = xAdv f (n, -1, t, s, 0)) (hst : RelMs (rdStmt f (pm C3) A0) A0 r C4) (hr : r = 0) : rdTot f n A0 = .error (gi (C4 0) 25) ∧ ∃ A : LA, absM C4 A ∧ below A0 A := by
  obtain ⟨e, hB⟩ := hst.2 hr
  have et : rdTot f n A0 = exB (rdStmt f (pm C3) A0) fun x => rdLoop f 249 x.2 x.1 1 := by
    rw [hp]
    rfl
  refine ⟨?_, A0, hB, below_rf⟩
  rw [et, e]
  rfl
theorem ML_s {a : Nat → Nat} {E : Nat → ClassId} {f : Nat → Int32} {n r : Int32} {A0 : LA} {K K1 K2 K3 : Nat → va_E} (hT : TyM a E K) (h : MLp f n A0 K) (ht : ¬ gi (K 0) 22 = 0) (h3 : gi (K 0) 22 = 3) (hk : rg (gi (K 0) 26) 0 249) (hp : pm K1 = xAdv f (pm K)) (e1 : ∀ A, absM K A → absM K1 A) (hst : ∀ A : LA, absM K1 A → RelMs (rdStmt f (pm K1) A) A r K2) (hr : ¬ r = 0) (e3 : ∀ A, absM K2 A → absM K3 A) (ep : pm K3 = pm K2) (h26 : gi (K3 0) 26 = gi (K 0) 26 + 1) : MLp f n A0 K3 := by
  obtain ⟨A, g1, g2, g3⟩ := h
  obtain ⟨B, e, hB⟩ := (hst A (e1 A g1)).1 hr
  have e2 := oh_add1 hk
  rw [hp] at e
  refine ⟨B, e3 B hB, below_stmt g2 (cntAM hT g1) e, ?_⟩
  rw [← g3, show (250 - (gi (K 0) 26).toInt).toNat = (250 - (gi (K3 0) 26).toInt).toNat + 1 by rw [h26, e2]; have := hk.2; omega, rdLoop_s, pif_neg (show ¬ (pm K).2.2.1 = 0 from ht), pif_pos (show (pm K).2.2.1 = 3 from h3), exB_o e, ep, h26]
theorem ML_se {f : Nat → Int32} {n r : Int32} {A0 : LA} {K K1 K2 : Nat → va_E} (h : MLp f n A0 K) (ht : ¬ gi (K 0) 22 = 0) (h3 : gi (K 0) 22 = 3) (hk : rg (gi (K 0) 26) 0 249) (hp : pm K1 = xAdv f (pm K)) (e1 : ∀ A, absM K A → absM K1 A) (hst : ∀ A : LA, absM K1 A → RelMs (rdStmt f (pm K1) A) A r K2) (hr : r = 0) : rdTot f n A0 = .error (gi (K2 0) 25) ∧ ∃ A : LA, absM K2 A ∧ below A0 A := by
  obtain ⟨A, g1, g2, g3⟩ := h
  obtain ⟨e, hB⟩ := (hst A (e1 A g1)).2 hr
  rw [hp] at e
  refine ⟨?_, A, hB, g2⟩
  obtain ⟨m, hm⟩ : ∃ m, (250 - (gi (K 0) 26).toInt).toNat = m + 1 := ⟨(250 - (gi (K 0) 26).toInt).toNat - 1, by have := hk.2; omega⟩
  rw [← g3, hm, rdLoop_s, pif_neg (show ¬ (pm K).2.2.1 = 0 from ht), pif_pos (show (pm K).2.2.1 = 3 from h3), exB_e e]
theorem ML_w {f : Nat → Int32} {n fl : Int32} {A0 : LA} {K u : Nat → va_E} (h : MLp f n A0 K) (ht : ¬ gi (K 0) 22 = 0) (h3 : ¬ gi (K 0) 22 = 3) (hk : rg (gi (K 0) 26) 0 249) (hf : gi (u 0) 25 = gi (K 0) 23) (e1 : ∀ A, absM K A → absM u A) : rdTot f n A0 = .error (gi (u 0) 25) ∧ ∃ A : LA, absM u A ∧ below A0 A := by
  obtain ⟨A, g1, g2, g3⟩ := h
  refine ⟨?_, A, e1 A g1, g2⟩
  obtain ⟨m, hm⟩ : ∃ m, (250 - (gi (K 0) 26).toInt).toNat = m + 1 := ⟨(250 - (gi (K 0) 26).toInt).toNat - 1, by have := hk.2; omega⟩
  rw [← g3, hm, rdLoop_s, pif_neg (show ¬ (pm K).2.2.1 = 0 from ht), pif_neg (show ¬ (pm K).2.2.1 = 3 from h3), hf]
  rfl
theorem ML_ok {f : Nat → Int32} {n : Int32} {A0 : LA} {K : Nat → va_E} (h : MLp f n A0 K) (ht : gi (K 0) 22 = 0) : ∃ B : LA, rdTot f n A0 = .ok (B, gi (K 0) 26) ∧ absM K B := by
  obtain ⟨A, g1, g2, g3⟩ := h
  refine ⟨A, ?_, g1⟩
  rw [← g3]
  cases (250 - (gi (K 0) 26).toInt).toNat with
  | zero => rfl
  | succ m => rw [rdLoop_s, pif_pos (show (pm K).2.2.1 = 0 from ht)]
theorem absM_back {C K u : Nat → va_E} {A0 A : LA} (hA : absM C A0) (h : absM K A) (hb : below A0 A) (e0 : ∀ s, s < 4 → gi (u 0) (9 + 2 * s) = gi (C 0) (9 + 2 * s)) (e13 : ∀ j, j < 2 → ga (u 13) j = ga (C 13) j) (e2 : ga (u 13) 2 = ga (K 13) 2) (e : ∀ s, s < 4 → ∀ i : Nat, (i : Int) < (gi (K 0) (9 + 2 * s)).toInt → u (blk s + i) = K (blk s + i)) : absM u A0 := by
  refine ⟨fun t ht => ?_, fun j hj => ?_, fun t ht i hi j hj hv => ?_⟩
  · rw [e0 t ht]
    exact hA.1 t ht
  · by_cases q : j = 2
    · rw [q, e2, h.2.1 2 (by decide)]
      exact hb.2.2
    · rw [e13 j (by omega)]
      exact hA.2.1 j hj
  · have h1 := hb.1 t ht
    rw [e t ht i (by rw [h.1 t ht]; omega), h.2.2 t ht i (by omega) j hj hv]
    exact hb.2.1 t ht i hi j
theorem mland_ok {R : Except Int32 (LA × Int32)} {A0 : LA} {r q : Int32} {K u : Nat → va_E} (h : RelMr R A0 r K) (hr : ¬ r = 0) (hq : q = gi (K 0) 26) (e : ∀ A, absM K A → absM u A) : ∃ B : LA, LandR R A0 B q ∧ absM u B := by
  obtain ⟨B, e1, hB⟩ := h.1 hr
  refine ⟨B, ?_, e B hB⟩
  rw [e1]
  exact ⟨hq, rfl⟩
theorem mland_er {R : Except Int32 (LA × Int32)} {A0 : LA} {r q fl : Int32} {C K u : Nat → va_E} (h : RelMr R A0 r K) (hr : r = 0) (hA : absM C A0) (hq : q = -20 - fl) (hf : fl = gi (K 0) 25) (e0 : ∀ s, s < 4 → gi (u 0) (9 + 2 * s) = gi (C 0) (9 + 2 * s)) (e13 : ∀ j, j < 2 → ga (u 13) j = ga (C 13) j) (e2 : ga (u 13) 2 = ga (K 13) 2) (e : ∀ s, s < 4 → ∀ i : Nat, (i : Int) < (gi (K 0) (9 + 2 * s)).toInt → u (blk s + i) = K (blk s + i)) : ∃ B : LA, LandR R A0 B q ∧ absM u B := by
  obtain ⟨e1, A, hB, hb⟩ := h.2 hr
  refine ⟨A0, ?_, absM_back hA hB hb e0 e13 e2 e⟩
  rw [e1]
  exact ⟨by rw [hq, hf], rfl⟩

set_option maxHeartbeats 4000000 in
set_option maxRecDepth 100000 in
theorem e_X7_statement (l : Launch) (D : va_G) (E : Nat → ClassId) (G : Nat → Nat) (sz : Nat) (a : Nat → Nat) (C : Nat → va_E) (n : Nat) (hn : 74 ≤ n) (hT : TyM a E C) (hat : (gi (C 0) 21).toInt ≤ (gi (C 0) 7).toInt) (hR : RelW C) (hfg : FG C) (hft : (gi (C 0) 23).toInt ≤ (gi (C 0) 21).toInt) : Met l yX7_statement (oh_w yX7_statement cX7_statement 2 (some .boolean)) ({ frames := 8, cells := 0, slots := 0, locals := 178 }) (oh_Pm D E G [.ref (a 0)] (oh_W n a C) sz) (va_Qi (fun r (u : Nat → va_E) => TyM a E u ∧ fr [(13, 14), (24, 48), (48, 64), (64, 69), (69, 74)] [9, 11, 13, 15, 21, 22, 23, 24, 25] C u ∧ (r = 0 ∨ r = 1) ∧ (((gi (C 0) 21).toInt ≤ (gi (u 0) 21).toInt) ∧ ((gi (u 0) 21).toInt ≤ (gi (u 0) 7).toInt)) ∧ (r ≠ 0 → ((gi (C 0) 23).toInt + 3 ≤ (gi (u 0) 21).toInt)) ∧ (RelW u) ∧ ((gi (C 0) 13).toInt ≤ (gi (u 0) 13).toInt) ∧ (∀ A : LA, absM C A → RelMs (rdStmt (ga (C 7)) (pm C) A) A r u) ∧ (FG u) ∧ ((gi (u 0) 23).toInt ≤ (gi (u 0) 21).toInt)) (oh_B D (va_A (oh_W n a C) sz) (fun u => oh_W n a u)) (va_A (oh_W n a C) sz)) 0 0 (va_A (oh_W n a C) sz) := by
  refine Met.ofW (cc := cX7_statement) (maxL := 2) (ret := (some .boolean)) (by decide) rfl ?_
  intro p e s m args below meth c s₁ B hml hv
  obtain ⟨rfl, hsz, hP, hK, hD0, hG⟩ := hv
  have hx := B.exec
  have hb := B.bytes
  have hr := B.returns
  have hts := atoms_spec (ws := (oh_w yX7_statement cX7_statement 2 (some .boolean))) B.pre
  have htg : ∀ w ∈ oh_t, w.before _ s = true := fun w h => hts w (List.mem_cons_of_mem _ h)
  have hown : s.vm.findClass RX7 = some m.cls := findClass_of_methodNamed B.named
  have hlocks := B.notSynchronized
  have hT0 := hT
  subst hsz
  have hD := hD0.self (sz := s.heap.size)
  generalize hAe : va_A (oh_W n a C) s.heap.size = A at hD hG ⊢
  have hA : ∀ q : Nat, s.heap.size ≤ q → A q := fun q h => by rw [← hAe]; exact Or.inr h
  have hS : va_S A s.heap s.heap [] := va_S.rf
  have hF : fr [(13, 14), (24, 48), (48, 64), (64, 69), (69, 74)] [9, 11, 13, 15, 21, 22, 23, 24, 25] C C := fr_rf
  have hl := lv_entry ([.ref (a 0)]) (n := 2) (Nat.le_of_ble_eq_true rfl)
  rw [lg_entry_eq]
  generalize (lg_sl ([.ref (a 0)]) ++ List.replicate (2 - (lg_sl ([.ref (a 0)])).length) Slot.unset).toArray = ls at hl ⊢
  have hl : lv_has ls 2 [(0, .ref (a 0))] := hl
  refine oh_genQ (fun Q hQ => ?_)
  refine lv_aload_n hx hb dX7_statement_0 rfl (lv_at hl 0 rfl) ?_
  refine va_ldcS hx hb hown (hG.2.2.1 ("OneHeavyLoadModel", 200, "road", 20) (List.mem_of_getElem? (i := 17) rfl)) dX7_statement_1 ?_
  refine tq_V (As := [.ref (G (3 + 17))]) (rest := []) (ws := (oh_W n a C)) ⟨hx, hb, hml, hown, htg⟩ (e_X7_isWord l D E G a C n hn hT 17 (by decide)) (cwV 1 htg (oh_gV q_1215 q_1217 q_41 q_73 q_1218) rfl rfl rfl pdVX7_isWord ⟨Nat.le_of_ble_eq_true rfl, Nat.le_of_ble_eq_true rfl⟩) hK hP hG hS (va_recv hK hP (ci := 7) (q0 := 0) rfl (oh_wg (Nat.lt_of_lt_of_le (by decide) hn) (sM_0 hT))) rfl hl.1 rfl (Nat.le_of_ble_eq_true rfl) dX7_statement_3 ⟨Nat.le_of_ble_eq_true rfl, Nat.le_of_ble_eq_true rfl⟩ (fun r_1 hq_2 => ?_)
  refine lv_if_eq (tgt := 32) hx hb dX7_statement_6 (by decide) (fun (c_3 : r_1 = 0) => ?_) (fun (c_3 : ¬ (r_1 = 0)) => ?_)
  · have u_4 := hq_2.2.2 c_3
    refine lv_aload_n hx hb dX7_statement_32 rfl (lv_at hl 0 rfl) ?_
    refine va_ldcS hx hb hown (hG.2.2.1 ("OneHeavyLoadModel", 205, "bridge", 25) (List.mem_of_getElem? (i := 22) rfl)) dX7_statement_33 ?_
    refine tq_V (As := [.ref (G (3 + 22))]) (rest := []) (ws := (oh_W n a C)) ⟨hx, hb, hml, hown, htg⟩ (e_X7_isWord l D E G a C n hn hT 22 (by decide)) (cwV 1 htg (oh_gV q_1215 q_1217 q_41 q_73 q_1218) rfl rfl rfl pdVX7_isWord ⟨Nat.le_of_ble_eq_true rfl, Nat.le_of_ble_eq_true rfl⟩) hK hP hG hS (va_recv hK hP (ci := 7) (q0 := 0) rfl (oh_wg (Nat.lt_of_lt_of_le (by decide) hn) (sM_0 hT))) rfl hl.1 rfl (Nat.le_of_ble_eq_true rfl) dX7_statement_35 ⟨Nat.le_of_ble_eq_true rfl, Nat.le_of_ble_eq_true rfl⟩ (fun r_5 hq_6 => ?_)
    refine lv_if_eq (tgt := 64) hx hb dX7_statement_38 (by decide) (fun (c_7 : r_5 = 0) => ?_) (fun (c_7 : ¬ (r_5 = 0)) => ?_)
    · have u_8 := hq_6.2.2 c_7
      refine lv_aload_n hx hb dX7_statement_64 rfl (lv_at hl 0 rfl) ?_
      refine va_ldcS hx hb hown (hG.2.2.1 ("OneHeavyLoadModel", 209, "waggon", 31) (List.mem_of_getElem? (i := 28) rfl)) dX7_statement_65 ?_
      refine tq_V (As := [.ref (G (3 + 28))]) (rest := []) (ws := (oh_W n a C)) ⟨hx, hb, hml, hown, htg⟩ (e_X7_isWord l D E G a C n hn hT 28 (by decide)) (cwV 1 htg (oh_gV q_1215 q_1217 q_41 q_73 q_1218) rfl rfl rfl pdVX7_isWord ⟨Nat.le_of_ble_eq_true rfl, Nat.le_of_ble_eq_true rfl⟩) hK hP hG hS (va_recv hK hP (ci := 7) (q0 := 0) rfl (oh_wg (Nat.lt_of_lt_of_le (by decide) hn) (sM_0 hT))) rfl hl.1 rfl (Nat.le_of_ble_eq_true rfl) dX7_statement_67 ⟨Nat.le_of_ble_eq_true rfl, Nat.le_of_ble_eq_true rfl⟩ (fun r_9 hq_10 => ?_)
      refine lv_if_eq (tgt := 147) hx hb dX7_statement_70 (by decide) (fun (c_11 : r_9 = 0) => ?_) (fun (c_11 : ¬ (r_9 = 0)) => ?_)
      · have u_12 := hq_10.2.2 c_11
        refine lv_aload_n hx hb dX7_statement_147 rfl (lv_at hl 0 rfl) ?_
        refine va_ldcS hx hb hown (hG.2.2.1 ("OneHeavyLoadModel", 214, "part", 34) (List.mem_of_getElem? (i := 31) rfl)) dX7_statement_148 ?_
        refine tq_V (As := [.ref (G (3 + 31))]) (rest := []) (ws := (oh_W n a C)) ⟨hx, hb, hml, hown, htg⟩ (e_X7_isWord l D E G a C n hn hT 31 (by decide)) (cwV 1 htg (oh_gV q_1215 q_1217 q_41 q_73 q_1218) rfl rfl rfl pdVX7_isWord ⟨Nat.le_of_ble_eq_true rfl, Nat.le_of_ble_eq_true rfl⟩) hK hP hG hS (va_recv hK hP (ci := 7) (q0 := 0) rfl (oh_wg (Nat.lt_of_lt_of_le (by decide) hn) (sM_0 hT))) rfl hl.1 rfl (Nat.le_of_ble_eq_true rfl) dX7_statement_150 ⟨Nat.le_of_ble_eq_true rfl, Nat.le_of_ble_eq_true rfl⟩ (fun r_13 hq_14 => ?_)
        refine lv_if_eq (tgt := 220) hx hb dX7_statement_153 (by decide) (fun (c_15 : r_13 = 0) => ?_) (fun (c_15 : ¬ (r_13 = 0)) => ?_)
        · have u_16 := hq_14.2.2 c_15
          refine lv_aload_n hx hb dX7_statement_220 rfl (lv_at hl 0 rfl) ?_
          refine va_ldcS hx hb hown (hG.2.2.1 ("OneHeavyLoadModel", 215, "load", 35) (List.mem_of_getElem? (i := 32) rfl)) dX7_statement_221 ?_
          refine tq_V (As := [.ref (G (3 + 32))]) (rest := []) (ws := (oh_W n a C)) ⟨hx, hb, hml, hown, htg⟩ (e_X7_isWord l D E G a C n hn hT 32 (by decide)) (cwV 1 htg (oh_gV q_1215 q_1217 q_41 q_73 q_1218) rfl rfl rfl pdVX7_isWord ⟨Nat.le_of_ble_eq_true rfl, Nat.le_of_ble_eq_true rfl⟩) hK hP hG hS (va_recv hK hP (ci := 7) (q0 := 0) rfl (oh_wg (Nat.lt_of_lt_of_le (by decide) hn) (sM_0 hT))) rfl hl.1 rfl (Nat.le_of_ble_eq_true rfl) dX7_statement_223 ⟨Nat.le_of_ble_eq_true rfl, Nat.le_of_ble_eq_true rfl⟩ (fun r_17 hq_18 => ?_)
          refine lv_if_eq (tgt := 245) hx hb dX7_statement_226 (by decide) (fun (c_19 : r_17 = 0) => ?_) (fun (c_19 : ¬ (r_17 = 0)) => ?_)
          · have u_20 := hq_18.2.2 c_19
            refine lv_aload_n hx hb dX7_statement_245 rfl (lv_at hl 0 rfl) ?_
            refine va_ldcS hx hb hown (hG.2.2.1 ("OneHeavyLoadModel", 217, "mile", 36) (List.mem_of_getElem? (i := 33) rfl)) dX7_statement_246 ?_
            refine lv_aload_n hx hb dX7_statement_248 rfl (lv_at hl 0 rfl) ?_
            refine va_get (D := D) (ci := 7) (v := .ref (a 13)) (C := RX7) (T := TX7) (N := 29) hx hb htg ig_7 hown hK hP 0 (oh_wg (Nat.lt_of_lt_of_le (by decide) hn) (sM_0 hT)) rfl 17 (by decide) (htg _ q_990) (fun _ h9 => h9) rfl dX7_statement_249 ?_
            refine lv_iconst (v := 1) hx hb dX7_statement_252 (by decide) ?_
            refine lv_iconst (v := 0) hx hb dX7_statement_253 (by decide) ?_
            refine lv_bipush (v := 99) hx hb dX7_statement_254 (by decide) ?_
            have : 0 ≤ (gi (C 0) 21).toInt ∧ (gi (C 0) 21).toInt ≤ 250 := fM_0_21 hT0
            have : 0 ≤ (gi (C 0) 7).toInt ∧ (gi (C 0) 7).toInt ≤ 250 := fM_0_7 hT0
            have : 0 ≤ (gi (C 0) 23).toInt ∧ (gi (C 0) 23).toInt ≤ 250 := fM_0_23 hT0
            have : 0 ≤ (gi (C 0) 13).toInt ∧ (gi (C 0) 13).toInt ≤ 5 := fM_0_13 hT0
            refine tm_V (As := [.ref (G (3 + 33)), .ref (a 13), .int 1, .int 0, .int 99]) (rest := []) ⟨hx, hb, hml, hown, htg⟩ (e_X7_told l D E G _ a C n hn hT 33 13 (1 : Int32) (0 : Int32) (99 : Int32) (by decide) (rg_w (rg_c (v := 0) (lo := 0) (hi := 0) (by decide)) (by decide)) (rg_w (rg_c (v := 99) (lo := 99) (hi := 99) (by decide)) (by decide)) ⟨(Nat.lt_of_lt_of_le (by decide) hn), (by decide), 3, fun C h => (sM_13 h), (rg_in (rg_c (v := 1) (lo := 1) (hi := 1) (by decide)) (by decide)), fun C v h h1 h2 => (h.up 13 (by decide) (tA_upd (tM_13 h) tA_any))⟩ (by omega) hfg (by omega) (by decide)) (cwV 5 htg (oh_gV q_1234 q_1236 q_45 q_73 q_1237) rfl rfl rfl pdVX7_told ⟨Nat.le_of_ble_eq_true rfl, Nat.le_of_ble_eq_true rfl⟩) hK hP hD hG hS hA (va_recv hK hP (ci := 7) (q0 := 0) rfl (oh_wg (Nat.lt_of_lt_of_le (by decide) hn) (sM_0 hT))) rfl hl.1 rfl (Nat.le_of_ble_eq_true rfl) dX7_statement_256 ⟨Nat.le_of_ble_eq_true rfl, Nat.le_of_ble_eq_true rfl⟩ (fun r_21 C_22 H locs hq_23 hP hD hS => ?_)
            obtain ⟨hT, f_24, hq_23⟩ := hq_23
            have hF := fr_trk hF f_24 (by decide) (by decide)
            refine W.widen (k := 0) (n := 0) (Nat.le_refl _) (Nat.le_refl _) ?_
            have t_25 := hT
            have : (gi (C_22 0) 7).toInt = (gi (C 0) 7).toInt := congrArg (fun z => (vi z).toInt) (f_24.2 7 (by decide))
            have : (gi (C_22 0) 13).toInt = (gi (C 0) 13).toInt := congrArg (fun z => (vi z).toInt) (f_24.2 13 (by decide))
            have : 0 ≤ (gi (C_22 0) 21).toInt ∧ (gi (C_22 0) 21).toInt ≤ 250 := fM_0_21 t_25
            have : 0 ≤ (gi (C_22 0) 7).toInt ∧ (gi (C_22 0) 7).toInt ≤ 250 := fM_0_7 t_25
            have : 0 ≤ (gi (C_22 0) 23).toInt ∧ (gi (C_22 0) 23).toInt ≤ 250 := fM_0_23 t_25
            have : 0 ≤ (gi (C_22 0) 13).toInt ∧ (gi (C_22 0) 13).toInt ≤ 5 := fM_0_13 t_25
            rw [hQ]
            exact W.zret (v := r_21) (ty := .boolean) hx hb hr (oh_nb hq_23.1) (fun t ht hW => ⟨⟨r_21, C_22, rfl, ⟨hT, hF, ⟨hq_23.1, ⟨hq_23.2.1.1, hq_23.2.1.2⟩, (fun h9 => (hq_23.2.2.2.2.1 h9)), (RelW.fr hR (fr_trk (mc := [(13, 14)]) (mf := [21, 22, 23, 24, 25]) fr_rf f_24 (by decide) (by decide)) (by decide)), (by omega), (fun A hA => ms_eq (rs_mile_y (xw_n sw_road rfl u_4) (xw_n sw_bridge rfl u_8) (xw_n sw_waggon rfl u_12) (xw_n sw_part rfl u_16) (xw_n sw_load rfl u_20)) (ms_set (k := 1) hT0 hA (fun h7 => tn_f sw_mile rfl (hq_23.2.2.2.2.2.1 h7)) hq_23.2.2.1 (fun h7 => tn_f sw_mile rfl (hq_23.2.2.2.2.2.2.1 h7)) hq_23.2.2.2.2.2.2.2.1 f_24 (by decide) (by decide))), hq_23.2.2.2.2.2.2.2.2.1, hq_23.2.2.2.2.2.2.2.2.2⟩⟩, ⟨by rw [ht]; exact hP, hD⟩⟩, hS.F ht⟩) hS.2.2 dX7_statement_259
          · have u_26 := hq_18.2.1 c_19
            refine lv_aload_n hx hb dX7_statement_229 rfl (lv_at hl 0 rfl) ?_
            refine va_ldcS hx hb hown (hG.2.2.1 ("OneHeavyLoadModel", 215, "load", 35) (List.mem_of_getElem? (i := 32) rfl)) dX7_statement_230 ?_
            refine lv_aload_n hx hb dX7_statement_232 rfl (lv_at hl 0 rfl) ?_
            refine va_get (D := D) (ci := 7) (v := .ref (a 13)) (C := RX7) (T := TX7) (N := 29) hx hb htg ig_7 hown hK hP 0 (oh_wg (Nat.lt_of_lt_of_le (by decide) hn) (sM_0 hT)) rfl 17 (by decide) (htg _ q_990) (fun _ h9 => h9) rfl dX7_statement_233 ?_
            refine lv_iconst (v := 0) hx hb dX7_statement_236 (by decide) ?_
            refine lv_iconst (v := 0) hx hb dX7_statement_237 (by decide) ?_
            refine lv_sipush (v := 900) hx hb dX7_statement_238 (by decide) ?_
            have : 0 ≤ (gi (C 0) 21).toInt ∧ (gi (C 0) 21).toInt ≤ 250 := fM_0_21 hT0
            have : 0 ≤ (gi (C 0) 7).toInt ∧ (gi (C 0) 7).toInt ≤ 250 := fM_0_7 hT0
            have : 0 ≤ (gi (C 0) 23).toInt ∧ (gi (C 0) 23).toInt ≤ 250 := fM_0_23 hT0
            have : 0 ≤ (gi (C 0) 13).toInt ∧ (gi (C 0) 13).toInt ≤ 5 := fM_0_13 hT0
            refine tm_V (As := [.ref (G (3 + 32)), .ref (a 13), .int 0, .int 0, .int 900]) (rest := []) ⟨hx, hb, hml, hown, htg⟩ (e_X7_told l D E G _ a C n hn hT 32 13 (0 : Int32) (0 : Int32) (900 : Int32) (by decide) (rg_w (rg_c (v := 0) (lo := 0) (hi := 0) (by decide)) (by decide)) (rg_w (rg_c (v := 900) (lo := 900) (hi := 900) (by decide)) (by decide)) ⟨(Nat.lt_of_lt_of_le (by decide) hn), (by decide), 3, fun C h => (sM_13 h), (rg_in (rg_c (v := 0) (lo := 0) (hi := 0) (by decide)) (by decide)), fun C v h h1 h2 => (h.up 13 (by decide) (tA_upd (tM_13 h) tA_any))⟩ (by omega) hfg (by omega) (by decide)) (cwV 5 htg (oh_gV q_1234 q_1236 q_45 q_73 q_1237) rfl rfl rfl pdVX7_told ⟨Nat.le_of_ble_eq_true rfl, Nat.le_of_ble_eq_true rfl⟩) hK hP hD hG hS hA (va_recv hK hP (ci := 7) (q0 := 0) rfl (oh_wg (Nat.lt_of_lt_of_le (by decide) hn) (sM_0 hT))) rfl hl.1 rfl (Nat.le_of_ble_eq_true rfl) dX7_statement_241 ⟨Nat.le_of_ble_eq_true rfl, Nat.le_of_ble_eq_true rfl⟩ (fun r_27 C_28 H locs hq_29 hP hD hS => ?_)
            obtain ⟨hT, f_30, hq_29⟩ := hq_29
            have hF := fr_trk hF f_30 (by decide) (by decide)
            refine W.widen (k := 0) (n := 0) (Nat.le_refl _) (Nat.le_refl _) ?_
            have t_31 := hT
            have : (gi (C_28 0) 7).toInt = (gi (C 0) 7).toInt := congrArg (fun z => (vi z).toInt) (f_30.2 7 (by decide))
            have : (gi (C_28 0) 13).toInt = (gi (C 0) 13).toInt := congrArg (fun z => (vi z).toInt) (f_30.2 13 (by decide))
            have : 0 ≤ (gi (C_28 0) 21).toInt ∧ (gi (C_28 0) 21).toInt ≤ 250 := fM_0_21 t_31
            have : 0 ≤ (gi (C_28 0) 7).toInt ∧ (gi (C_28 0) 7).toInt ≤ 250 := fM_0_7 t_31
            have : 0 ≤ (gi (C_28 0) 23).toInt ∧ (gi (C_28 0) 23).toInt ≤ 250 := fM_0_23 t_31
            have : 0 ≤ (gi (C_28 0) 13).toInt ∧ (gi (C_28 0) 13).toInt ≤ 5 := fM_0_13 t_31
            rw [hQ]
            exact W.zret (v := r_27) (ty := .boolean) hx hb hr (oh_nb hq_29.1) (fun t ht hW => ⟨⟨r_27, C_28, rfl, ⟨hT, hF, ⟨hq_29.1, ⟨hq_29.2.1.1, hq_29.2.1.2⟩, (fun h9 => (hq_29.2.2.2.2.1 h9)), (RelW.fr hR (fr_trk (mc := [(13, 14)]) (mf := [21, 22, 23, 24, 25]) fr_rf f_30 (by decide) (by decide)) (by decide)), (by omega), (fun A hA => ms_eq (rs_load_y (xw_n sw_road rfl u_4) (xw_n sw_bridge rfl u_8) (xw_n sw_waggon rfl u_12) (xw_n sw_part rfl u_16) (xw_f sw_load rfl u_26.2)) (ms_set (k := 0) hT0 hA (fun h7 => tn_f sw_load rfl (hq_29.2.2.2.2.2.1 h7)) hq_29.2.2.1 (fun h7 => tn_f sw_load rfl (hq_29.2.2.2.2.2.2.1 h7)) hq_29.2.2.2.2.2.2.2.1 f_30 (by decide) (by decide))), hq_29.2.2.2.2.2.2.2.2.1, hq_29.2.2.2.2.2.2.2.2.2⟩⟩, ⟨by rw [ht]; exact hP, hD⟩⟩, hS.F ht⟩) hS.2.2 dX7_statement_244
        · have u_32 := hq_14.2.1 c_15
          refine lv_aload_n hx hb dX7_statement_156 rfl (lv_at hl 0 rfl) ?_
          refine va_get (D := D) (ci := 7) (v := .int (gi (C 0) 15)) (C := RX7) (T := TX7) (N := 29) hx hb htg ig_7 hown hK hP 0 (oh_wg (Nat.lt_of_lt_of_le (by decide) hn) (sM_0 hT)) rfl 15 (by decide) (htg _ q_988) (fun _ h9 => h9) rfl dX7_statement_157 ?_
          refine lv_iconst (v := 5) hx hb dX7_statement_160 (by decide) ?_
          refine lv_icmp_ge (tgt := 220) hx hb dX7_statement_161 (by decide) (fun (c_33 : (5 : Int32) ≤ (gi (C 0) 15)) => ?_) (fun (c_33 : ¬ ((5 : Int32) ≤ (gi (C 0) 15))) => ?_)
          · refine lv_aload_n hx hb dX7_statement_220 rfl (lv_at hl 0 rfl) ?_
            refine va_ldcS hx hb hown (hG.2.2.1 ("OneHeavyLoadModel", 215, "load", 35) (List.mem_of_getElem? (i := 32) rfl)) dX7_statement_221 ?_
            refine tq_V (As := [.ref (G (3 + 32))]) (rest := []) (ws := (oh_W n a C)) ⟨hx, hb, hml, hown, htg⟩ (e_X7_isWord l D E G a C n hn hT 32 (by decide)) (cwV 1 htg (oh_gV q_1215 q_1217 q_41 q_73 q_1218) rfl rfl rfl pdVX7_isWord ⟨Nat.le_of_ble_eq_true rfl, Nat.le_of_ble_eq_true rfl⟩) hK hP hG hS (va_recv hK hP (ci := 7) (q0 := 0) rfl (oh_wg (Nat.lt_of_lt_of_le (by decide) hn) (sM_0 hT))) rfl hl.1 rfl (Nat.le_of_ble_eq_true rfl) dX7_statement_223 ⟨Nat.le_of_ble_eq_true rfl, Nat.le_of_ble_eq_true rfl⟩ (fun r_34 hq_35 => ?_)
            refine lv_if_eq (tgt := 245) hx hb dX7_statement_226 (by decide) (fun (c_36 : r_34 = 0) => ?_) (fun (c_36 : ¬ (r_34 = 0)) => ?_)
            · have u_37 := hq_35.2.2 c_36
              refine lv_aload_n hx hb dX7_statement_245 rfl (lv_at hl 0 rfl) ?_
              refine va_ldcS hx hb hown (hG.2.2.1 ("OneHeavyLoadModel", 217, "mile", 36) (List.mem_of_getElem? (i := 33) rfl)) dX7_statement_246 ?_
              refine lv_aload_n hx hb dX7_statement_248 rfl (lv_at hl 0 rfl) ?_
              refine va_get (D := D) (ci := 7) (v := .ref (a 13)) (C := RX7) (T := TX7) (N := 29) hx hb htg ig_7 hown hK hP 0 (oh_wg (Nat.lt_of_lt_of_le (by decide) hn) (sM_0 hT)) rfl 17 (by decide) (htg _ q_990) (fun _ h9 => h9) rfl dX7_statement_249 ?_
              refine lv_iconst (v := 1) hx hb dX7_statement_252 (by decide) ?_
              refine lv_iconst (v := 0) hx hb dX7_statement_253 (by decide) ?_
              refine lv_bipush (v := 99) hx hb dX7_statement_254 (by decide) ?_
              have : 0 ≤ (gi (C 0) 21).toInt ∧ (gi (C 0) 21).toInt ≤ 250 := fM_0_21 hT0
              have : 0 ≤ (gi (C 0) 7).toInt ∧ (gi (C 0) 7).toInt ≤ 250 := fM_0_7 hT0
              have : 0 ≤ (gi (C 0) 23).toInt ∧ (gi (C 0) 23).toInt ≤ 250 := fM_0_23 hT0
              have : 0 ≤ (gi (C 0) 13).toInt ∧ (gi (C 0) 13).toInt ≤ 5 := fM_0_13 hT0
              have : (5 : Int32).toInt = 5 := rfl
              have : (5 : Int32).toInt ≤ (gi (C 0) 15).toInt := Int32.le_iff_toInt_le.mp c_33
              refine tm_V (As := [.ref (G (3 + 33)), .ref (a 13), .int 1, .int 0, .int 99]) (rest := []) ⟨hx, hb, hml, hown, htg⟩ (e_X7_told l D E G _ a C n hn hT 33 13 (1 : Int32) (0 : Int32) (99 : Int32) (by decide) (rg_w (rg_c (v := 0) (lo := 0) (hi := 0) (by decide)) (by decide)) (rg_w (rg_c (v := 99) (lo := 99) (hi := 99) (by decide)) (by decide)) ⟨(Nat.lt_of_lt_of_le (by decide) hn), (by decide), 3, fun C h => (sM_13 h), (rg_in (rg_c (v := 1) (lo := 1) (hi := 1) (by decide)) (by decide)), fun C v h h1 h2 => (h.up 13 (by decide) (tA_upd (tM_13 h) tA_any))⟩ (by omega) hfg (by omega) (by decide)) (cwV 5 htg (oh_gV q_1234 q_1236 q_45 q_73 q_1237) rfl rfl rfl pdVX7_told ⟨Nat.le_of_ble_eq_true rfl, Nat.le_of_ble_eq_true rfl⟩) hK hP hD hG hS hA (va_recv hK hP (ci := 7) (q0 := 0) rfl (oh_wg (Nat.lt_of_lt_of_le (by decide) hn) (sM_0 hT))) rfl hl.1 rfl (Nat.le_of_ble_eq_true rfl) dX7_statement_256 ⟨Nat.le_of_ble_eq_true rfl, Nat.le_of_ble_eq_true rfl⟩ (fun r_38 C_39 H locs hq_40 hP hD hS => ?_)
              obtain ⟨hT, f_41, hq_40⟩ := hq_40
              have hF := fr_trk hF f_41 (by decide) (by decide)
              refine W.widen (k := 0) (n := 0) (Nat.le_refl _) (Nat.le_refl _) ?_
              have t_42 := hT
              have : (gi (C_39 0) 7).toInt = (gi (C 0) 7).toInt := congrArg (fun z => (vi z).toInt) (f_41.2 7 (by decide))
              have : (gi (C_39 0) 13).toInt = (gi (C 0) 13).toInt := congrArg (fun z => (vi z).toInt) (f_41.2 13 (by decide))
              have : 0 ≤ (gi (C_39 0) 21).toInt ∧ (gi (C_39 0) 21).toInt ≤ 250 := fM_0_21 t_42
              have : 0 ≤ (gi (C_39 0) 7).toInt ∧ (gi (C_39 0) 7).toInt ≤ 250 := fM_0_7 t_42
              have : 0 ≤ (gi (C_39 0) 23).toInt ∧ (gi (C_39 0) 23).toInt ≤ 250 := fM_0_23 t_42
              have : 0 ≤ (gi (C_39 0) 13).toInt ∧ (gi (C_39 0) 13).toInt ≤ 5 := fM_0_13 t_42
              rw [hQ]
              exact W.zret (v := r_38) (ty := .boolean) hx hb hr (oh_nb hq_40.1) (fun t ht hW => ⟨⟨r_38, C_39, rfl, ⟨hT, hF, ⟨hq_40.1, ⟨hq_40.2.1.1, hq_40.2.1.2⟩, (fun h9 => (hq_40.2.2.2.2.1 h9)), (RelW.fr hR (fr_trk (mc := [(13, 14)]) (mf := [21, 22, 23, 24, 25]) fr_rf f_41 (by decide) (by decide)) (by decide)), (by omega), (fun A hA => ms_eq (rs_part_n (xw_n sw_road rfl u_4) (xw_n sw_bridge rfl u_8) (xw_n sw_waggon rfl u_12) (xw_f sw_part rfl u_32.2) (by rw [← hA.1 3 (by decide)]; exact (Int32.not_lt.mpr c_33))) (ms_no (j := 16) (hi := 99) hT0 hA (xw_n sw_mile rfl (XIs_x (by decide) (by decide) (by decide) u_32.2)) (fun h7 => ⟨_, tn_f sw_mile rfl (hq_40.2.2.2.2.2.1 h7)⟩) (fun h7 => tn_f sw_mile rfl (hq_40.2.2.2.2.2.2.1 h7)) hq_40.2.2.2.2.2.2.2.1 f_41 (by decide) (by decide))), hq_40.2.2.2.2.2.2.2.2.1, hq_40.2.2.2.2.2.2.2.2.2⟩⟩, ⟨by rw [ht]; exact hP, hD⟩⟩, hS.F ht⟩) hS.2.2 dX7_statement_259
            · have u_43 := hq_35.2.1 c_36
              refine lv_aload_n hx hb dX7_statement_229 rfl (lv_at hl 0 rfl) ?_
              refine va_ldcS hx hb hown (hG.2.2.1 ("OneHeavyLoadModel", 215, "load", 35) (List.mem_of_getElem? (i := 32) rfl)) dX7_statement_230 ?_
              refine lv_aload_n hx hb dX7_statement_232 rfl (lv_at hl 0 rfl) ?_
              refine va_get (D := D) (ci := 7) (v := .ref (a 13)) (C := RX7) (T := TX7) (N := 29) hx hb htg ig_7 hown hK hP 0 (oh_wg (Nat.lt_of_lt_of_le (by decide) hn) (sM_0 hT)) rfl 17 (by decide) (htg _ q_990) (fun _ h9 => h9) rfl dX7_statement_233 ?_
              refine lv_iconst (v := 0) hx hb dX7_statement_236 (by decide) ?_
              refine lv_iconst (v := 0) hx hb dX7_statement_237 (by decide) ?_
              refine lv_sipush (v := 900) hx hb dX7_statement_238 (by decide) ?_
              have : 0 ≤ (gi (C 0) 21).toInt ∧ (gi (C 0) 21).toInt ≤ 250 := fM_0_21 hT0
              have : 0 ≤ (gi (C 0) 7).toInt ∧ (gi (C 0) 7).toInt ≤ 250 := fM_0_7 hT0
              have : 0 ≤ (gi (C 0) 23).toInt ∧ (gi (C 0) 23).toInt ≤ 250 := fM_0_23 hT0
              have : 0 ≤ (gi (C 0) 13).toInt ∧ (gi (C 0) 13).toInt ≤ 5 := fM_0_13 hT0
              have : (5 : Int32).toInt = 5 := rfl
              have : (5 : Int32).toInt ≤ (gi (C 0) 15).toInt := Int32.le_iff_toInt_le.mp c_33
              refine tm_V (As := [.ref (G (3 + 32)), .ref (a 13), .int 0, .int 0, .int 900]) (rest := []) ⟨hx, hb, hml, hown, htg⟩ (e_X7_told l D E G _ a C n hn hT 32 13 (0 : Int32) (0 : Int32) (900 : Int32) (by decide) (rg_w (rg_c (v := 0) (lo := 0) (hi := 0) (by decide)) (by decide)) (rg_w (rg_c (v := 900) (lo := 900) (hi := 900) (by decide)) (by decide)) ⟨(Nat.lt_of_lt_of_le (by decide) hn), (by decide), 3, fun C h => (sM_13 h), (rg_in (rg_c (v := 0) (lo := 0) (hi := 0) (by decide)) (by decide)), fun C v h h1 h2 => (h.up 13 (by decide) (tA_upd (tM_13 h) tA_any))⟩ (by omega) hfg (by omega) (by decide)) (cwV 5 htg (oh_gV q_1234 q_1236 q_45 q_73 q_1237) rfl rfl rfl pdVX7_told ⟨Nat.le_of_ble_eq_true rfl, Nat.le_of_ble_eq_true rfl⟩) hK hP hD hG hS hA (va_recv hK hP (ci := 7) (q0 := 0) rfl (oh_wg (Nat.lt_of_lt_of_le (by decide) hn) (sM_0 hT))) rfl hl.1 rfl (Nat.le_of_ble_eq_true rfl) dX7_statement_241 ⟨Nat.le_of_ble_eq_true rfl, Nat.le_of_ble_eq_true rfl⟩ (fun r_44 C_45 H locs hq_46 hP hD hS => ?_)
              obtain ⟨hT, f_47, hq_46⟩ := hq_46
              have hF := fr_trk hF f_47 (by decide) (by decide)
              refine W.widen (k := 0) (n := 0) (Nat.le_refl _) (Nat.le_refl _) ?_
              have t_48 := hT
              have : (gi (C_45 0) 7).toInt = (gi (C 0) 7).toInt := congrArg (fun z => (vi z).toInt) (f_47.2 7 (by decide))
              have : (gi (C_45 0) 13).toInt = (gi (C 0) 13).toInt := congrArg (fun z => (vi z).toInt) (f_47.2 13 (by decide))
              have : 0 ≤ (gi (C_45 0) 21).toInt ∧ (gi (C_45 0) 21).toInt ≤ 250 := fM_0_21 t_48
              have : 0 ≤ (gi (C_45 0) 7).toInt ∧ (gi (C_45 0) 7).toInt ≤ 250 := fM_0_7 t_48
              have : 0 ≤ (gi (C_45 0) 23).toInt ∧ (gi (C_45 0) 23).toInt ≤ 250 := fM_0_23 t_48
              have : 0 ≤ (gi (C_45 0) 13).toInt ∧ (gi (C_45 0) 13).toInt ≤ 5 := fM_0_13 t_48
              rw [hQ]
              exact W.zret (v := r_44) (ty := .boolean) hx hb hr (oh_nb hq_46.1) (fun t ht hW => ⟨⟨r_44, C_45, rfl, ⟨hT, hF, ⟨hq_46.1, ⟨hq_46.2.1.1, hq_46.2.1.2⟩, (fun h9 => (hq_46.2.2.2.2.1 h9)), (RelW.fr hR (fr_trk (mc := [(13, 14)]) (mf := [21, 22, 23, 24, 25]) fr_rf f_47 (by decide) (by decide)) (by decide)), (by omega), (absurd u_43.2 (XIs_x (i := 31) (by decide) (by decide) (by decide) u_32.2)), hq_46.2.2.2.2.2.2.2.2.1, hq_46.2.2.2.2.2.2.2.2.2⟩⟩, ⟨by rw [ht]; exact hP, hD⟩⟩, hS.F ht⟩) hS.2.2 dX7_statement_244
          · refine lv_aload_n hx hb dX7_statement_164 rfl (lv_at hl 0 rfl) ?_
            refine va_ldcS hx hb hown (hG.2.2.1 ("OneHeavyLoadModel", 214, "part", 34) (List.mem_of_getElem? (i := 31) rfl)) dX7_statement_165 ?_
            refine lv_aload_n hx hb dX7_statement_167 rfl (lv_at hl 0 rfl) ?_
            refine va_get (D := D) (ci := 7) (v := .ref (a 12)) (C := RX7) (T := TX7) (N := 29) hx hb htg ig_7 hown hK hP 0 (oh_wg (Nat.lt_of_lt_of_le (by decide) hn) (sM_0 hT)) rfl 16 (by decide) (htg _ q_989) (fun _ h9 => h9) rfl dX7_statement_168 ?_
            refine lv_aload_n hx hb dX7_statement_171 rfl (lv_at hl 0 rfl) ?_
            refine va_get (D := D) (ci := 7) (v := .int (gi (C 0) 15)) (C := RX7) (T := TX7) (N := 29) hx hb htg ig_7 hown hK hP 0 (oh_wg (Nat.lt_of_lt_of_le (by decide) hn) (sM_0 hT)) rfl 15 (by decide) (htg _ q_988) (fun _ h9 => h9) rfl dX7_statement_172 ?_
            have n_49 : vp_in (gi (C 0) 15) 5 := (rg_in (rn_ltu (u' := 4) (Int32.not_le.mp c_33) (fM_0_15 hT0) (rg_c (v := 5) (lo := 5) (hi := 5) (by decide)) (by decide)) (by decide))
            have b_50 : (gi (C 0) 15).toNatClampNeg < 5 := vp_lt n_49
            refine th_aald hx hb hK hP 12 2 (Nat.lt_of_lt_of_le (by decide) hn) (sM_12 hT) rfl n_49 dX7_statement_175 ?_
            refine lv_iconst (v := 0) hx hb dX7_statement_176 (by decide) ?_
            refine lv_iconst (v := 1) hx hb dX7_statement_177 (by decide) ?_
            refine lv_bipush (v := 99) hx hb dX7_statement_178 (by decide) ?_
            have : 0 ≤ (gi (C 0) 21).toInt ∧ (gi (C 0) 21).toInt ≤ 250 := fM_0_21 hT0
            have : 0 ≤ (gi (C 0) 7).toInt ∧ (gi (C 0) 7).toInt ≤ 250 := fM_0_7 hT0
            have : 0 ≤ (gi (C 0) 23).toInt ∧ (gi (C 0) 23).toInt ≤ 250 := fM_0_23 hT0
            have : 0 ≤ (gi (C 0) 13).toInt ∧ (gi (C 0) 13).toInt ≤ 5 := fM_0_13 hT0
            have : (5 : Int32).toInt = 5 := rfl
            have : (gi (C 0) 15).toInt < (5 : Int32).toInt := Int32.lt_iff_toInt_lt.mp (Int32.not_le.mp c_33)
            refine tm_V (As := [.ref (G (3 + 31)), .ref (a (69 + (gi (C 0) 15).toNatClampNeg)), .int 0, .int 1, .int 99]) (rest := []) ⟨hx, hb, hml, hown, htg⟩ (e_X7_told l D E G _ a C n hn hT 31 (69 + (gi (C 0) 15).toNatClampNeg) (0 : Int32) (1 : Int32) (99 : Int32) (by decide) (rg_w (rg_c (v := 1) (lo := 1) (hi := 1) (by decide)) (by decide)) (rg_w (rg_c (v := 99) (lo := 99) (hi := 99) (by decide)) (by decide)) ⟨(lt_blk b_50 hn (by decide)), (by omega), 2, fun C h => (h.bpart b_50).1, (rg_in (rg_c (v := 0) (lo := 0) (hi := 0) (by decide)) (by decide)), fun C v h h1 h2 => (h.uppart b_50 (tA_upd (h.bpart b_50) tA_any))⟩ (by omega) hfg (by omega) (by omega)) (cwV 5 htg (oh_gV q_1234 q_1236 q_45 q_73 q_1237) rfl rfl rfl pdVX7_told ⟨Nat.le_of_ble_eq_true rfl, Nat.le_of_ble_eq_true rfl⟩) hK hP hD hG hS hA (va_recv hK hP (ci := 7) (q0 := 0) rfl (oh_wg (Nat.lt_of_lt_of_le (by decide) hn) (sM_0 hT))) rfl hl.1 rfl (Nat.le_of_ble_eq_true rfl) dX7_statement_180 ⟨Nat.le_of_ble_eq_true rfl, Nat.le_of_ble_eq_true rfl⟩ (fun r_51 C_52 H locs hq_53 hP hD hS => ?_)
            obtain ⟨hT, f_54, hq_53⟩ := hq_53
            have hF := fr_trk hF f_54 (inR_of (p := (69, 74)) (by decide) (by show 69 ≤ _; omega) (by show _ < 74; omega)) (by decide)
            refine W.widen (k := 0) (n := 0) (Nat.le_refl _) (Nat.le_refl _) ?_
            have t_55 := hT
            refine lv_if_eq (tgt := 206) hx hb dX7_statement_183 (by decide) (fun (c_56 : r_51 = 0) => ?_) (fun (c_56 : ¬ (r_51 = 0)) => ?_)
            · have u_57 := hq_53.2.2.2.2.2.2.1 c_56
              have u_58 := hq_53.2.2.2.2.2.2.2.1 c_56
              refine lv_iconst (v := 0) hx hb dX7_statement_206 (by decide) ?_
              have : (gi (C_52 0) 7).toInt = (gi (C 0) 7).toInt := congrArg (fun z => (vi z).toInt) (f_54.2 7 (by decide))
              have : (gi (C_52 0) 13).toInt = (gi (C 0) 13).toInt := congrArg (fun z => (vi z).toInt) (f_54.2 13 (by decide))
              have : 0 ≤ (gi (C_52 0) 21).toInt ∧ (gi (C_52 0) 21).toInt ≤ 250 := fM_0_21 t_55
              have : 0 ≤ (gi (C_52 0) 7).toInt ∧ (gi (C_52 0) 7).toInt ≤ 250 := fM_0_7 t_55
              have : 0 ≤ (gi (C_52 0) 23).toInt ∧ (gi (C_52 0) 23).toInt ≤ 250 := fM_0_23 t_55
              have : 0 ≤ (gi (C_52 0) 13).toInt ∧ (gi (C_52 0) 13).toInt ≤ 5 := fM_0_13 t_55
              have ho_59 : ∀ i, i ≠ (gi (C 0) 15).toNatClampNeg → C_52 (69 + i) = C (69 + i) := (fun i hne => (fr_at f_54 (by omega) (by omega)))
              rw [hQ]
              exact W.zret (v := 0) (ty := .boolean) hx hb hr (by decide) (fun t ht hW => ⟨⟨0, C_52, rfl, ⟨hT, hF, ⟨(Or.inl rfl), ⟨hq_53.2.1.1, hq_53.2.1.2⟩, (fun h9 => absurd rfl h9), (RelW.fr hR (fr_trk (mc := [(69, 74)]) (mf := [21, 22, 23, 24, 25]) fr_rf f_54 (inR_of (p := (69, 74)) (by decide) (by show 69 ≤ _; omega) (by show _ < 74; omega)) (by decide)) (by decide)), (by omega), (fun A hA => ms_eq (rs_part_y (xw_n sw_road rfl u_4) (xw_n sw_bridge rfl u_8) (xw_n sw_waggon rfl u_12) (xw_f sw_part rfl u_32.2) (by rw [← hA.1 3 (by decide)]; exact (Int32.not_le.mp c_33))) (ms_row (t := 3) hT0 hA (by decide) (fun h9 => absurd rfl h9) (fun _ => ⟨mr_part_e0 (tn_un (xw_f sw_part rfl u_32.2) (tn_f sw_part rfl u_57)), (congrArg vi (f_54.2 15 (by decide)))⟩) ho_59 (show fr [(69, 74)] [21, 22, 23, 24, 25] C C_52 from (fr_trk fr_rf f_54 (inR_of (p := (69, 74)) (by decide) (by show 69 ≤ _; omega) (by show _ < 74; omega)) (by decide))) (by decide) (by decide) (by decide))), hq_53.2.2.2.2.2.2.2.2.1, hq_53.2.2.2.2.2.2.2.2.2⟩⟩, ⟨by rw [ht]; exact hP, hD⟩⟩, hS.F ht⟩) hS.2.2 dX7_statement_207
            · have u_60 := hq_53.2.2.2.1 c_56
              have u_61 := hq_53.2.2.2.2.1 c_56
              have u_62 := hq_53.2.2.2.2.2.1 c_56
              refine lv_aload_n hx hb dX7_statement_186 rfl (lv_at hl 0 rfl) ?_
              refine lv_aload_n hx hb dX7_statement_187 rfl (lv_at hl 0 rfl) ?_
              refine va_get (D := D) (ci := 7) (v := .ref (a 12)) (C := RX7) (T := TX7) (N := 29) hx hb htg ig_7 hown hK hP 0 (oh_wg (Nat.lt_of_lt_of_le (by decide) hn) (sM_0 hT)) rfl 16 (by decide) (htg _ q_989) (fun _ h9 => h9) rfl dX7_statement_188 ?_
              refine lv_aload_n hx hb dX7_statement_191 rfl (lv_at hl 0 rfl) ?_
              refine va_get (D := D) (ci := 7) (v := .int (gi (C 0) 15)) (C := RX7) (T := TX7) (N := 29) hx hb htg ig_7 hown hK hP 0 (oh_wg (Nat.lt_of_lt_of_le (by decide) hn) (sM_0 hT)) rfl 15 (by decide) (htg _ q_988) (fun _ h9 => h9) (oh_fv (c := C_52 0) (j := 15) rfl (congrArg vi (f_54.2 15 (by decide)))) dX7_statement_192 ?_
              have n_63 : vp_in (gi (C 0) 15) 5 := (rg_in (rn_ltu (u' := 4) (Int32.not_le.mp c_33) (fM_0_15 hT0) (rg_c (v := 5) (lo := 5) (hi := 5) (by decide)) (by decide)) (by decide))
              have b_64 : (gi (C 0) 15).toNatClampNeg < 5 := vp_lt n_63
              refine th_aald hx hb hK hP 12 2 (Nat.lt_of_lt_of_le (by decide) hn) (sM_12 hT) rfl n_63 dX7_statement_195 ?_
              refine lv_iconst (v := 1) hx hb dX7_statement_196 (by decide) ?_
              refine lv_iconst (v := 0) hx hb dX7_statement_197 (by decide) ?_
              refine lv_bipush (v := 99) hx hb dX7_statement_198 (by decide) ?_
              have : (gi (C_52 0) 7).toInt = (gi (C 0) 7).toInt := congrArg (fun z => (vi z).toInt) (f_54.2 7 (by decide))
              have : (gi (C_52 0) 13).toInt = (gi (C 0) 13).toInt := congrArg (fun z => (vi z).toInt) (f_54.2 13 (by decide))
              have : 0 ≤ (gi (C_52 0) 21).toInt ∧ (gi (C_52 0) 21).toInt ≤ 250 := fM_0_21 t_55
              have : 0 ≤ (gi (C_52 0) 7).toInt ∧ (gi (C_52 0) 7).toInt ≤ 250 := fM_0_7 t_55
              have : 0 ≤ (gi (C_52 0) 23).toInt ∧ (gi (C_52 0) 23).toInt ≤ 250 := fM_0_23 t_55
              have : 0 ≤ (gi (C_52 0) 13).toInt ∧ (gi (C_52 0) 13).toInt ≤ 5 := fM_0_13 t_55
              refine tm_V (As := [.ref (a (69 + (gi (C 0) 15).toNatClampNeg)), .int 1, .int 0, .int 99]) (rest := []) ⟨hx, hb, hml, hown, htg⟩ (e_X7_number l D E G _ a C_52 n hn hT (69 + (gi (C 0) 15).toNatClampNeg) (1 : Int32) (0 : Int32) (99 : Int32) (rg_w (rg_c (v := 0) (lo := 0) (hi := 0) (by decide)) (by decide)) (rg_w (rg_c (v := 99) (lo := 99) (hi := 99) (by decide)) (by decide)) ⟨(lt_blk b_64 hn (by decide)), (by omega), 2, fun C h => (h.bpart b_64).1, (rg_in (rg_c (v := 1) (lo := 1) (hi := 1) (by decide)) (by decide)), fun C v h h1 h2 => (h.uppart b_64 (tA_upd (h.bpart b_64) tA_any))⟩ (by omega) hq_53.2.2.2.2.2.2.2.2.1 (by omega) (by omega)) (cwV 4 htg (oh_gV q_1225 q_1227 q_43 q_73 q_1228) rfl rfl rfl pdVX7_number ⟨Nat.le_of_ble_eq_true rfl, Nat.le_of_ble_eq_true rfl⟩) hK hP hD hG hS hA (va_recv hK hP (ci := 7) (q0 := 0) rfl (oh_wg (Nat.lt_of_lt_of_le (by decide) hn) (sM_0 hT))) rfl hl.1 rfl (Nat.le_of_ble_eq_true rfl) dX7_statement_200 ⟨Nat.le_of_ble_eq_true rfl, Nat.le_of_ble_eq_true rfl⟩ (fun r_65 C_66 H locs hq_67 hP hD hS => ?_)
              obtain ⟨hT, f_68, hq_67⟩ := hq_67
              have hF := fr_trk hF f_68 (inR_of (p := (69, 74)) (by decide) (by show 69 ≤ _; omega) (by show _ < 74; omega)) (by decide)
              refine W.widen (k := 0) (n := 0) (Nat.le_refl _) (Nat.le_refl _) ?_
              have t_69 := hT
              refine lv_if_ne (tgt := 208) hx hb dX7_statement_203 (by decide) (fun (c_70 : ¬ (r_65 = 0)) => ?_) (fun (c_70 : r_65 = 0) => ?_)
              · have u_71 := hq_67.2.2.2.1 c_70
                have u_72 := hq_67.2.2.2.2.1 c_70
                refine lv_aload_n hx hb dX7_statement_208 rfl (lv_at hl 0 rfl) ?_
                refine lv_dup hx hb dX7_statement_209 rfl ?_
                refine va_get (D := D) (ci := 7) (v := .int (gi (C 0) 15)) (C := RX7) (T := TX7) (N := 29) hx hb htg ig_7 hown hK hP 0 (oh_wg (Nat.lt_of_lt_of_le (by decide) hn) (sM_0 hT)) rfl 15 (by decide) (htg _ q_988) (fun _ h9 => h9) (oh_fv (c := C_66 0) (j := 15) rfl (Eq.trans (congrArg vi (f_68.2 15 (by decide))) (congrArg vi (f_54.2 15 (by decide))))) dX7_statement_210 ?_
                refine lv_iconst (v := 1) hx hb dX7_statement_213 (by decide) ?_
                refine lv_iadd hx hb dX7_statement_214 ?_
                refine th_put (Tp := TyM a E) (Rl := fr [(13, 14), (24, 48), (48, 64), (64, 69), (69, 74)] [9, 11, 13, 15, 21, 22, 23, 24, 25] C) (ci := 7) (v := .int ((gi (C 0) 15) + 1)) (ty := .int) (CC := RX7) (T := TX7) (N := 29) hx hb htg ig_7 tyX7 tyX7_ok nmX7 hown hK hP hD hS 0 (Nat.lt_of_lt_of_le (by decide) hn) (sM_0 hT) rfl 15 (by decide) (htg _ q_988) (fun _ h9 => h9) rfl (by decide +kernel) rfl rfl (Nat.le_of_ble_eq_true rfl) (hT.up 0 (by decide) ⟨rfl, (fM_0_7 hT), (fM_0_9 hT), (fM_0_11 hT), (fM_0_13 hT), (rg_w (rg_add (lo := 1) (hi := 5) (rn_ltu (u' := 4) (Int32.not_le.mp c_33) (fM_0_15 hT0) (rg_c (v := 5) (lo := 5) (hi := 5) (by decide)) (by decide)) (rg_c (v := 1) (lo := 1) (hi := 1) (by decide)) (by decide)) (by decide)), (fM_0_21 hT), (fM_0_23 hT)⟩) (fr_fd hF (sM_0 hT) (by decide)) dX7_statement_215 (fun C_73 H locs e_74 hT hF hP hD hS => ?_)
                have t_75 := hT
                refine lv_iconst (v := 1) hx hb dX7_statement_218 (by decide) ?_
                have : (gi (C_66 0) 7).toInt = (gi (C_52 0) 7).toInt := congrArg (fun z => (vi z).toInt) (f_68.2 7 (by decide))
                have : (gi (C_66 0) 13).toInt = (gi (C_52 0) 13).toInt := congrArg (fun z => (vi z).toInt) (f_68.2 13 (by decide))
                have : (gi (C_73 0) 21).toInt = (gi (C_66 0) 21).toInt := congrArg Int32.toInt (show gi (C_73 0) 21 = gi (C_66 0) 21 by rw [e_74]; rfl)
                have : (gi (C_73 0) 7).toInt = (gi (C_66 0) 7).toInt := congrArg Int32.toInt (show gi (C_73 0) 7 = gi (C_66 0) 7 by rw [e_74]; rfl)
                have : (gi (C_73 0) 23).toInt = (gi (C_66 0) 23).toInt := congrArg Int32.toInt (show gi (C_73 0) 23 = gi (C_66 0) 23 by rw [e_74]; rfl)
                have : (gi (C_73 0) 13).toInt = (gi (C_66 0) 13).toInt := congrArg Int32.toInt (show gi (C_73 0) 13 = gi (C_66 0) 13 by rw [e_74]; rfl)
                have : 0 ≤ (gi (C_66 0) 21).toInt ∧ (gi (C_66 0) 21).toInt ≤ 250 := fM_0_21 t_69
                have : 0 ≤ (gi (C_66 0) 7).toInt ∧ (gi (C_66 0) 7).toInt ≤ 250 := fM_0_7 t_69
                have : 0 ≤ (gi (C_66 0) 23).toInt ∧ (gi (C_66 0) 23).toInt ≤ 250 := fM_0_23 t_69
                have : 0 ≤ (gi (C_66 0) 13).toInt ∧ (gi (C_66 0) 13).toInt ≤ 5 := fM_0_13 t_69
                have : 0 ≤ (gi (C_73 0) 21).toInt ∧ (gi (C_73 0) 21).toInt ≤ 250 := fM_0_21 t_75
                have : 0 ≤ (gi (C_73 0) 7).toInt ∧ (gi (C_73 0) 7).toInt ≤ 250 := fM_0_7 t_75
                have : 0 ≤ (gi (C_73 0) 23).toInt ∧ (gi (C_73 0) 23).toInt ≤ 250 := fM_0_23 t_75
                have : 0 ≤ (gi (C_73 0) 13).toInt ∧ (gi (C_73 0) 13).toInt ≤ 5 := fM_0_13 t_75
                have ho_76 : ∀ i, i ≠ (gi (C 0) 15).toNatClampNeg → C_73 (69 + i) = C (69 + i) := (fun i hne => (Eq.trans (th_un e_74 (by omega)) (Eq.trans (fr_at f_68 (by omega) (by omega)) (fr_at f_54 (by omega) (by omega)))))
                have hrw_77 : ∀ j, j < 2 → ga (C_73 (69 + (gi (C 0) 15).toNatClampNeg)) j = rwf [ga (C_52 (69 + (gi (C 0) 15).toNatClampNeg)) ((0 : Int32)).toNatClampNeg, ga (C_66 (69 + (gi (C 0) 15).toNatClampNeg)) ((1 : Int32)).toNatClampNeg] j := rows2 (Eq.trans (congrArg (fun z => ga z ((0 : Int32)).toNatClampNeg) (th_un e_74 (by omega))) (hq_67.2.2.1 ((0 : Int32)).toNatClampNeg (by decide))) (congrArg (fun z => ga z ((1 : Int32)).toNatClampNeg) (th_un e_74 (by omega)))
                rw [hQ]
                exact W.zret (v := 1) (ty := .boolean) hx hb hr (by decide) (fun t ht hW => ⟨⟨1, C_73, rfl, ⟨hT, hF, ⟨(Or.inr rfl), ⟨(by omega), (by omega)⟩, (fun _ => (by omega)), (RelW.fr (RelW.fr (RelW.fr hR (fr_trk (mc := [(69, 74)]) (mf := [21, 22, 23, 24, 25]) fr_rf f_54 (inR_of (p := (69, 74)) (by decide) (by show 69 ≤ _; omega) (by show _ < 74; omega)) (by decide)) (by decide)) (fr_trk (mc := [(69, 74)]) (mf := [21, 22, 23, 24, 25]) fr_rf f_68 (inR_of (p := (69, 74)) (by decide) (by show 69 ≤ _; omega) (by show _ < 74; omega)) (by decide)) (by decide)) (fr_fde (mc := []) (mf := [15]) fr_rf e_74 (sM_0 t_69) (by decide)) (by decide)), (by omega), (fun A hA => ms_eq (rs_part_y (xw_n sw_road rfl u_4) (xw_n sw_bridge rfl u_8) (xw_n sw_waggon rfl u_12) (xw_f sw_part rfl u_32.2) (by rw [← hA.1 3 (by decide)]; exact (Int32.not_le.mp c_33))) (ms_row (t := 3) hT0 hA (by decide) (fun _ => ⟨_, Eq.trans (mr_part_ok (tn_un (xw_f sw_part rfl u_32.2) (tn_f sw_part rfl u_62)) (mn_f (congrArg ga (fr_at f_54 (by decide) (by omega))) u_72)) (congrArg (fun z => Except.ok (_, z)) (pm_fd (j := 15) e_74 (sM_0 t_69) (by decide)).symm), hrw_77, (show gi (C_73 0) 15 = ((gi (C 0) 15) + 1) by rw [e_74]; rfl)⟩) (fun h9 => absurd h9 (by decide)) ho_76 (show fr [(69, 74)] [15, 21, 22, 23, 24, 25] C C_73 from (fr_fde (fr_trk (fr_trk fr_rf f_54 (inR_of (p := (69, 74)) (by decide) (by show 69 ≤ _; omega) (by show _ < 74; omega)) (by decide)) f_68 (inR_of (p := (69, 74)) (by decide) (by show 69 ≤ _; omega) (by show _ < 74; omega)) (by decide)) e_74 (sM_0 t_69) (by decide))) (by decide) (by decide) (by decide))), (fgF (j := 15) hq_67.2.2.2.2.2.2.2.1 e_74 (sM_0 t_69) (by decide)), (by omega)⟩⟩, ⟨by rw [ht]; exact hP, hD⟩⟩, hS.F ht⟩) hS.2.2 dX7_statement_219
              · have u_78 := hq_67.2.2.2.2.2.1 c_70
                have u_79 := hq_67.2.2.2.2.2.2.1 c_70
                refine lv_iconst (v := 0) hx hb dX7_statement_206 (by decide) ?_
                have : (gi (C_66 0) 7).toInt = (gi (C_52 0) 7).toInt := congrArg (fun z => (vi z).toInt) (f_68.2 7 (by decide))
                have : (gi (C_66 0) 13).toInt = (gi (C_52 0) 13).toInt := congrArg (fun z => (vi z).toInt) (f_68.2 13 (by decide))
                have : 0 ≤ (gi (C_66 0) 21).toInt ∧ (gi (C_66 0) 21).toInt ≤ 250 := fM_0_21 t_69
                have : 0 ≤ (gi (C_66 0) 7).toInt ∧ (gi (C_66 0) 7).toInt ≤ 250 := fM_0_7 t_69
                have : 0 ≤ (gi (C_66 0) 23).toInt ∧ (gi (C_66 0) 23).toInt ≤ 250 := fM_0_23 t_69
                have : 0 ≤ (gi (C_66 0) 13).toInt ∧ (gi (C_66 0) 13).toInt ≤ 5 := fM_0_13 t_69
                have ho_80 : ∀ i, i ≠ (gi (C 0) 15).toNatClampNeg → C_66 (69 + i) = C (69 + i) := (fun i hne => (Eq.trans (fr_at f_68 (by omega) (by omega)) (fr_at f_54 (by omega) (by omega))))
                rw [hQ]
                exact W.zret (v := 0) (ty := .boolean) hx hb hr (by decide) (fun t ht hW => ⟨⟨0, C_66, rfl, ⟨hT, hF, ⟨(Or.inl rfl), ⟨(by omega), hq_67.2.1.2⟩, (fun h9 => absurd rfl h9), (RelW.fr (RelW.fr hR (fr_trk (mc := [(69, 74)]) (mf := [21, 22, 23, 24, 25]) fr_rf f_54 (inR_of (p := (69, 74)) (by decide) (by show 69 ≤ _; omega) (by show _ < 74; omega)) (by decide)) (by decide)) (fr_trk (mc := [(69, 74)]) (mf := [21, 22, 23, 24, 25]) fr_rf f_68 (inR_of (p := (69, 74)) (by decide) (by show 69 ≤ _; omega) (by show _ < 74; omega)) (by decide)) (by decide)), (by omega), (fun A hA => ms_eq (rs_part_y (xw_n sw_road rfl u_4) (xw_n sw_bridge rfl u_8) (xw_n sw_waggon rfl u_12) (xw_f sw_part rfl u_32.2) (by rw [← hA.1 3 (by decide)]; exact (Int32.not_le.mp c_33))) (ms_row (t := 3) hT0 hA (by decide) (fun h9 => absurd rfl h9) (fun _ => ⟨mr_part_e1 (tn_un (xw_f sw_part rfl u_32.2) (tn_f sw_part rfl u_62)) (mn_f (congrArg ga (fr_at f_54 (by decide) (by omega))) u_78), (Eq.trans (congrArg vi (f_68.2 15 (by decide))) (congrArg vi (f_54.2 15 (by decide))))⟩) ho_80 (show fr [(69, 74)] [21, 22, 23, 24, 25] C C_66 from (fr_trk (fr_trk fr_rf f_54 (inR_of (p := (69, 74)) (by decide) (by show 69 ≤ _; omega) (by show _ < 74; omega)) (by decide)) f_68 (inR_of (p := (69, 74)) (by decide) (by show 69 ≤ _; omega) (by show _ < 74; omega)) (by decide))) (by decide) (by decide) (by decide))), hq_67.2.2.2.2.2.2.2.1, hq_67.2.2.2.2.2.2.2.2⟩⟩, ⟨by rw [ht]; exact hP, hD⟩⟩, hS.F ht⟩) hS.2.2 dX7_statement_207
      · have u_81 := hq_10.2.1 c_11
        refine lv_aload_n hx hb dX7_statement_73 rfl (lv_at hl 0 rfl) ?_
        refine va_get (D := D) (ci := 7) (v := .int (gi (C 0) 13)) (C := RX7) (T := TX7) (N := 29) hx hb htg ig_7 hown hK hP 0 (oh_wg (Nat.lt_of_lt_of_le (by decide) hn) (sM_0 hT)) rfl 13 (by decide) (htg _ q_986) (fun _ h9 => h9) rfl dX7_statement_74 ?_
        refine lv_iconst (v := 5) hx hb dX7_statement_77 (by decide) ?_
        refine lv_icmp_ge (tgt := 147) hx hb dX7_statement_78 (by decide) (fun (c_82 : (5 : Int32) ≤ (gi (C 0) 13)) => ?_) (fun (c_82 : ¬ ((5 : Int32) ≤ (gi (C 0) 13))) => ?_)
        · refine lv_aload_n hx hb dX7_statement_147 rfl (lv_at hl 0 rfl) ?_
          refine va_ldcS hx hb hown (hG.2.2.1 ("OneHeavyLoadModel", 214, "part", 34) (List.mem_of_getElem? (i := 31) rfl)) dX7_statement_148 ?_
          refine tq_V (As := [.ref (G (3 + 31))]) (rest := []) (ws := (oh_W n a C)) ⟨hx, hb, hml, hown, htg⟩ (e_X7_isWord l D E G a C n hn hT 31 (by decide)) (cwV 1 htg (oh_gV q_1215 q_1217 q_41 q_73 q_1218) rfl rfl rfl pdVX7_isWord ⟨Nat.le_of_ble_eq_true rfl, Nat.le_of_ble_eq_true rfl⟩) hK hP hG hS (va_recv hK hP (ci := 7) (q0 := 0) rfl (oh_wg (Nat.lt_of_lt_of_le (by decide) hn) (sM_0 hT))) rfl hl.1 rfl (Nat.le_of_ble_eq_true rfl) dX7_statement_150 ⟨Nat.le_of_ble_eq_true rfl, Nat.le_of_ble_eq_true rfl⟩ (fun r_83 hq_84 => ?_)
          refine lv_if_eq (tgt := 220) hx hb dX7_statement_153 (by decide) (fun (c_85 : r_83 = 0) => ?_) (fun (c_85 : ¬ (r_83 = 0)) => ?_)
          · have u_86 := hq_84.2.2 c_85
            refine lv_aload_n hx hb dX7_statement_220 rfl (lv_at hl 0 rfl) ?_
            refine va_ldcS hx hb hown (hG.2.2.1 ("OneHeavyLoadModel", 215, "load", 35) (List.mem_of_getElem? (i := 32) rfl)) dX7_statement_221 ?_
            refine tq_V (As := [.ref (G (3 + 32))]) (rest := []) (ws := (oh_W n a C)) ⟨hx, hb, hml, hown, htg⟩ (e_X7_isWord l D E G a C n hn hT 32 (by decide)) (cwV 1 htg (oh_gV q_1215 q_1217 q_41 q_73 q_1218) rfl rfl rfl pdVX7_isWord ⟨Nat.le_of_ble_eq_true rfl, Nat.le_of_ble_eq_true rfl⟩) hK hP hG hS (va_recv hK hP (ci := 7) (q0 := 0) rfl (oh_wg (Nat.lt_of_lt_of_le (by decide) hn) (sM_0 hT))) rfl hl.1 rfl (Nat.le_of_ble_eq_true rfl) dX7_statement_223 ⟨Nat.le_of_ble_eq_true rfl, Nat.le_of_ble_eq_true rfl⟩ (fun r_87 hq_88 => ?_)
            refine lv_if_eq (tgt := 245) hx hb dX7_statement_226 (by decide) (fun (c_89 : r_87 = 0) => ?_) (fun (c_89 : ¬ (r_87 = 0)) => ?_)
            · have u_90 := hq_88.2.2 c_89
              refine lv_aload_n hx hb dX7_statement_245 rfl (lv_at hl 0 rfl) ?_
              refine va_ldcS hx hb hown (hG.2.2.1 ("OneHeavyLoadModel", 217, "mile", 36) (List.mem_of_getElem? (i := 33) rfl)) dX7_statement_246 ?_
              refine lv_aload_n hx hb dX7_statement_248 rfl (lv_at hl 0 rfl) ?_
              refine va_get (D := D) (ci := 7) (v := .ref (a 13)) (C := RX7) (T := TX7) (N := 29) hx hb htg ig_7 hown hK hP 0 (oh_wg (Nat.lt_of_lt_of_le (by decide) hn) (sM_0 hT)) rfl 17 (by decide) (htg _ q_990) (fun _ h9 => h9) rfl dX7_statement_249 ?_
              refine lv_iconst (v := 1) hx hb dX7_statement_252 (by decide) ?_
              refine lv_iconst (v := 0) hx hb dX7_statement_253 (by decide) ?_
              refine lv_bipush (v := 99) hx hb dX7_statement_254 (by decide) ?_
              have : 0 ≤ (gi (C 0) 21).toInt ∧ (gi (C 0) 21).toInt ≤ 250 := fM_0_21 hT0
              have : 0 ≤ (gi (C 0) 7).toInt ∧ (gi (C 0) 7).toInt ≤ 250 := fM_0_7 hT0
              have : 0 ≤ (gi (C 0) 23).toInt ∧ (gi (C 0) 23).toInt ≤ 250 := fM_0_23 hT0
              have : 0 ≤ (gi (C 0) 13).toInt ∧ (gi (C 0) 13).toInt ≤ 5 := fM_0_13 hT0
              have : (5 : Int32).toInt = 5 := rfl
              have : (5 : Int32).toInt ≤ (gi (C 0) 13).toInt := Int32.le_iff_toInt_le.mp c_82
              refine tm_V (As := [.ref (G (3 + 33)), .ref (a 13), .int 1, .int 0, .int 99]) (rest := []) ⟨hx, hb, hml, hown, htg⟩ (e_X7_told l D E G _ a C n hn hT 33 13 (1 : Int32) (0 : Int32) (99 : Int32) (by decide) (rg_w (rg_c (v := 0) (lo := 0) (hi := 0) (by decide)) (by decide)) (rg_w (rg_c (v := 99) (lo := 99) (hi := 99) (by decide)) (by decide)) ⟨(Nat.lt_of_lt_of_le (by decide) hn), (by decide), 3, fun C h => (sM_13 h), (rg_in (rg_c (v := 1) (lo := 1) (hi := 1) (by decide)) (by decide)), fun C v h h1 h2 => (h.up 13 (by decide) (tA_upd (tM_13 h) tA_any))⟩ (by omega) hfg (by omega) (by decide)) (cwV 5 htg (oh_gV q_1234 q_1236 q_45 q_73 q_1237) rfl rfl rfl pdVX7_told ⟨Nat.le_of_ble_eq_true rfl, Nat.le_of_ble_eq_true rfl⟩) hK hP hD hG hS hA (va_recv hK hP (ci := 7) (q0 := 0) rfl (oh_wg (Nat.lt_of_lt_of_le (by decide) hn) (sM_0 hT))) rfl hl.1 rfl (Nat.le_of_ble_eq_true rfl) dX7_statement_256 ⟨Nat.le_of_ble_eq_true rfl, Nat.le_of_ble_eq_true rfl⟩ (fun r_91 C_92 H locs hq_93 hP hD hS => ?_)
              obtain ⟨hT, f_94, hq_93⟩ := hq_93
              have hF := fr_trk hF f_94 (by decide) (by decide)
              refine W.widen (k := 0) (n := 0) (Nat.le_refl _) (Nat.le_refl _) ?_
              have t_95 := hT
              have : (gi (C_92 0) 7).toInt = (gi (C 0) 7).toInt := congrArg (fun z => (vi z).toInt) (f_94.2 7 (by decide))
              have : (gi (C_92 0) 13).toInt = (gi (C 0) 13).toInt := congrArg (fun z => (vi z).toInt) (f_94.2 13 (by decide))
              have : 0 ≤ (gi (C_92 0) 21).toInt ∧ (gi (C_92 0) 21).toInt ≤ 250 := fM_0_21 t_95
              have : 0 ≤ (gi (C_92 0) 7).toInt ∧ (gi (C_92 0) 7).toInt ≤ 250 := fM_0_7 t_95
              have : 0 ≤ (gi (C_92 0) 23).toInt ∧ (gi (C_92 0) 23).toInt ≤ 250 := fM_0_23 t_95
              have : 0 ≤ (gi (C_92 0) 13).toInt ∧ (gi (C_92 0) 13).toInt ≤ 5 := fM_0_13 t_95
              rw [hQ]
              exact W.zret (v := r_91) (ty := .boolean) hx hb hr (oh_nb hq_93.1) (fun t ht hW => ⟨⟨r_91, C_92, rfl, ⟨hT, hF, ⟨hq_93.1, ⟨hq_93.2.1.1, hq_93.2.1.2⟩, (fun h9 => (hq_93.2.2.2.2.1 h9)), (RelW.fr hR (fr_trk (mc := [(13, 14)]) (mf := [21, 22, 23, 24, 25]) fr_rf f_94 (by decide) (by decide)) (by decide)), (by omega), (fun A hA => ms_eq (rs_waggon_n (xw_n sw_road rfl u_4) (xw_n sw_bridge rfl u_8) (xw_f sw_waggon rfl u_81.2) (by rw [← hA.1 2 (by decide)]; exact (Int32.not_lt.mpr c_82))) (ms_no (j := 16) (hi := 99) hT0 hA (xw_n sw_mile rfl (XIs_x (by decide) (by decide) (by decide) u_81.2)) (fun h7 => ⟨_, tn_f sw_mile rfl (hq_93.2.2.2.2.2.1 h7)⟩) (fun h7 => tn_f sw_mile rfl (hq_93.2.2.2.2.2.2.1 h7)) hq_93.2.2.2.2.2.2.2.1 f_94 (by decide) (by decide))), hq_93.2.2.2.2.2.2.2.2.1, hq_93.2.2.2.2.2.2.2.2.2⟩⟩, ⟨by rw [ht]; exact hP, hD⟩⟩, hS.F ht⟩) hS.2.2 dX7_statement_259
            · have u_96 := hq_88.2.1 c_89
              refine lv_aload_n hx hb dX7_statement_229 rfl (lv_at hl 0 rfl) ?_
              refine va_ldcS hx hb hown (hG.2.2.1 ("OneHeavyLoadModel", 215, "load", 35) (List.mem_of_getElem? (i := 32) rfl)) dX7_statement_230 ?_
              refine lv_aload_n hx hb dX7_statement_232 rfl (lv_at hl 0 rfl) ?_
              refine va_get (D := D) (ci := 7) (v := .ref (a 13)) (C := RX7) (T := TX7) (N := 29) hx hb htg ig_7 hown hK hP 0 (oh_wg (Nat.lt_of_lt_of_le (by decide) hn) (sM_0 hT)) rfl 17 (by decide) (htg _ q_990) (fun _ h9 => h9) rfl dX7_statement_233 ?_
              refine lv_iconst (v := 0) hx hb dX7_statement_236 (by decide) ?_
              refine lv_iconst (v := 0) hx hb dX7_statement_237 (by decide) ?_
              refine lv_sipush (v := 900) hx hb dX7_statement_238 (by decide) ?_
              have : 0 ≤ (gi (C 0) 21).toInt ∧ (gi (C 0) 21).toInt ≤ 250 := fM_0_21 hT0
              have : 0 ≤ (gi (C 0) 7).toInt ∧ (gi (C 0) 7).toInt ≤ 250 := fM_0_7 hT0
              have : 0 ≤ (gi (C 0) 23).toInt ∧ (gi (C 0) 23).toInt ≤ 250 := fM_0_23 hT0
              have : 0 ≤ (gi (C 0) 13).toInt ∧ (gi (C 0) 13).toInt ≤ 5 := fM_0_13 hT0
              have : (5 : Int32).toInt = 5 := rfl
              have : (5 : Int32).toInt ≤ (gi (C 0) 13).toInt := Int32.le_iff_toInt_le.mp c_82
              refine tm_V (As := [.ref (G (3 + 32)), .ref (a 13), .int 0, .int 0, .int 900]) (rest := []) ⟨hx, hb, hml, hown, htg⟩ (e_X7_told l D E G _ a C n hn hT 32 13 (0 : Int32) (0 : Int32) (900 : Int32) (by decide) (rg_w (rg_c (v := 0) (lo := 0) (hi := 0) (by decide)) (by decide)) (rg_w (rg_c (v := 900) (lo := 900) (hi := 900) (by decide)) (by decide)) ⟨(Nat.lt_of_lt_of_le (by decide) hn), (by decide), 3, fun C h => (sM_13 h), (rg_in (rg_c (v := 0) (lo := 0) (hi := 0) (by decide)) (by decide)), fun C v h h1 h2 => (h.up 13 (by decide) (tA_upd (tM_13 h) tA_any))⟩ (by omega) hfg (by omega) (by decide)) (cwV 5 htg (oh_gV q_1234 q_1236 q_45 q_73 q_1237) rfl rfl rfl pdVX7_told ⟨Nat.le_of_ble_eq_true rfl, Nat.le_of_ble_eq_true rfl⟩) hK hP hD hG hS hA (va_recv hK hP (ci := 7) (q0 := 0) rfl (oh_wg (Nat.lt_of_lt_of_le (by decide) hn) (sM_0 hT))) rfl hl.1 rfl (Nat.le_of_ble_eq_true rfl) dX7_statement_241 ⟨Nat.le_of_ble_eq_true rfl, Nat.le_of_ble_eq_true rfl⟩ (fun r_97 C_98 H locs hq_99 hP hD hS => ?_)
              obtain ⟨hT, f_100, hq_99⟩ := hq_99
              have hF := fr_trk hF f_100 (by decide) (by decide)
              refine W.widen (k := 0) (n := 0) (Nat.le_refl _) (Nat.le_refl _) ?_
              have t_101 := hT
              have : (gi (C_98 0) 7).toInt = (gi (C 0) 7).toInt := congrArg (fun z => (vi z).toInt) (f_100.2 7 (by decide))
              have : (gi (C_98 0) 13).toInt = (gi (C 0) 13).toInt := congrArg (fun z => (vi z).toInt) (f_100.2 13 (by decide))
              have : 0 ≤ (gi (C_98 0) 21).toInt ∧ (gi (C_98 0) 21).toInt ≤ 250 := fM_0_21 t_101
              have : 0 ≤ (gi (C_98 0) 7).toInt ∧ (gi (C_98 0) 7).toInt ≤ 250 := fM_0_7 t_101
              have : 0 ≤ (gi (C_98 0) 23).toInt ∧ (gi (C_98 0) 23).toInt ≤ 250 := fM_0_23 t_101
              have : 0 ≤ (gi (C_98 0) 13).toInt ∧ (gi (C_98 0) 13).toInt ≤ 5 := fM_0_13 t_101
              rw [hQ]
              exact W.zret (v := r_97) (ty := .boolean) hx hb hr (oh_nb hq_99.1) (fun t ht hW => ⟨⟨r_97, C_98, rfl, ⟨hT, hF, ⟨hq_99.1, ⟨hq_99.2.1.1, hq_99.2.1.2⟩, (fun h9 => (hq_99.2.2.2.2.1 h9)), (RelW.fr hR (fr_trk (mc := [(13, 14)]) (mf := [21, 22, 23, 24, 25]) fr_rf f_100 (by decide) (by decide)) (by decide)), (by omega), (absurd u_96.2 (XIs_x (i := 28) (by decide) (by decide) (by decide) u_81.2)), hq_99.2.2.2.2.2.2.2.2.1, hq_99.2.2.2.2.2.2.2.2.2⟩⟩, ⟨by rw [ht]; exact hP, hD⟩⟩, hS.F ht⟩) hS.2.2 dX7_statement_244
          · have u_102 := hq_84.2.1 c_85
            refine lv_aload_n hx hb dX7_statement_156 rfl (lv_at hl 0 rfl) ?_
            refine va_get (D := D) (ci := 7) (v := .int (gi (C 0) 15)) (C := RX7) (T := TX7) (N := 29) hx hb htg ig_7 hown hK hP 0 (oh_wg (Nat.lt_of_lt_of_le (by decide) hn) (sM_0 hT)) rfl 15 (by decide) (htg _ q_988) (fun _ h9 => h9) rfl dX7_statement_157 ?_
            refine lv_iconst (v := 5) hx hb dX7_statement_160 (by decide) ?_
            refine lv_icmp_ge (tgt := 220) hx hb dX7_statement_161 (by decide) (fun (c_103 : (5 : Int32) ≤ (gi (C 0) 15)) => ?_) (fun (c_103 : ¬ ((5 : Int32) ≤ (gi (C 0) 15))) => ?_)
            · refine lv_aload_n hx hb dX7_statement_220 rfl (lv_at hl 0 rfl) ?_
              refine va_ldcS hx hb hown (hG.2.2.1 ("OneHeavyLoadModel", 215, "load", 35) (List.mem_of_getElem? (i := 32) rfl)) dX7_statement_221 ?_
              refine tq_V (As := [.ref (G (3 + 32))]) (rest := []) (ws := (oh_W n a C)) ⟨hx, hb, hml, hown, htg⟩ (e_X7_isWord l D E G a C n hn hT 32 (by decide)) (cwV 1 htg (oh_gV q_1215 q_1217 q_41 q_73 q_1218) rfl rfl rfl pdVX7_isWord ⟨Nat.le_of_ble_eq_true rfl, Nat.le_of_ble_eq_true rfl⟩) hK hP hG hS (va_recv hK hP (ci := 7) (q0 := 0) rfl (oh_wg (Nat.lt_of_lt_of_le (by decide) hn) (sM_0 hT))) rfl hl.1 rfl (Nat.le_of_ble_eq_true rfl) dX7_statement_223 ⟨Nat.le_of_ble_eq_true rfl, Nat.le_of_ble_eq_true rfl⟩ (fun r_104 hq_105 => ?_)
              refine lv_if_eq (tgt := 245) hx hb dX7_statement_226 (by decide) (fun (c_106 : r_104 = 0) => ?_) (fun (c_106 : ¬ (r_104 = 0)) => ?_)
              · have u_107 := hq_105.2.2 c_106
                refine lv_aload_n hx hb dX7_statement_245 rfl (lv_at hl 0 rfl) ?_
                refine va_ldcS hx hb hown (hG.2.2.1 ("OneHeavyLoadModel", 217, "mile", 36) (List.mem_of_getElem? (i := 33) rfl)) dX7_statement_246 ?_
                refine lv_aload_n hx hb dX7_statement_248 rfl (lv_at hl 0 rfl) ?_
                refine va_get (D := D) (ci := 7) (v := .ref (a 13)) (C := RX7) (T := TX7) (N := 29) hx hb htg ig_7 hown hK hP 0 (oh_wg (Nat.lt_of_lt_of_le (by decide) hn) (sM_0 hT)) rfl 17 (by decide) (htg _ q_990) (fun _ h9 => h9) rfl dX7_statement_249 ?_
                refine lv_iconst (v := 1) hx hb dX7_statement_252 (by decide) ?_
                refine lv_iconst (v := 0) hx hb dX7_statement_253 (by decide) ?_
                refine lv_bipush (v := 99) hx hb dX7_statement_254 (by decide) ?_
                have : 0 ≤ (gi (C 0) 21).toInt ∧ (gi (C 0) 21).toInt ≤ 250 := fM_0_21 hT0
                have : 0 ≤ (gi (C 0) 7).toInt ∧ (gi (C 0) 7).toInt ≤ 250 := fM_0_7 hT0
                have : 0 ≤ (gi (C 0) 23).toInt ∧ (gi (C 0) 23).toInt ≤ 250 := fM_0_23 hT0
                have : 0 ≤ (gi (C 0) 13).toInt ∧ (gi (C 0) 13).toInt ≤ 5 := fM_0_13 hT0
                have : (5 : Int32).toInt = 5 := rfl
                have : (5 : Int32).toInt ≤ (gi (C 0) 13).toInt := Int32.le_iff_toInt_le.mp c_82
                have : (5 : Int32).toInt ≤ (gi (C 0) 15).toInt := Int32.le_iff_toInt_le.mp c_103
                refine tm_V (As := [.ref (G (3 + 33)), .ref (a 13), .int 1, .int 0, .int 99]) (rest := []) ⟨hx, hb, hml, hown, htg⟩ (e_X7_told l D E G _ a C n hn hT 33 13 (1 : Int32) (0 : Int32) (99 : Int32) (by decide) (rg_w (rg_c (v := 0) (lo := 0) (hi := 0) (by decide)) (by decide)) (rg_w (rg_c (v := 99) (lo := 99) (hi := 99) (by decide)) (by decide)) ⟨(Nat.lt_of_lt_of_le (by decide) hn), (by decide), 3, fun C h => (sM_13 h), (rg_in (rg_c (v := 1) (lo := 1) (hi := 1) (by decide)) (by decide)), fun C v h h1 h2 => (h.up 13 (by decide) (tA_upd (tM_13 h) tA_any))⟩ (by omega) hfg (by omega) (by decide)) (cwV 5 htg (oh_gV q_1234 q_1236 q_45 q_73 q_1237) rfl rfl rfl pdVX7_told ⟨Nat.le_of_ble_eq_true rfl, Nat.le_of_ble_eq_true rfl⟩) hK hP hD hG hS hA (va_recv hK hP (ci := 7) (q0 := 0) rfl (oh_wg (Nat.lt_of_lt_of_le (by decide) hn) (sM_0 hT))) rfl hl.1 rfl (Nat.le_of_ble_eq_true rfl) dX7_statement_256 ⟨Nat.le_of_ble_eq_true rfl, Nat.le_of_ble_eq_true rfl⟩ (fun r_108 C_109 H locs hq_110 hP hD hS => ?_)
                obtain ⟨hT, f_111, hq_110⟩ := hq_110
                have hF := fr_trk hF f_111 (by decide) (by decide)
                refine W.widen (k := 0) (n := 0) (Nat.le_refl _) (Nat.le_refl _) ?_
                have t_112 := hT
                have : (gi (C_109 0) 7).toInt = (gi (C 0) 7).toInt := congrArg (fun z => (vi z).toInt) (f_111.2 7 (by decide))
                have : (gi (C_109 0) 13).toInt = (gi (C 0) 13).toInt := congrArg (fun z => (vi z).toInt) (f_111.2 13 (by decide))
                have : 0 ≤ (gi (C_109 0) 21).toInt ∧ (gi (C_109 0) 21).toInt ≤ 250 := fM_0_21 t_112
                have : 0 ≤ (gi (C_109 0) 7).toInt ∧ (gi (C_109 0) 7).toInt ≤ 250 := fM_0_7 t_112
                have : 0 ≤ (gi (C_109 0) 23).toInt ∧ (gi (C_109 0) 23).toInt ≤ 250 := fM_0_23 t_112
                have : 0 ≤ (gi (C_109 0) 13).toInt ∧ (gi (C_109 0) 13).toInt ≤ 5 := fM_0_13 t_112
                rw [hQ]
                exact W.zret (v := r_108) (ty := .boolean) hx hb hr (oh_nb hq_110.1) (fun t ht hW => ⟨⟨r_108, C_109, rfl, ⟨hT, hF, ⟨hq_110.1, ⟨hq_110.2.1.1, hq_110.2.1.2⟩, (fun h9 => (hq_110.2.2.2.2.1 h9)), (RelW.fr hR (fr_trk (mc := [(13, 14)]) (mf := [21, 22, 23, 24, 25]) fr_rf f_111 (by decide) (by decide)) (by decide)), (by omega), (absurd u_102.2 (XIs_x (i := 28) (by decide) (by decide) (by decide) u_81.2)), hq_110.2.2.2.2.2.2.2.2.1, hq_110.2.2.2.2.2.2.2.2.2⟩⟩, ⟨by rw [ht]; exact hP, hD⟩⟩, hS.F ht⟩) hS.2.2 dX7_statement_259
              · have u_113 := hq_105.2.1 c_106
                refine lv_aload_n hx hb dX7_statement_229 rfl (lv_at hl 0 rfl) ?_
                refine va_ldcS hx hb hown (hG.2.2.1 ("OneHeavyLoadModel", 215, "load", 35) (List.mem_of_getElem? (i := 32) rfl)) dX7_statement_230 ?_
                refine lv_aload_n hx hb dX7_statement_232 rfl (lv_at hl 0 rfl) ?_
                refine va_get (D := D) (ci := 7) (v := .ref (a 13)) (C := RX7) (T := TX7) (N := 29) hx hb htg ig_7 hown hK hP 0 (oh_wg (Nat.lt_of_lt_of_le (by decide) hn) (sM_0 hT)) rfl 17 (by decide) (htg _ q_990) (fun _ h9 => h9) rfl dX7_statement_233 ?_
                refine lv_iconst (v := 0) hx hb dX7_statement_236 (by decide) ?_
                refine lv_iconst (v := 0) hx hb dX7_statement_237 (by decide) ?_
                refine lv_sipush (v := 900) hx hb dX7_statement_238 (by decide) ?_
                have : 0 ≤ (gi (C 0) 21).toInt ∧ (gi (C 0) 21).toInt ≤ 250 := fM_0_21 hT0
                have : 0 ≤ (gi (C 0) 7).toInt ∧ (gi (C 0) 7).toInt ≤ 250 := fM_0_7 hT0
                have : 0 ≤ (gi (C 0) 23).toInt ∧ (gi (C 0) 23).toInt ≤ 250 := fM_0_23 hT0
                have : 0 ≤ (gi (C 0) 13).toInt ∧ (gi (C 0) 13).toInt ≤ 5 := fM_0_13 hT0
                have : (5 : Int32).toInt = 5 := rfl
                have : (5 : Int32).toInt ≤ (gi (C 0) 13).toInt := Int32.le_iff_toInt_le.mp c_82
                have : (5 : Int32).toInt ≤ (gi (C 0) 15).toInt := Int32.le_iff_toInt_le.mp c_103
                refine tm_V (As := [.ref (G (3 + 32)), .ref (a 13), .int 0, .int 0, .int 900]) (rest := []) ⟨hx, hb, hml, hown, htg⟩ (e_X7_told l D E G _ a C n hn hT 32 13 (0 : Int32) (0 : Int32) (900 : Int32) (by decide) (rg_w (rg_c (v := 0) (lo := 0) (hi := 0) (by decide)) (by decide)) (rg_w (rg_c (v := 900) (lo := 900) (hi := 900) (by decide)) (by decide)) ⟨(Nat.lt_of_lt_of_le (by decide) hn), (by decide), 3, fun C h => (sM_13 h), (rg_in (rg_c (v := 0) (lo := 0) (hi := 0) (by decide)) (by decide)), fun C v h h1 h2 => (h.up 13 (by decide) (tA_upd (tM_13 h) tA_any))⟩ (by omega) hfg (by omega) (by decide)) (cwV 5 htg (oh_gV q_1234 q_1236 q_45 q_73 q_1237) rfl rfl rfl pdVX7_told ⟨Nat.le_of_ble_eq_true rfl, Nat.le_of_ble_eq_true rfl⟩) hK hP hD hG hS hA (va_recv hK hP (ci := 7) (q0 := 0) rfl (oh_wg (Nat.lt_of_lt_of_le (by decide) hn) (sM_0 hT))) rfl hl.1 rfl (Nat.le_of_ble_eq_true rfl) dX7_statement_241 ⟨Nat.le_of_ble_eq_true rfl, Nat.le_of_ble_eq_true rfl⟩ (fun r_114 C_115 H locs hq_116 hP hD hS => ?_)
                obtain ⟨hT, f_117, hq_116⟩ := hq_116
                have hF := fr_trk hF f_117 (by decide) (by decide)
                refine W.widen (k := 0) (n := 0) (Nat.le_refl _) (Nat.le_refl _) ?_
                have t_118 := hT
                have : (gi (C_115 0) 7).toInt = (gi (C 0) 7).toInt := congrArg (fun z => (vi z).toInt) (f_117.2 7 (by decide))
                have : (gi (C_115 0) 13).toInt = (gi (C 0) 13).toInt := congrArg (fun z => (vi z).toInt) (f_117.2 13 (by decide))
                have : 0 ≤ (gi (C_115 0) 21).toInt ∧ (gi (C_115 0) 21).toInt ≤ 250 := fM_0_21 t_118
                have : 0 ≤ (gi (C_115 0) 7).toInt ∧ (gi (C_115 0) 7).toInt ≤ 250 := fM_0_7 t_118
                have : 0 ≤ (gi (C_115 0) 23).toInt ∧ (gi (C_115 0) 23).toInt ≤ 250 := fM_0_23 t_118
                have : 0 ≤ (gi (C_115 0) 13).toInt ∧ (gi (C_115 0) 13).toInt ≤ 5 := fM_0_13 t_118
                rw [hQ]
                exact W.zret (v := r_114) (ty := .boolean) hx hb hr (oh_nb hq_116.1) (fun t ht hW => ⟨⟨r_114, C_115, rfl, ⟨hT, hF, ⟨hq_116.1, ⟨hq_116.2.1.1, hq_116.2.1.2⟩, (fun h9 => (hq_116.2.2.2.2.1 h9)), (RelW.fr hR (fr_trk (mc := [(13, 14)]) (mf := [21, 22, 23, 24, 25]) fr_rf f_117 (by decide) (by decide)) (by decide)), (by omega), (absurd u_102.2 (XIs_x (i := 28) (by decide) (by decide) (by decide) u_81.2)), hq_116.2.2.2.2.2.2.2.2.1, hq_116.2.2.2.2.2.2.2.2.2⟩⟩, ⟨by rw [ht]; exact hP, hD⟩⟩, hS.F ht⟩) hS.2.2 dX7_statement_244
            · refine lv_aload_n hx hb dX7_statement_164 rfl (lv_at hl 0 rfl) ?_
              refine va_ldcS hx hb hown (hG.2.2.1 ("OneHeavyLoadModel", 214, "part", 34) (List.mem_of_getElem? (i := 31) rfl)) dX7_statement_165 ?_
              refine lv_aload_n hx hb dX7_statement_167 rfl (lv_at hl 0 rfl) ?_
              refine va_get (D := D) (ci := 7) (v := .ref (a 12)) (C := RX7) (T := TX7) (N := 29) hx hb htg ig_7 hown hK hP 0 (oh_wg (Nat.lt_of_lt_of_le (by decide) hn) (sM_0 hT)) rfl 16 (by decide) (htg _ q_989) (fun _ h9 => h9) rfl dX7_statement_168 ?_
              refine lv_aload_n hx hb dX7_statement_171 rfl (lv_at hl 0 rfl) ?_
              refine va_get (D := D) (ci := 7) (v := .int (gi (C 0) 15)) (C := RX7) (T := TX7) (N := 29) hx hb htg ig_7 hown hK hP 0 (oh_wg (Nat.lt_of_lt_of_le (by decide) hn) (sM_0 hT)) rfl 15 (by decide) (htg _ q_988) (fun _ h9 => h9) rfl dX7_statement_172 ?_
              have n_119 : vp_in (gi (C 0) 15) 5 := (rg_in (rn_ltu (u' := 4) (Int32.not_le.mp c_103) (fM_0_15 hT0) (rg_c (v := 5) (lo := 5) (hi := 5) (by decide)) (by decide)) (by decide))
              have b_120 : (gi (C 0) 15).toNatClampNeg < 5 := vp_lt n_119
              refine th_aald hx hb hK hP 12 2 (Nat.lt_of_lt_of_le (by decide) hn) (sM_12 hT) rfl n_119 dX7_statement_175 ?_
              refine lv_iconst (v := 0) hx hb dX7_statement_176 (by decide) ?_
              refine lv_iconst (v := 1) hx hb dX7_statement_177 (by decide) ?_
              refine lv_bipush (v := 99) hx hb dX7_statement_178 (by decide) ?_
              have : 0 ≤ (gi (C 0) 21).toInt ∧ (gi (C 0) 21).toInt ≤ 250 := fM_0_21 hT0
              have : 0 ≤ (gi (C 0) 7).toInt ∧ (gi (C 0) 7).toInt ≤ 250 := fM_0_7 hT0
              have : 0 ≤ (gi (C 0) 23).toInt ∧ (gi (C 0) 23).toInt ≤ 250 := fM_0_23 hT0
              have : 0 ≤ (gi (C 0) 13).toInt ∧ (gi (C 0) 13).toInt ≤ 5 := fM_0_13 hT0
              have : (5 : Int32).toInt = 5 := rfl
              have : (5 : Int32).toInt ≤ (gi (C 0) 13).toInt := Int32.le_iff_toInt_le.mp c_82
              have : (gi (C 0) 15).toInt < (5 : Int32).toInt := Int32.lt_iff_toInt_lt.mp (Int32.not_le.mp c_103)
              refine tm_V (As := [.ref (G (3 + 31)), .ref (a (69 + (gi (C 0) 15).toNatClampNeg)), .int 0, .int 1, .int 99]) (rest := []) ⟨hx, hb, hml, hown, htg⟩ (e_X7_told l D E G _ a C n hn hT 31 (69 + (gi (C 0) 15).toNatClampNeg) (0 : Int32) (1 : Int32) (99 : Int32) (by decide) (rg_w (rg_c (v := 1) (lo := 1) (hi := 1) (by decide)) (by decide)) (rg_w (rg_c (v := 99) (lo := 99) (hi := 99) (by decide)) (by decide)) ⟨(lt_blk b_120 hn (by decide)), (by omega), 2, fun C h => (h.bpart b_120).1, (rg_in (rg_c (v := 0) (lo := 0) (hi := 0) (by decide)) (by decide)), fun C v h h1 h2 => (h.uppart b_120 (tA_upd (h.bpart b_120) tA_any))⟩ (by omega) hfg (by omega) (by omega)) (cwV 5 htg (oh_gV q_1234 q_1236 q_45 q_73 q_1237) rfl rfl rfl pdVX7_told ⟨Nat.le_of_ble_eq_true rfl, Nat.le_of_ble_eq_true rfl⟩) hK hP hD hG hS hA (va_recv hK hP (ci := 7) (q0 := 0) rfl (oh_wg (Nat.lt_of_lt_of_le (by decide) hn) (sM_0 hT))) rfl hl.1 rfl (Nat.le_of_ble_eq_true rfl) dX7_statement_180 ⟨Nat.le_of_ble_eq_true rfl, Nat.le_of_ble_eq_true rfl⟩ (fun r_121 C_122 H locs hq_123 hP hD hS => ?_)
              obtain ⟨hT, f_124, hq_123⟩ := hq_123
              have hF := fr_trk hF f_124 (inR_of (p := (69, 74)) (by decide) (by show 69 ≤ _; omega) (by show _ < 74; omega)) (by decide)
              refine W.widen (k := 0) (n := 0) (Nat.le_refl _) (Nat.le_refl _) ?_
              have t_125 := hT
              refine lv_if_eq (tgt := 206) hx hb dX7_statement_183 (by decide) (fun (c_126 : r_121 = 0) => ?_) (fun (c_126 : ¬ (r_121 = 0)) => ?_)
              · have u_127 := hq_123.2.2.2.2.2.2.1 c_126
                have u_128 := hq_123.2.2.2.2.2.2.2.1 c_126
                refine lv_iconst (v := 0) hx hb dX7_statement_206 (by decide) ?_
                have : (gi (C_122 0) 7).toInt = (gi (C 0) 7).toInt := congrArg (fun z => (vi z).toInt) (f_124.2 7 (by decide))
                have : (gi (C_122 0) 13).toInt = (gi (C 0) 13).toInt := congrArg (fun z => (vi z).toInt) (f_124.2 13 (by decide))
                have : 0 ≤ (gi (C_122 0) 21).toInt ∧ (gi (C_122 0) 21).toInt ≤ 250 := fM_0_21 t_125
                have : 0 ≤ (gi (C_122 0) 7).toInt ∧ (gi (C_122 0) 7).toInt ≤ 250 := fM_0_7 t_125
                have : 0 ≤ (gi (C_122 0) 23).toInt ∧ (gi (C_122 0) 23).toInt ≤ 250 := fM_0_23 t_125
                have : 0 ≤ (gi (C_122 0) 13).toInt ∧ (gi (C_122 0) 13).toInt ≤ 5 := fM_0_13 t_125
                rw [hQ]
                exact W.zret (v := 0) (ty := .boolean) hx hb hr (by decide) (fun t ht hW => ⟨⟨0, C_122, rfl, ⟨hT, hF, ⟨(Or.inl rfl), ⟨hq_123.2.1.1, hq_123.2.1.2⟩, (fun h9 => absurd rfl h9), (RelW.fr hR (fr_trk (mc := [(69, 74)]) (mf := [21, 22, 23, 24, 25]) fr_rf f_124 (inR_of (p := (69, 74)) (by decide) (by show 69 ≤ _; omega) (by show _ < 74; omega)) (by decide)) (by decide)), (by omega), (absurd u_102.2 (XIs_x (i := 28) (by decide) (by decide) (by decide) u_81.2)), hq_123.2.2.2.2.2.2.2.2.1, hq_123.2.2.2.2.2.2.2.2.2⟩⟩, ⟨by rw [ht]; exact hP, hD⟩⟩, hS.F ht⟩) hS.2.2 dX7_statement_207
              · have u_129 := hq_123.2.2.2.1 c_126
                have u_130 := hq_123.2.2.2.2.1 c_126
                have u_131 := hq_123.2.2.2.2.2.1 c_126
                refine lv_aload_n hx hb dX7_statement_186 rfl (lv_at hl 0 rfl) ?_
                refine lv_aload_n hx hb dX7_statement_187 rfl (lv_at hl 0 rfl) ?_
                refine va_get (D := D) (ci := 7) (v := .ref (a 12)) (C := RX7) (T := TX7) (N := 29) hx hb htg ig_7 hown hK hP 0 (oh_wg (Nat.lt_of_lt_of_le (by decide) hn) (sM_0 hT)) rfl 16 (by decide) (htg _ q_989) (fun _ h9 => h9) rfl dX7_statement_188 ?_
                refine lv_aload_n hx hb dX7_statement_191 rfl (lv_at hl 0 rfl) ?_
                refine va_get (D := D) (ci := 7) (v := .int (gi (C 0) 15)) (C := RX7) (T := TX7) (N := 29) hx hb htg ig_7 hown hK hP 0 (oh_wg (Nat.lt_of_lt_of_le (by decide) hn) (sM_0 hT)) rfl 15 (by decide) (htg _ q_988) (fun _ h9 => h9) (oh_fv (c := C_122 0) (j := 15) rfl (congrArg vi (f_124.2 15 (by decide)))) dX7_statement_192 ?_
                have n_132 : vp_in (gi (C 0) 15) 5 := (rg_in (rn_ltu (u' := 4) (Int32.not_le.mp c_103) (fM_0_15 hT0) (rg_c (v := 5) (lo := 5) (hi := 5) (by decide)) (by decide)) (by decide))
                have b_133 : (gi (C 0) 15).toNatClampNeg < 5 := vp_lt n_132
                refine th_aald hx hb hK hP 12 2 (Nat.lt_of_lt_of_le (by decide) hn) (sM_12 hT) rfl n_132 dX7_statement_195 ?_
                refine lv_iconst (v := 1) hx hb dX7_statement_196 (by decide) ?_
                refine lv_iconst (v := 0) hx hb dX7_statement_197 (by decide) ?_
                refine lv_bipush (v := 99) hx hb dX7_statement_198 (by decide) ?_
                have : (gi (C_122 0) 7).toInt = (gi (C 0) 7).toInt := congrArg (fun z => (vi z).toInt) (f_124.2 7 (by decide))
                have : (gi (C_122 0) 13).toInt = (gi (C 0) 13).toInt := congrArg (fun z => (vi z).toInt) (f_124.2 13 (by decide))
                have : 0 ≤ (gi (C_122 0) 21).toInt ∧ (gi (C_122 0) 21).toInt ≤ 250 := fM_0_21 t_125
                have : 0 ≤ (gi (C_122 0) 7).toInt ∧ (gi (C_122 0) 7).toInt ≤ 250 := fM_0_7 t_125
                have : 0 ≤ (gi (C_122 0) 23).toInt ∧ (gi (C_122 0) 23).toInt ≤ 250 := fM_0_23 t_125
                have : 0 ≤ (gi (C_122 0) 13).toInt ∧ (gi (C_122 0) 13).toInt ≤ 5 := fM_0_13 t_125
                refine tm_V (As := [.ref (a (69 + (gi (C 0) 15).toNatClampNeg)), .int 1, .int 0, .int 99]) (rest := []) ⟨hx, hb, hml, hown, htg⟩ (e_X7_number l D E G _ a C_122 n hn hT (69 + (gi (C 0) 15).toNatClampNeg) (1 : Int32) (0 : Int32) (99 : Int32) (rg_w (rg_c (v := 0) (lo := 0) (hi := 0) (by decide)) (by decide)) (rg_w (rg_c (v := 99) (lo := 99) (hi := 99) (by decide)) (by decide)) ⟨(lt_blk b_133 hn (by decide)), (by omega), 2, fun C h => (h.bpart b_133).1, (rg_in (rg_c (v := 1) (lo := 1) (hi := 1) (by decide)) (by decide)), fun C v h h1 h2 => (h.uppart b_133 (tA_upd (h.bpart b_133) tA_any))⟩ (by omega) hq_123.2.2.2.2.2.2.2.2.1 (by omega) (by omega)) (cwV 4 htg (oh_gV q_1225 q_1227 q_43 q_73 q_1228) rfl rfl rfl pdVX7_number ⟨Nat.le_of_ble_eq_true rfl, Nat.le_of_ble_eq_true rfl⟩) hK hP hD hG hS hA (va_recv hK hP (ci := 7) (q0 := 0) rfl (oh_wg (Nat.lt_of_lt_of_le (by decide) hn) (sM_0 hT))) rfl hl.1 rfl (Nat.le_of_ble_eq_true rfl) dX7_statement_200 ⟨Nat.le_of_ble_eq_true rfl, Nat.le_of_ble_eq_true rfl⟩ (fun r_134 C_135 H locs hq_136 hP hD hS => ?_)
                obtain ⟨hT, f_137, hq_136⟩ := hq_136
                have hF := fr_trk hF f_137 (inR_of (p := (69, 74)) (by decide) (by show 69 ≤ _; omega) (by show _ < 74; omega)) (by decide)
                refine W.widen (k := 0) (n := 0) (Nat.le_refl _) (Nat.le_refl _) ?_
                have t_138 := hT
                refine lv_if_ne (tgt := 208) hx hb dX7_statement_203 (by decide) (fun (c_139 : ¬ (r_134 = 0)) => ?_) (fun (c_139 : r_134 = 0) => ?_)
                · have u_140 := hq_136.2.2.2.1 c_139
                  have u_141 := hq_136.2.2.2.2.1 c_139
                  refine lv_aload_n hx hb dX7_statement_208 rfl (lv_at hl 0 rfl) ?_
                  refine lv_dup hx hb dX7_statement_209 rfl ?_
                  refine va_get (D := D) (ci := 7) (v := .int (gi (C 0) 15)) (C := RX7) (T := TX7) (N := 29) hx hb htg ig_7 hown hK hP 0 (oh_wg (Nat.lt_of_lt_of_le (by decide) hn) (sM_0 hT)) rfl 15 (by decide) (htg _ q_988) (fun _ h9 => h9) (oh_fv (c := C_135 0) (j := 15) rfl (Eq.trans (congrArg vi (f_137.2 15 (by decide))) (congrArg vi (f_124.2 15 (by decide))))) dX7_statement_210 ?_
                  refine lv_iconst (v := 1) hx hb dX7_statement_213 (by decide) ?_
                  refine lv_iadd hx hb dX7_statement_214 ?_
                  refine th_put (Tp := TyM a E) (Rl := fr [(13, 14), (24, 48), (48, 64), (64, 69), (69, 74)] [9, 11, 13, 15, 21, 22, 23, 24, 25] C) (ci := 7) (v := .int ((gi (C 0) 15) + 1)) (ty := .int) (CC := RX7) (T := TX7) (N := 29) hx hb htg ig_7 tyX7 tyX7_ok nmX7 hown hK hP hD hS 0 (Nat.lt_of_lt_of_le (by decide) hn) (sM_0 hT) rfl 15 (by decide) (htg _ q_988) (fun _ h9 => h9) rfl (by decide +kernel) rfl rfl (Nat.le_of_ble_eq_true rfl) (hT.up 0 (by decide) ⟨rfl, (fM_0_7 hT), (fM_0_9 hT), (fM_0_11 hT), (fM_0_13 hT), (rg_w (rg_add (lo := 1) (hi := 5) (rn_ltu (u' := 4) (Int32.not_le.mp c_103) (fM_0_15 hT0) (rg_c (v := 5) (lo := 5) (hi := 5) (by decide)) (by decide)) (rg_c (v := 1) (lo := 1) (hi := 1) (by decide)) (by decide)) (by decide)), (fM_0_21 hT), (fM_0_23 hT)⟩) (fr_fd hF (sM_0 hT) (by decide)) dX7_statement_215 (fun C_142 H locs e_143 hT hF hP hD hS => ?_)
                  have t_144 := hT
                  refine lv_iconst (v := 1) hx hb dX7_statement_218 (by decide) ?_
                  have : (gi (C_135 0) 7).toInt = (gi (C_122 0) 7).toInt := congrArg (fun z => (vi z).toInt) (f_137.2 7 (by decide))
                  have : (gi (C_135 0) 13).toInt = (gi (C_122 0) 13).toInt := congrArg (fun z => (vi z).toInt) (f_137.2 13 (by decide))
                  have : (gi (C_142 0) 21).toInt = (gi (C_135 0) 21).toInt := congrArg Int32.toInt (show gi (C_142 0) 21 = gi (C_135 0) 21 by rw [e_143]; rfl)
                  have : (gi (C_142 0) 7).toInt = (gi (C_135 0) 7).toInt := congrArg Int32.toInt (show gi (C_142 0) 7 = gi (C_135 0) 7 by rw [e_143]; rfl)
                  have : (gi (C_142 0) 23).toInt = (gi (C_135 0) 23).toInt := congrArg Int32.toInt (show gi (C_142 0) 23 = gi (C_135 0) 23 by rw [e_143]; rfl)
                  have : (gi (C_142 0) 13).toInt = (gi (C_135 0) 13).toInt := congrArg Int32.toInt (show gi (C_142 0) 13 = gi (C_135 0) 13 by rw [e_143]; rfl)
                  have : 0 ≤ (gi (C_135 0) 21).toInt ∧ (gi (C_135 0) 21).toInt ≤ 250 := fM_0_21 t_138
                  have : 0 ≤ (gi (C_135 0) 7).toInt ∧ (gi (C_135 0) 7).toInt ≤ 250 := fM_0_7 t_138
                  have : 0 ≤ (gi (C_135 0) 23).toInt ∧ (gi (C_135 0) 23).toInt ≤ 250 := fM_0_23 t_138
                  have : 0 ≤ (gi (C_135 0) 13).toInt ∧ (gi (C_135 0) 13).toInt ≤ 5 := fM_0_13 t_138
                  have : 0 ≤ (gi (C_142 0) 21).toInt ∧ (gi (C_142 0) 21).toInt ≤ 250 := fM_0_21 t_144
                  have : 0 ≤ (gi (C_142 0) 7).toInt ∧ (gi (C_142 0) 7).toInt ≤ 250 := fM_0_7 t_144
                  have : 0 ≤ (gi (C_142 0) 23).toInt ∧ (gi (C_142 0) 23).toInt ≤ 250 := fM_0_23 t_144
                  have : 0 ≤ (gi (C_142 0) 13).toInt ∧ (gi (C_142 0) 13).toInt ≤ 5 := fM_0_13 t_144
                  rw [hQ]
                  exact W.zret (v := 1) (ty := .boolean) hx hb hr (by decide) (fun t ht hW => ⟨⟨1, C_142, rfl, ⟨hT, hF, ⟨(Or.inr rfl), ⟨(by omega), (by omega)⟩, (fun _ => (by omega)), (RelW.fr (RelW.fr (RelW.fr hR (fr_trk (mc := [(69, 74)]) (mf := [21, 22, 23, 24, 25]) fr_rf f_124 (inR_of (p := (69, 74)) (by decide) (by show 69 ≤ _; omega) (by show _ < 74; omega)) (by decide)) (by decide)) (fr_trk (mc := [(69, 74)]) (mf := [21, 22, 23, 24, 25]) fr_rf f_137 (inR_of (p := (69, 74)) (by decide) (by show 69 ≤ _; omega) (by show _ < 74; omega)) (by decide)) (by decide)) (fr_fde (mc := []) (mf := [15]) fr_rf e_143 (sM_0 t_138) (by decide)) (by decide)), (by omega), (absurd u_102.2 (XIs_x (i := 28) (by decide) (by decide) (by decide) u_81.2)), (fgF (j := 15) hq_136.2.2.2.2.2.2.2.1 e_143 (sM_0 t_138) (by decide)), (by omega)⟩⟩, ⟨by rw [ht]; exact hP, hD⟩⟩, hS.F ht⟩) hS.2.2 dX7_statement_219
                · have u_145 := hq_136.2.2.2.2.2.1 c_139
                  have u_146 := hq_136.2.2.2.2.2.2.1 c_139
                  refine lv_iconst (v := 0) hx hb dX7_statement_206 (by decide) ?_
                  have : (gi (C_135 0) 7).toInt = (gi (C_122 0) 7).toInt := congrArg (fun z => (vi z).toInt) (f_137.2 7 (by decide))
                  have : (gi (C_135 0) 13).toInt = (gi (C_122 0) 13).toInt := congrArg (fun z => (vi z).toInt) (f_137.2 13 (by decide))
                  have : 0 ≤ (gi (C_135 0) 21).toInt ∧ (gi (C_135 0) 21).toInt ≤ 250 := fM_0_21 t_138
                  have : 0 ≤ (gi (C_135 0) 7).toInt ∧ (gi (C_135 0) 7).toInt ≤ 250 := fM_0_7 t_138
                  have : 0 ≤ (gi (C_135 0) 23).toInt ∧ (gi (C_135 0) 23).toInt ≤ 250 := fM_0_23 t_138
                  have : 0 ≤ (gi (C_135 0) 13).toInt ∧ (gi (C_135 0) 13).toInt ≤ 5 := fM_0_13 t_138
                  rw [hQ]
                  exact W.zret (v := 0) (ty := .boolean) hx hb hr (by decide) (fun t ht hW => ⟨⟨0, C_135, rfl, ⟨hT, hF, ⟨(Or.inl rfl), ⟨(by omega), hq_136.2.1.2⟩, (fun h9 => absurd rfl h9), (RelW.fr (RelW.fr hR (fr_trk (mc := [(69, 74)]) (mf := [21, 22, 23, 24, 25]) fr_rf f_124 (inR_of (p := (69, 74)) (by decide) (by show 69 ≤ _; omega) (by show _ < 74; omega)) (by decide)) (by decide)) (fr_trk (mc := [(69, 74)]) (mf := [21, 22, 23, 24, 25]) fr_rf f_137 (inR_of (p := (69, 74)) (by decide) (by show 69 ≤ _; omega) (by show _ < 74; omega)) (by decide)) (by decide)), (by omega), (absurd u_102.2 (XIs_x (i := 28) (by decide) (by decide) (by decide) u_81.2)), hq_136.2.2.2.2.2.2.2.1, hq_136.2.2.2.2.2.2.2.2⟩⟩, ⟨by rw [ht]; exact hP, hD⟩⟩, hS.F ht⟩) hS.2.2 dX7_statement_207
        · refine lv_aload_n hx hb dX7_statement_81 rfl (lv_at hl 0 rfl) ?_
          refine va_get (D := D) (ci := 7) (v := .ref (a 11)) (C := RX7) (T := TX7) (N := 29) hx hb htg ig_7 hown hK hP 0 (oh_wg (Nat.lt_of_lt_of_le (by decide) hn) (sM_0 hT)) rfl 14 (by decide) (htg _ q_987) (fun _ h9 => h9) rfl dX7_statement_82 ?_
          refine lv_aload_n hx hb dX7_statement_85 rfl (lv_at hl 0 rfl) ?_
          refine va_get (D := D) (ci := 7) (v := .int (gi (C 0) 13)) (C := RX7) (T := TX7) (N := 29) hx hb htg ig_7 hown hK hP 0 (oh_wg (Nat.lt_of_lt_of_le (by decide) hn) (sM_0 hT)) rfl 13 (by decide) (htg _ q_986) (fun _ h9 => h9) rfl dX7_statement_86 ?_
          have n_147 : vp_in (gi (C 0) 13) 5 := (rg_in (rn_ltu (u' := 4) (Int32.not_le.mp c_82) (fM_0_13 hT0) (rg_c (v := 5) (lo := 5) (hi := 5) (by decide)) (by decide)) (by decide))
          have b_148 : (gi (C 0) 13).toNatClampNeg < 5 := vp_lt n_147
          refine th_aald hx hb hK hP 11 2 (Nat.lt_of_lt_of_le (by decide) hn) (sM_11 hT) rfl n_147 dX7_statement_89 ?_
          refine lv_astore_n (lv' := [(1, .ref (a (64 + (gi (C 0) 13).toNatClampNeg))), (0, .ref (a 0))]) hx hb dX7_statement_90 rfl hl (by decide) rfl (fun ls hl => ?_)
          refine lv_aload_n hx hb dX7_statement_91 rfl (lv_at hl 1 rfl) ?_
          refine va_ldcS hx hb hown (hG.2.2.1 ("OneHeavyLoadModel", 209, "waggon", 31) (List.mem_of_getElem? (i := 28) rfl)) dX7_statement_92 ?_
          refine lv_aload_n hx hb dX7_statement_94 rfl (lv_at hl 0 rfl) ?_
          refine lv_iconst (v := 0) hx hb dX7_statement_95 (by decide) ?_
          refine lv_iconst (v := 2) hx hb dX7_statement_96 (by decide) ?_
          refine lv_bipush (v := 12) hx hb dX7_statement_97 (by decide) ?_
          have : 0 ≤ (gi (C 0) 21).toInt ∧ (gi (C 0) 21).toInt ≤ 250 := fM_0_21 hT0
          have : 0 ≤ (gi (C 0) 7).toInt ∧ (gi (C 0) 7).toInt ≤ 250 := fM_0_7 hT0
          have : 0 ≤ (gi (C 0) 23).toInt ∧ (gi (C 0) 23).toInt ≤ 250 := fM_0_23 hT0
          have : 0 ≤ (gi (C 0) 13).toInt ∧ (gi (C 0) 13).toInt ≤ 5 := fM_0_13 hT0
          have : (5 : Int32).toInt = 5 := rfl
          have : (gi (C 0) 13).toInt < (5 : Int32).toInt := Int32.lt_iff_toInt_lt.mp (Int32.not_le.mp c_82)
          refine tm_V (As := [.ref (G (3 + 28)), .ref (a (64 + (gi (C 0) 13).toNatClampNeg)), .int 0, .int 2, .int 12]) (rest := []) ⟨hx, hb, hml, hown, htg⟩ (e_X7_told l D E G _ a C n hn hT 28 (64 + (gi (C 0) 13).toNatClampNeg) (0 : Int32) (2 : Int32) (12 : Int32) (by decide) (rg_w (rg_c (v := 2) (lo := 2) (hi := 2) (by decide)) (by decide)) (rg_w (rg_c (v := 12) (lo := 12) (hi := 12) (by decide)) (by decide)) ⟨(lt_blk b_148 hn (by decide)), (by omega), 3, fun C h => (h.bwaggon b_148).1, (rg_in (rg_c (v := 0) (lo := 0) (hi := 0) (by decide)) (by decide)), fun C v h h1 h2 => (h.upwaggon b_148 (tA_upd (h.bwaggon b_148) (tA_stc (k := 0) (by decide) (oh_rgle (lo := 0) (hi := 12) h1 h2 (by decide)) (by decide))))⟩ (by omega) hfg (by omega) (by omega)) (cwV 5 htg (oh_gV q_1234 q_1236 q_45 q_73 q_1237) rfl rfl rfl pdVX7_told ⟨Nat.le_of_ble_eq_true rfl, Nat.le_of_ble_eq_true rfl⟩) hK hP hD hG hS hA (va_recv hK hP (ci := 7) (q0 := 0) rfl (oh_wg (Nat.lt_of_lt_of_le (by decide) hn) (sM_0 hT))) rfl hl.1 rfl (Nat.le_of_ble_eq_true rfl) dX7_statement_99 ⟨Nat.le_of_ble_eq_true rfl, Nat.le_of_ble_eq_true rfl⟩ (fun r_149 C_150 H locs hq_151 hP hD hS => ?_)
          obtain ⟨hT, f_152, hq_151⟩ := hq_151
          have hF := fr_trk hF f_152 (inR_of (p := (64, 69)) (by decide) (by show 64 ≤ _; omega) (by show _ < 69; omega)) (by decide)
          refine W.widen (k := 0) (n := 0) (Nat.le_refl _) (Nat.le_refl _) ?_
          have t_153 := hT
          refine lv_if_eq (tgt := 133) hx hb dX7_statement_102 (by decide) (fun (c_154 : r_149 = 0) => ?_) (fun (c_154 : ¬ (r_149 = 0)) => ?_)
          · have u_155 := hq_151.2.2.2.2.2.2.1 c_154
            have u_156 := hq_151.2.2.2.2.2.2.2.1 c_154
            refine lv_iconst (v := 0) hx hb dX7_statement_133 (by decide) ?_
            have : (gi (C_150 0) 7).toInt = (gi (C 0) 7).toInt := congrArg (fun z => (vi z).toInt) (f_152.2 7 (by decide))
            have : (gi (C_150 0) 13).toInt = (gi (C 0) 13).toInt := congrArg (fun z => (vi z).toInt) (f_152.2 13 (by decide))
            have : 0 ≤ (gi (C_150 0) 21).toInt ∧ (gi (C_150 0) 21).toInt ≤ 250 := fM_0_21 t_153
            have : 0 ≤ (gi (C_150 0) 7).toInt ∧ (gi (C_150 0) 7).toInt ≤ 250 := fM_0_7 t_153
            have : 0 ≤ (gi (C_150 0) 23).toInt ∧ (gi (C_150 0) 23).toInt ≤ 250 := fM_0_23 t_153
            have : 0 ≤ (gi (C_150 0) 13).toInt ∧ (gi (C_150 0) 13).toInt ≤ 5 := fM_0_13 t_153
            have ho_157 : ∀ i, i ≠ (gi (C 0) 13).toNatClampNeg → C_150 (64 + i) = C (64 + i) := (fun i hne => (fr_at f_152 (by omega) (by omega)))
            rw [hQ]
            exact W.zret (v := 0) (ty := .boolean) hx hb hr (by decide) (fun t ht hW => ⟨⟨0, C_150, rfl, ⟨hT, hF, ⟨(Or.inl rfl), ⟨hq_151.2.1.1, hq_151.2.1.2⟩, (fun h9 => absurd rfl h9), (relW_row (w := (gi (C 0) 13).toNatClampNeg) hR f_152 (oh_nat (fM_0_13 hT0) (by decide)) (by decide)), (by omega), (fun A hA => ms_eq (rs_waggon_y (xw_n sw_road rfl u_4) (xw_n sw_bridge rfl u_8) (xw_f sw_waggon rfl u_81.2) (by rw [← hA.1 2 (by decide)]; exact (Int32.not_le.mp c_82))) (ms_row (t := 2) hT0 hA (by decide) (fun h9 => absurd rfl h9) (fun _ => ⟨mr_wag_e0 (tn_un (xw_f sw_waggon rfl u_81.2) (tn_f sw_waggon rfl u_155)), (congrArg vi (f_152.2 13 (by decide)))⟩) ho_157 (show fr [(64, 69)] [21, 22, 23, 24, 25] C C_150 from (fr_trk fr_rf f_152 (inR_of (p := (64, 69)) (by decide) (by show 64 ≤ _; omega) (by show _ < 69; omega)) (by decide))) (by decide) (by decide) (by decide))), hq_151.2.2.2.2.2.2.2.2.1, hq_151.2.2.2.2.2.2.2.2.2⟩⟩, ⟨by rw [ht]; exact hP, hD⟩⟩, hS.F ht⟩) hS.2.2 dX7_statement_134
          · have u_158 := hq_151.2.2.2.1 c_154
            have u_159 := hq_151.2.2.2.2.1 c_154
            have u_160 := hq_151.2.2.2.2.2.1 c_154
            refine lv_aload_n hx hb dX7_statement_105 rfl (lv_at hl 1 rfl) ?_
            refine va_ldcS hx hb hown (hG.2.2.1 ("OneHeavyLoadModel", 210, "space", 32) (List.mem_of_getElem? (i := 29) rfl)) dX7_statement_106 ?_
            refine lv_aload_n hx hb dX7_statement_108 rfl (lv_at hl 0 rfl) ?_
            refine lv_iconst (v := 1) hx hb dX7_statement_109 (by decide) ?_
            refine lv_iconst (v := 1) hx hb dX7_statement_110 (by decide) ?_
            refine lv_bipush (v := 9) hx hb dX7_statement_111 (by decide) ?_
            have : (gi (C_150 0) 7).toInt = (gi (C 0) 7).toInt := congrArg (fun z => (vi z).toInt) (f_152.2 7 (by decide))
            have : (gi (C_150 0) 13).toInt = (gi (C 0) 13).toInt := congrArg (fun z => (vi z).toInt) (f_152.2 13 (by decide))
            have : 0 ≤ (gi (C_150 0) 21).toInt ∧ (gi (C_150 0) 21).toInt ≤ 250 := fM_0_21 t_153
            have : 0 ≤ (gi (C_150 0) 7).toInt ∧ (gi (C_150 0) 7).toInt ≤ 250 := fM_0_7 t_153
            have : 0 ≤ (gi (C_150 0) 23).toInt ∧ (gi (C_150 0) 23).toInt ≤ 250 := fM_0_23 t_153
            have : 0 ≤ (gi (C_150 0) 13).toInt ∧ (gi (C_150 0) 13).toInt ≤ 5 := fM_0_13 t_153
            refine tm_V (As := [.ref (G (3 + 29)), .ref (a (64 + (gi (C 0) 13).toNatClampNeg)), .int 1, .int 1, .int 9]) (rest := []) ⟨hx, hb, hml, hown, htg⟩ (e_X7_told l D E G _ a C_150 n hn hT 29 (64 + (gi (C 0) 13).toNatClampNeg) (1 : Int32) (1 : Int32) (9 : Int32) (by decide) (rg_w (rg_c (v := 1) (lo := 1) (hi := 1) (by decide)) (by decide)) (rg_w (rg_c (v := 9) (lo := 9) (hi := 9) (by decide)) (by decide)) ⟨(lt_blk b_148 hn (by decide)), (by omega), 3, fun C h => (h.bwaggon b_148).1, (rg_in (rg_c (v := 1) (lo := 1) (hi := 1) (by decide)) (by decide)), fun C v h h1 h2 => (h.upwaggon b_148 (tA_upd (h.bwaggon b_148) (tA_stc (k := 1) (by decide) (oh_rgle (lo := 0) (hi := 9) h1 h2 (by decide)) (by decide))))⟩ (by omega) hq_151.2.2.2.2.2.2.2.2.1 (by omega) (by omega)) (cwV 5 htg (oh_gV q_1234 q_1236 q_45 q_73 q_1237) rfl rfl rfl pdVX7_told ⟨Nat.le_of_ble_eq_true rfl, Nat.le_of_ble_eq_true rfl⟩) hK hP hD hG hS hA (va_recv hK hP (ci := 7) (q0 := 0) rfl (oh_wg (Nat.lt_of_lt_of_le (by decide) hn) (sM_0 hT))) rfl hl.1 rfl (Nat.le_of_ble_eq_true rfl) dX7_statement_113 ⟨Nat.le_of_ble_eq_true rfl, Nat.le_of_ble_eq_true rfl⟩ (fun r_161 C_162 H locs hq_163 hP hD hS => ?_)
            obtain ⟨hT, f_164, hq_163⟩ := hq_163
            have hF := fr_trk hF f_164 (inR_of (p := (64, 69)) (by decide) (by show 64 ≤ _; omega) (by show _ < 69; omega)) (by decide)
            refine W.widen (k := 0) (n := 0) (Nat.le_refl _) (Nat.le_refl _) ?_
            have t_165 := hT
            refine lv_if_eq (tgt := 133) hx hb dX7_statement_116 (by decide) (fun (c_166 : r_161 = 0) => ?_) (fun (c_166 : ¬ (r_161 = 0)) => ?_)
            · have u_167 := hq_163.2.2.2.2.2.2.1 c_166
              have u_168 := hq_163.2.2.2.2.2.2.2.1 c_166
              refine lv_iconst (v := 0) hx hb dX7_statement_133 (by decide) ?_
              have : (gi (C_162 0) 7).toInt = (gi (C_150 0) 7).toInt := congrArg (fun z => (vi z).toInt) (f_164.2 7 (by decide))
              have : (gi (C_162 0) 13).toInt = (gi (C_150 0) 13).toInt := congrArg (fun z => (vi z).toInt) (f_164.2 13 (by decide))
              have : 0 ≤ (gi (C_162 0) 21).toInt ∧ (gi (C_162 0) 21).toInt ≤ 250 := fM_0_21 t_165
              have : 0 ≤ (gi (C_162 0) 7).toInt ∧ (gi (C_162 0) 7).toInt ≤ 250 := fM_0_7 t_165
              have : 0 ≤ (gi (C_162 0) 23).toInt ∧ (gi (C_162 0) 23).toInt ≤ 250 := fM_0_23 t_165
              have : 0 ≤ (gi (C_162 0) 13).toInt ∧ (gi (C_162 0) 13).toInt ≤ 5 := fM_0_13 t_165
              have ho_169 : ∀ i, i ≠ (gi (C 0) 13).toNatClampNeg → C_162 (64 + i) = C (64 + i) := (fun i hne => (Eq.trans (fr_at f_164 (by omega) (by omega)) (fr_at f_152 (by omega) (by omega))))
              rw [hQ]
              exact W.zret (v := 0) (ty := .boolean) hx hb hr (by decide) (fun t ht hW => ⟨⟨0, C_162, rfl, ⟨hT, hF, ⟨(Or.inl rfl), ⟨(by omega), hq_163.2.1.2⟩, (fun h9 => absurd rfl h9), (relW_row (w := (gi (C 0) 13).toNatClampNeg) (relW_row (w := (gi (C 0) 13).toNatClampNeg) hR f_152 (oh_nat (fM_0_13 hT0) (by decide)) (by decide)) f_164 (by rw [(show gi (C_150 0) 13 = gi (C 0) 13 from congrArg vi (f_152.2 13 (by decide)))]; exact oh_nat (fM_0_13 hT0) (by decide)) (by decide)), (by omega), (fun A hA => ms_eq (rs_waggon_y (xw_n sw_road rfl u_4) (xw_n sw_bridge rfl u_8) (xw_f sw_waggon rfl u_81.2) (by rw [← hA.1 2 (by decide)]; exact (Int32.not_le.mp c_82))) (ms_row (t := 2) hT0 hA (by decide) (fun h9 => absurd rfl h9) (fun _ => ⟨mr_wag_e1 (tn_un (xw_f sw_waggon rfl u_81.2) (tn_f sw_waggon rfl u_160)) (tn_f sw_space (congrArg ga (fr_at f_152 (by decide) (by omega))) u_167), (Eq.trans (congrArg vi (f_164.2 13 (by decide))) (congrArg vi (f_152.2 13 (by decide))))⟩) ho_169 (show fr [(64, 69)] [21, 22, 23, 24, 25] C C_162 from (fr_trk (fr_trk fr_rf f_152 (inR_of (p := (64, 69)) (by decide) (by show 64 ≤ _; omega) (by show _ < 69; omega)) (by decide)) f_164 (inR_of (p := (64, 69)) (by decide) (by show 64 ≤ _; omega) (by show _ < 69; omega)) (by decide))) (by decide) (by decide) (by decide))), hq_163.2.2.2.2.2.2.2.2.1, hq_163.2.2.2.2.2.2.2.2.2⟩⟩, ⟨by rw [ht]; exact hP, hD⟩⟩, hS.F ht⟩) hS.2.2 dX7_statement_134
            · have u_170 := hq_163.2.2.2.1 c_166
              have u_171 := hq_163.2.2.2.2.1 c_166
              have u_172 := hq_163.2.2.2.2.2.1 c_166
              refine lv_aload_n hx hb dX7_statement_119 rfl (lv_at hl 1 rfl) ?_
              refine va_ldcS hx hb hown (hG.2.2.1 ("OneHeavyLoadModel", 212, "tare", 33) (List.mem_of_getElem? (i := 30) rfl)) dX7_statement_120 ?_
              refine lv_aload_n hx hb dX7_statement_122 rfl (lv_at hl 0 rfl) ?_
              refine lv_iconst (v := 2) hx hb dX7_statement_123 (by decide) ?_
              refine lv_iconst (v := 0) hx hb dX7_statement_124 (by decide) ?_
              refine lv_bipush (v := 99) hx hb dX7_statement_125 (by decide) ?_
              have : (gi (C_162 0) 7).toInt = (gi (C_150 0) 7).toInt := congrArg (fun z => (vi z).toInt) (f_164.2 7 (by decide))
              have : (gi (C_162 0) 13).toInt = (gi (C_150 0) 13).toInt := congrArg (fun z => (vi z).toInt) (f_164.2 13 (by decide))
              have : 0 ≤ (gi (C_162 0) 21).toInt ∧ (gi (C_162 0) 21).toInt ≤ 250 := fM_0_21 t_165
              have : 0 ≤ (gi (C_162 0) 7).toInt ∧ (gi (C_162 0) 7).toInt ≤ 250 := fM_0_7 t_165
              have : 0 ≤ (gi (C_162 0) 23).toInt ∧ (gi (C_162 0) 23).toInt ≤ 250 := fM_0_23 t_165
              have : 0 ≤ (gi (C_162 0) 13).toInt ∧ (gi (C_162 0) 13).toInt ≤ 5 := fM_0_13 t_165
              refine tm_V (As := [.ref (G (3 + 30)), .ref (a (64 + (gi (C 0) 13).toNatClampNeg)), .int 2, .int 0, .int 99]) (rest := []) ⟨hx, hb, hml, hown, htg⟩ (e_X7_told l D E G _ a C_162 n hn hT 30 (64 + (gi (C 0) 13).toNatClampNeg) (2 : Int32) (0 : Int32) (99 : Int32) (by decide) (rg_w (rg_c (v := 0) (lo := 0) (hi := 0) (by decide)) (by decide)) (rg_w (rg_c (v := 99) (lo := 99) (hi := 99) (by decide)) (by decide)) ⟨(lt_blk b_148 hn (by decide)), (by omega), 3, fun C h => (h.bwaggon b_148).1, (rg_in (rg_c (v := 2) (lo := 2) (hi := 2) (by decide)) (by decide)), fun C v h h1 h2 => (h.upwaggon b_148 (tA_upd (h.bwaggon b_148) (tA_stc (k := 2) (by decide) (rg_any _) (by decide))))⟩ (by omega) hq_163.2.2.2.2.2.2.2.2.1 (by omega) (by omega)) (cwV 5 htg (oh_gV q_1234 q_1236 q_45 q_73 q_1237) rfl rfl rfl pdVX7_told ⟨Nat.le_of_ble_eq_true rfl, Nat.le_of_ble_eq_true rfl⟩) hK hP hD hG hS hA (va_recv hK hP (ci := 7) (q0 := 0) rfl (oh_wg (Nat.lt_of_lt_of_le (by decide) hn) (sM_0 hT))) rfl hl.1 rfl (Nat.le_of_ble_eq_true rfl) dX7_statement_127 ⟨Nat.le_of_ble_eq_true rfl, Nat.le_of_ble_eq_true rfl⟩ (fun r_173 C_174 H locs hq_175 hP hD hS => ?_)
              obtain ⟨hT, f_176, hq_175⟩ := hq_175
              have hF := fr_trk hF f_176 (inR_of (p := (64, 69)) (by decide) (by show 64 ≤ _; omega) (by show _ < 69; omega)) (by decide)
              refine W.widen (k := 0) (n := 0) (Nat.le_refl _) (Nat.le_refl _) ?_
              have t_177 := hT
              refine lv_if_ne (tgt := 135) hx hb dX7_statement_130 (by decide) (fun (c_178 : ¬ (r_173 = 0)) => ?_) (fun (c_178 : r_173 = 0) => ?_)
              · have u_179 := hq_175.2.2.2.1 c_178
                have u_180 := hq_175.2.2.2.2.1 c_178
                have u_181 := hq_175.2.2.2.2.2.1 c_178
                refine lv_aload_n hx hb dX7_statement_135 rfl (lv_at hl 1 rfl) ?_
                refine lv_dup hx hb dX7_statement_136 rfl ?_
                refine va_get (D := D) (ci := 7) (v := .int (gi (C 0) 13)) (C := RX7) (T := TX7) (N := 29) hx hb htg ig_7 hown hK hP 0 (oh_wg (Nat.lt_of_lt_of_le (by decide) hn) (sM_0 hT)) rfl 13 (by decide) (htg _ q_986) (fun _ h9 => h9) (oh_fv (c := C_174 0) (j := 13) rfl (Eq.trans (congrArg vi (f_176.2 13 (by decide))) (Eq.trans (congrArg vi (f_164.2 13 (by decide))) (congrArg vi (f_152.2 13 (by decide)))))) dX7_statement_137 ?_
                refine lv_iconst (v := 1) hx hb dX7_statement_140 (by decide) ?_
                refine lv_iadd hx hb dX7_statement_141 ?_
                refine th_put (Tp := TyM a E) (Rl := fr [(13, 14), (24, 48), (48, 64), (64, 69), (69, 74)] [9, 11, 13, 15, 21, 22, 23, 24, 25] C) (ci := 7) (v := .int ((gi (C 0) 13) + 1)) (ty := .int) (CC := RX7) (T := TX7) (N := 29) hx hb htg ig_7 tyX7 tyX7_ok nmX7 hown hK hP hD hS 0 (Nat.lt_of_lt_of_le (by decide) hn) (sM_0 hT) rfl 13 (by decide) (htg _ q_986) (fun _ h9 => h9) rfl (by decide +kernel) rfl rfl (Nat.le_of_ble_eq_true rfl) (hT.up 0 (by decide) ⟨rfl, (fM_0_7 hT), (fM_0_9 hT), (fM_0_11 hT), (rg_w (rg_add (lo := 1) (hi := 5) (rn_ltu (u' := 4) (Int32.not_le.mp c_82) (fM_0_13 hT0) (rg_c (v := 5) (lo := 5) (hi := 5) (by decide)) (by decide)) (rg_c (v := 1) (lo := 1) (hi := 1) (by decide)) (by decide)) (by decide)), (fM_0_15 hT), (fM_0_21 hT), (fM_0_23 hT)⟩) (fr_fd hF (sM_0 hT) (by decide)) dX7_statement_142 (fun C_182 H locs e_183 hT hF hP hD hS => ?_)
                have t_184 := hT
                refine lv_iconst (v := 1) hx hb dX7_statement_145 (by decide) ?_
                have : (gi (C_174 0) 7).toInt = (gi (C_162 0) 7).toInt := congrArg (fun z => (vi z).toInt) (f_176.2 7 (by decide))
                have : (gi (C_174 0) 13).toInt = (gi (C_162 0) 13).toInt := congrArg (fun z => (vi z).toInt) (f_176.2 13 (by decide))
                have : (gi (C_182 0) 21).toInt = (gi (C_174 0) 21).toInt := congrArg Int32.toInt (show gi (C_182 0) 21 = gi (C_174 0) 21 by rw [e_183]; rfl)
                have : (gi (C_182 0) 7).toInt = (gi (C_174 0) 7).toInt := congrArg Int32.toInt (show gi (C_182 0) 7 = gi (C_174 0) 7 by rw [e_183]; rfl)
                have : (gi (C_182 0) 23).toInt = (gi (C_174 0) 23).toInt := congrArg Int32.toInt (show gi (C_182 0) 23 = gi (C_174 0) 23 by rw [e_183]; rfl)
                have : (gi (C_182 0) 13).toInt = ((gi (C 0) 13) + 1).toInt := congrArg Int32.toInt (show gi (C_182 0) 13 = ((gi (C 0) 13) + 1) by rw [e_183]; rfl)
                have : ((gi (C 0) 13) + 1).toInt = (gi (C 0) 13).toInt + 1 := oh_incr (rn_ltu (u' := 4) (Int32.not_le.mp c_82) (fM_0_13 hT0) (rg_c (v := 5) (lo := 5) (hi := 5) (by decide)) (by decide)) (by decide)
                have : 0 ≤ (gi (C_174 0) 21).toInt ∧ (gi (C_174 0) 21).toInt ≤ 250 := fM_0_21 t_177
                have : 0 ≤ (gi (C_174 0) 7).toInt ∧ (gi (C_174 0) 7).toInt ≤ 250 := fM_0_7 t_177
                have : 0 ≤ (gi (C_174 0) 23).toInt ∧ (gi (C_174 0) 23).toInt ≤ 250 := fM_0_23 t_177
                have : 0 ≤ (gi (C_174 0) 13).toInt ∧ (gi (C_174 0) 13).toInt ≤ 5 := fM_0_13 t_177
                have : 0 ≤ (gi (C_182 0) 21).toInt ∧ (gi (C_182 0) 21).toInt ≤ 250 := fM_0_21 t_184
                have : 0 ≤ (gi (C_182 0) 7).toInt ∧ (gi (C_182 0) 7).toInt ≤ 250 := fM_0_7 t_184
                have : 0 ≤ (gi (C_182 0) 23).toInt ∧ (gi (C_182 0) 23).toInt ≤ 250 := fM_0_23 t_184
                have : 0 ≤ (gi (C_182 0) 13).toInt ∧ (gi (C_182 0) 13).toInt ≤ 5 := fM_0_13 t_184
                have ho_185 : ∀ i, i ≠ (gi (C 0) 13).toNatClampNeg → C_182 (64 + i) = C (64 + i) := (fun i hne => (Eq.trans (th_un e_183 (by omega)) (Eq.trans (fr_at f_176 (by omega) (by omega)) (Eq.trans (fr_at f_164 (by omega) (by omega)) (fr_at f_152 (by omega) (by omega))))))
                have hrw_186 : ∀ j, j < 3 → ga (C_182 (64 + (gi (C 0) 13).toNatClampNeg)) j = rwf [ga (C_150 (64 + (gi (C 0) 13).toNatClampNeg)) ((0 : Int32)).toNatClampNeg, ga (C_162 (64 + (gi (C 0) 13).toNatClampNeg)) ((1 : Int32)).toNatClampNeg, ga (C_174 (64 + (gi (C 0) 13).toNatClampNeg)) ((2 : Int32)).toNatClampNeg] j := rows3 (Eq.trans (congrArg (fun z => ga z ((0 : Int32)).toNatClampNeg) (th_un e_183 (by omega))) (Eq.trans (hq_175.2.2.1 ((0 : Int32)).toNatClampNeg (by decide)) (hq_163.2.2.1 ((0 : Int32)).toNatClampNeg (by decide)))) (Eq.trans (congrArg (fun z => ga z ((1 : Int32)).toNatClampNeg) (th_un e_183 (by omega))) (hq_175.2.2.1 ((1 : Int32)).toNatClampNeg (by decide))) (congrArg (fun z => ga z ((2 : Int32)).toNatClampNeg) (th_un e_183 (by omega)))
                rw [hQ]
                exact W.zret (v := 1) (ty := .boolean) hx hb hr (by decide) (fun t ht hW => ⟨⟨1, C_182, rfl, ⟨hT, hF, ⟨(Or.inr rfl), ⟨(by omega), (by omega)⟩, (fun _ => (by omega)), (relW_inc (w := (gi (C 0) 13).toNatClampNeg) (relW_row (w := (gi (C 0) 13).toNatClampNeg) (relW_row (w := (gi (C 0) 13).toNatClampNeg) (relW_row (w := (gi (C 0) 13).toNatClampNeg) hR f_152 (oh_nat (fM_0_13 hT0) (by decide)) (by decide)) f_164 (by rw [(show gi (C_150 0) 13 = gi (C 0) 13 from congrArg vi (f_152.2 13 (by decide)))]; exact oh_nat (fM_0_13 hT0) (by decide)) (by decide)) f_176 (by rw [(Eq.trans (show gi (C_162 0) 13 = gi (C_150 0) 13 from congrArg vi (f_164.2 13 (by decide))) (show gi (C_150 0) 13 = gi (C 0) 13 from congrArg vi (f_152.2 13 (by decide))))]; exact oh_nat (fM_0_13 hT0) (by decide)) (by decide)) (by rw [(Eq.trans (show gi (C_174 0) 13 = gi (C_162 0) 13 from congrArg vi (f_176.2 13 (by decide))) (Eq.trans (show gi (C_162 0) 13 = gi (C_150 0) 13 from congrArg vi (f_164.2 13 (by decide))) (show gi (C_150 0) 13 = gi (C 0) 13 from congrArg vi (f_152.2 13 (by decide)))))]; exact oh_nat (fM_0_13 hT0) (by decide)) (fun k hk => th_un e_183 hk) (Eq.trans (congrArg Int32.toInt (show gi (C_182 0) 13 = (gi (C 0) 13) + 1 by rw [e_183]; rfl)) (by rw [(Eq.trans (show gi (C_174 0) 13 = gi (C_162 0) 13 from congrArg vi (f_176.2 13 (by decide))) (Eq.trans (show gi (C_162 0) 13 = gi (C_150 0) 13 from congrArg vi (f_164.2 13 (by decide))) (show gi (C_150 0) 13 = gi (C 0) 13 from congrArg vi (f_152.2 13 (by decide)))))]; exact oh_inc13 (fM_0_13 hT0))) (by rw [hq_175.2.2.1 _ (by decide), hq_163.2.2.1 _ (by decide)]; exact Int.le_trans (by decide) u_158) (by rw [hq_175.2.2.1 _ (by decide)]; exact Int.le_trans (by decide) u_170)), (by omega), (fun A hA => ms_eq (rs_waggon_y (xw_n sw_road rfl u_4) (xw_n sw_bridge rfl u_8) (xw_f sw_waggon rfl u_81.2) (by rw [← hA.1 2 (by decide)]; exact (Int32.not_le.mp c_82))) (ms_row (t := 2) hT0 hA (by decide) (fun _ => ⟨_, Eq.trans (mr_wag_ok (tn_un (xw_f sw_waggon rfl u_81.2) (tn_f sw_waggon rfl u_160)) (tn_f sw_space (congrArg ga (fr_at f_152 (by decide) (by omega))) u_172) (tn_f sw_tare (congrArg ga (Eq.trans (fr_at f_164 (by decide) (by omega)) (fr_at f_152 (by decide) (by omega)))) u_181)) (congrArg (fun z => Except.ok (_, z)) (pm_fd (j := 13) e_183 (sM_0 t_177) (by decide)).symm), hrw_186, (show gi (C_182 0) 13 = ((gi (C 0) 13) + 1) by rw [e_183]; rfl)⟩) (fun h9 => absurd h9 (by decide)) ho_185 (show fr [(64, 69)] [13, 21, 22, 23, 24, 25] C C_182 from (fr_fde (fr_trk (fr_trk (fr_trk fr_rf f_152 (inR_of (p := (64, 69)) (by decide) (by show 64 ≤ _; omega) (by show _ < 69; omega)) (by decide)) f_164 (inR_of (p := (64, 69)) (by decide) (by show 64 ≤ _; omega) (by show _ < 69; omega)) (by decide)) f_176 (inR_of (p := (64, 69)) (by decide) (by show 64 ≤ _; omega) (by show _ < 69; omega)) (by decide)) e_183 (sM_0 t_177) (by decide))) (by decide) (by decide) (by decide))), (fgF (j := 13) hq_175.2.2.2.2.2.2.2.2.1 e_183 (sM_0 t_177) (by decide)), (by omega)⟩⟩, ⟨by rw [ht]; exact hP, hD⟩⟩, hS.F ht⟩) hS.2.2 dX7_statement_146
              · have u_187 := hq_175.2.2.2.2.2.2.1 c_178
                have u_188 := hq_175.2.2.2.2.2.2.2.1 c_178
                refine lv_iconst (v := 0) hx hb dX7_statement_133 (by decide) ?_
                have : (gi (C_174 0) 7).toInt = (gi (C_162 0) 7).toInt := congrArg (fun z => (vi z).toInt) (f_176.2 7 (by decide))
                have : (gi (C_174 0) 13).toInt = (gi (C_162 0) 13).toInt := congrArg (fun z => (vi z).toInt) (f_176.2 13 (by decide))
                have : 0 ≤ (gi (C_174 0) 21).toInt ∧ (gi (C_174 0) 21).toInt ≤ 250 := fM_0_21 t_177
                have : 0 ≤ (gi (C_174 0) 7).toInt ∧ (gi (C_174 0) 7).toInt ≤ 250 := fM_0_7 t_177
                have : 0 ≤ (gi (C_174 0) 23).toInt ∧ (gi (C_174 0) 23).toInt ≤ 250 := fM_0_23 t_177
                have : 0 ≤ (gi (C_174 0) 13).toInt ∧ (gi (C_174 0) 13).toInt ≤ 5 := fM_0_13 t_177
                have ho_189 : ∀ i, i ≠ (gi (C 0) 13).toNatClampNeg → C_174 (64 + i) = C (64 + i) := (fun i hne => (Eq.trans (fr_at f_176 (by omega) (by omega)) (Eq.trans (fr_at f_164 (by omega) (by omega)) (fr_at f_152 (by omega) (by omega)))))
                rw [hQ]
                exact W.zret (v := 0) (ty := .boolean) hx hb hr (by decide) (fun t ht hW => ⟨⟨0, C_174, rfl, ⟨hT, hF, ⟨(Or.inl rfl), ⟨(by omega), hq_175.2.1.2⟩, (fun h9 => absurd rfl h9), (relW_row (w := (gi (C 0) 13).toNatClampNeg) (relW_row (w := (gi (C 0) 13).toNatClampNeg) (relW_row (w := (gi (C 0) 13).toNatClampNeg) hR f_152 (oh_nat (fM_0_13 hT0) (by decide)) (by decide)) f_164 (by rw [(show gi (C_150 0) 13 = gi (C 0) 13 from congrArg vi (f_152.2 13 (by decide)))]; exact oh_nat (fM_0_13 hT0) (by decide)) (by decide)) f_176 (by rw [(Eq.trans (show gi (C_162 0) 13 = gi (C_150 0) 13 from congrArg vi (f_164.2 13 (by decide))) (show gi (C_150 0) 13 = gi (C 0) 13 from congrArg vi (f_152.2 13 (by decide))))]; exact oh_nat (fM_0_13 hT0) (by decide)) (by decide)), (by omega), (fun A hA => ms_eq (rs_waggon_y (xw_n sw_road rfl u_4) (xw_n sw_bridge rfl u_8) (xw_f sw_waggon rfl u_81.2) (by rw [← hA.1 2 (by decide)]; exact (Int32.not_le.mp c_82))) (ms_row (t := 2) hT0 hA (by decide) (fun h9 => absurd rfl h9) (fun _ => ⟨mr_wag_e2 (tn_un (xw_f sw_waggon rfl u_81.2) (tn_f sw_waggon rfl u_160)) (tn_f sw_space (congrArg ga (fr_at f_152 (by decide) (by omega))) u_172) (tn_f sw_tare (congrArg ga (Eq.trans (fr_at f_164 (by decide) (by omega)) (fr_at f_152 (by decide) (by omega)))) u_187), (Eq.trans (congrArg vi (f_176.2 13 (by decide))) (Eq.trans (congrArg vi (f_164.2 13 (by decide))) (congrArg vi (f_152.2 13 (by decide)))))⟩) ho_189 (show fr [(64, 69)] [21, 22, 23, 24, 25] C C_174 from (fr_trk (fr_trk (fr_trk fr_rf f_152 (inR_of (p := (64, 69)) (by decide) (by show 64 ≤ _; omega) (by show _ < 69; omega)) (by decide)) f_164 (inR_of (p := (64, 69)) (by decide) (by show 64 ≤ _; omega) (by show _ < 69; omega)) (by decide)) f_176 (inR_of (p := (64, 69)) (by decide) (by show 64 ≤ _; omega) (by show _ < 69; omega)) (by decide))) (by decide) (by decide) (by decide))), hq_175.2.2.2.2.2.2.2.2.1, hq_175.2.2.2.2.2.2.2.2.2⟩⟩, ⟨by rw [ht]; exact hP, hD⟩⟩, hS.F ht⟩) hS.2.2 dX7_statement_134
    · have u_190 := hq_6.2.1 c_7
      refine lv_aload_n hx hb dX7_statement_41 rfl (lv_at hl 0 rfl) ?_
      refine va_get (D := D) (ci := 7) (v := .int (gi (C 0) 11)) (C := RX7) (T := TX7) (N := 29) hx hb htg ig_7 hown hK hP 0 (oh_wg (Nat.lt_of_lt_of_le (by decide) hn) (sM_0 hT)) rfl 11 (by decide) (htg _ q_984) (fun _ h9 => h9) rfl dX7_statement_42 ?_
      refine lv_bipush (v := 16) hx hb dX7_statement_45 (by decide) ?_
      refine lv_icmp_ge (tgt := 64) hx hb dX7_statement_47 (by decide) (fun (c_191 : (16 : Int32) ≤ (gi (C 0) 11)) => ?_) (fun (c_191 : ¬ ((16 : Int32) ≤ (gi (C 0) 11))) => ?_)
      · refine lv_aload_n hx hb dX7_statement_64 rfl (lv_at hl 0 rfl) ?_
        refine va_ldcS hx hb hown (hG.2.2.1 ("OneHeavyLoadModel", 209, "waggon", 31) (List.mem_of_getElem? (i := 28) rfl)) dX7_statement_65 ?_
        refine tq_V (As := [.ref (G (3 + 28))]) (rest := []) (ws := (oh_W n a C)) ⟨hx, hb, hml, hown, htg⟩ (e_X7_isWord l D E G a C n hn hT 28 (by decide)) (cwV 1 htg (oh_gV q_1215 q_1217 q_41 q_73 q_1218) rfl rfl rfl pdVX7_isWord ⟨Nat.le_of_ble_eq_true rfl, Nat.le_of_ble_eq_true rfl⟩) hK hP hG hS (va_recv hK hP (ci := 7) (q0 := 0) rfl (oh_wg (Nat.lt_of_lt_of_le (by decide) hn) (sM_0 hT))) rfl hl.1 rfl (Nat.le_of_ble_eq_true rfl) dX7_statement_67 ⟨Nat.le_of_ble_eq_true rfl, Nat.le_of_ble_eq_true rfl⟩ (fun r_192 hq_193 => ?_)
        refine lv_if_eq (tgt := 147) hx hb dX7_statement_70 (by decide) (fun (c_194 : r_192 = 0) => ?_) (fun (c_194 : ¬ (r_192 = 0)) => ?_)
        · have u_195 := hq_193.2.2 c_194
          refine lv_aload_n hx hb dX7_statement_147 rfl (lv_at hl 0 rfl) ?_
          refine va_ldcS hx hb hown (hG.2.2.1 ("OneHeavyLoadModel", 214, "part", 34) (List.mem_of_getElem? (i := 31) rfl)) dX7_statement_148 ?_
          refine tq_V (As := [.ref (G (3 + 31))]) (rest := []) (ws := (oh_W n a C)) ⟨hx, hb, hml, hown, htg⟩ (e_X7_isWord l D E G a C n hn hT 31 (by decide)) (cwV 1 htg (oh_gV q_1215 q_1217 q_41 q_73 q_1218) rfl rfl rfl pdVX7_isWord ⟨Nat.le_of_ble_eq_true rfl, Nat.le_of_ble_eq_true rfl⟩) hK hP hG hS (va_recv hK hP (ci := 7) (q0 := 0) rfl (oh_wg (Nat.lt_of_lt_of_le (by decide) hn) (sM_0 hT))) rfl hl.1 rfl (Nat.le_of_ble_eq_true rfl) dX7_statement_150 ⟨Nat.le_of_ble_eq_true rfl, Nat.le_of_ble_eq_true rfl⟩ (fun r_196 hq_197 => ?_)
          refine lv_if_eq (tgt := 220) hx hb dX7_statement_153 (by decide) (fun (c_198 : r_196 = 0) => ?_) (fun (c_198 : ¬ (r_196 = 0)) => ?_)
          · have u_199 := hq_197.2.2 c_198
            refine lv_aload_n hx hb dX7_statement_220 rfl (lv_at hl 0 rfl) ?_
            refine va_ldcS hx hb hown (hG.2.2.1 ("OneHeavyLoadModel", 215, "load", 35) (List.mem_of_getElem? (i := 32) rfl)) dX7_statement_221 ?_
            refine tq_V (As := [.ref (G (3 + 32))]) (rest := []) (ws := (oh_W n a C)) ⟨hx, hb, hml, hown, htg⟩ (e_X7_isWord l D E G a C n hn hT 32 (by decide)) (cwV 1 htg (oh_gV q_1215 q_1217 q_41 q_73 q_1218) rfl rfl rfl pdVX7_isWord ⟨Nat.le_of_ble_eq_true rfl, Nat.le_of_ble_eq_true rfl⟩) hK hP hG hS (va_recv hK hP (ci := 7) (q0 := 0) rfl (oh_wg (Nat.lt_of_lt_of_le (by decide) hn) (sM_0 hT))) rfl hl.1 rfl (Nat.le_of_ble_eq_true rfl) dX7_statement_223 ⟨Nat.le_of_ble_eq_true rfl, Nat.le_of_ble_eq_true rfl⟩ (fun r_200 hq_201 => ?_)
            refine lv_if_eq (tgt := 245) hx hb dX7_statement_226 (by decide) (fun (c_202 : r_200 = 0) => ?_) (fun (c_202 : ¬ (r_200 = 0)) => ?_)
            · have u_203 := hq_201.2.2 c_202
              refine lv_aload_n hx hb dX7_statement_245 rfl (lv_at hl 0 rfl) ?_
              refine va_ldcS hx hb hown (hG.2.2.1 ("OneHeavyLoadModel", 217, "mile", 36) (List.mem_of_getElem? (i := 33) rfl)) dX7_statement_246 ?_
              refine lv_aload_n hx hb dX7_statement_248 rfl (lv_at hl 0 rfl) ?_
              refine va_get (D := D) (ci := 7) (v := .ref (a 13)) (C := RX7) (T := TX7) (N := 29) hx hb htg ig_7 hown hK hP 0 (oh_wg (Nat.lt_of_lt_of_le (by decide) hn) (sM_0 hT)) rfl 17 (by decide) (htg _ q_990) (fun _ h9 => h9) rfl dX7_statement_249 ?_
              refine lv_iconst (v := 1) hx hb dX7_statement_252 (by decide) ?_
              refine lv_iconst (v := 0) hx hb dX7_statement_253 (by decide) ?_
              refine lv_bipush (v := 99) hx hb dX7_statement_254 (by decide) ?_
              have : 0 ≤ (gi (C 0) 21).toInt ∧ (gi (C 0) 21).toInt ≤ 250 := fM_0_21 hT0
              have : 0 ≤ (gi (C 0) 7).toInt ∧ (gi (C 0) 7).toInt ≤ 250 := fM_0_7 hT0
              have : 0 ≤ (gi (C 0) 23).toInt ∧ (gi (C 0) 23).toInt ≤ 250 := fM_0_23 hT0
              have : 0 ≤ (gi (C 0) 13).toInt ∧ (gi (C 0) 13).toInt ≤ 5 := fM_0_13 hT0
              have : (16 : Int32).toInt = 16 := rfl
              have : (16 : Int32).toInt ≤ (gi (C 0) 11).toInt := Int32.le_iff_toInt_le.mp c_191
              refine tm_V (As := [.ref (G (3 + 33)), .ref (a 13), .int 1, .int 0, .int 99]) (rest := []) ⟨hx, hb, hml, hown, htg⟩ (e_X7_told l D E G _ a C n hn hT 33 13 (1 : Int32) (0 : Int32) (99 : Int32) (by decide) (rg_w (rg_c (v := 0) (lo := 0) (hi := 0) (by decide)) (by decide)) (rg_w (rg_c (v := 99) (lo := 99) (hi := 99) (by decide)) (by decide)) ⟨(Nat.lt_of_lt_of_le (by decide) hn), (by decide), 3, fun C h => (sM_13 h), (rg_in (rg_c (v := 1) (lo := 1) (hi := 1) (by decide)) (by decide)), fun C v h h1 h2 => (h.up 13 (by decide) (tA_upd (tM_13 h) tA_any))⟩ (by omega) hfg (by omega) (by decide)) (cwV 5 htg (oh_gV q_1234 q_1236 q_45 q_73 q_1237) rfl rfl rfl pdVX7_told ⟨Nat.le_of_ble_eq_true rfl, Nat.le_of_ble_eq_true rfl⟩) hK hP hD hG hS hA (va_recv hK hP (ci := 7) (q0 := 0) rfl (oh_wg (Nat.lt_of_lt_of_le (by decide) hn) (sM_0 hT))) rfl hl.1 rfl (Nat.le_of_ble_eq_true rfl) dX7_statement_256 ⟨Nat.le_of_ble_eq_true rfl, Nat.le_of_ble_eq_true rfl⟩ (fun r_204 C_205 H locs hq_206 hP hD hS => ?_)
              obtain ⟨hT, f_207, hq_206⟩ := hq_206
              have hF := fr_trk hF f_207 (by decide) (by decide)
              refine W.widen (k := 0) (n := 0) (Nat.le_refl _) (Nat.le_refl _) ?_
              have t_208 := hT
              have : (gi (C_205 0) 7).toInt = (gi (C 0) 7).toInt := congrArg (fun z => (vi z).toInt) (f_207.2 7 (by decide))
              have : (gi (C_205 0) 13).toInt = (gi (C 0) 13).toInt := congrArg (fun z => (vi z).toInt) (f_207.2 13 (by decide))
              have : 0 ≤ (gi (C_205 0) 21).toInt ∧ (gi (C_205 0) 21).toInt ≤ 250 := fM_0_21 t_208
              have : 0 ≤ (gi (C_205 0) 7).toInt ∧ (gi (C_205 0) 7).toInt ≤ 250 := fM_0_7 t_208
              have : 0 ≤ (gi (C_205 0) 23).toInt ∧ (gi (C_205 0) 23).toInt ≤ 250 := fM_0_23 t_208
              have : 0 ≤ (gi (C_205 0) 13).toInt ∧ (gi (C_205 0) 13).toInt ≤ 5 := fM_0_13 t_208
              rw [hQ]
              exact W.zret (v := r_204) (ty := .boolean) hx hb hr (oh_nb hq_206.1) (fun t ht hW => ⟨⟨r_204, C_205, rfl, ⟨hT, hF, ⟨hq_206.1, ⟨hq_206.2.1.1, hq_206.2.1.2⟩, (fun h9 => (hq_206.2.2.2.2.1 h9)), (RelW.fr hR (fr_trk (mc := [(13, 14)]) (mf := [21, 22, 23, 24, 25]) fr_rf f_207 (by decide) (by decide)) (by decide)), (by omega), (fun A hA => ms_eq (rs_bridge_n (xw_n sw_road rfl u_4) (xw_f sw_bridge rfl u_190.2) (by rw [← hA.1 1 (by decide)]; exact (Int32.not_lt.mpr c_191))) (ms_no (j := 16) (hi := 99) hT0 hA (xw_n sw_mile rfl (XIs_x (by decide) (by decide) (by decide) u_190.2)) (fun h7 => ⟨_, tn_f sw_mile rfl (hq_206.2.2.2.2.2.1 h7)⟩) (fun h7 => tn_f sw_mile rfl (hq_206.2.2.2.2.2.2.1 h7)) hq_206.2.2.2.2.2.2.2.1 f_207 (by decide) (by decide))), hq_206.2.2.2.2.2.2.2.2.1, hq_206.2.2.2.2.2.2.2.2.2⟩⟩, ⟨by rw [ht]; exact hP, hD⟩⟩, hS.F ht⟩) hS.2.2 dX7_statement_259
            · have u_209 := hq_201.2.1 c_202
              refine lv_aload_n hx hb dX7_statement_229 rfl (lv_at hl 0 rfl) ?_
              refine va_ldcS hx hb hown (hG.2.2.1 ("OneHeavyLoadModel", 215, "load", 35) (List.mem_of_getElem? (i := 32) rfl)) dX7_statement_230 ?_
              refine lv_aload_n hx hb dX7_statement_232 rfl (lv_at hl 0 rfl) ?_
              refine va_get (D := D) (ci := 7) (v := .ref (a 13)) (C := RX7) (T := TX7) (N := 29) hx hb htg ig_7 hown hK hP 0 (oh_wg (Nat.lt_of_lt_of_le (by decide) hn) (sM_0 hT)) rfl 17 (by decide) (htg _ q_990) (fun _ h9 => h9) rfl dX7_statement_233 ?_
              refine lv_iconst (v := 0) hx hb dX7_statement_236 (by decide) ?_
              refine lv_iconst (v := 0) hx hb dX7_statement_237 (by decide) ?_
              refine lv_sipush (v := 900) hx hb dX7_statement_238 (by decide) ?_
              have : 0 ≤ (gi (C 0) 21).toInt ∧ (gi (C 0) 21).toInt ≤ 250 := fM_0_21 hT0
              have : 0 ≤ (gi (C 0) 7).toInt ∧ (gi (C 0) 7).toInt ≤ 250 := fM_0_7 hT0
              have : 0 ≤ (gi (C 0) 23).toInt ∧ (gi (C 0) 23).toInt ≤ 250 := fM_0_23 hT0
              have : 0 ≤ (gi (C 0) 13).toInt ∧ (gi (C 0) 13).toInt ≤ 5 := fM_0_13 hT0
              have : (16 : Int32).toInt = 16 := rfl
              have : (16 : Int32).toInt ≤ (gi (C 0) 11).toInt := Int32.le_iff_toInt_le.mp c_191
              refine tm_V (As := [.ref (G (3 + 32)), .ref (a 13), .int 0, .int 0, .int 900]) (rest := []) ⟨hx, hb, hml, hown, htg⟩ (e_X7_told l D E G _ a C n hn hT 32 13 (0 : Int32) (0 : Int32) (900 : Int32) (by decide) (rg_w (rg_c (v := 0) (lo := 0) (hi := 0) (by decide)) (by decide)) (rg_w (rg_c (v := 900) (lo := 900) (hi := 900) (by decide)) (by decide)) ⟨(Nat.lt_of_lt_of_le (by decide) hn), (by decide), 3, fun C h => (sM_13 h), (rg_in (rg_c (v := 0) (lo := 0) (hi := 0) (by decide)) (by decide)), fun C v h h1 h2 => (h.up 13 (by decide) (tA_upd (tM_13 h) tA_any))⟩ (by omega) hfg (by omega) (by decide)) (cwV 5 htg (oh_gV q_1234 q_1236 q_45 q_73 q_1237) rfl rfl rfl pdVX7_told ⟨Nat.le_of_ble_eq_true rfl, Nat.le_of_ble_eq_true rfl⟩) hK hP hD hG hS hA (va_recv hK hP (ci := 7) (q0 := 0) rfl (oh_wg (Nat.lt_of_lt_of_le (by decide) hn) (sM_0 hT))) rfl hl.1 rfl (Nat.le_of_ble_eq_true rfl) dX7_statement_241 ⟨Nat.le_of_ble_eq_true rfl, Nat.le_of_ble_eq_true rfl⟩ (fun r_210 C_211 H locs hq_212 hP hD hS => ?_)
              obtain ⟨hT, f_213, hq_212⟩ := hq_212
              have hF := fr_trk hF f_213 (by decide) (by decide)
              refine W.widen (k := 0) (n := 0) (Nat.le_refl _) (Nat.le_refl _) ?_
              have t_214 := hT
              have : (gi (C_211 0) 7).toInt = (gi (C 0) 7).toInt := congrArg (fun z => (vi z).toInt) (f_213.2 7 (by decide))
              have : (gi (C_211 0) 13).toInt = (gi (C 0) 13).toInt := congrArg (fun z => (vi z).toInt) (f_213.2 13 (by decide))
              have : 0 ≤ (gi (C_211 0) 21).toInt ∧ (gi (C_211 0) 21).toInt ≤ 250 := fM_0_21 t_214
              have : 0 ≤ (gi (C_211 0) 7).toInt ∧ (gi (C_211 0) 7).toInt ≤ 250 := fM_0_7 t_214
              have : 0 ≤ (gi (C_211 0) 23).toInt ∧ (gi (C_211 0) 23).toInt ≤ 250 := fM_0_23 t_214
              have : 0 ≤ (gi (C_211 0) 13).toInt ∧ (gi (C_211 0) 13).toInt ≤ 5 := fM_0_13 t_214
              rw [hQ]
              exact W.zret (v := r_210) (ty := .boolean) hx hb hr (oh_nb hq_212.1) (fun t ht hW => ⟨⟨r_210, C_211, rfl, ⟨hT, hF, ⟨hq_212.1, ⟨hq_212.2.1.1, hq_212.2.1.2⟩, (fun h9 => (hq_212.2.2.2.2.1 h9)), (RelW.fr hR (fr_trk (mc := [(13, 14)]) (mf := [21, 22, 23, 24, 25]) fr_rf f_213 (by decide) (by decide)) (by decide)), (by omega), (absurd u_209.2 (XIs_x (i := 22) (by decide) (by decide) (by decide) u_190.2)), hq_212.2.2.2.2.2.2.2.2.1, hq_212.2.2.2.2.2.2.2.2.2⟩⟩, ⟨by rw [ht]; exact hP, hD⟩⟩, hS.F ht⟩) hS.2.2 dX7_statement_244
          · have u_215 := hq_197.2.1 c_198
            refine lv_aload_n hx hb dX7_statement_156 rfl (lv_at hl 0 rfl) ?_
            refine va_get (D := D) (ci := 7) (v := .int (gi (C 0) 15)) (C := RX7) (T := TX7) (N := 29) hx hb htg ig_7 hown hK hP 0 (oh_wg (Nat.lt_of_lt_of_le (by decide) hn) (sM_0 hT)) rfl 15 (by decide) (htg _ q_988) (fun _ h9 => h9) rfl dX7_statement_157 ?_
            refine lv_iconst (v := 5) hx hb dX7_statement_160 (by decide) ?_
            refine lv_icmp_ge (tgt := 220) hx hb dX7_statement_161 (by decide) (fun (c_216 : (5 : Int32) ≤ (gi (C 0) 15)) => ?_) (fun (c_216 : ¬ ((5 : Int32) ≤ (gi (C 0) 15))) => ?_)
            · refine lv_aload_n hx hb dX7_statement_220 rfl (lv_at hl 0 rfl) ?_
              refine va_ldcS hx hb hown (hG.2.2.1 ("OneHeavyLoadModel", 215, "load", 35) (List.mem_of_getElem? (i := 32) rfl)) dX7_statement_221 ?_
              refine tq_V (As := [.ref (G (3 + 32))]) (rest := []) (ws := (oh_W n a C)) ⟨hx, hb, hml, hown, htg⟩ (e_X7_isWord l D E G a C n hn hT 32 (by decide)) (cwV 1 htg (oh_gV q_1215 q_1217 q_41 q_73 q_1218) rfl rfl rfl pdVX7_isWord ⟨Nat.le_of_ble_eq_true rfl, Nat.le_of_ble_eq_true rfl⟩) hK hP hG hS (va_recv hK hP (ci := 7) (q0 := 0) rfl (oh_wg (Nat.lt_of_lt_of_le (by decide) hn) (sM_0 hT))) rfl hl.1 rfl (Nat.le_of_ble_eq_true rfl) dX7_statement_223 ⟨Nat.le_of_ble_eq_true rfl, Nat.le_of_ble_eq_true rfl⟩ (fun r_217 hq_218 => ?_)
              refine lv_if_eq (tgt := 245) hx hb dX7_statement_226 (by decide) (fun (c_219 : r_217 = 0) => ?_) (fun (c_219 : ¬ (r_217 = 0)) => ?_)
              · have u_220 := hq_218.2.2 c_219
                refine lv_aload_n hx hb dX7_statement_245 rfl (lv_at hl 0 rfl) ?_
                refine va_ldcS hx hb hown (hG.2.2.1 ("OneHeavyLoadModel", 217, "mile", 36) (List.mem_of_getElem? (i := 33) rfl)) dX7_statement_246 ?_
                refine lv_aload_n hx hb dX7_statement_248 rfl (lv_at hl 0 rfl) ?_
                refine va_get (D := D) (ci := 7) (v := .ref (a 13)) (C := RX7) (T := TX7) (N := 29) hx hb htg ig_7 hown hK hP 0 (oh_wg (Nat.lt_of_lt_of_le (by decide) hn) (sM_0 hT)) rfl 17 (by decide) (htg _ q_990) (fun _ h9 => h9) rfl dX7_statement_249 ?_
                refine lv_iconst (v := 1) hx hb dX7_statement_252 (by decide) ?_
                refine lv_iconst (v := 0) hx hb dX7_statement_253 (by decide) ?_
                refine lv_bipush (v := 99) hx hb dX7_statement_254 (by decide) ?_
                have : 0 ≤ (gi (C 0) 21).toInt ∧ (gi (C 0) 21).toInt ≤ 250 := fM_0_21 hT0
                have : 0 ≤ (gi (C 0) 7).toInt ∧ (gi (C 0) 7).toInt ≤ 250 := fM_0_7 hT0
                have : 0 ≤ (gi (C 0) 23).toInt ∧ (gi (C 0) 23).toInt ≤ 250 := fM_0_23 hT0
                have : 0 ≤ (gi (C 0) 13).toInt ∧ (gi (C 0) 13).toInt ≤ 5 := fM_0_13 hT0
                have : (16 : Int32).toInt = 16 := rfl
                have : (16 : Int32).toInt ≤ (gi (C 0) 11).toInt := Int32.le_iff_toInt_le.mp c_191
                have : (5 : Int32).toInt = 5 := rfl
                have : (5 : Int32).toInt ≤ (gi (C 0) 15).toInt := Int32.le_iff_toInt_le.mp c_216
                refine tm_V (As := [.ref (G (3 + 33)), .ref (a 13), .int 1, .int 0, .int 99]) (rest := []) ⟨hx, hb, hml, hown, htg⟩ (e_X7_told l D E G _ a C n hn hT 33 13 (1 : Int32) (0 : Int32) (99 : Int32) (by decide) (rg_w (rg_c (v := 0) (lo := 0) (hi := 0) (by decide)) (by decide)) (rg_w (rg_c (v := 99) (lo := 99) (hi := 99) (by decide)) (by decide)) ⟨(Nat.lt_of_lt_of_le (by decide) hn), (by decide), 3, fun C h => (sM_13 h), (rg_in (rg_c (v := 1) (lo := 1) (hi := 1) (by decide)) (by decide)), fun C v h h1 h2 => (h.up 13 (by decide) (tA_upd (tM_13 h) tA_any))⟩ (by omega) hfg (by omega) (by decide)) (cwV 5 htg (oh_gV q_1234 q_1236 q_45 q_73 q_1237) rfl rfl rfl pdVX7_told ⟨Nat.le_of_ble_eq_true rfl, Nat.le_of_ble_eq_true rfl⟩) hK hP hD hG hS hA (va_recv hK hP (ci := 7) (q0 := 0) rfl (oh_wg (Nat.lt_of_lt_of_le (by decide) hn) (sM_0 hT))) rfl hl.1 rfl (Nat.le_of_ble_eq_true rfl) dX7_statement_256 ⟨Nat.le_of_ble_eq_true rfl, Nat.le_of_ble_eq_true rfl⟩ (fun r_221 C_222 H locs hq_223 hP hD hS => ?_)
                obtain ⟨hT, f_224, hq_223⟩ := hq_223
                have hF := fr_trk hF f_224 (by decide) (by decide)
                refine W.widen (k := 0) (n := 0) (Nat.le_refl _) (Nat.le_refl _) ?_
                have t_225 := hT
                have : (gi (C_222 0) 7).toInt = (gi (C 0) 7).toInt := congrArg (fun z => (vi z).toInt) (f_224.2 7 (by decide))
                have : (gi (C_222 0) 13).toInt = (gi (C 0) 13).toInt := congrArg (fun z => (vi z).toInt) (f_224.2 13 (by decide))
                have : 0 ≤ (gi (C_222 0) 21).toInt ∧ (gi (C_222 0) 21).toInt ≤ 250 := fM_0_21 t_225
                have : 0 ≤ (gi (C_222 0) 7).toInt ∧ (gi (C_222 0) 7).toInt ≤ 250 := fM_0_7 t_225
                have : 0 ≤ (gi (C_222 0) 23).toInt ∧ (gi (C_222 0) 23).toInt ≤ 250 := fM_0_23 t_225
                have : 0 ≤ (gi (C_222 0) 13).toInt ∧ (gi (C_222 0) 13).toInt ≤ 5 := fM_0_13 t_225
                rw [hQ]
                exact W.zret (v := r_221) (ty := .boolean) hx hb hr (oh_nb hq_223.1) (fun t ht hW => ⟨⟨r_221, C_222, rfl, ⟨hT, hF, ⟨hq_223.1, ⟨hq_223.2.1.1, hq_223.2.1.2⟩, (fun h9 => (hq_223.2.2.2.2.1 h9)), (RelW.fr hR (fr_trk (mc := [(13, 14)]) (mf := [21, 22, 23, 24, 25]) fr_rf f_224 (by decide) (by decide)) (by decide)), (by omega), (absurd u_215.2 (XIs_x (i := 22) (by decide) (by decide) (by decide) u_190.2)), hq_223.2.2.2.2.2.2.2.2.1, hq_223.2.2.2.2.2.2.2.2.2⟩⟩, ⟨by rw [ht]; exact hP, hD⟩⟩, hS.F ht⟩) hS.2.2 dX7_statement_259
              · have u_226 := hq_218.2.1 c_219
                refine lv_aload_n hx hb dX7_statement_229 rfl (lv_at hl 0 rfl) ?_
                refine va_ldcS hx hb hown (hG.2.2.1 ("OneHeavyLoadModel", 215, "load", 35) (List.mem_of_getElem? (i := 32) rfl)) dX7_statement_230 ?_
                refine lv_aload_n hx hb dX7_statement_232 rfl (lv_at hl 0 rfl) ?_
                refine va_get (D := D) (ci := 7) (v := .ref (a 13)) (C := RX7) (T := TX7) (N := 29) hx hb htg ig_7 hown hK hP 0 (oh_wg (Nat.lt_of_lt_of_le (by decide) hn) (sM_0 hT)) rfl 17 (by decide) (htg _ q_990) (fun _ h9 => h9) rfl dX7_statement_233 ?_
                refine lv_iconst (v := 0) hx hb dX7_statement_236 (by decide) ?_
                refine lv_iconst (v := 0) hx hb dX7_statement_237 (by decide) ?_
                refine lv_sipush (v := 900) hx hb dX7_statement_238 (by decide) ?_
                have : 0 ≤ (gi (C 0) 21).toInt ∧ (gi (C 0) 21).toInt ≤ 250 := fM_0_21 hT0
                have : 0 ≤ (gi (C 0) 7).toInt ∧ (gi (C 0) 7).toInt ≤ 250 := fM_0_7 hT0
                have : 0 ≤ (gi (C 0) 23).toInt ∧ (gi (C 0) 23).toInt ≤ 250 := fM_0_23 hT0
                have : 0 ≤ (gi (C 0) 13).toInt ∧ (gi (C 0) 13).toInt ≤ 5 := fM_0_13 hT0
                have : (16 : Int32).toInt = 16 := rfl
                have : (16 : Int32).toInt ≤ (gi (C 0) 11).toInt := Int32.le_iff_toInt_le.mp c_191
                have : (5 : Int32).toInt = 5 := rfl
                have : (5 : Int32).toInt ≤ (gi (C 0) 15).toInt := Int32.le_iff_toInt_le.mp c_216
                refine tm_V (As := [.ref (G (3 + 32)), .ref (a 13), .int 0, .int 0, .int 900]) (rest := []) ⟨hx, hb, hml, hown, htg⟩ (e_X7_told l D E G _ a C n hn hT 32 13 (0 : Int32) (0 : Int32) (900 : Int32) (by decide) (rg_w (rg_c (v := 0) (lo := 0) (hi := 0) (by decide)) (by decide)) (rg_w (rg_c (v := 900) (lo := 900) (hi := 900) (by decide)) (by decide)) ⟨(Nat.lt_of_lt_of_le (by decide) hn), (by decide), 3, fun C h => (sM_13 h), (rg_in (rg_c (v := 0) (lo := 0) (hi := 0) (by decide)) (by decide)), fun C v h h1 h2 => (h.up 13 (by decide) (tA_upd (tM_13 h) tA_any))⟩ (by omega) hfg (by omega) (by decide)) (cwV 5 htg (oh_gV q_1234 q_1236 q_45 q_73 q_1237) rfl rfl rfl pdVX7_told ⟨Nat.le_of_ble_eq_true rfl, Nat.le_of_ble_eq_true rfl⟩) hK hP hD hG hS hA (va_recv hK hP (ci := 7) (q0 := 0) rfl (oh_wg (Nat.lt_of_lt_of_le (by decide) hn) (sM_0 hT))) rfl hl.1 rfl (Nat.le_of_ble_eq_true rfl) dX7_statement_241 ⟨Nat.le_of_ble_eq_true rfl, Nat.le_of_ble_eq_true rfl⟩ (fun r_227 C_228 H locs hq_229 hP hD hS => ?_)
                obtain ⟨hT, f_230, hq_229⟩ := hq_229
                have hF := fr_trk hF f_230 (by decide) (by decide)
                refine W.widen (k := 0) (n := 0) (Nat.le_refl _) (Nat.le_refl _) ?_
                have t_231 := hT
                have : (gi (C_228 0) 7).toInt = (gi (C 0) 7).toInt := congrArg (fun z => (vi z).toInt) (f_230.2 7 (by decide))
                have : (gi (C_228 0) 13).toInt = (gi (C 0) 13).toInt := congrArg (fun z => (vi z).toInt) (f_230.2 13 (by decide))
                have : 0 ≤ (gi (C_228 0) 21).toInt ∧ (gi (C_228 0) 21).toInt ≤ 250 := fM_0_21 t_231
                have : 0 ≤ (gi (C_228 0) 7).toInt ∧ (gi (C_228 0) 7).toInt ≤ 250 := fM_0_7 t_231
                have : 0 ≤ (gi (C_228 0) 23).toInt ∧ (gi (C_228 0) 23).toInt ≤ 250 := fM_0_23 t_231
                have : 0 ≤ (gi (C_228 0) 13).toInt ∧ (gi (C_228 0) 13).toInt ≤ 5 := fM_0_13 t_231
                rw [hQ]
                exact W.zret (v := r_227) (ty := .boolean) hx hb hr (oh_nb hq_229.1) (fun t ht hW => ⟨⟨r_227, C_228, rfl, ⟨hT, hF, ⟨hq_229.1, ⟨hq_229.2.1.1, hq_229.2.1.2⟩, (fun h9 => (hq_229.2.2.2.2.1 h9)), (RelW.fr hR (fr_trk (mc := [(13, 14)]) (mf := [21, 22, 23, 24, 25]) fr_rf f_230 (by decide) (by decide)) (by decide)), (by omega), (absurd u_215.2 (XIs_x (i := 22) (by decide) (by decide) (by decide) u_190.2)), hq_229.2.2.2.2.2.2.2.2.1, hq_229.2.2.2.2.2.2.2.2.2⟩⟩, ⟨by rw [ht]; exact hP, hD⟩⟩, hS.F ht⟩) hS.2.2 dX7_statement_244
            · refine lv_aload_n hx hb dX7_statement_164 rfl (lv_at hl 0 rfl) ?_
              refine va_ldcS hx hb hown (hG.2.2.1 ("OneHeavyLoadModel", 214, "part", 34) (List.mem_of_getElem? (i := 31) rfl)) dX7_statement_165 ?_
              refine lv_aload_n hx hb dX7_statement_167 rfl (lv_at hl 0 rfl) ?_
              refine va_get (D := D) (ci := 7) (v := .ref (a 12)) (C := RX7) (T := TX7) (N := 29) hx hb htg ig_7 hown hK hP 0 (oh_wg (Nat.lt_of_lt_of_le (by decide) hn) (sM_0 hT)) rfl 16 (by decide) (htg _ q_989) (fun _ h9 => h9) rfl dX7_statement_168 ?_
              refine lv_aload_n hx hb dX7_statement_171 rfl (lv_at hl 0 rfl) ?_
              refine va_get (D := D) (ci := 7) (v := .int (gi (C 0) 15)) (C := RX7) (T := TX7) (N := 29) hx hb htg ig_7 hown hK hP 0 (oh_wg (Nat.lt_of_lt_of_le (by decide) hn) (sM_0 hT)) rfl 15 (by decide) (htg _ q_988) (fun _ h9 => h9) rfl dX7_statement_172 ?_
              have n_232 : vp_in (gi (C 0) 15) 5 := (rg_in (rn_ltu (u' := 4) (Int32.not_le.mp c_216) (fM_0_15 hT0) (rg_c (v := 5) (lo := 5) (hi := 5) (by decide)) (by decide)) (by decide))
              have b_233 : (gi (C 0) 15).toNatClampNeg < 5 := vp_lt n_232
              refine th_aald hx hb hK hP 12 2 (Nat.lt_of_lt_of_le (by decide) hn) (sM_12 hT) rfl n_232 dX7_statement_175 ?_
              refine lv_iconst (v := 0) hx hb dX7_statement_176 (by decide) ?_
              refine lv_iconst (v := 1) hx hb dX7_statement_177 (by decide) ?_
              refine lv_bipush (v := 99) hx hb dX7_statement_178 (by decide) ?_
              have : 0 ≤ (gi (C 0) 21).toInt ∧ (gi (C 0) 21).toInt ≤ 250 := fM_0_21 hT0
              have : 0 ≤ (gi (C 0) 7).toInt ∧ (gi (C 0) 7).toInt ≤ 250 := fM_0_7 hT0
              have : 0 ≤ (gi (C 0) 23).toInt ∧ (gi (C 0) 23).toInt ≤ 250 := fM_0_23 hT0
              have : 0 ≤ (gi (C 0) 13).toInt ∧ (gi (C 0) 13).toInt ≤ 5 := fM_0_13 hT0
              have : (16 : Int32).toInt = 16 := rfl
              have : (16 : Int32).toInt ≤ (gi (C 0) 11).toInt := Int32.le_iff_toInt_le.mp c_191
              have : (5 : Int32).toInt = 5 := rfl
              have : (gi (C 0) 15).toInt < (5 : Int32).toInt := Int32.lt_iff_toInt_lt.mp (Int32.not_le.mp c_216)
              refine tm_V (As := [.ref (G (3 + 31)), .ref (a (69 + (gi (C 0) 15).toNatClampNeg)), .int 0, .int 1, .int 99]) (rest := []) ⟨hx, hb, hml, hown, htg⟩ (e_X7_told l D E G _ a C n hn hT 31 (69 + (gi (C 0) 15).toNatClampNeg) (0 : Int32) (1 : Int32) (99 : Int32) (by decide) (rg_w (rg_c (v := 1) (lo := 1) (hi := 1) (by decide)) (by decide)) (rg_w (rg_c (v := 99) (lo := 99) (hi := 99) (by decide)) (by decide)) ⟨(lt_blk b_233 hn (by decide)), (by omega), 2, fun C h => (h.bpart b_233).1, (rg_in (rg_c (v := 0) (lo := 0) (hi := 0) (by decide)) (by decide)), fun C v h h1 h2 => (h.uppart b_233 (tA_upd (h.bpart b_233) tA_any))⟩ (by omega) hfg (by omega) (by omega)) (cwV 5 htg (oh_gV q_1234 q_1236 q_45 q_73 q_1237) rfl rfl rfl pdVX7_told ⟨Nat.le_of_ble_eq_true rfl, Nat.le_of_ble_eq_true rfl⟩) hK hP hD hG hS hA (va_recv hK hP (ci := 7) (q0 := 0) rfl (oh_wg (Nat.lt_of_lt_of_le (by decide) hn) (sM_0 hT))) rfl hl.1 rfl (Nat.le_of_ble_eq_true rfl) dX7_statement_180 ⟨Nat.le_of_ble_eq_true rfl, Nat.le_of_ble_eq_true rfl⟩ (fun r_234 C_235 H locs hq_236 hP hD hS => ?_)
              obtain ⟨hT, f_237, hq_236⟩ := hq_236
              have hF := fr_trk hF f_237 (inR_of (p := (69, 74)) (by decide) (by show 69 ≤ _; omega) (by show _ < 74; omega)) (by decide)
              refine W.widen (k := 0) (n := 0) (Nat.le_refl _) (Nat.le_refl _) ?_
              have t_238 := hT
              refine lv_if_eq (tgt := 206) hx hb dX7_statement_183 (by decide) (fun (c_239 : r_234 = 0) => ?_) (fun (c_239 : ¬ (r_234 = 0)) => ?_)
              · have u_240 := hq_236.2.2.2.2.2.2.1 c_239
                have u_241 := hq_236.2.2.2.2.2.2.2.1 c_239
                refine lv_iconst (v := 0) hx hb dX7_statement_206 (by decide) ?_
                have : (gi (C_235 0) 7).toInt = (gi (C 0) 7).toInt := congrArg (fun z => (vi z).toInt) (f_237.2 7 (by decide))
                have : (gi (C_235 0) 13).toInt = (gi (C 0) 13).toInt := congrArg (fun z => (vi z).toInt) (f_237.2 13 (by decide))
                have : 0 ≤ (gi (C_235 0) 21).toInt ∧ (gi (C_235 0) 21).toInt ≤ 250 := fM_0_21 t_238
                have : 0 ≤ (gi (C_235 0) 7).toInt ∧ (gi (C_235 0) 7).toInt ≤ 250 := fM_0_7 t_238
                have : 0 ≤ (gi (C_235 0) 23).toInt ∧ (gi (C_235 0) 23).toInt ≤ 250 := fM_0_23 t_238
                have : 0 ≤ (gi (C_235 0) 13).toInt ∧ (gi (C_235 0) 13).toInt ≤ 5 := fM_0_13 t_238
                rw [hQ]
                exact W.zret (v := 0) (ty := .boolean) hx hb hr (by decide) (fun t ht hW => ⟨⟨0, C_235, rfl, ⟨hT, hF, ⟨(Or.inl rfl), ⟨hq_236.2.1.1, hq_236.2.1.2⟩, (fun h9 => absurd rfl h9), (RelW.fr hR (fr_trk (mc := [(69, 74)]) (mf := [21, 22, 23, 24, 25]) fr_rf f_237 (inR_of (p := (69, 74)) (by decide) (by show 69 ≤ _; omega) (by show _ < 74; omega)) (by decide)) (by decide)), (by omega), (absurd u_215.2 (XIs_x (i := 22) (by decide) (by decide) (by decide) u_190.2)), hq_236.2.2.2.2.2.2.2.2.1, hq_236.2.2.2.2.2.2.2.2.2⟩⟩, ⟨by rw [ht]; exact hP, hD⟩⟩, hS.F ht⟩) hS.2.2 dX7_statement_207
              · have u_242 := hq_236.2.2.2.1 c_239
                have u_243 := hq_236.2.2.2.2.1 c_239
                have u_244 := hq_236.2.2.2.2.2.1 c_239
                refine lv_aload_n hx hb dX7_statement_186 rfl (lv_at hl 0 rfl) ?_
                refine lv_aload_n hx hb dX7_statement_187 rfl (lv_at hl 0 rfl) ?_
                refine va_get (D := D) (ci := 7) (v := .ref (a 12)) (C := RX7) (T := TX7) (N := 29) hx hb htg ig_7 hown hK hP 0 (oh_wg (Nat.lt_of_lt_of_le (by decide) hn) (sM_0 hT)) rfl 16 (by decide) (htg _ q_989) (fun _ h9 => h9) rfl dX7_statement_188 ?_
                refine lv_aload_n hx hb dX7_statement_191 rfl (lv_at hl 0 rfl) ?_
                refine va_get (D := D) (ci := 7) (v := .int (gi (C 0) 15)) (C := RX7) (T := TX7) (N := 29) hx hb htg ig_7 hown hK hP 0 (oh_wg (Nat.lt_of_lt_of_le (by decide) hn) (sM_0 hT)) rfl 15 (by decide) (htg _ q_988) (fun _ h9 => h9) (oh_fv (c := C_235 0) (j := 15) rfl (congrArg vi (f_237.2 15 (by decide)))) dX7_statement_192 ?_
                have n_245 : vp_in (gi (C 0) 15) 5 := (rg_in (rn_ltu (u' := 4) (Int32.not_le.mp c_216) (fM_0_15 hT0) (rg_c (v := 5) (lo := 5) (hi := 5) (by decide)) (by decide)) (by decide))
                have b_246 : (gi (C 0) 15).toNatClampNeg < 5 := vp_lt n_245
                refine th_aald hx hb hK hP 12 2 (Nat.lt_of_lt_of_le (by decide) hn) (sM_12 hT) rfl n_245 dX7_statement_195 ?_
                refine lv_iconst (v := 1) hx hb dX7_statement_196 (by decide) ?_
                refine lv_iconst (v := 0) hx hb dX7_statement_197 (by decide) ?_
                refine lv_bipush (v := 99) hx hb dX7_statement_198 (by decide) ?_
                have : (gi (C_235 0) 7).toInt = (gi (C 0) 7).toInt := congrArg (fun z => (vi z).toInt) (f_237.2 7 (by decide))
                have : (gi (C_235 0) 13).toInt = (gi (C 0) 13).toInt := congrArg (fun z => (vi z).toInt) (f_237.2 13 (by decide))
                have : 0 ≤ (gi (C_235 0) 21).toInt ∧ (gi (C_235 0) 21).toInt ≤ 250 := fM_0_21 t_238
                have : 0 ≤ (gi (C_235 0) 7).toInt ∧ (gi (C_235 0) 7).toInt ≤ 250 := fM_0_7 t_238
                have : 0 ≤ (gi (C_235 0) 23).toInt ∧ (gi (C_235 0) 23).toInt ≤ 250 := fM_0_23 t_238
                have : 0 ≤ (gi (C_235 0) 13).toInt ∧ (gi (C_235 0) 13).toInt ≤ 5 := fM_0_13 t_238
                refine tm_V (As := [.ref (a (69 + (gi (C 0) 15).toNatClampNeg)), .int 1, .int 0, .int 99]) (rest := []) ⟨hx, hb, hml, hown, htg⟩ (e_X7_number l D E G _ a C_235 n hn hT (69 + (gi (C 0) 15).toNatClampNeg) (1 : Int32) (0 : Int32) (99 : Int32) (rg_w (rg_c (v := 0) (lo := 0) (hi := 0) (by decide)) (by decide)) (rg_w (rg_c (v := 99) (lo := 99) (hi := 99) (by decide)) (by decide)) ⟨(lt_blk b_246 hn (by decide)), (by omega), 2, fun C h => (h.bpart b_246).1, (rg_in (rg_c (v := 1) (lo := 1) (hi := 1) (by decide)) (by decide)), fun C v h h1 h2 => (h.uppart b_246 (tA_upd (h.bpart b_246) tA_any))⟩ (by omega) hq_236.2.2.2.2.2.2.2.2.1 (by omega) (by omega)) (cwV 4 htg (oh_gV q_1225 q_1227 q_43 q_73 q_1228) rfl rfl rfl pdVX7_number ⟨Nat.le_of_ble_eq_true rfl, Nat.le_of_ble_eq_true rfl⟩) hK hP hD hG hS hA (va_recv hK hP (ci := 7) (q0 := 0) rfl (oh_wg (Nat.lt_of_lt_of_le (by decide) hn) (sM_0 hT))) rfl hl.1 rfl (Nat.le_of_ble_eq_true rfl) dX7_statement_200 ⟨Nat.le_of_ble_eq_true rfl, Nat.le_of_ble_eq_true rfl⟩ (fun r_247 C_248 H locs hq_249 hP hD hS => ?_)
                obtain ⟨hT, f_250, hq_249⟩ := hq_249
                have hF := fr_trk hF f_250 (inR_of (p := (69, 74)) (by decide) (by show 69 ≤ _; omega) (by show _ < 74; omega)) (by decide)
                refine W.widen (k := 0) (n := 0) (Nat.le_refl _) (Nat.le_refl _) ?_
                have t_251 := hT
                refine lv_if_ne (tgt := 208) hx hb dX7_statement_203 (by decide) (fun (c_252 : ¬ (r_247 = 0)) => ?_) (fun (c_252 : r_247 = 0) => ?_)
                · have u_253 := hq_249.2.2.2.1 c_252
                  have u_254 := hq_249.2.2.2.2.1 c_252
                  refine lv_aload_n hx hb dX7_statement_208 rfl (lv_at hl 0 rfl) ?_
                  refine lv_dup hx hb dX7_statement_209 rfl ?_
                  refine va_get (D := D) (ci := 7) (v := .int (gi (C 0) 15)) (C := RX7) (T := TX7) (N := 29) hx hb htg ig_7 hown hK hP 0 (oh_wg (Nat.lt_of_lt_of_le (by decide) hn) (sM_0 hT)) rfl 15 (by decide) (htg _ q_988) (fun _ h9 => h9) (oh_fv (c := C_248 0) (j := 15) rfl (Eq.trans (congrArg vi (f_250.2 15 (by decide))) (congrArg vi (f_237.2 15 (by decide))))) dX7_statement_210 ?_
                  refine lv_iconst (v := 1) hx hb dX7_statement_213 (by decide) ?_
                  refine lv_iadd hx hb dX7_statement_214 ?_
                  refine th_put (Tp := TyM a E) (Rl := fr [(13, 14), (24, 48), (48, 64), (64, 69), (69, 74)] [9, 11, 13, 15, 21, 22, 23, 24, 25] C) (ci := 7) (v := .int ((gi (C 0) 15) + 1)) (ty := .int) (CC := RX7) (T := TX7) (N := 29) hx hb htg ig_7 tyX7 tyX7_ok nmX7 hown hK hP hD hS 0 (Nat.lt_of_lt_of_le (by decide) hn) (sM_0 hT) rfl 15 (by decide) (htg _ q_988) (fun _ h9 => h9) rfl (by decide +kernel) rfl rfl (Nat.le_of_ble_eq_true rfl) (hT.up 0 (by decide) ⟨rfl, (fM_0_7 hT), (fM_0_9 hT), (fM_0_11 hT), (fM_0_13 hT), (rg_w (rg_add (lo := 1) (hi := 5) (rn_ltu (u' := 4) (Int32.not_le.mp c_216) (fM_0_15 hT0) (rg_c (v := 5) (lo := 5) (hi := 5) (by decide)) (by decide)) (rg_c (v := 1) (lo := 1) (hi := 1) (by decide)) (by decide)) (by decide)), (fM_0_21 hT), (fM_0_23 hT)⟩) (fr_fd hF (sM_0 hT) (by decide)) dX7_statement_215 (fun C_255 H locs e_256 hT hF hP hD hS => ?_)
                  have t_257 := hT
                  refine lv_iconst (v := 1) hx hb dX7_statement_218 (by decide) ?_
                  have : (gi (C_248 0) 7).toInt = (gi (C_235 0) 7).toInt := congrArg (fun z => (vi z).toInt) (f_250.2 7 (by decide))
                  have : (gi (C_248 0) 13).toInt = (gi (C_235 0) 13).toInt := congrArg (fun z => (vi z).toInt) (f_250.2 13 (by decide))
                  have : (gi (C_255 0) 21).toInt = (gi (C_248 0) 21).toInt := congrArg Int32.toInt (show gi (C_255 0) 21 = gi (C_248 0) 21 by rw [e_256]; rfl)
                  have : (gi (C_255 0) 7).toInt = (gi (C_248 0) 7).toInt := congrArg Int32.toInt (show gi (C_255 0) 7 = gi (C_248 0) 7 by rw [e_256]; rfl)
                  have : (gi (C_255 0) 23).toInt = (gi (C_248 0) 23).toInt := congrArg Int32.toInt (show gi (C_255 0) 23 = gi (C_248 0) 23 by rw [e_256]; rfl)
                  have : (gi (C_255 0) 13).toInt = (gi (C_248 0) 13).toInt := congrArg Int32.toInt (show gi (C_255 0) 13 = gi (C_248 0) 13 by rw [e_256]; rfl)
                  have : 0 ≤ (gi (C_248 0) 21).toInt ∧ (gi (C_248 0) 21).toInt ≤ 250 := fM_0_21 t_251
                  have : 0 ≤ (gi (C_248 0) 7).toInt ∧ (gi (C_248 0) 7).toInt ≤ 250 := fM_0_7 t_251
                  have : 0 ≤ (gi (C_248 0) 23).toInt ∧ (gi (C_248 0) 23).toInt ≤ 250 := fM_0_23 t_251
                  have : 0 ≤ (gi (C_248 0) 13).toInt ∧ (gi (C_248 0) 13).toInt ≤ 5 := fM_0_13 t_251
                  have : 0 ≤ (gi (C_255 0) 21).toInt ∧ (gi (C_255 0) 21).toInt ≤ 250 := fM_0_21 t_257
                  have : 0 ≤ (gi (C_255 0) 7).toInt ∧ (gi (C_255 0) 7).toInt ≤ 250 := fM_0_7 t_257
                  have : 0 ≤ (gi (C_255 0) 23).toInt ∧ (gi (C_255 0) 23).toInt ≤ 250 := fM_0_23 t_257
                  have : 0 ≤ (gi (C_255 0) 13).toInt ∧ (gi (C_255 0) 13).toInt ≤ 5 := fM_0_13 t_257
                  rw [hQ]
                  exact W.zret (v := 1) (ty := .boolean) hx hb hr (by decide) (fun t ht hW => ⟨⟨1, C_255, rfl, ⟨hT, hF, ⟨(Or.inr rfl), ⟨(by omega), (by omega)⟩, (fun _ => (by omega)), (RelW.fr (RelW.fr (RelW.fr hR (fr_trk (mc := [(69, 74)]) (mf := [21, 22, 23, 24, 25]) fr_rf f_237 (inR_of (p := (69, 74)) (by decide) (by show 69 ≤ _; omega) (by show _ < 74; omega)) (by decide)) (by decide)) (fr_trk (mc := [(69, 74)]) (mf := [21, 22, 23, 24, 25]) fr_rf f_250 (inR_of (p := (69, 74)) (by decide) (by show 69 ≤ _; omega) (by show _ < 74; omega)) (by decide)) (by decide)) (fr_fde (mc := []) (mf := [15]) fr_rf e_256 (sM_0 t_251) (by decide)) (by decide)), (by omega), (absurd u_215.2 (XIs_x (i := 22) (by decide) (by decide) (by decide) u_190.2)), (fgF (j := 15) hq_249.2.2.2.2.2.2.2.1 e_256 (sM_0 t_251) (by decide)), (by omega)⟩⟩, ⟨by rw [ht]; exact hP, hD⟩⟩, hS.F ht⟩) hS.2.2 dX7_statement_219
                · have u_258 := hq_249.2.2.2.2.2.1 c_252
                  have u_259 := hq_249.2.2.2.2.2.2.1 c_252
                  refine lv_iconst (v := 0) hx hb dX7_statement_206 (by decide) ?_
                  have : (gi (C_248 0) 7).toInt = (gi (C_235 0) 7).toInt := congrArg (fun z => (vi z).toInt) (f_250.2 7 (by decide))
                  have : (gi (C_248 0) 13).toInt = (gi (C_235 0) 13).toInt := congrArg (fun z => (vi z).toInt) (f_250.2 13 (by decide))
                  have : 0 ≤ (gi (C_248 0) 21).toInt ∧ (gi (C_248 0) 21).toInt ≤ 250 := fM_0_21 t_251
                  have : 0 ≤ (gi (C_248 0) 7).toInt ∧ (gi (C_248 0) 7).toInt ≤ 250 := fM_0_7 t_251
                  have : 0 ≤ (gi (C_248 0) 23).toInt ∧ (gi (C_248 0) 23).toInt ≤ 250 := fM_0_23 t_251
                  have : 0 ≤ (gi (C_248 0) 13).toInt ∧ (gi (C_248 0) 13).toInt ≤ 5 := fM_0_13 t_251
                  rw [hQ]
                  exact W.zret (v := 0) (ty := .boolean) hx hb hr (by decide) (fun t ht hW => ⟨⟨0, C_248, rfl, ⟨hT, hF, ⟨(Or.inl rfl), ⟨(by omega), hq_249.2.1.2⟩, (fun h9 => absurd rfl h9), (RelW.fr (RelW.fr hR (fr_trk (mc := [(69, 74)]) (mf := [21, 22, 23, 24, 25]) fr_rf f_237 (inR_of (p := (69, 74)) (by decide) (by show 69 ≤ _; omega) (by show _ < 74; omega)) (by decide)) (by decide)) (fr_trk (mc := [(69, 74)]) (mf := [21, 22, 23, 24, 25]) fr_rf f_250 (inR_of (p := (69, 74)) (by decide) (by show 69 ≤ _; omega) (by show _ < 74; omega)) (by decide)) (by decide)), (by omega), (absurd u_215.2 (XIs_x (i := 22) (by decide) (by decide) (by decide) u_190.2)), hq_249.2.2.2.2.2.2.2.1, hq_249.2.2.2.2.2.2.2.2⟩⟩, ⟨by rw [ht]; exact hP, hD⟩⟩, hS.F ht⟩) hS.2.2 dX7_statement_207
        · have u_260 := hq_193.2.1 c_194
          refine lv_aload_n hx hb dX7_statement_73 rfl (lv_at hl 0 rfl) ?_
          refine va_get (D := D) (ci := 7) (v := .int (gi (C 0) 13)) (C := RX7) (T := TX7) (N := 29) hx hb htg ig_7 hown hK hP 0 (oh_wg (Nat.lt_of_lt_of_le (by decide) hn) (sM_0 hT)) rfl 13 (by decide) (htg _ q_986) (fun _ h9 => h9) rfl dX7_statement_74 ?_
          refine lv_iconst (v := 5) hx hb dX7_statement_77 (by decide) ?_
          refine lv_icmp_ge (tgt := 147) hx hb dX7_statement_78 (by decide) (fun (c_261 : (5 : Int32) ≤ (gi (C 0) 13)) => ?_) (fun (c_261 : ¬ ((5 : Int32) ≤ (gi (C 0) 13))) => ?_)
          · refine lv_aload_n hx hb dX7_statement_147 rfl (lv_at hl 0 rfl) ?_
            refine va_ldcS hx hb hown (hG.2.2.1 ("OneHeavyLoadModel", 214, "part", 34) (List.mem_of_getElem? (i := 31) rfl)) dX7_statement_148 ?_
            refine tq_V (As := [.ref (G (3 + 31))]) (rest := []) (ws := (oh_W n a C)) ⟨hx, hb, hml, hown, htg⟩ (e_X7_isWord l D E G a C n hn hT 31 (by decide)) (cwV 1 htg (oh_gV q_1215 q_1217 q_41 q_73 q_1218) rfl rfl rfl pdVX7_isWord ⟨Nat.le_of_ble_eq_true rfl, Nat.le_of_ble_eq_true rfl⟩) hK hP hG hS (va_recv hK hP (ci := 7) (q0 := 0) rfl (oh_wg (Nat.lt_of_lt_of_le (by decide) hn) (sM_0 hT))) rfl hl.1 rfl (Nat.le_of_ble_eq_true rfl) dX7_statement_150 ⟨Nat.le_of_ble_eq_true rfl, Nat.le_of_ble_eq_true rfl⟩ (fun r_262 hq_263 => ?_)
            refine lv_if_eq (tgt := 220) hx hb dX7_statement_153 (by decide) (fun (c_264 : r_262 = 0) => ?_) (fun (c_264 : ¬ (r_262 = 0)) => ?_)
            · have u_265 := hq_263.2.2 c_264
              refine lv_aload_n hx hb dX7_statement_220 rfl (lv_at hl 0 rfl) ?_
              refine va_ldcS hx hb hown (hG.2.2.1 ("OneHeavyLoadModel", 215, "load", 35) (List.mem_of_getElem? (i := 32) rfl)) dX7_statement_221 ?_
              refine tq_V (As := [.ref (G (3 + 32))]) (rest := []) (ws := (oh_W n a C)) ⟨hx, hb, hml, hown, htg⟩ (e_X7_isWord l D E G a C n hn hT 32 (by decide)) (cwV 1 htg (oh_gV q_1215 q_1217 q_41 q_73 q_1218) rfl rfl rfl pdVX7_isWord ⟨Nat.le_of_ble_eq_true rfl, Nat.le_of_ble_eq_true rfl⟩) hK hP hG hS (va_recv hK hP (ci := 7) (q0 := 0) rfl (oh_wg (Nat.lt_of_lt_of_le (by decide) hn) (sM_0 hT))) rfl hl.1 rfl (Nat.le_of_ble_eq_true rfl) dX7_statement_223 ⟨Nat.le_of_ble_eq_true rfl, Nat.le_of_ble_eq_true rfl⟩ (fun r_266 hq_267 => ?_)
              refine lv_if_eq (tgt := 245) hx hb dX7_statement_226 (by decide) (fun (c_268 : r_266 = 0) => ?_) (fun (c_268 : ¬ (r_266 = 0)) => ?_)
              · have u_269 := hq_267.2.2 c_268
                refine lv_aload_n hx hb dX7_statement_245 rfl (lv_at hl 0 rfl) ?_
                refine va_ldcS hx hb hown (hG.2.2.1 ("OneHeavyLoadModel", 217, "mile", 36) (List.mem_of_getElem? (i := 33) rfl)) dX7_statement_246 ?_
                refine lv_aload_n hx hb dX7_statement_248 rfl (lv_at hl 0 rfl) ?_
                refine va_get (D := D) (ci := 7) (v := .ref (a 13)) (C := RX7) (T := TX7) (N := 29) hx hb htg ig_7 hown hK hP 0 (oh_wg (Nat.lt_of_lt_of_le (by decide) hn) (sM_0 hT)) rfl 17 (by decide) (htg _ q_990) (fun _ h9 => h9) rfl dX7_statement_249 ?_
                refine lv_iconst (v := 1) hx hb dX7_statement_252 (by decide) ?_
                refine lv_iconst (v := 0) hx hb dX7_statement_253 (by decide) ?_
                refine lv_bipush (v := 99) hx hb dX7_statement_254 (by decide) ?_
                have : 0 ≤ (gi (C 0) 21).toInt ∧ (gi (C 0) 21).toInt ≤ 250 := fM_0_21 hT0
                have : 0 ≤ (gi (C 0) 7).toInt ∧ (gi (C 0) 7).toInt ≤ 250 := fM_0_7 hT0
                have : 0 ≤ (gi (C 0) 23).toInt ∧ (gi (C 0) 23).toInt ≤ 250 := fM_0_23 hT0
                have : 0 ≤ (gi (C 0) 13).toInt ∧ (gi (C 0) 13).toInt ≤ 5 := fM_0_13 hT0
                have : (16 : Int32).toInt = 16 := rfl
                have : (16 : Int32).toInt ≤ (gi (C 0) 11).toInt := Int32.le_iff_toInt_le.mp c_191
                have : (5 : Int32).toInt = 5 := rfl
                have : (5 : Int32).toInt ≤ (gi (C 0) 13).toInt := Int32.le_iff_toInt_le.mp c_261
                refine tm_V (As := [.ref (G (3 + 33)), .ref (a 13), .int 1, .int 0, .int 99]) (rest := []) ⟨hx, hb, hml, hown, htg⟩ (e_X7_told l D E G _ a C n hn hT 33 13 (1 : Int32) (0 : Int32) (99 : Int32) (by decide) (rg_w (rg_c (v := 0) (lo := 0) (hi := 0) (by decide)) (by decide)) (rg_w (rg_c (v := 99) (lo := 99) (hi := 99) (by decide)) (by decide)) ⟨(Nat.lt_of_lt_of_le (by decide) hn), (by decide), 3, fun C h => (sM_13 h), (rg_in (rg_c (v := 1) (lo := 1) (hi := 1) (by decide)) (by decide)), fun C v h h1 h2 => (h.up 13 (by decide) (tA_upd (tM_13 h) tA_any))⟩ (by omega) hfg (by omega) (by decide)) (cwV 5 htg (oh_gV q_1234 q_1236 q_45 q_73 q_1237) rfl rfl rfl pdVX7_told ⟨Nat.le_of_ble_eq_true rfl, Nat.le_of_ble_eq_true rfl⟩) hK hP hD hG hS hA (va_recv hK hP (ci := 7) (q0 := 0) rfl (oh_wg (Nat.lt_of_lt_of_le (by decide) hn) (sM_0 hT))) rfl hl.1 rfl (Nat.le_of_ble_eq_true rfl) dX7_statement_256 ⟨Nat.le_of_ble_eq_true rfl, Nat.le_of_ble_eq_true rfl⟩ (fun r_270 C_271 H locs hq_272 hP hD hS => ?_)
                obtain ⟨hT, f_273, hq_272⟩ := hq_272
                have hF := fr_trk hF f_273 (by decide) (by decide)
                refine W.widen (k := 0) (n := 0) (Nat.le_refl _) (Nat.le_refl _) ?_
                have t_274 := hT
                have : (gi (C_271 0) 7).toInt = (gi (C 0) 7).toInt := congrArg (fun z => (vi z).toInt) (f_273.2 7 (by decide))
                have : (gi (C_271 0) 13).toInt = (gi (C 0) 13).toInt := congrArg (fun z => (vi z).toInt) (f_273.2 13 (by decide))
                have : 0 ≤ (gi (C_271 0) 21).toInt ∧ (gi (C_271 0) 21).toInt ≤ 250 := fM_0_21 t_274
                have : 0 ≤ (gi (C_271 0) 7).toInt ∧ (gi (C_271 0) 7).toInt ≤ 250 := fM_0_7 t_274
                have : 0 ≤ (gi (C_271 0) 23).toInt ∧ (gi (C_271 0) 23).toInt ≤ 250 := fM_0_23 t_274
                have : 0 ≤ (gi (C_271 0) 13).toInt ∧ (gi (C_271 0) 13).toInt ≤ 5 := fM_0_13 t_274
                rw [hQ]
                exact W.zret (v := r_270) (ty := .boolean) hx hb hr (oh_nb hq_272.1) (fun t ht hW => ⟨⟨r_270, C_271, rfl, ⟨hT, hF, ⟨hq_272.1, ⟨hq_272.2.1.1, hq_272.2.1.2⟩, (fun h9 => (hq_272.2.2.2.2.1 h9)), (RelW.fr hR (fr_trk (mc := [(13, 14)]) (mf := [21, 22, 23, 24, 25]) fr_rf f_273 (by decide) (by decide)) (by decide)), (by omega), (absurd u_260.2 (XIs_x (i := 22) (by decide) (by decide) (by decide) u_190.2)), hq_272.2.2.2.2.2.2.2.2.1, hq_272.2.2.2.2.2.2.2.2.2⟩⟩, ⟨by rw [ht]; exact hP, hD⟩⟩, hS.F ht⟩) hS.2.2 dX7_statement_259
              · have u_275 := hq_267.2.1 c_268
                refine lv_aload_n hx hb dX7_statement_229 rfl (lv_at hl 0 rfl) ?_
                refine va_ldcS hx hb hown (hG.2.2.1 ("OneHeavyLoadModel", 215, "load", 35) (List.mem_of_getElem? (i := 32) rfl)) dX7_statement_230 ?_
                refine lv_aload_n hx hb dX7_statement_232 rfl (lv_at hl 0 rfl) ?_
                refine va_get (D := D) (ci := 7) (v := .ref (a 13)) (C := RX7) (T := TX7) (N := 29) hx hb htg ig_7 hown hK hP 0 (oh_wg (Nat.lt_of_lt_of_le (by decide) hn) (sM_0 hT)) rfl 17 (by decide) (htg _ q_990) (fun _ h9 => h9) rfl dX7_statement_233 ?_
                refine lv_iconst (v := 0) hx hb dX7_statement_236 (by decide) ?_
                refine lv_iconst (v := 0) hx hb dX7_statement_237 (by decide) ?_
                refine lv_sipush (v := 900) hx hb dX7_statement_238 (by decide) ?_
                have : 0 ≤ (gi (C 0) 21).toInt ∧ (gi (C 0) 21).toInt ≤ 250 := fM_0_21 hT0
                have : 0 ≤ (gi (C 0) 7).toInt ∧ (gi (C 0) 7).toInt ≤ 250 := fM_0_7 hT0
                have : 0 ≤ (gi (C 0) 23).toInt ∧ (gi (C 0) 23).toInt ≤ 250 := fM_0_23 hT0
                have : 0 ≤ (gi (C 0) 13).toInt ∧ (gi (C 0) 13).toInt ≤ 5 := fM_0_13 hT0
                have : (16 : Int32).toInt = 16 := rfl
                have : (16 : Int32).toInt ≤ (gi (C 0) 11).toInt := Int32.le_iff_toInt_le.mp c_191
                have : (5 : Int32).toInt = 5 := rfl
                have : (5 : Int32).toInt ≤ (gi (C 0) 13).toInt := Int32.le_iff_toInt_le.mp c_261
                refine tm_V (As := [.ref (G (3 + 32)), .ref (a 13), .int 0, .int 0, .int 900]) (rest := []) ⟨hx, hb, hml, hown, htg⟩ (e_X7_told l D E G _ a C n hn hT 32 13 (0 : Int32) (0 : Int32) (900 : Int32) (by decide) (rg_w (rg_c (v := 0) (lo := 0) (hi := 0) (by decide)) (by decide)) (rg_w (rg_c (v := 900) (lo := 900) (hi := 900) (by decide)) (by decide)) ⟨(Nat.lt_of_lt_of_le (by decide) hn), (by decide), 3, fun C h => (sM_13 h), (rg_in (rg_c (v := 0) (lo := 0) (hi := 0) (by decide)) (by decide)), fun C v h h1 h2 => (h.up 13 (by decide) (tA_upd (tM_13 h) tA_any))⟩ (by omega) hfg (by omega) (by decide)) (cwV 5 htg (oh_gV q_1234 q_1236 q_45 q_73 q_1237) rfl rfl rfl pdVX7_told ⟨Nat.le_of_ble_eq_true rfl, Nat.le_of_ble_eq_true rfl⟩) hK hP hD hG hS hA (va_recv hK hP (ci := 7) (q0 := 0) rfl (oh_wg (Nat.lt_of_lt_of_le (by decide) hn) (sM_0 hT))) rfl hl.1 rfl (Nat.le_of_ble_eq_true rfl) dX7_statement_241 ⟨Nat.le_of_ble_eq_true rfl, Nat.le_of_ble_eq_true rfl⟩ (fun r_276 C_277 H locs hq_278 hP hD hS => ?_)
                obtain ⟨hT, f_279, hq_278⟩ := hq_278
                have hF := fr_trk hF f_279 (by decide) (by decide)
                refine W.widen (k := 0) (n := 0) (Nat.le_refl _) (Nat.le_refl _) ?_
                have t_280 := hT
                have : (gi (C_277 0) 7).toInt = (gi (C 0) 7).toInt := congrArg (fun z => (vi z).toInt) (f_279.2 7 (by decide))
                have : (gi (C_277 0) 13).toInt = (gi (C 0) 13).toInt := congrArg (fun z => (vi z).toInt) (f_279.2 13 (by decide))
                have : 0 ≤ (gi (C_277 0) 21).toInt ∧ (gi (C_277 0) 21).toInt ≤ 250 := fM_0_21 t_280
                have : 0 ≤ (gi (C_277 0) 7).toInt ∧ (gi (C_277 0) 7).toInt ≤ 250 := fM_0_7 t_280
                have : 0 ≤ (gi (C_277 0) 23).toInt ∧ (gi (C_277 0) 23).toInt ≤ 250 := fM_0_23 t_280
                have : 0 ≤ (gi (C_277 0) 13).toInt ∧ (gi (C_277 0) 13).toInt ≤ 5 := fM_0_13 t_280
                rw [hQ]
                exact W.zret (v := r_276) (ty := .boolean) hx hb hr (oh_nb hq_278.1) (fun t ht hW => ⟨⟨r_276, C_277, rfl, ⟨hT, hF, ⟨hq_278.1, ⟨hq_278.2.1.1, hq_278.2.1.2⟩, (fun h9 => (hq_278.2.2.2.2.1 h9)), (RelW.fr hR (fr_trk (mc := [(13, 14)]) (mf := [21, 22, 23, 24, 25]) fr_rf f_279 (by decide) (by decide)) (by decide)), (by omega), (absurd u_260.2 (XIs_x (i := 22) (by decide) (by decide) (by decide) u_190.2)), hq_278.2.2.2.2.2.2.2.2.1, hq_278.2.2.2.2.2.2.2.2.2⟩⟩, ⟨by rw [ht]; exact hP, hD⟩⟩, hS.F ht⟩) hS.2.2 dX7_statement_244
            · have u_281 := hq_263.2.1 c_264
              refine lv_aload_n hx hb dX7_statement_156 rfl (lv_at hl 0 rfl) ?_
              refine va_get (D := D) (ci := 7) (v := .int (gi (C 0) 15)) (C := RX7) (T := TX7) (N := 29) hx hb htg ig_7 hown hK hP 0 (oh_wg (Nat.lt_of_lt_of_le (by decide) hn) (sM_0 hT)) rfl 15 (by decide) (htg _ q_988) (fun _ h9 => h9) rfl dX7_statement_157 ?_
              refine lv_iconst (v := 5) hx hb dX7_statement_160 (by decide) ?_
              refine lv_icmp_ge (tgt := 220) hx hb dX7_statement_161 (by decide) (fun (c_282 : (5 : Int32) ≤ (gi (C 0) 15)) => ?_) (fun (c_282 : ¬ ((5 : Int32) ≤ (gi (C 0) 15))) => ?_)
              · refine lv_aload_n hx hb dX7_statement_220 rfl (lv_at hl 0 rfl) ?_
                refine va_ldcS hx hb hown (hG.2.2.1 ("OneHeavyLoadModel", 215, "load", 35) (List.mem_of_getElem? (i := 32) rfl)) dX7_statement_221 ?_
                refine tq_V (As := [.ref (G (3 + 32))]) (rest := []) (ws := (oh_W n a C)) ⟨hx, hb, hml, hown, htg⟩ (e_X7_isWord l D E G a C n hn hT 32 (by decide)) (cwV 1 htg (oh_gV q_1215 q_1217 q_41 q_73 q_1218) rfl rfl rfl pdVX7_isWord ⟨Nat.le_of_ble_eq_true rfl, Nat.le_of_ble_eq_true rfl⟩) hK hP hG hS (va_recv hK hP (ci := 7) (q0 := 0) rfl (oh_wg (Nat.lt_of_lt_of_le (by decide) hn) (sM_0 hT))) rfl hl.1 rfl (Nat.le_of_ble_eq_true rfl) dX7_statement_223 ⟨Nat.le_of_ble_eq_true rfl, Nat.le_of_ble_eq_true rfl⟩ (fun r_283 hq_284 => ?_)
                refine lv_if_eq (tgt := 245) hx hb dX7_statement_226 (by decide) (fun (c_285 : r_283 = 0) => ?_) (fun (c_285 : ¬ (r_283 = 0)) => ?_)
                · have u_286 := hq_284.2.2 c_285
                  refine lv_aload_n hx hb dX7_statement_245 rfl (lv_at hl 0 rfl) ?_
                  refine va_ldcS hx hb hown (hG.2.2.1 ("OneHeavyLoadModel", 217, "mile", 36) (List.mem_of_getElem? (i := 33) rfl)) dX7_statement_246 ?_
                  refine lv_aload_n hx hb dX7_statement_248 rfl (lv_at hl 0 rfl) ?_
                  refine va_get (D := D) (ci := 7) (v := .ref (a 13)) (C := RX7) (T := TX7) (N := 29) hx hb htg ig_7 hown hK hP 0 (oh_wg (Nat.lt_of_lt_of_le (by decide) hn) (sM_0 hT)) rfl 17 (by decide) (htg _ q_990) (fun _ h9 => h9) rfl dX7_statement_249 ?_
                  refine lv_iconst (v := 1) hx hb dX7_statement_252 (by decide) ?_
                  refine lv_iconst (v := 0) hx hb dX7_statement_253 (by decide) ?_
                  refine lv_bipush (v := 99) hx hb dX7_statement_254 (by decide) ?_
                  have : 0 ≤ (gi (C 0) 21).toInt ∧ (gi (C 0) 21).toInt ≤ 250 := fM_0_21 hT0
                  have : 0 ≤ (gi (C 0) 7).toInt ∧ (gi (C 0) 7).toInt ≤ 250 := fM_0_7 hT0
                  have : 0 ≤ (gi (C 0) 23).toInt ∧ (gi (C 0) 23).toInt ≤ 250 := fM_0_23 hT0
                  have : 0 ≤ (gi (C 0) 13).toInt ∧ (gi (C 0) 13).toInt ≤ 5 := fM_0_13 hT0
                  have : (16 : Int32).toInt = 16 := rfl
                  have : (16 : Int32).toInt ≤ (gi (C 0) 11).toInt := Int32.le_iff_toInt_le.mp c_191
                  have : (5 : Int32).toInt = 5 := rfl
                  have : (5 : Int32).toInt ≤ (gi (C 0) 13).toInt := Int32.le_iff_toInt_le.mp c_261
                  have : (5 : Int32).toInt ≤ (gi (C 0) 15).toInt := Int32.le_iff_toInt_le.mp c_282
                  refine tm_V (As := [.ref (G (3 + 33)), .ref (a 13), .int 1, .int 0, .int 99]) (rest := []) ⟨hx, hb, hml, hown, htg⟩ (e_X7_told l D E G _ a C n hn hT 33 13 (1 : Int32) (0 : Int32) (99 : Int32) (by decide) (rg_w (rg_c (v := 0) (lo := 0) (hi := 0) (by decide)) (by decide)) (rg_w (rg_c (v := 99) (lo := 99) (hi := 99) (by decide)) (by decide)) ⟨(Nat.lt_of_lt_of_le (by decide) hn), (by decide), 3, fun C h => (sM_13 h), (rg_in (rg_c (v := 1) (lo := 1) (hi := 1) (by decide)) (by decide)), fun C v h h1 h2 => (h.up 13 (by decide) (tA_upd (tM_13 h) tA_any))⟩ (by omega) hfg (by omega) (by decide)) (cwV 5 htg (oh_gV q_1234 q_1236 q_45 q_73 q_1237) rfl rfl rfl pdVX7_told ⟨Nat.le_of_ble_eq_true rfl, Nat.le_of_ble_eq_true rfl⟩) hK hP hD hG hS hA (va_recv hK hP (ci := 7) (q0 := 0) rfl (oh_wg (Nat.lt_of_lt_of_le (by decide) hn) (sM_0 hT))) rfl hl.1 rfl (Nat.le_of_ble_eq_true rfl) dX7_statement_256 ⟨Nat.le_of_ble_eq_true rfl, Nat.le_of_ble_eq_true rfl⟩ (fun r_287 C_288 H locs hq_289 hP hD hS => ?_)
                  obtain ⟨hT, f_290, hq_289⟩ := hq_289
                  have hF := fr_trk hF f_290 (by decide) (by decide)
                  refine W.widen (k := 0) (n := 0) (Nat.le_refl _) (Nat.le_refl _) ?_
                  have t_291 := hT
                  have : (gi (C_288 0) 7).toInt = (gi (C 0) 7).toInt := congrArg (fun z => (vi z).toInt) (f_290.2 7 (by decide))
                  have : (gi (C_288 0) 13).toInt = (gi (C 0) 13).toInt := congrArg (fun z => (vi z).toInt) (f_290.2 13 (by decide))
                  have : 0 ≤ (gi (C_288 0) 21).toInt ∧ (gi (C_288 0) 21).toInt ≤ 250 := fM_0_21 t_291
                  have : 0 ≤ (gi (C_288 0) 7).toInt ∧ (gi (C_288 0) 7).toInt ≤ 250 := fM_0_7 t_291
                  have : 0 ≤ (gi (C_288 0) 23).toInt ∧ (gi (C_288 0) 23).toInt ≤ 250 := fM_0_23 t_291
                  have : 0 ≤ (gi (C_288 0) 13).toInt ∧ (gi (C_288 0) 13).toInt ≤ 5 := fM_0_13 t_291
                  rw [hQ]
                  exact W.zret (v := r_287) (ty := .boolean) hx hb hr (oh_nb hq_289.1) (fun t ht hW => ⟨⟨r_287, C_288, rfl, ⟨hT, hF, ⟨hq_289.1, ⟨hq_289.2.1.1, hq_289.2.1.2⟩, (fun h9 => (hq_289.2.2.2.2.1 h9)), (RelW.fr hR (fr_trk (mc := [(13, 14)]) (mf := [21, 22, 23, 24, 25]) fr_rf f_290 (by decide) (by decide)) (by decide)), (by omega), (absurd u_260.2 (XIs_x (i := 22) (by decide) (by decide) (by decide) u_190.2)), hq_289.2.2.2.2.2.2.2.2.1, hq_289.2.2.2.2.2.2.2.2.2⟩⟩, ⟨by rw [ht]; exact hP, hD⟩⟩, hS.F ht⟩) hS.2.2 dX7_statement_259
                · have u_292 := hq_284.2.1 c_285
                  refine lv_aload_n hx hb dX7_statement_229 rfl (lv_at hl 0 rfl) ?_
                  refine va_ldcS hx hb hown (hG.2.2.1 ("OneHeavyLoadModel", 215, "load", 35) (List.mem_of_getElem? (i := 32) rfl)) dX7_statement_230 ?_
                  refine lv_aload_n hx hb dX7_statement_232 rfl (lv_at hl 0 rfl) ?_
                  refine va_get (D := D) (ci := 7) (v := .ref (a 13)) (C := RX7) (T := TX7) (N := 29) hx hb htg ig_7 hown hK hP 0 (oh_wg (Nat.lt_of_lt_of_le (by decide) hn) (sM_0 hT)) rfl 17 (by decide) (htg _ q_990) (fun _ h9 => h9) rfl dX7_statement_233 ?_
                  refine lv_iconst (v := 0) hx hb dX7_statement_236 (by decide) ?_
                  refine lv_iconst (v := 0) hx hb dX7_statement_237 (by decide) ?_
                  refine lv_sipush (v := 900) hx hb dX7_statement_238 (by decide) ?_
                  have : 0 ≤ (gi (C 0) 21).toInt ∧ (gi (C 0) 21).toInt ≤ 250 := fM_0_21 hT0
                  have : 0 ≤ (gi (C 0) 7).toInt ∧ (gi (C 0) 7).toInt ≤ 250 := fM_0_7 hT0
                  have : 0 ≤ (gi (C 0) 23).toInt ∧ (gi (C 0) 23).toInt ≤ 250 := fM_0_23 hT0
                  have : 0 ≤ (gi (C 0) 13).toInt ∧ (gi (C 0) 13).toInt ≤ 5 := fM_0_13 hT0
                  have : (16 : Int32).toInt = 16 := rfl
                  have : (16 : Int32).toInt ≤ (gi (C 0) 11).toInt := Int32.le_iff_toInt_le.mp c_191
                  have : (5 : Int32).toInt = 5 := rfl
                  have : (5 : Int32).toInt ≤ (gi (C 0) 13).toInt := Int32.le_iff_toInt_le.mp c_261
                  have : (5 : Int32).toInt ≤ (gi (C 0) 15).toInt := Int32.le_iff_toInt_le.mp c_282
                  refine tm_V (As := [.ref (G (3 + 32)), .ref (a 13), .int 0, .int 0, .int 900]) (rest := []) ⟨hx, hb, hml, hown, htg⟩ (e_X7_told l D E G _ a C n hn hT 32 13 (0 : Int32) (0 : Int32) (900 : Int32) (by decide) (rg_w (rg_c (v := 0) (lo := 0) (hi := 0) (by decide)) (by decide)) (rg_w (rg_c (v := 900) (lo := 900) (hi := 900) (by decide)) (by decide)) ⟨(Nat.lt_of_lt_of_le (by decide) hn), (by decide), 3, fun C h => (sM_13 h), (rg_in (rg_c (v := 0) (lo := 0) (hi := 0) (by decide)) (by decide)), fun C v h h1 h2 => (h.up 13 (by decide) (tA_upd (tM_13 h) tA_any))⟩ (by omega) hfg (by omega) (by decide)) (cwV 5 htg (oh_gV q_1234 q_1236 q_45 q_73 q_1237) rfl rfl rfl pdVX7_told ⟨Nat.le_of_ble_eq_true rfl, Nat.le_of_ble_eq_true rfl⟩) hK hP hD hG hS hA (va_recv hK hP (ci := 7) (q0 := 0) rfl (oh_wg (Nat.lt_of_lt_of_le (by decide) hn) (sM_0 hT))) rfl hl.1 rfl (Nat.le_of_ble_eq_true rfl) dX7_statement_241 ⟨Nat.le_of_ble_eq_true rfl, Nat.le_of_ble_eq_true rfl⟩ (fun r_293 C_294 H locs hq_295 hP hD hS => ?_)
                  obtain ⟨hT, f_296, hq_295⟩ := hq_295
                  have hF := fr_trk hF f_296 (by decide) (by decide)
                  refine W.widen (k := 0) (n := 0) (Nat.le_refl _) (Nat.le_refl _) ?_
                  have t_297 := hT
                  have : (gi (C_294 0) 7).toInt = (gi (C 0) 7).toInt := congrArg (fun z => (vi z).toInt) (f_296.2 7 (by decide))
                  have : (gi (C_294 0) 13).toInt = (gi (C 0) 13).toInt := congrArg (fun z => (vi z).toInt) (f_296.2 13 (by decide))
                  have : 0 ≤ (gi (C_294 0) 21).toInt ∧ (gi (C_294 0) 21).toInt ≤ 250 := fM_0_21 t_297
                  have : 0 ≤ (gi (C_294 0) 7).toInt ∧ (gi (C_294 0) 7).toInt ≤ 250 := fM_0_7 t_297
                  have : 0 ≤ (gi (C_294 0) 23).toInt ∧ (gi (C_294 0) 23).toInt ≤ 250 := fM_0_23 t_297
                  have : 0 ≤ (gi (C_294 0) 13).toInt ∧ (gi (C_294 0) 13).toInt ≤ 5 := fM_0_13 t_297
                  rw [hQ]
                  exact W.zret (v := r_293) (ty := .boolean) hx hb hr (oh_nb hq_295.1) (fun t ht hW => ⟨⟨r_293, C_294, rfl, ⟨hT, hF, ⟨hq_295.1, ⟨hq_295.2.1.1, hq_295.2.1.2⟩, (fun h9 => (hq_295.2.2.2.2.1 h9)), (RelW.fr hR (fr_trk (mc := [(13, 14)]) (mf := [21, 22, 23, 24, 25]) fr_rf f_296 (by decide) (by decide)) (by decide)), (by omega), (absurd u_260.2 (XIs_x (i := 22) (by decide) (by decide) (by decide) u_190.2)), hq_295.2.2.2.2.2.2.2.2.1, hq_295.2.2.2.2.2.2.2.2.2⟩⟩, ⟨by rw [ht]; exact hP, hD⟩⟩, hS.F ht⟩) hS.2.2 dX7_statement_244
              · refine lv_aload_n hx hb dX7_statement_164 rfl (lv_at hl 0 rfl) ?_
                refine va_ldcS hx hb hown (hG.2.2.1 ("OneHeavyLoadModel", 214, "part", 34) (List.mem_of_getElem? (i := 31) rfl)) dX7_statement_165 ?_
                refine lv_aload_n hx hb dX7_statement_167 rfl (lv_at hl 0 rfl) ?_
                refine va_get (D := D) (ci := 7) (v := .ref (a 12)) (C := RX7) (T := TX7) (N := 29) hx hb htg ig_7 hown hK hP 0 (oh_wg (Nat.lt_of_lt_of_le (by decide) hn) (sM_0 hT)) rfl 16 (by decide) (htg _ q_989) (fun _ h9 => h9) rfl dX7_statement_168 ?_
                refine lv_aload_n hx hb dX7_statement_171 rfl (lv_at hl 0 rfl) ?_
                refine va_get (D := D) (ci := 7) (v := .int (gi (C 0) 15)) (C := RX7) (T := TX7) (N := 29) hx hb htg ig_7 hown hK hP 0 (oh_wg (Nat.lt_of_lt_of_le (by decide) hn) (sM_0 hT)) rfl 15 (by decide) (htg _ q_988) (fun _ h9 => h9) rfl dX7_statement_172 ?_
                have n_298 : vp_in (gi (C 0) 15) 5 := (rg_in (rn_ltu (u' := 4) (Int32.not_le.mp c_282) (fM_0_15 hT0) (rg_c (v := 5) (lo := 5) (hi := 5) (by decide)) (by decide)) (by decide))
                have b_299 : (gi (C 0) 15).toNatClampNeg < 5 := vp_lt n_298
                refine th_aald hx hb hK hP 12 2 (Nat.lt_of_lt_of_le (by decide) hn) (sM_12 hT) rfl n_298 dX7_statement_175 ?_
                refine lv_iconst (v := 0) hx hb dX7_statement_176 (by decide) ?_
                refine lv_iconst (v := 1) hx hb dX7_statement_177 (by decide) ?_
                refine lv_bipush (v := 99) hx hb dX7_statement_178 (by decide) ?_
                have : 0 ≤ (gi (C 0) 21).toInt ∧ (gi (C 0) 21).toInt ≤ 250 := fM_0_21 hT0
                have : 0 ≤ (gi (C 0) 7).toInt ∧ (gi (C 0) 7).toInt ≤ 250 := fM_0_7 hT0
                have : 0 ≤ (gi (C 0) 23).toInt ∧ (gi (C 0) 23).toInt ≤ 250 := fM_0_23 hT0
                have : 0 ≤ (gi (C 0) 13).toInt ∧ (gi (C 0) 13).toInt ≤ 5 := fM_0_13 hT0
                have : (16 : Int32).toInt = 16 := rfl
                have : (16 : Int32).toInt ≤ (gi (C 0) 11).toInt := Int32.le_iff_toInt_le.mp c_191
                have : (5 : Int32).toInt = 5 := rfl
                have : (5 : Int32).toInt ≤ (gi (C 0) 13).toInt := Int32.le_iff_toInt_le.mp c_261
                have : (gi (C 0) 15).toInt < (5 : Int32).toInt := Int32.lt_iff_toInt_lt.mp (Int32.not_le.mp c_282)
                refine tm_V (As := [.ref (G (3 + 31)), .ref (a (69 + (gi (C 0) 15).toNatClampNeg)), .int 0, .int 1, .int 99]) (rest := []) ⟨hx, hb, hml, hown, htg⟩ (e_X7_told l D E G _ a C n hn hT 31 (69 + (gi (C 0) 15).toNatClampNeg) (0 : Int32) (1 : Int32) (99 : Int32) (by decide) (rg_w (rg_c (v := 1) (lo := 1) (hi := 1) (by decide)) (by decide)) (rg_w (rg_c (v := 99) (lo := 99) (hi := 99) (by decide)) (by decide)) ⟨(lt_blk b_299 hn (by decide)), (by omega), 2, fun C h => (h.bpart b_299).1, (rg_in (rg_c (v := 0) (lo := 0) (hi := 0) (by decide)) (by decide)), fun C v h h1 h2 => (h.uppart b_299 (tA_upd (h.bpart b_299) tA_any))⟩ (by omega) hfg (by omega) (by omega)) (cwV 5 htg (oh_gV q_1234 q_1236 q_45 q_73 q_1237) rfl rfl rfl pdVX7_told ⟨Nat.le_of_ble_eq_true rfl, Nat.le_of_ble_eq_true rfl⟩) hK hP hD hG hS hA (va_recv hK hP (ci := 7) (q0 := 0) rfl (oh_wg (Nat.lt_of_lt_of_le (by decide) hn) (sM_0 hT))) rfl hl.1 rfl (Nat.le_of_ble_eq_true rfl) dX7_statement_180 ⟨Nat.le_of_ble_eq_true rfl, Nat.le_of_ble_eq_true rfl⟩ (fun r_300 C_301 H locs hq_302 hP hD hS => ?_)
                obtain ⟨hT, f_303, hq_302⟩ := hq_302
                have hF := fr_trk hF f_303 (inR_of (p := (69, 74)) (by decide) (by show 69 ≤ _; omega) (by show _ < 74; omega)) (by decide)
                refine W.widen (k := 0) (n := 0) (Nat.le_refl _) (Nat.le_refl _) ?_
                have t_304 := hT
                refine lv_if_eq (tgt := 206) hx hb dX7_statement_183 (by decide) (fun (c_305 : r_300 = 0) => ?_) (fun (c_305 : ¬ (r_300 = 0)) => ?_)
                · have u_306 := hq_302.2.2.2.2.2.2.1 c_305
                  have u_307 := hq_302.2.2.2.2.2.2.2.1 c_305
                  refine lv_iconst (v := 0) hx hb dX7_statement_206 (by decide) ?_
                  have : (gi (C_301 0) 7).toInt = (gi (C 0) 7).toInt := congrArg (fun z => (vi z).toInt) (f_303.2 7 (by decide))
                  have : (gi (C_301 0) 13).toInt = (gi (C 0) 13).toInt := congrArg (fun z => (vi z).toInt) (f_303.2 13 (by decide))
                  have : 0 ≤ (gi (C_301 0) 21).toInt ∧ (gi (C_301 0) 21).toInt ≤ 250 := fM_0_21 t_304
                  have : 0 ≤ (gi (C_301 0) 7).toInt ∧ (gi (C_301 0) 7).toInt ≤ 250 := fM_0_7 t_304
                  have : 0 ≤ (gi (C_301 0) 23).toInt ∧ (gi (C_301 0) 23).toInt ≤ 250 := fM_0_23 t_304
                  have : 0 ≤ (gi (C_301 0) 13).toInt ∧ (gi (C_301 0) 13).toInt ≤ 5 := fM_0_13 t_304
                  rw [hQ]
                  exact W.zret (v := 0) (ty := .boolean) hx hb hr (by decide) (fun t ht hW => ⟨⟨0, C_301, rfl, ⟨hT, hF, ⟨(Or.inl rfl), ⟨hq_302.2.1.1, hq_302.2.1.2⟩, (fun h9 => absurd rfl h9), (RelW.fr hR (fr_trk (mc := [(69, 74)]) (mf := [21, 22, 23, 24, 25]) fr_rf f_303 (inR_of (p := (69, 74)) (by decide) (by show 69 ≤ _; omega) (by show _ < 74; omega)) (by decide)) (by decide)), (by omega), (absurd u_260.2 (XIs_x (i := 22) (by decide) (by decide) (by decide) u_190.2)), hq_302.2.2.2.2.2.2.2.2.1, hq_302.2.2.2.2.2.2.2.2.2⟩⟩, ⟨by rw [ht]; exact hP, hD⟩⟩, hS.F ht⟩) hS.2.2 dX7_statement_207
                · have u_308 := hq_302.2.2.2.1 c_305
                  have u_309 := hq_302.2.2.2.2.1 c_305
                  have u_310 := hq_302.2.2.2.2.2.1 c_305
                  refine lv_aload_n hx hb dX7_statement_186 rfl (lv_at hl 0 rfl) ?_
                  refine lv_aload_n hx hb dX7_statement_187 rfl (lv_at hl 0 rfl) ?_
                  refine va_get (D := D) (ci := 7) (v := .ref (a 12)) (C := RX7) (T := TX7) (N := 29) hx hb htg ig_7 hown hK hP 0 (oh_wg (Nat.lt_of_lt_of_le (by decide) hn) (sM_0 hT)) rfl 16 (by decide) (htg _ q_989) (fun _ h9 => h9) rfl dX7_statement_188 ?_
                  refine lv_aload_n hx hb dX7_statement_191 rfl (lv_at hl 0 rfl) ?_
                  refine va_get (D := D) (ci := 7) (v := .int (gi (C 0) 15)) (C := RX7) (T := TX7) (N := 29) hx hb htg ig_7 hown hK hP 0 (oh_wg (Nat.lt_of_lt_of_le (by decide) hn) (sM_0 hT)) rfl 15 (by decide) (htg _ q_988) (fun _ h9 => h9) (oh_fv (c := C_301 0) (j := 15) rfl (congrArg vi (f_303.2 15 (by decide)))) dX7_statement_192 ?_
                  have n_311 : vp_in (gi (C 0) 15) 5 := (rg_in (rn_ltu (u' := 4) (Int32.not_le.mp c_282) (fM_0_15 hT0) (rg_c (v := 5) (lo := 5) (hi := 5) (by decide)) (by decide)) (by decide))
                  have b_312 : (gi (C 0) 15).toNatClampNeg < 5 := vp_lt n_311
                  refine th_aald hx hb hK hP 12 2 (Nat.lt_of_lt_of_le (by decide) hn) (sM_12 hT) rfl n_311 dX7_statement_195 ?_
                  refine lv_iconst (v := 1) hx hb dX7_statement_196 (by decide) ?_
                  refine lv_iconst (v := 0) hx hb dX7_statement_197 (by decide) ?_
                  refine lv_bipush (v := 99) hx hb dX7_statement_198 (by decide) ?_
                  have : (gi (C_301 0) 7).toInt = (gi (C 0) 7).toInt := congrArg (fun z => (vi z).toInt) (f_303.2 7 (by decide))
                  have : (gi (C_301 0) 13).toInt = (gi (C 0) 13).toInt := congrArg (fun z => (vi z).toInt) (f_303.2 13 (by decide))
                  have : 0 ≤ (gi (C_301 0) 21).toInt ∧ (gi (C_301 0) 21).toInt ≤ 250 := fM_0_21 t_304
                  have : 0 ≤ (gi (C_301 0) 7).toInt ∧ (gi (C_301 0) 7).toInt ≤ 250 := fM_0_7 t_304
                  have : 0 ≤ (gi (C_301 0) 23).toInt ∧ (gi (C_301 0) 23).toInt ≤ 250 := fM_0_23 t_304
                  have : 0 ≤ (gi (C_301 0) 13).toInt ∧ (gi (C_301 0) 13).toInt ≤ 5 := fM_0_13 t_304
                  refine tm_V (As := [.ref (a (69 + (gi (C 0) 15).toNatClampNeg)), .int 1, .int 0, .int 99]) (rest := []) ⟨hx, hb, hml, hown, htg⟩ (e_X7_number l D E G _ a C_301 n hn hT (69 + (gi (C 0) 15).toNatClampNeg) (1 : Int32) (0 : Int32) (99 : Int32) (rg_w (rg_c (v := 0) (lo := 0) (hi := 0) (by decide)) (by decide)) (rg_w (rg_c (v := 99) (lo := 99) (hi := 99) (by decide)) (by decide)) ⟨(lt_blk b_312 hn (by decide)), (by omega), 2, fun C h => (h.bpart b_312).1, (rg_in (rg_c (v := 1) (lo := 1) (hi := 1) (by decide)) (by decide)), fun C v h h1 h2 => (h.uppart b_312 (tA_upd (h.bpart b_312) tA_any))⟩ (by omega) hq_302.2.2.2.2.2.2.2.2.1 (by omega) (by omega)) (cwV 4 htg (oh_gV q_1225 q_1227 q_43 q_73 q_1228) rfl rfl rfl pdVX7_number ⟨Nat.le_of_ble_eq_true rfl, Nat.le_of_ble_eq_true rfl⟩) hK hP hD hG hS hA (va_recv hK hP (ci := 7) (q0 := 0) rfl (oh_wg (Nat.lt_of_lt_of_le (by decide) hn) (sM_0 hT))) rfl hl.1 rfl (Nat.le_of_ble_eq_true rfl) dX7_statement_200 ⟨Nat.le_of_ble_eq_true rfl, Nat.le_of_ble_eq_true rfl⟩ (fun r_313 C_314 H locs hq_315 hP hD hS => ?_)
                  obtain ⟨hT, f_316, hq_315⟩ := hq_315
                  have hF := fr_trk hF f_316 (inR_of (p := (69, 74)) (by decide) (by show 69 ≤ _; omega) (by show _ < 74; omega)) (by decide)
                  refine W.widen (k := 0) (n := 0) (Nat.le_refl _) (Nat.le_refl _) ?_
                  have t_317 := hT
                  refine lv_if_ne (tgt := 208) hx hb dX7_statement_203 (by decide) (fun (c_318 : ¬ (r_313 = 0)) => ?_) (fun (c_318 : r_313 = 0) => ?_)
                  · have u_319 := hq_315.2.2.2.1 c_318
                    have u_320 := hq_315.2.2.2.2.1 c_318
                    refine lv_aload_n hx hb dX7_statement_208 rfl (lv_at hl 0 rfl) ?_
                    refine lv_dup hx hb dX7_statement_209 rfl ?_
                    refine va_get (D := D) (ci := 7) (v := .int (gi (C 0) 15)) (C := RX7) (T := TX7) (N := 29) hx hb htg ig_7 hown hK hP 0 (oh_wg (Nat.lt_of_lt_of_le (by decide) hn) (sM_0 hT)) rfl 15 (by decide) (htg _ q_988) (fun _ h9 => h9) (oh_fv (c := C_314 0) (j := 15) rfl (Eq.trans (congrArg vi (f_316.2 15 (by decide))) (congrArg vi (f_303.2 15 (by decide))))) dX7_statement_210 ?_
                    refine lv_iconst (v := 1) hx hb dX7_statement_213 (by decide) ?_
                    refine lv_iadd hx hb dX7_statement_214 ?_
                    refine th_put (Tp := TyM a E) (Rl := fr [(13, 14), (24, 48), (48, 64), (64, 69), (69, 74)] [9, 11, 13, 15, 21, 22, 23, 24, 25] C) (ci := 7) (v := .int ((gi (C 0) 15) + 1)) (ty := .int) (CC := RX7) (T := TX7) (N := 29) hx hb htg ig_7 tyX7 tyX7_ok nmX7 hown hK hP hD hS 0 (Nat.lt_of_lt_of_le (by decide) hn) (sM_0 hT) rfl 15 (by decide) (htg _ q_988) (fun _ h9 => h9) rfl (by decide +kernel) rfl rfl (Nat.le_of_ble_eq_true rfl) (hT.up 0 (by decide) ⟨rfl, (fM_0_7 hT), (fM_0_9 hT), (fM_0_11 hT), (fM_0_13 hT), (rg_w (rg_add (lo := 1) (hi := 5) (rn_ltu (u' := 4) (Int32.not_le.mp c_282) (fM_0_15 hT0) (rg_c (v := 5) (lo := 5) (hi := 5) (by decide)) (by decide)) (rg_c (v := 1) (lo := 1) (hi := 1) (by decide)) (by decide)) (by decide)), (fM_0_21 hT), (fM_0_23 hT)⟩) (fr_fd hF (sM_0 hT) (by decide)) dX7_statement_215 (fun C_321 H locs e_322 hT hF hP hD hS => ?_)
                    have t_323 := hT
                    refine lv_iconst (v := 1) hx hb dX7_statement_218 (by decide) ?_
                    have : (gi (C_314 0) 7).toInt = (gi (C_301 0) 7).toInt := congrArg (fun z => (vi z).toInt) (f_316.2 7 (by decide))
                    have : (gi (C_314 0) 13).toInt = (gi (C_301 0) 13).toInt := congrArg (fun z => (vi z).toInt) (f_316.2 13 (by decide))
                    have : (gi (C_321 0) 21).toInt = (gi (C_314 0) 21).toInt := congrArg Int32.toInt (show gi (C_321 0) 21 = gi (C_314 0) 21 by rw [e_322]; rfl)
                    have : (gi (C_321 0) 7).toInt = (gi (C_314 0) 7).toInt := congrArg Int32.toInt (show gi (C_321 0) 7 = gi (C_314 0) 7 by rw [e_322]; rfl)
                    have : (gi (C_321 0) 23).toInt = (gi (C_314 0) 23).toInt := congrArg Int32.toInt (show gi (C_321 0) 23 = gi (C_314 0) 23 by rw [e_322]; rfl)
                    have : (gi (C_321 0) 13).toInt = (gi (C_314 0) 13).toInt := congrArg Int32.toInt (show gi (C_321 0) 13 = gi (C_314 0) 13 by rw [e_322]; rfl)
                    have : 0 ≤ (gi (C_314 0) 21).toInt ∧ (gi (C_314 0) 21).toInt ≤ 250 := fM_0_21 t_317
                    have : 0 ≤ (gi (C_314 0) 7).toInt ∧ (gi (C_314 0) 7).toInt ≤ 250 := fM_0_7 t_317
                    have : 0 ≤ (gi (C_314 0) 23).toInt ∧ (gi (C_314 0) 23).toInt ≤ 250 := fM_0_23 t_317
                    have : 0 ≤ (gi (C_314 0) 13).toInt ∧ (gi (C_314 0) 13).toInt ≤ 5 := fM_0_13 t_317
                    have : 0 ≤ (gi (C_321 0) 21).toInt ∧ (gi (C_321 0) 21).toInt ≤ 250 := fM_0_21 t_323
                    have : 0 ≤ (gi (C_321 0) 7).toInt ∧ (gi (C_321 0) 7).toInt ≤ 250 := fM_0_7 t_323
                    have : 0 ≤ (gi (C_321 0) 23).toInt ∧ (gi (C_321 0) 23).toInt ≤ 250 := fM_0_23 t_323
                    have : 0 ≤ (gi (C_321 0) 13).toInt ∧ (gi (C_321 0) 13).toInt ≤ 5 := fM_0_13 t_323
                    rw [hQ]
                    exact W.zret (v := 1) (ty := .boolean) hx hb hr (by decide) (fun t ht hW => ⟨⟨1, C_321, rfl, ⟨hT, hF, ⟨(Or.inr rfl), ⟨(by omega), (by omega)⟩, (fun _ => (by omega)), (RelW.fr (RelW.fr (RelW.fr hR (fr_trk (mc := [(69, 74)]) (mf := [21, 22, 23, 24, 25]) fr_rf f_303 (inR_of (p := (69, 74)) (by decide) (by show 69 ≤ _; omega) (by show _ < 74; omega)) (by decide)) (by decide)) (fr_trk (mc := [(69, 74)]) (mf := [21, 22, 23, 24, 25]) fr_rf f_316 (inR_of (p := (69, 74)) (by decide) (by show 69 ≤ _; omega) (by show _ < 74; omega)) (by decide)) (by decide)) (fr_fde (mc := []) (mf := [15]) fr_rf e_322 (sM_0 t_317) (by decide)) (by decide)), (by omega), (absurd u_260.2 (XIs_x (i := 22) (by decide) (by decide) (by decide) u_190.2)), (fgF (j := 15) hq_315.2.2.2.2.2.2.2.1 e_322 (sM_0 t_317) (by decide)), (by omega)⟩⟩, ⟨by rw [ht]; exact hP, hD⟩⟩, hS.F ht⟩) hS.2.2 dX7_statement_219
                  · have u_324 := hq_315.2.2.2.2.2.1 c_318
                    have u_325 := hq_315.2.2.2.2.2.2.1 c_318
                    refine lv_iconst (v := 0) hx hb dX7_statement_206 (by decide) ?_
                    have : (gi (C_314 0) 7).toInt = (gi (C_301 0) 7).toInt := congrArg (fun z => (vi z).toInt) (f_316.2 7 (by decide))
                    have : (gi (C_314 0) 13).toInt = (gi (C_301 0) 13).toInt := congrArg (fun z => (vi z).toInt) (f_316.2 13 (by decide))
                    have : 0 ≤ (gi (C_314 0) 21).toInt ∧ (gi (C_314 0) 21).toInt ≤ 250 := fM_0_21 t_317
                    have : 0 ≤ (gi (C_314 0) 7).toInt ∧ (gi (C_314 0) 7).toInt ≤ 250 := fM_0_7 t_317
                    have : 0 ≤ (gi (C_314 0) 23).toInt ∧ (gi (C_314 0) 23).toInt ≤ 250 := fM_0_23 t_317
                    have : 0 ≤ (gi (C_314 0) 13).toInt ∧ (gi (C_314 0) 13).toInt ≤ 5 := fM_0_13 t_317
                    rw [hQ]
                    exact W.zret (v := 0) (ty := .boolean) hx hb hr (by decide) (fun t ht hW => ⟨⟨0, C_314, rfl, ⟨hT, hF, ⟨(Or.inl rfl), ⟨(by omega), hq_315.2.1.2⟩, (fun h9 => absurd rfl h9), (RelW.fr (RelW.fr hR (fr_trk (mc := [(69, 74)]) (mf := [21, 22, 23, 24, 25]) fr_rf f_303 (inR_of (p := (69, 74)) (by decide) (by show 69 ≤ _; omega) (by show _ < 74; omega)) (by decide)) (by decide)) (fr_trk (mc := [(69, 74)]) (mf := [21, 22, 23, 24, 25]) fr_rf f_316 (inR_of (p := (69, 74)) (by decide) (by show 69 ≤ _; omega) (by show _ < 74; omega)) (by decide)) (by decide)), (by omega), (absurd u_260.2 (XIs_x (i := 22) (by decide) (by decide) (by decide) u_190.2)), hq_315.2.2.2.2.2.2.2.1, hq_315.2.2.2.2.2.2.2.2⟩⟩, ⟨by rw [ht]; exact hP, hD⟩⟩, hS.F ht⟩) hS.2.2 dX7_statement_207
          · refine lv_aload_n hx hb dX7_statement_81 rfl (lv_at hl 0 rfl) ?_
            refine va_get (D := D) (ci := 7) (v := .ref (a 11)) (C := RX7) (T := TX7) (N := 29) hx hb htg ig_7 hown hK hP 0 (oh_wg (Nat.lt_of_lt_of_le (by decide) hn) (sM_0 hT)) rfl 14 (by decide) (htg _ q_987) (fun _ h9 => h9) rfl dX7_statement_82 ?_
            refine lv_aload_n hx hb dX7_statement_85 rfl (lv_at hl 0 rfl) ?_
            refine va_get (D := D) (ci := 7) (v := .int (gi (C 0) 13)) (C := RX7) (T := TX7) (N := 29) hx hb htg ig_7 hown hK hP 0 (oh_wg (Nat.lt_of_lt_of_le (by decide) hn) (sM_0 hT)) rfl 13 (by decide) (htg _ q_986) (fun _ h9 => h9) rfl dX7_statement_86 ?_
            have n_326 : vp_in (gi (C 0) 13) 5 := (rg_in (rn_ltu (u' := 4) (Int32.not_le.mp c_261) (fM_0_13 hT0) (rg_c (v := 5) (lo := 5) (hi := 5) (by decide)) (by decide)) (by decide))
            have b_327 : (gi (C 0) 13).toNatClampNeg < 5 := vp_lt n_326
            refine th_aald hx hb hK hP 11 2 (Nat.lt_of_lt_of_le (by decide) hn) (sM_11 hT) rfl n_326 dX7_statement_89 ?_
            refine lv_astore_n (lv' := [(1, .ref (a (64 + (gi (C 0) 13).toNatClampNeg))), (0, .ref (a 0))]) hx hb dX7_statement_90 rfl hl (by decide) rfl (fun ls hl => ?_)
            refine lv_aload_n hx hb dX7_statement_91 rfl (lv_at hl 1 rfl) ?_
            refine va_ldcS hx hb hown (hG.2.2.1 ("OneHeavyLoadModel", 209, "waggon", 31) (List.mem_of_getElem? (i := 28) rfl)) dX7_statement_92 ?_
            refine lv_aload_n hx hb dX7_statement_94 rfl (lv_at hl 0 rfl) ?_
            refine lv_iconst (v := 0) hx hb dX7_statement_95 (by decide) ?_
            refine lv_iconst (v := 2) hx hb dX7_statement_96 (by decide) ?_
            refine lv_bipush (v := 12) hx hb dX7_statement_97 (by decide) ?_
            have : 0 ≤ (gi (C 0) 21).toInt ∧ (gi (C 0) 21).toInt ≤ 250 := fM_0_21 hT0
            have : 0 ≤ (gi (C 0) 7).toInt ∧ (gi (C 0) 7).toInt ≤ 250 := fM_0_7 hT0
            have : 0 ≤ (gi (C 0) 23).toInt ∧ (gi (C 0) 23).toInt ≤ 250 := fM_0_23 hT0
            have : 0 ≤ (gi (C 0) 13).toInt ∧ (gi (C 0) 13).toInt ≤ 5 := fM_0_13 hT0
            have : (16 : Int32).toInt = 16 := rfl
            have : (16 : Int32).toInt ≤ (gi (C 0) 11).toInt := Int32.le_iff_toInt_le.mp c_191
            have : (5 : Int32).toInt = 5 := rfl
            have : (gi (C 0) 13).toInt < (5 : Int32).toInt := Int32.lt_iff_toInt_lt.mp (Int32.not_le.mp c_261)
            refine tm_V (As := [.ref (G (3 + 28)), .ref (a (64 + (gi (C 0) 13).toNatClampNeg)), .int 0, .int 2, .int 12]) (rest := []) ⟨hx, hb, hml, hown, htg⟩ (e_X7_told l D E G _ a C n hn hT 28 (64 + (gi (C 0) 13).toNatClampNeg) (0 : Int32) (2 : Int32) (12 : Int32) (by decide) (rg_w (rg_c (v := 2) (lo := 2) (hi := 2) (by decide)) (by decide)) (rg_w (rg_c (v := 12) (lo := 12) (hi := 12) (by decide)) (by decide)) ⟨(lt_blk b_327 hn (by decide)), (by omega), 3, fun C h => (h.bwaggon b_327).1, (rg_in (rg_c (v := 0) (lo := 0) (hi := 0) (by decide)) (by decide)), fun C v h h1 h2 => (h.upwaggon b_327 (tA_upd (h.bwaggon b_327) (tA_stc (k := 0) (by decide) (oh_rgle (lo := 0) (hi := 12) h1 h2 (by decide)) (by decide))))⟩ (by omega) hfg (by omega) (by omega)) (cwV 5 htg (oh_gV q_1234 q_1236 q_45 q_73 q_1237) rfl rfl rfl pdVX7_told ⟨Nat.le_of_ble_eq_true rfl, Nat.le_of_ble_eq_true rfl⟩) hK hP hD hG hS hA (va_recv hK hP (ci := 7) (q0 := 0) rfl (oh_wg (Nat.lt_of_lt_of_le (by decide) hn) (sM_0 hT))) rfl hl.1 rfl (Nat.le_of_ble_eq_true rfl) dX7_statement_99 ⟨Nat.le_of_ble_eq_true rfl, Nat.le_of_ble_eq_true rfl⟩ (fun r_328 C_329 H locs hq_330 hP hD hS => ?_)
            obtain ⟨hT, f_331, hq_330⟩ := hq_330
            have hF := fr_trk hF f_331 (inR_of (p := (64, 69)) (by decide) (by show 64 ≤ _; omega) (by show _ < 69; omega)) (by decide)
            refine W.widen (k := 0) (n := 0) (Nat.le_refl _) (Nat.le_refl _) ?_
            have t_332 := hT
            refine lv_if_eq (tgt := 133) hx hb dX7_statement_102 (by decide) (fun (c_333 : r_328 = 0) => ?_) (fun (c_333 : ¬ (r_328 = 0)) => ?_)
            · have u_334 := hq_330.2.2.2.2.2.2.1 c_333
              have u_335 := hq_330.2.2.2.2.2.2.2.1 c_333
              refine lv_iconst (v := 0) hx hb dX7_statement_133 (by decide) ?_
              have : (gi (C_329 0) 7).toInt = (gi (C 0) 7).toInt := congrArg (fun z => (vi z).toInt) (f_331.2 7 (by decide))
              have : (gi (C_329 0) 13).toInt = (gi (C 0) 13).toInt := congrArg (fun z => (vi z).toInt) (f_331.2 13 (by decide))
              have : 0 ≤ (gi (C_329 0) 21).toInt ∧ (gi (C_329 0) 21).toInt ≤ 250 := fM_0_21 t_332
              have : 0 ≤ (gi (C_329 0) 7).toInt ∧ (gi (C_329 0) 7).toInt ≤ 250 := fM_0_7 t_332
              have : 0 ≤ (gi (C_329 0) 23).toInt ∧ (gi (C_329 0) 23).toInt ≤ 250 := fM_0_23 t_332
              have : 0 ≤ (gi (C_329 0) 13).toInt ∧ (gi (C_329 0) 13).toInt ≤ 5 := fM_0_13 t_332
              rw [hQ]
              exact W.zret (v := 0) (ty := .boolean) hx hb hr (by decide) (fun t ht hW => ⟨⟨0, C_329, rfl, ⟨hT, hF, ⟨(Or.inl rfl), ⟨hq_330.2.1.1, hq_330.2.1.2⟩, (fun h9 => absurd rfl h9), (relW_row (w := (gi (C 0) 13).toNatClampNeg) hR f_331 (oh_nat (fM_0_13 hT0) (by decide)) (by decide)), (by omega), (absurd u_260.2 (XIs_x (i := 22) (by decide) (by decide) (by decide) u_190.2)), hq_330.2.2.2.2.2.2.2.2.1, hq_330.2.2.2.2.2.2.2.2.2⟩⟩, ⟨by rw [ht]; exact hP, hD⟩⟩, hS.F ht⟩) hS.2.2 dX7_statement_134
            · have u_336 := hq_330.2.2.2.1 c_333
              have u_337 := hq_330.2.2.2.2.1 c_333
              have u_338 := hq_330.2.2.2.2.2.1 c_333
              refine lv_aload_n hx hb dX7_statement_105 rfl (lv_at hl 1 rfl) ?_
              refine va_ldcS hx hb hown (hG.2.2.1 ("OneHeavyLoadModel", 210, "space", 32) (List.mem_of_getElem? (i := 29) rfl)) dX7_statement_106 ?_
              refine lv_aload_n hx hb dX7_statement_108 rfl (lv_at hl 0 rfl) ?_
              refine lv_iconst (v := 1) hx hb dX7_statement_109 (by decide) ?_
              refine lv_iconst (v := 1) hx hb dX7_statement_110 (by decide) ?_
              refine lv_bipush (v := 9) hx hb dX7_statement_111 (by decide) ?_
              have : (gi (C_329 0) 7).toInt = (gi (C 0) 7).toInt := congrArg (fun z => (vi z).toInt) (f_331.2 7 (by decide))
              have : (gi (C_329 0) 13).toInt = (gi (C 0) 13).toInt := congrArg (fun z => (vi z).toInt) (f_331.2 13 (by decide))
              have : 0 ≤ (gi (C_329 0) 21).toInt ∧ (gi (C_329 0) 21).toInt ≤ 250 := fM_0_21 t_332
              have : 0 ≤ (gi (C_329 0) 7).toInt ∧ (gi (C_329 0) 7).toInt ≤ 250 := fM_0_7 t_332
              have : 0 ≤ (gi (C_329 0) 23).toInt ∧ (gi (C_329 0) 23).toInt ≤ 250 := fM_0_23 t_332
              have : 0 ≤ (gi (C_329 0) 13).toInt ∧ (gi (C_329 0) 13).toInt ≤ 5 := fM_0_13 t_332
              refine tm_V (As := [.ref (G (3 + 29)), .ref (a (64 + (gi (C 0) 13).toNatClampNeg)), .int 1, .int 1, .int 9]) (rest := []) ⟨hx, hb, hml, hown, htg⟩ (e_X7_told l D E G _ a C_329 n hn hT 29 (64 + (gi (C 0) 13).toNatClampNeg) (1 : Int32) (1 : Int32) (9 : Int32) (by decide) (rg_w (rg_c (v := 1) (lo := 1) (hi := 1) (by decide)) (by decide)) (rg_w (rg_c (v := 9) (lo := 9) (hi := 9) (by decide)) (by decide)) ⟨(lt_blk b_327 hn (by decide)), (by omega), 3, fun C h => (h.bwaggon b_327).1, (rg_in (rg_c (v := 1) (lo := 1) (hi := 1) (by decide)) (by decide)), fun C v h h1 h2 => (h.upwaggon b_327 (tA_upd (h.bwaggon b_327) (tA_stc (k := 1) (by decide) (oh_rgle (lo := 0) (hi := 9) h1 h2 (by decide)) (by decide))))⟩ (by omega) hq_330.2.2.2.2.2.2.2.2.1 (by omega) (by omega)) (cwV 5 htg (oh_gV q_1234 q_1236 q_45 q_73 q_1237) rfl rfl rfl pdVX7_told ⟨Nat.le_of_ble_eq_true rfl, Nat.le_of_ble_eq_true rfl⟩) hK hP hD hG hS hA (va_recv hK hP (ci := 7) (q0 := 0) rfl (oh_wg (Nat.lt_of_lt_of_le (by decide) hn) (sM_0 hT))) rfl hl.1 rfl (Nat.le_of_ble_eq_true rfl) dX7_statement_113 ⟨Nat.le_of_ble_eq_true rfl, Nat.le_of_ble_eq_true rfl⟩ (fun r_339 C_340 H locs hq_341 hP hD hS => ?_)
              obtain ⟨hT, f_342, hq_341⟩ := hq_341
              have hF := fr_trk hF f_342 (inR_of (p := (64, 69)) (by decide) (by show 64 ≤ _; omega) (by show _ < 69; omega)) (by decide)
              refine W.widen (k := 0) (n := 0) (Nat.le_refl _) (Nat.le_refl _) ?_
              have t_343 := hT
              refine lv_if_eq (tgt := 133) hx hb dX7_statement_116 (by decide) (fun (c_344 : r_339 = 0) => ?_) (fun (c_344 : ¬ (r_339 = 0)) => ?_)
              · have u_345 := hq_341.2.2.2.2.2.2.1 c_344
                have u_346 := hq_341.2.2.2.2.2.2.2.1 c_344
                refine lv_iconst (v := 0) hx hb dX7_statement_133 (by decide) ?_
                have : (gi (C_340 0) 7).toInt = (gi (C_329 0) 7).toInt := congrArg (fun z => (vi z).toInt) (f_342.2 7 (by decide))
                have : (gi (C_340 0) 13).toInt = (gi (C_329 0) 13).toInt := congrArg (fun z => (vi z).toInt) (f_342.2 13 (by decide))
                have : 0 ≤ (gi (C_340 0) 21).toInt ∧ (gi (C_340 0) 21).toInt ≤ 250 := fM_0_21 t_343
                have : 0 ≤ (gi (C_340 0) 7).toInt ∧ (gi (C_340 0) 7).toInt ≤ 250 := fM_0_7 t_343
                have : 0 ≤ (gi (C_340 0) 23).toInt ∧ (gi (C_340 0) 23).toInt ≤ 250 := fM_0_23 t_343
                have : 0 ≤ (gi (C_340 0) 13).toInt ∧ (gi (C_340 0) 13).toInt ≤ 5 := fM_0_13 t_343
                rw [hQ]
                exact W.zret (v := 0) (ty := .boolean) hx hb hr (by decide) (fun t ht hW => ⟨⟨0, C_340, rfl, ⟨hT, hF, ⟨(Or.inl rfl), ⟨(by omega), hq_341.2.1.2⟩, (fun h9 => absurd rfl h9), (relW_row (w := (gi (C 0) 13).toNatClampNeg) (relW_row (w := (gi (C 0) 13).toNatClampNeg) hR f_331 (oh_nat (fM_0_13 hT0) (by decide)) (by decide)) f_342 (by rw [(show gi (C_329 0) 13 = gi (C 0) 13 from congrArg vi (f_331.2 13 (by decide)))]; exact oh_nat (fM_0_13 hT0) (by decide)) (by decide)), (by omega), (absurd u_260.2 (XIs_x (i := 22) (by decide) (by decide) (by decide) u_190.2)), hq_341.2.2.2.2.2.2.2.2.1, hq_341.2.2.2.2.2.2.2.2.2⟩⟩, ⟨by rw [ht]; exact hP, hD⟩⟩, hS.F ht⟩) hS.2.2 dX7_statement_134
              · have u_347 := hq_341.2.2.2.1 c_344
                have u_348 := hq_341.2.2.2.2.1 c_344
                have u_349 := hq_341.2.2.2.2.2.1 c_344
                refine lv_aload_n hx hb dX7_statement_119 rfl (lv_at hl 1 rfl) ?_
                refine va_ldcS hx hb hown (hG.2.2.1 ("OneHeavyLoadModel", 212, "tare", 33) (List.mem_of_getElem? (i := 30) rfl)) dX7_statement_120 ?_
                refine lv_aload_n hx hb dX7_statement_122 rfl (lv_at hl 0 rfl) ?_
                refine lv_iconst (v := 2) hx hb dX7_statement_123 (by decide) ?_
                refine lv_iconst (v := 0) hx hb dX7_statement_124 (by decide) ?_
                refine lv_bipush (v := 99) hx hb dX7_statement_125 (by decide) ?_
                have : (gi (C_340 0) 7).toInt = (gi (C_329 0) 7).toInt := congrArg (fun z => (vi z).toInt) (f_342.2 7 (by decide))
                have : (gi (C_340 0) 13).toInt = (gi (C_329 0) 13).toInt := congrArg (fun z => (vi z).toInt) (f_342.2 13 (by decide))
                have : 0 ≤ (gi (C_340 0) 21).toInt ∧ (gi (C_340 0) 21).toInt ≤ 250 := fM_0_21 t_343
                have : 0 ≤ (gi (C_340 0) 7).toInt ∧ (gi (C_340 0) 7).toInt ≤ 250 := fM_0_7 t_343
                have : 0 ≤ (gi (C_340 0) 23).toInt ∧ (gi (C_340 0) 23).toInt ≤ 250 := fM_0_23 t_343
                have : 0 ≤ (gi (C_340 0) 13).toInt ∧ (gi (C_340 0) 13).toInt ≤ 5 := fM_0_13 t_343
                refine tm_V (As := [.ref (G (3 + 30)), .ref (a (64 + (gi (C 0) 13).toNatClampNeg)), .int 2, .int 0, .int 99]) (rest := []) ⟨hx, hb, hml, hown, htg⟩ (e_X7_told l D E G _ a C_340 n hn hT 30 (64 + (gi (C 0) 13).toNatClampNeg) (2 : Int32) (0 : Int32) (99 : Int32) (by decide) (rg_w (rg_c (v := 0) (lo := 0) (hi := 0) (by decide)) (by decide)) (rg_w (rg_c (v := 99) (lo := 99) (hi := 99) (by decide)) (by decide)) ⟨(lt_blk b_327 hn (by decide)), (by omega), 3, fun C h => (h.bwaggon b_327).1, (rg_in (rg_c (v := 2) (lo := 2) (hi := 2) (by decide)) (by decide)), fun C v h h1 h2 => (h.upwaggon b_327 (tA_upd (h.bwaggon b_327) (tA_stc (k := 2) (by decide) (rg_any _) (by decide))))⟩ (by omega) hq_341.2.2.2.2.2.2.2.2.1 (by omega) (by omega)) (cwV 5 htg (oh_gV q_1234 q_1236 q_45 q_73 q_1237) rfl rfl rfl pdVX7_told ⟨Nat.le_of_ble_eq_true rfl, Nat.le_of_ble_eq_true rfl⟩) hK hP hD hG hS hA (va_recv hK hP (ci := 7) (q0 := 0) rfl (oh_wg (Nat.lt_of_lt_of_le (by decide) hn) (sM_0 hT))) rfl hl.1 rfl (Nat.le_of_ble_eq_true rfl) dX7_statement_127 ⟨Nat.le_of_ble_eq_true rfl, Nat.le_of_ble_eq_true rfl⟩ (fun r_350 C_351 H locs hq_352 hP hD hS => ?_)
                obtain ⟨hT, f_353, hq_352⟩ := hq_352
                have hF := fr_trk hF f_353 (inR_of (p := (64, 69)) (by decide) (by show 64 ≤ _; omega) (by show _ < 69; omega)) (by decide)
                refine W.widen (k := 0) (n := 0) (Nat.le_refl _) (Nat.le_refl _) ?_
                have t_354 := hT
                refine lv_if_ne (tgt := 135) hx hb dX7_statement_130 (by decide) (fun (c_355 : ¬ (r_350 = 0)) => ?_) (fun (c_355 : r_350 = 0) => ?_)
                · have u_356 := hq_352.2.2.2.1 c_355
                  have u_357 := hq_352.2.2.2.2.1 c_355
                  have u_358 := hq_352.2.2.2.2.2.1 c_355
                  refine lv_aload_n hx hb dX7_statement_135 rfl (lv_at hl 1 rfl) ?_
                  refine lv_dup hx hb dX7_statement_136 rfl ?_
                  refine va_get (D := D) (ci := 7) (v := .int (gi (C 0) 13)) (C := RX7) (T := TX7) (N := 29) hx hb htg ig_7 hown hK hP 0 (oh_wg (Nat.lt_of_lt_of_le (by decide) hn) (sM_0 hT)) rfl 13 (by decide) (htg _ q_986) (fun _ h9 => h9) (oh_fv (c := C_351 0) (j := 13) rfl (Eq.trans (congrArg vi (f_353.2 13 (by decide))) (Eq.trans (congrArg vi (f_342.2 13 (by decide))) (congrArg vi (f_331.2 13 (by decide)))))) dX7_statement_137 ?_
                  refine lv_iconst (v := 1) hx hb dX7_statement_140 (by decide) ?_
                  refine lv_iadd hx hb dX7_statement_141 ?_
                  refine th_put (Tp := TyM a E) (Rl := fr [(13, 14), (24, 48), (48, 64), (64, 69), (69, 74)] [9, 11, 13, 15, 21, 22, 23, 24, 25] C) (ci := 7) (v := .int ((gi (C 0) 13) + 1)) (ty := .int) (CC := RX7) (T := TX7) (N := 29) hx hb htg ig_7 tyX7 tyX7_ok nmX7 hown hK hP hD hS 0 (Nat.lt_of_lt_of_le (by decide) hn) (sM_0 hT) rfl 13 (by decide) (htg _ q_986) (fun _ h9 => h9) rfl (by decide +kernel) rfl rfl (Nat.le_of_ble_eq_true rfl) (hT.up 0 (by decide) ⟨rfl, (fM_0_7 hT), (fM_0_9 hT), (fM_0_11 hT), (rg_w (rg_add (lo := 1) (hi := 5) (rn_ltu (u' := 4) (Int32.not_le.mp c_261) (fM_0_13 hT0) (rg_c (v := 5) (lo := 5) (hi := 5) (by decide)) (by decide)) (rg_c (v := 1) (lo := 1) (hi := 1) (by decide)) (by decide)) (by decide)), (fM_0_15 hT), (fM_0_21 hT), (fM_0_23 hT)⟩) (fr_fd hF (sM_0 hT) (by decide)) dX7_statement_142 (fun C_359 H locs e_360 hT hF hP hD hS => ?_)
                  have t_361 := hT
                  refine lv_iconst (v := 1) hx hb dX7_statement_145 (by decide) ?_
                  have : (gi (C_351 0) 7).toInt = (gi (C_340 0) 7).toInt := congrArg (fun z => (vi z).toInt) (f_353.2 7 (by decide))
                  have : (gi (C_351 0) 13).toInt = (gi (C_340 0) 13).toInt := congrArg (fun z => (vi z).toInt) (f_353.2 13 (by decide))
                  have : (gi (C_359 0) 21).toInt = (gi (C_351 0) 21).toInt := congrArg Int32.toInt (show gi (C_359 0) 21 = gi (C_351 0) 21 by rw [e_360]; rfl)
                  have : (gi (C_359 0) 7).toInt = (gi (C_351 0) 7).toInt := congrArg Int32.toInt (show gi (C_359 0) 7 = gi (C_351 0) 7 by rw [e_360]; rfl)
                  have : (gi (C_359 0) 23).toInt = (gi (C_351 0) 23).toInt := congrArg Int32.toInt (show gi (C_359 0) 23 = gi (C_351 0) 23 by rw [e_360]; rfl)
                  have : (gi (C_359 0) 13).toInt = ((gi (C 0) 13) + 1).toInt := congrArg Int32.toInt (show gi (C_359 0) 13 = ((gi (C 0) 13) + 1) by rw [e_360]; rfl)
                  have : ((gi (C 0) 13) + 1).toInt = (gi (C 0) 13).toInt + 1 := oh_incr (rn_ltu (u' := 4) (Int32.not_le.mp c_261) (fM_0_13 hT0) (rg_c (v := 5) (lo := 5) (hi := 5) (by decide)) (by decide)) (by decide)
                  have : 0 ≤ (gi (C_351 0) 21).toInt ∧ (gi (C_351 0) 21).toInt ≤ 250 := fM_0_21 t_354
                  have : 0 ≤ (gi (C_351 0) 7).toInt ∧ (gi (C_351 0) 7).toInt ≤ 250 := fM_0_7 t_354
                  have : 0 ≤ (gi (C_351 0) 23).toInt ∧ (gi (C_351 0) 23).toInt ≤ 250 := fM_0_23 t_354
                  have : 0 ≤ (gi (C_351 0) 13).toInt ∧ (gi (C_351 0) 13).toInt ≤ 5 := fM_0_13 t_354
                  have : 0 ≤ (gi (C_359 0) 21).toInt ∧ (gi (C_359 0) 21).toInt ≤ 250 := fM_0_21 t_361
                  have : 0 ≤ (gi (C_359 0) 7).toInt ∧ (gi (C_359 0) 7).toInt ≤ 250 := fM_0_7 t_361
                  have : 0 ≤ (gi (C_359 0) 23).toInt ∧ (gi (C_359 0) 23).toInt ≤ 250 := fM_0_23 t_361
                  have : 0 ≤ (gi (C_359 0) 13).toInt ∧ (gi (C_359 0) 13).toInt ≤ 5 := fM_0_13 t_361
                  rw [hQ]
                  exact W.zret (v := 1) (ty := .boolean) hx hb hr (by decide) (fun t ht hW => ⟨⟨1, C_359, rfl, ⟨hT, hF, ⟨(Or.inr rfl), ⟨(by omega), (by omega)⟩, (fun _ => (by omega)), (relW_inc (w := (gi (C 0) 13).toNatClampNeg) (relW_row (w := (gi (C 0) 13).toNatClampNeg) (relW_row (w := (gi (C 0) 13).toNatClampNeg) (relW_row (w := (gi (C 0) 13).toNatClampNeg) hR f_331 (oh_nat (fM_0_13 hT0) (by decide)) (by decide)) f_342 (by rw [(show gi (C_329 0) 13 = gi (C 0) 13 from congrArg vi (f_331.2 13 (by decide)))]; exact oh_nat (fM_0_13 hT0) (by decide)) (by decide)) f_353 (by rw [(Eq.trans (show gi (C_340 0) 13 = gi (C_329 0) 13 from congrArg vi (f_342.2 13 (by decide))) (show gi (C_329 0) 13 = gi (C 0) 13 from congrArg vi (f_331.2 13 (by decide))))]; exact oh_nat (fM_0_13 hT0) (by decide)) (by decide)) (by rw [(Eq.trans (show gi (C_351 0) 13 = gi (C_340 0) 13 from congrArg vi (f_353.2 13 (by decide))) (Eq.trans (show gi (C_340 0) 13 = gi (C_329 0) 13 from congrArg vi (f_342.2 13 (by decide))) (show gi (C_329 0) 13 = gi (C 0) 13 from congrArg vi (f_331.2 13 (by decide)))))]; exact oh_nat (fM_0_13 hT0) (by decide)) (fun k hk => th_un e_360 hk) (Eq.trans (congrArg Int32.toInt (show gi (C_359 0) 13 = (gi (C 0) 13) + 1 by rw [e_360]; rfl)) (by rw [(Eq.trans (show gi (C_351 0) 13 = gi (C_340 0) 13 from congrArg vi (f_353.2 13 (by decide))) (Eq.trans (show gi (C_340 0) 13 = gi (C_329 0) 13 from congrArg vi (f_342.2 13 (by decide))) (show gi (C_329 0) 13 = gi (C 0) 13 from congrArg vi (f_331.2 13 (by decide)))))]; exact oh_inc13 (fM_0_13 hT0))) (by rw [hq_352.2.2.1 _ (by decide), hq_341.2.2.1 _ (by decide)]; exact Int.le_trans (by decide) u_336) (by rw [hq_352.2.2.1 _ (by decide)]; exact Int.le_trans (by decide) u_347)), (by omega), (absurd u_260.2 (XIs_x (i := 22) (by decide) (by decide) (by decide) u_190.2)), (fgF (j := 13) hq_352.2.2.2.2.2.2.2.2.1 e_360 (sM_0 t_354) (by decide)), (by omega)⟩⟩, ⟨by rw [ht]; exact hP, hD⟩⟩, hS.F ht⟩) hS.2.2 dX7_statement_146
                · have u_362 := hq_352.2.2.2.2.2.2.1 c_355
                  have u_363 := hq_352.2.2.2.2.2.2.2.1 c_355
                  refine lv_iconst (v := 0) hx hb dX7_statement_133 (by decide) ?_
                  have : (gi (C_351 0) 7).toInt = (gi (C_340 0) 7).toInt := congrArg (fun z => (vi z).toInt) (f_353.2 7 (by decide))
                  have : (gi (C_351 0) 13).toInt = (gi (C_340 0) 13).toInt := congrArg (fun z => (vi z).toInt) (f_353.2 13 (by decide))
                  have : 0 ≤ (gi (C_351 0) 21).toInt ∧ (gi (C_351 0) 21).toInt ≤ 250 := fM_0_21 t_354
                  have : 0 ≤ (gi (C_351 0) 7).toInt ∧ (gi (C_351 0) 7).toInt ≤ 250 := fM_0_7 t_354
                  have : 0 ≤ (gi (C_351 0) 23).toInt ∧ (gi (C_351 0) 23).toInt ≤ 250 := fM_0_23 t_354
                  have : 0 ≤ (gi (C_351 0) 13).toInt ∧ (gi (C_351 0) 13).toInt ≤ 5 := fM_0_13 t_354
                  rw [hQ]
                  exact W.zret (v := 0) (ty := .boolean) hx hb hr (by decide) (fun t ht hW => ⟨⟨0, C_351, rfl, ⟨hT, hF, ⟨(Or.inl rfl), ⟨(by omega), hq_352.2.1.2⟩, (fun h9 => absurd rfl h9), (relW_row (w := (gi (C 0) 13).toNatClampNeg) (relW_row (w := (gi (C 0) 13).toNatClampNeg) (relW_row (w := (gi (C 0) 13).toNatClampNeg) hR f_331 (oh_nat (fM_0_13 hT0) (by decide)) (by decide)) f_342 (by rw [(show gi (C_329 0) 13 = gi (C 0) 13 from congrArg vi (f_331.2 13 (by decide)))]; exact oh_nat (fM_0_13 hT0) (by decide)) (by decide)) f_353 (by rw [(Eq.trans (show gi (C_340 0) 13 = gi (C_329 0) 13 from congrArg vi (f_342.2 13 (by decide))) (show gi (C_329 0) 13 = gi (C 0) 13 from congrArg vi (f_331.2 13 (by decide))))]; exact oh_nat (fM_0_13 hT0) (by decide)) (by decide)), (by omega), (absurd u_260.2 (XIs_x (i := 22) (by decide) (by decide) (by decide) u_190.2)), hq_352.2.2.2.2.2.2.2.2.1, hq_352.2.2.2.2.2.2.2.2.2⟩⟩, ⟨by rw [ht]; exact hP, hD⟩⟩, hS.F ht⟩) hS.2.2 dX7_statement_134
      · refine lv_aload_n hx hb dX7_statement_50 rfl (lv_at hl 0 rfl) ?_
        refine lv_aload_n hx hb dX7_statement_51 rfl (lv_at hl 0 rfl) ?_
        refine va_get (D := D) (ci := 7) (v := .ref (a 10)) (C := RX7) (T := TX7) (N := 29) hx hb htg ig_7 hown hK hP 0 (oh_wg (Nat.lt_of_lt_of_le (by decide) hn) (sM_0 hT)) rfl 12 (by decide) (htg _ q_985) (fun _ h9 => h9) rfl dX7_statement_52 ?_
        refine lv_aload_n hx hb dX7_statement_55 rfl (lv_at hl 0 rfl) ?_
        refine va_get (D := D) (ci := 7) (v := .int (gi (C 0) 11)) (C := RX7) (T := TX7) (N := 29) hx hb htg ig_7 hown hK hP 0 (oh_wg (Nat.lt_of_lt_of_le (by decide) hn) (sM_0 hT)) rfl 11 (by decide) (htg _ q_984) (fun _ h9 => h9) rfl dX7_statement_56 ?_
        have n_364 : vp_in (gi (C 0) 11) 16 := (rg_in (rn_ltu (u' := 15) (Int32.not_le.mp c_191) (fM_0_11 hT0) (rg_c (v := 16) (lo := 16) (hi := 16) (by decide)) (by decide)) (by decide))
        have b_365 : (gi (C 0) 11).toNatClampNeg < 16 := vp_lt n_364
        refine th_aald hx hb hK hP 10 2 (Nat.lt_of_lt_of_le (by decide) hn) (sM_10 hT) rfl n_364 dX7_statement_59 ?_
        have : 0 ≤ (gi (C 0) 21).toInt ∧ (gi (C 0) 21).toInt ≤ 250 := fM_0_21 hT0
        have : 0 ≤ (gi (C 0) 7).toInt ∧ (gi (C 0) 7).toInt ≤ 250 := fM_0_7 hT0
        have : 0 ≤ (gi (C 0) 23).toInt ∧ (gi (C 0) 23).toInt ≤ 250 := fM_0_23 hT0
        have : 0 ≤ (gi (C 0) 13).toInt ∧ (gi (C 0) 13).toInt ≤ 5 := fM_0_13 hT0
        have : (16 : Int32).toInt = 16 := rfl
        have : (gi (C 0) 11).toInt < (16 : Int32).toInt := Int32.lt_iff_toInt_lt.mp (Int32.not_le.mp c_191)
        refine tm_V (As := [.ref (a (48 + (gi (C 0) 11).toNatClampNeg))]) (rest := []) ⟨hx, hb, hml, hown, htg⟩ (e_X7_bridgeTold l D E G _ a C n hn hT (rg_w (lo := 0) (hi := 15) (rn_ltu (u' := 15) (Int32.not_le.mp c_191) (fM_0_11 hT0) (rg_c (v := 16) (lo := 16) (hi := 16) (by decide)) (by decide)) (by decide)) (by omega)) (cwV 1 htg (oh_gV q_1246 q_1248 q_47 q_73 q_1249) rfl rfl rfl pdVX7_bridgeTold ⟨Nat.le_of_ble_eq_true rfl, Nat.le_of_ble_eq_true rfl⟩) hK hP hD hG hS hA (va_recv hK hP (ci := 7) (q0 := 0) rfl (oh_wg (Nat.lt_of_lt_of_le (by decide) hn) (sM_0 hT))) rfl hl.1 rfl (Nat.le_of_ble_eq_true rfl) dX7_statement_60 ⟨Nat.le_of_ble_eq_true rfl, Nat.le_of_ble_eq_true rfl⟩ (fun r_366 C_367 H locs hq_368 hP hD hS => ?_)
        obtain ⟨hT, f_369, hq_368⟩ := hq_368
        have hF := fr_tr hF f_369 (by decide) (by decide)
        refine W.widen (k := 0) (n := 0) (Nat.le_refl _) (Nat.le_refl _) ?_
        have t_370 := hT
        have : (gi (C_367 0) 7).toInt = (gi (C 0) 7).toInt := congrArg (fun z => (vi z).toInt) (f_369.2 7 (by decide))
        have : (gi (C_367 0) 13).toInt = (gi (C 0) 13).toInt := congrArg (fun z => (vi z).toInt) (f_369.2 13 (by decide))
        have : 0 ≤ (gi (C_367 0) 21).toInt ∧ (gi (C_367 0) 21).toInt ≤ 250 := fM_0_21 t_370
        have : 0 ≤ (gi (C_367 0) 7).toInt ∧ (gi (C_367 0) 7).toInt ≤ 250 := fM_0_7 t_370
        have : 0 ≤ (gi (C_367 0) 23).toInt ∧ (gi (C_367 0) 23).toInt ≤ 250 := fM_0_23 t_370
        have : 0 ≤ (gi (C_367 0) 13).toInt ∧ (gi (C_367 0) 13).toInt ≤ 5 := fM_0_13 t_370
        have : (gi (C_367 0) 7).toInt = (gi (C 0) 7).toInt := congrArg (fun z => (vi z).toInt) (f_369.2 7 (by decide))
        have : (gi (C_367 0) 13).toInt = (gi (C 0) 13).toInt := congrArg (fun z => (vi z).toInt) (f_369.2 13 (by decide))
        have : 0 ≤ (gi (C_367 0) 21).toInt ∧ (gi (C_367 0) 21).toInt ≤ 250 := fM_0_21 t_370
        have : 0 ≤ (gi (C_367 0) 7).toInt ∧ (gi (C_367 0) 7).toInt ≤ 250 := fM_0_7 t_370
        have : 0 ≤ (gi (C_367 0) 23).toInt ∧ (gi (C_367 0) 23).toInt ≤ 250 := fM_0_23 t_370
        have : 0 ≤ (gi (C_367 0) 13).toInt ∧ (gi (C_367 0) 13).toInt ≤ 5 := fM_0_13 t_370
        rw [hQ]
        exact W.zret (v := r_366) (ty := .boolean) hx hb hr (oh_nb hq_368.1) (fun t ht hW => ⟨⟨r_366, C_367, rfl, ⟨hT, hF, ⟨hq_368.1, ⟨hq_368.2.1.1, hq_368.2.1.2⟩, (fun h9 => (by have h7_0 := (hq_368.2.2.1 h9); omega)), (RelW.fr hR f_369 (by decide)), (by omega), (fun A hA => ms_eq (rs_bridge_y (xw_n sw_road rfl u_4) (xw_f sw_bridge rfl u_190.2) (by rw [← hA.1 1 (by decide)]; exact (Int32.not_le.mp c_191))) (ms_row (t := 1) hT0 hA (by decide) (fun h7 => by have h6 := hq_368.2.2.1 h7; rw [show gi (C 0) 9 = A 5 0 0 from (hA.1 0 (by decide))] at h6; exact h6) (fun h7 => by have h6 := hq_368.2.2.2.1 h7; rw [show gi (C 0) 9 = A 5 0 0 from (hA.1 0 (by decide))] at h6; exact h6) hq_368.2.2.2.2.1 f_369 (by decide) (by decide) (by decide))), hq_368.2.2.2.2.2.1, hq_368.2.2.2.2.2.2⟩⟩, ⟨by rw [ht]; exact hP, hD⟩⟩, hS.F ht⟩) hS.2.2 dX7_statement_63
  · have u_371 := hq_2.2.1 c_3
    refine lv_aload_n hx hb dX7_statement_9 rfl (lv_at hl 0 rfl) ?_
    refine va_get (D := D) (ci := 7) (v := .int (gi (C 0) 9)) (C := RX7) (T := TX7) (N := 29) hx hb htg ig_7 hown hK hP 0 (oh_wg (Nat.lt_of_lt_of_le (by decide) hn) (sM_0 hT)) rfl 9 (by decide) (htg _ q_982) (fun _ h9 => h9) rfl dX7_statement_10 ?_
    refine lv_bipush (v := 24) hx hb dX7_statement_13 (by decide) ?_
    refine lv_icmp_ge (tgt := 32) hx hb dX7_statement_15 (by decide) (fun (c_372 : (24 : Int32) ≤ (gi (C 0) 9)) => ?_) (fun (c_372 : ¬ ((24 : Int32) ≤ (gi (C 0) 9))) => ?_)
    · refine lv_aload_n hx hb dX7_statement_32 rfl (lv_at hl 0 rfl) ?_
      refine va_ldcS hx hb hown (hG.2.2.1 ("OneHeavyLoadModel", 205, "bridge", 25) (List.mem_of_getElem? (i := 22) rfl)) dX7_statement_33 ?_
      refine tq_V (As := [.ref (G (3 + 22))]) (rest := []) (ws := (oh_W n a C)) ⟨hx, hb, hml, hown, htg⟩ (e_X7_isWord l D E G a C n hn hT 22 (by decide)) (cwV 1 htg (oh_gV q_1215 q_1217 q_41 q_73 q_1218) rfl rfl rfl pdVX7_isWord ⟨Nat.le_of_ble_eq_true rfl, Nat.le_of_ble_eq_true rfl⟩) hK hP hG hS (va_recv hK hP (ci := 7) (q0 := 0) rfl (oh_wg (Nat.lt_of_lt_of_le (by decide) hn) (sM_0 hT))) rfl hl.1 rfl (Nat.le_of_ble_eq_true rfl) dX7_statement_35 ⟨Nat.le_of_ble_eq_true rfl, Nat.le_of_ble_eq_true rfl⟩ (fun r_373 hq_374 => ?_)
      refine lv_if_eq (tgt := 64) hx hb dX7_statement_38 (by decide) (fun (c_375 : r_373 = 0) => ?_) (fun (c_375 : ¬ (r_373 = 0)) => ?_)
      · have u_376 := hq_374.2.2 c_375
        refine lv_aload_n hx hb dX7_statement_64 rfl (lv_at hl 0 rfl) ?_
        refine va_ldcS hx hb hown (hG.2.2.1 ("OneHeavyLoadModel", 209, "waggon", 31) (List.mem_of_getElem? (i := 28) rfl)) dX7_statement_65 ?_
        refine tq_V (As := [.ref (G (3 + 28))]) (rest := []) (ws := (oh_W n a C)) ⟨hx, hb, hml, hown, htg⟩ (e_X7_isWord l D E G a C n hn hT 28 (by decide)) (cwV 1 htg (oh_gV q_1215 q_1217 q_41 q_73 q_1218) rfl rfl rfl pdVX7_isWord ⟨Nat.le_of_ble_eq_true rfl, Nat.le_of_ble_eq_true rfl⟩) hK hP hG hS (va_recv hK hP (ci := 7) (q0 := 0) rfl (oh_wg (Nat.lt_of_lt_of_le (by decide) hn) (sM_0 hT))) rfl hl.1 rfl (Nat.le_of_ble_eq_true rfl) dX7_statement_67 ⟨Nat.le_of_ble_eq_true rfl, Nat.le_of_ble_eq_true rfl⟩ (fun r_377 hq_378 => ?_)
        refine lv_if_eq (tgt := 147) hx hb dX7_statement_70 (by decide) (fun (c_379 : r_377 = 0) => ?_) (fun (c_379 : ¬ (r_377 = 0)) => ?_)
        · have u_380 := hq_378.2.2 c_379
          refine lv_aload_n hx hb dX7_statement_147 rfl (lv_at hl 0 rfl) ?_
          refine va_ldcS hx hb hown (hG.2.2.1 ("OneHeavyLoadModel", 214, "part", 34) (List.mem_of_getElem? (i := 31) rfl)) dX7_statement_148 ?_
          refine tq_V (As := [.ref (G (3 + 31))]) (rest := []) (ws := (oh_W n a C)) ⟨hx, hb, hml, hown, htg⟩ (e_X7_isWord l D E G a C n hn hT 31 (by decide)) (cwV 1 htg (oh_gV q_1215 q_1217 q_41 q_73 q_1218) rfl rfl rfl pdVX7_isWord ⟨Nat.le_of_ble_eq_true rfl, Nat.le_of_ble_eq_true rfl⟩) hK hP hG hS (va_recv hK hP (ci := 7) (q0 := 0) rfl (oh_wg (Nat.lt_of_lt_of_le (by decide) hn) (sM_0 hT))) rfl hl.1 rfl (Nat.le_of_ble_eq_true rfl) dX7_statement_150 ⟨Nat.le_of_ble_eq_true rfl, Nat.le_of_ble_eq_true rfl⟩ (fun r_381 hq_382 => ?_)
          refine lv_if_eq (tgt := 220) hx hb dX7_statement_153 (by decide) (fun (c_383 : r_381 = 0) => ?_) (fun (c_383 : ¬ (r_381 = 0)) => ?_)
          · have u_384 := hq_382.2.2 c_383
            refine lv_aload_n hx hb dX7_statement_220 rfl (lv_at hl 0 rfl) ?_
            refine va_ldcS hx hb hown (hG.2.2.1 ("OneHeavyLoadModel", 215, "load", 35) (List.mem_of_getElem? (i := 32) rfl)) dX7_statement_221 ?_
            refine tq_V (As := [.ref (G (3 + 32))]) (rest := []) (ws := (oh_W n a C)) ⟨hx, hb, hml, hown, htg⟩ (e_X7_isWord l D E G a C n hn hT 32 (by decide)) (cwV 1 htg (oh_gV q_1215 q_1217 q_41 q_73 q_1218) rfl rfl rfl pdVX7_isWord ⟨Nat.le_of_ble_eq_true rfl, Nat.le_of_ble_eq_true rfl⟩) hK hP hG hS (va_recv hK hP (ci := 7) (q0 := 0) rfl (oh_wg (Nat.lt_of_lt_of_le (by decide) hn) (sM_0 hT))) rfl hl.1 rfl (Nat.le_of_ble_eq_true rfl) dX7_statement_223 ⟨Nat.le_of_ble_eq_true rfl, Nat.le_of_ble_eq_true rfl⟩ (fun r_385 hq_386 => ?_)
            refine lv_if_eq (tgt := 245) hx hb dX7_statement_226 (by decide) (fun (c_387 : r_385 = 0) => ?_) (fun (c_387 : ¬ (r_385 = 0)) => ?_)
            · have u_388 := hq_386.2.2 c_387
              refine lv_aload_n hx hb dX7_statement_245 rfl (lv_at hl 0 rfl) ?_
              refine va_ldcS hx hb hown (hG.2.2.1 ("OneHeavyLoadModel", 217, "mile", 36) (List.mem_of_getElem? (i := 33) rfl)) dX7_statement_246 ?_
              refine lv_aload_n hx hb dX7_statement_248 rfl (lv_at hl 0 rfl) ?_
              refine va_get (D := D) (ci := 7) (v := .ref (a 13)) (C := RX7) (T := TX7) (N := 29) hx hb htg ig_7 hown hK hP 0 (oh_wg (Nat.lt_of_lt_of_le (by decide) hn) (sM_0 hT)) rfl 17 (by decide) (htg _ q_990) (fun _ h9 => h9) rfl dX7_statement_249 ?_
              refine lv_iconst (v := 1) hx hb dX7_statement_252 (by decide) ?_
              refine lv_iconst (v := 0) hx hb dX7_statement_253 (by decide) ?_
              refine lv_bipush (v := 99) hx hb dX7_statement_254 (by decide) ?_
              have : 0 ≤ (gi (C 0) 21).toInt ∧ (gi (C 0) 21).toInt ≤ 250 := fM_0_21 hT0
              have : 0 ≤ (gi (C 0) 7).toInt ∧ (gi (C 0) 7).toInt ≤ 250 := fM_0_7 hT0
              have : 0 ≤ (gi (C 0) 23).toInt ∧ (gi (C 0) 23).toInt ≤ 250 := fM_0_23 hT0
              have : 0 ≤ (gi (C 0) 13).toInt ∧ (gi (C 0) 13).toInt ≤ 5 := fM_0_13 hT0
              have : (24 : Int32).toInt = 24 := rfl
              have : (24 : Int32).toInt ≤ (gi (C 0) 9).toInt := Int32.le_iff_toInt_le.mp c_372
              refine tm_V (As := [.ref (G (3 + 33)), .ref (a 13), .int 1, .int 0, .int 99]) (rest := []) ⟨hx, hb, hml, hown, htg⟩ (e_X7_told l D E G _ a C n hn hT 33 13 (1 : Int32) (0 : Int32) (99 : Int32) (by decide) (rg_w (rg_c (v := 0) (lo := 0) (hi := 0) (by decide)) (by decide)) (rg_w (rg_c (v := 99) (lo := 99) (hi := 99) (by decide)) (by decide)) ⟨(Nat.lt_of_lt_of_le (by decide) hn), (by decide), 3, fun C h => (sM_13 h), (rg_in (rg_c (v := 1) (lo := 1) (hi := 1) (by decide)) (by decide)), fun C v h h1 h2 => (h.up 13 (by decide) (tA_upd (tM_13 h) tA_any))⟩ (by omega) hfg (by omega) (by decide)) (cwV 5 htg (oh_gV q_1234 q_1236 q_45 q_73 q_1237) rfl rfl rfl pdVX7_told ⟨Nat.le_of_ble_eq_true rfl, Nat.le_of_ble_eq_true rfl⟩) hK hP hD hG hS hA (va_recv hK hP (ci := 7) (q0 := 0) rfl (oh_wg (Nat.lt_of_lt_of_le (by decide) hn) (sM_0 hT))) rfl hl.1 rfl (Nat.le_of_ble_eq_true rfl) dX7_statement_256 ⟨Nat.le_of_ble_eq_true rfl, Nat.le_of_ble_eq_true rfl⟩ (fun r_389 C_390 H locs hq_391 hP hD hS => ?_)
              obtain ⟨hT, f_392, hq_391⟩ := hq_391
              have hF := fr_trk hF f_392 (by decide) (by decide)
              refine W.widen (k := 0) (n := 0) (Nat.le_refl _) (Nat.le_refl _) ?_
              have t_393 := hT
              have : (gi (C_390 0) 7).toInt = (gi (C 0) 7).toInt := congrArg (fun z => (vi z).toInt) (f_392.2 7 (by decide))
              have : (gi (C_390 0) 13).toInt = (gi (C 0) 13).toInt := congrArg (fun z => (vi z).toInt) (f_392.2 13 (by decide))
              have : 0 ≤ (gi (C_390 0) 21).toInt ∧ (gi (C_390 0) 21).toInt ≤ 250 := fM_0_21 t_393
              have : 0 ≤ (gi (C_390 0) 7).toInt ∧ (gi (C_390 0) 7).toInt ≤ 250 := fM_0_7 t_393
              have : 0 ≤ (gi (C_390 0) 23).toInt ∧ (gi (C_390 0) 23).toInt ≤ 250 := fM_0_23 t_393
              have : 0 ≤ (gi (C_390 0) 13).toInt ∧ (gi (C_390 0) 13).toInt ≤ 5 := fM_0_13 t_393
              rw [hQ]
              exact W.zret (v := r_389) (ty := .boolean) hx hb hr (oh_nb hq_391.1) (fun t ht hW => ⟨⟨r_389, C_390, rfl, ⟨hT, hF, ⟨hq_391.1, ⟨hq_391.2.1.1, hq_391.2.1.2⟩, (fun h9 => (hq_391.2.2.2.2.1 h9)), (RelW.fr hR (fr_trk (mc := [(13, 14)]) (mf := [21, 22, 23, 24, 25]) fr_rf f_392 (by decide) (by decide)) (by decide)), (by omega), (fun A hA => ms_eq (rs_road_n (xw_f sw_road rfl u_371.2) (by rw [← hA.1 0 (by decide)]; exact (Int32.not_lt.mpr c_372))) (ms_no (j := 16) (hi := 99) hT0 hA (xw_n sw_mile rfl (XIs_x (by decide) (by decide) (by decide) u_371.2)) (fun h7 => ⟨_, tn_f sw_mile rfl (hq_391.2.2.2.2.2.1 h7)⟩) (fun h7 => tn_f sw_mile rfl (hq_391.2.2.2.2.2.2.1 h7)) hq_391.2.2.2.2.2.2.2.1 f_392 (by decide) (by decide))), hq_391.2.2.2.2.2.2.2.2.1, hq_391.2.2.2.2.2.2.2.2.2⟩⟩, ⟨by rw [ht]; exact hP, hD⟩⟩, hS.F ht⟩) hS.2.2 dX7_statement_259
            · have u_394 := hq_386.2.1 c_387
              refine lv_aload_n hx hb dX7_statement_229 rfl (lv_at hl 0 rfl) ?_
              refine va_ldcS hx hb hown (hG.2.2.1 ("OneHeavyLoadModel", 215, "load", 35) (List.mem_of_getElem? (i := 32) rfl)) dX7_statement_230 ?_
              refine lv_aload_n hx hb dX7_statement_232 rfl (lv_at hl 0 rfl) ?_
              refine va_get (D := D) (ci := 7) (v := .ref (a 13)) (C := RX7) (T := TX7) (N := 29) hx hb htg ig_7 hown hK hP 0 (oh_wg (Nat.lt_of_lt_of_le (by decide) hn) (sM_0 hT)) rfl 17 (by decide) (htg _ q_990) (fun _ h9 => h9) rfl dX7_statement_233 ?_
              refine lv_iconst (v := 0) hx hb dX7_statement_236 (by decide) ?_
              refine lv_iconst (v := 0) hx hb dX7_statement_237 (by decide) ?_
              refine lv_sipush (v := 900) hx hb dX7_statement_238 (by decide) ?_
              have : 0 ≤ (gi (C 0) 21).toInt ∧ (gi (C 0) 21).toInt ≤ 250 := fM_0_21 hT0
              have : 0 ≤ (gi (C 0) 7).toInt ∧ (gi (C 0) 7).toInt ≤ 250 := fM_0_7 hT0
              have : 0 ≤ (gi (C 0) 23).toInt ∧ (gi (C 0) 23).toInt ≤ 250 := fM_0_23 hT0
              have : 0 ≤ (gi (C 0) 13).toInt ∧ (gi (C 0) 13).toInt ≤ 5 := fM_0_13 hT0
              have : (24 : Int32).toInt = 24 := rfl
              have : (24 : Int32).toInt ≤ (gi (C 0) 9).toInt := Int32.le_iff_toInt_le.mp c_372
              refine tm_V (As := [.ref (G (3 + 32)), .ref (a 13), .int 0, .int 0, .int 900]) (rest := []) ⟨hx, hb, hml, hown, htg⟩ (e_X7_told l D E G _ a C n hn hT 32 13 (0 : Int32) (0 : Int32) (900 : Int32) (by decide) (rg_w (rg_c (v := 0) (lo := 0) (hi := 0) (by decide)) (by decide)) (rg_w (rg_c (v := 900) (lo := 900) (hi := 900) (by decide)) (by decide)) ⟨(Nat.lt_of_lt_of_le (by decide) hn), (by decide), 3, fun C h => (sM_13 h), (rg_in (rg_c (v := 0) (lo := 0) (hi := 0) (by decide)) (by decide)), fun C v h h1 h2 => (h.up 13 (by decide) (tA_upd (tM_13 h) tA_any))⟩ (by omega) hfg (by omega) (by decide)) (cwV 5 htg (oh_gV q_1234 q_1236 q_45 q_73 q_1237) rfl rfl rfl pdVX7_told ⟨Nat.le_of_ble_eq_true rfl, Nat.le_of_ble_eq_true rfl⟩) hK hP hD hG hS hA (va_recv hK hP (ci := 7) (q0 := 0) rfl (oh_wg (Nat.lt_of_lt_of_le (by decide) hn) (sM_0 hT))) rfl hl.1 rfl (Nat.le_of_ble_eq_true rfl) dX7_statement_241 ⟨Nat.le_of_ble_eq_true rfl, Nat.le_of_ble_eq_true rfl⟩ (fun r_395 C_396 H locs hq_397 hP hD hS => ?_)
              obtain ⟨hT, f_398, hq_397⟩ := hq_397
              have hF := fr_trk hF f_398 (by decide) (by decide)
              refine W.widen (k := 0) (n := 0) (Nat.le_refl _) (Nat.le_refl _) ?_
              have t_399 := hT
              have : (gi (C_396 0) 7).toInt = (gi (C 0) 7).toInt := congrArg (fun z => (vi z).toInt) (f_398.2 7 (by decide))
              have : (gi (C_396 0) 13).toInt = (gi (C 0) 13).toInt := congrArg (fun z => (vi z).toInt) (f_398.2 13 (by decide))
              have : 0 ≤ (gi (C_396 0) 21).toInt ∧ (gi (C_396 0) 21).toInt ≤ 250 := fM_0_21 t_399
              have : 0 ≤ (gi (C_396 0) 7).toInt ∧ (gi (C_396 0) 7).toInt ≤ 250 := fM_0_7 t_399
              have : 0 ≤ (gi (C_396 0) 23).toInt ∧ (gi (C_396 0) 23).toInt ≤ 250 := fM_0_23 t_399
              have : 0 ≤ (gi (C_396 0) 13).toInt ∧ (gi (C_396 0) 13).toInt ≤ 5 := fM_0_13 t_399
              rw [hQ]
              exact W.zret (v := r_395) (ty := .boolean) hx hb hr (oh_nb hq_397.1) (fun t ht hW => ⟨⟨r_395, C_396, rfl, ⟨hT, hF, ⟨hq_397.1, ⟨hq_397.2.1.1, hq_397.2.1.2⟩, (fun h9 => (hq_397.2.2.2.2.1 h9)), (RelW.fr hR (fr_trk (mc := [(13, 14)]) (mf := [21, 22, 23, 24, 25]) fr_rf f_398 (by decide) (by decide)) (by decide)), (by omega), (absurd u_394.2 (XIs_x (i := 17) (by decide) (by decide) (by decide) u_371.2)), hq_397.2.2.2.2.2.2.2.2.1, hq_397.2.2.2.2.2.2.2.2.2⟩⟩, ⟨by rw [ht]; exact hP, hD⟩⟩, hS.F ht⟩) hS.2.2 dX7_statement_244
          · have u_400 := hq_382.2.1 c_383
            refine lv_aload_n hx hb dX7_statement_156 rfl (lv_at hl 0 rfl) ?_
            refine va_get (D := D) (ci := 7) (v := .int (gi (C 0) 15)) (C := RX7) (T := TX7) (N := 29) hx hb htg ig_7 hown hK hP 0 (oh_wg (Nat.lt_of_lt_of_le (by decide) hn) (sM_0 hT)) rfl 15 (by decide) (htg _ q_988) (fun _ h9 => h9) rfl dX7_statement_157 ?_
            refine lv_iconst (v := 5) hx hb dX7_statement_160 (by decide) ?_
            refine lv_icmp_ge (tgt := 220) hx hb dX7_statement_161 (by decide) (fun (c_401 : (5 : Int32) ≤ (gi (C 0) 15)) => ?_) (fun (c_401 : ¬ ((5 : Int32) ≤ (gi (C 0) 15))) => ?_)
            · refine lv_aload_n hx hb dX7_statement_220 rfl (lv_at hl 0 rfl) ?_
              refine va_ldcS hx hb hown (hG.2.2.1 ("OneHeavyLoadModel", 215, "load", 35) (List.mem_of_getElem? (i := 32) rfl)) dX7_statement_221 ?_
              refine tq_V (As := [.ref (G (3 + 32))]) (rest := []) (ws := (oh_W n a C)) ⟨hx, hb, hml, hown, htg⟩ (e_X7_isWord l D E G a C n hn hT 32 (by decide)) (cwV 1 htg (oh_gV q_1215 q_1217 q_41 q_73 q_1218) rfl rfl rfl pdVX7_isWord ⟨Nat.le_of_ble_eq_true rfl, Nat.le_of_ble_eq_true rfl⟩) hK hP hG hS (va_recv hK hP (ci := 7) (q0 := 0) rfl (oh_wg (Nat.lt_of_lt_of_le (by decide) hn) (sM_0 hT))) rfl hl.1 rfl (Nat.le_of_ble_eq_true rfl) dX7_statement_223 ⟨Nat.le_of_ble_eq_true rfl, Nat.le_of_ble_eq_true rfl⟩ (fun r_402 hq_403 => ?_)
              refine lv_if_eq (tgt := 245) hx hb dX7_statement_226 (by decide) (fun (c_404 : r_402 = 0) => ?_) (fun (c_404 : ¬ (r_402 = 0)) => ?_)
              · have u_405 := hq_403.2.2 c_404
                refine lv_aload_n hx hb dX7_statement_245 rfl (lv_at hl 0 rfl) ?_
                refine va_ldcS hx hb hown (hG.2.2.1 ("OneHeavyLoadModel", 217, "mile", 36) (List.mem_of_getElem? (i := 33) rfl)) dX7_statement_246 ?_
                refine lv_aload_n hx hb dX7_statement_248 rfl (lv_at hl 0 rfl) ?_
                refine va_get (D := D) (ci := 7) (v := .ref (a 13)) (C := RX7) (T := TX7) (N := 29) hx hb htg ig_7 hown hK hP 0 (oh_wg (Nat.lt_of_lt_of_le (by decide) hn) (sM_0 hT)) rfl 17 (by decide) (htg _ q_990) (fun _ h9 => h9) rfl dX7_statement_249 ?_
                refine lv_iconst (v := 1) hx hb dX7_statement_252 (by decide) ?_
                refine lv_iconst (v := 0) hx hb dX7_statement_253 (by decide) ?_
                refine lv_bipush (v := 99) hx hb dX7_statement_254 (by decide) ?_
                have : 0 ≤ (gi (C 0) 21).toInt ∧ (gi (C 0) 21).toInt ≤ 250 := fM_0_21 hT0
                have : 0 ≤ (gi (C 0) 7).toInt ∧ (gi (C 0) 7).toInt ≤ 250 := fM_0_7 hT0
                have : 0 ≤ (gi (C 0) 23).toInt ∧ (gi (C 0) 23).toInt ≤ 250 := fM_0_23 hT0
                have : 0 ≤ (gi (C 0) 13).toInt ∧ (gi (C 0) 13).toInt ≤ 5 := fM_0_13 hT0
                have : (24 : Int32).toInt = 24 := rfl
                have : (24 : Int32).toInt ≤ (gi (C 0) 9).toInt := Int32.le_iff_toInt_le.mp c_372
                have : (5 : Int32).toInt = 5 := rfl
                have : (5 : Int32).toInt ≤ (gi (C 0) 15).toInt := Int32.le_iff_toInt_le.mp c_401
                refine tm_V (As := [.ref (G (3 + 33)), .ref (a 13), .int 1, .int 0, .int 99]) (rest := []) ⟨hx, hb, hml, hown, htg⟩ (e_X7_told l D E G _ a C n hn hT 33 13 (1 : Int32) (0 : Int32) (99 : Int32) (by decide) (rg_w (rg_c (v := 0) (lo := 0) (hi := 0) (by decide)) (by decide)) (rg_w (rg_c (v := 99) (lo := 99) (hi := 99) (by decide)) (by decide)) ⟨(Nat.lt_of_lt_of_le (by decide) hn), (by decide), 3, fun C h => (sM_13 h), (rg_in (rg_c (v := 1) (lo := 1) (hi := 1) (by decide)) (by decide)), fun C v h h1 h2 => (h.up 13 (by decide) (tA_upd (tM_13 h) tA_any))⟩ (by omega) hfg (by omega) (by decide)) (cwV 5 htg (oh_gV q_1234 q_1236 q_45 q_73 q_1237) rfl rfl rfl pdVX7_told ⟨Nat.le_of_ble_eq_true rfl, Nat.le_of_ble_eq_true rfl⟩) hK hP hD hG hS hA (va_recv hK hP (ci := 7) (q0 := 0) rfl (oh_wg (Nat.lt_of_lt_of_le (by decide) hn) (sM_0 hT))) rfl hl.1 rfl (Nat.le_of_ble_eq_true rfl) dX7_statement_256 ⟨Nat.le_of_ble_eq_true rfl, Nat.le_of_ble_eq_true rfl⟩ (fun r_406 C_407 H locs hq_408 hP hD hS => ?_)
                obtain ⟨hT, f_409, hq_408⟩ := hq_408
                have hF := fr_trk hF f_409 (by decide) (by decide)
                refine W.widen (k := 0) (n := 0) (Nat.le_refl _) (Nat.le_refl _) ?_
                have t_410 := hT
                have : (gi (C_407 0) 7).toInt = (gi (C 0) 7).toInt := congrArg (fun z => (vi z).toInt) (f_409.2 7 (by decide))
                have : (gi (C_407 0) 13).toInt = (gi (C 0) 13).toInt := congrArg (fun z => (vi z).toInt) (f_409.2 13 (by decide))
                have : 0 ≤ (gi (C_407 0) 21).toInt ∧ (gi (C_407 0) 21).toInt ≤ 250 := fM_0_21 t_410
                have : 0 ≤ (gi (C_407 0) 7).toInt ∧ (gi (C_407 0) 7).toInt ≤ 250 := fM_0_7 t_410
                have : 0 ≤ (gi (C_407 0) 23).toInt ∧ (gi (C_407 0) 23).toInt ≤ 250 := fM_0_23 t_410
                have : 0 ≤ (gi (C_407 0) 13).toInt ∧ (gi (C_407 0) 13).toInt ≤ 5 := fM_0_13 t_410
                rw [hQ]
                exact W.zret (v := r_406) (ty := .boolean) hx hb hr (oh_nb hq_408.1) (fun t ht hW => ⟨⟨r_406, C_407, rfl, ⟨hT, hF, ⟨hq_408.1, ⟨hq_408.2.1.1, hq_408.2.1.2⟩, (fun h9 => (hq_408.2.2.2.2.1 h9)), (RelW.fr hR (fr_trk (mc := [(13, 14)]) (mf := [21, 22, 23, 24, 25]) fr_rf f_409 (by decide) (by decide)) (by decide)), (by omega), (absurd u_400.2 (XIs_x (i := 17) (by decide) (by decide) (by decide) u_371.2)), hq_408.2.2.2.2.2.2.2.2.1, hq_408.2.2.2.2.2.2.2.2.2⟩⟩, ⟨by rw [ht]; exact hP, hD⟩⟩, hS.F ht⟩) hS.2.2 dX7_statement_259
              · have u_411 := hq_403.2.1 c_404
                refine lv_aload_n hx hb dX7_statement_229 rfl (lv_at hl 0 rfl) ?_
                refine va_ldcS hx hb hown (hG.2.2.1 ("OneHeavyLoadModel", 215, "load", 35) (List.mem_of_getElem? (i := 32) rfl)) dX7_statement_230 ?_
                refine lv_aload_n hx hb dX7_statement_232 rfl (lv_at hl 0 rfl) ?_
                refine va_get (D := D) (ci := 7) (v := .ref (a 13)) (C := RX7) (T := TX7) (N := 29) hx hb htg ig_7 hown hK hP 0 (oh_wg (Nat.lt_of_lt_of_le (by decide) hn) (sM_0 hT)) rfl 17 (by decide) (htg _ q_990) (fun _ h9 => h9) rfl dX7_statement_233 ?_
                refine lv_iconst (v := 0) hx hb dX7_statement_236 (by decide) ?_
                refine lv_iconst (v := 0) hx hb dX7_statement_237 (by decide) ?_
                refine lv_sipush (v := 900) hx hb dX7_statement_238 (by decide) ?_
                have : 0 ≤ (gi (C 0) 21).toInt ∧ (gi (C 0) 21).toInt ≤ 250 := fM_0_21 hT0
                have : 0 ≤ (gi (C 0) 7).toInt ∧ (gi (C 0) 7).toInt ≤ 250 := fM_0_7 hT0
                have : 0 ≤ (gi (C 0) 23).toInt ∧ (gi (C 0) 23).toInt ≤ 250 := fM_0_23 hT0
                have : 0 ≤ (gi (C 0) 13).toInt ∧ (gi (C 0) 13).toInt ≤ 5 := fM_0_13 hT0
                have : (24 : Int32).toInt = 24 := rfl
                have : (24 : Int32).toInt ≤ (gi (C 0) 9).toInt := Int32.le_iff_toInt_le.mp c_372
                have : (5 : Int32).toInt = 5 := rfl
                have : (5 : Int32).toInt ≤ (gi (C 0) 15).toInt := Int32.le_iff_toInt_le.mp c_401
                refine tm_V (As := [.ref (G (3 + 32)), .ref (a 13), .int 0, .int 0, .int 900]) (rest := []) ⟨hx, hb, hml, hown, htg⟩ (e_X7_told l D E G _ a C n hn hT 32 13 (0 : Int32) (0 : Int32) (900 : Int32) (by decide) (rg_w (rg_c (v := 0) (lo := 0) (hi := 0) (by decide)) (by decide)) (rg_w (rg_c (v := 900) (lo := 900) (hi := 900) (by decide)) (by decide)) ⟨(Nat.lt_of_lt_of_le (by decide) hn), (by decide), 3, fun C h => (sM_13 h), (rg_in (rg_c (v := 0) (lo := 0) (hi := 0) (by decide)) (by decide)), fun C v h h1 h2 => (h.up 13 (by decide) (tA_upd (tM_13 h) tA_any))⟩ (by omega) hfg (by omega) (by decide)) (cwV 5 htg (oh_gV q_1234 q_1236 q_45 q_73 q_1237) rfl rfl rfl pdVX7_told ⟨Nat.le_of_ble_eq_true rfl, Nat.le_of_ble_eq_true rfl⟩) hK hP hD hG hS hA (va_recv hK hP (ci := 7) (q0 := 0) rfl (oh_wg (Nat.lt_of_lt_of_le (by decide) hn) (sM_0 hT))) rfl hl.1 rfl (Nat.le_of_ble_eq_true rfl) dX7_statement_241 ⟨Nat.le_of_ble_eq_true rfl, Nat.le_of_ble_eq_true rfl⟩ (fun r_412 C_413 H locs hq_414 hP hD hS => ?_)
                obtain ⟨hT, f_415, hq_414⟩ := hq_414
                have hF := fr_trk hF f_415 (by decide) (by decide)
                refine W.widen (k := 0) (n := 0) (Nat.le_refl _) (Nat.le_refl _) ?_
                have t_416 := hT
                have : (gi (C_413 0) 7).toInt = (gi (C 0) 7).toInt := congrArg (fun z => (vi z).toInt) (f_415.2 7 (by decide))
                have : (gi (C_413 0) 13).toInt = (gi (C 0) 13).toInt := congrArg (fun z => (vi z).toInt) (f_415.2 13 (by decide))
                have : 0 ≤ (gi (C_413 0) 21).toInt ∧ (gi (C_413 0) 21).toInt ≤ 250 := fM_0_21 t_416
                have : 0 ≤ (gi (C_413 0) 7).toInt ∧ (gi (C_413 0) 7).toInt ≤ 250 := fM_0_7 t_416
                have : 0 ≤ (gi (C_413 0) 23).toInt ∧ (gi (C_413 0) 23).toInt ≤ 250 := fM_0_23 t_416
                have : 0 ≤ (gi (C_413 0) 13).toInt ∧ (gi (C_413 0) 13).toInt ≤ 5 := fM_0_13 t_416
                rw [hQ]
                exact W.zret (v := r_412) (ty := .boolean) hx hb hr (oh_nb hq_414.1) (fun t ht hW => ⟨⟨r_412, C_413, rfl, ⟨hT, hF, ⟨hq_414.1, ⟨hq_414.2.1.1, hq_414.2.1.2⟩, (fun h9 => (hq_414.2.2.2.2.1 h9)), (RelW.fr hR (fr_trk (mc := [(13, 14)]) (mf := [21, 22, 23, 24, 25]) fr_rf f_415 (by decide) (by decide)) (by decide)), (by omega), (absurd u_400.2 (XIs_x (i := 17) (by decide) (by decide) (by decide) u_371.2)), hq_414.2.2.2.2.2.2.2.2.1, hq_414.2.2.2.2.2.2.2.2.2⟩⟩, ⟨by rw [ht]; exact hP, hD⟩⟩, hS.F ht⟩) hS.2.2 dX7_statement_244
            · refine lv_aload_n hx hb dX7_statement_164 rfl (lv_at hl 0 rfl) ?_
              refine va_ldcS hx hb hown (hG.2.2.1 ("OneHeavyLoadModel", 214, "part", 34) (List.mem_of_getElem? (i := 31) rfl)) dX7_statement_165 ?_
              refine lv_aload_n hx hb dX7_statement_167 rfl (lv_at hl 0 rfl) ?_
              refine va_get (D := D) (ci := 7) (v := .ref (a 12)) (C := RX7) (T := TX7) (N := 29) hx hb htg ig_7 hown hK hP 0 (oh_wg (Nat.lt_of_lt_of_le (by decide) hn) (sM_0 hT)) rfl 16 (by decide) (htg _ q_989) (fun _ h9 => h9) rfl dX7_statement_168 ?_
              refine lv_aload_n hx hb dX7_statement_171 rfl (lv_at hl 0 rfl) ?_
              refine va_get (D := D) (ci := 7) (v := .int (gi (C 0) 15)) (C := RX7) (T := TX7) (N := 29) hx hb htg ig_7 hown hK hP 0 (oh_wg (Nat.lt_of_lt_of_le (by decide) hn) (sM_0 hT)) rfl 15 (by decide) (htg _ q_988) (fun _ h9 => h9) rfl dX7_statement_172 ?_
              have n_417 : vp_in (gi (C 0) 15) 5 := (rg_in (rn_ltu (u' := 4) (Int32.not_le.mp c_401) (fM_0_15 hT0) (rg_c (v := 5) (lo := 5) (hi := 5) (by decide)) (by decide)) (by decide))
              have b_418 : (gi (C 0) 15).toNatClampNeg < 5 := vp_lt n_417
              refine th_aald hx hb hK hP 12 2 (Nat.lt_of_lt_of_le (by decide) hn) (sM_12 hT) rfl n_417 dX7_statement_175 ?_
              refine lv_iconst (v := 0) hx hb dX7_statement_176 (by decide) ?_
              refine lv_iconst (v := 1) hx hb dX7_statement_177 (by decide) ?_
              refine lv_bipush (v := 99) hx hb dX7_statement_178 (by decide) ?_
              have : 0 ≤ (gi (C 0) 21).toInt ∧ (gi (C 0) 21).toInt ≤ 250 := fM_0_21 hT0
              have : 0 ≤ (gi (C 0) 7).toInt ∧ (gi (C 0) 7).toInt ≤ 250 := fM_0_7 hT0
              have : 0 ≤ (gi (C 0) 23).toInt ∧ (gi (C 0) 23).toInt ≤ 250 := fM_0_23 hT0
              have : 0 ≤ (gi (C 0) 13).toInt ∧ (gi (C 0) 13).toInt ≤ 5 := fM_0_13 hT0
              have : (24 : Int32).toInt = 24 := rfl
              have : (24 : Int32).toInt ≤ (gi (C 0) 9).toInt := Int32.le_iff_toInt_le.mp c_372
              have : (5 : Int32).toInt = 5 := rfl
              have : (gi (C 0) 15).toInt < (5 : Int32).toInt := Int32.lt_iff_toInt_lt.mp (Int32.not_le.mp c_401)
              refine tm_V (As := [.ref (G (3 + 31)), .ref (a (69 + (gi (C 0) 15).toNatClampNeg)), .int 0, .int 1, .int 99]) (rest := []) ⟨hx, hb, hml, hown, htg⟩ (e_X7_told l D E G _ a C n hn hT 31 (69 + (gi (C 0) 15).toNatClampNeg) (0 : Int32) (1 : Int32) (99 : Int32) (by decide) (rg_w (rg_c (v := 1) (lo := 1) (hi := 1) (by decide)) (by decide)) (rg_w (rg_c (v := 99) (lo := 99) (hi := 99) (by decide)) (by decide)) ⟨(lt_blk b_418 hn (by decide)), (by omega), 2, fun C h => (h.bpart b_418).1, (rg_in (rg_c (v := 0) (lo := 0) (hi := 0) (by decide)) (by decide)), fun C v h h1 h2 => (h.uppart b_418 (tA_upd (h.bpart b_418) tA_any))⟩ (by omega) hfg (by omega) (by omega)) (cwV 5 htg (oh_gV q_1234 q_1236 q_45 q_73 q_1237) rfl rfl rfl pdVX7_told ⟨Nat.le_of_ble_eq_true rfl, Nat.le_of_ble_eq_true rfl⟩) hK hP hD hG hS hA (va_recv hK hP (ci := 7) (q0 := 0) rfl (oh_wg (Nat.lt_of_lt_of_le (by decide) hn) (sM_0 hT))) rfl hl.1 rfl (Nat.le_of_ble_eq_true rfl) dX7_statement_180 ⟨Nat.le_of_ble_eq_true rfl, Nat.le_of_ble_eq_true rfl⟩ (fun r_419 C_420 H locs hq_421 hP hD hS => ?_)
              obtain ⟨hT, f_422, hq_421⟩ := hq_421
              have hF := fr_trk hF f_422 (inR_of (p := (69, 74)) (by decide) (by show 69 ≤ _; omega) (by show _ < 74; omega)) (by decide)
              refine W.widen (k := 0) (n := 0) (Nat.le_refl _) (Nat.le_refl _) ?_
              have t_423 := hT
              refine lv_if_eq (tgt := 206) hx hb dX7_statement_183 (by decide) (fun (c_424 : r_419 = 0) => ?_) (fun (c_424 : ¬ (r_419 = 0)) => ?_)
              · have u_425 := hq_421.2.2.2.2.2.2.1 c_424
                have u_426 := hq_421.2.2.2.2.2.2.2.1 c_424
                refine lv_iconst (v := 0) hx hb dX7_statement_206 (by decide) ?_
                have : (gi (C_420 0) 7).toInt = (gi (C 0) 7).toInt := congrArg (fun z => (vi z).toInt) (f_422.2 7 (by decide))
                have : (gi (C_420 0) 13).toInt = (gi (C 0) 13).toInt := congrArg (fun z => (vi z).toInt) (f_422.2 13 (by decide))
                have : 0 ≤ (gi (C_420 0) 21).toInt ∧ (gi (C_420 0) 21).toInt ≤ 250 := fM_0_21 t_423
                have : 0 ≤ (gi (C_420 0) 7).toInt ∧ (gi (C_420 0) 7).toInt ≤ 250 := fM_0_7 t_423
                have : 0 ≤ (gi (C_420 0) 23).toInt ∧ (gi (C_420 0) 23).toInt ≤ 250 := fM_0_23 t_423
                have : 0 ≤ (gi (C_420 0) 13).toInt ∧ (gi (C_420 0) 13).toInt ≤ 5 := fM_0_13 t_423
                rw [hQ]
                exact W.zret (v := 0) (ty := .boolean) hx hb hr (by decide) (fun t ht hW => ⟨⟨0, C_420, rfl, ⟨hT, hF, ⟨(Or.inl rfl), ⟨hq_421.2.1.1, hq_421.2.1.2⟩, (fun h9 => absurd rfl h9), (RelW.fr hR (fr_trk (mc := [(69, 74)]) (mf := [21, 22, 23, 24, 25]) fr_rf f_422 (inR_of (p := (69, 74)) (by decide) (by show 69 ≤ _; omega) (by show _ < 74; omega)) (by decide)) (by decide)), (by omega), (absurd u_400.2 (XIs_x (i := 17) (by decide) (by decide) (by decide) u_371.2)), hq_421.2.2.2.2.2.2.2.2.1, hq_421.2.2.2.2.2.2.2.2.2⟩⟩, ⟨by rw [ht]; exact hP, hD⟩⟩, hS.F ht⟩) hS.2.2 dX7_statement_207
              · have u_427 := hq_421.2.2.2.1 c_424
                have u_428 := hq_421.2.2.2.2.1 c_424
                have u_429 := hq_421.2.2.2.2.2.1 c_424
                refine lv_aload_n hx hb dX7_statement_186 rfl (lv_at hl 0 rfl) ?_
                refine lv_aload_n hx hb dX7_statement_187 rfl (lv_at hl 0 rfl) ?_
                refine va_get (D := D) (ci := 7) (v := .ref (a 12)) (C := RX7) (T := TX7) (N := 29) hx hb htg ig_7 hown hK hP 0 (oh_wg (Nat.lt_of_lt_of_le (by decide) hn) (sM_0 hT)) rfl 16 (by decide) (htg _ q_989) (fun _ h9 => h9) rfl dX7_statement_188 ?_
                refine lv_aload_n hx hb dX7_statement_191 rfl (lv_at hl 0 rfl) ?_
                refine va_get (D := D) (ci := 7) (v := .int (gi (C 0) 15)) (C := RX7) (T := TX7) (N := 29) hx hb htg ig_7 hown hK hP 0 (oh_wg (Nat.lt_of_lt_of_le (by decide) hn) (sM_0 hT)) rfl 15 (by decide) (htg _ q_988) (fun _ h9 => h9) (oh_fv (c := C_420 0) (j := 15) rfl (congrArg vi (f_422.2 15 (by decide)))) dX7_statement_192 ?_
                have n_430 : vp_in (gi (C 0) 15) 5 := (rg_in (rn_ltu (u' := 4) (Int32.not_le.mp c_401) (fM_0_15 hT0) (rg_c (v := 5) (lo := 5) (hi := 5) (by decide)) (by decide)) (by decide))
                have b_431 : (gi (C 0) 15).toNatClampNeg < 5 := vp_lt n_430
                refine th_aald hx hb hK hP 12 2 (Nat.lt_of_lt_of_le (by decide) hn) (sM_12 hT) rfl n_430 dX7_statement_195 ?_
                refine lv_iconst (v := 1) hx hb dX7_statement_196 (by decide) ?_
                refine lv_iconst (v := 0) hx hb dX7_statement_197 (by decide) ?_
                refine lv_bipush (v := 99) hx hb dX7_statement_198 (by decide) ?_
                have : (gi (C_420 0) 7).toInt = (gi (C 0) 7).toInt := congrArg (fun z => (vi z).toInt) (f_422.2 7 (by decide))
                have : (gi (C_420 0) 13).toInt = (gi (C 0) 13).toInt := congrArg (fun z => (vi z).toInt) (f_422.2 13 (by decide))
                have : 0 ≤ (gi (C_420 0) 21).toInt ∧ (gi (C_420 0) 21).toInt ≤ 250 := fM_0_21 t_423
                have : 0 ≤ (gi (C_420 0) 7).toInt ∧ (gi (C_420 0) 7).toInt ≤ 250 := fM_0_7 t_423
                have : 0 ≤ (gi (C_420 0) 23).toInt ∧ (gi (C_420 0) 23).toInt ≤ 250 := fM_0_23 t_423
                have : 0 ≤ (gi (C_420 0) 13).toInt ∧ (gi (C_420 0) 13).toInt ≤ 5 := fM_0_13 t_423
                refine tm_V (As := [.ref (a (69 + (gi (C 0) 15).toNatClampNeg)), .int 1, .int 0, .int 99]) (rest := []) ⟨hx, hb, hml, hown, htg⟩ (e_X7_number l D E G _ a C_420 n hn hT (69 + (gi (C 0) 15).toNatClampNeg) (1 : Int32) (0 : Int32) (99 : Int32) (rg_w (rg_c (v := 0) (lo := 0) (hi := 0) (by decide)) (by decide)) (rg_w (rg_c (v := 99) (lo := 99) (hi := 99) (by decide)) (by decide)) ⟨(lt_blk b_431 hn (by decide)), (by omega), 2, fun C h => (h.bpart b_431).1, (rg_in (rg_c (v := 1) (lo := 1) (hi := 1) (by decide)) (by decide)), fun C v h h1 h2 => (h.uppart b_431 (tA_upd (h.bpart b_431) tA_any))⟩ (by omega) hq_421.2.2.2.2.2.2.2.2.1 (by omega) (by omega)) (cwV 4 htg (oh_gV q_1225 q_1227 q_43 q_73 q_1228) rfl rfl rfl pdVX7_number ⟨Nat.le_of_ble_eq_true rfl, Nat.le_of_ble_eq_true rfl⟩) hK hP hD hG hS hA (va_recv hK hP (ci := 7) (q0 := 0) rfl (oh_wg (Nat.lt_of_lt_of_le (by decide) hn) (sM_0 hT))) rfl hl.1 rfl (Nat.le_of_ble_eq_true rfl) dX7_statement_200 ⟨Nat.le_of_ble_eq_true rfl, Nat.le_of_ble_eq_true rfl⟩ (fun r_432 C_433 H locs hq_434 hP hD hS => ?_)
                obtain ⟨hT, f_435, hq_434⟩ := hq_434
                have hF := fr_trk hF f_435 (inR_of (p := (69, 74)) (by decide) (by show 69 ≤ _; omega) (by show _ < 74; omega)) (by decide)
                refine W.widen (k := 0) (n := 0) (Nat.le_refl _) (Nat.le_refl _) ?_
                have t_436 := hT
                refine lv_if_ne (tgt := 208) hx hb dX7_statement_203 (by decide) (fun (c_437 : ¬ (r_432 = 0)) => ?_) (fun (c_437 : r_432 = 0) => ?_)
                · have u_438 := hq_434.2.2.2.1 c_437
                  have u_439 := hq_434.2.2.2.2.1 c_437
                  refine lv_aload_n hx hb dX7_statement_208 rfl (lv_at hl 0 rfl) ?_
                  refine lv_dup hx hb dX7_statement_209 rfl ?_
                  refine va_get (D := D) (ci := 7) (v := .int (gi (C 0) 15)) (C := RX7) (T := TX7) (N := 29) hx hb htg ig_7 hown hK hP 0 (oh_wg (Nat.lt_of_lt_of_le (by decide) hn) (sM_0 hT)) rfl 15 (by decide) (htg _ q_988) (fun _ h9 => h9) (oh_fv (c := C_433 0) (j := 15) rfl (Eq.trans (congrArg vi (f_435.2 15 (by decide))) (congrArg vi (f_422.2 15 (by decide))))) dX7_statement_210 ?_
                  refine lv_iconst (v := 1) hx hb dX7_statement_213 (by decide) ?_
                  refine lv_iadd hx hb dX7_statement_214 ?_
                  refine th_put (Tp := TyM a E) (Rl := fr [(13, 14), (24, 48), (48, 64), (64, 69), (69, 74)] [9, 11, 13, 15, 21, 22, 23, 24, 25] C) (ci := 7) (v := .int ((gi (C 0) 15) + 1)) (ty := .int) (CC := RX7) (T := TX7) (N := 29) hx hb htg ig_7 tyX7 tyX7_ok nmX7 hown hK hP hD hS 0 (Nat.lt_of_lt_of_le (by decide) hn) (sM_0 hT) rfl 15 (by decide) (htg _ q_988) (fun _ h9 => h9) rfl (by decide +kernel) rfl rfl (Nat.le_of_ble_eq_true rfl) (hT.up 0 (by decide) ⟨rfl, (fM_0_7 hT), (fM_0_9 hT), (fM_0_11 hT), (fM_0_13 hT), (rg_w (rg_add (lo := 1) (hi := 5) (rn_ltu (u' := 4) (Int32.not_le.mp c_401) (fM_0_15 hT0) (rg_c (v := 5) (lo := 5) (hi := 5) (by decide)) (by decide)) (rg_c (v := 1) (lo := 1) (hi := 1) (by decide)) (by decide)) (by decide)), (fM_0_21 hT), (fM_0_23 hT)⟩) (fr_fd hF (sM_0 hT) (by decide)) dX7_statement_215 (fun C_440 H locs e_441 hT hF hP hD hS => ?_)
                  have t_442 := hT
                  refine lv_iconst (v := 1) hx hb dX7_statement_218 (by decide) ?_
                  have : (gi (C_433 0) 7).toInt = (gi (C_420 0) 7).toInt := congrArg (fun z => (vi z).toInt) (f_435.2 7 (by decide))
                  have : (gi (C_433 0) 13).toInt = (gi (C_420 0) 13).toInt := congrArg (fun z => (vi z).toInt) (f_435.2 13 (by decide))
                  have : (gi (C_440 0) 21).toInt = (gi (C_433 0) 21).toInt := congrArg Int32.toInt (show gi (C_440 0) 21 = gi (C_433 0) 21 by rw [e_441]; rfl)
                  have : (gi (C_440 0) 7).toInt = (gi (C_433 0) 7).toInt := congrArg Int32.toInt (show gi (C_440 0) 7 = gi (C_433 0) 7 by rw [e_441]; rfl)
                  have : (gi (C_440 0) 23).toInt = (gi (C_433 0) 23).toInt := congrArg Int32.toInt (show gi (C_440 0) 23 = gi (C_433 0) 23 by rw [e_441]; rfl)
                  have : (gi (C_440 0) 13).toInt = (gi (C_433 0) 13).toInt := congrArg Int32.toInt (show gi (C_440 0) 13 = gi (C_433 0) 13 by rw [e_441]; rfl)
                  have : 0 ≤ (gi (C_433 0) 21).toInt ∧ (gi (C_433 0) 21).toInt ≤ 250 := fM_0_21 t_436
                  have : 0 ≤ (gi (C_433 0) 7).toInt ∧ (gi (C_433 0) 7).toInt ≤ 250 := fM_0_7 t_436
                  have : 0 ≤ (gi (C_433 0) 23).toInt ∧ (gi (C_433 0) 23).toInt ≤ 250 := fM_0_23 t_436
                  have : 0 ≤ (gi (C_433 0) 13).toInt ∧ (gi (C_433 0) 13).toInt ≤ 5 := fM_0_13 t_436
                  have : 0 ≤ (gi (C_440 0) 21).toInt ∧ (gi (C_440 0) 21).toInt ≤ 250 := fM_0_21 t_442
                  have : 0 ≤ (gi (C_440 0) 7).toInt ∧ (gi (C_440 0) 7).toInt ≤ 250 := fM_0_7 t_442
                  have : 0 ≤ (gi (C_440 0) 23).toInt ∧ (gi (C_440 0) 23).toInt ≤ 250 := fM_0_23 t_442
                  have : 0 ≤ (gi (C_440 0) 13).toInt ∧ (gi (C_440 0) 13).toInt ≤ 5 := fM_0_13 t_442
                  rw [hQ]
                  exact W.zret (v := 1) (ty := .boolean) hx hb hr (by decide) (fun t ht hW => ⟨⟨1, C_440, rfl, ⟨hT, hF, ⟨(Or.inr rfl), ⟨(by omega), (by omega)⟩, (fun _ => (by omega)), (RelW.fr (RelW.fr (RelW.fr hR (fr_trk (mc := [(69, 74)]) (mf := [21, 22, 23, 24, 25]) fr_rf f_422 (inR_of (p := (69, 74)) (by decide) (by show 69 ≤ _; omega) (by show _ < 74; omega)) (by decide)) (by decide)) (fr_trk (mc := [(69, 74)]) (mf := [21, 22, 23, 24, 25]) fr_rf f_435 (inR_of (p := (69, 74)) (by decide) (by show 69 ≤ _; omega) (by show _ < 74; omega)) (by decide)) (by decide)) (fr_fde (mc := []) (mf := [15]) fr_rf e_441 (sM_0 t_436) (by decide)) (by decide)), (by omega), (absurd u_400.2 (XIs_x (i := 17) (by decide) (by decide) (by decide) u_371.2)), (fgF (j := 15) hq_434.2.2.2.2.2.2.2.1 e_441 (sM_0 t_436) (by decide)), (by omega)⟩⟩, ⟨by rw [ht]; exact hP, hD⟩⟩, hS.F ht⟩) hS.2.2 dX7_statement_219
                · have u_443 := hq_434.2.2.2.2.2.1 c_437
                  have u_444 := hq_434.2.2.2.2.2.2.1 c_437
                  refine lv_iconst (v := 0) hx hb dX7_statement_206 (by decide) ?_
                  have : (gi (C_433 0) 7).toInt = (gi (C_420 0) 7).toInt := congrArg (fun z => (vi z).toInt) (f_435.2 7 (by decide))
                  have : (gi (C_433 0) 13).toInt = (gi (C_420 0) 13).toInt := congrArg (fun z => (vi z).toInt) (f_435.2 13 (by decide))
                  have : 0 ≤ (gi (C_433 0) 21).toInt ∧ (gi (C_433 0) 21).toInt ≤ 250 := fM_0_21 t_436
                  have : 0 ≤ (gi (C_433 0) 7).toInt ∧ (gi (C_433 0) 7).toInt ≤ 250 := fM_0_7 t_436
                  have : 0 ≤ (gi (C_433 0) 23).toInt ∧ (gi (C_433 0) 23).toInt ≤ 250 := fM_0_23 t_436
                  have : 0 ≤ (gi (C_433 0) 13).toInt ∧ (gi (C_433 0) 13).toInt ≤ 5 := fM_0_13 t_436
                  rw [hQ]
                  exact W.zret (v := 0) (ty := .boolean) hx hb hr (by decide) (fun t ht hW => ⟨⟨0, C_433, rfl, ⟨hT, hF, ⟨(Or.inl rfl), ⟨(by omega), hq_434.2.1.2⟩, (fun h9 => absurd rfl h9), (RelW.fr (RelW.fr hR (fr_trk (mc := [(69, 74)]) (mf := [21, 22, 23, 24, 25]) fr_rf f_422 (inR_of (p := (69, 74)) (by decide) (by show 69 ≤ _; omega) (by show _ < 74; omega)) (by decide)) (by decide)) (fr_trk (mc := [(69, 74)]) (mf := [21, 22, 23, 24, 25]) fr_rf f_435 (inR_of (p := (69, 74)) (by decide) (by show 69 ≤ _; omega) (by show _ < 74; omega)) (by decide)) (by decide)), (by omega), (absurd u_400.2 (XIs_x (i := 17) (by decide) (by decide) (by decide) u_371.2)), hq_434.2.2.2.2.2.2.2.1, hq_434.2.2.2.2.2.2.2.2⟩⟩, ⟨by rw [ht]; exact hP, hD⟩⟩, hS.F ht⟩) hS.2.2 dX7_statement_207
        · have u_445 := hq_378.2.1 c_379
          refine lv_aload_n hx hb dX7_statement_73 rfl (lv_at hl 0 rfl) ?_
          refine va_get (D := D) (ci := 7) (v := .int (gi (C 0) 13)) (C := RX7) (T := TX7) (N := 29) hx hb htg ig_7 hown hK hP 0 (oh_wg (Nat.lt_of_lt_of_le (by decide) hn) (sM_0 hT)) rfl 13 (by decide) (htg _ q_986) (fun _ h9 => h9) rfl dX7_statement_74 ?_
          refine lv_iconst (v := 5) hx hb dX7_statement_77 (by decide) ?_
          refine lv_icmp_ge (tgt := 147) hx hb dX7_statement_78 (by decide) (fun (c_446 : (5 : Int32) ≤ (gi (C 0) 13)) => ?_) (fun (c_446 : ¬ ((5 : Int32) ≤ (gi (C 0) 13))) => ?_)
          · refine lv_aload_n hx hb dX7_statement_147 rfl (lv_at hl 0 rfl) ?_
            refine va_ldcS hx hb hown (hG.2.2.1 ("OneHeavyLoadModel", 214, "part", 34) (List.mem_of_getElem? (i := 31) rfl)) dX7_statement_148 ?_
            refine tq_V (As := [.ref (G (3 + 31))]) (rest := []) (ws := (oh_W n a C)) ⟨hx, hb, hml, hown, htg⟩ (e_X7_isWord l D E G a C n hn hT 31 (by decide)) (cwV 1 htg (oh_gV q_1215 q_1217 q_41 q_73 q_1218) rfl rfl rfl pdVX7_isWord ⟨Nat.le_of_ble_eq_true rfl, Nat.le_of_ble_eq_true rfl⟩) hK hP hG hS (va_recv hK hP (ci := 7) (q0 := 0) rfl (oh_wg (Nat.lt_of_lt_of_le (by decide) hn) (sM_0 hT))) rfl hl.1 rfl (Nat.le_of_ble_eq_true rfl) dX7_statement_150 ⟨Nat.le_of_ble_eq_true rfl, Nat.le_of_ble_eq_true rfl⟩ (fun r_447 hq_448 => ?_)
            refine lv_if_eq (tgt := 220) hx hb dX7_statement_153 (by decide) (fun (c_449 : r_447 = 0) => ?_) (fun (c_449 : ¬ (r_447 = 0)) => ?_)
            · have u_450 := hq_448.2.2 c_449
              refine lv_aload_n hx hb dX7_statement_220 rfl (lv_at hl 0 rfl) ?_
              refine va_ldcS hx hb hown (hG.2.2.1 ("OneHeavyLoadModel", 215, "load", 35) (List.mem_of_getElem? (i := 32) rfl)) dX7_statement_221 ?_
              refine tq_V (As := [.ref (G (3 + 32))]) (rest := []) (ws := (oh_W n a C)) ⟨hx, hb, hml, hown, htg⟩ (e_X7_isWord l D E G a C n hn hT 32 (by decide)) (cwV 1 htg (oh_gV q_1215 q_1217 q_41 q_73 q_1218) rfl rfl rfl pdVX7_isWord ⟨Nat.le_of_ble_eq_true rfl, Nat.le_of_ble_eq_true rfl⟩) hK hP hG hS (va_recv hK hP (ci := 7) (q0 := 0) rfl (oh_wg (Nat.lt_of_lt_of_le (by decide) hn) (sM_0 hT))) rfl hl.1 rfl (Nat.le_of_ble_eq_true rfl) dX7_statement_223 ⟨Nat.le_of_ble_eq_true rfl, Nat.le_of_ble_eq_true rfl⟩ (fun r_451 hq_452 => ?_)
              refine lv_if_eq (tgt := 245) hx hb dX7_statement_226 (by decide) (fun (c_453 : r_451 = 0) => ?_) (fun (c_453 : ¬ (r_451 = 0)) => ?_)
              · have u_454 := hq_452.2.2 c_453
                refine lv_aload_n hx hb dX7_statement_245 rfl (lv_at hl 0 rfl) ?_
                refine va_ldcS hx hb hown (hG.2.2.1 ("OneHeavyLoadModel", 217, "mile", 36) (List.mem_of_getElem? (i := 33) rfl)) dX7_statement_246 ?_
                refine lv_aload_n hx hb dX7_statement_248 rfl (lv_at hl 0 rfl) ?_
                refine va_get (D := D) (ci := 7) (v := .ref (a 13)) (C := RX7) (T := TX7) (N := 29) hx hb htg ig_7 hown hK hP 0 (oh_wg (Nat.lt_of_lt_of_le (by decide) hn) (sM_0 hT)) rfl 17 (by decide) (htg _ q_990) (fun _ h9 => h9) rfl dX7_statement_249 ?_
                refine lv_iconst (v := 1) hx hb dX7_statement_252 (by decide) ?_
                refine lv_iconst (v := 0) hx hb dX7_statement_253 (by decide) ?_
                refine lv_bipush (v := 99) hx hb dX7_statement_254 (by decide) ?_
                have : 0 ≤ (gi (C 0) 21).toInt ∧ (gi (C 0) 21).toInt ≤ 250 := fM_0_21 hT0
                have : 0 ≤ (gi (C 0) 7).toInt ∧ (gi (C 0) 7).toInt ≤ 250 := fM_0_7 hT0
                have : 0 ≤ (gi (C 0) 23).toInt ∧ (gi (C 0) 23).toInt ≤ 250 := fM_0_23 hT0
                have : 0 ≤ (gi (C 0) 13).toInt ∧ (gi (C 0) 13).toInt ≤ 5 := fM_0_13 hT0
                have : (24 : Int32).toInt = 24 := rfl
                have : (24 : Int32).toInt ≤ (gi (C 0) 9).toInt := Int32.le_iff_toInt_le.mp c_372
                have : (5 : Int32).toInt = 5 := rfl
                have : (5 : Int32).toInt ≤ (gi (C 0) 13).toInt := Int32.le_iff_toInt_le.mp c_446
                refine tm_V (As := [.ref (G (3 + 33)), .ref (a 13), .int 1, .int 0, .int 99]) (rest := []) ⟨hx, hb, hml, hown, htg⟩ (e_X7_told l D E G _ a C n hn hT 33 13 (1 : Int32) (0 : Int32) (99 : Int32) (by decide) (rg_w (rg_c (v := 0) (lo := 0) (hi := 0) (by decide)) (by decide)) (rg_w (rg_c (v := 99) (lo := 99) (hi := 99) (by decide)) (by decide)) ⟨(Nat.lt_of_lt_of_le (by decide) hn), (by decide), 3, fun C h => (sM_13 h), (rg_in (rg_c (v := 1) (lo := 1) (hi := 1) (by decide)) (by decide)), fun C v h h1 h2 => (h.up 13 (by decide) (tA_upd (tM_13 h) tA_any))⟩ (by omega) hfg (by omega) (by decide)) (cwV 5 htg (oh_gV q_1234 q_1236 q_45 q_73 q_1237) rfl rfl rfl pdVX7_told ⟨Nat.le_of_ble_eq_true rfl, Nat.le_of_ble_eq_true rfl⟩) hK hP hD hG hS hA (va_recv hK hP (ci := 7) (q0 := 0) rfl (oh_wg (Nat.lt_of_lt_of_le (by decide) hn) (sM_0 hT))) rfl hl.1 rfl (Nat.le_of_ble_eq_true rfl) dX7_statement_256 ⟨Nat.le_of_ble_eq_true rfl, Nat.le_of_ble_eq_true rfl⟩ (fun r_455 C_456 H locs hq_457 hP hD hS => ?_)
                obtain ⟨hT, f_458, hq_457⟩ := hq_457
                have hF := fr_trk hF f_458 (by decide) (by decide)
                refine W.widen (k := 0) (n := 0) (Nat.le_refl _) (Nat.le_refl _) ?_
                have t_459 := hT
                have : (gi (C_456 0) 7).toInt = (gi (C 0) 7).toInt := congrArg (fun z => (vi z).toInt) (f_458.2 7 (by decide))
                have : (gi (C_456 0) 13).toInt = (gi (C 0) 13).toInt := congrArg (fun z => (vi z).toInt) (f_458.2 13 (by decide))
                have : 0 ≤ (gi (C_456 0) 21).toInt ∧ (gi (C_456 0) 21).toInt ≤ 250 := fM_0_21 t_459
                have : 0 ≤ (gi (C_456 0) 7).toInt ∧ (gi (C_456 0) 7).toInt ≤ 250 := fM_0_7 t_459
                have : 0 ≤ (gi (C_456 0) 23).toInt ∧ (gi (C_456 0) 23).toInt ≤ 250 := fM_0_23 t_459
                have : 0 ≤ (gi (C_456 0) 13).toInt ∧ (gi (C_456 0) 13).toInt ≤ 5 := fM_0_13 t_459
                rw [hQ]
                exact W.zret (v := r_455) (ty := .boolean) hx hb hr (oh_nb hq_457.1) (fun t ht hW => ⟨⟨r_455, C_456, rfl, ⟨hT, hF, ⟨hq_457.1, ⟨hq_457.2.1.1, hq_457.2.1.2⟩, (fun h9 => (hq_457.2.2.2.2.1 h9)), (RelW.fr hR (fr_trk (mc := [(13, 14)]) (mf := [21, 22, 23, 24, 25]) fr_rf f_458 (by decide) (by decide)) (by decide)), (by omega), (absurd u_445.2 (XIs_x (i := 17) (by decide) (by decide) (by decide) u_371.2)), hq_457.2.2.2.2.2.2.2.2.1, hq_457.2.2.2.2.2.2.2.2.2⟩⟩, ⟨by rw [ht]; exact hP, hD⟩⟩, hS.F ht⟩) hS.2.2 dX7_statement_259
              · have u_460 := hq_452.2.1 c_453
                refine lv_aload_n hx hb dX7_statement_229 rfl (lv_at hl 0 rfl) ?_
                refine va_ldcS hx hb hown (hG.2.2.1 ("OneHeavyLoadModel", 215, "load", 35) (List.mem_of_getElem? (i := 32) rfl)) dX7_statement_230 ?_
                refine lv_aload_n hx hb dX7_statement_232 rfl (lv_at hl 0 rfl) ?_
                refine va_get (D := D) (ci := 7) (v := .ref (a 13)) (C := RX7) (T := TX7) (N := 29) hx hb htg ig_7 hown hK hP 0 (oh_wg (Nat.lt_of_lt_of_le (by decide) hn) (sM_0 hT)) rfl 17 (by decide) (htg _ q_990) (fun _ h9 => h9) rfl dX7_statement_233 ?_
                refine lv_iconst (v := 0) hx hb dX7_statement_236 (by decide) ?_
                refine lv_iconst (v := 0) hx hb dX7_statement_237 (by decide) ?_
                refine lv_sipush (v := 900) hx hb dX7_statement_238 (by decide) ?_
                have : 0 ≤ (gi (C 0) 21).toInt ∧ (gi (C 0) 21).toInt ≤ 250 := fM_0_21 hT0
                have : 0 ≤ (gi (C 0) 7).toInt ∧ (gi (C 0) 7).toInt ≤ 250 := fM_0_7 hT0
                have : 0 ≤ (gi (C 0) 23).toInt ∧ (gi (C 0) 23).toInt ≤ 250 := fM_0_23 hT0
                have : 0 ≤ (gi (C 0) 13).toInt ∧ (gi (C 0) 13).toInt ≤ 5 := fM_0_13 hT0
                have : (24 : Int32).toInt = 24 := rfl
                have : (24 : Int32).toInt ≤ (gi (C 0) 9).toInt := Int32.le_iff_toInt_le.mp c_372
                have : (5 : Int32).toInt = 5 := rfl
                have : (5 : Int32).toInt ≤ (gi (C 0) 13).toInt := Int32.le_iff_toInt_le.mp c_446
                refine tm_V (As := [.ref (G (3 + 32)), .ref (a 13), .int 0, .int 0, .int 900]) (rest := []) ⟨hx, hb, hml, hown, htg⟩ (e_X7_told l D E G _ a C n hn hT 32 13 (0 : Int32) (0 : Int32) (900 : Int32) (by decide) (rg_w (rg_c (v := 0) (lo := 0) (hi := 0) (by decide)) (by decide)) (rg_w (rg_c (v := 900) (lo := 900) (hi := 900) (by decide)) (by decide)) ⟨(Nat.lt_of_lt_of_le (by decide) hn), (by decide), 3, fun C h => (sM_13 h), (rg_in (rg_c (v := 0) (lo := 0) (hi := 0) (by decide)) (by decide)), fun C v h h1 h2 => (h.up 13 (by decide) (tA_upd (tM_13 h) tA_any))⟩ (by omega) hfg (by omega) (by decide)) (cwV 5 htg (oh_gV q_1234 q_1236 q_45 q_73 q_1237) rfl rfl rfl pdVX7_told ⟨Nat.le_of_ble_eq_true rfl, Nat.le_of_ble_eq_true rfl⟩) hK hP hD hG hS hA (va_recv hK hP (ci := 7) (q0 := 0) rfl (oh_wg (Nat.lt_of_lt_of_le (by decide) hn) (sM_0 hT))) rfl hl.1 rfl (Nat.le_of_ble_eq_true rfl) dX7_statement_241 ⟨Nat.le_of_ble_eq_true rfl, Nat.le_of_ble_eq_true rfl⟩ (fun r_461 C_462 H locs hq_463 hP hD hS => ?_)
                obtain ⟨hT, f_464, hq_463⟩ := hq_463
                have hF := fr_trk hF f_464 (by decide) (by decide)
                refine W.widen (k := 0) (n := 0) (Nat.le_refl _) (Nat.le_refl _) ?_
                have t_465 := hT
                have : (gi (C_462 0) 7).toInt = (gi (C 0) 7).toInt := congrArg (fun z => (vi z).toInt) (f_464.2 7 (by decide))
                have : (gi (C_462 0) 13).toInt = (gi (C 0) 13).toInt := congrArg (fun z => (vi z).toInt) (f_464.2 13 (by decide))
                have : 0 ≤ (gi (C_462 0) 21).toInt ∧ (gi (C_462 0) 21).toInt ≤ 250 := fM_0_21 t_465
                have : 0 ≤ (gi (C_462 0) 7).toInt ∧ (gi (C_462 0) 7).toInt ≤ 250 := fM_0_7 t_465
                have : 0 ≤ (gi (C_462 0) 23).toInt ∧ (gi (C_462 0) 23).toInt ≤ 250 := fM_0_23 t_465
                have : 0 ≤ (gi (C_462 0) 13).toInt ∧ (gi (C_462 0) 13).toInt ≤ 5 := fM_0_13 t_465
                rw [hQ]
                exact W.zret (v := r_461) (ty := .boolean) hx hb hr (oh_nb hq_463.1) (fun t ht hW => ⟨⟨r_461, C_462, rfl, ⟨hT, hF, ⟨hq_463.1, ⟨hq_463.2.1.1, hq_463.2.1.2⟩, (fun h9 => (hq_463.2.2.2.2.1 h9)), (RelW.fr hR (fr_trk (mc := [(13, 14)]) (mf := [21, 22, 23, 24, 25]) fr_rf f_464 (by decide) (by decide)) (by decide)), (by omega), (absurd u_445.2 (XIs_x (i := 17) (by decide) (by decide) (by decide) u_371.2)), hq_463.2.2.2.2.2.2.2.2.1, hq_463.2.2.2.2.2.2.2.2.2⟩⟩, ⟨by rw [ht]; exact hP, hD⟩⟩, hS.F ht⟩) hS.2.2 dX7_statement_244
            · have u_466 := hq_448.2.1 c_449
              refine lv_aload_n hx hb dX7_statement_156 rfl (lv_at hl 0 rfl) ?_
              refine va_get (D := D) (ci := 7) (v := .int (gi (C 0) 15)) (C := RX7) (T := TX7) (N := 29) hx hb htg ig_7 hown hK hP 0 (oh_wg (Nat.lt_of_lt_of_le (by decide) hn) (sM_0 hT)) rfl 15 (by decide) (htg _ q_988) (fun _ h9 => h9) rfl dX7_statement_157 ?_
              refine lv_iconst (v := 5) hx hb dX7_statement_160 (by decide) ?_
              refine lv_icmp_ge (tgt := 220) hx hb dX7_statement_161 (by decide) (fun (c_467 : (5 : Int32) ≤ (gi (C 0) 15)) => ?_) (fun (c_467 : ¬ ((5 : Int32) ≤ (gi (C 0) 15))) => ?_)
              · refine lv_aload_n hx hb dX7_statement_220 rfl (lv_at hl 0 rfl) ?_
                refine va_ldcS hx hb hown (hG.2.2.1 ("OneHeavyLoadModel", 215, "load", 35) (List.mem_of_getElem? (i := 32) rfl)) dX7_statement_221 ?_
                refine tq_V (As := [.ref (G (3 + 32))]) (rest := []) (ws := (oh_W n a C)) ⟨hx, hb, hml, hown, htg⟩ (e_X7_isWord l D E G a C n hn hT 32 (by decide)) (cwV 1 htg (oh_gV q_1215 q_1217 q_41 q_73 q_1218) rfl rfl rfl pdVX7_isWord ⟨Nat.le_of_ble_eq_true rfl, Nat.le_of_ble_eq_true rfl⟩) hK hP hG hS (va_recv hK hP (ci := 7) (q0 := 0) rfl (oh_wg (Nat.lt_of_lt_of_le (by decide) hn) (sM_0 hT))) rfl hl.1 rfl (Nat.le_of_ble_eq_true rfl) dX7_statement_223 ⟨Nat.le_of_ble_eq_true rfl, Nat.le_of_ble_eq_true rfl⟩ (fun r_468 hq_469 => ?_)
                refine lv_if_eq (tgt := 245) hx hb dX7_statement_226 (by decide) (fun (c_470 : r_468 = 0) => ?_) (fun (c_470 : ¬ (r_468 = 0)) => ?_)
                · have u_471 := hq_469.2.2 c_470
                  refine lv_aload_n hx hb dX7_statement_245 rfl (lv_at hl 0 rfl) ?_
                  refine va_ldcS hx hb hown (hG.2.2.1 ("OneHeavyLoadModel", 217, "mile", 36) (List.mem_of_getElem? (i := 33) rfl)) dX7_statement_246 ?_
                  refine lv_aload_n hx hb dX7_statement_248 rfl (lv_at hl 0 rfl) ?_
                  refine va_get (D := D) (ci := 7) (v := .ref (a 13)) (C := RX7) (T := TX7) (N := 29) hx hb htg ig_7 hown hK hP 0 (oh_wg (Nat.lt_of_lt_of_le (by decide) hn) (sM_0 hT)) rfl 17 (by decide) (htg _ q_990) (fun _ h9 => h9) rfl dX7_statement_249 ?_
                  refine lv_iconst (v := 1) hx hb dX7_statement_252 (by decide) ?_
                  refine lv_iconst (v := 0) hx hb dX7_statement_253 (by decide) ?_
                  refine lv_bipush (v := 99) hx hb dX7_statement_254 (by decide) ?_
                  have : 0 ≤ (gi (C 0) 21).toInt ∧ (gi (C 0) 21).toInt ≤ 250 := fM_0_21 hT0
                  have : 0 ≤ (gi (C 0) 7).toInt ∧ (gi (C 0) 7).toInt ≤ 250 := fM_0_7 hT0
                  have : 0 ≤ (gi (C 0) 23).toInt ∧ (gi (C 0) 23).toInt ≤ 250 := fM_0_23 hT0
                  have : 0 ≤ (gi (C 0) 13).toInt ∧ (gi (C 0) 13).toInt ≤ 5 := fM_0_13 hT0
                  have : (24 : Int32).toInt = 24 := rfl
                  have : (24 : Int32).toInt ≤ (gi (C 0) 9).toInt := Int32.le_iff_toInt_le.mp c_372
                  have : (5 : Int32).toInt = 5 := rfl
                  have : (5 : Int32).toInt ≤ (gi (C 0) 13).toInt := Int32.le_iff_toInt_le.mp c_446
                  have : (5 : Int32).toInt ≤ (gi (C 0) 15).toInt := Int32.le_iff_toInt_le.mp c_467
                  refine tm_V (As := [.ref (G (3 + 33)), .ref (a 13), .int 1, .int 0, .int 99]) (rest := []) ⟨hx, hb, hml, hown, htg⟩ (e_X7_told l D E G _ a C n hn hT 33 13 (1 : Int32) (0 : Int32) (99 : Int32) (by decide) (rg_w (rg_c (v := 0) (lo := 0) (hi := 0) (by decide)) (by decide)) (rg_w (rg_c (v := 99) (lo := 99) (hi := 99) (by decide)) (by decide)) ⟨(Nat.lt_of_lt_of_le (by decide) hn), (by decide), 3, fun C h => (sM_13 h), (rg_in (rg_c (v := 1) (lo := 1) (hi := 1) (by decide)) (by decide)), fun C v h h1 h2 => (h.up 13 (by decide) (tA_upd (tM_13 h) tA_any))⟩ (by omega) hfg (by omega) (by decide)) (cwV 5 htg (oh_gV q_1234 q_1236 q_45 q_73 q_1237) rfl rfl rfl pdVX7_told ⟨Nat.le_of_ble_eq_true rfl, Nat.le_of_ble_eq_true rfl⟩) hK hP hD hG hS hA (va_recv hK hP (ci := 7) (q0 := 0) rfl (oh_wg (Nat.lt_of_lt_of_le (by decide) hn) (sM_0 hT))) rfl hl.1 rfl (Nat.le_of_ble_eq_true rfl) dX7_statement_256 ⟨Nat.le_of_ble_eq_true rfl, Nat.le_of_ble_eq_true rfl⟩ (fun r_472 C_473 H locs hq_474 hP hD hS => ?_)
                  obtain ⟨hT, f_475, hq_474⟩ := hq_474
                  have hF := fr_trk hF f_475 (by decide) (by decide)
                  refine W.widen (k := 0) (n := 0) (Nat.le_refl _) (Nat.le_refl _) ?_
                  have t_476 := hT
                  have : (gi (C_473 0) 7).toInt = (gi (C 0) 7).toInt := congrArg (fun z => (vi z).toInt) (f_475.2 7 (by decide))
                  have : (gi (C_473 0) 13).toInt = (gi (C 0) 13).toInt := congrArg (fun z => (vi z).toInt) (f_475.2 13 (by decide))
                  have : 0 ≤ (gi (C_473 0) 21).toInt ∧ (gi (C_473 0) 21).toInt ≤ 250 := fM_0_21 t_476
                  have : 0 ≤ (gi (C_473 0) 7).toInt ∧ (gi (C_473 0) 7).toInt ≤ 250 := fM_0_7 t_476
                  have : 0 ≤ (gi (C_473 0) 23).toInt ∧ (gi (C_473 0) 23).toInt ≤ 250 := fM_0_23 t_476
                  have : 0 ≤ (gi (C_473 0) 13).toInt ∧ (gi (C_473 0) 13).toInt ≤ 5 := fM_0_13 t_476
                  rw [hQ]
                  exact W.zret (v := r_472) (ty := .boolean) hx hb hr (oh_nb hq_474.1) (fun t ht hW => ⟨⟨r_472, C_473, rfl, ⟨hT, hF, ⟨hq_474.1, ⟨hq_474.2.1.1, hq_474.2.1.2⟩, (fun h9 => (hq_474.2.2.2.2.1 h9)), (RelW.fr hR (fr_trk (mc := [(13, 14)]) (mf := [21, 22, 23, 24, 25]) fr_rf f_475 (by decide) (by decide)) (by decide)), (by omega), (absurd u_445.2 (XIs_x (i := 17) (by decide) (by decide) (by decide) u_371.2)), hq_474.2.2.2.2.2.2.2.2.1, hq_474.2.2.2.2.2.2.2.2.2⟩⟩, ⟨by rw [ht]; exact hP, hD⟩⟩, hS.F ht⟩) hS.2.2 dX7_statement_259
                · have u_477 := hq_469.2.1 c_470
                  refine lv_aload_n hx hb dX7_statement_229 rfl (lv_at hl 0 rfl) ?_
                  refine va_ldcS hx hb hown (hG.2.2.1 ("OneHeavyLoadModel", 215, "load", 35) (List.mem_of_getElem? (i := 32) rfl)) dX7_statement_230 ?_
                  refine lv_aload_n hx hb dX7_statement_232 rfl (lv_at hl 0 rfl) ?_
                  refine va_get (D := D) (ci := 7) (v := .ref (a 13)) (C := RX7) (T := TX7) (N := 29) hx hb htg ig_7 hown hK hP 0 (oh_wg (Nat.lt_of_lt_of_le (by decide) hn) (sM_0 hT)) rfl 17 (by decide) (htg _ q_990) (fun _ h9 => h9) rfl dX7_statement_233 ?_
                  refine lv_iconst (v := 0) hx hb dX7_statement_236 (by decide) ?_
                  refine lv_iconst (v := 0) hx hb dX7_statement_237 (by decide) ?_
                  refine lv_sipush (v := 900) hx hb dX7_statement_238 (by decide) ?_
                  have : 0 ≤ (gi (C 0) 21).toInt ∧ (gi (C 0) 21).toInt ≤ 250 := fM_0_21 hT0
                  have : 0 ≤ (gi (C 0) 7).toInt ∧ (gi (C 0) 7).toInt ≤ 250 := fM_0_7 hT0
                  have : 0 ≤ (gi (C 0) 23).toInt ∧ (gi (C 0) 23).toInt ≤ 250 := fM_0_23 hT0
                  have : 0 ≤ (gi (C 0) 13).toInt ∧ (gi (C 0) 13).toInt ≤ 5 := fM_0_13 hT0
                  have : (24 : Int32).toInt = 24 := rfl
                  have : (24 : Int32).toInt ≤ (gi (C 0) 9).toInt := Int32.le_iff_toInt_le.mp c_372
                  have : (5 : Int32).toInt = 5 := rfl
                  have : (5 : Int32).toInt ≤ (gi (C 0) 13).toInt := Int32.le_iff_toInt_le.mp c_446
                  have : (5 : Int32).toInt ≤ (gi (C 0) 15).toInt := Int32.le_iff_toInt_le.mp c_467
                  refine tm_V (As := [.ref (G (3 + 32)), .ref (a 13), .int 0, .int 0, .int 900]) (rest := []) ⟨hx, hb, hml, hown, htg⟩ (e_X7_told l D E G _ a C n hn hT 32 13 (0 : Int32) (0 : Int32) (900 : Int32) (by decide) (rg_w (rg_c (v := 0) (lo := 0) (hi := 0) (by decide)) (by decide)) (rg_w (rg_c (v := 900) (lo := 900) (hi := 900) (by decide)) (by decide)) ⟨(Nat.lt_of_lt_of_le (by decide) hn), (by decide), 3, fun C h => (sM_13 h), (rg_in (rg_c (v := 0) (lo := 0) (hi := 0) (by decide)) (by decide)), fun C v h h1 h2 => (h.up 13 (by decide) (tA_upd (tM_13 h) tA_any))⟩ (by omega) hfg (by omega) (by decide)) (cwV 5 htg (oh_gV q_1234 q_1236 q_45 q_73 q_1237) rfl rfl rfl pdVX7_told ⟨Nat.le_of_ble_eq_true rfl, Nat.le_of_ble_eq_true rfl⟩) hK hP hD hG hS hA (va_recv hK hP (ci := 7) (q0 := 0) rfl (oh_wg (Nat.lt_of_lt_of_le (by decide) hn) (sM_0 hT))) rfl hl.1 rfl (Nat.le_of_ble_eq_true rfl) dX7_statement_241 ⟨Nat.le_of_ble_eq_true rfl, Nat.le_of_ble_eq_true rfl⟩ (fun r_478 C_479 H locs hq_480 hP hD hS => ?_)
                  obtain ⟨hT, f_481, hq_480⟩ := hq_480
                  have hF := fr_trk hF f_481 (by decide) (by decide)
                  refine W.widen (k := 0) (n := 0) (Nat.le_refl _) (Nat.le_refl _) ?_
                  have t_482 := hT
                  have : (gi (C_479 0) 7).toInt = (gi (C 0) 7).toInt := congrArg (fun z => (vi z).toInt) (f_481.2 7 (by decide))
                  have : (gi (C_479 0) 13).toInt = (gi (C 0) 13).toInt := congrArg (fun z => (vi z).toInt) (f_481.2 13 (by decide))
                  have : 0 ≤ (gi (C_479 0) 21).toInt ∧ (gi (C_479 0) 21).toInt ≤ 250 := fM_0_21 t_482
                  have : 0 ≤ (gi (C_479 0) 7).toInt ∧ (gi (C_479 0) 7).toInt ≤ 250 := fM_0_7 t_482
                  have : 0 ≤ (gi (C_479 0) 23).toInt ∧ (gi (C_479 0) 23).toInt ≤ 250 := fM_0_23 t_482
                  have : 0 ≤ (gi (C_479 0) 13).toInt ∧ (gi (C_479 0) 13).toInt ≤ 5 := fM_0_13 t_482
                  rw [hQ]
                  exact W.zret (v := r_478) (ty := .boolean) hx hb hr (oh_nb hq_480.1) (fun t ht hW => ⟨⟨r_478, C_479, rfl, ⟨hT, hF, ⟨hq_480.1, ⟨hq_480.2.1.1, hq_480.2.1.2⟩, (fun h9 => (hq_480.2.2.2.2.1 h9)), (RelW.fr hR (fr_trk (mc := [(13, 14)]) (mf := [21, 22, 23, 24, 25]) fr_rf f_481 (by decide) (by decide)) (by decide)), (by omega), (absurd u_445.2 (XIs_x (i := 17) (by decide) (by decide) (by decide) u_371.2)), hq_480.2.2.2.2.2.2.2.2.1, hq_480.2.2.2.2.2.2.2.2.2⟩⟩, ⟨by rw [ht]; exact hP, hD⟩⟩, hS.F ht⟩) hS.2.2 dX7_statement_244
              · refine lv_aload_n hx hb dX7_statement_164 rfl (lv_at hl 0 rfl) ?_
                refine va_ldcS hx hb hown (hG.2.2.1 ("OneHeavyLoadModel", 214, "part", 34) (List.mem_of_getElem? (i := 31) rfl)) dX7_statement_165 ?_
                refine lv_aload_n hx hb dX7_statement_167 rfl (lv_at hl 0 rfl) ?_
                refine va_get (D := D) (ci := 7) (v := .ref (a 12)) (C := RX7) (T := TX7) (N := 29) hx hb htg ig_7 hown hK hP 0 (oh_wg (Nat.lt_of_lt_of_le (by decide) hn) (sM_0 hT)) rfl 16 (by decide) (htg _ q_989) (fun _ h9 => h9) rfl dX7_statement_168 ?_
                refine lv_aload_n hx hb dX7_statement_171 rfl (lv_at hl 0 rfl) ?_
                refine va_get (D := D) (ci := 7) (v := .int (gi (C 0) 15)) (C := RX7) (T := TX7) (N := 29) hx hb htg ig_7 hown hK hP 0 (oh_wg (Nat.lt_of_lt_of_le (by decide) hn) (sM_0 hT)) rfl 15 (by decide) (htg _ q_988) (fun _ h9 => h9) rfl dX7_statement_172 ?_
                have n_483 : vp_in (gi (C 0) 15) 5 := (rg_in (rn_ltu (u' := 4) (Int32.not_le.mp c_467) (fM_0_15 hT0) (rg_c (v := 5) (lo := 5) (hi := 5) (by decide)) (by decide)) (by decide))
                have b_484 : (gi (C 0) 15).toNatClampNeg < 5 := vp_lt n_483
                refine th_aald hx hb hK hP 12 2 (Nat.lt_of_lt_of_le (by decide) hn) (sM_12 hT) rfl n_483 dX7_statement_175 ?_
                refine lv_iconst (v := 0) hx hb dX7_statement_176 (by decide) ?_
                refine lv_iconst (v := 1) hx hb dX7_statement_177 (by decide) ?_
                refine lv_bipush (v := 99) hx hb dX7_statement_178 (by decide) ?_
                have : 0 ≤ (gi (C 0) 21).toInt ∧ (gi (C 0) 21).toInt ≤ 250 := fM_0_21 hT0
                have : 0 ≤ (gi (C 0) 7).toInt ∧ (gi (C 0) 7).toInt ≤ 250 := fM_0_7 hT0
                have : 0 ≤ (gi (C 0) 23).toInt ∧ (gi (C 0) 23).toInt ≤ 250 := fM_0_23 hT0
                have : 0 ≤ (gi (C 0) 13).toInt ∧ (gi (C 0) 13).toInt ≤ 5 := fM_0_13 hT0
                have : (24 : Int32).toInt = 24 := rfl
                have : (24 : Int32).toInt ≤ (gi (C 0) 9).toInt := Int32.le_iff_toInt_le.mp c_372
                have : (5 : Int32).toInt = 5 := rfl
                have : (5 : Int32).toInt ≤ (gi (C 0) 13).toInt := Int32.le_iff_toInt_le.mp c_446
                have : (gi (C 0) 15).toInt < (5 : Int32).toInt := Int32.lt_iff_toInt_lt.mp (Int32.not_le.mp c_467)
                refine tm_V (As := [.ref (G (3 + 31)), .ref (a (69 + (gi (C 0) 15).toNatClampNeg)), .int 0, .int 1, .int 99]) (rest := []) ⟨hx, hb, hml, hown, htg⟩ (e_X7_told l D E G _ a C n hn hT 31 (69 + (gi (C 0) 15).toNatClampNeg) (0 : Int32) (1 : Int32) (99 : Int32) (by decide) (rg_w (rg_c (v := 1) (lo := 1) (hi := 1) (by decide)) (by decide)) (rg_w (rg_c (v := 99) (lo := 99) (hi := 99) (by decide)) (by decide)) ⟨(lt_blk b_484 hn (by decide)), (by omega), 2, fun C h => (h.bpart b_484).1, (rg_in (rg_c (v := 0) (lo := 0) (hi := 0) (by decide)) (by decide)), fun C v h h1 h2 => (h.uppart b_484 (tA_upd (h.bpart b_484) tA_any))⟩ (by omega) hfg (by omega) (by omega)) (cwV 5 htg (oh_gV q_1234 q_1236 q_45 q_73 q_1237) rfl rfl rfl pdVX7_told ⟨Nat.le_of_ble_eq_true rfl, Nat.le_of_ble_eq_true rfl⟩) hK hP hD hG hS hA (va_recv hK hP (ci := 7) (q0 := 0) rfl (oh_wg (Nat.lt_of_lt_of_le (by decide) hn) (sM_0 hT))) rfl hl.1 rfl (Nat.le_of_ble_eq_true rfl) dX7_statement_180 ⟨Nat.le_of_ble_eq_true rfl, Nat.le_of_ble_eq_true rfl⟩ (fun r_485 C_486 H locs hq_487 hP hD hS => ?_)
                obtain ⟨hT, f_488, hq_487⟩ := hq_487
                have hF := fr_trk hF f_488 (inR_of (p := (69, 74)) (by decide) (by show 69 ≤ _; omega) (by show _ < 74; omega)) (by decide)
                refine W.widen (k := 0) (n := 0) (Nat.le_refl _) (Nat.le_refl _) ?_
                have t_489 := hT
                refine lv_if_eq (tgt := 206) hx hb dX7_statement_183 (by decide) (fun (c_490 : r_485 = 0) => ?_) (fun (c_490 : ¬ (r_485 = 0)) => ?_)
                · have u_491 := hq_487.2.2.2.2.2.2.1 c_490
                  have u_492 := hq_487.2.2.2.2.2.2.2.1 c_490
                  refine lv_iconst (v := 0) hx hb dX7_statement_206 (by decide) ?_
                  have : (gi (C_486 0) 7).toInt = (gi (C 0) 7).toInt := congrArg (fun z => (vi z).toInt) (f_488.2 7 (by decide))
                  have : (gi (C_486 0) 13).toInt = (gi (C 0) 13).toInt := congrArg (fun z => (vi z).toInt) (f_488.2 13 (by decide))
                  have : 0 ≤ (gi (C_486 0) 21).toInt ∧ (gi (C_486 0) 21).toInt ≤ 250 := fM_0_21 t_489
                  have : 0 ≤ (gi (C_486 0) 7).toInt ∧ (gi (C_486 0) 7).toInt ≤ 250 := fM_0_7 t_489
                  have : 0 ≤ (gi (C_486 0) 23).toInt ∧ (gi (C_486 0) 23).toInt ≤ 250 := fM_0_23 t_489
                  have : 0 ≤ (gi (C_486 0) 13).toInt ∧ (gi (C_486 0) 13).toInt ≤ 5 := fM_0_13 t_489
                  rw [hQ]
                  exact W.zret (v := 0) (ty := .boolean) hx hb hr (by decide) (fun t ht hW => ⟨⟨0, C_486, rfl, ⟨hT, hF, ⟨(Or.inl rfl), ⟨hq_487.2.1.1, hq_487.2.1.2⟩, (fun h9 => absurd rfl h9), (RelW.fr hR (fr_trk (mc := [(69, 74)]) (mf := [21, 22, 23, 24, 25]) fr_rf f_488 (inR_of (p := (69, 74)) (by decide) (by show 69 ≤ _; omega) (by show _ < 74; omega)) (by decide)) (by decide)), (by omega), (absurd u_445.2 (XIs_x (i := 17) (by decide) (by decide) (by decide) u_371.2)), hq_487.2.2.2.2.2.2.2.2.1, hq_487.2.2.2.2.2.2.2.2.2⟩⟩, ⟨by rw [ht]; exact hP, hD⟩⟩, hS.F ht⟩) hS.2.2 dX7_statement_207
                · have u_493 := hq_487.2.2.2.1 c_490
                  have u_494 := hq_487.2.2.2.2.1 c_490
                  have u_495 := hq_487.2.2.2.2.2.1 c_490
                  refine lv_aload_n hx hb dX7_statement_186 rfl (lv_at hl 0 rfl) ?_
                  refine lv_aload_n hx hb dX7_statement_187 rfl (lv_at hl 0 rfl) ?_
                  refine va_get (D := D) (ci := 7) (v := .ref (a 12)) (C := RX7) (T := TX7) (N := 29) hx hb htg ig_7 hown hK hP 0 (oh_wg (Nat.lt_of_lt_of_le (by decide) hn) (sM_0 hT)) rfl 16 (by decide) (htg _ q_989) (fun _ h9 => h9) rfl dX7_statement_188 ?_
                  refine lv_aload_n hx hb dX7_statement_191 rfl (lv_at hl 0 rfl) ?_
                  refine va_get (D := D) (ci := 7) (v := .int (gi (C 0) 15)) (C := RX7) (T := TX7) (N := 29) hx hb htg ig_7 hown hK hP 0 (oh_wg (Nat.lt_of_lt_of_le (by decide) hn) (sM_0 hT)) rfl 15 (by decide) (htg _ q_988) (fun _ h9 => h9) (oh_fv (c := C_486 0) (j := 15) rfl (congrArg vi (f_488.2 15 (by decide)))) dX7_statement_192 ?_
                  have n_496 : vp_in (gi (C 0) 15) 5 := (rg_in (rn_ltu (u' := 4) (Int32.not_le.mp c_467) (fM_0_15 hT0) (rg_c (v := 5) (lo := 5) (hi := 5) (by decide)) (by decide)) (by decide))
                  have b_497 : (gi (C 0) 15).toNatClampNeg < 5 := vp_lt n_496
                  refine th_aald hx hb hK hP 12 2 (Nat.lt_of_lt_of_le (by decide) hn) (sM_12 hT) rfl n_496 dX7_statement_195 ?_
                  refine lv_iconst (v := 1) hx hb dX7_statement_196 (by decide) ?_
                  refine lv_iconst (v := 0) hx hb dX7_statement_197 (by decide) ?_
                  refine lv_bipush (v := 99) hx hb dX7_statement_198 (by decide) ?_
                  have : (gi (C_486 0) 7).toInt = (gi (C 0) 7).toInt := congrArg (fun z => (vi z).toInt) (f_488.2 7 (by decide))
                  have : (gi (C_486 0) 13).toInt = (gi (C 0) 13).toInt := congrArg (fun z => (vi z).toInt) (f_488.2 13 (by decide))
                  have : 0 ≤ (gi (C_486 0) 21).toInt ∧ (gi (C_486 0) 21).toInt ≤ 250 := fM_0_21 t_489
                  have : 0 ≤ (gi (C_486 0) 7).toInt ∧ (gi (C_486 0) 7).toInt ≤ 250 := fM_0_7 t_489
                  have : 0 ≤ (gi (C_486 0) 23).toInt ∧ (gi (C_486 0) 23).toInt ≤ 250 := fM_0_23 t_489
                  have : 0 ≤ (gi (C_486 0) 13).toInt ∧ (gi (C_486 0) 13).toInt ≤ 5 := fM_0_13 t_489
                  refine tm_V (As := [.ref (a (69 + (gi (C 0) 15).toNatClampNeg)), .int 1, .int 0, .int 99]) (rest := []) ⟨hx, hb, hml, hown, htg⟩ (e_X7_number l D E G _ a C_486 n hn hT (69 + (gi (C 0) 15).toNatClampNeg) (1 : Int32) (0 : Int32) (99 : Int32) (rg_w (rg_c (v := 0) (lo := 0) (hi := 0) (by decide)) (by decide)) (rg_w (rg_c (v := 99) (lo := 99) (hi := 99) (by decide)) (by decide)) ⟨(lt_blk b_497 hn (by decide)), (by omega), 2, fun C h => (h.bpart b_497).1, (rg_in (rg_c (v := 1) (lo := 1) (hi := 1) (by decide)) (by decide)), fun C v h h1 h2 => (h.uppart b_497 (tA_upd (h.bpart b_497) tA_any))⟩ (by omega) hq_487.2.2.2.2.2.2.2.2.1 (by omega) (by omega)) (cwV 4 htg (oh_gV q_1225 q_1227 q_43 q_73 q_1228) rfl rfl rfl pdVX7_number ⟨Nat.le_of_ble_eq_true rfl, Nat.le_of_ble_eq_true rfl⟩) hK hP hD hG hS hA (va_recv hK hP (ci := 7) (q0 := 0) rfl (oh_wg (Nat.lt_of_lt_of_le (by decide) hn) (sM_0 hT))) rfl hl.1 rfl (Nat.le_of_ble_eq_true rfl) dX7_statement_200 ⟨Nat.le_of_ble_eq_true rfl, Nat.le_of_ble_eq_true rfl⟩ (fun r_498 C_499 H locs hq_500 hP hD hS => ?_)
                  obtain ⟨hT, f_501, hq_500⟩ := hq_500
                  have hF := fr_trk hF f_501 (inR_of (p := (69, 74)) (by decide) (by show 69 ≤ _; omega) (by show _ < 74; omega)) (by decide)
                  refine W.widen (k := 0) (n := 0) (Nat.le_refl _) (Nat.le_refl _) ?_
                  have t_502 := hT
                  refine lv_if_ne (tgt := 208) hx hb dX7_statement_203 (by decide) (fun (c_503 : ¬ (r_498 = 0)) => ?_) (fun (c_503 : r_498 = 0) => ?_)
                  · have u_504 := hq_500.2.2.2.1 c_503
                    have u_505 := hq_500.2.2.2.2.1 c_503
                    refine lv_aload_n hx hb dX7_statement_208 rfl (lv_at hl 0 rfl) ?_
                    refine lv_dup hx hb dX7_statement_209 rfl ?_
                    refine va_get (D := D) (ci := 7) (v := .int (gi (C 0) 15)) (C := RX7) (T := TX7) (N := 29) hx hb htg ig_7 hown hK hP 0 (oh_wg (Nat.lt_of_lt_of_le (by decide) hn) (sM_0 hT)) rfl 15 (by decide) (htg _ q_988) (fun _ h9 => h9) (oh_fv (c := C_499 0) (j := 15) rfl (Eq.trans (congrArg vi (f_501.2 15 (by decide))) (congrArg vi (f_488.2 15 (by decide))))) dX7_statement_210 ?_
                    refine lv_iconst (v := 1) hx hb dX7_statement_213 (by decide) ?_
                    refine lv_iadd hx hb dX7_statement_214 ?_
                    refine th_put (Tp := TyM a E) (Rl := fr [(13, 14), (24, 48), (48, 64), (64, 69), (69, 74)] [9, 11, 13, 15, 21, 22, 23, 24, 25] C) (ci := 7) (v := .int ((gi (C 0) 15) + 1)) (ty := .int) (CC := RX7) (T := TX7) (N := 29) hx hb htg ig_7 tyX7 tyX7_ok nmX7 hown hK hP hD hS 0 (Nat.lt_of_lt_of_le (by decide) hn) (sM_0 hT) rfl 15 (by decide) (htg _ q_988) (fun _ h9 => h9) rfl (by decide +kernel) rfl rfl (Nat.le_of_ble_eq_true rfl) (hT.up 0 (by decide) ⟨rfl, (fM_0_7 hT), (fM_0_9 hT), (fM_0_11 hT), (fM_0_13 hT), (rg_w (rg_add (lo := 1) (hi := 5) (rn_ltu (u' := 4) (Int32.not_le.mp c_467) (fM_0_15 hT0) (rg_c (v := 5) (lo := 5) (hi := 5) (by decide)) (by decide)) (rg_c (v := 1) (lo := 1) (hi := 1) (by decide)) (by decide)) (by decide)), (fM_0_21 hT), (fM_0_23 hT)⟩) (fr_fd hF (sM_0 hT) (by decide)) dX7_statement_215 (fun C_506 H locs e_507 hT hF hP hD hS => ?_)
                    have t_508 := hT
                    refine lv_iconst (v := 1) hx hb dX7_statement_218 (by decide) ?_
                    have : (gi (C_499 0) 7).toInt = (gi (C_486 0) 7).toInt := congrArg (fun z => (vi z).toInt) (f_501.2 7 (by decide))
                    have : (gi (C_499 0) 13).toInt = (gi (C_486 0) 13).toInt := congrArg (fun z => (vi z).toInt) (f_501.2 13 (by decide))
                    have : (gi (C_506 0) 21).toInt = (gi (C_499 0) 21).toInt := congrArg Int32.toInt (show gi (C_506 0) 21 = gi (C_499 0) 21 by rw [e_507]; rfl)
                    have : (gi (C_506 0) 7).toInt = (gi (C_499 0) 7).toInt := congrArg Int32.toInt (show gi (C_506 0) 7 = gi (C_499 0) 7 by rw [e_507]; rfl)
                    have : (gi (C_506 0) 23).toInt = (gi (C_499 0) 23).toInt := congrArg Int32.toInt (show gi (C_506 0) 23 = gi (C_499 0) 23 by rw [e_507]; rfl)
                    have : (gi (C_506 0) 13).toInt = (gi (C_499 0) 13).toInt := congrArg Int32.toInt (show gi (C_506 0) 13 = gi (C_499 0) 13 by rw [e_507]; rfl)
                    have : 0 ≤ (gi (C_499 0) 21).toInt ∧ (gi (C_499 0) 21).toInt ≤ 250 := fM_0_21 t_502
                    have : 0 ≤ (gi (C_499 0) 7).toInt ∧ (gi (C_499 0) 7).toInt ≤ 250 := fM_0_7 t_502
                    have : 0 ≤ (gi (C_499 0) 23).toInt ∧ (gi (C_499 0) 23).toInt ≤ 250 := fM_0_23 t_502
                    have : 0 ≤ (gi (C_499 0) 13).toInt ∧ (gi (C_499 0) 13).toInt ≤ 5 := fM_0_13 t_502
                    have : 0 ≤ (gi (C_506 0) 21).toInt ∧ (gi (C_506 0) 21).toInt ≤ 250 := fM_0_21 t_508
                    have : 0 ≤ (gi (C_506 0) 7).toInt ∧ (gi (C_506 0) 7).toInt ≤ 250 := fM_0_7 t_508
                    have : 0 ≤ (gi (C_506 0) 23).toInt ∧ (gi (C_506 0) 23).toInt ≤ 250 := fM_0_23 t_508
                    have : 0 ≤ (gi (C_506 0) 13).toInt ∧ (gi (C_506 0) 13).toInt ≤ 5 := fM_0_13 t_508
                    rw [hQ]
                    exact W.zret (v := 1) (ty := .boolean) hx hb hr (by decide) (fun t ht hW => ⟨⟨1, C_506, rfl, ⟨hT, hF, ⟨(Or.inr rfl), ⟨(by omega), (by omega)⟩, (fun _ => (by omega)), (RelW.fr (RelW.fr (RelW.fr hR (fr_trk (mc := [(69, 74)]) (mf := [21, 22, 23, 24, 25]) fr_rf f_488 (inR_of (p := (69, 74)) (by decide) (by show 69 ≤ _; omega) (by show _ < 74; omega)) (by decide)) (by decide)) (fr_trk (mc := [(69, 74)]) (mf := [21, 22, 23, 24, 25]) fr_rf f_501 (inR_of (p := (69, 74)) (by decide) (by show 69 ≤ _; omega) (by show _ < 74; omega)) (by decide)) (by decide)) (fr_fde (mc := []) (mf := [15]) fr_rf e_507 (sM_0 t_502) (by decide)) (by decide)), (by omega), (absurd u_445.2 (XIs_x (i := 17) (by decide) (by decide) (by decide) u_371.2)), (fgF (j := 15) hq_500.2.2.2.2.2.2.2.1 e_507 (sM_0 t_502) (by decide)), (by omega)⟩⟩, ⟨by rw [ht]; exact hP, hD⟩⟩, hS.F ht⟩) hS.2.2 dX7_statement_219
                  · have u_509 := hq_500.2.2.2.2.2.1 c_503
                    have u_510 := hq_500.2.2.2.2.2.2.1 c_503
                    refine lv_iconst (v := 0) hx hb dX7_statement_206 (by decide) ?_
                    have : (gi (C_499 0) 7).toInt = (gi (C_486 0) 7).toInt := congrArg (fun z => (vi z).toInt) (f_501.2 7 (by decide))
                    have : (gi (C_499 0) 13).toInt = (gi (C_486 0) 13).toInt := congrArg (fun z => (vi z).toInt) (f_501.2 13 (by decide))
                    have : 0 ≤ (gi (C_499 0) 21).toInt ∧ (gi (C_499 0) 21).toInt ≤ 250 := fM_0_21 t_502
                    have : 0 ≤ (gi (C_499 0) 7).toInt ∧ (gi (C_499 0) 7).toInt ≤ 250 := fM_0_7 t_502
                    have : 0 ≤ (gi (C_499 0) 23).toInt ∧ (gi (C_499 0) 23).toInt ≤ 250 := fM_0_23 t_502
                    have : 0 ≤ (gi (C_499 0) 13).toInt ∧ (gi (C_499 0) 13).toInt ≤ 5 := fM_0_13 t_502
                    rw [hQ]
                    exact W.zret (v := 0) (ty := .boolean) hx hb hr (by decide) (fun t ht hW => ⟨⟨0, C_499, rfl, ⟨hT, hF, ⟨(Or.inl rfl), ⟨(by omega), hq_500.2.1.2⟩, (fun h9 => absurd rfl h9), (RelW.fr (RelW.fr hR (fr_trk (mc := [(69, 74)]) (mf := [21, 22, 23, 24, 25]) fr_rf f_488 (inR_of (p := (69, 74)) (by decide) (by show 69 ≤ _; omega) (by show _ < 74; omega)) (by decide)) (by decide)) (fr_trk (mc := [(69, 74)]) (mf := [21, 22, 23, 24, 25]) fr_rf f_501 (inR_of (p := (69, 74)) (by decide) (by show 69 ≤ _; omega) (by show _ < 74; omega)) (by decide)) (by decide)), (by omega), (absurd u_445.2 (XIs_x (i := 17) (by decide) (by decide) (by decide) u_371.2)), hq_500.2.2.2.2.2.2.2.1, hq_500.2.2.2.2.2.2.2.2⟩⟩, ⟨by rw [ht]; exact hP, hD⟩⟩, hS.F ht⟩) hS.2.2 dX7_statement_207
          · refine lv_aload_n hx hb dX7_statement_81 rfl (lv_at hl 0 rfl) ?_
            refine va_get (D := D) (ci := 7) (v := .ref (a 11)) (C := RX7) (T := TX7) (N := 29) hx hb htg ig_7 hown hK hP 0 (oh_wg (Nat.lt_of_lt_of_le (by decide) hn) (sM_0 hT)) rfl 14 (by decide) (htg _ q_987) (fun _ h9 => h9) rfl dX7_statement_82 ?_
            refine lv_aload_n hx hb dX7_statement_85 rfl (lv_at hl 0 rfl) ?_
            refine va_get (D := D) (ci := 7) (v := .int (gi (C 0) 13)) (C := RX7) (T := TX7) (N := 29) hx hb htg ig_7 hown hK hP 0 (oh_wg (Nat.lt_of_lt_of_le (by decide) hn) (sM_0 hT)) rfl 13 (by decide) (htg _ q_986) (fun _ h9 => h9) rfl dX7_statement_86 ?_
            have n_511 : vp_in (gi (C 0) 13) 5 := (rg_in (rn_ltu (u' := 4) (Int32.not_le.mp c_446) (fM_0_13 hT0) (rg_c (v := 5) (lo := 5) (hi := 5) (by decide)) (by decide)) (by decide))
            have b_512 : (gi (C 0) 13).toNatClampNeg < 5 := vp_lt n_511
            refine th_aald hx hb hK hP 11 2 (Nat.lt_of_lt_of_le (by decide) hn) (sM_11 hT) rfl n_511 dX7_statement_89 ?_
            refine lv_astore_n (lv' := [(1, .ref (a (64 + (gi (C 0) 13).toNatClampNeg))), (0, .ref (a 0))]) hx hb dX7_statement_90 rfl hl (by decide) rfl (fun ls hl => ?_)
            refine lv_aload_n hx hb dX7_statement_91 rfl (lv_at hl 1 rfl) ?_
            refine va_ldcS hx hb hown (hG.2.2.1 ("OneHeavyLoadModel", 209, "waggon", 31) (List.mem_of_getElem? (i := 28) rfl)) dX7_statement_92 ?_
            refine lv_aload_n hx hb dX7_statement_94 rfl (lv_at hl 0 rfl) ?_
            refine lv_iconst (v := 0) hx hb dX7_statement_95 (by decide) ?_
            refine lv_iconst (v := 2) hx hb dX7_statement_96 (by decide) ?_
            refine lv_bipush (v := 12) hx hb dX7_statement_97 (by decide) ?_
            have : 0 ≤ (gi (C 0) 21).toInt ∧ (gi (C 0) 21).toInt ≤ 250 := fM_0_21 hT0
            have : 0 ≤ (gi (C 0) 7).toInt ∧ (gi (C 0) 7).toInt ≤ 250 := fM_0_7 hT0
            have : 0 ≤ (gi (C 0) 23).toInt ∧ (gi (C 0) 23).toInt ≤ 250 := fM_0_23 hT0
            have : 0 ≤ (gi (C 0) 13).toInt ∧ (gi (C 0) 13).toInt ≤ 5 := fM_0_13 hT0
            have : (24 : Int32).toInt = 24 := rfl
            have : (24 : Int32).toInt ≤ (gi (C 0) 9).toInt := Int32.le_iff_toInt_le.mp c_372
            have : (5 : Int32).toInt = 5 := rfl
            have : (gi (C 0) 13).toInt < (5 : Int32).toInt := Int32.lt_iff_toInt_lt.mp (Int32.not_le.mp c_446)
            refine tm_V (As := [.ref (G (3 + 28)), .ref (a (64 + (gi (C 0) 13).toNatClampNeg)), .int 0, .int 2, .int 12]) (rest := []) ⟨hx, hb, hml, hown, htg⟩ (e_X7_told l D E G _ a C n hn hT 28 (64 + (gi (C 0) 13).toNatClampNeg) (0 : Int32) (2 : Int32) (12 : Int32) (by decide) (rg_w (rg_c (v := 2) (lo := 2) (hi := 2) (by decide)) (by decide)) (rg_w (rg_c (v := 12) (lo := 12) (hi := 12) (by decide)) (by decide)) ⟨(lt_blk b_512 hn (by decide)), (by omega), 3, fun C h => (h.bwaggon b_512).1, (rg_in (rg_c (v := 0) (lo := 0) (hi := 0) (by decide)) (by decide)), fun C v h h1 h2 => (h.upwaggon b_512 (tA_upd (h.bwaggon b_512) (tA_stc (k := 0) (by decide) (oh_rgle (lo := 0) (hi := 12) h1 h2 (by decide)) (by decide))))⟩ (by omega) hfg (by omega) (by omega)) (cwV 5 htg (oh_gV q_1234 q_1236 q_45 q_73 q_1237) rfl rfl rfl pdVX7_told ⟨Nat.le_of_ble_eq_true rfl, Nat.le_of_ble_eq_true rfl⟩) hK hP hD hG hS hA (va_recv hK hP (ci := 7) (q0 := 0) rfl (oh_wg (Nat.lt_of_lt_of_le (by decide) hn) (sM_0 hT))) rfl hl.1 rfl (Nat.le_of_ble_eq_true rfl) dX7_statement_99 ⟨Nat.le_of_ble_eq_true rfl, Nat.le_of_ble_eq_true rfl⟩ (fun r_513 C_514 H locs hq_515 hP hD hS => ?_)
            obtain ⟨hT, f_516, hq_515⟩ := hq_515
            have hF := fr_trk hF f_516 (inR_of (p := (64, 69)) (by decide) (by show 64 ≤ _; omega) (by show _ < 69; omega)) (by decide)
            refine W.widen (k := 0) (n := 0) (Nat.le_refl _) (Nat.le_refl _) ?_
            have t_517 := hT
            refine lv_if_eq (tgt := 133) hx hb dX7_statement_102 (by decide) (fun (c_518 : r_513 = 0) => ?_) (fun (c_518 : ¬ (r_513 = 0)) => ?_)
            · have u_519 := hq_515.2.2.2.2.2.2.1 c_518
              have u_520 := hq_515.2.2.2.2.2.2.2.1 c_518
              refine lv_iconst (v := 0) hx hb dX7_statement_133 (by decide) ?_
              have : (gi (C_514 0) 7).toInt = (gi (C 0) 7).toInt := congrArg (fun z => (vi z).toInt) (f_516.2 7 (by decide))
              have : (gi (C_514 0) 13).toInt = (gi (C 0) 13).toInt := congrArg (fun z => (vi z).toInt) (f_516.2 13 (by decide))
              have : 0 ≤ (gi (C_514 0) 21).toInt ∧ (gi (C_514 0) 21).toInt ≤ 250 := fM_0_21 t_517
              have : 0 ≤ (gi (C_514 0) 7).toInt ∧ (gi (C_514 0) 7).toInt ≤ 250 := fM_0_7 t_517
              have : 0 ≤ (gi (C_514 0) 23).toInt ∧ (gi (C_514 0) 23).toInt ≤ 250 := fM_0_23 t_517
              have : 0 ≤ (gi (C_514 0) 13).toInt ∧ (gi (C_514 0) 13).toInt ≤ 5 := fM_0_13 t_517
              rw [hQ]
              exact W.zret (v := 0) (ty := .boolean) hx hb hr (by decide) (fun t ht hW => ⟨⟨0, C_514, rfl, ⟨hT, hF, ⟨(Or.inl rfl), ⟨hq_515.2.1.1, hq_515.2.1.2⟩, (fun h9 => absurd rfl h9), (relW_row (w := (gi (C 0) 13).toNatClampNeg) hR f_516 (oh_nat (fM_0_13 hT0) (by decide)) (by decide)), (by omega), (absurd u_445.2 (XIs_x (i := 17) (by decide) (by decide) (by decide) u_371.2)), hq_515.2.2.2.2.2.2.2.2.1, hq_515.2.2.2.2.2.2.2.2.2⟩⟩, ⟨by rw [ht]; exact hP, hD⟩⟩, hS.F ht⟩) hS.2.2 dX7_statement_134
            · have u_521 := hq_515.2.2.2.1 c_518
              have u_522 := hq_515.2.2.2.2.1 c_518
              have u_523 := hq_515.2.2.2.2.2.1 c_518
              refine lv_aload_n hx hb dX7_statement_105 rfl (lv_at hl 1 rfl) ?_
              refine va_ldcS hx hb hown (hG.2.2.1 ("OneHeavyLoadModel", 210, "space", 32) (List.mem_of_getElem? (i := 29) rfl)) dX7_statement_106 ?_
              refine lv_aload_n hx hb dX7_statement_108 rfl (lv_at hl 0 rfl) ?_
              refine lv_iconst (v := 1) hx hb dX7_statement_109 (by decide) ?_
              refine lv_iconst (v := 1) hx hb dX7_statement_110 (by decide) ?_
              refine lv_bipush (v := 9) hx hb dX7_statement_111 (by decide) ?_
              have : (gi (C_514 0) 7).toInt = (gi (C 0) 7).toInt := congrArg (fun z => (vi z).toInt) (f_516.2 7 (by decide))
              have : (gi (C_514 0) 13).toInt = (gi (C 0) 13).toInt := congrArg (fun z => (vi z).toInt) (f_516.2 13 (by decide))
              have : 0 ≤ (gi (C_514 0) 21).toInt ∧ (gi (C_514 0) 21).toInt ≤ 250 := fM_0_21 t_517
              have : 0 ≤ (gi (C_514 0) 7).toInt ∧ (gi (C_514 0) 7).toInt ≤ 250 := fM_0_7 t_517
              have : 0 ≤ (gi (C_514 0) 23).toInt ∧ (gi (C_514 0) 23).toInt ≤ 250 := fM_0_23 t_517
              have : 0 ≤ (gi (C_514 0) 13).toInt ∧ (gi (C_514 0) 13).toInt ≤ 5 := fM_0_13 t_517
              refine tm_V (As := [.ref (G (3 + 29)), .ref (a (64 + (gi (C 0) 13).toNatClampNeg)), .int 1, .int 1, .int 9]) (rest := []) ⟨hx, hb, hml, hown, htg⟩ (e_X7_told l D E G _ a C_514 n hn hT 29 (64 + (gi (C 0) 13).toNatClampNeg) (1 : Int32) (1 : Int32) (9 : Int32) (by decide) (rg_w (rg_c (v := 1) (lo := 1) (hi := 1) (by decide)) (by decide)) (rg_w (rg_c (v := 9) (lo := 9) (hi := 9) (by decide)) (by decide)) ⟨(lt_blk b_512 hn (by decide)), (by omega), 3, fun C h => (h.bwaggon b_512).1, (rg_in (rg_c (v := 1) (lo := 1) (hi := 1) (by decide)) (by decide)), fun C v h h1 h2 => (h.upwaggon b_512 (tA_upd (h.bwaggon b_512) (tA_stc (k := 1) (by decide) (oh_rgle (lo := 0) (hi := 9) h1 h2 (by decide)) (by decide))))⟩ (by omega) hq_515.2.2.2.2.2.2.2.2.1 (by omega) (by omega)) (cwV 5 htg (oh_gV q_1234 q_1236 q_45 q_73 q_1237) rfl rfl rfl pdVX7_told ⟨Nat.le_of_ble_eq_true rfl, Nat.le_of_ble_eq_true rfl⟩) hK hP hD hG hS hA (va_recv hK hP (ci := 7) (q0 := 0) rfl (oh_wg (Nat.lt_of_lt_of_le (by decide) hn) (sM_0 hT))) rfl hl.1 rfl (Nat.le_of_ble_eq_true rfl) dX7_statement_113 ⟨Nat.le_of_ble_eq_true rfl, Nat.le_of_ble_eq_true rfl⟩ (fun r_524 C_525 H locs hq_526 hP hD hS => ?_)
              obtain ⟨hT, f_527, hq_526⟩ := hq_526
              have hF := fr_trk hF f_527 (inR_of (p := (64, 69)) (by decide) (by show 64 ≤ _; omega) (by show _ < 69; omega)) (by decide)
              refine W.widen (k := 0) (n := 0) (Nat.le_refl _) (Nat.le_refl _) ?_
              have t_528 := hT
              refine lv_if_eq (tgt := 133) hx hb dX7_statement_116 (by decide) (fun (c_529 : r_524 = 0) => ?_) (fun (c_529 : ¬ (r_524 = 0)) => ?_)
              · have u_530 := hq_526.2.2.2.2.2.2.1 c_529
                have u_531 := hq_526.2.2.2.2.2.2.2.1 c_529
                refine lv_iconst (v := 0) hx hb dX7_statement_133 (by decide) ?_
                have : (gi (C_525 0) 7).toInt = (gi (C_514 0) 7).toInt := congrArg (fun z => (vi z).toInt) (f_527.2 7 (by decide))
                have : (gi (C_525 0) 13).toInt = (gi (C_514 0) 13).toInt := congrArg (fun z => (vi z).toInt) (f_527.2 13 (by decide))
                have : 0 ≤ (gi (C_525 0) 21).toInt ∧ (gi (C_525 0) 21).toInt ≤ 250 := fM_0_21 t_528
                have : 0 ≤ (gi (C_525 0) 7).toInt ∧ (gi (C_525 0) 7).toInt ≤ 250 := fM_0_7 t_528
                have : 0 ≤ (gi (C_525 0) 23).toInt ∧ (gi (C_525 0) 23).toInt ≤ 250 := fM_0_23 t_528
                have : 0 ≤ (gi (C_525 0) 13).toInt ∧ (gi (C_525 0) 13).toInt ≤ 5 := fM_0_13 t_528
                rw [hQ]
                exact W.zret (v := 0) (ty := .boolean) hx hb hr (by decide) (fun t ht hW => ⟨⟨0, C_525, rfl, ⟨hT, hF, ⟨(Or.inl rfl), ⟨(by omega), hq_526.2.1.2⟩, (fun h9 => absurd rfl h9), (relW_row (w := (gi (C 0) 13).toNatClampNeg) (relW_row (w := (gi (C 0) 13).toNatClampNeg) hR f_516 (oh_nat (fM_0_13 hT0) (by decide)) (by decide)) f_527 (by rw [(show gi (C_514 0) 13 = gi (C 0) 13 from congrArg vi (f_516.2 13 (by decide)))]; exact oh_nat (fM_0_13 hT0) (by decide)) (by decide)), (by omega), (absurd u_445.2 (XIs_x (i := 17) (by decide) (by decide) (by decide) u_371.2)), hq_526.2.2.2.2.2.2.2.2.1, hq_526.2.2.2.2.2.2.2.2.2⟩⟩, ⟨by rw [ht]; exact hP, hD⟩⟩, hS.F ht⟩) hS.2.2 dX7_statement_134
              · have u_532 := hq_526.2.2.2.1 c_529
                have u_533 := hq_526.2.2.2.2.1 c_529
                have u_534 := hq_526.2.2.2.2.2.1 c_529
                refine lv_aload_n hx hb dX7_statement_119 rfl (lv_at hl 1 rfl) ?_
                refine va_ldcS hx hb hown (hG.2.2.1 ("OneHeavyLoadModel", 212, "tare", 33) (List.mem_of_getElem? (i := 30) rfl)) dX7_statement_120 ?_
                refine lv_aload_n hx hb dX7_statement_122 rfl (lv_at hl 0 rfl) ?_
                refine lv_iconst (v := 2) hx hb dX7_statement_123 (by decide) ?_
                refine lv_iconst (v := 0) hx hb dX7_statement_124 (by decide) ?_
                refine lv_bipush (v := 99) hx hb dX7_statement_125 (by decide) ?_
                have : (gi (C_525 0) 7).toInt = (gi (C_514 0) 7).toInt := congrArg (fun z => (vi z).toInt) (f_527.2 7 (by decide))
                have : (gi (C_525 0) 13).toInt = (gi (C_514 0) 13).toInt := congrArg (fun z => (vi z).toInt) (f_527.2 13 (by decide))
                have : 0 ≤ (gi (C_525 0) 21).toInt ∧ (gi (C_525 0) 21).toInt ≤ 250 := fM_0_21 t_528
                have : 0 ≤ (gi (C_525 0) 7).toInt ∧ (gi (C_525 0) 7).toInt ≤ 250 := fM_0_7 t_528
                have : 0 ≤ (gi (C_525 0) 23).toInt ∧ (gi (C_525 0) 23).toInt ≤ 250 := fM_0_23 t_528
                have : 0 ≤ (gi (C_525 0) 13).toInt ∧ (gi (C_525 0) 13).toInt ≤ 5 := fM_0_13 t_528
                refine tm_V (As := [.ref (G (3 + 30)), .ref (a (64 + (gi (C 0) 13).toNatClampNeg)), .int 2, .int 0, .int 99]) (rest := []) ⟨hx, hb, hml, hown, htg⟩ (e_X7_told l D E G _ a C_525 n hn hT 30 (64 + (gi (C 0) 13).toNatClampNeg) (2 : Int32) (0 : Int32) (99 : Int32) (by decide) (rg_w (rg_c (v := 0) (lo := 0) (hi := 0) (by decide)) (by decide)) (rg_w (rg_c (v := 99) (lo := 99) (hi := 99) (by decide)) (by decide)) ⟨(lt_blk b_512 hn (by decide)), (by omega), 3, fun C h => (h.bwaggon b_512).1, (rg_in (rg_c (v := 2) (lo := 2) (hi := 2) (by decide)) (by decide)), fun C v h h1 h2 => (h.upwaggon b_512 (tA_upd (h.bwaggon b_512) (tA_stc (k := 2) (by decide) (rg_any _) (by decide))))⟩ (by omega) hq_526.2.2.2.2.2.2.2.2.1 (by omega) (by omega)) (cwV 5 htg (oh_gV q_1234 q_1236 q_45 q_73 q_1237) rfl rfl rfl pdVX7_told ⟨Nat.le_of_ble_eq_true rfl, Nat.le_of_ble_eq_true rfl⟩) hK hP hD hG hS hA (va_recv hK hP (ci := 7) (q0 := 0) rfl (oh_wg (Nat.lt_of_lt_of_le (by decide) hn) (sM_0 hT))) rfl hl.1 rfl (Nat.le_of_ble_eq_true rfl) dX7_statement_127 ⟨Nat.le_of_ble_eq_true rfl, Nat.le_of_ble_eq_true rfl⟩ (fun r_535 C_536 H locs hq_537 hP hD hS => ?_)
                obtain ⟨hT, f_538, hq_537⟩ := hq_537
                have hF := fr_trk hF f_538 (inR_of (p := (64, 69)) (by decide) (by show 64 ≤ _; omega) (by show _ < 69; omega)) (by decide)
                refine W.widen (k := 0) (n := 0) (Nat.le_refl _) (Nat.le_refl _) ?_
                have t_539 := hT
                refine lv_if_ne (tgt := 135) hx hb dX7_statement_130 (by decide) (fun (c_540 : ¬ (r_535 = 0)) => ?_) (fun (c_540 : r_535 = 0) => ?_)
                · have u_541 := hq_537.2.2.2.1 c_540
                  have u_542 := hq_537.2.2.2.2.1 c_540
                  have u_543 := hq_537.2.2.2.2.2.1 c_540
                  refine lv_aload_n hx hb dX7_statement_135 rfl (lv_at hl 1 rfl) ?_
                  refine lv_dup hx hb dX7_statement_136 rfl ?_
                  refine va_get (D := D) (ci := 7) (v := .int (gi (C 0) 13)) (C := RX7) (T := TX7) (N := 29) hx hb htg ig_7 hown hK hP 0 (oh_wg (Nat.lt_of_lt_of_le (by decide) hn) (sM_0 hT)) rfl 13 (by decide) (htg _ q_986) (fun _ h9 => h9) (oh_fv (c := C_536 0) (j := 13) rfl (Eq.trans (congrArg vi (f_538.2 13 (by decide))) (Eq.trans (congrArg vi (f_527.2 13 (by decide))) (congrArg vi (f_516.2 13 (by decide)))))) dX7_statement_137 ?_
                  refine lv_iconst (v := 1) hx hb dX7_statement_140 (by decide) ?_
                  refine lv_iadd hx hb dX7_statement_141 ?_
                  refine th_put (Tp := TyM a E) (Rl := fr [(13, 14), (24, 48), (48, 64), (64, 69), (69, 74)] [9, 11, 13, 15, 21, 22, 23, 24, 25] C) (ci := 7) (v := .int ((gi (C 0) 13) + 1)) (ty := .int) (CC := RX7) (T := TX7) (N := 29) hx hb htg ig_7 tyX7 tyX7_ok nmX7 hown hK hP hD hS 0 (Nat.lt_of_lt_of_le (by decide) hn) (sM_0 hT) rfl 13 (by decide) (htg _ q_986) (fun _ h9 => h9) rfl (by decide +kernel) rfl rfl (Nat.le_of_ble_eq_true rfl) (hT.up 0 (by decide) ⟨rfl, (fM_0_7 hT), (fM_0_9 hT), (fM_0_11 hT), (rg_w (rg_add (lo := 1) (hi := 5) (rn_ltu (u' := 4) (Int32.not_le.mp c_446) (fM_0_13 hT0) (rg_c (v := 5) (lo := 5) (hi := 5) (by decide)) (by decide)) (rg_c (v := 1) (lo := 1) (hi := 1) (by decide)) (by decide)) (by decide)), (fM_0_15 hT), (fM_0_21 hT), (fM_0_23 hT)⟩) (fr_fd hF (sM_0 hT) (by decide)) dX7_statement_142 (fun C_544 H locs e_545 hT hF hP hD hS => ?_)
                  have t_546 := hT
                  refine lv_iconst (v := 1) hx hb dX7_statement_145 (by decide) ?_
                  have : (gi (C_536 0) 7).toInt = (gi (C_525 0) 7).toInt := congrArg (fun z => (vi z).toInt) (f_538.2 7 (by decide))
                  have : (gi (C_536 0) 13).toInt = (gi (C_525 0) 13).toInt := congrArg (fun z => (vi z).toInt) (f_538.2 13 (by decide))
                  have : (gi (C_544 0) 21).toInt = (gi (C_536 0) 21).toInt := congrArg Int32.toInt (show gi (C_544 0) 21 = gi (C_536 0) 21 by rw [e_545]; rfl)
                  have : (gi (C_544 0) 7).toInt = (gi (C_536 0) 7).toInt := congrArg Int32.toInt (show gi (C_544 0) 7 = gi (C_536 0) 7 by rw [e_545]; rfl)
                  have : (gi (C_544 0) 23).toInt = (gi (C_536 0) 23).toInt := congrArg Int32.toInt (show gi (C_544 0) 23 = gi (C_536 0) 23 by rw [e_545]; rfl)
                  have : (gi (C_544 0) 13).toInt = ((gi (C 0) 13) + 1).toInt := congrArg Int32.toInt (show gi (C_544 0) 13 = ((gi (C 0) 13) + 1) by rw [e_545]; rfl)
                  have : ((gi (C 0) 13) + 1).toInt = (gi (C 0) 13).toInt + 1 := oh_incr (rn_ltu (u' := 4) (Int32.not_le.mp c_446) (fM_0_13 hT0) (rg_c (v := 5) (lo := 5) (hi := 5) (by decide)) (by decide)) (by decide)
                  have : 0 ≤ (gi (C_536 0) 21).toInt ∧ (gi (C_536 0) 21).toInt ≤ 250 := fM_0_21 t_539
                  have : 0 ≤ (gi (C_536 0) 7).toInt ∧ (gi (C_536 0) 7).toInt ≤ 250 := fM_0_7 t_539
                  have : 0 ≤ (gi (C_536 0) 23).toInt ∧ (gi (C_536 0) 23).toInt ≤ 250 := fM_0_23 t_539
                  have : 0 ≤ (gi (C_536 0) 13).toInt ∧ (gi (C_536 0) 13).toInt ≤ 5 := fM_0_13 t_539
                  have : 0 ≤ (gi (C_544 0) 21).toInt ∧ (gi (C_544 0) 21).toInt ≤ 250 := fM_0_21 t_546
                  have : 0 ≤ (gi (C_544 0) 7).toInt ∧ (gi (C_544 0) 7).toInt ≤ 250 := fM_0_7 t_546
                  have : 0 ≤ (gi (C_544 0) 23).toInt ∧ (gi (C_544 0) 23).toInt ≤ 250 := fM_0_23 t_546
                  have : 0 ≤ (gi (C_544 0) 13).toInt ∧ (gi (C_544 0) 13).toInt ≤ 5 := fM_0_13 t_546
                  rw [hQ]
                  exact W.zret (v := 1) (ty := .boolean) hx hb hr (by decide) (fun t ht hW => ⟨⟨1, C_544, rfl, ⟨hT, hF, ⟨(Or.inr rfl), ⟨(by omega), (by omega)⟩, (fun _ => (by omega)), (relW_inc (w := (gi (C 0) 13).toNatClampNeg) (relW_row (w := (gi (C 0) 13).toNatClampNeg) (relW_row (w := (gi (C 0) 13).toNatClampNeg) (relW_row (w := (gi (C 0) 13).toNatClampNeg) hR f_516 (oh_nat (fM_0_13 hT0) (by decide)) (by decide)) f_527 (by rw [(show gi (C_514 0) 13 = gi (C 0) 13 from congrArg vi (f_516.2 13 (by decide)))]; exact oh_nat (fM_0_13 hT0) (by decide)) (by decide)) f_538 (by rw [(Eq.trans (show gi (C_525 0) 13 = gi (C_514 0) 13 from congrArg vi (f_527.2 13 (by decide))) (show gi (C_514 0) 13 = gi (C 0) 13 from congrArg vi (f_516.2 13 (by decide))))]; exact oh_nat (fM_0_13 hT0) (by decide)) (by decide)) (by rw [(Eq.trans (show gi (C_536 0) 13 = gi (C_525 0) 13 from congrArg vi (f_538.2 13 (by decide))) (Eq.trans (show gi (C_525 0) 13 = gi (C_514 0) 13 from congrArg vi (f_527.2 13 (by decide))) (show gi (C_514 0) 13 = gi (C 0) 13 from congrArg vi (f_516.2 13 (by decide)))))]; exact oh_nat (fM_0_13 hT0) (by decide)) (fun k hk => th_un e_545 hk) (Eq.trans (congrArg Int32.toInt (show gi (C_544 0) 13 = (gi (C 0) 13) + 1 by rw [e_545]; rfl)) (by rw [(Eq.trans (show gi (C_536 0) 13 = gi (C_525 0) 13 from congrArg vi (f_538.2 13 (by decide))) (Eq.trans (show gi (C_525 0) 13 = gi (C_514 0) 13 from congrArg vi (f_527.2 13 (by decide))) (show gi (C_514 0) 13 = gi (C 0) 13 from congrArg vi (f_516.2 13 (by decide)))))]; exact oh_inc13 (fM_0_13 hT0))) (by rw [hq_537.2.2.1 _ (by decide), hq_526.2.2.1 _ (by decide)]; exact Int.le_trans (by decide) u_521) (by rw [hq_537.2.2.1 _ (by decide)]; exact Int.le_trans (by decide) u_532)), (by omega), (absurd u_445.2 (XIs_x (i := 17) (by decide) (by decide) (by decide) u_371.2)), (fgF (j := 13) hq_537.2.2.2.2.2.2.2.2.1 e_545 (sM_0 t_539) (by decide)), (by omega)⟩⟩, ⟨by rw [ht]; exact hP, hD⟩⟩, hS.F ht⟩) hS.2.2 dX7_statement_146
                · have u_547 := hq_537.2.2.2.2.2.2.1 c_540
                  have u_548 := hq_537.2.2.2.2.2.2.2.1 c_540
                  refine lv_iconst (v := 0) hx hb dX7_statement_133 (by decide) ?_
                  have : (gi (C_536 0) 7).toInt = (gi (C_525 0) 7).toInt := congrArg (fun z => (vi z).toInt) (f_538.2 7 (by decide))
                  have : (gi (C_536 0) 13).toInt = (gi (C_525 0) 13).toInt := congrArg (fun z => (vi z).toInt) (f_538.2 13 (by decide))
                  have : 0 ≤ (gi (C_536 0) 21).toInt ∧ (gi (C_536 0) 21).toInt ≤ 250 := fM_0_21 t_539
                  have : 0 ≤ (gi (C_536 0) 7).toInt ∧ (gi (C_536 0) 7).toInt ≤ 250 := fM_0_7 t_539
                  have : 0 ≤ (gi (C_536 0) 23).toInt ∧ (gi (C_536 0) 23).toInt ≤ 250 := fM_0_23 t_539
                  have : 0 ≤ (gi (C_536 0) 13).toInt ∧ (gi (C_536 0) 13).toInt ≤ 5 := fM_0_13 t_539
                  rw [hQ]
                  exact W.zret (v := 0) (ty := .boolean) hx hb hr (by decide) (fun t ht hW => ⟨⟨0, C_536, rfl, ⟨hT, hF, ⟨(Or.inl rfl), ⟨(by omega), hq_537.2.1.2⟩, (fun h9 => absurd rfl h9), (relW_row (w := (gi (C 0) 13).toNatClampNeg) (relW_row (w := (gi (C 0) 13).toNatClampNeg) (relW_row (w := (gi (C 0) 13).toNatClampNeg) hR f_516 (oh_nat (fM_0_13 hT0) (by decide)) (by decide)) f_527 (by rw [(show gi (C_514 0) 13 = gi (C 0) 13 from congrArg vi (f_516.2 13 (by decide)))]; exact oh_nat (fM_0_13 hT0) (by decide)) (by decide)) f_538 (by rw [(Eq.trans (show gi (C_525 0) 13 = gi (C_514 0) 13 from congrArg vi (f_527.2 13 (by decide))) (show gi (C_514 0) 13 = gi (C 0) 13 from congrArg vi (f_516.2 13 (by decide))))]; exact oh_nat (fM_0_13 hT0) (by decide)) (by decide)), (by omega), (absurd u_445.2 (XIs_x (i := 17) (by decide) (by decide) (by decide) u_371.2)), hq_537.2.2.2.2.2.2.2.2.1, hq_537.2.2.2.2.2.2.2.2.2⟩⟩, ⟨by rw [ht]; exact hP, hD⟩⟩, hS.F ht⟩) hS.2.2 dX7_statement_134
      · have u_549 := hq_374.2.1 c_375
        refine lv_aload_n hx hb dX7_statement_41 rfl (lv_at hl 0 rfl) ?_
        refine va_get (D := D) (ci := 7) (v := .int (gi (C 0) 11)) (C := RX7) (T := TX7) (N := 29) hx hb htg ig_7 hown hK hP 0 (oh_wg (Nat.lt_of_lt_of_le (by decide) hn) (sM_0 hT)) rfl 11 (by decide) (htg _ q_984) (fun _ h9 => h9) rfl dX7_statement_42 ?_
        refine lv_bipush (v := 16) hx hb dX7_statement_45 (by decide) ?_
        refine lv_icmp_ge (tgt := 64) hx hb dX7_statement_47 (by decide) (fun (c_550 : (16 : Int32) ≤ (gi (C 0) 11)) => ?_) (fun (c_550 : ¬ ((16 : Int32) ≤ (gi (C 0) 11))) => ?_)
        · refine lv_aload_n hx hb dX7_statement_64 rfl (lv_at hl 0 rfl) ?_
          refine va_ldcS hx hb hown (hG.2.2.1 ("OneHeavyLoadModel", 209, "waggon", 31) (List.mem_of_getElem? (i := 28) rfl)) dX7_statement_65 ?_
          refine tq_V (As := [.ref (G (3 + 28))]) (rest := []) (ws := (oh_W n a C)) ⟨hx, hb, hml, hown, htg⟩ (e_X7_isWord l D E G a C n hn hT 28 (by decide)) (cwV 1 htg (oh_gV q_1215 q_1217 q_41 q_73 q_1218) rfl rfl rfl pdVX7_isWord ⟨Nat.le_of_ble_eq_true rfl, Nat.le_of_ble_eq_true rfl⟩) hK hP hG hS (va_recv hK hP (ci := 7) (q0 := 0) rfl (oh_wg (Nat.lt_of_lt_of_le (by decide) hn) (sM_0 hT))) rfl hl.1 rfl (Nat.le_of_ble_eq_true rfl) dX7_statement_67 ⟨Nat.le_of_ble_eq_true rfl, Nat.le_of_ble_eq_true rfl⟩ (fun r_551 hq_552 => ?_)
          refine lv_if_eq (tgt := 147) hx hb dX7_statement_70 (by decide) (fun (c_553 : r_551 = 0) => ?_) (fun (c_553 : ¬ (r_551 = 0)) => ?_)
          · have u_554 := hq_552.2.2 c_553
            refine lv_aload_n hx hb dX7_statement_147 rfl (lv_at hl 0 rfl) ?_
            refine va_ldcS hx hb hown (hG.2.2.1 ("OneHeavyLoadModel", 214, "part", 34) (List.mem_of_getElem? (i := 31) rfl)) dX7_statement_148 ?_
            refine tq_V (As := [.ref (G (3 + 31))]) (rest := []) (ws := (oh_W n a C)) ⟨hx, hb, hml, hown, htg⟩ (e_X7_isWord l D E G a C n hn hT 31 (by decide)) (cwV 1 htg (oh_gV q_1215 q_1217 q_41 q_73 q_1218) rfl rfl rfl pdVX7_isWord ⟨Nat.le_of_ble_eq_true rfl, Nat.le_of_ble_eq_true rfl⟩) hK hP hG hS (va_recv hK hP (ci := 7) (q0 := 0) rfl (oh_wg (Nat.lt_of_lt_of_le (by decide) hn) (sM_0 hT))) rfl hl.1 rfl (Nat.le_of_ble_eq_true rfl) dX7_statement_150 ⟨Nat.le_of_ble_eq_true rfl, Nat.le_of_ble_eq_true rfl⟩ (fun r_555 hq_556 => ?_)
            refine lv_if_eq (tgt := 220) hx hb dX7_statement_153 (by decide) (fun (c_557 : r_555 = 0) => ?_) (fun (c_557 : ¬ (r_555 = 0)) => ?_)
            · have u_558 := hq_556.2.2 c_557
              refine lv_aload_n hx hb dX7_statement_220 rfl (lv_at hl 0 rfl) ?_
              refine va_ldcS hx hb hown (hG.2.2.1 ("OneHeavyLoadModel", 215, "load", 35) (List.mem_of_getElem? (i := 32) rfl)) dX7_statement_221 ?_
              refine tq_V (As := [.ref (G (3 + 32))]) (rest := []) (ws := (oh_W n a C)) ⟨hx, hb, hml, hown, htg⟩ (e_X7_isWord l D E G a C n hn hT 32 (by decide)) (cwV 1 htg (oh_gV q_1215 q_1217 q_41 q_73 q_1218) rfl rfl rfl pdVX7_isWord ⟨Nat.le_of_ble_eq_true rfl, Nat.le_of_ble_eq_true rfl⟩) hK hP hG hS (va_recv hK hP (ci := 7) (q0 := 0) rfl (oh_wg (Nat.lt_of_lt_of_le (by decide) hn) (sM_0 hT))) rfl hl.1 rfl (Nat.le_of_ble_eq_true rfl) dX7_statement_223 ⟨Nat.le_of_ble_eq_true rfl, Nat.le_of_ble_eq_true rfl⟩ (fun r_559 hq_560 => ?_)
              refine lv_if_eq (tgt := 245) hx hb dX7_statement_226 (by decide) (fun (c_561 : r_559 = 0) => ?_) (fun (c_561 : ¬ (r_559 = 0)) => ?_)
              · have u_562 := hq_560.2.2 c_561
                refine lv_aload_n hx hb dX7_statement_245 rfl (lv_at hl 0 rfl) ?_
                refine va_ldcS hx hb hown (hG.2.2.1 ("OneHeavyLoadModel", 217, "mile", 36) (List.mem_of_getElem? (i := 33) rfl)) dX7_statement_246 ?_
                refine lv_aload_n hx hb dX7_statement_248 rfl (lv_at hl 0 rfl) ?_
                refine va_get (D := D) (ci := 7) (v := .ref (a 13)) (C := RX7) (T := TX7) (N := 29) hx hb htg ig_7 hown hK hP 0 (oh_wg (Nat.lt_of_lt_of_le (by decide) hn) (sM_0 hT)) rfl 17 (by decide) (htg _ q_990) (fun _ h9 => h9) rfl dX7_statement_249 ?_
                refine lv_iconst (v := 1) hx hb dX7_statement_252 (by decide) ?_
                refine lv_iconst (v := 0) hx hb dX7_statement_253 (by decide) ?_
                refine lv_bipush (v := 99) hx hb dX7_statement_254 (by decide) ?_
                have : 0 ≤ (gi (C 0) 21).toInt ∧ (gi (C 0) 21).toInt ≤ 250 := fM_0_21 hT0
                have : 0 ≤ (gi (C 0) 7).toInt ∧ (gi (C 0) 7).toInt ≤ 250 := fM_0_7 hT0
                have : 0 ≤ (gi (C 0) 23).toInt ∧ (gi (C 0) 23).toInt ≤ 250 := fM_0_23 hT0
                have : 0 ≤ (gi (C 0) 13).toInt ∧ (gi (C 0) 13).toInt ≤ 5 := fM_0_13 hT0
                have : (24 : Int32).toInt = 24 := rfl
                have : (24 : Int32).toInt ≤ (gi (C 0) 9).toInt := Int32.le_iff_toInt_le.mp c_372
                have : (16 : Int32).toInt = 16 := rfl
                have : (16 : Int32).toInt ≤ (gi (C 0) 11).toInt := Int32.le_iff_toInt_le.mp c_550
                refine tm_V (As := [.ref (G (3 + 33)), .ref (a 13), .int 1, .int 0, .int 99]) (rest := []) ⟨hx, hb, hml, hown, htg⟩ (e_X7_told l D E G _ a C n hn hT 33 13 (1 : Int32) (0 : Int32) (99 : Int32) (by decide) (rg_w (rg_c (v := 0) (lo := 0) (hi := 0) (by decide)) (by decide)) (rg_w (rg_c (v := 99) (lo := 99) (hi := 99) (by decide)) (by decide)) ⟨(Nat.lt_of_lt_of_le (by decide) hn), (by decide), 3, fun C h => (sM_13 h), (rg_in (rg_c (v := 1) (lo := 1) (hi := 1) (by decide)) (by decide)), fun C v h h1 h2 => (h.up 13 (by decide) (tA_upd (tM_13 h) tA_any))⟩ (by omega) hfg (by omega) (by decide)) (cwV 5 htg (oh_gV q_1234 q_1236 q_45 q_73 q_1237) rfl rfl rfl pdVX7_told ⟨Nat.le_of_ble_eq_true rfl, Nat.le_of_ble_eq_true rfl⟩) hK hP hD hG hS hA (va_recv hK hP (ci := 7) (q0 := 0) rfl (oh_wg (Nat.lt_of_lt_of_le (by decide) hn) (sM_0 hT))) rfl hl.1 rfl (Nat.le_of_ble_eq_true rfl) dX7_statement_256 ⟨Nat.le_of_ble_eq_true rfl, Nat.le_of_ble_eq_true rfl⟩ (fun r_563 C_564 H locs hq_565 hP hD hS => ?_)
                obtain ⟨hT, f_566, hq_565⟩ := hq_565
                have hF := fr_trk hF f_566 (by decide) (by decide)
                refine W.widen (k := 0) (n := 0) (Nat.le_refl _) (Nat.le_refl _) ?_
                have t_567 := hT
                have : (gi (C_564 0) 7).toInt = (gi (C 0) 7).toInt := congrArg (fun z => (vi z).toInt) (f_566.2 7 (by decide))
                have : (gi (C_564 0) 13).toInt = (gi (C 0) 13).toInt := congrArg (fun z => (vi z).toInt) (f_566.2 13 (by decide))
                have : 0 ≤ (gi (C_564 0) 21).toInt ∧ (gi (C_564 0) 21).toInt ≤ 250 := fM_0_21 t_567
                have : 0 ≤ (gi (C_564 0) 7).toInt ∧ (gi (C_564 0) 7).toInt ≤ 250 := fM_0_7 t_567
                have : 0 ≤ (gi (C_564 0) 23).toInt ∧ (gi (C_564 0) 23).toInt ≤ 250 := fM_0_23 t_567
                have : 0 ≤ (gi (C_564 0) 13).toInt ∧ (gi (C_564 0) 13).toInt ≤ 5 := fM_0_13 t_567
                rw [hQ]
                exact W.zret (v := r_563) (ty := .boolean) hx hb hr (oh_nb hq_565.1) (fun t ht hW => ⟨⟨r_563, C_564, rfl, ⟨hT, hF, ⟨hq_565.1, ⟨hq_565.2.1.1, hq_565.2.1.2⟩, (fun h9 => (hq_565.2.2.2.2.1 h9)), (RelW.fr hR (fr_trk (mc := [(13, 14)]) (mf := [21, 22, 23, 24, 25]) fr_rf f_566 (by decide) (by decide)) (by decide)), (by omega), (absurd u_549.2 (XIs_x (i := 17) (by decide) (by decide) (by decide) u_371.2)), hq_565.2.2.2.2.2.2.2.2.1, hq_565.2.2.2.2.2.2.2.2.2⟩⟩, ⟨by rw [ht]; exact hP, hD⟩⟩, hS.F ht⟩) hS.2.2 dX7_statement_259
              · have u_568 := hq_560.2.1 c_561
                refine lv_aload_n hx hb dX7_statement_229 rfl (lv_at hl 0 rfl) ?_
                refine va_ldcS hx hb hown (hG.2.2.1 ("OneHeavyLoadModel", 215, "load", 35) (List.mem_of_getElem? (i := 32) rfl)) dX7_statement_230 ?_
                refine lv_aload_n hx hb dX7_statement_232 rfl (lv_at hl 0 rfl) ?_
                refine va_get (D := D) (ci := 7) (v := .ref (a 13)) (C := RX7) (T := TX7) (N := 29) hx hb htg ig_7 hown hK hP 0 (oh_wg (Nat.lt_of_lt_of_le (by decide) hn) (sM_0 hT)) rfl 17 (by decide) (htg _ q_990) (fun _ h9 => h9) rfl dX7_statement_233 ?_
                refine lv_iconst (v := 0) hx hb dX7_statement_236 (by decide) ?_
                refine lv_iconst (v := 0) hx hb dX7_statement_237 (by decide) ?_
                refine lv_sipush (v := 900) hx hb dX7_statement_238 (by decide) ?_
                have : 0 ≤ (gi (C 0) 21).toInt ∧ (gi (C 0) 21).toInt ≤ 250 := fM_0_21 hT0
                have : 0 ≤ (gi (C 0) 7).toInt ∧ (gi (C 0) 7).toInt ≤ 250 := fM_0_7 hT0
                have : 0 ≤ (gi (C 0) 23).toInt ∧ (gi (C 0) 23).toInt ≤ 250 := fM_0_23 hT0
                have : 0 ≤ (gi (C 0) 13).toInt ∧ (gi (C 0) 13).toInt ≤ 5 := fM_0_13 hT0
                have : (24 : Int32).toInt = 24 := rfl
                have : (24 : Int32).toInt ≤ (gi (C 0) 9).toInt := Int32.le_iff_toInt_le.mp c_372
                have : (16 : Int32).toInt = 16 := rfl
                have : (16 : Int32).toInt ≤ (gi (C 0) 11).toInt := Int32.le_iff_toInt_le.mp c_550
                refine tm_V (As := [.ref (G (3 + 32)), .ref (a 13), .int 0, .int 0, .int 900]) (rest := []) ⟨hx, hb, hml, hown, htg⟩ (e_X7_told l D E G _ a C n hn hT 32 13 (0 : Int32) (0 : Int32) (900 : Int32) (by decide) (rg_w (rg_c (v := 0) (lo := 0) (hi := 0) (by decide)) (by decide)) (rg_w (rg_c (v := 900) (lo := 900) (hi := 900) (by decide)) (by decide)) ⟨(Nat.lt_of_lt_of_le (by decide) hn), (by decide), 3, fun C h => (sM_13 h), (rg_in (rg_c (v := 0) (lo := 0) (hi := 0) (by decide)) (by decide)), fun C v h h1 h2 => (h.up 13 (by decide) (tA_upd (tM_13 h) tA_any))⟩ (by omega) hfg (by omega) (by decide)) (cwV 5 htg (oh_gV q_1234 q_1236 q_45 q_73 q_1237) rfl rfl rfl pdVX7_told ⟨Nat.le_of_ble_eq_true rfl, Nat.le_of_ble_eq_true rfl⟩) hK hP hD hG hS hA (va_recv hK hP (ci := 7) (q0 := 0) rfl (oh_wg (Nat.lt_of_lt_of_le (by decide) hn) (sM_0 hT))) rfl hl.1 rfl (Nat.le_of_ble_eq_true rfl) dX7_statement_241 ⟨Nat.le_of_ble_eq_true rfl, Nat.le_of_ble_eq_true rfl⟩ (fun r_569 C_570 H locs hq_571 hP hD hS => ?_)
                obtain ⟨hT, f_572, hq_571⟩ := hq_571
                have hF := fr_trk hF f_572 (by decide) (by decide)
                refine W.widen (k := 0) (n := 0) (Nat.le_refl _) (Nat.le_refl _) ?_
                have t_573 := hT
                have : (gi (C_570 0) 7).toInt = (gi (C 0) 7).toInt := congrArg (fun z => (vi z).toInt) (f_572.2 7 (by decide))
                have : (gi (C_570 0) 13).toInt = (gi (C 0) 13).toInt := congrArg (fun z => (vi z).toInt) (f_572.2 13 (by decide))
                have : 0 ≤ (gi (C_570 0) 21).toInt ∧ (gi (C_570 0) 21).toInt ≤ 250 := fM_0_21 t_573
                have : 0 ≤ (gi (C_570 0) 7).toInt ∧ (gi (C_570 0) 7).toInt ≤ 250 := fM_0_7 t_573
                have : 0 ≤ (gi (C_570 0) 23).toInt ∧ (gi (C_570 0) 23).toInt ≤ 250 := fM_0_23 t_573
                have : 0 ≤ (gi (C_570 0) 13).toInt ∧ (gi (C_570 0) 13).toInt ≤ 5 := fM_0_13 t_573
                rw [hQ]
                exact W.zret (v := r_569) (ty := .boolean) hx hb hr (oh_nb hq_571.1) (fun t ht hW => ⟨⟨r_569, C_570, rfl, ⟨hT, hF, ⟨hq_571.1, ⟨hq_571.2.1.1, hq_571.2.1.2⟩, (fun h9 => (hq_571.2.2.2.2.1 h9)), (RelW.fr hR (fr_trk (mc := [(13, 14)]) (mf := [21, 22, 23, 24, 25]) fr_rf f_572 (by decide) (by decide)) (by decide)), (by omega), (absurd u_549.2 (XIs_x (i := 17) (by decide) (by decide) (by decide) u_371.2)), hq_571.2.2.2.2.2.2.2.2.1, hq_571.2.2.2.2.2.2.2.2.2⟩⟩, ⟨by rw [ht]; exact hP, hD⟩⟩, hS.F ht⟩) hS.2.2 dX7_statement_244
            · have u_574 := hq_556.2.1 c_557
              refine lv_aload_n hx hb dX7_statement_156 rfl (lv_at hl 0 rfl) ?_
              refine va_get (D := D) (ci := 7) (v := .int (gi (C 0) 15)) (C := RX7) (T := TX7) (N := 29) hx hb htg ig_7 hown hK hP 0 (oh_wg (Nat.lt_of_lt_of_le (by decide) hn) (sM_0 hT)) rfl 15 (by decide) (htg _ q_988) (fun _ h9 => h9) rfl dX7_statement_157 ?_
              refine lv_iconst (v := 5) hx hb dX7_statement_160 (by decide) ?_
              refine lv_icmp_ge (tgt := 220) hx hb dX7_statement_161 (by decide) (fun (c_575 : (5 : Int32) ≤ (gi (C 0) 15)) => ?_) (fun (c_575 : ¬ ((5 : Int32) ≤ (gi (C 0) 15))) => ?_)
              · refine lv_aload_n hx hb dX7_statement_220 rfl (lv_at hl 0 rfl) ?_
                refine va_ldcS hx hb hown (hG.2.2.1 ("OneHeavyLoadModel", 215, "load", 35) (List.mem_of_getElem? (i := 32) rfl)) dX7_statement_221 ?_
                refine tq_V (As := [.ref (G (3 + 32))]) (rest := []) (ws := (oh_W n a C)) ⟨hx, hb, hml, hown, htg⟩ (e_X7_isWord l D E G a C n hn hT 32 (by decide)) (cwV 1 htg (oh_gV q_1215 q_1217 q_41 q_73 q_1218) rfl rfl rfl pdVX7_isWord ⟨Nat.le_of_ble_eq_true rfl, Nat.le_of_ble_eq_true rfl⟩) hK hP hG hS (va_recv hK hP (ci := 7) (q0 := 0) rfl (oh_wg (Nat.lt_of_lt_of_le (by decide) hn) (sM_0 hT))) rfl hl.1 rfl (Nat.le_of_ble_eq_true rfl) dX7_statement_223 ⟨Nat.le_of_ble_eq_true rfl, Nat.le_of_ble_eq_true rfl⟩ (fun r_576 hq_577 => ?_)
                refine lv_if_eq (tgt := 245) hx hb dX7_statement_226 (by decide) (fun (c_578 : r_576 = 0) => ?_) (fun (c_578 : ¬ (r_576 = 0)) => ?_)
                · have u_579 := hq_577.2.2 c_578
                  refine lv_aload_n hx hb dX7_statement_245 rfl (lv_at hl 0 rfl) ?_
                  refine va_ldcS hx hb hown (hG.2.2.1 ("OneHeavyLoadModel", 217, "mile", 36) (List.mem_of_getElem? (i := 33) rfl)) dX7_statement_246 ?_
                  refine lv_aload_n hx hb dX7_statement_248 rfl (lv_at hl 0 rfl) ?_
                  refine va_get (D := D) (ci := 7) (v := .ref (a 13)) (C := RX7) (T := TX7) (N := 29) hx hb htg ig_7 hown hK hP 0 (oh_wg (Nat.lt_of_lt_of_le (by decide) hn) (sM_0 hT)) rfl 17 (by decide) (htg _ q_990) (fun _ h9 => h9) rfl dX7_statement_249 ?_
                  refine lv_iconst (v := 1) hx hb dX7_statement_252 (by decide) ?_
                  refine lv_iconst (v := 0) hx hb dX7_statement_253 (by decide) ?_
                  refine lv_bipush (v := 99) hx hb dX7_statement_254 (by decide) ?_
                  have : 0 ≤ (gi (C 0) 21).toInt ∧ (gi (C 0) 21).toInt ≤ 250 := fM_0_21 hT0
                  have : 0 ≤ (gi (C 0) 7).toInt ∧ (gi (C 0) 7).toInt ≤ 250 := fM_0_7 hT0
                  have : 0 ≤ (gi (C 0) 23).toInt ∧ (gi (C 0) 23).toInt ≤ 250 := fM_0_23 hT0
                  have : 0 ≤ (gi (C 0) 13).toInt ∧ (gi (C 0) 13).toInt ≤ 5 := fM_0_13 hT0
                  have : (24 : Int32).toInt = 24 := rfl
                  have : (24 : Int32).toInt ≤ (gi (C 0) 9).toInt := Int32.le_iff_toInt_le.mp c_372
                  have : (16 : Int32).toInt = 16 := rfl
                  have : (16 : Int32).toInt ≤ (gi (C 0) 11).toInt := Int32.le_iff_toInt_le.mp c_550
                  have : (5 : Int32).toInt = 5 := rfl
                  have : (5 : Int32).toInt ≤ (gi (C 0) 15).toInt := Int32.le_iff_toInt_le.mp c_575
                  refine tm_V (As := [.ref (G (3 + 33)), .ref (a 13), .int 1, .int 0, .int 99]) (rest := []) ⟨hx, hb, hml, hown, htg⟩ (e_X7_told l D E G _ a C n hn hT 33 13 (1 : Int32) (0 : Int32) (99 : Int32) (by decide) (rg_w (rg_c (v := 0) (lo := 0) (hi := 0) (by decide)) (by decide)) (rg_w (rg_c (v := 99) (lo := 99) (hi := 99) (by decide)) (by decide)) ⟨(Nat.lt_of_lt_of_le (by decide) hn), (by decide), 3, fun C h => (sM_13 h), (rg_in (rg_c (v := 1) (lo := 1) (hi := 1) (by decide)) (by decide)), fun C v h h1 h2 => (h.up 13 (by decide) (tA_upd (tM_13 h) tA_any))⟩ (by omega) hfg (by omega) (by decide)) (cwV 5 htg (oh_gV q_1234 q_1236 q_45 q_73 q_1237) rfl rfl rfl pdVX7_told ⟨Nat.le_of_ble_eq_true rfl, Nat.le_of_ble_eq_true rfl⟩) hK hP hD hG hS hA (va_recv hK hP (ci := 7) (q0 := 0) rfl (oh_wg (Nat.lt_of_lt_of_le (by decide) hn) (sM_0 hT))) rfl hl.1 rfl (Nat.le_of_ble_eq_true rfl) dX7_statement_256 ⟨Nat.le_of_ble_eq_true rfl, Nat.le_of_ble_eq_true rfl⟩ (fun r_580 C_581 H locs hq_582 hP hD hS => ?_)
                  obtain ⟨hT, f_583, hq_582⟩ := hq_582
                  have hF := fr_trk hF f_583 (by decide) (by decide)
                  refine W.widen (k := 0) (n := 0) (Nat.le_refl _) (Nat.le_refl _) ?_
                  have t_584 := hT
                  have : (gi (C_581 0) 7).toInt = (gi (C 0) 7).toInt := congrArg (fun z => (vi z).toInt) (f_583.2 7 (by decide))
                  have : (gi (C_581 0) 13).toInt = (gi (C 0) 13).toInt := congrArg (fun z => (vi z).toInt) (f_583.2 13 (by decide))
                  have : 0 ≤ (gi (C_581 0) 21).toInt ∧ (gi (C_581 0) 21).toInt ≤ 250 := fM_0_21 t_584
                  have : 0 ≤ (gi (C_581 0) 7).toInt ∧ (gi (C_581 0) 7).toInt ≤ 250 := fM_0_7 t_584
                  have : 0 ≤ (gi (C_581 0) 23).toInt ∧ (gi (C_581 0) 23).toInt ≤ 250 := fM_0_23 t_584
                  have : 0 ≤ (gi (C_581 0) 13).toInt ∧ (gi (C_581 0) 13).toInt ≤ 5 := fM_0_13 t_584
                  rw [hQ]
                  exact W.zret (v := r_580) (ty := .boolean) hx hb hr (oh_nb hq_582.1) (fun t ht hW => ⟨⟨r_580, C_581, rfl, ⟨hT, hF, ⟨hq_582.1, ⟨hq_582.2.1.1, hq_582.2.1.2⟩, (fun h9 => (hq_582.2.2.2.2.1 h9)), (RelW.fr hR (fr_trk (mc := [(13, 14)]) (mf := [21, 22, 23, 24, 25]) fr_rf f_583 (by decide) (by decide)) (by decide)), (by omega), (absurd u_549.2 (XIs_x (i := 17) (by decide) (by decide) (by decide) u_371.2)), hq_582.2.2.2.2.2.2.2.2.1, hq_582.2.2.2.2.2.2.2.2.2⟩⟩, ⟨by rw [ht]; exact hP, hD⟩⟩, hS.F ht⟩) hS.2.2 dX7_statement_259
                · have u_585 := hq_577.2.1 c_578
                  refine lv_aload_n hx hb dX7_statement_229 rfl (lv_at hl 0 rfl) ?_
                  refine va_ldcS hx hb hown (hG.2.2.1 ("OneHeavyLoadModel", 215, "load", 35) (List.mem_of_getElem? (i := 32) rfl)) dX7_statement_230 ?_
                  refine lv_aload_n hx hb dX7_statement_232 rfl (lv_at hl 0 rfl) ?_
                  refine va_get (D := D) (ci := 7) (v := .ref (a 13)) (C := RX7) (T := TX7) (N := 29) hx hb htg ig_7 hown hK hP 0 (oh_wg (Nat.lt_of_lt_of_le (by decide) hn) (sM_0 hT)) rfl 17 (by decide) (htg _ q_990) (fun _ h9 => h9) rfl dX7_statement_233 ?_
                  refine lv_iconst (v := 0) hx hb dX7_statement_236 (by decide) ?_
                  refine lv_iconst (v := 0) hx hb dX7_statement_237 (by decide) ?_
                  refine lv_sipush (v := 900) hx hb dX7_statement_238 (by decide) ?_
                  have : 0 ≤ (gi (C 0) 21).toInt ∧ (gi (C 0) 21).toInt ≤ 250 := fM_0_21 hT0
                  have : 0 ≤ (gi (C 0) 7).toInt ∧ (gi (C 0) 7).toInt ≤ 250 := fM_0_7 hT0
                  have : 0 ≤ (gi (C 0) 23).toInt ∧ (gi (C 0) 23).toInt ≤ 250 := fM_0_23 hT0
                  have : 0 ≤ (gi (C 0) 13).toInt ∧ (gi (C 0) 13).toInt ≤ 5 := fM_0_13 hT0
                  have : (24 : Int32).toInt = 24 := rfl
                  have : (24 : Int32).toInt ≤ (gi (C 0) 9).toInt := Int32.le_iff_toInt_le.mp c_372
                  have : (16 : Int32).toInt = 16 := rfl
                  have : (16 : Int32).toInt ≤ (gi (C 0) 11).toInt := Int32.le_iff_toInt_le.mp c_550
                  have : (5 : Int32).toInt = 5 := rfl
                  have : (5 : Int32).toInt ≤ (gi (C 0) 15).toInt := Int32.le_iff_toInt_le.mp c_575
                  refine tm_V (As := [.ref (G (3 + 32)), .ref (a 13), .int 0, .int 0, .int 900]) (rest := []) ⟨hx, hb, hml, hown, htg⟩ (e_X7_told l D E G _ a C n hn hT 32 13 (0 : Int32) (0 : Int32) (900 : Int32) (by decide) (rg_w (rg_c (v := 0) (lo := 0) (hi := 0) (by decide)) (by decide)) (rg_w (rg_c (v := 900) (lo := 900) (hi := 900) (by decide)) (by decide)) ⟨(Nat.lt_of_lt_of_le (by decide) hn), (by decide), 3, fun C h => (sM_13 h), (rg_in (rg_c (v := 0) (lo := 0) (hi := 0) (by decide)) (by decide)), fun C v h h1 h2 => (h.up 13 (by decide) (tA_upd (tM_13 h) tA_any))⟩ (by omega) hfg (by omega) (by decide)) (cwV 5 htg (oh_gV q_1234 q_1236 q_45 q_73 q_1237) rfl rfl rfl pdVX7_told ⟨Nat.le_of_ble_eq_true rfl, Nat.le_of_ble_eq_true rfl⟩) hK hP hD hG hS hA (va_recv hK hP (ci := 7) (q0 := 0) rfl (oh_wg (Nat.lt_of_lt_of_le (by decide) hn) (sM_0 hT))) rfl hl.1 rfl (Nat.le_of_ble_eq_true rfl) dX7_statement_241 ⟨Nat.le_of_ble_eq_true rfl, Nat.le_of_ble_eq_true rfl⟩ (fun r_586 C_587 H locs hq_588 hP hD hS => ?_)
                  obtain ⟨hT, f_589, hq_588⟩ := hq_588
                  have hF := fr_trk hF f_589 (by decide) (by decide)
                  refine W.widen (k := 0) (n := 0) (Nat.le_refl _) (Nat.le_refl _) ?_
                  have t_590 := hT
                  have : (gi (C_587 0) 7).toInt = (gi (C 0) 7).toInt := congrArg (fun z => (vi z).toInt) (f_589.2 7 (by decide))
                  have : (gi (C_587 0) 13).toInt = (gi (C 0) 13).toInt := congrArg (fun z => (vi z).toInt) (f_589.2 13 (by decide))
                  have : 0 ≤ (gi (C_587 0) 21).toInt ∧ (gi (C_587 0) 21).toInt ≤ 250 := fM_0_21 t_590
                  have : 0 ≤ (gi (C_587 0) 7).toInt ∧ (gi (C_587 0) 7).toInt ≤ 250 := fM_0_7 t_590
                  have : 0 ≤ (gi (C_587 0) 23).toInt ∧ (gi (C_587 0) 23).toInt ≤ 250 := fM_0_23 t_590
                  have : 0 ≤ (gi (C_587 0) 13).toInt ∧ (gi (C_587 0) 13).toInt ≤ 5 := fM_0_13 t_590
                  rw [hQ]
                  exact W.zret (v := r_586) (ty := .boolean) hx hb hr (oh_nb hq_588.1) (fun t ht hW => ⟨⟨r_586, C_587, rfl, ⟨hT, hF, ⟨hq_588.1, ⟨hq_588.2.1.1, hq_588.2.1.2⟩, (fun h9 => (hq_588.2.2.2.2.1 h9)), (RelW.fr hR (fr_trk (mc := [(13, 14)]) (mf := [21, 22, 23, 24, 25]) fr_rf f_589 (by decide) (by decide)) (by decide)), (by omega), (absurd u_549.2 (XIs_x (i := 17) (by decide) (by decide) (by decide) u_371.2)), hq_588.2.2.2.2.2.2.2.2.1, hq_588.2.2.2.2.2.2.2.2.2⟩⟩, ⟨by rw [ht]; exact hP, hD⟩⟩, hS.F ht⟩) hS.2.2 dX7_statement_244
              · refine lv_aload_n hx hb dX7_statement_164 rfl (lv_at hl 0 rfl) ?_
                refine va_ldcS hx hb hown (hG.2.2.1 ("OneHeavyLoadModel", 214, "part", 34) (List.mem_of_getElem? (i := 31) rfl)) dX7_statement_165 ?_
                refine lv_aload_n hx hb dX7_statement_167 rfl (lv_at hl 0 rfl) ?_
                refine va_get (D := D) (ci := 7) (v := .ref (a 12)) (C := RX7) (T := TX7) (N := 29) hx hb htg ig_7 hown hK hP 0 (oh_wg (Nat.lt_of_lt_of_le (by decide) hn) (sM_0 hT)) rfl 16 (by decide) (htg _ q_989) (fun _ h9 => h9) rfl dX7_statement_168 ?_
                refine lv_aload_n hx hb dX7_statement_171 rfl (lv_at hl 0 rfl) ?_
                refine va_get (D := D) (ci := 7) (v := .int (gi (C 0) 15)) (C := RX7) (T := TX7) (N := 29) hx hb htg ig_7 hown hK hP 0 (oh_wg (Nat.lt_of_lt_of_le (by decide) hn) (sM_0 hT)) rfl 15 (by decide) (htg _ q_988) (fun _ h9 => h9) rfl dX7_statement_172 ?_
                have n_591 : vp_in (gi (C 0) 15) 5 := (rg_in (rn_ltu (u' := 4) (Int32.not_le.mp c_575) (fM_0_15 hT0) (rg_c (v := 5) (lo := 5) (hi := 5) (by decide)) (by decide)) (by decide))
                have b_592 : (gi (C 0) 15).toNatClampNeg < 5 := vp_lt n_591
                refine th_aald hx hb hK hP 12 2 (Nat.lt_of_lt_of_le (by decide) hn) (sM_12 hT) rfl n_591 dX7_statement_175 ?_
                refine lv_iconst (v := 0) hx hb dX7_statement_176 (by decide) ?_
                refine lv_iconst (v := 1) hx hb dX7_statement_177 (by decide) ?_
                refine lv_bipush (v := 99) hx hb dX7_statement_178 (by decide) ?_
                have : 0 ≤ (gi (C 0) 21).toInt ∧ (gi (C 0) 21).toInt ≤ 250 := fM_0_21 hT0
                have : 0 ≤ (gi (C 0) 7).toInt ∧ (gi (C 0) 7).toInt ≤ 250 := fM_0_7 hT0
                have : 0 ≤ (gi (C 0) 23).toInt ∧ (gi (C 0) 23).toInt ≤ 250 := fM_0_23 hT0
                have : 0 ≤ (gi (C 0) 13).toInt ∧ (gi (C 0) 13).toInt ≤ 5 := fM_0_13 hT0
                have : (24 : Int32).toInt = 24 := rfl
                have : (24 : Int32).toInt ≤ (gi (C 0) 9).toInt := Int32.le_iff_toInt_le.mp c_372
                have : (16 : Int32).toInt = 16 := rfl
                have : (16 : Int32).toInt ≤ (gi (C 0) 11).toInt := Int32.le_iff_toInt_le.mp c_550
                have : (5 : Int32).toInt = 5 := rfl
                have : (gi (C 0) 15).toInt < (5 : Int32).toInt := Int32.lt_iff_toInt_lt.mp (Int32.not_le.mp c_575)
                refine tm_V (As := [.ref (G (3 + 31)), .ref (a (69 + (gi (C 0) 15).toNatClampNeg)), .int 0, .int 1, .int 99]) (rest := []) ⟨hx, hb, hml, hown, htg⟩ (e_X7_told l D E G _ a C n hn hT 31 (69 + (gi (C 0) 15).toNatClampNeg) (0 : Int32) (1 : Int32) (99 : Int32) (by decide) (rg_w (rg_c (v := 1) (lo := 1) (hi := 1) (by decide)) (by decide)) (rg_w (rg_c (v := 99) (lo := 99) (hi := 99) (by decide)) (by decide)) ⟨(lt_blk b_592 hn (by decide)), (by omega), 2, fun C h => (h.bpart b_592).1, (rg_in (rg_c (v := 0) (lo := 0) (hi := 0) (by decide)) (by decide)), fun C v h h1 h2 => (h.uppart b_592 (tA_upd (h.bpart b_592) tA_any))⟩ (by omega) hfg (by omega) (by omega)) (cwV 5 htg (oh_gV q_1234 q_1236 q_45 q_73 q_1237) rfl rfl rfl pdVX7_told ⟨Nat.le_of_ble_eq_true rfl, Nat.le_of_ble_eq_true rfl⟩) hK hP hD hG hS hA (va_recv hK hP (ci := 7) (q0 := 0) rfl (oh_wg (Nat.lt_of_lt_of_le (by decide) hn) (sM_0 hT))) rfl hl.1 rfl (Nat.le_of_ble_eq_true rfl) dX7_statement_180 ⟨Nat.le_of_ble_eq_true rfl, Nat.le_of_ble_eq_true rfl⟩ (fun r_593 C_594 H locs hq_595 hP hD hS => ?_)
                obtain ⟨hT, f_596, hq_595⟩ := hq_595
                have hF := fr_trk hF f_596 (inR_of (p := (69, 74)) (by decide) (by show 69 ≤ _; omega) (by show _ < 74; omega)) (by decide)
                refine W.widen (k := 0) (n := 0) (Nat.le_refl _) (Nat.le_refl _) ?_
                have t_597 := hT
                refine lv_if_eq (tgt := 206) hx hb dX7_statement_183 (by decide) (fun (c_598 : r_593 = 0) => ?_) (fun (c_598 : ¬ (r_593 = 0)) => ?_)
                · have u_599 := hq_595.2.2.2.2.2.2.1 c_598
                  have u_600 := hq_595.2.2.2.2.2.2.2.1 c_598
                  refine lv_iconst (v := 0) hx hb dX7_statement_206 (by decide) ?_
                  have : (gi (C_594 0) 7).toInt = (gi (C 0) 7).toInt := congrArg (fun z => (vi z).toInt) (f_596.2 7 (by decide))
                  have : (gi (C_594 0) 13).toInt = (gi (C 0) 13).toInt := congrArg (fun z => (vi z).toInt) (f_596.2 13 (by decide))
                  have : 0 ≤ (gi (C_594 0) 21).toInt ∧ (gi (C_594 0) 21).toInt ≤ 250 := fM_0_21 t_597
                  have : 0 ≤ (gi (C_594 0) 7).toInt ∧ (gi (C_594 0) 7).toInt ≤ 250 := fM_0_7 t_597
                  have : 0 ≤ (gi (C_594 0) 23).toInt ∧ (gi (C_594 0) 23).toInt ≤ 250 := fM_0_23 t_597
                  have : 0 ≤ (gi (C_594 0) 13).toInt ∧ (gi (C_594 0) 13).toInt ≤ 5 := fM_0_13 t_597
                  rw [hQ]
                  exact W.zret (v := 0) (ty := .boolean) hx hb hr (by decide) (fun t ht hW => ⟨⟨0, C_594, rfl, ⟨hT, hF, ⟨(Or.inl rfl), ⟨hq_595.2.1.1, hq_595.2.1.2⟩, (fun h9 => absurd rfl h9), (RelW.fr hR (fr_trk (mc := [(69, 74)]) (mf := [21, 22, 23, 24, 25]) fr_rf f_596 (inR_of (p := (69, 74)) (by decide) (by show 69 ≤ _; omega) (by show _ < 74; omega)) (by decide)) (by decide)), (by omega), (absurd u_549.2 (XIs_x (i := 17) (by decide) (by decide) (by decide) u_371.2)), hq_595.2.2.2.2.2.2.2.2.1, hq_595.2.2.2.2.2.2.2.2.2⟩⟩, ⟨by rw [ht]; exact hP, hD⟩⟩, hS.F ht⟩) hS.2.2 dX7_statement_207
                · have u_601 := hq_595.2.2.2.1 c_598
                  have u_602 := hq_595.2.2.2.2.1 c_598
                  have u_603 := hq_595.2.2.2.2.2.1 c_598
                  refine lv_aload_n hx hb dX7_statement_186 rfl (lv_at hl 0 rfl) ?_
                  refine lv_aload_n hx hb dX7_statement_187 rfl (lv_at hl 0 rfl) ?_
                  refine va_get (D := D) (ci := 7) (v := .ref (a 12)) (C := RX7) (T := TX7) (N := 29) hx hb htg ig_7 hown hK hP 0 (oh_wg (Nat.lt_of_lt_of_le (by decide) hn) (sM_0 hT)) rfl 16 (by decide) (htg _ q_989) (fun _ h9 => h9) rfl dX7_statement_188 ?_
                  refine lv_aload_n hx hb dX7_statement_191 rfl (lv_at hl 0 rfl) ?_
                  refine va_get (D := D) (ci := 7) (v := .int (gi (C 0) 15)) (C := RX7) (T := TX7) (N := 29) hx hb htg ig_7 hown hK hP 0 (oh_wg (Nat.lt_of_lt_of_le (by decide) hn) (sM_0 hT)) rfl 15 (by decide) (htg _ q_988) (fun _ h9 => h9) (oh_fv (c := C_594 0) (j := 15) rfl (congrArg vi (f_596.2 15 (by decide)))) dX7_statement_192 ?_
                  have n_604 : vp_in (gi (C 0) 15) 5 := (rg_in (rn_ltu (u' := 4) (Int32.not_le.mp c_575) (fM_0_15 hT0) (rg_c (v := 5) (lo := 5) (hi := 5) (by decide)) (by decide)) (by decide))
                  have b_605 : (gi (C 0) 15).toNatClampNeg < 5 := vp_lt n_604
                  refine th_aald hx hb hK hP 12 2 (Nat.lt_of_lt_of_le (by decide) hn) (sM_12 hT) rfl n_604 dX7_statement_195 ?_
                  refine lv_iconst (v := 1) hx hb dX7_statement_196 (by decide) ?_
                  refine lv_iconst (v := 0) hx hb dX7_statement_197 (by decide) ?_
                  refine lv_bipush (v := 99) hx hb dX7_statement_198 (by decide) ?_
                  have : (gi (C_594 0) 7).toInt = (gi (C 0) 7).toInt := congrArg (fun z => (vi z).toInt) (f_596.2 7 (by decide))
                  have : (gi (C_594 0) 13).toInt = (gi (C 0) 13).toInt := congrArg (fun z => (vi z).toInt) (f_596.2 13 (by decide))
                  have : 0 ≤ (gi (C_594 0) 21).toInt ∧ (gi (C_594 0) 21).toInt ≤ 250 := fM_0_21 t_597
                  have : 0 ≤ (gi (C_594 0) 7).toInt ∧ (gi (C_594 0) 7).toInt ≤ 250 := fM_0_7 t_597
                  have : 0 ≤ (gi (C_594 0) 23).toInt ∧ (gi (C_594 0) 23).toInt ≤ 250 := fM_0_23 t_597
                  have : 0 ≤ (gi (C_594 0) 13).toInt ∧ (gi (C_594 0) 13).toInt ≤ 5 := fM_0_13 t_597
                  refine tm_V (As := [.ref (a (69 + (gi (C 0) 15).toNatClampNeg)), .int 1, .int 0, .int 99]) (rest := []) ⟨hx, hb, hml, hown, htg⟩ (e_X7_number l D E G _ a C_594 n hn hT (69 + (gi (C 0) 15).toNatClampNeg) (1 : Int32) (0 : Int32) (99 : Int32) (rg_w (rg_c (v := 0) (lo := 0) (hi := 0) (by decide)) (by decide)) (rg_w (rg_c (v := 99) (lo := 99) (hi := 99) (by decide)) (by decide)) ⟨(lt_blk b_605 hn (by decide)), (by omega), 2, fun C h => (h.bpart b_605).1, (rg_in (rg_c (v := 1) (lo := 1) (hi := 1) (by decide)) (by decide)), fun C v h h1 h2 => (h.uppart b_605 (tA_upd (h.bpart b_605) tA_any))⟩ (by omega) hq_595.2.2.2.2.2.2.2.2.1 (by omega) (by omega)) (cwV 4 htg (oh_gV q_1225 q_1227 q_43 q_73 q_1228) rfl rfl rfl pdVX7_number ⟨Nat.le_of_ble_eq_true rfl, Nat.le_of_ble_eq_true rfl⟩) hK hP hD hG hS hA (va_recv hK hP (ci := 7) (q0 := 0) rfl (oh_wg (Nat.lt_of_lt_of_le (by decide) hn) (sM_0 hT))) rfl hl.1 rfl (Nat.le_of_ble_eq_true rfl) dX7_statement_200 ⟨Nat.le_of_ble_eq_true rfl, Nat.le_of_ble_eq_true rfl⟩ (fun r_606 C_607 H locs hq_608 hP hD hS => ?_)
                  obtain ⟨hT, f_609, hq_608⟩ := hq_608
                  have hF := fr_trk hF f_609 (inR_of (p := (69, 74)) (by decide) (by show 69 ≤ _; omega) (by show _ < 74; omega)) (by decide)
                  refine W.widen (k := 0) (n := 0) (Nat.le_refl _) (Nat.le_refl _) ?_
                  have t_610 := hT
                  refine lv_if_ne (tgt := 208) hx hb dX7_statement_203 (by decide) (fun (c_611 : ¬ (r_606 = 0)) => ?_) (fun (c_611 : r_606 = 0) => ?_)
                  · have u_612 := hq_608.2.2.2.1 c_611
                    have u_613 := hq_608.2.2.2.2.1 c_611
                    refine lv_aload_n hx hb dX7_statement_208 rfl (lv_at hl 0 rfl) ?_
                    refine lv_dup hx hb dX7_statement_209 rfl ?_
                    refine va_get (D := D) (ci := 7) (v := .int (gi (C 0) 15)) (C := RX7) (T := TX7) (N := 29) hx hb htg ig_7 hown hK hP 0 (oh_wg (Nat.lt_of_lt_of_le (by decide) hn) (sM_0 hT)) rfl 15 (by decide) (htg _ q_988) (fun _ h9 => h9) (oh_fv (c := C_607 0) (j := 15) rfl (Eq.trans (congrArg vi (f_609.2 15 (by decide))) (congrArg vi (f_596.2 15 (by decide))))) dX7_statement_210 ?_
                    refine lv_iconst (v := 1) hx hb dX7_statement_213 (by decide) ?_
                    refine lv_iadd hx hb dX7_statement_214 ?_
                    refine th_put (Tp := TyM a E) (Rl := fr [(13, 14), (24, 48), (48, 64), (64, 69), (69, 74)] [9, 11, 13, 15, 21, 22, 23, 24, 25] C) (ci := 7) (v := .int ((gi (C 0) 15) + 1)) (ty := .int) (CC := RX7) (T := TX7) (N := 29) hx hb htg ig_7 tyX7 tyX7_ok nmX7 hown hK hP hD hS 0 (Nat.lt_of_lt_of_le (by decide) hn) (sM_0 hT) rfl 15 (by decide) (htg _ q_988) (fun _ h9 => h9) rfl (by decide +kernel) rfl rfl (Nat.le_of_ble_eq_true rfl) (hT.up 0 (by decide) ⟨rfl, (fM_0_7 hT), (fM_0_9 hT), (fM_0_11 hT), (fM_0_13 hT), (rg_w (rg_add (lo := 1) (hi := 5) (rn_ltu (u' := 4) (Int32.not_le.mp c_575) (fM_0_15 hT0) (rg_c (v := 5) (lo := 5) (hi := 5) (by decide)) (by decide)) (rg_c (v := 1) (lo := 1) (hi := 1) (by decide)) (by decide)) (by decide)), (fM_0_21 hT), (fM_0_23 hT)⟩) (fr_fd hF (sM_0 hT) (by decide)) dX7_statement_215 (fun C_614 H locs e_615 hT hF hP hD hS => ?_)
                    have t_616 := hT
                    refine lv_iconst (v := 1) hx hb dX7_statement_218 (by decide) ?_
                    have : (gi (C_607 0) 7).toInt = (gi (C_594 0) 7).toInt := congrArg (fun z => (vi z).toInt) (f_609.2 7 (by decide))
                    have : (gi (C_607 0) 13).toInt = (gi (C_594 0) 13).toInt := congrArg (fun z => (vi z).toInt) (f_609.2 13 (by decide))
                    have : (gi (C_614 0) 21).toInt = (gi (C_607 0) 21).toInt := congrArg Int32.toInt (show gi (C_614 0) 21 = gi (C_607 0) 21 by rw [e_615]; rfl)
                    have : (gi (C_614 0) 7).toInt = (gi (C_607 0) 7).toInt := congrArg Int32.toInt (show gi (C_614 0) 7 = gi (C_607 0) 7 by rw [e_615]; rfl)
                    have : (gi (C_614 0) 23).toInt = (gi (C_607 0) 23).toInt := congrArg Int32.toInt (show gi (C_614 0) 23 = gi (C_607 0) 23 by rw [e_615]; rfl)
                    have : (gi (C_614 0) 13).toInt = (gi (C_607 0) 13).toInt := congrArg Int32.toInt (show gi (C_614 0) 13 = gi (C_607 0) 13 by rw [e_615]; rfl)
                    have : 0 ≤ (gi (C_607 0) 21).toInt ∧ (gi (C_607 0) 21).toInt ≤ 250 := fM_0_21 t_610
                    have : 0 ≤ (gi (C_607 0) 7).toInt ∧ (gi (C_607 0) 7).toInt ≤ 250 := fM_0_7 t_610
                    have : 0 ≤ (gi (C_607 0) 23).toInt ∧ (gi (C_607 0) 23).toInt ≤ 250 := fM_0_23 t_610
                    have : 0 ≤ (gi (C_607 0) 13).toInt ∧ (gi (C_607 0) 13).toInt ≤ 5 := fM_0_13 t_610
                    have : 0 ≤ (gi (C_614 0) 21).toInt ∧ (gi (C_614 0) 21).toInt ≤ 250 := fM_0_21 t_616
                    have : 0 ≤ (gi (C_614 0) 7).toInt ∧ (gi (C_614 0) 7).toInt ≤ 250 := fM_0_7 t_616
                    have : 0 ≤ (gi (C_614 0) 23).toInt ∧ (gi (C_614 0) 23).toInt ≤ 250 := fM_0_23 t_616
                    have : 0 ≤ (gi (C_614 0) 13).toInt ∧ (gi (C_614 0) 13).toInt ≤ 5 := fM_0_13 t_616
                    rw [hQ]
                    exact W.zret (v := 1) (ty := .boolean) hx hb hr (by decide) (fun t ht hW => ⟨⟨1, C_614, rfl, ⟨hT, hF, ⟨(Or.inr rfl), ⟨(by omega), (by omega)⟩, (fun _ => (by omega)), (RelW.fr (RelW.fr (RelW.fr hR (fr_trk (mc := [(69, 74)]) (mf := [21, 22, 23, 24, 25]) fr_rf f_596 (inR_of (p := (69, 74)) (by decide) (by show 69 ≤ _; omega) (by show _ < 74; omega)) (by decide)) (by decide)) (fr_trk (mc := [(69, 74)]) (mf := [21, 22, 23, 24, 25]) fr_rf f_609 (inR_of (p := (69, 74)) (by decide) (by show 69 ≤ _; omega) (by show _ < 74; omega)) (by decide)) (by decide)) (fr_fde (mc := []) (mf := [15]) fr_rf e_615 (sM_0 t_610) (by decide)) (by decide)), (by omega), (absurd u_549.2 (XIs_x (i := 17) (by decide) (by decide) (by decide) u_371.2)), (fgF (j := 15) hq_608.2.2.2.2.2.2.2.1 e_615 (sM_0 t_610) (by decide)), (by omega)⟩⟩, ⟨by rw [ht]; exact hP, hD⟩⟩, hS.F ht⟩) hS.2.2 dX7_statement_219
                  · have u_617 := hq_608.2.2.2.2.2.1 c_611
                    have u_618 := hq_608.2.2.2.2.2.2.1 c_611
                    refine lv_iconst (v := 0) hx hb dX7_statement_206 (by decide) ?_
                    have : (gi (C_607 0) 7).toInt = (gi (C_594 0) 7).toInt := congrArg (fun z => (vi z).toInt) (f_609.2 7 (by decide))
                    have : (gi (C_607 0) 13).toInt = (gi (C_594 0) 13).toInt := congrArg (fun z => (vi z).toInt) (f_609.2 13 (by decide))
                    have : 0 ≤ (gi (C_607 0) 21).toInt ∧ (gi (C_607 0) 21).toInt ≤ 250 := fM_0_21 t_610
                    have : 0 ≤ (gi (C_607 0) 7).toInt ∧ (gi (C_607 0) 7).toInt ≤ 250 := fM_0_7 t_610
                    have : 0 ≤ (gi (C_607 0) 23).toInt ∧ (gi (C_607 0) 23).toInt ≤ 250 := fM_0_23 t_610
                    have : 0 ≤ (gi (C_607 0) 13).toInt ∧ (gi (C_607 0) 13).toInt ≤ 5 := fM_0_13 t_610
                    rw [hQ]
                    exact W.zret (v := 0) (ty := .boolean) hx hb hr (by decide) (fun t ht hW => ⟨⟨0, C_607, rfl, ⟨hT, hF, ⟨(Or.inl rfl), ⟨(by omega), hq_608.2.1.2⟩, (fun h9 => absurd rfl h9), (RelW.fr (RelW.fr hR (fr_trk (mc := [(69, 74)]) (mf := [21, 22, 23, 24, 25]) fr_rf f_596 (inR_of (p := (69, 74)) (by decide) (by show 69 ≤ _; omega) (by show _ < 74; omega)) (by decide)) (by decide)) (fr_trk (mc := [(69, 74)]) (mf := [21, 22, 23, 24, 25]) fr_rf f_609 (inR_of (p := (69, 74)) (by decide) (by show 69 ≤ _; omega) (by show _ < 74; omega)) (by decide)) (by decide)), (by omega), (absurd u_549.2 (XIs_x (i := 17) (by decide) (by decide) (by decide) u_371.2)), hq_608.2.2.2.2.2.2.2.1, hq_608.2.2.2.2.2.2.2.2⟩⟩, ⟨by rw [ht]; exact hP, hD⟩⟩, hS.F ht⟩) hS.2.2 dX7_statement_207
          · have u_619 := hq_552.2.1 c_553
            refine lv_aload_n hx hb dX7_statement_73 rfl (lv_at hl 0 rfl) ?_
            refine va_get (D := D) (ci := 7) (v := .int (gi (C 0) 13)) (C := RX7) (T := TX7) (N := 29) hx hb htg ig_7 hown hK hP 0 (oh_wg (Nat.lt_of_lt_of_le (by decide) hn) (sM_0 hT)) rfl 13 (by decide) (htg _ q_986) (fun _ h9 => h9) rfl dX7_statement_74 ?_
            refine lv_iconst (v := 5) hx hb dX7_statement_77 (by decide) ?_
            refine lv_icmp_ge (tgt := 147) hx hb dX7_statement_78 (by decide) (fun (c_620 : (5 : Int32) ≤ (gi (C 0) 13)) => ?_) (fun (c_620 : ¬ ((5 : Int32) ≤ (gi (C 0) 13))) => ?_)
            · refine lv_aload_n hx hb dX7_statement_147 rfl (lv_at hl 0 rfl) ?_
              refine va_ldcS hx hb hown (hG.2.2.1 ("OneHeavyLoadModel", 214, "part", 34) (List.mem_of_getElem? (i := 31) rfl)) dX7_statement_148 ?_
              refine tq_V (As := [.ref (G (3 + 31))]) (rest := []) (ws := (oh_W n a C)) ⟨hx, hb, hml, hown, htg⟩ (e_X7_isWord l D E G a C n hn hT 31 (by decide)) (cwV 1 htg (oh_gV q_1215 q_1217 q_41 q_73 q_1218) rfl rfl rfl pdVX7_isWord ⟨Nat.le_of_ble_eq_true rfl, Nat.le_of_ble_eq_true rfl⟩) hK hP hG hS (va_recv hK hP (ci := 7) (q0 := 0) rfl (oh_wg (Nat.lt_of_lt_of_le (by decide) hn) (sM_0 hT))) rfl hl.1 rfl (Nat.le_of_ble_eq_true rfl) dX7_statement_150 ⟨Nat.le_of_ble_eq_true rfl, Nat.le_of_ble_eq_true rfl⟩ (fun r_621 hq_622 => ?_)
              refine lv_if_eq (tgt := 220) hx hb dX7_statement_153 (by decide) (fun (c_623 : r_621 = 0) => ?_) (fun (c_623 : ¬ (r_621 = 0)) => ?_)
              · have u_624 := hq_622.2.2 c_623
                refine lv_aload_n hx hb dX7_statement_220 rfl (lv_at hl 0 rfl) ?_
                refine va_ldcS hx hb hown (hG.2.2.1 ("OneHeavyLoadModel", 215, "load", 35) (List.mem_of_getElem? (i := 32) rfl)) dX7_statement_221 ?_
                refine tq_V (As := [.ref (G (3 + 32))]) (rest := []) (ws := (oh_W n a C)) ⟨hx, hb, hml, hown, htg⟩ (e_X7_isWord l D E G a C n hn hT 32 (by decide)) (cwV 1 htg (oh_gV q_1215 q_1217 q_41 q_73 q_1218) rfl rfl rfl pdVX7_isWord ⟨Nat.le_of_ble_eq_true rfl, Nat.le_of_ble_eq_true rfl⟩) hK hP hG hS (va_recv hK hP (ci := 7) (q0 := 0) rfl (oh_wg (Nat.lt_of_lt_of_le (by decide) hn) (sM_0 hT))) rfl hl.1 rfl (Nat.le_of_ble_eq_true rfl) dX7_statement_223 ⟨Nat.le_of_ble_eq_true rfl, Nat.le_of_ble_eq_true rfl⟩ (fun r_625 hq_626 => ?_)
                refine lv_if_eq (tgt := 245) hx hb dX7_statement_226 (by decide) (fun (c_627 : r_625 = 0) => ?_) (fun (c_627 : ¬ (r_625 = 0)) => ?_)
                · have u_628 := hq_626.2.2 c_627
                  refine lv_aload_n hx hb dX7_statement_245 rfl (lv_at hl 0 rfl) ?_
                  refine va_ldcS hx hb hown (hG.2.2.1 ("OneHeavyLoadModel", 217, "mile", 36) (List.mem_of_getElem? (i := 33) rfl)) dX7_statement_246 ?_
                  refine lv_aload_n hx hb dX7_statement_248 rfl (lv_at hl 0 rfl) ?_
                  refine va_get (D := D) (ci := 7) (v := .ref (a 13)) (C := RX7) (T := TX7) (N := 29) hx hb htg ig_7 hown hK hP 0 (oh_wg (Nat.lt_of_lt_of_le (by decide) hn) (sM_0 hT)) rfl 17 (by decide) (htg _ q_990) (fun _ h9 => h9) rfl dX7_statement_249 ?_
                  refine lv_iconst (v := 1) hx hb dX7_statement_252 (by decide) ?_
                  refine lv_iconst (v := 0) hx hb dX7_statement_253 (by decide) ?_
                  refine lv_bipush (v := 99) hx hb dX7_statement_254 (by decide) ?_
                  have : 0 ≤ (gi (C 0) 21).toInt ∧ (gi (C 0) 21).toInt ≤ 250 := fM_0_21 hT0
                  have : 0 ≤ (gi (C 0) 7).toInt ∧ (gi (C 0) 7).toInt ≤ 250 := fM_0_7 hT0
                  have : 0 ≤ (gi (C 0) 23).toInt ∧ (gi (C 0) 23).toInt ≤ 250 := fM_0_23 hT0
                  have : 0 ≤ (gi (C 0) 13).toInt ∧ (gi (C 0) 13).toInt ≤ 5 := fM_0_13 hT0
                  have : (24 : Int32).toInt = 24 := rfl
                  have : (24 : Int32).toInt ≤ (gi (C 0) 9).toInt := Int32.le_iff_toInt_le.mp c_372
                  have : (16 : Int32).toInt = 16 := rfl
                  have : (16 : Int32).toInt ≤ (gi (C 0) 11).toInt := Int32.le_iff_toInt_le.mp c_550
                  have : (5 : Int32).toInt = 5 := rfl
                  have : (5 : Int32).toInt ≤ (gi (C 0) 13).toInt := Int32.le_iff_toInt_le.mp c_620
                  refine tm_V (As := [.ref (G (3 + 33)), .ref (a 13), .int 1, .int 0, .int 99]) (rest := []) ⟨hx, hb, hml, hown, htg⟩ (e_X7_told l D E G _ a C n hn hT 33 13 (1 : Int32) (0 : Int32) (99 : Int32) (by decide) (rg_w (rg_c (v := 0) (lo := 0) (hi := 0) (by decide)) (by decide)) (rg_w (rg_c (v := 99) (lo := 99) (hi := 99) (by decide)) (by decide)) ⟨(Nat.lt_of_lt_of_le (by decide) hn), (by decide), 3, fun C h => (sM_13 h), (rg_in (rg_c (v := 1) (lo := 1) (hi := 1) (by decide)) (by decide)), fun C v h h1 h2 => (h.up 13 (by decide) (tA_upd (tM_13 h) tA_any))⟩ (by omega) hfg (by omega) (by decide)) (cwV 5 htg (oh_gV q_1234 q_1236 q_45 q_73 q_1237) rfl rfl rfl pdVX7_told ⟨Nat.le_of_ble_eq_true rfl, Nat.le_of_ble_eq_true rfl⟩) hK hP hD hG hS hA (va_recv hK hP (ci := 7) (q0 := 0) rfl (oh_wg (Nat.lt_of_lt_of_le (by decide) hn) (sM_0 hT))) rfl hl.1 rfl (Nat.le_of_ble_eq_true rfl) dX7_statement_256 ⟨Nat.le_of_ble_eq_true rfl, Nat.le_of_ble_eq_true rfl⟩ (fun r_629 C_630 H locs hq_631 hP hD hS => ?_)
                  obtain ⟨hT, f_632, hq_631⟩ := hq_631
                  have hF := fr_trk hF f_632 (by decide) (by decide)
                  refine W.widen (k := 0) (n := 0) (Nat.le_refl _) (Nat.le_refl _) ?_
                  have t_633 := hT
                  have : (gi (C_630 0) 7).toInt = (gi (C 0) 7).toInt := congrArg (fun z => (vi z).toInt) (f_632.2 7 (by decide))
                  have : (gi (C_630 0) 13).toInt = (gi (C 0) 13).toInt := congrArg (fun z => (vi z).toInt) (f_632.2 13 (by decide))
                  have : 0 ≤ (gi (C_630 0) 21).toInt ∧ (gi (C_630 0) 21).toInt ≤ 250 := fM_0_21 t_633
                  have : 0 ≤ (gi (C_630 0) 7).toInt ∧ (gi (C_630 0) 7).toInt ≤ 250 := fM_0_7 t_633
                  have : 0 ≤ (gi (C_630 0) 23).toInt ∧ (gi (C_630 0) 23).toInt ≤ 250 := fM_0_23 t_633
                  have : 0 ≤ (gi (C_630 0) 13).toInt ∧ (gi (C_630 0) 13).toInt ≤ 5 := fM_0_13 t_633
                  rw [hQ]
                  exact W.zret (v := r_629) (ty := .boolean) hx hb hr (oh_nb hq_631.1) (fun t ht hW => ⟨⟨r_629, C_630, rfl, ⟨hT, hF, ⟨hq_631.1, ⟨hq_631.2.1.1, hq_631.2.1.2⟩, (fun h9 => (hq_631.2.2.2.2.1 h9)), (RelW.fr hR (fr_trk (mc := [(13, 14)]) (mf := [21, 22, 23, 24, 25]) fr_rf f_632 (by decide) (by decide)) (by decide)), (by omega), (absurd u_549.2 (XIs_x (i := 17) (by decide) (by decide) (by decide) u_371.2)), hq_631.2.2.2.2.2.2.2.2.1, hq_631.2.2.2.2.2.2.2.2.2⟩⟩, ⟨by rw [ht]; exact hP, hD⟩⟩, hS.F ht⟩) hS.2.2 dX7_statement_259
                · have u_634 := hq_626.2.1 c_627
                  refine lv_aload_n hx hb dX7_statement_229 rfl (lv_at hl 0 rfl) ?_
                  refine va_ldcS hx hb hown (hG.2.2.1 ("OneHeavyLoadModel", 215, "load", 35) (List.mem_of_getElem? (i := 32) rfl)) dX7_statement_230 ?_
                  refine lv_aload_n hx hb dX7_statement_232 rfl (lv_at hl 0 rfl) ?_
                  refine va_get (D := D) (ci := 7) (v := .ref (a 13)) (C := RX7) (T := TX7) (N := 29) hx hb htg ig_7 hown hK hP 0 (oh_wg (Nat.lt_of_lt_of_le (by decide) hn) (sM_0 hT)) rfl 17 (by decide) (htg _ q_990) (fun _ h9 => h9) rfl dX7_statement_233 ?_
                  refine lv_iconst (v := 0) hx hb dX7_statement_236 (by decide) ?_
                  refine lv_iconst (v := 0) hx hb dX7_statement_237 (by decide) ?_
                  refine lv_sipush (v := 900) hx hb dX7_statement_238 (by decide) ?_
                  have : 0 ≤ (gi (C 0) 21).toInt ∧ (gi (C 0) 21).toInt ≤ 250 := fM_0_21 hT0
                  have : 0 ≤ (gi (C 0) 7).toInt ∧ (gi (C 0) 7).toInt ≤ 250 := fM_0_7 hT0
                  have : 0 ≤ (gi (C 0) 23).toInt ∧ (gi (C 0) 23).toInt ≤ 250 := fM_0_23 hT0
                  have : 0 ≤ (gi (C 0) 13).toInt ∧ (gi (C 0) 13).toInt ≤ 5 := fM_0_13 hT0
                  have : (24 : Int32).toInt = 24 := rfl
                  have : (24 : Int32).toInt ≤ (gi (C 0) 9).toInt := Int32.le_iff_toInt_le.mp c_372
                  have : (16 : Int32).toInt = 16 := rfl
                  have : (16 : Int32).toInt ≤ (gi (C 0) 11).toInt := Int32.le_iff_toInt_le.mp c_550
                  have : (5 : Int32).toInt = 5 := rfl
                  have : (5 : Int32).toInt ≤ (gi (C 0) 13).toInt := Int32.le_iff_toInt_le.mp c_620
                  refine tm_V (As := [.ref (G (3 + 32)), .ref (a 13), .int 0, .int 0, .int 900]) (rest := []) ⟨hx, hb, hml, hown, htg⟩ (e_X7_told l D E G _ a C n hn hT 32 13 (0 : Int32) (0 : Int32) (900 : Int32) (by decide) (rg_w (rg_c (v := 0) (lo := 0) (hi := 0) (by decide)) (by decide)) (rg_w (rg_c (v := 900) (lo := 900) (hi := 900) (by decide)) (by decide)) ⟨(Nat.lt_of_lt_of_le (by decide) hn), (by decide), 3, fun C h => (sM_13 h), (rg_in (rg_c (v := 0) (lo := 0) (hi := 0) (by decide)) (by decide)), fun C v h h1 h2 => (h.up 13 (by decide) (tA_upd (tM_13 h) tA_any))⟩ (by omega) hfg (by omega) (by decide)) (cwV 5 htg (oh_gV q_1234 q_1236 q_45 q_73 q_1237) rfl rfl rfl pdVX7_told ⟨Nat.le_of_ble_eq_true rfl, Nat.le_of_ble_eq_true rfl⟩) hK hP hD hG hS hA (va_recv hK hP (ci := 7) (q0 := 0) rfl (oh_wg (Nat.lt_of_lt_of_le (by decide) hn) (sM_0 hT))) rfl hl.1 rfl (Nat.le_of_ble_eq_true rfl) dX7_statement_241 ⟨Nat.le_of_ble_eq_true rfl, Nat.le_of_ble_eq_true rfl⟩ (fun r_635 C_636 H locs hq_637 hP hD hS => ?_)
                  obtain ⟨hT, f_638, hq_637⟩ := hq_637
                  have hF := fr_trk hF f_638 (by decide) (by decide)
                  refine W.widen (k := 0) (n := 0) (Nat.le_refl _) (Nat.le_refl _) ?_
                  have t_639 := hT
                  have : (gi (C_636 0) 7).toInt = (gi (C 0) 7).toInt := congrArg (fun z => (vi z).toInt) (f_638.2 7 (by decide))
                  have : (gi (C_636 0) 13).toInt = (gi (C 0) 13).toInt := congrArg (fun z => (vi z).toInt) (f_638.2 13 (by decide))
                  have : 0 ≤ (gi (C_636 0) 21).toInt ∧ (gi (C_636 0) 21).toInt ≤ 250 := fM_0_21 t_639
                  have : 0 ≤ (gi (C_636 0) 7).toInt ∧ (gi (C_636 0) 7).toInt ≤ 250 := fM_0_7 t_639
                  have : 0 ≤ (gi (C_636 0) 23).toInt ∧ (gi (C_636 0) 23).toInt ≤ 250 := fM_0_23 t_639
                  have : 0 ≤ (gi (C_636 0) 13).toInt ∧ (gi (C_636 0) 13).toInt ≤ 5 := fM_0_13 t_639
                  rw [hQ]
                  exact W.zret (v := r_635) (ty := .boolean) hx hb hr (oh_nb hq_637.1) (fun t ht hW => ⟨⟨r_635, C_636, rfl, ⟨hT, hF, ⟨hq_637.1, ⟨hq_637.2.1.1, hq_637.2.1.2⟩, (fun h9 => (hq_637.2.2.2.2.1 h9)), (RelW.fr hR (fr_trk (mc := [(13, 14)]) (mf := [21, 22, 23, 24, 25]) fr_rf f_638 (by decide) (by decide)) (by decide)), (by omega), (absurd u_549.2 (XIs_x (i := 17) (by decide) (by decide) (by decide) u_371.2)), hq_637.2.2.2.2.2.2.2.2.1, hq_637.2.2.2.2.2.2.2.2.2⟩⟩, ⟨by rw [ht]; exact hP, hD⟩⟩, hS.F ht⟩) hS.2.2 dX7_statement_244
              · have u_640 := hq_622.2.1 c_623
                refine lv_aload_n hx hb dX7_statement_156 rfl (lv_at hl 0 rfl) ?_
                refine va_get (D := D) (ci := 7) (v := .int (gi (C 0) 15)) (C := RX7) (T := TX7) (N := 29) hx hb htg ig_7 hown hK hP 0 (oh_wg (Nat.lt_of_lt_of_le (by decide) hn) (sM_0 hT)) rfl 15 (by decide) (htg _ q_988) (fun _ h9 => h9) rfl dX7_statement_157 ?_
                refine lv_iconst (v := 5) hx hb dX7_statement_160 (by decide) ?_
                refine lv_icmp_ge (tgt := 220) hx hb dX7_statement_161 (by decide) (fun (c_641 : (5 : Int32) ≤ (gi (C 0) 15)) => ?_) (fun (c_641 : ¬ ((5 : Int32) ≤ (gi (C 0) 15))) => ?_)
                · refine lv_aload_n hx hb dX7_statement_220 rfl (lv_at hl 0 rfl) ?_
                  refine va_ldcS hx hb hown (hG.2.2.1 ("OneHeavyLoadModel", 215, "load", 35) (List.mem_of_getElem? (i := 32) rfl)) dX7_statement_221 ?_
                  refine tq_V (As := [.ref (G (3 + 32))]) (rest := []) (ws := (oh_W n a C)) ⟨hx, hb, hml, hown, htg⟩ (e_X7_isWord l D E G a C n hn hT 32 (by decide)) (cwV 1 htg (oh_gV q_1215 q_1217 q_41 q_73 q_1218) rfl rfl rfl pdVX7_isWord ⟨Nat.le_of_ble_eq_true rfl, Nat.le_of_ble_eq_true rfl⟩) hK hP hG hS (va_recv hK hP (ci := 7) (q0 := 0) rfl (oh_wg (Nat.lt_of_lt_of_le (by decide) hn) (sM_0 hT))) rfl hl.1 rfl (Nat.le_of_ble_eq_true rfl) dX7_statement_223 ⟨Nat.le_of_ble_eq_true rfl, Nat.le_of_ble_eq_true rfl⟩ (fun r_642 hq_643 => ?_)
                  refine lv_if_eq (tgt := 245) hx hb dX7_statement_226 (by decide) (fun (c_644 : r_642 = 0) => ?_) (fun (c_644 : ¬ (r_642 = 0)) => ?_)
                  · have u_645 := hq_643.2.2 c_644
                    refine lv_aload_n hx hb dX7_statement_245 rfl (lv_at hl 0 rfl) ?_
                    refine va_ldcS hx hb hown (hG.2.2.1 ("OneHeavyLoadModel", 217, "mile", 36) (List.mem_of_getElem? (i := 33) rfl)) dX7_statement_246 ?_
                    refine lv_aload_n hx hb dX7_statement_248 rfl (lv_at hl 0 rfl) ?_
                    refine va_get (D := D) (ci := 7) (v := .ref (a 13)) (C := RX7) (T := TX7) (N := 29) hx hb htg ig_7 hown hK hP 0 (oh_wg (Nat.lt_of_lt_of_le (by decide) hn) (sM_0 hT)) rfl 17 (by decide) (htg _ q_990) (fun _ h9 => h9) rfl dX7_statement_249 ?_
                    refine lv_iconst (v := 1) hx hb dX7_statement_252 (by decide) ?_
                    refine lv_iconst (v := 0) hx hb dX7_statement_253 (by decide) ?_
                    refine lv_bipush (v := 99) hx hb dX7_statement_254 (by decide) ?_
                    have : 0 ≤ (gi (C 0) 21).toInt ∧ (gi (C 0) 21).toInt ≤ 250 := fM_0_21 hT0
                    have : 0 ≤ (gi (C 0) 7).toInt ∧ (gi (C 0) 7).toInt ≤ 250 := fM_0_7 hT0
                    have : 0 ≤ (gi (C 0) 23).toInt ∧ (gi (C 0) 23).toInt ≤ 250 := fM_0_23 hT0
                    have : 0 ≤ (gi (C 0) 13).toInt ∧ (gi (C 0) 13).toInt ≤ 5 := fM_0_13 hT0
                    have : (24 : Int32).toInt = 24 := rfl
                    have : (24 : Int32).toInt ≤ (gi (C 0) 9).toInt := Int32.le_iff_toInt_le.mp c_372
                    have : (16 : Int32).toInt = 16 := rfl
                    have : (16 : Int32).toInt ≤ (gi (C 0) 11).toInt := Int32.le_iff_toInt_le.mp c_550
                    have : (5 : Int32).toInt = 5 := rfl
                    have : (5 : Int32).toInt ≤ (gi (C 0) 13).toInt := Int32.le_iff_toInt_le.mp c_620
                    have : (5 : Int32).toInt ≤ (gi (C 0) 15).toInt := Int32.le_iff_toInt_le.mp c_641
                    refine tm_V (As := [.ref (G (3 + 33)), .ref (a 13), .int 1, .int 0, .int 99]) (rest := []) ⟨hx, hb, hml, hown, htg⟩ (e_X7_told l D E G _ a C n hn hT 33 13 (1 : Int32) (0 : Int32) (99 : Int32) (by decide) (rg_w (rg_c (v := 0) (lo := 0) (hi := 0) (by decide)) (by decide)) (rg_w (rg_c (v := 99) (lo := 99) (hi := 99) (by decide)) (by decide)) ⟨(Nat.lt_of_lt_of_le (by decide) hn), (by decide), 3, fun C h => (sM_13 h), (rg_in (rg_c (v := 1) (lo := 1) (hi := 1) (by decide)) (by decide)), fun C v h h1 h2 => (h.up 13 (by decide) (tA_upd (tM_13 h) tA_any))⟩ (by omega) hfg (by omega) (by decide)) (cwV 5 htg (oh_gV q_1234 q_1236 q_45 q_73 q_1237) rfl rfl rfl pdVX7_told ⟨Nat.le_of_ble_eq_true rfl, Nat.le_of_ble_eq_true rfl⟩) hK hP hD hG hS hA (va_recv hK hP (ci := 7) (q0 := 0) rfl (oh_wg (Nat.lt_of_lt_of_le (by decide) hn) (sM_0 hT))) rfl hl.1 rfl (Nat.le_of_ble_eq_true rfl) dX7_statement_256 ⟨Nat.le_of_ble_eq_true rfl, Nat.le_of_ble_eq_true rfl⟩ (fun r_646 C_647 H locs hq_648 hP hD hS => ?_)
                    obtain ⟨hT, f_649, hq_648⟩ := hq_648
                    have hF := fr_trk hF f_649 (by decide) (by decide)
                    refine W.widen (k := 0) (n := 0) (Nat.le_refl _) (Nat.le_refl _) ?_
                    have t_650 := hT
                    have : (gi (C_647 0) 7).toInt = (gi (C 0) 7).toInt := congrArg (fun z => (vi z).toInt) (f_649.2 7 (by decide))
                    have : (gi (C_647 0) 13).toInt = (gi (C 0) 13).toInt := congrArg (fun z => (vi z).toInt) (f_649.2 13 (by decide))
                    have : 0 ≤ (gi (C_647 0) 21).toInt ∧ (gi (C_647 0) 21).toInt ≤ 250 := fM_0_21 t_650
                    have : 0 ≤ (gi (C_647 0) 7).toInt ∧ (gi (C_647 0) 7).toInt ≤ 250 := fM_0_7 t_650
                    have : 0 ≤ (gi (C_647 0) 23).toInt ∧ (gi (C_647 0) 23).toInt ≤ 250 := fM_0_23 t_650
                    have : 0 ≤ (gi (C_647 0) 13).toInt ∧ (gi (C_647 0) 13).toInt ≤ 5 := fM_0_13 t_650
                    rw [hQ]
                    exact W.zret (v := r_646) (ty := .boolean) hx hb hr (oh_nb hq_648.1) (fun t ht hW => ⟨⟨r_646, C_647, rfl, ⟨hT, hF, ⟨hq_648.1, ⟨hq_648.2.1.1, hq_648.2.1.2⟩, (fun h9 => (hq_648.2.2.2.2.1 h9)), (RelW.fr hR (fr_trk (mc := [(13, 14)]) (mf := [21, 22, 23, 24, 25]) fr_rf f_649 (by decide) (by decide)) (by decide)), (by omega), (absurd u_549.2 (XIs_x (i := 17) (by decide) (by decide) (by decide) u_371.2)), hq_648.2.2.2.2.2.2.2.2.1, hq_648.2.2.2.2.2.2.2.2.2⟩⟩, ⟨by rw [ht]; exact hP, hD⟩⟩, hS.F ht⟩) hS.2.2 dX7_statement_259
                  · have u_651 := hq_643.2.1 c_644
                    refine lv_aload_n hx hb dX7_statement_229 rfl (lv_at hl 0 rfl) ?_
                    refine va_ldcS hx hb hown (hG.2.2.1 ("OneHeavyLoadModel", 215, "load", 35) (List.mem_of_getElem? (i := 32) rfl)) dX7_statement_230 ?_
                    refine lv_aload_n hx hb dX7_statement_232 rfl (lv_at hl 0 rfl) ?_
                    refine va_get (D := D) (ci := 7) (v := .ref (a 13)) (C := RX7) (T := TX7) (N := 29) hx hb htg ig_7 hown hK hP 0 (oh_wg (Nat.lt_of_lt_of_le (by decide) hn) (sM_0 hT)) rfl 17 (by decide) (htg _ q_990) (fun _ h9 => h9) rfl dX7_statement_233 ?_
                    refine lv_iconst (v := 0) hx hb dX7_statement_236 (by decide) ?_
                    refine lv_iconst (v := 0) hx hb dX7_statement_237 (by decide) ?_
                    refine lv_sipush (v := 900) hx hb dX7_statement_238 (by decide) ?_
                    have : 0 ≤ (gi (C 0) 21).toInt ∧ (gi (C 0) 21).toInt ≤ 250 := fM_0_21 hT0
                    have : 0 ≤ (gi (C 0) 7).toInt ∧ (gi (C 0) 7).toInt ≤ 250 := fM_0_7 hT0
                    have : 0 ≤ (gi (C 0) 23).toInt ∧ (gi (C 0) 23).toInt ≤ 250 := fM_0_23 hT0
                    have : 0 ≤ (gi (C 0) 13).toInt ∧ (gi (C 0) 13).toInt ≤ 5 := fM_0_13 hT0
                    have : (24 : Int32).toInt = 24 := rfl
                    have : (24 : Int32).toInt ≤ (gi (C 0) 9).toInt := Int32.le_iff_toInt_le.mp c_372
                    have : (16 : Int32).toInt = 16 := rfl
                    have : (16 : Int32).toInt ≤ (gi (C 0) 11).toInt := Int32.le_iff_toInt_le.mp c_550
                    have : (5 : Int32).toInt = 5 := rfl
                    have : (5 : Int32).toInt ≤ (gi (C 0) 13).toInt := Int32.le_iff_toInt_le.mp c_620
                    have : (5 : Int32).toInt ≤ (gi (C 0) 15).toInt := Int32.le_iff_toInt_le.mp c_641
                    refine tm_V (As := [.ref (G (3 + 32)), .ref (a 13), .int 0, .int 0, .int 900]) (rest := []) ⟨hx, hb, hml, hown, htg⟩ (e_X7_told l D E G _ a C n hn hT 32 13 (0 : Int32) (0 : Int32) (900 : Int32) (by decide) (rg_w (rg_c (v := 0) (lo := 0) (hi := 0) (by decide)) (by decide)) (rg_w (rg_c (v := 900) (lo := 900) (hi := 900) (by decide)) (by decide)) ⟨(Nat.lt_of_lt_of_le (by decide) hn), (by decide), 3, fun C h => (sM_13 h), (rg_in (rg_c (v := 0) (lo := 0) (hi := 0) (by decide)) (by decide)), fun C v h h1 h2 => (h.up 13 (by decide) (tA_upd (tM_13 h) tA_any))⟩ (by omega) hfg (by omega) (by decide)) (cwV 5 htg (oh_gV q_1234 q_1236 q_45 q_73 q_1237) rfl rfl rfl pdVX7_told ⟨Nat.le_of_ble_eq_true rfl, Nat.le_of_ble_eq_true rfl⟩) hK hP hD hG hS hA (va_recv hK hP (ci := 7) (q0 := 0) rfl (oh_wg (Nat.lt_of_lt_of_le (by decide) hn) (sM_0 hT))) rfl hl.1 rfl (Nat.le_of_ble_eq_true rfl) dX7_statement_241 ⟨Nat.le_of_ble_eq_true rfl, Nat.le_of_ble_eq_true rfl⟩ (fun r_652 C_653 H locs hq_654 hP hD hS => ?_)
                    obtain ⟨hT, f_655, hq_654⟩ := hq_654
                    have hF := fr_trk hF f_655 (by decide) (by decide)
                    refine W.widen (k := 0) (n := 0) (Nat.le_refl _) (Nat.le_refl _) ?_
                    have t_656 := hT
                    have : (gi (C_653 0) 7).toInt = (gi (C 0) 7).toInt := congrArg (fun z => (vi z).toInt) (f_655.2 7 (by decide))
                    have : (gi (C_653 0) 13).toInt = (gi (C 0) 13).toInt := congrArg (fun z => (vi z).toInt) (f_655.2 13 (by decide))
                    have : 0 ≤ (gi (C_653 0) 21).toInt ∧ (gi (C_653 0) 21).toInt ≤ 250 := fM_0_21 t_656
                    have : 0 ≤ (gi (C_653 0) 7).toInt ∧ (gi (C_653 0) 7).toInt ≤ 250 := fM_0_7 t_656
                    have : 0 ≤ (gi (C_653 0) 23).toInt ∧ (gi (C_653 0) 23).toInt ≤ 250 := fM_0_23 t_656
                    have : 0 ≤ (gi (C_653 0) 13).toInt ∧ (gi (C_653 0) 13).toInt ≤ 5 := fM_0_13 t_656
                    rw [hQ]
                    exact W.zret (v := r_652) (ty := .boolean) hx hb hr (oh_nb hq_654.1) (fun t ht hW => ⟨⟨r_652, C_653, rfl, ⟨hT, hF, ⟨hq_654.1, ⟨hq_654.2.1.1, hq_654.2.1.2⟩, (fun h9 => (hq_654.2.2.2.2.1 h9)), (RelW.fr hR (fr_trk (mc := [(13, 14)]) (mf := [21, 22, 23, 24, 25]) fr_rf f_655 (by decide) (by decide)) (by decide)), (by omega), (absurd u_549.2 (XIs_x (i := 17) (by decide) (by decide) (by decide) u_371.2)), hq_654.2.2.2.2.2.2.2.2.1, hq_654.2.2.2.2.2.2.2.2.2⟩⟩, ⟨by rw [ht]; exact hP, hD⟩⟩, hS.F ht⟩) hS.2.2 dX7_statement_244
                · refine lv_aload_n hx hb dX7_statement_164 rfl (lv_at hl 0 rfl) ?_
                  refine va_ldcS hx hb hown (hG.2.2.1 ("OneHeavyLoadModel", 214, "part", 34) (List.mem_of_getElem? (i := 31) rfl)) dX7_statement_165 ?_
                  refine lv_aload_n hx hb dX7_statement_167 rfl (lv_at hl 0 rfl) ?_
                  refine va_get (D := D) (ci := 7) (v := .ref (a 12)) (C := RX7) (T := TX7) (N := 29) hx hb htg ig_7 hown hK hP 0 (oh_wg (Nat.lt_of_lt_of_le (by decide) hn) (sM_0 hT)) rfl 16 (by decide) (htg _ q_989) (fun _ h9 => h9) rfl dX7_statement_168 ?_
                  refine lv_aload_n hx hb dX7_statement_171 rfl (lv_at hl 0 rfl) ?_
                  refine va_get (D := D) (ci := 7) (v := .int (gi (C 0) 15)) (C := RX7) (T := TX7) (N := 29) hx hb htg ig_7 hown hK hP 0 (oh_wg (Nat.lt_of_lt_of_le (by decide) hn) (sM_0 hT)) rfl 15 (by decide) (htg _ q_988) (fun _ h9 => h9) rfl dX7_statement_172 ?_
                  have n_657 : vp_in (gi (C 0) 15) 5 := (rg_in (rn_ltu (u' := 4) (Int32.not_le.mp c_641) (fM_0_15 hT0) (rg_c (v := 5) (lo := 5) (hi := 5) (by decide)) (by decide)) (by decide))
                  have b_658 : (gi (C 0) 15).toNatClampNeg < 5 := vp_lt n_657
                  refine th_aald hx hb hK hP 12 2 (Nat.lt_of_lt_of_le (by decide) hn) (sM_12 hT) rfl n_657 dX7_statement_175 ?_
                  refine lv_iconst (v := 0) hx hb dX7_statement_176 (by decide) ?_
                  refine lv_iconst (v := 1) hx hb dX7_statement_177 (by decide) ?_
                  refine lv_bipush (v := 99) hx hb dX7_statement_178 (by decide) ?_
                  have : 0 ≤ (gi (C 0) 21).toInt ∧ (gi (C 0) 21).toInt ≤ 250 := fM_0_21 hT0
                  have : 0 ≤ (gi (C 0) 7).toInt ∧ (gi (C 0) 7).toInt ≤ 250 := fM_0_7 hT0
                  have : 0 ≤ (gi (C 0) 23).toInt ∧ (gi (C 0) 23).toInt ≤ 250 := fM_0_23 hT0
                  have : 0 ≤ (gi (C 0) 13).toInt ∧ (gi (C 0) 13).toInt ≤ 5 := fM_0_13 hT0
                  have : (24 : Int32).toInt = 24 := rfl
                  have : (24 : Int32).toInt ≤ (gi (C 0) 9).toInt := Int32.le_iff_toInt_le.mp c_372
                  have : (16 : Int32).toInt = 16 := rfl
                  have : (16 : Int32).toInt ≤ (gi (C 0) 11).toInt := Int32.le_iff_toInt_le.mp c_550
                  have : (5 : Int32).toInt = 5 := rfl
                  have : (5 : Int32).toInt ≤ (gi (C 0) 13).toInt := Int32.le_iff_toInt_le.mp c_620
                  have : (gi (C 0) 15).toInt < (5 : Int32).toInt := Int32.lt_iff_toInt_lt.mp (Int32.not_le.mp c_641)
                  refine tm_V (As := [.ref (G (3 + 31)), .ref (a (69 + (gi (C 0) 15).toNatClampNeg)), .int 0, .int 1, .int 99]) (rest := []) ⟨hx, hb, hml, hown, htg⟩ (e_X7_told l D E G _ a C n hn hT 31 (69 + (gi (C 0) 15).toNatClampNeg) (0 : Int32) (1 : Int32) (99 : Int32) (by decide) (rg_w (rg_c (v := 1) (lo := 1) (hi := 1) (by decide)) (by decide)) (rg_w (rg_c (v := 99) (lo := 99) (hi := 99) (by decide)) (by decide)) ⟨(lt_blk b_658 hn (by decide)), (by omega), 2, fun C h => (h.bpart b_658).1, (rg_in (rg_c (v := 0) (lo := 0) (hi := 0) (by decide)) (by decide)), fun C v h h1 h2 => (h.uppart b_658 (tA_upd (h.bpart b_658) tA_any))⟩ (by omega) hfg (by omega) (by omega)) (cwV 5 htg (oh_gV q_1234 q_1236 q_45 q_73 q_1237) rfl rfl rfl pdVX7_told ⟨Nat.le_of_ble_eq_true rfl, Nat.le_of_ble_eq_true rfl⟩) hK hP hD hG hS hA (va_recv hK hP (ci := 7) (q0 := 0) rfl (oh_wg (Nat.lt_of_lt_of_le (by decide) hn) (sM_0 hT))) rfl hl.1 rfl (Nat.le_of_ble_eq_true rfl) dX7_statement_180 ⟨Nat.le_of_ble_eq_true rfl, Nat.le_of_ble_eq_true rfl⟩ (fun r_659 C_660 H locs hq_661 hP hD hS => ?_)
                  obtain ⟨hT, f_662, hq_661⟩ := hq_661
                  have hF := fr_trk hF f_662 (inR_of (p := (69, 74)) (by decide) (by show 69 ≤ _; omega) (by show _ < 74; omega)) (by decide)
                  refine W.widen (k := 0) (n := 0) (Nat.le_refl _) (Nat.le_refl _) ?_
                  have t_663 := hT
                  refine lv_if_eq (tgt := 206) hx hb dX7_statement_183 (by decide) (fun (c_664 : r_659 = 0) => ?_) (fun (c_664 : ¬ (r_659 = 0)) => ?_)
                  · have u_665 := hq_661.2.2.2.2.2.2.1 c_664
                    have u_666 := hq_661.2.2.2.2.2.2.2.1 c_664
                    refine lv_iconst (v := 0) hx hb dX7_statement_206 (by decide) ?_
                    have : (gi (C_660 0) 7).toInt = (gi (C 0) 7).toInt := congrArg (fun z => (vi z).toInt) (f_662.2 7 (by decide))
                    have : (gi (C_660 0) 13).toInt = (gi (C 0) 13).toInt := congrArg (fun z => (vi z).toInt) (f_662.2 13 (by decide))
                    have : 0 ≤ (gi (C_660 0) 21).toInt ∧ (gi (C_660 0) 21).toInt ≤ 250 := fM_0_21 t_663
                    have : 0 ≤ (gi (C_660 0) 7).toInt ∧ (gi (C_660 0) 7).toInt ≤ 250 := fM_0_7 t_663
                    have : 0 ≤ (gi (C_660 0) 23).toInt ∧ (gi (C_660 0) 23).toInt ≤ 250 := fM_0_23 t_663
                    have : 0 ≤ (gi (C_660 0) 13).toInt ∧ (gi (C_660 0) 13).toInt ≤ 5 := fM_0_13 t_663
                    rw [hQ]
                    exact W.zret (v := 0) (ty := .boolean) hx hb hr (by decide) (fun t ht hW => ⟨⟨0, C_660, rfl, ⟨hT, hF, ⟨(Or.inl rfl), ⟨hq_661.2.1.1, hq_661.2.1.2⟩, (fun h9 => absurd rfl h9), (RelW.fr hR (fr_trk (mc := [(69, 74)]) (mf := [21, 22, 23, 24, 25]) fr_rf f_662 (inR_of (p := (69, 74)) (by decide) (by show 69 ≤ _; omega) (by show _ < 74; omega)) (by decide)) (by decide)), (by omega), (absurd u_549.2 (XIs_x (i := 17) (by decide) (by decide) (by decide) u_371.2)), hq_661.2.2.2.2.2.2.2.2.1, hq_661.2.2.2.2.2.2.2.2.2⟩⟩, ⟨by rw [ht]; exact hP, hD⟩⟩, hS.F ht⟩) hS.2.2 dX7_statement_207
                  · have u_667 := hq_661.2.2.2.1 c_664
                    have u_668 := hq_661.2.2.2.2.1 c_664
                    have u_669 := hq_661.2.2.2.2.2.1 c_664
                    refine lv_aload_n hx hb dX7_statement_186 rfl (lv_at hl 0 rfl) ?_
                    refine lv_aload_n hx hb dX7_statement_187 rfl (lv_at hl 0 rfl) ?_
                    refine va_get (D := D) (ci := 7) (v := .ref (a 12)) (C := RX7) (T := TX7) (N := 29) hx hb htg ig_7 hown hK hP 0 (oh_wg (Nat.lt_of_lt_of_le (by decide) hn) (sM_0 hT)) rfl 16 (by decide) (htg _ q_989) (fun _ h9 => h9) rfl dX7_statement_188 ?_
                    refine lv_aload_n hx hb dX7_statement_191 rfl (lv_at hl 0 rfl) ?_
                    refine va_get (D := D) (ci := 7) (v := .int (gi (C 0) 15)) (C := RX7) (T := TX7) (N := 29) hx hb htg ig_7 hown hK hP 0 (oh_wg (Nat.lt_of_lt_of_le (by decide) hn) (sM_0 hT)) rfl 15 (by decide) (htg _ q_988) (fun _ h9 => h9) (oh_fv (c := C_660 0) (j := 15) rfl (congrArg vi (f_662.2 15 (by decide)))) dX7_statement_192 ?_
                    have n_670 : vp_in (gi (C 0) 15) 5 := (rg_in (rn_ltu (u' := 4) (Int32.not_le.mp c_641) (fM_0_15 hT0) (rg_c (v := 5) (lo := 5) (hi := 5) (by decide)) (by decide)) (by decide))
                    have b_671 : (gi (C 0) 15).toNatClampNeg < 5 := vp_lt n_670
                    refine th_aald hx hb hK hP 12 2 (Nat.lt_of_lt_of_le (by decide) hn) (sM_12 hT) rfl n_670 dX7_statement_195 ?_
                    refine lv_iconst (v := 1) hx hb dX7_statement_196 (by decide) ?_
                    refine lv_iconst (v := 0) hx hb dX7_statement_197 (by decide) ?_
                    refine lv_bipush (v := 99) hx hb dX7_statement_198 (by decide) ?_
                    have : (gi (C_660 0) 7).toInt = (gi (C 0) 7).toInt := congrArg (fun z => (vi z).toInt) (f_662.2 7 (by decide))
                    have : (gi (C_660 0) 13).toInt = (gi (C 0) 13).toInt := congrArg (fun z => (vi z).toInt) (f_662.2 13 (by decide))
                    have : 0 ≤ (gi (C_660 0) 21).toInt ∧ (gi (C_660 0) 21).toInt ≤ 250 := fM_0_21 t_663
                    have : 0 ≤ (gi (C_660 0) 7).toInt ∧ (gi (C_660 0) 7).toInt ≤ 250 := fM_0_7 t_663
                    have : 0 ≤ (gi (C_660 0) 23).toInt ∧ (gi (C_660 0) 23).toInt ≤ 250 := fM_0_23 t_663
                    have : 0 ≤ (gi (C_660 0) 13).toInt ∧ (gi (C_660 0) 13).toInt ≤ 5 := fM_0_13 t_663
                    refine tm_V (As := [.ref (a (69 + (gi (C 0) 15).toNatClampNeg)), .int 1, .int 0, .int 99]) (rest := []) ⟨hx, hb, hml, hown, htg⟩ (e_X7_number l D E G _ a C_660 n hn hT (69 + (gi (C 0) 15).toNatClampNeg) (1 : Int32) (0 : Int32) (99 : Int32) (rg_w (rg_c (v := 0) (lo := 0) (hi := 0) (by decide)) (by decide)) (rg_w (rg_c (v := 99) (lo := 99) (hi := 99) (by decide)) (by decide)) ⟨(lt_blk b_671 hn (by decide)), (by omega), 2, fun C h => (h.bpart b_671).1, (rg_in (rg_c (v := 1) (lo := 1) (hi := 1) (by decide)) (by decide)), fun C v h h1 h2 => (h.uppart b_671 (tA_upd (h.bpart b_671) tA_any))⟩ (by omega) hq_661.2.2.2.2.2.2.2.2.1 (by omega) (by omega)) (cwV 4 htg (oh_gV q_1225 q_1227 q_43 q_73 q_1228) rfl rfl rfl pdVX7_number ⟨Nat.le_of_ble_eq_true rfl, Nat.le_of_ble_eq_true rfl⟩) hK hP hD hG hS hA (va_recv hK hP (ci := 7) (q0 := 0) rfl (oh_wg (Nat.lt_of_lt_of_le (by decide) hn) (sM_0 hT))) rfl hl.1 rfl (Nat.le_of_ble_eq_true rfl) dX7_statement_200 ⟨Nat.le_of_ble_eq_true rfl, Nat.le_of_ble_eq_true rfl⟩ (fun r_672 C_673 H locs hq_674 hP hD hS => ?_)
                    obtain ⟨hT, f_675, hq_674⟩ := hq_674
                    have hF := fr_trk hF f_675 (inR_of (p := (69, 74)) (by decide) (by show 69 ≤ _; omega) (by show _ < 74; omega)) (by decide)
                    refine W.widen (k := 0) (n := 0) (Nat.le_refl _) (Nat.le_refl _) ?_
                    have t_676 := hT
                    refine lv_if_ne (tgt := 208) hx hb dX7_statement_203 (by decide) (fun (c_677 : ¬ (r_672 = 0)) => ?_) (fun (c_677 : r_672 = 0) => ?_)
                    · have u_678 := hq_674.2.2.2.1 c_677
                      have u_679 := hq_674.2.2.2.2.1 c_677
                      refine lv_aload_n hx hb dX7_statement_208 rfl (lv_at hl 0 rfl) ?_
                      refine lv_dup hx hb dX7_statement_209 rfl ?_
                      refine va_get (D := D) (ci := 7) (v := .int (gi (C 0) 15)) (C := RX7) (T := TX7) (N := 29) hx hb htg ig_7 hown hK hP 0 (oh_wg (Nat.lt_of_lt_of_le (by decide) hn) (sM_0 hT)) rfl 15 (by decide) (htg _ q_988) (fun _ h9 => h9) (oh_fv (c := C_673 0) (j := 15) rfl (Eq.trans (congrArg vi (f_675.2 15 (by decide))) (congrArg vi (f_662.2 15 (by decide))))) dX7_statement_210 ?_
                      refine lv_iconst (v := 1) hx hb dX7_statement_213 (by decide) ?_
                      refine lv_iadd hx hb dX7_statement_214 ?_
                      refine th_put (Tp := TyM a E) (Rl := fr [(13, 14), (24, 48), (48, 64), (64, 69), (69, 74)] [9, 11, 13, 15, 21, 22, 23, 24, 25] C) (ci := 7) (v := .int ((gi (C 0) 15) + 1)) (ty := .int) (CC := RX7) (T := TX7) (N := 29) hx hb htg ig_7 tyX7 tyX7_ok nmX7 hown hK hP hD hS 0 (Nat.lt_of_lt_of_le (by decide) hn) (sM_0 hT) rfl 15 (by decide) (htg _ q_988) (fun _ h9 => h9) rfl (by decide +kernel) rfl rfl (Nat.le_of_ble_eq_true rfl) (hT.up 0 (by decide) ⟨rfl, (fM_0_7 hT), (fM_0_9 hT), (fM_0_11 hT), (fM_0_13 hT), (rg_w (rg_add (lo := 1) (hi := 5) (rn_ltu (u' := 4) (Int32.not_le.mp c_641) (fM_0_15 hT0) (rg_c (v := 5) (lo := 5) (hi := 5) (by decide)) (by decide)) (rg_c (v := 1) (lo := 1) (hi := 1) (by decide)) (by decide)) (by decide)), (fM_0_21 hT), (fM_0_23 hT)⟩) (fr_fd hF (sM_0 hT) (by decide)) dX7_statement_215 (fun C_680 H locs e_681 hT hF hP hD hS => ?_)
                      have t_682 := hT
                      refine lv_iconst (v := 1) hx hb dX7_statement_218 (by decide) ?_
                      have : (gi (C_673 0) 7).toInt = (gi (C_660 0) 7).toInt := congrArg (fun z => (vi z).toInt) (f_675.2 7 (by decide))
                      have : (gi (C_673 0) 13).toInt = (gi (C_660 0) 13).toInt := congrArg (fun z => (vi z).toInt) (f_675.2 13 (by decide))
                      have : (gi (C_680 0) 21).toInt = (gi (C_673 0) 21).toInt := congrArg Int32.toInt (show gi (C_680 0) 21 = gi (C_673 0) 21 by rw [e_681]; rfl)
                      have : (gi (C_680 0) 7).toInt = (gi (C_673 0) 7).toInt := congrArg Int32.toInt (show gi (C_680 0) 7 = gi (C_673 0) 7 by rw [e_681]; rfl)
                      have : (gi (C_680 0) 23).toInt = (gi (C_673 0) 23).toInt := congrArg Int32.toInt (show gi (C_680 0) 23 = gi (C_673 0) 23 by rw [e_681]; rfl)
                      have : (gi (C_680 0) 13).toInt = (gi (C_673 0) 13).toInt := congrArg Int32.toInt (show gi (C_680 0) 13 = gi (C_673 0) 13 by rw [e_681]; rfl)
                      have : 0 ≤ (gi (C_673 0) 21).toInt ∧ (gi (C_673 0) 21).toInt ≤ 250 := fM_0_21 t_676
                      have : 0 ≤ (gi (C_673 0) 7).toInt ∧ (gi (C_673 0) 7).toInt ≤ 250 := fM_0_7 t_676
                      have : 0 ≤ (gi (C_673 0) 23).toInt ∧ (gi (C_673 0) 23).toInt ≤ 250 := fM_0_23 t_676
                      have : 0 ≤ (gi (C_673 0) 13).toInt ∧ (gi (C_673 0) 13).toInt ≤ 5 := fM_0_13 t_676
                      have : 0 ≤ (gi (C_680 0) 21).toInt ∧ (gi (C_680 0) 21).toInt ≤ 250 := fM_0_21 t_682
                      have : 0 ≤ (gi (C_680 0) 7).toInt ∧ (gi (C_680 0) 7).toInt ≤ 250 := fM_0_7 t_682
                      have : 0 ≤ (gi (C_680 0) 23).toInt ∧ (gi (C_680 0) 23).toInt ≤ 250 := fM_0_23 t_682
                      have : 0 ≤ (gi (C_680 0) 13).toInt ∧ (gi (C_680 0) 13).toInt ≤ 5 := fM_0_13 t_682
                      rw [hQ]
                      exact W.zret (v := 1) (ty := .boolean) hx hb hr (by decide) (fun t ht hW => ⟨⟨1, C_680, rfl, ⟨hT, hF, ⟨(Or.inr rfl), ⟨(by omega), (by omega)⟩, (fun _ => (by omega)), (RelW.fr (RelW.fr (RelW.fr hR (fr_trk (mc := [(69, 74)]) (mf := [21, 22, 23, 24, 25]) fr_rf f_662 (inR_of (p := (69, 74)) (by decide) (by show 69 ≤ _; omega) (by show _ < 74; omega)) (by decide)) (by decide)) (fr_trk (mc := [(69, 74)]) (mf := [21, 22, 23, 24, 25]) fr_rf f_675 (inR_of (p := (69, 74)) (by decide) (by show 69 ≤ _; omega) (by show _ < 74; omega)) (by decide)) (by decide)) (fr_fde (mc := []) (mf := [15]) fr_rf e_681 (sM_0 t_676) (by decide)) (by decide)), (by omega), (absurd u_549.2 (XIs_x (i := 17) (by decide) (by decide) (by decide) u_371.2)), (fgF (j := 15) hq_674.2.2.2.2.2.2.2.1 e_681 (sM_0 t_676) (by decide)), (by omega)⟩⟩, ⟨by rw [ht]; exact hP, hD⟩⟩, hS.F ht⟩) hS.2.2 dX7_statement_219
                    · have u_683 := hq_674.2.2.2.2.2.1 c_677
                      have u_684 := hq_674.2.2.2.2.2.2.1 c_677
                      refine lv_iconst (v := 0) hx hb dX7_statement_206 (by decide) ?_
                      have : (gi (C_673 0) 7).toInt = (gi (C_660 0) 7).toInt := congrArg (fun z => (vi z).toInt) (f_675.2 7 (by decide))
                      have : (gi (C_673 0) 13).toInt = (gi (C_660 0) 13).toInt := congrArg (fun z => (vi z).toInt) (f_675.2 13 (by decide))
                      have : 0 ≤ (gi (C_673 0) 21).toInt ∧ (gi (C_673 0) 21).toInt ≤ 250 := fM_0_21 t_676
                      have : 0 ≤ (gi (C_673 0) 7).toInt ∧ (gi (C_673 0) 7).toInt ≤ 250 := fM_0_7 t_676
                      have : 0 ≤ (gi (C_673 0) 23).toInt ∧ (gi (C_673 0) 23).toInt ≤ 250 := fM_0_23 t_676
                      have : 0 ≤ (gi (C_673 0) 13).toInt ∧ (gi (C_673 0) 13).toInt ≤ 5 := fM_0_13 t_676
                      rw [hQ]
                      exact W.zret (v := 0) (ty := .boolean) hx hb hr (by decide) (fun t ht hW => ⟨⟨0, C_673, rfl, ⟨hT, hF, ⟨(Or.inl rfl), ⟨(by omega), hq_674.2.1.2⟩, (fun h9 => absurd rfl h9), (RelW.fr (RelW.fr hR (fr_trk (mc := [(69, 74)]) (mf := [21, 22, 23, 24, 25]) fr_rf f_662 (inR_of (p := (69, 74)) (by decide) (by show 69 ≤ _; omega) (by show _ < 74; omega)) (by decide)) (by decide)) (fr_trk (mc := [(69, 74)]) (mf := [21, 22, 23, 24, 25]) fr_rf f_675 (inR_of (p := (69, 74)) (by decide) (by show 69 ≤ _; omega) (by show _ < 74; omega)) (by decide)) (by decide)), (by omega), (absurd u_549.2 (XIs_x (i := 17) (by decide) (by decide) (by decide) u_371.2)), hq_674.2.2.2.2.2.2.2.1, hq_674.2.2.2.2.2.2.2.2⟩⟩, ⟨by rw [ht]; exact hP, hD⟩⟩, hS.F ht⟩) hS.2.2 dX7_statement_207
            · refine lv_aload_n hx hb dX7_statement_81 rfl (lv_at hl 0 rfl) ?_
              refine va_get (D := D) (ci := 7) (v := .ref (a 11)) (C := RX7) (T := TX7) (N := 29) hx hb htg ig_7 hown hK hP 0 (oh_wg (Nat.lt_of_lt_of_le (by decide) hn) (sM_0 hT)) rfl 14 (by decide) (htg _ q_987) (fun _ h9 => h9) rfl dX7_statement_82 ?_
              refine lv_aload_n hx hb dX7_statement_85 rfl (lv_at hl 0 rfl) ?_
              refine va_get (D := D) (ci := 7) (v := .int (gi (C 0) 13)) (C := RX7) (T := TX7) (N := 29) hx hb htg ig_7 hown hK hP 0 (oh_wg (Nat.lt_of_lt_of_le (by decide) hn) (sM_0 hT)) rfl 13 (by decide) (htg _ q_986) (fun _ h9 => h9) rfl dX7_statement_86 ?_
              have n_685 : vp_in (gi (C 0) 13) 5 := (rg_in (rn_ltu (u' := 4) (Int32.not_le.mp c_620) (fM_0_13 hT0) (rg_c (v := 5) (lo := 5) (hi := 5) (by decide)) (by decide)) (by decide))
              have b_686 : (gi (C 0) 13).toNatClampNeg < 5 := vp_lt n_685
              refine th_aald hx hb hK hP 11 2 (Nat.lt_of_lt_of_le (by decide) hn) (sM_11 hT) rfl n_685 dX7_statement_89 ?_
              refine lv_astore_n (lv' := [(1, .ref (a (64 + (gi (C 0) 13).toNatClampNeg))), (0, .ref (a 0))]) hx hb dX7_statement_90 rfl hl (by decide) rfl (fun ls hl => ?_)
              refine lv_aload_n hx hb dX7_statement_91 rfl (lv_at hl 1 rfl) ?_
              refine va_ldcS hx hb hown (hG.2.2.1 ("OneHeavyLoadModel", 209, "waggon", 31) (List.mem_of_getElem? (i := 28) rfl)) dX7_statement_92 ?_
              refine lv_aload_n hx hb dX7_statement_94 rfl (lv_at hl 0 rfl) ?_
              refine lv_iconst (v := 0) hx hb dX7_statement_95 (by decide) ?_
              refine lv_iconst (v := 2) hx hb dX7_statement_96 (by decide) ?_
              refine lv_bipush (v := 12) hx hb dX7_statement_97 (by decide) ?_
              have : 0 ≤ (gi (C 0) 21).toInt ∧ (gi (C 0) 21).toInt ≤ 250 := fM_0_21 hT0
              have : 0 ≤ (gi (C 0) 7).toInt ∧ (gi (C 0) 7).toInt ≤ 250 := fM_0_7 hT0
              have : 0 ≤ (gi (C 0) 23).toInt ∧ (gi (C 0) 23).toInt ≤ 250 := fM_0_23 hT0
              have : 0 ≤ (gi (C 0) 13).toInt ∧ (gi (C 0) 13).toInt ≤ 5 := fM_0_13 hT0
              have : (24 : Int32).toInt = 24 := rfl
              have : (24 : Int32).toInt ≤ (gi (C 0) 9).toInt := Int32.le_iff_toInt_le.mp c_372
              have : (16 : Int32).toInt = 16 := rfl
              have : (16 : Int32).toInt ≤ (gi (C 0) 11).toInt := Int32.le_iff_toInt_le.mp c_550
              have : (5 : Int32).toInt = 5 := rfl
              have : (gi (C 0) 13).toInt < (5 : Int32).toInt := Int32.lt_iff_toInt_lt.mp (Int32.not_le.mp c_620)
              refine tm_V (As := [.ref (G (3 + 28)), .ref (a (64 + (gi (C 0) 13).toNatClampNeg)), .int 0, .int 2, .int 12]) (rest := []) ⟨hx, hb, hml, hown, htg⟩ (e_X7_told l D E G _ a C n hn hT 28 (64 + (gi (C 0) 13).toNatClampNeg) (0 : Int32) (2 : Int32) (12 : Int32) (by decide) (rg_w (rg_c (v := 2) (lo := 2) (hi := 2) (by decide)) (by decide)) (rg_w (rg_c (v := 12) (lo := 12) (hi := 12) (by decide)) (by decide)) ⟨(lt_blk b_686 hn (by decide)), (by omega), 3, fun C h => (h.bwaggon b_686).1, (rg_in (rg_c (v := 0) (lo := 0) (hi := 0) (by decide)) (by decide)), fun C v h h1 h2 => (h.upwaggon b_686 (tA_upd (h.bwaggon b_686) (tA_stc (k := 0) (by decide) (oh_rgle (lo := 0) (hi := 12) h1 h2 (by decide)) (by decide))))⟩ (by omega) hfg (by omega) (by omega)) (cwV 5 htg (oh_gV q_1234 q_1236 q_45 q_73 q_1237) rfl rfl rfl pdVX7_told ⟨Nat.le_of_ble_eq_true rfl, Nat.le_of_ble_eq_true rfl⟩) hK hP hD hG hS hA (va_recv hK hP (ci := 7) (q0 := 0) rfl (oh_wg (Nat.lt_of_lt_of_le (by decide) hn) (sM_0 hT))) rfl hl.1 rfl (Nat.le_of_ble_eq_true rfl) dX7_statement_99 ⟨Nat.le_of_ble_eq_true rfl, Nat.le_of_ble_eq_true rfl⟩ (fun r_687 C_688 H locs hq_689 hP hD hS => ?_)
              obtain ⟨hT, f_690, hq_689⟩ := hq_689
              have hF := fr_trk hF f_690 (inR_of (p := (64, 69)) (by decide) (by show 64 ≤ _; omega) (by show _ < 69; omega)) (by decide)
              refine W.widen (k := 0) (n := 0) (Nat.le_refl _) (Nat.le_refl _) ?_
              have t_691 := hT
              refine lv_if_eq (tgt := 133) hx hb dX7_statement_102 (by decide) (fun (c_692 : r_687 = 0) => ?_) (fun (c_692 : ¬ (r_687 = 0)) => ?_)
              · have u_693 := hq_689.2.2.2.2.2.2.1 c_692
                have u_694 := hq_689.2.2.2.2.2.2.2.1 c_692
                refine lv_iconst (v := 0) hx hb dX7_statement_133 (by decide) ?_
                have : (gi (C_688 0) 7).toInt = (gi (C 0) 7).toInt := congrArg (fun z => (vi z).toInt) (f_690.2 7 (by decide))
                have : (gi (C_688 0) 13).toInt = (gi (C 0) 13).toInt := congrArg (fun z => (vi z).toInt) (f_690.2 13 (by decide))
                have : 0 ≤ (gi (C_688 0) 21).toInt ∧ (gi (C_688 0) 21).toInt ≤ 250 := fM_0_21 t_691
                have : 0 ≤ (gi (C_688 0) 7).toInt ∧ (gi (C_688 0) 7).toInt ≤ 250 := fM_0_7 t_691
                have : 0 ≤ (gi (C_688 0) 23).toInt ∧ (gi (C_688 0) 23).toInt ≤ 250 := fM_0_23 t_691
                have : 0 ≤ (gi (C_688 0) 13).toInt ∧ (gi (C_688 0) 13).toInt ≤ 5 := fM_0_13 t_691
                rw [hQ]
                exact W.zret (v := 0) (ty := .boolean) hx hb hr (by decide) (fun t ht hW => ⟨⟨0, C_688, rfl, ⟨hT, hF, ⟨(Or.inl rfl), ⟨hq_689.2.1.1, hq_689.2.1.2⟩, (fun h9 => absurd rfl h9), (relW_row (w := (gi (C 0) 13).toNatClampNeg) hR f_690 (oh_nat (fM_0_13 hT0) (by decide)) (by decide)), (by omega), (absurd u_549.2 (XIs_x (i := 17) (by decide) (by decide) (by decide) u_371.2)), hq_689.2.2.2.2.2.2.2.2.1, hq_689.2.2.2.2.2.2.2.2.2⟩⟩, ⟨by rw [ht]; exact hP, hD⟩⟩, hS.F ht⟩) hS.2.2 dX7_statement_134
              · have u_695 := hq_689.2.2.2.1 c_692
                have u_696 := hq_689.2.2.2.2.1 c_692
                have u_697 := hq_689.2.2.2.2.2.1 c_692
                refine lv_aload_n hx hb dX7_statement_105 rfl (lv_at hl 1 rfl) ?_
                refine va_ldcS hx hb hown (hG.2.2.1 ("OneHeavyLoadModel", 210, "space", 32) (List.mem_of_getElem? (i := 29) rfl)) dX7_statement_106 ?_
                refine lv_aload_n hx hb dX7_statement_108 rfl (lv_at hl 0 rfl) ?_
                refine lv_iconst (v := 1) hx hb dX7_statement_109 (by decide) ?_
                refine lv_iconst (v := 1) hx hb dX7_statement_110 (by decide) ?_
                refine lv_bipush (v := 9) hx hb dX7_statement_111 (by decide) ?_
                have : (gi (C_688 0) 7).toInt = (gi (C 0) 7).toInt := congrArg (fun z => (vi z).toInt) (f_690.2 7 (by decide))
                have : (gi (C_688 0) 13).toInt = (gi (C 0) 13).toInt := congrArg (fun z => (vi z).toInt) (f_690.2 13 (by decide))
                have : 0 ≤ (gi (C_688 0) 21).toInt ∧ (gi (C_688 0) 21).toInt ≤ 250 := fM_0_21 t_691
                have : 0 ≤ (gi (C_688 0) 7).toInt ∧ (gi (C_688 0) 7).toInt ≤ 250 := fM_0_7 t_691
                have : 0 ≤ (gi (C_688 0) 23).toInt ∧ (gi (C_688 0) 23).toInt ≤ 250 := fM_0_23 t_691
                have : 0 ≤ (gi (C_688 0) 13).toInt ∧ (gi (C_688 0) 13).toInt ≤ 5 := fM_0_13 t_691
                refine tm_V (As := [.ref (G (3 + 29)), .ref (a (64 + (gi (C 0) 13).toNatClampNeg)), .int 1, .int 1, .int 9]) (rest := []) ⟨hx, hb, hml, hown, htg⟩ (e_X7_told l D E G _ a C_688 n hn hT 29 (64 + (gi (C 0) 13).toNatClampNeg) (1 : Int32) (1 : Int32) (9 : Int32) (by decide) (rg_w (rg_c (v := 1) (lo := 1) (hi := 1) (by decide)) (by decide)) (rg_w (rg_c (v := 9) (lo := 9) (hi := 9) (by decide)) (by decide)) ⟨(lt_blk b_686 hn (by decide)), (by omega), 3, fun C h => (h.bwaggon b_686).1, (rg_in (rg_c (v := 1) (lo := 1) (hi := 1) (by decide)) (by decide)), fun C v h h1 h2 => (h.upwaggon b_686 (tA_upd (h.bwaggon b_686) (tA_stc (k := 1) (by decide) (oh_rgle (lo := 0) (hi := 9) h1 h2 (by decide)) (by decide))))⟩ (by omega) hq_689.2.2.2.2.2.2.2.2.1 (by omega) (by omega)) (cwV 5 htg (oh_gV q_1234 q_1236 q_45 q_73 q_1237) rfl rfl rfl pdVX7_told ⟨Nat.le_of_ble_eq_true rfl, Nat.le_of_ble_eq_true rfl⟩) hK hP hD hG hS hA (va_recv hK hP (ci := 7) (q0 := 0) rfl (oh_wg (Nat.lt_of_lt_of_le (by decide) hn) (sM_0 hT))) rfl hl.1 rfl (Nat.le_of_ble_eq_true rfl) dX7_statement_113 ⟨Nat.le_of_ble_eq_true rfl, Nat.le_of_ble_eq_true rfl⟩ (fun r_698 C_699 H locs hq_700 hP hD hS => ?_)
                obtain ⟨hT, f_701, hq_700⟩ := hq_700
                have hF := fr_trk hF f_701 (inR_of (p := (64, 69)) (by decide) (by show 64 ≤ _; omega) (by show _ < 69; omega)) (by decide)
                refine W.widen (k := 0) (n := 0) (Nat.le_refl _) (Nat.le_refl _) ?_
                have t_702 := hT
                refine lv_if_eq (tgt := 133) hx hb dX7_statement_116 (by decide) (fun (c_703 : r_698 = 0) => ?_) (fun (c_703 : ¬ (r_698 = 0)) => ?_)
                · have u_704 := hq_700.2.2.2.2.2.2.1 c_703
                  have u_705 := hq_700.2.2.2.2.2.2.2.1 c_703
                  refine lv_iconst (v := 0) hx hb dX7_statement_133 (by decide) ?_
                  have : (gi (C_699 0) 7).toInt = (gi (C_688 0) 7).toInt := congrArg (fun z => (vi z).toInt) (f_701.2 7 (by decide))
                  have : (gi (C_699 0) 13).toInt = (gi (C_688 0) 13).toInt := congrArg (fun z => (vi z).toInt) (f_701.2 13 (by decide))
                  have : 0 ≤ (gi (C_699 0) 21).toInt ∧ (gi (C_699 0) 21).toInt ≤ 250 := fM_0_21 t_702
                  have : 0 ≤ (gi (C_699 0) 7).toInt ∧ (gi (C_699 0) 7).toInt ≤ 250 := fM_0_7 t_702
                  have : 0 ≤ (gi (C_699 0) 23).toInt ∧ (gi (C_699 0) 23).toInt ≤ 250 := fM_0_23 t_702
                  have : 0 ≤ (gi (C_699 0) 13).toInt ∧ (gi (C_699 0) 13).toInt ≤ 5 := fM_0_13 t_702
                  rw [hQ]
                  exact W.zret (v := 0) (ty := .boolean) hx hb hr (by decide) (fun t ht hW => ⟨⟨0, C_699, rfl, ⟨hT, hF, ⟨(Or.inl rfl), ⟨(by omega), hq_700.2.1.2⟩, (fun h9 => absurd rfl h9), (relW_row (w := (gi (C 0) 13).toNatClampNeg) (relW_row (w := (gi (C 0) 13).toNatClampNeg) hR f_690 (oh_nat (fM_0_13 hT0) (by decide)) (by decide)) f_701 (by rw [(show gi (C_688 0) 13 = gi (C 0) 13 from congrArg vi (f_690.2 13 (by decide)))]; exact oh_nat (fM_0_13 hT0) (by decide)) (by decide)), (by omega), (absurd u_549.2 (XIs_x (i := 17) (by decide) (by decide) (by decide) u_371.2)), hq_700.2.2.2.2.2.2.2.2.1, hq_700.2.2.2.2.2.2.2.2.2⟩⟩, ⟨by rw [ht]; exact hP, hD⟩⟩, hS.F ht⟩) hS.2.2 dX7_statement_134
                · have u_706 := hq_700.2.2.2.1 c_703
                  have u_707 := hq_700.2.2.2.2.1 c_703
                  have u_708 := hq_700.2.2.2.2.2.1 c_703
                  refine lv_aload_n hx hb dX7_statement_119 rfl (lv_at hl 1 rfl) ?_
                  refine va_ldcS hx hb hown (hG.2.2.1 ("OneHeavyLoadModel", 212, "tare", 33) (List.mem_of_getElem? (i := 30) rfl)) dX7_statement_120 ?_
                  refine lv_aload_n hx hb dX7_statement_122 rfl (lv_at hl 0 rfl) ?_
                  refine lv_iconst (v := 2) hx hb dX7_statement_123 (by decide) ?_
                  refine lv_iconst (v := 0) hx hb dX7_statement_124 (by decide) ?_
                  refine lv_bipush (v := 99) hx hb dX7_statement_125 (by decide) ?_
                  have : (gi (C_699 0) 7).toInt = (gi (C_688 0) 7).toInt := congrArg (fun z => (vi z).toInt) (f_701.2 7 (by decide))
                  have : (gi (C_699 0) 13).toInt = (gi (C_688 0) 13).toInt := congrArg (fun z => (vi z).toInt) (f_701.2 13 (by decide))
                  have : 0 ≤ (gi (C_699 0) 21).toInt ∧ (gi (C_699 0) 21).toInt ≤ 250 := fM_0_21 t_702
                  have : 0 ≤ (gi (C_699 0) 7).toInt ∧ (gi (C_699 0) 7).toInt ≤ 250 := fM_0_7 t_702
                  have : 0 ≤ (gi (C_699 0) 23).toInt ∧ (gi (C_699 0) 23).toInt ≤ 250 := fM_0_23 t_702
                  have : 0 ≤ (gi (C_699 0) 13).toInt ∧ (gi (C_699 0) 13).toInt ≤ 5 := fM_0_13 t_702
                  refine tm_V (As := [.ref (G (3 + 30)), .ref (a (64 + (gi (C 0) 13).toNatClampNeg)), .int 2, .int 0, .int 99]) (rest := []) ⟨hx, hb, hml, hown, htg⟩ (e_X7_told l D E G _ a C_699 n hn hT 30 (64 + (gi (C 0) 13).toNatClampNeg) (2 : Int32) (0 : Int32) (99 : Int32) (by decide) (rg_w (rg_c (v := 0) (lo := 0) (hi := 0) (by decide)) (by decide)) (rg_w (rg_c (v := 99) (lo := 99) (hi := 99) (by decide)) (by decide)) ⟨(lt_blk b_686 hn (by decide)), (by omega), 3, fun C h => (h.bwaggon b_686).1, (rg_in (rg_c (v := 2) (lo := 2) (hi := 2) (by decide)) (by decide)), fun C v h h1 h2 => (h.upwaggon b_686 (tA_upd (h.bwaggon b_686) (tA_stc (k := 2) (by decide) (rg_any _) (by decide))))⟩ (by omega) hq_700.2.2.2.2.2.2.2.2.1 (by omega) (by omega)) (cwV 5 htg (oh_gV q_1234 q_1236 q_45 q_73 q_1237) rfl rfl rfl pdVX7_told ⟨Nat.le_of_ble_eq_true rfl, Nat.le_of_ble_eq_true rfl⟩) hK hP hD hG hS hA (va_recv hK hP (ci := 7) (q0 := 0) rfl (oh_wg (Nat.lt_of_lt_of_le (by decide) hn) (sM_0 hT))) rfl hl.1 rfl (Nat.le_of_ble_eq_true rfl) dX7_statement_127 ⟨Nat.le_of_ble_eq_true rfl, Nat.le_of_ble_eq_true rfl⟩ (fun r_709 C_710 H locs hq_711 hP hD hS => ?_)
                  obtain ⟨hT, f_712, hq_711⟩ := hq_711
                  have hF := fr_trk hF f_712 (inR_of (p := (64, 69)) (by decide) (by show 64 ≤ _; omega) (by show _ < 69; omega)) (by decide)
                  refine W.widen (k := 0) (n := 0) (Nat.le_refl _) (Nat.le_refl _) ?_
                  have t_713 := hT
                  refine lv_if_ne (tgt := 135) hx hb dX7_statement_130 (by decide) (fun (c_714 : ¬ (r_709 = 0)) => ?_) (fun (c_714 : r_709 = 0) => ?_)
                  · have u_715 := hq_711.2.2.2.1 c_714
                    have u_716 := hq_711.2.2.2.2.1 c_714
                    have u_717 := hq_711.2.2.2.2.2.1 c_714
                    refine lv_aload_n hx hb dX7_statement_135 rfl (lv_at hl 1 rfl) ?_
                    refine lv_dup hx hb dX7_statement_136 rfl ?_
                    refine va_get (D := D) (ci := 7) (v := .int (gi (C 0) 13)) (C := RX7) (T := TX7) (N := 29) hx hb htg ig_7 hown hK hP 0 (oh_wg (Nat.lt_of_lt_of_le (by decide) hn) (sM_0 hT)) rfl 13 (by decide) (htg _ q_986) (fun _ h9 => h9) (oh_fv (c := C_710 0) (j := 13) rfl (Eq.trans (congrArg vi (f_712.2 13 (by decide))) (Eq.trans (congrArg vi (f_701.2 13 (by decide))) (congrArg vi (f_690.2 13 (by decide)))))) dX7_statement_137 ?_
                    refine lv_iconst (v := 1) hx hb dX7_statement_140 (by decide) ?_
                    refine lv_iadd hx hb dX7_statement_141 ?_
                    refine th_put (Tp := TyM a E) (Rl := fr [(13, 14), (24, 48), (48, 64), (64, 69), (69, 74)] [9, 11, 13, 15, 21, 22, 23, 24, 25] C) (ci := 7) (v := .int ((gi (C 0) 13) + 1)) (ty := .int) (CC := RX7) (T := TX7) (N := 29) hx hb htg ig_7 tyX7 tyX7_ok nmX7 hown hK hP hD hS 0 (Nat.lt_of_lt_of_le (by decide) hn) (sM_0 hT) rfl 13 (by decide) (htg _ q_986) (fun _ h9 => h9) rfl (by decide +kernel) rfl rfl (Nat.le_of_ble_eq_true rfl) (hT.up 0 (by decide) ⟨rfl, (fM_0_7 hT), (fM_0_9 hT), (fM_0_11 hT), (rg_w (rg_add (lo := 1) (hi := 5) (rn_ltu (u' := 4) (Int32.not_le.mp c_620) (fM_0_13 hT0) (rg_c (v := 5) (lo := 5) (hi := 5) (by decide)) (by decide)) (rg_c (v := 1) (lo := 1) (hi := 1) (by decide)) (by decide)) (by decide)), (fM_0_15 hT), (fM_0_21 hT), (fM_0_23 hT)⟩) (fr_fd hF (sM_0 hT) (by decide)) dX7_statement_142 (fun C_718 H locs e_719 hT hF hP hD hS => ?_)
                    have t_720 := hT
                    refine lv_iconst (v := 1) hx hb dX7_statement_145 (by decide) ?_
                    have : (gi (C_710 0) 7).toInt = (gi (C_699 0) 7).toInt := congrArg (fun z => (vi z).toInt) (f_712.2 7 (by decide))
                    have : (gi (C_710 0) 13).toInt = (gi (C_699 0) 13).toInt := congrArg (fun z => (vi z).toInt) (f_712.2 13 (by decide))
                    have : (gi (C_718 0) 21).toInt = (gi (C_710 0) 21).toInt := congrArg Int32.toInt (show gi (C_718 0) 21 = gi (C_710 0) 21 by rw [e_719]; rfl)
                    have : (gi (C_718 0) 7).toInt = (gi (C_710 0) 7).toInt := congrArg Int32.toInt (show gi (C_718 0) 7 = gi (C_710 0) 7 by rw [e_719]; rfl)
                    have : (gi (C_718 0) 23).toInt = (gi (C_710 0) 23).toInt := congrArg Int32.toInt (show gi (C_718 0) 23 = gi (C_710 0) 23 by rw [e_719]; rfl)
                    have : (gi (C_718 0) 13).toInt = ((gi (C 0) 13) + 1).toInt := congrArg Int32.toInt (show gi (C_718 0) 13 = ((gi (C 0) 13) + 1) by rw [e_719]; rfl)
                    have : ((gi (C 0) 13) + 1).toInt = (gi (C 0) 13).toInt + 1 := oh_incr (rn_ltu (u' := 4) (Int32.not_le.mp c_620) (fM_0_13 hT0) (rg_c (v := 5) (lo := 5) (hi := 5) (by decide)) (by decide)) (by decide)
                    have : 0 ≤ (gi (C_710 0) 21).toInt ∧ (gi (C_710 0) 21).toInt ≤ 250 := fM_0_21 t_713
                    have : 0 ≤ (gi (C_710 0) 7).toInt ∧ (gi (C_710 0) 7).toInt ≤ 250 := fM_0_7 t_713
                    have : 0 ≤ (gi (C_710 0) 23).toInt ∧ (gi (C_710 0) 23).toInt ≤ 250 := fM_0_23 t_713
                    have : 0 ≤ (gi (C_710 0) 13).toInt ∧ (gi (C_710 0) 13).toInt ≤ 5 := fM_0_13 t_713
                    have : 0 ≤ (gi (C_718 0) 21).toInt ∧ (gi (C_718 0) 21).toInt ≤ 250 := fM_0_21 t_720
                    have : 0 ≤ (gi (C_718 0) 7).toInt ∧ (gi (C_718 0) 7).toInt ≤ 250 := fM_0_7 t_720
                    have : 0 ≤ (gi (C_718 0) 23).toInt ∧ (gi (C_718 0) 23).toInt ≤ 250 := fM_0_23 t_720
                    have : 0 ≤ (gi (C_718 0) 13).toInt ∧ (gi (C_718 0) 13).toInt ≤ 5 := fM_0_13 t_720
                    rw [hQ]
                    exact W.zret (v := 1) (ty := .boolean) hx hb hr (by decide) (fun t ht hW => ⟨⟨1, C_718, rfl, ⟨hT, hF, ⟨(Or.inr rfl), ⟨(by omega), (by omega)⟩, (fun _ => (by omega)), (relW_inc (w := (gi (C 0) 13).toNatClampNeg) (relW_row (w := (gi (C 0) 13).toNatClampNeg) (relW_row (w := (gi (C 0) 13).toNatClampNeg) (relW_row (w := (gi (C 0) 13).toNatClampNeg) hR f_690 (oh_nat (fM_0_13 hT0) (by decide)) (by decide)) f_701 (by rw [(show gi (C_688 0) 13 = gi (C 0) 13 from congrArg vi (f_690.2 13 (by decide)))]; exact oh_nat (fM_0_13 hT0) (by decide)) (by decide)) f_712 (by rw [(Eq.trans (show gi (C_699 0) 13 = gi (C_688 0) 13 from congrArg vi (f_701.2 13 (by decide))) (show gi (C_688 0) 13 = gi (C 0) 13 from congrArg vi (f_690.2 13 (by decide))))]; exact oh_nat (fM_0_13 hT0) (by decide)) (by decide)) (by rw [(Eq.trans (show gi (C_710 0) 13 = gi (C_699 0) 13 from congrArg vi (f_712.2 13 (by decide))) (Eq.trans (show gi (C_699 0) 13 = gi (C_688 0) 13 from congrArg vi (f_701.2 13 (by decide))) (show gi (C_688 0) 13 = gi (C 0) 13 from congrArg vi (f_690.2 13 (by decide)))))]; exact oh_nat (fM_0_13 hT0) (by decide)) (fun k hk => th_un e_719 hk) (Eq.trans (congrArg Int32.toInt (show gi (C_718 0) 13 = (gi (C 0) 13) + 1 by rw [e_719]; rfl)) (by rw [(Eq.trans (show gi (C_710 0) 13 = gi (C_699 0) 13 from congrArg vi (f_712.2 13 (by decide))) (Eq.trans (show gi (C_699 0) 13 = gi (C_688 0) 13 from congrArg vi (f_701.2 13 (by decide))) (show gi (C_688 0) 13 = gi (C 0) 13 from congrArg vi (f_690.2 13 (by decide)))))]; exact oh_inc13 (fM_0_13 hT0))) (by rw [hq_711.2.2.1 _ (by decide), hq_700.2.2.1 _ (by decide)]; exact Int.le_trans (by decide) u_695) (by rw [hq_711.2.2.1 _ (by decide)]; exact Int.le_trans (by decide) u_706)), (by omega), (absurd u_549.2 (XIs_x (i := 17) (by decide) (by decide) (by decide) u_371.2)), (fgF (j := 13) hq_711.2.2.2.2.2.2.2.2.1 e_719 (sM_0 t_713) (by decide)), (by omega)⟩⟩, ⟨by rw [ht]; exact hP, hD⟩⟩, hS.F ht⟩) hS.2.2 dX7_statement_146
                  · have u_721 := hq_711.2.2.2.2.2.2.1 c_714
                    have u_722 := hq_711.2.2.2.2.2.2.2.1 c_714
                    refine lv_iconst (v := 0) hx hb dX7_statement_133 (by decide) ?_
                    have : (gi (C_710 0) 7).toInt = (gi (C_699 0) 7).toInt := congrArg (fun z => (vi z).toInt) (f_712.2 7 (by decide))
                    have : (gi (C_710 0) 13).toInt = (gi (C_699 0) 13).toInt := congrArg (fun z => (vi z).toInt) (f_712.2 13 (by decide))
                    have : 0 ≤ (gi (C_710 0) 21).toInt ∧ (gi (C_710 0) 21).toInt ≤ 250 := fM_0_21 t_713
                    have : 0 ≤ (gi (C_710 0) 7).toInt ∧ (gi (C_710 0) 7).toInt ≤ 250 := fM_0_7 t_713
                    have : 0 ≤ (gi (C_710 0) 23).toInt ∧ (gi (C_710 0) 23).toInt ≤ 250 := fM_0_23 t_713
                    have : 0 ≤ (gi (C_710 0) 13).toInt ∧ (gi (C_710 0) 13).toInt ≤ 5 := fM_0_13 t_713
                    rw [hQ]
                    exact W.zret (v := 0) (ty := .boolean) hx hb hr (by decide) (fun t ht hW => ⟨⟨0, C_710, rfl, ⟨hT, hF, ⟨(Or.inl rfl), ⟨(by omega), hq_711.2.1.2⟩, (fun h9 => absurd rfl h9), (relW_row (w := (gi (C 0) 13).toNatClampNeg) (relW_row (w := (gi (C 0) 13).toNatClampNeg) (relW_row (w := (gi (C 0) 13).toNatClampNeg) hR f_690 (oh_nat (fM_0_13 hT0) (by decide)) (by decide)) f_701 (by rw [(show gi (C_688 0) 13 = gi (C 0) 13 from congrArg vi (f_690.2 13 (by decide)))]; exact oh_nat (fM_0_13 hT0) (by decide)) (by decide)) f_712 (by rw [(Eq.trans (show gi (C_699 0) 13 = gi (C_688 0) 13 from congrArg vi (f_701.2 13 (by decide))) (show gi (C_688 0) 13 = gi (C 0) 13 from congrArg vi (f_690.2 13 (by decide))))]; exact oh_nat (fM_0_13 hT0) (by decide)) (by decide)), (by omega), (absurd u_549.2 (XIs_x (i := 17) (by decide) (by decide) (by decide) u_371.2)), hq_711.2.2.2.2.2.2.2.2.1, hq_711.2.2.2.2.2.2.2.2.2⟩⟩, ⟨by rw [ht]; exact hP, hD⟩⟩, hS.F ht⟩) hS.2.2 dX7_statement_134
        · refine lv_aload_n hx hb dX7_statement_50 rfl (lv_at hl 0 rfl) ?_
          refine lv_aload_n hx hb dX7_statement_51 rfl (lv_at hl 0 rfl) ?_
          refine va_get (D := D) (ci := 7) (v := .ref (a 10)) (C := RX7) (T := TX7) (N := 29) hx hb htg ig_7 hown hK hP 0 (oh_wg (Nat.lt_of_lt_of_le (by decide) hn) (sM_0 hT)) rfl 12 (by decide) (htg _ q_985) (fun _ h9 => h9) rfl dX7_statement_52 ?_
          refine lv_aload_n hx hb dX7_statement_55 rfl (lv_at hl 0 rfl) ?_
          refine va_get (D := D) (ci := 7) (v := .int (gi (C 0) 11)) (C := RX7) (T := TX7) (N := 29) hx hb htg ig_7 hown hK hP 0 (oh_wg (Nat.lt_of_lt_of_le (by decide) hn) (sM_0 hT)) rfl 11 (by decide) (htg _ q_984) (fun _ h9 => h9) rfl dX7_statement_56 ?_
          have n_723 : vp_in (gi (C 0) 11) 16 := (rg_in (rn_ltu (u' := 15) (Int32.not_le.mp c_550) (fM_0_11 hT0) (rg_c (v := 16) (lo := 16) (hi := 16) (by decide)) (by decide)) (by decide))
          have b_724 : (gi (C 0) 11).toNatClampNeg < 16 := vp_lt n_723
          refine th_aald hx hb hK hP 10 2 (Nat.lt_of_lt_of_le (by decide) hn) (sM_10 hT) rfl n_723 dX7_statement_59 ?_
          have : 0 ≤ (gi (C 0) 21).toInt ∧ (gi (C 0) 21).toInt ≤ 250 := fM_0_21 hT0
          have : 0 ≤ (gi (C 0) 7).toInt ∧ (gi (C 0) 7).toInt ≤ 250 := fM_0_7 hT0
          have : 0 ≤ (gi (C 0) 23).toInt ∧ (gi (C 0) 23).toInt ≤ 250 := fM_0_23 hT0
          have : 0 ≤ (gi (C 0) 13).toInt ∧ (gi (C 0) 13).toInt ≤ 5 := fM_0_13 hT0
          have : (24 : Int32).toInt = 24 := rfl
          have : (24 : Int32).toInt ≤ (gi (C 0) 9).toInt := Int32.le_iff_toInt_le.mp c_372
          have : (16 : Int32).toInt = 16 := rfl
          have : (gi (C 0) 11).toInt < (16 : Int32).toInt := Int32.lt_iff_toInt_lt.mp (Int32.not_le.mp c_550)
          refine tm_V (As := [.ref (a (48 + (gi (C 0) 11).toNatClampNeg))]) (rest := []) ⟨hx, hb, hml, hown, htg⟩ (e_X7_bridgeTold l D E G _ a C n hn hT (rg_w (lo := 0) (hi := 15) (rn_ltu (u' := 15) (Int32.not_le.mp c_550) (fM_0_11 hT0) (rg_c (v := 16) (lo := 16) (hi := 16) (by decide)) (by decide)) (by decide)) (by omega)) (cwV 1 htg (oh_gV q_1246 q_1248 q_47 q_73 q_1249) rfl rfl rfl pdVX7_bridgeTold ⟨Nat.le_of_ble_eq_true rfl, Nat.le_of_ble_eq_true rfl⟩) hK hP hD hG hS hA (va_recv hK hP (ci := 7) (q0 := 0) rfl (oh_wg (Nat.lt_of_lt_of_le (by decide) hn) (sM_0 hT))) rfl hl.1 rfl (Nat.le_of_ble_eq_true rfl) dX7_statement_60 ⟨Nat.le_of_ble_eq_true rfl, Nat.le_of_ble_eq_true rfl⟩ (fun r_725 C_726 H locs hq_727 hP hD hS => ?_)
          obtain ⟨hT, f_728, hq_727⟩ := hq_727
          have hF := fr_tr hF f_728 (by decide) (by decide)
          refine W.widen (k := 0) (n := 0) (Nat.le_refl _) (Nat.le_refl _) ?_
          have t_729 := hT
          have : (gi (C_726 0) 7).toInt = (gi (C 0) 7).toInt := congrArg (fun z => (vi z).toInt) (f_728.2 7 (by decide))
          have : (gi (C_726 0) 13).toInt = (gi (C 0) 13).toInt := congrArg (fun z => (vi z).toInt) (f_728.2 13 (by decide))
          have : 0 ≤ (gi (C_726 0) 21).toInt ∧ (gi (C_726 0) 21).toInt ≤ 250 := fM_0_21 t_729
          have : 0 ≤ (gi (C_726 0) 7).toInt ∧ (gi (C_726 0) 7).toInt ≤ 250 := fM_0_7 t_729
          have : 0 ≤ (gi (C_726 0) 23).toInt ∧ (gi (C_726 0) 23).toInt ≤ 250 := fM_0_23 t_729
          have : 0 ≤ (gi (C_726 0) 13).toInt ∧ (gi (C_726 0) 13).toInt ≤ 5 := fM_0_13 t_729
          have : (gi (C_726 0) 7).toInt = (gi (C 0) 7).toInt := congrArg (fun z => (vi z).toInt) (f_728.2 7 (by decide))
          have : (gi (C_726 0) 13).toInt = (gi (C 0) 13).toInt := congrArg (fun z => (vi z).toInt) (f_728.2 13 (by decide))
          have : 0 ≤ (gi (C_726 0) 21).toInt ∧ (gi (C_726 0) 21).toInt ≤ 250 := fM_0_21 t_729
          have : 0 ≤ (gi (C_726 0) 7).toInt ∧ (gi (C_726 0) 7).toInt ≤ 250 := fM_0_7 t_729
          have : 0 ≤ (gi (C_726 0) 23).toInt ∧ (gi (C_726 0) 23).toInt ≤ 250 := fM_0_23 t_729
          have : 0 ≤ (gi (C_726 0) 13).toInt ∧ (gi (C_726 0) 13).toInt ≤ 5 := fM_0_13 t_729
          rw [hQ]
          exact W.zret (v := r_725) (ty := .boolean) hx hb hr (oh_nb hq_727.1) (fun t ht hW => ⟨⟨r_725, C_726, rfl, ⟨hT, hF, ⟨hq_727.1, ⟨hq_727.2.1.1, hq_727.2.1.2⟩, (fun h9 => (by have h7_0 := (hq_727.2.2.1 h9); omega)), (RelW.fr hR f_728 (by decide)), (by omega), (absurd u_549.2 (XIs_x (i := 17) (by decide) (by decide) (by decide) u_371.2)), hq_727.2.2.2.2.2.1, hq_727.2.2.2.2.2.2⟩⟩, ⟨by rw [ht]; exact hP, hD⟩⟩, hS.F ht⟩) hS.2.2 dX7_statement_63
    · refine lv_aload_n hx hb dX7_statement_18 rfl (lv_at hl 0 rfl) ?_
      refine lv_aload_n hx hb dX7_statement_19 rfl (lv_at hl 0 rfl) ?_
      refine va_get (D := D) (ci := 7) (v := .ref (a 9)) (C := RX7) (T := TX7) (N := 29) hx hb htg ig_7 hown hK hP 0 (oh_wg (Nat.lt_of_lt_of_le (by decide) hn) (sM_0 hT)) rfl 10 (by decide) (htg _ q_983) (fun _ h9 => h9) rfl dX7_statement_20 ?_
      refine lv_aload_n hx hb dX7_statement_23 rfl (lv_at hl 0 rfl) ?_
      refine va_get (D := D) (ci := 7) (v := .int (gi (C 0) 9)) (C := RX7) (T := TX7) (N := 29) hx hb htg ig_7 hown hK hP 0 (oh_wg (Nat.lt_of_lt_of_le (by decide) hn) (sM_0 hT)) rfl 9 (by decide) (htg _ q_982) (fun _ h9 => h9) rfl dX7_statement_24 ?_
      have n_730 : vp_in (gi (C 0) 9) 24 := (rg_in (rn_ltu (u' := 23) (Int32.not_le.mp c_372) (fM_0_9 hT0) (rg_c (v := 24) (lo := 24) (hi := 24) (by decide)) (by decide)) (by decide))
      have b_731 : (gi (C 0) 9).toNatClampNeg < 24 := vp_lt n_730
      refine th_aald hx hb hK hP 9 2 (Nat.lt_of_lt_of_le (by decide) hn) (sM_9 hT) rfl n_730 dX7_statement_27 ?_
      have : 0 ≤ (gi (C 0) 21).toInt ∧ (gi (C 0) 21).toInt ≤ 250 := fM_0_21 hT0
      have : 0 ≤ (gi (C 0) 7).toInt ∧ (gi (C 0) 7).toInt ≤ 250 := fM_0_7 hT0
      have : 0 ≤ (gi (C 0) 23).toInt ∧ (gi (C 0) 23).toInt ≤ 250 := fM_0_23 hT0
      have : 0 ≤ (gi (C 0) 13).toInt ∧ (gi (C 0) 13).toInt ≤ 5 := fM_0_13 hT0
      have : (24 : Int32).toInt = 24 := rfl
      have : (gi (C 0) 9).toInt < (24 : Int32).toInt := Int32.lt_iff_toInt_lt.mp (Int32.not_le.mp c_372)
      refine tm_V (As := [.ref (a (24 + (gi (C 0) 9).toNatClampNeg))]) (rest := []) ⟨hx, hb, hml, hown, htg⟩ (e_X7_roadTold l D E G _ a C n hn hT (rg_w (lo := 0) (hi := 23) (rn_ltu (u' := 23) (Int32.not_le.mp c_372) (fM_0_9 hT0) (rg_c (v := 24) (lo := 24) (hi := 24) (by decide)) (by decide)) (by decide)) (by omega)) (cwV 1 htg (oh_gV q_1221 q_1223 q_42 q_73 q_1224) rfl rfl rfl pdVX7_roadTold ⟨Nat.le_of_ble_eq_true rfl, Nat.le_of_ble_eq_true rfl⟩) hK hP hD hG hS hA (va_recv hK hP (ci := 7) (q0 := 0) rfl (oh_wg (Nat.lt_of_lt_of_le (by decide) hn) (sM_0 hT))) rfl hl.1 rfl (Nat.le_of_ble_eq_true rfl) dX7_statement_28 ⟨Nat.le_of_ble_eq_true rfl, Nat.le_of_ble_eq_true rfl⟩ (fun r_732 C_733 H locs hq_734 hP hD hS => ?_)
      obtain ⟨hT, f_735, hq_734⟩ := hq_734
      have hF := fr_tr hF f_735 (by decide) (by decide)
      refine W.widen (k := 0) (n := 0) (Nat.le_refl _) (Nat.le_refl _) ?_
      have t_736 := hT
      have : (gi (C_733 0) 7).toInt = (gi (C 0) 7).toInt := congrArg (fun z => (vi z).toInt) (f_735.2 7 (by decide))
      have : (gi (C_733 0) 13).toInt = (gi (C 0) 13).toInt := congrArg (fun z => (vi z).toInt) (f_735.2 13 (by decide))
      have : 0 ≤ (gi (C_733 0) 21).toInt ∧ (gi (C_733 0) 21).toInt ≤ 250 := fM_0_21 t_736
      have : 0 ≤ (gi (C_733 0) 7).toInt ∧ (gi (C_733 0) 7).toInt ≤ 250 := fM_0_7 t_736
      have : 0 ≤ (gi (C_733 0) 23).toInt ∧ (gi (C_733 0) 23).toInt ≤ 250 := fM_0_23 t_736
      have : 0 ≤ (gi (C_733 0) 13).toInt ∧ (gi (C_733 0) 13).toInt ≤ 5 := fM_0_13 t_736
      have : (gi (C_733 0) 7).toInt = (gi (C 0) 7).toInt := congrArg (fun z => (vi z).toInt) (f_735.2 7 (by decide))
      have : (gi (C_733 0) 13).toInt = (gi (C 0) 13).toInt := congrArg (fun z => (vi z).toInt) (f_735.2 13 (by decide))
      have : 0 ≤ (gi (C_733 0) 21).toInt ∧ (gi (C_733 0) 21).toInt ≤ 250 := fM_0_21 t_736
      have : 0 ≤ (gi (C_733 0) 7).toInt ∧ (gi (C_733 0) 7).toInt ≤ 250 := fM_0_7 t_736
      have : 0 ≤ (gi (C_733 0) 23).toInt ∧ (gi (C_733 0) 23).toInt ≤ 250 := fM_0_23 t_736
      have : 0 ≤ (gi (C_733 0) 13).toInt ∧ (gi (C_733 0) 13).toInt ≤ 5 := fM_0_13 t_736
      rw [hQ]
      exact W.zret (v := r_732) (ty := .boolean) hx hb hr (oh_nb hq_734.1) (fun t ht hW => ⟨⟨r_732, C_733, rfl, ⟨hT, hF, ⟨hq_734.1, ⟨hq_734.2.1.1, hq_734.2.1.2⟩, (fun h9 => (by have h7_0 := (hq_734.2.2.1 h9); omega)), (RelW.fr hR f_735 (by decide)), (by omega), (fun A hA => ms_eq (rs_road_y (xw_f sw_road rfl u_371.2) (by rw [← hA.1 0 (by decide)]; exact (Int32.not_le.mp c_372))) (ms_row (t := 0) hT0 hA (by decide) hq_734.2.2.1 hq_734.2.2.2.1 hq_734.2.2.2.2.1 f_735 (by decide) (by decide) (by decide))), hq_734.2.2.2.2.2.1, hq_734.2.2.2.2.2.2⟩⟩, ⟨by rw [ht]; exact hP, hD⟩⟩, hS.F ht⟩) hS.2.2 dX7_statement_31
