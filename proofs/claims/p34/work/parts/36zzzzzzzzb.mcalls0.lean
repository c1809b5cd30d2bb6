/-! EXACT: the reference's calls that change the land -/
theorem blk_ne {s t a b : Nat} (hs : s < 4) (ht : t < 4) (ha : a < blkN s) (hb : b < blkN t) (h : ¬ (s = t ∧ a = b)) : blk s + a ≠ blk t + b := by
  intro e
  by_cases q : s = t
  · subst q
    exact h ⟨rfl, by omega⟩
  · rcases (show s = 0 ∨ s = 1 ∨ s = 2 ∨ s = 3 by omega) with rfl | rfl | rfl | rfl <;> rcases (show t = 0 ∨ t = 1 ∨ t = 2 ∨ t = 3 by omega) with rfl | rfl | rfl | rfl <;> simp only [blk, blkN] at e ha hb <;> omega
theorem blk_lo {s : Nat} (hs : s < 4) : 24 ≤ blk s := by
  rcases (show s = 0 ∨ s = 1 ∨ s = 2 ∨ s = 3 by omega) with rfl | rfl | rfl | rfl <;> decide
theorem absM_st {a : Nat → Nat} {E : Nat → ClassId} {t b j N : Nat} {v : Int32} {cA : ClassId} {C u : Nat → va_E} {A : LA} (hT : TyM a E C) (h : absM C A) (ht : t < 4) (hb : b < blkN t) (e : u = updc C (blk t + b) (.inl (cA, N, .inl (upd (ga (C (blk t + b))) j v)))) : absM u (putA A t b j v) := by
  have hl := blk_lo ht
  refine absM_put h ht (st_ga e) (fun s hs => congrArg (fun z => gi z (9 + 2 * s)) (th_un e (by omega))) (th_un e (by omega)) (fun s hs i hi hne => th_un e (blk_ne hs ht ?_ hb hne))
  have := (cntM hT s hs).2
  omega
theorem putA_back {A : LA} {t i j : Nat} {x w : Int32} (e : A t i j = w) : putA (putA A t i j x) t i j w = A := by
  funext s a b
  unfold putA
  by_cases q : s = t ∧ a = i ∧ b = j
  · rw [if_pos q, q.1, q.2.1, q.2.2]
    exact e.symm
  · rw [if_neg q, if_neg q]
theorem spM_y {a : Nat → Nat} {E : Nat → ClassId} {t : Nat} {R r : Int32} {ok : Prop} {v : Nat → Int32} {C u : Nat → va_E} {A : LA} {mc : List (Nat × Nat)} {mf : List Nat} (hT : TyM a E C) (hA : absM C A) (ht : t < 4) (h : ok) (h2 : gi (C 0) (9 + 2 * t) < R) (er : r = gi (C 0) (9 + 2 * t)) (e1 : gi (u 0) (9 + 2 * t) = gi (C 0) (9 + 2 * t) + 1) (e2 : ∀ j, j < wid t → ga (u (blk t + (gi (C 0) (9 + 2 * t)).toNatClampNeg)) j = v j) (ho : ∀ i, i ≠ (gi (C 0) (9 + 2 * t)).toNatClampNeg → u (blk t + i) = C (blk t + i)) (hf : fr mc mf C u) (h3 : ((List.range 4).all (fun s => Nat.beq s t || mc.all (fun p => Nat.ble (blk s + blkN s) p.1 || Nat.ble p.2 (blk s)))) = true) (h4 : ((List.range 4).all (fun s => Nat.beq s t || !(mf.contains (9 + 2 * s)))) = true) (h5 : inR mc 13 = false) : r = (spRow A t R ok v).1 ∧ absM u (spRow A t R ok v).2 := by
  have e0 := hA.1 t ht
  have hc := cntM24 hT t ht
  have hn := oh_nat hc (by decide)
  refine pr_b (P := fun z => absM u z) (spRow_y h (by rw [← e0]; exact h2)) (er.trans e0) (absM_add hA ht hc e1 (frC t hf h4) e2 (fun s hs i hi => ?_) (hf.1 13 h5 (by decide)))
  by_cases q : s = t
  · subst q
    exact ho i (by omega)
  · exact frB t hT hf h3 s hs q i hi
theorem oh_room24 {x R : Int32} {u : Int} (h : rg x 0 u) (hd : decide (u = R.toInt) = true) (c : ¬ x = R) : x < R := by
  have h2 := of_decide_eq_true hd
  have : x.toInt ≠ R.toInt := fun e => c (Int32.toInt_inj.mp e)
  have := h.2
  exact Int32.lt_iff_toInt_lt.mpr (by omega)
theorem oh_full {x R : Int32} (c : x = R) : ¬ x < R := by rw [c]; exact Int32.lt_irrefl
theorem stM {u : Nat → va_E} {A : LA} {b w x v : Int32} (hb : 0 ≤ b ∧ b < A 5 0 1) (hw : rg w 0 2) (hi : ¬ (w = 0 ∧ A 1 b.toNatClampNeg 1 = 3)) (h : absM u (putA A 1 b.toNatClampNeg (7 + w).toNatClampNeg v)) (hv : v = b01 x) : absM u (stA A b w x) := by
  rw [(oh_7w hw).1] at h
  rw [stA_y hb hw hi, ← hv]
  exact h
theorem absM_13 {a : Nat → Nat} {E : Nat → ClassId} {C u : Nat → va_E} {A : LA} {mc : List (Nat × Nat)} {mf : List Nat} (h : absM C A) (hT : TyM a E C) (e : ga (u 13) = ga (C 13)) (hf : fr mc mf C u) (h1 : ((List.range 4).all (fun s => Nat.beq s 9 || mc.all (fun p => Nat.ble (blk s + blkN s) p.1 || Nat.ble p.2 (blk s)))) = true) (h2 : ((List.range 4).all (fun s => Nat.beq s 9 || !(mf.contains (9 + 2 * s)))) = true) : absM u A := by
  obtain ⟨g1, g2, g3⟩ := h
  have e0 : ∀ s, s < 4 → gi (u 0) (9 + 2 * s) = gi (C 0) (9 + 2 * s) := fun s hs => frC 9 hf h2 s hs (by omega)
  have eb : ∀ s, s < 4 → ∀ i : Nat, (i : Int) < (gi (C 0) (9 + 2 * s)).toInt → u (blk s + i) = C (blk s + i) := fun s hs => frB 9 hT hf h1 s hs (by omega)
  refine ⟨fun s hs => ?_, fun j hj => ?_, fun s hs i hi j hj hv => ?_⟩
  · rw [e0 s hs]
    exact g1 s hs
  · rw [e]
    exact g2 j hj
  · rw [eb s hs i (by rw [g1 s hs]; exact hi)]
    exact g3 s hs i hi j hj hv
theorem absM_cp {a : Nat → Nat} {E : Nat → ClassId} {S u : Nat → va_E} {A : LA} (h : absM S A) (hT : TyM a E S) (e0 : ∀ t, t < 4 → gi (u 0) (9 + 2 * t) = gi (S 0) (9 + 2 * t)) (e13 : ∀ j, j < 3 → ga (u 13) j = ga (S 13) j) (eb : ∀ t, t < 4 → ∀ i, i < blkN t → ∀ q, q < wid t → ga (u (blk t + i)) q = ga (S (blk t + i)) q) : absM u A := by
  obtain ⟨g1, g2, g3⟩ := h
  refine ⟨fun s hs => ?_, fun j hj => ?_, fun s hs i hi j hj hv => ?_⟩
  · rw [e0 s hs]
    exact g1 s hs
  · rw [e13 j hj]
    exact g2 j hj
  · have h4 := (cntM hT s hs).2
    rw [g1 s hs] at h4
    rw [eb s hs i (by omega) j hj]
    exact g3 s hs i hi j hj hv

set_option maxHeartbeats 4000000 in
set_option maxRecDepth 100000 in
theorem e_X7_isPlace (l : Launch) (D : va_G) (E : Nat → ClassId) (G : Nat → Nat) (x1 : Int32) : Met l yX7_isPlace (oh_w yX7_isPlace cX7_isPlace 1 (some .boolean)) ({ frames := 1, cells := 0, slots := 0, locals := 25 }) (oh_Pp D E G [.int x1] []) (vp_Si (fun r => (r = 0 ∨ r = 1) ∧ (r ≠ 0 → rg x1 0 15) ∧ (r = 0 → (¬ ((0 : Int32) ≤ x1 ∧ x1 ≤ (15 : Int32)))))) 0 0 (fun _ => False) := by
  refine Met.ofW (cc := cX7_isPlace) (maxL := 1) (ret := (some .boolean)) (by decide) rfl ?_
  intro p e s m args below meth c s₁ B hml hv
  obtain ⟨rfl, hP, hK, hG⟩ := hv
  have hx := B.exec
  have hb := B.bytes
  have hr := B.returns
  have hts := atoms_spec (ws := (oh_w yX7_isPlace cX7_isPlace 1 (some .boolean))) B.pre
  have htg : ∀ w ∈ oh_t, w.before _ s = true := fun w h => hts w (List.mem_cons_of_mem _ h)
  have hown : s.vm.findClass RX7 = some m.cls := findClass_of_methodNamed B.named
  have hlocks := B.notSynchronized
  have hS : va_S (fun _ => False) s.heap s.heap [] := va_S.rf
  have hl := lv_entry ([.int x1]) (n := 1) (Nat.le_of_ble_eq_true rfl)
  rw [lg_entry_eq]
  generalize (lg_sl ([.int x1]) ++ List.replicate (1 - (lg_sl ([.int x1])).length) Slot.unset).toArray = ls at hl ⊢
  have hl : lv_has ls 1 [(0, .int x1)] := hl
  refine oh_genQ (fun Q hQ => ?_)
  refine lv_iload_n hx hb dX7_isPlace_0 rfl (lv_at hl 0 rfl) ?_
  refine lv_i2l (v := Int32.toInt64 x1) hx hb dX7_isPlace_1 (by rfl) ?_
  refine lv_lconst (v := 0) hx hb dX7_isPlace_2 (by decide) ?_
  refine lv_ldc2 (v := 15) hx hb hown (htg _ q_1133) dX7_isPlace_3 ?_
  refine tq_S (As := [.long (Int32.toInt64 x1), .long 0, .long 15]) (rest := []) (ws := []) ⟨hx, hb, hml, hown, htg⟩ (c_X7_in l D E G (Int32.toInt64 x1) (0 : Int64) (15 : Int64)) (va_cwS 3 htg (oh_gS q_1066 q_1067 q_73 q_1068) rfl rfl rfl pdX7_in ⟨Nat.le_of_ble_eq_true rfl, Nat.le_of_ble_eq_true rfl⟩) hK va_nil hG hS rfl hl.1 rfl (Nat.le_of_ble_eq_true rfl) dX7_isPlace_6 ⟨Nat.le_of_ble_eq_true rfl, Nat.le_of_ble_eq_true rfl⟩ (fun r_1 hq_2 => ?_)
  rw [hQ]
  exact W.zret (v := r_1) (ty := .boolean) hx hb hr (oh_nb hq_2.1) (fun t ht hW => ⟨r_1, rfl, ⟨hq_2.1, (fun h9 => (rg_w (rg_il (rgL_i (rg_il (rnL_leu (hq_2.2.1 h9).2 (rnL_lel (hq_2.2.1 h9).1 (rgL_c (v := 0) (lo := 0) (hi := 0) (by decide)) (rgL_i (rg_any _))) (rgL_c (v := 15) (lo := 15) (hi := 15) (by decide)))))) (by decide))), (fun h9 => (oh_in64 (l' := 0) (k' := 15) rfl rfl (hq_2.2.2 h9)))⟩, ht⟩) (fun q h => by cases h) dX7_isPlace_9

set_option maxHeartbeats 4000000 in
set_option maxRecDepth 100000 in
theorem e_X7_isRoad (l : Launch) (D : va_G) (E : Nat → ClassId) (G : Nat → Nat) (a : Nat → Nat) (C : Nat → va_E) (n : Nat) (hn : 74 ≤ n) (hT : TyM a E C) (x1 : Int32) : Met l yX7_isRoad (oh_w yX7_isRoad cX7_isRoad 2 (some .boolean)) ({ frames := 1, cells := 0, slots := 0, locals := 25 }) (oh_Pp D E G [.ref (a 0), .int x1] (oh_W n a C)) (vp_Si (fun r => (r = 0 ∨ r = 1) ∧ (r ≠ 0 → rg x1 0 23 ∧ ((0 : Int32) ≤ x1 ∧ x1 < gi (C 0) 9)) ∧ (r = 0 → (¬ ((0 : Int32) ≤ x1 ∧ x1 < gi (C 0) 9))))) 0 0 (fun _ => False) := by
  refine Met.ofW (cc := cX7_isRoad) (maxL := 2) (ret := (some .boolean)) (by decide) rfl ?_
  intro p e s m args below meth c s₁ B hml hv
  obtain ⟨rfl, hP, hK, hG⟩ := hv
  have hx := B.exec
  have hb := B.bytes
  have hr := B.returns
  have hts := atoms_spec (ws := (oh_w yX7_isRoad cX7_isRoad 2 (some .boolean))) B.pre
  have htg : ∀ w ∈ oh_t, w.before _ s = true := fun w h => hts w (List.mem_cons_of_mem _ h)
  have hown : s.vm.findClass RX7 = some m.cls := findClass_of_methodNamed B.named
  have hlocks := B.notSynchronized
  have hT0 := hT
  have hS : va_S (fun _ => False) s.heap s.heap [] := va_S.rf
  have hl := lv_entry ([.ref (a 0), .int x1]) (n := 2) (Nat.le_of_ble_eq_true rfl)
  rw [lg_entry_eq]
  generalize (lg_sl ([.ref (a 0), .int x1]) ++ List.replicate (2 - (lg_sl ([.ref (a 0), .int x1])).length) Slot.unset).toArray = ls at hl ⊢
  have hl : lv_has ls 2 [(0, .ref (a 0)), (1, .int x1)] := hl
  refine oh_genQ (fun Q hQ => ?_)
  refine lv_iload_n hx hb dX7_isRoad_0 rfl (lv_at hl 1 rfl) ?_
  refine lv_i2l (v := Int32.toInt64 x1) hx hb dX7_isRoad_1 (by rfl) ?_
  refine lv_lconst (v := 0) hx hb dX7_isRoad_2 (by decide) ?_
  refine lv_aload_n hx hb dX7_isRoad_3 rfl (lv_at hl 0 rfl) ?_
  refine va_get (D := D) (ci := 7) (v := .int (gi (C 0) 9)) (C := RX7) (T := TX7) (N := 29) hx hb htg ig_7 hown hK hP 0 (oh_wg (Nat.lt_of_lt_of_le (by decide) hn) (sM_0 hT)) rfl 9 (by decide) (htg _ q_982) (fun _ h9 => h9) rfl dX7_isRoad_4 ?_
  refine lv_iconst (v := 1) hx hb dX7_isRoad_7 (by decide) ?_
  refine lv_isub hx hb dX7_isRoad_8 ?_
  refine lv_i2l (v := Int32.toInt64 ((gi (C 0) 9) - 1)) hx hb dX7_isRoad_9 (by rfl) ?_
  refine tq_S (As := [.long (Int32.toInt64 x1), .long 0, .long (Int32.toInt64 ((gi (C 0) 9) - 1))]) (rest := []) (ws := []) ⟨hx, hb, hml, hown, htg⟩ (c_X7_in l D E G (Int32.toInt64 x1) (0 : Int64) (Int32.toInt64 ((gi (C 0) 9) - 1))) (va_cwS 3 htg (oh_gS q_1066 q_1067 q_73 q_1068) rfl rfl rfl pdX7_in ⟨Nat.le_of_ble_eq_true rfl, Nat.le_of_ble_eq_true rfl⟩) hK va_nil hG hS rfl hl.1 rfl (Nat.le_of_ble_eq_true rfl) dX7_isRoad_10 ⟨Nat.le_of_ble_eq_true rfl, Nat.le_of_ble_eq_true rfl⟩ (fun r_1 hq_2 => ?_)
  rw [hQ]
  exact W.zret (v := r_1) (ty := .boolean) hx hb hr (oh_nb hq_2.1) (fun t ht hW => ⟨r_1, rfl, ⟨hq_2.1, (fun h9 => ⟨(rg_w (rg_il (rnL_leu (hq_2.2.1 h9).2 (rgL_i (rg_il (rnL_lel (hq_2.2.1 h9).1 (rgL_c (v := 0) (lo := 0) (hi := 0) (by decide)) (rgL_i (rg_any _))))) (rgL_i (rg_sub (lo := (-1)) (hi := 23) (fM_0_9 hT0) (rg_c (v := 1) (lo := 1) (hi := 1) (by decide)) (by decide))))) (by decide)), ((is_n64 (rg_w (lo := 0) (hi := 24) (fM_0_9 hT0) (by decide))).mp ⟨(hq_2.2.1 h9).1, (hq_2.2.1 h9).2⟩)⟩), (fun h9 => (fun h8 => (hq_2.2.2 h9) ((is_n64 (rg_w (lo := 0) (hi := 24) (fM_0_9 hT0) (by decide))).mpr h8)))⟩, ht⟩) (fun q h => by cases h) dX7_isRoad_13

set_option maxHeartbeats 4000000 in
set_option maxRecDepth 100000 in
theorem e_X7_isBridge (l : Launch) (D : va_G) (E : Nat → ClassId) (G : Nat → Nat) (a : Nat → Nat) (C : Nat → va_E) (n : Nat) (hn : 74 ≤ n) (hT : TyM a E C) (x1 : Int32) : Met l yX7_isBridge (oh_w yX7_isBridge cX7_isBridge 2 (some .boolean)) ({ frames := 1, cells := 0, slots := 0, locals := 25 }) (oh_Pp D E G [.ref (a 0), .int x1] (oh_W n a C)) (vp_Si (fun r => (r = 0 ∨ r = 1) ∧ (r ≠ 0 → rg x1 0 15 ∧ ((0 : Int32) ≤ x1 ∧ x1 < gi (C 0) 11)) ∧ (r = 0 → (¬ ((0 : Int32) ≤ x1 ∧ x1 < gi (C 0) 11))))) 0 0 (fun _ => False) := by
  refine Met.ofW (cc := cX7_isBridge) (maxL := 2) (ret := (some .boolean)) (by decide) rfl ?_
  intro p e s m args below meth c s₁ B hml hv
  obtain ⟨rfl, hP, hK, hG⟩ := hv
  have hx := B.exec
  have hb := B.bytes
  have hr := B.returns
  have hts := atoms_spec (ws := (oh_w yX7_isBridge cX7_isBridge 2 (some .boolean))) B.pre
  have htg : ∀ w ∈ oh_t, w.before _ s = true := fun w h => hts w (List.mem_cons_of_mem _ h)
  have hown : s.vm.findClass RX7 = some m.cls := findClass_of_methodNamed B.named
  have hlocks := B.notSynchronized
  have hT0 := hT
  have hS : va_S (fun _ => False) s.heap s.heap [] := va_S.rf
  have hl := lv_entry ([.ref (a 0), .int x1]) (n := 2) (Nat.le_of_ble_eq_true rfl)
  rw [lg_entry_eq]
  generalize (lg_sl ([.ref (a 0), .int x1]) ++ List.replicate (2 - (lg_sl ([.ref (a 0), .int x1])).length) Slot.unset).toArray = ls at hl ⊢
  have hl : lv_has ls 2 [(0, .ref (a 0)), (1, .int x1)] := hl
  refine oh_genQ (fun Q hQ => ?_)
  refine lv_iload_n hx hb dX7_isBridge_0 rfl (lv_at hl 1 rfl) ?_
  refine lv_i2l (v := Int32.toInt64 x1) hx hb dX7_isBridge_1 (by rfl) ?_
  refine lv_lconst (v := 0) hx hb dX7_isBridge_2 (by decide) ?_
  refine lv_aload_n hx hb dX7_isBridge_3 rfl (lv_at hl 0 rfl) ?_
  refine va_get (D := D) (ci := 7) (v := .int (gi (C 0) 11)) (C := RX7) (T := TX7) (N := 29) hx hb htg ig_7 hown hK hP 0 (oh_wg (Nat.lt_of_lt_of_le (by decide) hn) (sM_0 hT)) rfl 11 (by decide) (htg _ q_984) (fun _ h9 => h9) rfl dX7_isBridge_4 ?_
  refine lv_iconst (v := 1) hx hb dX7_isBridge_7 (by decide) ?_
  refine lv_isub hx hb dX7_isBridge_8 ?_
  refine lv_i2l (v := Int32.toInt64 ((gi (C 0) 11) - 1)) hx hb dX7_isBridge_9 (by rfl) ?_
  refine tq_S (As := [.long (Int32.toInt64 x1), .long 0, .long (Int32.toInt64 ((gi (C 0) 11) - 1))]) (rest := []) (ws := []) ⟨hx, hb, hml, hown, htg⟩ (c_X7_in l D E G (Int32.toInt64 x1) (0 : Int64) (Int32.toInt64 ((gi (C 0) 11) - 1))) (va_cwS 3 htg (oh_gS q_1066 q_1067 q_73 q_1068) rfl rfl rfl pdX7_in ⟨Nat.le_of_ble_eq_true rfl, Nat.le_of_ble_eq_true rfl⟩) hK va_nil hG hS rfl hl.1 rfl (Nat.le_of_ble_eq_true rfl) dX7_isBridge_10 ⟨Nat.le_of_ble_eq_true rfl, Nat.le_of_ble_eq_true rfl⟩ (fun r_1 hq_2 => ?_)
  rw [hQ]
  exact W.zret (v := r_1) (ty := .boolean) hx hb hr (oh_nb hq_2.1) (fun t ht hW => ⟨r_1, rfl, ⟨hq_2.1, (fun h9 => ⟨(rg_w (rg_il (rnL_leu (hq_2.2.1 h9).2 (rgL_i (rg_il (rnL_lel (hq_2.2.1 h9).1 (rgL_c (v := 0) (lo := 0) (hi := 0) (by decide)) (rgL_i (rg_any _))))) (rgL_i (rg_sub (lo := (-1)) (hi := 15) (fM_0_11 hT0) (rg_c (v := 1) (lo := 1) (hi := 1) (by decide)) (by decide))))) (by decide)), ((is_n64 (rg_w (lo := 0) (hi := 24) (fM_0_11 hT0) (by decide))).mp ⟨(hq_2.2.1 h9).1, (hq_2.2.1 h9).2⟩)⟩), (fun h9 => (fun h8 => (hq_2.2.2 h9) ((is_n64 (rg_w (lo := 0) (hi := 24) (fM_0_11 hT0) (by decide))).mpr h8)))⟩, ht⟩) (fun q h => by cases h) dX7_isBridge_13

set_option maxHeartbeats 4000000 in
set_option maxRecDepth 100000 in
theorem e_X7_road (l : Launch) (D : va_G) (E : Nat → ClassId) (G : Nat → Nat) (sz : Nat) (a : Nat → Nat) (C : Nat → va_E) (n : Nat) (hn : 74 ≤ n) (hT : TyM a E C) (x1 : Int32) (x2 : Int32) (x3 : Int32) (x4 : Int32) (x5 : Int32) (x6 : Int32) (hR : RelM C) : Met l yX7_road (oh_w yX7_road cX7_road 8 (some .int)) ({ frames := 2, cells := 0, slots := 0, locals := 45 }) (oh_Pm D E G [.ref (a 0), .int x1, .int x2, .int x3, .int x4, .int x5, .int x6] (oh_W n a C) sz) (va_Qi (fun r (u : Nat → va_E) => TyM a E u ∧ fr [(8, 9), (24, 48)] [9] C u ∧ (RelM u) ∧ (∀ A : LA, absM C A → r = (spRow A 0 24 (okRoad x1 x2 x3 x4 x5 x6) (rwf [x1, x2, x3, x4, x5, x6, 0])).1 ∧ absM u (spRow A 0 24 (okRoad x1 x2 x3 x4 x5 x6) (rwf [x1, x2, x3, x4, x5, x6, 0])).2)) (oh_B D (va_A (oh_W n a C) sz) (fun u => oh_W n a u)) (va_A (oh_W n a C) sz)) 0 0 (va_A (oh_W n a C) sz) := by
  refine Met.ofW (cc := cX7_road) (maxL := 8) (ret := (some .int)) (by decide) rfl ?_
  intro p e s m args below meth c s₁ B hml hv
  obtain ⟨rfl, hsz, hP, hK, hD0, hG⟩ := hv
  have hx := B.exec
  have hb := B.bytes
  have hr := B.returns
  have hts := atoms_spec (ws := (oh_w yX7_road cX7_road 8 (some .int))) B.pre
  have htg : ∀ w ∈ oh_t, w.before _ s = true := fun w h => hts w (List.mem_cons_of_mem _ h)
  have hown : s.vm.findClass RX7 = some m.cls := findClass_of_methodNamed B.named
  have hlocks := B.notSynchronized
  have hT0 := hT
  subst hsz
  have hD := hD0.self (sz := s.heap.size)
  generalize hAe : va_A (oh_W n a C) s.heap.size = A at hD hG ⊢
  have hA : ∀ q : Nat, s.heap.size ≤ q → A q := fun q h => by rw [← hAe]; exact Or.inr h
  have hS : va_S A s.heap s.heap [] := va_S.rf
  have hF : fr [(8, 9), (24, 48)] [9] C C := fr_rf
  have hl := lv_entry ([.ref (a 0), .int x1, .int x2, .int x3, .int x4, .int x5, .int x6]) (n := 8) (Nat.le_of_ble_eq_true rfl)
  rw [lg_entry_eq]
  generalize (lg_sl ([.ref (a 0), .int x1, .int x2, .int x3, .int x4, .int x5, .int x6]) ++ List.replicate (8 - (lg_sl ([.ref (a 0), .int x1, .int x2, .int x3, .int x4, .int x5, .int x6])).length) Slot.unset).toArray = ls at hl ⊢
  have hl : lv_has ls 8 [(0, .ref (a 0)), (1, .int x1), (2, .int x2), (3, .int x3), (4, .int x4), (5, .int x5), (6, .int x6)] := hl
  refine oh_genQ (fun Q hQ => ?_)
  refine lv_iload_n hx hb dX7_road_0 rfl (lv_at hl 1 rfl) ?_
  refine tq_S (As := [.int x1]) (rest := []) (ws := []) ⟨hx, hb, hml, hown, htg⟩ (e_X7_isPlace l D E G x1) (va_cwS 1 htg (oh_gS q_1130 q_1131 q_73 q_1132) rfl rfl rfl pdX7_isPlace ⟨Nat.le_of_ble_eq_true rfl, Nat.le_of_ble_eq_true rfl⟩) hK va_nil hG hS rfl hl.1 rfl (Nat.le_of_ble_eq_true rfl) dX7_road_1 ⟨Nat.le_of_ble_eq_true rfl, Nat.le_of_ble_eq_true rfl⟩ (fun r_1 hq_2 => ?_)
  refine lv_if_eq (tgt := 48) hx hb dX7_road_4 (by decide) (fun (c_3 : r_1 = 0) => ?_) (fun (c_3 : ¬ (r_1 = 0)) => ?_)
  · have u_4 := hq_2.2.2 c_3
    refine lv_iconst (v := 0) hx hb dX7_road_48 (by decide) ?_
    refine lv_istore (lv' := [(7, .int 0), (0, .ref (a 0)), (1, .int x1), (2, .int x2), (3, .int x3), (4, .int x4), (5, .int x5), (6, .int x6)]) hx hb dX7_road_49 hl (by decide) rfl (fun ls hl => ?_)
    refine lv_iload hx hb dX7_road_51 (lv_at hl 0 rfl) ?_
    refine lv_if_eq (tgt := 82) hx hb dX7_road_53 (by decide) (fun _ => ?_) (fun c => absurd (show (0 : Int32) = 0 from by decide) c)
    refine lv_aload_n hx hb dX7_road_82 rfl (lv_at hl 1 rfl) ?_
    refine lv_bipush (v := (-2)) hx hb dX7_road_83 (by decide) ?_
    refine tm_V (As := [.int (-2)]) (rest := []) ⟨hx, hb, hml, hown, htg⟩ (c_X7_refuse l D E G _ a C n hn hT ((-2) : Int32) (rg_w (rg_c (v := (-2)) (lo := (-2)) (hi := (-2)) (by decide)) (by decide))) (cwV 1 htg (oh_gV q_1071 q_1073 q_29 q_73 q_1074) rfl rfl rfl pdVX7_refuse ⟨Nat.le_of_ble_eq_true rfl, Nat.le_of_ble_eq_true rfl⟩) hK hP hD hG hS hA (va_recv hK hP (ci := 7) (q0 := 0) rfl (oh_wg (Nat.lt_of_lt_of_le (by decide) hn) (sM_0 hT))) rfl hl.1 rfl (Nat.le_of_ble_eq_true rfl) dX7_road_85 ⟨Nat.le_of_ble_eq_true rfl, Nat.le_of_ble_eq_true rfl⟩ (fun r_5 C_6 H locs hq_7 hP hD hS => ?_)
    obtain ⟨hT, f_8, hq_7⟩ := hq_7
    have hF := fr_tr hF f_8 (by decide) (by decide)
    refine W.widen (k := 0) (n := 0) (Nat.le_refl _) (Nat.le_refl _) ?_
    have t_9 := hT
    rw [hQ]
    exact W.iret (v := r_5) hx hb hr (fun t ht hW => ⟨⟨r_5, C_6, rfl, ⟨hT, hF, ⟨⟨hR.1.fr hF (by decide), hR.2.fr hF (by decide)⟩, (fun A hA => pr_b (P := fun z => absM C_6 z) (spRow_b (fun h8 => u_4 h8.1)) hq_7 (absM_fr hA hT0 (show fr [(8, 9)] [] C C_6 from (fr_tr fr_rf f_8 (by decide) (by decide))) (by decide) (by decide) (by decide)))⟩⟩, ⟨by rw [ht]; exact hP, hD⟩⟩, hS.F ht⟩) hS.2.2 dX7_road_88
  · have u_10 := hq_2.2.1 c_3
    refine lv_iload_n hx hb dX7_road_7 rfl (lv_at hl 2 rfl) ?_
    refine tq_S (As := [.int x2]) (rest := []) (ws := []) ⟨hx, hb, hml, hown, htg⟩ (e_X7_isPlace l D E G x2) (va_cwS 1 htg (oh_gS q_1130 q_1131 q_73 q_1132) rfl rfl rfl pdX7_isPlace ⟨Nat.le_of_ble_eq_true rfl, Nat.le_of_ble_eq_true rfl⟩) hK va_nil hG hS rfl hl.1 rfl (Nat.le_of_ble_eq_true rfl) dX7_road_8 ⟨Nat.le_of_ble_eq_true rfl, Nat.le_of_ble_eq_true rfl⟩ (fun r_11 hq_12 => ?_)
    refine lv_if_eq (tgt := 48) hx hb dX7_road_11 (by decide) (fun (c_13 : r_11 = 0) => ?_) (fun (c_13 : ¬ (r_11 = 0)) => ?_)
    · have u_14 := hq_12.2.2 c_13
      refine lv_iconst (v := 0) hx hb dX7_road_48 (by decide) ?_
      refine lv_istore (lv' := [(7, .int 0), (0, .ref (a 0)), (1, .int x1), (2, .int x2), (3, .int x3), (4, .int x4), (5, .int x5), (6, .int x6)]) hx hb dX7_road_49 hl (by decide) rfl (fun ls hl => ?_)
      refine lv_iload hx hb dX7_road_51 (lv_at hl 0 rfl) ?_
      refine lv_if_eq (tgt := 82) hx hb dX7_road_53 (by decide) (fun _ => ?_) (fun c => absurd (show (0 : Int32) = 0 from by decide) c)
      refine lv_aload_n hx hb dX7_road_82 rfl (lv_at hl 1 rfl) ?_
      refine lv_bipush (v := (-2)) hx hb dX7_road_83 (by decide) ?_
      refine tm_V (As := [.int (-2)]) (rest := []) ⟨hx, hb, hml, hown, htg⟩ (c_X7_refuse l D E G _ a C n hn hT ((-2) : Int32) (rg_w (rg_c (v := (-2)) (lo := (-2)) (hi := (-2)) (by decide)) (by decide))) (cwV 1 htg (oh_gV q_1071 q_1073 q_29 q_73 q_1074) rfl rfl rfl pdVX7_refuse ⟨Nat.le_of_ble_eq_true rfl, Nat.le_of_ble_eq_true rfl⟩) hK hP hD hG hS hA (va_recv hK hP (ci := 7) (q0 := 0) rfl (oh_wg (Nat.lt_of_lt_of_le (by decide) hn) (sM_0 hT))) rfl hl.1 rfl (Nat.le_of_ble_eq_true rfl) dX7_road_85 ⟨Nat.le_of_ble_eq_true rfl, Nat.le_of_ble_eq_true rfl⟩ (fun r_15 C_16 H locs hq_17 hP hD hS => ?_)
      obtain ⟨hT, f_18, hq_17⟩ := hq_17
      have hF := fr_tr hF f_18 (by decide) (by decide)
      refine W.widen (k := 0) (n := 0) (Nat.le_refl _) (Nat.le_refl _) ?_
      have t_19 := hT
      rw [hQ]
      exact W.iret (v := r_15) hx hb hr (fun t ht hW => ⟨⟨r_15, C_16, rfl, ⟨hT, hF, ⟨⟨hR.1.fr hF (by decide), hR.2.fr hF (by decide)⟩, (fun A hA => pr_b (P := fun z => absM C_16 z) (spRow_b (fun h8 => u_14 h8.2.1)) hq_17 (absM_fr hA hT0 (show fr [(8, 9)] [] C C_16 from (fr_tr fr_rf f_18 (by decide) (by decide))) (by decide) (by decide) (by decide)))⟩⟩, ⟨by rw [ht]; exact hP, hD⟩⟩, hS.F ht⟩) hS.2.2 dX7_road_88
    · have u_20 := hq_12.2.1 c_13
      refine lv_iload_n hx hb dX7_road_14 rfl (lv_at hl 1 rfl) ?_
      refine lv_iload_n hx hb dX7_road_15 rfl (lv_at hl 2 rfl) ?_
      refine lv_icmp_eq (tgt := 48) hx hb dX7_road_16 (by decide) (fun (c_21 : x1 = x2) => ?_) (fun (c_21 : ¬ (x1 = x2)) => ?_)
      · refine lv_iconst (v := 0) hx hb dX7_road_48 (by decide) ?_
        refine lv_istore (lv' := [(7, .int 0), (0, .ref (a 0)), (1, .int x1), (2, .int x2), (3, .int x3), (4, .int x4), (5, .int x5), (6, .int x6)]) hx hb dX7_road_49 hl (by decide) rfl (fun ls hl => ?_)
        refine lv_iload hx hb dX7_road_51 (lv_at hl 0 rfl) ?_
        refine lv_if_eq (tgt := 82) hx hb dX7_road_53 (by decide) (fun _ => ?_) (fun c => absurd (show (0 : Int32) = 0 from by decide) c)
        refine lv_aload_n hx hb dX7_road_82 rfl (lv_at hl 1 rfl) ?_
        refine lv_bipush (v := (-2)) hx hb dX7_road_83 (by decide) ?_
        refine tm_V (As := [.int (-2)]) (rest := []) ⟨hx, hb, hml, hown, htg⟩ (c_X7_refuse l D E G _ a C n hn hT ((-2) : Int32) (rg_w (rg_c (v := (-2)) (lo := (-2)) (hi := (-2)) (by decide)) (by decide))) (cwV 1 htg (oh_gV q_1071 q_1073 q_29 q_73 q_1074) rfl rfl rfl pdVX7_refuse ⟨Nat.le_of_ble_eq_true rfl, Nat.le_of_ble_eq_true rfl⟩) hK hP hD hG hS hA (va_recv hK hP (ci := 7) (q0 := 0) rfl (oh_wg (Nat.lt_of_lt_of_le (by decide) hn) (sM_0 hT))) rfl hl.1 rfl (Nat.le_of_ble_eq_true rfl) dX7_road_85 ⟨Nat.le_of_ble_eq_true rfl, Nat.le_of_ble_eq_true rfl⟩ (fun r_22 C_23 H locs hq_24 hP hD hS => ?_)
        obtain ⟨hT, f_25, hq_24⟩ := hq_24
        have hF := fr_tr hF f_25 (by decide) (by decide)
        refine W.widen (k := 0) (n := 0) (Nat.le_refl _) (Nat.le_refl _) ?_
        have t_26 := hT
        rw [hQ]
        exact W.iret (v := r_22) hx hb hr (fun t ht hW => ⟨⟨r_22, C_23, rfl, ⟨hT, hF, ⟨⟨hR.1.fr hF (by decide), hR.2.fr hF (by decide)⟩, (fun A hA => pr_b (P := fun z => absM C_23 z) (spRow_b (fun h8 => h8.2.2.1 c_21)) hq_24 (absM_fr hA hT0 (show fr [(8, 9)] [] C C_23 from (fr_tr fr_rf f_25 (by decide) (by decide))) (by decide) (by decide) (by decide)))⟩⟩, ⟨by rw [ht]; exact hP, hD⟩⟩, hS.F ht⟩) hS.2.2 dX7_road_88
      · refine lv_iload_n hx hb dX7_road_19 rfl (lv_at hl 3 rfl) ?_
        refine lv_i2l (v := Int32.toInt64 x3) hx hb dX7_road_20 (by rfl) ?_
        refine lv_lconst (v := 1) hx hb dX7_road_21 (by decide) ?_
        refine lv_ldc2 (v := 60) hx hb hown (htg _ q_1134) dX7_road_22 ?_
        refine tq_S (As := [.long (Int32.toInt64 x3), .long 1, .long 60]) (rest := []) (ws := []) ⟨hx, hb, hml, hown, htg⟩ (c_X7_in l D E G (Int32.toInt64 x3) (1 : Int64) (60 : Int64)) (va_cwS 3 htg (oh_gS q_1066 q_1067 q_73 q_1068) rfl rfl rfl pdX7_in ⟨Nat.le_of_ble_eq_true rfl, Nat.le_of_ble_eq_true rfl⟩) hK va_nil hG hS rfl hl.1 rfl (Nat.le_of_ble_eq_true rfl) dX7_road_25 ⟨Nat.le_of_ble_eq_true rfl, Nat.le_of_ble_eq_true rfl⟩ (fun r_27 hq_28 => ?_)
        refine lv_if_eq (tgt := 48) hx hb dX7_road_28 (by decide) (fun (c_29 : r_27 = 0) => ?_) (fun (c_29 : ¬ (r_27 = 0)) => ?_)
        · have u_30 := hq_28.2.2 c_29
          refine lv_iconst (v := 0) hx hb dX7_road_48 (by decide) ?_
          refine lv_istore (lv' := [(7, .int 0), (0, .ref (a 0)), (1, .int x1), (2, .int x2), (3, .int x3), (4, .int x4), (5, .int x5), (6, .int x6)]) hx hb dX7_road_49 hl (by decide) rfl (fun ls hl => ?_)
          refine lv_iload hx hb dX7_road_51 (lv_at hl 0 rfl) ?_
          refine lv_if_eq (tgt := 82) hx hb dX7_road_53 (by decide) (fun _ => ?_) (fun c => absurd (show (0 : Int32) = 0 from by decide) c)
          refine lv_aload_n hx hb dX7_road_82 rfl (lv_at hl 1 rfl) ?_
          refine lv_bipush (v := (-2)) hx hb dX7_road_83 (by decide) ?_
          refine tm_V (As := [.int (-2)]) (rest := []) ⟨hx, hb, hml, hown, htg⟩ (c_X7_refuse l D E G _ a C n hn hT ((-2) : Int32) (rg_w (rg_c (v := (-2)) (lo := (-2)) (hi := (-2)) (by decide)) (by decide))) (cwV 1 htg (oh_gV q_1071 q_1073 q_29 q_73 q_1074) rfl rfl rfl pdVX7_refuse ⟨Nat.le_of_ble_eq_true rfl, Nat.le_of_ble_eq_true rfl⟩) hK hP hD hG hS hA (va_recv hK hP (ci := 7) (q0 := 0) rfl (oh_wg (Nat.lt_of_lt_of_le (by decide) hn) (sM_0 hT))) rfl hl.1 rfl (Nat.le_of_ble_eq_true rfl) dX7_road_85 ⟨Nat.le_of_ble_eq_true rfl, Nat.le_of_ble_eq_true rfl⟩ (fun r_31 C_32 H locs hq_33 hP hD hS => ?_)
          obtain ⟨hT, f_34, hq_33⟩ := hq_33
          have hF := fr_tr hF f_34 (by decide) (by decide)
          refine W.widen (k := 0) (n := 0) (Nat.le_refl _) (Nat.le_refl _) ?_
          have t_35 := hT
          rw [hQ]
          exact W.iret (v := r_31) hx hb hr (fun t ht hW => ⟨⟨r_31, C_32, rfl, ⟨hT, hF, ⟨⟨hR.1.fr hF (by decide), hR.2.fr hF (by decide)⟩, (fun A hA => pr_b (P := fun z => absM C_32 z) (spRow_b (fun h8 => (oh_in64 (l' := 1) (k' := 60) rfl rfl u_30) h8.2.2.2.1)) hq_33 (absM_fr hA hT0 (show fr [(8, 9)] [] C C_32 from (fr_tr fr_rf f_34 (by decide) (by decide))) (by decide) (by decide) (by decide)))⟩⟩, ⟨by rw [ht]; exact hP, hD⟩⟩, hS.F ht⟩) hS.2.2 dX7_road_88
        · have u_36 := hq_28.2.1 c_29
          refine lv_iload hx hb dX7_road_31 (lv_at hl 4 rfl) ?_
          refine lv_i2l (v := Int32.toInt64 x4) hx hb dX7_road_33 (by rfl) ?_
          refine lv_lconst (v := 0) hx hb dX7_road_34 (by decide) ?_
          refine lv_ldc2 (v := 9) hx hb hown (htg _ q_1135) dX7_road_35 ?_
          refine tq_S (As := [.long (Int32.toInt64 x4), .long 0, .long 9]) (rest := []) (ws := []) ⟨hx, hb, hml, hown, htg⟩ (c_X7_in l D E G (Int32.toInt64 x4) (0 : Int64) (9 : Int64)) (va_cwS 3 htg (oh_gS q_1066 q_1067 q_73 q_1068) rfl rfl rfl pdX7_in ⟨Nat.le_of_ble_eq_true rfl, Nat.le_of_ble_eq_true rfl⟩) hK va_nil hG hS rfl hl.1 rfl (Nat.le_of_ble_eq_true rfl) dX7_road_38 ⟨Nat.le_of_ble_eq_true rfl, Nat.le_of_ble_eq_true rfl⟩ (fun r_37 hq_38 => ?_)
          refine lv_if_eq (tgt := 48) hx hb dX7_road_41 (by decide) (fun (c_39 : r_37 = 0) => ?_) (fun (c_39 : ¬ (r_37 = 0)) => ?_)
          · have u_40 := hq_38.2.2 c_39
            refine lv_iconst (v := 0) hx hb dX7_road_48 (by decide) ?_
            refine lv_istore (lv' := [(7, .int 0), (0, .ref (a 0)), (1, .int x1), (2, .int x2), (3, .int x3), (4, .int x4), (5, .int x5), (6, .int x6)]) hx hb dX7_road_49 hl (by decide) rfl (fun ls hl => ?_)
            refine lv_iload hx hb dX7_road_51 (lv_at hl 0 rfl) ?_
            refine lv_if_eq (tgt := 82) hx hb dX7_road_53 (by decide) (fun _ => ?_) (fun c => absurd (show (0 : Int32) = 0 from by decide) c)
            refine lv_aload_n hx hb dX7_road_82 rfl (lv_at hl 1 rfl) ?_
            refine lv_bipush (v := (-2)) hx hb dX7_road_83 (by decide) ?_
            refine tm_V (As := [.int (-2)]) (rest := []) ⟨hx, hb, hml, hown, htg⟩ (c_X7_refuse l D E G _ a C n hn hT ((-2) : Int32) (rg_w (rg_c (v := (-2)) (lo := (-2)) (hi := (-2)) (by decide)) (by decide))) (cwV 1 htg (oh_gV q_1071 q_1073 q_29 q_73 q_1074) rfl rfl rfl pdVX7_refuse ⟨Nat.le_of_ble_eq_true rfl, Nat.le_of_ble_eq_true rfl⟩) hK hP hD hG hS hA (va_recv hK hP (ci := 7) (q0 := 0) rfl (oh_wg (Nat.lt_of_lt_of_le (by decide) hn) (sM_0 hT))) rfl hl.1 rfl (Nat.le_of_ble_eq_true rfl) dX7_road_85 ⟨Nat.le_of_ble_eq_true rfl, Nat.le_of_ble_eq_true rfl⟩ (fun r_41 C_42 H locs hq_43 hP hD hS => ?_)
            obtain ⟨hT, f_44, hq_43⟩ := hq_43
            have hF := fr_tr hF f_44 (by decide) (by decide)
            refine W.widen (k := 0) (n := 0) (Nat.le_refl _) (Nat.le_refl _) ?_
            have t_45 := hT
            rw [hQ]
            exact W.iret (v := r_41) hx hb hr (fun t ht hW => ⟨⟨r_41, C_42, rfl, ⟨hT, hF, ⟨⟨hR.1.fr hF (by decide), hR.2.fr hF (by decide)⟩, (fun A hA => pr_b (P := fun z => absM C_42 z) (spRow_b (fun h8 => (oh_in64 (l' := 0) (k' := 9) rfl rfl u_40) h8.2.2.2.2.1)) hq_43 (absM_fr hA hT0 (show fr [(8, 9)] [] C C_42 from (fr_tr fr_rf f_44 (by decide) (by decide))) (by decide) (by decide) (by decide)))⟩⟩, ⟨by rw [ht]; exact hP, hD⟩⟩, hS.F ht⟩) hS.2.2 dX7_road_88
          · have u_46 := hq_38.2.1 c_39
            refine lv_iconst (v := 1) hx hb dX7_road_44 (by decide) ?_
            refine lv_goto (tgt := 49) hx hb dX7_road_45 (by decide) ?_
            refine lv_istore (lv' := [(7, .int 1), (0, .ref (a 0)), (1, .int x1), (2, .int x2), (3, .int x3), (4, .int x4), (5, .int x5), (6, .int x6)]) hx hb dX7_road_49 hl (by decide) rfl (fun ls hl => ?_)
            refine lv_iload hx hb dX7_road_51 (lv_at hl 0 rfl) ?_
            refine lv_if_eq (tgt := 82) hx hb dX7_road_53 (by decide) (fun c => absurd c (show ¬ ((1 : Int32) = 0) from by decide)) (fun _ => ?_)
            refine lv_iload hx hb dX7_road_56 (lv_at hl 6 rfl) ?_
            refine lv_i2l (v := Int32.toInt64 x5) hx hb dX7_road_58 (by rfl) ?_
            refine lv_lconst (v := 1) hx hb dX7_road_59 (by decide) ?_
            refine lv_ldc2 (v := 99) hx hb hown (htg _ q_1136) dX7_road_60 ?_
            refine tq_S (As := [.long (Int32.toInt64 x5), .long 1, .long 99]) (rest := []) (ws := []) ⟨hx, hb, hml, hown, htg⟩ (c_X7_in l D E G (Int32.toInt64 x5) (1 : Int64) (99 : Int64)) (va_cwS 3 htg (oh_gS q_1066 q_1067 q_73 q_1068) rfl rfl rfl pdX7_in ⟨Nat.le_of_ble_eq_true rfl, Nat.le_of_ble_eq_true rfl⟩) hK va_nil hG hS rfl hl.1 rfl (Nat.le_of_ble_eq_true rfl) dX7_road_63 ⟨Nat.le_of_ble_eq_true rfl, Nat.le_of_ble_eq_true rfl⟩ (fun r_47 hq_48 => ?_)
            refine lv_if_eq (tgt := 82) hx hb dX7_road_66 (by decide) (fun (c_49 : r_47 = 0) => ?_) (fun (c_49 : ¬ (r_47 = 0)) => ?_)
            · have u_50 := hq_48.2.2 c_49
              refine lv_aload_n hx hb dX7_road_82 rfl (lv_at hl 1 rfl) ?_
              refine lv_bipush (v := (-2)) hx hb dX7_road_83 (by decide) ?_
              refine tm_V (As := [.int (-2)]) (rest := []) ⟨hx, hb, hml, hown, htg⟩ (c_X7_refuse l D E G _ a C n hn hT ((-2) : Int32) (rg_w (rg_c (v := (-2)) (lo := (-2)) (hi := (-2)) (by decide)) (by decide))) (cwV 1 htg (oh_gV q_1071 q_1073 q_29 q_73 q_1074) rfl rfl rfl pdVX7_refuse ⟨Nat.le_of_ble_eq_true rfl, Nat.le_of_ble_eq_true rfl⟩) hK hP hD hG hS hA (va_recv hK hP (ci := 7) (q0 := 0) rfl (oh_wg (Nat.lt_of_lt_of_le (by decide) hn) (sM_0 hT))) rfl hl.1 rfl (Nat.le_of_ble_eq_true rfl) dX7_road_85 ⟨Nat.le_of_ble_eq_true rfl, Nat.le_of_ble_eq_true rfl⟩ (fun r_51 C_52 H locs hq_53 hP hD hS => ?_)
              obtain ⟨hT, f_54, hq_53⟩ := hq_53
              have hF := fr_tr hF f_54 (by decide) (by decide)
              refine W.widen (k := 0) (n := 0) (Nat.le_refl _) (Nat.le_refl _) ?_
              have t_55 := hT
              rw [hQ]
              exact W.iret (v := r_51) hx hb hr (fun t ht hW => ⟨⟨r_51, C_52, rfl, ⟨hT, hF, ⟨⟨hR.1.fr hF (by decide), hR.2.fr hF (by decide)⟩, (fun A hA => pr_b (P := fun z => absM C_52 z) (spRow_b (fun h8 => (oh_in64 (l' := 1) (k' := 99) rfl rfl u_50) h8.2.2.2.2.2.1)) hq_53 (absM_fr hA hT0 (show fr [(8, 9)] [] C C_52 from (fr_tr fr_rf f_54 (by decide) (by decide))) (by decide) (by decide) (by decide)))⟩⟩, ⟨by rw [ht]; exact hP, hD⟩⟩, hS.F ht⟩) hS.2.2 dX7_road_88
            · have u_56 := hq_48.2.1 c_49
              refine lv_iload hx hb dX7_road_69 (lv_at hl 7 rfl) ?_
              refine lv_i2l (v := Int32.toInt64 x6) hx hb dX7_road_71 (by rfl) ?_
              refine lv_lconst (v := 0) hx hb dX7_road_72 (by decide) ?_
              refine lv_ldc2 (v := 15) hx hb hown (htg _ q_1133) dX7_road_73 ?_
              refine tq_S (As := [.long (Int32.toInt64 x6), .long 0, .long 15]) (rest := []) (ws := []) ⟨hx, hb, hml, hown, htg⟩ (c_X7_in l D E G (Int32.toInt64 x6) (0 : Int64) (15 : Int64)) (va_cwS 3 htg (oh_gS q_1066 q_1067 q_73 q_1068) rfl rfl rfl pdX7_in ⟨Nat.le_of_ble_eq_true rfl, Nat.le_of_ble_eq_true rfl⟩) hK va_nil hG hS rfl hl.1 rfl (Nat.le_of_ble_eq_true rfl) dX7_road_76 ⟨Nat.le_of_ble_eq_true rfl, Nat.le_of_ble_eq_true rfl⟩ (fun r_57 hq_58 => ?_)
              refine lv_if_ne (tgt := 89) hx hb dX7_road_79 (by decide) (fun (c_59 : ¬ (r_57 = 0)) => ?_) (fun (c_59 : r_57 = 0) => ?_)
              · have u_60 := hq_58.2.1 c_59
                refine lv_aload_n hx hb dX7_road_89 rfl (lv_at hl 1 rfl) ?_
                refine va_get (D := D) (ci := 7) (v := .int (gi (C 0) 9)) (C := RX7) (T := TX7) (N := 29) hx hb htg ig_7 hown hK hP 0 (oh_wg (Nat.lt_of_lt_of_le (by decide) hn) (sM_0 hT)) rfl 9 (by decide) (htg _ q_982) (fun _ h9 => h9) rfl dX7_road_90 ?_
                refine lv_bipush (v := 24) hx hb dX7_road_93 (by decide) ?_
                refine lv_icmp_ne (tgt := 105) hx hb dX7_road_95 (by decide) (fun (c_61 : ¬ ((gi (C 0) 9) = 24)) => ?_) (fun (c_61 : (gi (C 0) 9) = 24) => ?_)
                · refine lv_aload_n hx hb dX7_road_105 rfl (lv_at hl 1 rfl) ?_
                  refine lv_iload_n hx hb dX7_road_106 rfl (lv_at hl 2 rfl) ?_
                  refine lv_iload_n hx hb dX7_road_107 rfl (lv_at hl 3 rfl) ?_
                  refine tm_Vv (As := [.int x1, .int x2]) (rest := []) ⟨hx, hb, hml, hown, htg⟩ (e_X7_newRoad l D E G _ a C n hn hT x1 x2 (rg_w u_10 (by decide)) (rg_w u_20 (by decide)) (rg_w (lo := 0) (hi := 23) (rn_neu (u' := 23) c_61 (fM_0_9 hT0) (rg_c (v := 24) (lo := 24) (hi := 24) (by decide)) (by decide)) (by decide))) (cwV 2 htg (oh_gV q_1137 q_1139 q_35 q_73 q_1140) rfl rfl rfl pdVX7_newRoad ⟨Nat.le_of_ble_eq_true rfl, Nat.le_of_ble_eq_true rfl⟩) hK hP hD hG hS hA (va_recv hK hP (ci := 7) (q0 := 0) rfl (oh_wg (Nat.lt_of_lt_of_le (by decide) hn) (sM_0 hT))) rfl hl.1 rfl (Nat.le_of_ble_eq_true rfl) dX7_road_108 ⟨Nat.le_of_ble_eq_true rfl, Nat.le_of_ble_eq_true rfl⟩ (fun C_63 H locs hq_64 hP hD hS => ?_)
                  obtain ⟨hT, f_65, hq_64⟩ := hq_64
                  have hF := fr_tr hF f_65 (by decide) (by decide)
                  refine W.widen (k := 0) (n := 0) (Nat.le_refl _) (Nat.le_refl _) ?_
                  have t_66 := hT
                  refine lv_aload_n hx hb dX7_road_111 rfl (lv_at hl 1 rfl) ?_
                  refine va_get (D := D) (ci := 7) (v := .ref (a 9)) (C := RX7) (T := TX7) (N := 29) hx hb htg ig_7 hown hK hP 0 (oh_wg (Nat.lt_of_lt_of_le (by decide) hn) (sM_0 hT)) rfl 10 (by decide) (htg _ q_983) (fun _ h9 => h9) rfl dX7_road_112 ?_
                  refine lv_aload_n hx hb dX7_road_115 rfl (lv_at hl 1 rfl) ?_
                  refine va_get (D := D) (ci := 7) (v := .int (gi (C 0) 9)) (C := RX7) (T := TX7) (N := 29) hx hb htg ig_7 hown hK hP 0 (oh_wg (Nat.lt_of_lt_of_le (by decide) hn) (sM_0 hT)) rfl 9 (by decide) (htg _ q_982) (fun _ h9 => h9) (oh_fv (c := C_63 0) (j := 9) rfl (congrArg vi (f_65.2 9 (by decide)))) dX7_road_116 ?_
                  have n_67 : vp_in (gi (C 0) 9) 24 := (rg_in (rn_neu (u' := 23) c_61 (fM_0_9 hT0) (rg_c (v := 24) (lo := 24) (hi := 24) (by decide)) (by decide)) (by decide))
                  have b_68 : (gi (C 0) 9).toNatClampNeg < 24 := vp_lt n_67
                  refine th_aald hx hb hK hP 9 2 (Nat.lt_of_lt_of_le (by decide) hn) (sM_9 hT) rfl n_67 dX7_road_119 ?_
                  refine lv_iconst (v := 2) hx hb dX7_road_120 (by decide) ?_
                  refine lv_iload_n hx hb dX7_road_121 rfl (lv_at hl 4 rfl) ?_
                  refine th_iast (T := TyM a E) (Rl := fr [(8, 9), (24, 48)] [9] C) hx hb hK hP hD hS (24 + (gi (C 0) 9).toNatClampNeg) (lt_blk b_68 hn (by decide)) (hT.broad b_68).1 (rg_in (rg_c (v := 2) (lo := 2) (hi := 2) (by decide)) (by decide)) (hT.uproad b_68 (tA_upd (hT.broad b_68) (tA_stc (show _ = 2 by decide) (rg_il (rgL_i (rg_il (rnL_leu u_36.2 (rnL_lel u_36.1 (rgL_c (v := 1) (lo := 1) (hi := 1) (by decide)) (rgL_i (rg_any _))) (rgL_c (v := 60) (lo := 60) (hi := 60) (by decide)))))) (by decide)))) (fr_st hF (by omega) (inR_of (p := (24, 48)) (by decide) (by show 24 ≤ _; omega) (by show _ < 48; omega))) dX7_road_122 (fun C_69 H locs e_70 hT hF hP hD hS => ?_)
                  have t_71 := hT
                  refine lv_aload_n hx hb dX7_road_123 rfl (lv_at hl 1 rfl) ?_
                  refine va_get (D := D) (ci := 7) (v := .ref (a 9)) (C := RX7) (T := TX7) (N := 29) hx hb htg ig_7 hown hK hP 0 (oh_wg (Nat.lt_of_lt_of_le (by decide) hn) (sM_0 hT)) rfl 10 (by decide) (htg _ q_983) (fun _ h9 => h9) rfl dX7_road_124 ?_
                  refine lv_aload_n hx hb dX7_road_127 rfl (lv_at hl 1 rfl) ?_
                  refine va_get (D := D) (ci := 7) (v := .int (gi (C 0) 9)) (C := RX7) (T := TX7) (N := 29) hx hb htg ig_7 hown hK hP 0 (oh_wg (Nat.lt_of_lt_of_le (by decide) hn) (sM_0 hT)) rfl 9 (by decide) (htg _ q_982) (fun _ h9 => h9) (oh_fv (c := C_69 0) (j := 9) rfl (Eq.trans (congrArg (fun z => gi z 9) (th_un e_70 (by omega))) (congrArg vi (f_65.2 9 (by decide))))) dX7_road_128 ?_
                  have n_72 : vp_in (gi (C 0) 9) 24 := (rg_in (rn_neu (u' := 23) c_61 (fM_0_9 hT0) (rg_c (v := 24) (lo := 24) (hi := 24) (by decide)) (by decide)) (by decide))
                  have b_73 : (gi (C 0) 9).toNatClampNeg < 24 := vp_lt n_72
                  refine th_aald hx hb hK hP 9 2 (Nat.lt_of_lt_of_le (by decide) hn) (sM_9 hT) rfl n_72 dX7_road_131 ?_
                  refine lv_iconst (v := 3) hx hb dX7_road_132 (by decide) ?_
                  refine lv_iload hx hb dX7_road_133 (lv_at hl 5 rfl) ?_
                  refine th_iast (T := TyM a E) (Rl := fr [(8, 9), (24, 48)] [9] C) hx hb hK hP hD hS (24 + (gi (C 0) 9).toNatClampNeg) (lt_blk b_73 hn (by decide)) (hT.broad b_73).1 (rg_in (rg_c (v := 3) (lo := 3) (hi := 3) (by decide)) (by decide)) (hT.uproad b_73 (tA_upd (hT.broad b_73) (tA_stc (show _ = 3 by decide) (rg_il (rgL_i (rg_il (rnL_leu u_46.2 (rnL_lel u_46.1 (rgL_c (v := 0) (lo := 0) (hi := 0) (by decide)) (rgL_i (rg_any _))) (rgL_c (v := 9) (lo := 9) (hi := 9) (by decide)))))) (by decide)))) (fr_st hF (by omega) (inR_of (p := (24, 48)) (by decide) (by show 24 ≤ _; omega) (by show _ < 48; omega))) dX7_road_135 (fun C_74 H locs e_75 hT hF hP hD hS => ?_)
                  have t_76 := hT
                  refine lv_aload_n hx hb dX7_road_136 rfl (lv_at hl 1 rfl) ?_
                  refine va_get (D := D) (ci := 7) (v := .ref (a 9)) (C := RX7) (T := TX7) (N := 29) hx hb htg ig_7 hown hK hP 0 (oh_wg (Nat.lt_of_lt_of_le (by decide) hn) (sM_0 hT)) rfl 10 (by decide) (htg _ q_983) (fun _ h9 => h9) rfl dX7_road_137 ?_
                  refine lv_aload_n hx hb dX7_road_140 rfl (lv_at hl 1 rfl) ?_
                  refine va_get (D := D) (ci := 7) (v := .int (gi (C 0) 9)) (C := RX7) (T := TX7) (N := 29) hx hb htg ig_7 hown hK hP 0 (oh_wg (Nat.lt_of_lt_of_le (by decide) hn) (sM_0 hT)) rfl 9 (by decide) (htg _ q_982) (fun _ h9 => h9) (oh_fv (c := C_74 0) (j := 9) rfl (Eq.trans (congrArg (fun z => gi z 9) (th_un e_75 (by omega))) (Eq.trans (congrArg (fun z => gi z 9) (th_un e_70 (by omega))) (congrArg vi (f_65.2 9 (by decide)))))) dX7_road_141 ?_
                  have n_77 : vp_in (gi (C 0) 9) 24 := (rg_in (rn_neu (u' := 23) c_61 (fM_0_9 hT0) (rg_c (v := 24) (lo := 24) (hi := 24) (by decide)) (by decide)) (by decide))
                  have b_78 : (gi (C 0) 9).toNatClampNeg < 24 := vp_lt n_77
                  refine th_aald hx hb hK hP 9 2 (Nat.lt_of_lt_of_le (by decide) hn) (sM_9 hT) rfl n_77 dX7_road_144 ?_
                  refine lv_iconst (v := 4) hx hb dX7_road_145 (by decide) ?_
                  refine lv_iload hx hb dX7_road_146 (lv_at hl 6 rfl) ?_
                  refine th_iast (T := TyM a E) (Rl := fr [(8, 9), (24, 48)] [9] C) hx hb hK hP hD hS (24 + (gi (C 0) 9).toNatClampNeg) (lt_blk b_78 hn (by decide)) (hT.broad b_78).1 (rg_in (rg_c (v := 4) (lo := 4) (hi := 4) (by decide)) (by decide)) (hT.uproad b_78 (tA_upd (hT.broad b_78) (tA_stc (show _ = 4 by decide) (rg_il (rgL_i (rg_il (rnL_leu u_56.2 (rnL_lel u_56.1 (rgL_c (v := 1) (lo := 1) (hi := 1) (by decide)) (rgL_i (rg_any _))) (rgL_c (v := 99) (lo := 99) (hi := 99) (by decide)))))) (by decide)))) (fr_st hF (by omega) (inR_of (p := (24, 48)) (by decide) (by show 24 ≤ _; omega) (by show _ < 48; omega))) dX7_road_148 (fun C_79 H locs e_80 hT hF hP hD hS => ?_)
                  have t_81 := hT
                  refine lv_aload_n hx hb dX7_road_149 rfl (lv_at hl 1 rfl) ?_
                  refine va_get (D := D) (ci := 7) (v := .ref (a 9)) (C := RX7) (T := TX7) (N := 29) hx hb htg ig_7 hown hK hP 0 (oh_wg (Nat.lt_of_lt_of_le (by decide) hn) (sM_0 hT)) rfl 10 (by decide) (htg _ q_983) (fun _ h9 => h9) rfl dX7_road_150 ?_
                  refine lv_aload_n hx hb dX7_road_153 rfl (lv_at hl 1 rfl) ?_
                  refine va_get (D := D) (ci := 7) (v := .int (gi (C 0) 9)) (C := RX7) (T := TX7) (N := 29) hx hb htg ig_7 hown hK hP 0 (oh_wg (Nat.lt_of_lt_of_le (by decide) hn) (sM_0 hT)) rfl 9 (by decide) (htg _ q_982) (fun _ h9 => h9) (oh_fv (c := C_79 0) (j := 9) rfl (Eq.trans (congrArg (fun z => gi z 9) (th_un e_80 (by omega))) (Eq.trans (congrArg (fun z => gi z 9) (th_un e_75 (by omega))) (Eq.trans (congrArg (fun z => gi z 9) (th_un e_70 (by omega))) (congrArg vi (f_65.2 9 (by decide))))))) dX7_road_154 ?_
                  have n_82 : vp_in (gi (C 0) 9) 24 := (rg_in (rn_neu (u' := 23) c_61 (fM_0_9 hT0) (rg_c (v := 24) (lo := 24) (hi := 24) (by decide)) (by decide)) (by decide))
                  have b_83 : (gi (C 0) 9).toNatClampNeg < 24 := vp_lt n_82
                  refine th_aald hx hb hK hP 9 2 (Nat.lt_of_lt_of_le (by decide) hn) (sM_9 hT) rfl n_82 dX7_road_157 ?_
                  refine lv_iconst (v := 5) hx hb dX7_road_158 (by decide) ?_
                  refine lv_iload hx hb dX7_road_159 (lv_at hl 7 rfl) ?_
                  refine th_iast (T := TyM a E) (Rl := fr [(8, 9), (24, 48)] [9] C) hx hb hK hP hD hS (24 + (gi (C 0) 9).toNatClampNeg) (lt_blk b_83 hn (by decide)) (hT.broad b_83).1 (rg_in (rg_c (v := 5) (lo := 5) (hi := 5) (by decide)) (by decide)) (hT.uproad b_83 (tA_upd (hT.broad b_83) (tA_stc (show _ = 5 by decide) (rg_il (rgL_i (rg_il (rnL_leu u_60.2 (rnL_lel u_60.1 (rgL_c (v := 0) (lo := 0) (hi := 0) (by decide)) (rgL_i (rg_any _))) (rgL_c (v := 15) (lo := 15) (hi := 15) (by decide)))))) (by decide)))) (fr_st hF (by omega) (inR_of (p := (24, 48)) (by decide) (by show 24 ≤ _; omega) (by show _ < 48; omega))) dX7_road_161 (fun C_84 H locs e_85 hT hF hP hD hS => ?_)
                  have t_86 := hT
                  refine lv_aload_n hx hb dX7_road_162 rfl (lv_at hl 1 rfl) ?_
                  refine lv_dup hx hb dX7_road_163 rfl ?_
                  refine va_get (D := D) (ci := 7) (v := .int (gi (C 0) 9)) (C := RX7) (T := TX7) (N := 29) hx hb htg ig_7 hown hK hP 0 (oh_wg (Nat.lt_of_lt_of_le (by decide) hn) (sM_0 hT)) rfl 9 (by decide) (htg _ q_982) (fun _ h9 => h9) (oh_fv (c := C_84 0) (j := 9) rfl (Eq.trans (congrArg (fun z => gi z 9) (th_un e_85 (by omega))) (Eq.trans (congrArg (fun z => gi z 9) (th_un e_80 (by omega))) (Eq.trans (congrArg (fun z => gi z 9) (th_un e_75 (by omega))) (Eq.trans (congrArg (fun z => gi z 9) (th_un e_70 (by omega))) (congrArg vi (f_65.2 9 (by decide)))))))) dX7_road_164 ?_
                  refine lv_dup_x1 hx hb dX7_road_167 rfl rfl ?_
                  refine lv_iconst (v := 1) hx hb dX7_road_168 (by decide) ?_
                  refine lv_iadd hx hb dX7_road_169 ?_
                  refine th_put (Tp := TyM a E) (Rl := fr [(8, 9), (24, 48)] [9] C) (ci := 7) (v := .int ((gi (C 0) 9) + 1)) (ty := .int) (CC := RX7) (T := TX7) (N := 29) hx hb htg ig_7 tyX7 tyX7_ok nmX7 hown hK hP hD hS 0 (Nat.lt_of_lt_of_le (by decide) hn) (sM_0 hT) rfl 9 (by decide) (htg _ q_982) (fun _ h9 => h9) rfl (by decide +kernel) rfl rfl (Nat.le_of_ble_eq_true rfl) (hT.up 0 (by decide) ⟨rfl, (fM_0_7 hT), (rg_w (rg_add (lo := 1) (hi := 24) (rn_neu (u' := 23) c_61 (fM_0_9 hT0) (rg_c (v := 24) (lo := 24) (hi := 24) (by decide)) (by decide)) (rg_c (v := 1) (lo := 1) (hi := 1) (by decide)) (by decide)) (by decide)), (fM_0_11 hT), (fM_0_13 hT), (fM_0_15 hT), (fM_0_21 hT), (fM_0_23 hT)⟩) (fr_fd hF (sM_0 hT) (by decide)) dX7_road_170 (fun C_87 H locs e_88 hT hF hP hD hS => ?_)
                  have t_89 := hT
                  have hrw_90 : ∀ j, j < 7 → ga (C_87 (24 + (gi (C 0) 9).toNatClampNeg)) j = rwf [x1, x2, x3, x4, x5, x6, 0] j := rows7 (Eq.trans (congrArg (fun z => ga z ((0 : Int32)).toNatClampNeg) (th_un e_88 (by omega))) (Eq.trans (show ga (C_84 (24 + (gi (C 0) 9).toNatClampNeg)) ((0 : Int32)).toNatClampNeg = ga (C_79 (24 + (gi (C 0) 9).toNatClampNeg)) ((0 : Int32)).toNatClampNeg by rw [st_ga e_85]; exact pk_un (by decide)) (Eq.trans (show ga (C_79 (24 + (gi (C 0) 9).toNatClampNeg)) ((0 : Int32)).toNatClampNeg = ga (C_74 (24 + (gi (C 0) 9).toNatClampNeg)) ((0 : Int32)).toNatClampNeg by rw [st_ga e_80]; exact pk_un (by decide)) (Eq.trans (show ga (C_74 (24 + (gi (C 0) 9).toNatClampNeg)) ((0 : Int32)).toNatClampNeg = ga (C_69 (24 + (gi (C 0) 9).toNatClampNeg)) ((0 : Int32)).toNatClampNeg by rw [st_ga e_75]; exact pk_un (by decide)) (Eq.trans (show ga (C_69 (24 + (gi (C 0) 9).toNatClampNeg)) ((0 : Int32)).toNatClampNeg = ga (C_63 (24 + (gi (C 0) 9).toNatClampNeg)) ((0 : Int32)).toNatClampNeg by rw [st_ga e_70]; exact pk_un (by decide)) (hq_64.1 ((0 : Int32)).toNatClampNeg (by decide))))))) (Eq.trans (congrArg (fun z => ga z ((1 : Int32)).toNatClampNeg) (th_un e_88 (by omega))) (Eq.trans (show ga (C_84 (24 + (gi (C 0) 9).toNatClampNeg)) ((1 : Int32)).toNatClampNeg = ga (C_79 (24 + (gi (C 0) 9).toNatClampNeg)) ((1 : Int32)).toNatClampNeg by rw [st_ga e_85]; exact pk_un (by decide)) (Eq.trans (show ga (C_79 (24 + (gi (C 0) 9).toNatClampNeg)) ((1 : Int32)).toNatClampNeg = ga (C_74 (24 + (gi (C 0) 9).toNatClampNeg)) ((1 : Int32)).toNatClampNeg by rw [st_ga e_80]; exact pk_un (by decide)) (Eq.trans (show ga (C_74 (24 + (gi (C 0) 9).toNatClampNeg)) ((1 : Int32)).toNatClampNeg = ga (C_69 (24 + (gi (C 0) 9).toNatClampNeg)) ((1 : Int32)).toNatClampNeg by rw [st_ga e_75]; exact pk_un (by decide)) (Eq.trans (show ga (C_69 (24 + (gi (C 0) 9).toNatClampNeg)) ((1 : Int32)).toNatClampNeg = ga (C_63 (24 + (gi (C 0) 9).toNatClampNeg)) ((1 : Int32)).toNatClampNeg by rw [st_ga e_70]; exact pk_un (by decide)) (hq_64.1 ((1 : Int32)).toNatClampNeg (by decide))))))) (Eq.trans (congrArg (fun z => ga z ((2 : Int32)).toNatClampNeg) (th_un e_88 (by omega))) (Eq.trans (show ga (C_84 (24 + (gi (C 0) 9).toNatClampNeg)) ((2 : Int32)).toNatClampNeg = ga (C_79 (24 + (gi (C 0) 9).toNatClampNeg)) ((2 : Int32)).toNatClampNeg by rw [st_ga e_85]; exact pk_un (by decide)) (Eq.trans (show ga (C_79 (24 + (gi (C 0) 9).toNatClampNeg)) ((2 : Int32)).toNatClampNeg = ga (C_74 (24 + (gi (C 0) 9).toNatClampNeg)) ((2 : Int32)).toNatClampNeg by rw [st_ga e_80]; exact pk_un (by decide)) (Eq.trans (show ga (C_74 (24 + (gi (C 0) 9).toNatClampNeg)) ((2 : Int32)).toNatClampNeg = ga (C_69 (24 + (gi (C 0) 9).toNatClampNeg)) ((2 : Int32)).toNatClampNeg by rw [st_ga e_75]; exact pk_un (by decide)) (show ga (C_69 (24 + (gi (C 0) 9).toNatClampNeg)) ((2 : Int32)).toNatClampNeg = x3 by rw [st_ga e_70]; exact pk_us))))) (Eq.trans (congrArg (fun z => ga z ((3 : Int32)).toNatClampNeg) (th_un e_88 (by omega))) (Eq.trans (show ga (C_84 (24 + (gi (C 0) 9).toNatClampNeg)) ((3 : Int32)).toNatClampNeg = ga (C_79 (24 + (gi (C 0) 9).toNatClampNeg)) ((3 : Int32)).toNatClampNeg by rw [st_ga e_85]; exact pk_un (by decide)) (Eq.trans (show ga (C_79 (24 + (gi (C 0) 9).toNatClampNeg)) ((3 : Int32)).toNatClampNeg = ga (C_74 (24 + (gi (C 0) 9).toNatClampNeg)) ((3 : Int32)).toNatClampNeg by rw [st_ga e_80]; exact pk_un (by decide)) (show ga (C_74 (24 + (gi (C 0) 9).toNatClampNeg)) ((3 : Int32)).toNatClampNeg = x4 by rw [st_ga e_75]; exact pk_us)))) (Eq.trans (congrArg (fun z => ga z ((4 : Int32)).toNatClampNeg) (th_un e_88 (by omega))) (Eq.trans (show ga (C_84 (24 + (gi (C 0) 9).toNatClampNeg)) ((4 : Int32)).toNatClampNeg = ga (C_79 (24 + (gi (C 0) 9).toNatClampNeg)) ((4 : Int32)).toNatClampNeg by rw [st_ga e_85]; exact pk_un (by decide)) (show ga (C_79 (24 + (gi (C 0) 9).toNatClampNeg)) ((4 : Int32)).toNatClampNeg = x5 by rw [st_ga e_80]; exact pk_us))) (Eq.trans (congrArg (fun z => ga z ((5 : Int32)).toNatClampNeg) (th_un e_88 (by omega))) (show ga (C_84 (24 + (gi (C 0) 9).toNatClampNeg)) ((5 : Int32)).toNatClampNeg = x6 by rw [st_ga e_85]; exact pk_us)) (Eq.trans (congrArg (fun z => ga z ((6 : Int32)).toNatClampNeg) (th_un e_88 (by omega))) (Eq.trans (show ga (C_84 (24 + (gi (C 0) 9).toNatClampNeg)) ((6 : Int32)).toNatClampNeg = ga (C_79 (24 + (gi (C 0) 9).toNatClampNeg)) ((6 : Int32)).toNatClampNeg by rw [st_ga e_85]; exact pk_un (by decide)) (Eq.trans (show ga (C_79 (24 + (gi (C 0) 9).toNatClampNeg)) ((6 : Int32)).toNatClampNeg = ga (C_74 (24 + (gi (C 0) 9).toNatClampNeg)) ((6 : Int32)).toNatClampNeg by rw [st_ga e_80]; exact pk_un (by decide)) (Eq.trans (show ga (C_74 (24 + (gi (C 0) 9).toNatClampNeg)) ((6 : Int32)).toNatClampNeg = ga (C_69 (24 + (gi (C 0) 9).toNatClampNeg)) ((6 : Int32)).toNatClampNeg by rw [st_ga e_75]; exact pk_un (by decide)) (Eq.trans (show ga (C_69 (24 + (gi (C 0) 9).toNatClampNeg)) ((6 : Int32)).toNatClampNeg = ga (C_63 (24 + (gi (C 0) 9).toNatClampNeg)) ((6 : Int32)).toNatClampNeg by rw [st_ga e_70]; exact pk_un (by decide)) (hq_64.1 ((6 : Int32)).toNatClampNeg (by decide)))))))
                  have ho_91 : ∀ i, i ≠ (gi (C 0) 9).toNatClampNeg → C_87 (24 + i) = C (24 + i) := (fun i hne => (Eq.trans (th_un e_88 (by omega)) (Eq.trans (th_un e_85 (by omega)) (Eq.trans (th_un e_80 (by omega)) (Eq.trans (th_un e_75 (by omega)) (Eq.trans (th_un e_70 (by omega)) (hq_64.2 i hne)))))))
                  rw [hQ]
                  exact W.iret (v := gi (C 0) 9) hx hb hr (fun t ht hW => ⟨⟨gi (C 0) 9, C_87, rfl, ⟨hT, hF, ⟨⟨hR.1.fr hF (by decide), hR.2.fr hF (by decide)⟩, (fun A hA => spM_y (t := 0) hT0 hA (by decide) ⟨(oh_rgI (p := 0) (q := 15) (rg_w (lo := 0) (hi := 15) u_10 (by decide))), (oh_rgI (p := 0) (q := 15) (rg_w (lo := 0) (hi := 15) u_20 (by decide))), c_21, (oh_rgI (p := 1) (q := 60) (rg_w (lo := 1) (hi := 60) (rg_il (rgL_i (rg_il (rnL_leu u_36.2 (rnL_lel u_36.1 (rgL_c (v := 1) (lo := 1) (hi := 1) (by decide)) (rgL_i (rg_any _))) (rgL_c (v := 60) (lo := 60) (hi := 60) (by decide)))))) (by decide))), (oh_rgI (p := 0) (q := 9) (rg_w (lo := 0) (hi := 9) (rg_il (rgL_i (rg_il (rnL_leu u_46.2 (rnL_lel u_46.1 (rgL_c (v := 0) (lo := 0) (hi := 0) (by decide)) (rgL_i (rg_any _))) (rgL_c (v := 9) (lo := 9) (hi := 9) (by decide)))))) (by decide))), (oh_rgI (p := 1) (q := 99) (rg_w (lo := 1) (hi := 99) (rg_il (rgL_i (rg_il (rnL_leu u_56.2 (rnL_lel u_56.1 (rgL_c (v := 1) (lo := 1) (hi := 1) (by decide)) (rgL_i (rg_any _))) (rgL_c (v := 99) (lo := 99) (hi := 99) (by decide)))))) (by decide))), (oh_rgI (p := 0) (q := 15) (rg_w (lo := 0) (hi := 15) (rg_il (rgL_i (rg_il (rnL_leu u_60.2 (rnL_lel u_60.1 (rgL_c (v := 0) (lo := 0) (hi := 0) (by decide)) (rgL_i (rg_any _))) (rgL_c (v := 15) (lo := 15) (hi := 15) (by decide)))))) (by decide)))⟩ (oh_room24 (fM_0_9 hT0) (by decide) c_61) rfl (show gi (C_87 0) 9 = ((gi (C 0) 9) + 1) by rw [e_88]; rfl) hrw_90 ho_91 hF (by decide) (by decide) (by decide))⟩⟩, ⟨by rw [ht]; exact hP, hD⟩⟩, hS.F ht⟩) hS.2.2 dX7_road_173
                · refine lv_aload_n hx hb dX7_road_98 rfl (lv_at hl 1 rfl) ?_
                  refine lv_bipush (v := (-6)) hx hb dX7_road_99 (by decide) ?_
                  refine tm_V (As := [.int (-6)]) (rest := []) ⟨hx, hb, hml, hown, htg⟩ (c_X7_refuse l D E G _ a C n hn hT ((-6) : Int32) (rg_w (rg_c (v := (-6)) (lo := (-6)) (hi := (-6)) (by decide)) (by decide))) (cwV 1 htg (oh_gV q_1071 q_1073 q_29 q_73 q_1074) rfl rfl rfl pdVX7_refuse ⟨Nat.le_of_ble_eq_true rfl, Nat.le_of_ble_eq_true rfl⟩) hK hP hD hG hS hA (va_recv hK hP (ci := 7) (q0 := 0) rfl (oh_wg (Nat.lt_of_lt_of_le (by decide) hn) (sM_0 hT))) rfl hl.1 rfl (Nat.le_of_ble_eq_true rfl) dX7_road_101 ⟨Nat.le_of_ble_eq_true rfl, Nat.le_of_ble_eq_true rfl⟩ (fun r_92 C_93 H locs hq_94 hP hD hS => ?_)
                  obtain ⟨hT, f_95, hq_94⟩ := hq_94
                  have hF := fr_tr hF f_95 (by decide) (by decide)
                  refine W.widen (k := 0) (n := 0) (Nat.le_refl _) (Nat.le_refl _) ?_
                  have t_96 := hT
                  rw [hQ]
                  exact W.iret (v := r_92) hx hb hr (fun t ht hW => ⟨⟨r_92, C_93, rfl, ⟨hT, hF, ⟨⟨hR.1.fr hF (by decide), hR.2.fr hF (by decide)⟩, (fun A hA => pr_b (P := fun z => absM C_93 z) (spRow_f ⟨(oh_rgI (p := 0) (q := 15) (rg_w (lo := 0) (hi := 15) u_10 (by decide))), (oh_rgI (p := 0) (q := 15) (rg_w (lo := 0) (hi := 15) u_20 (by decide))), c_21, (oh_rgI (p := 1) (q := 60) (rg_w (lo := 1) (hi := 60) (rg_il (rgL_i (rg_il (rnL_leu u_36.2 (rnL_lel u_36.1 (rgL_c (v := 1) (lo := 1) (hi := 1) (by decide)) (rgL_i (rg_any _))) (rgL_c (v := 60) (lo := 60) (hi := 60) (by decide)))))) (by decide))), (oh_rgI (p := 0) (q := 9) (rg_w (lo := 0) (hi := 9) (rg_il (rgL_i (rg_il (rnL_leu u_46.2 (rnL_lel u_46.1 (rgL_c (v := 0) (lo := 0) (hi := 0) (by decide)) (rgL_i (rg_any _))) (rgL_c (v := 9) (lo := 9) (hi := 9) (by decide)))))) (by decide))), (oh_rgI (p := 1) (q := 99) (rg_w (lo := 1) (hi := 99) (rg_il (rgL_i (rg_il (rnL_leu u_56.2 (rnL_lel u_56.1 (rgL_c (v := 1) (lo := 1) (hi := 1) (by decide)) (rgL_i (rg_any _))) (rgL_c (v := 99) (lo := 99) (hi := 99) (by decide)))))) (by decide))), (oh_rgI (p := 0) (q := 15) (rg_w (lo := 0) (hi := 15) (rg_il (rgL_i (rg_il (rnL_leu u_60.2 (rnL_lel u_60.1 (rgL_c (v := 0) (lo := 0) (hi := 0) (by decide)) (rgL_i (rg_any _))) (rgL_c (v := 15) (lo := 15) (hi := 15) (by decide)))))) (by decide)))⟩ (by rw [← hA.1 0 (by decide)]; exact oh_full c_61)) hq_94 (absM_fr hA hT0 (show fr [(8, 9)] [] C C_93 from (fr_tr fr_rf f_95 (by decide) (by decide))) (by decide) (by decide) (by decide)))⟩⟩, ⟨by rw [ht]; exact hP, hD⟩⟩, hS.F ht⟩) hS.2.2 dX7_road_104
              · have u_97 := hq_58.2.2 c_59
                refine lv_aload_n hx hb dX7_road_82 rfl (lv_at hl 1 rfl) ?_
                refine lv_bipush (v := (-2)) hx hb dX7_road_83 (by decide) ?_
                refine tm_V (As := [.int (-2)]) (rest := []) ⟨hx, hb, hml, hown, htg⟩ (c_X7_refuse l D E G _ a C n hn hT ((-2) : Int32) (rg_w (rg_c (v := (-2)) (lo := (-2)) (hi := (-2)) (by decide)) (by decide))) (cwV 1 htg (oh_gV q_1071 q_1073 q_29 q_73 q_1074) rfl rfl rfl pdVX7_refuse ⟨Nat.le_of_ble_eq_true rfl, Nat.le_of_ble_eq_true rfl⟩) hK hP hD hG hS hA (va_recv hK hP (ci := 7) (q0 := 0) rfl (oh_wg (Nat.lt_of_lt_of_le (by decide) hn) (sM_0 hT))) rfl hl.1 rfl (Nat.le_of_ble_eq_true rfl) dX7_road_85 ⟨Nat.le_of_ble_eq_true rfl, Nat.le_of_ble_eq_true rfl⟩ (fun r_98 C_99 H locs hq_100 hP hD hS => ?_)
                obtain ⟨hT, f_101, hq_100⟩ := hq_100
                have hF := fr_tr hF f_101 (by decide) (by decide)
                refine W.widen (k := 0) (n := 0) (Nat.le_refl _) (Nat.le_refl _) ?_
                have t_102 := hT
                rw [hQ]
                exact W.iret (v := r_98) hx hb hr (fun t ht hW => ⟨⟨r_98, C_99, rfl, ⟨hT, hF, ⟨⟨hR.1.fr hF (by decide), hR.2.fr hF (by decide)⟩, (fun A hA => pr_b (P := fun z => absM C_99 z) (spRow_b (fun h8 => (oh_in64 (l' := 0) (k' := 15) rfl rfl u_97) h8.2.2.2.2.2.2)) hq_100 (absM_fr hA hT0 (show fr [(8, 9)] [] C C_99 from (fr_tr fr_rf f_101 (by decide) (by decide))) (by decide) (by decide) (by decide)))⟩⟩, ⟨by rw [ht]; exact hP, hD⟩⟩, hS.F ht⟩) hS.2.2 dX7_road_88

set_option maxHeartbeats 4000000 in
set_option maxRecDepth 100000 in
theorem e_X7_bridge (l : Launch) (D : va_G) (E : Nat → ClassId) (G : Nat → Nat) (sz : Nat) (a : Nat → Nat) (C : Nat → va_E) (n : Nat) (hn : 74 ≤ n) (hT : TyM a E C) (x1 : Int32) (x2 : Int32) (x3 : Int32) (x4 : Int32) (x5 : Int32) (hR : RelM C) : Met l yX7_bridge (oh_w yX7_bridge cX7_bridge 6 (some .int)) ({ frames := 2, cells := 0, slots := 0, locals := 46 }) (oh_Pm D E G [.ref (a 0), .int x1, .int x2, .int x3, .int x4, .int x5] (oh_W n a C) sz) (va_Qi (fun r (u : Nat → va_E) => TyM a E u ∧ fr [(8, 9), (48, 64)] [11] C u ∧ (RelM u) ∧ (∀ A : LA, absM C A → r = (spRow A 1 16 (okBr (A 5 0 0) x1 x2 x3 x4 x5) (rwf [x1, x2, x3, x4, x5, 0, 0, 0, 0, 0])).1 ∧ absM u (spRow A 1 16 (okBr (A 5 0 0) x1 x2 x3 x4 x5) (rwf [x1, x2, x3, x4, x5, 0, 0, 0, 0, 0])).2)) (oh_B D (va_A (oh_W n a C) sz) (fun u => oh_W n a u)) (va_A (oh_W n a C) sz)) 0 0 (va_A (oh_W n a C) sz) := by
  refine Met.ofW (cc := cX7_bridge) (maxL := 6) (ret := (some .int)) (by decide) rfl ?_
  intro p e s m args below meth c s₁ B hml hv
  obtain ⟨rfl, hsz, hP, hK, hD0, hG⟩ := hv
  have hx := B.exec
  have hb := B.bytes
  have hr := B.returns
  have hts := atoms_spec (ws := (oh_w yX7_bridge cX7_bridge 6 (some .int))) B.pre
  have htg : ∀ w ∈ oh_t, w.before _ s = true := fun w h => hts w (List.mem_cons_of_mem _ h)
  have hown : s.vm.findClass RX7 = some m.cls := findClass_of_methodNamed B.named
  have hlocks := B.notSynchronized
  have hT0 := hT
  subst hsz
  have hD := hD0.self (sz := s.heap.size)
  generalize hAe : va_A (oh_W n a C) s.heap.size = A at hD hG ⊢
  have hA : ∀ q : Nat, s.heap.size ≤ q → A q := fun q h => by rw [← hAe]; exact Or.inr h
  have hS : va_S A s.heap s.heap [] := va_S.rf
  have hF : fr [(8, 9), (48, 64)] [11] C C := fr_rf
  have hl := lv_entry ([.ref (a 0), .int x1, .int x2, .int x3, .int x4, .int x5]) (n := 6) (Nat.le_of_ble_eq_true rfl)
  rw [lg_entry_eq]
  generalize (lg_sl ([.ref (a 0), .int x1, .int x2, .int x3, .int x4, .int x5]) ++ List.replicate (6 - (lg_sl ([.ref (a 0), .int x1, .int x2, .int x3, .int x4, .int x5])).length) Slot.unset).toArray = ls at hl ⊢
  have hl : lv_has ls 6 [(0, .ref (a 0)), (1, .int x1), (2, .int x2), (3, .int x3), (4, .int x4), (5, .int x5)] := hl
  refine oh_genQ (fun Q hQ => ?_)
  refine lv_aload_n hx hb dX7_bridge_0 rfl (lv_at hl 0 rfl) ?_
  refine lv_iload_n hx hb dX7_bridge_1 rfl (lv_at hl 1 rfl) ?_
  refine tq_V (As := [.int x1]) (rest := []) (ws := (oh_W n a C)) ⟨hx, hb, hml, hown, htg⟩ (e_X7_isRoad l D E G a C n hn hT x1) (cwV 1 htg (oh_gV q_1145 q_1147 q_36 q_73 q_1148) rfl rfl rfl pdVX7_isRoad ⟨Nat.le_of_ble_eq_true rfl, Nat.le_of_ble_eq_true rfl⟩) hK hP hG hS (va_recv hK hP (ci := 7) (q0 := 0) rfl (oh_wg (Nat.lt_of_lt_of_le (by decide) hn) (sM_0 hT))) rfl hl.1 rfl (Nat.le_of_ble_eq_true rfl) dX7_bridge_2 ⟨Nat.le_of_ble_eq_true rfl, Nat.le_of_ble_eq_true rfl⟩ (fun r_1 hq_2 => ?_)
  refine lv_if_eq (tgt := 58) hx hb dX7_bridge_5 (by decide) (fun (c_3 : r_1 = 0) => ?_) (fun (c_3 : ¬ (r_1 = 0)) => ?_)
  · have u_4 := hq_2.2.2 c_3
    refine lv_aload_n hx hb dX7_bridge_58 rfl (lv_at hl 0 rfl) ?_
    refine lv_bipush (v := (-2)) hx hb dX7_bridge_59 (by decide) ?_
    refine tm_V (As := [.int (-2)]) (rest := []) ⟨hx, hb, hml, hown, htg⟩ (c_X7_refuse l D E G _ a C n hn hT ((-2) : Int32) (rg_w (rg_c (v := (-2)) (lo := (-2)) (hi := (-2)) (by decide)) (by decide))) (cwV 1 htg (oh_gV q_1071 q_1073 q_29 q_73 q_1074) rfl rfl rfl pdVX7_refuse ⟨Nat.le_of_ble_eq_true rfl, Nat.le_of_ble_eq_true rfl⟩) hK hP hD hG hS hA (va_recv hK hP (ci := 7) (q0 := 0) rfl (oh_wg (Nat.lt_of_lt_of_le (by decide) hn) (sM_0 hT))) rfl hl.1 rfl (Nat.le_of_ble_eq_true rfl) dX7_bridge_61 ⟨Nat.le_of_ble_eq_true rfl, Nat.le_of_ble_eq_true rfl⟩ (fun r_5 C_6 H locs hq_7 hP hD hS => ?_)
    obtain ⟨hT, f_8, hq_7⟩ := hq_7
    have hF := fr_tr hF f_8 (by decide) (by decide)
    refine W.widen (k := 0) (n := 0) (Nat.le_refl _) (Nat.le_refl _) ?_
    have t_9 := hT
    rw [hQ]
    exact W.iret (v := r_5) hx hb hr (fun t ht hW => ⟨⟨r_5, C_6, rfl, ⟨hT, hF, ⟨⟨hR.1.fr hF (by decide), hR.2.fr hF (by decide)⟩, (fun A hA => by rw [← show gi (C 0) 9 = A 5 0 0 from hA.1 0 (by decide)]; exact pr_b (P := fun z => absM C_6 z) (spRow_b (fun h8 => u_4 h8.1)) hq_7 (absM_fr hA hT0 (show fr [(8, 9)] [] C C_6 from (fr_tr fr_rf f_8 (by decide) (by decide))) (by decide) (by decide) (by decide)))⟩⟩, ⟨by rw [ht]; exact hP, hD⟩⟩, hS.F ht⟩) hS.2.2 dX7_bridge_64
  · have u_10 := hq_2.2.1 c_3
    refine lv_iload_n hx hb dX7_bridge_8 rfl (lv_at hl 2 rfl) ?_
    refine lv_i2l (v := Int32.toInt64 x2) hx hb dX7_bridge_9 (by rfl) ?_
    refine lv_lconst (v := 0) hx hb dX7_bridge_10 (by decide) ?_
    refine lv_ldc2 (v := 5) hx hb hown (htg _ q_1106) dX7_bridge_11 ?_
    refine tq_S (As := [.long (Int32.toInt64 x2), .long 0, .long 5]) (rest := []) (ws := []) ⟨hx, hb, hml, hown, htg⟩ (c_X7_in l D E G (Int32.toInt64 x2) (0 : Int64) (5 : Int64)) (va_cwS 3 htg (oh_gS q_1066 q_1067 q_73 q_1068) rfl rfl rfl pdX7_in ⟨Nat.le_of_ble_eq_true rfl, Nat.le_of_ble_eq_true rfl⟩) hK va_nil hG hS rfl hl.1 rfl (Nat.le_of_ble_eq_true rfl) dX7_bridge_14 ⟨Nat.le_of_ble_eq_true rfl, Nat.le_of_ble_eq_true rfl⟩ (fun r_11 hq_12 => ?_)
    refine lv_if_eq (tgt := 58) hx hb dX7_bridge_17 (by decide) (fun (c_13 : r_11 = 0) => ?_) (fun (c_13 : ¬ (r_11 = 0)) => ?_)
    · have u_14 := hq_12.2.2 c_13
      refine lv_aload_n hx hb dX7_bridge_58 rfl (lv_at hl 0 rfl) ?_
      refine lv_bipush (v := (-2)) hx hb dX7_bridge_59 (by decide) ?_
      refine tm_V (As := [.int (-2)]) (rest := []) ⟨hx, hb, hml, hown, htg⟩ (c_X7_refuse l D E G _ a C n hn hT ((-2) : Int32) (rg_w (rg_c (v := (-2)) (lo := (-2)) (hi := (-2)) (by decide)) (by decide))) (cwV 1 htg (oh_gV q_1071 q_1073 q_29 q_73 q_1074) rfl rfl rfl pdVX7_refuse ⟨Nat.le_of_ble_eq_true rfl, Nat.le_of_ble_eq_true rfl⟩) hK hP hD hG hS hA (va_recv hK hP (ci := 7) (q0 := 0) rfl (oh_wg (Nat.lt_of_lt_of_le (by decide) hn) (sM_0 hT))) rfl hl.1 rfl (Nat.le_of_ble_eq_true rfl) dX7_bridge_61 ⟨Nat.le_of_ble_eq_true rfl, Nat.le_of_ble_eq_true rfl⟩ (fun r_15 C_16 H locs hq_17 hP hD hS => ?_)
      obtain ⟨hT, f_18, hq_17⟩ := hq_17
      have hF := fr_tr hF f_18 (by decide) (by decide)
      refine W.widen (k := 0) (n := 0) (Nat.le_refl _) (Nat.le_refl _) ?_
      have t_19 := hT
      rw [hQ]
      exact W.iret (v := r_15) hx hb hr (fun t ht hW => ⟨⟨r_15, C_16, rfl, ⟨hT, hF, ⟨⟨hR.1.fr hF (by decide), hR.2.fr hF (by decide)⟩, (fun A hA => by rw [← show gi (C 0) 9 = A 5 0 0 from hA.1 0 (by decide)]; exact pr_b (P := fun z => absM C_16 z) (spRow_b (fun h8 => (oh_in64 (l' := 0) (k' := 5) rfl rfl u_14) h8.2.1)) hq_17 (absM_fr hA hT0 (show fr [(8, 9)] [] C C_16 from (fr_tr fr_rf f_18 (by decide) (by decide))) (by decide) (by decide) (by decide)))⟩⟩, ⟨by rw [ht]; exact hP, hD⟩⟩, hS.F ht⟩) hS.2.2 dX7_bridge_64
    · have u_20 := hq_12.2.1 c_13
      refine lv_iload_n hx hb dX7_bridge_20 rfl (lv_at hl 3 rfl) ?_
      refine lv_i2l (v := Int32.toInt64 x3) hx hb dX7_bridge_21 (by rfl) ?_
      refine lv_lconst (v := 0) hx hb dX7_bridge_22 (by decide) ?_
      refine lv_ldc2 (v := 60) hx hb hown (htg _ q_1134) dX7_bridge_23 ?_
      refine tq_S (As := [.long (Int32.toInt64 x3), .long 0, .long 60]) (rest := []) (ws := []) ⟨hx, hb, hml, hown, htg⟩ (c_X7_in l D E G (Int32.toInt64 x3) (0 : Int64) (60 : Int64)) (va_cwS 3 htg (oh_gS q_1066 q_1067 q_73 q_1068) rfl rfl rfl pdX7_in ⟨Nat.le_of_ble_eq_true rfl, Nat.le_of_ble_eq_true rfl⟩) hK va_nil hG hS rfl hl.1 rfl (Nat.le_of_ble_eq_true rfl) dX7_bridge_26 ⟨Nat.le_of_ble_eq_true rfl, Nat.le_of_ble_eq_true rfl⟩ (fun r_21 hq_22 => ?_)
      refine lv_if_eq (tgt := 58) hx hb dX7_bridge_29 (by decide) (fun (c_23 : r_21 = 0) => ?_) (fun (c_23 : ¬ (r_21 = 0)) => ?_)
      · have u_24 := hq_22.2.2 c_23
        refine lv_aload_n hx hb dX7_bridge_58 rfl (lv_at hl 0 rfl) ?_
        refine lv_bipush (v := (-2)) hx hb dX7_bridge_59 (by decide) ?_
        refine tm_V (As := [.int (-2)]) (rest := []) ⟨hx, hb, hml, hown, htg⟩ (c_X7_refuse l D E G _ a C n hn hT ((-2) : Int32) (rg_w (rg_c (v := (-2)) (lo := (-2)) (hi := (-2)) (by decide)) (by decide))) (cwV 1 htg (oh_gV q_1071 q_1073 q_29 q_73 q_1074) rfl rfl rfl pdVX7_refuse ⟨Nat.le_of_ble_eq_true rfl, Nat.le_of_ble_eq_true rfl⟩) hK hP hD hG hS hA (va_recv hK hP (ci := 7) (q0 := 0) rfl (oh_wg (Nat.lt_of_lt_of_le (by decide) hn) (sM_0 hT))) rfl hl.1 rfl (Nat.le_of_ble_eq_true rfl) dX7_bridge_61 ⟨Nat.le_of_ble_eq_true rfl, Nat.le_of_ble_eq_true rfl⟩ (fun r_25 C_26 H locs hq_27 hP hD hS => ?_)
        obtain ⟨hT, f_28, hq_27⟩ := hq_27
        have hF := fr_tr hF f_28 (by decide) (by decide)
        refine W.widen (k := 0) (n := 0) (Nat.le_refl _) (Nat.le_refl _) ?_
        have t_29 := hT
        rw [hQ]
        exact W.iret (v := r_25) hx hb hr (fun t ht hW => ⟨⟨r_25, C_26, rfl, ⟨hT, hF, ⟨⟨hR.1.fr hF (by decide), hR.2.fr hF (by decide)⟩, (fun A hA => by rw [← show gi (C 0) 9 = A 5 0 0 from hA.1 0 (by decide)]; exact pr_b (P := fun z => absM C_26 z) (spRow_b (fun h8 => (oh_in64 (l' := 0) (k' := 60) rfl rfl u_24) h8.2.2.1)) hq_27 (absM_fr hA hT0 (show fr [(8, 9)] [] C C_26 from (fr_tr fr_rf f_28 (by decide) (by decide))) (by decide) (by decide) (by decide)))⟩⟩, ⟨by rw [ht]; exact hP, hD⟩⟩, hS.F ht⟩) hS.2.2 dX7_bridge_64
      · have u_30 := hq_22.2.1 c_23
        refine lv_iload hx hb dX7_bridge_32 (lv_at hl 4 rfl) ?_
        refine lv_i2l (v := Int32.toInt64 x4) hx hb dX7_bridge_34 (by rfl) ?_
        refine lv_lconst (v := 1) hx hb dX7_bridge_35 (by decide) ?_
        refine lv_ldc2 (v := 99) hx hb hown (htg _ q_1136) dX7_bridge_36 ?_
        refine tq_S (As := [.long (Int32.toInt64 x4), .long 1, .long 99]) (rest := []) (ws := []) ⟨hx, hb, hml, hown, htg⟩ (c_X7_in l D E G (Int32.toInt64 x4) (1 : Int64) (99 : Int64)) (va_cwS 3 htg (oh_gS q_1066 q_1067 q_73 q_1068) rfl rfl rfl pdX7_in ⟨Nat.le_of_ble_eq_true rfl, Nat.le_of_ble_eq_true rfl⟩) hK va_nil hG hS rfl hl.1 rfl (Nat.le_of_ble_eq_true rfl) dX7_bridge_39 ⟨Nat.le_of_ble_eq_true rfl, Nat.le_of_ble_eq_true rfl⟩ (fun r_31 hq_32 => ?_)
        refine lv_if_eq (tgt := 58) hx hb dX7_bridge_42 (by decide) (fun (c_33 : r_31 = 0) => ?_) (fun (c_33 : ¬ (r_31 = 0)) => ?_)
        · have u_34 := hq_32.2.2 c_33
          refine lv_aload_n hx hb dX7_bridge_58 rfl (lv_at hl 0 rfl) ?_
          refine lv_bipush (v := (-2)) hx hb dX7_bridge_59 (by decide) ?_
          refine tm_V (As := [.int (-2)]) (rest := []) ⟨hx, hb, hml, hown, htg⟩ (c_X7_refuse l D E G _ a C n hn hT ((-2) : Int32) (rg_w (rg_c (v := (-2)) (lo := (-2)) (hi := (-2)) (by decide)) (by decide))) (cwV 1 htg (oh_gV q_1071 q_1073 q_29 q_73 q_1074) rfl rfl rfl pdVX7_refuse ⟨Nat.le_of_ble_eq_true rfl, Nat.le_of_ble_eq_true rfl⟩) hK hP hD hG hS hA (va_recv hK hP (ci := 7) (q0 := 0) rfl (oh_wg (Nat.lt_of_lt_of_le (by decide) hn) (sM_0 hT))) rfl hl.1 rfl (Nat.le_of_ble_eq_true rfl) dX7_bridge_61 ⟨Nat.le_of_ble_eq_true rfl, Nat.le_of_ble_eq_true rfl⟩ (fun r_35 C_36 H locs hq_37 hP hD hS => ?_)
          obtain ⟨hT, f_38, hq_37⟩ := hq_37
          have hF := fr_tr hF f_38 (by decide) (by decide)
          refine W.widen (k := 0) (n := 0) (Nat.le_refl _) (Nat.le_refl _) ?_
          have t_39 := hT
          rw [hQ]
          exact W.iret (v := r_35) hx hb hr (fun t ht hW => ⟨⟨r_35, C_36, rfl, ⟨hT, hF, ⟨⟨hR.1.fr hF (by decide), hR.2.fr hF (by decide)⟩, (fun A hA => by rw [← show gi (C 0) 9 = A 5 0 0 from hA.1 0 (by decide)]; exact pr_b (P := fun z => absM C_36 z) (spRow_b (fun h8 => (oh_in64 (l' := 1) (k' := 99) rfl rfl u_34) h8.2.2.2.1)) hq_37 (absM_fr hA hT0 (show fr [(8, 9)] [] C C_36 from (fr_tr fr_rf f_38 (by decide) (by decide))) (by decide) (by decide) (by decide)))⟩⟩, ⟨by rw [ht]; exact hP, hD⟩⟩, hS.F ht⟩) hS.2.2 dX7_bridge_64
        · have u_40 := hq_32.2.1 c_33
          refine lv_iload hx hb dX7_bridge_45 (lv_at hl 5 rfl) ?_
          refine lv_i2l (v := Int32.toInt64 x5) hx hb dX7_bridge_47 (by rfl) ?_
          refine lv_lconst (v := 1) hx hb dX7_bridge_48 (by decide) ?_
          refine lv_ldc2 (v := 999) hx hb hown (htg _ q_1149) dX7_bridge_49 ?_
          refine tq_S (As := [.long (Int32.toInt64 x5), .long 1, .long 999]) (rest := []) (ws := []) ⟨hx, hb, hml, hown, htg⟩ (c_X7_in l D E G (Int32.toInt64 x5) (1 : Int64) (999 : Int64)) (va_cwS 3 htg (oh_gS q_1066 q_1067 q_73 q_1068) rfl rfl rfl pdX7_in ⟨Nat.le_of_ble_eq_true rfl, Nat.le_of_ble_eq_true rfl⟩) hK va_nil hG hS rfl hl.1 rfl (Nat.le_of_ble_eq_true rfl) dX7_bridge_52 ⟨Nat.le_of_ble_eq_true rfl, Nat.le_of_ble_eq_true rfl⟩ (fun r_41 hq_42 => ?_)
          refine lv_if_ne (tgt := 65) hx hb dX7_bridge_55 (by decide) (fun (c_43 : ¬ (r_41 = 0)) => ?_) (fun (c_43 : r_41 = 0) => ?_)
          · have u_44 := hq_42.2.1 c_43
            refine lv_aload_n hx hb dX7_bridge_65 rfl (lv_at hl 0 rfl) ?_
            refine va_get (D := D) (ci := 7) (v := .int (gi (C 0) 11)) (C := RX7) (T := TX7) (N := 29) hx hb htg ig_7 hown hK hP 0 (oh_wg (Nat.lt_of_lt_of_le (by decide) hn) (sM_0 hT)) rfl 11 (by decide) (htg _ q_984) (fun _ h9 => h9) rfl dX7_bridge_66 ?_
            refine lv_bipush (v := 16) hx hb dX7_bridge_69 (by decide) ?_
            refine lv_icmp_ne (tgt := 81) hx hb dX7_bridge_71 (by decide) (fun (c_45 : ¬ ((gi (C 0) 11) = 16)) => ?_) (fun (c_45 : (gi (C 0) 11) = 16) => ?_)
            · refine lv_aload_n hx hb dX7_bridge_81 rfl (lv_at hl 0 rfl) ?_
              refine tm_Vv (As := []) (rest := []) ⟨hx, hb, hml, hown, htg⟩ (e_X7_newBridge l D E G _ a C n hn hT (rg_w (lo := 0) (hi := 15) (rn_neu (u' := 15) c_45 (fM_0_11 hT0) (rg_c (v := 16) (lo := 16) (hi := 16) (by decide)) (by decide)) (by decide))) (cwV 0 htg (oh_gV q_1150 q_1152 q_37 q_73 q_1153) rfl rfl rfl pdVX7_newBridge ⟨Nat.le_of_ble_eq_true rfl, Nat.le_of_ble_eq_true rfl⟩) hK hP hD hG hS hA (va_recv hK hP (ci := 7) (q0 := 0) rfl (oh_wg (Nat.lt_of_lt_of_le (by decide) hn) (sM_0 hT))) rfl hl.1 rfl (Nat.le_of_ble_eq_true rfl) dX7_bridge_82 ⟨Nat.le_of_ble_eq_true rfl, Nat.le_of_ble_eq_true rfl⟩ (fun C_47 H locs hq_48 hP hD hS => ?_)
              obtain ⟨hT, f_49, hq_48⟩ := hq_48
              have hF := fr_tr hF f_49 (by decide) (by decide)
              refine W.widen (k := 0) (n := 0) (Nat.le_refl _) (Nat.le_refl _) ?_
              have t_50 := hT
              refine lv_aload_n hx hb dX7_bridge_85 rfl (lv_at hl 0 rfl) ?_
              refine va_get (D := D) (ci := 7) (v := .ref (a 10)) (C := RX7) (T := TX7) (N := 29) hx hb htg ig_7 hown hK hP 0 (oh_wg (Nat.lt_of_lt_of_le (by decide) hn) (sM_0 hT)) rfl 12 (by decide) (htg _ q_985) (fun _ h9 => h9) rfl dX7_bridge_86 ?_
              refine lv_aload_n hx hb dX7_bridge_89 rfl (lv_at hl 0 rfl) ?_
              refine va_get (D := D) (ci := 7) (v := .int (gi (C 0) 11)) (C := RX7) (T := TX7) (N := 29) hx hb htg ig_7 hown hK hP 0 (oh_wg (Nat.lt_of_lt_of_le (by decide) hn) (sM_0 hT)) rfl 11 (by decide) (htg _ q_984) (fun _ h9 => h9) (oh_fv (c := C_47 0) (j := 11) rfl (congrArg vi (f_49.2 11 (by decide)))) dX7_bridge_90 ?_
              have n_51 : vp_in (gi (C 0) 11) 16 := (rg_in (rn_neu (u' := 15) c_45 (fM_0_11 hT0) (rg_c (v := 16) (lo := 16) (hi := 16) (by decide)) (by decide)) (by decide))
              have b_52 : (gi (C 0) 11).toNatClampNeg < 16 := vp_lt n_51
              refine th_aald hx hb hK hP 10 2 (Nat.lt_of_lt_of_le (by decide) hn) (sM_10 hT) rfl n_51 dX7_bridge_93 ?_
              refine lv_iconst (v := 0) hx hb dX7_bridge_94 (by decide) ?_
              refine lv_iload_n hx hb dX7_bridge_95 rfl (lv_at hl 1 rfl) ?_
              refine th_iast (T := TyM a E) (Rl := fr [(8, 9), (48, 64)] [11] C) hx hb hK hP hD hS (48 + (gi (C 0) 11).toNatClampNeg) (lt_blk b_52 hn (by decide)) (hT.bbridge b_52).1 (rg_in (rg_c (v := 0) (lo := 0) (hi := 0) (by decide)) (by decide)) (hT.upbridge b_52 (tA_upd (hT.bbridge b_52) tA_any)) (fr_st hF (by omega) (inR_of (p := (48, 64)) (by decide) (by show 48 ≤ _; omega) (by show _ < 64; omega))) dX7_bridge_96 (fun C_53 H locs e_54 hT hF hP hD hS => ?_)
              have t_55 := hT
              refine lv_aload_n hx hb dX7_bridge_97 rfl (lv_at hl 0 rfl) ?_
              refine va_get (D := D) (ci := 7) (v := .ref (a 10)) (C := RX7) (T := TX7) (N := 29) hx hb htg ig_7 hown hK hP 0 (oh_wg (Nat.lt_of_lt_of_le (by decide) hn) (sM_0 hT)) rfl 12 (by decide) (htg _ q_985) (fun _ h9 => h9) rfl dX7_bridge_98 ?_
              refine lv_aload_n hx hb dX7_bridge_101 rfl (lv_at hl 0 rfl) ?_
              refine va_get (D := D) (ci := 7) (v := .int (gi (C 0) 11)) (C := RX7) (T := TX7) (N := 29) hx hb htg ig_7 hown hK hP 0 (oh_wg (Nat.lt_of_lt_of_le (by decide) hn) (sM_0 hT)) rfl 11 (by decide) (htg _ q_984) (fun _ h9 => h9) (oh_fv (c := C_53 0) (j := 11) rfl (Eq.trans (congrArg (fun z => gi z 11) (th_un e_54 (by omega))) (congrArg vi (f_49.2 11 (by decide))))) dX7_bridge_102 ?_
              have n_56 : vp_in (gi (C 0) 11) 16 := (rg_in (rn_neu (u' := 15) c_45 (fM_0_11 hT0) (rg_c (v := 16) (lo := 16) (hi := 16) (by decide)) (by decide)) (by decide))
              have b_57 : (gi (C 0) 11).toNatClampNeg < 16 := vp_lt n_56
              refine th_aald hx hb hK hP 10 2 (Nat.lt_of_lt_of_le (by decide) hn) (sM_10 hT) rfl n_56 dX7_bridge_105 ?_
              refine lv_iconst (v := 1) hx hb dX7_bridge_106 (by decide) ?_
              refine lv_iload_n hx hb dX7_bridge_107 rfl (lv_at hl 2 rfl) ?_
              refine th_iast (T := TyM a E) (Rl := fr [(8, 9), (48, 64)] [11] C) hx hb hK hP hD hS (48 + (gi (C 0) 11).toNatClampNeg) (lt_blk b_57 hn (by decide)) (hT.bbridge b_57).1 (rg_in (rg_c (v := 1) (lo := 1) (hi := 1) (by decide)) (by decide)) (hT.upbridge b_57 (tA_upd (hT.bbridge b_57) tA_any)) (fr_st hF (by omega) (inR_of (p := (48, 64)) (by decide) (by show 48 ≤ _; omega) (by show _ < 64; omega))) dX7_bridge_108 (fun C_58 H locs e_59 hT hF hP hD hS => ?_)
              have t_60 := hT
              refine lv_aload_n hx hb dX7_bridge_109 rfl (lv_at hl 0 rfl) ?_
              refine va_get (D := D) (ci := 7) (v := .ref (a 10)) (C := RX7) (T := TX7) (N := 29) hx hb htg ig_7 hown hK hP 0 (oh_wg (Nat.lt_of_lt_of_le (by decide) hn) (sM_0 hT)) rfl 12 (by decide) (htg _ q_985) (fun _ h9 => h9) rfl dX7_bridge_110 ?_
              refine lv_aload_n hx hb dX7_bridge_113 rfl (lv_at hl 0 rfl) ?_
              refine va_get (D := D) (ci := 7) (v := .int (gi (C 0) 11)) (C := RX7) (T := TX7) (N := 29) hx hb htg ig_7 hown hK hP 0 (oh_wg (Nat.lt_of_lt_of_le (by decide) hn) (sM_0 hT)) rfl 11 (by decide) (htg _ q_984) (fun _ h9 => h9) (oh_fv (c := C_58 0) (j := 11) rfl (Eq.trans (congrArg (fun z => gi z 11) (th_un e_59 (by omega))) (Eq.trans (congrArg (fun z => gi z 11) (th_un e_54 (by omega))) (congrArg vi (f_49.2 11 (by decide)))))) dX7_bridge_114 ?_
              have n_61 : vp_in (gi (C 0) 11) 16 := (rg_in (rn_neu (u' := 15) c_45 (fM_0_11 hT0) (rg_c (v := 16) (lo := 16) (hi := 16) (by decide)) (by decide)) (by decide))
              have b_62 : (gi (C 0) 11).toNatClampNeg < 16 := vp_lt n_61
              refine th_aald hx hb hK hP 10 2 (Nat.lt_of_lt_of_le (by decide) hn) (sM_10 hT) rfl n_61 dX7_bridge_117 ?_
              refine lv_iconst (v := 2) hx hb dX7_bridge_118 (by decide) ?_
              refine lv_iload_n hx hb dX7_bridge_119 rfl (lv_at hl 3 rfl) ?_
              refine th_iast (T := TyM a E) (Rl := fr [(8, 9), (48, 64)] [11] C) hx hb hK hP hD hS (48 + (gi (C 0) 11).toNatClampNeg) (lt_blk b_62 hn (by decide)) (hT.bbridge b_62).1 (rg_in (rg_c (v := 2) (lo := 2) (hi := 2) (by decide)) (by decide)) (hT.upbridge b_62 (tA_upd (hT.bbridge b_62) tA_any)) (fr_st hF (by omega) (inR_of (p := (48, 64)) (by decide) (by show 48 ≤ _; omega) (by show _ < 64; omega))) dX7_bridge_120 (fun C_63 H locs e_64 hT hF hP hD hS => ?_)
              have t_65 := hT
              refine lv_aload_n hx hb dX7_bridge_121 rfl (lv_at hl 0 rfl) ?_
              refine va_get (D := D) (ci := 7) (v := .ref (a 10)) (C := RX7) (T := TX7) (N := 29) hx hb htg ig_7 hown hK hP 0 (oh_wg (Nat.lt_of_lt_of_le (by decide) hn) (sM_0 hT)) rfl 12 (by decide) (htg _ q_985) (fun _ h9 => h9) rfl dX7_bridge_122 ?_
              refine lv_aload_n hx hb dX7_bridge_125 rfl (lv_at hl 0 rfl) ?_
              refine va_get (D := D) (ci := 7) (v := .int (gi (C 0) 11)) (C := RX7) (T := TX7) (N := 29) hx hb htg ig_7 hown hK hP 0 (oh_wg (Nat.lt_of_lt_of_le (by decide) hn) (sM_0 hT)) rfl 11 (by decide) (htg _ q_984) (fun _ h9 => h9) (oh_fv (c := C_63 0) (j := 11) rfl (Eq.trans (congrArg (fun z => gi z 11) (th_un e_64 (by omega))) (Eq.trans (congrArg (fun z => gi z 11) (th_un e_59 (by omega))) (Eq.trans (congrArg (fun z => gi z 11) (th_un e_54 (by omega))) (congrArg vi (f_49.2 11 (by decide))))))) dX7_bridge_126 ?_
              have n_66 : vp_in (gi (C 0) 11) 16 := (rg_in (rn_neu (u' := 15) c_45 (fM_0_11 hT0) (rg_c (v := 16) (lo := 16) (hi := 16) (by decide)) (by decide)) (by decide))
              have b_67 : (gi (C 0) 11).toNatClampNeg < 16 := vp_lt n_66
              refine th_aald hx hb hK hP 10 2 (Nat.lt_of_lt_of_le (by decide) hn) (sM_10 hT) rfl n_66 dX7_bridge_129 ?_
              refine lv_iconst (v := 3) hx hb dX7_bridge_130 (by decide) ?_
              refine lv_iload hx hb dX7_bridge_131 (lv_at hl 4 rfl) ?_
              refine th_iast (T := TyM a E) (Rl := fr [(8, 9), (48, 64)] [11] C) hx hb hK hP hD hS (48 + (gi (C 0) 11).toNatClampNeg) (lt_blk b_67 hn (by decide)) (hT.bbridge b_67).1 (rg_in (rg_c (v := 3) (lo := 3) (hi := 3) (by decide)) (by decide)) (hT.upbridge b_67 (tA_upd (hT.bbridge b_67) tA_any)) (fr_st hF (by omega) (inR_of (p := (48, 64)) (by decide) (by show 48 ≤ _; omega) (by show _ < 64; omega))) dX7_bridge_133 (fun C_68 H locs e_69 hT hF hP hD hS => ?_)
              have t_70 := hT
              refine lv_aload_n hx hb dX7_bridge_134 rfl (lv_at hl 0 rfl) ?_
              refine va_get (D := D) (ci := 7) (v := .ref (a 10)) (C := RX7) (T := TX7) (N := 29) hx hb htg ig_7 hown hK hP 0 (oh_wg (Nat.lt_of_lt_of_le (by decide) hn) (sM_0 hT)) rfl 12 (by decide) (htg _ q_985) (fun _ h9 => h9) rfl dX7_bridge_135 ?_
              refine lv_aload_n hx hb dX7_bridge_138 rfl (lv_at hl 0 rfl) ?_
              refine va_get (D := D) (ci := 7) (v := .int (gi (C 0) 11)) (C := RX7) (T := TX7) (N := 29) hx hb htg ig_7 hown hK hP 0 (oh_wg (Nat.lt_of_lt_of_le (by decide) hn) (sM_0 hT)) rfl 11 (by decide) (htg _ q_984) (fun _ h9 => h9) (oh_fv (c := C_68 0) (j := 11) rfl (Eq.trans (congrArg (fun z => gi z 11) (th_un e_69 (by omega))) (Eq.trans (congrArg (fun z => gi z 11) (th_un e_64 (by omega))) (Eq.trans (congrArg (fun z => gi z 11) (th_un e_59 (by omega))) (Eq.trans (congrArg (fun z => gi z 11) (th_un e_54 (by omega))) (congrArg vi (f_49.2 11 (by decide)))))))) dX7_bridge_139 ?_
              have n_71 : vp_in (gi (C 0) 11) 16 := (rg_in (rn_neu (u' := 15) c_45 (fM_0_11 hT0) (rg_c (v := 16) (lo := 16) (hi := 16) (by decide)) (by decide)) (by decide))
              have b_72 : (gi (C 0) 11).toNatClampNeg < 16 := vp_lt n_71
              refine th_aald hx hb hK hP 10 2 (Nat.lt_of_lt_of_le (by decide) hn) (sM_10 hT) rfl n_71 dX7_bridge_142 ?_
              refine lv_iconst (v := 4) hx hb dX7_bridge_143 (by decide) ?_
              refine lv_iload hx hb dX7_bridge_144 (lv_at hl 5 rfl) ?_
              refine th_iast (T := TyM a E) (Rl := fr [(8, 9), (48, 64)] [11] C) hx hb hK hP hD hS (48 + (gi (C 0) 11).toNatClampNeg) (lt_blk b_72 hn (by decide)) (hT.bbridge b_72).1 (rg_in (rg_c (v := 4) (lo := 4) (hi := 4) (by decide)) (by decide)) (hT.upbridge b_72 (tA_upd (hT.bbridge b_72) tA_any)) (fr_st hF (by omega) (inR_of (p := (48, 64)) (by decide) (by show 48 ≤ _; omega) (by show _ < 64; omega))) dX7_bridge_146 (fun C_73 H locs e_74 hT hF hP hD hS => ?_)
              have t_75 := hT
              refine lv_aload_n hx hb dX7_bridge_147 rfl (lv_at hl 0 rfl) ?_
              refine lv_dup hx hb dX7_bridge_148 rfl ?_
              refine va_get (D := D) (ci := 7) (v := .int (gi (C 0) 11)) (C := RX7) (T := TX7) (N := 29) hx hb htg ig_7 hown hK hP 0 (oh_wg (Nat.lt_of_lt_of_le (by decide) hn) (sM_0 hT)) rfl 11 (by decide) (htg _ q_984) (fun _ h9 => h9) (oh_fv (c := C_73 0) (j := 11) rfl (Eq.trans (congrArg (fun z => gi z 11) (th_un e_74 (by omega))) (Eq.trans (congrArg (fun z => gi z 11) (th_un e_69 (by omega))) (Eq.trans (congrArg (fun z => gi z 11) (th_un e_64 (by omega))) (Eq.trans (congrArg (fun z => gi z 11) (th_un e_59 (by omega))) (Eq.trans (congrArg (fun z => gi z 11) (th_un e_54 (by omega))) (congrArg vi (f_49.2 11 (by decide))))))))) dX7_bridge_149 ?_
              refine lv_dup_x1 hx hb dX7_bridge_152 rfl rfl ?_
              refine lv_iconst (v := 1) hx hb dX7_bridge_153 (by decide) ?_
              refine lv_iadd hx hb dX7_bridge_154 ?_
              refine th_put (Tp := TyM a E) (Rl := fr [(8, 9), (48, 64)] [11] C) (ci := 7) (v := .int ((gi (C 0) 11) + 1)) (ty := .int) (CC := RX7) (T := TX7) (N := 29) hx hb htg ig_7 tyX7 tyX7_ok nmX7 hown hK hP hD hS 0 (Nat.lt_of_lt_of_le (by decide) hn) (sM_0 hT) rfl 11 (by decide) (htg _ q_984) (fun _ h9 => h9) rfl (by decide +kernel) rfl rfl (Nat.le_of_ble_eq_true rfl) (hT.up 0 (by decide) ⟨rfl, (fM_0_7 hT), (fM_0_9 hT), (rg_w (rg_add (lo := 1) (hi := 16) (rn_neu (u' := 15) c_45 (fM_0_11 hT0) (rg_c (v := 16) (lo := 16) (hi := 16) (by decide)) (by decide)) (rg_c (v := 1) (lo := 1) (hi := 1) (by decide)) (by decide)) (by decide)), (fM_0_13 hT), (fM_0_15 hT), (fM_0_21 hT), (fM_0_23 hT)⟩) (fr_fd hF (sM_0 hT) (by decide)) dX7_bridge_155 (fun C_76 H locs e_77 hT hF hP hD hS => ?_)
              have t_78 := hT
              have hrw_79 : ∀ j, j < 10 → ga (C_76 (48 + (gi (C 0) 11).toNatClampNeg)) j = rwf [x1, x2, x3, x4, x5, 0, 0, 0, 0, 0] j := rows10 (Eq.trans (congrArg (fun z => ga z ((0 : Int32)).toNatClampNeg) (th_un e_77 (by omega))) (Eq.trans (show ga (C_73 (48 + (gi (C 0) 11).toNatClampNeg)) ((0 : Int32)).toNatClampNeg = ga (C_68 (48 + (gi (C 0) 11).toNatClampNeg)) ((0 : Int32)).toNatClampNeg by rw [st_ga e_74]; exact pk_un (by decide)) (Eq.trans (show ga (C_68 (48 + (gi (C 0) 11).toNatClampNeg)) ((0 : Int32)).toNatClampNeg = ga (C_63 (48 + (gi (C 0) 11).toNatClampNeg)) ((0 : Int32)).toNatClampNeg by rw [st_ga e_69]; exact pk_un (by decide)) (Eq.trans (show ga (C_63 (48 + (gi (C 0) 11).toNatClampNeg)) ((0 : Int32)).toNatClampNeg = ga (C_58 (48 + (gi (C 0) 11).toNatClampNeg)) ((0 : Int32)).toNatClampNeg by rw [st_ga e_64]; exact pk_un (by decide)) (Eq.trans (show ga (C_58 (48 + (gi (C 0) 11).toNatClampNeg)) ((0 : Int32)).toNatClampNeg = ga (C_53 (48 + (gi (C 0) 11).toNatClampNeg)) ((0 : Int32)).toNatClampNeg by rw [st_ga e_59]; exact pk_un (by decide)) (show ga (C_53 (48 + (gi (C 0) 11).toNatClampNeg)) ((0 : Int32)).toNatClampNeg = x1 by rw [st_ga e_54]; exact pk_us)))))) (Eq.trans (congrArg (fun z => ga z ((1 : Int32)).toNatClampNeg) (th_un e_77 (by omega))) (Eq.trans (show ga (C_73 (48 + (gi (C 0) 11).toNatClampNeg)) ((1 : Int32)).toNatClampNeg = ga (C_68 (48 + (gi (C 0) 11).toNatClampNeg)) ((1 : Int32)).toNatClampNeg by rw [st_ga e_74]; exact pk_un (by decide)) (Eq.trans (show ga (C_68 (48 + (gi (C 0) 11).toNatClampNeg)) ((1 : Int32)).toNatClampNeg = ga (C_63 (48 + (gi (C 0) 11).toNatClampNeg)) ((1 : Int32)).toNatClampNeg by rw [st_ga e_69]; exact pk_un (by decide)) (Eq.trans (show ga (C_63 (48 + (gi (C 0) 11).toNatClampNeg)) ((1 : Int32)).toNatClampNeg = ga (C_58 (48 + (gi (C 0) 11).toNatClampNeg)) ((1 : Int32)).toNatClampNeg by rw [st_ga e_64]; exact pk_un (by decide)) (show ga (C_58 (48 + (gi (C 0) 11).toNatClampNeg)) ((1 : Int32)).toNatClampNeg = x2 by rw [st_ga e_59]; exact pk_us))))) (Eq.trans (congrArg (fun z => ga z ((2 : Int32)).toNatClampNeg) (th_un e_77 (by omega))) (Eq.trans (show ga (C_73 (48 + (gi (C 0) 11).toNatClampNeg)) ((2 : Int32)).toNatClampNeg = ga (C_68 (48 + (gi (C 0) 11).toNatClampNeg)) ((2 : Int32)).toNatClampNeg by rw [st_ga e_74]; exact pk_un (by decide)) (Eq.trans (show ga (C_68 (48 + (gi (C 0) 11).toNatClampNeg)) ((2 : Int32)).toNatClampNeg = ga (C_63 (48 + (gi (C 0) 11).toNatClampNeg)) ((2 : Int32)).toNatClampNeg by rw [st_ga e_69]; exact pk_un (by decide)) (show ga (C_63 (48 + (gi (C 0) 11).toNatClampNeg)) ((2 : Int32)).toNatClampNeg = x3 by rw [st_ga e_64]; exact pk_us)))) (Eq.trans (congrArg (fun z => ga z ((3 : Int32)).toNatClampNeg) (th_un e_77 (by omega))) (Eq.trans (show ga (C_73 (48 + (gi (C 0) 11).toNatClampNeg)) ((3 : Int32)).toNatClampNeg = ga (C_68 (48 + (gi (C 0) 11).toNatClampNeg)) ((3 : Int32)).toNatClampNeg by rw [st_ga e_74]; exact pk_un (by decide)) (show ga (C_68 (48 + (gi (C 0) 11).toNatClampNeg)) ((3 : Int32)).toNatClampNeg = x4 by rw [st_ga e_69]; exact pk_us))) (Eq.trans (congrArg (fun z => ga z ((4 : Int32)).toNatClampNeg) (th_un e_77 (by omega))) (show ga (C_73 (48 + (gi (C 0) 11).toNatClampNeg)) ((4 : Int32)).toNatClampNeg = x5 by rw [st_ga e_74]; exact pk_us)) (Eq.trans (congrArg (fun z => ga z ((5 : Int32)).toNatClampNeg) (th_un e_77 (by omega))) (Eq.trans (show ga (C_73 (48 + (gi (C 0) 11).toNatClampNeg)) ((5 : Int32)).toNatClampNeg = ga (C_68 (48 + (gi (C 0) 11).toNatClampNeg)) ((5 : Int32)).toNatClampNeg by rw [st_ga e_74]; exact pk_un (by decide)) (Eq.trans (show ga (C_68 (48 + (gi (C 0) 11).toNatClampNeg)) ((5 : Int32)).toNatClampNeg = ga (C_63 (48 + (gi (C 0) 11).toNatClampNeg)) ((5 : Int32)).toNatClampNeg by rw [st_ga e_69]; exact pk_un (by decide)) (Eq.trans (show ga (C_63 (48 + (gi (C 0) 11).toNatClampNeg)) ((5 : Int32)).toNatClampNeg = ga (C_58 (48 + (gi (C 0) 11).toNatClampNeg)) ((5 : Int32)).toNatClampNeg by rw [st_ga e_64]; exact pk_un (by decide)) (Eq.trans (show ga (C_58 (48 + (gi (C 0) 11).toNatClampNeg)) ((5 : Int32)).toNatClampNeg = ga (C_53 (48 + (gi (C 0) 11).toNatClampNeg)) ((5 : Int32)).toNatClampNeg by rw [st_ga e_59]; exact pk_un (by decide)) (Eq.trans (show ga (C_53 (48 + (gi (C 0) 11).toNatClampNeg)) ((5 : Int32)).toNatClampNeg = ga (C_47 (48 + (gi (C 0) 11).toNatClampNeg)) ((5 : Int32)).toNatClampNeg by rw [st_ga e_54]; exact pk_un (by decide)) (hq_48.1 ((5 : Int32)).toNatClampNeg (by decide)))))))) (Eq.trans (congrArg (fun z => ga z ((6 : Int32)).toNatClampNeg) (th_un e_77 (by omega))) (Eq.trans (show ga (C_73 (48 + (gi (C 0) 11).toNatClampNeg)) ((6 : Int32)).toNatClampNeg = ga (C_68 (48 + (gi (C 0) 11).toNatClampNeg)) ((6 : Int32)).toNatClampNeg by rw [st_ga e_74]; exact pk_un (by decide)) (Eq.trans (show ga (C_68 (48 + (gi (C 0) 11).toNatClampNeg)) ((6 : Int32)).toNatClampNeg = ga (C_63 (48 + (gi (C 0) 11).toNatClampNeg)) ((6 : Int32)).toNatClampNeg by rw [st_ga e_69]; exact pk_un (by decide)) (Eq.trans (show ga (C_63 (48 + (gi (C 0) 11).toNatClampNeg)) ((6 : Int32)).toNatClampNeg = ga (C_58 (48 + (gi (C 0) 11).toNatClampNeg)) ((6 : Int32)).toNatClampNeg by rw [st_ga e_64]; exact pk_un (by decide)) (Eq.trans (show ga (C_58 (48 + (gi (C 0) 11).toNatClampNeg)) ((6 : Int32)).toNatClampNeg = ga (C_53 (48 + (gi (C 0) 11).toNatClampNeg)) ((6 : Int32)).toNatClampNeg by rw [st_ga e_59]; exact pk_un (by decide)) (Eq.trans (show ga (C_53 (48 + (gi (C 0) 11).toNatClampNeg)) ((6 : Int32)).toNatClampNeg = ga (C_47 (48 + (gi (C 0) 11).toNatClampNeg)) ((6 : Int32)).toNatClampNeg by rw [st_ga e_54]; exact pk_un (by decide)) (hq_48.1 ((6 : Int32)).toNatClampNeg (by decide)))))))) (Eq.trans (congrArg (fun z => ga z ((7 : Int32)).toNatClampNeg) (th_un e_77 (by omega))) (Eq.trans (show ga (C_73 (48 + (gi (C 0) 11).toNatClampNeg)) ((7 : Int32)).toNatClampNeg = ga (C_68 (48 + (gi (C 0) 11).toNatClampNeg)) ((7 : Int32)).toNatClampNeg by rw [st_ga e_74]; exact pk_un (by decide)) (Eq.trans (show ga (C_68 (48 + (gi (C 0) 11).toNatClampNeg)) ((7 : Int32)).toNatClampNeg = ga (C_63 (48 + (gi (C 0) 11).toNatClampNeg)) ((7 : Int32)).toNatClampNeg by rw [st_ga e_69]; exact pk_un (by decide)) (Eq.trans (show ga (C_63 (48 + (gi (C 0) 11).toNatClampNeg)) ((7 : Int32)).toNatClampNeg = ga (C_58 (48 + (gi (C 0) 11).toNatClampNeg)) ((7 : Int32)).toNatClampNeg by rw [st_ga e_64]; exact pk_un (by decide)) (Eq.trans (show ga (C_58 (48 + (gi (C 0) 11).toNatClampNeg)) ((7 : Int32)).toNatClampNeg = ga (C_53 (48 + (gi (C 0) 11).toNatClampNeg)) ((7 : Int32)).toNatClampNeg by rw [st_ga e_59]; exact pk_un (by decide)) (Eq.trans (show ga (C_53 (48 + (gi (C 0) 11).toNatClampNeg)) ((7 : Int32)).toNatClampNeg = ga (C_47 (48 + (gi (C 0) 11).toNatClampNeg)) ((7 : Int32)).toNatClampNeg by rw [st_ga e_54]; exact pk_un (by decide)) (hq_48.1 ((7 : Int32)).toNatClampNeg (by decide)))))))) (Eq.trans (congrArg (fun z => ga z ((8 : Int32)).toNatClampNeg) (th_un e_77 (by omega))) (Eq.trans (show ga (C_73 (48 + (gi (C 0) 11).toNatClampNeg)) ((8 : Int32)).toNatClampNeg = ga (C_68 (48 + (gi (C 0) 11).toNatClampNeg)) ((8 : Int32)).toNatClampNeg by rw [st_ga e_74]; exact pk_un (by decide)) (Eq.trans (show ga (C_68 (48 + (gi (C 0) 11).toNatClampNeg)) ((8 : Int32)).toNatClampNeg = ga (C_63 (48 + (gi (C 0) 11).toNatClampNeg)) ((8 : Int32)).toNatClampNeg by rw [st_ga e_69]; exact pk_un (by decide)) (Eq.trans (show ga (C_63 (48 + (gi (C 0) 11).toNatClampNeg)) ((8 : Int32)).toNatClampNeg = ga (C_58 (48 + (gi (C 0) 11).toNatClampNeg)) ((8 : Int32)).toNatClampNeg by rw [st_ga e_64]; exact pk_un (by decide)) (Eq.trans (show ga (C_58 (48 + (gi (C 0) 11).toNatClampNeg)) ((8 : Int32)).toNatClampNeg = ga (C_53 (48 + (gi (C 0) 11).toNatClampNeg)) ((8 : Int32)).toNatClampNeg by rw [st_ga e_59]; exact pk_un (by decide)) (Eq.trans (show ga (C_53 (48 + (gi (C 0) 11).toNatClampNeg)) ((8 : Int32)).toNatClampNeg = ga (C_47 (48 + (gi (C 0) 11).toNatClampNeg)) ((8 : Int32)).toNatClampNeg by rw [st_ga e_54]; exact pk_un (by decide)) (hq_48.1 ((8 : Int32)).toNatClampNeg (by decide)))))))) (Eq.trans (congrArg (fun z => ga z ((9 : Int32)).toNatClampNeg) (th_un e_77 (by omega))) (Eq.trans (show ga (C_73 (48 + (gi (C 0) 11).toNatClampNeg)) ((9 : Int32)).toNatClampNeg = ga (C_68 (48 + (gi (C 0) 11).toNatClampNeg)) ((9 : Int32)).toNatClampNeg by rw [st_ga e_74]; exact pk_un (by decide)) (Eq.trans (show ga (C_68 (48 + (gi (C 0) 11).toNatClampNeg)) ((9 : Int32)).toNatClampNeg = ga (C_63 (48 + (gi (C 0) 11).toNatClampNeg)) ((9 : Int32)).toNatClampNeg by rw [st_ga e_69]; exact pk_un (by decide)) (Eq.trans (show ga (C_63 (48 + (gi (C 0) 11).toNatClampNeg)) ((9 : Int32)).toNatClampNeg = ga (C_58 (48 + (gi (C 0) 11).toNatClampNeg)) ((9 : Int32)).toNatClampNeg by rw [st_ga e_64]; exact pk_un (by decide)) (Eq.trans (show ga (C_58 (48 + (gi (C 0) 11).toNatClampNeg)) ((9 : Int32)).toNatClampNeg = ga (C_53 (48 + (gi (C 0) 11).toNatClampNeg)) ((9 : Int32)).toNatClampNeg by rw [st_ga e_59]; exact pk_un (by decide)) (Eq.trans (show ga (C_53 (48 + (gi (C 0) 11).toNatClampNeg)) ((9 : Int32)).toNatClampNeg = ga (C_47 (48 + (gi (C 0) 11).toNatClampNeg)) ((9 : Int32)).toNatClampNeg by rw [st_ga e_54]; exact pk_un (by decide)) (hq_48.1 ((9 : Int32)).toNatClampNeg (by decide))))))))
              have ho_80 : ∀ i, i ≠ (gi (C 0) 11).toNatClampNeg → C_76 (48 + i) = C (48 + i) := (fun i hne => (Eq.trans (th_un e_77 (by omega)) (Eq.trans (th_un e_74 (by omega)) (Eq.trans (th_un e_69 (by omega)) (Eq.trans (th_un e_64 (by omega)) (Eq.trans (th_un e_59 (by omega)) (Eq.trans (th_un e_54 (by omega)) (hq_48.2 i hne))))))))
              rw [hQ]
              exact W.iret (v := gi (C 0) 11) hx hb hr (fun t ht hW => ⟨⟨gi (C 0) 11, C_76, rfl, ⟨hT, hF, ⟨⟨hR.1.fr hF (by decide), hR.2.fr hF (by decide)⟩, (fun A hA => by rw [← show gi (C 0) 9 = A 5 0 0 from hA.1 0 (by decide)]; exact spM_y (t := 1) hT0 hA (by decide) ⟨u_10.2, (oh_rgI (p := 0) (q := 5) (rg_w (lo := 0) (hi := 5) (rg_il (rgL_i (rg_il (rnL_leu u_20.2 (rnL_lel u_20.1 (rgL_c (v := 0) (lo := 0) (hi := 0) (by decide)) (rgL_i (rg_any _))) (rgL_c (v := 5) (lo := 5) (hi := 5) (by decide)))))) (by decide))), (oh_rgI (p := 0) (q := 60) (rg_w (lo := 0) (hi := 60) (rg_il (rgL_i (rg_il (rnL_leu u_30.2 (rnL_lel u_30.1 (rgL_c (v := 0) (lo := 0) (hi := 0) (by decide)) (rgL_i (rg_any _))) (rgL_c (v := 60) (lo := 60) (hi := 60) (by decide)))))) (by decide))), (oh_rgI (p := 1) (q := 99) (rg_w (lo := 1) (hi := 99) (rg_il (rgL_i (rg_il (rnL_leu u_40.2 (rnL_lel u_40.1 (rgL_c (v := 1) (lo := 1) (hi := 1) (by decide)) (rgL_i (rg_any _))) (rgL_c (v := 99) (lo := 99) (hi := 99) (by decide)))))) (by decide))), (oh_rgI (p := 1) (q := 999) (rg_w (lo := 1) (hi := 999) (rg_il (rgL_i (rg_il (rnL_leu u_44.2 (rnL_lel u_44.1 (rgL_c (v := 1) (lo := 1) (hi := 1) (by decide)) (rgL_i (rg_any _))) (rgL_c (v := 999) (lo := 999) (hi := 999) (by decide)))))) (by decide)))⟩ (oh_room24 (fM_0_11 hT0) (by decide) c_45) rfl (show gi (C_76 0) 11 = ((gi (C 0) 11) + 1) by rw [e_77]; rfl) hrw_79 ho_80 hF (by decide) (by decide) (by decide))⟩⟩, ⟨by rw [ht]; exact hP, hD⟩⟩, hS.F ht⟩) hS.2.2 dX7_bridge_158
            · refine lv_aload_n hx hb dX7_bridge_74 rfl (lv_at hl 0 rfl) ?_
              refine lv_bipush (v := (-6)) hx hb dX7_bridge_75 (by decide) ?_
              refine tm_V (As := [.int (-6)]) (rest := []) ⟨hx, hb, hml, hown, htg⟩ (c_X7_refuse l D E G _ a C n hn hT ((-6) : Int32) (rg_w (rg_c (v := (-6)) (lo := (-6)) (hi := (-6)) (by decide)) (by decide))) (cwV 1 htg (oh_gV q_1071 q_1073 q_29 q_73 q_1074) rfl rfl rfl pdVX7_refuse ⟨Nat.le_of_ble_eq_true rfl, Nat.le_of_ble_eq_true rfl⟩) hK hP hD hG hS hA (va_recv hK hP (ci := 7) (q0 := 0) rfl (oh_wg (Nat.lt_of_lt_of_le (by decide) hn) (sM_0 hT))) rfl hl.1 rfl (Nat.le_of_ble_eq_true rfl) dX7_bridge_77 ⟨Nat.le_of_ble_eq_true rfl, Nat.le_of_ble_eq_true rfl⟩ (fun r_81 C_82 H locs hq_83 hP hD hS => ?_)
              obtain ⟨hT, f_84, hq_83⟩ := hq_83
              have hF := fr_tr hF f_84 (by decide) (by decide)
              refine W.widen (k := 0) (n := 0) (Nat.le_refl _) (Nat.le_refl _) ?_
              have t_85 := hT
              rw [hQ]
              exact W.iret (v := r_81) hx hb hr (fun t ht hW => ⟨⟨r_81, C_82, rfl, ⟨hT, hF, ⟨⟨hR.1.fr hF (by decide), hR.2.fr hF (by decide)⟩, (fun A hA => by rw [← show gi (C 0) 9 = A 5 0 0 from hA.1 0 (by decide)]; exact pr_b (P := fun z => absM C_82 z) (spRow_f ⟨u_10.2, (oh_rgI (p := 0) (q := 5) (rg_w (lo := 0) (hi := 5) (rg_il (rgL_i (rg_il (rnL_leu u_20.2 (rnL_lel u_20.1 (rgL_c (v := 0) (lo := 0) (hi := 0) (by decide)) (rgL_i (rg_any _))) (rgL_c (v := 5) (lo := 5) (hi := 5) (by decide)))))) (by decide))), (oh_rgI (p := 0) (q := 60) (rg_w (lo := 0) (hi := 60) (rg_il (rgL_i (rg_il (rnL_leu u_30.2 (rnL_lel u_30.1 (rgL_c (v := 0) (lo := 0) (hi := 0) (by decide)) (rgL_i (rg_any _))) (rgL_c (v := 60) (lo := 60) (hi := 60) (by decide)))))) (by decide))), (oh_rgI (p := 1) (q := 99) (rg_w (lo := 1) (hi := 99) (rg_il (rgL_i (rg_il (rnL_leu u_40.2 (rnL_lel u_40.1 (rgL_c (v := 1) (lo := 1) (hi := 1) (by decide)) (rgL_i (rg_any _))) (rgL_c (v := 99) (lo := 99) (hi := 99) (by decide)))))) (by decide))), (oh_rgI (p := 1) (q := 999) (rg_w (lo := 1) (hi := 999) (rg_il (rgL_i (rg_il (rnL_leu u_44.2 (rnL_lel u_44.1 (rgL_c (v := 1) (lo := 1) (hi := 1) (by decide)) (rgL_i (rg_any _))) (rgL_c (v := 999) (lo := 999) (hi := 999) (by decide)))))) (by decide)))⟩ (by rw [← hA.1 1 (by decide)]; exact oh_full c_45)) hq_83 (absM_fr hA hT0 (show fr [(8, 9)] [] C C_82 from (fr_tr fr_rf f_84 (by decide) (by decide))) (by decide) (by decide) (by decide)))⟩⟩, ⟨by rw [ht]; exact hP, hD⟩⟩, hS.F ht⟩) hS.2.2 dX7_bridge_80
          · have u_86 := hq_42.2.2 c_43
            refine lv_aload_n hx hb dX7_bridge_58 rfl (lv_at hl 0 rfl) ?_
            refine lv_bipush (v := (-2)) hx hb dX7_bridge_59 (by decide) ?_
            refine tm_V (As := [.int (-2)]) (rest := []) ⟨hx, hb, hml, hown, htg⟩ (c_X7_refuse l D E G _ a C n hn hT ((-2) : Int32) (rg_w (rg_c (v := (-2)) (lo := (-2)) (hi := (-2)) (by decide)) (by decide))) (cwV 1 htg (oh_gV q_1071 q_1073 q_29 q_73 q_1074) rfl rfl rfl pdVX7_refuse ⟨Nat.le_of_ble_eq_true rfl, Nat.le_of_ble_eq_true rfl⟩) hK hP hD hG hS hA (va_recv hK hP (ci := 7) (q0 := 0) rfl (oh_wg (Nat.lt_of_lt_of_le (by decide) hn) (sM_0 hT))) rfl hl.1 rfl (Nat.le_of_ble_eq_true rfl) dX7_bridge_61 ⟨Nat.le_of_ble_eq_true rfl, Nat.le_of_ble_eq_true rfl⟩ (fun r_87 C_88 H locs hq_89 hP hD hS => ?_)
            obtain ⟨hT, f_90, hq_89⟩ := hq_89
            have hF := fr_tr hF f_90 (by decide) (by decide)
            refine W.widen (k := 0) (n := 0) (Nat.le_refl _) (Nat.le_refl _) ?_
            have t_91 := hT
            rw [hQ]
            exact W.iret (v := r_87) hx hb hr (fun t ht hW => ⟨⟨r_87, C_88, rfl, ⟨hT, hF, ⟨⟨hR.1.fr hF (by decide), hR.2.fr hF (by decide)⟩, (fun A hA => by rw [← show gi (C 0) 9 = A 5 0 0 from hA.1 0 (by decide)]; exact pr_b (P := fun z => absM C_88 z) (spRow_b (fun h8 => (oh_in64 (l' := 1) (k' := 999) rfl rfl u_86) h8.2.2.2.2)) hq_89 (absM_fr hA hT0 (show fr [(8, 9)] [] C C_88 from (fr_tr fr_rf f_90 (by decide) (by decide))) (by decide) (by decide) (by decide)))⟩⟩, ⟨by rw [ht]; exact hP, hD⟩⟩, hS.F ht⟩) hS.2.2 dX7_bridge_64

set_option maxHeartbeats 4000000 in
set_option maxRecDepth 100000 in
theorem e_X7_waggon (l : Launch) (D : va_G) (E : Nat → ClassId) (G : Nat → Nat) (sz : Nat) (a : Nat → Nat) (C : Nat → va_E) (n : Nat) (hn : 74 ≤ n) (hT : TyM a E C) (x1 : Int32) (x2 : Int32) (x3 : Int32) (hR : RelM C) : Met l yX7_waggon (oh_w yX7_waggon cX7_waggon 4 (some .int)) ({ frames := 1, cells := 0, slots := 0, locals := 25 }) (oh_Pm D E G [.ref (a 0), .int x1, .int x2, .int x3] (oh_W n a C) sz) (va_Qi (fun r (u : Nat → va_E) => TyM a E u ∧ fr [(8, 9), (64, 69)] [13] C u ∧ (RelM u) ∧ (∀ A : LA, absM C A → r = (spRow A 2 5 (okWg x1 x2 x3) (rwf [x1, x2, x3])).1 ∧ absM u (spRow A 2 5 (okWg x1 x2 x3) (rwf [x1, x2, x3])).2)) (oh_B D (va_A (oh_W n a C) sz) (fun u => oh_W n a u)) (va_A (oh_W n a C) sz)) 0 0 (va_A (oh_W n a C) sz) := by
  refine Met.ofW (cc := cX7_waggon) (maxL := 4) (ret := (some .int)) (by decide) rfl ?_
  intro p e s m args below meth c s₁ B hml hv
  obtain ⟨rfl, hsz, hP, hK, hD0, hG⟩ := hv
  have hx := B.exec
  have hb := B.bytes
  have hr := B.returns
  have hts := atoms_spec (ws := (oh_w yX7_waggon cX7_waggon 4 (some .int))) B.pre
  have htg : ∀ w ∈ oh_t, w.before _ s = true := fun w h => hts w (List.mem_cons_of_mem _ h)
  have hown : s.vm.findClass RX7 = some m.cls := findClass_of_methodNamed B.named
  have hlocks := B.notSynchronized
  have hT0 := hT
  subst hsz
  have hD := hD0.self (sz := s.heap.size)
  generalize hAe : va_A (oh_W n a C) s.heap.size = A at hD hG ⊢
  have hA : ∀ q : Nat, s.heap.size ≤ q → A q := fun q h => by rw [← hAe]; exact Or.inr h
  have hS : va_S A s.heap s.heap [] := va_S.rf
  have hF : fr [(8, 9), (64, 69)] [13] C C := fr_rf
  have hl := lv_entry ([.ref (a 0), .int x1, .int x2, .int x3]) (n := 4) (Nat.le_of_ble_eq_true rfl)
  rw [lg_entry_eq]
  generalize (lg_sl ([.ref (a 0), .int x1, .int x2, .int x3]) ++ List.replicate (4 - (lg_sl ([.ref (a 0), .int x1, .int x2, .int x3])).length) Slot.unset).toArray = ls at hl ⊢
  have hl : lv_has ls 4 [(0, .ref (a 0)), (1, .int x1), (2, .int x2), (3, .int x3)] := hl
  refine oh_genQ (fun Q hQ => ?_)
  refine lv_iload_n hx hb dX7_waggon_0 rfl (lv_at hl 1 rfl) ?_
  refine lv_i2l (v := Int32.toInt64 x1) hx hb dX7_waggon_1 (by rfl) ?_
  refine lv_ldc2 (v := 2) hx hb hown (htg _ q_1162) dX7_waggon_2 ?_
  refine lv_ldc2 (v := 12) hx hb hown (htg _ q_1163) dX7_waggon_5 ?_
  refine tq_S (As := [.long (Int32.toInt64 x1), .long 2, .long 12]) (rest := []) (ws := []) ⟨hx, hb, hml, hown, htg⟩ (c_X7_in l D E G (Int32.toInt64 x1) (2 : Int64) (12 : Int64)) (va_cwS 3 htg (oh_gS q_1066 q_1067 q_73 q_1068) rfl rfl rfl pdX7_in ⟨Nat.le_of_ble_eq_true rfl, Nat.le_of_ble_eq_true rfl⟩) hK va_nil hG hS rfl hl.1 rfl (Nat.le_of_ble_eq_true rfl) dX7_waggon_8 ⟨Nat.le_of_ble_eq_true rfl, Nat.le_of_ble_eq_true rfl⟩ (fun r_1 hq_2 => ?_)
  refine lv_if_eq (tgt := 38) hx hb dX7_waggon_11 (by decide) (fun (c_3 : r_1 = 0) => ?_) (fun (c_3 : ¬ (r_1 = 0)) => ?_)
  · have u_4 := hq_2.2.2 c_3
    refine lv_aload_n hx hb dX7_waggon_38 rfl (lv_at hl 0 rfl) ?_
    refine lv_bipush (v := (-2)) hx hb dX7_waggon_39 (by decide) ?_
    refine tm_V (As := [.int (-2)]) (rest := []) ⟨hx, hb, hml, hown, htg⟩ (c_X7_refuse l D E G _ a C n hn hT ((-2) : Int32) (rg_w (rg_c (v := (-2)) (lo := (-2)) (hi := (-2)) (by decide)) (by decide))) (cwV 1 htg (oh_gV q_1071 q_1073 q_29 q_73 q_1074) rfl rfl rfl pdVX7_refuse ⟨Nat.le_of_ble_eq_true rfl, Nat.le_of_ble_eq_true rfl⟩) hK hP hD hG hS hA (va_recv hK hP (ci := 7) (q0 := 0) rfl (oh_wg (Nat.lt_of_lt_of_le (by decide) hn) (sM_0 hT))) rfl hl.1 rfl (Nat.le_of_ble_eq_true rfl) dX7_waggon_41 ⟨Nat.le_of_ble_eq_true rfl, Nat.le_of_ble_eq_true rfl⟩ (fun r_5 C_6 H locs hq_7 hP hD hS => ?_)
    obtain ⟨hT, f_8, hq_7⟩ := hq_7
    have hF := fr_tr hF f_8 (by decide) (by decide)
    refine W.widen (k := 0) (n := 0) (Nat.le_refl _) (Nat.le_refl _) ?_
    have t_9 := hT
    rw [hQ]
    exact W.iret (v := r_5) hx hb hr (fun t ht hW => ⟨⟨r_5, C_6, rfl, ⟨hT, hF, ⟨⟨(RelW.fr hR.1 f_8 (by decide)), hR.2.fr hF (by decide)⟩, (fun A hA => pr_b (P := fun z => absM C_6 z) (spRow_b (fun h8 => (oh_in64 (l' := 2) (k' := 12) rfl rfl u_4) h8.1)) hq_7 (absM_fr hA hT0 (show fr [(8, 9)] [] C C_6 from (fr_tr fr_rf f_8 (by decide) (by decide))) (by decide) (by decide) (by decide)))⟩⟩, ⟨by rw [ht]; exact hP, hD⟩⟩, hS.F ht⟩) hS.2.2 dX7_waggon_44
  · have u_10 := hq_2.2.1 c_3
    refine lv_iload_n hx hb dX7_waggon_14 rfl (lv_at hl 2 rfl) ?_
    refine lv_i2l (v := Int32.toInt64 x2) hx hb dX7_waggon_15 (by rfl) ?_
    refine lv_lconst (v := 1) hx hb dX7_waggon_16 (by decide) ?_
    refine lv_ldc2 (v := 9) hx hb hown (htg _ q_1135) dX7_waggon_17 ?_
    refine tq_S (As := [.long (Int32.toInt64 x2), .long 1, .long 9]) (rest := []) (ws := []) ⟨hx, hb, hml, hown, htg⟩ (c_X7_in l D E G (Int32.toInt64 x2) (1 : Int64) (9 : Int64)) (va_cwS 3 htg (oh_gS q_1066 q_1067 q_73 q_1068) rfl rfl rfl pdX7_in ⟨Nat.le_of_ble_eq_true rfl, Nat.le_of_ble_eq_true rfl⟩) hK va_nil hG hS rfl hl.1 rfl (Nat.le_of_ble_eq_true rfl) dX7_waggon_20 ⟨Nat.le_of_ble_eq_true rfl, Nat.le_of_ble_eq_true rfl⟩ (fun r_11 hq_12 => ?_)
    refine lv_if_eq (tgt := 38) hx hb dX7_waggon_23 (by decide) (fun (c_13 : r_11 = 0) => ?_) (fun (c_13 : ¬ (r_11 = 0)) => ?_)
    · have u_14 := hq_12.2.2 c_13
      refine lv_aload_n hx hb dX7_waggon_38 rfl (lv_at hl 0 rfl) ?_
      refine lv_bipush (v := (-2)) hx hb dX7_waggon_39 (by decide) ?_
      refine tm_V (As := [.int (-2)]) (rest := []) ⟨hx, hb, hml, hown, htg⟩ (c_X7_refuse l D E G _ a C n hn hT ((-2) : Int32) (rg_w (rg_c (v := (-2)) (lo := (-2)) (hi := (-2)) (by decide)) (by decide))) (cwV 1 htg (oh_gV q_1071 q_1073 q_29 q_73 q_1074) rfl rfl rfl pdVX7_refuse ⟨Nat.le_of_ble_eq_true rfl, Nat.le_of_ble_eq_true rfl⟩) hK hP hD hG hS hA (va_recv hK hP (ci := 7) (q0 := 0) rfl (oh_wg (Nat.lt_of_lt_of_le (by decide) hn) (sM_0 hT))) rfl hl.1 rfl (Nat.le_of_ble_eq_true rfl) dX7_waggon_41 ⟨Nat.le_of_ble_eq_true rfl, Nat.le_of_ble_eq_true rfl⟩ (fun r_15 C_16 H locs hq_17 hP hD hS => ?_)
      obtain ⟨hT, f_18, hq_17⟩ := hq_17
      have hF := fr_tr hF f_18 (by decide) (by decide)
      refine W.widen (k := 0) (n := 0) (Nat.le_refl _) (Nat.le_refl _) ?_
      have t_19 := hT
      rw [hQ]
      exact W.iret (v := r_15) hx hb hr (fun t ht hW => ⟨⟨r_15, C_16, rfl, ⟨hT, hF, ⟨⟨(RelW.fr hR.1 f_18 (by decide)), hR.2.fr hF (by decide)⟩, (fun A hA => pr_b (P := fun z => absM C_16 z) (spRow_b (fun h8 => (oh_in64 (l' := 1) (k' := 9) rfl rfl u_14) h8.2.1)) hq_17 (absM_fr hA hT0 (show fr [(8, 9)] [] C C_16 from (fr_tr fr_rf f_18 (by decide) (by decide))) (by decide) (by decide) (by decide)))⟩⟩, ⟨by rw [ht]; exact hP, hD⟩⟩, hS.F ht⟩) hS.2.2 dX7_waggon_44
    · have u_20 := hq_12.2.1 c_13
      refine lv_iload_n hx hb dX7_waggon_26 rfl (lv_at hl 3 rfl) ?_
      refine lv_i2l (v := Int32.toInt64 x3) hx hb dX7_waggon_27 (by rfl) ?_
      refine lv_lconst (v := 0) hx hb dX7_waggon_28 (by decide) ?_
      refine lv_ldc2 (v := 99) hx hb hown (htg _ q_1136) dX7_waggon_29 ?_
      refine tq_S (As := [.long (Int32.toInt64 x3), .long 0, .long 99]) (rest := []) (ws := []) ⟨hx, hb, hml, hown, htg⟩ (c_X7_in l D E G (Int32.toInt64 x3) (0 : Int64) (99 : Int64)) (va_cwS 3 htg (oh_gS q_1066 q_1067 q_73 q_1068) rfl rfl rfl pdX7_in ⟨Nat.le_of_ble_eq_true rfl, Nat.le_of_ble_eq_true rfl⟩) hK va_nil hG hS rfl hl.1 rfl (Nat.le_of_ble_eq_true rfl) dX7_waggon_32 ⟨Nat.le_of_ble_eq_true rfl, Nat.le_of_ble_eq_true rfl⟩ (fun r_21 hq_22 => ?_)
      refine lv_if_ne (tgt := 45) hx hb dX7_waggon_35 (by decide) (fun (c_23 : ¬ (r_21 = 0)) => ?_) (fun (c_23 : r_21 = 0) => ?_)
      · have u_24 := hq_22.2.1 c_23
        refine lv_aload_n hx hb dX7_waggon_45 rfl (lv_at hl 0 rfl) ?_
        refine va_get (D := D) (ci := 7) (v := .int (gi (C 0) 13)) (C := RX7) (T := TX7) (N := 29) hx hb htg ig_7 hown hK hP 0 (oh_wg (Nat.lt_of_lt_of_le (by decide) hn) (sM_0 hT)) rfl 13 (by decide) (htg _ q_986) (fun _ h9 => h9) rfl dX7_waggon_46 ?_
        refine lv_iconst (v := 5) hx hb dX7_waggon_49 (by decide) ?_
        refine lv_icmp_ne (tgt := 60) hx hb dX7_waggon_50 (by decide) (fun (c_25 : ¬ ((gi (C 0) 13) = 5)) => ?_) (fun (c_25 : (gi (C 0) 13) = 5) => ?_)
        · refine lv_aload_n hx hb dX7_waggon_60 rfl (lv_at hl 0 rfl) ?_
          refine va_get (D := D) (ci := 7) (v := .ref (a 11)) (C := RX7) (T := TX7) (N := 29) hx hb htg ig_7 hown hK hP 0 (oh_wg (Nat.lt_of_lt_of_le (by decide) hn) (sM_0 hT)) rfl 14 (by decide) (htg _ q_987) (fun _ h9 => h9) rfl dX7_waggon_61 ?_
          refine lv_aload_n hx hb dX7_waggon_64 rfl (lv_at hl 0 rfl) ?_
          refine va_get (D := D) (ci := 7) (v := .int (gi (C 0) 13)) (C := RX7) (T := TX7) (N := 29) hx hb htg ig_7 hown hK hP 0 (oh_wg (Nat.lt_of_lt_of_le (by decide) hn) (sM_0 hT)) rfl 13 (by decide) (htg _ q_986) (fun _ h9 => h9) rfl dX7_waggon_65 ?_
          have n_26 : vp_in (gi (C 0) 13) 5 := (rg_in (rn_neu (u' := 4) c_25 (fM_0_13 hT0) (rg_c (v := 5) (lo := 5) (hi := 5) (by decide)) (by decide)) (by decide))
          have b_27 : (gi (C 0) 13).toNatClampNeg < 5 := vp_lt n_26
          refine th_aald hx hb hK hP 11 2 (Nat.lt_of_lt_of_le (by decide) hn) (sM_11 hT) rfl n_26 dX7_waggon_68 ?_
          refine lv_iconst (v := 0) hx hb dX7_waggon_69 (by decide) ?_
          refine lv_iload_n hx hb dX7_waggon_70 rfl (lv_at hl 1 rfl) ?_
          refine th_iast (T := TyM a E) (Rl := fr [(8, 9), (64, 69)] [13] C) hx hb hK hP hD hS (64 + (gi (C 0) 13).toNatClampNeg) (lt_blk b_27 hn (by decide)) (hT.bwaggon b_27).1 (rg_in (rg_c (v := 0) (lo := 0) (hi := 0) (by decide)) (by decide)) (hT.upwaggon b_27 (tA_upd (hT.bwaggon b_27) (tA_stc (show _ = 0 by decide) (rg_il (rgL_i (rg_il (rnL_leu u_10.2 (rnL_lel u_10.1 (rgL_c (v := 2) (lo := 2) (hi := 2) (by decide)) (rgL_i (rg_any _))) (rgL_c (v := 12) (lo := 12) (hi := 12) (by decide)))))) (by decide)))) (fr_st hF (by omega) (inR_of (p := (64, 69)) (by decide) (by show 64 ≤ _; omega) (by show _ < 69; omega))) dX7_waggon_71 (fun C_28 H locs e_29 hT hF hP hD hS => ?_)
          have t_30 := hT
          refine lv_aload_n hx hb dX7_waggon_72 rfl (lv_at hl 0 rfl) ?_
          refine va_get (D := D) (ci := 7) (v := .ref (a 11)) (C := RX7) (T := TX7) (N := 29) hx hb htg ig_7 hown hK hP 0 (oh_wg (Nat.lt_of_lt_of_le (by decide) hn) (sM_0 hT)) rfl 14 (by decide) (htg _ q_987) (fun _ h9 => h9) rfl dX7_waggon_73 ?_
          refine lv_aload_n hx hb dX7_waggon_76 rfl (lv_at hl 0 rfl) ?_
          refine va_get (D := D) (ci := 7) (v := .int (gi (C 0) 13)) (C := RX7) (T := TX7) (N := 29) hx hb htg ig_7 hown hK hP 0 (oh_wg (Nat.lt_of_lt_of_le (by decide) hn) (sM_0 hT)) rfl 13 (by decide) (htg _ q_986) (fun _ h9 => h9) (oh_fv (c := C_28 0) (j := 13) rfl (congrArg (fun z => gi z 13) (th_un e_29 (by omega)))) dX7_waggon_77 ?_
          have n_31 : vp_in (gi (C 0) 13) 5 := (rg_in (rn_neu (u' := 4) c_25 (fM_0_13 hT0) (rg_c (v := 5) (lo := 5) (hi := 5) (by decide)) (by decide)) (by decide))
          have b_32 : (gi (C 0) 13).toNatClampNeg < 5 := vp_lt n_31
          refine th_aald hx hb hK hP 11 2 (Nat.lt_of_lt_of_le (by decide) hn) (sM_11 hT) rfl n_31 dX7_waggon_80 ?_
          refine lv_iconst (v := 1) hx hb dX7_waggon_81 (by decide) ?_
          refine lv_iload_n hx hb dX7_waggon_82 rfl (lv_at hl 2 rfl) ?_
          refine th_iast (T := TyM a E) (Rl := fr [(8, 9), (64, 69)] [13] C) hx hb hK hP hD hS (64 + (gi (C 0) 13).toNatClampNeg) (lt_blk b_32 hn (by decide)) (hT.bwaggon b_32).1 (rg_in (rg_c (v := 1) (lo := 1) (hi := 1) (by decide)) (by decide)) (hT.upwaggon b_32 (tA_upd (hT.bwaggon b_32) (tA_stc (show _ = 1 by decide) (rg_il (rgL_i (rg_il (rnL_leu u_20.2 (rnL_lel u_20.1 (rgL_c (v := 1) (lo := 1) (hi := 1) (by decide)) (rgL_i (rg_any _))) (rgL_c (v := 9) (lo := 9) (hi := 9) (by decide)))))) (by decide)))) (fr_st hF (by omega) (inR_of (p := (64, 69)) (by decide) (by show 64 ≤ _; omega) (by show _ < 69; omega))) dX7_waggon_83 (fun C_33 H locs e_34 hT hF hP hD hS => ?_)
          have t_35 := hT
          refine lv_aload_n hx hb dX7_waggon_84 rfl (lv_at hl 0 rfl) ?_
          refine va_get (D := D) (ci := 7) (v := .ref (a 11)) (C := RX7) (T := TX7) (N := 29) hx hb htg ig_7 hown hK hP 0 (oh_wg (Nat.lt_of_lt_of_le (by decide) hn) (sM_0 hT)) rfl 14 (by decide) (htg _ q_987) (fun _ h9 => h9) rfl dX7_waggon_85 ?_
          refine lv_aload_n hx hb dX7_waggon_88 rfl (lv_at hl 0 rfl) ?_
          refine va_get (D := D) (ci := 7) (v := .int (gi (C 0) 13)) (C := RX7) (T := TX7) (N := 29) hx hb htg ig_7 hown hK hP 0 (oh_wg (Nat.lt_of_lt_of_le (by decide) hn) (sM_0 hT)) rfl 13 (by decide) (htg _ q_986) (fun _ h9 => h9) (oh_fv (c := C_33 0) (j := 13) rfl (Eq.trans (congrArg (fun z => gi z 13) (th_un e_34 (by omega))) (congrArg (fun z => gi z 13) (th_un e_29 (by omega))))) dX7_waggon_89 ?_
          have n_36 : vp_in (gi (C 0) 13) 5 := (rg_in (rn_neu (u' := 4) c_25 (fM_0_13 hT0) (rg_c (v := 5) (lo := 5) (hi := 5) (by decide)) (by decide)) (by decide))
          have b_37 : (gi (C 0) 13).toNatClampNeg < 5 := vp_lt n_36
          refine th_aald hx hb hK hP 11 2 (Nat.lt_of_lt_of_le (by decide) hn) (sM_11 hT) rfl n_36 dX7_waggon_92 ?_
          refine lv_iconst (v := 2) hx hb dX7_waggon_93 (by decide) ?_
          refine lv_iload_n hx hb dX7_waggon_94 rfl (lv_at hl 3 rfl) ?_
          refine th_iast (T := TyM a E) (Rl := fr [(8, 9), (64, 69)] [13] C) hx hb hK hP hD hS (64 + (gi (C 0) 13).toNatClampNeg) (lt_blk b_37 hn (by decide)) (hT.bwaggon b_37).1 (rg_in (rg_c (v := 2) (lo := 2) (hi := 2) (by decide)) (by decide)) (hT.upwaggon b_37 (tA_upd (hT.bwaggon b_37) (tA_stc (show _ = 2 by decide) (rg_il (rgL_i (rg_il (rnL_leu u_24.2 (rnL_lel u_24.1 (rgL_c (v := 0) (lo := 0) (hi := 0) (by decide)) (rgL_i (rg_any _))) (rgL_c (v := 99) (lo := 99) (hi := 99) (by decide)))))) (by decide)))) (fr_st hF (by omega) (inR_of (p := (64, 69)) (by decide) (by show 64 ≤ _; omega) (by show _ < 69; omega))) dX7_waggon_95 (fun C_38 H locs e_39 hT hF hP hD hS => ?_)
          have t_40 := hT
          refine lv_aload_n hx hb dX7_waggon_96 rfl (lv_at hl 0 rfl) ?_
          refine lv_dup hx hb dX7_waggon_97 rfl ?_
          refine va_get (D := D) (ci := 7) (v := .int (gi (C 0) 13)) (C := RX7) (T := TX7) (N := 29) hx hb htg ig_7 hown hK hP 0 (oh_wg (Nat.lt_of_lt_of_le (by decide) hn) (sM_0 hT)) rfl 13 (by decide) (htg _ q_986) (fun _ h9 => h9) (oh_fv (c := C_38 0) (j := 13) rfl (Eq.trans (congrArg (fun z => gi z 13) (th_un e_39 (by omega))) (Eq.trans (congrArg (fun z => gi z 13) (th_un e_34 (by omega))) (congrArg (fun z => gi z 13) (th_un e_29 (by omega)))))) dX7_waggon_98 ?_
          refine lv_dup_x1 hx hb dX7_waggon_101 rfl rfl ?_
          refine lv_iconst (v := 1) hx hb dX7_waggon_102 (by decide) ?_
          refine lv_iadd hx hb dX7_waggon_103 ?_
          refine th_put (Tp := TyM a E) (Rl := fr [(8, 9), (64, 69)] [13] C) (ci := 7) (v := .int ((gi (C 0) 13) + 1)) (ty := .int) (CC := RX7) (T := TX7) (N := 29) hx hb htg ig_7 tyX7 tyX7_ok nmX7 hown hK hP hD hS 0 (Nat.lt_of_lt_of_le (by decide) hn) (sM_0 hT) rfl 13 (by decide) (htg _ q_986) (fun _ h9 => h9) rfl (by decide +kernel) rfl rfl (Nat.le_of_ble_eq_true rfl) (hT.up 0 (by decide) ⟨rfl, (fM_0_7 hT), (fM_0_9 hT), (fM_0_11 hT), (rg_w (rg_add (lo := 1) (hi := 5) (rn_neu (u' := 4) c_25 (fM_0_13 hT0) (rg_c (v := 5) (lo := 5) (hi := 5) (by decide)) (by decide)) (rg_c (v := 1) (lo := 1) (hi := 1) (by decide)) (by decide)) (by decide)), (fM_0_15 hT), (fM_0_21 hT), (fM_0_23 hT)⟩) (fr_fd hF (sM_0 hT) (by decide)) dX7_waggon_104 (fun C_41 H locs e_42 hT hF hP hD hS => ?_)
          have t_43 := hT
          have hrw_44 : ∀ j, j < 3 → ga (C_41 (64 + (gi (C 0) 13).toNatClampNeg)) j = rwf [x1, x2, x3] j := rows3 (Eq.trans (congrArg (fun z => ga z ((0 : Int32)).toNatClampNeg) (th_un e_42 (by omega))) (Eq.trans (show ga (C_38 (64 + (gi (C 0) 13).toNatClampNeg)) ((0 : Int32)).toNatClampNeg = ga (C_33 (64 + (gi (C 0) 13).toNatClampNeg)) ((0 : Int32)).toNatClampNeg by rw [st_ga e_39]; exact pk_un (by decide)) (Eq.trans (show ga (C_33 (64 + (gi (C 0) 13).toNatClampNeg)) ((0 : Int32)).toNatClampNeg = ga (C_28 (64 + (gi (C 0) 13).toNatClampNeg)) ((0 : Int32)).toNatClampNeg by rw [st_ga e_34]; exact pk_un (by decide)) (show ga (C_28 (64 + (gi (C 0) 13).toNatClampNeg)) ((0 : Int32)).toNatClampNeg = x1 by rw [st_ga e_29]; exact pk_us)))) (Eq.trans (congrArg (fun z => ga z ((1 : Int32)).toNatClampNeg) (th_un e_42 (by omega))) (Eq.trans (show ga (C_38 (64 + (gi (C 0) 13).toNatClampNeg)) ((1 : Int32)).toNatClampNeg = ga (C_33 (64 + (gi (C 0) 13).toNatClampNeg)) ((1 : Int32)).toNatClampNeg by rw [st_ga e_39]; exact pk_un (by decide)) (show ga (C_33 (64 + (gi (C 0) 13).toNatClampNeg)) ((1 : Int32)).toNatClampNeg = x2 by rw [st_ga e_34]; exact pk_us))) (Eq.trans (congrArg (fun z => ga z ((2 : Int32)).toNatClampNeg) (th_un e_42 (by omega))) (show ga (C_38 (64 + (gi (C 0) 13).toNatClampNeg)) ((2 : Int32)).toNatClampNeg = x3 by rw [st_ga e_39]; exact pk_us))
          have ho_45 : ∀ i, i ≠ (gi (C 0) 13).toNatClampNeg → C_41 (64 + i) = C (64 + i) := (fun i hne => (Eq.trans (th_un e_42 (by omega)) (Eq.trans (th_un e_39 (by omega)) (Eq.trans (th_un e_34 (by omega)) (th_un e_29 (by omega))))))
          rw [hQ]
          exact W.iret (v := gi (C 0) 13) hx hb hr (fun t ht hW => ⟨⟨gi (C 0) 13, C_41, rfl, ⟨hT, hF, ⟨⟨oh_relWadd (w := (gi (C 0) 13).toNatClampNeg) hR.1 (oh_nat (fM_0_13 hT0) (by decide)) (by rw [(show gi (C_41 0) 13 = ((gi (C 0) 13) + 1) by rw [e_42]; rfl)]; exact oh_inc13 (fM_0_13 hT0)) (fun i hi hne => (Eq.trans (th_un e_42 (by omega)) (Eq.trans (th_un e_39 (by omega)) (Eq.trans (th_un e_34 (by omega)) (th_un e_29 (by omega)))))) (by rw [(th_un e_42 (by omega)), (st_ga e_39), pk_un (by decide), (st_ga e_34), pk_un (by decide), (st_ga e_29)]; exact (rg_w (lo := 1) (hi := 12) (rg_il (rgL_i (rg_il (rnL_leu u_10.2 (rnL_lel u_10.1 (rgL_c (v := 2) (lo := 2) (hi := 2) (by decide)) (rgL_i (rg_any _))) (rgL_c (v := 12) (lo := 12) (hi := 12) (by decide)))))) (by decide)).1) (by rw [(th_un e_42 (by omega)), (st_ga e_39), pk_un (by decide), (st_ga e_34)]; exact (rg_w (lo := 1) (hi := 12) (rg_il (rgL_i (rg_il (rnL_leu u_20.2 (rnL_lel u_20.1 (rgL_c (v := 1) (lo := 1) (hi := 1) (by decide)) (rgL_i (rg_any _))) (rgL_c (v := 9) (lo := 9) (hi := 9) (by decide)))))) (by decide)).1) (Eq.trans (th_un e_42 (by decide)) (Eq.trans (th_un e_39 (by omega)) (Eq.trans (th_un e_34 (by omega)) (th_un e_29 (by omega))))), hR.2.fr hF (by decide)⟩, (fun A hA => spM_y (t := 2) hT0 hA (by decide) ⟨(oh_rgI (p := 2) (q := 12) (rg_w (lo := 2) (hi := 12) (rg_il (rgL_i (rg_il (rnL_leu u_10.2 (rnL_lel u_10.1 (rgL_c (v := 2) (lo := 2) (hi := 2) (by decide)) (rgL_i (rg_any _))) (rgL_c (v := 12) (lo := 12) (hi := 12) (by decide)))))) (by decide))), (oh_rgI (p := 1) (q := 9) (rg_w (lo := 1) (hi := 9) (rg_il (rgL_i (rg_il (rnL_leu u_20.2 (rnL_lel u_20.1 (rgL_c (v := 1) (lo := 1) (hi := 1) (by decide)) (rgL_i (rg_any _))) (rgL_c (v := 9) (lo := 9) (hi := 9) (by decide)))))) (by decide))), (oh_rgI (p := 0) (q := 99) (rg_w (lo := 0) (hi := 99) (rg_il (rgL_i (rg_il (rnL_leu u_24.2 (rnL_lel u_24.1 (rgL_c (v := 0) (lo := 0) (hi := 0) (by decide)) (rgL_i (rg_any _))) (rgL_c (v := 99) (lo := 99) (hi := 99) (by decide)))))) (by decide)))⟩ (oh_room24 (fM_0_13 hT0) (by decide) c_25) rfl (show gi (C_41 0) 13 = ((gi (C 0) 13) + 1) by rw [e_42]; rfl) hrw_44 ho_45 hF (by decide) (by decide) (by decide))⟩⟩, ⟨by rw [ht]; exact hP, hD⟩⟩, hS.F ht⟩) hS.2.2 dX7_waggon_107
        · refine lv_aload_n hx hb dX7_waggon_53 rfl (lv_at hl 0 rfl) ?_
          refine lv_bipush (v := (-6)) hx hb dX7_waggon_54 (by decide) ?_
          refine tm_V (As := [.int (-6)]) (rest := []) ⟨hx, hb, hml, hown, htg⟩ (c_X7_refuse l D E G _ a C n hn hT ((-6) : Int32) (rg_w (rg_c (v := (-6)) (lo := (-6)) (hi := (-6)) (by decide)) (by decide))) (cwV 1 htg (oh_gV q_1071 q_1073 q_29 q_73 q_1074) rfl rfl rfl pdVX7_refuse ⟨Nat.le_of_ble_eq_true rfl, Nat.le_of_ble_eq_true rfl⟩) hK hP hD hG hS hA (va_recv hK hP (ci := 7) (q0 := 0) rfl (oh_wg (Nat.lt_of_lt_of_le (by decide) hn) (sM_0 hT))) rfl hl.1 rfl (Nat.le_of_ble_eq_true rfl) dX7_waggon_56 ⟨Nat.le_of_ble_eq_true rfl, Nat.le_of_ble_eq_true rfl⟩ (fun r_46 C_47 H locs hq_48 hP hD hS => ?_)
          obtain ⟨hT, f_49, hq_48⟩ := hq_48
          have hF := fr_tr hF f_49 (by decide) (by decide)
          refine W.widen (k := 0) (n := 0) (Nat.le_refl _) (Nat.le_refl _) ?_
          have t_50 := hT
          rw [hQ]
          exact W.iret (v := r_46) hx hb hr (fun t ht hW => ⟨⟨r_46, C_47, rfl, ⟨hT, hF, ⟨⟨(RelW.fr hR.1 f_49 (by decide)), hR.2.fr hF (by decide)⟩, (fun A hA => pr_b (P := fun z => absM C_47 z) (spRow_f ⟨(oh_rgI (p := 2) (q := 12) (rg_w (lo := 2) (hi := 12) (rg_il (rgL_i (rg_il (rnL_leu u_10.2 (rnL_lel u_10.1 (rgL_c (v := 2) (lo := 2) (hi := 2) (by decide)) (rgL_i (rg_any _))) (rgL_c (v := 12) (lo := 12) (hi := 12) (by decide)))))) (by decide))), (oh_rgI (p := 1) (q := 9) (rg_w (lo := 1) (hi := 9) (rg_il (rgL_i (rg_il (rnL_leu u_20.2 (rnL_lel u_20.1 (rgL_c (v := 1) (lo := 1) (hi := 1) (by decide)) (rgL_i (rg_any _))) (rgL_c (v := 9) (lo := 9) (hi := 9) (by decide)))))) (by decide))), (oh_rgI (p := 0) (q := 99) (rg_w (lo := 0) (hi := 99) (rg_il (rgL_i (rg_il (rnL_leu u_24.2 (rnL_lel u_24.1 (rgL_c (v := 0) (lo := 0) (hi := 0) (by decide)) (rgL_i (rg_any _))) (rgL_c (v := 99) (lo := 99) (hi := 99) (by decide)))))) (by decide)))⟩ (by rw [← hA.1 2 (by decide)]; exact oh_full c_25)) hq_48 (absM_fr hA hT0 (show fr [(8, 9)] [] C C_47 from (fr_tr fr_rf f_49 (by decide) (by decide))) (by decide) (by decide) (by decide)))⟩⟩, ⟨by rw [ht]; exact hP, hD⟩⟩, hS.F ht⟩) hS.2.2 dX7_waggon_59
      · have u_51 := hq_22.2.2 c_23
        refine lv_aload_n hx hb dX7_waggon_38 rfl (lv_at hl 0 rfl) ?_
        refine lv_bipush (v := (-2)) hx hb dX7_waggon_39 (by decide) ?_
        refine tm_V (As := [.int (-2)]) (rest := []) ⟨hx, hb, hml, hown, htg⟩ (c_X7_refuse l D E G _ a C n hn hT ((-2) : Int32) (rg_w (rg_c (v := (-2)) (lo := (-2)) (hi := (-2)) (by decide)) (by decide))) (cwV 1 htg (oh_gV q_1071 q_1073 q_29 q_73 q_1074) rfl rfl rfl pdVX7_refuse ⟨Nat.le_of_ble_eq_true rfl, Nat.le_of_ble_eq_true rfl⟩) hK hP hD hG hS hA (va_recv hK hP (ci := 7) (q0 := 0) rfl (oh_wg (Nat.lt_of_lt_of_le (by decide) hn) (sM_0 hT))) rfl hl.1 rfl (Nat.le_of_ble_eq_true rfl) dX7_waggon_41 ⟨Nat.le_of_ble_eq_true rfl, Nat.le_of_ble_eq_true rfl⟩ (fun r_52 C_53 H locs hq_54 hP hD hS => ?_)
        obtain ⟨hT, f_55, hq_54⟩ := hq_54
        have hF := fr_tr hF f_55 (by decide) (by decide)
        refine W.widen (k := 0) (n := 0) (Nat.le_refl _) (Nat.le_refl _) ?_
        have t_56 := hT
        rw [hQ]
        exact W.iret (v := r_52) hx hb hr (fun t ht hW => ⟨⟨r_52, C_53, rfl, ⟨hT, hF, ⟨⟨(RelW.fr hR.1 f_55 (by decide)), hR.2.fr hF (by decide)⟩, (fun A hA => pr_b (P := fun z => absM C_53 z) (spRow_b (fun h8 => (oh_in64 (l' := 0) (k' := 99) rfl rfl u_51) h8.2.2)) hq_54 (absM_fr hA hT0 (show fr [(8, 9)] [] C C_53 from (fr_tr fr_rf f_55 (by decide) (by decide))) (by decide) (by decide) (by decide)))⟩⟩, ⟨by rw [ht]; exact hP, hD⟩⟩, hS.F ht⟩) hS.2.2 dX7_waggon_44

set_option maxHeartbeats 4000000 in
set_option maxRecDepth 100000 in
theorem e_X7_part (l : Launch) (D : va_G) (E : Nat → ClassId) (G : Nat → Nat) (sz : Nat) (a : Nat → Nat) (C : Nat → va_E) (n : Nat) (hn : 74 ≤ n) (hT : TyM a E C) (x1 : Int32) (x2 : Int32) (hR : RelM C) : Met l yX7_part (oh_w yX7_part cX7_part 3 (some .int)) ({ frames := 1, cells := 0, slots := 0, locals := 25 }) (oh_Pm D E G [.ref (a 0), .int x1, .int x2] (oh_W n a C) sz) (va_Qi (fun r (u : Nat → va_E) => TyM a E u ∧ fr [(8, 9), (69, 74)] [15] C u ∧ (RelM u) ∧ (∀ A : LA, absM C A → r = (spRow A 3 5 (okPt x1 x2) (rwf [x1, x2])).1 ∧ absM u (spRow A 3 5 (okPt x1 x2) (rwf [x1, x2])).2)) (oh_B D (va_A (oh_W n a C) sz) (fun u => oh_W n a u)) (va_A (oh_W n a C) sz)) 0 0 (va_A (oh_W n a C) sz) := by
  refine Met.ofW (cc := cX7_part) (maxL := 3) (ret := (some .int)) (by decide) rfl ?_
  intro p e s m args below meth c s₁ B hml hv
  obtain ⟨rfl, hsz, hP, hK, hD0, hG⟩ := hv
  have hx := B.exec
  have hb := B.bytes
  have hr := B.returns
  have hts := atoms_spec (ws := (oh_w yX7_part cX7_part 3 (some .int))) B.pre
  have htg : ∀ w ∈ oh_t, w.before _ s = true := fun w h => hts w (List.mem_cons_of_mem _ h)
  have hown : s.vm.findClass RX7 = some m.cls := findClass_of_methodNamed B.named
  have hlocks := B.notSynchronized
  have hT0 := hT
  subst hsz
  have hD := hD0.self (sz := s.heap.size)
  generalize hAe : va_A (oh_W n a C) s.heap.size = A at hD hG ⊢
  have hA : ∀ q : Nat, s.heap.size ≤ q → A q := fun q h => by rw [← hAe]; exact Or.inr h
  have hS : va_S A s.heap s.heap [] := va_S.rf
  have hF : fr [(8, 9), (69, 74)] [15] C C := fr_rf
  have hl := lv_entry ([.ref (a 0), .int x1, .int x2]) (n := 3) (Nat.le_of_ble_eq_true rfl)
  rw [lg_entry_eq]
  generalize (lg_sl ([.ref (a 0), .int x1, .int x2]) ++ List.replicate (3 - (lg_sl ([.ref (a 0), .int x1, .int x2])).length) Slot.unset).toArray = ls at hl ⊢
  have hl : lv_has ls 3 [(0, .ref (a 0)), (1, .int x1), (2, .int x2)] := hl
  refine oh_genQ (fun Q hQ => ?_)
  refine lv_iload_n hx hb dX7_part_0 rfl (lv_at hl 1 rfl) ?_
  refine lv_i2l (v := Int32.toInt64 x1) hx hb dX7_part_1 (by rfl) ?_
  refine lv_lconst (v := 1) hx hb dX7_part_2 (by decide) ?_
  refine lv_ldc2 (v := 99) hx hb hown (htg _ q_1136) dX7_part_3 ?_
  refine tq_S (As := [.long (Int32.toInt64 x1), .long 1, .long 99]) (rest := []) (ws := []) ⟨hx, hb, hml, hown, htg⟩ (c_X7_in l D E G (Int32.toInt64 x1) (1 : Int64) (99 : Int64)) (va_cwS 3 htg (oh_gS q_1066 q_1067 q_73 q_1068) rfl rfl rfl pdX7_in ⟨Nat.le_of_ble_eq_true rfl, Nat.le_of_ble_eq_true rfl⟩) hK va_nil hG hS rfl hl.1 rfl (Nat.le_of_ble_eq_true rfl) dX7_part_6 ⟨Nat.le_of_ble_eq_true rfl, Nat.le_of_ble_eq_true rfl⟩ (fun r_1 hq_2 => ?_)
  refine lv_if_eq (tgt := 24) hx hb dX7_part_9 (by decide) (fun (c_3 : r_1 = 0) => ?_) (fun (c_3 : ¬ (r_1 = 0)) => ?_)
  · have u_4 := hq_2.2.2 c_3
    refine lv_aload_n hx hb dX7_part_24 rfl (lv_at hl 0 rfl) ?_
    refine lv_bipush (v := (-2)) hx hb dX7_part_25 (by decide) ?_
    refine tm_V (As := [.int (-2)]) (rest := []) ⟨hx, hb, hml, hown, htg⟩ (c_X7_refuse l D E G _ a C n hn hT ((-2) : Int32) (rg_w (rg_c (v := (-2)) (lo := (-2)) (hi := (-2)) (by decide)) (by decide))) (cwV 1 htg (oh_gV q_1071 q_1073 q_29 q_73 q_1074) rfl rfl rfl pdVX7_refuse ⟨Nat.le_of_ble_eq_true rfl, Nat.le_of_ble_eq_true rfl⟩) hK hP hD hG hS hA (va_recv hK hP (ci := 7) (q0 := 0) rfl (oh_wg (Nat.lt_of_lt_of_le (by decide) hn) (sM_0 hT))) rfl hl.1 rfl (Nat.le_of_ble_eq_true rfl) dX7_part_27 ⟨Nat.le_of_ble_eq_true rfl, Nat.le_of_ble_eq_true rfl⟩ (fun r_5 C_6 H locs hq_7 hP hD hS => ?_)
    obtain ⟨hT, f_8, hq_7⟩ := hq_7
    have hF := fr_tr hF f_8 (by decide) (by decide)
    refine W.widen (k := 0) (n := 0) (Nat.le_refl _) (Nat.le_refl _) ?_
    have t_9 := hT
    rw [hQ]
    exact W.iret (v := r_5) hx hb hr (fun t ht hW => ⟨⟨r_5, C_6, rfl, ⟨hT, hF, ⟨⟨hR.1.fr hF (by decide), hR.2.fr hF (by decide)⟩, (fun A hA => pr_b (P := fun z => absM C_6 z) (spRow_b (fun h8 => (oh_in64 (l' := 1) (k' := 99) rfl rfl u_4) h8.1)) hq_7 (absM_fr hA hT0 (show fr [(8, 9)] [] C C_6 from (fr_tr fr_rf f_8 (by decide) (by decide))) (by decide) (by decide) (by decide)))⟩⟩, ⟨by rw [ht]; exact hP, hD⟩⟩, hS.F ht⟩) hS.2.2 dX7_part_30
  · have u_10 := hq_2.2.1 c_3
    refine lv_iload_n hx hb dX7_part_12 rfl (lv_at hl 2 rfl) ?_
    refine lv_i2l (v := Int32.toInt64 x2) hx hb dX7_part_13 (by rfl) ?_
    refine lv_lconst (v := 0) hx hb dX7_part_14 (by decide) ?_
    refine lv_ldc2 (v := 99) hx hb hown (htg _ q_1136) dX7_part_15 ?_
    refine tq_S (As := [.long (Int32.toInt64 x2), .long 0, .long 99]) (rest := []) (ws := []) ⟨hx, hb, hml, hown, htg⟩ (c_X7_in l D E G (Int32.toInt64 x2) (0 : Int64) (99 : Int64)) (va_cwS 3 htg (oh_gS q_1066 q_1067 q_73 q_1068) rfl rfl rfl pdX7_in ⟨Nat.le_of_ble_eq_true rfl, Nat.le_of_ble_eq_true rfl⟩) hK va_nil hG hS rfl hl.1 rfl (Nat.le_of_ble_eq_true rfl) dX7_part_18 ⟨Nat.le_of_ble_eq_true rfl, Nat.le_of_ble_eq_true rfl⟩ (fun r_11 hq_12 => ?_)
    refine lv_if_ne (tgt := 31) hx hb dX7_part_21 (by decide) (fun (c_13 : ¬ (r_11 = 0)) => ?_) (fun (c_13 : r_11 = 0) => ?_)
    · have u_14 := hq_12.2.1 c_13
      refine lv_aload_n hx hb dX7_part_31 rfl (lv_at hl 0 rfl) ?_
      refine va_get (D := D) (ci := 7) (v := .int (gi (C 0) 15)) (C := RX7) (T := TX7) (N := 29) hx hb htg ig_7 hown hK hP 0 (oh_wg (Nat.lt_of_lt_of_le (by decide) hn) (sM_0 hT)) rfl 15 (by decide) (htg _ q_988) (fun _ h9 => h9) rfl dX7_part_32 ?_
      refine lv_iconst (v := 5) hx hb dX7_part_35 (by decide) ?_
      refine lv_icmp_ne (tgt := 46) hx hb dX7_part_36 (by decide) (fun (c_15 : ¬ ((gi (C 0) 15) = 5)) => ?_) (fun (c_15 : (gi (C 0) 15) = 5) => ?_)
      · refine lv_aload_n hx hb dX7_part_46 rfl (lv_at hl 0 rfl) ?_
        refine va_get (D := D) (ci := 7) (v := .ref (a 12)) (C := RX7) (T := TX7) (N := 29) hx hb htg ig_7 hown hK hP 0 (oh_wg (Nat.lt_of_lt_of_le (by decide) hn) (sM_0 hT)) rfl 16 (by decide) (htg _ q_989) (fun _ h9 => h9) rfl dX7_part_47 ?_
        refine lv_aload_n hx hb dX7_part_50 rfl (lv_at hl 0 rfl) ?_
        refine va_get (D := D) (ci := 7) (v := .int (gi (C 0) 15)) (C := RX7) (T := TX7) (N := 29) hx hb htg ig_7 hown hK hP 0 (oh_wg (Nat.lt_of_lt_of_le (by decide) hn) (sM_0 hT)) rfl 15 (by decide) (htg _ q_988) (fun _ h9 => h9) rfl dX7_part_51 ?_
        have n_16 : vp_in (gi (C 0) 15) 5 := (rg_in (rn_neu (u' := 4) c_15 (fM_0_15 hT0) (rg_c (v := 5) (lo := 5) (hi := 5) (by decide)) (by decide)) (by decide))
        have b_17 : (gi (C 0) 15).toNatClampNeg < 5 := vp_lt n_16
        refine th_aald hx hb hK hP 12 2 (Nat.lt_of_lt_of_le (by decide) hn) (sM_12 hT) rfl n_16 dX7_part_54 ?_
        refine lv_iconst (v := 0) hx hb dX7_part_55 (by decide) ?_
        refine lv_iload_n hx hb dX7_part_56 rfl (lv_at hl 1 rfl) ?_
        refine th_iast (T := TyM a E) (Rl := fr [(8, 9), (69, 74)] [15] C) hx hb hK hP hD hS (69 + (gi (C 0) 15).toNatClampNeg) (lt_blk b_17 hn (by decide)) (hT.bpart b_17).1 (rg_in (rg_c (v := 0) (lo := 0) (hi := 0) (by decide)) (by decide)) (hT.uppart b_17 (tA_upd (hT.bpart b_17) tA_any)) (fr_st hF (by omega) (inR_of (p := (69, 74)) (by decide) (by show 69 ≤ _; omega) (by show _ < 74; omega))) dX7_part_57 (fun C_18 H locs e_19 hT hF hP hD hS => ?_)
        have t_20 := hT
        refine lv_aload_n hx hb dX7_part_58 rfl (lv_at hl 0 rfl) ?_
        refine va_get (D := D) (ci := 7) (v := .ref (a 12)) (C := RX7) (T := TX7) (N := 29) hx hb htg ig_7 hown hK hP 0 (oh_wg (Nat.lt_of_lt_of_le (by decide) hn) (sM_0 hT)) rfl 16 (by decide) (htg _ q_989) (fun _ h9 => h9) rfl dX7_part_59 ?_
        refine lv_aload_n hx hb dX7_part_62 rfl (lv_at hl 0 rfl) ?_
        refine va_get (D := D) (ci := 7) (v := .int (gi (C 0) 15)) (C := RX7) (T := TX7) (N := 29) hx hb htg ig_7 hown hK hP 0 (oh_wg (Nat.lt_of_lt_of_le (by decide) hn) (sM_0 hT)) rfl 15 (by decide) (htg _ q_988) (fun _ h9 => h9) (oh_fv (c := C_18 0) (j := 15) rfl (congrArg (fun z => gi z 15) (th_un e_19 (by omega)))) dX7_part_63 ?_
        have n_21 : vp_in (gi (C 0) 15) 5 := (rg_in (rn_neu (u' := 4) c_15 (fM_0_15 hT0) (rg_c (v := 5) (lo := 5) (hi := 5) (by decide)) (by decide)) (by decide))
        have b_22 : (gi (C 0) 15).toNatClampNeg < 5 := vp_lt n_21
        refine th_aald hx hb hK hP 12 2 (Nat.lt_of_lt_of_le (by decide) hn) (sM_12 hT) rfl n_21 dX7_part_66 ?_
        refine lv_iconst (v := 1) hx hb dX7_part_67 (by decide) ?_
        refine lv_iload_n hx hb dX7_part_68 rfl (lv_at hl 2 rfl) ?_
        refine th_iast (T := TyM a E) (Rl := fr [(8, 9), (69, 74)] [15] C) hx hb hK hP hD hS (69 + (gi (C 0) 15).toNatClampNeg) (lt_blk b_22 hn (by decide)) (hT.bpart b_22).1 (rg_in (rg_c (v := 1) (lo := 1) (hi := 1) (by decide)) (by decide)) (hT.uppart b_22 (tA_upd (hT.bpart b_22) tA_any)) (fr_st hF (by omega) (inR_of (p := (69, 74)) (by decide) (by show 69 ≤ _; omega) (by show _ < 74; omega))) dX7_part_69 (fun C_23 H locs e_24 hT hF hP hD hS => ?_)
        have t_25 := hT
        refine lv_aload_n hx hb dX7_part_70 rfl (lv_at hl 0 rfl) ?_
        refine lv_dup hx hb dX7_part_71 rfl ?_
        refine va_get (D := D) (ci := 7) (v := .int (gi (C 0) 15)) (C := RX7) (T := TX7) (N := 29) hx hb htg ig_7 hown hK hP 0 (oh_wg (Nat.lt_of_lt_of_le (by decide) hn) (sM_0 hT)) rfl 15 (by decide) (htg _ q_988) (fun _ h9 => h9) (oh_fv (c := C_23 0) (j := 15) rfl (Eq.trans (congrArg (fun z => gi z 15) (th_un e_24 (by omega))) (congrArg (fun z => gi z 15) (th_un e_19 (by omega))))) dX7_part_72 ?_
        refine lv_dup_x1 hx hb dX7_part_75 rfl rfl ?_
        refine lv_iconst (v := 1) hx hb dX7_part_76 (by decide) ?_
        refine lv_iadd hx hb dX7_part_77 ?_
        refine th_put (Tp := TyM a E) (Rl := fr [(8, 9), (69, 74)] [15] C) (ci := 7) (v := .int ((gi (C 0) 15) + 1)) (ty := .int) (CC := RX7) (T := TX7) (N := 29) hx hb htg ig_7 tyX7 tyX7_ok nmX7 hown hK hP hD hS 0 (Nat.lt_of_lt_of_le (by decide) hn) (sM_0 hT) rfl 15 (by decide) (htg _ q_988) (fun _ h9 => h9) rfl (by decide +kernel) rfl rfl (Nat.le_of_ble_eq_true rfl) (hT.up 0 (by decide) ⟨rfl, (fM_0_7 hT), (fM_0_9 hT), (fM_0_11 hT), (fM_0_13 hT), (rg_w (rg_add (lo := 1) (hi := 5) (rn_neu (u' := 4) c_15 (fM_0_15 hT0) (rg_c (v := 5) (lo := 5) (hi := 5) (by decide)) (by decide)) (rg_c (v := 1) (lo := 1) (hi := 1) (by decide)) (by decide)) (by decide)), (fM_0_21 hT), (fM_0_23 hT)⟩) (fr_fd hF (sM_0 hT) (by decide)) dX7_part_78 (fun C_26 H locs e_27 hT hF hP hD hS => ?_)
        have t_28 := hT
        have hrw_29 : ∀ j, j < 2 → ga (C_26 (69 + (gi (C 0) 15).toNatClampNeg)) j = rwf [x1, x2] j := rows2 (Eq.trans (congrArg (fun z => ga z ((0 : Int32)).toNatClampNeg) (th_un e_27 (by omega))) (Eq.trans (show ga (C_23 (69 + (gi (C 0) 15).toNatClampNeg)) ((0 : Int32)).toNatClampNeg = ga (C_18 (69 + (gi (C 0) 15).toNatClampNeg)) ((0 : Int32)).toNatClampNeg by rw [st_ga e_24]; exact pk_un (by decide)) (show ga (C_18 (69 + (gi (C 0) 15).toNatClampNeg)) ((0 : Int32)).toNatClampNeg = x1 by rw [st_ga e_19]; exact pk_us))) (Eq.trans (congrArg (fun z => ga z ((1 : Int32)).toNatClampNeg) (th_un e_27 (by omega))) (show ga (C_23 (69 + (gi (C 0) 15).toNatClampNeg)) ((1 : Int32)).toNatClampNeg = x2 by rw [st_ga e_24]; exact pk_us))
        have ho_30 : ∀ i, i ≠ (gi (C 0) 15).toNatClampNeg → C_26 (69 + i) = C (69 + i) := (fun i hne => (Eq.trans (th_un e_27 (by omega)) (Eq.trans (th_un e_24 (by omega)) (th_un e_19 (by omega)))))
        rw [hQ]
        exact W.iret (v := gi (C 0) 15) hx hb hr (fun t ht hW => ⟨⟨gi (C 0) 15, C_26, rfl, ⟨hT, hF, ⟨⟨hR.1.fr hF (by decide), hR.2.fr hF (by decide)⟩, (fun A hA => spM_y (t := 3) hT0 hA (by decide) ⟨(oh_rgI (p := 1) (q := 99) (rg_w (lo := 1) (hi := 99) (rg_il (rgL_i (rg_il (rnL_leu u_10.2 (rnL_lel u_10.1 (rgL_c (v := 1) (lo := 1) (hi := 1) (by decide)) (rgL_i (rg_any _))) (rgL_c (v := 99) (lo := 99) (hi := 99) (by decide)))))) (by decide))), (oh_rgI (p := 0) (q := 99) (rg_w (lo := 0) (hi := 99) (rg_il (rgL_i (rg_il (rnL_leu u_14.2 (rnL_lel u_14.1 (rgL_c (v := 0) (lo := 0) (hi := 0) (by decide)) (rgL_i (rg_any _))) (rgL_c (v := 99) (lo := 99) (hi := 99) (by decide)))))) (by decide)))⟩ (oh_room24 (fM_0_15 hT0) (by decide) c_15) rfl (show gi (C_26 0) 15 = ((gi (C 0) 15) + 1) by rw [e_27]; rfl) hrw_29 ho_30 hF (by decide) (by decide) (by decide))⟩⟩, ⟨by rw [ht]; exact hP, hD⟩⟩, hS.F ht⟩) hS.2.2 dX7_part_81
      · refine lv_aload_n hx hb dX7_part_39 rfl (lv_at hl 0 rfl) ?_
        refine lv_bipush (v := (-6)) hx hb dX7_part_40 (by decide) ?_
        refine tm_V (As := [.int (-6)]) (rest := []) ⟨hx, hb, hml, hown, htg⟩ (c_X7_refuse l D E G _ a C n hn hT ((-6) : Int32) (rg_w (rg_c (v := (-6)) (lo := (-6)) (hi := (-6)) (by decide)) (by decide))) (cwV 1 htg (oh_gV q_1071 q_1073 q_29 q_73 q_1074) rfl rfl rfl pdVX7_refuse ⟨Nat.le_of_ble_eq_true rfl, Nat.le_of_ble_eq_true rfl⟩) hK hP hD hG hS hA (va_recv hK hP (ci := 7) (q0 := 0) rfl (oh_wg (Nat.lt_of_lt_of_le (by decide) hn) (sM_0 hT))) rfl hl.1 rfl (Nat.le_of_ble_eq_true rfl) dX7_part_42 ⟨Nat.le_of_ble_eq_true rfl, Nat.le_of_ble_eq_true rfl⟩ (fun r_31 C_32 H locs hq_33 hP hD hS => ?_)
        obtain ⟨hT, f_34, hq_33⟩ := hq_33
        have hF := fr_tr hF f_34 (by decide) (by decide)
        refine W.widen (k := 0) (n := 0) (Nat.le_refl _) (Nat.le_refl _) ?_
        have t_35 := hT
        rw [hQ]
        exact W.iret (v := r_31) hx hb hr (fun t ht hW => ⟨⟨r_31, C_32, rfl, ⟨hT, hF, ⟨⟨hR.1.fr hF (by decide), hR.2.fr hF (by decide)⟩, (fun A hA => pr_b (P := fun z => absM C_32 z) (spRow_f ⟨(oh_rgI (p := 1) (q := 99) (rg_w (lo := 1) (hi := 99) (rg_il (rgL_i (rg_il (rnL_leu u_10.2 (rnL_lel u_10.1 (rgL_c (v := 1) (lo := 1) (hi := 1) (by decide)) (rgL_i (rg_any _))) (rgL_c (v := 99) (lo := 99) (hi := 99) (by decide)))))) (by decide))), (oh_rgI (p := 0) (q := 99) (rg_w (lo := 0) (hi := 99) (rg_il (rgL_i (rg_il (rnL_leu u_14.2 (rnL_lel u_14.1 (rgL_c (v := 0) (lo := 0) (hi := 0) (by decide)) (rgL_i (rg_any _))) (rgL_c (v := 99) (lo := 99) (hi := 99) (by decide)))))) (by decide)))⟩ (by rw [← hA.1 3 (by decide)]; exact oh_full c_15)) hq_33 (absM_fr hA hT0 (show fr [(8, 9)] [] C C_32 from (fr_tr fr_rf f_34 (by decide) (by decide))) (by decide) (by decide) (by decide)))⟩⟩, ⟨by rw [ht]; exact hP, hD⟩⟩, hS.F ht⟩) hS.2.2 dX7_part_45
    · have u_36 := hq_12.2.2 c_13
      refine lv_aload_n hx hb dX7_part_24 rfl (lv_at hl 0 rfl) ?_
      refine lv_bipush (v := (-2)) hx hb dX7_part_25 (by decide) ?_
      refine tm_V (As := [.int (-2)]) (rest := []) ⟨hx, hb, hml, hown, htg⟩ (c_X7_refuse l D E G _ a C n hn hT ((-2) : Int32) (rg_w (rg_c (v := (-2)) (lo := (-2)) (hi := (-2)) (by decide)) (by decide))) (cwV 1 htg (oh_gV q_1071 q_1073 q_29 q_73 q_1074) rfl rfl rfl pdVX7_refuse ⟨Nat.le_of_ble_eq_true rfl, Nat.le_of_ble_eq_true rfl⟩) hK hP hD hG hS hA (va_recv hK hP (ci := 7) (q0 := 0) rfl (oh_wg (Nat.lt_of_lt_of_le (by decide) hn) (sM_0 hT))) rfl hl.1 rfl (Nat.le_of_ble_eq_true rfl) dX7_part_27 ⟨Nat.le_of_ble_eq_true rfl, Nat.le_of_ble_eq_true rfl⟩ (fun r_37 C_38 H locs hq_39 hP hD hS => ?_)
      obtain ⟨hT, f_40, hq_39⟩ := hq_39
      have hF := fr_tr hF f_40 (by decide) (by decide)
      refine W.widen (k := 0) (n := 0) (Nat.le_refl _) (Nat.le_refl _) ?_
      have t_41 := hT
      rw [hQ]
      exact W.iret (v := r_37) hx hb hr (fun t ht hW => ⟨⟨r_37, C_38, rfl, ⟨hT, hF, ⟨⟨hR.1.fr hF (by decide), hR.2.fr hF (by decide)⟩, (fun A hA => pr_b (P := fun z => absM C_38 z) (spRow_b (fun h8 => (oh_in64 (l' := 0) (k' := 99) rfl rfl u_36) h8.2)) hq_39 (absM_fr hA hT0 (show fr [(8, 9)] [] C C_38 from (fr_tr fr_rf f_40 (by decide) (by decide))) (by decide) (by decide) (by decide)))⟩⟩, ⟨by rw [ht]; exact hP, hD⟩⟩, hS.F ht⟩) hS.2.2 dX7_part_30

set_option maxHeartbeats 4000000 in
set_option maxRecDepth 100000 in
theorem e_X7_prop (l : Launch) (D : va_G) (E : Nat → ClassId) (G : Nat → Nat) (sz : Nat) (a : Nat → Nat) (C : Nat → va_E) (n : Nat) (hn : 74 ≤ n) (hT : TyM a E C) (x1 : Int32) (x2 : Int32) (x3 : Int32) (hR : RelM C) : Met l yX7_prop (oh_w yX7_prop cX7_prop 4 (some .int)) ({ frames := 2, cells := 0, slots := 0, locals := 46 }) (oh_Pm D E G [.ref (a 0), .int x1, .int x2, .int x3] (oh_W n a C) sz) (va_Qi (fun r (u : Nat → va_E) => TyM a E u ∧ fr [(8, 9), (48, 64)] [] C u ∧ (RelM u) ∧ (∀ A : LA, absM C A → r = (spProp A x1 x2 x3).1 ∧ absM u (spProp A x1 x2 x3).2)) (oh_B D (va_A (oh_W n a C) sz) (fun u => oh_W n a u)) (va_A (oh_W n a C) sz)) 0 0 (va_A (oh_W n a C) sz) := by
  refine Met.ofW (cc := cX7_prop) (maxL := 4) (ret := (some .int)) (by decide) rfl ?_
  intro p e s m args below meth c s₁ B hml hv
  obtain ⟨rfl, hsz, hP, hK, hD0, hG⟩ := hv
  have hx := B.exec
  have hb := B.bytes
  have hr := B.returns
  have hts := atoms_spec (ws := (oh_w yX7_prop cX7_prop 4 (some .int))) B.pre
  have htg : ∀ w ∈ oh_t, w.before _ s = true := fun w h => hts w (List.mem_cons_of_mem _ h)
  have hown : s.vm.findClass RX7 = some m.cls := findClass_of_methodNamed B.named
  have hlocks := B.notSynchronized
  have hT0 := hT
  subst hsz
  have hD := hD0.self (sz := s.heap.size)
  generalize hAe : va_A (oh_W n a C) s.heap.size = A at hD hG ⊢
  have hA : ∀ q : Nat, s.heap.size ≤ q → A q := fun q h => by rw [← hAe]; exact Or.inr h
  have hS : va_S A s.heap s.heap [] := va_S.rf
  have hF : fr [(8, 9), (48, 64)] [] C C := fr_rf
  have hl := lv_entry ([.ref (a 0), .int x1, .int x2, .int x3]) (n := 4) (Nat.le_of_ble_eq_true rfl)
  rw [lg_entry_eq]
  generalize (lg_sl ([.ref (a 0), .int x1, .int x2, .int x3]) ++ List.replicate (4 - (lg_sl ([.ref (a 0), .int x1, .int x2, .int x3])).length) Slot.unset).toArray = ls at hl ⊢
  have hl : lv_has ls 4 [(0, .ref (a 0)), (1, .int x1), (2, .int x2), (3, .int x3)] := hl
  refine oh_genQ (fun Q hQ => ?_)
  refine lv_aload_n hx hb dX7_prop_0 rfl (lv_at hl 0 rfl) ?_
  refine lv_iload_n hx hb dX7_prop_1 rfl (lv_at hl 1 rfl) ?_
  refine tq_V (As := [.int x1]) (rest := []) (ws := (oh_W n a C)) ⟨hx, hb, hml, hown, htg⟩ (e_X7_isBridge l D E G a C n hn hT x1) (cwV 1 htg (oh_gV q_1098 q_1100 q_30 q_73 q_1101) rfl rfl rfl pdVX7_isBridge ⟨Nat.le_of_ble_eq_true rfl, Nat.le_of_ble_eq_true rfl⟩) hK hP hG hS (va_recv hK hP (ci := 7) (q0 := 0) rfl (oh_wg (Nat.lt_of_lt_of_le (by decide) hn) (sM_0 hT))) rfl hl.1 rfl (Nat.le_of_ble_eq_true rfl) dX7_prop_2 ⟨Nat.le_of_ble_eq_true rfl, Nat.le_of_ble_eq_true rfl⟩ (fun r_1 hq_2 => ?_)
  refine lv_if_eq (tgt := 32) hx hb dX7_prop_5 (by decide) (fun (c_3 : r_1 = 0) => ?_) (fun (c_3 : ¬ (r_1 = 0)) => ?_)
  · have u_4 := hq_2.2.2 c_3
    refine lv_aload_n hx hb dX7_prop_32 rfl (lv_at hl 0 rfl) ?_
    refine lv_bipush (v := (-2)) hx hb dX7_prop_33 (by decide) ?_
    refine tm_V (As := [.int (-2)]) (rest := []) ⟨hx, hb, hml, hown, htg⟩ (c_X7_refuse l D E G _ a C n hn hT ((-2) : Int32) (rg_w (rg_c (v := (-2)) (lo := (-2)) (hi := (-2)) (by decide)) (by decide))) (cwV 1 htg (oh_gV q_1071 q_1073 q_29 q_73 q_1074) rfl rfl rfl pdVX7_refuse ⟨Nat.le_of_ble_eq_true rfl, Nat.le_of_ble_eq_true rfl⟩) hK hP hD hG hS hA (va_recv hK hP (ci := 7) (q0 := 0) rfl (oh_wg (Nat.lt_of_lt_of_le (by decide) hn) (sM_0 hT))) rfl hl.1 rfl (Nat.le_of_ble_eq_true rfl) dX7_prop_35 ⟨Nat.le_of_ble_eq_true rfl, Nat.le_of_ble_eq_true rfl⟩ (fun r_5 C_6 H locs hq_7 hP hD hS => ?_)
    obtain ⟨hT, f_8, hq_7⟩ := hq_7
    have hF := fr_tr hF f_8 (by decide) (by decide)
    refine W.widen (k := 0) (n := 0) (Nat.le_refl _) (Nat.le_refl _) ?_
    have t_9 := hT
    rw [hQ]
    exact W.iret (v := r_5) hx hb hr (fun t ht hW => ⟨⟨r_5, C_6, rfl, ⟨hT, hF, ⟨⟨hR.1.fr hF (by decide), hR.2.fr hF (by decide)⟩, (fun A hA => pr_b (P := fun z => absM C_6 z) (pif_neg (by rw [← (show gi (C 0) 11 = A 5 0 1 from hA.1 1 (by decide))]; exact (fun h8 => u_4 h8.1))) hq_7 (absM_fr hA hT0 (show fr [(8, 9)] [] C C_6 from (fr_tr fr_rf f_8 (by decide) (by decide))) (by decide) (by decide) (by decide)))⟩⟩, ⟨by rw [ht]; exact hP, hD⟩⟩, hS.F ht⟩) hS.2.2 dX7_prop_38
  · have u_10 := hq_2.2.1 c_3
    refine lv_iload_n hx hb dX7_prop_8 rfl (lv_at hl 2 rfl) ?_
    refine lv_i2l (v := Int32.toInt64 x2) hx hb dX7_prop_9 (by rfl) ?_
    refine lv_lconst (v := 0) hx hb dX7_prop_10 (by decide) ?_
    refine lv_ldc2 (v := 999) hx hb hown (htg _ q_1149) dX7_prop_11 ?_
    refine tq_S (As := [.long (Int32.toInt64 x2), .long 0, .long 999]) (rest := []) (ws := []) ⟨hx, hb, hml, hown, htg⟩ (c_X7_in l D E G (Int32.toInt64 x2) (0 : Int64) (999 : Int64)) (va_cwS 3 htg (oh_gS q_1066 q_1067 q_73 q_1068) rfl rfl rfl pdX7_in ⟨Nat.le_of_ble_eq_true rfl, Nat.le_of_ble_eq_true rfl⟩) hK va_nil hG hS rfl hl.1 rfl (Nat.le_of_ble_eq_true rfl) dX7_prop_14 ⟨Nat.le_of_ble_eq_true rfl, Nat.le_of_ble_eq_true rfl⟩ (fun r_11 hq_12 => ?_)
    refine lv_if_eq (tgt := 32) hx hb dX7_prop_17 (by decide) (fun (c_13 : r_11 = 0) => ?_) (fun (c_13 : ¬ (r_11 = 0)) => ?_)
    · have u_14 := hq_12.2.2 c_13
      refine lv_aload_n hx hb dX7_prop_32 rfl (lv_at hl 0 rfl) ?_
      refine lv_bipush (v := (-2)) hx hb dX7_prop_33 (by decide) ?_
      refine tm_V (As := [.int (-2)]) (rest := []) ⟨hx, hb, hml, hown, htg⟩ (c_X7_refuse l D E G _ a C n hn hT ((-2) : Int32) (rg_w (rg_c (v := (-2)) (lo := (-2)) (hi := (-2)) (by decide)) (by decide))) (cwV 1 htg (oh_gV q_1071 q_1073 q_29 q_73 q_1074) rfl rfl rfl pdVX7_refuse ⟨Nat.le_of_ble_eq_true rfl, Nat.le_of_ble_eq_true rfl⟩) hK hP hD hG hS hA (va_recv hK hP (ci := 7) (q0 := 0) rfl (oh_wg (Nat.lt_of_lt_of_le (by decide) hn) (sM_0 hT))) rfl hl.1 rfl (Nat.le_of_ble_eq_true rfl) dX7_prop_35 ⟨Nat.le_of_ble_eq_true rfl, Nat.le_of_ble_eq_true rfl⟩ (fun r_15 C_16 H locs hq_17 hP hD hS => ?_)
      obtain ⟨hT, f_18, hq_17⟩ := hq_17
      have hF := fr_tr hF f_18 (by decide) (by decide)
      refine W.widen (k := 0) (n := 0) (Nat.le_refl _) (Nat.le_refl _) ?_
      have t_19 := hT
      rw [hQ]
      exact W.iret (v := r_15) hx hb hr (fun t ht hW => ⟨⟨r_15, C_16, rfl, ⟨hT, hF, ⟨⟨hR.1.fr hF (by decide), hR.2.fr hF (by decide)⟩, (fun A hA => pr_b (P := fun z => absM C_16 z) (pif_neg (by rw [← (show gi (C 0) 11 = A 5 0 1 from hA.1 1 (by decide))]; exact (fun h8 => (oh_in64 (l' := 0) (k' := 999) rfl rfl u_14) h8.2.1))) hq_17 (absM_fr hA hT0 (show fr [(8, 9)] [] C C_16 from (fr_tr fr_rf f_18 (by decide) (by decide))) (by decide) (by decide) (by decide)))⟩⟩, ⟨by rw [ht]; exact hP, hD⟩⟩, hS.F ht⟩) hS.2.2 dX7_prop_38
    · have u_20 := hq_12.2.1 c_13
      refine lv_iload_n hx hb dX7_prop_20 rfl (lv_at hl 3 rfl) ?_
      refine lv_i2l (v := Int32.toInt64 x3) hx hb dX7_prop_21 (by rfl) ?_
      refine lv_lconst (v := 0) hx hb dX7_prop_22 (by decide) ?_
      refine lv_ldc2 (v := 999) hx hb hown (htg _ q_1149) dX7_prop_23 ?_
      refine tq_S (As := [.long (Int32.toInt64 x3), .long 0, .long 999]) (rest := []) (ws := []) ⟨hx, hb, hml, hown, htg⟩ (c_X7_in l D E G (Int32.toInt64 x3) (0 : Int64) (999 : Int64)) (va_cwS 3 htg (oh_gS q_1066 q_1067 q_73 q_1068) rfl rfl rfl pdX7_in ⟨Nat.le_of_ble_eq_true rfl, Nat.le_of_ble_eq_true rfl⟩) hK va_nil hG hS rfl hl.1 rfl (Nat.le_of_ble_eq_true rfl) dX7_prop_26 ⟨Nat.le_of_ble_eq_true rfl, Nat.le_of_ble_eq_true rfl⟩ (fun r_21 hq_22 => ?_)
      refine lv_if_ne (tgt := 39) hx hb dX7_prop_29 (by decide) (fun (c_23 : ¬ (r_21 = 0)) => ?_) (fun (c_23 : r_21 = 0) => ?_)
      · have u_24 := hq_22.2.1 c_23
        refine lv_aload_n hx hb dX7_prop_39 rfl (lv_at hl 0 rfl) ?_
        refine va_get (D := D) (ci := 7) (v := .ref (a 10)) (C := RX7) (T := TX7) (N := 29) hx hb htg ig_7 hown hK hP 0 (oh_wg (Nat.lt_of_lt_of_le (by decide) hn) (sM_0 hT)) rfl 12 (by decide) (htg _ q_985) (fun _ h9 => h9) rfl dX7_prop_40 ?_
        refine lv_iload_n hx hb dX7_prop_43 rfl (lv_at hl 1 rfl) ?_
        have n_25 : vp_in x1 16 := (rg_in u_10.1 (by decide))
        have b_26 : (x1).toNatClampNeg < 16 := vp_lt n_25
        refine th_aald hx hb hK hP 10 2 (Nat.lt_of_lt_of_le (by decide) hn) (sM_10 hT) rfl n_25 dX7_prop_44 ?_
        refine lv_iconst (v := 5) hx hb dX7_prop_45 (by decide) ?_
        refine lv_iload_n hx hb dX7_prop_46 rfl (lv_at hl 2 rfl) ?_
        refine th_iast (T := TyM a E) (Rl := fr [(8, 9), (48, 64)] [] C) hx hb hK hP hD hS (48 + (x1).toNatClampNeg) (lt_blk b_26 hn (by decide)) (hT.bbridge b_26).1 (rg_in (rg_c (v := 5) (lo := 5) (hi := 5) (by decide)) (by decide)) (hT.upbridge b_26 (tA_upd (hT.bbridge b_26) tA_any)) (fr_st hF (by omega) (inR_of (p := (48, 64)) (by decide) (by show 48 ≤ _; omega) (by show _ < 64; omega))) dX7_prop_47 (fun C_27 H locs e_28 hT hF hP hD hS => ?_)
        have t_29 := hT
        refine lv_aload_n hx hb dX7_prop_48 rfl (lv_at hl 0 rfl) ?_
        refine va_get (D := D) (ci := 7) (v := .ref (a 10)) (C := RX7) (T := TX7) (N := 29) hx hb htg ig_7 hown hK hP 0 (oh_wg (Nat.lt_of_lt_of_le (by decide) hn) (sM_0 hT)) rfl 12 (by decide) (htg _ q_985) (fun _ h9 => h9) rfl dX7_prop_49 ?_
        refine lv_iload_n hx hb dX7_prop_52 rfl (lv_at hl 1 rfl) ?_
        have n_30 : vp_in x1 16 := (rg_in u_10.1 (by decide))
        have b_31 : (x1).toNatClampNeg < 16 := vp_lt n_30
        refine th_aald hx hb hK hP 10 2 (Nat.lt_of_lt_of_le (by decide) hn) (sM_10 hT) rfl n_30 dX7_prop_53 ?_
        refine lv_bipush (v := 6) hx hb dX7_prop_54 (by decide) ?_
        refine lv_iload_n hx hb dX7_prop_56 rfl (lv_at hl 3 rfl) ?_
        refine th_iast (T := TyM a E) (Rl := fr [(8, 9), (48, 64)] [] C) hx hb hK hP hD hS (48 + (x1).toNatClampNeg) (lt_blk b_31 hn (by decide)) (hT.bbridge b_31).1 (rg_in (rg_c (v := 6) (lo := 6) (hi := 6) (by decide)) (by decide)) (hT.upbridge b_31 (tA_upd (hT.bbridge b_31) tA_any)) (fr_st hF (by omega) (inR_of (p := (48, 64)) (by decide) (by show 48 ≤ _; omega) (by show _ < 64; omega))) dX7_prop_57 (fun C_32 H locs e_33 hT hF hP hD hS => ?_)
        have t_34 := hT
        refine lv_iconst (v := 1) hx hb dX7_prop_58 (by decide) ?_
        rw [hQ]
        exact W.iret (v := 1) hx hb hr (fun t ht hW => ⟨⟨1, C_32, rfl, ⟨hT, hF, ⟨⟨hR.1.fr hF (by decide), hR.2.fr hF (by decide)⟩, (fun A hA => pr_b (P := fun z => absM C_32 z) (pif_pos (by rw [← (show gi (C 0) 11 = A 5 0 1 from hA.1 1 (by decide))]; exact ⟨u_10.2, (oh_rgI (p := 0) (q := 999) (rg_w (lo := 0) (hi := 999) (rg_il (rgL_i (rg_il (rnL_leu u_20.2 (rnL_lel u_20.1 (rgL_c (v := 0) (lo := 0) (hi := 0) (by decide)) (rgL_i (rg_any _))) (rgL_c (v := 999) (lo := 999) (hi := 999) (by decide)))))) (by decide))), (oh_rgI (p := 0) (q := 999) (rg_w (lo := 0) (hi := 999) (rg_il (rgL_i (rg_il (rnL_leu u_24.2 (rnL_lel u_24.1 (rgL_c (v := 0) (lo := 0) (hi := 0) (by decide)) (rgL_i (rg_any _))) (rgL_c (v := 999) (lo := 999) (hi := 999) (by decide)))))) (by decide)))⟩)) rfl (absM_st (t := 1) t_29 (absM_st (t := 1) hT0 hA (by decide) (show x1.toNatClampNeg < 16 from vp_lt (rg_in u_10.1 (by decide))) e_28) (by decide) (show x1.toNatClampNeg < 16 from vp_lt (rg_in u_10.1 (by decide))) e_33))⟩⟩, ⟨by rw [ht]; exact hP, hD⟩⟩, hS.F ht⟩) hS.2.2 dX7_prop_59
      · have u_35 := hq_22.2.2 c_23
        refine lv_aload_n hx hb dX7_prop_32 rfl (lv_at hl 0 rfl) ?_
        refine lv_bipush (v := (-2)) hx hb dX7_prop_33 (by decide) ?_
        refine tm_V (As := [.int (-2)]) (rest := []) ⟨hx, hb, hml, hown, htg⟩ (c_X7_refuse l D E G _ a C n hn hT ((-2) : Int32) (rg_w (rg_c (v := (-2)) (lo := (-2)) (hi := (-2)) (by decide)) (by decide))) (cwV 1 htg (oh_gV q_1071 q_1073 q_29 q_73 q_1074) rfl rfl rfl pdVX7_refuse ⟨Nat.le_of_ble_eq_true rfl, Nat.le_of_ble_eq_true rfl⟩) hK hP hD hG hS hA (va_recv hK hP (ci := 7) (q0 := 0) rfl (oh_wg (Nat.lt_of_lt_of_le (by decide) hn) (sM_0 hT))) rfl hl.1 rfl (Nat.le_of_ble_eq_true rfl) dX7_prop_35 ⟨Nat.le_of_ble_eq_true rfl, Nat.le_of_ble_eq_true rfl⟩ (fun r_36 C_37 H locs hq_38 hP hD hS => ?_)
        obtain ⟨hT, f_39, hq_38⟩ := hq_38
        have hF := fr_tr hF f_39 (by decide) (by decide)
        refine W.widen (k := 0) (n := 0) (Nat.le_refl _) (Nat.le_refl _) ?_
        have t_40 := hT
        rw [hQ]
        exact W.iret (v := r_36) hx hb hr (fun t ht hW => ⟨⟨r_36, C_37, rfl, ⟨hT, hF, ⟨⟨hR.1.fr hF (by decide), hR.2.fr hF (by decide)⟩, (fun A hA => pr_b (P := fun z => absM C_37 z) (pif_neg (by rw [← (show gi (C 0) 11 = A 5 0 1 from hA.1 1 (by decide))]; exact (fun h8 => (oh_in64 (l' := 0) (k' := 999) rfl rfl u_35) h8.2.2))) hq_38 (absM_fr hA hT0 (show fr [(8, 9)] [] C C_37 from (fr_tr fr_rf f_39 (by decide) (by decide))) (by decide) (by decide) (by decide)))⟩⟩, ⟨by rw [ht]; exact hP, hD⟩⟩, hS.F ht⟩) hS.2.2 dX7_prop_38

theorem oh_is2 {x : Int32} (h : rg x 0 2) (c0 : ¬ x = 0) (c1 : ¬ x = 1) : x = 2 := by
  have e0 : x.toInt ≠ 0 := fun e => c0 (Int32.toInt_inj.mp e)
  have e1 : x.toInt ≠ 1 := fun e => c1 (Int32.toInt_inj.mp e)
  refine Int32.toInt_inj.mp ?_
  have c2 : (2 : Int32).toInt = 2 := rfl
  have := h.1
  have := h.2
  omega

set_option maxHeartbeats 4000000 in
set_option maxRecDepth 100000 in
theorem e_X7_ask (l : Launch) (D : va_G) (E : Nat → ClassId) (G : Nat → Nat) (sz : Nat) (a : Nat → Nat) (C : Nat → va_E) (n : Nat) (hn : 74 ≤ n) (hT : TyM a E C) (x1 : Int32) (x2 : Int32) (hR : RelM C) : Met l yX7_ask (oh_w yX7_ask cX7_ask 4 (some .int)) ({ frames := 1, cells := 0, slots := 0, locals := 25 }) (oh_Pm D E G [.ref (a 0), .int x1, .int x2] (oh_W n a C) sz) (va_Qi (fun r (u : Nat → va_E) => TyM a E u ∧ fr [(8, 9), (13, 14)] [] C u ∧ (RelM u) ∧ (∀ A : LA, absM C A → r = (spAsk A x1 x2).1 ∧ absM u (spAsk A x1 x2).2)) (oh_B D (va_A (oh_W n a C) sz) (fun u => oh_W n a u)) (va_A (oh_W n a C) sz)) 0 0 (va_A (oh_W n a C) sz) := by
  refine Met.ofW (cc := cX7_ask) (maxL := 4) (ret := (some .int)) (by decide) rfl ?_
  intro p e s m args below meth c s₁ B hml hv
  obtain ⟨rfl, hsz, hP, hK, hD0, hG⟩ := hv
  have hx := B.exec
  have hb := B.bytes
  have hr := B.returns
  have hts := atoms_spec (ws := (oh_w yX7_ask cX7_ask 4 (some .int))) B.pre
  have htg : ∀ w ∈ oh_t, w.before _ s = true := fun w h => hts w (List.mem_cons_of_mem _ h)
  have hown : s.vm.findClass RX7 = some m.cls := findClass_of_methodNamed B.named
  have hlocks := B.notSynchronized
  have hT0 := hT
  subst hsz
  have hD := hD0.self (sz := s.heap.size)
  generalize hAe : va_A (oh_W n a C) s.heap.size = A at hD hG ⊢
  have hA : ∀ q : Nat, s.heap.size ≤ q → A q := fun q h => by rw [← hAe]; exact Or.inr h
  have hS : va_S A s.heap s.heap [] := va_S.rf
  have hF : fr [(8, 9), (13, 14)] [] C C := fr_rf
  have hl := lv_entry ([.ref (a 0), .int x1, .int x2]) (n := 4) (Nat.le_of_ble_eq_true rfl)
  rw [lg_entry_eq]
  generalize (lg_sl ([.ref (a 0), .int x1, .int x2]) ++ List.replicate (4 - (lg_sl ([.ref (a 0), .int x1, .int x2])).length) Slot.unset).toArray = ls at hl ⊢
  have hl : lv_has ls 4 [(0, .ref (a 0)), (1, .int x1), (2, .int x2)] := hl
  refine oh_genQ (fun Q hQ => ?_)
  refine lv_iload_n hx hb dX7_ask_0 rfl (lv_at hl 1 rfl) ?_
  refine lv_i2l (v := Int32.toInt64 x1) hx hb dX7_ask_1 (by rfl) ?_
  refine lv_lconst (v := 0) hx hb dX7_ask_2 (by decide) ?_
  refine lv_ldc2 (v := 2) hx hb hown (htg _ q_1162) dX7_ask_3 ?_
  refine tq_S (As := [.long (Int32.toInt64 x1), .long 0, .long 2]) (rest := []) (ws := []) ⟨hx, hb, hml, hown, htg⟩ (c_X7_in l D E G (Int32.toInt64 x1) (0 : Int64) (2 : Int64)) (va_cwS 3 htg (oh_gS q_1066 q_1067 q_73 q_1068) rfl rfl rfl pdX7_in ⟨Nat.le_of_ble_eq_true rfl, Nat.le_of_ble_eq_true rfl⟩) hK va_nil hG hS rfl hl.1 rfl (Nat.le_of_ble_eq_true rfl) dX7_ask_6 ⟨Nat.le_of_ble_eq_true rfl, Nat.le_of_ble_eq_true rfl⟩ (fun r_1 hq_2 => ?_)
  refine lv_if_eq (tgt := 43) hx hb dX7_ask_9 (by decide) (fun (c_3 : r_1 = 0) => ?_) (fun (c_3 : ¬ (r_1 = 0)) => ?_)
  · have u_4 := hq_2.2.2 c_3
    refine lv_aload_n hx hb dX7_ask_43 rfl (lv_at hl 0 rfl) ?_
    refine lv_bipush (v := (-2)) hx hb dX7_ask_44 (by decide) ?_
    refine tm_V (As := [.int (-2)]) (rest := []) ⟨hx, hb, hml, hown, htg⟩ (c_X7_refuse l D E G _ a C n hn hT ((-2) : Int32) (rg_w (rg_c (v := (-2)) (lo := (-2)) (hi := (-2)) (by decide)) (by decide))) (cwV 1 htg (oh_gV q_1071 q_1073 q_29 q_73 q_1074) rfl rfl rfl pdVX7_refuse ⟨Nat.le_of_ble_eq_true rfl, Nat.le_of_ble_eq_true rfl⟩) hK hP hD hG hS hA (va_recv hK hP (ci := 7) (q0 := 0) rfl (oh_wg (Nat.lt_of_lt_of_le (by decide) hn) (sM_0 hT))) rfl hl.1 rfl (Nat.le_of_ble_eq_true rfl) dX7_ask_46 ⟨Nat.le_of_ble_eq_true rfl, Nat.le_of_ble_eq_true rfl⟩ (fun r_5 C_6 H locs hq_7 hP hD hS => ?_)
    obtain ⟨hT, f_8, hq_7⟩ := hq_7
    have hF := fr_tr hF f_8 (by decide) (by decide)
    refine W.widen (k := 0) (n := 0) (Nat.le_refl _) (Nat.le_refl _) ?_
    have t_9 := hT
    rw [hQ]
    exact W.iret (v := r_5) hx hb hr (fun t ht hW => ⟨⟨r_5, C_6, rfl, ⟨hT, hF, ⟨⟨hR.1.fr hF (by decide), hR.2.fr hF (by decide)⟩, (fun A hA => pr_b (P := fun z => absM C_6 z) (pif_neg (fun h8 => (oh_in64 (l' := 0) (k' := 2) rfl rfl u_4) h8.1)) hq_7 (absM_fr hA hT0 (show fr [(8, 9)] [] C C_6 from (fr_tr fr_rf f_8 (by decide) (by decide))) (by decide) (by decide) (by decide)))⟩⟩, ⟨by rw [ht]; exact hP, hD⟩⟩, hS.F ht⟩) hS.2.2 dX7_ask_49
  · have u_10 := hq_2.2.1 c_3
    refine lv_iload_n hx hb dX7_ask_12 rfl (lv_at hl 2 rfl) ?_
    refine lv_i2l (v := Int32.toInt64 x2) hx hb dX7_ask_13 (by rfl) ?_
    refine lv_lconst (v := 0) hx hb dX7_ask_14 (by decide) ?_
    refine lv_iload_n hx hb dX7_ask_15 rfl (lv_at hl 1 rfl) ?_
    refine lv_if_ne (tgt := 25) hx hb dX7_ask_16 (by decide) (fun (c_11 : ¬ (x1 = 0)) => ?_) (fun (c_11 : x1 = 0) => ?_)
    · refine lv_iload_n hx hb dX7_ask_25 rfl (lv_at hl 1 rfl) ?_
      refine lv_iconst (v := 1) hx hb dX7_ask_26 (by decide) ?_
      refine lv_icmp_ne (tgt := 36) hx hb dX7_ask_27 (by decide) (fun (c_12 : ¬ (x1 = 1)) => ?_) (fun (c_12 : x1 = 1) => ?_)
      · refine lv_lconst (v := 1) hx hb dX7_ask_36 (by decide) ?_
        refine tq_S (As := [.long (Int32.toInt64 x2), .long 0, .long 1]) (rest := []) (ws := []) ⟨hx, hb, hml, hown, htg⟩ (c_X7_in l D E G (Int32.toInt64 x2) (0 : Int64) (1 : Int64)) (va_cwS 3 htg (oh_gS q_1066 q_1067 q_73 q_1068) rfl rfl rfl pdX7_in ⟨Nat.le_of_ble_eq_true rfl, Nat.le_of_ble_eq_true rfl⟩) hK va_nil hG hS rfl hl.1 rfl (Nat.le_of_ble_eq_true rfl) dX7_ask_37 ⟨Nat.le_of_ble_eq_true rfl, Nat.le_of_ble_eq_true rfl⟩ (fun r_13 hq_14 => ?_)
        refine lv_if_ne (tgt := 50) hx hb dX7_ask_40 (by decide) (fun (c_15 : ¬ (r_13 = 0)) => ?_) (fun (c_15 : r_13 = 0) => ?_)
        · have u_16 := hq_14.2.1 c_15
          refine lv_aload_n hx hb dX7_ask_50 rfl (lv_at hl 0 rfl) ?_
          refine va_get (D := D) (ci := 7) (v := .ref (a 13)) (C := RX7) (T := TX7) (N := 29) hx hb htg ig_7 hown hK hP 0 (oh_wg (Nat.lt_of_lt_of_le (by decide) hn) (sM_0 hT)) rfl 17 (by decide) (htg _ q_990) (fun _ h9 => h9) rfl dX7_ask_51 ?_
          refine lv_iload_n hx hb dX7_ask_54 rfl (lv_at hl 1 rfl) ?_
          have n_17 : vp_in x1 3 := (rg_in (rg_il (rgL_i (rg_il (rnL_leu u_10.2 (rnL_lel u_10.1 (rgL_c (v := 0) (lo := 0) (hi := 0) (by decide)) (rgL_i (rg_any _))) (rgL_c (v := 2) (lo := 2) (hi := 2) (by decide)))))) (by decide))
          refine th_iald hx hb hK hP 13 (Nat.lt_of_lt_of_le (by decide) hn) (sM_13 hT) n_17 dX7_ask_55 ?_
          refine lv_istore_n (lv' := [(3, .int (ga (C 13) (x1).toNatClampNeg)), (0, .ref (a 0)), (1, .int x1), (2, .int x2)]) hx hb dX7_ask_56 rfl hl (by decide) rfl (fun ls hl => ?_)
          refine lv_aload_n hx hb dX7_ask_57 rfl (lv_at hl 1 rfl) ?_
          refine va_get (D := D) (ci := 7) (v := .ref (a 13)) (C := RX7) (T := TX7) (N := 29) hx hb htg ig_7 hown hK hP 0 (oh_wg (Nat.lt_of_lt_of_le (by decide) hn) (sM_0 hT)) rfl 17 (by decide) (htg _ q_990) (fun _ h9 => h9) rfl dX7_ask_58 ?_
          refine lv_iload_n hx hb dX7_ask_61 rfl (lv_at hl 2 rfl) ?_
          refine lv_iload_n hx hb dX7_ask_62 rfl (lv_at hl 3 rfl) ?_
          have n_18 : vp_in x1 3 := (rg_in (rg_il (rgL_i (rg_il (rnL_leu u_10.2 (rnL_lel u_10.1 (rgL_c (v := 0) (lo := 0) (hi := 0) (by decide)) (rgL_i (rg_any _))) (rgL_c (v := 2) (lo := 2) (hi := 2) (by decide)))))) (by decide))
          refine th_iast (T := TyM a E) (Rl := fr [(8, 9), (13, 14)] [] C) hx hb hK hP hD hS 13 (Nat.lt_of_lt_of_le (by decide) hn) (sM_13 hT) n_18 (hT.up 13 (by decide) (tA_upd (tM_13 hT) tA_any)) (fr_st hF (by decide) (by decide)) dX7_ask_63 (fun C_19 H locs e_20 hT hF hP hD hS => ?_)
          have t_21 := hT
          refine lv_iload_n hx hb dX7_ask_64 rfl (lv_at hl 0 rfl) ?_
          rw [hQ]
          exact W.iret (v := ga (C 13) (x1).toNatClampNeg) hx hb hr (fun t ht hW => ⟨⟨ga (C 13) (x1).toNatClampNeg, C_19, rfl, ⟨hT, hF, ⟨⟨hR.1.fr hF (by decide), hR.2.fr hF (by decide)⟩, (fun A hA => pr_b (P := fun z => absM C_19 z) (pif_pos ⟨(oh_rgI (p := 0) (q := 2) (rg_w (lo := 0) (hi := 2) (rg_il (rgL_i (rg_il (rnL_leu u_10.2 (rnL_lel u_10.1 (rgL_c (v := 0) (lo := 0) (hi := 0) (by decide)) (rgL_i (rg_any _))) (rgL_c (v := 2) (lo := 2) (hi := 2) (by decide)))))) (by decide))), (by rw [show oh_maxs x1.toNatClampNeg = 1 by rw [show x1 = 2 from oh_is2 (rg_w (lo := 0) (hi := 2) (rg_il (rgL_i (rg_il (rnL_leu u_10.2 (rnL_lel u_10.1 (rgL_c (v := 0) (lo := 0) (hi := 0) (by decide)) (rgL_i (rg_any _))) (rgL_c (v := 2) (lo := 2) (hi := 2) (by decide)))))) (by decide)) c_11 c_12]; rfl]; exact (oh_rgI (p := 0) (q := 1) (rg_w (lo := 0) (hi := 1) (rg_il (rgL_i (rg_il (rnL_leu u_16.2 (rnL_lel u_16.1 (rgL_c (v := 0) (lo := 0) (hi := 0) (by decide)) (rgL_i (rg_any _))) (rgL_c (v := 1) (lo := 1) (hi := 1) (by decide)))))) (by decide))))⟩) (hA.2.1 x1.toNatClampNeg (vp_lt (rg_in (rg_w (lo := 0) (hi := 2) (rg_il (rgL_i (rg_il (rnL_leu u_10.2 (rnL_lel u_10.1 (rgL_c (v := 0) (lo := 0) (hi := 0) (by decide)) (rgL_i (rg_any _))) (rgL_c (v := 2) (lo := 2) (hi := 2) (by decide)))))) (by decide)) (by decide)))) (absM_set hA (fun s hs => congrArg (fun z => gi z (9 + 2 * s)) (th_un e_20 (by decide))) (fun j hj => by rw [st_ga e_20]; rfl) (fun s hs i hi => th_un e_20 (by have := blk_lo hs; omega))))⟩⟩, ⟨by rw [ht]; exact hP, hD⟩⟩, hS.F ht⟩) hS.2.2 dX7_ask_65
        · have u_22 := hq_14.2.2 c_15
          refine lv_aload_n hx hb dX7_ask_43 rfl (lv_at hl 0 rfl) ?_
          refine lv_bipush (v := (-2)) hx hb dX7_ask_44 (by decide) ?_
          refine tm_V (As := [.int (-2)]) (rest := []) ⟨hx, hb, hml, hown, htg⟩ (c_X7_refuse l D E G _ a C n hn hT ((-2) : Int32) (rg_w (rg_c (v := (-2)) (lo := (-2)) (hi := (-2)) (by decide)) (by decide))) (cwV 1 htg (oh_gV q_1071 q_1073 q_29 q_73 q_1074) rfl rfl rfl pdVX7_refuse ⟨Nat.le_of_ble_eq_true rfl, Nat.le_of_ble_eq_true rfl⟩) hK hP hD hG hS hA (va_recv hK hP (ci := 7) (q0 := 0) rfl (oh_wg (Nat.lt_of_lt_of_le (by decide) hn) (sM_0 hT))) rfl hl.1 rfl (Nat.le_of_ble_eq_true rfl) dX7_ask_46 ⟨Nat.le_of_ble_eq_true rfl, Nat.le_of_ble_eq_true rfl⟩ (fun r_23 C_24 H locs hq_25 hP hD hS => ?_)
          obtain ⟨hT, f_26, hq_25⟩ := hq_25
          have hF := fr_tr hF f_26 (by decide) (by decide)
          refine W.widen (k := 0) (n := 0) (Nat.le_refl _) (Nat.le_refl _) ?_
          have t_27 := hT
          rw [hQ]
          exact W.iret (v := r_23) hx hb hr (fun t ht hW => ⟨⟨r_23, C_24, rfl, ⟨hT, hF, ⟨⟨hR.1.fr hF (by decide), hR.2.fr hF (by decide)⟩, (fun A hA => pr_b (P := fun z => absM C_24 z) (pif_neg (fun h8 => (oh_in64 (l' := 0) (k' := 1) rfl rfl u_22) (by have h7 := h8.2; rw [show oh_maxs x1.toNatClampNeg = 1 by rw [show x1 = 2 from oh_is2 (rg_w (lo := 0) (hi := 2) (rg_il (rgL_i (rg_il (rnL_leu u_10.2 (rnL_lel u_10.1 (rgL_c (v := 0) (lo := 0) (hi := 0) (by decide)) (rgL_i (rg_any _))) (rgL_c (v := 2) (lo := 2) (hi := 2) (by decide)))))) (by decide)) c_11 c_12]; rfl] at h7; exact h7))) hq_25 (absM_fr hA hT0 (show fr [(8, 9)] [] C C_24 from (fr_tr fr_rf f_26 (by decide) (by decide))) (by decide) (by decide) (by decide)))⟩⟩, ⟨by rw [ht]; exact hP, hD⟩⟩, hS.F ht⟩) hS.2.2 dX7_ask_49
      · refine lv_ldc2 (v := 99) hx hb hown (htg _ q_1136) dX7_ask_30 ?_
        refine lv_goto (tgt := 37) hx hb dX7_ask_33 (by decide) ?_
        refine tq_S (As := [.long (Int32.toInt64 x2), .long 0, .long 99]) (rest := []) (ws := []) ⟨hx, hb, hml, hown, htg⟩ (c_X7_in l D E G (Int32.toInt64 x2) (0 : Int64) (99 : Int64)) (va_cwS 3 htg (oh_gS q_1066 q_1067 q_73 q_1068) rfl rfl rfl pdX7_in ⟨Nat.le_of_ble_eq_true rfl, Nat.le_of_ble_eq_true rfl⟩) hK va_nil hG hS rfl hl.1 rfl (Nat.le_of_ble_eq_true rfl) dX7_ask_37 ⟨Nat.le_of_ble_eq_true rfl, Nat.le_of_ble_eq_true rfl⟩ (fun r_28 hq_29 => ?_)
        refine lv_if_ne (tgt := 50) hx hb dX7_ask_40 (by decide) (fun (c_30 : ¬ (r_28 = 0)) => ?_) (fun (c_30 : r_28 = 0) => ?_)
        · have u_31 := hq_29.2.1 c_30
          refine lv_aload_n hx hb dX7_ask_50 rfl (lv_at hl 0 rfl) ?_
          refine va_get (D := D) (ci := 7) (v := .ref (a 13)) (C := RX7) (T := TX7) (N := 29) hx hb htg ig_7 hown hK hP 0 (oh_wg (Nat.lt_of_lt_of_le (by decide) hn) (sM_0 hT)) rfl 17 (by decide) (htg _ q_990) (fun _ h9 => h9) rfl dX7_ask_51 ?_
          refine lv_iload_n hx hb dX7_ask_54 rfl (lv_at hl 1 rfl) ?_
          have n_32 : vp_in x1 3 := (rg_in (rn_eq c_12 (rg_c (v := 1) (lo := 1) (hi := 1) (by decide))) (by decide))
          refine th_iald hx hb hK hP 13 (Nat.lt_of_lt_of_le (by decide) hn) (sM_13 hT) n_32 dX7_ask_55 ?_
          refine lv_istore_n (lv' := [(3, .int (ga (C 13) (x1).toNatClampNeg)), (0, .ref (a 0)), (1, .int x1), (2, .int x2)]) hx hb dX7_ask_56 rfl hl (by decide) rfl (fun ls hl => ?_)
          refine lv_aload_n hx hb dX7_ask_57 rfl (lv_at hl 1 rfl) ?_
          refine va_get (D := D) (ci := 7) (v := .ref (a 13)) (C := RX7) (T := TX7) (N := 29) hx hb htg ig_7 hown hK hP 0 (oh_wg (Nat.lt_of_lt_of_le (by decide) hn) (sM_0 hT)) rfl 17 (by decide) (htg _ q_990) (fun _ h9 => h9) rfl dX7_ask_58 ?_
          refine lv_iload_n hx hb dX7_ask_61 rfl (lv_at hl 2 rfl) ?_
          refine lv_iload_n hx hb dX7_ask_62 rfl (lv_at hl 3 rfl) ?_
          have n_33 : vp_in x1 3 := (rg_in (rn_eq c_12 (rg_c (v := 1) (lo := 1) (hi := 1) (by decide))) (by decide))
          refine th_iast (T := TyM a E) (Rl := fr [(8, 9), (13, 14)] [] C) hx hb hK hP hD hS 13 (Nat.lt_of_lt_of_le (by decide) hn) (sM_13 hT) n_33 (hT.up 13 (by decide) (tA_upd (tM_13 hT) tA_any)) (fr_st hF (by decide) (by decide)) dX7_ask_63 (fun C_34 H locs e_35 hT hF hP hD hS => ?_)
          have t_36 := hT
          refine lv_iload_n hx hb dX7_ask_64 rfl (lv_at hl 0 rfl) ?_
          rw [hQ]
          exact W.iret (v := ga (C 13) (x1).toNatClampNeg) hx hb hr (fun t ht hW => ⟨⟨ga (C 13) (x1).toNatClampNeg, C_34, rfl, ⟨hT, hF, ⟨⟨hR.1.fr hF (by decide), hR.2.fr hF (by decide)⟩, (fun A hA => pr_b (P := fun z => absM C_34 z) (pif_pos ⟨(oh_rgI (p := 0) (q := 2) (rg_w (lo := 0) (hi := 2) (rn_eq c_12 (rg_c (v := 1) (lo := 1) (hi := 1) (by decide))) (by decide))), (by rw [show oh_maxs x1.toNatClampNeg = 99 by rw [c_12]; rfl]; exact (oh_rgI (p := 0) (q := 99) (rg_w (lo := 0) (hi := 99) (rg_il (rgL_i (rg_il (rnL_leu u_31.2 (rnL_lel u_31.1 (rgL_c (v := 0) (lo := 0) (hi := 0) (by decide)) (rgL_i (rg_any _))) (rgL_c (v := 99) (lo := 99) (hi := 99) (by decide)))))) (by decide))))⟩) (hA.2.1 x1.toNatClampNeg (vp_lt (rg_in (rg_w (lo := 0) (hi := 2) (rn_eq c_12 (rg_c (v := 1) (lo := 1) (hi := 1) (by decide))) (by decide)) (by decide)))) (absM_set hA (fun s hs => congrArg (fun z => gi z (9 + 2 * s)) (th_un e_35 (by decide))) (fun j hj => by rw [st_ga e_35]; rfl) (fun s hs i hi => th_un e_35 (by have := blk_lo hs; omega))))⟩⟩, ⟨by rw [ht]; exact hP, hD⟩⟩, hS.F ht⟩) hS.2.2 dX7_ask_65
        · have u_37 := hq_29.2.2 c_30
          refine lv_aload_n hx hb dX7_ask_43 rfl (lv_at hl 0 rfl) ?_
          refine lv_bipush (v := (-2)) hx hb dX7_ask_44 (by decide) ?_
          refine tm_V (As := [.int (-2)]) (rest := []) ⟨hx, hb, hml, hown, htg⟩ (c_X7_refuse l D E G _ a C n hn hT ((-2) : Int32) (rg_w (rg_c (v := (-2)) (lo := (-2)) (hi := (-2)) (by decide)) (by decide))) (cwV 1 htg (oh_gV q_1071 q_1073 q_29 q_73 q_1074) rfl rfl rfl pdVX7_refuse ⟨Nat.le_of_ble_eq_true rfl, Nat.le_of_ble_eq_true rfl⟩) hK hP hD hG hS hA (va_recv hK hP (ci := 7) (q0 := 0) rfl (oh_wg (Nat.lt_of_lt_of_le (by decide) hn) (sM_0 hT))) rfl hl.1 rfl (Nat.le_of_ble_eq_true rfl) dX7_ask_46 ⟨Nat.le_of_ble_eq_true rfl, Nat.le_of_ble_eq_true rfl⟩ (fun r_38 C_39 H locs hq_40 hP hD hS => ?_)
          obtain ⟨hT, f_41, hq_40⟩ := hq_40
          have hF := fr_tr hF f_41 (by decide) (by decide)
          refine W.widen (k := 0) (n := 0) (Nat.le_refl _) (Nat.le_refl _) ?_
          have t_42 := hT
          rw [hQ]
          exact W.iret (v := r_38) hx hb hr (fun t ht hW => ⟨⟨r_38, C_39, rfl, ⟨hT, hF, ⟨⟨hR.1.fr hF (by decide), hR.2.fr hF (by decide)⟩, (fun A hA => pr_b (P := fun z => absM C_39 z) (pif_neg (fun h8 => (oh_in64 (l' := 0) (k' := 99) rfl rfl u_37) (by have h7 := h8.2; rw [show oh_maxs x1.toNatClampNeg = 99 by rw [c_12]; rfl] at h7; exact h7))) hq_40 (absM_fr hA hT0 (show fr [(8, 9)] [] C C_39 from (fr_tr fr_rf f_41 (by decide) (by decide))) (by decide) (by decide) (by decide)))⟩⟩, ⟨by rw [ht]; exact hP, hD⟩⟩, hS.F ht⟩) hS.2.2 dX7_ask_49
    · refine lv_ldc2 (v := 900) hx hb hown (htg _ q_1172) dX7_ask_19 ?_
      refine lv_goto (tgt := 37) hx hb dX7_ask_22 (by decide) ?_
      refine tq_S (As := [.long (Int32.toInt64 x2), .long 0, .long 900]) (rest := []) (ws := []) ⟨hx, hb, hml, hown, htg⟩ (c_X7_in l D E G (Int32.toInt64 x2) (0 : Int64) (900 : Int64)) (va_cwS 3 htg (oh_gS q_1066 q_1067 q_73 q_1068) rfl rfl rfl pdX7_in ⟨Nat.le_of_ble_eq_true rfl, Nat.le_of_ble_eq_true rfl⟩) hK va_nil hG hS rfl hl.1 rfl (Nat.le_of_ble_eq_true rfl) dX7_ask_37 ⟨Nat.le_of_ble_eq_true rfl, Nat.le_of_ble_eq_true rfl⟩ (fun r_43 hq_44 => ?_)
      refine lv_if_ne (tgt := 50) hx hb dX7_ask_40 (by decide) (fun (c_45 : ¬ (r_43 = 0)) => ?_) (fun (c_45 : r_43 = 0) => ?_)
      · have u_46 := hq_44.2.1 c_45
        refine lv_aload_n hx hb dX7_ask_50 rfl (lv_at hl 0 rfl) ?_
        refine va_get (D := D) (ci := 7) (v := .ref (a 13)) (C := RX7) (T := TX7) (N := 29) hx hb htg ig_7 hown hK hP 0 (oh_wg (Nat.lt_of_lt_of_le (by decide) hn) (sM_0 hT)) rfl 17 (by decide) (htg _ q_990) (fun _ h9 => h9) rfl dX7_ask_51 ?_
        refine lv_iload_n hx hb dX7_ask_54 rfl (lv_at hl 1 rfl) ?_
        have n_47 : vp_in x1 3 := (rg_in (rn_eq c_11 (rg_c (v := 0) (lo := 0) (hi := 0) (by decide))) (by decide))
        refine th_iald hx hb hK hP 13 (Nat.lt_of_lt_of_le (by decide) hn) (sM_13 hT) n_47 dX7_ask_55 ?_
        refine lv_istore_n (lv' := [(3, .int (ga (C 13) (x1).toNatClampNeg)), (0, .ref (a 0)), (1, .int x1), (2, .int x2)]) hx hb dX7_ask_56 rfl hl (by decide) rfl (fun ls hl => ?_)
        refine lv_aload_n hx hb dX7_ask_57 rfl (lv_at hl 1 rfl) ?_
        refine va_get (D := D) (ci := 7) (v := .ref (a 13)) (C := RX7) (T := TX7) (N := 29) hx hb htg ig_7 hown hK hP 0 (oh_wg (Nat.lt_of_lt_of_le (by decide) hn) (sM_0 hT)) rfl 17 (by decide) (htg _ q_990) (fun _ h9 => h9) rfl dX7_ask_58 ?_
        refine lv_iload_n hx hb dX7_ask_61 rfl (lv_at hl 2 rfl) ?_
        refine lv_iload_n hx hb dX7_ask_62 rfl (lv_at hl 3 rfl) ?_
        have n_48 : vp_in x1 3 := (rg_in (rn_eq c_11 (rg_c (v := 0) (lo := 0) (hi := 0) (by decide))) (by decide))
        refine th_iast (T := TyM a E) (Rl := fr [(8, 9), (13, 14)] [] C) hx hb hK hP hD hS 13 (Nat.lt_of_lt_of_le (by decide) hn) (sM_13 hT) n_48 (hT.up 13 (by decide) (tA_upd (tM_13 hT) tA_any)) (fr_st hF (by decide) (by decide)) dX7_ask_63 (fun C_49 H locs e_50 hT hF hP hD hS => ?_)
        have t_51 := hT
        refine lv_iload_n hx hb dX7_ask_64 rfl (lv_at hl 0 rfl) ?_
        rw [hQ]
        exact W.iret (v := ga (C 13) (x1).toNatClampNeg) hx hb hr (fun t ht hW => ⟨⟨ga (C 13) (x1).toNatClampNeg, C_49, rfl, ⟨hT, hF, ⟨⟨hR.1.fr hF (by decide), hR.2.fr hF (by decide)⟩, (fun A hA => pr_b (P := fun z => absM C_49 z) (pif_pos ⟨(oh_rgI (p := 0) (q := 2) (rg_w (lo := 0) (hi := 2) (rn_eq c_11 (rg_c (v := 0) (lo := 0) (hi := 0) (by decide))) (by decide))), (by rw [show oh_maxs x1.toNatClampNeg = 900 by rw [c_11]; rfl]; exact (oh_rgI (p := 0) (q := 900) (rg_w (lo := 0) (hi := 900) (rg_il (rgL_i (rg_il (rnL_leu u_46.2 (rnL_lel u_46.1 (rgL_c (v := 0) (lo := 0) (hi := 0) (by decide)) (rgL_i (rg_any _))) (rgL_c (v := 900) (lo := 900) (hi := 900) (by decide)))))) (by decide))))⟩) (hA.2.1 x1.toNatClampNeg (vp_lt (rg_in (rg_w (lo := 0) (hi := 2) (rn_eq c_11 (rg_c (v := 0) (lo := 0) (hi := 0) (by decide))) (by decide)) (by decide)))) (absM_set hA (fun s hs => congrArg (fun z => gi z (9 + 2 * s)) (th_un e_50 (by decide))) (fun j hj => by rw [st_ga e_50]; rfl) (fun s hs i hi => th_un e_50 (by have := blk_lo hs; omega))))⟩⟩, ⟨by rw [ht]; exact hP, hD⟩⟩, hS.F ht⟩) hS.2.2 dX7_ask_65
      · have u_52 := hq_44.2.2 c_45
        refine lv_aload_n hx hb dX7_ask_43 rfl (lv_at hl 0 rfl) ?_
        refine lv_bipush (v := (-2)) hx hb dX7_ask_44 (by decide) ?_
        refine tm_V (As := [.int (-2)]) (rest := []) ⟨hx, hb, hml, hown, htg⟩ (c_X7_refuse l D E G _ a C n hn hT ((-2) : Int32) (rg_w (rg_c (v := (-2)) (lo := (-2)) (hi := (-2)) (by decide)) (by decide))) (cwV 1 htg (oh_gV q_1071 q_1073 q_29 q_73 q_1074) rfl rfl rfl pdVX7_refuse ⟨Nat.le_of_ble_eq_true rfl, Nat.le_of_ble_eq_true rfl⟩) hK hP hD hG hS hA (va_recv hK hP (ci := 7) (q0 := 0) rfl (oh_wg (Nat.lt_of_lt_of_le (by decide) hn) (sM_0 hT))) rfl hl.1 rfl (Nat.le_of_ble_eq_true rfl) dX7_ask_46 ⟨Nat.le_of_ble_eq_true rfl, Nat.le_of_ble_eq_true rfl⟩ (fun r_53 C_54 H locs hq_55 hP hD hS => ?_)
        obtain ⟨hT, f_56, hq_55⟩ := hq_55
        have hF := fr_tr hF f_56 (by decide) (by decide)
        refine W.widen (k := 0) (n := 0) (Nat.le_refl _) (Nat.le_refl _) ?_
        have t_57 := hT
        rw [hQ]
        exact W.iret (v := r_53) hx hb hr (fun t ht hW => ⟨⟨r_53, C_54, rfl, ⟨hT, hF, ⟨⟨hR.1.fr hF (by decide), hR.2.fr hF (by decide)⟩, (fun A hA => pr_b (P := fun z => absM C_54 z) (pif_neg (fun h8 => (oh_in64 (l' := 0) (k' := 900) rfl rfl u_52) (by have h7 := h8.2; rw [show oh_maxs x1.toNatClampNeg = 900 by rw [c_11]; rfl] at h7; exact h7))) hq_55 (absM_fr hA hT0 (show fr [(8, 9)] [] C C_54 from (fr_tr fr_rf f_56 (by decide) (by decide))) (by decide) (by decide) (by decide)))⟩⟩, ⟨by rw [ht]; exact hP, hD⟩⟩, hS.F ht⟩) hS.2.2 dX7_ask_49

set_option maxHeartbeats 4000000 in
set_option maxRecDepth 100000 in
theorem e_X7_stand (l : Launch) (D : va_G) (E : Nat → ClassId) (G : Nat → Nat) (sz : Nat) (a : Nat → Nat) (C : Nat → va_E) (n : Nat) (hn : 74 ≤ n) (hT : TyM a E C) (x1 : Int32) (x2 : Int32) (x3 : Int32) (hx3 : rg x3 0 1) (hR : RelM C) : Met l yX7_stand (oh_w yX7_stand cX7_stand 5 (some .int)) ({ frames := 2, cells := 0, slots := 0, locals := 46 }) (oh_Pm D E G [.ref (a 0), .int x1, .int x2, .int x3] (oh_W n a C) sz) (va_Qi (fun r (u : Nat → va_E) => TyM a E u ∧ fr [(8, 9), (48, 64)] [] C u ∧ (RelM u) ∧ (∀ A : LA, absM C A → absM u (stA A x1 x2 x3))) (oh_B D (va_A (oh_W n a C) sz) (fun u => oh_W n a u)) (va_A (oh_W n a C) sz)) 0 0 (va_A (oh_W n a C) sz) := by
  refine Met.ofW (cc := cX7_stand) (maxL := 5) (ret := (some .int)) (by decide) rfl ?_
  intro p e s m args below meth c s₁ B hml hv
  obtain ⟨rfl, hsz, hP, hK, hD0, hG⟩ := hv
  have hx := B.exec
  have hb := B.bytes
  have hr := B.returns
  have hts := atoms_spec (ws := (oh_w yX7_stand cX7_stand 5 (some .int))) B.pre
  have htg : ∀ w ∈ oh_t, w.before _ s = true := fun w h => hts w (List.mem_cons_of_mem _ h)
  have hown : s.vm.findClass RX7 = some m.cls := findClass_of_methodNamed B.named
  have hlocks := B.notSynchronized
  have hT0 := hT
  subst hsz
  have hD := hD0.self (sz := s.heap.size)
  generalize hAe : va_A (oh_W n a C) s.heap.size = A at hD hG ⊢
  have hA : ∀ q : Nat, s.heap.size ≤ q → A q := fun q h => by rw [← hAe]; exact Or.inr h
  have hS : va_S A s.heap s.heap [] := va_S.rf
  have hF : fr [(8, 9), (48, 64)] [] C C := fr_rf
  have hl := lv_entry ([.ref (a 0), .int x1, .int x2, .int x3]) (n := 5) (Nat.le_of_ble_eq_true rfl)
  rw [lg_entry_eq]
  generalize (lg_sl ([.ref (a 0), .int x1, .int x2, .int x3]) ++ List.replicate (5 - (lg_sl ([.ref (a 0), .int x1, .int x2, .int x3])).length) Slot.unset).toArray = ls at hl ⊢
  have hl : lv_has ls 5 [(0, .ref (a 0)), (1, .int x1), (2, .int x2), (3, .int x3)] := hl
  refine oh_genQ (fun Q hQ => ?_)
  refine lv_aload_n hx hb dX7_stand_0 rfl (lv_at hl 0 rfl) ?_
  refine lv_iload_n hx hb dX7_stand_1 rfl (lv_at hl 1 rfl) ?_
  refine tq_V (As := [.int x1]) (rest := []) (ws := (oh_W n a C)) ⟨hx, hb, hml, hown, htg⟩ (e_X7_isBridge l D E G a C n hn hT x1) (cwV 1 htg (oh_gV q_1098 q_1100 q_30 q_73 q_1101) rfl rfl rfl pdVX7_isBridge ⟨Nat.le_of_ble_eq_true rfl, Nat.le_of_ble_eq_true rfl⟩) hK hP hG hS (va_recv hK hP (ci := 7) (q0 := 0) rfl (oh_wg (Nat.lt_of_lt_of_le (by decide) hn) (sM_0 hT))) rfl hl.1 rfl (Nat.le_of_ble_eq_true rfl) dX7_stand_2 ⟨Nat.le_of_ble_eq_true rfl, Nat.le_of_ble_eq_true rfl⟩ (fun r_1 hq_2 => ?_)
  refine lv_if_eq (tgt := 20) hx hb dX7_stand_5 (by decide) (fun (c_3 : r_1 = 0) => ?_) (fun (c_3 : ¬ (r_1 = 0)) => ?_)
  · have u_4 := hq_2.2.2 c_3
    refine lv_aload_n hx hb dX7_stand_20 rfl (lv_at hl 0 rfl) ?_
    refine lv_bipush (v := (-2)) hx hb dX7_stand_21 (by decide) ?_
    refine tm_V (As := [.int (-2)]) (rest := []) ⟨hx, hb, hml, hown, htg⟩ (c_X7_refuse l D E G _ a C n hn hT ((-2) : Int32) (rg_w (rg_c (v := (-2)) (lo := (-2)) (hi := (-2)) (by decide)) (by decide))) (cwV 1 htg (oh_gV q_1071 q_1073 q_29 q_73 q_1074) rfl rfl rfl pdVX7_refuse ⟨Nat.le_of_ble_eq_true rfl, Nat.le_of_ble_eq_true rfl⟩) hK hP hD hG hS hA (va_recv hK hP (ci := 7) (q0 := 0) rfl (oh_wg (Nat.lt_of_lt_of_le (by decide) hn) (sM_0 hT))) rfl hl.1 rfl (Nat.le_of_ble_eq_true rfl) dX7_stand_23 ⟨Nat.le_of_ble_eq_true rfl, Nat.le_of_ble_eq_true rfl⟩ (fun r_5 C_6 H locs hq_7 hP hD hS => ?_)
    obtain ⟨hT, f_8, hq_7⟩ := hq_7
    have hF := fr_tr hF f_8 (by decide) (by decide)
    refine W.widen (k := 0) (n := 0) (Nat.le_refl _) (Nat.le_refl _) ?_
    have t_9 := hT
    rw [hQ]
    exact W.iret (v := r_5) hx hb hr (fun t ht hW => ⟨⟨r_5, C_6, rfl, ⟨hT, hF, ⟨⟨hR.1.fr hF (by decide), hR.2.fr hF (by decide)⟩, (fun A hA => by rw [stX_0 (fun h8 => by have h7 := h8.1; rw [← (show gi (C 0) 11 = A 5 0 1 from hA.1 1 (by decide))] at h7; exact u_4 h7)]; exact (absM_fr hA hT0 (show fr [(8, 9)] [] C C_6 from (fr_tr fr_rf f_8 (by decide) (by decide))) (by decide) (by decide) (by decide)))⟩⟩, ⟨by rw [ht]; exact hP, hD⟩⟩, hS.F ht⟩) hS.2.2 dX7_stand_26
  · have u_10 := hq_2.2.1 c_3
    refine lv_iload_n hx hb dX7_stand_8 rfl (lv_at hl 2 rfl) ?_
    refine lv_i2l (v := Int32.toInt64 x2) hx hb dX7_stand_9 (by rfl) ?_
    refine lv_lconst (v := 0) hx hb dX7_stand_10 (by decide) ?_
    refine lv_ldc2 (v := 2) hx hb hown (htg _ q_1162) dX7_stand_11 ?_
    refine tq_S (As := [.long (Int32.toInt64 x2), .long 0, .long 2]) (rest := []) (ws := []) ⟨hx, hb, hml, hown, htg⟩ (c_X7_in l D E G (Int32.toInt64 x2) (0 : Int64) (2 : Int64)) (va_cwS 3 htg (oh_gS q_1066 q_1067 q_73 q_1068) rfl rfl rfl pdX7_in ⟨Nat.le_of_ble_eq_true rfl, Nat.le_of_ble_eq_true rfl⟩) hK va_nil hG hS rfl hl.1 rfl (Nat.le_of_ble_eq_true rfl) dX7_stand_14 ⟨Nat.le_of_ble_eq_true rfl, Nat.le_of_ble_eq_true rfl⟩ (fun r_11 hq_12 => ?_)
    refine lv_if_ne (tgt := 27) hx hb dX7_stand_17 (by decide) (fun (c_13 : ¬ (r_11 = 0)) => ?_) (fun (c_13 : r_11 = 0) => ?_)
    · have u_14 := hq_12.2.1 c_13
      refine lv_iload_n hx hb dX7_stand_27 rfl (lv_at hl 2 rfl) ?_
      refine lv_if_ne (tgt := 50) hx hb dX7_stand_28 (by decide) (fun (c_15 : ¬ (x2 = 0)) => ?_) (fun (c_15 : x2 = 0) => ?_)
      · refine lv_aload_n hx hb dX7_stand_50 rfl (lv_at hl 0 rfl) ?_
        refine va_get (D := D) (ci := 7) (v := .ref (a 10)) (C := RX7) (T := TX7) (N := 29) hx hb htg ig_7 hown hK hP 0 (oh_wg (Nat.lt_of_lt_of_le (by decide) hn) (sM_0 hT)) rfl 12 (by decide) (htg _ q_985) (fun _ h9 => h9) rfl dX7_stand_51 ?_
        refine lv_iload_n hx hb dX7_stand_54 rfl (lv_at hl 1 rfl) ?_
        have n_16 : vp_in x1 16 := (rg_in u_10.1 (by decide))
        have b_17 : (x1).toNatClampNeg < 16 := vp_lt n_16
        refine th_aald hx hb hK hP 10 2 (Nat.lt_of_lt_of_le (by decide) hn) (sM_10 hT) rfl n_16 dX7_stand_55 ?_
        refine lv_bipush (v := 7) hx hb dX7_stand_56 (by decide) ?_
        refine lv_iload_n hx hb dX7_stand_58 rfl (lv_at hl 2 rfl) ?_
        refine lv_iadd hx hb dX7_stand_59 ?_
        have n_18 : vp_in (7 + x2) 10 := (rg_in (rg_add (lo := 7) (hi := 9) (rg_c (v := 7) (lo := 7) (hi := 7) (by decide)) (rg_il (rgL_i (rg_il (rnL_leu u_14.2 (rnL_lel u_14.1 (rgL_c (v := 0) (lo := 0) (hi := 0) (by decide)) (rgL_i (rg_any _))) (rgL_c (v := 2) (lo := 2) (hi := 2) (by decide)))))) (by decide)) (by decide))
        refine th_iald hx hb hK hP (48 + (x1).toNatClampNeg) (lt_blk b_17 hn (by decide)) (hT.bbridge b_17).1 n_18 dX7_stand_60 ?_
        refine lv_istore (lv' := [(4, .int (ga (C (48 + (x1).toNatClampNeg)) (7 + x2).toNatClampNeg)), (0, .ref (a 0)), (1, .int x1), (2, .int x2), (3, .int x3)]) hx hb dX7_stand_61 hl (by decide) rfl (fun ls hl => ?_)
        refine lv_aload_n hx hb dX7_stand_63 rfl (lv_at hl 1 rfl) ?_
        refine va_get (D := D) (ci := 7) (v := .ref (a 10)) (C := RX7) (T := TX7) (N := 29) hx hb htg ig_7 hown hK hP 0 (oh_wg (Nat.lt_of_lt_of_le (by decide) hn) (sM_0 hT)) rfl 12 (by decide) (htg _ q_985) (fun _ h9 => h9) rfl dX7_stand_64 ?_
        refine lv_iload_n hx hb dX7_stand_67 rfl (lv_at hl 2 rfl) ?_
        have n_19 : vp_in x1 16 := (rg_in u_10.1 (by decide))
        have b_20 : (x1).toNatClampNeg < 16 := vp_lt n_19
        refine th_aald hx hb hK hP 10 2 (Nat.lt_of_lt_of_le (by decide) hn) (sM_10 hT) rfl n_19 dX7_stand_68 ?_
        refine lv_bipush (v := 7) hx hb dX7_stand_69 (by decide) ?_
        refine lv_iload_n hx hb dX7_stand_71 rfl (lv_at hl 3 rfl) ?_
        refine lv_iadd hx hb dX7_stand_72 ?_
        refine lv_iload_n hx hb dX7_stand_73 rfl (lv_at hl 4 rfl) ?_
        refine lv_if_eq (tgt := 81) hx hb dX7_stand_74 (by decide) (fun (c_21 : x3 = 0) => ?_) (fun (c_21 : ¬ (x3 = 0)) => ?_)
        · refine lv_iconst (v := 0) hx hb dX7_stand_81 (by decide) ?_
          have n_22 : vp_in (7 + x2) 10 := (rg_in (rg_add (lo := 7) (hi := 9) (rg_c (v := 7) (lo := 7) (hi := 7) (by decide)) (rg_il (rgL_i (rg_il (rnL_leu u_14.2 (rnL_lel u_14.1 (rgL_c (v := 0) (lo := 0) (hi := 0) (by decide)) (rgL_i (rg_any _))) (rgL_c (v := 2) (lo := 2) (hi := 2) (by decide)))))) (by decide)) (by decide))
          refine th_iast (T := TyM a E) (Rl := fr [(8, 9), (48, 64)] [] C) hx hb hK hP hD hS (48 + (x1).toNatClampNeg) (lt_blk b_20 hn (by decide)) (hT.bbridge b_20).1 n_22 (hT.upbridge b_20 (tA_upd (hT.bbridge b_20) tA_any)) (fr_st hF (by omega) (inR_of (p := (48, 64)) (by decide) (by show 48 ≤ _; omega) (by show _ < 64; omega))) dX7_stand_82 (fun C_23 H locs e_24 hT hF hP hD hS => ?_)
          have t_25 := hT
          refine lv_iload hx hb dX7_stand_83 (lv_at hl 0 rfl) ?_
          refine lv_aload_n hx hb dX7_stand_85 rfl (lv_at hl 1 rfl) ?_
          refine va_get (D := D) (ci := 7) (v := .ref (a 10)) (C := RX7) (T := TX7) (N := 29) hx hb htg ig_7 hown hK hP 0 (oh_wg (Nat.lt_of_lt_of_le (by decide) hn) (sM_0 hT)) rfl 12 (by decide) (htg _ q_985) (fun _ h9 => h9) rfl dX7_stand_86 ?_
          refine lv_iload_n hx hb dX7_stand_89 rfl (lv_at hl 2 rfl) ?_
          have n_26 : vp_in x1 16 := (rg_in u_10.1 (by decide))
          have b_27 : (x1).toNatClampNeg < 16 := vp_lt n_26
          refine th_aald hx hb hK hP 10 2 (Nat.lt_of_lt_of_le (by decide) hn) (sM_10 hT) rfl n_26 dX7_stand_90 ?_
          refine lv_bipush (v := 7) hx hb dX7_stand_91 (by decide) ?_
          refine lv_iload_n hx hb dX7_stand_93 rfl (lv_at hl 3 rfl) ?_
          refine lv_iadd hx hb dX7_stand_94 ?_
          have n_28 : vp_in (7 + x2) 10 := (rg_in (rg_add (lo := 7) (hi := 9) (rg_c (v := 7) (lo := 7) (hi := 7) (by decide)) (rg_il (rgL_i (rg_il (rnL_leu u_14.2 (rnL_lel u_14.1 (rgL_c (v := 0) (lo := 0) (hi := 0) (by decide)) (rgL_i (rg_any _))) (rgL_c (v := 2) (lo := 2) (hi := 2) (by decide)))))) (by decide)) (by decide))
          refine th_iald hx hb hK hP (48 + (x1).toNatClampNeg) (lt_blk b_27 hn (by decide)) (hT.bbridge b_27).1 n_28 dX7_stand_95 ?_
          refine lv_icmp_eq (tgt := 103) hx hb dX7_stand_96 (by decide) (fun (c_29 : (ga (C (48 + (x1).toNatClampNeg)) (7 + x2).toNatClampNeg) = (ga (C_23 (48 + (x1).toNatClampNeg)) (7 + x2).toNatClampNeg)) => ?_) (fun (c_29 : ¬ ((ga (C (48 + (x1).toNatClampNeg)) (7 + x2).toNatClampNeg) = (ga (C_23 (48 + (x1).toNatClampNeg)) (7 + x2).toNatClampNeg))) => ?_)
          · refine lv_iconst (v := 0) hx hb dX7_stand_103 (by decide) ?_
            rw [hQ]
            exact W.iret (v := 0) hx hb hr (fun t ht hW => ⟨⟨0, C_23, rfl, ⟨hT, hF, ⟨⟨hR.1.fr hF (by decide), hR.2.fr hF (by decide)⟩, (fun A hA => stM (show 0 ≤ x1 ∧ x1 < A 5 0 1 by rw [← (show gi (C 0) 11 = A 5 0 1 from hA.1 1 (by decide))]; exact u_10.2) (rg_w (lo := 0) (hi := 2) (rg_il (rgL_i (rg_il (rnL_leu u_14.2 (rnL_lel u_14.1 (rgL_c (v := 0) (lo := 0) (hi := 0) (by decide)) (rgL_i (rg_any _))) (rgL_c (v := 2) (lo := 2) (hi := 2) (by decide)))))) (by decide)) (fun h8 => c_15 h8.1) (absM_st (t := 1) hT0 hA (by decide) (show x1.toNatClampNeg < 16 from vp_lt (rg_in u_10.1 (by decide))) e_24) (b01_0 c_21))⟩⟩, ⟨by rw [ht]; exact hP, hD⟩⟩, hS.F ht⟩) hS.2.2 dX7_stand_104
          · refine lv_iconst (v := 1) hx hb dX7_stand_99 (by decide) ?_
            refine lv_goto (tgt := 104) hx hb dX7_stand_100 (by decide) ?_
            rw [hQ]
            exact W.iret (v := 1) hx hb hr (fun t ht hW => ⟨⟨1, C_23, rfl, ⟨hT, hF, ⟨⟨hR.1.fr hF (by decide), hR.2.fr hF (by decide)⟩, (fun A hA => stM (show 0 ≤ x1 ∧ x1 < A 5 0 1 by rw [← (show gi (C 0) 11 = A 5 0 1 from hA.1 1 (by decide))]; exact u_10.2) (rg_w (lo := 0) (hi := 2) (rg_il (rgL_i (rg_il (rnL_leu u_14.2 (rnL_lel u_14.1 (rgL_c (v := 0) (lo := 0) (hi := 0) (by decide)) (rgL_i (rg_any _))) (rgL_c (v := 2) (lo := 2) (hi := 2) (by decide)))))) (by decide)) (fun h8 => c_15 h8.1) (absM_st (t := 1) hT0 hA (by decide) (show x1.toNatClampNeg < 16 from vp_lt (rg_in u_10.1 (by decide))) e_24) (b01_0 c_21))⟩⟩, ⟨by rw [ht]; exact hP, hD⟩⟩, hS.F ht⟩) hS.2.2 dX7_stand_104
        · refine lv_iconst (v := 1) hx hb dX7_stand_77 (by decide) ?_
          refine lv_goto (tgt := 82) hx hb dX7_stand_78 (by decide) ?_
          have n_30 : vp_in (7 + x2) 10 := (rg_in (rg_add (lo := 7) (hi := 9) (rg_c (v := 7) (lo := 7) (hi := 7) (by decide)) (rg_il (rgL_i (rg_il (rnL_leu u_14.2 (rnL_lel u_14.1 (rgL_c (v := 0) (lo := 0) (hi := 0) (by decide)) (rgL_i (rg_any _))) (rgL_c (v := 2) (lo := 2) (hi := 2) (by decide)))))) (by decide)) (by decide))
          refine th_iast (T := TyM a E) (Rl := fr [(8, 9), (48, 64)] [] C) hx hb hK hP hD hS (48 + (x1).toNatClampNeg) (lt_blk b_20 hn (by decide)) (hT.bbridge b_20).1 n_30 (hT.upbridge b_20 (tA_upd (hT.bbridge b_20) tA_any)) (fr_st hF (by omega) (inR_of (p := (48, 64)) (by decide) (by show 48 ≤ _; omega) (by show _ < 64; omega))) dX7_stand_82 (fun C_31 H locs e_32 hT hF hP hD hS => ?_)
          have t_33 := hT
          refine lv_iload hx hb dX7_stand_83 (lv_at hl 0 rfl) ?_
          refine lv_aload_n hx hb dX7_stand_85 rfl (lv_at hl 1 rfl) ?_
          refine va_get (D := D) (ci := 7) (v := .ref (a 10)) (C := RX7) (T := TX7) (N := 29) hx hb htg ig_7 hown hK hP 0 (oh_wg (Nat.lt_of_lt_of_le (by decide) hn) (sM_0 hT)) rfl 12 (by decide) (htg _ q_985) (fun _ h9 => h9) rfl dX7_stand_86 ?_
          refine lv_iload_n hx hb dX7_stand_89 rfl (lv_at hl 2 rfl) ?_
          have n_34 : vp_in x1 16 := (rg_in u_10.1 (by decide))
          have b_35 : (x1).toNatClampNeg < 16 := vp_lt n_34
          refine th_aald hx hb hK hP 10 2 (Nat.lt_of_lt_of_le (by decide) hn) (sM_10 hT) rfl n_34 dX7_stand_90 ?_
          refine lv_bipush (v := 7) hx hb dX7_stand_91 (by decide) ?_
          refine lv_iload_n hx hb dX7_stand_93 rfl (lv_at hl 3 rfl) ?_
          refine lv_iadd hx hb dX7_stand_94 ?_
          have n_36 : vp_in (7 + x2) 10 := (rg_in (rg_add (lo := 7) (hi := 9) (rg_c (v := 7) (lo := 7) (hi := 7) (by decide)) (rg_il (rgL_i (rg_il (rnL_leu u_14.2 (rnL_lel u_14.1 (rgL_c (v := 0) (lo := 0) (hi := 0) (by decide)) (rgL_i (rg_any _))) (rgL_c (v := 2) (lo := 2) (hi := 2) (by decide)))))) (by decide)) (by decide))
          refine th_iald hx hb hK hP (48 + (x1).toNatClampNeg) (lt_blk b_35 hn (by decide)) (hT.bbridge b_35).1 n_36 dX7_stand_95 ?_
          refine lv_icmp_eq (tgt := 103) hx hb dX7_stand_96 (by decide) (fun (c_37 : (ga (C (48 + (x1).toNatClampNeg)) (7 + x2).toNatClampNeg) = (ga (C_31 (48 + (x1).toNatClampNeg)) (7 + x2).toNatClampNeg)) => ?_) (fun (c_37 : ¬ ((ga (C (48 + (x1).toNatClampNeg)) (7 + x2).toNatClampNeg) = (ga (C_31 (48 + (x1).toNatClampNeg)) (7 + x2).toNatClampNeg))) => ?_)
          · refine lv_iconst (v := 0) hx hb dX7_stand_103 (by decide) ?_
            rw [hQ]
            exact W.iret (v := 0) hx hb hr (fun t ht hW => ⟨⟨0, C_31, rfl, ⟨hT, hF, ⟨⟨hR.1.fr hF (by decide), hR.2.fr hF (by decide)⟩, (fun A hA => stM (show 0 ≤ x1 ∧ x1 < A 5 0 1 by rw [← (show gi (C 0) 11 = A 5 0 1 from hA.1 1 (by decide))]; exact u_10.2) (rg_w (lo := 0) (hi := 2) (rg_il (rgL_i (rg_il (rnL_leu u_14.2 (rnL_lel u_14.1 (rgL_c (v := 0) (lo := 0) (hi := 0) (by decide)) (rgL_i (rg_any _))) (rgL_c (v := 2) (lo := 2) (hi := 2) (by decide)))))) (by decide)) (fun h8 => c_15 h8.1) (absM_st (t := 1) hT0 hA (by decide) (show x1.toNatClampNeg < 16 from vp_lt (rg_in u_10.1 (by decide))) e_32) (b01_1 c_21))⟩⟩, ⟨by rw [ht]; exact hP, hD⟩⟩, hS.F ht⟩) hS.2.2 dX7_stand_104
          · refine lv_iconst (v := 1) hx hb dX7_stand_99 (by decide) ?_
            refine lv_goto (tgt := 104) hx hb dX7_stand_100 (by decide) ?_
            rw [hQ]
            exact W.iret (v := 1) hx hb hr (fun t ht hW => ⟨⟨1, C_31, rfl, ⟨hT, hF, ⟨⟨hR.1.fr hF (by decide), hR.2.fr hF (by decide)⟩, (fun A hA => stM (show 0 ≤ x1 ∧ x1 < A 5 0 1 by rw [← (show gi (C 0) 11 = A 5 0 1 from hA.1 1 (by decide))]; exact u_10.2) (rg_w (lo := 0) (hi := 2) (rg_il (rgL_i (rg_il (rnL_leu u_14.2 (rnL_lel u_14.1 (rgL_c (v := 0) (lo := 0) (hi := 0) (by decide)) (rgL_i (rg_any _))) (rgL_c (v := 2) (lo := 2) (hi := 2) (by decide)))))) (by decide)) (fun h8 => c_15 h8.1) (absM_st (t := 1) hT0 hA (by decide) (show x1.toNatClampNeg < 16 from vp_lt (rg_in u_10.1 (by decide))) e_32) (b01_1 c_21))⟩⟩, ⟨by rw [ht]; exact hP, hD⟩⟩, hS.F ht⟩) hS.2.2 dX7_stand_104
      · refine lv_aload_n hx hb dX7_stand_31 rfl (lv_at hl 0 rfl) ?_
        refine va_get (D := D) (ci := 7) (v := .ref (a 10)) (C := RX7) (T := TX7) (N := 29) hx hb htg ig_7 hown hK hP 0 (oh_wg (Nat.lt_of_lt_of_le (by decide) hn) (sM_0 hT)) rfl 12 (by decide) (htg _ q_985) (fun _ h9 => h9) rfl dX7_stand_32 ?_
        refine lv_iload_n hx hb dX7_stand_35 rfl (lv_at hl 1 rfl) ?_
        have n_38 : vp_in x1 16 := (rg_in u_10.1 (by decide))
        have b_39 : (x1).toNatClampNeg < 16 := vp_lt n_38
        refine th_aald hx hb hK hP 10 2 (Nat.lt_of_lt_of_le (by decide) hn) (sM_10 hT) rfl n_38 dX7_stand_36 ?_
        refine lv_iconst (v := 1) hx hb dX7_stand_37 (by decide) ?_
        refine th_iald hx hb hK hP (48 + (x1).toNatClampNeg) (lt_blk b_39 hn (by decide)) (hT.bbridge b_39).1 (rg_in (rg_c (v := 1) (lo := 1) (hi := 1) (by decide)) (by decide)) dX7_stand_38 ?_
        refine lv_iconst (v := 3) hx hb dX7_stand_39 (by decide) ?_
        refine lv_icmp_ne (tgt := 50) hx hb dX7_stand_40 (by decide) (fun (c_40 : ¬ ((ga (C (48 + (x1).toNatClampNeg)) ((1 : Int32)).toNatClampNeg) = 3)) => ?_) (fun (c_40 : (ga (C (48 + (x1).toNatClampNeg)) ((1 : Int32)).toNatClampNeg) = 3) => ?_)
        · refine lv_aload_n hx hb dX7_stand_50 rfl (lv_at hl 0 rfl) ?_
          refine va_get (D := D) (ci := 7) (v := .ref (a 10)) (C := RX7) (T := TX7) (N := 29) hx hb htg ig_7 hown hK hP 0 (oh_wg (Nat.lt_of_lt_of_le (by decide) hn) (sM_0 hT)) rfl 12 (by decide) (htg _ q_985) (fun _ h9 => h9) rfl dX7_stand_51 ?_
          refine lv_iload_n hx hb dX7_stand_54 rfl (lv_at hl 1 rfl) ?_
          have n_41 : vp_in x1 16 := (rg_in u_10.1 (by decide))
          have b_42 : (x1).toNatClampNeg < 16 := vp_lt n_41
          refine th_aald hx hb hK hP 10 2 (Nat.lt_of_lt_of_le (by decide) hn) (sM_10 hT) rfl n_41 dX7_stand_55 ?_
          refine lv_bipush (v := 7) hx hb dX7_stand_56 (by decide) ?_
          refine lv_iload_n hx hb dX7_stand_58 rfl (lv_at hl 2 rfl) ?_
          refine lv_iadd hx hb dX7_stand_59 ?_
          have n_43 : vp_in (7 + x2) 10 := (rg_in (rg_add (lo := 7) (hi := 7) (rg_c (v := 7) (lo := 7) (hi := 7) (by decide)) (rn_eq c_15 (rg_c (v := 0) (lo := 0) (hi := 0) (by decide))) (by decide)) (by decide))
          refine th_iald hx hb hK hP (48 + (x1).toNatClampNeg) (lt_blk b_42 hn (by decide)) (hT.bbridge b_42).1 n_43 dX7_stand_60 ?_
          refine lv_istore (lv' := [(4, .int (ga (C (48 + (x1).toNatClampNeg)) (7 + x2).toNatClampNeg)), (0, .ref (a 0)), (1, .int x1), (2, .int x2), (3, .int x3)]) hx hb dX7_stand_61 hl (by decide) rfl (fun ls hl => ?_)
          refine lv_aload_n hx hb dX7_stand_63 rfl (lv_at hl 1 rfl) ?_
          refine va_get (D := D) (ci := 7) (v := .ref (a 10)) (C := RX7) (T := TX7) (N := 29) hx hb htg ig_7 hown hK hP 0 (oh_wg (Nat.lt_of_lt_of_le (by decide) hn) (sM_0 hT)) rfl 12 (by decide) (htg _ q_985) (fun _ h9 => h9) rfl dX7_stand_64 ?_
          refine lv_iload_n hx hb dX7_stand_67 rfl (lv_at hl 2 rfl) ?_
          have n_44 : vp_in x1 16 := (rg_in u_10.1 (by decide))
          have b_45 : (x1).toNatClampNeg < 16 := vp_lt n_44
          refine th_aald hx hb hK hP 10 2 (Nat.lt_of_lt_of_le (by decide) hn) (sM_10 hT) rfl n_44 dX7_stand_68 ?_
          refine lv_bipush (v := 7) hx hb dX7_stand_69 (by decide) ?_
          refine lv_iload_n hx hb dX7_stand_71 rfl (lv_at hl 3 rfl) ?_
          refine lv_iadd hx hb dX7_stand_72 ?_
          refine lv_iload_n hx hb dX7_stand_73 rfl (lv_at hl 4 rfl) ?_
          refine lv_if_eq (tgt := 81) hx hb dX7_stand_74 (by decide) (fun (c_46 : x3 = 0) => ?_) (fun (c_46 : ¬ (x3 = 0)) => ?_)
          · refine lv_iconst (v := 0) hx hb dX7_stand_81 (by decide) ?_
            have n_47 : vp_in (7 + x2) 10 := (rg_in (rg_add (lo := 7) (hi := 7) (rg_c (v := 7) (lo := 7) (hi := 7) (by decide)) (rn_eq c_15 (rg_c (v := 0) (lo := 0) (hi := 0) (by decide))) (by decide)) (by decide))
            refine th_iast (T := TyM a E) (Rl := fr [(8, 9), (48, 64)] [] C) hx hb hK hP hD hS (48 + (x1).toNatClampNeg) (lt_blk b_45 hn (by decide)) (hT.bbridge b_45).1 n_47 (hT.upbridge b_45 (tA_upd (hT.bbridge b_45) tA_any)) (fr_st hF (by omega) (inR_of (p := (48, 64)) (by decide) (by show 48 ≤ _; omega) (by show _ < 64; omega))) dX7_stand_82 (fun C_48 H locs e_49 hT hF hP hD hS => ?_)
            have t_50 := hT
            refine lv_iload hx hb dX7_stand_83 (lv_at hl 0 rfl) ?_
            refine lv_aload_n hx hb dX7_stand_85 rfl (lv_at hl 1 rfl) ?_
            refine va_get (D := D) (ci := 7) (v := .ref (a 10)) (C := RX7) (T := TX7) (N := 29) hx hb htg ig_7 hown hK hP 0 (oh_wg (Nat.lt_of_lt_of_le (by decide) hn) (sM_0 hT)) rfl 12 (by decide) (htg _ q_985) (fun _ h9 => h9) rfl dX7_stand_86 ?_
            refine lv_iload_n hx hb dX7_stand_89 rfl (lv_at hl 2 rfl) ?_
            have n_51 : vp_in x1 16 := (rg_in u_10.1 (by decide))
            have b_52 : (x1).toNatClampNeg < 16 := vp_lt n_51
            refine th_aald hx hb hK hP 10 2 (Nat.lt_of_lt_of_le (by decide) hn) (sM_10 hT) rfl n_51 dX7_stand_90 ?_
            refine lv_bipush (v := 7) hx hb dX7_stand_91 (by decide) ?_
            refine lv_iload_n hx hb dX7_stand_93 rfl (lv_at hl 3 rfl) ?_
            refine lv_iadd hx hb dX7_stand_94 ?_
            have n_53 : vp_in (7 + x2) 10 := (rg_in (rg_add (lo := 7) (hi := 7) (rg_c (v := 7) (lo := 7) (hi := 7) (by decide)) (rn_eq c_15 (rg_c (v := 0) (lo := 0) (hi := 0) (by decide))) (by decide)) (by decide))
            refine th_iald hx hb hK hP (48 + (x1).toNatClampNeg) (lt_blk b_52 hn (by decide)) (hT.bbridge b_52).1 n_53 dX7_stand_95 ?_
            refine lv_icmp_eq (tgt := 103) hx hb dX7_stand_96 (by decide) (fun (c_54 : (ga (C (48 + (x1).toNatClampNeg)) (7 + x2).toNatClampNeg) = (ga (C_48 (48 + (x1).toNatClampNeg)) (7 + x2).toNatClampNeg)) => ?_) (fun (c_54 : ¬ ((ga (C (48 + (x1).toNatClampNeg)) (7 + x2).toNatClampNeg) = (ga (C_48 (48 + (x1).toNatClampNeg)) (7 + x2).toNatClampNeg))) => ?_)
            · refine lv_iconst (v := 0) hx hb dX7_stand_103 (by decide) ?_
              rw [hQ]
              exact W.iret (v := 0) hx hb hr (fun t ht hW => ⟨⟨0, C_48, rfl, ⟨hT, hF, ⟨⟨hR.1.fr hF (by decide), hR.2.fr hF (by decide)⟩, (fun A hA => stM (show 0 ≤ x1 ∧ x1 < A 5 0 1 by rw [← (show gi (C 0) 11 = A 5 0 1 from hA.1 1 (by decide))]; exact u_10.2) (rg_w (lo := 0) (hi := 2) (rn_eq c_15 (rg_c (v := 0) (lo := 0) (hi := 0) (by decide))) (by decide)) (fun h8 => c_40 (Eq.trans (show ga (C (48 + (x1).toNatClampNeg)) ((1 : Int32)).toNatClampNeg = A 1 x1.toNatClampNeg 1 from hA.2.2 1 (by decide) x1.toNatClampNeg (by rw [oh_nat (rg_w (lo := 0) (hi := 15) u_10.1 (by decide)) (by decide)]; exact Int32.lt_iff_toInt_lt.mp (show 0 ≤ x1 ∧ x1 < A 5 0 1 by rw [← (show gi (C 0) 11 = A 5 0 1 from hA.1 1 (by decide))]; exact u_10.2).2) 1 (by decide) (by unfold vis; omega)) h8.2)) (absM_st (t := 1) hT0 hA (by decide) (show x1.toNatClampNeg < 16 from vp_lt (rg_in u_10.1 (by decide))) e_49) (b01_0 c_46))⟩⟩, ⟨by rw [ht]; exact hP, hD⟩⟩, hS.F ht⟩) hS.2.2 dX7_stand_104
            · refine lv_iconst (v := 1) hx hb dX7_stand_99 (by decide) ?_
              refine lv_goto (tgt := 104) hx hb dX7_stand_100 (by decide) ?_
              rw [hQ]
              exact W.iret (v := 1) hx hb hr (fun t ht hW => ⟨⟨1, C_48, rfl, ⟨hT, hF, ⟨⟨hR.1.fr hF (by decide), hR.2.fr hF (by decide)⟩, (fun A hA => stM (show 0 ≤ x1 ∧ x1 < A 5 0 1 by rw [← (show gi (C 0) 11 = A 5 0 1 from hA.1 1 (by decide))]; exact u_10.2) (rg_w (lo := 0) (hi := 2) (rn_eq c_15 (rg_c (v := 0) (lo := 0) (hi := 0) (by decide))) (by decide)) (fun h8 => c_40 (Eq.trans (show ga (C (48 + (x1).toNatClampNeg)) ((1 : Int32)).toNatClampNeg = A 1 x1.toNatClampNeg 1 from hA.2.2 1 (by decide) x1.toNatClampNeg (by rw [oh_nat (rg_w (lo := 0) (hi := 15) u_10.1 (by decide)) (by decide)]; exact Int32.lt_iff_toInt_lt.mp (show 0 ≤ x1 ∧ x1 < A 5 0 1 by rw [← (show gi (C 0) 11 = A 5 0 1 from hA.1 1 (by decide))]; exact u_10.2).2) 1 (by decide) (by unfold vis; omega)) h8.2)) (absM_st (t := 1) hT0 hA (by decide) (show x1.toNatClampNeg < 16 from vp_lt (rg_in u_10.1 (by decide))) e_49) (b01_0 c_46))⟩⟩, ⟨by rw [ht]; exact hP, hD⟩⟩, hS.F ht⟩) hS.2.2 dX7_stand_104
          · refine lv_iconst (v := 1) hx hb dX7_stand_77 (by decide) ?_
            refine lv_goto (tgt := 82) hx hb dX7_stand_78 (by decide) ?_
            have n_55 : vp_in (7 + x2) 10 := (rg_in (rg_add (lo := 7) (hi := 7) (rg_c (v := 7) (lo := 7) (hi := 7) (by decide)) (rn_eq c_15 (rg_c (v := 0) (lo := 0) (hi := 0) (by decide))) (by decide)) (by decide))
            refine th_iast (T := TyM a E) (Rl := fr [(8, 9), (48, 64)] [] C) hx hb hK hP hD hS (48 + (x1).toNatClampNeg) (lt_blk b_45 hn (by decide)) (hT.bbridge b_45).1 n_55 (hT.upbridge b_45 (tA_upd (hT.bbridge b_45) tA_any)) (fr_st hF (by omega) (inR_of (p := (48, 64)) (by decide) (by show 48 ≤ _; omega) (by show _ < 64; omega))) dX7_stand_82 (fun C_56 H locs e_57 hT hF hP hD hS => ?_)
            have t_58 := hT
            refine lv_iload hx hb dX7_stand_83 (lv_at hl 0 rfl) ?_
            refine lv_aload_n hx hb dX7_stand_85 rfl (lv_at hl 1 rfl) ?_
            refine va_get (D := D) (ci := 7) (v := .ref (a 10)) (C := RX7) (T := TX7) (N := 29) hx hb htg ig_7 hown hK hP 0 (oh_wg (Nat.lt_of_lt_of_le (by decide) hn) (sM_0 hT)) rfl 12 (by decide) (htg _ q_985) (fun _ h9 => h9) rfl dX7_stand_86 ?_
            refine lv_iload_n hx hb dX7_stand_89 rfl (lv_at hl 2 rfl) ?_
            have n_59 : vp_in x1 16 := (rg_in u_10.1 (by decide))
            have b_60 : (x1).toNatClampNeg < 16 := vp_lt n_59
            refine th_aald hx hb hK hP 10 2 (Nat.lt_of_lt_of_le (by decide) hn) (sM_10 hT) rfl n_59 dX7_stand_90 ?_
            refine lv_bipush (v := 7) hx hb dX7_stand_91 (by decide) ?_
            refine lv_iload_n hx hb dX7_stand_93 rfl (lv_at hl 3 rfl) ?_
            refine lv_iadd hx hb dX7_stand_94 ?_
            have n_61 : vp_in (7 + x2) 10 := (rg_in (rg_add (lo := 7) (hi := 7) (rg_c (v := 7) (lo := 7) (hi := 7) (by decide)) (rn_eq c_15 (rg_c (v := 0) (lo := 0) (hi := 0) (by decide))) (by decide)) (by decide))
            refine th_iald hx hb hK hP (48 + (x1).toNatClampNeg) (lt_blk b_60 hn (by decide)) (hT.bbridge b_60).1 n_61 dX7_stand_95 ?_
            refine lv_icmp_eq (tgt := 103) hx hb dX7_stand_96 (by decide) (fun (c_62 : (ga (C (48 + (x1).toNatClampNeg)) (7 + x2).toNatClampNeg) = (ga (C_56 (48 + (x1).toNatClampNeg)) (7 + x2).toNatClampNeg)) => ?_) (fun (c_62 : ¬ ((ga (C (48 + (x1).toNatClampNeg)) (7 + x2).toNatClampNeg) = (ga (C_56 (48 + (x1).toNatClampNeg)) (7 + x2).toNatClampNeg))) => ?_)
            · refine lv_iconst (v := 0) hx hb dX7_stand_103 (by decide) ?_
              rw [hQ]
              exact W.iret (v := 0) hx hb hr (fun t ht hW => ⟨⟨0, C_56, rfl, ⟨hT, hF, ⟨⟨hR.1.fr hF (by decide), hR.2.fr hF (by decide)⟩, (fun A hA => stM (show 0 ≤ x1 ∧ x1 < A 5 0 1 by rw [← (show gi (C 0) 11 = A 5 0 1 from hA.1 1 (by decide))]; exact u_10.2) (rg_w (lo := 0) (hi := 2) (rn_eq c_15 (rg_c (v := 0) (lo := 0) (hi := 0) (by decide))) (by decide)) (fun h8 => c_40 (Eq.trans (show ga (C (48 + (x1).toNatClampNeg)) ((1 : Int32)).toNatClampNeg = A 1 x1.toNatClampNeg 1 from hA.2.2 1 (by decide) x1.toNatClampNeg (by rw [oh_nat (rg_w (lo := 0) (hi := 15) u_10.1 (by decide)) (by decide)]; exact Int32.lt_iff_toInt_lt.mp (show 0 ≤ x1 ∧ x1 < A 5 0 1 by rw [← (show gi (C 0) 11 = A 5 0 1 from hA.1 1 (by decide))]; exact u_10.2).2) 1 (by decide) (by unfold vis; omega)) h8.2)) (absM_st (t := 1) hT0 hA (by decide) (show x1.toNatClampNeg < 16 from vp_lt (rg_in u_10.1 (by decide))) e_57) (b01_1 c_46))⟩⟩, ⟨by rw [ht]; exact hP, hD⟩⟩, hS.F ht⟩) hS.2.2 dX7_stand_104
            · refine lv_iconst (v := 1) hx hb dX7_stand_99 (by decide) ?_
              refine lv_goto (tgt := 104) hx hb dX7_stand_100 (by decide) ?_
              rw [hQ]
              exact W.iret (v := 1) hx hb hr (fun t ht hW => ⟨⟨1, C_56, rfl, ⟨hT, hF, ⟨⟨hR.1.fr hF (by decide), hR.2.fr hF (by decide)⟩, (fun A hA => stM (show 0 ≤ x1 ∧ x1 < A 5 0 1 by rw [← (show gi (C 0) 11 = A 5 0 1 from hA.1 1 (by decide))]; exact u_10.2) (rg_w (lo := 0) (hi := 2) (rn_eq c_15 (rg_c (v := 0) (lo := 0) (hi := 0) (by decide))) (by decide)) (fun h8 => c_40 (Eq.trans (show ga (C (48 + (x1).toNatClampNeg)) ((1 : Int32)).toNatClampNeg = A 1 x1.toNatClampNeg 1 from hA.2.2 1 (by decide) x1.toNatClampNeg (by rw [oh_nat (rg_w (lo := 0) (hi := 15) u_10.1 (by decide)) (by decide)]; exact Int32.lt_iff_toInt_lt.mp (show 0 ≤ x1 ∧ x1 < A 5 0 1 by rw [← (show gi (C 0) 11 = A 5 0 1 from hA.1 1 (by decide))]; exact u_10.2).2) 1 (by decide) (by unfold vis; omega)) h8.2)) (absM_st (t := 1) hT0 hA (by decide) (show x1.toNatClampNeg < 16 from vp_lt (rg_in u_10.1 (by decide))) e_57) (b01_1 c_46))⟩⟩, ⟨by rw [ht]; exact hP, hD⟩⟩, hS.F ht⟩) hS.2.2 dX7_stand_104
        · refine lv_aload_n hx hb dX7_stand_43 rfl (lv_at hl 0 rfl) ?_
          refine lv_bipush (v := (-5)) hx hb dX7_stand_44 (by decide) ?_
          refine tm_V (As := [.int (-5)]) (rest := []) ⟨hx, hb, hml, hown, htg⟩ (c_X7_refuse l D E G _ a C n hn hT ((-5) : Int32) (rg_w (rg_c (v := (-5)) (lo := (-5)) (hi := (-5)) (by decide)) (by decide))) (cwV 1 htg (oh_gV q_1071 q_1073 q_29 q_73 q_1074) rfl rfl rfl pdVX7_refuse ⟨Nat.le_of_ble_eq_true rfl, Nat.le_of_ble_eq_true rfl⟩) hK hP hD hG hS hA (va_recv hK hP (ci := 7) (q0 := 0) rfl (oh_wg (Nat.lt_of_lt_of_le (by decide) hn) (sM_0 hT))) rfl hl.1 rfl (Nat.le_of_ble_eq_true rfl) dX7_stand_46 ⟨Nat.le_of_ble_eq_true rfl, Nat.le_of_ble_eq_true rfl⟩ (fun r_63 C_64 H locs hq_65 hP hD hS => ?_)
          obtain ⟨hT, f_66, hq_65⟩ := hq_65
          have hF := fr_tr hF f_66 (by decide) (by decide)
          refine W.widen (k := 0) (n := 0) (Nat.le_refl _) (Nat.le_refl _) ?_
          have t_67 := hT
          rw [hQ]
          exact W.iret (v := r_63) hx hb hr (fun t ht hW => ⟨⟨r_63, C_64, rfl, ⟨hT, hF, ⟨⟨hR.1.fr hF (by decide), hR.2.fr hF (by decide)⟩, (fun A hA => by rw [stX_0 (fun h8 => h8.2.2 ⟨c_15, Eq.trans (show ga (C (48 + (x1).toNatClampNeg)) ((1 : Int32)).toNatClampNeg = A 1 x1.toNatClampNeg 1 from hA.2.2 1 (by decide) x1.toNatClampNeg (by rw [oh_nat (rg_w (lo := 0) (hi := 15) u_10.1 (by decide)) (by decide)]; exact Int32.lt_iff_toInt_lt.mp (show 0 ≤ x1 ∧ x1 < A 5 0 1 by rw [← (show gi (C 0) 11 = A 5 0 1 from hA.1 1 (by decide))]; exact u_10.2).2) 1 (by decide) (by unfold vis; omega)).symm c_40⟩)]; exact (absM_fr hA hT0 (show fr [(8, 9)] [] C C_64 from (fr_tr fr_rf f_66 (by decide) (by decide))) (by decide) (by decide) (by decide)))⟩⟩, ⟨by rw [ht]; exact hP, hD⟩⟩, hS.F ht⟩) hS.2.2 dX7_stand_49
    · have u_68 := hq_12.2.2 c_13
      refine lv_aload_n hx hb dX7_stand_20 rfl (lv_at hl 0 rfl) ?_
      refine lv_bipush (v := (-2)) hx hb dX7_stand_21 (by decide) ?_
      refine tm_V (As := [.int (-2)]) (rest := []) ⟨hx, hb, hml, hown, htg⟩ (c_X7_refuse l D E G _ a C n hn hT ((-2) : Int32) (rg_w (rg_c (v := (-2)) (lo := (-2)) (hi := (-2)) (by decide)) (by decide))) (cwV 1 htg (oh_gV q_1071 q_1073 q_29 q_73 q_1074) rfl rfl rfl pdVX7_refuse ⟨Nat.le_of_ble_eq_true rfl, Nat.le_of_ble_eq_true rfl⟩) hK hP hD hG hS hA (va_recv hK hP (ci := 7) (q0 := 0) rfl (oh_wg (Nat.lt_of_lt_of_le (by decide) hn) (sM_0 hT))) rfl hl.1 rfl (Nat.le_of_ble_eq_true rfl) dX7_stand_23 ⟨Nat.le_of_ble_eq_true rfl, Nat.le_of_ble_eq_true rfl⟩ (fun r_69 C_70 H locs hq_71 hP hD hS => ?_)
      obtain ⟨hT, f_72, hq_71⟩ := hq_71
      have hF := fr_tr hF f_72 (by decide) (by decide)
      refine W.widen (k := 0) (n := 0) (Nat.le_refl _) (Nat.le_refl _) ?_
      have t_73 := hT
      rw [hQ]
      exact W.iret (v := r_69) hx hb hr (fun t ht hW => ⟨⟨r_69, C_70, rfl, ⟨hT, hF, ⟨⟨hR.1.fr hF (by decide), hR.2.fr hF (by decide)⟩, (fun A hA => by rw [stX_0 (fun h8 => (oh_in64 (l' := 0) (k' := 2) rfl rfl u_68) h8.2.1)]; exact (absM_fr hA hT0 (show fr [(8, 9)] [] C C_70 from (fr_tr fr_rf f_72 (by decide) (by decide))) (by decide) (by decide) (by decide)))⟩⟩, ⟨by rw [ht]; exact hP, hD⟩⟩, hS.F ht⟩) hS.2.2 dX7_stand_26

set_option maxHeartbeats 4000000 in
set_option maxRecDepth 100000 in
theorem e_X7_shut (l : Launch) (D : va_G) (E : Nat → ClassId) (G : Nat → Nat) (sz : Nat) (a : Nat → Nat) (C : Nat → va_E) (n : Nat) (hn : 74 ≤ n) (hT : TyM a E C) (x1 : Int32) (x2 : Int32) (hx2 : rg x2 0 1) (hR : RelM C) : Met l yX7_shut (oh_w yX7_shut cX7_shut 4 (some .int)) ({ frames := 2, cells := 0, slots := 0, locals := 46 }) (oh_Pm D E G [.ref (a 0), .int x1, .int x2] (oh_W n a C) sz) (va_Qi (fun r (u : Nat → va_E) => TyM a E u ∧ fr [(8, 9), (24, 48)] [] C u ∧ (RelM u) ∧ (∀ A : LA, absM C A → r = (spShut A x1 x2).1 ∧ absM u (spShut A x1 x2).2)) (oh_B D (va_A (oh_W n a C) sz) (fun u => oh_W n a u)) (va_A (oh_W n a C) sz)) 0 0 (va_A (oh_W n a C) sz) := by
  refine Met.ofW (cc := cX7_shut) (maxL := 4) (ret := (some .int)) (by decide) rfl ?_
  intro p e s m args below meth c s₁ B hml hv
  obtain ⟨rfl, hsz, hP, hK, hD0, hG⟩ := hv
  have hx := B.exec
  have hb := B.bytes
  have hr := B.returns
  have hts := atoms_spec (ws := (oh_w yX7_shut cX7_shut 4 (some .int))) B.pre
  have htg : ∀ w ∈ oh_t, w.before _ s = true := fun w h => hts w (List.mem_cons_of_mem _ h)
  have hown : s.vm.findClass RX7 = some m.cls := findClass_of_methodNamed B.named
  have hlocks := B.notSynchronized
  have hT0 := hT
  subst hsz
  have hD := hD0.self (sz := s.heap.size)
  generalize hAe : va_A (oh_W n a C) s.heap.size = A at hD hG ⊢
  have hA : ∀ q : Nat, s.heap.size ≤ q → A q := fun q h => by rw [← hAe]; exact Or.inr h
  have hS : va_S A s.heap s.heap [] := va_S.rf
  have hF : fr [(8, 9), (24, 48)] [] C C := fr_rf
  have hl := lv_entry ([.ref (a 0), .int x1, .int x2]) (n := 4) (Nat.le_of_ble_eq_true rfl)
  rw [lg_entry_eq]
  generalize (lg_sl ([.ref (a 0), .int x1, .int x2]) ++ List.replicate (4 - (lg_sl ([.ref (a 0), .int x1, .int x2])).length) Slot.unset).toArray = ls at hl ⊢
  have hl : lv_has ls 4 [(0, .ref (a 0)), (1, .int x1), (2, .int x2)] := hl
  refine oh_genQ (fun Q hQ => ?_)
  refine lv_aload_n hx hb dX7_shut_0 rfl (lv_at hl 0 rfl) ?_
  refine lv_iload_n hx hb dX7_shut_1 rfl (lv_at hl 1 rfl) ?_
  refine tq_V (As := [.int x1]) (rest := []) (ws := (oh_W n a C)) ⟨hx, hb, hml, hown, htg⟩ (e_X7_isRoad l D E G a C n hn hT x1) (cwV 1 htg (oh_gV q_1145 q_1147 q_36 q_73 q_1148) rfl rfl rfl pdVX7_isRoad ⟨Nat.le_of_ble_eq_true rfl, Nat.le_of_ble_eq_true rfl⟩) hK hP hG hS (va_recv hK hP (ci := 7) (q0 := 0) rfl (oh_wg (Nat.lt_of_lt_of_le (by decide) hn) (sM_0 hT))) rfl hl.1 rfl (Nat.le_of_ble_eq_true rfl) dX7_shut_2 ⟨Nat.le_of_ble_eq_true rfl, Nat.le_of_ble_eq_true rfl⟩ (fun r_1 hq_2 => ?_)
  refine lv_if_ne (tgt := 15) hx hb dX7_shut_5 (by decide) (fun (c_3 : ¬ (r_1 = 0)) => ?_) (fun (c_3 : r_1 = 0) => ?_)
  · have u_4 := hq_2.2.1 c_3
    refine lv_aload_n hx hb dX7_shut_15 rfl (lv_at hl 0 rfl) ?_
    refine va_get (D := D) (ci := 7) (v := .ref (a 9)) (C := RX7) (T := TX7) (N := 29) hx hb htg ig_7 hown hK hP 0 (oh_wg (Nat.lt_of_lt_of_le (by decide) hn) (sM_0 hT)) rfl 10 (by decide) (htg _ q_983) (fun _ h9 => h9) rfl dX7_shut_16 ?_
    refine lv_iload_n hx hb dX7_shut_19 rfl (lv_at hl 1 rfl) ?_
    have n_5 : vp_in x1 24 := (rg_in u_4.1 (by decide))
    have b_6 : (x1).toNatClampNeg < 24 := vp_lt n_5
    refine th_aald hx hb hK hP 9 2 (Nat.lt_of_lt_of_le (by decide) hn) (sM_9 hT) rfl n_5 dX7_shut_20 ?_
    refine lv_bipush (v := 6) hx hb dX7_shut_21 (by decide) ?_
    refine th_iald hx hb hK hP (24 + (x1).toNatClampNeg) (lt_blk b_6 hn (by decide)) (hT.broad b_6).1 (rg_in (rg_c (v := 6) (lo := 6) (hi := 6) (by decide)) (by decide)) dX7_shut_23 ?_
    refine lv_istore_n (lv' := [(3, .int (ga (C (24 + (x1).toNatClampNeg)) ((6 : Int32)).toNatClampNeg)), (0, .ref (a 0)), (1, .int x1), (2, .int x2)]) hx hb dX7_shut_24 rfl hl (by decide) rfl (fun ls hl => ?_)
    refine lv_aload_n hx hb dX7_shut_25 rfl (lv_at hl 1 rfl) ?_
    refine va_get (D := D) (ci := 7) (v := .ref (a 9)) (C := RX7) (T := TX7) (N := 29) hx hb htg ig_7 hown hK hP 0 (oh_wg (Nat.lt_of_lt_of_le (by decide) hn) (sM_0 hT)) rfl 10 (by decide) (htg _ q_983) (fun _ h9 => h9) rfl dX7_shut_26 ?_
    refine lv_iload_n hx hb dX7_shut_29 rfl (lv_at hl 2 rfl) ?_
    have n_7 : vp_in x1 24 := (rg_in u_4.1 (by decide))
    have b_8 : (x1).toNatClampNeg < 24 := vp_lt n_7
    refine th_aald hx hb hK hP 9 2 (Nat.lt_of_lt_of_le (by decide) hn) (sM_9 hT) rfl n_7 dX7_shut_30 ?_
    refine lv_bipush (v := 6) hx hb dX7_shut_31 (by decide) ?_
    refine lv_iload_n hx hb dX7_shut_33 rfl (lv_at hl 3 rfl) ?_
    refine lv_if_eq (tgt := 41) hx hb dX7_shut_34 (by decide) (fun (c_9 : x2 = 0) => ?_) (fun (c_9 : ¬ (x2 = 0)) => ?_)
    · refine lv_iconst (v := 0) hx hb dX7_shut_41 (by decide) ?_
      refine th_iast (T := TyM a E) (Rl := fr [(8, 9), (24, 48)] [] C) hx hb hK hP hD hS (24 + (x1).toNatClampNeg) (lt_blk b_8 hn (by decide)) (hT.broad b_8).1 (rg_in (rg_c (v := 6) (lo := 6) (hi := 6) (by decide)) (by decide)) (hT.uproad b_8 (tA_upd (hT.broad b_8) (tA_stc (show _ = 6 by decide) (rg_c (v := 0) (lo := 0) (hi := 0) (by decide)) (by decide)))) (fr_st hF (by omega) (inR_of (p := (24, 48)) (by decide) (by show 24 ≤ _; omega) (by show _ < 48; omega))) dX7_shut_42 (fun C_10 H locs e_11 hT hF hP hD hS => ?_)
      have t_12 := hT
      refine lv_iload_n hx hb dX7_shut_43 rfl (lv_at hl 0 rfl) ?_
      refine lv_aload_n hx hb dX7_shut_44 rfl (lv_at hl 1 rfl) ?_
      refine va_get (D := D) (ci := 7) (v := .ref (a 9)) (C := RX7) (T := TX7) (N := 29) hx hb htg ig_7 hown hK hP 0 (oh_wg (Nat.lt_of_lt_of_le (by decide) hn) (sM_0 hT)) rfl 10 (by decide) (htg _ q_983) (fun _ h9 => h9) rfl dX7_shut_45 ?_
      refine lv_iload_n hx hb dX7_shut_48 rfl (lv_at hl 2 rfl) ?_
      have n_13 : vp_in x1 24 := (rg_in u_4.1 (by decide))
      have b_14 : (x1).toNatClampNeg < 24 := vp_lt n_13
      refine th_aald hx hb hK hP 9 2 (Nat.lt_of_lt_of_le (by decide) hn) (sM_9 hT) rfl n_13 dX7_shut_49 ?_
      refine lv_bipush (v := 6) hx hb dX7_shut_50 (by decide) ?_
      refine th_iald hx hb hK hP (24 + (x1).toNatClampNeg) (lt_blk b_14 hn (by decide)) (hT.broad b_14).1 (rg_in (rg_c (v := 6) (lo := 6) (hi := 6) (by decide)) (by decide)) dX7_shut_52 ?_
      refine lv_icmp_eq (tgt := 60) hx hb dX7_shut_53 (by decide) (fun (c_15 : (ga (C (24 + (x1).toNatClampNeg)) ((6 : Int32)).toNatClampNeg) = (ga (C_10 (24 + (x1).toNatClampNeg)) ((6 : Int32)).toNatClampNeg)) => ?_) (fun (c_15 : ¬ ((ga (C (24 + (x1).toNatClampNeg)) ((6 : Int32)).toNatClampNeg) = (ga (C_10 (24 + (x1).toNatClampNeg)) ((6 : Int32)).toNatClampNeg))) => ?_)
      · refine lv_iconst (v := 0) hx hb dX7_shut_60 (by decide) ?_
        rw [hQ]
        exact W.iret (v := 0) hx hb hr (fun t ht hW => ⟨⟨0, C_10, rfl, ⟨hT, hF, ⟨⟨hR.1.fr hF (by decide), hR.2.fr hF (by decide)⟩, (fun A hA => pr_b (P := fun z => absM C_10 z) (pif_pos (show 0 ≤ x1 ∧ x1 < A 5 0 0 by rw [← (show gi (C 0) 9 = A 5 0 0 from hA.1 0 (by decide))]; exact u_4.2)) (pif_pos (Eq.trans (show ga (C (24 + (x1).toNatClampNeg)) ((6 : Int32)).toNatClampNeg = A 0 x1.toNatClampNeg 6 from hA.2.2 0 (by decide) x1.toNatClampNeg (by rw [oh_nat (rg_w (lo := 0) (hi := 23) u_4.1 (by decide)) (by decide)]; exact Int32.lt_iff_toInt_lt.mp (show 0 ≤ x1 ∧ x1 < A 5 0 0 by rw [← (show gi (C 0) 9 = A 5 0 0 from hA.1 0 (by decide))]; exact u_4.2).2) 6 (by decide) (by unfold vis; omega)).symm (Eq.trans c_15 (show ga (C_10 (24 + (x1).toNatClampNeg)) ((6 : Int32)).toNatClampNeg = b01 x2 from Eq.trans (by rw [st_ga e_11]; exact pk_us) (b01_0 c_9))))).symm (show absM C_10 (putA A 0 x1.toNatClampNeg 6 (b01 x2)) from ((b01_0 c_9) : _ = b01 x2) ▸ absM_st (t := 0) hT0 hA (by decide) (show x1.toNatClampNeg < 24 from vp_lt (rg_in u_4.1 (by decide))) e_11))⟩⟩, ⟨by rw [ht]; exact hP, hD⟩⟩, hS.F ht⟩) hS.2.2 dX7_shut_61
      · refine lv_iconst (v := 1) hx hb dX7_shut_56 (by decide) ?_
        refine lv_goto (tgt := 61) hx hb dX7_shut_57 (by decide) ?_
        rw [hQ]
        exact W.iret (v := 1) hx hb hr (fun t ht hW => ⟨⟨1, C_10, rfl, ⟨hT, hF, ⟨⟨hR.1.fr hF (by decide), hR.2.fr hF (by decide)⟩, (fun A hA => pr_b (P := fun z => absM C_10 z) (pif_pos (show 0 ≤ x1 ∧ x1 < A 5 0 0 by rw [← (show gi (C 0) 9 = A 5 0 0 from hA.1 0 (by decide))]; exact u_4.2)) (pif_neg (fun h8 => c_15 (Eq.trans (show ga (C (24 + (x1).toNatClampNeg)) ((6 : Int32)).toNatClampNeg = A 0 x1.toNatClampNeg 6 from hA.2.2 0 (by decide) x1.toNatClampNeg (by rw [oh_nat (rg_w (lo := 0) (hi := 23) u_4.1 (by decide)) (by decide)]; exact Int32.lt_iff_toInt_lt.mp (show 0 ≤ x1 ∧ x1 < A 5 0 0 by rw [← (show gi (C 0) 9 = A 5 0 0 from hA.1 0 (by decide))]; exact u_4.2).2) 6 (by decide) (by unfold vis; omega)) (Eq.trans h8 (show ga (C_10 (24 + (x1).toNatClampNeg)) ((6 : Int32)).toNatClampNeg = b01 x2 from Eq.trans (by rw [st_ga e_11]; exact pk_us) (b01_0 c_9)).symm)))).symm (show absM C_10 (putA A 0 x1.toNatClampNeg 6 (b01 x2)) from ((b01_0 c_9) : _ = b01 x2) ▸ absM_st (t := 0) hT0 hA (by decide) (show x1.toNatClampNeg < 24 from vp_lt (rg_in u_4.1 (by decide))) e_11))⟩⟩, ⟨by rw [ht]; exact hP, hD⟩⟩, hS.F ht⟩) hS.2.2 dX7_shut_61
    · refine lv_iconst (v := 1) hx hb dX7_shut_37 (by decide) ?_
      refine lv_goto (tgt := 42) hx hb dX7_shut_38 (by decide) ?_
      refine th_iast (T := TyM a E) (Rl := fr [(8, 9), (24, 48)] [] C) hx hb hK hP hD hS (24 + (x1).toNatClampNeg) (lt_blk b_8 hn (by decide)) (hT.broad b_8).1 (rg_in (rg_c (v := 6) (lo := 6) (hi := 6) (by decide)) (by decide)) (hT.uproad b_8 (tA_upd (hT.broad b_8) (tA_stc (show _ = 6 by decide) (rg_c (v := 1) (lo := 1) (hi := 1) (by decide)) (by decide)))) (fr_st hF (by omega) (inR_of (p := (24, 48)) (by decide) (by show 24 ≤ _; omega) (by show _ < 48; omega))) dX7_shut_42 (fun C_16 H locs e_17 hT hF hP hD hS => ?_)
      have t_18 := hT
      refine lv_iload_n hx hb dX7_shut_43 rfl (lv_at hl 0 rfl) ?_
      refine lv_aload_n hx hb dX7_shut_44 rfl (lv_at hl 1 rfl) ?_
      refine va_get (D := D) (ci := 7) (v := .ref (a 9)) (C := RX7) (T := TX7) (N := 29) hx hb htg ig_7 hown hK hP 0 (oh_wg (Nat.lt_of_lt_of_le (by decide) hn) (sM_0 hT)) rfl 10 (by decide) (htg _ q_983) (fun _ h9 => h9) rfl dX7_shut_45 ?_
      refine lv_iload_n hx hb dX7_shut_48 rfl (lv_at hl 2 rfl) ?_
      have n_19 : vp_in x1 24 := (rg_in u_4.1 (by decide))
      have b_20 : (x1).toNatClampNeg < 24 := vp_lt n_19
      refine th_aald hx hb hK hP 9 2 (Nat.lt_of_lt_of_le (by decide) hn) (sM_9 hT) rfl n_19 dX7_shut_49 ?_
      refine lv_bipush (v := 6) hx hb dX7_shut_50 (by decide) ?_
      refine th_iald hx hb hK hP (24 + (x1).toNatClampNeg) (lt_blk b_20 hn (by decide)) (hT.broad b_20).1 (rg_in (rg_c (v := 6) (lo := 6) (hi := 6) (by decide)) (by decide)) dX7_shut_52 ?_
      refine lv_icmp_eq (tgt := 60) hx hb dX7_shut_53 (by decide) (fun (c_21 : (ga (C (24 + (x1).toNatClampNeg)) ((6 : Int32)).toNatClampNeg) = (ga (C_16 (24 + (x1).toNatClampNeg)) ((6 : Int32)).toNatClampNeg)) => ?_) (fun (c_21 : ¬ ((ga (C (24 + (x1).toNatClampNeg)) ((6 : Int32)).toNatClampNeg) = (ga (C_16 (24 + (x1).toNatClampNeg)) ((6 : Int32)).toNatClampNeg))) => ?_)
      · refine lv_iconst (v := 0) hx hb dX7_shut_60 (by decide) ?_
        rw [hQ]
        exact W.iret (v := 0) hx hb hr (fun t ht hW => ⟨⟨0, C_16, rfl, ⟨hT, hF, ⟨⟨hR.1.fr hF (by decide), hR.2.fr hF (by decide)⟩, (fun A hA => pr_b (P := fun z => absM C_16 z) (pif_pos (show 0 ≤ x1 ∧ x1 < A 5 0 0 by rw [← (show gi (C 0) 9 = A 5 0 0 from hA.1 0 (by decide))]; exact u_4.2)) (pif_pos (Eq.trans (show ga (C (24 + (x1).toNatClampNeg)) ((6 : Int32)).toNatClampNeg = A 0 x1.toNatClampNeg 6 from hA.2.2 0 (by decide) x1.toNatClampNeg (by rw [oh_nat (rg_w (lo := 0) (hi := 23) u_4.1 (by decide)) (by decide)]; exact Int32.lt_iff_toInt_lt.mp (show 0 ≤ x1 ∧ x1 < A 5 0 0 by rw [← (show gi (C 0) 9 = A 5 0 0 from hA.1 0 (by decide))]; exact u_4.2).2) 6 (by decide) (by unfold vis; omega)).symm (Eq.trans c_21 (show ga (C_16 (24 + (x1).toNatClampNeg)) ((6 : Int32)).toNatClampNeg = b01 x2 from Eq.trans (by rw [st_ga e_17]; exact pk_us) (b01_1 c_9))))).symm (show absM C_16 (putA A 0 x1.toNatClampNeg 6 (b01 x2)) from ((b01_1 c_9) : _ = b01 x2) ▸ absM_st (t := 0) hT0 hA (by decide) (show x1.toNatClampNeg < 24 from vp_lt (rg_in u_4.1 (by decide))) e_17))⟩⟩, ⟨by rw [ht]; exact hP, hD⟩⟩, hS.F ht⟩) hS.2.2 dX7_shut_61
      · refine lv_iconst (v := 1) hx hb dX7_shut_56 (by decide) ?_
        refine lv_goto (tgt := 61) hx hb dX7_shut_57 (by decide) ?_
        rw [hQ]
        exact W.iret (v := 1) hx hb hr (fun t ht hW => ⟨⟨1, C_16, rfl, ⟨hT, hF, ⟨⟨hR.1.fr hF (by decide), hR.2.fr hF (by decide)⟩, (fun A hA => pr_b (P := fun z => absM C_16 z) (pif_pos (show 0 ≤ x1 ∧ x1 < A 5 0 0 by rw [← (show gi (C 0) 9 = A 5 0 0 from hA.1 0 (by decide))]; exact u_4.2)) (pif_neg (fun h8 => c_21 (Eq.trans (show ga (C (24 + (x1).toNatClampNeg)) ((6 : Int32)).toNatClampNeg = A 0 x1.toNatClampNeg 6 from hA.2.2 0 (by decide) x1.toNatClampNeg (by rw [oh_nat (rg_w (lo := 0) (hi := 23) u_4.1 (by decide)) (by decide)]; exact Int32.lt_iff_toInt_lt.mp (show 0 ≤ x1 ∧ x1 < A 5 0 0 by rw [← (show gi (C 0) 9 = A 5 0 0 from hA.1 0 (by decide))]; exact u_4.2).2) 6 (by decide) (by unfold vis; omega)) (Eq.trans h8 (show ga (C_16 (24 + (x1).toNatClampNeg)) ((6 : Int32)).toNatClampNeg = b01 x2 from Eq.trans (by rw [st_ga e_17]; exact pk_us) (b01_1 c_9)).symm)))).symm (show absM C_16 (putA A 0 x1.toNatClampNeg 6 (b01 x2)) from ((b01_1 c_9) : _ = b01 x2) ▸ absM_st (t := 0) hT0 hA (by decide) (show x1.toNatClampNeg < 24 from vp_lt (rg_in u_4.1 (by decide))) e_17))⟩⟩, ⟨by rw [ht]; exact hP, hD⟩⟩, hS.F ht⟩) hS.2.2 dX7_shut_61
  · have u_22 := hq_2.2.2 c_3
    refine lv_aload_n hx hb dX7_shut_8 rfl (lv_at hl 0 rfl) ?_
    refine lv_bipush (v := (-2)) hx hb dX7_shut_9 (by decide) ?_
    refine tm_V (As := [.int (-2)]) (rest := []) ⟨hx, hb, hml, hown, htg⟩ (c_X7_refuse l D E G _ a C n hn hT ((-2) : Int32) (rg_w (rg_c (v := (-2)) (lo := (-2)) (hi := (-2)) (by decide)) (by decide))) (cwV 1 htg (oh_gV q_1071 q_1073 q_29 q_73 q_1074) rfl rfl rfl pdVX7_refuse ⟨Nat.le_of_ble_eq_true rfl, Nat.le_of_ble_eq_true rfl⟩) hK hP hD hG hS hA (va_recv hK hP (ci := 7) (q0 := 0) rfl (oh_wg (Nat.lt_of_lt_of_le (by decide) hn) (sM_0 hT))) rfl hl.1 rfl (Nat.le_of_ble_eq_true rfl) dX7_shut_11 ⟨Nat.le_of_ble_eq_true rfl, Nat.le_of_ble_eq_true rfl⟩ (fun r_23 C_24 H locs hq_25 hP hD hS => ?_)
    obtain ⟨hT, f_26, hq_25⟩ := hq_25
    have hF := fr_tr hF f_26 (by decide) (by decide)
    refine W.widen (k := 0) (n := 0) (Nat.le_refl _) (Nat.le_refl _) ?_
    have t_27 := hT
    rw [hQ]
    exact W.iret (v := r_23) hx hb hr (fun t ht hW => ⟨⟨r_23, C_24, rfl, ⟨hT, hF, ⟨⟨hR.1.fr hF (by decide), hR.2.fr hF (by decide)⟩, (fun A hA => pr_b (P := fun z => absM C_24 z) (pif_neg (by rw [← (show gi (C 0) 9 = A 5 0 0 from hA.1 0 (by decide))]; exact u_22)) hq_25 (absM_fr hA hT0 (show fr [(8, 9)] [] C C_24 from (fr_tr fr_rf f_26 (by decide) (by decide))) (by decide) (by decide) (by decide)))⟩⟩, ⟨by rw [ht]; exact hP, hD⟩⟩, hS.F ht⟩) hS.2.2 dX7_shut_14
