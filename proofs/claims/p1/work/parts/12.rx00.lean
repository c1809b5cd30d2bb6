theorem oh_ix40 {v : Int32} {j N : Nat} (hs : vp_in v 8) (hj : j < N) (hN : N ≤ 40) : vp_in (v * 40 + nI j) 320 := by
  obtain ⟨S, hS, rfl⟩ := vp_in_of hs (by decide)
  have e : nI S * 40 + nI j = nI (S * 40 + j) := by
    rw [← nI_add, ← pk_mul]; rfl
  rw [e]
  exact vp_in_nI (by omega) (by decide)
theorem oh_n40 {v k : Int32} {n : Nat} (h : ¬ fX6_within v 0 k = 0) (hk : k.toInt = n) : ∃ N : Nat, N ≤ n ∧ v = nI N := by
  unfold fX6_within at h
  by_cases h1 : v < 0
  · exact absurd (if_pos h1) h
  · rw [if_neg h1] at h
    by_cases h2 : k < v
    · exact absurd (if_pos h2) h
    · exact nI_of2 hk h1 (by rw [Int32.le_iff_toInt_le]; rw [Int32.lt_iff_toInt_lt] at h2; omega)
set_option maxHeartbeats 4000000 in
set_option maxRecDepth 100000 in
theorem lp_X3_putRow {p : Program} {l : Launch} {e : Env} {R : Room} {s : State} {m : MethodId} {args : Array Value} {below : List Frame} {meth : Method} {c : Code} {cells slots : Nat} {Q : State → Prop} {D : va_G} {E : Nat → ClassId} {A : Nat → Prop} (hx : p.tables.exec = Jvm.exec) (hb : c.code = cX3_putRow) (htg : ∀ w ∈ oh_t, w.before args s = true) (hown : s.vm.findClass RX3 = some m.cls) (hK : va_K D vwCl (oh_ty E) s) (a0 : Nat) (a0_held : Nat) (a0_size : Nat) (a0_cells : Nat) (v_s : Int32) (v_t : Int32) (v_n : Int32) (N : Nat) (fh : Nat → Int32) (fs : Nat → Int32) (hs : vp_in v_s 8) (hN : N ≤ 40) (hn : v_n = nI N) (kk : ∀ (H : Heap) (locs : List Loc) (ls : Array Slot) (g : Nat → Int64), va_P D vwCl [(a0, .inr (3, [.ref a0_held, .ref a0_size, .ref a0_cells])), (a0_held, .inl (E 0, 8, .inl fh)), (a0_size, .inl (E 0, 8, .inl fs)), (a0_cells, .inl (E 1, 320, .inr (.inl g)))] H → va_D A [(a0, .inr (3, [.ref a0_held, .ref a0_size, .ref a0_cells])), (a0_held, .inl (E 0, 8, .inl fh)), (a0_size, .inl (E 0, 8, .inl fs)), (a0_cells, .inl (E 1, 320, .inr (.inl g)))] → va_S A s.heap H locs → lv_has ls 5 [(4, .int (nI N)), (0, .ref a0), (1, .int v_s), (2, .int v_t), (3, .int v_n)] → W p l e R s m args below meth c H locs cells slots Q (F0 m 42 ls [])) :
    ∀ (k j : Nat) (g : Nat → Int64) (H : Heap) (locs : List Loc) (ls : Array Slot), j + k = N → va_P D vwCl [(a0, .inr (3, [.ref a0_held, .ref a0_size, .ref a0_cells])), (a0_held, .inl (E 0, 8, .inl fh)), (a0_size, .inl (E 0, 8, .inl fs)), (a0_cells, .inl (E 1, 320, .inr (.inl g)))] H → va_D A [(a0, .inr (3, [.ref a0_held, .ref a0_size, .ref a0_cells])), (a0_held, .inl (E 0, 8, .inl fh)), (a0_size, .inl (E 0, 8, .inl fs)), (a0_cells, .inl (E 1, 320, .inr (.inl g)))] → va_S A s.heap H locs → lv_has ls 5 [(4, .int (nI j)), (0, .ref a0), (1, .int v_s), (2, .int v_t), (3, .int v_n)] → W p l e R s m args below meth c H locs cells slots Q (F0 m 17 ls []) := by
  intro k
  induction k with
  | zero =>
    intro j g H locs ls hjk hP hD hS hl
    have hjN : j = N := by omega
    refine lv_iload hx hb dX3_putRow_17 (lv_at hl 0 rfl) ?_
    refine lv_iload_n hx hb dX3_putRow_19 rfl (lv_at hl 4 rfl) ?_
    refine lv_icmp_ge (tgt := 42) hx hb dX3_putRow_20 (by decide) (fun _ => ?_) (fun c => absurd (show v_n ≤ (nI j) from by rw [hn]; exact nI_le (by omega) (by omega)) c)
    exact kk H locs ls g hP hD hS (by rw [← hjN]; exact lv_sub hl [0, 1, 2, 3, 4] rfl)
  | succ k ih =>
    intro j g H locs ls hjk hP hD hS hl
    have hjN : j < N := by omega
    refine lv_iload hx hb dX3_putRow_17 (lv_at hl 0 rfl) ?_
    refine lv_iload_n hx hb dX3_putRow_19 rfl (lv_at hl 4 rfl) ?_
    refine lv_icmp_ge (tgt := 42) hx hb dX3_putRow_20 (by decide) (fun c => absurd c (show ¬ (v_n ≤ (nI j)) from by rw [hn]; exact nI_ge (by omega) (by omega))) (fun _ => ?_)
    refine lv_aload_n hx hb dX3_putRow_23 rfl (lv_at hl 1 rfl) ?_
    refine va_get (D := D) (ci := 3) (v := .ref a0_cells) (C := RX3) (T := TX3) (N := 3) hx hb htg ig_3 hown hK hP 0 rfl rfl 2 (by decide) (htg _ q_202) (fun _ h9 => h9) rfl dX3_putRow_24 ?_
    refine lv_iload_n hx hb dX3_putRow_27 rfl (lv_at hl 2 rfl) ?_
    refine lv_bipush (v := 40) hx hb dX3_putRow_28 (by decide) ?_
    refine lv_imul hx hb dX3_putRow_30 ?_
    refine lv_iload hx hb dX3_putRow_31 (lv_at hl 0 rfl) ?_
    refine lv_iadd hx hb dX3_putRow_33 ?_
    refine lv_lconst (v := 0) hx hb dX3_putRow_34 (by decide) ?_
    refine va_last hx hb hK hP hD hS 3 1 rfl rfl (oh_ix40 hs hjN hN) dX3_putRow_35 (fun H locs hP hD hS => ?_)
    have hP : va_P D vwCl [(a0, .inr (3, [.ref a0_held, .ref a0_size, .ref a0_cells])), (a0_held, .inl (E 0, 8, .inl fh)), (a0_size, .inl (E 0, 8, .inl fs)), (a0_cells, .inl (E 1, 320, .inr (.inl (vp_updL g (((v_s * 40) + (nI j)).toNatClampNeg) 0))))] H := hP
    have hD : va_D A [(a0, .inr (3, [.ref a0_held, .ref a0_size, .ref a0_cells])), (a0_held, .inl (E 0, 8, .inl fh)), (a0_size, .inl (E 0, 8, .inl fs)), (a0_cells, .inl (E 1, 320, .inr (.inl (vp_updL g (((v_s * 40) + (nI j)).toNatClampNeg) 0))))] := hD
    refine lv_iinc (v := nI (j + 1)) (lv' := [(4, .int (nI (j + 1))), (0, .ref a0), (1, .int v_s), (2, .int v_t), (3, .int v_n)]) hx hb dX3_putRow_36 hl (k := 0) rfl (by exact nI_1 j) (by decide) rfl (fun ls hl => ?_)
    refine lv_goto (tgt := 17) hx hb dX3_putRow_39 (by decide) ?_
    exact ih (j + 1) (vp_updL g (((v_s * 40) + (nI j)).toNatClampNeg) 0) H locs ls (by omega) hP hD hS (lv_sub hl [0, 1, 2, 3, 4] rfl)
set_option maxHeartbeats 4000000 in
set_option maxRecDepth 100000 in
theorem c_X3_putRow (l : Launch) (D : va_G) (E : Nat → ClassId) (G : Nat → Nat) (sz : Nat) (a0 : Nat) (v_s : Int32) (v_t : Int32) (v_n : Int32) (N : Nat) (a0_held : Nat) (a0_size : Nat) (a0_cells : Nat) (hs : vp_in v_s 8) (hN : N ≤ 40) (hn : v_n = nI N) : Met l yX3_putRow (oh_w yX3_putRow cX3_putRow 5 none) ({ frames := 0, cells := 0, slots := 0, locals := 0 }) (oh_Pm D E G [.ref a0, .int v_s, .int v_t, .int v_n] [(a0, .inr (3, [.ref a0_held, .ref a0_size, .ref a0_cells])), (a0_held, .inl (E 0, 8, .inl (fun _ => (-1)))), (a0_size, .inl (E 0, 8, .inl (fun _ => 0))), (a0_cells, .inl (E 1, 320, .inr (.inl (fun _ => 0))))] sz) (va_Qv (fun (_ : Unit) => True) (oh_B D (va_A [(a0, .inr (3, [.ref a0_held, .ref a0_size, .ref a0_cells])), (a0_held, .inl (E 0, 8, .inl (fun _ => (-1)))), (a0_size, .inl (E 0, 8, .inl (fun _ => 0))), (a0_cells, .inl (E 1, 320, .inr (.inl (fun _ => 0))))] sz) (fun _ => [])) (va_A [(a0, .inr (3, [.ref a0_held, .ref a0_size, .ref a0_cells])), (a0_held, .inl (E 0, 8, .inl (fun _ => (-1)))), (a0_size, .inl (E 0, 8, .inl (fun _ => 0))), (a0_cells, .inl (E 1, 320, .inr (.inl (fun _ => 0))))] sz)) 0 0 (va_A [(a0, .inr (3, [.ref a0_held, .ref a0_size, .ref a0_cells])), (a0_held, .inl (E 0, 8, .inl (fun _ => (-1)))), (a0_size, .inl (E 0, 8, .inl (fun _ => 0))), (a0_cells, .inl (E 1, 320, .inr (.inl (fun _ => 0))))] sz) := by
  refine Met.ofW (cc := cX3_putRow) (maxL := 5) (ret := none) (by decide) rfl ?_
  intro p e s m args below meth c s₁ B hml hv
  obtain ⟨rfl, hsz, hP, hK, hD0, hG⟩ := hv
  have hx := B.exec
  have hb := B.bytes
  have hr := B.returns
  have hts := atoms_spec (ws := (oh_w yX3_putRow cX3_putRow 5 none)) B.pre
  have htg : ∀ w ∈ oh_t, w.before _ s = true := fun w h => hts w (List.mem_cons_of_mem _ h)
  have hown : s.vm.findClass RX3 = some m.cls := findClass_of_methodNamed B.named
  have hlocks := B.notSynchronized
  subst hsz
  have hD := hD0.self (sz := s.heap.size)
  generalize hAe : va_A [(a0, .inr (3, [.ref a0_held, .ref a0_size, .ref a0_cells])), (a0_held, .inl (E 0, 8, .inl (fun _ => (-1)))), (a0_size, .inl (E 0, 8, .inl (fun _ => 0))), (a0_cells, .inl (E 1, 320, .inr (.inl (fun _ => 0))))] s.heap.size = A at hD hG ⊢
  have hA : ∀ q : Nat, s.heap.size ≤ q → A q := fun q h => by rw [← hAe]; exact Or.inr h
  have hS : va_S A s.heap s.heap [] := va_S.rf
  have hP : va_P D vwCl [(a0, .inr (3, [.ref a0_held, .ref a0_size, .ref a0_cells])), (a0_held, .inl (E 0, 8, .inl (fun _ => (-1)))), (a0_size, .inl (E 0, 8, .inl (fun _ => 0))), (a0_cells, .inl (E 1, 320, .inr (.inl (fun _ => 0))))] s.heap := hP
  have hl := lv_entry ([.ref a0, .int v_s, .int v_t, .int v_n]) (n := 5) (Nat.le_of_ble_eq_true rfl)
  rw [lg_entry_eq]
  generalize (lg_sl ([.ref a0, .int v_s, .int v_t, .int v_n]) ++ List.replicate (5 - (lg_sl ([.ref a0, .int v_s, .int v_t, .int v_n])).length) Slot.unset).toArray = ls at hl ⊢
  have hl : lv_has ls 5 [(0, .ref a0), (1, .int v_s), (2, .int v_t), (3, .int v_n)] := hl
  refine lv_aload_n hx hb dX3_putRow_0 rfl (lv_at hl 0 rfl) ?_
  refine va_get (D := D) (ci := 3) (v := .ref a0_held) (C := RX3) (T := TX3) (N := 3) hx hb htg ig_3 hown hK hP 0 rfl rfl 0 (by decide) (htg _ q_198) (fun _ h9 => h9) rfl dX3_putRow_1 ?_
  refine lv_iload_n hx hb dX3_putRow_4 rfl (lv_at hl 1 rfl) ?_
  refine lv_iload_n hx hb dX3_putRow_5 rfl (lv_at hl 2 rfl) ?_
  refine va_iast hx hb hK hP hD hS 1 0 rfl rfl hs dX3_putRow_6 (fun H locs hP hD hS => ?_)
  have hP : va_P D vwCl [(a0, .inr (3, [.ref a0_held, .ref a0_size, .ref a0_cells])), (a0_held, .inl (E 0, 8, .inl (upd (fun _ => (-1)) ((v_s).toNatClampNeg) v_t))), (a0_size, .inl (E 0, 8, .inl (fun _ => 0))), (a0_cells, .inl (E 1, 320, .inr (.inl (fun _ => 0))))] H := hP
  have hD : va_D A [(a0, .inr (3, [.ref a0_held, .ref a0_size, .ref a0_cells])), (a0_held, .inl (E 0, 8, .inl (upd (fun _ => (-1)) ((v_s).toNatClampNeg) v_t))), (a0_size, .inl (E 0, 8, .inl (fun _ => 0))), (a0_cells, .inl (E 1, 320, .inr (.inl (fun _ => 0))))] := hD
  refine lv_aload_n hx hb dX3_putRow_7 rfl (lv_at hl 0 rfl) ?_
  refine va_get (D := D) (ci := 3) (v := .ref a0_size) (C := RX3) (T := TX3) (N := 3) hx hb htg ig_3 hown hK hP 0 rfl rfl 1 (by decide) (htg _ q_200) (fun _ h9 => h9) rfl dX3_putRow_8 ?_
  refine lv_iload_n hx hb dX3_putRow_11 rfl (lv_at hl 1 rfl) ?_
  refine lv_iload_n hx hb dX3_putRow_12 rfl (lv_at hl 3 rfl) ?_
  refine va_iast hx hb hK hP hD hS 2 0 rfl rfl hs dX3_putRow_13 (fun H locs hP hD hS => ?_)
  have hP : va_P D vwCl [(a0, .inr (3, [.ref a0_held, .ref a0_size, .ref a0_cells])), (a0_held, .inl (E 0, 8, .inl (upd (fun _ => (-1)) ((v_s).toNatClampNeg) v_t))), (a0_size, .inl (E 0, 8, .inl (upd (fun _ => 0) ((v_s).toNatClampNeg) v_n))), (a0_cells, .inl (E 1, 320, .inr (.inl (fun _ => 0))))] H := hP
  have hD : va_D A [(a0, .inr (3, [.ref a0_held, .ref a0_size, .ref a0_cells])), (a0_held, .inl (E 0, 8, .inl (upd (fun _ => (-1)) ((v_s).toNatClampNeg) v_t))), (a0_size, .inl (E 0, 8, .inl (upd (fun _ => 0) ((v_s).toNatClampNeg) v_n))), (a0_cells, .inl (E 1, 320, .inr (.inl (fun _ => 0))))] := hD
  refine lv_iconst (v := 0) hx hb dX3_putRow_14 (by decide) ?_
  refine lv_istore (lv' := [(4, .int 0), (0, .ref a0), (1, .int v_s), (2, .int v_t), (3, .int v_n)]) hx hb dX3_putRow_15 hl (by decide) rfl (fun ls hl => ?_)
  refine lp_X3_putRow hx hb htg hown hK a0 a0_held a0_size a0_cells v_s v_t v_n N (upd (fun _ => (-1)) ((v_s).toNatClampNeg) v_t) (upd (fun _ => 0) ((v_s).toNatClampNeg) v_n) hs hN hn (fun H locs ls g hP hD hS hl => ?_) N 0 (fun _ => 0) H locs ls (by omega) hP hD hS (by rw [nI_0]; exact lv_sub hl [0, 1, 2, 3, 4] rfl)
  refine W.widen (k := 0) (n := 0) (Nat.le_of_ble_eq_true rfl) (Nat.le_of_ble_eq_true rfl) ?_
  exact W.vret hx hb hr (fun t ht hW => ⟨⟨(), rfl, trivial, ⟨by rw [ht]; exact hP.sub [] rfl, hD.sub [] (by decide) rfl⟩⟩, hS.F ht⟩) hS.2.2 dX3_putRow_42
def fX6_row (v_a : Int32) (v_b : Int32) (v_c : Int32) : Int32 :=
  if (fX6_within v_a 0 7) = 0 then (-2) else if (fX6_within v_b 0 4) = 0 then (-2) else if (fX6_within v_c 0 40) = 0 then (-2) else 1
set_option maxHeartbeats 4000000 in
set_option maxRecDepth 100000 in
theorem c_X6_row (l : Launch) (D : va_G) (E : Nat → ClassId) (G : Nat → Nat) (sz : Nat) (a0 : Nat) (v_a : Int32) (v_b : Int32) (v_c : Int32) (a0_now : Nat) (a0_kept : Nat) (a0_ways : Nat) (a0_shelves : Nat) (a0_tape : Nat) (a0_reader : Nat) (a0_refusals : Nat) (a0_bestPack : Nat) (a0_shelves_held : Nat) (a0_shelves_size : Nat) (a0_shelves_cells : Nat) : Met l yX6_row (oh_w yX6_row cX6_row 4 (some .int)) ({ frames := 2, cells := 0, slots := 0, locals := 44 }) (oh_Pm D E G [.ref a0, .int v_a, .int v_b, .int v_c] [(a0, .inr (6, [.ref a0_now, .ref a0_kept, .int 0, .ref a0_ways, .ref a0_shelves, .ref a0_tape, .ref a0_reader, .ref a0_refusals, .ref a0_bestPack])), (a0_shelves, .inr (3, [.ref a0_shelves_held, .ref a0_shelves_size, .ref a0_shelves_cells])), (a0_shelves_held, .inl (E 0, 8, .inl (fun _ => (-1)))), (a0_shelves_size, .inl (E 0, 8, .inl (fun _ => 0))), (a0_shelves_cells, .inl (E 1, 320, .inr (.inl (fun _ => 0)))), (a0_refusals, .inl (E 0, 5, .inl (fun _ => 0)))] sz) (va_Qi (fun r (_ : Unit) => r = fX6_row v_a v_b v_c) (oh_B D (va_A [(a0, .inr (6, [.ref a0_now, .ref a0_kept, .int 0, .ref a0_ways, .ref a0_shelves, .ref a0_tape, .ref a0_reader, .ref a0_refusals, .ref a0_bestPack])), (a0_shelves, .inr (3, [.ref a0_shelves_held, .ref a0_shelves_size, .ref a0_shelves_cells])), (a0_shelves_held, .inl (E 0, 8, .inl (fun _ => (-1)))), (a0_shelves_size, .inl (E 0, 8, .inl (fun _ => 0))), (a0_shelves_cells, .inl (E 1, 320, .inr (.inl (fun _ => 0)))), (a0_refusals, .inl (E 0, 5, .inl (fun _ => 0)))] sz) (fun _ => [])) (va_A [(a0, .inr (6, [.ref a0_now, .ref a0_kept, .int 0, .ref a0_ways, .ref a0_shelves, .ref a0_tape, .ref a0_reader, .ref a0_refusals, .ref a0_bestPack])), (a0_shelves, .inr (3, [.ref a0_shelves_held, .ref a0_shelves_size, .ref a0_shelves_cells])), (a0_shelves_held, .inl (E 0, 8, .inl (fun _ => (-1)))), (a0_shelves_size, .inl (E 0, 8, .inl (fun _ => 0))), (a0_shelves_cells, .inl (E 1, 320, .inr (.inl (fun _ => 0)))), (a0_refusals, .inl (E 0, 5, .inl (fun _ => 0)))] sz)) 0 0 (va_A [(a0, .inr (6, [.ref a0_now, .ref a0_kept, .int 0, .ref a0_ways, .ref a0_shelves, .ref a0_tape, .ref a0_reader, .ref a0_refusals, .ref a0_bestPack])), (a0_shelves, .inr (3, [.ref a0_shelves_held, .ref a0_shelves_size, .ref a0_shelves_cells])), (a0_shelves_held, .inl (E 0, 8, .inl (fun _ => (-1)))), (a0_shelves_size, .inl (E 0, 8, .inl (fun _ => 0))), (a0_shelves_cells, .inl (E 1, 320, .inr (.inl (fun _ => 0)))), (a0_refusals, .inl (E 0, 5, .inl (fun _ => 0)))] sz) := by
  refine Met.ofW (cc := cX6_row) (maxL := 4) (ret := (some .int)) (by decide) rfl ?_
  intro p e s m args below meth c s₁ B hml hv
  obtain ⟨rfl, hsz, hP, hK, hD0, hG⟩ := hv
  have hx := B.exec
  have hb := B.bytes
  have hr := B.returns
  have hts := atoms_spec (ws := (oh_w yX6_row cX6_row 4 (some .int))) B.pre
  have htg : ∀ w ∈ oh_t, w.before _ s = true := fun w h => hts w (List.mem_cons_of_mem _ h)
  have hown : s.vm.findClass RX6 = some m.cls := findClass_of_methodNamed B.named
  have hlocks := B.notSynchronized
  subst hsz
  have hD := hD0.self (sz := s.heap.size)
  generalize hAe : va_A [(a0, .inr (6, [.ref a0_now, .ref a0_kept, .int 0, .ref a0_ways, .ref a0_shelves, .ref a0_tape, .ref a0_reader, .ref a0_refusals, .ref a0_bestPack])), (a0_shelves, .inr (3, [.ref a0_shelves_held, .ref a0_shelves_size, .ref a0_shelves_cells])), (a0_shelves_held, .inl (E 0, 8, .inl (fun _ => (-1)))), (a0_shelves_size, .inl (E 0, 8, .inl (fun _ => 0))), (a0_shelves_cells, .inl (E 1, 320, .inr (.inl (fun _ => 0)))), (a0_refusals, .inl (E 0, 5, .inl (fun _ => 0)))] s.heap.size = A at hD hG ⊢
  have hA : ∀ q : Nat, s.heap.size ≤ q → A q := fun q h => by rw [← hAe]; exact Or.inr h
  have hS : va_S A s.heap s.heap [] := va_S.rf
  have hP : va_P D vwCl [(a0, .inr (6, [.ref a0_now, .ref a0_kept, .int 0, .ref a0_ways, .ref a0_shelves, .ref a0_tape, .ref a0_reader, .ref a0_refusals, .ref a0_bestPack])), (a0_shelves, .inr (3, [.ref a0_shelves_held, .ref a0_shelves_size, .ref a0_shelves_cells])), (a0_shelves_held, .inl (E 0, 8, .inl (fun _ => (-1)))), (a0_shelves_size, .inl (E 0, 8, .inl (fun _ => 0))), (a0_shelves_cells, .inl (E 1, 320, .inr (.inl (fun _ => 0)))), (a0_refusals, .inl (E 0, 5, .inl (fun _ => 0)))] s.heap := hP
  have hl := lv_entry ([.ref a0, .int v_a, .int v_b, .int v_c]) (n := 4) (Nat.le_of_ble_eq_true rfl)
  rw [lg_entry_eq]
  generalize (lg_sl ([.ref a0, .int v_a, .int v_b, .int v_c]) ++ List.replicate (4 - (lg_sl ([.ref a0, .int v_a, .int v_b, .int v_c])).length) Slot.unset).toArray = ls at hl ⊢
  have hl : lv_has ls 4 [(0, .ref a0), (1, .int v_a), (2, .int v_b), (3, .int v_c)] := hl
  refine lv_iload_n hx hb dX6_row_0 rfl (lv_at hl 1 rfl) ?_
  refine oh_pS (As := [.int v_a]) (rest := []) (v := fX6_within v_a 0 7) ⟨hx, hb, hml, hown, htg⟩ (c_X6_isShelf l D E G v_a) (va_cwS 1 htg (oh_gS q_290 q_291 q_66 q_292) rfl rfl rfl pdX6_isShelf ⟨Nat.le_of_ble_eq_true rfl, Nat.le_of_ble_eq_true rfl⟩) hK (hP.sub (ws' := []) [] rfl) hG hS rfl hl.1 rfl (Nat.le_of_ble_eq_true rfl) dX6_row_1 ⟨Nat.le_of_ble_eq_true rfl, Nat.le_of_ble_eq_true rfl⟩ ?_
  refine lv_if_eq (tgt := 26) hx hb dX6_row_4 (by decide) (fun (c_1 : (fX6_within v_a 0 7) = 0) => ?_) (fun (c_1 : ¬ ((fX6_within v_a 0 7) = 0)) => ?_)
  · refine lv_aload_n hx hb dX6_row_26 rfl (lv_at hl 0 rfl) ?_
    refine lv_bipush (v := (-2)) hx hb dX6_row_27 (by decide) ?_
    refine oh_mV (As := [.int (-2)]) (rest := []) (wr := [(a0_shelves, .inr (3, [.ref a0_shelves_held, .ref a0_shelves_size, .ref a0_shelves_cells])), (a0_shelves_held, .inl (E 0, 8, .inl (fun _ => (-1)))), (a0_shelves_size, .inl (E 0, 8, .inl (fun _ => 0))), (a0_shelves_cells, .inl (E 1, 320, .inr (.inl (fun _ => 0))))]) ⟨hx, hb, hml, hown, htg⟩ (c_X6_refuse l D E G s.heap.size a0 (-2) a0_now a0_kept a0_ways a0_shelves a0_tape a0_reader a0_refusals a0_bestPack) (cwV 1 htg (oh_gV q_296 q_298 q_0 q_66 q_299) rfl rfl rfl pdVX6_refuse ⟨Nat.le_of_ble_eq_true rfl, Nat.le_of_ble_eq_true rfl⟩) hK hP hD hG hS hA [0, 5] [1, 2, 3, 4] rfl rfl (by decide) (by decide) (by decide) (va_recv hK hP (ci := 6) (q0 := 0) rfl rfl) rfl hl.1 rfl (Nat.le_of_ble_eq_true rfl) dX6_row_29 ⟨Nat.le_of_ble_eq_true rfl, Nat.le_of_ble_eq_true rfl⟩ (fun r_1 u H locs hw hP hD hS => ?_)
    subst hw
    have hP : va_P D vwCl [(a0_shelves, .inr (3, [.ref a0_shelves_held, .ref a0_shelves_size, .ref a0_shelves_cells])), (a0_shelves_held, .inl (E 0, 8, .inl (fun _ => (-1)))), (a0_shelves_size, .inl (E 0, 8, .inl (fun _ => 0))), (a0_shelves_cells, .inl (E 1, 320, .inr (.inl (fun _ => 0)))), (a0, .inr (6, [.ref a0_now, .ref a0_kept, .int 0, .ref a0_ways, .ref a0_shelves, .ref a0_tape, .ref a0_reader, .ref a0_refusals, .ref a0_bestPack]))] H := hP
    have hD : va_D A [(a0_shelves, .inr (3, [.ref a0_shelves_held, .ref a0_shelves_size, .ref a0_shelves_cells])), (a0_shelves_held, .inl (E 0, 8, .inl (fun _ => (-1)))), (a0_shelves_size, .inl (E 0, 8, .inl (fun _ => 0))), (a0_shelves_cells, .inl (E 1, 320, .inr (.inl (fun _ => 0)))), (a0, .inr (6, [.ref a0_now, .ref a0_kept, .int 0, .ref a0_ways, .ref a0_shelves, .ref a0_tape, .ref a0_reader, .ref a0_refusals, .ref a0_bestPack]))] := hD
    refine W.widen (k := 0) (n := 0) (Nat.le_refl _) (Nat.le_refl _) ?_
    refine W.widen (k := 0) (n := 0) (Nat.le_of_ble_eq_true rfl) (Nat.le_of_ble_eq_true rfl) ?_
    exact W.iret (v := (-2)) hx hb hr (fun t ht hW => ⟨⟨(-2), (), rfl, by unfold fX6_row; rw [if_pos c_1], ⟨by rw [ht]; exact hP.sub [] rfl, hD.sub [] (by decide) rfl⟩⟩, hS.F ht⟩) hS.2.2 dX6_row_32
  · refine lv_iload_n hx hb dX6_row_7 rfl (lv_at hl 2 rfl) ?_
    refine lv_iconst (v := 0) hx hb dX6_row_8 (by decide) ?_
    refine lv_iconst (v := 4) hx hb dX6_row_9 (by decide) ?_
    refine oh_pS (As := [.int v_b, .int 0, .int 4]) (rest := []) (v := fX6_within v_b 0 4) ⟨hx, hb, hml, hown, htg⟩ (c_X6_within l D E G v_b 0 4) (va_cwS 3 htg (oh_gS q_293 q_294 q_66 q_295) rfl rfl rfl pdX6_within ⟨Nat.le_of_ble_eq_true rfl, Nat.le_of_ble_eq_true rfl⟩) hK (hP.sub (ws' := []) [] rfl) hG hS rfl hl.1 rfl (Nat.le_of_ble_eq_true rfl) dX6_row_10 ⟨Nat.le_of_ble_eq_true rfl, Nat.le_of_ble_eq_true rfl⟩ ?_
    refine lv_if_eq (tgt := 26) hx hb dX6_row_13 (by decide) (fun (c_2 : (fX6_within v_b 0 4) = 0) => ?_) (fun (c_2 : ¬ ((fX6_within v_b 0 4) = 0)) => ?_)
    · refine lv_aload_n hx hb dX6_row_26 rfl (lv_at hl 0 rfl) ?_
      refine lv_bipush (v := (-2)) hx hb dX6_row_27 (by decide) ?_
      refine oh_mV (As := [.int (-2)]) (rest := []) (wr := [(a0_shelves, .inr (3, [.ref a0_shelves_held, .ref a0_shelves_size, .ref a0_shelves_cells])), (a0_shelves_held, .inl (E 0, 8, .inl (fun _ => (-1)))), (a0_shelves_size, .inl (E 0, 8, .inl (fun _ => 0))), (a0_shelves_cells, .inl (E 1, 320, .inr (.inl (fun _ => 0))))]) ⟨hx, hb, hml, hown, htg⟩ (c_X6_refuse l D E G s.heap.size a0 (-2) a0_now a0_kept a0_ways a0_shelves a0_tape a0_reader a0_refusals a0_bestPack) (cwV 1 htg (oh_gV q_296 q_298 q_0 q_66 q_299) rfl rfl rfl pdVX6_refuse ⟨Nat.le_of_ble_eq_true rfl, Nat.le_of_ble_eq_true rfl⟩) hK hP hD hG hS hA [0, 5] [1, 2, 3, 4] rfl rfl (by decide) (by decide) (by decide) (va_recv hK hP (ci := 6) (q0 := 0) rfl rfl) rfl hl.1 rfl (Nat.le_of_ble_eq_true rfl) dX6_row_29 ⟨Nat.le_of_ble_eq_true rfl, Nat.le_of_ble_eq_true rfl⟩ (fun r_2 u H locs hw hP hD hS => ?_)
      subst hw
      have hP : va_P D vwCl [(a0_shelves, .inr (3, [.ref a0_shelves_held, .ref a0_shelves_size, .ref a0_shelves_cells])), (a0_shelves_held, .inl (E 0, 8, .inl (fun _ => (-1)))), (a0_shelves_size, .inl (E 0, 8, .inl (fun _ => 0))), (a0_shelves_cells, .inl (E 1, 320, .inr (.inl (fun _ => 0)))), (a0, .inr (6, [.ref a0_now, .ref a0_kept, .int 0, .ref a0_ways, .ref a0_shelves, .ref a0_tape, .ref a0_reader, .ref a0_refusals, .ref a0_bestPack]))] H := hP
      have hD : va_D A [(a0_shelves, .inr (3, [.ref a0_shelves_held, .ref a0_shelves_size, .ref a0_shelves_cells])), (a0_shelves_held, .inl (E 0, 8, .inl (fun _ => (-1)))), (a0_shelves_size, .inl (E 0, 8, .inl (fun _ => 0))), (a0_shelves_cells, .inl (E 1, 320, .inr (.inl (fun _ => 0)))), (a0, .inr (6, [.ref a0_now, .ref a0_kept, .int 0, .ref a0_ways, .ref a0_shelves, .ref a0_tape, .ref a0_reader, .ref a0_refusals, .ref a0_bestPack]))] := hD
      refine W.widen (k := 0) (n := 0) (Nat.le_refl _) (Nat.le_refl _) ?_
      refine W.widen (k := 0) (n := 0) (Nat.le_of_ble_eq_true rfl) (Nat.le_of_ble_eq_true rfl) ?_
      exact W.iret (v := (-2)) hx hb hr (fun t ht hW => ⟨⟨(-2), (), rfl, by unfold fX6_row; rw [if_neg c_1, if_pos c_2], ⟨by rw [ht]; exact hP.sub [] rfl, hD.sub [] (by decide) rfl⟩⟩, hS.F ht⟩) hS.2.2 dX6_row_32
    · refine lv_iload_n hx hb dX6_row_16 rfl (lv_at hl 3 rfl) ?_
      refine lv_iconst (v := 0) hx hb dX6_row_17 (by decide) ?_
      refine lv_bipush (v := 40) hx hb dX6_row_18 (by decide) ?_
      refine oh_pS (As := [.int v_c, .int 0, .int 40]) (rest := []) (v := fX6_within v_c 0 40) ⟨hx, hb, hml, hown, htg⟩ (c_X6_within l D E G v_c 0 40) (va_cwS 3 htg (oh_gS q_293 q_294 q_66 q_295) rfl rfl rfl pdX6_within ⟨Nat.le_of_ble_eq_true rfl, Nat.le_of_ble_eq_true rfl⟩) hK (hP.sub (ws' := []) [] rfl) hG hS rfl hl.1 rfl (Nat.le_of_ble_eq_true rfl) dX6_row_20 ⟨Nat.le_of_ble_eq_true rfl, Nat.le_of_ble_eq_true rfl⟩ ?_
      refine lv_if_ne (tgt := 33) hx hb dX6_row_23 (by decide) (fun (c_3 : ¬ ((fX6_within v_c 0 40) = 0)) => ?_) (fun (c_3 : (fX6_within v_c 0 40) = 0) => ?_)
      · obtain ⟨N, hN, hn⟩ := oh_n40 (n := 40) c_3 (by decide)
        refine lv_aload_n hx hb dX6_row_33 rfl (lv_at hl 0 rfl) ?_
        refine va_get (D := D) (ci := 6) (v := .ref a0_shelves) (C := RX6) (T := TX6) (N := 9) hx hb htg ig_6 hown hK hP 0 rfl rfl 4 (by decide) (htg _ q_262) (fun _ h9 => h9) rfl dX6_row_34 ?_
        refine lv_iload_n hx hb dX6_row_37 rfl (lv_at hl 1 rfl) ?_
        refine lv_iload_n hx hb dX6_row_38 rfl (lv_at hl 2 rfl) ?_
        refine lv_iload_n hx hb dX6_row_39 rfl (lv_at hl 3 rfl) ?_
        refine oh_mVv (As := [.int v_a, .int v_b, .int v_c]) (rest := []) (wr := [(a0, .inr (6, [.ref a0_now, .ref a0_kept, .int 0, .ref a0_ways, .ref a0_shelves, .ref a0_tape, .ref a0_reader, .ref a0_refusals, .ref a0_bestPack])), (a0_refusals, .inl (E 0, 5, .inl (fun _ => 0)))]) ⟨hx, hb, hml, hown, htg⟩ (c_X3_putRow l D E G s.heap.size a0_shelves v_a v_b v_c N a0_shelves_held a0_shelves_size a0_shelves_cells (oh_win c_1 (by decide)) hN hn) (cwV 3 htg (oh_gV q_300 q_301 q_302 q_70 q_303) rfl rfl rfl pdVX3_putRow ⟨Nat.le_of_ble_eq_true rfl, Nat.le_of_ble_eq_true rfl⟩) hK hP hD hG hS hA [1, 2, 3, 4] [0, 5] rfl rfl (by decide) (by decide) (by decide) (va_recv hK hP (ci := 3) (q0 := 1) rfl rfl) rfl hl.1 rfl (Nat.le_of_ble_eq_true rfl) dX6_row_40 ⟨Nat.le_of_ble_eq_true rfl, Nat.le_of_ble_eq_true rfl⟩ (fun u H locs hw hP hD hS => ?_)
        have hP : va_P D vwCl [(a0, .inr (6, [.ref a0_now, .ref a0_kept, .int 0, .ref a0_ways, .ref a0_shelves, .ref a0_tape, .ref a0_reader, .ref a0_refusals, .ref a0_bestPack])), (a0_refusals, .inl (E 0, 5, .inl (fun _ => 0)))] H := hP
        have hD : va_D A [(a0, .inr (6, [.ref a0_now, .ref a0_kept, .int 0, .ref a0_ways, .ref a0_shelves, .ref a0_tape, .ref a0_reader, .ref a0_refusals, .ref a0_bestPack])), (a0_refusals, .inl (E 0, 5, .inl (fun _ => 0)))] := hD
        refine W.widen (k := 0) (n := 0) (Nat.le_refl _) (Nat.le_refl _) ?_
        refine lv_iconst (v := 1) hx hb dX6_row_43 (by decide) ?_
        refine W.widen (k := 0) (n := 0) (Nat.le_of_ble_eq_true rfl) (Nat.le_of_ble_eq_true rfl) ?_
        exact W.iret (v := 1) hx hb hr (fun t ht hW => ⟨⟨1, (), rfl, by unfold fX6_row; rw [if_neg c_1, if_neg c_2, if_neg c_3], ⟨by rw [ht]; exact hP.sub [] rfl, hD.sub [] (by decide) rfl⟩⟩, hS.F ht⟩) hS.2.2 dX6_row_44
      · refine lv_aload_n hx hb dX6_row_26 rfl (lv_at hl 0 rfl) ?_
        refine lv_bipush (v := (-2)) hx hb dX6_row_27 (by decide) ?_
        refine oh_mV (As := [.int (-2)]) (rest := []) (wr := [(a0_shelves, .inr (3, [.ref a0_shelves_held, .ref a0_shelves_size, .ref a0_shelves_cells])), (a0_shelves_held, .inl (E 0, 8, .inl (fun _ => (-1)))), (a0_shelves_size, .inl (E 0, 8, .inl (fun _ => 0))), (a0_shelves_cells, .inl (E 1, 320, .inr (.inl (fun _ => 0))))]) ⟨hx, hb, hml, hown, htg⟩ (c_X6_refuse l D E G s.heap.size a0 (-2) a0_now a0_kept a0_ways a0_shelves a0_tape a0_reader a0_refusals a0_bestPack) (cwV 1 htg (oh_gV q_296 q_298 q_0 q_66 q_299) rfl rfl rfl pdVX6_refuse ⟨Nat.le_of_ble_eq_true rfl, Nat.le_of_ble_eq_true rfl⟩) hK hP hD hG hS hA [0, 5] [1, 2, 3, 4] rfl rfl (by decide) (by decide) (by decide) (va_recv hK hP (ci := 6) (q0 := 0) rfl rfl) rfl hl.1 rfl (Nat.le_of_ble_eq_true rfl) dX6_row_29 ⟨Nat.le_of_ble_eq_true rfl, Nat.le_of_ble_eq_true rfl⟩ (fun r_4 u H locs hw hP hD hS => ?_)
        subst hw
        have hP : va_P D vwCl [(a0_shelves, .inr (3, [.ref a0_shelves_held, .ref a0_shelves_size, .ref a0_shelves_cells])), (a0_shelves_held, .inl (E 0, 8, .inl (fun _ => (-1)))), (a0_shelves_size, .inl (E 0, 8, .inl (fun _ => 0))), (a0_shelves_cells, .inl (E 1, 320, .inr (.inl (fun _ => 0)))), (a0, .inr (6, [.ref a0_now, .ref a0_kept, .int 0, .ref a0_ways, .ref a0_shelves, .ref a0_tape, .ref a0_reader, .ref a0_refusals, .ref a0_bestPack]))] H := hP
        have hD : va_D A [(a0_shelves, .inr (3, [.ref a0_shelves_held, .ref a0_shelves_size, .ref a0_shelves_cells])), (a0_shelves_held, .inl (E 0, 8, .inl (fun _ => (-1)))), (a0_shelves_size, .inl (E 0, 8, .inl (fun _ => 0))), (a0_shelves_cells, .inl (E 1, 320, .inr (.inl (fun _ => 0)))), (a0, .inr (6, [.ref a0_now, .ref a0_kept, .int 0, .ref a0_ways, .ref a0_shelves, .ref a0_tape, .ref a0_reader, .ref a0_refusals, .ref a0_bestPack]))] := hD
        refine W.widen (k := 0) (n := 0) (Nat.le_refl _) (Nat.le_refl _) ?_
        refine W.widen (k := 0) (n := 0) (Nat.le_of_ble_eq_true rfl) (Nat.le_of_ble_eq_true rfl) ?_
        exact W.iret (v := (-2)) hx hb hr (fun t ht hW => ⟨⟨(-2), (), rfl, by unfold fX6_row; rw [if_neg c_1, if_neg c_2, if_pos c_3], ⟨by rw [ht]; exact hP.sub [] rfl, hD.sub [] (by decide) rfl⟩⟩, hS.F ht⟩) hS.2.2 dX6_row_32
