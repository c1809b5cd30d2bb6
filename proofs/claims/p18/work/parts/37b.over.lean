theorem updc_updc {C : Nat → va_E} {k : Nat} {x y : va_E} : updc (updc C k x) k y = updc C k y := by
  funext i
  unfold updc
  by_cases h : i = k <;> simp [h]
set_option maxHeartbeats 4000000 in
set_option maxRecDepth 100000 in
theorem lp_over {p : Program} {l : Launch} {e : Env} {R : Room} {s : State} {m : MethodId} {args : Array Value} {below : List Frame} {meth : Method} {c : Code} {cells slots : Nat} {Q : State → Prop} {D : va_G} {E : Nat → ClassId} {A : Nat → Prop} (hx : p.tables.exec = Jvm.exec) (hb : c.code = cX7_over) (hK : va_K D vwCl (oh_ty E) s) {n : Nat} {a : Nat → Nat} (C : Nat → va_E) (k1 k2 N : Nat) (hN : N < 1000) (h1 : k1 < n) (h2 : k2 < n) (hne : k1 ≠ k2) (hs1 : C k1 = .inl (E 0, N, .inl (ga (C k1))))
    (kk : ∀ (g : Nat → Int32) (H : Heap) (locs : List Loc) (ls : Array Slot), (∀ i, i < N → g i = ga (C k1) i) → va_P D vwCl (oh_W n a (updc C k2 (.inl (E 0, N, .inl g)))) H → va_D A (oh_W n a (updc C k2 (.inl (E 0, N, .inl g)))) → va_S A s.heap H locs → W p l e R s m args below meth c H locs cells slots Q (F0 m 20 ls [])) :
    ∀ (d j : Nat) (g : Nat → Int32) (H : Heap) (locs : List Loc) (ls : Array Slot), j + d = N → (∀ i, i < j → g i = ga (C k1) i) → va_P D vwCl (oh_W n a (updc C k2 (.inl (E 0, N, .inl g)))) H → va_D A (oh_W n a (updc C k2 (.inl (E 0, N, .inl g)))) → va_S A s.heap H locs → lv_has ls 3 [(2, .int (nI j)), (0, .ref (a k1)), (1, .ref (a k2))] → W p l e R s m args below meth c H locs cells slots Q (F0 m 2 ls []) := by
  intro d
  induction d with
  | zero =>
    intro j g H locs ls hjk hg hP hD hS hl
    have hjN : j = N := by omega
    have e1 : (updc C k2 (.inl (E 0, N, .inl g))) k1 = .inl (E 0, N, .inl (ga (C k1))) := by rw [updc_ne hne]; exact hs1
    refine lv_iload_n hx hb dX7_over_2 rfl (lv_at hl 0 rfl) ?_
    refine lv_aload_n hx hb dX7_over_3 rfl (lv_at hl 1 rfl) ?_
    refine va_alen (v := Int32.ofNat N) hx hb hK hP k1 0 (oh_wg h1 e1) rfl rfl dX7_over_4 ?_
    refine lv_icmp_ge (tgt := 20) hx hb dX7_over_5 (by decide) (fun _ => ?_) (fun c => absurd (show (Int32.ofNat N) ≤ (nI j) from show nI N ≤ nI j from nI_le (by omega) (by omega)) c)
    exact kk g H locs ls (by rw [← hjN]; exact hg) hP hD hS
  | succ d ih =>
    intro j g H locs ls hjk hg hP hD hS hl
    have hjN : j < N := by omega
    have e1 : (updc C k2 (.inl (E 0, N, .inl g))) k1 = .inl (E 0, N, .inl (ga (C k1))) := by rw [updc_ne hne]; exact hs1
    refine lv_iload_n hx hb dX7_over_2 rfl (lv_at hl 0 rfl) ?_
    refine lv_aload_n hx hb dX7_over_3 rfl (lv_at hl 1 rfl) ?_
    refine va_alen (v := Int32.ofNat N) hx hb hK hP k1 0 (oh_wg h1 e1) rfl rfl dX7_over_4 ?_
    refine lv_icmp_ge (tgt := 20) hx hb dX7_over_5 (by decide) (fun c => absurd c (show ¬ ((Int32.ofNat N) ≤ (nI j)) from show ¬ nI N ≤ nI j from nI_ge hjN (by omega))) (fun _ => ?_)
    refine lv_aload_n hx hb dX7_over_8 rfl (lv_at hl 2 rfl) ?_
    refine lv_iload_n hx hb dX7_over_9 rfl (lv_at hl 0 rfl) ?_
    refine lv_aload_n hx hb dX7_over_10 rfl (lv_at hl 1 rfl) ?_
    refine lv_iload_n hx hb dX7_over_11 rfl (lv_at hl 0 rfl) ?_
    refine th_iald hx hb hK hP k1 h1 e1 (vp_in_nI hjN (by omega)) dX7_over_12 ?_
    refine th_iast (T := fun _ => True) (Rl := fun _ => True) hx hb hK hP hD hS k2 h2 updc_eq (vp_in_nI hjN (by omega)) trivial trivial dX7_over_13 (fun C2 H locs e2 _ _ hP hD hS => ?_)
    rw [updc_updc] at e2
    subst e2
    refine lv_iinc (v := nI (j + 1)) (lv' := [(2, .int (nI (j + 1))), (0, .ref (a k1)), (1, .ref (a k2))]) hx hb dX7_over_14 hl (k := 0) rfl (by exact nI_1 j) (by decide) rfl (fun ls hl => ?_)
    refine lv_goto (tgt := 2) hx hb dX7_over_17 (by decide) ?_
    refine ih (j + 1) _ H locs ls (by omega) (fun i hi => ?_) hP hD hS (lv_sub hl [0, 1, 2] rfl)
    have ej : (nI j).toNatClampNeg = j := nI_clamp (by omega)
    rw [ej]
    by_cases h : i = j
    · rw [h, pk_us]
    · rw [pk_un h]
      exact hg i (by omega)
set_option maxHeartbeats 4000000 in
set_option maxRecDepth 100000 in
theorem c_X7_over (l : Launch) (D : va_G) (E : Nat → ClassId) (G : Nat → Nat) (sz : Nat) (n : Nat) (a : Nat → Nat) (C : Nat → va_E) (k1 k2 N : Nat) (hN : N < 1000) (h1 : k1 < n) (h2 : k2 < n) (hne : k1 ≠ k2) (hs1 : C k1 = .inl (E 0, N, .inl (ga (C k1)))) (hs2 : C k2 = .inl (E 0, N, .inl (ga (C k2)))) : Met l yX7_over (oh_w yX7_over cX7_over 3 none) ({ frames := 0, cells := 0, slots := 0, locals := 0 }) (oh_Pm D E G [.ref (a k1), .ref (a k2)] (oh_W n a C) sz) (va_Qv (fun (u : Nat → va_E) => ∃ g : Nat → Int32, u = updc C k2 (.inl (E 0, N, .inl g)) ∧ ∀ i, i < N → g i = ga (C k1) i) (oh_B D (va_A (oh_W n a C) sz) (fun u => oh_W n a u)) (va_A (oh_W n a C) sz)) 0 0 (va_A (oh_W n a C) sz) := by
  refine Met.ofW (cc := cX7_over) (maxL := 3) (ret := none) (by decide) rfl ?_
  intro p e s m args below meth c s₁ B hml hv
  obtain ⟨rfl, hsz, hP, hK, hD0, hG⟩ := hv
  have hx := B.exec
  have hb := B.bytes
  have hr := B.returns
  have hts := atoms_spec (ws := (oh_w yX7_over cX7_over 3 none)) B.pre
  have htg : ∀ w ∈ oh_t, w.before _ s = true := fun w h => hts w (List.mem_cons_of_mem _ h)
  have hown : s.vm.findClass RX7 = some m.cls := findClass_of_methodNamed B.named
  have hlocks := B.notSynchronized
  subst hsz
  have hD := hD0.self (sz := s.heap.size)
  generalize hAe : va_A (oh_W n a C) s.heap.size = A at hD hG ⊢
  have hA : ∀ q : Nat, s.heap.size ≤ q → A q := fun q h => by rw [← hAe]; exact Or.inr h
  have hS : va_S A s.heap s.heap [] := va_S.rf
  have hl := lv_entry ([.ref (a k1), .ref (a k2)]) (n := 3) (Nat.le_of_ble_eq_true rfl)
  rw [lg_entry_eq]
  generalize (lg_sl ([.ref (a k1), .ref (a k2)]) ++ List.replicate (3 - (lg_sl ([.ref (a k1), .ref (a k2)])).length) Slot.unset).toArray = ls at hl ⊢
  have hl : lv_has ls 3 [(0, .ref (a k1)), (1, .ref (a k2))] := hl
  have hC : updc C k2 (.inl (E 0, N, .inl (ga (C k2)))) = C := by
    funext i
    by_cases h : i = k2
    · rw [h, updc_eq, ← hs2]
    · rw [updc_ne h]
  refine lv_iconst (v := 0) hx hb dX7_over_0 (by decide) ?_
  refine lv_istore_n (lv' := [(2, .int 0), (0, .ref (a k1)), (1, .ref (a k2))]) hx hb dX7_over_1 rfl hl (by decide) rfl (fun ls hl => ?_)
  refine lp_over hx hb hK C k1 k2 N hN h1 h2 hne hs1 (fun g H locs ls hg hP hD hS => ?_) N 0 (ga (C k2)) s.heap [] ls (by omega) (fun i hi => by omega) (by rw [hC]; exact hP) (by rw [hC]; exact hD) hS (by rw [nI_0]; exact lv_sub hl [0, 1, 2] rfl)
  exact W.vret hx hb hr (fun t ht hW => ⟨⟨_, rfl, ⟨g, rfl, hg⟩, ⟨by rw [ht]; exact hP, hD⟩⟩, hS.F ht⟩) hS.2.2 dX7_over_20

/-- rows of a block that are copies of another's -/
def cpd (E : Nat → ClassId) (N b1 b2 j : Nat) (C u : Nat → va_E) : Prop := (∀ i, i < j → ∃ g : Nat → Int32, u (b2 + i) = .inl (E 0, N, .inl g) ∧ ∀ q, q < N → g q = ga (C (b1 + i)) q) ∧ ∀ k, (∀ i, i < j → k ≠ b2 + i) → u k = C k
theorem cpd_0 {E : Nat → ClassId} {N b1 b2 : Nat} {C : Nat → va_E} : cpd E N b1 b2 0 C C := ⟨fun i hi => by omega, fun _ _ => rfl⟩
theorem cpd_s {E : Nat → ClassId} {N b1 b2 j : Nat} {C u : Nat → va_E} {g : Nat → Int32} (h : cpd E N b1 b2 j C u) (hd : ∀ i, i ≤ j → b1 + j ≠ b2 + i) (hg : ∀ i, i < N → g i = ga (u (b1 + j)) i) : cpd E N b1 b2 (j + 1) C (updc u (b2 + j) (.inl (E 0, N, .inl g))) := by
  refine ⟨fun i hi => ?_, fun k hk => ?_⟩
  · by_cases e : i = j
    · subst e
      refine ⟨g, updc_eq, fun q hq => ?_⟩
      rw [hg q hq, h.2 (b1 + i) (fun z hz => hd z (by omega))]
    · rw [updc_ne (by omega)]
      exact h.1 i (by omega)
  · rw [updc_ne (hk j (by omega))]
    exact h.2 k (fun i hi => hk i (by omega))
set_option maxHeartbeats 4000000 in
set_option maxRecDepth 100000 in
theorem lp_overAll {p : Program} {l : Launch} {e : Env} {R : Room} {s : State} {m : MethodId} {args : Array Value} {below : List Frame} {meth : Method} {c : Code} {cells slots : Nat} {Q : State → Prop} {D : va_G} {E : Nat → ClassId} {A : Nat → Prop} {G : Nat → Nat} (hx : p.tables.exec = Jvm.exec) (hb : c.code = cX7_overAll) (htg : ∀ w ∈ oh_t, w.before args s = true) (hown : s.vm.findClass RX7 = some m.cls) (hml : c.maxLocals = 3) (hK : va_K D vwCl (oh_ty E) s) (hG : oh_G G A s) (hA : ∀ q, s.heap.size ≤ q → A q) {n : Nat} {a : Nat → Nat} (C : Nat → va_E) (k1 k2 b1 b2 M N : Nat) (hR : R = ({ frames := 1, cells := 0, slots := 0, locals := 22 })) (hc0 : cells = 0) (hs0 : slots = 0) (hN : N < 1000) (hM : M < 1000) (h1 : k1 < n) (h2 : k2 < n) (hb1 : b1 + M ≤ n) (hb2 : b2 + M ≤ n) (hdis : b1 + M ≤ b2 ∨ b2 + M ≤ b1) (hk1 : ∀ i, i < M → k1 ≠ b2 + i) (hk2 : ∀ i, i < M → k2 ≠ b2 + i) (hs1 : C k1 = .inl (E 2, M, .inr (.inr (.inr (.inr (qf a M b1)))))) (hs2 : C k2 = .inl (E 2, M, .inr (.inr (.inr (.inr (qf a M b2)))))) (hr1 : ∀ i, i < M → C (b1 + i) = .inl (E 0, N, .inl (ga (C (b1 + i))))) (hr2 : ∀ i, i < M → C (b2 + i) = .inl (E 0, N, .inl (ga (C (b2 + i)))))
    (kk : ∀ (u : Nat → va_E) (H : Heap) (locs : List Loc) (ls : Array Slot), cpd E N b1 b2 M C u → va_P D vwCl (oh_W n a u) H → va_D A (oh_W n a u) → va_S A s.heap H locs → W p l e R s m args below meth c H locs cells slots Q (F0 m 23 ls [])) :
    ∀ (d j : Nat) (u : Nat → va_E) (H : Heap) (locs : List Loc) (ls : Array Slot), j + d = M → cpd E N b1 b2 j C u → va_P D vwCl (oh_W n a u) H → va_D A (oh_W n a u) → va_S A s.heap H locs → lv_has ls 3 [(2, .int (nI j)), (0, .ref (a k1)), (1, .ref (a k2))] → W p l e R s m args below meth c H locs cells slots Q (F0 m 2 ls []) := by
  subst hR hc0 hs0
  intro d
  induction d with
  | zero =>
    intro j u H locs ls hjk hu hP hD hS hl
    have hjN : j = M := by omega
    have e1 : u k1 = .inl (E 2, M, .inr (.inr (.inr (.inr (qf a M b1))))) := by rw [hu.2 k1 (fun i hi => hk1 i (by omega))]; exact hs1
    refine lv_iload_n hx hb dX7_overAll_2 rfl (lv_at hl 0 rfl) ?_
    refine lv_aload_n hx hb dX7_overAll_3 rfl (lv_at hl 1 rfl) ?_
    refine va_alen (v := Int32.ofNat M) hx hb hK hP k1 2 (oh_wg h1 e1) rfl rfl dX7_overAll_4 ?_
    refine lv_icmp_ge (tgt := 23) hx hb dX7_overAll_5 (by decide) (fun _ => ?_) (fun c => absurd (show (Int32.ofNat M) ≤ (nI j) from show nI M ≤ nI j from nI_le (by omega) (by omega)) c)
    exact kk u H locs ls (by rw [← hjN]; exact hu) hP hD hS
  | succ d ih =>
    intro j u H locs ls hjk hu hP hD hS hl
    have hjN : j < M := by omega
    have ej : (nI j).toNatClampNeg = j := nI_clamp (by omega)
    have e1 : u k1 = .inl (E 2, M, .inr (.inr (.inr (.inr (qf a M b1))))) := by rw [hu.2 k1 (fun i hi => hk1 i (by omega))]; exact hs1
    have e2 : u k2 = .inl (E 2, M, .inr (.inr (.inr (.inr (qf a M b2))))) := by rw [hu.2 k2 (fun i hi => hk2 i (by omega))]; exact hs2
    have f1 : u (b1 + j) = .inl (E 0, N, .inl (ga (u (b1 + j)))) := by rw [hu.2 (b1 + j) (fun i hi => by omega)]; exact hr1 j hjN
    have f2 : u (b2 + j) = .inl (E 0, N, .inl (ga (u (b2 + j)))) := by rw [hu.2 (b2 + j) (fun i hi => by omega)]; exact hr2 j hjN
    refine lv_iload_n hx hb dX7_overAll_2 rfl (lv_at hl 0 rfl) ?_
    refine lv_aload_n hx hb dX7_overAll_3 rfl (lv_at hl 1 rfl) ?_
    refine va_alen (v := Int32.ofNat M) hx hb hK hP k1 2 (oh_wg h1 e1) rfl rfl dX7_overAll_4 ?_
    refine lv_icmp_ge (tgt := 23) hx hb dX7_overAll_5 (by decide) (fun c => absurd c (show ¬ ((Int32.ofNat M) ≤ (nI j)) from show ¬ nI M ≤ nI j from nI_ge hjN (by omega))) (fun _ => ?_)
    refine lv_aload_n hx hb dX7_overAll_8 rfl (lv_at hl 1 rfl) ?_
    refine lv_iload_n hx hb dX7_overAll_9 rfl (lv_at hl 0 rfl) ?_
    refine th_aald hx hb hK hP k1 2 h1 e1 rfl (vp_in_nI hjN (by omega)) dX7_overAll_10 ?_
    refine lv_aload_n hx hb dX7_overAll_11 rfl (lv_at hl 2 rfl) ?_
    refine lv_iload_n hx hb dX7_overAll_12 rfl (lv_at hl 0 rfl) ?_
    refine th_aald hx hb hK hP k2 2 h2 e2 rfl (vp_in_nI hjN (by omega)) dX7_overAll_13 ?_
    rw [ej]
    refine tm_Sv (As := [.ref (a (b1 + j)), .ref (a (b2 + j))]) (rest := []) ⟨hx, hb, hml, hown, htg⟩ (c_X7_over l D E G _ n a u (b1 + j) (b2 + j) N hN (by omega) (by omega) (by omega) f1 f2) (va_cwS 2 htg (oh_gS q_1434 q_1435 q_73 q_1436) rfl rfl rfl pdX7_over ⟨Nat.le_of_ble_eq_true rfl, Nat.le_of_ble_eq_true rfl⟩) hK hP hD hG hS hA rfl hl.1 rfl (Nat.le_of_ble_eq_true rfl) dX7_overAll_14 ⟨Nat.le_of_ble_eq_true rfl, Nat.le_of_ble_eq_true rfl⟩ (fun u2 H locs hq hP hD hS => ?_)
    obtain ⟨g, rfl, hg⟩ := hq
    refine W.widen (k := 0) (n := 0) (Nat.le_refl _) (Nat.le_refl _) ?_
    refine lv_iinc (v := nI (j + 1)) (lv' := [(2, .int (nI (j + 1))), (0, .ref (a k1)), (1, .ref (a k2))]) hx hb dX7_overAll_17 hl (k := 0) rfl (by exact nI_1 j) (by decide) rfl (fun ls hl => ?_)
    refine lv_goto (tgt := 2) hx hb dX7_overAll_20 (by decide) ?_
    exact ih (j + 1) _ H locs ls (by omega) (cpd_s hu (fun i hi => by omega) hg) hP hD hS (lv_sub hl [0, 1, 2] rfl)
set_option maxHeartbeats 4000000 in
set_option maxRecDepth 100000 in
theorem c_X7_overAll (l : Launch) (D : va_G) (E : Nat → ClassId) (G : Nat → Nat) (sz : Nat) (n : Nat) (a : Nat → Nat) (C : Nat → va_E) (k1 k2 b1 b2 M N : Nat) (hN : N < 1000) (hM : M < 1000) (h1 : k1 < n) (h2 : k2 < n) (hb1 : b1 + M ≤ n) (hb2 : b2 + M ≤ n) (hdis : b1 + M ≤ b2 ∨ b2 + M ≤ b1) (hk1 : ∀ i, i < M → k1 ≠ b2 + i) (hk2 : ∀ i, i < M → k2 ≠ b2 + i) (hs1 : C k1 = .inl (E 2, M, .inr (.inr (.inr (.inr (qf a M b1)))))) (hs2 : C k2 = .inl (E 2, M, .inr (.inr (.inr (.inr (qf a M b2)))))) (hr1 : ∀ i, i < M → C (b1 + i) = .inl (E 0, N, .inl (ga (C (b1 + i))))) (hr2 : ∀ i, i < M → C (b2 + i) = .inl (E 0, N, .inl (ga (C (b2 + i))))) : Met l yX7_overAll (oh_w yX7_overAll cX7_overAll 3 none) ({ frames := 1, cells := 0, slots := 0, locals := 22 }) (oh_Pm D E G [.ref (a k1), .ref (a k2)] (oh_W n a C) sz) (va_Qv (fun (u : Nat → va_E) => cpd E N b1 b2 M C u) (oh_B D (va_A (oh_W n a C) sz) (fun u => oh_W n a u)) (va_A (oh_W n a C) sz)) 0 0 (va_A (oh_W n a C) sz) := by
  refine Met.ofW (cc := cX7_overAll) (maxL := 3) (ret := none) (by decide) rfl ?_
  intro p e s m args below meth c s₁ B hml hv
  obtain ⟨rfl, hsz, hP, hK, hD0, hG⟩ := hv
  have hx := B.exec
  have hb := B.bytes
  have hr := B.returns
  have hts := atoms_spec (ws := (oh_w yX7_overAll cX7_overAll 3 none)) B.pre
  have htg : ∀ w ∈ oh_t, w.before _ s = true := fun w h => hts w (List.mem_cons_of_mem _ h)
  have hown : s.vm.findClass RX7 = some m.cls := findClass_of_methodNamed B.named
  have hlocks := B.notSynchronized
  subst hsz
  have hD := hD0.self (sz := s.heap.size)
  generalize hAe : va_A (oh_W n a C) s.heap.size = A at hD hG ⊢
  have hA : ∀ q : Nat, s.heap.size ≤ q → A q := fun q h => by rw [← hAe]; exact Or.inr h
  have hS : va_S A s.heap s.heap [] := va_S.rf
  have hl := lv_entry ([.ref (a k1), .ref (a k2)]) (n := 3) (Nat.le_of_ble_eq_true rfl)
  rw [lg_entry_eq]
  generalize (lg_sl ([.ref (a k1), .ref (a k2)]) ++ List.replicate (3 - (lg_sl ([.ref (a k1), .ref (a k2)])).length) Slot.unset).toArray = ls at hl ⊢
  have hl : lv_has ls 3 [(0, .ref (a k1)), (1, .ref (a k2))] := hl
  refine lv_iconst (v := 0) hx hb dX7_overAll_0 (by decide) ?_
  refine lv_istore_n (lv' := [(2, .int 0), (0, .ref (a k1)), (1, .ref (a k2))]) hx hb dX7_overAll_1 rfl hl (by decide) rfl (fun ls hl => ?_)
  refine lp_overAll hx hb htg hown hml hK hG hA C k1 k2 b1 b2 M N rfl rfl rfl hN hM h1 h2 hb1 hb2 hdis hk1 hk2 hs1 hs2 hr1 hr2 (fun u H locs ls hu hP hD hS => ?_) M 0 C s.heap [] ls (by omega) cpd_0 hP hD hS (by rw [nI_0]; exact lv_sub hl [0, 1, 2] rfl)
  exact W.vret hx hb hr (fun t ht hW => ⟨⟨u, rfl, hu, ⟨by rw [ht]; exact hP, hD⟩⟩, hS.F ht⟩) hS.2.2 dX7_overAll_23
