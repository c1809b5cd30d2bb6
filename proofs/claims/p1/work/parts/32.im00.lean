set_option maxHeartbeats 4000000 in
set_option maxRecDepth 100000 in
theorem lp_X7_over {p : Program} {l : Launch} {e : Env} {R : Room} {s : State} {m : MethodId} {args : Array Value} {below : List Frame} {meth : Method} {c : Code} {cells slots : Nat} {Q : State → Prop} {D : va_G} {E : Nat → ClassId} {A : Nat → Prop} (hx : p.tables.exec = Jvm.exec) (hb : c.code = cX7_over) (htg : ∀ w ∈ oh_t, w.before args s = true) (hown : s.vm.findClass RX7 = some m.cls) (hK : va_K D vwCl (oh_ty E) s) (a : Nat) (b : Nat) (N : Nat) (f : Nat → Int32) (hN : N < 1000) (kk : ∀ (H : Heap) (locs : List Loc) (ls : Array Slot) (g : Nat → Int32), va_P D vwCl [(a, .inl (E 0, N, .inl f)), (b, .inl (E 0, N, .inl g))] H → va_D A [(a, .inl (E 0, N, .inl f)), (b, .inl (E 0, N, .inl g))] → va_S A s.heap H locs → lv_has ls 3 [(2, .int (nI N)), (0, .ref a), (1, .ref b)] → W p l e R s m args below meth c H locs cells slots Q (F0 m 20 ls [])) :
    ∀ (k j : Nat) (g : Nat → Int32) (H : Heap) (locs : List Loc) (ls : Array Slot), j + k = N → va_P D vwCl [(a, .inl (E 0, N, .inl f)), (b, .inl (E 0, N, .inl g))] H → va_D A [(a, .inl (E 0, N, .inl f)), (b, .inl (E 0, N, .inl g))] → va_S A s.heap H locs → lv_has ls 3 [(2, .int (nI j)), (0, .ref a), (1, .ref b)] → W p l e R s m args below meth c H locs cells slots Q (F0 m 2 ls []) := by
  intro k
  induction k with
  | zero =>
    intro j g H locs ls hjk hP hD hS hl
    have hjN : j = N := by omega
    refine lv_iload_n hx hb dX7_over_2 rfl (lv_at hl 0 rfl) ?_
    refine lv_aload_n hx hb dX7_over_3 rfl (lv_at hl 1 rfl) ?_
    refine va_alen (v := Int32.ofNat N) hx hb hK hP 0 0 rfl rfl rfl dX7_over_4 ?_
    refine lv_icmp_ge (tgt := 20) hx hb dX7_over_5 (by decide) (fun _ => ?_) (fun c => absurd (show (Int32.ofNat N) ≤ (nI j) from show nI N ≤ nI j from nI_le (by omega) (by omega)) c)
    exact kk H locs ls g hP hD hS (by rw [← hjN]; exact lv_sub hl [0, 1, 2] rfl)
  | succ k ih =>
    intro j g H locs ls hjk hP hD hS hl
    have hjN : j < N := by omega
    refine lv_iload_n hx hb dX7_over_2 rfl (lv_at hl 0 rfl) ?_
    refine lv_aload_n hx hb dX7_over_3 rfl (lv_at hl 1 rfl) ?_
    refine va_alen (v := Int32.ofNat N) hx hb hK hP 0 0 rfl rfl rfl dX7_over_4 ?_
    refine lv_icmp_ge (tgt := 20) hx hb dX7_over_5 (by decide) (fun c => absurd c (show ¬ ((Int32.ofNat N) ≤ (nI j)) from show ¬ nI N ≤ nI j from nI_ge hjN (by omega))) (fun _ => ?_)
    refine lv_aload_n hx hb dX7_over_8 rfl (lv_at hl 2 rfl) ?_
    refine lv_iload_n hx hb dX7_over_9 rfl (lv_at hl 0 rfl) ?_
    refine lv_aload_n hx hb dX7_over_10 rfl (lv_at hl 1 rfl) ?_
    refine lv_iload_n hx hb dX7_over_11 rfl (lv_at hl 0 rfl) ?_
    refine va_iald hx hb hK hP 0 0 rfl rfl (vp_in_nI hjN (by omega)) dX7_over_12 ?_
    refine va_iast hx hb hK hP hD hS 1 0 rfl rfl (vp_in_nI hjN (by omega)) dX7_over_13 (fun H locs hP hD hS => ?_)
    have hP : va_P D vwCl [(a, .inl (E 0, N, .inl f)), (b, .inl (E 0, N, .inl (upd g ((nI j).toNatClampNeg) (f (nI j).toNatClampNeg))))] H := hP
    have hD : va_D A [(a, .inl (E 0, N, .inl f)), (b, .inl (E 0, N, .inl (upd g ((nI j).toNatClampNeg) (f (nI j).toNatClampNeg))))] := hD
    refine lv_iinc (v := nI (j + 1)) (lv' := [(2, .int (nI (j + 1))), (0, .ref a), (1, .ref b)]) hx hb dX7_over_14 hl (k := 0) rfl (by exact nI_1 j) (by decide) rfl (fun ls hl => ?_)
    refine lv_goto (tgt := 2) hx hb dX7_over_17 (by decide) ?_
    exact ih (j + 1) (upd g ((nI j).toNatClampNeg) (f (nI j).toNatClampNeg)) H locs ls (by omega) hP hD hS (lv_sub hl [0, 1, 2] rfl)
set_option maxHeartbeats 4000000 in
set_option maxRecDepth 100000 in
theorem c_X7_over (l : Launch) (D : va_G) (E : Nat → ClassId) (G : Nat → Nat) (sz : Nat) (a : Nat) (b : Nat) (f : Nat → Int32) (N : Nat) (g : Nat → Int32) (hN : N < 1000) : Met l yX7_over (oh_w yX7_over cX7_over 3 none) ({ frames := 0, cells := 0, slots := 0, locals := 0 }) (oh_Pm D E G [.ref a, .ref b] [(a, .inl (E 0, N, .inl f)), (b, .inl (E 0, N, .inl g))] sz) (va_Qv (fun (_ : (Nat → Int32)) => True) (oh_B D (va_A [(a, .inl (E 0, N, .inl f)), (b, .inl (E 0, N, .inl g))] sz) (fun hv_b => [(a, .inl (E 0, N, .inl f)), (b, .inl (E 0, N, .inl hv_b))])) (va_A [(a, .inl (E 0, N, .inl f)), (b, .inl (E 0, N, .inl g))] sz)) 0 0 (va_A [(a, .inl (E 0, N, .inl f)), (b, .inl (E 0, N, .inl g))] sz) := by
  refine Met.ofW (cc := cX7_over) (maxL := 3) (ret := none) (by decide) rfl ?_
  intro p e s m args below meth c s₁ B hml hv
  obtain ⟨rfl, hsz, hP, hK, hD0, hG⟩ := hv
  have hx := B.exec
  have hb := B.bytes
  have hr := B.returns
  have hts := atoms_spec (ws := (oh_w yX7_over cX7_over 3 none)) B.pre
  have htg : ∀ w ∈ oh_t, w.before _ s = true := fun w h => hts w (List.mem_cons_of_mem _ h)
  have hown : s.vm.findClass RX7 = some m.cls := findClass_of_methodNamed B.named
  have hlocks := B.notSynchronized
  subst hsz
  have hD := hD0.self (sz := s.heap.size)
  generalize hAe : va_A [(a, .inl (E 0, N, .inl f)), (b, .inl (E 0, N, .inl g))] s.heap.size = A at hD hG ⊢
  have hA : ∀ q : Nat, s.heap.size ≤ q → A q := fun q h => by rw [← hAe]; exact Or.inr h
  have hS : va_S A s.heap s.heap [] := va_S.rf
  have hP : va_P D vwCl [(a, .inl (E 0, N, .inl f)), (b, .inl (E 0, N, .inl g))] s.heap := hP
  have hl := lv_entry ([.ref a, .ref b]) (n := 3) (Nat.le_of_ble_eq_true rfl)
  rw [lg_entry_eq]
  generalize (lg_sl ([.ref a, .ref b]) ++ List.replicate (3 - (lg_sl ([.ref a, .ref b])).length) Slot.unset).toArray = ls at hl ⊢
  have hl : lv_has ls 3 [(0, .ref a), (1, .ref b)] := hl
  refine lv_iconst (v := 0) hx hb dX7_over_0 (by decide) ?_
  refine lv_istore_n (lv' := [(2, .int 0), (0, .ref a), (1, .ref b)]) hx hb dX7_over_1 rfl hl (by decide) rfl (fun ls hl => ?_)
  refine lp_X7_over hx hb htg hown hK a b N f hN (fun H locs ls g hP hD hS hl => ?_) N 0 g s.heap [] ls (by omega) hP hD hS (by rw [nI_0]; exact lv_sub hl [0, 1, 2] rfl)
  refine W.widen (k := 0) (n := 0) (Nat.le_of_ble_eq_true rfl) (Nat.le_of_ble_eq_true rfl) ?_
  exact W.vret hx hb hr (fun t ht hW => ⟨⟨g, rfl, trivial, ⟨by rw [ht]; exact hP.sub [0, 1] rfl, hD.sub [0, 1] (by decide) rfl⟩⟩, hS.F ht⟩) hS.2.2 dX7_over_20
set_option maxHeartbeats 4000000 in
set_option maxRecDepth 100000 in
theorem lp_X7_overAll {p : Program} {l : Launch} {e : Env} {R : Room} {s : State} {m : MethodId} {args : Array Value} {below : List Frame} {meth : Method} {c : Code} {cells slots : Nat} {Q : State → Prop} {D : va_G} {E : Nat → ClassId} {A : Nat → Prop} {G : Nat → Nat} (hx : p.tables.exec = Jvm.exec) (hb : c.code = cX7_overAll) (htg : ∀ w ∈ oh_t, w.before args s = true) (hown : s.vm.findClass RX7 = some m.cls) (hK : va_K D vwCl (oh_ty E) s) (hml : c.maxLocals = 3) (hG : oh_G G A s) (hA : ∀ q, s.heap.size ≤ q → A q) (hR1 : 0 + 1 ≤ R.frames) (hR2 : 8 + (3 + 11) + 0 ≤ R.locals) (hc : cells ≤ R.cells) (hsl : slots ≤ R.slots) (a b : Nat) (r t : Nat → Nat) (n k : Nat) (M : Nat → Nat → Int32) (hn : n < 1000) (hk : k < 1000) (kk : ∀ (H : Heap) (locs : List Loc) (ls : Array Slot), va_S A s.heap H locs → W p l e R s m args below meth c H locs cells slots Q (F0 m 23 ls [])) :
    ∀ (d j : Nat) (T : Nat → Nat → Int32) (H : Heap) (locs : List Loc) (ls : Array Slot), j + d = n → va_P D vwCl ([(a, .inl (E 2, n, .inr (.inr (.inr (.inr (fun i => if i < n then some (r i) else none)))))), (b, .inl (E 2, n, .inr (.inr (.inr (.inr (fun i => if i < n then some (t i) else none))))))] ++ (oh_rs r n (fun i => .inl (E 0, k, .inl (M i))) ++ oh_rs t n (fun i => .inl (E 0, k, .inl (T i))))) H → va_D A ([(a, .inl (E 2, n, .inr (.inr (.inr (.inr (fun i => if i < n then some (r i) else none)))))), (b, .inl (E 2, n, .inr (.inr (.inr (.inr (fun i => if i < n then some (t i) else none))))))] ++ (oh_rs r n (fun i => .inl (E 0, k, .inl (M i))) ++ oh_rs t n (fun i => .inl (E 0, k, .inl (T i))))) → va_S A s.heap H locs → lv_has ls 3 [(2, .int (nI j)), (0, .ref a), (1, .ref b)] → W p l e R s m args below meth c H locs cells slots Q (F0 m 2 ls []) := by
  intro d
  induction d with
  | zero =>
    intro j T H locs ls hjk hP hD hS hl
    refine lv_iload_n hx hb dX7_overAll_2 rfl (lv_at hl 0 rfl) ?_
    refine lv_aload_n hx hb dX7_overAll_3 rfl (lv_at hl 1 rfl) ?_
    refine va_alen (v := Int32.ofNat n) hx hb hK hP 0 2 rfl rfl rfl dX7_overAll_4 ?_
    refine lv_icmp_ge (tgt := 23) hx hb dX7_overAll_5 (by decide) (fun _ => ?_) (fun c => absurd (show nI n ≤ nI j from nI_le (by omega) (by omega)) c)
    exact kk H locs ls hS
  | succ d ih =>
    intro j T H locs ls hjk hP hD hS hl
    have hjN : j < n := by omega
    refine lv_iload_n hx hb dX7_overAll_2 rfl (lv_at hl 0 rfl) ?_
    refine lv_aload_n hx hb dX7_overAll_3 rfl (lv_at hl 1 rfl) ?_
    refine va_alen (v := Int32.ofNat n) hx hb hK hP 0 2 rfl rfl rfl dX7_overAll_4 ?_
    refine lv_icmp_ge (tgt := 23) hx hb dX7_overAll_5 (by decide) (fun c => absurd c (show ¬ nI n ≤ nI j from nI_ge hjN (by omega))) (fun _ => ?_)
    refine lv_aload_n hx hb dX7_overAll_8 rfl (lv_at hl 1 rfl) ?_
    refine lv_iload_n hx hb dX7_overAll_9 rfl (lv_at hl 0 rfl) ?_
    refine oh_aald (r := r j) hx hb hK hP 0 2 rfl rfl (vp_in_nI hjN (by omega)) (by rw [nI_clamp (by omega)]; exact if_pos hjN) dX7_overAll_10 ?_
    refine lv_aload_n hx hb dX7_overAll_11 rfl (lv_at hl 2 rfl) ?_
    refine lv_iload_n hx hb dX7_overAll_12 rfl (lv_at hl 0 rfl) ?_
    refine oh_aald (r := t j) hx hb hK hP 1 2 rfl rfl (vp_in_nI hjN (by omega)) (by rw [nI_clamp (by omega)]; exact if_pos hjN) dX7_overAll_13 ?_
    have h1 : (([(a, .inl (E 2, n, .inr (.inr (.inr (.inr (fun i => if i < n then some (r i) else none)))))), (b, .inl (E 2, n, .inr (.inr (.inr (.inr (fun i => if i < n then some (t i) else none))))))] ++ (oh_rs r n (fun i => .inl (E 0, k, .inl (M i))) ++ oh_rs t n (fun i => .inl (E 0, k, .inl (T i))))))[2 + j]? = some (r j, .inl (E 0, k, .inl (M j))) := by
      rw [List.getElem?_append_right (by simp), List.getElem?_append_left (by rw [oh_rs_len]; simp; omega)]
      simp only [List.length_cons, List.length_nil]
      rw [show 2 + j - (0 + 1 + 1) = j by omega, oh_rs_at hjN]
    have h2 : (([(a, .inl (E 2, n, .inr (.inr (.inr (.inr (fun i => if i < n then some (r i) else none)))))), (b, .inl (E 2, n, .inr (.inr (.inr (.inr (fun i => if i < n then some (t i) else none))))))] ++ (oh_rs r n (fun i => .inl (E 0, k, .inl (M i))) ++ oh_rs t n (fun i => .inl (E 0, k, .inl (T i))))))[2 + (n + j)]? = some (t j, .inl (E 0, k, .inl (T j))) := by
      rw [List.getElem?_append_right (by simp), List.getElem?_append_right (by rw [oh_rs_len]; simp)]
      simp only [List.length_cons, List.length_nil, oh_rs_len]
      rw [show 2 + (n + j) - (0 + 1 + 1) - n = j by omega, oh_rs_at hjN]
    have hmap : ([2 + j, 2 + (n + j)] : List Nat).map (fun i => (([(a, .inl (E 2, n, .inr (.inr (.inr (.inr (fun i => if i < n then some (r i) else none)))))), (b, .inl (E 2, n, .inr (.inr (.inr (.inr (fun i => if i < n then some (t i) else none))))))] ++ (oh_rs r n (fun i => .inl (E 0, k, .inl (M i))) ++ oh_rs t n (fun i => .inl (E 0, k, .inl (T i))))))[i]?) = ([(r j, .inl (E 0, k, .inl (M j))), (t j, .inl (E 0, k, .inl (T j)))] : va_W).map some := by
      simp only [List.map_cons, List.map_nil]
      rw [h1, h2]
    have hnd : va_nd [2 + j, 2 + (n + j)] = true := by
      simp [va_nd]
      omega
    refine oh_mSr (As := [.ref (r j), .ref (t j)]) (rest := []) (wc := [(r j, .inl (E 0, k, .inl (M j))), (t j, .inl (E 0, k, .inl (T j)))]) ⟨hx, hb, hml, hown, htg⟩ (c_X7_over l D E G H.size (r j) (t j) (M j) k (T j) hk) (va_cwS 2 htg (oh_gS q_1434 q_1435 q_73 q_1436) rfl rfl rfl pdX7_over ⟨hR1, hR2⟩) hK (hP.sub _ (oh_fm hmap)) (hD.sub _ hnd hmap) (va_free hD hS hA _ hmap) hG hS rfl hl.1 rfl (Nat.le_of_ble_eq_true rfl) dX7_overAll_14 ⟨hc, hsl⟩ (fun g H1 locs1 _ hP1 hD1 hk1 hS1 => ?_)
    have hkeep : ∀ q : Nat, q < H.size → q ≠ t j → H1[q]? = H[q]? := by
      intro q hq hne
      by_cases e : q = r j
      · subst e
        have x1 : H1[r j]? = some (vp_cell (E 0) (k, .inl (M j))) := hP1 0 _ rfl
        have x2 : H[r j]? = some (vp_cell (E 0) (k, .inl (M j))) := hP _ _ h1
        rw [x1, x2]
      · refine hk1 q hq (fun h => ?_)
        rcases h with ⟨i, z, h⟩ | h
        · match i, h with
          | 0, h => cases h; exact e rfl
          | 1, h => cases h; exact hne rfl
          | i + 2, h => simp at h
        · omega
    obtain ⟨hP2, hD2⟩ := oh_putc hP hD h2 hkeep (hP1 1 _ rfl)
    have eset : ((([(a, .inl (E 2, n, .inr (.inr (.inr (.inr (fun i => if i < n then some (r i) else none)))))), (b, .inl (E 2, n, .inr (.inr (.inr (.inr (fun i => if i < n then some (t i) else none))))))] ++ (oh_rs r n (fun i => .inl (E 0, k, .inl (M i))) ++ oh_rs t n (fun i => .inl (E 0, k, .inl (T i))))) : va_W)).set (2 + (n + j)) (t j, .inl (E 0, k, .inl g)) = ([(a, .inl (E 2, n, .inr (.inr (.inr (.inr (fun i => if i < n then some (r i) else none)))))), (b, .inl (E 2, n, .inr (.inr (.inr (.inr (fun i => if i < n then some (t i) else none))))))] ++ (oh_rs r n (fun i => .inl (E 0, k, .inl (M i))) ++ oh_rs t n (fun i => .inl (E 0, k, .inl (va_up T j g i))))) := by
      rw [List.set_append_right _ _ (by simp), List.set_append_right _ _ (by rw [oh_rs_len]; simp)]
      simp only [List.length_cons, List.length_nil, oh_rs_len]
      rw [show 2 + (n + j) - (0 + 1 + 1) - n = j by omega, oh_rs_set hjN]
      congr 3
      funext i
      by_cases hi : i = j
      · subst hi
        rw [va_up_self, va_up_self]
      · rw [va_up_ne _ _ hi, va_up_ne _ _ hi]
    rw [eset] at hP2 hD2
    refine W.widen (k := cells) (n := slots) (Nat.le_refl _) (Nat.le_refl _) ?_
    refine lv_iinc (v := nI (j + 1)) (lv' := [(2, .int (nI (j + 1))), (0, .ref a), (1, .ref b)]) hx hb dX7_overAll_17 hl (k := 0) rfl (by exact nI_1 j) (by decide) rfl (fun ls hl => ?_)
    refine lv_goto (tgt := 2) hx hb dX7_overAll_20 (by decide) ?_
    exact ih (j + 1) (va_up T j g) H1 locs1 ls (by omega) hP2 hD2 hS1 hl
set_option maxHeartbeats 4000000 in
set_option maxRecDepth 100000 in
theorem c_X7_overAll (l : Launch) (D : va_G) (E : Nat → ClassId) (G : Nat → Nat) (sz : Nat) (a b : Nat) (r t : Nat → Nat) (n k : Nat) (M T : Nat → Nat → Int32) (hn : n < 1000) (hk : k < 1000) : Met l yX7_overAll (oh_w yX7_overAll cX7_overAll 3 none) ({ frames := 1, cells := 0, slots := 0, locals := 22 }) (oh_Pm D E G [.ref a, .ref b] ([(a, .inl (E 2, n, .inr (.inr (.inr (.inr (fun i => if i < n then some (r i) else none)))))), (b, .inl (E 2, n, .inr (.inr (.inr (.inr (fun i => if i < n then some (t i) else none))))))] ++ (oh_rs r n (fun i => .inl (E 0, k, .inl (M i))) ++ oh_rs t n (fun i => .inl (E 0, k, .inl (T i))))) sz) (va_Qv (fun (_ : Unit) => True) (oh_B D (va_A ([(a, .inl (E 2, n, .inr (.inr (.inr (.inr (fun i => if i < n then some (r i) else none)))))), (b, .inl (E 2, n, .inr (.inr (.inr (.inr (fun i => if i < n then some (t i) else none))))))] ++ (oh_rs r n (fun i => .inl (E 0, k, .inl (M i))) ++ oh_rs t n (fun i => .inl (E 0, k, .inl (T i))))) sz) (fun _ => [])) (va_A ([(a, .inl (E 2, n, .inr (.inr (.inr (.inr (fun i => if i < n then some (r i) else none)))))), (b, .inl (E 2, n, .inr (.inr (.inr (.inr (fun i => if i < n then some (t i) else none))))))] ++ (oh_rs r n (fun i => .inl (E 0, k, .inl (M i))) ++ oh_rs t n (fun i => .inl (E 0, k, .inl (T i))))) sz)) 0 0 (va_A ([(a, .inl (E 2, n, .inr (.inr (.inr (.inr (fun i => if i < n then some (r i) else none)))))), (b, .inl (E 2, n, .inr (.inr (.inr (.inr (fun i => if i < n then some (t i) else none))))))] ++ (oh_rs r n (fun i => .inl (E 0, k, .inl (M i))) ++ oh_rs t n (fun i => .inl (E 0, k, .inl (T i))))) sz) := by
  refine Met.ofW (cc := cX7_overAll) (maxL := 3) (ret := none) (by decide) rfl ?_
  intro p e s m args below meth c s₁ B hml hv
  obtain ⟨rfl, hsz, hP, hK, hD0, hG⟩ := hv
  have hx := B.exec
  have hb := B.bytes
  have hr := B.returns
  have hts := atoms_spec (ws := (oh_w yX7_overAll cX7_overAll 3 none)) B.pre
  have htg : ∀ w ∈ oh_t, w.before _ s = true := fun w h => hts w (List.mem_cons_of_mem _ h)
  have hown : s.vm.findClass RX7 = some m.cls := findClass_of_methodNamed B.named
  have hlocks := B.notSynchronized
  subst hsz
  have hD := hD0.self (sz := s.heap.size)
  generalize hAe : va_A ([(a, .inl (E 2, n, .inr (.inr (.inr (.inr (fun i => if i < n then some (r i) else none)))))), (b, .inl (E 2, n, .inr (.inr (.inr (.inr (fun i => if i < n then some (t i) else none))))))] ++ (oh_rs r n (fun i => .inl (E 0, k, .inl (M i))) ++ oh_rs t n (fun i => .inl (E 0, k, .inl (T i))))) s.heap.size = A at hD hG ⊢
  have hA : ∀ q : Nat, s.heap.size ≤ q → A q := fun q h => by rw [← hAe]; exact Or.inr h
  have hS : va_S A s.heap s.heap [] := va_S.rf
  have hl := lv_entry ([.ref a, .ref b]) (n := 3) (Nat.le_of_ble_eq_true rfl)
  rw [lg_entry_eq]
  generalize (lg_sl ([.ref a, .ref b]) ++ List.replicate (3 - (lg_sl ([.ref a, .ref b])).length) Slot.unset).toArray = ls at hl ⊢
  have hl : lv_has ls 3 [(0, .ref a), (1, .ref b)] := hl
  refine lv_iconst (v := 0) hx hb dX7_overAll_0 (by decide) ?_
  refine lv_istore_n (lv' := [(2, .int 0), (0, .ref a), (1, .ref b)]) hx hb dX7_overAll_1 rfl hl (by decide) rfl (fun ls hl => ?_)
  refine lp_X7_overAll hx hb htg hown hK hml hG hA (Nat.le_of_ble_eq_true rfl) (Nat.le_of_ble_eq_true rfl) (Nat.le_of_ble_eq_true rfl) (Nat.le_of_ble_eq_true rfl) a b r t n k M hn hk (fun H locs ls hS => ?_) n 0 T s.heap [] ls (by omega) hP hD hS (by rw [nI_0]; exact hl)
  exact W.vret hx hb hr (fun t ht hW => ⟨⟨(), rfl, trivial, ⟨fun k q h => by simp at h, ⟨fun i j p q h => by simp at h, fun k q h => by simp at h⟩⟩⟩, hS.F ht⟩) hS.2.2 dX7_overAll_23
