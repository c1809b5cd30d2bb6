/-! THE LAW: the class's world wx and the reference's wm side by side. -/
theorem oh_tl (wx wm : va_W) : ((List.range wm.length).map (fun i => wx.length + i)).map (fun i => (wx ++ wm)[i]?) = wm.map some := by
  rw [List.map_map]
  apply List.ext_getElem?
  intro i
  rw [List.getElem?_map, List.getElem?_map]
  by_cases h : i < wm.length
  · rw [List.getElem?_range h, List.getElem?_eq_getElem h]
    simp only [Option.map_some, Function.comp]
    rw [List.getElem?_append_right (by omega), Nat.add_sub_cancel_left, List.getElem?_eq_getElem h]
  · rw [List.getElem?_eq_none (by rw [List.length_range]; omega), List.getElem?_eq_none (by omega)]
    rfl
theorem oh_nd : ∀ (l : List Nat), l.Nodup → va_nd l = true
  | [], _ => rfl
  | a :: l, h => by
    rw [List.nodup_cons] at h
    simp only [va_nd, Bool.and_eq_true, decide_eq_true_eq]
    exact ⟨h.1, oh_nd l h.2⟩
theorem oh_ndr (c n : Nat) : va_nd ((List.range n).map (fun i => c + i)) = true := by
  apply oh_nd
  rw [List.nodup_iff_pairwise_ne, List.pairwise_map]
  exact List.nodup_range.imp (fun h e => h (by omega))
theorem oh_pre_P {D : va_G} {a b : va_W} {H : Heap} (h : va_P D vwCl (a ++ b) H) : va_P D vwCl a H := fun k q hq => h k q (by rw [List.getElem?_append_left (List.getElem?_eq_some_iff.mp hq).1]; exact hq)
theorem oh_suf_P {D : va_G} {a b : va_W} {H : Heap} (h : va_P D vwCl (a ++ b) H) : va_P D vwCl b H := fun k q hq => h (a.length + k) q (by rw [List.getElem?_append_right (by omega), Nat.add_sub_cancel_left]; exact hq)
theorem oh_swi {a b : va_W} {k : Nat} {q : Nat × va_E} (hq : (b ++ a)[k]? = some q) : (a ++ b)[if k < b.length then a.length + k else k - b.length]? = some q := by
  by_cases hk : k < b.length
  · rw [if_pos hk]
    rw [List.getElem?_append_left hk] at hq
    rw [List.getElem?_append_right (by omega), Nat.add_sub_cancel_left]
    exact hq
  · rw [if_neg hk]
    rw [List.getElem?_append_right (by omega)] at hq
    rw [List.getElem?_append_left (List.getElem?_eq_some_iff.mp hq).1]
    exact hq
theorem oh_swP {D : va_G} {a b : va_W} {H : Heap} (h : va_P D vwCl (a ++ b) H) : va_P D vwCl (b ++ a) H := fun _ q hq => h _ q (oh_swi hq)
theorem oh_swD {A : Nat → Prop} {a b : va_W} (h : va_D A (a ++ b)) : va_D A (b ++ a) := by
  refine ⟨fun i j p q hi hj e => ?_, fun k q hk => h.2 _ q (oh_swi hk)⟩
  have h1 := h.1 _ _ p q (oh_swi hi) (oh_swi hj) e
  have li := (List.getElem?_eq_some_iff.mp hi).1
  have lj := (List.getElem?_eq_some_iff.mp hj).1
  rw [List.length_append] at li lj
  by_cases c1 : i < b.length
  · by_cases c2 : j < b.length
    · rw [if_pos c1, if_pos c2] at h1
      omega
    · rw [if_pos c1, if_neg c2] at h1
      omega
  · by_cases c2 : j < b.length
    · rw [if_neg c1, if_pos c2] at h1
      omega
    · rw [if_neg c1, if_neg c2] at h1
      omega
section LWC
variable {p : Program} {l : Launch} {e : Env} {R : Room} {s : State} {m : MethodId} {args : Array Value} {below : List Frame} {meth : Method} {c : Code} {H : Heap} {locs : List Loc} {cells slots : Nat} {Q : State → Prop}
variable {cc bytes : ByteArray} {pc nL maxL mc ms nn index b : Nat} {ls : Array Slot} {st0 rest As : List Value} {D : va_G} {E : Nat → ClassId} {G : Nat → Nat} {A : Nat → Prop} {wx wm : va_W} {own CN : String} {y : MethodName} {ret : Option FieldType} {rm : Room}
theorem lw_cX {S : Type} {post : Int32 → S → Prop} {W1 : S → va_W} (Sx : CallFix p m c cc nL s args oh_t own) (hM : Met l y (oh_w y bytes maxL ret) rm (oh_Pm D E G (.ref b :: As) wx H.size) (va_Qi post (oh_B D (va_A wx H.size) W1) (va_A wx H.size)) mc ms (va_A wx H.size)) (cw : CallW R s args own CN index y bytes maxL ret (oh_w y bytes maxL ret) rm mc ms nn) (hK : va_K D vwCl (oh_ty E) s) (hP : va_P D vwCl (wx ++ wm) H) (hD : va_D A (wx ++ wm)) (hG : oh_G G A s) (hS : va_S A s.heap H locs) (hA : ∀ q, s.heap.size ≤ q → A q) (hrec : ∃ cell : Cell, H[b]? = some cell ∧ cell.vm.isStatics = false ∧ s.vm.findClass CN = some cell.cls)
    (hn : As.length = nn) (hsize : ls.size = nL) (hst : st0 = As.reverse ++ .ref b :: rest) (hW : (rest.map fun v => v.category).sum ≤ 8) (hdg : decode cc pc = .ok (.invokevirtual index, 3)) (hf : cells + mc ≤ R.cells ∧ slots + ms ≤ R.slots)
    (kk : ∀ (r : Int32) (u : S) (H1 : Heap) (locs1 : List Loc), post r u → va_P D vwCl (W1 u ++ wm) H1 → va_D A (W1 u ++ wm) → va_S A s.heap H1 locs1 → W p l e R s m args below meth c H1 locs1 (cells + mc) (slots + ms) Q (F0 m (pc + 3) ls (.int r :: rest))) : W p l e R s m args below meth c H locs cells slots Q (F0 m pc ls st0) :=
  oh_mV (wr := wm) Sx hM cw hK hP hD hG hS hA (List.range wx.length) ((List.range wm.length).map (fun i => wx.length + i)) (oh_hdp wx wm) (oh_tl wx wm) (oh_nd1 _ List.nodup_range) (oh_ndr _ _) (fun i hi h2 => by
    obtain ⟨j, -, rfl⟩ := List.mem_map.mp hi
    have := List.mem_range.mp h2
    omega) hrec hn hsize hst hW hdg hf (fun r u H1 locs1 hw hP1 hD1 hS1 => kk r u H1 locs1 hw (oh_swP hP1) (oh_swD hD1) hS1)
theorem lw_cXl {S : Type} {post : Int64 → S → Prop} {W1 : S → va_W} (Sx : CallFix p m c cc nL s args oh_t own) (hM : Met l y (oh_w y bytes maxL ret) rm (oh_Pm D E G (.ref b :: As) wx H.size) (va_Ql post (oh_B D (va_A wx H.size) W1) (va_A wx H.size)) mc ms (va_A wx H.size)) (cw : CallW R s args own CN index y bytes maxL ret (oh_w y bytes maxL ret) rm mc ms nn) (hK : va_K D vwCl (oh_ty E) s) (hP : va_P D vwCl (wx ++ wm) H) (hD : va_D A (wx ++ wm)) (hG : oh_G G A s) (hS : va_S A s.heap H locs) (hA : ∀ q, s.heap.size ≤ q → A q) (hrec : ∃ cell : Cell, H[b]? = some cell ∧ cell.vm.isStatics = false ∧ s.vm.findClass CN = some cell.cls)
    (hn : As.length = nn) (hsize : ls.size = nL) (hst : st0 = As.reverse ++ .ref b :: rest) (hW : (rest.map fun v => v.category).sum ≤ 8) (hdg : decode cc pc = .ok (.invokevirtual index, 3)) (hf : cells + mc ≤ R.cells ∧ slots + ms ≤ R.slots)
    (kk : ∀ (r : Int64) (u : S) (H1 : Heap) (locs1 : List Loc), post r u → va_P D vwCl (W1 u ++ wm) H1 → va_D A (W1 u ++ wm) → va_S A s.heap H1 locs1 → W p l e R s m args below meth c H1 locs1 (cells + mc) (slots + ms) Q (F0 m (pc + 3) ls (.long r :: rest))) : W p l e R s m args below meth c H locs cells slots Q (F0 m pc ls st0) :=
  oh_mVl (wr := wm) Sx hM cw hK hP hD hG hS hA (List.range wx.length) ((List.range wm.length).map (fun i => wx.length + i)) (oh_hdp wx wm) (oh_tl wx wm) (oh_nd1 _ List.nodup_range) (oh_ndr _ _) (fun i hi h2 => by
    obtain ⟨j, -, rfl⟩ := List.mem_map.mp hi
    have := List.mem_range.mp h2
    omega) hrec hn hsize hst hW hdg hf (fun r u H1 locs1 hw hP1 hD1 hS1 => kk r u H1 locs1 hw (oh_swP hP1) (oh_swD hD1) hS1)
theorem lw_cM {S : Type} {post : Int32 → S → Prop} {W1 : S → va_W} (Sx : CallFix p m c cc nL s args oh_t own) (hM : Met l y (oh_w y bytes maxL ret) rm (oh_Pm D E G (.ref b :: As) wm H.size) (va_Qi post (oh_B D (va_A wm H.size) W1) (va_A wm H.size)) mc ms (va_A wm H.size)) (cw : CallW R s args own CN index y bytes maxL ret (oh_w y bytes maxL ret) rm mc ms nn) (hK : va_K D vwCl (oh_ty E) s) (hP : va_P D vwCl (wx ++ wm) H) (hD : va_D A (wx ++ wm)) (hG : oh_G G A s) (hS : va_S A s.heap H locs) (hA : ∀ q, s.heap.size ≤ q → A q) (hrec : ∃ cell : Cell, H[b]? = some cell ∧ cell.vm.isStatics = false ∧ s.vm.findClass CN = some cell.cls)
    (hn : As.length = nn) (hsize : ls.size = nL) (hst : st0 = As.reverse ++ .ref b :: rest) (hW : (rest.map fun v => v.category).sum ≤ 8) (hdg : decode cc pc = .ok (.invokevirtual index, 3)) (hf : cells + mc ≤ R.cells ∧ slots + ms ≤ R.slots)
    (kk : ∀ (r : Int32) (u : S) (H1 : Heap) (locs1 : List Loc), post r u → va_P D vwCl (wx ++ W1 u) H1 → va_D A (wx ++ W1 u) → va_S A s.heap H1 locs1 → W p l e R s m args below meth c H1 locs1 (cells + mc) (slots + ms) Q (F0 m (pc + 3) ls (.int r :: rest))) : W p l e R s m args below meth c H locs cells slots Q (F0 m pc ls st0) :=
  oh_mV (wr := wx) Sx hM cw hK hP hD hG hS hA ((List.range wm.length).map (fun i => wx.length + i)) (List.range wx.length) (oh_tl wx wm) (oh_hdp wx wm) (oh_ndr _ _) (oh_nd1 _ List.nodup_range) (fun i hi h2 => by
    obtain ⟨j, -, rfl⟩ := List.mem_map.mp h2
    have := List.mem_range.mp hi
    omega) hrec hn hsize hst hW hdg hf kk
theorem lw_cMl {S : Type} {post : Int64 → S → Prop} {W1 : S → va_W} (Sx : CallFix p m c cc nL s args oh_t own) (hM : Met l y (oh_w y bytes maxL ret) rm (oh_Pm D E G (.ref b :: As) wm H.size) (va_Ql post (oh_B D (va_A wm H.size) W1) (va_A wm H.size)) mc ms (va_A wm H.size)) (cw : CallW R s args own CN index y bytes maxL ret (oh_w y bytes maxL ret) rm mc ms nn) (hK : va_K D vwCl (oh_ty E) s) (hP : va_P D vwCl (wx ++ wm) H) (hD : va_D A (wx ++ wm)) (hG : oh_G G A s) (hS : va_S A s.heap H locs) (hA : ∀ q, s.heap.size ≤ q → A q) (hrec : ∃ cell : Cell, H[b]? = some cell ∧ cell.vm.isStatics = false ∧ s.vm.findClass CN = some cell.cls)
    (hn : As.length = nn) (hsize : ls.size = nL) (hst : st0 = As.reverse ++ .ref b :: rest) (hW : (rest.map fun v => v.category).sum ≤ 8) (hdg : decode cc pc = .ok (.invokevirtual index, 3)) (hf : cells + mc ≤ R.cells ∧ slots + ms ≤ R.slots)
    (kk : ∀ (r : Int64) (u : S) (H1 : Heap) (locs1 : List Loc), post r u → va_P D vwCl (wx ++ W1 u) H1 → va_D A (wx ++ W1 u) → va_S A s.heap H1 locs1 → W p l e R s m args below meth c H1 locs1 (cells + mc) (slots + ms) Q (F0 m (pc + 3) ls (.long r :: rest))) : W p l e R s m args below meth c H locs cells slots Q (F0 m pc ls st0) :=
  oh_mVl (wr := wx) Sx hM cw hK hP hD hG hS hA ((List.range wm.length).map (fun i => wx.length + i)) (List.range wx.length) (oh_tl wx wm) (oh_hdp wx wm) (oh_ndr _ _) (oh_nd1 _ List.nodup_range) (fun i hi h2 => by
    obtain ⟨j, -, rfl⟩ := List.mem_map.mp h2
    have := List.mem_range.mp hi
    omega) hrec hn hsize hst hW hdg hf kk
end LWC
/-- the kept model -/
def KEPT (E : Nat → ClassId) (n : Nat) (b : Nat → Nat) (M : Nat → va_E) : Prop := (n = 74 ∧ gv (M 0) 20 = .null) ∨ (n = 148 ∧ gv (M 0) 20 = .ref (b 74) ∧ TyM (shf 74 b) E (shf 74 M) ∧ RelW (shf 74 M))
theorem KEPT.le {E : Nat → ClassId} {n : Nat} {b : Nat → Nat} {M : Nat → va_E} (h : KEPT E n b M) : 74 ≤ n ∧ n ≤ 148 := by
  rcases h with h | h
  · omega
  · omega
theorem kept_fr {E : Nat → ClassId} {n : Nat} {b : Nat → Nat} {M u : Nat → va_E} {mc : List (Nat × Nat)} {mf : List Nat} (h : KEPT E n b M) (hf : fr mc mf M u) (hd : (mc.all (fun p => Nat.ble p.2 74) && !(mf.contains 20)) = true) : KEPT E n b u := by
  rw [Bool.and_eq_true] at hd
  have e20 : gv (u 0) 20 = gv (M 0) 20 := hf.2 20 (by simpa using hd.2)
  have es : shf 74 u = shf 74 M := by
    funext k
    refine hf.1 (74 + k) ?_ (by omega)
    cases e : inR mc (74 + k) with
    | false => rfl
    | true =>
      unfold inR at e
      rw [List.any_eq_true] at e
      obtain ⟨p, hp, h1⟩ := e
      rw [Bool.and_eq_true, Nat.ble_eq, Nat.blt_eq] at h1
      have h2 := List.all_eq_true.mp hd.1 p hp
      rw [Nat.ble_eq] at h2
      omega
  unfold KEPT
  rw [e20, es]
  exact h
theorem lw_ix {i L : Nat} (hi : i + 8 ≤ L) (hL : L ≤ 4096) {j : Int32} {k : Int} (hj : rg j k k) (hd : decide (0 ≤ k ∧ k < 8) = true) : vp_in (nI i + j) L := by
  have h2 := of_decide_eq_true hd
  have e1 : (nI i).toInt = (i : Int) := nI_toInt (by omega)
  obtain ⟨a1, a2⟩ := hj
  have e2 : (nI i + j).toInt = (i : Int) + j.toInt := by
    rw [Int32.toInt_add, e1]
    exact oh_bmod (by omega) (by omega)
  exact vp_in_iff.mpr ⟨by rw [e2]; omega, by rw [e2]; omega⟩

/-- what is kept agrees -/
def TIEK (n : Nat) (C M : Nat → va_E) : Prop := n = 74 ∨ ∃ (A : LA) (T : TP), absX 17 C A ∧ absM (shf 74 M) A ∧ okA A ∧ absTX 2 23 C T ∧ absTM (shf 74 M) T
theorem TIEK.x {n : Nat} {C u M : Nat → va_E} (h : TIEK n C M) (e : ∀ k, 17 ≤ k → k ≤ 23 → u k = C k) (e2 : u 2 = C 2) : TIEK n u M := by
  rcases h with h | ⟨A, T, h1, h2, h3, h4, h5⟩
  · exact Or.inl h
  · exact Or.inr ⟨A, T, absX_eq h1 (fun k k1 k2 => e k k1 (by omega)), h2, h3, absTX_eq h4 (congrArg (fun z => gi z 7) e2) (e 23 (by decide) (by decide)), h5⟩
theorem shf_fr {M u : Nat → va_E} {mc : List (Nat × Nat)} {mf : List Nat} (hf : fr mc mf M u) (hd : (mc.all (fun p => Nat.ble p.2 74)) = true) : shf 74 u = shf 74 M := by
  funext k
  refine hf.1 (74 + k) ?_ (by omega)
  cases e : inR mc (74 + k) with
  | false => rfl
  | true =>
    unfold inR at e
    rw [List.any_eq_true] at e
    obtain ⟨p, hp, h1⟩ := e
    rw [Bool.and_eq_true, Nat.ble_eq, Nat.blt_eq] at h1
    have h2 := List.all_eq_true.mp hd p hp
    rw [Nat.ble_eq] at h2
    omega
theorem TIEK.m {n : Nat} {C M u : Nat → va_E} {mc : List (Nat × Nat)} {mf : List Nat} (h : TIEK n C M) (hf : fr mc mf M u) (hd : (mc.all (fun p => Nat.ble p.2 74)) = true) : TIEK n C u := by
  unfold TIEK
  rw [shf_fr hf hd]
  exact h
theorem TIEK.k {n : Nat} {C M : Nat → va_E} (h : TIEK n C M) (hn : n ≠ 74) : ∃ (A : LA) (T : TP), absX 17 C A ∧ absM (shf 74 M) A ∧ okA A ∧ absTX 2 23 C T ∧ absTM (shf 74 M) T := by
  rcases h with h | h
  · exact absurd h hn
  · exact h
theorem absX_g1 {C u : Nat → va_E} {A : LA} {mc : List (Nat × Nat)} {mf : List Nat} (x : Nat) (h : absX 10 C A) (hf : fr mc mf C u) (e : ga (u x) = ga (C x)) (hd : ((List.range (15 + 1)).all (fun k => Nat.blt k 10 || Nat.beq k x || (!(inR mc k) && !(Nat.beq k 0)))) = true) : absX 10 u A := by
  refine absX_ga h (fun k k1 k2 => ?_)
  by_cases q : k = x
  · rw [q]
    exact e
  · rw [fr_ex hf 10 15 x hd k k1 (by omega) q]
theorem absM_n {a : Nat → Nat} {E : Nat → ClassId} {C u : Nat → va_E} {A : LA} (h : absM C A) (hT : TyM a E C) (e : ∀ k, k ≠ 0 → k < 74 → u k = C k) (e0 : ∀ i, i ≠ 20 → gv (u 0) i = gv (C 0) i) : absM u A := by
  refine absM_eq h (fun s hs => congrArg vi (e0 _ (by omega))) (e 13 (by decide) (by decide)) (fun s hs i hi => e _ (by have := blk_lo hs; omega) ?_)
  have h1 := (cntM hT s hs).2
  rcases (show s = 0 ∨ s = 1 ∨ s = 2 ∨ s = 3 by omega) with rfl | rfl | rfl | rfl <;> simp only [blk, blkN] at * <;> omega
theorem landR_u {R : Except Int32 (LA × Int32)} {A0 B1 B2 : LA} {r1 r2 : Int32} (h1 : LandR R A0 B1 r1) (h2 : LandR R A0 B2 r2) : r1 = r2 ∧ B1 = B2 := by
  cases R with
  | error e => exact ⟨h1.1.trans h2.1.symm, h1.2.trans h2.2.symm⟩
  | ok y => exact ⟨h1.1.trans h2.1.symm, h1.2.trans h2.2.symm⟩
theorem absX00 (E : Nat → ClassId) (a : Nat → Nat) : absX 10 (cx0 E a) A00 := by
  refine ⟨fun t ht => ?_, fun j hj => ?_, fun t ht i hi => ?_⟩
  · rcases (show t = 0 ∨ t = 1 ∨ t = 2 ∨ t = 3 by omega) with rfl | rfl | rfl | rfl <;> rfl
  · rcases (show j = 0 ∨ j = 1 ∨ j = 2 by omega) with rfl | rfl | rfl <;> rfl
  · have h : (A00 5 0 t).toInt = 0 := rfl
    omega
theorem absM00 (E : Nat → ClassId) (a : Nat → Nat) : absM (cm0 E a) A00 := by
  refine ⟨fun t ht => ?_, fun j hj => ?_, fun t ht i hi => ?_⟩
  · rcases (show t = 0 ∨ t = 1 ∨ t = 2 ∨ t = 3 by omega) with rfl | rfl | rfl | rfl <;> rfl
  · rcases (show j = 0 ∨ j = 1 ∨ j = 2 by omega) with rfl | rfl | rfl <;> rfl
  · have h : (A00 5 0 t).toInt = 0 := rfl
    omega
def T00 : TP := fun _ => 0
theorem absTX00 (E : Nat → ClassId) (a : Nat → Nat) : absTX 1 16 (cx0 E a) T00 := ⟨rfl, rfl, rfl, rfl, rfl, rfl, rfl, rfl⟩
theorem absTM00 (E : Nat → ClassId) (ma : Nat → Nat) : absTM (cm0 E ma) T00 := tm_mk rfl rfl rfl rfl rfl rfl rfl rfl

theorem absHX00 (E : Nat → ClassId) (a : Nat → Nat) : absHX (cx0 E a) (fun _ => -1, fun _ => 0) := by
  intro s hs
  rcases (show s = 0 ∨ s = 1 ∨ s = 2 ∨ s = 3 ∨ s = 4 ∨ s = 5 ∨ s = 6 ∨ s = 7 by omega) with rfl | rfl | rfl | rfl | rfl | rfl | rfl | rfl <;> exact ⟨rfl, Or.inl rfl, fun q => absurd rfl q.1⟩
theorem absHM00 (E : Nat → ClassId) (ma : Nat → Nat) : absHM (cm0 E ma) (fun _ => -1, fun _ => 0) := by
  intro s hs
  rcases (show s = 0 ∨ s = 1 ∨ s = 2 ∨ s = 3 ∨ s = 4 ∨ s = 5 ∨ s = 6 ∨ s = 7 by omega) with rfl | rfl | rfl | rfl | rfl | rfl | rfl | rfl <;> exact ⟨Or.inl rfl, fun _ => rfl, fun q => absurd rfl q.1, fun q => absurd q (by decide)⟩

theorem absEX00 (E : Nat → ClassId) (a : Nat → Nat) : absEX (cx0 E a) (fun _ => -1, fun _ => 0) (fun _ _ => 0) := fun s hs hr => absurd rfl hr.1
theorem absEM00 (E : Nat → ClassId) (ma : Nat → Nat) : absEM (cm0 E ma) (fun _ => -1, fun _ => 0) (fun _ _ => 0) := fun s hs hr => absurd rfl hr.1
