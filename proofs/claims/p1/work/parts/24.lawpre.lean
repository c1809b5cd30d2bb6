/-! THE LAW: the class's world wx and the reference's wm side by side. -/
theorem oh_tl (wx wm : va_W) : ((List.range wm.length).map (fun i => wx.length + i)).map (fun i => (wx ++ wm)[i]?) = wm.map some := by
  rw [List.map_map]
  apply List.ext_getElem?
  intro i
  rw [List.getElem?_map, List.getElem?_map]
  by_cases h : i < wm.length
  · rw [List.getElem?_range h, List.getElem?_eq_getElem h]
    simp only [Option.map_some, Function.comp]
    rw [List.getElem?_append_right (by omega), Nat.add_sub_cancel_left, List.getElem?_eq_getElem h]
  · rw [List.getElem?_eq_none (by rw [List.length_range]; omega), List.getElem?_eq_none (by omega)]
    rfl
theorem oh_nd : ∀ (l : List Nat), l.Nodup → va_nd l = true
  | [], _ => rfl
  | a :: l, h => by
    rw [List.nodup_cons] at h
    simp only [va_nd, Bool.and_eq_true, decide_eq_true_eq]
    exact ⟨h.1, oh_nd l h.2⟩
theorem oh_ndr (c n : Nat) : va_nd ((List.range n).map (fun i => c + i)) = true := by
  apply oh_nd
  rw [List.nodup_iff_pairwise_ne, List.pairwise_map]
  exact List.nodup_range.imp (fun h e => h (by omega))
theorem oh_pre_P {D : va_G} {a b : va_W} {H : Heap} (h : va_P D vwCl (a ++ b) H) : va_P D vwCl a H := fun k q hq => h k q (by rw [List.getElem?_append_left (List.getElem?_eq_some_iff.mp hq).1]; exact hq)
theorem oh_pre_D {A : Nat → Prop} {a b : va_W} (h : va_D A (a ++ b)) : va_D A a := by
  have e : ∀ (k : Nat) (q : Nat × va_E), a[k]? = some q → (a ++ b)[k]? = some q := fun k q hq => by rw [List.getElem?_append_left (List.getElem?_eq_some_iff.mp hq).1]; exact hq
  exact ⟨fun i j p q hi hj => h.1 i j p q (e i p hi) (e j q hj), fun k q hk => h.2 k q (e k q hk)⟩
section OHL
variable {p : Program} {l : Launch} {e : Env} {R : Room} {s : State} {m : MethodId} {args : Array Value} {below : List Frame} {meth : Method} {c : Code} {H : Heap} {locs : List Loc} {cells slots : Nat} {Q : State → Prop}
variable {cc bytes : ByteArray} {pc nL maxL mc ms n index b : Nat} {ls : Array Slot} {st0 rest As : List Value} {D : va_G} {E : Nat → ClassId} {G : Nat → Nat} {A : Nat → Prop} {wx wm wc : va_W} {own C : String} {y : MethodName} {ret : Option FieldType} {rm : Room}
theorem oh_lV {S : Type} {post : Int32 → S → Prop} {W1 : S → va_W} (Sx : CallFix p m c cc nL s args oh_t own) (hM : Met l y (oh_w y bytes maxL ret) rm (oh_Pm D E G (.ref b :: As) wc H.size) (va_Qi post (oh_B D (va_A wc H.size) W1) (va_A wc H.size)) mc ms (va_A wc H.size)) (cw : CallW R s args own C index y bytes maxL ret (oh_w y bytes maxL ret) rm mc ms n) (hK : va_K D vwCl (oh_ty E) s) (hP : va_P D vwCl (wx ++ wm) H) (hD : va_D A (wx ++ wm)) (hG : oh_G G A s) (hS : va_S A s.heap H locs) (hA : ∀ q, s.heap.size ≤ q → A q)
    (isC : List Nat) (hC : isC.map (fun i => (wx ++ wm)[i]?) = wc.map some) (hnC : va_nd isC = true) (hlt : ∀ i ∈ isC, i < wx.length) (hrec : ∃ cell : Cell, H[b]? = some cell ∧ cell.vm.isStatics = false ∧ s.vm.findClass C = some cell.cls)
    (hn : As.length = n) (hsize : ls.size = nL) (hst : st0 = As.reverse ++ .ref b :: rest) (hW : (rest.map fun v => v.category).sum ≤ 8) (hdg : decode cc pc = .ok (.invokevirtual index, 3)) (hf : cells + mc ≤ R.cells ∧ slots + ms ≤ R.slots)
    (kk : ∀ (r : Int32) (u : S) (H1 : Heap) (locs1 : List Loc), post r u → va_P D vwCl wm H1 → va_D A wm → va_S A s.heap H1 locs1 → W p l e R s m args below meth c H1 locs1 (cells + mc) (slots + ms) Q (F0 m (pc + 3) ls (.int r :: rest))) : W p l e R s m args below meth c H locs cells slots Q (F0 m pc ls st0) :=
  oh_mV (wr := wm) Sx hM cw hK hP hD hG hS hA isC ((List.range wm.length).map (fun i => wx.length + i)) hC (oh_tl wx wm) hnC (oh_ndr _ _) (fun i hi h2 => by
    obtain ⟨j, -, rfl⟩ := List.mem_map.mp hi
    have := hlt _ h2
    omega) hrec hn hsize hst hW hdg hf (fun r u H1 locs1 hw hP1 hD1 hS1 => kk r u H1 locs1 hw (oh_pre_P hP1) (oh_pre_D hD1) hS1)
theorem oh_lVl {S : Type} {post : Int64 → S → Prop} {W1 : S → va_W} (Sx : CallFix p m c cc nL s args oh_t own) (hM : Met l y (oh_w y bytes maxL ret) rm (oh_Pm D E G (.ref b :: As) wc H.size) (va_Ql post (oh_B D (va_A wc H.size) W1) (va_A wc H.size)) mc ms (va_A wc H.size)) (cw : CallW R s args own C index y bytes maxL ret (oh_w y bytes maxL ret) rm mc ms n) (hK : va_K D vwCl (oh_ty E) s) (hP : va_P D vwCl (wx ++ wm) H) (hD : va_D A (wx ++ wm)) (hG : oh_G G A s) (hS : va_S A s.heap H locs) (hA : ∀ q, s.heap.size ≤ q → A q)
    (isC : List Nat) (hC : isC.map (fun i => (wx ++ wm)[i]?) = wc.map some) (hnC : va_nd isC = true) (hlt : ∀ i ∈ isC, i < wx.length) (hrec : ∃ cell : Cell, H[b]? = some cell ∧ cell.vm.isStatics = false ∧ s.vm.findClass C = some cell.cls)
    (hn : As.length = n) (hsize : ls.size = nL) (hst : st0 = As.reverse ++ .ref b :: rest) (hW : (rest.map fun v => v.category).sum ≤ 8) (hdg : decode cc pc = .ok (.invokevirtual index, 3)) (hf : cells + mc ≤ R.cells ∧ slots + ms ≤ R.slots)
    (kk : ∀ (r : Int64) (u : S) (H1 : Heap) (locs1 : List Loc), post r u → va_P D vwCl wm H1 → va_D A wm → va_S A s.heap H1 locs1 → W p l e R s m args below meth c H1 locs1 (cells + mc) (slots + ms) Q (F0 m (pc + 3) ls (.long r :: rest))) : W p l e R s m args below meth c H locs cells slots Q (F0 m pc ls st0) :=
  oh_mVl (wr := wm) Sx hM cw hK hP hD hG hS hA isC ((List.range wm.length).map (fun i => wx.length + i)) hC (oh_tl wx wm) hnC (oh_ndr _ _) (fun i hi h2 => by
    obtain ⟨j, -, rfl⟩ := List.mem_map.mp hi
    have := hlt _ h2
    omega) hrec hn hsize hst hW hdg hf (fun r u H1 locs1 hw hP1 hD1 hS1 => kk r u H1 locs1 hw (oh_pre_P hP1) (oh_pre_D hD1) hS1)
end OHL
