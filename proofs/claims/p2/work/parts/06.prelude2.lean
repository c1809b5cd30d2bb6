/-! Calls that leave the caller's list of cells in its order: what came back is put where it lay. -/
def oh_put (ws : va_W) : List Nat → va_W → va_W
  | k :: ks, c :: cs => oh_put (ws.set k c) ks cs
  | _, _ => ws
theorem oh_put_at : ∀ (is : List Nat) (w1 ws : va_W), is.length = w1.length → ∀ (i : Nat) (q : Nat × va_E), (oh_put ws is w1)[i]? = some q → (∃ p : Nat, is[p]? = some i ∧ w1[p]? = some q) ∨ (i ∉ is ∧ ws[i]? = some q)
  | [], [], ws, _, i, q, h => Or.inr ⟨List.not_mem_nil, h⟩
  | k :: ks, c :: cs, ws, hl, i, q, h => by
    rcases oh_put_at ks cs (ws.set k c) (by simpa using hl) i q h with ⟨p, h1, h2⟩ | ⟨h1, h2⟩
    · exact Or.inl ⟨p + 1, by simpa using h1, by simpa using h2⟩
    · by_cases e : k = i
      · subst e
        by_cases hk : k < ws.length
        · rw [List.getElem?_set_self hk] at h2
          exact Or.inl ⟨0, rfl, h2⟩
        · rw [List.getElem?_eq_none (by rw [List.length_set]; omega)] at h2
          cases h2
      · rw [List.getElem?_set_ne e] at h2
        exact Or.inr ⟨fun hm => (List.mem_cons.mp hm).elim (fun x => e x.symm) h1, h2⟩
  | [], c :: cs, ws, hl, i, q, h => by simp at hl
  | k :: ks, [], ws, hl, i, q, h => by simp at hl
theorem oh_puts {D : va_G} {A : Nat → Prop} {ws wc w1 : va_W} {H H1 : Heap} (hP : va_P D vwCl ws H) (hD : va_D A ws) (is : List Nat) (hC : is.map (fun i => ws[i]?) = wc.map some) (hf : w1.map Prod.fst = wc.map Prod.fst) (hk : ∀ q : Nat, q < H.size → ¬ va_A wc H.size q → H1[q]? = H[q]?) (hP1 : va_P D vwCl w1 H1) : va_P D vwCl (oh_put ws is w1) H1 ∧ va_D A (oh_put ws is w1) := by
  have hl : is.length = w1.length := by
    have h1 := congrArg List.length hC
    have h2 := congrArg List.length hf
    simp at h1 h2
    omega
  have at' : ∀ (p i : Nat), is[p]? = some i → ∃ x : Nat × va_E, wc[p]? = some x ∧ ws[i]? = some x := by
    intro p i hp
    have h1 : (is.map (fun i => ws[i]?))[p]? = some (ws[i]?) := by rw [List.getElem?_map, hp]; rfl
    rw [hC, List.getElem?_map] at h1
    cases hw : wc[p]? with
    | none => rw [hw] at h1; simp at h1
    | some x =>
      rw [hw] at h1
      simp only [Option.map_some, Option.some.injEq] at h1
      exact ⟨x, rfl, h1.symm⟩
  have at2 : ∀ (p : Nat) (x : Nat × va_E), wc[p]? = some x → ∃ i, is[p]? = some i ∧ ws[i]? = some x := by
    intro p x hx
    have h1 : (wc.map some)[p]? = some (some x) := by rw [List.getElem?_map, hx]; rfl
    rw [← hC, List.getElem?_map] at h1
    cases hi : is[p]? with
    | none => rw [hi] at h1; simp at h1
    | some i =>
      rw [hi] at h1
      simp only [Option.map_some, Option.some.injEq] at h1
      exact ⟨i, rfl, h1⟩
  have key : ∀ (i : Nat) (q : Nat × va_E), (oh_put ws is w1)[i]? = some q → ∃ z, ws[i]? = some (q.1, z) := by
    intro i q hq
    rcases oh_put_at is w1 ws hl i q hq with ⟨p, h1, h2⟩ | ⟨h1, h2⟩
    · obtain ⟨x, hx, hw⟩ := at' p i h1
      have h3 : (w1.map Prod.fst)[p]? = some q.1 := by rw [List.getElem?_map, h2]; rfl
      rw [hf, List.getElem?_map, hx] at h3
      simp only [Option.map_some, Option.some.injEq] at h3
      exact ⟨x.2, by rw [hw, ← h3]⟩
    · exact ⟨q.2, h2⟩
  refine ⟨fun i q hq => ?_, fun i j q r hi hj e => ?_, fun i q hi => ?_⟩
  · rcases oh_put_at is w1 ws hl i q hq with ⟨p, h1, h2⟩ | ⟨h1, h2⟩
    · exact hP1 p q h2
    · have hlt : q.1 < H.size := (hP i q h2).lt
      have hnot : ¬ va_A wc H.size q.1 := by
        intro h
        rcases h with ⟨p, z, h⟩ | h
        · obtain ⟨i', h3, h4⟩ := at2 p _ h
          have : i' = i := hD.1 i' i _ _ h4 h2 rfl
          subst this
          exact h1 (List.mem_of_getElem? h3)
        · omega
      have hone : va_P D vwCl [q] H := fun j r hr => by
        have h0 : j < 1 := (List.getElem?_eq_some_iff.mp hr).1
        rw [show j = 0 by omega] at hr
        cases hr
        exact hP i q h2
      have h2 : va_P D vwCl [q] H1 := hone.kept (fun j r hr => by
        have h0 : j < 1 := (List.getElem?_eq_some_iff.mp hr).1
        rw [show j = 0 by omega] at hr
        cases hr
        exact hk q.1 hlt hnot)
      exact h2 0 q rfl
  · obtain ⟨z1, h1⟩ := key i q hi
    obtain ⟨z2, h2⟩ := key j r hj
    exact hD.1 i j _ _ h1 h2 e
  · obtain ⟨z1, h1⟩ := key i q hi
    exact hD.2 i (q.1, z1) h1
section OHP
variable {p : Program} {l : Launch} {e : Env} {R : Room} {s : State} {m : MethodId} {args : Array Value} {below : List Frame} {meth : Method} {c : Code} {H : Heap} {locs : List Loc} {cells slots : Nat} {Q : State → Prop}
variable {cc bytes : ByteArray} {pc nL maxL mc ms n index b : Nat} {ls : Array Slot} {st0 rest As : List Value} {D : va_G} {E : Nat → ClassId} {G : Nat → Nat} {A : Nat → Prop} {ws wc : va_W} {own C : String} {y : MethodName} {ret : Option FieldType} {rm : Room}
theorem oh_cV {S : Type} {post : Int32 → S → Prop} {W1 : S → va_W} (Sx : CallFix p m c cc nL s args oh_t own) (hM : Met l y (oh_w y bytes maxL ret) rm (oh_Pm D E G (.ref b :: As) wc H.size) (va_Qi post (oh_B D (va_A wc H.size) W1) (va_A wc H.size)) mc ms (va_A wc H.size)) (cw : CallW R s args own C index y bytes maxL ret (oh_w y bytes maxL ret) rm mc ms n) (hK : va_K D vwCl (oh_ty E) s) (hP : va_P D vwCl ws H) (hD : va_D A ws) (hG : oh_G G A s) (hS : va_S A s.heap H locs) (hA : ∀ q, s.heap.size ≤ q → A q)
    (isC : List Nat) (hC : isC.map (fun i => ws[i]?) = wc.map some) (hnC : va_nd isC = true) (hf : ∀ u, (W1 u).map Prod.fst = wc.map Prod.fst) (hrec : ∃ cell : Cell, H[b]? = some cell ∧ cell.vm.isStatics = false ∧ s.vm.findClass C = some cell.cls)
    (hn : As.length = n) (hsize : ls.size = nL) (hst : st0 = As.reverse ++ .ref b :: rest) (hW : (rest.map fun v => v.category).sum ≤ 8) (hdg : decode cc pc = .ok (.invokevirtual index, 3)) (hfit : cells + mc ≤ R.cells ∧ slots + ms ≤ R.slots)
    (kk : ∀ (r : Int32) (u : S) (H1 : Heap) (locs1 : List Loc), post r u → va_P D vwCl (oh_put ws isC (W1 u)) H1 → va_D A (oh_put ws isC (W1 u)) → va_S A s.heap H1 locs1 → W p l e R s m args below meth c H1 locs1 (cells + mc) (slots + ms) Q (F0 m (pc + 3) ls (.int r :: rest))) : W p l e R s m args below meth c H locs cells slots Q (F0 m pc ls st0) := by
  have hF := va_free (wc := wc) hD hS hA isC hC
  refine va_calli (va_runV (As := As) (rest := rest) Sx hM cw ⟨oh_blm, hrec, oh_prm hK (hP.sub isC (oh_fm hC)) (hD.sub isC hnC hC) hG hS hF (.ref b :: As)⟩ rfl hn hsize hst (lv_room hW) hdg hfit) hS (fun q _ h => hF q h) hF (fun r u t H1 locs1 ht hvm hw hB hz1 hk1 hS1 => ?_)
  obtain ⟨hP1, hD1⟩ := hB
  rw [ht] at hP1
  obtain ⟨hP2, hD2⟩ := oh_puts hP hD isC hC (hf u) hk1 hP1
  exact kk r u H1 locs1 hw hP2 hD2 hS1
theorem oh_cVv {S : Type} {post : S → Prop} {W1 : S → va_W} (Sx : CallFix p m c cc nL s args oh_t own) (hM : Met l y (oh_w y bytes maxL ret) rm (oh_Pm D E G (.ref b :: As) wc H.size) (va_Qv post (oh_B D (va_A wc H.size) W1) (va_A wc H.size)) mc ms (va_A wc H.size)) (cw : CallW R s args own C index y bytes maxL ret (oh_w y bytes maxL ret) rm mc ms n) (hK : va_K D vwCl (oh_ty E) s) (hP : va_P D vwCl ws H) (hD : va_D A ws) (hG : oh_G G A s) (hS : va_S A s.heap H locs) (hA : ∀ q, s.heap.size ≤ q → A q)
    (isC : List Nat) (hC : isC.map (fun i => ws[i]?) = wc.map some) (hnC : va_nd isC = true) (hf : ∀ u, (W1 u).map Prod.fst = wc.map Prod.fst) (hrec : ∃ cell : Cell, H[b]? = some cell ∧ cell.vm.isStatics = false ∧ s.vm.findClass C = some cell.cls)
    (hn : As.length = n) (hsize : ls.size = nL) (hst : st0 = As.reverse ++ .ref b :: rest) (hW : (rest.map fun v => v.category).sum ≤ 8) (hdg : decode cc pc = .ok (.invokevirtual index, 3)) (hfit : cells + mc ≤ R.cells ∧ slots + ms ≤ R.slots)
    (kk : ∀ (u : S) (H1 : Heap) (locs1 : List Loc), post u → va_P D vwCl (oh_put ws isC (W1 u)) H1 → va_D A (oh_put ws isC (W1 u)) → va_S A s.heap H1 locs1 → W p l e R s m args below meth c H1 locs1 (cells + mc) (slots + ms) Q (F0 m (pc + 3) ls rest)) : W p l e R s m args below meth c H locs cells slots Q (F0 m pc ls st0) := by
  have hF := va_free (wc := wc) hD hS hA isC hC
  refine va_callv (va_runV (As := As) (rest := rest) Sx hM cw ⟨oh_blm, hrec, oh_prm hK (hP.sub isC (oh_fm hC)) (hD.sub isC hnC hC) hG hS hF (.ref b :: As)⟩ rfl hn hsize hst (lv_room hW) hdg hfit) hS (fun q _ h => hF q h) hF (fun u t H1 locs1 ht hvm hw hB hz1 hk1 hS1 => ?_)
  obtain ⟨hP1, hD1⟩ := hB
  rw [ht] at hP1
  obtain ⟨hP2, hD2⟩ := oh_puts hP hD isC hC (hf u) hk1 hP1
  exact kk u H1 locs1 hw hP2 hD2 hS1
/-- a method that only reads, of whose answer a property is told -/
theorem oh_qV {post : Int32 → Prop} (S : CallFix p m c cc nL s args oh_t own) (hM : Met l y (oh_w y bytes maxL ret) rm (oh_Pp D E G (.ref b :: As) wc) (vp_Si post) 0 0 (fun _ => False)) (cw : CallW R s args own C index y bytes maxL ret (oh_w y bytes maxL ret) rm 0 0 n) (hK : va_K D vwCl (oh_ty E) s) (hP : va_P D vwCl wc H) (hG : oh_G G A s) (hS : va_S A s.heap H locs) (hrec : ∃ cell : Cell, H[b]? = some cell ∧ cell.vm.isStatics = false ∧ s.vm.findClass C = some cell.cls)
    (hn : As.length = n) (hsize : ls.size = nL) (hst : st0 = As.reverse ++ .ref b :: rest) (hW : (rest.map fun v => v.category).sum ≤ 8) (hdg : decode cc pc = .ok (.invokevirtual index, 3)) (hf : cells ≤ R.cells ∧ slots ≤ R.slots)
    (kk : ∀ r : Int32, post r → W p l e R s m args below meth c H locs cells slots Q (F0 m (pc + 3) ls (.int r :: rest))) : W p l e R s m args below meth c H locs cells slots Q (F0 m pc ls st0) :=
  vp_callSi (va_Run.run (va_runV (As := As) (rest := rest) S hM cw ⟨oh_blp, hrec, oh_pre hK hP hG hS (.ref b :: As)⟩ rfl hn hsize hst (lv_room hW) hdg hf)) kk
end OHP
