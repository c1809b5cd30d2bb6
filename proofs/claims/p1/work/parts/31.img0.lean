section OHI
variable {p : Program} {l : Launch} {e : Env} {R : Room} {s : State} {m : MethodId} {args : Array Value} {below : List Frame} {meth : Method} {c : Code} {H : Heap} {locs : List Loc} {cells slots : Nat} {Q : State → Prop}
variable {cc bytes : ByteArray} {pc nL maxL mc ms n index b : Nat} {ls : Array Slot} {st0 rest As : List Value} {D : va_G} {E : Nat → ClassId} {G : Nat → Nat} {A : Nat → Prop} {ws wc wr : va_W} {own C : String} {y : MethodName} {rm : Room}
/-- a call of a static method that writes: what came back, and what else has stayed -/
theorem oh_mSr {S : Type} {post : S → Prop} {W1 : S → va_W} (Sx : CallFix p m c cc nL s args oh_t own) (hM : Met l y (oh_w y bytes maxL none) rm (oh_Pm D E G As wc H.size) (va_Qv post (oh_B D (va_A wc H.size) W1) (va_A wc H.size)) mc ms (va_A wc H.size)) (cw : CallB R s args own index y bytes maxL none (oh_w y bytes maxL none) rm mc ms n ∧ (Cond.static y).before args s = true) (hK : va_K D vwCl (oh_ty E) s) (hPc : va_P D vwCl wc H) (hDc : va_D A wc) (hF : ∀ q, va_A wc H.size q → A q) (hG : oh_G G A s) (hS : va_S A s.heap H locs)
    (hn : As.length = n) (hsize : ls.size = nL) (hst : st0 = As.reverse ++ rest) (hW : (rest.map fun v => v.category).sum ≤ 8) (hdg : decode cc pc = .ok (.invokestatic index, 3)) (hf : cells + mc ≤ R.cells ∧ slots + ms ≤ R.slots)
    (kk : ∀ (u : S) (H1 : Heap) (locs1 : List Loc), post u → va_P D vwCl (W1 u) H1 → va_D (va_A wc H.size) (W1 u) → (∀ q : Nat, q < H.size → ¬ va_A wc H.size q → H1[q]? = H[q]?) → va_S A s.heap H1 locs1 → W p l e R s m args below meth c H1 locs1 (cells + mc) (slots + ms) Q (F0 m (pc + 3) ls rest)) : W p l e R s m args below meth c H locs cells slots Q (F0 m pc ls st0) := by
  refine va_callv (va_runS (As := As) (rest := rest) Sx hM cw ⟨oh_blm, oh_prm hK hPc hDc hG hS hF As⟩ rfl hn hsize hst (lv_room hW) hdg hf) hS (fun q _ h => hF q h) hF (fun u t H1 locs1 ht hvm hw hB hz1 hk1 hS1 => ?_)
  obtain ⟨hP1, hD1⟩ := hB
  rw [ht] at hP1
  exact kk u H1 locs1 hw hP1 hD1 hk1 hS1
/-- the same, of whose cells none is needed behind it -/
theorem oh_mSd {S : Type} {post : S → Prop} {W1 : S → va_W} (Sx : CallFix p m c cc nL s args oh_t own) (hM : Met l y (oh_w y bytes maxL none) rm (oh_Pm D E G As wc H.size) (va_Qv post (oh_B D (va_A wc H.size) W1) (va_A wc H.size)) mc ms (va_A wc H.size)) (cw : CallB R s args own index y bytes maxL none (oh_w y bytes maxL none) rm mc ms n ∧ (Cond.static y).before args s = true) (hK : va_K D vwCl (oh_ty E) s) (hP : va_P D vwCl ws H) (hD : va_D A ws) (hG : oh_G G A s) (hS : va_S A s.heap H locs) (hA : ∀ q, s.heap.size ≤ q → A q)
    (isC isR : List Nat) (hC : isC.map (fun i => ws[i]?) = wc.map some) (hR : isR.map (fun i => ws[i]?) = wr.map some) (hnC : va_nd isC = true) (hnR : va_nd isR = true) (hdis : ∀ i ∈ isR, i ∉ isC)
    (hn : As.length = n) (hsize : ls.size = nL) (hst : st0 = As.reverse ++ rest) (hW : (rest.map fun v => v.category).sum ≤ 8) (hdg : decode cc pc = .ok (.invokestatic index, 3)) (hf : cells + mc ≤ R.cells ∧ slots + ms ≤ R.slots)
    (kk : ∀ (H1 : Heap) (locs1 : List Loc), va_P D vwCl wr H1 → va_D A wr → va_S A s.heap H1 locs1 → W p l e R s m args below meth c H1 locs1 (cells + mc) (slots + ms) Q (F0 m (pc + 3) ls rest)) : W p l e R s m args below meth c H locs cells slots Q (F0 m pc ls st0) := by
  have hF := va_free (wc := wc) hD hS hA isC hC
  refine oh_mSr Sx hM cw hK (hP.sub isC (oh_fm hC)) (hD.sub isC hnC hC) hF hG hS hn hsize hst hW hdg hf (fun u H1 locs1 hw hP1 hD1 hk1 hS1 => ?_)
  obtain ⟨hP2, hD2⟩ := va_join hP hD isC isR hC hR hnR hdis hk1 hF hP1 hD1
  exact kk H1 locs1 (oh_pre_P hP2) (oh_pre_D hD2) hS1
theorem oh_putc {k a : Nat} {x z : va_E} {H1 : Heap} (hP : va_P D vwCl ws H) (hD : va_D A ws) (hk : ws[k]? = some (a, x)) (hkeep : ∀ q : Nat, q < H.size → q ≠ a → H1[q]? = H[q]?) (hy : va_at D vwCl (a, z) H1) : va_P D vwCl (ws.set k (a, z)) H1 ∧ va_D A (ws.set k (a, z)) := by
  refine ⟨?_, oh_rwD hk hD⟩
  have hl : k < ws.length := (List.getElem?_eq_some_iff.mp hk).1
  intro i q hq
  by_cases e : k = i
  · subst e
    rw [List.getElem?_set_self hl] at hq
    cases hq
    exact hy
  · rw [List.getElem?_set_ne e] at hq
    have hne : q.1 ≠ a := fun h => e (hD.1 k i _ _ hk hq h.symm)
    have hone : va_P D vwCl [q] H := fun j r hr => by
      have h0 : j < 1 := (List.getElem?_eq_some_iff.mp hr).1
      rw [show j = 0 by omega] at hr
      cases hr
      exact hP i q hq
    have h2 : va_P D vwCl [q] H1 := hone.kept (fun j r hr => by
      have h0 : j < 1 := (List.getElem?_eq_some_iff.mp hr).1
      rw [show j = 0 by omega] at hr
      cases hr
      exact hkeep q.1 (hP i q hq).lt hne)
    exact h2 0 q rfl
theorem oh_rs_set {r : Nat → Nat} {n j : Nat} {f : Nat → va_E} {z : va_E} (h : j < n) : (oh_rs r n f).set j (r j, z) = oh_rs r n (va_up f j z) := by
  apply List.ext_getElem?
  intro i
  by_cases hi : i < n
  · rw [oh_rs_at hi]
    by_cases e : j = i
    · subst e
      rw [List.getElem?_set_self (by rw [oh_rs_len]; exact h), va_up_self]
    · rw [List.getElem?_set_ne e, oh_rs_at hi, va_up_ne _ _ (Ne.symm e)]
  · rw [List.getElem?_eq_none (by rw [List.length_set, oh_rs_len]; omega), List.getElem?_eq_none (by rw [oh_rs_len]; omega)]
end OHI
