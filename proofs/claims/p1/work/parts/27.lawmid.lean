/-! THE CLAIM OUT OF ONE WALK OF THE LAW'S BODY. Your part is whole_start (and what it stands on); all else here is the same for every law, but numbers. -/
def R_law : String := "OneHeavyLoadLaw"
def lw_P (b : Addr) (xs : List Int32) (args : Array Value) (s : State) : Prop := args = #[.ref b] ∧ s.IntsAt b xs ∧ xs.length ≤ 8 ∧ (Jvm.Cond.and given_1 narrow_1).before args s = true
def lw_Q (_ : Array Value) (s : State) (o : Outcome) (t : State) : Prop := o = .returned (some (.int 1)) ∧ Framed s o t [] 600000 7302250
def lw_Z (below : List Frame) (a : Array Value) (s : State) : State → Prop := fun t => ∃ o, t.status = .running ∧ Ended t below o ∧ lw_Q a s o t
/-- the law's own end, with 1 on the stack, nothing written that was there before, its room as the claim has it -/
theorem lw_ret {p : Program} {l : Launch} {e : Env} {s : State} {m : MethodId} {below : List Frame} {meth : Method} {c : Code} {b : Nat} (hx : p.tables.exec = Jvm.exec) (hb : c.code = code) (hr : meth.sig.returnType = ret) (hlocks : meth.locks = false) {pc : Nat} {H : Heap} {ls : Array Slot} (hdg : decode code pc = .ok (.ireturn, 1)) : W p l e room_1 s m #[Value.ref b] below meth c H [] 600000 7302250 (lw_Z below #[Value.ref b] s) (F0 m pc ls [.int 1]) := by
  intro T hT X
  obtain ⟨fs, hret, hrun, hended, hW, hframe⟩ := X.leave (v := some (.int 1)) (hlocks := hlocks) (fun h => by rw [hr] at h; cases h)
  have hmeth' : T.vm.method? m = some meth := X.method'
  refine ⟨T.setFrames fs, ?_, .returned (some (.int 1)), hrun, hended, rfl, ⟨_, rfl⟩, hW, hframe⟩
  jvm_step X.here [X.here.top, hx, hb, hdg, hmeth', hr, ret, narrow_b1]
  (try refine ⟨rfl, ?_⟩); (try refine ⟨rfl, ?_⟩)
  first | (intro acts; rw [hret _ acts rfl rfl rfl]) | rw [hret _ _ rfl rfl rfl]
  exact Steps.refl _
/-- what holds at the law's entry: the machine, the code, the tables' words (any of lw_tbl by 'hts w (by decide +kernel)'), the script of L ints xs at the cell b, what the Statement gives of the start (any of its parts by flat_of_before) -/
def lw_At (p : Program) (s : State) (m : MethodId) (meth : Method) (c : Code) (b L : Nat) (xs : Nat → Int32) : Prop :=
  p.tables.exec = Jvm.exec ∧ c.code = code ∧ meth.sig.returnType = ret ∧ c.maxLocals = 4 ∧ s.vm.findClass R_law = some m.cls ∧ (∀ w ∈ lw_tbl, w.before #[Value.ref b] s = true) ∧ va_X b L xs s s.heap ∧ b < s.heap.size ∧ meth.locks = false ∧ (Jvm.Cond.and given_1 narrow_1).before #[Value.ref b] s = true
set_option maxHeartbeats 4000000 in
set_option maxRecDepth 100000 in
/-- behind one call: the law comes to its end -/
theorem lw_end {p : Program} {l : Launch} {e : Env} {s : State} {m : MethodId} {below : List Frame} {meth : Method} {c : Code} {b : Nat} {xs : Nat → Int32} (C0 : lw_At p s m meth c b 8 xs) {A : Nat → Prop} (hAe : A = fun q => s.heap.size ≤ q) {H : Heap} {locs : List Loc} (hS : va_S A s.heap H locs) {ls : Array Slot} (hl : lv_has ls 4 [(3, .int 0), (0, .ref b)]) {cells slots : Nat} (hc : cells ≤ 600000) (hsl : slots ≤ 7302250) : W p l e room_1 s m #[Value.ref b] below meth c H locs cells slots (lw_Z below #[Value.ref b] s) (F0 m 2047 ls []) := by
  obtain ⟨hx, hb, hr, hml, hown, hts, hX, hbl, hlocks, hgv⟩ := id C0
  have hbA : ¬ A b := by rw [hAe]; exact Nat.not_le.mpr hbl
  refine lv_iinc (v := 8) (lv' := [(3, .int 8), (0, .ref b)]) hx hb dL_law_2047 hl (k := 0) rfl (by decide) (by decide) rfl (fun ls hl => ?_)
  refine lv_goto (tgt := 18) hx hb dL_law_2050 (by decide) ?_
  refine lv_iload_n hx hb dL_law_18 rfl (lv_at hl 0 rfl) ?_
  refine lv_aload_n hx hb dL_law_19 rfl (lv_at hl 1 rfl) ?_
  refine va_slen hx hb hX hbl hbA hS dL_law_20 ?_
  refine oh_nrm (v := 8) rfl ?_
  refine lv_bipush (v := 8) hx hb dL_law_21 (by decide) ?_
  refine lv_isub hx hb dL_law_23 ?_
  refine oh_nrm (v := 0) (by decide) ?_
  refine lv_icmp_gt (tgt := 2053) hx hb dL_law_24 (by decide) (fun _ => ?_) (fun c => absurd (show (0 : Int32) < 8 from by decide) c)
  refine lv_iconst (v := 1) hx hb dL_law_2053 (by decide) ?_
  refine va_forget (fun q hq => by have h := hS.2.2 q hq; rw [hAe] at h; exact h) ?_
  refine W.widen (k := 600000) (n := 7302250) hc hsl ?_
  exact lw_ret hx hb hr hlocks dL_law_2054
abbrev lw_x (E : Nat → ClassId) (xa : Nat → Nat) : va_W := [(xa 0, .inr (6, [.ref (xa 1), .ref (xa 9), .int 0, .ref (xa 17), .ref (xa 24), .ref (xa 28), .ref (xa 30), .ref (xa 33), .ref (xa 34)])), (xa 1, .inr (0, [.ref (xa 2), .ref (xa 3), .ref (xa 4), .ref (xa 5), .ref (xa 6), .ref (xa 7), .ref (xa 8), .int 0])), (xa 2, .inl (E 0, 4, .inl (fun _ => 0))), (xa 3, .inl (E 0, 168, .inl (fun _ => 0))), (xa 4, .inl (E 0, 160, .inl (fun _ => 0))), (xa 5, .inl (E 0, 15, .inl (fun _ => 0))), (xa 6, .inl (E 0, 10, .inl (fun _ => 0))), (xa 7, .inl (E 0, 3, .inl (upd (upd (fun _ => 0) 0 100) 1 2))), (xa 8, .inl (E 0, 7, .inl (fun _ => 0))), (xa 9, .inr (0, [.ref (xa 10), .ref (xa 11), .ref (xa 12), .ref (xa 13), .ref (xa 14), .ref (xa 15), .ref (xa 16), .int 0])), (xa 10, .inl (E 0, 4, .inl (fun _ => 0))), (xa 11, .inl (E 0, 168, .inl (fun _ => 0))), (xa 12, .inl (E 0, 160, .inl (fun _ => 0))), (xa 13, .inl (E 0, 15, .inl (fun _ => 0))), (xa 14, .inl (E 0, 10, .inl (fun _ => 0))), (xa 15, .inl (E 0, 3, .inl (upd (upd (fun _ => 0) 0 100) 1 2))), (xa 16, .inl (E 0, 7, .inl (fun _ => 0))), (xa 17, .inr (5, [.ref (xa 1), .ref (xa 18), .ref (xa 19), .ref (xa 20), .ref (xa 21), .ref (xa 22), .ref (xa 23)])), (xa 18, .inr (1, [.int 0, .int 0, .int 0, .int 0, .int 0])), (xa 19, .inl (E 0, 24, .inl (fun _ => 0))), (xa 20, .inl (E 0, 24, .inl (fun _ => 0))), (xa 21, .inl (E 0, 24, .inl (fun _ => 0))), (xa 22, .inl (E 0, 16, .inl (fun _ => 0))), (xa 23, .inl (E 0, 4, .inl (fun _ => 0))), (xa 24, .inr (3, [.ref (xa 25), .ref (xa 26), .ref (xa 27)])), (xa 25, .inl (E 0, 8, .inl (fun _ => (-1)))), (xa 26, .inl (E 0, 8, .inl (fun _ => 0))), (xa 27, .inl (E 1, 320, .inr (.inl (fun _ => 0)))), (xa 28, .inr (4, [.ref (xa 29), .int 0, .int (-1), .int 0, .int 0, .int 0])), (xa 29, .inl (E 0, 250, .inl (fun _ => 0))), (xa 30, .inr (2, [.ref (xa 28), .ref (xa 1), .ref (xa 31), .ref (xa 32)])), (xa 31, .inl (E 0, 4, .inl (fun _ => 0))), (xa 32, .inl (E 0, 3, .inl (fun _ => 0))), (xa 33, .inl (E 0, 5, .inl (fun _ => 0))), (xa 34, .inl (E 0, 3, .inl (fun _ => 0)))]
abbrev lw_m (E : Nat → ClassId) (ma r1 r2 r3 r4 r5 : Nat → Nat) : va_W := [(ma 0, .inr (7, [.ref (ma 1), .ref (ma 2), .ref (ma 3), .ref (ma 4), .ref (ma 5), .ref (ma 6), .ref (ma 7), .int 0, .ref (ma 8), .int 0, .ref (ma 9), .int 0, .ref (ma 10), .int 0, .ref (ma 11), .int 0, .ref (ma 12), .ref (ma 13), .ref (ma 14), .int 0, .null, .int 0, .int 0, .int 0, .long 0, .int 0, .int 0, .ref (ma 15), .int 0])), (ma 1, .inl (E 0, 8, .inl (fun _ => 0))), (ma 2, .inl (E 0, 8, .inl (fun _ => 0))), (ma 3, .inl (E 0, 8, .inl (fun _ => 0))), (ma 4, .inl (E 3, 8, .inr (.inr (.inr (.inr (fun i => if i < 8 then some (r1 i) else none)))))), (ma 5, .inl (E 1, 40, .inr (.inl (fun _ => 0)))), (ma 6, .inl (E 0, 8, .inl (fun _ => 0))), (ma 7, .inl (E 0, 250, .inl (fun _ => 0))), (ma 8, .inl (E 0, 8, .inl (fun _ => 0))), (ma 9, .inl (E 2, 24, .inr (.inr (.inr (.inr (fun i => if i < 24 then some (r2 i) else none)))))), (ma 10, .inl (E 2, 16, .inr (.inr (.inr (.inr (fun i => if i < 16 then some (r3 i) else none)))))), (ma 11, .inl (E 2, 5, .inr (.inr (.inr (.inr (fun i => if i < 5 then some (r4 i) else none)))))), (ma 12, .inl (E 2, 5, .inr (.inr (.inr (.inr (fun i => if i < 5 then some (r5 i) else none)))))), (ma 13, .inl (E 0, 3, .inl (upd (upd (upd (fun _ => 0) 0 100) 1 2) 2 0))), (ma 14, .inl (E 0, 7, .inl (fun _ => 0))), (ma 15, .inl (E 1, 16, .inr (.inl (fun _ => 0))))] ++ (((((([] : va_W) ++ oh_rs r1 8 (fun _ => .inl (E 1, 40, .inr (.inl (fun _ => 0))))) ++ oh_rs r2 24 (fun _ => .inl (E 0, 7, .inl (fun _ => 0)))) ++ oh_rs r3 16 (fun _ => .inl (E 0, 10, .inl (fun _ => 0)))) ++ oh_rs r4 5 (fun _ => .inl (E 0, 3, .inl (fun _ => 0)))) ++ oh_rs r5 5 (fun _ => .inl (E 0, 2, .inl (fun _ => 0))))
