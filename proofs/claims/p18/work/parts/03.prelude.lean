/-! The words that methods need are taken from one list, oh_t: all good words of the tables. A contract stands over the world of the cells that its method touches. -/
def oh_t : List Cond := lw_tbl.filter goodWord
theorem oh_of {w : Cond} {i : Nat} (h : lw_tbl[i]? = some w) (hg : goodWord w = true) : w ∈ oh_t := List.mem_filter.mpr ⟨List.mem_of_getElem? h, hg⟩
theorem oh_good {w : Cond} (h : w ∈ oh_t) : w ∈ oh_t ∧ ((w.onTables && w.keeps) = true ∨ ∃ ty, w = .arrayClass ty) := ⟨h, good_of_word (List.mem_filter.mp h).2⟩
theorem oh_ofs {ws : List Cond} (ps : List Nat) (hp : ws = ps.filterMap (fun i => lw_tbl[i]?)) (hg : ws.all goodWord = true) : ∀ w ∈ ws, w ∈ oh_t := by
  intro w hw
  have h1 := List.all_eq_true.mp hg w hw
  rw [hp] at hw
  obtain ⟨i, -, hi⟩ := List.mem_filterMap.mp hw
  exact oh_of hi h1
abbrev oh_w (y : MethodName) (b : ByteArray) (n : Nat) (r : Option FieldType) : List Cond := Cond.code y b n r :: oh_t
theorem oh_gW {w : Cond} (h : w ∈ oh_t) : GoodIn oh_t (w :: oh_t) := fun v hv => (List.mem_cons.mp hv).elim (fun e => by rw [e]; exact oh_good h) oh_good
theorem oh_gV {own C : String} {i : Nat} {y : MethodName} {b : ByteArray} {n : Nat} {r : Option FieldType} (h1 : Cond.methodLink own i y ∈ oh_t) (h2 : Cond.instanceMethod y ∈ oh_t) (h3 : Cond.selects C y y ∈ oh_t) (h4 : Cond.initialized C ∈ oh_t) (h5 : Cond.code y b n r ∈ oh_t) : GoodIn oh_t (wsV own i C y (oh_w y b n r)) := by
  intro v hv
  simp only [wsV, List.cons_append, List.nil_append, List.mem_cons] at hv
  rcases hv with rfl | rfl | rfl | rfl | rfl | hv
  · exact oh_good h1
  · exact oh_good h2
  · exact oh_good h3
  · exact oh_good h4
  · exact oh_good h5
  · exact oh_good hv
theorem oh_gS {own : String} {i : Nat} {y : MethodName} {b : ByteArray} {n : Nat} {r : Option FieldType} (h1 : Cond.methodLink own i y ∈ oh_t) (h2 : Cond.static y ∈ oh_t) (h4 : Cond.initialized y.cls ∈ oh_t) (h5 : Cond.code y b n r ∈ oh_t) : GoodIn oh_t (va_wsS own i y (oh_w y b n r)) := by
  intro v hv
  simp only [va_wsS, List.cons_append, List.nil_append, List.mem_cons] at hv
  rcases hv with rfl | rfl | rfl | rfl | hv
  · exact oh_good h1
  · exact oh_good h2
  · exact oh_good h4
  · exact oh_good h5
  · exact oh_good hv
/-- array classes: 0 int[], 1 long[], 2 int[][], 3 long[][] -/
abbrev oh_ty (E : Nat → ClassId) : List (ClassId × FieldType) := [(E 0, .int), (E 1, .long), (E 2, .array .int), (E 3, .array .long)]
/-- members of the nest that are private, and what is read through the nest -/
abbrev oh_nm : List (String × Nat × MethodName × String) := [("OneHeavyLoad$Ways", 17, ⟨"OneHeavyLoad$Pack", "<init>", "()V"⟩, "OneHeavyLoad"), ("OneHeavyLoad$Shelves", 36, ⟨"OneHeavyLoad", "within", "(III)Z"⟩, "OneHeavyLoad"), ("OneHeavyLoad$Tape", 58, ⟨"OneHeavyLoad", "within", "(III)Z"⟩, "OneHeavyLoad"), ("OneHeavyLoad$Pack", 43, ⟨"OneHeavyLoad", "roundedUp", "(II)I"⟩, "OneHeavyLoad"), ("OneHeavyLoad$Pack", 52, ⟨"OneHeavyLoad", "cut", "(II)I"⟩, "OneHeavyLoad"), ("OneHeavyLoad$Ways", 75, ⟨"OneHeavyLoad", "roundedUp", "(II)I"⟩, "OneHeavyLoad")]
abbrev oh_nf : List (String × Nat × String × String × String × String) := [("OneHeavyLoad$Land", 9, "OneHeavyLoad", "ROOM", "[I", "OneHeavyLoad"), ("OneHeavyLoad$Ways", 22, "OneHeavyLoad", "ROOM", "[I", "OneHeavyLoad"), ("OneHeavyLoad$Reader", 19, "OneHeavyLoad", "ROOM", "[I", "OneHeavyLoad"), ("OneHeavyLoad$Land", 57, "OneHeavyLoad", "TAKEN_FOR", "[I", "OneHeavyLoad"), ("OneHeavyLoad$Reader", 166, "OneHeavyLoad", "MAX_SETTING", "[I", "OneHeavyLoad")]
/-- String constants: class, entry, text, and the place of the address -/
abbrev oh_sr : List (String × Nat × String × Nat) := [("OneHeavyLoad$Reader", 61, "road", 3), ("OneHeavyLoad$Reader", 117, "miles", 4), ("OneHeavyLoad$Reader", 123, "rise", 5), ("OneHeavyLoad$Reader", 129, "turn", 6), ("OneHeavyLoad$Reader", 131, "parish", 7), ("OneHeavyLoad$Reader", 70, "bridge", 8), ("OneHeavyLoad$Reader", 137, "kind", 9), ("OneHeavyLoad$Reader", 139, "span", 10), ("OneHeavyLoad$Reader", 141, "axle", 11), ("OneHeavyLoad$Reader", 143, "all", 12), ("OneHeavyLoad$Reader", 145, "prop", 13), ("OneHeavyLoad$Reader", 75, "waggon", 14), ("OneHeavyLoad$Reader", 155, "space", 15), ("OneHeavyLoad$Reader", 157, "tare", 16), ("OneHeavyLoad$Reader", 80, "part", 17), ("OneHeavyLoad$Reader", 85, "load", 18), ("OneHeavyLoad$Reader", 94, "mile", 19), ("OneHeavyLoadModel", 200, "road", 20), ("OneHeavyLoadModel", 219, "miles", 21), ("OneHeavyLoadModel", 221, "rise", 22), ("OneHeavyLoadModel", 226, "turn", 23), ("OneHeavyLoadModel", 228, "parish", 24), ("OneHeavyLoadModel", 205, "bridge", 25), ("OneHeavyLoadModel", 230, "kind", 26), ("OneHeavyLoadModel", 232, "span", 27), ("OneHeavyLoadModel", 234, "axle", 28), ("OneHeavyLoadModel", 236, "all", 29), ("OneHeavyLoadModel", 238, "prop", 30), ("OneHeavyLoadModel", 209, "waggon", 31), ("OneHeavyLoadModel", 210, "space", 32), ("OneHeavyLoadModel", 212, "tare", 33), ("OneHeavyLoadModel", 214, "part", 34), ("OneHeavyLoadModel", 215, "load", 35), ("OneHeavyLoadModel", 217, "mile", 36)]
def oh_room : Nat → Int32 := fun j => if j = 0 then 24 else if j = 1 then 16 else 5
def oh_maxs : Nat → Int32 := fun j => if j = 0 then 900 else if j = 1 then 99 else 1
def oh_tak : Nat → Int32 := fun j => if j = 0 then 1 else if j = 1 then 3 else if j = 2 then 7 else if j = 3 then 9 else if j = 4 then 17 else 49
/-- arrays of arrays: their class stands -/
def oh_ao (t : FieldType) (U : State) : Prop := (Cond.arrayOver (.array t)).before #[] U = true
theorem oh_ao.use {t : FieldType} {a : Array Value} {U : State} (h : oh_ao t U) : (Cond.arrayOver (.array t)).before a U = true := h
theorem oh_ao.moved {t : FieldType} {u U : State} (hvm : u.vm.Alike U.vm) (h : oh_ao t u) : oh_ao t U := Jvm.Stand.arrayOver_alikeB hvm h
/-- the String constants: the texts' bytes (G from 40 on: the rows of bytes) -/
def oh_txt : List (List Int32) := [[114, 111, 97, 100], [109, 105, 108, 101, 115], [114, 105, 115, 101], [116, 117, 114, 110], [112, 97, 114, 105, 115, 104], [98, 114, 105, 100, 103, 101], [107, 105, 110, 100], [115, 112, 97, 110], [97, 120, 108, 101], [97, 108, 108], [112, 114, 111, 112], [119, 97, 103, 103, 111, 110], [115, 112, 97, 99, 101], [116, 97, 114, 101], [112, 97, 114, 116], [108, 111, 97, 100], [109, 105, 108, 101], [114, 111, 97, 100], [109, 105, 108, 101, 115], [114, 105, 115, 101], [116, 117, 114, 110], [112, 97, 114, 105, 115, 104], [98, 114, 105, 100, 103, 101], [107, 105, 110, 100], [115, 112, 97, 110], [97, 120, 108, 101], [97, 108, 108], [112, 114, 111, 112], [119, 97, 103, 103, 111, 110], [115, 112, 97, 99, 101], [116, 97, 114, 101], [112, 97, 114, 116], [108, 111, 97, 100], [109, 105, 108, 101]]
def oh_len (j : Nat) : Nat := (oh_txt.getD j []).length
def oh_byt (j i : Nat) : Int32 := (oh_txt.getD j []).getD i 0
def oh_str (G : Nat → Nat) (A : Nat → Prop) (U : State) : Prop := va_Z "java/lang/String" "COMPACT_STRINGS" "Z" (.int 1) A U U.heap ∧ (va_Zq "jdk/internal/util/Preconditions" "SIOOBE_FORMATTER" "Ljava/util/function/BiFunction;" A U U.heap) ∧ ∀ j : Nat, j < 34 → va_O "java/lang/String" (G (3 + j)) A U U.heap ∧ va_OF "java/lang/String" "coder" "B" (.int 0) (G (3 + j)) A U U.heap ∧ va_OF "java/lang/String" "value" "[B" (.ref (G (40 + j))) (G (3 + j)) A U U.heap ∧ va_T .byte (G (40 + j)) (oh_len j) (fun i => .int (oh_byt j i)) A U U.heap
theorem oh_str.same {G : Nat → Nat} {A : Nat → Prop} {u U : State} (hv : u.vm = U.vm) (hh : U.heap = u.heap) (h : oh_str G A u) : oh_str G A U := by
  have ha : u.vm.Alike U.vm := by rw [hv]; exact Vm.Alike.refl _
  obtain ⟨h1, h3, h2⟩ := h
  unfold oh_str
  rw [hh]
  exact ⟨h1.moved ha, h3.moved ha, fun j hj => ⟨va_O.moved ha (h2 j hj).1, va_OF.moved ha (h2 j hj).2.1, va_OF.moved ha (h2 j hj).2.2.1, va_T.moved ha (h2 j hj).2.2.2⟩⟩
theorem oh_str.to {G : Nat → Nat} {A B : Nat → Prop} {s U : State} {H : Heap} {locs : List Loc} (h : oh_str G A s) (hU : U.heap = H) (hW : s.WarmedH U.vm) (hS : va_S A s.heap H locs) (hAB : ∀ q, B q → A q) : oh_str G B U := by
  have ha := hW.alike
  obtain ⟨h1, h3, h2⟩ := h
  unfold oh_str
  rw [hU]
  exact ⟨((h1.moved ha).kept hS.2.1).narrow hAB, ((h3.moved ha).kept hS.2.1).narrow hAB, fun j hj => ⟨((va_O.moved ha (h2 j hj).1).kept hS.2.1).narrow hAB, ((va_OF.moved ha (h2 j hj).2.1).kept hS.2.1).narrow hAB, ((va_OF.moved ha (h2 j hj).2.2.1).kept hS.2.1).narrow hAB, ((va_T.moved ha (h2 j hj).2.2.2).kept hS.2.1).narrow hAB⟩⟩
/-- what every method is given of the launch: G has the addresses (0 to 2 the tables, from 3 on the texts) -/
def oh_G (G : Nat → Nat) (A : Nat → Prop) (U : State) : Prop :=
  (∀ q ∈ oh_nm, va_Nw (.methodLinkNest q.1 q.2.1 q.2.2.1 q.2.2.2) U) ∧ (∀ q ∈ oh_nf, va_Nw (.fieldLinkNest q.1 q.2.1 q.2.2.1 q.2.2.2.1 q.2.2.2.2.1 q.2.2.2.2.2) U) ∧ (∀ q ∈ oh_sr, vk_R q.1 q.2.1 q.2.2.1 (G q.2.2.2) U) ∧
  (va_Z "OneHeavyLoad" "ROOM" "[I" (.ref (G 0)) A U U.heap ∧ va_T .int (G 0) 4 (fun j => .int (oh_room j)) A U U.heap) ∧
  (va_Z "OneHeavyLoad" "MAX_SETTING" "[I" (.ref (G 1)) A U U.heap ∧ va_T .int (G 1) 3 (fun j => .int (oh_maxs j)) A U U.heap) ∧
  (va_Z "OneHeavyLoad" "TAKEN_FOR" "[I" (.ref (G 2)) A U U.heap ∧ va_T .int (G 2) 6 (fun j => .int (oh_tak j)) A U U.heap) ∧ oh_ao .int U ∧ oh_ao .long U ∧ oh_str G A U
theorem oh_G.same {G : Nat → Nat} {A : Nat → Prop} {u U : State} (hv : u.vm = U.vm) (hh : U.heap = u.heap) (h : oh_G G A u) : oh_G G A U := by
  have ha : u.vm.Alike U.vm := by rw [hv]; exact Vm.Alike.refl _
  obtain ⟨h1, h2, h3, ⟨a1, a2⟩, ⟨b1, b2⟩, ⟨c1, c2⟩, o1, o2, st⟩ := h
  unfold oh_G
  rw [hh]
  exact ⟨fun q hq => (h1 q hq).same rfl hv, fun q hq => (h2 q hq).same rfl hv, fun q hq => (h3 q hq).same hv.symm, ⟨a1.moved ha, a2.moved ha⟩, ⟨b1.moved ha, b2.moved ha⟩, ⟨c1.moved ha, c2.moved ha⟩, o1.moved ha, o2.moved ha, st.same hv hh⟩
theorem oh_G.to {G : Nat → Nat} {A B : Nat → Prop} {s U : State} {H : Heap} {locs : List Loc} (h : oh_G G A s) (hU : U.heap = H) (hW : s.WarmedH U.vm) (hS : va_S A s.heap H locs) (hAB : ∀ q, B q → A q) : oh_G G B U := by
  have ha := hW.alike
  obtain ⟨h1, h2, h3, ⟨a1, a2⟩, ⟨b1, b2⟩, ⟨c1, c2⟩, o1, o2, st⟩ := h
  unfold oh_G
  rw [hU]
  exact ⟨fun q hq => (h1 q hq).warmM hW, fun q hq => (h2 q hq).warmF hW, fun q hq => (h3 q hq).warm hW, ⟨((a1.moved ha).kept hS.2.1).narrow hAB, ((a2.moved ha).kept hS.2.1).narrow hAB⟩, ⟨((b1.moved ha).kept hS.2.1).narrow hAB, ((b2.moved ha).kept hS.2.1).narrow hAB⟩, ⟨((c1.moved ha).kept hS.2.1).narrow hAB, ((c2.moved ha).kept hS.2.1).narrow hAB⟩, o1.moved ha, o2.moved ha, st.to hU hW hS hAB⟩
/-- a method that only reads: its start -/
def oh_Pp (D : va_G) (E : Nat → ClassId) (G : Nat → Nat) (as : List Value) (ws : va_W) : Array Value → State → Prop := va_Pc as (fun U => va_P D vwCl ws U.heap ∧ va_K D vwCl (oh_ty E) U ∧ oh_G G (fun _ => False) U)
/-- a method that writes: its start -/
def oh_Pm (D : va_G) (E : Nat → ClassId) (G : Nat → Nat) (as : List Value) (ws : va_W) (sz : Nat) : Array Value → State → Prop := va_Pc as (fun U => U.heap.size = sz ∧ va_P D vwCl ws U.heap ∧ va_K D vwCl (oh_ty E) U ∧ va_D (fun _ => True) ws ∧ oh_G G (va_A ws sz) U)
/-- behind a method that writes: the cells -/
def oh_B (D : va_G) (A : Nat → Prop) {S : Type} (W1 : S → va_W) : S → State → Prop := fun u t => va_P D vwCl (W1 u) t.heap ∧ va_D A (W1 u)
theorem oh_blp {D : va_G} {E : Nat → ClassId} {G : Nat → Nat} {as : List Value} {ws : va_W} : FrameBlind (oh_Pp D E G as ws) := fun a U g mk q => ⟨q.1, q.2.1, va_K.moved (u := U) (U := U.calling g mk a) (Vm.Alike.refl U.vm) q.2.2.1, oh_G.same (u := U) (U := U.calling g mk a) rfl rfl q.2.2.2⟩
theorem oh_blm {D : va_G} {E : Nat → ClassId} {G : Nat → Nat} {as : List Value} {ws : va_W} {sz : Nat} : FrameBlind (oh_Pm D E G as ws sz) := fun a U g mk q => ⟨q.1, q.2.1, q.2.2.1, va_K.moved (u := U) (U := U.calling g mk a) (Vm.Alike.refl U.vm) q.2.2.2.1, q.2.2.2.2.1, oh_G.same (u := U) (U := U.calling g mk a) rfl rfl q.2.2.2.2.2⟩
theorem oh_fm {ws wc : va_W} {is : List Nat} (h : is.map (fun i => ws[i]?) = wc.map some) : is.filterMap (fun i => ws[i]?) = wc := by
  have h1 := congrArg (List.filterMap id) h
  simpa [List.filterMap_map] using h1
section OHC
variable {p : Program} {l : Launch} {e : Env} {R : Room} {s : State} {m : MethodId} {args : Array Value} {below : List Frame} {meth : Method} {c : Code} {H : Heap} {locs : List Loc} {cells slots : Nat} {Q : State → Prop}
variable {cc bytes : ByteArray} {pc nL maxL mc ms n index b : Nat} {ls : Array Slot} {st0 rest As : List Value} {D : va_G} {E : Nat → ClassId} {G : Nat → Nat} {A : Nat → Prop} {ws wc wr : va_W} {own C host : String} {y : MethodName} {ret : Option FieldType} {rm : Room} {v : Int32} {vl : Int64}
theorem oh_pre (hK : va_K D vwCl (oh_ty E) s) (hP : va_P D vwCl wc H) (hG : oh_G G A s) (hS : va_S A s.heap H locs) (as : List Value) : ∀ U : State, U.heap = H → s.WarmedH U.vm → oh_Pp D E G as wc as.toArray U := fun U hU hW => ⟨rfl, by rw [hU]; exact hP, va_K.moved hW.alike hK, hG.to hU hW hS (fun _ h => h.elim)⟩
theorem oh_prm (hK : va_K D vwCl (oh_ty E) s) (hP : va_P D vwCl wc H) (hDc : va_D A wc) (hG : oh_G G A s) (hS : va_S A s.heap H locs) (hF : ∀ q, va_A wc H.size q → A q) (as : List Value) : ∀ U : State, U.heap = H → s.WarmedH U.vm → oh_Pm D E G as wc H.size as.toArray U := fun U hU hW => ⟨rfl, by rw [hU], by rw [hU]; exact hP, va_K.moved hW.alike hK, hDc.weaken (fun _ _ _ _ => trivial), hG.to hU hW hS hF⟩
/-- calls of methods that only read -/
theorem oh_pV (S : CallFix p m c cc nL s args oh_t own) (hM : Met l y (oh_w y bytes maxL ret) rm (oh_Pp D E G (.ref b :: As) wc) (vp_Si (fun r => r = v)) 0 0 (fun _ => False)) (cw : CallW R s args own C index y bytes maxL ret (oh_w y bytes maxL ret) rm 0 0 n) (hK : va_K D vwCl (oh_ty E) s) (hP : va_P D vwCl wc H) (hG : oh_G G A s) (hS : va_S A s.heap H locs) (hrec : ∃ cell : Cell, H[b]? = some cell ∧ cell.vm.isStatics = false ∧ s.vm.findClass C = some cell.cls)
    (hn : As.length = n) (hsize : ls.size = nL) (hst : st0 = As.reverse ++ .ref b :: rest) (hW : (rest.map fun v => v.category).sum ≤ 8) (hdg : decode cc pc = .ok (.invokevirtual index, 3)) (hf : cells ≤ R.cells ∧ slots ≤ R.slots)
    (kk : W p l e R s m args below meth c H locs cells slots Q (F0 m (pc + 3) ls (.int v :: rest))) : W p l e R s m args below meth c H locs cells slots Q (F0 m pc ls st0) :=
  vp_callSi (va_Run.run (va_runV (As := As) (rest := rest) S hM cw ⟨oh_blp, hrec, oh_pre hK hP hG hS (.ref b :: As)⟩ rfl hn hsize hst (lv_room hW) hdg hf)) (fun r hr => by subst hr; exact kk)
theorem oh_pVl (S : CallFix p m c cc nL s args oh_t own) (hM : Met l y (oh_w y bytes maxL ret) rm (oh_Pp D E G (.ref b :: As) wc) (vp_Sl (fun r => r = vl)) 0 0 (fun _ => False)) (cw : CallW R s args own C index y bytes maxL ret (oh_w y bytes maxL ret) rm 0 0 n) (hK : va_K D vwCl (oh_ty E) s) (hP : va_P D vwCl wc H) (hG : oh_G G A s) (hS : va_S A s.heap H locs) (hrec : ∃ cell : Cell, H[b]? = some cell ∧ cell.vm.isStatics = false ∧ s.vm.findClass C = some cell.cls)
    (hn : As.length = n) (hsize : ls.size = nL) (hst : st0 = As.reverse ++ .ref b :: rest) (hW : (rest.map fun v => v.category).sum ≤ 8) (hdg : decode cc pc = .ok (.invokevirtual index, 3)) (hf : cells ≤ R.cells ∧ slots ≤ R.slots)
    (kk : W p l e R s m args below meth c H locs cells slots Q (F0 m (pc + 3) ls (.long vl :: rest))) : W p l e R s m args below meth c H locs cells slots Q (F0 m pc ls st0) :=
  vp_callSl (va_Run.run (va_runV (As := As) (rest := rest) S hM cw ⟨oh_blp, hrec, oh_pre hK hP hG hS (.ref b :: As)⟩ rfl hn hsize hst (lv_room hW) hdg hf)) (fun r hr => by subst hr; exact kk)
theorem oh_pS (S : CallFix p m c cc nL s args oh_t own) (hM : Met l y (oh_w y bytes maxL ret) rm (oh_Pp D E G As wc) (vp_Si (fun r => r = v)) 0 0 (fun _ => False)) (cw : CallB R s args own index y bytes maxL ret (oh_w y bytes maxL ret) rm 0 0 n ∧ (Cond.static y).before args s = true) (hK : va_K D vwCl (oh_ty E) s) (hP : va_P D vwCl wc H) (hG : oh_G G A s) (hS : va_S A s.heap H locs)
    (hn : As.length = n) (hsize : ls.size = nL) (hst : st0 = As.reverse ++ rest) (hW : (rest.map fun v => v.category).sum ≤ 8) (hdg : decode cc pc = .ok (.invokestatic index, 3)) (hf : cells ≤ R.cells ∧ slots ≤ R.slots)
    (kk : W p l e R s m args below meth c H locs cells slots Q (F0 m (pc + 3) ls (.int v :: rest))) : W p l e R s m args below meth c H locs cells slots Q (F0 m pc ls st0) :=
  vp_callSi (va_Run.run (va_runS (As := As) (rest := rest) S hM cw ⟨oh_blp, oh_pre hK hP hG hS As⟩ rfl hn hsize hst (lv_room hW) hdg hf)) (fun r hr => by subst hr; exact kk)
theorem oh_pSl (S : CallFix p m c cc nL s args oh_t own) (hM : Met l y (oh_w y bytes maxL ret) rm (oh_Pp D E G As wc) (vp_Sl (fun r => r = vl)) 0 0 (fun _ => False)) (cw : CallB R s args own index y bytes maxL ret (oh_w y bytes maxL ret) rm 0 0 n ∧ (Cond.static y).before args s = true) (hK : va_K D vwCl (oh_ty E) s) (hP : va_P D vwCl wc H) (hG : oh_G G A s) (hS : va_S A s.heap H locs)
    (hn : As.length = n) (hsize : ls.size = nL) (hst : st0 = As.reverse ++ rest) (hW : (rest.map fun v => v.category).sum ≤ 8) (hdg : decode cc pc = .ok (.invokestatic index, 3)) (hf : cells ≤ R.cells ∧ slots ≤ R.slots)
    (kk : W p l e R s m args below meth c H locs cells slots Q (F0 m (pc + 3) ls (.long vl :: rest))) : W p l e R s m args below meth c H locs cells slots Q (F0 m pc ls st0) :=
  vp_callSl (va_Run.run (va_runS (As := As) (rest := rest) S hM cw ⟨oh_blp, oh_pre hK hP hG hS As⟩ rfl hn hsize hst (lv_room hW) hdg hf)) (fun r hr => by subst hr; exact kk)
theorem oh_pSN (S : CallFix p m c cc nL s args oh_t own) (hM : Met l y (oh_w y bytes maxL ret) rm (oh_Pp D E G As wc) (vp_Si (fun r => r = v)) 0 0 (fun _ => False)) (cw : va_CN R s args own index y host bytes maxL ret (oh_w y bytes maxL ret) rm 0 0 n ∧ (Cond.static y).before args s = true ∧ True) (hK : va_K D vwCl (oh_ty E) s) (hP : va_P D vwCl wc H) (hG : oh_G G A s) (hS : va_S A s.heap H locs)
    (hn : As.length = n) (hsize : ls.size = nL) (hst : st0 = As.reverse ++ rest) (hW : (rest.map fun v => v.category).sum ≤ 8) (hdg : decode cc pc = .ok (.invokestatic index, 3)) (hf : cells ≤ R.cells ∧ slots ≤ R.slots)
    (kk : W p l e R s m args below meth c H locs cells slots Q (F0 m (pc + 3) ls (.int v :: rest))) : W p l e R s m args below meth c H locs cells slots Q (F0 m pc ls st0) :=
  vp_callSi (va_Run.run (va_runSN (As := As) (rest := rest) S hM cw ⟨oh_blp, oh_pre hK hP hG hS As⟩ rfl hn hsize hst (lv_room hW) hdg hf)) (fun r hr => by subst hr; exact kk)
/-- calls of methods that write -/
theorem oh_mV {S : Type} {post : Int32 → S → Prop} {W1 : S → va_W} (Sx : CallFix p m c cc nL s args oh_t own) (hM : Met l y (oh_w y bytes maxL ret) rm (oh_Pm D E G (.ref b :: As) wc H.size) (va_Qi post (oh_B D (va_A wc H.size) W1) (va_A wc H.size)) mc ms (va_A wc H.size)) (cw : CallW R s args own C index y bytes maxL ret (oh_w y bytes maxL ret) rm mc ms n) (hK : va_K D vwCl (oh_ty E) s) (hP : va_P D vwCl ws H) (hD : va_D A ws) (hG : oh_G G A s) (hS : va_S A s.heap H locs) (hA : ∀ q, s.heap.size ≤ q → A q)
    (isC isR : List Nat) (hC : isC.map (fun i => ws[i]?) = wc.map some) (hR : isR.map (fun i => ws[i]?) = wr.map some) (hnC : va_nd isC = true) (hnR : va_nd isR = true) (hdis : ∀ i ∈ isR, i ∉ isC) (hrec : ∃ cell : Cell, H[b]? = some cell ∧ cell.vm.isStatics = false ∧ s.vm.findClass C = some cell.cls)
    (hn : As.length = n) (hsize : ls.size = nL) (hst : st0 = As.reverse ++ .ref b :: rest) (hW : (rest.map fun v => v.category).sum ≤ 8) (hdg : decode cc pc = .ok (.invokevirtual index, 3)) (hf : cells + mc ≤ R.cells ∧ slots + ms ≤ R.slots)
    (kk : ∀ (r : Int32) (u : S) (H1 : Heap) (locs1 : List Loc), post r u → va_P D vwCl (wr ++ W1 u) H1 → va_D A (wr ++ W1 u) → va_S A s.heap H1 locs1 → W p l e R s m args below meth c H1 locs1 (cells + mc) (slots + ms) Q (F0 m (pc + 3) ls (.int r :: rest))) : W p l e R s m args below meth c H locs cells slots Q (F0 m pc ls st0) := by
  have hF := va_free (wc := wc) hD hS hA isC hC
  refine va_calli (va_runV (As := As) (rest := rest) Sx hM cw ⟨oh_blm, hrec, oh_prm hK (hP.sub isC (oh_fm hC)) (hD.sub isC hnC hC) hG hS hF (.ref b :: As)⟩ rfl hn hsize hst (lv_room hW) hdg hf) hS (fun q _ h => hF q h) hF (fun r u t H1 locs1 ht hvm hw hB hz1 hk1 hS1 => ?_)
  obtain ⟨hP1, hD1⟩ := hB
  rw [ht] at hP1
  obtain ⟨hP2, hD2⟩ := va_join hP hD isC isR hC hR hnR hdis hk1 hF hP1 hD1
  exact kk r u H1 locs1 hw hP2 hD2 hS1
theorem oh_mVl {S : Type} {post : Int64 → S → Prop} {W1 : S → va_W} (Sx : CallFix p m c cc nL s args oh_t own) (hM : Met l y (oh_w y bytes maxL ret) rm (oh_Pm D E G (.ref b :: As) wc H.size) (va_Ql post (oh_B D (va_A wc H.size) W1) (va_A wc H.size)) mc ms (va_A wc H.size)) (cw : CallW R s args own C index y bytes maxL ret (oh_w y bytes maxL ret) rm mc ms n) (hK : va_K D vwCl (oh_ty E) s) (hP : va_P D vwCl ws H) (hD : va_D A ws) (hG : oh_G G A s) (hS : va_S A s.heap H locs) (hA : ∀ q, s.heap.size ≤ q → A q)
    (isC isR : List Nat) (hC : isC.map (fun i => ws[i]?) = wc.map some) (hR : isR.map (fun i => ws[i]?) = wr.map some) (hnC : va_nd isC = true) (hnR : va_nd isR = true) (hdis : ∀ i ∈ isR, i ∉ isC) (hrec : ∃ cell : Cell, H[b]? = some cell ∧ cell.vm.isStatics = false ∧ s.vm.findClass C = some cell.cls)
    (hn : As.length = n) (hsize : ls.size = nL) (hst : st0 = As.reverse ++ .ref b :: rest) (hW : (rest.map fun v => v.category).sum ≤ 8) (hdg : decode cc pc = .ok (.invokevirtual index, 3)) (hf : cells + mc ≤ R.cells ∧ slots + ms ≤ R.slots)
    (kk : ∀ (r : Int64) (u : S) (H1 : Heap) (locs1 : List Loc), post r u → va_P D vwCl (wr ++ W1 u) H1 → va_D A (wr ++ W1 u) → va_S A s.heap H1 locs1 → W p l e R s m args below meth c H1 locs1 (cells + mc) (slots + ms) Q (F0 m (pc + 3) ls (.long r :: rest))) : W p l e R s m args below meth c H locs cells slots Q (F0 m pc ls st0) := by
  have hF := va_free (wc := wc) hD hS hA isC hC
  refine va_calll (va_runV (As := As) (rest := rest) Sx hM cw ⟨oh_blm, hrec, oh_prm hK (hP.sub isC (oh_fm hC)) (hD.sub isC hnC hC) hG hS hF (.ref b :: As)⟩ rfl hn hsize hst (lv_room hW) hdg hf) hS (fun q _ h => hF q h) hF (fun r u t H1 locs1 ht hvm hw hB hz1 hk1 hS1 => ?_)
  obtain ⟨hP1, hD1⟩ := hB
  rw [ht] at hP1
  obtain ⟨hP2, hD2⟩ := va_join hP hD isC isR hC hR hnR hdis hk1 hF hP1 hD1
  exact kk r u H1 locs1 hw hP2 hD2 hS1
theorem oh_mVv {S : Type} {post : S → Prop} {W1 : S → va_W} (Sx : CallFix p m c cc nL s args oh_t own) (hM : Met l y (oh_w y bytes maxL ret) rm (oh_Pm D E G (.ref b :: As) wc H.size) (va_Qv post (oh_B D (va_A wc H.size) W1) (va_A wc H.size)) mc ms (va_A wc H.size)) (cw : CallW R s args own C index y bytes maxL ret (oh_w y bytes maxL ret) rm mc ms n) (hK : va_K D vwCl (oh_ty E) s) (hP : va_P D vwCl ws H) (hD : va_D A ws) (hG : oh_G G A s) (hS : va_S A s.heap H locs) (hA : ∀ q, s.heap.size ≤ q → A q)
    (isC isR : List Nat) (hC : isC.map (fun i => ws[i]?) = wc.map some) (hR : isR.map (fun i => ws[i]?) = wr.map some) (hnC : va_nd isC = true) (hnR : va_nd isR = true) (hdis : ∀ i ∈ isR, i ∉ isC) (hrec : ∃ cell : Cell, H[b]? = some cell ∧ cell.vm.isStatics = false ∧ s.vm.findClass C = some cell.cls)
    (hn : As.length = n) (hsize : ls.size = nL) (hst : st0 = As.reverse ++ .ref b :: rest) (hW : (rest.map fun v => v.category).sum ≤ 8) (hdg : decode cc pc = .ok (.invokevirtual index, 3)) (hf : cells + mc ≤ R.cells ∧ slots + ms ≤ R.slots)
    (kk : ∀ (u : S) (H1 : Heap) (locs1 : List Loc), post u → va_P D vwCl (wr ++ W1 u) H1 → va_D A (wr ++ W1 u) → va_S A s.heap H1 locs1 → W p l e R s m args below meth c H1 locs1 (cells + mc) (slots + ms) Q (F0 m (pc + 3) ls rest)) : W p l e R s m args below meth c H locs cells slots Q (F0 m pc ls st0) := by
  have hF := va_free (wc := wc) hD hS hA isC hC
  refine va_callv (va_runV (As := As) (rest := rest) Sx hM cw ⟨oh_blm, hrec, oh_prm hK (hP.sub isC (oh_fm hC)) (hD.sub isC hnC hC) hG hS hF (.ref b :: As)⟩ rfl hn hsize hst (lv_room hW) hdg hf) hS (fun q _ h => hF q h) hF (fun u t H1 locs1 ht hvm hw hB hz1 hk1 hS1 => ?_)
  obtain ⟨hP1, hD1⟩ := hB
  rw [ht] at hP1
  obtain ⟨hP2, hD2⟩ := va_join hP hD isC isR hC hR hnR hdis hk1 hF hP1 hD1
  exact kk u H1 locs1 hw hP2 hD2 hS1
theorem oh_mI {S : Type} {post : S → Prop} {W1 : S → va_W} (Sx : CallFix p m c cc nL s args oh_t own) (hM : Met l y (oh_w y bytes maxL none) rm (oh_Pm D E G (.ref b :: As) wc H.size) (va_Qv post (oh_B D (va_A wc H.size) W1) (va_A wc H.size)) mc ms (va_A wc H.size)) (cw : CallB R s args own index y bytes maxL none (oh_w y bytes maxL none) rm mc ms n ∧ y.name = "<init>" ∧ (Cond.instanceMethod y).before args s = true) (hK : va_K D vwCl (oh_ty E) s) (hP : va_P D vwCl ws H) (hD : va_D A ws) (hG : oh_G G A s) (hS : va_S A s.heap H locs) (hA : ∀ q, s.heap.size ≤ q → A q)
    (isC isR : List Nat) (hC : isC.map (fun i => ws[i]?) = wc.map some) (hR : isR.map (fun i => ws[i]?) = wr.map some) (hnC : va_nd isC = true) (hnR : va_nd isR = true) (hdis : ∀ i ∈ isR, i ∉ isC)
    (hn : As.length = n) (hsize : ls.size = nL) (hst : st0 = As.reverse ++ .ref b :: rest) (hW : (rest.map fun v => v.category).sum ≤ 8) (hdg : decode cc pc = .ok (.invokespecial index, 3)) (hf : cells + mc ≤ R.cells ∧ slots + ms ≤ R.slots)
    (kk : ∀ (u : S) (H1 : Heap) (locs1 : List Loc), post u → va_P D vwCl (wr ++ W1 u) H1 → va_D A (wr ++ W1 u) → va_S A s.heap H1 locs1 → W p l e R s m args below meth c H1 locs1 (cells + mc) (slots + ms) Q (F0 m (pc + 3) ls rest)) : W p l e R s m args below meth c H locs cells slots Q (F0 m pc ls st0) := by
  have hF := va_free (wc := wc) hD hS hA isC hC
  refine va_callv (va_runI (As := As) (rest := rest) Sx hM cw ⟨oh_blm, oh_prm hK (hP.sub isC (oh_fm hC)) (hD.sub isC hnC hC) hG hS hF (.ref b :: As)⟩ rfl hn hsize hst (lv_room hW) hdg hf) hS (fun q _ h => hF q h) hF (fun u t H1 locs1 ht hvm hw hB hz1 hk1 hS1 => ?_)
  obtain ⟨hP1, hD1⟩ := hB
  rw [ht] at hP1
  obtain ⟨hP2, hD2⟩ := va_join hP hD isC isR hC hR hnR hdis hk1 hF hP1 hD1
  exact kk u H1 locs1 hw hP2 hD2 hS1
theorem oh_mIN {S : Type} {post : S → Prop} {W1 : S → va_W} (Sx : CallFix p m c cc nL s args oh_t own) (hM : Met l y (oh_w y bytes maxL none) rm (oh_Pm D E G (.ref b :: As) wc H.size) (va_Qv post (oh_B D (va_A wc H.size) W1) (va_A wc H.size)) mc ms (va_A wc H.size)) (cw : va_CN R s args own index y host bytes maxL none (oh_w y bytes maxL none) rm mc ms n ∧ y.name = "<init>" ∧ (Cond.instanceMethod y).before args s = true) (hK : va_K D vwCl (oh_ty E) s) (hP : va_P D vwCl ws H) (hD : va_D A ws) (hG : oh_G G A s) (hS : va_S A s.heap H locs) (hA : ∀ q, s.heap.size ≤ q → A q)
    (isC isR : List Nat) (hC : isC.map (fun i => ws[i]?) = wc.map some) (hR : isR.map (fun i => ws[i]?) = wr.map some) (hnC : va_nd isC = true) (hnR : va_nd isR = true) (hdis : ∀ i ∈ isR, i ∉ isC)
    (hn : As.length = n) (hsize : ls.size = nL) (hst : st0 = As.reverse ++ .ref b :: rest) (hW : (rest.map fun v => v.category).sum ≤ 8) (hdg : decode cc pc = .ok (.invokespecial index, 3)) (hf : cells + mc ≤ R.cells ∧ slots + ms ≤ R.slots)
    (kk : ∀ (u : S) (H1 : Heap) (locs1 : List Loc), post u → va_P D vwCl (wr ++ W1 u) H1 → va_D A (wr ++ W1 u) → va_S A s.heap H1 locs1 → W p l e R s m args below meth c H1 locs1 (cells + mc) (slots + ms) Q (F0 m (pc + 3) ls rest)) : W p l e R s m args below meth c H locs cells slots Q (F0 m pc ls st0) := by
  have hF := va_free (wc := wc) hD hS hA isC hC
  refine va_callv (va_runIN (As := As) (rest := rest) Sx hM cw ⟨oh_blm, oh_prm hK (hP.sub isC (oh_fm hC)) (hD.sub isC hnC hC) hG hS hF (.ref b :: As)⟩ rfl hn hsize hst (lv_room hW) hdg hf) hS (fun q _ h => hF q h) hF (fun u t H1 locs1 ht hvm hw hB hz1 hk1 hS1 => ?_)
  obtain ⟨hP1, hD1⟩ := hB
  rw [ht] at hP1
  obtain ⟨hP2, hD2⟩ := va_join hP hD isC isR hC hR hnR hdis hk1 hF hP1 hD1
  exact kk u H1 locs1 hw hP2 hD2 hS1
theorem oh_nrm {x v : Int32} (h : x = v) (k : W p l e R s m args below meth c H locs cells slots Q (F0 m pc ls (.int v :: rest))) : W p l e R s m args below meth c H locs cells slots Q (F0 m pc ls (.int x :: rest)) := by subst h; exact k
theorem oh_nrml {x v : Int64} (h : x = v) (k : W p l e R s m args below meth c H locs cells slots Q (F0 m pc ls (.long v :: rest))) : W p l e R s m args below meth c H locs cells slots Q (F0 m pc ls (.long x :: rest)) := by subst h; exact k
theorem oh_ne {x y : Int32} {k : Int} (h : ¬ x = y) (hy : y.toInt = k) : x.toInt ≠ k := fun e => h (Int32.toInt_inj.mp (e.trans hy.symm))
/-- a row's contents may be told otherwise, as long as its places agree -/
theorem oh_rwi {k a : Nat} {cA : ClassId} {f g : Nat → Int32} {N : Nat} (hk : ws[k]? = some (a, .inl (cA, N, .inl f))) (h : ∀ j, j < N → f j = g j) (hP : va_P D vwCl ws H) : va_P D vwCl (ws.set k (a, .inl (cA, N, .inl g))) H := by
  intro i q hq
  by_cases e : k = i
  · subst e
    have hl : k < ws.length := (List.getElem?_eq_some_iff.mp hk).1
    rw [List.getElem?_set_self hl] at hq
    cases hq
    have h1 : H[a]? = some (vp_cell cA (N, .inl f)) := hP k _ hk
    show H[a]? = some (vp_cell cA (N, .inl g))
    rw [h1]
    show some (arrV cA N (fun j => .int (f j))) = some (arrV cA N (fun j => .int (g j)))
    have e2 : (fun j : Fin N => Value.int (f j.val)) = (fun j : Fin N => Value.int (g j.val)) := funext (fun j => by rw [h j.val j.isLt])
    unfold arrV
    rw [e2]
  · rw [List.getElem?_set_ne e] at hq
    exact hP i q hq
theorem oh_rwD {k a : Nat} {x y : va_E} (hk : ws[k]? = some (a, x)) (hD : va_D A ws) : va_D A (ws.set k (a, y)) := by
  have key : ∀ (i : Nat) (q : Nat × va_E), (ws.set k (a, y))[i]? = some q → ∃ z, ws[i]? = some (q.1, z) := by
    intro i q hq
    by_cases e : k = i
    · subst e
      have hl : k < ws.length := (List.getElem?_eq_some_iff.mp hk).1
      rw [List.getElem?_set_self hl] at hq
      cases hq
      exact ⟨x, hk⟩
    · rw [List.getElem?_set_ne e] at hq
      exact ⟨q.2, hq⟩
  refine ⟨fun i j q r hi hj e => ?_, fun i q hi => ?_⟩
  · obtain ⟨z1, h1⟩ := key i q hi
    obtain ⟨z2, h2⟩ := key j r hj
    exact hD.1 i j _ _ h1 h2 e
  · obtain ⟨z1, h1⟩ := key i q hi
    exact hD.2 i (q.1, z1) h1
/-- one array class a type -/
theorem oh_same {tys : List (ClassId × FieldType)} {i j : Nat} {cA cB : ClassId} {ty : FieldType} (hK : va_K D vwCl tys s) (hi : tys[i]? = some (cA, ty)) (hj : tys[j]? = some (cB, ty)) (ht : ∀ C, ty ≠ .object C) : cA = cB := by
  have h1 := (hK.2 i _ hi).2
  have h2 := (hK.2 j _ hj).2
  cases ty with
  | object C => exact absurd rfl (ht C)
  | _ => exact Option.some.inj (h1.symm.trans h2)
/-- what lies in an array of arrays -/
theorem oh_aald (hexec : p.tables.exec = Jvm.exec) (hb : c.code = cc) {tys : List (ClassId × FieldType)} {a : Nat} (hK : va_K D vwCl tys s) (hP : va_P D vwCl ws H) (q0 t0 : Nat) {cA : ClassId} {ty : FieldType} {k : Nat} {f : Nat → Option Nat} (ha : ws[q0]? = some (a, .inl (cA, k, .inr (.inr (.inr (.inr f)))))) (ht : tys[t0]? = some (cA, .array ty)) {i : Int32} (hin : vp_in i k) {r : Nat} (hf : f i.toNatClampNeg = some r) (hdg : decode cc pc = .ok (.aaload, 1))
    (kk : W p l e R s m args below meth c H locs cells slots Q (F0 m (pc + 1) ls (.ref r :: rest))) : W p l e R s m args below meth c H locs cells slots Q (F0 m pc ls (.int i :: .ref a :: rest)) := by
  have hlt : i.toNatClampNeg < k := Nat.not_le.mp fun q => hin (Or.inr q)
  exact W.aald (v := .ref r) (ty := .array ty) hexec hb (hP q0 _ ha) ((hK.2 t0 _ ht).1 k (fun j => va_rf (f j))) rfl (fun q => by cases q) (by show ¬ (i < 0 ∨ (arrV _ _ _).slots.size ≤ _); rw [arrV_size]; exact hin) (by show (arrV _ _ _).slots[_]? = _; rw [arrV_read _ _ hlt, hf]; rfl) rfl rfl hdg kk
end OHC
