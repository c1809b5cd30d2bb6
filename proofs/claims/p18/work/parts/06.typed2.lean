theorem ig_0 : ∀ w ∈ u_ws RX0 TX0 8, w ∈ oh_t := oh_ofs [115, 117, 119, 121, 123, 125, 127, 129] (by decide +kernel) (by decide +kernel)
theorem oh_df0 : ∀ j, j < 8 → defaultValue (tyX0 j) = vp_V [.null, .null, .null, .null, .null, .null, .null, .int 0] j := by
  intro j hj
  rcases (show j = 0 ∨ j = 1 ∨ j = 2 ∨ j = 3 ∨ j = 4 ∨ j = 5 ∨ j = 6 ∨ j = 7 by omega) with rfl | rfl | rfl | rfl | rfl | rfl | rfl | rfl <;> rfl
theorem ig_1 : ∀ w ∈ u_ws RX1 TX1 5, w ∈ oh_t := oh_ofs [155, 157, 159, 161, 163] (by decide +kernel) (by decide +kernel)
theorem oh_df1 : ∀ j, j < 5 → defaultValue (tyX1 j) = vp_V [.int 0, .int 0, .int 0, .int 0, .int 0] j := by
  intro j hj
  rcases (show j = 0 ∨ j = 1 ∨ j = 2 ∨ j = 3 ∨ j = 4 by omega) with rfl | rfl | rfl | rfl | rfl <;> rfl
theorem ig_2 : ∀ w ∈ u_ws RX2 TX2 4, w ∈ oh_t := oh_ofs [249, 251, 253, 255] (by decide +kernel) (by decide +kernel)
theorem oh_df2 : ∀ j, j < 4 → defaultValue (tyX2 j) = vp_V [.null, .null, .null, .null] j := by
  intro j hj
  rcases (show j = 0 ∨ j = 1 ∨ j = 2 ∨ j = 3 by omega) with rfl | rfl | rfl | rfl <;> rfl
theorem ig_3 : ∀ w ∈ u_ws RX3 TX3 3, w ∈ oh_t := oh_ofs [203, 205, 207] (by decide +kernel) (by decide +kernel)
theorem oh_df3 : ∀ j, j < 3 → defaultValue (tyX3 j) = vp_V [.null, .null, .null] j := by
  intro j hj
  rcases (show j = 0 ∨ j = 1 ∨ j = 2 by omega) with rfl | rfl | rfl <;> rfl
theorem ig_4 : ∀ w ∈ u_ws RX4 TX4 6, w ∈ oh_t := oh_ofs [225, 227, 229, 231, 233, 235] (by decide +kernel) (by decide +kernel)
theorem oh_df4 : ∀ j, j < 6 → defaultValue (tyX4 j) = vp_V [.null, .int 0, .int 0, .int 0, .int 0, .int 0] j := by
  intro j hj
  rcases (show j = 0 ∨ j = 1 ∨ j = 2 ∨ j = 3 ∨ j = 4 ∨ j = 5 by omega) with rfl | rfl | rfl | rfl | rfl | rfl <;> rfl
theorem ig_5 : ∀ w ∈ u_ws RX5 TX5 7, w ∈ oh_t := oh_ofs [177, 179, 181, 183, 185, 187, 189] (by decide +kernel) (by decide +kernel)
theorem oh_df5 : ∀ j, j < 7 → defaultValue (tyX5 j) = vp_V [.null, .null, .null, .null, .null, .null, .null] j := by
  intro j hj
  rcases (show j = 0 ∨ j = 1 ∨ j = 2 ∨ j = 3 ∨ j = 4 ∨ j = 5 ∨ j = 6 by omega) with rfl | rfl | rfl | rfl | rfl | rfl | rfl <;> rfl
theorem ig_6 : ∀ w ∈ u_ws RX6 TX6 9, w ∈ oh_t := oh_ofs [267, 269, 271, 273, 275, 277, 279, 281, 283] (by decide +kernel) (by decide +kernel)
theorem oh_df6 : ∀ j, j < 9 → defaultValue (tyX6 j) = vp_V [.null, .null, .int 0, .null, .null, .null, .null, .null, .null] j := by
  intro j hj
  rcases (show j = 0 ∨ j = 1 ∨ j = 2 ∨ j = 3 ∨ j = 4 ∨ j = 5 ∨ j = 6 ∨ j = 7 ∨ j = 8 by omega) with rfl | rfl | rfl | rfl | rfl | rfl | rfl | rfl | rfl <;> rfl
theorem ig_7 : ∀ w ∈ u_ws RX7 TX7 29, w ∈ oh_t := oh_ofs [1002, 1004, 1006, 1008, 1010, 1012, 1014, 1016, 1018, 1020, 1022, 1024, 1026, 1028, 1030, 1032, 1034, 1036, 1038, 1040, 1042, 1044, 1046, 1048, 1050, 1052, 1054, 1056, 1058] (by decide +kernel) (by decide +kernel)
theorem oh_df7 : ∀ j, j < 29 → defaultValue (tyX7 j) = vp_V [.null, .null, .null, .null, .null, .null, .null, .int 0, .null, .int 0, .null, .int 0, .null, .int 0, .null, .int 0, .null, .null, .null, .int 0, .null, .int 0, .int 0, .int 0, .long 0, .int 0, .int 0, .null, .int 0] j := by
  intro j hj
  rcases (show j = 0 ∨ j = 1 ∨ j = 2 ∨ j = 3 ∨ j = 4 ∨ j = 5 ∨ j = 6 ∨ j = 7 ∨ j = 8 ∨ j = 9 ∨ j = 10 ∨ j = 11 ∨ j = 12 ∨ j = 13 ∨ j = 14 ∨ j = 15 ∨ j = 16 ∨ j = 17 ∨ j = 18 ∨ j = 19 ∨ j = 20 ∨ j = 21 ∨ j = 22 ∨ j = 23 ∨ j = 24 ∨ j = 25 ∨ j = 26 ∨ j = 27 ∨ j = 28 by omega) with rfl | rfl | rfl | rfl | rfl | rfl | rfl | rfl | rfl | rfl | rfl | rfl | rfl | rfl | rfl | rfl | rfl | rfl | rfl | rfl | rfl | rfl | rfl | rfl | rfl | rfl | rfl | rfl | rfl <;> rfl
theorem oh_new_i (n : Nat) (c : ClassId) : vp_cell c (n, .inl (fun _ => 0)) = arrV c n (fun _ => defaultValue .int) := rfl
theorem oh_new_l (n : Nat) (c : ClassId) : vp_cell c (n, .inr (.inl (fun _ => 0))) = arrV c n (fun _ => defaultValue .long) := rfl
theorem oh_nn {x : Int32} {l u : Int} (h : rg x l u) (hd : decide (0 ≤ l) = true) : ¬ x < 0 := by
  have h2 := of_decide_eq_true hd
  intro c
  have := Int32.lt_iff_toInt_lt.mp c
  have e : (0 : Int32).toInt = 0 := rfl
  obtain ⟨a1, a2⟩ := h
  omega
theorem oh_cp {s i n : Int32} (hs : rg s 0 7) (hn : rg n 0 40) (hi : i.toInt + n.toInt ≤ 40) (h0 : 0 ≤ i.toInt) : (s * 40 + i).toNatClampNeg + n.toNatClampNeg ≤ 320 := by
  have h1 : rg (s * 40) 0 280 := rg_mul hs (rg_c (v := 40) (lo := 40) (hi := 40) (by decide)) (by decide)
  have h2 : rg i 0 40 := ⟨h0, by have := hn.1; omega⟩
  have e1 : (s * 40).toInt = s.toInt * 40 := by
    rw [Int32.toInt_mul]
    exact oh_bmod (by show _ ≤ s.toInt * 40; have := hs.1; omega) (by show s.toInt * 40 ≤ _; have := hs.2; omega)
  have e2 : (s * 40 + i).toInt = s.toInt * 40 + i.toInt := by
    rw [Int32.toInt_add, e1]
    exact oh_bmod (by have := hs.1; omega) (by have := hs.2; have := h2.2; omega)
  show (s * 40 + i).toInt.toNat + n.toInt.toNat ≤ 320
  rw [e2]
  obtain ⟨a1, a2⟩ := hs
  obtain ⟨b1, b2⟩ := hn
  omega
theorem fr_ste {mc : List (Nat × Nat)} {mf : List Nat} {C0 C C2 : Nat → va_E} {k : Nat} {x : va_E} (h : fr mc mf C0 C) (e : C2 = updc C k x) (hk : k ≠ 0) (hm : inR mc k = true) : fr mc mf C0 C2 := by rw [e]; exact fr_st h hk hm
theorem fr_fde {mc : List (Nat × Nat)} {mf : List Nat} {C0 C C2 : Nat → va_E} {ci j : Nat} {fs : List Value} {v : Value} (h : fr mc mf C0 C) (e : C2 = updc C 0 (.inr (ci, fs.set j v))) (hs : C 0 = .inr (ci, fs)) (hj : j ∈ mf) : fr mc mf C0 C2 := by rw [e]; exact fr_fd h hs hj
theorem oh_rgA {c d : va_E} {j : Nat} {lo hi : Int} (e : c = d) (h : rg (ga d j) lo hi) : rg (ga c j) lo hi := by rw [e]; exact h
theorem oh_rgF {x y : Int32} {lo hi : Int} (e : x = y) (h : rg y lo hi) : rg x lo hi := by rw [e]; exact h
theorem inR_out {l : List (Nat × Nat)} {b N i : Nat} (hi : i < N) (h : l.all (fun p => Nat.ble (b + N) p.1 || Nat.ble p.2 b) = true) : inR l (b + i) = false := by
  cases e : inR l (b + i) with
  | false => rfl
  | true =>
    unfold inR at e
    rw [List.any_eq_true] at e
    obtain ⟨p, hp, h1⟩ := e
    rw [Bool.and_eq_true, Nat.ble_eq, Nat.blt_eq] at h1
    have h2 := List.all_eq_true.mp h p hp
    rw [Bool.or_eq_true, Nat.ble_eq, Nat.ble_eq] at h2
    omega
theorem rg_shl1 {p : Int32} (h : rg p 0 5) : rg ((1 : Int32) <<< (p &&& 31)) 1 32 := by
  obtain ⟨h1, h2⟩ := h
  have h3 : p.toInt = 0 ∨ p.toInt = 1 ∨ p.toInt = 2 ∨ p.toInt = 3 ∨ p.toInt = 4 ∨ p.toInt = 5 := by omega
  have k : p = 0 ∨ p = 1 ∨ p = 2 ∨ p = 3 ∨ p = 4 ∨ p = 5 := by
    rcases h3 with e | e | e | e | e | e
    · exact Or.inl (Int32.toInt_inj.mp e)
    · exact Or.inr (Or.inl (Int32.toInt_inj.mp e))
    · exact Or.inr (Or.inr (Or.inl (Int32.toInt_inj.mp e)))
    · exact Or.inr (Or.inr (Or.inr (Or.inl (Int32.toInt_inj.mp e))))
    · exact Or.inr (Or.inr (Or.inr (Or.inr (Or.inl (Int32.toInt_inj.mp e)))))
    · exact Or.inr (Or.inr (Or.inr (Or.inr (Or.inr (Int32.toInt_inj.mp e)))))
  rcases k with e | e | e | e | e | e <;> subst e <;> exact rg_c (by decide)
theorem va_nil {D : va_G} {H : Heap} : va_P D vwCl [] H := fun k q h => by simp at h
theorem oh_fv {fs : List Value} {j : Nat} {c : va_E} {v : Int32} (h : fs[j]? = some (.int (gi c j))) (e : gi c j = v) : fs[j]? = some (.int v) := by rw [h, e]
theorem oh_fz {r : Int32} (h : r = 0 ∨ r = 1) : fits .boolean (.int r) = true := by
  rcases h with h | h <;> subst h <;> rfl
theorem oh_rgb {r : Int32} (h : r = 0 ∨ r = 1) : rg r 0 1 := by
  rcases h with h | h <;> subst h <;> exact rg_c (by decide)
theorem oh_rgb2 {r : Int32} (h : rg r 0 1) : r = 0 ∨ r = 1 := by
  obtain ⟨h1, h2⟩ := h
  have : r.toInt = 0 ∨ r.toInt = 1 := by omega
  rcases this with e | e
  · exact Or.inl (Int32.toInt_inj.mp e)
  · exact Or.inr (Int32.toInt_inj.mp e)
theorem st_ga {C C2 : Nat → va_E} {k n : Nat} {cA : ClassId} {f : Nat → Int32} (e : C2 = updc C k (.inl (cA, n, .inl f))) : ga (C2 k) = f := by
  rw [e, updc_eq]
  rfl
theorem oh_srec {G : Nat → Nat} {A : Nat → Prop} {s : State} {H : Heap} {locs : List Loc} (hG : oh_G G A s) (hS : va_S A s.heap H locs) {j : Nat} (hj : j < 34) : ∃ cell : Cell, H[G (3 + j)]? = some cell ∧ cell.vm.isStatics = false ∧ s.vm.findClass "java/lang/String" = some cell.cls := by
  obtain ⟨cell, h1, h2, h3, -⟩ := (hG.2.2.2.2.2.2.2.2.2.2 j hj).1.kept hS.2.1
  exact ⟨cell, h1, h2, h3⟩
def oh_Sv : Array Value → State → Outcome → State → Prop := fun _ st o t => o = .returned none ∧ t.heap = st.heap
section TH2
variable {p : Program} {l : Launch} {e : Env} {R : Room} {s : State} {m : MethodId} {args : Array Value} {below : List Frame} {meth : Method} {c : Code} {H : Heap} {locs : List Loc} {cells slots : Nat} {Q : State → Prop}
variable {cc : ByteArray} {pc n index : Nat} {ls : Array Slot} {rest : List Value} {D : va_G} {E : Nat → ClassId} {A : Nat → Prop} {own : String} {a : Nat → Nat} {C : Nat → va_E} {H0 : Heap}
theorem oh_callSv {av : Array Value} {st0 : List Value} (hr : CallRun p l e R s m args below meth c H locs cells slots 0 0 (F0 m pc ls st0) rest (oh_Sv av) (fun _ => False))
    (kk : W p l e R s m args below meth c H locs cells slots Q (F0 m (pc + 3) ls rest)) : W p l e R s m args below meth c H locs cells slots Q (F0 m pc ls st0) := by
  intro T hT X
  obtain ⟨v, st₀, t, T', L, h0, X', hL, e1, ⟨hv, hh⟩, st⟩ := hr T hT X
  cases hv
  obtain ⟨t2, a1, b1⟩ := kk T' (by rw [e1, hh, h0]) (Stand.forget X' (fun q h => (hL q h).elim))
  exact ⟨t2, st t2 a1, b1⟩
theorem tq_Sv {G : Nat → Nat} {As st0 : List Value} {bytes : ByteArray} {maxL nn nL : Nat} {ret : Option FieldType} {rm : Room} {y : MethodName} {ws : va_W} (S : CallFix p m c cc nL s args oh_t own) (hM : Met l y (oh_w y bytes maxL ret) rm (oh_Pp D E G As ws) oh_Sv 0 0 (fun _ => False)) (cw : CallB R s args own index y bytes maxL ret (oh_w y bytes maxL ret) rm 0 0 nn ∧ (Cond.static y).before args s = true) (hK : va_K D vwCl (oh_ty E) s) (hP : va_P D vwCl ws H) (hG : oh_G G A s) (hS : va_S A s.heap H locs)
    (hn : As.length = nn) (hsize : ls.size = nL) (hst : st0 = As.reverse ++ rest) (hW : (rest.map fun v => v.category).sum ≤ 8) (hdg : decode cc pc = .ok (.invokestatic index, 3)) (hf : cells ≤ R.cells ∧ slots ≤ R.slots)
    (kk : W p l e R s m args below meth c H locs cells slots Q (F0 m (pc + 3) ls rest)) : W p l e R s m args below meth c H locs cells slots Q (F0 m pc ls st0) :=
  oh_callSv (va_Run.run (va_runS (As := As) (rest := rest) S hM cw ⟨oh_blp, oh_pre hK hP hG hS As⟩ rfl hn hsize hst (lv_room hW) hdg hf)) kk
theorem th_copyi {T Rl : (Nat → va_E) → Prop} (hexec : p.tables.exec = Jvm.exec) (hb : c.code = cc) (hml : c.maxLocals = ls.size) (hown : s.vm.findClass own = some m.cls) (hlink : (Cond.methodLink own index arraycopyName).before args s = true) (hnat : (Cond.native arraycopyName).before args s = true) (hstat : (Cond.static arraycopyName).before args s = true) (hini : (Cond.initialized "java/lang/System").before args s = true)
    (hK : va_K D vwCl (oh_ty E) s) (hP : va_P D vwCl (oh_W n a C) H) (hD : va_D A (oh_W n a C)) (hS : va_S A H0 H locs) (k0 k1 : Nat) (hk0 : k0 < n) (hk1 : k1 < n) {n0 n1 : Nat} {f g : Nat → Int32} (hs0 : C k0 = .inl (E 0, n0, .inl f)) (hs1 : C k1 = .inl (E 0, n1, .inl g))
    {sp dp nn : Int32} (h1 : ¬ sp < 0) (h2 : ¬ dp < 0) (h3 : ¬ nn < 0) (h4 : sp.toNatClampNeg + nn.toNatClampNeg ≤ n0) (h5 : dp.toNatClampNeg + nn.toNatClampNeg ≤ n1) (hT : T (updc C k1 (.inl (E 0, n1, .inl (va_cpy f g sp.toNatClampNeg dp.toNatClampNeg nn.toNatClampNeg))))) (hR : Rl (updc C k1 (.inl (E 0, n1, .inl (va_cpy f g sp.toNatClampNeg dp.toNatClampNeg nn.toNatClampNeg)))))
    (hframes : 1 ≤ R.frames) (hlocals : (rest.map fun v => v.category).sum + (nativeFrameWords "java/lang/System" "arraycopy" 5 + 11) ≤ R.locals) (hdg : decode cc pc = .ok (.invokestatic index, 3))
    (kk : ∀ (C2 : Nat → va_E) (H1 : Heap) (locs1 : List Loc), C2 = updc C k1 (.inl (E 0, n1, .inl (va_cpy f g sp.toNatClampNeg dp.toNatClampNeg nn.toNatClampNeg))) → T C2 → Rl C2 → va_P D vwCl (oh_W n a C2) H1 → va_D A (oh_W n a C2) → va_S A H0 H1 locs1 → W p l e R s m args below meth c H1 locs1 cells slots Q (F0 m (pc + 3) ls rest)) : W p l e R s m args below meth c H locs cells slots Q (F0 m pc ls (.int nn :: .int dp :: .ref (a k1) :: .int sp :: .ref (a k0) :: rest)) :=
  va_copyi (ty := .int) hexec hb hml hown hlink hnat hstat hini hK hP hD hS k0 k1 0 0 (oh_wg hk0 hs0) (oh_wg hk1 hs1) rfl rfl rfl h1 h2 h3 h4 h5 (fun _ _ => rfl) hframes hlocals hdg (fun H1 locs1 p1 d1 s1 => kk _ H1 locs1 rfl hT hR (by rw [← oh_ws hk1]; exact p1) (by rw [← oh_ws hk1]; exact d1) s1)
theorem th_copyl {T Rl : (Nat → va_E) → Prop} (hexec : p.tables.exec = Jvm.exec) (hb : c.code = cc) (hml : c.maxLocals = ls.size) (hown : s.vm.findClass own = some m.cls) (hlink : (Cond.methodLink own index arraycopyName).before args s = true) (hnat : (Cond.native arraycopyName).before args s = true) (hstat : (Cond.static arraycopyName).before args s = true) (hini : (Cond.initialized "java/lang/System").before args s = true)
    (hK : va_K D vwCl (oh_ty E) s) (hP : va_P D vwCl (oh_W n a C) H) (hD : va_D A (oh_W n a C)) (hS : va_S A H0 H locs) (k0 k1 : Nat) (hk0 : k0 < n) (hk1 : k1 < n) {n0 n1 : Nat} {f g : Nat → Int64} (hs0 : C k0 = .inl (E 1, n0, .inr (.inl f))) (hs1 : C k1 = .inl (E 1, n1, .inr (.inl g)))
    {sp dp nn : Int32} (h1 : ¬ sp < 0) (h2 : ¬ dp < 0) (h3 : ¬ nn < 0) (h4 : sp.toNatClampNeg + nn.toNatClampNeg ≤ n0) (h5 : dp.toNatClampNeg + nn.toNatClampNeg ≤ n1) (hT : T (updc C k1 (.inl (E 1, n1, .inr (.inl (va_cpy f g sp.toNatClampNeg dp.toNatClampNeg nn.toNatClampNeg)))))) (hR : Rl (updc C k1 (.inl (E 1, n1, .inr (.inl (va_cpy f g sp.toNatClampNeg dp.toNatClampNeg nn.toNatClampNeg))))))
    (hframes : 1 ≤ R.frames) (hlocals : (rest.map fun v => v.category).sum + (nativeFrameWords "java/lang/System" "arraycopy" 5 + 11) ≤ R.locals) (hdg : decode cc pc = .ok (.invokestatic index, 3))
    (kk : ∀ (C2 : Nat → va_E) (H1 : Heap) (locs1 : List Loc), C2 = updc C k1 (.inl (E 1, n1, .inr (.inl (va_cpy f g sp.toNatClampNeg dp.toNatClampNeg nn.toNatClampNeg)))) → T C2 → Rl C2 → va_P D vwCl (oh_W n a C2) H1 → va_D A (oh_W n a C2) → va_S A H0 H1 locs1 → W p l e R s m args below meth c H1 locs1 cells slots Q (F0 m (pc + 3) ls rest)) : W p l e R s m args below meth c H locs cells slots Q (F0 m pc ls (.int nn :: .int dp :: .ref (a k1) :: .int sp :: .ref (a k0) :: rest)) :=
  va_copyl (ty := .long) hexec hb hml hown hlink hnat hstat hini hK hP hD hS k0 k1 1 1 (oh_wg hk0 hs0) (oh_wg hk1 hs1) rfl rfl rfl h1 h2 h3 h4 h5 (fun _ _ => rfl) hframes hlocals hdg (fun H1 locs1 p1 d1 s1 => kk _ H1 locs1 rfl hT hR (by rw [← oh_ws hk1]; exact p1) (by rw [← oh_ws hk1]; exact d1) s1)
end TH2
