/-- row()'s answer -/
def oh_row (s t n : Int32) : Int32 := if ((0 : Int32) ≤ s ∧ s ≤ 7) ∧ ((0 : Int32) ≤ t ∧ t ≤ 4) ∧ ((0 : Int32) ≤ n ∧ n ≤ 40) then 1 else -2
theorem oh_row1 {s t n : Int32} (hs : rg s 0 7) (ht : rg t 0 4) (hn : rg n 0 40) : (1 : Int32) = oh_row s t n := (if_pos ⟨⟨Int32.le_iff_toInt_le.mpr hs.1, Int32.le_iff_toInt_le.mpr hs.2⟩, ⟨Int32.le_iff_toInt_le.mpr ht.1, Int32.le_iff_toInt_le.mpr ht.2⟩, ⟨Int32.le_iff_toInt_le.mpr hn.1, Int32.le_iff_toInt_le.mpr hn.2⟩⟩).symm
theorem oh_row2 {s t n : Int32} {r : Int32} (e : r = -2) (h : ¬ ((0 : Int32) ≤ s ∧ s ≤ 7) ∨ ¬ ((0 : Int32) ≤ t ∧ t ≤ 4) ∨ ¬ ((0 : Int32) ≤ n ∧ n ≤ 40)) : r = oh_row s t n := by
  rw [e]
  refine (if_neg (fun q => ?_)).symm
  rcases h with h | h | h
  · exact h q.1
  · exact h q.2.1
  · exact h q.2.2

set_option maxHeartbeats 4000000 in
set_option maxRecDepth 100000 in
theorem c_J6_bitCount_0f7a4 (l : Launch) (D : va_G) (E : Nat → ClassId) (G : Nat → Nat) (x1 : Int32) : Met l yJ6_bitCount_0f7a4 (oh_w yJ6_bitCount_0f7a4 cJ6_bitCount_0f7a4 1 (some .int)) ({ frames := 0, cells := 0, slots := 0, locals := 0 }) (oh_Pp D E G [.int x1] []) (vp_Si (fun r => True)) 0 0 (fun _ => False) := by
  refine Met.ofW (cc := cJ6_bitCount_0f7a4) (maxL := 1) (ret := (some .int)) (by decide) rfl ?_
  intro p e s m args below meth c s₁ B hml hv
  obtain ⟨rfl, hP, hK, hG⟩ := hv
  have hx := B.exec
  have hb := B.bytes
  have hr := B.returns
  have hts := atoms_spec (ws := (oh_w yJ6_bitCount_0f7a4 cJ6_bitCount_0f7a4 1 (some .int))) B.pre
  have htg : ∀ w ∈ oh_t, w.before _ s = true := fun w h => hts w (List.mem_cons_of_mem _ h)
  have hown : s.vm.findClass RJ6 = some m.cls := findClass_of_methodNamed B.named
  have hlocks := B.notSynchronized
  have hS : va_S (fun _ => False) s.heap s.heap [] := va_S.rf
  have hl := lv_entry ([.int x1]) (n := 1) (Nat.le_of_ble_eq_true rfl)
  rw [lg_entry_eq]
  generalize (lg_sl ([.int x1]) ++ List.replicate (1 - (lg_sl ([.int x1])).length) Slot.unset).toArray = ls at hl ⊢
  have hl : lv_has ls 1 [(0, .int x1)] := hl
  refine oh_genQ (fun Q hQ => ?_)
  refine lv_iload_n hx hb dJ6_bitCount_0f7a4_0 rfl (lv_at hl 0 rfl) ?_
  refine lv_iload_n hx hb dJ6_bitCount_0f7a4_1 rfl (lv_at hl 0 rfl) ?_
  refine lv_iconst (v := 1) hx hb dJ6_bitCount_0f7a4_2 (by decide) ?_
  refine lv_iushr (v := (x1.toUInt32 >>> ((1 : Int32).toUInt32 &&& Int32.toUInt32 31)).toInt32) hx hb dJ6_bitCount_0f7a4_3 rfl ?_
  refine lv_ldcw (v := 1431655765) hx hb hown (htg _ q_857) dJ6_bitCount_0f7a4_4 ?_
  refine lv_iand hx hb dJ6_bitCount_0f7a4_7 ?_
  refine lv_isub hx hb dJ6_bitCount_0f7a4_8 ?_
  refine lv_istore_n (lv' := [(0, .int (x1 - (((x1.toUInt32 >>> ((1 : Int32).toUInt32 &&& Int32.toUInt32 31)).toInt32) &&& 1431655765)))]) hx hb dJ6_bitCount_0f7a4_9 rfl hl (by decide) rfl (fun ls hl => ?_)
  refine lv_iload_n hx hb dJ6_bitCount_0f7a4_10 rfl (lv_at hl 0 rfl) ?_
  refine lv_ldcw (v := 858993459) hx hb hown (htg _ q_858) dJ6_bitCount_0f7a4_11 ?_
  refine lv_iand hx hb dJ6_bitCount_0f7a4_14 ?_
  refine lv_iload_n hx hb dJ6_bitCount_0f7a4_15 rfl (lv_at hl 0 rfl) ?_
  refine lv_iconst (v := 2) hx hb dJ6_bitCount_0f7a4_16 (by decide) ?_
  refine lv_iushr (v := ((x1 - (((x1.toUInt32 >>> ((1 : Int32).toUInt32 &&& Int32.toUInt32 31)).toInt32) &&& 1431655765)).toUInt32 >>> ((2 : Int32).toUInt32 &&& Int32.toUInt32 31)).toInt32) hx hb dJ6_bitCount_0f7a4_17 rfl ?_
  refine lv_ldcw (v := 858993459) hx hb hown (htg _ q_858) dJ6_bitCount_0f7a4_18 ?_
  refine lv_iand hx hb dJ6_bitCount_0f7a4_21 ?_
  refine lv_iadd hx hb dJ6_bitCount_0f7a4_22 ?_
  refine lv_istore_n (lv' := [(0, .int (((x1 - (((x1.toUInt32 >>> ((1 : Int32).toUInt32 &&& Int32.toUInt32 31)).toInt32) &&& 1431655765)) &&& 858993459) + ((((x1 - (((x1.toUInt32 >>> ((1 : Int32).toUInt32 &&& Int32.toUInt32 31)).toInt32) &&& 1431655765)).toUInt32 >>> ((2 : Int32).toUInt32 &&& Int32.toUInt32 31)).toInt32) &&& 858993459)))]) hx hb dJ6_bitCount_0f7a4_23 rfl hl (by decide) rfl (fun ls hl => ?_)
  refine lv_iload_n hx hb dJ6_bitCount_0f7a4_24 rfl (lv_at hl 0 rfl) ?_
  refine lv_iload_n hx hb dJ6_bitCount_0f7a4_25 rfl (lv_at hl 0 rfl) ?_
  refine lv_iconst (v := 4) hx hb dJ6_bitCount_0f7a4_26 (by decide) ?_
  refine lv_iushr (v := ((((x1 - (((x1.toUInt32 >>> ((1 : Int32).toUInt32 &&& Int32.toUInt32 31)).toInt32) &&& 1431655765)) &&& 858993459) + ((((x1 - (((x1.toUInt32 >>> ((1 : Int32).toUInt32 &&& Int32.toUInt32 31)).toInt32) &&& 1431655765)).toUInt32 >>> ((2 : Int32).toUInt32 &&& Int32.toUInt32 31)).toInt32) &&& 858993459)).toUInt32 >>> ((4 : Int32).toUInt32 &&& Int32.toUInt32 31)).toInt32) hx hb dJ6_bitCount_0f7a4_27 rfl ?_
  refine lv_iadd hx hb dJ6_bitCount_0f7a4_28 ?_
  refine lv_ldcw (v := 252645135) hx hb hown (htg _ q_859) dJ6_bitCount_0f7a4_29 ?_
  refine lv_iand hx hb dJ6_bitCount_0f7a4_32 ?_
  refine lv_istore_n (lv' := [(0, .int (((((x1 - (((x1.toUInt32 >>> ((1 : Int32).toUInt32 &&& Int32.toUInt32 31)).toInt32) &&& 1431655765)) &&& 858993459) + ((((x1 - (((x1.toUInt32 >>> ((1 : Int32).toUInt32 &&& Int32.toUInt32 31)).toInt32) &&& 1431655765)).toUInt32 >>> ((2 : Int32).toUInt32 &&& Int32.toUInt32 31)).toInt32) &&& 858993459)) + (((((x1 - (((x1.toUInt32 >>> ((1 : Int32).toUInt32 &&& Int32.toUInt32 31)).toInt32) &&& 1431655765)) &&& 858993459) + ((((x1 - (((x1.toUInt32 >>> ((1 : Int32).toUInt32 &&& Int32.toUInt32 31)).toInt32) &&& 1431655765)).toUInt32 >>> ((2 : Int32).toUInt32 &&& Int32.toUInt32 31)).toInt32) &&& 858993459)).toUInt32 >>> ((4 : Int32).toUInt32 &&& Int32.toUInt32 31)).toInt32)) &&& 252645135))]) hx hb dJ6_bitCount_0f7a4_33 rfl hl (by decide) rfl (fun ls hl => ?_)
  refine lv_iload_n hx hb dJ6_bitCount_0f7a4_34 rfl (lv_at hl 0 rfl) ?_
  refine lv_iload_n hx hb dJ6_bitCount_0f7a4_35 rfl (lv_at hl 0 rfl) ?_
  refine lv_bipush (v := 8) hx hb dJ6_bitCount_0f7a4_36 (by decide) ?_
  refine lv_iushr (v := ((((((x1 - (((x1.toUInt32 >>> ((1 : Int32).toUInt32 &&& Int32.toUInt32 31)).toInt32) &&& 1431655765)) &&& 858993459) + ((((x1 - (((x1.toUInt32 >>> ((1 : Int32).toUInt32 &&& Int32.toUInt32 31)).toInt32) &&& 1431655765)).toUInt32 >>> ((2 : Int32).toUInt32 &&& Int32.toUInt32 31)).toInt32) &&& 858993459)) + (((((x1 - (((x1.toUInt32 >>> ((1 : Int32).toUInt32 &&& Int32.toUInt32 31)).toInt32) &&& 1431655765)) &&& 858993459) + ((((x1 - (((x1.toUInt32 >>> ((1 : Int32).toUInt32 &&& Int32.toUInt32 31)).toInt32) &&& 1431655765)).toUInt32 >>> ((2 : Int32).toUInt32 &&& Int32.toUInt32 31)).toInt32) &&& 858993459)).toUInt32 >>> ((4 : Int32).toUInt32 &&& Int32.toUInt32 31)).toInt32)) &&& 252645135).toUInt32 >>> ((8 : Int32).toUInt32 &&& Int32.toUInt32 31)).toInt32) hx hb dJ6_bitCount_0f7a4_38 rfl ?_
  refine lv_iadd hx hb dJ6_bitCount_0f7a4_39 ?_
  refine lv_istore_n (lv' := [(0, .int ((((((x1 - (((x1.toUInt32 >>> ((1 : Int32).toUInt32 &&& Int32.toUInt32 31)).toInt32) &&& 1431655765)) &&& 858993459) + ((((x1 - (((x1.toUInt32 >>> ((1 : Int32).toUInt32 &&& Int32.toUInt32 31)).toInt32) &&& 1431655765)).toUInt32 >>> ((2 : Int32).toUInt32 &&& Int32.toUInt32 31)).toInt32) &&& 858993459)) + (((((x1 - (((x1.toUInt32 >>> ((1 : Int32).toUInt32 &&& Int32.toUInt32 31)).toInt32) &&& 1431655765)) &&& 858993459) + ((((x1 - (((x1.toUInt32 >>> ((1 : Int32).toUInt32 &&& Int32.toUInt32 31)).toInt32) &&& 1431655765)).toUInt32 >>> ((2 : Int32).toUInt32 &&& Int32.toUInt32 31)).toInt32) &&& 858993459)).toUInt32 >>> ((4 : Int32).toUInt32 &&& Int32.toUInt32 31)).toInt32)) &&& 252645135) + (((((((x1 - (((x1.toUInt32 >>> ((1 : Int32).toUInt32 &&& Int32.toUInt32 31)).toInt32) &&& 1431655765)) &&& 858993459) + ((((x1 - (((x1.toUInt32 >>> ((1 : Int32).toUInt32 &&& Int32.toUInt32 31)).toInt32) &&& 1431655765)).toUInt32 >>> ((2 : Int32).toUInt32 &&& Int32.toUInt32 31)).toInt32) &&& 858993459)) + (((((x1 - (((x1.toUInt32 >>> ((1 : Int32).toUInt32 &&& Int32.toUInt32 31)).toInt32) &&& 1431655765)) &&& 858993459) + ((((x1 - (((x1.toUInt32 >>> ((1 : Int32).toUInt32 &&& Int32.toUInt32 31)).toInt32) &&& 1431655765)).toUInt32 >>> ((2 : Int32).toUInt32 &&& Int32.toUInt32 31)).toInt32) &&& 858993459)).toUInt32 >>> ((4 : Int32).toUInt32 &&& Int32.toUInt32 31)).toInt32)) &&& 252645135).toUInt32 >>> ((8 : Int32).toUInt32 &&& Int32.toUInt32 31)).toInt32)))]) hx hb dJ6_bitCount_0f7a4_40 rfl hl (by decide) rfl (fun ls hl => ?_)
  refine lv_iload_n hx hb dJ6_bitCount_0f7a4_41 rfl (lv_at hl 0 rfl) ?_
  refine lv_iload_n hx hb dJ6_bitCount_0f7a4_42 rfl (lv_at hl 0 rfl) ?_
  refine lv_bipush (v := 16) hx hb dJ6_bitCount_0f7a4_43 (by decide) ?_
  refine lv_iushr (v := (((((((x1 - (((x1.toUInt32 >>> ((1 : Int32).toUInt32 &&& Int32.toUInt32 31)).toInt32) &&& 1431655765)) &&& 858993459) + ((((x1 - (((x1.toUInt32 >>> ((1 : Int32).toUInt32 &&& Int32.toUInt32 31)).toInt32) &&& 1431655765)).toUInt32 >>> ((2 : Int32).toUInt32 &&& Int32.toUInt32 31)).toInt32) &&& 858993459)) + (((((x1 - (((x1.toUInt32 >>> ((1 : Int32).toUInt32 &&& Int32.toUInt32 31)).toInt32) &&& 1431655765)) &&& 858993459) + ((((x1 - (((x1.toUInt32 >>> ((1 : Int32).toUInt32 &&& Int32.toUInt32 31)).toInt32) &&& 1431655765)).toUInt32 >>> ((2 : Int32).toUInt32 &&& Int32.toUInt32 31)).toInt32) &&& 858993459)).toUInt32 >>> ((4 : Int32).toUInt32 &&& Int32.toUInt32 31)).toInt32)) &&& 252645135) + (((((((x1 - (((x1.toUInt32 >>> ((1 : Int32).toUInt32 &&& Int32.toUInt32 31)).toInt32) &&& 1431655765)) &&& 858993459) + ((((x1 - (((x1.toUInt32 >>> ((1 : Int32).toUInt32 &&& Int32.toUInt32 31)).toInt32) &&& 1431655765)).toUInt32 >>> ((2 : Int32).toUInt32 &&& Int32.toUInt32 31)).toInt32) &&& 858993459)) + (((((x1 - (((x1.toUInt32 >>> ((1 : Int32).toUInt32 &&& Int32.toUInt32 31)).toInt32) &&& 1431655765)) &&& 858993459) + ((((x1 - (((x1.toUInt32 >>> ((1 : Int32).toUInt32 &&& Int32.toUInt32 31)).toInt32) &&& 1431655765)).toUInt32 >>> ((2 : Int32).toUInt32 &&& Int32.toUInt32 31)).toInt32) &&& 858993459)).toUInt32 >>> ((4 : Int32).toUInt32 &&& Int32.toUInt32 31)).toInt32)) &&& 252645135).toUInt32 >>> ((8 : Int32).toUInt32 &&& Int32.toUInt32 31)).toInt32)).toUInt32 >>> ((16 : Int32).toUInt32 &&& Int32.toUInt32 31)).toInt32) hx hb dJ6_bitCount_0f7a4_45 rfl ?_
  refine lv_iadd hx hb dJ6_bitCount_0f7a4_46 ?_
  refine lv_istore_n (lv' := [(0, .int (((((((x1 - (((x1.toUInt32 >>> ((1 : Int32).toUInt32 &&& Int32.toUInt32 31)).toInt32) &&& 1431655765)) &&& 858993459) + ((((x1 - (((x1.toUInt32 >>> ((1 : Int32).toUInt32 &&& Int32.toUInt32 31)).toInt32) &&& 1431655765)).toUInt32 >>> ((2 : Int32).toUInt32 &&& Int32.toUInt32 31)).toInt32) &&& 858993459)) + (((((x1 - (((x1.toUInt32 >>> ((1 : Int32).toUInt32 &&& Int32.toUInt32 31)).toInt32) &&& 1431655765)) &&& 858993459) + ((((x1 - (((x1.toUInt32 >>> ((1 : Int32).toUInt32 &&& Int32.toUInt32 31)).toInt32) &&& 1431655765)).toUInt32 >>> ((2 : Int32).toUInt32 &&& Int32.toUInt32 31)).toInt32) &&& 858993459)).toUInt32 >>> ((4 : Int32).toUInt32 &&& Int32.toUInt32 31)).toInt32)) &&& 252645135) + (((((((x1 - (((x1.toUInt32 >>> ((1 : Int32).toUInt32 &&& Int32.toUInt32 31)).toInt32) &&& 1431655765)) &&& 858993459) + ((((x1 - (((x1.toUInt32 >>> ((1 : Int32).toUInt32 &&& Int32.toUInt32 31)).toInt32) &&& 1431655765)).toUInt32 >>> ((2 : Int32).toUInt32 &&& Int32.toUInt32 31)).toInt32) &&& 858993459)) + (((((x1 - (((x1.toUInt32 >>> ((1 : Int32).toUInt32 &&& Int32.toUInt32 31)).toInt32) &&& 1431655765)) &&& 858993459) + ((((x1 - (((x1.toUInt32 >>> ((1 : Int32).toUInt32 &&& Int32.toUInt32 31)).toInt32) &&& 1431655765)).toUInt32 >>> ((2 : Int32).toUInt32 &&& Int32.toUInt32 31)).toInt32) &&& 858993459)).toUInt32 >>> ((4 : Int32).toUInt32 &&& Int32.toUInt32 31)).toInt32)) &&& 252645135).toUInt32 >>> ((8 : Int32).toUInt32 &&& Int32.toUInt32 31)).toInt32)) + ((((((((x1 - (((x1.toUInt32 >>> ((1 : Int32).toUInt32 &&& Int32.toUInt32 31)).toInt32) &&& 1431655765)) &&& 858993459) + ((((x1 - (((x1.toUInt32 >>> ((1 : Int32).toUInt32 &&& Int32.toUInt32 31)).toInt32) &&& 1431655765)).toUInt32 >>> ((2 : Int32).toUInt32 &&& Int32.toUInt32 31)).toInt32) &&& 858993459)) + (((((x1 - (((x1.toUInt32 >>> ((1 : Int32).toUInt32 &&& Int32.toUInt32 31)).toInt32) &&& 1431655765)) &&& 858993459) + ((((x1 - (((x1.toUInt32 >>> ((1 : Int32).toUInt32 &&& Int32.toUInt32 31)).toInt32) &&& 1431655765)).toUInt32 >>> ((2 : Int32).toUInt32 &&& Int32.toUInt32 31)).toInt32) &&& 858993459)).toUInt32 >>> ((4 : Int32).toUInt32 &&& Int32.toUInt32 31)).toInt32)) &&& 252645135) + (((((((x1 - (((x1.toUInt32 >>> ((1 : Int32).toUInt32 &&& Int32.toUInt32 31)).toInt32) &&& 1431655765)) &&& 858993459) + ((((x1 - (((x1.toUInt32 >>> ((1 : Int32).toUInt32 &&& Int32.toUInt32 31)).toInt32) &&& 1431655765)).toUInt32 >>> ((2 : Int32).toUInt32 &&& Int32.toUInt32 31)).toInt32) &&& 858993459)) + (((((x1 - (((x1.toUInt32 >>> ((1 : Int32).toUInt32 &&& Int32.toUInt32 31)).toInt32) &&& 1431655765)) &&& 858993459) + ((((x1 - (((x1.toUInt32 >>> ((1 : Int32).toUInt32 &&& Int32.toUInt32 31)).toInt32) &&& 1431655765)).toUInt32 >>> ((2 : Int32).toUInt32 &&& Int32.toUInt32 31)).toInt32) &&& 858993459)).toUInt32 >>> ((4 : Int32).toUInt32 &&& Int32.toUInt32 31)).toInt32)) &&& 252645135).toUInt32 >>> ((8 : Int32).toUInt32 &&& Int32.toUInt32 31)).toInt32)).toUInt32 >>> ((16 : Int32).toUInt32 &&& Int32.toUInt32 31)).toInt32)))]) hx hb dJ6_bitCount_0f7a4_47 rfl hl (by decide) rfl (fun ls hl => ?_)
  refine lv_iload_n hx hb dJ6_bitCount_0f7a4_48 rfl (lv_at hl 0 rfl) ?_
  refine lv_bipush (v := 63) hx hb dJ6_bitCount_0f7a4_49 (by decide) ?_
  refine lv_iand hx hb dJ6_bitCount_0f7a4_51 ?_
  rw [hQ]
  exact W.iret (v := (((((((x1 - (((x1.toUInt32 >>> ((1 : Int32).toUInt32 &&& Int32.toUInt32 31)).toInt32) &&& 1431655765)) &&& 858993459) + ((((x1 - (((x1.toUInt32 >>> ((1 : Int32).toUInt32 &&& Int32.toUInt32 31)).toInt32) &&& 1431655765)).toUInt32 >>> ((2 : Int32).toUInt32 &&& Int32.toUInt32 31)).toInt32) &&& 858993459)) + (((((x1 - (((x1.toUInt32 >>> ((1 : Int32).toUInt32 &&& Int32.toUInt32 31)).toInt32) &&& 1431655765)) &&& 858993459) + ((((x1 - (((x1.toUInt32 >>> ((1 : Int32).toUInt32 &&& Int32.toUInt32 31)).toInt32) &&& 1431655765)).toUInt32 >>> ((2 : Int32).toUInt32 &&& Int32.toUInt32 31)).toInt32) &&& 858993459)).toUInt32 >>> ((4 : Int32).toUInt32 &&& Int32.toUInt32 31)).toInt32)) &&& 252645135) + (((((((x1 - (((x1.toUInt32 >>> ((1 : Int32).toUInt32 &&& Int32.toUInt32 31)).toInt32) &&& 1431655765)) &&& 858993459) + ((((x1 - (((x1.toUInt32 >>> ((1 : Int32).toUInt32 &&& Int32.toUInt32 31)).toInt32) &&& 1431655765)).toUInt32 >>> ((2 : Int32).toUInt32 &&& Int32.toUInt32 31)).toInt32) &&& 858993459)) + (((((x1 - (((x1.toUInt32 >>> ((1 : Int32).toUInt32 &&& Int32.toUInt32 31)).toInt32) &&& 1431655765)) &&& 858993459) + ((((x1 - (((x1.toUInt32 >>> ((1 : Int32).toUInt32 &&& Int32.toUInt32 31)).toInt32) &&& 1431655765)).toUInt32 >>> ((2 : Int32).toUInt32 &&& Int32.toUInt32 31)).toInt32) &&& 858993459)).toUInt32 >>> ((4 : Int32).toUInt32 &&& Int32.toUInt32 31)).toInt32)) &&& 252645135).toUInt32 >>> ((8 : Int32).toUInt32 &&& Int32.toUInt32 31)).toInt32)) + ((((((((x1 - (((x1.toUInt32 >>> ((1 : Int32).toUInt32 &&& Int32.toUInt32 31)).toInt32) &&& 1431655765)) &&& 858993459) + ((((x1 - (((x1.toUInt32 >>> ((1 : Int32).toUInt32 &&& Int32.toUInt32 31)).toInt32) &&& 1431655765)).toUInt32 >>> ((2 : Int32).toUInt32 &&& Int32.toUInt32 31)).toInt32) &&& 858993459)) + (((((x1 - (((x1.toUInt32 >>> ((1 : Int32).toUInt32 &&& Int32.toUInt32 31)).toInt32) &&& 1431655765)) &&& 858993459) + ((((x1 - (((x1.toUInt32 >>> ((1 : Int32).toUInt32 &&& Int32.toUInt32 31)).toInt32) &&& 1431655765)).toUInt32 >>> ((2 : Int32).toUInt32 &&& Int32.toUInt32 31)).toInt32) &&& 858993459)).toUInt32 >>> ((4 : Int32).toUInt32 &&& Int32.toUInt32 31)).toInt32)) &&& 252645135) + (((((((x1 - (((x1.toUInt32 >>> ((1 : Int32).toUInt32 &&& Int32.toUInt32 31)).toInt32) &&& 1431655765)) &&& 858993459) + ((((x1 - (((x1.toUInt32 >>> ((1 : Int32).toUInt32 &&& Int32.toUInt32 31)).toInt32) &&& 1431655765)).toUInt32 >>> ((2 : Int32).toUInt32 &&& Int32.toUInt32 31)).toInt32) &&& 858993459)) + (((((x1 - (((x1.toUInt32 >>> ((1 : Int32).toUInt32 &&& Int32.toUInt32 31)).toInt32) &&& 1431655765)) &&& 858993459) + ((((x1 - (((x1.toUInt32 >>> ((1 : Int32).toUInt32 &&& Int32.toUInt32 31)).toInt32) &&& 1431655765)).toUInt32 >>> ((2 : Int32).toUInt32 &&& Int32.toUInt32 31)).toInt32) &&& 858993459)).toUInt32 >>> ((4 : Int32).toUInt32 &&& Int32.toUInt32 31)).toInt32)) &&& 252645135).toUInt32 >>> ((8 : Int32).toUInt32 &&& Int32.toUInt32 31)).toInt32)).toUInt32 >>> ((16 : Int32).toUInt32 &&& Int32.toUInt32 31)).toInt32)) &&& 63) hx hb hr (fun t ht hW => ⟨(((((((x1 - (((x1.toUInt32 >>> ((1 : Int32).toUInt32 &&& Int32.toUInt32 31)).toInt32) &&& 1431655765)) &&& 858993459) + ((((x1 - (((x1.toUInt32 >>> ((1 : Int32).toUInt32 &&& Int32.toUInt32 31)).toInt32) &&& 1431655765)).toUInt32 >>> ((2 : Int32).toUInt32 &&& Int32.toUInt32 31)).toInt32) &&& 858993459)) + (((((x1 - (((x1.toUInt32 >>> ((1 : Int32).toUInt32 &&& Int32.toUInt32 31)).toInt32) &&& 1431655765)) &&& 858993459) + ((((x1 - (((x1.toUInt32 >>> ((1 : Int32).toUInt32 &&& Int32.toUInt32 31)).toInt32) &&& 1431655765)).toUInt32 >>> ((2 : Int32).toUInt32 &&& Int32.toUInt32 31)).toInt32) &&& 858993459)).toUInt32 >>> ((4 : Int32).toUInt32 &&& Int32.toUInt32 31)).toInt32)) &&& 252645135) + (((((((x1 - (((x1.toUInt32 >>> ((1 : Int32).toUInt32 &&& Int32.toUInt32 31)).toInt32) &&& 1431655765)) &&& 858993459) + ((((x1 - (((x1.toUInt32 >>> ((1 : Int32).toUInt32 &&& Int32.toUInt32 31)).toInt32) &&& 1431655765)).toUInt32 >>> ((2 : Int32).toUInt32 &&& Int32.toUInt32 31)).toInt32) &&& 858993459)) + (((((x1 - (((x1.toUInt32 >>> ((1 : Int32).toUInt32 &&& Int32.toUInt32 31)).toInt32) &&& 1431655765)) &&& 858993459) + ((((x1 - (((x1.toUInt32 >>> ((1 : Int32).toUInt32 &&& Int32.toUInt32 31)).toInt32) &&& 1431655765)).toUInt32 >>> ((2 : Int32).toUInt32 &&& Int32.toUInt32 31)).toInt32) &&& 858993459)).toUInt32 >>> ((4 : Int32).toUInt32 &&& Int32.toUInt32 31)).toInt32)) &&& 252645135).toUInt32 >>> ((8 : Int32).toUInt32 &&& Int32.toUInt32 31)).toInt32)) + ((((((((x1 - (((x1.toUInt32 >>> ((1 : Int32).toUInt32 &&& Int32.toUInt32 31)).toInt32) &&& 1431655765)) &&& 858993459) + ((((x1 - (((x1.toUInt32 >>> ((1 : Int32).toUInt32 &&& Int32.toUInt32 31)).toInt32) &&& 1431655765)).toUInt32 >>> ((2 : Int32).toUInt32 &&& Int32.toUInt32 31)).toInt32) &&& 858993459)) + (((((x1 - (((x1.toUInt32 >>> ((1 : Int32).toUInt32 &&& Int32.toUInt32 31)).toInt32) &&& 1431655765)) &&& 858993459) + ((((x1 - (((x1.toUInt32 >>> ((1 : Int32).toUInt32 &&& Int32.toUInt32 31)).toInt32) &&& 1431655765)).toUInt32 >>> ((2 : Int32).toUInt32 &&& Int32.toUInt32 31)).toInt32) &&& 858993459)).toUInt32 >>> ((4 : Int32).toUInt32 &&& Int32.toUInt32 31)).toInt32)) &&& 252645135) + (((((((x1 - (((x1.toUInt32 >>> ((1 : Int32).toUInt32 &&& Int32.toUInt32 31)).toInt32) &&& 1431655765)) &&& 858993459) + ((((x1 - (((x1.toUInt32 >>> ((1 : Int32).toUInt32 &&& Int32.toUInt32 31)).toInt32) &&& 1431655765)).toUInt32 >>> ((2 : Int32).toUInt32 &&& Int32.toUInt32 31)).toInt32) &&& 858993459)) + (((((x1 - (((x1.toUInt32 >>> ((1 : Int32).toUInt32 &&& Int32.toUInt32 31)).toInt32) &&& 1431655765)) &&& 858993459) + ((((x1 - (((x1.toUInt32 >>> ((1 : Int32).toUInt32 &&& Int32.toUInt32 31)).toInt32) &&& 1431655765)).toUInt32 >>> ((2 : Int32).toUInt32 &&& Int32.toUInt32 31)).toInt32) &&& 858993459)).toUInt32 >>> ((4 : Int32).toUInt32 &&& Int32.toUInt32 31)).toInt32)) &&& 252645135).toUInt32 >>> ((8 : Int32).toUInt32 &&& Int32.toUInt32 31)).toInt32)).toUInt32 >>> ((16 : Int32).toUInt32 &&& Int32.toUInt32 31)).toInt32)) &&& 63, rfl, trivial, ht⟩) (fun q h => by cases h) dJ6_bitCount_0f7a4_52

theorem oh_cpp {i sz n : Int32} (c : i ≤ sz - n) (hs : rg sz 0 40) (hn : rg n 0 40) : i.toInt + n.toInt ≤ 40 := by
  have h1 := Int32.le_iff_toInt_le.mp c
  have e : (sz - n).toInt = sz.toInt - n.toInt := by
    rw [Int32.toInt_sub]
    exact oh_bmod (by have := hs.1; have := hn.2; omega) (by have := hs.2; have := hn.1; omega)
  have := hs.2
  omega

set_option maxHeartbeats 4000000 in
set_option maxRecDepth 100000 in
theorem c_X6_element (l : Launch) (D : va_G) (E : Nat → ClassId) (G : Nat → Nat) (a : Nat → Nat) (C : Nat → va_E) (hT : TyX a E C) (x1 : Int32) (x2 : Int32) : Met l yX6_element (oh_w yX6_element cX6_element 3 (some .long)) ({ frames := 2, cells := 0, slots := 0, locals := 44 }) (oh_Pp D E G [.ref (a 0), .int x1, .int x2] (oh_W 35 a C)) (vp_Sl (fun r => True)) 0 0 (fun _ => False) := by
  refine Met.ofW (cc := cX6_element) (maxL := 3) (ret := (some .long)) (by decide) rfl ?_
  intro p e s m args below meth c s₁ B hml hv
  obtain ⟨rfl, hP, hK, hG⟩ := hv
  have hx := B.exec
  have hb := B.bytes
  have hr := B.returns
  have hts := atoms_spec (ws := (oh_w yX6_element cX6_element 3 (some .long))) B.pre
  have htg : ∀ w ∈ oh_t, w.before _ s = true := fun w h => hts w (List.mem_cons_of_mem _ h)
  have hown : s.vm.findClass RX6 = some m.cls := findClass_of_methodNamed B.named
  have hlocks := B.notSynchronized
  have hT0 := hT
  have hS : va_S (fun _ => False) s.heap s.heap [] := va_S.rf
  have hl := lv_entry ([.ref (a 0), .int x1, .int x2]) (n := 3) (Nat.le_of_ble_eq_true rfl)
  rw [lg_entry_eq]
  generalize (lg_sl ([.ref (a 0), .int x1, .int x2]) ++ List.replicate (3 - (lg_sl ([.ref (a 0), .int x1, .int x2])).length) Slot.unset).toArray = ls at hl ⊢
  have hl : lv_has ls 3 [(0, .ref (a 0)), (1, .int x1), (2, .int x2)] := hl
  refine oh_genQ (fun Q hQ => ?_)
  refine lv_iload_n hx hb dX6_element_0 rfl (lv_at hl 1 rfl) ?_
  refine tq_S (As := [.int x1]) (rest := []) (ws := []) ⟨hx, hb, hml, hown, htg⟩ (c_X6_isShelf l D E G x1) (va_cwS 1 htg (oh_gS q_290 q_291 q_66 q_292) rfl rfl rfl pdX6_isShelf ⟨Nat.le_of_ble_eq_true rfl, Nat.le_of_ble_eq_true rfl⟩) hK va_nil hG hS rfl hl.1 rfl (Nat.le_of_ble_eq_true rfl) dX6_element_1 ⟨Nat.le_of_ble_eq_true rfl, Nat.le_of_ble_eq_true rfl⟩ (fun r_1 hq_2 => ?_)
  refine lv_if_eq (tgt := 18) hx hb dX6_element_4 (by decide) (fun (c_3 : r_1 = 0) => ?_) (fun (c_3 : ¬ (r_1 = 0)) => ?_)
  · have u_4 := hq_2.2.2 c_3
    refine lv_lconst (v := 0) hx hb dX6_element_18 (by decide) ?_
    rw [hQ]
    exact W.lret (v := 0) hx hb hr (fun t ht hW => ⟨0, rfl, trivial, ht⟩) (fun q h => by cases h) dX6_element_19
  · have u_5 := hq_2.2.1 c_3
    refine lv_aload_n hx hb dX6_element_7 rfl (lv_at hl 0 rfl) ?_
    refine va_get (D := D) (ci := 6) (v := .ref (a 4)) (C := RX6) (T := TX6) (N := 9) hx hb htg ig_6 hown hK hP 0 (oh_wg (by decide) (sX_0 hT)) rfl 4 (by decide) (htg _ q_262) (fun _ h9 => h9) rfl dX6_element_8 ?_
    refine lv_iload_n hx hb dX6_element_11 rfl (lv_at hl 1 rfl) ?_
    refine tq_V (As := [.int x1]) (rest := []) (ws := (oh_W 35 a C)) ⟨hx, hb, hml, hown, htg⟩ (c_X3_holdsRow l D E G a C hT x1 (rg_w u_5 (by decide))) (cwV 1 htg (oh_gV q_352 q_336 q_337 q_70 q_338) rfl rfl rfl pdVX3_holdsRow ⟨Nat.le_of_ble_eq_true rfl, Nat.le_of_ble_eq_true rfl⟩) hK hP hG hS (va_recv hK hP (ci := 3) (q0 := 4) rfl (oh_wg (by decide) (sX_4 hT))) rfl hl.1 rfl (Nat.le_of_ble_eq_true rfl) dX6_element_12 ⟨Nat.le_of_ble_eq_true rfl, Nat.le_of_ble_eq_true rfl⟩ (fun r_6 hq_7 => ?_)
    refine lv_if_ne (tgt := 20) hx hb dX6_element_15 (by decide) (fun (c_8 : ¬ (r_6 = 0)) => ?_) (fun (c_8 : r_6 = 0) => ?_)
    · refine lv_aload_n hx hb dX6_element_20 rfl (lv_at hl 0 rfl) ?_
      refine va_get (D := D) (ci := 6) (v := .ref (a 4)) (C := RX6) (T := TX6) (N := 9) hx hb htg ig_6 hown hK hP 0 (oh_wg (by decide) (sX_0 hT)) rfl 4 (by decide) (htg _ q_262) (fun _ h9 => h9) rfl dX6_element_21 ?_
      refine lv_iload_n hx hb dX6_element_24 rfl (lv_at hl 1 rfl) ?_
      refine lv_iload_n hx hb dX6_element_25 rfl (lv_at hl 2 rfl) ?_
      refine tq_Vl (As := [.int x1, .int x2]) (rest := []) (ws := (oh_W 35 a C)) ⟨hx, hb, hml, hown, htg⟩ (c_X3_elementAt l D E G a C hT x1 x2 (rg_w u_5 (by decide))) (cwV 2 htg (oh_gV q_353 q_354 q_355 q_70 q_356) rfl rfl rfl pdVX3_elementAt ⟨Nat.le_of_ble_eq_true rfl, Nat.le_of_ble_eq_true rfl⟩) hK hP hG hS (va_recv hK hP (ci := 3) (q0 := 4) rfl (oh_wg (by decide) (sX_4 hT))) rfl hl.1 rfl (Nat.le_of_ble_eq_true rfl) dX6_element_26 ⟨Nat.le_of_ble_eq_true rfl, Nat.le_of_ble_eq_true rfl⟩ (fun r_9 hq_10 => ?_)
      rw [hQ]
      exact W.lret (v := r_9) hx hb hr (fun t ht hW => ⟨r_9, rfl, trivial, ht⟩) (fun q h => by cases h) dX6_element_29
    · refine lv_lconst (v := 0) hx hb dX6_element_18 (by decide) ?_
      rw [hQ]
      exact W.lret (v := 0) hx hb hr (fun t ht hW => ⟨0, rfl, trivial, ht⟩) (fun q h => by cases h) dX6_element_19

set_option maxHeartbeats 4000000 in
set_option maxRecDepth 100000 in
theorem c_X6_says (l : Launch) (D : va_G) (E : Nat → ClassId) (G : Nat → Nat) (sz : Nat) (a : Nat → Nat) (C : Nat → va_E) (hT : TyX a E C) (x1 : Int32) (x2 : Int32) : Met l yX6_says (oh_w yX6_says cX6_says 4 (some .int)) ({ frames := 3, cells := 0, slots := 0, locals := 73 }) (oh_Pm D E G [.ref (a 0), .int x1, .int x2] (oh_W 35 a C) sz) (va_Qi (fun r (u : Nat → va_E) => TyX a E u ∧ fr [(7, 8)] [] C u ∧ True) (oh_B D (va_A (oh_W 35 a C) sz) (fun u => oh_W 35 a u)) (va_A (oh_W 35 a C) sz)) 0 0 (va_A (oh_W 35 a C) sz) := by
  refine Met.ofW (cc := cX6_says) (maxL := 4) (ret := (some .int)) (by decide) rfl ?_
  intro p e s m args below meth c s₁ B hml hv
  obtain ⟨rfl, hsz, hP, hK, hD0, hG⟩ := hv
  have hx := B.exec
  have hb := B.bytes
  have hr := B.returns
  have hts := atoms_spec (ws := (oh_w yX6_says cX6_says 4 (some .int))) B.pre
  have htg : ∀ w ∈ oh_t, w.before _ s = true := fun w h => hts w (List.mem_cons_of_mem _ h)
  have hown : s.vm.findClass RX6 = some m.cls := findClass_of_methodNamed B.named
  have hlocks := B.notSynchronized
  have hT0 := hT
  subst hsz
  have hD := hD0.self (sz := s.heap.size)
  generalize hAe : va_A (oh_W 35 a C) s.heap.size = A at hD hG ⊢
  have hA : ∀ q : Nat, s.heap.size ≤ q → A q := fun q h => by rw [← hAe]; exact Or.inr h
  have hS : va_S A s.heap s.heap [] := va_S.rf
  have hF : fr [(7, 8)] [] C C := fr_rf
  have hl := lv_entry ([.ref (a 0), .int x1, .int x2]) (n := 4) (Nat.le_of_ble_eq_true rfl)
  rw [lg_entry_eq]
  generalize (lg_sl ([.ref (a 0), .int x1, .int x2]) ++ List.replicate (4 - (lg_sl ([.ref (a 0), .int x1, .int x2])).length) Slot.unset).toArray = ls at hl ⊢
  have hl : lv_has ls 4 [(0, .ref (a 0)), (1, .int x1), (2, .int x2)] := hl
  refine oh_genQ (fun Q hQ => ?_)
  refine lv_iload_n hx hb dX6_says_0 rfl (lv_at hl 1 rfl) ?_
  refine tq_S (As := [.int x1]) (rest := []) (ws := []) ⟨hx, hb, hml, hown, htg⟩ (c_X6_isShelf l D E G x1) (va_cwS 1 htg (oh_gS q_290 q_291 q_66 q_292) rfl rfl rfl pdX6_isShelf ⟨Nat.le_of_ble_eq_true rfl, Nat.le_of_ble_eq_true rfl⟩) hK va_nil hG hS rfl hl.1 rfl (Nat.le_of_ble_eq_true rfl) dX6_says_1 ⟨Nat.le_of_ble_eq_true rfl, Nat.le_of_ble_eq_true rfl⟩ (fun r_1 hq_2 => ?_)
  refine lv_if_eq (tgt := 16) hx hb dX6_says_4 (by decide) (fun (c_3 : r_1 = 0) => ?_) (fun (c_3 : ¬ (r_1 = 0)) => ?_)
  · have u_4 := hq_2.2.2 c_3
    refine lv_aload_n hx hb dX6_says_16 rfl (lv_at hl 0 rfl) ?_
    refine lv_bipush (v := (-2)) hx hb dX6_says_17 (by decide) ?_
    refine tm_V (As := [.int (-2)]) (rest := []) ⟨hx, hb, hml, hown, htg⟩ (c_X6_refuse l D E G _ a C hT ((-2) : Int32)) (cwV 1 htg (oh_gV q_296 q_298 q_0 q_66 q_299) rfl rfl rfl pdVX6_refuse ⟨Nat.le_of_ble_eq_true rfl, Nat.le_of_ble_eq_true rfl⟩) hK hP hD hG hS hA (va_recv hK hP (ci := 6) (q0 := 0) rfl (oh_wg (by decide) (sX_0 hT))) rfl hl.1 rfl (Nat.le_of_ble_eq_true rfl) dX6_says_19 ⟨Nat.le_of_ble_eq_true rfl, Nat.le_of_ble_eq_true rfl⟩ (fun r_5 C_6 H locs hq_7 hP hD hS => ?_)
    obtain ⟨hT, f_8, hq_7⟩ := hq_7
    have hF := fr_tr hF f_8 (by decide) (by decide)
    refine W.widen (k := 0) (n := 0) (Nat.le_refl _) (Nat.le_refl _) ?_
    have t_9 := hT
    rw [hQ]
    exact W.iret (v := r_5) hx hb hr (fun t ht hW => ⟨⟨r_5, C_6, rfl, ⟨hT, hF, trivial⟩, ⟨by rw [ht]; exact hP, hD⟩⟩, hS.F ht⟩) hS.2.2 dX6_says_22
  · have u_10 := hq_2.2.1 c_3
    refine lv_iload_n hx hb dX6_says_7 rfl (lv_at hl 2 rfl) ?_
    refine lv_iconst (v := 0) hx hb dX6_says_8 (by decide) ?_
    refine lv_iconst (v := 5) hx hb dX6_says_9 (by decide) ?_
    refine tq_S (As := [.int x2, .int 0, .int 5]) (rest := []) (ws := []) ⟨hx, hb, hml, hown, htg⟩ (c_X6_within l D E G x2 (0 : Int32) (5 : Int32)) (va_cwS 3 htg (oh_gS q_293 q_294 q_66 q_295) rfl rfl rfl pdX6_within ⟨Nat.le_of_ble_eq_true rfl, Nat.le_of_ble_eq_true rfl⟩) hK va_nil hG hS rfl hl.1 rfl (Nat.le_of_ble_eq_true rfl) dX6_says_10 ⟨Nat.le_of_ble_eq_true rfl, Nat.le_of_ble_eq_true rfl⟩ (fun r_11 hq_12 => ?_)
    refine lv_if_ne (tgt := 23) hx hb dX6_says_13 (by decide) (fun (c_13 : ¬ (r_11 = 0)) => ?_) (fun (c_13 : r_11 = 0) => ?_)
    · have u_14 := hq_12.2.1 c_13
      refine lv_aload_n hx hb dX6_says_23 rfl (lv_at hl 0 rfl) ?_
      refine va_get (D := D) (ci := 6) (v := .ref (a 4)) (C := RX6) (T := TX6) (N := 9) hx hb htg ig_6 hown hK hP 0 (oh_wg (by decide) (sX_0 hT)) rfl 4 (by decide) (htg _ q_262) (fun _ h9 => h9) rfl dX6_says_24 ?_
      refine lv_iload_n hx hb dX6_says_27 rfl (lv_at hl 1 rfl) ?_
      refine tq_V (As := [.int x1]) (rest := []) (ws := (oh_W 35 a C)) ⟨hx, hb, hml, hown, htg⟩ (c_X3_holdsRow l D E G a C hT x1 (rg_w u_10 (by decide))) (cwV 1 htg (oh_gV q_352 q_336 q_337 q_70 q_338) rfl rfl rfl pdVX3_holdsRow ⟨Nat.le_of_ble_eq_true rfl, Nat.le_of_ble_eq_true rfl⟩) hK hP hG hS (va_recv hK hP (ci := 3) (q0 := 4) rfl (oh_wg (by decide) (sX_4 hT))) rfl hl.1 rfl (Nat.le_of_ble_eq_true rfl) dX6_says_28 ⟨Nat.le_of_ble_eq_true rfl, Nat.le_of_ble_eq_true rfl⟩ (fun r_15 hq_16 => ?_)
      refine lv_if_eq (tgt := 41) hx hb dX6_says_31 (by decide) (fun (c_17 : r_15 = 0) => ?_) (fun (c_17 : ¬ (r_15 = 0)) => ?_)
      · refine lv_aload_n hx hb dX6_says_41 rfl (lv_at hl 0 rfl) ?_
        refine va_get (D := D) (ci := 6) (v := .ref (a 4)) (C := RX6) (T := TX6) (N := 9) hx hb htg ig_6 hown hK hP 0 (oh_wg (by decide) (sX_0 hT)) rfl 4 (by decide) (htg _ q_262) (fun _ h9 => h9) rfl dX6_says_42 ?_
        refine va_get (D := D) (ci := 3) (v := .ref (a 29)) (C := RX3) (T := TX3) (N := 3) hx hb htg ig_3 hown hK hP 4 (oh_wg (by decide) (sX_4 hT)) rfl 0 (by decide) (htg _ q_199) (fun _ h9 => h9) rfl dX6_says_45 ?_
        refine lv_iload_n hx hb dX6_says_48 rfl (lv_at hl 1 rfl) ?_
        have n_18 : vp_in x1 8 := (rg_in u_10 (by decide))
        refine th_iald hx hb hK hP 29 (by decide) (sX_29 hT) n_18 dX6_says_49 ?_
        refine lv_bipush (v := 10) hx hb dX6_says_50 (by decide) ?_
        refine lv_isub hx hb dX6_says_52 ?_
        refine lv_istore_n (lv' := [(3, .int ((ga (C 29) (x1).toNatClampNeg) - 10)), (0, .ref (a 0)), (1, .int x1), (2, .int x2)]) hx hb dX6_says_53 rfl hl (by decide) rfl (fun ls hl => ?_)
        refine lv_aload_n hx hb dX6_says_54 rfl (lv_at hl 1 rfl) ?_
        refine lv_iload_n hx hb dX6_says_55 rfl (lv_at hl 0 rfl) ?_
        refine tq_V (As := [.int ((ga (C 29) (x1).toNatClampNeg) - 10)]) (rest := []) (ws := (oh_W 35 a C)) ⟨hx, hb, hml, hown, htg⟩ (c_X6_isBridge l D E G a C hT ((ga (C 29) (x1).toNatClampNeg) - 10)) (cwV 1 htg (oh_gV q_366 q_368 q_2 q_66 q_369) rfl rfl rfl pdVX6_isBridge ⟨Nat.le_of_ble_eq_true rfl, Nat.le_of_ble_eq_true rfl⟩) hK hP hG hS (va_recv hK hP (ci := 6) (q0 := 0) rfl (oh_wg (by decide) (sX_0 hT))) rfl hl.1 rfl (Nat.le_of_ble_eq_true rfl) dX6_says_56 ⟨Nat.le_of_ble_eq_true rfl, Nat.le_of_ble_eq_true rfl⟩ (fun r_19 hq_20 => ?_)
        refine lv_if_ne (tgt := 69) hx hb dX6_says_59 (by decide) (fun (c_21 : ¬ (r_19 = 0)) => ?_) (fun (c_21 : r_19 = 0) => ?_)
        · have u_22 := hq_20.2 c_21
          refine lv_aload_n hx hb dX6_says_69 rfl (lv_at hl 1 rfl) ?_
          refine va_get (D := D) (ci := 6) (v := .ref (a 1)) (C := RX6) (T := TX6) (N := 9) hx hb htg ig_6 hown hK hP 0 (oh_wg (by decide) (sX_0 hT)) rfl 0 (by decide) (htg _ q_258) (fun _ h9 => h9) rfl dX6_says_70 ?_
          refine lv_iload_n hx hb dX6_says_73 rfl (lv_at hl 0 rfl) ?_
          refine lv_iload_n hx hb dX6_says_74 rfl (lv_at hl 3 rfl) ?_
          refine tq_V (As := [.int ((ga (C 29) (x1).toNatClampNeg) - 10), .int x2]) (rest := []) (ws := (oh_W 35 a C)) ⟨hx, hb, hml, hown, htg⟩ (c_X0_mayBeTakenFor l D E G a C hT ((ga (C 29) (x1).toNatClampNeg) - 10) x2 (rg_w u_22 (by decide))) (cwV 2 htg (oh_gV q_378 q_379 q_380 q_67 q_381) rfl rfl rfl pdVX0_mayBeTakenFor ⟨Nat.le_of_ble_eq_true rfl, Nat.le_of_ble_eq_true rfl⟩) hK hP hG hS (va_recv hK hP (ci := 0) (q0 := 1) rfl (oh_wg (by decide) (sX_1 hT))) rfl hl.1 rfl (Nat.le_of_ble_eq_true rfl) dX6_says_75 ⟨Nat.le_of_ble_eq_true rfl, Nat.le_of_ble_eq_true rfl⟩ (fun r_23 hq_24 => ?_)
          refine lv_if_ne (tgt := 88) hx hb dX6_says_78 (by decide) (fun (c_25 : ¬ (r_23 = 0)) => ?_) (fun (c_25 : r_23 = 0) => ?_)
          · refine lv_aload_n hx hb dX6_says_88 rfl (lv_at hl 1 rfl) ?_
            refine lv_iload_n hx hb dX6_says_89 rfl (lv_at hl 0 rfl) ?_
            refine lv_iload_n hx hb dX6_says_90 rfl (lv_at hl 3 rfl) ?_
            refine tq_V (As := [.int ((ga (C 29) (x1).toNatClampNeg) - 10), .int x2]) (rest := []) (ws := (oh_W 35 a C)) ⟨hx, hb, hml, hown, htg⟩ (c_X6_spoken l D E G a C hT ((ga (C 29) (x1).toNatClampNeg) - 10) x2 (rg_w u_22 (by decide))) (cwV 2 htg (oh_gV q_388 q_390 q_3 q_66 q_391) rfl rfl rfl pdVX6_spoken ⟨Nat.le_of_ble_eq_true rfl, Nat.le_of_ble_eq_true rfl⟩) hK hP hG hS (va_recv hK hP (ci := 6) (q0 := 0) rfl (oh_wg (by decide) (sX_0 hT))) rfl hl.1 rfl (Nat.le_of_ble_eq_true rfl) dX6_says_91 ⟨Nat.le_of_ble_eq_true rfl, Nat.le_of_ble_eq_true rfl⟩ (fun r_26 hq_27 => ?_)
            rw [hQ]
            exact W.iret (v := r_26) hx hb hr (fun t ht hW => ⟨⟨r_26, C, rfl, ⟨hT, hF, trivial⟩, ⟨by rw [ht]; exact hP, hD⟩⟩, hS.F ht⟩) hS.2.2 dX6_says_94
          · refine lv_aload_n hx hb dX6_says_81 rfl (lv_at hl 1 rfl) ?_
            refine lv_bipush (v := (-3)) hx hb dX6_says_82 (by decide) ?_
            refine tm_V (As := [.int (-3)]) (rest := []) ⟨hx, hb, hml, hown, htg⟩ (c_X6_refuse l D E G _ a C hT ((-3) : Int32)) (cwV 1 htg (oh_gV q_296 q_298 q_0 q_66 q_299) rfl rfl rfl pdVX6_refuse ⟨Nat.le_of_ble_eq_true rfl, Nat.le_of_ble_eq_true rfl⟩) hK hP hD hG hS hA (va_recv hK hP (ci := 6) (q0 := 0) rfl (oh_wg (by decide) (sX_0 hT))) rfl hl.1 rfl (Nat.le_of_ble_eq_true rfl) dX6_says_84 ⟨Nat.le_of_ble_eq_true rfl, Nat.le_of_ble_eq_true rfl⟩ (fun r_28 C_29 H locs hq_30 hP hD hS => ?_)
            obtain ⟨hT, f_31, hq_30⟩ := hq_30
            have hF := fr_tr hF f_31 (by decide) (by decide)
            refine W.widen (k := 0) (n := 0) (Nat.le_refl _) (Nat.le_refl _) ?_
            have t_32 := hT
            rw [hQ]
            exact W.iret (v := r_28) hx hb hr (fun t ht hW => ⟨⟨r_28, C_29, rfl, ⟨hT, hF, trivial⟩, ⟨by rw [ht]; exact hP, hD⟩⟩, hS.F ht⟩) hS.2.2 dX6_says_87
        · refine lv_aload_n hx hb dX6_says_62 rfl (lv_at hl 1 rfl) ?_
          refine lv_bipush (v := (-4)) hx hb dX6_says_63 (by decide) ?_
          refine tm_V (As := [.int (-4)]) (rest := []) ⟨hx, hb, hml, hown, htg⟩ (c_X6_refuse l D E G _ a C hT ((-4) : Int32)) (cwV 1 htg (oh_gV q_296 q_298 q_0 q_66 q_299) rfl rfl rfl pdVX6_refuse ⟨Nat.le_of_ble_eq_true rfl, Nat.le_of_ble_eq_true rfl⟩) hK hP hD hG hS hA (va_recv hK hP (ci := 6) (q0 := 0) rfl (oh_wg (by decide) (sX_0 hT))) rfl hl.1 rfl (Nat.le_of_ble_eq_true rfl) dX6_says_65 ⟨Nat.le_of_ble_eq_true rfl, Nat.le_of_ble_eq_true rfl⟩ (fun r_33 C_34 H locs hq_35 hP hD hS => ?_)
          obtain ⟨hT, f_36, hq_35⟩ := hq_35
          have hF := fr_tr hF f_36 (by decide) (by decide)
          refine W.widen (k := 0) (n := 0) (Nat.le_refl _) (Nat.le_refl _) ?_
          have t_37 := hT
          rw [hQ]
          exact W.iret (v := r_33) hx hb hr (fun t ht hW => ⟨⟨r_33, C_34, rfl, ⟨hT, hF, trivial⟩, ⟨by rw [ht]; exact hP, hD⟩⟩, hS.F ht⟩) hS.2.2 dX6_says_68
      · refine lv_aload_n hx hb dX6_says_34 rfl (lv_at hl 0 rfl) ?_
        refine lv_bipush (v := (-3)) hx hb dX6_says_35 (by decide) ?_
        refine tm_V (As := [.int (-3)]) (rest := []) ⟨hx, hb, hml, hown, htg⟩ (c_X6_refuse l D E G _ a C hT ((-3) : Int32)) (cwV 1 htg (oh_gV q_296 q_298 q_0 q_66 q_299) rfl rfl rfl pdVX6_refuse ⟨Nat.le_of_ble_eq_true rfl, Nat.le_of_ble_eq_true rfl⟩) hK hP hD hG hS hA (va_recv hK hP (ci := 6) (q0 := 0) rfl (oh_wg (by decide) (sX_0 hT))) rfl hl.1 rfl (Nat.le_of_ble_eq_true rfl) dX6_says_37 ⟨Nat.le_of_ble_eq_true rfl, Nat.le_of_ble_eq_true rfl⟩ (fun r_38 C_39 H locs hq_40 hP hD hS => ?_)
        obtain ⟨hT, f_41, hq_40⟩ := hq_40
        have hF := fr_tr hF f_41 (by decide) (by decide)
        refine W.widen (k := 0) (n := 0) (Nat.le_refl _) (Nat.le_refl _) ?_
        have t_42 := hT
        rw [hQ]
        exact W.iret (v := r_38) hx hb hr (fun t ht hW => ⟨⟨r_38, C_39, rfl, ⟨hT, hF, trivial⟩, ⟨by rw [ht]; exact hP, hD⟩⟩, hS.F ht⟩) hS.2.2 dX6_says_40
    · have u_43 := hq_12.2.2 c_13
      refine lv_aload_n hx hb dX6_says_16 rfl (lv_at hl 0 rfl) ?_
      refine lv_bipush (v := (-2)) hx hb dX6_says_17 (by decide) ?_
      refine tm_V (As := [.int (-2)]) (rest := []) ⟨hx, hb, hml, hown, htg⟩ (c_X6_refuse l D E G _ a C hT ((-2) : Int32)) (cwV 1 htg (oh_gV q_296 q_298 q_0 q_66 q_299) rfl rfl rfl pdVX6_refuse ⟨Nat.le_of_ble_eq_true rfl, Nat.le_of_ble_eq_true rfl⟩) hK hP hD hG hS hA (va_recv hK hP (ci := 6) (q0 := 0) rfl (oh_wg (by decide) (sX_0 hT))) rfl hl.1 rfl (Nat.le_of_ble_eq_true rfl) dX6_says_19 ⟨Nat.le_of_ble_eq_true rfl, Nat.le_of_ble_eq_true rfl⟩ (fun r_44 C_45 H locs hq_46 hP hD hS => ?_)
      obtain ⟨hT, f_47, hq_46⟩ := hq_46
      have hF := fr_tr hF f_47 (by decide) (by decide)
      refine W.widen (k := 0) (n := 0) (Nat.le_refl _) (Nat.le_refl _) ?_
      have t_48 := hT
      rw [hQ]
      exact W.iret (v := r_44) hx hb hr (fun t ht hW => ⟨⟨r_44, C_45, rfl, ⟨hT, hF, trivial⟩, ⟨by rw [ht]; exact hP, hD⟩⟩, hS.F ht⟩) hS.2.2 dX6_says_22

set_option maxHeartbeats 4000000 in
set_option maxRecDepth 100000 in
theorem c_X6_wipe (l : Launch) (D : va_G) (E : Nat → ClassId) (G : Nat → Nat) (sz : Nat) (a : Nat → Nat) (C : Nat → va_E) (hT : TyX a E C) : Met l yX6_wipe (oh_w yX6_wipe cX6_wipe 2 (some .int)) ({ frames := 0, cells := 0, slots := 0, locals := 0 }) (oh_Pm D E G [.ref (a 0)] (oh_W 35 a C) sz) (va_Qi (fun r (u : Nat → va_E) => TyX a E u ∧ fr [(5, 6)] [] C u ∧ ((r = gi (C 5) 1) ∧ (gi (u 5) 1 = 0))) (oh_B D (va_A (oh_W 35 a C) sz) (fun u => oh_W 35 a u)) (va_A (oh_W 35 a C) sz)) 0 0 (va_A (oh_W 35 a C) sz) := by
  refine Met.ofW (cc := cX6_wipe) (maxL := 2) (ret := (some .int)) (by decide) rfl ?_
  intro p e s m args below meth c s₁ B hml hv
  obtain ⟨rfl, hsz, hP, hK, hD0, hG⟩ := hv
  have hx := B.exec
  have hb := B.bytes
  have hr := B.returns
  have hts := atoms_spec (ws := (oh_w yX6_wipe cX6_wipe 2 (some .int))) B.pre
  have htg : ∀ w ∈ oh_t, w.before _ s = true := fun w h => hts w (List.mem_cons_of_mem _ h)
  have hown : s.vm.findClass RX6 = some m.cls := findClass_of_methodNamed B.named
  have hlocks := B.notSynchronized
  have hT0 := hT
  subst hsz
  have hD := hD0.self (sz := s.heap.size)
  generalize hAe : va_A (oh_W 35 a C) s.heap.size = A at hD hG ⊢
  have hA : ∀ q : Nat, s.heap.size ≤ q → A q := fun q h => by rw [← hAe]; exact Or.inr h
  have hS : va_S A s.heap s.heap [] := va_S.rf
  have hF : fr [(5, 6)] [] C C := fr_rf
  have hl := lv_entry ([.ref (a 0)]) (n := 2) (Nat.le_of_ble_eq_true rfl)
  rw [lg_entry_eq]
  generalize (lg_sl ([.ref (a 0)]) ++ List.replicate (2 - (lg_sl ([.ref (a 0)])).length) Slot.unset).toArray = ls at hl ⊢
  have hl : lv_has ls 2 [(0, .ref (a 0))] := hl
  refine oh_genQ (fun Q hQ => ?_)
  refine lv_aload_n hx hb dX6_wipe_0 rfl (lv_at hl 0 rfl) ?_
  refine va_get (D := D) (ci := 6) (v := .ref (a 5)) (C := RX6) (T := TX6) (N := 9) hx hb htg ig_6 hown hK hP 0 (oh_wg (by decide) (sX_0 hT)) rfl 5 (by decide) (htg _ q_263) (fun _ h9 => h9) rfl dX6_wipe_1 ?_
  refine va_get (D := D) (ci := 4) (v := .int (gi (C 5) 1)) (C := RX4) (T := TX4) (N := 6) hx hb htg ig_4 hown hK hP 5 (oh_wg (by decide) (sX_5 hT)) rfl 1 (by decide) (htg _ q_219) (fun _ h9 => h9) rfl dX6_wipe_4 ?_
  refine lv_istore_n (lv' := [(1, .int (gi (C 5) 1)), (0, .ref (a 0))]) hx hb dX6_wipe_7 rfl hl (by decide) rfl (fun ls hl => ?_)
  refine lv_aload_n hx hb dX6_wipe_8 rfl (lv_at hl 1 rfl) ?_
  refine va_get (D := D) (ci := 6) (v := .ref (a 5)) (C := RX6) (T := TX6) (N := 9) hx hb htg ig_6 hown hK hP 0 (oh_wg (by decide) (sX_0 hT)) rfl 5 (by decide) (htg _ q_263) (fun _ h9 => h9) rfl dX6_wipe_9 ?_
  refine lv_iconst (v := 0) hx hb dX6_wipe_12 (by decide) ?_
  refine th_put (Tp := TyX a E) (Rl := fr [(5, 6)] [] C) (ci := 4) (v := .int 0) (ty := .int) (CC := RX4) (T := TX4) (N := 6) hx hb htg ig_4 tyX4 tyX4_ok nmX4 hown hK hP hD hS 5 (by decide) (sX_5 hT) rfl 1 (by decide) (htg _ q_219) (fun _ h9 => h9) rfl (by decide +kernel) rfl rfl (Nat.le_of_ble_eq_true rfl) (hT.up 5 ⟨rfl, (rg_w (rg_c (v := 0) (lo := 0) (hi := 0) (by decide)) (by decide)), (fX_5_2 hT), (fX_5_4 hT), (fX_5_5 hT)⟩) (fr_st hF (by decide) (by decide)) dX6_wipe_13 (fun C_1 H locs e_2 hT hF hP hD hS => ?_)
  have t_3 := hT
  refine lv_iload_n hx hb dX6_wipe_16 rfl (lv_at hl 0 rfl) ?_
  rw [hQ]
  exact W.iret (v := gi (C 5) 1) hx hb hr (fun t ht hW => ⟨⟨gi (C 5) 1, C_1, rfl, ⟨hT, hF, ⟨rfl, (show gi (C_1 5) 1 = (0 : Int32) by rw [e_2]; rfl)⟩⟩, ⟨by rw [ht]; exact hP, hD⟩⟩, hS.F ht⟩) hS.2.2 dX6_wipe_17

set_option maxHeartbeats 4000000 in
set_option maxRecDepth 100000 in
theorem c_X6_bridgeOf (l : Launch) (D : va_G) (E : Nat → ClassId) (G : Nat → Nat) (sz : Nat) (a : Nat → Nat) (C : Nat → va_E) (hT : TyX a E C) (x1 : Int32) (x2 : Int32) : Met l yX6_bridgeOf (oh_w yX6_bridgeOf cX6_bridgeOf 3 (some .int)) ({ frames := 2, cells := 0, slots := 0, locals := 44 }) (oh_Pm D E G [.ref (a 0), .int x1, .int x2] (oh_W 35 a C) sz) (va_Qi (fun r (u : Nat → va_E) => TyX a E u ∧ fr [(7, 8)] [] C u ∧ True) (oh_B D (va_A (oh_W 35 a C) sz) (fun u => oh_W 35 a u)) (va_A (oh_W 35 a C) sz)) 0 0 (va_A (oh_W 35 a C) sz) := by
  refine Met.ofW (cc := cX6_bridgeOf) (maxL := 3) (ret := (some .int)) (by decide) rfl ?_
  intro p e s m args below meth c s₁ B hml hv
  obtain ⟨rfl, hsz, hP, hK, hD0, hG⟩ := hv
  have hx := B.exec
  have hb := B.bytes
  have hr := B.returns
  have hts := atoms_spec (ws := (oh_w yX6_bridgeOf cX6_bridgeOf 3 (some .int))) B.pre
  have htg : ∀ w ∈ oh_t, w.before _ s = true := fun w h => hts w (List.mem_cons_of_mem _ h)
  have hown : s.vm.findClass RX6 = some m.cls := findClass_of_methodNamed B.named
  have hlocks := B.notSynchronized
  have hT0 := hT
  subst hsz
  have hD := hD0.self (sz := s.heap.size)
  generalize hAe : va_A (oh_W 35 a C) s.heap.size = A at hD hG ⊢
  have hA : ∀ q : Nat, s.heap.size ≤ q → A q := fun q h => by rw [← hAe]; exact Or.inr h
  have hS : va_S A s.heap s.heap [] := va_S.rf
  have hF : fr [(7, 8)] [] C C := fr_rf
  have hl := lv_entry ([.ref (a 0), .int x1, .int x2]) (n := 3) (Nat.le_of_ble_eq_true rfl)
  rw [lg_entry_eq]
  generalize (lg_sl ([.ref (a 0), .int x1, .int x2]) ++ List.replicate (3 - (lg_sl ([.ref (a 0), .int x1, .int x2])).length) Slot.unset).toArray = ls at hl ⊢
  have hl : lv_has ls 3 [(0, .ref (a 0)), (1, .int x1), (2, .int x2)] := hl
  refine oh_genQ (fun Q hQ => ?_)
  refine lv_aload_n hx hb dX6_bridgeOf_0 rfl (lv_at hl 0 rfl) ?_
  refine lv_iload_n hx hb dX6_bridgeOf_1 rfl (lv_at hl 1 rfl) ?_
  refine tq_V (As := [.int x1]) (rest := []) (ws := (oh_W 35 a C)) ⟨hx, hb, hml, hown, htg⟩ (c_X6_isBridge l D E G a C hT x1) (cwV 1 htg (oh_gV q_366 q_368 q_2 q_66 q_369) rfl rfl rfl pdVX6_isBridge ⟨Nat.le_of_ble_eq_true rfl, Nat.le_of_ble_eq_true rfl⟩) hK hP hG hS (va_recv hK hP (ci := 6) (q0 := 0) rfl (oh_wg (by decide) (sX_0 hT))) rfl hl.1 rfl (Nat.le_of_ble_eq_true rfl) dX6_bridgeOf_2 ⟨Nat.le_of_ble_eq_true rfl, Nat.le_of_ble_eq_true rfl⟩ (fun r_1 hq_2 => ?_)
  refine lv_if_eq (tgt := 18) hx hb dX6_bridgeOf_5 (by decide) (fun (c_3 : r_1 = 0) => ?_) (fun (c_3 : ¬ (r_1 = 0)) => ?_)
  · refine lv_aload_n hx hb dX6_bridgeOf_18 rfl (lv_at hl 0 rfl) ?_
    refine lv_bipush (v := (-2)) hx hb dX6_bridgeOf_19 (by decide) ?_
    refine tm_V (As := [.int (-2)]) (rest := []) ⟨hx, hb, hml, hown, htg⟩ (c_X6_refuse l D E G _ a C hT ((-2) : Int32)) (cwV 1 htg (oh_gV q_296 q_298 q_0 q_66 q_299) rfl rfl rfl pdVX6_refuse ⟨Nat.le_of_ble_eq_true rfl, Nat.le_of_ble_eq_true rfl⟩) hK hP hD hG hS hA (va_recv hK hP (ci := 6) (q0 := 0) rfl (oh_wg (by decide) (sX_0 hT))) rfl hl.1 rfl (Nat.le_of_ble_eq_true rfl) dX6_bridgeOf_21 ⟨Nat.le_of_ble_eq_true rfl, Nat.le_of_ble_eq_true rfl⟩ (fun r_4 C_5 H locs hq_6 hP hD hS => ?_)
    obtain ⟨hT, f_7, hq_6⟩ := hq_6
    have hF := fr_tr hF f_7 (by decide) (by decide)
    refine W.widen (k := 0) (n := 0) (Nat.le_refl _) (Nat.le_refl _) ?_
    have t_8 := hT
    rw [hQ]
    exact W.iret (v := r_4) hx hb hr (fun t ht hW => ⟨⟨r_4, C_5, rfl, ⟨hT, hF, trivial⟩, ⟨by rw [ht]; exact hP, hD⟩⟩, hS.F ht⟩) hS.2.2 dX6_bridgeOf_24
  · have u_9 := hq_2.2 c_3
    refine lv_iload_n hx hb dX6_bridgeOf_8 rfl (lv_at hl 2 rfl) ?_
    refine lv_iconst (v := 0) hx hb dX6_bridgeOf_9 (by decide) ?_
    refine lv_bipush (v := 9) hx hb dX6_bridgeOf_10 (by decide) ?_
    refine tq_S (As := [.int x2, .int 0, .int 9]) (rest := []) (ws := []) ⟨hx, hb, hml, hown, htg⟩ (c_X6_within l D E G x2 (0 : Int32) (9 : Int32)) (va_cwS 3 htg (oh_gS q_293 q_294 q_66 q_295) rfl rfl rfl pdX6_within ⟨Nat.le_of_ble_eq_true rfl, Nat.le_of_ble_eq_true rfl⟩) hK va_nil hG hS rfl hl.1 rfl (Nat.le_of_ble_eq_true rfl) dX6_bridgeOf_12 ⟨Nat.le_of_ble_eq_true rfl, Nat.le_of_ble_eq_true rfl⟩ (fun r_10 hq_11 => ?_)
    refine lv_if_ne (tgt := 25) hx hb dX6_bridgeOf_15 (by decide) (fun (c_12 : ¬ (r_10 = 0)) => ?_) (fun (c_12 : r_10 = 0) => ?_)
    · have u_13 := hq_11.2.1 c_12
      refine lv_aload_n hx hb dX6_bridgeOf_25 rfl (lv_at hl 0 rfl) ?_
      refine va_get (D := D) (ci := 6) (v := .ref (a 1)) (C := RX6) (T := TX6) (N := 9) hx hb htg ig_6 hown hK hP 0 (oh_wg (by decide) (sX_0 hT)) rfl 0 (by decide) (htg _ q_258) (fun _ h9 => h9) rfl dX6_bridgeOf_26 ?_
      refine lv_iload_n hx hb dX6_bridgeOf_29 rfl (lv_at hl 1 rfl) ?_
      refine lv_iload_n hx hb dX6_bridgeOf_30 rfl (lv_at hl 2 rfl) ?_
      refine tq_V (As := [.int x1, .int x2]) (rest := []) (ws := (oh_W 35 a C)) ⟨hx, hb, hml, hown, htg⟩ (c_X0_ofBridge l D E G a C hT x1 x2 (rg_w u_9 (by decide)) (rg_w (rn_leu u_13.2 (rn_lel u_13.1 (rg_c (v := 0) (lo := 0) (hi := 0) (by decide)) (rg_any _)) (rg_c (v := 9) (lo := 9) (hi := 9) (by decide))) (by decide))) (cwV 2 htg (oh_gV q_392 q_385 q_386 q_67 q_387) rfl rfl rfl pdVX0_ofBridge ⟨Nat.le_of_ble_eq_true rfl, Nat.le_of_ble_eq_true rfl⟩) hK hP hG hS (va_recv hK hP (ci := 0) (q0 := 1) rfl (oh_wg (by decide) (sX_1 hT))) rfl hl.1 rfl (Nat.le_of_ble_eq_true rfl) dX6_bridgeOf_31 ⟨Nat.le_of_ble_eq_true rfl, Nat.le_of_ble_eq_true rfl⟩ (fun r_14 hq_15 => ?_)
      subst hq_15
      rw [hQ]
      exact W.iret (v := ga (C 12) ((x1 * 10) + x2).toNatClampNeg) hx hb hr (fun t ht hW => ⟨⟨ga (C 12) ((x1 * 10) + x2).toNatClampNeg, C, rfl, ⟨hT, hF, trivial⟩, ⟨by rw [ht]; exact hP, hD⟩⟩, hS.F ht⟩) hS.2.2 dX6_bridgeOf_34
    · have u_16 := hq_11.2.2 c_12
      refine lv_aload_n hx hb dX6_bridgeOf_18 rfl (lv_at hl 0 rfl) ?_
      refine lv_bipush (v := (-2)) hx hb dX6_bridgeOf_19 (by decide) ?_
      refine tm_V (As := [.int (-2)]) (rest := []) ⟨hx, hb, hml, hown, htg⟩ (c_X6_refuse l D E G _ a C hT ((-2) : Int32)) (cwV 1 htg (oh_gV q_296 q_298 q_0 q_66 q_299) rfl rfl rfl pdVX6_refuse ⟨Nat.le_of_ble_eq_true rfl, Nat.le_of_ble_eq_true rfl⟩) hK hP hD hG hS hA (va_recv hK hP (ci := 6) (q0 := 0) rfl (oh_wg (by decide) (sX_0 hT))) rfl hl.1 rfl (Nat.le_of_ble_eq_true rfl) dX6_bridgeOf_21 ⟨Nat.le_of_ble_eq_true rfl, Nat.le_of_ble_eq_true rfl⟩ (fun r_17 C_18 H locs hq_19 hP hD hS => ?_)
      obtain ⟨hT, f_20, hq_19⟩ := hq_19
      have hF := fr_tr hF f_20 (by decide) (by decide)
      refine W.widen (k := 0) (n := 0) (Nat.le_refl _) (Nat.le_refl _) ?_
      have t_21 := hT
      rw [hQ]
      exact W.iret (v := r_17) hx hb hr (fun t ht hW => ⟨⟨r_17, C_18, rfl, ⟨hT, hF, trivial⟩, ⟨by rw [ht]; exact hP, hD⟩⟩, hS.F ht⟩) hS.2.2 dX6_bridgeOf_24

set_option maxHeartbeats 4000000 in
set_option maxRecDepth 100000 in
theorem c_X6_bears (l : Launch) (D : va_G) (E : Nat → ClassId) (G : Nat → Nat) (sz : Nat) (a : Nat → Nat) (C : Nat → va_E) (hT : TyX a E C) (x1 : Int32) (x2 : Int32) (hx2 : rg x2 0 1) : Met l yX6_bears (oh_w yX6_bears cX6_bears 3 (some .int)) ({ frames := 2, cells := 0, slots := 0, locals := 51 }) (oh_Pm D E G [.ref (a 0), .int x1, .int x2] (oh_W 35 a C) sz) (va_Qi (fun r (u : Nat → va_E) => TyX a E u ∧ fr [(7, 8)] [] C u ∧ True) (oh_B D (va_A (oh_W 35 a C) sz) (fun u => oh_W 35 a u)) (va_A (oh_W 35 a C) sz)) 0 0 (va_A (oh_W 35 a C) sz) := by
  refine Met.ofW (cc := cX6_bears) (maxL := 3) (ret := (some .int)) (by decide) rfl ?_
  intro p e s m args below meth c s₁ B hml hv
  obtain ⟨rfl, hsz, hP, hK, hD0, hG⟩ := hv
  have hx := B.exec
  have hb := B.bytes
  have hr := B.returns
  have hts := atoms_spec (ws := (oh_w yX6_bears cX6_bears 3 (some .int))) B.pre
  have htg : ∀ w ∈ oh_t, w.before _ s = true := fun w h => hts w (List.mem_cons_of_mem _ h)
  have hown : s.vm.findClass RX6 = some m.cls := findClass_of_methodNamed B.named
  have hlocks := B.notSynchronized
  have hT0 := hT
  subst hsz
  have hD := hD0.self (sz := s.heap.size)
  generalize hAe : va_A (oh_W 35 a C) s.heap.size = A at hD hG ⊢
  have hA : ∀ q : Nat, s.heap.size ≤ q → A q := fun q h => by rw [← hAe]; exact Or.inr h
  have hS : va_S A s.heap s.heap [] := va_S.rf
  have hF : fr [(7, 8)] [] C C := fr_rf
  have hl := lv_entry ([.ref (a 0), .int x1, .int x2]) (n := 3) (Nat.le_of_ble_eq_true rfl)
  rw [lg_entry_eq]
  generalize (lg_sl ([.ref (a 0), .int x1, .int x2]) ++ List.replicate (3 - (lg_sl ([.ref (a 0), .int x1, .int x2])).length) Slot.unset).toArray = ls at hl ⊢
  have hl : lv_has ls 3 [(0, .ref (a 0)), (1, .int x1), (2, .int x2)] := hl
  refine oh_genQ (fun Q hQ => ?_)
  refine lv_aload_n hx hb dX6_bears_0 rfl (lv_at hl 0 rfl) ?_
  refine lv_iload_n hx hb dX6_bears_1 rfl (lv_at hl 1 rfl) ?_
  refine tq_V (As := [.int x1]) (rest := []) (ws := (oh_W 35 a C)) ⟨hx, hb, hml, hown, htg⟩ (c_X6_isBridge l D E G a C hT x1) (cwV 1 htg (oh_gV q_366 q_368 q_2 q_66 q_369) rfl rfl rfl pdVX6_isBridge ⟨Nat.le_of_ble_eq_true rfl, Nat.le_of_ble_eq_true rfl⟩) hK hP hG hS (va_recv hK hP (ci := 6) (q0 := 0) rfl (oh_wg (by decide) (sX_0 hT))) rfl hl.1 rfl (Nat.le_of_ble_eq_true rfl) dX6_bears_2 ⟨Nat.le_of_ble_eq_true rfl, Nat.le_of_ble_eq_true rfl⟩ (fun r_1 hq_2 => ?_)
  refine lv_if_ne (tgt := 15) hx hb dX6_bears_5 (by decide) (fun (c_3 : ¬ (r_1 = 0)) => ?_) (fun (c_3 : r_1 = 0) => ?_)
  · have u_4 := hq_2.2 c_3
    refine lv_iload_n hx hb dX6_bears_15 rfl (lv_at hl 2 rfl) ?_
    refine lv_if_eq (tgt := 38) hx hb dX6_bears_16 (by decide) (fun (c_5 : x2 = 0) => ?_) (fun (c_5 : ¬ (x2 = 0)) => ?_)
    · refine lv_aload_n hx hb dX6_bears_38 rfl (lv_at hl 0 rfl) ?_
      refine va_get (D := D) (ci := 6) (v := .ref (a 1)) (C := RX6) (T := TX6) (N := 9) hx hb htg ig_6 hown hK hP 0 (oh_wg (by decide) (sX_0 hT)) rfl 0 (by decide) (htg _ q_258) (fun _ h9 => h9) rfl dX6_bears_39 ?_
      refine lv_iload_n hx hb dX6_bears_42 rfl (lv_at hl 1 rfl) ?_
      refine tq_V (As := [.int x1]) (rest := []) (ws := (oh_W 35 a C)) ⟨hx, hb, hml, hown, htg⟩ (c_X0_bearsAxle l D E G a C hT x1 (rg_w u_4 (by decide))) (cwV 1 htg (oh_gV q_393 q_394 q_395 q_67 q_396) rfl rfl rfl pdVX0_bearsAxle ⟨Nat.le_of_ble_eq_true rfl, Nat.le_of_ble_eq_true rfl⟩) hK hP hG hS (va_recv hK hP (ci := 0) (q0 := 1) rfl (oh_wg (by decide) (sX_1 hT))) rfl hl.1 rfl (Nat.le_of_ble_eq_true rfl) dX6_bears_43 ⟨Nat.le_of_ble_eq_true rfl, Nat.le_of_ble_eq_true rfl⟩ (fun r_6 hq_7 => ?_)
      rw [hQ]
      exact W.iret (v := r_6) hx hb hr (fun t ht hW => ⟨⟨r_6, C, rfl, ⟨hT, hF, trivial⟩, ⟨by rw [ht]; exact hP, hD⟩⟩, hS.F ht⟩) hS.2.2 dX6_bears_46
    · refine lv_aload_n hx hb dX6_bears_19 rfl (lv_at hl 0 rfl) ?_
      refine va_get (D := D) (ci := 6) (v := .ref (a 1)) (C := RX6) (T := TX6) (N := 9) hx hb htg ig_6 hown hK hP 0 (oh_wg (by decide) (sX_0 hT)) rfl 0 (by decide) (htg _ q_258) (fun _ h9 => h9) rfl dX6_bears_20 ?_
      refine lv_iload_n hx hb dX6_bears_23 rfl (lv_at hl 1 rfl) ?_
      refine lv_aload_n hx hb dX6_bears_24 rfl (lv_at hl 0 rfl) ?_
      refine va_get (D := D) (ci := 6) (v := .ref (a 1)) (C := RX6) (T := TX6) (N := 9) hx hb htg ig_6 hown hK hP 0 (oh_wg (by decide) (sX_0 hT)) rfl 0 (by decide) (htg _ q_258) (fun _ h9 => h9) rfl dX6_bears_25 ?_
      refine lv_iload_n hx hb dX6_bears_28 rfl (lv_at hl 1 rfl) ?_
      refine tq_V (As := [.int x1]) (rest := [.int x1, .ref (a 1)]) (ws := (oh_W 35 a C)) ⟨hx, hb, hml, hown, htg⟩ (c_X0_isPropped l D E G a C hT x1 (rg_w u_4 (by decide))) (cwV 1 htg (oh_gV q_401 q_402 q_403 q_67 q_404) rfl rfl rfl pdVX0_isPropped ⟨Nat.le_of_ble_eq_true rfl, Nat.le_of_ble_eq_true rfl⟩) hK hP hG hS (va_recv hK hP (ci := 0) (q0 := 1) rfl (oh_wg (by decide) (sX_1 hT))) rfl hl.1 rfl (Nat.le_of_ble_eq_true rfl) dX6_bears_29 ⟨Nat.le_of_ble_eq_true rfl, Nat.le_of_ble_eq_true rfl⟩ (fun r_8 hq_9 => ?_)
      refine tq_V (As := [.int x1, .int r_8]) (rest := []) (ws := (oh_W 35 a C)) ⟨hx, hb, hml, hown, htg⟩ (c_X0_bearsAll l D E G a C hT x1 r_8 (rg_w u_4 (by decide)) (rg_w (oh_rgb hq_9) (by decide))) (cwV 2 htg (oh_gV q_405 q_406 q_407 q_67 q_408) rfl rfl rfl pdVX0_bearsAll ⟨Nat.le_of_ble_eq_true rfl, Nat.le_of_ble_eq_true rfl⟩) hK hP hG hS (va_recv hK hP (ci := 0) (q0 := 1) rfl (oh_wg (by decide) (sX_1 hT))) rfl hl.1 rfl (Nat.le_of_ble_eq_true rfl) dX6_bears_32 ⟨Nat.le_of_ble_eq_true rfl, Nat.le_of_ble_eq_true rfl⟩ (fun r_10 hq_11 => ?_)
      refine lv_goto (tgt := 46) hx hb dX6_bears_35 (by decide) ?_
      rw [hQ]
      exact W.iret (v := r_10) hx hb hr (fun t ht hW => ⟨⟨r_10, C, rfl, ⟨hT, hF, trivial⟩, ⟨by rw [ht]; exact hP, hD⟩⟩, hS.F ht⟩) hS.2.2 dX6_bears_46
  · refine lv_aload_n hx hb dX6_bears_8 rfl (lv_at hl 0 rfl) ?_
    refine lv_bipush (v := (-2)) hx hb dX6_bears_9 (by decide) ?_
    refine tm_V (As := [.int (-2)]) (rest := []) ⟨hx, hb, hml, hown, htg⟩ (c_X6_refuse l D E G _ a C hT ((-2) : Int32)) (cwV 1 htg (oh_gV q_296 q_298 q_0 q_66 q_299) rfl rfl rfl pdVX6_refuse ⟨Nat.le_of_ble_eq_true rfl, Nat.le_of_ble_eq_true rfl⟩) hK hP hD hG hS hA (va_recv hK hP (ci := 6) (q0 := 0) rfl (oh_wg (by decide) (sX_0 hT))) rfl hl.1 rfl (Nat.le_of_ble_eq_true rfl) dX6_bears_11 ⟨Nat.le_of_ble_eq_true rfl, Nat.le_of_ble_eq_true rfl⟩ (fun r_12 C_13 H locs hq_14 hP hD hS => ?_)
    obtain ⟨hT, f_15, hq_14⟩ := hq_14
    have hF := fr_tr hF f_15 (by decide) (by decide)
    refine W.widen (k := 0) (n := 0) (Nat.le_refl _) (Nat.le_refl _) ?_
    have t_16 := hT
    rw [hQ]
    exact W.iret (v := r_12) hx hb hr (fun t ht hW => ⟨⟨r_12, C_13, rfl, ⟨hT, hF, trivial⟩, ⟨by rw [ht]; exact hP, hD⟩⟩, hS.F ht⟩) hS.2.2 dX6_bears_14

set_option maxHeartbeats 4000000 in
set_option maxRecDepth 100000 in
theorem c_X6_needs (l : Launch) (D : va_G) (E : Nat → ClassId) (G : Nat → Nat) (sz : Nat) (a : Nat → Nat) (C : Nat → va_E) (hT : TyX a E C) (x1 : Int32) (x2 : Int32) (x3 : Int32) : Met l yX6_needs (oh_w yX6_needs cX6_needs 4 (some .int)) ({ frames := 3, cells := 0, slots := 0, locals := 75 }) (oh_Pm D E G [.ref (a 0), .int x1, .int x2, .int x3] (oh_W 35 a C) sz) (va_Qi (fun r (u : Nat → va_E) => TyX a E u ∧ fr [(7, 8), (9, 10)] [] C u ∧ True) (oh_B D (va_A (oh_W 35 a C) sz) (fun u => oh_W 35 a u)) (va_A (oh_W 35 a C) sz)) 0 0 (va_A (oh_W 35 a C) sz) := by
  refine Met.ofW (cc := cX6_needs) (maxL := 4) (ret := (some .int)) (by decide) rfl ?_
  intro p e s m args below meth c s₁ B hml hv
  obtain ⟨rfl, hsz, hP, hK, hD0, hG⟩ := hv
  have hx := B.exec
  have hb := B.bytes
  have hr := B.returns
  have hts := atoms_spec (ws := (oh_w yX6_needs cX6_needs 4 (some .int))) B.pre
  have htg : ∀ w ∈ oh_t, w.before _ s = true := fun w h => hts w (List.mem_cons_of_mem _ h)
  have hown : s.vm.findClass RX6 = some m.cls := findClass_of_methodNamed B.named
  have hlocks := B.notSynchronized
  have hT0 := hT
  subst hsz
  have hD := hD0.self (sz := s.heap.size)
  generalize hAe : va_A (oh_W 35 a C) s.heap.size = A at hD hG ⊢
  have hA : ∀ q : Nat, s.heap.size ≤ q → A q := fun q h => by rw [← hAe]; exact Or.inr h
  have hS : va_S A s.heap s.heap [] := va_S.rf
  have hF : fr [(7, 8), (9, 10)] [] C C := fr_rf
  have hl := lv_entry ([.ref (a 0), .int x1, .int x2, .int x3]) (n := 4) (Nat.le_of_ble_eq_true rfl)
  rw [lg_entry_eq]
  generalize (lg_sl ([.ref (a 0), .int x1, .int x2, .int x3]) ++ List.replicate (4 - (lg_sl ([.ref (a 0), .int x1, .int x2, .int x3])).length) Slot.unset).toArray = ls at hl ⊢
  have hl : lv_has ls 4 [(0, .ref (a 0)), (1, .int x1), (2, .int x2), (3, .int x3)] := hl
  refine oh_genQ (fun Q hQ => ?_)
  refine lv_aload_n hx hb dX6_needs_0 rfl (lv_at hl 0 rfl) ?_
  refine lv_iload_n hx hb dX6_needs_1 rfl (lv_at hl 1 rfl) ?_
  refine lv_iload_n hx hb dX6_needs_2 rfl (lv_at hl 2 rfl) ?_
  refine tq_V (As := [.int x1, .int x2]) (rest := []) (ws := (oh_W 35 a C)) ⟨hx, hb, hml, hown, htg⟩ (c_X6_isPack l D E G a C hT x1 x2) (cwV 2 htg (oh_gV q_695 q_697 q_16 q_66 q_698) rfl rfl rfl pdVX6_isPack ⟨Nat.le_of_ble_eq_true rfl, Nat.le_of_ble_eq_true rfl⟩) hK hP hG hS (va_recv hK hP (ci := 6) (q0 := 0) rfl (oh_wg (by decide) (sX_0 hT))) rfl hl.1 rfl (Nat.le_of_ble_eq_true rfl) dX6_needs_3 ⟨Nat.le_of_ble_eq_true rfl, Nat.le_of_ble_eq_true rfl⟩ (fun r_1 hq_2 => ?_)
  refine lv_if_eq (tgt := 17) hx hb dX6_needs_6 (by decide) (fun (c_3 : r_1 = 0) => ?_) (fun (c_3 : ¬ (r_1 = 0)) => ?_)
  · refine lv_aload_n hx hb dX6_needs_17 rfl (lv_at hl 0 rfl) ?_
    refine lv_bipush (v := (-2)) hx hb dX6_needs_18 (by decide) ?_
    refine tm_V (As := [.int (-2)]) (rest := []) ⟨hx, hb, hml, hown, htg⟩ (c_X6_refuse l D E G _ a C hT ((-2) : Int32)) (cwV 1 htg (oh_gV q_296 q_298 q_0 q_66 q_299) rfl rfl rfl pdVX6_refuse ⟨Nat.le_of_ble_eq_true rfl, Nat.le_of_ble_eq_true rfl⟩) hK hP hD hG hS hA (va_recv hK hP (ci := 6) (q0 := 0) rfl (oh_wg (by decide) (sX_0 hT))) rfl hl.1 rfl (Nat.le_of_ble_eq_true rfl) dX6_needs_20 ⟨Nat.le_of_ble_eq_true rfl, Nat.le_of_ble_eq_true rfl⟩ (fun r_4 C_5 H locs hq_6 hP hD hS => ?_)
    obtain ⟨hT, f_7, hq_6⟩ := hq_6
    have hF := fr_tr hF f_7 (by decide) (by decide)
    refine W.widen (k := 0) (n := 0) (Nat.le_refl _) (Nat.le_refl _) ?_
    have t_8 := hT
    rw [hQ]
    exact W.iret (v := r_4) hx hb hr (fun t ht hW => ⟨⟨r_4, C_5, rfl, ⟨hT, hF, trivial⟩, ⟨by rw [ht]; exact hP, hD⟩⟩, hS.F ht⟩) hS.2.2 dX6_needs_23
  · have u_9 := hq_2.2 c_3
    refine lv_aload_n hx hb dX6_needs_9 rfl (lv_at hl 0 rfl) ?_
    refine lv_iload_n hx hb dX6_needs_10 rfl (lv_at hl 3 rfl) ?_
    refine tq_V (As := [.int x3]) (rest := []) (ws := (oh_W 35 a C)) ⟨hx, hb, hml, hown, htg⟩ (c_X6_isBridge l D E G a C hT x3) (cwV 1 htg (oh_gV q_366 q_368 q_2 q_66 q_369) rfl rfl rfl pdVX6_isBridge ⟨Nat.le_of_ble_eq_true rfl, Nat.le_of_ble_eq_true rfl⟩) hK hP hG hS (va_recv hK hP (ci := 6) (q0 := 0) rfl (oh_wg (by decide) (sX_0 hT))) rfl hl.1 rfl (Nat.le_of_ble_eq_true rfl) dX6_needs_11 ⟨Nat.le_of_ble_eq_true rfl, Nat.le_of_ble_eq_true rfl⟩ (fun r_10 hq_11 => ?_)
    refine lv_if_ne (tgt := 24) hx hb dX6_needs_14 (by decide) (fun (c_12 : ¬ (r_10 = 0)) => ?_) (fun (c_12 : r_10 = 0) => ?_)
    · have u_13 := hq_11.2 c_12
      refine lv_aload_n hx hb dX6_needs_24 rfl (lv_at hl 0 rfl) ?_
      refine va_get (D := D) (ci := 6) (v := .ref (a 3)) (C := RX6) (T := TX6) (N := 9) hx hb htg ig_6 hown hK hP 0 (oh_wg (by decide) (sX_0 hT)) rfl 3 (by decide) (htg _ q_261) (fun _ h9 => h9) rfl dX6_needs_25 ?_
      refine va_get (D := D) (ci := 5) (v := .ref (a 9)) (C := RX5) (T := TX5) (N := 7) hx hb htg ig_5 hown hK hP 3 (oh_wg (by decide) (sX_3 hT)) rfl 1 (by decide) (htg _ q_169) (fun _ h9 => h9) rfl dX6_needs_28 ?_
      refine lv_aload_n hx hb dX6_needs_31 rfl (lv_at hl 0 rfl) ?_
      refine va_get (D := D) (ci := 6) (v := .ref (a 1)) (C := RX6) (T := TX6) (N := 9) hx hb htg ig_6 hown hK hP 0 (oh_wg (by decide) (sX_0 hT)) rfl 0 (by decide) (htg _ q_258) (fun _ h9 => h9) rfl dX6_needs_32 ?_
      refine lv_iload_n hx hb dX6_needs_35 rfl (lv_at hl 1 rfl) ?_
      refine lv_iload_n hx hb dX6_needs_36 rfl (lv_at hl 2 rfl) ?_
      refine tm_Vv (As := [.ref (a 1), .int x1, .int x2]) (rest := []) ⟨hx, hb, hml, hown, htg⟩ (c_X1_take l D E G _ a C hT x1 x2 (rg_w u_9 (by decide))) (cwV 3 htg (oh_gV q_703 q_704 q_705 q_69 q_706) rfl rfl rfl pdVX1_take ⟨Nat.le_of_ble_eq_true rfl, Nat.le_of_ble_eq_true rfl⟩) hK hP hD hG hS hA (va_recv hK hP (ci := 1) (q0 := 9) rfl (oh_wg (by decide) (sX_9 hT))) rfl hl.1 rfl (Nat.le_of_ble_eq_true rfl) dX6_needs_37 ⟨Nat.le_of_ble_eq_true rfl, Nat.le_of_ble_eq_true rfl⟩ (fun C_15 H locs hq_16 hP hD hS => ?_)
      obtain ⟨hT, f_17, hq_16⟩ := hq_16
      have hF := fr_tr hF f_17 (by decide) (by decide)
      refine W.widen (k := 0) (n := 0) (Nat.le_refl _) (Nat.le_refl _) ?_
      have t_18 := hT
      refine lv_aload_n hx hb dX6_needs_40 rfl (lv_at hl 0 rfl) ?_
      refine va_get (D := D) (ci := 6) (v := .ref (a 3)) (C := RX6) (T := TX6) (N := 9) hx hb htg ig_6 hown hK hP 0 (oh_wg (by decide) (sX_0 hT)) rfl 3 (by decide) (htg _ q_261) (fun _ h9 => h9) rfl dX6_needs_41 ?_
      refine va_get (D := D) (ci := 5) (v := .ref (a 9)) (C := RX5) (T := TX5) (N := 7) hx hb htg ig_5 hown hK hP 3 (oh_wg (by decide) (sX_3 hT)) rfl 1 (by decide) (htg _ q_169) (fun _ h9 => h9) rfl dX6_needs_44 ?_
      refine lv_aload_n hx hb dX6_needs_47 rfl (lv_at hl 0 rfl) ?_
      refine va_get (D := D) (ci := 6) (v := .ref (a 1)) (C := RX6) (T := TX6) (N := 9) hx hb htg ig_6 hown hK hP 0 (oh_wg (by decide) (sX_0 hT)) rfl 0 (by decide) (htg _ q_258) (fun _ h9 => h9) rfl dX6_needs_48 ?_
      refine lv_iload_n hx hb dX6_needs_51 rfl (lv_at hl 3 rfl) ?_
      refine tq_V (As := [.ref (a 1), .int x3]) (rest := []) (ws := (oh_W 35 a C_15)) ⟨hx, hb, hml, hown, htg⟩ (c_X1_needsOf l D E G a C_15 hT x3 (rg_w u_13 (by decide))) (cwV 2 htg (oh_gV q_737 q_738 q_739 q_69 q_740) rfl rfl rfl pdVX1_needsOf ⟨Nat.le_of_ble_eq_true rfl, Nat.le_of_ble_eq_true rfl⟩) hK hP hG hS (va_recv hK hP (ci := 1) (q0 := 9) rfl (oh_wg (by decide) (sX_9 hT))) rfl hl.1 rfl (Nat.le_of_ble_eq_true rfl) dX6_needs_52 ⟨Nat.le_of_ble_eq_true rfl, Nat.le_of_ble_eq_true rfl⟩ (fun r_19 hq_20 => ?_)
      rw [hQ]
      exact W.iret (v := r_19) hx hb hr (fun t ht hW => ⟨⟨r_19, C_15, rfl, ⟨hT, hF, trivial⟩, ⟨by rw [ht]; exact hP, hD⟩⟩, hS.F ht⟩) hS.2.2 dX6_needs_55
    · refine lv_aload_n hx hb dX6_needs_17 rfl (lv_at hl 0 rfl) ?_
      refine lv_bipush (v := (-2)) hx hb dX6_needs_18 (by decide) ?_
      refine tm_V (As := [.int (-2)]) (rest := []) ⟨hx, hb, hml, hown, htg⟩ (c_X6_refuse l D E G _ a C hT ((-2) : Int32)) (cwV 1 htg (oh_gV q_296 q_298 q_0 q_66 q_299) rfl rfl rfl pdVX6_refuse ⟨Nat.le_of_ble_eq_true rfl, Nat.le_of_ble_eq_true rfl⟩) hK hP hD hG hS hA (va_recv hK hP (ci := 6) (q0 := 0) rfl (oh_wg (by decide) (sX_0 hT))) rfl hl.1 rfl (Nat.le_of_ble_eq_true rfl) dX6_needs_20 ⟨Nat.le_of_ble_eq_true rfl, Nat.le_of_ble_eq_true rfl⟩ (fun r_21 C_22 H locs hq_23 hP hD hS => ?_)
      obtain ⟨hT, f_24, hq_23⟩ := hq_23
      have hF := fr_tr hF f_24 (by decide) (by decide)
      refine W.widen (k := 0) (n := 0) (Nat.le_refl _) (Nat.le_refl _) ?_
      have t_25 := hT
      rw [hQ]
      exact W.iret (v := r_21) hx hb hr (fun t ht hW => ⟨⟨r_21, C_22, rfl, ⟨hT, hF, trivial⟩, ⟨by rw [ht]; exact hP, hD⟩⟩, hS.F ht⟩) hS.2.2 dX6_needs_23

set_option maxHeartbeats 4000000 in
set_option maxRecDepth 100000 in
theorem c_X6_goes (l : Launch) (D : va_G) (E : Nat → ClassId) (G : Nat → Nat) (sz : Nat) (a : Nat → Nat) (C : Nat → va_E) (hT : TyX a E C) (x1 : Int32) (x2 : Int32) (x3 : Int32) (x4 : Int32) : Met l yX6_goes (oh_w yX6_goes cX6_goes 5 (some .int)) ({ frames := 4, cells := 0, slots := 0, locals := 100 }) (oh_Pm D E G [.ref (a 0), .int x1, .int x2, .int x3, .int x4] (oh_W 35 a C) sz) (va_Qi (fun r (u : Nat → va_E) => TyX a E u ∧ fr [(7, 8), (9, 10), (24, 26)] [] C u ∧ True) (oh_B D (va_A (oh_W 35 a C) sz) (fun u => oh_W 35 a u)) (va_A (oh_W 35 a C) sz)) 0 0 (va_A (oh_W 35 a C) sz) := by
  refine Met.ofW (cc := cX6_goes) (maxL := 5) (ret := (some .int)) (by decide) rfl ?_
  intro p e s m args below meth c s₁ B hml hv
  obtain ⟨rfl, hsz, hP, hK, hD0, hG⟩ := hv
  have hx := B.exec
  have hb := B.bytes
  have hr := B.returns
  have hts := atoms_spec (ws := (oh_w yX6_goes cX6_goes 5 (some .int))) B.pre
  have htg : ∀ w ∈ oh_t, w.before _ s = true := fun w h => hts w (List.mem_cons_of_mem _ h)
  have hown : s.vm.findClass RX6 = some m.cls := findClass_of_methodNamed B.named
  have hlocks := B.notSynchronized
  have hT0 := hT
  subst hsz
  have hD := hD0.self (sz := s.heap.size)
  generalize hAe : va_A (oh_W 35 a C) s.heap.size = A at hD hG ⊢
  have hA : ∀ q : Nat, s.heap.size ≤ q → A q := fun q h => by rw [← hAe]; exact Or.inr h
  have hS : va_S A s.heap s.heap [] := va_S.rf
  have hF : fr [(7, 8), (9, 10), (24, 26)] [] C C := fr_rf
  have hl := lv_entry ([.ref (a 0), .int x1, .int x2, .int x3, .int x4]) (n := 5) (Nat.le_of_ble_eq_true rfl)
  rw [lg_entry_eq]
  generalize (lg_sl ([.ref (a 0), .int x1, .int x2, .int x3, .int x4]) ++ List.replicate (5 - (lg_sl ([.ref (a 0), .int x1, .int x2, .int x3, .int x4])).length) Slot.unset).toArray = ls at hl ⊢
  have hl : lv_has ls 5 [(0, .ref (a 0)), (1, .int x1), (2, .int x2), (3, .int x3), (4, .int x4)] := hl
  refine oh_genQ (fun Q hQ => ?_)
  refine lv_aload_n hx hb dX6_goes_0 rfl (lv_at hl 0 rfl) ?_
  refine lv_iload_n hx hb dX6_goes_1 rfl (lv_at hl 1 rfl) ?_
  refine lv_iload_n hx hb dX6_goes_2 rfl (lv_at hl 2 rfl) ?_
  refine tq_V (As := [.int x1, .int x2]) (rest := []) (ws := (oh_W 35 a C)) ⟨hx, hb, hml, hown, htg⟩ (c_X6_isPack l D E G a C hT x1 x2) (cwV 2 htg (oh_gV q_695 q_697 q_16 q_66 q_698) rfl rfl rfl pdVX6_isPack ⟨Nat.le_of_ble_eq_true rfl, Nat.le_of_ble_eq_true rfl⟩) hK hP hG hS (va_recv hK hP (ci := 6) (q0 := 0) rfl (oh_wg (by decide) (sX_0 hT))) rfl hl.1 rfl (Nat.le_of_ble_eq_true rfl) dX6_goes_3 ⟨Nat.le_of_ble_eq_true rfl, Nat.le_of_ble_eq_true rfl⟩ (fun r_1 hq_2 => ?_)
  refine lv_if_eq (tgt := 27) hx hb dX6_goes_6 (by decide) (fun (c_3 : r_1 = 0) => ?_) (fun (c_3 : ¬ (r_1 = 0)) => ?_)
  · refine lv_aload_n hx hb dX6_goes_27 rfl (lv_at hl 0 rfl) ?_
    refine lv_bipush (v := (-2)) hx hb dX6_goes_28 (by decide) ?_
    refine tm_V (As := [.int (-2)]) (rest := []) ⟨hx, hb, hml, hown, htg⟩ (c_X6_refuse l D E G _ a C hT ((-2) : Int32)) (cwV 1 htg (oh_gV q_296 q_298 q_0 q_66 q_299) rfl rfl rfl pdVX6_refuse ⟨Nat.le_of_ble_eq_true rfl, Nat.le_of_ble_eq_true rfl⟩) hK hP hD hG hS hA (va_recv hK hP (ci := 6) (q0 := 0) rfl (oh_wg (by decide) (sX_0 hT))) rfl hl.1 rfl (Nat.le_of_ble_eq_true rfl) dX6_goes_30 ⟨Nat.le_of_ble_eq_true rfl, Nat.le_of_ble_eq_true rfl⟩ (fun r_4 C_5 H locs hq_6 hP hD hS => ?_)
    obtain ⟨hT, f_7, hq_6⟩ := hq_6
    have hF := fr_tr hF f_7 (by decide) (by decide)
    refine W.widen (k := 0) (n := 0) (Nat.le_refl _) (Nat.le_refl _) ?_
    have t_8 := hT
    rw [hQ]
    exact W.iret (v := r_4) hx hb hr (fun t ht hW => ⟨⟨r_4, C_5, rfl, ⟨hT, hF, trivial⟩, ⟨by rw [ht]; exact hP, hD⟩⟩, hS.F ht⟩) hS.2.2 dX6_goes_33
  · have u_9 := hq_2.2 c_3
    refine lv_aload_n hx hb dX6_goes_9 rfl (lv_at hl 0 rfl) ?_
    refine lv_iload_n hx hb dX6_goes_10 rfl (lv_at hl 3 rfl) ?_
    refine tq_V (As := [.int x3]) (rest := []) (ws := (oh_W 35 a C)) ⟨hx, hb, hml, hown, htg⟩ (c_X6_isRoad l D E G a C hT x3) (cwV 1 htg (oh_gV q_428 q_430 q_5 q_66 q_431) rfl rfl rfl pdVX6_isRoad ⟨Nat.le_of_ble_eq_true rfl, Nat.le_of_ble_eq_true rfl⟩) hK hP hG hS (va_recv hK hP (ci := 6) (q0 := 0) rfl (oh_wg (by decide) (sX_0 hT))) rfl hl.1 rfl (Nat.le_of_ble_eq_true rfl) dX6_goes_11 ⟨Nat.le_of_ble_eq_true rfl, Nat.le_of_ble_eq_true rfl⟩ (fun r_10 hq_11 => ?_)
    refine lv_if_eq (tgt := 27) hx hb dX6_goes_14 (by decide) (fun (c_12 : r_10 = 0) => ?_) (fun (c_12 : ¬ (r_10 = 0)) => ?_)
    · refine lv_aload_n hx hb dX6_goes_27 rfl (lv_at hl 0 rfl) ?_
      refine lv_bipush (v := (-2)) hx hb dX6_goes_28 (by decide) ?_
      refine tm_V (As := [.int (-2)]) (rest := []) ⟨hx, hb, hml, hown, htg⟩ (c_X6_refuse l D E G _ a C hT ((-2) : Int32)) (cwV 1 htg (oh_gV q_296 q_298 q_0 q_66 q_299) rfl rfl rfl pdVX6_refuse ⟨Nat.le_of_ble_eq_true rfl, Nat.le_of_ble_eq_true rfl⟩) hK hP hD hG hS hA (va_recv hK hP (ci := 6) (q0 := 0) rfl (oh_wg (by decide) (sX_0 hT))) rfl hl.1 rfl (Nat.le_of_ble_eq_true rfl) dX6_goes_30 ⟨Nat.le_of_ble_eq_true rfl, Nat.le_of_ble_eq_true rfl⟩ (fun r_13 C_14 H locs hq_15 hP hD hS => ?_)
      obtain ⟨hT, f_16, hq_15⟩ := hq_15
      have hF := fr_tr hF f_16 (by decide) (by decide)
      refine W.widen (k := 0) (n := 0) (Nat.le_refl _) (Nat.le_refl _) ?_
      have t_17 := hT
      rw [hQ]
      exact W.iret (v := r_13) hx hb hr (fun t ht hW => ⟨⟨r_13, C_14, rfl, ⟨hT, hF, trivial⟩, ⟨by rw [ht]; exact hP, hD⟩⟩, hS.F ht⟩) hS.2.2 dX6_goes_33
    · have u_18 := hq_11.2 c_12
      refine lv_iload hx hb dX6_goes_17 (lv_at hl 4 rfl) ?_
      refine lv_iconst (v := 0) hx hb dX6_goes_19 (by decide) ?_
      refine lv_iconst (v := 4) hx hb dX6_goes_20 (by decide) ?_
      refine tq_S (As := [.int x4, .int 0, .int 4]) (rest := []) (ws := []) ⟨hx, hb, hml, hown, htg⟩ (c_X6_within l D E G x4 (0 : Int32) (4 : Int32)) (va_cwS 3 htg (oh_gS q_293 q_294 q_66 q_295) rfl rfl rfl pdX6_within ⟨Nat.le_of_ble_eq_true rfl, Nat.le_of_ble_eq_true rfl⟩) hK va_nil hG hS rfl hl.1 rfl (Nat.le_of_ble_eq_true rfl) dX6_goes_21 ⟨Nat.le_of_ble_eq_true rfl, Nat.le_of_ble_eq_true rfl⟩ (fun r_19 hq_20 => ?_)
      refine lv_if_ne (tgt := 34) hx hb dX6_goes_24 (by decide) (fun (c_21 : ¬ (r_19 = 0)) => ?_) (fun (c_21 : r_19 = 0) => ?_)
      · have u_22 := hq_20.2.1 c_21
        refine lv_aload_n hx hb dX6_goes_34 rfl (lv_at hl 0 rfl) ?_
        refine va_get (D := D) (ci := 6) (v := .ref (a 3)) (C := RX6) (T := TX6) (N := 9) hx hb htg ig_6 hown hK hP 0 (oh_wg (by decide) (sX_0 hT)) rfl 3 (by decide) (htg _ q_261) (fun _ h9 => h9) rfl dX6_goes_35 ?_
        refine lv_iload_n hx hb dX6_goes_38 rfl (lv_at hl 1 rfl) ?_
        refine lv_iload_n hx hb dX6_goes_39 rfl (lv_at hl 2 rfl) ?_
        refine tm_Vv (As := [.int x1, .int x2]) (rest := []) ⟨hx, hb, hml, hown, htg⟩ (c_X5_survey l D E G _ a C hT x1 x2 (rg_w u_9 (by decide))) (cwV 2 htg (oh_gV q_750 q_751 q_752 q_68 q_753) rfl rfl rfl pdVX5_survey ⟨Nat.le_of_ble_eq_true rfl, Nat.le_of_ble_eq_true rfl⟩) hK hP hD hG hS hA (va_recv hK hP (ci := 5) (q0 := 3) rfl (oh_wg (by decide) (sX_3 hT))) rfl hl.1 rfl (Nat.le_of_ble_eq_true rfl) dX6_goes_40 ⟨Nat.le_of_ble_eq_true rfl, Nat.le_of_ble_eq_true rfl⟩ (fun C_24 H locs hq_25 hP hD hS => ?_)
        obtain ⟨hT, f_26, hq_25⟩ := hq_25
        have hF := fr_tr hF f_26 (by decide) (by decide)
        refine W.widen (k := 0) (n := 0) (Nat.le_refl _) (Nat.le_refl _) ?_
        have t_27 := hT
        refine lv_iload hx hb dX6_goes_43 (lv_at hl 4 rfl) ?_
        refine lv_if_ne (tgt := 67) hx hb dX6_goes_45 (by decide) (fun (c_28 : ¬ (x4 = 0)) => ?_) (fun (c_28 : x4 = 0) => ?_)
        · refine lv_iload hx hb dX6_goes_67 (lv_at hl 4 rfl) ?_
          refine lv_iconst (v := 3) hx hb dX6_goes_69 (by decide) ?_
          refine lv_icmp_ne (tgt := 82) hx hb dX6_goes_70 (by decide) (fun (c_29 : ¬ (x4 = 3)) => ?_) (fun (c_29 : x4 = 3) => ?_)
          · refine lv_aload_n hx hb dX6_goes_82 rfl (lv_at hl 0 rfl) ?_
            refine va_get (D := D) (ci := 6) (v := .ref (a 3)) (C := RX6) (T := TX6) (N := 9) hx hb htg ig_6 hown hK hP 0 (oh_wg (by decide) (sX_0 hT)) rfl 3 (by decide) (htg _ q_261) (fun _ h9 => h9) rfl dX6_goes_83 ?_
            refine va_get (D := D) (ci := 5) (v := .ref (a 24)) (C := RX5) (T := TX5) (N := 7) hx hb htg ig_5 hown hK hP 3 (oh_wg (by decide) (sX_3 hT)) rfl 2 (by decide) (htg _ q_171) (fun _ h9 => h9) rfl dX6_goes_86 ?_
            refine lv_iload_n hx hb dX6_goes_89 rfl (lv_at hl 3 rfl) ?_
            have n_30 : vp_in x3 24 := (rg_in u_18 (by decide))
            refine th_iald hx hb hK hP 24 (by decide) (sX_24 hT) n_30 dX6_goes_90 ?_
            refine lv_iconst (v := (-1)) hx hb dX6_goes_91 (by decide) ?_
            refine lv_icmp_ne (tgt := 102) hx hb dX6_goes_92 (by decide) (fun (c_31 : ¬ ((ga (C_24 24) (x3).toNatClampNeg) = (-1))) => ?_) (fun (c_31 : (ga (C_24 24) (x3).toNatClampNeg) = (-1)) => ?_)
            · refine lv_iload hx hb dX6_goes_102 (lv_at hl 4 rfl) ?_
              refine lv_iconst (v := 1) hx hb dX6_goes_104 (by decide) ?_
              refine lv_icmp_ne (tgt := 118) hx hb dX6_goes_105 (by decide) (fun (c_32 : ¬ (x4 = 1)) => ?_) (fun (c_32 : x4 = 1) => ?_)
              · refine lv_iload hx hb dX6_goes_118 (lv_at hl 4 rfl) ?_
                refine lv_iconst (v := 2) hx hb dX6_goes_120 (by decide) ?_
                refine lv_icmp_ne (tgt := 135) hx hb dX6_goes_121 (by decide) (fun (c_33 : ¬ (x4 = 2)) => ?_) (fun (c_33 : x4 = 2) => ?_)
                · refine lv_aload_n hx hb dX6_goes_135 rfl (lv_at hl 0 rfl) ?_
                  refine va_get (D := D) (ci := 6) (v := .ref (a 3)) (C := RX6) (T := TX6) (N := 9) hx hb htg ig_6 hown hK hP 0 (oh_wg (by decide) (sX_0 hT)) rfl 3 (by decide) (htg _ q_261) (fun _ h9 => h9) rfl dX6_goes_136 ?_
                  refine va_get (D := D) (ci := 5) (v := .ref (a 24)) (C := RX5) (T := TX5) (N := 7) hx hb htg ig_5 hown hK hP 3 (oh_wg (by decide) (sX_3 hT)) rfl 2 (by decide) (htg _ q_171) (fun _ h9 => h9) rfl dX6_goes_139 ?_
                  refine lv_iload_n hx hb dX6_goes_142 rfl (lv_at hl 3 rfl) ?_
                  have n_34 : vp_in x3 24 := (rg_in u_18 (by decide))
                  refine th_iald hx hb hK hP 24 (by decide) (sX_24 hT) n_34 dX6_goes_143 ?_
                  rw [hQ]
                  exact W.iret (v := ga (C_24 24) (x3).toNatClampNeg) hx hb hr (fun t ht hW => ⟨⟨ga (C_24 24) (x3).toNatClampNeg, C_24, rfl, ⟨hT, hF, trivial⟩, ⟨by rw [ht]; exact hP, hD⟩⟩, hS.F ht⟩) hS.2.2 dX6_goes_144
                · refine lv_aload_n hx hb dX6_goes_124 rfl (lv_at hl 0 rfl) ?_
                  refine va_get (D := D) (ci := 6) (v := .ref (a 3)) (C := RX6) (T := TX6) (N := 9) hx hb htg ig_6 hown hK hP 0 (oh_wg (by decide) (sX_0 hT)) rfl 3 (by decide) (htg _ q_261) (fun _ h9 => h9) rfl dX6_goes_125 ?_
                  refine lv_iload_n hx hb dX6_goes_128 rfl (lv_at hl 3 rfl) ?_
                  refine tq_V (As := [.int x3]) (rest := []) (ws := (oh_W 35 a C_24)) ⟨hx, hb, hml, hown, htg⟩ (c_X5_daysOf l D E G a C_24 hT x3 (rg_w u_18 (by decide))) (cwV 1 htg (oh_gV q_767 q_768 q_769 q_68 q_770) rfl rfl rfl pdVX5_daysOf ⟨Nat.le_of_ble_eq_true rfl, Nat.le_of_ble_eq_true rfl⟩) hK hP hG hS (va_recv hK hP (ci := 5) (q0 := 3) rfl (oh_wg (by decide) (sX_3 hT))) rfl hl.1 rfl (Nat.le_of_ble_eq_true rfl) dX6_goes_129 ⟨Nat.le_of_ble_eq_true rfl, Nat.le_of_ble_eq_true rfl⟩ (fun r_35 hq_36 => ?_)
                  refine lv_goto (tgt := 144) hx hb dX6_goes_132 (by decide) ?_
                  rw [hQ]
                  exact W.iret (v := r_35) hx hb hr (fun t ht hW => ⟨⟨r_35, C_24, rfl, ⟨hT, hF, trivial⟩, ⟨by rw [ht]; exact hP, hD⟩⟩, hS.F ht⟩) hS.2.2 dX6_goes_144
              · refine lv_aload_n hx hb dX6_goes_108 rfl (lv_at hl 0 rfl) ?_
                refine va_get (D := D) (ci := 6) (v := .ref (a 3)) (C := RX6) (T := TX6) (N := 9) hx hb htg ig_6 hown hK hP 0 (oh_wg (by decide) (sX_0 hT)) rfl 3 (by decide) (htg _ q_261) (fun _ h9 => h9) rfl dX6_goes_109 ?_
                refine lv_iload_n hx hb dX6_goes_112 rfl (lv_at hl 3 rfl) ?_
                refine lv_iconst (v := 1) hx hb dX6_goes_113 (by decide) ?_
                refine tq_V (As := [.int x3, .int 1]) (rest := []) (ws := (oh_W 35 a C_24)) ⟨hx, hb, hml, hown, htg⟩ (c_X5_coinOf l D E G a C_24 hT x3 (1 : Int32) (rg_w u_18 (by decide))) (cwV 2 htg (oh_gV q_762 q_763 q_764 q_68 q_765) rfl rfl rfl pdVX5_coinOf ⟨Nat.le_of_ble_eq_true rfl, Nat.le_of_ble_eq_true rfl⟩) hK hP hG hS (va_recv hK hP (ci := 5) (q0 := 3) rfl (oh_wg (by decide) (sX_3 hT))) rfl hl.1 rfl (Nat.le_of_ble_eq_true rfl) dX6_goes_114 ⟨Nat.le_of_ble_eq_true rfl, Nat.le_of_ble_eq_true rfl⟩ (fun r_37 hq_38 => ?_)
                rw [hQ]
                exact W.iret (v := r_37) hx hb hr (fun t ht hW => ⟨⟨r_37, C_24, rfl, ⟨hT, hF, trivial⟩, ⟨by rw [ht]; exact hP, hD⟩⟩, hS.F ht⟩) hS.2.2 dX6_goes_117
            · refine lv_aload_n hx hb dX6_goes_95 rfl (lv_at hl 0 rfl) ?_
              refine lv_bipush (v := (-5)) hx hb dX6_goes_96 (by decide) ?_
              refine tm_V (As := [.int (-5)]) (rest := []) ⟨hx, hb, hml, hown, htg⟩ (c_X6_refuse l D E G _ a C_24 hT ((-5) : Int32)) (cwV 1 htg (oh_gV q_296 q_298 q_0 q_66 q_299) rfl rfl rfl pdVX6_refuse ⟨Nat.le_of_ble_eq_true rfl, Nat.le_of_ble_eq_true rfl⟩) hK hP hD hG hS hA (va_recv hK hP (ci := 6) (q0 := 0) rfl (oh_wg (by decide) (sX_0 hT))) rfl hl.1 rfl (Nat.le_of_ble_eq_true rfl) dX6_goes_98 ⟨Nat.le_of_ble_eq_true rfl, Nat.le_of_ble_eq_true rfl⟩ (fun r_39 C_40 H locs hq_41 hP hD hS => ?_)
              obtain ⟨hT, f_42, hq_41⟩ := hq_41
              have hF := fr_tr hF f_42 (by decide) (by decide)
              refine W.widen (k := 0) (n := 0) (Nat.le_refl _) (Nat.le_refl _) ?_
              have t_43 := hT
              rw [hQ]
              exact W.iret (v := r_39) hx hb hr (fun t ht hW => ⟨⟨r_39, C_40, rfl, ⟨hT, hF, trivial⟩, ⟨by rw [ht]; exact hP, hD⟩⟩, hS.F ht⟩) hS.2.2 dX6_goes_101
          · refine lv_aload_n hx hb dX6_goes_73 rfl (lv_at hl 0 rfl) ?_
            refine va_get (D := D) (ci := 6) (v := .ref (a 3)) (C := RX6) (T := TX6) (N := 9) hx hb htg ig_6 hown hK hP 0 (oh_wg (by decide) (sX_0 hT)) rfl 3 (by decide) (htg _ q_261) (fun _ h9 => h9) rfl dX6_goes_74 ?_
            refine lv_iload_n hx hb dX6_goes_77 rfl (lv_at hl 3 rfl) ?_
            refine tq_V (As := [.int x3]) (rest := []) (ws := (oh_W 35 a C_24)) ⟨hx, hb, hml, hown, htg⟩ (c_X5_engines l D E G a C_24 hT x3 (rg_w u_18 (by decide))) (cwV 1 htg (oh_gV q_758 q_759 q_760 q_68 q_761) rfl rfl rfl pdVX5_engines ⟨Nat.le_of_ble_eq_true rfl, Nat.le_of_ble_eq_true rfl⟩) hK hP hG hS (va_recv hK hP (ci := 5) (q0 := 3) rfl (oh_wg (by decide) (sX_3 hT))) rfl hl.1 rfl (Nat.le_of_ble_eq_true rfl) dX6_goes_78 ⟨Nat.le_of_ble_eq_true rfl, Nat.le_of_ble_eq_true rfl⟩ (fun r_44 hq_45 => ?_)
            rw [hQ]
            exact W.iret (v := r_44) hx hb hr (fun t ht hW => ⟨⟨r_44, C_24, rfl, ⟨hT, hF, trivial⟩, ⟨by rw [ht]; exact hP, hD⟩⟩, hS.F ht⟩) hS.2.2 dX6_goes_81
        · refine lv_aload_n hx hb dX6_goes_48 rfl (lv_at hl 0 rfl) ?_
          refine va_get (D := D) (ci := 6) (v := .ref (a 3)) (C := RX6) (T := TX6) (N := 9) hx hb htg ig_6 hown hK hP 0 (oh_wg (by decide) (sX_0 hT)) rfl 3 (by decide) (htg _ q_261) (fun _ h9 => h9) rfl dX6_goes_49 ?_
          refine va_get (D := D) (ci := 5) (v := .ref (a 24)) (C := RX5) (T := TX5) (N := 7) hx hb htg ig_5 hown hK hP 3 (oh_wg (by decide) (sX_3 hT)) rfl 2 (by decide) (htg _ q_171) (fun _ h9 => h9) rfl dX6_goes_52 ?_
          refine lv_iload_n hx hb dX6_goes_55 rfl (lv_at hl 3 rfl) ?_
          have n_46 : vp_in x3 24 := (rg_in u_18 (by decide))
          refine th_iald hx hb hK hP 24 (by decide) (sX_24 hT) n_46 dX6_goes_56 ?_
          refine lv_iconst (v := (-1)) hx hb dX6_goes_57 (by decide) ?_
          refine lv_icmp_ne (tgt := 65) hx hb dX6_goes_58 (by decide) (fun (c_47 : ¬ ((ga (C_24 24) (x3).toNatClampNeg) = (-1))) => ?_) (fun (c_47 : (ga (C_24 24) (x3).toNatClampNeg) = (-1)) => ?_)
          · refine lv_iconst (v := 1) hx hb dX6_goes_65 (by decide) ?_
            rw [hQ]
            exact W.iret (v := 1) hx hb hr (fun t ht hW => ⟨⟨1, C_24, rfl, ⟨hT, hF, trivial⟩, ⟨by rw [ht]; exact hP, hD⟩⟩, hS.F ht⟩) hS.2.2 dX6_goes_66
          · refine lv_iconst (v := 0) hx hb dX6_goes_61 (by decide) ?_
            refine lv_goto (tgt := 66) hx hb dX6_goes_62 (by decide) ?_
            rw [hQ]
            exact W.iret (v := 0) hx hb hr (fun t ht hW => ⟨⟨0, C_24, rfl, ⟨hT, hF, trivial⟩, ⟨by rw [ht]; exact hP, hD⟩⟩, hS.F ht⟩) hS.2.2 dX6_goes_66
      · have u_48 := hq_20.2.2 c_21
        refine lv_aload_n hx hb dX6_goes_27 rfl (lv_at hl 0 rfl) ?_
        refine lv_bipush (v := (-2)) hx hb dX6_goes_28 (by decide) ?_
        refine tm_V (As := [.int (-2)]) (rest := []) ⟨hx, hb, hml, hown, htg⟩ (c_X6_refuse l D E G _ a C hT ((-2) : Int32)) (cwV 1 htg (oh_gV q_296 q_298 q_0 q_66 q_299) rfl rfl rfl pdVX6_refuse ⟨Nat.le_of_ble_eq_true rfl, Nat.le_of_ble_eq_true rfl⟩) hK hP hD hG hS hA (va_recv hK hP (ci := 6) (q0 := 0) rfl (oh_wg (by decide) (sX_0 hT))) rfl hl.1 rfl (Nat.le_of_ble_eq_true rfl) dX6_goes_30 ⟨Nat.le_of_ble_eq_true rfl, Nat.le_of_ble_eq_true rfl⟩ (fun r_49 C_50 H locs hq_51 hP hD hS => ?_)
        obtain ⟨hT, f_52, hq_51⟩ := hq_51
        have hF := fr_tr hF f_52 (by decide) (by decide)
        refine W.widen (k := 0) (n := 0) (Nat.le_refl _) (Nat.le_refl _) ?_
        have t_53 := hT
        rw [hQ]
        exact W.iret (v := r_49) hx hb hr (fun t ht hW => ⟨⟨r_49, C_50, rfl, ⟨hT, hF, trivial⟩, ⟨by rw [ht]; exact hP, hD⟩⟩, hS.F ht⟩) hS.2.2 dX6_goes_33
theorem bg_dX0_become_0 : bysAt cX0_become 0 [43, 180, 0, 13, 3, 42, 180, 0, 13, 3, 42, 180, 0, 13, 190, 184, 0, 40, 43, 180, 0, 18, 3, 42] := bysAt_of (by decide +kernel)
theorem dX0_become_0 : decode cX0_become 0 = .ok (.aload_n 1, 1) := o_43 (bg_dX0_become_0 0 43 rfl)
theorem dX0_become_1 : decode cX0_become 1 = .ok (.getfield 13, 3) := o_180 (bg_dX0_become_0 1 180 rfl) (bg_dX0_become_0 2 0 rfl) (bg_dX0_become_0 3 13 rfl)
theorem dX0_become_4 : decode cX0_become 4 = .ok (.iconst 0, 1) := o_3 (bg_dX0_become_0 4 3 rfl)
theorem dX0_become_5 : decode cX0_become 5 = .ok (.aload_n 0, 1) := o_42 (bg_dX0_become_0 5 42 rfl)
theorem dX0_become_6 : decode cX0_become 6 = .ok (.getfield 13, 3) := o_180 (bg_dX0_become_0 6 180 rfl) (bg_dX0_become_0 7 0 rfl) (bg_dX0_become_0 8 13 rfl)
theorem dX0_become_9 : decode cX0_become 9 = .ok (.iconst 0, 1) := o_3 (bg_dX0_become_0 9 3 rfl)
theorem dX0_become_10 : decode cX0_become 10 = .ok (.aload_n 0, 1) := o_42 (bg_dX0_become_0 10 42 rfl)
theorem dX0_become_11 : decode cX0_become 11 = .ok (.getfield 13, 3) := o_180 (bg_dX0_become_0 11 180 rfl) (bg_dX0_become_0 12 0 rfl) (bg_dX0_become_0 13 13 rfl)
theorem dX0_become_14 : decode cX0_become 14 = .ok (.arraylength, 1) := o_190 (bg_dX0_become_0 14 190 rfl)
theorem dX0_become_15 : decode cX0_become 15 = .ok (.invokestatic 40, 3) := o_184 (bg_dX0_become_0 15 184 rfl) (bg_dX0_become_0 16 0 rfl) (bg_dX0_become_0 17 40 rfl)
theorem dX0_become_18 : decode cX0_become 18 = .ok (.aload_n 1, 1) := o_43 (bg_dX0_become_0 18 43 rfl)
theorem dX0_become_19 : decode cX0_become 19 = .ok (.getfield 18, 3) := o_180 (bg_dX0_become_0 19 180 rfl) (bg_dX0_become_0 20 0 rfl) (bg_dX0_become_0 21 18 rfl)
theorem dX0_become_22 : decode cX0_become 22 = .ok (.iconst 0, 1) := o_3 (bg_dX0_become_0 22 3 rfl)
theorem dX0_become_23 : decode cX0_become 23 = .ok (.aload_n 0, 1) := o_42 (bg_dX0_become_0 23 42 rfl)
theorem bg_dX0_become_24 : bysAt cX0_become 24 [180, 0, 18, 3, 42, 180, 0, 18, 190, 184, 0, 40, 43, 180, 0, 21, 3, 42, 180, 0, 21, 3, 42, 180, 0, 21] := bysAt_of (by decide +kernel)
theorem dX0_become_24 : decode cX0_become 24 = .ok (.getfield 18, 3) := o_180 (bg_dX0_become_24 0 180 rfl) (bg_dX0_become_24 1 0 rfl) (bg_dX0_become_24 2 18 rfl)
theorem dX0_become_27 : decode cX0_become 27 = .ok (.iconst 0, 1) := o_3 (bg_dX0_become_24 3 3 rfl)
theorem dX0_become_28 : decode cX0_become 28 = .ok (.aload_n 0, 1) := o_42 (bg_dX0_become_24 4 42 rfl)
theorem dX0_become_29 : decode cX0_become 29 = .ok (.getfield 18, 3) := o_180 (bg_dX0_become_24 5 180 rfl) (bg_dX0_become_24 6 0 rfl) (bg_dX0_become_24 7 18 rfl)
theorem dX0_become_32 : decode cX0_become 32 = .ok (.arraylength, 1) := o_190 (bg_dX0_become_24 8 190 rfl)
theorem dX0_become_33 : decode cX0_become 33 = .ok (.invokestatic 40, 3) := o_184 (bg_dX0_become_24 9 184 rfl) (bg_dX0_become_24 10 0 rfl) (bg_dX0_become_24 11 40 rfl)
theorem dX0_become_36 : decode cX0_become 36 = .ok (.aload_n 1, 1) := o_43 (bg_dX0_become_24 12 43 rfl)
theorem dX0_become_37 : decode cX0_become 37 = .ok (.getfield 21, 3) := o_180 (bg_dX0_become_24 13 180 rfl) (bg_dX0_become_24 14 0 rfl) (bg_dX0_become_24 15 21 rfl)
theorem dX0_become_40 : decode cX0_become 40 = .ok (.iconst 0, 1) := o_3 (bg_dX0_become_24 16 3 rfl)
theorem dX0_become_41 : decode cX0_become 41 = .ok (.aload_n 0, 1) := o_42 (bg_dX0_become_24 17 42 rfl)
theorem dX0_become_42 : decode cX0_become 42 = .ok (.getfield 21, 3) := o_180 (bg_dX0_become_24 18 180 rfl) (bg_dX0_become_24 19 0 rfl) (bg_dX0_become_24 20 21 rfl)
theorem dX0_become_45 : decode cX0_become 45 = .ok (.iconst 0, 1) := o_3 (bg_dX0_become_24 21 3 rfl)
theorem dX0_become_46 : decode cX0_become 46 = .ok (.aload_n 0, 1) := o_42 (bg_dX0_become_24 22 42 rfl)
theorem dX0_become_47 : decode cX0_become 47 = .ok (.getfield 21, 3) := o_180 (bg_dX0_become_24 23 180 rfl) (bg_dX0_become_24 24 0 rfl) (bg_dX0_become_24 25 21 rfl)
theorem bg_dX0_become_50 : bysAt cX0_become 50 [190, 184, 0, 40, 43, 180, 0, 24, 3, 42, 180, 0, 24, 3, 42, 180, 0, 24, 190, 184, 0, 40, 43, 180, 0, 27] := bysAt_of (by decide +kernel)
theorem dX0_become_50 : decode cX0_become 50 = .ok (.arraylength, 1) := o_190 (bg_dX0_become_50 0 190 rfl)
theorem dX0_become_51 : decode cX0_become 51 = .ok (.invokestatic 40, 3) := o_184 (bg_dX0_become_50 1 184 rfl) (bg_dX0_become_50 2 0 rfl) (bg_dX0_become_50 3 40 rfl)
theorem dX0_become_54 : decode cX0_become 54 = .ok (.aload_n 1, 1) := o_43 (bg_dX0_become_50 4 43 rfl)
theorem dX0_become_55 : decode cX0_become 55 = .ok (.getfield 24, 3) := o_180 (bg_dX0_become_50 5 180 rfl) (bg_dX0_become_50 6 0 rfl) (bg_dX0_become_50 7 24 rfl)
theorem dX0_become_58 : decode cX0_become 58 = .ok (.iconst 0, 1) := o_3 (bg_dX0_become_50 8 3 rfl)
theorem dX0_become_59 : decode cX0_become 59 = .ok (.aload_n 0, 1) := o_42 (bg_dX0_become_50 9 42 rfl)
theorem dX0_become_60 : decode cX0_become 60 = .ok (.getfield 24, 3) := o_180 (bg_dX0_become_50 10 180 rfl) (bg_dX0_become_50 11 0 rfl) (bg_dX0_become_50 12 24 rfl)
theorem dX0_become_63 : decode cX0_become 63 = .ok (.iconst 0, 1) := o_3 (bg_dX0_become_50 13 3 rfl)
theorem dX0_become_64 : decode cX0_become 64 = .ok (.aload_n 0, 1) := o_42 (bg_dX0_become_50 14 42 rfl)
theorem dX0_become_65 : decode cX0_become 65 = .ok (.getfield 24, 3) := o_180 (bg_dX0_become_50 15 180 rfl) (bg_dX0_become_50 16 0 rfl) (bg_dX0_become_50 17 24 rfl)
theorem dX0_become_68 : decode cX0_become 68 = .ok (.arraylength, 1) := o_190 (bg_dX0_become_50 18 190 rfl)
theorem dX0_become_69 : decode cX0_become 69 = .ok (.invokestatic 40, 3) := o_184 (bg_dX0_become_50 19 184 rfl) (bg_dX0_become_50 20 0 rfl) (bg_dX0_become_50 21 40 rfl)
theorem dX0_become_72 : decode cX0_become 72 = .ok (.aload_n 1, 1) := o_43 (bg_dX0_become_50 22 43 rfl)
theorem dX0_become_73 : decode cX0_become 73 = .ok (.getfield 27, 3) := o_180 (bg_dX0_become_50 23 180 rfl) (bg_dX0_become_50 24 0 rfl) (bg_dX0_become_50 25 27 rfl)
theorem bg_dX0_become_76 : bysAt cX0_become 76 [3, 42, 180, 0, 27, 3, 42, 180, 0, 27, 190, 184, 0, 40, 43, 180, 0, 30, 3, 42, 180, 0, 30, 3] := bysAt_of (by decide +kernel)
theorem dX0_become_76 : decode cX0_become 76 = .ok (.iconst 0, 1) := o_3 (bg_dX0_become_76 0 3 rfl)
theorem dX0_become_77 : decode cX0_become 77 = .ok (.aload_n 0, 1) := o_42 (bg_dX0_become_76 1 42 rfl)
theorem dX0_become_78 : decode cX0_become 78 = .ok (.getfield 27, 3) := o_180 (bg_dX0_become_76 2 180 rfl) (bg_dX0_become_76 3 0 rfl) (bg_dX0_become_76 4 27 rfl)
theorem dX0_become_81 : decode cX0_become 81 = .ok (.iconst 0, 1) := o_3 (bg_dX0_become_76 5 3 rfl)
theorem dX0_become_82 : decode cX0_become 82 = .ok (.aload_n 0, 1) := o_42 (bg_dX0_become_76 6 42 rfl)
theorem dX0_become_83 : decode cX0_become 83 = .ok (.getfield 27, 3) := o_180 (bg_dX0_become_76 7 180 rfl) (bg_dX0_become_76 8 0 rfl) (bg_dX0_become_76 9 27 rfl)
theorem dX0_become_86 : decode cX0_become 86 = .ok (.arraylength, 1) := o_190 (bg_dX0_become_76 10 190 rfl)
theorem dX0_become_87 : decode cX0_become 87 = .ok (.invokestatic 40, 3) := o_184 (bg_dX0_become_76 11 184 rfl) (bg_dX0_become_76 12 0 rfl) (bg_dX0_become_76 13 40 rfl)
theorem dX0_become_90 : decode cX0_become 90 = .ok (.aload_n 1, 1) := o_43 (bg_dX0_become_76 14 43 rfl)
theorem dX0_become_91 : decode cX0_become 91 = .ok (.getfield 30, 3) := o_180 (bg_dX0_become_76 15 180 rfl) (bg_dX0_become_76 16 0 rfl) (bg_dX0_become_76 17 30 rfl)
theorem dX0_become_94 : decode cX0_become 94 = .ok (.iconst 0, 1) := o_3 (bg_dX0_become_76 18 3 rfl)
theorem dX0_become_95 : decode cX0_become 95 = .ok (.aload_n 0, 1) := o_42 (bg_dX0_become_76 19 42 rfl)
theorem dX0_become_96 : decode cX0_become 96 = .ok (.getfield 30, 3) := o_180 (bg_dX0_become_76 20 180 rfl) (bg_dX0_become_76 21 0 rfl) (bg_dX0_become_76 22 30 rfl)
theorem dX0_become_99 : decode cX0_become 99 = .ok (.iconst 0, 1) := o_3 (bg_dX0_become_76 23 3 rfl)
theorem bg_dX0_become_100 : bysAt cX0_become 100 [42, 180, 0, 30, 190, 184, 0, 40, 43, 180, 0, 33, 3, 42, 180, 0, 33, 3, 42, 180, 0, 33, 190, 184, 0, 40] := bysAt_of (by decide +kernel)
theorem dX0_become_100 : decode cX0_become 100 = .ok (.aload_n 0, 1) := o_42 (bg_dX0_become_100 0 42 rfl)
theorem dX0_become_101 : decode cX0_become 101 = .ok (.getfield 30, 3) := o_180 (bg_dX0_become_100 1 180 rfl) (bg_dX0_become_100 2 0 rfl) (bg_dX0_become_100 3 30 rfl)
theorem dX0_become_104 : decode cX0_become 104 = .ok (.arraylength, 1) := o_190 (bg_dX0_become_100 4 190 rfl)
theorem dX0_become_105 : decode cX0_become 105 = .ok (.invokestatic 40, 3) := o_184 (bg_dX0_become_100 5 184 rfl) (bg_dX0_become_100 6 0 rfl) (bg_dX0_become_100 7 40 rfl)
theorem dX0_become_108 : decode cX0_become 108 = .ok (.aload_n 1, 1) := o_43 (bg_dX0_become_100 8 43 rfl)
theorem dX0_become_109 : decode cX0_become 109 = .ok (.getfield 33, 3) := o_180 (bg_dX0_become_100 9 180 rfl) (bg_dX0_become_100 10 0 rfl) (bg_dX0_become_100 11 33 rfl)
theorem dX0_become_112 : decode cX0_become 112 = .ok (.iconst 0, 1) := o_3 (bg_dX0_become_100 12 3 rfl)
theorem dX0_become_113 : decode cX0_become 113 = .ok (.aload_n 0, 1) := o_42 (bg_dX0_become_100 13 42 rfl)
theorem dX0_become_114 : decode cX0_become 114 = .ok (.getfield 33, 3) := o_180 (bg_dX0_become_100 14 180 rfl) (bg_dX0_become_100 15 0 rfl) (bg_dX0_become_100 16 33 rfl)
theorem dX0_become_117 : decode cX0_become 117 = .ok (.iconst 0, 1) := o_3 (bg_dX0_become_100 17 3 rfl)
theorem dX0_become_118 : decode cX0_become 118 = .ok (.aload_n 0, 1) := o_42 (bg_dX0_become_100 18 42 rfl)
theorem dX0_become_119 : decode cX0_become 119 = .ok (.getfield 33, 3) := o_180 (bg_dX0_become_100 19 180 rfl) (bg_dX0_become_100 20 0 rfl) (bg_dX0_become_100 21 33 rfl)
theorem dX0_become_122 : decode cX0_become 122 = .ok (.arraylength, 1) := o_190 (bg_dX0_become_100 22 190 rfl)
theorem dX0_become_123 : decode cX0_become 123 = .ok (.invokestatic 40, 3) := o_184 (bg_dX0_become_100 23 184 rfl) (bg_dX0_become_100 24 0 rfl) (bg_dX0_become_100 25 40 rfl)
theorem bg_dX0_become_126 : bysAt cX0_become 126 [42, 43, 180, 0, 36, 181, 0, 36, 177] := bysAt_of (by decide +kernel)
theorem dX0_become_126 : decode cX0_become 126 = .ok (.aload_n 0, 1) := o_42 (bg_dX0_become_126 0 42 rfl)
theorem dX0_become_127 : decode cX0_become 127 = .ok (.aload_n 1, 1) := o_43 (bg_dX0_become_126 1 43 rfl)
theorem dX0_become_128 : decode cX0_become 128 = .ok (.getfield 36, 3) := o_180 (bg_dX0_become_126 2 180 rfl) (bg_dX0_become_126 3 0 rfl) (bg_dX0_become_126 4 36 rfl)
theorem dX0_become_131 : decode cX0_become 131 = .ok (.putfield 36, 3) := o_181 (bg_dX0_become_126 5 181 rfl) (bg_dX0_become_126 6 0 rfl) (bg_dX0_become_126 7 36 rfl)
theorem dX0_become_134 : decode cX0_become 134 = .ok (.return_, 1) := o_177 (bg_dX0_become_126 8 177 rfl)
theorem bg_dX6_again_0 : bysAt cX6_again 0 [42, 27, 28, 29, 21, 4, 182, 0, 238, 153, 0, 14, 21, 5, 4, 16, 20, 184, 0, 66, 154, 0, 10, 42, 16, 254] := bysAt_of (by decide +kernel)
theorem dX6_again_0 : decode cX6_again 0 = .ok (.aload_n 0, 1) := o_42 (bg_dX6_again_0 0 42 rfl)
theorem dX6_again_1 : decode cX6_again 1 = .ok (.iload_n 1, 1) := o_27 (bg_dX6_again_0 1 27 rfl)
theorem dX6_again_2 : decode cX6_again 2 = .ok (.iload_n 2, 1) := o_28 (bg_dX6_again_0 2 28 rfl)
theorem dX6_again_3 : decode cX6_again 3 = .ok (.iload_n 3, 1) := o_29 (bg_dX6_again_0 3 29 rfl)
theorem dX6_again_4 : decode cX6_again 4 = .ok (.iload 4, 2) := o_21 (bg_dX6_again_0 4 21 rfl) (bg_dX6_again_0 5 4 rfl)
theorem dX6_again_6 : decode cX6_again 6 = .ok (.invokevirtual 238, 3) := o_182 (bg_dX6_again_0 6 182 rfl) (bg_dX6_again_0 7 0 rfl) (bg_dX6_again_0 8 238 rfl)
theorem dX6_again_9 : decode cX6_again 9 = .ok (.ifCond .eq 14, 3) := o_153 (bg_dX6_again_0 9 153 rfl) (bg_dX6_again_0 10 0 rfl) (bg_dX6_again_0 11 14 rfl) (by decide +kernel)
theorem dX6_again_12 : decode cX6_again 12 = .ok (.iload 5, 2) := o_21 (bg_dX6_again_0 12 21 rfl) (bg_dX6_again_0 13 5 rfl)
theorem dX6_again_14 : decode cX6_again 14 = .ok (.iconst 1, 1) := o_4 (bg_dX6_again_0 14 4 rfl)
theorem dX6_again_15 : decode cX6_again 15 = .ok (.bipush 20, 2) := o_16 (bg_dX6_again_0 15 16 rfl) (bg_dX6_again_0 16 20 rfl) (by decide +kernel)
theorem dX6_again_17 : decode cX6_again 17 = .ok (.invokestatic 66, 3) := o_184 (bg_dX6_again_0 17 184 rfl) (bg_dX6_again_0 18 0 rfl) (bg_dX6_again_0 19 66 rfl)
theorem dX6_again_20 : decode cX6_again 20 = .ok (.ifCond .ne 10, 3) := o_154 (bg_dX6_again_0 20 154 rfl) (bg_dX6_again_0 21 0 rfl) (bg_dX6_again_0 22 10 rfl) (by decide +kernel)
theorem dX6_again_23 : decode cX6_again 23 = .ok (.aload_n 0, 1) := o_42 (bg_dX6_again_0 23 42 rfl)
theorem dX6_again_24 : decode cX6_again 24 = .ok (.bipush (-2), 2) := o_16 (bg_dX6_again_0 24 16 rfl) (bg_dX6_again_0 25 254 rfl) (by decide +kernel)
theorem bg_dX6_again_26 : bysAt cX6_again 26 [182, 0, 70, 172, 42, 42, 180, 0, 28, 27, 28, 29, 21, 4, 21, 5, 182, 0, 242, 182, 0, 245, 172] := bysAt_of (by decide +kernel)
theorem dX6_again_26 : decode cX6_again 26 = .ok (.invokevirtual 70, 3) := o_182 (bg_dX6_again_26 0 182 rfl) (bg_dX6_again_26 1 0 rfl) (bg_dX6_again_26 2 70 rfl)
theorem dX6_again_29 : decode cX6_again 29 = .ok (.ireturn, 1) := o_172 (bg_dX6_again_26 3 172 rfl)
theorem dX6_again_30 : decode cX6_again 30 = .ok (.aload_n 0, 1) := o_42 (bg_dX6_again_26 4 42 rfl)
theorem dX6_again_31 : decode cX6_again 31 = .ok (.aload_n 0, 1) := o_42 (bg_dX6_again_26 5 42 rfl)
theorem dX6_again_32 : decode cX6_again 32 = .ok (.getfield 28, 3) := o_180 (bg_dX6_again_26 6 180 rfl) (bg_dX6_again_26 7 0 rfl) (bg_dX6_again_26 8 28 rfl)
theorem dX6_again_35 : decode cX6_again 35 = .ok (.iload_n 1, 1) := o_27 (bg_dX6_again_26 9 27 rfl)
theorem dX6_again_36 : decode cX6_again 36 = .ok (.iload_n 2, 1) := o_28 (bg_dX6_again_26 10 28 rfl)
theorem dX6_again_37 : decode cX6_again 37 = .ok (.iload_n 3, 1) := o_29 (bg_dX6_again_26 11 29 rfl)
theorem dX6_again_38 : decode cX6_again 38 = .ok (.iload 4, 2) := o_21 (bg_dX6_again_26 12 21 rfl) (bg_dX6_again_26 13 4 rfl)
theorem dX6_again_40 : decode cX6_again 40 = .ok (.iload 5, 2) := o_21 (bg_dX6_again_26 14 21 rfl) (bg_dX6_again_26 15 5 rfl)
theorem dX6_again_42 : decode cX6_again 42 = .ok (.invokevirtual 242, 3) := o_182 (bg_dX6_again_26 16 182 rfl) (bg_dX6_again_26 17 0 rfl) (bg_dX6_again_26 18 242 rfl)
theorem dX6_again_45 : decode cX6_again 45 = .ok (.invokevirtual 245, 3) := o_182 (bg_dX6_again_26 19 182 rfl) (bg_dX6_again_26 20 0 rfl) (bg_dX6_again_26 21 245 rfl)
theorem dX6_again_48 : decode cX6_again 48 = .ok (.ireturn, 1) := o_172 (bg_dX6_again_26 22 172 rfl)
theorem bg_dX6_back_0 : bysAt cX6_back 0 [42, 180, 0, 19, 154, 0, 10, 42, 16, 251, 182, 0, 70, 172, 42, 180, 0, 10, 42, 180, 0, 16, 182, 1, 58, 42, 180, 0, 35] := bysAt_of (by decide +kernel)
theorem dX6_back_0 : decode cX6_back 0 = .ok (.aload_n 0, 1) := o_42 (bg_dX6_back_0 0 42 rfl)
theorem dX6_back_1 : decode cX6_back 1 = .ok (.getfield 19, 3) := o_180 (bg_dX6_back_0 1 180 rfl) (bg_dX6_back_0 2 0 rfl) (bg_dX6_back_0 3 19 rfl)
theorem dX6_back_4 : decode cX6_back 4 = .ok (.ifCond .ne 10, 3) := o_154 (bg_dX6_back_0 4 154 rfl) (bg_dX6_back_0 5 0 rfl) (bg_dX6_back_0 6 10 rfl) (by decide +kernel)
theorem dX6_back_7 : decode cX6_back 7 = .ok (.aload_n 0, 1) := o_42 (bg_dX6_back_0 7 42 rfl)
theorem dX6_back_8 : decode cX6_back 8 = .ok (.bipush (-5), 2) := o_16 (bg_dX6_back_0 8 16 rfl) (bg_dX6_back_0 9 251 rfl) (by decide +kernel)
theorem dX6_back_10 : decode cX6_back 10 = .ok (.invokevirtual 70, 3) := o_182 (bg_dX6_back_0 10 182 rfl) (bg_dX6_back_0 11 0 rfl) (bg_dX6_back_0 12 70 rfl)
theorem dX6_back_13 : decode cX6_back 13 = .ok (.ireturn, 1) := o_172 (bg_dX6_back_0 13 172 rfl)
theorem dX6_back_14 : decode cX6_back 14 = .ok (.aload_n 0, 1) := o_42 (bg_dX6_back_0 14 42 rfl)
theorem dX6_back_15 : decode cX6_back 15 = .ok (.getfield 10, 3) := o_180 (bg_dX6_back_0 15 180 rfl) (bg_dX6_back_0 16 0 rfl) (bg_dX6_back_0 17 10 rfl)
theorem dX6_back_18 : decode cX6_back 18 = .ok (.aload_n 0, 1) := o_42 (bg_dX6_back_0 18 42 rfl)
theorem dX6_back_19 : decode cX6_back 19 = .ok (.getfield 16, 3) := o_180 (bg_dX6_back_0 19 180 rfl) (bg_dX6_back_0 20 0 rfl) (bg_dX6_back_0 21 16 rfl)
theorem dX6_back_22 : decode cX6_back 22 = .ok (.invokevirtual 314, 3) := o_182 (bg_dX6_back_0 22 182 rfl) (bg_dX6_back_0 23 1 rfl) (bg_dX6_back_0 24 58 rfl)
theorem dX6_back_25 : decode cX6_back 25 = .ok (.aload_n 0, 1) := o_42 (bg_dX6_back_0 25 42 rfl)
theorem dX6_back_26 : decode cX6_back 26 = .ok (.getfield 35, 3) := o_180 (bg_dX6_back_0 26 180 rfl) (bg_dX6_back_0 27 0 rfl) (bg_dX6_back_0 28 35 rfl)
theorem bg_dX6_back_29 : bysAt cX6_back 29 [42, 180, 0, 10, 180, 1, 17, 4, 46, 182, 1, 61, 4, 172] := bysAt_of (by decide +kernel)
theorem dX6_back_29 : decode cX6_back 29 = .ok (.aload_n 0, 1) := o_42 (bg_dX6_back_29 0 42 rfl)
theorem dX6_back_30 : decode cX6_back 30 = .ok (.getfield 10, 3) := o_180 (bg_dX6_back_29 1 180 rfl) (bg_dX6_back_29 2 0 rfl) (bg_dX6_back_29 3 10 rfl)
theorem dX6_back_33 : decode cX6_back 33 = .ok (.getfield 273, 3) := o_180 (bg_dX6_back_29 4 180 rfl) (bg_dX6_back_29 5 1 rfl) (bg_dX6_back_29 6 17 rfl)
theorem dX6_back_36 : decode cX6_back 36 = .ok (.iconst 1, 1) := o_4 (bg_dX6_back_29 7 4 rfl)
theorem dX6_back_37 : decode cX6_back 37 = .ok (.iaload, 1) := o_46 (bg_dX6_back_29 8 46 rfl)
theorem dX6_back_38 : decode cX6_back 38 = .ok (.invokevirtual 317, 3) := o_182 (bg_dX6_back_29 9 182 rfl) (bg_dX6_back_29 10 1 rfl) (bg_dX6_back_29 11 61 rfl)
theorem dX6_back_41 : decode cX6_back 41 = .ok (.iconst 1, 1) := o_4 (bg_dX6_back_29 12 4 rfl)
theorem dX6_back_42 : decode cX6_back 42 = .ok (.ireturn, 1) := o_172 (bg_dX6_back_29 13 172 rfl)
theorem bg_dX6_begin_0 : bysAt cX6_begin 0 [42, 27, 28, 29, 21, 4, 182, 0, 238, 154, 0, 10, 42, 16, 254, 182, 0, 70, 172, 42, 180, 0, 28, 180, 0, 203] := bysAt_of (by decide +kernel)
theorem dX6_begin_0 : decode cX6_begin 0 = .ok (.aload_n 0, 1) := o_42 (bg_dX6_begin_0 0 42 rfl)
theorem dX6_begin_1 : decode cX6_begin 1 = .ok (.iload_n 1, 1) := o_27 (bg_dX6_begin_0 1 27 rfl)
theorem dX6_begin_2 : decode cX6_begin 2 = .ok (.iload_n 2, 1) := o_28 (bg_dX6_begin_0 2 28 rfl)
theorem dX6_begin_3 : decode cX6_begin 3 = .ok (.iload_n 3, 1) := o_29 (bg_dX6_begin_0 3 29 rfl)
theorem dX6_begin_4 : decode cX6_begin 4 = .ok (.iload 4, 2) := o_21 (bg_dX6_begin_0 4 21 rfl) (bg_dX6_begin_0 5 4 rfl)
theorem dX6_begin_6 : decode cX6_begin 6 = .ok (.invokevirtual 238, 3) := o_182 (bg_dX6_begin_0 6 182 rfl) (bg_dX6_begin_0 7 0 rfl) (bg_dX6_begin_0 8 238 rfl)
theorem dX6_begin_9 : decode cX6_begin 9 = .ok (.ifCond .ne 10, 3) := o_154 (bg_dX6_begin_0 9 154 rfl) (bg_dX6_begin_0 10 0 rfl) (bg_dX6_begin_0 11 10 rfl) (by decide +kernel)
theorem dX6_begin_12 : decode cX6_begin 12 = .ok (.aload_n 0, 1) := o_42 (bg_dX6_begin_0 12 42 rfl)
theorem dX6_begin_13 : decode cX6_begin 13 = .ok (.bipush (-2), 2) := o_16 (bg_dX6_begin_0 13 16 rfl) (bg_dX6_begin_0 14 254 rfl) (by decide +kernel)
theorem dX6_begin_15 : decode cX6_begin 15 = .ok (.invokevirtual 70, 3) := o_182 (bg_dX6_begin_0 15 182 rfl) (bg_dX6_begin_0 16 0 rfl) (bg_dX6_begin_0 17 70 rfl)
theorem dX6_begin_18 : decode cX6_begin 18 = .ok (.ireturn, 1) := o_172 (bg_dX6_begin_0 18 172 rfl)
theorem dX6_begin_19 : decode cX6_begin 19 = .ok (.aload_n 0, 1) := o_42 (bg_dX6_begin_0 19 42 rfl)
theorem dX6_begin_20 : decode cX6_begin 20 = .ok (.getfield 28, 3) := o_180 (bg_dX6_begin_0 20 180 rfl) (bg_dX6_begin_0 21 0 rfl) (bg_dX6_begin_0 22 28 rfl)
theorem dX6_begin_23 : decode cX6_begin 23 = .ok (.getfield 203, 3) := o_180 (bg_dX6_begin_0 23 180 rfl) (bg_dX6_begin_0 24 0 rfl) (bg_dX6_begin_0 25 203 rfl)
theorem bg_dX6_begin_26 : bysAt cX6_begin 26 [42, 180, 0, 10, 27, 28, 182, 0, 207, 42, 180, 0, 10, 27, 28, 29, 21, 4, 42, 180, 0, 28, 180, 0, 203] := bysAt_of (by decide +kernel)
theorem dX6_begin_26 : decode cX6_begin 26 = .ok (.aload_n 0, 1) := o_42 (bg_dX6_begin_26 0 42 rfl)
theorem dX6_begin_27 : decode cX6_begin 27 = .ok (.getfield 10, 3) := o_180 (bg_dX6_begin_26 1 180 rfl) (bg_dX6_begin_26 2 0 rfl) (bg_dX6_begin_26 3 10 rfl)
theorem dX6_begin_30 : decode cX6_begin 30 = .ok (.iload_n 1, 1) := o_27 (bg_dX6_begin_26 4 27 rfl)
theorem dX6_begin_31 : decode cX6_begin 31 = .ok (.iload_n 2, 1) := o_28 (bg_dX6_begin_26 5 28 rfl)
theorem dX6_begin_32 : decode cX6_begin 32 = .ok (.invokevirtual 207, 3) := o_182 (bg_dX6_begin_26 6 182 rfl) (bg_dX6_begin_26 7 0 rfl) (bg_dX6_begin_26 8 207 rfl)
theorem dX6_begin_35 : decode cX6_begin 35 = .ok (.aload_n 0, 1) := o_42 (bg_dX6_begin_26 9 42 rfl)
theorem dX6_begin_36 : decode cX6_begin 36 = .ok (.getfield 10, 3) := o_180 (bg_dX6_begin_26 10 180 rfl) (bg_dX6_begin_26 11 0 rfl) (bg_dX6_begin_26 12 10 rfl)
theorem dX6_begin_39 : decode cX6_begin 39 = .ok (.iload_n 1, 1) := o_27 (bg_dX6_begin_26 13 27 rfl)
theorem dX6_begin_40 : decode cX6_begin 40 = .ok (.iload_n 2, 1) := o_28 (bg_dX6_begin_26 14 28 rfl)
theorem dX6_begin_41 : decode cX6_begin 41 = .ok (.iload_n 3, 1) := o_29 (bg_dX6_begin_26 15 29 rfl)
theorem dX6_begin_42 : decode cX6_begin 42 = .ok (.iload 4, 2) := o_21 (bg_dX6_begin_26 16 21 rfl) (bg_dX6_begin_26 17 4 rfl)
theorem dX6_begin_44 : decode cX6_begin 44 = .ok (.aload_n 0, 1) := o_42 (bg_dX6_begin_26 18 42 rfl)
theorem dX6_begin_45 : decode cX6_begin 45 = .ok (.getfield 28, 3) := o_180 (bg_dX6_begin_26 19 180 rfl) (bg_dX6_begin_26 20 0 rfl) (bg_dX6_begin_26 21 28 rfl)
theorem dX6_begin_48 : decode cX6_begin 48 = .ok (.getfield 203, 3) := o_180 (bg_dX6_begin_26 22 180 rfl) (bg_dX6_begin_26 23 0 rfl) (bg_dX6_begin_26 24 203 rfl)
theorem bg_dX6_begin_51 : bysAt cX6_begin 51 [180, 1, 39, 182, 1, 42, 4, 172] := bysAt_of (by decide +kernel)
theorem dX6_begin_51 : decode cX6_begin 51 = .ok (.getfield 295, 3) := o_180 (bg_dX6_begin_51 0 180 rfl) (bg_dX6_begin_51 1 1 rfl) (bg_dX6_begin_51 2 39 rfl)
theorem dX6_begin_54 : decode cX6_begin 54 = .ok (.invokevirtual 298, 3) := o_182 (bg_dX6_begin_51 3 182 rfl) (bg_dX6_begin_51 4 1 rfl) (bg_dX6_begin_51 5 42 rfl)
theorem dX6_begin_57 : decode cX6_begin 57 = .ok (.iconst 1, 1) := o_4 (bg_dX6_begin_51 6 4 rfl)
theorem dX6_begin_58 : decode cX6_begin 58 = .ok (.ireturn, 1) := o_172 (bg_dX6_begin_51 7 172 rfl)
theorem bg_dX6_best_0 : bysAt cX6_best 0 [27, 184, 0, 126, 153, 0, 19, 28, 184, 0, 126, 153, 0, 12, 29, 3, 5, 184, 0, 66, 154, 0, 10, 42, 16, 254, 182, 0, 70] := bysAt_of (by decide +kernel)
theorem dX6_best_0 : decode cX6_best 0 = .ok (.iload_n 1, 1) := o_27 (bg_dX6_best_0 0 27 rfl)
theorem dX6_best_1 : decode cX6_best 1 = .ok (.invokestatic 126, 3) := o_184 (bg_dX6_best_0 1 184 rfl) (bg_dX6_best_0 2 0 rfl) (bg_dX6_best_0 3 126 rfl)
theorem dX6_best_4 : decode cX6_best 4 = .ok (.ifCond .eq 19, 3) := o_153 (bg_dX6_best_0 4 153 rfl) (bg_dX6_best_0 5 0 rfl) (bg_dX6_best_0 6 19 rfl) (by decide +kernel)
theorem dX6_best_7 : decode cX6_best 7 = .ok (.iload_n 2, 1) := o_28 (bg_dX6_best_0 7 28 rfl)
theorem dX6_best_8 : decode cX6_best 8 = .ok (.invokestatic 126, 3) := o_184 (bg_dX6_best_0 8 184 rfl) (bg_dX6_best_0 9 0 rfl) (bg_dX6_best_0 10 126 rfl)
theorem dX6_best_11 : decode cX6_best 11 = .ok (.ifCond .eq 12, 3) := o_153 (bg_dX6_best_0 11 153 rfl) (bg_dX6_best_0 12 0 rfl) (bg_dX6_best_0 13 12 rfl) (by decide +kernel)
theorem dX6_best_14 : decode cX6_best 14 = .ok (.iload_n 3, 1) := o_29 (bg_dX6_best_0 14 29 rfl)
theorem dX6_best_15 : decode cX6_best 15 = .ok (.iconst 0, 1) := o_3 (bg_dX6_best_0 15 3 rfl)
theorem dX6_best_16 : decode cX6_best 16 = .ok (.iconst 2, 1) := o_5 (bg_dX6_best_0 16 5 rfl)
theorem dX6_best_17 : decode cX6_best 17 = .ok (.invokestatic 66, 3) := o_184 (bg_dX6_best_0 17 184 rfl) (bg_dX6_best_0 18 0 rfl) (bg_dX6_best_0 19 66 rfl)
theorem dX6_best_20 : decode cX6_best 20 = .ok (.ifCond .ne 10, 3) := o_154 (bg_dX6_best_0 20 154 rfl) (bg_dX6_best_0 21 0 rfl) (bg_dX6_best_0 22 10 rfl) (by decide +kernel)
theorem dX6_best_23 : decode cX6_best 23 = .ok (.aload_n 0, 1) := o_42 (bg_dX6_best_0 23 42 rfl)
theorem dX6_best_24 : decode cX6_best 24 = .ok (.bipush (-2), 2) := o_16 (bg_dX6_best_0 24 16 rfl) (bg_dX6_best_0 25 254 rfl) (by decide +kernel)
theorem dX6_best_26 : decode cX6_best 26 = .ok (.invokevirtual 70, 3) := o_182 (bg_dX6_best_0 26 182 rfl) (bg_dX6_best_0 27 0 rfl) (bg_dX6_best_0 28 70 rfl)
theorem bg_dX6_best_29 : bysAt cX6_best 29 [172, 42, 27, 28, 182, 0, 252, 42, 180, 0, 59, 5, 46, 18, 255, 160, 0, 12, 42, 16, 251, 182, 0, 70] := bysAt_of (by decide +kernel)
theorem dX6_best_29 : decode cX6_best 29 = .ok (.ireturn, 1) := o_172 (bg_dX6_best_29 0 172 rfl)
theorem dX6_best_30 : decode cX6_best 30 = .ok (.aload_n 0, 1) := o_42 (bg_dX6_best_29 1 42 rfl)
theorem dX6_best_31 : decode cX6_best 31 = .ok (.iload_n 1, 1) := o_27 (bg_dX6_best_29 2 27 rfl)
theorem dX6_best_32 : decode cX6_best 32 = .ok (.iload_n 2, 1) := o_28 (bg_dX6_best_29 3 28 rfl)
theorem dX6_best_33 : decode cX6_best 33 = .ok (.invokevirtual 252, 3) := o_182 (bg_dX6_best_29 4 182 rfl) (bg_dX6_best_29 5 0 rfl) (bg_dX6_best_29 6 252 rfl)
theorem dX6_best_36 : decode cX6_best 36 = .ok (.aload_n 0, 1) := o_42 (bg_dX6_best_29 7 42 rfl)
theorem dX6_best_37 : decode cX6_best 37 = .ok (.getfield 59, 3) := o_180 (bg_dX6_best_29 8 180 rfl) (bg_dX6_best_29 9 0 rfl) (bg_dX6_best_29 10 59 rfl)
theorem dX6_best_40 : decode cX6_best 40 = .ok (.iconst 2, 1) := o_5 (bg_dX6_best_29 11 5 rfl)
theorem dX6_best_41 : decode cX6_best 41 = .ok (.iaload, 1) := o_46 (bg_dX6_best_29 12 46 rfl)
theorem dX6_best_42 : decode cX6_best 42 = .ok (.ldc 255, 2) := o_18 (bg_dX6_best_29 13 18 rfl) (bg_dX6_best_29 14 255 rfl)
theorem dX6_best_44 : decode cX6_best 44 = .ok (.if_icmp .ne 12, 3) := o_160 (bg_dX6_best_29 15 160 rfl) (bg_dX6_best_29 16 0 rfl) (bg_dX6_best_29 17 12 rfl) (by decide +kernel)
theorem dX6_best_47 : decode cX6_best 47 = .ok (.aload_n 0, 1) := o_42 (bg_dX6_best_29 18 42 rfl)
theorem dX6_best_48 : decode cX6_best 48 = .ok (.bipush (-5), 2) := o_16 (bg_dX6_best_29 19 16 rfl) (bg_dX6_best_29 20 251 rfl) (by decide +kernel)
theorem dX6_best_50 : decode cX6_best 50 = .ok (.invokevirtual 70, 3) := o_182 (bg_dX6_best_29 21 182 rfl) (bg_dX6_best_29 22 0 rfl) (bg_dX6_best_29 23 70 rfl)
theorem bg_dX6_best_53 : bysAt cX6_best 53 [167, 0, 9, 42, 180, 0, 59, 29, 46, 172] := bysAt_of (by decide +kernel)
theorem dX6_best_53 : decode cX6_best 53 = .ok (.goto 9, 3) := o_167 (bg_dX6_best_53 0 167 rfl) (bg_dX6_best_53 1 0 rfl) (bg_dX6_best_53 2 9 rfl) (by decide +kernel)
theorem dX6_best_56 : decode cX6_best 56 = .ok (.aload_n 0, 1) := o_42 (bg_dX6_best_53 3 42 rfl)
theorem dX6_best_57 : decode cX6_best 57 = .ok (.getfield 59, 3) := o_180 (bg_dX6_best_53 4 180 rfl) (bg_dX6_best_53 5 0 rfl) (bg_dX6_best_53 6 59 rfl)
theorem dX6_best_60 : decode cX6_best 60 = .ok (.iload_n 3, 1) := o_29 (bg_dX6_best_53 7 29 rfl)
theorem dX6_best_61 : decode cX6_best 61 = .ok (.iaload, 1) := o_46 (bg_dX6_best_53 8 46 rfl)
theorem dX6_best_62 : decode cX6_best 62 = .ok (.ireturn, 1) := o_172 (bg_dX6_best_53 9 172 rfl)
theorem bg_dX6_cheapest_0 : bysAt cX6_cheapest 0 [42, 27, 28, 29, 21, 4, 182, 0, 238, 154, 0, 10, 42, 16, 254, 182, 0, 70, 172, 42, 42, 180, 0, 28] := bysAt_of (by decide +kernel)
theorem dX6_cheapest_0 : decode cX6_cheapest 0 = .ok (.aload_n 0, 1) := o_42 (bg_dX6_cheapest_0 0 42 rfl)
theorem dX6_cheapest_1 : decode cX6_cheapest 1 = .ok (.iload_n 1, 1) := o_27 (bg_dX6_cheapest_0 1 27 rfl)
theorem dX6_cheapest_2 : decode cX6_cheapest 2 = .ok (.iload_n 2, 1) := o_28 (bg_dX6_cheapest_0 2 28 rfl)
theorem dX6_cheapest_3 : decode cX6_cheapest 3 = .ok (.iload_n 3, 1) := o_29 (bg_dX6_cheapest_0 3 29 rfl)
theorem dX6_cheapest_4 : decode cX6_cheapest 4 = .ok (.iload 4, 2) := o_21 (bg_dX6_cheapest_0 4 21 rfl) (bg_dX6_cheapest_0 5 4 rfl)
theorem dX6_cheapest_6 : decode cX6_cheapest 6 = .ok (.invokevirtual 238, 3) := o_182 (bg_dX6_cheapest_0 6 182 rfl) (bg_dX6_cheapest_0 7 0 rfl) (bg_dX6_cheapest_0 8 238 rfl)
theorem dX6_cheapest_9 : decode cX6_cheapest 9 = .ok (.ifCond .ne 10, 3) := o_154 (bg_dX6_cheapest_0 9 154 rfl) (bg_dX6_cheapest_0 10 0 rfl) (bg_dX6_cheapest_0 11 10 rfl) (by decide +kernel)
theorem dX6_cheapest_12 : decode cX6_cheapest 12 = .ok (.aload_n 0, 1) := o_42 (bg_dX6_cheapest_0 12 42 rfl)
theorem dX6_cheapest_13 : decode cX6_cheapest 13 = .ok (.bipush (-2), 2) := o_16 (bg_dX6_cheapest_0 13 16 rfl) (bg_dX6_cheapest_0 14 254 rfl) (by decide +kernel)
theorem dX6_cheapest_15 : decode cX6_cheapest 15 = .ok (.invokevirtual 70, 3) := o_182 (bg_dX6_cheapest_0 15 182 rfl) (bg_dX6_cheapest_0 16 0 rfl) (bg_dX6_cheapest_0 17 70 rfl)
theorem dX6_cheapest_18 : decode cX6_cheapest 18 = .ok (.ireturn, 1) := o_172 (bg_dX6_cheapest_0 18 172 rfl)
theorem dX6_cheapest_19 : decode cX6_cheapest 19 = .ok (.aload_n 0, 1) := o_42 (bg_dX6_cheapest_0 19 42 rfl)
theorem dX6_cheapest_20 : decode cX6_cheapest 20 = .ok (.aload_n 0, 1) := o_42 (bg_dX6_cheapest_0 20 42 rfl)
theorem dX6_cheapest_21 : decode cX6_cheapest 21 = .ok (.getfield 28, 3) := o_180 (bg_dX6_cheapest_0 21 180 rfl) (bg_dX6_cheapest_0 22 0 rfl) (bg_dX6_cheapest_0 23 28 rfl)
theorem bg_dX6_cheapest_24 : bysAt cX6_cheapest 24 [27, 28, 29, 21, 4, 4, 182, 0, 242, 182, 0, 245, 172] := bysAt_of (by decide +kernel)
theorem dX6_cheapest_24 : decode cX6_cheapest 24 = .ok (.iload_n 1, 1) := o_27 (bg_dX6_cheapest_24 0 27 rfl)
theorem dX6_cheapest_25 : decode cX6_cheapest 25 = .ok (.iload_n 2, 1) := o_28 (bg_dX6_cheapest_24 1 28 rfl)
theorem dX6_cheapest_26 : decode cX6_cheapest 26 = .ok (.iload_n 3, 1) := o_29 (bg_dX6_cheapest_24 2 29 rfl)
theorem dX6_cheapest_27 : decode cX6_cheapest 27 = .ok (.iload 4, 2) := o_21 (bg_dX6_cheapest_24 3 21 rfl) (bg_dX6_cheapest_24 4 4 rfl)
theorem dX6_cheapest_29 : decode cX6_cheapest 29 = .ok (.iconst 1, 1) := o_4 (bg_dX6_cheapest_24 5 4 rfl)
theorem dX6_cheapest_30 : decode cX6_cheapest 30 = .ok (.invokevirtual 242, 3) := o_182 (bg_dX6_cheapest_24 6 182 rfl) (bg_dX6_cheapest_24 7 0 rfl) (bg_dX6_cheapest_24 8 242 rfl)
theorem dX6_cheapest_33 : decode cX6_cheapest 33 = .ok (.invokevirtual 245, 3) := o_182 (bg_dX6_cheapest_24 9 182 rfl) (bg_dX6_cheapest_24 10 0 rfl) (bg_dX6_cheapest_24 11 245 rfl)
theorem dX6_cheapest_36 : decode cX6_cheapest 36 = .ok (.ireturn, 1) := o_172 (bg_dX6_cheapest_24 12 172 rfl)
theorem bg_dX6_fewest_0 : bysAt cX6_fewest 0 [42, 27, 182, 0, 194, 153, 0, 17, 28, 184, 0, 126, 153, 0, 10, 29, 184, 0, 126, 154, 0, 10, 42, 16, 254, 182, 0, 70, 172] := bysAt_of (by decide +kernel)
theorem dX6_fewest_0 : decode cX6_fewest 0 = .ok (.aload_n 0, 1) := o_42 (bg_dX6_fewest_0 0 42 rfl)
theorem dX6_fewest_1 : decode cX6_fewest 1 = .ok (.iload_n 1, 1) := o_27 (bg_dX6_fewest_0 1 27 rfl)
theorem dX6_fewest_2 : decode cX6_fewest 2 = .ok (.invokevirtual 194, 3) := o_182 (bg_dX6_fewest_0 2 182 rfl) (bg_dX6_fewest_0 3 0 rfl) (bg_dX6_fewest_0 4 194 rfl)
theorem dX6_fewest_5 : decode cX6_fewest 5 = .ok (.ifCond .eq 17, 3) := o_153 (bg_dX6_fewest_0 5 153 rfl) (bg_dX6_fewest_0 6 0 rfl) (bg_dX6_fewest_0 7 17 rfl) (by decide +kernel)
theorem dX6_fewest_8 : decode cX6_fewest 8 = .ok (.iload_n 2, 1) := o_28 (bg_dX6_fewest_0 8 28 rfl)
theorem dX6_fewest_9 : decode cX6_fewest 9 = .ok (.invokestatic 126, 3) := o_184 (bg_dX6_fewest_0 9 184 rfl) (bg_dX6_fewest_0 10 0 rfl) (bg_dX6_fewest_0 11 126 rfl)
theorem dX6_fewest_12 : decode cX6_fewest 12 = .ok (.ifCond .eq 10, 3) := o_153 (bg_dX6_fewest_0 12 153 rfl) (bg_dX6_fewest_0 13 0 rfl) (bg_dX6_fewest_0 14 10 rfl) (by decide +kernel)
theorem dX6_fewest_15 : decode cX6_fewest 15 = .ok (.iload_n 3, 1) := o_29 (bg_dX6_fewest_0 15 29 rfl)
theorem dX6_fewest_16 : decode cX6_fewest 16 = .ok (.invokestatic 126, 3) := o_184 (bg_dX6_fewest_0 16 184 rfl) (bg_dX6_fewest_0 17 0 rfl) (bg_dX6_fewest_0 18 126 rfl)
theorem dX6_fewest_19 : decode cX6_fewest 19 = .ok (.ifCond .ne 10, 3) := o_154 (bg_dX6_fewest_0 19 154 rfl) (bg_dX6_fewest_0 20 0 rfl) (bg_dX6_fewest_0 21 10 rfl) (by decide +kernel)
theorem dX6_fewest_22 : decode cX6_fewest 22 = .ok (.aload_n 0, 1) := o_42 (bg_dX6_fewest_0 22 42 rfl)
theorem dX6_fewest_23 : decode cX6_fewest 23 = .ok (.bipush (-2), 2) := o_16 (bg_dX6_fewest_0 23 16 rfl) (bg_dX6_fewest_0 24 254 rfl) (by decide +kernel)
theorem dX6_fewest_25 : decode cX6_fewest 25 = .ok (.invokevirtual 70, 3) := o_182 (bg_dX6_fewest_0 25 182 rfl) (bg_dX6_fewest_0 26 0 rfl) (bg_dX6_fewest_0 27 70 rfl)
theorem dX6_fewest_28 : decode cX6_fewest 28 = .ok (.ireturn, 1) := o_172 (bg_dX6_fewest_0 28 172 rfl)
theorem bg_dX6_fewest_29 : bysAt cX6_fewest 29 [2, 54, 4, 178, 1, 23, 6, 46, 4, 96, 54, 5, 3, 54, 6, 21, 6, 42, 180, 0, 10, 182, 1, 26] := bysAt_of (by decide +kernel)
theorem dX6_fewest_29 : decode cX6_fewest 29 = .ok (.iconst (-1), 1) := o_2 (bg_dX6_fewest_29 0 2 rfl)
theorem dX6_fewest_30 : decode cX6_fewest 30 = .ok (.istore 4, 2) := o_54 (bg_dX6_fewest_29 1 54 rfl) (bg_dX6_fewest_29 2 4 rfl)
theorem dX6_fewest_32 : decode cX6_fewest 32 = .ok (.getstatic 279, 3) := o_178 (bg_dX6_fewest_29 3 178 rfl) (bg_dX6_fewest_29 4 1 rfl) (bg_dX6_fewest_29 5 23 rfl)
theorem dX6_fewest_35 : decode cX6_fewest 35 = .ok (.iconst 3, 1) := o_6 (bg_dX6_fewest_29 6 6 rfl)
theorem dX6_fewest_36 : decode cX6_fewest 36 = .ok (.iaload, 1) := o_46 (bg_dX6_fewest_29 7 46 rfl)
theorem dX6_fewest_37 : decode cX6_fewest 37 = .ok (.iconst 1, 1) := o_4 (bg_dX6_fewest_29 8 4 rfl)
theorem dX6_fewest_38 : decode cX6_fewest 38 = .ok (.iadd, 1) := o_96 (bg_dX6_fewest_29 9 96 rfl)
theorem dX6_fewest_39 : decode cX6_fewest 39 = .ok (.istore 5, 2) := o_54 (bg_dX6_fewest_29 10 54 rfl) (bg_dX6_fewest_29 11 5 rfl)
theorem dX6_fewest_41 : decode cX6_fewest 41 = .ok (.iconst 0, 1) := o_3 (bg_dX6_fewest_29 12 3 rfl)
theorem dX6_fewest_42 : decode cX6_fewest 42 = .ok (.istore 6, 2) := o_54 (bg_dX6_fewest_29 13 54 rfl) (bg_dX6_fewest_29 14 6 rfl)
theorem dX6_fewest_44 : decode cX6_fewest 44 = .ok (.iload 6, 2) := o_21 (bg_dX6_fewest_29 15 21 rfl) (bg_dX6_fewest_29 16 6 rfl)
theorem dX6_fewest_46 : decode cX6_fewest 46 = .ok (.aload_n 0, 1) := o_42 (bg_dX6_fewest_29 17 42 rfl)
theorem dX6_fewest_47 : decode cX6_fewest 47 = .ok (.getfield 10, 3) := o_180 (bg_dX6_fewest_29 18 180 rfl) (bg_dX6_fewest_29 19 0 rfl) (bg_dX6_fewest_29 20 10 rfl)
theorem dX6_fewest_50 : decode cX6_fewest 50 = .ok (.invokevirtual 282, 3) := o_182 (bg_dX6_fewest_29 21 182 rfl) (bg_dX6_fewest_29 22 1 rfl) (bg_dX6_fewest_29 23 26 rfl)
theorem bg_dX6_fewest_53 : bysAt cX6_fewest 53 [162, 0, 45, 21, 6, 184, 1, 9, 21, 5, 162, 0, 29, 42, 180, 0, 28, 27, 21, 6, 28, 29, 182, 1, 29, 153, 0, 14, 21, 6] := bysAt_of (by decide +kernel)
theorem dX6_fewest_53 : decode cX6_fewest 53 = .ok (.if_icmp .ge 45, 3) := o_162 (bg_dX6_fewest_53 0 162 rfl) (bg_dX6_fewest_53 1 0 rfl) (bg_dX6_fewest_53 2 45 rfl) (by decide +kernel)
theorem dX6_fewest_56 : decode cX6_fewest 56 = .ok (.iload 6, 2) := o_21 (bg_dX6_fewest_53 3 21 rfl) (bg_dX6_fewest_53 4 6 rfl)
theorem dX6_fewest_58 : decode cX6_fewest 58 = .ok (.invokestatic 265, 3) := o_184 (bg_dX6_fewest_53 5 184 rfl) (bg_dX6_fewest_53 6 1 rfl) (bg_dX6_fewest_53 7 9 rfl)
theorem dX6_fewest_61 : decode cX6_fewest 61 = .ok (.iload 5, 2) := o_21 (bg_dX6_fewest_53 8 21 rfl) (bg_dX6_fewest_53 9 5 rfl)
theorem dX6_fewest_63 : decode cX6_fewest 63 = .ok (.if_icmp .ge 29, 3) := o_162 (bg_dX6_fewest_53 10 162 rfl) (bg_dX6_fewest_53 11 0 rfl) (bg_dX6_fewest_53 12 29 rfl) (by decide +kernel)
theorem dX6_fewest_66 : decode cX6_fewest 66 = .ok (.aload_n 0, 1) := o_42 (bg_dX6_fewest_53 13 42 rfl)
theorem dX6_fewest_67 : decode cX6_fewest 67 = .ok (.getfield 28, 3) := o_180 (bg_dX6_fewest_53 14 180 rfl) (bg_dX6_fewest_53 15 0 rfl) (bg_dX6_fewest_53 16 28 rfl)
theorem dX6_fewest_70 : decode cX6_fewest 70 = .ok (.iload_n 1, 1) := o_27 (bg_dX6_fewest_53 17 27 rfl)
theorem dX6_fewest_71 : decode cX6_fewest 71 = .ok (.iload 6, 2) := o_21 (bg_dX6_fewest_53 18 21 rfl) (bg_dX6_fewest_53 19 6 rfl)
theorem dX6_fewest_73 : decode cX6_fewest 73 = .ok (.iload_n 2, 1) := o_28 (bg_dX6_fewest_53 20 28 rfl)
theorem dX6_fewest_74 : decode cX6_fewest 74 = .ok (.iload_n 3, 1) := o_29 (bg_dX6_fewest_53 21 29 rfl)
theorem dX6_fewest_75 : decode cX6_fewest 75 = .ok (.invokevirtual 285, 3) := o_182 (bg_dX6_fewest_53 22 182 rfl) (bg_dX6_fewest_53 23 1 rfl) (bg_dX6_fewest_53 24 29 rfl)
theorem dX6_fewest_78 : decode cX6_fewest 78 = .ok (.ifCond .eq 14, 3) := o_153 (bg_dX6_fewest_53 25 153 rfl) (bg_dX6_fewest_53 26 0 rfl) (bg_dX6_fewest_53 27 14 rfl) (by decide +kernel)
theorem dX6_fewest_81 : decode cX6_fewest 81 = .ok (.iload 6, 2) := o_21 (bg_dX6_fewest_53 28 21 rfl) (bg_dX6_fewest_53 29 6 rfl)
theorem bg_dX6_fewest_83 : bysAt cX6_fewest 83 [54, 4, 21, 6, 184, 1, 9, 54, 5, 132, 6, 1, 167, 255, 205, 21, 4, 2, 160, 0, 12, 42, 16, 251, 182, 0, 70, 167, 0, 5, 21, 4, 172] := bysAt_of (by decide +kernel)
theorem dX6_fewest_83 : decode cX6_fewest 83 = .ok (.istore 4, 2) := o_54 (bg_dX6_fewest_83 0 54 rfl) (bg_dX6_fewest_83 1 4 rfl)
theorem dX6_fewest_85 : decode cX6_fewest 85 = .ok (.iload 6, 2) := o_21 (bg_dX6_fewest_83 2 21 rfl) (bg_dX6_fewest_83 3 6 rfl)
theorem dX6_fewest_87 : decode cX6_fewest 87 = .ok (.invokestatic 265, 3) := o_184 (bg_dX6_fewest_83 4 184 rfl) (bg_dX6_fewest_83 5 1 rfl) (bg_dX6_fewest_83 6 9 rfl)
theorem dX6_fewest_90 : decode cX6_fewest 90 = .ok (.istore 5, 2) := o_54 (bg_dX6_fewest_83 7 54 rfl) (bg_dX6_fewest_83 8 5 rfl)
theorem dX6_fewest_95 : decode cX6_fewest 95 = .ok (.goto (-51), 3) := o_167 (bg_dX6_fewest_83 12 167 rfl) (bg_dX6_fewest_83 13 255 rfl) (bg_dX6_fewest_83 14 205 rfl) (by decide +kernel)
theorem dX6_fewest_98 : decode cX6_fewest 98 = .ok (.iload 4, 2) := o_21 (bg_dX6_fewest_83 15 21 rfl) (bg_dX6_fewest_83 16 4 rfl)
theorem dX6_fewest_100 : decode cX6_fewest 100 = .ok (.iconst (-1), 1) := o_2 (bg_dX6_fewest_83 17 2 rfl)
theorem dX6_fewest_101 : decode cX6_fewest 101 = .ok (.if_icmp .ne 12, 3) := o_160 (bg_dX6_fewest_83 18 160 rfl) (bg_dX6_fewest_83 19 0 rfl) (bg_dX6_fewest_83 20 12 rfl) (by decide +kernel)
theorem dX6_fewest_104 : decode cX6_fewest 104 = .ok (.aload_n 0, 1) := o_42 (bg_dX6_fewest_83 21 42 rfl)
theorem dX6_fewest_105 : decode cX6_fewest 105 = .ok (.bipush (-5), 2) := o_16 (bg_dX6_fewest_83 22 16 rfl) (bg_dX6_fewest_83 23 251 rfl) (by decide +kernel)
theorem dX6_fewest_107 : decode cX6_fewest 107 = .ok (.invokevirtual 70, 3) := o_182 (bg_dX6_fewest_83 24 182 rfl) (bg_dX6_fewest_83 25 0 rfl) (bg_dX6_fewest_83 26 70 rfl)
theorem dX6_fewest_110 : decode cX6_fewest 110 = .ok (.goto 5, 3) := o_167 (bg_dX6_fewest_83 27 167 rfl) (bg_dX6_fewest_83 28 0 rfl) (bg_dX6_fewest_83 29 5 rfl) (by decide +kernel)
theorem dX6_fewest_113 : decode cX6_fewest 113 = .ok (.iload 4, 2) := o_21 (bg_dX6_fewest_83 30 21 rfl) (bg_dX6_fewest_83 31 4 rfl)
theorem dX6_fewest_115 : decode cX6_fewest 115 = .ok (.ireturn, 1) := o_172 (bg_dX6_fewest_83 32 172 rfl)
theorem bg_dX6_frost_0 : bysAt cX6_frost 0 [42, 27, 28, 29, 21, 4, 182, 0, 238, 153, 0, 37, 21, 5, 3, 16, 6, 184, 0, 66, 153, 0, 26, 21, 6, 3] := bysAt_of (by decide +kernel)
theorem dX6_frost_0 : decode cX6_frost 0 = .ok (.aload_n 0, 1) := o_42 (bg_dX6_frost_0 0 42 rfl)
theorem dX6_frost_1 : decode cX6_frost 1 = .ok (.iload_n 1, 1) := o_27 (bg_dX6_frost_0 1 27 rfl)
theorem dX6_frost_2 : decode cX6_frost 2 = .ok (.iload_n 2, 1) := o_28 (bg_dX6_frost_0 2 28 rfl)
theorem dX6_frost_3 : decode cX6_frost 3 = .ok (.iload_n 3, 1) := o_29 (bg_dX6_frost_0 3 29 rfl)
theorem dX6_frost_4 : decode cX6_frost 4 = .ok (.iload 4, 2) := o_21 (bg_dX6_frost_0 4 21 rfl) (bg_dX6_frost_0 5 4 rfl)
theorem dX6_frost_6 : decode cX6_frost 6 = .ok (.invokevirtual 238, 3) := o_182 (bg_dX6_frost_0 6 182 rfl) (bg_dX6_frost_0 7 0 rfl) (bg_dX6_frost_0 8 238 rfl)
theorem dX6_frost_9 : decode cX6_frost 9 = .ok (.ifCond .eq 37, 3) := o_153 (bg_dX6_frost_0 9 153 rfl) (bg_dX6_frost_0 10 0 rfl) (bg_dX6_frost_0 11 37 rfl) (by decide +kernel)
theorem dX6_frost_12 : decode cX6_frost 12 = .ok (.iload 5, 2) := o_21 (bg_dX6_frost_0 12 21 rfl) (bg_dX6_frost_0 13 5 rfl)
theorem dX6_frost_14 : decode cX6_frost 14 = .ok (.iconst 0, 1) := o_3 (bg_dX6_frost_0 14 3 rfl)
theorem dX6_frost_15 : decode cX6_frost 15 = .ok (.bipush 6, 2) := o_16 (bg_dX6_frost_0 15 16 rfl) (bg_dX6_frost_0 16 6 rfl) (by decide +kernel)
theorem dX6_frost_17 : decode cX6_frost 17 = .ok (.invokestatic 66, 3) := o_184 (bg_dX6_frost_0 17 184 rfl) (bg_dX6_frost_0 18 0 rfl) (bg_dX6_frost_0 19 66 rfl)
theorem dX6_frost_20 : decode cX6_frost 20 = .ok (.ifCond .eq 26, 3) := o_153 (bg_dX6_frost_0 20 153 rfl) (bg_dX6_frost_0 21 0 rfl) (bg_dX6_frost_0 22 26 rfl) (by decide +kernel)
theorem dX6_frost_23 : decode cX6_frost 23 = .ok (.iload 6, 2) := o_21 (bg_dX6_frost_0 23 21 rfl) (bg_dX6_frost_0 24 6 rfl)
theorem dX6_frost_25 : decode cX6_frost 25 = .ok (.iconst 0, 1) := o_3 (bg_dX6_frost_0 25 3 rfl)
theorem bg_dX6_frost_26 : bysAt cX6_frost 26 [16, 10, 184, 0, 66, 153, 0, 15, 21, 7, 3, 17, 3, 231, 184, 0, 66, 154, 0, 11, 42, 16, 254, 182, 0, 70, 133, 173, 42] := bysAt_of (by decide +kernel)
theorem dX6_frost_26 : decode cX6_frost 26 = .ok (.bipush 10, 2) := o_16 (bg_dX6_frost_26 0 16 rfl) (bg_dX6_frost_26 1 10 rfl) (by decide +kernel)
theorem dX6_frost_28 : decode cX6_frost 28 = .ok (.invokestatic 66, 3) := o_184 (bg_dX6_frost_26 2 184 rfl) (bg_dX6_frost_26 3 0 rfl) (bg_dX6_frost_26 4 66 rfl)
theorem dX6_frost_31 : decode cX6_frost 31 = .ok (.ifCond .eq 15, 3) := o_153 (bg_dX6_frost_26 5 153 rfl) (bg_dX6_frost_26 6 0 rfl) (bg_dX6_frost_26 7 15 rfl) (by decide +kernel)
theorem dX6_frost_34 : decode cX6_frost 34 = .ok (.iload 7, 2) := o_21 (bg_dX6_frost_26 8 21 rfl) (bg_dX6_frost_26 9 7 rfl)
theorem dX6_frost_36 : decode cX6_frost 36 = .ok (.iconst 0, 1) := o_3 (bg_dX6_frost_26 10 3 rfl)
theorem dX6_frost_37 : decode cX6_frost 37 = .ok (.sipush 999, 3) := o_17 (bg_dX6_frost_26 11 17 rfl) (bg_dX6_frost_26 12 3 rfl) (bg_dX6_frost_26 13 231 rfl) (by decide +kernel)
theorem dX6_frost_40 : decode cX6_frost 40 = .ok (.invokestatic 66, 3) := o_184 (bg_dX6_frost_26 14 184 rfl) (bg_dX6_frost_26 15 0 rfl) (bg_dX6_frost_26 16 66 rfl)
theorem dX6_frost_43 : decode cX6_frost 43 = .ok (.ifCond .ne 11, 3) := o_154 (bg_dX6_frost_26 17 154 rfl) (bg_dX6_frost_26 18 0 rfl) (bg_dX6_frost_26 19 11 rfl) (by decide +kernel)
theorem dX6_frost_46 : decode cX6_frost 46 = .ok (.aload_n 0, 1) := o_42 (bg_dX6_frost_26 20 42 rfl)
theorem dX6_frost_47 : decode cX6_frost 47 = .ok (.bipush (-2), 2) := o_16 (bg_dX6_frost_26 21 16 rfl) (bg_dX6_frost_26 22 254 rfl) (by decide +kernel)
theorem dX6_frost_49 : decode cX6_frost 49 = .ok (.invokevirtual 70, 3) := o_182 (bg_dX6_frost_26 23 182 rfl) (bg_dX6_frost_26 24 0 rfl) (bg_dX6_frost_26 25 70 rfl)
theorem dX6_frost_52 : decode cX6_frost 52 = .ok (.i2l, 1) := o_133 (bg_dX6_frost_26 26 133 rfl)
theorem dX6_frost_53 : decode cX6_frost 53 = .ok (.lreturn, 1) := o_173 (bg_dX6_frost_26 27 173 rfl)
theorem dX6_frost_54 : decode cX6_frost 54 = .ok (.aload_n 0, 1) := o_42 (bg_dX6_frost_26 28 42 rfl)
theorem bg_dX6_frost_55 : bysAt cX6_frost 55 [180, 0, 10, 180, 0, 156, 5, 46, 54, 8, 42, 180, 0, 10, 180, 0, 156, 5, 3, 79, 42, 180, 0, 28, 27] := bysAt_of (by decide +kernel)
theorem dX6_frost_55 : decode cX6_frost 55 = .ok (.getfield 10, 3) := o_180 (bg_dX6_frost_55 0 180 rfl) (bg_dX6_frost_55 1 0 rfl) (bg_dX6_frost_55 2 10 rfl)
theorem dX6_frost_58 : decode cX6_frost 58 = .ok (.getfield 156, 3) := o_180 (bg_dX6_frost_55 3 180 rfl) (bg_dX6_frost_55 4 0 rfl) (bg_dX6_frost_55 5 156 rfl)
theorem dX6_frost_61 : decode cX6_frost 61 = .ok (.iconst 2, 1) := o_5 (bg_dX6_frost_55 6 5 rfl)
theorem dX6_frost_62 : decode cX6_frost 62 = .ok (.iaload, 1) := o_46 (bg_dX6_frost_55 7 46 rfl)
theorem dX6_frost_63 : decode cX6_frost 63 = .ok (.istore 8, 2) := o_54 (bg_dX6_frost_55 8 54 rfl) (bg_dX6_frost_55 9 8 rfl)
theorem dX6_frost_65 : decode cX6_frost 65 = .ok (.aload_n 0, 1) := o_42 (bg_dX6_frost_55 10 42 rfl)
theorem dX6_frost_66 : decode cX6_frost 66 = .ok (.getfield 10, 3) := o_180 (bg_dX6_frost_55 11 180 rfl) (bg_dX6_frost_55 12 0 rfl) (bg_dX6_frost_55 13 10 rfl)
theorem dX6_frost_69 : decode cX6_frost 69 = .ok (.getfield 156, 3) := o_180 (bg_dX6_frost_55 14 180 rfl) (bg_dX6_frost_55 15 0 rfl) (bg_dX6_frost_55 16 156 rfl)
theorem dX6_frost_72 : decode cX6_frost 72 = .ok (.iconst 2, 1) := o_5 (bg_dX6_frost_55 17 5 rfl)
theorem dX6_frost_73 : decode cX6_frost 73 = .ok (.iconst 0, 1) := o_3 (bg_dX6_frost_55 18 3 rfl)
theorem dX6_frost_74 : decode cX6_frost 74 = .ok (.iastore, 1) := o_79 (bg_dX6_frost_55 19 79 rfl)
theorem dX6_frost_75 : decode cX6_frost 75 = .ok (.aload_n 0, 1) := o_42 (bg_dX6_frost_55 20 42 rfl)
theorem dX6_frost_76 : decode cX6_frost 76 = .ok (.getfield 28, 3) := o_180 (bg_dX6_frost_55 21 180 rfl) (bg_dX6_frost_55 22 0 rfl) (bg_dX6_frost_55 23 28 rfl)
theorem dX6_frost_79 : decode cX6_frost 79 = .ok (.iload_n 1, 1) := o_27 (bg_dX6_frost_55 24 27 rfl)
theorem bg_dX6_frost_80 : bysAt cX6_frost 80 [28, 29, 21, 4, 4, 182, 0, 242, 54, 9, 42, 180, 0, 10, 180, 0, 156, 5, 4, 79, 42, 180, 0, 28] := bysAt_of (by decide +kernel)
theorem dX6_frost_80 : decode cX6_frost 80 = .ok (.iload_n 2, 1) := o_28 (bg_dX6_frost_80 0 28 rfl)
theorem dX6_frost_81 : decode cX6_frost 81 = .ok (.iload_n 3, 1) := o_29 (bg_dX6_frost_80 1 29 rfl)
theorem dX6_frost_82 : decode cX6_frost 82 = .ok (.iload 4, 2) := o_21 (bg_dX6_frost_80 2 21 rfl) (bg_dX6_frost_80 3 4 rfl)
theorem dX6_frost_84 : decode cX6_frost 84 = .ok (.iconst 1, 1) := o_4 (bg_dX6_frost_80 4 4 rfl)
theorem dX6_frost_85 : decode cX6_frost 85 = .ok (.invokevirtual 242, 3) := o_182 (bg_dX6_frost_80 5 182 rfl) (bg_dX6_frost_80 6 0 rfl) (bg_dX6_frost_80 7 242 rfl)
theorem dX6_frost_88 : decode cX6_frost 88 = .ok (.istore 9, 2) := o_54 (bg_dX6_frost_80 8 54 rfl) (bg_dX6_frost_80 9 9 rfl)
theorem dX6_frost_90 : decode cX6_frost 90 = .ok (.aload_n 0, 1) := o_42 (bg_dX6_frost_80 10 42 rfl)
theorem dX6_frost_91 : decode cX6_frost 91 = .ok (.getfield 10, 3) := o_180 (bg_dX6_frost_80 11 180 rfl) (bg_dX6_frost_80 12 0 rfl) (bg_dX6_frost_80 13 10 rfl)
theorem dX6_frost_94 : decode cX6_frost 94 = .ok (.getfield 156, 3) := o_180 (bg_dX6_frost_80 14 180 rfl) (bg_dX6_frost_80 15 0 rfl) (bg_dX6_frost_80 16 156 rfl)
theorem dX6_frost_97 : decode cX6_frost 97 = .ok (.iconst 2, 1) := o_5 (bg_dX6_frost_80 17 5 rfl)
theorem dX6_frost_98 : decode cX6_frost 98 = .ok (.iconst 1, 1) := o_4 (bg_dX6_frost_80 18 4 rfl)
theorem dX6_frost_99 : decode cX6_frost 99 = .ok (.iastore, 1) := o_79 (bg_dX6_frost_80 19 79 rfl)
theorem dX6_frost_100 : decode cX6_frost 100 = .ok (.aload_n 0, 1) := o_42 (bg_dX6_frost_80 20 42 rfl)
theorem dX6_frost_101 : decode cX6_frost 101 = .ok (.getfield 28, 3) := o_180 (bg_dX6_frost_80 21 180 rfl) (bg_dX6_frost_80 22 0 rfl) (bg_dX6_frost_80 23 28 rfl)
theorem bg_dX6_frost_104 : bysAt cX6_frost 104 [27, 28, 29, 21, 4, 4, 182, 0, 242, 54, 10, 42, 180, 0, 10, 180, 0, 156, 5, 21, 8, 79, 21, 9] := bysAt_of (by decide +kernel)
theorem dX6_frost_104 : decode cX6_frost 104 = .ok (.iload_n 1, 1) := o_27 (bg_dX6_frost_104 0 27 rfl)
theorem dX6_frost_105 : decode cX6_frost 105 = .ok (.iload_n 2, 1) := o_28 (bg_dX6_frost_104 1 28 rfl)
theorem dX6_frost_106 : decode cX6_frost 106 = .ok (.iload_n 3, 1) := o_29 (bg_dX6_frost_104 2 29 rfl)
theorem dX6_frost_107 : decode cX6_frost 107 = .ok (.iload 4, 2) := o_21 (bg_dX6_frost_104 3 21 rfl) (bg_dX6_frost_104 4 4 rfl)
theorem dX6_frost_109 : decode cX6_frost 109 = .ok (.iconst 1, 1) := o_4 (bg_dX6_frost_104 5 4 rfl)
theorem dX6_frost_110 : decode cX6_frost 110 = .ok (.invokevirtual 242, 3) := o_182 (bg_dX6_frost_104 6 182 rfl) (bg_dX6_frost_104 7 0 rfl) (bg_dX6_frost_104 8 242 rfl)
theorem dX6_frost_113 : decode cX6_frost 113 = .ok (.istore 10, 2) := o_54 (bg_dX6_frost_104 9 54 rfl) (bg_dX6_frost_104 10 10 rfl)
theorem dX6_frost_115 : decode cX6_frost 115 = .ok (.aload_n 0, 1) := o_42 (bg_dX6_frost_104 11 42 rfl)
theorem dX6_frost_116 : decode cX6_frost 116 = .ok (.getfield 10, 3) := o_180 (bg_dX6_frost_104 12 180 rfl) (bg_dX6_frost_104 13 0 rfl) (bg_dX6_frost_104 14 10 rfl)
theorem dX6_frost_119 : decode cX6_frost 119 = .ok (.getfield 156, 3) := o_180 (bg_dX6_frost_104 15 180 rfl) (bg_dX6_frost_104 16 0 rfl) (bg_dX6_frost_104 17 156 rfl)
theorem dX6_frost_122 : decode cX6_frost 122 = .ok (.iconst 2, 1) := o_5 (bg_dX6_frost_104 18 5 rfl)
theorem dX6_frost_123 : decode cX6_frost 123 = .ok (.iload 8, 2) := o_21 (bg_dX6_frost_104 19 21 rfl) (bg_dX6_frost_104 20 8 rfl)
theorem dX6_frost_125 : decode cX6_frost 125 = .ok (.iastore, 1) := o_79 (bg_dX6_frost_104 21 79 rfl)
theorem dX6_frost_126 : decode cX6_frost 126 = .ok (.iload 9, 2) := o_21 (bg_dX6_frost_104 22 21 rfl) (bg_dX6_frost_104 23 9 rfl)
theorem bg_dX6_frost_128 : bysAt cX6_frost 128 [18, 255, 160, 0, 13, 42, 16, 251, 182, 0, 70, 133, 167, 0, 18, 21, 9, 133, 21, 10, 133, 21, 5, 21, 6, 21, 7] := bysAt_of (by decide +kernel)
theorem dX6_frost_128 : decode cX6_frost 128 = .ok (.ldc 255, 2) := o_18 (bg_dX6_frost_128 0 18 rfl) (bg_dX6_frost_128 1 255 rfl)
theorem dX6_frost_130 : decode cX6_frost 130 = .ok (.if_icmp .ne 13, 3) := o_160 (bg_dX6_frost_128 2 160 rfl) (bg_dX6_frost_128 3 0 rfl) (bg_dX6_frost_128 4 13 rfl) (by decide +kernel)
theorem dX6_frost_133 : decode cX6_frost 133 = .ok (.aload_n 0, 1) := o_42 (bg_dX6_frost_128 5 42 rfl)
theorem dX6_frost_134 : decode cX6_frost 134 = .ok (.bipush (-5), 2) := o_16 (bg_dX6_frost_128 6 16 rfl) (bg_dX6_frost_128 7 251 rfl) (by decide +kernel)
theorem dX6_frost_136 : decode cX6_frost 136 = .ok (.invokevirtual 70, 3) := o_182 (bg_dX6_frost_128 8 182 rfl) (bg_dX6_frost_128 9 0 rfl) (bg_dX6_frost_128 10 70 rfl)
theorem dX6_frost_139 : decode cX6_frost 139 = .ok (.i2l, 1) := o_133 (bg_dX6_frost_128 11 133 rfl)
theorem dX6_frost_140 : decode cX6_frost 140 = .ok (.goto 18, 3) := o_167 (bg_dX6_frost_128 12 167 rfl) (bg_dX6_frost_128 13 0 rfl) (bg_dX6_frost_128 14 18 rfl) (by decide +kernel)
theorem dX6_frost_143 : decode cX6_frost 143 = .ok (.iload 9, 2) := o_21 (bg_dX6_frost_128 15 21 rfl) (bg_dX6_frost_128 16 9 rfl)
theorem dX6_frost_145 : decode cX6_frost 145 = .ok (.i2l, 1) := o_133 (bg_dX6_frost_128 17 133 rfl)
theorem dX6_frost_146 : decode cX6_frost 146 = .ok (.iload 10, 2) := o_21 (bg_dX6_frost_128 18 21 rfl) (bg_dX6_frost_128 19 10 rfl)
theorem dX6_frost_148 : decode cX6_frost 148 = .ok (.i2l, 1) := o_133 (bg_dX6_frost_128 20 133 rfl)
theorem dX6_frost_149 : decode cX6_frost 149 = .ok (.iload 5, 2) := o_21 (bg_dX6_frost_128 21 21 rfl) (bg_dX6_frost_128 22 5 rfl)
theorem dX6_frost_151 : decode cX6_frost 151 = .ok (.iload 6, 2) := o_21 (bg_dX6_frost_128 23 21 rfl) (bg_dX6_frost_128 24 6 rfl)
theorem dX6_frost_153 : decode cX6_frost 153 = .ok (.iload 7, 2) := o_21 (bg_dX6_frost_128 25 21 rfl) (bg_dX6_frost_128 26 7 rfl)
theorem bg_dX6_frost_155 : bysAt cX6_frost 155 [184, 1, 35, 173] := bysAt_of (by decide +kernel)
theorem dX6_frost_155 : decode cX6_frost 155 = .ok (.invokestatic 291, 3) := o_184 (bg_dX6_frost_155 0 184 rfl) (bg_dX6_frost_155 1 1 rfl) (bg_dX6_frost_155 2 35 rfl)
theorem dX6_frost_158 : decode cX6_frost 158 = .ok (.lreturn, 1) := o_173 (bg_dX6_frost_155 3 173 rfl)
theorem bg_dX6_goAlong_0 : bysAt cX6_goAlong 0 [42, 180, 0, 10, 180, 1, 45, 77, 42, 180, 0, 28, 44, 3, 46, 182, 1, 70, 42, 180, 0, 28, 27, 133] := bysAt_of (by decide +kernel)
theorem dX6_goAlong_0 : decode cX6_goAlong 0 = .ok (.aload_n 0, 1) := o_42 (bg_dX6_goAlong_0 0 42 rfl)
theorem dX6_goAlong_1 : decode cX6_goAlong 1 = .ok (.getfield 10, 3) := o_180 (bg_dX6_goAlong_0 1 180 rfl) (bg_dX6_goAlong_0 2 0 rfl) (bg_dX6_goAlong_0 3 10 rfl)
theorem dX6_goAlong_4 : decode cX6_goAlong 4 = .ok (.getfield 301, 3) := o_180 (bg_dX6_goAlong_0 4 180 rfl) (bg_dX6_goAlong_0 5 1 rfl) (bg_dX6_goAlong_0 6 45 rfl)
theorem dX6_goAlong_7 : decode cX6_goAlong 7 = .ok (.astore_n 2, 1) := o_77 (bg_dX6_goAlong_0 7 77 rfl)
theorem dX6_goAlong_8 : decode cX6_goAlong 8 = .ok (.aload_n 0, 1) := o_42 (bg_dX6_goAlong_0 8 42 rfl)
theorem dX6_goAlong_9 : decode cX6_goAlong 9 = .ok (.getfield 28, 3) := o_180 (bg_dX6_goAlong_0 9 180 rfl) (bg_dX6_goAlong_0 10 0 rfl) (bg_dX6_goAlong_0 11 28 rfl)
theorem dX6_goAlong_12 : decode cX6_goAlong 12 = .ok (.aload_n 2, 1) := o_44 (bg_dX6_goAlong_0 12 44 rfl)
theorem dX6_goAlong_13 : decode cX6_goAlong 13 = .ok (.iconst 0, 1) := o_3 (bg_dX6_goAlong_0 13 3 rfl)
theorem dX6_goAlong_14 : decode cX6_goAlong 14 = .ok (.iaload, 1) := o_46 (bg_dX6_goAlong_0 14 46 rfl)
theorem dX6_goAlong_15 : decode cX6_goAlong 15 = .ok (.invokevirtual 326, 3) := o_182 (bg_dX6_goAlong_0 15 182 rfl) (bg_dX6_goAlong_0 16 1 rfl) (bg_dX6_goAlong_0 17 70 rfl)
theorem dX6_goAlong_18 : decode cX6_goAlong 18 = .ok (.aload_n 0, 1) := o_42 (bg_dX6_goAlong_0 18 42 rfl)
theorem dX6_goAlong_19 : decode cX6_goAlong 19 = .ok (.getfield 28, 3) := o_180 (bg_dX6_goAlong_0 19 180 rfl) (bg_dX6_goAlong_0 20 0 rfl) (bg_dX6_goAlong_0 21 28 rfl)
theorem dX6_goAlong_22 : decode cX6_goAlong 22 = .ok (.iload_n 1, 1) := o_27 (bg_dX6_goAlong_0 22 27 rfl)
theorem dX6_goAlong_23 : decode cX6_goAlong 23 = .ok (.i2l, 1) := o_133 (bg_dX6_goAlong_0 23 133 rfl)
theorem bg_dX6_goAlong_24 : bysAt cX6_goAlong 24 [182, 1, 73, 87, 44, 3, 42, 180, 0, 28, 180, 1, 6, 6, 46, 79, 44, 5, 92, 46] := bysAt_of (by decide +kernel)
theorem dX6_goAlong_24 : decode cX6_goAlong 24 = .ok (.invokevirtual 329, 3) := o_182 (bg_dX6_goAlong_24 0 182 rfl) (bg_dX6_goAlong_24 1 1 rfl) (bg_dX6_goAlong_24 2 73 rfl)
theorem dX6_goAlong_27 : decode cX6_goAlong 27 = .ok (.pop, 1) := o_87 (bg_dX6_goAlong_24 3 87 rfl)
theorem dX6_goAlong_28 : decode cX6_goAlong 28 = .ok (.aload_n 2, 1) := o_44 (bg_dX6_goAlong_24 4 44 rfl)
theorem dX6_goAlong_29 : decode cX6_goAlong 29 = .ok (.iconst 0, 1) := o_3 (bg_dX6_goAlong_24 5 3 rfl)
theorem dX6_goAlong_30 : decode cX6_goAlong 30 = .ok (.aload_n 0, 1) := o_42 (bg_dX6_goAlong_24 6 42 rfl)
theorem dX6_goAlong_31 : decode cX6_goAlong 31 = .ok (.getfield 28, 3) := o_180 (bg_dX6_goAlong_24 7 180 rfl) (bg_dX6_goAlong_24 8 0 rfl) (bg_dX6_goAlong_24 9 28 rfl)
theorem dX6_goAlong_34 : decode cX6_goAlong 34 = .ok (.getfield 262, 3) := o_180 (bg_dX6_goAlong_24 10 180 rfl) (bg_dX6_goAlong_24 11 1 rfl) (bg_dX6_goAlong_24 12 6 rfl)
theorem dX6_goAlong_37 : decode cX6_goAlong 37 = .ok (.iconst 3, 1) := o_6 (bg_dX6_goAlong_24 13 6 rfl)
theorem dX6_goAlong_38 : decode cX6_goAlong 38 = .ok (.iaload, 1) := o_46 (bg_dX6_goAlong_24 14 46 rfl)
theorem dX6_goAlong_39 : decode cX6_goAlong 39 = .ok (.iastore, 1) := o_79 (bg_dX6_goAlong_24 15 79 rfl)
theorem dX6_goAlong_40 : decode cX6_goAlong 40 = .ok (.aload_n 2, 1) := o_44 (bg_dX6_goAlong_24 16 44 rfl)
theorem dX6_goAlong_41 : decode cX6_goAlong 41 = .ok (.iconst 2, 1) := o_5 (bg_dX6_goAlong_24 17 5 rfl)
theorem dX6_goAlong_42 : decode cX6_goAlong 42 = .ok (.dup2, 1) := o_92 (bg_dX6_goAlong_24 18 92 rfl)
theorem dX6_goAlong_43 : decode cX6_goAlong 43 = .ok (.iaload, 1) := o_46 (bg_dX6_goAlong_24 19 46 rfl)
theorem bg_dX6_goAlong_44 : bysAt cX6_goAlong 44 [42, 180, 0, 28, 180, 1, 6, 3, 46, 96, 79, 44, 6, 92, 46, 42, 180, 0, 28, 180, 1, 6] := bysAt_of (by decide +kernel)
theorem dX6_goAlong_44 : decode cX6_goAlong 44 = .ok (.aload_n 0, 1) := o_42 (bg_dX6_goAlong_44 0 42 rfl)
theorem dX6_goAlong_45 : decode cX6_goAlong 45 = .ok (.getfield 28, 3) := o_180 (bg_dX6_goAlong_44 1 180 rfl) (bg_dX6_goAlong_44 2 0 rfl) (bg_dX6_goAlong_44 3 28 rfl)
theorem dX6_goAlong_48 : decode cX6_goAlong 48 = .ok (.getfield 262, 3) := o_180 (bg_dX6_goAlong_44 4 180 rfl) (bg_dX6_goAlong_44 5 1 rfl) (bg_dX6_goAlong_44 6 6 rfl)
theorem dX6_goAlong_51 : decode cX6_goAlong 51 = .ok (.iconst 0, 1) := o_3 (bg_dX6_goAlong_44 7 3 rfl)
theorem dX6_goAlong_52 : decode cX6_goAlong 52 = .ok (.iaload, 1) := o_46 (bg_dX6_goAlong_44 8 46 rfl)
theorem dX6_goAlong_53 : decode cX6_goAlong 53 = .ok (.iadd, 1) := o_96 (bg_dX6_goAlong_44 9 96 rfl)
theorem dX6_goAlong_54 : decode cX6_goAlong 54 = .ok (.iastore, 1) := o_79 (bg_dX6_goAlong_44 10 79 rfl)
theorem dX6_goAlong_55 : decode cX6_goAlong 55 = .ok (.aload_n 2, 1) := o_44 (bg_dX6_goAlong_44 11 44 rfl)
theorem dX6_goAlong_56 : decode cX6_goAlong 56 = .ok (.iconst 3, 1) := o_6 (bg_dX6_goAlong_44 12 6 rfl)
theorem dX6_goAlong_57 : decode cX6_goAlong 57 = .ok (.dup2, 1) := o_92 (bg_dX6_goAlong_44 13 92 rfl)
theorem dX6_goAlong_58 : decode cX6_goAlong 58 = .ok (.iaload, 1) := o_46 (bg_dX6_goAlong_44 14 46 rfl)
theorem dX6_goAlong_59 : decode cX6_goAlong 59 = .ok (.aload_n 0, 1) := o_42 (bg_dX6_goAlong_44 15 42 rfl)
theorem dX6_goAlong_60 : decode cX6_goAlong 60 = .ok (.getfield 28, 3) := o_180 (bg_dX6_goAlong_44 16 180 rfl) (bg_dX6_goAlong_44 17 0 rfl) (bg_dX6_goAlong_44 18 28 rfl)
theorem dX6_goAlong_63 : decode cX6_goAlong 63 = .ok (.getfield 262, 3) := o_180 (bg_dX6_goAlong_44 19 180 rfl) (bg_dX6_goAlong_44 20 1 rfl) (bg_dX6_goAlong_44 21 6 rfl)
theorem bg_dX6_goAlong_66 : bysAt cX6_goAlong 66 [4, 46, 96, 79, 44, 7, 92, 46, 4, 96, 79, 42, 180, 0, 28, 27] := bysAt_of (by decide +kernel)
theorem dX6_goAlong_66 : decode cX6_goAlong 66 = .ok (.iconst 1, 1) := o_4 (bg_dX6_goAlong_66 0 4 rfl)
theorem dX6_goAlong_67 : decode cX6_goAlong 67 = .ok (.iaload, 1) := o_46 (bg_dX6_goAlong_66 1 46 rfl)
theorem dX6_goAlong_68 : decode cX6_goAlong 68 = .ok (.iadd, 1) := o_96 (bg_dX6_goAlong_66 2 96 rfl)
theorem dX6_goAlong_69 : decode cX6_goAlong 69 = .ok (.iastore, 1) := o_79 (bg_dX6_goAlong_66 3 79 rfl)
theorem dX6_goAlong_70 : decode cX6_goAlong 70 = .ok (.aload_n 2, 1) := o_44 (bg_dX6_goAlong_66 4 44 rfl)
theorem dX6_goAlong_71 : decode cX6_goAlong 71 = .ok (.iconst 4, 1) := o_7 (bg_dX6_goAlong_66 5 7 rfl)
theorem dX6_goAlong_72 : decode cX6_goAlong 72 = .ok (.dup2, 1) := o_92 (bg_dX6_goAlong_66 6 92 rfl)
theorem dX6_goAlong_73 : decode cX6_goAlong 73 = .ok (.iaload, 1) := o_46 (bg_dX6_goAlong_66 7 46 rfl)
theorem dX6_goAlong_74 : decode cX6_goAlong 74 = .ok (.iconst 1, 1) := o_4 (bg_dX6_goAlong_66 8 4 rfl)
theorem dX6_goAlong_75 : decode cX6_goAlong 75 = .ok (.iadd, 1) := o_96 (bg_dX6_goAlong_66 9 96 rfl)
theorem dX6_goAlong_76 : decode cX6_goAlong 76 = .ok (.iastore, 1) := o_79 (bg_dX6_goAlong_66 10 79 rfl)
theorem dX6_goAlong_77 : decode cX6_goAlong 77 = .ok (.aload_n 0, 1) := o_42 (bg_dX6_goAlong_66 11 42 rfl)
theorem dX6_goAlong_78 : decode cX6_goAlong 78 = .ok (.getfield 28, 3) := o_180 (bg_dX6_goAlong_66 12 180 rfl) (bg_dX6_goAlong_66 13 0 rfl) (bg_dX6_goAlong_66 14 28 rfl)
theorem dX6_goAlong_81 : decode cX6_goAlong 81 = .ok (.iload_n 1, 1) := o_27 (bg_dX6_goAlong_66 15 27 rfl)
theorem bg_dX6_goAlong_82 : bysAt cX6_goAlong 82 [182, 1, 88, 177] := bysAt_of (by decide +kernel)
theorem dX6_goAlong_82 : decode cX6_goAlong 82 = .ok (.invokevirtual 344, 3) := o_182 (bg_dX6_goAlong_82 0 182 rfl) (bg_dX6_goAlong_82 1 1 rfl) (bg_dX6_goAlong_82 2 88 rfl)
theorem dX6_goAlong_85 : decode cX6_goAlong 85 = .ok (.return_, 1) := o_177 (bg_dX6_goAlong_82 3 177 rfl)
theorem bg_dX6_hang_0 : bysAt cX6_hang 0 [42, 27, 28, 29, 21, 4, 182, 0, 238, 154, 0, 10, 42, 16, 254, 182, 0, 70, 172, 42, 180, 0, 10, 180, 1, 17] := bysAt_of (by decide +kernel)
theorem dX6_hang_0 : decode cX6_hang 0 = .ok (.aload_n 0, 1) := o_42 (bg_dX6_hang_0 0 42 rfl)
theorem dX6_hang_1 : decode cX6_hang 1 = .ok (.iload_n 1, 1) := o_27 (bg_dX6_hang_0 1 27 rfl)
theorem dX6_hang_2 : decode cX6_hang 2 = .ok (.iload_n 2, 1) := o_28 (bg_dX6_hang_0 2 28 rfl)
theorem dX6_hang_3 : decode cX6_hang 3 = .ok (.iload_n 3, 1) := o_29 (bg_dX6_hang_0 3 29 rfl)
theorem dX6_hang_4 : decode cX6_hang 4 = .ok (.iload 4, 2) := o_21 (bg_dX6_hang_0 4 21 rfl) (bg_dX6_hang_0 5 4 rfl)
theorem dX6_hang_6 : decode cX6_hang 6 = .ok (.invokevirtual 238, 3) := o_182 (bg_dX6_hang_0 6 182 rfl) (bg_dX6_hang_0 7 0 rfl) (bg_dX6_hang_0 8 238 rfl)
theorem dX6_hang_9 : decode cX6_hang 9 = .ok (.ifCond .ne 10, 3) := o_154 (bg_dX6_hang_0 9 154 rfl) (bg_dX6_hang_0 10 0 rfl) (bg_dX6_hang_0 11 10 rfl) (by decide +kernel)
theorem dX6_hang_12 : decode cX6_hang 12 = .ok (.aload_n 0, 1) := o_42 (bg_dX6_hang_0 12 42 rfl)
theorem dX6_hang_13 : decode cX6_hang 13 = .ok (.bipush (-2), 2) := o_16 (bg_dX6_hang_0 13 16 rfl) (bg_dX6_hang_0 14 254 rfl) (by decide +kernel)
theorem dX6_hang_15 : decode cX6_hang 15 = .ok (.invokevirtual 70, 3) := o_182 (bg_dX6_hang_0 15 182 rfl) (bg_dX6_hang_0 16 0 rfl) (bg_dX6_hang_0 17 70 rfl)
theorem dX6_hang_18 : decode cX6_hang 18 = .ok (.ireturn, 1) := o_172 (bg_dX6_hang_0 18 172 rfl)
theorem dX6_hang_19 : decode cX6_hang 19 = .ok (.aload_n 0, 1) := o_42 (bg_dX6_hang_0 19 42 rfl)
theorem dX6_hang_20 : decode cX6_hang 20 = .ok (.getfield 10, 3) := o_180 (bg_dX6_hang_0 20 180 rfl) (bg_dX6_hang_0 21 0 rfl) (bg_dX6_hang_0 22 10 rfl)
theorem dX6_hang_23 : decode cX6_hang 23 = .ok (.getfield 273, 3) := o_180 (bg_dX6_hang_0 23 180 rfl) (bg_dX6_hang_0 24 1 rfl) (bg_dX6_hang_0 25 17 rfl)
theorem bg_dX6_hang_26 : bysAt cX6_hang 26 [4, 46, 153, 0, 21, 42, 180, 0, 28, 27, 28, 29, 21, 4, 4, 182, 0, 242, 18, 255, 160, 0, 10, 42] := bysAt_of (by decide +kernel)
theorem dX6_hang_26 : decode cX6_hang 26 = .ok (.iconst 1, 1) := o_4 (bg_dX6_hang_26 0 4 rfl)
theorem dX6_hang_27 : decode cX6_hang 27 = .ok (.iaload, 1) := o_46 (bg_dX6_hang_26 1 46 rfl)
theorem dX6_hang_28 : decode cX6_hang 28 = .ok (.ifCond .eq 21, 3) := o_153 (bg_dX6_hang_26 2 153 rfl) (bg_dX6_hang_26 3 0 rfl) (bg_dX6_hang_26 4 21 rfl) (by decide +kernel)
theorem dX6_hang_31 : decode cX6_hang 31 = .ok (.aload_n 0, 1) := o_42 (bg_dX6_hang_26 5 42 rfl)
theorem dX6_hang_32 : decode cX6_hang 32 = .ok (.getfield 28, 3) := o_180 (bg_dX6_hang_26 6 180 rfl) (bg_dX6_hang_26 7 0 rfl) (bg_dX6_hang_26 8 28 rfl)
theorem dX6_hang_35 : decode cX6_hang 35 = .ok (.iload_n 1, 1) := o_27 (bg_dX6_hang_26 9 27 rfl)
theorem dX6_hang_36 : decode cX6_hang 36 = .ok (.iload_n 2, 1) := o_28 (bg_dX6_hang_26 10 28 rfl)
theorem dX6_hang_37 : decode cX6_hang 37 = .ok (.iload_n 3, 1) := o_29 (bg_dX6_hang_26 11 29 rfl)
theorem dX6_hang_38 : decode cX6_hang 38 = .ok (.iload 4, 2) := o_21 (bg_dX6_hang_26 12 21 rfl) (bg_dX6_hang_26 13 4 rfl)
theorem dX6_hang_40 : decode cX6_hang 40 = .ok (.iconst 1, 1) := o_4 (bg_dX6_hang_26 14 4 rfl)
theorem dX6_hang_41 : decode cX6_hang 41 = .ok (.invokevirtual 242, 3) := o_182 (bg_dX6_hang_26 15 182 rfl) (bg_dX6_hang_26 16 0 rfl) (bg_dX6_hang_26 17 242 rfl)
theorem dX6_hang_44 : decode cX6_hang 44 = .ok (.ldc 255, 2) := o_18 (bg_dX6_hang_26 18 18 rfl) (bg_dX6_hang_26 19 255 rfl)
theorem dX6_hang_46 : decode cX6_hang 46 = .ok (.if_icmp .ne 10, 3) := o_160 (bg_dX6_hang_26 20 160 rfl) (bg_dX6_hang_26 21 0 rfl) (bg_dX6_hang_26 22 10 rfl) (by decide +kernel)
theorem dX6_hang_49 : decode cX6_hang 49 = .ok (.aload_n 0, 1) := o_42 (bg_dX6_hang_26 23 42 rfl)
theorem bg_dX6_hang_50 : bysAt cX6_hang 50 [16, 251, 182, 0, 70, 172, 2, 54, 5, 2, 54, 6, 3, 54, 7, 21, 7, 42, 180, 0, 10, 180, 1, 17, 4] := bysAt_of (by decide +kernel)
theorem dX6_hang_50 : decode cX6_hang 50 = .ok (.bipush (-5), 2) := o_16 (bg_dX6_hang_50 0 16 rfl) (bg_dX6_hang_50 1 251 rfl) (by decide +kernel)
theorem dX6_hang_52 : decode cX6_hang 52 = .ok (.invokevirtual 70, 3) := o_182 (bg_dX6_hang_50 2 182 rfl) (bg_dX6_hang_50 3 0 rfl) (bg_dX6_hang_50 4 70 rfl)
theorem dX6_hang_55 : decode cX6_hang 55 = .ok (.ireturn, 1) := o_172 (bg_dX6_hang_50 5 172 rfl)
theorem dX6_hang_56 : decode cX6_hang 56 = .ok (.iconst (-1), 1) := o_2 (bg_dX6_hang_50 6 2 rfl)
theorem dX6_hang_57 : decode cX6_hang 57 = .ok (.istore 5, 2) := o_54 (bg_dX6_hang_50 7 54 rfl) (bg_dX6_hang_50 8 5 rfl)
theorem dX6_hang_59 : decode cX6_hang 59 = .ok (.iconst (-1), 1) := o_2 (bg_dX6_hang_50 9 2 rfl)
theorem dX6_hang_60 : decode cX6_hang 60 = .ok (.istore 6, 2) := o_54 (bg_dX6_hang_50 10 54 rfl) (bg_dX6_hang_50 11 6 rfl)
theorem dX6_hang_62 : decode cX6_hang 62 = .ok (.iconst 0, 1) := o_3 (bg_dX6_hang_50 12 3 rfl)
theorem dX6_hang_63 : decode cX6_hang 63 = .ok (.istore 7, 2) := o_54 (bg_dX6_hang_50 13 54 rfl) (bg_dX6_hang_50 14 7 rfl)
theorem dX6_hang_65 : decode cX6_hang 65 = .ok (.iload 7, 2) := o_21 (bg_dX6_hang_50 15 21 rfl) (bg_dX6_hang_50 16 7 rfl)
theorem dX6_hang_67 : decode cX6_hang 67 = .ok (.aload_n 0, 1) := o_42 (bg_dX6_hang_50 17 42 rfl)
theorem dX6_hang_68 : decode cX6_hang 68 = .ok (.getfield 10, 3) := o_180 (bg_dX6_hang_50 18 180 rfl) (bg_dX6_hang_50 19 0 rfl) (bg_dX6_hang_50 20 10 rfl)
theorem dX6_hang_71 : decode cX6_hang 71 = .ok (.getfield 273, 3) := o_180 (bg_dX6_hang_50 21 180 rfl) (bg_dX6_hang_50 22 1 rfl) (bg_dX6_hang_50 23 17 rfl)
theorem dX6_hang_74 : decode cX6_hang 74 = .ok (.iconst 1, 1) := o_4 (bg_dX6_hang_50 24 4 rfl)
theorem bg_dX6_hang_75 : bysAt cX6_hang 75 [46, 162, 0, 37, 42, 21, 7, 27, 28, 29, 21, 4, 182, 1, 20, 54, 8, 21, 8, 21, 6, 164, 0, 11, 21, 8] := bysAt_of (by decide +kernel)
theorem dX6_hang_75 : decode cX6_hang 75 = .ok (.iaload, 1) := o_46 (bg_dX6_hang_75 0 46 rfl)
theorem dX6_hang_76 : decode cX6_hang 76 = .ok (.if_icmp .ge 37, 3) := o_162 (bg_dX6_hang_75 1 162 rfl) (bg_dX6_hang_75 2 0 rfl) (bg_dX6_hang_75 3 37 rfl) (by decide +kernel)
theorem dX6_hang_79 : decode cX6_hang 79 = .ok (.aload_n 0, 1) := o_42 (bg_dX6_hang_75 4 42 rfl)
theorem dX6_hang_80 : decode cX6_hang 80 = .ok (.iload 7, 2) := o_21 (bg_dX6_hang_75 5 21 rfl) (bg_dX6_hang_75 6 7 rfl)
theorem dX6_hang_82 : decode cX6_hang 82 = .ok (.iload_n 1, 1) := o_27 (bg_dX6_hang_75 7 27 rfl)
theorem dX6_hang_83 : decode cX6_hang 83 = .ok (.iload_n 2, 1) := o_28 (bg_dX6_hang_75 8 28 rfl)
theorem dX6_hang_84 : decode cX6_hang 84 = .ok (.iload_n 3, 1) := o_29 (bg_dX6_hang_75 9 29 rfl)
theorem dX6_hang_85 : decode cX6_hang 85 = .ok (.iload 4, 2) := o_21 (bg_dX6_hang_75 10 21 rfl) (bg_dX6_hang_75 11 4 rfl)
theorem dX6_hang_87 : decode cX6_hang 87 = .ok (.invokevirtual 276, 3) := o_182 (bg_dX6_hang_75 12 182 rfl) (bg_dX6_hang_75 13 1 rfl) (bg_dX6_hang_75 14 20 rfl)
theorem dX6_hang_90 : decode cX6_hang 90 = .ok (.istore 8, 2) := o_54 (bg_dX6_hang_75 15 54 rfl) (bg_dX6_hang_75 16 8 rfl)
theorem dX6_hang_92 : decode cX6_hang 92 = .ok (.iload 8, 2) := o_21 (bg_dX6_hang_75 17 21 rfl) (bg_dX6_hang_75 18 8 rfl)
theorem dX6_hang_94 : decode cX6_hang 94 = .ok (.iload 6, 2) := o_21 (bg_dX6_hang_75 19 21 rfl) (bg_dX6_hang_75 20 6 rfl)
theorem dX6_hang_96 : decode cX6_hang 96 = .ok (.if_icmp .le 11, 3) := o_164 (bg_dX6_hang_75 21 164 rfl) (bg_dX6_hang_75 22 0 rfl) (bg_dX6_hang_75 23 11 rfl) (by decide +kernel)
theorem dX6_hang_99 : decode cX6_hang 99 = .ok (.iload 8, 2) := o_21 (bg_dX6_hang_75 24 21 rfl) (bg_dX6_hang_75 25 8 rfl)
theorem bg_dX6_hang_101 : bysAt cX6_hang 101 [54, 6, 21, 7, 54, 5, 132, 7, 1, 167, 255, 211, 21, 5, 172] := bysAt_of (by decide +kernel)
theorem dX6_hang_101 : decode cX6_hang 101 = .ok (.istore 6, 2) := o_54 (bg_dX6_hang_101 0 54 rfl) (bg_dX6_hang_101 1 6 rfl)
theorem dX6_hang_103 : decode cX6_hang 103 = .ok (.iload 7, 2) := o_21 (bg_dX6_hang_101 2 21 rfl) (bg_dX6_hang_101 3 7 rfl)
theorem dX6_hang_105 : decode cX6_hang 105 = .ok (.istore 5, 2) := o_54 (bg_dX6_hang_101 4 54 rfl) (bg_dX6_hang_101 5 5 rfl)
theorem dX6_hang_110 : decode cX6_hang 110 = .ok (.goto (-45), 3) := o_167 (bg_dX6_hang_101 9 167 rfl) (bg_dX6_hang_101 10 255 rfl) (bg_dX6_hang_101 11 211 rfl) (by decide +kernel)
theorem dX6_hang_113 : decode cX6_hang 113 = .ok (.iload 5, 2) := o_21 (bg_dX6_hang_101 12 21 rfl) (bg_dX6_hang_101 13 5 rfl)
theorem dX6_hang_115 : decode cX6_hang 115 = .ok (.ireturn, 1) := o_172 (bg_dX6_hang_101 14 172 rfl)
theorem bg_dX6_heaviest_0 : bysAt cX6_heaviest 0 [42, 180, 0, 10, 180, 0, 156, 3, 3, 79, 42, 180, 0, 28, 27, 3, 28, 29, 182, 1, 29, 154, 0, 5] := bysAt_of (by decide +kernel)
theorem dX6_heaviest_0 : decode cX6_heaviest 0 = .ok (.aload_n 0, 1) := o_42 (bg_dX6_heaviest_0 0 42 rfl)
theorem dX6_heaviest_1 : decode cX6_heaviest 1 = .ok (.getfield 10, 3) := o_180 (bg_dX6_heaviest_0 1 180 rfl) (bg_dX6_heaviest_0 2 0 rfl) (bg_dX6_heaviest_0 3 10 rfl)
theorem dX6_heaviest_4 : decode cX6_heaviest 4 = .ok (.getfield 156, 3) := o_180 (bg_dX6_heaviest_0 4 180 rfl) (bg_dX6_heaviest_0 5 0 rfl) (bg_dX6_heaviest_0 6 156 rfl)
theorem dX6_heaviest_7 : decode cX6_heaviest 7 = .ok (.iconst 0, 1) := o_3 (bg_dX6_heaviest_0 7 3 rfl)
theorem dX6_heaviest_8 : decode cX6_heaviest 8 = .ok (.iconst 0, 1) := o_3 (bg_dX6_heaviest_0 8 3 rfl)
theorem dX6_heaviest_9 : decode cX6_heaviest 9 = .ok (.iastore, 1) := o_79 (bg_dX6_heaviest_0 9 79 rfl)
theorem dX6_heaviest_10 : decode cX6_heaviest 10 = .ok (.aload_n 0, 1) := o_42 (bg_dX6_heaviest_0 10 42 rfl)
theorem dX6_heaviest_11 : decode cX6_heaviest 11 = .ok (.getfield 28, 3) := o_180 (bg_dX6_heaviest_0 11 180 rfl) (bg_dX6_heaviest_0 12 0 rfl) (bg_dX6_heaviest_0 13 28 rfl)
theorem dX6_heaviest_14 : decode cX6_heaviest 14 = .ok (.iload_n 1, 1) := o_27 (bg_dX6_heaviest_0 14 27 rfl)
theorem dX6_heaviest_15 : decode cX6_heaviest 15 = .ok (.iconst 0, 1) := o_3 (bg_dX6_heaviest_0 15 3 rfl)
theorem dX6_heaviest_16 : decode cX6_heaviest 16 = .ok (.iload_n 2, 1) := o_28 (bg_dX6_heaviest_0 16 28 rfl)
theorem dX6_heaviest_17 : decode cX6_heaviest 17 = .ok (.iload_n 3, 1) := o_29 (bg_dX6_heaviest_0 17 29 rfl)
theorem dX6_heaviest_18 : decode cX6_heaviest 18 = .ok (.invokevirtual 285, 3) := o_182 (bg_dX6_heaviest_0 18 182 rfl) (bg_dX6_heaviest_0 19 1 rfl) (bg_dX6_heaviest_0 20 29 rfl)
theorem dX6_heaviest_21 : decode cX6_heaviest 21 = .ok (.ifCond .ne 5, 3) := o_154 (bg_dX6_heaviest_0 21 154 rfl) (bg_dX6_heaviest_0 22 0 rfl) (bg_dX6_heaviest_0 23 5 rfl) (by decide +kernel)
theorem bg_dX6_heaviest_24 : bysAt cX6_heaviest 24 [2, 172, 3, 54, 4, 17, 2, 0, 54, 5, 21, 5, 158, 0, 58, 42, 180, 0, 10, 180, 0, 156, 3, 21, 4, 21, 5] := bysAt_of (by decide +kernel)
theorem dX6_heaviest_24 : decode cX6_heaviest 24 = .ok (.iconst (-1), 1) := o_2 (bg_dX6_heaviest_24 0 2 rfl)
theorem dX6_heaviest_25 : decode cX6_heaviest 25 = .ok (.ireturn, 1) := o_172 (bg_dX6_heaviest_24 1 172 rfl)
theorem dX6_heaviest_26 : decode cX6_heaviest 26 = .ok (.iconst 0, 1) := o_3 (bg_dX6_heaviest_24 2 3 rfl)
theorem dX6_heaviest_27 : decode cX6_heaviest 27 = .ok (.istore 4, 2) := o_54 (bg_dX6_heaviest_24 3 54 rfl) (bg_dX6_heaviest_24 4 4 rfl)
theorem dX6_heaviest_29 : decode cX6_heaviest 29 = .ok (.sipush 512, 3) := o_17 (bg_dX6_heaviest_24 5 17 rfl) (bg_dX6_heaviest_24 6 2 rfl) (bg_dX6_heaviest_24 7 0 rfl) (by decide +kernel)
theorem dX6_heaviest_32 : decode cX6_heaviest 32 = .ok (.istore 5, 2) := o_54 (bg_dX6_heaviest_24 8 54 rfl) (bg_dX6_heaviest_24 9 5 rfl)
theorem dX6_heaviest_34 : decode cX6_heaviest 34 = .ok (.iload 5, 2) := o_21 (bg_dX6_heaviest_24 10 21 rfl) (bg_dX6_heaviest_24 11 5 rfl)
theorem dX6_heaviest_36 : decode cX6_heaviest 36 = .ok (.ifCond .le 58, 3) := o_158 (bg_dX6_heaviest_24 12 158 rfl) (bg_dX6_heaviest_24 13 0 rfl) (bg_dX6_heaviest_24 14 58 rfl) (by decide +kernel)
theorem dX6_heaviest_39 : decode cX6_heaviest 39 = .ok (.aload_n 0, 1) := o_42 (bg_dX6_heaviest_24 15 42 rfl)
theorem dX6_heaviest_40 : decode cX6_heaviest 40 = .ok (.getfield 10, 3) := o_180 (bg_dX6_heaviest_24 16 180 rfl) (bg_dX6_heaviest_24 17 0 rfl) (bg_dX6_heaviest_24 18 10 rfl)
theorem dX6_heaviest_43 : decode cX6_heaviest 43 = .ok (.getfield 156, 3) := o_180 (bg_dX6_heaviest_24 19 180 rfl) (bg_dX6_heaviest_24 20 0 rfl) (bg_dX6_heaviest_24 21 156 rfl)
theorem dX6_heaviest_46 : decode cX6_heaviest 46 = .ok (.iconst 0, 1) := o_3 (bg_dX6_heaviest_24 22 3 rfl)
theorem dX6_heaviest_47 : decode cX6_heaviest 47 = .ok (.iload 4, 2) := o_21 (bg_dX6_heaviest_24 23 21 rfl) (bg_dX6_heaviest_24 24 4 rfl)
theorem dX6_heaviest_49 : decode cX6_heaviest 49 = .ok (.iload 5, 2) := o_21 (bg_dX6_heaviest_24 25 21 rfl) (bg_dX6_heaviest_24 26 5 rfl)
theorem bg_dX6_heaviest_51 : bysAt cX6_heaviest 51 [96, 79, 21, 4, 21, 5, 96, 17, 3, 132, 163, 0, 24, 42, 180, 0, 28, 27, 3, 28, 29, 182, 1, 29] := bysAt_of (by decide +kernel)
theorem dX6_heaviest_51 : decode cX6_heaviest 51 = .ok (.iadd, 1) := o_96 (bg_dX6_heaviest_51 0 96 rfl)
theorem dX6_heaviest_52 : decode cX6_heaviest 52 = .ok (.iastore, 1) := o_79 (bg_dX6_heaviest_51 1 79 rfl)
theorem dX6_heaviest_53 : decode cX6_heaviest 53 = .ok (.iload 4, 2) := o_21 (bg_dX6_heaviest_51 2 21 rfl) (bg_dX6_heaviest_51 3 4 rfl)
theorem dX6_heaviest_55 : decode cX6_heaviest 55 = .ok (.iload 5, 2) := o_21 (bg_dX6_heaviest_51 4 21 rfl) (bg_dX6_heaviest_51 5 5 rfl)
theorem dX6_heaviest_57 : decode cX6_heaviest 57 = .ok (.iadd, 1) := o_96 (bg_dX6_heaviest_51 6 96 rfl)
theorem dX6_heaviest_58 : decode cX6_heaviest 58 = .ok (.sipush 900, 3) := o_17 (bg_dX6_heaviest_51 7 17 rfl) (bg_dX6_heaviest_51 8 3 rfl) (bg_dX6_heaviest_51 9 132 rfl) (by decide +kernel)
theorem dX6_heaviest_61 : decode cX6_heaviest 61 = .ok (.if_icmp .gt 24, 3) := o_163 (bg_dX6_heaviest_51 10 163 rfl) (bg_dX6_heaviest_51 11 0 rfl) (bg_dX6_heaviest_51 12 24 rfl) (by decide +kernel)
theorem dX6_heaviest_64 : decode cX6_heaviest 64 = .ok (.aload_n 0, 1) := o_42 (bg_dX6_heaviest_51 13 42 rfl)
theorem dX6_heaviest_65 : decode cX6_heaviest 65 = .ok (.getfield 28, 3) := o_180 (bg_dX6_heaviest_51 14 180 rfl) (bg_dX6_heaviest_51 15 0 rfl) (bg_dX6_heaviest_51 16 28 rfl)
theorem dX6_heaviest_68 : decode cX6_heaviest 68 = .ok (.iload_n 1, 1) := o_27 (bg_dX6_heaviest_51 17 27 rfl)
theorem dX6_heaviest_69 : decode cX6_heaviest 69 = .ok (.iconst 0, 1) := o_3 (bg_dX6_heaviest_51 18 3 rfl)
theorem dX6_heaviest_70 : decode cX6_heaviest 70 = .ok (.iload_n 2, 1) := o_28 (bg_dX6_heaviest_51 19 28 rfl)
theorem dX6_heaviest_71 : decode cX6_heaviest 71 = .ok (.iload_n 3, 1) := o_29 (bg_dX6_heaviest_51 20 29 rfl)
theorem dX6_heaviest_72 : decode cX6_heaviest 72 = .ok (.invokevirtual 285, 3) := o_182 (bg_dX6_heaviest_51 21 182 rfl) (bg_dX6_heaviest_51 22 1 rfl) (bg_dX6_heaviest_51 23 29 rfl)
theorem bg_dX6_heaviest_75 : bysAt cX6_heaviest 75 [153, 0, 10, 21, 4, 21, 5, 96, 54, 4, 21, 5, 5, 108, 54, 5, 167, 255, 199, 21, 4, 172] := bysAt_of (by decide +kernel)
theorem dX6_heaviest_75 : decode cX6_heaviest 75 = .ok (.ifCond .eq 10, 3) := o_153 (bg_dX6_heaviest_75 0 153 rfl) (bg_dX6_heaviest_75 1 0 rfl) (bg_dX6_heaviest_75 2 10 rfl) (by decide +kernel)
theorem dX6_heaviest_78 : decode cX6_heaviest 78 = .ok (.iload 4, 2) := o_21 (bg_dX6_heaviest_75 3 21 rfl) (bg_dX6_heaviest_75 4 4 rfl)
theorem dX6_heaviest_80 : decode cX6_heaviest 80 = .ok (.iload 5, 2) := o_21 (bg_dX6_heaviest_75 5 21 rfl) (bg_dX6_heaviest_75 6 5 rfl)
theorem dX6_heaviest_82 : decode cX6_heaviest 82 = .ok (.iadd, 1) := o_96 (bg_dX6_heaviest_75 7 96 rfl)
theorem dX6_heaviest_83 : decode cX6_heaviest 83 = .ok (.istore 4, 2) := o_54 (bg_dX6_heaviest_75 8 54 rfl) (bg_dX6_heaviest_75 9 4 rfl)
theorem dX6_heaviest_85 : decode cX6_heaviest 85 = .ok (.iload 5, 2) := o_21 (bg_dX6_heaviest_75 10 21 rfl) (bg_dX6_heaviest_75 11 5 rfl)
theorem dX6_heaviest_87 : decode cX6_heaviest 87 = .ok (.iconst 2, 1) := o_5 (bg_dX6_heaviest_75 12 5 rfl)
theorem dX6_heaviest_88 : decode cX6_heaviest 88 = .ok (.idiv, 1) := o_108 (bg_dX6_heaviest_75 13 108 rfl)
theorem dX6_heaviest_89 : decode cX6_heaviest 89 = .ok (.istore 5, 2) := o_54 (bg_dX6_heaviest_75 14 54 rfl) (bg_dX6_heaviest_75 15 5 rfl)
theorem dX6_heaviest_91 : decode cX6_heaviest 91 = .ok (.goto (-57), 3) := o_167 (bg_dX6_heaviest_75 16 167 rfl) (bg_dX6_heaviest_75 17 255 rfl) (bg_dX6_heaviest_75 18 199 rfl) (by decide +kernel)
theorem dX6_heaviest_94 : decode cX6_heaviest 94 = .ok (.iload 4, 2) := o_21 (bg_dX6_heaviest_75 19 21 rfl) (bg_dX6_heaviest_75 20 4 rfl)
theorem dX6_heaviest_96 : decode cX6_heaviest 96 = .ok (.ireturn, 1) := o_172 (bg_dX6_heaviest_75 21 172 rfl)
theorem bg_dX6_image_0 : bysAt cX6_image 0 [42, 180, 0, 16, 42, 180, 0, 10, 182, 1, 58, 42, 4, 181, 0, 19, 4, 172] := bysAt_of (by decide +kernel)
theorem dX6_image_0 : decode cX6_image 0 = .ok (.aload_n 0, 1) := o_42 (bg_dX6_image_0 0 42 rfl)
theorem dX6_image_1 : decode cX6_image 1 = .ok (.getfield 16, 3) := o_180 (bg_dX6_image_0 1 180 rfl) (bg_dX6_image_0 2 0 rfl) (bg_dX6_image_0 3 16 rfl)
theorem dX6_image_4 : decode cX6_image 4 = .ok (.aload_n 0, 1) := o_42 (bg_dX6_image_0 4 42 rfl)
theorem dX6_image_5 : decode cX6_image 5 = .ok (.getfield 10, 3) := o_180 (bg_dX6_image_0 5 180 rfl) (bg_dX6_image_0 6 0 rfl) (bg_dX6_image_0 7 10 rfl)
theorem dX6_image_8 : decode cX6_image 8 = .ok (.invokevirtual 314, 3) := o_182 (bg_dX6_image_0 8 182 rfl) (bg_dX6_image_0 9 1 rfl) (bg_dX6_image_0 10 58 rfl)
theorem dX6_image_11 : decode cX6_image 11 = .ok (.aload_n 0, 1) := o_42 (bg_dX6_image_0 11 42 rfl)
theorem dX6_image_12 : decode cX6_image 12 = .ok (.iconst 1, 1) := o_4 (bg_dX6_image_0 12 4 rfl)
theorem dX6_image_13 : decode cX6_image 13 = .ok (.putfield 19, 3) := o_181 (bg_dX6_image_0 13 181 rfl) (bg_dX6_image_0 14 0 rfl) (bg_dX6_image_0 15 19 rfl)
theorem dX6_image_16 : decode cX6_image 16 = .ok (.iconst 1, 1) := o_4 (bg_dX6_image_0 16 4 rfl)
theorem dX6_image_17 : decode cX6_image 17 = .ok (.ireturn, 1) := o_172 (bg_dX6_image_0 17 172 rfl)
theorem bg_dX6_judge_0 : bysAt cX6_judge 0 [42, 27, 28, 29, 21, 4, 21, 5, 182, 1, 0, 54, 6, 21, 6, 153, 0, 10, 42, 21, 6, 182, 0, 70, 172] := bysAt_of (by decide +kernel)
theorem dX6_judge_0 : decode cX6_judge 0 = .ok (.aload_n 0, 1) := o_42 (bg_dX6_judge_0 0 42 rfl)
theorem dX6_judge_1 : decode cX6_judge 1 = .ok (.iload_n 1, 1) := o_27 (bg_dX6_judge_0 1 27 rfl)
theorem dX6_judge_2 : decode cX6_judge 2 = .ok (.iload_n 2, 1) := o_28 (bg_dX6_judge_0 2 28 rfl)
theorem dX6_judge_3 : decode cX6_judge 3 = .ok (.iload_n 3, 1) := o_29 (bg_dX6_judge_0 3 29 rfl)
theorem dX6_judge_4 : decode cX6_judge 4 = .ok (.iload 4, 2) := o_21 (bg_dX6_judge_0 4 21 rfl) (bg_dX6_judge_0 5 4 rfl)
theorem dX6_judge_6 : decode cX6_judge 6 = .ok (.iload 5, 2) := o_21 (bg_dX6_judge_0 6 21 rfl) (bg_dX6_judge_0 7 5 rfl)
theorem dX6_judge_8 : decode cX6_judge 8 = .ok (.invokevirtual 256, 3) := o_182 (bg_dX6_judge_0 8 182 rfl) (bg_dX6_judge_0 9 1 rfl) (bg_dX6_judge_0 10 0 rfl)
theorem dX6_judge_11 : decode cX6_judge 11 = .ok (.istore 6, 2) := o_54 (bg_dX6_judge_0 11 54 rfl) (bg_dX6_judge_0 12 6 rfl)
theorem dX6_judge_13 : decode cX6_judge 13 = .ok (.iload 6, 2) := o_21 (bg_dX6_judge_0 13 21 rfl) (bg_dX6_judge_0 14 6 rfl)
theorem dX6_judge_15 : decode cX6_judge 15 = .ok (.ifCond .eq 10, 3) := o_153 (bg_dX6_judge_0 15 153 rfl) (bg_dX6_judge_0 16 0 rfl) (bg_dX6_judge_0 17 10 rfl) (by decide +kernel)
theorem dX6_judge_18 : decode cX6_judge 18 = .ok (.aload_n 0, 1) := o_42 (bg_dX6_judge_0 18 42 rfl)
theorem dX6_judge_19 : decode cX6_judge 19 = .ok (.iload 6, 2) := o_21 (bg_dX6_judge_0 19 21 rfl) (bg_dX6_judge_0 20 6 rfl)
theorem dX6_judge_21 : decode cX6_judge 21 = .ok (.invokevirtual 70, 3) := o_182 (bg_dX6_judge_0 21 182 rfl) (bg_dX6_judge_0 22 0 rfl) (bg_dX6_judge_0 23 70 rfl)
theorem dX6_judge_24 : decode cX6_judge 24 = .ok (.ireturn, 1) := o_172 (bg_dX6_judge_0 24 172 rfl)
theorem bg_dX6_judge_25 : bysAt cX6_judge 25 [42, 180, 0, 28, 27, 28, 182, 0, 223, 42, 29, 21, 4, 21, 5, 182, 1, 3, 172] := bysAt_of (by decide +kernel)
theorem dX6_judge_25 : decode cX6_judge 25 = .ok (.aload_n 0, 1) := o_42 (bg_dX6_judge_25 0 42 rfl)
theorem dX6_judge_26 : decode cX6_judge 26 = .ok (.getfield 28, 3) := o_180 (bg_dX6_judge_25 1 180 rfl) (bg_dX6_judge_25 2 0 rfl) (bg_dX6_judge_25 3 28 rfl)
theorem dX6_judge_29 : decode cX6_judge 29 = .ok (.iload_n 1, 1) := o_27 (bg_dX6_judge_25 4 27 rfl)
theorem dX6_judge_30 : decode cX6_judge 30 = .ok (.iload_n 2, 1) := o_28 (bg_dX6_judge_25 5 28 rfl)
theorem dX6_judge_31 : decode cX6_judge 31 = .ok (.invokevirtual 223, 3) := o_182 (bg_dX6_judge_25 6 182 rfl) (bg_dX6_judge_25 7 0 rfl) (bg_dX6_judge_25 8 223 rfl)
theorem dX6_judge_34 : decode cX6_judge 34 = .ok (.aload_n 0, 1) := o_42 (bg_dX6_judge_25 9 42 rfl)
theorem dX6_judge_35 : decode cX6_judge 35 = .ok (.iload_n 3, 1) := o_29 (bg_dX6_judge_25 10 29 rfl)
theorem dX6_judge_36 : decode cX6_judge 36 = .ok (.iload 4, 2) := o_21 (bg_dX6_judge_25 11 21 rfl) (bg_dX6_judge_25 12 4 rfl)
theorem dX6_judge_38 : decode cX6_judge 38 = .ok (.iload 5, 2) := o_21 (bg_dX6_judge_25 13 21 rfl) (bg_dX6_judge_25 14 5 rfl)
theorem dX6_judge_40 : decode cX6_judge 40 = .ok (.invokevirtual 259, 3) := o_182 (bg_dX6_judge_25 15 182 rfl) (bg_dX6_judge_25 16 1 rfl) (bg_dX6_judge_25 17 3 rfl)
theorem dX6_judge_43 : decode cX6_judge 43 = .ok (.ireturn, 1) := o_172 (bg_dX6_judge_25 18 172 rfl)
theorem bg_dX6_most_0 : bysAt cX6_most 0 [42, 27, 182, 0, 194, 153, 0, 17, 28, 184, 0, 126, 153, 0, 10, 29, 184, 0, 126, 154, 0, 10, 42, 16, 254, 182, 0, 70, 172] := bysAt_of (by decide +kernel)
theorem dX6_most_0 : decode cX6_most 0 = .ok (.aload_n 0, 1) := o_42 (bg_dX6_most_0 0 42 rfl)
theorem dX6_most_1 : decode cX6_most 1 = .ok (.iload_n 1, 1) := o_27 (bg_dX6_most_0 1 27 rfl)
theorem dX6_most_2 : decode cX6_most 2 = .ok (.invokevirtual 194, 3) := o_182 (bg_dX6_most_0 2 182 rfl) (bg_dX6_most_0 3 0 rfl) (bg_dX6_most_0 4 194 rfl)
theorem dX6_most_5 : decode cX6_most 5 = .ok (.ifCond .eq 17, 3) := o_153 (bg_dX6_most_0 5 153 rfl) (bg_dX6_most_0 6 0 rfl) (bg_dX6_most_0 7 17 rfl) (by decide +kernel)
theorem dX6_most_8 : decode cX6_most 8 = .ok (.iload_n 2, 1) := o_28 (bg_dX6_most_0 8 28 rfl)
theorem dX6_most_9 : decode cX6_most 9 = .ok (.invokestatic 126, 3) := o_184 (bg_dX6_most_0 9 184 rfl) (bg_dX6_most_0 10 0 rfl) (bg_dX6_most_0 11 126 rfl)
theorem dX6_most_12 : decode cX6_most 12 = .ok (.ifCond .eq 10, 3) := o_153 (bg_dX6_most_0 12 153 rfl) (bg_dX6_most_0 13 0 rfl) (bg_dX6_most_0 14 10 rfl) (by decide +kernel)
theorem dX6_most_15 : decode cX6_most 15 = .ok (.iload_n 3, 1) := o_29 (bg_dX6_most_0 15 29 rfl)
theorem dX6_most_16 : decode cX6_most 16 = .ok (.invokestatic 126, 3) := o_184 (bg_dX6_most_0 16 184 rfl) (bg_dX6_most_0 17 0 rfl) (bg_dX6_most_0 18 126 rfl)
theorem dX6_most_19 : decode cX6_most 19 = .ok (.ifCond .ne 10, 3) := o_154 (bg_dX6_most_0 19 154 rfl) (bg_dX6_most_0 20 0 rfl) (bg_dX6_most_0 21 10 rfl) (by decide +kernel)
theorem dX6_most_22 : decode cX6_most 22 = .ok (.aload_n 0, 1) := o_42 (bg_dX6_most_0 22 42 rfl)
theorem dX6_most_23 : decode cX6_most 23 = .ok (.bipush (-2), 2) := o_16 (bg_dX6_most_0 23 16 rfl) (bg_dX6_most_0 24 254 rfl) (by decide +kernel)
theorem dX6_most_25 : decode cX6_most 25 = .ok (.invokevirtual 70, 3) := o_182 (bg_dX6_most_0 25 182 rfl) (bg_dX6_most_0 26 0 rfl) (bg_dX6_most_0 27 70 rfl)
theorem dX6_most_28 : decode cX6_most 28 = .ok (.ireturn, 1) := o_172 (bg_dX6_most_0 28 172 rfl)
theorem bg_dX6_most_29 : bysAt cX6_most 29 [42, 180, 0, 10, 180, 0, 156, 3, 46, 54, 4, 42, 27, 28, 29, 182, 1, 32, 54, 5, 42, 180, 0, 10] := bysAt_of (by decide +kernel)
theorem dX6_most_29 : decode cX6_most 29 = .ok (.aload_n 0, 1) := o_42 (bg_dX6_most_29 0 42 rfl)
theorem dX6_most_30 : decode cX6_most 30 = .ok (.getfield 10, 3) := o_180 (bg_dX6_most_29 1 180 rfl) (bg_dX6_most_29 2 0 rfl) (bg_dX6_most_29 3 10 rfl)
theorem dX6_most_33 : decode cX6_most 33 = .ok (.getfield 156, 3) := o_180 (bg_dX6_most_29 4 180 rfl) (bg_dX6_most_29 5 0 rfl) (bg_dX6_most_29 6 156 rfl)
theorem dX6_most_36 : decode cX6_most 36 = .ok (.iconst 0, 1) := o_3 (bg_dX6_most_29 7 3 rfl)
theorem dX6_most_37 : decode cX6_most 37 = .ok (.iaload, 1) := o_46 (bg_dX6_most_29 8 46 rfl)
theorem dX6_most_38 : decode cX6_most 38 = .ok (.istore 4, 2) := o_54 (bg_dX6_most_29 9 54 rfl) (bg_dX6_most_29 10 4 rfl)
theorem dX6_most_40 : decode cX6_most 40 = .ok (.aload_n 0, 1) := o_42 (bg_dX6_most_29 11 42 rfl)
theorem dX6_most_41 : decode cX6_most 41 = .ok (.iload_n 1, 1) := o_27 (bg_dX6_most_29 12 27 rfl)
theorem dX6_most_42 : decode cX6_most 42 = .ok (.iload_n 2, 1) := o_28 (bg_dX6_most_29 13 28 rfl)
theorem dX6_most_43 : decode cX6_most 43 = .ok (.iload_n 3, 1) := o_29 (bg_dX6_most_29 14 29 rfl)
theorem dX6_most_44 : decode cX6_most 44 = .ok (.invokevirtual 288, 3) := o_182 (bg_dX6_most_29 15 182 rfl) (bg_dX6_most_29 16 1 rfl) (bg_dX6_most_29 17 32 rfl)
theorem dX6_most_47 : decode cX6_most 47 = .ok (.istore 5, 2) := o_54 (bg_dX6_most_29 18 54 rfl) (bg_dX6_most_29 19 5 rfl)
theorem dX6_most_49 : decode cX6_most 49 = .ok (.aload_n 0, 1) := o_42 (bg_dX6_most_29 20 42 rfl)
theorem dX6_most_50 : decode cX6_most 50 = .ok (.getfield 10, 3) := o_180 (bg_dX6_most_29 21 180 rfl) (bg_dX6_most_29 22 0 rfl) (bg_dX6_most_29 23 10 rfl)
theorem bg_dX6_most_53 : bysAt cX6_most 53 [180, 0, 156, 3, 21, 4, 79, 21, 5, 2, 160, 0, 12, 42, 16, 251, 182, 0, 70, 167, 0, 5, 21, 5, 172] := bysAt_of (by decide +kernel)
theorem dX6_most_53 : decode cX6_most 53 = .ok (.getfield 156, 3) := o_180 (bg_dX6_most_53 0 180 rfl) (bg_dX6_most_53 1 0 rfl) (bg_dX6_most_53 2 156 rfl)
theorem dX6_most_56 : decode cX6_most 56 = .ok (.iconst 0, 1) := o_3 (bg_dX6_most_53 3 3 rfl)
theorem dX6_most_57 : decode cX6_most 57 = .ok (.iload 4, 2) := o_21 (bg_dX6_most_53 4 21 rfl) (bg_dX6_most_53 5 4 rfl)
theorem dX6_most_59 : decode cX6_most 59 = .ok (.iastore, 1) := o_79 (bg_dX6_most_53 6 79 rfl)
theorem dX6_most_60 : decode cX6_most 60 = .ok (.iload 5, 2) := o_21 (bg_dX6_most_53 7 21 rfl) (bg_dX6_most_53 8 5 rfl)
theorem dX6_most_62 : decode cX6_most 62 = .ok (.iconst (-1), 1) := o_2 (bg_dX6_most_53 9 2 rfl)
theorem dX6_most_63 : decode cX6_most 63 = .ok (.if_icmp .ne 12, 3) := o_160 (bg_dX6_most_53 10 160 rfl) (bg_dX6_most_53 11 0 rfl) (bg_dX6_most_53 12 12 rfl) (by decide +kernel)
theorem dX6_most_66 : decode cX6_most 66 = .ok (.aload_n 0, 1) := o_42 (bg_dX6_most_53 13 42 rfl)
theorem dX6_most_67 : decode cX6_most 67 = .ok (.bipush (-5), 2) := o_16 (bg_dX6_most_53 14 16 rfl) (bg_dX6_most_53 15 251 rfl) (by decide +kernel)
theorem dX6_most_69 : decode cX6_most 69 = .ok (.invokevirtual 70, 3) := o_182 (bg_dX6_most_53 16 182 rfl) (bg_dX6_most_53 17 0 rfl) (bg_dX6_most_53 18 70 rfl)
theorem dX6_most_72 : decode cX6_most 72 = .ok (.goto 5, 3) := o_167 (bg_dX6_most_53 19 167 rfl) (bg_dX6_most_53 20 0 rfl) (bg_dX6_most_53 21 5 rfl) (by decide +kernel)
theorem dX6_most_75 : decode cX6_most 75 = .ok (.iload 5, 2) := o_21 (bg_dX6_most_53 22 21 rfl) (bg_dX6_most_53 23 5 rfl)
theorem dX6_most_77 : decode cX6_most 77 = .ok (.ireturn, 1) := o_172 (bg_dX6_most_53 24 172 rfl)
theorem bg_dX6_reach_0 : bysAt cX6_reach 0 [42, 27, 28, 182, 0, 200, 153, 0, 10, 29, 184, 0, 126, 154, 0, 10, 42, 16, 254, 182, 0, 70, 172, 42, 180, 0, 28] := bysAt_of (by decide +kernel)
theorem dX6_reach_0 : decode cX6_reach 0 = .ok (.aload_n 0, 1) := o_42 (bg_dX6_reach_0 0 42 rfl)
theorem dX6_reach_1 : decode cX6_reach 1 = .ok (.iload_n 1, 1) := o_27 (bg_dX6_reach_0 1 27 rfl)
theorem dX6_reach_2 : decode cX6_reach 2 = .ok (.iload_n 2, 1) := o_28 (bg_dX6_reach_0 2 28 rfl)
theorem dX6_reach_3 : decode cX6_reach 3 = .ok (.invokevirtual 200, 3) := o_182 (bg_dX6_reach_0 3 182 rfl) (bg_dX6_reach_0 4 0 rfl) (bg_dX6_reach_0 5 200 rfl)
theorem dX6_reach_6 : decode cX6_reach 6 = .ok (.ifCond .eq 10, 3) := o_153 (bg_dX6_reach_0 6 153 rfl) (bg_dX6_reach_0 7 0 rfl) (bg_dX6_reach_0 8 10 rfl) (by decide +kernel)
theorem dX6_reach_9 : decode cX6_reach 9 = .ok (.iload_n 3, 1) := o_29 (bg_dX6_reach_0 9 29 rfl)
theorem dX6_reach_10 : decode cX6_reach 10 = .ok (.invokestatic 126, 3) := o_184 (bg_dX6_reach_0 10 184 rfl) (bg_dX6_reach_0 11 0 rfl) (bg_dX6_reach_0 12 126 rfl)
theorem dX6_reach_13 : decode cX6_reach 13 = .ok (.ifCond .ne 10, 3) := o_154 (bg_dX6_reach_0 13 154 rfl) (bg_dX6_reach_0 14 0 rfl) (bg_dX6_reach_0 15 10 rfl) (by decide +kernel)
theorem dX6_reach_16 : decode cX6_reach 16 = .ok (.aload_n 0, 1) := o_42 (bg_dX6_reach_0 16 42 rfl)
theorem dX6_reach_17 : decode cX6_reach 17 = .ok (.bipush (-2), 2) := o_16 (bg_dX6_reach_0 17 16 rfl) (bg_dX6_reach_0 18 254 rfl) (by decide +kernel)
theorem dX6_reach_19 : decode cX6_reach 19 = .ok (.invokevirtual 70, 3) := o_182 (bg_dX6_reach_0 19 182 rfl) (bg_dX6_reach_0 20 0 rfl) (bg_dX6_reach_0 21 70 rfl)
theorem dX6_reach_22 : decode cX6_reach 22 = .ok (.ireturn, 1) := o_172 (bg_dX6_reach_0 22 172 rfl)
theorem dX6_reach_23 : decode cX6_reach 23 = .ok (.aload_n 0, 1) := o_42 (bg_dX6_reach_0 23 42 rfl)
theorem dX6_reach_24 : decode cX6_reach 24 = .ok (.getfield 28, 3) := o_180 (bg_dX6_reach_0 24 180 rfl) (bg_dX6_reach_0 25 0 rfl) (bg_dX6_reach_0 26 28 rfl)
theorem bg_dX6_reach_27 : bysAt cX6_reach 27 [27, 28, 29, 182, 1, 14, 172] := bysAt_of (by decide +kernel)
theorem dX6_reach_27 : decode cX6_reach 27 = .ok (.iload_n 1, 1) := o_27 (bg_dX6_reach_27 0 27 rfl)
theorem dX6_reach_28 : decode cX6_reach 28 = .ok (.iload_n 2, 1) := o_28 (bg_dX6_reach_27 1 28 rfl)
theorem dX6_reach_29 : decode cX6_reach 29 = .ok (.iload_n 3, 1) := o_29 (bg_dX6_reach_27 2 29 rfl)
theorem dX6_reach_30 : decode cX6_reach 30 = .ok (.invokevirtual 270, 3) := o_182 (bg_dX6_reach_27 3 182 rfl) (bg_dX6_reach_27 4 1 rfl) (bg_dX6_reach_27 5 14 rfl)
theorem dX6_reach_33 : decode cX6_reach 33 = .ok (.ireturn, 1) := o_172 (bg_dX6_reach_27 6 172 rfl)
theorem bg_dX6_soonest_0 : bysAt cX6_soonest 0 [42, 27, 28, 29, 21, 4, 182, 0, 238, 154, 0, 10, 42, 16, 254, 182, 0, 70, 172, 42, 42, 180, 0, 28] := bysAt_of (by decide +kernel)
theorem dX6_soonest_0 : decode cX6_soonest 0 = .ok (.aload_n 0, 1) := o_42 (bg_dX6_soonest_0 0 42 rfl)
theorem dX6_soonest_1 : decode cX6_soonest 1 = .ok (.iload_n 1, 1) := o_27 (bg_dX6_soonest_0 1 27 rfl)
theorem dX6_soonest_2 : decode cX6_soonest 2 = .ok (.iload_n 2, 1) := o_28 (bg_dX6_soonest_0 2 28 rfl)
theorem dX6_soonest_3 : decode cX6_soonest 3 = .ok (.iload_n 3, 1) := o_29 (bg_dX6_soonest_0 3 29 rfl)
theorem dX6_soonest_4 : decode cX6_soonest 4 = .ok (.iload 4, 2) := o_21 (bg_dX6_soonest_0 4 21 rfl) (bg_dX6_soonest_0 5 4 rfl)
theorem dX6_soonest_6 : decode cX6_soonest 6 = .ok (.invokevirtual 238, 3) := o_182 (bg_dX6_soonest_0 6 182 rfl) (bg_dX6_soonest_0 7 0 rfl) (bg_dX6_soonest_0 8 238 rfl)
theorem dX6_soonest_9 : decode cX6_soonest 9 = .ok (.ifCond .ne 10, 3) := o_154 (bg_dX6_soonest_0 9 154 rfl) (bg_dX6_soonest_0 10 0 rfl) (bg_dX6_soonest_0 11 10 rfl) (by decide +kernel)
theorem dX6_soonest_12 : decode cX6_soonest 12 = .ok (.aload_n 0, 1) := o_42 (bg_dX6_soonest_0 12 42 rfl)
theorem dX6_soonest_13 : decode cX6_soonest 13 = .ok (.bipush (-2), 2) := o_16 (bg_dX6_soonest_0 13 16 rfl) (bg_dX6_soonest_0 14 254 rfl) (by decide +kernel)
theorem dX6_soonest_15 : decode cX6_soonest 15 = .ok (.invokevirtual 70, 3) := o_182 (bg_dX6_soonest_0 15 182 rfl) (bg_dX6_soonest_0 16 0 rfl) (bg_dX6_soonest_0 17 70 rfl)
theorem dX6_soonest_18 : decode cX6_soonest 18 = .ok (.ireturn, 1) := o_172 (bg_dX6_soonest_0 18 172 rfl)
theorem dX6_soonest_19 : decode cX6_soonest 19 = .ok (.aload_n 0, 1) := o_42 (bg_dX6_soonest_0 19 42 rfl)
theorem dX6_soonest_20 : decode cX6_soonest 20 = .ok (.aload_n 0, 1) := o_42 (bg_dX6_soonest_0 20 42 rfl)
theorem dX6_soonest_21 : decode cX6_soonest 21 = .ok (.getfield 28, 3) := o_180 (bg_dX6_soonest_0 21 180 rfl) (bg_dX6_soonest_0 22 0 rfl) (bg_dX6_soonest_0 23 28 rfl)
theorem bg_dX6_soonest_24 : bysAt cX6_soonest 24 [27, 28, 29, 21, 4, 182, 0, 248, 182, 0, 245, 172] := bysAt_of (by decide +kernel)
theorem dX6_soonest_24 : decode cX6_soonest 24 = .ok (.iload_n 1, 1) := o_27 (bg_dX6_soonest_24 0 27 rfl)
theorem dX6_soonest_25 : decode cX6_soonest 25 = .ok (.iload_n 2, 1) := o_28 (bg_dX6_soonest_24 1 28 rfl)
theorem dX6_soonest_26 : decode cX6_soonest 26 = .ok (.iload_n 3, 1) := o_29 (bg_dX6_soonest_24 2 29 rfl)
theorem dX6_soonest_27 : decode cX6_soonest 27 = .ok (.iload 4, 2) := o_21 (bg_dX6_soonest_24 3 21 rfl) (bg_dX6_soonest_24 4 4 rfl)
theorem dX6_soonest_29 : decode cX6_soonest 29 = .ok (.invokevirtual 248, 3) := o_182 (bg_dX6_soonest_24 5 182 rfl) (bg_dX6_soonest_24 6 0 rfl) (bg_dX6_soonest_24 7 248 rfl)
theorem dX6_soonest_32 : decode cX6_soonest 32 = .ok (.invokevirtual 245, 3) := o_182 (bg_dX6_soonest_24 8 182 rfl) (bg_dX6_soonest_24 9 0 rfl) (bg_dX6_soonest_24 10 245 rfl)
theorem dX6_soonest_35 : decode cX6_soonest 35 = .ok (.ireturn, 1) := o_172 (bg_dX6_soonest_24 11 172 rfl)
theorem bg_dX6_status_0 : bysAt cX6_status 0 [27, 3, 6, 184, 0, 66, 153, 0, 13, 42, 180, 0, 10, 180, 1, 17, 27, 46, 172, 27, 16, 12, 16, 16] := bysAt_of (by decide +kernel)
theorem dX6_status_0 : decode cX6_status 0 = .ok (.iload_n 1, 1) := o_27 (bg_dX6_status_0 0 27 rfl)
theorem dX6_status_1 : decode cX6_status 1 = .ok (.iconst 0, 1) := o_3 (bg_dX6_status_0 1 3 rfl)
theorem dX6_status_2 : decode cX6_status 2 = .ok (.iconst 3, 1) := o_6 (bg_dX6_status_0 2 6 rfl)
theorem dX6_status_3 : decode cX6_status 3 = .ok (.invokestatic 66, 3) := o_184 (bg_dX6_status_0 3 184 rfl) (bg_dX6_status_0 4 0 rfl) (bg_dX6_status_0 5 66 rfl)
theorem dX6_status_6 : decode cX6_status 6 = .ok (.ifCond .eq 13, 3) := o_153 (bg_dX6_status_0 6 153 rfl) (bg_dX6_status_0 7 0 rfl) (bg_dX6_status_0 8 13 rfl) (by decide +kernel)
theorem dX6_status_9 : decode cX6_status 9 = .ok (.aload_n 0, 1) := o_42 (bg_dX6_status_0 9 42 rfl)
theorem dX6_status_10 : decode cX6_status 10 = .ok (.getfield 10, 3) := o_180 (bg_dX6_status_0 10 180 rfl) (bg_dX6_status_0 11 0 rfl) (bg_dX6_status_0 12 10 rfl)
theorem dX6_status_13 : decode cX6_status 13 = .ok (.getfield 273, 3) := o_180 (bg_dX6_status_0 13 180 rfl) (bg_dX6_status_0 14 1 rfl) (bg_dX6_status_0 15 17 rfl)
theorem dX6_status_16 : decode cX6_status 16 = .ok (.iload_n 1, 1) := o_27 (bg_dX6_status_0 16 27 rfl)
theorem dX6_status_17 : decode cX6_status 17 = .ok (.iaload, 1) := o_46 (bg_dX6_status_0 17 46 rfl)
theorem dX6_status_18 : decode cX6_status 18 = .ok (.ireturn, 1) := o_172 (bg_dX6_status_0 18 172 rfl)
theorem dX6_status_19 : decode cX6_status 19 = .ok (.iload_n 1, 1) := o_27 (bg_dX6_status_0 19 27 rfl)
theorem dX6_status_20 : decode cX6_status 20 = .ok (.bipush 12, 2) := o_16 (bg_dX6_status_0 20 16 rfl) (bg_dX6_status_0 21 12 rfl) (by decide +kernel)
theorem dX6_status_22 : decode cX6_status 22 = .ok (.bipush 16, 2) := o_16 (bg_dX6_status_0 22 16 rfl) (bg_dX6_status_0 23 16 rfl) (by decide +kernel)
theorem bg_dX6_status_24 : bysAt cX6_status 24 [184, 0, 66, 153, 0, 13, 42, 180, 0, 55, 27, 16, 12, 100, 46, 172, 27] := bysAt_of (by decide +kernel)
theorem dX6_status_24 : decode cX6_status 24 = .ok (.invokestatic 66, 3) := o_184 (bg_dX6_status_24 0 184 rfl) (bg_dX6_status_24 1 0 rfl) (bg_dX6_status_24 2 66 rfl)
theorem dX6_status_27 : decode cX6_status 27 = .ok (.ifCond .eq 13, 3) := o_153 (bg_dX6_status_24 3 153 rfl) (bg_dX6_status_24 4 0 rfl) (bg_dX6_status_24 5 13 rfl) (by decide +kernel)
theorem dX6_status_30 : decode cX6_status 30 = .ok (.aload_n 0, 1) := o_42 (bg_dX6_status_24 6 42 rfl)
theorem dX6_status_31 : decode cX6_status 31 = .ok (.getfield 55, 3) := o_180 (bg_dX6_status_24 7 180 rfl) (bg_dX6_status_24 8 0 rfl) (bg_dX6_status_24 9 55 rfl)
theorem dX6_status_34 : decode cX6_status 34 = .ok (.iload_n 1, 1) := o_27 (bg_dX6_status_24 10 27 rfl)
theorem dX6_status_35 : decode cX6_status 35 = .ok (.bipush 12, 2) := o_16 (bg_dX6_status_24 11 16 rfl) (bg_dX6_status_24 12 12 rfl) (by decide +kernel)
theorem dX6_status_37 : decode cX6_status 37 = .ok (.isub, 1) := o_100 (bg_dX6_status_24 13 100 rfl)
theorem dX6_status_38 : decode cX6_status 38 = .ok (.iaload, 1) := o_46 (bg_dX6_status_24 14 46 rfl)
theorem dX6_status_39 : decode cX6_status 39 = .ok (.ireturn, 1) := o_172 (bg_dX6_status_24 15 172 rfl)
theorem dX6_status_40 : decode cX6_status 40 = .ok (.iload_n 1, 1) := o_27 (bg_dX6_status_24 16 27 rfl)
theorem bg_dX6_status_72 : bysAt cX6_status 72 [42, 180, 0, 42, 180, 0, 171, 172, 42, 180, 0, 35, 182, 1, 64, 172, 42, 180, 0, 10, 16, 7, 182, 1, 67, 172, 42] := bysAt_of (by decide +kernel)
theorem dX6_status_72 : decode cX6_status 72 = .ok (.aload_n 0, 1) := o_42 (bg_dX6_status_72 0 42 rfl)
theorem dX6_status_73 : decode cX6_status 73 = .ok (.getfield 42, 3) := o_180 (bg_dX6_status_72 1 180 rfl) (bg_dX6_status_72 2 0 rfl) (bg_dX6_status_72 3 42 rfl)
theorem dX6_status_76 : decode cX6_status 76 = .ok (.getfield 171, 3) := o_180 (bg_dX6_status_72 4 180 rfl) (bg_dX6_status_72 5 0 rfl) (bg_dX6_status_72 6 171 rfl)
theorem dX6_status_79 : decode cX6_status 79 = .ok (.ireturn, 1) := o_172 (bg_dX6_status_72 7 172 rfl)
theorem dX6_status_80 : decode cX6_status 80 = .ok (.aload_n 0, 1) := o_42 (bg_dX6_status_72 8 42 rfl)
theorem dX6_status_81 : decode cX6_status 81 = .ok (.getfield 35, 3) := o_180 (bg_dX6_status_72 9 180 rfl) (bg_dX6_status_72 10 0 rfl) (bg_dX6_status_72 11 35 rfl)
theorem dX6_status_84 : decode cX6_status 84 = .ok (.invokevirtual 320, 3) := o_182 (bg_dX6_status_72 12 182 rfl) (bg_dX6_status_72 13 1 rfl) (bg_dX6_status_72 14 64 rfl)
theorem dX6_status_87 : decode cX6_status 87 = .ok (.ireturn, 1) := o_172 (bg_dX6_status_72 15 172 rfl)
theorem dX6_status_88 : decode cX6_status 88 = .ok (.aload_n 0, 1) := o_42 (bg_dX6_status_72 16 42 rfl)
theorem dX6_status_89 : decode cX6_status 89 = .ok (.getfield 10, 3) := o_180 (bg_dX6_status_72 17 180 rfl) (bg_dX6_status_72 18 0 rfl) (bg_dX6_status_72 19 10 rfl)
theorem dX6_status_92 : decode cX6_status 92 = .ok (.bipush 7, 2) := o_16 (bg_dX6_status_72 20 16 rfl) (bg_dX6_status_72 21 7 rfl) (by decide +kernel)
theorem dX6_status_94 : decode cX6_status 94 = .ok (.invokevirtual 323, 3) := o_182 (bg_dX6_status_72 22 182 rfl) (bg_dX6_status_72 23 1 rfl) (bg_dX6_status_72 24 67 rfl)
theorem dX6_status_97 : decode cX6_status 97 = .ok (.ireturn, 1) := o_172 (bg_dX6_status_72 25 172 rfl)
theorem dX6_status_98 : decode cX6_status 98 = .ok (.aload_n 0, 1) := o_42 (bg_dX6_status_72 26 42 rfl)
theorem bg_dX6_status_99 : bysAt cX6_status 99 [180, 0, 10, 16, 8, 182, 1, 67, 172, 2, 172] := bysAt_of (by decide +kernel)
theorem dX6_status_99 : decode cX6_status 99 = .ok (.getfield 10, 3) := o_180 (bg_dX6_status_99 0 180 rfl) (bg_dX6_status_99 1 0 rfl) (bg_dX6_status_99 2 10 rfl)
theorem dX6_status_102 : decode cX6_status 102 = .ok (.bipush 8, 2) := o_16 (bg_dX6_status_99 3 16 rfl) (bg_dX6_status_99 4 8 rfl) (by decide +kernel)
theorem dX6_status_104 : decode cX6_status 104 = .ok (.invokevirtual 323, 3) := o_182 (bg_dX6_status_99 5 182 rfl) (bg_dX6_status_99 6 1 rfl) (bg_dX6_status_99 7 67 rfl)
theorem dX6_status_107 : decode cX6_status 107 = .ok (.ireturn, 1) := o_172 (bg_dX6_status_99 8 172 rfl)
theorem dX6_status_108 : decode cX6_status 108 = .ok (.iconst (-1), 1) := o_2 (bg_dX6_status_99 9 2 rfl)
theorem dX6_status_109 : decode cX6_status 109 = .ok (.ireturn, 1) := o_172 (bg_dX6_status_99 10 172 rfl)
theorem bg_dX6_step_0 : bysAt cX6_step 0 [42, 180, 0, 10, 180, 1, 45, 76, 42, 180, 0, 10, 180, 1, 48, 153, 0, 12, 43, 3, 46, 43, 4, 46] := bysAt_of (by decide +kernel)
theorem dX6_step_0 : decode cX6_step 0 = .ok (.aload_n 0, 1) := o_42 (bg_dX6_step_0 0 42 rfl)
theorem dX6_step_1 : decode cX6_step 1 = .ok (.getfield 10, 3) := o_180 (bg_dX6_step_0 1 180 rfl) (bg_dX6_step_0 2 0 rfl) (bg_dX6_step_0 3 10 rfl)
theorem dX6_step_4 : decode cX6_step 4 = .ok (.getfield 301, 3) := o_180 (bg_dX6_step_0 4 180 rfl) (bg_dX6_step_0 5 1 rfl) (bg_dX6_step_0 6 45 rfl)
theorem dX6_step_7 : decode cX6_step 7 = .ok (.astore_n 1, 1) := o_76 (bg_dX6_step_0 7 76 rfl)
theorem dX6_step_8 : decode cX6_step 8 = .ok (.aload_n 0, 1) := o_42 (bg_dX6_step_0 8 42 rfl)
theorem dX6_step_9 : decode cX6_step 9 = .ok (.getfield 10, 3) := o_180 (bg_dX6_step_0 9 180 rfl) (bg_dX6_step_0 10 0 rfl) (bg_dX6_step_0 11 10 rfl)
theorem dX6_step_12 : decode cX6_step 12 = .ok (.getfield 304, 3) := o_180 (bg_dX6_step_0 12 180 rfl) (bg_dX6_step_0 13 1 rfl) (bg_dX6_step_0 14 48 rfl)
theorem dX6_step_15 : decode cX6_step 15 = .ok (.ifCond .eq 12, 3) := o_153 (bg_dX6_step_0 15 153 rfl) (bg_dX6_step_0 16 0 rfl) (bg_dX6_step_0 17 12 rfl) (by decide +kernel)
theorem dX6_step_18 : decode cX6_step 18 = .ok (.aload_n 1, 1) := o_43 (bg_dX6_step_0 18 43 rfl)
theorem dX6_step_19 : decode cX6_step 19 = .ok (.iconst 0, 1) := o_3 (bg_dX6_step_0 19 3 rfl)
theorem dX6_step_20 : decode cX6_step 20 = .ok (.iaload, 1) := o_46 (bg_dX6_step_0 20 46 rfl)
theorem dX6_step_21 : decode cX6_step 21 = .ok (.aload_n 1, 1) := o_43 (bg_dX6_step_0 21 43 rfl)
theorem dX6_step_22 : decode cX6_step 22 = .ok (.iconst 1, 1) := o_4 (bg_dX6_step_0 22 4 rfl)
theorem dX6_step_23 : decode cX6_step 23 = .ok (.iaload, 1) := o_46 (bg_dX6_step_0 23 46 rfl)
theorem bg_dX6_step_24 : bysAt cX6_step 24 [160, 0, 10, 42, 16, 251, 182, 0, 70, 172, 42, 180, 0, 28, 43, 8, 46, 43, 16, 6, 46, 43] := bysAt_of (by decide +kernel)
theorem dX6_step_24 : decode cX6_step 24 = .ok (.if_icmp .ne 10, 3) := o_160 (bg_dX6_step_24 0 160 rfl) (bg_dX6_step_24 1 0 rfl) (bg_dX6_step_24 2 10 rfl) (by decide +kernel)
theorem dX6_step_27 : decode cX6_step 27 = .ok (.aload_n 0, 1) := o_42 (bg_dX6_step_24 3 42 rfl)
theorem dX6_step_28 : decode cX6_step 28 = .ok (.bipush (-5), 2) := o_16 (bg_dX6_step_24 4 16 rfl) (bg_dX6_step_24 5 251 rfl) (by decide +kernel)
theorem dX6_step_30 : decode cX6_step 30 = .ok (.invokevirtual 70, 3) := o_182 (bg_dX6_step_24 6 182 rfl) (bg_dX6_step_24 7 0 rfl) (bg_dX6_step_24 8 70 rfl)
theorem dX6_step_33 : decode cX6_step 33 = .ok (.ireturn, 1) := o_172 (bg_dX6_step_24 9 172 rfl)
theorem dX6_step_34 : decode cX6_step 34 = .ok (.aload_n 0, 1) := o_42 (bg_dX6_step_24 10 42 rfl)
theorem dX6_step_35 : decode cX6_step 35 = .ok (.getfield 28, 3) := o_180 (bg_dX6_step_24 11 180 rfl) (bg_dX6_step_24 12 0 rfl) (bg_dX6_step_24 13 28 rfl)
theorem dX6_step_38 : decode cX6_step 38 = .ok (.aload_n 1, 1) := o_43 (bg_dX6_step_24 14 43 rfl)
theorem dX6_step_39 : decode cX6_step 39 = .ok (.iconst 5, 1) := o_8 (bg_dX6_step_24 15 8 rfl)
theorem dX6_step_40 : decode cX6_step 40 = .ok (.iaload, 1) := o_46 (bg_dX6_step_24 16 46 rfl)
theorem dX6_step_41 : decode cX6_step 41 = .ok (.aload_n 1, 1) := o_43 (bg_dX6_step_24 17 43 rfl)
theorem dX6_step_42 : decode cX6_step 42 = .ok (.bipush 6, 2) := o_16 (bg_dX6_step_24 18 16 rfl) (bg_dX6_step_24 19 6 rfl) (by decide +kernel)
theorem dX6_step_44 : decode cX6_step 44 = .ok (.iaload, 1) := o_46 (bg_dX6_step_24 20 46 rfl)
theorem dX6_step_45 : decode cX6_step 45 = .ok (.aload_n 1, 1) := o_43 (bg_dX6_step_24 21 43 rfl)
theorem bg_dX6_step_46 : bysAt cX6_step 46 [3, 46, 43, 4, 46, 182, 1, 51, 61, 28, 2, 160, 0, 10, 42, 16, 251, 182, 0, 70, 172] := bysAt_of (by decide +kernel)
theorem dX6_step_46 : decode cX6_step 46 = .ok (.iconst 0, 1) := o_3 (bg_dX6_step_46 0 3 rfl)
theorem dX6_step_47 : decode cX6_step 47 = .ok (.iaload, 1) := o_46 (bg_dX6_step_46 1 46 rfl)
theorem dX6_step_48 : decode cX6_step 48 = .ok (.aload_n 1, 1) := o_43 (bg_dX6_step_46 2 43 rfl)
theorem dX6_step_49 : decode cX6_step 49 = .ok (.iconst 1, 1) := o_4 (bg_dX6_step_46 3 4 rfl)
theorem dX6_step_50 : decode cX6_step 50 = .ok (.iaload, 1) := o_46 (bg_dX6_step_46 4 46 rfl)
theorem dX6_step_51 : decode cX6_step 51 = .ok (.invokevirtual 307, 3) := o_182 (bg_dX6_step_46 5 182 rfl) (bg_dX6_step_46 6 1 rfl) (bg_dX6_step_46 7 51 rfl)
theorem dX6_step_54 : decode cX6_step 54 = .ok (.istore_n 2, 1) := o_61 (bg_dX6_step_46 8 61 rfl)
theorem dX6_step_55 : decode cX6_step 55 = .ok (.iload_n 2, 1) := o_28 (bg_dX6_step_46 9 28 rfl)
theorem dX6_step_56 : decode cX6_step 56 = .ok (.iconst (-1), 1) := o_2 (bg_dX6_step_46 10 2 rfl)
theorem dX6_step_57 : decode cX6_step 57 = .ok (.if_icmp .ne 10, 3) := o_160 (bg_dX6_step_46 11 160 rfl) (bg_dX6_step_46 12 0 rfl) (bg_dX6_step_46 13 10 rfl) (by decide +kernel)
theorem dX6_step_60 : decode cX6_step 60 = .ok (.aload_n 0, 1) := o_42 (bg_dX6_step_46 14 42 rfl)
theorem dX6_step_61 : decode cX6_step 61 = .ok (.bipush (-5), 2) := o_16 (bg_dX6_step_46 15 16 rfl) (bg_dX6_step_46 16 251 rfl) (by decide +kernel)
theorem dX6_step_63 : decode cX6_step 63 = .ok (.invokevirtual 70, 3) := o_182 (bg_dX6_step_46 17 182 rfl) (bg_dX6_step_46 18 0 rfl) (bg_dX6_step_46 19 70 rfl)
theorem dX6_step_66 : decode cX6_step 66 = .ok (.ireturn, 1) := o_172 (bg_dX6_step_46 20 172 rfl)
theorem bg_dX6_step_67 : bysAt cX6_step 67 [42, 28, 182, 1, 54, 28, 172] := bysAt_of (by decide +kernel)
theorem dX6_step_67 : decode cX6_step 67 = .ok (.aload_n 0, 1) := o_42 (bg_dX6_step_67 0 42 rfl)
theorem dX6_step_68 : decode cX6_step 68 = .ok (.iload_n 2, 1) := o_28 (bg_dX6_step_67 1 28 rfl)
theorem dX6_step_69 : decode cX6_step 69 = .ok (.invokevirtual 310, 3) := o_182 (bg_dX6_step_67 2 182 rfl) (bg_dX6_step_67 3 1 rfl) (bg_dX6_step_67 4 54 rfl)
theorem dX6_step_72 : decode cX6_step 72 = .ok (.iload_n 2, 1) := o_28 (bg_dX6_step_67 5 28 rfl)
theorem dX6_step_73 : decode cX6_step 73 = .ok (.ireturn, 1) := o_172 (bg_dX6_step_67 6 172 rfl)
theorem bg_dX6_told_0 : bysAt cX6_told 0 [21, 6, 3, 6, 184, 0, 66, 153, 0, 17, 42, 27, 28, 29, 21, 4, 21, 5, 182, 1, 0, 167, 0, 5, 16, 254] := bysAt_of (by decide +kernel)
theorem dX6_told_0 : decode cX6_told 0 = .ok (.iload 6, 2) := o_21 (bg_dX6_told_0 0 21 rfl) (bg_dX6_told_0 1 6 rfl)
theorem dX6_told_2 : decode cX6_told 2 = .ok (.iconst 0, 1) := o_3 (bg_dX6_told_0 2 3 rfl)
theorem dX6_told_3 : decode cX6_told 3 = .ok (.iconst 3, 1) := o_6 (bg_dX6_told_0 3 6 rfl)
theorem dX6_told_4 : decode cX6_told 4 = .ok (.invokestatic 66, 3) := o_184 (bg_dX6_told_0 4 184 rfl) (bg_dX6_told_0 5 0 rfl) (bg_dX6_told_0 6 66 rfl)
theorem dX6_told_7 : decode cX6_told 7 = .ok (.ifCond .eq 17, 3) := o_153 (bg_dX6_told_0 7 153 rfl) (bg_dX6_told_0 8 0 rfl) (bg_dX6_told_0 9 17 rfl) (by decide +kernel)
theorem dX6_told_10 : decode cX6_told 10 = .ok (.aload_n 0, 1) := o_42 (bg_dX6_told_0 10 42 rfl)
theorem dX6_told_11 : decode cX6_told 11 = .ok (.iload_n 1, 1) := o_27 (bg_dX6_told_0 11 27 rfl)
theorem dX6_told_12 : decode cX6_told 12 = .ok (.iload_n 2, 1) := o_28 (bg_dX6_told_0 12 28 rfl)
theorem dX6_told_13 : decode cX6_told 13 = .ok (.iload_n 3, 1) := o_29 (bg_dX6_told_0 13 29 rfl)
theorem dX6_told_14 : decode cX6_told 14 = .ok (.iload 4, 2) := o_21 (bg_dX6_told_0 14 21 rfl) (bg_dX6_told_0 15 4 rfl)
theorem dX6_told_16 : decode cX6_told 16 = .ok (.iload 5, 2) := o_21 (bg_dX6_told_0 16 21 rfl) (bg_dX6_told_0 17 5 rfl)
theorem dX6_told_18 : decode cX6_told 18 = .ok (.invokevirtual 256, 3) := o_182 (bg_dX6_told_0 18 182 rfl) (bg_dX6_told_0 19 1 rfl) (bg_dX6_told_0 20 0 rfl)
theorem dX6_told_21 : decode cX6_told 21 = .ok (.goto 5, 3) := o_167 (bg_dX6_told_0 21 167 rfl) (bg_dX6_told_0 22 0 rfl) (bg_dX6_told_0 23 5 rfl) (by decide +kernel)
theorem dX6_told_24 : decode cX6_told 24 = .ok (.bipush (-2), 2) := o_16 (bg_dX6_told_0 24 16 rfl) (bg_dX6_told_0 25 254 rfl) (by decide +kernel)
theorem bg_dX6_told_26 : bysAt cX6_told 26 [54, 7, 21, 7, 153, 0, 10, 42, 21, 7, 182, 0, 70, 172, 42, 180, 0, 28, 27, 28, 182, 0, 223, 42, 29] := bysAt_of (by decide +kernel)
theorem dX6_told_26 : decode cX6_told 26 = .ok (.istore 7, 2) := o_54 (bg_dX6_told_26 0 54 rfl) (bg_dX6_told_26 1 7 rfl)
theorem dX6_told_28 : decode cX6_told 28 = .ok (.iload 7, 2) := o_21 (bg_dX6_told_26 2 21 rfl) (bg_dX6_told_26 3 7 rfl)
theorem dX6_told_30 : decode cX6_told 30 = .ok (.ifCond .eq 10, 3) := o_153 (bg_dX6_told_26 4 153 rfl) (bg_dX6_told_26 5 0 rfl) (bg_dX6_told_26 6 10 rfl) (by decide +kernel)
theorem dX6_told_33 : decode cX6_told 33 = .ok (.aload_n 0, 1) := o_42 (bg_dX6_told_26 7 42 rfl)
theorem dX6_told_34 : decode cX6_told 34 = .ok (.iload 7, 2) := o_21 (bg_dX6_told_26 8 21 rfl) (bg_dX6_told_26 9 7 rfl)
theorem dX6_told_36 : decode cX6_told 36 = .ok (.invokevirtual 70, 3) := o_182 (bg_dX6_told_26 10 182 rfl) (bg_dX6_told_26 11 0 rfl) (bg_dX6_told_26 12 70 rfl)
theorem dX6_told_39 : decode cX6_told 39 = .ok (.ireturn, 1) := o_172 (bg_dX6_told_26 13 172 rfl)
theorem dX6_told_40 : decode cX6_told 40 = .ok (.aload_n 0, 1) := o_42 (bg_dX6_told_26 14 42 rfl)
theorem dX6_told_41 : decode cX6_told 41 = .ok (.getfield 28, 3) := o_180 (bg_dX6_told_26 15 180 rfl) (bg_dX6_told_26 16 0 rfl) (bg_dX6_told_26 17 28 rfl)
theorem dX6_told_44 : decode cX6_told 44 = .ok (.iload_n 1, 1) := o_27 (bg_dX6_told_26 18 27 rfl)
theorem dX6_told_45 : decode cX6_told 45 = .ok (.iload_n 2, 1) := o_28 (bg_dX6_told_26 19 28 rfl)
theorem dX6_told_46 : decode cX6_told 46 = .ok (.invokevirtual 223, 3) := o_182 (bg_dX6_told_26 20 182 rfl) (bg_dX6_told_26 21 0 rfl) (bg_dX6_told_26 22 223 rfl)
theorem dX6_told_49 : decode cX6_told 49 = .ok (.aload_n 0, 1) := o_42 (bg_dX6_told_26 23 42 rfl)
theorem dX6_told_50 : decode cX6_told 50 = .ok (.iload_n 3, 1) := o_29 (bg_dX6_told_26 24 29 rfl)
theorem bg_dX6_told_51 : bysAt cX6_told 51 [21, 4, 21, 5, 182, 1, 3, 2, 159, 0, 10, 42, 16, 251, 182, 0, 70, 172, 21, 6, 5, 160, 0, 18, 42, 180, 0, 28] := bysAt_of (by decide +kernel)
theorem dX6_told_51 : decode cX6_told 51 = .ok (.iload 4, 2) := o_21 (bg_dX6_told_51 0 21 rfl) (bg_dX6_told_51 1 4 rfl)
theorem dX6_told_53 : decode cX6_told 53 = .ok (.iload 5, 2) := o_21 (bg_dX6_told_51 2 21 rfl) (bg_dX6_told_51 3 5 rfl)
theorem dX6_told_55 : decode cX6_told 55 = .ok (.invokevirtual 259, 3) := o_182 (bg_dX6_told_51 4 182 rfl) (bg_dX6_told_51 5 1 rfl) (bg_dX6_told_51 6 3 rfl)
theorem dX6_told_58 : decode cX6_told 58 = .ok (.iconst (-1), 1) := o_2 (bg_dX6_told_51 7 2 rfl)
theorem dX6_told_59 : decode cX6_told 59 = .ok (.if_icmp .eq 10, 3) := o_159 (bg_dX6_told_51 8 159 rfl) (bg_dX6_told_51 9 0 rfl) (bg_dX6_told_51 10 10 rfl) (by decide +kernel)
theorem dX6_told_62 : decode cX6_told 62 = .ok (.aload_n 0, 1) := o_42 (bg_dX6_told_51 11 42 rfl)
theorem dX6_told_63 : decode cX6_told 63 = .ok (.bipush (-5), 2) := o_16 (bg_dX6_told_51 12 16 rfl) (bg_dX6_told_51 13 251 rfl) (by decide +kernel)
theorem dX6_told_65 : decode cX6_told 65 = .ok (.invokevirtual 70, 3) := o_182 (bg_dX6_told_51 14 182 rfl) (bg_dX6_told_51 15 0 rfl) (bg_dX6_told_51 16 70 rfl)
theorem dX6_told_68 : decode cX6_told 68 = .ok (.ireturn, 1) := o_172 (bg_dX6_told_51 17 172 rfl)
theorem dX6_told_69 : decode cX6_told 69 = .ok (.iload 6, 2) := o_21 (bg_dX6_told_51 18 21 rfl) (bg_dX6_told_51 19 6 rfl)
theorem dX6_told_71 : decode cX6_told 71 = .ok (.iconst 2, 1) := o_5 (bg_dX6_told_51 20 5 rfl)
theorem dX6_told_72 : decode cX6_told 72 = .ok (.if_icmp .ne 18, 3) := o_160 (bg_dX6_told_51 21 160 rfl) (bg_dX6_told_51 22 0 rfl) (bg_dX6_told_51 23 18 rfl) (by decide +kernel)
theorem dX6_told_75 : decode cX6_told 75 = .ok (.aload_n 0, 1) := o_42 (bg_dX6_told_51 24 42 rfl)
theorem dX6_told_76 : decode cX6_told 76 = .ok (.getfield 28, 3) := o_180 (bg_dX6_told_51 25 180 rfl) (bg_dX6_told_51 26 0 rfl) (bg_dX6_told_51 27 28 rfl)
theorem bg_dX6_told_79 : bysAt cX6_told 79 [180, 1, 6, 5, 46, 184, 1, 9, 167, 0, 13, 42, 180, 0, 28, 180, 1, 6, 21, 6, 46, 172] := bysAt_of (by decide +kernel)
theorem dX6_told_79 : decode cX6_told 79 = .ok (.getfield 262, 3) := o_180 (bg_dX6_told_79 0 180 rfl) (bg_dX6_told_79 1 1 rfl) (bg_dX6_told_79 2 6 rfl)
theorem dX6_told_82 : decode cX6_told 82 = .ok (.iconst 2, 1) := o_5 (bg_dX6_told_79 3 5 rfl)
theorem dX6_told_83 : decode cX6_told 83 = .ok (.iaload, 1) := o_46 (bg_dX6_told_79 4 46 rfl)
theorem dX6_told_84 : decode cX6_told 84 = .ok (.invokestatic 265, 3) := o_184 (bg_dX6_told_79 5 184 rfl) (bg_dX6_told_79 6 1 rfl) (bg_dX6_told_79 7 9 rfl)
theorem dX6_told_87 : decode cX6_told 87 = .ok (.goto 13, 3) := o_167 (bg_dX6_told_79 8 167 rfl) (bg_dX6_told_79 9 0 rfl) (bg_dX6_told_79 10 13 rfl) (by decide +kernel)
theorem dX6_told_90 : decode cX6_told 90 = .ok (.aload_n 0, 1) := o_42 (bg_dX6_told_79 11 42 rfl)
theorem dX6_told_91 : decode cX6_told 91 = .ok (.getfield 28, 3) := o_180 (bg_dX6_told_79 12 180 rfl) (bg_dX6_told_79 13 0 rfl) (bg_dX6_told_79 14 28 rfl)
theorem dX6_told_94 : decode cX6_told 94 = .ok (.getfield 262, 3) := o_180 (bg_dX6_told_79 15 180 rfl) (bg_dX6_told_79 16 1 rfl) (bg_dX6_told_79 17 6 rfl)
theorem dX6_told_97 : decode cX6_told 97 = .ok (.iload 6, 2) := o_21 (bg_dX6_told_79 18 21 rfl) (bg_dX6_told_79 19 6 rfl)
theorem dX6_told_99 : decode cX6_told 99 = .ok (.iaload, 1) := o_46 (bg_dX6_told_79 20 46 rfl)
theorem dX6_told_100 : decode cX6_told 100 = .ok (.ireturn, 1) := o_172 (bg_dX6_told_79 21 172 rfl)
theorem bg_dX6_under_0 : bysAt cX6_under 0 [27, 3, 7, 184, 0, 66, 154, 0, 10, 42, 16, 254, 182, 0, 70, 172, 42, 180, 0, 10, 180, 1, 48, 153, 0, 15, 42] := bysAt_of (by decide +kernel)
theorem dX6_under_0 : decode cX6_under 0 = .ok (.iload_n 1, 1) := o_27 (bg_dX6_under_0 0 27 rfl)
theorem dX6_under_1 : decode cX6_under 1 = .ok (.iconst 0, 1) := o_3 (bg_dX6_under_0 1 3 rfl)
theorem dX6_under_2 : decode cX6_under 2 = .ok (.iconst 4, 1) := o_7 (bg_dX6_under_0 2 7 rfl)
theorem dX6_under_3 : decode cX6_under 3 = .ok (.invokestatic 66, 3) := o_184 (bg_dX6_under_0 3 184 rfl) (bg_dX6_under_0 4 0 rfl) (bg_dX6_under_0 5 66 rfl)
theorem dX6_under_6 : decode cX6_under 6 = .ok (.ifCond .ne 10, 3) := o_154 (bg_dX6_under_0 6 154 rfl) (bg_dX6_under_0 7 0 rfl) (bg_dX6_under_0 8 10 rfl) (by decide +kernel)
theorem dX6_under_9 : decode cX6_under 9 = .ok (.aload_n 0, 1) := o_42 (bg_dX6_under_0 9 42 rfl)
theorem dX6_under_10 : decode cX6_under 10 = .ok (.bipush (-2), 2) := o_16 (bg_dX6_under_0 10 16 rfl) (bg_dX6_under_0 11 254 rfl) (by decide +kernel)
theorem dX6_under_12 : decode cX6_under 12 = .ok (.invokevirtual 70, 3) := o_182 (bg_dX6_under_0 12 182 rfl) (bg_dX6_under_0 13 0 rfl) (bg_dX6_under_0 14 70 rfl)
theorem dX6_under_15 : decode cX6_under 15 = .ok (.ireturn, 1) := o_172 (bg_dX6_under_0 15 172 rfl)
theorem dX6_under_16 : decode cX6_under 16 = .ok (.aload_n 0, 1) := o_42 (bg_dX6_under_0 16 42 rfl)
theorem dX6_under_17 : decode cX6_under 17 = .ok (.getfield 10, 3) := o_180 (bg_dX6_under_0 17 180 rfl) (bg_dX6_under_0 18 0 rfl) (bg_dX6_under_0 19 10 rfl)
theorem dX6_under_20 : decode cX6_under 20 = .ok (.getfield 304, 3) := o_180 (bg_dX6_under_0 20 180 rfl) (bg_dX6_under_0 21 1 rfl) (bg_dX6_under_0 22 48 rfl)
theorem dX6_under_23 : decode cX6_under 23 = .ok (.ifCond .eq 15, 3) := o_153 (bg_dX6_under_0 23 153 rfl) (bg_dX6_under_0 24 0 rfl) (bg_dX6_under_0 25 15 rfl) (by decide +kernel)
theorem dX6_under_26 : decode cX6_under 26 = .ok (.aload_n 0, 1) := o_42 (bg_dX6_under_0 26 42 rfl)
theorem bg_dX6_under_27 : bysAt cX6_under 27 [180, 0, 10, 180, 1, 45, 27, 46, 167, 0, 9, 42, 16, 251, 182, 0, 70, 172] := bysAt_of (by decide +kernel)
theorem dX6_under_27 : decode cX6_under 27 = .ok (.getfield 10, 3) := o_180 (bg_dX6_under_27 0 180 rfl) (bg_dX6_under_27 1 0 rfl) (bg_dX6_under_27 2 10 rfl)
theorem dX6_under_30 : decode cX6_under 30 = .ok (.getfield 301, 3) := o_180 (bg_dX6_under_27 3 180 rfl) (bg_dX6_under_27 4 1 rfl) (bg_dX6_under_27 5 45 rfl)
theorem dX6_under_33 : decode cX6_under 33 = .ok (.iload_n 1, 1) := o_27 (bg_dX6_under_27 6 27 rfl)
theorem dX6_under_34 : decode cX6_under 34 = .ok (.iaload, 1) := o_46 (bg_dX6_under_27 7 46 rfl)
theorem dX6_under_35 : decode cX6_under 35 = .ok (.goto 9, 3) := o_167 (bg_dX6_under_27 8 167 rfl) (bg_dX6_under_27 9 0 rfl) (bg_dX6_under_27 10 9 rfl) (by decide +kernel)
theorem dX6_under_38 : decode cX6_under 38 = .ok (.aload_n 0, 1) := o_42 (bg_dX6_under_27 11 42 rfl)
theorem dX6_under_39 : decode cX6_under 39 = .ok (.bipush (-5), 2) := o_16 (bg_dX6_under_27 12 16 rfl) (bg_dX6_under_27 13 251 rfl) (by decide +kernel)
theorem dX6_under_41 : decode cX6_under 41 = .ok (.invokevirtual 70, 3) := o_182 (bg_dX6_under_27 14 182 rfl) (bg_dX6_under_27 15 0 rfl) (bg_dX6_under_27 16 70 rfl)
theorem dX6_under_44 : decode cX6_under 44 = .ok (.ireturn, 1) := o_172 (bg_dX6_under_27 17 172 rfl)
theorem bg_dX6_valueOfWaiting_0 : bysAt cX6_valueOfWaiting 0 [30, 55, 7, 10, 55, 9, 3, 54, 11, 21, 11, 21, 4, 162, 0, 55, 21, 5, 133, 32, 105, 22, 9] := bysAt_of (by decide +kernel)
theorem dX6_valueOfWaiting_0 : decode cX6_valueOfWaiting 0 = .ok (.lload_n 0, 1) := o_30 (bg_dX6_valueOfWaiting_0 0 30 rfl)
theorem dX6_valueOfWaiting_1 : decode cX6_valueOfWaiting 1 = .ok (.lstore 7, 2) := o_55 (bg_dX6_valueOfWaiting_0 1 55 rfl) (bg_dX6_valueOfWaiting_0 2 7 rfl)
theorem dX6_valueOfWaiting_3 : decode cX6_valueOfWaiting 3 = .ok (.lconst 1, 1) := o_10 (bg_dX6_valueOfWaiting_0 3 10 rfl)
theorem dX6_valueOfWaiting_4 : decode cX6_valueOfWaiting 4 = .ok (.lstore 9, 2) := o_55 (bg_dX6_valueOfWaiting_0 4 55 rfl) (bg_dX6_valueOfWaiting_0 5 9 rfl)
theorem dX6_valueOfWaiting_6 : decode cX6_valueOfWaiting 6 = .ok (.iconst 0, 1) := o_3 (bg_dX6_valueOfWaiting_0 6 3 rfl)
theorem dX6_valueOfWaiting_7 : decode cX6_valueOfWaiting 7 = .ok (.istore 11, 2) := o_54 (bg_dX6_valueOfWaiting_0 7 54 rfl) (bg_dX6_valueOfWaiting_0 8 11 rfl)
theorem dX6_valueOfWaiting_9 : decode cX6_valueOfWaiting 9 = .ok (.iload 11, 2) := o_21 (bg_dX6_valueOfWaiting_0 9 21 rfl) (bg_dX6_valueOfWaiting_0 10 11 rfl)
theorem dX6_valueOfWaiting_11 : decode cX6_valueOfWaiting 11 = .ok (.iload 4, 2) := o_21 (bg_dX6_valueOfWaiting_0 11 21 rfl) (bg_dX6_valueOfWaiting_0 12 4 rfl)
theorem dX6_valueOfWaiting_13 : decode cX6_valueOfWaiting 13 = .ok (.if_icmp .ge 55, 3) := o_162 (bg_dX6_valueOfWaiting_0 13 162 rfl) (bg_dX6_valueOfWaiting_0 14 0 rfl) (bg_dX6_valueOfWaiting_0 15 55 rfl) (by decide +kernel)
theorem dX6_valueOfWaiting_16 : decode cX6_valueOfWaiting 16 = .ok (.iload 5, 2) := o_21 (bg_dX6_valueOfWaiting_0 16 21 rfl) (bg_dX6_valueOfWaiting_0 17 5 rfl)
theorem dX6_valueOfWaiting_18 : decode cX6_valueOfWaiting 18 = .ok (.i2l, 1) := o_133 (bg_dX6_valueOfWaiting_0 18 133 rfl)
theorem dX6_valueOfWaiting_19 : decode cX6_valueOfWaiting 19 = .ok (.lload_n 2, 1) := o_32 (bg_dX6_valueOfWaiting_0 19 32 rfl)
theorem dX6_valueOfWaiting_20 : decode cX6_valueOfWaiting 20 = .ok (.lmul, 1) := o_105 (bg_dX6_valueOfWaiting_0 20 105 rfl)
theorem dX6_valueOfWaiting_21 : decode cX6_valueOfWaiting 21 = .ok (.lload 9, 2) := o_22 (bg_dX6_valueOfWaiting_0 21 22 rfl) (bg_dX6_valueOfWaiting_0 22 9 rfl)
theorem bg_dX6_valueOfWaiting_23 : bysAt cX6_valueOfWaiting 23 [105, 16, 10, 21, 5, 100, 133, 22, 7, 105, 97, 55, 12, 22, 9, 20, 1, 80, 105, 55, 9, 30] := bysAt_of (by decide +kernel)
theorem dX6_valueOfWaiting_23 : decode cX6_valueOfWaiting 23 = .ok (.lmul, 1) := o_105 (bg_dX6_valueOfWaiting_23 0 105 rfl)
theorem dX6_valueOfWaiting_24 : decode cX6_valueOfWaiting 24 = .ok (.bipush 10, 2) := o_16 (bg_dX6_valueOfWaiting_23 1 16 rfl) (bg_dX6_valueOfWaiting_23 2 10 rfl) (by decide +kernel)
theorem dX6_valueOfWaiting_26 : decode cX6_valueOfWaiting 26 = .ok (.iload 5, 2) := o_21 (bg_dX6_valueOfWaiting_23 3 21 rfl) (bg_dX6_valueOfWaiting_23 4 5 rfl)
theorem dX6_valueOfWaiting_28 : decode cX6_valueOfWaiting 28 = .ok (.isub, 1) := o_100 (bg_dX6_valueOfWaiting_23 5 100 rfl)
theorem dX6_valueOfWaiting_29 : decode cX6_valueOfWaiting 29 = .ok (.i2l, 1) := o_133 (bg_dX6_valueOfWaiting_23 6 133 rfl)
theorem dX6_valueOfWaiting_30 : decode cX6_valueOfWaiting 30 = .ok (.lload 7, 2) := o_22 (bg_dX6_valueOfWaiting_23 7 22 rfl) (bg_dX6_valueOfWaiting_23 8 7 rfl)
theorem dX6_valueOfWaiting_32 : decode cX6_valueOfWaiting 32 = .ok (.lmul, 1) := o_105 (bg_dX6_valueOfWaiting_23 9 105 rfl)
theorem dX6_valueOfWaiting_33 : decode cX6_valueOfWaiting 33 = .ok (.ladd, 1) := o_97 (bg_dX6_valueOfWaiting_23 10 97 rfl)
theorem dX6_valueOfWaiting_34 : decode cX6_valueOfWaiting 34 = .ok (.lstore 12, 2) := o_55 (bg_dX6_valueOfWaiting_23 11 55 rfl) (bg_dX6_valueOfWaiting_23 12 12 rfl)
theorem dX6_valueOfWaiting_36 : decode cX6_valueOfWaiting 36 = .ok (.lload 9, 2) := o_22 (bg_dX6_valueOfWaiting_23 13 22 rfl) (bg_dX6_valueOfWaiting_23 14 9 rfl)
theorem dX6_valueOfWaiting_38 : decode cX6_valueOfWaiting 38 = .ok (.ldc2_w 336, 3) := o_20 (bg_dX6_valueOfWaiting_23 15 20 rfl) (bg_dX6_valueOfWaiting_23 16 1 rfl) (bg_dX6_valueOfWaiting_23 17 80 rfl)
theorem dX6_valueOfWaiting_41 : decode cX6_valueOfWaiting 41 = .ok (.lmul, 1) := o_105 (bg_dX6_valueOfWaiting_23 18 105 rfl)
theorem dX6_valueOfWaiting_42 : decode cX6_valueOfWaiting 42 = .ok (.lstore 9, 2) := o_55 (bg_dX6_valueOfWaiting_23 19 55 rfl) (bg_dX6_valueOfWaiting_23 20 9 rfl)
theorem dX6_valueOfWaiting_44 : decode cX6_valueOfWaiting 44 = .ok (.lload_n 0, 1) := o_30 (bg_dX6_valueOfWaiting_23 21 30 rfl)
theorem bg_dX6_valueOfWaiting_45 : bysAt cX6_valueOfWaiting 45 [22, 9, 105, 21, 6, 133, 22, 9, 105, 22, 12, 97, 184, 1, 82, 55, 7, 132, 11, 1, 167, 255, 200, 22, 7, 173] := bysAt_of (by decide +kernel)
theorem dX6_valueOfWaiting_45 : decode cX6_valueOfWaiting 45 = .ok (.lload 9, 2) := o_22 (bg_dX6_valueOfWaiting_45 0 22 rfl) (bg_dX6_valueOfWaiting_45 1 9 rfl)
theorem dX6_valueOfWaiting_47 : decode cX6_valueOfWaiting 47 = .ok (.lmul, 1) := o_105 (bg_dX6_valueOfWaiting_45 2 105 rfl)
theorem dX6_valueOfWaiting_48 : decode cX6_valueOfWaiting 48 = .ok (.iload 6, 2) := o_21 (bg_dX6_valueOfWaiting_45 3 21 rfl) (bg_dX6_valueOfWaiting_45 4 6 rfl)
theorem dX6_valueOfWaiting_50 : decode cX6_valueOfWaiting 50 = .ok (.i2l, 1) := o_133 (bg_dX6_valueOfWaiting_45 5 133 rfl)
theorem dX6_valueOfWaiting_51 : decode cX6_valueOfWaiting 51 = .ok (.lload 9, 2) := o_22 (bg_dX6_valueOfWaiting_45 6 22 rfl) (bg_dX6_valueOfWaiting_45 7 9 rfl)
theorem dX6_valueOfWaiting_53 : decode cX6_valueOfWaiting 53 = .ok (.lmul, 1) := o_105 (bg_dX6_valueOfWaiting_45 8 105 rfl)
theorem dX6_valueOfWaiting_54 : decode cX6_valueOfWaiting 54 = .ok (.lload 12, 2) := o_22 (bg_dX6_valueOfWaiting_45 9 22 rfl) (bg_dX6_valueOfWaiting_45 10 12 rfl)
theorem dX6_valueOfWaiting_56 : decode cX6_valueOfWaiting 56 = .ok (.ladd, 1) := o_97 (bg_dX6_valueOfWaiting_45 11 97 rfl)
theorem dX6_valueOfWaiting_57 : decode cX6_valueOfWaiting 57 = .ok (.invokestatic 338, 3) := o_184 (bg_dX6_valueOfWaiting_45 12 184 rfl) (bg_dX6_valueOfWaiting_45 13 1 rfl) (bg_dX6_valueOfWaiting_45 14 82 rfl)
theorem dX6_valueOfWaiting_60 : decode cX6_valueOfWaiting 60 = .ok (.lstore 7, 2) := o_55 (bg_dX6_valueOfWaiting_45 15 55 rfl) (bg_dX6_valueOfWaiting_45 16 7 rfl)
theorem dX6_valueOfWaiting_65 : decode cX6_valueOfWaiting 65 = .ok (.goto (-56), 3) := o_167 (bg_dX6_valueOfWaiting_45 20 167 rfl) (bg_dX6_valueOfWaiting_45 21 255 rfl) (bg_dX6_valueOfWaiting_45 22 200 rfl) (by decide +kernel)
theorem dX6_valueOfWaiting_68 : decode cX6_valueOfWaiting 68 = .ok (.lload 7, 2) := o_22 (bg_dX6_valueOfWaiting_45 23 22 rfl) (bg_dX6_valueOfWaiting_45 24 7 rfl)
theorem dX6_valueOfWaiting_70 : decode cX6_valueOfWaiting 70 = .ok (.lreturn, 1) := o_173 (bg_dX6_valueOfWaiting_45 25 173 rfl)
theorem pdJ6_bitCount_0f7a4 : yJ6_bitCount_0f7a4.cls ≠ "java/lang/invoke/MethodHandle" ∧ yJ6_bitCount_0f7a4.cls ≠ "java/lang/invoke/VarHandle" ∧ (parseMethodDescriptor yJ6_bitCount_0f7a4.desc).map (fun d => d.parameters.length) = some 1 := by decide +kernel
theorem pdVX0_become : yX0_become.cls = RX0 ∧ yX0_become.cls ≠ "java/lang/invoke/MethodHandle" ∧ yX0_become.cls ≠ "java/lang/invoke/VarHandle" ∧ (parseMethodDescriptor yX0_become.desc).map (fun d => d.parameters.length) = some 1 := by decide +kernel
theorem pdVX0_countBridges : yX0_countBridges.cls = RX0 ∧ yX0_countBridges.cls ≠ "java/lang/invoke/MethodHandle" ∧ yX0_countBridges.cls ≠ "java/lang/invoke/VarHandle" ∧ (parseMethodDescriptor yX0_countBridges.desc).map (fun d => d.parameters.length) = some 1 := by decide +kernel
theorem pdVX0_startTrip : yX0_startTrip.cls = RX0 ∧ yX0_startTrip.cls ≠ "java/lang/invoke/MethodHandle" ∧ yX0_startTrip.cls ≠ "java/lang/invoke/VarHandle" ∧ (parseMethodDescriptor yX0_startTrip.desc).map (fun d => d.parameters.length) = some 5 := by decide +kernel
theorem pdVX3_countHeld : yX3_countHeld.cls = RX3 ∧ yX3_countHeld.cls ≠ "java/lang/invoke/MethodHandle" ∧ yX3_countHeld.cls ≠ "java/lang/invoke/VarHandle" ∧ (parseMethodDescriptor yX3_countHeld.desc).map (fun d => d.parameters.length) = some 0 := by decide +kernel
theorem pdVX3_dropBridgesFrom : yX3_dropBridgesFrom.cls = RX3 ∧ yX3_dropBridgesFrom.cls ≠ "java/lang/invoke/MethodHandle" ∧ yX3_dropBridgesFrom.cls ≠ "java/lang/invoke/VarHandle" ∧ (parseMethodDescriptor yX3_dropBridgesFrom.desc).map (fun d => d.parameters.length) = some 1 := by decide +kernel
theorem pdVX5_firstRoad : yX5_firstRoad.cls = RX5 ∧ yX5_firstRoad.cls ≠ "java/lang/invoke/MethodHandle" ∧ yX5_firstRoad.cls ≠ "java/lang/invoke/VarHandle" ∧ (parseMethodDescriptor yX5_firstRoad.desc).map (fun d => d.parameters.length) = some 4 := by decide +kernel
theorem pdVX5_hasWay : yX5_hasWay.cls = RX5 ∧ yX5_hasWay.cls ≠ "java/lang/invoke/MethodHandle" ∧ yX5_hasWay.cls ≠ "java/lang/invoke/VarHandle" ∧ (parseMethodDescriptor yX5_hasWay.desc).map (fun d => d.parameters.length) = some 4 := by decide +kernel
theorem pdVX5_leastDays : yX5_leastDays.cls = RX5 ∧ yX5_leastDays.cls ≠ "java/lang/invoke/MethodHandle" ∧ yX5_leastDays.cls ≠ "java/lang/invoke/VarHandle" ∧ (parseMethodDescriptor yX5_leastDays.desc).map (fun d => d.parameters.length) = some 4 := by decide +kernel
theorem pdVX5_reached : yX5_reached.cls = RX5 ∧ yX5_reached.cls ≠ "java/lang/invoke/MethodHandle" ∧ yX5_reached.cls ≠ "java/lang/invoke/VarHandle" ∧ (parseMethodDescriptor yX5_reached.desc).map (fun d => d.parameters.length) = some 3 := by decide +kernel
theorem pdVX5_standProps : yX5_standProps.cls = RX5 ∧ yX5_standProps.cls ≠ "java/lang/invoke/MethodHandle" ∧ yX5_standProps.cls ≠ "java/lang/invoke/VarHandle" ∧ (parseMethodDescriptor yX5_standProps.desc).map (fun d => d.parameters.length) = some 1 := by decide +kernel
theorem pdVX6_coinIfFallen : yX6_coinIfFallen.cls = RX6 ∧ yX6_coinIfFallen.cls ≠ "java/lang/invoke/MethodHandle" ∧ yX6_coinIfFallen.cls ≠ "java/lang/invoke/VarHandle" ∧ (parseMethodDescriptor yX6_coinIfFallen.desc).map (fun d => d.parameters.length) = some 5 := by decide +kernel
theorem pdVX6_findBest : yX6_findBest.cls = RX6 ∧ yX6_findBest.cls ≠ "java/lang/invoke/MethodHandle" ∧ yX6_findBest.cls ≠ "java/lang/invoke/VarHandle" ∧ (parseMethodDescriptor yX6_findBest.desc).map (fun d => d.parameters.length) = some 2 := by decide +kernel
theorem pdVX6_firstWrong : yX6_firstWrong.cls = RX6 ∧ yX6_firstWrong.cls ≠ "java/lang/invoke/MethodHandle" ∧ yX6_firstWrong.cls ≠ "java/lang/invoke/VarHandle" ∧ (parseMethodDescriptor yX6_firstWrong.desc).map (fun d => d.parameters.length) = some 3 := by decide +kernel
theorem pdVX6_goAlong : yX6_goAlong.cls = RX6 ∧ yX6_goAlong.cls ≠ "java/lang/invoke/MethodHandle" ∧ yX6_goAlong.cls ≠ "java/lang/invoke/VarHandle" ∧ (parseMethodDescriptor yX6_goAlong.desc).map (fun d => d.parameters.length) = some 1 := by decide +kernel
theorem pdVX6_heaviest : yX6_heaviest.cls = RX6 ∧ yX6_heaviest.cls ≠ "java/lang/invoke/MethodHandle" ∧ yX6_heaviest.cls ≠ "java/lang/invoke/VarHandle" ∧ (parseMethodDescriptor yX6_heaviest.desc).map (fun d => d.parameters.length) = some 3 := by decide +kernel
theorem pdVX6_isJourney : yX6_isJourney.cls = RX6 ∧ yX6_isJourney.cls ≠ "java/lang/invoke/MethodHandle" ∧ yX6_isJourney.cls ≠ "java/lang/invoke/VarHandle" ∧ (parseMethodDescriptor yX6_isJourney.desc).map (fun d => d.parameters.length) = some 4 := by decide +kernel
theorem pdVX6_orStuck : yX6_orStuck.cls = RX6 ∧ yX6_orStuck.cls ≠ "java/lang/invoke/MethodHandle" ∧ yX6_orStuck.cls ≠ "java/lang/invoke/VarHandle" ∧ (parseMethodDescriptor yX6_orStuck.desc).map (fun d => d.parameters.length) = some 1 := by decide +kernel
theorem pdX6_valueOfWaiting : yX6_valueOfWaiting.cls ≠ "java/lang/invoke/MethodHandle" ∧ yX6_valueOfWaiting.cls ≠ "java/lang/invoke/VarHandle" ∧ (parseMethodDescriptor yX6_valueOfWaiting.desc).map (fun d => d.parameters.length) = some 5 := by decide +kernel
theorem pdVX6_whyNotTold : yX6_whyNotTold.cls = RX6 ∧ yX6_whyNotTold.cls ≠ "java/lang/invoke/MethodHandle" ∧ yX6_whyNotTold.cls ≠ "java/lang/invoke/VarHandle" ∧ (parseMethodDescriptor yX6_whyNotTold.desc).map (fun d => d.parameters.length) = some 5 := by decide +kernel
theorem dX6_fewest_92 : decode cX6_fewest 92 = .ok (.iinc 6 1, 3) := by decide +kernel
theorem dX6_hang_107 : decode cX6_hang 107 = .ok (.iinc 7 1, 3) := by decide +kernel
theorem dX6_status_41 : decode cX6_status 41 = .ok (.tableswitch 67 4 7 #[31, 39, 47, 57], 31) := by decide +kernel
theorem dX6_valueOfWaiting_62 : decode cX6_valueOfWaiting 62 = .ok (.iinc 11 1, 3) := by decide +kernel
