theorem bg_dX7_over_0 : bysAt cX7_over 0 [3, 61, 28, 42, 190, 162, 0, 15, 43, 28, 42, 28, 46, 79, 132, 2, 1, 167, 255, 241, 177] := bysAt_of (by decide +kernel)
theorem dX7_over_0 : decode cX7_over 0 = .ok (.iconst 0, 1) := o_3 (bg_dX7_over_0 0 3 rfl)
theorem dX7_over_1 : decode cX7_over 1 = .ok (.istore_n 2, 1) := o_61 (bg_dX7_over_0 1 61 rfl)
theorem dX7_over_2 : decode cX7_over 2 = .ok (.iload_n 2, 1) := o_28 (bg_dX7_over_0 2 28 rfl)
theorem dX7_over_3 : decode cX7_over 3 = .ok (.aload_n 0, 1) := o_42 (bg_dX7_over_0 3 42 rfl)
theorem dX7_over_4 : decode cX7_over 4 = .ok (.arraylength, 1) := o_190 (bg_dX7_over_0 4 190 rfl)
theorem dX7_over_5 : decode cX7_over 5 = .ok (.if_icmp .ge 15, 3) := o_162 (bg_dX7_over_0 5 162 rfl) (bg_dX7_over_0 6 0 rfl) (bg_dX7_over_0 7 15 rfl) (by decide +kernel)
theorem dX7_over_8 : decode cX7_over 8 = .ok (.aload_n 1, 1) := o_43 (bg_dX7_over_0 8 43 rfl)
theorem dX7_over_9 : decode cX7_over 9 = .ok (.iload_n 2, 1) := o_28 (bg_dX7_over_0 9 28 rfl)
theorem dX7_over_10 : decode cX7_over 10 = .ok (.aload_n 0, 1) := o_42 (bg_dX7_over_0 10 42 rfl)
theorem dX7_over_11 : decode cX7_over 11 = .ok (.iload_n 2, 1) := o_28 (bg_dX7_over_0 11 28 rfl)
theorem dX7_over_12 : decode cX7_over 12 = .ok (.iaload, 1) := o_46 (bg_dX7_over_0 12 46 rfl)
theorem dX7_over_13 : decode cX7_over 13 = .ok (.iastore, 1) := o_79 (bg_dX7_over_0 13 79 rfl)
theorem dX7_over_17 : decode cX7_over 17 = .ok (.goto (-15), 3) := o_167 (bg_dX7_over_0 17 167 rfl) (bg_dX7_over_0 18 255 rfl) (bg_dX7_over_0 19 241 rfl) (by decide +kernel)
theorem dX7_over_20 : decode cX7_over 20 = .ok (.return_, 1) := o_177 (bg_dX7_over_0 20 177 rfl)
theorem bg_dX7_overAll_0 : bysAt cX7_overAll 0 [3, 61, 28, 42, 190, 162, 0, 18, 42, 28, 50, 43, 28, 50, 184, 1, 71, 132, 2, 1, 167, 255, 238] := bysAt_of (by decide +kernel)
theorem dX7_overAll_0 : decode cX7_overAll 0 = .ok (.iconst 0, 1) := o_3 (bg_dX7_overAll_0 0 3 rfl)
theorem dX7_overAll_1 : decode cX7_overAll 1 = .ok (.istore_n 2, 1) := o_61 (bg_dX7_overAll_0 1 61 rfl)
theorem dX7_overAll_2 : decode cX7_overAll 2 = .ok (.iload_n 2, 1) := o_28 (bg_dX7_overAll_0 2 28 rfl)
theorem dX7_overAll_3 : decode cX7_overAll 3 = .ok (.aload_n 0, 1) := o_42 (bg_dX7_overAll_0 3 42 rfl)
theorem dX7_overAll_4 : decode cX7_overAll 4 = .ok (.arraylength, 1) := o_190 (bg_dX7_overAll_0 4 190 rfl)
theorem dX7_overAll_5 : decode cX7_overAll 5 = .ok (.if_icmp .ge 18, 3) := o_162 (bg_dX7_overAll_0 5 162 rfl) (bg_dX7_overAll_0 6 0 rfl) (bg_dX7_overAll_0 7 18 rfl) (by decide +kernel)
theorem dX7_overAll_8 : decode cX7_overAll 8 = .ok (.aload_n 0, 1) := o_42 (bg_dX7_overAll_0 8 42 rfl)
theorem dX7_overAll_9 : decode cX7_overAll 9 = .ok (.iload_n 2, 1) := o_28 (bg_dX7_overAll_0 9 28 rfl)
theorem dX7_overAll_10 : decode cX7_overAll 10 = .ok (.aaload, 1) := o_50 (bg_dX7_overAll_0 10 50 rfl)
theorem dX7_overAll_11 : decode cX7_overAll 11 = .ok (.aload_n 1, 1) := o_43 (bg_dX7_overAll_0 11 43 rfl)
theorem dX7_overAll_12 : decode cX7_overAll 12 = .ok (.iload_n 2, 1) := o_28 (bg_dX7_overAll_0 12 28 rfl)
theorem dX7_overAll_13 : decode cX7_overAll 13 = .ok (.aaload, 1) := o_50 (bg_dX7_overAll_0 13 50 rfl)
theorem dX7_overAll_14 : decode cX7_overAll 14 = .ok (.invokestatic 327, 3) := o_184 (bg_dX7_overAll_0 14 184 rfl) (bg_dX7_overAll_0 15 1 rfl) (bg_dX7_overAll_0 16 71 rfl)
theorem dX7_overAll_20 : decode cX7_overAll 20 = .ok (.goto (-18), 3) := o_167 (bg_dX7_overAll_0 20 167 rfl) (bg_dX7_overAll_0 21 255 rfl) (bg_dX7_overAll_0 22 238 rfl) (by decide +kernel)
theorem bg_dX7_overAll_23 : bysAt cX7_overAll 23 [177] := bysAt_of (by decide +kernel)
theorem dX7_overAll_23 : decode cX7_overAll 23 = .ok (.return_, 1) := o_177 (bg_dX7_overAll_23 0 177 rfl)
theorem bg_dX7_takeFrom_0 : bysAt cX7_takeFrom 0 [42, 43, 180, 0, 66, 181, 0, 66, 43, 180, 0, 39, 42, 180, 0, 39, 184, 1, 75, 42, 43, 180, 0, 70, 181, 0, 70, 43] := bysAt_of (by decide +kernel)
theorem dX7_takeFrom_0 : decode cX7_takeFrom 0 = .ok (.aload_n 0, 1) := o_42 (bg_dX7_takeFrom_0 0 42 rfl)
theorem dX7_takeFrom_1 : decode cX7_takeFrom 1 = .ok (.aload_n 1, 1) := o_43 (bg_dX7_takeFrom_0 1 43 rfl)
theorem dX7_takeFrom_2 : decode cX7_takeFrom 2 = .ok (.getfield 66, 3) := o_180 (bg_dX7_takeFrom_0 2 180 rfl) (bg_dX7_takeFrom_0 3 0 rfl) (bg_dX7_takeFrom_0 4 66 rfl)
theorem dX7_takeFrom_5 : decode cX7_takeFrom 5 = .ok (.putfield 66, 3) := o_181 (bg_dX7_takeFrom_0 5 181 rfl) (bg_dX7_takeFrom_0 6 0 rfl) (bg_dX7_takeFrom_0 7 66 rfl)
theorem dX7_takeFrom_8 : decode cX7_takeFrom 8 = .ok (.aload_n 1, 1) := o_43 (bg_dX7_takeFrom_0 8 43 rfl)
theorem dX7_takeFrom_9 : decode cX7_takeFrom 9 = .ok (.getfield 39, 3) := o_180 (bg_dX7_takeFrom_0 9 180 rfl) (bg_dX7_takeFrom_0 10 0 rfl) (bg_dX7_takeFrom_0 11 39 rfl)
theorem dX7_takeFrom_12 : decode cX7_takeFrom 12 = .ok (.aload_n 0, 1) := o_42 (bg_dX7_takeFrom_0 12 42 rfl)
theorem dX7_takeFrom_13 : decode cX7_takeFrom 13 = .ok (.getfield 39, 3) := o_180 (bg_dX7_takeFrom_0 13 180 rfl) (bg_dX7_takeFrom_0 14 0 rfl) (bg_dX7_takeFrom_0 15 39 rfl)
theorem dX7_takeFrom_16 : decode cX7_takeFrom 16 = .ok (.invokestatic 331, 3) := o_184 (bg_dX7_takeFrom_0 16 184 rfl) (bg_dX7_takeFrom_0 17 1 rfl) (bg_dX7_takeFrom_0 18 75 rfl)
theorem dX7_takeFrom_19 : decode cX7_takeFrom 19 = .ok (.aload_n 0, 1) := o_42 (bg_dX7_takeFrom_0 19 42 rfl)
theorem dX7_takeFrom_20 : decode cX7_takeFrom 20 = .ok (.aload_n 1, 1) := o_43 (bg_dX7_takeFrom_0 20 43 rfl)
theorem dX7_takeFrom_21 : decode cX7_takeFrom 21 = .ok (.getfield 70, 3) := o_180 (bg_dX7_takeFrom_0 21 180 rfl) (bg_dX7_takeFrom_0 22 0 rfl) (bg_dX7_takeFrom_0 23 70 rfl)
theorem dX7_takeFrom_24 : decode cX7_takeFrom 24 = .ok (.putfield 70, 3) := o_181 (bg_dX7_takeFrom_0 24 181 rfl) (bg_dX7_takeFrom_0 25 0 rfl) (bg_dX7_takeFrom_0 26 70 rfl)
theorem dX7_takeFrom_27 : decode cX7_takeFrom 27 = .ok (.aload_n 1, 1) := o_43 (bg_dX7_takeFrom_0 27 43 rfl)
theorem bg_dX7_takeFrom_28 : bysAt cX7_takeFrom 28 [180, 0, 42, 42, 180, 0, 42, 184, 1, 75, 42, 43, 180, 0, 73, 181, 0, 73, 43, 180, 0, 45, 42, 180, 0, 45, 184, 1, 75, 42] := bysAt_of (by decide +kernel)
theorem dX7_takeFrom_28 : decode cX7_takeFrom 28 = .ok (.getfield 42, 3) := o_180 (bg_dX7_takeFrom_28 0 180 rfl) (bg_dX7_takeFrom_28 1 0 rfl) (bg_dX7_takeFrom_28 2 42 rfl)
theorem dX7_takeFrom_31 : decode cX7_takeFrom 31 = .ok (.aload_n 0, 1) := o_42 (bg_dX7_takeFrom_28 3 42 rfl)
theorem dX7_takeFrom_32 : decode cX7_takeFrom 32 = .ok (.getfield 42, 3) := o_180 (bg_dX7_takeFrom_28 4 180 rfl) (bg_dX7_takeFrom_28 5 0 rfl) (bg_dX7_takeFrom_28 6 42 rfl)
theorem dX7_takeFrom_35 : decode cX7_takeFrom 35 = .ok (.invokestatic 331, 3) := o_184 (bg_dX7_takeFrom_28 7 184 rfl) (bg_dX7_takeFrom_28 8 1 rfl) (bg_dX7_takeFrom_28 9 75 rfl)
theorem dX7_takeFrom_38 : decode cX7_takeFrom 38 = .ok (.aload_n 0, 1) := o_42 (bg_dX7_takeFrom_28 10 42 rfl)
theorem dX7_takeFrom_39 : decode cX7_takeFrom 39 = .ok (.aload_n 1, 1) := o_43 (bg_dX7_takeFrom_28 11 43 rfl)
theorem dX7_takeFrom_40 : decode cX7_takeFrom 40 = .ok (.getfield 73, 3) := o_180 (bg_dX7_takeFrom_28 12 180 rfl) (bg_dX7_takeFrom_28 13 0 rfl) (bg_dX7_takeFrom_28 14 73 rfl)
theorem dX7_takeFrom_43 : decode cX7_takeFrom 43 = .ok (.putfield 73, 3) := o_181 (bg_dX7_takeFrom_28 15 181 rfl) (bg_dX7_takeFrom_28 16 0 rfl) (bg_dX7_takeFrom_28 17 73 rfl)
theorem dX7_takeFrom_46 : decode cX7_takeFrom 46 = .ok (.aload_n 1, 1) := o_43 (bg_dX7_takeFrom_28 18 43 rfl)
theorem dX7_takeFrom_47 : decode cX7_takeFrom 47 = .ok (.getfield 45, 3) := o_180 (bg_dX7_takeFrom_28 19 180 rfl) (bg_dX7_takeFrom_28 20 0 rfl) (bg_dX7_takeFrom_28 21 45 rfl)
theorem dX7_takeFrom_50 : decode cX7_takeFrom 50 = .ok (.aload_n 0, 1) := o_42 (bg_dX7_takeFrom_28 22 42 rfl)
theorem dX7_takeFrom_51 : decode cX7_takeFrom 51 = .ok (.getfield 45, 3) := o_180 (bg_dX7_takeFrom_28 23 180 rfl) (bg_dX7_takeFrom_28 24 0 rfl) (bg_dX7_takeFrom_28 25 45 rfl)
theorem dX7_takeFrom_54 : decode cX7_takeFrom 54 = .ok (.invokestatic 331, 3) := o_184 (bg_dX7_takeFrom_28 26 184 rfl) (bg_dX7_takeFrom_28 27 1 rfl) (bg_dX7_takeFrom_28 28 75 rfl)
theorem dX7_takeFrom_57 : decode cX7_takeFrom 57 = .ok (.aload_n 0, 1) := o_42 (bg_dX7_takeFrom_28 29 42 rfl)
theorem bg_dX7_takeFrom_58 : bysAt cX7_takeFrom 58 [43, 180, 0, 80, 181, 0, 80, 43, 180, 0, 48, 42, 180, 0, 48, 184, 1, 75, 43, 180, 0, 51, 42, 180, 0, 51, 184, 1, 71, 43] := bysAt_of (by decide +kernel)
theorem dX7_takeFrom_58 : decode cX7_takeFrom 58 = .ok (.aload_n 1, 1) := o_43 (bg_dX7_takeFrom_58 0 43 rfl)
theorem dX7_takeFrom_59 : decode cX7_takeFrom 59 = .ok (.getfield 80, 3) := o_180 (bg_dX7_takeFrom_58 1 180 rfl) (bg_dX7_takeFrom_58 2 0 rfl) (bg_dX7_takeFrom_58 3 80 rfl)
theorem dX7_takeFrom_62 : decode cX7_takeFrom 62 = .ok (.putfield 80, 3) := o_181 (bg_dX7_takeFrom_58 4 181 rfl) (bg_dX7_takeFrom_58 5 0 rfl) (bg_dX7_takeFrom_58 6 80 rfl)
theorem dX7_takeFrom_65 : decode cX7_takeFrom 65 = .ok (.aload_n 1, 1) := o_43 (bg_dX7_takeFrom_58 7 43 rfl)
theorem dX7_takeFrom_66 : decode cX7_takeFrom 66 = .ok (.getfield 48, 3) := o_180 (bg_dX7_takeFrom_58 8 180 rfl) (bg_dX7_takeFrom_58 9 0 rfl) (bg_dX7_takeFrom_58 10 48 rfl)
theorem dX7_takeFrom_69 : decode cX7_takeFrom 69 = .ok (.aload_n 0, 1) := o_42 (bg_dX7_takeFrom_58 11 42 rfl)
theorem dX7_takeFrom_70 : decode cX7_takeFrom 70 = .ok (.getfield 48, 3) := o_180 (bg_dX7_takeFrom_58 12 180 rfl) (bg_dX7_takeFrom_58 13 0 rfl) (bg_dX7_takeFrom_58 14 48 rfl)
theorem dX7_takeFrom_73 : decode cX7_takeFrom 73 = .ok (.invokestatic 331, 3) := o_184 (bg_dX7_takeFrom_58 15 184 rfl) (bg_dX7_takeFrom_58 16 1 rfl) (bg_dX7_takeFrom_58 17 75 rfl)
theorem dX7_takeFrom_76 : decode cX7_takeFrom 76 = .ok (.aload_n 1, 1) := o_43 (bg_dX7_takeFrom_58 18 43 rfl)
theorem dX7_takeFrom_77 : decode cX7_takeFrom 77 = .ok (.getfield 51, 3) := o_180 (bg_dX7_takeFrom_58 19 180 rfl) (bg_dX7_takeFrom_58 20 0 rfl) (bg_dX7_takeFrom_58 21 51 rfl)
theorem dX7_takeFrom_80 : decode cX7_takeFrom 80 = .ok (.aload_n 0, 1) := o_42 (bg_dX7_takeFrom_58 22 42 rfl)
theorem dX7_takeFrom_81 : decode cX7_takeFrom 81 = .ok (.getfield 51, 3) := o_180 (bg_dX7_takeFrom_58 23 180 rfl) (bg_dX7_takeFrom_58 24 0 rfl) (bg_dX7_takeFrom_58 25 51 rfl)
theorem dX7_takeFrom_84 : decode cX7_takeFrom 84 = .ok (.invokestatic 327, 3) := o_184 (bg_dX7_takeFrom_58 26 184 rfl) (bg_dX7_takeFrom_58 27 1 rfl) (bg_dX7_takeFrom_58 28 71 rfl)
theorem dX7_takeFrom_87 : decode cX7_takeFrom 87 = .ok (.aload_n 1, 1) := o_43 (bg_dX7_takeFrom_58 29 43 rfl)
theorem bg_dX7_takeFrom_88 : bysAt cX7_takeFrom 88 [180, 0, 54, 42, 180, 0, 54, 184, 1, 71, 42, 43, 180, 1, 68, 181, 1, 68, 177] := bysAt_of (by decide +kernel)
theorem dX7_takeFrom_88 : decode cX7_takeFrom 88 = .ok (.getfield 54, 3) := o_180 (bg_dX7_takeFrom_88 0 180 rfl) (bg_dX7_takeFrom_88 1 0 rfl) (bg_dX7_takeFrom_88 2 54 rfl)
theorem dX7_takeFrom_91 : decode cX7_takeFrom 91 = .ok (.aload_n 0, 1) := o_42 (bg_dX7_takeFrom_88 3 42 rfl)
theorem dX7_takeFrom_92 : decode cX7_takeFrom 92 = .ok (.getfield 54, 3) := o_180 (bg_dX7_takeFrom_88 4 180 rfl) (bg_dX7_takeFrom_88 5 0 rfl) (bg_dX7_takeFrom_88 6 54 rfl)
theorem dX7_takeFrom_95 : decode cX7_takeFrom 95 = .ok (.invokestatic 327, 3) := o_184 (bg_dX7_takeFrom_88 7 184 rfl) (bg_dX7_takeFrom_88 8 1 rfl) (bg_dX7_takeFrom_88 9 71 rfl)
theorem dX7_takeFrom_98 : decode cX7_takeFrom 98 = .ok (.aload_n 0, 1) := o_42 (bg_dX7_takeFrom_88 10 42 rfl)
theorem dX7_takeFrom_99 : decode cX7_takeFrom 99 = .ok (.aload_n 1, 1) := o_43 (bg_dX7_takeFrom_88 11 43 rfl)
theorem dX7_takeFrom_100 : decode cX7_takeFrom 100 = .ok (.getfield 324, 3) := o_180 (bg_dX7_takeFrom_88 12 180 rfl) (bg_dX7_takeFrom_88 13 1 rfl) (bg_dX7_takeFrom_88 14 68 rfl)
theorem dX7_takeFrom_103 : decode cX7_takeFrom 103 = .ok (.putfield 324, 3) := o_181 (bg_dX7_takeFrom_88 15 181 rfl) (bg_dX7_takeFrom_88 16 1 rfl) (bg_dX7_takeFrom_88 17 68 rfl)
theorem dX7_takeFrom_106 : decode cX7_takeFrom 106 = .ok (.return_, 1) := o_177 (bg_dX7_takeFrom_88 18 177 rfl)
theorem pdX7_over : yX7_over.cls ≠ "java/lang/invoke/MethodHandle" ∧ yX7_over.cls ≠ "java/lang/invoke/VarHandle" ∧ (parseMethodDescriptor yX7_over.desc).map (fun d => d.parameters.length) = some 2 := by decide +kernel
theorem dX7_over_14 : decode cX7_over 14 = .ok (.iinc 2 1, 3) := by decide +kernel
theorem dX7_overAll_17 : decode cX7_overAll 17 = .ok (.iinc 2 1, 3) := by decide +kernel
theorem updc_updc {C : Nat → va_E} {k : Nat} {x y : va_E} : updc (updc C k x) k y = updc C k y := by
  funext i
  unfold updc
  by_cases h : i = k <;> simp [h]
set_option maxHeartbeats 4000000 in
set_option maxRecDepth 100000 in
theorem lp_over {p : Program} {l : Launch} {e : Env} {R : Room} {s : State} {m : MethodId} {args : Array Value} {below : List Frame} {meth : Method} {c : Code} {cells slots : Nat} {Q : State → Prop} {D : va_G} {E : Nat → ClassId} {A : Nat → Prop} (hx : p.tables.exec = Jvm.exec) (hb : c.code = cX7_over) (hK : va_K D vwCl (oh_ty E) s) {n : Nat} {a : Nat → Nat} (C : Nat → va_E) (k1 k2 N : Nat) (hN : N < 1000) (h1 : k1 < n) (h2 : k2 < n) (hne : k1 ≠ k2) (hs1 : C k1 = .inl (E 0, N, .inl (ga (C k1))))
    (kk : ∀ (g : Nat → Int32) (H : Heap) (locs : List Loc) (ls : Array Slot), (∀ i, i < N → g i = ga (C k1) i) → va_P D vwCl (oh_W n a (updc C k2 (.inl (E 0, N, .inl g)))) H → va_D A (oh_W n a (updc C k2 (.inl (E 0, N, .inl g)))) → va_S A s.heap H locs → W p l e R s m args below meth c H locs cells slots Q (F0 m 20 ls [])) :
    ∀ (d j : Nat) (g : Nat → Int32) (H : Heap) (locs : List Loc) (ls : Array Slot), j + d = N → (∀ i, i < j → g i = ga (C k1) i) → va_P D vwCl (oh_W n a (updc C k2 (.inl (E 0, N, .inl g)))) H → va_D A (oh_W n a (updc C k2 (.inl (E 0, N, .inl g)))) → va_S A s.heap H locs → lv_has ls 3 [(2, .int (nI j)), (0, .ref (a k1)), (1, .ref (a k2))] → W p l e R s m args below meth c H locs cells slots Q (F0 m 2 ls []) := by
  intro d
  induction d with
  | zero =>
    intro j g H locs ls hjk hg hP hD hS hl
    have hjN : j = N := by omega
    have e1 : (updc C k2 (.inl (E 0, N, .inl g))) k1 = .inl (E 0, N, .inl (ga (C k1))) := by rw [updc_ne hne]; exact hs1
    refine lv_iload_n hx hb dX7_over_2 rfl (lv_at hl 0 rfl) ?_
    refine lv_aload_n hx hb dX7_over_3 rfl (lv_at hl 1 rfl) ?_
    refine va_alen (v := Int32.ofNat N) hx hb hK hP k1 0 (oh_wg h1 e1) rfl rfl dX7_over_4 ?_
    refine lv_icmp_ge (tgt := 20) hx hb dX7_over_5 (by decide) (fun _ => ?_) (fun c => absurd (show (Int32.ofNat N) ≤ (nI j) from show nI N ≤ nI j from nI_le (by omega) (by omega)) c)
    exact kk g H locs ls (by rw [← hjN]; exact hg) hP hD hS
  | succ d ih =>
    intro j g H locs ls hjk hg hP hD hS hl
    have hjN : j < N := by omega
    have e1 : (updc C k2 (.inl (E 0, N, .inl g))) k1 = .inl (E 0, N, .inl (ga (C k1))) := by rw [updc_ne hne]; exact hs1
    refine lv_iload_n hx hb dX7_over_2 rfl (lv_at hl 0 rfl) ?_
    refine lv_aload_n hx hb dX7_over_3 rfl (lv_at hl 1 rfl) ?_
    refine va_alen (v := Int32.ofNat N) hx hb hK hP k1 0 (oh_wg h1 e1) rfl rfl dX7_over_4 ?_
    refine lv_icmp_ge (tgt := 20) hx hb dX7_over_5 (by decide) (fun c => absurd c (show ¬ ((Int32.ofNat N) ≤ (nI j)) from show ¬ nI N ≤ nI j from nI_ge hjN (by omega))) (fun _ => ?_)
    refine lv_aload_n hx hb dX7_over_8 rfl (lv_at hl 2 rfl) ?_
    refine lv_iload_n hx hb dX7_over_9 rfl (lv_at hl 0 rfl) ?_
    refine lv_aload_n hx hb dX7_over_10 rfl (lv_at hl 1 rfl) ?_
    refine lv_iload_n hx hb dX7_over_11 rfl (lv_at hl 0 rfl) ?_
    refine th_iald hx hb hK hP k1 h1 e1 (vp_in_nI hjN (by omega)) dX7_over_12 ?_
    refine th_iast (T := fun _ => True) (Rl := fun _ => True) hx hb hK hP hD hS k2 h2 updc_eq (vp_in_nI hjN (by omega)) trivial trivial dX7_over_13 (fun C2 H locs e2 _ _ hP hD hS => ?_)
    rw [updc_updc] at e2
    subst e2
    refine lv_iinc (v := nI (j + 1)) (lv' := [(2, .int (nI (j + 1))), (0, .ref (a k1)), (1, .ref (a k2))]) hx hb dX7_over_14 hl (k := 0) rfl (by exact nI_1 j) (by decide) rfl (fun ls hl => ?_)
    refine lv_goto (tgt := 2) hx hb dX7_over_17 (by decide) ?_
    refine ih (j + 1) _ H locs ls (by omega) (fun i hi => ?_) hP hD hS (lv_sub hl [0, 1, 2] rfl)
    have ej : (nI j).toNatClampNeg = j := nI_clamp (by omega)
    rw [ej]
    by_cases h : i = j
    · rw [h, pk_us]
    · rw [pk_un h]
      exact hg i (by omega)
set_option maxHeartbeats 4000000 in
set_option maxRecDepth 100000 in
theorem c_X7_over (l : Launch) (D : va_G) (E : Nat → ClassId) (G : Nat → Nat) (sz : Nat) (n : Nat) (a : Nat → Nat) (C : Nat → va_E) (k1 k2 N : Nat) (hN : N < 1000) (h1 : k1 < n) (h2 : k2 < n) (hne : k1 ≠ k2) (hs1 : C k1 = .inl (E 0, N, .inl (ga (C k1)))) (hs2 : C k2 = .inl (E 0, N, .inl (ga (C k2)))) : Met l yX7_over (oh_w yX7_over cX7_over 3 none) ({ frames := 0, cells := 0, slots := 0, locals := 0 }) (oh_Pm D E G [.ref (a k1), .ref (a k2)] (oh_W n a C) sz) (va_Qv (fun (u : Nat → va_E) => ∃ g : Nat → Int32, u = updc C k2 (.inl (E 0, N, .inl g)) ∧ ∀ i, i < N → g i = ga (C k1) i) (oh_B D (va_A (oh_W n a C) sz) (fun u => oh_W n a u)) (va_A (oh_W n a C) sz)) 0 0 (va_A (oh_W n a C) sz) := by
  refine Met.ofW (cc := cX7_over) (maxL := 3) (ret := none) (by decide) rfl ?_
  intro p e s m args below meth c s₁ B hml hv
  obtain ⟨rfl, hsz, hP, hK, hD0, hG⟩ := hv
  have hx := B.exec
  have hb := B.bytes
  have hr := B.returns
  have hts := atoms_spec (ws := (oh_w yX7_over cX7_over 3 none)) B.pre
  have htg : ∀ w ∈ oh_t, w.before _ s = true := fun w h => hts w (List.mem_cons_of_mem _ h)
  have hown : s.vm.findClass RX7 = some m.cls := findClass_of_methodNamed B.named
  have hlocks := B.notSynchronized
  subst hsz
  have hD := hD0.self (sz := s.heap.size)
  generalize hAe : va_A (oh_W n a C) s.heap.size = A at hD hG ⊢
  have hA : ∀ q : Nat, s.heap.size ≤ q → A q := fun q h => by rw [← hAe]; exact Or.inr h
  have hS : va_S A s.heap s.heap [] := va_S.rf
  have hl := lv_entry ([.ref (a k1), .ref (a k2)]) (n := 3) (Nat.le_of_ble_eq_true rfl)
  rw [lg_entry_eq]
  generalize (lg_sl ([.ref (a k1), .ref (a k2)]) ++ List.replicate (3 - (lg_sl ([.ref (a k1), .ref (a k2)])).length) Slot.unset).toArray = ls at hl ⊢
  have hl : lv_has ls 3 [(0, .ref (a k1)), (1, .ref (a k2))] := hl
  have hC : updc C k2 (.inl (E 0, N, .inl (ga (C k2)))) = C := by
    funext i
    by_cases h : i = k2
    · rw [h, updc_eq, ← hs2]
    · rw [updc_ne h]
  refine lv_iconst (v := 0) hx hb dX7_over_0 (by decide) ?_
  refine lv_istore_n (lv' := [(2, .int 0), (0, .ref (a k1)), (1, .ref (a k2))]) hx hb dX7_over_1 rfl hl (by decide) rfl (fun ls hl => ?_)
  refine lp_over hx hb hK C k1 k2 N hN h1 h2 hne hs1 (fun g H locs ls hg hP hD hS => ?_) N 0 (ga (C k2)) s.heap [] ls (by omega) (fun i hi => by omega) (by rw [hC]; exact hP) (by rw [hC]; exact hD) hS (by rw [nI_0]; exact lv_sub hl [0, 1, 2] rfl)
  exact W.vret hx hb hr (fun t ht hW => ⟨⟨_, rfl, ⟨g, rfl, hg⟩, ⟨by rw [ht]; exact hP, hD⟩⟩, hS.F ht⟩) hS.2.2 dX7_over_20

/-- rows of a block that are copies of another's -/
def cpd (E : Nat → ClassId) (N b1 b2 j : Nat) (C u : Nat → va_E) : Prop := (∀ i, i < j → ∃ g : Nat → Int32, u (b2 + i) = .inl (E 0, N, .inl g) ∧ ∀ q, q < N → g q = ga (C (b1 + i)) q) ∧ ∀ k, (∀ i, i < j → k ≠ b2 + i) → u k = C k
theorem cpd_0 {E : Nat → ClassId} {N b1 b2 : Nat} {C : Nat → va_E} : cpd E N b1 b2 0 C C := ⟨fun i hi => by omega, fun _ _ => rfl⟩
theorem cpd_s {E : Nat → ClassId} {N b1 b2 j : Nat} {C u : Nat → va_E} {g : Nat → Int32} (h : cpd E N b1 b2 j C u) (hd : ∀ i, i ≤ j → b1 + j ≠ b2 + i) (hg : ∀ i, i < N → g i = ga (u (b1 + j)) i) : cpd E N b1 b2 (j + 1) C (updc u (b2 + j) (.inl (E 0, N, .inl g))) := by
  refine ⟨fun i hi => ?_, fun k hk => ?_⟩
  · by_cases e : i = j
    · subst e
      refine ⟨g, updc_eq, fun q hq => ?_⟩
      rw [hg q hq, h.2 (b1 + i) (fun z hz => hd z (by omega))]
    · rw [updc_ne (by omega)]
      exact h.1 i (by omega)
  · rw [updc_ne (hk j (by omega))]
    exact h.2 k (fun i hi => hk i (by omega))
set_option maxHeartbeats 4000000 in
set_option maxRecDepth 100000 in
theorem lp_overAll {p : Program} {l : Launch} {e : Env} {R : Room} {s : State} {m : MethodId} {args : Array Value} {below : List Frame} {meth : Method} {c : Code} {cells slots : Nat} {Q : State → Prop} {D : va_G} {E : Nat → ClassId} {A : Nat → Prop} {G : Nat → Nat} (hx : p.tables.exec = Jvm.exec) (hb : c.code = cX7_overAll) (htg : ∀ w ∈ oh_t, w.before args s = true) (hown : s.vm.findClass RX7 = some m.cls) (hml : c.maxLocals = 3) (hK : va_K D vwCl (oh_ty E) s) (hG : oh_G G A s) (hA : ∀ q, s.heap.size ≤ q → A q) {n : Nat} {a : Nat → Nat} (C : Nat → va_E) (k1 k2 b1 b2 M N : Nat) (hR : R = ({ frames := 1, cells := 0, slots := 0, locals := 22 })) (hc0 : cells = 0) (hs0 : slots = 0) (hN : N < 1000) (hM : M < 1000) (h1 : k1 < n) (h2 : k2 < n) (hb1 : b1 + M ≤ n) (hb2 : b2 + M ≤ n) (hdis : b1 + M ≤ b2 ∨ b2 + M ≤ b1) (hk1 : ∀ i, i < M → k1 ≠ b2 + i) (hk2 : ∀ i, i < M → k2 ≠ b2 + i) (hs1 : C k1 = .inl (E 2, M, .inr (.inr (.inr (.inr (qf a M b1)))))) (hs2 : C k2 = .inl (E 2, M, .inr (.inr (.inr (.inr (qf a M b2)))))) (hr1 : ∀ i, i < M → C (b1 + i) = .inl (E 0, N, .inl (ga (C (b1 + i))))) (hr2 : ∀ i, i < M → C (b2 + i) = .inl (E 0, N, .inl (ga (C (b2 + i)))))
    (kk : ∀ (u : Nat → va_E) (H : Heap) (locs : List Loc) (ls : Array Slot), cpd E N b1 b2 M C u → va_P D vwCl (oh_W n a u) H → va_D A (oh_W n a u) → va_S A s.heap H locs → W p l e R s m args below meth c H locs cells slots Q (F0 m 23 ls [])) :
    ∀ (d j : Nat) (u : Nat → va_E) (H : Heap) (locs : List Loc) (ls : Array Slot), j + d = M → cpd E N b1 b2 j C u → va_P D vwCl (oh_W n a u) H → va_D A (oh_W n a u) → va_S A s.heap H locs → lv_has ls 3 [(2, .int (nI j)), (0, .ref (a k1)), (1, .ref (a k2))] → W p l e R s m args below meth c H locs cells slots Q (F0 m 2 ls []) := by
  subst hR hc0 hs0
  intro d
  induction d with
  | zero =>
    intro j u H locs ls hjk hu hP hD hS hl
    have hjN : j = M := by omega
    have e1 : u k1 = .inl (E 2, M, .inr (.inr (.inr (.inr (qf a M b1))))) := by rw [hu.2 k1 (fun i hi => hk1 i (by omega))]; exact hs1
    refine lv_iload_n hx hb dX7_overAll_2 rfl (lv_at hl 0 rfl) ?_
    refine lv_aload_n hx hb dX7_overAll_3 rfl (lv_at hl 1 rfl) ?_
    refine va_alen (v := Int32.ofNat M) hx hb hK hP k1 2 (oh_wg h1 e1) rfl rfl dX7_overAll_4 ?_
    refine lv_icmp_ge (tgt := 23) hx hb dX7_overAll_5 (by decide) (fun _ => ?_) (fun c => absurd (show (Int32.ofNat M) ≤ (nI j) from show nI M ≤ nI j from nI_le (by omega) (by omega)) c)
    exact kk u H locs ls (by rw [← hjN]; exact hu) hP hD hS
  | succ d ih =>
    intro j u H locs ls hjk hu hP hD hS hl
    have hjN : j < M := by omega
    have ej : (nI j).toNatClampNeg = j := nI_clamp (by omega)
    have e1 : u k1 = .inl (E 2, M, .inr (.inr (.inr (.inr (qf a M b1))))) := by rw [hu.2 k1 (fun i hi => hk1 i (by omega))]; exact hs1
    have e2 : u k2 = .inl (E 2, M, .inr (.inr (.inr (.inr (qf a M b2))))) := by rw [hu.2 k2 (fun i hi => hk2 i (by omega))]; exact hs2
    have f1 : u (b1 + j) = .inl (E 0, N, .inl (ga (u (b1 + j)))) := by rw [hu.2 (b1 + j) (fun i hi => by omega)]; exact hr1 j hjN
    have f2 : u (b2 + j) = .inl (E 0, N, .inl (ga (u (b2 + j)))) := by rw [hu.2 (b2 + j) (fun i hi => by omega)]; exact hr2 j hjN
    refine lv_iload_n hx hb dX7_overAll_2 rfl (lv_at hl 0 rfl) ?_
    refine lv_aload_n hx hb dX7_overAll_3 rfl (lv_at hl 1 rfl) ?_
    refine va_alen (v := Int32.ofNat M) hx hb hK hP k1 2 (oh_wg h1 e1) rfl rfl dX7_overAll_4 ?_
    refine lv_icmp_ge (tgt := 23) hx hb dX7_overAll_5 (by decide) (fun c => absurd c (show ¬ ((Int32.ofNat M) ≤ (nI j)) from show ¬ nI M ≤ nI j from nI_ge hjN (by omega))) (fun _ => ?_)
    refine lv_aload_n hx hb dX7_overAll_8 rfl (lv_at hl 1 rfl) ?_
    refine lv_iload_n hx hb dX7_overAll_9 rfl (lv_at hl 0 rfl) ?_
    refine th_aald hx hb hK hP k1 2 h1 e1 rfl (vp_in_nI hjN (by omega)) dX7_overAll_10 ?_
    refine lv_aload_n hx hb dX7_overAll_11 rfl (lv_at hl 2 rfl) ?_
    refine lv_iload_n hx hb dX7_overAll_12 rfl (lv_at hl 0 rfl) ?_
    refine th_aald hx hb hK hP k2 2 h2 e2 rfl (vp_in_nI hjN (by omega)) dX7_overAll_13 ?_
    rw [ej]
    refine tm_Sv (As := [.ref (a (b1 + j)), .ref (a (b2 + j))]) (rest := []) ⟨hx, hb, hml, hown, htg⟩ (c_X7_over l D E G _ n a u (b1 + j) (b2 + j) N hN (by omega) (by omega) (by omega) f1 f2) (va_cwS 2 htg (oh_gS q_1434 q_1435 q_73 q_1436) rfl rfl rfl pdX7_over ⟨Nat.le_of_ble_eq_true rfl, Nat.le_of_ble_eq_true rfl⟩) hK hP hD hG hS hA rfl hl.1 rfl (Nat.le_of_ble_eq_true rfl) dX7_overAll_14 ⟨Nat.le_of_ble_eq_true rfl, Nat.le_of_ble_eq_true rfl⟩ (fun u2 H locs hq hP hD hS => ?_)
    obtain ⟨g, rfl, hg⟩ := hq
    refine W.widen (k := 0) (n := 0) (Nat.le_refl _) (Nat.le_refl _) ?_
    refine lv_iinc (v := nI (j + 1)) (lv' := [(2, .int (nI (j + 1))), (0, .ref (a k1)), (1, .ref (a k2))]) hx hb dX7_overAll_17 hl (k := 0) rfl (by exact nI_1 j) (by decide) rfl (fun ls hl => ?_)
    refine lv_goto (tgt := 2) hx hb dX7_overAll_20 (by decide) ?_
    exact ih (j + 1) _ H locs ls (by omega) (cpd_s hu (fun i hi => by omega) hg) hP hD hS (lv_sub hl [0, 1, 2] rfl)
set_option maxHeartbeats 4000000 in
set_option maxRecDepth 100000 in
theorem c_X7_overAll (l : Launch) (D : va_G) (E : Nat → ClassId) (G : Nat → Nat) (sz : Nat) (n : Nat) (a : Nat → Nat) (C : Nat → va_E) (k1 k2 b1 b2 M N : Nat) (hN : N < 1000) (hM : M < 1000) (h1 : k1 < n) (h2 : k2 < n) (hb1 : b1 + M ≤ n) (hb2 : b2 + M ≤ n) (hdis : b1 + M ≤ b2 ∨ b2 + M ≤ b1) (hk1 : ∀ i, i < M → k1 ≠ b2 + i) (hk2 : ∀ i, i < M → k2 ≠ b2 + i) (hs1 : C k1 = .inl (E 2, M, .inr (.inr (.inr (.inr (qf a M b1)))))) (hs2 : C k2 = .inl (E 2, M, .inr (.inr (.inr (.inr (qf a M b2)))))) (hr1 : ∀ i, i < M → C (b1 + i) = .inl (E 0, N, .inl (ga (C (b1 + i))))) (hr2 : ∀ i, i < M → C (b2 + i) = .inl (E 0, N, .inl (ga (C (b2 + i))))) : Met l yX7_overAll (oh_w yX7_overAll cX7_overAll 3 none) ({ frames := 1, cells := 0, slots := 0, locals := 22 }) (oh_Pm D E G [.ref (a k1), .ref (a k2)] (oh_W n a C) sz) (va_Qv (fun (u : Nat → va_E) => cpd E N b1 b2 M C u) (oh_B D (va_A (oh_W n a C) sz) (fun u => oh_W n a u)) (va_A (oh_W n a C) sz)) 0 0 (va_A (oh_W n a C) sz) := by
  refine Met.ofW (cc := cX7_overAll) (maxL := 3) (ret := none) (by decide) rfl ?_
  intro p e s m args below meth c s₁ B hml hv
  obtain ⟨rfl, hsz, hP, hK, hD0, hG⟩ := hv
  have hx := B.exec
  have hb := B.bytes
  have hr := B.returns
  have hts := atoms_spec (ws := (oh_w yX7_overAll cX7_overAll 3 none)) B.pre
  have htg : ∀ w ∈ oh_t, w.before _ s = true := fun w h => hts w (List.mem_cons_of_mem _ h)
  have hown : s.vm.findClass RX7 = some m.cls := findClass_of_methodNamed B.named
  have hlocks := B.notSynchronized
  subst hsz
  have hD := hD0.self (sz := s.heap.size)
  generalize hAe : va_A (oh_W n a C) s.heap.size = A at hD hG ⊢
  have hA : ∀ q : Nat, s.heap.size ≤ q → A q := fun q h => by rw [← hAe]; exact Or.inr h
  have hS : va_S A s.heap s.heap [] := va_S.rf
  have hl := lv_entry ([.ref (a k1), .ref (a k2)]) (n := 3) (Nat.le_of_ble_eq_true rfl)
  rw [lg_entry_eq]
  generalize (lg_sl ([.ref (a k1), .ref (a k2)]) ++ List.replicate (3 - (lg_sl ([.ref (a k1), .ref (a k2)])).length) Slot.unset).toArray = ls at hl ⊢
  have hl : lv_has ls 3 [(0, .ref (a k1)), (1, .ref (a k2))] := hl
  refine lv_iconst (v := 0) hx hb dX7_overAll_0 (by decide) ?_
  refine lv_istore_n (lv' := [(2, .int 0), (0, .ref (a k1)), (1, .ref (a k2))]) hx hb dX7_overAll_1 rfl hl (by decide) rfl (fun ls hl => ?_)
  refine lp_overAll hx hb htg hown hml hK hG hA C k1 k2 b1 b2 M N rfl rfl rfl hN hM h1 h2 hb1 hb2 hdis hk1 hk2 hs1 hs2 hr1 hr2 (fun u H locs ls hu hP hD hS => ?_) M 0 C s.heap [] ls (by omega) cpd_0 hP hD hS (by rw [nI_0]; exact lv_sub hl [0, 1, 2] rfl)
  exact W.vret hx hb hr (fun t ht hW => ⟨⟨u, rfl, hu, ⟨by rw [ht]; exact hP, hD⟩⟩, hS.F ht⟩) hS.2.2 dX7_overAll_23
theorem pdX7_overAll : yX7_overAll.cls ≠ "java/lang/invoke/MethodHandle" ∧ yX7_overAll.cls ≠ "java/lang/invoke/VarHandle" ∧ (parseMethodDescriptor yX7_overAll.desc).map (fun d => d.parameters.length) = some 2 := by decide +kernel
def shf {α : Type} (B : Nat) (f : Nat → α) : Nat → α := fun k => f (B + k)
theorem shf_upd {B k : Nat} {C : Nat → va_E} {x : va_E} : shf B (updc C (B + k) x) = updc (shf B C) k x := by
  funext i
  unfold shf updc
  by_cases h : i = k
  · rw [if_pos h, if_pos (by omega)]
  · rw [if_neg h, if_neg (by omega)]
theorem qf_sh {B n b : Nat} {a : Nat → Nat} : qf (shf B a) n b = qf a n (B + b) := by
  funext i
  unfold shf
  show (if i < n then some (a (B + (b + i))) else none) = (if i < n then some (a (B + b + i)) else none)
  rw [Nat.add_assoc]
theorem TyM.congr {a : Nat → Nat} {E : Nat → ClassId} {C u : Nat → va_E} (h : TyM a E C) (e : ∀ k, k < 74 → u k = C k) : TyM a E u :=
  ⟨fun k hk => by rw [e k (by omega)]; exact h.1 k hk, fun i hi => by rw [e _ (by omega)]; exact h.2.1 i hi, fun i hi => by rw [e _ (by omega)]; exact h.2.2.1 i hi, fun i hi => by rw [e _ (by omega)]; exact h.2.2.2.1 i hi, fun i hi => by rw [e _ (by omega)]; exact h.2.2.2.2.1 i hi, fun i hi => by rw [e _ (by omega)]; exact h.2.2.2.2.2 i hi⟩
theorem tA_cp {cA : ClassId} {n W : Nat} {L : List (Int × Int)} {c d : va_E} {g : Nat → Int32} (h : tA cA n W L d) (hc : c = .inl (cA, n, .inl g)) (e : ∀ j, j < n → g j = ga d j) : tA cA n W L c := by
  subst hc
  exact ⟨rfl, fun j hj => by show rg (g j) _ _; rw [e j hj]; exact h.2 j hj⟩
theorem gv_set {ci i j : Nat} {fs : List Value} {v : Value} (h : i ≠ j) : gv (.inr (ci, fs.set j v)) i = gv (.inr (ci, fs)) i := by
  show (fs.set j v).getD i .null = fs.getD i .null
  rw [List.getD_eq_getElem?_getD, List.getD_eq_getElem?_getD, List.getElem?_set_ne (Ne.symm h)]
theorem gv_st {U U2 : Nat → va_E} {k ci i j : Nat} {fs : List Value} {v : Value} (e : U2 = updc U k (.inr (ci, fs.set j v))) (hs : U k = .inr (ci, fs)) (h : i ≠ j) : gv (U2 k) i = gv (U k) i := by
  rw [e, updc_eq, hs]
  exact gv_set h

theorem TyM.cproad {a a2 : Nat → Nat} {E : Nat → ClassId} {C S u : Nat → va_E} (h : TyM a E C) (h2 : TyM a2 E S) (hu : ∀ k, k < 74 → ¬ (24 ≤ k ∧ k < 48) → u k = C k) (hc : ∀ i, i < 24 → ∃ g : Nat → Int32, u (24 + i) = .inl (E 0, 7, .inl g) ∧ ∀ q, q < 7 → g q = ga (S (24 + i)) q) : TyM a E u := ⟨fun k hk => by rw [hu k (by omega) (by omega)]; exact h.1 k hk, fun i hi => by rw [hu _ (by omega) (by omega)]; exact h.2.1 i hi, fun i hi => by obtain ⟨g, e, q⟩ := hc i hi; exact tA_cp (h2.broad hi) e q, fun i hi => by rw [hu _ (by omega) (by omega)]; exact h.2.2.2.1 i hi, fun i hi => by rw [hu _ (by omega) (by omega)]; exact h.2.2.2.2.1 i hi, fun i hi => by rw [hu _ (by omega) (by omega)]; exact h.2.2.2.2.2 i hi⟩

theorem TyM.cpbridge {a a2 : Nat → Nat} {E : Nat → ClassId} {C S u : Nat → va_E} (h : TyM a E C) (h2 : TyM a2 E S) (hu : ∀ k, k < 74 → ¬ (48 ≤ k ∧ k < 64) → u k = C k) (hc : ∀ i, i < 16 → ∃ g : Nat → Int32, u (48 + i) = .inl (E 0, 10, .inl g) ∧ ∀ q, q < 10 → g q = ga (S (48 + i)) q) : TyM a E u := ⟨fun k hk => by rw [hu k (by omega) (by omega)]; exact h.1 k hk, fun i hi => by rw [hu _ (by omega) (by omega)]; exact h.2.1 i hi, fun i hi => by rw [hu _ (by omega) (by omega)]; exact h.2.2.1 i hi, fun i hi => by obtain ⟨g, e, q⟩ := hc i hi; exact tA_cp (h2.bbridge hi) e q, fun i hi => by rw [hu _ (by omega) (by omega)]; exact h.2.2.2.2.1 i hi, fun i hi => by rw [hu _ (by omega) (by omega)]; exact h.2.2.2.2.2 i hi⟩

theorem TyM.cpwaggon {a a2 : Nat → Nat} {E : Nat → ClassId} {C S u : Nat → va_E} (h : TyM a E C) (h2 : TyM a2 E S) (hu : ∀ k, k < 74 → ¬ (64 ≤ k ∧ k < 69) → u k = C k) (hc : ∀ i, i < 5 → ∃ g : Nat → Int32, u (64 + i) = .inl (E 0, 3, .inl g) ∧ ∀ q, q < 3 → g q = ga (S (64 + i)) q) : TyM a E u := ⟨fun k hk => by rw [hu k (by omega) (by omega)]; exact h.1 k hk, fun i hi => by rw [hu _ (by omega) (by omega)]; exact h.2.1 i hi, fun i hi => by rw [hu _ (by omega) (by omega)]; exact h.2.2.1 i hi, fun i hi => by rw [hu _ (by omega) (by omega)]; exact h.2.2.2.1 i hi, fun i hi => by obtain ⟨g, e, q⟩ := hc i hi; exact tA_cp (h2.bwaggon hi) e q, fun i hi => by rw [hu _ (by omega) (by omega)]; exact h.2.2.2.2.2 i hi⟩

theorem TyM.cppart {a a2 : Nat → Nat} {E : Nat → ClassId} {C S u : Nat → va_E} (h : TyM a E C) (h2 : TyM a2 E S) (hu : ∀ k, k < 74 → ¬ (69 ≤ k ∧ k < 74) → u k = C k) (hc : ∀ i, i < 5 → ∃ g : Nat → Int32, u (69 + i) = .inl (E 0, 2, .inl g) ∧ ∀ q, q < 2 → g q = ga (S (69 + i)) q) : TyM a E u := ⟨fun k hk => by rw [hu k (by omega) (by omega)]; exact h.1 k hk, fun i hi => by rw [hu _ (by omega) (by omega)]; exact h.2.1 i hi, fun i hi => by rw [hu _ (by omega) (by omega)]; exact h.2.2.1 i hi, fun i hi => by rw [hu _ (by omega) (by omega)]; exact h.2.2.2.1 i hi, fun i hi => by rw [hu _ (by omega) (by omega)]; exact h.2.2.2.2.1 i hi, fun i hi => by obtain ⟨g, e, q⟩ := hc i hi; exact tA_cp (h2.bpart hi) e q⟩

set_option maxHeartbeats 4000000 in
set_option maxRecDepth 100000 in
theorem TyM.pt9 {a : Nat → Nat} {E : Nat → ClassId} {C : Nat → va_E} {fs : List Value} {v : Int32} (h : TyM a E C) (hs : C 0 = .inr (7, fs)) (hv : rg v 0 24) : TyM a E (updc C 0 (.inr (7, fs.set 9 (.int v)))) := by
  have e2 := (Prod.mk.inj (Sum.inr.inj (Eq.trans hs.symm (sM_0 h)))).2
  subst e2
  exact h.up 0 (by decide) ⟨rfl, (fM_0_7 h), hv, (fM_0_11 h), (fM_0_13 h), (fM_0_15 h), (fM_0_21 h), (fM_0_23 h)⟩

set_option maxHeartbeats 4000000 in
set_option maxRecDepth 100000 in
theorem TyM.pt11 {a : Nat → Nat} {E : Nat → ClassId} {C : Nat → va_E} {fs : List Value} {v : Int32} (h : TyM a E C) (hs : C 0 = .inr (7, fs)) (hv : rg v 0 16) : TyM a E (updc C 0 (.inr (7, fs.set 11 (.int v)))) := by
  have e2 := (Prod.mk.inj (Sum.inr.inj (Eq.trans hs.symm (sM_0 h)))).2
  subst e2
  exact h.up 0 (by decide) ⟨rfl, (fM_0_7 h), (fM_0_9 h), hv, (fM_0_13 h), (fM_0_15 h), (fM_0_21 h), (fM_0_23 h)⟩

set_option maxHeartbeats 4000000 in
set_option maxRecDepth 100000 in
theorem TyM.pt13 {a : Nat → Nat} {E : Nat → ClassId} {C : Nat → va_E} {fs : List Value} {v : Int32} (h : TyM a E C) (hs : C 0 = .inr (7, fs)) (hv : rg v 0 5) : TyM a E (updc C 0 (.inr (7, fs.set 13 (.int v)))) := by
  have e2 := (Prod.mk.inj (Sum.inr.inj (Eq.trans hs.symm (sM_0 h)))).2
  subst e2
  exact h.up 0 (by decide) ⟨rfl, (fM_0_7 h), (fM_0_9 h), (fM_0_11 h), hv, (fM_0_15 h), (fM_0_21 h), (fM_0_23 h)⟩

set_option maxHeartbeats 4000000 in
set_option maxRecDepth 100000 in
theorem TyM.pt15 {a : Nat → Nat} {E : Nat → ClassId} {C : Nat → va_E} {fs : List Value} {v : Int32} (h : TyM a E C) (hs : C 0 = .inr (7, fs)) (hv : rg v 0 5) : TyM a E (updc C 0 (.inr (7, fs.set 15 (.int v)))) := by
  have e2 := (Prod.mk.inj (Sum.inr.inj (Eq.trans hs.symm (sM_0 h)))).2
  subst e2
  exact h.up 0 (by decide) ⟨rfl, (fM_0_7 h), (fM_0_9 h), (fM_0_11 h), (fM_0_13 h), hv, (fM_0_21 h), (fM_0_23 h)⟩

set_option maxHeartbeats 4000000 in
set_option maxRecDepth 100000 in
theorem TyM.pt19 {a : Nat → Nat} {E : Nat → ClassId} {C : Nat → va_E} {fs : List Value} {v : Int32} (h : TyM a E C) (hs : C 0 = .inr (7, fs)) : TyM a E (updc C 0 (.inr (7, fs.set 19 (.int v)))) := by
  have e2 := (Prod.mk.inj (Sum.inr.inj (Eq.trans hs.symm (sM_0 h)))).2
  subst e2
  exact h.up 0 (by decide) ⟨rfl, (fM_0_7 h), (fM_0_9 h), (fM_0_11 h), (fM_0_13 h), (fM_0_15 h), (fM_0_21 h), (fM_0_23 h)⟩

set_option maxHeartbeats 4000000 in
set_option maxRecDepth 100000 in
theorem tk_f9 {p : Program} {l : Launch} {e : Env} {R : Room} {s : State} {m : MethodId} {args : Array Value} {below : List Frame} {meth : Method} {c : Code} {cells slots : Nat} {Q : State → Prop} {D : va_G} {E : Nat → ClassId} {A : Nat → Prop} {G : Nat → Nat} (hx : p.tables.exec = Jvm.exec) (hb : c.code = cX7_takeFrom) (htg : ∀ w ∈ oh_t, w.before args s = true) (hown : s.vm.findClass RX7 = some m.cls) (hml : c.maxLocals = 2) (hK : va_K D vwCl (oh_ty E) s) (hG : oh_G G A s) (hA : ∀ q, s.heap.size ≤ q → A q) (hRf : 2 ≤ R.frames) (hRl : 44 ≤ R.locals) (hRc : cells ≤ R.cells) (hRs : slots ≤ R.slots) {n : Nat} {a : Nat → Nat} {B1 B2 : Nat} (hB : (B1 = 0 ∧ B2 = 74) ∨ (B1 = 74 ∧ B2 = 0)) (hn : 148 ≤ n) {U : Nat → va_E} (hT1 : TyM (shf B1 a) E (shf B1 U)) (hT2 : TyM (shf B2 a) E (shf B2 U)) {H : Heap} {locs : List Loc} {ls : Array Slot} (hP : va_P D vwCl (oh_W n a U) H) (hD : va_D A (oh_W n a U)) (hS : va_S A s.heap H locs) (hl : lv_has ls 2 [(0, .ref (a (B1 + 0))), (1, .ref (a (B2 + 0)))]) (kk : ∀ (U2 : Nat → va_E) (H : Heap) (locs : List Loc), TyM (shf B1 a) E (shf B1 U2) → (∀ k, k ≠ B1 + 0 → U2 k = U k) → (gi (U2 (B1 + 0)) 9 = gi (U (B2 + 0)) 9) → (∀ i, i ≠ 9 → gv (U2 (B1 + 0)) i = gv (U (B1 + 0)) i) → va_P D vwCl (oh_W n a U2) H → va_D A (oh_W n a U2) → va_S A s.heap H locs → W p l e R s m args below meth c H locs cells slots Q (F0 m 8 ls [])) : W p l e R s m args below meth c H locs cells slots Q (F0 m 0 ls []) := by
  refine lv_aload_n hx hb dX7_takeFrom_0 rfl (lv_at hl 0 rfl) ?_
  refine lv_aload_n hx hb dX7_takeFrom_1 rfl (lv_at hl 1 rfl) ?_
  refine va_get (D := D) (ci := 7) (v := .int (gi (U (B2 + 0)) 9)) (C := RX7) (T := TX7) (N := 29) hx hb htg ig_7 hown hK hP (B2 + 0) (oh_wg (k := B2 + 0) (by omega) (show U (B2 + 0) = .inr (7, [.ref (a (B2 + 1)), .ref (a (B2 + 2)), .ref (a (B2 + 3)), .ref (a (B2 + 4)), .ref (a (B2 + 5)), .ref (a (B2 + 6)), .ref (a (B2 + 7)), .int (gi (U (B2 + 0)) 7), .ref (a (B2 + 8)), .int (gi (U (B2 + 0)) 9), .ref (a (B2 + 9)), .int (gi (U (B2 + 0)) 11), .ref (a (B2 + 10)), .int (gi (U (B2 + 0)) 13), .ref (a (B2 + 11)), .int (gi (U (B2 + 0)) 15), .ref (a (B2 + 12)), .ref (a (B2 + 13)), .ref (a (B2 + 14)), .int (gi (U (B2 + 0)) 19), gv (U (B2 + 0)) 20, .int (gi (U (B2 + 0)) 21), .int (gi (U (B2 + 0)) 22), .int (gi (U (B2 + 0)) 23), .long (gl (U (B2 + 0)) 24), .int (gi (U (B2 + 0)) 25), .int (gi (U (B2 + 0)) 26), .ref (a (B2 + 15)), .int (gi (U (B2 + 0)) 28)]) from sM_0 hT2)) rfl 9 (by decide) (htg _ q_982) (fun _ h9 => h9) rfl dX7_takeFrom_2 ?_
  refine th_put (Tp := fun _ => True) (Rl := fun _ => True) (ci := 7) (v := .int (gi (U (B2 + 0)) 9)) (ty := .int) (CC := RX7) (T := TX7) (N := 29) hx hb htg ig_7 tyX7 tyX7_ok nmX7 hown hK hP hD hS (B1 + 0) (by omega) (show U (B1 + 0) = .inr (7, [.ref (a (B1 + 1)), .ref (a (B1 + 2)), .ref (a (B1 + 3)), .ref (a (B1 + 4)), .ref (a (B1 + 5)), .ref (a (B1 + 6)), .ref (a (B1 + 7)), .int (gi (U (B1 + 0)) 7), .ref (a (B1 + 8)), .int (gi (U (B1 + 0)) 9), .ref (a (B1 + 9)), .int (gi (U (B1 + 0)) 11), .ref (a (B1 + 10)), .int (gi (U (B1 + 0)) 13), .ref (a (B1 + 11)), .int (gi (U (B1 + 0)) 15), .ref (a (B1 + 12)), .ref (a (B1 + 13)), .ref (a (B1 + 14)), .int (gi (U (B1 + 0)) 19), gv (U (B1 + 0)) 20, .int (gi (U (B1 + 0)) 21), .int (gi (U (B1 + 0)) 22), .int (gi (U (B1 + 0)) 23), .long (gl (U (B1 + 0)) 24), .int (gi (U (B1 + 0)) 25), .int (gi (U (B1 + 0)) 26), .ref (a (B1 + 15)), .int (gi (U (B1 + 0)) 28)]) from sM_0 hT1) rfl 9 (by decide) (htg _ q_982) (fun _ h9 => h9) rfl (by decide +kernel) rfl rfl (Nat.le_of_ble_eq_true rfl) trivial trivial dX7_takeFrom_5 (fun U2 H locs e2 _ _ hP hD hS => ?_)
  refine kk U2 H locs ?_ (fun k hk => th_un e2 hk) ?_ (fun i hi => ?_) hP hD hS
  · rw [e2, shf_upd]
    exact TyM.pt9 hT1 (show shf B1 U 0 = .inr (7, [.ref (a (B1 + 1)), .ref (a (B1 + 2)), .ref (a (B1 + 3)), .ref (a (B1 + 4)), .ref (a (B1 + 5)), .ref (a (B1 + 6)), .ref (a (B1 + 7)), .int (gi (U (B1 + 0)) 7), .ref (a (B1 + 8)), .int (gi (U (B1 + 0)) 9), .ref (a (B1 + 9)), .int (gi (U (B1 + 0)) 11), .ref (a (B1 + 10)), .int (gi (U (B1 + 0)) 13), .ref (a (B1 + 11)), .int (gi (U (B1 + 0)) 15), .ref (a (B1 + 12)), .ref (a (B1 + 13)), .ref (a (B1 + 14)), .int (gi (U (B1 + 0)) 19), gv (U (B1 + 0)) 20, .int (gi (U (B1 + 0)) 21), .int (gi (U (B1 + 0)) 22), .int (gi (U (B1 + 0)) 23), .long (gl (U (B1 + 0)) 24), .int (gi (U (B1 + 0)) 25), .int (gi (U (B1 + 0)) 26), .ref (a (B1 + 15)), .int (gi (U (B1 + 0)) 28)]) from sM_0 hT1) (fM_0_9 hT2)
  · rw [e2, updc_eq]
    rfl
  · exact gv_st e2 (show U (B1 + 0) = .inr (7, [.ref (a (B1 + 1)), .ref (a (B1 + 2)), .ref (a (B1 + 3)), .ref (a (B1 + 4)), .ref (a (B1 + 5)), .ref (a (B1 + 6)), .ref (a (B1 + 7)), .int (gi (U (B1 + 0)) 7), .ref (a (B1 + 8)), .int (gi (U (B1 + 0)) 9), .ref (a (B1 + 9)), .int (gi (U (B1 + 0)) 11), .ref (a (B1 + 10)), .int (gi (U (B1 + 0)) 13), .ref (a (B1 + 11)), .int (gi (U (B1 + 0)) 15), .ref (a (B1 + 12)), .ref (a (B1 + 13)), .ref (a (B1 + 14)), .int (gi (U (B1 + 0)) 19), gv (U (B1 + 0)) 20, .int (gi (U (B1 + 0)) 21), .int (gi (U (B1 + 0)) 22), .int (gi (U (B1 + 0)) 23), .long (gl (U (B1 + 0)) 24), .int (gi (U (B1 + 0)) 25), .int (gi (U (B1 + 0)) 26), .ref (a (B1 + 15)), .int (gi (U (B1 + 0)) 28)]) from sM_0 hT1) hi

set_option maxHeartbeats 4000000 in
set_option maxRecDepth 100000 in
theorem tk_broad {p : Program} {l : Launch} {e : Env} {R : Room} {s : State} {m : MethodId} {args : Array Value} {below : List Frame} {meth : Method} {c : Code} {cells slots : Nat} {Q : State → Prop} {D : va_G} {E : Nat → ClassId} {A : Nat → Prop} {G : Nat → Nat} (hx : p.tables.exec = Jvm.exec) (hb : c.code = cX7_takeFrom) (htg : ∀ w ∈ oh_t, w.before args s = true) (hown : s.vm.findClass RX7 = some m.cls) (hml : c.maxLocals = 2) (hK : va_K D vwCl (oh_ty E) s) (hG : oh_G G A s) (hA : ∀ q, s.heap.size ≤ q → A q) (hRf : 2 ≤ R.frames) (hRl : 44 ≤ R.locals) (hRc : cells ≤ R.cells) (hRs : slots ≤ R.slots) {n : Nat} {a : Nat → Nat} {B1 B2 : Nat} (hB : (B1 = 0 ∧ B2 = 74) ∨ (B1 = 74 ∧ B2 = 0)) (hn : 148 ≤ n) {U : Nat → va_E} (hT1 : TyM (shf B1 a) E (shf B1 U)) (hT2 : TyM (shf B2 a) E (shf B2 U)) {H : Heap} {locs : List Loc} {ls : Array Slot} (hP : va_P D vwCl (oh_W n a U) H) (hD : va_D A (oh_W n a U)) (hS : va_S A s.heap H locs) (hl : lv_has ls 2 [(0, .ref (a (B1 + 0))), (1, .ref (a (B2 + 0)))]) (kk : ∀ (U2 : Nat → va_E) (H : Heap) (locs : List Loc), TyM (shf B1 a) E (shf B1 U2) → (∀ k, (k < B1 + 24 ∨ B1 + 24 + 24 ≤ k) → U2 k = U k) → (∀ i, i < 24 → ∃ g : Nat → Int32, U2 (B1 + (24 + i)) = .inl (E 0, 7, .inl g) ∧ ∀ q, q < 7 → g q = ga (U (B2 + (24 + i))) q) → va_P D vwCl (oh_W n a U2) H → va_D A (oh_W n a U2) → va_S A s.heap H locs → W p l e R s m args below meth c H locs cells slots Q (F0 m 19 ls [])) : W p l e R s m args below meth c H locs cells slots Q (F0 m 8 ls []) := by
  refine lv_aload_n hx hb dX7_takeFrom_8 rfl (lv_at hl 1 rfl) ?_
  refine va_get (D := D) (ci := 7) (v := .ref (a (B2 + 9))) (C := RX7) (T := TX7) (N := 29) hx hb htg ig_7 hown hK hP (B2 + 0) (oh_wg (k := B2 + 0) (by omega) (show U (B2 + 0) = .inr (7, [.ref (a (B2 + 1)), .ref (a (B2 + 2)), .ref (a (B2 + 3)), .ref (a (B2 + 4)), .ref (a (B2 + 5)), .ref (a (B2 + 6)), .ref (a (B2 + 7)), .int (gi (U (B2 + 0)) 7), .ref (a (B2 + 8)), .int (gi (U (B2 + 0)) 9), .ref (a (B2 + 9)), .int (gi (U (B2 + 0)) 11), .ref (a (B2 + 10)), .int (gi (U (B2 + 0)) 13), .ref (a (B2 + 11)), .int (gi (U (B2 + 0)) 15), .ref (a (B2 + 12)), .ref (a (B2 + 13)), .ref (a (B2 + 14)), .int (gi (U (B2 + 0)) 19), gv (U (B2 + 0)) 20, .int (gi (U (B2 + 0)) 21), .int (gi (U (B2 + 0)) 22), .int (gi (U (B2 + 0)) 23), .long (gl (U (B2 + 0)) 24), .int (gi (U (B2 + 0)) 25), .int (gi (U (B2 + 0)) 26), .ref (a (B2 + 15)), .int (gi (U (B2 + 0)) 28)]) from sM_0 hT2)) rfl 10 (by decide) (htg _ q_983) (fun _ h9 => h9) rfl dX7_takeFrom_9 ?_
  refine lv_aload_n hx hb dX7_takeFrom_12 rfl (lv_at hl 0 rfl) ?_
  refine va_get (D := D) (ci := 7) (v := .ref (a (B1 + 9))) (C := RX7) (T := TX7) (N := 29) hx hb htg ig_7 hown hK hP (B1 + 0) (oh_wg (k := B1 + 0) (by omega) (show U (B1 + 0) = .inr (7, [.ref (a (B1 + 1)), .ref (a (B1 + 2)), .ref (a (B1 + 3)), .ref (a (B1 + 4)), .ref (a (B1 + 5)), .ref (a (B1 + 6)), .ref (a (B1 + 7)), .int (gi (U (B1 + 0)) 7), .ref (a (B1 + 8)), .int (gi (U (B1 + 0)) 9), .ref (a (B1 + 9)), .int (gi (U (B1 + 0)) 11), .ref (a (B1 + 10)), .int (gi (U (B1 + 0)) 13), .ref (a (B1 + 11)), .int (gi (U (B1 + 0)) 15), .ref (a (B1 + 12)), .ref (a (B1 + 13)), .ref (a (B1 + 14)), .int (gi (U (B1 + 0)) 19), gv (U (B1 + 0)) 20, .int (gi (U (B1 + 0)) 21), .int (gi (U (B1 + 0)) 22), .int (gi (U (B1 + 0)) 23), .long (gl (U (B1 + 0)) 24), .int (gi (U (B1 + 0)) 25), .int (gi (U (B1 + 0)) 26), .ref (a (B1 + 15)), .int (gi (U (B1 + 0)) 28)]) from sM_0 hT1)) rfl 10 (by decide) (htg _ q_983) (fun _ h9 => h9) rfl dX7_takeFrom_13 ?_
  have s1 := (Eq.trans (show U (B2 + 9) = .inl (E 2, 24, .inr (.inr (.inr (.inr (qf (shf B2 a) 24 24))))) from sM_9 hT2) (congrArg (fun f => (.inl (E 2, 24, .inr (.inr (.inr (.inr f)))) : va_E)) qf_sh))
  have s2 := (Eq.trans (show U (B1 + 9) = .inl (E 2, 24, .inr (.inr (.inr (.inr (qf (shf B1 a) 24 24))))) from sM_9 hT1) (congrArg (fun f => (.inl (E 2, 24, .inr (.inr (.inr (.inr f)))) : va_E)) qf_sh))
  have r1 : ∀ i, i < 24 → U (B2 + 24 + i) = .inl (E 0, 7, .inl (ga (U (B2 + 24 + i)))) := fun i hi => by rw [Nat.add_assoc]; exact (hT2.broad hi).1
  have r2 : ∀ i, i < 24 → U (B1 + 24 + i) = .inl (E 0, 7, .inl (ga (U (B1 + 24 + i)))) := fun i hi => by rw [Nat.add_assoc]; exact (hT1.broad hi).1
  refine tm_Sv (As := [.ref (a (B2 + 9)), .ref (a (B1 + 9))]) (rest := []) ⟨hx, hb, hml, hown, htg⟩ (c_X7_overAll l D E G _ n a U (B2 + 9) (B1 + 9) (B2 + 24) (B1 + 24) 24 7 (by omega) (by omega) (by omega) (by omega) (by omega) (by omega) (by omega) (fun i hi => by omega) (fun i hi => by omega) s1 s2 r1 r2) (va_cwS 2 htg (oh_gS q_1431 q_1432 q_73 q_1433) rfl rfl rfl pdX7_overAll ⟨by omega, by omega⟩) hK hP hD hG hS hA rfl hl.1 rfl (Nat.le_of_ble_eq_true rfl) dX7_takeFrom_16 ⟨hRc, hRs⟩ (fun U2 H locs hq hP hD hS => ?_)
  have hE : ∀ k, (k < B1 + 24 ∨ B1 + 24 + 24 ≤ k) → U2 k = U k := fun k hk => hq.2 k (fun i hi => by omega)
  have hc : ∀ i, i < 24 → ∃ g : Nat → Int32, U2 (B1 + (24 + i)) = .inl (E 0, 7, .inl g) ∧ ∀ q, q < 7 → g q = ga (U (B2 + (24 + i))) q := fun i hi => by
    obtain ⟨g, h1, h2⟩ := hq.1 i hi
    exact ⟨g, by rw [← Nat.add_assoc]; exact h1, fun q hq => by rw [← Nat.add_assoc]; exact h2 q hq⟩
  exact kk U2 H locs (TyM.cproad hT1 hT2 (fun k hk hn => hE (B1 + k) (by omega)) hc) hE hc hP hD hS

set_option maxHeartbeats 4000000 in
set_option maxRecDepth 100000 in
theorem tk_f11 {p : Program} {l : Launch} {e : Env} {R : Room} {s : State} {m : MethodId} {args : Array Value} {below : List Frame} {meth : Method} {c : Code} {cells slots : Nat} {Q : State → Prop} {D : va_G} {E : Nat → ClassId} {A : Nat → Prop} {G : Nat → Nat} (hx : p.tables.exec = Jvm.exec) (hb : c.code = cX7_takeFrom) (htg : ∀ w ∈ oh_t, w.before args s = true) (hown : s.vm.findClass RX7 = some m.cls) (hml : c.maxLocals = 2) (hK : va_K D vwCl (oh_ty E) s) (hG : oh_G G A s) (hA : ∀ q, s.heap.size ≤ q → A q) (hRf : 2 ≤ R.frames) (hRl : 44 ≤ R.locals) (hRc : cells ≤ R.cells) (hRs : slots ≤ R.slots) {n : Nat} {a : Nat → Nat} {B1 B2 : Nat} (hB : (B1 = 0 ∧ B2 = 74) ∨ (B1 = 74 ∧ B2 = 0)) (hn : 148 ≤ n) {U : Nat → va_E} (hT1 : TyM (shf B1 a) E (shf B1 U)) (hT2 : TyM (shf B2 a) E (shf B2 U)) {H : Heap} {locs : List Loc} {ls : Array Slot} (hP : va_P D vwCl (oh_W n a U) H) (hD : va_D A (oh_W n a U)) (hS : va_S A s.heap H locs) (hl : lv_has ls 2 [(0, .ref (a (B1 + 0))), (1, .ref (a (B2 + 0)))]) (kk : ∀ (U2 : Nat → va_E) (H : Heap) (locs : List Loc), TyM (shf B1 a) E (shf B1 U2) → (∀ k, k ≠ B1 + 0 → U2 k = U k) → (gi (U2 (B1 + 0)) 11 = gi (U (B2 + 0)) 11) → (∀ i, i ≠ 11 → gv (U2 (B1 + 0)) i = gv (U (B1 + 0)) i) → va_P D vwCl (oh_W n a U2) H → va_D A (oh_W n a U2) → va_S A s.heap H locs → W p l e R s m args below meth c H locs cells slots Q (F0 m 27 ls [])) : W p l e R s m args below meth c H locs cells slots Q (F0 m 19 ls []) := by
  refine lv_aload_n hx hb dX7_takeFrom_19 rfl (lv_at hl 0 rfl) ?_
  refine lv_aload_n hx hb dX7_takeFrom_20 rfl (lv_at hl 1 rfl) ?_
  refine va_get (D := D) (ci := 7) (v := .int (gi (U (B2 + 0)) 11)) (C := RX7) (T := TX7) (N := 29) hx hb htg ig_7 hown hK hP (B2 + 0) (oh_wg (k := B2 + 0) (by omega) (show U (B2 + 0) = .inr (7, [.ref (a (B2 + 1)), .ref (a (B2 + 2)), .ref (a (B2 + 3)), .ref (a (B2 + 4)), .ref (a (B2 + 5)), .ref (a (B2 + 6)), .ref (a (B2 + 7)), .int (gi (U (B2 + 0)) 7), .ref (a (B2 + 8)), .int (gi (U (B2 + 0)) 9), .ref (a (B2 + 9)), .int (gi (U (B2 + 0)) 11), .ref (a (B2 + 10)), .int (gi (U (B2 + 0)) 13), .ref (a (B2 + 11)), .int (gi (U (B2 + 0)) 15), .ref (a (B2 + 12)), .ref (a (B2 + 13)), .ref (a (B2 + 14)), .int (gi (U (B2 + 0)) 19), gv (U (B2 + 0)) 20, .int (gi (U (B2 + 0)) 21), .int (gi (U (B2 + 0)) 22), .int (gi (U (B2 + 0)) 23), .long (gl (U (B2 + 0)) 24), .int (gi (U (B2 + 0)) 25), .int (gi (U (B2 + 0)) 26), .ref (a (B2 + 15)), .int (gi (U (B2 + 0)) 28)]) from sM_0 hT2)) rfl 11 (by decide) (htg _ q_984) (fun _ h9 => h9) rfl dX7_takeFrom_21 ?_
  refine th_put (Tp := fun _ => True) (Rl := fun _ => True) (ci := 7) (v := .int (gi (U (B2 + 0)) 11)) (ty := .int) (CC := RX7) (T := TX7) (N := 29) hx hb htg ig_7 tyX7 tyX7_ok nmX7 hown hK hP hD hS (B1 + 0) (by omega) (show U (B1 + 0) = .inr (7, [.ref (a (B1 + 1)), .ref (a (B1 + 2)), .ref (a (B1 + 3)), .ref (a (B1 + 4)), .ref (a (B1 + 5)), .ref (a (B1 + 6)), .ref (a (B1 + 7)), .int (gi (U (B1 + 0)) 7), .ref (a (B1 + 8)), .int (gi (U (B1 + 0)) 9), .ref (a (B1 + 9)), .int (gi (U (B1 + 0)) 11), .ref (a (B1 + 10)), .int (gi (U (B1 + 0)) 13), .ref (a (B1 + 11)), .int (gi (U (B1 + 0)) 15), .ref (a (B1 + 12)), .ref (a (B1 + 13)), .ref (a (B1 + 14)), .int (gi (U (B1 + 0)) 19), gv (U (B1 + 0)) 20, .int (gi (U (B1 + 0)) 21), .int (gi (U (B1 + 0)) 22), .int (gi (U (B1 + 0)) 23), .long (gl (U (B1 + 0)) 24), .int (gi (U (B1 + 0)) 25), .int (gi (U (B1 + 0)) 26), .ref (a (B1 + 15)), .int (gi (U (B1 + 0)) 28)]) from sM_0 hT1) rfl 11 (by decide) (htg _ q_984) (fun _ h9 => h9) rfl (by decide +kernel) rfl rfl (Nat.le_of_ble_eq_true rfl) trivial trivial dX7_takeFrom_24 (fun U2 H locs e2 _ _ hP hD hS => ?_)
  refine kk U2 H locs ?_ (fun k hk => th_un e2 hk) ?_ (fun i hi => ?_) hP hD hS
  · rw [e2, shf_upd]
    exact TyM.pt11 hT1 (show shf B1 U 0 = .inr (7, [.ref (a (B1 + 1)), .ref (a (B1 + 2)), .ref (a (B1 + 3)), .ref (a (B1 + 4)), .ref (a (B1 + 5)), .ref (a (B1 + 6)), .ref (a (B1 + 7)), .int (gi (U (B1 + 0)) 7), .ref (a (B1 + 8)), .int (gi (U (B1 + 0)) 9), .ref (a (B1 + 9)), .int (gi (U (B1 + 0)) 11), .ref (a (B1 + 10)), .int (gi (U (B1 + 0)) 13), .ref (a (B1 + 11)), .int (gi (U (B1 + 0)) 15), .ref (a (B1 + 12)), .ref (a (B1 + 13)), .ref (a (B1 + 14)), .int (gi (U (B1 + 0)) 19), gv (U (B1 + 0)) 20, .int (gi (U (B1 + 0)) 21), .int (gi (U (B1 + 0)) 22), .int (gi (U (B1 + 0)) 23), .long (gl (U (B1 + 0)) 24), .int (gi (U (B1 + 0)) 25), .int (gi (U (B1 + 0)) 26), .ref (a (B1 + 15)), .int (gi (U (B1 + 0)) 28)]) from sM_0 hT1) (fM_0_11 hT2)
  · rw [e2, updc_eq]
    rfl
  · exact gv_st e2 (show U (B1 + 0) = .inr (7, [.ref (a (B1 + 1)), .ref (a (B1 + 2)), .ref (a (B1 + 3)), .ref (a (B1 + 4)), .ref (a (B1 + 5)), .ref (a (B1 + 6)), .ref (a (B1 + 7)), .int (gi (U (B1 + 0)) 7), .ref (a (B1 + 8)), .int (gi (U (B1 + 0)) 9), .ref (a (B1 + 9)), .int (gi (U (B1 + 0)) 11), .ref (a (B1 + 10)), .int (gi (U (B1 + 0)) 13), .ref (a (B1 + 11)), .int (gi (U (B1 + 0)) 15), .ref (a (B1 + 12)), .ref (a (B1 + 13)), .ref (a (B1 + 14)), .int (gi (U (B1 + 0)) 19), gv (U (B1 + 0)) 20, .int (gi (U (B1 + 0)) 21), .int (gi (U (B1 + 0)) 22), .int (gi (U (B1 + 0)) 23), .long (gl (U (B1 + 0)) 24), .int (gi (U (B1 + 0)) 25), .int (gi (U (B1 + 0)) 26), .ref (a (B1 + 15)), .int (gi (U (B1 + 0)) 28)]) from sM_0 hT1) hi

set_option maxHeartbeats 4000000 in
set_option maxRecDepth 100000 in
theorem tk_bbridge {p : Program} {l : Launch} {e : Env} {R : Room} {s : State} {m : MethodId} {args : Array Value} {below : List Frame} {meth : Method} {c : Code} {cells slots : Nat} {Q : State → Prop} {D : va_G} {E : Nat → ClassId} {A : Nat → Prop} {G : Nat → Nat} (hx : p.tables.exec = Jvm.exec) (hb : c.code = cX7_takeFrom) (htg : ∀ w ∈ oh_t, w.before args s = true) (hown : s.vm.findClass RX7 = some m.cls) (hml : c.maxLocals = 2) (hK : va_K D vwCl (oh_ty E) s) (hG : oh_G G A s) (hA : ∀ q, s.heap.size ≤ q → A q) (hRf : 2 ≤ R.frames) (hRl : 44 ≤ R.locals) (hRc : cells ≤ R.cells) (hRs : slots ≤ R.slots) {n : Nat} {a : Nat → Nat} {B1 B2 : Nat} (hB : (B1 = 0 ∧ B2 = 74) ∨ (B1 = 74 ∧ B2 = 0)) (hn : 148 ≤ n) {U : Nat → va_E} (hT1 : TyM (shf B1 a) E (shf B1 U)) (hT2 : TyM (shf B2 a) E (shf B2 U)) {H : Heap} {locs : List Loc} {ls : Array Slot} (hP : va_P D vwCl (oh_W n a U) H) (hD : va_D A (oh_W n a U)) (hS : va_S A s.heap H locs) (hl : lv_has ls 2 [(0, .ref (a (B1 + 0))), (1, .ref (a (B2 + 0)))]) (kk : ∀ (U2 : Nat → va_E) (H : Heap) (locs : List Loc), TyM (shf B1 a) E (shf B1 U2) → (∀ k, (k < B1 + 48 ∨ B1 + 48 + 16 ≤ k) → U2 k = U k) → (∀ i, i < 16 → ∃ g : Nat → Int32, U2 (B1 + (48 + i)) = .inl (E 0, 10, .inl g) ∧ ∀ q, q < 10 → g q = ga (U (B2 + (48 + i))) q) → va_P D vwCl (oh_W n a U2) H → va_D A (oh_W n a U2) → va_S A s.heap H locs → W p l e R s m args below meth c H locs cells slots Q (F0 m 38 ls [])) : W p l e R s m args below meth c H locs cells slots Q (F0 m 27 ls []) := by
  refine lv_aload_n hx hb dX7_takeFrom_27 rfl (lv_at hl 1 rfl) ?_
  refine va_get (D := D) (ci := 7) (v := .ref (a (B2 + 10))) (C := RX7) (T := TX7) (N := 29) hx hb htg ig_7 hown hK hP (B2 + 0) (oh_wg (k := B2 + 0) (by omega) (show U (B2 + 0) = .inr (7, [.ref (a (B2 + 1)), .ref (a (B2 + 2)), .ref (a (B2 + 3)), .ref (a (B2 + 4)), .ref (a (B2 + 5)), .ref (a (B2 + 6)), .ref (a (B2 + 7)), .int (gi (U (B2 + 0)) 7), .ref (a (B2 + 8)), .int (gi (U (B2 + 0)) 9), .ref (a (B2 + 9)), .int (gi (U (B2 + 0)) 11), .ref (a (B2 + 10)), .int (gi (U (B2 + 0)) 13), .ref (a (B2 + 11)), .int (gi (U (B2 + 0)) 15), .ref (a (B2 + 12)), .ref (a (B2 + 13)), .ref (a (B2 + 14)), .int (gi (U (B2 + 0)) 19), gv (U (B2 + 0)) 20, .int (gi (U (B2 + 0)) 21), .int (gi (U (B2 + 0)) 22), .int (gi (U (B2 + 0)) 23), .long (gl (U (B2 + 0)) 24), .int (gi (U (B2 + 0)) 25), .int (gi (U (B2 + 0)) 26), .ref (a (B2 + 15)), .int (gi (U (B2 + 0)) 28)]) from sM_0 hT2)) rfl 12 (by decide) (htg _ q_985) (fun _ h9 => h9) rfl dX7_takeFrom_28 ?_
  refine lv_aload_n hx hb dX7_takeFrom_31 rfl (lv_at hl 0 rfl) ?_
  refine va_get (D := D) (ci := 7) (v := .ref (a (B1 + 10))) (C := RX7) (T := TX7) (N := 29) hx hb htg ig_7 hown hK hP (B1 + 0) (oh_wg (k := B1 + 0) (by omega) (show U (B1 + 0) = .inr (7, [.ref (a (B1 + 1)), .ref (a (B1 + 2)), .ref (a (B1 + 3)), .ref (a (B1 + 4)), .ref (a (B1 + 5)), .ref (a (B1 + 6)), .ref (a (B1 + 7)), .int (gi (U (B1 + 0)) 7), .ref (a (B1 + 8)), .int (gi (U (B1 + 0)) 9), .ref (a (B1 + 9)), .int (gi (U (B1 + 0)) 11), .ref (a (B1 + 10)), .int (gi (U (B1 + 0)) 13), .ref (a (B1 + 11)), .int (gi (U (B1 + 0)) 15), .ref (a (B1 + 12)), .ref (a (B1 + 13)), .ref (a (B1 + 14)), .int (gi (U (B1 + 0)) 19), gv (U (B1 + 0)) 20, .int (gi (U (B1 + 0)) 21), .int (gi (U (B1 + 0)) 22), .int (gi (U (B1 + 0)) 23), .long (gl (U (B1 + 0)) 24), .int (gi (U (B1 + 0)) 25), .int (gi (U (B1 + 0)) 26), .ref (a (B1 + 15)), .int (gi (U (B1 + 0)) 28)]) from sM_0 hT1)) rfl 12 (by decide) (htg _ q_985) (fun _ h9 => h9) rfl dX7_takeFrom_32 ?_
  have s1 := (Eq.trans (show U (B2 + 10) = .inl (E 2, 16, .inr (.inr (.inr (.inr (qf (shf B2 a) 16 48))))) from sM_10 hT2) (congrArg (fun f => (.inl (E 2, 16, .inr (.inr (.inr (.inr f)))) : va_E)) qf_sh))
  have s2 := (Eq.trans (show U (B1 + 10) = .inl (E 2, 16, .inr (.inr (.inr (.inr (qf (shf B1 a) 16 48))))) from sM_10 hT1) (congrArg (fun f => (.inl (E 2, 16, .inr (.inr (.inr (.inr f)))) : va_E)) qf_sh))
  have r1 : ∀ i, i < 16 → U (B2 + 48 + i) = .inl (E 0, 10, .inl (ga (U (B2 + 48 + i)))) := fun i hi => by rw [Nat.add_assoc]; exact (hT2.bbridge hi).1
  have r2 : ∀ i, i < 16 → U (B1 + 48 + i) = .inl (E 0, 10, .inl (ga (U (B1 + 48 + i)))) := fun i hi => by rw [Nat.add_assoc]; exact (hT1.bbridge hi).1
  refine tm_Sv (As := [.ref (a (B2 + 10)), .ref (a (B1 + 10))]) (rest := []) ⟨hx, hb, hml, hown, htg⟩ (c_X7_overAll l D E G _ n a U (B2 + 10) (B1 + 10) (B2 + 48) (B1 + 48) 16 10 (by omega) (by omega) (by omega) (by omega) (by omega) (by omega) (by omega) (fun i hi => by omega) (fun i hi => by omega) s1 s2 r1 r2) (va_cwS 2 htg (oh_gS q_1431 q_1432 q_73 q_1433) rfl rfl rfl pdX7_overAll ⟨by omega, by omega⟩) hK hP hD hG hS hA rfl hl.1 rfl (Nat.le_of_ble_eq_true rfl) dX7_takeFrom_35 ⟨hRc, hRs⟩ (fun U2 H locs hq hP hD hS => ?_)
  have hE : ∀ k, (k < B1 + 48 ∨ B1 + 48 + 16 ≤ k) → U2 k = U k := fun k hk => hq.2 k (fun i hi => by omega)
  have hc : ∀ i, i < 16 → ∃ g : Nat → Int32, U2 (B1 + (48 + i)) = .inl (E 0, 10, .inl g) ∧ ∀ q, q < 10 → g q = ga (U (B2 + (48 + i))) q := fun i hi => by
    obtain ⟨g, h1, h2⟩ := hq.1 i hi
    exact ⟨g, by rw [← Nat.add_assoc]; exact h1, fun q hq => by rw [← Nat.add_assoc]; exact h2 q hq⟩
  exact kk U2 H locs (TyM.cpbridge hT1 hT2 (fun k hk hn => hE (B1 + k) (by omega)) hc) hE hc hP hD hS

set_option maxHeartbeats 4000000 in
set_option maxRecDepth 100000 in
theorem tk_f13 {p : Program} {l : Launch} {e : Env} {R : Room} {s : State} {m : MethodId} {args : Array Value} {below : List Frame} {meth : Method} {c : Code} {cells slots : Nat} {Q : State → Prop} {D : va_G} {E : Nat → ClassId} {A : Nat → Prop} {G : Nat → Nat} (hx : p.tables.exec = Jvm.exec) (hb : c.code = cX7_takeFrom) (htg : ∀ w ∈ oh_t, w.before args s = true) (hown : s.vm.findClass RX7 = some m.cls) (hml : c.maxLocals = 2) (hK : va_K D vwCl (oh_ty E) s) (hG : oh_G G A s) (hA : ∀ q, s.heap.size ≤ q → A q) (hRf : 2 ≤ R.frames) (hRl : 44 ≤ R.locals) (hRc : cells ≤ R.cells) (hRs : slots ≤ R.slots) {n : Nat} {a : Nat → Nat} {B1 B2 : Nat} (hB : (B1 = 0 ∧ B2 = 74) ∨ (B1 = 74 ∧ B2 = 0)) (hn : 148 ≤ n) {U : Nat → va_E} (hT1 : TyM (shf B1 a) E (shf B1 U)) (hT2 : TyM (shf B2 a) E (shf B2 U)) {H : Heap} {locs : List Loc} {ls : Array Slot} (hP : va_P D vwCl (oh_W n a U) H) (hD : va_D A (oh_W n a U)) (hS : va_S A s.heap H locs) (hl : lv_has ls 2 [(0, .ref (a (B1 + 0))), (1, .ref (a (B2 + 0)))]) (kk : ∀ (U2 : Nat → va_E) (H : Heap) (locs : List Loc), TyM (shf B1 a) E (shf B1 U2) → (∀ k, k ≠ B1 + 0 → U2 k = U k) → (gi (U2 (B1 + 0)) 13 = gi (U (B2 + 0)) 13) → (∀ i, i ≠ 13 → gv (U2 (B1 + 0)) i = gv (U (B1 + 0)) i) → va_P D vwCl (oh_W n a U2) H → va_D A (oh_W n a U2) → va_S A s.heap H locs → W p l e R s m args below meth c H locs cells slots Q (F0 m 46 ls [])) : W p l e R s m args below meth c H locs cells slots Q (F0 m 38 ls []) := by
  refine lv_aload_n hx hb dX7_takeFrom_38 rfl (lv_at hl 0 rfl) ?_
  refine lv_aload_n hx hb dX7_takeFrom_39 rfl (lv_at hl 1 rfl) ?_
  refine va_get (D := D) (ci := 7) (v := .int (gi (U (B2 + 0)) 13)) (C := RX7) (T := TX7) (N := 29) hx hb htg ig_7 hown hK hP (B2 + 0) (oh_wg (k := B2 + 0) (by omega) (show U (B2 + 0) = .inr (7, [.ref (a (B2 + 1)), .ref (a (B2 + 2)), .ref (a (B2 + 3)), .ref (a (B2 + 4)), .ref (a (B2 + 5)), .ref (a (B2 + 6)), .ref (a (B2 + 7)), .int (gi (U (B2 + 0)) 7), .ref (a (B2 + 8)), .int (gi (U (B2 + 0)) 9), .ref (a (B2 + 9)), .int (gi (U (B2 + 0)) 11), .ref (a (B2 + 10)), .int (gi (U (B2 + 0)) 13), .ref (a (B2 + 11)), .int (gi (U (B2 + 0)) 15), .ref (a (B2 + 12)), .ref (a (B2 + 13)), .ref (a (B2 + 14)), .int (gi (U (B2 + 0)) 19), gv (U (B2 + 0)) 20, .int (gi (U (B2 + 0)) 21), .int (gi (U (B2 + 0)) 22), .int (gi (U (B2 + 0)) 23), .long (gl (U (B2 + 0)) 24), .int (gi (U (B2 + 0)) 25), .int (gi (U (B2 + 0)) 26), .ref (a (B2 + 15)), .int (gi (U (B2 + 0)) 28)]) from sM_0 hT2)) rfl 13 (by decide) (htg _ q_986) (fun _ h9 => h9) rfl dX7_takeFrom_40 ?_
  refine th_put (Tp := fun _ => True) (Rl := fun _ => True) (ci := 7) (v := .int (gi (U (B2 + 0)) 13)) (ty := .int) (CC := RX7) (T := TX7) (N := 29) hx hb htg ig_7 tyX7 tyX7_ok nmX7 hown hK hP hD hS (B1 + 0) (by omega) (show U (B1 + 0) = .inr (7, [.ref (a (B1 + 1)), .ref (a (B1 + 2)), .ref (a (B1 + 3)), .ref (a (B1 + 4)), .ref (a (B1 + 5)), .ref (a (B1 + 6)), .ref (a (B1 + 7)), .int (gi (U (B1 + 0)) 7), .ref (a (B1 + 8)), .int (gi (U (B1 + 0)) 9), .ref (a (B1 + 9)), .int (gi (U (B1 + 0)) 11), .ref (a (B1 + 10)), .int (gi (U (B1 + 0)) 13), .ref (a (B1 + 11)), .int (gi (U (B1 + 0)) 15), .ref (a (B1 + 12)), .ref (a (B1 + 13)), .ref (a (B1 + 14)), .int (gi (U (B1 + 0)) 19), gv (U (B1 + 0)) 20, .int (gi (U (B1 + 0)) 21), .int (gi (U (B1 + 0)) 22), .int (gi (U (B1 + 0)) 23), .long (gl (U (B1 + 0)) 24), .int (gi (U (B1 + 0)) 25), .int (gi (U (B1 + 0)) 26), .ref (a (B1 + 15)), .int (gi (U (B1 + 0)) 28)]) from sM_0 hT1) rfl 13 (by decide) (htg _ q_986) (fun _ h9 => h9) rfl (by decide +kernel) rfl rfl (Nat.le_of_ble_eq_true rfl) trivial trivial dX7_takeFrom_43 (fun U2 H locs e2 _ _ hP hD hS => ?_)
  refine kk U2 H locs ?_ (fun k hk => th_un e2 hk) ?_ (fun i hi => ?_) hP hD hS
  · rw [e2, shf_upd]
    exact TyM.pt13 hT1 (show shf B1 U 0 = .inr (7, [.ref (a (B1 + 1)), .ref (a (B1 + 2)), .ref (a (B1 + 3)), .ref (a (B1 + 4)), .ref (a (B1 + 5)), .ref (a (B1 + 6)), .ref (a (B1 + 7)), .int (gi (U (B1 + 0)) 7), .ref (a (B1 + 8)), .int (gi (U (B1 + 0)) 9), .ref (a (B1 + 9)), .int (gi (U (B1 + 0)) 11), .ref (a (B1 + 10)), .int (gi (U (B1 + 0)) 13), .ref (a (B1 + 11)), .int (gi (U (B1 + 0)) 15), .ref (a (B1 + 12)), .ref (a (B1 + 13)), .ref (a (B1 + 14)), .int (gi (U (B1 + 0)) 19), gv (U (B1 + 0)) 20, .int (gi (U (B1 + 0)) 21), .int (gi (U (B1 + 0)) 22), .int (gi (U (B1 + 0)) 23), .long (gl (U (B1 + 0)) 24), .int (gi (U (B1 + 0)) 25), .int (gi (U (B1 + 0)) 26), .ref (a (B1 + 15)), .int (gi (U (B1 + 0)) 28)]) from sM_0 hT1) (fM_0_13 hT2)
  · rw [e2, updc_eq]
    rfl
  · exact gv_st e2 (show U (B1 + 0) = .inr (7, [.ref (a (B1 + 1)), .ref (a (B1 + 2)), .ref (a (B1 + 3)), .ref (a (B1 + 4)), .ref (a (B1 + 5)), .ref (a (B1 + 6)), .ref (a (B1 + 7)), .int (gi (U (B1 + 0)) 7), .ref (a (B1 + 8)), .int (gi (U (B1 + 0)) 9), .ref (a (B1 + 9)), .int (gi (U (B1 + 0)) 11), .ref (a (B1 + 10)), .int (gi (U (B1 + 0)) 13), .ref (a (B1 + 11)), .int (gi (U (B1 + 0)) 15), .ref (a (B1 + 12)), .ref (a (B1 + 13)), .ref (a (B1 + 14)), .int (gi (U (B1 + 0)) 19), gv (U (B1 + 0)) 20, .int (gi (U (B1 + 0)) 21), .int (gi (U (B1 + 0)) 22), .int (gi (U (B1 + 0)) 23), .long (gl (U (B1 + 0)) 24), .int (gi (U (B1 + 0)) 25), .int (gi (U (B1 + 0)) 26), .ref (a (B1 + 15)), .int (gi (U (B1 + 0)) 28)]) from sM_0 hT1) hi

set_option maxHeartbeats 4000000 in
set_option maxRecDepth 100000 in
theorem tk_bwaggon {p : Program} {l : Launch} {e : Env} {R : Room} {s : State} {m : MethodId} {args : Array Value} {below : List Frame} {meth : Method} {c : Code} {cells slots : Nat} {Q : State → Prop} {D : va_G} {E : Nat → ClassId} {A : Nat → Prop} {G : Nat → Nat} (hx : p.tables.exec = Jvm.exec) (hb : c.code = cX7_takeFrom) (htg : ∀ w ∈ oh_t, w.before args s = true) (hown : s.vm.findClass RX7 = some m.cls) (hml : c.maxLocals = 2) (hK : va_K D vwCl (oh_ty E) s) (hG : oh_G G A s) (hA : ∀ q, s.heap.size ≤ q → A q) (hRf : 2 ≤ R.frames) (hRl : 44 ≤ R.locals) (hRc : cells ≤ R.cells) (hRs : slots ≤ R.slots) {n : Nat} {a : Nat → Nat} {B1 B2 : Nat} (hB : (B1 = 0 ∧ B2 = 74) ∨ (B1 = 74 ∧ B2 = 0)) (hn : 148 ≤ n) {U : Nat → va_E} (hT1 : TyM (shf B1 a) E (shf B1 U)) (hT2 : TyM (shf B2 a) E (shf B2 U)) {H : Heap} {locs : List Loc} {ls : Array Slot} (hP : va_P D vwCl (oh_W n a U) H) (hD : va_D A (oh_W n a U)) (hS : va_S A s.heap H locs) (hl : lv_has ls 2 [(0, .ref (a (B1 + 0))), (1, .ref (a (B2 + 0)))]) (kk : ∀ (U2 : Nat → va_E) (H : Heap) (locs : List Loc), TyM (shf B1 a) E (shf B1 U2) → (∀ k, (k < B1 + 64 ∨ B1 + 64 + 5 ≤ k) → U2 k = U k) → (∀ i, i < 5 → ∃ g : Nat → Int32, U2 (B1 + (64 + i)) = .inl (E 0, 3, .inl g) ∧ ∀ q, q < 3 → g q = ga (U (B2 + (64 + i))) q) → va_P D vwCl (oh_W n a U2) H → va_D A (oh_W n a U2) → va_S A s.heap H locs → W p l e R s m args below meth c H locs cells slots Q (F0 m 57 ls [])) : W p l e R s m args below meth c H locs cells slots Q (F0 m 46 ls []) := by
  refine lv_aload_n hx hb dX7_takeFrom_46 rfl (lv_at hl 1 rfl) ?_
  refine va_get (D := D) (ci := 7) (v := .ref (a (B2 + 11))) (C := RX7) (T := TX7) (N := 29) hx hb htg ig_7 hown hK hP (B2 + 0) (oh_wg (k := B2 + 0) (by omega) (show U (B2 + 0) = .inr (7, [.ref (a (B2 + 1)), .ref (a (B2 + 2)), .ref (a (B2 + 3)), .ref (a (B2 + 4)), .ref (a (B2 + 5)), .ref (a (B2 + 6)), .ref (a (B2 + 7)), .int (gi (U (B2 + 0)) 7), .ref (a (B2 + 8)), .int (gi (U (B2 + 0)) 9), .ref (a (B2 + 9)), .int (gi (U (B2 + 0)) 11), .ref (a (B2 + 10)), .int (gi (U (B2 + 0)) 13), .ref (a (B2 + 11)), .int (gi (U (B2 + 0)) 15), .ref (a (B2 + 12)), .ref (a (B2 + 13)), .ref (a (B2 + 14)), .int (gi (U (B2 + 0)) 19), gv (U (B2 + 0)) 20, .int (gi (U (B2 + 0)) 21), .int (gi (U (B2 + 0)) 22), .int (gi (U (B2 + 0)) 23), .long (gl (U (B2 + 0)) 24), .int (gi (U (B2 + 0)) 25), .int (gi (U (B2 + 0)) 26), .ref (a (B2 + 15)), .int (gi (U (B2 + 0)) 28)]) from sM_0 hT2)) rfl 14 (by decide) (htg _ q_987) (fun _ h9 => h9) rfl dX7_takeFrom_47 ?_
  refine lv_aload_n hx hb dX7_takeFrom_50 rfl (lv_at hl 0 rfl) ?_
  refine va_get (D := D) (ci := 7) (v := .ref (a (B1 + 11))) (C := RX7) (T := TX7) (N := 29) hx hb htg ig_7 hown hK hP (B1 + 0) (oh_wg (k := B1 + 0) (by omega) (show U (B1 + 0) = .inr (7, [.ref (a (B1 + 1)), .ref (a (B1 + 2)), .ref (a (B1 + 3)), .ref (a (B1 + 4)), .ref (a (B1 + 5)), .ref (a (B1 + 6)), .ref (a (B1 + 7)), .int (gi (U (B1 + 0)) 7), .ref (a (B1 + 8)), .int (gi (U (B1 + 0)) 9), .ref (a (B1 + 9)), .int (gi (U (B1 + 0)) 11), .ref (a (B1 + 10)), .int (gi (U (B1 + 0)) 13), .ref (a (B1 + 11)), .int (gi (U (B1 + 0)) 15), .ref (a (B1 + 12)), .ref (a (B1 + 13)), .ref (a (B1 + 14)), .int (gi (U (B1 + 0)) 19), gv (U (B1 + 0)) 20, .int (gi (U (B1 + 0)) 21), .int (gi (U (B1 + 0)) 22), .int (gi (U (B1 + 0)) 23), .long (gl (U (B1 + 0)) 24), .int (gi (U (B1 + 0)) 25), .int (gi (U (B1 + 0)) 26), .ref (a (B1 + 15)), .int (gi (U (B1 + 0)) 28)]) from sM_0 hT1)) rfl 14 (by decide) (htg _ q_987) (fun _ h9 => h9) rfl dX7_takeFrom_51 ?_
  have s1 := (Eq.trans (show U (B2 + 11) = .inl (E 2, 5, .inr (.inr (.inr (.inr (qf (shf B2 a) 5 64))))) from sM_11 hT2) (congrArg (fun f => (.inl (E 2, 5, .inr (.inr (.inr (.inr f)))) : va_E)) qf_sh))
  have s2 := (Eq.trans (show U (B1 + 11) = .inl (E 2, 5, .inr (.inr (.inr (.inr (qf (shf B1 a) 5 64))))) from sM_11 hT1) (congrArg (fun f => (.inl (E 2, 5, .inr (.inr (.inr (.inr f)))) : va_E)) qf_sh))
  have r1 : ∀ i, i < 5 → U (B2 + 64 + i) = .inl (E 0, 3, .inl (ga (U (B2 + 64 + i)))) := fun i hi => by rw [Nat.add_assoc]; exact (hT2.bwaggon hi).1
  have r2 : ∀ i, i < 5 → U (B1 + 64 + i) = .inl (E 0, 3, .inl (ga (U (B1 + 64 + i)))) := fun i hi => by rw [Nat.add_assoc]; exact (hT1.bwaggon hi).1
  refine tm_Sv (As := [.ref (a (B2 + 11)), .ref (a (B1 + 11))]) (rest := []) ⟨hx, hb, hml, hown, htg⟩ (c_X7_overAll l D E G _ n a U (B2 + 11) (B1 + 11) (B2 + 64) (B1 + 64) 5 3 (by omega) (by omega) (by omega) (by omega) (by omega) (by omega) (by omega) (fun i hi => by omega) (fun i hi => by omega) s1 s2 r1 r2) (va_cwS 2 htg (oh_gS q_1431 q_1432 q_73 q_1433) rfl rfl rfl pdX7_overAll ⟨by omega, by omega⟩) hK hP hD hG hS hA rfl hl.1 rfl (Nat.le_of_ble_eq_true rfl) dX7_takeFrom_54 ⟨hRc, hRs⟩ (fun U2 H locs hq hP hD hS => ?_)
  have hE : ∀ k, (k < B1 + 64 ∨ B1 + 64 + 5 ≤ k) → U2 k = U k := fun k hk => hq.2 k (fun i hi => by omega)
  have hc : ∀ i, i < 5 → ∃ g : Nat → Int32, U2 (B1 + (64 + i)) = .inl (E 0, 3, .inl g) ∧ ∀ q, q < 3 → g q = ga (U (B2 + (64 + i))) q := fun i hi => by
    obtain ⟨g, h1, h2⟩ := hq.1 i hi
    exact ⟨g, by rw [← Nat.add_assoc]; exact h1, fun q hq => by rw [← Nat.add_assoc]; exact h2 q hq⟩
  exact kk U2 H locs (TyM.cpwaggon hT1 hT2 (fun k hk hn => hE (B1 + k) (by omega)) hc) hE hc hP hD hS

set_option maxHeartbeats 4000000 in
set_option maxRecDepth 100000 in
theorem tk_f15 {p : Program} {l : Launch} {e : Env} {R : Room} {s : State} {m : MethodId} {args : Array Value} {below : List Frame} {meth : Method} {c : Code} {cells slots : Nat} {Q : State → Prop} {D : va_G} {E : Nat → ClassId} {A : Nat → Prop} {G : Nat → Nat} (hx : p.tables.exec = Jvm.exec) (hb : c.code = cX7_takeFrom) (htg : ∀ w ∈ oh_t, w.before args s = true) (hown : s.vm.findClass RX7 = some m.cls) (hml : c.maxLocals = 2) (hK : va_K D vwCl (oh_ty E) s) (hG : oh_G G A s) (hA : ∀ q, s.heap.size ≤ q → A q) (hRf : 2 ≤ R.frames) (hRl : 44 ≤ R.locals) (hRc : cells ≤ R.cells) (hRs : slots ≤ R.slots) {n : Nat} {a : Nat → Nat} {B1 B2 : Nat} (hB : (B1 = 0 ∧ B2 = 74) ∨ (B1 = 74 ∧ B2 = 0)) (hn : 148 ≤ n) {U : Nat → va_E} (hT1 : TyM (shf B1 a) E (shf B1 U)) (hT2 : TyM (shf B2 a) E (shf B2 U)) {H : Heap} {locs : List Loc} {ls : Array Slot} (hP : va_P D vwCl (oh_W n a U) H) (hD : va_D A (oh_W n a U)) (hS : va_S A s.heap H locs) (hl : lv_has ls 2 [(0, .ref (a (B1 + 0))), (1, .ref (a (B2 + 0)))]) (kk : ∀ (U2 : Nat → va_E) (H : Heap) (locs : List Loc), TyM (shf B1 a) E (shf B1 U2) → (∀ k, k ≠ B1 + 0 → U2 k = U k) → (gi (U2 (B1 + 0)) 15 = gi (U (B2 + 0)) 15) → (∀ i, i ≠ 15 → gv (U2 (B1 + 0)) i = gv (U (B1 + 0)) i) → va_P D vwCl (oh_W n a U2) H → va_D A (oh_W n a U2) → va_S A s.heap H locs → W p l e R s m args below meth c H locs cells slots Q (F0 m 65 ls [])) : W p l e R s m args below meth c H locs cells slots Q (F0 m 57 ls []) := by
  refine lv_aload_n hx hb dX7_takeFrom_57 rfl (lv_at hl 0 rfl) ?_
  refine lv_aload_n hx hb dX7_takeFrom_58 rfl (lv_at hl 1 rfl) ?_
  refine va_get (D := D) (ci := 7) (v := .int (gi (U (B2 + 0)) 15)) (C := RX7) (T := TX7) (N := 29) hx hb htg ig_7 hown hK hP (B2 + 0) (oh_wg (k := B2 + 0) (by omega) (show U (B2 + 0) = .inr (7, [.ref (a (B2 + 1)), .ref (a (B2 + 2)), .ref (a (B2 + 3)), .ref (a (B2 + 4)), .ref (a (B2 + 5)), .ref (a (B2 + 6)), .ref (a (B2 + 7)), .int (gi (U (B2 + 0)) 7), .ref (a (B2 + 8)), .int (gi (U (B2 + 0)) 9), .ref (a (B2 + 9)), .int (gi (U (B2 + 0)) 11), .ref (a (B2 + 10)), .int (gi (U (B2 + 0)) 13), .ref (a (B2 + 11)), .int (gi (U (B2 + 0)) 15), .ref (a (B2 + 12)), .ref (a (B2 + 13)), .ref (a (B2 + 14)), .int (gi (U (B2 + 0)) 19), gv (U (B2 + 0)) 20, .int (gi (U (B2 + 0)) 21), .int (gi (U (B2 + 0)) 22), .int (gi (U (B2 + 0)) 23), .long (gl (U (B2 + 0)) 24), .int (gi (U (B2 + 0)) 25), .int (gi (U (B2 + 0)) 26), .ref (a (B2 + 15)), .int (gi (U (B2 + 0)) 28)]) from sM_0 hT2)) rfl 15 (by decide) (htg _ q_988) (fun _ h9 => h9) rfl dX7_takeFrom_59 ?_
  refine th_put (Tp := fun _ => True) (Rl := fun _ => True) (ci := 7) (v := .int (gi (U (B2 + 0)) 15)) (ty := .int) (CC := RX7) (T := TX7) (N := 29) hx hb htg ig_7 tyX7 tyX7_ok nmX7 hown hK hP hD hS (B1 + 0) (by omega) (show U (B1 + 0) = .inr (7, [.ref (a (B1 + 1)), .ref (a (B1 + 2)), .ref (a (B1 + 3)), .ref (a (B1 + 4)), .ref (a (B1 + 5)), .ref (a (B1 + 6)), .ref (a (B1 + 7)), .int (gi (U (B1 + 0)) 7), .ref (a (B1 + 8)), .int (gi (U (B1 + 0)) 9), .ref (a (B1 + 9)), .int (gi (U (B1 + 0)) 11), .ref (a (B1 + 10)), .int (gi (U (B1 + 0)) 13), .ref (a (B1 + 11)), .int (gi (U (B1 + 0)) 15), .ref (a (B1 + 12)), .ref (a (B1 + 13)), .ref (a (B1 + 14)), .int (gi (U (B1 + 0)) 19), gv (U (B1 + 0)) 20, .int (gi (U (B1 + 0)) 21), .int (gi (U (B1 + 0)) 22), .int (gi (U (B1 + 0)) 23), .long (gl (U (B1 + 0)) 24), .int (gi (U (B1 + 0)) 25), .int (gi (U (B1 + 0)) 26), .ref (a (B1 + 15)), .int (gi (U (B1 + 0)) 28)]) from sM_0 hT1) rfl 15 (by decide) (htg _ q_988) (fun _ h9 => h9) rfl (by decide +kernel) rfl rfl (Nat.le_of_ble_eq_true rfl) trivial trivial dX7_takeFrom_62 (fun U2 H locs e2 _ _ hP hD hS => ?_)
  refine kk U2 H locs ?_ (fun k hk => th_un e2 hk) ?_ (fun i hi => ?_) hP hD hS
  · rw [e2, shf_upd]
    exact TyM.pt15 hT1 (show shf B1 U 0 = .inr (7, [.ref (a (B1 + 1)), .ref (a (B1 + 2)), .ref (a (B1 + 3)), .ref (a (B1 + 4)), .ref (a (B1 + 5)), .ref (a (B1 + 6)), .ref (a (B1 + 7)), .int (gi (U (B1 + 0)) 7), .ref (a (B1 + 8)), .int (gi (U (B1 + 0)) 9), .ref (a (B1 + 9)), .int (gi (U (B1 + 0)) 11), .ref (a (B1 + 10)), .int (gi (U (B1 + 0)) 13), .ref (a (B1 + 11)), .int (gi (U (B1 + 0)) 15), .ref (a (B1 + 12)), .ref (a (B1 + 13)), .ref (a (B1 + 14)), .int (gi (U (B1 + 0)) 19), gv (U (B1 + 0)) 20, .int (gi (U (B1 + 0)) 21), .int (gi (U (B1 + 0)) 22), .int (gi (U (B1 + 0)) 23), .long (gl (U (B1 + 0)) 24), .int (gi (U (B1 + 0)) 25), .int (gi (U (B1 + 0)) 26), .ref (a (B1 + 15)), .int (gi (U (B1 + 0)) 28)]) from sM_0 hT1) (fM_0_15 hT2)
  · rw [e2, updc_eq]
    rfl
  · exact gv_st e2 (show U (B1 + 0) = .inr (7, [.ref (a (B1 + 1)), .ref (a (B1 + 2)), .ref (a (B1 + 3)), .ref (a (B1 + 4)), .ref (a (B1 + 5)), .ref (a (B1 + 6)), .ref (a (B1 + 7)), .int (gi (U (B1 + 0)) 7), .ref (a (B1 + 8)), .int (gi (U (B1 + 0)) 9), .ref (a (B1 + 9)), .int (gi (U (B1 + 0)) 11), .ref (a (B1 + 10)), .int (gi (U (B1 + 0)) 13), .ref (a (B1 + 11)), .int (gi (U (B1 + 0)) 15), .ref (a (B1 + 12)), .ref (a (B1 + 13)), .ref (a (B1 + 14)), .int (gi (U (B1 + 0)) 19), gv (U (B1 + 0)) 20, .int (gi (U (B1 + 0)) 21), .int (gi (U (B1 + 0)) 22), .int (gi (U (B1 + 0)) 23), .long (gl (U (B1 + 0)) 24), .int (gi (U (B1 + 0)) 25), .int (gi (U (B1 + 0)) 26), .ref (a (B1 + 15)), .int (gi (U (B1 + 0)) 28)]) from sM_0 hT1) hi

set_option maxHeartbeats 4000000 in
set_option maxRecDepth 100000 in
theorem tk_bpart {p : Program} {l : Launch} {e : Env} {R : Room} {s : State} {m : MethodId} {args : Array Value} {below : List Frame} {meth : Method} {c : Code} {cells slots : Nat} {Q : State → Prop} {D : va_G} {E : Nat → ClassId} {A : Nat → Prop} {G : Nat → Nat} (hx : p.tables.exec = Jvm.exec) (hb : c.code = cX7_takeFrom) (htg : ∀ w ∈ oh_t, w.before args s = true) (hown : s.vm.findClass RX7 = some m.cls) (hml : c.maxLocals = 2) (hK : va_K D vwCl (oh_ty E) s) (hG : oh_G G A s) (hA : ∀ q, s.heap.size ≤ q → A q) (hRf : 2 ≤ R.frames) (hRl : 44 ≤ R.locals) (hRc : cells ≤ R.cells) (hRs : slots ≤ R.slots) {n : Nat} {a : Nat → Nat} {B1 B2 : Nat} (hB : (B1 = 0 ∧ B2 = 74) ∨ (B1 = 74 ∧ B2 = 0)) (hn : 148 ≤ n) {U : Nat → va_E} (hT1 : TyM (shf B1 a) E (shf B1 U)) (hT2 : TyM (shf B2 a) E (shf B2 U)) {H : Heap} {locs : List Loc} {ls : Array Slot} (hP : va_P D vwCl (oh_W n a U) H) (hD : va_D A (oh_W n a U)) (hS : va_S A s.heap H locs) (hl : lv_has ls 2 [(0, .ref (a (B1 + 0))), (1, .ref (a (B2 + 0)))]) (kk : ∀ (U2 : Nat → va_E) (H : Heap) (locs : List Loc), TyM (shf B1 a) E (shf B1 U2) → (∀ k, (k < B1 + 69 ∨ B1 + 69 + 5 ≤ k) → U2 k = U k) → (∀ i, i < 5 → ∃ g : Nat → Int32, U2 (B1 + (69 + i)) = .inl (E 0, 2, .inl g) ∧ ∀ q, q < 2 → g q = ga (U (B2 + (69 + i))) q) → va_P D vwCl (oh_W n a U2) H → va_D A (oh_W n a U2) → va_S A s.heap H locs → W p l e R s m args below meth c H locs cells slots Q (F0 m 76 ls [])) : W p l e R s m args below meth c H locs cells slots Q (F0 m 65 ls []) := by
  refine lv_aload_n hx hb dX7_takeFrom_65 rfl (lv_at hl 1 rfl) ?_
  refine va_get (D := D) (ci := 7) (v := .ref (a (B2 + 12))) (C := RX7) (T := TX7) (N := 29) hx hb htg ig_7 hown hK hP (B2 + 0) (oh_wg (k := B2 + 0) (by omega) (show U (B2 + 0) = .inr (7, [.ref (a (B2 + 1)), .ref (a (B2 + 2)), .ref (a (B2 + 3)), .ref (a (B2 + 4)), .ref (a (B2 + 5)), .ref (a (B2 + 6)), .ref (a (B2 + 7)), .int (gi (U (B2 + 0)) 7), .ref (a (B2 + 8)), .int (gi (U (B2 + 0)) 9), .ref (a (B2 + 9)), .int (gi (U (B2 + 0)) 11), .ref (a (B2 + 10)), .int (gi (U (B2 + 0)) 13), .ref (a (B2 + 11)), .int (gi (U (B2 + 0)) 15), .ref (a (B2 + 12)), .ref (a (B2 + 13)), .ref (a (B2 + 14)), .int (gi (U (B2 + 0)) 19), gv (U (B2 + 0)) 20, .int (gi (U (B2 + 0)) 21), .int (gi (U (B2 + 0)) 22), .int (gi (U (B2 + 0)) 23), .long (gl (U (B2 + 0)) 24), .int (gi (U (B2 + 0)) 25), .int (gi (U (B2 + 0)) 26), .ref (a (B2 + 15)), .int (gi (U (B2 + 0)) 28)]) from sM_0 hT2)) rfl 16 (by decide) (htg _ q_989) (fun _ h9 => h9) rfl dX7_takeFrom_66 ?_
  refine lv_aload_n hx hb dX7_takeFrom_69 rfl (lv_at hl 0 rfl) ?_
  refine va_get (D := D) (ci := 7) (v := .ref (a (B1 + 12))) (C := RX7) (T := TX7) (N := 29) hx hb htg ig_7 hown hK hP (B1 + 0) (oh_wg (k := B1 + 0) (by omega) (show U (B1 + 0) = .inr (7, [.ref (a (B1 + 1)), .ref (a (B1 + 2)), .ref (a (B1 + 3)), .ref (a (B1 + 4)), .ref (a (B1 + 5)), .ref (a (B1 + 6)), .ref (a (B1 + 7)), .int (gi (U (B1 + 0)) 7), .ref (a (B1 + 8)), .int (gi (U (B1 + 0)) 9), .ref (a (B1 + 9)), .int (gi (U (B1 + 0)) 11), .ref (a (B1 + 10)), .int (gi (U (B1 + 0)) 13), .ref (a (B1 + 11)), .int (gi (U (B1 + 0)) 15), .ref (a (B1 + 12)), .ref (a (B1 + 13)), .ref (a (B1 + 14)), .int (gi (U (B1 + 0)) 19), gv (U (B1 + 0)) 20, .int (gi (U (B1 + 0)) 21), .int (gi (U (B1 + 0)) 22), .int (gi (U (B1 + 0)) 23), .long (gl (U (B1 + 0)) 24), .int (gi (U (B1 + 0)) 25), .int (gi (U (B1 + 0)) 26), .ref (a (B1 + 15)), .int (gi (U (B1 + 0)) 28)]) from sM_0 hT1)) rfl 16 (by decide) (htg _ q_989) (fun _ h9 => h9) rfl dX7_takeFrom_70 ?_
  have s1 := (Eq.trans (show U (B2 + 12) = .inl (E 2, 5, .inr (.inr (.inr (.inr (qf (shf B2 a) 5 69))))) from sM_12 hT2) (congrArg (fun f => (.inl (E 2, 5, .inr (.inr (.inr (.inr f)))) : va_E)) qf_sh))
  have s2 := (Eq.trans (show U (B1 + 12) = .inl (E 2, 5, .inr (.inr (.inr (.inr (qf (shf B1 a) 5 69))))) from sM_12 hT1) (congrArg (fun f => (.inl (E 2, 5, .inr (.inr (.inr (.inr f)))) : va_E)) qf_sh))
  have r1 : ∀ i, i < 5 → U (B2 + 69 + i) = .inl (E 0, 2, .inl (ga (U (B2 + 69 + i)))) := fun i hi => by rw [Nat.add_assoc]; exact (hT2.bpart hi).1
  have r2 : ∀ i, i < 5 → U (B1 + 69 + i) = .inl (E 0, 2, .inl (ga (U (B1 + 69 + i)))) := fun i hi => by rw [Nat.add_assoc]; exact (hT1.bpart hi).1
  refine tm_Sv (As := [.ref (a (B2 + 12)), .ref (a (B1 + 12))]) (rest := []) ⟨hx, hb, hml, hown, htg⟩ (c_X7_overAll l D E G _ n a U (B2 + 12) (B1 + 12) (B2 + 69) (B1 + 69) 5 2 (by omega) (by omega) (by omega) (by omega) (by omega) (by omega) (by omega) (fun i hi => by omega) (fun i hi => by omega) s1 s2 r1 r2) (va_cwS 2 htg (oh_gS q_1431 q_1432 q_73 q_1433) rfl rfl rfl pdX7_overAll ⟨by omega, by omega⟩) hK hP hD hG hS hA rfl hl.1 rfl (Nat.le_of_ble_eq_true rfl) dX7_takeFrom_73 ⟨hRc, hRs⟩ (fun U2 H locs hq hP hD hS => ?_)
  have hE : ∀ k, (k < B1 + 69 ∨ B1 + 69 + 5 ≤ k) → U2 k = U k := fun k hk => hq.2 k (fun i hi => by omega)
  have hc : ∀ i, i < 5 → ∃ g : Nat → Int32, U2 (B1 + (69 + i)) = .inl (E 0, 2, .inl g) ∧ ∀ q, q < 2 → g q = ga (U (B2 + (69 + i))) q := fun i hi => by
    obtain ⟨g, h1, h2⟩ := hq.1 i hi
    exact ⟨g, by rw [← Nat.add_assoc]; exact h1, fun q hq => by rw [← Nat.add_assoc]; exact h2 q hq⟩
  exact kk U2 H locs (TyM.cppart hT1 hT2 (fun k hk hn => hE (B1 + k) (by omega)) hc) hE hc hP hD hS

set_option maxHeartbeats 4000000 in
set_option maxRecDepth 100000 in
theorem tk_c13 {p : Program} {l : Launch} {e : Env} {R : Room} {s : State} {m : MethodId} {args : Array Value} {below : List Frame} {meth : Method} {c : Code} {cells slots : Nat} {Q : State → Prop} {D : va_G} {E : Nat → ClassId} {A : Nat → Prop} {G : Nat → Nat} (hx : p.tables.exec = Jvm.exec) (hb : c.code = cX7_takeFrom) (htg : ∀ w ∈ oh_t, w.before args s = true) (hown : s.vm.findClass RX7 = some m.cls) (hml : c.maxLocals = 2) (hK : va_K D vwCl (oh_ty E) s) (hG : oh_G G A s) (hA : ∀ q, s.heap.size ≤ q → A q) (hRf : 2 ≤ R.frames) (hRl : 44 ≤ R.locals) (hRc : cells ≤ R.cells) (hRs : slots ≤ R.slots) {n : Nat} {a : Nat → Nat} {B1 B2 : Nat} (hB : (B1 = 0 ∧ B2 = 74) ∨ (B1 = 74 ∧ B2 = 0)) (hn : 148 ≤ n) {U : Nat → va_E} (hT1 : TyM (shf B1 a) E (shf B1 U)) (hT2 : TyM (shf B2 a) E (shf B2 U)) {H : Heap} {locs : List Loc} {ls : Array Slot} (hP : va_P D vwCl (oh_W n a U) H) (hD : va_D A (oh_W n a U)) (hS : va_S A s.heap H locs) (hl : lv_has ls 2 [(0, .ref (a (B1 + 0))), (1, .ref (a (B2 + 0)))]) (kk : ∀ (U2 : Nat → va_E) (H : Heap) (locs : List Loc), TyM (shf B1 a) E (shf B1 U2) → (∀ k, k ≠ B1 + 13 → U2 k = U k) → (∀ q, q < 3 → ga (U2 (B1 + 13)) q = ga (U (B2 + 13)) q) → va_P D vwCl (oh_W n a U2) H → va_D A (oh_W n a U2) → va_S A s.heap H locs → W p l e R s m args below meth c H locs cells slots Q (F0 m 87 ls [])) : W p l e R s m args below meth c H locs cells slots Q (F0 m 76 ls []) := by
  refine lv_aload_n hx hb dX7_takeFrom_76 rfl (lv_at hl 1 rfl) ?_
  refine va_get (D := D) (ci := 7) (v := .ref (a (B2 + 13))) (C := RX7) (T := TX7) (N := 29) hx hb htg ig_7 hown hK hP (B2 + 0) (oh_wg (k := B2 + 0) (by omega) (show U (B2 + 0) = .inr (7, [.ref (a (B2 + 1)), .ref (a (B2 + 2)), .ref (a (B2 + 3)), .ref (a (B2 + 4)), .ref (a (B2 + 5)), .ref (a (B2 + 6)), .ref (a (B2 + 7)), .int (gi (U (B2 + 0)) 7), .ref (a (B2 + 8)), .int (gi (U (B2 + 0)) 9), .ref (a (B2 + 9)), .int (gi (U (B2 + 0)) 11), .ref (a (B2 + 10)), .int (gi (U (B2 + 0)) 13), .ref (a (B2 + 11)), .int (gi (U (B2 + 0)) 15), .ref (a (B2 + 12)), .ref (a (B2 + 13)), .ref (a (B2 + 14)), .int (gi (U (B2 + 0)) 19), gv (U (B2 + 0)) 20, .int (gi (U (B2 + 0)) 21), .int (gi (U (B2 + 0)) 22), .int (gi (U (B2 + 0)) 23), .long (gl (U (B2 + 0)) 24), .int (gi (U (B2 + 0)) 25), .int (gi (U (B2 + 0)) 26), .ref (a (B2 + 15)), .int (gi (U (B2 + 0)) 28)]) from sM_0 hT2)) rfl 17 (by decide) (htg _ q_990) (fun _ h9 => h9) rfl dX7_takeFrom_77 ?_
  refine lv_aload_n hx hb dX7_takeFrom_80 rfl (lv_at hl 0 rfl) ?_
  refine va_get (D := D) (ci := 7) (v := .ref (a (B1 + 13))) (C := RX7) (T := TX7) (N := 29) hx hb htg ig_7 hown hK hP (B1 + 0) (oh_wg (k := B1 + 0) (by omega) (show U (B1 + 0) = .inr (7, [.ref (a (B1 + 1)), .ref (a (B1 + 2)), .ref (a (B1 + 3)), .ref (a (B1 + 4)), .ref (a (B1 + 5)), .ref (a (B1 + 6)), .ref (a (B1 + 7)), .int (gi (U (B1 + 0)) 7), .ref (a (B1 + 8)), .int (gi (U (B1 + 0)) 9), .ref (a (B1 + 9)), .int (gi (U (B1 + 0)) 11), .ref (a (B1 + 10)), .int (gi (U (B1 + 0)) 13), .ref (a (B1 + 11)), .int (gi (U (B1 + 0)) 15), .ref (a (B1 + 12)), .ref (a (B1 + 13)), .ref (a (B1 + 14)), .int (gi (U (B1 + 0)) 19), gv (U (B1 + 0)) 20, .int (gi (U (B1 + 0)) 21), .int (gi (U (B1 + 0)) 22), .int (gi (U (B1 + 0)) 23), .long (gl (U (B1 + 0)) 24), .int (gi (U (B1 + 0)) 25), .int (gi (U (B1 + 0)) 26), .ref (a (B1 + 15)), .int (gi (U (B1 + 0)) 28)]) from sM_0 hT1)) rfl 17 (by decide) (htg _ q_990) (fun _ h9 => h9) rfl dX7_takeFrom_81 ?_
  refine tm_Sv (As := [.ref (a (B2 + 13)), .ref (a (B1 + 13))]) (rest := []) ⟨hx, hb, hml, hown, htg⟩ (c_X7_over l D E G _ n a U (B2 + 13) (B1 + 13) 3 (by omega) (by omega) (by omega) (by omega) (show U (B2 + 13) = _ from sM_13 hT2) (show U (B1 + 13) = _ from sM_13 hT1)) (va_cwS 2 htg (oh_gS q_1434 q_1435 q_73 q_1436) rfl rfl rfl pdX7_over ⟨show 0 + 1 ≤ R.frames by omega, show 8 + (3 + 11) + 0 ≤ R.locals by omega⟩) hK hP hD hG hS hA rfl hl.1 rfl (Nat.le_of_ble_eq_true rfl) dX7_takeFrom_84 ⟨hRc, hRs⟩ (fun U2 H locs hq hP hD hS => ?_)
  obtain ⟨g, e2, hg⟩ := hq
  refine kk U2 H locs ?_ (fun k hk => th_un e2 hk) (fun q hq => ?_) hP hD hS
  · rw [e2, shf_upd]
    exact hT1.up 13 (by decide) (tA_cp (tM_13 hT2) rfl hg)
  · rw [st_ga e2, hg q hq]

set_option maxHeartbeats 4000000 in
set_option maxRecDepth 100000 in
theorem tk_c14 {p : Program} {l : Launch} {e : Env} {R : Room} {s : State} {m : MethodId} {args : Array Value} {below : List Frame} {meth : Method} {c : Code} {cells slots : Nat} {Q : State → Prop} {D : va_G} {E : Nat → ClassId} {A : Nat → Prop} {G : Nat → Nat} (hx : p.tables.exec = Jvm.exec) (hb : c.code = cX7_takeFrom) (htg : ∀ w ∈ oh_t, w.before args s = true) (hown : s.vm.findClass RX7 = some m.cls) (hml : c.maxLocals = 2) (hK : va_K D vwCl (oh_ty E) s) (hG : oh_G G A s) (hA : ∀ q, s.heap.size ≤ q → A q) (hRf : 2 ≤ R.frames) (hRl : 44 ≤ R.locals) (hRc : cells ≤ R.cells) (hRs : slots ≤ R.slots) {n : Nat} {a : Nat → Nat} {B1 B2 : Nat} (hB : (B1 = 0 ∧ B2 = 74) ∨ (B1 = 74 ∧ B2 = 0)) (hn : 148 ≤ n) {U : Nat → va_E} (hT1 : TyM (shf B1 a) E (shf B1 U)) (hT2 : TyM (shf B2 a) E (shf B2 U)) {H : Heap} {locs : List Loc} {ls : Array Slot} (hP : va_P D vwCl (oh_W n a U) H) (hD : va_D A (oh_W n a U)) (hS : va_S A s.heap H locs) (hl : lv_has ls 2 [(0, .ref (a (B1 + 0))), (1, .ref (a (B2 + 0)))]) (kk : ∀ (U2 : Nat → va_E) (H : Heap) (locs : List Loc), TyM (shf B1 a) E (shf B1 U2) → (∀ k, k ≠ B1 + 14 → U2 k = U k) → (∀ q, q < 7 → ga (U2 (B1 + 14)) q = ga (U (B2 + 14)) q) → va_P D vwCl (oh_W n a U2) H → va_D A (oh_W n a U2) → va_S A s.heap H locs → W p l e R s m args below meth c H locs cells slots Q (F0 m 98 ls [])) : W p l e R s m args below meth c H locs cells slots Q (F0 m 87 ls []) := by
  refine lv_aload_n hx hb dX7_takeFrom_87 rfl (lv_at hl 1 rfl) ?_
  refine va_get (D := D) (ci := 7) (v := .ref (a (B2 + 14))) (C := RX7) (T := TX7) (N := 29) hx hb htg ig_7 hown hK hP (B2 + 0) (oh_wg (k := B2 + 0) (by omega) (show U (B2 + 0) = .inr (7, [.ref (a (B2 + 1)), .ref (a (B2 + 2)), .ref (a (B2 + 3)), .ref (a (B2 + 4)), .ref (a (B2 + 5)), .ref (a (B2 + 6)), .ref (a (B2 + 7)), .int (gi (U (B2 + 0)) 7), .ref (a (B2 + 8)), .int (gi (U (B2 + 0)) 9), .ref (a (B2 + 9)), .int (gi (U (B2 + 0)) 11), .ref (a (B2 + 10)), .int (gi (U (B2 + 0)) 13), .ref (a (B2 + 11)), .int (gi (U (B2 + 0)) 15), .ref (a (B2 + 12)), .ref (a (B2 + 13)), .ref (a (B2 + 14)), .int (gi (U (B2 + 0)) 19), gv (U (B2 + 0)) 20, .int (gi (U (B2 + 0)) 21), .int (gi (U (B2 + 0)) 22), .int (gi (U (B2 + 0)) 23), .long (gl (U (B2 + 0)) 24), .int (gi (U (B2 + 0)) 25), .int (gi (U (B2 + 0)) 26), .ref (a (B2 + 15)), .int (gi (U (B2 + 0)) 28)]) from sM_0 hT2)) rfl 18 (by decide) (htg _ q_991) (fun _ h9 => h9) rfl dX7_takeFrom_88 ?_
  refine lv_aload_n hx hb dX7_takeFrom_91 rfl (lv_at hl 0 rfl) ?_
  refine va_get (D := D) (ci := 7) (v := .ref (a (B1 + 14))) (C := RX7) (T := TX7) (N := 29) hx hb htg ig_7 hown hK hP (B1 + 0) (oh_wg (k := B1 + 0) (by omega) (show U (B1 + 0) = .inr (7, [.ref (a (B1 + 1)), .ref (a (B1 + 2)), .ref (a (B1 + 3)), .ref (a (B1 + 4)), .ref (a (B1 + 5)), .ref (a (B1 + 6)), .ref (a (B1 + 7)), .int (gi (U (B1 + 0)) 7), .ref (a (B1 + 8)), .int (gi (U (B1 + 0)) 9), .ref (a (B1 + 9)), .int (gi (U (B1 + 0)) 11), .ref (a (B1 + 10)), .int (gi (U (B1 + 0)) 13), .ref (a (B1 + 11)), .int (gi (U (B1 + 0)) 15), .ref (a (B1 + 12)), .ref (a (B1 + 13)), .ref (a (B1 + 14)), .int (gi (U (B1 + 0)) 19), gv (U (B1 + 0)) 20, .int (gi (U (B1 + 0)) 21), .int (gi (U (B1 + 0)) 22), .int (gi (U (B1 + 0)) 23), .long (gl (U (B1 + 0)) 24), .int (gi (U (B1 + 0)) 25), .int (gi (U (B1 + 0)) 26), .ref (a (B1 + 15)), .int (gi (U (B1 + 0)) 28)]) from sM_0 hT1)) rfl 18 (by decide) (htg _ q_991) (fun _ h9 => h9) rfl dX7_takeFrom_92 ?_
  refine tm_Sv (As := [.ref (a (B2 + 14)), .ref (a (B1 + 14))]) (rest := []) ⟨hx, hb, hml, hown, htg⟩ (c_X7_over l D E G _ n a U (B2 + 14) (B1 + 14) 7 (by omega) (by omega) (by omega) (by omega) (show U (B2 + 14) = _ from sM_14 hT2) (show U (B1 + 14) = _ from sM_14 hT1)) (va_cwS 2 htg (oh_gS q_1434 q_1435 q_73 q_1436) rfl rfl rfl pdX7_over ⟨show 0 + 1 ≤ R.frames by omega, show 8 + (3 + 11) + 0 ≤ R.locals by omega⟩) hK hP hD hG hS hA rfl hl.1 rfl (Nat.le_of_ble_eq_true rfl) dX7_takeFrom_95 ⟨hRc, hRs⟩ (fun U2 H locs hq hP hD hS => ?_)
  obtain ⟨g, e2, hg⟩ := hq
  refine kk U2 H locs ?_ (fun k hk => th_un e2 hk) (fun q hq => ?_) hP hD hS
  · rw [e2, shf_upd]
    exact hT1.up 14 (by decide) (tA_cp (tM_14 hT2) rfl hg)
  · rw [st_ga e2, hg q hq]

set_option maxHeartbeats 4000000 in
set_option maxRecDepth 100000 in
theorem tk_f19 {p : Program} {l : Launch} {e : Env} {R : Room} {s : State} {m : MethodId} {args : Array Value} {below : List Frame} {meth : Method} {c : Code} {cells slots : Nat} {Q : State → Prop} {D : va_G} {E : Nat → ClassId} {A : Nat → Prop} {G : Nat → Nat} (hx : p.tables.exec = Jvm.exec) (hb : c.code = cX7_takeFrom) (htg : ∀ w ∈ oh_t, w.before args s = true) (hown : s.vm.findClass RX7 = some m.cls) (hml : c.maxLocals = 2) (hK : va_K D vwCl (oh_ty E) s) (hG : oh_G G A s) (hA : ∀ q, s.heap.size ≤ q → A q) (hRf : 2 ≤ R.frames) (hRl : 44 ≤ R.locals) (hRc : cells ≤ R.cells) (hRs : slots ≤ R.slots) {n : Nat} {a : Nat → Nat} {B1 B2 : Nat} (hB : (B1 = 0 ∧ B2 = 74) ∨ (B1 = 74 ∧ B2 = 0)) (hn : 148 ≤ n) {U : Nat → va_E} (hT1 : TyM (shf B1 a) E (shf B1 U)) (hT2 : TyM (shf B2 a) E (shf B2 U)) {H : Heap} {locs : List Loc} {ls : Array Slot} (hP : va_P D vwCl (oh_W n a U) H) (hD : va_D A (oh_W n a U)) (hS : va_S A s.heap H locs) (hl : lv_has ls 2 [(0, .ref (a (B1 + 0))), (1, .ref (a (B2 + 0)))]) (kk : ∀ (U2 : Nat → va_E) (H : Heap) (locs : List Loc), TyM (shf B1 a) E (shf B1 U2) → (∀ k, k ≠ B1 + 0 → U2 k = U k) → (gi (U2 (B1 + 0)) 19 = gi (U (B2 + 0)) 19) → (∀ i, i ≠ 19 → gv (U2 (B1 + 0)) i = gv (U (B1 + 0)) i) → va_P D vwCl (oh_W n a U2) H → va_D A (oh_W n a U2) → va_S A s.heap H locs → W p l e R s m args below meth c H locs cells slots Q (F0 m 106 ls [])) : W p l e R s m args below meth c H locs cells slots Q (F0 m 98 ls []) := by
  refine lv_aload_n hx hb dX7_takeFrom_98 rfl (lv_at hl 0 rfl) ?_
  refine lv_aload_n hx hb dX7_takeFrom_99 rfl (lv_at hl 1 rfl) ?_
  refine va_get (D := D) (ci := 7) (v := .int (gi (U (B2 + 0)) 19)) (C := RX7) (T := TX7) (N := 29) hx hb htg ig_7 hown hK hP (B2 + 0) (oh_wg (k := B2 + 0) (by omega) (show U (B2 + 0) = .inr (7, [.ref (a (B2 + 1)), .ref (a (B2 + 2)), .ref (a (B2 + 3)), .ref (a (B2 + 4)), .ref (a (B2 + 5)), .ref (a (B2 + 6)), .ref (a (B2 + 7)), .int (gi (U (B2 + 0)) 7), .ref (a (B2 + 8)), .int (gi (U (B2 + 0)) 9), .ref (a (B2 + 9)), .int (gi (U (B2 + 0)) 11), .ref (a (B2 + 10)), .int (gi (U (B2 + 0)) 13), .ref (a (B2 + 11)), .int (gi (U (B2 + 0)) 15), .ref (a (B2 + 12)), .ref (a (B2 + 13)), .ref (a (B2 + 14)), .int (gi (U (B2 + 0)) 19), gv (U (B2 + 0)) 20, .int (gi (U (B2 + 0)) 21), .int (gi (U (B2 + 0)) 22), .int (gi (U (B2 + 0)) 23), .long (gl (U (B2 + 0)) 24), .int (gi (U (B2 + 0)) 25), .int (gi (U (B2 + 0)) 26), .ref (a (B2 + 15)), .int (gi (U (B2 + 0)) 28)]) from sM_0 hT2)) rfl 19 (by decide) (htg _ q_992) (fun _ h9 => h9) rfl dX7_takeFrom_100 ?_
  refine th_put (Tp := fun _ => True) (Rl := fun _ => True) (ci := 7) (v := .int (gi (U (B2 + 0)) 19)) (ty := .int) (CC := RX7) (T := TX7) (N := 29) hx hb htg ig_7 tyX7 tyX7_ok nmX7 hown hK hP hD hS (B1 + 0) (by omega) (show U (B1 + 0) = .inr (7, [.ref (a (B1 + 1)), .ref (a (B1 + 2)), .ref (a (B1 + 3)), .ref (a (B1 + 4)), .ref (a (B1 + 5)), .ref (a (B1 + 6)), .ref (a (B1 + 7)), .int (gi (U (B1 + 0)) 7), .ref (a (B1 + 8)), .int (gi (U (B1 + 0)) 9), .ref (a (B1 + 9)), .int (gi (U (B1 + 0)) 11), .ref (a (B1 + 10)), .int (gi (U (B1 + 0)) 13), .ref (a (B1 + 11)), .int (gi (U (B1 + 0)) 15), .ref (a (B1 + 12)), .ref (a (B1 + 13)), .ref (a (B1 + 14)), .int (gi (U (B1 + 0)) 19), gv (U (B1 + 0)) 20, .int (gi (U (B1 + 0)) 21), .int (gi (U (B1 + 0)) 22), .int (gi (U (B1 + 0)) 23), .long (gl (U (B1 + 0)) 24), .int (gi (U (B1 + 0)) 25), .int (gi (U (B1 + 0)) 26), .ref (a (B1 + 15)), .int (gi (U (B1 + 0)) 28)]) from sM_0 hT1) rfl 19 (by decide) (htg _ q_992) (fun _ h9 => h9) rfl (by decide +kernel) rfl rfl (Nat.le_of_ble_eq_true rfl) trivial trivial dX7_takeFrom_103 (fun U2 H locs e2 _ _ hP hD hS => ?_)
  refine kk U2 H locs ?_ (fun k hk => th_un e2 hk) ?_ (fun i hi => ?_) hP hD hS
  · rw [e2, shf_upd]
    exact TyM.pt19 hT1 (show shf B1 U 0 = .inr (7, [.ref (a (B1 + 1)), .ref (a (B1 + 2)), .ref (a (B1 + 3)), .ref (a (B1 + 4)), .ref (a (B1 + 5)), .ref (a (B1 + 6)), .ref (a (B1 + 7)), .int (gi (U (B1 + 0)) 7), .ref (a (B1 + 8)), .int (gi (U (B1 + 0)) 9), .ref (a (B1 + 9)), .int (gi (U (B1 + 0)) 11), .ref (a (B1 + 10)), .int (gi (U (B1 + 0)) 13), .ref (a (B1 + 11)), .int (gi (U (B1 + 0)) 15), .ref (a (B1 + 12)), .ref (a (B1 + 13)), .ref (a (B1 + 14)), .int (gi (U (B1 + 0)) 19), gv (U (B1 + 0)) 20, .int (gi (U (B1 + 0)) 21), .int (gi (U (B1 + 0)) 22), .int (gi (U (B1 + 0)) 23), .long (gl (U (B1 + 0)) 24), .int (gi (U (B1 + 0)) 25), .int (gi (U (B1 + 0)) 26), .ref (a (B1 + 15)), .int (gi (U (B1 + 0)) 28)]) from sM_0 hT1)
  · rw [e2, updc_eq]
    rfl
  · exact gv_st e2 (show U (B1 + 0) = .inr (7, [.ref (a (B1 + 1)), .ref (a (B1 + 2)), .ref (a (B1 + 3)), .ref (a (B1 + 4)), .ref (a (B1 + 5)), .ref (a (B1 + 6)), .ref (a (B1 + 7)), .int (gi (U (B1 + 0)) 7), .ref (a (B1 + 8)), .int (gi (U (B1 + 0)) 9), .ref (a (B1 + 9)), .int (gi (U (B1 + 0)) 11), .ref (a (B1 + 10)), .int (gi (U (B1 + 0)) 13), .ref (a (B1 + 11)), .int (gi (U (B1 + 0)) 15), .ref (a (B1 + 12)), .ref (a (B1 + 13)), .ref (a (B1 + 14)), .int (gi (U (B1 + 0)) 19), gv (U (B1 + 0)) 20, .int (gi (U (B1 + 0)) 21), .int (gi (U (B1 + 0)) 22), .int (gi (U (B1 + 0)) 23), .long (gl (U (B1 + 0)) 24), .int (gi (U (B1 + 0)) 25), .int (gi (U (B1 + 0)) 26), .ref (a (B1 + 15)), .int (gi (U (B1 + 0)) 28)]) from sM_0 hT1) hi

set_option maxHeartbeats 4000000 in
set_option maxRecDepth 100000 in
theorem c_X7_takeFrom (l : Launch) (D : va_G) (E : Nat → ClassId) (G : Nat → Nat) (sz : Nat) (n : Nat) (a : Nat → Nat) (C : Nat → va_E) (B1 B2 : Nat) (hB : (B1 = 0 ∧ B2 = 74) ∨ (B1 = 74 ∧ B2 = 0)) (hn : 148 ≤ n) (hT1 : TyM (shf B1 a) E (shf B1 C)) (hT20 : TyM (shf B2 a) E (shf B2 C)) : Met l yX7_takeFrom (oh_w yX7_takeFrom cX7_takeFrom 2 none) ({ frames := 2, cells := 0, slots := 0, locals := 44 }) (oh_Pm D E G [.ref (a (B1 + 0)), .ref (a (B2 + 0))] (oh_W n a C) sz) (va_Qv (fun (u : Nat → va_E) => TyM (shf B1 a) E (shf B1 u) ∧ (∀ k, k < 74 → u (B2 + k) = C (B2 + k)) ∧ (∀ k, k ≠ 0 → k < 24 → k ≠ 13 → k ≠ 14 → u (B1 + k) = C (B1 + k)) ∧ (∀ i, i ∉ [9, 11, 13, 15, 19] → gv (u (B1 + 0)) i = gv (C (B1 + 0)) i) ∧ gi (u (B1 + 0)) 13 = gi (C (B2 + 0)) 13 ∧ (∀ w, w < 5 → ∀ q, q < 3 → ga (u (B1 + (64 + w))) q = ga (C (B2 + (64 + w))) q) ∧ (∀ q, q < 7 → ga (u (B1 + 14)) q = ga (C (B2 + 14)) q) ∧ (∀ k, 148 ≤ k → u k = C k) ∧ ∀ A : LA, absM (shf B2 C) A → absM (shf B1 u) A) (oh_B D (va_A (oh_W n a C) sz) (fun u => oh_W n a u)) (va_A (oh_W n a C) sz)) 0 0 (va_A (oh_W n a C) sz) := by
  refine Met.ofW (cc := cX7_takeFrom) (maxL := 2) (ret := none) (by decide) rfl ?_
  intro p e s m args below meth c s₁ B hml hv
  obtain ⟨rfl, hsz, hP, hK, hD0, hG⟩ := hv
  have hx := B.exec
  have hb := B.bytes
  have hr := B.returns
  have hts := atoms_spec (ws := (oh_w yX7_takeFrom cX7_takeFrom 2 none)) B.pre
  have htg : ∀ w ∈ oh_t, w.before _ s = true := fun w h => hts w (List.mem_cons_of_mem _ h)
  have hown : s.vm.findClass RX7 = some m.cls := findClass_of_methodNamed B.named
  have hlocks := B.notSynchronized
  subst hsz
  have hD := hD0.self (sz := s.heap.size)
  generalize hAe : va_A (oh_W n a C) s.heap.size = A at hD hG ⊢
  have hA : ∀ q : Nat, s.heap.size ≤ q → A q := fun q h => by rw [← hAe]; exact Or.inr h
  have hS : va_S A s.heap s.heap [] := va_S.rf
  have hl := lv_entry ([.ref (a (B1 + 0)), .ref (a (B2 + 0))]) (n := 2) (Nat.le_of_ble_eq_true rfl)
  rw [lg_entry_eq]
  generalize (lg_sl ([.ref (a (B1 + 0)), .ref (a (B2 + 0))]) ++ List.replicate (2 - (lg_sl ([.ref (a (B1 + 0)), .ref (a (B2 + 0))])).length) Slot.unset).toArray = ls at hl ⊢
  have hl : lv_has ls 2 [(0, .ref (a (B1 + 0))), (1, .ref (a (B2 + 0)))] := hl
  have hT2 := hT20
  have hS2 : ∀ k, k < 74 → C (B2 + k) = C (B2 + k) := fun _ _ => rfl
  have hS2_0 := hS2
  refine tk_f9 hx hb htg hown hml hK hG hA (by decide) (by decide) (by decide) (by decide) hB hn hT1 hT2 hP hD hS hl (fun U1 H locs hT1 hE1 hV1 hFd1 hP hD hS => ?_)
  have hS2o := hS2
  have hS2 : ∀ k, k < 74 → U1 (B2 + k) = C (B2 + k) := fun k hk => Eq.trans (hE1 _ (by omega)) (hS2o k hk)
  have hS2_1 := hS2
  have hT2 : TyM (shf B2 a) E (shf B2 U1) := hT20.congr hS2
  refine tk_broad hx hb htg hown hml hK hG hA (by decide) (by decide) (by decide) (by decide) hB hn hT1 hT2 hP hD hS hl (fun U2 H locs hT1 hE2 hc2 hP hD hS => ?_)
  have hS2o := hS2
  have hS2 : ∀ k, k < 74 → U2 (B2 + k) = C (B2 + k) := fun k hk => Eq.trans (hE2 _ (by omega)) (hS2o k hk)
  have hS2_2 := hS2
  have hT2 : TyM (shf B2 a) E (shf B2 U2) := hT20.congr hS2
  refine tk_f11 hx hb htg hown hml hK hG hA (by decide) (by decide) (by decide) (by decide) hB hn hT1 hT2 hP hD hS hl (fun U3 H locs hT1 hE3 hV3 hFd3 hP hD hS => ?_)
  have hS2o := hS2
  have hS2 : ∀ k, k < 74 → U3 (B2 + k) = C (B2 + k) := fun k hk => Eq.trans (hE3 _ (by omega)) (hS2o k hk)
  have hS2_3 := hS2
  have hT2 : TyM (shf B2 a) E (shf B2 U3) := hT20.congr hS2
  refine tk_bbridge hx hb htg hown hml hK hG hA (by decide) (by decide) (by decide) (by decide) hB hn hT1 hT2 hP hD hS hl (fun U4 H locs hT1 hE4 hc4 hP hD hS => ?_)
  have hS2o := hS2
  have hS2 : ∀ k, k < 74 → U4 (B2 + k) = C (B2 + k) := fun k hk => Eq.trans (hE4 _ (by omega)) (hS2o k hk)
  have hS2_4 := hS2
  have hT2 : TyM (shf B2 a) E (shf B2 U4) := hT20.congr hS2
  refine tk_f13 hx hb htg hown hml hK hG hA (by decide) (by decide) (by decide) (by decide) hB hn hT1 hT2 hP hD hS hl (fun U5 H locs hT1 hE5 hV5 hFd5 hP hD hS => ?_)
  have hS2o := hS2
  have hS2 : ∀ k, k < 74 → U5 (B2 + k) = C (B2 + k) := fun k hk => Eq.trans (hE5 _ (by omega)) (hS2o k hk)
  have hS2_5 := hS2
  have hT2 : TyM (shf B2 a) E (shf B2 U5) := hT20.congr hS2
  refine tk_bwaggon hx hb htg hown hml hK hG hA (by decide) (by decide) (by decide) (by decide) hB hn hT1 hT2 hP hD hS hl (fun U6 H locs hT1 hE6 hc6 hP hD hS => ?_)
  have hS2o := hS2
  have hS2 : ∀ k, k < 74 → U6 (B2 + k) = C (B2 + k) := fun k hk => Eq.trans (hE6 _ (by omega)) (hS2o k hk)
  have hS2_6 := hS2
  have hT2 : TyM (shf B2 a) E (shf B2 U6) := hT20.congr hS2
  refine tk_f15 hx hb htg hown hml hK hG hA (by decide) (by decide) (by decide) (by decide) hB hn hT1 hT2 hP hD hS hl (fun U7 H locs hT1 hE7 hV7 hFd7 hP hD hS => ?_)
  have hS2o := hS2
  have hS2 : ∀ k, k < 74 → U7 (B2 + k) = C (B2 + k) := fun k hk => Eq.trans (hE7 _ (by omega)) (hS2o k hk)
  have hS2_7 := hS2
  have hT2 : TyM (shf B2 a) E (shf B2 U7) := hT20.congr hS2
  refine tk_bpart hx hb htg hown hml hK hG hA (by decide) (by decide) (by decide) (by decide) hB hn hT1 hT2 hP hD hS hl (fun U8 H locs hT1 hE8 hc8 hP hD hS => ?_)
  have hS2o := hS2
  have hS2 : ∀ k, k < 74 → U8 (B2 + k) = C (B2 + k) := fun k hk => Eq.trans (hE8 _ (by omega)) (hS2o k hk)
  have hS2_8 := hS2
  have hT2 : TyM (shf B2 a) E (shf B2 U8) := hT20.congr hS2
  refine tk_c13 hx hb htg hown hml hK hG hA (by decide) (by decide) (by decide) (by decide) hB hn hT1 hT2 hP hD hS hl (fun U9 H locs hT1 hE9 hg9 hP hD hS => ?_)
  have hS2o := hS2
  have hS2 : ∀ k, k < 74 → U9 (B2 + k) = C (B2 + k) := fun k hk => Eq.trans (hE9 _ (by omega)) (hS2o k hk)
  have hS2_9 := hS2
  have hT2 : TyM (shf B2 a) E (shf B2 U9) := hT20.congr hS2
  refine tk_c14 hx hb htg hown hml hK hG hA (by decide) (by decide) (by decide) (by decide) hB hn hT1 hT2 hP hD hS hl (fun U10 H locs hT1 hE10 hg10 hP hD hS => ?_)
  have hS2o := hS2
  have hS2 : ∀ k, k < 74 → U10 (B2 + k) = C (B2 + k) := fun k hk => Eq.trans (hE10 _ (by omega)) (hS2o k hk)
  have hS2_10 := hS2
  have hT2 : TyM (shf B2 a) E (shf B2 U10) := hT20.congr hS2
  refine tk_f19 hx hb htg hown hml hK hG hA (by decide) (by decide) (by decide) (by decide) hB hn hT1 hT2 hP hD hS hl (fun U11 H locs hT1 hE11 hV11 hFd11 hP hD hS => ?_)
  have hS2o := hS2
  have hS2 : ∀ k, k < 74 → U11 (B2 + k) = C (B2 + k) := fun k hk => Eq.trans (hE11 _ (by omega)) (hS2o k hk)
  have hS2_11 := hS2
  have hT2 : TyM (shf B2 a) E (shf B2 U11) := hT20.congr hS2
  have q4 := (show ∀ i, i ∉ [9, 11, 13, 15, 19] → gv (U11 (B1 + 0)) i = gv (C (B1 + 0)) i from (fun i hi => (Eq.trans (hFd11 i (by intro h9; subst h9; exact hi (by decide))) (Eq.trans (congrArg (fun z => gv z i) (hE10 (B1 + 0) (by omega))) (Eq.trans (congrArg (fun z => gv z i) (hE9 (B1 + 0) (by omega))) (Eq.trans (congrArg (fun z => gv z i) (hE8 (B1 + 0) (by omega))) (Eq.trans (hFd7 i (by intro h9; subst h9; exact hi (by decide))) (Eq.trans (congrArg (fun z => gv z i) (hE6 (B1 + 0) (by omega))) (Eq.trans (hFd5 i (by intro h9; subst h9; exact hi (by decide))) (Eq.trans (congrArg (fun z => gv z i) (hE4 (B1 + 0) (by omega))) (Eq.trans (hFd3 i (by intro h9; subst h9; exact hi (by decide))) (Eq.trans (congrArg (fun z => gv z i) (hE2 (B1 + 0) (by omega))) (hFd1 i (by intro h9; subst h9; exact hi (by decide)))))))))))))))
  have q5 := (Eq.trans (congrArg vi (hFd11 13 (by decide))) (Eq.trans (congrArg (fun z => gi z 13) (hE10 (B1 + 0) (by omega))) (Eq.trans (congrArg (fun z => gi z 13) (hE9 (B1 + 0) (by omega))) (Eq.trans (congrArg (fun z => gi z 13) (hE8 (B1 + 0) (by omega))) (Eq.trans (congrArg vi (hFd7 13 (by decide))) (Eq.trans (congrArg (fun z => gi z 13) (hE6 (B1 + 0) (by omega))) (Eq.trans hV5 (congrArg (fun z => gi z 13) (hS2_4 0 (by omega))))))))))
  have q6 : ∀ w, w < 5 → ∀ q, q < 3 → ga (U11 (B1 + (64 + w))) q = ga (C (B2 + (64 + w))) q := (fun w hw q hq => by
    obtain ⟨g, h1, h2⟩ := hc6 w hw
    rw [(Eq.trans (hE11 (B1 + (64 + w)) (by omega)) (Eq.trans (hE10 (B1 + (64 + w)) (by omega)) (Eq.trans (hE9 (B1 + (64 + w)) (by omega)) (Eq.trans (hE8 (B1 + (64 + w)) (by omega)) (hE7 (B1 + (64 + w)) (by omega)))))), h1]
    show g q = _
    rw [h2 q hq, hS2_5 (64 + w) (by omega)])
  have q7 : ∀ q, q < 7 → ga (U11 (B1 + 14)) q = ga (C (B2 + 14)) q := (fun q hq => by
    rw [(hE11 (B1 + 14) (by omega)), hg10 q hq, hS2_9 14 (by omega)])
  have q9 : ∀ A : LA, absM (shf B2 C) A → absM (shf B1 U11) A := fun A hA => absM_cp hA hT20 (all4 (P := fun t => gi (shf B1 U11 0) (9 + 2 * t) = gi (shf B2 C 0) (9 + 2 * t)) (Eq.trans (congrArg vi (hFd11 9 (by decide))) (Eq.trans (congrArg (fun z => gi z 9) (hE10 (B1 + 0) (by omega))) (Eq.trans (congrArg (fun z => gi z 9) (hE9 (B1 + 0) (by omega))) (Eq.trans (congrArg (fun z => gi z 9) (hE8 (B1 + 0) (by omega))) (Eq.trans (congrArg vi (hFd7 9 (by decide))) (Eq.trans (congrArg (fun z => gi z 9) (hE6 (B1 + 0) (by omega))) (Eq.trans (congrArg vi (hFd5 9 (by decide))) (Eq.trans (congrArg (fun z => gi z 9) (hE4 (B1 + 0) (by omega))) (Eq.trans (congrArg vi (hFd3 9 (by decide))) (Eq.trans (congrArg (fun z => gi z 9) (hE2 (B1 + 0) (by omega))) (Eq.trans hV1 (congrArg (fun z => gi z 9) (hS2_0 0 (by omega)))))))))))))) (Eq.trans (congrArg vi (hFd11 11 (by decide))) (Eq.trans (congrArg (fun z => gi z 11) (hE10 (B1 + 0) (by omega))) (Eq.trans (congrArg (fun z => gi z 11) (hE9 (B1 + 0) (by omega))) (Eq.trans (congrArg (fun z => gi z 11) (hE8 (B1 + 0) (by omega))) (Eq.trans (congrArg vi (hFd7 11 (by decide))) (Eq.trans (congrArg (fun z => gi z 11) (hE6 (B1 + 0) (by omega))) (Eq.trans (congrArg vi (hFd5 11 (by decide))) (Eq.trans (congrArg (fun z => gi z 11) (hE4 (B1 + 0) (by omega))) (Eq.trans hV3 (congrArg (fun z => gi z 11) (hS2_2 0 (by omega)))))))))))) (Eq.trans (congrArg vi (hFd11 13 (by decide))) (Eq.trans (congrArg (fun z => gi z 13) (hE10 (B1 + 0) (by omega))) (Eq.trans (congrArg (fun z => gi z 13) (hE9 (B1 + 0) (by omega))) (Eq.trans (congrArg (fun z => gi z 13) (hE8 (B1 + 0) (by omega))) (Eq.trans (congrArg vi (hFd7 13 (by decide))) (Eq.trans (congrArg (fun z => gi z 13) (hE6 (B1 + 0) (by omega))) (Eq.trans hV5 (congrArg (fun z => gi z 13) (hS2_4 0 (by omega)))))))))) (Eq.trans (congrArg vi (hFd11 15 (by decide))) (Eq.trans (congrArg (fun z => gi z 15) (hE10 (B1 + 0) (by omega))) (Eq.trans (congrArg (fun z => gi z 15) (hE9 (B1 + 0) (by omega))) (Eq.trans (congrArg (fun z => gi z 15) (hE8 (B1 + 0) (by omega))) (Eq.trans hV7 (congrArg (fun z => gi z 15) (hS2_6 0 (by omega))))))))) (fun q hq => by
    show ga (U11 (B1 + 13)) q = ga (C (B2 + 13)) q
    rw [(Eq.trans (hE11 (B1 + 13) (by omega)) (hE10 (B1 + 13) (by omega))), hg9 q hq, hS2_8 13 (by omega)]) (all4 (P := fun t => ∀ i, i < blkN t → ∀ q, q < wid t → ga (shf B1 U11 (blk t + i)) q = ga (shf B2 C (blk t + i)) q) (fun w hw q hq => by
    obtain ⟨g, h1, h2⟩ := hc2 w hw
    show ga (U11 (B1 + (24 + w))) q = ga (C (B2 + (24 + w))) q
    rw [(Eq.trans (hE11 (B1 + (24 + w)) (by have hw2 : w < 24 := hw; omega)) (Eq.trans (hE10 (B1 + (24 + w)) (by have hw2 : w < 24 := hw; omega)) (Eq.trans (hE9 (B1 + (24 + w)) (by have hw2 : w < 24 := hw; omega)) (Eq.trans (hE8 (B1 + (24 + w)) (by have hw2 : w < 24 := hw; omega)) (Eq.trans (hE7 (B1 + (24 + w)) (by have hw2 : w < 24 := hw; omega)) (Eq.trans (hE6 (B1 + (24 + w)) (by have hw2 : w < 24 := hw; omega)) (Eq.trans (hE5 (B1 + (24 + w)) (by have hw2 : w < 24 := hw; omega)) (Eq.trans (hE4 (B1 + (24 + w)) (by have hw2 : w < 24 := hw; omega)) (hE3 (B1 + (24 + w)) (by have hw2 : w < 24 := hw; omega)))))))))), h1]
    show g q = _
    rw [h2 q hq, hS2_1 (24 + w) (by have hw2 : w < 24 := hw; omega)]) (fun w hw q hq => by
    obtain ⟨g, h1, h2⟩ := hc4 w hw
    show ga (U11 (B1 + (48 + w))) q = ga (C (B2 + (48 + w))) q
    rw [(Eq.trans (hE11 (B1 + (48 + w)) (by have hw2 : w < 16 := hw; omega)) (Eq.trans (hE10 (B1 + (48 + w)) (by have hw2 : w < 16 := hw; omega)) (Eq.trans (hE9 (B1 + (48 + w)) (by have hw2 : w < 16 := hw; omega)) (Eq.trans (hE8 (B1 + (48 + w)) (by have hw2 : w < 16 := hw; omega)) (Eq.trans (hE7 (B1 + (48 + w)) (by have hw2 : w < 16 := hw; omega)) (Eq.trans (hE6 (B1 + (48 + w)) (by have hw2 : w < 16 := hw; omega)) (hE5 (B1 + (48 + w)) (by have hw2 : w < 16 := hw; omega)))))))), h1]
    show g q = _
    rw [h2 q hq, hS2_3 (48 + w) (by have hw2 : w < 16 := hw; omega)]) (fun w hw q hq => by
    obtain ⟨g, h1, h2⟩ := hc6 w hw
    show ga (U11 (B1 + (64 + w))) q = ga (C (B2 + (64 + w))) q
    rw [(Eq.trans (hE11 (B1 + (64 + w)) (by have hw2 : w < 5 := hw; omega)) (Eq.trans (hE10 (B1 + (64 + w)) (by have hw2 : w < 5 := hw; omega)) (Eq.trans (hE9 (B1 + (64 + w)) (by have hw2 : w < 5 := hw; omega)) (Eq.trans (hE8 (B1 + (64 + w)) (by have hw2 : w < 5 := hw; omega)) (hE7 (B1 + (64 + w)) (by have hw2 : w < 5 := hw; omega)))))), h1]
    show g q = _
    rw [h2 q hq, hS2_5 (64 + w) (by have hw2 : w < 5 := hw; omega)]) (fun w hw q hq => by
    obtain ⟨g, h1, h2⟩ := hc8 w hw
    show ga (U11 (B1 + (69 + w))) q = ga (C (B2 + (69 + w))) q
    rw [(Eq.trans (hE11 (B1 + (69 + w)) (by have hw2 : w < 5 := hw; omega)) (Eq.trans (hE10 (B1 + (69 + w)) (by have hw2 : w < 5 := hw; omega)) (hE9 (B1 + (69 + w)) (by have hw2 : w < 5 := hw; omega)))), h1]
    show g q = _
    rw [h2 q hq, hS2_7 (69 + w) (by have hw2 : w < 5 := hw; omega)]))
  exact W.vret hx hb hr (fun t ht hW => ⟨⟨U11, rfl, ⟨hT1, hS2, (fun k h0 h24 h13 h14 => (Eq.trans (hE11 (B1 + k) (by omega)) (Eq.trans (hE10 (B1 + k) (by omega)) (Eq.trans (hE9 (B1 + k) (by omega)) (Eq.trans (hE8 (B1 + k) (by omega)) (Eq.trans (hE7 (B1 + k) (by omega)) (Eq.trans (hE6 (B1 + k) (by omega)) (Eq.trans (hE5 (B1 + k) (by omega)) (Eq.trans (hE4 (B1 + k) (by omega)) (Eq.trans (hE3 (B1 + k) (by omega)) (Eq.trans (hE2 (B1 + k) (by omega)) (hE1 (B1 + k) (by omega))))))))))))), q4, q5, q6, q7, fun k hk => (Eq.trans (hE11 k (by omega)) (Eq.trans (hE10 k (by omega)) (Eq.trans (hE9 k (by omega)) (Eq.trans (hE8 k (by omega)) (Eq.trans (hE7 k (by omega)) (Eq.trans (hE6 k (by omega)) (Eq.trans (hE5 k (by omega)) (Eq.trans (hE4 k (by omega)) (Eq.trans (hE3 k (by omega)) (Eq.trans (hE2 k (by omega)) (hE1 k (by omega)))))))))))), q9⟩, ⟨by rw [ht]; exact hP, hD⟩⟩, hS.F ht⟩) hS.2.2 dX7_takeFrom_106
theorem bg_dX7_back_0 : bysAt cX7_back 0 [42, 180, 1, 79, 199, 0, 10, 42, 16, 251, 182, 0, 89, 172, 42, 42, 180, 1, 79, 182, 1, 84, 3, 60, 27] := bysAt_of (by decide +kernel)
theorem dX7_back_0 : decode cX7_back 0 = .ok (.aload_n 0, 1) := o_42 (bg_dX7_back_0 0 42 rfl)
theorem dX7_back_1 : decode cX7_back 1 = .ok (.getfield 335, 3) := o_180 (bg_dX7_back_0 1 180 rfl) (bg_dX7_back_0 2 1 rfl) (bg_dX7_back_0 3 79 rfl)
theorem dX7_back_4 : decode cX7_back 4 = .ok (.ifnonnull 10, 3) := o_199 (bg_dX7_back_0 4 199 rfl) (bg_dX7_back_0 5 0 rfl) (bg_dX7_back_0 6 10 rfl) (by decide +kernel)
theorem dX7_back_7 : decode cX7_back 7 = .ok (.aload_n 0, 1) := o_42 (bg_dX7_back_0 7 42 rfl)
theorem dX7_back_8 : decode cX7_back 8 = .ok (.bipush (-5), 2) := o_16 (bg_dX7_back_0 8 16 rfl) (bg_dX7_back_0 9 251 rfl) (by decide +kernel)
theorem dX7_back_10 : decode cX7_back 10 = .ok (.invokevirtual 89, 3) := o_182 (bg_dX7_back_0 10 182 rfl) (bg_dX7_back_0 11 0 rfl) (bg_dX7_back_0 12 89 rfl)
theorem dX7_back_13 : decode cX7_back 13 = .ok (.ireturn, 1) := o_172 (bg_dX7_back_0 13 172 rfl)
theorem dX7_back_14 : decode cX7_back 14 = .ok (.aload_n 0, 1) := o_42 (bg_dX7_back_0 14 42 rfl)
theorem dX7_back_15 : decode cX7_back 15 = .ok (.aload_n 0, 1) := o_42 (bg_dX7_back_0 15 42 rfl)
theorem dX7_back_16 : decode cX7_back 16 = .ok (.getfield 335, 3) := o_180 (bg_dX7_back_0 16 180 rfl) (bg_dX7_back_0 17 1 rfl) (bg_dX7_back_0 18 79 rfl)
theorem dX7_back_19 : decode cX7_back 19 = .ok (.invokevirtual 340, 3) := o_182 (bg_dX7_back_0 19 182 rfl) (bg_dX7_back_0 20 1 rfl) (bg_dX7_back_0 21 84 rfl)
theorem dX7_back_22 : decode cX7_back 22 = .ok (.iconst 0, 1) := o_3 (bg_dX7_back_0 22 3 rfl)
theorem dX7_back_23 : decode cX7_back 23 = .ok (.istore_n 1, 1) := o_60 (bg_dX7_back_0 23 60 rfl)
theorem dX7_back_24 : decode cX7_back 24 = .ok (.iload_n 1, 1) := o_27 (bg_dX7_back_0 24 27 rfl)
theorem bg_dX7_back_25 : bysAt cX7_back 25 [16, 8, 162, 0, 39, 42, 180, 0, 7, 27, 46, 5, 160, 0, 23, 42, 180, 0, 28, 27, 46, 42, 180, 0, 70] := bysAt_of (by decide +kernel)
theorem dX7_back_25 : decode cX7_back 25 = .ok (.bipush 8, 2) := o_16 (bg_dX7_back_25 0 16 rfl) (bg_dX7_back_25 1 8 rfl) (by decide +kernel)
theorem dX7_back_27 : decode cX7_back 27 = .ok (.if_icmp .ge 39, 3) := o_162 (bg_dX7_back_25 2 162 rfl) (bg_dX7_back_25 3 0 rfl) (bg_dX7_back_25 4 39 rfl) (by decide +kernel)
theorem dX7_back_30 : decode cX7_back 30 = .ok (.aload_n 0, 1) := o_42 (bg_dX7_back_25 5 42 rfl)
theorem dX7_back_31 : decode cX7_back 31 = .ok (.getfield 7, 3) := o_180 (bg_dX7_back_25 6 180 rfl) (bg_dX7_back_25 7 0 rfl) (bg_dX7_back_25 8 7 rfl)
theorem dX7_back_34 : decode cX7_back 34 = .ok (.iload_n 1, 1) := o_27 (bg_dX7_back_25 9 27 rfl)
theorem dX7_back_35 : decode cX7_back 35 = .ok (.iaload, 1) := o_46 (bg_dX7_back_25 10 46 rfl)
theorem dX7_back_36 : decode cX7_back 36 = .ok (.iconst 2, 1) := o_5 (bg_dX7_back_25 11 5 rfl)
theorem dX7_back_37 : decode cX7_back 37 = .ok (.if_icmp .ne 23, 3) := o_160 (bg_dX7_back_25 12 160 rfl) (bg_dX7_back_25 13 0 rfl) (bg_dX7_back_25 14 23 rfl) (by decide +kernel)
theorem dX7_back_40 : decode cX7_back 40 = .ok (.aload_n 0, 1) := o_42 (bg_dX7_back_25 15 42 rfl)
theorem dX7_back_41 : decode cX7_back 41 = .ok (.getfield 28, 3) := o_180 (bg_dX7_back_25 16 180 rfl) (bg_dX7_back_25 17 0 rfl) (bg_dX7_back_25 18 28 rfl)
theorem dX7_back_44 : decode cX7_back 44 = .ok (.iload_n 1, 1) := o_27 (bg_dX7_back_25 19 27 rfl)
theorem dX7_back_45 : decode cX7_back 45 = .ok (.iaload, 1) := o_46 (bg_dX7_back_25 20 46 rfl)
theorem dX7_back_46 : decode cX7_back 46 = .ok (.aload_n 0, 1) := o_42 (bg_dX7_back_25 21 42 rfl)
theorem dX7_back_47 : decode cX7_back 47 = .ok (.getfield 70, 3) := o_180 (bg_dX7_back_25 22 180 rfl) (bg_dX7_back_25 23 0 rfl) (bg_dX7_back_25 24 70 rfl)
theorem bg_dX7_back_50 : bysAt cX7_back 50 [161, 0, 10, 42, 180, 0, 7, 27, 3, 79, 132, 1, 1, 167, 255, 217, 4, 172] := bysAt_of (by decide +kernel)
theorem dX7_back_50 : decode cX7_back 50 = .ok (.if_icmp .lt 10, 3) := o_161 (bg_dX7_back_50 0 161 rfl) (bg_dX7_back_50 1 0 rfl) (bg_dX7_back_50 2 10 rfl) (by decide +kernel)
theorem dX7_back_53 : decode cX7_back 53 = .ok (.aload_n 0, 1) := o_42 (bg_dX7_back_50 3 42 rfl)
theorem dX7_back_54 : decode cX7_back 54 = .ok (.getfield 7, 3) := o_180 (bg_dX7_back_50 4 180 rfl) (bg_dX7_back_50 5 0 rfl) (bg_dX7_back_50 6 7 rfl)
theorem dX7_back_57 : decode cX7_back 57 = .ok (.iload_n 1, 1) := o_27 (bg_dX7_back_50 7 27 rfl)
theorem dX7_back_58 : decode cX7_back 58 = .ok (.iconst 0, 1) := o_3 (bg_dX7_back_50 8 3 rfl)
theorem dX7_back_59 : decode cX7_back 59 = .ok (.iastore, 1) := o_79 (bg_dX7_back_50 9 79 rfl)
theorem dX7_back_63 : decode cX7_back 63 = .ok (.goto (-39), 3) := o_167 (bg_dX7_back_50 13 167 rfl) (bg_dX7_back_50 14 255 rfl) (bg_dX7_back_50 15 217 rfl) (by decide +kernel)
theorem dX7_back_66 : decode cX7_back 66 = .ok (.iconst 1, 1) := o_4 (bg_dX7_back_50 16 4 rfl)
theorem dX7_back_67 : decode cX7_back 67 = .ok (.ireturn, 1) := o_172 (bg_dX7_back_50 17 172 rfl)
theorem bg_dX7_image_0 : bysAt cX7_image 0 [42, 180, 1, 79, 199, 0, 14, 42, 187, 0, 8, 89, 183, 1, 83, 181, 1, 79, 42, 180, 1, 79, 42, 182, 1, 84, 4, 172] := bysAt_of (by decide +kernel)
theorem dX7_image_0 : decode cX7_image 0 = .ok (.aload_n 0, 1) := o_42 (bg_dX7_image_0 0 42 rfl)
theorem dX7_image_1 : decode cX7_image 1 = .ok (.getfield 335, 3) := o_180 (bg_dX7_image_0 1 180 rfl) (bg_dX7_image_0 2 1 rfl) (bg_dX7_image_0 3 79 rfl)
theorem dX7_image_4 : decode cX7_image 4 = .ok (.ifnonnull 14, 3) := o_199 (bg_dX7_image_0 4 199 rfl) (bg_dX7_image_0 5 0 rfl) (bg_dX7_image_0 6 14 rfl) (by decide +kernel)
theorem dX7_image_7 : decode cX7_image 7 = .ok (.aload_n 0, 1) := o_42 (bg_dX7_image_0 7 42 rfl)
theorem dX7_image_8 : decode cX7_image 8 = .ok (.new 8, 3) := o_187 (bg_dX7_image_0 8 187 rfl) (bg_dX7_image_0 9 0 rfl) (bg_dX7_image_0 10 8 rfl)
theorem dX7_image_11 : decode cX7_image 11 = .ok (.dup, 1) := o_89 (bg_dX7_image_0 11 89 rfl)
theorem dX7_image_12 : decode cX7_image 12 = .ok (.invokespecial 339, 3) := o_183 (bg_dX7_image_0 12 183 rfl) (bg_dX7_image_0 13 1 rfl) (bg_dX7_image_0 14 83 rfl)
theorem dX7_image_15 : decode cX7_image 15 = .ok (.putfield 335, 3) := o_181 (bg_dX7_image_0 15 181 rfl) (bg_dX7_image_0 16 1 rfl) (bg_dX7_image_0 17 79 rfl)
theorem dX7_image_18 : decode cX7_image 18 = .ok (.aload_n 0, 1) := o_42 (bg_dX7_image_0 18 42 rfl)
theorem dX7_image_19 : decode cX7_image 19 = .ok (.getfield 335, 3) := o_180 (bg_dX7_image_0 19 180 rfl) (bg_dX7_image_0 20 1 rfl) (bg_dX7_image_0 21 79 rfl)
theorem dX7_image_22 : decode cX7_image 22 = .ok (.aload_n 0, 1) := o_42 (bg_dX7_image_0 22 42 rfl)
theorem dX7_image_23 : decode cX7_image 23 = .ok (.invokevirtual 340, 3) := o_182 (bg_dX7_image_0 23 182 rfl) (bg_dX7_image_0 24 1 rfl) (bg_dX7_image_0 25 84 rfl)
theorem dX7_image_26 : decode cX7_image 26 = .ok (.iconst 1, 1) := o_4 (bg_dX7_image_0 26 4 rfl)
theorem dX7_image_27 : decode cX7_image 27 = .ok (.ireturn, 1) := o_172 (bg_dX7_image_0 27 172 rfl)
theorem pdVX7_takeFrom : yX7_takeFrom.cls = RX7 ∧ yX7_takeFrom.cls ≠ "java/lang/invoke/MethodHandle" ∧ yX7_takeFrom.cls ≠ "java/lang/invoke/VarHandle" ∧ (parseMethodDescriptor yX7_takeFrom.desc).map (fun d => d.parameters.length) = some 1 := by decide +kernel
theorem dX7_back_60 : decode cX7_back 60 = .ok (.iinc 1 1, 3) := by decide +kernel
theorem shf_0 {α : Type} (f : Nat → α) : shf 0 f = f := by
  funext k
  unfold shf
  rw [Nat.zero_add]
/-- what takeFrom leaves, as a frame: this is the first model -/
theorem tk_fr {C u : Nat → va_E} (h2 : ∀ k, k < 74 → u (74 + k) = C (74 + k)) (h3 : ∀ k, k ≠ 0 → k < 24 → k ≠ 13 → k ≠ 14 → u (0 + k) = C (0 + k)) (h4 : ∀ i, i ∉ [9, 11, 13, 15, 19] → gv (u (0 + 0)) i = gv (C (0 + 0)) i) (h8 : ∀ k, 148 ≤ k → u k = C k) : fr [(13, 14), (14, 15), (24, 74)] [9, 11, 13, 15, 19] C u := by
  refine ⟨fun k hk h0 => ?_, fun i hi => h4 i hi⟩
  have a1 : k ≠ 13 := by intro e; subst e; exact absurd hk (by decide)
  have a2 : k ≠ 14 := by intro e; subst e; exact absurd hk (by decide)
  by_cases l1 : k < 24
  · have := h3 k h0 l1 a1 a2
    rw [Nat.zero_add] at this
    exact this
  · by_cases l2 : k < 74
    · have : inR [(13, 14), (14, 15), (24, 74)] k = true := inR_of (p := (24, 74)) (by decide) (by show 24 ≤ k; omega) (by show k < 74; omega)
      rw [this] at hk
      cases hk
    · by_cases l3 : k < 148
      · have := h2 (k - 74) (by omega)
        rw [show 74 + (k - 74) = k by omega] at this
        exact this
      · exact h8 k (by omega)
theorem relW_cp {S u : Nat → va_E} (h : RelW S) (e13 : gi (u 0) 13 = gi (S 0) 13) (ew : ∀ w, w < 5 → ∀ q, q < 3 → ga (u (64 + w)) q = ga (S (64 + w)) q) (eu : ∀ q, q < 7 → ga (u 14) q = ga (S 14) q) : RelW u := by
  refine ⟨fun w hw hl => ?_, fun h9 => ?_⟩
  · rw [e13] at hl
    rw [ew w hw 0 (by omega), ew w hw 1 (by omega)]
    exact h.1 w hw hl
  · rw [eu 0 (by omega)] at h9
    rw [eu 1 (by omega), e13]
    exact h.2 h9
theorem oh_relS0 {C C2 : Nat → va_E} {i : Int32} (h : RelS C) (e1 : ga (C2 1) = upd (ga (C 1)) i.toNatClampNeg 0) (e6 : C2 6 = C 6) : RelS C2 := by
  intro s hs c
  rw [e1] at c
  by_cases hq : s = i.toNatClampNeg
  · rw [hq, pk_us] at c
    exact absurd c (by decide)
  · rw [pk_un hq] at c
    rw [e6]
    exact h s hs c

set_option maxHeartbeats 4000000 in
set_option maxRecDepth 100000 in
theorem c_X7_back_n (l : Launch) (D : va_G) (E : Nat → ClassId) (G : Nat → Nat) (sz : Nat) (a : Nat → Nat) (C : Nat → va_E) (n : Nat) (hn : 74 ≤ n) (hT : TyM a E C) (hR : RelM C) (hkn : gv (C 0) 20 = .null) : Met l yX7_back (oh_w yX7_back cX7_back 2 (some .int)) ({ frames := 1, cells := 0, slots := 0, locals := 21 }) (oh_Pm D E G [.ref (a 0)] (oh_W n a C) sz) (va_Qi (fun r (u : Nat → va_E) => TyM a E u ∧ fr [(8, 9)] [] C u ∧ (RelM u) ∧ r = (-5)) (oh_B D (va_A (oh_W n a C) sz) (fun u => oh_W n a u)) (va_A (oh_W n a C) sz)) 0 0 (va_A (oh_W n a C) sz) := by
  refine Met.ofW (cc := cX7_back) (maxL := 2) (ret := (some .int)) (by decide) rfl ?_
  intro p e s m args below meth c s₁ B hml hv
  obtain ⟨rfl, hsz, hP, hK, hD0, hG⟩ := hv
  have hx := B.exec
  have hb := B.bytes
  have hr := B.returns
  have hts := atoms_spec (ws := (oh_w yX7_back cX7_back 2 (some .int))) B.pre
  have htg : ∀ w ∈ oh_t, w.before _ s = true := fun w h => hts w (List.mem_cons_of_mem _ h)
  have hown : s.vm.findClass RX7 = some m.cls := findClass_of_methodNamed B.named
  have hlocks := B.notSynchronized
  have hT0 := hT
  subst hsz
  have hD := hD0.self (sz := s.heap.size)
  generalize hAe : va_A (oh_W n a C) s.heap.size = A at hD hG ⊢
  have hA : ∀ q : Nat, s.heap.size ≤ q → A q := fun q h => by rw [← hAe]; exact Or.inr h
  have hS : va_S A s.heap s.heap [] := va_S.rf
  have hF : fr [(8, 9)] [] C C := fr_rf
  have hl := lv_entry ([.ref (a 0)]) (n := 2) (Nat.le_of_ble_eq_true rfl)
  rw [lg_entry_eq]
  generalize (lg_sl ([.ref (a 0)]) ++ List.replicate (2 - (lg_sl ([.ref (a 0)])).length) Slot.unset).toArray = ls at hl ⊢
  have hl : lv_has ls 2 [(0, .ref (a 0))] := hl
  refine oh_genQ (fun Q hQ => ?_)
  refine lv_aload_n hx hb dX7_back_0 rfl (lv_at hl 0 rfl) ?_
  refine va_get (D := D) (ci := 7) (v := .null) (C := RX7) (T := TX7) (N := 29) hx hb htg ig_7 hown hK hP 0 (oh_wg (Nat.lt_of_lt_of_le (by decide) hn) (sM_0 hT)) rfl 20 (by decide) (htg _ q_993) (fun _ h9 => h9) (congrArg some hkn) dX7_back_1 ?_
  refine lv_ifnonnullN hx hb dX7_back_4 ?_
  refine lv_aload_n hx hb dX7_back_7 rfl (lv_at hl 0 rfl) ?_
  refine lv_bipush (v := (-5)) hx hb dX7_back_8 (by decide) ?_
  refine tm_V (As := [.int (-5)]) (rest := []) ⟨hx, hb, hml, hown, htg⟩ (c_X7_refuse l D E G _ a C n hn hT ((-5) : Int32) (rg_w (rg_c (v := (-5)) (lo := (-5)) (hi := (-5)) (by decide)) (by decide))) (cwV 1 htg (oh_gV q_1071 q_1073 q_29 q_73 q_1074) rfl rfl rfl pdVX7_refuse ⟨Nat.le_of_ble_eq_true rfl, Nat.le_of_ble_eq_true rfl⟩) hK hP hD hG hS hA (va_recv hK hP (ci := 7) (q0 := 0) rfl (oh_wg (Nat.lt_of_lt_of_le (by decide) hn) (sM_0 hT))) rfl hl.1 rfl (Nat.le_of_ble_eq_true rfl) dX7_back_10 ⟨Nat.le_of_ble_eq_true rfl, Nat.le_of_ble_eq_true rfl⟩ (fun r_1 C_2 H locs hq_3 hP hD hS => ?_)
  obtain ⟨hT, f_4, hq_3⟩ := hq_3
  have hF := fr_tr hF f_4 (by decide) (by decide)
  refine W.widen (k := 0) (n := 0) (Nat.le_refl _) (Nat.le_refl _) ?_
  have t_5 := hT
  rw [hQ]
  exact W.iret (v := r_1) hx hb hr (fun t ht hW => ⟨⟨r_1, C_2, rfl, ⟨hT, hF, ⟨⟨hR.1.fr hF (by decide), hR.2.fr hF (by decide)⟩, hq_3⟩⟩, ⟨by rw [ht]; exact hP, hD⟩⟩, hS.F ht⟩) hS.2.2 dX7_back_13

set_option maxHeartbeats 4000000 in
set_option maxRecDepth 100000 in
theorem c_X7_back_k (l : Launch) (D : va_G) (E : Nat → ClassId) (G : Nat → Nat) (sz : Nat) (a : Nat → Nat) (C : Nat → va_E) (n : Nat) (hn : 74 ≤ n) (hT : TyM a E C) (hR : RelM C) (hkr : gv (C 0) 20 = .ref (a 74)) (hn2 : 148 ≤ n) (hTk : TyM (shf 74 a) E (shf 74 C)) (hRk : RelW (shf 74 C)) : Met l yX7_back (oh_w yX7_back cX7_back 2 (some .int)) ({ frames := 3, cells := 0, slots := 0, locals := 65 }) (oh_Pm D E G [.ref (a 0)] (oh_W n a C) sz) (va_Qi (fun r (u : Nat → va_E) => TyM a E u ∧ fr [(1, 2), (13, 14), (14, 15), (24, 74)] [9, 11, 13, 15, 19] C u ∧ (RelM u) ∧ r = 1 ∧ (∀ A : LA, absM (shf 74 C) A → ∀ S : HZ, absHM C S → absHM u (spDr S (A 5 0 1) 8)) ∧ (∀ A : LA, absM (shf 74 C) A → absM u A)) (oh_B D (va_A (oh_W n a C) sz) (fun u => oh_W n a u)) (va_A (oh_W n a C) sz)) 0 0 (va_A (oh_W n a C) sz) := by
  refine Met.ofW (cc := cX7_back) (maxL := 2) (ret := (some .int)) (by decide) rfl ?_
  intro p e s m args below meth c s₁ B hml hv
  obtain ⟨rfl, hsz, hP, hK, hD0, hG⟩ := hv
  have hx := B.exec
  have hb := B.bytes
  have hr := B.returns
  have hts := atoms_spec (ws := (oh_w yX7_back cX7_back 2 (some .int))) B.pre
  have htg : ∀ w ∈ oh_t, w.before _ s = true := fun w h => hts w (List.mem_cons_of_mem _ h)
  have hown : s.vm.findClass RX7 = some m.cls := findClass_of_methodNamed B.named
  have hlocks := B.notSynchronized
  have hT0 := hT
  subst hsz
  have hD := hD0.self (sz := s.heap.size)
  generalize hAe : va_A (oh_W n a C) s.heap.size = A at hD hG ⊢
  have hA : ∀ q : Nat, s.heap.size ≤ q → A q := fun q h => by rw [← hAe]; exact Or.inr h
  have hS : va_S A s.heap s.heap [] := va_S.rf
  have hF : fr [(1, 2), (13, 14), (14, 15), (24, 74)] [9, 11, 13, 15, 19] C C := fr_rf
  have hl := lv_entry ([.ref (a 0)]) (n := 2) (Nat.le_of_ble_eq_true rfl)
  rw [lg_entry_eq]
  generalize (lg_sl ([.ref (a 0)]) ++ List.replicate (2 - (lg_sl ([.ref (a 0)])).length) Slot.unset).toArray = ls at hl ⊢
  have hl : lv_has ls 2 [(0, .ref (a 0))] := hl
  refine oh_genQ (fun Q hQ => ?_)
  refine lv_aload_n hx hb dX7_back_0 rfl (lv_at hl 0 rfl) ?_
  refine va_get (D := D) (ci := 7) (v := .ref (a (74 + 0))) (C := RX7) (T := TX7) (N := 29) hx hb htg ig_7 hown hK hP 0 (oh_wg (Nat.lt_of_lt_of_le (by decide) hn) (sM_0 hT)) rfl 20 (by decide) (htg _ q_993) (fun _ h9 => h9) (congrArg some hkr) dX7_back_1 ?_
  refine lv_ifnonnull (tgt := 14) hx hb dX7_back_4 (by decide) ?_
  refine lv_aload_n hx hb dX7_back_14 rfl (lv_at hl 0 rfl) ?_
  refine lv_aload_n hx hb dX7_back_15 rfl (lv_at hl 0 rfl) ?_
  refine va_get (D := D) (ci := 7) (v := .ref (a (74 + 0))) (C := RX7) (T := TX7) (N := 29) hx hb htg ig_7 hown hK hP 0 (oh_wg (Nat.lt_of_lt_of_le (by decide) hn) (sM_0 hT)) rfl 20 (by decide) (htg _ q_993) (fun _ h9 => h9) (congrArg some hkr) dX7_back_16 ?_
  have hT1s : TyM (shf 0 a) E (shf 0 C) := by rw [shf_0, shf_0]; exact hT
  refine tm_Vv (b := a (0 + 0)) (As := [.ref (a (74 + 0))]) (rest := []) ⟨hx, hb, hml, hown, htg⟩ (c_X7_takeFrom l D E G _ n a C 0 74 (Or.inl ⟨rfl, rfl⟩) hn2 hT1s hTk) (cwV 1 htg (oh_gV q_1427 q_1429 q_64 q_73 q_1430) rfl rfl rfl pdVX7_takeFrom ⟨Nat.le_of_ble_eq_true rfl, Nat.le_of_ble_eq_true rfl⟩) hK hP hD hG hS hA (va_recv hK hP (ci := 7) (q0 := 0) rfl (oh_wg (by omega) (sM_0 hT))) rfl hl.1 rfl (Nat.le_of_ble_eq_true rfl) dX7_back_19 ⟨Nat.le_of_ble_eq_true rfl, Nat.le_of_ble_eq_true rfl⟩ (fun C_1 H locs hq hP hD hS => ?_)
  obtain ⟨hT, k2, k3, k4, k5, k6, k7, k8, k9⟩ := hq
  rw [shf_0, shf_0] at hT
  have k9b : ∀ A : LA, absM (shf 74 C) A → absM C_1 A := fun A hA => by have h := k9 A hA; rw [shf_0] at h; exact h
  have f_2 : fr [(13, 14), (14, 15), (24, 74)] [9, 11, 13, 15, 19] C C_1 := tk_fr k2 k3 k4 k8
  have hF := fr_tr hF f_2 (by decide) (by decide)
  have hRw : RelW C_1 := relW_cp hRk k5 (fun w hw q hq => by have := k6 w hw q hq; rw [Nat.zero_add] at this; exact this) (fun q hq => by have := k7 q hq; rw [Nat.zero_add] at this; exact this)
  have hRs : RelS C_1 := hR.2.fr f_2 (by decide)
  refine W.widen (k := 0) (n := 0) (Nat.le_refl _) (Nat.le_refl _) ?_
  have t_3 := hT
  refine lv_iconst (v := 0) hx hb dX7_back_22 (by decide) ?_
  refine lv_istore_n (lv' := [(1, .int 0), (0, .ref (a 0))]) hx hb dX7_back_23 rfl hl (by decide) rfl (fun ls hl => ?_)
  have L_24 : ∀ (d : Nat) (K24 : Nat → va_E) (z24_1 : Int32) (H : Heap) (locs : List Loc) (ls : Array Slot), (8 - z24_1.toInt).toNat = d → rg z24_1 0 8 → (RelS K24) → (∀ A : LA, absM (shf 74 C) A → ∀ S : HZ, absHM C S → absHM K24 (spDr S (A 5 0 1) z24_1.toNatClampNeg)) → TyM a E K24 → fr [(1, 2), (13, 14), (14, 15), (24, 74)] [9, 11, 13, 15, 19] C K24 → fr [(1, 2)] [] C_1 K24 → va_P D vwCl (oh_W n a K24) H → va_D A (oh_W n a K24) → va_S A s.heap H locs → lv_has ls 2 [(1, .int z24_1), (0, .ref (a 0))] → W p l e ({ frames := 3, cells := 0, slots := 0, locals := 65 }) s m (([.ref (a 0)] : List Value).toArray) below meth c H locs 0 0 Q (F0 m 24 ls []) := by
    intro d
    induction d using Nat.strongRecOn with
    | ind d ih_24 =>
    intro K24 z24_1 H locs ls hd_24 hz24_1 hr_24 hx_24 hT hF hLF_24 hP hD hS hl
    have t_4 := hT
    refine lv_iload_n hx hb dX7_back_24 rfl (lv_at hl 0 rfl) ?_
    refine lv_bipush (v := 8) hx hb dX7_back_25 (by decide) ?_
    refine lv_icmp_ge (tgt := 66) hx hb dX7_back_27 (by decide) (fun (c_5 : (8 : Int32) ≤ z24_1) => ?_) (fun (c_5 : ¬ ((8 : Int32) ≤ z24_1)) => ?_)
    · refine lv_iconst (v := 1) hx hb dX7_back_66 (by decide) ?_
      rw [hQ]
      exact W.iret (v := 1) hx hb hr (fun t ht hW => ⟨⟨1, K24, rfl, ⟨hT, hF, ⟨⟨RelW.fr hRw hLF_24 (by decide), hr_24⟩, (by decide), (fun A hA S hS0 => by have h7 := hx_24 A hA S hS0; rw [oh_zeq (k := 8) hz24_1 c_5 (by decide)] at h7; exact h7), (fun A hA => absM_fr (k9b A hA) t_3 (show fr [(1, 2)] [] C_1 K24 from (fr_tr fr_rf hLF_24 (by decide) (by decide))) (by decide) (by decide) (by decide))⟩⟩, ⟨by rw [ht]; exact hP, hD⟩⟩, hS.F ht⟩) hS.2.2 dX7_back_67
    · refine lv_aload_n hx hb dX7_back_30 rfl (lv_at hl 1 rfl) ?_
      refine va_get (D := D) (ci := 7) (v := .ref (a 1)) (C := RX7) (T := TX7) (N := 29) hx hb htg ig_7 hown hK hP 0 (oh_wg (Nat.lt_of_lt_of_le (by decide) hn) (sM_0 hT)) rfl 0 (by decide) (htg _ q_973) (fun _ h9 => h9) rfl dX7_back_31 ?_
      refine lv_iload_n hx hb dX7_back_34 rfl (lv_at hl 0 rfl) ?_
      have n_6 : vp_in z24_1 8 := (rg_in (rn_ltu (u' := 7) (Int32.not_le.mp c_5) hz24_1 (rg_c (v := 8) (lo := 8) (hi := 8) (by decide)) (by decide)) (by decide))
      refine th_iald hx hb hK hP 1 (Nat.lt_of_lt_of_le (by decide) hn) (sM_1 hT) n_6 dX7_back_35 ?_
      refine lv_iconst (v := 2) hx hb dX7_back_36 (by decide) ?_
      refine lv_icmp_ne (tgt := 60) hx hb dX7_back_37 (by decide) (fun (c_7 : ¬ ((ga (K24 1) (z24_1).toNatClampNeg) = 2)) => ?_) (fun (c_7 : (ga (K24 1) (z24_1).toNatClampNeg) = 2) => ?_)
      · refine lv_iinc (v := z24_1 + 1) (lv' := [(1, .int (z24_1 + 1)), (0, .ref (a 0))]) hx hb dX7_back_60 hl (k := 0) rfl (by rfl) (by decide) rfl (fun ls hl => ?_)
        refine lv_goto (tgt := 24) hx hb dX7_back_63 (by decide) ?_
        exact ih_24 _ (hd_24 ▸ mu_up 8 (rn_ltu (u' := 7) (Int32.not_le.mp c_5) hz24_1 (rg_c (v := 8) (lo := 8) (hi := 8) (by decide)) (by decide)) (by decide)) K24 (z24_1 + 1) _ _ ls rfl (rg_w (rg_add (lo := 1) (hi := 8) (rn_ltu (u' := 7) (Int32.not_le.mp c_5) hz24_1 (rg_c (v := 8) (lo := 8) (hi := 8) (by decide)) (by decide)) (rg_c (v := 1) (lo := 1) (hi := 1) (by decide)) (by decide)) (by decide)) hr_24 (fun A hA S hS0 => by have eA : gi (C_1 0) 11 = A 5 0 1 := (k9b A hA).1 1 (by decide); have hn := rg_w (lo := 0) (hi := 24) (fM_0_11 t_3) (by decide); rw [eA] at hn; exact drm_n (hx_24 A hA S hS0) hn (rg_w (lo := 0) (hi := 7) (rn_ltu (u' := 7) (Int32.not_le.mp c_5) hz24_1 (rg_c (v := 8) (lo := 8) (hi := 8) (by decide)) (by decide)) (by decide)) (Or.inl c_7)) hT hF hLF_24 hP hD hS (lv_sub hl [0, 1] rfl)
      · refine lv_aload_n hx hb dX7_back_40 rfl (lv_at hl 1 rfl) ?_
        refine va_get (D := D) (ci := 7) (v := .ref (a 6)) (C := RX7) (T := TX7) (N := 29) hx hb htg ig_7 hown hK hP 0 (oh_wg (Nat.lt_of_lt_of_le (by decide) hn) (sM_0 hT)) rfl 5 (by decide) (htg _ q_978) (fun _ h9 => h9) rfl dX7_back_41 ?_
        refine lv_iload_n hx hb dX7_back_44 rfl (lv_at hl 0 rfl) ?_
        have n_8 : vp_in z24_1 8 := (rg_in (rn_ltu (u' := 7) (Int32.not_le.mp c_5) hz24_1 (rg_c (v := 8) (lo := 8) (hi := 8) (by decide)) (by decide)) (by decide))
        refine th_iald hx hb hK hP 6 (Nat.lt_of_lt_of_le (by decide) hn) (Eq.trans (Eq.trans (hLF_24.1 6 rfl (by decide)) (f_2.1 6 rfl (by decide))) (sM_6 hT0)) n_8 dX7_back_45 ?_
        refine lv_aload_n hx hb dX7_back_46 rfl (lv_at hl 1 rfl) ?_
        refine va_get (D := D) (ci := 7) (v := .int (gi (C_1 0) 11)) (C := RX7) (T := TX7) (N := 29) hx hb htg ig_7 hown hK hP 0 (oh_wg (Nat.lt_of_lt_of_le (by decide) hn) (sM_0 hT)) rfl 11 (by decide) (htg _ q_984) (fun _ h9 => h9) (oh_fv (c := K24 0) (j := 11) rfl (congrArg vi (hLF_24.2 11 (by decide)))) dX7_back_47 ?_
        refine lv_icmp_lt (tgt := 60) hx hb dX7_back_50 (by decide) (fun (c_9 : (ga (C 6) (z24_1).toNatClampNeg) < (gi (C_1 0) 11)) => ?_) (fun (c_9 : ¬ ((ga (C 6) (z24_1).toNatClampNeg) < (gi (C_1 0) 11))) => ?_)
        · refine lv_iinc (v := z24_1 + 1) (lv' := [(1, .int (z24_1 + 1)), (0, .ref (a 0))]) hx hb dX7_back_60 hl (k := 0) rfl (by rfl) (by decide) rfl (fun ls hl => ?_)
          refine lv_goto (tgt := 24) hx hb dX7_back_63 (by decide) ?_
          exact ih_24 _ (hd_24 ▸ mu_up 8 (rn_ltu (u' := 7) (Int32.not_le.mp c_5) hz24_1 (rg_c (v := 8) (lo := 8) (hi := 8) (by decide)) (by decide)) (by decide)) K24 (z24_1 + 1) _ _ ls rfl (rg_w (rg_add (lo := 1) (hi := 8) (rn_ltu (u' := 7) (Int32.not_le.mp c_5) hz24_1 (rg_c (v := 8) (lo := 8) (hi := 8) (by decide)) (by decide)) (rg_c (v := 1) (lo := 1) (hi := 1) (by decide)) (by decide)) (by decide)) hr_24 (fun A hA S hS0 => by have eA : gi (C_1 0) 11 = A 5 0 1 := (k9b A hA).1 1 (by decide); have hn := rg_w (lo := 0) (hi := 24) (fM_0_11 t_3) (by decide); rw [eA] at hn; exact drm_n (hx_24 A hA S hS0) hn (rg_w (lo := 0) (hi := 7) (rn_ltu (u' := 7) (Int32.not_le.mp c_5) hz24_1 (rg_c (v := 8) (lo := 8) (hi := 8) (by decide)) (by decide)) (by decide)) (Or.inr (by rw [(Eq.trans (hLF_24.1 6 rfl (by decide)) (f_2.1 6 rfl (by decide))), ← eA]; exact c_9))) hT hF hLF_24 hP hD hS (lv_sub hl [0, 1] rfl)
        · refine lv_aload_n hx hb dX7_back_53 rfl (lv_at hl 1 rfl) ?_
          refine va_get (D := D) (ci := 7) (v := .ref (a 1)) (C := RX7) (T := TX7) (N := 29) hx hb htg ig_7 hown hK hP 0 (oh_wg (Nat.lt_of_lt_of_le (by decide) hn) (sM_0 hT)) rfl 0 (by decide) (htg _ q_973) (fun _ h9 => h9) rfl dX7_back_54 ?_
          refine lv_iload_n hx hb dX7_back_57 rfl (lv_at hl 0 rfl) ?_
          refine lv_iconst (v := 0) hx hb dX7_back_58 (by decide) ?_
          have n_10 : vp_in z24_1 8 := (rg_in (rn_ltu (u' := 7) (Int32.not_le.mp c_5) hz24_1 (rg_c (v := 8) (lo := 8) (hi := 8) (by decide)) (by decide)) (by decide))
          refine th_iast (T := TyM a E) (Rl := fr [(1, 2), (13, 14), (14, 15), (24, 74)] [9, 11, 13, 15, 19] C) hx hb hK hP hD hS 1 (Nat.lt_of_lt_of_le (by decide) hn) (sM_1 hT) n_10 (hT.up 1 (by decide) (tA_upd (tM_1 hT) (tA_stc (Nat.mod_one _) (rg_c (v := 0) (lo := 0) (hi := 0) (by decide)) (by decide)))) (fr_st hF (by decide) (by decide)) dX7_back_59 (fun C_11 H locs e_12 hT hF hP hD hS => ?_)
          have t_13 := hT
          refine lv_iinc (v := z24_1 + 1) (lv' := [(1, .int (z24_1 + 1)), (0, .ref (a 0))]) hx hb dX7_back_60 hl (k := 0) rfl (by rfl) (by decide) rfl (fun ls hl => ?_)
          refine lv_goto (tgt := 24) hx hb dX7_back_63 (by decide) ?_
          exact ih_24 _ (hd_24 ▸ mu_up 8 (rn_ltu (u' := 7) (Int32.not_le.mp c_5) hz24_1 (rg_c (v := 8) (lo := 8) (hi := 8) (by decide)) (by decide)) (by decide)) C_11 (z24_1 + 1) _ _ ls rfl (rg_w (rg_add (lo := 1) (hi := 8) (rn_ltu (u' := 7) (Int32.not_le.mp c_5) hz24_1 (rg_c (v := 8) (lo := 8) (hi := 8) (by decide)) (by decide)) (rg_c (v := 1) (lo := 1) (hi := 1) (by decide)) (by decide)) (by decide)) (oh_relS0 (i := z24_1) hr_24 (st_ga e_12) (th_un e_12 (by decide))) (fun A hA S hS0 => by have eA : gi (C_1 0) 11 = A 5 0 1 := (k9b A hA).1 1 (by decide); have hn := rg_w (lo := 0) (hi := 24) (fM_0_11 t_3) (by decide); rw [eA] at hn; exact drm_y (hx_24 A hA S hS0) hn (rg_w (lo := 0) (hi := 7) (rn_ltu (u' := 7) (Int32.not_le.mp c_5) hz24_1 (rg_c (v := 8) (lo := 8) (hi := 8) (by decide)) (by decide)) (by decide)) c_7 (by rw [(Eq.trans (hLF_24.1 6 rfl (by decide)) (f_2.1 6 rfl (by decide))), ← eA]; exact (Int32.not_lt.mp c_9)) (st_ga e_12) (th_un e_12 (by decide)) (th_un e_12 (by decide)) (th_un e_12 (by decide))) hT hF (fr_ste hLF_24 e_12 (by decide) (by decide)) hP hD hS (lv_sub hl [0, 1] rfl)
  exact L_24 _ C_1 0 _ _ ls rfl (rg_w (rg_c (v := 0) (lo := 0) (hi := 0) (by decide)) (by decide)) hRs (fun A hA S hS0 => by rw [show spDr S (A 5 0 1) (0 : Int32).toNatClampNeg = S from dr_0 S _]; exact hm_fr hS0 (f_2.1 1 rfl (by decide)) (f_2.1 2 rfl (by decide)) (f_2.1 3 rfl (by decide)) (f_2.1 6 rfl (by decide))) hT hF fr_rf hP hD hS (lv_sub hl [0, 1] rfl)

theorem relM_congr {C u : Nat → va_E} (h : RelM C) (e : ∀ k, k < 74 → u k = C k) : RelM u := by
  have e0 := e 0 (by decide)
  have e14 := e 14 (by decide)
  have e1 := e 1 (by decide)
  have e6 := e 6 (by decide)
  refine ⟨⟨fun w hw hl => ?_, ?_⟩, ?_⟩
  · rw [e (64 + w) (by omega)]
    rw [e0] at hl
    exact h.1.1 w hw hl
  · rw [e14, e0]
    exact h.1.2
  · intro s hs
    rw [e1, e6]
    exact h.2 s hs
set_option maxHeartbeats 4000000 in
set_option maxRecDepth 100000 in
theorem c_X7_image_k (l : Launch) (D : va_G) (E : Nat → ClassId) (G : Nat → Nat) (sz : Nat) (a : Nat → Nat) (C : Nat → va_E) (n : Nat) (hn2 : 148 ≤ n) (hT : TyM a E C) (hR : RelM C) (hkr : gv (C 0) 20 = .ref (a 74)) (hTk : TyM (shf 74 a) E (shf 74 C)) : Met l yX7_image (oh_w yX7_image cX7_image 1 (some .int)) ({ frames := 3, cells := 0, slots := 0, locals := 65 }) (oh_Pm D E G [.ref (a 0)] (oh_W n a C) sz) (va_Qi (fun r (u : Nat → va_E) => TyM a E u ∧ RelM u ∧ (∀ k, k < 74 → u k = C k) ∧ TyM (shf 74 a) E (shf 74 u) ∧ RelW (shf 74 u) ∧ (∀ A : LA, absM C A → absM (shf 74 u) A) ∧ r = 1) (oh_B D (va_A (oh_W n a C) sz) (fun u => oh_W n a u)) (va_A (oh_W n a C) sz)) 0 0 (va_A (oh_W n a C) sz) := by
  refine Met.ofW (cc := cX7_image) (maxL := 1) (ret := (some .int)) (by decide) rfl ?_
  intro p e s m args below meth c s₁ B hml hv
  obtain ⟨rfl, hsz, hP, hK, hD0, hG⟩ := hv
  have hx := B.exec
  have hb := B.bytes
  have hr := B.returns
  have hts := atoms_spec (ws := (oh_w yX7_image cX7_image 1 (some .int))) B.pre
  have htg : ∀ w ∈ oh_t, w.before _ s = true := fun w h => hts w (List.mem_cons_of_mem _ h)
  have hown : s.vm.findClass RX7 = some m.cls := findClass_of_methodNamed B.named
  have hlocks := B.notSynchronized
  subst hsz
  have hD := hD0.self (sz := s.heap.size)
  generalize hAe : va_A (oh_W n a C) s.heap.size = A at hD hG ⊢
  have hA : ∀ q : Nat, s.heap.size ≤ q → A q := fun q h => by rw [← hAe]; exact Or.inr h
  have hS : va_S A s.heap s.heap [] := va_S.rf
  have hl := lv_entry ([.ref (a 0)]) (n := 1) (Nat.le_of_ble_eq_true rfl)
  rw [lg_entry_eq]
  generalize (lg_sl ([.ref (a 0)]) ++ List.replicate (1 - (lg_sl ([.ref (a 0)])).length) Slot.unset).toArray = ls at hl ⊢
  have hl : lv_has ls 1 [(0, .ref (a 0))] := hl
  refine lv_aload_n hx hb dX7_image_0 rfl (lv_at hl 0 rfl) ?_
  refine va_get (D := D) (ci := 7) (v := .ref (a (74 + 0))) (C := RX7) (T := TX7) (N := 29) hx hb htg ig_7 hown hK hP 0 (oh_wg (by omega) (sM_0 hT)) rfl 20 (by decide) (htg _ q_993) (fun _ h9 => h9) (congrArg some hkr) dX7_image_1 ?_
  refine lv_ifnonnull (tgt := 18) hx hb dX7_image_4 (by decide) ?_
  refine lv_aload_n hx hb dX7_image_18 rfl (lv_at hl 0 rfl) ?_
  refine va_get (D := D) (ci := 7) (v := .ref (a (74 + 0))) (C := RX7) (T := TX7) (N := 29) hx hb htg ig_7 hown hK hP 0 (oh_wg (by omega) (sM_0 hT)) rfl 20 (by decide) (htg _ q_993) (fun _ h9 => h9) (congrArg some hkr) dX7_image_19 ?_
  refine lv_aload_n hx hb dX7_image_22 rfl (lv_at hl 0 rfl) ?_
  have hT1s : TyM (shf 0 a) E (shf 0 C) := by rw [shf_0, shf_0]; exact hT
  refine tm_Vv (b := a (74 + 0)) (As := [.ref (a (0 + 0))]) (rest := []) ⟨hx, hb, hml, hown, htg⟩ (c_X7_takeFrom l D E G _ n a C 74 0 (Or.inr ⟨rfl, rfl⟩) hn2 hTk hT1s) (cwV 1 htg (oh_gV q_1427 q_1429 q_64 q_73 q_1430) rfl rfl rfl pdVX7_takeFrom ⟨Nat.le_of_ble_eq_true rfl, Nat.le_of_ble_eq_true rfl⟩) hK hP hD hG hS hA (va_recv hK hP (ci := 7) (q0 := 74 + 0) rfl (oh_wg (by omega) (show C (74 + 0) = _ from sM_0 hTk))) rfl hl.1 rfl (Nat.le_of_ble_eq_true rfl) dX7_image_23 ⟨Nat.le_of_ble_eq_true rfl, Nat.le_of_ble_eq_true rfl⟩ (fun u H locs hq hP hD hS => ?_)
  obtain ⟨k1, k2, k3, k4, k5, k6, k7, k8, k9⟩ := hq
  have k9b : ∀ A : LA, absM C A → absM (shf 74 u) A := fun A hA => k9 A (by rw [shf_0]; exact hA)
  have hcc : ∀ k, k < 74 → u k = C k := fun k hk => by have := k2 k hk; rw [Nat.zero_add] at this; exact this
  have hRw : RelW (shf 74 u) := relW_cp hR.1 k5 (fun w hw q hq => by have := k6 w hw q hq; rw [Nat.zero_add] at this; exact this) (fun q hq => by have := k7 q hq; rw [Nat.zero_add] at this; exact this)
  refine W.widen (k := 0) (n := 0) (Nat.le_refl _) (Nat.le_refl _) ?_
  refine lv_iconst (v := 1) hx hb dX7_image_26 (by decide) ?_
  exact W.iret (v := 1) hx hb hr (fun t ht hW => ⟨⟨1, u, rfl, ⟨hT.congr hcc, relM_congr hR hcc, hcc, k1, hRw, k9b, rfl⟩, ⟨by rw [ht]; exact hP, hD⟩⟩, hS.F ht⟩) hS.2.2 dX7_image_27
theorem bg_dX0_init_0 : bysAt cX0_init 0 [42, 183, 0, 3, 42, 178, 0, 9, 190, 188, 10, 181, 0, 13, 42, 178, 0, 9, 3, 46, 16, 7, 104, 188, 10, 181, 0, 18, 42] := bysAt_of (by decide +kernel)
theorem dX0_init_0 : decode cX0_init 0 = .ok (.aload_n 0, 1) := o_42 (bg_dX0_init_0 0 42 rfl)
theorem dX0_init_1 : decode cX0_init 1 = .ok (.invokespecial 3, 3) := o_183 (bg_dX0_init_0 1 183 rfl) (bg_dX0_init_0 2 0 rfl) (bg_dX0_init_0 3 3 rfl)
theorem dX0_init_4 : decode cX0_init 4 = .ok (.aload_n 0, 1) := o_42 (bg_dX0_init_0 4 42 rfl)
theorem dX0_init_5 : decode cX0_init 5 = .ok (.getstatic 9, 3) := o_178 (bg_dX0_init_0 5 178 rfl) (bg_dX0_init_0 6 0 rfl) (bg_dX0_init_0 7 9 rfl)
theorem dX0_init_8 : decode cX0_init 8 = .ok (.arraylength, 1) := o_190 (bg_dX0_init_0 8 190 rfl)
theorem dX0_init_11 : decode cX0_init 11 = .ok (.putfield 13, 3) := o_181 (bg_dX0_init_0 11 181 rfl) (bg_dX0_init_0 12 0 rfl) (bg_dX0_init_0 13 13 rfl)
theorem dX0_init_14 : decode cX0_init 14 = .ok (.aload_n 0, 1) := o_42 (bg_dX0_init_0 14 42 rfl)
theorem dX0_init_15 : decode cX0_init 15 = .ok (.getstatic 9, 3) := o_178 (bg_dX0_init_0 15 178 rfl) (bg_dX0_init_0 16 0 rfl) (bg_dX0_init_0 17 9 rfl)
theorem dX0_init_18 : decode cX0_init 18 = .ok (.iconst 0, 1) := o_3 (bg_dX0_init_0 18 3 rfl)
theorem dX0_init_19 : decode cX0_init 19 = .ok (.iaload, 1) := o_46 (bg_dX0_init_0 19 46 rfl)
theorem dX0_init_20 : decode cX0_init 20 = .ok (.bipush 7, 2) := o_16 (bg_dX0_init_0 20 16 rfl) (bg_dX0_init_0 21 7 rfl) (by decide +kernel)
theorem dX0_init_22 : decode cX0_init 22 = .ok (.imul, 1) := o_104 (bg_dX0_init_0 22 104 rfl)
theorem dX0_init_25 : decode cX0_init 25 = .ok (.putfield 18, 3) := o_181 (bg_dX0_init_0 25 181 rfl) (bg_dX0_init_0 26 0 rfl) (bg_dX0_init_0 27 18 rfl)
theorem dX0_init_28 : decode cX0_init 28 = .ok (.aload_n 0, 1) := o_42 (bg_dX0_init_0 28 42 rfl)
theorem bg_dX0_init_29 : bysAt cX0_init 29 [178, 0, 9, 4, 46, 16, 10, 104, 188, 10, 181, 0, 21, 42, 178, 0, 9, 5, 46, 6, 104, 188, 10, 181, 0, 24, 42] := bysAt_of (by decide +kernel)
theorem dX0_init_29 : decode cX0_init 29 = .ok (.getstatic 9, 3) := o_178 (bg_dX0_init_29 0 178 rfl) (bg_dX0_init_29 1 0 rfl) (bg_dX0_init_29 2 9 rfl)
theorem dX0_init_32 : decode cX0_init 32 = .ok (.iconst 1, 1) := o_4 (bg_dX0_init_29 3 4 rfl)
theorem dX0_init_33 : decode cX0_init 33 = .ok (.iaload, 1) := o_46 (bg_dX0_init_29 4 46 rfl)
theorem dX0_init_34 : decode cX0_init 34 = .ok (.bipush 10, 2) := o_16 (bg_dX0_init_29 5 16 rfl) (bg_dX0_init_29 6 10 rfl) (by decide +kernel)
theorem dX0_init_36 : decode cX0_init 36 = .ok (.imul, 1) := o_104 (bg_dX0_init_29 7 104 rfl)
theorem dX0_init_39 : decode cX0_init 39 = .ok (.putfield 21, 3) := o_181 (bg_dX0_init_29 10 181 rfl) (bg_dX0_init_29 11 0 rfl) (bg_dX0_init_29 12 21 rfl)
theorem dX0_init_42 : decode cX0_init 42 = .ok (.aload_n 0, 1) := o_42 (bg_dX0_init_29 13 42 rfl)
theorem dX0_init_43 : decode cX0_init 43 = .ok (.getstatic 9, 3) := o_178 (bg_dX0_init_29 14 178 rfl) (bg_dX0_init_29 15 0 rfl) (bg_dX0_init_29 16 9 rfl)
theorem dX0_init_46 : decode cX0_init 46 = .ok (.iconst 2, 1) := o_5 (bg_dX0_init_29 17 5 rfl)
theorem dX0_init_47 : decode cX0_init 47 = .ok (.iaload, 1) := o_46 (bg_dX0_init_29 18 46 rfl)
theorem dX0_init_48 : decode cX0_init 48 = .ok (.iconst 3, 1) := o_6 (bg_dX0_init_29 19 6 rfl)
theorem dX0_init_49 : decode cX0_init 49 = .ok (.imul, 1) := o_104 (bg_dX0_init_29 20 104 rfl)
theorem dX0_init_52 : decode cX0_init 52 = .ok (.putfield 24, 3) := o_181 (bg_dX0_init_29 23 181 rfl) (bg_dX0_init_29 24 0 rfl) (bg_dX0_init_29 25 24 rfl)
theorem dX0_init_55 : decode cX0_init 55 = .ok (.aload_n 0, 1) := o_42 (bg_dX0_init_29 26 42 rfl)
theorem bg_dX0_init_56 : bysAt cX0_init 56 [178, 0, 9, 6, 46, 5, 104, 188, 10, 181, 0, 27, 42, 6, 188, 10, 181, 0, 30, 42, 180, 0, 30, 3, 16, 100, 79] := bysAt_of (by decide +kernel)
theorem dX0_init_56 : decode cX0_init 56 = .ok (.getstatic 9, 3) := o_178 (bg_dX0_init_56 0 178 rfl) (bg_dX0_init_56 1 0 rfl) (bg_dX0_init_56 2 9 rfl)
theorem dX0_init_59 : decode cX0_init 59 = .ok (.iconst 3, 1) := o_6 (bg_dX0_init_56 3 6 rfl)
theorem dX0_init_60 : decode cX0_init 60 = .ok (.iaload, 1) := o_46 (bg_dX0_init_56 4 46 rfl)
theorem dX0_init_61 : decode cX0_init 61 = .ok (.iconst 2, 1) := o_5 (bg_dX0_init_56 5 5 rfl)
theorem dX0_init_62 : decode cX0_init 62 = .ok (.imul, 1) := o_104 (bg_dX0_init_56 6 104 rfl)
theorem dX0_init_65 : decode cX0_init 65 = .ok (.putfield 27, 3) := o_181 (bg_dX0_init_56 9 181 rfl) (bg_dX0_init_56 10 0 rfl) (bg_dX0_init_56 11 27 rfl)
theorem dX0_init_68 : decode cX0_init 68 = .ok (.aload_n 0, 1) := o_42 (bg_dX0_init_56 12 42 rfl)
theorem dX0_init_69 : decode cX0_init 69 = .ok (.iconst 3, 1) := o_6 (bg_dX0_init_56 13 6 rfl)
theorem dX0_init_72 : decode cX0_init 72 = .ok (.putfield 30, 3) := o_181 (bg_dX0_init_56 16 181 rfl) (bg_dX0_init_56 17 0 rfl) (bg_dX0_init_56 18 30 rfl)
theorem dX0_init_75 : decode cX0_init 75 = .ok (.aload_n 0, 1) := o_42 (bg_dX0_init_56 19 42 rfl)
theorem dX0_init_76 : decode cX0_init 76 = .ok (.getfield 30, 3) := o_180 (bg_dX0_init_56 20 180 rfl) (bg_dX0_init_56 21 0 rfl) (bg_dX0_init_56 22 30 rfl)
theorem dX0_init_79 : decode cX0_init 79 = .ok (.iconst 0, 1) := o_3 (bg_dX0_init_56 23 3 rfl)
theorem dX0_init_80 : decode cX0_init 80 = .ok (.bipush 100, 2) := o_16 (bg_dX0_init_56 24 16 rfl) (bg_dX0_init_56 25 100 rfl) (by decide +kernel)
theorem dX0_init_82 : decode cX0_init 82 = .ok (.iastore, 1) := o_79 (bg_dX0_init_56 26 79 rfl)
theorem bg_dX0_init_83 : bysAt cX0_init 83 [42, 180, 0, 30, 4, 5, 79, 42, 16, 7, 188, 10, 181, 0, 33, 42, 3, 181, 0, 36, 177] := bysAt_of (by decide +kernel)
theorem dX0_init_83 : decode cX0_init 83 = .ok (.aload_n 0, 1) := o_42 (bg_dX0_init_83 0 42 rfl)
theorem dX0_init_84 : decode cX0_init 84 = .ok (.getfield 30, 3) := o_180 (bg_dX0_init_83 1 180 rfl) (bg_dX0_init_83 2 0 rfl) (bg_dX0_init_83 3 30 rfl)
theorem dX0_init_87 : decode cX0_init 87 = .ok (.iconst 1, 1) := o_4 (bg_dX0_init_83 4 4 rfl)
theorem dX0_init_88 : decode cX0_init 88 = .ok (.iconst 2, 1) := o_5 (bg_dX0_init_83 5 5 rfl)
theorem dX0_init_89 : decode cX0_init 89 = .ok (.iastore, 1) := o_79 (bg_dX0_init_83 6 79 rfl)
theorem dX0_init_90 : decode cX0_init 90 = .ok (.aload_n 0, 1) := o_42 (bg_dX0_init_83 7 42 rfl)
theorem dX0_init_91 : decode cX0_init 91 = .ok (.bipush 7, 2) := o_16 (bg_dX0_init_83 8 16 rfl) (bg_dX0_init_83 9 7 rfl) (by decide +kernel)
theorem dX0_init_95 : decode cX0_init 95 = .ok (.putfield 33, 3) := o_181 (bg_dX0_init_83 12 181 rfl) (bg_dX0_init_83 13 0 rfl) (bg_dX0_init_83 14 33 rfl)
theorem dX0_init_98 : decode cX0_init 98 = .ok (.aload_n 0, 1) := o_42 (bg_dX0_init_83 15 42 rfl)
theorem dX0_init_99 : decode cX0_init 99 = .ok (.iconst 0, 1) := o_3 (bg_dX0_init_83 16 3 rfl)
theorem dX0_init_100 : decode cX0_init 100 = .ok (.putfield 36, 3) := o_181 (bg_dX0_init_83 17 181 rfl) (bg_dX0_init_83 18 0 rfl) (bg_dX0_init_83 19 36 rfl)
theorem dX0_init_103 : decode cX0_init 103 = .ok (.return_, 1) := o_177 (bg_dX0_init_83 20 177 rfl)
theorem bg_dX1_init_0 : bysAt cX1_init 0 [42, 183, 0, 3, 177] := bysAt_of (by decide +kernel)
theorem dX1_init_0 : decode cX1_init 0 = .ok (.aload_n 0, 1) := o_42 (bg_dX1_init_0 0 42 rfl)
theorem dX1_init_1 : decode cX1_init 1 = .ok (.invokespecial 3, 3) := o_183 (bg_dX1_init_0 1 183 rfl) (bg_dX1_init_0 2 0 rfl) (bg_dX1_init_0 3 3 rfl)
theorem dX1_init_4 : decode cX1_init 4 = .ok (.return_, 1) := o_177 (bg_dX1_init_0 4 177 rfl)
theorem bg_dX2_init_0 : bysAt cX2_init 0 [42, 183, 0, 3, 42, 43, 181, 0, 9, 42, 44, 181, 0, 15, 42, 178, 0, 19, 190, 188, 10, 181, 0, 23, 42, 6] := bysAt_of (by decide +kernel)
theorem dX2_init_0 : decode cX2_init 0 = .ok (.aload_n 0, 1) := o_42 (bg_dX2_init_0 0 42 rfl)
theorem dX2_init_1 : decode cX2_init 1 = .ok (.invokespecial 3, 3) := o_183 (bg_dX2_init_0 1 183 rfl) (bg_dX2_init_0 2 0 rfl) (bg_dX2_init_0 3 3 rfl)
theorem dX2_init_4 : decode cX2_init 4 = .ok (.aload_n 0, 1) := o_42 (bg_dX2_init_0 4 42 rfl)
theorem dX2_init_5 : decode cX2_init 5 = .ok (.aload_n 1, 1) := o_43 (bg_dX2_init_0 5 43 rfl)
theorem dX2_init_6 : decode cX2_init 6 = .ok (.putfield 9, 3) := o_181 (bg_dX2_init_0 6 181 rfl) (bg_dX2_init_0 7 0 rfl) (bg_dX2_init_0 8 9 rfl)
theorem dX2_init_9 : decode cX2_init 9 = .ok (.aload_n 0, 1) := o_42 (bg_dX2_init_0 9 42 rfl)
theorem dX2_init_10 : decode cX2_init 10 = .ok (.aload_n 2, 1) := o_44 (bg_dX2_init_0 10 44 rfl)
theorem dX2_init_11 : decode cX2_init 11 = .ok (.putfield 15, 3) := o_181 (bg_dX2_init_0 11 181 rfl) (bg_dX2_init_0 12 0 rfl) (bg_dX2_init_0 13 15 rfl)
theorem dX2_init_14 : decode cX2_init 14 = .ok (.aload_n 0, 1) := o_42 (bg_dX2_init_0 14 42 rfl)
theorem dX2_init_15 : decode cX2_init 15 = .ok (.getstatic 19, 3) := o_178 (bg_dX2_init_0 15 178 rfl) (bg_dX2_init_0 16 0 rfl) (bg_dX2_init_0 17 19 rfl)
theorem dX2_init_18 : decode cX2_init 18 = .ok (.arraylength, 1) := o_190 (bg_dX2_init_0 18 190 rfl)
theorem dX2_init_21 : decode cX2_init 21 = .ok (.putfield 23, 3) := o_181 (bg_dX2_init_0 21 181 rfl) (bg_dX2_init_0 22 0 rfl) (bg_dX2_init_0 23 23 rfl)
theorem dX2_init_24 : decode cX2_init 24 = .ok (.aload_n 0, 1) := o_42 (bg_dX2_init_0 24 42 rfl)
theorem dX2_init_25 : decode cX2_init 25 = .ok (.iconst 3, 1) := o_6 (bg_dX2_init_0 25 6 rfl)
theorem bg_dX2_init_28 : bysAt cX2_init 28 [181, 0, 26, 177] := bysAt_of (by decide +kernel)
theorem dX2_init_28 : decode cX2_init 28 = .ok (.putfield 26, 3) := o_181 (bg_dX2_init_28 0 181 rfl) (bg_dX2_init_28 1 0 rfl) (bg_dX2_init_28 2 26 rfl)
theorem dX2_init_31 : decode cX2_init 31 = .ok (.return_, 1) := o_177 (bg_dX2_init_28 3 177 rfl)
theorem bg_dX3_init_0 : bysAt cX3_init 0 [42, 183, 0, 3, 42, 16, 8, 188, 10, 181, 0, 9, 42, 16, 8, 188, 10, 181, 0, 15, 42, 17, 1, 64, 188, 11, 181, 0, 18, 3, 60, 27] := bysAt_of (by decide +kernel)
theorem dX3_init_0 : decode cX3_init 0 = .ok (.aload_n 0, 1) := o_42 (bg_dX3_init_0 0 42 rfl)
theorem dX3_init_1 : decode cX3_init 1 = .ok (.invokespecial 3, 3) := o_183 (bg_dX3_init_0 1 183 rfl) (bg_dX3_init_0 2 0 rfl) (bg_dX3_init_0 3 3 rfl)
theorem dX3_init_4 : decode cX3_init 4 = .ok (.aload_n 0, 1) := o_42 (bg_dX3_init_0 4 42 rfl)
theorem dX3_init_5 : decode cX3_init 5 = .ok (.bipush 8, 2) := o_16 (bg_dX3_init_0 5 16 rfl) (bg_dX3_init_0 6 8 rfl) (by decide +kernel)
theorem dX3_init_9 : decode cX3_init 9 = .ok (.putfield 9, 3) := o_181 (bg_dX3_init_0 9 181 rfl) (bg_dX3_init_0 10 0 rfl) (bg_dX3_init_0 11 9 rfl)
theorem dX3_init_12 : decode cX3_init 12 = .ok (.aload_n 0, 1) := o_42 (bg_dX3_init_0 12 42 rfl)
theorem dX3_init_13 : decode cX3_init 13 = .ok (.bipush 8, 2) := o_16 (bg_dX3_init_0 13 16 rfl) (bg_dX3_init_0 14 8 rfl) (by decide +kernel)
theorem dX3_init_17 : decode cX3_init 17 = .ok (.putfield 15, 3) := o_181 (bg_dX3_init_0 17 181 rfl) (bg_dX3_init_0 18 0 rfl) (bg_dX3_init_0 19 15 rfl)
theorem dX3_init_20 : decode cX3_init 20 = .ok (.aload_n 0, 1) := o_42 (bg_dX3_init_0 20 42 rfl)
theorem dX3_init_21 : decode cX3_init 21 = .ok (.sipush 320, 3) := o_17 (bg_dX3_init_0 21 17 rfl) (bg_dX3_init_0 22 1 rfl) (bg_dX3_init_0 23 64 rfl) (by decide +kernel)
theorem dX3_init_26 : decode cX3_init 26 = .ok (.putfield 18, 3) := o_181 (bg_dX3_init_0 26 181 rfl) (bg_dX3_init_0 27 0 rfl) (bg_dX3_init_0 28 18 rfl)
theorem dX3_init_29 : decode cX3_init 29 = .ok (.iconst 0, 1) := o_3 (bg_dX3_init_0 29 3 rfl)
theorem dX3_init_30 : decode cX3_init 30 = .ok (.istore_n 1, 1) := o_60 (bg_dX3_init_0 30 60 rfl)
theorem dX3_init_31 : decode cX3_init 31 = .ok (.iload_n 1, 1) := o_27 (bg_dX3_init_0 31 27 rfl)
theorem bg_dX3_init_32 : bysAt cX3_init 32 [16, 8, 162, 0, 16, 42, 180, 0, 9, 27, 2, 79, 132, 1, 1, 167, 255, 240, 177] := bysAt_of (by decide +kernel)
theorem dX3_init_32 : decode cX3_init 32 = .ok (.bipush 8, 2) := o_16 (bg_dX3_init_32 0 16 rfl) (bg_dX3_init_32 1 8 rfl) (by decide +kernel)
theorem dX3_init_34 : decode cX3_init 34 = .ok (.if_icmp .ge 16, 3) := o_162 (bg_dX3_init_32 2 162 rfl) (bg_dX3_init_32 3 0 rfl) (bg_dX3_init_32 4 16 rfl) (by decide +kernel)
theorem dX3_init_37 : decode cX3_init 37 = .ok (.aload_n 0, 1) := o_42 (bg_dX3_init_32 5 42 rfl)
theorem dX3_init_38 : decode cX3_init 38 = .ok (.getfield 9, 3) := o_180 (bg_dX3_init_32 6 180 rfl) (bg_dX3_init_32 7 0 rfl) (bg_dX3_init_32 8 9 rfl)
theorem dX3_init_41 : decode cX3_init 41 = .ok (.iload_n 1, 1) := o_27 (bg_dX3_init_32 9 27 rfl)
theorem dX3_init_42 : decode cX3_init 42 = .ok (.iconst (-1), 1) := o_2 (bg_dX3_init_32 10 2 rfl)
theorem dX3_init_43 : decode cX3_init 43 = .ok (.iastore, 1) := o_79 (bg_dX3_init_32 11 79 rfl)
theorem dX3_init_47 : decode cX3_init 47 = .ok (.goto (-16), 3) := o_167 (bg_dX3_init_32 15 167 rfl) (bg_dX3_init_32 16 255 rfl) (bg_dX3_init_32 17 240 rfl) (by decide +kernel)
theorem dX3_init_50 : decode cX3_init 50 = .ok (.return_, 1) := o_177 (bg_dX3_init_32 18 177 rfl)
theorem bg_dX4_init_0 : bysAt cX4_init 0 [42, 183, 0, 3, 42, 17, 0, 250, 188, 10, 181, 0, 9, 42, 3, 181, 0, 15, 42, 2, 181, 0, 19, 177] := bysAt_of (by decide +kernel)
theorem dX4_init_0 : decode cX4_init 0 = .ok (.aload_n 0, 1) := o_42 (bg_dX4_init_0 0 42 rfl)
theorem dX4_init_1 : decode cX4_init 1 = .ok (.invokespecial 3, 3) := o_183 (bg_dX4_init_0 1 183 rfl) (bg_dX4_init_0 2 0 rfl) (bg_dX4_init_0 3 3 rfl)
theorem dX4_init_4 : decode cX4_init 4 = .ok (.aload_n 0, 1) := o_42 (bg_dX4_init_0 4 42 rfl)
theorem dX4_init_5 : decode cX4_init 5 = .ok (.sipush 250, 3) := o_17 (bg_dX4_init_0 5 17 rfl) (bg_dX4_init_0 6 0 rfl) (bg_dX4_init_0 7 250 rfl) (by decide +kernel)
theorem dX4_init_10 : decode cX4_init 10 = .ok (.putfield 9, 3) := o_181 (bg_dX4_init_0 10 181 rfl) (bg_dX4_init_0 11 0 rfl) (bg_dX4_init_0 12 9 rfl)
theorem dX4_init_13 : decode cX4_init 13 = .ok (.aload_n 0, 1) := o_42 (bg_dX4_init_0 13 42 rfl)
theorem dX4_init_14 : decode cX4_init 14 = .ok (.iconst 0, 1) := o_3 (bg_dX4_init_0 14 3 rfl)
theorem dX4_init_15 : decode cX4_init 15 = .ok (.putfield 15, 3) := o_181 (bg_dX4_init_0 15 181 rfl) (bg_dX4_init_0 16 0 rfl) (bg_dX4_init_0 17 15 rfl)
theorem dX4_init_18 : decode cX4_init 18 = .ok (.aload_n 0, 1) := o_42 (bg_dX4_init_0 18 42 rfl)
theorem dX4_init_19 : decode cX4_init 19 = .ok (.iconst (-1), 1) := o_2 (bg_dX4_init_0 19 2 rfl)
theorem dX4_init_20 : decode cX4_init 20 = .ok (.putfield 19, 3) := o_181 (bg_dX4_init_0 20 181 rfl) (bg_dX4_init_0 21 0 rfl) (bg_dX4_init_0 22 19 rfl)
theorem dX4_init_23 : decode cX4_init 23 = .ok (.return_, 1) := o_177 (bg_dX4_init_0 23 177 rfl)
theorem bg_dX5_init_0 : bysAt cX5_init 0 [42, 183, 0, 3, 42, 43, 181, 0, 9, 42, 187, 0, 15, 89, 183, 0, 17, 181, 0, 18, 42, 178, 0, 22, 3, 46] := bysAt_of (by decide +kernel)
theorem dX5_init_0 : decode cX5_init 0 = .ok (.aload_n 0, 1) := o_42 (bg_dX5_init_0 0 42 rfl)
theorem dX5_init_1 : decode cX5_init 1 = .ok (.invokespecial 3, 3) := o_183 (bg_dX5_init_0 1 183 rfl) (bg_dX5_init_0 2 0 rfl) (bg_dX5_init_0 3 3 rfl)
theorem dX5_init_4 : decode cX5_init 4 = .ok (.aload_n 0, 1) := o_42 (bg_dX5_init_0 4 42 rfl)
theorem dX5_init_5 : decode cX5_init 5 = .ok (.aload_n 1, 1) := o_43 (bg_dX5_init_0 5 43 rfl)
theorem dX5_init_6 : decode cX5_init 6 = .ok (.putfield 9, 3) := o_181 (bg_dX5_init_0 6 181 rfl) (bg_dX5_init_0 7 0 rfl) (bg_dX5_init_0 8 9 rfl)
theorem dX5_init_9 : decode cX5_init 9 = .ok (.aload_n 0, 1) := o_42 (bg_dX5_init_0 9 42 rfl)
theorem dX5_init_10 : decode cX5_init 10 = .ok (.new 15, 3) := o_187 (bg_dX5_init_0 10 187 rfl) (bg_dX5_init_0 11 0 rfl) (bg_dX5_init_0 12 15 rfl)
theorem dX5_init_13 : decode cX5_init 13 = .ok (.dup, 1) := o_89 (bg_dX5_init_0 13 89 rfl)
theorem dX5_init_14 : decode cX5_init 14 = .ok (.invokespecial 17, 3) := o_183 (bg_dX5_init_0 14 183 rfl) (bg_dX5_init_0 15 0 rfl) (bg_dX5_init_0 16 17 rfl)
theorem dX5_init_17 : decode cX5_init 17 = .ok (.putfield 18, 3) := o_181 (bg_dX5_init_0 17 181 rfl) (bg_dX5_init_0 18 0 rfl) (bg_dX5_init_0 19 18 rfl)
theorem dX5_init_20 : decode cX5_init 20 = .ok (.aload_n 0, 1) := o_42 (bg_dX5_init_0 20 42 rfl)
theorem dX5_init_21 : decode cX5_init 21 = .ok (.getstatic 22, 3) := o_178 (bg_dX5_init_0 21 178 rfl) (bg_dX5_init_0 22 0 rfl) (bg_dX5_init_0 23 22 rfl)
theorem dX5_init_24 : decode cX5_init 24 = .ok (.iconst 0, 1) := o_3 (bg_dX5_init_0 24 3 rfl)
theorem dX5_init_25 : decode cX5_init 25 = .ok (.iaload, 1) := o_46 (bg_dX5_init_0 25 46 rfl)
theorem bg_dX5_init_28 : bysAt cX5_init 28 [181, 0, 26, 42, 178, 0, 22, 3, 46, 188, 10, 181, 0, 29, 42, 178, 0, 22, 3, 46, 188, 10, 181, 0, 32, 42, 16, 16, 188, 10, 181, 0, 35] := bysAt_of (by decide +kernel)
theorem dX5_init_28 : decode cX5_init 28 = .ok (.putfield 26, 3) := o_181 (bg_dX5_init_28 0 181 rfl) (bg_dX5_init_28 1 0 rfl) (bg_dX5_init_28 2 26 rfl)
theorem dX5_init_31 : decode cX5_init 31 = .ok (.aload_n 0, 1) := o_42 (bg_dX5_init_28 3 42 rfl)
theorem dX5_init_32 : decode cX5_init 32 = .ok (.getstatic 22, 3) := o_178 (bg_dX5_init_28 4 178 rfl) (bg_dX5_init_28 5 0 rfl) (bg_dX5_init_28 6 22 rfl)
theorem dX5_init_35 : decode cX5_init 35 = .ok (.iconst 0, 1) := o_3 (bg_dX5_init_28 7 3 rfl)
theorem dX5_init_36 : decode cX5_init 36 = .ok (.iaload, 1) := o_46 (bg_dX5_init_28 8 46 rfl)
theorem dX5_init_39 : decode cX5_init 39 = .ok (.putfield 29, 3) := o_181 (bg_dX5_init_28 11 181 rfl) (bg_dX5_init_28 12 0 rfl) (bg_dX5_init_28 13 29 rfl)
theorem dX5_init_42 : decode cX5_init 42 = .ok (.aload_n 0, 1) := o_42 (bg_dX5_init_28 14 42 rfl)
theorem dX5_init_43 : decode cX5_init 43 = .ok (.getstatic 22, 3) := o_178 (bg_dX5_init_28 15 178 rfl) (bg_dX5_init_28 16 0 rfl) (bg_dX5_init_28 17 22 rfl)
theorem dX5_init_46 : decode cX5_init 46 = .ok (.iconst 0, 1) := o_3 (bg_dX5_init_28 18 3 rfl)
theorem dX5_init_47 : decode cX5_init 47 = .ok (.iaload, 1) := o_46 (bg_dX5_init_28 19 46 rfl)
theorem dX5_init_50 : decode cX5_init 50 = .ok (.putfield 32, 3) := o_181 (bg_dX5_init_28 22 181 rfl) (bg_dX5_init_28 23 0 rfl) (bg_dX5_init_28 24 32 rfl)
theorem dX5_init_53 : decode cX5_init 53 = .ok (.aload_n 0, 1) := o_42 (bg_dX5_init_28 25 42 rfl)
theorem dX5_init_54 : decode cX5_init 54 = .ok (.bipush 16, 2) := o_16 (bg_dX5_init_28 26 16 rfl) (bg_dX5_init_28 27 16 rfl) (by decide +kernel)
theorem dX5_init_58 : decode cX5_init 58 = .ok (.putfield 35, 3) := o_181 (bg_dX5_init_28 30 181 rfl) (bg_dX5_init_28 31 0 rfl) (bg_dX5_init_28 32 35 rfl)
theorem bg_dX5_init_61 : bysAt cX5_init 61 [42, 7, 188, 10, 181, 0, 38, 177] := bysAt_of (by decide +kernel)
theorem dX5_init_61 : decode cX5_init 61 = .ok (.aload_n 0, 1) := o_42 (bg_dX5_init_61 0 42 rfl)
theorem dX5_init_62 : decode cX5_init 62 = .ok (.iconst 4, 1) := o_7 (bg_dX5_init_61 1 7 rfl)
theorem dX5_init_65 : decode cX5_init 65 = .ok (.putfield 38, 3) := o_181 (bg_dX5_init_61 4 181 rfl) (bg_dX5_init_61 5 0 rfl) (bg_dX5_init_61 6 38 rfl)
theorem dX5_init_68 : decode cX5_init 68 = .ok (.return_, 1) := o_177 (bg_dX5_init_61 7 177 rfl)
theorem bg_dX6_init_0 : bysAt cX6_init 0 [42, 183, 0, 1, 42, 187, 0, 7, 89, 183, 0, 9, 181, 0, 10, 42, 187, 0, 7, 89, 183, 0, 9, 181, 0, 16, 42, 3] := bysAt_of (by decide +kernel)
theorem dX6_init_0 : decode cX6_init 0 = .ok (.aload_n 0, 1) := o_42 (bg_dX6_init_0 0 42 rfl)
theorem dX6_init_1 : decode cX6_init 1 = .ok (.invokespecial 1, 3) := o_183 (bg_dX6_init_0 1 183 rfl) (bg_dX6_init_0 2 0 rfl) (bg_dX6_init_0 3 1 rfl)
theorem dX6_init_4 : decode cX6_init 4 = .ok (.aload_n 0, 1) := o_42 (bg_dX6_init_0 4 42 rfl)
theorem dX6_init_5 : decode cX6_init 5 = .ok (.new 7, 3) := o_187 (bg_dX6_init_0 5 187 rfl) (bg_dX6_init_0 6 0 rfl) (bg_dX6_init_0 7 7 rfl)
theorem dX6_init_8 : decode cX6_init 8 = .ok (.dup, 1) := o_89 (bg_dX6_init_0 8 89 rfl)
theorem dX6_init_9 : decode cX6_init 9 = .ok (.invokespecial 9, 3) := o_183 (bg_dX6_init_0 9 183 rfl) (bg_dX6_init_0 10 0 rfl) (bg_dX6_init_0 11 9 rfl)
theorem dX6_init_12 : decode cX6_init 12 = .ok (.putfield 10, 3) := o_181 (bg_dX6_init_0 12 181 rfl) (bg_dX6_init_0 13 0 rfl) (bg_dX6_init_0 14 10 rfl)
theorem dX6_init_15 : decode cX6_init 15 = .ok (.aload_n 0, 1) := o_42 (bg_dX6_init_0 15 42 rfl)
theorem dX6_init_16 : decode cX6_init 16 = .ok (.new 7, 3) := o_187 (bg_dX6_init_0 16 187 rfl) (bg_dX6_init_0 17 0 rfl) (bg_dX6_init_0 18 7 rfl)
theorem dX6_init_19 : decode cX6_init 19 = .ok (.dup, 1) := o_89 (bg_dX6_init_0 19 89 rfl)
theorem dX6_init_20 : decode cX6_init 20 = .ok (.invokespecial 9, 3) := o_183 (bg_dX6_init_0 20 183 rfl) (bg_dX6_init_0 21 0 rfl) (bg_dX6_init_0 22 9 rfl)
theorem dX6_init_23 : decode cX6_init 23 = .ok (.putfield 16, 3) := o_181 (bg_dX6_init_0 23 181 rfl) (bg_dX6_init_0 24 0 rfl) (bg_dX6_init_0 25 16 rfl)
theorem dX6_init_26 : decode cX6_init 26 = .ok (.aload_n 0, 1) := o_42 (bg_dX6_init_0 26 42 rfl)
theorem dX6_init_27 : decode cX6_init 27 = .ok (.iconst 0, 1) := o_3 (bg_dX6_init_0 27 3 rfl)
theorem bg_dX6_init_28 : bysAt cX6_init 28 [181, 0, 19, 42, 187, 0, 23, 89, 42, 180, 0, 10, 183, 0, 25, 181, 0, 28, 42, 187, 0, 32, 89, 183, 0, 34, 181, 0, 35, 42] := bysAt_of (by decide +kernel)
theorem dX6_init_28 : decode cX6_init 28 = .ok (.putfield 19, 3) := o_181 (bg_dX6_init_28 0 181 rfl) (bg_dX6_init_28 1 0 rfl) (bg_dX6_init_28 2 19 rfl)
theorem dX6_init_31 : decode cX6_init 31 = .ok (.aload_n 0, 1) := o_42 (bg_dX6_init_28 3 42 rfl)
theorem dX6_init_32 : decode cX6_init 32 = .ok (.new 23, 3) := o_187 (bg_dX6_init_28 4 187 rfl) (bg_dX6_init_28 5 0 rfl) (bg_dX6_init_28 6 23 rfl)
theorem dX6_init_35 : decode cX6_init 35 = .ok (.dup, 1) := o_89 (bg_dX6_init_28 7 89 rfl)
theorem dX6_init_36 : decode cX6_init 36 = .ok (.aload_n 0, 1) := o_42 (bg_dX6_init_28 8 42 rfl)
theorem dX6_init_37 : decode cX6_init 37 = .ok (.getfield 10, 3) := o_180 (bg_dX6_init_28 9 180 rfl) (bg_dX6_init_28 10 0 rfl) (bg_dX6_init_28 11 10 rfl)
theorem dX6_init_40 : decode cX6_init 40 = .ok (.invokespecial 25, 3) := o_183 (bg_dX6_init_28 12 183 rfl) (bg_dX6_init_28 13 0 rfl) (bg_dX6_init_28 14 25 rfl)
theorem dX6_init_43 : decode cX6_init 43 = .ok (.putfield 28, 3) := o_181 (bg_dX6_init_28 15 181 rfl) (bg_dX6_init_28 16 0 rfl) (bg_dX6_init_28 17 28 rfl)
theorem dX6_init_46 : decode cX6_init 46 = .ok (.aload_n 0, 1) := o_42 (bg_dX6_init_28 18 42 rfl)
theorem dX6_init_47 : decode cX6_init 47 = .ok (.new 32, 3) := o_187 (bg_dX6_init_28 19 187 rfl) (bg_dX6_init_28 20 0 rfl) (bg_dX6_init_28 21 32 rfl)
theorem dX6_init_50 : decode cX6_init 50 = .ok (.dup, 1) := o_89 (bg_dX6_init_28 22 89 rfl)
theorem dX6_init_51 : decode cX6_init 51 = .ok (.invokespecial 34, 3) := o_183 (bg_dX6_init_28 23 183 rfl) (bg_dX6_init_28 24 0 rfl) (bg_dX6_init_28 25 34 rfl)
theorem dX6_init_54 : decode cX6_init 54 = .ok (.putfield 35, 3) := o_181 (bg_dX6_init_28 26 181 rfl) (bg_dX6_init_28 27 0 rfl) (bg_dX6_init_28 28 35 rfl)
theorem dX6_init_57 : decode cX6_init 57 = .ok (.aload_n 0, 1) := o_42 (bg_dX6_init_28 29 42 rfl)
theorem bg_dX6_init_58 : bysAt cX6_init 58 [187, 0, 39, 89, 183, 0, 41, 181, 0, 42, 42, 187, 0, 46, 89, 42, 180, 0, 42, 42, 180, 0, 10, 183, 0, 48, 181, 0, 51, 42] := bysAt_of (by decide +kernel)
theorem dX6_init_58 : decode cX6_init 58 = .ok (.new 39, 3) := o_187 (bg_dX6_init_58 0 187 rfl) (bg_dX6_init_58 1 0 rfl) (bg_dX6_init_58 2 39 rfl)
theorem dX6_init_61 : decode cX6_init 61 = .ok (.dup, 1) := o_89 (bg_dX6_init_58 3 89 rfl)
theorem dX6_init_62 : decode cX6_init 62 = .ok (.invokespecial 41, 3) := o_183 (bg_dX6_init_58 4 183 rfl) (bg_dX6_init_58 5 0 rfl) (bg_dX6_init_58 6 41 rfl)
theorem dX6_init_65 : decode cX6_init 65 = .ok (.putfield 42, 3) := o_181 (bg_dX6_init_58 7 181 rfl) (bg_dX6_init_58 8 0 rfl) (bg_dX6_init_58 9 42 rfl)
theorem dX6_init_68 : decode cX6_init 68 = .ok (.aload_n 0, 1) := o_42 (bg_dX6_init_58 10 42 rfl)
theorem dX6_init_69 : decode cX6_init 69 = .ok (.new 46, 3) := o_187 (bg_dX6_init_58 11 187 rfl) (bg_dX6_init_58 12 0 rfl) (bg_dX6_init_58 13 46 rfl)
theorem dX6_init_72 : decode cX6_init 72 = .ok (.dup, 1) := o_89 (bg_dX6_init_58 14 89 rfl)
theorem dX6_init_73 : decode cX6_init 73 = .ok (.aload_n 0, 1) := o_42 (bg_dX6_init_58 15 42 rfl)
theorem dX6_init_74 : decode cX6_init 74 = .ok (.getfield 42, 3) := o_180 (bg_dX6_init_58 16 180 rfl) (bg_dX6_init_58 17 0 rfl) (bg_dX6_init_58 18 42 rfl)
theorem dX6_init_77 : decode cX6_init 77 = .ok (.aload_n 0, 1) := o_42 (bg_dX6_init_58 19 42 rfl)
theorem dX6_init_78 : decode cX6_init 78 = .ok (.getfield 10, 3) := o_180 (bg_dX6_init_58 20 180 rfl) (bg_dX6_init_58 21 0 rfl) (bg_dX6_init_58 22 10 rfl)
theorem dX6_init_81 : decode cX6_init 81 = .ok (.invokespecial 48, 3) := o_183 (bg_dX6_init_58 23 183 rfl) (bg_dX6_init_58 24 0 rfl) (bg_dX6_init_58 25 48 rfl)
theorem dX6_init_84 : decode cX6_init 84 = .ok (.putfield 51, 3) := o_181 (bg_dX6_init_58 26 181 rfl) (bg_dX6_init_58 27 0 rfl) (bg_dX6_init_58 28 51 rfl)
theorem dX6_init_87 : decode cX6_init 87 = .ok (.aload_n 0, 1) := o_42 (bg_dX6_init_58 29 42 rfl)
theorem bg_dX6_init_88 : bysAt cX6_init 88 [8, 188, 10, 181, 0, 55, 42, 6, 188, 10, 181, 0, 59, 177] := bysAt_of (by decide +kernel)
theorem dX6_init_88 : decode cX6_init 88 = .ok (.iconst 5, 1) := o_8 (bg_dX6_init_88 0 8 rfl)
theorem dX6_init_91 : decode cX6_init 91 = .ok (.putfield 55, 3) := o_181 (bg_dX6_init_88 3 181 rfl) (bg_dX6_init_88 4 0 rfl) (bg_dX6_init_88 5 55 rfl)
theorem dX6_init_94 : decode cX6_init 94 = .ok (.aload_n 0, 1) := o_42 (bg_dX6_init_88 6 42 rfl)
theorem dX6_init_95 : decode cX6_init 95 = .ok (.iconst 3, 1) := o_6 (bg_dX6_init_88 7 6 rfl)
theorem dX6_init_98 : decode cX6_init 98 = .ok (.putfield 59, 3) := o_181 (bg_dX6_init_88 10 181 rfl) (bg_dX6_init_88 11 0 rfl) (bg_dX6_init_88 12 59 rfl)
theorem dX6_init_101 : decode cX6_init 101 = .ok (.return_, 1) := o_177 (bg_dX6_init_88 13 177 rfl)
theorem bg_dX7_init_0 : bysAt cX7_init 0 [42, 183, 0, 1, 42, 16, 8, 188, 10, 181, 0, 7, 42, 16, 8, 188, 10, 181, 0, 13, 42, 16, 8, 188, 10, 181, 0, 16, 42, 16, 8, 16, 40] := bysAt_of (by decide +kernel)
theorem dX7_init_0 : decode cX7_init 0 = .ok (.aload_n 0, 1) := o_42 (bg_dX7_init_0 0 42 rfl)
theorem dX7_init_1 : decode cX7_init 1 = .ok (.invokespecial 1, 3) := o_183 (bg_dX7_init_0 1 183 rfl) (bg_dX7_init_0 2 0 rfl) (bg_dX7_init_0 3 1 rfl)
theorem dX7_init_4 : decode cX7_init 4 = .ok (.aload_n 0, 1) := o_42 (bg_dX7_init_0 4 42 rfl)
theorem dX7_init_5 : decode cX7_init 5 = .ok (.bipush 8, 2) := o_16 (bg_dX7_init_0 5 16 rfl) (bg_dX7_init_0 6 8 rfl) (by decide +kernel)
theorem dX7_init_9 : decode cX7_init 9 = .ok (.putfield 7, 3) := o_181 (bg_dX7_init_0 9 181 rfl) (bg_dX7_init_0 10 0 rfl) (bg_dX7_init_0 11 7 rfl)
theorem dX7_init_12 : decode cX7_init 12 = .ok (.aload_n 0, 1) := o_42 (bg_dX7_init_0 12 42 rfl)
theorem dX7_init_13 : decode cX7_init 13 = .ok (.bipush 8, 2) := o_16 (bg_dX7_init_0 13 16 rfl) (bg_dX7_init_0 14 8 rfl) (by decide +kernel)
theorem dX7_init_17 : decode cX7_init 17 = .ok (.putfield 13, 3) := o_181 (bg_dX7_init_0 17 181 rfl) (bg_dX7_init_0 18 0 rfl) (bg_dX7_init_0 19 13 rfl)
theorem dX7_init_20 : decode cX7_init 20 = .ok (.aload_n 0, 1) := o_42 (bg_dX7_init_0 20 42 rfl)
theorem dX7_init_21 : decode cX7_init 21 = .ok (.bipush 8, 2) := o_16 (bg_dX7_init_0 21 16 rfl) (bg_dX7_init_0 22 8 rfl) (by decide +kernel)
theorem dX7_init_25 : decode cX7_init 25 = .ok (.putfield 16, 3) := o_181 (bg_dX7_init_0 25 181 rfl) (bg_dX7_init_0 26 0 rfl) (bg_dX7_init_0 27 16 rfl)
theorem dX7_init_28 : decode cX7_init 28 = .ok (.aload_n 0, 1) := o_42 (bg_dX7_init_0 28 42 rfl)
theorem dX7_init_29 : decode cX7_init 29 = .ok (.bipush 8, 2) := o_16 (bg_dX7_init_0 29 16 rfl) (bg_dX7_init_0 30 8 rfl) (by decide +kernel)
theorem dX7_init_31 : decode cX7_init 31 = .ok (.bipush 40, 2) := o_16 (bg_dX7_init_0 31 16 rfl) (bg_dX7_init_0 32 40 rfl) (by decide +kernel)
theorem bg_dX7_init_37 : bysAt cX7_init 37 [181, 0, 21, 42, 16, 40, 188, 11, 181, 0, 24, 42, 16, 8, 188, 10, 181, 0, 28, 42, 17, 0, 250, 188, 10, 181, 0, 31, 42, 16, 8, 188, 10, 181, 0, 34, 42] := bysAt_of (by decide +kernel)
theorem dX7_init_37 : decode cX7_init 37 = .ok (.putfield 21, 3) := o_181 (bg_dX7_init_37 0 181 rfl) (bg_dX7_init_37 1 0 rfl) (bg_dX7_init_37 2 21 rfl)
theorem dX7_init_40 : decode cX7_init 40 = .ok (.aload_n 0, 1) := o_42 (bg_dX7_init_37 3 42 rfl)
theorem dX7_init_41 : decode cX7_init 41 = .ok (.bipush 40, 2) := o_16 (bg_dX7_init_37 4 16 rfl) (bg_dX7_init_37 5 40 rfl) (by decide +kernel)
theorem dX7_init_45 : decode cX7_init 45 = .ok (.putfield 24, 3) := o_181 (bg_dX7_init_37 8 181 rfl) (bg_dX7_init_37 9 0 rfl) (bg_dX7_init_37 10 24 rfl)
theorem dX7_init_48 : decode cX7_init 48 = .ok (.aload_n 0, 1) := o_42 (bg_dX7_init_37 11 42 rfl)
theorem dX7_init_49 : decode cX7_init 49 = .ok (.bipush 8, 2) := o_16 (bg_dX7_init_37 12 16 rfl) (bg_dX7_init_37 13 8 rfl) (by decide +kernel)
theorem dX7_init_53 : decode cX7_init 53 = .ok (.putfield 28, 3) := o_181 (bg_dX7_init_37 16 181 rfl) (bg_dX7_init_37 17 0 rfl) (bg_dX7_init_37 18 28 rfl)
theorem dX7_init_56 : decode cX7_init 56 = .ok (.aload_n 0, 1) := o_42 (bg_dX7_init_37 19 42 rfl)
theorem dX7_init_57 : decode cX7_init 57 = .ok (.sipush 250, 3) := o_17 (bg_dX7_init_37 20 17 rfl) (bg_dX7_init_37 21 0 rfl) (bg_dX7_init_37 22 250 rfl) (by decide +kernel)
theorem dX7_init_62 : decode cX7_init 62 = .ok (.putfield 31, 3) := o_181 (bg_dX7_init_37 25 181 rfl) (bg_dX7_init_37 26 0 rfl) (bg_dX7_init_37 27 31 rfl)
theorem dX7_init_65 : decode cX7_init 65 = .ok (.aload_n 0, 1) := o_42 (bg_dX7_init_37 28 42 rfl)
theorem dX7_init_66 : decode cX7_init 66 = .ok (.bipush 8, 2) := o_16 (bg_dX7_init_37 29 16 rfl) (bg_dX7_init_37 30 8 rfl) (by decide +kernel)
theorem dX7_init_70 : decode cX7_init 70 = .ok (.putfield 34, 3) := o_181 (bg_dX7_init_37 33 181 rfl) (bg_dX7_init_37 34 0 rfl) (bg_dX7_init_37 35 34 rfl)
theorem dX7_init_73 : decode cX7_init 73 = .ok (.aload_n 0, 1) := o_42 (bg_dX7_init_37 36 42 rfl)
theorem bg_dX7_init_74 : bysAt cX7_init 74 [16, 24, 16, 7, 197, 0, 37, 2, 181, 0, 39, 42, 16, 16, 16, 10, 197, 0, 37, 2, 181, 0, 42, 42, 8, 6, 197, 0, 37, 2, 181, 0, 45, 42, 8, 5] := bysAt_of (by decide +kernel)
theorem dX7_init_74 : decode cX7_init 74 = .ok (.bipush 24, 2) := o_16 (bg_dX7_init_74 0 16 rfl) (bg_dX7_init_74 1 24 rfl) (by decide +kernel)
theorem dX7_init_76 : decode cX7_init 76 = .ok (.bipush 7, 2) := o_16 (bg_dX7_init_74 2 16 rfl) (bg_dX7_init_74 3 7 rfl) (by decide +kernel)
theorem dX7_init_82 : decode cX7_init 82 = .ok (.putfield 39, 3) := o_181 (bg_dX7_init_74 8 181 rfl) (bg_dX7_init_74 9 0 rfl) (bg_dX7_init_74 10 39 rfl)
theorem dX7_init_85 : decode cX7_init 85 = .ok (.aload_n 0, 1) := o_42 (bg_dX7_init_74 11 42 rfl)
theorem dX7_init_86 : decode cX7_init 86 = .ok (.bipush 16, 2) := o_16 (bg_dX7_init_74 12 16 rfl) (bg_dX7_init_74 13 16 rfl) (by decide +kernel)
theorem dX7_init_88 : decode cX7_init 88 = .ok (.bipush 10, 2) := o_16 (bg_dX7_init_74 14 16 rfl) (bg_dX7_init_74 15 10 rfl) (by decide +kernel)
theorem dX7_init_94 : decode cX7_init 94 = .ok (.putfield 42, 3) := o_181 (bg_dX7_init_74 20 181 rfl) (bg_dX7_init_74 21 0 rfl) (bg_dX7_init_74 22 42 rfl)
theorem dX7_init_97 : decode cX7_init 97 = .ok (.aload_n 0, 1) := o_42 (bg_dX7_init_74 23 42 rfl)
theorem dX7_init_98 : decode cX7_init 98 = .ok (.iconst 5, 1) := o_8 (bg_dX7_init_74 24 8 rfl)
theorem dX7_init_99 : decode cX7_init 99 = .ok (.iconst 3, 1) := o_6 (bg_dX7_init_74 25 6 rfl)
theorem dX7_init_104 : decode cX7_init 104 = .ok (.putfield 45, 3) := o_181 (bg_dX7_init_74 30 181 rfl) (bg_dX7_init_74 31 0 rfl) (bg_dX7_init_74 32 45 rfl)
theorem dX7_init_107 : decode cX7_init 107 = .ok (.aload_n 0, 1) := o_42 (bg_dX7_init_74 33 42 rfl)
theorem dX7_init_108 : decode cX7_init 108 = .ok (.iconst 5, 1) := o_8 (bg_dX7_init_74 34 8 rfl)
theorem dX7_init_109 : decode cX7_init 109 = .ok (.iconst 2, 1) := o_5 (bg_dX7_init_74 35 5 rfl)
theorem bg_dX7_init_114 : bysAt cX7_init 114 [181, 0, 48, 42, 6, 188, 10, 89, 3, 16, 100, 79, 89, 4, 5, 79, 89, 5, 3] := bysAt_of (by decide +kernel)
theorem dX7_init_114 : decode cX7_init 114 = .ok (.putfield 48, 3) := o_181 (bg_dX7_init_114 0 181 rfl) (bg_dX7_init_114 1 0 rfl) (bg_dX7_init_114 2 48 rfl)
theorem dX7_init_117 : decode cX7_init 117 = .ok (.aload_n 0, 1) := o_42 (bg_dX7_init_114 3 42 rfl)
theorem dX7_init_118 : decode cX7_init 118 = .ok (.iconst 3, 1) := o_6 (bg_dX7_init_114 4 6 rfl)
theorem dX7_init_121 : decode cX7_init 121 = .ok (.dup, 1) := o_89 (bg_dX7_init_114 7 89 rfl)
theorem dX7_init_122 : decode cX7_init 122 = .ok (.iconst 0, 1) := o_3 (bg_dX7_init_114 8 3 rfl)
theorem dX7_init_123 : decode cX7_init 123 = .ok (.bipush 100, 2) := o_16 (bg_dX7_init_114 9 16 rfl) (bg_dX7_init_114 10 100 rfl) (by decide +kernel)
theorem dX7_init_125 : decode cX7_init 125 = .ok (.iastore, 1) := o_79 (bg_dX7_init_114 11 79 rfl)
theorem dX7_init_126 : decode cX7_init 126 = .ok (.dup, 1) := o_89 (bg_dX7_init_114 12 89 rfl)
theorem dX7_init_127 : decode cX7_init 127 = .ok (.iconst 1, 1) := o_4 (bg_dX7_init_114 13 4 rfl)
theorem dX7_init_128 : decode cX7_init 128 = .ok (.iconst 2, 1) := o_5 (bg_dX7_init_114 14 5 rfl)
theorem dX7_init_129 : decode cX7_init 129 = .ok (.iastore, 1) := o_79 (bg_dX7_init_114 15 79 rfl)
theorem dX7_init_130 : decode cX7_init 130 = .ok (.dup, 1) := o_89 (bg_dX7_init_114 16 89 rfl)
theorem dX7_init_131 : decode cX7_init 131 = .ok (.iconst 2, 1) := o_5 (bg_dX7_init_114 17 5 rfl)
theorem dX7_init_132 : decode cX7_init 132 = .ok (.iconst 0, 1) := o_3 (bg_dX7_init_114 18 3 rfl)
theorem bg_dX7_init_133 : bysAt cX7_init 133 [79, 181, 0, 51, 42, 16, 7, 188, 10, 181, 0, 54, 42, 16, 16, 188, 11, 181, 0, 57, 177] := bysAt_of (by decide +kernel)
theorem dX7_init_133 : decode cX7_init 133 = .ok (.iastore, 1) := o_79 (bg_dX7_init_133 0 79 rfl)
theorem dX7_init_134 : decode cX7_init 134 = .ok (.putfield 51, 3) := o_181 (bg_dX7_init_133 1 181 rfl) (bg_dX7_init_133 2 0 rfl) (bg_dX7_init_133 3 51 rfl)
theorem dX7_init_137 : decode cX7_init 137 = .ok (.aload_n 0, 1) := o_42 (bg_dX7_init_133 4 42 rfl)
theorem dX7_init_138 : decode cX7_init 138 = .ok (.bipush 7, 2) := o_16 (bg_dX7_init_133 5 16 rfl) (bg_dX7_init_133 6 7 rfl) (by decide +kernel)
theorem dX7_init_142 : decode cX7_init 142 = .ok (.putfield 54, 3) := o_181 (bg_dX7_init_133 9 181 rfl) (bg_dX7_init_133 10 0 rfl) (bg_dX7_init_133 11 54 rfl)
theorem dX7_init_145 : decode cX7_init 145 = .ok (.aload_n 0, 1) := o_42 (bg_dX7_init_133 12 42 rfl)
theorem dX7_init_146 : decode cX7_init 146 = .ok (.bipush 16, 2) := o_16 (bg_dX7_init_133 13 16 rfl) (bg_dX7_init_133 14 16 rfl) (by decide +kernel)
theorem dX7_init_150 : decode cX7_init 150 = .ok (.putfield 57, 3) := o_181 (bg_dX7_init_133 17 181 rfl) (bg_dX7_init_133 18 0 rfl) (bg_dX7_init_133 19 57 rfl)
theorem dX7_init_153 : decode cX7_init 153 = .ok (.return_, 1) := o_177 (bg_dX7_init_133 20 177 rfl)
theorem pdX0_init : yX0_init.cls ≠ "java/lang/invoke/MethodHandle" ∧ yX0_init.cls ≠ "java/lang/invoke/VarHandle" ∧ (parseMethodDescriptor yX0_init.desc).map (fun d => d.parameters.length) = some 0 := by decide +kernel
theorem pdX1_init : yX1_init.cls ≠ "java/lang/invoke/MethodHandle" ∧ yX1_init.cls ≠ "java/lang/invoke/VarHandle" ∧ (parseMethodDescriptor yX1_init.desc).map (fun d => d.parameters.length) = some 0 := by decide +kernel
theorem pdX2_init : yX2_init.cls ≠ "java/lang/invoke/MethodHandle" ∧ yX2_init.cls ≠ "java/lang/invoke/VarHandle" ∧ (parseMethodDescriptor yX2_init.desc).map (fun d => d.parameters.length) = some 2 := by decide +kernel
theorem pdX3_init : yX3_init.cls ≠ "java/lang/invoke/MethodHandle" ∧ yX3_init.cls ≠ "java/lang/invoke/VarHandle" ∧ (parseMethodDescriptor yX3_init.desc).map (fun d => d.parameters.length) = some 0 := by decide +kernel
theorem pdX4_init : yX4_init.cls ≠ "java/lang/invoke/MethodHandle" ∧ yX4_init.cls ≠ "java/lang/invoke/VarHandle" ∧ (parseMethodDescriptor yX4_init.desc).map (fun d => d.parameters.length) = some 0 := by decide +kernel
theorem pdX5_init : yX5_init.cls ≠ "java/lang/invoke/MethodHandle" ∧ yX5_init.cls ≠ "java/lang/invoke/VarHandle" ∧ (parseMethodDescriptor yX5_init.desc).map (fun d => d.parameters.length) = some 1 := by decide +kernel
theorem dX0_init_9 : decode cX0_init 9 = .ok (.newarray .int, 2) := by decide +kernel
theorem dX0_init_23 : decode cX0_init 23 = .ok (.newarray .int, 2) := by decide +kernel
theorem dX0_init_37 : decode cX0_init 37 = .ok (.newarray .int, 2) := by decide +kernel
theorem dX0_init_50 : decode cX0_init 50 = .ok (.newarray .int, 2) := by decide +kernel
theorem dX0_init_63 : decode cX0_init 63 = .ok (.newarray .int, 2) := by decide +kernel
theorem dX0_init_70 : decode cX0_init 70 = .ok (.newarray .int, 2) := by decide +kernel
theorem dX0_init_93 : decode cX0_init 93 = .ok (.newarray .int, 2) := by decide +kernel
theorem dX2_init_19 : decode cX2_init 19 = .ok (.newarray .int, 2) := by decide +kernel
theorem dX2_init_26 : decode cX2_init 26 = .ok (.newarray .int, 2) := by decide +kernel
theorem dX3_init_7 : decode cX3_init 7 = .ok (.newarray .int, 2) := by decide +kernel
theorem dX3_init_15 : decode cX3_init 15 = .ok (.newarray .int, 2) := by decide +kernel
theorem dX3_init_24 : decode cX3_init 24 = .ok (.newarray .long, 2) := by decide +kernel
theorem dX3_init_44 : decode cX3_init 44 = .ok (.iinc 1 1, 3) := by decide +kernel
theorem dX4_init_8 : decode cX4_init 8 = .ok (.newarray .int, 2) := by decide +kernel
theorem dX5_init_26 : decode cX5_init 26 = .ok (.newarray .int, 2) := by decide +kernel
theorem dX5_init_37 : decode cX5_init 37 = .ok (.newarray .int, 2) := by decide +kernel
theorem dX5_init_48 : decode cX5_init 48 = .ok (.newarray .int, 2) := by decide +kernel
theorem dX5_init_56 : decode cX5_init 56 = .ok (.newarray .int, 2) := by decide +kernel
theorem dX5_init_63 : decode cX5_init 63 = .ok (.newarray .int, 2) := by decide +kernel
theorem dX6_init_89 : decode cX6_init 89 = .ok (.newarray .int, 2) := by decide +kernel
theorem dX6_init_96 : decode cX6_init 96 = .ok (.newarray .int, 2) := by decide +kernel
theorem dX7_init_7 : decode cX7_init 7 = .ok (.newarray .int, 2) := by decide +kernel
theorem dX7_init_15 : decode cX7_init 15 = .ok (.newarray .int, 2) := by decide +kernel
theorem dX7_init_23 : decode cX7_init 23 = .ok (.newarray .int, 2) := by decide +kernel
theorem dX7_init_33 : decode cX7_init 33 = .ok (.multianewarray 19 2, 4) := by decide +kernel
theorem dX7_init_43 : decode cX7_init 43 = .ok (.newarray .long, 2) := by decide +kernel
theorem dX7_init_51 : decode cX7_init 51 = .ok (.newarray .int, 2) := by decide +kernel
theorem dX7_init_60 : decode cX7_init 60 = .ok (.newarray .int, 2) := by decide +kernel
theorem dX7_init_68 : decode cX7_init 68 = .ok (.newarray .int, 2) := by decide +kernel
theorem dX7_init_78 : decode cX7_init 78 = .ok (.multianewarray 37 2, 4) := by decide +kernel
theorem dX7_init_90 : decode cX7_init 90 = .ok (.multianewarray 37 2, 4) := by decide +kernel
theorem dX7_init_100 : decode cX7_init 100 = .ok (.multianewarray 37 2, 4) := by decide +kernel
theorem dX7_init_110 : decode cX7_init 110 = .ok (.multianewarray 37 2, 4) := by decide +kernel
theorem dX7_init_119 : decode cX7_init 119 = .ok (.newarray .int, 2) := by decide +kernel
theorem dX7_init_140 : decode cX7_init 140 = .ok (.newarray .int, 2) := by decide +kernel
theorem dX7_init_148 : decode cX7_init 148 = .ok (.newarray .long, 2) := by decide +kernel
