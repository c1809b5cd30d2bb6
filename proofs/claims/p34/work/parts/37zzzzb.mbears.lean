/-! FULL: the reference: what a bridge bears, needs; which roads go; what they cost -/
theorem hf_c {kd sk : Int32} (h : kd.toInt ≤ 5) : ((4 : Int32) ≤ kd ∧ sk = 0) ↔ ((kd = 4 ∨ kd = 5) ∧ sk = 0) := by
  have e4 : (4 : Int32).toInt = 4 := rfl
  have e5 : (5 : Int32).toInt = 5 := rfl
  constructor
  · intro q
    have q1 := Int32.le_iff_toInt_le.mp q.1
    rcases (show kd.toInt = 4 ∨ kd.toInt = 5 by omega) with z | z
    · exact ⟨Or.inl (Int32.toInt_inj.mp (by rw [z, e4])), q.2⟩
    · exact ⟨Or.inr (Int32.toInt_inj.mp (by rw [z, e5])), q.2⟩
  · intro q
    refine ⟨?_, q.2⟩
    rcases q.1 with z | z
    · rw [z]; decide
    · rw [z]; decide
theorem rg01 {x : Int32} (h : rg x 0 1) (c : ¬ x = 1) : x = 0 := by
  have e1 : x.toInt ≠ 1 := fun e => c (Int32.toInt_inj.mp e)
  refine Int32.toInt_inj.mp ?_
  show x.toInt = 0
  have := h.1
  have := h.2
  omega

set_option maxHeartbeats 4000000 in
set_option maxRecDepth 100000 in
theorem e_X7_isHalf (l : Launch) (D : va_G) (E : Nat → ClassId) (G : Nat → Nat) (a : Nat → Nat) (C : Nat → va_E) (n : Nat) (hn : 74 ≤ n) (hT : TyM a E C) (x1 : Int32) (hx1 : rg x1 0 15) : Met l yX7_isHalf (oh_w yX7_isHalf cX7_isHalf 2 (some .boolean)) ({ frames := 0, cells := 0, slots := 0, locals := 0 }) (oh_Pp D E G [.ref (a 0), .int x1] (oh_W n a C)) (vp_Si (fun r => (r = 0 ∨ r = 1) ∧ (r = 1 ↔ ((4 : Int32) ≤ ga (C (48 + (x1).toNatClampNeg)) ((1 : Int32)).toNatClampNeg ∧ ga (C (48 + (x1).toNatClampNeg)) ((9 : Int32)).toNatClampNeg = 0)))) 0 0 (fun _ => False) := by
  refine Met.ofW (cc := cX7_isHalf) (maxL := 2) (ret := (some .boolean)) (by decide) rfl ?_
  intro p e s m args below meth c s₁ B hml hv
  obtain ⟨rfl, hP, hK, hG⟩ := hv
  have hx := B.exec
  have hb := B.bytes
  have hr := B.returns
  have hts := atoms_spec (ws := (oh_w yX7_isHalf cX7_isHalf 2 (some .boolean))) B.pre
  have htg : ∀ w ∈ oh_t, w.before _ s = true := fun w h => hts w (List.mem_cons_of_mem _ h)
  have hown : s.vm.findClass RX7 = some m.cls := findClass_of_methodNamed B.named
  have hlocks := B.notSynchronized
  have hT0 := hT
  have hS : va_S (fun _ => False) s.heap s.heap [] := va_S.rf
  have hl := lv_entry ([.ref (a 0), .int x1]) (n := 2) (Nat.le_of_ble_eq_true rfl)
  rw [lg_entry_eq]
  generalize (lg_sl ([.ref (a 0), .int x1]) ++ List.replicate (2 - (lg_sl ([.ref (a 0), .int x1])).length) Slot.unset).toArray = ls at hl ⊢
  have hl : lv_has ls 2 [(0, .ref (a 0)), (1, .int x1)] := hl
  refine oh_genQ (fun Q hQ => ?_)
  refine lv_aload_n hx hb dX7_isHalf_0 rfl (lv_at hl 0 rfl) ?_
  refine va_get (D := D) (ci := 7) (v := .ref (a 10)) (C := RX7) (T := TX7) (N := 29) hx hb htg ig_7 hown hK hP 0 (oh_wg (Nat.lt_of_lt_of_le (by decide) hn) (sM_0 hT)) rfl 12 (by decide) (htg _ q_985) (fun _ h9 => h9) rfl dX7_isHalf_1 ?_
  refine lv_iload_n hx hb dX7_isHalf_4 rfl (lv_at hl 1 rfl) ?_
  have n_1 : vp_in x1 16 := (rg_in hx1 (by decide))
  have b_2 : (x1).toNatClampNeg < 16 := vp_lt n_1
  refine th_aald hx hb hK hP 10 2 (Nat.lt_of_lt_of_le (by decide) hn) (sM_10 hT) rfl n_1 dX7_isHalf_5 ?_
  refine lv_iconst (v := 1) hx hb dX7_isHalf_6 (by decide) ?_
  refine th_iald hx hb hK hP (48 + (x1).toNatClampNeg) (lt_blk b_2 hn (by decide)) (hT.bbridge b_2).1 (rg_in (rg_c (v := 1) (lo := 1) (hi := 1) (by decide)) (by decide)) dX7_isHalf_7 ?_
  refine lv_iconst (v := 4) hx hb dX7_isHalf_8 (by decide) ?_
  refine lv_icmp_lt (tgt := 28) hx hb dX7_isHalf_9 (by decide) (fun (c_3 : (ga (C (48 + (x1).toNatClampNeg)) ((1 : Int32)).toNatClampNeg) < 4) => ?_) (fun (c_3 : ¬ ((ga (C (48 + (x1).toNatClampNeg)) ((1 : Int32)).toNatClampNeg) < 4)) => ?_)
  · refine lv_iconst (v := 0) hx hb dX7_isHalf_28 (by decide) ?_
    rw [hQ]
    exact W.zret (v := 0) (ty := .boolean) hx hb hr (by decide) (fun t ht hW => ⟨0, rfl, ⟨(Or.inl rfl), ⟨fun h8 => absurd h8 (by decide), fun h8 => absurd h8 (fun h8 => (Int32.not_le.mpr c_3) h8.1)⟩⟩, ht⟩) (fun q h => by cases h) dX7_isHalf_29
  · refine lv_aload_n hx hb dX7_isHalf_12 rfl (lv_at hl 0 rfl) ?_
    refine va_get (D := D) (ci := 7) (v := .ref (a 10)) (C := RX7) (T := TX7) (N := 29) hx hb htg ig_7 hown hK hP 0 (oh_wg (Nat.lt_of_lt_of_le (by decide) hn) (sM_0 hT)) rfl 12 (by decide) (htg _ q_985) (fun _ h9 => h9) rfl dX7_isHalf_13 ?_
    refine lv_iload_n hx hb dX7_isHalf_16 rfl (lv_at hl 1 rfl) ?_
    have n_4 : vp_in x1 16 := (rg_in hx1 (by decide))
    have b_5 : (x1).toNatClampNeg < 16 := vp_lt n_4
    refine th_aald hx hb hK hP 10 2 (Nat.lt_of_lt_of_le (by decide) hn) (sM_10 hT) rfl n_4 dX7_isHalf_17 ?_
    refine lv_bipush (v := 9) hx hb dX7_isHalf_18 (by decide) ?_
    refine th_iald hx hb hK hP (48 + (x1).toNatClampNeg) (lt_blk b_5 hn (by decide)) (hT.bbridge b_5).1 (rg_in (rg_c (v := 9) (lo := 9) (hi := 9) (by decide)) (by decide)) dX7_isHalf_20 ?_
    refine lv_if_ne (tgt := 28) hx hb dX7_isHalf_21 (by decide) (fun (c_6 : ¬ ((ga (C (48 + (x1).toNatClampNeg)) ((9 : Int32)).toNatClampNeg) = 0)) => ?_) (fun (c_6 : (ga (C (48 + (x1).toNatClampNeg)) ((9 : Int32)).toNatClampNeg) = 0) => ?_)
    · refine lv_iconst (v := 0) hx hb dX7_isHalf_28 (by decide) ?_
      rw [hQ]
      exact W.zret (v := 0) (ty := .boolean) hx hb hr (by decide) (fun t ht hW => ⟨0, rfl, ⟨(Or.inl rfl), ⟨fun h8 => absurd h8 (by decide), fun h8 => absurd h8 (fun h8 => c_6 h8.2)⟩⟩, ht⟩) (fun q h => by cases h) dX7_isHalf_29
    · refine lv_iconst (v := 1) hx hb dX7_isHalf_24 (by decide) ?_
      refine lv_goto (tgt := 29) hx hb dX7_isHalf_25 (by decide) ?_
      rw [hQ]
      exact W.zret (v := 1) (ty := .boolean) hx hb hr (by decide) (fun t ht hW => ⟨1, rfl, ⟨(Or.inr rfl), ⟨fun _ => ⟨(Int32.not_lt.mp c_3), c_6⟩, fun _ => rfl⟩⟩, ht⟩) (fun q h => by cases h) dX7_isHalf_29

set_option maxHeartbeats 4000000 in
set_option maxRecDepth 100000 in
theorem e_X7_isNothing (l : Launch) (D : va_G) (E : Nat → ClassId) (G : Nat → Nat) (a : Nat → Nat) (C : Nat → va_E) (n : Nat) (hn : 74 ≤ n) (hT : TyM a E C) (x1 : Int32) (hx1 : rg x1 0 15) : Met l yX7_isNothing (oh_w yX7_isNothing cX7_isNothing 2 (some .boolean)) ({ frames := 0, cells := 0, slots := 0, locals := 0 }) (oh_Pp D E G [.ref (a 0), .int x1] (oh_W n a C)) (vp_Si (fun r => (r = 0 ∨ r = 1) ∧ (r = 1 ↔ (ga (C (48 + (x1).toNatClampNeg)) ((1 : Int32)).toNatClampNeg = 5 ∧ ga (C 13) ((2 : Int32)).toNatClampNeg = 0)))) 0 0 (fun _ => False) := by
  refine Met.ofW (cc := cX7_isNothing) (maxL := 2) (ret := (some .boolean)) (by decide) rfl ?_
  intro p e s m args below meth c s₁ B hml hv
  obtain ⟨rfl, hP, hK, hG⟩ := hv
  have hx := B.exec
  have hb := B.bytes
  have hr := B.returns
  have hts := atoms_spec (ws := (oh_w yX7_isNothing cX7_isNothing 2 (some .boolean))) B.pre
  have htg : ∀ w ∈ oh_t, w.before _ s = true := fun w h => hts w (List.mem_cons_of_mem _ h)
  have hown : s.vm.findClass RX7 = some m.cls := findClass_of_methodNamed B.named
  have hlocks := B.notSynchronized
  have hT0 := hT
  have hS : va_S (fun _ => False) s.heap s.heap [] := va_S.rf
  have hl := lv_entry ([.ref (a 0), .int x1]) (n := 2) (Nat.le_of_ble_eq_true rfl)
  rw [lg_entry_eq]
  generalize (lg_sl ([.ref (a 0), .int x1]) ++ List.replicate (2 - (lg_sl ([.ref (a 0), .int x1])).length) Slot.unset).toArray = ls at hl ⊢
  have hl : lv_has ls 2 [(0, .ref (a 0)), (1, .int x1)] := hl
  refine oh_genQ (fun Q hQ => ?_)
  refine lv_aload_n hx hb dX7_isNothing_0 rfl (lv_at hl 0 rfl) ?_
  refine va_get (D := D) (ci := 7) (v := .ref (a 10)) (C := RX7) (T := TX7) (N := 29) hx hb htg ig_7 hown hK hP 0 (oh_wg (Nat.lt_of_lt_of_le (by decide) hn) (sM_0 hT)) rfl 12 (by decide) (htg _ q_985) (fun _ h9 => h9) rfl dX7_isNothing_1 ?_
  refine lv_iload_n hx hb dX7_isNothing_4 rfl (lv_at hl 1 rfl) ?_
  have n_1 : vp_in x1 16 := (rg_in hx1 (by decide))
  have b_2 : (x1).toNatClampNeg < 16 := vp_lt n_1
  refine th_aald hx hb hK hP 10 2 (Nat.lt_of_lt_of_le (by decide) hn) (sM_10 hT) rfl n_1 dX7_isNothing_5 ?_
  refine lv_iconst (v := 1) hx hb dX7_isNothing_6 (by decide) ?_
  refine th_iald hx hb hK hP (48 + (x1).toNatClampNeg) (lt_blk b_2 hn (by decide)) (hT.bbridge b_2).1 (rg_in (rg_c (v := 1) (lo := 1) (hi := 1) (by decide)) (by decide)) dX7_isNothing_7 ?_
  refine lv_iconst (v := 5) hx hb dX7_isNothing_8 (by decide) ?_
  refine lv_icmp_ne (tgt := 25) hx hb dX7_isNothing_9 (by decide) (fun (c_3 : ¬ ((ga (C (48 + (x1).toNatClampNeg)) ((1 : Int32)).toNatClampNeg) = 5)) => ?_) (fun (c_3 : (ga (C (48 + (x1).toNatClampNeg)) ((1 : Int32)).toNatClampNeg) = 5) => ?_)
  · refine lv_iconst (v := 0) hx hb dX7_isNothing_25 (by decide) ?_
    rw [hQ]
    exact W.zret (v := 0) (ty := .boolean) hx hb hr (by decide) (fun t ht hW => ⟨0, rfl, ⟨(Or.inl rfl), ⟨fun h8 => absurd h8 (by decide), fun h8 => absurd h8 (fun h8 => c_3 h8.1)⟩⟩, ht⟩) (fun q h => by cases h) dX7_isNothing_26
  · refine lv_aload_n hx hb dX7_isNothing_12 rfl (lv_at hl 0 rfl) ?_
    refine va_get (D := D) (ci := 7) (v := .ref (a 13)) (C := RX7) (T := TX7) (N := 29) hx hb htg ig_7 hown hK hP 0 (oh_wg (Nat.lt_of_lt_of_le (by decide) hn) (sM_0 hT)) rfl 17 (by decide) (htg _ q_990) (fun _ h9 => h9) rfl dX7_isNothing_13 ?_
    refine lv_iconst (v := 2) hx hb dX7_isNothing_16 (by decide) ?_
    refine th_iald hx hb hK hP 13 (Nat.lt_of_lt_of_le (by decide) hn) (sM_13 hT) (rg_in (rg_c (v := 2) (lo := 2) (hi := 2) (by decide)) (by decide)) dX7_isNothing_17 ?_
    refine lv_if_ne (tgt := 25) hx hb dX7_isNothing_18 (by decide) (fun (c_4 : ¬ ((ga (C 13) ((2 : Int32)).toNatClampNeg) = 0)) => ?_) (fun (c_4 : (ga (C 13) ((2 : Int32)).toNatClampNeg) = 0) => ?_)
    · refine lv_iconst (v := 0) hx hb dX7_isNothing_25 (by decide) ?_
      rw [hQ]
      exact W.zret (v := 0) (ty := .boolean) hx hb hr (by decide) (fun t ht hW => ⟨0, rfl, ⟨(Or.inl rfl), ⟨fun h8 => absurd h8 (by decide), fun h8 => absurd h8 (fun h8 => c_4 h8.2)⟩⟩, ht⟩) (fun q h => by cases h) dX7_isNothing_26
    · refine lv_iconst (v := 1) hx hb dX7_isNothing_21 (by decide) ?_
      refine lv_goto (tgt := 26) hx hb dX7_isNothing_22 (by decide) ?_
      rw [hQ]
      exact W.zret (v := 1) (ty := .boolean) hx hb hr (by decide) (fun t ht hW => ⟨1, rfl, ⟨(Or.inr rfl), ⟨fun _ => ⟨c_3, c_4⟩, fun _ => rfl⟩⟩, ht⟩) (fun q h => by cases h) dX7_isNothing_26

set_option maxHeartbeats 4000000 in
set_option maxRecDepth 100000 in
theorem e_X7_axleOf (l : Launch) (D : va_G) (E : Nat → ClassId) (G : Nat → Nat) (a : Nat → Nat) (C : Nat → va_E) (n : Nat) (hn : 74 ≤ n) (hT : TyM a E C) (x1 : Int32) (hx1 : rg x1 0 15) : Met l yX7_axleOf (oh_w yX7_axleOf cX7_axleOf 4 (some .int)) ({ frames := 1, cells := 0, slots := 0, locals := 21 }) (oh_Pp D E G [.ref (a 0), .int x1] (oh_W n a C)) (vp_Si (fun r => ((ga (C (48 + (x1).toNatClampNeg)) ((1 : Int32)).toNatClampNeg).toInt ≤ 5 → r = bAxF (ga (C (48 + (x1).toNatClampNeg)) ((1 : Int32)).toNatClampNeg) (ga (C (48 + (x1).toNatClampNeg)) ((3 : Int32)).toNatClampNeg) (ga (C (48 + (x1).toNatClampNeg)) ((8 : Int32)).toNatClampNeg) (ga (C (48 + (x1).toNatClampNeg)) ((9 : Int32)).toNatClampNeg) (ga (C 13) ((2 : Int32)).toNatClampNeg)))) 0 0 (fun _ => False) := by
  refine Met.ofW (cc := cX7_axleOf) (maxL := 4) (ret := (some .int)) (by decide) rfl ?_
  intro p e s m args below meth c s₁ B hml hv
  obtain ⟨rfl, hP, hK, hG⟩ := hv
  have hx := B.exec
  have hb := B.bytes
  have hr := B.returns
  have hts := atoms_spec (ws := (oh_w yX7_axleOf cX7_axleOf 4 (some .int))) B.pre
  have htg : ∀ w ∈ oh_t, w.before _ s = true := fun w h => hts w (List.mem_cons_of_mem _ h)
  have hown : s.vm.findClass RX7 = some m.cls := findClass_of_methodNamed B.named
  have hlocks := B.notSynchronized
  have hT0 := hT
  have hS : va_S (fun _ => False) s.heap s.heap [] := va_S.rf
  have hl := lv_entry ([.ref (a 0), .int x1]) (n := 4) (Nat.le_of_ble_eq_true rfl)
  rw [lg_entry_eq]
  generalize (lg_sl ([.ref (a 0), .int x1]) ++ List.replicate (4 - (lg_sl ([.ref (a 0), .int x1])).length) Slot.unset).toArray = ls at hl ⊢
  have hl : lv_has ls 4 [(0, .ref (a 0)), (1, .int x1)] := hl
  refine oh_genQ (fun Q hQ => ?_)
  refine lv_aload_n hx hb dX7_axleOf_0 rfl (lv_at hl 0 rfl) ?_
  refine va_get (D := D) (ci := 7) (v := .ref (a 10)) (C := RX7) (T := TX7) (N := 29) hx hb htg ig_7 hown hK hP 0 (oh_wg (Nat.lt_of_lt_of_le (by decide) hn) (sM_0 hT)) rfl 12 (by decide) (htg _ q_985) (fun _ h9 => h9) rfl dX7_axleOf_1 ?_
  refine lv_iload_n hx hb dX7_axleOf_4 rfl (lv_at hl 1 rfl) ?_
  have n_1 : vp_in x1 16 := (rg_in hx1 (by decide))
  have b_2 : (x1).toNatClampNeg < 16 := vp_lt n_1
  refine th_aald hx hb hK hP 10 2 (Nat.lt_of_lt_of_le (by decide) hn) (sM_10 hT) rfl n_1 dX7_axleOf_5 ?_
  refine lv_iconst (v := 1) hx hb dX7_axleOf_6 (by decide) ?_
  refine th_iald hx hb hK hP (48 + (x1).toNatClampNeg) (lt_blk b_2 hn (by decide)) (hT.bbridge b_2).1 (rg_in (rg_c (v := 1) (lo := 1) (hi := 1) (by decide)) (by decide)) dX7_axleOf_7 ?_
  refine lv_istore_n (lv' := [(2, .int (ga (C (48 + (x1).toNatClampNeg)) ((1 : Int32)).toNatClampNeg)), (0, .ref (a 0)), (1, .int x1)]) hx hb dX7_axleOf_8 rfl hl (by decide) rfl (fun ls hl => ?_)
  refine lv_aload_n hx hb dX7_axleOf_9 rfl (lv_at hl 1 rfl) ?_
  refine va_get (D := D) (ci := 7) (v := .ref (a 10)) (C := RX7) (T := TX7) (N := 29) hx hb htg ig_7 hown hK hP 0 (oh_wg (Nat.lt_of_lt_of_le (by decide) hn) (sM_0 hT)) rfl 12 (by decide) (htg _ q_985) (fun _ h9 => h9) rfl dX7_axleOf_10 ?_
  refine lv_iload_n hx hb dX7_axleOf_13 rfl (lv_at hl 2 rfl) ?_
  have n_3 : vp_in x1 16 := (rg_in hx1 (by decide))
  have b_4 : (x1).toNatClampNeg < 16 := vp_lt n_3
  refine th_aald hx hb hK hP 10 2 (Nat.lt_of_lt_of_le (by decide) hn) (sM_10 hT) rfl n_3 dX7_axleOf_14 ?_
  refine lv_bipush (v := 8) hx hb dX7_axleOf_15 (by decide) ?_
  refine th_iald hx hb hK hP (48 + (x1).toNatClampNeg) (lt_blk b_4 hn (by decide)) (hT.bbridge b_4).1 (rg_in (rg_c (v := 8) (lo := 8) (hi := 8) (by decide)) (by decide)) dX7_axleOf_17 ?_
  refine lv_iconst (v := 1) hx hb dX7_axleOf_18 (by decide) ?_
  refine lv_icmp_eq (tgt := 30) hx hb dX7_axleOf_19 (by decide) (fun (c_5 : (ga (C (48 + (x1).toNatClampNeg)) ((8 : Int32)).toNatClampNeg) = 1) => ?_) (fun (c_5 : ¬ ((ga (C (48 + (x1).toNatClampNeg)) ((8 : Int32)).toNatClampNeg) = 1)) => ?_)
  · refine lv_iconst (v := 0) hx hb dX7_axleOf_30 (by decide) ?_
    rw [hQ]
    exact W.iret (v := 0) hx hb hr (fun t ht hW => ⟨0, rfl, (fun hk => ((pif_pos (Or.inl c_5))).symm), ht⟩) (fun q h => by cases h) dX7_axleOf_31
  · refine lv_aload_n hx hb dX7_axleOf_22 rfl (lv_at hl 1 rfl) ?_
    refine lv_iload_n hx hb dX7_axleOf_23 rfl (lv_at hl 2 rfl) ?_
    refine tq_V (As := [.int x1]) (rest := []) (ws := (oh_W n a C)) ⟨hx, hb, hml, hown, htg⟩ (e_X7_isNothing l D E G a C n hn hT x1 (rg_w hx1 (by decide))) (cwV 1 htg (oh_gV q_1114 q_1116 q_32 q_73 q_1117) rfl rfl rfl pdVX7_isNothing ⟨Nat.le_of_ble_eq_true rfl, Nat.le_of_ble_eq_true rfl⟩) hK hP hG hS (va_recv hK hP (ci := 7) (q0 := 0) rfl (oh_wg (Nat.lt_of_lt_of_le (by decide) hn) (sM_0 hT))) rfl hl.1 rfl (Nat.le_of_ble_eq_true rfl) dX7_axleOf_24 ⟨Nat.le_of_ble_eq_true rfl, Nat.le_of_ble_eq_true rfl⟩ (fun r_6 hq_7 => ?_)
    refine lv_if_eq (tgt := 32) hx hb dX7_axleOf_27 (by decide) (fun (c_8 : r_6 = 0) => ?_) (fun (c_8 : ¬ (r_6 = 0)) => ?_)
    · refine lv_aload_n hx hb dX7_axleOf_32 rfl (lv_at hl 1 rfl) ?_
      refine va_get (D := D) (ci := 7) (v := .ref (a 10)) (C := RX7) (T := TX7) (N := 29) hx hb htg ig_7 hown hK hP 0 (oh_wg (Nat.lt_of_lt_of_le (by decide) hn) (sM_0 hT)) rfl 12 (by decide) (htg _ q_985) (fun _ h9 => h9) rfl dX7_axleOf_33 ?_
      refine lv_iload_n hx hb dX7_axleOf_36 rfl (lv_at hl 2 rfl) ?_
      have n_9 : vp_in x1 16 := (rg_in hx1 (by decide))
      have b_10 : (x1).toNatClampNeg < 16 := vp_lt n_9
      refine th_aald hx hb hK hP 10 2 (Nat.lt_of_lt_of_le (by decide) hn) (sM_10 hT) rfl n_9 dX7_axleOf_37 ?_
      refine lv_iconst (v := 3) hx hb dX7_axleOf_38 (by decide) ?_
      refine th_iald hx hb hK hP (48 + (x1).toNatClampNeg) (lt_blk b_10 hn (by decide)) (hT.bbridge b_10).1 (rg_in (rg_c (v := 3) (lo := 3) (hi := 3) (by decide)) (by decide)) dX7_axleOf_39 ?_
      refine lv_iload_n hx hb dX7_axleOf_40 rfl (lv_at hl 0 rfl) ?_
      refine lv_iconst (v := 2) hx hb dX7_axleOf_41 (by decide) ?_
      refine lv_icmp_ne (tgt := 49) hx hb dX7_axleOf_42 (by decide) (fun (c_11 : ¬ ((ga (C (48 + (x1).toNatClampNeg)) ((1 : Int32)).toNatClampNeg) = 2)) => ?_) (fun (c_11 : (ga (C (48 + (x1).toNatClampNeg)) ((1 : Int32)).toNatClampNeg) = 2) => ?_)
      · refine lv_iconst (v := 0) hx hb dX7_axleOf_49 (by decide) ?_
        refine lv_iadd hx hb dX7_axleOf_50 ?_
        refine lv_istore_n (lv' := [(3, .int ((ga (C (48 + (x1).toNatClampNeg)) ((3 : Int32)).toNatClampNeg) + 0)), (2, .int (ga (C (48 + (x1).toNatClampNeg)) ((1 : Int32)).toNatClampNeg)), (0, .ref (a 0)), (1, .int x1)]) hx hb dX7_axleOf_51 rfl hl (by decide) rfl (fun ls hl => ?_)
        refine lv_aload_n hx hb dX7_axleOf_52 rfl (lv_at hl 2 rfl) ?_
        refine lv_iload_n hx hb dX7_axleOf_53 rfl (lv_at hl 3 rfl) ?_
        refine tq_V (As := [.int x1]) (rest := []) (ws := (oh_W n a C)) ⟨hx, hb, hml, hown, htg⟩ (e_X7_isHalf l D E G a C n hn hT x1 (rg_w hx1 (by decide))) (cwV 1 htg (oh_gV q_1118 q_1120 q_33 q_73 q_1121) rfl rfl rfl pdVX7_isHalf ⟨Nat.le_of_ble_eq_true rfl, Nat.le_of_ble_eq_true rfl⟩) hK hP hG hS (va_recv hK hP (ci := 7) (q0 := 0) rfl (oh_wg (Nat.lt_of_lt_of_le (by decide) hn) (sM_0 hT))) rfl hl.1 rfl (Nat.le_of_ble_eq_true rfl) dX7_axleOf_54 ⟨Nat.le_of_ble_eq_true rfl, Nat.le_of_ble_eq_true rfl⟩ (fun r_12 hq_13 => ?_)
        refine lv_if_eq (tgt := 66) hx hb dX7_axleOf_57 (by decide) (fun (c_14 : r_12 = 0) => ?_) (fun (c_14 : ¬ (r_12 = 0)) => ?_)
        · refine lv_iload_n hx hb dX7_axleOf_66 rfl (lv_at hl 0 rfl) ?_
          rw [hQ]
          exact W.iret (v := (ga (C (48 + (x1).toNatClampNeg)) ((3 : Int32)).toNatClampNeg) + 0) hx hb hr (fun t ht hW => ⟨(ga (C (48 + (x1).toNatClampNeg)) ((3 : Int32)).toNatClampNeg) + 0, rfl, (fun hk => Eq.trans (show _ = belF (ga (C (48 + (x1).toNatClampNeg)) ((1 : Int32)).toNatClampNeg) (ga (C (48 + (x1).toNatClampNeg)) ((8 : Int32)).toNatClampNeg) (ga (C (48 + (x1).toNatClampNeg)) ((9 : Int32)).toNatClampNeg) (ga (C 13) ((2 : Int32)).toNatClampNeg) (ga (C (48 + (x1).toNatClampNeg)) ((3 : Int32)).toNatClampNeg + 0) from ((Eq.trans (pif_neg (fun h8 => h8.elim c_5 (fun h8 => absurd (Eq.trans (Eq.symm c_8) (hq_7.2.mpr h8)) (by decide)))) (pif_neg (fun h8 => absurd (Eq.trans (Eq.symm c_14) (hq_13.2.mpr ((hf_c hk).mpr h8))) (by decide))))).symm) (congrArg (belF (ga (C (48 + (x1).toNatClampNeg)) ((1 : Int32)).toNatClampNeg) (ga (C (48 + (x1).toNatClampNeg)) ((8 : Int32)).toNatClampNeg) (ga (C (48 + (x1).toNatClampNeg)) ((9 : Int32)).toNatClampNeg) (ga (C 13) ((2 : Int32)).toNatClampNeg)) (show _ = (ga (C (48 + (x1).toNatClampNeg)) ((3 : Int32)).toNatClampNeg + 0) from (Eq.trans (pif_neg c_11) (Int32.add_zero _).symm)).symm)), ht⟩) (fun q h => by cases h) dX7_axleOf_67
        · refine lv_iload_n hx hb dX7_axleOf_60 rfl (lv_at hl 0 rfl) ?_
          refine lv_iconst (v := 2) hx hb dX7_axleOf_61 (by decide) ?_
          refine lv_idiv hx hb dX7_axleOf_62 (by decide) ?_
          refine lv_goto (tgt := 67) hx hb dX7_axleOf_63 (by decide) ?_
          rw [hQ]
          exact W.iret (v := ((ga (C (48 + (x1).toNatClampNeg)) ((3 : Int32)).toNatClampNeg) + 0) / 2) hx hb hr (fun t ht hW => ⟨((ga (C (48 + (x1).toNatClampNeg)) ((3 : Int32)).toNatClampNeg) + 0) / 2, rfl, (fun hk => Eq.trans (show _ = belF (ga (C (48 + (x1).toNatClampNeg)) ((1 : Int32)).toNatClampNeg) (ga (C (48 + (x1).toNatClampNeg)) ((8 : Int32)).toNatClampNeg) (ga (C (48 + (x1).toNatClampNeg)) ((9 : Int32)).toNatClampNeg) (ga (C 13) ((2 : Int32)).toNatClampNeg) (ga (C (48 + (x1).toNatClampNeg)) ((3 : Int32)).toNatClampNeg + 0) from ((Eq.trans (pif_neg (fun h8 => h8.elim c_5 (fun h8 => absurd (Eq.trans (Eq.symm c_8) (hq_7.2.mpr h8)) (by decide)))) (pif_pos ((hf_c hk).mp (hq_13.2.mp (oh_b1 (rg_w (lo := 0) (hi := 1) (rn_nel (l' := 1) c_14 (oh_rgb hq_13.1) (rg_c (v := 0) (lo := 0) (hi := 0) (by decide)) (by decide)) (by decide)) c_14)))))).symm) (congrArg (belF (ga (C (48 + (x1).toNatClampNeg)) ((1 : Int32)).toNatClampNeg) (ga (C (48 + (x1).toNatClampNeg)) ((8 : Int32)).toNatClampNeg) (ga (C (48 + (x1).toNatClampNeg)) ((9 : Int32)).toNatClampNeg) (ga (C 13) ((2 : Int32)).toNatClampNeg)) (show _ = (ga (C (48 + (x1).toNatClampNeg)) ((3 : Int32)).toNatClampNeg + 0) from (Eq.trans (pif_neg c_11) (Int32.add_zero _).symm)).symm)), ht⟩) (fun q h => by cases h) dX7_axleOf_67
      · refine lv_iconst (v := 5) hx hb dX7_axleOf_45 (by decide) ?_
        refine lv_goto (tgt := 50) hx hb dX7_axleOf_46 (by decide) ?_
        refine lv_iadd hx hb dX7_axleOf_50 ?_
        refine lv_istore_n (lv' := [(3, .int ((ga (C (48 + (x1).toNatClampNeg)) ((3 : Int32)).toNatClampNeg) + 5)), (2, .int (ga (C (48 + (x1).toNatClampNeg)) ((1 : Int32)).toNatClampNeg)), (0, .ref (a 0)), (1, .int x1)]) hx hb dX7_axleOf_51 rfl hl (by decide) rfl (fun ls hl => ?_)
        refine lv_aload_n hx hb dX7_axleOf_52 rfl (lv_at hl 2 rfl) ?_
        refine lv_iload_n hx hb dX7_axleOf_53 rfl (lv_at hl 3 rfl) ?_
        refine tq_V (As := [.int x1]) (rest := []) (ws := (oh_W n a C)) ⟨hx, hb, hml, hown, htg⟩ (e_X7_isHalf l D E G a C n hn hT x1 (rg_w hx1 (by decide))) (cwV 1 htg (oh_gV q_1118 q_1120 q_33 q_73 q_1121) rfl rfl rfl pdVX7_isHalf ⟨Nat.le_of_ble_eq_true rfl, Nat.le_of_ble_eq_true rfl⟩) hK hP hG hS (va_recv hK hP (ci := 7) (q0 := 0) rfl (oh_wg (Nat.lt_of_lt_of_le (by decide) hn) (sM_0 hT))) rfl hl.1 rfl (Nat.le_of_ble_eq_true rfl) dX7_axleOf_54 ⟨Nat.le_of_ble_eq_true rfl, Nat.le_of_ble_eq_true rfl⟩ (fun r_15 hq_16 => ?_)
        refine lv_if_eq (tgt := 66) hx hb dX7_axleOf_57 (by decide) (fun (c_17 : r_15 = 0) => ?_) (fun (c_17 : ¬ (r_15 = 0)) => ?_)
        · refine lv_iload_n hx hb dX7_axleOf_66 rfl (lv_at hl 0 rfl) ?_
          rw [hQ]
          exact W.iret (v := (ga (C (48 + (x1).toNatClampNeg)) ((3 : Int32)).toNatClampNeg) + 5) hx hb hr (fun t ht hW => ⟨(ga (C (48 + (x1).toNatClampNeg)) ((3 : Int32)).toNatClampNeg) + 5, rfl, (fun hk => Eq.trans (show _ = belF (ga (C (48 + (x1).toNatClampNeg)) ((1 : Int32)).toNatClampNeg) (ga (C (48 + (x1).toNatClampNeg)) ((8 : Int32)).toNatClampNeg) (ga (C (48 + (x1).toNatClampNeg)) ((9 : Int32)).toNatClampNeg) (ga (C 13) ((2 : Int32)).toNatClampNeg) (ga (C (48 + (x1).toNatClampNeg)) ((3 : Int32)).toNatClampNeg + 5) from ((Eq.trans (pif_neg (fun h8 => h8.elim c_5 (fun h8 => absurd (Eq.trans (Eq.symm c_8) (hq_7.2.mpr h8)) (by decide)))) (pif_neg (fun h8 => absurd (Eq.trans (Eq.symm c_17) (hq_16.2.mpr ((hf_c hk).mpr h8))) (by decide))))).symm) (congrArg (belF (ga (C (48 + (x1).toNatClampNeg)) ((1 : Int32)).toNatClampNeg) (ga (C (48 + (x1).toNatClampNeg)) ((8 : Int32)).toNatClampNeg) (ga (C (48 + (x1).toNatClampNeg)) ((9 : Int32)).toNatClampNeg) (ga (C 13) ((2 : Int32)).toNatClampNeg)) (show _ = (ga (C (48 + (x1).toNatClampNeg)) ((3 : Int32)).toNatClampNeg + 5) from (pif_pos c_11)).symm)), ht⟩) (fun q h => by cases h) dX7_axleOf_67
        · refine lv_iload_n hx hb dX7_axleOf_60 rfl (lv_at hl 0 rfl) ?_
          refine lv_iconst (v := 2) hx hb dX7_axleOf_61 (by decide) ?_
          refine lv_idiv hx hb dX7_axleOf_62 (by decide) ?_
          refine lv_goto (tgt := 67) hx hb dX7_axleOf_63 (by decide) ?_
          rw [hQ]
          exact W.iret (v := ((ga (C (48 + (x1).toNatClampNeg)) ((3 : Int32)).toNatClampNeg) + 5) / 2) hx hb hr (fun t ht hW => ⟨((ga (C (48 + (x1).toNatClampNeg)) ((3 : Int32)).toNatClampNeg) + 5) / 2, rfl, (fun hk => Eq.trans (show _ = belF (ga (C (48 + (x1).toNatClampNeg)) ((1 : Int32)).toNatClampNeg) (ga (C (48 + (x1).toNatClampNeg)) ((8 : Int32)).toNatClampNeg) (ga (C (48 + (x1).toNatClampNeg)) ((9 : Int32)).toNatClampNeg) (ga (C 13) ((2 : Int32)).toNatClampNeg) (ga (C (48 + (x1).toNatClampNeg)) ((3 : Int32)).toNatClampNeg + 5) from ((Eq.trans (pif_neg (fun h8 => h8.elim c_5 (fun h8 => absurd (Eq.trans (Eq.symm c_8) (hq_7.2.mpr h8)) (by decide)))) (pif_pos ((hf_c hk).mp (hq_16.2.mp (oh_b1 (rg_w (lo := 0) (hi := 1) (rn_nel (l' := 1) c_17 (oh_rgb hq_16.1) (rg_c (v := 0) (lo := 0) (hi := 0) (by decide)) (by decide)) (by decide)) c_17)))))).symm) (congrArg (belF (ga (C (48 + (x1).toNatClampNeg)) ((1 : Int32)).toNatClampNeg) (ga (C (48 + (x1).toNatClampNeg)) ((8 : Int32)).toNatClampNeg) (ga (C (48 + (x1).toNatClampNeg)) ((9 : Int32)).toNatClampNeg) (ga (C 13) ((2 : Int32)).toNatClampNeg)) (show _ = (ga (C (48 + (x1).toNatClampNeg)) ((3 : Int32)).toNatClampNeg + 5) from (pif_pos c_11)).symm)), ht⟩) (fun q h => by cases h) dX7_axleOf_67
    · refine lv_iconst (v := 0) hx hb dX7_axleOf_30 (by decide) ?_
      rw [hQ]
      exact W.iret (v := 0) hx hb hr (fun t ht hW => ⟨0, rfl, (fun hk => ((pif_pos (Or.inr (hq_7.2.mp (oh_b1 (rg_w (lo := 0) (hi := 1) (rn_nel (l' := 1) c_8 (oh_rgb hq_7.1) (rg_c (v := 0) (lo := 0) (hi := 0) (by decide)) (by decide)) (by decide)) c_8))))).symm), ht⟩) (fun q h => by cases h) dX7_axleOf_31

set_option maxHeartbeats 4000000 in
set_option maxRecDepth 100000 in
theorem e_X7_allOf (l : Launch) (D : va_G) (E : Nat → ClassId) (G : Nat → Nat) (a : Nat → Nat) (C : Nat → va_E) (n : Nat) (hn : 74 ≤ n) (hT : TyM a E C) (x1 : Int32) (x2 : Int32) (hx1 : rg x1 0 15) (hx2 : rg x2 0 1) : Met l yX7_allOf (oh_w yX7_allOf cX7_allOf 5 (some .int)) ({ frames := 1, cells := 0, slots := 0, locals := 21 }) (oh_Pp D E G [.ref (a 0), .int x1, .int x2] (oh_W n a C)) (vp_Si (fun r => ((ga (C (48 + (x1).toNatClampNeg)) ((1 : Int32)).toNatClampNeg).toInt ≤ 5 → rg (ga (C (48 + (x1).toNatClampNeg)) ((8 : Int32)).toNatClampNeg) 0 1 → r = bAlF (x2 = 1) (ga (C (48 + (x1).toNatClampNeg)) ((1 : Int32)).toNatClampNeg) (ga (C (48 + (x1).toNatClampNeg)) ((4 : Int32)).toNatClampNeg) (ga (C (48 + (x1).toNatClampNeg)) ((5 : Int32)).toNatClampNeg) (ga (C (48 + (x1).toNatClampNeg)) ((8 : Int32)).toNatClampNeg) (ga (C (48 + (x1).toNatClampNeg)) ((9 : Int32)).toNatClampNeg) (ga (C 13) ((2 : Int32)).toNatClampNeg)))) 0 0 (fun _ => False) := by
  refine Met.ofW (cc := cX7_allOf) (maxL := 5) (ret := (some .int)) (by decide) rfl ?_
  intro p e s m args below meth c s₁ B hml hv
  obtain ⟨rfl, hP, hK, hG⟩ := hv
  have hx := B.exec
  have hb := B.bytes
  have hr := B.returns
  have hts := atoms_spec (ws := (oh_w yX7_allOf cX7_allOf 5 (some .int))) B.pre
  have htg : ∀ w ∈ oh_t, w.before _ s = true := fun w h => hts w (List.mem_cons_of_mem _ h)
  have hown : s.vm.findClass RX7 = some m.cls := findClass_of_methodNamed B.named
  have hlocks := B.notSynchronized
  have hT0 := hT
  have hS : va_S (fun _ => False) s.heap s.heap [] := va_S.rf
  have hl := lv_entry ([.ref (a 0), .int x1, .int x2]) (n := 5) (Nat.le_of_ble_eq_true rfl)
  rw [lg_entry_eq]
  generalize (lg_sl ([.ref (a 0), .int x1, .int x2]) ++ List.replicate (5 - (lg_sl ([.ref (a 0), .int x1, .int x2])).length) Slot.unset).toArray = ls at hl ⊢
  have hl : lv_has ls 5 [(0, .ref (a 0)), (1, .int x1), (2, .int x2)] := hl
  refine oh_genQ (fun Q hQ => ?_)
  refine lv_aload_n hx hb dX7_allOf_0 rfl (lv_at hl 0 rfl) ?_
  refine va_get (D := D) (ci := 7) (v := .ref (a 10)) (C := RX7) (T := TX7) (N := 29) hx hb htg ig_7 hown hK hP 0 (oh_wg (Nat.lt_of_lt_of_le (by decide) hn) (sM_0 hT)) rfl 12 (by decide) (htg _ q_985) (fun _ h9 => h9) rfl dX7_allOf_1 ?_
  refine lv_iload_n hx hb dX7_allOf_4 rfl (lv_at hl 1 rfl) ?_
  have n_1 : vp_in x1 16 := (rg_in hx1 (by decide))
  have b_2 : (x1).toNatClampNeg < 16 := vp_lt n_1
  refine th_aald hx hb hK hP 10 2 (Nat.lt_of_lt_of_le (by decide) hn) (sM_10 hT) rfl n_1 dX7_allOf_5 ?_
  refine lv_iconst (v := 1) hx hb dX7_allOf_6 (by decide) ?_
  refine th_iald hx hb hK hP (48 + (x1).toNatClampNeg) (lt_blk b_2 hn (by decide)) (hT.bbridge b_2).1 (rg_in (rg_c (v := 1) (lo := 1) (hi := 1) (by decide)) (by decide)) dX7_allOf_7 ?_
  refine lv_istore_n (lv' := [(3, .int (ga (C (48 + (x1).toNatClampNeg)) ((1 : Int32)).toNatClampNeg)), (0, .ref (a 0)), (1, .int x1), (2, .int x2)]) hx hb dX7_allOf_8 rfl hl (by decide) rfl (fun ls hl => ?_)
  refine lv_aload_n hx hb dX7_allOf_9 rfl (lv_at hl 1 rfl) ?_
  refine va_get (D := D) (ci := 7) (v := .ref (a 10)) (C := RX7) (T := TX7) (N := 29) hx hb htg ig_7 hown hK hP 0 (oh_wg (Nat.lt_of_lt_of_le (by decide) hn) (sM_0 hT)) rfl 12 (by decide) (htg _ q_985) (fun _ h9 => h9) rfl dX7_allOf_10 ?_
  refine lv_iload_n hx hb dX7_allOf_13 rfl (lv_at hl 2 rfl) ?_
  have n_3 : vp_in x1 16 := (rg_in hx1 (by decide))
  have b_4 : (x1).toNatClampNeg < 16 := vp_lt n_3
  refine th_aald hx hb hK hP 10 2 (Nat.lt_of_lt_of_le (by decide) hn) (sM_10 hT) rfl n_3 dX7_allOf_14 ?_
  refine lv_bipush (v := 8) hx hb dX7_allOf_15 (by decide) ?_
  refine th_iald hx hb hK hP (48 + (x1).toNatClampNeg) (lt_blk b_4 hn (by decide)) (hT.bbridge b_4).1 (rg_in (rg_c (v := 8) (lo := 8) (hi := 8) (by decide)) (by decide)) dX7_allOf_17 ?_
  refine lv_iconst (v := 1) hx hb dX7_allOf_18 (by decide) ?_
  refine lv_icmp_ne (tgt := 24) hx hb dX7_allOf_19 (by decide) (fun (c_5 : ¬ ((ga (C (48 + (x1).toNatClampNeg)) ((8 : Int32)).toNatClampNeg) = 1)) => ?_) (fun (c_5 : (ga (C (48 + (x1).toNatClampNeg)) ((8 : Int32)).toNatClampNeg) = 1) => ?_)
  · refine lv_aload_n hx hb dX7_allOf_24 rfl (lv_at hl 1 rfl) ?_
    refine va_get (D := D) (ci := 7) (v := .ref (a 10)) (C := RX7) (T := TX7) (N := 29) hx hb htg ig_7 hown hK hP 0 (oh_wg (Nat.lt_of_lt_of_le (by decide) hn) (sM_0 hT)) rfl 12 (by decide) (htg _ q_985) (fun _ h9 => h9) rfl dX7_allOf_25 ?_
    refine lv_iload_n hx hb dX7_allOf_28 rfl (lv_at hl 2 rfl) ?_
    have n_6 : vp_in x1 16 := (rg_in hx1 (by decide))
    have b_7 : (x1).toNatClampNeg < 16 := vp_lt n_6
    refine th_aald hx hb hK hP 10 2 (Nat.lt_of_lt_of_le (by decide) hn) (sM_10 hT) rfl n_6 dX7_allOf_29 ?_
    refine lv_iconst (v := 4) hx hb dX7_allOf_30 (by decide) ?_
    refine th_iald hx hb hK hP (48 + (x1).toNatClampNeg) (lt_blk b_7 hn (by decide)) (hT.bbridge b_7).1 (rg_in (rg_c (v := 4) (lo := 4) (hi := 4) (by decide)) (by decide)) dX7_allOf_31 ?_
    refine lv_istore (lv' := [(4, .int (ga (C (48 + (x1).toNatClampNeg)) ((4 : Int32)).toNatClampNeg)), (3, .int (ga (C (48 + (x1).toNatClampNeg)) ((1 : Int32)).toNatClampNeg)), (0, .ref (a 0)), (1, .int x1), (2, .int x2)]) hx hb dX7_allOf_32 hl (by decide) rfl (fun ls hl => ?_)
    refine lv_iload hx hb dX7_allOf_34 (lv_at hl 0 rfl) ?_
    refine lv_iload_n hx hb dX7_allOf_36 rfl (lv_at hl 1 rfl) ?_
    refine lv_iconst (v := 1) hx hb dX7_allOf_37 (by decide) ?_
    refine lv_icmp_eq (tgt := 46) hx hb dX7_allOf_38 (by decide) (fun (c_8 : (ga (C (48 + (x1).toNatClampNeg)) ((1 : Int32)).toNatClampNeg) = 1) => ?_) (fun (c_8 : ¬ ((ga (C (48 + (x1).toNatClampNeg)) ((1 : Int32)).toNatClampNeg) = 1)) => ?_)
    · refine lv_iload hx hb dX7_allOf_46 (lv_at hl 0 rfl) ?_
      refine lv_bipush (v := 10) hx hb dX7_allOf_48 (by decide) ?_
      refine lv_idiv hx hb dX7_allOf_50 (by decide) ?_
      refine lv_goto (tgt := 55) hx hb dX7_allOf_51 (by decide) ?_
      refine lv_iadd hx hb dX7_allOf_55 ?_
      refine lv_istore (lv' := [(4, .int ((ga (C (48 + (x1).toNatClampNeg)) ((4 : Int32)).toNatClampNeg) + ((ga (C (48 + (x1).toNatClampNeg)) ((4 : Int32)).toNatClampNeg) / 10))), (3, .int (ga (C (48 + (x1).toNatClampNeg)) ((1 : Int32)).toNatClampNeg)), (0, .ref (a 0)), (1, .int x1), (2, .int x2)]) hx hb dX7_allOf_56 hl (by decide) rfl (fun ls hl => ?_)
      refine lv_aload_n hx hb dX7_allOf_58 rfl (lv_at hl 2 rfl) ?_
      refine lv_iload_n hx hb dX7_allOf_59 rfl (lv_at hl 3 rfl) ?_
      refine tq_V (As := [.int x1]) (rest := []) (ws := (oh_W n a C)) ⟨hx, hb, hml, hown, htg⟩ (e_X7_isNothing l D E G a C n hn hT x1 (rg_w hx1 (by decide))) (cwV 1 htg (oh_gV q_1114 q_1116 q_32 q_73 q_1117) rfl rfl rfl pdVX7_isNothing ⟨Nat.le_of_ble_eq_true rfl, Nat.le_of_ble_eq_true rfl⟩) hK hP hG hS (va_recv hK hP (ci := 7) (q0 := 0) rfl (oh_wg (Nat.lt_of_lt_of_le (by decide) hn) (sM_0 hT))) rfl hl.1 rfl (Nat.le_of_ble_eq_true rfl) dX7_allOf_60 ⟨Nat.le_of_ble_eq_true rfl, Nat.le_of_ble_eq_true rfl⟩ (fun r_9 hq_10 => ?_)
      refine lv_if_eq (tgt := 70) hx hb dX7_allOf_63 (by decide) (fun (c_11 : r_9 = 0) => ?_) (fun (c_11 : ¬ (r_9 = 0)) => ?_)
      · refine lv_aload_n hx hb dX7_allOf_70 rfl (lv_at hl 2 rfl) ?_
        refine lv_iload_n hx hb dX7_allOf_71 rfl (lv_at hl 3 rfl) ?_
        refine tq_V (As := [.int x1]) (rest := []) (ws := (oh_W n a C)) ⟨hx, hb, hml, hown, htg⟩ (e_X7_isHalf l D E G a C n hn hT x1 (rg_w hx1 (by decide))) (cwV 1 htg (oh_gV q_1118 q_1120 q_33 q_73 q_1121) rfl rfl rfl pdVX7_isHalf ⟨Nat.le_of_ble_eq_true rfl, Nat.le_of_ble_eq_true rfl⟩) hK hP hG hS (va_recv hK hP (ci := 7) (q0 := 0) rfl (oh_wg (Nat.lt_of_lt_of_le (by decide) hn) (sM_0 hT))) rfl hl.1 rfl (Nat.le_of_ble_eq_true rfl) dX7_allOf_72 ⟨Nat.le_of_ble_eq_true rfl, Nat.le_of_ble_eq_true rfl⟩ (fun r_12 hq_13 => ?_)
        refine lv_if_eq (tgt := 85) hx hb dX7_allOf_75 (by decide) (fun (c_14 : r_12 = 0) => ?_) (fun (c_14 : ¬ (r_12 = 0)) => ?_)
        · refine lv_iload hx hb dX7_allOf_85 (lv_at hl 0 rfl) ?_
          refine lv_istore (lv' := [(4, .int ((ga (C (48 + (x1).toNatClampNeg)) ((4 : Int32)).toNatClampNeg) + ((ga (C (48 + (x1).toNatClampNeg)) ((4 : Int32)).toNatClampNeg) / 10))), (3, .int (ga (C (48 + (x1).toNatClampNeg)) ((1 : Int32)).toNatClampNeg)), (0, .ref (a 0)), (1, .int x1), (2, .int x2)]) hx hb dX7_allOf_87 hl (by decide) rfl (fun ls hl => ?_)
          refine lv_iload hx hb dX7_allOf_89 (lv_at hl 0 rfl) ?_
          refine lv_iload_n hx hb dX7_allOf_91 rfl (lv_at hl 4 rfl) ?_
          refine lv_if_eq (tgt := 106) hx hb dX7_allOf_92 (by decide) (fun (c_15 : x2 = 0) => ?_) (fun (c_15 : ¬ (x2 = 0)) => ?_)
          · refine lv_iconst (v := 0) hx hb dX7_allOf_106 (by decide) ?_
            refine lv_iadd hx hb dX7_allOf_107 ?_
            rw [hQ]
            exact W.iret (v := ((ga (C (48 + (x1).toNatClampNeg)) ((4 : Int32)).toNatClampNeg) + ((ga (C (48 + (x1).toNatClampNeg)) ((4 : Int32)).toNatClampNeg) / 10)) + 0) hx hb hr (fun t ht hW => ⟨((ga (C (48 + (x1).toNatClampNeg)) ((4 : Int32)).toNatClampNeg) + ((ga (C (48 + (x1).toNatClampNeg)) ((4 : Int32)).toNatClampNeg) / 10)) + 0, rfl, (fun hk hf => Eq.trans (Eq.trans (Int32.add_zero _) (show (ga (C (48 + (x1).toNatClampNeg)) ((4 : Int32)).toNatClampNeg + ga (C (48 + (x1).toNatClampNeg)) ((4 : Int32)).toNatClampNeg / 10) = bUnF (ga (C (48 + (x1).toNatClampNeg)) ((1 : Int32)).toNatClampNeg) (ga (C (48 + (x1).toNatClampNeg)) ((4 : Int32)).toNatClampNeg) (ga (C (48 + (x1).toNatClampNeg)) ((8 : Int32)).toNatClampNeg) (ga (C (48 + (x1).toNatClampNeg)) ((9 : Int32)).toNatClampNeg) (ga (C 13) ((2 : Int32)).toNatClampNeg) from Eq.trans (show _ = belF (ga (C (48 + (x1).toNatClampNeg)) ((1 : Int32)).toNatClampNeg) (ga (C (48 + (x1).toNatClampNeg)) ((8 : Int32)).toNatClampNeg) (ga (C (48 + (x1).toNatClampNeg)) ((9 : Int32)).toNatClampNeg) (ga (C 13) ((2 : Int32)).toNatClampNeg) (ga (C (48 + (x1).toNatClampNeg)) ((4 : Int32)).toNatClampNeg + ga (C (48 + (x1).toNatClampNeg)) ((4 : Int32)).toNatClampNeg / 10) from ((Eq.trans (pif_neg (fun h8 => h8.elim c_5 (fun h8 => absurd (Eq.trans (Eq.symm c_11) (hq_10.2.mpr h8)) (by decide)))) (pif_neg (fun h8 => absurd (Eq.trans (Eq.symm c_14) (hq_13.2.mpr ((hf_c hk).mpr h8))) (by decide))))).symm) (congrArg (belF (ga (C (48 + (x1).toNatClampNeg)) ((1 : Int32)).toNatClampNeg) (ga (C (48 + (x1).toNatClampNeg)) ((8 : Int32)).toNatClampNeg) (ga (C (48 + (x1).toNatClampNeg)) ((9 : Int32)).toNatClampNeg) (ga (C 13) ((2 : Int32)).toNatClampNeg)) (show _ = (ga (C (48 + (x1).toNatClampNeg)) ((4 : Int32)).toNatClampNeg + ga (C (48 + (x1).toNatClampNeg)) ((4 : Int32)).toNatClampNeg / 10) from (pif_pos (Or.inl c_8))).symm))) (pif_neg (fun h8 => absurd (Eq.trans (Eq.symm c_15) h8.1) (by decide))).symm), ht⟩) (fun q h => by cases h) dX7_allOf_108
          · refine lv_aload_n hx hb dX7_allOf_95 rfl (lv_at hl 2 rfl) ?_
            refine va_get (D := D) (ci := 7) (v := .ref (a 10)) (C := RX7) (T := TX7) (N := 29) hx hb htg ig_7 hown hK hP 0 (oh_wg (Nat.lt_of_lt_of_le (by decide) hn) (sM_0 hT)) rfl 12 (by decide) (htg _ q_985) (fun _ h9 => h9) rfl dX7_allOf_96 ?_
            refine lv_iload_n hx hb dX7_allOf_99 rfl (lv_at hl 3 rfl) ?_
            have n_16 : vp_in x1 16 := (rg_in hx1 (by decide))
            have b_17 : (x1).toNatClampNeg < 16 := vp_lt n_16
            refine th_aald hx hb hK hP 10 2 (Nat.lt_of_lt_of_le (by decide) hn) (sM_10 hT) rfl n_16 dX7_allOf_100 ?_
            refine lv_iconst (v := 5) hx hb dX7_allOf_101 (by decide) ?_
            refine th_iald hx hb hK hP (48 + (x1).toNatClampNeg) (lt_blk b_17 hn (by decide)) (hT.bbridge b_17).1 (rg_in (rg_c (v := 5) (lo := 5) (hi := 5) (by decide)) (by decide)) dX7_allOf_102 ?_
            refine lv_goto (tgt := 107) hx hb dX7_allOf_103 (by decide) ?_
            refine lv_iadd hx hb dX7_allOf_107 ?_
            rw [hQ]
            exact W.iret (v := ((ga (C (48 + (x1).toNatClampNeg)) ((4 : Int32)).toNatClampNeg) + ((ga (C (48 + (x1).toNatClampNeg)) ((4 : Int32)).toNatClampNeg) / 10)) + (ga (C (48 + (x1).toNatClampNeg)) ((5 : Int32)).toNatClampNeg)) hx hb hr (fun t ht hW => ⟨((ga (C (48 + (x1).toNatClampNeg)) ((4 : Int32)).toNatClampNeg) + ((ga (C (48 + (x1).toNatClampNeg)) ((4 : Int32)).toNatClampNeg) / 10)) + (ga (C (48 + (x1).toNatClampNeg)) ((5 : Int32)).toNatClampNeg), rfl, (fun hk hf => Eq.trans (congrArg (fun z => z + ga (C (48 + (x1).toNatClampNeg)) ((5 : Int32)).toNatClampNeg) (show (ga (C (48 + (x1).toNatClampNeg)) ((4 : Int32)).toNatClampNeg + ga (C (48 + (x1).toNatClampNeg)) ((4 : Int32)).toNatClampNeg / 10) = bUnF (ga (C (48 + (x1).toNatClampNeg)) ((1 : Int32)).toNatClampNeg) (ga (C (48 + (x1).toNatClampNeg)) ((4 : Int32)).toNatClampNeg) (ga (C (48 + (x1).toNatClampNeg)) ((8 : Int32)).toNatClampNeg) (ga (C (48 + (x1).toNatClampNeg)) ((9 : Int32)).toNatClampNeg) (ga (C 13) ((2 : Int32)).toNatClampNeg) from Eq.trans (show _ = belF (ga (C (48 + (x1).toNatClampNeg)) ((1 : Int32)).toNatClampNeg) (ga (C (48 + (x1).toNatClampNeg)) ((8 : Int32)).toNatClampNeg) (ga (C (48 + (x1).toNatClampNeg)) ((9 : Int32)).toNatClampNeg) (ga (C 13) ((2 : Int32)).toNatClampNeg) (ga (C (48 + (x1).toNatClampNeg)) ((4 : Int32)).toNatClampNeg + ga (C (48 + (x1).toNatClampNeg)) ((4 : Int32)).toNatClampNeg / 10) from ((Eq.trans (pif_neg (fun h8 => h8.elim c_5 (fun h8 => absurd (Eq.trans (Eq.symm c_11) (hq_10.2.mpr h8)) (by decide)))) (pif_neg (fun h8 => absurd (Eq.trans (Eq.symm c_14) (hq_13.2.mpr ((hf_c hk).mpr h8))) (by decide))))).symm) (congrArg (belF (ga (C (48 + (x1).toNatClampNeg)) ((1 : Int32)).toNatClampNeg) (ga (C (48 + (x1).toNatClampNeg)) ((8 : Int32)).toNatClampNeg) (ga (C (48 + (x1).toNatClampNeg)) ((9 : Int32)).toNatClampNeg) (ga (C 13) ((2 : Int32)).toNatClampNeg)) (show _ = (ga (C (48 + (x1).toNatClampNeg)) ((4 : Int32)).toNatClampNeg + ga (C (48 + (x1).toNatClampNeg)) ((4 : Int32)).toNatClampNeg / 10) from (pif_pos (Or.inl c_8))).symm))) (pif_pos ⟨oh_b1 hx2 c_15, (rg01 hf c_5)⟩).symm), ht⟩) (fun q h => by cases h) dX7_allOf_108
        · refine lv_iload hx hb dX7_allOf_78 (lv_at hl 0 rfl) ?_
          refine lv_iconst (v := 2) hx hb dX7_allOf_80 (by decide) ?_
          refine lv_idiv hx hb dX7_allOf_81 (by decide) ?_
          refine lv_goto (tgt := 87) hx hb dX7_allOf_82 (by decide) ?_
          refine lv_istore (lv' := [(4, .int (((ga (C (48 + (x1).toNatClampNeg)) ((4 : Int32)).toNatClampNeg) + ((ga (C (48 + (x1).toNatClampNeg)) ((4 : Int32)).toNatClampNeg) / 10)) / 2)), (3, .int (ga (C (48 + (x1).toNatClampNeg)) ((1 : Int32)).toNatClampNeg)), (0, .ref (a 0)), (1, .int x1), (2, .int x2)]) hx hb dX7_allOf_87 hl (by decide) rfl (fun ls hl => ?_)
          refine lv_iload hx hb dX7_allOf_89 (lv_at hl 0 rfl) ?_
          refine lv_iload_n hx hb dX7_allOf_91 rfl (lv_at hl 4 rfl) ?_
          refine lv_if_eq (tgt := 106) hx hb dX7_allOf_92 (by decide) (fun (c_18 : x2 = 0) => ?_) (fun (c_18 : ¬ (x2 = 0)) => ?_)
          · refine lv_iconst (v := 0) hx hb dX7_allOf_106 (by decide) ?_
            refine lv_iadd hx hb dX7_allOf_107 ?_
            rw [hQ]
            exact W.iret (v := (((ga (C (48 + (x1).toNatClampNeg)) ((4 : Int32)).toNatClampNeg) + ((ga (C (48 + (x1).toNatClampNeg)) ((4 : Int32)).toNatClampNeg) / 10)) / 2) + 0) hx hb hr (fun t ht hW => ⟨(((ga (C (48 + (x1).toNatClampNeg)) ((4 : Int32)).toNatClampNeg) + ((ga (C (48 + (x1).toNatClampNeg)) ((4 : Int32)).toNatClampNeg) / 10)) / 2) + 0, rfl, (fun hk hf => Eq.trans (Eq.trans (Int32.add_zero _) (show ((ga (C (48 + (x1).toNatClampNeg)) ((4 : Int32)).toNatClampNeg + ga (C (48 + (x1).toNatClampNeg)) ((4 : Int32)).toNatClampNeg / 10) / 2) = bUnF (ga (C (48 + (x1).toNatClampNeg)) ((1 : Int32)).toNatClampNeg) (ga (C (48 + (x1).toNatClampNeg)) ((4 : Int32)).toNatClampNeg) (ga (C (48 + (x1).toNatClampNeg)) ((8 : Int32)).toNatClampNeg) (ga (C (48 + (x1).toNatClampNeg)) ((9 : Int32)).toNatClampNeg) (ga (C 13) ((2 : Int32)).toNatClampNeg) from Eq.trans (show _ = belF (ga (C (48 + (x1).toNatClampNeg)) ((1 : Int32)).toNatClampNeg) (ga (C (48 + (x1).toNatClampNeg)) ((8 : Int32)).toNatClampNeg) (ga (C (48 + (x1).toNatClampNeg)) ((9 : Int32)).toNatClampNeg) (ga (C 13) ((2 : Int32)).toNatClampNeg) (ga (C (48 + (x1).toNatClampNeg)) ((4 : Int32)).toNatClampNeg + ga (C (48 + (x1).toNatClampNeg)) ((4 : Int32)).toNatClampNeg / 10) from ((Eq.trans (pif_neg (fun h8 => h8.elim c_5 (fun h8 => absurd (Eq.trans (Eq.symm c_11) (hq_10.2.mpr h8)) (by decide)))) (pif_pos ((hf_c hk).mp (hq_13.2.mp (oh_b1 (rg_w (lo := 0) (hi := 1) (rn_nel (l' := 1) c_14 (oh_rgb hq_13.1) (rg_c (v := 0) (lo := 0) (hi := 0) (by decide)) (by decide)) (by decide)) c_14)))))).symm) (congrArg (belF (ga (C (48 + (x1).toNatClampNeg)) ((1 : Int32)).toNatClampNeg) (ga (C (48 + (x1).toNatClampNeg)) ((8 : Int32)).toNatClampNeg) (ga (C (48 + (x1).toNatClampNeg)) ((9 : Int32)).toNatClampNeg) (ga (C 13) ((2 : Int32)).toNatClampNeg)) (show _ = (ga (C (48 + (x1).toNatClampNeg)) ((4 : Int32)).toNatClampNeg + ga (C (48 + (x1).toNatClampNeg)) ((4 : Int32)).toNatClampNeg / 10) from (pif_pos (Or.inl c_8))).symm))) (pif_neg (fun h8 => absurd (Eq.trans (Eq.symm c_18) h8.1) (by decide))).symm), ht⟩) (fun q h => by cases h) dX7_allOf_108
          · refine lv_aload_n hx hb dX7_allOf_95 rfl (lv_at hl 2 rfl) ?_
            refine va_get (D := D) (ci := 7) (v := .ref (a 10)) (C := RX7) (T := TX7) (N := 29) hx hb htg ig_7 hown hK hP 0 (oh_wg (Nat.lt_of_lt_of_le (by decide) hn) (sM_0 hT)) rfl 12 (by decide) (htg _ q_985) (fun _ h9 => h9) rfl dX7_allOf_96 ?_
            refine lv_iload_n hx hb dX7_allOf_99 rfl (lv_at hl 3 rfl) ?_
            have n_19 : vp_in x1 16 := (rg_in hx1 (by decide))
            have b_20 : (x1).toNatClampNeg < 16 := vp_lt n_19
            refine th_aald hx hb hK hP 10 2 (Nat.lt_of_lt_of_le (by decide) hn) (sM_10 hT) rfl n_19 dX7_allOf_100 ?_
            refine lv_iconst (v := 5) hx hb dX7_allOf_101 (by decide) ?_
            refine th_iald hx hb hK hP (48 + (x1).toNatClampNeg) (lt_blk b_20 hn (by decide)) (hT.bbridge b_20).1 (rg_in (rg_c (v := 5) (lo := 5) (hi := 5) (by decide)) (by decide)) dX7_allOf_102 ?_
            refine lv_goto (tgt := 107) hx hb dX7_allOf_103 (by decide) ?_
            refine lv_iadd hx hb dX7_allOf_107 ?_
            rw [hQ]
            exact W.iret (v := (((ga (C (48 + (x1).toNatClampNeg)) ((4 : Int32)).toNatClampNeg) + ((ga (C (48 + (x1).toNatClampNeg)) ((4 : Int32)).toNatClampNeg) / 10)) / 2) + (ga (C (48 + (x1).toNatClampNeg)) ((5 : Int32)).toNatClampNeg)) hx hb hr (fun t ht hW => ⟨(((ga (C (48 + (x1).toNatClampNeg)) ((4 : Int32)).toNatClampNeg) + ((ga (C (48 + (x1).toNatClampNeg)) ((4 : Int32)).toNatClampNeg) / 10)) / 2) + (ga (C (48 + (x1).toNatClampNeg)) ((5 : Int32)).toNatClampNeg), rfl, (fun hk hf => Eq.trans (congrArg (fun z => z + ga (C (48 + (x1).toNatClampNeg)) ((5 : Int32)).toNatClampNeg) (show ((ga (C (48 + (x1).toNatClampNeg)) ((4 : Int32)).toNatClampNeg + ga (C (48 + (x1).toNatClampNeg)) ((4 : Int32)).toNatClampNeg / 10) / 2) = bUnF (ga (C (48 + (x1).toNatClampNeg)) ((1 : Int32)).toNatClampNeg) (ga (C (48 + (x1).toNatClampNeg)) ((4 : Int32)).toNatClampNeg) (ga (C (48 + (x1).toNatClampNeg)) ((8 : Int32)).toNatClampNeg) (ga (C (48 + (x1).toNatClampNeg)) ((9 : Int32)).toNatClampNeg) (ga (C 13) ((2 : Int32)).toNatClampNeg) from Eq.trans (show _ = belF (ga (C (48 + (x1).toNatClampNeg)) ((1 : Int32)).toNatClampNeg) (ga (C (48 + (x1).toNatClampNeg)) ((8 : Int32)).toNatClampNeg) (ga (C (48 + (x1).toNatClampNeg)) ((9 : Int32)).toNatClampNeg) (ga (C 13) ((2 : Int32)).toNatClampNeg) (ga (C (48 + (x1).toNatClampNeg)) ((4 : Int32)).toNatClampNeg + ga (C (48 + (x1).toNatClampNeg)) ((4 : Int32)).toNatClampNeg / 10) from ((Eq.trans (pif_neg (fun h8 => h8.elim c_5 (fun h8 => absurd (Eq.trans (Eq.symm c_11) (hq_10.2.mpr h8)) (by decide)))) (pif_pos ((hf_c hk).mp (hq_13.2.mp (oh_b1 (rg_w (lo := 0) (hi := 1) (rn_nel (l' := 1) c_14 (oh_rgb hq_13.1) (rg_c (v := 0) (lo := 0) (hi := 0) (by decide)) (by decide)) (by decide)) c_14)))))).symm) (congrArg (belF (ga (C (48 + (x1).toNatClampNeg)) ((1 : Int32)).toNatClampNeg) (ga (C (48 + (x1).toNatClampNeg)) ((8 : Int32)).toNatClampNeg) (ga (C (48 + (x1).toNatClampNeg)) ((9 : Int32)).toNatClampNeg) (ga (C 13) ((2 : Int32)).toNatClampNeg)) (show _ = (ga (C (48 + (x1).toNatClampNeg)) ((4 : Int32)).toNatClampNeg + ga (C (48 + (x1).toNatClampNeg)) ((4 : Int32)).toNatClampNeg / 10) from (pif_pos (Or.inl c_8))).symm))) (pif_pos ⟨oh_b1 hx2 c_18, (rg01 hf c_5)⟩).symm), ht⟩) (fun q h => by cases h) dX7_allOf_108
      · refine lv_iconst (v := 0) hx hb dX7_allOf_66 (by decide) ?_
        refine lv_goto (tgt := 87) hx hb dX7_allOf_67 (by decide) ?_
        refine lv_istore (lv' := [(4, .int 0), (3, .int (ga (C (48 + (x1).toNatClampNeg)) ((1 : Int32)).toNatClampNeg)), (0, .ref (a 0)), (1, .int x1), (2, .int x2)]) hx hb dX7_allOf_87 hl (by decide) rfl (fun ls hl => ?_)
        refine lv_iload hx hb dX7_allOf_89 (lv_at hl 0 rfl) ?_
        refine lv_iload_n hx hb dX7_allOf_91 rfl (lv_at hl 4 rfl) ?_
        refine lv_if_eq (tgt := 106) hx hb dX7_allOf_92 (by decide) (fun (c_21 : x2 = 0) => ?_) (fun (c_21 : ¬ (x2 = 0)) => ?_)
        · refine lv_iconst (v := 0) hx hb dX7_allOf_106 (by decide) ?_
          refine lv_iadd hx hb dX7_allOf_107 ?_
          refine oh_nrm (v := 0) (by decide) ?_
          rw [hQ]
          exact W.iret (v := 0) hx hb hr (fun t ht hW => ⟨0, rfl, (fun hk hf => Eq.trans (Eq.trans rfl (show 0 = bUnF (ga (C (48 + (x1).toNatClampNeg)) ((1 : Int32)).toNatClampNeg) (ga (C (48 + (x1).toNatClampNeg)) ((4 : Int32)).toNatClampNeg) (ga (C (48 + (x1).toNatClampNeg)) ((8 : Int32)).toNatClampNeg) (ga (C (48 + (x1).toNatClampNeg)) ((9 : Int32)).toNatClampNeg) (ga (C 13) ((2 : Int32)).toNatClampNeg) from Eq.trans (show _ = belF (ga (C (48 + (x1).toNatClampNeg)) ((1 : Int32)).toNatClampNeg) (ga (C (48 + (x1).toNatClampNeg)) ((8 : Int32)).toNatClampNeg) (ga (C (48 + (x1).toNatClampNeg)) ((9 : Int32)).toNatClampNeg) (ga (C 13) ((2 : Int32)).toNatClampNeg) (ga (C (48 + (x1).toNatClampNeg)) ((4 : Int32)).toNatClampNeg + ga (C (48 + (x1).toNatClampNeg)) ((4 : Int32)).toNatClampNeg / 10) from ((pif_pos (Or.inr (hq_10.2.mp (oh_b1 (rg_w (lo := 0) (hi := 1) (rn_nel (l' := 1) c_11 (oh_rgb hq_10.1) (rg_c (v := 0) (lo := 0) (hi := 0) (by decide)) (by decide)) (by decide)) c_11))))).symm) (congrArg (belF (ga (C (48 + (x1).toNatClampNeg)) ((1 : Int32)).toNatClampNeg) (ga (C (48 + (x1).toNatClampNeg)) ((8 : Int32)).toNatClampNeg) (ga (C (48 + (x1).toNatClampNeg)) ((9 : Int32)).toNatClampNeg) (ga (C 13) ((2 : Int32)).toNatClampNeg)) (show _ = (ga (C (48 + (x1).toNatClampNeg)) ((4 : Int32)).toNatClampNeg + ga (C (48 + (x1).toNatClampNeg)) ((4 : Int32)).toNatClampNeg / 10) from (pif_pos (Or.inl c_8))).symm))) (pif_neg (fun h8 => absurd (Eq.trans (Eq.symm c_21) h8.1) (by decide))).symm), ht⟩) (fun q h => by cases h) dX7_allOf_108
        · refine lv_aload_n hx hb dX7_allOf_95 rfl (lv_at hl 2 rfl) ?_
          refine va_get (D := D) (ci := 7) (v := .ref (a 10)) (C := RX7) (T := TX7) (N := 29) hx hb htg ig_7 hown hK hP 0 (oh_wg (Nat.lt_of_lt_of_le (by decide) hn) (sM_0 hT)) rfl 12 (by decide) (htg _ q_985) (fun _ h9 => h9) rfl dX7_allOf_96 ?_
          refine lv_iload_n hx hb dX7_allOf_99 rfl (lv_at hl 3 rfl) ?_
          have n_22 : vp_in x1 16 := (rg_in hx1 (by decide))
          have b_23 : (x1).toNatClampNeg < 16 := vp_lt n_22
          refine th_aald hx hb hK hP 10 2 (Nat.lt_of_lt_of_le (by decide) hn) (sM_10 hT) rfl n_22 dX7_allOf_100 ?_
          refine lv_iconst (v := 5) hx hb dX7_allOf_101 (by decide) ?_
          refine th_iald hx hb hK hP (48 + (x1).toNatClampNeg) (lt_blk b_23 hn (by decide)) (hT.bbridge b_23).1 (rg_in (rg_c (v := 5) (lo := 5) (hi := 5) (by decide)) (by decide)) dX7_allOf_102 ?_
          refine lv_goto (tgt := 107) hx hb dX7_allOf_103 (by decide) ?_
          refine lv_iadd hx hb dX7_allOf_107 ?_
          rw [hQ]
          exact W.iret (v := 0 + (ga (C (48 + (x1).toNatClampNeg)) ((5 : Int32)).toNatClampNeg)) hx hb hr (fun t ht hW => ⟨0 + (ga (C (48 + (x1).toNatClampNeg)) ((5 : Int32)).toNatClampNeg), rfl, (fun hk hf => Eq.trans (congrArg (fun z => z + ga (C (48 + (x1).toNatClampNeg)) ((5 : Int32)).toNatClampNeg) (show 0 = bUnF (ga (C (48 + (x1).toNatClampNeg)) ((1 : Int32)).toNatClampNeg) (ga (C (48 + (x1).toNatClampNeg)) ((4 : Int32)).toNatClampNeg) (ga (C (48 + (x1).toNatClampNeg)) ((8 : Int32)).toNatClampNeg) (ga (C (48 + (x1).toNatClampNeg)) ((9 : Int32)).toNatClampNeg) (ga (C 13) ((2 : Int32)).toNatClampNeg) from Eq.trans (show _ = belF (ga (C (48 + (x1).toNatClampNeg)) ((1 : Int32)).toNatClampNeg) (ga (C (48 + (x1).toNatClampNeg)) ((8 : Int32)).toNatClampNeg) (ga (C (48 + (x1).toNatClampNeg)) ((9 : Int32)).toNatClampNeg) (ga (C 13) ((2 : Int32)).toNatClampNeg) (ga (C (48 + (x1).toNatClampNeg)) ((4 : Int32)).toNatClampNeg + ga (C (48 + (x1).toNatClampNeg)) ((4 : Int32)).toNatClampNeg / 10) from ((pif_pos (Or.inr (hq_10.2.mp (oh_b1 (rg_w (lo := 0) (hi := 1) (rn_nel (l' := 1) c_11 (oh_rgb hq_10.1) (rg_c (v := 0) (lo := 0) (hi := 0) (by decide)) (by decide)) (by decide)) c_11))))).symm) (congrArg (belF (ga (C (48 + (x1).toNatClampNeg)) ((1 : Int32)).toNatClampNeg) (ga (C (48 + (x1).toNatClampNeg)) ((8 : Int32)).toNatClampNeg) (ga (C (48 + (x1).toNatClampNeg)) ((9 : Int32)).toNatClampNeg) (ga (C 13) ((2 : Int32)).toNatClampNeg)) (show _ = (ga (C (48 + (x1).toNatClampNeg)) ((4 : Int32)).toNatClampNeg + ga (C (48 + (x1).toNatClampNeg)) ((4 : Int32)).toNatClampNeg / 10) from (pif_pos (Or.inl c_8))).symm))) (pif_pos ⟨oh_b1 hx2 c_21, (rg01 hf c_5)⟩).symm), ht⟩) (fun q h => by cases h) dX7_allOf_108
    · refine lv_iload_n hx hb dX7_allOf_41 rfl (lv_at hl 1 rfl) ?_
      refine lv_iconst (v := 2) hx hb dX7_allOf_42 (by decide) ?_
      refine lv_icmp_ne (tgt := 54) hx hb dX7_allOf_43 (by decide) (fun (c_24 : ¬ ((ga (C (48 + (x1).toNatClampNeg)) ((1 : Int32)).toNatClampNeg) = 2)) => ?_) (fun (c_24 : (ga (C (48 + (x1).toNatClampNeg)) ((1 : Int32)).toNatClampNeg) = 2) => ?_)
      · refine lv_iconst (v := 0) hx hb dX7_allOf_54 (by decide) ?_
        refine lv_iadd hx hb dX7_allOf_55 ?_
        refine lv_istore (lv' := [(4, .int ((ga (C (48 + (x1).toNatClampNeg)) ((4 : Int32)).toNatClampNeg) + 0)), (3, .int (ga (C (48 + (x1).toNatClampNeg)) ((1 : Int32)).toNatClampNeg)), (0, .ref (a 0)), (1, .int x1), (2, .int x2)]) hx hb dX7_allOf_56 hl (by decide) rfl (fun ls hl => ?_)
        refine lv_aload_n hx hb dX7_allOf_58 rfl (lv_at hl 2 rfl) ?_
        refine lv_iload_n hx hb dX7_allOf_59 rfl (lv_at hl 3 rfl) ?_
        refine tq_V (As := [.int x1]) (rest := []) (ws := (oh_W n a C)) ⟨hx, hb, hml, hown, htg⟩ (e_X7_isNothing l D E G a C n hn hT x1 (rg_w hx1 (by decide))) (cwV 1 htg (oh_gV q_1114 q_1116 q_32 q_73 q_1117) rfl rfl rfl pdVX7_isNothing ⟨Nat.le_of_ble_eq_true rfl, Nat.le_of_ble_eq_true rfl⟩) hK hP hG hS (va_recv hK hP (ci := 7) (q0 := 0) rfl (oh_wg (Nat.lt_of_lt_of_le (by decide) hn) (sM_0 hT))) rfl hl.1 rfl (Nat.le_of_ble_eq_true rfl) dX7_allOf_60 ⟨Nat.le_of_ble_eq_true rfl, Nat.le_of_ble_eq_true rfl⟩ (fun r_25 hq_26 => ?_)
        refine lv_if_eq (tgt := 70) hx hb dX7_allOf_63 (by decide) (fun (c_27 : r_25 = 0) => ?_) (fun (c_27 : ¬ (r_25 = 0)) => ?_)
        · refine lv_aload_n hx hb dX7_allOf_70 rfl (lv_at hl 2 rfl) ?_
          refine lv_iload_n hx hb dX7_allOf_71 rfl (lv_at hl 3 rfl) ?_
          refine tq_V (As := [.int x1]) (rest := []) (ws := (oh_W n a C)) ⟨hx, hb, hml, hown, htg⟩ (e_X7_isHalf l D E G a C n hn hT x1 (rg_w hx1 (by decide))) (cwV 1 htg (oh_gV q_1118 q_1120 q_33 q_73 q_1121) rfl rfl rfl pdVX7_isHalf ⟨Nat.le_of_ble_eq_true rfl, Nat.le_of_ble_eq_true rfl⟩) hK hP hG hS (va_recv hK hP (ci := 7) (q0 := 0) rfl (oh_wg (Nat.lt_of_lt_of_le (by decide) hn) (sM_0 hT))) rfl hl.1 rfl (Nat.le_of_ble_eq_true rfl) dX7_allOf_72 ⟨Nat.le_of_ble_eq_true rfl, Nat.le_of_ble_eq_true rfl⟩ (fun r_28 hq_29 => ?_)
          refine lv_if_eq (tgt := 85) hx hb dX7_allOf_75 (by decide) (fun (c_30 : r_28 = 0) => ?_) (fun (c_30 : ¬ (r_28 = 0)) => ?_)
          · refine lv_iload hx hb dX7_allOf_85 (lv_at hl 0 rfl) ?_
            refine lv_istore (lv' := [(4, .int ((ga (C (48 + (x1).toNatClampNeg)) ((4 : Int32)).toNatClampNeg) + 0)), (3, .int (ga (C (48 + (x1).toNatClampNeg)) ((1 : Int32)).toNatClampNeg)), (0, .ref (a 0)), (1, .int x1), (2, .int x2)]) hx hb dX7_allOf_87 hl (by decide) rfl (fun ls hl => ?_)
            refine lv_iload hx hb dX7_allOf_89 (lv_at hl 0 rfl) ?_
            refine lv_iload_n hx hb dX7_allOf_91 rfl (lv_at hl 4 rfl) ?_
            refine lv_if_eq (tgt := 106) hx hb dX7_allOf_92 (by decide) (fun (c_31 : x2 = 0) => ?_) (fun (c_31 : ¬ (x2 = 0)) => ?_)
            · refine lv_iconst (v := 0) hx hb dX7_allOf_106 (by decide) ?_
              refine lv_iadd hx hb dX7_allOf_107 ?_
              rw [hQ]
              exact W.iret (v := ((ga (C (48 + (x1).toNatClampNeg)) ((4 : Int32)).toNatClampNeg) + 0) + 0) hx hb hr (fun t ht hW => ⟨((ga (C (48 + (x1).toNatClampNeg)) ((4 : Int32)).toNatClampNeg) + 0) + 0, rfl, (fun hk hf => Eq.trans (Eq.trans (Int32.add_zero _) (show (ga (C (48 + (x1).toNatClampNeg)) ((4 : Int32)).toNatClampNeg + 0) = bUnF (ga (C (48 + (x1).toNatClampNeg)) ((1 : Int32)).toNatClampNeg) (ga (C (48 + (x1).toNatClampNeg)) ((4 : Int32)).toNatClampNeg) (ga (C (48 + (x1).toNatClampNeg)) ((8 : Int32)).toNatClampNeg) (ga (C (48 + (x1).toNatClampNeg)) ((9 : Int32)).toNatClampNeg) (ga (C 13) ((2 : Int32)).toNatClampNeg) from Eq.trans (show _ = belF (ga (C (48 + (x1).toNatClampNeg)) ((1 : Int32)).toNatClampNeg) (ga (C (48 + (x1).toNatClampNeg)) ((8 : Int32)).toNatClampNeg) (ga (C (48 + (x1).toNatClampNeg)) ((9 : Int32)).toNatClampNeg) (ga (C 13) ((2 : Int32)).toNatClampNeg) (ga (C (48 + (x1).toNatClampNeg)) ((4 : Int32)).toNatClampNeg + 0) from ((Eq.trans (pif_neg (fun h8 => h8.elim c_5 (fun h8 => absurd (Eq.trans (Eq.symm c_27) (hq_26.2.mpr h8)) (by decide)))) (pif_neg (fun h8 => absurd (Eq.trans (Eq.symm c_30) (hq_29.2.mpr ((hf_c hk).mpr h8))) (by decide))))).symm) (congrArg (belF (ga (C (48 + (x1).toNatClampNeg)) ((1 : Int32)).toNatClampNeg) (ga (C (48 + (x1).toNatClampNeg)) ((8 : Int32)).toNatClampNeg) (ga (C (48 + (x1).toNatClampNeg)) ((9 : Int32)).toNatClampNeg) (ga (C 13) ((2 : Int32)).toNatClampNeg)) (show _ = (ga (C (48 + (x1).toNatClampNeg)) ((4 : Int32)).toNatClampNeg + 0) from (Eq.trans (pif_neg (fun h8 => h8.elim c_8 c_24)) (Int32.add_zero _).symm)).symm))) (pif_neg (fun h8 => absurd (Eq.trans (Eq.symm c_31) h8.1) (by decide))).symm), ht⟩) (fun q h => by cases h) dX7_allOf_108
            · refine lv_aload_n hx hb dX7_allOf_95 rfl (lv_at hl 2 rfl) ?_
              refine va_get (D := D) (ci := 7) (v := .ref (a 10)) (C := RX7) (T := TX7) (N := 29) hx hb htg ig_7 hown hK hP 0 (oh_wg (Nat.lt_of_lt_of_le (by decide) hn) (sM_0 hT)) rfl 12 (by decide) (htg _ q_985) (fun _ h9 => h9) rfl dX7_allOf_96 ?_
              refine lv_iload_n hx hb dX7_allOf_99 rfl (lv_at hl 3 rfl) ?_
              have n_32 : vp_in x1 16 := (rg_in hx1 (by decide))
              have b_33 : (x1).toNatClampNeg < 16 := vp_lt n_32
              refine th_aald hx hb hK hP 10 2 (Nat.lt_of_lt_of_le (by decide) hn) (sM_10 hT) rfl n_32 dX7_allOf_100 ?_
              refine lv_iconst (v := 5) hx hb dX7_allOf_101 (by decide) ?_
              refine th_iald hx hb hK hP (48 + (x1).toNatClampNeg) (lt_blk b_33 hn (by decide)) (hT.bbridge b_33).1 (rg_in (rg_c (v := 5) (lo := 5) (hi := 5) (by decide)) (by decide)) dX7_allOf_102 ?_
              refine lv_goto (tgt := 107) hx hb dX7_allOf_103 (by decide) ?_
              refine lv_iadd hx hb dX7_allOf_107 ?_
              rw [hQ]
              exact W.iret (v := ((ga (C (48 + (x1).toNatClampNeg)) ((4 : Int32)).toNatClampNeg) + 0) + (ga (C (48 + (x1).toNatClampNeg)) ((5 : Int32)).toNatClampNeg)) hx hb hr (fun t ht hW => ⟨((ga (C (48 + (x1).toNatClampNeg)) ((4 : Int32)).toNatClampNeg) + 0) + (ga (C (48 + (x1).toNatClampNeg)) ((5 : Int32)).toNatClampNeg), rfl, (fun hk hf => Eq.trans (congrArg (fun z => z + ga (C (48 + (x1).toNatClampNeg)) ((5 : Int32)).toNatClampNeg) (show (ga (C (48 + (x1).toNatClampNeg)) ((4 : Int32)).toNatClampNeg + 0) = bUnF (ga (C (48 + (x1).toNatClampNeg)) ((1 : Int32)).toNatClampNeg) (ga (C (48 + (x1).toNatClampNeg)) ((4 : Int32)).toNatClampNeg) (ga (C (48 + (x1).toNatClampNeg)) ((8 : Int32)).toNatClampNeg) (ga (C (48 + (x1).toNatClampNeg)) ((9 : Int32)).toNatClampNeg) (ga (C 13) ((2 : Int32)).toNatClampNeg) from Eq.trans (show _ = belF (ga (C (48 + (x1).toNatClampNeg)) ((1 : Int32)).toNatClampNeg) (ga (C (48 + (x1).toNatClampNeg)) ((8 : Int32)).toNatClampNeg) (ga (C (48 + (x1).toNatClampNeg)) ((9 : Int32)).toNatClampNeg) (ga (C 13) ((2 : Int32)).toNatClampNeg) (ga (C (48 + (x1).toNatClampNeg)) ((4 : Int32)).toNatClampNeg + 0) from ((Eq.trans (pif_neg (fun h8 => h8.elim c_5 (fun h8 => absurd (Eq.trans (Eq.symm c_27) (hq_26.2.mpr h8)) (by decide)))) (pif_neg (fun h8 => absurd (Eq.trans (Eq.symm c_30) (hq_29.2.mpr ((hf_c hk).mpr h8))) (by decide))))).symm) (congrArg (belF (ga (C (48 + (x1).toNatClampNeg)) ((1 : Int32)).toNatClampNeg) (ga (C (48 + (x1).toNatClampNeg)) ((8 : Int32)).toNatClampNeg) (ga (C (48 + (x1).toNatClampNeg)) ((9 : Int32)).toNatClampNeg) (ga (C 13) ((2 : Int32)).toNatClampNeg)) (show _ = (ga (C (48 + (x1).toNatClampNeg)) ((4 : Int32)).toNatClampNeg + 0) from (Eq.trans (pif_neg (fun h8 => h8.elim c_8 c_24)) (Int32.add_zero _).symm)).symm))) (pif_pos ⟨oh_b1 hx2 c_31, (rg01 hf c_5)⟩).symm), ht⟩) (fun q h => by cases h) dX7_allOf_108
          · refine lv_iload hx hb dX7_allOf_78 (lv_at hl 0 rfl) ?_
            refine lv_iconst (v := 2) hx hb dX7_allOf_80 (by decide) ?_
            refine lv_idiv hx hb dX7_allOf_81 (by decide) ?_
            refine lv_goto (tgt := 87) hx hb dX7_allOf_82 (by decide) ?_
            refine lv_istore (lv' := [(4, .int (((ga (C (48 + (x1).toNatClampNeg)) ((4 : Int32)).toNatClampNeg) + 0) / 2)), (3, .int (ga (C (48 + (x1).toNatClampNeg)) ((1 : Int32)).toNatClampNeg)), (0, .ref (a 0)), (1, .int x1), (2, .int x2)]) hx hb dX7_allOf_87 hl (by decide) rfl (fun ls hl => ?_)
            refine lv_iload hx hb dX7_allOf_89 (lv_at hl 0 rfl) ?_
            refine lv_iload_n hx hb dX7_allOf_91 rfl (lv_at hl 4 rfl) ?_
            refine lv_if_eq (tgt := 106) hx hb dX7_allOf_92 (by decide) (fun (c_34 : x2 = 0) => ?_) (fun (c_34 : ¬ (x2 = 0)) => ?_)
            · refine lv_iconst (v := 0) hx hb dX7_allOf_106 (by decide) ?_
              refine lv_iadd hx hb dX7_allOf_107 ?_
              rw [hQ]
              exact W.iret (v := (((ga (C (48 + (x1).toNatClampNeg)) ((4 : Int32)).toNatClampNeg) + 0) / 2) + 0) hx hb hr (fun t ht hW => ⟨(((ga (C (48 + (x1).toNatClampNeg)) ((4 : Int32)).toNatClampNeg) + 0) / 2) + 0, rfl, (fun hk hf => Eq.trans (Eq.trans (Int32.add_zero _) (show ((ga (C (48 + (x1).toNatClampNeg)) ((4 : Int32)).toNatClampNeg + 0) / 2) = bUnF (ga (C (48 + (x1).toNatClampNeg)) ((1 : Int32)).toNatClampNeg) (ga (C (48 + (x1).toNatClampNeg)) ((4 : Int32)).toNatClampNeg) (ga (C (48 + (x1).toNatClampNeg)) ((8 : Int32)).toNatClampNeg) (ga (C (48 + (x1).toNatClampNeg)) ((9 : Int32)).toNatClampNeg) (ga (C 13) ((2 : Int32)).toNatClampNeg) from Eq.trans (show _ = belF (ga (C (48 + (x1).toNatClampNeg)) ((1 : Int32)).toNatClampNeg) (ga (C (48 + (x1).toNatClampNeg)) ((8 : Int32)).toNatClampNeg) (ga (C (48 + (x1).toNatClampNeg)) ((9 : Int32)).toNatClampNeg) (ga (C 13) ((2 : Int32)).toNatClampNeg) (ga (C (48 + (x1).toNatClampNeg)) ((4 : Int32)).toNatClampNeg + 0) from ((Eq.trans (pif_neg (fun h8 => h8.elim c_5 (fun h8 => absurd (Eq.trans (Eq.symm c_27) (hq_26.2.mpr h8)) (by decide)))) (pif_pos ((hf_c hk).mp (hq_29.2.mp (oh_b1 (rg_w (lo := 0) (hi := 1) (rn_nel (l' := 1) c_30 (oh_rgb hq_29.1) (rg_c (v := 0) (lo := 0) (hi := 0) (by decide)) (by decide)) (by decide)) c_30)))))).symm) (congrArg (belF (ga (C (48 + (x1).toNatClampNeg)) ((1 : Int32)).toNatClampNeg) (ga (C (48 + (x1).toNatClampNeg)) ((8 : Int32)).toNatClampNeg) (ga (C (48 + (x1).toNatClampNeg)) ((9 : Int32)).toNatClampNeg) (ga (C 13) ((2 : Int32)).toNatClampNeg)) (show _ = (ga (C (48 + (x1).toNatClampNeg)) ((4 : Int32)).toNatClampNeg + 0) from (Eq.trans (pif_neg (fun h8 => h8.elim c_8 c_24)) (Int32.add_zero _).symm)).symm))) (pif_neg (fun h8 => absurd (Eq.trans (Eq.symm c_34) h8.1) (by decide))).symm), ht⟩) (fun q h => by cases h) dX7_allOf_108
            · refine lv_aload_n hx hb dX7_allOf_95 rfl (lv_at hl 2 rfl) ?_
              refine va_get (D := D) (ci := 7) (v := .ref (a 10)) (C := RX7) (T := TX7) (N := 29) hx hb htg ig_7 hown hK hP 0 (oh_wg (Nat.lt_of_lt_of_le (by decide) hn) (sM_0 hT)) rfl 12 (by decide) (htg _ q_985) (fun _ h9 => h9) rfl dX7_allOf_96 ?_
              refine lv_iload_n hx hb dX7_allOf_99 rfl (lv_at hl 3 rfl) ?_
              have n_35 : vp_in x1 16 := (rg_in hx1 (by decide))
              have b_36 : (x1).toNatClampNeg < 16 := vp_lt n_35
              refine th_aald hx hb hK hP 10 2 (Nat.lt_of_lt_of_le (by decide) hn) (sM_10 hT) rfl n_35 dX7_allOf_100 ?_
              refine lv_iconst (v := 5) hx hb dX7_allOf_101 (by decide) ?_
              refine th_iald hx hb hK hP (48 + (x1).toNatClampNeg) (lt_blk b_36 hn (by decide)) (hT.bbridge b_36).1 (rg_in (rg_c (v := 5) (lo := 5) (hi := 5) (by decide)) (by decide)) dX7_allOf_102 ?_
              refine lv_goto (tgt := 107) hx hb dX7_allOf_103 (by decide) ?_
              refine lv_iadd hx hb dX7_allOf_107 ?_
              rw [hQ]
              exact W.iret (v := (((ga (C (48 + (x1).toNatClampNeg)) ((4 : Int32)).toNatClampNeg) + 0) / 2) + (ga (C (48 + (x1).toNatClampNeg)) ((5 : Int32)).toNatClampNeg)) hx hb hr (fun t ht hW => ⟨(((ga (C (48 + (x1).toNatClampNeg)) ((4 : Int32)).toNatClampNeg) + 0) / 2) + (ga (C (48 + (x1).toNatClampNeg)) ((5 : Int32)).toNatClampNeg), rfl, (fun hk hf => Eq.trans (congrArg (fun z => z + ga (C (48 + (x1).toNatClampNeg)) ((5 : Int32)).toNatClampNeg) (show ((ga (C (48 + (x1).toNatClampNeg)) ((4 : Int32)).toNatClampNeg + 0) / 2) = bUnF (ga (C (48 + (x1).toNatClampNeg)) ((1 : Int32)).toNatClampNeg) (ga (C (48 + (x1).toNatClampNeg)) ((4 : Int32)).toNatClampNeg) (ga (C (48 + (x1).toNatClampNeg)) ((8 : Int32)).toNatClampNeg) (ga (C (48 + (x1).toNatClampNeg)) ((9 : Int32)).toNatClampNeg) (ga (C 13) ((2 : Int32)).toNatClampNeg) from Eq.trans (show _ = belF (ga (C (48 + (x1).toNatClampNeg)) ((1 : Int32)).toNatClampNeg) (ga (C (48 + (x1).toNatClampNeg)) ((8 : Int32)).toNatClampNeg) (ga (C (48 + (x1).toNatClampNeg)) ((9 : Int32)).toNatClampNeg) (ga (C 13) ((2 : Int32)).toNatClampNeg) (ga (C (48 + (x1).toNatClampNeg)) ((4 : Int32)).toNatClampNeg + 0) from ((Eq.trans (pif_neg (fun h8 => h8.elim c_5 (fun h8 => absurd (Eq.trans (Eq.symm c_27) (hq_26.2.mpr h8)) (by decide)))) (pif_pos ((hf_c hk).mp (hq_29.2.mp (oh_b1 (rg_w (lo := 0) (hi := 1) (rn_nel (l' := 1) c_30 (oh_rgb hq_29.1) (rg_c (v := 0) (lo := 0) (hi := 0) (by decide)) (by decide)) (by decide)) c_30)))))).symm) (congrArg (belF (ga (C (48 + (x1).toNatClampNeg)) ((1 : Int32)).toNatClampNeg) (ga (C (48 + (x1).toNatClampNeg)) ((8 : Int32)).toNatClampNeg) (ga (C (48 + (x1).toNatClampNeg)) ((9 : Int32)).toNatClampNeg) (ga (C 13) ((2 : Int32)).toNatClampNeg)) (show _ = (ga (C (48 + (x1).toNatClampNeg)) ((4 : Int32)).toNatClampNeg + 0) from (Eq.trans (pif_neg (fun h8 => h8.elim c_8 c_24)) (Int32.add_zero _).symm)).symm))) (pif_pos ⟨oh_b1 hx2 c_34, (rg01 hf c_5)⟩).symm), ht⟩) (fun q h => by cases h) dX7_allOf_108
        · refine lv_iconst (v := 0) hx hb dX7_allOf_66 (by decide) ?_
          refine lv_goto (tgt := 87) hx hb dX7_allOf_67 (by decide) ?_
          refine lv_istore (lv' := [(4, .int 0), (3, .int (ga (C (48 + (x1).toNatClampNeg)) ((1 : Int32)).toNatClampNeg)), (0, .ref (a 0)), (1, .int x1), (2, .int x2)]) hx hb dX7_allOf_87 hl (by decide) rfl (fun ls hl => ?_)
          refine lv_iload hx hb dX7_allOf_89 (lv_at hl 0 rfl) ?_
          refine lv_iload_n hx hb dX7_allOf_91 rfl (lv_at hl 4 rfl) ?_
          refine lv_if_eq (tgt := 106) hx hb dX7_allOf_92 (by decide) (fun (c_37 : x2 = 0) => ?_) (fun (c_37 : ¬ (x2 = 0)) => ?_)
          · refine lv_iconst (v := 0) hx hb dX7_allOf_106 (by decide) ?_
            refine lv_iadd hx hb dX7_allOf_107 ?_
            refine oh_nrm (v := 0) (by decide) ?_
            rw [hQ]
            exact W.iret (v := 0) hx hb hr (fun t ht hW => ⟨0, rfl, (fun hk hf => Eq.trans (Eq.trans rfl (show 0 = bUnF (ga (C (48 + (x1).toNatClampNeg)) ((1 : Int32)).toNatClampNeg) (ga (C (48 + (x1).toNatClampNeg)) ((4 : Int32)).toNatClampNeg) (ga (C (48 + (x1).toNatClampNeg)) ((8 : Int32)).toNatClampNeg) (ga (C (48 + (x1).toNatClampNeg)) ((9 : Int32)).toNatClampNeg) (ga (C 13) ((2 : Int32)).toNatClampNeg) from Eq.trans (show _ = belF (ga (C (48 + (x1).toNatClampNeg)) ((1 : Int32)).toNatClampNeg) (ga (C (48 + (x1).toNatClampNeg)) ((8 : Int32)).toNatClampNeg) (ga (C (48 + (x1).toNatClampNeg)) ((9 : Int32)).toNatClampNeg) (ga (C 13) ((2 : Int32)).toNatClampNeg) (ga (C (48 + (x1).toNatClampNeg)) ((4 : Int32)).toNatClampNeg + 0) from ((pif_pos (Or.inr (hq_26.2.mp (oh_b1 (rg_w (lo := 0) (hi := 1) (rn_nel (l' := 1) c_27 (oh_rgb hq_26.1) (rg_c (v := 0) (lo := 0) (hi := 0) (by decide)) (by decide)) (by decide)) c_27))))).symm) (congrArg (belF (ga (C (48 + (x1).toNatClampNeg)) ((1 : Int32)).toNatClampNeg) (ga (C (48 + (x1).toNatClampNeg)) ((8 : Int32)).toNatClampNeg) (ga (C (48 + (x1).toNatClampNeg)) ((9 : Int32)).toNatClampNeg) (ga (C 13) ((2 : Int32)).toNatClampNeg)) (show _ = (ga (C (48 + (x1).toNatClampNeg)) ((4 : Int32)).toNatClampNeg + 0) from (Eq.trans (pif_neg (fun h8 => h8.elim c_8 c_24)) (Int32.add_zero _).symm)).symm))) (pif_neg (fun h8 => absurd (Eq.trans (Eq.symm c_37) h8.1) (by decide))).symm), ht⟩) (fun q h => by cases h) dX7_allOf_108
          · refine lv_aload_n hx hb dX7_allOf_95 rfl (lv_at hl 2 rfl) ?_
            refine va_get (D := D) (ci := 7) (v := .ref (a 10)) (C := RX7) (T := TX7) (N := 29) hx hb htg ig_7 hown hK hP 0 (oh_wg (Nat.lt_of_lt_of_le (by decide) hn) (sM_0 hT)) rfl 12 (by decide) (htg _ q_985) (fun _ h9 => h9) rfl dX7_allOf_96 ?_
            refine lv_iload_n hx hb dX7_allOf_99 rfl (lv_at hl 3 rfl) ?_
            have n_38 : vp_in x1 16 := (rg_in hx1 (by decide))
            have b_39 : (x1).toNatClampNeg < 16 := vp_lt n_38
            refine th_aald hx hb hK hP 10 2 (Nat.lt_of_lt_of_le (by decide) hn) (sM_10 hT) rfl n_38 dX7_allOf_100 ?_
            refine lv_iconst (v := 5) hx hb dX7_allOf_101 (by decide) ?_
            refine th_iald hx hb hK hP (48 + (x1).toNatClampNeg) (lt_blk b_39 hn (by decide)) (hT.bbridge b_39).1 (rg_in (rg_c (v := 5) (lo := 5) (hi := 5) (by decide)) (by decide)) dX7_allOf_102 ?_
            refine lv_goto (tgt := 107) hx hb dX7_allOf_103 (by decide) ?_
            refine lv_iadd hx hb dX7_allOf_107 ?_
            rw [hQ]
            exact W.iret (v := 0 + (ga (C (48 + (x1).toNatClampNeg)) ((5 : Int32)).toNatClampNeg)) hx hb hr (fun t ht hW => ⟨0 + (ga (C (48 + (x1).toNatClampNeg)) ((5 : Int32)).toNatClampNeg), rfl, (fun hk hf => Eq.trans (congrArg (fun z => z + ga (C (48 + (x1).toNatClampNeg)) ((5 : Int32)).toNatClampNeg) (show 0 = bUnF (ga (C (48 + (x1).toNatClampNeg)) ((1 : Int32)).toNatClampNeg) (ga (C (48 + (x1).toNatClampNeg)) ((4 : Int32)).toNatClampNeg) (ga (C (48 + (x1).toNatClampNeg)) ((8 : Int32)).toNatClampNeg) (ga (C (48 + (x1).toNatClampNeg)) ((9 : Int32)).toNatClampNeg) (ga (C 13) ((2 : Int32)).toNatClampNeg) from Eq.trans (show _ = belF (ga (C (48 + (x1).toNatClampNeg)) ((1 : Int32)).toNatClampNeg) (ga (C (48 + (x1).toNatClampNeg)) ((8 : Int32)).toNatClampNeg) (ga (C (48 + (x1).toNatClampNeg)) ((9 : Int32)).toNatClampNeg) (ga (C 13) ((2 : Int32)).toNatClampNeg) (ga (C (48 + (x1).toNatClampNeg)) ((4 : Int32)).toNatClampNeg + 0) from ((pif_pos (Or.inr (hq_26.2.mp (oh_b1 (rg_w (lo := 0) (hi := 1) (rn_nel (l' := 1) c_27 (oh_rgb hq_26.1) (rg_c (v := 0) (lo := 0) (hi := 0) (by decide)) (by decide)) (by decide)) c_27))))).symm) (congrArg (belF (ga (C (48 + (x1).toNatClampNeg)) ((1 : Int32)).toNatClampNeg) (ga (C (48 + (x1).toNatClampNeg)) ((8 : Int32)).toNatClampNeg) (ga (C (48 + (x1).toNatClampNeg)) ((9 : Int32)).toNatClampNeg) (ga (C 13) ((2 : Int32)).toNatClampNeg)) (show _ = (ga (C (48 + (x1).toNatClampNeg)) ((4 : Int32)).toNatClampNeg + 0) from (Eq.trans (pif_neg (fun h8 => h8.elim c_8 c_24)) (Int32.add_zero _).symm)).symm))) (pif_pos ⟨oh_b1 hx2 c_37, (rg01 hf c_5)⟩).symm), ht⟩) (fun q h => by cases h) dX7_allOf_108
      · refine lv_iload hx hb dX7_allOf_46 (lv_at hl 0 rfl) ?_
        refine lv_bipush (v := 10) hx hb dX7_allOf_48 (by decide) ?_
        refine lv_idiv hx hb dX7_allOf_50 (by decide) ?_
        refine lv_goto (tgt := 55) hx hb dX7_allOf_51 (by decide) ?_
        refine lv_iadd hx hb dX7_allOf_55 ?_
        refine lv_istore (lv' := [(4, .int ((ga (C (48 + (x1).toNatClampNeg)) ((4 : Int32)).toNatClampNeg) + ((ga (C (48 + (x1).toNatClampNeg)) ((4 : Int32)).toNatClampNeg) / 10))), (3, .int (ga (C (48 + (x1).toNatClampNeg)) ((1 : Int32)).toNatClampNeg)), (0, .ref (a 0)), (1, .int x1), (2, .int x2)]) hx hb dX7_allOf_56 hl (by decide) rfl (fun ls hl => ?_)
        refine lv_aload_n hx hb dX7_allOf_58 rfl (lv_at hl 2 rfl) ?_
        refine lv_iload_n hx hb dX7_allOf_59 rfl (lv_at hl 3 rfl) ?_
        refine tq_V (As := [.int x1]) (rest := []) (ws := (oh_W n a C)) ⟨hx, hb, hml, hown, htg⟩ (e_X7_isNothing l D E G a C n hn hT x1 (rg_w hx1 (by decide))) (cwV 1 htg (oh_gV q_1114 q_1116 q_32 q_73 q_1117) rfl rfl rfl pdVX7_isNothing ⟨Nat.le_of_ble_eq_true rfl, Nat.le_of_ble_eq_true rfl⟩) hK hP hG hS (va_recv hK hP (ci := 7) (q0 := 0) rfl (oh_wg (Nat.lt_of_lt_of_le (by decide) hn) (sM_0 hT))) rfl hl.1 rfl (Nat.le_of_ble_eq_true rfl) dX7_allOf_60 ⟨Nat.le_of_ble_eq_true rfl, Nat.le_of_ble_eq_true rfl⟩ (fun r_40 hq_41 => ?_)
        refine lv_if_eq (tgt := 70) hx hb dX7_allOf_63 (by decide) (fun (c_42 : r_40 = 0) => ?_) (fun (c_42 : ¬ (r_40 = 0)) => ?_)
        · refine lv_aload_n hx hb dX7_allOf_70 rfl (lv_at hl 2 rfl) ?_
          refine lv_iload_n hx hb dX7_allOf_71 rfl (lv_at hl 3 rfl) ?_
          refine tq_V (As := [.int x1]) (rest := []) (ws := (oh_W n a C)) ⟨hx, hb, hml, hown, htg⟩ (e_X7_isHalf l D E G a C n hn hT x1 (rg_w hx1 (by decide))) (cwV 1 htg (oh_gV q_1118 q_1120 q_33 q_73 q_1121) rfl rfl rfl pdVX7_isHalf ⟨Nat.le_of_ble_eq_true rfl, Nat.le_of_ble_eq_true rfl⟩) hK hP hG hS (va_recv hK hP (ci := 7) (q0 := 0) rfl (oh_wg (Nat.lt_of_lt_of_le (by decide) hn) (sM_0 hT))) rfl hl.1 rfl (Nat.le_of_ble_eq_true rfl) dX7_allOf_72 ⟨Nat.le_of_ble_eq_true rfl, Nat.le_of_ble_eq_true rfl⟩ (fun r_43 hq_44 => ?_)
          refine lv_if_eq (tgt := 85) hx hb dX7_allOf_75 (by decide) (fun (c_45 : r_43 = 0) => ?_) (fun (c_45 : ¬ (r_43 = 0)) => ?_)
          · refine lv_iload hx hb dX7_allOf_85 (lv_at hl 0 rfl) ?_
            refine lv_istore (lv' := [(4, .int ((ga (C (48 + (x1).toNatClampNeg)) ((4 : Int32)).toNatClampNeg) + ((ga (C (48 + (x1).toNatClampNeg)) ((4 : Int32)).toNatClampNeg) / 10))), (3, .int (ga (C (48 + (x1).toNatClampNeg)) ((1 : Int32)).toNatClampNeg)), (0, .ref (a 0)), (1, .int x1), (2, .int x2)]) hx hb dX7_allOf_87 hl (by decide) rfl (fun ls hl => ?_)
            refine lv_iload hx hb dX7_allOf_89 (lv_at hl 0 rfl) ?_
            refine lv_iload_n hx hb dX7_allOf_91 rfl (lv_at hl 4 rfl) ?_
            refine lv_if_eq (tgt := 106) hx hb dX7_allOf_92 (by decide) (fun (c_46 : x2 = 0) => ?_) (fun (c_46 : ¬ (x2 = 0)) => ?_)
            · refine lv_iconst (v := 0) hx hb dX7_allOf_106 (by decide) ?_
              refine lv_iadd hx hb dX7_allOf_107 ?_
              rw [hQ]
              exact W.iret (v := ((ga (C (48 + (x1).toNatClampNeg)) ((4 : Int32)).toNatClampNeg) + ((ga (C (48 + (x1).toNatClampNeg)) ((4 : Int32)).toNatClampNeg) / 10)) + 0) hx hb hr (fun t ht hW => ⟨((ga (C (48 + (x1).toNatClampNeg)) ((4 : Int32)).toNatClampNeg) + ((ga (C (48 + (x1).toNatClampNeg)) ((4 : Int32)).toNatClampNeg) / 10)) + 0, rfl, (fun hk hf => Eq.trans (Eq.trans (Int32.add_zero _) (show (ga (C (48 + (x1).toNatClampNeg)) ((4 : Int32)).toNatClampNeg + ga (C (48 + (x1).toNatClampNeg)) ((4 : Int32)).toNatClampNeg / 10) = bUnF (ga (C (48 + (x1).toNatClampNeg)) ((1 : Int32)).toNatClampNeg) (ga (C (48 + (x1).toNatClampNeg)) ((4 : Int32)).toNatClampNeg) (ga (C (48 + (x1).toNatClampNeg)) ((8 : Int32)).toNatClampNeg) (ga (C (48 + (x1).toNatClampNeg)) ((9 : Int32)).toNatClampNeg) (ga (C 13) ((2 : Int32)).toNatClampNeg) from Eq.trans (show _ = belF (ga (C (48 + (x1).toNatClampNeg)) ((1 : Int32)).toNatClampNeg) (ga (C (48 + (x1).toNatClampNeg)) ((8 : Int32)).toNatClampNeg) (ga (C (48 + (x1).toNatClampNeg)) ((9 : Int32)).toNatClampNeg) (ga (C 13) ((2 : Int32)).toNatClampNeg) (ga (C (48 + (x1).toNatClampNeg)) ((4 : Int32)).toNatClampNeg + ga (C (48 + (x1).toNatClampNeg)) ((4 : Int32)).toNatClampNeg / 10) from ((Eq.trans (pif_neg (fun h8 => h8.elim c_5 (fun h8 => absurd (Eq.trans (Eq.symm c_42) (hq_41.2.mpr h8)) (by decide)))) (pif_neg (fun h8 => absurd (Eq.trans (Eq.symm c_45) (hq_44.2.mpr ((hf_c hk).mpr h8))) (by decide))))).symm) (congrArg (belF (ga (C (48 + (x1).toNatClampNeg)) ((1 : Int32)).toNatClampNeg) (ga (C (48 + (x1).toNatClampNeg)) ((8 : Int32)).toNatClampNeg) (ga (C (48 + (x1).toNatClampNeg)) ((9 : Int32)).toNatClampNeg) (ga (C 13) ((2 : Int32)).toNatClampNeg)) (show _ = (ga (C (48 + (x1).toNatClampNeg)) ((4 : Int32)).toNatClampNeg + ga (C (48 + (x1).toNatClampNeg)) ((4 : Int32)).toNatClampNeg / 10) from (pif_pos (Or.inr c_24))).symm))) (pif_neg (fun h8 => absurd (Eq.trans (Eq.symm c_46) h8.1) (by decide))).symm), ht⟩) (fun q h => by cases h) dX7_allOf_108
            · refine lv_aload_n hx hb dX7_allOf_95 rfl (lv_at hl 2 rfl) ?_
              refine va_get (D := D) (ci := 7) (v := .ref (a 10)) (C := RX7) (T := TX7) (N := 29) hx hb htg ig_7 hown hK hP 0 (oh_wg (Nat.lt_of_lt_of_le (by decide) hn) (sM_0 hT)) rfl 12 (by decide) (htg _ q_985) (fun _ h9 => h9) rfl dX7_allOf_96 ?_
              refine lv_iload_n hx hb dX7_allOf_99 rfl (lv_at hl 3 rfl) ?_
              have n_47 : vp_in x1 16 := (rg_in hx1 (by decide))
              have b_48 : (x1).toNatClampNeg < 16 := vp_lt n_47
              refine th_aald hx hb hK hP 10 2 (Nat.lt_of_lt_of_le (by decide) hn) (sM_10 hT) rfl n_47 dX7_allOf_100 ?_
              refine lv_iconst (v := 5) hx hb dX7_allOf_101 (by decide) ?_
              refine th_iald hx hb hK hP (48 + (x1).toNatClampNeg) (lt_blk b_48 hn (by decide)) (hT.bbridge b_48).1 (rg_in (rg_c (v := 5) (lo := 5) (hi := 5) (by decide)) (by decide)) dX7_allOf_102 ?_
              refine lv_goto (tgt := 107) hx hb dX7_allOf_103 (by decide) ?_
              refine lv_iadd hx hb dX7_allOf_107 ?_
              rw [hQ]
              exact W.iret (v := ((ga (C (48 + (x1).toNatClampNeg)) ((4 : Int32)).toNatClampNeg) + ((ga (C (48 + (x1).toNatClampNeg)) ((4 : Int32)).toNatClampNeg) / 10)) + (ga (C (48 + (x1).toNatClampNeg)) ((5 : Int32)).toNatClampNeg)) hx hb hr (fun t ht hW => ⟨((ga (C (48 + (x1).toNatClampNeg)) ((4 : Int32)).toNatClampNeg) + ((ga (C (48 + (x1).toNatClampNeg)) ((4 : Int32)).toNatClampNeg) / 10)) + (ga (C (48 + (x1).toNatClampNeg)) ((5 : Int32)).toNatClampNeg), rfl, (fun hk hf => Eq.trans (congrArg (fun z => z + ga (C (48 + (x1).toNatClampNeg)) ((5 : Int32)).toNatClampNeg) (show (ga (C (48 + (x1).toNatClampNeg)) ((4 : Int32)).toNatClampNeg + ga (C (48 + (x1).toNatClampNeg)) ((4 : Int32)).toNatClampNeg / 10) = bUnF (ga (C (48 + (x1).toNatClampNeg)) ((1 : Int32)).toNatClampNeg) (ga (C (48 + (x1).toNatClampNeg)) ((4 : Int32)).toNatClampNeg) (ga (C (48 + (x1).toNatClampNeg)) ((8 : Int32)).toNatClampNeg) (ga (C (48 + (x1).toNatClampNeg)) ((9 : Int32)).toNatClampNeg) (ga (C 13) ((2 : Int32)).toNatClampNeg) from Eq.trans (show _ = belF (ga (C (48 + (x1).toNatClampNeg)) ((1 : Int32)).toNatClampNeg) (ga (C (48 + (x1).toNatClampNeg)) ((8 : Int32)).toNatClampNeg) (ga (C (48 + (x1).toNatClampNeg)) ((9 : Int32)).toNatClampNeg) (ga (C 13) ((2 : Int32)).toNatClampNeg) (ga (C (48 + (x1).toNatClampNeg)) ((4 : Int32)).toNatClampNeg + ga (C (48 + (x1).toNatClampNeg)) ((4 : Int32)).toNatClampNeg / 10) from ((Eq.trans (pif_neg (fun h8 => h8.elim c_5 (fun h8 => absurd (Eq.trans (Eq.symm c_42) (hq_41.2.mpr h8)) (by decide)))) (pif_neg (fun h8 => absurd (Eq.trans (Eq.symm c_45) (hq_44.2.mpr ((hf_c hk).mpr h8))) (by decide))))).symm) (congrArg (belF (ga (C (48 + (x1).toNatClampNeg)) ((1 : Int32)).toNatClampNeg) (ga (C (48 + (x1).toNatClampNeg)) ((8 : Int32)).toNatClampNeg) (ga (C (48 + (x1).toNatClampNeg)) ((9 : Int32)).toNatClampNeg) (ga (C 13) ((2 : Int32)).toNatClampNeg)) (show _ = (ga (C (48 + (x1).toNatClampNeg)) ((4 : Int32)).toNatClampNeg + ga (C (48 + (x1).toNatClampNeg)) ((4 : Int32)).toNatClampNeg / 10) from (pif_pos (Or.inr c_24))).symm))) (pif_pos ⟨oh_b1 hx2 c_46, (rg01 hf c_5)⟩).symm), ht⟩) (fun q h => by cases h) dX7_allOf_108
          · refine lv_iload hx hb dX7_allOf_78 (lv_at hl 0 rfl) ?_
            refine lv_iconst (v := 2) hx hb dX7_allOf_80 (by decide) ?_
            refine lv_idiv hx hb dX7_allOf_81 (by decide) ?_
            refine lv_goto (tgt := 87) hx hb dX7_allOf_82 (by decide) ?_
            refine lv_istore (lv' := [(4, .int (((ga (C (48 + (x1).toNatClampNeg)) ((4 : Int32)).toNatClampNeg) + ((ga (C (48 + (x1).toNatClampNeg)) ((4 : Int32)).toNatClampNeg) / 10)) / 2)), (3, .int (ga (C (48 + (x1).toNatClampNeg)) ((1 : Int32)).toNatClampNeg)), (0, .ref (a 0)), (1, .int x1), (2, .int x2)]) hx hb dX7_allOf_87 hl (by decide) rfl (fun ls hl => ?_)
            refine lv_iload hx hb dX7_allOf_89 (lv_at hl 0 rfl) ?_
            refine lv_iload_n hx hb dX7_allOf_91 rfl (lv_at hl 4 rfl) ?_
            refine lv_if_eq (tgt := 106) hx hb dX7_allOf_92 (by decide) (fun (c_49 : x2 = 0) => ?_) (fun (c_49 : ¬ (x2 = 0)) => ?_)
            · refine lv_iconst (v := 0) hx hb dX7_allOf_106 (by decide) ?_
              refine lv_iadd hx hb dX7_allOf_107 ?_
              rw [hQ]
              exact W.iret (v := (((ga (C (48 + (x1).toNatClampNeg)) ((4 : Int32)).toNatClampNeg) + ((ga (C (48 + (x1).toNatClampNeg)) ((4 : Int32)).toNatClampNeg) / 10)) / 2) + 0) hx hb hr (fun t ht hW => ⟨(((ga (C (48 + (x1).toNatClampNeg)) ((4 : Int32)).toNatClampNeg) + ((ga (C (48 + (x1).toNatClampNeg)) ((4 : Int32)).toNatClampNeg) / 10)) / 2) + 0, rfl, (fun hk hf => Eq.trans (Eq.trans (Int32.add_zero _) (show ((ga (C (48 + (x1).toNatClampNeg)) ((4 : Int32)).toNatClampNeg + ga (C (48 + (x1).toNatClampNeg)) ((4 : Int32)).toNatClampNeg / 10) / 2) = bUnF (ga (C (48 + (x1).toNatClampNeg)) ((1 : Int32)).toNatClampNeg) (ga (C (48 + (x1).toNatClampNeg)) ((4 : Int32)).toNatClampNeg) (ga (C (48 + (x1).toNatClampNeg)) ((8 : Int32)).toNatClampNeg) (ga (C (48 + (x1).toNatClampNeg)) ((9 : Int32)).toNatClampNeg) (ga (C 13) ((2 : Int32)).toNatClampNeg) from Eq.trans (show _ = belF (ga (C (48 + (x1).toNatClampNeg)) ((1 : Int32)).toNatClampNeg) (ga (C (48 + (x1).toNatClampNeg)) ((8 : Int32)).toNatClampNeg) (ga (C (48 + (x1).toNatClampNeg)) ((9 : Int32)).toNatClampNeg) (ga (C 13) ((2 : Int32)).toNatClampNeg) (ga (C (48 + (x1).toNatClampNeg)) ((4 : Int32)).toNatClampNeg + ga (C (48 + (x1).toNatClampNeg)) ((4 : Int32)).toNatClampNeg / 10) from ((Eq.trans (pif_neg (fun h8 => h8.elim c_5 (fun h8 => absurd (Eq.trans (Eq.symm c_42) (hq_41.2.mpr h8)) (by decide)))) (pif_pos ((hf_c hk).mp (hq_44.2.mp (oh_b1 (rg_w (lo := 0) (hi := 1) (rn_nel (l' := 1) c_45 (oh_rgb hq_44.1) (rg_c (v := 0) (lo := 0) (hi := 0) (by decide)) (by decide)) (by decide)) c_45)))))).symm) (congrArg (belF (ga (C (48 + (x1).toNatClampNeg)) ((1 : Int32)).toNatClampNeg) (ga (C (48 + (x1).toNatClampNeg)) ((8 : Int32)).toNatClampNeg) (ga (C (48 + (x1).toNatClampNeg)) ((9 : Int32)).toNatClampNeg) (ga (C 13) ((2 : Int32)).toNatClampNeg)) (show _ = (ga (C (48 + (x1).toNatClampNeg)) ((4 : Int32)).toNatClampNeg + ga (C (48 + (x1).toNatClampNeg)) ((4 : Int32)).toNatClampNeg / 10) from (pif_pos (Or.inr c_24))).symm))) (pif_neg (fun h8 => absurd (Eq.trans (Eq.symm c_49) h8.1) (by decide))).symm), ht⟩) (fun q h => by cases h) dX7_allOf_108
            · refine lv_aload_n hx hb dX7_allOf_95 rfl (lv_at hl 2 rfl) ?_
              refine va_get (D := D) (ci := 7) (v := .ref (a 10)) (C := RX7) (T := TX7) (N := 29) hx hb htg ig_7 hown hK hP 0 (oh_wg (Nat.lt_of_lt_of_le (by decide) hn) (sM_0 hT)) rfl 12 (by decide) (htg _ q_985) (fun _ h9 => h9) rfl dX7_allOf_96 ?_
              refine lv_iload_n hx hb dX7_allOf_99 rfl (lv_at hl 3 rfl) ?_
              have n_50 : vp_in x1 16 := (rg_in hx1 (by decide))
              have b_51 : (x1).toNatClampNeg < 16 := vp_lt n_50
              refine th_aald hx hb hK hP 10 2 (Nat.lt_of_lt_of_le (by decide) hn) (sM_10 hT) rfl n_50 dX7_allOf_100 ?_
              refine lv_iconst (v := 5) hx hb dX7_allOf_101 (by decide) ?_
              refine th_iald hx hb hK hP (48 + (x1).toNatClampNeg) (lt_blk b_51 hn (by decide)) (hT.bbridge b_51).1 (rg_in (rg_c (v := 5) (lo := 5) (hi := 5) (by decide)) (by decide)) dX7_allOf_102 ?_
              refine lv_goto (tgt := 107) hx hb dX7_allOf_103 (by decide) ?_
              refine lv_iadd hx hb dX7_allOf_107 ?_
              rw [hQ]
              exact W.iret (v := (((ga (C (48 + (x1).toNatClampNeg)) ((4 : Int32)).toNatClampNeg) + ((ga (C (48 + (x1).toNatClampNeg)) ((4 : Int32)).toNatClampNeg) / 10)) / 2) + (ga (C (48 + (x1).toNatClampNeg)) ((5 : Int32)).toNatClampNeg)) hx hb hr (fun t ht hW => ⟨(((ga (C (48 + (x1).toNatClampNeg)) ((4 : Int32)).toNatClampNeg) + ((ga (C (48 + (x1).toNatClampNeg)) ((4 : Int32)).toNatClampNeg) / 10)) / 2) + (ga (C (48 + (x1).toNatClampNeg)) ((5 : Int32)).toNatClampNeg), rfl, (fun hk hf => Eq.trans (congrArg (fun z => z + ga (C (48 + (x1).toNatClampNeg)) ((5 : Int32)).toNatClampNeg) (show ((ga (C (48 + (x1).toNatClampNeg)) ((4 : Int32)).toNatClampNeg + ga (C (48 + (x1).toNatClampNeg)) ((4 : Int32)).toNatClampNeg / 10) / 2) = bUnF (ga (C (48 + (x1).toNatClampNeg)) ((1 : Int32)).toNatClampNeg) (ga (C (48 + (x1).toNatClampNeg)) ((4 : Int32)).toNatClampNeg) (ga (C (48 + (x1).toNatClampNeg)) ((8 : Int32)).toNatClampNeg) (ga (C (48 + (x1).toNatClampNeg)) ((9 : Int32)).toNatClampNeg) (ga (C 13) ((2 : Int32)).toNatClampNeg) from Eq.trans (show _ = belF (ga (C (48 + (x1).toNatClampNeg)) ((1 : Int32)).toNatClampNeg) (ga (C (48 + (x1).toNatClampNeg)) ((8 : Int32)).toNatClampNeg) (ga (C (48 + (x1).toNatClampNeg)) ((9 : Int32)).toNatClampNeg) (ga (C 13) ((2 : Int32)).toNatClampNeg) (ga (C (48 + (x1).toNatClampNeg)) ((4 : Int32)).toNatClampNeg + ga (C (48 + (x1).toNatClampNeg)) ((4 : Int32)).toNatClampNeg / 10) from ((Eq.trans (pif_neg (fun h8 => h8.elim c_5 (fun h8 => absurd (Eq.trans (Eq.symm c_42) (hq_41.2.mpr h8)) (by decide)))) (pif_pos ((hf_c hk).mp (hq_44.2.mp (oh_b1 (rg_w (lo := 0) (hi := 1) (rn_nel (l' := 1) c_45 (oh_rgb hq_44.1) (rg_c (v := 0) (lo := 0) (hi := 0) (by decide)) (by decide)) (by decide)) c_45)))))).symm) (congrArg (belF (ga (C (48 + (x1).toNatClampNeg)) ((1 : Int32)).toNatClampNeg) (ga (C (48 + (x1).toNatClampNeg)) ((8 : Int32)).toNatClampNeg) (ga (C (48 + (x1).toNatClampNeg)) ((9 : Int32)).toNatClampNeg) (ga (C 13) ((2 : Int32)).toNatClampNeg)) (show _ = (ga (C (48 + (x1).toNatClampNeg)) ((4 : Int32)).toNatClampNeg + ga (C (48 + (x1).toNatClampNeg)) ((4 : Int32)).toNatClampNeg / 10) from (pif_pos (Or.inr c_24))).symm))) (pif_pos ⟨oh_b1 hx2 c_49, (rg01 hf c_5)⟩).symm), ht⟩) (fun q h => by cases h) dX7_allOf_108
        · refine lv_iconst (v := 0) hx hb dX7_allOf_66 (by decide) ?_
          refine lv_goto (tgt := 87) hx hb dX7_allOf_67 (by decide) ?_
          refine lv_istore (lv' := [(4, .int 0), (3, .int (ga (C (48 + (x1).toNatClampNeg)) ((1 : Int32)).toNatClampNeg)), (0, .ref (a 0)), (1, .int x1), (2, .int x2)]) hx hb dX7_allOf_87 hl (by decide) rfl (fun ls hl => ?_)
          refine lv_iload hx hb dX7_allOf_89 (lv_at hl 0 rfl) ?_
          refine lv_iload_n hx hb dX7_allOf_91 rfl (lv_at hl 4 rfl) ?_
          refine lv_if_eq (tgt := 106) hx hb dX7_allOf_92 (by decide) (fun (c_52 : x2 = 0) => ?_) (fun (c_52 : ¬ (x2 = 0)) => ?_)
          · refine lv_iconst (v := 0) hx hb dX7_allOf_106 (by decide) ?_
            refine lv_iadd hx hb dX7_allOf_107 ?_
            refine oh_nrm (v := 0) (by decide) ?_
            rw [hQ]
            exact W.iret (v := 0) hx hb hr (fun t ht hW => ⟨0, rfl, (fun hk hf => Eq.trans (Eq.trans rfl (show 0 = bUnF (ga (C (48 + (x1).toNatClampNeg)) ((1 : Int32)).toNatClampNeg) (ga (C (48 + (x1).toNatClampNeg)) ((4 : Int32)).toNatClampNeg) (ga (C (48 + (x1).toNatClampNeg)) ((8 : Int32)).toNatClampNeg) (ga (C (48 + (x1).toNatClampNeg)) ((9 : Int32)).toNatClampNeg) (ga (C 13) ((2 : Int32)).toNatClampNeg) from Eq.trans (show _ = belF (ga (C (48 + (x1).toNatClampNeg)) ((1 : Int32)).toNatClampNeg) (ga (C (48 + (x1).toNatClampNeg)) ((8 : Int32)).toNatClampNeg) (ga (C (48 + (x1).toNatClampNeg)) ((9 : Int32)).toNatClampNeg) (ga (C 13) ((2 : Int32)).toNatClampNeg) (ga (C (48 + (x1).toNatClampNeg)) ((4 : Int32)).toNatClampNeg + ga (C (48 + (x1).toNatClampNeg)) ((4 : Int32)).toNatClampNeg / 10) from ((pif_pos (Or.inr (hq_41.2.mp (oh_b1 (rg_w (lo := 0) (hi := 1) (rn_nel (l' := 1) c_42 (oh_rgb hq_41.1) (rg_c (v := 0) (lo := 0) (hi := 0) (by decide)) (by decide)) (by decide)) c_42))))).symm) (congrArg (belF (ga (C (48 + (x1).toNatClampNeg)) ((1 : Int32)).toNatClampNeg) (ga (C (48 + (x1).toNatClampNeg)) ((8 : Int32)).toNatClampNeg) (ga (C (48 + (x1).toNatClampNeg)) ((9 : Int32)).toNatClampNeg) (ga (C 13) ((2 : Int32)).toNatClampNeg)) (show _ = (ga (C (48 + (x1).toNatClampNeg)) ((4 : Int32)).toNatClampNeg + ga (C (48 + (x1).toNatClampNeg)) ((4 : Int32)).toNatClampNeg / 10) from (pif_pos (Or.inr c_24))).symm))) (pif_neg (fun h8 => absurd (Eq.trans (Eq.symm c_52) h8.1) (by decide))).symm), ht⟩) (fun q h => by cases h) dX7_allOf_108
          · refine lv_aload_n hx hb dX7_allOf_95 rfl (lv_at hl 2 rfl) ?_
            refine va_get (D := D) (ci := 7) (v := .ref (a 10)) (C := RX7) (T := TX7) (N := 29) hx hb htg ig_7 hown hK hP 0 (oh_wg (Nat.lt_of_lt_of_le (by decide) hn) (sM_0 hT)) rfl 12 (by decide) (htg _ q_985) (fun _ h9 => h9) rfl dX7_allOf_96 ?_
            refine lv_iload_n hx hb dX7_allOf_99 rfl (lv_at hl 3 rfl) ?_
            have n_53 : vp_in x1 16 := (rg_in hx1 (by decide))
            have b_54 : (x1).toNatClampNeg < 16 := vp_lt n_53
            refine th_aald hx hb hK hP 10 2 (Nat.lt_of_lt_of_le (by decide) hn) (sM_10 hT) rfl n_53 dX7_allOf_100 ?_
            refine lv_iconst (v := 5) hx hb dX7_allOf_101 (by decide) ?_
            refine th_iald hx hb hK hP (48 + (x1).toNatClampNeg) (lt_blk b_54 hn (by decide)) (hT.bbridge b_54).1 (rg_in (rg_c (v := 5) (lo := 5) (hi := 5) (by decide)) (by decide)) dX7_allOf_102 ?_
            refine lv_goto (tgt := 107) hx hb dX7_allOf_103 (by decide) ?_
            refine lv_iadd hx hb dX7_allOf_107 ?_
            rw [hQ]
            exact W.iret (v := 0 + (ga (C (48 + (x1).toNatClampNeg)) ((5 : Int32)).toNatClampNeg)) hx hb hr (fun t ht hW => ⟨0 + (ga (C (48 + (x1).toNatClampNeg)) ((5 : Int32)).toNatClampNeg), rfl, (fun hk hf => Eq.trans (congrArg (fun z => z + ga (C (48 + (x1).toNatClampNeg)) ((5 : Int32)).toNatClampNeg) (show 0 = bUnF (ga (C (48 + (x1).toNatClampNeg)) ((1 : Int32)).toNatClampNeg) (ga (C (48 + (x1).toNatClampNeg)) ((4 : Int32)).toNatClampNeg) (ga (C (48 + (x1).toNatClampNeg)) ((8 : Int32)).toNatClampNeg) (ga (C (48 + (x1).toNatClampNeg)) ((9 : Int32)).toNatClampNeg) (ga (C 13) ((2 : Int32)).toNatClampNeg) from Eq.trans (show _ = belF (ga (C (48 + (x1).toNatClampNeg)) ((1 : Int32)).toNatClampNeg) (ga (C (48 + (x1).toNatClampNeg)) ((8 : Int32)).toNatClampNeg) (ga (C (48 + (x1).toNatClampNeg)) ((9 : Int32)).toNatClampNeg) (ga (C 13) ((2 : Int32)).toNatClampNeg) (ga (C (48 + (x1).toNatClampNeg)) ((4 : Int32)).toNatClampNeg + ga (C (48 + (x1).toNatClampNeg)) ((4 : Int32)).toNatClampNeg / 10) from ((pif_pos (Or.inr (hq_41.2.mp (oh_b1 (rg_w (lo := 0) (hi := 1) (rn_nel (l' := 1) c_42 (oh_rgb hq_41.1) (rg_c (v := 0) (lo := 0) (hi := 0) (by decide)) (by decide)) (by decide)) c_42))))).symm) (congrArg (belF (ga (C (48 + (x1).toNatClampNeg)) ((1 : Int32)).toNatClampNeg) (ga (C (48 + (x1).toNatClampNeg)) ((8 : Int32)).toNatClampNeg) (ga (C (48 + (x1).toNatClampNeg)) ((9 : Int32)).toNatClampNeg) (ga (C 13) ((2 : Int32)).toNatClampNeg)) (show _ = (ga (C (48 + (x1).toNatClampNeg)) ((4 : Int32)).toNatClampNeg + ga (C (48 + (x1).toNatClampNeg)) ((4 : Int32)).toNatClampNeg / 10) from (pif_pos (Or.inr c_24))).symm))) (pif_pos ⟨oh_b1 hx2 c_52, (rg01 hf c_5)⟩).symm), ht⟩) (fun q h => by cases h) dX7_allOf_108
  · refine lv_iconst (v := 0) hx hb dX7_allOf_22 (by decide) ?_
    rw [hQ]
    exact W.iret (v := 0) hx hb hr (fun t ht hW => ⟨0, rfl, (fun hk hf => (Eq.trans (pif_neg (fun h8 => absurd (Eq.trans (Eq.symm c_5) h8.2) (by decide))) (pif_pos (Or.inl c_5))).symm), ht⟩) (fun q h => by cases h) dX7_allOf_23

set_option maxHeartbeats 4000000 in
set_option maxRecDepth 100000 in
theorem e_X7_needsOf (l : Launch) (D : va_G) (E : Nat → ClassId) (G : Nat → Nat) (a : Nat → Nat) (C : Nat → va_E) (n : Nat) (hn : 74 ≤ n) (hT : TyM a E C) (x1 : Int32) (x2 : Int32) (x3 : Int32) (hx1 : rg x1 0 4) (hx3 : rg x3 0 15) (hw : oh_pos C x1) : Met l yX7_needsOf (oh_w yX7_needsOf cX7_needsOf 6 (some .int)) ({ frames := 2, cells := 0, slots := 0, locals := 48 }) (oh_Pp D E G [.ref (a 0), .int x1, .int x2, .int x3] (oh_W n a C)) (vp_Si (fun r => (∀ A : LA, absM C A → okA A → x1 < A 5 0 2 → x3 < A 5 0 1 → r = ndA A x1 x2 x3.toNatClampNeg))) 0 0 (fun _ => False) := by
  refine Met.ofW (cc := cX7_needsOf) (maxL := 6) (ret := (some .int)) (by decide) rfl ?_
  intro p e s m args below meth c s₁ B hml hv
  obtain ⟨rfl, hP, hK, hG⟩ := hv
  have hx := B.exec
  have hb := B.bytes
  have hr := B.returns
  have hts := atoms_spec (ws := (oh_w yX7_needsOf cX7_needsOf 6 (some .int))) B.pre
  have htg : ∀ w ∈ oh_t, w.before _ s = true := fun w h => hts w (List.mem_cons_of_mem _ h)
  have hown : s.vm.findClass RX7 = some m.cls := findClass_of_methodNamed B.named
  have hlocks := B.notSynchronized
  have hT0 := hT
  have hS : va_S (fun _ => False) s.heap s.heap [] := va_S.rf
  have hl := lv_entry ([.ref (a 0), .int x1, .int x2, .int x3]) (n := 6) (Nat.le_of_ble_eq_true rfl)
  rw [lg_entry_eq]
  generalize (lg_sl ([.ref (a 0), .int x1, .int x2, .int x3]) ++ List.replicate (6 - (lg_sl ([.ref (a 0), .int x1, .int x2, .int x3])).length) Slot.unset).toArray = ls at hl ⊢
  have hl : lv_has ls 6 [(0, .ref (a 0)), (1, .int x1), (2, .int x2), (3, .int x3)] := hl
  refine oh_genQ (fun Q hQ => ?_)
  refine lv_aload_n hx hb dX7_needsOf_0 rfl (lv_at hl 0 rfl) ?_
  refine lv_iload_n hx hb dX7_needsOf_1 rfl (lv_at hl 1 rfl) ?_
  refine lv_iload_n hx hb dX7_needsOf_2 rfl (lv_at hl 2 rfl) ?_
  refine tq_V (As := [.int x1, .int x2]) (rest := []) (ws := (oh_W n a C)) ⟨hx, hb, hml, hown, htg⟩ (e_X7_axleLoad l D E G a C n hn hT x1 x2 (rg_w hx1 (by decide)) hw) (cwV 2 htg (oh_gV q_1294 q_1296 q_51 q_73 q_1297) rfl rfl rfl pdVX7_axleLoad ⟨Nat.le_of_ble_eq_true rfl, Nat.le_of_ble_eq_true rfl⟩) hK hP hG hS (va_recv hK hP (ci := 7) (q0 := 0) rfl (oh_wg (Nat.lt_of_lt_of_le (by decide) hn) (sM_0 hT))) rfl hl.1 rfl (Nat.le_of_ble_eq_true rfl) dX7_needsOf_3 ⟨Nat.le_of_ble_eq_true rfl, Nat.le_of_ble_eq_true rfl⟩ (fun r_1 hq_2 => ?_)
  refine lv_aload_n hx hb dX7_needsOf_6 rfl (lv_at hl 0 rfl) ?_
  refine lv_iload_n hx hb dX7_needsOf_7 rfl (lv_at hl 3 rfl) ?_
  refine tq_V (As := [.int x3]) (rest := [.int r_1]) (ws := (oh_W n a C)) ⟨hx, hb, hml, hown, htg⟩ (e_X7_axleOf l D E G a C n hn hT x3 (rg_w hx3 (by decide))) (cwV 1 htg (oh_gV q_1110 q_1112 q_31 q_73 q_1113) rfl rfl rfl pdVX7_axleOf ⟨Nat.le_of_ble_eq_true rfl, Nat.le_of_ble_eq_true rfl⟩) hK hP hG hS (va_recv hK hP (ci := 7) (q0 := 0) rfl (oh_wg (Nat.lt_of_lt_of_le (by decide) hn) (sM_0 hT))) rfl hl.1 rfl (Nat.le_of_ble_eq_true rfl) dX7_needsOf_8 ⟨Nat.le_of_ble_eq_true rfl, Nat.le_of_ble_eq_true rfl⟩ (fun r_3 hq_4 => ?_)
  refine lv_icmp_le (tgt := 16) hx hb dX7_needsOf_11 (by decide) (fun (c_5 : r_1 ≤ r_3) => ?_) (fun (c_5 : ¬ (r_1 ≤ r_3)) => ?_)
  · refine lv_aload_n hx hb dX7_needsOf_16 rfl (lv_at hl 0 rfl) ?_
    refine lv_iload_n hx hb dX7_needsOf_17 rfl (lv_at hl 1 rfl) ?_
    refine lv_iload_n hx hb dX7_needsOf_18 rfl (lv_at hl 2 rfl) ?_
    refine lv_iload_n hx hb dX7_needsOf_19 rfl (lv_at hl 3 rfl) ?_
    refine tq_V (As := [.int x1, .int x2, .int x3]) (rest := []) (ws := (oh_W n a C)) ⟨hx, hb, hml, hown, htg⟩ (e_X7_strainOf l D E G a C n hn hT x1 x2 x3 (rg_w hx1 (by decide)) (rg_w hx3 (by decide)) hw) (cwV 3 htg (oh_gV q_1302 q_1304 q_52 q_73 q_1305) rfl rfl rfl pdVX7_strainOf ⟨Nat.le_of_ble_eq_true rfl, Nat.le_of_ble_eq_true rfl⟩) hK hP hG hS (va_recv hK hP (ci := 7) (q0 := 0) rfl (oh_wg (Nat.lt_of_lt_of_le (by decide) hn) (sM_0 hT))) rfl hl.1 rfl (Nat.le_of_ble_eq_true rfl) dX7_needsOf_20 ⟨Nat.le_of_ble_eq_true rfl, Nat.le_of_ble_eq_true rfl⟩ (fun r_6 hq_7 => ?_)
    refine lv_istore (lv' := [(4, .int r_6), (0, .ref (a 0)), (1, .int x1), (2, .int x2), (3, .int x3)]) hx hb dX7_needsOf_23 hl (by decide) rfl (fun ls hl => ?_)
    refine lv_aload_n hx hb dX7_needsOf_25 rfl (lv_at hl 1 rfl) ?_
    refine va_get (D := D) (ci := 7) (v := .ref (a 10)) (C := RX7) (T := TX7) (N := 29) hx hb htg ig_7 hown hK hP 0 (oh_wg (Nat.lt_of_lt_of_le (by decide) hn) (sM_0 hT)) rfl 12 (by decide) (htg _ q_985) (fun _ h9 => h9) rfl dX7_needsOf_26 ?_
    refine lv_iload_n hx hb dX7_needsOf_29 rfl (lv_at hl 4 rfl) ?_
    have n_8 : vp_in x3 16 := (rg_in hx3 (by decide))
    have b_9 : (x3).toNatClampNeg < 16 := vp_lt n_8
    refine th_aald hx hb hK hP 10 2 (Nat.lt_of_lt_of_le (by decide) hn) (sM_10 hT) rfl n_8 dX7_needsOf_30 ?_
    refine lv_bipush (v := 7) hx hb dX7_needsOf_31 (by decide) ?_
    refine th_iald hx hb hK hP (48 + (x3).toNatClampNeg) (lt_blk b_9 hn (by decide)) (hT.bbridge b_9).1 (rg_in (rg_c (v := 7) (lo := 7) (hi := 7) (by decide)) (by decide)) dX7_needsOf_33 ?_
    refine lv_iconst (v := 1) hx hb dX7_needsOf_34 (by decide) ?_
    refine lv_icmp_ne (tgt := 42) hx hb dX7_needsOf_35 (by decide) (fun (c_10 : ¬ ((ga (C (48 + (x3).toNatClampNeg)) ((7 : Int32)).toNatClampNeg) = 1)) => ?_) (fun (c_10 : (ga (C (48 + (x3).toNatClampNeg)) ((7 : Int32)).toNatClampNeg) = 1) => ?_)
    · refine lv_iconst (v := 0) hx hb dX7_needsOf_42 (by decide) ?_
      refine lv_istore (lv' := [(5, .int 0), (4, .int r_6), (0, .ref (a 0)), (1, .int x1), (2, .int x2), (3, .int x3)]) hx hb dX7_needsOf_43 hl (by decide) rfl (fun ls hl => ?_)
      refine lv_iload hx hb dX7_needsOf_45 (lv_at hl 1 rfl) ?_
      refine lv_aload_n hx hb dX7_needsOf_47 rfl (lv_at hl 2 rfl) ?_
      refine lv_iload_n hx hb dX7_needsOf_48 rfl (lv_at hl 5 rfl) ?_
      refine lv_iload hx hb dX7_needsOf_49 (lv_at hl 0 rfl) ?_
      refine tq_V (As := [.int x3, .int 0]) (rest := [.int r_6]) (ws := (oh_W n a C)) ⟨hx, hb, hml, hown, htg⟩ (e_X7_allOf l D E G a C n hn hT x3 (0 : Int32) (rg_w hx3 (by decide)) (rg_w (rg_c (v := 0) (lo := 0) (hi := 0) (by decide)) (by decide))) (cwV 2 htg (oh_gV q_1122 q_1124 q_34 q_73 q_1125) rfl rfl rfl pdVX7_allOf ⟨Nat.le_of_ble_eq_true rfl, Nat.le_of_ble_eq_true rfl⟩) hK hP hG hS (va_recv hK hP (ci := 7) (q0 := 0) rfl (oh_wg (Nat.lt_of_lt_of_le (by decide) hn) (sM_0 hT))) rfl hl.1 rfl (Nat.le_of_ble_eq_true rfl) dX7_needsOf_51 ⟨Nat.le_of_ble_eq_true rfl, Nat.le_of_ble_eq_true rfl⟩ (fun r_11 hq_12 => ?_)
      refine lv_icmp_gt (tgt := 59) hx hb dX7_needsOf_54 (by decide) (fun (c_13 : r_11 < r_6) => ?_) (fun (c_13 : ¬ (r_11 < r_6)) => ?_)
      · refine lv_iload hx hb dX7_needsOf_59 (lv_at hl 0 rfl) ?_
        refine lv_if_ne (tgt := 91) hx hb dX7_needsOf_61 (by decide) (fun c => absurd (show (0 : Int32) = 0 from by decide) c) (fun _ => ?_)
        refine lv_aload_n hx hb dX7_needsOf_64 rfl (lv_at hl 2 rfl) ?_
        refine va_get (D := D) (ci := 7) (v := .ref (a 10)) (C := RX7) (T := TX7) (N := 29) hx hb htg ig_7 hown hK hP 0 (oh_wg (Nat.lt_of_lt_of_le (by decide) hn) (sM_0 hT)) rfl 12 (by decide) (htg _ q_985) (fun _ h9 => h9) rfl dX7_needsOf_65 ?_
        refine lv_iload_n hx hb dX7_needsOf_68 rfl (lv_at hl 5 rfl) ?_
        have n_14 : vp_in x3 16 := (rg_in hx3 (by decide))
        have b_15 : (x3).toNatClampNeg < 16 := vp_lt n_14
        refine th_aald hx hb hK hP 10 2 (Nat.lt_of_lt_of_le (by decide) hn) (sM_10 hT) rfl n_14 dX7_needsOf_69 ?_
        refine lv_iconst (v := 1) hx hb dX7_needsOf_70 (by decide) ?_
        refine th_iald hx hb hK hP (48 + (x3).toNatClampNeg) (lt_blk b_15 hn (by decide)) (hT.bbridge b_15).1 (rg_in (rg_c (v := 1) (lo := 1) (hi := 1) (by decide)) (by decide)) dX7_needsOf_71 ?_
        refine lv_iconst (v := 3) hx hb dX7_needsOf_72 (by decide) ?_
        refine lv_icmp_eq (tgt := 91) hx hb dX7_needsOf_73 (by decide) (fun (c_16 : (ga (C (48 + (x3).toNatClampNeg)) ((1 : Int32)).toNatClampNeg) = 3) => ?_) (fun (c_16 : ¬ ((ga (C (48 + (x3).toNatClampNeg)) ((1 : Int32)).toNatClampNeg) = 3)) => ?_)
        · refine lv_iconst (v := 2) hx hb dX7_needsOf_91 (by decide) ?_
          rw [hQ]
          exact W.iret (v := 2) hx hb hr (fun t ht hW => ⟨2, rfl, (fun A hA hok hl hb => by have i3 : rg x3 0 15 := hx3; have c0 : ga (C (48 + (x3).toNatClampNeg)) ((0 : Int32)).toNatClampNeg = A 1 x3.toNatClampNeg 0 := colM_v (t := 1) hA (by decide) i3 (by decide) hb (by unfold vis; omega); have c1 : ga (C (48 + (x3).toNatClampNeg)) ((1 : Int32)).toNatClampNeg = A 1 x3.toNatClampNeg 1 := colM_v (t := 1) hA (by decide) i3 (by decide) hb (by unfold vis; omega); have c2 : ga (C (48 + (x3).toNatClampNeg)) ((2 : Int32)).toNatClampNeg = A 1 x3.toNatClampNeg 2 := colM_v (t := 1) hA (by decide) i3 (by decide) hb (by unfold vis; omega); have c3 : ga (C (48 + (x3).toNatClampNeg)) ((3 : Int32)).toNatClampNeg = A 1 x3.toNatClampNeg 3 := colM_v (t := 1) hA (by decide) i3 (by decide) hb (by unfold vis; omega); have c4 : ga (C (48 + (x3).toNatClampNeg)) ((4 : Int32)).toNatClampNeg = A 1 x3.toNatClampNeg 4 := colM_v (t := 1) hA (by decide) i3 (by decide) hb (by unfold vis; omega); have c5 : ga (C (48 + (x3).toNatClampNeg)) ((5 : Int32)).toNatClampNeg = A 1 x3.toNatClampNeg 5 := colM_v (t := 1) hA (by decide) i3 (by decide) hb (by unfold vis; omega); have c6 : ga (C (48 + (x3).toNatClampNeg)) ((6 : Int32)).toNatClampNeg = A 1 x3.toNatClampNeg 6 := colM_v (t := 1) hA (by decide) i3 (by decide) hb (by unfold vis; omega); have c7 : ga (C (48 + (x3).toNatClampNeg)) ((7 : Int32)).toNatClampNeg = A 1 x3.toNatClampNeg 7 := colM_v (t := 1) hA (by decide) i3 (by decide) hb (by unfold vis; omega); have c8 : ga (C (48 + (x3).toNatClampNeg)) ((8 : Int32)).toNatClampNeg = A 1 x3.toNatClampNeg 8 := colM_v (t := 1) hA (by decide) i3 (by decide) hb (by unfold vis; omega); have c9 : ga (C (48 + (x3).toNatClampNeg)) ((9 : Int32)).toNatClampNeg = A 1 x3.toNatClampNeg 9 := colM_v (t := 1) hA (by decide) i3 (by decide) hb (by unfold vis; omega); have cf : ga (C 13) ((2 : Int32)).toNatClampNeg = A 4 0 2 := hA.2.1 2 (by decide); have hv := hok.2.2.2.1 x3.toNatClampNeg (by rw [oh_nat i3 (by decide)]; exact Int32.lt_iff_toInt_lt.mp hb); have hk : (ga (C (48 + (x3).toNatClampNeg)) ((1 : Int32)).toNatClampNeg).toInt ≤ 5 := (by rw [c1]; exact hv.2.1.2); have hf : rg (ga (C (48 + (x3).toNatClampNeg)) ((8 : Int32)).toNatClampNeg) 0 1 := (by rw [c8]; exact hv.2.2.2.2.2.2.2.2.1); have w0 : ga (C (64 + (x1).toNatClampNeg)) ((0 : Int32)).toNatClampNeg = A 2 x1.toNatClampNeg 0 := colM_v (t := 2) hA (by decide) hx1 (by decide) hl (by unfold vis; omega); have w1 : ga (C (64 + (x1).toNatClampNeg)) ((1 : Int32)).toNatClampNeg = A 2 x1.toNatClampNeg 1 := colM_v (t := 2) hA (by decide) hx1 (by decide) hl (by unfold vis; omega); have w2 : ga (C (64 + (x1).toNatClampNeg)) ((2 : Int32)).toNatClampNeg = A 2 x1.toNatClampNeg 2 := colM_v (t := 2) hA (by decide) hx1 (by decide) hl (by unfold vis; omega); have ws : ga (C 13) ((0 : Int32)).toNatClampNeg = A 4 0 0 := hA.2.1 0 (by decide); have el : r_1 = aL A x1 x2 := (by rw [hq_2 A hA, w0, w2, ws]; rfl); have ex : r_3 = bAxF (A 1 x3.toNatClampNeg 1) (A 1 x3.toNatClampNeg 3) (A 1 x3.toNatClampNeg 8) (A 1 x3.toNatClampNeg 9) (A 4 0 2) := (by rw [hq_4 hk, c1, c3, c8, c9, cf]); have es : r_6 = snA A x1 x2 x3.toNatClampNeg := (by rw [hq_7 A hA, c2, w0, w1, w2, ws]; rfl); have ea0 : r_11 = bAlF (A 1 x3.toNatClampNeg 7 = 1) (A 1 x3.toNatClampNeg 1) (A 1 x3.toNatClampNeg 4) (A 1 x3.toNatClampNeg 5) (A 1 x3.toNatClampNeg 8) (A 1 x3.toNatClampNeg 9) (A 4 0 2) := (by rw [hq_12 hk hf, c1, c4, c5, c8, c9, cf]; exact bAlF_c ⟨fun h8 => absurd h8 (by decide), fun h8 => absurd (Eq.trans c7 h8) c_10⟩); exact ((Eq.trans (pif_neg (show ¬ (bAxF (A 1 x3.toNatClampNeg 1) (A 1 x3.toNatClampNeg 3) (A 1 x3.toNatClampNeg 8) (A 1 x3.toNatClampNeg 9) (A 4 0 2) < aL A x1 x2) by rw [← ex, ← el]; exact (Int32.not_lt.mpr c_5))) (Eq.trans (pif_neg (show ¬ (snA A x1 x2 x3.toNatClampNeg ≤ bAlF (A 1 x3.toNatClampNeg 7 = 1) (A 1 x3.toNatClampNeg 1) (A 1 x3.toNatClampNeg 4) (A 1 x3.toNatClampNeg 5) (A 1 x3.toNatClampNeg 8) (A 1 x3.toNatClampNeg 9) (A 4 0 2)) by rw [← es, ← ea0]; exact (Int32.not_le.mpr c_13))) (pif_pos (Or.inr (Eq.trans c1.symm c_16)))))).symm), ht⟩) (fun q h => by cases h) dX7_needsOf_92
        · refine lv_iload hx hb dX7_needsOf_76 (lv_at hl 1 rfl) ?_
          refine lv_aload_n hx hb dX7_needsOf_78 rfl (lv_at hl 2 rfl) ?_
          refine lv_iload_n hx hb dX7_needsOf_79 rfl (lv_at hl 5 rfl) ?_
          refine lv_iconst (v := 1) hx hb dX7_needsOf_80 (by decide) ?_
          refine tq_V (As := [.int x3, .int 1]) (rest := [.int r_6]) (ws := (oh_W n a C)) ⟨hx, hb, hml, hown, htg⟩ (e_X7_allOf l D E G a C n hn hT x3 (1 : Int32) (rg_w hx3 (by decide)) (rg_w (rg_c (v := 1) (lo := 1) (hi := 1) (by decide)) (by decide))) (cwV 2 htg (oh_gV q_1122 q_1124 q_34 q_73 q_1125) rfl rfl rfl pdVX7_allOf ⟨Nat.le_of_ble_eq_true rfl, Nat.le_of_ble_eq_true rfl⟩) hK hP hG hS (va_recv hK hP (ci := 7) (q0 := 0) rfl (oh_wg (Nat.lt_of_lt_of_le (by decide) hn) (sM_0 hT))) rfl hl.1 rfl (Nat.le_of_ble_eq_true rfl) dX7_needsOf_81 ⟨Nat.le_of_ble_eq_true rfl, Nat.le_of_ble_eq_true rfl⟩ (fun r_17 hq_18 => ?_)
          refine lv_icmp_gt (tgt := 91) hx hb dX7_needsOf_84 (by decide) (fun (c_19 : r_17 < r_6) => ?_) (fun (c_19 : ¬ (r_17 < r_6)) => ?_)
          · refine lv_iconst (v := 2) hx hb dX7_needsOf_91 (by decide) ?_
            rw [hQ]
            exact W.iret (v := 2) hx hb hr (fun t ht hW => ⟨2, rfl, (fun A hA hok hl hb => by have i3 : rg x3 0 15 := hx3; have c0 : ga (C (48 + (x3).toNatClampNeg)) ((0 : Int32)).toNatClampNeg = A 1 x3.toNatClampNeg 0 := colM_v (t := 1) hA (by decide) i3 (by decide) hb (by unfold vis; omega); have c1 : ga (C (48 + (x3).toNatClampNeg)) ((1 : Int32)).toNatClampNeg = A 1 x3.toNatClampNeg 1 := colM_v (t := 1) hA (by decide) i3 (by decide) hb (by unfold vis; omega); have c2 : ga (C (48 + (x3).toNatClampNeg)) ((2 : Int32)).toNatClampNeg = A 1 x3.toNatClampNeg 2 := colM_v (t := 1) hA (by decide) i3 (by decide) hb (by unfold vis; omega); have c3 : ga (C (48 + (x3).toNatClampNeg)) ((3 : Int32)).toNatClampNeg = A 1 x3.toNatClampNeg 3 := colM_v (t := 1) hA (by decide) i3 (by decide) hb (by unfold vis; omega); have c4 : ga (C (48 + (x3).toNatClampNeg)) ((4 : Int32)).toNatClampNeg = A 1 x3.toNatClampNeg 4 := colM_v (t := 1) hA (by decide) i3 (by decide) hb (by unfold vis; omega); have c5 : ga (C (48 + (x3).toNatClampNeg)) ((5 : Int32)).toNatClampNeg = A 1 x3.toNatClampNeg 5 := colM_v (t := 1) hA (by decide) i3 (by decide) hb (by unfold vis; omega); have c6 : ga (C (48 + (x3).toNatClampNeg)) ((6 : Int32)).toNatClampNeg = A 1 x3.toNatClampNeg 6 := colM_v (t := 1) hA (by decide) i3 (by decide) hb (by unfold vis; omega); have c7 : ga (C (48 + (x3).toNatClampNeg)) ((7 : Int32)).toNatClampNeg = A 1 x3.toNatClampNeg 7 := colM_v (t := 1) hA (by decide) i3 (by decide) hb (by unfold vis; omega); have c8 : ga (C (48 + (x3).toNatClampNeg)) ((8 : Int32)).toNatClampNeg = A 1 x3.toNatClampNeg 8 := colM_v (t := 1) hA (by decide) i3 (by decide) hb (by unfold vis; omega); have c9 : ga (C (48 + (x3).toNatClampNeg)) ((9 : Int32)).toNatClampNeg = A 1 x3.toNatClampNeg 9 := colM_v (t := 1) hA (by decide) i3 (by decide) hb (by unfold vis; omega); have cf : ga (C 13) ((2 : Int32)).toNatClampNeg = A 4 0 2 := hA.2.1 2 (by decide); have hv := hok.2.2.2.1 x3.toNatClampNeg (by rw [oh_nat i3 (by decide)]; exact Int32.lt_iff_toInt_lt.mp hb); have hk : (ga (C (48 + (x3).toNatClampNeg)) ((1 : Int32)).toNatClampNeg).toInt ≤ 5 := (by rw [c1]; exact hv.2.1.2); have hf : rg (ga (C (48 + (x3).toNatClampNeg)) ((8 : Int32)).toNatClampNeg) 0 1 := (by rw [c8]; exact hv.2.2.2.2.2.2.2.2.1); have w0 : ga (C (64 + (x1).toNatClampNeg)) ((0 : Int32)).toNatClampNeg = A 2 x1.toNatClampNeg 0 := colM_v (t := 2) hA (by decide) hx1 (by decide) hl (by unfold vis; omega); have w1 : ga (C (64 + (x1).toNatClampNeg)) ((1 : Int32)).toNatClampNeg = A 2 x1.toNatClampNeg 1 := colM_v (t := 2) hA (by decide) hx1 (by decide) hl (by unfold vis; omega); have w2 : ga (C (64 + (x1).toNatClampNeg)) ((2 : Int32)).toNatClampNeg = A 2 x1.toNatClampNeg 2 := colM_v (t := 2) hA (by decide) hx1 (by decide) hl (by unfold vis; omega); have ws : ga (C 13) ((0 : Int32)).toNatClampNeg = A 4 0 0 := hA.2.1 0 (by decide); have el : r_1 = aL A x1 x2 := (by rw [hq_2 A hA, w0, w2, ws]; rfl); have ex : r_3 = bAxF (A 1 x3.toNatClampNeg 1) (A 1 x3.toNatClampNeg 3) (A 1 x3.toNatClampNeg 8) (A 1 x3.toNatClampNeg 9) (A 4 0 2) := (by rw [hq_4 hk, c1, c3, c8, c9, cf]); have es : r_6 = snA A x1 x2 x3.toNatClampNeg := (by rw [hq_7 A hA, c2, w0, w1, w2, ws]; rfl); have ea0 : r_11 = bAlF (A 1 x3.toNatClampNeg 7 = 1) (A 1 x3.toNatClampNeg 1) (A 1 x3.toNatClampNeg 4) (A 1 x3.toNatClampNeg 5) (A 1 x3.toNatClampNeg 8) (A 1 x3.toNatClampNeg 9) (A 4 0 2) := (by rw [hq_12 hk hf, c1, c4, c5, c8, c9, cf]; exact bAlF_c ⟨fun h8 => absurd h8 (by decide), fun h8 => absurd (Eq.trans c7 h8) c_10⟩); have ea1 : r_17 = bAlF (True) (A 1 x3.toNatClampNeg 1) (A 1 x3.toNatClampNeg 4) (A 1 x3.toNatClampNeg 5) (A 1 x3.toNatClampNeg 8) (A 1 x3.toNatClampNeg 9) (A 4 0 2) := (by rw [hq_18 hk hf, c1, c4, c5, c8, c9, cf]; exact bAlF_c ⟨fun _ => trivial, fun _ => rfl⟩); exact ((Eq.trans (pif_neg (show ¬ (bAxF (A 1 x3.toNatClampNeg 1) (A 1 x3.toNatClampNeg 3) (A 1 x3.toNatClampNeg 8) (A 1 x3.toNatClampNeg 9) (A 4 0 2) < aL A x1 x2) by rw [← ex, ← el]; exact (Int32.not_lt.mpr c_5))) (Eq.trans (pif_neg (show ¬ (snA A x1 x2 x3.toNatClampNeg ≤ bAlF (A 1 x3.toNatClampNeg 7 = 1) (A 1 x3.toNatClampNeg 1) (A 1 x3.toNatClampNeg 4) (A 1 x3.toNatClampNeg 5) (A 1 x3.toNatClampNeg 8) (A 1 x3.toNatClampNeg 9) (A 4 0 2)) by rw [← es, ← ea0]; exact (Int32.not_le.mpr c_13))) (Eq.trans (pif_neg (fun h8 => h8.elim (fun h8 => c_10 (Eq.trans c7 h8)) (fun h8 => c_16 (Eq.trans c1 h8)))) (pif_neg (show ¬ (snA A x1 x2 x3.toNatClampNeg ≤ bAlF (True) (A 1 x3.toNatClampNeg 1) (A 1 x3.toNatClampNeg 4) (A 1 x3.toNatClampNeg 5) (A 1 x3.toNatClampNeg 8) (A 1 x3.toNatClampNeg 9) (A 4 0 2)) by rw [← es, ← ea1]; exact (Int32.not_le.mpr c_19))))))).symm), ht⟩) (fun q h => by cases h) dX7_needsOf_92
          · refine lv_iconst (v := 1) hx hb dX7_needsOf_87 (by decide) ?_
            refine lv_goto (tgt := 92) hx hb dX7_needsOf_88 (by decide) ?_
            rw [hQ]
            exact W.iret (v := 1) hx hb hr (fun t ht hW => ⟨1, rfl, (fun A hA hok hl hb => by have i3 : rg x3 0 15 := hx3; have c0 : ga (C (48 + (x3).toNatClampNeg)) ((0 : Int32)).toNatClampNeg = A 1 x3.toNatClampNeg 0 := colM_v (t := 1) hA (by decide) i3 (by decide) hb (by unfold vis; omega); have c1 : ga (C (48 + (x3).toNatClampNeg)) ((1 : Int32)).toNatClampNeg = A 1 x3.toNatClampNeg 1 := colM_v (t := 1) hA (by decide) i3 (by decide) hb (by unfold vis; omega); have c2 : ga (C (48 + (x3).toNatClampNeg)) ((2 : Int32)).toNatClampNeg = A 1 x3.toNatClampNeg 2 := colM_v (t := 1) hA (by decide) i3 (by decide) hb (by unfold vis; omega); have c3 : ga (C (48 + (x3).toNatClampNeg)) ((3 : Int32)).toNatClampNeg = A 1 x3.toNatClampNeg 3 := colM_v (t := 1) hA (by decide) i3 (by decide) hb (by unfold vis; omega); have c4 : ga (C (48 + (x3).toNatClampNeg)) ((4 : Int32)).toNatClampNeg = A 1 x3.toNatClampNeg 4 := colM_v (t := 1) hA (by decide) i3 (by decide) hb (by unfold vis; omega); have c5 : ga (C (48 + (x3).toNatClampNeg)) ((5 : Int32)).toNatClampNeg = A 1 x3.toNatClampNeg 5 := colM_v (t := 1) hA (by decide) i3 (by decide) hb (by unfold vis; omega); have c6 : ga (C (48 + (x3).toNatClampNeg)) ((6 : Int32)).toNatClampNeg = A 1 x3.toNatClampNeg 6 := colM_v (t := 1) hA (by decide) i3 (by decide) hb (by unfold vis; omega); have c7 : ga (C (48 + (x3).toNatClampNeg)) ((7 : Int32)).toNatClampNeg = A 1 x3.toNatClampNeg 7 := colM_v (t := 1) hA (by decide) i3 (by decide) hb (by unfold vis; omega); have c8 : ga (C (48 + (x3).toNatClampNeg)) ((8 : Int32)).toNatClampNeg = A 1 x3.toNatClampNeg 8 := colM_v (t := 1) hA (by decide) i3 (by decide) hb (by unfold vis; omega); have c9 : ga (C (48 + (x3).toNatClampNeg)) ((9 : Int32)).toNatClampNeg = A 1 x3.toNatClampNeg 9 := colM_v (t := 1) hA (by decide) i3 (by decide) hb (by unfold vis; omega); have cf : ga (C 13) ((2 : Int32)).toNatClampNeg = A 4 0 2 := hA.2.1 2 (by decide); have hv := hok.2.2.2.1 x3.toNatClampNeg (by rw [oh_nat i3 (by decide)]; exact Int32.lt_iff_toInt_lt.mp hb); have hk : (ga (C (48 + (x3).toNatClampNeg)) ((1 : Int32)).toNatClampNeg).toInt ≤ 5 := (by rw [c1]; exact hv.2.1.2); have hf : rg (ga (C (48 + (x3).toNatClampNeg)) ((8 : Int32)).toNatClampNeg) 0 1 := (by rw [c8]; exact hv.2.2.2.2.2.2.2.2.1); have w0 : ga (C (64 + (x1).toNatClampNeg)) ((0 : Int32)).toNatClampNeg = A 2 x1.toNatClampNeg 0 := colM_v (t := 2) hA (by decide) hx1 (by decide) hl (by unfold vis; omega); have w1 : ga (C (64 + (x1).toNatClampNeg)) ((1 : Int32)).toNatClampNeg = A 2 x1.toNatClampNeg 1 := colM_v (t := 2) hA (by decide) hx1 (by decide) hl (by unfold vis; omega); have w2 : ga (C (64 + (x1).toNatClampNeg)) ((2 : Int32)).toNatClampNeg = A 2 x1.toNatClampNeg 2 := colM_v (t := 2) hA (by decide) hx1 (by decide) hl (by unfold vis; omega); have ws : ga (C 13) ((0 : Int32)).toNatClampNeg = A 4 0 0 := hA.2.1 0 (by decide); have el : r_1 = aL A x1 x2 := (by rw [hq_2 A hA, w0, w2, ws]; rfl); have ex : r_3 = bAxF (A 1 x3.toNatClampNeg 1) (A 1 x3.toNatClampNeg 3) (A 1 x3.toNatClampNeg 8) (A 1 x3.toNatClampNeg 9) (A 4 0 2) := (by rw [hq_4 hk, c1, c3, c8, c9, cf]); have es : r_6 = snA A x1 x2 x3.toNatClampNeg := (by rw [hq_7 A hA, c2, w0, w1, w2, ws]; rfl); have ea0 : r_11 = bAlF (A 1 x3.toNatClampNeg 7 = 1) (A 1 x3.toNatClampNeg 1) (A 1 x3.toNatClampNeg 4) (A 1 x3.toNatClampNeg 5) (A 1 x3.toNatClampNeg 8) (A 1 x3.toNatClampNeg 9) (A 4 0 2) := (by rw [hq_12 hk hf, c1, c4, c5, c8, c9, cf]; exact bAlF_c ⟨fun h8 => absurd h8 (by decide), fun h8 => absurd (Eq.trans c7 h8) c_10⟩); have ea1 : r_17 = bAlF (True) (A 1 x3.toNatClampNeg 1) (A 1 x3.toNatClampNeg 4) (A 1 x3.toNatClampNeg 5) (A 1 x3.toNatClampNeg 8) (A 1 x3.toNatClampNeg 9) (A 4 0 2) := (by rw [hq_18 hk hf, c1, c4, c5, c8, c9, cf]; exact bAlF_c ⟨fun _ => trivial, fun _ => rfl⟩); exact ((Eq.trans (pif_neg (show ¬ (bAxF (A 1 x3.toNatClampNeg 1) (A 1 x3.toNatClampNeg 3) (A 1 x3.toNatClampNeg 8) (A 1 x3.toNatClampNeg 9) (A 4 0 2) < aL A x1 x2) by rw [← ex, ← el]; exact (Int32.not_lt.mpr c_5))) (Eq.trans (pif_neg (show ¬ (snA A x1 x2 x3.toNatClampNeg ≤ bAlF (A 1 x3.toNatClampNeg 7 = 1) (A 1 x3.toNatClampNeg 1) (A 1 x3.toNatClampNeg 4) (A 1 x3.toNatClampNeg 5) (A 1 x3.toNatClampNeg 8) (A 1 x3.toNatClampNeg 9) (A 4 0 2)) by rw [← es, ← ea0]; exact (Int32.not_le.mpr c_13))) (Eq.trans (pif_neg (fun h8 => h8.elim (fun h8 => c_10 (Eq.trans c7 h8)) (fun h8 => c_16 (Eq.trans c1 h8)))) (pif_pos (show snA A x1 x2 x3.toNatClampNeg ≤ bAlF (True) (A 1 x3.toNatClampNeg 1) (A 1 x3.toNatClampNeg 4) (A 1 x3.toNatClampNeg 5) (A 1 x3.toNatClampNeg 8) (A 1 x3.toNatClampNeg 9) (A 4 0 2) by rw [← es, ← ea1]; exact (Int32.not_lt.mp c_19))))))).symm), ht⟩) (fun q h => by cases h) dX7_needsOf_92
      · refine lv_iconst (v := 0) hx hb dX7_needsOf_57 (by decide) ?_
        rw [hQ]
        exact W.iret (v := 0) hx hb hr (fun t ht hW => ⟨0, rfl, (fun A hA hok hl hb => by have i3 : rg x3 0 15 := hx3; have c0 : ga (C (48 + (x3).toNatClampNeg)) ((0 : Int32)).toNatClampNeg = A 1 x3.toNatClampNeg 0 := colM_v (t := 1) hA (by decide) i3 (by decide) hb (by unfold vis; omega); have c1 : ga (C (48 + (x3).toNatClampNeg)) ((1 : Int32)).toNatClampNeg = A 1 x3.toNatClampNeg 1 := colM_v (t := 1) hA (by decide) i3 (by decide) hb (by unfold vis; omega); have c2 : ga (C (48 + (x3).toNatClampNeg)) ((2 : Int32)).toNatClampNeg = A 1 x3.toNatClampNeg 2 := colM_v (t := 1) hA (by decide) i3 (by decide) hb (by unfold vis; omega); have c3 : ga (C (48 + (x3).toNatClampNeg)) ((3 : Int32)).toNatClampNeg = A 1 x3.toNatClampNeg 3 := colM_v (t := 1) hA (by decide) i3 (by decide) hb (by unfold vis; omega); have c4 : ga (C (48 + (x3).toNatClampNeg)) ((4 : Int32)).toNatClampNeg = A 1 x3.toNatClampNeg 4 := colM_v (t := 1) hA (by decide) i3 (by decide) hb (by unfold vis; omega); have c5 : ga (C (48 + (x3).toNatClampNeg)) ((5 : Int32)).toNatClampNeg = A 1 x3.toNatClampNeg 5 := colM_v (t := 1) hA (by decide) i3 (by decide) hb (by unfold vis; omega); have c6 : ga (C (48 + (x3).toNatClampNeg)) ((6 : Int32)).toNatClampNeg = A 1 x3.toNatClampNeg 6 := colM_v (t := 1) hA (by decide) i3 (by decide) hb (by unfold vis; omega); have c7 : ga (C (48 + (x3).toNatClampNeg)) ((7 : Int32)).toNatClampNeg = A 1 x3.toNatClampNeg 7 := colM_v (t := 1) hA (by decide) i3 (by decide) hb (by unfold vis; omega); have c8 : ga (C (48 + (x3).toNatClampNeg)) ((8 : Int32)).toNatClampNeg = A 1 x3.toNatClampNeg 8 := colM_v (t := 1) hA (by decide) i3 (by decide) hb (by unfold vis; omega); have c9 : ga (C (48 + (x3).toNatClampNeg)) ((9 : Int32)).toNatClampNeg = A 1 x3.toNatClampNeg 9 := colM_v (t := 1) hA (by decide) i3 (by decide) hb (by unfold vis; omega); have cf : ga (C 13) ((2 : Int32)).toNatClampNeg = A 4 0 2 := hA.2.1 2 (by decide); have hv := hok.2.2.2.1 x3.toNatClampNeg (by rw [oh_nat i3 (by decide)]; exact Int32.lt_iff_toInt_lt.mp hb); have hk : (ga (C (48 + (x3).toNatClampNeg)) ((1 : Int32)).toNatClampNeg).toInt ≤ 5 := (by rw [c1]; exact hv.2.1.2); have hf : rg (ga (C (48 + (x3).toNatClampNeg)) ((8 : Int32)).toNatClampNeg) 0 1 := (by rw [c8]; exact hv.2.2.2.2.2.2.2.2.1); have w0 : ga (C (64 + (x1).toNatClampNeg)) ((0 : Int32)).toNatClampNeg = A 2 x1.toNatClampNeg 0 := colM_v (t := 2) hA (by decide) hx1 (by decide) hl (by unfold vis; omega); have w1 : ga (C (64 + (x1).toNatClampNeg)) ((1 : Int32)).toNatClampNeg = A 2 x1.toNatClampNeg 1 := colM_v (t := 2) hA (by decide) hx1 (by decide) hl (by unfold vis; omega); have w2 : ga (C (64 + (x1).toNatClampNeg)) ((2 : Int32)).toNatClampNeg = A 2 x1.toNatClampNeg 2 := colM_v (t := 2) hA (by decide) hx1 (by decide) hl (by unfold vis; omega); have ws : ga (C 13) ((0 : Int32)).toNatClampNeg = A 4 0 0 := hA.2.1 0 (by decide); have el : r_1 = aL A x1 x2 := (by rw [hq_2 A hA, w0, w2, ws]; rfl); have ex : r_3 = bAxF (A 1 x3.toNatClampNeg 1) (A 1 x3.toNatClampNeg 3) (A 1 x3.toNatClampNeg 8) (A 1 x3.toNatClampNeg 9) (A 4 0 2) := (by rw [hq_4 hk, c1, c3, c8, c9, cf]); have es : r_6 = snA A x1 x2 x3.toNatClampNeg := (by rw [hq_7 A hA, c2, w0, w1, w2, ws]; rfl); have ea0 : r_11 = bAlF (A 1 x3.toNatClampNeg 7 = 1) (A 1 x3.toNatClampNeg 1) (A 1 x3.toNatClampNeg 4) (A 1 x3.toNatClampNeg 5) (A 1 x3.toNatClampNeg 8) (A 1 x3.toNatClampNeg 9) (A 4 0 2) := (by rw [hq_12 hk hf, c1, c4, c5, c8, c9, cf]; exact bAlF_c ⟨fun h8 => absurd h8 (by decide), fun h8 => absurd (Eq.trans c7 h8) c_10⟩); exact ((Eq.trans (pif_neg (show ¬ (bAxF (A 1 x3.toNatClampNeg 1) (A 1 x3.toNatClampNeg 3) (A 1 x3.toNatClampNeg 8) (A 1 x3.toNatClampNeg 9) (A 4 0 2) < aL A x1 x2) by rw [← ex, ← el]; exact (Int32.not_lt.mpr c_5))) (pif_pos (show snA A x1 x2 x3.toNatClampNeg ≤ bAlF (A 1 x3.toNatClampNeg 7 = 1) (A 1 x3.toNatClampNeg 1) (A 1 x3.toNatClampNeg 4) (A 1 x3.toNatClampNeg 5) (A 1 x3.toNatClampNeg 8) (A 1 x3.toNatClampNeg 9) (A 4 0 2) by rw [← es, ← ea0]; exact (Int32.not_lt.mp c_13))))).symm), ht⟩) (fun q h => by cases h) dX7_needsOf_58
    · refine lv_iconst (v := 1) hx hb dX7_needsOf_38 (by decide) ?_
      refine lv_goto (tgt := 43) hx hb dX7_needsOf_39 (by decide) ?_
      refine lv_istore (lv' := [(5, .int 1), (4, .int r_6), (0, .ref (a 0)), (1, .int x1), (2, .int x2), (3, .int x3)]) hx hb dX7_needsOf_43 hl (by decide) rfl (fun ls hl => ?_)
      refine lv_iload hx hb dX7_needsOf_45 (lv_at hl 1 rfl) ?_
      refine lv_aload_n hx hb dX7_needsOf_47 rfl (lv_at hl 2 rfl) ?_
      refine lv_iload_n hx hb dX7_needsOf_48 rfl (lv_at hl 5 rfl) ?_
      refine lv_iload hx hb dX7_needsOf_49 (lv_at hl 0 rfl) ?_
      refine tq_V (As := [.int x3, .int 1]) (rest := [.int r_6]) (ws := (oh_W n a C)) ⟨hx, hb, hml, hown, htg⟩ (e_X7_allOf l D E G a C n hn hT x3 (1 : Int32) (rg_w hx3 (by decide)) (rg_w (rg_c (v := 1) (lo := 1) (hi := 1) (by decide)) (by decide))) (cwV 2 htg (oh_gV q_1122 q_1124 q_34 q_73 q_1125) rfl rfl rfl pdVX7_allOf ⟨Nat.le_of_ble_eq_true rfl, Nat.le_of_ble_eq_true rfl⟩) hK hP hG hS (va_recv hK hP (ci := 7) (q0 := 0) rfl (oh_wg (Nat.lt_of_lt_of_le (by decide) hn) (sM_0 hT))) rfl hl.1 rfl (Nat.le_of_ble_eq_true rfl) dX7_needsOf_51 ⟨Nat.le_of_ble_eq_true rfl, Nat.le_of_ble_eq_true rfl⟩ (fun r_20 hq_21 => ?_)
      refine lv_icmp_gt (tgt := 59) hx hb dX7_needsOf_54 (by decide) (fun (c_22 : r_20 < r_6) => ?_) (fun (c_22 : ¬ (r_20 < r_6)) => ?_)
      · refine lv_iload hx hb dX7_needsOf_59 (lv_at hl 0 rfl) ?_
        refine lv_if_ne (tgt := 91) hx hb dX7_needsOf_61 (by decide) (fun _ => ?_) (fun c => absurd c (show ¬ ((1 : Int32) = 0) from by decide))
        refine lv_iconst (v := 2) hx hb dX7_needsOf_91 (by decide) ?_
        rw [hQ]
        exact W.iret (v := 2) hx hb hr (fun t ht hW => ⟨2, rfl, (fun A hA hok hl hb => by have i3 : rg x3 0 15 := hx3; have c0 : ga (C (48 + (x3).toNatClampNeg)) ((0 : Int32)).toNatClampNeg = A 1 x3.toNatClampNeg 0 := colM_v (t := 1) hA (by decide) i3 (by decide) hb (by unfold vis; omega); have c1 : ga (C (48 + (x3).toNatClampNeg)) ((1 : Int32)).toNatClampNeg = A 1 x3.toNatClampNeg 1 := colM_v (t := 1) hA (by decide) i3 (by decide) hb (by unfold vis; omega); have c2 : ga (C (48 + (x3).toNatClampNeg)) ((2 : Int32)).toNatClampNeg = A 1 x3.toNatClampNeg 2 := colM_v (t := 1) hA (by decide) i3 (by decide) hb (by unfold vis; omega); have c3 : ga (C (48 + (x3).toNatClampNeg)) ((3 : Int32)).toNatClampNeg = A 1 x3.toNatClampNeg 3 := colM_v (t := 1) hA (by decide) i3 (by decide) hb (by unfold vis; omega); have c4 : ga (C (48 + (x3).toNatClampNeg)) ((4 : Int32)).toNatClampNeg = A 1 x3.toNatClampNeg 4 := colM_v (t := 1) hA (by decide) i3 (by decide) hb (by unfold vis; omega); have c5 : ga (C (48 + (x3).toNatClampNeg)) ((5 : Int32)).toNatClampNeg = A 1 x3.toNatClampNeg 5 := colM_v (t := 1) hA (by decide) i3 (by decide) hb (by unfold vis; omega); have c6 : ga (C (48 + (x3).toNatClampNeg)) ((6 : Int32)).toNatClampNeg = A 1 x3.toNatClampNeg 6 := colM_v (t := 1) hA (by decide) i3 (by decide) hb (by unfold vis; omega); have c7 : ga (C (48 + (x3).toNatClampNeg)) ((7 : Int32)).toNatClampNeg = A 1 x3.toNatClampNeg 7 := colM_v (t := 1) hA (by decide) i3 (by decide) hb (by unfold vis; omega); have c8 : ga (C (48 + (x3).toNatClampNeg)) ((8 : Int32)).toNatClampNeg = A 1 x3.toNatClampNeg 8 := colM_v (t := 1) hA (by decide) i3 (by decide) hb (by unfold vis; omega); have c9 : ga (C (48 + (x3).toNatClampNeg)) ((9 : Int32)).toNatClampNeg = A 1 x3.toNatClampNeg 9 := colM_v (t := 1) hA (by decide) i3 (by decide) hb (by unfold vis; omega); have cf : ga (C 13) ((2 : Int32)).toNatClampNeg = A 4 0 2 := hA.2.1 2 (by decide); have hv := hok.2.2.2.1 x3.toNatClampNeg (by rw [oh_nat i3 (by decide)]; exact Int32.lt_iff_toInt_lt.mp hb); have hk : (ga (C (48 + (x3).toNatClampNeg)) ((1 : Int32)).toNatClampNeg).toInt ≤ 5 := (by rw [c1]; exact hv.2.1.2); have hf : rg (ga (C (48 + (x3).toNatClampNeg)) ((8 : Int32)).toNatClampNeg) 0 1 := (by rw [c8]; exact hv.2.2.2.2.2.2.2.2.1); have w0 : ga (C (64 + (x1).toNatClampNeg)) ((0 : Int32)).toNatClampNeg = A 2 x1.toNatClampNeg 0 := colM_v (t := 2) hA (by decide) hx1 (by decide) hl (by unfold vis; omega); have w1 : ga (C (64 + (x1).toNatClampNeg)) ((1 : Int32)).toNatClampNeg = A 2 x1.toNatClampNeg 1 := colM_v (t := 2) hA (by decide) hx1 (by decide) hl (by unfold vis; omega); have w2 : ga (C (64 + (x1).toNatClampNeg)) ((2 : Int32)).toNatClampNeg = A 2 x1.toNatClampNeg 2 := colM_v (t := 2) hA (by decide) hx1 (by decide) hl (by unfold vis; omega); have ws : ga (C 13) ((0 : Int32)).toNatClampNeg = A 4 0 0 := hA.2.1 0 (by decide); have el : r_1 = aL A x1 x2 := (by rw [hq_2 A hA, w0, w2, ws]; rfl); have ex : r_3 = bAxF (A 1 x3.toNatClampNeg 1) (A 1 x3.toNatClampNeg 3) (A 1 x3.toNatClampNeg 8) (A 1 x3.toNatClampNeg 9) (A 4 0 2) := (by rw [hq_4 hk, c1, c3, c8, c9, cf]); have es : r_6 = snA A x1 x2 x3.toNatClampNeg := (by rw [hq_7 A hA, c2, w0, w1, w2, ws]; rfl); have ea0 : r_20 = bAlF (A 1 x3.toNatClampNeg 7 = 1) (A 1 x3.toNatClampNeg 1) (A 1 x3.toNatClampNeg 4) (A 1 x3.toNatClampNeg 5) (A 1 x3.toNatClampNeg 8) (A 1 x3.toNatClampNeg 9) (A 4 0 2) := (by rw [hq_21 hk hf, c1, c4, c5, c8, c9, cf]; exact bAlF_c ⟨fun _ => (by rw [← c7]; exact c_10), fun _ => rfl⟩); exact ((Eq.trans (pif_neg (show ¬ (bAxF (A 1 x3.toNatClampNeg 1) (A 1 x3.toNatClampNeg 3) (A 1 x3.toNatClampNeg 8) (A 1 x3.toNatClampNeg 9) (A 4 0 2) < aL A x1 x2) by rw [← ex, ← el]; exact (Int32.not_lt.mpr c_5))) (Eq.trans (pif_neg (show ¬ (snA A x1 x2 x3.toNatClampNeg ≤ bAlF (A 1 x3.toNatClampNeg 7 = 1) (A 1 x3.toNatClampNeg 1) (A 1 x3.toNatClampNeg 4) (A 1 x3.toNatClampNeg 5) (A 1 x3.toNatClampNeg 8) (A 1 x3.toNatClampNeg 9) (A 4 0 2)) by rw [← es, ← ea0]; exact (Int32.not_le.mpr c_22))) (pif_pos (Or.inl (Eq.trans c7.symm c_10)))))).symm), ht⟩) (fun q h => by cases h) dX7_needsOf_92
      · refine lv_iconst (v := 0) hx hb dX7_needsOf_57 (by decide) ?_
        rw [hQ]
        exact W.iret (v := 0) hx hb hr (fun t ht hW => ⟨0, rfl, (fun A hA hok hl hb => by have i3 : rg x3 0 15 := hx3; have c0 : ga (C (48 + (x3).toNatClampNeg)) ((0 : Int32)).toNatClampNeg = A 1 x3.toNatClampNeg 0 := colM_v (t := 1) hA (by decide) i3 (by decide) hb (by unfold vis; omega); have c1 : ga (C (48 + (x3).toNatClampNeg)) ((1 : Int32)).toNatClampNeg = A 1 x3.toNatClampNeg 1 := colM_v (t := 1) hA (by decide) i3 (by decide) hb (by unfold vis; omega); have c2 : ga (C (48 + (x3).toNatClampNeg)) ((2 : Int32)).toNatClampNeg = A 1 x3.toNatClampNeg 2 := colM_v (t := 1) hA (by decide) i3 (by decide) hb (by unfold vis; omega); have c3 : ga (C (48 + (x3).toNatClampNeg)) ((3 : Int32)).toNatClampNeg = A 1 x3.toNatClampNeg 3 := colM_v (t := 1) hA (by decide) i3 (by decide) hb (by unfold vis; omega); have c4 : ga (C (48 + (x3).toNatClampNeg)) ((4 : Int32)).toNatClampNeg = A 1 x3.toNatClampNeg 4 := colM_v (t := 1) hA (by decide) i3 (by decide) hb (by unfold vis; omega); have c5 : ga (C (48 + (x3).toNatClampNeg)) ((5 : Int32)).toNatClampNeg = A 1 x3.toNatClampNeg 5 := colM_v (t := 1) hA (by decide) i3 (by decide) hb (by unfold vis; omega); have c6 : ga (C (48 + (x3).toNatClampNeg)) ((6 : Int32)).toNatClampNeg = A 1 x3.toNatClampNeg 6 := colM_v (t := 1) hA (by decide) i3 (by decide) hb (by unfold vis; omega); have c7 : ga (C (48 + (x3).toNatClampNeg)) ((7 : Int32)).toNatClampNeg = A 1 x3.toNatClampNeg 7 := colM_v (t := 1) hA (by decide) i3 (by decide) hb (by unfold vis; omega); have c8 : ga (C (48 + (x3).toNatClampNeg)) ((8 : Int32)).toNatClampNeg = A 1 x3.toNatClampNeg 8 := colM_v (t := 1) hA (by decide) i3 (by decide) hb (by unfold vis; omega); have c9 : ga (C (48 + (x3).toNatClampNeg)) ((9 : Int32)).toNatClampNeg = A 1 x3.toNatClampNeg 9 := colM_v (t := 1) hA (by decide) i3 (by decide) hb (by unfold vis; omega); have cf : ga (C 13) ((2 : Int32)).toNatClampNeg = A 4 0 2 := hA.2.1 2 (by decide); have hv := hok.2.2.2.1 x3.toNatClampNeg (by rw [oh_nat i3 (by decide)]; exact Int32.lt_iff_toInt_lt.mp hb); have hk : (ga (C (48 + (x3).toNatClampNeg)) ((1 : Int32)).toNatClampNeg).toInt ≤ 5 := (by rw [c1]; exact hv.2.1.2); have hf : rg (ga (C (48 + (x3).toNatClampNeg)) ((8 : Int32)).toNatClampNeg) 0 1 := (by rw [c8]; exact hv.2.2.2.2.2.2.2.2.1); have w0 : ga (C (64 + (x1).toNatClampNeg)) ((0 : Int32)).toNatClampNeg = A 2 x1.toNatClampNeg 0 := colM_v (t := 2) hA (by decide) hx1 (by decide) hl (by unfold vis; omega); have w1 : ga (C (64 + (x1).toNatClampNeg)) ((1 : Int32)).toNatClampNeg = A 2 x1.toNatClampNeg 1 := colM_v (t := 2) hA (by decide) hx1 (by decide) hl (by unfold vis; omega); have w2 : ga (C (64 + (x1).toNatClampNeg)) ((2 : Int32)).toNatClampNeg = A 2 x1.toNatClampNeg 2 := colM_v (t := 2) hA (by decide) hx1 (by decide) hl (by unfold vis; omega); have ws : ga (C 13) ((0 : Int32)).toNatClampNeg = A 4 0 0 := hA.2.1 0 (by decide); have el : r_1 = aL A x1 x2 := (by rw [hq_2 A hA, w0, w2, ws]; rfl); have ex : r_3 = bAxF (A 1 x3.toNatClampNeg 1) (A 1 x3.toNatClampNeg 3) (A 1 x3.toNatClampNeg 8) (A 1 x3.toNatClampNeg 9) (A 4 0 2) := (by rw [hq_4 hk, c1, c3, c8, c9, cf]); have es : r_6 = snA A x1 x2 x3.toNatClampNeg := (by rw [hq_7 A hA, c2, w0, w1, w2, ws]; rfl); have ea0 : r_20 = bAlF (A 1 x3.toNatClampNeg 7 = 1) (A 1 x3.toNatClampNeg 1) (A 1 x3.toNatClampNeg 4) (A 1 x3.toNatClampNeg 5) (A 1 x3.toNatClampNeg 8) (A 1 x3.toNatClampNeg 9) (A 4 0 2) := (by rw [hq_21 hk hf, c1, c4, c5, c8, c9, cf]; exact bAlF_c ⟨fun _ => (by rw [← c7]; exact c_10), fun _ => rfl⟩); exact ((Eq.trans (pif_neg (show ¬ (bAxF (A 1 x3.toNatClampNeg 1) (A 1 x3.toNatClampNeg 3) (A 1 x3.toNatClampNeg 8) (A 1 x3.toNatClampNeg 9) (A 4 0 2) < aL A x1 x2) by rw [← ex, ← el]; exact (Int32.not_lt.mpr c_5))) (pif_pos (show snA A x1 x2 x3.toNatClampNeg ≤ bAlF (A 1 x3.toNatClampNeg 7 = 1) (A 1 x3.toNatClampNeg 1) (A 1 x3.toNatClampNeg 4) (A 1 x3.toNatClampNeg 5) (A 1 x3.toNatClampNeg 8) (A 1 x3.toNatClampNeg 9) (A 4 0 2) by rw [← es, ← ea0]; exact (Int32.not_lt.mp c_22))))).symm), ht⟩) (fun q h => by cases h) dX7_needsOf_58
  · refine lv_iconst (v := 2) hx hb dX7_needsOf_14 (by decide) ?_
    rw [hQ]
    exact W.iret (v := 2) hx hb hr (fun t ht hW => ⟨2, rfl, (fun A hA hok hl hb => by have i3 : rg x3 0 15 := hx3; have c0 : ga (C (48 + (x3).toNatClampNeg)) ((0 : Int32)).toNatClampNeg = A 1 x3.toNatClampNeg 0 := colM_v (t := 1) hA (by decide) i3 (by decide) hb (by unfold vis; omega); have c1 : ga (C (48 + (x3).toNatClampNeg)) ((1 : Int32)).toNatClampNeg = A 1 x3.toNatClampNeg 1 := colM_v (t := 1) hA (by decide) i3 (by decide) hb (by unfold vis; omega); have c2 : ga (C (48 + (x3).toNatClampNeg)) ((2 : Int32)).toNatClampNeg = A 1 x3.toNatClampNeg 2 := colM_v (t := 1) hA (by decide) i3 (by decide) hb (by unfold vis; omega); have c3 : ga (C (48 + (x3).toNatClampNeg)) ((3 : Int32)).toNatClampNeg = A 1 x3.toNatClampNeg 3 := colM_v (t := 1) hA (by decide) i3 (by decide) hb (by unfold vis; omega); have c4 : ga (C (48 + (x3).toNatClampNeg)) ((4 : Int32)).toNatClampNeg = A 1 x3.toNatClampNeg 4 := colM_v (t := 1) hA (by decide) i3 (by decide) hb (by unfold vis; omega); have c5 : ga (C (48 + (x3).toNatClampNeg)) ((5 : Int32)).toNatClampNeg = A 1 x3.toNatClampNeg 5 := colM_v (t := 1) hA (by decide) i3 (by decide) hb (by unfold vis; omega); have c6 : ga (C (48 + (x3).toNatClampNeg)) ((6 : Int32)).toNatClampNeg = A 1 x3.toNatClampNeg 6 := colM_v (t := 1) hA (by decide) i3 (by decide) hb (by unfold vis; omega); have c7 : ga (C (48 + (x3).toNatClampNeg)) ((7 : Int32)).toNatClampNeg = A 1 x3.toNatClampNeg 7 := colM_v (t := 1) hA (by decide) i3 (by decide) hb (by unfold vis; omega); have c8 : ga (C (48 + (x3).toNatClampNeg)) ((8 : Int32)).toNatClampNeg = A 1 x3.toNatClampNeg 8 := colM_v (t := 1) hA (by decide) i3 (by decide) hb (by unfold vis; omega); have c9 : ga (C (48 + (x3).toNatClampNeg)) ((9 : Int32)).toNatClampNeg = A 1 x3.toNatClampNeg 9 := colM_v (t := 1) hA (by decide) i3 (by decide) hb (by unfold vis; omega); have cf : ga (C 13) ((2 : Int32)).toNatClampNeg = A 4 0 2 := hA.2.1 2 (by decide); have hv := hok.2.2.2.1 x3.toNatClampNeg (by rw [oh_nat i3 (by decide)]; exact Int32.lt_iff_toInt_lt.mp hb); have hk : (ga (C (48 + (x3).toNatClampNeg)) ((1 : Int32)).toNatClampNeg).toInt ≤ 5 := (by rw [c1]; exact hv.2.1.2); have hf : rg (ga (C (48 + (x3).toNatClampNeg)) ((8 : Int32)).toNatClampNeg) 0 1 := (by rw [c8]; exact hv.2.2.2.2.2.2.2.2.1); have w0 : ga (C (64 + (x1).toNatClampNeg)) ((0 : Int32)).toNatClampNeg = A 2 x1.toNatClampNeg 0 := colM_v (t := 2) hA (by decide) hx1 (by decide) hl (by unfold vis; omega); have w1 : ga (C (64 + (x1).toNatClampNeg)) ((1 : Int32)).toNatClampNeg = A 2 x1.toNatClampNeg 1 := colM_v (t := 2) hA (by decide) hx1 (by decide) hl (by unfold vis; omega); have w2 : ga (C (64 + (x1).toNatClampNeg)) ((2 : Int32)).toNatClampNeg = A 2 x1.toNatClampNeg 2 := colM_v (t := 2) hA (by decide) hx1 (by decide) hl (by unfold vis; omega); have ws : ga (C 13) ((0 : Int32)).toNatClampNeg = A 4 0 0 := hA.2.1 0 (by decide); have el : r_1 = aL A x1 x2 := (by rw [hq_2 A hA, w0, w2, ws]; rfl); have ex : r_3 = bAxF (A 1 x3.toNatClampNeg 1) (A 1 x3.toNatClampNeg 3) (A 1 x3.toNatClampNeg 8) (A 1 x3.toNatClampNeg 9) (A 4 0 2) := (by rw [hq_4 hk, c1, c3, c8, c9, cf]); exact ((pif_pos (show bAxF (A 1 x3.toNatClampNeg 1) (A 1 x3.toNatClampNeg 3) (A 1 x3.toNatClampNeg 8) (A 1 x3.toNatClampNeg 9) (A 4 0 2) < aL A x1 x2 by rw [← ex, ← el]; exact (Int32.not_le.mp c_5)))).symm), ht⟩) (fun q h => by cases h) dX7_needsOf_15
/-! FULL: the reference's search -/
theorem st_gb {C C2 : Nat → va_E} {k n : Nat} {cA : ClassId} {f : Nat → Int64} (e : C2 = updc C k (.inl (cA, n, .inr (.inl f)))) : gb (C2 k) = f := by
  rw [e, updc_eq]
  rfl
theorem upL_s {f : Nat → Int64} {k : Nat} {x : Int64} : vp_updL f k x k = x := if_pos rfl
theorem upL_n {f : Nat → Int64} {k j : Nat} {x : Int64} (h : j ≠ k) : vp_updL f k x j = f j := if_neg h
theorem rdN {x r : Int32} (hx : rg x 0 23) (hr : rg r 0 23) : x.toNatClampNeg = r.toNatClampNeg ↔ x = r := by
  constructor
  · intro e
    have a := oh_nat hx (by decide)
    have b := oh_nat hr (by decide)
    exact Int32.toInt_inj.mp (by omega)
  · intro e
    rw [e]
theorem n1_s {z : Int32} {P : Nat → Prop} (hz : rg z 0 15) (h : ∀ b : Nat, (b : Int) < z.toInt → P b) (hn : P z.toNatClampNeg) : ∀ b : Nat, (b : Int) < (z + 1).toInt → P b := by
  intro b hb
  rw [oh_inc24 ⟨hz.1, by have := hz.2; omega⟩] at hb
  have ez := oh_nat hz (by decide)
  by_cases q : b = z.toNatClampNeg
  · rw [q]
    exact hn
  · exact h b (by omega)
/-- a number of props, or their coin -/
noncomputable def vvA (A : LA) (x : Int32) : Nat → Int32 := fun b => pif (x = 0) 1 (A 1 b 6)
theorem vv_0 {A : LA} {w s x : Int32} {r : Nat} (h : x = 0) : pcU (rdA A) (ndA A w s) (vvA A x) (n1A A) r = pcA A w s r := by
  have e : vvA A x = (fun _ => 1) := funext (fun b => pif_pos h)
  rw [e]
  rfl
theorem vv_1 {A : LA} {w s x : Int32} {r : Nat} (h : ¬ x = 0) : pcU (rdA A) (ndA A w s) (vvA A x) (n1A A) r = pqA A w s r := by
  have e : vvA A x = (fun b => A 1 b 6) := funext (fun b => pif_neg h)
  rw [e]
  rfl
theorem up10 (m : Int32) : (m + 9) / 10 = rndUp m 10 := by
  unfold rndUp
  rw [if_pos (by decide), show m + 10 - 1 = m + 9 by rw [Int32.sub_eq_add_neg, Int32.add_assoc]; rfl]
/-- what roads cost: days (no loads), coin -/
noncomputable def cnA (A : LA) (w s n : Int32) (r : Nat) : Int32 := pif (n = 0) (dyA A w s r) (coA A w s n r)
noncomputable def cnN (A : LA) (w s n : Int32) (r : Nat) : Nat := (cnA A w s n r).toNatClampNeg
def EnA (A : LA) (w s n : Int32) : Ed := EdR (n0A A) (aA A) (bA A) (gsA A w s) (cnN A w s n)
theorem EnA_0 {A : LA} {w s n : Int32} (h : n = 0) : EnA A w s n = EdyA A w s := by
  have e : cnN A w s n = dA A w s := funext (fun r => congrArg Int32.toNatClampNeg (pif_pos h))
  unfold EnA EdyA
  rw [e]
theorem EnA_1 {A : LA} {w s n : Int32} (h : ¬ n = 0) : EnA A w s n = EcA A w s n := by
  have e : cnN A w s n = cA A w s n := funext (fun r => congrArg Int32.toNatClampNeg (pif_neg h))
  unfold EnA EcA
  rw [e]
theorem cnA_b {A : LA} (h : okA A) {w n : Int32} (s : Int32) (h0 : rg w 0 4) (hl : w < A 5 0 2) (hn : rg n 0 20) {r : Nat} (hr : r < n0A A) : rg (cnA A w s n r) 0 60000000 := by
  unfold cnA
  by_cases q : n = 0
  · rw [pif_pos q]
    exact dyA_b h w s hr
  · rw [pif_neg q]
    exact coA_b h s h0 hl hn hr
theorem cnN_b {A : LA} (h : okA A) {w n : Int32} (s : Int32) (h0 : rg w 0 4) (hl : w < A 5 0 2) (hn : rg n 0 20) {r : Nat} (hr : r < n0A A) : (cnA A w s n r).toInt = (cnN A w s n r : Int) ∧ cnN A w s n r ≤ 60000000 := by
  have hb := cnA_b h s h0 hl hn hr
  have e := oh_nat hb (by decide)
  have := hb.2
  refine ⟨e.symm, ?_⟩
  show (cnA A w s n r).toNatClampNeg ≤ 60000000
  omega
theorem en_fin {A : LA} (h : okA A) {w n : Int32} (s : Int32) (h0 : rg w 0 4) (hl : w < A 5 0 2) (hn : rg n 0 20) {p : Nat} (hp : p < 16) : ∀ q d, q < 16 → Ls (EnA A w s n) p q d → d ≤ 900000000 := ls_bnd (M := 60000000) (edR_M (abA h) (fun r hr _ => (cnN_b h s h0 hl hn hr).2)) hp
def fL (h : Nat → Int64) : Nat → Nat := fun p => (h p).toNatClampNeg
def nnL (h : Nat → Int64) : Prop := ∀ p, p < 16 → 0 ≤ (h p).toInt
theorem fL_i {h : Nat → Int64} (hn : nnL h) {p : Nat} (hp : p < 16) : (fL h p : Int) = (h p).toInt := by
  have := hn p hp
  show (((h p).toInt.toNat : Nat) : Int) = _
  omega
def rfO (E : Ed) (s : Nat) (h : Nat → Int64) (k : Nat) : Prop := nnL h ∧ fL h s = 0 ∧ Snd E s 1000000000000 (fL h) ∧ Lv E s (fL h) k
def rfI (n : Nat) (a b : Nat → Nat) (g : Nat → Prop) (c : Nat → Nat) (s : Nat) (h0 h : Nat → Int64) (j : Nat) : Prop := nnL h ∧ Snd (EdR n a b g c) s 1000000000000 (fL h) ∧ Rlx (EdR j a b g c) 1000000000000 (fL h0) (fL h)
theorem rf_in {f f' : Nat → Int64} {z x : Int32} {v : Int64} (hz : rg z 0 15) (h : ∀ p : Nat, (p : Int) < z.toInt → f p = if (p : Int) = x.toInt then 0 else 1000000000000) (e : f' = vp_updL f z.toNatClampNeg v) (hv : v = if z = x then 0 else 1000000000000) : ∀ p : Nat, (p : Int) < (z + 1).toInt → f' p = if (p : Int) = x.toInt then 0 else 1000000000000 := by
  intro p hp
  rw [oh_inc24 ⟨hz.1, by have := hz.2; omega⟩] at hp
  have ez := oh_nat hz (by decide)
  rw [e]
  by_cases q : p = z.toNatClampNeg
  · rw [q, upL_s, hv]
    by_cases w : z = x
    · rw [if_pos w, if_pos (by rw [ez, w])]
    · rw [if_neg w, if_neg (by rw [ez]; exact fun e => w (Int32.toInt_inj.mp e))]
  · rw [upL_n q]
    exact h p (by omega)
theorem rf_0 {E : Ed} {f : Nat → Int64} {z x : Int32} (hx : rg x 0 15) (h : ∀ p : Nat, (p : Int) < z.toInt → f p = if (p : Int) = x.toInt then 0 else 1000000000000) (c : 16 ≤ z) : rfO E x.toNatClampNeg f 0 := by
  have c2 := Int32.le_iff_toInt_le.mp c
  have e16 : (16 : Int32).toInt = 16 := rfl
  have ex := oh_nat hx (by decide)
  have h1 : ∀ p, p < 16 → f p = if p = x.toNatClampNeg then 0 else 1000000000000 := by
    intro p hp
    rw [h p (by omega)]
    by_cases q : p = x.toNatClampNeg
    · rw [if_pos q, if_pos (by rw [q, ex])]
    · rw [if_neg q, if_neg (by omega)]
  have e0 : fL f x.toNatClampNeg = 0 := by
    show (f x.toNatClampNeg).toNatClampNeg = 0
    rw [h1 _ (p16 hx), if_pos rfl]
    rfl
  refine ⟨fun p hp => ?_, e0, snd_s (by decide) e0 (fun p hp q => ?_), lv_0 (p16 hx) e0⟩
  · rw [h1 p hp]
    by_cases q : p = x.toNatClampNeg
    · rw [if_pos q]
      decide
    · rw [if_neg q]
      decide
  · show (f p).toNatClampNeg = 1000000000000
    rw [h1 p hp, if_neg q]
    rfl
theorem fL_up {h : Nat → Int64} {q : Nat} {v : Int64} {x : Nat} (hv : v.toInt = (x : Int)) : ∀ i, fL (vp_updL h q v) i = if i = q then x else fL h i := by
  intro i
  show (vp_updL h q v i).toNatClampNeg = _
  by_cases w : i = q
  · rw [w, upL_s, if_pos rfl]
    show v.toInt.toNat = x
    omega
  · rw [upL_n w, if_neg w]
    rfl
/-- one direction of a road: E q p e, and what stands at p becomes no greater -/
theorem rf_1 {E : Ed} {s q p : Nat} {e : Nat} {h h' : Nat → Int64} {c v : Int64} (hn : nnL h) (hs : Snd E s 1000000000000 (fL h)) (hq : q < 16) (hp : p < 16) (hE : E q p e) (hc : c.toInt = (e : Int)) (he : e ≤ 60000000) (hv : (h q + c < h p ∧ v = h q + c) ∨ (h p ≤ h q + c ∧ v = h p)) (e1 : h' = vp_updL h p v) : nnL h' ∧ Snd E s 1000000000000 (fL h') ∧ (∀ i, i < 16 → fL h' i ≤ fL h i) ∧ fL h' p ≤ fL h q + e := by
  have iq := fL_i hn hq
  have ip := fL_i hn hp
  have uq : fL h q ≤ 1000000000000 := by rcases hs q hq with w | w <;> omega
  have up : fL h p ≤ 1000000000000 := by rcases hs p hp with w | w <;> omega
  have sq : (h q + c).toInt = ((fL h q + e : Nat) : Int) := by
    rw [Int64.toInt_add, hc, ← iq]
    exact Eq.trans (oh_bmod64 (by omega) (by omega)) (by omega)
  rcases hv with ⟨l, v1⟩ | ⟨l, v1⟩
  · have l2 := Int64.lt_iff_toInt_lt.mp l
    rw [sq] at l2
    have F := fL_up (h := h) (q := p) (v := v) (x := fL h q + e) (by rw [v1]; exact sq)
    rw [← e1] at F
    have hS := snd_put hs hq (by omega) hE (by omega) F
    refine ⟨fun i hi => ?_, hS, fun i hi => ?_, ?_⟩
    · rw [e1]
      by_cases w : i = p
      · rw [w, upL_s, v1, sq]
        omega
      · rw [upL_n w]
        exact hn i hi
    · rw [F i]
      by_cases w : i = p
      · rw [if_pos w, w]
        omega
      · rw [if_neg w]
        exact Nat.le_refl _
    · rw [F p, if_pos rfl]
      exact Nat.le_refl _
  · have l2 := Int64.le_iff_toInt_le.mp l
    rw [sq] at l2
    have e2 : h' = h := by
      rw [e1, v1]
      funext i
      by_cases w : i = p
      · rw [w, upL_s]
      · rw [upL_n w]
    rw [e2]
    exact ⟨hn, hs, fun _ _ => Nat.le_refl _, by omega⟩
theorem rfI_0 {n s k : Nat} {a b : Nat → Nat} {g : Nat → Prop} {c : Nat → Nat} {h : Nat → Int64} (H : rfO (EdR n a b g c) s h k) : rfI n a b g c s h h 0 := ⟨H.1, H.2.2.1, rlx_0⟩
theorem rfI_n {n s j : Nat} {a b : Nat → Nat} {g : Nat → Prop} {c : Nat → Nat} {h0 h : Nat → Int64} (H : rfI n a b g c s h0 h j) (hg : ¬ g j) : rfI n a b g c s h0 h (j + 1) := ⟨H.1, H.2.1, rlx_n H.2.2 hg⟩
theorem rfI_s {n s j : Nat} {a b : Nat → Nat} {g : Nat → Prop} {c : Nat → Nat} {h0 h h1 h2 : Nat → Int64} {x y v v2 : Int64} (ha : ∀ r, r < n → a r < 16 ∧ b r < 16) (H : rfI n a b g c s h0 h j) (hj : j < n) (hg : g j) (hx : x.toInt = (c j : Int)) (hc : c j ≤ 60000000) (hv : (h (b j) + x < h (a j) ∧ v = h (b j) + x) ∨ (h (a j) ≤ h (b j) + x ∧ v = h (a j))) (e1 : h1 = vp_updL h (a j) v) (hv2 : (h1 (a j) + x < h1 (b j) ∧ v2 = h1 (a j) + x) ∨ (h1 (b j) ≤ h1 (a j) + x ∧ v2 = h1 (b j))) (e2 : h2 = vp_updL h1 (b j) v2) : rfI n a b g c s h0 h2 (j + 1) := by
  obtain ⟨la, lb⟩ := ha j hj
  obtain ⟨n1, s1, m1, t1⟩ := rf_1 (E := EdR n a b g c) H.1 H.2.1 lb la ⟨j, hj, hg, Or.inr ⟨rfl, rfl⟩, rfl⟩ hx hc hv e1
  obtain ⟨n2, s2, m2, t2⟩ := rf_1 (E := EdR n a b g c) n1 s1 la lb ⟨j, hj, hg, Or.inl ⟨rfl, rfl⟩, rfl⟩ hx hc hv2 e2
  refine ⟨n2, s2, rlx_y H.2.2 ha hj (fun p hp => Nat.le_trans (m2 p hp) (m1 p hp)) (fun _ => ?_) (fun _ => ?_)⟩
  · have := m1 (a j) la
    omega
  · have := m2 (a j) la
    omega
theorem rfO_s {A : LA} (hk : okA A) {w s n : Int32} (hw : rg w 0 4) (hl : w < A 5 0 2) (hn : rg n 0 20) {p k : Nat} (hp : p < 16) {h0 h : Nat → Int64} (H : rfO (EnA A w s n) p h0 k) (K : rfI (n0A A) (aA A) (bA A) (gsA A w s) (cnN A w s n) p h0 h (n0A A)) : rfO (EnA A w s n) p h (k + 1) := by
  obtain ⟨_, z0, _, lv⟩ := H
  obtain ⟨hn2, hd, hr⟩ := K
  have e0 : fL h p = 0 := by have := hr.1 p hp; omega
  exact ⟨hn2, e0, hd, lv_s (edR_16 (abA hk)) (fun q d hq hd => Nat.lt_of_le_of_lt (en_fin hk s hw hl hn hp q d hq hd) (by decide)) z0 lv hr⟩
theorem rfO_e {A : LA} (hk : okA A) {w s n : Int32} (hw : rg w 0 4) (hl : w < A 5 0 2) (hn : rg n 0 20) {p k : Nat} (hp : p < 16) {h : Nat → Int64} (H : rfO (EnA A w s n) p h k) (hk2 : 16 ≤ k) : nnL h ∧ Dn (EnA A w s n) p 1000000000000 (fL h) := ⟨H.1, dn_of H.2.2.1 (lv_16 H.2.2.2 hk2) (fun q d hq hd => Nat.lt_of_le_of_lt (en_fin hk s hw hl hn hp q d hq hd) (by decide))⟩
theorem rfI_t {n s j ia ib : Nat} {a b : Nat → Nat} {g : Nat → Prop} {c : Nat → Nat} {h0 h h1 h2 : Nat → Int64} {x v v2 : Int64} (ha : ∀ r, r < n → a r < 16 ∧ b r < 16) (H : rfI n a b g c s h0 h j) (hj : j < n) (hg : g j) (ea : ia = a j) (eb : ib = b j) (hx : x.toInt = (c j : Int)) (hc : c j ≤ 60000000) (hv : (h ib + x < h ia ∧ v = h ib + x) ∨ (h ia ≤ h ib + x ∧ v = h ia)) (e1 : h1 = vp_updL h ia v) (hv2 : (h1 ia + x < h1 ib ∧ v2 = h1 ia + x) ∨ (h1 ib ≤ h1 ia + x ∧ v2 = h1 ib)) (e2 : h2 = vp_updL h1 ib v2) : rfI n a b g c s h0 h2 (j + 1) := by
  subst ea eb
  exact rfI_s (y := x) ha H hj hg hx hc hv e1 hv2 e2
theorem mL_i {E : Ed} {s p : Nat} {h : Nat → Int64} (hn : nnL h) (D : Dn E s 1000000000000 (fL h)) (hF : ∀ q d, q < 16 → Ls E s q d → d ≤ 900000000) (hp : p < 16) : (1000000000000 : Int64) ≤ h p ↔ ¬ hasW E s p := by
  have i := fL_i hn hp
  have eF : (1000000000000 : Int64).toInt = 1000000000000 := rfl
  rw [Int64.le_iff_toInt_le, eF]
  constructor
  · intro c q
    have e := dn_y D hp q
    have := hF p _ hp (lsN_s q)
    omega
  · intro q
    have e := dn_n D hp q
    omega
theorem mL_y {E : Ed} {s p : Nat} {h : Nat → Int64} (hn : nnL h) (D : Dn E s 1000000000000 (fL h)) (hF : ∀ q d, q < 16 → Ls E s q d → d ≤ 900000000) (hp : p < 16) (q : hasW E s p) : (h p).toInt = (lsN E s p : Int) ∧ lsN E s p ≤ 900000000 := by
  have e := dn_y D hp q
  have i := fL_i hn hp
  exact ⟨by omega, hF p _ hp (lsN_s q)⟩
theorem mL_32 {v : Int64} {d : Nat} (h : v.toInt = (d : Int)) (hd : d ≤ 900000000) : Int64.toInt32 v = Int32.ofNat d := by
  refine Int32.toInt_inj.mp ?_
  rw [Int64.toInt_toInt32, h, show (Int32.ofNat d).toInt = (d : Int) from nI_toInt (by omega)]
  exact oh_bmod (by omega) (by omega)
noncomputable def mcA (A : LA) (w s f t n : Int32) : Int32 := pif (hasW (EcA A w s n) f.toNatClampNeg t.toNatClampNeg) (Int32.ofNat (lsN (EcA A w s n) f.toNatClampNeg t.toNatClampNeg) + n * sumA A s 1 (A 5 0 3).toNatClampNeg) (-1)
theorem mc_y {A : LA} {w s f t n v c : Int32} {h : Nat → Int64} (hn : nnL h) (D : Dn (EcA A w s n) t.toNatClampNeg 1000000000000 (fL h)) (hF : ∀ q d, q < 16 → Ls (EcA A w s n) t.toNatClampNeg q d → d ≤ 900000000) (hf : rg f 0 15) (c1 : h f.toNatClampNeg < (1000000000000 : Int64)) (e : v = Int64.toInt32 (h f.toNatClampNeg)) (ec : c = sumA A s 1 (A 5 0 3).toNatClampNeg) : v + n * c = mcA A w s f t n := by
  have q : hasW (EcA A w s n) t.toNatClampNeg f.toNatClampNeg := Classical.byContradiction (fun z => absurd ((mL_i hn D hF (p16 hf)).mpr z) (Int64.not_le.mpr c1))
  obtain ⟨h1, h2⟩ := mL_y hn D hF (p16 hf) q
  unfold mcA
  rw [hasW_sym (E := EcA A w s n) edR_sym, lsN_sym (E := EcA A w s n) edR_sym, pif_pos q, e, ec, mL_32 h1 h2]
theorem mc_n {A : LA} {w s f t n : Int32} {h : Nat → Int64} (hn : nnL h) (D : Dn (EcA A w s n) t.toNatClampNeg 1000000000000 (fL h)) (hF : ∀ q d, q < 16 → Ls (EcA A w s n) t.toNatClampNeg q d → d ≤ 900000000) (hf : rg f 0 15) (c1 : (1000000000000 : Int64) ≤ h f.toNatClampNeg) : (-1 : Int32) = mcA A w s f t n := by
  unfold mcA
  rw [hasW_sym (E := EcA A w s n) edR_sym]
  exact (pif_neg ((mL_i hn D hF (p16 hf)).mp c1)).symm

set_option maxHeartbeats 4000000 in
set_option maxRecDepth 100000 in
theorem e_X7_goesOf (l : Launch) (D : va_G) (E : Nat → ClassId) (G : Nat → Nat) (a : Nat → Nat) (C : Nat → va_E) (n : Nat) (hn : 74 ≤ n) (hT : TyM a E C) (x1 : Int32) (x2 : Int32) (x3 : Int32) (hx1 : rg x1 0 4) (hx3 : rg x3 0 23) (hw : oh_pos C x1) : Met l yX7_goesOf (oh_w yX7_goesOf cX7_goesOf 5 (some .boolean)) ({ frames := 3, cells := 0, slots := 0, locals := 73 }) (oh_Pp D E G [.ref (a 0), .int x1, .int x2, .int x3] (oh_W n a C)) (vp_Si (fun r => (r = 0 ∨ r = 1) ∧ (∀ A : LA, absM C A → okA A → x1 < A 5 0 2 → x3 < A 5 0 0 → (r = 1 ↔ gsA A x1 x2 x3.toNatClampNeg)))) 0 0 (fun _ => False) := by
  refine Met.ofW (cc := cX7_goesOf) (maxL := 5) (ret := (some .boolean)) (by decide) rfl ?_
  intro p e s m args below meth c s₁ B hml hv
  obtain ⟨rfl, hP, hK, hG⟩ := hv
  have hx := B.exec
  have hb := B.bytes
  have hr := B.returns
  have hts := atoms_spec (ws := (oh_w yX7_goesOf cX7_goesOf 5 (some .boolean))) B.pre
  have htg : ∀ w ∈ oh_t, w.before _ s = true := fun w h => hts w (List.mem_cons_of_mem _ h)
  have hown : s.vm.findClass RX7 = some m.cls := findClass_of_methodNamed B.named
  have hlocks := B.notSynchronized
  have hT0 := hT
  have hS : va_S (fun _ => False) s.heap s.heap [] := va_S.rf
  have hl := lv_entry ([.ref (a 0), .int x1, .int x2, .int x3]) (n := 5) (Nat.le_of_ble_eq_true rfl)
  rw [lg_entry_eq]
  generalize (lg_sl ([.ref (a 0), .int x1, .int x2, .int x3]) ++ List.replicate (5 - (lg_sl ([.ref (a 0), .int x1, .int x2, .int x3])).length) Slot.unset).toArray = ls at hl ⊢
  have hl : lv_has ls 5 [(0, .ref (a 0)), (1, .int x1), (2, .int x2), (3, .int x3)] := hl
  refine oh_genQ (fun Q hQ => ?_)
  refine lv_aload_n hx hb dX7_goesOf_0 rfl (lv_at hl 0 rfl) ?_
  refine va_get (D := D) (ci := 7) (v := .ref (a 9)) (C := RX7) (T := TX7) (N := 29) hx hb htg ig_7 hown hK hP 0 (oh_wg (Nat.lt_of_lt_of_le (by decide) hn) (sM_0 hT)) rfl 10 (by decide) (htg _ q_983) (fun _ h9 => h9) rfl dX7_goesOf_1 ?_
  refine lv_iload_n hx hb dX7_goesOf_4 rfl (lv_at hl 3 rfl) ?_
  have n_1 : vp_in x3 24 := (rg_in hx3 (by decide))
  have b_2 : (x3).toNatClampNeg < 24 := vp_lt n_1
  refine th_aald hx hb hK hP 9 2 (Nat.lt_of_lt_of_le (by decide) hn) (sM_9 hT) rfl n_1 dX7_goesOf_5 ?_
  refine lv_bipush (v := 6) hx hb dX7_goesOf_6 (by decide) ?_
  refine th_iald hx hb hK hP (24 + (x3).toNatClampNeg) (lt_blk b_2 hn (by decide)) (hT.broad b_2).1 (rg_in (rg_c (v := 6) (lo := 6) (hi := 6) (by decide)) (by decide)) dX7_goesOf_8 ?_
  refine lv_iconst (v := 1) hx hb dX7_goesOf_9 (by decide) ?_
  refine lv_icmp_eq (tgt := 29) hx hb dX7_goesOf_10 (by decide) (fun (c_3 : (ga (C (24 + (x3).toNatClampNeg)) ((6 : Int32)).toNatClampNeg) = 1) => ?_) (fun (c_3 : ¬ ((ga (C (24 + (x3).toNatClampNeg)) ((6 : Int32)).toNatClampNeg) = 1)) => ?_)
  · refine lv_iconst (v := 0) hx hb dX7_goesOf_29 (by decide) ?_
    rw [hQ]
    exact W.zret (v := 0) (ty := .boolean) hx hb hr (by decide) (fun t ht hW => ⟨0, rfl, ⟨(Or.inl rfl), (fun A hA hok hl hr => by have c0 : ga (C (24 + (x3).toNatClampNeg)) ((0 : Int32)).toNatClampNeg = A 0 x3.toNatClampNeg 0 := colM_v (t := 0) hA (by decide) hx3 (by decide) hr (by unfold vis; omega); have c1 : ga (C (24 + (x3).toNatClampNeg)) ((1 : Int32)).toNatClampNeg = A 0 x3.toNatClampNeg 1 := colM_v (t := 0) hA (by decide) hx3 (by decide) hr (by unfold vis; omega); have c2 : ga (C (24 + (x3).toNatClampNeg)) ((2 : Int32)).toNatClampNeg = A 0 x3.toNatClampNeg 2 := colM_v (t := 0) hA (by decide) hx3 (by decide) hr (by unfold vis; omega); have c3 : ga (C (24 + (x3).toNatClampNeg)) ((3 : Int32)).toNatClampNeg = A 0 x3.toNatClampNeg 3 := colM_v (t := 0) hA (by decide) hx3 (by decide) hr (by unfold vis; omega); have c4 : ga (C (24 + (x3).toNatClampNeg)) ((4 : Int32)).toNatClampNeg = A 0 x3.toNatClampNeg 4 := colM_v (t := 0) hA (by decide) hx3 (by decide) hr (by unfold vis; omega); have c5 : ga (C (24 + (x3).toNatClampNeg)) ((5 : Int32)).toNatClampNeg = A 0 x3.toNatClampNeg 5 := colM_v (t := 0) hA (by decide) hx3 (by decide) hr (by unfold vis; omega); have c6 : ga (C (24 + (x3).toNatClampNeg)) ((6 : Int32)).toNatClampNeg = A 0 x3.toNatClampNeg 6 := colM_v (t := 0) hA (by decide) hx3 (by decide) hr (by unfold vis; omega); have w0 : ga (C (64 + (x1).toNatClampNeg)) ((0 : Int32)).toNatClampNeg = A 2 x1.toNatClampNeg 0 := colM_v (t := 2) hA (by decide) hx1 (by decide) hl (by unfold vis; omega); have w1 : ga (C (64 + (x1).toNatClampNeg)) ((1 : Int32)).toNatClampNeg = A 2 x1.toNatClampNeg 1 := colM_v (t := 2) hA (by decide) hx1 (by decide) hl (by unfold vis; omega); have w2 : ga (C (64 + (x1).toNatClampNeg)) ((2 : Int32)).toNatClampNeg = A 2 x1.toNatClampNeg 2 := colM_v (t := 2) hA (by decide) hx1 (by decide) hl (by unfold vis; omega); have el : ((ga (C (64 + (x1).toNatClampNeg)) ((1 : Int32)).toNatClampNeg) * ((ga (C (64 + (x1).toNatClampNeg)) ((0 : Int32)).toNatClampNeg) - 1)) + 4 = lenA A x1 := (by rw [w0, w1]; rfl); exact ⟨fun h8 => absurd h8 (by decide), fun h8 => absurd (Eq.trans (Eq.symm (Eq.trans c6.symm c_3)) h8.1.1) (by decide)⟩)⟩, ht⟩) (fun q h => by cases h) dX7_goesOf_30
  · refine lv_aload_n hx hb dX7_goesOf_13 rfl (lv_at hl 0 rfl) ?_
    refine va_get (D := D) (ci := 7) (v := .ref (a 9)) (C := RX7) (T := TX7) (N := 29) hx hb htg ig_7 hown hK hP 0 (oh_wg (Nat.lt_of_lt_of_le (by decide) hn) (sM_0 hT)) rfl 10 (by decide) (htg _ q_983) (fun _ h9 => h9) rfl dX7_goesOf_14 ?_
    refine lv_iload_n hx hb dX7_goesOf_17 rfl (lv_at hl 3 rfl) ?_
    have n_4 : vp_in x3 24 := (rg_in hx3 (by decide))
    have b_5 : (x3).toNatClampNeg < 24 := vp_lt n_4
    refine th_aald hx hb hK hP 9 2 (Nat.lt_of_lt_of_le (by decide) hn) (sM_9 hT) rfl n_4 dX7_goesOf_18 ?_
    refine lv_iconst (v := 4) hx hb dX7_goesOf_19 (by decide) ?_
    refine th_iald hx hb hK hP (24 + (x3).toNatClampNeg) (lt_blk b_5 hn (by decide)) (hT.broad b_5).1 (rg_in (rg_c (v := 4) (lo := 4) (hi := 4) (by decide)) (by decide)) dX7_goesOf_20 ?_
    refine lv_aload_n hx hb dX7_goesOf_21 rfl (lv_at hl 0 rfl) ?_
    refine lv_iload_n hx hb dX7_goesOf_22 rfl (lv_at hl 1 rfl) ?_
    refine tq_V (As := [.int x1]) (rest := [.int (ga (C (24 + (x3).toNatClampNeg)) ((4 : Int32)).toNatClampNeg)]) (ws := (oh_W n a C)) ⟨hx, hb, hml, hown, htg⟩ (e_X7_lengthOf l D E G a C n hn hT x1 (rg_w hx1 (by decide))) (cwV 1 htg (oh_gV q_1282 q_1284 q_49 q_73 q_1285) rfl rfl rfl pdVX7_lengthOf ⟨Nat.le_of_ble_eq_true rfl, Nat.le_of_ble_eq_true rfl⟩) hK hP hG hS (va_recv hK hP (ci := 7) (q0 := 0) rfl (oh_wg (Nat.lt_of_lt_of_le (by decide) hn) (sM_0 hT))) rfl hl.1 rfl (Nat.le_of_ble_eq_true rfl) dX7_goesOf_23 ⟨Nat.le_of_ble_eq_true rfl, Nat.le_of_ble_eq_true rfl⟩ (fun r_6 hq_7 => ?_)
    subst hq_7
    refine lv_icmp_ge (tgt := 31) hx hb dX7_goesOf_26 (by decide) (fun (c_8 : (((ga (C (64 + (x1).toNatClampNeg)) ((1 : Int32)).toNatClampNeg) * ((ga (C (64 + (x1).toNatClampNeg)) ((0 : Int32)).toNatClampNeg) - 1)) + 4) ≤ (ga (C (24 + (x3).toNatClampNeg)) ((4 : Int32)).toNatClampNeg)) => ?_) (fun (c_8 : ¬ ((((ga (C (64 + (x1).toNatClampNeg)) ((1 : Int32)).toNatClampNeg) * ((ga (C (64 + (x1).toNatClampNeg)) ((0 : Int32)).toNatClampNeg) - 1)) + 4) ≤ (ga (C (24 + (x3).toNatClampNeg)) ((4 : Int32)).toNatClampNeg))) => ?_)
    · refine lv_iconst (v := 0) hx hb dX7_goesOf_31 (by decide) ?_
      refine lv_istore (lv' := [(4, .int 0), (0, .ref (a 0)), (1, .int x1), (2, .int x2), (3, .int x3)]) hx hb dX7_goesOf_32 hl (by decide) rfl (fun ls hl => ?_)
      have L_34 : ∀ (d : Nat) (z34_4 : Int32) (ls : Array Slot), (16 - z34_4.toInt).toNat = d → rg z34_4 0 16 → (∀ A : LA, absM C A → okA A → x1 < A 5 0 2 → x3 < A 5 0 0 → ∀ b : Nat, (b : Int) < z34_4.toInt → rdA A b = x3.toNatClampNeg → ¬ ndA A x1 x2 b = 2) → lv_has ls 5 [(4, .int z34_4), (0, .ref (a 0)), (1, .int x1), (2, .int x2), (3, .int x3)] → W p l e ({ frames := 3, cells := 0, slots := 0, locals := 73 }) s m (([.ref (a 0), .int x1, .int x2, .int x3] : List Value).toArray) below meth c s.heap [] 0 0 Q (F0 m 34 ls []) := by
        intro d
        induction d using Nat.strongRecOn with
        | ind d ih_34 =>
        intro z34_4 ls hd_34 hz34_4 hx_34 hl
        refine lv_iload hx hb dX7_goesOf_34 (lv_at hl 0 rfl) ?_
        refine lv_aload_n hx hb dX7_goesOf_36 rfl (lv_at hl 1 rfl) ?_
        refine va_get (D := D) (ci := 7) (v := .int (gi (C 0) 11)) (C := RX7) (T := TX7) (N := 29) hx hb htg ig_7 hown hK hP 0 (oh_wg (Nat.lt_of_lt_of_le (by decide) hn) (sM_0 hT)) rfl 11 (by decide) (htg _ q_984) (fun _ h9 => h9) rfl dX7_goesOf_37 ?_
        refine lv_icmp_ge (tgt := 76) hx hb dX7_goesOf_40 (by decide) (fun (c_9 : (gi (C 0) 11) ≤ z34_4) => ?_) (fun (c_9 : ¬ ((gi (C 0) 11) ≤ z34_4)) => ?_)
        · refine lv_iconst (v := 1) hx hb dX7_goesOf_76 (by decide) ?_
          rw [hQ]
          exact W.zret (v := 1) (ty := .boolean) hx hb hr (by decide) (fun t ht hW => ⟨1, rfl, ⟨(Or.inr rfl), (fun A hA hok hl hr => by have c0 : ga (C (24 + (x3).toNatClampNeg)) ((0 : Int32)).toNatClampNeg = A 0 x3.toNatClampNeg 0 := colM_v (t := 0) hA (by decide) hx3 (by decide) hr (by unfold vis; omega); have c1 : ga (C (24 + (x3).toNatClampNeg)) ((1 : Int32)).toNatClampNeg = A 0 x3.toNatClampNeg 1 := colM_v (t := 0) hA (by decide) hx3 (by decide) hr (by unfold vis; omega); have c2 : ga (C (24 + (x3).toNatClampNeg)) ((2 : Int32)).toNatClampNeg = A 0 x3.toNatClampNeg 2 := colM_v (t := 0) hA (by decide) hx3 (by decide) hr (by unfold vis; omega); have c3 : ga (C (24 + (x3).toNatClampNeg)) ((3 : Int32)).toNatClampNeg = A 0 x3.toNatClampNeg 3 := colM_v (t := 0) hA (by decide) hx3 (by decide) hr (by unfold vis; omega); have c4 : ga (C (24 + (x3).toNatClampNeg)) ((4 : Int32)).toNatClampNeg = A 0 x3.toNatClampNeg 4 := colM_v (t := 0) hA (by decide) hx3 (by decide) hr (by unfold vis; omega); have c5 : ga (C (24 + (x3).toNatClampNeg)) ((5 : Int32)).toNatClampNeg = A 0 x3.toNatClampNeg 5 := colM_v (t := 0) hA (by decide) hx3 (by decide) hr (by unfold vis; omega); have c6 : ga (C (24 + (x3).toNatClampNeg)) ((6 : Int32)).toNatClampNeg = A 0 x3.toNatClampNeg 6 := colM_v (t := 0) hA (by decide) hx3 (by decide) hr (by unfold vis; omega); have w0 : ga (C (64 + (x1).toNatClampNeg)) ((0 : Int32)).toNatClampNeg = A 2 x1.toNatClampNeg 0 := colM_v (t := 2) hA (by decide) hx1 (by decide) hl (by unfold vis; omega); have w1 : ga (C (64 + (x1).toNatClampNeg)) ((1 : Int32)).toNatClampNeg = A 2 x1.toNatClampNeg 1 := colM_v (t := 2) hA (by decide) hx1 (by decide) hl (by unfold vis; omega); have w2 : ga (C (64 + (x1).toNatClampNeg)) ((2 : Int32)).toNatClampNeg = A 2 x1.toNatClampNeg 2 := colM_v (t := 2) hA (by decide) hx1 (by decide) hl (by unfold vis; omega); have el : ((ga (C (64 + (x1).toNatClampNeg)) ((1 : Int32)).toNatClampNeg) * ((ga (C (64 + (x1).toNatClampNeg)) ((0 : Int32)).toNatClampNeg) - 1)) + 4 = lenA A x1 := (by rw [w0, w1]; rfl); exact ⟨fun _ => ⟨(show psA A x1 x3.toNatClampNeg from ⟨rg01 (hok.2.2.1 x3.toNatClampNeg (by rw [oh_nat hx3 (by decide)]; exact Int32.lt_iff_toInt_lt.mp hr)).2.2.2.2.2.2 (by rw [← c6]; exact c_3), (by rw [← c4, ← el]; exact c_8)⟩), fun b hb => hx_34 A hA hok hl hr b (by have h5 := hok.n1 hb; have h6 := Int32.le_iff_toInt_le.mp c_9; rw [show gi (C 0) 11 = A 5 0 1 from hA.1 1 (by decide)] at h6; omega)⟩, fun _ => rfl⟩)⟩, ht⟩) (fun q h => by cases h) dX7_goesOf_77
        · refine lv_aload_n hx hb dX7_goesOf_43 rfl (lv_at hl 1 rfl) ?_
          refine va_get (D := D) (ci := 7) (v := .ref (a 10)) (C := RX7) (T := TX7) (N := 29) hx hb htg ig_7 hown hK hP 0 (oh_wg (Nat.lt_of_lt_of_le (by decide) hn) (sM_0 hT)) rfl 12 (by decide) (htg _ q_985) (fun _ h9 => h9) rfl dX7_goesOf_44 ?_
          refine lv_iload hx hb dX7_goesOf_47 (lv_at hl 0 rfl) ?_
          have n_10 : vp_in z34_4 16 := (rg_in (rn_ltu (u' := 15) (Int32.not_le.mp c_9) hz34_4 (fM_0_11 hT0) (by decide)) (by decide))
          have b_11 : (z34_4).toNatClampNeg < 16 := vp_lt n_10
          refine th_aald hx hb hK hP 10 2 (Nat.lt_of_lt_of_le (by decide) hn) (sM_10 hT) rfl n_10 dX7_goesOf_49 ?_
          refine lv_iconst (v := 0) hx hb dX7_goesOf_50 (by decide) ?_
          refine th_iald hx hb hK hP (48 + (z34_4).toNatClampNeg) (lt_blk b_11 hn (by decide)) (hT.bbridge b_11).1 (rg_in (rg_c (v := 0) (lo := 0) (hi := 0) (by decide)) (by decide)) dX7_goesOf_51 ?_
          refine lv_iload_n hx hb dX7_goesOf_52 rfl (lv_at hl 4 rfl) ?_
          refine lv_icmp_ne (tgt := 70) hx hb dX7_goesOf_53 (by decide) (fun (c_12 : ¬ ((ga (C (48 + (z34_4).toNatClampNeg)) ((0 : Int32)).toNatClampNeg) = x3)) => ?_) (fun (c_12 : (ga (C (48 + (z34_4).toNatClampNeg)) ((0 : Int32)).toNatClampNeg) = x3) => ?_)
          · refine lv_iinc (v := z34_4 + 1) (lv' := [(4, .int (z34_4 + 1)), (0, .ref (a 0)), (1, .int x1), (2, .int x2), (3, .int x3)]) hx hb dX7_goesOf_70 hl (k := 0) rfl (by rfl) (by decide) rfl (fun ls hl => ?_)
            refine lv_goto (tgt := 34) hx hb dX7_goesOf_73 (by decide) ?_
            exact ih_34 _ (hd_34 ▸ mu_up 16 (rn_ltu (u' := 15) (Int32.not_le.mp c_9) hz34_4 (fM_0_11 hT0) (by decide)) (by decide)) (z34_4 + 1) ls rfl (rg_w (rg_add (lo := 1) (hi := 16) (rn_ltu (u' := 15) (Int32.not_le.mp c_9) hz34_4 (fM_0_11 hT0) (by decide)) (rg_c (v := 1) (lo := 1) (hi := 1) (by decide)) (by decide)) (by decide)) (fun A hA hok hl hr => by have iz : rg z34_4 0 15 := (rg_w (lo := 0) (hi := 15) (rn_ltu (u' := 15) (Int32.not_le.mp c_9) hz34_4 (fM_0_11 hT0) (by decide)) (by decide)); have hz1 : z34_4 < A 5 0 1 := oh_lte (Int32.not_le.mp c_9) (hA.1 1 (by decide)); have hv := hok.2.2.2.1 z34_4.toNatClampNeg (by rw [oh_nat iz (by decide)]; exact Int32.lt_iff_toInt_lt.mp hz1); have cr : ga (C (48 + (z34_4).toNatClampNeg)) ((0 : Int32)).toNatClampNeg = A 1 z34_4.toNatClampNeg 0 := colM_v (t := 1) hA (by decide) iz (by decide) hz1 (by unfold vis; omega); have er := rdN hv.1 hx3; exact n1_s (P := fun b => rdA A b = x3.toNatClampNeg → ¬ ndA A x1 x2 b = 2) iz (hx_34 A hA hok hl hr) (fun q => absurd (Eq.trans cr (er.mp q)) c_12)) (lv_sub hl [0, 1, 2, 3, 4] rfl)
          · refine lv_aload_n hx hb dX7_goesOf_56 rfl (lv_at hl 1 rfl) ?_
            refine lv_iload_n hx hb dX7_goesOf_57 rfl (lv_at hl 2 rfl) ?_
            refine lv_iload_n hx hb dX7_goesOf_58 rfl (lv_at hl 3 rfl) ?_
            refine lv_iload hx hb dX7_goesOf_59 (lv_at hl 0 rfl) ?_
            refine tq_V (As := [.int x1, .int x2, .int z34_4]) (rest := []) (ws := (oh_W n a C)) ⟨hx, hb, hml, hown, htg⟩ (e_X7_needsOf l D E G a C n hn hT x1 x2 z34_4 (rg_w hx1 (by decide)) (rg_w (rn_ltu (u' := 15) (Int32.not_le.mp c_9) hz34_4 (fM_0_11 hT0) (by decide)) (by decide)) hw) (cwV 3 htg (oh_gV q_1310 q_1312 q_53 q_73 q_1313) rfl rfl rfl pdVX7_needsOf ⟨Nat.le_of_ble_eq_true rfl, Nat.le_of_ble_eq_true rfl⟩) hK hP hG hS (va_recv hK hP (ci := 7) (q0 := 0) rfl (oh_wg (Nat.lt_of_lt_of_le (by decide) hn) (sM_0 hT))) rfl hl.1 rfl (Nat.le_of_ble_eq_true rfl) dX7_goesOf_61 ⟨Nat.le_of_ble_eq_true rfl, Nat.le_of_ble_eq_true rfl⟩ (fun r_13 hq_14 => ?_)
            refine lv_iconst (v := 2) hx hb dX7_goesOf_64 (by decide) ?_
            refine lv_icmp_ne (tgt := 70) hx hb dX7_goesOf_65 (by decide) (fun (c_15 : ¬ (r_13 = 2)) => ?_) (fun (c_15 : r_13 = 2) => ?_)
            · refine lv_iinc (v := z34_4 + 1) (lv' := [(4, .int (z34_4 + 1)), (0, .ref (a 0)), (1, .int x1), (2, .int x2), (3, .int x3)]) hx hb dX7_goesOf_70 hl (k := 0) rfl (by rfl) (by decide) rfl (fun ls hl => ?_)
              refine lv_goto (tgt := 34) hx hb dX7_goesOf_73 (by decide) ?_
              exact ih_34 _ (hd_34 ▸ mu_up 16 (rn_ltu (u' := 15) (Int32.not_le.mp c_9) hz34_4 (fM_0_11 hT0) (by decide)) (by decide)) (z34_4 + 1) ls rfl (rg_w (rg_add (lo := 1) (hi := 16) (rn_ltu (u' := 15) (Int32.not_le.mp c_9) hz34_4 (fM_0_11 hT0) (by decide)) (rg_c (v := 1) (lo := 1) (hi := 1) (by decide)) (by decide)) (by decide)) (fun A hA hok hl hr => by have iz : rg z34_4 0 15 := (rg_w (lo := 0) (hi := 15) (rn_ltu (u' := 15) (Int32.not_le.mp c_9) hz34_4 (fM_0_11 hT0) (by decide)) (by decide)); have hz1 : z34_4 < A 5 0 1 := oh_lte (Int32.not_le.mp c_9) (hA.1 1 (by decide)); have hv := hok.2.2.2.1 z34_4.toNatClampNeg (by rw [oh_nat iz (by decide)]; exact Int32.lt_iff_toInt_lt.mp hz1); have cr : ga (C (48 + (z34_4).toNatClampNeg)) ((0 : Int32)).toNatClampNeg = A 1 z34_4.toNatClampNeg 0 := colM_v (t := 1) hA (by decide) iz (by decide) hz1 (by unfold vis; omega); have er := rdN hv.1 hx3; have en : r_13 = ndA A x1 x2 z34_4.toNatClampNeg := hq_14 A hA hok hl hz1; exact n1_s (P := fun b => rdA A b = x3.toNatClampNeg → ¬ ndA A x1 x2 b = 2) iz (hx_34 A hA hok hl hr) (fun _ q => c_15 (Eq.trans en q))) (lv_sub hl [0, 1, 2, 3, 4] rfl)
            · refine lv_iconst (v := 0) hx hb dX7_goesOf_68 (by decide) ?_
              rw [hQ]
              exact W.zret (v := 0) (ty := .boolean) hx hb hr (by decide) (fun t ht hW => ⟨0, rfl, ⟨(Or.inl rfl), (fun A hA hok hl hr => by have c0 : ga (C (24 + (x3).toNatClampNeg)) ((0 : Int32)).toNatClampNeg = A 0 x3.toNatClampNeg 0 := colM_v (t := 0) hA (by decide) hx3 (by decide) hr (by unfold vis; omega); have c1 : ga (C (24 + (x3).toNatClampNeg)) ((1 : Int32)).toNatClampNeg = A 0 x3.toNatClampNeg 1 := colM_v (t := 0) hA (by decide) hx3 (by decide) hr (by unfold vis; omega); have c2 : ga (C (24 + (x3).toNatClampNeg)) ((2 : Int32)).toNatClampNeg = A 0 x3.toNatClampNeg 2 := colM_v (t := 0) hA (by decide) hx3 (by decide) hr (by unfold vis; omega); have c3 : ga (C (24 + (x3).toNatClampNeg)) ((3 : Int32)).toNatClampNeg = A 0 x3.toNatClampNeg 3 := colM_v (t := 0) hA (by decide) hx3 (by decide) hr (by unfold vis; omega); have c4 : ga (C (24 + (x3).toNatClampNeg)) ((4 : Int32)).toNatClampNeg = A 0 x3.toNatClampNeg 4 := colM_v (t := 0) hA (by decide) hx3 (by decide) hr (by unfold vis; omega); have c5 : ga (C (24 + (x3).toNatClampNeg)) ((5 : Int32)).toNatClampNeg = A 0 x3.toNatClampNeg 5 := colM_v (t := 0) hA (by decide) hx3 (by decide) hr (by unfold vis; omega); have c6 : ga (C (24 + (x3).toNatClampNeg)) ((6 : Int32)).toNatClampNeg = A 0 x3.toNatClampNeg 6 := colM_v (t := 0) hA (by decide) hx3 (by decide) hr (by unfold vis; omega); have w0 : ga (C (64 + (x1).toNatClampNeg)) ((0 : Int32)).toNatClampNeg = A 2 x1.toNatClampNeg 0 := colM_v (t := 2) hA (by decide) hx1 (by decide) hl (by unfold vis; omega); have w1 : ga (C (64 + (x1).toNatClampNeg)) ((1 : Int32)).toNatClampNeg = A 2 x1.toNatClampNeg 1 := colM_v (t := 2) hA (by decide) hx1 (by decide) hl (by unfold vis; omega); have w2 : ga (C (64 + (x1).toNatClampNeg)) ((2 : Int32)).toNatClampNeg = A 2 x1.toNatClampNeg 2 := colM_v (t := 2) hA (by decide) hx1 (by decide) hl (by unfold vis; omega); have el : ((ga (C (64 + (x1).toNatClampNeg)) ((1 : Int32)).toNatClampNeg) * ((ga (C (64 + (x1).toNatClampNeg)) ((0 : Int32)).toNatClampNeg) - 1)) + 4 = lenA A x1 := (by rw [w0, w1]; rfl); have iz : rg z34_4 0 15 := (rg_w (lo := 0) (hi := 15) (rn_ltu (u' := 15) (Int32.not_le.mp c_9) hz34_4 (fM_0_11 hT0) (by decide)) (by decide)); have hz1 : z34_4 < A 5 0 1 := oh_lte (Int32.not_le.mp c_9) (hA.1 1 (by decide)); have hv := hok.2.2.2.1 z34_4.toNatClampNeg (by rw [oh_nat iz (by decide)]; exact Int32.lt_iff_toInt_lt.mp hz1); have cr : ga (C (48 + (z34_4).toNatClampNeg)) ((0 : Int32)).toNatClampNeg = A 1 z34_4.toNatClampNeg 0 := colM_v (t := 1) hA (by decide) iz (by decide) hz1 (by unfold vis; omega); have er := rdN hv.1 hx3; have en : r_13 = ndA A x1 x2 z34_4.toNatClampNeg := hq_14 A hA hok hl hz1; exact ⟨fun h8 => absurd h8 (by decide), fun h8 => absurd (Eq.trans en.symm c_15) (h8.2 z34_4.toNatClampNeg (by have h5 := oh_nat iz (by decide); have h6 := Int32.lt_iff_toInt_lt.mp hz1; show z34_4.toNatClampNeg < (A 5 0 1).toInt.toNat; omega) (er.mpr (Eq.trans cr.symm c_12)))⟩)⟩, ht⟩) (fun q h => by cases h) dX7_goesOf_69
      exact L_34 _ 0 ls rfl (rg_w (rg_c (v := 0) (lo := 0) (hi := 0) (by decide)) (by decide)) (fun A hA hok hl hr b hb => absurd hb (by show ¬ (b : Int) < 0; omega)) (lv_sub hl [0, 1, 2, 3, 4] rfl)
    · refine lv_iconst (v := 0) hx hb dX7_goesOf_29 (by decide) ?_
      rw [hQ]
      exact W.zret (v := 0) (ty := .boolean) hx hb hr (by decide) (fun t ht hW => ⟨0, rfl, ⟨(Or.inl rfl), (fun A hA hok hl hr => by have c0 : ga (C (24 + (x3).toNatClampNeg)) ((0 : Int32)).toNatClampNeg = A 0 x3.toNatClampNeg 0 := colM_v (t := 0) hA (by decide) hx3 (by decide) hr (by unfold vis; omega); have c1 : ga (C (24 + (x3).toNatClampNeg)) ((1 : Int32)).toNatClampNeg = A 0 x3.toNatClampNeg 1 := colM_v (t := 0) hA (by decide) hx3 (by decide) hr (by unfold vis; omega); have c2 : ga (C (24 + (x3).toNatClampNeg)) ((2 : Int32)).toNatClampNeg = A 0 x3.toNatClampNeg 2 := colM_v (t := 0) hA (by decide) hx3 (by decide) hr (by unfold vis; omega); have c3 : ga (C (24 + (x3).toNatClampNeg)) ((3 : Int32)).toNatClampNeg = A 0 x3.toNatClampNeg 3 := colM_v (t := 0) hA (by decide) hx3 (by decide) hr (by unfold vis; omega); have c4 : ga (C (24 + (x3).toNatClampNeg)) ((4 : Int32)).toNatClampNeg = A 0 x3.toNatClampNeg 4 := colM_v (t := 0) hA (by decide) hx3 (by decide) hr (by unfold vis; omega); have c5 : ga (C (24 + (x3).toNatClampNeg)) ((5 : Int32)).toNatClampNeg = A 0 x3.toNatClampNeg 5 := colM_v (t := 0) hA (by decide) hx3 (by decide) hr (by unfold vis; omega); have c6 : ga (C (24 + (x3).toNatClampNeg)) ((6 : Int32)).toNatClampNeg = A 0 x3.toNatClampNeg 6 := colM_v (t := 0) hA (by decide) hx3 (by decide) hr (by unfold vis; omega); have w0 : ga (C (64 + (x1).toNatClampNeg)) ((0 : Int32)).toNatClampNeg = A 2 x1.toNatClampNeg 0 := colM_v (t := 2) hA (by decide) hx1 (by decide) hl (by unfold vis; omega); have w1 : ga (C (64 + (x1).toNatClampNeg)) ((1 : Int32)).toNatClampNeg = A 2 x1.toNatClampNeg 1 := colM_v (t := 2) hA (by decide) hx1 (by decide) hl (by unfold vis; omega); have w2 : ga (C (64 + (x1).toNatClampNeg)) ((2 : Int32)).toNatClampNeg = A 2 x1.toNatClampNeg 2 := colM_v (t := 2) hA (by decide) hx1 (by decide) hl (by unfold vis; omega); have el : ((ga (C (64 + (x1).toNatClampNeg)) ((1 : Int32)).toNatClampNeg) * ((ga (C (64 + (x1).toNatClampNeg)) ((0 : Int32)).toNatClampNeg) - 1)) + 4 = lenA A x1 := (by rw [w0, w1]; rfl); exact ⟨fun h8 => absurd h8 (by decide), fun h8 => absurd h8.1.2 (Int32.not_le.mpr (by rw [← c4, ← el]; exact (Int32.not_le.mp c_8)))⟩)⟩, ht⟩) (fun q h => by cases h) dX7_goesOf_30

set_option maxHeartbeats 4000000 in
set_option maxRecDepth 100000 in
theorem e_X7_enginesOf (l : Launch) (D : va_G) (E : Nat → ClassId) (G : Nat → Nat) (a : Nat → Nat) (C : Nat → va_E) (n : Nat) (hn : 74 ≤ n) (hT : TyM a E C) (x1 : Int32) (x2 : Int32) (x3 : Int32) (hx1 : rg x1 0 4) (hx3 : rg x3 0 23) (hw : oh_pos C x1) : Met l yX7_enginesOf (oh_w yX7_enginesOf cX7_enginesOf 4 (some .int)) ({ frames := 1, cells := 0, slots := 0, locals := 24 }) (oh_Pp D E G [.ref (a 0), .int x1, .int x2, .int x3] (oh_W n a C)) (vp_Si (fun r => (∀ A : LA, absM C A → okA A → x1 < A 5 0 2 → x3 < A 5 0 0 → r = engA A x1 x2 x3.toNatClampNeg))) 0 0 (fun _ => False) := by
  refine Met.ofW (cc := cX7_enginesOf) (maxL := 4) (ret := (some .int)) (by decide) rfl ?_
  intro p e s m args below meth c s₁ B hml hv
  obtain ⟨rfl, hP, hK, hG⟩ := hv
  have hx := B.exec
  have hb := B.bytes
  have hr := B.returns
  have hts := atoms_spec (ws := (oh_w yX7_enginesOf cX7_enginesOf 4 (some .int))) B.pre
  have htg : ∀ w ∈ oh_t, w.before _ s = true := fun w h => hts w (List.mem_cons_of_mem _ h)
  have hown : s.vm.findClass RX7 = some m.cls := findClass_of_methodNamed B.named
  have hlocks := B.notSynchronized
  have hT0 := hT
  have hS : va_S (fun _ => False) s.heap s.heap [] := va_S.rf
  have hl := lv_entry ([.ref (a 0), .int x1, .int x2, .int x3]) (n := 4) (Nat.le_of_ble_eq_true rfl)
  rw [lg_entry_eq]
  generalize (lg_sl ([.ref (a 0), .int x1, .int x2, .int x3]) ++ List.replicate (4 - (lg_sl ([.ref (a 0), .int x1, .int x2, .int x3])).length) Slot.unset).toArray = ls at hl ⊢
  have hl : lv_has ls 4 [(0, .ref (a 0)), (1, .int x1), (2, .int x2), (3, .int x3)] := hl
  refine oh_genQ (fun Q hQ => ?_)
  refine lv_iconst (v := 1) hx hb dX7_enginesOf_0 (by decide) ?_
  refine lv_aload_n hx hb dX7_enginesOf_1 rfl (lv_at hl 0 rfl) ?_
  refine va_get (D := D) (ci := 7) (v := .ref (a 9)) (C := RX7) (T := TX7) (N := 29) hx hb htg ig_7 hown hK hP 0 (oh_wg (Nat.lt_of_lt_of_le (by decide) hn) (sM_0 hT)) rfl 10 (by decide) (htg _ q_983) (fun _ h9 => h9) rfl dX7_enginesOf_2 ?_
  refine lv_iload_n hx hb dX7_enginesOf_5 rfl (lv_at hl 3 rfl) ?_
  have n_1 : vp_in x3 24 := (rg_in hx3 (by decide))
  have b_2 : (x3).toNatClampNeg < 24 := vp_lt n_1
  refine th_aald hx hb hK hP 9 2 (Nat.lt_of_lt_of_le (by decide) hn) (sM_9 hT) rfl n_1 dX7_enginesOf_6 ?_
  refine lv_iconst (v := 3) hx hb dX7_enginesOf_7 (by decide) ?_
  refine th_iald hx hb hK hP (24 + (x3).toNatClampNeg) (lt_blk b_2 hn (by decide)) (hT.broad b_2).1 (rg_in (rg_c (v := 3) (lo := 3) (hi := 3) (by decide)) (by decide)) dX7_enginesOf_8 ?_
  refine lv_aload_n hx hb dX7_enginesOf_9 rfl (lv_at hl 0 rfl) ?_
  refine lv_iload_n hx hb dX7_enginesOf_10 rfl (lv_at hl 1 rfl) ?_
  refine lv_iload_n hx hb dX7_enginesOf_11 rfl (lv_at hl 2 rfl) ?_
  refine tq_V (As := [.int x1, .int x2]) (rest := [.int (ga (C (24 + (x3).toNatClampNeg)) ((3 : Int32)).toNatClampNeg), .int 1]) (ws := (oh_W n a C)) ⟨hx, hb, hml, hown, htg⟩ (e_X7_axleLoad l D E G a C n hn hT x1 x2 (rg_w hx1 (by decide)) hw) (cwV 2 htg (oh_gV q_1294 q_1296 q_51 q_73 q_1297) rfl rfl rfl pdVX7_axleLoad ⟨Nat.le_of_ble_eq_true rfl, Nat.le_of_ble_eq_true rfl⟩) hK hP hG hS (va_recv hK hP (ci := 7) (q0 := 0) rfl (oh_wg (Nat.lt_of_lt_of_le (by decide) hn) (sM_0 hT))) rfl hl.1 rfl (Nat.le_of_ble_eq_true rfl) dX7_enginesOf_12 ⟨Nat.le_of_ble_eq_true rfl, Nat.le_of_ble_eq_true rfl⟩ (fun r_3 hq_4 => ?_)
  refine lv_imul hx hb dX7_enginesOf_15 ?_
  refine lv_bipush (v := 100) hx hb dX7_enginesOf_16 (by decide) ?_
  refine lv_idiv hx hb dX7_enginesOf_18 (by decide) ?_
  refine lv_iadd hx hb dX7_enginesOf_19 ?_
  rw [hQ]
  exact W.iret (v := 1 + (((ga (C (24 + (x3).toNatClampNeg)) ((3 : Int32)).toNatClampNeg) * r_3) / 100)) hx hb hr (fun t ht hW => ⟨1 + (((ga (C (24 + (x3).toNatClampNeg)) ((3 : Int32)).toNatClampNeg) * r_3) / 100), rfl, (fun A hA hok hl hr => by have c0 : ga (C (24 + (x3).toNatClampNeg)) ((0 : Int32)).toNatClampNeg = A 0 x3.toNatClampNeg 0 := colM_v (t := 0) hA (by decide) hx3 (by decide) hr (by unfold vis; omega); have c1 : ga (C (24 + (x3).toNatClampNeg)) ((1 : Int32)).toNatClampNeg = A 0 x3.toNatClampNeg 1 := colM_v (t := 0) hA (by decide) hx3 (by decide) hr (by unfold vis; omega); have c2 : ga (C (24 + (x3).toNatClampNeg)) ((2 : Int32)).toNatClampNeg = A 0 x3.toNatClampNeg 2 := colM_v (t := 0) hA (by decide) hx3 (by decide) hr (by unfold vis; omega); have c3 : ga (C (24 + (x3).toNatClampNeg)) ((3 : Int32)).toNatClampNeg = A 0 x3.toNatClampNeg 3 := colM_v (t := 0) hA (by decide) hx3 (by decide) hr (by unfold vis; omega); have c4 : ga (C (24 + (x3).toNatClampNeg)) ((4 : Int32)).toNatClampNeg = A 0 x3.toNatClampNeg 4 := colM_v (t := 0) hA (by decide) hx3 (by decide) hr (by unfold vis; omega); have c5 : ga (C (24 + (x3).toNatClampNeg)) ((5 : Int32)).toNatClampNeg = A 0 x3.toNatClampNeg 5 := colM_v (t := 0) hA (by decide) hx3 (by decide) hr (by unfold vis; omega); have c6 : ga (C (24 + (x3).toNatClampNeg)) ((6 : Int32)).toNatClampNeg = A 0 x3.toNatClampNeg 6 := colM_v (t := 0) hA (by decide) hx3 (by decide) hr (by unfold vis; omega); have w0 : ga (C (64 + (x1).toNatClampNeg)) ((0 : Int32)).toNatClampNeg = A 2 x1.toNatClampNeg 0 := colM_v (t := 2) hA (by decide) hx1 (by decide) hl (by unfold vis; omega); have w1 : ga (C (64 + (x1).toNatClampNeg)) ((1 : Int32)).toNatClampNeg = A 2 x1.toNatClampNeg 1 := colM_v (t := 2) hA (by decide) hx1 (by decide) hl (by unfold vis; omega); have w2 : ga (C (64 + (x1).toNatClampNeg)) ((2 : Int32)).toNatClampNeg = A 2 x1.toNatClampNeg 2 := colM_v (t := 2) hA (by decide) hx1 (by decide) hl (by unfold vis; omega); have ws : ga (C 13) ((0 : Int32)).toNatClampNeg = A 4 0 0 := hA.2.1 0 (by decide); rw [hq_4 A hA, w0, w2, ws, c3]; rfl), ht⟩) (fun q h => by cases h) dX7_enginesOf_20

theorem n1_M {C : Nat → va_E} {A : LA} {z : Int32} (hA : absM C A) (c : gi (C 0) 11 ≤ z) (h : z.toInt ≤ (gi (C 0) 11).toInt) : z.toNatClampNeg = n1A A := by
  have e : gi (C 0) 11 = A 5 0 1 := hA.1 1 (by decide)
  have c2 := Int32.le_iff_toInt_le.mp c
  have e2 : z = gi (C 0) 11 := Int32.toInt_inj.mp (by omega)
  rw [e2, e]
  rfl
theorem n0_M {C : Nat → va_E} {A : LA} {z : Int32} (hA : absM C A) (c : gi (C 0) 9 ≤ z) (h : z.toInt ≤ (gi (C 0) 9).toInt) : z.toNatClampNeg = n0A A := by
  have e : gi (C 0) 9 = A 5 0 0 := hA.1 0 (by decide)
  have c2 := Int32.le_iff_toInt_le.mp c
  have e2 : z = gi (C 0) 9 := Int32.toInt_inj.mp (by omega)
  rw [e2, e]
  rfl

set_option maxHeartbeats 4000000 in
set_option maxRecDepth 100000 in
theorem e_X7_propsOf (l : Launch) (D : va_G) (E : Nat → ClassId) (G : Nat → Nat) (a : Nat → Nat) (C : Nat → va_E) (n : Nat) (hn : 74 ≤ n) (hT : TyM a E C) (x1 : Int32) (x2 : Int32) (x3 : Int32) (x4 : Int32) (hx1 : rg x1 0 4) (hx4 : rg x4 0 1) (hw : oh_pos C x1) : Met l yX7_propsOf (oh_w yX7_propsOf cX7_propsOf 7 (some .int)) ({ frames := 3, cells := 0, slots := 0, locals := 73 }) (oh_Pp D E G [.ref (a 0), .int x1, .int x2, .int x3, .int x4] (oh_W n a C)) (vp_Si (fun r => (∀ A : LA, absM C A → okA A → x1 < A 5 0 2 → rg x3 0 23 → r = pcU (rdA A) (ndA A x1 x2) (vvA A x4) (n1A A) x3.toNatClampNeg))) 0 0 (fun _ => False) := by
  refine Met.ofW (cc := cX7_propsOf) (maxL := 7) (ret := (some .int)) (by decide) rfl ?_
  intro p e s m args below meth c s₁ B hml hv
  obtain ⟨rfl, hP, hK, hG⟩ := hv
  have hx := B.exec
  have hb := B.bytes
  have hr := B.returns
  have hts := atoms_spec (ws := (oh_w yX7_propsOf cX7_propsOf 7 (some .int))) B.pre
  have htg : ∀ w ∈ oh_t, w.before _ s = true := fun w h => hts w (List.mem_cons_of_mem _ h)
  have hown : s.vm.findClass RX7 = some m.cls := findClass_of_methodNamed B.named
  have hlocks := B.notSynchronized
  have hT0 := hT
  have hS : va_S (fun _ => False) s.heap s.heap [] := va_S.rf
  have hl := lv_entry ([.ref (a 0), .int x1, .int x2, .int x3, .int x4]) (n := 7) (Nat.le_of_ble_eq_true rfl)
  rw [lg_entry_eq]
  generalize (lg_sl ([.ref (a 0), .int x1, .int x2, .int x3, .int x4]) ++ List.replicate (7 - (lg_sl ([.ref (a 0), .int x1, .int x2, .int x3, .int x4])).length) Slot.unset).toArray = ls at hl ⊢
  have hl : lv_has ls 7 [(0, .ref (a 0)), (1, .int x1), (2, .int x2), (3, .int x3), (4, .int x4)] := hl
  refine oh_genQ (fun Q hQ => ?_)
  refine lv_iconst (v := 0) hx hb dX7_propsOf_0 (by decide) ?_
  refine lv_istore (lv' := [(5, .int 0), (0, .ref (a 0)), (1, .int x1), (2, .int x2), (3, .int x3), (4, .int x4)]) hx hb dX7_propsOf_1 hl (by decide) rfl (fun ls hl => ?_)
  refine lv_iconst (v := 0) hx hb dX7_propsOf_3 (by decide) ?_
  refine lv_istore (lv' := [(6, .int 0), (5, .int 0), (0, .ref (a 0)), (1, .int x1), (2, .int x2), (3, .int x3), (4, .int x4)]) hx hb dX7_propsOf_4 hl (by decide) rfl (fun ls hl => ?_)
  have L_6 : ∀ (d : Nat) (z6_6 : Int32) (z6_5 : Int32) (ls : Array Slot), (16 - z6_6.toInt).toNat = d → rg z6_6 0 16 → (∀ A : LA, absM C A → okA A → x1 < A 5 0 2 → rg x3 0 23 → z6_5 = pcU (rdA A) (ndA A x1 x2) (vvA A x4) z6_6.toNatClampNeg x3.toNatClampNeg) → (z6_6.toInt ≤ (gi (C 0) 11).toInt) → lv_has ls 7 [(6, .int z6_6), (5, .int z6_5), (0, .ref (a 0)), (1, .int x1), (2, .int x2), (3, .int x3), (4, .int x4)] → W p l e ({ frames := 3, cells := 0, slots := 0, locals := 73 }) s m (([.ref (a 0), .int x1, .int x2, .int x3, .int x4] : List Value).toArray) below meth c s.heap [] 0 0 Q (F0 m 6 ls []) := by
    intro d
    induction d using Nat.strongRecOn with
    | ind d ih_6 =>
    intro z6_6 z6_5 ls hd_6 hz6_6 hx_6 hy_6 hl
    refine lv_iload hx hb dX7_propsOf_6 (lv_at hl 0 rfl) ?_
    refine lv_aload_n hx hb dX7_propsOf_8 rfl (lv_at hl 2 rfl) ?_
    refine va_get (D := D) (ci := 7) (v := .int (gi (C 0) 11)) (C := RX7) (T := TX7) (N := 29) hx hb htg ig_7 hown hK hP 0 (oh_wg (Nat.lt_of_lt_of_le (by decide) hn) (sM_0 hT)) rfl 11 (by decide) (htg _ q_984) (fun _ h9 => h9) rfl dX7_propsOf_9 ?_
    refine lv_icmp_ge (tgt := 70) hx hb dX7_propsOf_12 (by decide) (fun (c_1 : (gi (C 0) 11) ≤ z6_6) => ?_) (fun (c_1 : ¬ ((gi (C 0) 11) ≤ z6_6)) => ?_)
    · refine lv_iload hx hb dX7_propsOf_70 (lv_at hl 1 rfl) ?_
      rw [hQ]
      exact W.iret (v := z6_5) hx hb hr (fun t ht hW => ⟨z6_5, rfl, (fun A hA hok hl hx3 => by have h7 := hx_6 A hA hok hl hx3; rw [n1_M hA c_1 hy_6] at h7; exact h7), ht⟩) (fun q h => by cases h) dX7_propsOf_72
    · refine lv_aload_n hx hb dX7_propsOf_15 rfl (lv_at hl 2 rfl) ?_
      refine va_get (D := D) (ci := 7) (v := .ref (a 10)) (C := RX7) (T := TX7) (N := 29) hx hb htg ig_7 hown hK hP 0 (oh_wg (Nat.lt_of_lt_of_le (by decide) hn) (sM_0 hT)) rfl 12 (by decide) (htg _ q_985) (fun _ h9 => h9) rfl dX7_propsOf_16 ?_
      refine lv_iload hx hb dX7_propsOf_19 (lv_at hl 0 rfl) ?_
      have n_2 : vp_in z6_6 16 := (rg_in (rn_ltu (u' := 15) (Int32.not_le.mp c_1) hz6_6 (fM_0_11 hT0) (by decide)) (by decide))
      have b_3 : (z6_6).toNatClampNeg < 16 := vp_lt n_2
      refine th_aald hx hb hK hP 10 2 (Nat.lt_of_lt_of_le (by decide) hn) (sM_10 hT) rfl n_2 dX7_propsOf_21 ?_
      refine lv_iconst (v := 0) hx hb dX7_propsOf_22 (by decide) ?_
      refine th_iald hx hb hK hP (48 + (z6_6).toNatClampNeg) (lt_blk b_3 hn (by decide)) (hT.bbridge b_3).1 (rg_in (rg_c (v := 0) (lo := 0) (hi := 0) (by decide)) (by decide)) dX7_propsOf_23 ?_
      refine lv_iload_n hx hb dX7_propsOf_24 rfl (lv_at hl 5 rfl) ?_
      refine lv_icmp_ne (tgt := 64) hx hb dX7_propsOf_25 (by decide) (fun (c_4 : ¬ ((ga (C (48 + (z6_6).toNatClampNeg)) ((0 : Int32)).toNatClampNeg) = x3)) => ?_) (fun (c_4 : (ga (C (48 + (z6_6).toNatClampNeg)) ((0 : Int32)).toNatClampNeg) = x3) => ?_)
      · refine lv_iinc (v := z6_6 + 1) (lv' := [(6, .int (z6_6 + 1)), (5, .int z6_5), (0, .ref (a 0)), (1, .int x1), (2, .int x2), (3, .int x3), (4, .int x4)]) hx hb dX7_propsOf_64 hl (k := 0) rfl (by rfl) (by decide) rfl (fun ls hl => ?_)
        refine lv_goto (tgt := 6) hx hb dX7_propsOf_67 (by decide) ?_
        exact ih_6 _ (hd_6 ▸ mu_up 16 (rn_ltu (u' := 15) (Int32.not_le.mp c_1) hz6_6 (fM_0_11 hT0) (by decide)) (by decide)) (z6_6 + 1) z6_5 ls rfl (rg_w (rg_add (lo := 1) (hi := 16) (rn_ltu (u' := 15) (Int32.not_le.mp c_1) hz6_6 (fM_0_11 hT0) (by decide)) (rg_c (v := 1) (lo := 1) (hi := 1) (by decide)) (by decide)) (by decide)) (fun A hA hok hl hx3 => by have iz : rg z6_6 0 15 := (rg_w (lo := 0) (hi := 15) (rn_ltu (u' := 15) (Int32.not_le.mp c_1) hz6_6 (fM_0_11 hT0) (by decide)) (by decide)); have hz1 : z6_6 < A 5 0 1 := oh_lte (Int32.not_le.mp c_1) (hA.1 1 (by decide)); have hv := hok.2.2.2.1 z6_6.toNatClampNeg (by rw [oh_nat iz (by decide)]; exact Int32.lt_iff_toInt_lt.mp hz1); have cr : ga (C (48 + (z6_6).toNatClampNeg)) ((0 : Int32)).toNatClampNeg = A 1 z6_6.toNatClampNeg 0 := colM_v (t := 1) hA (by decide) iz (by decide) hz1 (by unfold vis; omega); have er := rdN hv.1 hx3; rw [(show (z6_6 + 1).toNatClampNeg = z6_6.toNatClampNeg + 1 from z_s15 iz), pcU_n (fun q => c_4 (Eq.trans cr (er.mp q.1)))]; exact hx_6 A hA hok hl hx3) (by have h7 := Int32.lt_iff_toInt_lt.mp (Int32.not_le.mp c_1); have h8 : (z6_6 + 1).toInt = z6_6.toInt + 1 := oh_incr (rn_ltu (u' := 15) (Int32.not_le.mp c_1) hz6_6 (fM_0_11 hT0) (by decide)) (by decide); omega) (lv_sub hl [0, 1, 2, 3, 4, 5, 6] rfl)
      · refine lv_aload_n hx hb dX7_propsOf_28 rfl (lv_at hl 2 rfl) ?_
        refine lv_iload_n hx hb dX7_propsOf_29 rfl (lv_at hl 3 rfl) ?_
        refine lv_iload_n hx hb dX7_propsOf_30 rfl (lv_at hl 4 rfl) ?_
        refine lv_iload hx hb dX7_propsOf_31 (lv_at hl 0 rfl) ?_
        refine tq_V (As := [.int x1, .int x2, .int z6_6]) (rest := []) (ws := (oh_W n a C)) ⟨hx, hb, hml, hown, htg⟩ (e_X7_needsOf l D E G a C n hn hT x1 x2 z6_6 (rg_w hx1 (by decide)) (rg_w (rn_ltu (u' := 15) (Int32.not_le.mp c_1) hz6_6 (fM_0_11 hT0) (by decide)) (by decide)) hw) (cwV 3 htg (oh_gV q_1310 q_1312 q_53 q_73 q_1313) rfl rfl rfl pdVX7_needsOf ⟨Nat.le_of_ble_eq_true rfl, Nat.le_of_ble_eq_true rfl⟩) hK hP hG hS (va_recv hK hP (ci := 7) (q0 := 0) rfl (oh_wg (Nat.lt_of_lt_of_le (by decide) hn) (sM_0 hT))) rfl hl.1 rfl (Nat.le_of_ble_eq_true rfl) dX7_propsOf_33 ⟨Nat.le_of_ble_eq_true rfl, Nat.le_of_ble_eq_true rfl⟩ (fun r_5 hq_6 => ?_)
        refine lv_iconst (v := 1) hx hb dX7_propsOf_36 (by decide) ?_
        refine lv_icmp_ne (tgt := 64) hx hb dX7_propsOf_37 (by decide) (fun (c_7 : ¬ (r_5 = 1)) => ?_) (fun (c_7 : r_5 = 1) => ?_)
        · refine lv_iinc (v := z6_6 + 1) (lv' := [(6, .int (z6_6 + 1)), (5, .int z6_5), (0, .ref (a 0)), (1, .int x1), (2, .int x2), (3, .int x3), (4, .int x4)]) hx hb dX7_propsOf_64 hl (k := 0) rfl (by rfl) (by decide) rfl (fun ls hl => ?_)
          refine lv_goto (tgt := 6) hx hb dX7_propsOf_67 (by decide) ?_
          exact ih_6 _ (hd_6 ▸ mu_up 16 (rn_ltu (u' := 15) (Int32.not_le.mp c_1) hz6_6 (fM_0_11 hT0) (by decide)) (by decide)) (z6_6 + 1) z6_5 ls rfl (rg_w (rg_add (lo := 1) (hi := 16) (rn_ltu (u' := 15) (Int32.not_le.mp c_1) hz6_6 (fM_0_11 hT0) (by decide)) (rg_c (v := 1) (lo := 1) (hi := 1) (by decide)) (by decide)) (by decide)) (fun A hA hok hl hx3 => by have iz : rg z6_6 0 15 := (rg_w (lo := 0) (hi := 15) (rn_ltu (u' := 15) (Int32.not_le.mp c_1) hz6_6 (fM_0_11 hT0) (by decide)) (by decide)); have hz1 : z6_6 < A 5 0 1 := oh_lte (Int32.not_le.mp c_1) (hA.1 1 (by decide)); have hv := hok.2.2.2.1 z6_6.toNatClampNeg (by rw [oh_nat iz (by decide)]; exact Int32.lt_iff_toInt_lt.mp hz1); have cr : ga (C (48 + (z6_6).toNatClampNeg)) ((0 : Int32)).toNatClampNeg = A 1 z6_6.toNatClampNeg 0 := colM_v (t := 1) hA (by decide) iz (by decide) hz1 (by unfold vis; omega); have er := rdN hv.1 hx3; have en : r_5 = ndA A x1 x2 z6_6.toNatClampNeg := hq_6 A hA hok hl hz1; rw [(show (z6_6 + 1).toNatClampNeg = z6_6.toNatClampNeg + 1 from z_s15 iz), pcU_n (fun q => c_7 (Eq.trans en q.2))]; exact hx_6 A hA hok hl hx3) (by have h7 := Int32.lt_iff_toInt_lt.mp (Int32.not_le.mp c_1); have h8 : (z6_6 + 1).toInt = z6_6.toInt + 1 := oh_incr (rn_ltu (u' := 15) (Int32.not_le.mp c_1) hz6_6 (fM_0_11 hT0) (by decide)) (by decide); omega) (lv_sub hl [0, 1, 2, 3, 4, 5, 6] rfl)
        · refine lv_iload hx hb dX7_propsOf_40 (lv_at hl 1 rfl) ?_
          refine lv_iload hx hb dX7_propsOf_42 (lv_at hl 6 rfl) ?_
          refine lv_if_eq (tgt := 60) hx hb dX7_propsOf_44 (by decide) (fun (c_8 : x4 = 0) => ?_) (fun (c_8 : ¬ (x4 = 0)) => ?_)
          · refine lv_iconst (v := 1) hx hb dX7_propsOf_60 (by decide) ?_
            refine lv_iadd hx hb dX7_propsOf_61 ?_
            refine lv_istore (lv' := [(5, .int (z6_5 + 1)), (6, .int z6_6), (0, .ref (a 0)), (1, .int x1), (2, .int x2), (3, .int x3), (4, .int x4)]) hx hb dX7_propsOf_62 hl (by decide) rfl (fun ls hl => ?_)
            refine lv_iinc (v := z6_6 + 1) (lv' := [(6, .int (z6_6 + 1)), (5, .int (z6_5 + 1)), (0, .ref (a 0)), (1, .int x1), (2, .int x2), (3, .int x3), (4, .int x4)]) hx hb dX7_propsOf_64 hl (k := 1) rfl (by rfl) (by decide) rfl (fun ls hl => ?_)
            refine lv_goto (tgt := 6) hx hb dX7_propsOf_67 (by decide) ?_
            exact ih_6 _ (hd_6 ▸ mu_up 16 (rn_ltu (u' := 15) (Int32.not_le.mp c_1) hz6_6 (fM_0_11 hT0) (by decide)) (by decide)) (z6_6 + 1) (z6_5 + 1) ls rfl (rg_w (rg_add (lo := 1) (hi := 16) (rn_ltu (u' := 15) (Int32.not_le.mp c_1) hz6_6 (fM_0_11 hT0) (by decide)) (rg_c (v := 1) (lo := 1) (hi := 1) (by decide)) (by decide)) (by decide)) (fun A hA hok hl hx3 => by have iz : rg z6_6 0 15 := (rg_w (lo := 0) (hi := 15) (rn_ltu (u' := 15) (Int32.not_le.mp c_1) hz6_6 (fM_0_11 hT0) (by decide)) (by decide)); have hz1 : z6_6 < A 5 0 1 := oh_lte (Int32.not_le.mp c_1) (hA.1 1 (by decide)); have hv := hok.2.2.2.1 z6_6.toNatClampNeg (by rw [oh_nat iz (by decide)]; exact Int32.lt_iff_toInt_lt.mp hz1); have cr : ga (C (48 + (z6_6).toNatClampNeg)) ((0 : Int32)).toNatClampNeg = A 1 z6_6.toNatClampNeg 0 := colM_v (t := 1) hA (by decide) iz (by decide) hz1 (by unfold vis; omega); have er := rdN hv.1 hx3; have en : r_5 = ndA A x1 x2 z6_6.toNatClampNeg := hq_6 A hA hok hl hz1; rw [(show (z6_6 + 1).toNatClampNeg = z6_6.toNatClampNeg + 1 from z_s15 iz), pcU_y ⟨er.mpr (Eq.trans cr.symm c_4), Eq.trans en.symm c_7⟩, (show vvA A x4 z6_6.toNatClampNeg = 1 from pif_pos c_8), ← hx_6 A hA hok hl hx3]) (by have h7 := Int32.lt_iff_toInt_lt.mp (Int32.not_le.mp c_1); have h8 : (z6_6 + 1).toInt = z6_6.toInt + 1 := oh_incr (rn_ltu (u' := 15) (Int32.not_le.mp c_1) hz6_6 (fM_0_11 hT0) (by decide)) (by decide); omega) (lv_sub hl [0, 1, 2, 3, 4, 5, 6] rfl)
          · refine lv_aload_n hx hb dX7_propsOf_47 rfl (lv_at hl 2 rfl) ?_
            refine va_get (D := D) (ci := 7) (v := .ref (a 10)) (C := RX7) (T := TX7) (N := 29) hx hb htg ig_7 hown hK hP 0 (oh_wg (Nat.lt_of_lt_of_le (by decide) hn) (sM_0 hT)) rfl 12 (by decide) (htg _ q_985) (fun _ h9 => h9) rfl dX7_propsOf_48 ?_
            refine lv_iload hx hb dX7_propsOf_51 (lv_at hl 0 rfl) ?_
            have n_9 : vp_in z6_6 16 := (rg_in (rn_ltu (u' := 15) (Int32.not_le.mp c_1) hz6_6 (fM_0_11 hT0) (by decide)) (by decide))
            have b_10 : (z6_6).toNatClampNeg < 16 := vp_lt n_9
            refine th_aald hx hb hK hP 10 2 (Nat.lt_of_lt_of_le (by decide) hn) (sM_10 hT) rfl n_9 dX7_propsOf_53 ?_
            refine lv_bipush (v := 6) hx hb dX7_propsOf_54 (by decide) ?_
            refine th_iald hx hb hK hP (48 + (z6_6).toNatClampNeg) (lt_blk b_10 hn (by decide)) (hT.bbridge b_10).1 (rg_in (rg_c (v := 6) (lo := 6) (hi := 6) (by decide)) (by decide)) dX7_propsOf_56 ?_
            refine lv_goto (tgt := 61) hx hb dX7_propsOf_57 (by decide) ?_
            refine lv_iadd hx hb dX7_propsOf_61 ?_
            refine lv_istore (lv' := [(5, .int (z6_5 + (ga (C (48 + (z6_6).toNatClampNeg)) ((6 : Int32)).toNatClampNeg))), (6, .int z6_6), (0, .ref (a 0)), (1, .int x1), (2, .int x2), (3, .int x3), (4, .int x4)]) hx hb dX7_propsOf_62 hl (by decide) rfl (fun ls hl => ?_)
            refine lv_iinc (v := z6_6 + 1) (lv' := [(6, .int (z6_6 + 1)), (5, .int (z6_5 + (ga (C (48 + (z6_6).toNatClampNeg)) ((6 : Int32)).toNatClampNeg))), (0, .ref (a 0)), (1, .int x1), (2, .int x2), (3, .int x3), (4, .int x4)]) hx hb dX7_propsOf_64 hl (k := 1) rfl (by rfl) (by decide) rfl (fun ls hl => ?_)
            refine lv_goto (tgt := 6) hx hb dX7_propsOf_67 (by decide) ?_
            exact ih_6 _ (hd_6 ▸ mu_up 16 (rn_ltu (u' := 15) (Int32.not_le.mp c_1) hz6_6 (fM_0_11 hT0) (by decide)) (by decide)) (z6_6 + 1) (z6_5 + (ga (C (48 + (z6_6).toNatClampNeg)) ((6 : Int32)).toNatClampNeg)) ls rfl (rg_w (rg_add (lo := 1) (hi := 16) (rn_ltu (u' := 15) (Int32.not_le.mp c_1) hz6_6 (fM_0_11 hT0) (by decide)) (rg_c (v := 1) (lo := 1) (hi := 1) (by decide)) (by decide)) (by decide)) (fun A hA hok hl hx3 => by have iz : rg z6_6 0 15 := (rg_w (lo := 0) (hi := 15) (rn_ltu (u' := 15) (Int32.not_le.mp c_1) hz6_6 (fM_0_11 hT0) (by decide)) (by decide)); have hz1 : z6_6 < A 5 0 1 := oh_lte (Int32.not_le.mp c_1) (hA.1 1 (by decide)); have hv := hok.2.2.2.1 z6_6.toNatClampNeg (by rw [oh_nat iz (by decide)]; exact Int32.lt_iff_toInt_lt.mp hz1); have cr : ga (C (48 + (z6_6).toNatClampNeg)) ((0 : Int32)).toNatClampNeg = A 1 z6_6.toNatClampNeg 0 := colM_v (t := 1) hA (by decide) iz (by decide) hz1 (by unfold vis; omega); have er := rdN hv.1 hx3; have en : r_5 = ndA A x1 x2 z6_6.toNatClampNeg := hq_6 A hA hok hl hz1; rw [(show (z6_6 + 1).toNatClampNeg = z6_6.toNatClampNeg + 1 from z_s15 iz), pcU_y ⟨er.mpr (Eq.trans cr.symm c_4), Eq.trans en.symm c_7⟩, (show vvA A x4 z6_6.toNatClampNeg = ga (C (48 + (z6_6).toNatClampNeg)) ((6 : Int32)).toNatClampNeg from Eq.trans (pif_neg c_8) (show ga (C (48 + (z6_6).toNatClampNeg)) ((6 : Int32)).toNatClampNeg = A 1 z6_6.toNatClampNeg 6 from colM_v (t := 1) hA (by decide) iz (by decide) hz1 (by unfold vis; omega)).symm), ← hx_6 A hA hok hl hx3]) (by have h7 := Int32.lt_iff_toInt_lt.mp (Int32.not_le.mp c_1); have h8 : (z6_6 + 1).toInt = z6_6.toInt + 1 := oh_incr (rn_ltu (u' := 15) (Int32.not_le.mp c_1) hz6_6 (fM_0_11 hT0) (by decide)) (by decide); omega) (lv_sub hl [0, 1, 2, 3, 4, 5, 6] rfl)
  exact L_6 _ 0 0 ls rfl (rg_w (rg_c (v := 0) (lo := 0) (hi := 0) (by decide)) (by decide)) (fun A hA hok hl hx3 => rfl) (fM_0_11 hT0).1 (lv_sub hl [0, 1, 2, 3, 4, 5, 6] rfl)

set_option maxHeartbeats 4000000 in
set_option maxRecDepth 100000 in
theorem e_X7_coinOf (l : Launch) (D : va_G) (E : Nat → ClassId) (G : Nat → Nat) (a : Nat → Nat) (C : Nat → va_E) (n : Nat) (hn : 74 ≤ n) (hT : TyM a E C) (x1 : Int32) (x2 : Int32) (x3 : Int32) (x4 : Int32) (hx1 : rg x1 0 4) (hx3 : rg x3 0 23) (hw : oh_pos C x1) : Met l yX7_coinOf (oh_w yX7_coinOf cX7_coinOf 5 (some .int)) ({ frames := 4, cells := 0, slots := 0, locals := 99 }) (oh_Pp D E G [.ref (a 0), .int x1, .int x2, .int x3, .int x4] (oh_W n a C)) (vp_Si (fun r => (∀ A : LA, absM C A → okA A → x1 < A 5 0 2 → x3 < A 5 0 0 → r = coA A x1 x2 x4 x3.toNatClampNeg))) 0 0 (fun _ => False) := by
  refine Met.ofW (cc := cX7_coinOf) (maxL := 5) (ret := (some .int)) (by decide) rfl ?_
  intro p e s m args below meth c s₁ B hml hv
  obtain ⟨rfl, hP, hK, hG⟩ := hv
  have hx := B.exec
  have hb := B.bytes
  have hr := B.returns
  have hts := atoms_spec (ws := (oh_w yX7_coinOf cX7_coinOf 5 (some .int))) B.pre
  have htg : ∀ w ∈ oh_t, w.before _ s = true := fun w h => hts w (List.mem_cons_of_mem _ h)
  have hown : s.vm.findClass RX7 = some m.cls := findClass_of_methodNamed B.named
  have hlocks := B.notSynchronized
  have hT0 := hT
  have hS : va_S (fun _ => False) s.heap s.heap [] := va_S.rf
  have hl := lv_entry ([.ref (a 0), .int x1, .int x2, .int x3, .int x4]) (n := 5) (Nat.le_of_ble_eq_true rfl)
  rw [lg_entry_eq]
  generalize (lg_sl ([.ref (a 0), .int x1, .int x2, .int x3, .int x4]) ++ List.replicate (5 - (lg_sl ([.ref (a 0), .int x1, .int x2, .int x3, .int x4])).length) Slot.unset).toArray = ls at hl ⊢
  have hl : lv_has ls 5 [(0, .ref (a 0)), (1, .int x1), (2, .int x2), (3, .int x3), (4, .int x4)] := hl
  refine oh_genQ (fun Q hQ => ?_)
  refine lv_iload hx hb dX7_coinOf_0 (lv_at hl 4 rfl) ?_
  refine lv_aload_n hx hb dX7_coinOf_2 rfl (lv_at hl 0 rfl) ?_
  refine va_get (D := D) (ci := 7) (v := .ref (a 13)) (C := RX7) (T := TX7) (N := 29) hx hb htg ig_7 hown hK hP 0 (oh_wg (Nat.lt_of_lt_of_le (by decide) hn) (sM_0 hT)) rfl 17 (by decide) (htg _ q_990) (fun _ h9 => h9) rfl dX7_coinOf_3 ?_
  refine lv_iconst (v := 1) hx hb dX7_coinOf_6 (by decide) ?_
  refine th_iald hx hb hK hP 13 (Nat.lt_of_lt_of_le (by decide) hn) (sM_13 hT) (rg_in (rg_c (v := 1) (lo := 1) (hi := 1) (by decide)) (by decide)) dX7_coinOf_7 ?_
  refine lv_imul hx hb dX7_coinOf_8 ?_
  refine lv_aload_n hx hb dX7_coinOf_9 rfl (lv_at hl 0 rfl) ?_
  refine va_get (D := D) (ci := 7) (v := .ref (a 9)) (C := RX7) (T := TX7) (N := 29) hx hb htg ig_7 hown hK hP 0 (oh_wg (Nat.lt_of_lt_of_le (by decide) hn) (sM_0 hT)) rfl 10 (by decide) (htg _ q_983) (fun _ h9 => h9) rfl dX7_coinOf_10 ?_
  refine lv_iload_n hx hb dX7_coinOf_13 rfl (lv_at hl 3 rfl) ?_
  have n_1 : vp_in x3 24 := (rg_in hx3 (by decide))
  have b_2 : (x3).toNatClampNeg < 24 := vp_lt n_1
  refine th_aald hx hb hK hP 9 2 (Nat.lt_of_lt_of_le (by decide) hn) (sM_9 hT) rfl n_1 dX7_coinOf_14 ?_
  refine lv_iconst (v := 2) hx hb dX7_coinOf_15 (by decide) ?_
  refine th_iald hx hb hK hP (24 + (x3).toNatClampNeg) (lt_blk b_2 hn (by decide)) (hT.broad b_2).1 (rg_in (rg_c (v := 2) (lo := 2) (hi := 2) (by decide)) (by decide)) dX7_coinOf_16 ?_
  refine lv_imul hx hb dX7_coinOf_17 ?_
  refine lv_aload_n hx hb dX7_coinOf_18 rfl (lv_at hl 0 rfl) ?_
  refine lv_iload_n hx hb dX7_coinOf_19 rfl (lv_at hl 1 rfl) ?_
  refine lv_iload_n hx hb dX7_coinOf_20 rfl (lv_at hl 2 rfl) ?_
  refine lv_iload_n hx hb dX7_coinOf_21 rfl (lv_at hl 3 rfl) ?_
  refine tq_V (As := [.int x1, .int x2, .int x3]) (rest := [.int ((x4 * (ga (C 13) ((1 : Int32)).toNatClampNeg)) * (ga (C (24 + (x3).toNatClampNeg)) ((2 : Int32)).toNatClampNeg))]) (ws := (oh_W n a C)) ⟨hx, hb, hml, hown, htg⟩ (e_X7_enginesOf l D E G a C n hn hT x1 x2 x3 (rg_w hx1 (by decide)) (rg_w hx3 (by decide)) hw) (cwV 3 htg (oh_gV q_1322 q_1324 q_55 q_73 q_1325) rfl rfl rfl pdVX7_enginesOf ⟨Nat.le_of_ble_eq_true rfl, Nat.le_of_ble_eq_true rfl⟩) hK hP hG hS (va_recv hK hP (ci := 7) (q0 := 0) rfl (oh_wg (Nat.lt_of_lt_of_le (by decide) hn) (sM_0 hT))) rfl hl.1 rfl (Nat.le_of_ble_eq_true rfl) dX7_coinOf_22 ⟨Nat.le_of_ble_eq_true rfl, Nat.le_of_ble_eq_true rfl⟩ (fun r_3 hq_4 => ?_)
  refine lv_imul hx hb dX7_coinOf_25 ?_
  refine lv_aload_n hx hb dX7_coinOf_26 rfl (lv_at hl 0 rfl) ?_
  refine lv_iload_n hx hb dX7_coinOf_27 rfl (lv_at hl 1 rfl) ?_
  refine lv_iload_n hx hb dX7_coinOf_28 rfl (lv_at hl 2 rfl) ?_
  refine lv_iload_n hx hb dX7_coinOf_29 rfl (lv_at hl 3 rfl) ?_
  refine lv_iconst (v := 1) hx hb dX7_coinOf_30 (by decide) ?_
  refine tq_V (As := [.int x1, .int x2, .int x3, .int 1]) (rest := [.int (((x4 * (ga (C 13) ((1 : Int32)).toNatClampNeg)) * (ga (C (24 + (x3).toNatClampNeg)) ((2 : Int32)).toNatClampNeg)) * r_3)]) (ws := (oh_W n a C)) ⟨hx, hb, hml, hown, htg⟩ (e_X7_propsOf l D E G a C n hn hT x1 x2 x3 (1 : Int32) (rg_w hx1 (by decide)) (rg_w (rg_c (v := 1) (lo := 1) (hi := 1) (by decide)) (by decide)) hw) (cwV 4 htg (oh_gV q_1330 q_1332 q_57 q_73 q_1333) rfl rfl rfl pdVX7_propsOf ⟨Nat.le_of_ble_eq_true rfl, Nat.le_of_ble_eq_true rfl⟩) hK hP hG hS (va_recv hK hP (ci := 7) (q0 := 0) rfl (oh_wg (Nat.lt_of_lt_of_le (by decide) hn) (sM_0 hT))) rfl hl.1 rfl (Nat.le_of_ble_eq_true rfl) dX7_coinOf_31 ⟨Nat.le_of_ble_eq_true rfl, Nat.le_of_ble_eq_true rfl⟩ (fun r_5 hq_6 => ?_)
  refine lv_iadd hx hb dX7_coinOf_34 ?_
  rw [hQ]
  exact W.iret (v := (((x4 * (ga (C 13) ((1 : Int32)).toNatClampNeg)) * (ga (C (24 + (x3).toNatClampNeg)) ((2 : Int32)).toNatClampNeg)) * r_3) + r_5) hx hb hr (fun t ht hW => ⟨(((x4 * (ga (C 13) ((1 : Int32)).toNatClampNeg)) * (ga (C (24 + (x3).toNatClampNeg)) ((2 : Int32)).toNatClampNeg)) * r_3) + r_5, rfl, (fun A hA hok hl hr => by have c0 : ga (C (24 + (x3).toNatClampNeg)) ((0 : Int32)).toNatClampNeg = A 0 x3.toNatClampNeg 0 := colM_v (t := 0) hA (by decide) hx3 (by decide) hr (by unfold vis; omega); have c1 : ga (C (24 + (x3).toNatClampNeg)) ((1 : Int32)).toNatClampNeg = A 0 x3.toNatClampNeg 1 := colM_v (t := 0) hA (by decide) hx3 (by decide) hr (by unfold vis; omega); have c2 : ga (C (24 + (x3).toNatClampNeg)) ((2 : Int32)).toNatClampNeg = A 0 x3.toNatClampNeg 2 := colM_v (t := 0) hA (by decide) hx3 (by decide) hr (by unfold vis; omega); have c3 : ga (C (24 + (x3).toNatClampNeg)) ((3 : Int32)).toNatClampNeg = A 0 x3.toNatClampNeg 3 := colM_v (t := 0) hA (by decide) hx3 (by decide) hr (by unfold vis; omega); have c4 : ga (C (24 + (x3).toNatClampNeg)) ((4 : Int32)).toNatClampNeg = A 0 x3.toNatClampNeg 4 := colM_v (t := 0) hA (by decide) hx3 (by decide) hr (by unfold vis; omega); have c5 : ga (C (24 + (x3).toNatClampNeg)) ((5 : Int32)).toNatClampNeg = A 0 x3.toNatClampNeg 5 := colM_v (t := 0) hA (by decide) hx3 (by decide) hr (by unfold vis; omega); have c6 : ga (C (24 + (x3).toNatClampNeg)) ((6 : Int32)).toNatClampNeg = A 0 x3.toNatClampNeg 6 := colM_v (t := 0) hA (by decide) hx3 (by decide) hr (by unfold vis; omega); have cm : ga (C 13) ((1 : Int32)).toNatClampNeg = A 4 0 1 := hA.2.1 1 (by decide); rw [hq_4 A hA hok hl hr, hq_6 A hA hok hl hx3, cm, c2, vv_1 (by decide)]; rfl), ht⟩) (fun q h => by cases h) dX7_coinOf_35

set_option maxHeartbeats 4000000 in
set_option maxRecDepth 100000 in
theorem e_X7_daysOf (l : Launch) (D : va_G) (E : Nat → ClassId) (G : Nat → Nat) (a : Nat → Nat) (C : Nat → va_E) (n : Nat) (hn : 74 ≤ n) (hT : TyM a E C) (x1 : Int32) (x2 : Int32) (x3 : Int32) (hx1 : rg x1 0 4) (hx3 : rg x3 0 23) (hw : oh_pos C x1) : Met l yX7_daysOf (oh_w yX7_daysOf cX7_daysOf 4 (some .int)) ({ frames := 4, cells := 0, slots := 0, locals := 99 }) (oh_Pp D E G [.ref (a 0), .int x1, .int x2, .int x3] (oh_W n a C)) (vp_Si (fun r => (∀ A : LA, absM C A → okA A → x1 < A 5 0 2 → x3 < A 5 0 0 → r = dyA A x1 x2 x3.toNatClampNeg))) 0 0 (fun _ => False) := by
  refine Met.ofW (cc := cX7_daysOf) (maxL := 4) (ret := (some .int)) (by decide) rfl ?_
  intro p e s m args below meth c s₁ B hml hv
  obtain ⟨rfl, hP, hK, hG⟩ := hv
  have hx := B.exec
  have hb := B.bytes
  have hr := B.returns
  have hts := atoms_spec (ws := (oh_w yX7_daysOf cX7_daysOf 4 (some .int))) B.pre
  have htg : ∀ w ∈ oh_t, w.before _ s = true := fun w h => hts w (List.mem_cons_of_mem _ h)
  have hown : s.vm.findClass RX7 = some m.cls := findClass_of_methodNamed B.named
  have hlocks := B.notSynchronized
  have hT0 := hT
  have hS : va_S (fun _ => False) s.heap s.heap [] := va_S.rf
  have hl := lv_entry ([.ref (a 0), .int x1, .int x2, .int x3]) (n := 4) (Nat.le_of_ble_eq_true rfl)
  rw [lg_entry_eq]
  generalize (lg_sl ([.ref (a 0), .int x1, .int x2, .int x3]) ++ List.replicate (4 - (lg_sl ([.ref (a 0), .int x1, .int x2, .int x3])).length) Slot.unset).toArray = ls at hl ⊢
  have hl : lv_has ls 4 [(0, .ref (a 0)), (1, .int x1), (2, .int x2), (3, .int x3)] := hl
  refine oh_genQ (fun Q hQ => ?_)
  refine lv_aload_n hx hb dX7_daysOf_0 rfl (lv_at hl 0 rfl) ?_
  refine va_get (D := D) (ci := 7) (v := .ref (a 9)) (C := RX7) (T := TX7) (N := 29) hx hb htg ig_7 hown hK hP 0 (oh_wg (Nat.lt_of_lt_of_le (by decide) hn) (sM_0 hT)) rfl 10 (by decide) (htg _ q_983) (fun _ h9 => h9) rfl dX7_daysOf_1 ?_
  refine lv_iload_n hx hb dX7_daysOf_4 rfl (lv_at hl 3 rfl) ?_
  have n_1 : vp_in x3 24 := (rg_in hx3 (by decide))
  have b_2 : (x3).toNatClampNeg < 24 := vp_lt n_1
  refine th_aald hx hb hK hP 9 2 (Nat.lt_of_lt_of_le (by decide) hn) (sM_9 hT) rfl n_1 dX7_daysOf_5 ?_
  refine lv_iconst (v := 2) hx hb dX7_daysOf_6 (by decide) ?_
  refine th_iald hx hb hK hP (24 + (x3).toNatClampNeg) (lt_blk b_2 hn (by decide)) (hT.broad b_2).1 (rg_in (rg_c (v := 2) (lo := 2) (hi := 2) (by decide)) (by decide)) dX7_daysOf_7 ?_
  refine lv_bipush (v := 9) hx hb dX7_daysOf_8 (by decide) ?_
  refine lv_iadd hx hb dX7_daysOf_10 ?_
  refine lv_bipush (v := 10) hx hb dX7_daysOf_11 (by decide) ?_
  refine lv_idiv hx hb dX7_daysOf_13 (by decide) ?_
  refine lv_iconst (v := 3) hx hb dX7_daysOf_14 (by decide) ?_
  refine lv_aload_n hx hb dX7_daysOf_15 rfl (lv_at hl 0 rfl) ?_
  refine lv_iload_n hx hb dX7_daysOf_16 rfl (lv_at hl 1 rfl) ?_
  refine lv_iload_n hx hb dX7_daysOf_17 rfl (lv_at hl 2 rfl) ?_
  refine lv_iload_n hx hb dX7_daysOf_18 rfl (lv_at hl 3 rfl) ?_
  refine lv_iconst (v := 0) hx hb dX7_daysOf_19 (by decide) ?_
  refine tq_V (As := [.int x1, .int x2, .int x3, .int 0]) (rest := [.int 3, .int (((ga (C (24 + (x3).toNatClampNeg)) ((2 : Int32)).toNatClampNeg) + 9) / 10)]) (ws := (oh_W n a C)) ⟨hx, hb, hml, hown, htg⟩ (e_X7_propsOf l D E G a C n hn hT x1 x2 x3 (0 : Int32) (rg_w hx1 (by decide)) (rg_w (rg_c (v := 0) (lo := 0) (hi := 0) (by decide)) (by decide)) hw) (cwV 4 htg (oh_gV q_1330 q_1332 q_57 q_73 q_1333) rfl rfl rfl pdVX7_propsOf ⟨Nat.le_of_ble_eq_true rfl, Nat.le_of_ble_eq_true rfl⟩) hK hP hG hS (va_recv hK hP (ci := 7) (q0 := 0) rfl (oh_wg (Nat.lt_of_lt_of_le (by decide) hn) (sM_0 hT))) rfl hl.1 rfl (Nat.le_of_ble_eq_true rfl) dX7_daysOf_20 ⟨Nat.le_of_ble_eq_true rfl, Nat.le_of_ble_eq_true rfl⟩ (fun r_3 hq_4 => ?_)
  refine lv_imul hx hb dX7_daysOf_23 ?_
  refine lv_iadd hx hb dX7_daysOf_24 ?_
  rw [hQ]
  exact W.iret (v := (((ga (C (24 + (x3).toNatClampNeg)) ((2 : Int32)).toNatClampNeg) + 9) / 10) + (3 * r_3)) hx hb hr (fun t ht hW => ⟨(((ga (C (24 + (x3).toNatClampNeg)) ((2 : Int32)).toNatClampNeg) + 9) / 10) + (3 * r_3), rfl, (fun A hA hok hl hr => by have c0 : ga (C (24 + (x3).toNatClampNeg)) ((0 : Int32)).toNatClampNeg = A 0 x3.toNatClampNeg 0 := colM_v (t := 0) hA (by decide) hx3 (by decide) hr (by unfold vis; omega); have c1 : ga (C (24 + (x3).toNatClampNeg)) ((1 : Int32)).toNatClampNeg = A 0 x3.toNatClampNeg 1 := colM_v (t := 0) hA (by decide) hx3 (by decide) hr (by unfold vis; omega); have c2 : ga (C (24 + (x3).toNatClampNeg)) ((2 : Int32)).toNatClampNeg = A 0 x3.toNatClampNeg 2 := colM_v (t := 0) hA (by decide) hx3 (by decide) hr (by unfold vis; omega); have c3 : ga (C (24 + (x3).toNatClampNeg)) ((3 : Int32)).toNatClampNeg = A 0 x3.toNatClampNeg 3 := colM_v (t := 0) hA (by decide) hx3 (by decide) hr (by unfold vis; omega); have c4 : ga (C (24 + (x3).toNatClampNeg)) ((4 : Int32)).toNatClampNeg = A 0 x3.toNatClampNeg 4 := colM_v (t := 0) hA (by decide) hx3 (by decide) hr (by unfold vis; omega); have c5 : ga (C (24 + (x3).toNatClampNeg)) ((5 : Int32)).toNatClampNeg = A 0 x3.toNatClampNeg 5 := colM_v (t := 0) hA (by decide) hx3 (by decide) hr (by unfold vis; omega); have c6 : ga (C (24 + (x3).toNatClampNeg)) ((6 : Int32)).toNatClampNeg = A 0 x3.toNatClampNeg 6 := colM_v (t := 0) hA (by decide) hx3 (by decide) hr (by unfold vis; omega); rw [hq_4 A hA hok hl hx3, c2, vv_0 rfl, up10]; rfl), ht⟩) (fun q h => by cases h) dX7_daysOf_25
