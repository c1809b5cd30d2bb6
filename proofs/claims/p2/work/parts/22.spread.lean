set_option maxHeartbeats 4000000 in
set_option maxRecDepth 100000 in
theorem c_X5_spread (l : Launch) (D : va_G) (E : Nat → ClassId) (G : Nat → Nat) (sz : Nat) (a0 : Nat) (v_f : Int32) (nR : Nat) (a0_land : Nat) (a0_pack : Nat) (a0_props : Nat) (a0_propCoin : Nat) (a0_price : Nat) (a0_far : Nat) (a0_walked : Nat) (a0_land_counts : Nat) (a0_land_roads : Nat) (a0_land_bridges : Nat) (a0_land_waggons : Nat) (a0_land_parts : Nat) (a0_land_settings : Nat) (a0_land_trip : Nat) (v_ow : Int32) (fc : Nat → Int32) (fr : Nat → Int32) (g_props : Nat → Int32) (g_price : Nat → Int32) (g_far : Nat → Int32) (h0 : vp_in v_f 16) (hR : nR ≤ 24) (hcR : fc 0 = nI nR) (hrd : ∀ i, i < nR → vp_in (fr ((nI i * 7) + 0).toNatClampNeg) 16 ∧ vp_in (fr ((nI i * 7) + 1).toNatClampNeg) 16) : Met l yX5_spread (oh_w yX5_spread cX5_spread 5 none) ({ frames := 2, cells := 0, slots := 0, locals := 45 }) (oh_Pm D E G [.ref a0, .int v_f] [(a0, .inr (5, [.ref a0_land, .ref a0_pack, .ref a0_props, .ref a0_propCoin, .ref a0_price, .ref a0_far, .ref a0_walked])), (a0_land, .inr (0, [.ref a0_land_counts, .ref a0_land_roads, .ref a0_land_bridges, .ref a0_land_waggons, .ref a0_land_parts, .ref a0_land_settings, .ref a0_land_trip, .int v_ow])), (a0_land_counts, .inl (E 0, 4, .inl fc)), (a0_land_roads, .inl (E 0, 168, .inl fr)), (a0_props, .inl (E 0, 24, .inl g_props)), (a0_price, .inl (E 0, 24, .inl g_price)), (a0_far, .inl (E 0, 16, .inl g_far))] sz) (va_Qv (fun (_ : (Nat → Int32)) => True) (oh_B D (va_A [(a0, .inr (5, [.ref a0_land, .ref a0_pack, .ref a0_props, .ref a0_propCoin, .ref a0_price, .ref a0_far, .ref a0_walked])), (a0_land, .inr (0, [.ref a0_land_counts, .ref a0_land_roads, .ref a0_land_bridges, .ref a0_land_waggons, .ref a0_land_parts, .ref a0_land_settings, .ref a0_land_trip, .int v_ow])), (a0_land_counts, .inl (E 0, 4, .inl fc)), (a0_land_roads, .inl (E 0, 168, .inl fr)), (a0_props, .inl (E 0, 24, .inl g_props)), (a0_price, .inl (E 0, 24, .inl g_price)), (a0_far, .inl (E 0, 16, .inl g_far))] sz) (fun hv_a0_far => [(a0, .inr (5, [.ref a0_land, .ref a0_pack, .ref a0_props, .ref a0_propCoin, .ref a0_price, .ref a0_far, .ref a0_walked])), (a0_land, .inr (0, [.ref a0_land_counts, .ref a0_land_roads, .ref a0_land_bridges, .ref a0_land_waggons, .ref a0_land_parts, .ref a0_land_settings, .ref a0_land_trip, .int v_ow])), (a0_land_counts, .inl (E 0, 4, .inl fc)), (a0_land_roads, .inl (E 0, 168, .inl fr)), (a0_props, .inl (E 0, 24, .inl g_props)), (a0_price, .inl (E 0, 24, .inl g_price)), (a0_far, .inl (E 0, 16, .inl hv_a0_far))])) (va_A [(a0, .inr (5, [.ref a0_land, .ref a0_pack, .ref a0_props, .ref a0_propCoin, .ref a0_price, .ref a0_far, .ref a0_walked])), (a0_land, .inr (0, [.ref a0_land_counts, .ref a0_land_roads, .ref a0_land_bridges, .ref a0_land_waggons, .ref a0_land_parts, .ref a0_land_settings, .ref a0_land_trip, .int v_ow])), (a0_land_counts, .inl (E 0, 4, .inl fc)), (a0_land_roads, .inl (E 0, 168, .inl fr)), (a0_props, .inl (E 0, 24, .inl g_props)), (a0_price, .inl (E 0, 24, .inl g_price)), (a0_far, .inl (E 0, 16, .inl g_far))] sz)) 0 0 (va_A [(a0, .inr (5, [.ref a0_land, .ref a0_pack, .ref a0_props, .ref a0_propCoin, .ref a0_price, .ref a0_far, .ref a0_walked])), (a0_land, .inr (0, [.ref a0_land_counts, .ref a0_land_roads, .ref a0_land_bridges, .ref a0_land_waggons, .ref a0_land_parts, .ref a0_land_settings, .ref a0_land_trip, .int v_ow])), (a0_land_counts, .inl (E 0, 4, .inl fc)), (a0_land_roads, .inl (E 0, 168, .inl fr)), (a0_props, .inl (E 0, 24, .inl g_props)), (a0_price, .inl (E 0, 24, .inl g_price)), (a0_far, .inl (E 0, 16, .inl g_far))] sz) := by
  refine Met.ofW (cc := cX5_spread) (maxL := 5) (ret := none) (by decide) rfl ?_
  intro p e s m args below meth c s₁ B hml hv
  obtain ⟨rfl, hsz, hP, hK, hD0, hG⟩ := hv
  have hx := B.exec
  have hb := B.bytes
  have hr := B.returns
  have hts := atoms_spec (ws := (oh_w yX5_spread cX5_spread 5 none)) B.pre
  have htg : ∀ w ∈ oh_t, w.before _ s = true := fun w h => hts w (List.mem_cons_of_mem _ h)
  have hown : s.vm.findClass RX5 = some m.cls := findClass_of_methodNamed B.named
  have hlocks := B.notSynchronized
  subst hsz
  have hD := hD0.self (sz := s.heap.size)
  generalize hAe : va_A [(a0, .inr (5, [.ref a0_land, .ref a0_pack, .ref a0_props, .ref a0_propCoin, .ref a0_price, .ref a0_far, .ref a0_walked])), (a0_land, .inr (0, [.ref a0_land_counts, .ref a0_land_roads, .ref a0_land_bridges, .ref a0_land_waggons, .ref a0_land_parts, .ref a0_land_settings, .ref a0_land_trip, .int v_ow])), (a0_land_counts, .inl (E 0, 4, .inl fc)), (a0_land_roads, .inl (E 0, 168, .inl fr)), (a0_props, .inl (E 0, 24, .inl g_props)), (a0_price, .inl (E 0, 24, .inl g_price)), (a0_far, .inl (E 0, 16, .inl g_far))] s.heap.size = A at hD hG ⊢
  have hA : ∀ q : Nat, s.heap.size ≤ q → A q := fun q h => by rw [← hAe]; exact Or.inr h
  have hS : va_S A s.heap s.heap [] := va_S.rf
  have hP : va_P D vwCl [(a0, .inr (5, [.ref a0_land, .ref a0_pack, .ref a0_props, .ref a0_propCoin, .ref a0_price, .ref a0_far, .ref a0_walked])), (a0_land, .inr (0, [.ref a0_land_counts, .ref a0_land_roads, .ref a0_land_bridges, .ref a0_land_waggons, .ref a0_land_parts, .ref a0_land_settings, .ref a0_land_trip, .int v_ow])), (a0_land_counts, .inl (E 0, 4, .inl fc)), (a0_land_roads, .inl (E 0, 168, .inl fr)), (a0_props, .inl (E 0, 24, .inl g_props)), (a0_price, .inl (E 0, 24, .inl g_price)), (a0_far, .inl (E 0, 16, .inl g_far))] s.heap := hP
  have hl := lv_entry ([.ref a0, .int v_f]) (n := 5) (Nat.le_of_ble_eq_true rfl)
  rw [lg_entry_eq]
  generalize (lg_sl ([.ref a0, .int v_f]) ++ List.replicate (5 - (lg_sl ([.ref a0, .int v_f])).length) Slot.unset).toArray = ls at hl ⊢
  have hl : lv_has ls 5 [(0, .ref a0), (1, .int v_f)] := hl
  refine lv_iconst (v := 0) hx hb dX5_spread_0 (by decide) ?_
  refine lv_istore_n (lv' := [(2, .int 0), (0, .ref a0), (1, .int v_f)]) hx hb dX5_spread_1 rfl hl (by decide) rfl (fun ls hl => ?_)
  obtain ⟨H, locs, eH, eL⟩ : ∃ (H : Heap) (locs : List Loc), H = s.heap ∧ locs = [] := ⟨_, _, rfl, rfl⟩
  replace hS : va_S A s.heap H locs := by rw [eH, eL]; exact hS
  rw [← eH] at hP
  rw [← eH, ← eL]
  clear eH eL
  obtain ⟨j, hj0⟩ : ∃ j : Nat, j = 0 := ⟨0, rfl⟩
  replace hl : lv_has ls 5 [(2, .int (nI j)), (0, .ref a0), (1, .int v_f)] := by rw [hj0, nI_0]; exact lv_sub hl [0, 1, 2] rfl
  obtain ⟨gf1, e_gf1⟩ : ∃ z : Nat → Int32, z = g_far := ⟨_, rfl⟩
  rw [← e_gf1] at hP hD
  clear e_gf1
  have hjN : j ≤ 16 := by omega
  clear hj0
  induction hd_j : 16 - j generalizing j ls H locs gf1 with
  | zero =>
    have hj : j = 16 := by omega
    rw [hj] at hl
    refine lv_iload_n hx hb dX5_spread_2 rfl (lv_at hl 0 rfl) ?_
    refine lv_bipush (v := 16) hx hb dX5_spread_3 (by decide) ?_
    refine lv_icmp_ge (tgt := 22) hx hb dX5_spread_5 (by decide) (fun _ => ?_) (fun c => absurd (show 16 ≤ (nI 16) from show nI 16 ≤ nI 16 from nI_le (Nat.le_refl _) (by decide)) c)
    refine lv_aload_n hx hb dX5_spread_22 rfl (lv_at hl 1 rfl) ?_
    refine va_get (D := D) (ci := 5) (v := .ref a0_far) (C := RX5) (T := TX5) (N := 7) hx hb htg ig_5 hown hK hP 0 rfl rfl 5 (by decide) (htg _ q_174) (fun _ h9 => h9) rfl dX5_spread_23 ?_
    refine lv_iload_n hx hb dX5_spread_26 rfl (lv_at hl 2 rfl) ?_
    refine lv_iconst (v := 0) hx hb dX5_spread_27 (by decide) ?_
    refine va_iast hx hb hK hP hD hS 6 0 rfl rfl h0 dX5_spread_28 (fun H locs hP hD hS => ?_)
    replace hP : va_P D vwCl [(a0, .inr (5, [.ref a0_land, .ref a0_pack, .ref a0_props, .ref a0_propCoin, .ref a0_price, .ref a0_far, .ref a0_walked])), (a0_land, .inr (0, [.ref a0_land_counts, .ref a0_land_roads, .ref a0_land_bridges, .ref a0_land_waggons, .ref a0_land_parts, .ref a0_land_settings, .ref a0_land_trip, .int v_ow])), (a0_land_counts, .inl (E 0, 4, .inl fc)), (a0_land_roads, .inl (E 0, 168, .inl fr)), (a0_props, .inl (E 0, 24, .inl g_props)), (a0_price, .inl (E 0, 24, .inl g_price)), (a0_far, .inl (E 0, 16, .inl (upd gf1 ((v_f).toNatClampNeg) 0)))] H := hP
    replace hD : va_D A [(a0, .inr (5, [.ref a0_land, .ref a0_pack, .ref a0_props, .ref a0_propCoin, .ref a0_price, .ref a0_far, .ref a0_walked])), (a0_land, .inr (0, [.ref a0_land_counts, .ref a0_land_roads, .ref a0_land_bridges, .ref a0_land_waggons, .ref a0_land_parts, .ref a0_land_settings, .ref a0_land_trip, .int v_ow])), (a0_land_counts, .inl (E 0, 4, .inl fc)), (a0_land_roads, .inl (E 0, 168, .inl fr)), (a0_props, .inl (E 0, 24, .inl g_props)), (a0_price, .inl (E 0, 24, .inl g_price)), (a0_far, .inl (E 0, 16, .inl (upd gf1 ((v_f).toNatClampNeg) 0)))] := hD
    refine lv_iconst (v := 1) hx hb dX5_spread_29 (by decide) ?_
    refine lv_istore_n (lv' := [(2, .int 1), (0, .ref a0), (1, .int v_f)]) hx hb dX5_spread_30 rfl hl (by decide) rfl (fun ls hl => ?_)
    refine lv_iconst (v := 0) hx hb dX5_spread_31 (by decide) ?_
    refine lv_istore_n (lv' := [(3, .int 0), (2, .int 1), (0, .ref a0), (1, .int v_f)]) hx hb dX5_spread_32 rfl hl (by decide) rfl (fun ls hl => ?_)
    obtain ⟨r1, hr10⟩ : ∃ r1 : Nat, r1 = 0 := ⟨0, rfl⟩
    obtain ⟨ch1, e_ch1⟩ : ∃ z : Int32, z = 1 := ⟨_, rfl⟩
    replace hl : lv_has ls 5 [(3, .int (nI r1)), (2, .int ch1), (0, .ref a0), (1, .int v_f)] := by rw [hr10, nI_0, e_ch1]; exact lv_sub hl [0, 1, 2, 3] rfl
    clear e_ch1
    obtain ⟨gf2, e_gf2⟩ : ∃ z : Nat → Int32, z = upd gf1 ((v_f).toNatClampNeg) 0 := ⟨_, rfl⟩
    rw [← e_gf2] at hP hD
    clear e_gf2
    have hr1N : r1 ≤ 16 := by omega
    clear hr10
    induction hd_r1 : 16 - r1 generalizing r1 ls H locs gf2 ch1 with
    | zero =>
      have hr1 : r1 = 16 := by omega
      rw [hr1] at hl
      refine lv_iload_n hx hb dX5_spread_33 rfl (lv_at hl 0 rfl) ?_
      refine lv_bipush (v := 16) hx hb dX5_spread_34 (by decide) ?_
      refine lv_icmp_ge (tgt := 96) hx hb dX5_spread_36 (by decide) (fun _ => ?_) (fun c => absurd (show 16 ≤ (nI 16) from show nI 16 ≤ nI 16 from nI_le (Nat.le_refl _) (by decide)) c)
      refine W.widen (k := 0) (n := 0) (Nat.le_of_ble_eq_true rfl) (Nat.le_of_ble_eq_true rfl) ?_
      exact W.vret hx hb hr (fun t ht hW => ⟨⟨gf2, rfl, trivial, ⟨by rw [ht]; exact hP.sub [0, 1, 2, 3, 4, 5, 6] rfl, hD.sub [0, 1, 2, 3, 4, 5, 6] (by decide) rfl⟩⟩, hS.F ht⟩) hS.2.2 dX5_spread_96
    | succ d_r1 ih_r1 =>
      have hr1 : r1 < 16 := by omega
      refine lv_iload_n hx hb dX5_spread_33 rfl (lv_at hl 0 rfl) ?_
      refine lv_bipush (v := 16) hx hb dX5_spread_34 (by decide) ?_
      refine lv_icmp_ge (tgt := 96) hx hb dX5_spread_36 (by decide) (fun c => absurd c (show ¬ (16 ≤ (nI r1)) from show ¬ nI 16 ≤ nI r1 from nI_ge hr1 (by decide))) (fun _ => ?_)
      refine lv_iload_n hx hb dX5_spread_39 rfl (lv_at hl 1 rfl) ?_
      refine lv_if_eq (tgt := 96) hx hb dX5_spread_40 (by decide) (fun (c_1 : ch1 = 0) => ?_) (fun (c_1 : ¬ (ch1 = 0)) => ?_)
      · refine W.widen (k := 0) (n := 0) (Nat.le_of_ble_eq_true rfl) (Nat.le_of_ble_eq_true rfl) ?_
        exact W.vret hx hb hr (fun t ht hW => ⟨⟨gf2, rfl, trivial, ⟨by rw [ht]; exact hP.sub [0, 1, 2, 3, 4, 5, 6] rfl, hD.sub [0, 1, 2, 3, 4, 5, 6] (by decide) rfl⟩⟩, hS.F ht⟩) hS.2.2 dX5_spread_96
      · refine lv_iconst (v := 0) hx hb dX5_spread_43 (by decide) ?_
        refine lv_istore_n (lv' := [(2, .int 0), (3, .int (nI r1)), (0, .ref a0), (1, .int v_f)]) hx hb dX5_spread_44 rfl hl (by decide) rfl (fun ls hl => ?_)
        refine lv_iconst (v := 0) hx hb dX5_spread_45 (by decide) ?_
        refine lv_istore (lv' := [(4, .int 0), (2, .int 0), (3, .int (nI r1)), (0, .ref a0), (1, .int v_f)]) hx hb dX5_spread_46 hl (by decide) rfl (fun ls hl => ?_)
        obtain ⟨i2, hi20⟩ : ∃ i2 : Nat, i2 = 0 := ⟨0, rfl⟩
        obtain ⟨ch2, e_ch2⟩ : ∃ z : Int32, z = 0 := ⟨_, rfl⟩
        replace hl : lv_has ls 5 [(4, .int (nI i2)), (3, .int (nI r1)), (2, .int ch2), (0, .ref a0), (1, .int v_f)] := by rw [hi20, nI_0, e_ch2]; exact lv_sub hl [0, 2, 1, 3, 4] rfl
        clear e_ch2
        obtain ⟨gf3, e_gf3⟩ : ∃ z : Nat → Int32, z = gf2 := ⟨_, rfl⟩
        rw [← e_gf3] at hP hD
        clear e_gf3
        have hi2N : i2 ≤ nR := by omega
        clear hi20
        induction hd_i2 : nR - i2 generalizing i2 ls H locs gf3 ch2 with
        | zero =>
          have hi2 : i2 = nR := by omega
          rw [hi2] at hl
          refine lv_iload hx hb dX5_spread_48 (lv_at hl 0 rfl) ?_
          refine lv_aload_n hx hb dX5_spread_50 rfl (lv_at hl 3 rfl) ?_
          refine va_get (D := D) (ci := 5) (v := .ref a0_land) (C := RX5) (T := TX5) (N := 7) hx hb htg ig_5 hown hK hP 0 rfl rfl 0 (by decide) (htg _ q_167) (fun _ h9 => h9) rfl dX5_spread_51 ?_
          refine va_get (D := D) (ci := 0) (v := .ref a0_land_counts) (C := RX0) (T := TX0) (N := 8) hx hb htg ig_0 hown hK hP 1 rfl rfl 0 (by decide) (htg _ q_99) (fun _ h9 => h9) rfl dX5_spread_54 ?_
          refine lv_iconst (v := 0) hx hb dX5_spread_57 (by decide) ?_
          refine va_iald hx hb hK hP 2 0 rfl rfl (show vp_in 0 4 by unfold vp_in; decide) dX5_spread_58 ?_
          refine lv_icmp_ge (tgt := 90) hx hb dX5_spread_59 (by decide) (fun _ => ?_) (fun c => absurd (show (fc 0) ≤ (nI nR) from by rw [hcR]; exact nI_le (Nat.le_refl _) (by omega)) c)
          refine lv_iinc (v := nI (r1 + 1)) (lv' := [(3, .int (nI (r1 + 1))), (4, .int (nI nR)), (2, .int ch2), (0, .ref a0), (1, .int v_f)]) hx hb dX5_spread_90 hl (k := 1) rfl (by exact nI_1 r1) (by decide) rfl (fun ls hl => ?_)
          refine lv_goto (tgt := 33) hx hb dX5_spread_93 (by decide) ?_
          replace hl : lv_has ls 5 [(3, .int (nI (r1 + 1))), (2, .int ch2), (0, .ref a0), (1, .int v_f)] := by exact lv_sub hl [0, 2, 3, 4] rfl
          apply ih_r1 (r1 := r1 + 1) <;> first | assumption | omega
        | succ d_i2 ih_i2 =>
          have hi2 : i2 < nR := by omega
          refine lv_iload hx hb dX5_spread_48 (lv_at hl 0 rfl) ?_
          refine lv_aload_n hx hb dX5_spread_50 rfl (lv_at hl 3 rfl) ?_
          refine va_get (D := D) (ci := 5) (v := .ref a0_land) (C := RX5) (T := TX5) (N := 7) hx hb htg ig_5 hown hK hP 0 rfl rfl 0 (by decide) (htg _ q_167) (fun _ h9 => h9) rfl dX5_spread_51 ?_
          refine va_get (D := D) (ci := 0) (v := .ref a0_land_counts) (C := RX0) (T := TX0) (N := 8) hx hb htg ig_0 hown hK hP 1 rfl rfl 0 (by decide) (htg _ q_99) (fun _ h9 => h9) rfl dX5_spread_54 ?_
          refine lv_iconst (v := 0) hx hb dX5_spread_57 (by decide) ?_
          refine va_iald hx hb hK hP 2 0 rfl rfl (show vp_in 0 4 by unfold vp_in; decide) dX5_spread_58 ?_
          refine lv_icmp_ge (tgt := 90) hx hb dX5_spread_59 (by decide) (fun c => absurd c (show ¬ ((fc 0) ≤ (nI i2)) from by rw [hcR]; exact nI_ge hi2 (by omega))) (fun _ => ?_)
          refine lv_aload_n hx hb dX5_spread_62 rfl (lv_at hl 3 rfl) ?_
          refine va_get (D := D) (ci := 5) (v := .ref a0_props) (C := RX5) (T := TX5) (N := 7) hx hb htg ig_5 hown hK hP 0 rfl rfl 2 (by decide) (htg _ q_170) (fun _ h9 => h9) rfl dX5_spread_63 ?_
          refine lv_iload hx hb dX5_spread_66 (lv_at hl 0 rfl) ?_
          refine va_iald hx hb hK hP 4 0 rfl rfl (vp_in_nI (Nat.lt_of_lt_of_le hi2 (by omega)) (by decide)) dX5_spread_68 ?_
          refine lv_iconst (v := (-1)) hx hb dX5_spread_69 (by decide) ?_
          refine lv_icmp_eq (tgt := 84) hx hb dX5_spread_70 (by decide) (fun (c_2 : (g_props (nI i2).toNatClampNeg) = (-1)) => ?_) (fun (c_2 : ¬ ((g_props (nI i2).toNatClampNeg) = (-1))) => ?_)
          · refine lv_iinc (v := nI (i2 + 1)) (lv' := [(4, .int (nI (i2 + 1))), (3, .int (nI r1)), (2, .int ch2), (0, .ref a0), (1, .int v_f)]) hx hb dX5_spread_84 hl (k := 0) rfl (by exact nI_1 i2) (by decide) rfl (fun ls hl => ?_)
            refine lv_goto (tgt := 48) hx hb dX5_spread_87 (by decide) ?_
            replace hl : lv_has ls 5 [(4, .int (nI (i2 + 1))), (3, .int (nI r1)), (2, .int ch2), (0, .ref a0), (1, .int v_f)] := by exact lv_sub hl [0, 1, 2, 3, 4] rfl
            apply ih_i2 (i2 := i2 + 1) <;> first | assumption | omega
          · refine lv_aload_n hx hb dX5_spread_73 rfl (lv_at hl 3 rfl) ?_
            refine lv_iload hx hb dX5_spread_74 (lv_at hl 0 rfl) ?_
            refine oh_mV (As := [.int (nI i2)]) (rest := []) (wr := [(a0_land_counts, .inl (E 0, 4, .inl fc)), (a0_props, .inl (E 0, 24, .inl g_props))]) ⟨hx, hb, hml, hown, htg⟩ (c_X5_shorten l D E G H.size a0 (nI i2) a0_land a0_pack a0_props a0_propCoin a0_price a0_far a0_walked a0_land_counts a0_land_roads a0_land_bridges a0_land_waggons a0_land_parts a0_land_settings a0_land_trip v_ow fr g_price gf3 (vp_in_nI (Nat.lt_of_lt_of_le hi2 (by omega)) (by decide)) (hrd i2 hi2).1 (hrd i2 hi2).2) (cwV 1 htg (oh_gV q_795 q_797 q_20 q_68 q_798) rfl rfl rfl pdVX5_shorten ⟨Nat.le_of_ble_eq_true rfl, Nat.le_of_ble_eq_true rfl⟩) hK hP hD hG hS hA [0, 1, 3, 5, 6] [2, 4] rfl rfl (by decide) (by decide) (by decide) (va_recv hK hP (ci := 5) (q0 := 0) rfl rfl) rfl hl.1 rfl (Nat.le_of_ble_eq_true rfl) dX5_spread_76 ⟨Nat.le_of_ble_eq_true rfl, Nat.le_of_ble_eq_true rfl⟩ (fun r_1 u H locs hw hP hD hS => ?_)
            obtain ⟨hv_a0_far_1, rfl⟩ : ∃ z, z = u := ⟨_, rfl⟩
            subst hw
            replace hP : va_P D vwCl [(a0_land_counts, .inl (E 0, 4, .inl fc)), (a0_props, .inl (E 0, 24, .inl g_props)), (a0, .inr (5, [.ref a0_land, .ref a0_pack, .ref a0_props, .ref a0_propCoin, .ref a0_price, .ref a0_far, .ref a0_walked])), (a0_land, .inr (0, [.ref a0_land_counts, .ref a0_land_roads, .ref a0_land_bridges, .ref a0_land_waggons, .ref a0_land_parts, .ref a0_land_settings, .ref a0_land_trip, .int v_ow])), (a0_land_roads, .inl (E 0, 168, .inl fr)), (a0_price, .inl (E 0, 24, .inl g_price)), (a0_far, .inl (E 0, 16, .inl hv_a0_far_1))] H := hP
            replace hD : va_D A [(a0_land_counts, .inl (E 0, 4, .inl fc)), (a0_props, .inl (E 0, 24, .inl g_props)), (a0, .inr (5, [.ref a0_land, .ref a0_pack, .ref a0_props, .ref a0_propCoin, .ref a0_price, .ref a0_far, .ref a0_walked])), (a0_land, .inr (0, [.ref a0_land_counts, .ref a0_land_roads, .ref a0_land_bridges, .ref a0_land_waggons, .ref a0_land_parts, .ref a0_land_settings, .ref a0_land_trip, .int v_ow])), (a0_land_roads, .inl (E 0, 168, .inl fr)), (a0_price, .inl (E 0, 24, .inl g_price)), (a0_far, .inl (E 0, 16, .inl hv_a0_far_1))] := hD
            refine W.widen (k := 0) (n := 0) (Nat.le_refl _) (Nat.le_refl _) ?_
            refine lv_if_eq (tgt := 84) hx hb dX5_spread_79 (by decide) (fun (c_3 : (fX5_shorten (nI i2) fr g_price gf3) = 0) => ?_) (fun (c_3 : ¬ ((fX5_shorten (nI i2) fr g_price gf3) = 0)) => ?_)
            · refine lv_iinc (v := nI (i2 + 1)) (lv' := [(4, .int (nI (i2 + 1))), (3, .int (nI r1)), (2, .int ch2), (0, .ref a0), (1, .int v_f)]) hx hb dX5_spread_84 hl (k := 0) rfl (by exact nI_1 i2) (by decide) rfl (fun ls hl => ?_)
              refine lv_goto (tgt := 48) hx hb dX5_spread_87 (by decide) ?_
              replace hP : va_P D vwCl [(a0, .inr (5, [.ref a0_land, .ref a0_pack, .ref a0_props, .ref a0_propCoin, .ref a0_price, .ref a0_far, .ref a0_walked])), (a0_land, .inr (0, [.ref a0_land_counts, .ref a0_land_roads, .ref a0_land_bridges, .ref a0_land_waggons, .ref a0_land_parts, .ref a0_land_settings, .ref a0_land_trip, .int v_ow])), (a0_land_counts, .inl (E 0, 4, .inl fc)), (a0_land_roads, .inl (E 0, 168, .inl fr)), (a0_props, .inl (E 0, 24, .inl g_props)), (a0_price, .inl (E 0, 24, .inl g_price)), (a0_far, .inl (E 0, 16, .inl hv_a0_far_1))] H := hP.sub [2, 3, 0, 4, 1, 5, 6] rfl
              replace hD : va_D A [(a0, .inr (5, [.ref a0_land, .ref a0_pack, .ref a0_props, .ref a0_propCoin, .ref a0_price, .ref a0_far, .ref a0_walked])), (a0_land, .inr (0, [.ref a0_land_counts, .ref a0_land_roads, .ref a0_land_bridges, .ref a0_land_waggons, .ref a0_land_parts, .ref a0_land_settings, .ref a0_land_trip, .int v_ow])), (a0_land_counts, .inl (E 0, 4, .inl fc)), (a0_land_roads, .inl (E 0, 168, .inl fr)), (a0_props, .inl (E 0, 24, .inl g_props)), (a0_price, .inl (E 0, 24, .inl g_price)), (a0_far, .inl (E 0, 16, .inl hv_a0_far_1))] := hD.sub [2, 3, 0, 4, 1, 5, 6] (by decide) rfl
              replace hl : lv_has ls 5 [(4, .int (nI (i2 + 1))), (3, .int (nI r1)), (2, .int ch2), (0, .ref a0), (1, .int v_f)] := by exact lv_sub hl [0, 1, 2, 3, 4] rfl
              apply ih_i2 (i2 := i2 + 1) <;> first | assumption | omega
            · refine lv_iconst (v := 1) hx hb dX5_spread_82 (by decide) ?_
              refine lv_istore_n (lv' := [(2, .int 1), (4, .int (nI i2)), (3, .int (nI r1)), (0, .ref a0), (1, .int v_f)]) hx hb dX5_spread_83 rfl hl (by decide) rfl (fun ls hl => ?_)
              refine lv_iinc (v := nI (i2 + 1)) (lv' := [(4, .int (nI (i2 + 1))), (2, .int 1), (3, .int (nI r1)), (0, .ref a0), (1, .int v_f)]) hx hb dX5_spread_84 hl (k := 1) rfl (by exact nI_1 i2) (by decide) rfl (fun ls hl => ?_)
              refine lv_goto (tgt := 48) hx hb dX5_spread_87 (by decide) ?_
              replace hP : va_P D vwCl [(a0, .inr (5, [.ref a0_land, .ref a0_pack, .ref a0_props, .ref a0_propCoin, .ref a0_price, .ref a0_far, .ref a0_walked])), (a0_land, .inr (0, [.ref a0_land_counts, .ref a0_land_roads, .ref a0_land_bridges, .ref a0_land_waggons, .ref a0_land_parts, .ref a0_land_settings, .ref a0_land_trip, .int v_ow])), (a0_land_counts, .inl (E 0, 4, .inl fc)), (a0_land_roads, .inl (E 0, 168, .inl fr)), (a0_props, .inl (E 0, 24, .inl g_props)), (a0_price, .inl (E 0, 24, .inl g_price)), (a0_far, .inl (E 0, 16, .inl hv_a0_far_1))] H := hP.sub [2, 3, 0, 4, 1, 5, 6] rfl
              replace hD : va_D A [(a0, .inr (5, [.ref a0_land, .ref a0_pack, .ref a0_props, .ref a0_propCoin, .ref a0_price, .ref a0_far, .ref a0_walked])), (a0_land, .inr (0, [.ref a0_land_counts, .ref a0_land_roads, .ref a0_land_bridges, .ref a0_land_waggons, .ref a0_land_parts, .ref a0_land_settings, .ref a0_land_trip, .int v_ow])), (a0_land_counts, .inl (E 0, 4, .inl fc)), (a0_land_roads, .inl (E 0, 168, .inl fr)), (a0_props, .inl (E 0, 24, .inl g_props)), (a0_price, .inl (E 0, 24, .inl g_price)), (a0_far, .inl (E 0, 16, .inl hv_a0_far_1))] := hD.sub [2, 3, 0, 4, 1, 5, 6] (by decide) rfl
              replace hl : lv_has ls 5 [(4, .int (nI (i2 + 1))), (3, .int (nI r1)), (2, .int 1), (0, .ref a0), (1, .int v_f)] := by exact lv_sub hl [0, 2, 1, 3, 4] rfl
              apply ih_i2 (i2 := i2 + 1) <;> first | assumption | omega
  | succ d_j ih_j =>
    have hj : j < 16 := by omega
    refine lv_iload_n hx hb dX5_spread_2 rfl (lv_at hl 0 rfl) ?_
    refine lv_bipush (v := 16) hx hb dX5_spread_3 (by decide) ?_
    refine lv_icmp_ge (tgt := 22) hx hb dX5_spread_5 (by decide) (fun c => absurd c (show ¬ (16 ≤ (nI j)) from show ¬ nI 16 ≤ nI j from nI_ge hj (by decide))) (fun _ => ?_)
    refine lv_aload_n hx hb dX5_spread_8 rfl (lv_at hl 1 rfl) ?_
    refine va_get (D := D) (ci := 5) (v := .ref a0_far) (C := RX5) (T := TX5) (N := 7) hx hb htg ig_5 hown hK hP 0 rfl rfl 5 (by decide) (htg _ q_174) (fun _ h9 => h9) rfl dX5_spread_9 ?_
    refine lv_iload_n hx hb dX5_spread_12 rfl (lv_at hl 0 rfl) ?_
    refine lv_ldc (v := 1000000000) hx hb hown (htg _ q_794) dX5_spread_13 ?_
    refine va_iast hx hb hK hP hD hS 6 0 rfl rfl (vp_in_nI (Nat.lt_of_lt_of_le hj (by omega)) (by decide)) dX5_spread_15 (fun H locs hP hD hS => ?_)
    replace hP : va_P D vwCl [(a0, .inr (5, [.ref a0_land, .ref a0_pack, .ref a0_props, .ref a0_propCoin, .ref a0_price, .ref a0_far, .ref a0_walked])), (a0_land, .inr (0, [.ref a0_land_counts, .ref a0_land_roads, .ref a0_land_bridges, .ref a0_land_waggons, .ref a0_land_parts, .ref a0_land_settings, .ref a0_land_trip, .int v_ow])), (a0_land_counts, .inl (E 0, 4, .inl fc)), (a0_land_roads, .inl (E 0, 168, .inl fr)), (a0_props, .inl (E 0, 24, .inl g_props)), (a0_price, .inl (E 0, 24, .inl g_price)), (a0_far, .inl (E 0, 16, .inl (upd gf1 ((nI j).toNatClampNeg) 1000000000)))] H := hP
    replace hD : va_D A [(a0, .inr (5, [.ref a0_land, .ref a0_pack, .ref a0_props, .ref a0_propCoin, .ref a0_price, .ref a0_far, .ref a0_walked])), (a0_land, .inr (0, [.ref a0_land_counts, .ref a0_land_roads, .ref a0_land_bridges, .ref a0_land_waggons, .ref a0_land_parts, .ref a0_land_settings, .ref a0_land_trip, .int v_ow])), (a0_land_counts, .inl (E 0, 4, .inl fc)), (a0_land_roads, .inl (E 0, 168, .inl fr)), (a0_props, .inl (E 0, 24, .inl g_props)), (a0_price, .inl (E 0, 24, .inl g_price)), (a0_far, .inl (E 0, 16, .inl (upd gf1 ((nI j).toNatClampNeg) 1000000000)))] := hD
    refine lv_iinc (v := nI (j + 1)) (lv' := [(2, .int (nI (j + 1))), (0, .ref a0), (1, .int v_f)]) hx hb dX5_spread_16 hl (k := 0) rfl (by exact nI_1 j) (by decide) rfl (fun ls hl => ?_)
    refine lv_goto (tgt := 2) hx hb dX5_spread_19 (by decide) ?_
    replace hl : lv_has ls 5 [(2, .int (nI (j + 1))), (0, .ref a0), (1, .int v_f)] := by exact lv_sub hl [0, 1, 2] rfl
    apply ih_j (j := j + 1) <;> first | assumption | omega
