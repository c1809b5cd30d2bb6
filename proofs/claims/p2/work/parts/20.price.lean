set_option maxHeartbeats 4000000 in
set_option maxRecDepth 100000 in
theorem c_X5_priceByCoin (l : Launch) (D : va_G) (E : Nat → ClassId) (G : Nat → Nat) (sz : Nat) (a0 : Nat) (v_l : Int32) (nR : Nat) (a0_land : Nat) (a0_pack : Nat) (a0_props : Nat) (a0_propCoin : Nat) (a0_price : Nat) (a0_far : Nat) (a0_walked : Nat) (a0_land_counts : Nat) (a0_land_roads : Nat) (a0_land_bridges : Nat) (a0_land_waggons : Nat) (a0_land_parts : Nat) (a0_land_settings : Nat) (a0_land_trip : Nat) (v_ow : Int32) (fc : Nat → Int32) (fr : Nat → Int32) (fs : Nat → Int32) (p_axles : Int32) (p_space : Int32) (p_fullLength : Int32) (p_axleLoad : Int32) (p_sentCoin : Int32) (g_pc : Nat → Int32) (g_price : Nat → Int32) (hR : nR ≤ 24) (hcR : fc 0 = nI nR) : Met l yX5_priceByCoin (oh_w yX5_priceByCoin cX5_priceByCoin 3 none) ({ frames := 3, cells := 0, slots := 0, locals := 65 }) (oh_Pm D E G [.ref a0, .int v_l] [(a0, .inr (5, [.ref a0_land, .ref a0_pack, .ref a0_props, .ref a0_propCoin, .ref a0_price, .ref a0_far, .ref a0_walked])), (a0_land, .inr (0, [.ref a0_land_counts, .ref a0_land_roads, .ref a0_land_bridges, .ref a0_land_waggons, .ref a0_land_parts, .ref a0_land_settings, .ref a0_land_trip, .int v_ow])), (a0_land_counts, .inl (E 0, 4, .inl fc)), (a0_land_roads, .inl (E 0, 168, .inl fr)), (a0_land_settings, .inl (E 0, 3, .inl fs)), (a0_pack, .inr (1, [.int p_axles, .int p_space, .int p_fullLength, .int p_axleLoad, .int p_sentCoin])), (a0_propCoin, .inl (E 0, 24, .inl g_pc)), (a0_price, .inl (E 0, 24, .inl g_price))] sz) (va_Qv (fun (_ : (Nat → Int32)) => True) (oh_B D (va_A [(a0, .inr (5, [.ref a0_land, .ref a0_pack, .ref a0_props, .ref a0_propCoin, .ref a0_price, .ref a0_far, .ref a0_walked])), (a0_land, .inr (0, [.ref a0_land_counts, .ref a0_land_roads, .ref a0_land_bridges, .ref a0_land_waggons, .ref a0_land_parts, .ref a0_land_settings, .ref a0_land_trip, .int v_ow])), (a0_land_counts, .inl (E 0, 4, .inl fc)), (a0_land_roads, .inl (E 0, 168, .inl fr)), (a0_land_settings, .inl (E 0, 3, .inl fs)), (a0_pack, .inr (1, [.int p_axles, .int p_space, .int p_fullLength, .int p_axleLoad, .int p_sentCoin])), (a0_propCoin, .inl (E 0, 24, .inl g_pc)), (a0_price, .inl (E 0, 24, .inl g_price))] sz) (fun hv_a0_price => [(a0, .inr (5, [.ref a0_land, .ref a0_pack, .ref a0_props, .ref a0_propCoin, .ref a0_price, .ref a0_far, .ref a0_walked])), (a0_land, .inr (0, [.ref a0_land_counts, .ref a0_land_roads, .ref a0_land_bridges, .ref a0_land_waggons, .ref a0_land_parts, .ref a0_land_settings, .ref a0_land_trip, .int v_ow])), (a0_land_counts, .inl (E 0, 4, .inl fc)), (a0_land_roads, .inl (E 0, 168, .inl fr)), (a0_land_settings, .inl (E 0, 3, .inl fs)), (a0_pack, .inr (1, [.int p_axles, .int p_space, .int p_fullLength, .int p_axleLoad, .int p_sentCoin])), (a0_propCoin, .inl (E 0, 24, .inl g_pc)), (a0_price, .inl (E 0, 24, .inl hv_a0_price))])) (va_A [(a0, .inr (5, [.ref a0_land, .ref a0_pack, .ref a0_props, .ref a0_propCoin, .ref a0_price, .ref a0_far, .ref a0_walked])), (a0_land, .inr (0, [.ref a0_land_counts, .ref a0_land_roads, .ref a0_land_bridges, .ref a0_land_waggons, .ref a0_land_parts, .ref a0_land_settings, .ref a0_land_trip, .int v_ow])), (a0_land_counts, .inl (E 0, 4, .inl fc)), (a0_land_roads, .inl (E 0, 168, .inl fr)), (a0_land_settings, .inl (E 0, 3, .inl fs)), (a0_pack, .inr (1, [.int p_axles, .int p_space, .int p_fullLength, .int p_axleLoad, .int p_sentCoin])), (a0_propCoin, .inl (E 0, 24, .inl g_pc)), (a0_price, .inl (E 0, 24, .inl g_price))] sz)) 0 0 (va_A [(a0, .inr (5, [.ref a0_land, .ref a0_pack, .ref a0_props, .ref a0_propCoin, .ref a0_price, .ref a0_far, .ref a0_walked])), (a0_land, .inr (0, [.ref a0_land_counts, .ref a0_land_roads, .ref a0_land_bridges, .ref a0_land_waggons, .ref a0_land_parts, .ref a0_land_settings, .ref a0_land_trip, .int v_ow])), (a0_land_counts, .inl (E 0, 4, .inl fc)), (a0_land_roads, .inl (E 0, 168, .inl fr)), (a0_land_settings, .inl (E 0, 3, .inl fs)), (a0_pack, .inr (1, [.int p_axles, .int p_space, .int p_fullLength, .int p_axleLoad, .int p_sentCoin])), (a0_propCoin, .inl (E 0, 24, .inl g_pc)), (a0_price, .inl (E 0, 24, .inl g_price))] sz) := by
  refine Met.ofW (cc := cX5_priceByCoin) (maxL := 3) (ret := none) (by decide) rfl ?_
  intro p e s m args below meth c s₁ B hml hv
  obtain ⟨rfl, hsz, hP, hK, hD0, hG⟩ := hv
  have hx := B.exec
  have hb := B.bytes
  have hr := B.returns
  have hts := atoms_spec (ws := (oh_w yX5_priceByCoin cX5_priceByCoin 3 none)) B.pre
  have htg : ∀ w ∈ oh_t, w.before _ s = true := fun w h => hts w (List.mem_cons_of_mem _ h)
  have hown : s.vm.findClass RX5 = some m.cls := findClass_of_methodNamed B.named
  have hlocks := B.notSynchronized
  subst hsz
  have hD := hD0.self (sz := s.heap.size)
  generalize hAe : va_A [(a0, .inr (5, [.ref a0_land, .ref a0_pack, .ref a0_props, .ref a0_propCoin, .ref a0_price, .ref a0_far, .ref a0_walked])), (a0_land, .inr (0, [.ref a0_land_counts, .ref a0_land_roads, .ref a0_land_bridges, .ref a0_land_waggons, .ref a0_land_parts, .ref a0_land_settings, .ref a0_land_trip, .int v_ow])), (a0_land_counts, .inl (E 0, 4, .inl fc)), (a0_land_roads, .inl (E 0, 168, .inl fr)), (a0_land_settings, .inl (E 0, 3, .inl fs)), (a0_pack, .inr (1, [.int p_axles, .int p_space, .int p_fullLength, .int p_axleLoad, .int p_sentCoin])), (a0_propCoin, .inl (E 0, 24, .inl g_pc)), (a0_price, .inl (E 0, 24, .inl g_price))] s.heap.size = A at hD hG ⊢
  have hA : ∀ q : Nat, s.heap.size ≤ q → A q := fun q h => by rw [← hAe]; exact Or.inr h
  have hS : va_S A s.heap s.heap [] := va_S.rf
  have hP : va_P D vwCl [(a0, .inr (5, [.ref a0_land, .ref a0_pack, .ref a0_props, .ref a0_propCoin, .ref a0_price, .ref a0_far, .ref a0_walked])), (a0_land, .inr (0, [.ref a0_land_counts, .ref a0_land_roads, .ref a0_land_bridges, .ref a0_land_waggons, .ref a0_land_parts, .ref a0_land_settings, .ref a0_land_trip, .int v_ow])), (a0_land_counts, .inl (E 0, 4, .inl fc)), (a0_land_roads, .inl (E 0, 168, .inl fr)), (a0_land_settings, .inl (E 0, 3, .inl fs)), (a0_pack, .inr (1, [.int p_axles, .int p_space, .int p_fullLength, .int p_axleLoad, .int p_sentCoin])), (a0_propCoin, .inl (E 0, 24, .inl g_pc)), (a0_price, .inl (E 0, 24, .inl g_price))] s.heap := hP
  have hl := lv_entry ([.ref a0, .int v_l]) (n := 3) (Nat.le_of_ble_eq_true rfl)
  rw [lg_entry_eq]
  generalize (lg_sl ([.ref a0, .int v_l]) ++ List.replicate (3 - (lg_sl ([.ref a0, .int v_l])).length) Slot.unset).toArray = ls at hl ⊢
  have hl : lv_has ls 3 [(0, .ref a0), (1, .int v_l)] := hl
  refine lv_iconst (v := 0) hx hb dX5_priceByCoin_0 (by decide) ?_
  refine lv_istore_n (lv' := [(2, .int 0), (0, .ref a0), (1, .int v_l)]) hx hb dX5_priceByCoin_1 rfl hl (by decide) rfl (fun ls hl => ?_)
  obtain ⟨H, locs, eH, eL⟩ : ∃ (H : Heap) (locs : List Loc), H = s.heap ∧ locs = [] := ⟨_, _, rfl, rfl⟩
  replace hS : va_S A s.heap H locs := by rw [eH, eL]; exact hS
  rw [← eH] at hP
  rw [← eH, ← eL]
  clear eH eL
  obtain ⟨j, hj0⟩ : ∃ j : Nat, j = 0 := ⟨0, rfl⟩
  replace hl : lv_has ls 3 [(2, .int (nI j)), (0, .ref a0), (1, .int v_l)] := by rw [hj0, nI_0]; exact lv_sub hl [0, 1, 2] rfl
  obtain ⟨gr1, e_gr1⟩ : ∃ z : Nat → Int32, z = g_price := ⟨_, rfl⟩
  rw [← e_gr1] at hP hD
  clear e_gr1
  have hjN : j ≤ nR := by omega
  clear hj0
  induction hd : nR - j generalizing j ls H locs gr1 with
  | zero =>
    have hj : j = nR := by omega
    rw [hj] at hl
    refine lv_iload_n hx hb dX5_priceByCoin_2 rfl (lv_at hl 0 rfl) ?_
    refine lv_aload_n hx hb dX5_priceByCoin_3 rfl (lv_at hl 1 rfl) ?_
    refine va_get (D := D) (ci := 5) (v := .ref a0_land) (C := RX5) (T := TX5) (N := 7) hx hb htg ig_5 hown hK hP 0 rfl rfl 0 (by decide) (htg _ q_167) (fun _ h9 => h9) rfl dX5_priceByCoin_4 ?_
    refine va_get (D := D) (ci := 0) (v := .ref a0_land_counts) (C := RX0) (T := TX0) (N := 8) hx hb htg ig_0 hown hK hP 1 rfl rfl 0 (by decide) (htg _ q_99) (fun _ h9 => h9) rfl dX5_priceByCoin_7 ?_
    refine lv_iconst (v := 0) hx hb dX5_priceByCoin_10 (by decide) ?_
    refine va_iald hx hb hK hP 2 0 rfl rfl (show vp_in 0 4 by unfold vp_in; decide) dX5_priceByCoin_11 ?_
    refine lv_icmp_ge (tgt := 33) hx hb dX5_priceByCoin_12 (by decide) (fun _ => ?_) (fun c => absurd (show (fc 0) ≤ (nI nR) from by rw [hcR]; exact nI_le (Nat.le_refl _) (by omega)) c)
    refine W.widen (k := 0) (n := 0) (Nat.le_of_ble_eq_true rfl) (Nat.le_of_ble_eq_true rfl) ?_
    exact W.vret hx hb hr (fun t ht hW => ⟨⟨gr1, rfl, trivial, ⟨by rw [ht]; exact hP.sub [0, 1, 2, 3, 4, 5, 6, 7] rfl, hD.sub [0, 1, 2, 3, 4, 5, 6, 7] (by decide) rfl⟩⟩, hS.F ht⟩) hS.2.2 dX5_priceByCoin_33
  | succ d ih =>
    have hj : j < nR := by omega
    refine lv_iload_n hx hb dX5_priceByCoin_2 rfl (lv_at hl 0 rfl) ?_
    refine lv_aload_n hx hb dX5_priceByCoin_3 rfl (lv_at hl 1 rfl) ?_
    refine va_get (D := D) (ci := 5) (v := .ref a0_land) (C := RX5) (T := TX5) (N := 7) hx hb htg ig_5 hown hK hP 0 rfl rfl 0 (by decide) (htg _ q_167) (fun _ h9 => h9) rfl dX5_priceByCoin_4 ?_
    refine va_get (D := D) (ci := 0) (v := .ref a0_land_counts) (C := RX0) (T := TX0) (N := 8) hx hb htg ig_0 hown hK hP 1 rfl rfl 0 (by decide) (htg _ q_99) (fun _ h9 => h9) rfl dX5_priceByCoin_7 ?_
    refine lv_iconst (v := 0) hx hb dX5_priceByCoin_10 (by decide) ?_
    refine va_iald hx hb hK hP 2 0 rfl rfl (show vp_in 0 4 by unfold vp_in; decide) dX5_priceByCoin_11 ?_
    refine lv_icmp_ge (tgt := 33) hx hb dX5_priceByCoin_12 (by decide) (fun c => absurd c (show ¬ ((fc 0) ≤ (nI j)) from by rw [hcR]; exact nI_ge hj (by omega))) (fun _ => ?_)
    refine lv_aload_n hx hb dX5_priceByCoin_15 rfl (lv_at hl 1 rfl) ?_
    refine va_get (D := D) (ci := 5) (v := .ref a0_price) (C := RX5) (T := TX5) (N := 7) hx hb htg ig_5 hown hK hP 0 rfl rfl 4 (by decide) (htg _ q_173) (fun _ h9 => h9) rfl dX5_priceByCoin_16 ?_
    refine lv_iload_n hx hb dX5_priceByCoin_19 rfl (lv_at hl 0 rfl) ?_
    refine lv_aload_n hx hb dX5_priceByCoin_20 rfl (lv_at hl 1 rfl) ?_
    refine lv_iload_n hx hb dX5_priceByCoin_21 rfl (lv_at hl 0 rfl) ?_
    refine lv_iload_n hx hb dX5_priceByCoin_22 rfl (lv_at hl 2 rfl) ?_
    refine oh_pV (As := [.int (nI j), .int v_l]) (rest := [.int (nI j), .ref a0_price]) (v := (((v_l * (fs 1)) * (fr (((nI j) * 7) + 2).toNatClampNeg)) * (1 + (((fr (((nI j) * 7) + 3).toNatClampNeg) * p_axleLoad) / 100))) + (g_pc ((nI j)).toNatClampNeg)) ⟨hx, hb, hml, hown, htg⟩ (c_X5_coinOf l D E G a0 (nI j) v_l a0_land a0_pack a0_props a0_propCoin a0_price a0_far a0_walked a0_land_counts a0_land_roads a0_land_bridges a0_land_waggons a0_land_parts a0_land_settings a0_land_trip v_ow fr fs p_axles p_space p_fullLength p_axleLoad p_sentCoin g_pc (vp_in_nI (Nat.lt_of_lt_of_le hj (by omega)) (by decide))) (cwV 2 htg (oh_gV q_789 q_763 q_764 q_68 q_765) rfl rfl rfl pdVX5_coinOf ⟨Nat.le_of_ble_eq_true rfl, Nat.le_of_ble_eq_true rfl⟩) hK (hP.sub (ws' := [(a0, .inr (5, [.ref a0_land, .ref a0_pack, .ref a0_props, .ref a0_propCoin, .ref a0_price, .ref a0_far, .ref a0_walked])), (a0_land, .inr (0, [.ref a0_land_counts, .ref a0_land_roads, .ref a0_land_bridges, .ref a0_land_waggons, .ref a0_land_parts, .ref a0_land_settings, .ref a0_land_trip, .int v_ow])), (a0_land_roads, .inl (E 0, 168, .inl fr)), (a0_land_settings, .inl (E 0, 3, .inl fs)), (a0_pack, .inr (1, [.int p_axles, .int p_space, .int p_fullLength, .int p_axleLoad, .int p_sentCoin])), (a0_propCoin, .inl (E 0, 24, .inl g_pc))]) [0, 1, 3, 4, 5, 6] rfl) hG hS (va_recv hK hP (ci := 5) (q0 := 0) rfl rfl) rfl hl.1 rfl (Nat.le_of_ble_eq_true rfl) dX5_priceByCoin_23 ⟨Nat.le_of_ble_eq_true rfl, Nat.le_of_ble_eq_true rfl⟩ ?_
    refine va_iast hx hb hK hP hD hS 7 0 rfl rfl (vp_in_nI (Nat.lt_of_lt_of_le hj (by omega)) (by decide)) dX5_priceByCoin_26 (fun H locs hP hD hS => ?_)
    replace hP : va_P D vwCl [(a0, .inr (5, [.ref a0_land, .ref a0_pack, .ref a0_props, .ref a0_propCoin, .ref a0_price, .ref a0_far, .ref a0_walked])), (a0_land, .inr (0, [.ref a0_land_counts, .ref a0_land_roads, .ref a0_land_bridges, .ref a0_land_waggons, .ref a0_land_parts, .ref a0_land_settings, .ref a0_land_trip, .int v_ow])), (a0_land_counts, .inl (E 0, 4, .inl fc)), (a0_land_roads, .inl (E 0, 168, .inl fr)), (a0_land_settings, .inl (E 0, 3, .inl fs)), (a0_pack, .inr (1, [.int p_axles, .int p_space, .int p_fullLength, .int p_axleLoad, .int p_sentCoin])), (a0_propCoin, .inl (E 0, 24, .inl g_pc)), (a0_price, .inl (E 0, 24, .inl (upd gr1 ((nI j).toNatClampNeg) ((((v_l * (fs 1)) * (fr (((nI j) * 7) + 2).toNatClampNeg)) * (1 + (((fr (((nI j) * 7) + 3).toNatClampNeg) * p_axleLoad) / 100))) + (g_pc ((nI j)).toNatClampNeg)))))] H := hP
    replace hD : va_D A [(a0, .inr (5, [.ref a0_land, .ref a0_pack, .ref a0_props, .ref a0_propCoin, .ref a0_price, .ref a0_far, .ref a0_walked])), (a0_land, .inr (0, [.ref a0_land_counts, .ref a0_land_roads, .ref a0_land_bridges, .ref a0_land_waggons, .ref a0_land_parts, .ref a0_land_settings, .ref a0_land_trip, .int v_ow])), (a0_land_counts, .inl (E 0, 4, .inl fc)), (a0_land_roads, .inl (E 0, 168, .inl fr)), (a0_land_settings, .inl (E 0, 3, .inl fs)), (a0_pack, .inr (1, [.int p_axles, .int p_space, .int p_fullLength, .int p_axleLoad, .int p_sentCoin])), (a0_propCoin, .inl (E 0, 24, .inl g_pc)), (a0_price, .inl (E 0, 24, .inl (upd gr1 ((nI j).toNatClampNeg) ((((v_l * (fs 1)) * (fr (((nI j) * 7) + 2).toNatClampNeg)) * (1 + (((fr (((nI j) * 7) + 3).toNatClampNeg) * p_axleLoad) / 100))) + (g_pc ((nI j)).toNatClampNeg)))))] := hD
    refine lv_iinc (v := nI (j + 1)) (lv' := [(2, .int (nI (j + 1))), (0, .ref a0), (1, .int v_l)]) hx hb dX5_priceByCoin_27 hl (k := 0) rfl (by exact nI_1 j) (by decide) rfl (fun ls hl => ?_)
    refine lv_goto (tgt := 2) hx hb dX5_priceByCoin_30 (by decide) ?_
    have hl : lv_has ls 3 [(2, .int (nI (j + 1))), (0, .ref a0), (1, .int v_l)] := by exact lv_sub hl [0, 1, 2] rfl
    apply ih (j := j + 1) <;> first | assumption | omega
def fX5_shorten (v_r : Int32) (fr : Nat → Int32) (g_price : Nat → Int32) (g_far : Nat → Int32) : Int32 :=
  if (g_far (fr ((v_r * 7) + 0).toNatClampNeg).toNatClampNeg) = 1000000000 then (if (g_far (fr ((v_r * 7) + 1).toNatClampNeg).toNatClampNeg) = 1000000000 then 0 else if (g_far (fr ((v_r * 7) + 0).toNatClampNeg).toNatClampNeg) ≤ ((g_far (fr ((v_r * 7) + 1).toNatClampNeg).toNatClampNeg) + (g_price (v_r).toNatClampNeg)) then 0 else 1) else if (g_far (fr ((v_r * 7) + 1).toNatClampNeg).toNatClampNeg) ≤ ((g_far (fr ((v_r * 7) + 0).toNatClampNeg).toNatClampNeg) + (g_price (v_r).toNatClampNeg)) then (if (g_far (fr ((v_r * 7) + 1).toNatClampNeg).toNatClampNeg) = 1000000000 then 0 else if (g_far (fr ((v_r * 7) + 0).toNatClampNeg).toNatClampNeg) ≤ ((g_far (fr ((v_r * 7) + 1).toNatClampNeg).toNatClampNeg) + (g_price (v_r).toNatClampNeg)) then 0 else 1) else 1
theorem fX5_shorten_b (v_r : Int32) (fr : Nat → Int32) (g_price : Nat → Int32) (g_far : Nat → Int32) : fX5_shorten v_r fr g_price g_far = 0 ∨ fX5_shorten v_r fr g_price g_far = 1 := by
  unfold fX5_shorten
  repeat' split
  all_goals first | exact Or.inl rfl | exact Or.inr rfl
set_option maxHeartbeats 4000000 in
set_option maxRecDepth 100000 in
theorem c_X5_shorten (l : Launch) (D : va_G) (E : Nat → ClassId) (G : Nat → Nat) (sz : Nat) (a0 : Nat) (v_r : Int32) (a0_land : Nat) (a0_pack : Nat) (a0_props : Nat) (a0_propCoin : Nat) (a0_price : Nat) (a0_far : Nat) (a0_walked : Nat) (a0_land_counts : Nat) (a0_land_roads : Nat) (a0_land_bridges : Nat) (a0_land_waggons : Nat) (a0_land_parts : Nat) (a0_land_settings : Nat) (a0_land_trip : Nat) (v_ow : Int32) (fr : Nat → Int32) (g_price : Nat → Int32) (g_far : Nat → Int32) (h0 : vp_in v_r 24) (hfr : vp_in (fr ((v_r * 7) + 0).toNatClampNeg) 16) (hto : vp_in (fr ((v_r * 7) + 1).toNatClampNeg) 16) : Met l yX5_shorten (oh_w yX5_shorten cX5_shorten 4 (some .boolean)) ({ frames := 1, cells := 0, slots := 0, locals := 22 }) (oh_Pm D E G [.ref a0, .int v_r] [(a0, .inr (5, [.ref a0_land, .ref a0_pack, .ref a0_props, .ref a0_propCoin, .ref a0_price, .ref a0_far, .ref a0_walked])), (a0_land, .inr (0, [.ref a0_land_counts, .ref a0_land_roads, .ref a0_land_bridges, .ref a0_land_waggons, .ref a0_land_parts, .ref a0_land_settings, .ref a0_land_trip, .int v_ow])), (a0_land_roads, .inl (E 0, 168, .inl fr)), (a0_price, .inl (E 0, 24, .inl g_price)), (a0_far, .inl (E 0, 16, .inl g_far))] sz) (va_Qi (fun r (_ : (Nat → Int32)) => r = fX5_shorten v_r fr g_price g_far) (oh_B D (va_A [(a0, .inr (5, [.ref a0_land, .ref a0_pack, .ref a0_props, .ref a0_propCoin, .ref a0_price, .ref a0_far, .ref a0_walked])), (a0_land, .inr (0, [.ref a0_land_counts, .ref a0_land_roads, .ref a0_land_bridges, .ref a0_land_waggons, .ref a0_land_parts, .ref a0_land_settings, .ref a0_land_trip, .int v_ow])), (a0_land_roads, .inl (E 0, 168, .inl fr)), (a0_price, .inl (E 0, 24, .inl g_price)), (a0_far, .inl (E 0, 16, .inl g_far))] sz) (fun hv_a0_far => [(a0, .inr (5, [.ref a0_land, .ref a0_pack, .ref a0_props, .ref a0_propCoin, .ref a0_price, .ref a0_far, .ref a0_walked])), (a0_land, .inr (0, [.ref a0_land_counts, .ref a0_land_roads, .ref a0_land_bridges, .ref a0_land_waggons, .ref a0_land_parts, .ref a0_land_settings, .ref a0_land_trip, .int v_ow])), (a0_land_roads, .inl (E 0, 168, .inl fr)), (a0_price, .inl (E 0, 24, .inl g_price)), (a0_far, .inl (E 0, 16, .inl hv_a0_far))])) (va_A [(a0, .inr (5, [.ref a0_land, .ref a0_pack, .ref a0_props, .ref a0_propCoin, .ref a0_price, .ref a0_far, .ref a0_walked])), (a0_land, .inr (0, [.ref a0_land_counts, .ref a0_land_roads, .ref a0_land_bridges, .ref a0_land_waggons, .ref a0_land_parts, .ref a0_land_settings, .ref a0_land_trip, .int v_ow])), (a0_land_roads, .inl (E 0, 168, .inl fr)), (a0_price, .inl (E 0, 24, .inl g_price)), (a0_far, .inl (E 0, 16, .inl g_far))] sz)) 0 0 (va_A [(a0, .inr (5, [.ref a0_land, .ref a0_pack, .ref a0_props, .ref a0_propCoin, .ref a0_price, .ref a0_far, .ref a0_walked])), (a0_land, .inr (0, [.ref a0_land_counts, .ref a0_land_roads, .ref a0_land_bridges, .ref a0_land_waggons, .ref a0_land_parts, .ref a0_land_settings, .ref a0_land_trip, .int v_ow])), (a0_land_roads, .inl (E 0, 168, .inl fr)), (a0_price, .inl (E 0, 24, .inl g_price)), (a0_far, .inl (E 0, 16, .inl g_far))] sz) := by
  refine Met.ofW (cc := cX5_shorten) (maxL := 4) (ret := (some .boolean)) (by decide) rfl ?_
  intro p e s m args below meth c s₁ B hml hv
  obtain ⟨rfl, hsz, hP, hK, hD0, hG⟩ := hv
  have hx := B.exec
  have hb := B.bytes
  have hr := B.returns
  have hts := atoms_spec (ws := (oh_w yX5_shorten cX5_shorten 4 (some .boolean))) B.pre
  have htg : ∀ w ∈ oh_t, w.before _ s = true := fun w h => hts w (List.mem_cons_of_mem _ h)
  have hown : s.vm.findClass RX5 = some m.cls := findClass_of_methodNamed B.named
  have hlocks := B.notSynchronized
  subst hsz
  have hD := hD0.self (sz := s.heap.size)
  generalize hAe : va_A [(a0, .inr (5, [.ref a0_land, .ref a0_pack, .ref a0_props, .ref a0_propCoin, .ref a0_price, .ref a0_far, .ref a0_walked])), (a0_land, .inr (0, [.ref a0_land_counts, .ref a0_land_roads, .ref a0_land_bridges, .ref a0_land_waggons, .ref a0_land_parts, .ref a0_land_settings, .ref a0_land_trip, .int v_ow])), (a0_land_roads, .inl (E 0, 168, .inl fr)), (a0_price, .inl (E 0, 24, .inl g_price)), (a0_far, .inl (E 0, 16, .inl g_far))] s.heap.size = A at hD hG ⊢
  have hA : ∀ q : Nat, s.heap.size ≤ q → A q := fun q h => by rw [← hAe]; exact Or.inr h
  have hS : va_S A s.heap s.heap [] := va_S.rf
  have hP : va_P D vwCl [(a0, .inr (5, [.ref a0_land, .ref a0_pack, .ref a0_props, .ref a0_propCoin, .ref a0_price, .ref a0_far, .ref a0_walked])), (a0_land, .inr (0, [.ref a0_land_counts, .ref a0_land_roads, .ref a0_land_bridges, .ref a0_land_waggons, .ref a0_land_parts, .ref a0_land_settings, .ref a0_land_trip, .int v_ow])), (a0_land_roads, .inl (E 0, 168, .inl fr)), (a0_price, .inl (E 0, 24, .inl g_price)), (a0_far, .inl (E 0, 16, .inl g_far))] s.heap := hP
  have hl := lv_entry ([.ref a0, .int v_r]) (n := 4) (Nat.le_of_ble_eq_true rfl)
  rw [lg_entry_eq]
  generalize (lg_sl ([.ref a0, .int v_r]) ++ List.replicate (4 - (lg_sl ([.ref a0, .int v_r])).length) Slot.unset).toArray = ls at hl ⊢
  have hl : lv_has ls 4 [(0, .ref a0), (1, .int v_r)] := hl
  refine lv_aload_n hx hb dX5_shorten_0 rfl (lv_at hl 0 rfl) ?_
  refine va_get (D := D) (ci := 5) (v := .ref a0_land) (C := RX5) (T := TX5) (N := 7) hx hb htg ig_5 hown hK hP 0 rfl rfl 0 (by decide) (htg _ q_167) (fun _ h9 => h9) rfl dX5_shorten_1 ?_
  refine lv_iload_n hx hb dX5_shorten_4 rfl (lv_at hl 1 rfl) ?_
  refine lv_iconst (v := 0) hx hb dX5_shorten_5 (by decide) ?_
  refine oh_pV (As := [.int v_r, .int 0]) (rest := []) (v := fr ((v_r * 7) + 0).toNatClampNeg) ⟨hx, hb, hml, hown, htg⟩ (c_X0_ofRoad l D E G a0_land v_r 0 a0_land_counts a0_land_roads a0_land_bridges a0_land_waggons a0_land_parts a0_land_settings a0_land_trip v_ow fr h0 (show vp_in 0 7 by unfold vp_in; decide)) (cwV 2 htg (oh_gV q_755 q_480 q_481 q_67 q_482) rfl rfl rfl pdVX0_ofRoad ⟨Nat.le_of_ble_eq_true rfl, Nat.le_of_ble_eq_true rfl⟩) hK (hP.sub (ws' := [(a0_land, .inr (0, [.ref a0_land_counts, .ref a0_land_roads, .ref a0_land_bridges, .ref a0_land_waggons, .ref a0_land_parts, .ref a0_land_settings, .ref a0_land_trip, .int v_ow])), (a0_land_roads, .inl (E 0, 168, .inl fr))]) [1, 2] rfl) hG hS (va_recv hK hP (ci := 0) (q0 := 1) rfl rfl) rfl hl.1 rfl (Nat.le_of_ble_eq_true rfl) dX5_shorten_6 ⟨Nat.le_of_ble_eq_true rfl, Nat.le_of_ble_eq_true rfl⟩ ?_
  refine lv_istore_n (lv' := [(2, .int (fr ((v_r * 7) + 0).toNatClampNeg)), (0, .ref a0), (1, .int v_r)]) hx hb dX5_shorten_9 rfl hl (by decide) rfl (fun ls hl => ?_)
  refine lv_aload_n hx hb dX5_shorten_10 rfl (lv_at hl 1 rfl) ?_
  refine va_get (D := D) (ci := 5) (v := .ref a0_land) (C := RX5) (T := TX5) (N := 7) hx hb htg ig_5 hown hK hP 0 rfl rfl 0 (by decide) (htg _ q_167) (fun _ h9 => h9) rfl dX5_shorten_11 ?_
  refine lv_iload_n hx hb dX5_shorten_14 rfl (lv_at hl 2 rfl) ?_
  refine lv_iconst (v := 1) hx hb dX5_shorten_15 (by decide) ?_
  refine oh_pV (As := [.int v_r, .int 1]) (rest := []) (v := fr ((v_r * 7) + 1).toNatClampNeg) ⟨hx, hb, hml, hown, htg⟩ (c_X0_ofRoad l D E G a0_land v_r 1 a0_land_counts a0_land_roads a0_land_bridges a0_land_waggons a0_land_parts a0_land_settings a0_land_trip v_ow fr h0 (show vp_in 1 7 by unfold vp_in; decide)) (cwV 2 htg (oh_gV q_755 q_480 q_481 q_67 q_482) rfl rfl rfl pdVX0_ofRoad ⟨Nat.le_of_ble_eq_true rfl, Nat.le_of_ble_eq_true rfl⟩) hK (hP.sub (ws' := [(a0_land, .inr (0, [.ref a0_land_counts, .ref a0_land_roads, .ref a0_land_bridges, .ref a0_land_waggons, .ref a0_land_parts, .ref a0_land_settings, .ref a0_land_trip, .int v_ow])), (a0_land_roads, .inl (E 0, 168, .inl fr))]) [1, 2] rfl) hG hS (va_recv hK hP (ci := 0) (q0 := 1) rfl rfl) rfl hl.1 rfl (Nat.le_of_ble_eq_true rfl) dX5_shorten_16 ⟨Nat.le_of_ble_eq_true rfl, Nat.le_of_ble_eq_true rfl⟩ ?_
  refine lv_istore_n (lv' := [(3, .int (fr ((v_r * 7) + 1).toNatClampNeg)), (2, .int (fr ((v_r * 7) + 0).toNatClampNeg)), (0, .ref a0), (1, .int v_r)]) hx hb dX5_shorten_19 rfl hl (by decide) rfl (fun ls hl => ?_)
  refine lv_aload_n hx hb dX5_shorten_20 rfl (lv_at hl 2 rfl) ?_
  refine va_get (D := D) (ci := 5) (v := .ref a0_far) (C := RX5) (T := TX5) (N := 7) hx hb htg ig_5 hown hK hP 0 rfl rfl 5 (by decide) (htg _ q_174) (fun _ h9 => h9) rfl dX5_shorten_21 ?_
  refine lv_iload_n hx hb dX5_shorten_24 rfl (lv_at hl 1 rfl) ?_
  refine va_iald hx hb hK hP 4 0 rfl rfl hfr dX5_shorten_25 ?_
  refine lv_ldc (v := 1000000000) hx hb hown (htg _ q_794) dX5_shorten_26 ?_
  refine lv_icmp_eq (tgt := 74) hx hb dX5_shorten_28 (by decide) (fun (c_1 : (g_far (fr ((v_r * 7) + 0).toNatClampNeg).toNatClampNeg) = 1000000000) => ?_) (fun (c_1 : ¬ ((g_far (fr ((v_r * 7) + 0).toNatClampNeg).toNatClampNeg) = 1000000000)) => ?_)
  · refine lv_aload_n hx hb dX5_shorten_74 rfl (lv_at hl 2 rfl) ?_
    refine va_get (D := D) (ci := 5) (v := .ref a0_far) (C := RX5) (T := TX5) (N := 7) hx hb htg ig_5 hown hK hP 0 rfl rfl 5 (by decide) (htg _ q_174) (fun _ h9 => h9) rfl dX5_shorten_75 ?_
    refine lv_iload_n hx hb dX5_shorten_78 rfl (lv_at hl 0 rfl) ?_
    refine va_iald hx hb hK hP 4 0 rfl rfl hto dX5_shorten_79 ?_
    refine lv_ldc (v := 1000000000) hx hb hown (htg _ q_794) dX5_shorten_80 ?_
    refine lv_icmp_eq (tgt := 128) hx hb dX5_shorten_82 (by decide) (fun (c_2 : (g_far (fr ((v_r * 7) + 1).toNatClampNeg).toNatClampNeg) = 1000000000) => ?_) (fun (c_2 : ¬ ((g_far (fr ((v_r * 7) + 1).toNatClampNeg).toNatClampNeg) = 1000000000)) => ?_)
    · refine lv_iconst (v := 0) hx hb dX5_shorten_128 (by decide) ?_
      refine W.widen (k := 0) (n := 0) (Nat.le_of_ble_eq_true rfl) (Nat.le_of_ble_eq_true rfl) ?_
      exact W.zret (v := 0) (ty := .boolean) hx hb hr (by decide) (fun t ht hW => ⟨⟨0, g_far, rfl, by unfold fX5_shorten; rw [if_pos c_1, if_pos c_2], ⟨by rw [ht]; exact hP.sub [0, 1, 2, 3, 4] rfl, hD.sub [0, 1, 2, 3, 4] (by decide) rfl⟩⟩, hS.F ht⟩) hS.2.2 dX5_shorten_129
    · refine lv_aload_n hx hb dX5_shorten_85 rfl (lv_at hl 2 rfl) ?_
      refine va_get (D := D) (ci := 5) (v := .ref a0_far) (C := RX5) (T := TX5) (N := 7) hx hb htg ig_5 hown hK hP 0 rfl rfl 5 (by decide) (htg _ q_174) (fun _ h9 => h9) rfl dX5_shorten_86 ?_
      refine lv_iload_n hx hb dX5_shorten_89 rfl (lv_at hl 0 rfl) ?_
      refine va_iald hx hb hK hP 4 0 rfl rfl hto dX5_shorten_90 ?_
      refine lv_aload_n hx hb dX5_shorten_91 rfl (lv_at hl 2 rfl) ?_
      refine va_get (D := D) (ci := 5) (v := .ref a0_price) (C := RX5) (T := TX5) (N := 7) hx hb htg ig_5 hown hK hP 0 rfl rfl 4 (by decide) (htg _ q_173) (fun _ h9 => h9) rfl dX5_shorten_92 ?_
      refine lv_iload_n hx hb dX5_shorten_95 rfl (lv_at hl 3 rfl) ?_
      refine va_iald hx hb hK hP 3 0 rfl rfl h0 dX5_shorten_96 ?_
      refine lv_iadd hx hb dX5_shorten_97 ?_
      refine lv_aload_n hx hb dX5_shorten_98 rfl (lv_at hl 2 rfl) ?_
      refine va_get (D := D) (ci := 5) (v := .ref a0_far) (C := RX5) (T := TX5) (N := 7) hx hb htg ig_5 hown hK hP 0 rfl rfl 5 (by decide) (htg _ q_174) (fun _ h9 => h9) rfl dX5_shorten_99 ?_
      refine lv_iload_n hx hb dX5_shorten_102 rfl (lv_at hl 1 rfl) ?_
      refine va_iald hx hb hK hP 4 0 rfl rfl hfr dX5_shorten_103 ?_
      refine lv_icmp_ge (tgt := 128) hx hb dX5_shorten_104 (by decide) (fun (c_3 : (g_far (fr ((v_r * 7) + 0).toNatClampNeg).toNatClampNeg) ≤ ((g_far (fr ((v_r * 7) + 1).toNatClampNeg).toNatClampNeg) + (g_price (v_r).toNatClampNeg))) => ?_) (fun (c_3 : ¬ ((g_far (fr ((v_r * 7) + 0).toNatClampNeg).toNatClampNeg) ≤ ((g_far (fr ((v_r * 7) + 1).toNatClampNeg).toNatClampNeg) + (g_price (v_r).toNatClampNeg)))) => ?_)
      · refine lv_iconst (v := 0) hx hb dX5_shorten_128 (by decide) ?_
        refine W.widen (k := 0) (n := 0) (Nat.le_of_ble_eq_true rfl) (Nat.le_of_ble_eq_true rfl) ?_
        exact W.zret (v := 0) (ty := .boolean) hx hb hr (by decide) (fun t ht hW => ⟨⟨0, g_far, rfl, by unfold fX5_shorten; rw [if_pos c_1, if_neg c_2, if_pos c_3], ⟨by rw [ht]; exact hP.sub [0, 1, 2, 3, 4] rfl, hD.sub [0, 1, 2, 3, 4] (by decide) rfl⟩⟩, hS.F ht⟩) hS.2.2 dX5_shorten_129
      · refine lv_aload_n hx hb dX5_shorten_107 rfl (lv_at hl 2 rfl) ?_
        refine va_get (D := D) (ci := 5) (v := .ref a0_far) (C := RX5) (T := TX5) (N := 7) hx hb htg ig_5 hown hK hP 0 rfl rfl 5 (by decide) (htg _ q_174) (fun _ h9 => h9) rfl dX5_shorten_108 ?_
        refine lv_iload_n hx hb dX5_shorten_111 rfl (lv_at hl 1 rfl) ?_
        refine lv_aload_n hx hb dX5_shorten_112 rfl (lv_at hl 2 rfl) ?_
        refine va_get (D := D) (ci := 5) (v := .ref a0_far) (C := RX5) (T := TX5) (N := 7) hx hb htg ig_5 hown hK hP 0 rfl rfl 5 (by decide) (htg _ q_174) (fun _ h9 => h9) rfl dX5_shorten_113 ?_
        refine lv_iload_n hx hb dX5_shorten_116 rfl (lv_at hl 0 rfl) ?_
        refine va_iald hx hb hK hP 4 0 rfl rfl hto dX5_shorten_117 ?_
        refine lv_aload_n hx hb dX5_shorten_118 rfl (lv_at hl 2 rfl) ?_
        refine va_get (D := D) (ci := 5) (v := .ref a0_price) (C := RX5) (T := TX5) (N := 7) hx hb htg ig_5 hown hK hP 0 rfl rfl 4 (by decide) (htg _ q_173) (fun _ h9 => h9) rfl dX5_shorten_119 ?_
        refine lv_iload_n hx hb dX5_shorten_122 rfl (lv_at hl 3 rfl) ?_
        refine va_iald hx hb hK hP 3 0 rfl rfl h0 dX5_shorten_123 ?_
        refine lv_iadd hx hb dX5_shorten_124 ?_
        refine va_iast hx hb hK hP hD hS 4 0 rfl rfl hfr dX5_shorten_125 (fun H locs hP hD hS => ?_)
        replace hP : va_P D vwCl [(a0, .inr (5, [.ref a0_land, .ref a0_pack, .ref a0_props, .ref a0_propCoin, .ref a0_price, .ref a0_far, .ref a0_walked])), (a0_land, .inr (0, [.ref a0_land_counts, .ref a0_land_roads, .ref a0_land_bridges, .ref a0_land_waggons, .ref a0_land_parts, .ref a0_land_settings, .ref a0_land_trip, .int v_ow])), (a0_land_roads, .inl (E 0, 168, .inl fr)), (a0_price, .inl (E 0, 24, .inl g_price)), (a0_far, .inl (E 0, 16, .inl (upd g_far ((fr ((v_r * 7) + 0).toNatClampNeg).toNatClampNeg) ((g_far (fr ((v_r * 7) + 1).toNatClampNeg).toNatClampNeg) + (g_price (v_r).toNatClampNeg)))))] H := hP
        replace hD : va_D A [(a0, .inr (5, [.ref a0_land, .ref a0_pack, .ref a0_props, .ref a0_propCoin, .ref a0_price, .ref a0_far, .ref a0_walked])), (a0_land, .inr (0, [.ref a0_land_counts, .ref a0_land_roads, .ref a0_land_bridges, .ref a0_land_waggons, .ref a0_land_parts, .ref a0_land_settings, .ref a0_land_trip, .int v_ow])), (a0_land_roads, .inl (E 0, 168, .inl fr)), (a0_price, .inl (E 0, 24, .inl g_price)), (a0_far, .inl (E 0, 16, .inl (upd g_far ((fr ((v_r * 7) + 0).toNatClampNeg).toNatClampNeg) ((g_far (fr ((v_r * 7) + 1).toNatClampNeg).toNatClampNeg) + (g_price (v_r).toNatClampNeg)))))] := hD
        refine lv_iconst (v := 1) hx hb dX5_shorten_126 (by decide) ?_
        refine W.widen (k := 0) (n := 0) (Nat.le_of_ble_eq_true rfl) (Nat.le_of_ble_eq_true rfl) ?_
        exact W.zret (v := 1) (ty := .boolean) hx hb hr (by decide) (fun t ht hW => ⟨⟨1, (upd g_far ((fr ((v_r * 7) + 0).toNatClampNeg).toNatClampNeg) ((g_far (fr ((v_r * 7) + 1).toNatClampNeg).toNatClampNeg) + (g_price (v_r).toNatClampNeg))), rfl, by unfold fX5_shorten; rw [if_pos c_1, if_neg c_2, if_neg c_3], ⟨by rw [ht]; exact hP.sub [0, 1, 2, 3, 4] rfl, hD.sub [0, 1, 2, 3, 4] (by decide) rfl⟩⟩, hS.F ht⟩) hS.2.2 dX5_shorten_127
  · refine lv_aload_n hx hb dX5_shorten_31 rfl (lv_at hl 2 rfl) ?_
    refine va_get (D := D) (ci := 5) (v := .ref a0_far) (C := RX5) (T := TX5) (N := 7) hx hb htg ig_5 hown hK hP 0 rfl rfl 5 (by decide) (htg _ q_174) (fun _ h9 => h9) rfl dX5_shorten_32 ?_
    refine lv_iload_n hx hb dX5_shorten_35 rfl (lv_at hl 1 rfl) ?_
    refine va_iald hx hb hK hP 4 0 rfl rfl hfr dX5_shorten_36 ?_
    refine lv_aload_n hx hb dX5_shorten_37 rfl (lv_at hl 2 rfl) ?_
    refine va_get (D := D) (ci := 5) (v := .ref a0_price) (C := RX5) (T := TX5) (N := 7) hx hb htg ig_5 hown hK hP 0 rfl rfl 4 (by decide) (htg _ q_173) (fun _ h9 => h9) rfl dX5_shorten_38 ?_
    refine lv_iload_n hx hb dX5_shorten_41 rfl (lv_at hl 3 rfl) ?_
    refine va_iald hx hb hK hP 3 0 rfl rfl h0 dX5_shorten_42 ?_
    refine lv_iadd hx hb dX5_shorten_43 ?_
    refine lv_aload_n hx hb dX5_shorten_44 rfl (lv_at hl 2 rfl) ?_
    refine va_get (D := D) (ci := 5) (v := .ref a0_far) (C := RX5) (T := TX5) (N := 7) hx hb htg ig_5 hown hK hP 0 rfl rfl 5 (by decide) (htg _ q_174) (fun _ h9 => h9) rfl dX5_shorten_45 ?_
    refine lv_iload_n hx hb dX5_shorten_48 rfl (lv_at hl 0 rfl) ?_
    refine va_iald hx hb hK hP 4 0 rfl rfl hto dX5_shorten_49 ?_
    refine lv_icmp_ge (tgt := 74) hx hb dX5_shorten_50 (by decide) (fun (c_4 : (g_far (fr ((v_r * 7) + 1).toNatClampNeg).toNatClampNeg) ≤ ((g_far (fr ((v_r * 7) + 0).toNatClampNeg).toNatClampNeg) + (g_price (v_r).toNatClampNeg))) => ?_) (fun (c_4 : ¬ ((g_far (fr ((v_r * 7) + 1).toNatClampNeg).toNatClampNeg) ≤ ((g_far (fr ((v_r * 7) + 0).toNatClampNeg).toNatClampNeg) + (g_price (v_r).toNatClampNeg)))) => ?_)
    · refine lv_aload_n hx hb dX5_shorten_74 rfl (lv_at hl 2 rfl) ?_
      refine va_get (D := D) (ci := 5) (v := .ref a0_far) (C := RX5) (T := TX5) (N := 7) hx hb htg ig_5 hown hK hP 0 rfl rfl 5 (by decide) (htg _ q_174) (fun _ h9 => h9) rfl dX5_shorten_75 ?_
      refine lv_iload_n hx hb dX5_shorten_78 rfl (lv_at hl 0 rfl) ?_
      refine va_iald hx hb hK hP 4 0 rfl rfl hto dX5_shorten_79 ?_
      refine lv_ldc (v := 1000000000) hx hb hown (htg _ q_794) dX5_shorten_80 ?_
      refine lv_icmp_eq (tgt := 128) hx hb dX5_shorten_82 (by decide) (fun (c_5 : (g_far (fr ((v_r * 7) + 1).toNatClampNeg).toNatClampNeg) = 1000000000) => ?_) (fun (c_5 : ¬ ((g_far (fr ((v_r * 7) + 1).toNatClampNeg).toNatClampNeg) = 1000000000)) => ?_)
      · refine lv_iconst (v := 0) hx hb dX5_shorten_128 (by decide) ?_
        refine W.widen (k := 0) (n := 0) (Nat.le_of_ble_eq_true rfl) (Nat.le_of_ble_eq_true rfl) ?_
        exact W.zret (v := 0) (ty := .boolean) hx hb hr (by decide) (fun t ht hW => ⟨⟨0, g_far, rfl, by unfold fX5_shorten; rw [if_neg c_1, if_pos c_4, if_pos c_5], ⟨by rw [ht]; exact hP.sub [0, 1, 2, 3, 4] rfl, hD.sub [0, 1, 2, 3, 4] (by decide) rfl⟩⟩, hS.F ht⟩) hS.2.2 dX5_shorten_129
      · refine lv_aload_n hx hb dX5_shorten_85 rfl (lv_at hl 2 rfl) ?_
        refine va_get (D := D) (ci := 5) (v := .ref a0_far) (C := RX5) (T := TX5) (N := 7) hx hb htg ig_5 hown hK hP 0 rfl rfl 5 (by decide) (htg _ q_174) (fun _ h9 => h9) rfl dX5_shorten_86 ?_
        refine lv_iload_n hx hb dX5_shorten_89 rfl (lv_at hl 0 rfl) ?_
        refine va_iald hx hb hK hP 4 0 rfl rfl hto dX5_shorten_90 ?_
        refine lv_aload_n hx hb dX5_shorten_91 rfl (lv_at hl 2 rfl) ?_
        refine va_get (D := D) (ci := 5) (v := .ref a0_price) (C := RX5) (T := TX5) (N := 7) hx hb htg ig_5 hown hK hP 0 rfl rfl 4 (by decide) (htg _ q_173) (fun _ h9 => h9) rfl dX5_shorten_92 ?_
        refine lv_iload_n hx hb dX5_shorten_95 rfl (lv_at hl 3 rfl) ?_
        refine va_iald hx hb hK hP 3 0 rfl rfl h0 dX5_shorten_96 ?_
        refine lv_iadd hx hb dX5_shorten_97 ?_
        refine lv_aload_n hx hb dX5_shorten_98 rfl (lv_at hl 2 rfl) ?_
        refine va_get (D := D) (ci := 5) (v := .ref a0_far) (C := RX5) (T := TX5) (N := 7) hx hb htg ig_5 hown hK hP 0 rfl rfl 5 (by decide) (htg _ q_174) (fun _ h9 => h9) rfl dX5_shorten_99 ?_
        refine lv_iload_n hx hb dX5_shorten_102 rfl (lv_at hl 1 rfl) ?_
        refine va_iald hx hb hK hP 4 0 rfl rfl hfr dX5_shorten_103 ?_
        refine lv_icmp_ge (tgt := 128) hx hb dX5_shorten_104 (by decide) (fun (c_6 : (g_far (fr ((v_r * 7) + 0).toNatClampNeg).toNatClampNeg) ≤ ((g_far (fr ((v_r * 7) + 1).toNatClampNeg).toNatClampNeg) + (g_price (v_r).toNatClampNeg))) => ?_) (fun (c_6 : ¬ ((g_far (fr ((v_r * 7) + 0).toNatClampNeg).toNatClampNeg) ≤ ((g_far (fr ((v_r * 7) + 1).toNatClampNeg).toNatClampNeg) + (g_price (v_r).toNatClampNeg)))) => ?_)
        · refine lv_iconst (v := 0) hx hb dX5_shorten_128 (by decide) ?_
          refine W.widen (k := 0) (n := 0) (Nat.le_of_ble_eq_true rfl) (Nat.le_of_ble_eq_true rfl) ?_
          exact W.zret (v := 0) (ty := .boolean) hx hb hr (by decide) (fun t ht hW => ⟨⟨0, g_far, rfl, by unfold fX5_shorten; rw [if_neg c_1, if_pos c_4, if_neg c_5, if_pos c_6], ⟨by rw [ht]; exact hP.sub [0, 1, 2, 3, 4] rfl, hD.sub [0, 1, 2, 3, 4] (by decide) rfl⟩⟩, hS.F ht⟩) hS.2.2 dX5_shorten_129
        · refine lv_aload_n hx hb dX5_shorten_107 rfl (lv_at hl 2 rfl) ?_
          refine va_get (D := D) (ci := 5) (v := .ref a0_far) (C := RX5) (T := TX5) (N := 7) hx hb htg ig_5 hown hK hP 0 rfl rfl 5 (by decide) (htg _ q_174) (fun _ h9 => h9) rfl dX5_shorten_108 ?_
          refine lv_iload_n hx hb dX5_shorten_111 rfl (lv_at hl 1 rfl) ?_
          refine lv_aload_n hx hb dX5_shorten_112 rfl (lv_at hl 2 rfl) ?_
          refine va_get (D := D) (ci := 5) (v := .ref a0_far) (C := RX5) (T := TX5) (N := 7) hx hb htg ig_5 hown hK hP 0 rfl rfl 5 (by decide) (htg _ q_174) (fun _ h9 => h9) rfl dX5_shorten_113 ?_
          refine lv_iload_n hx hb dX5_shorten_116 rfl (lv_at hl 0 rfl) ?_
          refine va_iald hx hb hK hP 4 0 rfl rfl hto dX5_shorten_117 ?_
          refine lv_aload_n hx hb dX5_shorten_118 rfl (lv_at hl 2 rfl) ?_
          refine va_get (D := D) (ci := 5) (v := .ref a0_price) (C := RX5) (T := TX5) (N := 7) hx hb htg ig_5 hown hK hP 0 rfl rfl 4 (by decide) (htg _ q_173) (fun _ h9 => h9) rfl dX5_shorten_119 ?_
          refine lv_iload_n hx hb dX5_shorten_122 rfl (lv_at hl 3 rfl) ?_
          refine va_iald hx hb hK hP 3 0 rfl rfl h0 dX5_shorten_123 ?_
          refine lv_iadd hx hb dX5_shorten_124 ?_
          refine va_iast hx hb hK hP hD hS 4 0 rfl rfl hfr dX5_shorten_125 (fun H locs hP hD hS => ?_)
          replace hP : va_P D vwCl [(a0, .inr (5, [.ref a0_land, .ref a0_pack, .ref a0_props, .ref a0_propCoin, .ref a0_price, .ref a0_far, .ref a0_walked])), (a0_land, .inr (0, [.ref a0_land_counts, .ref a0_land_roads, .ref a0_land_bridges, .ref a0_land_waggons, .ref a0_land_parts, .ref a0_land_settings, .ref a0_land_trip, .int v_ow])), (a0_land_roads, .inl (E 0, 168, .inl fr)), (a0_price, .inl (E 0, 24, .inl g_price)), (a0_far, .inl (E 0, 16, .inl (upd g_far ((fr ((v_r * 7) + 0).toNatClampNeg).toNatClampNeg) ((g_far (fr ((v_r * 7) + 1).toNatClampNeg).toNatClampNeg) + (g_price (v_r).toNatClampNeg)))))] H := hP
          replace hD : va_D A [(a0, .inr (5, [.ref a0_land, .ref a0_pack, .ref a0_props, .ref a0_propCoin, .ref a0_price, .ref a0_far, .ref a0_walked])), (a0_land, .inr (0, [.ref a0_land_counts, .ref a0_land_roads, .ref a0_land_bridges, .ref a0_land_waggons, .ref a0_land_parts, .ref a0_land_settings, .ref a0_land_trip, .int v_ow])), (a0_land_roads, .inl (E 0, 168, .inl fr)), (a0_price, .inl (E 0, 24, .inl g_price)), (a0_far, .inl (E 0, 16, .inl (upd g_far ((fr ((v_r * 7) + 0).toNatClampNeg).toNatClampNeg) ((g_far (fr ((v_r * 7) + 1).toNatClampNeg).toNatClampNeg) + (g_price (v_r).toNatClampNeg)))))] := hD
          refine lv_iconst (v := 1) hx hb dX5_shorten_126 (by decide) ?_
          refine W.widen (k := 0) (n := 0) (Nat.le_of_ble_eq_true rfl) (Nat.le_of_ble_eq_true rfl) ?_
          exact W.zret (v := 1) (ty := .boolean) hx hb hr (by decide) (fun t ht hW => ⟨⟨1, (upd g_far ((fr ((v_r * 7) + 0).toNatClampNeg).toNatClampNeg) ((g_far (fr ((v_r * 7) + 1).toNatClampNeg).toNatClampNeg) + (g_price (v_r).toNatClampNeg))), rfl, by unfold fX5_shorten; rw [if_neg c_1, if_pos c_4, if_neg c_5, if_neg c_6], ⟨by rw [ht]; exact hP.sub [0, 1, 2, 3, 4] rfl, hD.sub [0, 1, 2, 3, 4] (by decide) rfl⟩⟩, hS.F ht⟩) hS.2.2 dX5_shorten_127
    · refine lv_aload_n hx hb dX5_shorten_53 rfl (lv_at hl 2 rfl) ?_
      refine va_get (D := D) (ci := 5) (v := .ref a0_far) (C := RX5) (T := TX5) (N := 7) hx hb htg ig_5 hown hK hP 0 rfl rfl 5 (by decide) (htg _ q_174) (fun _ h9 => h9) rfl dX5_shorten_54 ?_
      refine lv_iload_n hx hb dX5_shorten_57 rfl (lv_at hl 0 rfl) ?_
      refine lv_aload_n hx hb dX5_shorten_58 rfl (lv_at hl 2 rfl) ?_
      refine va_get (D := D) (ci := 5) (v := .ref a0_far) (C := RX5) (T := TX5) (N := 7) hx hb htg ig_5 hown hK hP 0 rfl rfl 5 (by decide) (htg _ q_174) (fun _ h9 => h9) rfl dX5_shorten_59 ?_
      refine lv_iload_n hx hb dX5_shorten_62 rfl (lv_at hl 1 rfl) ?_
      refine va_iald hx hb hK hP 4 0 rfl rfl hfr dX5_shorten_63 ?_
      refine lv_aload_n hx hb dX5_shorten_64 rfl (lv_at hl 2 rfl) ?_
      refine va_get (D := D) (ci := 5) (v := .ref a0_price) (C := RX5) (T := TX5) (N := 7) hx hb htg ig_5 hown hK hP 0 rfl rfl 4 (by decide) (htg _ q_173) (fun _ h9 => h9) rfl dX5_shorten_65 ?_
      refine lv_iload_n hx hb dX5_shorten_68 rfl (lv_at hl 3 rfl) ?_
      refine va_iald hx hb hK hP 3 0 rfl rfl h0 dX5_shorten_69 ?_
      refine lv_iadd hx hb dX5_shorten_70 ?_
      refine va_iast hx hb hK hP hD hS 4 0 rfl rfl hto dX5_shorten_71 (fun H locs hP hD hS => ?_)
      replace hP : va_P D vwCl [(a0, .inr (5, [.ref a0_land, .ref a0_pack, .ref a0_props, .ref a0_propCoin, .ref a0_price, .ref a0_far, .ref a0_walked])), (a0_land, .inr (0, [.ref a0_land_counts, .ref a0_land_roads, .ref a0_land_bridges, .ref a0_land_waggons, .ref a0_land_parts, .ref a0_land_settings, .ref a0_land_trip, .int v_ow])), (a0_land_roads, .inl (E 0, 168, .inl fr)), (a0_price, .inl (E 0, 24, .inl g_price)), (a0_far, .inl (E 0, 16, .inl (upd g_far ((fr ((v_r * 7) + 1).toNatClampNeg).toNatClampNeg) ((g_far (fr ((v_r * 7) + 0).toNatClampNeg).toNatClampNeg) + (g_price (v_r).toNatClampNeg)))))] H := hP
      replace hD : va_D A [(a0, .inr (5, [.ref a0_land, .ref a0_pack, .ref a0_props, .ref a0_propCoin, .ref a0_price, .ref a0_far, .ref a0_walked])), (a0_land, .inr (0, [.ref a0_land_counts, .ref a0_land_roads, .ref a0_land_bridges, .ref a0_land_waggons, .ref a0_land_parts, .ref a0_land_settings, .ref a0_land_trip, .int v_ow])), (a0_land_roads, .inl (E 0, 168, .inl fr)), (a0_price, .inl (E 0, 24, .inl g_price)), (a0_far, .inl (E 0, 16, .inl (upd g_far ((fr ((v_r * 7) + 1).toNatClampNeg).toNatClampNeg) ((g_far (fr ((v_r * 7) + 0).toNatClampNeg).toNatClampNeg) + (g_price (v_r).toNatClampNeg)))))] := hD
      refine lv_iconst (v := 1) hx hb dX5_shorten_72 (by decide) ?_
      refine W.widen (k := 0) (n := 0) (Nat.le_of_ble_eq_true rfl) (Nat.le_of_ble_eq_true rfl) ?_
      exact W.zret (v := 1) (ty := .boolean) hx hb hr (by decide) (fun t ht hW => ⟨⟨1, (upd g_far ((fr ((v_r * 7) + 1).toNatClampNeg).toNatClampNeg) ((g_far (fr ((v_r * 7) + 0).toNatClampNeg).toNatClampNeg) + (g_price (v_r).toNatClampNeg))), rfl, by unfold fX5_shorten; rw [if_neg c_1, if_neg c_4], ⟨by rw [ht]; exact hP.sub [0, 1, 2, 3, 4] rfl, hD.sub [0, 1, 2, 3, 4] (by decide) rfl⟩⟩, hS.F ht⟩) hS.2.2 dX5_shorten_73
