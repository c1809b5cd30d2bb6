/-- the parishes of a told way are of sixteen bits -/
theorem tw_16 {A : LA} (ho : okA A) {w t : Int32} {e : Nat → Int64} {f : Int32} : ∀ n g, twI A w t e f n g → ∃ k, k < 65536 ∧ g 2 = nI k := by
  intro n
  induction n with
  | zero =>
    intro g h
    exact ⟨0, by decide, h.2.2.1⟩
  | succ n ih =>
    intro g h
    obtain ⟨g', h1, h2, h3⟩ := h
    obtain ⟨k, hk, e2⟩ := ih g' h1
    obtain ⟨i3, hr3⟩ := n_of ho.1.1 h2.1.1 h2.1.2
    have hp := (ho.2.2.1 _ (ho.n0 (n0_lt i3 hr3))).2.2.2.2.2.1
    have hq := oh_nat hp (by decide)
    have hq2 := hp.2
    refine ⟨k ||| 2 ^ (A 0 (Int64.toInt32 (e n)).toNatClampNeg 5).toNatClampNeg, Nat.or_lt_two_pow (n := 16) hk (Nat.pow_lt_pow_right (by decide) (by omega)), ?_⟩
    rw [h3.2.2.1, e2, ← nq_or, ← sh_n _ (by omega)]
    rw [show nI (A 0 (Int64.toInt32 (e n)).toNatClampNeg 5).toNatClampNeg = A 0 (Int64.toInt32 (e n)).toNatClampNeg 5 from oh_ofc hp (by decide)]
/-- what told() answers of a way -/
def toR (A : LA) (w t : Int32) (e : Nat → Int64) (f : Int32) (n : Nat) (x r : Int32) : Prop := (r = -5 ∧ ∀ g, ¬ twI A w t e f n g) ∨ ∃ g, twI A w t e f n g ∧ ((x = 0 ∧ r = g 0) ∨ (x = 1 ∧ r = g 1) ∨ (x = 2 ∧ r = bcF (g 2)) ∨ (x = 3 ∧ r = g 3))
theorem toR_u {A : LA} {w t : Int32} {e : Nat → Int64} {f : Int32} {n : Nat} {x : Int32} (a b : Int32) (h : toR A w t e f n x a) (k : toR A w t e f n x b) : a = b := by
  rcases h with ⟨h1, h2⟩ | ⟨g, h1, h2⟩
  · rcases k with ⟨k1, k2⟩ | ⟨g2, k1, k2⟩
    · rw [h1, k1]
    · exact absurd k1 (h2 g2)
  · rcases k with ⟨k1, k2⟩ | ⟨g2, k1, k2⟩
    · exact absurd h1 (k2 g)
    · obtain ⟨u0, u1, u2, u3⟩ := twI_u n g g2 h1 k1
      rcases h2 with ⟨p, q⟩ | ⟨p, q⟩ | ⟨p, q⟩ | ⟨p, q⟩
      all_goals
        rcases k2 with ⟨p2, q2⟩ | ⟨p2, q2⟩ | ⟨p2, q2⟩ | ⟨p2, q2⟩
      all_goals first
        | (rw [q, q2, u0]; done)
        | (rw [q, q2, u1]; done)
        | (rw [q, q2, u2]; done)
        | (rw [q, q2, u3]; done)
        | exact absurd (Eq.trans p.symm p2) (by decide)
theorem to_n {A : LA} {w t : Int32} {e : Nat → Int64} {f : Int32} {n : Nat} {x r r2 : Int32} (h : twR A w t e f n r) (c : ¬ r = -1) (er : r2 = -5) : toR A w t e f n x r2 := by
  rcases h with ⟨h1, _⟩ | ⟨i, hi, _, g, h2, h3⟩
  · exact absurd h1 c
  · exact Or.inl ⟨er, fun g2 h4 => h3 (twI_ok h4 hi h2)⟩
noncomputable def spTold (A : LA) (S : HZ) (Z : EZ) (w t f s n x : Int32) : Int32 := pif (0 ≤ x ∧ x ≤ 3) (pif (wnT A S w t f s n = 0) (spOt (toR A w t (Z s.toNatClampNeg) f n.toNatClampNeg x)) (wnT A S w t f s n)) (-2)
theorem x03 {x : Int32} (h : 0 ≤ x ∧ x ≤ 3) : x = 0 ∨ x = 1 ∨ x = 2 ∨ x = 3 := by
  have a := Int32.le_iff_toInt_le.mp h.1
  have b := Int32.le_iff_toInt_le.mp h.2
  have e0 : (0 : Int32).toInt = 0 := rfl
  have e3 : (3 : Int32).toInt = 3 := rfl
  rcases (show x.toInt = 0 ∨ x.toInt = 1 ∨ x.toInt = 2 ∨ x.toInt = 3 by omega) with q | q | q | q
  · exact Or.inl (Int32.toInt_inj.mp q)
  · exact Or.inr (Or.inl (Int32.toInt_inj.mp q))
  · exact Or.inr (Or.inr (Or.inl (Int32.toInt_inj.mp q)))
  · exact Or.inr (Or.inr (Or.inr (Int32.toInt_inj.mp q)))
theorem to_y {A : LA} {w t : Int32} {e : Nat → Int64} {f : Int32} {n : Nat} {x : Int32} {g : Nat → Int32} (h : twI A w t e f n g) (hx : 0 ≤ x ∧ x ≤ 3) (c : ¬ x = 2) : toR A w t e f n x (g x.toNatClampNeg) := by
  rcases x03 hx with q | q | q | q
  · exact Or.inr ⟨g, h, Or.inl ⟨q, by rw [q]; rfl⟩⟩
  · exact Or.inr ⟨g, h, Or.inr (Or.inl ⟨q, by rw [q]; rfl⟩)⟩
  · exact absurd q c
  · exact Or.inr ⟨g, h, Or.inr (Or.inr (Or.inr ⟨q, by rw [q]; rfl⟩))⟩
/-- the reference's sums along a told way -/
def tsI (A : LA) (w t : Int32) (e : Nat → Int64) (f x : Int32) (k : Nat) (su pa : Int32) : Prop := ∃ g, twI A w t e f k g ∧ (x = 0 → su = g 0) ∧ (¬ x = 0 → su = g 1) ∧ pa = g 2
theorem ts_0 {A : LA} {w t : Int32} {e : Nat → Int64} {f x : Int32} : tsI A w t e f x 0 0 0 := ⟨fun j => if j = 3 then f else 0, tw_0 rfl rfl rfl rfl, fun _ => rfl, fun _ => rfl, rfl⟩
theorem ts_s {A : LA} {w t : Int32} {e : Nat → Int64} {f x z su pa v p : Int32} {n : Nat} {gN : Nat → Int32} (hN : twI A w t e f n gN) (hz : rg z 0 31) (hn : z.toNatClampNeg < n) (h : tsI A w t e f x z.toNatClampNeg su pa) (h0 : x = 0 → v = coA A w t 1 (Int64.toInt32 (e z.toNatClampNeg)).toNatClampNeg) (h1 : ¬ x = 0 → v = dyA A w t (Int64.toInt32 (e z.toNatClampNeg)).toNatClampNeg) (hp : p = (1 : Int32) <<< (A 0 (Int64.toInt32 (e z.toNatClampNeg)).toNatClampNeg 5 &&& 31)) : tsI A w t e f x (z + 1).toNatClampNeg (su + v) (pa ||| p) := by
  obtain ⟨g, k1, k2, k3, k4⟩ := h
  refine ⟨nxG A w t (Int64.toInt32 (e z.toNatClampNeg)) g, tw_s hz k1 (twI_ok hN hn k1) nxG_p, fun q => ?_, fun q => ?_, ?_⟩
  · rw [k2 q, h0 q]
    rfl
  · rw [k3 q, h1 q]
    rfl
  · rw [k4, hp]
    rfl
theorem ts_e {A : LA} (ho : okA A) {w t : Int32} {e : Nat → Int64} {f x su pa te r : Int32} {n : Nat} {gN : Nat → Int32} (hN : twI A w t e f n gN) (ht : te = gN 3) (h : tsI A w t e f x n su pa) (hx : 0 ≤ x ∧ x ≤ 3) (hr : (x = 3 ∧ r = te) ∨ (x = 2 ∧ r = btI pa 16) ∨ (¬ x = 3 ∧ ¬ x = 2 ∧ r = su)) : toR A w t e f n x r := by
  obtain ⟨g, k1, k2, k3, k4⟩ := h
  rcases hr with ⟨p, q⟩ | ⟨p, q⟩ | ⟨p, o, q⟩
  · exact Or.inr ⟨gN, hN, Or.inr (Or.inr (Or.inr ⟨p, by rw [q, ht]⟩))⟩
  · obtain ⟨k, hk, e2⟩ := tw_16 ho n g k1
    exact Or.inr ⟨g, k1, Or.inr (Or.inr (Or.inl ⟨p, by rw [q, k4, e2, bc_bt hk]⟩))⟩
  · rcases x03 hx with c | c | c | c
    · exact Or.inr ⟨g, k1, Or.inl ⟨c, by rw [q, k2 c]⟩⟩
    · exact Or.inr ⟨g, k1, Or.inr (Or.inl ⟨c, by rw [q, k3 (by rw [c]; decide)]⟩)⟩
    · exact absurd c o
    · exact absurd c p

set_option maxHeartbeats 4000000 in
set_option maxRecDepth 100000 in
theorem e_X6_told (l : Launch) (D : va_G) (E : Nat → ClassId) (G : Nat → Nat) (sz : Nat) (a : Nat → Nat) (C : Nat → va_E) (hT : TyX a E C) (x1 : Int32) (x2 : Int32) (x3 : Int32) (x4 : Int32) (x5 : Int32) (x6 : Int32) : Met l yX6_told (oh_w yX6_told cX6_told 8 (some .int)) ({ frames := 5, cells := 0, slots := 0, locals := 113 }) (oh_Pm D E G [.ref (a 0), .int x1, .int x2, .int x3, .int x4, .int x5, .int x6] (oh_W 35 a C) sz) (va_Qi (fun r (u : Nat → va_E) => TyX a E u ∧ fr [(7, 8), (9, 10), (24, 26), (28, 29)] [] C u ∧ (∀ (A : LA) (S : HZ) (Z : EZ), absX 10 C A → okA A → absHX C S → absEX C S Z → r = spTold A S Z x1 x2 x3 x4 x5 x6)) (oh_B D (va_A (oh_W 35 a C) sz) (fun u => oh_W 35 a u)) (va_A (oh_W 35 a C) sz)) 0 0 (va_A (oh_W 35 a C) sz) := by
  refine Met.ofW (cc := cX6_told) (maxL := 8) (ret := (some .int)) (by decide) rfl ?_
  intro p e s m args below meth c s₁ B hml hv
  obtain ⟨rfl, hsz, hP, hK, hD0, hG⟩ := hv
  have hx := B.exec
  have hb := B.bytes
  have hr := B.returns
  have hts := atoms_spec (ws := (oh_w yX6_told cX6_told 8 (some .int))) B.pre
  have htg : ∀ w ∈ oh_t, w.before _ s = true := fun w h => hts w (List.mem_cons_of_mem _ h)
  have hown : s.vm.findClass RX6 = some m.cls := findClass_of_methodNamed B.named
  have hlocks := B.notSynchronized
  have hT0 := hT
  subst hsz
  have hD := hD0.self (sz := s.heap.size)
  generalize hAe : va_A (oh_W 35 a C) s.heap.size = A at hD hG ⊢
  have hA : ∀ q : Nat, s.heap.size ≤ q → A q := fun q h => by rw [← hAe]; exact Or.inr h
  have hS : va_S A s.heap s.heap [] := va_S.rf
  have hF : fr [(7, 8), (9, 10), (24, 26), (28, 29)] [] C C := fr_rf
  have hl := lv_entry ([.ref (a 0), .int x1, .int x2, .int x3, .int x4, .int x5, .int x6]) (n := 8) (Nat.le_of_ble_eq_true rfl)
  rw [lg_entry_eq]
  generalize (lg_sl ([.ref (a 0), .int x1, .int x2, .int x3, .int x4, .int x5, .int x6]) ++ List.replicate (8 - (lg_sl ([.ref (a 0), .int x1, .int x2, .int x3, .int x4, .int x5, .int x6])).length) Slot.unset).toArray = ls at hl ⊢
  have hl : lv_has ls 8 [(0, .ref (a 0)), (1, .int x1), (2, .int x2), (3, .int x3), (4, .int x4), (5, .int x5), (6, .int x6)] := hl
  refine oh_genQ (fun Q hQ => ?_)
  refine lv_iload hx hb dX6_told_0 (lv_at hl 6 rfl) ?_
  refine lv_iconst (v := 0) hx hb dX6_told_2 (by decide) ?_
  refine lv_iconst (v := 3) hx hb dX6_told_3 (by decide) ?_
  refine tq_S (As := [.int x6, .int 0, .int 3]) (rest := []) (ws := []) ⟨hx, hb, hml, hown, htg⟩ (c_X6_within l D E G x6 (0 : Int32) (3 : Int32)) (va_cwS 3 htg (oh_gS q_293 q_294 q_66 q_295) rfl rfl rfl pdX6_within ⟨Nat.le_of_ble_eq_true rfl, Nat.le_of_ble_eq_true rfl⟩) hK va_nil hG hS rfl hl.1 rfl (Nat.le_of_ble_eq_true rfl) dX6_told_4 ⟨Nat.le_of_ble_eq_true rfl, Nat.le_of_ble_eq_true rfl⟩ (fun r_1 hq_2 => ?_)
  refine lv_if_eq (tgt := 24) hx hb dX6_told_7 (by decide) (fun (c_3 : r_1 = 0) => ?_) (fun (c_3 : ¬ (r_1 = 0)) => ?_)
  · have u_4 := hq_2.2.2 c_3
    refine lv_bipush (v := (-2)) hx hb dX6_told_24 (by decide) ?_
    refine lv_istore (lv' := [(7, .int (-2)), (0, .ref (a 0)), (1, .int x1), (2, .int x2), (3, .int x3), (4, .int x4), (5, .int x5), (6, .int x6)]) hx hb dX6_told_26 hl (by decide) rfl (fun ls hl => ?_)
    refine lv_iload hx hb dX6_told_28 (lv_at hl 0 rfl) ?_
    refine lv_if_eq (tgt := 40) hx hb dX6_told_30 (by decide) (fun c => absurd c (show ¬ (((-2) : Int32) = 0) from by decide)) (fun _ => ?_)
    refine lv_aload_n hx hb dX6_told_33 rfl (lv_at hl 1 rfl) ?_
    refine lv_iload hx hb dX6_told_34 (lv_at hl 0 rfl) ?_
    refine tm_V (As := [.int (-2)]) (rest := []) ⟨hx, hb, hml, hown, htg⟩ (c_X6_refuse l D E G _ a C hT ((-2) : Int32)) (cwV 1 htg (oh_gV q_296 q_298 q_0 q_66 q_299) rfl rfl rfl pdVX6_refuse ⟨Nat.le_of_ble_eq_true rfl, Nat.le_of_ble_eq_true rfl⟩) hK hP hD hG hS hA (va_recv hK hP (ci := 6) (q0 := 0) rfl (oh_wg (by decide) (sX_0 hT))) rfl hl.1 rfl (Nat.le_of_ble_eq_true rfl) dX6_told_36 ⟨Nat.le_of_ble_eq_true rfl, Nat.le_of_ble_eq_true rfl⟩ (fun r_5 C_6 H locs hq_7 hP hD hS => ?_)
    obtain ⟨hT, f_8, hq_7⟩ := hq_7
    have hF := fr_tr hF f_8 (by decide) (by decide)
    refine W.widen (k := 0) (n := 0) (Nat.le_refl _) (Nat.le_refl _) ?_
    have t_9 := hT
    rw [hQ]
    exact W.iret (v := r_5) hx hb hr (fun t ht hW => ⟨⟨r_5, C_6, rfl, ⟨hT, hF, (fun A S Z hA hok hS0 hE => Eq.trans hq_7 (pif_neg u_4).symm)⟩, ⟨by rw [ht]; exact hP, hD⟩⟩, hS.F ht⟩) hS.2.2 dX6_told_39
  · have u_10 := hq_2.2.1 c_3
    refine lv_aload_n hx hb dX6_told_10 rfl (lv_at hl 0 rfl) ?_
    refine lv_iload_n hx hb dX6_told_11 rfl (lv_at hl 1 rfl) ?_
    refine lv_iload_n hx hb dX6_told_12 rfl (lv_at hl 2 rfl) ?_
    refine lv_iload_n hx hb dX6_told_13 rfl (lv_at hl 3 rfl) ?_
    refine lv_iload hx hb dX6_told_14 (lv_at hl 4 rfl) ?_
    refine lv_iload hx hb dX6_told_16 (lv_at hl 5 rfl) ?_
    refine tq_V (As := [.int x1, .int x2, .int x3, .int x4, .int x5]) (rest := []) (ws := (oh_W 35 a C)) ⟨hx, hb, hml, hown, htg⟩ (e_X6_whyNotTold l D E G a C hT x1 x2 x3 x4 x5) (cwV 5 htg (oh_gV q_830 q_832 q_23 q_66 q_833) rfl rfl rfl pdVX6_whyNotTold ⟨Nat.le_of_ble_eq_true rfl, Nat.le_of_ble_eq_true rfl⟩) hK hP hG hS (va_recv hK hP (ci := 6) (q0 := 0) rfl (oh_wg (by decide) (sX_0 hT))) rfl hl.1 rfl (Nat.le_of_ble_eq_true rfl) dX6_told_18 ⟨Nat.le_of_ble_eq_true rfl, Nat.le_of_ble_eq_true rfl⟩ (fun r_11 hq_12 => ?_)
    refine lv_goto (tgt := 26) hx hb dX6_told_21 (by decide) ?_
    refine lv_istore (lv' := [(7, .int r_11), (0, .ref (a 0)), (1, .int x1), (2, .int x2), (3, .int x3), (4, .int x4), (5, .int x5), (6, .int x6)]) hx hb dX6_told_26 hl (by decide) rfl (fun ls hl => ?_)
    refine lv_iload hx hb dX6_told_28 (lv_at hl 0 rfl) ?_
    refine lv_if_eq (tgt := 40) hx hb dX6_told_30 (by decide) (fun (c_13 : r_11 = 0) => ?_) (fun (c_13 : ¬ (r_11 = 0)) => ?_)
    · have u_14 := hq_12.1 c_13
      refine lv_aload_n hx hb dX6_told_40 rfl (lv_at hl 1 rfl) ?_
      refine va_get (D := D) (ci := 6) (v := .ref (a 3)) (C := RX6) (T := TX6) (N := 9) hx hb htg ig_6 hown hK hP 0 (oh_wg (by decide) (sX_0 hT)) rfl 3 (by decide) (htg _ q_261) (fun _ h9 => h9) rfl dX6_told_41 ?_
      refine lv_iload_n hx hb dX6_told_44 rfl (lv_at hl 2 rfl) ?_
      refine lv_iload_n hx hb dX6_told_45 rfl (lv_at hl 3 rfl) ?_
      refine tm_Vv (As := [.int x1, .int x2]) (rest := []) ⟨hx, hb, hml, hown, htg⟩ (e_X5_survey l D E G _ a C hT x1 x2 (rg_w u_14.1 (by decide))) (cwV 2 htg (oh_gV q_750 q_751 q_752 q_68 q_753) rfl rfl rfl pdVX5_survey ⟨Nat.le_of_ble_eq_true rfl, Nat.le_of_ble_eq_true rfl⟩) hK hP hD hG hS hA (va_recv hK hP (ci := 5) (q0 := 3) rfl (oh_wg (by decide) (sX_3 hT))) rfl hl.1 rfl (Nat.le_of_ble_eq_true rfl) dX6_told_46 ⟨Nat.le_of_ble_eq_true rfl, Nat.le_of_ble_eq_true rfl⟩ (fun C_16 H locs hq_17 hP hD hS => ?_)
      obtain ⟨hT, f_18, hq_17⟩ := hq_17
      have hF := fr_tr hF f_18 (by decide) (by decide)
      refine W.widen (k := 0) (n := 0) (Nat.le_refl _) (Nat.le_refl _) ?_
      have t_19 := hT
      refine lv_aload_n hx hb dX6_told_49 rfl (lv_at hl 1 rfl) ?_
      refine lv_iload_n hx hb dX6_told_50 rfl (lv_at hl 4 rfl) ?_
      refine lv_iload hx hb dX6_told_51 (lv_at hl 5 rfl) ?_
      refine lv_iload hx hb dX6_told_53 (lv_at hl 6 rfl) ?_
      refine tm_V (As := [.int x3, .int x4, .int x5]) (rest := []) ⟨hx, hb, hml, hown, htg⟩ (e_X6_firstWrong l D E G _ a C_16 hT x3 x4 x5 (rg_w u_14.2.1 (by decide)) (rg_w u_14.2.2.1 (by decide)) (rg_w u_14.2.2.2 (by decide))) (cwV 3 htg (oh_gV q_834 q_836 q_24 q_66 q_837) rfl rfl rfl pdVX6_firstWrong ⟨Nat.le_of_ble_eq_true rfl, Nat.le_of_ble_eq_true rfl⟩) hK hP hD hG hS hA (va_recv hK hP (ci := 6) (q0 := 0) rfl (oh_wg (by decide) (sX_0 hT))) rfl hl.1 rfl (Nat.le_of_ble_eq_true rfl) dX6_told_55 ⟨Nat.le_of_ble_eq_true rfl, Nat.le_of_ble_eq_true rfl⟩ (fun r_20 C_21 H locs hq_22 hP hD hS => ?_)
      obtain ⟨hT, f_23, hq_22⟩ := hq_22
      have hF := fr_tr hF f_23 (by decide) (by decide)
      refine W.widen (k := 0) (n := 0) (Nat.le_refl _) (Nat.le_refl _) ?_
      have t_24 := hT
      refine lv_iconst (v := (-1)) hx hb dX6_told_58 (by decide) ?_
      refine lv_icmp_eq (tgt := 69) hx hb dX6_told_59 (by decide) (fun (c_25 : r_20 = (-1)) => ?_) (fun (c_25 : ¬ (r_20 = (-1))) => ?_)
      · refine lv_iload hx hb dX6_told_69 (lv_at hl 7 rfl) ?_
        refine lv_iconst (v := 2) hx hb dX6_told_71 (by decide) ?_
        refine lv_icmp_ne (tgt := 90) hx hb dX6_told_72 (by decide) (fun (c_26 : ¬ (x6 = 2)) => ?_) (fun (c_26 : x6 = 2) => ?_)
        · refine lv_aload_n hx hb dX6_told_90 rfl (lv_at hl 1 rfl) ?_
          refine va_get (D := D) (ci := 6) (v := .ref (a 3)) (C := RX6) (T := TX6) (N := 9) hx hb htg ig_6 hown hK hP 0 (oh_wg (by decide) (sX_0 hT)) rfl 3 (by decide) (htg _ q_261) (fun _ h9 => h9) rfl dX6_told_91 ?_
          refine va_get (D := D) (ci := 5) (v := .ref (a 28)) (C := RX5) (T := TX5) (N := 7) hx hb htg ig_5 hown hK hP 3 (oh_wg (by decide) (sX_3 hT)) rfl 6 (by decide) (htg _ q_176) (fun _ h9 => h9) rfl dX6_told_94 ?_
          refine lv_iload hx hb dX6_told_97 (lv_at hl 7 rfl) ?_
          have n_27 : vp_in x6 4 := (rg_in (rn_leu u_10.2 (rn_lel u_10.1 (rg_c (v := 0) (lo := 0) (hi := 0) (by decide)) (rg_any _)) (rg_c (v := 3) (lo := 3) (hi := 3) (by decide))) (by decide))
          refine th_iald hx hb hK hP 28 (by decide) (sX_28 hT) n_27 dX6_told_99 ?_
          rw [hQ]
          exact W.iret (v := ga (C_21 28) (x6).toNatClampNeg) hx hb hr (fun t ht hW => ⟨⟨ga (C_21 28) (x6).toNatClampNeg, C_21, rfl, ⟨hT, hF, (fun A S Z hA hok hS0 hE => by have w0 : wnT A S x1 x2 x3 x4 x5 = 0 := Eq.trans (Eq.symm (hq_12.2 A S hA hS0)) c_13; have hp := wn_0 w0; have k := hq_22 A x1 x2 S Z (absX_eq hA (fr_all f_18 10 15 (by decide))) hok (hq_17 A hA hp.1.1.1.2) (hx_fr hS0 (f_18.1 29 rfl (by decide)) (f_18.1 30 rfl (by decide))) (ex_eq hE (f_18.1 31 rfl (by decide))) hp.2.1 hp.2.2; exact Eq.trans (spOt_eq (to_y (k.2 c_25) (show 0 ≤ x6 ∧ x6 ≤ 3 from (oh_rgI (p := 0) (q := 3) (rg_w (lo := 0) (hi := 3) (rn_leu u_10.2 (rn_lel u_10.1 (rg_c (v := 0) (lo := 0) (hi := 0) (by decide)) (rg_any _)) (rg_c (v := 3) (lo := 3) (hi := 3) (by decide))) (by decide)))) c_26) toR_u) (Eq.trans (pif_pos (show 0 ≤ x6 ∧ x6 ≤ 3 from (oh_rgI (p := 0) (q := 3) (rg_w (lo := 0) (hi := 3) (rn_leu u_10.2 (rn_lel u_10.1 (rg_c (v := 0) (lo := 0) (hi := 0) (by decide)) (rg_any _)) (rg_c (v := 3) (lo := 3) (hi := 3) (by decide))) (by decide))))) (pif_pos w0)).symm)⟩, ⟨by rw [ht]; exact hP, hD⟩⟩, hS.F ht⟩) hS.2.2 dX6_told_100
        · refine lv_aload_n hx hb dX6_told_75 rfl (lv_at hl 1 rfl) ?_
          refine va_get (D := D) (ci := 6) (v := .ref (a 3)) (C := RX6) (T := TX6) (N := 9) hx hb htg ig_6 hown hK hP 0 (oh_wg (by decide) (sX_0 hT)) rfl 3 (by decide) (htg _ q_261) (fun _ h9 => h9) rfl dX6_told_76 ?_
          refine va_get (D := D) (ci := 5) (v := .ref (a 28)) (C := RX5) (T := TX5) (N := 7) hx hb htg ig_5 hown hK hP 3 (oh_wg (by decide) (sX_3 hT)) rfl 6 (by decide) (htg _ q_176) (fun _ h9 => h9) rfl dX6_told_79 ?_
          refine lv_iconst (v := 2) hx hb dX6_told_82 (by decide) ?_
          refine th_iald hx hb hK hP 28 (by decide) (sX_28 hT) (rg_in (rg_c (v := 2) (lo := 2) (hi := 2) (by decide)) (by decide)) dX6_told_83 ?_
          refine tq_S (As := [.int (ga (C_21 28) ((2 : Int32)).toNatClampNeg)]) (rest := []) (ws := []) ⟨hx, hb, hml, hown, htg⟩ (e_J6_bitCount l D E G (ga (C_21 28) ((2 : Int32)).toNatClampNeg)) (va_cwS 1 htg (oh_gS q_854 q_855 q_80 q_856) rfl rfl rfl pdJ6_bitCount_0f7a4 ⟨Nat.le_of_ble_eq_true rfl, Nat.le_of_ble_eq_true rfl⟩) hK va_nil hG hS rfl hl.1 rfl (Nat.le_of_ble_eq_true rfl) dX6_told_84 ⟨Nat.le_of_ble_eq_true rfl, Nat.le_of_ble_eq_true rfl⟩ (fun r_28 hq_29 => ?_)
          refine lv_goto (tgt := 100) hx hb dX6_told_87 (by decide) ?_
          rw [hQ]
          exact W.iret (v := r_28) hx hb hr (fun t ht hW => ⟨⟨r_28, C_21, rfl, ⟨hT, hF, (fun A S Z hA hok hS0 hE => by have w0 : wnT A S x1 x2 x3 x4 x5 = 0 := Eq.trans (Eq.symm (hq_12.2 A S hA hS0)) c_13; have hp := wn_0 w0; have k := hq_22 A x1 x2 S Z (absX_eq hA (fr_all f_18 10 15 (by decide))) hok (hq_17 A hA hp.1.1.1.2) (hx_fr hS0 (f_18.1 29 rfl (by decide)) (f_18.1 30 rfl (by decide))) (ex_eq hE (f_18.1 31 rfl (by decide))) hp.2.1 hp.2.2; exact Eq.trans (spOt_eq (Or.inr ⟨_, k.2 c_25, Or.inr (Or.inr (Or.inl ⟨c_26, hq_29⟩))⟩) toR_u) (Eq.trans (pif_pos (show 0 ≤ x6 ∧ x6 ≤ 3 from (oh_rgI (p := 0) (q := 3) (rg_w (lo := 0) (hi := 3) (rn_eq c_26 (rg_c (v := 2) (lo := 2) (hi := 2) (by decide))) (by decide))))) (pif_pos w0)).symm)⟩, ⟨by rw [ht]; exact hP, hD⟩⟩, hS.F ht⟩) hS.2.2 dX6_told_100
      · refine lv_aload_n hx hb dX6_told_62 rfl (lv_at hl 1 rfl) ?_
        refine lv_bipush (v := (-5)) hx hb dX6_told_63 (by decide) ?_
        refine tm_V (As := [.int (-5)]) (rest := []) ⟨hx, hb, hml, hown, htg⟩ (c_X6_refuse l D E G _ a C_21 hT ((-5) : Int32)) (cwV 1 htg (oh_gV q_296 q_298 q_0 q_66 q_299) rfl rfl rfl pdVX6_refuse ⟨Nat.le_of_ble_eq_true rfl, Nat.le_of_ble_eq_true rfl⟩) hK hP hD hG hS hA (va_recv hK hP (ci := 6) (q0 := 0) rfl (oh_wg (by decide) (sX_0 hT))) rfl hl.1 rfl (Nat.le_of_ble_eq_true rfl) dX6_told_65 ⟨Nat.le_of_ble_eq_true rfl, Nat.le_of_ble_eq_true rfl⟩ (fun r_30 C_31 H locs hq_32 hP hD hS => ?_)
        obtain ⟨hT, f_33, hq_32⟩ := hq_32
        have hF := fr_tr hF f_33 (by decide) (by decide)
        refine W.widen (k := 0) (n := 0) (Nat.le_refl _) (Nat.le_refl _) ?_
        have t_34 := hT
        rw [hQ]
        exact W.iret (v := r_30) hx hb hr (fun t ht hW => ⟨⟨r_30, C_31, rfl, ⟨hT, hF, (fun A S Z hA hok hS0 hE => by have w0 : wnT A S x1 x2 x3 x4 x5 = 0 := Eq.trans (Eq.symm (hq_12.2 A S hA hS0)) c_13; have hp := wn_0 w0; have k := hq_22 A x1 x2 S Z (absX_eq hA (fr_all f_18 10 15 (by decide))) hok (hq_17 A hA hp.1.1.1.2) (hx_fr hS0 (f_18.1 29 rfl (by decide)) (f_18.1 30 rfl (by decide))) (ex_eq hE (f_18.1 31 rfl (by decide))) hp.2.1 hp.2.2; exact Eq.trans (spOt_eq (to_n k.1 c_25 hq_32) toR_u) (Eq.trans (pif_pos (show 0 ≤ x6 ∧ x6 ≤ 3 from (oh_rgI (p := 0) (q := 3) (rg_w (lo := 0) (hi := 3) (rn_leu u_10.2 (rn_lel u_10.1 (rg_c (v := 0) (lo := 0) (hi := 0) (by decide)) (rg_any _)) (rg_c (v := 3) (lo := 3) (hi := 3) (by decide))) (by decide))))) (pif_pos w0)).symm)⟩, ⟨by rw [ht]; exact hP, hD⟩⟩, hS.F ht⟩) hS.2.2 dX6_told_68
    · refine lv_aload_n hx hb dX6_told_33 rfl (lv_at hl 1 rfl) ?_
      refine lv_iload hx hb dX6_told_34 (lv_at hl 0 rfl) ?_
      refine tm_V (As := [.int r_11]) (rest := []) ⟨hx, hb, hml, hown, htg⟩ (c_X6_refuse l D E G _ a C hT r_11) (cwV 1 htg (oh_gV q_296 q_298 q_0 q_66 q_299) rfl rfl rfl pdVX6_refuse ⟨Nat.le_of_ble_eq_true rfl, Nat.le_of_ble_eq_true rfl⟩) hK hP hD hG hS hA (va_recv hK hP (ci := 6) (q0 := 0) rfl (oh_wg (by decide) (sX_0 hT))) rfl hl.1 rfl (Nat.le_of_ble_eq_true rfl) dX6_told_36 ⟨Nat.le_of_ble_eq_true rfl, Nat.le_of_ble_eq_true rfl⟩ (fun r_35 C_36 H locs hq_37 hP hD hS => ?_)
      obtain ⟨hT, f_38, hq_37⟩ := hq_37
      have hF := fr_tr hF f_38 (by decide) (by decide)
      refine W.widen (k := 0) (n := 0) (Nat.le_refl _) (Nat.le_refl _) ?_
      have t_39 := hT
      rw [hQ]
      exact W.iret (v := r_35) hx hb hr (fun t ht hW => ⟨⟨r_35, C_36, rfl, ⟨hT, hF, (fun A S Z hA hok hS0 hE => by have w := hq_12.2 A S hA hS0; exact Eq.trans hq_37 (Eq.trans w (Eq.trans (pif_pos (show 0 ≤ x6 ∧ x6 ≤ 3 from (oh_rgI (p := 0) (q := 3) (rg_w (lo := 0) (hi := 3) (rn_leu u_10.2 (rn_lel u_10.1 (rg_c (v := 0) (lo := 0) (hi := 0) (by decide)) (rg_any _)) (rg_c (v := 3) (lo := 3) (hi := 3) (by decide))) (by decide))))) (pif_neg (fun h8 => c_13 (Eq.trans w h8)))).symm))⟩, ⟨by rw [ht]; exact hP, hD⟩⟩, hS.F ht⟩) hS.2.2 dX6_told_39

set_option maxHeartbeats 4000000 in
set_option maxRecDepth 100000 in
theorem e_X7_told_ (l : Launch) (D : va_G) (E : Nat → ClassId) (G : Nat → Nat) (sz : Nat) (a : Nat → Nat) (C : Nat → va_E) (n : Nat) (hn : 74 ≤ n) (hT : TyM a E C) (x1 : Int32) (x2 : Int32) (x3 : Int32) (x4 : Int32) (x5 : Int32) (x6 : Int32) (hR : RelM C) : Met l yX7_told_ (oh_w yX7_told_ cX7_told_ 12 (some .int)) ({ frames := 5, cells := 0, slots := 0, locals := 126 }) (oh_Pm D E G [.ref (a 0), .int x1, .int x2, .int x3, .int x4, .int x5, .int x6] (oh_W n a C) sz) (va_Qi (fun r (u : Nat → va_E) => TyM a E u ∧ fr [(8, 9)] [28] C u ∧ (RelM u) ∧ (∀ (A : LA) (S : HZ) (Z : EZ), absM C A → okA A → absHM C S → absEM C S Z → r = spTold A S Z x1 x2 x3 x4 x5 x6)) (oh_B D (va_A (oh_W n a C) sz) (fun u => oh_W n a u)) (va_A (oh_W n a C) sz)) 0 0 (va_A (oh_W n a C) sz) := by
  refine Met.ofW (cc := cX7_told_) (maxL := 12) (ret := (some .int)) (by decide) rfl ?_
  intro p e s m args below meth c s₁ B hml hv
  obtain ⟨rfl, hsz, hP, hK, hD0, hG⟩ := hv
  have hx := B.exec
  have hb := B.bytes
  have hr := B.returns
  have hts := atoms_spec (ws := (oh_w yX7_told_ cX7_told_ 12 (some .int))) B.pre
  have htg : ∀ w ∈ oh_t, w.before _ s = true := fun w h => hts w (List.mem_cons_of_mem _ h)
  have hown : s.vm.findClass RX7 = some m.cls := findClass_of_methodNamed B.named
  have hlocks := B.notSynchronized
  have hT0 := hT
  subst hsz
  have hD := hD0.self (sz := s.heap.size)
  generalize hAe : va_A (oh_W n a C) s.heap.size = A at hD hG ⊢
  have hA : ∀ q : Nat, s.heap.size ≤ q → A q := fun q h => by rw [← hAe]; exact Or.inr h
  have hS : va_S A s.heap s.heap [] := va_S.rf
  have hF : fr [(8, 9)] [28] C C := fr_rf
  have hl := lv_entry ([.ref (a 0), .int x1, .int x2, .int x3, .int x4, .int x5, .int x6]) (n := 12) (Nat.le_of_ble_eq_true rfl)
  rw [lg_entry_eq]
  generalize (lg_sl ([.ref (a 0), .int x1, .int x2, .int x3, .int x4, .int x5, .int x6]) ++ List.replicate (12 - (lg_sl ([.ref (a 0), .int x1, .int x2, .int x3, .int x4, .int x5, .int x6])).length) Slot.unset).toArray = ls at hl ⊢
  have hl : lv_has ls 12 [(0, .ref (a 0)), (1, .int x1), (2, .int x2), (3, .int x3), (4, .int x4), (5, .int x5), (6, .int x6)] := hl
  refine oh_genQ (fun Q hQ => ?_)
  refine lv_iload hx hb dX7_told__0 (lv_at hl 6 rfl) ?_
  refine lv_i2l (v := Int32.toInt64 x6) hx hb dX7_told__2 (by rfl) ?_
  refine lv_lconst (v := 0) hx hb dX7_told__3 (by decide) ?_
  refine lv_ldc2 (v := 3) hx hb hown (htg _ q_1385) dX7_told__4 ?_
  refine tq_S (As := [.long (Int32.toInt64 x6), .long 0, .long 3]) (rest := []) (ws := []) ⟨hx, hb, hml, hown, htg⟩ (c_X7_in l D E G (Int32.toInt64 x6) (0 : Int64) (3 : Int64)) (va_cwS 3 htg (oh_gS q_1066 q_1067 q_73 q_1068) rfl rfl rfl pdX7_in ⟨Nat.le_of_ble_eq_true rfl, Nat.le_of_ble_eq_true rfl⟩) hK va_nil hG hS rfl hl.1 rfl (Nat.le_of_ble_eq_true rfl) dX7_told__7 ⟨Nat.le_of_ble_eq_true rfl, Nat.le_of_ble_eq_true rfl⟩ (fun r_1 hq_2 => ?_)
  refine lv_if_ne (tgt := 20) hx hb dX7_told__10 (by decide) (fun (c_3 : ¬ (r_1 = 0)) => ?_) (fun (c_3 : r_1 = 0) => ?_)
  · have u_4 := hq_2.2.1 c_3
    refine lv_aload_n hx hb dX7_told__20 rfl (lv_at hl 0 rfl) ?_
    refine lv_iload_n hx hb dX7_told__21 rfl (lv_at hl 1 rfl) ?_
    refine lv_iload_n hx hb dX7_told__22 rfl (lv_at hl 2 rfl) ?_
    refine lv_iload_n hx hb dX7_told__23 rfl (lv_at hl 3 rfl) ?_
    refine lv_iload hx hb dX7_told__24 (lv_at hl 4 rfl) ?_
    refine lv_iload hx hb dX7_told__26 (lv_at hl 5 rfl) ?_
    refine tm_V (As := [.int x1, .int x2, .int x3, .int x4, .int x5]) (rest := []) ⟨hx, hb, hml, hown, htg⟩ (e_X7_noWay l D E G _ a C n hn hT x1 x2 x3 x4 x5 hR) (cwV 5 htg (oh_gV q_1373 q_1375 q_62 q_73 q_1376) rfl rfl rfl pdVX7_noWay ⟨Nat.le_of_ble_eq_true rfl, Nat.le_of_ble_eq_true rfl⟩) hK hP hD hG hS hA (va_recv hK hP (ci := 7) (q0 := 0) rfl (oh_wg (Nat.lt_of_lt_of_le (by decide) hn) (sM_0 hT))) rfl hl.1 rfl (Nat.le_of_ble_eq_true rfl) dX7_told__28 ⟨Nat.le_of_ble_eq_true rfl, Nat.le_of_ble_eq_true rfl⟩ (fun r_5 C_6 H locs hq_7 hP hD hS => ?_)
    obtain ⟨hT, f_8, hq_7⟩ := hq_7
    have hF := fr_tr hF f_8 (by decide) (by decide)
    refine W.widen (k := 0) (n := 0) (Nat.le_refl _) (Nat.le_refl _) ?_
    have t_9 := hT
    refine lv_istore (lv' := [(7, .int r_5), (0, .ref (a 0)), (1, .int x1), (2, .int x2), (3, .int x3), (4, .int x4), (5, .int x5), (6, .int x6)]) hx hb dX7_told__31 hl (by decide) rfl (fun ls hl => ?_)
    refine lv_iload hx hb dX7_told__33 (lv_at hl 0 rfl) ?_
    refine lv_if_eq (tgt := 41) hx hb dX7_told__35 (by decide) (fun (c_10 : r_5 = 0) => ?_) (fun (c_10 : ¬ (r_5 = 0)) => ?_)
    · have u_11 := hq_7.2.1 c_10
      refine lv_aload_n hx hb dX7_told__41 rfl (lv_at hl 1 rfl) ?_
      refine lv_iload_n hx hb dX7_told__42 rfl (lv_at hl 2 rfl) ?_
      refine lv_iload_n hx hb dX7_told__43 rfl (lv_at hl 3 rfl) ?_
      refine lv_iload_n hx hb dX7_told__44 rfl (lv_at hl 4 rfl) ?_
      refine lv_iload hx hb dX7_told__45 (lv_at hl 5 rfl) ?_
      refine lv_iload hx hb dX7_told__47 (lv_at hl 6 rfl) ?_
      refine tm_V (As := [.int x1, .int x2, .int x3, .int x4, .int x5]) (rest := []) ⟨hx, hb, hml, hown, htg⟩ (e_X7_firstWrong l D E G _ a C_6 n hn hT x1 x2 x3 x4 x5 (rg_w u_11.1 (by decide)) (rg_w u_11.2.1 (by decide)) (rg_w u_11.2.2.1 (by decide)) (rg_w u_11.2.2.2.1 (by decide)) (oh_posU (rg_w u_11.1 (by decide)) (fun i hi => f_8.1 _ (inR_out hi (by decide)) (by omega)) u_11.2.2.2.2)) (cwV 5 htg (oh_gV q_1377 q_1379 q_63 q_73 q_1380) rfl rfl rfl pdVX7_firstWrong ⟨Nat.le_of_ble_eq_true rfl, Nat.le_of_ble_eq_true rfl⟩) hK hP hD hG hS hA (va_recv hK hP (ci := 7) (q0 := 0) rfl (oh_wg (Nat.lt_of_lt_of_le (by decide) hn) (sM_0 hT))) rfl hl.1 rfl (Nat.le_of_ble_eq_true rfl) dX7_told__49 ⟨Nat.le_of_ble_eq_true rfl, Nat.le_of_ble_eq_true rfl⟩ (fun r_12 C_13 H locs hq_14 hP hD hS => ?_)
      obtain ⟨hT, f_15, hq_14⟩ := hq_14
      have hF := fr_tr hF f_15 (by decide) (by decide)
      refine W.widen (k := 0) (n := 0) (Nat.le_refl _) (Nat.le_refl _) ?_
      have t_16 := hT
      refine lv_iconst (v := (-1)) hx hb dX7_told__52 (by decide) ?_
      refine lv_icmp_eq (tgt := 63) hx hb dX7_told__53 (by decide) (fun (c_17 : r_12 = (-1)) => ?_) (fun (c_17 : ¬ (r_12 = (-1))) => ?_)
      · have u_18 := hq_14.1 c_17
        refine lv_iconst (v := 0) hx hb dX7_told__63 (by decide) ?_
        refine lv_istore (lv' := [(8, .int 0), (7, .int r_5), (0, .ref (a 0)), (1, .int x1), (2, .int x2), (3, .int x3), (4, .int x4), (5, .int x5), (6, .int x6)]) hx hb dX7_told__64 hl (by decide) rfl (fun ls hl => ?_)
        refine lv_iconst (v := 0) hx hb dX7_told__66 (by decide) ?_
        refine lv_istore (lv' := [(9, .int 0), (8, .int 0), (7, .int r_5), (0, .ref (a 0)), (1, .int x1), (2, .int x2), (3, .int x3), (4, .int x4), (5, .int x5), (6, .int x6)]) hx hb dX7_told__67 hl (by decide) rfl (fun ls hl => ?_)
        refine lv_iconst (v := 0) hx hb dX7_told__69 (by decide) ?_
        refine lv_istore (lv' := [(10, .int 0), (9, .int 0), (8, .int 0), (7, .int r_5), (0, .ref (a 0)), (1, .int x1), (2, .int x2), (3, .int x3), (4, .int x4), (5, .int x5), (6, .int x6)]) hx hb dX7_told__70 hl (by decide) rfl (fun ls hl => ?_)
        have L_72 : ∀ (d : Nat) (K72 : Nat → va_E) (z72_10 : Int32) (z72_9 : Int32) (z72_8 : Int32) (H : Heap) (locs : List Loc) (ls : Array Slot), (20 - z72_10.toInt).toNat = d → rg z72_10 0 20 → (∀ (A : LA) (S : HZ) (Z : EZ), absM C A → okA A → absHM C S → absEM C S Z → tsI A x1 x2 (Z x4.toNatClampNeg) x3 x6 z72_10.toNatClampNeg z72_8 z72_9) → (z72_10.toInt ≤ x5.toInt) → TyM a E K72 → fr [(8, 9)] [28] C K72 → fr [] [] C_13 K72 → va_P D vwCl (oh_W n a K72) H → va_D A (oh_W n a K72) → va_S A s.heap H locs → lv_has ls 12 [(10, .int z72_10), (9, .int z72_9), (8, .int z72_8), (7, .int r_5), (0, .ref (a 0)), (1, .int x1), (2, .int x2), (3, .int x3), (4, .int x4), (5, .int x5), (6, .int x6)] → W p l e ({ frames := 5, cells := 0, slots := 0, locals := 126 }) s m (([.ref (a 0), .int x1, .int x2, .int x3, .int x4, .int x5, .int x6] : List Value).toArray) below meth c H locs 0 0 Q (F0 m 72 ls []) := by
          intro d
          induction d using Nat.strongRecOn with
          | ind d ih_72 =>
          intro K72 z72_10 z72_9 z72_8 H locs ls hd_72 hz72_10 hv_72 hy_72 hT hF hLF_72 hP hD hS hl
          have t_19 := hT
          refine lv_iload hx hb dX7_told__72 (lv_at hl 0 rfl) ?_
          refine lv_iload hx hb dX7_told__74 (lv_at hl 9 rfl) ?_
          refine lv_icmp_ge (tgt := 144) hx hb dX7_told__76 (by decide) (fun (c_20 : x5 ≤ z72_10) => ?_) (fun (c_20 : ¬ (x5 ≤ z72_10)) => ?_)
          · refine lv_iload hx hb dX7_told__144 (lv_at hl 10 rfl) ?_
            refine lv_iconst (v := 3) hx hb dX7_told__146 (by decide) ?_
            refine lv_icmp_ne (tgt := 155) hx hb dX7_told__147 (by decide) (fun (c_21 : ¬ (x6 = 3)) => ?_) (fun (c_21 : x6 = 3) => ?_)
            · refine lv_iload hx hb dX7_told__155 (lv_at hl 10 rfl) ?_
              refine lv_iconst (v := 2) hx hb dX7_told__157 (by decide) ?_
              refine lv_icmp_ne (tgt := 169) hx hb dX7_told__158 (by decide) (fun (c_22 : ¬ (x6 = 2)) => ?_) (fun (c_22 : x6 = 2) => ?_)
              · refine lv_iload hx hb dX7_told__169 (lv_at hl 2 rfl) ?_
                rw [hQ]
                exact W.iret (v := z72_8) hx hb hr (fun t ht hW => ⟨⟨z72_8, K72, rfl, ⟨hT, hF, ⟨⟨hR.1.fr hF (by decide), hR.2.fr hF (by decide)⟩, (fun A S Z hA hok hS0 hE => by have w0 : wnT A S x1 x2 x3 x4 x5 = 0 := Eq.trans (Eq.symm (hq_7.2.2 A S hA hS0)) c_10; have hp := wn_0 w0; have k := hq_14.2 A S Z (absM_fr hA hT0 (show fr [(8, 9)] [] C C_6 from (fr_tr fr_rf f_8 (by decide) (by decide))) (by decide) (by decide) (by decide)) hok hp.1.1.1.2 (em_eq hE (fun s hs => (f_8.1 (16 + s) (by have h9 := hs; exact inR_out h9 (by decide)) (by omega)))) hp.2.1 hp.2.2; obtain ⟨gN, hN, ht⟩ := k.2 c_17; have hi := hv_72 A S Z hA hok hS0 hE; rw [show z72_10 = x5 from Int32.toInt_inj.mp (by have h8 := Int32.le_iff_toInt_le.mp c_20; have h9 := hy_72; omega)] at hi; exact Eq.trans (spOt_eq (ts_e hok hN ht hi (show 0 ≤ x6 ∧ x6 ≤ 3 from (oh_rgI (p := 0) (q := 3) (rg_w (lo := 0) (hi := 3) (rg_il (rgL_i (rg_il (rnL_leu u_4.2 (rnL_lel u_4.1 (rgL_c (v := 0) (lo := 0) (hi := 0) (by decide)) (rgL_i (rg_any _))) (rgL_c (v := 3) (lo := 3) (hi := 3) (by decide)))))) (by decide)))) (Or.inr (Or.inr ⟨c_21, c_22, rfl⟩))) toR_u) (Eq.trans (pif_pos (show 0 ≤ x6 ∧ x6 ≤ 3 from (oh_rgI (p := 0) (q := 3) (rg_w (lo := 0) (hi := 3) (rg_il (rgL_i (rg_il (rnL_leu u_4.2 (rnL_lel u_4.1 (rgL_c (v := 0) (lo := 0) (hi := 0) (by decide)) (rgL_i (rg_any _))) (rgL_c (v := 3) (lo := 3) (hi := 3) (by decide)))))) (by decide))))) (pif_pos w0)).symm)⟩⟩, ⟨by rw [ht]; exact hP, hD⟩⟩, hS.F ht⟩) hS.2.2 dX7_told__171
              · refine lv_iload hx hb dX7_told__161 (lv_at hl 1 rfl) ?_
                refine tq_S (As := [.int z72_9]) (rest := []) (ws := []) ⟨hx, hb, hml, hown, htg⟩ (e_X7_bits l D E G z72_9) (va_cwS 1 htg (oh_gS q_1386 q_1387 q_73 q_1388) rfl rfl rfl pdX7_bits ⟨Nat.le_of_ble_eq_true rfl, Nat.le_of_ble_eq_true rfl⟩) hK va_nil hG hS rfl hl.1 rfl (Nat.le_of_ble_eq_true rfl) dX7_told__163 ⟨Nat.le_of_ble_eq_true rfl, Nat.le_of_ble_eq_true rfl⟩ (fun r_23 hq_24 => ?_)
                refine lv_goto (tgt := 171) hx hb dX7_told__166 (by decide) ?_
                rw [hQ]
                exact W.iret (v := r_23) hx hb hr (fun t ht hW => ⟨⟨r_23, K72, rfl, ⟨hT, hF, ⟨⟨hR.1.fr hF (by decide), hR.2.fr hF (by decide)⟩, (fun A S Z hA hok hS0 hE => by have w0 : wnT A S x1 x2 x3 x4 x5 = 0 := Eq.trans (Eq.symm (hq_7.2.2 A S hA hS0)) c_10; have hp := wn_0 w0; have k := hq_14.2 A S Z (absM_fr hA hT0 (show fr [(8, 9)] [] C C_6 from (fr_tr fr_rf f_8 (by decide) (by decide))) (by decide) (by decide) (by decide)) hok hp.1.1.1.2 (em_eq hE (fun s hs => (f_8.1 (16 + s) (by have h9 := hs; exact inR_out h9 (by decide)) (by omega)))) hp.2.1 hp.2.2; obtain ⟨gN, hN, ht⟩ := k.2 c_17; have hi := hv_72 A S Z hA hok hS0 hE; rw [show z72_10 = x5 from Int32.toInt_inj.mp (by have h8 := Int32.le_iff_toInt_le.mp c_20; have h9 := hy_72; omega)] at hi; exact Eq.trans (spOt_eq (ts_e hok hN ht hi (show 0 ≤ x6 ∧ x6 ≤ 3 from (oh_rgI (p := 0) (q := 3) (rg_w (lo := 0) (hi := 3) (rn_eq c_22 (rg_c (v := 2) (lo := 2) (hi := 2) (by decide))) (by decide)))) (Or.inr (Or.inl ⟨c_22, hq_24⟩))) toR_u) (Eq.trans (pif_pos (show 0 ≤ x6 ∧ x6 ≤ 3 from (oh_rgI (p := 0) (q := 3) (rg_w (lo := 0) (hi := 3) (rn_eq c_22 (rg_c (v := 2) (lo := 2) (hi := 2) (by decide))) (by decide))))) (pif_pos w0)).symm)⟩⟩, ⟨by rw [ht]; exact hP, hD⟩⟩, hS.F ht⟩) hS.2.2 dX7_told__171
            · refine lv_aload_n hx hb dX7_told__150 rfl (lv_at hl 4 rfl) ?_
              refine va_get (D := D) (ci := 7) (v := .int (gi (C_13 0) 28)) (C := RX7) (T := TX7) (N := 29) hx hb htg ig_7 hown hK hP 0 (oh_wg (Nat.lt_of_lt_of_le (by decide) hn) (sM_0 hT)) rfl 28 (by decide) (htg _ q_1001) (fun _ h9 => h9) (oh_fv (c := K72 0) (j := 28) rfl (congrArg vi (hLF_72.2 28 (by decide)))) dX7_told__151 ?_
              rw [hQ]
              exact W.iret (v := gi (C_13 0) 28) hx hb hr (fun t ht hW => ⟨⟨gi (C_13 0) 28, K72, rfl, ⟨hT, hF, ⟨⟨hR.1.fr hF (by decide), hR.2.fr hF (by decide)⟩, (fun A S Z hA hok hS0 hE => by have w0 : wnT A S x1 x2 x3 x4 x5 = 0 := Eq.trans (Eq.symm (hq_7.2.2 A S hA hS0)) c_10; have hp := wn_0 w0; have k := hq_14.2 A S Z (absM_fr hA hT0 (show fr [(8, 9)] [] C C_6 from (fr_tr fr_rf f_8 (by decide) (by decide))) (by decide) (by decide) (by decide)) hok hp.1.1.1.2 (em_eq hE (fun s hs => (f_8.1 (16 + s) (by have h9 := hs; exact inR_out h9 (by decide)) (by omega)))) hp.2.1 hp.2.2; obtain ⟨gN, hN, ht⟩ := k.2 c_17; have hi := hv_72 A S Z hA hok hS0 hE; rw [show z72_10 = x5 from Int32.toInt_inj.mp (by have h8 := Int32.le_iff_toInt_le.mp c_20; have h9 := hy_72; omega)] at hi; exact Eq.trans (spOt_eq (ts_e hok hN (te := gi (C_13 0) 28) ht hi (show 0 ≤ x6 ∧ x6 ≤ 3 from (oh_rgI (p := 0) (q := 3) (rg_w (lo := 0) (hi := 3) (rn_eq c_21 (rg_c (v := 3) (lo := 3) (hi := 3) (by decide))) (by decide)))) (Or.inl ⟨c_21, rfl⟩)) toR_u) (Eq.trans (pif_pos (show 0 ≤ x6 ∧ x6 ≤ 3 from (oh_rgI (p := 0) (q := 3) (rg_w (lo := 0) (hi := 3) (rn_eq c_21 (rg_c (v := 3) (lo := 3) (hi := 3) (by decide))) (by decide))))) (pif_pos w0)).symm)⟩⟩, ⟨by rw [ht]; exact hP, hD⟩⟩, hS.F ht⟩) hS.2.2 dX7_told__154
          · refine lv_aload_n hx hb dX7_told__79 rfl (lv_at hl 4 rfl) ?_
            refine va_get (D := D) (ci := 7) (v := .ref (a 4)) (C := RX7) (T := TX7) (N := 29) hx hb htg ig_7 hown hK hP 0 (oh_wg (Nat.lt_of_lt_of_le (by decide) hn) (sM_0 hT)) rfl 3 (by decide) (htg _ q_976) (fun _ h9 => h9) rfl dX7_told__80 ?_
            refine lv_iload hx hb dX7_told__83 (lv_at hl 8 rfl) ?_
            have n_25 : vp_in x4 8 := (rg_in u_11.2.2.1 (by decide))
            have b_26 : (x4).toNatClampNeg < 8 := vp_lt n_25
            refine th_aald hx hb hK hP 4 3 (Nat.lt_of_lt_of_le (by decide) hn) (sM_4 hT) rfl n_25 dX7_told__85 ?_
            refine lv_iload hx hb dX7_told__86 (lv_at hl 0 rfl) ?_
            have n_27 : vp_in z72_10 40 := (rg_in (rn_ltu (u' := 19) (Int32.not_le.mp c_20) hz72_10 u_11.2.2.2.1 (by decide)) (by decide))
            refine th_lald hx hb hK hP (16 + (x4).toNatClampNeg) (lt_blk b_26 hn (by decide)) (Eq.trans (Eq.trans (hLF_72.1 (16 + (x4).toNatClampNeg) (by have h9 := b_26; exact inR_out h9 (by decide)) (by omega)) (Eq.trans (f_15.1 (16 + (x4).toNatClampNeg) (by have h9 := b_26; exact inR_out h9 (by decide)) (by omega)) (f_8.1 (16 + (x4).toNatClampNeg) (by have h9 := b_26; exact inR_out h9 (by decide)) (by omega)))) (hT0.brows b_26)) n_27 dX7_told__88 ?_
            refine lv_l2i (v := Int64.toInt32 (gb (C (16 + (x4).toNatClampNeg)) (z72_10).toNatClampNeg)) hx hb dX7_told__89 rfl ?_
            refine lv_istore (lv' := [(11, .int (Int64.toInt32 (gb (C (16 + (x4).toNatClampNeg)) (z72_10).toNatClampNeg))), (10, .int z72_10), (9, .int z72_9), (8, .int z72_8), (7, .int r_5), (0, .ref (a 0)), (1, .int x1), (2, .int x2), (3, .int x3), (4, .int x4), (5, .int x5), (6, .int x6)]) hx hb dX7_told__90 hl (by decide) rfl (fun ls hl => ?_)
            refine lv_iload hx hb dX7_told__92 (lv_at hl 3 rfl) ?_
            refine lv_iload hx hb dX7_told__94 (lv_at hl 11 rfl) ?_
            refine lv_if_ne (tgt := 111) hx hb dX7_told__96 (by decide) (fun (c_28 : ¬ (x6 = 0)) => ?_) (fun (c_28 : x6 = 0) => ?_)
            · refine lv_aload_n hx hb dX7_told__111 rfl (lv_at hl 5 rfl) ?_
              refine lv_iload_n hx hb dX7_told__112 rfl (lv_at hl 6 rfl) ?_
              refine lv_iload_n hx hb dX7_told__113 rfl (lv_at hl 7 rfl) ?_
              refine lv_iload hx hb dX7_told__114 (lv_at hl 0 rfl) ?_
              refine tq_V (As := [.int x1, .int x2, .int (Int64.toInt32 (gb (C (16 + (x4).toNatClampNeg)) (z72_10).toNatClampNeg))]) (rest := [.int z72_8]) (ws := (oh_W n a K72)) ⟨hx, hb, hml, hown, htg⟩ (e_X7_daysOf l D E G a K72 n hn hT x1 x2 (Int64.toInt32 (gb (C (16 + (x4).toNatClampNeg)) (z72_10).toNatClampNeg)) (rg_w u_11.1 (by decide)) (rg_w (rg_l2i (oh_rgB ((f_8.1 _ (inR_out (b := 16) (N := 8) (vp_lt (rg_in u_11.2.2.1 (by decide))) (by decide)) (by omega))).symm (oh_rowsI (rg_w (lo := 0) (hi := 20) (rn_ltu (u' := 19) (Int32.not_le.mp c_20) hz72_10 u_11.2.2.2.1 (by decide)) (by decide)) (Int32.not_le.mp c_20) u_18)) (by decide)) (by decide)) (oh_posU (rg_w u_11.1 (by decide)) (fun i hi => hLF_72.1 _ (inR_out hi (by decide)) (by omega)) (oh_posU (rg_w u_11.1 (by decide)) (fun i hi => f_15.1 _ (inR_out hi (by decide)) (by omega)) (oh_posU (rg_w u_11.1 (by decide)) (fun i hi => f_8.1 _ (inR_out hi (by decide)) (by omega)) u_11.2.2.2.2)))) (cwV 3 htg (oh_gV q_1334 q_1336 q_58 q_73 q_1337) rfl rfl rfl pdVX7_daysOf ⟨Nat.le_of_ble_eq_true rfl, Nat.le_of_ble_eq_true rfl⟩) hK hP hG hS (va_recv hK hP (ci := 7) (q0 := 0) rfl (oh_wg (Nat.lt_of_lt_of_le (by decide) hn) (sM_0 hT))) rfl hl.1 rfl (Nat.le_of_ble_eq_true rfl) dX7_told__116 ⟨Nat.le_of_ble_eq_true rfl, Nat.le_of_ble_eq_true rfl⟩ (fun r_29 hq_30 => ?_)
              refine lv_iadd hx hb dX7_told__119 ?_
              refine lv_istore (lv' := [(8, .int (z72_8 + r_29)), (11, .int (Int64.toInt32 (gb (C (16 + (x4).toNatClampNeg)) (z72_10).toNatClampNeg))), (10, .int z72_10), (9, .int z72_9), (7, .int r_5), (0, .ref (a 0)), (1, .int x1), (2, .int x2), (3, .int x3), (4, .int x4), (5, .int x5), (6, .int x6)]) hx hb dX7_told__120 hl (by decide) rfl (fun ls hl => ?_)
              refine lv_iload hx hb dX7_told__122 (lv_at hl 3 rfl) ?_
              refine lv_iconst (v := 1) hx hb dX7_told__124 (by decide) ?_
              refine lv_aload_n hx hb dX7_told__125 rfl (lv_at hl 5 rfl) ?_
              refine va_get (D := D) (ci := 7) (v := .ref (a 9)) (C := RX7) (T := TX7) (N := 29) hx hb htg ig_7 hown hK hP 0 (oh_wg (Nat.lt_of_lt_of_le (by decide) hn) (sM_0 hT)) rfl 10 (by decide) (htg _ q_983) (fun _ h9 => h9) rfl dX7_told__126 ?_
              refine lv_iload hx hb dX7_told__129 (lv_at hl 1 rfl) ?_
              have n_31 : vp_in (Int64.toInt32 (gb (C (16 + (x4).toNatClampNeg)) (z72_10).toNatClampNeg)) 24 := (rg_in (rg_l2i (oh_rgB ((f_8.1 _ (inR_out (b := 16) (N := 8) (vp_lt (rg_in u_11.2.2.1 (by decide))) (by decide)) (by omega))).symm (oh_rowsI (rg_w (lo := 0) (hi := 20) (rn_ltu (u' := 19) (Int32.not_le.mp c_20) hz72_10 u_11.2.2.2.1 (by decide)) (by decide)) (Int32.not_le.mp c_20) u_18)) (by decide)) (by decide))
              have b_32 : (Int64.toInt32 (gb (C (16 + (x4).toNatClampNeg)) (z72_10).toNatClampNeg)).toNatClampNeg < 24 := vp_lt n_31
              refine th_aald hx hb hK hP 9 2 (Nat.lt_of_lt_of_le (by decide) hn) (sM_9 hT) rfl n_31 dX7_told__131 ?_
              refine lv_iconst (v := 5) hx hb dX7_told__132 (by decide) ?_
              refine th_iald hx hb hK hP (24 + (Int64.toInt32 (gb (C (16 + (x4).toNatClampNeg)) (z72_10).toNatClampNeg)).toNatClampNeg) (lt_blk b_32 hn (by decide)) (Eq.trans (Eq.trans (hLF_72.1 (24 + (Int64.toInt32 (gb (C (16 + (x4).toNatClampNeg)) (z72_10).toNatClampNeg)).toNatClampNeg) (by have h9 := b_32; exact inR_out h9 (by decide)) (by omega)) (Eq.trans (f_15.1 (24 + (Int64.toInt32 (gb (C (16 + (x4).toNatClampNeg)) (z72_10).toNatClampNeg)).toNatClampNeg) (by have h9 := b_32; exact inR_out h9 (by decide)) (by omega)) (f_8.1 (24 + (Int64.toInt32 (gb (C (16 + (x4).toNatClampNeg)) (z72_10).toNatClampNeg)).toNatClampNeg) (by have h9 := b_32; exact inR_out h9 (by decide)) (by omega)))) (hT0.broad b_32).1) (rg_in (rg_c (v := 5) (lo := 5) (hi := 5) (by decide)) (by decide)) dX7_told__133 ?_
              refine lv_ishl hx hb dX7_told__134 ?_
              refine lv_ior hx hb dX7_told__135 ?_
              refine lv_istore (lv' := [(9, .int (z72_9 ||| ((1 : Int32) <<< ((ga (C (24 + (Int64.toInt32 (gb (C (16 + (x4).toNatClampNeg)) (z72_10).toNatClampNeg)).toNatClampNeg)) ((5 : Int32)).toNatClampNeg) &&& 31)))), (8, .int (z72_8 + r_29)), (11, .int (Int64.toInt32 (gb (C (16 + (x4).toNatClampNeg)) (z72_10).toNatClampNeg))), (10, .int z72_10), (7, .int r_5), (0, .ref (a 0)), (1, .int x1), (2, .int x2), (3, .int x3), (4, .int x4), (5, .int x5), (6, .int x6)]) hx hb dX7_told__136 hl (by decide) rfl (fun ls hl => ?_)
              refine lv_iinc (v := z72_10 + 1) (lv' := [(10, .int (z72_10 + 1)), (9, .int (z72_9 ||| ((1 : Int32) <<< ((ga (C (24 + (Int64.toInt32 (gb (C (16 + (x4).toNatClampNeg)) (z72_10).toNatClampNeg)).toNatClampNeg)) ((5 : Int32)).toNatClampNeg) &&& 31)))), (8, .int (z72_8 + r_29)), (11, .int (Int64.toInt32 (gb (C (16 + (x4).toNatClampNeg)) (z72_10).toNatClampNeg))), (7, .int r_5), (0, .ref (a 0)), (1, .int x1), (2, .int x2), (3, .int x3), (4, .int x4), (5, .int x5), (6, .int x6)]) hx hb dX7_told__138 hl (k := 3) rfl (by rfl) (by decide) rfl (fun ls hl => ?_)
              refine lv_goto (tgt := 72) hx hb dX7_told__141 (by decide) ?_
              exact ih_72 _ (hd_72 ▸ mu_up 20 (rn_ltu (u' := 19) (Int32.not_le.mp c_20) hz72_10 u_11.2.2.2.1 (by decide)) (by decide)) K72 (z72_10 + 1) (z72_9 ||| ((1 : Int32) <<< ((ga (C (24 + (Int64.toInt32 (gb (C (16 + (x4).toNatClampNeg)) (z72_10).toNatClampNeg)).toNatClampNeg)) ((5 : Int32)).toNatClampNeg) &&& 31))) (z72_8 + r_29) _ _ ls rfl (rg_w (rg_add (lo := 1) (hi := 20) (rn_ltu (u' := 19) (Int32.not_le.mp c_20) hz72_10 u_11.2.2.2.1 (by decide)) (rg_c (v := 1) (lo := 1) (hi := 1) (by decide)) (by decide)) (by decide)) (fun A S Z hA hok hS0 hE => by have w0 : wnT A S x1 x2 x3 x4 x5 = 0 := Eq.trans (Eq.symm (hq_7.2.2 A S hA hS0)) c_10; have hp := wn_0 w0; have k := hq_14.2 A S Z (absM_fr hA hT0 (show fr [(8, 9)] [] C C_6 from (fr_tr fr_rf f_8 (by decide) (by decide))) (by decide) (by decide) (by decide)) hok hp.1.1.1.2 (em_eq hE (fun s hs => (f_8.1 (16 + s) (by have h9 := hs; exact inR_out h9 (by decide)) (by omega)))) hp.2.1 hp.2.2; obtain ⟨gN, hN, ht⟩ := k.2 c_17; have hn : z72_10.toNatClampNeg < x5.toNatClampNeg := (by have h3 := oh_nat (rg_w (lo := 0) (hi := 20) (rn_ltu (u' := 19) (Int32.not_le.mp c_20) hz72_10 u_11.2.2.2.1 (by decide)) (by decide)) (by decide); have h4 := oh_nat (rg_w (lo := 0) (hi := 20) (rn_ltl (l' := 1) (Int32.not_le.mp c_20) hz72_10 u_11.2.2.2.1 (by decide)) (by decide)) (by decide); have h8 := Int32.lt_iff_toInt_lt.mp (Int32.not_le.mp c_20); omega); have ez := (show gb (C (16 + (x4).toNatClampNeg)) (z72_10).toNatClampNeg = Z x4.toNatClampNeg z72_10.toNatClampNeg from (hE _ (sh8 (rg_w (lo := 0) (hi := 7) u_11.2.2.1 (by decide))) hp.2.1).2 _ (by have h4 := oh_nat (rg_w (lo := 0) (hi := 20) (rn_ltu (u' := 19) (Int32.not_le.mp c_20) hz72_10 u_11.2.2.2.1 (by decide)) (by decide)) (by decide); have h5 := Int32.lt_iff_toInt_lt.mp (Int32.not_le.mp c_20); have h6 := hp.2.2; omega)); have hi := hv_72 A S Z hA hok hS0 hE; have ok9 := (fun g (q : twI A x1 x2 (Z x4.toNatClampNeg) x3 z72_10.toNatClampNeg g) => twI_ok hN hn q); obtain ⟨g9, q9, _, _, _⟩ := id hi; have o9 := ok9 g9 q9; obtain ⟨i3, hr3⟩ := n_of hok.1.1 o9.1.1 o9.1.2; exact ts_s hN (rg_w (rg_w (lo := 0) (hi := 20) (rn_ltu (u' := 19) (Int32.not_le.mp c_20) hz72_10 u_11.2.2.2.1 (by decide)) (by decide)) (by decide)) hn hi (fun q => absurd q c_28) (fun _ => by have h5 := (hq_30 A (absM_fr hA hT0 (show fr [(8, 9)] [28] C K72 from (fr_tr (fr_tr (fr_tr fr_rf f_8 (by decide) (by decide)) f_15 (by decide) (by decide)) hLF_72 (by decide) (by decide))) (by decide) (by decide) (by decide)) hok hp.1.1.1.2 (by rw [ez]; exact hr3)); rw [ez] at h5; exact h5) (by rw [show ga (C (24 + (Int64.toInt32 (gb (C (16 + (x4).toNatClampNeg)) (z72_10).toNatClampNeg)).toNatClampNeg)) ((5 : Int32)).toNatClampNeg = A 0 (Int64.toInt32 (gb (C (16 + (x4).toNatClampNeg)) (z72_10).toNatClampNeg)).toNatClampNeg 5 from colM_v (t := 0) hA (by decide) (rg_w (lo := 0) (hi := 23) (rg_l2i (oh_rgB ((f_8.1 _ (inR_out (b := 16) (N := 8) (vp_lt (rg_in u_11.2.2.1 (by decide))) (by decide)) (by omega))).symm (oh_rowsI (rg_w (lo := 0) (hi := 20) (rn_ltu (u' := 19) (Int32.not_le.mp c_20) hz72_10 u_11.2.2.2.1 (by decide)) (by decide)) (Int32.not_le.mp c_20) u_18)) (by decide)) (by decide)) (by decide) (by rw [ez]; exact hr3) (by unfold vis; omega), ez])) (by have h7 := Int32.lt_iff_toInt_lt.mp (Int32.not_le.mp c_20); have h8 : (z72_10 + 1).toInt = z72_10.toInt + 1 := oh_incr (rn_ltu (u' := 19) (Int32.not_le.mp c_20) hz72_10 u_11.2.2.2.1 (by decide)) (by decide); omega) hT hF hLF_72 hP hD hS (lv_sub hl [0, 1, 2, 4, 5, 6, 7, 8, 9, 10, 11] rfl)
            · refine lv_aload_n hx hb dX7_told__99 rfl (lv_at hl 5 rfl) ?_
              refine lv_iload_n hx hb dX7_told__100 rfl (lv_at hl 6 rfl) ?_
              refine lv_iload_n hx hb dX7_told__101 rfl (lv_at hl 7 rfl) ?_
              refine lv_iload hx hb dX7_told__102 (lv_at hl 0 rfl) ?_
              refine lv_iconst (v := 1) hx hb dX7_told__104 (by decide) ?_
              refine tq_V (As := [.int x1, .int x2, .int (Int64.toInt32 (gb (C (16 + (x4).toNatClampNeg)) (z72_10).toNatClampNeg)), .int 1]) (rest := [.int z72_8]) (ws := (oh_W n a K72)) ⟨hx, hb, hml, hown, htg⟩ (e_X7_coinOf l D E G a K72 n hn hT x1 x2 (Int64.toInt32 (gb (C (16 + (x4).toNatClampNeg)) (z72_10).toNatClampNeg)) (1 : Int32) (rg_w u_11.1 (by decide)) (rg_w (rg_l2i (oh_rgB ((f_8.1 _ (inR_out (b := 16) (N := 8) (vp_lt (rg_in u_11.2.2.1 (by decide))) (by decide)) (by omega))).symm (oh_rowsI (rg_w (lo := 0) (hi := 20) (rn_ltu (u' := 19) (Int32.not_le.mp c_20) hz72_10 u_11.2.2.2.1 (by decide)) (by decide)) (Int32.not_le.mp c_20) u_18)) (by decide)) (by decide)) (oh_posU (rg_w u_11.1 (by decide)) (fun i hi => hLF_72.1 _ (inR_out hi (by decide)) (by omega)) (oh_posU (rg_w u_11.1 (by decide)) (fun i hi => f_15.1 _ (inR_out hi (by decide)) (by omega)) (oh_posU (rg_w u_11.1 (by decide)) (fun i hi => f_8.1 _ (inR_out hi (by decide)) (by omega)) u_11.2.2.2.2)))) (cwV 4 htg (oh_gV q_1326 q_1328 q_56 q_73 q_1329) rfl rfl rfl pdVX7_coinOf ⟨Nat.le_of_ble_eq_true rfl, Nat.le_of_ble_eq_true rfl⟩) hK hP hG hS (va_recv hK hP (ci := 7) (q0 := 0) rfl (oh_wg (Nat.lt_of_lt_of_le (by decide) hn) (sM_0 hT))) rfl hl.1 rfl (Nat.le_of_ble_eq_true rfl) dX7_told__105 ⟨Nat.le_of_ble_eq_true rfl, Nat.le_of_ble_eq_true rfl⟩ (fun r_33 hq_34 => ?_)
              refine lv_goto (tgt := 119) hx hb dX7_told__108 (by decide) ?_
              refine lv_iadd hx hb dX7_told__119 ?_
              refine lv_istore (lv' := [(8, .int (z72_8 + r_33)), (11, .int (Int64.toInt32 (gb (C (16 + (x4).toNatClampNeg)) (z72_10).toNatClampNeg))), (10, .int z72_10), (9, .int z72_9), (7, .int r_5), (0, .ref (a 0)), (1, .int x1), (2, .int x2), (3, .int x3), (4, .int x4), (5, .int x5), (6, .int x6)]) hx hb dX7_told__120 hl (by decide) rfl (fun ls hl => ?_)
              refine lv_iload hx hb dX7_told__122 (lv_at hl 3 rfl) ?_
              refine lv_iconst (v := 1) hx hb dX7_told__124 (by decide) ?_
              refine lv_aload_n hx hb dX7_told__125 rfl (lv_at hl 5 rfl) ?_
              refine va_get (D := D) (ci := 7) (v := .ref (a 9)) (C := RX7) (T := TX7) (N := 29) hx hb htg ig_7 hown hK hP 0 (oh_wg (Nat.lt_of_lt_of_le (by decide) hn) (sM_0 hT)) rfl 10 (by decide) (htg _ q_983) (fun _ h9 => h9) rfl dX7_told__126 ?_
              refine lv_iload hx hb dX7_told__129 (lv_at hl 1 rfl) ?_
              have n_35 : vp_in (Int64.toInt32 (gb (C (16 + (x4).toNatClampNeg)) (z72_10).toNatClampNeg)) 24 := (rg_in (rg_l2i (oh_rgB ((f_8.1 _ (inR_out (b := 16) (N := 8) (vp_lt (rg_in u_11.2.2.1 (by decide))) (by decide)) (by omega))).symm (oh_rowsI (rg_w (lo := 0) (hi := 20) (rn_ltu (u' := 19) (Int32.not_le.mp c_20) hz72_10 u_11.2.2.2.1 (by decide)) (by decide)) (Int32.not_le.mp c_20) u_18)) (by decide)) (by decide))
              have b_36 : (Int64.toInt32 (gb (C (16 + (x4).toNatClampNeg)) (z72_10).toNatClampNeg)).toNatClampNeg < 24 := vp_lt n_35
              refine th_aald hx hb hK hP 9 2 (Nat.lt_of_lt_of_le (by decide) hn) (sM_9 hT) rfl n_35 dX7_told__131 ?_
              refine lv_iconst (v := 5) hx hb dX7_told__132 (by decide) ?_
              refine th_iald hx hb hK hP (24 + (Int64.toInt32 (gb (C (16 + (x4).toNatClampNeg)) (z72_10).toNatClampNeg)).toNatClampNeg) (lt_blk b_36 hn (by decide)) (Eq.trans (Eq.trans (hLF_72.1 (24 + (Int64.toInt32 (gb (C (16 + (x4).toNatClampNeg)) (z72_10).toNatClampNeg)).toNatClampNeg) (by have h9 := b_36; exact inR_out h9 (by decide)) (by omega)) (Eq.trans (f_15.1 (24 + (Int64.toInt32 (gb (C (16 + (x4).toNatClampNeg)) (z72_10).toNatClampNeg)).toNatClampNeg) (by have h9 := b_36; exact inR_out h9 (by decide)) (by omega)) (f_8.1 (24 + (Int64.toInt32 (gb (C (16 + (x4).toNatClampNeg)) (z72_10).toNatClampNeg)).toNatClampNeg) (by have h9 := b_36; exact inR_out h9 (by decide)) (by omega)))) (hT0.broad b_36).1) (rg_in (rg_c (v := 5) (lo := 5) (hi := 5) (by decide)) (by decide)) dX7_told__133 ?_
              refine lv_ishl hx hb dX7_told__134 ?_
              refine lv_ior hx hb dX7_told__135 ?_
              refine lv_istore (lv' := [(9, .int (z72_9 ||| ((1 : Int32) <<< ((ga (C (24 + (Int64.toInt32 (gb (C (16 + (x4).toNatClampNeg)) (z72_10).toNatClampNeg)).toNatClampNeg)) ((5 : Int32)).toNatClampNeg) &&& 31)))), (8, .int (z72_8 + r_33)), (11, .int (Int64.toInt32 (gb (C (16 + (x4).toNatClampNeg)) (z72_10).toNatClampNeg))), (10, .int z72_10), (7, .int r_5), (0, .ref (a 0)), (1, .int x1), (2, .int x2), (3, .int x3), (4, .int x4), (5, .int x5), (6, .int x6)]) hx hb dX7_told__136 hl (by decide) rfl (fun ls hl => ?_)
              refine lv_iinc (v := z72_10 + 1) (lv' := [(10, .int (z72_10 + 1)), (9, .int (z72_9 ||| ((1 : Int32) <<< ((ga (C (24 + (Int64.toInt32 (gb (C (16 + (x4).toNatClampNeg)) (z72_10).toNatClampNeg)).toNatClampNeg)) ((5 : Int32)).toNatClampNeg) &&& 31)))), (8, .int (z72_8 + r_33)), (11, .int (Int64.toInt32 (gb (C (16 + (x4).toNatClampNeg)) (z72_10).toNatClampNeg))), (7, .int r_5), (0, .ref (a 0)), (1, .int x1), (2, .int x2), (3, .int x3), (4, .int x4), (5, .int x5), (6, .int x6)]) hx hb dX7_told__138 hl (k := 3) rfl (by rfl) (by decide) rfl (fun ls hl => ?_)
              refine lv_goto (tgt := 72) hx hb dX7_told__141 (by decide) ?_
              exact ih_72 _ (hd_72 ▸ mu_up 20 (rn_ltu (u' := 19) (Int32.not_le.mp c_20) hz72_10 u_11.2.2.2.1 (by decide)) (by decide)) K72 (z72_10 + 1) (z72_9 ||| ((1 : Int32) <<< ((ga (C (24 + (Int64.toInt32 (gb (C (16 + (x4).toNatClampNeg)) (z72_10).toNatClampNeg)).toNatClampNeg)) ((5 : Int32)).toNatClampNeg) &&& 31))) (z72_8 + r_33) _ _ ls rfl (rg_w (rg_add (lo := 1) (hi := 20) (rn_ltu (u' := 19) (Int32.not_le.mp c_20) hz72_10 u_11.2.2.2.1 (by decide)) (rg_c (v := 1) (lo := 1) (hi := 1) (by decide)) (by decide)) (by decide)) (fun A S Z hA hok hS0 hE => by have w0 : wnT A S x1 x2 x3 x4 x5 = 0 := Eq.trans (Eq.symm (hq_7.2.2 A S hA hS0)) c_10; have hp := wn_0 w0; have k := hq_14.2 A S Z (absM_fr hA hT0 (show fr [(8, 9)] [] C C_6 from (fr_tr fr_rf f_8 (by decide) (by decide))) (by decide) (by decide) (by decide)) hok hp.1.1.1.2 (em_eq hE (fun s hs => (f_8.1 (16 + s) (by have h9 := hs; exact inR_out h9 (by decide)) (by omega)))) hp.2.1 hp.2.2; obtain ⟨gN, hN, ht⟩ := k.2 c_17; have hn : z72_10.toNatClampNeg < x5.toNatClampNeg := (by have h3 := oh_nat (rg_w (lo := 0) (hi := 20) (rn_ltu (u' := 19) (Int32.not_le.mp c_20) hz72_10 u_11.2.2.2.1 (by decide)) (by decide)) (by decide); have h4 := oh_nat (rg_w (lo := 0) (hi := 20) (rn_ltl (l' := 1) (Int32.not_le.mp c_20) hz72_10 u_11.2.2.2.1 (by decide)) (by decide)) (by decide); have h8 := Int32.lt_iff_toInt_lt.mp (Int32.not_le.mp c_20); omega); have ez := (show gb (C (16 + (x4).toNatClampNeg)) (z72_10).toNatClampNeg = Z x4.toNatClampNeg z72_10.toNatClampNeg from (hE _ (sh8 (rg_w (lo := 0) (hi := 7) u_11.2.2.1 (by decide))) hp.2.1).2 _ (by have h4 := oh_nat (rg_w (lo := 0) (hi := 20) (rn_ltu (u' := 19) (Int32.not_le.mp c_20) hz72_10 u_11.2.2.2.1 (by decide)) (by decide)) (by decide); have h5 := Int32.lt_iff_toInt_lt.mp (Int32.not_le.mp c_20); have h6 := hp.2.2; omega)); have hi := hv_72 A S Z hA hok hS0 hE; have ok9 := (fun g (q : twI A x1 x2 (Z x4.toNatClampNeg) x3 z72_10.toNatClampNeg g) => twI_ok hN hn q); obtain ⟨g9, q9, _, _, _⟩ := id hi; have o9 := ok9 g9 q9; obtain ⟨i3, hr3⟩ := n_of hok.1.1 o9.1.1 o9.1.2; exact ts_s hN (rg_w (rg_w (lo := 0) (hi := 20) (rn_ltu (u' := 19) (Int32.not_le.mp c_20) hz72_10 u_11.2.2.2.1 (by decide)) (by decide)) (by decide)) hn hi (fun _ => by have h5 := (hq_34 A (absM_fr hA hT0 (show fr [(8, 9)] [28] C K72 from (fr_tr (fr_tr (fr_tr fr_rf f_8 (by decide) (by decide)) f_15 (by decide) (by decide)) hLF_72 (by decide) (by decide))) (by decide) (by decide) (by decide)) hok hp.1.1.1.2 (by rw [ez]; exact hr3)); rw [ez] at h5; exact h5) (fun q => absurd c_28 q) (by rw [show ga (C (24 + (Int64.toInt32 (gb (C (16 + (x4).toNatClampNeg)) (z72_10).toNatClampNeg)).toNatClampNeg)) ((5 : Int32)).toNatClampNeg = A 0 (Int64.toInt32 (gb (C (16 + (x4).toNatClampNeg)) (z72_10).toNatClampNeg)).toNatClampNeg 5 from colM_v (t := 0) hA (by decide) (rg_w (lo := 0) (hi := 23) (rg_l2i (oh_rgB ((f_8.1 _ (inR_out (b := 16) (N := 8) (vp_lt (rg_in u_11.2.2.1 (by decide))) (by decide)) (by omega))).symm (oh_rowsI (rg_w (lo := 0) (hi := 20) (rn_ltu (u' := 19) (Int32.not_le.mp c_20) hz72_10 u_11.2.2.2.1 (by decide)) (by decide)) (Int32.not_le.mp c_20) u_18)) (by decide)) (by decide)) (by decide) (by rw [ez]; exact hr3) (by unfold vis; omega), ez])) (by have h7 := Int32.lt_iff_toInt_lt.mp (Int32.not_le.mp c_20); have h8 : (z72_10 + 1).toInt = z72_10.toInt + 1 := oh_incr (rn_ltu (u' := 19) (Int32.not_le.mp c_20) hz72_10 u_11.2.2.2.1 (by decide)) (by decide); omega) hT hF hLF_72 hP hD hS (lv_sub hl [0, 1, 2, 4, 5, 6, 7, 8, 9, 10, 11] rfl)
        exact L_72 _ C_13 0 0 0 _ _ ls rfl (rg_w (rg_c (v := 0) (lo := 0) (hi := 0) (by decide)) (by decide)) (fun A S Z hA hok hS0 hE => ts_0) (show (0 : Int32).toInt ≤ x5.toInt from (rg_w (lo := 0) (hi := 20) u_11.2.2.2.1 (by decide)).1) hT hF fr_rf hP hD hS (lv_sub hl [0, 1, 2, 3, 4, 5, 6, 7, 8, 9, 10] rfl)
      · refine lv_aload_n hx hb dX7_told__56 rfl (lv_at hl 1 rfl) ?_
        refine lv_bipush (v := (-5)) hx hb dX7_told__57 (by decide) ?_
        refine tm_V (As := [.int (-5)]) (rest := []) ⟨hx, hb, hml, hown, htg⟩ (c_X7_refuse l D E G _ a C_13 n hn hT ((-5) : Int32) (rg_w (rg_c (v := (-5)) (lo := (-5)) (hi := (-5)) (by decide)) (by decide))) (cwV 1 htg (oh_gV q_1071 q_1073 q_29 q_73 q_1074) rfl rfl rfl pdVX7_refuse ⟨Nat.le_of_ble_eq_true rfl, Nat.le_of_ble_eq_true rfl⟩) hK hP hD hG hS hA (va_recv hK hP (ci := 7) (q0 := 0) rfl (oh_wg (Nat.lt_of_lt_of_le (by decide) hn) (sM_0 hT))) rfl hl.1 rfl (Nat.le_of_ble_eq_true rfl) dX7_told__59 ⟨Nat.le_of_ble_eq_true rfl, Nat.le_of_ble_eq_true rfl⟩ (fun r_37 C_38 H locs hq_39 hP hD hS => ?_)
        obtain ⟨hT, f_40, hq_39⟩ := hq_39
        have hF := fr_tr hF f_40 (by decide) (by decide)
        refine W.widen (k := 0) (n := 0) (Nat.le_refl _) (Nat.le_refl _) ?_
        have t_41 := hT
        rw [hQ]
        exact W.iret (v := r_37) hx hb hr (fun t ht hW => ⟨⟨r_37, C_38, rfl, ⟨hT, hF, ⟨⟨hR.1.fr hF (by decide), hR.2.fr hF (by decide)⟩, (fun A S Z hA hok hS0 hE => by have w0 : wnT A S x1 x2 x3 x4 x5 = 0 := Eq.trans (Eq.symm (hq_7.2.2 A S hA hS0)) c_10; have hp := wn_0 w0; have k := hq_14.2 A S Z (absM_fr hA hT0 (show fr [(8, 9)] [] C C_6 from (fr_tr fr_rf f_8 (by decide) (by decide))) (by decide) (by decide) (by decide)) hok hp.1.1.1.2 (em_eq hE (fun s hs => (f_8.1 (16 + s) (by have h9 := hs; exact inR_out h9 (by decide)) (by omega)))) hp.2.1 hp.2.2; exact Eq.trans (spOt_eq (to_n k.1 c_17 hq_39) toR_u) (Eq.trans (pif_pos (show 0 ≤ x6 ∧ x6 ≤ 3 from (oh_rgI (p := 0) (q := 3) (rg_w (lo := 0) (hi := 3) (rg_il (rgL_i (rg_il (rnL_leu u_4.2 (rnL_lel u_4.1 (rgL_c (v := 0) (lo := 0) (hi := 0) (by decide)) (rgL_i (rg_any _))) (rgL_c (v := 3) (lo := 3) (hi := 3) (by decide)))))) (by decide))))) (pif_pos w0)).symm)⟩⟩, ⟨by rw [ht]; exact hP, hD⟩⟩, hS.F ht⟩) hS.2.2 dX7_told__62
    · refine lv_iload hx hb dX7_told__38 (lv_at hl 0 rfl) ?_
      rw [hQ]
      exact W.iret (v := r_5) hx hb hr (fun t ht hW => ⟨⟨r_5, C_6, rfl, ⟨hT, hF, ⟨hq_7.1, (fun A S Z hA hok hS0 hE => by have w := hq_7.2.2 A S hA hS0; exact Eq.trans w (Eq.trans (pif_pos (show 0 ≤ x6 ∧ x6 ≤ 3 from (oh_rgI (p := 0) (q := 3) (rg_w (lo := 0) (hi := 3) (rg_il (rgL_i (rg_il (rnL_leu u_4.2 (rnL_lel u_4.1 (rgL_c (v := 0) (lo := 0) (hi := 0) (by decide)) (rgL_i (rg_any _))) (rgL_c (v := 3) (lo := 3) (hi := 3) (by decide)))))) (by decide))))) (pif_neg (fun h8 => c_10 (Eq.trans w h8)))).symm)⟩⟩, ⟨by rw [ht]; exact hP, hD⟩⟩, hS.F ht⟩) hS.2.2 dX7_told__40
  · have u_42 := hq_2.2.2 c_3
    refine lv_aload_n hx hb dX7_told__13 rfl (lv_at hl 0 rfl) ?_
    refine lv_bipush (v := (-2)) hx hb dX7_told__14 (by decide) ?_
    refine tm_V (As := [.int (-2)]) (rest := []) ⟨hx, hb, hml, hown, htg⟩ (c_X7_refuse l D E G _ a C n hn hT ((-2) : Int32) (rg_w (rg_c (v := (-2)) (lo := (-2)) (hi := (-2)) (by decide)) (by decide))) (cwV 1 htg (oh_gV q_1071 q_1073 q_29 q_73 q_1074) rfl rfl rfl pdVX7_refuse ⟨Nat.le_of_ble_eq_true rfl, Nat.le_of_ble_eq_true rfl⟩) hK hP hD hG hS hA (va_recv hK hP (ci := 7) (q0 := 0) rfl (oh_wg (Nat.lt_of_lt_of_le (by decide) hn) (sM_0 hT))) rfl hl.1 rfl (Nat.le_of_ble_eq_true rfl) dX7_told__16 ⟨Nat.le_of_ble_eq_true rfl, Nat.le_of_ble_eq_true rfl⟩ (fun r_43 C_44 H locs hq_45 hP hD hS => ?_)
    obtain ⟨hT, f_46, hq_45⟩ := hq_45
    have hF := fr_tr hF f_46 (by decide) (by decide)
    refine W.widen (k := 0) (n := 0) (Nat.le_refl _) (Nat.le_refl _) ?_
    have t_47 := hT
    rw [hQ]
    exact W.iret (v := r_43) hx hb hr (fun t ht hW => ⟨⟨r_43, C_44, rfl, ⟨hT, hF, ⟨⟨hR.1.fr hF (by decide), hR.2.fr hF (by decide)⟩, (fun A S Z hA hok hS0 hE => Eq.trans hq_45 (pif_neg (oh_in64 (l' := 0) (k' := 3) rfl rfl u_42)).symm)⟩⟩, ⟨by rw [ht]; exact hP, hD⟩⟩, hS.F ht⟩) hS.2.2 dX7_told__19
