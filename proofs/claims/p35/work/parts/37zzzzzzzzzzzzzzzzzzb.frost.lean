/-! FULL: waiting for frost -/
def minL (a b : Int64) : Int64 := if b < a then b else a
def fvT (ch co : Int32) (ba fr : Int64) (p : Int64 × Int64) : Int64 × Int64 := (minL (ba * (p.2 * 10)) (Int32.toInt64 co * (p.2 * 10) + (Int32.toInt64 ch * fr * p.2 + Int32.toInt64 (10 - ch) * p.1)), p.2 * 10)
def fvS (ch co : Int32) (ba fr : Int64) : Nat → Int64 × Int64
  | 0 => (ba, 1)
  | k + 1 => fvT ch co ba fr (fvS ch co ba fr k)
theorem fv_s {ch co : Int32} {ba fr : Int64} {z : Int32} (hz : rg z 0 6) : fvS ch co ba fr (z + 1).toNatClampNeg = fvT ch co ba fr (fvS ch co ba fr z.toNatClampNeg) := by
  rw [z_s15 (rg_w hz (by decide))]
  rfl
theorem w_eq (co ch fr d v sc : Int64) : (10 * sc * co + ch * sc * fr) + d * v = co * (sc * 10) + (ch * fr * sc + d * v) := by
  rw [Int64.mul_comm 10 sc, Int64.mul_comm (sc * 10) co, Int64.mul_assoc ch sc fr, Int64.mul_comm sc fr, ← Int64.mul_assoc ch fr sc, Int64.add_assoc]
theorem fv_lt {ch co : Int32} {ba fr v sc : Int64} (c : sc * 10 * ba < (10 * sc * Int32.toInt64 co + Int32.toInt64 ch * sc * fr) + Int32.toInt64 (10 - ch) * v) : (sc * 10 * ba, sc * 10) = fvT ch co ba fr (v, sc) := by
  rw [w_eq, Int64.mul_comm (sc * 10) ba] at c
  have c2 := Int64.lt_iff_toInt_lt.mp c
  have e : minL (ba * (sc * 10)) (Int32.toInt64 co * (sc * 10) + (Int32.toInt64 ch * fr * sc + Int32.toInt64 (10 - ch) * v)) = ba * (sc * 10) := if_neg (fun q => by have q2 := Int64.lt_iff_toInt_lt.mp q; omega)
  show _ = (minL (ba * (sc * 10)) (Int32.toInt64 co * (sc * 10) + (Int32.toInt64 ch * fr * sc + Int32.toInt64 (10 - ch) * v)), sc * 10)
  rw [e, Int64.mul_comm (sc * 10) ba]
theorem fv_ge {ch co : Int32} {ba fr v sc : Int64} (c : (10 * sc * Int32.toInt64 co + Int32.toInt64 ch * sc * fr) + Int32.toInt64 (10 - ch) * v ≤ sc * 10 * ba) : ((10 * sc * Int32.toInt64 co + Int32.toInt64 ch * sc * fr) + Int32.toInt64 (10 - ch) * v, sc * 10) = fvT ch co ba fr (v, sc) := by
  rw [w_eq, Int64.mul_comm (sc * 10) ba] at c
  have c2 := Int64.le_iff_toInt_le.mp c
  have e : minL (ba * (sc * 10)) (Int32.toInt64 co * (sc * 10) + (Int32.toInt64 ch * fr * sc + Int32.toInt64 (10 - ch) * v)) = Int32.toInt64 co * (sc * 10) + (Int32.toInt64 ch * fr * sc + Int32.toInt64 (10 - ch) * v) := by
    unfold minL
    by_cases q : Int32.toInt64 co * (sc * 10) + (Int32.toInt64 ch * fr * sc + Int32.toInt64 (10 - ch) * v) < ba * (sc * 10)
    · rw [if_pos q]
    · rw [if_neg q]
      have q2 := Int64.le_iff_toInt_le.mp (Int64.not_lt.mp q)
      exact Int64.toInt_inj.mp (by omega)
  show _ = (minL (ba * (sc * 10)) (Int32.toInt64 co * (sc * 10) + (Int32.toInt64 ch * fr * sc + Int32.toInt64 (10 - ch) * v)), sc * 10)
  rw [e, w_eq]
noncomputable def spFrost (A : LA) (w s f t d ch co : Int32) : Int64 := pif (okJ A w s f t ∧ (0 ≤ d ∧ d ≤ 6) ∧ (0 ≤ ch ∧ ch ≤ 10) ∧ (0 ≤ co ∧ co ≤ 999)) (pif (hasW (EcA (setA A 2 0) w s 1) f.toNatClampNeg t.toNatClampNeg) (fvS ch co (Int32.toInt64 (lcA (setA A 2 0) w s f t 1)) (Int32.toInt64 (lcA (setA A 2 1) w s f t 1)) d.toNatClampNeg).1 (-5)) (-2)
theorem mc_lc {A : LA} {w s f t n : Int32} (q : hasW (EcA A w s n) f.toNatClampNeg t.toNatClampNeg) : mcA A w s f t n = lcA A w s f t n := Eq.trans (pif_pos q) (pif_pos q).symm
theorem ok_f {A : LA} (h : okA A) {v : Int32} (hv : rg v 0 1) : okA (setA A 2 v) := ok_set h (fun e => absurd e (by decide)) (fun e => absurd e (by decide)) (fun _ => hv)

set_option maxHeartbeats 4000000 in
set_option maxRecDepth 100000 in
theorem e_X6_valueOfWaiting (l : Launch) (D : va_G) (E : Nat → ClassId) (G : Nat → Nat) (x1 : Int64) (x2 : Int64) (x3 : Int32) (x4 : Int32) (x5 : Int32) (hx3 : rg x3 0 6) : Met l yX6_valueOfWaiting (oh_w yX6_valueOfWaiting cX6_valueOfWaiting 14 (some .long)) ({ frames := 1, cells := 0, slots := 0, locals := 15 }) (oh_Pp D E G [.long x1, .long x2, .int x3, .int x4, .int x5] []) (vp_Sl (fun r => (r = (fvS x4 x5 x1 x2 x3.toNatClampNeg).1))) 0 0 (fun _ => False) := by
  refine Met.ofW (cc := cX6_valueOfWaiting) (maxL := 14) (ret := (some .long)) (by decide) rfl ?_
  intro p e s m args below meth c s₁ B hml hv
  obtain ⟨rfl, hP, hK, hG⟩ := hv
  have hx := B.exec
  have hb := B.bytes
  have hr := B.returns
  have hts := atoms_spec (ws := (oh_w yX6_valueOfWaiting cX6_valueOfWaiting 14 (some .long))) B.pre
  have htg : ∀ w ∈ oh_t, w.before _ s = true := fun w h => hts w (List.mem_cons_of_mem _ h)
  have hown : s.vm.findClass RX6 = some m.cls := findClass_of_methodNamed B.named
  have hlocks := B.notSynchronized
  have hS : va_S (fun _ => False) s.heap s.heap [] := va_S.rf
  have hl := lv_entry ([.long x1, .long x2, .int x3, .int x4, .int x5]) (n := 14) (Nat.le_of_ble_eq_true rfl)
  rw [lg_entry_eq]
  generalize (lg_sl ([.long x1, .long x2, .int x3, .int x4, .int x5]) ++ List.replicate (14 - (lg_sl ([.long x1, .long x2, .int x3, .int x4, .int x5])).length) Slot.unset).toArray = ls at hl ⊢
  have hl : lv_has ls 14 [(0, .long x1), (2, .long x2), (4, .int x3), (5, .int x4), (6, .int x5)] := hl
  refine oh_genQ (fun Q hQ => ?_)
  refine lv_lload_n hx hb dX6_valueOfWaiting_0 rfl (lv_at hl 0 rfl) ?_
  refine lv_lstore (lv' := [(7, .long x1), (0, .long x1), (2, .long x2), (4, .int x3), (5, .int x4), (6, .int x5)]) hx hb dX6_valueOfWaiting_1 hl (by decide) rfl (fun ls hl => ?_)
  refine lv_lconst (v := 1) hx hb dX6_valueOfWaiting_3 (by decide) ?_
  refine lv_lstore (lv' := [(9, .long 1), (7, .long x1), (0, .long x1), (2, .long x2), (4, .int x3), (5, .int x4), (6, .int x5)]) hx hb dX6_valueOfWaiting_4 hl (by decide) rfl (fun ls hl => ?_)
  refine lv_iconst (v := 0) hx hb dX6_valueOfWaiting_6 (by decide) ?_
  refine lv_istore (lv' := [(11, .int 0), (9, .long 1), (7, .long x1), (0, .long x1), (2, .long x2), (4, .int x3), (5, .int x4), (6, .int x5)]) hx hb dX6_valueOfWaiting_7 hl (by decide) rfl (fun ls hl => ?_)
  have L_9 : ∀ (d : Nat) (z9_11 : Int32) (z9_9 : Int64) (z9_7 : Int64) (ls : Array Slot), (6 - z9_11.toInt).toNat = d → rg z9_11 0 6 → ((z9_7, z9_9) = fvS x4 x5 x1 x2 z9_11.toNatClampNeg) → (z9_11.toInt ≤ x3.toInt) → lv_has ls 14 [(11, .int z9_11), (9, .long z9_9), (7, .long z9_7), (0, .long x1), (2, .long x2), (4, .int x3), (5, .int x4), (6, .int x5)] → W p l e ({ frames := 1, cells := 0, slots := 0, locals := 15 }) s m (([.long x1, .long x2, .int x3, .int x4, .int x5] : List Value).toArray) below meth c s.heap [] 0 0 Q (F0 m 9 ls []) := by
    intro d
    induction d using Nat.strongRecOn with
    | ind d ih_9 =>
    intro z9_11 z9_9 z9_7 ls hd_9 hz9_11 hx_9 hy_9 hl
    refine lv_iload hx hb dX6_valueOfWaiting_9 (lv_at hl 0 rfl) ?_
    refine lv_iload hx hb dX6_valueOfWaiting_11 (lv_at hl 5 rfl) ?_
    refine lv_icmp_ge (tgt := 68) hx hb dX6_valueOfWaiting_13 (by decide) (fun (c_1 : x3 ≤ z9_11) => ?_) (fun (c_1 : ¬ (x3 ≤ z9_11)) => ?_)
    · refine lv_lload hx hb dX6_valueOfWaiting_68 (lv_at hl 2 rfl) ?_
      rw [hQ]
      exact W.lret (v := z9_7) hx hb hr (fun t ht hW => ⟨z9_7, rfl, (by have h7 := congrArg Prod.fst hx_9; rw [show z9_11 = x3 from Int32.toInt_inj.mp (by have h8 := Int32.le_iff_toInt_le.mp c_1; have h9 := hy_9; omega)] at h7; exact h7), ht⟩) (fun q h => by cases h) dX6_valueOfWaiting_70
    · refine lv_iload hx hb dX6_valueOfWaiting_16 (lv_at hl 6 rfl) ?_
      refine lv_i2l (v := Int32.toInt64 x4) hx hb dX6_valueOfWaiting_18 (by rfl) ?_
      refine lv_lload_n hx hb dX6_valueOfWaiting_19 rfl (lv_at hl 4 rfl) ?_
      refine lv_lmul hx hb dX6_valueOfWaiting_20 ?_
      refine lv_lload hx hb dX6_valueOfWaiting_21 (lv_at hl 1 rfl) ?_
      refine lv_lmul hx hb dX6_valueOfWaiting_23 ?_
      refine lv_bipush (v := 10) hx hb dX6_valueOfWaiting_24 (by decide) ?_
      refine lv_iload hx hb dX6_valueOfWaiting_26 (lv_at hl 6 rfl) ?_
      refine lv_isub hx hb dX6_valueOfWaiting_28 ?_
      refine lv_i2l (v := Int32.toInt64 (10 - x4)) hx hb dX6_valueOfWaiting_29 (by rfl) ?_
      refine lv_lload hx hb dX6_valueOfWaiting_30 (lv_at hl 2 rfl) ?_
      refine lv_lmul hx hb dX6_valueOfWaiting_32 ?_
      refine lv_ladd hx hb dX6_valueOfWaiting_33 ?_
      refine lv_lstore (lv' := [(12, .long ((((Int32.toInt64 x4) * x2) * z9_9) + ((Int32.toInt64 (10 - x4)) * z9_7))), (11, .int z9_11), (9, .long z9_9), (7, .long z9_7), (0, .long x1), (2, .long x2), (4, .int x3), (5, .int x4), (6, .int x5)]) hx hb dX6_valueOfWaiting_34 hl (by decide) rfl (fun ls hl => ?_)
      refine lv_lload hx hb dX6_valueOfWaiting_36 (lv_at hl 2 rfl) ?_
      refine lv_ldc2 (v := 10) hx hb hown (htg _ q_900) dX6_valueOfWaiting_38 ?_
      refine lv_lmul hx hb dX6_valueOfWaiting_41 ?_
      refine lv_lstore (lv' := [(9, .long (z9_9 * 10)), (12, .long ((((Int32.toInt64 x4) * x2) * z9_9) + ((Int32.toInt64 (10 - x4)) * z9_7))), (11, .int z9_11), (7, .long z9_7), (0, .long x1), (2, .long x2), (4, .int x3), (5, .int x4), (6, .int x5)]) hx hb dX6_valueOfWaiting_42 hl (by decide) rfl (fun ls hl => ?_)
      refine lv_lload_n hx hb dX6_valueOfWaiting_44 rfl (lv_at hl 4 rfl) ?_
      refine lv_lload hx hb dX6_valueOfWaiting_45 (lv_at hl 0 rfl) ?_
      refine lv_lmul hx hb dX6_valueOfWaiting_47 ?_
      refine lv_iload hx hb dX6_valueOfWaiting_48 (lv_at hl 8 rfl) ?_
      refine lv_i2l (v := Int32.toInt64 x5) hx hb dX6_valueOfWaiting_50 (by rfl) ?_
      refine lv_lload hx hb dX6_valueOfWaiting_51 (lv_at hl 0 rfl) ?_
      refine lv_lmul hx hb dX6_valueOfWaiting_53 ?_
      refine lv_lload hx hb dX6_valueOfWaiting_54 (lv_at hl 1 rfl) ?_
      refine lv_ladd hx hb dX6_valueOfWaiting_56 ?_
      refine va_mmin_long hx hb (by rw [hml]; exact hl.1.symm) hown (htg _ q_901) (htg _ q_902) (htg _ q_79) (htg _ q_903) (Nat.le_of_ble_eq_true rfl) (Nat.le_of_ble_eq_true rfl) (Nat.le_of_ble_eq_true rfl) (Nat.le_of_ble_eq_true rfl) dX6_valueOfWaiting_57 ?_
      refine lv_lstore (lv' := [(7, .long (if ((Int32.toInt64 x5) * (z9_9 * 10)) + ((((Int32.toInt64 x4) * x2) * z9_9) + ((Int32.toInt64 (10 - x4)) * z9_7)) < x1 * (z9_9 * 10) then ((Int32.toInt64 x5) * (z9_9 * 10)) + ((((Int32.toInt64 x4) * x2) * z9_9) + ((Int32.toInt64 (10 - x4)) * z9_7)) else x1 * (z9_9 * 10))), (9, .long (z9_9 * 10)), (12, .long ((((Int32.toInt64 x4) * x2) * z9_9) + ((Int32.toInt64 (10 - x4)) * z9_7))), (11, .int z9_11), (0, .long x1), (2, .long x2), (4, .int x3), (5, .int x4), (6, .int x5)]) hx hb dX6_valueOfWaiting_60 hl (by decide) rfl (fun ls hl => ?_)
      refine lv_iinc (v := z9_11 + 1) (lv' := [(11, .int (z9_11 + 1)), (7, .long (if ((Int32.toInt64 x5) * (z9_9 * 10)) + ((((Int32.toInt64 x4) * x2) * z9_9) + ((Int32.toInt64 (10 - x4)) * z9_7)) < x1 * (z9_9 * 10) then ((Int32.toInt64 x5) * (z9_9 * 10)) + ((((Int32.toInt64 x4) * x2) * z9_9) + ((Int32.toInt64 (10 - x4)) * z9_7)) else x1 * (z9_9 * 10))), (9, .long (z9_9 * 10)), (12, .long ((((Int32.toInt64 x4) * x2) * z9_9) + ((Int32.toInt64 (10 - x4)) * z9_7))), (0, .long x1), (2, .long x2), (4, .int x3), (5, .int x4), (6, .int x5)]) hx hb dX6_valueOfWaiting_62 hl (k := 3) rfl (by rfl) (by decide) rfl (fun ls hl => ?_)
      refine lv_goto (tgt := 9) hx hb dX6_valueOfWaiting_65 (by decide) ?_
      exact ih_9 _ (hd_9 ▸ mu_up 6 (rn_ltu (u' := 5) (Int32.not_le.mp c_1) hz9_11 hx3 (by decide)) (by decide)) (z9_11 + 1) (z9_9 * 10) (if ((Int32.toInt64 x5) * (z9_9 * 10)) + ((((Int32.toInt64 x4) * x2) * z9_9) + ((Int32.toInt64 (10 - x4)) * z9_7)) < x1 * (z9_9 * 10) then ((Int32.toInt64 x5) * (z9_9 * 10)) + ((((Int32.toInt64 x4) * x2) * z9_9) + ((Int32.toInt64 (10 - x4)) * z9_7)) else x1 * (z9_9 * 10)) ls rfl (rg_w (rg_add (lo := 1) (hi := 6) (rn_ltu (u' := 5) (Int32.not_le.mp c_1) hz9_11 hx3 (by decide)) (rg_c (v := 1) (lo := 1) (hi := 1) (by decide)) (by decide)) (by decide)) (by rw [fv_s (rg_w (lo := 0) (hi := 6) (rn_ltu (u' := 5) (Int32.not_le.mp c_1) hz9_11 hx3 (by decide)) (by decide)), ← hx_9]; rfl) (by have h7 := Int32.lt_iff_toInt_lt.mp (Int32.not_le.mp c_1); have h8 : (z9_11 + 1).toInt = z9_11.toInt + 1 := oh_incr (rn_ltu (u' := 5) (Int32.not_le.mp c_1) hz9_11 hx3 (by decide)) (by decide); omega) (lv_sub hl [0, 2, 1, 4, 5, 6, 7, 8] rfl)
  exact L_9 _ 0 1 x1 ls rfl (rg_w (rg_c (v := 0) (lo := 0) (hi := 0) (by decide)) (by decide)) rfl hx3.1 (lv_sub hl [0, 1, 2, 3, 4, 5, 6, 7] rfl)

set_option maxHeartbeats 4000000 in
set_option maxRecDepth 100000 in
theorem e2_X6_frost (l : Launch) (D : va_G) (E : Nat → ClassId) (G : Nat → Nat) (sz : Nat) (a : Nat → Nat) (C : Nat → va_E) (hT : TyX a E C) (x1 : Int32) (x2 : Int32) (x3 : Int32) (x4 : Int32) (x5 : Int32) (x6 : Int32) (x7 : Int32) : Met l yX6_frost (oh_w yX6_frost cX6_frost 11 (some .long)) ({ frames := 5, cells := 0, slots := 0, locals := 125 }) (oh_Pm D E G [.ref (a 0), .int x1, .int x2, .int x3, .int x4, .int x5, .int x6, .int x7] (oh_W 35 a C) sz) (va_Ql (fun r (u : Nat → va_E) => TyX a E u ∧ fr [(7, 8), (9, 10), (15, 16), (24, 28)] [] C u ∧ (ga (u 15) = ga (C 15)) ∧ (∀ A : LA, absX 10 C A → okA A → r = spFrost A x1 x2 x3 x4 x5 x6 x7)) (oh_B D (va_A (oh_W 35 a C) sz) (fun u => oh_W 35 a u)) (va_A (oh_W 35 a C) sz)) 0 0 (va_A (oh_W 35 a C) sz) := by
  refine Met.ofW (cc := cX6_frost) (maxL := 11) (ret := (some .long)) (by decide) rfl ?_
  intro p e s m args below meth c s₁ B hml hv
  obtain ⟨rfl, hsz, hP, hK, hD0, hG⟩ := hv
  have hx := B.exec
  have hb := B.bytes
  have hr := B.returns
  have hts := atoms_spec (ws := (oh_w yX6_frost cX6_frost 11 (some .long))) B.pre
  have htg : ∀ w ∈ oh_t, w.before _ s = true := fun w h => hts w (List.mem_cons_of_mem _ h)
  have hown : s.vm.findClass RX6 = some m.cls := findClass_of_methodNamed B.named
  have hlocks := B.notSynchronized
  have hT0 := hT
  subst hsz
  have hD := hD0.self (sz := s.heap.size)
  generalize hAe : va_A (oh_W 35 a C) s.heap.size = A at hD hG ⊢
  have hA : ∀ q : Nat, s.heap.size ≤ q → A q := fun q h => by rw [← hAe]; exact Or.inr h
  have hS : va_S A s.heap s.heap [] := va_S.rf
  have hF : fr [(7, 8), (9, 10), (15, 16), (24, 28)] [] C C := fr_rf
  have hl := lv_entry ([.ref (a 0), .int x1, .int x2, .int x3, .int x4, .int x5, .int x6, .int x7]) (n := 11) (Nat.le_of_ble_eq_true rfl)
  rw [lg_entry_eq]
  generalize (lg_sl ([.ref (a 0), .int x1, .int x2, .int x3, .int x4, .int x5, .int x6, .int x7]) ++ List.replicate (11 - (lg_sl ([.ref (a 0), .int x1, .int x2, .int x3, .int x4, .int x5, .int x6, .int x7])).length) Slot.unset).toArray = ls at hl ⊢
  have hl : lv_has ls 11 [(0, .ref (a 0)), (1, .int x1), (2, .int x2), (3, .int x3), (4, .int x4), (5, .int x5), (6, .int x6), (7, .int x7)] := hl
  refine oh_genQ (fun Q hQ => ?_)
  refine lv_aload_n hx hb dX6_frost_0 rfl (lv_at hl 0 rfl) ?_
  refine lv_iload_n hx hb dX6_frost_1 rfl (lv_at hl 1 rfl) ?_
  refine lv_iload_n hx hb dX6_frost_2 rfl (lv_at hl 2 rfl) ?_
  refine lv_iload_n hx hb dX6_frost_3 rfl (lv_at hl 3 rfl) ?_
  refine lv_iload hx hb dX6_frost_4 (lv_at hl 4 rfl) ?_
  refine tq_V (As := [.int x1, .int x2, .int x3, .int x4]) (rest := []) (ws := (oh_W 35 a C)) ⟨hx, hb, hml, hown, htg⟩ (e_X6_isJourney l D E G a C hT x1 x2 x3 x4) (cwV 4 htg (oh_gV q_776 q_778 q_17 q_66 q_779) rfl rfl rfl pdVX6_isJourney ⟨Nat.le_of_ble_eq_true rfl, Nat.le_of_ble_eq_true rfl⟩) hK hP hG hS (va_recv hK hP (ci := 6) (q0 := 0) rfl (oh_wg (by decide) (sX_0 hT))) rfl hl.1 rfl (Nat.le_of_ble_eq_true rfl) dX6_frost_6 ⟨Nat.le_of_ble_eq_true rfl, Nat.le_of_ble_eq_true rfl⟩ (fun r_1 hq_2 => ?_)
  refine lv_if_eq (tgt := 46) hx hb dX6_frost_9 (by decide) (fun (c_3 : r_1 = 0) => ?_) (fun (c_3 : ¬ (r_1 = 0)) => ?_)
  · have u_4 := hq_2.2.2 c_3
    refine lv_aload_n hx hb dX6_frost_46 rfl (lv_at hl 0 rfl) ?_
    refine lv_bipush (v := (-2)) hx hb dX6_frost_47 (by decide) ?_
    refine tm_V (As := [.int (-2)]) (rest := []) ⟨hx, hb, hml, hown, htg⟩ (c_X6_refuse l D E G _ a C hT ((-2) : Int32)) (cwV 1 htg (oh_gV q_296 q_298 q_0 q_66 q_299) rfl rfl rfl pdVX6_refuse ⟨Nat.le_of_ble_eq_true rfl, Nat.le_of_ble_eq_true rfl⟩) hK hP hD hG hS hA (va_recv hK hP (ci := 6) (q0 := 0) rfl (oh_wg (by decide) (sX_0 hT))) rfl hl.1 rfl (Nat.le_of_ble_eq_true rfl) dX6_frost_49 ⟨Nat.le_of_ble_eq_true rfl, Nat.le_of_ble_eq_true rfl⟩ (fun r_5 C_6 H locs hq_7 hP hD hS => ?_)
    obtain ⟨hT, f_8, hq_7⟩ := hq_7
    have hF := fr_tr hF f_8 (by decide) (by decide)
    refine W.widen (k := 0) (n := 0) (Nat.le_refl _) (Nat.le_refl _) ?_
    have t_9 := hT
    refine lv_i2l (v := Int32.toInt64 r_5) hx hb dX6_frost_52 (by rfl) ?_
    rw [hQ]
    exact W.lret (v := Int32.toInt64 r_5) hx hb hr (fun t ht hW => ⟨⟨Int32.toInt64 r_5, C_6, rfl, ⟨hT, hF, ⟨(congrArg ga (f_8.1 15 rfl (by decide))), (fun A hA hok => Eq.trans (show Int32.toInt64 r_5 = (-2 : Int64) by rw [hq_7]; rfl) (pif_neg (fun h8 => by have h7 := h8.1; unfold okJ at h7; rw [← (show ga (C 10) ((2 : Int32)).toNatClampNeg = A 5 0 2 from hA.1 2 (by decide)), ← (show ga (C 10) ((3 : Int32)).toNatClampNeg = A 5 0 3 from hA.1 3 (by decide))] at h7; exact u_4 h7)).symm)⟩⟩, ⟨by rw [ht]; exact hP, hD⟩⟩, hS.F ht⟩) hS.2.2 dX6_frost_53
  · have u_10 := hq_2.2.1 c_3
    refine lv_iload hx hb dX6_frost_12 (lv_at hl 5 rfl) ?_
    refine lv_iconst (v := 0) hx hb dX6_frost_14 (by decide) ?_
    refine lv_bipush (v := 6) hx hb dX6_frost_15 (by decide) ?_
    refine tq_S (As := [.int x5, .int 0, .int 6]) (rest := []) (ws := []) ⟨hx, hb, hml, hown, htg⟩ (c_X6_within l D E G x5 (0 : Int32) (6 : Int32)) (va_cwS 3 htg (oh_gS q_293 q_294 q_66 q_295) rfl rfl rfl pdX6_within ⟨Nat.le_of_ble_eq_true rfl, Nat.le_of_ble_eq_true rfl⟩) hK va_nil hG hS rfl hl.1 rfl (Nat.le_of_ble_eq_true rfl) dX6_frost_17 ⟨Nat.le_of_ble_eq_true rfl, Nat.le_of_ble_eq_true rfl⟩ (fun r_11 hq_12 => ?_)
    refine lv_if_eq (tgt := 46) hx hb dX6_frost_20 (by decide) (fun (c_13 : r_11 = 0) => ?_) (fun (c_13 : ¬ (r_11 = 0)) => ?_)
    · have u_14 := hq_12.2.2 c_13
      refine lv_aload_n hx hb dX6_frost_46 rfl (lv_at hl 0 rfl) ?_
      refine lv_bipush (v := (-2)) hx hb dX6_frost_47 (by decide) ?_
      refine tm_V (As := [.int (-2)]) (rest := []) ⟨hx, hb, hml, hown, htg⟩ (c_X6_refuse l D E G _ a C hT ((-2) : Int32)) (cwV 1 htg (oh_gV q_296 q_298 q_0 q_66 q_299) rfl rfl rfl pdVX6_refuse ⟨Nat.le_of_ble_eq_true rfl, Nat.le_of_ble_eq_true rfl⟩) hK hP hD hG hS hA (va_recv hK hP (ci := 6) (q0 := 0) rfl (oh_wg (by decide) (sX_0 hT))) rfl hl.1 rfl (Nat.le_of_ble_eq_true rfl) dX6_frost_49 ⟨Nat.le_of_ble_eq_true rfl, Nat.le_of_ble_eq_true rfl⟩ (fun r_15 C_16 H locs hq_17 hP hD hS => ?_)
      obtain ⟨hT, f_18, hq_17⟩ := hq_17
      have hF := fr_tr hF f_18 (by decide) (by decide)
      refine W.widen (k := 0) (n := 0) (Nat.le_refl _) (Nat.le_refl _) ?_
      have t_19 := hT
      refine lv_i2l (v := Int32.toInt64 r_15) hx hb dX6_frost_52 (by rfl) ?_
      rw [hQ]
      exact W.lret (v := Int32.toInt64 r_15) hx hb hr (fun t ht hW => ⟨⟨Int32.toInt64 r_15, C_16, rfl, ⟨hT, hF, ⟨(congrArg ga (f_18.1 15 rfl (by decide))), (fun A hA hok => Eq.trans (show Int32.toInt64 r_15 = (-2 : Int64) by rw [hq_17]; rfl) (pif_neg (fun h8 => u_14 h8.2.1)).symm)⟩⟩, ⟨by rw [ht]; exact hP, hD⟩⟩, hS.F ht⟩) hS.2.2 dX6_frost_53
    · have u_20 := hq_12.2.1 c_13
      refine lv_iload hx hb dX6_frost_23 (lv_at hl 6 rfl) ?_
      refine lv_iconst (v := 0) hx hb dX6_frost_25 (by decide) ?_
      refine lv_bipush (v := 10) hx hb dX6_frost_26 (by decide) ?_
      refine tq_S (As := [.int x6, .int 0, .int 10]) (rest := []) (ws := []) ⟨hx, hb, hml, hown, htg⟩ (c_X6_within l D E G x6 (0 : Int32) (10 : Int32)) (va_cwS 3 htg (oh_gS q_293 q_294 q_66 q_295) rfl rfl rfl pdX6_within ⟨Nat.le_of_ble_eq_true rfl, Nat.le_of_ble_eq_true rfl⟩) hK va_nil hG hS rfl hl.1 rfl (Nat.le_of_ble_eq_true rfl) dX6_frost_28 ⟨Nat.le_of_ble_eq_true rfl, Nat.le_of_ble_eq_true rfl⟩ (fun r_21 hq_22 => ?_)
      refine lv_if_eq (tgt := 46) hx hb dX6_frost_31 (by decide) (fun (c_23 : r_21 = 0) => ?_) (fun (c_23 : ¬ (r_21 = 0)) => ?_)
      · have u_24 := hq_22.2.2 c_23
        refine lv_aload_n hx hb dX6_frost_46 rfl (lv_at hl 0 rfl) ?_
        refine lv_bipush (v := (-2)) hx hb dX6_frost_47 (by decide) ?_
        refine tm_V (As := [.int (-2)]) (rest := []) ⟨hx, hb, hml, hown, htg⟩ (c_X6_refuse l D E G _ a C hT ((-2) : Int32)) (cwV 1 htg (oh_gV q_296 q_298 q_0 q_66 q_299) rfl rfl rfl pdVX6_refuse ⟨Nat.le_of_ble_eq_true rfl, Nat.le_of_ble_eq_true rfl⟩) hK hP hD hG hS hA (va_recv hK hP (ci := 6) (q0 := 0) rfl (oh_wg (by decide) (sX_0 hT))) rfl hl.1 rfl (Nat.le_of_ble_eq_true rfl) dX6_frost_49 ⟨Nat.le_of_ble_eq_true rfl, Nat.le_of_ble_eq_true rfl⟩ (fun r_25 C_26 H locs hq_27 hP hD hS => ?_)
        obtain ⟨hT, f_28, hq_27⟩ := hq_27
        have hF := fr_tr hF f_28 (by decide) (by decide)
        refine W.widen (k := 0) (n := 0) (Nat.le_refl _) (Nat.le_refl _) ?_
        have t_29 := hT
        refine lv_i2l (v := Int32.toInt64 r_25) hx hb dX6_frost_52 (by rfl) ?_
        rw [hQ]
        exact W.lret (v := Int32.toInt64 r_25) hx hb hr (fun t ht hW => ⟨⟨Int32.toInt64 r_25, C_26, rfl, ⟨hT, hF, ⟨(congrArg ga (f_28.1 15 rfl (by decide))), (fun A hA hok => Eq.trans (show Int32.toInt64 r_25 = (-2 : Int64) by rw [hq_27]; rfl) (pif_neg (fun h8 => u_24 h8.2.2.1)).symm)⟩⟩, ⟨by rw [ht]; exact hP, hD⟩⟩, hS.F ht⟩) hS.2.2 dX6_frost_53
      · have u_30 := hq_22.2.1 c_23
        refine lv_iload hx hb dX6_frost_34 (lv_at hl 7 rfl) ?_
        refine lv_iconst (v := 0) hx hb dX6_frost_36 (by decide) ?_
        refine lv_sipush (v := 999) hx hb dX6_frost_37 (by decide) ?_
        refine tq_S (As := [.int x7, .int 0, .int 999]) (rest := []) (ws := []) ⟨hx, hb, hml, hown, htg⟩ (c_X6_within l D E G x7 (0 : Int32) (999 : Int32)) (va_cwS 3 htg (oh_gS q_293 q_294 q_66 q_295) rfl rfl rfl pdX6_within ⟨Nat.le_of_ble_eq_true rfl, Nat.le_of_ble_eq_true rfl⟩) hK va_nil hG hS rfl hl.1 rfl (Nat.le_of_ble_eq_true rfl) dX6_frost_40 ⟨Nat.le_of_ble_eq_true rfl, Nat.le_of_ble_eq_true rfl⟩ (fun r_31 hq_32 => ?_)
        refine lv_if_ne (tgt := 54) hx hb dX6_frost_43 (by decide) (fun (c_33 : ¬ (r_31 = 0)) => ?_) (fun (c_33 : r_31 = 0) => ?_)
        · have u_34 := hq_32.2.1 c_33
          refine lv_aload_n hx hb dX6_frost_54 rfl (lv_at hl 0 rfl) ?_
          refine va_get (D := D) (ci := 6) (v := .ref (a 1)) (C := RX6) (T := TX6) (N := 9) hx hb htg ig_6 hown hK hP 0 (oh_wg (by decide) (sX_0 hT)) rfl 0 (by decide) (htg _ q_258) (fun _ h9 => h9) rfl dX6_frost_55 ?_
          refine va_get (D := D) (ci := 0) (v := .ref (a 15)) (C := RX0) (T := TX0) (N := 8) hx hb htg ig_0 hown hK hP 1 (oh_wg (by decide) (sX_1 hT)) rfl 5 (by decide) (htg _ q_110) (fun _ h9 => h9) rfl dX6_frost_58 ?_
          refine lv_iconst (v := 2) hx hb dX6_frost_61 (by decide) ?_
          refine th_iald hx hb hK hP 15 (by decide) (sX_15 hT) (rg_in (rg_c (v := 2) (lo := 2) (hi := 2) (by decide)) (by decide)) dX6_frost_62 ?_
          refine lv_istore (lv' := [(8, .int (ga (C 15) ((2 : Int32)).toNatClampNeg)), (0, .ref (a 0)), (1, .int x1), (2, .int x2), (3, .int x3), (4, .int x4), (5, .int x5), (6, .int x6), (7, .int x7)]) hx hb dX6_frost_63 hl (by decide) rfl (fun ls hl => ?_)
          refine lv_aload_n hx hb dX6_frost_65 rfl (lv_at hl 1 rfl) ?_
          refine va_get (D := D) (ci := 6) (v := .ref (a 1)) (C := RX6) (T := TX6) (N := 9) hx hb htg ig_6 hown hK hP 0 (oh_wg (by decide) (sX_0 hT)) rfl 0 (by decide) (htg _ q_258) (fun _ h9 => h9) rfl dX6_frost_66 ?_
          refine va_get (D := D) (ci := 0) (v := .ref (a 15)) (C := RX0) (T := TX0) (N := 8) hx hb htg ig_0 hown hK hP 1 (oh_wg (by decide) (sX_1 hT)) rfl 5 (by decide) (htg _ q_110) (fun _ h9 => h9) rfl dX6_frost_69 ?_
          refine lv_iconst (v := 2) hx hb dX6_frost_72 (by decide) ?_
          refine lv_iconst (v := 0) hx hb dX6_frost_73 (by decide) ?_
          refine th_iast (T := TyX a E) (Rl := fr [(7, 8), (9, 10), (15, 16), (24, 28)] [] C) hx hb hK hP hD hS 15 (by decide) (sX_15 hT) (rg_in (rg_c (v := 2) (lo := 2) (hi := 2) (by decide)) (by decide)) (hT.up 15 (tA_upd (tX_15 hT) tA_any)) (fr_st hF (by decide) (by decide)) dX6_frost_74 (fun C_35 H locs e_36 hT hF hP hD hS => ?_)
          have t_37 := hT
          refine lv_aload_n hx hb dX6_frost_75 rfl (lv_at hl 1 rfl) ?_
          refine va_get (D := D) (ci := 6) (v := .ref (a 3)) (C := RX6) (T := TX6) (N := 9) hx hb htg ig_6 hown hK hP 0 (oh_wg (by decide) (sX_0 hT)) rfl 3 (by decide) (htg _ q_261) (fun _ h9 => h9) rfl dX6_frost_76 ?_
          refine lv_iload_n hx hb dX6_frost_79 rfl (lv_at hl 2 rfl) ?_
          refine lv_iload_n hx hb dX6_frost_80 rfl (lv_at hl 3 rfl) ?_
          refine lv_iload_n hx hb dX6_frost_81 rfl (lv_at hl 4 rfl) ?_
          refine lv_iload hx hb dX6_frost_82 (lv_at hl 5 rfl) ?_
          refine lv_iconst (v := 1) hx hb dX6_frost_84 (by decide) ?_
          refine tm_V (As := [.int x1, .int x2, .int x3, .int x4, .int 1]) (rest := []) ⟨hx, hb, hml, hown, htg⟩ (e_X5_leastCoin l D E G _ a C_35 hT x1 x2 x3 x4 (1 : Int32) (rg_w u_10.1 (by decide)) (rg_w u_10.2.1 (by decide)) (rg_w u_10.2.2.1 (by decide))) (cwV 5 htg (oh_gV q_780 q_781 q_782 q_68 q_783) rfl rfl rfl pdVX5_leastCoin ⟨Nat.le_of_ble_eq_true rfl, Nat.le_of_ble_eq_true rfl⟩) hK hP hD hG hS hA (va_recv hK hP (ci := 5) (q0 := 3) rfl (oh_wg (by decide) (sX_3 hT))) rfl hl.1 rfl (Nat.le_of_ble_eq_true rfl) dX6_frost_85 ⟨Nat.le_of_ble_eq_true rfl, Nat.le_of_ble_eq_true rfl⟩ (fun r_38 C_39 H locs hq_40 hP hD hS => ?_)
          obtain ⟨hT, f_41, hq_40⟩ := hq_40
          have hF := fr_tr hF f_41 (by decide) (by decide)
          refine W.widen (k := 0) (n := 0) (Nat.le_refl _) (Nat.le_refl _) ?_
          have t_42 := hT
          refine lv_istore (lv' := [(9, .int r_38), (8, .int (ga (C 15) ((2 : Int32)).toNatClampNeg)), (0, .ref (a 0)), (1, .int x1), (2, .int x2), (3, .int x3), (4, .int x4), (5, .int x5), (6, .int x6), (7, .int x7)]) hx hb dX6_frost_88 hl (by decide) rfl (fun ls hl => ?_)
          refine lv_aload_n hx hb dX6_frost_90 rfl (lv_at hl 2 rfl) ?_
          refine va_get (D := D) (ci := 6) (v := .ref (a 1)) (C := RX6) (T := TX6) (N := 9) hx hb htg ig_6 hown hK hP 0 (oh_wg (by decide) (sX_0 hT)) rfl 0 (by decide) (htg _ q_258) (fun _ h9 => h9) rfl dX6_frost_91 ?_
          refine va_get (D := D) (ci := 0) (v := .ref (a 15)) (C := RX0) (T := TX0) (N := 8) hx hb htg ig_0 hown hK hP 1 (oh_wg (by decide) (sX_1 hT)) rfl 5 (by decide) (htg _ q_110) (fun _ h9 => h9) rfl dX6_frost_94 ?_
          refine lv_iconst (v := 2) hx hb dX6_frost_97 (by decide) ?_
          refine lv_iconst (v := 1) hx hb dX6_frost_98 (by decide) ?_
          refine th_iast (T := TyX a E) (Rl := fr [(7, 8), (9, 10), (15, 16), (24, 28)] [] C) hx hb hK hP hD hS 15 (by decide) (sX_15 hT) (rg_in (rg_c (v := 2) (lo := 2) (hi := 2) (by decide)) (by decide)) (hT.up 15 (tA_upd (tX_15 hT) tA_any)) (fr_st hF (by decide) (by decide)) dX6_frost_99 (fun C_43 H locs e_44 hT hF hP hD hS => ?_)
          have t_45 := hT
          refine lv_aload_n hx hb dX6_frost_100 rfl (lv_at hl 2 rfl) ?_
          refine va_get (D := D) (ci := 6) (v := .ref (a 3)) (C := RX6) (T := TX6) (N := 9) hx hb htg ig_6 hown hK hP 0 (oh_wg (by decide) (sX_0 hT)) rfl 3 (by decide) (htg _ q_261) (fun _ h9 => h9) rfl dX6_frost_101 ?_
          refine lv_iload_n hx hb dX6_frost_104 rfl (lv_at hl 3 rfl) ?_
          refine lv_iload_n hx hb dX6_frost_105 rfl (lv_at hl 4 rfl) ?_
          refine lv_iload_n hx hb dX6_frost_106 rfl (lv_at hl 5 rfl) ?_
          refine lv_iload hx hb dX6_frost_107 (lv_at hl 6 rfl) ?_
          refine lv_iconst (v := 1) hx hb dX6_frost_109 (by decide) ?_
          refine tm_V (As := [.int x1, .int x2, .int x3, .int x4, .int 1]) (rest := []) ⟨hx, hb, hml, hown, htg⟩ (e_X5_leastCoin l D E G _ a C_43 hT x1 x2 x3 x4 (1 : Int32) (rg_w u_10.1 (by decide)) (rg_w u_10.2.1 (by decide)) (rg_w u_10.2.2.1 (by decide))) (cwV 5 htg (oh_gV q_780 q_781 q_782 q_68 q_783) rfl rfl rfl pdVX5_leastCoin ⟨Nat.le_of_ble_eq_true rfl, Nat.le_of_ble_eq_true rfl⟩) hK hP hD hG hS hA (va_recv hK hP (ci := 5) (q0 := 3) rfl (oh_wg (by decide) (sX_3 hT))) rfl hl.1 rfl (Nat.le_of_ble_eq_true rfl) dX6_frost_110 ⟨Nat.le_of_ble_eq_true rfl, Nat.le_of_ble_eq_true rfl⟩ (fun r_46 C_47 H locs hq_48 hP hD hS => ?_)
          obtain ⟨hT, f_49, hq_48⟩ := hq_48
          have hF := fr_tr hF f_49 (by decide) (by decide)
          refine W.widen (k := 0) (n := 0) (Nat.le_refl _) (Nat.le_refl _) ?_
          have t_50 := hT
          refine lv_istore (lv' := [(10, .int r_46), (9, .int r_38), (8, .int (ga (C 15) ((2 : Int32)).toNatClampNeg)), (0, .ref (a 0)), (1, .int x1), (2, .int x2), (3, .int x3), (4, .int x4), (5, .int x5), (6, .int x6), (7, .int x7)]) hx hb dX6_frost_113 hl (by decide) rfl (fun ls hl => ?_)
          refine lv_aload_n hx hb dX6_frost_115 rfl (lv_at hl 3 rfl) ?_
          refine va_get (D := D) (ci := 6) (v := .ref (a 1)) (C := RX6) (T := TX6) (N := 9) hx hb htg ig_6 hown hK hP 0 (oh_wg (by decide) (sX_0 hT)) rfl 0 (by decide) (htg _ q_258) (fun _ h9 => h9) rfl dX6_frost_116 ?_
          refine va_get (D := D) (ci := 0) (v := .ref (a 15)) (C := RX0) (T := TX0) (N := 8) hx hb htg ig_0 hown hK hP 1 (oh_wg (by decide) (sX_1 hT)) rfl 5 (by decide) (htg _ q_110) (fun _ h9 => h9) rfl dX6_frost_119 ?_
          refine lv_iconst (v := 2) hx hb dX6_frost_122 (by decide) ?_
          refine lv_iload hx hb dX6_frost_123 (lv_at hl 2 rfl) ?_
          refine th_iast (T := TyX a E) (Rl := fr [(7, 8), (9, 10), (15, 16), (24, 28)] [] C) hx hb hK hP hD hS 15 (by decide) (sX_15 hT) (rg_in (rg_c (v := 2) (lo := 2) (hi := 2) (by decide)) (by decide)) (hT.up 15 (tA_upd (tX_15 hT) tA_any)) (fr_st hF (by decide) (by decide)) dX6_frost_125 (fun C_51 H locs e_52 hT hF hP hD hS => ?_)
          have t_53 := hT
          refine lv_iload hx hb dX6_frost_126 (lv_at hl 1 rfl) ?_
          refine lv_ldc (v := 1000000000) hx hb hown (htg _ q_803) dX6_frost_128 ?_
          refine lv_icmp_ne (tgt := 143) hx hb dX6_frost_130 (by decide) (fun (c_54 : ¬ (r_38 = 1000000000)) => ?_) (fun (c_54 : r_38 = 1000000000) => ?_)
          · refine lv_iload hx hb dX6_frost_143 (lv_at hl 1 rfl) ?_
            refine lv_i2l (v := Int32.toInt64 r_38) hx hb dX6_frost_145 (by rfl) ?_
            refine lv_iload hx hb dX6_frost_146 (lv_at hl 0 rfl) ?_
            refine lv_i2l (v := Int32.toInt64 r_46) hx hb dX6_frost_148 (by rfl) ?_
            refine lv_iload hx hb dX6_frost_149 (lv_at hl 8 rfl) ?_
            refine lv_iload hx hb dX6_frost_151 (lv_at hl 9 rfl) ?_
            refine lv_iload hx hb dX6_frost_153 (lv_at hl 10 rfl) ?_
            refine tq_Sl (As := [.long (Int32.toInt64 r_38), .long (Int32.toInt64 r_46), .int x5, .int x6, .int x7]) (rest := []) (ws := []) ⟨hx, hb, hml, hown, htg⟩ (e_X6_valueOfWaiting l D E G (Int32.toInt64 r_38) (Int32.toInt64 r_46) x5 x6 x7 (rg_w (rn_leu u_20.2 (rn_lel u_20.1 (rg_c (v := 0) (lo := 0) (hi := 0) (by decide)) (rg_any _)) (rg_c (v := 6) (lo := 6) (hi := 6) (by decide))) (by decide))) (va_cwS 5 htg (oh_gS q_897 q_898 q_66 q_899) rfl rfl rfl pdX6_valueOfWaiting ⟨Nat.le_of_ble_eq_true rfl, Nat.le_of_ble_eq_true rfl⟩) hK va_nil hG hS rfl hl.1 rfl (Nat.le_of_ble_eq_true rfl) dX6_frost_155 ⟨Nat.le_of_ble_eq_true rfl, Nat.le_of_ble_eq_true rfl⟩ (fun r_55 hq_56 => ?_)
            rw [hQ]
            exact W.lret (v := r_55) hx hb hr (fun t ht hW => ⟨⟨r_55, C_51, rfl, ⟨hT, hF, ⟨(by rw [(st_ga e_52), (f_49.1 15 rfl (by decide)), (st_ga e_44), (f_41.1 15 rfl (by decide)), (st_ga e_36)]; exact upd_b3), (fun A hA hok => by have hj : okJ A x1 x2 x3 x4 := (by unfold okJ; rw [← (show ga (C 10) ((2 : Int32)).toNatClampNeg = A 5 0 2 from hA.1 2 (by decide)), ← (show ga (C 10) ((3 : Int32)).toNatClampNeg = A 5 0 3 from hA.1 3 (by decide))]; exact u_10.2.2.2); have e0 := hq_40 (setA A 2 0) (absX_sk 2 hA (fun k k1 k2 => (th_un e_36 (by omega))) (by rw [st_ga e_36]; exact pk_us) (fun j hj => (show ga (C_35 15) j = ga (C 15) j by rw [st_ga e_36]; exact pk_un hj))) (ok_f hok ⟨by decide, by decide⟩) (set_52 hj.1.1.2) ⟨by decide, by decide⟩; have e1 := hq_48 (setA A 2 1) (absX_sk 2 hA (fun k k1 k2 => (Eq.trans (th_un e_44 (by omega)) (Eq.trans (fr_all f_41 10 14 (by decide) k k1 k2) (th_un e_36 (by omega))))) (by rw [st_ga e_44]; exact pk_us) (fun j hj => (Eq.trans (show ga (C_43 15) j = ga (C_39 15) j by rw [st_ga e_44]; exact pk_un hj) (Eq.trans (congrArg (fun z => ga z j) (f_41.1 15 rfl (by decide))) (show ga (C_35 15) j = ga (C 15) j by rw [st_ga e_36]; exact pk_un hj))))) (ok_f hok ⟨by decide, by decide⟩) (set_52 hj.1.1.2) ⟨by decide, by decide⟩; have hw := lc_w (ok_f hok ⟨by decide, by decide⟩) (rg_w (lo := 0) (hi := 4) u_10.1 (by decide)) (set_52 hj.1.1.2) (rg_w (lo := 0) (hi := 15) u_10.2.1 (by decide)) (rg_w (lo := 0) (hi := 15) u_10.2.2.1 (by decide)) e0; have ev := hq_56; rw [e0, e1] at ev; exact Eq.trans ev (Eq.trans (pif_pos ⟨hj, (oh_rgI (p := 0) (q := 6) (rg_w (lo := 0) (hi := 6) (rn_leu u_20.2 (rn_lel u_20.1 (rg_c (v := 0) (lo := 0) (hi := 0) (by decide)) (rg_any _)) (rg_c (v := 6) (lo := 6) (hi := 6) (by decide))) (by decide))), (oh_rgI (p := 0) (q := 10) (rg_w (lo := 0) (hi := 10) (rn_leu u_30.2 (rn_lel u_30.1 (rg_c (v := 0) (lo := 0) (hi := 0) (by decide)) (rg_any _)) (rg_c (v := 10) (lo := 10) (hi := 10) (by decide))) (by decide))), (oh_rgI (p := 0) (q := 999) (rg_w (lo := 0) (hi := 999) (rn_leu u_34.2 (rn_lel u_34.1 (rg_c (v := 0) (lo := 0) (hi := 0) (by decide)) (rg_any _)) (rg_c (v := 999) (lo := 999) (hi := 999) (by decide))) (by decide)))⟩) (pif_pos (Classical.byContradiction (fun q => c_54 (hw.mpr q))))).symm)⟩⟩, ⟨by rw [ht]; exact hP, hD⟩⟩, hS.F ht⟩) hS.2.2 dX6_frost_158
          · refine lv_aload_n hx hb dX6_frost_133 rfl (lv_at hl 3 rfl) ?_
            refine lv_bipush (v := (-5)) hx hb dX6_frost_134 (by decide) ?_
            refine tm_V (As := [.int (-5)]) (rest := []) ⟨hx, hb, hml, hown, htg⟩ (c_X6_refuse l D E G _ a C_51 hT ((-5) : Int32)) (cwV 1 htg (oh_gV q_296 q_298 q_0 q_66 q_299) rfl rfl rfl pdVX6_refuse ⟨Nat.le_of_ble_eq_true rfl, Nat.le_of_ble_eq_true rfl⟩) hK hP hD hG hS hA (va_recv hK hP (ci := 6) (q0 := 0) rfl (oh_wg (by decide) (sX_0 hT))) rfl hl.1 rfl (Nat.le_of_ble_eq_true rfl) dX6_frost_136 ⟨Nat.le_of_ble_eq_true rfl, Nat.le_of_ble_eq_true rfl⟩ (fun r_57 C_58 H locs hq_59 hP hD hS => ?_)
            obtain ⟨hT, f_60, hq_59⟩ := hq_59
            have hF := fr_tr hF f_60 (by decide) (by decide)
            refine W.widen (k := 0) (n := 0) (Nat.le_refl _) (Nat.le_refl _) ?_
            have t_61 := hT
            refine lv_i2l (v := Int32.toInt64 r_57) hx hb dX6_frost_139 (by rfl) ?_
            refine lv_goto (tgt := 158) hx hb dX6_frost_140 (by decide) ?_
            rw [hQ]
            exact W.lret (v := Int32.toInt64 r_57) hx hb hr (fun t ht hW => ⟨⟨Int32.toInt64 r_57, C_58, rfl, ⟨hT, hF, ⟨(by rw [(f_60.1 15 rfl (by decide)), (st_ga e_52), (f_49.1 15 rfl (by decide)), (st_ga e_44), (f_41.1 15 rfl (by decide)), (st_ga e_36)]; exact upd_b3), (fun A hA hok => by have hj : okJ A x1 x2 x3 x4 := (by unfold okJ; rw [← (show ga (C 10) ((2 : Int32)).toNatClampNeg = A 5 0 2 from hA.1 2 (by decide)), ← (show ga (C 10) ((3 : Int32)).toNatClampNeg = A 5 0 3 from hA.1 3 (by decide))]; exact u_10.2.2.2); have e0 := hq_40 (setA A 2 0) (absX_sk 2 hA (fun k k1 k2 => (th_un e_36 (by omega))) (by rw [st_ga e_36]; exact pk_us) (fun j hj => (show ga (C_35 15) j = ga (C 15) j by rw [st_ga e_36]; exact pk_un hj))) (ok_f hok ⟨by decide, by decide⟩) (set_52 hj.1.1.2) ⟨by decide, by decide⟩; have e1 := hq_48 (setA A 2 1) (absX_sk 2 hA (fun k k1 k2 => (Eq.trans (th_un e_44 (by omega)) (Eq.trans (fr_all f_41 10 14 (by decide) k k1 k2) (th_un e_36 (by omega))))) (by rw [st_ga e_44]; exact pk_us) (fun j hj => (Eq.trans (show ga (C_43 15) j = ga (C_39 15) j by rw [st_ga e_44]; exact pk_un hj) (Eq.trans (congrArg (fun z => ga z j) (f_41.1 15 rfl (by decide))) (show ga (C_35 15) j = ga (C 15) j by rw [st_ga e_36]; exact pk_un hj))))) (ok_f hok ⟨by decide, by decide⟩) (set_52 hj.1.1.2) ⟨by decide, by decide⟩; have hw := lc_w (ok_f hok ⟨by decide, by decide⟩) (rg_w (lo := 0) (hi := 4) u_10.1 (by decide)) (set_52 hj.1.1.2) (rg_w (lo := 0) (hi := 15) u_10.2.1 (by decide)) (rg_w (lo := 0) (hi := 15) u_10.2.2.1 (by decide)) e0; exact Eq.trans (show Int32.toInt64 r_57 = (-5 : Int64) by rw [hq_59]; rfl) (Eq.trans (pif_pos ⟨hj, (oh_rgI (p := 0) (q := 6) (rg_w (lo := 0) (hi := 6) (rn_leu u_20.2 (rn_lel u_20.1 (rg_c (v := 0) (lo := 0) (hi := 0) (by decide)) (rg_any _)) (rg_c (v := 6) (lo := 6) (hi := 6) (by decide))) (by decide))), (oh_rgI (p := 0) (q := 10) (rg_w (lo := 0) (hi := 10) (rn_leu u_30.2 (rn_lel u_30.1 (rg_c (v := 0) (lo := 0) (hi := 0) (by decide)) (rg_any _)) (rg_c (v := 10) (lo := 10) (hi := 10) (by decide))) (by decide))), (oh_rgI (p := 0) (q := 999) (rg_w (lo := 0) (hi := 999) (rn_leu u_34.2 (rn_lel u_34.1 (rg_c (v := 0) (lo := 0) (hi := 0) (by decide)) (rg_any _)) (rg_c (v := 999) (lo := 999) (hi := 999) (by decide))) (by decide)))⟩) (pif_neg (hw.mp c_54))).symm)⟩⟩, ⟨by rw [ht]; exact hP, hD⟩⟩, hS.F ht⟩) hS.2.2 dX6_frost_158
        · have u_62 := hq_32.2.2 c_33
          refine lv_aload_n hx hb dX6_frost_46 rfl (lv_at hl 0 rfl) ?_
          refine lv_bipush (v := (-2)) hx hb dX6_frost_47 (by decide) ?_
          refine tm_V (As := [.int (-2)]) (rest := []) ⟨hx, hb, hml, hown, htg⟩ (c_X6_refuse l D E G _ a C hT ((-2) : Int32)) (cwV 1 htg (oh_gV q_296 q_298 q_0 q_66 q_299) rfl rfl rfl pdVX6_refuse ⟨Nat.le_of_ble_eq_true rfl, Nat.le_of_ble_eq_true rfl⟩) hK hP hD hG hS hA (va_recv hK hP (ci := 6) (q0 := 0) rfl (oh_wg (by decide) (sX_0 hT))) rfl hl.1 rfl (Nat.le_of_ble_eq_true rfl) dX6_frost_49 ⟨Nat.le_of_ble_eq_true rfl, Nat.le_of_ble_eq_true rfl⟩ (fun r_63 C_64 H locs hq_65 hP hD hS => ?_)
          obtain ⟨hT, f_66, hq_65⟩ := hq_65
          have hF := fr_tr hF f_66 (by decide) (by decide)
          refine W.widen (k := 0) (n := 0) (Nat.le_refl _) (Nat.le_refl _) ?_
          have t_67 := hT
          refine lv_i2l (v := Int32.toInt64 r_63) hx hb dX6_frost_52 (by rfl) ?_
          rw [hQ]
          exact W.lret (v := Int32.toInt64 r_63) hx hb hr (fun t ht hW => ⟨⟨Int32.toInt64 r_63, C_64, rfl, ⟨hT, hF, ⟨(congrArg ga (f_66.1 15 rfl (by decide))), (fun A hA hok => Eq.trans (show Int32.toInt64 r_63 = (-2 : Int64) by rw [hq_65]; rfl) (pif_neg (fun h8 => u_62 h8.2.2.2)).symm)⟩⟩, ⟨by rw [ht]; exact hP, hD⟩⟩, hS.F ht⟩) hS.2.2 dX6_frost_53

set_option maxHeartbeats 4000000 in
set_option maxRecDepth 100000 in
theorem e2_X7_frost (l : Launch) (D : va_G) (E : Nat → ClassId) (G : Nat → Nat) (sz : Nat) (a : Nat → Nat) (C : Nat → va_E) (n : Nat) (hn : 74 ≤ n) (hT : TyM a E C) (x1 : Int32) (x2 : Int32) (x3 : Int32) (x4 : Int32) (x5 : Int32) (x6 : Int32) (x7 : Int32) (hR : RelM C) : Met l yX7_frost (oh_w yX7_frost cX7_frost 19 (some .long)) ({ frames := 7, cells := 0, slots := 0, locals := 177 }) (oh_Pm D E G [.ref (a 0), .int x1, .int x2, .int x3, .int x4, .int x5, .int x6, .int x7] (oh_W n a C) sz) (va_Ql (fun r (u : Nat → va_E) => TyM a E u ∧ fr [(8, 9), (13, 14), (15, 16)] [] C u ∧ (RelM u) ∧ (ga (u 13) = ga (C 13)) ∧ (∀ A : LA, absM C A → okA A → r = spFrost A x1 x2 x3 x4 x5 x6 x7)) (oh_B D (va_A (oh_W n a C) sz) (fun u => oh_W n a u)) (va_A (oh_W n a C) sz)) 0 0 (va_A (oh_W n a C) sz) := by
  refine Met.ofW (cc := cX7_frost) (maxL := 19) (ret := (some .long)) (by decide) rfl ?_
  intro p e s m args below meth c s₁ B hml hv
  obtain ⟨rfl, hsz, hP, hK, hD0, hG⟩ := hv
  have hx := B.exec
  have hb := B.bytes
  have hr := B.returns
  have hts := atoms_spec (ws := (oh_w yX7_frost cX7_frost 19 (some .long))) B.pre
  have htg : ∀ w ∈ oh_t, w.before _ s = true := fun w h => hts w (List.mem_cons_of_mem _ h)
  have hown : s.vm.findClass RX7 = some m.cls := findClass_of_methodNamed B.named
  have hlocks := B.notSynchronized
  have hT0 := hT
  subst hsz
  have hD := hD0.self (sz := s.heap.size)
  generalize hAe : va_A (oh_W n a C) s.heap.size = A at hD hG ⊢
  have hA : ∀ q : Nat, s.heap.size ≤ q → A q := fun q h => by rw [← hAe]; exact Or.inr h
  have hS : va_S A s.heap s.heap [] := va_S.rf
  have hF : fr [(8, 9), (13, 14), (15, 16)] [] C C := fr_rf
  have hl := lv_entry ([.ref (a 0), .int x1, .int x2, .int x3, .int x4, .int x5, .int x6, .int x7]) (n := 19) (Nat.le_of_ble_eq_true rfl)
  rw [lg_entry_eq]
  generalize (lg_sl ([.ref (a 0), .int x1, .int x2, .int x3, .int x4, .int x5, .int x6, .int x7]) ++ List.replicate (19 - (lg_sl ([.ref (a 0), .int x1, .int x2, .int x3, .int x4, .int x5, .int x6, .int x7])).length) Slot.unset).toArray = ls at hl ⊢
  have hl : lv_has ls 19 [(0, .ref (a 0)), (1, .int x1), (2, .int x2), (3, .int x3), (4, .int x4), (5, .int x5), (6, .int x6), (7, .int x7)] := hl
  refine oh_genQ (fun Q hQ => ?_)
  refine lv_aload_n hx hb dX7_frost_0 rfl (lv_at hl 0 rfl) ?_
  refine lv_iload_n hx hb dX7_frost_1 rfl (lv_at hl 1 rfl) ?_
  refine lv_iload_n hx hb dX7_frost_2 rfl (lv_at hl 2 rfl) ?_
  refine tq_V (As := [.int x1, .int x2]) (rest := []) (ws := (oh_W n a C)) ⟨hx, hb, hml, hown, htg⟩ (e_X7_isPack l D E G a C n hn hT x1 x2 hR.1) (cwV 2 htg (oh_gV q_1290 q_1292 q_50 q_73 q_1293) rfl rfl rfl pdVX7_isPack ⟨Nat.le_of_ble_eq_true rfl, Nat.le_of_ble_eq_true rfl⟩) hK hP hG hS (va_recv hK hP (ci := 7) (q0 := 0) rfl (oh_wg (Nat.lt_of_lt_of_le (by decide) hn) (sM_0 hT))) rfl hl.1 rfl (Nat.le_of_ble_eq_true rfl) dX7_frost_3 ⟨Nat.le_of_ble_eq_true rfl, Nat.le_of_ble_eq_true rfl⟩ (fun r_1 hq_2 => ?_)
  refine lv_if_eq (tgt := 41) hx hb dX7_frost_6 (by decide) (fun (c_3 : r_1 = 0) => ?_) (fun (c_3 : ¬ (r_1 = 0)) => ?_)
  · have u_4 := hq_2.2.2 c_3
    refine lv_iconst (v := 0) hx hb dX7_frost_41 (by decide) ?_
    refine lv_istore (lv' := [(8, .int 0), (0, .ref (a 0)), (1, .int x1), (2, .int x2), (3, .int x3), (4, .int x4), (5, .int x5), (6, .int x6), (7, .int x7)]) hx hb dX7_frost_42 hl (by decide) rfl (fun ls hl => ?_)
    refine lv_iload hx hb dX7_frost_44 (lv_at hl 0 rfl) ?_
    refine lv_if_eq (tgt := 75) hx hb dX7_frost_46 (by decide) (fun _ => ?_) (fun c => absurd (show (0 : Int32) = 0 from by decide) c)
    refine lv_aload_n hx hb dX7_frost_75 rfl (lv_at hl 1 rfl) ?_
    refine lv_bipush (v := (-2)) hx hb dX7_frost_76 (by decide) ?_
    refine tm_V (As := [.int (-2)]) (rest := []) ⟨hx, hb, hml, hown, htg⟩ (c_X7_refuse l D E G _ a C n hn hT ((-2) : Int32) (rg_w (rg_c (v := (-2)) (lo := (-2)) (hi := (-2)) (by decide)) (by decide))) (cwV 1 htg (oh_gV q_1071 q_1073 q_29 q_73 q_1074) rfl rfl rfl pdVX7_refuse ⟨Nat.le_of_ble_eq_true rfl, Nat.le_of_ble_eq_true rfl⟩) hK hP hD hG hS hA (va_recv hK hP (ci := 7) (q0 := 0) rfl (oh_wg (Nat.lt_of_lt_of_le (by decide) hn) (sM_0 hT))) rfl hl.1 rfl (Nat.le_of_ble_eq_true rfl) dX7_frost_78 ⟨Nat.le_of_ble_eq_true rfl, Nat.le_of_ble_eq_true rfl⟩ (fun r_5 C_6 H locs hq_7 hP hD hS => ?_)
    obtain ⟨hT, f_8, hq_7⟩ := hq_7
    have hF := fr_tr hF f_8 (by decide) (by decide)
    refine W.widen (k := 0) (n := 0) (Nat.le_refl _) (Nat.le_refl _) ?_
    have t_9 := hT
    refine lv_i2l (v := Int32.toInt64 r_5) hx hb dX7_frost_81 (by rfl) ?_
    rw [hQ]
    exact W.lret (v := Int32.toInt64 r_5) hx hb hr (fun t ht hW => ⟨⟨Int32.toInt64 r_5, C_6, rfl, ⟨hT, hF, ⟨⟨hR.1.fr hF (by decide), hR.2.fr hF (by decide)⟩, (congrArg ga (f_8.1 13 rfl (by decide))), (fun A hA hok => Eq.trans (show Int32.toInt64 r_5 = (-2 : Int64) by rw [hq_7]; rfl) (pif_neg (fun h8 => by have h7 := h8.1.1; rw [← (show gi (C 0) 13 = A 5 0 2 from hA.1 2 (by decide)), ← (show gi (C 0) 15 = A 5 0 3 from hA.1 3 (by decide))] at h7; exact u_4 h7)).symm)⟩⟩, ⟨by rw [ht]; exact hP, hD⟩⟩, hS.F ht⟩) hS.2.2 dX7_frost_82
  · have u_10 := hq_2.2.1 c_3
    refine lv_iload_n hx hb dX7_frost_9 rfl (lv_at hl 3 rfl) ?_
    refine tq_S (As := [.int x3]) (rest := []) (ws := []) ⟨hx, hb, hml, hown, htg⟩ (e_X7_isPlace l D E G x3) (va_cwS 1 htg (oh_gS q_1130 q_1131 q_73 q_1132) rfl rfl rfl pdX7_isPlace ⟨Nat.le_of_ble_eq_true rfl, Nat.le_of_ble_eq_true rfl⟩) hK va_nil hG hS rfl hl.1 rfl (Nat.le_of_ble_eq_true rfl) dX7_frost_10 ⟨Nat.le_of_ble_eq_true rfl, Nat.le_of_ble_eq_true rfl⟩ (fun r_11 hq_12 => ?_)
    refine lv_if_eq (tgt := 41) hx hb dX7_frost_13 (by decide) (fun (c_13 : r_11 = 0) => ?_) (fun (c_13 : ¬ (r_11 = 0)) => ?_)
    · have u_14 := hq_12.2.2 c_13
      refine lv_iconst (v := 0) hx hb dX7_frost_41 (by decide) ?_
      refine lv_istore (lv' := [(8, .int 0), (0, .ref (a 0)), (1, .int x1), (2, .int x2), (3, .int x3), (4, .int x4), (5, .int x5), (6, .int x6), (7, .int x7)]) hx hb dX7_frost_42 hl (by decide) rfl (fun ls hl => ?_)
      refine lv_iload hx hb dX7_frost_44 (lv_at hl 0 rfl) ?_
      refine lv_if_eq (tgt := 75) hx hb dX7_frost_46 (by decide) (fun _ => ?_) (fun c => absurd (show (0 : Int32) = 0 from by decide) c)
      refine lv_aload_n hx hb dX7_frost_75 rfl (lv_at hl 1 rfl) ?_
      refine lv_bipush (v := (-2)) hx hb dX7_frost_76 (by decide) ?_
      refine tm_V (As := [.int (-2)]) (rest := []) ⟨hx, hb, hml, hown, htg⟩ (c_X7_refuse l D E G _ a C n hn hT ((-2) : Int32) (rg_w (rg_c (v := (-2)) (lo := (-2)) (hi := (-2)) (by decide)) (by decide))) (cwV 1 htg (oh_gV q_1071 q_1073 q_29 q_73 q_1074) rfl rfl rfl pdVX7_refuse ⟨Nat.le_of_ble_eq_true rfl, Nat.le_of_ble_eq_true rfl⟩) hK hP hD hG hS hA (va_recv hK hP (ci := 7) (q0 := 0) rfl (oh_wg (Nat.lt_of_lt_of_le (by decide) hn) (sM_0 hT))) rfl hl.1 rfl (Nat.le_of_ble_eq_true rfl) dX7_frost_78 ⟨Nat.le_of_ble_eq_true rfl, Nat.le_of_ble_eq_true rfl⟩ (fun r_15 C_16 H locs hq_17 hP hD hS => ?_)
      obtain ⟨hT, f_18, hq_17⟩ := hq_17
      have hF := fr_tr hF f_18 (by decide) (by decide)
      refine W.widen (k := 0) (n := 0) (Nat.le_refl _) (Nat.le_refl _) ?_
      have t_19 := hT
      refine lv_i2l (v := Int32.toInt64 r_15) hx hb dX7_frost_81 (by rfl) ?_
      rw [hQ]
      exact W.lret (v := Int32.toInt64 r_15) hx hb hr (fun t ht hW => ⟨⟨Int32.toInt64 r_15, C_16, rfl, ⟨hT, hF, ⟨⟨hR.1.fr hF (by decide), hR.2.fr hF (by decide)⟩, (congrArg ga (f_18.1 13 rfl (by decide))), (fun A hA hok => Eq.trans (show Int32.toInt64 r_15 = (-2 : Int64) by rw [hq_17]; rfl) (pif_neg (fun h8 => u_14 h8.1.2.1)).symm)⟩⟩, ⟨by rw [ht]; exact hP, hD⟩⟩, hS.F ht⟩) hS.2.2 dX7_frost_82
    · have u_20 := hq_12.2.1 c_13
      refine lv_iload hx hb dX7_frost_16 (lv_at hl 4 rfl) ?_
      refine tq_S (As := [.int x4]) (rest := []) (ws := []) ⟨hx, hb, hml, hown, htg⟩ (e_X7_isPlace l D E G x4) (va_cwS 1 htg (oh_gS q_1130 q_1131 q_73 q_1132) rfl rfl rfl pdX7_isPlace ⟨Nat.le_of_ble_eq_true rfl, Nat.le_of_ble_eq_true rfl⟩) hK va_nil hG hS rfl hl.1 rfl (Nat.le_of_ble_eq_true rfl) dX7_frost_18 ⟨Nat.le_of_ble_eq_true rfl, Nat.le_of_ble_eq_true rfl⟩ (fun r_21 hq_22 => ?_)
      refine lv_if_eq (tgt := 41) hx hb dX7_frost_21 (by decide) (fun (c_23 : r_21 = 0) => ?_) (fun (c_23 : ¬ (r_21 = 0)) => ?_)
      · have u_24 := hq_22.2.2 c_23
        refine lv_iconst (v := 0) hx hb dX7_frost_41 (by decide) ?_
        refine lv_istore (lv' := [(8, .int 0), (0, .ref (a 0)), (1, .int x1), (2, .int x2), (3, .int x3), (4, .int x4), (5, .int x5), (6, .int x6), (7, .int x7)]) hx hb dX7_frost_42 hl (by decide) rfl (fun ls hl => ?_)
        refine lv_iload hx hb dX7_frost_44 (lv_at hl 0 rfl) ?_
        refine lv_if_eq (tgt := 75) hx hb dX7_frost_46 (by decide) (fun _ => ?_) (fun c => absurd (show (0 : Int32) = 0 from by decide) c)
        refine lv_aload_n hx hb dX7_frost_75 rfl (lv_at hl 1 rfl) ?_
        refine lv_bipush (v := (-2)) hx hb dX7_frost_76 (by decide) ?_
        refine tm_V (As := [.int (-2)]) (rest := []) ⟨hx, hb, hml, hown, htg⟩ (c_X7_refuse l D E G _ a C n hn hT ((-2) : Int32) (rg_w (rg_c (v := (-2)) (lo := (-2)) (hi := (-2)) (by decide)) (by decide))) (cwV 1 htg (oh_gV q_1071 q_1073 q_29 q_73 q_1074) rfl rfl rfl pdVX7_refuse ⟨Nat.le_of_ble_eq_true rfl, Nat.le_of_ble_eq_true rfl⟩) hK hP hD hG hS hA (va_recv hK hP (ci := 7) (q0 := 0) rfl (oh_wg (Nat.lt_of_lt_of_le (by decide) hn) (sM_0 hT))) rfl hl.1 rfl (Nat.le_of_ble_eq_true rfl) dX7_frost_78 ⟨Nat.le_of_ble_eq_true rfl, Nat.le_of_ble_eq_true rfl⟩ (fun r_25 C_26 H locs hq_27 hP hD hS => ?_)
        obtain ⟨hT, f_28, hq_27⟩ := hq_27
        have hF := fr_tr hF f_28 (by decide) (by decide)
        refine W.widen (k := 0) (n := 0) (Nat.le_refl _) (Nat.le_refl _) ?_
        have t_29 := hT
        refine lv_i2l (v := Int32.toInt64 r_25) hx hb dX7_frost_81 (by rfl) ?_
        rw [hQ]
        exact W.lret (v := Int32.toInt64 r_25) hx hb hr (fun t ht hW => ⟨⟨Int32.toInt64 r_25, C_26, rfl, ⟨hT, hF, ⟨⟨hR.1.fr hF (by decide), hR.2.fr hF (by decide)⟩, (congrArg ga (f_28.1 13 rfl (by decide))), (fun A hA hok => Eq.trans (show Int32.toInt64 r_25 = (-2 : Int64) by rw [hq_27]; rfl) (pif_neg (fun h8 => u_24 h8.1.2.2)).symm)⟩⟩, ⟨by rw [ht]; exact hP, hD⟩⟩, hS.F ht⟩) hS.2.2 dX7_frost_82
      · have u_30 := hq_22.2.1 c_23
        refine lv_iload hx hb dX7_frost_24 (lv_at hl 5 rfl) ?_
        refine lv_i2l (v := Int32.toInt64 x5) hx hb dX7_frost_26 (by rfl) ?_
        refine lv_lconst (v := 0) hx hb dX7_frost_27 (by decide) ?_
        refine lv_ldc2 (v := 6) hx hb hown (htg _ q_1265) dX7_frost_28 ?_
        refine tq_S (As := [.long (Int32.toInt64 x5), .long 0, .long 6]) (rest := []) (ws := []) ⟨hx, hb, hml, hown, htg⟩ (c_X7_in l D E G (Int32.toInt64 x5) (0 : Int64) (6 : Int64)) (va_cwS 3 htg (oh_gS q_1066 q_1067 q_73 q_1068) rfl rfl rfl pdX7_in ⟨Nat.le_of_ble_eq_true rfl, Nat.le_of_ble_eq_true rfl⟩) hK va_nil hG hS rfl hl.1 rfl (Nat.le_of_ble_eq_true rfl) dX7_frost_31 ⟨Nat.le_of_ble_eq_true rfl, Nat.le_of_ble_eq_true rfl⟩ (fun r_31 hq_32 => ?_)
        refine lv_if_eq (tgt := 41) hx hb dX7_frost_34 (by decide) (fun (c_33 : r_31 = 0) => ?_) (fun (c_33 : ¬ (r_31 = 0)) => ?_)
        · have u_34 := hq_32.2.2 c_33
          refine lv_iconst (v := 0) hx hb dX7_frost_41 (by decide) ?_
          refine lv_istore (lv' := [(8, .int 0), (0, .ref (a 0)), (1, .int x1), (2, .int x2), (3, .int x3), (4, .int x4), (5, .int x5), (6, .int x6), (7, .int x7)]) hx hb dX7_frost_42 hl (by decide) rfl (fun ls hl => ?_)
          refine lv_iload hx hb dX7_frost_44 (lv_at hl 0 rfl) ?_
          refine lv_if_eq (tgt := 75) hx hb dX7_frost_46 (by decide) (fun _ => ?_) (fun c => absurd (show (0 : Int32) = 0 from by decide) c)
          refine lv_aload_n hx hb dX7_frost_75 rfl (lv_at hl 1 rfl) ?_
          refine lv_bipush (v := (-2)) hx hb dX7_frost_76 (by decide) ?_
          refine tm_V (As := [.int (-2)]) (rest := []) ⟨hx, hb, hml, hown, htg⟩ (c_X7_refuse l D E G _ a C n hn hT ((-2) : Int32) (rg_w (rg_c (v := (-2)) (lo := (-2)) (hi := (-2)) (by decide)) (by decide))) (cwV 1 htg (oh_gV q_1071 q_1073 q_29 q_73 q_1074) rfl rfl rfl pdVX7_refuse ⟨Nat.le_of_ble_eq_true rfl, Nat.le_of_ble_eq_true rfl⟩) hK hP hD hG hS hA (va_recv hK hP (ci := 7) (q0 := 0) rfl (oh_wg (Nat.lt_of_lt_of_le (by decide) hn) (sM_0 hT))) rfl hl.1 rfl (Nat.le_of_ble_eq_true rfl) dX7_frost_78 ⟨Nat.le_of_ble_eq_true rfl, Nat.le_of_ble_eq_true rfl⟩ (fun r_35 C_36 H locs hq_37 hP hD hS => ?_)
          obtain ⟨hT, f_38, hq_37⟩ := hq_37
          have hF := fr_tr hF f_38 (by decide) (by decide)
          refine W.widen (k := 0) (n := 0) (Nat.le_refl _) (Nat.le_refl _) ?_
          have t_39 := hT
          refine lv_i2l (v := Int32.toInt64 r_35) hx hb dX7_frost_81 (by rfl) ?_
          rw [hQ]
          exact W.lret (v := Int32.toInt64 r_35) hx hb hr (fun t ht hW => ⟨⟨Int32.toInt64 r_35, C_36, rfl, ⟨hT, hF, ⟨⟨hR.1.fr hF (by decide), hR.2.fr hF (by decide)⟩, (congrArg ga (f_38.1 13 rfl (by decide))), (fun A hA hok => Eq.trans (show Int32.toInt64 r_35 = (-2 : Int64) by rw [hq_37]; rfl) (pif_neg (fun h8 => (oh_in64 (l' := 0) (k' := 6) rfl rfl u_34) h8.2.1)).symm)⟩⟩, ⟨by rw [ht]; exact hP, hD⟩⟩, hS.F ht⟩) hS.2.2 dX7_frost_82
        · have u_40 := hq_32.2.1 c_33
          refine lv_iconst (v := 1) hx hb dX7_frost_37 (by decide) ?_
          refine lv_goto (tgt := 42) hx hb dX7_frost_38 (by decide) ?_
          refine lv_istore (lv' := [(8, .int 1), (0, .ref (a 0)), (1, .int x1), (2, .int x2), (3, .int x3), (4, .int x4), (5, .int x5), (6, .int x6), (7, .int x7)]) hx hb dX7_frost_42 hl (by decide) rfl (fun ls hl => ?_)
          refine lv_iload hx hb dX7_frost_44 (lv_at hl 0 rfl) ?_
          refine lv_if_eq (tgt := 75) hx hb dX7_frost_46 (by decide) (fun c => absurd c (show ¬ ((1 : Int32) = 0) from by decide)) (fun _ => ?_)
          refine lv_iload hx hb dX7_frost_49 (lv_at hl 7 rfl) ?_
          refine lv_i2l (v := Int32.toInt64 x6) hx hb dX7_frost_51 (by rfl) ?_
          refine lv_lconst (v := 0) hx hb dX7_frost_52 (by decide) ?_
          refine lv_ldc2 (v := 10) hx hb hown (htg _ q_1207) dX7_frost_53 ?_
          refine tq_S (As := [.long (Int32.toInt64 x6), .long 0, .long 10]) (rest := []) (ws := []) ⟨hx, hb, hml, hown, htg⟩ (c_X7_in l D E G (Int32.toInt64 x6) (0 : Int64) (10 : Int64)) (va_cwS 3 htg (oh_gS q_1066 q_1067 q_73 q_1068) rfl rfl rfl pdX7_in ⟨Nat.le_of_ble_eq_true rfl, Nat.le_of_ble_eq_true rfl⟩) hK va_nil hG hS rfl hl.1 rfl (Nat.le_of_ble_eq_true rfl) dX7_frost_56 ⟨Nat.le_of_ble_eq_true rfl, Nat.le_of_ble_eq_true rfl⟩ (fun r_41 hq_42 => ?_)
          refine lv_if_eq (tgt := 75) hx hb dX7_frost_59 (by decide) (fun (c_43 : r_41 = 0) => ?_) (fun (c_43 : ¬ (r_41 = 0)) => ?_)
          · have u_44 := hq_42.2.2 c_43
            refine lv_aload_n hx hb dX7_frost_75 rfl (lv_at hl 1 rfl) ?_
            refine lv_bipush (v := (-2)) hx hb dX7_frost_76 (by decide) ?_
            refine tm_V (As := [.int (-2)]) (rest := []) ⟨hx, hb, hml, hown, htg⟩ (c_X7_refuse l D E G _ a C n hn hT ((-2) : Int32) (rg_w (rg_c (v := (-2)) (lo := (-2)) (hi := (-2)) (by decide)) (by decide))) (cwV 1 htg (oh_gV q_1071 q_1073 q_29 q_73 q_1074) rfl rfl rfl pdVX7_refuse ⟨Nat.le_of_ble_eq_true rfl, Nat.le_of_ble_eq_true rfl⟩) hK hP hD hG hS hA (va_recv hK hP (ci := 7) (q0 := 0) rfl (oh_wg (Nat.lt_of_lt_of_le (by decide) hn) (sM_0 hT))) rfl hl.1 rfl (Nat.le_of_ble_eq_true rfl) dX7_frost_78 ⟨Nat.le_of_ble_eq_true rfl, Nat.le_of_ble_eq_true rfl⟩ (fun r_45 C_46 H locs hq_47 hP hD hS => ?_)
            obtain ⟨hT, f_48, hq_47⟩ := hq_47
            have hF := fr_tr hF f_48 (by decide) (by decide)
            refine W.widen (k := 0) (n := 0) (Nat.le_refl _) (Nat.le_refl _) ?_
            have t_49 := hT
            refine lv_i2l (v := Int32.toInt64 r_45) hx hb dX7_frost_81 (by rfl) ?_
            rw [hQ]
            exact W.lret (v := Int32.toInt64 r_45) hx hb hr (fun t ht hW => ⟨⟨Int32.toInt64 r_45, C_46, rfl, ⟨hT, hF, ⟨⟨hR.1.fr hF (by decide), hR.2.fr hF (by decide)⟩, (congrArg ga (f_48.1 13 rfl (by decide))), (fun A hA hok => Eq.trans (show Int32.toInt64 r_45 = (-2 : Int64) by rw [hq_47]; rfl) (pif_neg (fun h8 => (oh_in64 (l' := 0) (k' := 10) rfl rfl u_44) h8.2.2.1)).symm)⟩⟩, ⟨by rw [ht]; exact hP, hD⟩⟩, hS.F ht⟩) hS.2.2 dX7_frost_82
          · have u_50 := hq_42.2.1 c_43
            refine lv_iload hx hb dX7_frost_62 (lv_at hl 8 rfl) ?_
            refine lv_i2l (v := Int32.toInt64 x7) hx hb dX7_frost_64 (by rfl) ?_
            refine lv_lconst (v := 0) hx hb dX7_frost_65 (by decide) ?_
            refine lv_ldc2 (v := 999) hx hb hown (htg _ q_1149) dX7_frost_66 ?_
            refine tq_S (As := [.long (Int32.toInt64 x7), .long 0, .long 999]) (rest := []) (ws := []) ⟨hx, hb, hml, hown, htg⟩ (c_X7_in l D E G (Int32.toInt64 x7) (0 : Int64) (999 : Int64)) (va_cwS 3 htg (oh_gS q_1066 q_1067 q_73 q_1068) rfl rfl rfl pdX7_in ⟨Nat.le_of_ble_eq_true rfl, Nat.le_of_ble_eq_true rfl⟩) hK va_nil hG hS rfl hl.1 rfl (Nat.le_of_ble_eq_true rfl) dX7_frost_69 ⟨Nat.le_of_ble_eq_true rfl, Nat.le_of_ble_eq_true rfl⟩ (fun r_51 hq_52 => ?_)
            refine lv_if_ne (tgt := 83) hx hb dX7_frost_72 (by decide) (fun (c_53 : ¬ (r_51 = 0)) => ?_) (fun (c_53 : r_51 = 0) => ?_)
            · have u_54 := hq_52.2.1 c_53
              refine lv_aload_n hx hb dX7_frost_83 rfl (lv_at hl 1 rfl) ?_
              refine va_get (D := D) (ci := 7) (v := .ref (a 13)) (C := RX7) (T := TX7) (N := 29) hx hb htg ig_7 hown hK hP 0 (oh_wg (Nat.lt_of_lt_of_le (by decide) hn) (sM_0 hT)) rfl 17 (by decide) (htg _ q_990) (fun _ h9 => h9) rfl dX7_frost_84 ?_
              refine lv_iconst (v := 2) hx hb dX7_frost_87 (by decide) ?_
              refine th_iald hx hb hK hP 13 (Nat.lt_of_lt_of_le (by decide) hn) (sM_13 hT) (rg_in (rg_c (v := 2) (lo := 2) (hi := 2) (by decide)) (by decide)) dX7_frost_88 ?_
              refine lv_istore (lv' := [(9, .int (ga (C 13) ((2 : Int32)).toNatClampNeg)), (8, .int 1), (0, .ref (a 0)), (1, .int x1), (2, .int x2), (3, .int x3), (4, .int x4), (5, .int x5), (6, .int x6), (7, .int x7)]) hx hb dX7_frost_89 hl (by decide) rfl (fun ls hl => ?_)
              refine lv_aload_n hx hb dX7_frost_91 rfl (lv_at hl 2 rfl) ?_
              refine va_get (D := D) (ci := 7) (v := .ref (a 13)) (C := RX7) (T := TX7) (N := 29) hx hb htg ig_7 hown hK hP 0 (oh_wg (Nat.lt_of_lt_of_le (by decide) hn) (sM_0 hT)) rfl 17 (by decide) (htg _ q_990) (fun _ h9 => h9) rfl dX7_frost_92 ?_
              refine lv_iconst (v := 2) hx hb dX7_frost_95 (by decide) ?_
              refine lv_iconst (v := 1) hx hb dX7_frost_96 (by decide) ?_
              refine th_iast (T := TyM a E) (Rl := fr [(8, 9), (13, 14), (15, 16)] [] C) hx hb hK hP hD hS 13 (Nat.lt_of_lt_of_le (by decide) hn) (sM_13 hT) (rg_in (rg_c (v := 2) (lo := 2) (hi := 2) (by decide)) (by decide)) (hT.up 13 (by decide) (tA_upd (tM_13 hT) tA_any)) (fr_st hF (by decide) (by decide)) dX7_frost_97 (fun C_55 H locs e_56 hT hF hP hD hS => ?_)
              have t_57 := hT
              refine lv_aload_n hx hb dX7_frost_98 rfl (lv_at hl 2 rfl) ?_
              refine lv_iload_n hx hb dX7_frost_99 rfl (lv_at hl 3 rfl) ?_
              refine lv_iload_n hx hb dX7_frost_100 rfl (lv_at hl 4 rfl) ?_
              refine lv_iload_n hx hb dX7_frost_101 rfl (lv_at hl 5 rfl) ?_
              refine lv_iload hx hb dX7_frost_102 (lv_at hl 6 rfl) ?_
              refine lv_iconst (v := 1) hx hb dX7_frost_104 (by decide) ?_
              refine tm_V (As := [.int x1, .int x2, .int x3, .int x4, .int 1]) (rest := []) ⟨hx, hb, hml, hown, htg⟩ (e_X7_cheapestOf l D E G _ a C_55 n hn hT x1 x2 x3 x4 (1 : Int32) (rg_w u_10.1 (by decide)) (rg_w u_20 (by decide)) (rg_w u_30 (by decide)) (oh_posU (rg_w u_10.1 (by decide)) (fun i hi => th_un e_56 (by omega)) u_10.2.1)) (cwV 5 htg (oh_gV q_1347 q_1349 q_59 q_73 q_1350) rfl rfl rfl pdVX7_cheapestOf ⟨Nat.le_of_ble_eq_true rfl, Nat.le_of_ble_eq_true rfl⟩) hK hP hD hG hS hA (va_recv hK hP (ci := 7) (q0 := 0) rfl (oh_wg (Nat.lt_of_lt_of_le (by decide) hn) (sM_0 hT))) rfl hl.1 rfl (Nat.le_of_ble_eq_true rfl) dX7_frost_105 ⟨Nat.le_of_ble_eq_true rfl, Nat.le_of_ble_eq_true rfl⟩ (fun r_58 C_59 H locs hq_60 hP hD hS => ?_)
              obtain ⟨hT, f_61, hq_60⟩ := hq_60
              have hF := fr_tr hF f_61 (by decide) (by decide)
              refine W.widen (k := 0) (n := 0) (Nat.le_refl _) (Nat.le_refl _) ?_
              have t_62 := hT
              refine lv_istore (lv' := [(10, .int r_58), (9, .int (ga (C 13) ((2 : Int32)).toNatClampNeg)), (8, .int 1), (0, .ref (a 0)), (1, .int x1), (2, .int x2), (3, .int x3), (4, .int x4), (5, .int x5), (6, .int x6), (7, .int x7)]) hx hb dX7_frost_108 hl (by decide) rfl (fun ls hl => ?_)
              refine lv_aload_n hx hb dX7_frost_110 rfl (lv_at hl 3 rfl) ?_
              refine va_get (D := D) (ci := 7) (v := .ref (a 13)) (C := RX7) (T := TX7) (N := 29) hx hb htg ig_7 hown hK hP 0 (oh_wg (Nat.lt_of_lt_of_le (by decide) hn) (sM_0 hT)) rfl 17 (by decide) (htg _ q_990) (fun _ h9 => h9) rfl dX7_frost_111 ?_
              refine lv_iconst (v := 2) hx hb dX7_frost_114 (by decide) ?_
              refine lv_iconst (v := 0) hx hb dX7_frost_115 (by decide) ?_
              refine th_iast (T := TyM a E) (Rl := fr [(8, 9), (13, 14), (15, 16)] [] C) hx hb hK hP hD hS 13 (Nat.lt_of_lt_of_le (by decide) hn) (sM_13 hT) (rg_in (rg_c (v := 2) (lo := 2) (hi := 2) (by decide)) (by decide)) (hT.up 13 (by decide) (tA_upd (tM_13 hT) tA_any)) (fr_st hF (by decide) (by decide)) dX7_frost_116 (fun C_63 H locs e_64 hT hF hP hD hS => ?_)
              have t_65 := hT
              refine lv_aload_n hx hb dX7_frost_117 rfl (lv_at hl 3 rfl) ?_
              refine lv_iload_n hx hb dX7_frost_118 rfl (lv_at hl 4 rfl) ?_
              refine lv_iload_n hx hb dX7_frost_119 rfl (lv_at hl 5 rfl) ?_
              refine lv_iload_n hx hb dX7_frost_120 rfl (lv_at hl 6 rfl) ?_
              refine lv_iload hx hb dX7_frost_121 (lv_at hl 7 rfl) ?_
              refine lv_iconst (v := 1) hx hb dX7_frost_123 (by decide) ?_
              refine tm_V (As := [.int x1, .int x2, .int x3, .int x4, .int 1]) (rest := []) ⟨hx, hb, hml, hown, htg⟩ (e_X7_cheapestOf l D E G _ a C_63 n hn hT x1 x2 x3 x4 (1 : Int32) (rg_w u_10.1 (by decide)) (rg_w u_20 (by decide)) (rg_w u_30 (by decide)) (oh_posU (rg_w u_10.1 (by decide)) (fun i hi => th_un e_64 (by omega)) (oh_posU (rg_w u_10.1 (by decide)) (fun i hi => f_61.1 _ (inR_out hi (by decide)) (by omega)) (oh_posU (rg_w u_10.1 (by decide)) (fun i hi => th_un e_56 (by omega)) u_10.2.1)))) (cwV 5 htg (oh_gV q_1347 q_1349 q_59 q_73 q_1350) rfl rfl rfl pdVX7_cheapestOf ⟨Nat.le_of_ble_eq_true rfl, Nat.le_of_ble_eq_true rfl⟩) hK hP hD hG hS hA (va_recv hK hP (ci := 7) (q0 := 0) rfl (oh_wg (Nat.lt_of_lt_of_le (by decide) hn) (sM_0 hT))) rfl hl.1 rfl (Nat.le_of_ble_eq_true rfl) dX7_frost_124 ⟨Nat.le_of_ble_eq_true rfl, Nat.le_of_ble_eq_true rfl⟩ (fun r_66 C_67 H locs hq_68 hP hD hS => ?_)
              obtain ⟨hT, f_69, hq_68⟩ := hq_68
              have hF := fr_tr hF f_69 (by decide) (by decide)
              refine W.widen (k := 0) (n := 0) (Nat.le_refl _) (Nat.le_refl _) ?_
              have t_70 := hT
              refine lv_istore (lv' := [(11, .int r_66), (10, .int r_58), (9, .int (ga (C 13) ((2 : Int32)).toNatClampNeg)), (8, .int 1), (0, .ref (a 0)), (1, .int x1), (2, .int x2), (3, .int x3), (4, .int x4), (5, .int x5), (6, .int x6), (7, .int x7)]) hx hb dX7_frost_127 hl (by decide) rfl (fun ls hl => ?_)
              refine lv_aload_n hx hb dX7_frost_129 rfl (lv_at hl 4 rfl) ?_
              refine va_get (D := D) (ci := 7) (v := .ref (a 13)) (C := RX7) (T := TX7) (N := 29) hx hb htg ig_7 hown hK hP 0 (oh_wg (Nat.lt_of_lt_of_le (by decide) hn) (sM_0 hT)) rfl 17 (by decide) (htg _ q_990) (fun _ h9 => h9) rfl dX7_frost_130 ?_
              refine lv_iconst (v := 2) hx hb dX7_frost_133 (by decide) ?_
              refine lv_iload hx hb dX7_frost_134 (lv_at hl 2 rfl) ?_
              refine th_iast (T := TyM a E) (Rl := fr [(8, 9), (13, 14), (15, 16)] [] C) hx hb hK hP hD hS 13 (Nat.lt_of_lt_of_le (by decide) hn) (sM_13 hT) (rg_in (rg_c (v := 2) (lo := 2) (hi := 2) (by decide)) (by decide)) (hT.up 13 (by decide) (tA_upd (tM_13 hT) tA_any)) (fr_st hF (by decide) (by decide)) dX7_frost_136 (fun C_71 H locs e_72 hT hF hP hD hS => ?_)
              have t_73 := hT
              refine lv_iload hx hb dX7_frost_137 (lv_at hl 0 rfl) ?_
              refine lv_iconst (v := (-1)) hx hb dX7_frost_139 (by decide) ?_
              refine lv_icmp_ne (tgt := 151) hx hb dX7_frost_140 (by decide) (fun (c_74 : ¬ (r_66 = (-1))) => ?_) (fun (c_74 : r_66 = (-1)) => ?_)
              · refine lv_iload hx hb dX7_frost_151 (lv_at hl 0 rfl) ?_
                refine lv_i2l (v := Int32.toInt64 r_66) hx hb dX7_frost_153 (by rfl) ?_
                refine lv_lstore (lv' := [(12, .long (Int32.toInt64 r_66)), (11, .int r_66), (10, .int r_58), (9, .int (ga (C 13) ((2 : Int32)).toNatClampNeg)), (8, .int 1), (0, .ref (a 0)), (1, .int x1), (2, .int x2), (3, .int x3), (4, .int x4), (5, .int x5), (6, .int x6), (7, .int x7)]) hx hb dX7_frost_154 hl (by decide) rfl (fun ls hl => ?_)
                refine lv_lconst (v := 1) hx hb dX7_frost_156 (by decide) ?_
                refine lv_lstore (lv' := [(14, .long 1), (12, .long (Int32.toInt64 r_66)), (11, .int r_66), (10, .int r_58), (9, .int (ga (C 13) ((2 : Int32)).toNatClampNeg)), (8, .int 1), (0, .ref (a 0)), (1, .int x1), (2, .int x2), (3, .int x3), (4, .int x4), (5, .int x5), (6, .int x6), (7, .int x7)]) hx hb dX7_frost_157 hl (by decide) rfl (fun ls hl => ?_)
                refine lv_iconst (v := 0) hx hb dX7_frost_159 (by decide) ?_
                refine lv_istore (lv' := [(16, .int 0), (14, .long 1), (12, .long (Int32.toInt64 r_66)), (11, .int r_66), (10, .int r_58), (9, .int (ga (C 13) ((2 : Int32)).toNatClampNeg)), (8, .int 1), (0, .ref (a 0)), (1, .int x1), (2, .int x2), (3, .int x3), (4, .int x4), (5, .int x5), (6, .int x6), (7, .int x7)]) hx hb dX7_frost_160 hl (by decide) rfl (fun ls hl => ?_)
                have L_162 : ∀ (d : Nat) (K162 : Nat → va_E) (z162_16 : Int32) (z162_14 : Int64) (z162_12 : Int64) (H : Heap) (locs : List Loc) (ls : Array Slot), (6 - z162_16.toInt).toNat = d → rg z162_16 0 6 → ((z162_12, z162_14) = fvS x6 x7 (Int32.toInt64 r_66) (Int32.toInt64 r_58) z162_16.toNatClampNeg) → (z162_16.toInt ≤ x5.toInt) → TyM a E K162 → fr [(8, 9), (13, 14), (15, 16)] [] C K162 → fr [] [] C_71 K162 → va_P D vwCl (oh_W n a K162) H → va_D A (oh_W n a K162) → va_S A s.heap H locs → lv_has ls 19 [(16, .int z162_16), (14, .long z162_14), (12, .long z162_12), (11, .int r_66), (10, .int r_58), (9, .int (ga (C 13) ((2 : Int32)).toNatClampNeg)), (8, .int 1), (0, .ref (a 0)), (1, .int x1), (2, .int x2), (3, .int x3), (4, .int x4), (5, .int x5), (6, .int x6), (7, .int x7)] → W p l e ({ frames := 7, cells := 0, slots := 0, locals := 177 }) s m (([.ref (a 0), .int x1, .int x2, .int x3, .int x4, .int x5, .int x6, .int x7] : List Value).toArray) below meth c H locs 0 0 Q (F0 m 162 ls []) := by
                  intro d
                  induction d using Nat.strongRecOn with
                  | ind d ih_162 =>
                  intro K162 z162_16 z162_14 z162_12 H locs ls hd_162 hz162_16 hv_162 hy_162 hT hF hLF_162 hP hD hS hl
                  have t_75 := hT
                  refine lv_iload hx hb dX7_frost_162 (lv_at hl 0 rfl) ?_
                  refine lv_iload hx hb dX7_frost_164 (lv_at hl 12 rfl) ?_
                  refine lv_icmp_ge (tgt := 241) hx hb dX7_frost_166 (by decide) (fun (c_76 : x5 ≤ z162_16) => ?_) (fun (c_76 : ¬ (x5 ≤ z162_16)) => ?_)
                  · refine lv_lload hx hb dX7_frost_241 (lv_at hl 2 rfl) ?_
                    rw [hQ]
                    exact W.lret (v := z162_12) hx hb hr (fun t ht hW => ⟨⟨z162_12, K162, rfl, ⟨hT, hF, ⟨⟨hR.1.fr hF (by decide), hR.2.fr hF (by decide)⟩, (by rw [(hLF_162.1 13 rfl (by decide)), (st_ga e_72), (f_69.1 13 rfl (by decide)), (st_ga e_64), (f_61.1 13 rfl (by decide)), (st_ga e_56)]; exact upd_b3), (fun A hA hok => by have hp := (show okPk (A 5 0 2) (A 5 0 3) x1 x2 by rw [← (show gi (C 0) 13 = A 5 0 2 from hA.1 2 (by decide)), ← (show gi (C 0) 15 = A 5 0 3 from hA.1 3 (by decide))]; exact u_10.2.2.2); have hj : okJ A x1 x2 x3 x4 := ⟨hp, (oh_rgI (p := 0) (q := 15) (rg_w (lo := 0) (hi := 15) u_20 (by decide))), (oh_rgI (p := 0) (q := 15) (rg_w (lo := 0) (hi := 15) u_30 (by decide)))⟩; have e1 := hq_60 (setA A 2 1) (absM_sk 2 hA hT0 (show fr [(13, 14)] [] C C_55 from (fr_ste fr_rf e_56 (by decide) (by decide))) (by rw [st_ga e_56]; exact pk_us) (fun j hj => (show ga (C_55 13) j = ga (C 13) j by rw [st_ga e_56]; exact pk_un hj)) (by decide) (by decide)) (ok_f hok ⟨by decide, by decide⟩) (set_52 hp.1.2) ⟨by decide, by decide⟩; have e0 := hq_68 (setA A 2 0) (absM_sk 2 hA hT0 (show fr [(13, 14), (15, 16)] [] C C_63 from (fr_ste (fr_tr (fr_ste fr_rf e_56 (by decide) (by decide)) f_61 (by decide) (by decide)) e_64 (by decide) (by decide))) (by rw [st_ga e_64]; exact pk_us) (fun j hj => (Eq.trans (show ga (C_63 13) j = ga (C_59 13) j by rw [st_ga e_64]; exact pk_un hj) (Eq.trans (congrArg (fun z => ga z j) (f_61.1 13 rfl (by decide))) (show ga (C_55 13) j = ga (C 13) j by rw [st_ga e_56]; exact pk_un hj)))) (by decide) (by decide)) (ok_f hok ⟨by decide, by decide⟩) (set_52 hp.1.2) ⟨by decide, by decide⟩; have hw := mc_w (ok_f hok ⟨by decide, by decide⟩) (rg_w (lo := 0) (hi := 4) u_10.1 (by decide)) (set_52 hp.1.2) (rg_w (lo := 0) (hi := 15) u_20 (by decide)) (rg_w (lo := 0) (hi := 15) u_30 (by decide)) e0; have hq := Classical.byContradiction (fun q => c_74 (hw.mpr q)); rw [mc_lc hq] at e0; rw [mc_lc (hw_f hok hq)] at e1; have h7 := congrArg Prod.fst hv_162; rw [show z162_16 = x5 from Int32.toInt_inj.mp (by have h8 := Int32.le_iff_toInt_le.mp c_76; have h9 := hy_162; omega), e0, e1] at h7; exact Eq.trans h7 (Eq.trans (pif_pos ⟨hj, (oh_rgI (p := 0) (q := 6) (rg_w (lo := 0) (hi := 6) (rg_il (rgL_i (rg_il (rnL_leu u_40.2 (rnL_lel u_40.1 (rgL_c (v := 0) (lo := 0) (hi := 0) (by decide)) (rgL_i (rg_any _))) (rgL_c (v := 6) (lo := 6) (hi := 6) (by decide)))))) (by decide))), (oh_rgI (p := 0) (q := 10) (rg_w (lo := 0) (hi := 10) (rg_il (rgL_i (rg_il (rnL_leu u_50.2 (rnL_lel u_50.1 (rgL_c (v := 0) (lo := 0) (hi := 0) (by decide)) (rgL_i (rg_any _))) (rgL_c (v := 10) (lo := 10) (hi := 10) (by decide)))))) (by decide))), (oh_rgI (p := 0) (q := 999) (rg_w (lo := 0) (hi := 999) (rg_il (rgL_i (rg_il (rnL_leu u_54.2 (rnL_lel u_54.1 (rgL_c (v := 0) (lo := 0) (hi := 0) (by decide)) (rgL_i (rg_any _))) (rgL_c (v := 999) (lo := 999) (hi := 999) (by decide)))))) (by decide)))⟩) (pif_pos hq)).symm)⟩⟩, ⟨by rw [ht]; exact hP, hD⟩⟩, hS.F ht⟩) hS.2.2 dX7_frost_243
                  · refine lv_ldc2 (v := 10) hx hb hown (htg _ q_1207) dX7_frost_169 ?_
                    refine lv_lload hx hb dX7_frost_172 (lv_at hl 1 rfl) ?_
                    refine lv_lmul hx hb dX7_frost_174 ?_
                    refine lv_iload hx hb dX7_frost_175 (lv_at hl 14 rfl) ?_
                    refine lv_i2l (v := Int32.toInt64 x7) hx hb dX7_frost_177 (by rfl) ?_
                    refine lv_lmul hx hb dX7_frost_178 ?_
                    refine lv_iload hx hb dX7_frost_179 (lv_at hl 13 rfl) ?_
                    refine lv_i2l (v := Int32.toInt64 x6) hx hb dX7_frost_181 (by rfl) ?_
                    refine lv_lload hx hb dX7_frost_182 (lv_at hl 1 rfl) ?_
                    refine lv_lmul hx hb dX7_frost_184 ?_
                    refine lv_iload hx hb dX7_frost_185 (lv_at hl 4 rfl) ?_
                    refine lv_i2l (v := Int32.toInt64 r_58) hx hb dX7_frost_187 (by rfl) ?_
                    refine lv_lmul hx hb dX7_frost_188 ?_
                    refine lv_ladd hx hb dX7_frost_189 ?_
                    refine lv_bipush (v := 10) hx hb dX7_frost_190 (by decide) ?_
                    refine lv_iload hx hb dX7_frost_192 (lv_at hl 13 rfl) ?_
                    refine lv_isub hx hb dX7_frost_194 ?_
                    refine lv_i2l (v := Int32.toInt64 (10 - x6)) hx hb dX7_frost_195 (by rfl) ?_
                    refine lv_lload hx hb dX7_frost_196 (lv_at hl 2 rfl) ?_
                    refine lv_lmul hx hb dX7_frost_198 ?_
                    refine lv_ladd hx hb dX7_frost_199 ?_
                    refine lv_lstore (lv' := [(17, .long ((((10 * z162_14) * (Int32.toInt64 x7)) + (((Int32.toInt64 x6) * z162_14) * (Int32.toInt64 r_58))) + ((Int32.toInt64 (10 - x6)) * z162_12))), (16, .int z162_16), (14, .long z162_14), (12, .long z162_12), (11, .int r_66), (10, .int r_58), (9, .int (ga (C 13) ((2 : Int32)).toNatClampNeg)), (8, .int 1), (0, .ref (a 0)), (1, .int x1), (2, .int x2), (3, .int x3), (4, .int x4), (5, .int x5), (6, .int x6), (7, .int x7)]) hx hb dX7_frost_200 hl (by decide) rfl (fun ls hl => ?_)
                    refine lv_lload hx hb dX7_frost_202 (lv_at hl 2 rfl) ?_
                    refine lv_ldc2 (v := 10) hx hb hown (htg _ q_1207) dX7_frost_204 ?_
                    refine lv_lmul hx hb dX7_frost_207 ?_
                    refine lv_lstore (lv' := [(14, .long (z162_14 * 10)), (17, .long ((((10 * z162_14) * (Int32.toInt64 x7)) + (((Int32.toInt64 x6) * z162_14) * (Int32.toInt64 r_58))) + ((Int32.toInt64 (10 - x6)) * z162_12))), (16, .int z162_16), (12, .long z162_12), (11, .int r_66), (10, .int r_58), (9, .int (ga (C 13) ((2 : Int32)).toNatClampNeg)), (8, .int 1), (0, .ref (a 0)), (1, .int x1), (2, .int x2), (3, .int x3), (4, .int x4), (5, .int x5), (6, .int x6), (7, .int x7)]) hx hb dX7_frost_208 hl (by decide) rfl (fun ls hl => ?_)
                    refine lv_lload hx hb dX7_frost_210 (lv_at hl 0 rfl) ?_
                    refine lv_iload hx hb dX7_frost_212 (lv_at hl 4 rfl) ?_
                    refine lv_i2l (v := Int32.toInt64 r_66) hx hb dX7_frost_214 (by rfl) ?_
                    refine lv_lmul hx hb dX7_frost_215 ?_
                    refine lv_lload hx hb dX7_frost_216 (lv_at hl 1 rfl) ?_
                    refine W.lcmp hx hb dX7_frost_218 ?_
                    refine lv_if_ge (tgt := 231) hx hb dX7_frost_219 (by decide) (fun (c_77 : (0 : Int32) ≤ (lg_cmp ((z162_14 * 10) * (Int32.toInt64 r_66)) ((((10 * z162_14) * (Int32.toInt64 x7)) + (((Int32.toInt64 x6) * z162_14) * (Int32.toInt64 r_58))) + ((Int32.toInt64 (10 - x6)) * z162_12)))) => ?_) (fun (c_77 : ¬ ((0 : Int32) ≤ (lg_cmp ((z162_14 * 10) * (Int32.toInt64 r_66)) ((((10 * z162_14) * (Int32.toInt64 x7)) + (((Int32.toInt64 x6) * z162_14) * (Int32.toInt64 r_58))) + ((Int32.toInt64 (10 - x6)) * z162_12))))) => ?_)
                    · refine lv_lload hx hb dX7_frost_231 (lv_at hl 1 rfl) ?_
                      refine lv_lstore (lv' := [(12, .long ((((10 * z162_14) * (Int32.toInt64 x7)) + (((Int32.toInt64 x6) * z162_14) * (Int32.toInt64 r_58))) + ((Int32.toInt64 (10 - x6)) * z162_12))), (14, .long (z162_14 * 10)), (17, .long ((((10 * z162_14) * (Int32.toInt64 x7)) + (((Int32.toInt64 x6) * z162_14) * (Int32.toInt64 r_58))) + ((Int32.toInt64 (10 - x6)) * z162_12))), (16, .int z162_16), (11, .int r_66), (10, .int r_58), (9, .int (ga (C 13) ((2 : Int32)).toNatClampNeg)), (8, .int 1), (0, .ref (a 0)), (1, .int x1), (2, .int x2), (3, .int x3), (4, .int x4), (5, .int x5), (6, .int x6), (7, .int x7)]) hx hb dX7_frost_233 hl (by decide) rfl (fun ls hl => ?_)
                      refine lv_iinc (v := z162_16 + 1) (lv' := [(16, .int (z162_16 + 1)), (12, .long ((((10 * z162_14) * (Int32.toInt64 x7)) + (((Int32.toInt64 x6) * z162_14) * (Int32.toInt64 r_58))) + ((Int32.toInt64 (10 - x6)) * z162_12))), (14, .long (z162_14 * 10)), (17, .long ((((10 * z162_14) * (Int32.toInt64 x7)) + (((Int32.toInt64 x6) * z162_14) * (Int32.toInt64 r_58))) + ((Int32.toInt64 (10 - x6)) * z162_12))), (11, .int r_66), (10, .int r_58), (9, .int (ga (C 13) ((2 : Int32)).toNatClampNeg)), (8, .int 1), (0, .ref (a 0)), (1, .int x1), (2, .int x2), (3, .int x3), (4, .int x4), (5, .int x5), (6, .int x6), (7, .int x7)]) hx hb dX7_frost_235 hl (k := 3) rfl (by rfl) (by decide) rfl (fun ls hl => ?_)
                      refine lv_goto (tgt := 162) hx hb dX7_frost_238 (by decide) ?_
                      exact ih_162 _ (hd_162 ▸ mu_up 6 (rn_ltu (u' := 5) (Int32.not_le.mp c_76) hz162_16 (rg_il (rgL_i (rg_il (rnL_leu u_40.2 (rnL_lel u_40.1 (rgL_c (v := 0) (lo := 0) (hi := 0) (by decide)) (rgL_i (rg_any _))) (rgL_c (v := 6) (lo := 6) (hi := 6) (by decide)))))) (by decide)) (by decide)) K162 (z162_16 + 1) (z162_14 * 10) ((((10 * z162_14) * (Int32.toInt64 x7)) + (((Int32.toInt64 x6) * z162_14) * (Int32.toInt64 r_58))) + ((Int32.toInt64 (10 - x6)) * z162_12)) _ _ ls rfl (rg_w (rg_add (lo := 1) (hi := 6) (rn_ltu (u' := 5) (Int32.not_le.mp c_76) hz162_16 (rg_il (rgL_i (rg_il (rnL_leu u_40.2 (rnL_lel u_40.1 (rgL_c (v := 0) (lo := 0) (hi := 0) (by decide)) (rgL_i (rg_any _))) (rgL_c (v := 6) (lo := 6) (hi := 6) (by decide)))))) (by decide)) (rg_c (v := 1) (lo := 1) (hi := 1) (by decide)) (by decide)) (by decide)) (by rw [fv_s (rg_w (lo := 0) (hi := 6) (rn_ltu (u' := 5) (Int32.not_le.mp c_76) hz162_16 (rg_il (rgL_i (rg_il (rnL_leu u_40.2 (rnL_lel u_40.1 (rgL_c (v := 0) (lo := 0) (hi := 0) (by decide)) (rgL_i (rg_any _))) (rgL_c (v := 6) (lo := 6) (hi := 6) (by decide)))))) (by decide)) (by decide)), ← hv_162]; exact fv_ge (oh_lc_nlt (Int32.not_lt.mpr c_77))) (by have h7 := Int32.lt_iff_toInt_lt.mp (Int32.not_le.mp c_76); have h8 : (z162_16 + 1).toInt = z162_16.toInt + 1 := oh_incr (rn_ltu (u' := 5) (Int32.not_le.mp c_76) hz162_16 (rg_il (rgL_i (rg_il (rnL_leu u_40.2 (rnL_lel u_40.1 (rgL_c (v := 0) (lo := 0) (hi := 0) (by decide)) (rgL_i (rg_any _))) (rgL_c (v := 6) (lo := 6) (hi := 6) (by decide)))))) (by decide)) (by decide); omega) hT hF hLF_162 hP hD hS (lv_sub hl [0, 2, 1, 4, 5, 6, 7, 8, 9, 10, 11, 12, 13, 14, 15] rfl)
                    · refine lv_lload hx hb dX7_frost_222 (lv_at hl 0 rfl) ?_
                      refine lv_iload hx hb dX7_frost_224 (lv_at hl 4 rfl) ?_
                      refine lv_i2l (v := Int32.toInt64 r_66) hx hb dX7_frost_226 (by rfl) ?_
                      refine lv_lmul hx hb dX7_frost_227 ?_
                      refine lv_goto (tgt := 233) hx hb dX7_frost_228 (by decide) ?_
                      refine lv_lstore (lv' := [(12, .long ((z162_14 * 10) * (Int32.toInt64 r_66))), (14, .long (z162_14 * 10)), (17, .long ((((10 * z162_14) * (Int32.toInt64 x7)) + (((Int32.toInt64 x6) * z162_14) * (Int32.toInt64 r_58))) + ((Int32.toInt64 (10 - x6)) * z162_12))), (16, .int z162_16), (11, .int r_66), (10, .int r_58), (9, .int (ga (C 13) ((2 : Int32)).toNatClampNeg)), (8, .int 1), (0, .ref (a 0)), (1, .int x1), (2, .int x2), (3, .int x3), (4, .int x4), (5, .int x5), (6, .int x6), (7, .int x7)]) hx hb dX7_frost_233 hl (by decide) rfl (fun ls hl => ?_)
                      refine lv_iinc (v := z162_16 + 1) (lv' := [(16, .int (z162_16 + 1)), (12, .long ((z162_14 * 10) * (Int32.toInt64 r_66))), (14, .long (z162_14 * 10)), (17, .long ((((10 * z162_14) * (Int32.toInt64 x7)) + (((Int32.toInt64 x6) * z162_14) * (Int32.toInt64 r_58))) + ((Int32.toInt64 (10 - x6)) * z162_12))), (11, .int r_66), (10, .int r_58), (9, .int (ga (C 13) ((2 : Int32)).toNatClampNeg)), (8, .int 1), (0, .ref (a 0)), (1, .int x1), (2, .int x2), (3, .int x3), (4, .int x4), (5, .int x5), (6, .int x6), (7, .int x7)]) hx hb dX7_frost_235 hl (k := 3) rfl (by rfl) (by decide) rfl (fun ls hl => ?_)
                      refine lv_goto (tgt := 162) hx hb dX7_frost_238 (by decide) ?_
                      exact ih_162 _ (hd_162 ▸ mu_up 6 (rn_ltu (u' := 5) (Int32.not_le.mp c_76) hz162_16 (rg_il (rgL_i (rg_il (rnL_leu u_40.2 (rnL_lel u_40.1 (rgL_c (v := 0) (lo := 0) (hi := 0) (by decide)) (rgL_i (rg_any _))) (rgL_c (v := 6) (lo := 6) (hi := 6) (by decide)))))) (by decide)) (by decide)) K162 (z162_16 + 1) (z162_14 * 10) ((z162_14 * 10) * (Int32.toInt64 r_66)) _ _ ls rfl (rg_w (rg_add (lo := 1) (hi := 6) (rn_ltu (u' := 5) (Int32.not_le.mp c_76) hz162_16 (rg_il (rgL_i (rg_il (rnL_leu u_40.2 (rnL_lel u_40.1 (rgL_c (v := 0) (lo := 0) (hi := 0) (by decide)) (rgL_i (rg_any _))) (rgL_c (v := 6) (lo := 6) (hi := 6) (by decide)))))) (by decide)) (rg_c (v := 1) (lo := 1) (hi := 1) (by decide)) (by decide)) (by decide)) (by rw [fv_s (rg_w (lo := 0) (hi := 6) (rn_ltu (u' := 5) (Int32.not_le.mp c_76) hz162_16 (rg_il (rgL_i (rg_il (rnL_leu u_40.2 (rnL_lel u_40.1 (rgL_c (v := 0) (lo := 0) (hi := 0) (by decide)) (rgL_i (rg_any _))) (rgL_c (v := 6) (lo := 6) (hi := 6) (by decide)))))) (by decide)) (by decide)), ← hv_162]; exact fv_lt (oh_lc_lt (Int32.not_le.mp c_77))) (by have h7 := Int32.lt_iff_toInt_lt.mp (Int32.not_le.mp c_76); have h8 : (z162_16 + 1).toInt = z162_16.toInt + 1 := oh_incr (rn_ltu (u' := 5) (Int32.not_le.mp c_76) hz162_16 (rg_il (rgL_i (rg_il (rnL_leu u_40.2 (rnL_lel u_40.1 (rgL_c (v := 0) (lo := 0) (hi := 0) (by decide)) (rgL_i (rg_any _))) (rgL_c (v := 6) (lo := 6) (hi := 6) (by decide)))))) (by decide)) (by decide); omega) hT hF hLF_162 hP hD hS (lv_sub hl [0, 2, 1, 4, 5, 6, 7, 8, 9, 10, 11, 12, 13, 14, 15] rfl)
                exact L_162 _ C_71 0 1 (Int32.toInt64 r_66) _ _ ls rfl (rg_w (rg_c (v := 0) (lo := 0) (hi := 0) (by decide)) (by decide)) rfl (show (0 : Int32).toInt ≤ x5.toInt from (rg_w (lo := 0) (hi := 6) (rg_il (rgL_i (rg_il (rnL_leu u_40.2 (rnL_lel u_40.1 (rgL_c (v := 0) (lo := 0) (hi := 0) (by decide)) (rgL_i (rg_any _))) (rgL_c (v := 6) (lo := 6) (hi := 6) (by decide)))))) (by decide)).1) hT hF fr_rf hP hD hS (lv_sub hl [0, 1, 2, 3, 4, 5, 6, 7, 8, 9, 10, 11, 12, 13, 14] rfl)
              · refine lv_aload_n hx hb dX7_frost_143 rfl (lv_at hl 4 rfl) ?_
                refine lv_bipush (v := (-5)) hx hb dX7_frost_144 (by decide) ?_
                refine tm_V (As := [.int (-5)]) (rest := []) ⟨hx, hb, hml, hown, htg⟩ (c_X7_refuse l D E G _ a C_71 n hn hT ((-5) : Int32) (rg_w (rg_c (v := (-5)) (lo := (-5)) (hi := (-5)) (by decide)) (by decide))) (cwV 1 htg (oh_gV q_1071 q_1073 q_29 q_73 q_1074) rfl rfl rfl pdVX7_refuse ⟨Nat.le_of_ble_eq_true rfl, Nat.le_of_ble_eq_true rfl⟩) hK hP hD hG hS hA (va_recv hK hP (ci := 7) (q0 := 0) rfl (oh_wg (Nat.lt_of_lt_of_le (by decide) hn) (sM_0 hT))) rfl hl.1 rfl (Nat.le_of_ble_eq_true rfl) dX7_frost_146 ⟨Nat.le_of_ble_eq_true rfl, Nat.le_of_ble_eq_true rfl⟩ (fun r_78 C_79 H locs hq_80 hP hD hS => ?_)
                obtain ⟨hT, f_81, hq_80⟩ := hq_80
                have hF := fr_tr hF f_81 (by decide) (by decide)
                refine W.widen (k := 0) (n := 0) (Nat.le_refl _) (Nat.le_refl _) ?_
                have t_82 := hT
                refine lv_i2l (v := Int32.toInt64 r_78) hx hb dX7_frost_149 (by rfl) ?_
                rw [hQ]
                exact W.lret (v := Int32.toInt64 r_78) hx hb hr (fun t ht hW => ⟨⟨Int32.toInt64 r_78, C_79, rfl, ⟨hT, hF, ⟨⟨hR.1.fr hF (by decide), hR.2.fr hF (by decide)⟩, (by rw [(f_81.1 13 rfl (by decide)), (st_ga e_72), (f_69.1 13 rfl (by decide)), (st_ga e_64), (f_61.1 13 rfl (by decide)), (st_ga e_56)]; exact upd_b3), (fun A hA hok => by have hp := (show okPk (A 5 0 2) (A 5 0 3) x1 x2 by rw [← (show gi (C 0) 13 = A 5 0 2 from hA.1 2 (by decide)), ← (show gi (C 0) 15 = A 5 0 3 from hA.1 3 (by decide))]; exact u_10.2.2.2); have hj : okJ A x1 x2 x3 x4 := ⟨hp, (oh_rgI (p := 0) (q := 15) (rg_w (lo := 0) (hi := 15) u_20 (by decide))), (oh_rgI (p := 0) (q := 15) (rg_w (lo := 0) (hi := 15) u_30 (by decide)))⟩; have e1 := hq_60 (setA A 2 1) (absM_sk 2 hA hT0 (show fr [(13, 14)] [] C C_55 from (fr_ste fr_rf e_56 (by decide) (by decide))) (by rw [st_ga e_56]; exact pk_us) (fun j hj => (show ga (C_55 13) j = ga (C 13) j by rw [st_ga e_56]; exact pk_un hj)) (by decide) (by decide)) (ok_f hok ⟨by decide, by decide⟩) (set_52 hp.1.2) ⟨by decide, by decide⟩; have e0 := hq_68 (setA A 2 0) (absM_sk 2 hA hT0 (show fr [(13, 14), (15, 16)] [] C C_63 from (fr_ste (fr_tr (fr_ste fr_rf e_56 (by decide) (by decide)) f_61 (by decide) (by decide)) e_64 (by decide) (by decide))) (by rw [st_ga e_64]; exact pk_us) (fun j hj => (Eq.trans (show ga (C_63 13) j = ga (C_59 13) j by rw [st_ga e_64]; exact pk_un hj) (Eq.trans (congrArg (fun z => ga z j) (f_61.1 13 rfl (by decide))) (show ga (C_55 13) j = ga (C 13) j by rw [st_ga e_56]; exact pk_un hj)))) (by decide) (by decide)) (ok_f hok ⟨by decide, by decide⟩) (set_52 hp.1.2) ⟨by decide, by decide⟩; have hw := mc_w (ok_f hok ⟨by decide, by decide⟩) (rg_w (lo := 0) (hi := 4) u_10.1 (by decide)) (set_52 hp.1.2) (rg_w (lo := 0) (hi := 15) u_20 (by decide)) (rg_w (lo := 0) (hi := 15) u_30 (by decide)) e0; exact Eq.trans (show Int32.toInt64 r_78 = (-5 : Int64) by rw [hq_80]; rfl) (Eq.trans (pif_pos ⟨hj, (oh_rgI (p := 0) (q := 6) (rg_w (lo := 0) (hi := 6) (rg_il (rgL_i (rg_il (rnL_leu u_40.2 (rnL_lel u_40.1 (rgL_c (v := 0) (lo := 0) (hi := 0) (by decide)) (rgL_i (rg_any _))) (rgL_c (v := 6) (lo := 6) (hi := 6) (by decide)))))) (by decide))), (oh_rgI (p := 0) (q := 10) (rg_w (lo := 0) (hi := 10) (rg_il (rgL_i (rg_il (rnL_leu u_50.2 (rnL_lel u_50.1 (rgL_c (v := 0) (lo := 0) (hi := 0) (by decide)) (rgL_i (rg_any _))) (rgL_c (v := 10) (lo := 10) (hi := 10) (by decide)))))) (by decide))), (oh_rgI (p := 0) (q := 999) (rg_w (lo := 0) (hi := 999) (rg_il (rgL_i (rg_il (rnL_leu u_54.2 (rnL_lel u_54.1 (rgL_c (v := 0) (lo := 0) (hi := 0) (by decide)) (rgL_i (rg_any _))) (rgL_c (v := 999) (lo := 999) (hi := 999) (by decide)))))) (by decide)))⟩) (pif_neg (hw.mp c_74))).symm)⟩⟩, ⟨by rw [ht]; exact hP, hD⟩⟩, hS.F ht⟩) hS.2.2 dX7_frost_150
            · have u_83 := hq_52.2.2 c_53
              refine lv_aload_n hx hb dX7_frost_75 rfl (lv_at hl 1 rfl) ?_
              refine lv_bipush (v := (-2)) hx hb dX7_frost_76 (by decide) ?_
              refine tm_V (As := [.int (-2)]) (rest := []) ⟨hx, hb, hml, hown, htg⟩ (c_X7_refuse l D E G _ a C n hn hT ((-2) : Int32) (rg_w (rg_c (v := (-2)) (lo := (-2)) (hi := (-2)) (by decide)) (by decide))) (cwV 1 htg (oh_gV q_1071 q_1073 q_29 q_73 q_1074) rfl rfl rfl pdVX7_refuse ⟨Nat.le_of_ble_eq_true rfl, Nat.le_of_ble_eq_true rfl⟩) hK hP hD hG hS hA (va_recv hK hP (ci := 7) (q0 := 0) rfl (oh_wg (Nat.lt_of_lt_of_le (by decide) hn) (sM_0 hT))) rfl hl.1 rfl (Nat.le_of_ble_eq_true rfl) dX7_frost_78 ⟨Nat.le_of_ble_eq_true rfl, Nat.le_of_ble_eq_true rfl⟩ (fun r_84 C_85 H locs hq_86 hP hD hS => ?_)
              obtain ⟨hT, f_87, hq_86⟩ := hq_86
              have hF := fr_tr hF f_87 (by decide) (by decide)
              refine W.widen (k := 0) (n := 0) (Nat.le_refl _) (Nat.le_refl _) ?_
              have t_88 := hT
              refine lv_i2l (v := Int32.toInt64 r_84) hx hb dX7_frost_81 (by rfl) ?_
              rw [hQ]
              exact W.lret (v := Int32.toInt64 r_84) hx hb hr (fun t ht hW => ⟨⟨Int32.toInt64 r_84, C_85, rfl, ⟨hT, hF, ⟨⟨hR.1.fr hF (by decide), hR.2.fr hF (by decide)⟩, (congrArg ga (f_87.1 13 rfl (by decide))), (fun A hA hok => Eq.trans (show Int32.toInt64 r_84 = (-2 : Int64) by rw [hq_86]; rfl) (pif_neg (fun h8 => (oh_in64 (l' := 0) (k' := 999) rfl rfl u_83) h8.2.2.2)).symm)⟩⟩, ⟨by rw [ht]; exact hP, hD⟩⟩, hS.F ht⟩) hS.2.2 dX7_frost_82
