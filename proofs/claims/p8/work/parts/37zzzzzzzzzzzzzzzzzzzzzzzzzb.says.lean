/-! FULL with shelves: what a shelf says of its bridge -/
def isU (kd k : Int32) : Prop := k = 0 ∨ kd = k ∨ (k = 1 ∧ kd = 2) ∨ (k = 4 ∧ kd = 5)
noncomputable def spk (A : LA) (b : Nat) (k : Int32) : Int32 := pif (k = 0) (A 1 b 0) (pif (k = 1 ∨ k = 2) (axA A b) (pif (k = 3) (A 1 b 2) (pif (k = 4) (A 1 b 9) (alA A b))))
noncomputable def spSays (A : LA) (S : HZ) (s k : Int32) : Int32 := pif ((0 ≤ s ∧ s ≤ 7) ∧ (0 ≤ k ∧ k ≤ 5)) (pif (rowH (S.1 s.toNatClampNeg)) (-3) (pif (S.1 s.toNatClampNeg = -1) (-4) (pif (isU (A 1 (S.1 s.toNatClampNeg - 10).toNatClampNeg 1) k) (spk A (S.1 s.toNatClampNeg - 10).toNatClampNeg k) (-3)))) (-2)
/-- a shelf shows a bridge that there is -/
def shN (n : Int32) (S : HZ) : Prop := ∀ s, s < 8 → (10 : Int32) ≤ S.1 s → (S.1 s).toInt < 10 + n.toInt
theorem sn_up {n m : Int32} {S : HZ} (h : shN n S) (e : n.toInt ≤ m.toInt) : shN m S := fun s hs q => by
  have := h s hs q
  omega
theorem sn_rw {n : Int32} {S : HZ} {s t k : Int32} (h : shN n S) : shN n (spRw S s t k) := by
  by_cases q : (0 ≤ s ∧ s ≤ 7) ∧ (0 ≤ t ∧ t ≤ 4) ∧ (0 ≤ k ∧ k ≤ 40)
  · rw [show spRw S s t k = _ from pif_pos q]
    intro a ha z
    have z : (10 : Int32) ≤ upd S.1 s.toNatClampNeg t a := z
    show (upd S.1 s.toNatClampNeg t a).toInt < _
    by_cases e : a = s.toNatClampNeg
    · rw [e, pk_us] at z
      exact absurd (Int32.le_trans z q.2.1.2) (by decide)
    · rw [pk_un e] at z ⊢
      exact h a ha z
  · rw [show spRw S s t k = S from pif_neg q]
    exact h
theorem h10 {h : Int32} (l : (10 : Int32) ≤ h) : (h - 10).toInt = h.toInt - 10 := by
  have l2 := Int32.le_iff_toInt_le.mp l
  have e10 : (10 : Int32).toInt = 10 := rfl
  have hb := Int32.toInt_lt h
  rw [Int32.toInt_sub]
  exact oh_bmod (by omega) (by omega)
theorem cdB_t {n b : Int32} (hn : rg n 0 16) (hb : 0 ≤ b ∧ b < n) : (cdB b).toInt < 10 + n.toInt := by
  have a := Int32.le_iff_toInt_le.mp hb.1
  have c := Int32.lt_iff_toInt_lt.mp hb.2
  have e0 : (0 : Int32).toInt = 0 := rfl
  have h2 := hn.2
  rw [show cdB b = 10 + b from pif_neg (fun e => by rw [e] at hb; exact absurd hb.1 (by decide))]
  have e : (10 + b).toInt = 10 + b.toInt := by
    rw [Int32.toInt_add]
    exact oh_bmod (by show _ ≤ 10 + b.toInt; omega) (by show 10 + b.toInt ≤ _; omega)
  omega
theorem sn_sw {A : LA} {S : HZ} {s b : Int32} (hn : rg (A 5 0 1) 0 16) (h : shN (A 5 0 1) S) : shN (A 5 0 1) (spSw A S s b) := by
  by_cases q : (0 ≤ s ∧ s ≤ 7) ∧ (b = -1 ∨ (0 ≤ b ∧ b < A 5 0 1))
  · rw [show spSw A S s b = _ from pif_pos q]
    intro a ha z
    have z : (10 : Int32) ≤ upd S.1 s.toNatClampNeg (cdB b) a := z
    show (upd S.1 s.toNatClampNeg (cdB b) a).toInt < _
    by_cases e : a = s.toNatClampNeg
    · rw [e, pk_us] at z ⊢
      rcases q.2 with w | w
      · rw [show cdB b = -1 from pif_pos w] at z
        exact absurd z (by decide)
      · exact cdB_t hn w
    · rw [pk_un e] at z ⊢
      exact h a ha z
  · rw [show spSw A S s b = S from pif_neg q]
    exact h
theorem sn_dr {S : HZ} {n : Int32} (hn : rg n 0 16) : shN n (spDr S n 8) := by
  intro a ha z
  have z : (10 : Int32) ≤ pif (a < 8 ∧ 10 + n ≤ S.1 a) (-1) (S.1 a) := z
  show (pif (a < 8 ∧ 10 + n ≤ S.1 a) (-1) (S.1 a)).toInt < _
  by_cases q : a < 8 ∧ 10 + n ≤ S.1 a
  · rw [pif_pos q] at z
    exact absurd z (by decide)
  · rw [pif_neg q]
    have w : ¬ 10 + n ≤ S.1 a := fun y => q ⟨ha, y⟩
    have w2 := Int32.lt_iff_toInt_lt.mp (Int32.not_le.mp w)
    have e2 : (10 + n).toInt = 10 + n.toInt := by
      rw [Int32.toInt_add]
      exact oh_bmod (by have := hn.1; show _ ≤ 10 + n.toInt; omega) (by have := hn.2; show 10 + n.toInt ≤ _; omega)
    omega
theorem cn_row {A : LA} {t : Nat} {R : Int32} {ok : Prop} {v : Nat → Int32} (h : okA A) (ht : t < 4) : (A 5 0 1).toInt ≤ ((spRow A t R ok v).2 5 0 1).toInt := by
  by_cases q : ok
  · by_cases p : A 5 0 t < R
    · rw [spRow_y q p]
      show _ ≤ (addA A t v 5 0 1).toInt
      by_cases e : 1 = t
      · subst e
        rw [addA_5 ht]
        have h1 := h.1.2.1
        rw [oh_incr h1 (by decide)]
        omega
      · rw [addA_5n ht e]
        exact Int.le_refl _
    · rw [spRow_f q p]
      exact Int.le_refl _
  · rw [spRow_b q]
    exact Int.le_refl _
theorem cn_prop {A : LA} {b m c : Int32} : (A 5 0 1).toInt ≤ ((spProp A b m c).2 5 0 1).toInt := by
  by_cases q : (0 ≤ b ∧ b < A 5 0 1) ∧ (0 ≤ m ∧ m ≤ 999) ∧ (0 ≤ c ∧ c ≤ 999)
  · rw [show spProp A b m c = _ from pif_pos q]
    show _ ≤ (putA (putA A 1 b.toNatClampNeg 5 m) 1 b.toNatClampNeg 6 c 5 0 1).toInt
    rw [putA_5 (by decide), putA_5 (by decide)]
    exact Int.le_refl _
  · rw [show spProp A b m c = _ from pif_neg q]
    exact Int.le_refl _
theorem cn_ask {A : LA} {w v : Int32} : (A 5 0 1).toInt ≤ ((spAsk A w v).2 5 0 1).toInt := by
  by_cases q : (0 ≤ w ∧ w ≤ 2) ∧ (0 ≤ v ∧ v ≤ oh_maxs w.toNatClampNeg)
  · rw [show spAsk A w v = _ from pif_pos q]
    show _ ≤ (setA A w.toNatClampNeg v 5 0 1).toInt
    rw [setA_5]
    exact Int.le_refl _
  · rw [show spAsk A w v = _ from pif_neg q]
    exact Int.le_refl _
theorem cn_shut {A : LA} {r x : Int32} : (A 5 0 1).toInt ≤ ((spShut A r x).2 5 0 1).toInt := by
  by_cases q : 0 ≤ r ∧ r < A 5 0 0
  · rw [show spShut A r x = _ from pif_pos q]
    show _ ≤ (putA A 0 r.toNatClampNeg 6 (b01 x) 5 0 1).toInt
    rw [putA_5 (by decide)]
    exact Int.le_refl _
  · rw [show spShut A r x = _ from pif_neg q]
    exact Int.le_refl _
theorem cn_stand {A : LA} {b w x : Int32} : (A 5 0 1).toInt ≤ (stA A b w x 5 0 1).toInt := by
  by_cases q : (0 ≤ b ∧ b < A 5 0 1) ∧ (0 ≤ w ∧ w ≤ 2) ∧ ¬ (w = 0 ∧ A 1 b.toNatClampNeg 1 = 3)
  · rw [show stA A b w x = _ from pif_pos q, putA_5 (by decide)]
    exact Int.le_refl _
  · rw [show stA A b w x = _ from pif_neg q]
    exact Int.le_refl _
theorem cn_c {A : LA} (h : okA A) : ∀ t, t < 4 → rg (A 5 0 t) 0 24 := by
  intro t ht
  obtain ⟨h0, h1, h2, h3⟩ := h.1
  rcases (show t = 0 ∨ t = 1 ∨ t = 2 ∨ t = 3 by omega) with rfl | rfl | rfl | rfl
  · exact h0
  · exact rg_w h1 (by decide)
  · exact rg_w h2 (by decide)
  · exact rg_w h3 (by decide)
theorem cn_loop {f : Nat → Int32} {A : LA} : ∀ (n : Nat) (p : PX) (B : LA) (k : Int32), okA B → below A B → ∀ y, rdLoop f n p B k = .ok y → below A y.1 := by
  intro n
  induction n with
  | zero =>
    intro p B k _ hb y e
    cases e
    exact hb
  | succ n ih =>
    intro p B k ho hb y e
    rw [rdLoop_s] at e
    by_cases q : p.2.2.1 = 0
    · rw [pif_pos q] at e
      cases e
      exact hb
    · rw [pif_neg q] at e
      by_cases q3 : p.2.2.1 = 3
      · rw [pif_pos q3] at e
        cases es : rdStmt f (xAdv f p) B with
        | error z =>
          rw [es] at e
          cases e
        | ok x =>
          rw [es] at e
          exact ih x.2 x.1 (k + 1) (ok_stm f _ ho x es) (below_stmt hb (cn_c ho) es) y e
      · rw [pif_neg q3] at e
        cases e
theorem cn_land {f : Nat → Int32} {n r : Int32} {A B : LA} (h : okA A) (l : LandR (rdTot f n A) A B r) : (A 5 0 1).toInt ≤ (B 5 0 1).toInt := by
  cases e : rdTot f n A with
  | error z =>
    rw [e] at l
    rw [l.2]
    exact Int.le_refl _
  | ok y =>
    rw [e] at l
    rw [l.2]
    unfold rdTot at e
    cases es : rdStmt f (xAdv f (n, -1, 0, 0, 0)) A with
    | error z =>
      rw [es] at e
      cases e
    | ok x =>
      rw [es] at e
      exact (cn_loop 249 x.2 x.1 1 (ok_stm f _ h x es) (below_stmt below_rf (cn_c h) es) y e).1 1 (by decide)
theorem cn_U {A : LA} {w s : Int32} {i : Nat} : ∀ j, spU A w s i j 5 0 1 = A 5 0 1 := by
  intro j
  exact spU_o (by omega)
theorem cn_step {A B : LA} {T U : TP} {r : Int32} (l : stpA A T r B U) : (A 5 0 1).toInt ≤ (B 5 0 1).toInt := by
  rcases l with ⟨_, _, e, _⟩ | ⟨_, _, _, e, _⟩ | ⟨_, _, _, e, _⟩
  · rw [e]
    exact Int.le_refl _
  · rw [e]
    exact Int.le_refl _
  · rw [e, cn_U]
    exact Int.le_refl _
theorem sy_n {h n : Int32} (ok : okH h) (nr : ¬ rowH h) (hn : (10 : Int32) ≤ h → h.toInt < 10 + n.toInt) (c : ¬ (0 ≤ h - 10 ∧ h - 10 < n)) : h = -1 := by
  rcases ok with o | o | o
  · exact o
  · exact absurd (rowH_4 o.1 o.2) nr
  · have l2 := Int32.le_iff_toInt_le.mp o
    have e10 : (10 : Int32).toInt = 10 := rfl
    have e0 : (0 : Int32).toInt = 0 := rfl
    have e := h10 o
    have k := hn o
    exact absurd ⟨Int32.le_iff_toInt_le.mpr (by omega), Int32.lt_iff_toInt_lt.mpr (by omega)⟩ c
theorem sy_b {h : Int32} (c : 0 ≤ h - 10) : ¬ h = -1 := fun e => by
  rw [e] at c
  exact absurd c (by decide)
theorem tak_u : ∀ i : Nat, i < 6 → ∀ j : Nat, j < 6 → ((oh_tak i >>> (Int32.ofNat j &&& 31)) &&& 1 = 1 ↔ (Int32.ofNat j = 0 ∨ Int32.ofNat i = Int32.ofNat j ∨ (Int32.ofNat j = 1 ∧ Int32.ofNat i = 2) ∨ (Int32.ofNat j = 4 ∧ Int32.ofNat i = 5))) := by decide +kernel
theorem tak_x {x k : Int32} (hx : rg x 0 5) (hk : rg k 0 5) : (oh_tak x.toNatClampNeg >>> (k &&& 31)) &&& 1 = 1 ↔ isU x k := by
  have h := tak_u x.toNatClampNeg (by have := oh_nat hx (by decide); have := hx.2; omega) k.toNatClampNeg (by have := oh_nat hk (by decide); have := hk.2; omega)
  rw [oh_ofc hx (by decide), oh_ofc hk (by decide)] at h
  exact h

set_option maxHeartbeats 4000000 in
set_option maxRecDepth 100000 in
theorem e_X0_mayBeTakenFor (l : Launch) (D : va_G) (E : Nat → ClassId) (G : Nat → Nat) (a : Nat → Nat) (C : Nat → va_E) (hT : TyX a E C) (x1 : Int32) (x2 : Int32) (hx1 : rg x1 0 15) : Met l yX0_mayBeTakenFor (oh_w yX0_mayBeTakenFor cX0_mayBeTakenFor 3 (some .boolean)) ({ frames := 1, cells := 0, slots := 0, locals := 22 }) (oh_Pp D E G [.ref (a 1), .int x1, .int x2] (oh_W 35 a C)) (vp_Si (fun r => (r = 0 ∨ r = 1) ∧ ((0 : Int32) ≤ x2 ∧ x2 ≤ 5 → (r = 1 ↔ isU (ga (C 12) ((x1 * 10) + 1).toNatClampNeg) x2)))) 0 0 (fun _ => False) := by
  refine Met.ofW (cc := cX0_mayBeTakenFor) (maxL := 3) (ret := (some .boolean)) (by decide) rfl ?_
  intro p e s m args below meth c s₁ B hml hv
  obtain ⟨rfl, hP, hK, hG⟩ := hv
  have hx := B.exec
  have hb := B.bytes
  have hr := B.returns
  have hts := atoms_spec (ws := (oh_w yX0_mayBeTakenFor cX0_mayBeTakenFor 3 (some .boolean))) B.pre
  have htg : ∀ w ∈ oh_t, w.before _ s = true := fun w h => hts w (List.mem_cons_of_mem _ h)
  have hown : s.vm.findClass RX0 = some m.cls := findClass_of_methodNamed B.named
  have hlocks := B.notSynchronized
  have hT0 := hT
  have hS : va_S (fun _ => False) s.heap s.heap [] := va_S.rf
  have hl := lv_entry ([.ref (a 1), .int x1, .int x2]) (n := 3) (Nat.le_of_ble_eq_true rfl)
  rw [lg_entry_eq]
  generalize (lg_sl ([.ref (a 1), .int x1, .int x2]) ++ List.replicate (3 - (lg_sl ([.ref (a 1), .int x1, .int x2])).length) Slot.unset).toArray = ls at hl ⊢
  have hl : lv_has ls 3 [(0, .ref (a 1)), (1, .int x1), (2, .int x2)] := hl
  refine oh_genQ (fun Q hQ => ?_)
  refine va_getsN hx hb hG.2.2.2.2.2.1.1 hS hown (va_Nw.use rfl (hG.2.1 ("OneHeavyLoad$Land", 57, "OneHeavyLoad", "TAKEN_FOR", "[I", "OneHeavyLoad") (List.mem_of_getElem? (i := 3) rfl))) (fun _ h9 => h9) dX0_mayBeTakenFor_0 ?_
  refine lv_aload_n hx hb dX0_mayBeTakenFor_3 rfl (lv_at hl 0 rfl) ?_
  refine lv_iload_n hx hb dX0_mayBeTakenFor_4 rfl (lv_at hl 1 rfl) ?_
  refine lv_iconst (v := 1) hx hb dX0_mayBeTakenFor_5 (by decide) ?_
  refine tq_V (As := [.int x1, .int 1]) (rest := [.ref (G 2)]) (ws := (oh_W 35 a C)) ⟨hx, hb, hml, hown, htg⟩ (c_X0_ofBridge l D E G a C hT x1 (1 : Int32) (rg_w hx1 (by decide)) (rg_w (rg_c (v := 1) (lo := 1) (hi := 1) (by decide)) (by decide))) (cwV 2 htg (oh_gV q_384 q_385 q_386 q_67 q_387) rfl rfl rfl pdVX0_ofBridge ⟨Nat.le_of_ble_eq_true rfl, Nat.le_of_ble_eq_true rfl⟩) hK hP hG hS (va_recv hK hP (ci := 0) (q0 := 1) rfl (oh_wg (by decide) (sX_1 hT))) rfl hl.1 rfl (Nat.le_of_ble_eq_true rfl) dX0_mayBeTakenFor_6 ⟨Nat.le_of_ble_eq_true rfl, Nat.le_of_ble_eq_true rfl⟩ (fun r_1 hq_2 => ?_)
  subst hq_2
  refine va_ti (v := .int (oh_tak (ga (C 12) ((x1 * 10) + 1).toNatClampNeg).toNatClampNeg)) hx hb hG.2.2.2.2.2.1.2 hS (rg_in (tA_rdc (lo := 0) (hi := 5) (tX_12 hT0) (rg_in (rg_add (lo := 1) (hi := 151) (rg_mul (lo := 0) (hi := 150) hx1 (rg_c (v := 10) (lo := 10) (hi := 10) (by decide)) (by decide)) (rg_c (v := 1) (lo := 1) (hi := 1) (by decide)) (by decide)) (by decide)) (oh_col (W := 10) hx1 rfl (rg_c (v := 1) (lo := 1) (hi := 1) (by decide)) (by decide)) (by decide)) (by decide)) rfl dX0_mayBeTakenFor_9 ?_
  refine lv_iload_n hx hb dX0_mayBeTakenFor_10 rfl (lv_at hl 2 rfl) ?_
  refine lv_ishr hx hb dX0_mayBeTakenFor_11 ?_
  refine lv_iconst (v := 1) hx hb dX0_mayBeTakenFor_12 (by decide) ?_
  refine lv_iand hx hb dX0_mayBeTakenFor_13 ?_
  refine lv_iconst (v := 1) hx hb dX0_mayBeTakenFor_14 (by decide) ?_
  refine lv_icmp_ne (tgt := 22) hx hb dX0_mayBeTakenFor_15 (by decide) (fun (c_3 : ¬ ((((oh_tak (ga (C 12) ((x1 * 10) + 1).toNatClampNeg).toNatClampNeg) >>> (x2 &&& 31)) &&& 1) = 1)) => ?_) (fun (c_3 : (((oh_tak (ga (C 12) ((x1 * 10) + 1).toNatClampNeg).toNatClampNeg) >>> (x2 &&& 31)) &&& 1) = 1) => ?_)
  · refine lv_iconst (v := 0) hx hb dX0_mayBeTakenFor_22 (by decide) ?_
    rw [hQ]
    exact W.zret (v := 0) (ty := .boolean) hx hb hr (by decide) (fun t ht hW => ⟨0, rfl, ⟨(Or.inl rfl), (fun h0 => ⟨fun h8 => absurd h8 (by decide), fun h8 => absurd ((tak_x (rg_w (lo := 0) (hi := 5) (tA_rdc (lo := 0) (hi := 5) (tX_12 hT0) (rg_in (rg_add (lo := 1) (hi := 151) (rg_mul (lo := 0) (hi := 150) hx1 (rg_c (v := 10) (lo := 10) (hi := 10) (by decide)) (by decide)) (rg_c (v := 1) (lo := 1) (hi := 1) (by decide)) (by decide)) (by decide)) (oh_col (W := 10) hx1 rfl (rg_c (v := 1) (lo := 1) (hi := 1) (by decide)) (by decide)) (by decide)) (by decide)) ⟨Int32.le_iff_toInt_le.mp h0.1, Int32.le_iff_toInt_le.mp h0.2⟩).mpr h8) c_3⟩)⟩, ht⟩) (fun q h => by cases h) dX0_mayBeTakenFor_23
  · refine lv_iconst (v := 1) hx hb dX0_mayBeTakenFor_18 (by decide) ?_
    refine lv_goto (tgt := 23) hx hb dX0_mayBeTakenFor_19 (by decide) ?_
    rw [hQ]
    exact W.zret (v := 1) (ty := .boolean) hx hb hr (by decide) (fun t ht hW => ⟨1, rfl, ⟨(Or.inr rfl), (fun h0 => ⟨fun _ => (tak_x (rg_w (lo := 0) (hi := 5) (tA_rdc (lo := 0) (hi := 5) (tX_12 hT0) (rg_in (rg_add (lo := 1) (hi := 151) (rg_mul (lo := 0) (hi := 150) hx1 (rg_c (v := 10) (lo := 10) (hi := 10) (by decide)) (by decide)) (rg_c (v := 1) (lo := 1) (hi := 1) (by decide)) (by decide)) (by decide)) (oh_col (W := 10) hx1 rfl (rg_c (v := 1) (lo := 1) (hi := 1) (by decide)) (by decide)) (by decide)) (by decide)) ⟨Int32.le_iff_toInt_le.mp h0.1, Int32.le_iff_toInt_le.mp h0.2⟩).mp c_3, fun _ => rfl⟩)⟩, ht⟩) (fun q h => by cases h) dX0_mayBeTakenFor_23

set_option maxHeartbeats 4000000 in
set_option maxRecDepth 100000 in
theorem e_X6_spoken (l : Launch) (D : va_G) (E : Nat → ClassId) (G : Nat → Nat) (a : Nat → Nat) (C : Nat → va_E) (hT : TyX a E C) (x1 : Int32) (x2 : Int32) (hx1 : rg x1 0 15) : Met l yX6_spoken (oh_w yX6_spoken cX6_spoken 3 (some .int)) ({ frames := 2, cells := 0, slots := 0, locals := 51 }) (oh_Pp D E G [.ref (a 0), .int x1, .int x2] (oh_W 35 a C)) (vp_Si (fun r => (∀ A : LA, absX 10 C A → x1 < A 5 0 1 → r = spk A x1.toNatClampNeg x2))) 0 0 (fun _ => False) := by
  refine Met.ofW (cc := cX6_spoken) (maxL := 3) (ret := (some .int)) (by decide) rfl ?_
  intro p e s m args below meth c s₁ B hml hv
  obtain ⟨rfl, hP, hK, hG⟩ := hv
  have hx := B.exec
  have hb := B.bytes
  have hr := B.returns
  have hts := atoms_spec (ws := (oh_w yX6_spoken cX6_spoken 3 (some .int))) B.pre
  have htg : ∀ w ∈ oh_t, w.before _ s = true := fun w h => hts w (List.mem_cons_of_mem _ h)
  have hown : s.vm.findClass RX6 = some m.cls := findClass_of_methodNamed B.named
  have hlocks := B.notSynchronized
  have hT0 := hT
  have hS : va_S (fun _ => False) s.heap s.heap [] := va_S.rf
  have hl := lv_entry ([.ref (a 0), .int x1, .int x2]) (n := 3) (Nat.le_of_ble_eq_true rfl)
  rw [lg_entry_eq]
  generalize (lg_sl ([.ref (a 0), .int x1, .int x2]) ++ List.replicate (3 - (lg_sl ([.ref (a 0), .int x1, .int x2])).length) Slot.unset).toArray = ls at hl ⊢
  have hl : lv_has ls 3 [(0, .ref (a 0)), (1, .int x1), (2, .int x2)] := hl
  refine oh_genQ (fun Q hQ => ?_)
  refine lv_iload_n hx hb dX6_spoken_0 rfl (lv_at hl 2 rfl) ?_
  by_cases c_1 : x2 = 0
  · refine lv_tableIn (off := 35) (tgt := 36) hx hb dX6_spoken_1 (by rw [c_1]; decide) (by rw [c_1]; decide) (by rw [c_1]; decide) (by decide) ?_
    refine lv_aload_n hx hb dX6_spoken_36 rfl (lv_at hl 0 rfl) ?_
    refine va_get (D := D) (ci := 6) (v := .ref (a 1)) (C := RX6) (T := TX6) (N := 9) hx hb htg ig_6 hown hK hP 0 (oh_wg (by decide) (sX_0 hT)) rfl 0 (by decide) (htg _ q_258) (fun _ h9 => h9) rfl dX6_spoken_37 ?_
    refine lv_iload_n hx hb dX6_spoken_40 rfl (lv_at hl 1 rfl) ?_
    refine lv_iconst (v := 0) hx hb dX6_spoken_41 (by decide) ?_
    refine tq_V (As := [.int x1, .int 0]) (rest := []) (ws := (oh_W 35 a C)) ⟨hx, hb, hml, hown, htg⟩ (c_X0_ofBridge l D E G a C hT x1 (0 : Int32) (rg_w hx1 (by decide)) (rg_w (rg_c (v := 0) (lo := 0) (hi := 0) (by decide)) (by decide))) (cwV 2 htg (oh_gV q_392 q_385 q_386 q_67 q_387) rfl rfl rfl pdVX0_ofBridge ⟨Nat.le_of_ble_eq_true rfl, Nat.le_of_ble_eq_true rfl⟩) hK hP hG hS (va_recv hK hP (ci := 0) (q0 := 1) rfl (oh_wg (by decide) (sX_1 hT))) rfl hl.1 rfl (Nat.le_of_ble_eq_true rfl) dX6_spoken_42 ⟨Nat.le_of_ble_eq_true rfl, Nat.le_of_ble_eq_true rfl⟩ (fun r_2 hq_3 => ?_)
    subst hq_3
    rw [hQ]
    exact W.iret (v := ga (C 12) ((x1 * 10) + 0).toNatClampNeg) hx hb hr (fun t ht hW => ⟨ga (C 12) ((x1 * 10) + 0).toNatClampNeg, rfl, (fun A hA hl => Eq.trans (bcX hA hx1 hl ⟨by decide, by decide⟩) (pif_pos c_1).symm), ht⟩) (fun q h => by cases h) dX6_spoken_45
  · by_cases c_4 : x2 = 1
    · refine lv_tableIn (off := 45) (tgt := 46) hx hb dX6_spoken_1 (by rw [c_4]; decide) (by rw [c_4]; decide) (by rw [c_4]; decide) (by decide) ?_
      refine lv_aload_n hx hb dX6_spoken_46 rfl (lv_at hl 0 rfl) ?_
      refine va_get (D := D) (ci := 6) (v := .ref (a 1)) (C := RX6) (T := TX6) (N := 9) hx hb htg ig_6 hown hK hP 0 (oh_wg (by decide) (sX_0 hT)) rfl 0 (by decide) (htg _ q_258) (fun _ h9 => h9) rfl dX6_spoken_47 ?_
      refine lv_iload_n hx hb dX6_spoken_50 rfl (lv_at hl 1 rfl) ?_
      refine tq_V (As := [.int x1]) (rest := []) (ws := (oh_W 35 a C)) ⟨hx, hb, hml, hown, htg⟩ (e_X0_bearsAxle l D E G a C hT x1 (rg_w hx1 (by decide))) (cwV 1 htg (oh_gV q_393 q_394 q_395 q_67 q_396) rfl rfl rfl pdVX0_bearsAxle ⟨Nat.le_of_ble_eq_true rfl, Nat.le_of_ble_eq_true rfl⟩) hK hP hG hS (va_recv hK hP (ci := 0) (q0 := 1) rfl (oh_wg (by decide) (sX_1 hT))) rfl hl.1 rfl (Nat.le_of_ble_eq_true rfl) dX6_spoken_51 ⟨Nat.le_of_ble_eq_true rfl, Nat.le_of_ble_eq_true rfl⟩ (fun r_5 hq_6 => ?_)
      rw [hQ]
      exact W.iret (v := r_5) hx hb hr (fun t ht hW => ⟨r_5, rfl, (fun A hA hl => by have b1 : ga (C 12) ((x1 * 10) + 1).toNatClampNeg = A 1 x1.toNatClampNeg 1 := bcX hA hx1 hl ⟨by decide, by decide⟩; have b3 : ga (C 12) ((x1 * 10) + 3).toNatClampNeg = A 1 x1.toNatClampNeg 3 := bcX hA hx1 hl ⟨by decide, by decide⟩; have b4 : ga (C 12) ((x1 * 10) + 4).toNatClampNeg = A 1 x1.toNatClampNeg 4 := bcX hA hx1 hl ⟨by decide, by decide⟩; have b5 : ga (C 12) ((x1 * 10) + 5).toNatClampNeg = A 1 x1.toNatClampNeg 5 := bcX hA hx1 hl ⟨by decide, by decide⟩; have b7 : ga (C 12) ((x1 * 10) + 7).toNatClampNeg = A 1 x1.toNatClampNeg 7 := bcX hA hx1 hl ⟨by decide, by decide⟩; have b8 : ga (C 12) ((x1 * 10) + 8).toNatClampNeg = A 1 x1.toNatClampNeg 8 := bcX hA hx1 hl ⟨by decide, by decide⟩; have b9 : ga (C 12) ((x1 * 10) + 9).toNatClampNeg = A 1 x1.toNatClampNeg 9 := bcX hA hx1 hl ⟨by decide, by decide⟩; have bf : ga (C 15) ((2 : Int32)).toNatClampNeg = A 4 0 2 := hA.2.1 2 (by decide); exact Eq.trans (by rw [hq_6, b1, b3, b8, b9, bf]; rfl) (Eq.trans (pif_neg (fun h8 => absurd (Eq.trans (Eq.symm c_4) h8) (by decide))) (pif_pos (Or.inl c_4))).symm), ht⟩) (fun q h => by cases h) dX6_spoken_54
    · by_cases c_7 : x2 = 2
      · refine lv_tableIn (off := 45) (tgt := 46) hx hb dX6_spoken_1 (by rw [c_7]; decide) (by rw [c_7]; decide) (by rw [c_7]; decide) (by decide) ?_
        refine lv_aload_n hx hb dX6_spoken_46 rfl (lv_at hl 0 rfl) ?_
        refine va_get (D := D) (ci := 6) (v := .ref (a 1)) (C := RX6) (T := TX6) (N := 9) hx hb htg ig_6 hown hK hP 0 (oh_wg (by decide) (sX_0 hT)) rfl 0 (by decide) (htg _ q_258) (fun _ h9 => h9) rfl dX6_spoken_47 ?_
        refine lv_iload_n hx hb dX6_spoken_50 rfl (lv_at hl 1 rfl) ?_
        refine tq_V (As := [.int x1]) (rest := []) (ws := (oh_W 35 a C)) ⟨hx, hb, hml, hown, htg⟩ (e_X0_bearsAxle l D E G a C hT x1 (rg_w hx1 (by decide))) (cwV 1 htg (oh_gV q_393 q_394 q_395 q_67 q_396) rfl rfl rfl pdVX0_bearsAxle ⟨Nat.le_of_ble_eq_true rfl, Nat.le_of_ble_eq_true rfl⟩) hK hP hG hS (va_recv hK hP (ci := 0) (q0 := 1) rfl (oh_wg (by decide) (sX_1 hT))) rfl hl.1 rfl (Nat.le_of_ble_eq_true rfl) dX6_spoken_51 ⟨Nat.le_of_ble_eq_true rfl, Nat.le_of_ble_eq_true rfl⟩ (fun r_8 hq_9 => ?_)
        rw [hQ]
        exact W.iret (v := r_8) hx hb hr (fun t ht hW => ⟨r_8, rfl, (fun A hA hl => by have b1 : ga (C 12) ((x1 * 10) + 1).toNatClampNeg = A 1 x1.toNatClampNeg 1 := bcX hA hx1 hl ⟨by decide, by decide⟩; have b3 : ga (C 12) ((x1 * 10) + 3).toNatClampNeg = A 1 x1.toNatClampNeg 3 := bcX hA hx1 hl ⟨by decide, by decide⟩; have b4 : ga (C 12) ((x1 * 10) + 4).toNatClampNeg = A 1 x1.toNatClampNeg 4 := bcX hA hx1 hl ⟨by decide, by decide⟩; have b5 : ga (C 12) ((x1 * 10) + 5).toNatClampNeg = A 1 x1.toNatClampNeg 5 := bcX hA hx1 hl ⟨by decide, by decide⟩; have b7 : ga (C 12) ((x1 * 10) + 7).toNatClampNeg = A 1 x1.toNatClampNeg 7 := bcX hA hx1 hl ⟨by decide, by decide⟩; have b8 : ga (C 12) ((x1 * 10) + 8).toNatClampNeg = A 1 x1.toNatClampNeg 8 := bcX hA hx1 hl ⟨by decide, by decide⟩; have b9 : ga (C 12) ((x1 * 10) + 9).toNatClampNeg = A 1 x1.toNatClampNeg 9 := bcX hA hx1 hl ⟨by decide, by decide⟩; have bf : ga (C 15) ((2 : Int32)).toNatClampNeg = A 4 0 2 := hA.2.1 2 (by decide); exact Eq.trans (by rw [hq_9, b1, b3, b8, b9, bf]; rfl) (Eq.trans (pif_neg (fun h8 => absurd (Eq.trans (Eq.symm c_7) h8) (by decide))) (pif_pos (Or.inr c_7))).symm), ht⟩) (fun q h => by cases h) dX6_spoken_54
      · by_cases c_10 : x2 = 3
        · refine lv_tableIn (off := 54) (tgt := 55) hx hb dX6_spoken_1 (by rw [c_10]; decide) (by rw [c_10]; decide) (by rw [c_10]; decide) (by decide) ?_
          refine lv_aload_n hx hb dX6_spoken_55 rfl (lv_at hl 0 rfl) ?_
          refine va_get (D := D) (ci := 6) (v := .ref (a 1)) (C := RX6) (T := TX6) (N := 9) hx hb htg ig_6 hown hK hP 0 (oh_wg (by decide) (sX_0 hT)) rfl 0 (by decide) (htg _ q_258) (fun _ h9 => h9) rfl dX6_spoken_56 ?_
          refine lv_iload_n hx hb dX6_spoken_59 rfl (lv_at hl 1 rfl) ?_
          refine lv_iconst (v := 2) hx hb dX6_spoken_60 (by decide) ?_
          refine tq_V (As := [.int x1, .int 2]) (rest := []) (ws := (oh_W 35 a C)) ⟨hx, hb, hml, hown, htg⟩ (c_X0_ofBridge l D E G a C hT x1 (2 : Int32) (rg_w hx1 (by decide)) (rg_w (rg_c (v := 2) (lo := 2) (hi := 2) (by decide)) (by decide))) (cwV 2 htg (oh_gV q_392 q_385 q_386 q_67 q_387) rfl rfl rfl pdVX0_ofBridge ⟨Nat.le_of_ble_eq_true rfl, Nat.le_of_ble_eq_true rfl⟩) hK hP hG hS (va_recv hK hP (ci := 0) (q0 := 1) rfl (oh_wg (by decide) (sX_1 hT))) rfl hl.1 rfl (Nat.le_of_ble_eq_true rfl) dX6_spoken_61 ⟨Nat.le_of_ble_eq_true rfl, Nat.le_of_ble_eq_true rfl⟩ (fun r_11 hq_12 => ?_)
          subst hq_12
          rw [hQ]
          exact W.iret (v := ga (C 12) ((x1 * 10) + 2).toNatClampNeg) hx hb hr (fun t ht hW => ⟨ga (C 12) ((x1 * 10) + 2).toNatClampNeg, rfl, (fun A hA hl => Eq.trans (bcX hA hx1 hl ⟨by decide, by decide⟩) (Eq.trans (pif_neg (fun h8 => absurd (Eq.trans (Eq.symm c_10) h8) (by decide))) (Eq.trans (pif_neg (fun h7 => h7.elim (fun h8 => absurd (Eq.trans (Eq.symm c_10) h8) (by decide)) (fun h8 => absurd (Eq.trans (Eq.symm c_10) h8) (by decide)))) (pif_pos c_10))).symm), ht⟩) (fun q h => by cases h) dX6_spoken_64
        · by_cases c_13 : x2 = 4
          · refine lv_tableIn (off := 64) (tgt := 65) hx hb dX6_spoken_1 (by rw [c_13]; decide) (by rw [c_13]; decide) (by rw [c_13]; decide) (by decide) ?_
            refine lv_aload_n hx hb dX6_spoken_65 rfl (lv_at hl 0 rfl) ?_
            refine va_get (D := D) (ci := 6) (v := .ref (a 1)) (C := RX6) (T := TX6) (N := 9) hx hb htg ig_6 hown hK hP 0 (oh_wg (by decide) (sX_0 hT)) rfl 0 (by decide) (htg _ q_258) (fun _ h9 => h9) rfl dX6_spoken_66 ?_
            refine lv_iload_n hx hb dX6_spoken_69 rfl (lv_at hl 1 rfl) ?_
            refine lv_bipush (v := 9) hx hb dX6_spoken_70 (by decide) ?_
            refine tq_V (As := [.int x1, .int 9]) (rest := []) (ws := (oh_W 35 a C)) ⟨hx, hb, hml, hown, htg⟩ (c_X0_ofBridge l D E G a C hT x1 (9 : Int32) (rg_w hx1 (by decide)) (rg_w (rg_c (v := 9) (lo := 9) (hi := 9) (by decide)) (by decide))) (cwV 2 htg (oh_gV q_392 q_385 q_386 q_67 q_387) rfl rfl rfl pdVX0_ofBridge ⟨Nat.le_of_ble_eq_true rfl, Nat.le_of_ble_eq_true rfl⟩) hK hP hG hS (va_recv hK hP (ci := 0) (q0 := 1) rfl (oh_wg (by decide) (sX_1 hT))) rfl hl.1 rfl (Nat.le_of_ble_eq_true rfl) dX6_spoken_72 ⟨Nat.le_of_ble_eq_true rfl, Nat.le_of_ble_eq_true rfl⟩ (fun r_14 hq_15 => ?_)
            subst hq_15
            rw [hQ]
            exact W.iret (v := ga (C 12) ((x1 * 10) + 9).toNatClampNeg) hx hb hr (fun t ht hW => ⟨ga (C 12) ((x1 * 10) + 9).toNatClampNeg, rfl, (fun A hA hl => Eq.trans (bcX hA hx1 hl ⟨by decide, by decide⟩) (Eq.trans (pif_neg (fun h8 => absurd (Eq.trans (Eq.symm c_13) h8) (by decide))) (Eq.trans (pif_neg (fun h7 => h7.elim (fun h8 => absurd (Eq.trans (Eq.symm c_13) h8) (by decide)) (fun h8 => absurd (Eq.trans (Eq.symm c_13) h8) (by decide)))) (Eq.trans (pif_neg (fun h8 => absurd (Eq.trans (Eq.symm c_13) h8) (by decide))) (pif_pos c_13)))).symm), ht⟩) (fun q h => by cases h) dX6_spoken_75
          · refine lv_tableOut (tgt := 76) hx hb dX6_spoken_1 (by have h9 := And.intro (oh_ne c_1 (k := 0) (by decide)) (And.intro (oh_ne c_4 (k := 1) (by decide)) (And.intro (oh_ne c_7 (k := 2) (by decide)) (And.intro (oh_ne c_10 (k := 3) (by decide)) (And.intro (oh_ne c_13 (k := 4) (by decide)) trivial)))); omega) (by decide) ?_
            refine lv_aload_n hx hb dX6_spoken_76 rfl (lv_at hl 0 rfl) ?_
            refine va_get (D := D) (ci := 6) (v := .ref (a 1)) (C := RX6) (T := TX6) (N := 9) hx hb htg ig_6 hown hK hP 0 (oh_wg (by decide) (sX_0 hT)) rfl 0 (by decide) (htg _ q_258) (fun _ h9 => h9) rfl dX6_spoken_77 ?_
            refine lv_iload_n hx hb dX6_spoken_80 rfl (lv_at hl 1 rfl) ?_
            refine lv_aload_n hx hb dX6_spoken_81 rfl (lv_at hl 0 rfl) ?_
            refine va_get (D := D) (ci := 6) (v := .ref (a 1)) (C := RX6) (T := TX6) (N := 9) hx hb htg ig_6 hown hK hP 0 (oh_wg (by decide) (sX_0 hT)) rfl 0 (by decide) (htg _ q_258) (fun _ h9 => h9) rfl dX6_spoken_82 ?_
            refine lv_iload_n hx hb dX6_spoken_85 rfl (lv_at hl 1 rfl) ?_
            refine tq_V (As := [.int x1]) (rest := [.int x1, .ref (a 1)]) (ws := (oh_W 35 a C)) ⟨hx, hb, hml, hown, htg⟩ (e_X0_isPropped l D E G a C hT x1 (rg_w hx1 (by decide))) (cwV 1 htg (oh_gV q_401 q_402 q_403 q_67 q_404) rfl rfl rfl pdVX0_isPropped ⟨Nat.le_of_ble_eq_true rfl, Nat.le_of_ble_eq_true rfl⟩) hK hP hG hS (va_recv hK hP (ci := 0) (q0 := 1) rfl (oh_wg (by decide) (sX_1 hT))) rfl hl.1 rfl (Nat.le_of_ble_eq_true rfl) dX6_spoken_86 ⟨Nat.le_of_ble_eq_true rfl, Nat.le_of_ble_eq_true rfl⟩ (fun r_16 hq_17 => ?_)
            refine tq_V (As := [.int x1, .int r_16]) (rest := []) (ws := (oh_W 35 a C)) ⟨hx, hb, hml, hown, htg⟩ (e_X0_bearsAll l D E G a C hT x1 r_16 (rg_w hx1 (by decide)) (rg_w (oh_rgb hq_17.1) (by decide))) (cwV 2 htg (oh_gV q_405 q_406 q_407 q_67 q_408) rfl rfl rfl pdVX0_bearsAll ⟨Nat.le_of_ble_eq_true rfl, Nat.le_of_ble_eq_true rfl⟩) hK hP hG hS (va_recv hK hP (ci := 0) (q0 := 1) rfl (oh_wg (by decide) (sX_1 hT))) rfl hl.1 rfl (Nat.le_of_ble_eq_true rfl) dX6_spoken_89 ⟨Nat.le_of_ble_eq_true rfl, Nat.le_of_ble_eq_true rfl⟩ (fun r_18 hq_19 => ?_)
            rw [hQ]
            exact W.iret (v := r_18) hx hb hr (fun t ht hW => ⟨r_18, rfl, (fun A hA hl => by have b1 : ga (C 12) ((x1 * 10) + 1).toNatClampNeg = A 1 x1.toNatClampNeg 1 := bcX hA hx1 hl ⟨by decide, by decide⟩; have b3 : ga (C 12) ((x1 * 10) + 3).toNatClampNeg = A 1 x1.toNatClampNeg 3 := bcX hA hx1 hl ⟨by decide, by decide⟩; have b4 : ga (C 12) ((x1 * 10) + 4).toNatClampNeg = A 1 x1.toNatClampNeg 4 := bcX hA hx1 hl ⟨by decide, by decide⟩; have b5 : ga (C 12) ((x1 * 10) + 5).toNatClampNeg = A 1 x1.toNatClampNeg 5 := bcX hA hx1 hl ⟨by decide, by decide⟩; have b7 : ga (C 12) ((x1 * 10) + 7).toNatClampNeg = A 1 x1.toNatClampNeg 7 := bcX hA hx1 hl ⟨by decide, by decide⟩; have b8 : ga (C 12) ((x1 * 10) + 8).toNatClampNeg = A 1 x1.toNatClampNeg 8 := bcX hA hx1 hl ⟨by decide, by decide⟩; have b9 : ga (C 12) ((x1 * 10) + 9).toNatClampNeg = A 1 x1.toNatClampNeg 9 := bcX hA hx1 hl ⟨by decide, by decide⟩; have bf : ga (C 15) ((2 : Int32)).toNatClampNeg = A 4 0 2 := hA.2.1 2 (by decide); exact Eq.trans (by rw [hq_19, bAlF_c hq_17.2, b1, b4, b5, b7, b8, b9, bf]; rfl) (Eq.trans (pif_neg c_1) (Eq.trans (pif_neg (fun h7 => h7.elim c_4 c_7)) (Eq.trans (pif_neg c_10) (pif_neg c_13)))).symm), ht⟩) (fun q h => by cases h) dX6_spoken_92

set_option maxHeartbeats 4000000 in
set_option maxRecDepth 100000 in
theorem e_X6_says (l : Launch) (D : va_G) (E : Nat → ClassId) (G : Nat → Nat) (sz : Nat) (a : Nat → Nat) (C : Nat → va_E) (hT : TyX a E C) (x1 : Int32) (x2 : Int32) : Met l yX6_says (oh_w yX6_says cX6_says 4 (some .int)) ({ frames := 3, cells := 0, slots := 0, locals := 73 }) (oh_Pm D E G [.ref (a 0), .int x1, .int x2] (oh_W 35 a C) sz) (va_Qi (fun r (u : Nat → va_E) => TyX a E u ∧ fr [(7, 8)] [] C u ∧ (∀ (A : LA) (S : HZ), absX 10 C A → okA A → absHX C S → shN (A 5 0 1) S → r = spSays A S x1 x2)) (oh_B D (va_A (oh_W 35 a C) sz) (fun u => oh_W 35 a u)) (va_A (oh_W 35 a C) sz)) 0 0 (va_A (oh_W 35 a C) sz) := by
  refine Met.ofW (cc := cX6_says) (maxL := 4) (ret := (some .int)) (by decide) rfl ?_
  intro p e s m args below meth c s₁ B hml hv
  obtain ⟨rfl, hsz, hP, hK, hD0, hG⟩ := hv
  have hx := B.exec
  have hb := B.bytes
  have hr := B.returns
  have hts := atoms_spec (ws := (oh_w yX6_says cX6_says 4 (some .int))) B.pre
  have htg : ∀ w ∈ oh_t, w.before _ s = true := fun w h => hts w (List.mem_cons_of_mem _ h)
  have hown : s.vm.findClass RX6 = some m.cls := findClass_of_methodNamed B.named
  have hlocks := B.notSynchronized
  have hT0 := hT
  subst hsz
  have hD := hD0.self (sz := s.heap.size)
  generalize hAe : va_A (oh_W 35 a C) s.heap.size = A at hD hG ⊢
  have hA : ∀ q : Nat, s.heap.size ≤ q → A q := fun q h => by rw [← hAe]; exact Or.inr h
  have hS : va_S A s.heap s.heap [] := va_S.rf
  have hF : fr [(7, 8)] [] C C := fr_rf
  have hl := lv_entry ([.ref (a 0), .int x1, .int x2]) (n := 4) (Nat.le_of_ble_eq_true rfl)
  rw [lg_entry_eq]
  generalize (lg_sl ([.ref (a 0), .int x1, .int x2]) ++ List.replicate (4 - (lg_sl ([.ref (a 0), .int x1, .int x2])).length) Slot.unset).toArray = ls at hl ⊢
  have hl : lv_has ls 4 [(0, .ref (a 0)), (1, .int x1), (2, .int x2)] := hl
  refine oh_genQ (fun Q hQ => ?_)
  refine lv_iload_n hx hb dX6_says_0 rfl (lv_at hl 1 rfl) ?_
  refine tq_S (As := [.int x1]) (rest := []) (ws := []) ⟨hx, hb, hml, hown, htg⟩ (c_X6_isShelf l D E G x1) (va_cwS 1 htg (oh_gS q_290 q_291 q_66 q_292) rfl rfl rfl pdX6_isShelf ⟨Nat.le_of_ble_eq_true rfl, Nat.le_of_ble_eq_true rfl⟩) hK va_nil hG hS rfl hl.1 rfl (Nat.le_of_ble_eq_true rfl) dX6_says_1 ⟨Nat.le_of_ble_eq_true rfl, Nat.le_of_ble_eq_true rfl⟩ (fun r_1 hq_2 => ?_)
  refine lv_if_eq (tgt := 16) hx hb dX6_says_4 (by decide) (fun (c_3 : r_1 = 0) => ?_) (fun (c_3 : ¬ (r_1 = 0)) => ?_)
  · have u_4 := hq_2.2.2 c_3
    refine lv_aload_n hx hb dX6_says_16 rfl (lv_at hl 0 rfl) ?_
    refine lv_bipush (v := (-2)) hx hb dX6_says_17 (by decide) ?_
    refine tm_V (As := [.int (-2)]) (rest := []) ⟨hx, hb, hml, hown, htg⟩ (c_X6_refuse l D E G _ a C hT ((-2) : Int32)) (cwV 1 htg (oh_gV q_296 q_298 q_0 q_66 q_299) rfl rfl rfl pdVX6_refuse ⟨Nat.le_of_ble_eq_true rfl, Nat.le_of_ble_eq_true rfl⟩) hK hP hD hG hS hA (va_recv hK hP (ci := 6) (q0 := 0) rfl (oh_wg (by decide) (sX_0 hT))) rfl hl.1 rfl (Nat.le_of_ble_eq_true rfl) dX6_says_19 ⟨Nat.le_of_ble_eq_true rfl, Nat.le_of_ble_eq_true rfl⟩ (fun r_5 C_6 H locs hq_7 hP hD hS => ?_)
    obtain ⟨hT, f_8, hq_7⟩ := hq_7
    have hF := fr_tr hF f_8 (by decide) (by decide)
    refine W.widen (k := 0) (n := 0) (Nat.le_refl _) (Nat.le_refl _) ?_
    have t_9 := hT
    rw [hQ]
    exact W.iret (v := r_5) hx hb hr (fun t ht hW => ⟨⟨r_5, C_6, rfl, ⟨hT, hF, (fun A S hA hok hS0 hN => Eq.trans hq_7 (pif_neg (fun h8 => u_4 h8.1)).symm)⟩, ⟨by rw [ht]; exact hP, hD⟩⟩, hS.F ht⟩) hS.2.2 dX6_says_22
  · have u_10 := hq_2.2.1 c_3
    refine lv_iload_n hx hb dX6_says_7 rfl (lv_at hl 2 rfl) ?_
    refine lv_iconst (v := 0) hx hb dX6_says_8 (by decide) ?_
    refine lv_iconst (v := 5) hx hb dX6_says_9 (by decide) ?_
    refine tq_S (As := [.int x2, .int 0, .int 5]) (rest := []) (ws := []) ⟨hx, hb, hml, hown, htg⟩ (c_X6_within l D E G x2 (0 : Int32) (5 : Int32)) (va_cwS 3 htg (oh_gS q_293 q_294 q_66 q_295) rfl rfl rfl pdX6_within ⟨Nat.le_of_ble_eq_true rfl, Nat.le_of_ble_eq_true rfl⟩) hK va_nil hG hS rfl hl.1 rfl (Nat.le_of_ble_eq_true rfl) dX6_says_10 ⟨Nat.le_of_ble_eq_true rfl, Nat.le_of_ble_eq_true rfl⟩ (fun r_11 hq_12 => ?_)
    refine lv_if_ne (tgt := 23) hx hb dX6_says_13 (by decide) (fun (c_13 : ¬ (r_11 = 0)) => ?_) (fun (c_13 : r_11 = 0) => ?_)
    · have u_14 := hq_12.2.1 c_13
      refine lv_aload_n hx hb dX6_says_23 rfl (lv_at hl 0 rfl) ?_
      refine va_get (D := D) (ci := 6) (v := .ref (a 4)) (C := RX6) (T := TX6) (N := 9) hx hb htg ig_6 hown hK hP 0 (oh_wg (by decide) (sX_0 hT)) rfl 4 (by decide) (htg _ q_262) (fun _ h9 => h9) rfl dX6_says_24 ?_
      refine lv_iload_n hx hb dX6_says_27 rfl (lv_at hl 1 rfl) ?_
      refine tq_V (As := [.int x1]) (rest := []) (ws := (oh_W 35 a C)) ⟨hx, hb, hml, hown, htg⟩ (e_X3_holdsRow l D E G a C hT x1 (rg_w u_10 (by decide))) (cwV 1 htg (oh_gV q_352 q_336 q_337 q_70 q_338) rfl rfl rfl pdVX3_holdsRow ⟨Nat.le_of_ble_eq_true rfl, Nat.le_of_ble_eq_true rfl⟩) hK hP hG hS (va_recv hK hP (ci := 3) (q0 := 4) rfl (oh_wg (by decide) (sX_4 hT))) rfl hl.1 rfl (Nat.le_of_ble_eq_true rfl) dX6_says_28 ⟨Nat.le_of_ble_eq_true rfl, Nat.le_of_ble_eq_true rfl⟩ (fun r_15 hq_16 => ?_)
      refine lv_if_eq (tgt := 41) hx hb dX6_says_31 (by decide) (fun (c_17 : r_15 = 0) => ?_) (fun (c_17 : ¬ (r_15 = 0)) => ?_)
      · have u_18 := hq_16.2.2 c_17
        refine lv_aload_n hx hb dX6_says_41 rfl (lv_at hl 0 rfl) ?_
        refine va_get (D := D) (ci := 6) (v := .ref (a 4)) (C := RX6) (T := TX6) (N := 9) hx hb htg ig_6 hown hK hP 0 (oh_wg (by decide) (sX_0 hT)) rfl 4 (by decide) (htg _ q_262) (fun _ h9 => h9) rfl dX6_says_42 ?_
        refine va_get (D := D) (ci := 3) (v := .ref (a 29)) (C := RX3) (T := TX3) (N := 3) hx hb htg ig_3 hown hK hP 4 (oh_wg (by decide) (sX_4 hT)) rfl 0 (by decide) (htg _ q_199) (fun _ h9 => h9) rfl dX6_says_45 ?_
        refine lv_iload_n hx hb dX6_says_48 rfl (lv_at hl 1 rfl) ?_
        have n_19 : vp_in x1 8 := (rg_in u_10 (by decide))
        refine th_iald hx hb hK hP 29 (by decide) (sX_29 hT) n_19 dX6_says_49 ?_
        refine lv_bipush (v := 10) hx hb dX6_says_50 (by decide) ?_
        refine lv_isub hx hb dX6_says_52 ?_
        refine lv_istore_n (lv' := [(3, .int ((ga (C 29) (x1).toNatClampNeg) - 10)), (0, .ref (a 0)), (1, .int x1), (2, .int x2)]) hx hb dX6_says_53 rfl hl (by decide) rfl (fun ls hl => ?_)
        refine lv_aload_n hx hb dX6_says_54 rfl (lv_at hl 1 rfl) ?_
        refine lv_iload_n hx hb dX6_says_55 rfl (lv_at hl 0 rfl) ?_
        refine tq_V (As := [.int ((ga (C 29) (x1).toNatClampNeg) - 10)]) (rest := []) (ws := (oh_W 35 a C)) ⟨hx, hb, hml, hown, htg⟩ (e_X6_isBridge l D E G a C hT ((ga (C 29) (x1).toNatClampNeg) - 10)) (cwV 1 htg (oh_gV q_366 q_368 q_2 q_66 q_369) rfl rfl rfl pdVX6_isBridge ⟨Nat.le_of_ble_eq_true rfl, Nat.le_of_ble_eq_true rfl⟩) hK hP hG hS (va_recv hK hP (ci := 6) (q0 := 0) rfl (oh_wg (by decide) (sX_0 hT))) rfl hl.1 rfl (Nat.le_of_ble_eq_true rfl) dX6_says_56 ⟨Nat.le_of_ble_eq_true rfl, Nat.le_of_ble_eq_true rfl⟩ (fun r_20 hq_21 => ?_)
        refine lv_if_ne (tgt := 69) hx hb dX6_says_59 (by decide) (fun (c_22 : ¬ (r_20 = 0)) => ?_) (fun (c_22 : r_20 = 0) => ?_)
        · have u_23 := hq_21.2.1 c_22
          refine lv_aload_n hx hb dX6_says_69 rfl (lv_at hl 1 rfl) ?_
          refine va_get (D := D) (ci := 6) (v := .ref (a 1)) (C := RX6) (T := TX6) (N := 9) hx hb htg ig_6 hown hK hP 0 (oh_wg (by decide) (sX_0 hT)) rfl 0 (by decide) (htg _ q_258) (fun _ h9 => h9) rfl dX6_says_70 ?_
          refine lv_iload_n hx hb dX6_says_73 rfl (lv_at hl 0 rfl) ?_
          refine lv_iload_n hx hb dX6_says_74 rfl (lv_at hl 3 rfl) ?_
          refine tq_V (As := [.int ((ga (C 29) (x1).toNatClampNeg) - 10), .int x2]) (rest := []) (ws := (oh_W 35 a C)) ⟨hx, hb, hml, hown, htg⟩ (e_X0_mayBeTakenFor l D E G a C hT ((ga (C 29) (x1).toNatClampNeg) - 10) x2 (rg_w u_23.1 (by decide))) (cwV 2 htg (oh_gV q_378 q_379 q_380 q_67 q_381) rfl rfl rfl pdVX0_mayBeTakenFor ⟨Nat.le_of_ble_eq_true rfl, Nat.le_of_ble_eq_true rfl⟩) hK hP hG hS (va_recv hK hP (ci := 0) (q0 := 1) rfl (oh_wg (by decide) (sX_1 hT))) rfl hl.1 rfl (Nat.le_of_ble_eq_true rfl) dX6_says_75 ⟨Nat.le_of_ble_eq_true rfl, Nat.le_of_ble_eq_true rfl⟩ (fun r_24 hq_25 => ?_)
          refine lv_if_ne (tgt := 88) hx hb dX6_says_78 (by decide) (fun (c_26 : ¬ (r_24 = 0)) => ?_) (fun (c_26 : r_24 = 0) => ?_)
          · refine lv_aload_n hx hb dX6_says_88 rfl (lv_at hl 1 rfl) ?_
            refine lv_iload_n hx hb dX6_says_89 rfl (lv_at hl 0 rfl) ?_
            refine lv_iload_n hx hb dX6_says_90 rfl (lv_at hl 3 rfl) ?_
            refine tq_V (As := [.int ((ga (C 29) (x1).toNatClampNeg) - 10), .int x2]) (rest := []) (ws := (oh_W 35 a C)) ⟨hx, hb, hml, hown, htg⟩ (e_X6_spoken l D E G a C hT ((ga (C 29) (x1).toNatClampNeg) - 10) x2 (rg_w u_23.1 (by decide))) (cwV 2 htg (oh_gV q_388 q_390 q_3 q_66 q_391) rfl rfl rfl pdVX6_spoken ⟨Nat.le_of_ble_eq_true rfl, Nat.le_of_ble_eq_true rfl⟩) hK hP hG hS (va_recv hK hP (ci := 6) (q0 := 0) rfl (oh_wg (by decide) (sX_0 hT))) rfl hl.1 rfl (Nat.le_of_ble_eq_true rfl) dX6_says_91 ⟨Nat.le_of_ble_eq_true rfl, Nat.le_of_ble_eq_true rfl⟩ (fun r_27 hq_28 => ?_)
            rw [hQ]
            exact W.iret (v := r_27) hx hb hr (fun t ht hW => ⟨⟨r_27, C, rfl, ⟨hT, hF, (fun A S hA hok hS0 hN => by have e1 := (hS0 _ (sh8 (rg_w (lo := 0) (hi := 7) u_10 (by decide)))).1; have nr : ¬ rowH (S.1 x1.toNatClampNeg) := (by rw [← e1]; exact u_18); have hb : 0 ≤ ga (C 29) (x1).toNatClampNeg - 10 ∧ ga (C 29) (x1).toNatClampNeg - 10 < A 5 0 1 := (by rw [← (show ga (C 10) ((1 : Int32)).toNatClampNeg = A 5 0 1 from hA.1 1 (by decide))]; exact u_23.2); have iz : rg (ga (C 29) (x1).toNatClampNeg - 10) 0 15 := (rg_w (lo := 0) (hi := 15) u_23.1 (by decide)); have t := hq_25.2 (oh_rgI (p := 0) (q := 5) (rg_w (lo := 0) (hi := 5) (rn_leu u_14.2 (rn_lel u_14.1 (rg_c (v := 0) (lo := 0) (hi := 0) (by decide)) (rg_any _)) (rg_c (v := 5) (lo := 5) (hi := 5) (by decide))) (by decide))); rw [bcX hA iz hb.2 ⟨by decide, by decide⟩] at t; have ye := (t.mp (oh_b1 (rg_w (lo := 0) (hi := 1) (rn_nel (l' := 1) c_26 (oh_rgb hq_25.1) (rg_c (v := 0) (lo := 0) (hi := 0) (by decide)) (by decide)) (by decide)) c_26)); have n1 := sy_b hb.1; have ev := hq_28 A hA hb.2; rw [e1] at ye n1 ev; exact Eq.trans ev (Eq.trans (pif_pos ⟨(oh_rgI (p := 0) (q := 7) (rg_w (lo := 0) (hi := 7) u_10 (by decide))), (oh_rgI (p := 0) (q := 5) (rg_w (lo := 0) (hi := 5) (rn_leu u_14.2 (rn_lel u_14.1 (rg_c (v := 0) (lo := 0) (hi := 0) (by decide)) (rg_any _)) (rg_c (v := 5) (lo := 5) (hi := 5) (by decide))) (by decide)))⟩) (Eq.trans (pif_neg nr) (Eq.trans (pif_neg n1) (pif_pos ye)))).symm)⟩, ⟨by rw [ht]; exact hP, hD⟩⟩, hS.F ht⟩) hS.2.2 dX6_says_94
          · refine lv_aload_n hx hb dX6_says_81 rfl (lv_at hl 1 rfl) ?_
            refine lv_bipush (v := (-3)) hx hb dX6_says_82 (by decide) ?_
            refine tm_V (As := [.int (-3)]) (rest := []) ⟨hx, hb, hml, hown, htg⟩ (c_X6_refuse l D E G _ a C hT ((-3) : Int32)) (cwV 1 htg (oh_gV q_296 q_298 q_0 q_66 q_299) rfl rfl rfl pdVX6_refuse ⟨Nat.le_of_ble_eq_true rfl, Nat.le_of_ble_eq_true rfl⟩) hK hP hD hG hS hA (va_recv hK hP (ci := 6) (q0 := 0) rfl (oh_wg (by decide) (sX_0 hT))) rfl hl.1 rfl (Nat.le_of_ble_eq_true rfl) dX6_says_84 ⟨Nat.le_of_ble_eq_true rfl, Nat.le_of_ble_eq_true rfl⟩ (fun r_29 C_30 H locs hq_31 hP hD hS => ?_)
            obtain ⟨hT, f_32, hq_31⟩ := hq_31
            have hF := fr_tr hF f_32 (by decide) (by decide)
            refine W.widen (k := 0) (n := 0) (Nat.le_refl _) (Nat.le_refl _) ?_
            have t_33 := hT
            rw [hQ]
            exact W.iret (v := r_29) hx hb hr (fun t ht hW => ⟨⟨r_29, C_30, rfl, ⟨hT, hF, (fun A S hA hok hS0 hN => by have e1 := (hS0 _ (sh8 (rg_w (lo := 0) (hi := 7) u_10 (by decide)))).1; have nr : ¬ rowH (S.1 x1.toNatClampNeg) := (by rw [← e1]; exact u_18); have hb : 0 ≤ ga (C 29) (x1).toNatClampNeg - 10 ∧ ga (C 29) (x1).toNatClampNeg - 10 < A 5 0 1 := (by rw [← (show ga (C 10) ((1 : Int32)).toNatClampNeg = A 5 0 1 from hA.1 1 (by decide))]; exact u_23.2); have iz : rg (ga (C 29) (x1).toNatClampNeg - 10) 0 15 := (rg_w (lo := 0) (hi := 15) u_23.1 (by decide)); have t := hq_25.2 (oh_rgI (p := 0) (q := 5) (rg_w (lo := 0) (hi := 5) (rn_leu u_14.2 (rn_lel u_14.1 (rg_c (v := 0) (lo := 0) (hi := 0) (by decide)) (rg_any _)) (rg_c (v := 5) (lo := 5) (hi := 5) (by decide))) (by decide))); rw [bcX hA iz hb.2 ⟨by decide, by decide⟩] at t; have no : ¬ isU (A 1 (ga (C 29) (x1).toNatClampNeg - 10).toNatClampNeg 1) x2 := (fun q => absurd (Eq.trans (Eq.symm (t.mpr q)) c_26) (by decide)); have n1 := sy_b hb.1; rw [e1] at no n1; exact Eq.trans hq_31 (Eq.trans (pif_pos ⟨(oh_rgI (p := 0) (q := 7) (rg_w (lo := 0) (hi := 7) u_10 (by decide))), (oh_rgI (p := 0) (q := 5) (rg_w (lo := 0) (hi := 5) (rn_leu u_14.2 (rn_lel u_14.1 (rg_c (v := 0) (lo := 0) (hi := 0) (by decide)) (rg_any _)) (rg_c (v := 5) (lo := 5) (hi := 5) (by decide))) (by decide)))⟩) (Eq.trans (pif_neg nr) (Eq.trans (pif_neg n1) (pif_neg no)))).symm)⟩, ⟨by rw [ht]; exact hP, hD⟩⟩, hS.F ht⟩) hS.2.2 dX6_says_87
        · have u_34 := hq_21.2.2 c_22
          refine lv_aload_n hx hb dX6_says_62 rfl (lv_at hl 1 rfl) ?_
          refine lv_bipush (v := (-4)) hx hb dX6_says_63 (by decide) ?_
          refine tm_V (As := [.int (-4)]) (rest := []) ⟨hx, hb, hml, hown, htg⟩ (c_X6_refuse l D E G _ a C hT ((-4) : Int32)) (cwV 1 htg (oh_gV q_296 q_298 q_0 q_66 q_299) rfl rfl rfl pdVX6_refuse ⟨Nat.le_of_ble_eq_true rfl, Nat.le_of_ble_eq_true rfl⟩) hK hP hD hG hS hA (va_recv hK hP (ci := 6) (q0 := 0) rfl (oh_wg (by decide) (sX_0 hT))) rfl hl.1 rfl (Nat.le_of_ble_eq_true rfl) dX6_says_65 ⟨Nat.le_of_ble_eq_true rfl, Nat.le_of_ble_eq_true rfl⟩ (fun r_35 C_36 H locs hq_37 hP hD hS => ?_)
          obtain ⟨hT, f_38, hq_37⟩ := hq_37
          have hF := fr_tr hF f_38 (by decide) (by decide)
          refine W.widen (k := 0) (n := 0) (Nat.le_refl _) (Nat.le_refl _) ?_
          have t_39 := hT
          rw [hQ]
          exact W.iret (v := r_35) hx hb hr (fun t ht hW => ⟨⟨r_35, C_36, rfl, ⟨hT, hF, (fun A S hA hok hS0 hN => by have e1 := (hS0 _ (sh8 (rg_w (lo := 0) (hi := 7) u_10 (by decide)))).1; have nr : ¬ rowH (S.1 x1.toNatClampNeg) := (by rw [← e1]; exact u_18); have c := u_34; rw [e1, (show ga (C 10) ((1 : Int32)).toNatClampNeg = A 5 0 1 from hA.1 1 (by decide))] at c; exact Eq.trans hq_37 (Eq.trans (pif_pos ⟨(oh_rgI (p := 0) (q := 7) (rg_w (lo := 0) (hi := 7) u_10 (by decide))), (oh_rgI (p := 0) (q := 5) (rg_w (lo := 0) (hi := 5) (rn_leu u_14.2 (rn_lel u_14.1 (rg_c (v := 0) (lo := 0) (hi := 0) (by decide)) (rg_any _)) (rg_c (v := 5) (lo := 5) (hi := 5) (by decide))) (by decide)))⟩) (Eq.trans (pif_neg nr) (pif_pos (sy_n (hS0 _ (sh8 (rg_w (lo := 0) (hi := 7) u_10 (by decide)))).2.1 nr (hN _ (sh8 (rg_w (lo := 0) (hi := 7) u_10 (by decide)))) c)))).symm)⟩, ⟨by rw [ht]; exact hP, hD⟩⟩, hS.F ht⟩) hS.2.2 dX6_says_68
      · have u_40 := hq_16.2.1 c_17
        refine lv_aload_n hx hb dX6_says_34 rfl (lv_at hl 0 rfl) ?_
        refine lv_bipush (v := (-3)) hx hb dX6_says_35 (by decide) ?_
        refine tm_V (As := [.int (-3)]) (rest := []) ⟨hx, hb, hml, hown, htg⟩ (c_X6_refuse l D E G _ a C hT ((-3) : Int32)) (cwV 1 htg (oh_gV q_296 q_298 q_0 q_66 q_299) rfl rfl rfl pdVX6_refuse ⟨Nat.le_of_ble_eq_true rfl, Nat.le_of_ble_eq_true rfl⟩) hK hP hD hG hS hA (va_recv hK hP (ci := 6) (q0 := 0) rfl (oh_wg (by decide) (sX_0 hT))) rfl hl.1 rfl (Nat.le_of_ble_eq_true rfl) dX6_says_37 ⟨Nat.le_of_ble_eq_true rfl, Nat.le_of_ble_eq_true rfl⟩ (fun r_41 C_42 H locs hq_43 hP hD hS => ?_)
        obtain ⟨hT, f_44, hq_43⟩ := hq_43
        have hF := fr_tr hF f_44 (by decide) (by decide)
        refine W.widen (k := 0) (n := 0) (Nat.le_refl _) (Nat.le_refl _) ?_
        have t_45 := hT
        rw [hQ]
        exact W.iret (v := r_41) hx hb hr (fun t ht hW => ⟨⟨r_41, C_42, rfl, ⟨hT, hF, (fun A S hA hok hS0 hN => by have e1 := (hS0 _ (sh8 (rg_w (lo := 0) (hi := 7) u_10 (by decide)))).1; exact Eq.trans hq_43 (Eq.trans (pif_pos ⟨(oh_rgI (p := 0) (q := 7) (rg_w (lo := 0) (hi := 7) u_10 (by decide))), (oh_rgI (p := 0) (q := 5) (rg_w (lo := 0) (hi := 5) (rn_leu u_14.2 (rn_lel u_14.1 (rg_c (v := 0) (lo := 0) (hi := 0) (by decide)) (rg_any _)) (rg_c (v := 5) (lo := 5) (hi := 5) (by decide))) (by decide)))⟩) (pif_pos (by rw [← e1]; exact u_40))).symm)⟩, ⟨by rw [ht]; exact hP, hD⟩⟩, hS.F ht⟩) hS.2.2 dX6_says_40
    · have u_46 := hq_12.2.2 c_13
      refine lv_aload_n hx hb dX6_says_16 rfl (lv_at hl 0 rfl) ?_
      refine lv_bipush (v := (-2)) hx hb dX6_says_17 (by decide) ?_
      refine tm_V (As := [.int (-2)]) (rest := []) ⟨hx, hb, hml, hown, htg⟩ (c_X6_refuse l D E G _ a C hT ((-2) : Int32)) (cwV 1 htg (oh_gV q_296 q_298 q_0 q_66 q_299) rfl rfl rfl pdVX6_refuse ⟨Nat.le_of_ble_eq_true rfl, Nat.le_of_ble_eq_true rfl⟩) hK hP hD hG hS hA (va_recv hK hP (ci := 6) (q0 := 0) rfl (oh_wg (by decide) (sX_0 hT))) rfl hl.1 rfl (Nat.le_of_ble_eq_true rfl) dX6_says_19 ⟨Nat.le_of_ble_eq_true rfl, Nat.le_of_ble_eq_true rfl⟩ (fun r_47 C_48 H locs hq_49 hP hD hS => ?_)
      obtain ⟨hT, f_50, hq_49⟩ := hq_49
      have hF := fr_tr hF f_50 (by decide) (by decide)
      refine W.widen (k := 0) (n := 0) (Nat.le_refl _) (Nat.le_refl _) ?_
      have t_51 := hT
      rw [hQ]
      exact W.iret (v := r_47) hx hb hr (fun t ht hW => ⟨⟨r_47, C_48, rfl, ⟨hT, hF, (fun A S hA hok hS0 hN => Eq.trans hq_49 (pif_neg (fun h8 => u_46 h8.2)).symm)⟩, ⟨by rw [ht]; exact hP, hD⟩⟩, hS.F ht⟩) hS.2.2 dX6_says_22

set_option maxHeartbeats 4000000 in
set_option maxRecDepth 100000 in
theorem e_X7_isUnder (l : Launch) (D : va_G) (E : Nat → ClassId) (G : Nat → Nat) (x1 : Int32) (x2 : Int32) : Met l yX7_isUnder (oh_w yX7_isUnder cX7_isUnder 2 (some .boolean)) ({ frames := 0, cells := 0, slots := 0, locals := 0 }) (oh_Pp D E G [.int x1, .int x2] []) (vp_Si (fun r => (r = 0 ∨ r = 1) ∧ (r = 1 ↔ isU x1 x2))) 0 0 (fun _ => False) := by
  refine Met.ofW (cc := cX7_isUnder) (maxL := 2) (ret := (some .boolean)) (by decide) rfl ?_
  intro p e s m args below meth c s₁ B hml hv
  obtain ⟨rfl, hP, hK, hG⟩ := hv
  have hx := B.exec
  have hb := B.bytes
  have hr := B.returns
  have hts := atoms_spec (ws := (oh_w yX7_isUnder cX7_isUnder 2 (some .boolean))) B.pre
  have htg : ∀ w ∈ oh_t, w.before _ s = true := fun w h => hts w (List.mem_cons_of_mem _ h)
  have hown : s.vm.findClass RX7 = some m.cls := findClass_of_methodNamed B.named
  have hlocks := B.notSynchronized
  have hS : va_S (fun _ => False) s.heap s.heap [] := va_S.rf
  have hl := lv_entry ([.int x1, .int x2]) (n := 2) (Nat.le_of_ble_eq_true rfl)
  rw [lg_entry_eq]
  generalize (lg_sl ([.int x1, .int x2]) ++ List.replicate (2 - (lg_sl ([.int x1, .int x2])).length) Slot.unset).toArray = ls at hl ⊢
  have hl : lv_has ls 2 [(0, .int x1), (1, .int x2)] := hl
  refine oh_genQ (fun Q hQ => ?_)
  refine lv_iload_n hx hb dX7_isUnder_0 rfl (lv_at hl 1 rfl) ?_
  refine lv_if_eq (tgt := 29) hx hb dX7_isUnder_1 (by decide) (fun (c_1 : x2 = 0) => ?_) (fun (c_1 : ¬ (x2 = 0)) => ?_)
  · refine lv_iconst (v := 1) hx hb dX7_isUnder_29 (by decide) ?_
    refine lv_goto (tgt := 34) hx hb dX7_isUnder_30 (by decide) ?_
    rw [hQ]
    exact W.zret (v := 1) (ty := .boolean) hx hb hr (by decide) (fun t ht hW => ⟨1, rfl, ⟨(Or.inr rfl), ⟨fun _ => (Or.inl c_1), fun _ => rfl⟩⟩, ht⟩) (fun q h => by cases h) dX7_isUnder_34
  · refine lv_iload_n hx hb dX7_isUnder_4 rfl (lv_at hl 0 rfl) ?_
    refine lv_iload_n hx hb dX7_isUnder_5 rfl (lv_at hl 1 rfl) ?_
    refine lv_icmp_eq (tgt := 29) hx hb dX7_isUnder_6 (by decide) (fun (c_2 : x1 = x2) => ?_) (fun (c_2 : ¬ (x1 = x2)) => ?_)
    · refine lv_iconst (v := 1) hx hb dX7_isUnder_29 (by decide) ?_
      refine lv_goto (tgt := 34) hx hb dX7_isUnder_30 (by decide) ?_
      rw [hQ]
      exact W.zret (v := 1) (ty := .boolean) hx hb hr (by decide) (fun t ht hW => ⟨1, rfl, ⟨(Or.inr rfl), ⟨fun _ => (Or.inr (Or.inl c_2)), fun _ => rfl⟩⟩, ht⟩) (fun q h => by cases h) dX7_isUnder_34
    · refine lv_iload_n hx hb dX7_isUnder_9 rfl (lv_at hl 1 rfl) ?_
      refine lv_iconst (v := 1) hx hb dX7_isUnder_10 (by decide) ?_
      refine lv_icmp_ne (tgt := 19) hx hb dX7_isUnder_11 (by decide) (fun (c_3 : ¬ (x2 = 1)) => ?_) (fun (c_3 : x2 = 1) => ?_)
      · refine lv_iload_n hx hb dX7_isUnder_19 rfl (lv_at hl 1 rfl) ?_
        refine lv_iconst (v := 4) hx hb dX7_isUnder_20 (by decide) ?_
        refine lv_icmp_ne (tgt := 33) hx hb dX7_isUnder_21 (by decide) (fun (c_4 : ¬ (x2 = 4)) => ?_) (fun (c_4 : x2 = 4) => ?_)
        · refine lv_iconst (v := 0) hx hb dX7_isUnder_33 (by decide) ?_
          rw [hQ]
          exact W.zret (v := 0) (ty := .boolean) hx hb hr (by decide) (fun t ht hW => ⟨0, rfl, ⟨(Or.inl rfl), ⟨fun h8 => absurd h8 (by decide), fun h8 => absurd h8 (fun q => q.elim c_1 (fun q => q.elim c_2 (fun q => q.elim (fun q => c_3 q.1) (fun q => c_4 q.1))))⟩⟩, ht⟩) (fun q h => by cases h) dX7_isUnder_34
        · refine lv_iload_n hx hb dX7_isUnder_24 rfl (lv_at hl 0 rfl) ?_
          refine lv_iconst (v := 5) hx hb dX7_isUnder_25 (by decide) ?_
          refine lv_icmp_ne (tgt := 33) hx hb dX7_isUnder_26 (by decide) (fun (c_5 : ¬ (x1 = 5)) => ?_) (fun (c_5 : x1 = 5) => ?_)
          · refine lv_iconst (v := 0) hx hb dX7_isUnder_33 (by decide) ?_
            rw [hQ]
            exact W.zret (v := 0) (ty := .boolean) hx hb hr (by decide) (fun t ht hW => ⟨0, rfl, ⟨(Or.inl rfl), ⟨fun h8 => absurd h8 (by decide), fun h8 => absurd h8 (fun q => q.elim c_1 (fun q => q.elim c_2 (fun q => q.elim (fun q => c_3 q.1) (fun q => c_5 q.2))))⟩⟩, ht⟩) (fun q h => by cases h) dX7_isUnder_34
          · refine lv_iconst (v := 1) hx hb dX7_isUnder_29 (by decide) ?_
            refine lv_goto (tgt := 34) hx hb dX7_isUnder_30 (by decide) ?_
            rw [hQ]
            exact W.zret (v := 1) (ty := .boolean) hx hb hr (by decide) (fun t ht hW => ⟨1, rfl, ⟨(Or.inr rfl), ⟨fun _ => (Or.inr (Or.inr (Or.inr ⟨c_4, c_5⟩))), fun _ => rfl⟩⟩, ht⟩) (fun q h => by cases h) dX7_isUnder_34
      · refine lv_iload_n hx hb dX7_isUnder_14 rfl (lv_at hl 0 rfl) ?_
        refine lv_iconst (v := 2) hx hb dX7_isUnder_15 (by decide) ?_
        refine lv_icmp_eq (tgt := 29) hx hb dX7_isUnder_16 (by decide) (fun (c_6 : x1 = 2) => ?_) (fun (c_6 : ¬ (x1 = 2)) => ?_)
        · refine lv_iconst (v := 1) hx hb dX7_isUnder_29 (by decide) ?_
          refine lv_goto (tgt := 34) hx hb dX7_isUnder_30 (by decide) ?_
          rw [hQ]
          exact W.zret (v := 1) (ty := .boolean) hx hb hr (by decide) (fun t ht hW => ⟨1, rfl, ⟨(Or.inr rfl), ⟨fun _ => (Or.inr (Or.inr (Or.inl ⟨c_3, c_6⟩))), fun _ => rfl⟩⟩, ht⟩) (fun q h => by cases h) dX7_isUnder_34
        · refine lv_iload_n hx hb dX7_isUnder_19 rfl (lv_at hl 1 rfl) ?_
          refine lv_iconst (v := 4) hx hb dX7_isUnder_20 (by decide) ?_
          refine lv_icmp_ne (tgt := 33) hx hb dX7_isUnder_21 (by decide) (fun (c_7 : ¬ (x2 = 4)) => ?_) (fun (c_7 : x2 = 4) => ?_)
          · refine lv_iconst (v := 0) hx hb dX7_isUnder_33 (by decide) ?_
            rw [hQ]
            exact W.zret (v := 0) (ty := .boolean) hx hb hr (by decide) (fun t ht hW => ⟨0, rfl, ⟨(Or.inl rfl), ⟨fun h8 => absurd h8 (by decide), fun h8 => absurd h8 (fun q => q.elim c_1 (fun q => q.elim c_2 (fun q => q.elim (fun q => c_6 q.2) (fun q => c_7 q.1))))⟩⟩, ht⟩) (fun q h => by cases h) dX7_isUnder_34
          · refine lv_iload_n hx hb dX7_isUnder_24 rfl (lv_at hl 0 rfl) ?_
            refine lv_iconst (v := 5) hx hb dX7_isUnder_25 (by decide) ?_
            refine lv_icmp_ne (tgt := 33) hx hb dX7_isUnder_26 (by decide) (fun (c_8 : ¬ (x1 = 5)) => ?_) (fun (c_8 : x1 = 5) => ?_)
            · refine lv_iconst (v := 0) hx hb dX7_isUnder_33 (by decide) ?_
              rw [hQ]
              exact W.zret (v := 0) (ty := .boolean) hx hb hr (by decide) (fun t ht hW => ⟨0, rfl, ⟨(Or.inl rfl), (absurd (Eq.trans (Eq.symm c_3) c_7) (by decide))⟩, ht⟩) (fun q h => by cases h) dX7_isUnder_34
            · refine lv_iconst (v := 1) hx hb dX7_isUnder_29 (by decide) ?_
              refine lv_goto (tgt := 34) hx hb dX7_isUnder_30 (by decide) ?_
              rw [hQ]
              exact W.zret (v := 1) (ty := .boolean) hx hb hr (by decide) (fun t ht hW => ⟨1, rfl, ⟨(Or.inr rfl), (absurd (Eq.trans (Eq.symm c_3) c_7) (by decide))⟩, ht⟩) (fun q h => by cases h) dX7_isUnder_34

theorem sm_b {C : Nat → va_E} {S : HZ} {n : Int32} {s : Nat} (h : absHM C S) (hs : s < 8) (hN : shN n S) (hg : rg (ga (C 6) s) 0 15) (k : ga (C 1) s = 2) : ¬ rowH (S.1 s) ∧ ¬ S.1 s = -1 ∧ ga (C 6) s = S.1 s - 10 ∧ ga (C 6) s < n := by
  have l := (hm_k h hs).2.2.mp k
  have e := ((h s hs).2.2.2 l).2
  have q := hN s hs l
  have eg : ga (C 6) s = S.1 s - 10 := by rw [← e, Int32.add_comm 10, Int32.add_sub_cancel]
  refine ⟨fun z => z.2 l, fun z => by rw [z] at l; exact absurd l (by decide), eg, Int32.lt_iff_toInt_lt.mpr ?_⟩
  rw [eg, h10 l]
  omega

set_option maxHeartbeats 4000000 in
set_option maxRecDepth 100000 in
theorem e_X7_says (l : Launch) (D : va_G) (E : Nat → ClassId) (G : Nat → Nat) (sz : Nat) (a : Nat → Nat) (C : Nat → va_E) (n : Nat) (hn : 74 ≤ n) (hT : TyM a E C) (x1 : Int32) (x2 : Int32) (hR : RelM C) : Met l yX7_says (oh_w yX7_says cX7_says 4 (some .int)) ({ frames := 2, cells := 0, slots := 0, locals := 45 }) (oh_Pm D E G [.ref (a 0), .int x1, .int x2] (oh_W n a C) sz) (va_Qi (fun r (u : Nat → va_E) => TyM a E u ∧ fr [(8, 9)] [] C u ∧ (RelM u) ∧ (∀ (A : LA) (S : HZ), absM C A → okA A → absHM C S → shN (A 5 0 1) S → r = spSays A S x1 x2)) (oh_B D (va_A (oh_W n a C) sz) (fun u => oh_W n a u)) (va_A (oh_W n a C) sz)) 0 0 (va_A (oh_W n a C) sz) := by
  refine Met.ofW (cc := cX7_says) (maxL := 4) (ret := (some .int)) (by decide) rfl ?_
  intro p e s m args below meth c s₁ B hml hv
  obtain ⟨rfl, hsz, hP, hK, hD0, hG⟩ := hv
  have hx := B.exec
  have hb := B.bytes
  have hr := B.returns
  have hts := atoms_spec (ws := (oh_w yX7_says cX7_says 4 (some .int))) B.pre
  have htg : ∀ w ∈ oh_t, w.before _ s = true := fun w h => hts w (List.mem_cons_of_mem _ h)
  have hown : s.vm.findClass RX7 = some m.cls := findClass_of_methodNamed B.named
  have hlocks := B.notSynchronized
  have hT0 := hT
  subst hsz
  have hD := hD0.self (sz := s.heap.size)
  generalize hAe : va_A (oh_W n a C) s.heap.size = A at hD hG ⊢
  have hA : ∀ q : Nat, s.heap.size ≤ q → A q := fun q h => by rw [← hAe]; exact Or.inr h
  have hS : va_S A s.heap s.heap [] := va_S.rf
  have hF : fr [(8, 9)] [] C C := fr_rf
  have hl := lv_entry ([.ref (a 0), .int x1, .int x2]) (n := 4) (Nat.le_of_ble_eq_true rfl)
  rw [lg_entry_eq]
  generalize (lg_sl ([.ref (a 0), .int x1, .int x2]) ++ List.replicate (4 - (lg_sl ([.ref (a 0), .int x1, .int x2])).length) Slot.unset).toArray = ls at hl ⊢
  have hl : lv_has ls 4 [(0, .ref (a 0)), (1, .int x1), (2, .int x2)] := hl
  refine oh_genQ (fun Q hQ => ?_)
  refine lv_iload_n hx hb dX7_says_0 rfl (lv_at hl 1 rfl) ?_
  refine lv_i2l (v := Int32.toInt64 x1) hx hb dX7_says_1 (by rfl) ?_
  refine lv_lconst (v := 0) hx hb dX7_says_2 (by decide) ?_
  refine lv_ldc2 (v := 7) hx hb hown (htg _ q_1065) dX7_says_3 ?_
  refine tq_S (As := [.long (Int32.toInt64 x1), .long 0, .long 7]) (rest := []) (ws := []) ⟨hx, hb, hml, hown, htg⟩ (c_X7_in l D E G (Int32.toInt64 x1) (0 : Int64) (7 : Int64)) (va_cwS 3 htg (oh_gS q_1066 q_1067 q_73 q_1068) rfl rfl rfl pdX7_in ⟨Nat.le_of_ble_eq_true rfl, Nat.le_of_ble_eq_true rfl⟩) hK va_nil hG hS rfl hl.1 rfl (Nat.le_of_ble_eq_true rfl) dX7_says_6 ⟨Nat.le_of_ble_eq_true rfl, Nat.le_of_ble_eq_true rfl⟩ (fun r_1 hq_2 => ?_)
  refine lv_if_eq (tgt := 24) hx hb dX7_says_9 (by decide) (fun (c_3 : r_1 = 0) => ?_) (fun (c_3 : ¬ (r_1 = 0)) => ?_)
  · have u_4 := hq_2.2.2 c_3
    refine lv_aload_n hx hb dX7_says_24 rfl (lv_at hl 0 rfl) ?_
    refine lv_bipush (v := (-2)) hx hb dX7_says_25 (by decide) ?_
    refine tm_V (As := [.int (-2)]) (rest := []) ⟨hx, hb, hml, hown, htg⟩ (c_X7_refuse l D E G _ a C n hn hT ((-2) : Int32) (rg_w (rg_c (v := (-2)) (lo := (-2)) (hi := (-2)) (by decide)) (by decide))) (cwV 1 htg (oh_gV q_1071 q_1073 q_29 q_73 q_1074) rfl rfl rfl pdVX7_refuse ⟨Nat.le_of_ble_eq_true rfl, Nat.le_of_ble_eq_true rfl⟩) hK hP hD hG hS hA (va_recv hK hP (ci := 7) (q0 := 0) rfl (oh_wg (Nat.lt_of_lt_of_le (by decide) hn) (sM_0 hT))) rfl hl.1 rfl (Nat.le_of_ble_eq_true rfl) dX7_says_27 ⟨Nat.le_of_ble_eq_true rfl, Nat.le_of_ble_eq_true rfl⟩ (fun r_5 C_6 H locs hq_7 hP hD hS => ?_)
    obtain ⟨hT, f_8, hq_7⟩ := hq_7
    have hF := fr_tr hF f_8 (by decide) (by decide)
    refine W.widen (k := 0) (n := 0) (Nat.le_refl _) (Nat.le_refl _) ?_
    have t_9 := hT
    rw [hQ]
    exact W.iret (v := r_5) hx hb hr (fun t ht hW => ⟨⟨r_5, C_6, rfl, ⟨hT, hF, ⟨⟨hR.1.fr hF (by decide), hR.2.fr hF (by decide)⟩, (fun A S hA hok hS0 hN => Eq.trans hq_7 (pif_neg (fun h8 => (oh_in64 (l' := 0) (k' := 7) rfl rfl u_4) h8.1)).symm)⟩⟩, ⟨by rw [ht]; exact hP, hD⟩⟩, hS.F ht⟩) hS.2.2 dX7_says_30
  · have u_10 := hq_2.2.1 c_3
    refine lv_iload_n hx hb dX7_says_12 rfl (lv_at hl 2 rfl) ?_
    refine lv_i2l (v := Int32.toInt64 x2) hx hb dX7_says_13 (by rfl) ?_
    refine lv_lconst (v := 0) hx hb dX7_says_14 (by decide) ?_
    refine lv_ldc2 (v := 5) hx hb hown (htg _ q_1106) dX7_says_15 ?_
    refine tq_S (As := [.long (Int32.toInt64 x2), .long 0, .long 5]) (rest := []) (ws := []) ⟨hx, hb, hml, hown, htg⟩ (c_X7_in l D E G (Int32.toInt64 x2) (0 : Int64) (5 : Int64)) (va_cwS 3 htg (oh_gS q_1066 q_1067 q_73 q_1068) rfl rfl rfl pdX7_in ⟨Nat.le_of_ble_eq_true rfl, Nat.le_of_ble_eq_true rfl⟩) hK va_nil hG hS rfl hl.1 rfl (Nat.le_of_ble_eq_true rfl) dX7_says_18 ⟨Nat.le_of_ble_eq_true rfl, Nat.le_of_ble_eq_true rfl⟩ (fun r_11 hq_12 => ?_)
    refine lv_if_ne (tgt := 31) hx hb dX7_says_21 (by decide) (fun (c_13 : ¬ (r_11 = 0)) => ?_) (fun (c_13 : r_11 = 0) => ?_)
    · have u_14 := hq_12.2.1 c_13
      refine lv_aload_n hx hb dX7_says_31 rfl (lv_at hl 0 rfl) ?_
      refine va_get (D := D) (ci := 7) (v := .ref (a 1)) (C := RX7) (T := TX7) (N := 29) hx hb htg ig_7 hown hK hP 0 (oh_wg (Nat.lt_of_lt_of_le (by decide) hn) (sM_0 hT)) rfl 0 (by decide) (htg _ q_973) (fun _ h9 => h9) rfl dX7_says_32 ?_
      refine lv_iload_n hx hb dX7_says_35 rfl (lv_at hl 1 rfl) ?_
      have n_15 : vp_in x1 8 := (rg_in (rg_il (rgL_i (rg_il (rnL_leu u_10.2 (rnL_lel u_10.1 (rgL_c (v := 0) (lo := 0) (hi := 0) (by decide)) (rgL_i (rg_any _))) (rgL_c (v := 7) (lo := 7) (hi := 7) (by decide)))))) (by decide))
      refine th_iald hx hb hK hP 1 (Nat.lt_of_lt_of_le (by decide) hn) (sM_1 hT) n_15 dX7_says_36 ?_
      refine lv_iconst (v := 1) hx hb dX7_says_37 (by decide) ?_
      refine lv_icmp_eq (tgt := 71) hx hb dX7_says_38 (by decide) (fun (c_16 : (ga (C 1) (x1).toNatClampNeg) = 1) => ?_) (fun (c_16 : ¬ ((ga (C 1) (x1).toNatClampNeg) = 1)) => ?_)
      · refine lv_aload_n hx hb dX7_says_71 rfl (lv_at hl 0 rfl) ?_
        refine lv_bipush (v := (-3)) hx hb dX7_says_72 (by decide) ?_
        refine tm_V (As := [.int (-3)]) (rest := []) ⟨hx, hb, hml, hown, htg⟩ (c_X7_refuse l D E G _ a C n hn hT ((-3) : Int32) (rg_w (rg_c (v := (-3)) (lo := (-3)) (hi := (-3)) (by decide)) (by decide))) (cwV 1 htg (oh_gV q_1071 q_1073 q_29 q_73 q_1074) rfl rfl rfl pdVX7_refuse ⟨Nat.le_of_ble_eq_true rfl, Nat.le_of_ble_eq_true rfl⟩) hK hP hD hG hS hA (va_recv hK hP (ci := 7) (q0 := 0) rfl (oh_wg (Nat.lt_of_lt_of_le (by decide) hn) (sM_0 hT))) rfl hl.1 rfl (Nat.le_of_ble_eq_true rfl) dX7_says_74 ⟨Nat.le_of_ble_eq_true rfl, Nat.le_of_ble_eq_true rfl⟩ (fun r_17 C_18 H locs hq_19 hP hD hS => ?_)
        obtain ⟨hT, f_20, hq_19⟩ := hq_19
        have hF := fr_tr hF f_20 (by decide) (by decide)
        refine W.widen (k := 0) (n := 0) (Nat.le_refl _) (Nat.le_refl _) ?_
        have t_21 := hT
        rw [hQ]
        exact W.iret (v := r_17) hx hb hr (fun t ht hW => ⟨⟨r_17, C_18, rfl, ⟨hT, hF, ⟨⟨hR.1.fr hF (by decide), hR.2.fr hF (by decide)⟩, (fun A S hA hok hS0 hN => Eq.trans hq_19 (Eq.trans (pif_pos ⟨(oh_rgI (p := 0) (q := 7) (rg_w (lo := 0) (hi := 7) (rg_il (rgL_i (rg_il (rnL_leu u_10.2 (rnL_lel u_10.1 (rgL_c (v := 0) (lo := 0) (hi := 0) (by decide)) (rgL_i (rg_any _))) (rgL_c (v := 7) (lo := 7) (hi := 7) (by decide)))))) (by decide))), (oh_rgI (p := 0) (q := 5) (rg_w (lo := 0) (hi := 5) (rg_il (rgL_i (rg_il (rnL_leu u_14.2 (rnL_lel u_14.1 (rgL_c (v := 0) (lo := 0) (hi := 0) (by decide)) (rgL_i (rg_any _))) (rgL_c (v := 5) (lo := 5) (hi := 5) (by decide)))))) (by decide)))⟩) (pif_pos ((hm_k hS0 (sh8 (rg_w (lo := 0) (hi := 7) (rg_il (rgL_i (rg_il (rnL_leu u_10.2 (rnL_lel u_10.1 (rgL_c (v := 0) (lo := 0) (hi := 0) (by decide)) (rgL_i (rg_any _))) (rgL_c (v := 7) (lo := 7) (hi := 7) (by decide)))))) (by decide)))).2.1.mp c_16))).symm)⟩⟩, ⟨by rw [ht]; exact hP, hD⟩⟩, hS.F ht⟩) hS.2.2 dX7_says_77
      · refine lv_aload_n hx hb dX7_says_41 rfl (lv_at hl 0 rfl) ?_
        refine va_get (D := D) (ci := 7) (v := .ref (a 1)) (C := RX7) (T := TX7) (N := 29) hx hb htg ig_7 hown hK hP 0 (oh_wg (Nat.lt_of_lt_of_le (by decide) hn) (sM_0 hT)) rfl 0 (by decide) (htg _ q_973) (fun _ h9 => h9) rfl dX7_says_42 ?_
        refine lv_iload_n hx hb dX7_says_45 rfl (lv_at hl 1 rfl) ?_
        have n_22 : vp_in x1 8 := (rg_in (rg_il (rgL_i (rg_il (rnL_leu u_10.2 (rnL_lel u_10.1 (rgL_c (v := 0) (lo := 0) (hi := 0) (by decide)) (rgL_i (rg_any _))) (rgL_c (v := 7) (lo := 7) (hi := 7) (by decide)))))) (by decide))
        refine th_iald hx hb hK hP 1 (Nat.lt_of_lt_of_le (by decide) hn) (sM_1 hT) n_22 dX7_says_46 ?_
        refine lv_iconst (v := 2) hx hb dX7_says_47 (by decide) ?_
        refine lv_icmp_ne (tgt := 78) hx hb dX7_says_48 (by decide) (fun (c_23 : ¬ ((ga (C 1) (x1).toNatClampNeg) = 2)) => ?_) (fun (c_23 : (ga (C 1) (x1).toNatClampNeg) = 2) => ?_)
        · refine lv_aload_n hx hb dX7_says_78 rfl (lv_at hl 0 rfl) ?_
          refine va_get (D := D) (ci := 7) (v := .ref (a 1)) (C := RX7) (T := TX7) (N := 29) hx hb htg ig_7 hown hK hP 0 (oh_wg (Nat.lt_of_lt_of_le (by decide) hn) (sM_0 hT)) rfl 0 (by decide) (htg _ q_973) (fun _ h9 => h9) rfl dX7_says_79 ?_
          refine lv_iload_n hx hb dX7_says_82 rfl (lv_at hl 1 rfl) ?_
          have n_24 : vp_in x1 8 := (rg_in (rg_il (rgL_i (rg_il (rnL_leu u_10.2 (rnL_lel u_10.1 (rgL_c (v := 0) (lo := 0) (hi := 0) (by decide)) (rgL_i (rg_any _))) (rgL_c (v := 7) (lo := 7) (hi := 7) (by decide)))))) (by decide))
          refine th_iald hx hb hK hP 1 (Nat.lt_of_lt_of_le (by decide) hn) (sM_1 hT) n_24 dX7_says_83 ?_
          refine lv_if_ne (tgt := 94) hx hb dX7_says_84 (by decide) (fun (c_25 : ¬ ((ga (C 1) (x1).toNatClampNeg) = 0)) => ?_) (fun (c_25 : (ga (C 1) (x1).toNatClampNeg) = 0) => ?_)
          · exact (rg_no (rn_nel (l' := 3) c_23 (rn_nel (l' := 2) c_16 (rn_neu (u' := (-1)) c_25 (rn_neu (u' := 0) c_16 (rn_nel (l' := 1) c_25 (rn_neu (u' := 1) c_23 (tA_rdc (lo := 0) (hi := 2) (tM_1 hT0) n_24 (Nat.mod_one _) (by decide)) (rg_c (v := 2) (lo := 2) (hi := 2) (by decide)) (by decide)) (rg_c (v := 0) (lo := 0) (hi := 0) (by decide)) (by decide)) (rg_c (v := 1) (lo := 1) (hi := 1) (by decide)) (by decide)) (rg_c (v := 0) (lo := 0) (hi := 0) (by decide)) (by decide)) (rg_c (v := 1) (lo := 1) (hi := 1) (by decide)) (by decide)) (rg_c (v := 2) (lo := 2) (hi := 2) (by decide)) (by decide)) (by decide)).elim
          · refine lv_aload_n hx hb dX7_says_87 rfl (lv_at hl 0 rfl) ?_
            refine lv_bipush (v := (-4)) hx hb dX7_says_88 (by decide) ?_
            refine tm_V (As := [.int (-4)]) (rest := []) ⟨hx, hb, hml, hown, htg⟩ (c_X7_refuse l D E G _ a C n hn hT ((-4) : Int32) (rg_w (rg_c (v := (-4)) (lo := (-4)) (hi := (-4)) (by decide)) (by decide))) (cwV 1 htg (oh_gV q_1071 q_1073 q_29 q_73 q_1074) rfl rfl rfl pdVX7_refuse ⟨Nat.le_of_ble_eq_true rfl, Nat.le_of_ble_eq_true rfl⟩) hK hP hD hG hS hA (va_recv hK hP (ci := 7) (q0 := 0) rfl (oh_wg (Nat.lt_of_lt_of_le (by decide) hn) (sM_0 hT))) rfl hl.1 rfl (Nat.le_of_ble_eq_true rfl) dX7_says_90 ⟨Nat.le_of_ble_eq_true rfl, Nat.le_of_ble_eq_true rfl⟩ (fun r_26 C_27 H locs hq_28 hP hD hS => ?_)
            obtain ⟨hT, f_29, hq_28⟩ := hq_28
            have hF := fr_tr hF f_29 (by decide) (by decide)
            refine W.widen (k := 0) (n := 0) (Nat.le_refl _) (Nat.le_refl _) ?_
            have t_30 := hT
            rw [hQ]
            exact W.iret (v := r_26) hx hb hr (fun t ht hW => ⟨⟨r_26, C_27, rfl, ⟨hT, hF, ⟨⟨hR.1.fr hF (by decide), hR.2.fr hF (by decide)⟩, (fun A S hA hok hS0 hN => by have e := (hm_k hS0 (sh8 (rg_w (lo := 0) (hi := 7) (rg_il (rgL_i (rg_il (rnL_leu u_10.2 (rnL_lel u_10.1 (rgL_c (v := 0) (lo := 0) (hi := 0) (by decide)) (rgL_i (rg_any _))) (rgL_c (v := 7) (lo := 7) (hi := 7) (by decide)))))) (by decide)))).1.mp c_25; exact Eq.trans hq_28 (Eq.trans (pif_pos ⟨(oh_rgI (p := 0) (q := 7) (rg_w (lo := 0) (hi := 7) (rg_il (rgL_i (rg_il (rnL_leu u_10.2 (rnL_lel u_10.1 (rgL_c (v := 0) (lo := 0) (hi := 0) (by decide)) (rgL_i (rg_any _))) (rgL_c (v := 7) (lo := 7) (hi := 7) (by decide)))))) (by decide))), (oh_rgI (p := 0) (q := 5) (rg_w (lo := 0) (hi := 5) (rg_il (rgL_i (rg_il (rnL_leu u_14.2 (rnL_lel u_14.1 (rgL_c (v := 0) (lo := 0) (hi := 0) (by decide)) (rgL_i (rg_any _))) (rgL_c (v := 5) (lo := 5) (hi := 5) (by decide)))))) (by decide)))⟩) (Eq.trans (pif_neg (rowH_n e)) (pif_pos e))).symm)⟩⟩, ⟨by rw [ht]; exact hP, hD⟩⟩, hS.F ht⟩) hS.2.2 dX7_says_93
        · refine lv_aload_n hx hb dX7_says_51 rfl (lv_at hl 0 rfl) ?_
          refine va_get (D := D) (ci := 7) (v := .ref (a 10)) (C := RX7) (T := TX7) (N := 29) hx hb htg ig_7 hown hK hP 0 (oh_wg (Nat.lt_of_lt_of_le (by decide) hn) (sM_0 hT)) rfl 12 (by decide) (htg _ q_985) (fun _ h9 => h9) rfl dX7_says_52 ?_
          refine lv_aload_n hx hb dX7_says_55 rfl (lv_at hl 0 rfl) ?_
          refine va_get (D := D) (ci := 7) (v := .ref (a 6)) (C := RX7) (T := TX7) (N := 29) hx hb htg ig_7 hown hK hP 0 (oh_wg (Nat.lt_of_lt_of_le (by decide) hn) (sM_0 hT)) rfl 5 (by decide) (htg _ q_978) (fun _ h9 => h9) rfl dX7_says_56 ?_
          refine lv_iload_n hx hb dX7_says_59 rfl (lv_at hl 1 rfl) ?_
          have n_31 : vp_in x1 8 := (rg_in (rg_il (rgL_i (rg_il (rnL_leu u_10.2 (rnL_lel u_10.1 (rgL_c (v := 0) (lo := 0) (hi := 0) (by decide)) (rgL_i (rg_any _))) (rgL_c (v := 7) (lo := 7) (hi := 7) (by decide)))))) (by decide))
          refine th_iald hx hb hK hP 6 (Nat.lt_of_lt_of_le (by decide) hn) (sM_6 hT) n_31 dX7_says_60 ?_
          have n_32 : vp_in (ga (C 6) (x1).toNatClampNeg) 16 := (rg_in (oh_shown hT0 hR (rg_w (rg_il (rgL_i (rg_il (rnL_leu u_10.2 (rnL_lel u_10.1 (rgL_c (v := 0) (lo := 0) (hi := 0) (by decide)) (rgL_i (rg_any _))) (rgL_c (v := 7) (lo := 7) (hi := 7) (by decide)))))) (by decide)) (rg_in (rg_il (rgL_i (rg_il (rnL_leu u_10.2 (rnL_lel u_10.1 (rgL_c (v := 0) (lo := 0) (hi := 0) (by decide)) (rgL_i (rg_any _))) (rgL_c (v := 7) (lo := 7) (hi := 7) (by decide)))))) (by decide)) c_23) (by decide))
          have b_33 : (ga (C 6) (x1).toNatClampNeg).toNatClampNeg < 16 := vp_lt n_32
          refine th_aald hx hb hK hP 10 2 (Nat.lt_of_lt_of_le (by decide) hn) (sM_10 hT) rfl n_32 dX7_says_61 ?_
          refine lv_iconst (v := 1) hx hb dX7_says_62 (by decide) ?_
          refine th_iald hx hb hK hP (48 + (ga (C 6) (x1).toNatClampNeg).toNatClampNeg) (lt_blk b_33 hn (by decide)) (hT.bbridge b_33).1 (rg_in (rg_c (v := 1) (lo := 1) (hi := 1) (by decide)) (by decide)) dX7_says_63 ?_
          refine lv_iload_n hx hb dX7_says_64 rfl (lv_at hl 2 rfl) ?_
          refine tq_S (As := [.int (ga (C (48 + (ga (C 6) (x1).toNatClampNeg).toNatClampNeg)) ((1 : Int32)).toNatClampNeg), .int x2]) (rest := []) (ws := []) ⟨hx, hb, hml, hown, htg⟩ (e_X7_isUnder l D E G (ga (C (48 + (ga (C 6) (x1).toNatClampNeg).toNatClampNeg)) ((1 : Int32)).toNatClampNeg) x2) (va_cwS 2 htg (oh_gS q_1107 q_1108 q_73 q_1109) rfl rfl rfl pdX7_isUnder ⟨Nat.le_of_ble_eq_true rfl, Nat.le_of_ble_eq_true rfl⟩) hK va_nil hG hS rfl hl.1 rfl (Nat.le_of_ble_eq_true rfl) dX7_says_65 ⟨Nat.le_of_ble_eq_true rfl, Nat.le_of_ble_eq_true rfl⟩ (fun r_34 hq_35 => ?_)
          refine lv_if_ne (tgt := 78) hx hb dX7_says_68 (by decide) (fun (c_36 : ¬ (r_34 = 0)) => ?_) (fun (c_36 : r_34 = 0) => ?_)
          · refine lv_aload_n hx hb dX7_says_78 rfl (lv_at hl 0 rfl) ?_
            refine va_get (D := D) (ci := 7) (v := .ref (a 1)) (C := RX7) (T := TX7) (N := 29) hx hb htg ig_7 hown hK hP 0 (oh_wg (Nat.lt_of_lt_of_le (by decide) hn) (sM_0 hT)) rfl 0 (by decide) (htg _ q_973) (fun _ h9 => h9) rfl dX7_says_79 ?_
            refine lv_iload_n hx hb dX7_says_82 rfl (lv_at hl 1 rfl) ?_
            have n_37 : vp_in x1 8 := (rg_in (rg_il (rgL_i (rg_il (rnL_leu u_10.2 (rnL_lel u_10.1 (rgL_c (v := 0) (lo := 0) (hi := 0) (by decide)) (rgL_i (rg_any _))) (rgL_c (v := 7) (lo := 7) (hi := 7) (by decide)))))) (by decide))
            refine th_iald hx hb hK hP 1 (Nat.lt_of_lt_of_le (by decide) hn) (sM_1 hT) n_37 dX7_says_83 ?_
            refine lv_if_ne (tgt := 94) hx hb dX7_says_84 (by decide) (fun (c_38 : ¬ ((ga (C 1) (x1).toNatClampNeg) = 0)) => ?_) (fun (c_38 : (ga (C 1) (x1).toNatClampNeg) = 0) => ?_)
            · refine lv_aload_n hx hb dX7_says_94 rfl (lv_at hl 0 rfl) ?_
              refine va_get (D := D) (ci := 7) (v := .ref (a 6)) (C := RX7) (T := TX7) (N := 29) hx hb htg ig_7 hown hK hP 0 (oh_wg (Nat.lt_of_lt_of_le (by decide) hn) (sM_0 hT)) rfl 5 (by decide) (htg _ q_978) (fun _ h9 => h9) rfl dX7_says_95 ?_
              refine lv_iload_n hx hb dX7_says_98 rfl (lv_at hl 1 rfl) ?_
              have n_39 : vp_in x1 8 := (rg_in (rg_il (rgL_i (rg_il (rnL_leu u_10.2 (rnL_lel u_10.1 (rgL_c (v := 0) (lo := 0) (hi := 0) (by decide)) (rgL_i (rg_any _))) (rgL_c (v := 7) (lo := 7) (hi := 7) (by decide)))))) (by decide))
              refine th_iald hx hb hK hP 6 (Nat.lt_of_lt_of_le (by decide) hn) (sM_6 hT) n_39 dX7_says_99 ?_
              refine lv_istore_n (lv' := [(3, .int (ga (C 6) (x1).toNatClampNeg)), (0, .ref (a 0)), (1, .int x1), (2, .int x2)]) hx hb dX7_says_100 rfl hl (by decide) rfl (fun ls hl => ?_)
              refine lv_iload_n hx hb dX7_says_101 rfl (lv_at hl 3 rfl) ?_
              by_cases c_40 : x2 = 0
              · refine lv_tableIn (off := 34) (tgt := 136) hx hb dX7_says_102 (by rw [c_40]; decide) (by rw [c_40]; decide) (by rw [c_40]; decide) (by decide) ?_
                refine lv_aload_n hx hb dX7_says_136 rfl (lv_at hl 1 rfl) ?_
                refine va_get (D := D) (ci := 7) (v := .ref (a 10)) (C := RX7) (T := TX7) (N := 29) hx hb htg ig_7 hown hK hP 0 (oh_wg (Nat.lt_of_lt_of_le (by decide) hn) (sM_0 hT)) rfl 12 (by decide) (htg _ q_985) (fun _ h9 => h9) rfl dX7_says_137 ?_
                refine lv_iload_n hx hb dX7_says_140 rfl (lv_at hl 0 rfl) ?_
                have n_41 : vp_in (ga (C 6) (x1).toNatClampNeg) 16 := (rg_in (oh_shown hT0 hR (rg_w (rg_il (rgL_i (rg_il (rnL_leu u_10.2 (rnL_lel u_10.1 (rgL_c (v := 0) (lo := 0) (hi := 0) (by decide)) (rgL_i (rg_any _))) (rgL_c (v := 7) (lo := 7) (hi := 7) (by decide)))))) (by decide)) (rg_in (rg_il (rgL_i (rg_il (rnL_leu u_10.2 (rnL_lel u_10.1 (rgL_c (v := 0) (lo := 0) (hi := 0) (by decide)) (rgL_i (rg_any _))) (rgL_c (v := 7) (lo := 7) (hi := 7) (by decide)))))) (by decide)) c_23) (by decide))
                have b_42 : (ga (C 6) (x1).toNatClampNeg).toNatClampNeg < 16 := vp_lt n_41
                refine th_aald hx hb hK hP 10 2 (Nat.lt_of_lt_of_le (by decide) hn) (sM_10 hT) rfl n_41 dX7_says_141 ?_
                refine lv_iconst (v := 0) hx hb dX7_says_142 (by decide) ?_
                refine th_iald hx hb hK hP (48 + (ga (C 6) (x1).toNatClampNeg).toNatClampNeg) (lt_blk b_42 hn (by decide)) (hT.bbridge b_42).1 (rg_in (rg_c (v := 0) (lo := 0) (hi := 0) (by decide)) (by decide)) dX7_says_143 ?_
                rw [hQ]
                exact W.iret (v := ga (C (48 + (ga (C 6) (x1).toNatClampNeg).toNatClampNeg)) ((0 : Int32)).toNatClampNeg) hx hb hr (fun t ht hW => ⟨⟨ga (C (48 + (ga (C 6) (x1).toNatClampNeg).toNatClampNeg)) ((0 : Int32)).toNatClampNeg, C, rfl, ⟨hT, hF, ⟨hR, (fun A S hA hok hS0 hN => by have i1 : rg (ga (C 6) (x1).toNatClampNeg) 0 15 := (rg_w (lo := 0) (hi := 15) (oh_shown hT0 hR (rg_w (rg_il (rgL_i (rg_il (rnL_leu u_10.2 (rnL_lel u_10.1 (rgL_c (v := 0) (lo := 0) (hi := 0) (by decide)) (rgL_i (rg_any _))) (rgL_c (v := 7) (lo := 7) (hi := 7) (by decide)))))) (by decide)) (rg_in (rg_il (rgL_i (rg_il (rnL_leu u_10.2 (rnL_lel u_10.1 (rgL_c (v := 0) (lo := 0) (hi := 0) (by decide)) (rgL_i (rg_any _))) (rgL_c (v := 7) (lo := 7) (hi := 7) (by decide)))))) (by decide)) c_23) (by decide)); obtain ⟨nr, n1, eg, hl⟩ := sm_b hS0 (sh8 (rg_w (lo := 0) (hi := 7) (rg_il (rgL_i (rg_il (rnL_leu u_10.2 (rnL_lel u_10.1 (rgL_c (v := 0) (lo := 0) (hi := 0) (by decide)) (rgL_i (rg_any _))) (rgL_c (v := 7) (lo := 7) (hi := 7) (by decide)))))) (by decide))) hN i1 c_23; have b0 : ga (C (48 + (ga (C 6) (x1).toNatClampNeg).toNatClampNeg)) ((0 : Int32)).toNatClampNeg = A 1 (ga (C 6) (x1).toNatClampNeg).toNatClampNeg 0 := colM_v (t := 1) hA (by decide) i1 (by decide) hl (by unfold vis; omega); have b1 : ga (C (48 + (ga (C 6) (x1).toNatClampNeg).toNatClampNeg)) ((1 : Int32)).toNatClampNeg = A 1 (ga (C 6) (x1).toNatClampNeg).toNatClampNeg 1 := colM_v (t := 1) hA (by decide) i1 (by decide) hl (by unfold vis; omega); have b2 : ga (C (48 + (ga (C 6) (x1).toNatClampNeg).toNatClampNeg)) ((2 : Int32)).toNatClampNeg = A 1 (ga (C 6) (x1).toNatClampNeg).toNatClampNeg 2 := colM_v (t := 1) hA (by decide) i1 (by decide) hl (by unfold vis; omega); have b3 : ga (C (48 + (ga (C 6) (x1).toNatClampNeg).toNatClampNeg)) ((3 : Int32)).toNatClampNeg = A 1 (ga (C 6) (x1).toNatClampNeg).toNatClampNeg 3 := colM_v (t := 1) hA (by decide) i1 (by decide) hl (by unfold vis; omega); have b4 : ga (C (48 + (ga (C 6) (x1).toNatClampNeg).toNatClampNeg)) ((4 : Int32)).toNatClampNeg = A 1 (ga (C 6) (x1).toNatClampNeg).toNatClampNeg 4 := colM_v (t := 1) hA (by decide) i1 (by decide) hl (by unfold vis; omega); have b5 : ga (C (48 + (ga (C 6) (x1).toNatClampNeg).toNatClampNeg)) ((5 : Int32)).toNatClampNeg = A 1 (ga (C 6) (x1).toNatClampNeg).toNatClampNeg 5 := colM_v (t := 1) hA (by decide) i1 (by decide) hl (by unfold vis; omega); have b6 : ga (C (48 + (ga (C 6) (x1).toNatClampNeg).toNatClampNeg)) ((6 : Int32)).toNatClampNeg = A 1 (ga (C 6) (x1).toNatClampNeg).toNatClampNeg 6 := colM_v (t := 1) hA (by decide) i1 (by decide) hl (by unfold vis; omega); have b7 : ga (C (48 + (ga (C 6) (x1).toNatClampNeg).toNatClampNeg)) ((7 : Int32)).toNatClampNeg = A 1 (ga (C 6) (x1).toNatClampNeg).toNatClampNeg 7 := colM_v (t := 1) hA (by decide) i1 (by decide) hl (by unfold vis; omega); have b8 : ga (C (48 + (ga (C 6) (x1).toNatClampNeg).toNatClampNeg)) ((8 : Int32)).toNatClampNeg = A 1 (ga (C 6) (x1).toNatClampNeg).toNatClampNeg 8 := colM_v (t := 1) hA (by decide) i1 (by decide) hl (by unfold vis; omega); have b9 : ga (C (48 + (ga (C 6) (x1).toNatClampNeg).toNatClampNeg)) ((9 : Int32)).toNatClampNeg = A 1 (ga (C 6) (x1).toNatClampNeg).toNatClampNeg 9 := colM_v (t := 1) hA (by decide) i1 (by decide) hl (by unfold vis; omega); have t := hq_35.2; rw [b1] at t; have bf : ga (C 13) ((2 : Int32)).toNatClampNeg = A 4 0 2 := hA.2.1 2 (by decide); have hv := hok.2.2.2.1 (ga (C 6) (x1).toNatClampNeg).toNatClampNeg (by rw [oh_nat i1 (by decide)]; exact Int32.lt_iff_toInt_lt.mp hl); have hk : (ga (C (48 + (ga (C 6) (x1).toNatClampNeg).toNatClampNeg)) ((1 : Int32)).toNatClampNeg).toInt ≤ 5 := (by rw [b1]; exact hv.2.1.2); have hf : rg (ga (C (48 + (ga (C 6) (x1).toNatClampNeg).toNatClampNeg)) ((8 : Int32)).toNatClampNeg) 0 1 := (by rw [b8]; exact hv.2.2.2.2.2.2.2.2.1); have ye := (t.mp (oh_b1 (rg_w (lo := 0) (hi := 1) (rn_nel (l' := 1) c_36 (oh_rgb hq_35.1) (rg_c (v := 0) (lo := 0) (hi := 0) (by decide)) (by decide)) (by decide)) c_36)); have ev : ga (C (48 + (ga (C 6) (x1).toNatClampNeg).toNatClampNeg)) ((0 : Int32)).toNatClampNeg = spk A (S.1 x1.toNatClampNeg - 10).toNatClampNeg x2 := (by rw [← eg]; exact Eq.trans b0 (pif_pos c_40).symm); rw [eg] at ye; exact Eq.trans ev (Eq.trans (pif_pos ⟨(oh_rgI (p := 0) (q := 7) (rg_w (lo := 0) (hi := 7) (rg_il (rgL_i (rg_il (rnL_leu u_10.2 (rnL_lel u_10.1 (rgL_c (v := 0) (lo := 0) (hi := 0) (by decide)) (rgL_i (rg_any _))) (rgL_c (v := 7) (lo := 7) (hi := 7) (by decide)))))) (by decide))), (oh_rgI (p := 0) (q := 5) (rg_w (lo := 0) (hi := 5) (rn_eq c_40 (rg_c (v := 0) (lo := 0) (hi := 0) (by decide))) (by decide)))⟩) (Eq.trans (pif_neg nr) (Eq.trans (pif_neg n1) (pif_pos ye)))).symm)⟩⟩, ⟨by rw [ht]; exact hP, hD⟩⟩, hS.F ht⟩) hS.2.2 dX7_says_144
              · by_cases c_43 : x2 = 1
                · refine lv_tableIn (off := 43) (tgt := 145) hx hb dX7_says_102 (by rw [c_43]; decide) (by rw [c_43]; decide) (by rw [c_43]; decide) (by decide) ?_
                  refine lv_aload_n hx hb dX7_says_145 rfl (lv_at hl 1 rfl) ?_
                  refine lv_iload_n hx hb dX7_says_146 rfl (lv_at hl 0 rfl) ?_
                  refine tq_V (As := [.int (ga (C 6) (x1).toNatClampNeg)]) (rest := []) (ws := (oh_W n a C)) ⟨hx, hb, hml, hown, htg⟩ (e_X7_axleOf l D E G a C n hn hT (ga (C 6) (x1).toNatClampNeg) (rg_w (oh_shown hT0 hR (rg_w (rg_il (rgL_i (rg_il (rnL_leu u_10.2 (rnL_lel u_10.1 (rgL_c (v := 0) (lo := 0) (hi := 0) (by decide)) (rgL_i (rg_any _))) (rgL_c (v := 7) (lo := 7) (hi := 7) (by decide)))))) (by decide)) (rg_in (rg_il (rgL_i (rg_il (rnL_leu u_10.2 (rnL_lel u_10.1 (rgL_c (v := 0) (lo := 0) (hi := 0) (by decide)) (rgL_i (rg_any _))) (rgL_c (v := 7) (lo := 7) (hi := 7) (by decide)))))) (by decide)) c_23) (by decide))) (cwV 1 htg (oh_gV q_1110 q_1112 q_31 q_73 q_1113) rfl rfl rfl pdVX7_axleOf ⟨Nat.le_of_ble_eq_true rfl, Nat.le_of_ble_eq_true rfl⟩) hK hP hG hS (va_recv hK hP (ci := 7) (q0 := 0) rfl (oh_wg (Nat.lt_of_lt_of_le (by decide) hn) (sM_0 hT))) rfl hl.1 rfl (Nat.le_of_ble_eq_true rfl) dX7_says_147 ⟨Nat.le_of_ble_eq_true rfl, Nat.le_of_ble_eq_true rfl⟩ (fun r_44 hq_45 => ?_)
                  rw [hQ]
                  exact W.iret (v := r_44) hx hb hr (fun t ht hW => ⟨⟨r_44, C, rfl, ⟨hT, hF, ⟨hR, (fun A S hA hok hS0 hN => by have i1 : rg (ga (C 6) (x1).toNatClampNeg) 0 15 := (rg_w (lo := 0) (hi := 15) (oh_shown hT0 hR (rg_w (rg_il (rgL_i (rg_il (rnL_leu u_10.2 (rnL_lel u_10.1 (rgL_c (v := 0) (lo := 0) (hi := 0) (by decide)) (rgL_i (rg_any _))) (rgL_c (v := 7) (lo := 7) (hi := 7) (by decide)))))) (by decide)) (rg_in (rg_il (rgL_i (rg_il (rnL_leu u_10.2 (rnL_lel u_10.1 (rgL_c (v := 0) (lo := 0) (hi := 0) (by decide)) (rgL_i (rg_any _))) (rgL_c (v := 7) (lo := 7) (hi := 7) (by decide)))))) (by decide)) c_23) (by decide)); obtain ⟨nr, n1, eg, hl⟩ := sm_b hS0 (sh8 (rg_w (lo := 0) (hi := 7) (rg_il (rgL_i (rg_il (rnL_leu u_10.2 (rnL_lel u_10.1 (rgL_c (v := 0) (lo := 0) (hi := 0) (by decide)) (rgL_i (rg_any _))) (rgL_c (v := 7) (lo := 7) (hi := 7) (by decide)))))) (by decide))) hN i1 c_23; have b0 : ga (C (48 + (ga (C 6) (x1).toNatClampNeg).toNatClampNeg)) ((0 : Int32)).toNatClampNeg = A 1 (ga (C 6) (x1).toNatClampNeg).toNatClampNeg 0 := colM_v (t := 1) hA (by decide) i1 (by decide) hl (by unfold vis; omega); have b1 : ga (C (48 + (ga (C 6) (x1).toNatClampNeg).toNatClampNeg)) ((1 : Int32)).toNatClampNeg = A 1 (ga (C 6) (x1).toNatClampNeg).toNatClampNeg 1 := colM_v (t := 1) hA (by decide) i1 (by decide) hl (by unfold vis; omega); have b2 : ga (C (48 + (ga (C 6) (x1).toNatClampNeg).toNatClampNeg)) ((2 : Int32)).toNatClampNeg = A 1 (ga (C 6) (x1).toNatClampNeg).toNatClampNeg 2 := colM_v (t := 1) hA (by decide) i1 (by decide) hl (by unfold vis; omega); have b3 : ga (C (48 + (ga (C 6) (x1).toNatClampNeg).toNatClampNeg)) ((3 : Int32)).toNatClampNeg = A 1 (ga (C 6) (x1).toNatClampNeg).toNatClampNeg 3 := colM_v (t := 1) hA (by decide) i1 (by decide) hl (by unfold vis; omega); have b4 : ga (C (48 + (ga (C 6) (x1).toNatClampNeg).toNatClampNeg)) ((4 : Int32)).toNatClampNeg = A 1 (ga (C 6) (x1).toNatClampNeg).toNatClampNeg 4 := colM_v (t := 1) hA (by decide) i1 (by decide) hl (by unfold vis; omega); have b5 : ga (C (48 + (ga (C 6) (x1).toNatClampNeg).toNatClampNeg)) ((5 : Int32)).toNatClampNeg = A 1 (ga (C 6) (x1).toNatClampNeg).toNatClampNeg 5 := colM_v (t := 1) hA (by decide) i1 (by decide) hl (by unfold vis; omega); have b6 : ga (C (48 + (ga (C 6) (x1).toNatClampNeg).toNatClampNeg)) ((6 : Int32)).toNatClampNeg = A 1 (ga (C 6) (x1).toNatClampNeg).toNatClampNeg 6 := colM_v (t := 1) hA (by decide) i1 (by decide) hl (by unfold vis; omega); have b7 : ga (C (48 + (ga (C 6) (x1).toNatClampNeg).toNatClampNeg)) ((7 : Int32)).toNatClampNeg = A 1 (ga (C 6) (x1).toNatClampNeg).toNatClampNeg 7 := colM_v (t := 1) hA (by decide) i1 (by decide) hl (by unfold vis; omega); have b8 : ga (C (48 + (ga (C 6) (x1).toNatClampNeg).toNatClampNeg)) ((8 : Int32)).toNatClampNeg = A 1 (ga (C 6) (x1).toNatClampNeg).toNatClampNeg 8 := colM_v (t := 1) hA (by decide) i1 (by decide) hl (by unfold vis; omega); have b9 : ga (C (48 + (ga (C 6) (x1).toNatClampNeg).toNatClampNeg)) ((9 : Int32)).toNatClampNeg = A 1 (ga (C 6) (x1).toNatClampNeg).toNatClampNeg 9 := colM_v (t := 1) hA (by decide) i1 (by decide) hl (by unfold vis; omega); have t := hq_35.2; rw [b1] at t; have bf : ga (C 13) ((2 : Int32)).toNatClampNeg = A 4 0 2 := hA.2.1 2 (by decide); have hv := hok.2.2.2.1 (ga (C 6) (x1).toNatClampNeg).toNatClampNeg (by rw [oh_nat i1 (by decide)]; exact Int32.lt_iff_toInt_lt.mp hl); have hk : (ga (C (48 + (ga (C 6) (x1).toNatClampNeg).toNatClampNeg)) ((1 : Int32)).toNatClampNeg).toInt ≤ 5 := (by rw [b1]; exact hv.2.1.2); have hf : rg (ga (C (48 + (ga (C 6) (x1).toNatClampNeg).toNatClampNeg)) ((8 : Int32)).toNatClampNeg) 0 1 := (by rw [b8]; exact hv.2.2.2.2.2.2.2.2.1); have ye := (t.mp (oh_b1 (rg_w (lo := 0) (hi := 1) (rn_nel (l' := 1) c_36 (oh_rgb hq_35.1) (rg_c (v := 0) (lo := 0) (hi := 0) (by decide)) (by decide)) (by decide)) c_36)); have ev : r_44 = spk A (S.1 x1.toNatClampNeg - 10).toNatClampNeg x2 := (by rw [← eg]; exact Eq.trans (by rw [hq_45 hk, b1, b3, b8, b9, bf]; rfl) (Eq.trans (pif_neg (fun h8 => absurd (Eq.trans (Eq.symm c_43) h8) (by decide))) (pif_pos (Or.inl c_43))).symm); rw [eg] at ye; exact Eq.trans ev (Eq.trans (pif_pos ⟨(oh_rgI (p := 0) (q := 7) (rg_w (lo := 0) (hi := 7) (rg_il (rgL_i (rg_il (rnL_leu u_10.2 (rnL_lel u_10.1 (rgL_c (v := 0) (lo := 0) (hi := 0) (by decide)) (rgL_i (rg_any _))) (rgL_c (v := 7) (lo := 7) (hi := 7) (by decide)))))) (by decide))), (oh_rgI (p := 0) (q := 5) (rg_w (lo := 0) (hi := 5) (rn_eq c_43 (rg_c (v := 1) (lo := 1) (hi := 1) (by decide))) (by decide)))⟩) (Eq.trans (pif_neg nr) (Eq.trans (pif_neg n1) (pif_pos ye)))).symm)⟩⟩, ⟨by rw [ht]; exact hP, hD⟩⟩, hS.F ht⟩) hS.2.2 dX7_says_150
                · by_cases c_46 : x2 = 2
                  · refine lv_tableIn (off := 43) (tgt := 145) hx hb dX7_says_102 (by rw [c_46]; decide) (by rw [c_46]; decide) (by rw [c_46]; decide) (by decide) ?_
                    refine lv_aload_n hx hb dX7_says_145 rfl (lv_at hl 1 rfl) ?_
                    refine lv_iload_n hx hb dX7_says_146 rfl (lv_at hl 0 rfl) ?_
                    refine tq_V (As := [.int (ga (C 6) (x1).toNatClampNeg)]) (rest := []) (ws := (oh_W n a C)) ⟨hx, hb, hml, hown, htg⟩ (e_X7_axleOf l D E G a C n hn hT (ga (C 6) (x1).toNatClampNeg) (rg_w (oh_shown hT0 hR (rg_w (rg_il (rgL_i (rg_il (rnL_leu u_10.2 (rnL_lel u_10.1 (rgL_c (v := 0) (lo := 0) (hi := 0) (by decide)) (rgL_i (rg_any _))) (rgL_c (v := 7) (lo := 7) (hi := 7) (by decide)))))) (by decide)) (rg_in (rg_il (rgL_i (rg_il (rnL_leu u_10.2 (rnL_lel u_10.1 (rgL_c (v := 0) (lo := 0) (hi := 0) (by decide)) (rgL_i (rg_any _))) (rgL_c (v := 7) (lo := 7) (hi := 7) (by decide)))))) (by decide)) c_23) (by decide))) (cwV 1 htg (oh_gV q_1110 q_1112 q_31 q_73 q_1113) rfl rfl rfl pdVX7_axleOf ⟨Nat.le_of_ble_eq_true rfl, Nat.le_of_ble_eq_true rfl⟩) hK hP hG hS (va_recv hK hP (ci := 7) (q0 := 0) rfl (oh_wg (Nat.lt_of_lt_of_le (by decide) hn) (sM_0 hT))) rfl hl.1 rfl (Nat.le_of_ble_eq_true rfl) dX7_says_147 ⟨Nat.le_of_ble_eq_true rfl, Nat.le_of_ble_eq_true rfl⟩ (fun r_47 hq_48 => ?_)
                    rw [hQ]
                    exact W.iret (v := r_47) hx hb hr (fun t ht hW => ⟨⟨r_47, C, rfl, ⟨hT, hF, ⟨hR, (fun A S hA hok hS0 hN => by have i1 : rg (ga (C 6) (x1).toNatClampNeg) 0 15 := (rg_w (lo := 0) (hi := 15) (oh_shown hT0 hR (rg_w (rg_il (rgL_i (rg_il (rnL_leu u_10.2 (rnL_lel u_10.1 (rgL_c (v := 0) (lo := 0) (hi := 0) (by decide)) (rgL_i (rg_any _))) (rgL_c (v := 7) (lo := 7) (hi := 7) (by decide)))))) (by decide)) (rg_in (rg_il (rgL_i (rg_il (rnL_leu u_10.2 (rnL_lel u_10.1 (rgL_c (v := 0) (lo := 0) (hi := 0) (by decide)) (rgL_i (rg_any _))) (rgL_c (v := 7) (lo := 7) (hi := 7) (by decide)))))) (by decide)) c_23) (by decide)); obtain ⟨nr, n1, eg, hl⟩ := sm_b hS0 (sh8 (rg_w (lo := 0) (hi := 7) (rg_il (rgL_i (rg_il (rnL_leu u_10.2 (rnL_lel u_10.1 (rgL_c (v := 0) (lo := 0) (hi := 0) (by decide)) (rgL_i (rg_any _))) (rgL_c (v := 7) (lo := 7) (hi := 7) (by decide)))))) (by decide))) hN i1 c_23; have b0 : ga (C (48 + (ga (C 6) (x1).toNatClampNeg).toNatClampNeg)) ((0 : Int32)).toNatClampNeg = A 1 (ga (C 6) (x1).toNatClampNeg).toNatClampNeg 0 := colM_v (t := 1) hA (by decide) i1 (by decide) hl (by unfold vis; omega); have b1 : ga (C (48 + (ga (C 6) (x1).toNatClampNeg).toNatClampNeg)) ((1 : Int32)).toNatClampNeg = A 1 (ga (C 6) (x1).toNatClampNeg).toNatClampNeg 1 := colM_v (t := 1) hA (by decide) i1 (by decide) hl (by unfold vis; omega); have b2 : ga (C (48 + (ga (C 6) (x1).toNatClampNeg).toNatClampNeg)) ((2 : Int32)).toNatClampNeg = A 1 (ga (C 6) (x1).toNatClampNeg).toNatClampNeg 2 := colM_v (t := 1) hA (by decide) i1 (by decide) hl (by unfold vis; omega); have b3 : ga (C (48 + (ga (C 6) (x1).toNatClampNeg).toNatClampNeg)) ((3 : Int32)).toNatClampNeg = A 1 (ga (C 6) (x1).toNatClampNeg).toNatClampNeg 3 := colM_v (t := 1) hA (by decide) i1 (by decide) hl (by unfold vis; omega); have b4 : ga (C (48 + (ga (C 6) (x1).toNatClampNeg).toNatClampNeg)) ((4 : Int32)).toNatClampNeg = A 1 (ga (C 6) (x1).toNatClampNeg).toNatClampNeg 4 := colM_v (t := 1) hA (by decide) i1 (by decide) hl (by unfold vis; omega); have b5 : ga (C (48 + (ga (C 6) (x1).toNatClampNeg).toNatClampNeg)) ((5 : Int32)).toNatClampNeg = A 1 (ga (C 6) (x1).toNatClampNeg).toNatClampNeg 5 := colM_v (t := 1) hA (by decide) i1 (by decide) hl (by unfold vis; omega); have b6 : ga (C (48 + (ga (C 6) (x1).toNatClampNeg).toNatClampNeg)) ((6 : Int32)).toNatClampNeg = A 1 (ga (C 6) (x1).toNatClampNeg).toNatClampNeg 6 := colM_v (t := 1) hA (by decide) i1 (by decide) hl (by unfold vis; omega); have b7 : ga (C (48 + (ga (C 6) (x1).toNatClampNeg).toNatClampNeg)) ((7 : Int32)).toNatClampNeg = A 1 (ga (C 6) (x1).toNatClampNeg).toNatClampNeg 7 := colM_v (t := 1) hA (by decide) i1 (by decide) hl (by unfold vis; omega); have b8 : ga (C (48 + (ga (C 6) (x1).toNatClampNeg).toNatClampNeg)) ((8 : Int32)).toNatClampNeg = A 1 (ga (C 6) (x1).toNatClampNeg).toNatClampNeg 8 := colM_v (t := 1) hA (by decide) i1 (by decide) hl (by unfold vis; omega); have b9 : ga (C (48 + (ga (C 6) (x1).toNatClampNeg).toNatClampNeg)) ((9 : Int32)).toNatClampNeg = A 1 (ga (C 6) (x1).toNatClampNeg).toNatClampNeg 9 := colM_v (t := 1) hA (by decide) i1 (by decide) hl (by unfold vis; omega); have t := hq_35.2; rw [b1] at t; have bf : ga (C 13) ((2 : Int32)).toNatClampNeg = A 4 0 2 := hA.2.1 2 (by decide); have hv := hok.2.2.2.1 (ga (C 6) (x1).toNatClampNeg).toNatClampNeg (by rw [oh_nat i1 (by decide)]; exact Int32.lt_iff_toInt_lt.mp hl); have hk : (ga (C (48 + (ga (C 6) (x1).toNatClampNeg).toNatClampNeg)) ((1 : Int32)).toNatClampNeg).toInt ≤ 5 := (by rw [b1]; exact hv.2.1.2); have hf : rg (ga (C (48 + (ga (C 6) (x1).toNatClampNeg).toNatClampNeg)) ((8 : Int32)).toNatClampNeg) 0 1 := (by rw [b8]; exact hv.2.2.2.2.2.2.2.2.1); have ye := (t.mp (oh_b1 (rg_w (lo := 0) (hi := 1) (rn_nel (l' := 1) c_36 (oh_rgb hq_35.1) (rg_c (v := 0) (lo := 0) (hi := 0) (by decide)) (by decide)) (by decide)) c_36)); have ev : r_47 = spk A (S.1 x1.toNatClampNeg - 10).toNatClampNeg x2 := (by rw [← eg]; exact Eq.trans (by rw [hq_48 hk, b1, b3, b8, b9, bf]; rfl) (Eq.trans (pif_neg (fun h8 => absurd (Eq.trans (Eq.symm c_46) h8) (by decide))) (pif_pos (Or.inr c_46))).symm); rw [eg] at ye; exact Eq.trans ev (Eq.trans (pif_pos ⟨(oh_rgI (p := 0) (q := 7) (rg_w (lo := 0) (hi := 7) (rg_il (rgL_i (rg_il (rnL_leu u_10.2 (rnL_lel u_10.1 (rgL_c (v := 0) (lo := 0) (hi := 0) (by decide)) (rgL_i (rg_any _))) (rgL_c (v := 7) (lo := 7) (hi := 7) (by decide)))))) (by decide))), (oh_rgI (p := 0) (q := 5) (rg_w (lo := 0) (hi := 5) (rn_eq c_46 (rg_c (v := 2) (lo := 2) (hi := 2) (by decide))) (by decide)))⟩) (Eq.trans (pif_neg nr) (Eq.trans (pif_neg n1) (pif_pos ye)))).symm)⟩⟩, ⟨by rw [ht]; exact hP, hD⟩⟩, hS.F ht⟩) hS.2.2 dX7_says_150
                  · by_cases c_49 : x2 = 3
                    · refine lv_tableIn (off := 49) (tgt := 151) hx hb dX7_says_102 (by rw [c_49]; decide) (by rw [c_49]; decide) (by rw [c_49]; decide) (by decide) ?_
                      refine lv_aload_n hx hb dX7_says_151 rfl (lv_at hl 1 rfl) ?_
                      refine va_get (D := D) (ci := 7) (v := .ref (a 10)) (C := RX7) (T := TX7) (N := 29) hx hb htg ig_7 hown hK hP 0 (oh_wg (Nat.lt_of_lt_of_le (by decide) hn) (sM_0 hT)) rfl 12 (by decide) (htg _ q_985) (fun _ h9 => h9) rfl dX7_says_152 ?_
                      refine lv_iload_n hx hb dX7_says_155 rfl (lv_at hl 0 rfl) ?_
                      have n_50 : vp_in (ga (C 6) (x1).toNatClampNeg) 16 := (rg_in (oh_shown hT0 hR (rg_w (rg_il (rgL_i (rg_il (rnL_leu u_10.2 (rnL_lel u_10.1 (rgL_c (v := 0) (lo := 0) (hi := 0) (by decide)) (rgL_i (rg_any _))) (rgL_c (v := 7) (lo := 7) (hi := 7) (by decide)))))) (by decide)) (rg_in (rg_il (rgL_i (rg_il (rnL_leu u_10.2 (rnL_lel u_10.1 (rgL_c (v := 0) (lo := 0) (hi := 0) (by decide)) (rgL_i (rg_any _))) (rgL_c (v := 7) (lo := 7) (hi := 7) (by decide)))))) (by decide)) c_23) (by decide))
                      have b_51 : (ga (C 6) (x1).toNatClampNeg).toNatClampNeg < 16 := vp_lt n_50
                      refine th_aald hx hb hK hP 10 2 (Nat.lt_of_lt_of_le (by decide) hn) (sM_10 hT) rfl n_50 dX7_says_156 ?_
                      refine lv_iconst (v := 2) hx hb dX7_says_157 (by decide) ?_
                      refine th_iald hx hb hK hP (48 + (ga (C 6) (x1).toNatClampNeg).toNatClampNeg) (lt_blk b_51 hn (by decide)) (hT.bbridge b_51).1 (rg_in (rg_c (v := 2) (lo := 2) (hi := 2) (by decide)) (by decide)) dX7_says_158 ?_
                      rw [hQ]
                      exact W.iret (v := ga (C (48 + (ga (C 6) (x1).toNatClampNeg).toNatClampNeg)) ((2 : Int32)).toNatClampNeg) hx hb hr (fun t ht hW => ⟨⟨ga (C (48 + (ga (C 6) (x1).toNatClampNeg).toNatClampNeg)) ((2 : Int32)).toNatClampNeg, C, rfl, ⟨hT, hF, ⟨hR, (fun A S hA hok hS0 hN => by have i1 : rg (ga (C 6) (x1).toNatClampNeg) 0 15 := (rg_w (lo := 0) (hi := 15) (oh_shown hT0 hR (rg_w (rg_il (rgL_i (rg_il (rnL_leu u_10.2 (rnL_lel u_10.1 (rgL_c (v := 0) (lo := 0) (hi := 0) (by decide)) (rgL_i (rg_any _))) (rgL_c (v := 7) (lo := 7) (hi := 7) (by decide)))))) (by decide)) (rg_in (rg_il (rgL_i (rg_il (rnL_leu u_10.2 (rnL_lel u_10.1 (rgL_c (v := 0) (lo := 0) (hi := 0) (by decide)) (rgL_i (rg_any _))) (rgL_c (v := 7) (lo := 7) (hi := 7) (by decide)))))) (by decide)) c_23) (by decide)); obtain ⟨nr, n1, eg, hl⟩ := sm_b hS0 (sh8 (rg_w (lo := 0) (hi := 7) (rg_il (rgL_i (rg_il (rnL_leu u_10.2 (rnL_lel u_10.1 (rgL_c (v := 0) (lo := 0) (hi := 0) (by decide)) (rgL_i (rg_any _))) (rgL_c (v := 7) (lo := 7) (hi := 7) (by decide)))))) (by decide))) hN i1 c_23; have b0 : ga (C (48 + (ga (C 6) (x1).toNatClampNeg).toNatClampNeg)) ((0 : Int32)).toNatClampNeg = A 1 (ga (C 6) (x1).toNatClampNeg).toNatClampNeg 0 := colM_v (t := 1) hA (by decide) i1 (by decide) hl (by unfold vis; omega); have b1 : ga (C (48 + (ga (C 6) (x1).toNatClampNeg).toNatClampNeg)) ((1 : Int32)).toNatClampNeg = A 1 (ga (C 6) (x1).toNatClampNeg).toNatClampNeg 1 := colM_v (t := 1) hA (by decide) i1 (by decide) hl (by unfold vis; omega); have b2 : ga (C (48 + (ga (C 6) (x1).toNatClampNeg).toNatClampNeg)) ((2 : Int32)).toNatClampNeg = A 1 (ga (C 6) (x1).toNatClampNeg).toNatClampNeg 2 := colM_v (t := 1) hA (by decide) i1 (by decide) hl (by unfold vis; omega); have b3 : ga (C (48 + (ga (C 6) (x1).toNatClampNeg).toNatClampNeg)) ((3 : Int32)).toNatClampNeg = A 1 (ga (C 6) (x1).toNatClampNeg).toNatClampNeg 3 := colM_v (t := 1) hA (by decide) i1 (by decide) hl (by unfold vis; omega); have b4 : ga (C (48 + (ga (C 6) (x1).toNatClampNeg).toNatClampNeg)) ((4 : Int32)).toNatClampNeg = A 1 (ga (C 6) (x1).toNatClampNeg).toNatClampNeg 4 := colM_v (t := 1) hA (by decide) i1 (by decide) hl (by unfold vis; omega); have b5 : ga (C (48 + (ga (C 6) (x1).toNatClampNeg).toNatClampNeg)) ((5 : Int32)).toNatClampNeg = A 1 (ga (C 6) (x1).toNatClampNeg).toNatClampNeg 5 := colM_v (t := 1) hA (by decide) i1 (by decide) hl (by unfold vis; omega); have b6 : ga (C (48 + (ga (C 6) (x1).toNatClampNeg).toNatClampNeg)) ((6 : Int32)).toNatClampNeg = A 1 (ga (C 6) (x1).toNatClampNeg).toNatClampNeg 6 := colM_v (t := 1) hA (by decide) i1 (by decide) hl (by unfold vis; omega); have b7 : ga (C (48 + (ga (C 6) (x1).toNatClampNeg).toNatClampNeg)) ((7 : Int32)).toNatClampNeg = A 1 (ga (C 6) (x1).toNatClampNeg).toNatClampNeg 7 := colM_v (t := 1) hA (by decide) i1 (by decide) hl (by unfold vis; omega); have b8 : ga (C (48 + (ga (C 6) (x1).toNatClampNeg).toNatClampNeg)) ((8 : Int32)).toNatClampNeg = A 1 (ga (C 6) (x1).toNatClampNeg).toNatClampNeg 8 := colM_v (t := 1) hA (by decide) i1 (by decide) hl (by unfold vis; omega); have b9 : ga (C (48 + (ga (C 6) (x1).toNatClampNeg).toNatClampNeg)) ((9 : Int32)).toNatClampNeg = A 1 (ga (C 6) (x1).toNatClampNeg).toNatClampNeg 9 := colM_v (t := 1) hA (by decide) i1 (by decide) hl (by unfold vis; omega); have t := hq_35.2; rw [b1] at t; have bf : ga (C 13) ((2 : Int32)).toNatClampNeg = A 4 0 2 := hA.2.1 2 (by decide); have hv := hok.2.2.2.1 (ga (C 6) (x1).toNatClampNeg).toNatClampNeg (by rw [oh_nat i1 (by decide)]; exact Int32.lt_iff_toInt_lt.mp hl); have hk : (ga (C (48 + (ga (C 6) (x1).toNatClampNeg).toNatClampNeg)) ((1 : Int32)).toNatClampNeg).toInt ≤ 5 := (by rw [b1]; exact hv.2.1.2); have hf : rg (ga (C (48 + (ga (C 6) (x1).toNatClampNeg).toNatClampNeg)) ((8 : Int32)).toNatClampNeg) 0 1 := (by rw [b8]; exact hv.2.2.2.2.2.2.2.2.1); have ye := (t.mp (oh_b1 (rg_w (lo := 0) (hi := 1) (rn_nel (l' := 1) c_36 (oh_rgb hq_35.1) (rg_c (v := 0) (lo := 0) (hi := 0) (by decide)) (by decide)) (by decide)) c_36)); have ev : ga (C (48 + (ga (C 6) (x1).toNatClampNeg).toNatClampNeg)) ((2 : Int32)).toNatClampNeg = spk A (S.1 x1.toNatClampNeg - 10).toNatClampNeg x2 := (by rw [← eg]; exact Eq.trans b2 (Eq.trans (pif_neg (fun h8 => absurd (Eq.trans (Eq.symm c_49) h8) (by decide))) (Eq.trans (pif_neg (fun h7 => h7.elim (fun h8 => absurd (Eq.trans (Eq.symm c_49) h8) (by decide)) (fun h8 => absurd (Eq.trans (Eq.symm c_49) h8) (by decide)))) (pif_pos c_49))).symm); rw [eg] at ye; exact Eq.trans ev (Eq.trans (pif_pos ⟨(oh_rgI (p := 0) (q := 7) (rg_w (lo := 0) (hi := 7) (rg_il (rgL_i (rg_il (rnL_leu u_10.2 (rnL_lel u_10.1 (rgL_c (v := 0) (lo := 0) (hi := 0) (by decide)) (rgL_i (rg_any _))) (rgL_c (v := 7) (lo := 7) (hi := 7) (by decide)))))) (by decide))), (oh_rgI (p := 0) (q := 5) (rg_w (lo := 0) (hi := 5) (rn_eq c_49 (rg_c (v := 3) (lo := 3) (hi := 3) (by decide))) (by decide)))⟩) (Eq.trans (pif_neg nr) (Eq.trans (pif_neg n1) (pif_pos ye)))).symm)⟩⟩, ⟨by rw [ht]; exact hP, hD⟩⟩, hS.F ht⟩) hS.2.2 dX7_says_159
                    · by_cases c_52 : x2 = 4
                      · refine lv_tableIn (off := 58) (tgt := 160) hx hb dX7_says_102 (by rw [c_52]; decide) (by rw [c_52]; decide) (by rw [c_52]; decide) (by decide) ?_
                        refine lv_aload_n hx hb dX7_says_160 rfl (lv_at hl 1 rfl) ?_
                        refine va_get (D := D) (ci := 7) (v := .ref (a 10)) (C := RX7) (T := TX7) (N := 29) hx hb htg ig_7 hown hK hP 0 (oh_wg (Nat.lt_of_lt_of_le (by decide) hn) (sM_0 hT)) rfl 12 (by decide) (htg _ q_985) (fun _ h9 => h9) rfl dX7_says_161 ?_
                        refine lv_iload_n hx hb dX7_says_164 rfl (lv_at hl 0 rfl) ?_
                        have n_53 : vp_in (ga (C 6) (x1).toNatClampNeg) 16 := (rg_in (oh_shown hT0 hR (rg_w (rg_il (rgL_i (rg_il (rnL_leu u_10.2 (rnL_lel u_10.1 (rgL_c (v := 0) (lo := 0) (hi := 0) (by decide)) (rgL_i (rg_any _))) (rgL_c (v := 7) (lo := 7) (hi := 7) (by decide)))))) (by decide)) (rg_in (rg_il (rgL_i (rg_il (rnL_leu u_10.2 (rnL_lel u_10.1 (rgL_c (v := 0) (lo := 0) (hi := 0) (by decide)) (rgL_i (rg_any _))) (rgL_c (v := 7) (lo := 7) (hi := 7) (by decide)))))) (by decide)) c_23) (by decide))
                        have b_54 : (ga (C 6) (x1).toNatClampNeg).toNatClampNeg < 16 := vp_lt n_53
                        refine th_aald hx hb hK hP 10 2 (Nat.lt_of_lt_of_le (by decide) hn) (sM_10 hT) rfl n_53 dX7_says_165 ?_
                        refine lv_bipush (v := 9) hx hb dX7_says_166 (by decide) ?_
                        refine th_iald hx hb hK hP (48 + (ga (C 6) (x1).toNatClampNeg).toNatClampNeg) (lt_blk b_54 hn (by decide)) (hT.bbridge b_54).1 (rg_in (rg_c (v := 9) (lo := 9) (hi := 9) (by decide)) (by decide)) dX7_says_168 ?_
                        rw [hQ]
                        exact W.iret (v := ga (C (48 + (ga (C 6) (x1).toNatClampNeg).toNatClampNeg)) ((9 : Int32)).toNatClampNeg) hx hb hr (fun t ht hW => ⟨⟨ga (C (48 + (ga (C 6) (x1).toNatClampNeg).toNatClampNeg)) ((9 : Int32)).toNatClampNeg, C, rfl, ⟨hT, hF, ⟨hR, (fun A S hA hok hS0 hN => by have i1 : rg (ga (C 6) (x1).toNatClampNeg) 0 15 := (rg_w (lo := 0) (hi := 15) (oh_shown hT0 hR (rg_w (rg_il (rgL_i (rg_il (rnL_leu u_10.2 (rnL_lel u_10.1 (rgL_c (v := 0) (lo := 0) (hi := 0) (by decide)) (rgL_i (rg_any _))) (rgL_c (v := 7) (lo := 7) (hi := 7) (by decide)))))) (by decide)) (rg_in (rg_il (rgL_i (rg_il (rnL_leu u_10.2 (rnL_lel u_10.1 (rgL_c (v := 0) (lo := 0) (hi := 0) (by decide)) (rgL_i (rg_any _))) (rgL_c (v := 7) (lo := 7) (hi := 7) (by decide)))))) (by decide)) c_23) (by decide)); obtain ⟨nr, n1, eg, hl⟩ := sm_b hS0 (sh8 (rg_w (lo := 0) (hi := 7) (rg_il (rgL_i (rg_il (rnL_leu u_10.2 (rnL_lel u_10.1 (rgL_c (v := 0) (lo := 0) (hi := 0) (by decide)) (rgL_i (rg_any _))) (rgL_c (v := 7) (lo := 7) (hi := 7) (by decide)))))) (by decide))) hN i1 c_23; have b0 : ga (C (48 + (ga (C 6) (x1).toNatClampNeg).toNatClampNeg)) ((0 : Int32)).toNatClampNeg = A 1 (ga (C 6) (x1).toNatClampNeg).toNatClampNeg 0 := colM_v (t := 1) hA (by decide) i1 (by decide) hl (by unfold vis; omega); have b1 : ga (C (48 + (ga (C 6) (x1).toNatClampNeg).toNatClampNeg)) ((1 : Int32)).toNatClampNeg = A 1 (ga (C 6) (x1).toNatClampNeg).toNatClampNeg 1 := colM_v (t := 1) hA (by decide) i1 (by decide) hl (by unfold vis; omega); have b2 : ga (C (48 + (ga (C 6) (x1).toNatClampNeg).toNatClampNeg)) ((2 : Int32)).toNatClampNeg = A 1 (ga (C 6) (x1).toNatClampNeg).toNatClampNeg 2 := colM_v (t := 1) hA (by decide) i1 (by decide) hl (by unfold vis; omega); have b3 : ga (C (48 + (ga (C 6) (x1).toNatClampNeg).toNatClampNeg)) ((3 : Int32)).toNatClampNeg = A 1 (ga (C 6) (x1).toNatClampNeg).toNatClampNeg 3 := colM_v (t := 1) hA (by decide) i1 (by decide) hl (by unfold vis; omega); have b4 : ga (C (48 + (ga (C 6) (x1).toNatClampNeg).toNatClampNeg)) ((4 : Int32)).toNatClampNeg = A 1 (ga (C 6) (x1).toNatClampNeg).toNatClampNeg 4 := colM_v (t := 1) hA (by decide) i1 (by decide) hl (by unfold vis; omega); have b5 : ga (C (48 + (ga (C 6) (x1).toNatClampNeg).toNatClampNeg)) ((5 : Int32)).toNatClampNeg = A 1 (ga (C 6) (x1).toNatClampNeg).toNatClampNeg 5 := colM_v (t := 1) hA (by decide) i1 (by decide) hl (by unfold vis; omega); have b6 : ga (C (48 + (ga (C 6) (x1).toNatClampNeg).toNatClampNeg)) ((6 : Int32)).toNatClampNeg = A 1 (ga (C 6) (x1).toNatClampNeg).toNatClampNeg 6 := colM_v (t := 1) hA (by decide) i1 (by decide) hl (by unfold vis; omega); have b7 : ga (C (48 + (ga (C 6) (x1).toNatClampNeg).toNatClampNeg)) ((7 : Int32)).toNatClampNeg = A 1 (ga (C 6) (x1).toNatClampNeg).toNatClampNeg 7 := colM_v (t := 1) hA (by decide) i1 (by decide) hl (by unfold vis; omega); have b8 : ga (C (48 + (ga (C 6) (x1).toNatClampNeg).toNatClampNeg)) ((8 : Int32)).toNatClampNeg = A 1 (ga (C 6) (x1).toNatClampNeg).toNatClampNeg 8 := colM_v (t := 1) hA (by decide) i1 (by decide) hl (by unfold vis; omega); have b9 : ga (C (48 + (ga (C 6) (x1).toNatClampNeg).toNatClampNeg)) ((9 : Int32)).toNatClampNeg = A 1 (ga (C 6) (x1).toNatClampNeg).toNatClampNeg 9 := colM_v (t := 1) hA (by decide) i1 (by decide) hl (by unfold vis; omega); have t := hq_35.2; rw [b1] at t; have bf : ga (C 13) ((2 : Int32)).toNatClampNeg = A 4 0 2 := hA.2.1 2 (by decide); have hv := hok.2.2.2.1 (ga (C 6) (x1).toNatClampNeg).toNatClampNeg (by rw [oh_nat i1 (by decide)]; exact Int32.lt_iff_toInt_lt.mp hl); have hk : (ga (C (48 + (ga (C 6) (x1).toNatClampNeg).toNatClampNeg)) ((1 : Int32)).toNatClampNeg).toInt ≤ 5 := (by rw [b1]; exact hv.2.1.2); have hf : rg (ga (C (48 + (ga (C 6) (x1).toNatClampNeg).toNatClampNeg)) ((8 : Int32)).toNatClampNeg) 0 1 := (by rw [b8]; exact hv.2.2.2.2.2.2.2.2.1); have ye := (t.mp (oh_b1 (rg_w (lo := 0) (hi := 1) (rn_nel (l' := 1) c_36 (oh_rgb hq_35.1) (rg_c (v := 0) (lo := 0) (hi := 0) (by decide)) (by decide)) (by decide)) c_36)); have ev : ga (C (48 + (ga (C 6) (x1).toNatClampNeg).toNatClampNeg)) ((9 : Int32)).toNatClampNeg = spk A (S.1 x1.toNatClampNeg - 10).toNatClampNeg x2 := (by rw [← eg]; exact Eq.trans b9 (Eq.trans (pif_neg (fun h8 => absurd (Eq.trans (Eq.symm c_52) h8) (by decide))) (Eq.trans (pif_neg (fun h7 => h7.elim (fun h8 => absurd (Eq.trans (Eq.symm c_52) h8) (by decide)) (fun h8 => absurd (Eq.trans (Eq.symm c_52) h8) (by decide)))) (Eq.trans (pif_neg (fun h8 => absurd (Eq.trans (Eq.symm c_52) h8) (by decide))) (pif_pos c_52)))).symm); rw [eg] at ye; exact Eq.trans ev (Eq.trans (pif_pos ⟨(oh_rgI (p := 0) (q := 7) (rg_w (lo := 0) (hi := 7) (rg_il (rgL_i (rg_il (rnL_leu u_10.2 (rnL_lel u_10.1 (rgL_c (v := 0) (lo := 0) (hi := 0) (by decide)) (rgL_i (rg_any _))) (rgL_c (v := 7) (lo := 7) (hi := 7) (by decide)))))) (by decide))), (oh_rgI (p := 0) (q := 5) (rg_w (lo := 0) (hi := 5) (rn_eq c_52 (rg_c (v := 4) (lo := 4) (hi := 4) (by decide))) (by decide)))⟩) (Eq.trans (pif_neg nr) (Eq.trans (pif_neg n1) (pif_pos ye)))).symm)⟩⟩, ⟨by rw [ht]; exact hP, hD⟩⟩, hS.F ht⟩) hS.2.2 dX7_says_169
                      · refine lv_tableOut (tgt := 170) hx hb dX7_says_102 (by have h9 := And.intro (oh_ne c_40 (k := 0) (by decide)) (And.intro (oh_ne c_43 (k := 1) (by decide)) (And.intro (oh_ne c_46 (k := 2) (by decide)) (And.intro (oh_ne c_49 (k := 3) (by decide)) (And.intro (oh_ne c_52 (k := 4) (by decide)) trivial)))); omega) (by decide) ?_
                        refine lv_aload_n hx hb dX7_says_170 rfl (lv_at hl 1 rfl) ?_
                        refine lv_iload_n hx hb dX7_says_171 rfl (lv_at hl 0 rfl) ?_
                        refine lv_aload_n hx hb dX7_says_172 rfl (lv_at hl 1 rfl) ?_
                        refine va_get (D := D) (ci := 7) (v := .ref (a 10)) (C := RX7) (T := TX7) (N := 29) hx hb htg ig_7 hown hK hP 0 (oh_wg (Nat.lt_of_lt_of_le (by decide) hn) (sM_0 hT)) rfl 12 (by decide) (htg _ q_985) (fun _ h9 => h9) rfl dX7_says_173 ?_
                        refine lv_iload_n hx hb dX7_says_176 rfl (lv_at hl 0 rfl) ?_
                        have n_55 : vp_in (ga (C 6) (x1).toNatClampNeg) 16 := (rg_in (oh_shown hT0 hR (rg_w (rg_il (rgL_i (rg_il (rnL_leu u_10.2 (rnL_lel u_10.1 (rgL_c (v := 0) (lo := 0) (hi := 0) (by decide)) (rgL_i (rg_any _))) (rgL_c (v := 7) (lo := 7) (hi := 7) (by decide)))))) (by decide)) (rg_in (rg_il (rgL_i (rg_il (rnL_leu u_10.2 (rnL_lel u_10.1 (rgL_c (v := 0) (lo := 0) (hi := 0) (by decide)) (rgL_i (rg_any _))) (rgL_c (v := 7) (lo := 7) (hi := 7) (by decide)))))) (by decide)) c_23) (by decide))
                        have b_56 : (ga (C 6) (x1).toNatClampNeg).toNatClampNeg < 16 := vp_lt n_55
                        refine th_aald hx hb hK hP 10 2 (Nat.lt_of_lt_of_le (by decide) hn) (sM_10 hT) rfl n_55 dX7_says_177 ?_
                        refine lv_bipush (v := 7) hx hb dX7_says_178 (by decide) ?_
                        refine th_iald hx hb hK hP (48 + (ga (C 6) (x1).toNatClampNeg).toNatClampNeg) (lt_blk b_56 hn (by decide)) (hT.bbridge b_56).1 (rg_in (rg_c (v := 7) (lo := 7) (hi := 7) (by decide)) (by decide)) dX7_says_180 ?_
                        refine lv_iconst (v := 1) hx hb dX7_says_181 (by decide) ?_
                        refine lv_icmp_ne (tgt := 189) hx hb dX7_says_182 (by decide) (fun (c_57 : ¬ ((ga (C (48 + (ga (C 6) (x1).toNatClampNeg).toNatClampNeg)) ((7 : Int32)).toNatClampNeg) = 1)) => ?_) (fun (c_57 : (ga (C (48 + (ga (C 6) (x1).toNatClampNeg).toNatClampNeg)) ((7 : Int32)).toNatClampNeg) = 1) => ?_)
                        · refine lv_iconst (v := 0) hx hb dX7_says_189 (by decide) ?_
                          refine tq_V (As := [.int (ga (C 6) (x1).toNatClampNeg), .int 0]) (rest := []) (ws := (oh_W n a C)) ⟨hx, hb, hml, hown, htg⟩ (e_X7_allOf l D E G a C n hn hT (ga (C 6) (x1).toNatClampNeg) (0 : Int32) (rg_w (oh_shown hT0 hR (rg_w (rg_il (rgL_i (rg_il (rnL_leu u_10.2 (rnL_lel u_10.1 (rgL_c (v := 0) (lo := 0) (hi := 0) (by decide)) (rgL_i (rg_any _))) (rgL_c (v := 7) (lo := 7) (hi := 7) (by decide)))))) (by decide)) (rg_in (rg_il (rgL_i (rg_il (rnL_leu u_10.2 (rnL_lel u_10.1 (rgL_c (v := 0) (lo := 0) (hi := 0) (by decide)) (rgL_i (rg_any _))) (rgL_c (v := 7) (lo := 7) (hi := 7) (by decide)))))) (by decide)) c_23) (by decide)) (rg_w (rg_c (v := 0) (lo := 0) (hi := 0) (by decide)) (by decide))) (cwV 2 htg (oh_gV q_1122 q_1124 q_34 q_73 q_1125) rfl rfl rfl pdVX7_allOf ⟨Nat.le_of_ble_eq_true rfl, Nat.le_of_ble_eq_true rfl⟩) hK hP hG hS (va_recv hK hP (ci := 7) (q0 := 0) rfl (oh_wg (Nat.lt_of_lt_of_le (by decide) hn) (sM_0 hT))) rfl hl.1 rfl (Nat.le_of_ble_eq_true rfl) dX7_says_190 ⟨Nat.le_of_ble_eq_true rfl, Nat.le_of_ble_eq_true rfl⟩ (fun r_58 hq_59 => ?_)
                          rw [hQ]
                          exact W.iret (v := r_58) hx hb hr (fun t ht hW => ⟨⟨r_58, C, rfl, ⟨hT, hF, ⟨hR, (fun A S hA hok hS0 hN => by have i1 : rg (ga (C 6) (x1).toNatClampNeg) 0 15 := (rg_w (lo := 0) (hi := 15) (oh_shown hT0 hR (rg_w (rg_il (rgL_i (rg_il (rnL_leu u_10.2 (rnL_lel u_10.1 (rgL_c (v := 0) (lo := 0) (hi := 0) (by decide)) (rgL_i (rg_any _))) (rgL_c (v := 7) (lo := 7) (hi := 7) (by decide)))))) (by decide)) (rg_in (rg_il (rgL_i (rg_il (rnL_leu u_10.2 (rnL_lel u_10.1 (rgL_c (v := 0) (lo := 0) (hi := 0) (by decide)) (rgL_i (rg_any _))) (rgL_c (v := 7) (lo := 7) (hi := 7) (by decide)))))) (by decide)) c_23) (by decide)); obtain ⟨nr, n1, eg, hl⟩ := sm_b hS0 (sh8 (rg_w (lo := 0) (hi := 7) (rg_il (rgL_i (rg_il (rnL_leu u_10.2 (rnL_lel u_10.1 (rgL_c (v := 0) (lo := 0) (hi := 0) (by decide)) (rgL_i (rg_any _))) (rgL_c (v := 7) (lo := 7) (hi := 7) (by decide)))))) (by decide))) hN i1 c_23; have b0 : ga (C (48 + (ga (C 6) (x1).toNatClampNeg).toNatClampNeg)) ((0 : Int32)).toNatClampNeg = A 1 (ga (C 6) (x1).toNatClampNeg).toNatClampNeg 0 := colM_v (t := 1) hA (by decide) i1 (by decide) hl (by unfold vis; omega); have b1 : ga (C (48 + (ga (C 6) (x1).toNatClampNeg).toNatClampNeg)) ((1 : Int32)).toNatClampNeg = A 1 (ga (C 6) (x1).toNatClampNeg).toNatClampNeg 1 := colM_v (t := 1) hA (by decide) i1 (by decide) hl (by unfold vis; omega); have b2 : ga (C (48 + (ga (C 6) (x1).toNatClampNeg).toNatClampNeg)) ((2 : Int32)).toNatClampNeg = A 1 (ga (C 6) (x1).toNatClampNeg).toNatClampNeg 2 := colM_v (t := 1) hA (by decide) i1 (by decide) hl (by unfold vis; omega); have b3 : ga (C (48 + (ga (C 6) (x1).toNatClampNeg).toNatClampNeg)) ((3 : Int32)).toNatClampNeg = A 1 (ga (C 6) (x1).toNatClampNeg).toNatClampNeg 3 := colM_v (t := 1) hA (by decide) i1 (by decide) hl (by unfold vis; omega); have b4 : ga (C (48 + (ga (C 6) (x1).toNatClampNeg).toNatClampNeg)) ((4 : Int32)).toNatClampNeg = A 1 (ga (C 6) (x1).toNatClampNeg).toNatClampNeg 4 := colM_v (t := 1) hA (by decide) i1 (by decide) hl (by unfold vis; omega); have b5 : ga (C (48 + (ga (C 6) (x1).toNatClampNeg).toNatClampNeg)) ((5 : Int32)).toNatClampNeg = A 1 (ga (C 6) (x1).toNatClampNeg).toNatClampNeg 5 := colM_v (t := 1) hA (by decide) i1 (by decide) hl (by unfold vis; omega); have b6 : ga (C (48 + (ga (C 6) (x1).toNatClampNeg).toNatClampNeg)) ((6 : Int32)).toNatClampNeg = A 1 (ga (C 6) (x1).toNatClampNeg).toNatClampNeg 6 := colM_v (t := 1) hA (by decide) i1 (by decide) hl (by unfold vis; omega); have b7 : ga (C (48 + (ga (C 6) (x1).toNatClampNeg).toNatClampNeg)) ((7 : Int32)).toNatClampNeg = A 1 (ga (C 6) (x1).toNatClampNeg).toNatClampNeg 7 := colM_v (t := 1) hA (by decide) i1 (by decide) hl (by unfold vis; omega); have b8 : ga (C (48 + (ga (C 6) (x1).toNatClampNeg).toNatClampNeg)) ((8 : Int32)).toNatClampNeg = A 1 (ga (C 6) (x1).toNatClampNeg).toNatClampNeg 8 := colM_v (t := 1) hA (by decide) i1 (by decide) hl (by unfold vis; omega); have b9 : ga (C (48 + (ga (C 6) (x1).toNatClampNeg).toNatClampNeg)) ((9 : Int32)).toNatClampNeg = A 1 (ga (C 6) (x1).toNatClampNeg).toNatClampNeg 9 := colM_v (t := 1) hA (by decide) i1 (by decide) hl (by unfold vis; omega); have t := hq_35.2; rw [b1] at t; have bf : ga (C 13) ((2 : Int32)).toNatClampNeg = A 4 0 2 := hA.2.1 2 (by decide); have hv := hok.2.2.2.1 (ga (C 6) (x1).toNatClampNeg).toNatClampNeg (by rw [oh_nat i1 (by decide)]; exact Int32.lt_iff_toInt_lt.mp hl); have hk : (ga (C (48 + (ga (C 6) (x1).toNatClampNeg).toNatClampNeg)) ((1 : Int32)).toNatClampNeg).toInt ≤ 5 := (by rw [b1]; exact hv.2.1.2); have hf : rg (ga (C (48 + (ga (C 6) (x1).toNatClampNeg).toNatClampNeg)) ((8 : Int32)).toNatClampNeg) 0 1 := (by rw [b8]; exact hv.2.2.2.2.2.2.2.2.1); have ye := (t.mp (oh_b1 (rg_w (lo := 0) (hi := 1) (rn_nel (l' := 1) c_36 (oh_rgb hq_35.1) (rg_c (v := 0) (lo := 0) (hi := 0) (by decide)) (by decide)) (by decide)) c_36)); have ev : r_58 = spk A (S.1 x1.toNatClampNeg - 10).toNatClampNeg x2 := (by rw [← eg]; exact Eq.trans (by rw [hq_59 hk hf, bAlF_c (Q := ga (C (48 + (ga (C 6) (x1).toNatClampNeg).toNatClampNeg)) ((7 : Int32)).toNatClampNeg = 1) ⟨fun h8 => absurd h8 (by decide), fun h8 => absurd h8 c_57⟩, b1, b4, b5, b7, b8, b9, bf]; rfl) (Eq.trans (pif_neg c_40) (Eq.trans (pif_neg (fun h7 => h7.elim c_43 c_46)) (Eq.trans (pif_neg c_49) (pif_neg c_52)))).symm); rw [eg] at ye; exact Eq.trans ev (Eq.trans (pif_pos ⟨(oh_rgI (p := 0) (q := 7) (rg_w (lo := 0) (hi := 7) (rg_il (rgL_i (rg_il (rnL_leu u_10.2 (rnL_lel u_10.1 (rgL_c (v := 0) (lo := 0) (hi := 0) (by decide)) (rgL_i (rg_any _))) (rgL_c (v := 7) (lo := 7) (hi := 7) (by decide)))))) (by decide))), (oh_rgI (p := 0) (q := 5) (rg_w (lo := 0) (hi := 5) (rg_il (rgL_i (rg_il (rnL_leu u_14.2 (rnL_lel u_14.1 (rgL_c (v := 0) (lo := 0) (hi := 0) (by decide)) (rgL_i (rg_any _))) (rgL_c (v := 5) (lo := 5) (hi := 5) (by decide)))))) (by decide)))⟩) (Eq.trans (pif_neg nr) (Eq.trans (pif_neg n1) (pif_pos ye)))).symm)⟩⟩, ⟨by rw [ht]; exact hP, hD⟩⟩, hS.F ht⟩) hS.2.2 dX7_says_193
                        · refine lv_iconst (v := 1) hx hb dX7_says_185 (by decide) ?_
                          refine lv_goto (tgt := 190) hx hb dX7_says_186 (by decide) ?_
                          refine tq_V (As := [.int (ga (C 6) (x1).toNatClampNeg), .int 1]) (rest := []) (ws := (oh_W n a C)) ⟨hx, hb, hml, hown, htg⟩ (e_X7_allOf l D E G a C n hn hT (ga (C 6) (x1).toNatClampNeg) (1 : Int32) (rg_w (oh_shown hT0 hR (rg_w (rg_il (rgL_i (rg_il (rnL_leu u_10.2 (rnL_lel u_10.1 (rgL_c (v := 0) (lo := 0) (hi := 0) (by decide)) (rgL_i (rg_any _))) (rgL_c (v := 7) (lo := 7) (hi := 7) (by decide)))))) (by decide)) (rg_in (rg_il (rgL_i (rg_il (rnL_leu u_10.2 (rnL_lel u_10.1 (rgL_c (v := 0) (lo := 0) (hi := 0) (by decide)) (rgL_i (rg_any _))) (rgL_c (v := 7) (lo := 7) (hi := 7) (by decide)))))) (by decide)) c_23) (by decide)) (rg_w (rg_c (v := 1) (lo := 1) (hi := 1) (by decide)) (by decide))) (cwV 2 htg (oh_gV q_1122 q_1124 q_34 q_73 q_1125) rfl rfl rfl pdVX7_allOf ⟨Nat.le_of_ble_eq_true rfl, Nat.le_of_ble_eq_true rfl⟩) hK hP hG hS (va_recv hK hP (ci := 7) (q0 := 0) rfl (oh_wg (Nat.lt_of_lt_of_le (by decide) hn) (sM_0 hT))) rfl hl.1 rfl (Nat.le_of_ble_eq_true rfl) dX7_says_190 ⟨Nat.le_of_ble_eq_true rfl, Nat.le_of_ble_eq_true rfl⟩ (fun r_60 hq_61 => ?_)
                          rw [hQ]
                          exact W.iret (v := r_60) hx hb hr (fun t ht hW => ⟨⟨r_60, C, rfl, ⟨hT, hF, ⟨hR, (fun A S hA hok hS0 hN => by have i1 : rg (ga (C 6) (x1).toNatClampNeg) 0 15 := (rg_w (lo := 0) (hi := 15) (oh_shown hT0 hR (rg_w (rg_il (rgL_i (rg_il (rnL_leu u_10.2 (rnL_lel u_10.1 (rgL_c (v := 0) (lo := 0) (hi := 0) (by decide)) (rgL_i (rg_any _))) (rgL_c (v := 7) (lo := 7) (hi := 7) (by decide)))))) (by decide)) (rg_in (rg_il (rgL_i (rg_il (rnL_leu u_10.2 (rnL_lel u_10.1 (rgL_c (v := 0) (lo := 0) (hi := 0) (by decide)) (rgL_i (rg_any _))) (rgL_c (v := 7) (lo := 7) (hi := 7) (by decide)))))) (by decide)) c_23) (by decide)); obtain ⟨nr, n1, eg, hl⟩ := sm_b hS0 (sh8 (rg_w (lo := 0) (hi := 7) (rg_il (rgL_i (rg_il (rnL_leu u_10.2 (rnL_lel u_10.1 (rgL_c (v := 0) (lo := 0) (hi := 0) (by decide)) (rgL_i (rg_any _))) (rgL_c (v := 7) (lo := 7) (hi := 7) (by decide)))))) (by decide))) hN i1 c_23; have b0 : ga (C (48 + (ga (C 6) (x1).toNatClampNeg).toNatClampNeg)) ((0 : Int32)).toNatClampNeg = A 1 (ga (C 6) (x1).toNatClampNeg).toNatClampNeg 0 := colM_v (t := 1) hA (by decide) i1 (by decide) hl (by unfold vis; omega); have b1 : ga (C (48 + (ga (C 6) (x1).toNatClampNeg).toNatClampNeg)) ((1 : Int32)).toNatClampNeg = A 1 (ga (C 6) (x1).toNatClampNeg).toNatClampNeg 1 := colM_v (t := 1) hA (by decide) i1 (by decide) hl (by unfold vis; omega); have b2 : ga (C (48 + (ga (C 6) (x1).toNatClampNeg).toNatClampNeg)) ((2 : Int32)).toNatClampNeg = A 1 (ga (C 6) (x1).toNatClampNeg).toNatClampNeg 2 := colM_v (t := 1) hA (by decide) i1 (by decide) hl (by unfold vis; omega); have b3 : ga (C (48 + (ga (C 6) (x1).toNatClampNeg).toNatClampNeg)) ((3 : Int32)).toNatClampNeg = A 1 (ga (C 6) (x1).toNatClampNeg).toNatClampNeg 3 := colM_v (t := 1) hA (by decide) i1 (by decide) hl (by unfold vis; omega); have b4 : ga (C (48 + (ga (C 6) (x1).toNatClampNeg).toNatClampNeg)) ((4 : Int32)).toNatClampNeg = A 1 (ga (C 6) (x1).toNatClampNeg).toNatClampNeg 4 := colM_v (t := 1) hA (by decide) i1 (by decide) hl (by unfold vis; omega); have b5 : ga (C (48 + (ga (C 6) (x1).toNatClampNeg).toNatClampNeg)) ((5 : Int32)).toNatClampNeg = A 1 (ga (C 6) (x1).toNatClampNeg).toNatClampNeg 5 := colM_v (t := 1) hA (by decide) i1 (by decide) hl (by unfold vis; omega); have b6 : ga (C (48 + (ga (C 6) (x1).toNatClampNeg).toNatClampNeg)) ((6 : Int32)).toNatClampNeg = A 1 (ga (C 6) (x1).toNatClampNeg).toNatClampNeg 6 := colM_v (t := 1) hA (by decide) i1 (by decide) hl (by unfold vis; omega); have b7 : ga (C (48 + (ga (C 6) (x1).toNatClampNeg).toNatClampNeg)) ((7 : Int32)).toNatClampNeg = A 1 (ga (C 6) (x1).toNatClampNeg).toNatClampNeg 7 := colM_v (t := 1) hA (by decide) i1 (by decide) hl (by unfold vis; omega); have b8 : ga (C (48 + (ga (C 6) (x1).toNatClampNeg).toNatClampNeg)) ((8 : Int32)).toNatClampNeg = A 1 (ga (C 6) (x1).toNatClampNeg).toNatClampNeg 8 := colM_v (t := 1) hA (by decide) i1 (by decide) hl (by unfold vis; omega); have b9 : ga (C (48 + (ga (C 6) (x1).toNatClampNeg).toNatClampNeg)) ((9 : Int32)).toNatClampNeg = A 1 (ga (C 6) (x1).toNatClampNeg).toNatClampNeg 9 := colM_v (t := 1) hA (by decide) i1 (by decide) hl (by unfold vis; omega); have t := hq_35.2; rw [b1] at t; have bf : ga (C 13) ((2 : Int32)).toNatClampNeg = A 4 0 2 := hA.2.1 2 (by decide); have hv := hok.2.2.2.1 (ga (C 6) (x1).toNatClampNeg).toNatClampNeg (by rw [oh_nat i1 (by decide)]; exact Int32.lt_iff_toInt_lt.mp hl); have hk : (ga (C (48 + (ga (C 6) (x1).toNatClampNeg).toNatClampNeg)) ((1 : Int32)).toNatClampNeg).toInt ≤ 5 := (by rw [b1]; exact hv.2.1.2); have hf : rg (ga (C (48 + (ga (C 6) (x1).toNatClampNeg).toNatClampNeg)) ((8 : Int32)).toNatClampNeg) 0 1 := (by rw [b8]; exact hv.2.2.2.2.2.2.2.2.1); have ye := (t.mp (oh_b1 (rg_w (lo := 0) (hi := 1) (rn_nel (l' := 1) c_36 (oh_rgb hq_35.1) (rg_c (v := 0) (lo := 0) (hi := 0) (by decide)) (by decide)) (by decide)) c_36)); have ev : r_60 = spk A (S.1 x1.toNatClampNeg - 10).toNatClampNeg x2 := (by rw [← eg]; exact Eq.trans (by rw [hq_61 hk hf, bAlF_c (Q := ga (C (48 + (ga (C 6) (x1).toNatClampNeg).toNatClampNeg)) ((7 : Int32)).toNatClampNeg = 1) ⟨fun _ => c_57, fun _ => rfl⟩, b1, b4, b5, b7, b8, b9, bf]; rfl) (Eq.trans (pif_neg c_40) (Eq.trans (pif_neg (fun h7 => h7.elim c_43 c_46)) (Eq.trans (pif_neg c_49) (pif_neg c_52)))).symm); rw [eg] at ye; exact Eq.trans ev (Eq.trans (pif_pos ⟨(oh_rgI (p := 0) (q := 7) (rg_w (lo := 0) (hi := 7) (rg_il (rgL_i (rg_il (rnL_leu u_10.2 (rnL_lel u_10.1 (rgL_c (v := 0) (lo := 0) (hi := 0) (by decide)) (rgL_i (rg_any _))) (rgL_c (v := 7) (lo := 7) (hi := 7) (by decide)))))) (by decide))), (oh_rgI (p := 0) (q := 5) (rg_w (lo := 0) (hi := 5) (rg_il (rgL_i (rg_il (rnL_leu u_14.2 (rnL_lel u_14.1 (rgL_c (v := 0) (lo := 0) (hi := 0) (by decide)) (rgL_i (rg_any _))) (rgL_c (v := 5) (lo := 5) (hi := 5) (by decide)))))) (by decide)))⟩) (Eq.trans (pif_neg nr) (Eq.trans (pif_neg n1) (pif_pos ye)))).symm)⟩⟩, ⟨by rw [ht]; exact hP, hD⟩⟩, hS.F ht⟩) hS.2.2 dX7_says_193
            · refine lv_aload_n hx hb dX7_says_87 rfl (lv_at hl 0 rfl) ?_
              refine lv_bipush (v := (-4)) hx hb dX7_says_88 (by decide) ?_
              refine tm_V (As := [.int (-4)]) (rest := []) ⟨hx, hb, hml, hown, htg⟩ (c_X7_refuse l D E G _ a C n hn hT ((-4) : Int32) (rg_w (rg_c (v := (-4)) (lo := (-4)) (hi := (-4)) (by decide)) (by decide))) (cwV 1 htg (oh_gV q_1071 q_1073 q_29 q_73 q_1074) rfl rfl rfl pdVX7_refuse ⟨Nat.le_of_ble_eq_true rfl, Nat.le_of_ble_eq_true rfl⟩) hK hP hD hG hS hA (va_recv hK hP (ci := 7) (q0 := 0) rfl (oh_wg (Nat.lt_of_lt_of_le (by decide) hn) (sM_0 hT))) rfl hl.1 rfl (Nat.le_of_ble_eq_true rfl) dX7_says_90 ⟨Nat.le_of_ble_eq_true rfl, Nat.le_of_ble_eq_true rfl⟩ (fun r_62 C_63 H locs hq_64 hP hD hS => ?_)
              obtain ⟨hT, f_65, hq_64⟩ := hq_64
              have hF := fr_tr hF f_65 (by decide) (by decide)
              refine W.widen (k := 0) (n := 0) (Nat.le_refl _) (Nat.le_refl _) ?_
              have t_66 := hT
              rw [hQ]
              exact W.iret (v := r_62) hx hb hr (fun t ht hW => ⟨⟨r_62, C_63, rfl, ⟨hT, hF, ⟨⟨hR.1.fr hF (by decide), hR.2.fr hF (by decide)⟩, (fun A S hA hok hS0 hN => by have e := (hm_k hS0 (sh8 (rg_w (lo := 0) (hi := 7) (rg_il (rgL_i (rg_il (rnL_leu u_10.2 (rnL_lel u_10.1 (rgL_c (v := 0) (lo := 0) (hi := 0) (by decide)) (rgL_i (rg_any _))) (rgL_c (v := 7) (lo := 7) (hi := 7) (by decide)))))) (by decide)))).1.mp c_38; exact Eq.trans hq_64 (Eq.trans (pif_pos ⟨(oh_rgI (p := 0) (q := 7) (rg_w (lo := 0) (hi := 7) (rg_il (rgL_i (rg_il (rnL_leu u_10.2 (rnL_lel u_10.1 (rgL_c (v := 0) (lo := 0) (hi := 0) (by decide)) (rgL_i (rg_any _))) (rgL_c (v := 7) (lo := 7) (hi := 7) (by decide)))))) (by decide))), (oh_rgI (p := 0) (q := 5) (rg_w (lo := 0) (hi := 5) (rg_il (rgL_i (rg_il (rnL_leu u_14.2 (rnL_lel u_14.1 (rgL_c (v := 0) (lo := 0) (hi := 0) (by decide)) (rgL_i (rg_any _))) (rgL_c (v := 5) (lo := 5) (hi := 5) (by decide)))))) (by decide)))⟩) (Eq.trans (pif_neg (rowH_n e)) (pif_pos e))).symm)⟩⟩, ⟨by rw [ht]; exact hP, hD⟩⟩, hS.F ht⟩) hS.2.2 dX7_says_93
          · refine lv_aload_n hx hb dX7_says_71 rfl (lv_at hl 0 rfl) ?_
            refine lv_bipush (v := (-3)) hx hb dX7_says_72 (by decide) ?_
            refine tm_V (As := [.int (-3)]) (rest := []) ⟨hx, hb, hml, hown, htg⟩ (c_X7_refuse l D E G _ a C n hn hT ((-3) : Int32) (rg_w (rg_c (v := (-3)) (lo := (-3)) (hi := (-3)) (by decide)) (by decide))) (cwV 1 htg (oh_gV q_1071 q_1073 q_29 q_73 q_1074) rfl rfl rfl pdVX7_refuse ⟨Nat.le_of_ble_eq_true rfl, Nat.le_of_ble_eq_true rfl⟩) hK hP hD hG hS hA (va_recv hK hP (ci := 7) (q0 := 0) rfl (oh_wg (Nat.lt_of_lt_of_le (by decide) hn) (sM_0 hT))) rfl hl.1 rfl (Nat.le_of_ble_eq_true rfl) dX7_says_74 ⟨Nat.le_of_ble_eq_true rfl, Nat.le_of_ble_eq_true rfl⟩ (fun r_67 C_68 H locs hq_69 hP hD hS => ?_)
            obtain ⟨hT, f_70, hq_69⟩ := hq_69
            have hF := fr_tr hF f_70 (by decide) (by decide)
            refine W.widen (k := 0) (n := 0) (Nat.le_refl _) (Nat.le_refl _) ?_
            have t_71 := hT
            rw [hQ]
            exact W.iret (v := r_67) hx hb hr (fun t ht hW => ⟨⟨r_67, C_68, rfl, ⟨hT, hF, ⟨⟨hR.1.fr hF (by decide), hR.2.fr hF (by decide)⟩, (fun A S hA hok hS0 hN => by have i1 : rg (ga (C 6) (x1).toNatClampNeg) 0 15 := (rg_w (lo := 0) (hi := 15) (oh_shown hT0 hR (rg_w (rg_il (rgL_i (rg_il (rnL_leu u_10.2 (rnL_lel u_10.1 (rgL_c (v := 0) (lo := 0) (hi := 0) (by decide)) (rgL_i (rg_any _))) (rgL_c (v := 7) (lo := 7) (hi := 7) (by decide)))))) (by decide)) (rg_in (rg_il (rgL_i (rg_il (rnL_leu u_10.2 (rnL_lel u_10.1 (rgL_c (v := 0) (lo := 0) (hi := 0) (by decide)) (rgL_i (rg_any _))) (rgL_c (v := 7) (lo := 7) (hi := 7) (by decide)))))) (by decide)) c_23) (by decide)); obtain ⟨nr, n1, eg, hl⟩ := sm_b hS0 (sh8 (rg_w (lo := 0) (hi := 7) (rg_il (rgL_i (rg_il (rnL_leu u_10.2 (rnL_lel u_10.1 (rgL_c (v := 0) (lo := 0) (hi := 0) (by decide)) (rgL_i (rg_any _))) (rgL_c (v := 7) (lo := 7) (hi := 7) (by decide)))))) (by decide))) hN i1 c_23; have b0 : ga (C (48 + (ga (C 6) (x1).toNatClampNeg).toNatClampNeg)) ((0 : Int32)).toNatClampNeg = A 1 (ga (C 6) (x1).toNatClampNeg).toNatClampNeg 0 := colM_v (t := 1) hA (by decide) i1 (by decide) hl (by unfold vis; omega); have b1 : ga (C (48 + (ga (C 6) (x1).toNatClampNeg).toNatClampNeg)) ((1 : Int32)).toNatClampNeg = A 1 (ga (C 6) (x1).toNatClampNeg).toNatClampNeg 1 := colM_v (t := 1) hA (by decide) i1 (by decide) hl (by unfold vis; omega); have b2 : ga (C (48 + (ga (C 6) (x1).toNatClampNeg).toNatClampNeg)) ((2 : Int32)).toNatClampNeg = A 1 (ga (C 6) (x1).toNatClampNeg).toNatClampNeg 2 := colM_v (t := 1) hA (by decide) i1 (by decide) hl (by unfold vis; omega); have b3 : ga (C (48 + (ga (C 6) (x1).toNatClampNeg).toNatClampNeg)) ((3 : Int32)).toNatClampNeg = A 1 (ga (C 6) (x1).toNatClampNeg).toNatClampNeg 3 := colM_v (t := 1) hA (by decide) i1 (by decide) hl (by unfold vis; omega); have b4 : ga (C (48 + (ga (C 6) (x1).toNatClampNeg).toNatClampNeg)) ((4 : Int32)).toNatClampNeg = A 1 (ga (C 6) (x1).toNatClampNeg).toNatClampNeg 4 := colM_v (t := 1) hA (by decide) i1 (by decide) hl (by unfold vis; omega); have b5 : ga (C (48 + (ga (C 6) (x1).toNatClampNeg).toNatClampNeg)) ((5 : Int32)).toNatClampNeg = A 1 (ga (C 6) (x1).toNatClampNeg).toNatClampNeg 5 := colM_v (t := 1) hA (by decide) i1 (by decide) hl (by unfold vis; omega); have b6 : ga (C (48 + (ga (C 6) (x1).toNatClampNeg).toNatClampNeg)) ((6 : Int32)).toNatClampNeg = A 1 (ga (C 6) (x1).toNatClampNeg).toNatClampNeg 6 := colM_v (t := 1) hA (by decide) i1 (by decide) hl (by unfold vis; omega); have b7 : ga (C (48 + (ga (C 6) (x1).toNatClampNeg).toNatClampNeg)) ((7 : Int32)).toNatClampNeg = A 1 (ga (C 6) (x1).toNatClampNeg).toNatClampNeg 7 := colM_v (t := 1) hA (by decide) i1 (by decide) hl (by unfold vis; omega); have b8 : ga (C (48 + (ga (C 6) (x1).toNatClampNeg).toNatClampNeg)) ((8 : Int32)).toNatClampNeg = A 1 (ga (C 6) (x1).toNatClampNeg).toNatClampNeg 8 := colM_v (t := 1) hA (by decide) i1 (by decide) hl (by unfold vis; omega); have b9 : ga (C (48 + (ga (C 6) (x1).toNatClampNeg).toNatClampNeg)) ((9 : Int32)).toNatClampNeg = A 1 (ga (C 6) (x1).toNatClampNeg).toNatClampNeg 9 := colM_v (t := 1) hA (by decide) i1 (by decide) hl (by unfold vis; omega); have t := hq_35.2; rw [b1] at t; have no : ¬ isU (A 1 (ga (C 6) (x1).toNatClampNeg).toNatClampNeg 1) x2 := (fun q => absurd (Eq.trans (Eq.symm (t.mpr q)) c_36) (by decide)); rw [eg] at no; exact Eq.trans hq_69 (Eq.trans (pif_pos ⟨(oh_rgI (p := 0) (q := 7) (rg_w (lo := 0) (hi := 7) (rg_il (rgL_i (rg_il (rnL_leu u_10.2 (rnL_lel u_10.1 (rgL_c (v := 0) (lo := 0) (hi := 0) (by decide)) (rgL_i (rg_any _))) (rgL_c (v := 7) (lo := 7) (hi := 7) (by decide)))))) (by decide))), (oh_rgI (p := 0) (q := 5) (rg_w (lo := 0) (hi := 5) (rg_il (rgL_i (rg_il (rnL_leu u_14.2 (rnL_lel u_14.1 (rgL_c (v := 0) (lo := 0) (hi := 0) (by decide)) (rgL_i (rg_any _))) (rgL_c (v := 5) (lo := 5) (hi := 5) (by decide)))))) (by decide)))⟩) (Eq.trans (pif_neg nr) (Eq.trans (pif_neg n1) (pif_neg no)))).symm)⟩⟩, ⟨by rw [ht]; exact hP, hD⟩⟩, hS.F ht⟩) hS.2.2 dX7_says_77
    · have u_72 := hq_12.2.2 c_13
      refine lv_aload_n hx hb dX7_says_24 rfl (lv_at hl 0 rfl) ?_
      refine lv_bipush (v := (-2)) hx hb dX7_says_25 (by decide) ?_
      refine tm_V (As := [.int (-2)]) (rest := []) ⟨hx, hb, hml, hown, htg⟩ (c_X7_refuse l D E G _ a C n hn hT ((-2) : Int32) (rg_w (rg_c (v := (-2)) (lo := (-2)) (hi := (-2)) (by decide)) (by decide))) (cwV 1 htg (oh_gV q_1071 q_1073 q_29 q_73 q_1074) rfl rfl rfl pdVX7_refuse ⟨Nat.le_of_ble_eq_true rfl, Nat.le_of_ble_eq_true rfl⟩) hK hP hD hG hS hA (va_recv hK hP (ci := 7) (q0 := 0) rfl (oh_wg (Nat.lt_of_lt_of_le (by decide) hn) (sM_0 hT))) rfl hl.1 rfl (Nat.le_of_ble_eq_true rfl) dX7_says_27 ⟨Nat.le_of_ble_eq_true rfl, Nat.le_of_ble_eq_true rfl⟩ (fun r_73 C_74 H locs hq_75 hP hD hS => ?_)
      obtain ⟨hT, f_76, hq_75⟩ := hq_75
      have hF := fr_tr hF f_76 (by decide) (by decide)
      refine W.widen (k := 0) (n := 0) (Nat.le_refl _) (Nat.le_refl _) ?_
      have t_77 := hT
      rw [hQ]
      exact W.iret (v := r_73) hx hb hr (fun t ht hW => ⟨⟨r_73, C_74, rfl, ⟨hT, hF, ⟨⟨hR.1.fr hF (by decide), hR.2.fr hF (by decide)⟩, (fun A S hA hok hS0 hN => Eq.trans hq_75 (pif_neg (fun h8 => (oh_in64 (l' := 0) (k' := 5) rfl rfl u_72) h8.2)).symm)⟩⟩, ⟨by rw [ht]; exact hP, hD⟩⟩, hS.F ht⟩) hS.2.2 dX7_says_30
theorem pdX7_overAll : yX7_overAll.cls ≠ "java/lang/invoke/MethodHandle" ∧ yX7_overAll.cls ≠ "java/lang/invoke/VarHandle" ∧ (parseMethodDescriptor yX7_overAll.desc).map (fun d => d.parameters.length) = some 2 := by decide +kernel
def shf {α : Type} (B : Nat) (f : Nat → α) : Nat → α := fun k => f (B + k)
theorem shf_upd {B k : Nat} {C : Nat → va_E} {x : va_E} : shf B (updc C (B + k) x) = updc (shf B C) k x := by
  funext i
  unfold shf updc
  by_cases h : i = k
  · rw [if_pos h, if_pos (by omega)]
  · rw [if_neg h, if_neg (by omega)]
theorem qf_sh {B n b : Nat} {a : Nat → Nat} : qf (shf B a) n b = qf a n (B + b) := by
  funext i
  unfold shf
  show (if i < n then some (a (B + (b + i))) else none) = (if i < n then some (a (B + b + i)) else none)
  rw [Nat.add_assoc]
theorem TyM.congr {a : Nat → Nat} {E : Nat → ClassId} {C u : Nat → va_E} (h : TyM a E C) (e : ∀ k, k < 74 → u k = C k) : TyM a E u :=
  ⟨fun k hk => by rw [e k (by omega)]; exact h.1 k hk, fun i hi => by rw [e _ (by omega)]; exact h.2.1 i hi, fun i hi => by rw [e _ (by omega)]; exact h.2.2.1 i hi, fun i hi => by rw [e _ (by omega)]; exact h.2.2.2.1 i hi, fun i hi => by rw [e _ (by omega)]; exact h.2.2.2.2.1 i hi, fun i hi => by rw [e _ (by omega)]; exact h.2.2.2.2.2 i hi⟩
theorem tA_cp {cA : ClassId} {n W : Nat} {L : List (Int × Int)} {c d : va_E} {g : Nat → Int32} (h : tA cA n W L d) (hc : c = .inl (cA, n, .inl g)) (e : ∀ j, j < n → g j = ga d j) : tA cA n W L c := by
  subst hc
  exact ⟨rfl, fun j hj => by show rg (g j) _ _; rw [e j hj]; exact h.2 j hj⟩
theorem gv_set {ci i j : Nat} {fs : List Value} {v : Value} (h : i ≠ j) : gv (.inr (ci, fs.set j v)) i = gv (.inr (ci, fs)) i := by
  show (fs.set j v).getD i .null = fs.getD i .null
  rw [List.getD_eq_getElem?_getD, List.getD_eq_getElem?_getD, List.getElem?_set_ne (Ne.symm h)]
theorem gv_st {U U2 : Nat → va_E} {k ci i j : Nat} {fs : List Value} {v : Value} (e : U2 = updc U k (.inr (ci, fs.set j v))) (hs : U k = .inr (ci, fs)) (h : i ≠ j) : gv (U2 k) i = gv (U k) i := by
  rw [e, updc_eq, hs]
  exact gv_set h

theorem TyM.cproad {a a2 : Nat → Nat} {E : Nat → ClassId} {C S u : Nat → va_E} (h : TyM a E C) (h2 : TyM a2 E S) (hu : ∀ k, k < 74 → ¬ (24 ≤ k ∧ k < 48) → u k = C k) (hc : ∀ i, i < 24 → ∃ g : Nat → Int32, u (24 + i) = .inl (E 0, 7, .inl g) ∧ ∀ q, q < 7 → g q = ga (S (24 + i)) q) : TyM a E u := ⟨fun k hk => by rw [hu k (by omega) (by omega)]; exact h.1 k hk, fun i hi => by rw [hu _ (by omega) (by omega)]; exact h.2.1 i hi, fun i hi => by obtain ⟨g, e, q⟩ := hc i hi; exact tA_cp (h2.broad hi) e q, fun i hi => by rw [hu _ (by omega) (by omega)]; exact h.2.2.2.1 i hi, fun i hi => by rw [hu _ (by omega) (by omega)]; exact h.2.2.2.2.1 i hi, fun i hi => by rw [hu _ (by omega) (by omega)]; exact h.2.2.2.2.2 i hi⟩

theorem TyM.cpbridge {a a2 : Nat → Nat} {E : Nat → ClassId} {C S u : Nat → va_E} (h : TyM a E C) (h2 : TyM a2 E S) (hu : ∀ k, k < 74 → ¬ (48 ≤ k ∧ k < 64) → u k = C k) (hc : ∀ i, i < 16 → ∃ g : Nat → Int32, u (48 + i) = .inl (E 0, 10, .inl g) ∧ ∀ q, q < 10 → g q = ga (S (48 + i)) q) : TyM a E u := ⟨fun k hk => by rw [hu k (by omega) (by omega)]; exact h.1 k hk, fun i hi => by rw [hu _ (by omega) (by omega)]; exact h.2.1 i hi, fun i hi => by rw [hu _ (by omega) (by omega)]; exact h.2.2.1 i hi, fun i hi => by obtain ⟨g, e, q⟩ := hc i hi; exact tA_cp (h2.bbridge hi) e q, fun i hi => by rw [hu _ (by omega) (by omega)]; exact h.2.2.2.2.1 i hi, fun i hi => by rw [hu _ (by omega) (by omega)]; exact h.2.2.2.2.2 i hi⟩

theorem TyM.cpwaggon {a a2 : Nat → Nat} {E : Nat → ClassId} {C S u : Nat → va_E} (h : TyM a E C) (h2 : TyM a2 E S) (hu : ∀ k, k < 74 → ¬ (64 ≤ k ∧ k < 69) → u k = C k) (hc : ∀ i, i < 5 → ∃ g : Nat → Int32, u (64 + i) = .inl (E 0, 3, .inl g) ∧ ∀ q, q < 3 → g q = ga (S (64 + i)) q) : TyM a E u := ⟨fun k hk => by rw [hu k (by omega) (by omega)]; exact h.1 k hk, fun i hi => by rw [hu _ (by omega) (by omega)]; exact h.2.1 i hi, fun i hi => by rw [hu _ (by omega) (by omega)]; exact h.2.2.1 i hi, fun i hi => by rw [hu _ (by omega) (by omega)]; exact h.2.2.2.1 i hi, fun i hi => by obtain ⟨g, e, q⟩ := hc i hi; exact tA_cp (h2.bwaggon hi) e q, fun i hi => by rw [hu _ (by omega) (by omega)]; exact h.2.2.2.2.2 i hi⟩

theorem TyM.cppart {a a2 : Nat → Nat} {E : Nat → ClassId} {C S u : Nat → va_E} (h : TyM a E C) (h2 : TyM a2 E S) (hu : ∀ k, k < 74 → ¬ (69 ≤ k ∧ k < 74) → u k = C k) (hc : ∀ i, i < 5 → ∃ g : Nat → Int32, u (69 + i) = .inl (E 0, 2, .inl g) ∧ ∀ q, q < 2 → g q = ga (S (69 + i)) q) : TyM a E u := ⟨fun k hk => by rw [hu k (by omega) (by omega)]; exact h.1 k hk, fun i hi => by rw [hu _ (by omega) (by omega)]; exact h.2.1 i hi, fun i hi => by rw [hu _ (by omega) (by omega)]; exact h.2.2.1 i hi, fun i hi => by rw [hu _ (by omega) (by omega)]; exact h.2.2.2.1 i hi, fun i hi => by rw [hu _ (by omega) (by omega)]; exact h.2.2.2.2.1 i hi, fun i hi => by obtain ⟨g, e, q⟩ := hc i hi; exact tA_cp (h2.bpart hi) e q⟩

set_option maxHeartbeats 4000000 in
set_option maxRecDepth 100000 in
theorem TyM.pt9 {a : Nat → Nat} {E : Nat → ClassId} {C : Nat → va_E} {fs : List Value} {v : Int32} (h : TyM a E C) (hs : C 0 = .inr (7, fs)) (hv : rg v 0 24) : TyM a E (updc C 0 (.inr (7, fs.set 9 (.int v)))) := by
  have e2 := (Prod.mk.inj (Sum.inr.inj (Eq.trans hs.symm (sM_0 h)))).2
  subst e2
  exact h.up 0 (by decide) ⟨rfl, (fM_0_7 h), hv, (fM_0_11 h), (fM_0_13 h), (fM_0_15 h), (fM_0_21 h), (fM_0_23 h)⟩

set_option maxHeartbeats 4000000 in
set_option maxRecDepth 100000 in
theorem TyM.pt11 {a : Nat → Nat} {E : Nat → ClassId} {C : Nat → va_E} {fs : List Value} {v : Int32} (h : TyM a E C) (hs : C 0 = .inr (7, fs)) (hv : rg v 0 16) : TyM a E (updc C 0 (.inr (7, fs.set 11 (.int v)))) := by
  have e2 := (Prod.mk.inj (Sum.inr.inj (Eq.trans hs.symm (sM_0 h)))).2
  subst e2
  exact h.up 0 (by decide) ⟨rfl, (fM_0_7 h), (fM_0_9 h), hv, (fM_0_13 h), (fM_0_15 h), (fM_0_21 h), (fM_0_23 h)⟩

set_option maxHeartbeats 4000000 in
set_option maxRecDepth 100000 in
theorem TyM.pt13 {a : Nat → Nat} {E : Nat → ClassId} {C : Nat → va_E} {fs : List Value} {v : Int32} (h : TyM a E C) (hs : C 0 = .inr (7, fs)) (hv : rg v 0 5) : TyM a E (updc C 0 (.inr (7, fs.set 13 (.int v)))) := by
  have e2 := (Prod.mk.inj (Sum.inr.inj (Eq.trans hs.symm (sM_0 h)))).2
  subst e2
  exact h.up 0 (by decide) ⟨rfl, (fM_0_7 h), (fM_0_9 h), (fM_0_11 h), hv, (fM_0_15 h), (fM_0_21 h), (fM_0_23 h)⟩

set_option maxHeartbeats 4000000 in
set_option maxRecDepth 100000 in
theorem TyM.pt15 {a : Nat → Nat} {E : Nat → ClassId} {C : Nat → va_E} {fs : List Value} {v : Int32} (h : TyM a E C) (hs : C 0 = .inr (7, fs)) (hv : rg v 0 5) : TyM a E (updc C 0 (.inr (7, fs.set 15 (.int v)))) := by
  have e2 := (Prod.mk.inj (Sum.inr.inj (Eq.trans hs.symm (sM_0 h)))).2
  subst e2
  exact h.up 0 (by decide) ⟨rfl, (fM_0_7 h), (fM_0_9 h), (fM_0_11 h), (fM_0_13 h), hv, (fM_0_21 h), (fM_0_23 h)⟩

set_option maxHeartbeats 4000000 in
set_option maxRecDepth 100000 in
theorem TyM.pt19 {a : Nat → Nat} {E : Nat → ClassId} {C : Nat → va_E} {fs : List Value} {v : Int32} (h : TyM a E C) (hs : C 0 = .inr (7, fs)) : TyM a E (updc C 0 (.inr (7, fs.set 19 (.int v)))) := by
  have e2 := (Prod.mk.inj (Sum.inr.inj (Eq.trans hs.symm (sM_0 h)))).2
  subst e2
  exact h.up 0 (by decide) ⟨rfl, (fM_0_7 h), (fM_0_9 h), (fM_0_11 h), (fM_0_13 h), (fM_0_15 h), (fM_0_21 h), (fM_0_23 h)⟩

set_option maxHeartbeats 4000000 in
set_option maxRecDepth 100000 in
theorem tk_f9 {p : Program} {l : Launch} {e : Env} {R : Room} {s : State} {m : MethodId} {args : Array Value} {below : List Frame} {meth : Method} {c : Code} {cells slots : Nat} {Q : State → Prop} {D : va_G} {E : Nat → ClassId} {A : Nat → Prop} {G : Nat → Nat} (hx : p.tables.exec = Jvm.exec) (hb : c.code = cX7_takeFrom) (htg : ∀ w ∈ oh_t, w.before args s = true) (hown : s.vm.findClass RX7 = some m.cls) (hml : c.maxLocals = 2) (hK : va_K D vwCl (oh_ty E) s) (hG : oh_G G A s) (hA : ∀ q, s.heap.size ≤ q → A q) (hRf : 2 ≤ R.frames) (hRl : 44 ≤ R.locals) (hRc : cells ≤ R.cells) (hRs : slots ≤ R.slots) {n : Nat} {a : Nat → Nat} {B1 B2 : Nat} (hB : (B1 = 0 ∧ B2 = 74) ∨ (B1 = 74 ∧ B2 = 0)) (hn : 148 ≤ n) {U : Nat → va_E} (hT1 : TyM (shf B1 a) E (shf B1 U)) (hT2 : TyM (shf B2 a) E (shf B2 U)) {H : Heap} {locs : List Loc} {ls : Array Slot} (hP : va_P D vwCl (oh_W n a U) H) (hD : va_D A (oh_W n a U)) (hS : va_S A s.heap H locs) (hl : lv_has ls 2 [(0, .ref (a (B1 + 0))), (1, .ref (a (B2 + 0)))]) (kk : ∀ (U2 : Nat → va_E) (H : Heap) (locs : List Loc), TyM (shf B1 a) E (shf B1 U2) → (∀ k, k ≠ B1 + 0 → U2 k = U k) → (gi (U2 (B1 + 0)) 9 = gi (U (B2 + 0)) 9) → (∀ i, i ≠ 9 → gv (U2 (B1 + 0)) i = gv (U (B1 + 0)) i) → va_P D vwCl (oh_W n a U2) H → va_D A (oh_W n a U2) → va_S A s.heap H locs → W p l e R s m args below meth c H locs cells slots Q (F0 m 8 ls [])) : W p l e R s m args below meth c H locs cells slots Q (F0 m 0 ls []) := by
  refine lv_aload_n hx hb dX7_takeFrom_0 rfl (lv_at hl 0 rfl) ?_
  refine lv_aload_n hx hb dX7_takeFrom_1 rfl (lv_at hl 1 rfl) ?_
  refine va_get (D := D) (ci := 7) (v := .int (gi (U (B2 + 0)) 9)) (C := RX7) (T := TX7) (N := 29) hx hb htg ig_7 hown hK hP (B2 + 0) (oh_wg (k := B2 + 0) (by omega) (show U (B2 + 0) = .inr (7, [.ref (a (B2 + 1)), .ref (a (B2 + 2)), .ref (a (B2 + 3)), .ref (a (B2 + 4)), .ref (a (B2 + 5)), .ref (a (B2 + 6)), .ref (a (B2 + 7)), .int (gi (U (B2 + 0)) 7), .ref (a (B2 + 8)), .int (gi (U (B2 + 0)) 9), .ref (a (B2 + 9)), .int (gi (U (B2 + 0)) 11), .ref (a (B2 + 10)), .int (gi (U (B2 + 0)) 13), .ref (a (B2 + 11)), .int (gi (U (B2 + 0)) 15), .ref (a (B2 + 12)), .ref (a (B2 + 13)), .ref (a (B2 + 14)), .int (gi (U (B2 + 0)) 19), gv (U (B2 + 0)) 20, .int (gi (U (B2 + 0)) 21), .int (gi (U (B2 + 0)) 22), .int (gi (U (B2 + 0)) 23), .long (gl (U (B2 + 0)) 24), .int (gi (U (B2 + 0)) 25), .int (gi (U (B2 + 0)) 26), .ref (a (B2 + 15)), .int (gi (U (B2 + 0)) 28)]) from sM_0 hT2)) rfl 9 (by decide) (htg _ q_982) (fun _ h9 => h9) rfl dX7_takeFrom_2 ?_
  refine th_put (Tp := fun _ => True) (Rl := fun _ => True) (ci := 7) (v := .int (gi (U (B2 + 0)) 9)) (ty := .int) (CC := RX7) (T := TX7) (N := 29) hx hb htg ig_7 tyX7 tyX7_ok nmX7 hown hK hP hD hS (B1 + 0) (by omega) (show U (B1 + 0) = .inr (7, [.ref (a (B1 + 1)), .ref (a (B1 + 2)), .ref (a (B1 + 3)), .ref (a (B1 + 4)), .ref (a (B1 + 5)), .ref (a (B1 + 6)), .ref (a (B1 + 7)), .int (gi (U (B1 + 0)) 7), .ref (a (B1 + 8)), .int (gi (U (B1 + 0)) 9), .ref (a (B1 + 9)), .int (gi (U (B1 + 0)) 11), .ref (a (B1 + 10)), .int (gi (U (B1 + 0)) 13), .ref (a (B1 + 11)), .int (gi (U (B1 + 0)) 15), .ref (a (B1 + 12)), .ref (a (B1 + 13)), .ref (a (B1 + 14)), .int (gi (U (B1 + 0)) 19), gv (U (B1 + 0)) 20, .int (gi (U (B1 + 0)) 21), .int (gi (U (B1 + 0)) 22), .int (gi (U (B1 + 0)) 23), .long (gl (U (B1 + 0)) 24), .int (gi (U (B1 + 0)) 25), .int (gi (U (B1 + 0)) 26), .ref (a (B1 + 15)), .int (gi (U (B1 + 0)) 28)]) from sM_0 hT1) rfl 9 (by decide) (htg _ q_982) (fun _ h9 => h9) rfl (by decide +kernel) rfl rfl (Nat.le_of_ble_eq_true rfl) trivial trivial dX7_takeFrom_5 (fun U2 H locs e2 _ _ hP hD hS => ?_)
  refine kk U2 H locs ?_ (fun k hk => th_un e2 hk) ?_ (fun i hi => ?_) hP hD hS
  · rw [e2, shf_upd]
    exact TyM.pt9 hT1 (show shf B1 U 0 = .inr (7, [.ref (a (B1 + 1)), .ref (a (B1 + 2)), .ref (a (B1 + 3)), .ref (a (B1 + 4)), .ref (a (B1 + 5)), .ref (a (B1 + 6)), .ref (a (B1 + 7)), .int (gi (U (B1 + 0)) 7), .ref (a (B1 + 8)), .int (gi (U (B1 + 0)) 9), .ref (a (B1 + 9)), .int (gi (U (B1 + 0)) 11), .ref (a (B1 + 10)), .int (gi (U (B1 + 0)) 13), .ref (a (B1 + 11)), .int (gi (U (B1 + 0)) 15), .ref (a (B1 + 12)), .ref (a (B1 + 13)), .ref (a (B1 + 14)), .int (gi (U (B1 + 0)) 19), gv (U (B1 + 0)) 20, .int (gi (U (B1 + 0)) 21), .int (gi (U (B1 + 0)) 22), .int (gi (U (B1 + 0)) 23), .long (gl (U (B1 + 0)) 24), .int (gi (U (B1 + 0)) 25), .int (gi (U (B1 + 0)) 26), .ref (a (B1 + 15)), .int (gi (U (B1 + 0)) 28)]) from sM_0 hT1) (fM_0_9 hT2)
  · rw [e2, updc_eq]
    rfl
  · exact gv_st e2 (show U (B1 + 0) = .inr (7, [.ref (a (B1 + 1)), .ref (a (B1 + 2)), .ref (a (B1 + 3)), .ref (a (B1 + 4)), .ref (a (B1 + 5)), .ref (a (B1 + 6)), .ref (a (B1 + 7)), .int (gi (U (B1 + 0)) 7), .ref (a (B1 + 8)), .int (gi (U (B1 + 0)) 9), .ref (a (B1 + 9)), .int (gi (U (B1 + 0)) 11), .ref (a (B1 + 10)), .int (gi (U (B1 + 0)) 13), .ref (a (B1 + 11)), .int (gi (U (B1 + 0)) 15), .ref (a (B1 + 12)), .ref (a (B1 + 13)), .ref (a (B1 + 14)), .int (gi (U (B1 + 0)) 19), gv (U (B1 + 0)) 20, .int (gi (U (B1 + 0)) 21), .int (gi (U (B1 + 0)) 22), .int (gi (U (B1 + 0)) 23), .long (gl (U (B1 + 0)) 24), .int (gi (U (B1 + 0)) 25), .int (gi (U (B1 + 0)) 26), .ref (a (B1 + 15)), .int (gi (U (B1 + 0)) 28)]) from sM_0 hT1) hi

set_option maxHeartbeats 4000000 in
set_option maxRecDepth 100000 in
theorem tk_broad {p : Program} {l : Launch} {e : Env} {R : Room} {s : State} {m : MethodId} {args : Array Value} {below : List Frame} {meth : Method} {c : Code} {cells slots : Nat} {Q : State → Prop} {D : va_G} {E : Nat → ClassId} {A : Nat → Prop} {G : Nat → Nat} (hx : p.tables.exec = Jvm.exec) (hb : c.code = cX7_takeFrom) (htg : ∀ w ∈ oh_t, w.before args s = true) (hown : s.vm.findClass RX7 = some m.cls) (hml : c.maxLocals = 2) (hK : va_K D vwCl (oh_ty E) s) (hG : oh_G G A s) (hA : ∀ q, s.heap.size ≤ q → A q) (hRf : 2 ≤ R.frames) (hRl : 44 ≤ R.locals) (hRc : cells ≤ R.cells) (hRs : slots ≤ R.slots) {n : Nat} {a : Nat → Nat} {B1 B2 : Nat} (hB : (B1 = 0 ∧ B2 = 74) ∨ (B1 = 74 ∧ B2 = 0)) (hn : 148 ≤ n) {U : Nat → va_E} (hT1 : TyM (shf B1 a) E (shf B1 U)) (hT2 : TyM (shf B2 a) E (shf B2 U)) {H : Heap} {locs : List Loc} {ls : Array Slot} (hP : va_P D vwCl (oh_W n a U) H) (hD : va_D A (oh_W n a U)) (hS : va_S A s.heap H locs) (hl : lv_has ls 2 [(0, .ref (a (B1 + 0))), (1, .ref (a (B2 + 0)))]) (kk : ∀ (U2 : Nat → va_E) (H : Heap) (locs : List Loc), TyM (shf B1 a) E (shf B1 U2) → (∀ k, (k < B1 + 24 ∨ B1 + 24 + 24 ≤ k) → U2 k = U k) → (∀ i, i < 24 → ∃ g : Nat → Int32, U2 (B1 + (24 + i)) = .inl (E 0, 7, .inl g) ∧ ∀ q, q < 7 → g q = ga (U (B2 + (24 + i))) q) → va_P D vwCl (oh_W n a U2) H → va_D A (oh_W n a U2) → va_S A s.heap H locs → W p l e R s m args below meth c H locs cells slots Q (F0 m 19 ls [])) : W p l e R s m args below meth c H locs cells slots Q (F0 m 8 ls []) := by
  refine lv_aload_n hx hb dX7_takeFrom_8 rfl (lv_at hl 1 rfl) ?_
  refine va_get (D := D) (ci := 7) (v := .ref (a (B2 + 9))) (C := RX7) (T := TX7) (N := 29) hx hb htg ig_7 hown hK hP (B2 + 0) (oh_wg (k := B2 + 0) (by omega) (show U (B2 + 0) = .inr (7, [.ref (a (B2 + 1)), .ref (a (B2 + 2)), .ref (a (B2 + 3)), .ref (a (B2 + 4)), .ref (a (B2 + 5)), .ref (a (B2 + 6)), .ref (a (B2 + 7)), .int (gi (U (B2 + 0)) 7), .ref (a (B2 + 8)), .int (gi (U (B2 + 0)) 9), .ref (a (B2 + 9)), .int (gi (U (B2 + 0)) 11), .ref (a (B2 + 10)), .int (gi (U (B2 + 0)) 13), .ref (a (B2 + 11)), .int (gi (U (B2 + 0)) 15), .ref (a (B2 + 12)), .ref (a (B2 + 13)), .ref (a (B2 + 14)), .int (gi (U (B2 + 0)) 19), gv (U (B2 + 0)) 20, .int (gi (U (B2 + 0)) 21), .int (gi (U (B2 + 0)) 22), .int (gi (U (B2 + 0)) 23), .long (gl (U (B2 + 0)) 24), .int (gi (U (B2 + 0)) 25), .int (gi (U (B2 + 0)) 26), .ref (a (B2 + 15)), .int (gi (U (B2 + 0)) 28)]) from sM_0 hT2)) rfl 10 (by decide) (htg _ q_983) (fun _ h9 => h9) rfl dX7_takeFrom_9 ?_
  refine lv_aload_n hx hb dX7_takeFrom_12 rfl (lv_at hl 0 rfl) ?_
  refine va_get (D := D) (ci := 7) (v := .ref (a (B1 + 9))) (C := RX7) (T := TX7) (N := 29) hx hb htg ig_7 hown hK hP (B1 + 0) (oh_wg (k := B1 + 0) (by omega) (show U (B1 + 0) = .inr (7, [.ref (a (B1 + 1)), .ref (a (B1 + 2)), .ref (a (B1 + 3)), .ref (a (B1 + 4)), .ref (a (B1 + 5)), .ref (a (B1 + 6)), .ref (a (B1 + 7)), .int (gi (U (B1 + 0)) 7), .ref (a (B1 + 8)), .int (gi (U (B1 + 0)) 9), .ref (a (B1 + 9)), .int (gi (U (B1 + 0)) 11), .ref (a (B1 + 10)), .int (gi (U (B1 + 0)) 13), .ref (a (B1 + 11)), .int (gi (U (B1 + 0)) 15), .ref (a (B1 + 12)), .ref (a (B1 + 13)), .ref (a (B1 + 14)), .int (gi (U (B1 + 0)) 19), gv (U (B1 + 0)) 20, .int (gi (U (B1 + 0)) 21), .int (gi (U (B1 + 0)) 22), .int (gi (U (B1 + 0)) 23), .long (gl (U (B1 + 0)) 24), .int (gi (U (B1 + 0)) 25), .int (gi (U (B1 + 0)) 26), .ref (a (B1 + 15)), .int (gi (U (B1 + 0)) 28)]) from sM_0 hT1)) rfl 10 (by decide) (htg _ q_983) (fun _ h9 => h9) rfl dX7_takeFrom_13 ?_
  have s1 := (Eq.trans (show U (B2 + 9) = .inl (E 2, 24, .inr (.inr (.inr (.inr (qf (shf B2 a) 24 24))))) from sM_9 hT2) (congrArg (fun f => (.inl (E 2, 24, .inr (.inr (.inr (.inr f)))) : va_E)) qf_sh))
  have s2 := (Eq.trans (show U (B1 + 9) = .inl (E 2, 24, .inr (.inr (.inr (.inr (qf (shf B1 a) 24 24))))) from sM_9 hT1) (congrArg (fun f => (.inl (E 2, 24, .inr (.inr (.inr (.inr f)))) : va_E)) qf_sh))
  have r1 : ∀ i, i < 24 → U (B2 + 24 + i) = .inl (E 0, 7, .inl (ga (U (B2 + 24 + i)))) := fun i hi => by rw [Nat.add_assoc]; exact (hT2.broad hi).1
  have r2 : ∀ i, i < 24 → U (B1 + 24 + i) = .inl (E 0, 7, .inl (ga (U (B1 + 24 + i)))) := fun i hi => by rw [Nat.add_assoc]; exact (hT1.broad hi).1
  refine tm_Sv (As := [.ref (a (B2 + 9)), .ref (a (B1 + 9))]) (rest := []) ⟨hx, hb, hml, hown, htg⟩ (c_X7_overAll l D E G _ n a U (B2 + 9) (B1 + 9) (B2 + 24) (B1 + 24) 24 7 (by omega) (by omega) (by omega) (by omega) (by omega) (by omega) (by omega) (fun i hi => by omega) (fun i hi => by omega) s1 s2 r1 r2) (va_cwS 2 htg (oh_gS q_1431 q_1432 q_73 q_1433) rfl rfl rfl pdX7_overAll ⟨by omega, by omega⟩) hK hP hD hG hS hA rfl hl.1 rfl (Nat.le_of_ble_eq_true rfl) dX7_takeFrom_16 ⟨hRc, hRs⟩ (fun U2 H locs hq hP hD hS => ?_)
  have hE : ∀ k, (k < B1 + 24 ∨ B1 + 24 + 24 ≤ k) → U2 k = U k := fun k hk => hq.2 k (fun i hi => by omega)
  have hc : ∀ i, i < 24 → ∃ g : Nat → Int32, U2 (B1 + (24 + i)) = .inl (E 0, 7, .inl g) ∧ ∀ q, q < 7 → g q = ga (U (B2 + (24 + i))) q := fun i hi => by
    obtain ⟨g, h1, h2⟩ := hq.1 i hi
    exact ⟨g, by rw [← Nat.add_assoc]; exact h1, fun q hq => by rw [← Nat.add_assoc]; exact h2 q hq⟩
  exact kk U2 H locs (TyM.cproad hT1 hT2 (fun k hk hn => hE (B1 + k) (by omega)) hc) hE hc hP hD hS

set_option maxHeartbeats 4000000 in
set_option maxRecDepth 100000 in
theorem tk_f11 {p : Program} {l : Launch} {e : Env} {R : Room} {s : State} {m : MethodId} {args : Array Value} {below : List Frame} {meth : Method} {c : Code} {cells slots : Nat} {Q : State → Prop} {D : va_G} {E : Nat → ClassId} {A : Nat → Prop} {G : Nat → Nat} (hx : p.tables.exec = Jvm.exec) (hb : c.code = cX7_takeFrom) (htg : ∀ w ∈ oh_t, w.before args s = true) (hown : s.vm.findClass RX7 = some m.cls) (hml : c.maxLocals = 2) (hK : va_K D vwCl (oh_ty E) s) (hG : oh_G G A s) (hA : ∀ q, s.heap.size ≤ q → A q) (hRf : 2 ≤ R.frames) (hRl : 44 ≤ R.locals) (hRc : cells ≤ R.cells) (hRs : slots ≤ R.slots) {n : Nat} {a : Nat → Nat} {B1 B2 : Nat} (hB : (B1 = 0 ∧ B2 = 74) ∨ (B1 = 74 ∧ B2 = 0)) (hn : 148 ≤ n) {U : Nat → va_E} (hT1 : TyM (shf B1 a) E (shf B1 U)) (hT2 : TyM (shf B2 a) E (shf B2 U)) {H : Heap} {locs : List Loc} {ls : Array Slot} (hP : va_P D vwCl (oh_W n a U) H) (hD : va_D A (oh_W n a U)) (hS : va_S A s.heap H locs) (hl : lv_has ls 2 [(0, .ref (a (B1 + 0))), (1, .ref (a (B2 + 0)))]) (kk : ∀ (U2 : Nat → va_E) (H : Heap) (locs : List Loc), TyM (shf B1 a) E (shf B1 U2) → (∀ k, k ≠ B1 + 0 → U2 k = U k) → (gi (U2 (B1 + 0)) 11 = gi (U (B2 + 0)) 11) → (∀ i, i ≠ 11 → gv (U2 (B1 + 0)) i = gv (U (B1 + 0)) i) → va_P D vwCl (oh_W n a U2) H → va_D A (oh_W n a U2) → va_S A s.heap H locs → W p l e R s m args below meth c H locs cells slots Q (F0 m 27 ls [])) : W p l e R s m args below meth c H locs cells slots Q (F0 m 19 ls []) := by
  refine lv_aload_n hx hb dX7_takeFrom_19 rfl (lv_at hl 0 rfl) ?_
  refine lv_aload_n hx hb dX7_takeFrom_20 rfl (lv_at hl 1 rfl) ?_
  refine va_get (D := D) (ci := 7) (v := .int (gi (U (B2 + 0)) 11)) (C := RX7) (T := TX7) (N := 29) hx hb htg ig_7 hown hK hP (B2 + 0) (oh_wg (k := B2 + 0) (by omega) (show U (B2 + 0) = .inr (7, [.ref (a (B2 + 1)), .ref (a (B2 + 2)), .ref (a (B2 + 3)), .ref (a (B2 + 4)), .ref (a (B2 + 5)), .ref (a (B2 + 6)), .ref (a (B2 + 7)), .int (gi (U (B2 + 0)) 7), .ref (a (B2 + 8)), .int (gi (U (B2 + 0)) 9), .ref (a (B2 + 9)), .int (gi (U (B2 + 0)) 11), .ref (a (B2 + 10)), .int (gi (U (B2 + 0)) 13), .ref (a (B2 + 11)), .int (gi (U (B2 + 0)) 15), .ref (a (B2 + 12)), .ref (a (B2 + 13)), .ref (a (B2 + 14)), .int (gi (U (B2 + 0)) 19), gv (U (B2 + 0)) 20, .int (gi (U (B2 + 0)) 21), .int (gi (U (B2 + 0)) 22), .int (gi (U (B2 + 0)) 23), .long (gl (U (B2 + 0)) 24), .int (gi (U (B2 + 0)) 25), .int (gi (U (B2 + 0)) 26), .ref (a (B2 + 15)), .int (gi (U (B2 + 0)) 28)]) from sM_0 hT2)) rfl 11 (by decide) (htg _ q_984) (fun _ h9 => h9) rfl dX7_takeFrom_21 ?_
  refine th_put (Tp := fun _ => True) (Rl := fun _ => True) (ci := 7) (v := .int (gi (U (B2 + 0)) 11)) (ty := .int) (CC := RX7) (T := TX7) (N := 29) hx hb htg ig_7 tyX7 tyX7_ok nmX7 hown hK hP hD hS (B1 + 0) (by omega) (show U (B1 + 0) = .inr (7, [.ref (a (B1 + 1)), .ref (a (B1 + 2)), .ref (a (B1 + 3)), .ref (a (B1 + 4)), .ref (a (B1 + 5)), .ref (a (B1 + 6)), .ref (a (B1 + 7)), .int (gi (U (B1 + 0)) 7), .ref (a (B1 + 8)), .int (gi (U (B1 + 0)) 9), .ref (a (B1 + 9)), .int (gi (U (B1 + 0)) 11), .ref (a (B1 + 10)), .int (gi (U (B1 + 0)) 13), .ref (a (B1 + 11)), .int (gi (U (B1 + 0)) 15), .ref (a (B1 + 12)), .ref (a (B1 + 13)), .ref (a (B1 + 14)), .int (gi (U (B1 + 0)) 19), gv (U (B1 + 0)) 20, .int (gi (U (B1 + 0)) 21), .int (gi (U (B1 + 0)) 22), .int (gi (U (B1 + 0)) 23), .long (gl (U (B1 + 0)) 24), .int (gi (U (B1 + 0)) 25), .int (gi (U (B1 + 0)) 26), .ref (a (B1 + 15)), .int (gi (U (B1 + 0)) 28)]) from sM_0 hT1) rfl 11 (by decide) (htg _ q_984) (fun _ h9 => h9) rfl (by decide +kernel) rfl rfl (Nat.le_of_ble_eq_true rfl) trivial trivial dX7_takeFrom_24 (fun U2 H locs e2 _ _ hP hD hS => ?_)
  refine kk U2 H locs ?_ (fun k hk => th_un e2 hk) ?_ (fun i hi => ?_) hP hD hS
  · rw [e2, shf_upd]
    exact TyM.pt11 hT1 (show shf B1 U 0 = .inr (7, [.ref (a (B1 + 1)), .ref (a (B1 + 2)), .ref (a (B1 + 3)), .ref (a (B1 + 4)), .ref (a (B1 + 5)), .ref (a (B1 + 6)), .ref (a (B1 + 7)), .int (gi (U (B1 + 0)) 7), .ref (a (B1 + 8)), .int (gi (U (B1 + 0)) 9), .ref (a (B1 + 9)), .int (gi (U (B1 + 0)) 11), .ref (a (B1 + 10)), .int (gi (U (B1 + 0)) 13), .ref (a (B1 + 11)), .int (gi (U (B1 + 0)) 15), .ref (a (B1 + 12)), .ref (a (B1 + 13)), .ref (a (B1 + 14)), .int (gi (U (B1 + 0)) 19), gv (U (B1 + 0)) 20, .int (gi (U (B1 + 0)) 21), .int (gi (U (B1 + 0)) 22), .int (gi (U (B1 + 0)) 23), .long (gl (U (B1 + 0)) 24), .int (gi (U (B1 + 0)) 25), .int (gi (U (B1 + 0)) 26), .ref (a (B1 + 15)), .int (gi (U (B1 + 0)) 28)]) from sM_0 hT1) (fM_0_11 hT2)
  · rw [e2, updc_eq]
    rfl
  · exact gv_st e2 (show U (B1 + 0) = .inr (7, [.ref (a (B1 + 1)), .ref (a (B1 + 2)), .ref (a (B1 + 3)), .ref (a (B1 + 4)), .ref (a (B1 + 5)), .ref (a (B1 + 6)), .ref (a (B1 + 7)), .int (gi (U (B1 + 0)) 7), .ref (a (B1 + 8)), .int (gi (U (B1 + 0)) 9), .ref (a (B1 + 9)), .int (gi (U (B1 + 0)) 11), .ref (a (B1 + 10)), .int (gi (U (B1 + 0)) 13), .ref (a (B1 + 11)), .int (gi (U (B1 + 0)) 15), .ref (a (B1 + 12)), .ref (a (B1 + 13)), .ref (a (B1 + 14)), .int (gi (U (B1 + 0)) 19), gv (U (B1 + 0)) 20, .int (gi (U (B1 + 0)) 21), .int (gi (U (B1 + 0)) 22), .int (gi (U (B1 + 0)) 23), .long (gl (U (B1 + 0)) 24), .int (gi (U (B1 + 0)) 25), .int (gi (U (B1 + 0)) 26), .ref (a (B1 + 15)), .int (gi (U (B1 + 0)) 28)]) from sM_0 hT1) hi

set_option maxHeartbeats 4000000 in
set_option maxRecDepth 100000 in
theorem tk_bbridge {p : Program} {l : Launch} {e : Env} {R : Room} {s : State} {m : MethodId} {args : Array Value} {below : List Frame} {meth : Method} {c : Code} {cells slots : Nat} {Q : State → Prop} {D : va_G} {E : Nat → ClassId} {A : Nat → Prop} {G : Nat → Nat} (hx : p.tables.exec = Jvm.exec) (hb : c.code = cX7_takeFrom) (htg : ∀ w ∈ oh_t, w.before args s = true) (hown : s.vm.findClass RX7 = some m.cls) (hml : c.maxLocals = 2) (hK : va_K D vwCl (oh_ty E) s) (hG : oh_G G A s) (hA : ∀ q, s.heap.size ≤ q → A q) (hRf : 2 ≤ R.frames) (hRl : 44 ≤ R.locals) (hRc : cells ≤ R.cells) (hRs : slots ≤ R.slots) {n : Nat} {a : Nat → Nat} {B1 B2 : Nat} (hB : (B1 = 0 ∧ B2 = 74) ∨ (B1 = 74 ∧ B2 = 0)) (hn : 148 ≤ n) {U : Nat → va_E} (hT1 : TyM (shf B1 a) E (shf B1 U)) (hT2 : TyM (shf B2 a) E (shf B2 U)) {H : Heap} {locs : List Loc} {ls : Array Slot} (hP : va_P D vwCl (oh_W n a U) H) (hD : va_D A (oh_W n a U)) (hS : va_S A s.heap H locs) (hl : lv_has ls 2 [(0, .ref (a (B1 + 0))), (1, .ref (a (B2 + 0)))]) (kk : ∀ (U2 : Nat → va_E) (H : Heap) (locs : List Loc), TyM (shf B1 a) E (shf B1 U2) → (∀ k, (k < B1 + 48 ∨ B1 + 48 + 16 ≤ k) → U2 k = U k) → (∀ i, i < 16 → ∃ g : Nat → Int32, U2 (B1 + (48 + i)) = .inl (E 0, 10, .inl g) ∧ ∀ q, q < 10 → g q = ga (U (B2 + (48 + i))) q) → va_P D vwCl (oh_W n a U2) H → va_D A (oh_W n a U2) → va_S A s.heap H locs → W p l e R s m args below meth c H locs cells slots Q (F0 m 38 ls [])) : W p l e R s m args below meth c H locs cells slots Q (F0 m 27 ls []) := by
  refine lv_aload_n hx hb dX7_takeFrom_27 rfl (lv_at hl 1 rfl) ?_
  refine va_get (D := D) (ci := 7) (v := .ref (a (B2 + 10))) (C := RX7) (T := TX7) (N := 29) hx hb htg ig_7 hown hK hP (B2 + 0) (oh_wg (k := B2 + 0) (by omega) (show U (B2 + 0) = .inr (7, [.ref (a (B2 + 1)), .ref (a (B2 + 2)), .ref (a (B2 + 3)), .ref (a (B2 + 4)), .ref (a (B2 + 5)), .ref (a (B2 + 6)), .ref (a (B2 + 7)), .int (gi (U (B2 + 0)) 7), .ref (a (B2 + 8)), .int (gi (U (B2 + 0)) 9), .ref (a (B2 + 9)), .int (gi (U (B2 + 0)) 11), .ref (a (B2 + 10)), .int (gi (U (B2 + 0)) 13), .ref (a (B2 + 11)), .int (gi (U (B2 + 0)) 15), .ref (a (B2 + 12)), .ref (a (B2 + 13)), .ref (a (B2 + 14)), .int (gi (U (B2 + 0)) 19), gv (U (B2 + 0)) 20, .int (gi (U (B2 + 0)) 21), .int (gi (U (B2 + 0)) 22), .int (gi (U (B2 + 0)) 23), .long (gl (U (B2 + 0)) 24), .int (gi (U (B2 + 0)) 25), .int (gi (U (B2 + 0)) 26), .ref (a (B2 + 15)), .int (gi (U (B2 + 0)) 28)]) from sM_0 hT2)) rfl 12 (by decide) (htg _ q_985) (fun _ h9 => h9) rfl dX7_takeFrom_28 ?_
  refine lv_aload_n hx hb dX7_takeFrom_31 rfl (lv_at hl 0 rfl) ?_
  refine va_get (D := D) (ci := 7) (v := .ref (a (B1 + 10))) (C := RX7) (T := TX7) (N := 29) hx hb htg ig_7 hown hK hP (B1 + 0) (oh_wg (k := B1 + 0) (by omega) (show U (B1 + 0) = .inr (7, [.ref (a (B1 + 1)), .ref (a (B1 + 2)), .ref (a (B1 + 3)), .ref (a (B1 + 4)), .ref (a (B1 + 5)), .ref (a (B1 + 6)), .ref (a (B1 + 7)), .int (gi (U (B1 + 0)) 7), .ref (a (B1 + 8)), .int (gi (U (B1 + 0)) 9), .ref (a (B1 + 9)), .int (gi (U (B1 + 0)) 11), .ref (a (B1 + 10)), .int (gi (U (B1 + 0)) 13), .ref (a (B1 + 11)), .int (gi (U (B1 + 0)) 15), .ref (a (B1 + 12)), .ref (a (B1 + 13)), .ref (a (B1 + 14)), .int (gi (U (B1 + 0)) 19), gv (U (B1 + 0)) 20, .int (gi (U (B1 + 0)) 21), .int (gi (U (B1 + 0)) 22), .int (gi (U (B1 + 0)) 23), .long (gl (U (B1 + 0)) 24), .int (gi (U (B1 + 0)) 25), .int (gi (U (B1 + 0)) 26), .ref (a (B1 + 15)), .int (gi (U (B1 + 0)) 28)]) from sM_0 hT1)) rfl 12 (by decide) (htg _ q_985) (fun _ h9 => h9) rfl dX7_takeFrom_32 ?_
  have s1 := (Eq.trans (show U (B2 + 10) = .inl (E 2, 16, .inr (.inr (.inr (.inr (qf (shf B2 a) 16 48))))) from sM_10 hT2) (congrArg (fun f => (.inl (E 2, 16, .inr (.inr (.inr (.inr f)))) : va_E)) qf_sh))
  have s2 := (Eq.trans (show U (B1 + 10) = .inl (E 2, 16, .inr (.inr (.inr (.inr (qf (shf B1 a) 16 48))))) from sM_10 hT1) (congrArg (fun f => (.inl (E 2, 16, .inr (.inr (.inr (.inr f)))) : va_E)) qf_sh))
  have r1 : ∀ i, i < 16 → U (B2 + 48 + i) = .inl (E 0, 10, .inl (ga (U (B2 + 48 + i)))) := fun i hi => by rw [Nat.add_assoc]; exact (hT2.bbridge hi).1
  have r2 : ∀ i, i < 16 → U (B1 + 48 + i) = .inl (E 0, 10, .inl (ga (U (B1 + 48 + i)))) := fun i hi => by rw [Nat.add_assoc]; exact (hT1.bbridge hi).1
  refine tm_Sv (As := [.ref (a (B2 + 10)), .ref (a (B1 + 10))]) (rest := []) ⟨hx, hb, hml, hown, htg⟩ (c_X7_overAll l D E G _ n a U (B2 + 10) (B1 + 10) (B2 + 48) (B1 + 48) 16 10 (by omega) (by omega) (by omega) (by omega) (by omega) (by omega) (by omega) (fun i hi => by omega) (fun i hi => by omega) s1 s2 r1 r2) (va_cwS 2 htg (oh_gS q_1431 q_1432 q_73 q_1433) rfl rfl rfl pdX7_overAll ⟨by omega, by omega⟩) hK hP hD hG hS hA rfl hl.1 rfl (Nat.le_of_ble_eq_true rfl) dX7_takeFrom_35 ⟨hRc, hRs⟩ (fun U2 H locs hq hP hD hS => ?_)
  have hE : ∀ k, (k < B1 + 48 ∨ B1 + 48 + 16 ≤ k) → U2 k = U k := fun k hk => hq.2 k (fun i hi => by omega)
  have hc : ∀ i, i < 16 → ∃ g : Nat → Int32, U2 (B1 + (48 + i)) = .inl (E 0, 10, .inl g) ∧ ∀ q, q < 10 → g q = ga (U (B2 + (48 + i))) q := fun i hi => by
    obtain ⟨g, h1, h2⟩ := hq.1 i hi
    exact ⟨g, by rw [← Nat.add_assoc]; exact h1, fun q hq => by rw [← Nat.add_assoc]; exact h2 q hq⟩
  exact kk U2 H locs (TyM.cpbridge hT1 hT2 (fun k hk hn => hE (B1 + k) (by omega)) hc) hE hc hP hD hS

set_option maxHeartbeats 4000000 in
set_option maxRecDepth 100000 in
theorem tk_f13 {p : Program} {l : Launch} {e : Env} {R : Room} {s : State} {m : MethodId} {args : Array Value} {below : List Frame} {meth : Method} {c : Code} {cells slots : Nat} {Q : State → Prop} {D : va_G} {E : Nat → ClassId} {A : Nat → Prop} {G : Nat → Nat} (hx : p.tables.exec = Jvm.exec) (hb : c.code = cX7_takeFrom) (htg : ∀ w ∈ oh_t, w.before args s = true) (hown : s.vm.findClass RX7 = some m.cls) (hml : c.maxLocals = 2) (hK : va_K D vwCl (oh_ty E) s) (hG : oh_G G A s) (hA : ∀ q, s.heap.size ≤ q → A q) (hRf : 2 ≤ R.frames) (hRl : 44 ≤ R.locals) (hRc : cells ≤ R.cells) (hRs : slots ≤ R.slots) {n : Nat} {a : Nat → Nat} {B1 B2 : Nat} (hB : (B1 = 0 ∧ B2 = 74) ∨ (B1 = 74 ∧ B2 = 0)) (hn : 148 ≤ n) {U : Nat → va_E} (hT1 : TyM (shf B1 a) E (shf B1 U)) (hT2 : TyM (shf B2 a) E (shf B2 U)) {H : Heap} {locs : List Loc} {ls : Array Slot} (hP : va_P D vwCl (oh_W n a U) H) (hD : va_D A (oh_W n a U)) (hS : va_S A s.heap H locs) (hl : lv_has ls 2 [(0, .ref (a (B1 + 0))), (1, .ref (a (B2 + 0)))]) (kk : ∀ (U2 : Nat → va_E) (H : Heap) (locs : List Loc), TyM (shf B1 a) E (shf B1 U2) → (∀ k, k ≠ B1 + 0 → U2 k = U k) → (gi (U2 (B1 + 0)) 13 = gi (U (B2 + 0)) 13) → (∀ i, i ≠ 13 → gv (U2 (B1 + 0)) i = gv (U (B1 + 0)) i) → va_P D vwCl (oh_W n a U2) H → va_D A (oh_W n a U2) → va_S A s.heap H locs → W p l e R s m args below meth c H locs cells slots Q (F0 m 46 ls [])) : W p l e R s m args below meth c H locs cells slots Q (F0 m 38 ls []) := by
  refine lv_aload_n hx hb dX7_takeFrom_38 rfl (lv_at hl 0 rfl) ?_
  refine lv_aload_n hx hb dX7_takeFrom_39 rfl (lv_at hl 1 rfl) ?_
  refine va_get (D := D) (ci := 7) (v := .int (gi (U (B2 + 0)) 13)) (C := RX7) (T := TX7) (N := 29) hx hb htg ig_7 hown hK hP (B2 + 0) (oh_wg (k := B2 + 0) (by omega) (show U (B2 + 0) = .inr (7, [.ref (a (B2 + 1)), .ref (a (B2 + 2)), .ref (a (B2 + 3)), .ref (a (B2 + 4)), .ref (a (B2 + 5)), .ref (a (B2 + 6)), .ref (a (B2 + 7)), .int (gi (U (B2 + 0)) 7), .ref (a (B2 + 8)), .int (gi (U (B2 + 0)) 9), .ref (a (B2 + 9)), .int (gi (U (B2 + 0)) 11), .ref (a (B2 + 10)), .int (gi (U (B2 + 0)) 13), .ref (a (B2 + 11)), .int (gi (U (B2 + 0)) 15), .ref (a (B2 + 12)), .ref (a (B2 + 13)), .ref (a (B2 + 14)), .int (gi (U (B2 + 0)) 19), gv (U (B2 + 0)) 20, .int (gi (U (B2 + 0)) 21), .int (gi (U (B2 + 0)) 22), .int (gi (U (B2 + 0)) 23), .long (gl (U (B2 + 0)) 24), .int (gi (U (B2 + 0)) 25), .int (gi (U (B2 + 0)) 26), .ref (a (B2 + 15)), .int (gi (U (B2 + 0)) 28)]) from sM_0 hT2)) rfl 13 (by decide) (htg _ q_986) (fun _ h9 => h9) rfl dX7_takeFrom_40 ?_
  refine th_put (Tp := fun _ => True) (Rl := fun _ => True) (ci := 7) (v := .int (gi (U (B2 + 0)) 13)) (ty := .int) (CC := RX7) (T := TX7) (N := 29) hx hb htg ig_7 tyX7 tyX7_ok nmX7 hown hK hP hD hS (B1 + 0) (by omega) (show U (B1 + 0) = .inr (7, [.ref (a (B1 + 1)), .ref (a (B1 + 2)), .ref (a (B1 + 3)), .ref (a (B1 + 4)), .ref (a (B1 + 5)), .ref (a (B1 + 6)), .ref (a (B1 + 7)), .int (gi (U (B1 + 0)) 7), .ref (a (B1 + 8)), .int (gi (U (B1 + 0)) 9), .ref (a (B1 + 9)), .int (gi (U (B1 + 0)) 11), .ref (a (B1 + 10)), .int (gi (U (B1 + 0)) 13), .ref (a (B1 + 11)), .int (gi (U (B1 + 0)) 15), .ref (a (B1 + 12)), .ref (a (B1 + 13)), .ref (a (B1 + 14)), .int (gi (U (B1 + 0)) 19), gv (U (B1 + 0)) 20, .int (gi (U (B1 + 0)) 21), .int (gi (U (B1 + 0)) 22), .int (gi (U (B1 + 0)) 23), .long (gl (U (B1 + 0)) 24), .int (gi (U (B1 + 0)) 25), .int (gi (U (B1 + 0)) 26), .ref (a (B1 + 15)), .int (gi (U (B1 + 0)) 28)]) from sM_0 hT1) rfl 13 (by decide) (htg _ q_986) (fun _ h9 => h9) rfl (by decide +kernel) rfl rfl (Nat.le_of_ble_eq_true rfl) trivial trivial dX7_takeFrom_43 (fun U2 H locs e2 _ _ hP hD hS => ?_)
  refine kk U2 H locs ?_ (fun k hk => th_un e2 hk) ?_ (fun i hi => ?_) hP hD hS
  · rw [e2, shf_upd]
    exact TyM.pt13 hT1 (show shf B1 U 0 = .inr (7, [.ref (a (B1 + 1)), .ref (a (B1 + 2)), .ref (a (B1 + 3)), .ref (a (B1 + 4)), .ref (a (B1 + 5)), .ref (a (B1 + 6)), .ref (a (B1 + 7)), .int (gi (U (B1 + 0)) 7), .ref (a (B1 + 8)), .int (gi (U (B1 + 0)) 9), .ref (a (B1 + 9)), .int (gi (U (B1 + 0)) 11), .ref (a (B1 + 10)), .int (gi (U (B1 + 0)) 13), .ref (a (B1 + 11)), .int (gi (U (B1 + 0)) 15), .ref (a (B1 + 12)), .ref (a (B1 + 13)), .ref (a (B1 + 14)), .int (gi (U (B1 + 0)) 19), gv (U (B1 + 0)) 20, .int (gi (U (B1 + 0)) 21), .int (gi (U (B1 + 0)) 22), .int (gi (U (B1 + 0)) 23), .long (gl (U (B1 + 0)) 24), .int (gi (U (B1 + 0)) 25), .int (gi (U (B1 + 0)) 26), .ref (a (B1 + 15)), .int (gi (U (B1 + 0)) 28)]) from sM_0 hT1) (fM_0_13 hT2)
  · rw [e2, updc_eq]
    rfl
  · exact gv_st e2 (show U (B1 + 0) = .inr (7, [.ref (a (B1 + 1)), .ref (a (B1 + 2)), .ref (a (B1 + 3)), .ref (a (B1 + 4)), .ref (a (B1 + 5)), .ref (a (B1 + 6)), .ref (a (B1 + 7)), .int (gi (U (B1 + 0)) 7), .ref (a (B1 + 8)), .int (gi (U (B1 + 0)) 9), .ref (a (B1 + 9)), .int (gi (U (B1 + 0)) 11), .ref (a (B1 + 10)), .int (gi (U (B1 + 0)) 13), .ref (a (B1 + 11)), .int (gi (U (B1 + 0)) 15), .ref (a (B1 + 12)), .ref (a (B1 + 13)), .ref (a (B1 + 14)), .int (gi (U (B1 + 0)) 19), gv (U (B1 + 0)) 20, .int (gi (U (B1 + 0)) 21), .int (gi (U (B1 + 0)) 22), .int (gi (U (B1 + 0)) 23), .long (gl (U (B1 + 0)) 24), .int (gi (U (B1 + 0)) 25), .int (gi (U (B1 + 0)) 26), .ref (a (B1 + 15)), .int (gi (U (B1 + 0)) 28)]) from sM_0 hT1) hi

set_option maxHeartbeats 4000000 in
set_option maxRecDepth 100000 in
theorem tk_bwaggon {p : Program} {l : Launch} {e : Env} {R : Room} {s : State} {m : MethodId} {args : Array Value} {below : List Frame} {meth : Method} {c : Code} {cells slots : Nat} {Q : State → Prop} {D : va_G} {E : Nat → ClassId} {A : Nat → Prop} {G : Nat → Nat} (hx : p.tables.exec = Jvm.exec) (hb : c.code = cX7_takeFrom) (htg : ∀ w ∈ oh_t, w.before args s = true) (hown : s.vm.findClass RX7 = some m.cls) (hml : c.maxLocals = 2) (hK : va_K D vwCl (oh_ty E) s) (hG : oh_G G A s) (hA : ∀ q, s.heap.size ≤ q → A q) (hRf : 2 ≤ R.frames) (hRl : 44 ≤ R.locals) (hRc : cells ≤ R.cells) (hRs : slots ≤ R.slots) {n : Nat} {a : Nat → Nat} {B1 B2 : Nat} (hB : (B1 = 0 ∧ B2 = 74) ∨ (B1 = 74 ∧ B2 = 0)) (hn : 148 ≤ n) {U : Nat → va_E} (hT1 : TyM (shf B1 a) E (shf B1 U)) (hT2 : TyM (shf B2 a) E (shf B2 U)) {H : Heap} {locs : List Loc} {ls : Array Slot} (hP : va_P D vwCl (oh_W n a U) H) (hD : va_D A (oh_W n a U)) (hS : va_S A s.heap H locs) (hl : lv_has ls 2 [(0, .ref (a (B1 + 0))), (1, .ref (a (B2 + 0)))]) (kk : ∀ (U2 : Nat → va_E) (H : Heap) (locs : List Loc), TyM (shf B1 a) E (shf B1 U2) → (∀ k, (k < B1 + 64 ∨ B1 + 64 + 5 ≤ k) → U2 k = U k) → (∀ i, i < 5 → ∃ g : Nat → Int32, U2 (B1 + (64 + i)) = .inl (E 0, 3, .inl g) ∧ ∀ q, q < 3 → g q = ga (U (B2 + (64 + i))) q) → va_P D vwCl (oh_W n a U2) H → va_D A (oh_W n a U2) → va_S A s.heap H locs → W p l e R s m args below meth c H locs cells slots Q (F0 m 57 ls [])) : W p l e R s m args below meth c H locs cells slots Q (F0 m 46 ls []) := by
  refine lv_aload_n hx hb dX7_takeFrom_46 rfl (lv_at hl 1 rfl) ?_
  refine va_get (D := D) (ci := 7) (v := .ref (a (B2 + 11))) (C := RX7) (T := TX7) (N := 29) hx hb htg ig_7 hown hK hP (B2 + 0) (oh_wg (k := B2 + 0) (by omega) (show U (B2 + 0) = .inr (7, [.ref (a (B2 + 1)), .ref (a (B2 + 2)), .ref (a (B2 + 3)), .ref (a (B2 + 4)), .ref (a (B2 + 5)), .ref (a (B2 + 6)), .ref (a (B2 + 7)), .int (gi (U (B2 + 0)) 7), .ref (a (B2 + 8)), .int (gi (U (B2 + 0)) 9), .ref (a (B2 + 9)), .int (gi (U (B2 + 0)) 11), .ref (a (B2 + 10)), .int (gi (U (B2 + 0)) 13), .ref (a (B2 + 11)), .int (gi (U (B2 + 0)) 15), .ref (a (B2 + 12)), .ref (a (B2 + 13)), .ref (a (B2 + 14)), .int (gi (U (B2 + 0)) 19), gv (U (B2 + 0)) 20, .int (gi (U (B2 + 0)) 21), .int (gi (U (B2 + 0)) 22), .int (gi (U (B2 + 0)) 23), .long (gl (U (B2 + 0)) 24), .int (gi (U (B2 + 0)) 25), .int (gi (U (B2 + 0)) 26), .ref (a (B2 + 15)), .int (gi (U (B2 + 0)) 28)]) from sM_0 hT2)) rfl 14 (by decide) (htg _ q_987) (fun _ h9 => h9) rfl dX7_takeFrom_47 ?_
  refine lv_aload_n hx hb dX7_takeFrom_50 rfl (lv_at hl 0 rfl) ?_
  refine va_get (D := D) (ci := 7) (v := .ref (a (B1 + 11))) (C := RX7) (T := TX7) (N := 29) hx hb htg ig_7 hown hK hP (B1 + 0) (oh_wg (k := B1 + 0) (by omega) (show U (B1 + 0) = .inr (7, [.ref (a (B1 + 1)), .ref (a (B1 + 2)), .ref (a (B1 + 3)), .ref (a (B1 + 4)), .ref (a (B1 + 5)), .ref (a (B1 + 6)), .ref (a (B1 + 7)), .int (gi (U (B1 + 0)) 7), .ref (a (B1 + 8)), .int (gi (U (B1 + 0)) 9), .ref (a (B1 + 9)), .int (gi (U (B1 + 0)) 11), .ref (a (B1 + 10)), .int (gi (U (B1 + 0)) 13), .ref (a (B1 + 11)), .int (gi (U (B1 + 0)) 15), .ref (a (B1 + 12)), .ref (a (B1 + 13)), .ref (a (B1 + 14)), .int (gi (U (B1 + 0)) 19), gv (U (B1 + 0)) 20, .int (gi (U (B1 + 0)) 21), .int (gi (U (B1 + 0)) 22), .int (gi (U (B1 + 0)) 23), .long (gl (U (B1 + 0)) 24), .int (gi (U (B1 + 0)) 25), .int (gi (U (B1 + 0)) 26), .ref (a (B1 + 15)), .int (gi (U (B1 + 0)) 28)]) from sM_0 hT1)) rfl 14 (by decide) (htg _ q_987) (fun _ h9 => h9) rfl dX7_takeFrom_51 ?_
  have s1 := (Eq.trans (show U (B2 + 11) = .inl (E 2, 5, .inr (.inr (.inr (.inr (qf (shf B2 a) 5 64))))) from sM_11 hT2) (congrArg (fun f => (.inl (E 2, 5, .inr (.inr (.inr (.inr f)))) : va_E)) qf_sh))
  have s2 := (Eq.trans (show U (B1 + 11) = .inl (E 2, 5, .inr (.inr (.inr (.inr (qf (shf B1 a) 5 64))))) from sM_11 hT1) (congrArg (fun f => (.inl (E 2, 5, .inr (.inr (.inr (.inr f)))) : va_E)) qf_sh))
  have r1 : ∀ i, i < 5 → U (B2 + 64 + i) = .inl (E 0, 3, .inl (ga (U (B2 + 64 + i)))) := fun i hi => by rw [Nat.add_assoc]; exact (hT2.bwaggon hi).1
  have r2 : ∀ i, i < 5 → U (B1 + 64 + i) = .inl (E 0, 3, .inl (ga (U (B1 + 64 + i)))) := fun i hi => by rw [Nat.add_assoc]; exact (hT1.bwaggon hi).1
  refine tm_Sv (As := [.ref (a (B2 + 11)), .ref (a (B1 + 11))]) (rest := []) ⟨hx, hb, hml, hown, htg⟩ (c_X7_overAll l D E G _ n a U (B2 + 11) (B1 + 11) (B2 + 64) (B1 + 64) 5 3 (by omega) (by omega) (by omega) (by omega) (by omega) (by omega) (by omega) (fun i hi => by omega) (fun i hi => by omega) s1 s2 r1 r2) (va_cwS 2 htg (oh_gS q_1431 q_1432 q_73 q_1433) rfl rfl rfl pdX7_overAll ⟨by omega, by omega⟩) hK hP hD hG hS hA rfl hl.1 rfl (Nat.le_of_ble_eq_true rfl) dX7_takeFrom_54 ⟨hRc, hRs⟩ (fun U2 H locs hq hP hD hS => ?_)
  have hE : ∀ k, (k < B1 + 64 ∨ B1 + 64 + 5 ≤ k) → U2 k = U k := fun k hk => hq.2 k (fun i hi => by omega)
  have hc : ∀ i, i < 5 → ∃ g : Nat → Int32, U2 (B1 + (64 + i)) = .inl (E 0, 3, .inl g) ∧ ∀ q, q < 3 → g q = ga (U (B2 + (64 + i))) q := fun i hi => by
    obtain ⟨g, h1, h2⟩ := hq.1 i hi
    exact ⟨g, by rw [← Nat.add_assoc]; exact h1, fun q hq => by rw [← Nat.add_assoc]; exact h2 q hq⟩
  exact kk U2 H locs (TyM.cpwaggon hT1 hT2 (fun k hk hn => hE (B1 + k) (by omega)) hc) hE hc hP hD hS

set_option maxHeartbeats 4000000 in
set_option maxRecDepth 100000 in
theorem tk_f15 {p : Program} {l : Launch} {e : Env} {R : Room} {s : State} {m : MethodId} {args : Array Value} {below : List Frame} {meth : Method} {c : Code} {cells slots : Nat} {Q : State → Prop} {D : va_G} {E : Nat → ClassId} {A : Nat → Prop} {G : Nat → Nat} (hx : p.tables.exec = Jvm.exec) (hb : c.code = cX7_takeFrom) (htg : ∀ w ∈ oh_t, w.before args s = true) (hown : s.vm.findClass RX7 = some m.cls) (hml : c.maxLocals = 2) (hK : va_K D vwCl (oh_ty E) s) (hG : oh_G G A s) (hA : ∀ q, s.heap.size ≤ q → A q) (hRf : 2 ≤ R.frames) (hRl : 44 ≤ R.locals) (hRc : cells ≤ R.cells) (hRs : slots ≤ R.slots) {n : Nat} {a : Nat → Nat} {B1 B2 : Nat} (hB : (B1 = 0 ∧ B2 = 74) ∨ (B1 = 74 ∧ B2 = 0)) (hn : 148 ≤ n) {U : Nat → va_E} (hT1 : TyM (shf B1 a) E (shf B1 U)) (hT2 : TyM (shf B2 a) E (shf B2 U)) {H : Heap} {locs : List Loc} {ls : Array Slot} (hP : va_P D vwCl (oh_W n a U) H) (hD : va_D A (oh_W n a U)) (hS : va_S A s.heap H locs) (hl : lv_has ls 2 [(0, .ref (a (B1 + 0))), (1, .ref (a (B2 + 0)))]) (kk : ∀ (U2 : Nat → va_E) (H : Heap) (locs : List Loc), TyM (shf B1 a) E (shf B1 U2) → (∀ k, k ≠ B1 + 0 → U2 k = U k) → (gi (U2 (B1 + 0)) 15 = gi (U (B2 + 0)) 15) → (∀ i, i ≠ 15 → gv (U2 (B1 + 0)) i = gv (U (B1 + 0)) i) → va_P D vwCl (oh_W n a U2) H → va_D A (oh_W n a U2) → va_S A s.heap H locs → W p l e R s m args below meth c H locs cells slots Q (F0 m 65 ls [])) : W p l e R s m args below meth c H locs cells slots Q (F0 m 57 ls []) := by
  refine lv_aload_n hx hb dX7_takeFrom_57 rfl (lv_at hl 0 rfl) ?_
  refine lv_aload_n hx hb dX7_takeFrom_58 rfl (lv_at hl 1 rfl) ?_
  refine va_get (D := D) (ci := 7) (v := .int (gi (U (B2 + 0)) 15)) (C := RX7) (T := TX7) (N := 29) hx hb htg ig_7 hown hK hP (B2 + 0) (oh_wg (k := B2 + 0) (by omega) (show U (B2 + 0) = .inr (7, [.ref (a (B2 + 1)), .ref (a (B2 + 2)), .ref (a (B2 + 3)), .ref (a (B2 + 4)), .ref (a (B2 + 5)), .ref (a (B2 + 6)), .ref (a (B2 + 7)), .int (gi (U (B2 + 0)) 7), .ref (a (B2 + 8)), .int (gi (U (B2 + 0)) 9), .ref (a (B2 + 9)), .int (gi (U (B2 + 0)) 11), .ref (a (B2 + 10)), .int (gi (U (B2 + 0)) 13), .ref (a (B2 + 11)), .int (gi (U (B2 + 0)) 15), .ref (a (B2 + 12)), .ref (a (B2 + 13)), .ref (a (B2 + 14)), .int (gi (U (B2 + 0)) 19), gv (U (B2 + 0)) 20, .int (gi (U (B2 + 0)) 21), .int (gi (U (B2 + 0)) 22), .int (gi (U (B2 + 0)) 23), .long (gl (U (B2 + 0)) 24), .int (gi (U (B2 + 0)) 25), .int (gi (U (B2 + 0)) 26), .ref (a (B2 + 15)), .int (gi (U (B2 + 0)) 28)]) from sM_0 hT2)) rfl 15 (by decide) (htg _ q_988) (fun _ h9 => h9) rfl dX7_takeFrom_59 ?_
  refine th_put (Tp := fun _ => True) (Rl := fun _ => True) (ci := 7) (v := .int (gi (U (B2 + 0)) 15)) (ty := .int) (CC := RX7) (T := TX7) (N := 29) hx hb htg ig_7 tyX7 tyX7_ok nmX7 hown hK hP hD hS (B1 + 0) (by omega) (show U (B1 + 0) = .inr (7, [.ref (a (B1 + 1)), .ref (a (B1 + 2)), .ref (a (B1 + 3)), .ref (a (B1 + 4)), .ref (a (B1 + 5)), .ref (a (B1 + 6)), .ref (a (B1 + 7)), .int (gi (U (B1 + 0)) 7), .ref (a (B1 + 8)), .int (gi (U (B1 + 0)) 9), .ref (a (B1 + 9)), .int (gi (U (B1 + 0)) 11), .ref (a (B1 + 10)), .int (gi (U (B1 + 0)) 13), .ref (a (B1 + 11)), .int (gi (U (B1 + 0)) 15), .ref (a (B1 + 12)), .ref (a (B1 + 13)), .ref (a (B1 + 14)), .int (gi (U (B1 + 0)) 19), gv (U (B1 + 0)) 20, .int (gi (U (B1 + 0)) 21), .int (gi (U (B1 + 0)) 22), .int (gi (U (B1 + 0)) 23), .long (gl (U (B1 + 0)) 24), .int (gi (U (B1 + 0)) 25), .int (gi (U (B1 + 0)) 26), .ref (a (B1 + 15)), .int (gi (U (B1 + 0)) 28)]) from sM_0 hT1) rfl 15 (by decide) (htg _ q_988) (fun _ h9 => h9) rfl (by decide +kernel) rfl rfl (Nat.le_of_ble_eq_true rfl) trivial trivial dX7_takeFrom_62 (fun U2 H locs e2 _ _ hP hD hS => ?_)
  refine kk U2 H locs ?_ (fun k hk => th_un e2 hk) ?_ (fun i hi => ?_) hP hD hS
  · rw [e2, shf_upd]
    exact TyM.pt15 hT1 (show shf B1 U 0 = .inr (7, [.ref (a (B1 + 1)), .ref (a (B1 + 2)), .ref (a (B1 + 3)), .ref (a (B1 + 4)), .ref (a (B1 + 5)), .ref (a (B1 + 6)), .ref (a (B1 + 7)), .int (gi (U (B1 + 0)) 7), .ref (a (B1 + 8)), .int (gi (U (B1 + 0)) 9), .ref (a (B1 + 9)), .int (gi (U (B1 + 0)) 11), .ref (a (B1 + 10)), .int (gi (U (B1 + 0)) 13), .ref (a (B1 + 11)), .int (gi (U (B1 + 0)) 15), .ref (a (B1 + 12)), .ref (a (B1 + 13)), .ref (a (B1 + 14)), .int (gi (U (B1 + 0)) 19), gv (U (B1 + 0)) 20, .int (gi (U (B1 + 0)) 21), .int (gi (U (B1 + 0)) 22), .int (gi (U (B1 + 0)) 23), .long (gl (U (B1 + 0)) 24), .int (gi (U (B1 + 0)) 25), .int (gi (U (B1 + 0)) 26), .ref (a (B1 + 15)), .int (gi (U (B1 + 0)) 28)]) from sM_0 hT1) (fM_0_15 hT2)
  · rw [e2, updc_eq]
    rfl
  · exact gv_st e2 (show U (B1 + 0) = .inr (7, [.ref (a (B1 + 1)), .ref (a (B1 + 2)), .ref (a (B1 + 3)), .ref (a (B1 + 4)), .ref (a (B1 + 5)), .ref (a (B1 + 6)), .ref (a (B1 + 7)), .int (gi (U (B1 + 0)) 7), .ref (a (B1 + 8)), .int (gi (U (B1 + 0)) 9), .ref (a (B1 + 9)), .int (gi (U (B1 + 0)) 11), .ref (a (B1 + 10)), .int (gi (U (B1 + 0)) 13), .ref (a (B1 + 11)), .int (gi (U (B1 + 0)) 15), .ref (a (B1 + 12)), .ref (a (B1 + 13)), .ref (a (B1 + 14)), .int (gi (U (B1 + 0)) 19), gv (U (B1 + 0)) 20, .int (gi (U (B1 + 0)) 21), .int (gi (U (B1 + 0)) 22), .int (gi (U (B1 + 0)) 23), .long (gl (U (B1 + 0)) 24), .int (gi (U (B1 + 0)) 25), .int (gi (U (B1 + 0)) 26), .ref (a (B1 + 15)), .int (gi (U (B1 + 0)) 28)]) from sM_0 hT1) hi

set_option maxHeartbeats 4000000 in
set_option maxRecDepth 100000 in
theorem tk_bpart {p : Program} {l : Launch} {e : Env} {R : Room} {s : State} {m : MethodId} {args : Array Value} {below : List Frame} {meth : Method} {c : Code} {cells slots : Nat} {Q : State → Prop} {D : va_G} {E : Nat → ClassId} {A : Nat → Prop} {G : Nat → Nat} (hx : p.tables.exec = Jvm.exec) (hb : c.code = cX7_takeFrom) (htg : ∀ w ∈ oh_t, w.before args s = true) (hown : s.vm.findClass RX7 = some m.cls) (hml : c.maxLocals = 2) (hK : va_K D vwCl (oh_ty E) s) (hG : oh_G G A s) (hA : ∀ q, s.heap.size ≤ q → A q) (hRf : 2 ≤ R.frames) (hRl : 44 ≤ R.locals) (hRc : cells ≤ R.cells) (hRs : slots ≤ R.slots) {n : Nat} {a : Nat → Nat} {B1 B2 : Nat} (hB : (B1 = 0 ∧ B2 = 74) ∨ (B1 = 74 ∧ B2 = 0)) (hn : 148 ≤ n) {U : Nat → va_E} (hT1 : TyM (shf B1 a) E (shf B1 U)) (hT2 : TyM (shf B2 a) E (shf B2 U)) {H : Heap} {locs : List Loc} {ls : Array Slot} (hP : va_P D vwCl (oh_W n a U) H) (hD : va_D A (oh_W n a U)) (hS : va_S A s.heap H locs) (hl : lv_has ls 2 [(0, .ref (a (B1 + 0))), (1, .ref (a (B2 + 0)))]) (kk : ∀ (U2 : Nat → va_E) (H : Heap) (locs : List Loc), TyM (shf B1 a) E (shf B1 U2) → (∀ k, (k < B1 + 69 ∨ B1 + 69 + 5 ≤ k) → U2 k = U k) → (∀ i, i < 5 → ∃ g : Nat → Int32, U2 (B1 + (69 + i)) = .inl (E 0, 2, .inl g) ∧ ∀ q, q < 2 → g q = ga (U (B2 + (69 + i))) q) → va_P D vwCl (oh_W n a U2) H → va_D A (oh_W n a U2) → va_S A s.heap H locs → W p l e R s m args below meth c H locs cells slots Q (F0 m 76 ls [])) : W p l e R s m args below meth c H locs cells slots Q (F0 m 65 ls []) := by
  refine lv_aload_n hx hb dX7_takeFrom_65 rfl (lv_at hl 1 rfl) ?_
  refine va_get (D := D) (ci := 7) (v := .ref (a (B2 + 12))) (C := RX7) (T := TX7) (N := 29) hx hb htg ig_7 hown hK hP (B2 + 0) (oh_wg (k := B2 + 0) (by omega) (show U (B2 + 0) = .inr (7, [.ref (a (B2 + 1)), .ref (a (B2 + 2)), .ref (a (B2 + 3)), .ref (a (B2 + 4)), .ref (a (B2 + 5)), .ref (a (B2 + 6)), .ref (a (B2 + 7)), .int (gi (U (B2 + 0)) 7), .ref (a (B2 + 8)), .int (gi (U (B2 + 0)) 9), .ref (a (B2 + 9)), .int (gi (U (B2 + 0)) 11), .ref (a (B2 + 10)), .int (gi (U (B2 + 0)) 13), .ref (a (B2 + 11)), .int (gi (U (B2 + 0)) 15), .ref (a (B2 + 12)), .ref (a (B2 + 13)), .ref (a (B2 + 14)), .int (gi (U (B2 + 0)) 19), gv (U (B2 + 0)) 20, .int (gi (U (B2 + 0)) 21), .int (gi (U (B2 + 0)) 22), .int (gi (U (B2 + 0)) 23), .long (gl (U (B2 + 0)) 24), .int (gi (U (B2 + 0)) 25), .int (gi (U (B2 + 0)) 26), .ref (a (B2 + 15)), .int (gi (U (B2 + 0)) 28)]) from sM_0 hT2)) rfl 16 (by decide) (htg _ q_989) (fun _ h9 => h9) rfl dX7_takeFrom_66 ?_
  refine lv_aload_n hx hb dX7_takeFrom_69 rfl (lv_at hl 0 rfl) ?_
  refine va_get (D := D) (ci := 7) (v := .ref (a (B1 + 12))) (C := RX7) (T := TX7) (N := 29) hx hb htg ig_7 hown hK hP (B1 + 0) (oh_wg (k := B1 + 0) (by omega) (show U (B1 + 0) = .inr (7, [.ref (a (B1 + 1)), .ref (a (B1 + 2)), .ref (a (B1 + 3)), .ref (a (B1 + 4)), .ref (a (B1 + 5)), .ref (a (B1 + 6)), .ref (a (B1 + 7)), .int (gi (U (B1 + 0)) 7), .ref (a (B1 + 8)), .int (gi (U (B1 + 0)) 9), .ref (a (B1 + 9)), .int (gi (U (B1 + 0)) 11), .ref (a (B1 + 10)), .int (gi (U (B1 + 0)) 13), .ref (a (B1 + 11)), .int (gi (U (B1 + 0)) 15), .ref (a (B1 + 12)), .ref (a (B1 + 13)), .ref (a (B1 + 14)), .int (gi (U (B1 + 0)) 19), gv (U (B1 + 0)) 20, .int (gi (U (B1 + 0)) 21), .int (gi (U (B1 + 0)) 22), .int (gi (U (B1 + 0)) 23), .long (gl (U (B1 + 0)) 24), .int (gi (U (B1 + 0)) 25), .int (gi (U (B1 + 0)) 26), .ref (a (B1 + 15)), .int (gi (U (B1 + 0)) 28)]) from sM_0 hT1)) rfl 16 (by decide) (htg _ q_989) (fun _ h9 => h9) rfl dX7_takeFrom_70 ?_
  have s1 := (Eq.trans (show U (B2 + 12) = .inl (E 2, 5, .inr (.inr (.inr (.inr (qf (shf B2 a) 5 69))))) from sM_12 hT2) (congrArg (fun f => (.inl (E 2, 5, .inr (.inr (.inr (.inr f)))) : va_E)) qf_sh))
  have s2 := (Eq.trans (show U (B1 + 12) = .inl (E 2, 5, .inr (.inr (.inr (.inr (qf (shf B1 a) 5 69))))) from sM_12 hT1) (congrArg (fun f => (.inl (E 2, 5, .inr (.inr (.inr (.inr f)))) : va_E)) qf_sh))
  have r1 : ∀ i, i < 5 → U (B2 + 69 + i) = .inl (E 0, 2, .inl (ga (U (B2 + 69 + i)))) := fun i hi => by rw [Nat.add_assoc]; exact (hT2.bpart hi).1
  have r2 : ∀ i, i < 5 → U (B1 + 69 + i) = .inl (E 0, 2, .inl (ga (U (B1 + 69 + i)))) := fun i hi => by rw [Nat.add_assoc]; exact (hT1.bpart hi).1
  refine tm_Sv (As := [.ref (a (B2 + 12)), .ref (a (B1 + 12))]) (rest := []) ⟨hx, hb, hml, hown, htg⟩ (c_X7_overAll l D E G _ n a U (B2 + 12) (B1 + 12) (B2 + 69) (B1 + 69) 5 2 (by omega) (by omega) (by omega) (by omega) (by omega) (by omega) (by omega) (fun i hi => by omega) (fun i hi => by omega) s1 s2 r1 r2) (va_cwS 2 htg (oh_gS q_1431 q_1432 q_73 q_1433) rfl rfl rfl pdX7_overAll ⟨by omega, by omega⟩) hK hP hD hG hS hA rfl hl.1 rfl (Nat.le_of_ble_eq_true rfl) dX7_takeFrom_73 ⟨hRc, hRs⟩ (fun U2 H locs hq hP hD hS => ?_)
  have hE : ∀ k, (k < B1 + 69 ∨ B1 + 69 + 5 ≤ k) → U2 k = U k := fun k hk => hq.2 k (fun i hi => by omega)
  have hc : ∀ i, i < 5 → ∃ g : Nat → Int32, U2 (B1 + (69 + i)) = .inl (E 0, 2, .inl g) ∧ ∀ q, q < 2 → g q = ga (U (B2 + (69 + i))) q := fun i hi => by
    obtain ⟨g, h1, h2⟩ := hq.1 i hi
    exact ⟨g, by rw [← Nat.add_assoc]; exact h1, fun q hq => by rw [← Nat.add_assoc]; exact h2 q hq⟩
  exact kk U2 H locs (TyM.cppart hT1 hT2 (fun k hk hn => hE (B1 + k) (by omega)) hc) hE hc hP hD hS

set_option maxHeartbeats 4000000 in
set_option maxRecDepth 100000 in
theorem tk_c13 {p : Program} {l : Launch} {e : Env} {R : Room} {s : State} {m : MethodId} {args : Array Value} {below : List Frame} {meth : Method} {c : Code} {cells slots : Nat} {Q : State → Prop} {D : va_G} {E : Nat → ClassId} {A : Nat → Prop} {G : Nat → Nat} (hx : p.tables.exec = Jvm.exec) (hb : c.code = cX7_takeFrom) (htg : ∀ w ∈ oh_t, w.before args s = true) (hown : s.vm.findClass RX7 = some m.cls) (hml : c.maxLocals = 2) (hK : va_K D vwCl (oh_ty E) s) (hG : oh_G G A s) (hA : ∀ q, s.heap.size ≤ q → A q) (hRf : 2 ≤ R.frames) (hRl : 44 ≤ R.locals) (hRc : cells ≤ R.cells) (hRs : slots ≤ R.slots) {n : Nat} {a : Nat → Nat} {B1 B2 : Nat} (hB : (B1 = 0 ∧ B2 = 74) ∨ (B1 = 74 ∧ B2 = 0)) (hn : 148 ≤ n) {U : Nat → va_E} (hT1 : TyM (shf B1 a) E (shf B1 U)) (hT2 : TyM (shf B2 a) E (shf B2 U)) {H : Heap} {locs : List Loc} {ls : Array Slot} (hP : va_P D vwCl (oh_W n a U) H) (hD : va_D A (oh_W n a U)) (hS : va_S A s.heap H locs) (hl : lv_has ls 2 [(0, .ref (a (B1 + 0))), (1, .ref (a (B2 + 0)))]) (kk : ∀ (U2 : Nat → va_E) (H : Heap) (locs : List Loc), TyM (shf B1 a) E (shf B1 U2) → (∀ k, k ≠ B1 + 13 → U2 k = U k) → (∀ q, q < 3 → ga (U2 (B1 + 13)) q = ga (U (B2 + 13)) q) → va_P D vwCl (oh_W n a U2) H → va_D A (oh_W n a U2) → va_S A s.heap H locs → W p l e R s m args below meth c H locs cells slots Q (F0 m 87 ls [])) : W p l e R s m args below meth c H locs cells slots Q (F0 m 76 ls []) := by
  refine lv_aload_n hx hb dX7_takeFrom_76 rfl (lv_at hl 1 rfl) ?_
  refine va_get (D := D) (ci := 7) (v := .ref (a (B2 + 13))) (C := RX7) (T := TX7) (N := 29) hx hb htg ig_7 hown hK hP (B2 + 0) (oh_wg (k := B2 + 0) (by omega) (show U (B2 + 0) = .inr (7, [.ref (a (B2 + 1)), .ref (a (B2 + 2)), .ref (a (B2 + 3)), .ref (a (B2 + 4)), .ref (a (B2 + 5)), .ref (a (B2 + 6)), .ref (a (B2 + 7)), .int (gi (U (B2 + 0)) 7), .ref (a (B2 + 8)), .int (gi (U (B2 + 0)) 9), .ref (a (B2 + 9)), .int (gi (U (B2 + 0)) 11), .ref (a (B2 + 10)), .int (gi (U (B2 + 0)) 13), .ref (a (B2 + 11)), .int (gi (U (B2 + 0)) 15), .ref (a (B2 + 12)), .ref (a (B2 + 13)), .ref (a (B2 + 14)), .int (gi (U (B2 + 0)) 19), gv (U (B2 + 0)) 20, .int (gi (U (B2 + 0)) 21), .int (gi (U (B2 + 0)) 22), .int (gi (U (B2 + 0)) 23), .long (gl (U (B2 + 0)) 24), .int (gi (U (B2 + 0)) 25), .int (gi (U (B2 + 0)) 26), .ref (a (B2 + 15)), .int (gi (U (B2 + 0)) 28)]) from sM_0 hT2)) rfl 17 (by decide) (htg _ q_990) (fun _ h9 => h9) rfl dX7_takeFrom_77 ?_
  refine lv_aload_n hx hb dX7_takeFrom_80 rfl (lv_at hl 0 rfl) ?_
  refine va_get (D := D) (ci := 7) (v := .ref (a (B1 + 13))) (C := RX7) (T := TX7) (N := 29) hx hb htg ig_7 hown hK hP (B1 + 0) (oh_wg (k := B1 + 0) (by omega) (show U (B1 + 0) = .inr (7, [.ref (a (B1 + 1)), .ref (a (B1 + 2)), .ref (a (B1 + 3)), .ref (a (B1 + 4)), .ref (a (B1 + 5)), .ref (a (B1 + 6)), .ref (a (B1 + 7)), .int (gi (U (B1 + 0)) 7), .ref (a (B1 + 8)), .int (gi (U (B1 + 0)) 9), .ref (a (B1 + 9)), .int (gi (U (B1 + 0)) 11), .ref (a (B1 + 10)), .int (gi (U (B1 + 0)) 13), .ref (a (B1 + 11)), .int (gi (U (B1 + 0)) 15), .ref (a (B1 + 12)), .ref (a (B1 + 13)), .ref (a (B1 + 14)), .int (gi (U (B1 + 0)) 19), gv (U (B1 + 0)) 20, .int (gi (U (B1 + 0)) 21), .int (gi (U (B1 + 0)) 22), .int (gi (U (B1 + 0)) 23), .long (gl (U (B1 + 0)) 24), .int (gi (U (B1 + 0)) 25), .int (gi (U (B1 + 0)) 26), .ref (a (B1 + 15)), .int (gi (U (B1 + 0)) 28)]) from sM_0 hT1)) rfl 17 (by decide) (htg _ q_990) (fun _ h9 => h9) rfl dX7_takeFrom_81 ?_
  refine tm_Sv (As := [.ref (a (B2 + 13)), .ref (a (B1 + 13))]) (rest := []) ⟨hx, hb, hml, hown, htg⟩ (c_X7_over l D E G _ n a U (B2 + 13) (B1 + 13) 3 (by omega) (by omega) (by omega) (by omega) (show U (B2 + 13) = _ from sM_13 hT2) (show U (B1 + 13) = _ from sM_13 hT1)) (va_cwS 2 htg (oh_gS q_1434 q_1435 q_73 q_1436) rfl rfl rfl pdX7_over ⟨show 0 + 1 ≤ R.frames by omega, show 8 + (3 + 11) + 0 ≤ R.locals by omega⟩) hK hP hD hG hS hA rfl hl.1 rfl (Nat.le_of_ble_eq_true rfl) dX7_takeFrom_84 ⟨hRc, hRs⟩ (fun U2 H locs hq hP hD hS => ?_)
  obtain ⟨g, e2, hg⟩ := hq
  refine kk U2 H locs ?_ (fun k hk => th_un e2 hk) (fun q hq => ?_) hP hD hS
  · rw [e2, shf_upd]
    exact hT1.up 13 (by decide) (tA_cp (tM_13 hT2) rfl hg)
  · rw [st_ga e2, hg q hq]

set_option maxHeartbeats 4000000 in
set_option maxRecDepth 100000 in
theorem tk_c14 {p : Program} {l : Launch} {e : Env} {R : Room} {s : State} {m : MethodId} {args : Array Value} {below : List Frame} {meth : Method} {c : Code} {cells slots : Nat} {Q : State → Prop} {D : va_G} {E : Nat → ClassId} {A : Nat → Prop} {G : Nat → Nat} (hx : p.tables.exec = Jvm.exec) (hb : c.code = cX7_takeFrom) (htg : ∀ w ∈ oh_t, w.before args s = true) (hown : s.vm.findClass RX7 = some m.cls) (hml : c.maxLocals = 2) (hK : va_K D vwCl (oh_ty E) s) (hG : oh_G G A s) (hA : ∀ q, s.heap.size ≤ q → A q) (hRf : 2 ≤ R.frames) (hRl : 44 ≤ R.locals) (hRc : cells ≤ R.cells) (hRs : slots ≤ R.slots) {n : Nat} {a : Nat → Nat} {B1 B2 : Nat} (hB : (B1 = 0 ∧ B2 = 74) ∨ (B1 = 74 ∧ B2 = 0)) (hn : 148 ≤ n) {U : Nat → va_E} (hT1 : TyM (shf B1 a) E (shf B1 U)) (hT2 : TyM (shf B2 a) E (shf B2 U)) {H : Heap} {locs : List Loc} {ls : Array Slot} (hP : va_P D vwCl (oh_W n a U) H) (hD : va_D A (oh_W n a U)) (hS : va_S A s.heap H locs) (hl : lv_has ls 2 [(0, .ref (a (B1 + 0))), (1, .ref (a (B2 + 0)))]) (kk : ∀ (U2 : Nat → va_E) (H : Heap) (locs : List Loc), TyM (shf B1 a) E (shf B1 U2) → (∀ k, k ≠ B1 + 14 → U2 k = U k) → (∀ q, q < 7 → ga (U2 (B1 + 14)) q = ga (U (B2 + 14)) q) → va_P D vwCl (oh_W n a U2) H → va_D A (oh_W n a U2) → va_S A s.heap H locs → W p l e R s m args below meth c H locs cells slots Q (F0 m 98 ls [])) : W p l e R s m args below meth c H locs cells slots Q (F0 m 87 ls []) := by
  refine lv_aload_n hx hb dX7_takeFrom_87 rfl (lv_at hl 1 rfl) ?_
  refine va_get (D := D) (ci := 7) (v := .ref (a (B2 + 14))) (C := RX7) (T := TX7) (N := 29) hx hb htg ig_7 hown hK hP (B2 + 0) (oh_wg (k := B2 + 0) (by omega) (show U (B2 + 0) = .inr (7, [.ref (a (B2 + 1)), .ref (a (B2 + 2)), .ref (a (B2 + 3)), .ref (a (B2 + 4)), .ref (a (B2 + 5)), .ref (a (B2 + 6)), .ref (a (B2 + 7)), .int (gi (U (B2 + 0)) 7), .ref (a (B2 + 8)), .int (gi (U (B2 + 0)) 9), .ref (a (B2 + 9)), .int (gi (U (B2 + 0)) 11), .ref (a (B2 + 10)), .int (gi (U (B2 + 0)) 13), .ref (a (B2 + 11)), .int (gi (U (B2 + 0)) 15), .ref (a (B2 + 12)), .ref (a (B2 + 13)), .ref (a (B2 + 14)), .int (gi (U (B2 + 0)) 19), gv (U (B2 + 0)) 20, .int (gi (U (B2 + 0)) 21), .int (gi (U (B2 + 0)) 22), .int (gi (U (B2 + 0)) 23), .long (gl (U (B2 + 0)) 24), .int (gi (U (B2 + 0)) 25), .int (gi (U (B2 + 0)) 26), .ref (a (B2 + 15)), .int (gi (U (B2 + 0)) 28)]) from sM_0 hT2)) rfl 18 (by decide) (htg _ q_991) (fun _ h9 => h9) rfl dX7_takeFrom_88 ?_
  refine lv_aload_n hx hb dX7_takeFrom_91 rfl (lv_at hl 0 rfl) ?_
  refine va_get (D := D) (ci := 7) (v := .ref (a (B1 + 14))) (C := RX7) (T := TX7) (N := 29) hx hb htg ig_7 hown hK hP (B1 + 0) (oh_wg (k := B1 + 0) (by omega) (show U (B1 + 0) = .inr (7, [.ref (a (B1 + 1)), .ref (a (B1 + 2)), .ref (a (B1 + 3)), .ref (a (B1 + 4)), .ref (a (B1 + 5)), .ref (a (B1 + 6)), .ref (a (B1 + 7)), .int (gi (U (B1 + 0)) 7), .ref (a (B1 + 8)), .int (gi (U (B1 + 0)) 9), .ref (a (B1 + 9)), .int (gi (U (B1 + 0)) 11), .ref (a (B1 + 10)), .int (gi (U (B1 + 0)) 13), .ref (a (B1 + 11)), .int (gi (U (B1 + 0)) 15), .ref (a (B1 + 12)), .ref (a (B1 + 13)), .ref (a (B1 + 14)), .int (gi (U (B1 + 0)) 19), gv (U (B1 + 0)) 20, .int (gi (U (B1 + 0)) 21), .int (gi (U (B1 + 0)) 22), .int (gi (U (B1 + 0)) 23), .long (gl (U (B1 + 0)) 24), .int (gi (U (B1 + 0)) 25), .int (gi (U (B1 + 0)) 26), .ref (a (B1 + 15)), .int (gi (U (B1 + 0)) 28)]) from sM_0 hT1)) rfl 18 (by decide) (htg _ q_991) (fun _ h9 => h9) rfl dX7_takeFrom_92 ?_
  refine tm_Sv (As := [.ref (a (B2 + 14)), .ref (a (B1 + 14))]) (rest := []) ⟨hx, hb, hml, hown, htg⟩ (c_X7_over l D E G _ n a U (B2 + 14) (B1 + 14) 7 (by omega) (by omega) (by omega) (by omega) (show U (B2 + 14) = _ from sM_14 hT2) (show U (B1 + 14) = _ from sM_14 hT1)) (va_cwS 2 htg (oh_gS q_1434 q_1435 q_73 q_1436) rfl rfl rfl pdX7_over ⟨show 0 + 1 ≤ R.frames by omega, show 8 + (3 + 11) + 0 ≤ R.locals by omega⟩) hK hP hD hG hS hA rfl hl.1 rfl (Nat.le_of_ble_eq_true rfl) dX7_takeFrom_95 ⟨hRc, hRs⟩ (fun U2 H locs hq hP hD hS => ?_)
  obtain ⟨g, e2, hg⟩ := hq
  refine kk U2 H locs ?_ (fun k hk => th_un e2 hk) (fun q hq => ?_) hP hD hS
  · rw [e2, shf_upd]
    exact hT1.up 14 (by decide) (tA_cp (tM_14 hT2) rfl hg)
  · rw [st_ga e2, hg q hq]

set_option maxHeartbeats 4000000 in
set_option maxRecDepth 100000 in
theorem tk_f19 {p : Program} {l : Launch} {e : Env} {R : Room} {s : State} {m : MethodId} {args : Array Value} {below : List Frame} {meth : Method} {c : Code} {cells slots : Nat} {Q : State → Prop} {D : va_G} {E : Nat → ClassId} {A : Nat → Prop} {G : Nat → Nat} (hx : p.tables.exec = Jvm.exec) (hb : c.code = cX7_takeFrom) (htg : ∀ w ∈ oh_t, w.before args s = true) (hown : s.vm.findClass RX7 = some m.cls) (hml : c.maxLocals = 2) (hK : va_K D vwCl (oh_ty E) s) (hG : oh_G G A s) (hA : ∀ q, s.heap.size ≤ q → A q) (hRf : 2 ≤ R.frames) (hRl : 44 ≤ R.locals) (hRc : cells ≤ R.cells) (hRs : slots ≤ R.slots) {n : Nat} {a : Nat → Nat} {B1 B2 : Nat} (hB : (B1 = 0 ∧ B2 = 74) ∨ (B1 = 74 ∧ B2 = 0)) (hn : 148 ≤ n) {U : Nat → va_E} (hT1 : TyM (shf B1 a) E (shf B1 U)) (hT2 : TyM (shf B2 a) E (shf B2 U)) {H : Heap} {locs : List Loc} {ls : Array Slot} (hP : va_P D vwCl (oh_W n a U) H) (hD : va_D A (oh_W n a U)) (hS : va_S A s.heap H locs) (hl : lv_has ls 2 [(0, .ref (a (B1 + 0))), (1, .ref (a (B2 + 0)))]) (kk : ∀ (U2 : Nat → va_E) (H : Heap) (locs : List Loc), TyM (shf B1 a) E (shf B1 U2) → (∀ k, k ≠ B1 + 0 → U2 k = U k) → (gi (U2 (B1 + 0)) 19 = gi (U (B2 + 0)) 19) → (∀ i, i ≠ 19 → gv (U2 (B1 + 0)) i = gv (U (B1 + 0)) i) → va_P D vwCl (oh_W n a U2) H → va_D A (oh_W n a U2) → va_S A s.heap H locs → W p l e R s m args below meth c H locs cells slots Q (F0 m 106 ls [])) : W p l e R s m args below meth c H locs cells slots Q (F0 m 98 ls []) := by
  refine lv_aload_n hx hb dX7_takeFrom_98 rfl (lv_at hl 0 rfl) ?_
  refine lv_aload_n hx hb dX7_takeFrom_99 rfl (lv_at hl 1 rfl) ?_
  refine va_get (D := D) (ci := 7) (v := .int (gi (U (B2 + 0)) 19)) (C := RX7) (T := TX7) (N := 29) hx hb htg ig_7 hown hK hP (B2 + 0) (oh_wg (k := B2 + 0) (by omega) (show U (B2 + 0) = .inr (7, [.ref (a (B2 + 1)), .ref (a (B2 + 2)), .ref (a (B2 + 3)), .ref (a (B2 + 4)), .ref (a (B2 + 5)), .ref (a (B2 + 6)), .ref (a (B2 + 7)), .int (gi (U (B2 + 0)) 7), .ref (a (B2 + 8)), .int (gi (U (B2 + 0)) 9), .ref (a (B2 + 9)), .int (gi (U (B2 + 0)) 11), .ref (a (B2 + 10)), .int (gi (U (B2 + 0)) 13), .ref (a (B2 + 11)), .int (gi (U (B2 + 0)) 15), .ref (a (B2 + 12)), .ref (a (B2 + 13)), .ref (a (B2 + 14)), .int (gi (U (B2 + 0)) 19), gv (U (B2 + 0)) 20, .int (gi (U (B2 + 0)) 21), .int (gi (U (B2 + 0)) 22), .int (gi (U (B2 + 0)) 23), .long (gl (U (B2 + 0)) 24), .int (gi (U (B2 + 0)) 25), .int (gi (U (B2 + 0)) 26), .ref (a (B2 + 15)), .int (gi (U (B2 + 0)) 28)]) from sM_0 hT2)) rfl 19 (by decide) (htg _ q_992) (fun _ h9 => h9) rfl dX7_takeFrom_100 ?_
  refine th_put (Tp := fun _ => True) (Rl := fun _ => True) (ci := 7) (v := .int (gi (U (B2 + 0)) 19)) (ty := .int) (CC := RX7) (T := TX7) (N := 29) hx hb htg ig_7 tyX7 tyX7_ok nmX7 hown hK hP hD hS (B1 + 0) (by omega) (show U (B1 + 0) = .inr (7, [.ref (a (B1 + 1)), .ref (a (B1 + 2)), .ref (a (B1 + 3)), .ref (a (B1 + 4)), .ref (a (B1 + 5)), .ref (a (B1 + 6)), .ref (a (B1 + 7)), .int (gi (U (B1 + 0)) 7), .ref (a (B1 + 8)), .int (gi (U (B1 + 0)) 9), .ref (a (B1 + 9)), .int (gi (U (B1 + 0)) 11), .ref (a (B1 + 10)), .int (gi (U (B1 + 0)) 13), .ref (a (B1 + 11)), .int (gi (U (B1 + 0)) 15), .ref (a (B1 + 12)), .ref (a (B1 + 13)), .ref (a (B1 + 14)), .int (gi (U (B1 + 0)) 19), gv (U (B1 + 0)) 20, .int (gi (U (B1 + 0)) 21), .int (gi (U (B1 + 0)) 22), .int (gi (U (B1 + 0)) 23), .long (gl (U (B1 + 0)) 24), .int (gi (U (B1 + 0)) 25), .int (gi (U (B1 + 0)) 26), .ref (a (B1 + 15)), .int (gi (U (B1 + 0)) 28)]) from sM_0 hT1) rfl 19 (by decide) (htg _ q_992) (fun _ h9 => h9) rfl (by decide +kernel) rfl rfl (Nat.le_of_ble_eq_true rfl) trivial trivial dX7_takeFrom_103 (fun U2 H locs e2 _ _ hP hD hS => ?_)
  refine kk U2 H locs ?_ (fun k hk => th_un e2 hk) ?_ (fun i hi => ?_) hP hD hS
  · rw [e2, shf_upd]
    exact TyM.pt19 hT1 (show shf B1 U 0 = .inr (7, [.ref (a (B1 + 1)), .ref (a (B1 + 2)), .ref (a (B1 + 3)), .ref (a (B1 + 4)), .ref (a (B1 + 5)), .ref (a (B1 + 6)), .ref (a (B1 + 7)), .int (gi (U (B1 + 0)) 7), .ref (a (B1 + 8)), .int (gi (U (B1 + 0)) 9), .ref (a (B1 + 9)), .int (gi (U (B1 + 0)) 11), .ref (a (B1 + 10)), .int (gi (U (B1 + 0)) 13), .ref (a (B1 + 11)), .int (gi (U (B1 + 0)) 15), .ref (a (B1 + 12)), .ref (a (B1 + 13)), .ref (a (B1 + 14)), .int (gi (U (B1 + 0)) 19), gv (U (B1 + 0)) 20, .int (gi (U (B1 + 0)) 21), .int (gi (U (B1 + 0)) 22), .int (gi (U (B1 + 0)) 23), .long (gl (U (B1 + 0)) 24), .int (gi (U (B1 + 0)) 25), .int (gi (U (B1 + 0)) 26), .ref (a (B1 + 15)), .int (gi (U (B1 + 0)) 28)]) from sM_0 hT1)
  · rw [e2, updc_eq]
    rfl
  · exact gv_st e2 (show U (B1 + 0) = .inr (7, [.ref (a (B1 + 1)), .ref (a (B1 + 2)), .ref (a (B1 + 3)), .ref (a (B1 + 4)), .ref (a (B1 + 5)), .ref (a (B1 + 6)), .ref (a (B1 + 7)), .int (gi (U (B1 + 0)) 7), .ref (a (B1 + 8)), .int (gi (U (B1 + 0)) 9), .ref (a (B1 + 9)), .int (gi (U (B1 + 0)) 11), .ref (a (B1 + 10)), .int (gi (U (B1 + 0)) 13), .ref (a (B1 + 11)), .int (gi (U (B1 + 0)) 15), .ref (a (B1 + 12)), .ref (a (B1 + 13)), .ref (a (B1 + 14)), .int (gi (U (B1 + 0)) 19), gv (U (B1 + 0)) 20, .int (gi (U (B1 + 0)) 21), .int (gi (U (B1 + 0)) 22), .int (gi (U (B1 + 0)) 23), .long (gl (U (B1 + 0)) 24), .int (gi (U (B1 + 0)) 25), .int (gi (U (B1 + 0)) 26), .ref (a (B1 + 15)), .int (gi (U (B1 + 0)) 28)]) from sM_0 hT1) hi

set_option maxHeartbeats 4000000 in
set_option maxRecDepth 100000 in
theorem c_X7_takeFrom (l : Launch) (D : va_G) (E : Nat → ClassId) (G : Nat → Nat) (sz : Nat) (n : Nat) (a : Nat → Nat) (C : Nat → va_E) (B1 B2 : Nat) (hB : (B1 = 0 ∧ B2 = 74) ∨ (B1 = 74 ∧ B2 = 0)) (hn : 148 ≤ n) (hT1 : TyM (shf B1 a) E (shf B1 C)) (hT20 : TyM (shf B2 a) E (shf B2 C)) : Met l yX7_takeFrom (oh_w yX7_takeFrom cX7_takeFrom 2 none) ({ frames := 2, cells := 0, slots := 0, locals := 44 }) (oh_Pm D E G [.ref (a (B1 + 0)), .ref (a (B2 + 0))] (oh_W n a C) sz) (va_Qv (fun (u : Nat → va_E) => TyM (shf B1 a) E (shf B1 u) ∧ (∀ k, k < 74 → u (B2 + k) = C (B2 + k)) ∧ (∀ k, k ≠ 0 → k < 24 → k ≠ 13 → k ≠ 14 → u (B1 + k) = C (B1 + k)) ∧ (∀ i, i ∉ [9, 11, 13, 15, 19] → gv (u (B1 + 0)) i = gv (C (B1 + 0)) i) ∧ gi (u (B1 + 0)) 13 = gi (C (B2 + 0)) 13 ∧ (∀ w, w < 5 → ∀ q, q < 3 → ga (u (B1 + (64 + w))) q = ga (C (B2 + (64 + w))) q) ∧ (∀ q, q < 7 → ga (u (B1 + 14)) q = ga (C (B2 + 14)) q) ∧ (∀ k, 148 ≤ k → u k = C k) ∧ (∀ A : LA, absM (shf B2 C) A → absM (shf B1 u) A) ∧ ∀ T : TP, absTM (shf B2 C) T → absTM (shf B1 u) T) (oh_B D (va_A (oh_W n a C) sz) (fun u => oh_W n a u)) (va_A (oh_W n a C) sz)) 0 0 (va_A (oh_W n a C) sz) := by
  refine Met.ofW (cc := cX7_takeFrom) (maxL := 2) (ret := none) (by decide) rfl ?_
  intro p e s m args below meth c s₁ B hml hv
  obtain ⟨rfl, hsz, hP, hK, hD0, hG⟩ := hv
  have hx := B.exec
  have hb := B.bytes
  have hr := B.returns
  have hts := atoms_spec (ws := (oh_w yX7_takeFrom cX7_takeFrom 2 none)) B.pre
  have htg : ∀ w ∈ oh_t, w.before _ s = true := fun w h => hts w (List.mem_cons_of_mem _ h)
  have hown : s.vm.findClass RX7 = some m.cls := findClass_of_methodNamed B.named
  have hlocks := B.notSynchronized
  subst hsz
  have hD := hD0.self (sz := s.heap.size)
  generalize hAe : va_A (oh_W n a C) s.heap.size = A at hD hG ⊢
  have hA : ∀ q : Nat, s.heap.size ≤ q → A q := fun q h => by rw [← hAe]; exact Or.inr h
  have hS : va_S A s.heap s.heap [] := va_S.rf
  have hl := lv_entry ([.ref (a (B1 + 0)), .ref (a (B2 + 0))]) (n := 2) (Nat.le_of_ble_eq_true rfl)
  rw [lg_entry_eq]
  generalize (lg_sl ([.ref (a (B1 + 0)), .ref (a (B2 + 0))]) ++ List.replicate (2 - (lg_sl ([.ref (a (B1 + 0)), .ref (a (B2 + 0))])).length) Slot.unset).toArray = ls at hl ⊢
  have hl : lv_has ls 2 [(0, .ref (a (B1 + 0))), (1, .ref (a (B2 + 0)))] := hl
  have hT2 := hT20
  have hS2 : ∀ k, k < 74 → C (B2 + k) = C (B2 + k) := fun _ _ => rfl
  have hS2_0 := hS2
  refine tk_f9 hx hb htg hown hml hK hG hA (by decide) (by decide) (by decide) (by decide) hB hn hT1 hT2 hP hD hS hl (fun U1 H locs hT1 hE1 hV1 hFd1 hP hD hS => ?_)
  have hS2o := hS2
  have hS2 : ∀ k, k < 74 → U1 (B2 + k) = C (B2 + k) := fun k hk => Eq.trans (hE1 _ (by omega)) (hS2o k hk)
  have hS2_1 := hS2
  have hT2 : TyM (shf B2 a) E (shf B2 U1) := hT20.congr hS2
  refine tk_broad hx hb htg hown hml hK hG hA (by decide) (by decide) (by decide) (by decide) hB hn hT1 hT2 hP hD hS hl (fun U2 H locs hT1 hE2 hc2 hP hD hS => ?_)
  have hS2o := hS2
  have hS2 : ∀ k, k < 74 → U2 (B2 + k) = C (B2 + k) := fun k hk => Eq.trans (hE2 _ (by omega)) (hS2o k hk)
  have hS2_2 := hS2
  have hT2 : TyM (shf B2 a) E (shf B2 U2) := hT20.congr hS2
  refine tk_f11 hx hb htg hown hml hK hG hA (by decide) (by decide) (by decide) (by decide) hB hn hT1 hT2 hP hD hS hl (fun U3 H locs hT1 hE3 hV3 hFd3 hP hD hS => ?_)
  have hS2o := hS2
  have hS2 : ∀ k, k < 74 → U3 (B2 + k) = C (B2 + k) := fun k hk => Eq.trans (hE3 _ (by omega)) (hS2o k hk)
  have hS2_3 := hS2
  have hT2 : TyM (shf B2 a) E (shf B2 U3) := hT20.congr hS2
  refine tk_bbridge hx hb htg hown hml hK hG hA (by decide) (by decide) (by decide) (by decide) hB hn hT1 hT2 hP hD hS hl (fun U4 H locs hT1 hE4 hc4 hP hD hS => ?_)
  have hS2o := hS2
  have hS2 : ∀ k, k < 74 → U4 (B2 + k) = C (B2 + k) := fun k hk => Eq.trans (hE4 _ (by omega)) (hS2o k hk)
  have hS2_4 := hS2
  have hT2 : TyM (shf B2 a) E (shf B2 U4) := hT20.congr hS2
  refine tk_f13 hx hb htg hown hml hK hG hA (by decide) (by decide) (by decide) (by decide) hB hn hT1 hT2 hP hD hS hl (fun U5 H locs hT1 hE5 hV5 hFd5 hP hD hS => ?_)
  have hS2o := hS2
  have hS2 : ∀ k, k < 74 → U5 (B2 + k) = C (B2 + k) := fun k hk => Eq.trans (hE5 _ (by omega)) (hS2o k hk)
  have hS2_5 := hS2
  have hT2 : TyM (shf B2 a) E (shf B2 U5) := hT20.congr hS2
  refine tk_bwaggon hx hb htg hown hml hK hG hA (by decide) (by decide) (by decide) (by decide) hB hn hT1 hT2 hP hD hS hl (fun U6 H locs hT1 hE6 hc6 hP hD hS => ?_)
  have hS2o := hS2
  have hS2 : ∀ k, k < 74 → U6 (B2 + k) = C (B2 + k) := fun k hk => Eq.trans (hE6 _ (by omega)) (hS2o k hk)
  have hS2_6 := hS2
  have hT2 : TyM (shf B2 a) E (shf B2 U6) := hT20.congr hS2
  refine tk_f15 hx hb htg hown hml hK hG hA (by decide) (by decide) (by decide) (by decide) hB hn hT1 hT2 hP hD hS hl (fun U7 H locs hT1 hE7 hV7 hFd7 hP hD hS => ?_)
  have hS2o := hS2
  have hS2 : ∀ k, k < 74 → U7 (B2 + k) = C (B2 + k) := fun k hk => Eq.trans (hE7 _ (by omega)) (hS2o k hk)
  have hS2_7 := hS2
  have hT2 : TyM (shf B2 a) E (shf B2 U7) := hT20.congr hS2
  refine tk_bpart hx hb htg hown hml hK hG hA (by decide) (by decide) (by decide) (by decide) hB hn hT1 hT2 hP hD hS hl (fun U8 H locs hT1 hE8 hc8 hP hD hS => ?_)
  have hS2o := hS2
  have hS2 : ∀ k, k < 74 → U8 (B2 + k) = C (B2 + k) := fun k hk => Eq.trans (hE8 _ (by omega)) (hS2o k hk)
  have hS2_8 := hS2
  have hT2 : TyM (shf B2 a) E (shf B2 U8) := hT20.congr hS2
  refine tk_c13 hx hb htg hown hml hK hG hA (by decide) (by decide) (by decide) (by decide) hB hn hT1 hT2 hP hD hS hl (fun U9 H locs hT1 hE9 hg9 hP hD hS => ?_)
  have hS2o := hS2
  have hS2 : ∀ k, k < 74 → U9 (B2 + k) = C (B2 + k) := fun k hk => Eq.trans (hE9 _ (by omega)) (hS2o k hk)
  have hS2_9 := hS2
  have hT2 : TyM (shf B2 a) E (shf B2 U9) := hT20.congr hS2
  refine tk_c14 hx hb htg hown hml hK hG hA (by decide) (by decide) (by decide) (by decide) hB hn hT1 hT2 hP hD hS hl (fun U10 H locs hT1 hE10 hg10 hP hD hS => ?_)
  have hS2o := hS2
  have hS2 : ∀ k, k < 74 → U10 (B2 + k) = C (B2 + k) := fun k hk => Eq.trans (hE10 _ (by omega)) (hS2o k hk)
  have hS2_10 := hS2
  have hT2 : TyM (shf B2 a) E (shf B2 U10) := hT20.congr hS2
  refine tk_f19 hx hb htg hown hml hK hG hA (by decide) (by decide) (by decide) (by decide) hB hn hT1 hT2 hP hD hS hl (fun U11 H locs hT1 hE11 hV11 hFd11 hP hD hS => ?_)
  have hS2o := hS2
  have hS2 : ∀ k, k < 74 → U11 (B2 + k) = C (B2 + k) := fun k hk => Eq.trans (hE11 _ (by omega)) (hS2o k hk)
  have hS2_11 := hS2
  have hT2 : TyM (shf B2 a) E (shf B2 U11) := hT20.congr hS2
  have q4 := (show ∀ i, i ∉ [9, 11, 13, 15, 19] → gv (U11 (B1 + 0)) i = gv (C (B1 + 0)) i from (fun i hi => (Eq.trans (hFd11 i (by intro h9; subst h9; exact hi (by decide))) (Eq.trans (congrArg (fun z => gv z i) (hE10 (B1 + 0) (by omega))) (Eq.trans (congrArg (fun z => gv z i) (hE9 (B1 + 0) (by omega))) (Eq.trans (congrArg (fun z => gv z i) (hE8 (B1 + 0) (by omega))) (Eq.trans (hFd7 i (by intro h9; subst h9; exact hi (by decide))) (Eq.trans (congrArg (fun z => gv z i) (hE6 (B1 + 0) (by omega))) (Eq.trans (hFd5 i (by intro h9; subst h9; exact hi (by decide))) (Eq.trans (congrArg (fun z => gv z i) (hE4 (B1 + 0) (by omega))) (Eq.trans (hFd3 i (by intro h9; subst h9; exact hi (by decide))) (Eq.trans (congrArg (fun z => gv z i) (hE2 (B1 + 0) (by omega))) (hFd1 i (by intro h9; subst h9; exact hi (by decide)))))))))))))))
  have q5 := (Eq.trans (congrArg vi (hFd11 13 (by decide))) (Eq.trans (congrArg (fun z => gi z 13) (hE10 (B1 + 0) (by omega))) (Eq.trans (congrArg (fun z => gi z 13) (hE9 (B1 + 0) (by omega))) (Eq.trans (congrArg (fun z => gi z 13) (hE8 (B1 + 0) (by omega))) (Eq.trans (congrArg vi (hFd7 13 (by decide))) (Eq.trans (congrArg (fun z => gi z 13) (hE6 (B1 + 0) (by omega))) (Eq.trans hV5 (congrArg (fun z => gi z 13) (hS2_4 0 (by omega))))))))))
  have q6 : ∀ w, w < 5 → ∀ q, q < 3 → ga (U11 (B1 + (64 + w))) q = ga (C (B2 + (64 + w))) q := (fun w hw q hq => by
    obtain ⟨g, h1, h2⟩ := hc6 w hw
    rw [(Eq.trans (hE11 (B1 + (64 + w)) (by omega)) (Eq.trans (hE10 (B1 + (64 + w)) (by omega)) (Eq.trans (hE9 (B1 + (64 + w)) (by omega)) (Eq.trans (hE8 (B1 + (64 + w)) (by omega)) (hE7 (B1 + (64 + w)) (by omega)))))), h1]
    show g q = _
    rw [h2 q hq, hS2_5 (64 + w) (by omega)])
  have q7 : ∀ q, q < 7 → ga (U11 (B1 + 14)) q = ga (C (B2 + 14)) q := (fun q hq => by
    rw [(hE11 (B1 + 14) (by omega)), hg10 q hq, hS2_9 14 (by omega)])
  have q9 : ∀ A : LA, absM (shf B2 C) A → absM (shf B1 U11) A := fun A hA => absM_cp hA hT20 (all4 (P := fun t => gi (shf B1 U11 0) (9 + 2 * t) = gi (shf B2 C 0) (9 + 2 * t)) (Eq.trans (congrArg vi (hFd11 9 (by decide))) (Eq.trans (congrArg (fun z => gi z 9) (hE10 (B1 + 0) (by omega))) (Eq.trans (congrArg (fun z => gi z 9) (hE9 (B1 + 0) (by omega))) (Eq.trans (congrArg (fun z => gi z 9) (hE8 (B1 + 0) (by omega))) (Eq.trans (congrArg vi (hFd7 9 (by decide))) (Eq.trans (congrArg (fun z => gi z 9) (hE6 (B1 + 0) (by omega))) (Eq.trans (congrArg vi (hFd5 9 (by decide))) (Eq.trans (congrArg (fun z => gi z 9) (hE4 (B1 + 0) (by omega))) (Eq.trans (congrArg vi (hFd3 9 (by decide))) (Eq.trans (congrArg (fun z => gi z 9) (hE2 (B1 + 0) (by omega))) (Eq.trans hV1 (congrArg (fun z => gi z 9) (hS2_0 0 (by omega)))))))))))))) (Eq.trans (congrArg vi (hFd11 11 (by decide))) (Eq.trans (congrArg (fun z => gi z 11) (hE10 (B1 + 0) (by omega))) (Eq.trans (congrArg (fun z => gi z 11) (hE9 (B1 + 0) (by omega))) (Eq.trans (congrArg (fun z => gi z 11) (hE8 (B1 + 0) (by omega))) (Eq.trans (congrArg vi (hFd7 11 (by decide))) (Eq.trans (congrArg (fun z => gi z 11) (hE6 (B1 + 0) (by omega))) (Eq.trans (congrArg vi (hFd5 11 (by decide))) (Eq.trans (congrArg (fun z => gi z 11) (hE4 (B1 + 0) (by omega))) (Eq.trans hV3 (congrArg (fun z => gi z 11) (hS2_2 0 (by omega)))))))))))) (Eq.trans (congrArg vi (hFd11 13 (by decide))) (Eq.trans (congrArg (fun z => gi z 13) (hE10 (B1 + 0) (by omega))) (Eq.trans (congrArg (fun z => gi z 13) (hE9 (B1 + 0) (by omega))) (Eq.trans (congrArg (fun z => gi z 13) (hE8 (B1 + 0) (by omega))) (Eq.trans (congrArg vi (hFd7 13 (by decide))) (Eq.trans (congrArg (fun z => gi z 13) (hE6 (B1 + 0) (by omega))) (Eq.trans hV5 (congrArg (fun z => gi z 13) (hS2_4 0 (by omega)))))))))) (Eq.trans (congrArg vi (hFd11 15 (by decide))) (Eq.trans (congrArg (fun z => gi z 15) (hE10 (B1 + 0) (by omega))) (Eq.trans (congrArg (fun z => gi z 15) (hE9 (B1 + 0) (by omega))) (Eq.trans (congrArg (fun z => gi z 15) (hE8 (B1 + 0) (by omega))) (Eq.trans hV7 (congrArg (fun z => gi z 15) (hS2_6 0 (by omega))))))))) (fun q hq => by
    show ga (U11 (B1 + 13)) q = ga (C (B2 + 13)) q
    rw [(Eq.trans (hE11 (B1 + 13) (by omega)) (hE10 (B1 + 13) (by omega))), hg9 q hq, hS2_8 13 (by omega)]) (all4 (P := fun t => ∀ i, i < blkN t → ∀ q, q < wid t → ga (shf B1 U11 (blk t + i)) q = ga (shf B2 C (blk t + i)) q) (fun w hw q hq => by
    obtain ⟨g, h1, h2⟩ := hc2 w hw
    show ga (U11 (B1 + (24 + w))) q = ga (C (B2 + (24 + w))) q
    rw [(Eq.trans (hE11 (B1 + (24 + w)) (by have hw2 : w < 24 := hw; omega)) (Eq.trans (hE10 (B1 + (24 + w)) (by have hw2 : w < 24 := hw; omega)) (Eq.trans (hE9 (B1 + (24 + w)) (by have hw2 : w < 24 := hw; omega)) (Eq.trans (hE8 (B1 + (24 + w)) (by have hw2 : w < 24 := hw; omega)) (Eq.trans (hE7 (B1 + (24 + w)) (by have hw2 : w < 24 := hw; omega)) (Eq.trans (hE6 (B1 + (24 + w)) (by have hw2 : w < 24 := hw; omega)) (Eq.trans (hE5 (B1 + (24 + w)) (by have hw2 : w < 24 := hw; omega)) (Eq.trans (hE4 (B1 + (24 + w)) (by have hw2 : w < 24 := hw; omega)) (hE3 (B1 + (24 + w)) (by have hw2 : w < 24 := hw; omega)))))))))), h1]
    show g q = _
    rw [h2 q hq, hS2_1 (24 + w) (by have hw2 : w < 24 := hw; omega)]) (fun w hw q hq => by
    obtain ⟨g, h1, h2⟩ := hc4 w hw
    show ga (U11 (B1 + (48 + w))) q = ga (C (B2 + (48 + w))) q
    rw [(Eq.trans (hE11 (B1 + (48 + w)) (by have hw2 : w < 16 := hw; omega)) (Eq.trans (hE10 (B1 + (48 + w)) (by have hw2 : w < 16 := hw; omega)) (Eq.trans (hE9 (B1 + (48 + w)) (by have hw2 : w < 16 := hw; omega)) (Eq.trans (hE8 (B1 + (48 + w)) (by have hw2 : w < 16 := hw; omega)) (Eq.trans (hE7 (B1 + (48 + w)) (by have hw2 : w < 16 := hw; omega)) (Eq.trans (hE6 (B1 + (48 + w)) (by have hw2 : w < 16 := hw; omega)) (hE5 (B1 + (48 + w)) (by have hw2 : w < 16 := hw; omega)))))))), h1]
    show g q = _
    rw [h2 q hq, hS2_3 (48 + w) (by have hw2 : w < 16 := hw; omega)]) (fun w hw q hq => by
    obtain ⟨g, h1, h2⟩ := hc6 w hw
    show ga (U11 (B1 + (64 + w))) q = ga (C (B2 + (64 + w))) q
    rw [(Eq.trans (hE11 (B1 + (64 + w)) (by have hw2 : w < 5 := hw; omega)) (Eq.trans (hE10 (B1 + (64 + w)) (by have hw2 : w < 5 := hw; omega)) (Eq.trans (hE9 (B1 + (64 + w)) (by have hw2 : w < 5 := hw; omega)) (Eq.trans (hE8 (B1 + (64 + w)) (by have hw2 : w < 5 := hw; omega)) (hE7 (B1 + (64 + w)) (by have hw2 : w < 5 := hw; omega)))))), h1]
    show g q = _
    rw [h2 q hq, hS2_5 (64 + w) (by have hw2 : w < 5 := hw; omega)]) (fun w hw q hq => by
    obtain ⟨g, h1, h2⟩ := hc8 w hw
    show ga (U11 (B1 + (69 + w))) q = ga (C (B2 + (69 + w))) q
    rw [(Eq.trans (hE11 (B1 + (69 + w)) (by have hw2 : w < 5 := hw; omega)) (Eq.trans (hE10 (B1 + (69 + w)) (by have hw2 : w < 5 := hw; omega)) (hE9 (B1 + (69 + w)) (by have hw2 : w < 5 := hw; omega)))), h1]
    show g q = _
    rw [h2 q hq, hS2_7 (69 + w) (by have hw2 : w < 5 := hw; omega)]))
  have qT : ∀ T : TP, absTM (shf B2 C) T → absTM (shf B1 U11) T := fun T hT => ⟨fun j hj => Eq.trans (q7 j hj) (hT.1 j hj), Eq.trans (Eq.trans hV11 (congrArg (fun z => gi z 19) (hS2_10 0 (by omega)))) hT.2⟩
  exact W.vret hx hb hr (fun t ht hW => ⟨⟨U11, rfl, ⟨hT1, hS2, (fun k h0 h24 h13 h14 => (Eq.trans (hE11 (B1 + k) (by omega)) (Eq.trans (hE10 (B1 + k) (by omega)) (Eq.trans (hE9 (B1 + k) (by omega)) (Eq.trans (hE8 (B1 + k) (by omega)) (Eq.trans (hE7 (B1 + k) (by omega)) (Eq.trans (hE6 (B1 + k) (by omega)) (Eq.trans (hE5 (B1 + k) (by omega)) (Eq.trans (hE4 (B1 + k) (by omega)) (Eq.trans (hE3 (B1 + k) (by omega)) (Eq.trans (hE2 (B1 + k) (by omega)) (hE1 (B1 + k) (by omega))))))))))))), q4, q5, q6, q7, fun k hk => (Eq.trans (hE11 k (by omega)) (Eq.trans (hE10 k (by omega)) (Eq.trans (hE9 k (by omega)) (Eq.trans (hE8 k (by omega)) (Eq.trans (hE7 k (by omega)) (Eq.trans (hE6 k (by omega)) (Eq.trans (hE5 k (by omega)) (Eq.trans (hE4 k (by omega)) (Eq.trans (hE3 k (by omega)) (Eq.trans (hE2 k (by omega)) (hE1 k (by omega)))))))))))), ⟨q9, qT⟩⟩, ⟨by rw [ht]; exact hP, hD⟩⟩, hS.F ht⟩) hS.2.2 dX7_takeFrom_106
theorem bg_dX7_back_0 : bysAt cX7_back 0 [42, 180, 1, 79, 199, 0, 10, 42, 16, 251, 182, 0, 89, 172, 42, 42, 180, 1, 79, 182, 1, 84, 3, 60, 27] := bysAt_of (by decide +kernel)
theorem dX7_back_0 : decode cX7_back 0 = .ok (.aload_n 0, 1) := o_42 (bg_dX7_back_0 0 42 rfl)
theorem dX7_back_1 : decode cX7_back 1 = .ok (.getfield 335, 3) := o_180 (bg_dX7_back_0 1 180 rfl) (bg_dX7_back_0 2 1 rfl) (bg_dX7_back_0 3 79 rfl)
theorem dX7_back_4 : decode cX7_back 4 = .ok (.ifnonnull 10, 3) := o_199 (bg_dX7_back_0 4 199 rfl) (bg_dX7_back_0 5 0 rfl) (bg_dX7_back_0 6 10 rfl) (by decide +kernel)
theorem dX7_back_7 : decode cX7_back 7 = .ok (.aload_n 0, 1) := o_42 (bg_dX7_back_0 7 42 rfl)
theorem dX7_back_8 : decode cX7_back 8 = .ok (.bipush (-5), 2) := o_16 (bg_dX7_back_0 8 16 rfl) (bg_dX7_back_0 9 251 rfl) (by decide +kernel)
theorem dX7_back_10 : decode cX7_back 10 = .ok (.invokevirtual 89, 3) := o_182 (bg_dX7_back_0 10 182 rfl) (bg_dX7_back_0 11 0 rfl) (bg_dX7_back_0 12 89 rfl)
theorem dX7_back_13 : decode cX7_back 13 = .ok (.ireturn, 1) := o_172 (bg_dX7_back_0 13 172 rfl)
theorem dX7_back_14 : decode cX7_back 14 = .ok (.aload_n 0, 1) := o_42 (bg_dX7_back_0 14 42 rfl)
theorem dX7_back_15 : decode cX7_back 15 = .ok (.aload_n 0, 1) := o_42 (bg_dX7_back_0 15 42 rfl)
theorem dX7_back_16 : decode cX7_back 16 = .ok (.getfield 335, 3) := o_180 (bg_dX7_back_0 16 180 rfl) (bg_dX7_back_0 17 1 rfl) (bg_dX7_back_0 18 79 rfl)
theorem dX7_back_19 : decode cX7_back 19 = .ok (.invokevirtual 340, 3) := o_182 (bg_dX7_back_0 19 182 rfl) (bg_dX7_back_0 20 1 rfl) (bg_dX7_back_0 21 84 rfl)
theorem dX7_back_22 : decode cX7_back 22 = .ok (.iconst 0, 1) := o_3 (bg_dX7_back_0 22 3 rfl)
theorem dX7_back_23 : decode cX7_back 23 = .ok (.istore_n 1, 1) := o_60 (bg_dX7_back_0 23 60 rfl)
theorem dX7_back_24 : decode cX7_back 24 = .ok (.iload_n 1, 1) := o_27 (bg_dX7_back_0 24 27 rfl)
theorem bg_dX7_back_25 : bysAt cX7_back 25 [16, 8, 162, 0, 39, 42, 180, 0, 7, 27, 46, 5, 160, 0, 23, 42, 180, 0, 28, 27, 46, 42, 180, 0, 70] := bysAt_of (by decide +kernel)
theorem dX7_back_25 : decode cX7_back 25 = .ok (.bipush 8, 2) := o_16 (bg_dX7_back_25 0 16 rfl) (bg_dX7_back_25 1 8 rfl) (by decide +kernel)
theorem dX7_back_27 : decode cX7_back 27 = .ok (.if_icmp .ge 39, 3) := o_162 (bg_dX7_back_25 2 162 rfl) (bg_dX7_back_25 3 0 rfl) (bg_dX7_back_25 4 39 rfl) (by decide +kernel)
theorem dX7_back_30 : decode cX7_back 30 = .ok (.aload_n 0, 1) := o_42 (bg_dX7_back_25 5 42 rfl)
theorem dX7_back_31 : decode cX7_back 31 = .ok (.getfield 7, 3) := o_180 (bg_dX7_back_25 6 180 rfl) (bg_dX7_back_25 7 0 rfl) (bg_dX7_back_25 8 7 rfl)
theorem dX7_back_34 : decode cX7_back 34 = .ok (.iload_n 1, 1) := o_27 (bg_dX7_back_25 9 27 rfl)
theorem dX7_back_35 : decode cX7_back 35 = .ok (.iaload, 1) := o_46 (bg_dX7_back_25 10 46 rfl)
theorem dX7_back_36 : decode cX7_back 36 = .ok (.iconst 2, 1) := o_5 (bg_dX7_back_25 11 5 rfl)
theorem dX7_back_37 : decode cX7_back 37 = .ok (.if_icmp .ne 23, 3) := o_160 (bg_dX7_back_25 12 160 rfl) (bg_dX7_back_25 13 0 rfl) (bg_dX7_back_25 14 23 rfl) (by decide +kernel)
theorem dX7_back_40 : decode cX7_back 40 = .ok (.aload_n 0, 1) := o_42 (bg_dX7_back_25 15 42 rfl)
theorem dX7_back_41 : decode cX7_back 41 = .ok (.getfield 28, 3) := o_180 (bg_dX7_back_25 16 180 rfl) (bg_dX7_back_25 17 0 rfl) (bg_dX7_back_25 18 28 rfl)
theorem dX7_back_44 : decode cX7_back 44 = .ok (.iload_n 1, 1) := o_27 (bg_dX7_back_25 19 27 rfl)
theorem dX7_back_45 : decode cX7_back 45 = .ok (.iaload, 1) := o_46 (bg_dX7_back_25 20 46 rfl)
theorem dX7_back_46 : decode cX7_back 46 = .ok (.aload_n 0, 1) := o_42 (bg_dX7_back_25 21 42 rfl)
theorem dX7_back_47 : decode cX7_back 47 = .ok (.getfield 70, 3) := o_180 (bg_dX7_back_25 22 180 rfl) (bg_dX7_back_25 23 0 rfl) (bg_dX7_back_25 24 70 rfl)
theorem bg_dX7_back_50 : bysAt cX7_back 50 [161, 0, 10, 42, 180, 0, 7, 27, 3, 79, 132, 1, 1, 167, 255, 217, 4, 172] := bysAt_of (by decide +kernel)
theorem dX7_back_50 : decode cX7_back 50 = .ok (.if_icmp .lt 10, 3) := o_161 (bg_dX7_back_50 0 161 rfl) (bg_dX7_back_50 1 0 rfl) (bg_dX7_back_50 2 10 rfl) (by decide +kernel)
theorem dX7_back_53 : decode cX7_back 53 = .ok (.aload_n 0, 1) := o_42 (bg_dX7_back_50 3 42 rfl)
theorem dX7_back_54 : decode cX7_back 54 = .ok (.getfield 7, 3) := o_180 (bg_dX7_back_50 4 180 rfl) (bg_dX7_back_50 5 0 rfl) (bg_dX7_back_50 6 7 rfl)
theorem dX7_back_57 : decode cX7_back 57 = .ok (.iload_n 1, 1) := o_27 (bg_dX7_back_50 7 27 rfl)
theorem dX7_back_58 : decode cX7_back 58 = .ok (.iconst 0, 1) := o_3 (bg_dX7_back_50 8 3 rfl)
theorem dX7_back_59 : decode cX7_back 59 = .ok (.iastore, 1) := o_79 (bg_dX7_back_50 9 79 rfl)
theorem dX7_back_63 : decode cX7_back 63 = .ok (.goto (-39), 3) := o_167 (bg_dX7_back_50 13 167 rfl) (bg_dX7_back_50 14 255 rfl) (bg_dX7_back_50 15 217 rfl) (by decide +kernel)
theorem dX7_back_66 : decode cX7_back 66 = .ok (.iconst 1, 1) := o_4 (bg_dX7_back_50 16 4 rfl)
theorem dX7_back_67 : decode cX7_back 67 = .ok (.ireturn, 1) := o_172 (bg_dX7_back_50 17 172 rfl)
theorem bg_dX7_image_0 : bysAt cX7_image 0 [42, 180, 1, 79, 199, 0, 14, 42, 187, 0, 8, 89, 183, 1, 83, 181, 1, 79, 42, 180, 1, 79, 42, 182, 1, 84, 4, 172] := bysAt_of (by decide +kernel)
theorem dX7_image_0 : decode cX7_image 0 = .ok (.aload_n 0, 1) := o_42 (bg_dX7_image_0 0 42 rfl)
theorem dX7_image_1 : decode cX7_image 1 = .ok (.getfield 335, 3) := o_180 (bg_dX7_image_0 1 180 rfl) (bg_dX7_image_0 2 1 rfl) (bg_dX7_image_0 3 79 rfl)
theorem dX7_image_4 : decode cX7_image 4 = .ok (.ifnonnull 14, 3) := o_199 (bg_dX7_image_0 4 199 rfl) (bg_dX7_image_0 5 0 rfl) (bg_dX7_image_0 6 14 rfl) (by decide +kernel)
theorem dX7_image_7 : decode cX7_image 7 = .ok (.aload_n 0, 1) := o_42 (bg_dX7_image_0 7 42 rfl)
theorem dX7_image_8 : decode cX7_image 8 = .ok (.new 8, 3) := o_187 (bg_dX7_image_0 8 187 rfl) (bg_dX7_image_0 9 0 rfl) (bg_dX7_image_0 10 8 rfl)
theorem dX7_image_11 : decode cX7_image 11 = .ok (.dup, 1) := o_89 (bg_dX7_image_0 11 89 rfl)
theorem dX7_image_12 : decode cX7_image 12 = .ok (.invokespecial 339, 3) := o_183 (bg_dX7_image_0 12 183 rfl) (bg_dX7_image_0 13 1 rfl) (bg_dX7_image_0 14 83 rfl)
theorem dX7_image_15 : decode cX7_image 15 = .ok (.putfield 335, 3) := o_181 (bg_dX7_image_0 15 181 rfl) (bg_dX7_image_0 16 1 rfl) (bg_dX7_image_0 17 79 rfl)
theorem dX7_image_18 : decode cX7_image 18 = .ok (.aload_n 0, 1) := o_42 (bg_dX7_image_0 18 42 rfl)
theorem dX7_image_19 : decode cX7_image 19 = .ok (.getfield 335, 3) := o_180 (bg_dX7_image_0 19 180 rfl) (bg_dX7_image_0 20 1 rfl) (bg_dX7_image_0 21 79 rfl)
theorem dX7_image_22 : decode cX7_image 22 = .ok (.aload_n 0, 1) := o_42 (bg_dX7_image_0 22 42 rfl)
theorem dX7_image_23 : decode cX7_image 23 = .ok (.invokevirtual 340, 3) := o_182 (bg_dX7_image_0 23 182 rfl) (bg_dX7_image_0 24 1 rfl) (bg_dX7_image_0 25 84 rfl)
theorem dX7_image_26 : decode cX7_image 26 = .ok (.iconst 1, 1) := o_4 (bg_dX7_image_0 26 4 rfl)
theorem dX7_image_27 : decode cX7_image 27 = .ok (.ireturn, 1) := o_172 (bg_dX7_image_0 27 172 rfl)
theorem pdVX7_takeFrom : yX7_takeFrom.cls = RX7 ∧ yX7_takeFrom.cls ≠ "java/lang/invoke/MethodHandle" ∧ yX7_takeFrom.cls ≠ "java/lang/invoke/VarHandle" ∧ (parseMethodDescriptor yX7_takeFrom.desc).map (fun d => d.parameters.length) = some 1 := by decide +kernel
theorem dX7_back_60 : decode cX7_back 60 = .ok (.iinc 1 1, 3) := by decide +kernel
theorem shf_0 {α : Type} (f : Nat → α) : shf 0 f = f := by
  funext k
  unfold shf
  rw [Nat.zero_add]
/-- what takeFrom leaves, as a frame: this is the first model -/
theorem tk_fr {C u : Nat → va_E} (h2 : ∀ k, k < 74 → u (74 + k) = C (74 + k)) (h3 : ∀ k, k ≠ 0 → k < 24 → k ≠ 13 → k ≠ 14 → u (0 + k) = C (0 + k)) (h4 : ∀ i, i ∉ [9, 11, 13, 15, 19] → gv (u (0 + 0)) i = gv (C (0 + 0)) i) (h8 : ∀ k, 148 ≤ k → u k = C k) : fr [(13, 14), (14, 15), (24, 74)] [9, 11, 13, 15, 19] C u := by
  refine ⟨fun k hk h0 => ?_, fun i hi => h4 i hi⟩
  have a1 : k ≠ 13 := by intro e; subst e; exact absurd hk (by decide)
  have a2 : k ≠ 14 := by intro e; subst e; exact absurd hk (by decide)
  by_cases l1 : k < 24
  · have := h3 k h0 l1 a1 a2
    rw [Nat.zero_add] at this
    exact this
  · by_cases l2 : k < 74
    · have : inR [(13, 14), (14, 15), (24, 74)] k = true := inR_of (p := (24, 74)) (by decide) (by show 24 ≤ k; omega) (by show k < 74; omega)
      rw [this] at hk
      cases hk
    · by_cases l3 : k < 148
      · have := h2 (k - 74) (by omega)
        rw [show 74 + (k - 74) = k by omega] at this
        exact this
      · exact h8 k (by omega)
theorem relW_cp {S u : Nat → va_E} (h : RelW S) (e13 : gi (u 0) 13 = gi (S 0) 13) (ew : ∀ w, w < 5 → ∀ q, q < 3 → ga (u (64 + w)) q = ga (S (64 + w)) q) (eu : ∀ q, q < 7 → ga (u 14) q = ga (S 14) q) : RelW u := by
  refine ⟨fun w hw hl => ?_, fun h9 => ?_⟩
  · rw [e13] at hl
    rw [ew w hw 0 (by omega), ew w hw 1 (by omega)]
    exact h.1 w hw hl
  · rw [eu 0 (by omega)] at h9
    rw [eu 1 (by omega), e13]
    exact h.2 h9
theorem oh_relS0 {C C2 : Nat → va_E} {i : Int32} (h : RelS C) (e1 : ga (C2 1) = upd (ga (C 1)) i.toNatClampNeg 0) (e6 : C2 6 = C 6) : RelS C2 := by
  intro s hs c
  rw [e1] at c
  by_cases hq : s = i.toNatClampNeg
  · rw [hq, pk_us] at c
    exact absurd c (by decide)
  · rw [pk_un hq] at c
    rw [e6]
    exact h s hs c

set_option maxHeartbeats 4000000 in
set_option maxRecDepth 100000 in
theorem c_X7_back_n (l : Launch) (D : va_G) (E : Nat → ClassId) (G : Nat → Nat) (sz : Nat) (a : Nat → Nat) (C : Nat → va_E) (n : Nat) (hn : 74 ≤ n) (hT : TyM a E C) (hR : RelM C) (hkn : gv (C 0) 20 = .null) : Met l yX7_back (oh_w yX7_back cX7_back 2 (some .int)) ({ frames := 1, cells := 0, slots := 0, locals := 21 }) (oh_Pm D E G [.ref (a 0)] (oh_W n a C) sz) (va_Qi (fun r (u : Nat → va_E) => TyM a E u ∧ fr [(8, 9)] [] C u ∧ (RelM u) ∧ r = (-5)) (oh_B D (va_A (oh_W n a C) sz) (fun u => oh_W n a u)) (va_A (oh_W n a C) sz)) 0 0 (va_A (oh_W n a C) sz) := by
  refine Met.ofW (cc := cX7_back) (maxL := 2) (ret := (some .int)) (by decide) rfl ?_
  intro p e s m args below meth c s₁ B hml hv
  obtain ⟨rfl, hsz, hP, hK, hD0, hG⟩ := hv
  have hx := B.exec
  have hb := B.bytes
  have hr := B.returns
  have hts := atoms_spec (ws := (oh_w yX7_back cX7_back 2 (some .int))) B.pre
  have htg : ∀ w ∈ oh_t, w.before _ s = true := fun w h => hts w (List.mem_cons_of_mem _ h)
  have hown : s.vm.findClass RX7 = some m.cls := findClass_of_methodNamed B.named
  have hlocks := B.notSynchronized
  have hT0 := hT
  subst hsz
  have hD := hD0.self (sz := s.heap.size)
  generalize hAe : va_A (oh_W n a C) s.heap.size = A at hD hG ⊢
  have hA : ∀ q : Nat, s.heap.size ≤ q → A q := fun q h => by rw [← hAe]; exact Or.inr h
  have hS : va_S A s.heap s.heap [] := va_S.rf
  have hF : fr [(8, 9)] [] C C := fr_rf
  have hl := lv_entry ([.ref (a 0)]) (n := 2) (Nat.le_of_ble_eq_true rfl)
  rw [lg_entry_eq]
  generalize (lg_sl ([.ref (a 0)]) ++ List.replicate (2 - (lg_sl ([.ref (a 0)])).length) Slot.unset).toArray = ls at hl ⊢
  have hl : lv_has ls 2 [(0, .ref (a 0))] := hl
  refine oh_genQ (fun Q hQ => ?_)
  refine lv_aload_n hx hb dX7_back_0 rfl (lv_at hl 0 rfl) ?_
  refine va_get (D := D) (ci := 7) (v := .null) (C := RX7) (T := TX7) (N := 29) hx hb htg ig_7 hown hK hP 0 (oh_wg (Nat.lt_of_lt_of_le (by decide) hn) (sM_0 hT)) rfl 20 (by decide) (htg _ q_993) (fun _ h9 => h9) (congrArg some hkn) dX7_back_1 ?_
  refine lv_ifnonnullN hx hb dX7_back_4 ?_
  refine lv_aload_n hx hb dX7_back_7 rfl (lv_at hl 0 rfl) ?_
  refine lv_bipush (v := (-5)) hx hb dX7_back_8 (by decide) ?_
  refine tm_V (As := [.int (-5)]) (rest := []) ⟨hx, hb, hml, hown, htg⟩ (c_X7_refuse l D E G _ a C n hn hT ((-5) : Int32) (rg_w (rg_c (v := (-5)) (lo := (-5)) (hi := (-5)) (by decide)) (by decide))) (cwV 1 htg (oh_gV q_1071 q_1073 q_29 q_73 q_1074) rfl rfl rfl pdVX7_refuse ⟨Nat.le_of_ble_eq_true rfl, Nat.le_of_ble_eq_true rfl⟩) hK hP hD hG hS hA (va_recv hK hP (ci := 7) (q0 := 0) rfl (oh_wg (Nat.lt_of_lt_of_le (by decide) hn) (sM_0 hT))) rfl hl.1 rfl (Nat.le_of_ble_eq_true rfl) dX7_back_10 ⟨Nat.le_of_ble_eq_true rfl, Nat.le_of_ble_eq_true rfl⟩ (fun r_1 C_2 H locs hq_3 hP hD hS => ?_)
  obtain ⟨hT, f_4, hq_3⟩ := hq_3
  have hF := fr_tr hF f_4 (by decide) (by decide)
  refine W.widen (k := 0) (n := 0) (Nat.le_refl _) (Nat.le_refl _) ?_
  have t_5 := hT
  rw [hQ]
  exact W.iret (v := r_1) hx hb hr (fun t ht hW => ⟨⟨r_1, C_2, rfl, ⟨hT, hF, ⟨⟨hR.1.fr hF (by decide), hR.2.fr hF (by decide)⟩, hq_3⟩⟩, ⟨by rw [ht]; exact hP, hD⟩⟩, hS.F ht⟩) hS.2.2 dX7_back_13

set_option maxHeartbeats 4000000 in
set_option maxRecDepth 100000 in
theorem c_X7_back_k (l : Launch) (D : va_G) (E : Nat → ClassId) (G : Nat → Nat) (sz : Nat) (a : Nat → Nat) (C : Nat → va_E) (n : Nat) (hn : 74 ≤ n) (hT : TyM a E C) (hR : RelM C) (hkr : gv (C 0) 20 = .ref (a 74)) (hn2 : 148 ≤ n) (hTk : TyM (shf 74 a) E (shf 74 C)) (hRk : RelW (shf 74 C)) : Met l yX7_back (oh_w yX7_back cX7_back 2 (some .int)) ({ frames := 3, cells := 0, slots := 0, locals := 65 }) (oh_Pm D E G [.ref (a 0)] (oh_W n a C) sz) (va_Qi (fun r (u : Nat → va_E) => TyM a E u ∧ fr [(1, 2), (13, 14), (14, 15), (24, 74)] [9, 11, 13, 15, 19] C u ∧ (RelM u) ∧ r = 1 ∧ (∀ A : LA, absM (shf 74 C) A → ∀ S : HZ, absHM C S → absHM u (spDr S (A 5 0 1) 8)) ∧ (∀ A : LA, absM (shf 74 C) A → absM u A) ∧ (∀ T : TP, absTM (shf 74 C) T → absTM u T)) (oh_B D (va_A (oh_W n a C) sz) (fun u => oh_W n a u)) (va_A (oh_W n a C) sz)) 0 0 (va_A (oh_W n a C) sz) := by
  refine Met.ofW (cc := cX7_back) (maxL := 2) (ret := (some .int)) (by decide) rfl ?_
  intro p e s m args below meth c s₁ B hml hv
  obtain ⟨rfl, hsz, hP, hK, hD0, hG⟩ := hv
  have hx := B.exec
  have hb := B.bytes
  have hr := B.returns
  have hts := atoms_spec (ws := (oh_w yX7_back cX7_back 2 (some .int))) B.pre
  have htg : ∀ w ∈ oh_t, w.before _ s = true := fun w h => hts w (List.mem_cons_of_mem _ h)
  have hown : s.vm.findClass RX7 = some m.cls := findClass_of_methodNamed B.named
  have hlocks := B.notSynchronized
  have hT0 := hT
  subst hsz
  have hD := hD0.self (sz := s.heap.size)
  generalize hAe : va_A (oh_W n a C) s.heap.size = A at hD hG ⊢
  have hA : ∀ q : Nat, s.heap.size ≤ q → A q := fun q h => by rw [← hAe]; exact Or.inr h
  have hS : va_S A s.heap s.heap [] := va_S.rf
  have hF : fr [(1, 2), (13, 14), (14, 15), (24, 74)] [9, 11, 13, 15, 19] C C := fr_rf
  have hl := lv_entry ([.ref (a 0)]) (n := 2) (Nat.le_of_ble_eq_true rfl)
  rw [lg_entry_eq]
  generalize (lg_sl ([.ref (a 0)]) ++ List.replicate (2 - (lg_sl ([.ref (a 0)])).length) Slot.unset).toArray = ls at hl ⊢
  have hl : lv_has ls 2 [(0, .ref (a 0))] := hl
  refine oh_genQ (fun Q hQ => ?_)
  refine lv_aload_n hx hb dX7_back_0 rfl (lv_at hl 0 rfl) ?_
  refine va_get (D := D) (ci := 7) (v := .ref (a (74 + 0))) (C := RX7) (T := TX7) (N := 29) hx hb htg ig_7 hown hK hP 0 (oh_wg (Nat.lt_of_lt_of_le (by decide) hn) (sM_0 hT)) rfl 20 (by decide) (htg _ q_993) (fun _ h9 => h9) (congrArg some hkr) dX7_back_1 ?_
  refine lv_ifnonnull (tgt := 14) hx hb dX7_back_4 (by decide) ?_
  refine lv_aload_n hx hb dX7_back_14 rfl (lv_at hl 0 rfl) ?_
  refine lv_aload_n hx hb dX7_back_15 rfl (lv_at hl 0 rfl) ?_
  refine va_get (D := D) (ci := 7) (v := .ref (a (74 + 0))) (C := RX7) (T := TX7) (N := 29) hx hb htg ig_7 hown hK hP 0 (oh_wg (Nat.lt_of_lt_of_le (by decide) hn) (sM_0 hT)) rfl 20 (by decide) (htg _ q_993) (fun _ h9 => h9) (congrArg some hkr) dX7_back_16 ?_
  have hT1s : TyM (shf 0 a) E (shf 0 C) := by rw [shf_0, shf_0]; exact hT
  refine tm_Vv (b := a (0 + 0)) (As := [.ref (a (74 + 0))]) (rest := []) ⟨hx, hb, hml, hown, htg⟩ (c_X7_takeFrom l D E G _ n a C 0 74 (Or.inl ⟨rfl, rfl⟩) hn2 hT1s hTk) (cwV 1 htg (oh_gV q_1427 q_1429 q_64 q_73 q_1430) rfl rfl rfl pdVX7_takeFrom ⟨Nat.le_of_ble_eq_true rfl, Nat.le_of_ble_eq_true rfl⟩) hK hP hD hG hS hA (va_recv hK hP (ci := 7) (q0 := 0) rfl (oh_wg (by omega) (sM_0 hT))) rfl hl.1 rfl (Nat.le_of_ble_eq_true rfl) dX7_back_19 ⟨Nat.le_of_ble_eq_true rfl, Nat.le_of_ble_eq_true rfl⟩ (fun C_1 H locs hq hP hD hS => ?_)
  obtain ⟨hT, k2, k3, k4, k5, k6, k7, k8, k9⟩ := hq
  rw [shf_0, shf_0] at hT
  have k9b : ∀ A : LA, absM (shf 74 C) A → absM C_1 A := fun A hA => by have h := k9.1 A hA; rw [shf_0] at h; exact h
  have k9t : ∀ T : TP, absTM (shf 74 C) T → absTM C_1 T := fun T hT => by have h := k9.2 T hT; rw [shf_0] at h; exact h
  have f_2 : fr [(13, 14), (14, 15), (24, 74)] [9, 11, 13, 15, 19] C C_1 := tk_fr k2 k3 k4 k8
  have hF := fr_tr hF f_2 (by decide) (by decide)
  have hRw : RelW C_1 := relW_cp hRk k5 (fun w hw q hq => by have := k6 w hw q hq; rw [Nat.zero_add] at this; exact this) (fun q hq => by have := k7 q hq; rw [Nat.zero_add] at this; exact this)
  have hRs : RelS C_1 := hR.2.fr f_2 (by decide)
  refine W.widen (k := 0) (n := 0) (Nat.le_refl _) (Nat.le_refl _) ?_
  have t_3 := hT
  refine lv_iconst (v := 0) hx hb dX7_back_22 (by decide) ?_
  refine lv_istore_n (lv' := [(1, .int 0), (0, .ref (a 0))]) hx hb dX7_back_23 rfl hl (by decide) rfl (fun ls hl => ?_)
  have L_24 : ∀ (d : Nat) (K24 : Nat → va_E) (z24_1 : Int32) (H : Heap) (locs : List Loc) (ls : Array Slot), (8 - z24_1.toInt).toNat = d → rg z24_1 0 8 → (RelS K24) → (∀ A : LA, absM (shf 74 C) A → ∀ S : HZ, absHM C S → absHM K24 (spDr S (A 5 0 1) z24_1.toNatClampNeg)) → TyM a E K24 → fr [(1, 2), (13, 14), (14, 15), (24, 74)] [9, 11, 13, 15, 19] C K24 → fr [(1, 2)] [] C_1 K24 → va_P D vwCl (oh_W n a K24) H → va_D A (oh_W n a K24) → va_S A s.heap H locs → lv_has ls 2 [(1, .int z24_1), (0, .ref (a 0))] → W p l e ({ frames := 3, cells := 0, slots := 0, locals := 65 }) s m (([.ref (a 0)] : List Value).toArray) below meth c H locs 0 0 Q (F0 m 24 ls []) := by
    intro d
    induction d using Nat.strongRecOn with
    | ind d ih_24 =>
    intro K24 z24_1 H locs ls hd_24 hz24_1 hr_24 hx_24 hT hF hLF_24 hP hD hS hl
    have t_4 := hT
    refine lv_iload_n hx hb dX7_back_24 rfl (lv_at hl 0 rfl) ?_
    refine lv_bipush (v := 8) hx hb dX7_back_25 (by decide) ?_
    refine lv_icmp_ge (tgt := 66) hx hb dX7_back_27 (by decide) (fun (c_5 : (8 : Int32) ≤ z24_1) => ?_) (fun (c_5 : ¬ ((8 : Int32) ≤ z24_1)) => ?_)
    · refine lv_iconst (v := 1) hx hb dX7_back_66 (by decide) ?_
      rw [hQ]
      exact W.iret (v := 1) hx hb hr (fun t ht hW => ⟨⟨1, K24, rfl, ⟨hT, hF, ⟨⟨RelW.fr hRw hLF_24 (by decide), hr_24⟩, (by decide), (fun A hA S hS0 => by have h7 := hx_24 A hA S hS0; rw [oh_zeq (k := 8) hz24_1 c_5 (by decide)] at h7; exact h7), (fun A hA => absM_fr (k9b A hA) t_3 (show fr [(1, 2)] [] C_1 K24 from (fr_tr fr_rf hLF_24 (by decide) (by decide))) (by decide) (by decide) (by decide)), (fun T hT => absTM_eq (k9t T hT) (hLF_24.1 14 rfl (by decide)) (congrArg vi ((show fr [(1, 2)] [] C_1 K24 from (fr_tr fr_rf hLF_24 (by decide) (by decide))).2 19 (by decide))))⟩⟩, ⟨by rw [ht]; exact hP, hD⟩⟩, hS.F ht⟩) hS.2.2 dX7_back_67
    · refine lv_aload_n hx hb dX7_back_30 rfl (lv_at hl 1 rfl) ?_
      refine va_get (D := D) (ci := 7) (v := .ref (a 1)) (C := RX7) (T := TX7) (N := 29) hx hb htg ig_7 hown hK hP 0 (oh_wg (Nat.lt_of_lt_of_le (by decide) hn) (sM_0 hT)) rfl 0 (by decide) (htg _ q_973) (fun _ h9 => h9) rfl dX7_back_31 ?_
      refine lv_iload_n hx hb dX7_back_34 rfl (lv_at hl 0 rfl) ?_
      have n_6 : vp_in z24_1 8 := (rg_in (rn_ltu (u' := 7) (Int32.not_le.mp c_5) hz24_1 (rg_c (v := 8) (lo := 8) (hi := 8) (by decide)) (by decide)) (by decide))
      refine th_iald hx hb hK hP 1 (Nat.lt_of_lt_of_le (by decide) hn) (sM_1 hT) n_6 dX7_back_35 ?_
      refine lv_iconst (v := 2) hx hb dX7_back_36 (by decide) ?_
      refine lv_icmp_ne (tgt := 60) hx hb dX7_back_37 (by decide) (fun (c_7 : ¬ ((ga (K24 1) (z24_1).toNatClampNeg) = 2)) => ?_) (fun (c_7 : (ga (K24 1) (z24_1).toNatClampNeg) = 2) => ?_)
      · refine lv_iinc (v := z24_1 + 1) (lv' := [(1, .int (z24_1 + 1)), (0, .ref (a 0))]) hx hb dX7_back_60 hl (k := 0) rfl (by rfl) (by decide) rfl (fun ls hl => ?_)
        refine lv_goto (tgt := 24) hx hb dX7_back_63 (by decide) ?_
        exact ih_24 _ (hd_24 ▸ mu_up 8 (rn_ltu (u' := 7) (Int32.not_le.mp c_5) hz24_1 (rg_c (v := 8) (lo := 8) (hi := 8) (by decide)) (by decide)) (by decide)) K24 (z24_1 + 1) _ _ ls rfl (rg_w (rg_add (lo := 1) (hi := 8) (rn_ltu (u' := 7) (Int32.not_le.mp c_5) hz24_1 (rg_c (v := 8) (lo := 8) (hi := 8) (by decide)) (by decide)) (rg_c (v := 1) (lo := 1) (hi := 1) (by decide)) (by decide)) (by decide)) hr_24 (fun A hA S hS0 => by have eA : gi (C_1 0) 11 = A 5 0 1 := (k9b A hA).1 1 (by decide); have hn := rg_w (lo := 0) (hi := 24) (fM_0_11 t_3) (by decide); rw [eA] at hn; exact drm_n (hx_24 A hA S hS0) hn (rg_w (lo := 0) (hi := 7) (rn_ltu (u' := 7) (Int32.not_le.mp c_5) hz24_1 (rg_c (v := 8) (lo := 8) (hi := 8) (by decide)) (by decide)) (by decide)) (Or.inl c_7)) hT hF hLF_24 hP hD hS (lv_sub hl [0, 1] rfl)
      · refine lv_aload_n hx hb dX7_back_40 rfl (lv_at hl 1 rfl) ?_
        refine va_get (D := D) (ci := 7) (v := .ref (a 6)) (C := RX7) (T := TX7) (N := 29) hx hb htg ig_7 hown hK hP 0 (oh_wg (Nat.lt_of_lt_of_le (by decide) hn) (sM_0 hT)) rfl 5 (by decide) (htg _ q_978) (fun _ h9 => h9) rfl dX7_back_41 ?_
        refine lv_iload_n hx hb dX7_back_44 rfl (lv_at hl 0 rfl) ?_
        have n_8 : vp_in z24_1 8 := (rg_in (rn_ltu (u' := 7) (Int32.not_le.mp c_5) hz24_1 (rg_c (v := 8) (lo := 8) (hi := 8) (by decide)) (by decide)) (by decide))
        refine th_iald hx hb hK hP 6 (Nat.lt_of_lt_of_le (by decide) hn) (Eq.trans (Eq.trans (hLF_24.1 6 rfl (by decide)) (f_2.1 6 rfl (by decide))) (sM_6 hT0)) n_8 dX7_back_45 ?_
        refine lv_aload_n hx hb dX7_back_46 rfl (lv_at hl 1 rfl) ?_
        refine va_get (D := D) (ci := 7) (v := .int (gi (C_1 0) 11)) (C := RX7) (T := TX7) (N := 29) hx hb htg ig_7 hown hK hP 0 (oh_wg (Nat.lt_of_lt_of_le (by decide) hn) (sM_0 hT)) rfl 11 (by decide) (htg _ q_984) (fun _ h9 => h9) (oh_fv (c := K24 0) (j := 11) rfl (congrArg vi (hLF_24.2 11 (by decide)))) dX7_back_47 ?_
        refine lv_icmp_lt (tgt := 60) hx hb dX7_back_50 (by decide) (fun (c_9 : (ga (C 6) (z24_1).toNatClampNeg) < (gi (C_1 0) 11)) => ?_) (fun (c_9 : ¬ ((ga (C 6) (z24_1).toNatClampNeg) < (gi (C_1 0) 11))) => ?_)
        · refine lv_iinc (v := z24_1 + 1) (lv' := [(1, .int (z24_1 + 1)), (0, .ref (a 0))]) hx hb dX7_back_60 hl (k := 0) rfl (by rfl) (by decide) rfl (fun ls hl => ?_)
          refine lv_goto (tgt := 24) hx hb dX7_back_63 (by decide) ?_
          exact ih_24 _ (hd_24 ▸ mu_up 8 (rn_ltu (u' := 7) (Int32.not_le.mp c_5) hz24_1 (rg_c (v := 8) (lo := 8) (hi := 8) (by decide)) (by decide)) (by decide)) K24 (z24_1 + 1) _ _ ls rfl (rg_w (rg_add (lo := 1) (hi := 8) (rn_ltu (u' := 7) (Int32.not_le.mp c_5) hz24_1 (rg_c (v := 8) (lo := 8) (hi := 8) (by decide)) (by decide)) (rg_c (v := 1) (lo := 1) (hi := 1) (by decide)) (by decide)) (by decide)) hr_24 (fun A hA S hS0 => by have eA : gi (C_1 0) 11 = A 5 0 1 := (k9b A hA).1 1 (by decide); have hn := rg_w (lo := 0) (hi := 24) (fM_0_11 t_3) (by decide); rw [eA] at hn; exact drm_n (hx_24 A hA S hS0) hn (rg_w (lo := 0) (hi := 7) (rn_ltu (u' := 7) (Int32.not_le.mp c_5) hz24_1 (rg_c (v := 8) (lo := 8) (hi := 8) (by decide)) (by decide)) (by decide)) (Or.inr (by rw [(Eq.trans (hLF_24.1 6 rfl (by decide)) (f_2.1 6 rfl (by decide))), ← eA]; exact c_9))) hT hF hLF_24 hP hD hS (lv_sub hl [0, 1] rfl)
        · refine lv_aload_n hx hb dX7_back_53 rfl (lv_at hl 1 rfl) ?_
          refine va_get (D := D) (ci := 7) (v := .ref (a 1)) (C := RX7) (T := TX7) (N := 29) hx hb htg ig_7 hown hK hP 0 (oh_wg (Nat.lt_of_lt_of_le (by decide) hn) (sM_0 hT)) rfl 0 (by decide) (htg _ q_973) (fun _ h9 => h9) rfl dX7_back_54 ?_
          refine lv_iload_n hx hb dX7_back_57 rfl (lv_at hl 0 rfl) ?_
          refine lv_iconst (v := 0) hx hb dX7_back_58 (by decide) ?_
          have n_10 : vp_in z24_1 8 := (rg_in (rn_ltu (u' := 7) (Int32.not_le.mp c_5) hz24_1 (rg_c (v := 8) (lo := 8) (hi := 8) (by decide)) (by decide)) (by decide))
          refine th_iast (T := TyM a E) (Rl := fr [(1, 2), (13, 14), (14, 15), (24, 74)] [9, 11, 13, 15, 19] C) hx hb hK hP hD hS 1 (Nat.lt_of_lt_of_le (by decide) hn) (sM_1 hT) n_10 (hT.up 1 (by decide) (tA_upd (tM_1 hT) (tA_stc (Nat.mod_one _) (rg_c (v := 0) (lo := 0) (hi := 0) (by decide)) (by decide)))) (fr_st hF (by decide) (by decide)) dX7_back_59 (fun C_11 H locs e_12 hT hF hP hD hS => ?_)
          have t_13 := hT
          refine lv_iinc (v := z24_1 + 1) (lv' := [(1, .int (z24_1 + 1)), (0, .ref (a 0))]) hx hb dX7_back_60 hl (k := 0) rfl (by rfl) (by decide) rfl (fun ls hl => ?_)
          refine lv_goto (tgt := 24) hx hb dX7_back_63 (by decide) ?_
          exact ih_24 _ (hd_24 ▸ mu_up 8 (rn_ltu (u' := 7) (Int32.not_le.mp c_5) hz24_1 (rg_c (v := 8) (lo := 8) (hi := 8) (by decide)) (by decide)) (by decide)) C_11 (z24_1 + 1) _ _ ls rfl (rg_w (rg_add (lo := 1) (hi := 8) (rn_ltu (u' := 7) (Int32.not_le.mp c_5) hz24_1 (rg_c (v := 8) (lo := 8) (hi := 8) (by decide)) (by decide)) (rg_c (v := 1) (lo := 1) (hi := 1) (by decide)) (by decide)) (by decide)) (oh_relS0 (i := z24_1) hr_24 (st_ga e_12) (th_un e_12 (by decide))) (fun A hA S hS0 => by have eA : gi (C_1 0) 11 = A 5 0 1 := (k9b A hA).1 1 (by decide); have hn := rg_w (lo := 0) (hi := 24) (fM_0_11 t_3) (by decide); rw [eA] at hn; exact drm_y (hx_24 A hA S hS0) hn (rg_w (lo := 0) (hi := 7) (rn_ltu (u' := 7) (Int32.not_le.mp c_5) hz24_1 (rg_c (v := 8) (lo := 8) (hi := 8) (by decide)) (by decide)) (by decide)) c_7 (by rw [(Eq.trans (hLF_24.1 6 rfl (by decide)) (f_2.1 6 rfl (by decide))), ← eA]; exact (Int32.not_lt.mp c_9)) (st_ga e_12) (th_un e_12 (by decide)) (th_un e_12 (by decide)) (th_un e_12 (by decide))) hT hF (fr_ste hLF_24 e_12 (by decide) (by decide)) hP hD hS (lv_sub hl [0, 1] rfl)
  exact L_24 _ C_1 0 _ _ ls rfl (rg_w (rg_c (v := 0) (lo := 0) (hi := 0) (by decide)) (by decide)) hRs (fun A hA S hS0 => by rw [show spDr S (A 5 0 1) (0 : Int32).toNatClampNeg = S from dr_0 S _]; exact hm_fr hS0 (f_2.1 1 rfl (by decide)) (f_2.1 2 rfl (by decide)) (f_2.1 3 rfl (by decide)) (f_2.1 6 rfl (by decide))) hT hF fr_rf hP hD hS (lv_sub hl [0, 1] rfl)

theorem relM_congr {C u : Nat → va_E} (h : RelM C) (e : ∀ k, k < 74 → u k = C k) : RelM u := by
  have e0 := e 0 (by decide)
  have e14 := e 14 (by decide)
  have e1 := e 1 (by decide)
  have e6 := e 6 (by decide)
  refine ⟨⟨fun w hw hl => ?_, ?_⟩, ?_⟩
  · rw [e (64 + w) (by omega)]
    rw [e0] at hl
    exact h.1.1 w hw hl
  · rw [e14, e0]
    exact h.1.2
  · intro s hs
    rw [e1, e6]
    exact h.2 s hs
set_option maxHeartbeats 4000000 in
set_option maxRecDepth 100000 in
theorem c_X7_image_k (l : Launch) (D : va_G) (E : Nat → ClassId) (G : Nat → Nat) (sz : Nat) (a : Nat → Nat) (C : Nat → va_E) (n : Nat) (hn2 : 148 ≤ n) (hT : TyM a E C) (hR : RelM C) (hkr : gv (C 0) 20 = .ref (a 74)) (hTk : TyM (shf 74 a) E (shf 74 C)) : Met l yX7_image (oh_w yX7_image cX7_image 1 (some .int)) ({ frames := 3, cells := 0, slots := 0, locals := 65 }) (oh_Pm D E G [.ref (a 0)] (oh_W n a C) sz) (va_Qi (fun r (u : Nat → va_E) => TyM a E u ∧ RelM u ∧ (∀ k, k < 74 → u k = C k) ∧ TyM (shf 74 a) E (shf 74 u) ∧ RelW (shf 74 u) ∧ (∀ A : LA, absM C A → absM (shf 74 u) A) ∧ (∀ T : TP, absTM C T → absTM (shf 74 u) T) ∧ r = 1) (oh_B D (va_A (oh_W n a C) sz) (fun u => oh_W n a u)) (va_A (oh_W n a C) sz)) 0 0 (va_A (oh_W n a C) sz) := by
  refine Met.ofW (cc := cX7_image) (maxL := 1) (ret := (some .int)) (by decide) rfl ?_
  intro p e s m args below meth c s₁ B hml hv
  obtain ⟨rfl, hsz, hP, hK, hD0, hG⟩ := hv
  have hx := B.exec
  have hb := B.bytes
  have hr := B.returns
  have hts := atoms_spec (ws := (oh_w yX7_image cX7_image 1 (some .int))) B.pre
  have htg : ∀ w ∈ oh_t, w.before _ s = true := fun w h => hts w (List.mem_cons_of_mem _ h)
  have hown : s.vm.findClass RX7 = some m.cls := findClass_of_methodNamed B.named
  have hlocks := B.notSynchronized
  subst hsz
  have hD := hD0.self (sz := s.heap.size)
  generalize hAe : va_A (oh_W n a C) s.heap.size = A at hD hG ⊢
  have hA : ∀ q : Nat, s.heap.size ≤ q → A q := fun q h => by rw [← hAe]; exact Or.inr h
  have hS : va_S A s.heap s.heap [] := va_S.rf
  have hl := lv_entry ([.ref (a 0)]) (n := 1) (Nat.le_of_ble_eq_true rfl)
  rw [lg_entry_eq]
  generalize (lg_sl ([.ref (a 0)]) ++ List.replicate (1 - (lg_sl ([.ref (a 0)])).length) Slot.unset).toArray = ls at hl ⊢
  have hl : lv_has ls 1 [(0, .ref (a 0))] := hl
  refine lv_aload_n hx hb dX7_image_0 rfl (lv_at hl 0 rfl) ?_
  refine va_get (D := D) (ci := 7) (v := .ref (a (74 + 0))) (C := RX7) (T := TX7) (N := 29) hx hb htg ig_7 hown hK hP 0 (oh_wg (by omega) (sM_0 hT)) rfl 20 (by decide) (htg _ q_993) (fun _ h9 => h9) (congrArg some hkr) dX7_image_1 ?_
  refine lv_ifnonnull (tgt := 18) hx hb dX7_image_4 (by decide) ?_
  refine lv_aload_n hx hb dX7_image_18 rfl (lv_at hl 0 rfl) ?_
  refine va_get (D := D) (ci := 7) (v := .ref (a (74 + 0))) (C := RX7) (T := TX7) (N := 29) hx hb htg ig_7 hown hK hP 0 (oh_wg (by omega) (sM_0 hT)) rfl 20 (by decide) (htg _ q_993) (fun _ h9 => h9) (congrArg some hkr) dX7_image_19 ?_
  refine lv_aload_n hx hb dX7_image_22 rfl (lv_at hl 0 rfl) ?_
  have hT1s : TyM (shf 0 a) E (shf 0 C) := by rw [shf_0, shf_0]; exact hT
  refine tm_Vv (b := a (74 + 0)) (As := [.ref (a (0 + 0))]) (rest := []) ⟨hx, hb, hml, hown, htg⟩ (c_X7_takeFrom l D E G _ n a C 74 0 (Or.inr ⟨rfl, rfl⟩) hn2 hTk hT1s) (cwV 1 htg (oh_gV q_1427 q_1429 q_64 q_73 q_1430) rfl rfl rfl pdVX7_takeFrom ⟨Nat.le_of_ble_eq_true rfl, Nat.le_of_ble_eq_true rfl⟩) hK hP hD hG hS hA (va_recv hK hP (ci := 7) (q0 := 74 + 0) rfl (oh_wg (by omega) (show C (74 + 0) = _ from sM_0 hTk))) rfl hl.1 rfl (Nat.le_of_ble_eq_true rfl) dX7_image_23 ⟨Nat.le_of_ble_eq_true rfl, Nat.le_of_ble_eq_true rfl⟩ (fun u H locs hq hP hD hS => ?_)
  obtain ⟨k1, k2, k3, k4, k5, k6, k7, k8, k9⟩ := hq
  have k9b : ∀ A : LA, absM C A → absM (shf 74 u) A := fun A hA => k9.1 A (by rw [shf_0]; exact hA)
  have k9t : ∀ T : TP, absTM C T → absTM (shf 74 u) T := fun T hT => k9.2 T (by rw [shf_0]; exact hT)
  have hcc : ∀ k, k < 74 → u k = C k := fun k hk => by have := k2 k hk; rw [Nat.zero_add] at this; exact this
  have hRw : RelW (shf 74 u) := relW_cp hR.1 k5 (fun w hw q hq => by have := k6 w hw q hq; rw [Nat.zero_add] at this; exact this) (fun q hq => by have := k7 q hq; rw [Nat.zero_add] at this; exact this)
  refine W.widen (k := 0) (n := 0) (Nat.le_refl _) (Nat.le_refl _) ?_
  refine lv_iconst (v := 1) hx hb dX7_image_26 (by decide) ?_
  exact W.iret (v := 1) hx hb hr (fun t ht hW => ⟨⟨1, u, rfl, ⟨hT.congr hcc, relM_congr hR hcc, hcc, k1, hRw, k9b, k9t, rfl⟩, ⟨by rw [ht]; exact hP, hD⟩⟩, hS.F ht⟩) hS.2.2 dX7_image_27
