/-! FULL: the greatest weight for which there is a way -/
noncomputable def spOg (P : Int32 → Prop) : Int32 := Classical.epsilon P
theorem spOg_eq {P : Int32 → Prop} {r : Int32} (h : P r) (u : ∀ a b, P a → P b → a = b) : r = spOg P := u _ _ h (Classical.epsilon_spec ⟨r, h⟩)
def mwH (A : LA) (w f t : Int32) (v : Nat) : Prop := hasW (EcA (setA A 0 (Int32.ofNat v)) w 0 1) f.toNatClampNeg t.toNatClampNeg
theorem on9 {v : Nat} (h : v ≤ 900) : rg (Int32.ofNat v) 0 900 ∧ (Int32.ofNat v).toInt = (v : Int) := by
  have e : (Int32.ofNat v).toInt = (v : Int) := nI_toInt (by omega)
  exact ⟨⟨by rw [e]; omega, by rw [e]; omega⟩, e⟩
theorem mwH_m {A : LA} (h : okA A) {w f t : Int32} (h0 : rg w 0 4) (hl : w < A 5 0 2) {x y : Nat} (hy : y ≤ 900) (c : x ≤ y) (q : mwH A w f t y) : mwH A w f t x := by
  obtain ⟨y1, y2⟩ := on9 hy
  obtain ⟨x1, x2⟩ := on9 (v := x) (by omega)
  exact hw_w h h0 hl x1 y1 (by rw [x2, y2]; omega) q
theorem mwH_z {A : LA} {w f t z : Int32} {u : Int} (hz : rg z 0 u) : mwH A w f t z.toNatClampNeg ↔ hasW (EcA (setA A 0 z) w 0 1) f.toNatClampNeg t.toNatClampNeg := by
  unfold mwH
  rw [oh_ofc hz (by decide)]
/-- r: the greatest weight, or no for none -/
def mwR (P : Nat → Prop) (no r : Int32) : Prop := (r = no ∧ ∀ v, v ≤ 900 → ¬ P v) ∨ ∃ k, k ≤ 900 ∧ r = Int32.ofNat k ∧ P k ∧ ∀ v, k < v → v ≤ 900 → ¬ P v
theorem mwR_u {P : Nat → Prop} {no : Int32} (a b : Int32) (h : mwR P no a) (g : mwR P no b) : a = b := by
  rcases h with ⟨h1, h2⟩ | ⟨i, hi, h1, h2, h3⟩
  · rcases g with ⟨g1, g2⟩ | ⟨j, hj, g1, g2, g3⟩
    · rw [h1, g1]
    · exact absurd g2 (h2 j hj)
  · rcases g with ⟨g1, g2⟩ | ⟨j, hj, g1, g2, g3⟩
    · exact absurd h2 (g2 i hi)
    · have e : i = j := by
        by_cases c : i < j
        · exact absurd g2 (h3 j c hj)
        · by_cases d : j < i
          · exact absurd h2 (g3 i d hi)
          · omega
      rw [h1, g1, e]
theorem mwR_5 {P : Nat → Prop} {a r : Int32} (h : mwR P (-1) a) (e : a = -1) (er : r = -5) : mwR P (-5) r := by
  rcases h with ⟨_, h2⟩ | ⟨i, hi, h1, _, _⟩
  · exact Or.inl ⟨er, h2⟩
  · have h3 := congrArg Int32.toInt (Eq.trans h1.symm e)
    rw [(on9 hi).2, show (-1 : Int32).toInt = -1 from rfl] at h3
    omega
theorem mwR_6 {P : Nat → Prop} {a : Int32} (h : mwR P (-1) a) (e : ¬ a = -1) : mwR P (-5) a := by
  rcases h with ⟨h1, _⟩ | h
  · exact absurd h1 e
  · exact Or.inr h
noncomputable def spMost (A : LA) (w f t : Int32) : Int32 := pif ((0 ≤ w ∧ w < A 5 0 2) ∧ (0 ≤ f ∧ f ≤ 15) ∧ (0 ≤ t ∧ t ≤ 15)) (spOg (mwR (mwH A w f t) (-5))) (-2)
def pwB (b : Nat) : Prop := b = 0 ∨ b = 1 ∨ b = 2 ∨ b = 4 ∨ b = 8 ∨ b = 16 ∨ b = 32 ∨ b = 64 ∨ b = 128 ∨ b = 256 ∨ b = 512
def nxB (b : Nat) : Nat := if b = 0 then 1 else 2 * b
theorem pwB_s {b : Nat} (h : pwB b) (hb : ¬ b = 0) : pwB (b / 2) ∧ nxB (b / 2) = b ∧ nxB b = b + b := by
  unfold pwB nxB at *
  rcases h with rfl | rfl | rfl | rfl | rfl | rfl | rfl | rfl | rfl | rfl | rfl
  · exact absurd rfl hb
  all_goals decide
def mwI (P : Nat → Prop) (wt b : Nat) : Prop := pwB b ∧ wt ≤ 900 ∧ P wt ∧ ∀ v, wt + nxB b ≤ v → v ≤ 900 → ¬ P v
theorem mw_y {P : Nat → Prop} {k b : Nat} (h : mwI P k b) (hb : ¬ b = 0) (hk : k + b ≤ 900) (q : P (k + b)) : mwI P (k + b) (b / 2) := by
  obtain ⟨s1, s2, s3⟩ := pwB_s h.1 hb
  refine ⟨s1, hk, q, fun v hv => h.2.2.2 v ?_⟩
  rw [s2] at hv
  rw [s3]
  omega
theorem mw_n {P : Nat → Prop} {k b : Nat} (h : mwI P k b) (hb : ¬ b = 0) (hm : ∀ x y, y ≤ 900 → x ≤ y → P y → P x) (c : ¬ (k + b ≤ 900 ∧ P (k + b))) : mwI P k (b / 2) := by
  obtain ⟨s1, s2, s3⟩ := pwB_s h.1 hb
  refine ⟨s1, h.2.1, h.2.2.1, fun v hv h9 pv => ?_⟩
  rw [s2] at hv
  exact c ⟨by omega, hm _ v h9 hv pv⟩
theorem mw_e {P : Nat → Prop} {k b : Nat} (h : mwI P k b) (hb : b = 0) : ∀ v, k < v → v ≤ 900 → ¬ P v := fun v hv => h.2.2.2 v (by rw [hb]; show k + 1 ≤ v; omega)
theorem half_n {x : Int32} (h : rg x 0 512) : (x / 2).toNatClampNeg = x.toNatClampNeg / 2 := by
  have e : (x / 2).toInt = x.toInt / 2 := by
    rw [Int32.toInt_div, show x.toInt.tdiv (2 : Int32).toInt = x.toInt / 2 from Int.tdiv_eq_ediv_of_nonneg h.1]
    exact oh_bmod (by have := h.1; omega) (by have := h.2; omega)
  have a := oh_nat h (by decide)
  have b := oh_nat (rg_half h (by decide)) (by decide)
  omega
theorem add_n {x y : Int32} (hx : rg x 0 900) (hy : rg y 0 512) : (x + y).toNatClampNeg = x.toNatClampNeg + y.toNatClampNeg ∧ rg (x + y) 0 1412 := by
  have k : rg (x + y) 0 1412 := rg_add hx hy (by decide)
  have e : (x + y).toInt = x.toInt + y.toInt := by
    rw [Int32.toInt_add]
    exact oh_bmod (by have := hx.1; have := hy.1; omega) (by have := hx.2; have := hy.2; omega)
  have a := oh_nat hx (by decide)
  have b := oh_nat hy (by decide)
  have c := oh_nat k (by decide)
  exact ⟨by omega, k⟩
/-- the class's loop: weight x, bit y -/
def mwX (A : LA) (w f t x y : Int32) : Prop := rg x 0 900 ∧ mwI (mwH A w f t) x.toNatClampNeg y.toNatClampNeg
theorem mwX_0 {A : LA} {w f t : Int32} (q : hasW (EcA (setA A 0 0) w 0 1) f.toNatClampNeg t.toNatClampNeg) : mwX A w f t 0 512 := by
  refine ⟨⟨by decide, by decide⟩, ?_, by decide, q, fun v hv h9 => ?_⟩
  · exact Or.inr (Or.inr (Or.inr (Or.inr (Or.inr (Or.inr (Or.inr (Or.inr (Or.inr (Or.inr rfl)))))))))
  · have hv : 0 + 1024 ≤ v := hv
    omega
theorem mwX_y {A : LA} {w f t x y : Int32} (h : mwX A w f t x y) (hy : rg y 1 512) (c : x + y ≤ 900) (q : hasW (EcA (setA A 0 (x + y)) w 0 1) f.toNatClampNeg t.toNatClampNeg) : mwX A w f t (x + y) (y / 2) := by
  have hy0 : rg y 0 512 := rg_w hy (by decide)
  obtain ⟨e, k⟩ := add_n h.1 hy0
  have c2 := Int32.le_iff_toInt_le.mp c
  have n := oh_nat k (by decide)
  have m := oh_nat hy0 (by decide)
  have e9 : (900 : Int32).toInt = 900 := rfl
  refine ⟨⟨k.1, by omega⟩, ?_⟩
  rw [half_n hy0, e]
  exact mw_y h.2 (by have := hy.1; omega) (by omega) (by rw [← e]; exact (mwH_z k).mpr q)
theorem mwX_n {A : LA} (ho : okA A) {w f t x y : Int32} (h0 : rg w 0 4) (hl : w < A 5 0 2) (h : mwX A w f t x y) (hy : rg y 1 512) (c : ¬ (x + y ≤ 900 ∧ hasW (EcA (setA A 0 (x + y)) w 0 1) f.toNatClampNeg t.toNatClampNeg)) : mwX A w f t x (y / 2) := by
  have hy0 : rg y 0 512 := rg_w hy (by decide)
  obtain ⟨e, k⟩ := add_n h.1 hy0
  have n := oh_nat k (by decide)
  have m := oh_nat hy0 (by decide)
  have e9 : (900 : Int32).toInt = 900 := rfl
  refine ⟨h.1, ?_⟩
  rw [half_n hy0]
  refine mw_n h.2 (by have := hy.1; omega) (fun a b hb hab q => mwH_m ho h0 hl hb hab q) (fun z => c ⟨Int32.le_iff_toInt_le.mpr (by rw [← e] at z; omega), ?_⟩)
  rw [← e] at z
  exact (mwH_z k).mp z.2
theorem mwX_e {A : LA} {w f t x y : Int32} (h : mwX A w f t x y) (hy : rg y 0 512) (c : y ≤ 0) : mwR (mwH A w f t) (-1) x := by
  have c2 := Int32.le_iff_toInt_le.mp c
  have m := oh_nat hy (by decide)
  have e0 : (0 : Int32).toInt = 0 := rfl
  exact Or.inr ⟨x.toNatClampNeg, h.2.2.1, (oh_ofc h.1 (by decide)).symm, h.2.2.2.1, mw_e h.2 (by omega)⟩
theorem mwX_z {A : LA} (ho : okA A) {w f t : Int32} (h0 : rg w 0 4) (hl : w < A 5 0 2) (q : ¬ hasW (EcA (setA A 0 0) w 0 1) f.toNatClampNeg t.toNatClampNeg) : mwR (mwH A w f t) (-1) (-1) := Or.inl ⟨rfl, fun v hv pv => q (mwH_m ho h0 hl hv (Nat.zero_le v) pv)⟩

set_option maxHeartbeats 4000000 in
set_option maxRecDepth 100000 in
theorem e2_X6_heaviest (l : Launch) (D : va_G) (E : Nat → ClassId) (G : Nat → Nat) (sz : Nat) (a : Nat → Nat) (C : Nat → va_E) (hT : TyX a E C) (x1 : Int32) (x2 : Int32) (x3 : Int32) (hx1 : rg x1 0 4) (hx2 : rg x2 0 15) (hx3 : rg x3 0 15) : Met l yX6_heaviest (oh_w yX6_heaviest cX6_heaviest 6 (some .int)) ({ frames := 5, cells := 0, slots := 0, locals := 124 }) (oh_Pm D E G [.ref (a 0), .int x1, .int x2, .int x3] (oh_W 35 a C) sz) (va_Qi (fun r (u : Nat → va_E) => TyX a E u ∧ fr [(9, 10), (15, 16), (24, 28)] [] C u ∧ (∀ j, j ≠ 0 → ga (u 15) j = ga (C 15) j) ∧ (∀ A : LA, absX 10 C A → okA A → x1 < A 5 0 2 → mwR (mwH A x1 x2 x3) (-1) r)) (oh_B D (va_A (oh_W 35 a C) sz) (fun u => oh_W 35 a u)) (va_A (oh_W 35 a C) sz)) 0 0 (va_A (oh_W 35 a C) sz) := by
  refine Met.ofW (cc := cX6_heaviest) (maxL := 6) (ret := (some .int)) (by decide) rfl ?_
  intro p e s m args below meth c s₁ B hml hv
  obtain ⟨rfl, hsz, hP, hK, hD0, hG⟩ := hv
  have hx := B.exec
  have hb := B.bytes
  have hr := B.returns
  have hts := atoms_spec (ws := (oh_w yX6_heaviest cX6_heaviest 6 (some .int))) B.pre
  have htg : ∀ w ∈ oh_t, w.before _ s = true := fun w h => hts w (List.mem_cons_of_mem _ h)
  have hown : s.vm.findClass RX6 = some m.cls := findClass_of_methodNamed B.named
  have hlocks := B.notSynchronized
  have hT0 := hT
  subst hsz
  have hD := hD0.self (sz := s.heap.size)
  generalize hAe : va_A (oh_W 35 a C) s.heap.size = A at hD hG ⊢
  have hA : ∀ q : Nat, s.heap.size ≤ q → A q := fun q h => by rw [← hAe]; exact Or.inr h
  have hS : va_S A s.heap s.heap [] := va_S.rf
  have hF : fr [(9, 10), (15, 16), (24, 28)] [] C C := fr_rf
  have hl := lv_entry ([.ref (a 0), .int x1, .int x2, .int x3]) (n := 6) (Nat.le_of_ble_eq_true rfl)
  rw [lg_entry_eq]
  generalize (lg_sl ([.ref (a 0), .int x1, .int x2, .int x3]) ++ List.replicate (6 - (lg_sl ([.ref (a 0), .int x1, .int x2, .int x3])).length) Slot.unset).toArray = ls at hl ⊢
  have hl : lv_has ls 6 [(0, .ref (a 0)), (1, .int x1), (2, .int x2), (3, .int x3)] := hl
  refine oh_genQ (fun Q hQ => ?_)
  refine lv_aload_n hx hb dX6_heaviest_0 rfl (lv_at hl 0 rfl) ?_
  refine va_get (D := D) (ci := 6) (v := .ref (a 1)) (C := RX6) (T := TX6) (N := 9) hx hb htg ig_6 hown hK hP 0 (oh_wg (by decide) (sX_0 hT)) rfl 0 (by decide) (htg _ q_258) (fun _ h9 => h9) rfl dX6_heaviest_1 ?_
  refine va_get (D := D) (ci := 0) (v := .ref (a 15)) (C := RX0) (T := TX0) (N := 8) hx hb htg ig_0 hown hK hP 1 (oh_wg (by decide) (sX_1 hT)) rfl 5 (by decide) (htg _ q_110) (fun _ h9 => h9) rfl dX6_heaviest_4 ?_
  refine lv_iconst (v := 0) hx hb dX6_heaviest_7 (by decide) ?_
  refine lv_iconst (v := 0) hx hb dX6_heaviest_8 (by decide) ?_
  refine th_iast (T := TyX a E) (Rl := fr [(9, 10), (15, 16), (24, 28)] [] C) hx hb hK hP hD hS 15 (by decide) (sX_15 hT) (rg_in (rg_c (v := 0) (lo := 0) (hi := 0) (by decide)) (by decide)) (hT.up 15 (tA_upd (tX_15 hT) tA_any)) (fr_st hF (by decide) (by decide)) dX6_heaviest_9 (fun C_1 H locs e_2 hT hF hP hD hS => ?_)
  have t_3 := hT
  refine lv_aload_n hx hb dX6_heaviest_10 rfl (lv_at hl 0 rfl) ?_
  refine va_get (D := D) (ci := 6) (v := .ref (a 3)) (C := RX6) (T := TX6) (N := 9) hx hb htg ig_6 hown hK hP 0 (oh_wg (by decide) (sX_0 hT)) rfl 3 (by decide) (htg _ q_261) (fun _ h9 => h9) rfl dX6_heaviest_11 ?_
  refine lv_iload_n hx hb dX6_heaviest_14 rfl (lv_at hl 1 rfl) ?_
  refine lv_iconst (v := 0) hx hb dX6_heaviest_15 (by decide) ?_
  refine lv_iload_n hx hb dX6_heaviest_16 rfl (lv_at hl 2 rfl) ?_
  refine lv_iload_n hx hb dX6_heaviest_17 rfl (lv_at hl 3 rfl) ?_
  refine tm_V (As := [.int x1, .int 0, .int x2, .int x3]) (rest := []) ⟨hx, hb, hml, hown, htg⟩ (e_X5_hasWay l D E G _ a C_1 hT x1 (0 : Int32) x2 x3 (rg_w hx1 (by decide)) (rg_w hx2 (by decide)) (rg_w hx3 (by decide))) (cwV 4 htg (oh_gV q_881 q_882 q_883 q_68 q_884) rfl rfl rfl pdVX5_hasWay ⟨Nat.le_of_ble_eq_true rfl, Nat.le_of_ble_eq_true rfl⟩) hK hP hD hG hS hA (va_recv hK hP (ci := 5) (q0 := 3) rfl (oh_wg (by decide) (sX_3 hT))) rfl hl.1 rfl (Nat.le_of_ble_eq_true rfl) dX6_heaviest_18 ⟨Nat.le_of_ble_eq_true rfl, Nat.le_of_ble_eq_true rfl⟩ (fun r_4 C_5 H locs hq_6 hP hD hS => ?_)
  obtain ⟨hT, f_7, hq_6⟩ := hq_6
  have hF := fr_tr hF f_7 (by decide) (by decide)
  refine W.widen (k := 0) (n := 0) (Nat.le_refl _) (Nat.le_refl _) ?_
  have t_8 := hT
  refine lv_if_ne (tgt := 26) hx hb dX6_heaviest_21 (by decide) (fun (c_9 : ¬ (r_4 = 0)) => ?_) (fun (c_9 : r_4 = 0) => ?_)
  · refine lv_iconst (v := 0) hx hb dX6_heaviest_26 (by decide) ?_
    refine lv_istore (lv' := [(4, .int 0), (0, .ref (a 0)), (1, .int x1), (2, .int x2), (3, .int x3)]) hx hb dX6_heaviest_27 hl (by decide) rfl (fun ls hl => ?_)
    refine lv_sipush (v := 512) hx hb dX6_heaviest_29 (by decide) ?_
    refine lv_istore (lv' := [(5, .int 512), (4, .int 0), (0, .ref (a 0)), (1, .int x1), (2, .int x2), (3, .int x3)]) hx hb dX6_heaviest_32 hl (by decide) rfl (fun ls hl => ?_)
    have L_34 : ∀ (d : Nat) (K34 : Nat → va_E) (z34_5 : Int32) (z34_4 : Int32) (H : Heap) (locs : List Loc) (ls : Array Slot), z34_5.toInt.toNat = d → rg z34_5 0 512 → (∀ j, j ≠ 0 → ga (K34 15) j = ga (C 15) j) → (∀ A : LA, absX 10 C A → okA A → x1 < A 5 0 2 → mwX A x1 x2 x3 z34_4 z34_5) → TyX a E K34 → fr [(9, 10), (15, 16), (24, 28)] [] C K34 → fr [(9, 10), (15, 16), (24, 28)] [] C_5 K34 → va_P D vwCl (oh_W 35 a K34) H → va_D A (oh_W 35 a K34) → va_S A s.heap H locs → lv_has ls 6 [(5, .int z34_5), (4, .int z34_4), (0, .ref (a 0)), (1, .int x1), (2, .int x2), (3, .int x3)] → W p l e ({ frames := 5, cells := 0, slots := 0, locals := 124 }) s m (([.ref (a 0), .int x1, .int x2, .int x3] : List Value).toArray) below meth c H locs 0 0 Q (F0 m 34 ls []) := by
      intro d
      induction d using Nat.strongRecOn with
      | ind d ih_34 =>
      intro K34 z34_5 z34_4 H locs ls hd_34 hz34_5 hx_34 hv_34 hT hF hLF_34 hP hD hS hl
      have t_10 := hT
      refine lv_iload hx hb dX6_heaviest_34 (lv_at hl 0 rfl) ?_
      refine lv_if_le (tgt := 94) hx hb dX6_heaviest_36 (by decide) (fun (c_11 : z34_5 ≤ 0) => ?_) (fun (c_11 : ¬ (z34_5 ≤ 0)) => ?_)
      · refine lv_iload hx hb dX6_heaviest_94 (lv_at hl 1 rfl) ?_
        rw [hQ]
        exact W.iret (v := z34_4) hx hb hr (fun t ht hW => ⟨⟨z34_4, K34, rfl, ⟨hT, hF, ⟨(fun j hj => (hx_34 j hj)), (fun A hA hok hl => mwX_e (hv_34 A hA hok hl) hz34_5 c_11)⟩⟩, ⟨by rw [ht]; exact hP, hD⟩⟩, hS.F ht⟩) hS.2.2 dX6_heaviest_96
      · refine lv_aload_n hx hb dX6_heaviest_39 rfl (lv_at hl 2 rfl) ?_
        refine va_get (D := D) (ci := 6) (v := .ref (a 1)) (C := RX6) (T := TX6) (N := 9) hx hb htg ig_6 hown hK hP 0 (oh_wg (by decide) (sX_0 hT)) rfl 0 (by decide) (htg _ q_258) (fun _ h9 => h9) rfl dX6_heaviest_40 ?_
        refine va_get (D := D) (ci := 0) (v := .ref (a 15)) (C := RX0) (T := TX0) (N := 8) hx hb htg ig_0 hown hK hP 1 (oh_wg (by decide) (sX_1 hT)) rfl 5 (by decide) (htg _ q_110) (fun _ h9 => h9) rfl dX6_heaviest_43 ?_
        refine lv_iconst (v := 0) hx hb dX6_heaviest_46 (by decide) ?_
        refine lv_iload hx hb dX6_heaviest_47 (lv_at hl 1 rfl) ?_
        refine lv_iload hx hb dX6_heaviest_49 (lv_at hl 0 rfl) ?_
        refine lv_iadd hx hb dX6_heaviest_51 ?_
        refine th_iast (T := TyX a E) (Rl := fr [(9, 10), (15, 16), (24, 28)] [] C) hx hb hK hP hD hS 15 (by decide) (sX_15 hT) (rg_in (rg_c (v := 0) (lo := 0) (hi := 0) (by decide)) (by decide)) (hT.up 15 (tA_upd (tX_15 hT) tA_any)) (fr_st hF (by decide) (by decide)) dX6_heaviest_52 (fun C_12 H locs e_13 hT hF hP hD hS => ?_)
        have t_14 := hT
        refine lv_iload hx hb dX6_heaviest_53 (lv_at hl 1 rfl) ?_
        refine lv_iload hx hb dX6_heaviest_55 (lv_at hl 0 rfl) ?_
        refine lv_iadd hx hb dX6_heaviest_57 ?_
        refine lv_sipush (v := 900) hx hb dX6_heaviest_58 (by decide) ?_
        refine lv_icmp_gt (tgt := 85) hx hb dX6_heaviest_61 (by decide) (fun (c_15 : (900 : Int32) < (z34_4 + z34_5)) => ?_) (fun (c_15 : ¬ ((900 : Int32) < (z34_4 + z34_5))) => ?_)
        · refine lv_iload hx hb dX6_heaviest_85 (lv_at hl 0 rfl) ?_
          refine lv_iconst (v := 2) hx hb dX6_heaviest_87 (by decide) ?_
          refine lv_idiv hx hb dX6_heaviest_88 (by decide) ?_
          refine lv_istore (lv' := [(5, .int (z34_5 / 2)), (4, .int z34_4), (0, .ref (a 0)), (1, .int x1), (2, .int x2), (3, .int x3)]) hx hb dX6_heaviest_89 hl (by decide) rfl (fun ls hl => ?_)
          refine lv_goto (tgt := 34) hx hb dX6_heaviest_91 (by decide) ?_
          exact ih_34 _ (hd_34 ▸ mu_half (rn_ltl (l' := 1) (Int32.not_le.mp c_11) (rg_c (v := 0) (lo := 0) (hi := 0) (by decide)) hz34_5 (by decide)) (by decide)) C_12 (z34_5 / 2) z34_4 _ _ ls rfl (rg_half (rn_ltl (l' := 1) (Int32.not_le.mp c_11) (rg_c (v := 0) (lo := 0) (hi := 0) (by decide)) hz34_5 (by decide)) (by decide)) (fun j hj => (Eq.trans (show ga (C_12 15) j = ga (K34 15) j by rw [st_ga e_13]; exact pk_un hj) (hx_34 j hj))) (fun A hA hok hl => by have h := hv_34 A hA hok hl; have hy : rg z34_5 1 512 := (rg_w (lo := 1) (hi := 512) (rn_ltl (l' := 1) (Int32.not_le.mp c_11) (rg_c (v := 0) (lo := 0) (hi := 0) (by decide)) hz34_5 (by decide)) (by decide)); exact mwX_n hok hx1 hl h hy (fun q => absurd q.1 (Int32.not_le.mpr c_15))) hT hF (fr_ste hLF_34 e_13 (by decide) (by decide)) hP hD hS (lv_sub hl [0, 1, 2, 3, 4, 5] rfl)
        · refine lv_aload_n hx hb dX6_heaviest_64 rfl (lv_at hl 2 rfl) ?_
          refine va_get (D := D) (ci := 6) (v := .ref (a 3)) (C := RX6) (T := TX6) (N := 9) hx hb htg ig_6 hown hK hP 0 (oh_wg (by decide) (sX_0 hT)) rfl 3 (by decide) (htg _ q_261) (fun _ h9 => h9) rfl dX6_heaviest_65 ?_
          refine lv_iload_n hx hb dX6_heaviest_68 rfl (lv_at hl 3 rfl) ?_
          refine lv_iconst (v := 0) hx hb dX6_heaviest_69 (by decide) ?_
          refine lv_iload_n hx hb dX6_heaviest_70 rfl (lv_at hl 4 rfl) ?_
          refine lv_iload_n hx hb dX6_heaviest_71 rfl (lv_at hl 5 rfl) ?_
          refine tm_V (As := [.int x1, .int 0, .int x2, .int x3]) (rest := []) ⟨hx, hb, hml, hown, htg⟩ (e_X5_hasWay l D E G _ a C_12 hT x1 (0 : Int32) x2 x3 (rg_w hx1 (by decide)) (rg_w hx2 (by decide)) (rg_w hx3 (by decide))) (cwV 4 htg (oh_gV q_881 q_882 q_883 q_68 q_884) rfl rfl rfl pdVX5_hasWay ⟨Nat.le_of_ble_eq_true rfl, Nat.le_of_ble_eq_true rfl⟩) hK hP hD hG hS hA (va_recv hK hP (ci := 5) (q0 := 3) rfl (oh_wg (by decide) (sX_3 hT))) rfl hl.1 rfl (Nat.le_of_ble_eq_true rfl) dX6_heaviest_72 ⟨Nat.le_of_ble_eq_true rfl, Nat.le_of_ble_eq_true rfl⟩ (fun r_16 C_17 H locs hq_18 hP hD hS => ?_)
          obtain ⟨hT, f_19, hq_18⟩ := hq_18
          have hF := fr_tr hF f_19 (by decide) (by decide)
          refine W.widen (k := 0) (n := 0) (Nat.le_refl _) (Nat.le_refl _) ?_
          have t_20 := hT
          refine lv_if_eq (tgt := 85) hx hb dX6_heaviest_75 (by decide) (fun (c_21 : r_16 = 0) => ?_) (fun (c_21 : ¬ (r_16 = 0)) => ?_)
          · refine lv_iload hx hb dX6_heaviest_85 (lv_at hl 0 rfl) ?_
            refine lv_iconst (v := 2) hx hb dX6_heaviest_87 (by decide) ?_
            refine lv_idiv hx hb dX6_heaviest_88 (by decide) ?_
            refine lv_istore (lv' := [(5, .int (z34_5 / 2)), (4, .int z34_4), (0, .ref (a 0)), (1, .int x1), (2, .int x2), (3, .int x3)]) hx hb dX6_heaviest_89 hl (by decide) rfl (fun ls hl => ?_)
            refine lv_goto (tgt := 34) hx hb dX6_heaviest_91 (by decide) ?_
            exact ih_34 _ (hd_34 ▸ mu_half (rn_ltl (l' := 1) (Int32.not_le.mp c_11) (rg_c (v := 0) (lo := 0) (hi := 0) (by decide)) hz34_5 (by decide)) (by decide)) C_17 (z34_5 / 2) z34_4 _ _ ls rfl (rg_half (rn_ltl (l' := 1) (Int32.not_le.mp c_11) (rg_c (v := 0) (lo := 0) (hi := 0) (by decide)) hz34_5 (by decide)) (by decide)) (fun j hj => (Eq.trans (congrArg (fun z => ga z j) (f_19.1 15 rfl (by decide))) (Eq.trans (show ga (C_12 15) j = ga (K34 15) j by rw [st_ga e_13]; exact pk_un hj) (hx_34 j hj)))) (fun A hA hok hl => by have h := hv_34 A hA hok hl; have hy : rg z34_5 1 512 := (rg_w (lo := 1) (hi := 512) (rn_ltl (l' := 1) (Int32.not_le.mp c_11) (rg_c (v := 0) (lo := 0) (hi := 0) (by decide)) hz34_5 (by decide)) (by decide)); have c : z34_4 + z34_5 ≤ 900 := (Int32.not_lt.mp c_15); have k9 : rg (z34_4 + z34_5) 0 900 := ⟨(add_n h.1 (rg_w hy (by decide))).2.1, Int32.le_iff_toInt_le.mp c⟩; exact mwX_n hok hx1 hl h hy (fun q => absurd (Eq.trans (Eq.symm ((hq_18.2 (setA A 0 (z34_4 + z34_5)) (absX_sk 0 hA (fun k k1 k2 => (Eq.trans (th_un e_13 (by omega)) (Eq.trans (fr_all hLF_34 10 14 (by decide) k k1 k2) (Eq.trans (fr_all f_7 10 14 (by decide) k k1 k2) (th_un e_2 (by omega)))))) (by rw [st_ga e_13]; exact pk_us) (fun j hj => (Eq.trans (show ga (C_12 15) j = ga (K34 15) j by rw [st_ga e_13]; exact pk_un hj) (hx_34 j hj)))) (ok_set hok (fun _ => k9) (fun e => absurd e (by decide)) (fun e => absurd e (by decide))) (set_52 hl)).mpr q.2)) c_21) (by decide))) hT hF (fr_tr (fr_ste hLF_34 e_13 (by decide) (by decide)) f_19 (by decide) (by decide)) hP hD hS (lv_sub hl [0, 1, 2, 3, 4, 5] rfl)
          · refine lv_iload hx hb dX6_heaviest_78 (lv_at hl 1 rfl) ?_
            refine lv_iload hx hb dX6_heaviest_80 (lv_at hl 0 rfl) ?_
            refine lv_iadd hx hb dX6_heaviest_82 ?_
            refine lv_istore (lv' := [(4, .int (z34_4 + z34_5)), (5, .int z34_5), (0, .ref (a 0)), (1, .int x1), (2, .int x2), (3, .int x3)]) hx hb dX6_heaviest_83 hl (by decide) rfl (fun ls hl => ?_)
            refine lv_iload hx hb dX6_heaviest_85 (lv_at hl 1 rfl) ?_
            refine lv_iconst (v := 2) hx hb dX6_heaviest_87 (by decide) ?_
            refine lv_idiv hx hb dX6_heaviest_88 (by decide) ?_
            refine lv_istore (lv' := [(5, .int (z34_5 / 2)), (4, .int (z34_4 + z34_5)), (0, .ref (a 0)), (1, .int x1), (2, .int x2), (3, .int x3)]) hx hb dX6_heaviest_89 hl (by decide) rfl (fun ls hl => ?_)
            refine lv_goto (tgt := 34) hx hb dX6_heaviest_91 (by decide) ?_
            exact ih_34 _ (hd_34 ▸ mu_half (rn_ltl (l' := 1) (Int32.not_le.mp c_11) (rg_c (v := 0) (lo := 0) (hi := 0) (by decide)) hz34_5 (by decide)) (by decide)) C_17 (z34_5 / 2) (z34_4 + z34_5) _ _ ls rfl (rg_half (rn_ltl (l' := 1) (Int32.not_le.mp c_11) (rg_c (v := 0) (lo := 0) (hi := 0) (by decide)) hz34_5 (by decide)) (by decide)) (fun j hj => (Eq.trans (congrArg (fun z => ga z j) (f_19.1 15 rfl (by decide))) (Eq.trans (show ga (C_12 15) j = ga (K34 15) j by rw [st_ga e_13]; exact pk_un hj) (hx_34 j hj)))) (fun A hA hok hl => by have h := hv_34 A hA hok hl; have hy : rg z34_5 1 512 := (rg_w (lo := 1) (hi := 512) (rn_ltl (l' := 1) (Int32.not_le.mp c_11) (rg_c (v := 0) (lo := 0) (hi := 0) (by decide)) hz34_5 (by decide)) (by decide)); have c : z34_4 + z34_5 ≤ 900 := (Int32.not_lt.mp c_15); have k9 : rg (z34_4 + z34_5) 0 900 := ⟨(add_n h.1 (rg_w hy (by decide))).2.1, Int32.le_iff_toInt_le.mp c⟩; exact mwX_y h hy c ((hq_18.2 (setA A 0 (z34_4 + z34_5)) (absX_sk 0 hA (fun k k1 k2 => (Eq.trans (th_un e_13 (by omega)) (Eq.trans (fr_all hLF_34 10 14 (by decide) k k1 k2) (Eq.trans (fr_all f_7 10 14 (by decide) k k1 k2) (th_un e_2 (by omega)))))) (by rw [st_ga e_13]; exact pk_us) (fun j hj => (Eq.trans (show ga (C_12 15) j = ga (K34 15) j by rw [st_ga e_13]; exact pk_un hj) (hx_34 j hj)))) (ok_set hok (fun _ => k9) (fun e => absurd e (by decide)) (fun e => absurd e (by decide))) (set_52 hl)).mp (oh_b1 (rg_w (lo := 0) (hi := 1) (rn_nel (l' := 1) c_21 (oh_rgb hq_18.1) (rg_c (v := 0) (lo := 0) (hi := 0) (by decide)) (by decide)) (by decide)) c_21))) hT hF (fr_tr (fr_ste hLF_34 e_13 (by decide) (by decide)) f_19 (by decide) (by decide)) hP hD hS (lv_sub hl [0, 1, 2, 3, 4, 5] rfl)
    exact L_34 _ C_5 512 0 _ _ ls rfl (rg_w (rg_c (v := 512) (lo := 512) (hi := 512) (by decide)) (by decide)) (fun j hj => (Eq.trans (congrArg (fun z => ga z j) (f_7.1 15 rfl (by decide))) (show ga (C_1 15) j = ga (C 15) j by rw [st_ga e_2]; exact pk_un hj))) (fun A hA hok hl => mwX_0 ((hq_6.2 (setA A 0 0) (absX_sk 0 hA (fun k k1 k2 => (th_un e_2 (by omega))) (by rw [st_ga e_2]; exact pk_us) (fun j hj => (show ga (C_1 15) j = ga (C 15) j by rw [st_ga e_2]; exact pk_un hj))) (ok_set hok (fun _ => ⟨by decide, by decide⟩) (fun e => absurd e (by decide)) (fun e => absurd e (by decide))) (set_52 hl)).mp (oh_b1 (rg_w (lo := 0) (hi := 1) (rn_nel (l' := 1) c_9 (oh_rgb hq_6.1) (rg_c (v := 0) (lo := 0) (hi := 0) (by decide)) (by decide)) (by decide)) c_9))) hT hF fr_rf hP hD hS (lv_sub hl [0, 1, 2, 3, 4, 5] rfl)
  · refine lv_iconst (v := (-1)) hx hb dX6_heaviest_24 (by decide) ?_
    rw [hQ]
    exact W.iret (v := (-1)) hx hb hr (fun t ht hW => ⟨⟨(-1), C_5, rfl, ⟨hT, hF, ⟨(fun j hj => (Eq.trans (congrArg (fun z => ga z j) (f_7.1 15 rfl (by decide))) (show ga (C_1 15) j = ga (C 15) j by rw [st_ga e_2]; exact pk_un hj))), (fun A hA hok hl => mwX_z hok hx1 hl (fun q => absurd (Eq.trans (Eq.symm ((hq_6.2 (setA A 0 0) (absX_sk 0 hA (fun k k1 k2 => (th_un e_2 (by omega))) (by rw [st_ga e_2]; exact pk_us) (fun j hj => (show ga (C_1 15) j = ga (C 15) j by rw [st_ga e_2]; exact pk_un hj))) (ok_set hok (fun _ => ⟨by decide, by decide⟩) (fun e => absurd e (by decide)) (fun e => absurd e (by decide))) (set_52 hl)).mpr q)) c_9) (by decide)))⟩⟩, ⟨by rw [ht]; exact hP, hD⟩⟩, hS.F ht⟩) hS.2.2 dX6_heaviest_25

set_option maxHeartbeats 4000000 in
set_option maxRecDepth 100000 in
theorem e2_X6_most (l : Launch) (D : va_G) (E : Nat → ClassId) (G : Nat → Nat) (sz : Nat) (a : Nat → Nat) (C : Nat → va_E) (hT : TyX a E C) (x1 : Int32) (x2 : Int32) (x3 : Int32) : Met l yX6_most (oh_w yX6_most cX6_most 6 (some .int)) ({ frames := 6, cells := 0, slots := 0, locals := 149 }) (oh_Pm D E G [.ref (a 0), .int x1, .int x2, .int x3] (oh_W 35 a C) sz) (va_Qi (fun r (u : Nat → va_E) => TyX a E u ∧ fr [(7, 8), (9, 10), (15, 16), (24, 28)] [] C u ∧ (ga (u 15) = ga (C 15)) ∧ (∀ A : LA, absX 10 C A → okA A → r = spMost A x1 x2 x3)) (oh_B D (va_A (oh_W 35 a C) sz) (fun u => oh_W 35 a u)) (va_A (oh_W 35 a C) sz)) 0 0 (va_A (oh_W 35 a C) sz) := by
  refine Met.ofW (cc := cX6_most) (maxL := 6) (ret := (some .int)) (by decide) rfl ?_
  intro p e s m args below meth c s₁ B hml hv
  obtain ⟨rfl, hsz, hP, hK, hD0, hG⟩ := hv
  have hx := B.exec
  have hb := B.bytes
  have hr := B.returns
  have hts := atoms_spec (ws := (oh_w yX6_most cX6_most 6 (some .int))) B.pre
  have htg : ∀ w ∈ oh_t, w.before _ s = true := fun w h => hts w (List.mem_cons_of_mem _ h)
  have hown : s.vm.findClass RX6 = some m.cls := findClass_of_methodNamed B.named
  have hlocks := B.notSynchronized
  have hT0 := hT
  subst hsz
  have hD := hD0.self (sz := s.heap.size)
  generalize hAe : va_A (oh_W 35 a C) s.heap.size = A at hD hG ⊢
  have hA : ∀ q : Nat, s.heap.size ≤ q → A q := fun q h => by rw [← hAe]; exact Or.inr h
  have hS : va_S A s.heap s.heap [] := va_S.rf
  have hF : fr [(7, 8), (9, 10), (15, 16), (24, 28)] [] C C := fr_rf
  have hl := lv_entry ([.ref (a 0), .int x1, .int x2, .int x3]) (n := 6) (Nat.le_of_ble_eq_true rfl)
  rw [lg_entry_eq]
  generalize (lg_sl ([.ref (a 0), .int x1, .int x2, .int x3]) ++ List.replicate (6 - (lg_sl ([.ref (a 0), .int x1, .int x2, .int x3])).length) Slot.unset).toArray = ls at hl ⊢
  have hl : lv_has ls 6 [(0, .ref (a 0)), (1, .int x1), (2, .int x2), (3, .int x3)] := hl
  refine oh_genQ (fun Q hQ => ?_)
  refine lv_aload_n hx hb dX6_most_0 rfl (lv_at hl 0 rfl) ?_
  refine lv_iload_n hx hb dX6_most_1 rfl (lv_at hl 1 rfl) ?_
  refine tq_V (As := [.int x1]) (rest := []) (ws := (oh_W 35 a C)) ⟨hx, hb, hml, hown, htg⟩ (e_X6_isWaggon l D E G a C hT x1) (cwV 1 htg (oh_gV q_679 q_681 q_15 q_66 q_682) rfl rfl rfl pdVX6_isWaggon ⟨Nat.le_of_ble_eq_true rfl, Nat.le_of_ble_eq_true rfl⟩) hK hP hG hS (va_recv hK hP (ci := 6) (q0 := 0) rfl (oh_wg (by decide) (sX_0 hT))) rfl hl.1 rfl (Nat.le_of_ble_eq_true rfl) dX6_most_2 ⟨Nat.le_of_ble_eq_true rfl, Nat.le_of_ble_eq_true rfl⟩ (fun r_1 hq_2 => ?_)
  refine lv_if_eq (tgt := 22) hx hb dX6_most_5 (by decide) (fun (c_3 : r_1 = 0) => ?_) (fun (c_3 : ¬ (r_1 = 0)) => ?_)
  · have u_4 := hq_2.2.2 c_3
    refine lv_aload_n hx hb dX6_most_22 rfl (lv_at hl 0 rfl) ?_
    refine lv_bipush (v := (-2)) hx hb dX6_most_23 (by decide) ?_
    refine tm_V (As := [.int (-2)]) (rest := []) ⟨hx, hb, hml, hown, htg⟩ (c_X6_refuse l D E G _ a C hT ((-2) : Int32)) (cwV 1 htg (oh_gV q_296 q_298 q_0 q_66 q_299) rfl rfl rfl pdVX6_refuse ⟨Nat.le_of_ble_eq_true rfl, Nat.le_of_ble_eq_true rfl⟩) hK hP hD hG hS hA (va_recv hK hP (ci := 6) (q0 := 0) rfl (oh_wg (by decide) (sX_0 hT))) rfl hl.1 rfl (Nat.le_of_ble_eq_true rfl) dX6_most_25 ⟨Nat.le_of_ble_eq_true rfl, Nat.le_of_ble_eq_true rfl⟩ (fun r_5 C_6 H locs hq_7 hP hD hS => ?_)
    obtain ⟨hT, f_8, hq_7⟩ := hq_7
    have hF := fr_tr hF f_8 (by decide) (by decide)
    refine W.widen (k := 0) (n := 0) (Nat.le_refl _) (Nat.le_refl _) ?_
    have t_9 := hT
    rw [hQ]
    exact W.iret (v := r_5) hx hb hr (fun t ht hW => ⟨⟨r_5, C_6, rfl, ⟨hT, hF, ⟨(congrArg ga (f_8.1 15 rfl (by decide))), (fun A hA hok => Eq.trans hq_7 (pif_neg (fun h8 => by have h7 := h8.1; rw [← (show ga (C 10) ((2 : Int32)).toNatClampNeg = A 5 0 2 from hA.1 2 (by decide))] at h7; exact u_4 h7)).symm)⟩⟩, ⟨by rw [ht]; exact hP, hD⟩⟩, hS.F ht⟩) hS.2.2 dX6_most_28
  · have u_10 := hq_2.2.1 c_3
    refine lv_iload_n hx hb dX6_most_8 rfl (lv_at hl 2 rfl) ?_
    refine tq_S (As := [.int x2]) (rest := []) (ws := []) ⟨hx, hb, hml, hown, htg⟩ (e_X6_isPlace l D E G x2) (va_cwS 1 htg (oh_gS q_413 q_414 q_66 q_415) rfl rfl rfl pdX6_isPlace ⟨Nat.le_of_ble_eq_true rfl, Nat.le_of_ble_eq_true rfl⟩) hK va_nil hG hS rfl hl.1 rfl (Nat.le_of_ble_eq_true rfl) dX6_most_9 ⟨Nat.le_of_ble_eq_true rfl, Nat.le_of_ble_eq_true rfl⟩ (fun r_11 hq_12 => ?_)
    refine lv_if_eq (tgt := 22) hx hb dX6_most_12 (by decide) (fun (c_13 : r_11 = 0) => ?_) (fun (c_13 : ¬ (r_11 = 0)) => ?_)
    · have u_14 := hq_12.2.2 c_13
      refine lv_aload_n hx hb dX6_most_22 rfl (lv_at hl 0 rfl) ?_
      refine lv_bipush (v := (-2)) hx hb dX6_most_23 (by decide) ?_
      refine tm_V (As := [.int (-2)]) (rest := []) ⟨hx, hb, hml, hown, htg⟩ (c_X6_refuse l D E G _ a C hT ((-2) : Int32)) (cwV 1 htg (oh_gV q_296 q_298 q_0 q_66 q_299) rfl rfl rfl pdVX6_refuse ⟨Nat.le_of_ble_eq_true rfl, Nat.le_of_ble_eq_true rfl⟩) hK hP hD hG hS hA (va_recv hK hP (ci := 6) (q0 := 0) rfl (oh_wg (by decide) (sX_0 hT))) rfl hl.1 rfl (Nat.le_of_ble_eq_true rfl) dX6_most_25 ⟨Nat.le_of_ble_eq_true rfl, Nat.le_of_ble_eq_true rfl⟩ (fun r_15 C_16 H locs hq_17 hP hD hS => ?_)
      obtain ⟨hT, f_18, hq_17⟩ := hq_17
      have hF := fr_tr hF f_18 (by decide) (by decide)
      refine W.widen (k := 0) (n := 0) (Nat.le_refl _) (Nat.le_refl _) ?_
      have t_19 := hT
      rw [hQ]
      exact W.iret (v := r_15) hx hb hr (fun t ht hW => ⟨⟨r_15, C_16, rfl, ⟨hT, hF, ⟨(congrArg ga (f_18.1 15 rfl (by decide))), (fun A hA hok => Eq.trans hq_17 (pif_neg (fun h8 => u_14 h8.2.1)).symm)⟩⟩, ⟨by rw [ht]; exact hP, hD⟩⟩, hS.F ht⟩) hS.2.2 dX6_most_28
    · have u_20 := hq_12.2.1 c_13
      refine lv_iload_n hx hb dX6_most_15 rfl (lv_at hl 3 rfl) ?_
      refine tq_S (As := [.int x3]) (rest := []) (ws := []) ⟨hx, hb, hml, hown, htg⟩ (e_X6_isPlace l D E G x3) (va_cwS 1 htg (oh_gS q_413 q_414 q_66 q_415) rfl rfl rfl pdX6_isPlace ⟨Nat.le_of_ble_eq_true rfl, Nat.le_of_ble_eq_true rfl⟩) hK va_nil hG hS rfl hl.1 rfl (Nat.le_of_ble_eq_true rfl) dX6_most_16 ⟨Nat.le_of_ble_eq_true rfl, Nat.le_of_ble_eq_true rfl⟩ (fun r_21 hq_22 => ?_)
      refine lv_if_ne (tgt := 29) hx hb dX6_most_19 (by decide) (fun (c_23 : ¬ (r_21 = 0)) => ?_) (fun (c_23 : r_21 = 0) => ?_)
      · have u_24 := hq_22.2.1 c_23
        refine lv_aload_n hx hb dX6_most_29 rfl (lv_at hl 0 rfl) ?_
        refine va_get (D := D) (ci := 6) (v := .ref (a 1)) (C := RX6) (T := TX6) (N := 9) hx hb htg ig_6 hown hK hP 0 (oh_wg (by decide) (sX_0 hT)) rfl 0 (by decide) (htg _ q_258) (fun _ h9 => h9) rfl dX6_most_30 ?_
        refine va_get (D := D) (ci := 0) (v := .ref (a 15)) (C := RX0) (T := TX0) (N := 8) hx hb htg ig_0 hown hK hP 1 (oh_wg (by decide) (sX_1 hT)) rfl 5 (by decide) (htg _ q_110) (fun _ h9 => h9) rfl dX6_most_33 ?_
        refine lv_iconst (v := 0) hx hb dX6_most_36 (by decide) ?_
        refine th_iald hx hb hK hP 15 (by decide) (sX_15 hT) (rg_in (rg_c (v := 0) (lo := 0) (hi := 0) (by decide)) (by decide)) dX6_most_37 ?_
        refine lv_istore (lv' := [(4, .int (ga (C 15) ((0 : Int32)).toNatClampNeg)), (0, .ref (a 0)), (1, .int x1), (2, .int x2), (3, .int x3)]) hx hb dX6_most_38 hl (by decide) rfl (fun ls hl => ?_)
        refine lv_aload_n hx hb dX6_most_40 rfl (lv_at hl 1 rfl) ?_
        refine lv_iload_n hx hb dX6_most_41 rfl (lv_at hl 2 rfl) ?_
        refine lv_iload_n hx hb dX6_most_42 rfl (lv_at hl 3 rfl) ?_
        refine lv_iload_n hx hb dX6_most_43 rfl (lv_at hl 4 rfl) ?_
        refine tm_V (As := [.int x1, .int x2, .int x3]) (rest := []) ⟨hx, hb, hml, hown, htg⟩ (e2_X6_heaviest l D E G _ a C hT x1 x2 x3 (rg_w u_10.1 (by decide)) (rg_w u_20 (by decide)) (rg_w u_24 (by decide))) (cwV 3 htg (oh_gV q_889 q_891 q_27 q_66 q_892) rfl rfl rfl pdVX6_heaviest ⟨Nat.le_of_ble_eq_true rfl, Nat.le_of_ble_eq_true rfl⟩) hK hP hD hG hS hA (va_recv hK hP (ci := 6) (q0 := 0) rfl (oh_wg (by decide) (sX_0 hT))) rfl hl.1 rfl (Nat.le_of_ble_eq_true rfl) dX6_most_44 ⟨Nat.le_of_ble_eq_true rfl, Nat.le_of_ble_eq_true rfl⟩ (fun r_25 C_26 H locs hq_27 hP hD hS => ?_)
        obtain ⟨hT, f_28, hq_27⟩ := hq_27
        have hF := fr_tr hF f_28 (by decide) (by decide)
        refine W.widen (k := 0) (n := 0) (Nat.le_refl _) (Nat.le_refl _) ?_
        have t_29 := hT
        refine lv_istore (lv' := [(5, .int r_25), (4, .int (ga (C 15) ((0 : Int32)).toNatClampNeg)), (0, .ref (a 0)), (1, .int x1), (2, .int x2), (3, .int x3)]) hx hb dX6_most_47 hl (by decide) rfl (fun ls hl => ?_)
        refine lv_aload_n hx hb dX6_most_49 rfl (lv_at hl 2 rfl) ?_
        refine va_get (D := D) (ci := 6) (v := .ref (a 1)) (C := RX6) (T := TX6) (N := 9) hx hb htg ig_6 hown hK hP 0 (oh_wg (by decide) (sX_0 hT)) rfl 0 (by decide) (htg _ q_258) (fun _ h9 => h9) rfl dX6_most_50 ?_
        refine va_get (D := D) (ci := 0) (v := .ref (a 15)) (C := RX0) (T := TX0) (N := 8) hx hb htg ig_0 hown hK hP 1 (oh_wg (by decide) (sX_1 hT)) rfl 5 (by decide) (htg _ q_110) (fun _ h9 => h9) rfl dX6_most_53 ?_
        refine lv_iconst (v := 0) hx hb dX6_most_56 (by decide) ?_
        refine lv_iload hx hb dX6_most_57 (lv_at hl 1 rfl) ?_
        refine th_iast (T := TyX a E) (Rl := fr [(7, 8), (9, 10), (15, 16), (24, 28)] [] C) hx hb hK hP hD hS 15 (by decide) (sX_15 hT) (rg_in (rg_c (v := 0) (lo := 0) (hi := 0) (by decide)) (by decide)) (hT.up 15 (tA_upd (tX_15 hT) tA_any)) (fr_st hF (by decide) (by decide)) dX6_most_59 (fun C_30 H locs e_31 hT hF hP hD hS => ?_)
        have t_32 := hT
        refine lv_iload hx hb dX6_most_60 (lv_at hl 0 rfl) ?_
        refine lv_iconst (v := (-1)) hx hb dX6_most_62 (by decide) ?_
        refine lv_icmp_ne (tgt := 75) hx hb dX6_most_63 (by decide) (fun (c_33 : ¬ (r_25 = (-1))) => ?_) (fun (c_33 : r_25 = (-1)) => ?_)
        · refine lv_iload hx hb dX6_most_75 (lv_at hl 0 rfl) ?_
          rw [hQ]
          exact W.iret (v := r_25) hx hb hr (fun t ht hW => ⟨⟨r_25, C_30, rfl, ⟨hT, hF, ⟨(by rw [st_ga e_31]; exact upd0 hq_27.1), (fun A hA hok => by have h1 : 0 ≤ x1 ∧ x1 < A 5 0 2 := (by rw [← (show ga (C 10) ((2 : Int32)).toNatClampNeg = A 5 0 2 from hA.1 2 (by decide))]; exact u_10.2); have h7 := hq_27.2 A hA hok h1.2; exact Eq.trans (spOg_eq (mwR_6 h7 c_33) mwR_u) (pif_pos ⟨h1, (oh_rgI (p := 0) (q := 15) (rg_w (lo := 0) (hi := 15) u_20 (by decide))), (oh_rgI (p := 0) (q := 15) (rg_w (lo := 0) (hi := 15) u_24 (by decide)))⟩).symm)⟩⟩, ⟨by rw [ht]; exact hP, hD⟩⟩, hS.F ht⟩) hS.2.2 dX6_most_77
        · refine lv_aload_n hx hb dX6_most_66 rfl (lv_at hl 2 rfl) ?_
          refine lv_bipush (v := (-5)) hx hb dX6_most_67 (by decide) ?_
          refine tm_V (As := [.int (-5)]) (rest := []) ⟨hx, hb, hml, hown, htg⟩ (c_X6_refuse l D E G _ a C_30 hT ((-5) : Int32)) (cwV 1 htg (oh_gV q_296 q_298 q_0 q_66 q_299) rfl rfl rfl pdVX6_refuse ⟨Nat.le_of_ble_eq_true rfl, Nat.le_of_ble_eq_true rfl⟩) hK hP hD hG hS hA (va_recv hK hP (ci := 6) (q0 := 0) rfl (oh_wg (by decide) (sX_0 hT))) rfl hl.1 rfl (Nat.le_of_ble_eq_true rfl) dX6_most_69 ⟨Nat.le_of_ble_eq_true rfl, Nat.le_of_ble_eq_true rfl⟩ (fun r_34 C_35 H locs hq_36 hP hD hS => ?_)
          obtain ⟨hT, f_37, hq_36⟩ := hq_36
          have hF := fr_tr hF f_37 (by decide) (by decide)
          refine W.widen (k := 0) (n := 0) (Nat.le_refl _) (Nat.le_refl _) ?_
          have t_38 := hT
          refine lv_goto (tgt := 77) hx hb dX6_most_72 (by decide) ?_
          rw [hQ]
          exact W.iret (v := r_34) hx hb hr (fun t ht hW => ⟨⟨r_34, C_35, rfl, ⟨hT, hF, ⟨(by rw [(f_37.1 15 rfl (by decide)), st_ga e_31]; exact upd0 hq_27.1), (fun A hA hok => by have h1 : 0 ≤ x1 ∧ x1 < A 5 0 2 := (by rw [← (show ga (C 10) ((2 : Int32)).toNatClampNeg = A 5 0 2 from hA.1 2 (by decide))]; exact u_10.2); have h7 := hq_27.2 A hA hok h1.2; exact Eq.trans (spOg_eq (mwR_5 h7 c_33 hq_36) mwR_u) (pif_pos ⟨h1, (oh_rgI (p := 0) (q := 15) (rg_w (lo := 0) (hi := 15) u_20 (by decide))), (oh_rgI (p := 0) (q := 15) (rg_w (lo := 0) (hi := 15) u_24 (by decide)))⟩).symm)⟩⟩, ⟨by rw [ht]; exact hP, hD⟩⟩, hS.F ht⟩) hS.2.2 dX6_most_77
      · have u_39 := hq_22.2.2 c_23
        refine lv_aload_n hx hb dX6_most_22 rfl (lv_at hl 0 rfl) ?_
        refine lv_bipush (v := (-2)) hx hb dX6_most_23 (by decide) ?_
        refine tm_V (As := [.int (-2)]) (rest := []) ⟨hx, hb, hml, hown, htg⟩ (c_X6_refuse l D E G _ a C hT ((-2) : Int32)) (cwV 1 htg (oh_gV q_296 q_298 q_0 q_66 q_299) rfl rfl rfl pdVX6_refuse ⟨Nat.le_of_ble_eq_true rfl, Nat.le_of_ble_eq_true rfl⟩) hK hP hD hG hS hA (va_recv hK hP (ci := 6) (q0 := 0) rfl (oh_wg (by decide) (sX_0 hT))) rfl hl.1 rfl (Nat.le_of_ble_eq_true rfl) dX6_most_25 ⟨Nat.le_of_ble_eq_true rfl, Nat.le_of_ble_eq_true rfl⟩ (fun r_40 C_41 H locs hq_42 hP hD hS => ?_)
        obtain ⟨hT, f_43, hq_42⟩ := hq_42
        have hF := fr_tr hF f_43 (by decide) (by decide)
        refine W.widen (k := 0) (n := 0) (Nat.le_refl _) (Nat.le_refl _) ?_
        have t_44 := hT
        rw [hQ]
        exact W.iret (v := r_40) hx hb hr (fun t ht hW => ⟨⟨r_40, C_41, rfl, ⟨hT, hF, ⟨(congrArg ga (f_43.1 15 rfl (by decide))), (fun A hA hok => Eq.trans hq_42 (pif_neg (fun h8 => u_39 h8.2.2)).symm)⟩⟩, ⟨by rw [ht]; exact hP, hD⟩⟩, hS.F ht⟩) hS.2.2 dX6_most_28

def mmI (P : Nat → Prop) (be le mo : Int32) : Prop := ((be = -1 ∧ le = 0) ∨ ∃ k : Nat, k ≤ 900 ∧ be = Int32.ofNat k ∧ P k ∧ le.toInt = (k : Int) + 1) ∧ ∀ v : Nat, mo.toInt < (v : Int) → v ≤ 900 → ¬ P v
theorem mm_0 {P : Nat → Prop} : mmI P (-1) 0 900 := ⟨Or.inl ⟨rfl, rfl⟩, fun v hv h9 => by have hv : (900 : Int) < v := hv; omega⟩
theorem mm_y {A : LA} {w f t be le mo x m : Int32} (h : mmI (mwH A w f t) be le mo) (hx : x = m) (hm : rg m 0 900) (q : hasW (EcA (setA A 0 m) w 0 1) f.toNatClampNeg t.toNatClampNeg) : mmI (mwH A w f t) x (x + 1) mo := by
  subst hx
  have n := oh_nat hm (by decide)
  have h2 := hm.2
  refine ⟨Or.inr ⟨x.toNatClampNeg, by omega, (oh_ofc hm (by decide)).symm, (mwH_z hm).mpr q, ?_⟩, h.2⟩
  rw [oh_incr hm (by decide), n]
theorem mm_n {A : LA} (ho : okA A) {w f t be le mo x m : Int32} (h0 : rg w 0 4) (hl : w < A 5 0 2) (h : mmI (mwH A w f t) be le mo) (hx : x = m) (hm : rg m 0 900) (q : ¬ hasW (EcA (setA A 0 m) w 0 1) f.toNatClampNeg t.toNatClampNeg) : mmI (mwH A w f t) be le (x - 1) := by
  subst hx
  have n := oh_nat hm (by decide)
  have h1 := hm.1
  have h2 := hm.2
  have e : (x - 1).toInt = x.toInt - 1 := by
    rw [Int32.toInt_sub]
    exact oh_bmod (by show _ ≤ x.toInt - 1; omega) (by show x.toInt - 1 ≤ _; omega)
  refine ⟨h.1, fun v hv h9 pv => q ((mwH_z hm).mp (mwH_m ho h0 hl h9 ?_ pv))⟩
  rw [e] at hv
  omega
theorem mm_e {P : Nat → Prop} {be le mo : Int32} (h : mmI P be le mo) (c : mo < le) : mwR P (-1) be := by
  have c2 := Int32.lt_iff_toInt_lt.mp c
  rcases h with ⟨⟨h1, h2⟩ | ⟨k, h1, h2, h3, h4⟩, h5⟩
  · have e : (0 : Int32).toInt = 0 := rfl
    rw [h2] at c2
    exact Or.inl ⟨h1, fun v hv => h5 v (by omega) hv⟩
  · exact Or.inr ⟨k, h1, h2, h3, fun v hv => h5 v (by omega)⟩

set_option maxHeartbeats 4000000 in
set_option maxRecDepth 100000 in
theorem e2_X7_most (l : Launch) (D : va_G) (E : Nat → ClassId) (G : Nat → Nat) (sz : Nat) (a : Nat → Nat) (C : Nat → va_E) (n : Nat) (hn : 74 ≤ n) (hT : TyM a E C) (x1 : Int32) (x2 : Int32) (x3 : Int32) (hR : RelM C) : Met l yX7_most (oh_w yX7_most cX7_most 8 (some .int)) ({ frames := 7, cells := 0, slots := 0, locals := 177 }) (oh_Pm D E G [.ref (a 0), .int x1, .int x2, .int x3] (oh_W n a C) sz) (va_Qi (fun r (u : Nat → va_E) => TyM a E u ∧ fr [(8, 9), (13, 14), (15, 16)] [] C u ∧ (RelM u) ∧ (ga (u 13) = ga (C 13)) ∧ (∀ A : LA, absM C A → okA A → r = spMost A x1 x2 x3)) (oh_B D (va_A (oh_W n a C) sz) (fun u => oh_W n a u)) (va_A (oh_W n a C) sz)) 0 0 (va_A (oh_W n a C) sz) := by
  refine Met.ofW (cc := cX7_most) (maxL := 8) (ret := (some .int)) (by decide) rfl ?_
  intro p e s m args below meth c s₁ B hml hv
  obtain ⟨rfl, hsz, hP, hK, hD0, hG⟩ := hv
  have hx := B.exec
  have hb := B.bytes
  have hr := B.returns
  have hts := atoms_spec (ws := (oh_w yX7_most cX7_most 8 (some .int))) B.pre
  have htg : ∀ w ∈ oh_t, w.before _ s = true := fun w h => hts w (List.mem_cons_of_mem _ h)
  have hown : s.vm.findClass RX7 = some m.cls := findClass_of_methodNamed B.named
  have hlocks := B.notSynchronized
  have hT0 := hT
  subst hsz
  have hD := hD0.self (sz := s.heap.size)
  generalize hAe : va_A (oh_W n a C) s.heap.size = A at hD hG ⊢
  have hA : ∀ q : Nat, s.heap.size ≤ q → A q := fun q h => by rw [← hAe]; exact Or.inr h
  have hS : va_S A s.heap s.heap [] := va_S.rf
  have hF : fr [(8, 9), (13, 14), (15, 16)] [] C C := fr_rf
  have hl := lv_entry ([.ref (a 0), .int x1, .int x2, .int x3]) (n := 8) (Nat.le_of_ble_eq_true rfl)
  rw [lg_entry_eq]
  generalize (lg_sl ([.ref (a 0), .int x1, .int x2, .int x3]) ++ List.replicate (8 - (lg_sl ([.ref (a 0), .int x1, .int x2, .int x3])).length) Slot.unset).toArray = ls at hl ⊢
  have hl : lv_has ls 8 [(0, .ref (a 0)), (1, .int x1), (2, .int x2), (3, .int x3)] := hl
  refine oh_genQ (fun Q hQ => ?_)
  refine lv_aload_n hx hb dX7_most_0 rfl (lv_at hl 0 rfl) ?_
  refine lv_iload_n hx hb dX7_most_1 rfl (lv_at hl 1 rfl) ?_
  refine tq_V (As := [.int x1]) (rest := []) (ws := (oh_W n a C)) ⟨hx, hb, hml, hown, htg⟩ (e_X7_isWaggon l D E G a C n hn hT x1 hR.1) (cwV 1 htg (oh_gV q_1278 q_1280 q_48 q_73 q_1281) rfl rfl rfl pdVX7_isWaggon ⟨Nat.le_of_ble_eq_true rfl, Nat.le_of_ble_eq_true rfl⟩) hK hP hG hS (va_recv hK hP (ci := 7) (q0 := 0) rfl (oh_wg (Nat.lt_of_lt_of_le (by decide) hn) (sM_0 hT))) rfl hl.1 rfl (Nat.le_of_ble_eq_true rfl) dX7_most_2 ⟨Nat.le_of_ble_eq_true rfl, Nat.le_of_ble_eq_true rfl⟩ (fun r_1 hq_2 => ?_)
  refine lv_if_eq (tgt := 22) hx hb dX7_most_5 (by decide) (fun (c_3 : r_1 = 0) => ?_) (fun (c_3 : ¬ (r_1 = 0)) => ?_)
  · have u_4 := hq_2.2.2 c_3
    refine lv_aload_n hx hb dX7_most_22 rfl (lv_at hl 0 rfl) ?_
    refine lv_bipush (v := (-2)) hx hb dX7_most_23 (by decide) ?_
    refine tm_V (As := [.int (-2)]) (rest := []) ⟨hx, hb, hml, hown, htg⟩ (c_X7_refuse l D E G _ a C n hn hT ((-2) : Int32) (rg_w (rg_c (v := (-2)) (lo := (-2)) (hi := (-2)) (by decide)) (by decide))) (cwV 1 htg (oh_gV q_1071 q_1073 q_29 q_73 q_1074) rfl rfl rfl pdVX7_refuse ⟨Nat.le_of_ble_eq_true rfl, Nat.le_of_ble_eq_true rfl⟩) hK hP hD hG hS hA (va_recv hK hP (ci := 7) (q0 := 0) rfl (oh_wg (Nat.lt_of_lt_of_le (by decide) hn) (sM_0 hT))) rfl hl.1 rfl (Nat.le_of_ble_eq_true rfl) dX7_most_25 ⟨Nat.le_of_ble_eq_true rfl, Nat.le_of_ble_eq_true rfl⟩ (fun r_5 C_6 H locs hq_7 hP hD hS => ?_)
    obtain ⟨hT, f_8, hq_7⟩ := hq_7
    have hF := fr_tr hF f_8 (by decide) (by decide)
    refine W.widen (k := 0) (n := 0) (Nat.le_refl _) (Nat.le_refl _) ?_
    have t_9 := hT
    rw [hQ]
    exact W.iret (v := r_5) hx hb hr (fun t ht hW => ⟨⟨r_5, C_6, rfl, ⟨hT, hF, ⟨⟨hR.1.fr hF (by decide), hR.2.fr hF (by decide)⟩, (congrArg ga (f_8.1 13 rfl (by decide))), (fun A hA hok => Eq.trans hq_7 (pif_neg (fun h8 => by have h7 := h8.1; rw [← (show gi (C 0) 13 = A 5 0 2 from hA.1 2 (by decide))] at h7; exact u_4 h7)).symm)⟩⟩, ⟨by rw [ht]; exact hP, hD⟩⟩, hS.F ht⟩) hS.2.2 dX7_most_28
  · have u_10 := hq_2.2.1 c_3
    refine lv_iload_n hx hb dX7_most_8 rfl (lv_at hl 2 rfl) ?_
    refine tq_S (As := [.int x2]) (rest := []) (ws := []) ⟨hx, hb, hml, hown, htg⟩ (e_X7_isPlace l D E G x2) (va_cwS 1 htg (oh_gS q_1130 q_1131 q_73 q_1132) rfl rfl rfl pdX7_isPlace ⟨Nat.le_of_ble_eq_true rfl, Nat.le_of_ble_eq_true rfl⟩) hK va_nil hG hS rfl hl.1 rfl (Nat.le_of_ble_eq_true rfl) dX7_most_9 ⟨Nat.le_of_ble_eq_true rfl, Nat.le_of_ble_eq_true rfl⟩ (fun r_11 hq_12 => ?_)
    refine lv_if_eq (tgt := 22) hx hb dX7_most_12 (by decide) (fun (c_13 : r_11 = 0) => ?_) (fun (c_13 : ¬ (r_11 = 0)) => ?_)
    · have u_14 := hq_12.2.2 c_13
      refine lv_aload_n hx hb dX7_most_22 rfl (lv_at hl 0 rfl) ?_
      refine lv_bipush (v := (-2)) hx hb dX7_most_23 (by decide) ?_
      refine tm_V (As := [.int (-2)]) (rest := []) ⟨hx, hb, hml, hown, htg⟩ (c_X7_refuse l D E G _ a C n hn hT ((-2) : Int32) (rg_w (rg_c (v := (-2)) (lo := (-2)) (hi := (-2)) (by decide)) (by decide))) (cwV 1 htg (oh_gV q_1071 q_1073 q_29 q_73 q_1074) rfl rfl rfl pdVX7_refuse ⟨Nat.le_of_ble_eq_true rfl, Nat.le_of_ble_eq_true rfl⟩) hK hP hD hG hS hA (va_recv hK hP (ci := 7) (q0 := 0) rfl (oh_wg (Nat.lt_of_lt_of_le (by decide) hn) (sM_0 hT))) rfl hl.1 rfl (Nat.le_of_ble_eq_true rfl) dX7_most_25 ⟨Nat.le_of_ble_eq_true rfl, Nat.le_of_ble_eq_true rfl⟩ (fun r_15 C_16 H locs hq_17 hP hD hS => ?_)
      obtain ⟨hT, f_18, hq_17⟩ := hq_17
      have hF := fr_tr hF f_18 (by decide) (by decide)
      refine W.widen (k := 0) (n := 0) (Nat.le_refl _) (Nat.le_refl _) ?_
      have t_19 := hT
      rw [hQ]
      exact W.iret (v := r_15) hx hb hr (fun t ht hW => ⟨⟨r_15, C_16, rfl, ⟨hT, hF, ⟨⟨hR.1.fr hF (by decide), hR.2.fr hF (by decide)⟩, (congrArg ga (f_18.1 13 rfl (by decide))), (fun A hA hok => Eq.trans hq_17 (pif_neg (fun h8 => u_14 h8.2.1)).symm)⟩⟩, ⟨by rw [ht]; exact hP, hD⟩⟩, hS.F ht⟩) hS.2.2 dX7_most_28
    · have u_20 := hq_12.2.1 c_13
      refine lv_iload_n hx hb dX7_most_15 rfl (lv_at hl 3 rfl) ?_
      refine tq_S (As := [.int x3]) (rest := []) (ws := []) ⟨hx, hb, hml, hown, htg⟩ (e_X7_isPlace l D E G x3) (va_cwS 1 htg (oh_gS q_1130 q_1131 q_73 q_1132) rfl rfl rfl pdX7_isPlace ⟨Nat.le_of_ble_eq_true rfl, Nat.le_of_ble_eq_true rfl⟩) hK va_nil hG hS rfl hl.1 rfl (Nat.le_of_ble_eq_true rfl) dX7_most_16 ⟨Nat.le_of_ble_eq_true rfl, Nat.le_of_ble_eq_true rfl⟩ (fun r_21 hq_22 => ?_)
      refine lv_if_ne (tgt := 29) hx hb dX7_most_19 (by decide) (fun (c_23 : ¬ (r_21 = 0)) => ?_) (fun (c_23 : r_21 = 0) => ?_)
      · have u_24 := hq_22.2.1 c_23
        refine lv_aload_n hx hb dX7_most_29 rfl (lv_at hl 0 rfl) ?_
        refine va_get (D := D) (ci := 7) (v := .ref (a 13)) (C := RX7) (T := TX7) (N := 29) hx hb htg ig_7 hown hK hP 0 (oh_wg (Nat.lt_of_lt_of_le (by decide) hn) (sM_0 hT)) rfl 17 (by decide) (htg _ q_990) (fun _ h9 => h9) rfl dX7_most_30 ?_
        refine lv_iconst (v := 0) hx hb dX7_most_33 (by decide) ?_
        refine th_iald hx hb hK hP 13 (Nat.lt_of_lt_of_le (by decide) hn) (sM_13 hT) (rg_in (rg_c (v := 0) (lo := 0) (hi := 0) (by decide)) (by decide)) dX7_most_34 ?_
        refine lv_istore (lv' := [(4, .int (ga (C 13) ((0 : Int32)).toNatClampNeg)), (0, .ref (a 0)), (1, .int x1), (2, .int x2), (3, .int x3)]) hx hb dX7_most_35 hl (by decide) rfl (fun ls hl => ?_)
        refine lv_iconst (v := (-1)) hx hb dX7_most_37 (by decide) ?_
        refine lv_istore (lv' := [(5, .int (-1)), (4, .int (ga (C 13) ((0 : Int32)).toNatClampNeg)), (0, .ref (a 0)), (1, .int x1), (2, .int x2), (3, .int x3)]) hx hb dX7_most_38 hl (by decide) rfl (fun ls hl => ?_)
        refine lv_iconst (v := 0) hx hb dX7_most_40 (by decide) ?_
        refine lv_istore (lv' := [(6, .int 0), (5, .int (-1)), (4, .int (ga (C 13) ((0 : Int32)).toNatClampNeg)), (0, .ref (a 0)), (1, .int x1), (2, .int x2), (3, .int x3)]) hx hb dX7_most_41 hl (by decide) rfl (fun ls hl => ?_)
        refine lv_sipush (v := 900) hx hb dX7_most_43 (by decide) ?_
        refine lv_istore (lv' := [(7, .int 900), (6, .int 0), (5, .int (-1)), (4, .int (ga (C 13) ((0 : Int32)).toNatClampNeg)), (0, .ref (a 0)), (1, .int x1), (2, .int x2), (3, .int x3)]) hx hb dX7_most_46 hl (by decide) rfl (fun ls hl => ?_)
        have L_48 : ∀ (d : Nat) (K48 : Nat → va_E) (z48_7 : Int32) (z48_6 : Int32) (z48_5 : Int32) (H : Heap) (locs : List Loc) (ls : Array Slot), (z48_7.toInt - z48_6.toInt + 1).toNat = d → rg z48_7 (-1) 900 → rg z48_6 0 901 → (∀ j, j ≠ 0 → ga (K48 13) j = ga (C 13) j) → (∀ A : LA, absM C A → okA A → x1 < A 5 0 2 → mmI (mwH A x1 x2 x3) z48_5 z48_6 z48_7) → TyM a E K48 → fr [(8, 9), (13, 14), (15, 16)] [] C K48 → fr [(13, 14), (15, 16)] [] C K48 → va_P D vwCl (oh_W n a K48) H → va_D A (oh_W n a K48) → va_S A s.heap H locs → lv_has ls 8 [(7, .int z48_7), (6, .int z48_6), (5, .int z48_5), (4, .int (ga (C 13) ((0 : Int32)).toNatClampNeg)), (0, .ref (a 0)), (1, .int x1), (2, .int x2), (3, .int x3)] → W p l e ({ frames := 7, cells := 0, slots := 0, locals := 177 }) s m (([.ref (a 0), .int x1, .int x2, .int x3] : List Value).toArray) below meth c H locs 0 0 Q (F0 m 48 ls []) := by
          intro d
          induction d using Nat.strongRecOn with
          | ind d ih_48 =>
          intro K48 z48_7 z48_6 z48_5 H locs ls hd_48 hz48_7 hz48_6 hx_48 hv_48 hT hF hLF_48 hP hD hS hl
          have t_25 := hT
          refine lv_iload hx hb dX7_most_48 (lv_at hl 1 rfl) ?_
          refine lv_iload hx hb dX7_most_50 (lv_at hl 0 rfl) ?_
          refine lv_icmp_gt (tgt := 115) hx hb dX7_most_52 (by decide) (fun (c_26 : z48_7 < z48_6) => ?_) (fun (c_26 : ¬ (z48_7 < z48_6)) => ?_)
          · refine lv_aload_n hx hb dX7_most_115 rfl (lv_at hl 4 rfl) ?_
            refine va_get (D := D) (ci := 7) (v := .ref (a 13)) (C := RX7) (T := TX7) (N := 29) hx hb htg ig_7 hown hK hP 0 (oh_wg (Nat.lt_of_lt_of_le (by decide) hn) (sM_0 hT)) rfl 17 (by decide) (htg _ q_990) (fun _ h9 => h9) rfl dX7_most_116 ?_
            refine lv_iconst (v := 0) hx hb dX7_most_119 (by decide) ?_
            refine lv_iload hx hb dX7_most_120 (lv_at hl 3 rfl) ?_
            refine th_iast (T := TyM a E) (Rl := fr [(8, 9), (13, 14), (15, 16)] [] C) hx hb hK hP hD hS 13 (Nat.lt_of_lt_of_le (by decide) hn) (sM_13 hT) (rg_in (rg_c (v := 0) (lo := 0) (hi := 0) (by decide)) (by decide)) (hT.up 13 (by decide) (tA_upd (tM_13 hT) tA_any)) (fr_st hF (by decide) (by decide)) dX7_most_122 (fun C_27 H locs e_28 hT hF hP hD hS => ?_)
            have t_29 := hT
            refine lv_iload hx hb dX7_most_123 (lv_at hl 2 rfl) ?_
            refine lv_iconst (v := (-1)) hx hb dX7_most_125 (by decide) ?_
            refine lv_icmp_ne (tgt := 138) hx hb dX7_most_126 (by decide) (fun (c_30 : ¬ (z48_5 = (-1))) => ?_) (fun (c_30 : z48_5 = (-1)) => ?_)
            · refine lv_iload hx hb dX7_most_138 (lv_at hl 2 rfl) ?_
              rw [hQ]
              exact W.iret (v := z48_5) hx hb hr (fun t ht hW => ⟨⟨z48_5, C_27, rfl, ⟨hT, hF, ⟨⟨hR.1.fr hF (by decide), hR.2.fr hF (by decide)⟩, (by rw [st_ga e_28]; exact upd0 (fun j hj => (hx_48 j hj))), (fun A hA hok => by have h1 : 0 ≤ x1 ∧ x1 < A 5 0 2 := (by rw [← (show gi (C 0) 13 = A 5 0 2 from hA.1 2 (by decide))]; exact u_10.2.2.2); have h7 := mm_e (hv_48 A hA hok h1.2) c_26; exact Eq.trans (spOg_eq (mwR_6 h7 c_30) mwR_u) (pif_pos ⟨h1, (oh_rgI (p := 0) (q := 15) (rg_w (lo := 0) (hi := 15) u_20 (by decide))), (oh_rgI (p := 0) (q := 15) (rg_w (lo := 0) (hi := 15) u_24 (by decide)))⟩).symm)⟩⟩, ⟨by rw [ht]; exact hP, hD⟩⟩, hS.F ht⟩) hS.2.2 dX7_most_140
            · refine lv_aload_n hx hb dX7_most_129 rfl (lv_at hl 4 rfl) ?_
              refine lv_bipush (v := (-5)) hx hb dX7_most_130 (by decide) ?_
              refine tm_V (As := [.int (-5)]) (rest := []) ⟨hx, hb, hml, hown, htg⟩ (c_X7_refuse l D E G _ a C_27 n hn hT ((-5) : Int32) (rg_w (rg_c (v := (-5)) (lo := (-5)) (hi := (-5)) (by decide)) (by decide))) (cwV 1 htg (oh_gV q_1071 q_1073 q_29 q_73 q_1074) rfl rfl rfl pdVX7_refuse ⟨Nat.le_of_ble_eq_true rfl, Nat.le_of_ble_eq_true rfl⟩) hK hP hD hG hS hA (va_recv hK hP (ci := 7) (q0 := 0) rfl (oh_wg (Nat.lt_of_lt_of_le (by decide) hn) (sM_0 hT))) rfl hl.1 rfl (Nat.le_of_ble_eq_true rfl) dX7_most_132 ⟨Nat.le_of_ble_eq_true rfl, Nat.le_of_ble_eq_true rfl⟩ (fun r_31 C_32 H locs hq_33 hP hD hS => ?_)
              obtain ⟨hT, f_34, hq_33⟩ := hq_33
              have hF := fr_tr hF f_34 (by decide) (by decide)
              refine W.widen (k := 0) (n := 0) (Nat.le_refl _) (Nat.le_refl _) ?_
              have t_35 := hT
              refine lv_goto (tgt := 140) hx hb dX7_most_135 (by decide) ?_
              rw [hQ]
              exact W.iret (v := r_31) hx hb hr (fun t ht hW => ⟨⟨r_31, C_32, rfl, ⟨hT, hF, ⟨⟨hR.1.fr hF (by decide), hR.2.fr hF (by decide)⟩, (by rw [(f_34.1 13 rfl (by decide)), st_ga e_28]; exact upd0 (fun j hj => (hx_48 j hj))), (fun A hA hok => by have h1 : 0 ≤ x1 ∧ x1 < A 5 0 2 := (by rw [← (show gi (C 0) 13 = A 5 0 2 from hA.1 2 (by decide))]; exact u_10.2.2.2); have h7 := mm_e (hv_48 A hA hok h1.2) c_26; exact Eq.trans (spOg_eq (mwR_5 h7 c_30 hq_33) mwR_u) (pif_pos ⟨h1, (oh_rgI (p := 0) (q := 15) (rg_w (lo := 0) (hi := 15) u_20 (by decide))), (oh_rgI (p := 0) (q := 15) (rg_w (lo := 0) (hi := 15) u_24 (by decide)))⟩).symm)⟩⟩, ⟨by rw [ht]; exact hP, hD⟩⟩, hS.F ht⟩) hS.2.2 dX7_most_140
          · refine lv_aload_n hx hb dX7_most_55 rfl (lv_at hl 4 rfl) ?_
            refine va_get (D := D) (ci := 7) (v := .ref (a 13)) (C := RX7) (T := TX7) (N := 29) hx hb htg ig_7 hown hK hP 0 (oh_wg (Nat.lt_of_lt_of_le (by decide) hn) (sM_0 hT)) rfl 17 (by decide) (htg _ q_990) (fun _ h9 => h9) rfl dX7_most_56 ?_
            refine lv_iconst (v := 0) hx hb dX7_most_59 (by decide) ?_
            refine lv_iload hx hb dX7_most_60 (lv_at hl 1 rfl) ?_
            refine lv_iload hx hb dX7_most_62 (lv_at hl 0 rfl) ?_
            refine lv_iadd hx hb dX7_most_64 ?_
            refine lv_iconst (v := 2) hx hb dX7_most_65 (by decide) ?_
            refine lv_idiv hx hb dX7_most_66 (by decide) ?_
            refine th_iast (T := TyM a E) (Rl := fr [(8, 9), (13, 14), (15, 16)] [] C) hx hb hK hP hD hS 13 (Nat.lt_of_lt_of_le (by decide) hn) (sM_13 hT) (rg_in (rg_c (v := 0) (lo := 0) (hi := 0) (by decide)) (by decide)) (hT.up 13 (by decide) (tA_upd (tM_13 hT) tA_any)) (fr_st hF (by decide) (by decide)) dX7_most_67 (fun C_36 H locs e_37 hT hF hP hD hS => ?_)
            have t_38 := hT
            refine lv_aload_n hx hb dX7_most_68 rfl (lv_at hl 4 rfl) ?_
            refine lv_iload_n hx hb dX7_most_69 rfl (lv_at hl 5 rfl) ?_
            refine lv_iconst (v := 0) hx hb dX7_most_70 (by decide) ?_
            refine lv_iload_n hx hb dX7_most_71 rfl (lv_at hl 6 rfl) ?_
            refine lv_iload_n hx hb dX7_most_72 rfl (lv_at hl 7 rfl) ?_
            refine lv_iconst (v := 1) hx hb dX7_most_73 (by decide) ?_
            refine tm_V (As := [.int x1, .int 0, .int x2, .int x3, .int 1]) (rest := []) ⟨hx, hb, hml, hown, htg⟩ (e_X7_cheapestOf l D E G _ a C_36 n hn hT x1 (0 : Int32) x2 x3 (1 : Int32) (rg_w u_10.1 (by decide)) (rg_w u_20 (by decide)) (rg_w u_24 (by decide)) (oh_posU (rg_w u_10.1 (by decide)) (fun i hi => th_un e_37 (by omega)) (oh_posU (rg_w u_10.1 (by decide)) (fun i hi => hLF_48.1 _ (inR_out hi (by decide)) (by omega)) u_10.2.1))) (cwV 5 htg (oh_gV q_1347 q_1349 q_59 q_73 q_1350) rfl rfl rfl pdVX7_cheapestOf ⟨Nat.le_of_ble_eq_true rfl, Nat.le_of_ble_eq_true rfl⟩) hK hP hD hG hS hA (va_recv hK hP (ci := 7) (q0 := 0) rfl (oh_wg (Nat.lt_of_lt_of_le (by decide) hn) (sM_0 hT))) rfl hl.1 rfl (Nat.le_of_ble_eq_true rfl) dX7_most_74 ⟨Nat.le_of_ble_eq_true rfl, Nat.le_of_ble_eq_true rfl⟩ (fun r_39 C_40 H locs hq_41 hP hD hS => ?_)
            obtain ⟨hT, f_42, hq_41⟩ := hq_41
            have hF := fr_tr hF f_42 (by decide) (by decide)
            refine W.widen (k := 0) (n := 0) (Nat.le_refl _) (Nat.le_refl _) ?_
            have t_43 := hT
            refine lv_iconst (v := (-1)) hx hb dX7_most_77 (by decide) ?_
            refine lv_icmp_eq (tgt := 102) hx hb dX7_most_78 (by decide) (fun (c_44 : r_39 = (-1)) => ?_) (fun (c_44 : ¬ (r_39 = (-1))) => ?_)
            · refine lv_aload_n hx hb dX7_most_102 rfl (lv_at hl 4 rfl) ?_
              refine va_get (D := D) (ci := 7) (v := .ref (a 13)) (C := RX7) (T := TX7) (N := 29) hx hb htg ig_7 hown hK hP 0 (oh_wg (Nat.lt_of_lt_of_le (by decide) hn) (sM_0 hT)) rfl 17 (by decide) (htg _ q_990) (fun _ h9 => h9) rfl dX7_most_103 ?_
              refine lv_iconst (v := 0) hx hb dX7_most_106 (by decide) ?_
              refine th_iald hx hb hK hP 13 (Nat.lt_of_lt_of_le (by decide) hn) (Eq.trans (f_42.1 13 rfl (by decide)) (sM_13 t_38)) (rg_in (rg_c (v := 0) (lo := 0) (hi := 0) (by decide)) (by decide)) dX7_most_107 ?_
              refine lv_iconst (v := 1) hx hb dX7_most_108 (by decide) ?_
              refine lv_isub hx hb dX7_most_109 ?_
              refine lv_istore (lv' := [(7, .int ((ga (C_36 13) ((0 : Int32)).toNatClampNeg) - 1)), (6, .int z48_6), (5, .int z48_5), (4, .int (ga (C 13) ((0 : Int32)).toNatClampNeg)), (0, .ref (a 0)), (1, .int x1), (2, .int x2), (3, .int x3)]) hx hb dX7_most_110 hl (by decide) rfl (fun ls hl => ?_)
              refine lv_goto (tgt := 48) hx hb dX7_most_112 (by decide) ?_
              exact ih_48 _ (hd_48 ▸ (oh_midd (by rw [st_ga e_37]; exact pk_us) (oh_mid hz48_6 hz48_7 (Int32.not_lt.mp c_26))).2) C_40 ((ga (C_36 13) ((0 : Int32)).toNatClampNeg) - 1) z48_6 z48_5 _ _ ls rfl (oh_midd (p := z48_6) (by rw [st_ga e_37]; exact pk_us) (oh_mid hz48_6 hz48_7 (Int32.not_lt.mp c_26))).1 hz48_6 (fun j hj => (Eq.trans (congrArg (fun z => ga z j) (f_42.1 13 rfl (by decide))) (Eq.trans (show ga (C_36 13) j = ga (K48 13) j by rw [st_ga e_37]; exact pk_un hj) (hx_48 j hj)))) (fun A hA hok hl => by have hm := (oh_mid hz48_6 hz48_7 (Int32.not_lt.mp c_26)); have hw := (mc_w (ok_set hok (fun _ => hm.1) (fun e => absurd e (by decide)) (fun e => absurd e (by decide))) (rg_w (lo := 0) (hi := 4) u_10.1 (by decide)) (set_52 hl) (rg_w (lo := 0) (hi := 15) u_20 (by decide)) (rg_w (lo := 0) (hi := 15) u_24 (by decide)) (hq_41 (setA A 0 ((z48_6 + z48_7) / 2)) (absM_sk 0 (v := (z48_6 + z48_7) / 2) hA hT0 (show fr [(13, 14), (15, 16)] [] C C_36 from (fr_ste (fr_tr fr_rf hLF_48 (by decide) (by decide)) e_37 (by decide) (by decide))) (by rw [st_ga e_37]; exact pk_us) (fun j hj => (Eq.trans (show ga (C_36 13) j = ga (K48 13) j by rw [st_ga e_37]; exact pk_un hj) (hx_48 j hj))) (by decide) (by decide)) (ok_set hok (fun _ => hm.1) (fun e => absurd e (by decide)) (fun e => absurd e (by decide))) (set_52 hl) ⟨by decide, by decide⟩)); exact mm_n hok (rg_w (lo := 0) (hi := 4) u_10.1 (by decide)) hl (hv_48 A hA hok hl) (by rw [st_ga e_37]; exact pk_us) hm.1 (hw.mp c_44)) hT hF (fr_tr (fr_ste hLF_48 e_37 (by decide) (by decide)) f_42 (by decide) (by decide)) hP hD hS (lv_sub hl [0, 1, 2, 3, 4, 5, 6, 7] rfl)
            · refine lv_aload_n hx hb dX7_most_81 rfl (lv_at hl 4 rfl) ?_
              refine va_get (D := D) (ci := 7) (v := .ref (a 13)) (C := RX7) (T := TX7) (N := 29) hx hb htg ig_7 hown hK hP 0 (oh_wg (Nat.lt_of_lt_of_le (by decide) hn) (sM_0 hT)) rfl 17 (by decide) (htg _ q_990) (fun _ h9 => h9) rfl dX7_most_82 ?_
              refine lv_iconst (v := 0) hx hb dX7_most_85 (by decide) ?_
              refine th_iald hx hb hK hP 13 (Nat.lt_of_lt_of_le (by decide) hn) (Eq.trans (f_42.1 13 rfl (by decide)) (sM_13 t_38)) (rg_in (rg_c (v := 0) (lo := 0) (hi := 0) (by decide)) (by decide)) dX7_most_86 ?_
              refine lv_istore (lv' := [(5, .int (ga (C_36 13) ((0 : Int32)).toNatClampNeg)), (7, .int z48_7), (6, .int z48_6), (4, .int (ga (C 13) ((0 : Int32)).toNatClampNeg)), (0, .ref (a 0)), (1, .int x1), (2, .int x2), (3, .int x3)]) hx hb dX7_most_87 hl (by decide) rfl (fun ls hl => ?_)
              refine lv_aload_n hx hb dX7_most_89 rfl (lv_at hl 4 rfl) ?_
              refine va_get (D := D) (ci := 7) (v := .ref (a 13)) (C := RX7) (T := TX7) (N := 29) hx hb htg ig_7 hown hK hP 0 (oh_wg (Nat.lt_of_lt_of_le (by decide) hn) (sM_0 hT)) rfl 17 (by decide) (htg _ q_990) (fun _ h9 => h9) rfl dX7_most_90 ?_
              refine lv_iconst (v := 0) hx hb dX7_most_93 (by decide) ?_
              refine th_iald hx hb hK hP 13 (Nat.lt_of_lt_of_le (by decide) hn) (Eq.trans (f_42.1 13 rfl (by decide)) (sM_13 t_38)) (rg_in (rg_c (v := 0) (lo := 0) (hi := 0) (by decide)) (by decide)) dX7_most_94 ?_
              refine lv_iconst (v := 1) hx hb dX7_most_95 (by decide) ?_
              refine lv_iadd hx hb dX7_most_96 ?_
              refine lv_istore (lv' := [(6, .int ((ga (C_36 13) ((0 : Int32)).toNatClampNeg) + 1)), (5, .int (ga (C_36 13) ((0 : Int32)).toNatClampNeg)), (7, .int z48_7), (4, .int (ga (C 13) ((0 : Int32)).toNatClampNeg)), (0, .ref (a 0)), (1, .int x1), (2, .int x2), (3, .int x3)]) hx hb dX7_most_97 hl (by decide) rfl (fun ls hl => ?_)
              refine lv_goto (tgt := 48) hx hb dX7_most_99 (by decide) ?_
              exact ih_48 _ (hd_48 ▸ (oh_midu (by rw [st_ga e_37]; exact pk_us) (oh_mid hz48_6 hz48_7 (Int32.not_lt.mp c_26))).2) C_40 z48_7 ((ga (C_36 13) ((0 : Int32)).toNatClampNeg) + 1) (ga (C_36 13) ((0 : Int32)).toNatClampNeg) _ _ ls rfl hz48_7 (oh_midu (q := z48_7) (by rw [st_ga e_37]; exact pk_us) (oh_mid hz48_6 hz48_7 (Int32.not_lt.mp c_26))).1 (fun j hj => (Eq.trans (congrArg (fun z => ga z j) (f_42.1 13 rfl (by decide))) (Eq.trans (show ga (C_36 13) j = ga (K48 13) j by rw [st_ga e_37]; exact pk_un hj) (hx_48 j hj)))) (fun A hA hok hl => by have hm := (oh_mid hz48_6 hz48_7 (Int32.not_lt.mp c_26)); have hw := (mc_w (ok_set hok (fun _ => hm.1) (fun e => absurd e (by decide)) (fun e => absurd e (by decide))) (rg_w (lo := 0) (hi := 4) u_10.1 (by decide)) (set_52 hl) (rg_w (lo := 0) (hi := 15) u_20 (by decide)) (rg_w (lo := 0) (hi := 15) u_24 (by decide)) (hq_41 (setA A 0 ((z48_6 + z48_7) / 2)) (absM_sk 0 (v := (z48_6 + z48_7) / 2) hA hT0 (show fr [(13, 14), (15, 16)] [] C C_36 from (fr_ste (fr_tr fr_rf hLF_48 (by decide) (by decide)) e_37 (by decide) (by decide))) (by rw [st_ga e_37]; exact pk_us) (fun j hj => (Eq.trans (show ga (C_36 13) j = ga (K48 13) j by rw [st_ga e_37]; exact pk_un hj) (hx_48 j hj))) (by decide) (by decide)) (ok_set hok (fun _ => hm.1) (fun e => absurd e (by decide)) (fun e => absurd e (by decide))) (set_52 hl) ⟨by decide, by decide⟩)); exact mm_y (hv_48 A hA hok hl) (by rw [st_ga e_37]; exact pk_us) hm.1 (Classical.byContradiction (fun q => c_44 (hw.mpr q)))) hT hF (fr_tr (fr_ste hLF_48 e_37 (by decide) (by decide)) f_42 (by decide) (by decide)) hP hD hS (lv_sub hl [2, 0, 1, 3, 4, 5, 6, 7] rfl)
        exact L_48 _ C 900 0 (-1) _ _ ls rfl (rg_w (rg_c (v := 900) (lo := 900) (hi := 900) (by decide)) (by decide)) (rg_w (rg_c (v := 0) (lo := 0) (hi := 0) (by decide)) (by decide)) (fun j hj => rfl) (fun A hA hok hl => mm_0) hT hF fr_rf hP hD hS (lv_sub hl [0, 1, 2, 3, 4, 5, 6, 7] rfl)
      · have u_45 := hq_22.2.2 c_23
        refine lv_aload_n hx hb dX7_most_22 rfl (lv_at hl 0 rfl) ?_
        refine lv_bipush (v := (-2)) hx hb dX7_most_23 (by decide) ?_
        refine tm_V (As := [.int (-2)]) (rest := []) ⟨hx, hb, hml, hown, htg⟩ (c_X7_refuse l D E G _ a C n hn hT ((-2) : Int32) (rg_w (rg_c (v := (-2)) (lo := (-2)) (hi := (-2)) (by decide)) (by decide))) (cwV 1 htg (oh_gV q_1071 q_1073 q_29 q_73 q_1074) rfl rfl rfl pdVX7_refuse ⟨Nat.le_of_ble_eq_true rfl, Nat.le_of_ble_eq_true rfl⟩) hK hP hD hG hS hA (va_recv hK hP (ci := 7) (q0 := 0) rfl (oh_wg (Nat.lt_of_lt_of_le (by decide) hn) (sM_0 hT))) rfl hl.1 rfl (Nat.le_of_ble_eq_true rfl) dX7_most_25 ⟨Nat.le_of_ble_eq_true rfl, Nat.le_of_ble_eq_true rfl⟩ (fun r_46 C_47 H locs hq_48 hP hD hS => ?_)
        obtain ⟨hT, f_49, hq_48⟩ := hq_48
        have hF := fr_tr hF f_49 (by decide) (by decide)
        refine W.widen (k := 0) (n := 0) (Nat.le_refl _) (Nat.le_refl _) ?_
        have t_50 := hT
        rw [hQ]
        exact W.iret (v := r_46) hx hb hr (fun t ht hW => ⟨⟨r_46, C_47, rfl, ⟨hT, hF, ⟨⟨hR.1.fr hF (by decide), hR.2.fr hF (by decide)⟩, (congrArg ga (f_49.1 13 rfl (by decide))), (fun A hA hok => Eq.trans hq_48 (pif_neg (fun h8 => u_45 h8.2.2)).symm)⟩⟩, ⟨by rw [ht]; exact hP, hD⟩⟩, hS.F ht⟩) hS.2.2 dX7_most_28
