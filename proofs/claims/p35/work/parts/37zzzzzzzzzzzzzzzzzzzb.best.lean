/-! FULL: the best waggon and parts -/
noncomputable def spOb (P : Int32 → Prop) : Int32 := Classical.epsilon P
theorem spOb_eq {P : Int32 → Prop} {r : Int32} (h : P r) (u : ∀ a b, P a → P b → a = b) : r = spOb P := u _ _ h (Classical.epsilon_spec ⟨r, h⟩)
def nSb (A : LA) : Nat := ((1 : Int32) <<< (A 5 0 3 &&& 31)).toNatClampNeg
/-- the packs in their order: k is 32 times the waggon and the parts -/
noncomputable def bsF (A : LA) (f t : Int32) (k : Nat) : Int32 := pif (k % 32 < nSb A) (lcA A (Int32.ofNat (k / 32)) (Int32.ofNat (k % 32)) f t 1) 1000000000
def bsM (F : Nat → Int32) (K k0 : Nat) : Prop := k0 < K ∧ (F k0).toInt < 1000000000 ∧ ∀ k, k < K → (F k0).toInt < (F k).toInt ∨ ((F k0).toInt = (F k).toInt ∧ k0 ≤ k)
def bsN (F : Nat → Int32) (K : Nat) : Prop := ∀ k, k < K → (F k).toInt = 1000000000
theorem bsM_u {F : Nat → Int32} {K a b : Nat} (h : bsM F K a) (g : bsM F K b) : a = b := by
  have h1 := h.2.2 b g.1
  have g1 := g.2.2 a h.1
  omega
def bsI (F : Nat → Int32) (K : Nat) (bw bs bc : Int32) : Prop := (bc = 1000000000 ∧ bsN F K) ∨ ∃ k0, k0 < 160 ∧ bw = Int32.ofNat (k0 / 32) ∧ bs = Int32.ofNat (k0 % 32) ∧ bc = F k0 ∧ bsM F K k0
def bsR (F : Nat → Int32) (K : Nat) (x r : Int32) : Prop := (r = -5 ∧ bsN F K) ∨ ∃ k0, bsM F K k0 ∧ r = pif (x = 0) (Int32.ofNat (k0 / 32)) (pif (x = 1) (Int32.ofNat (k0 % 32)) (F k0))
theorem bsR_u {F : Nat → Int32} {K : Nat} {x : Int32} (a b : Int32) (h : bsR F K x a) (g : bsR F K x b) : a = b := by
  rcases h with ⟨h1, h2⟩ | ⟨i, h1, h2⟩
  · rcases g with ⟨g1, g2⟩ | ⟨j, g1, g2⟩
    · rw [h1, g1]
    · have := h2 j g1.1
      have := g1.2.1
      omega
  · rcases g with ⟨g1, g2⟩ | ⟨j, g1, g2⟩
    · have := g2 i h1.1
      have := h1.2.1
      omega
    · rw [h2, g2, bsM_u h1 g1]
theorem M_i : (1000000000 : Int32).toInt = 1000000000 := rfl
theorem bs_y {F : Nat → Int32} {K : Nat} {bw bs bc : Int32} (h : bsI F K bw bs bc) (hb : bc.toInt ≤ 1000000000) (hK : K < 160) (c : (F K).toInt < bc.toInt) : bsI F (K + 1) (Int32.ofNat (K / 32)) (Int32.ofNat (K % 32)) (F K) := by
  refine Or.inr ⟨K, hK, rfl, rfl, rfl, Nat.lt_succ_self K, by omega, fun k hk => ?_⟩
  by_cases e : k = K
  · exact Or.inr ⟨by rw [e], by omega⟩
  · rcases h with ⟨h1, h2⟩ | ⟨k0, _, _, _, h1, h2⟩
    · have h3 := h2 k (by omega)
      rw [h1, M_i] at c
      omega
    · have h3 := h2.2.2 k (by omega)
      rw [h1] at c
      omega
theorem bs_n {F : Nat → Int32} {K : Nat} {bw bs bc : Int32} (h : bsI F K bw bs bc) (hF : (F K).toInt ≤ 1000000000) (c : ¬ (F K).toInt < bc.toInt) : bsI F (K + 1) bw bs bc := by
  rcases h with ⟨h1, h2⟩ | ⟨k0, hk, a1, a2, h1, h2⟩
  · refine Or.inl ⟨h1, fun k hk => ?_⟩
    by_cases e : k = K
    · rw [e]
      rw [h1, M_i] at c
      omega
    · exact h2 k (by omega)
  · refine Or.inr ⟨k0, hk, a1, a2, h1, by have := h2.1; omega, h2.2.1, fun k hk => ?_⟩
    by_cases e : k = K
    · rw [e]
      rw [h1] at c
      have := h2.1
      omega
    · exact h2.2.2 k (by omega)
theorem bs_k {F : Nat → Int32} {K K2 : Nat} {bw bs bc : Int32} (h : bsI F K bw bs bc) (hK : K ≤ K2) (hF : ∀ k, K ≤ k → k < K2 → (F k).toInt = 1000000000) : bsI F K2 bw bs bc := by
  rcases h with ⟨h1, h2⟩ | ⟨k0, hk, a1, a2, h1, h2⟩
  · refine Or.inl ⟨h1, fun k hk => ?_⟩
    by_cases e : k < K
    · exact h2 k e
    · exact hF k (by omega) hk
  · refine Or.inr ⟨k0, hk, a1, a2, h1, by have := h2.1; omega, h2.2.1, fun k hk => ?_⟩
    by_cases e : k < K
    · exact h2.2.2 k e
    · have := hF k (by omega) hk
      have := h2.2.1
      omega
theorem bs_0 {F : Nat → Int32} {bw bs : Int32} : bsI F 0 bw bs 1000000000 := Or.inl ⟨rfl, fun k hk => absurd hk (Nat.not_lt_zero k)⟩
theorem bsI_c {F : Nat → Int32} {K : Nat} {bw bs bc : Int32} (h : bsI F K bw bs bc) : bc.toInt ≤ 1000000000 := by
  rcases h with ⟨h1, _⟩ | ⟨k0, _, _, _, h1, h2⟩
  · rw [h1, M_i]
    exact Int.le_refl _
  · have := h2.2.1
    rw [h1]
    omega
theorem bs_e1 {F : Nat → Int32} {K : Nat} {bw bs bc x r : Int32} (h : bsI F K bw bs bc) (e : bc = 1000000000) (er : r = -5) : bsR F K x r := by
  rcases h with ⟨_, h2⟩ | ⟨k0, _, _, _, h1, h2⟩
  · exact Or.inl ⟨er, h2⟩
  · have h3 := h2.2.1
    rw [← h1, e, M_i] at h3
    omega
theorem bs_e2 {F : Nat → Int32} {K : Nat} {bw bs bc x : Int32} (h : bsI F K bw bs bc) (e : ¬ bc = 1000000000) : bsR F K x (pif (x = 0) bw (pif (x = 1) bs bc)) := by
  rcases h with ⟨h1, _⟩ | ⟨k0, _, a1, a2, h1, h2⟩
  · exact absurd h1 e
  · exact Or.inr ⟨k0, h2, by rw [a1, a2, h1]⟩
noncomputable def spBest (A : LA) (f t x : Int32) : Int32 := pif ((0 ≤ f ∧ f ≤ 15) ∧ (0 ≤ t ∧ t ≤ 15) ∧ (0 ≤ x ∧ x ≤ 2)) (spOb (bsR (bsF A f t) (32 * (A 5 0 2).toNatClampNeg) x)) (-2)
theorem zb_s {z : Int32} (h : rg z 0 31) : (z + 1).toNatClampNeg = z.toNatClampNeg + 1 := by
  have e2 : (z + 1).toInt = z.toInt + 1 := by
    rw [Int32.toInt_add]
    exact oh_bmod (by show _ ≤ z.toInt + 1; have := h.1; omega) (by show z.toInt + 1 ≤ _; have := h.2; omega)
  have a := oh_nat h (by decide)
  have b := oh_nat (i := z + 1) (l := 0) (u := 32) ⟨by rw [e2]; have := h.1; omega, by rw [e2]; have := h.2; omega⟩ (by decide)
  omega
theorem bk_n {w s : Int32} (hw : rg w 0 4) (hs : rg s 0 31) : (32 * w.toNatClampNeg + s.toNatClampNeg) / 32 = w.toNatClampNeg ∧ (32 * w.toNatClampNeg + s.toNatClampNeg) % 32 = s.toNatClampNeg ∧ 32 * w.toNatClampNeg + s.toNatClampNeg < 160 := by
  have a := oh_nat hw (by decide)
  have b := oh_nat hs (by decide)
  have := hw.2
  have := hs.2
  omega
theorem bsF_z {A : LA} {f t w s n : Int32} (hw : rg w 0 4) (hs : rg s 0 31) (hn : n = A 5 0 3) (h5 : rg n 0 5) (c : s < ((1 : Int32) <<< (n &&& 31))) : bsF A f t (32 * w.toNatClampNeg + s.toNatClampNeg) = lcA A w s f t 1 := by
  obtain ⟨e1, e2, _⟩ := bk_n hw hs
  have c1 := Int32.lt_iff_toInt_lt.mp c
  have b := oh_nat hs (by decide)
  have d := oh_nat (rg_shl1 h5) (by decide)
  unfold bsF
  rw [e1, e2, oh_ofc hw (by decide), oh_ofc hs (by decide)]
  refine pif_pos ?_
  unfold nSb
  rw [← hn]
  omega
theorem lc_ge {A : LA} (h : okA A) {w s f t : Int32} (h0 : rg w 0 4) (hl : w < A 5 0 2) (hf : rg f 0 15) (ht : rg t 0 15) : (sumA A s 1 (A 5 0 3).toNatClampNeg).toInt ≤ (lcA A w s f t 1).toInt := by
  have hs := sumA_r h s (col := 1) (by decide)
  by_cases q : hasW (EcA A w s 1) f.toNatClampNeg t.toNatClampNeg
  · have v := ec_fin h s h0 hl (n := 1) ⟨by decide, by decide⟩ (p16 hf) _ _ (p16 ht) (lsN_s q)
    have e : (Int32.ofNat (lsN (EcA A w s 1) f.toNatClampNeg t.toNatClampNeg)).toInt = ((lsN (EcA A w s 1) f.toNatClampNeg t.toNatClampNeg : Nat) : Int) := nI_toInt (by omega)
    have e1 : (1 * sumA A s 1 (A 5 0 3).toNatClampNeg) = sumA A s 1 (A 5 0 3).toNatClampNeg := Int32.one_mul _
    rw [show lcA A w s f t 1 = _ from pif_pos q, e1, Int32.toInt_add, e, oh_bmod (by have := hs.1; omega) (by have := hs.2; omega)]
    omega
  · rw [show lcA A w s f t 1 = _ from pif_neg q, M_i]
    have := hs.2
    omega
theorem bsX_y {A : LA} (h : okA A) {f t w s n bw bs bc r : Int32} (hl : w < A 5 0 2) (hf : rg f 0 15) (ht : rg t 0 15) (I : bsI (bsF A f t) (32 * w.toNatClampNeg + s.toNatClampNeg) bw bs bc) (hw : rg w 0 4) (hs : rg s 0 31) (hn : n = A 5 0 3) (h5 : rg n 0 5) (c : s < ((1 : Int32) <<< (n &&& 31))) (er : r = lcA A w s f t 1) (d : r < bc) : bsI (bsF A f t) (32 * w.toNatClampNeg + (s + 1).toNatClampNeg) w s r := by
  obtain ⟨e1, e2, e3⟩ := bk_n hw hs
  have eF : bsF A f t (32 * w.toNatClampNeg + s.toNatClampNeg) = r := Eq.trans (bsF_z hw hs hn h5 c) er.symm
  have k := bs_y I (bsI_c I) e3 (by rw [eF]; exact Int32.lt_iff_toInt_lt.mp d)
  rw [e1, e2, eF, oh_ofc hw (by decide), oh_ofc hs (by decide)] at k
  rw [zb_s hs, ← Nat.add_assoc]
  exact k
theorem bsX_n {A : LA} (h : okA A) {f t w s n bw bs bc : Int32} (hl : w < A 5 0 2) (hf : rg f 0 15) (ht : rg t 0 15) (I : bsI (bsF A f t) (32 * w.toNatClampNeg + s.toNatClampNeg) bw bs bc) (hw : rg w 0 4) (hs : rg s 0 31) (hn : n = A 5 0 3) (h5 : rg n 0 5) (c : s < ((1 : Int32) <<< (n &&& 31))) (d : ¬ (lcA A w s f t 1).toInt < bc.toInt) : bsI (bsF A f t) (32 * w.toNatClampNeg + (s + 1).toNatClampNeg) bw bs bc := by
  have eF := bsF_z (f := f) (t := t) hw hs hn h5 c
  rw [zb_s hs, ← Nat.add_assoc]
  exact bs_n I (by rw [eF]; exact (lc_r h hw hl hf ht).2) (by rw [eF]; exact d)
/-- the next waggon -/
theorem bsX_w {A : LA} {f t w s n bw bs bc : Int32} (I : bsI (bsF A f t) (32 * w.toNatClampNeg + s.toNatClampNeg) bw bs bc) (hw : rg w 0 4) (hs : rg s 0 32) (hn : n = A 5 0 3) (h5 : rg n 0 5) (c : ((1 : Int32) <<< (n &&& 31)) ≤ s) : bsI (bsF A f t) (32 * (w + 1).toNatClampNeg) bw bs bc := by
  have c1 := Int32.le_iff_toInt_le.mp c
  have b := oh_nat hs (by decide)
  have b2 := hs.2
  have d := oh_nat (rg_shl1 h5) (by decide)
  rw [zb_s (rg_w hw (by decide))]
  refine bs_k I (by omega) (fun k hk hk2 => ?_)
  rw [show bsF A f t k = 1000000000 from pif_neg ?_]
  · exact M_i
  · unfold nSb
    rw [← hn]
    omega

set_option maxHeartbeats 4000000 in
set_option maxRecDepth 100000 in
theorem e_X6_findBest (l : Launch) (D : va_G) (E : Nat → ClassId) (G : Nat → Nat) (sz : Nat) (a : Nat → Nat) (C : Nat → va_E) (hT : TyX a E C) (x1 : Int32) (x2 : Int32) (hx1 : rg x1 0 15) (hx2 : rg x2 0 15) : Met l yX6_findBest (oh_w yX6_findBest cX6_findBest 6 none) ({ frames := 5, cells := 0, slots := 0, locals := 125 }) (oh_Pm D E G [.ref (a 0), .int x1, .int x2] (oh_W 35 a C) sz) (va_Qv (fun (u : Nat → va_E) => TyX a E u ∧ fr [(8, 10), (24, 28)] [] C u ∧ (∀ A : LA, absX 10 C A → okA A → bsI (bsF A x1 x2) (32 * (A 5 0 2).toNatClampNeg) (ga (u 8) ((0 : Int32)).toNatClampNeg) (ga (u 8) ((1 : Int32)).toNatClampNeg) (ga (u 8) ((2 : Int32)).toNatClampNeg))) (oh_B D (va_A (oh_W 35 a C) sz) (fun u => oh_W 35 a u)) (va_A (oh_W 35 a C) sz)) 0 0 (va_A (oh_W 35 a C) sz) := by
  refine Met.ofW (cc := cX6_findBest) (maxL := 6) (ret := none) (by decide) rfl ?_
  intro p e s m args below meth c s₁ B hml hv
  obtain ⟨rfl, hsz, hP, hK, hD0, hG⟩ := hv
  have hx := B.exec
  have hb := B.bytes
  have hr := B.returns
  have hts := atoms_spec (ws := (oh_w yX6_findBest cX6_findBest 6 none)) B.pre
  have htg : ∀ w ∈ oh_t, w.before _ s = true := fun w h => hts w (List.mem_cons_of_mem _ h)
  have hown : s.vm.findClass RX6 = some m.cls := findClass_of_methodNamed B.named
  have hlocks := B.notSynchronized
  have hT0 := hT
  subst hsz
  have hD := hD0.self (sz := s.heap.size)
  generalize hAe : va_A (oh_W 35 a C) s.heap.size = A at hD hG ⊢
  have hA : ∀ q : Nat, s.heap.size ≤ q → A q := fun q h => by rw [← hAe]; exact Or.inr h
  have hS : va_S A s.heap s.heap [] := va_S.rf
  have hF : fr [(8, 10), (24, 28)] [] C C := fr_rf
  have hl := lv_entry ([.ref (a 0), .int x1, .int x2]) (n := 6) (Nat.le_of_ble_eq_true rfl)
  rw [lg_entry_eq]
  generalize (lg_sl ([.ref (a 0), .int x1, .int x2]) ++ List.replicate (6 - (lg_sl ([.ref (a 0), .int x1, .int x2])).length) Slot.unset).toArray = ls at hl ⊢
  have hl : lv_has ls 6 [(0, .ref (a 0)), (1, .int x1), (2, .int x2)] := hl
  refine oh_genQ (fun Q hQ => ?_)
  refine lv_aload_n hx hb dX6_findBest_0 rfl (lv_at hl 0 rfl) ?_
  refine va_get (D := D) (ci := 6) (v := .ref (a 8)) (C := RX6) (T := TX6) (N := 9) hx hb htg ig_6 hown hK hP 0 (oh_wg (by decide) (sX_0 hT)) rfl 8 (by decide) (htg _ q_266) (fun _ h9 => h9) rfl dX6_findBest_1 ?_
  refine lv_iconst (v := 2) hx hb dX6_findBest_4 (by decide) ?_
  refine lv_ldc (v := 1000000000) hx hb hown (htg _ q_803) dX6_findBest_5 ?_
  refine th_iast (T := TyX a E) (Rl := fr [(8, 10), (24, 28)] [] C) hx hb hK hP hD hS 8 (by decide) (sX_8 hT) (rg_in (rg_c (v := 2) (lo := 2) (hi := 2) (by decide)) (by decide)) (hT.up 8 (tA_upd (tX_8 hT) tA_any)) (fr_st hF (by decide) (by decide)) dX6_findBest_7 (fun C_1 H locs e_2 hT hF hP hD hS => ?_)
  have t_3 := hT
  refine lv_iconst (v := 0) hx hb dX6_findBest_8 (by decide) ?_
  refine lv_istore_n (lv' := [(3, .int 0), (0, .ref (a 0)), (1, .int x1), (2, .int x2)]) hx hb dX6_findBest_9 rfl hl (by decide) rfl (fun ls hl => ?_)
  have L_10 : ∀ (d : Nat) (K10 : Nat → va_E) (z10_3 : Int32) (H : Heap) (locs : List Loc) (ls : Array Slot), (5 - z10_3.toInt).toNat = d → rg z10_3 0 5 → (∀ A : LA, absX 10 C A → okA A → bsI (bsF A x1 x2) (32 * z10_3.toNatClampNeg) (ga (K10 8) ((0 : Int32)).toNatClampNeg) (ga (K10 8) ((1 : Int32)).toNatClampNeg) (ga (K10 8) ((2 : Int32)).toNatClampNeg)) → (z10_3.toInt ≤ (ga (C 10) ((2 : Int32)).toNatClampNeg).toInt) → TyX a E K10 → fr [(8, 10), (24, 28)] [] C K10 → fr [(8, 10), (24, 28)] [] C_1 K10 → va_P D vwCl (oh_W 35 a K10) H → va_D A (oh_W 35 a K10) → va_S A s.heap H locs → lv_has ls 6 [(3, .int z10_3), (0, .ref (a 0)), (1, .int x1), (2, .int x2)] → W p l e ({ frames := 5, cells := 0, slots := 0, locals := 125 }) s m (([.ref (a 0), .int x1, .int x2] : List Value).toArray) below meth c H locs 0 0 Q (F0 m 10 ls []) := by
    intro d
    induction d using Nat.strongRecOn with
    | ind d ih_10 =>
    intro K10 z10_3 H locs ls hd_10 hz10_3 hv_10 hy_10 hT hF hLF_10 hP hD hS hl
    have t_4 := hT
    refine lv_iload_n hx hb dX6_findBest_10 rfl (lv_at hl 0 rfl) ?_
    refine lv_aload_n hx hb dX6_findBest_11 rfl (lv_at hl 1 rfl) ?_
    refine va_get (D := D) (ci := 6) (v := .ref (a 1)) (C := RX6) (T := TX6) (N := 9) hx hb htg ig_6 hown hK hP 0 (oh_wg (by decide) (sX_0 hT)) rfl 0 (by decide) (htg _ q_258) (fun _ h9 => h9) rfl dX6_findBest_12 ?_
    refine va_get (D := D) (ci := 0) (v := .ref (a 10)) (C := RX0) (T := TX0) (N := 8) hx hb htg ig_0 hown hK hP 1 (oh_wg (by decide) (sX_1 hT)) rfl 0 (by decide) (htg _ q_100) (fun _ h9 => h9) rfl dX6_findBest_15 ?_
    refine lv_iconst (v := 2) hx hb dX6_findBest_18 (by decide) ?_
    refine th_iald hx hb hK hP 10 (by decide) (Eq.trans (Eq.trans (hLF_10.1 10 rfl (by decide)) (th_un e_2 (by decide))) (sX_10 hT0)) (rg_in (rg_c (v := 2) (lo := 2) (hi := 2) (by decide)) (by decide)) dX6_findBest_19 ?_
    refine lv_icmp_ge (tgt := 118) hx hb dX6_findBest_20 (by decide) (fun (c_5 : (ga (C 10) ((2 : Int32)).toNatClampNeg) ≤ z10_3) => ?_) (fun (c_5 : ¬ ((ga (C 10) ((2 : Int32)).toNatClampNeg) ≤ z10_3)) => ?_)
    · rw [hQ]
      exact W.vret hx hb hr (fun t ht hW => ⟨⟨K10, rfl, ⟨hT, hF, (fun A hA hok => by have h7 := hv_10 A hA hok; rw [show z10_3 = A 5 0 2 from Eq.trans (show z10_3 = ga (C 10) ((2 : Int32)).toNatClampNeg from Int32.toInt_inj.mp (by have h8 := Int32.le_iff_toInt_le.mp c_5; have h9 := hy_10; omega)) (show ga (C 10) ((2 : Int32)).toNatClampNeg = A 5 0 2 from hA.1 2 (by decide))] at h7; exact h7)⟩, ⟨by rw [ht]; exact hP, hD⟩⟩, hS.F ht⟩) hS.2.2 dX6_findBest_118
    · refine lv_iconst (v := 0) hx hb dX6_findBest_23 (by decide) ?_
      refine lv_istore (lv' := [(4, .int 0), (3, .int z10_3), (0, .ref (a 0)), (1, .int x1), (2, .int x2)]) hx hb dX6_findBest_24 hl (by decide) rfl (fun ls hl => ?_)
      have L_26 : ∀ (d : Nat) (K26 : Nat → va_E) (z26_4 : Int32) (H : Heap) (locs : List Loc) (ls : Array Slot), (32 - z26_4.toInt).toNat = d → rg z26_4 0 32 → (∀ A : LA, absX 10 C A → okA A → bsI (bsF A x1 x2) (32 * z10_3.toNatClampNeg + z26_4.toNatClampNeg) (ga (K26 8) ((0 : Int32)).toNatClampNeg) (ga (K26 8) ((1 : Int32)).toNatClampNeg) (ga (K26 8) ((2 : Int32)).toNatClampNeg)) → TyX a E K26 → fr [(8, 10), (24, 28)] [] C K26 → fr [(8, 10), (24, 28)] [] K10 K26 → va_P D vwCl (oh_W 35 a K26) H → va_D A (oh_W 35 a K26) → va_S A s.heap H locs → lv_has ls 6 [(4, .int z26_4), (3, .int z10_3), (0, .ref (a 0)), (1, .int x1), (2, .int x2)] → W p l e ({ frames := 5, cells := 0, slots := 0, locals := 125 }) s m (([.ref (a 0), .int x1, .int x2] : List Value).toArray) below meth c H locs 0 0 Q (F0 m 26 ls []) := by
        intro d
        induction d using Nat.strongRecOn with
        | ind d ih_26 =>
        intro K26 z26_4 H locs ls hd_26 hz26_4 hw_26 hT hF hLF_26 hP hD hS hl
        have t_6 := hT
        refine lv_iload hx hb dX6_findBest_26 (lv_at hl 0 rfl) ?_
        refine lv_aload_n hx hb dX6_findBest_28 rfl (lv_at hl 2 rfl) ?_
        refine va_get (D := D) (ci := 6) (v := .ref (a 1)) (C := RX6) (T := TX6) (N := 9) hx hb htg ig_6 hown hK hP 0 (oh_wg (by decide) (sX_0 hT)) rfl 0 (by decide) (htg _ q_258) (fun _ h9 => h9) rfl dX6_findBest_29 ?_
        refine tq_V (As := []) (rest := [.int z26_4]) (ws := (oh_W 35 a K26)) ⟨hx, hb, hml, hown, htg⟩ (e_X0_setsOfParts l D E G a K26 hT) (cwV 0 htg (oh_gV q_699 q_700 q_701 q_67 q_702) rfl rfl rfl pdVX0_setsOfParts ⟨Nat.le_of_ble_eq_true rfl, Nat.le_of_ble_eq_true rfl⟩) hK hP hG hS (va_recv hK hP (ci := 0) (q0 := 1) rfl (oh_wg (by decide) (sX_1 hT))) rfl hl.1 rfl (Nat.le_of_ble_eq_true rfl) dX6_findBest_32 ⟨Nat.le_of_ble_eq_true rfl, Nat.le_of_ble_eq_true rfl⟩ (fun r_7 hq_8 => ?_)
        subst hq_8
        refine lv_icmp_ge (tgt := 112) hx hb dX6_findBest_35 (by decide) (fun (c_9 : ((1 : Int32) <<< ((ga (K26 10) ((3 : Int32)).toNatClampNeg) &&& 31)) ≤ z26_4) => ?_) (fun (c_9 : ¬ (((1 : Int32) <<< ((ga (K26 10) ((3 : Int32)).toNatClampNeg) &&& 31)) ≤ z26_4)) => ?_)
        · refine lv_iinc (v := z10_3 + 1) (lv' := [(3, .int (z10_3 + 1)), (4, .int z26_4), (0, .ref (a 0)), (1, .int x1), (2, .int x2)]) hx hb dX6_findBest_112 hl (k := 1) rfl (by rfl) (by decide) rfl (fun ls hl => ?_)
          refine lv_goto (tgt := 10) hx hb dX6_findBest_115 (by decide) ?_
          exact ih_10 _ (hd_10 ▸ mu_up 5 (rn_ltu (u' := 4) (Int32.not_le.mp c_5) hz10_3 (tA_rdc (lo := 0) (hi := 5) (tX_10 hT0) (rg_in (rg_c (v := 2) (lo := 2) (hi := 2) (by decide)) (by decide)) (show _ = 2 by decide) (by decide)) (by decide)) (by decide)) K26 (z10_3 + 1) _ _ ls rfl (rg_w (rg_add (lo := 1) (hi := 5) (rn_ltu (u' := 4) (Int32.not_le.mp c_5) hz10_3 (tA_rdc (lo := 0) (hi := 5) (tX_10 hT0) (rg_in (rg_c (v := 2) (lo := 2) (hi := 2) (by decide)) (by decide)) (show _ = 2 by decide) (by decide)) (by decide)) (rg_c (v := 1) (lo := 1) (hi := 1) (by decide)) (by decide)) (by decide)) (fun A hA hok => by exact bsX_w (hw_26 A hA hok) (rg_w (lo := 0) (hi := 4) (rn_ltu (u' := 4) (Int32.not_le.mp c_5) hz10_3 (tA_rdc (lo := 0) (hi := 5) (tX_10 hT0) (rg_in (rg_c (v := 2) (lo := 2) (hi := 2) (by decide)) (by decide)) (show _ = 2 by decide) (by decide)) (by decide)) (by decide)) (rg_w (lo := 0) (hi := 32) (rn_lel c_9 (rg_shl1 (tA_rdc (lo := 0) (hi := 5) (tX_10 t_6) (rg_in (rg_c (v := 3) (lo := 3) (hi := 3) (by decide)) (by decide)) (show _ = 3 by decide) (by decide))) hz26_4) (by decide)) (show ga (C 10) ((3 : Int32)).toNatClampNeg = A 5 0 3 from hA.1 3 (by decide)) (rg_w (lo := 0) (hi := 5) (tA_rdc (lo := 0) (hi := 5) (tX_10 hT0) (rg_in (rg_c (v := 3) (lo := 3) (hi := 3) (by decide)) (by decide)) (show _ = 3 by decide) (by decide)) (by decide)) (by have h9 := c_9; rw [show K26 10 = C 10 from (Eq.trans (hLF_26.1 10 rfl (by decide)) (Eq.trans (hLF_10.1 10 rfl (by decide)) (th_un e_2 (by decide))))] at h9; exact h9)) (by have h7 := Int32.lt_iff_toInt_lt.mp (Int32.not_le.mp c_5); have h8 : (z10_3 + 1).toInt = z10_3.toInt + 1 := oh_incr (rn_ltu (u' := 4) (Int32.not_le.mp c_5) hz10_3 (tA_rdc (lo := 0) (hi := 5) (tX_10 hT0) (rg_in (rg_c (v := 2) (lo := 2) (hi := 2) (by decide)) (by decide)) (show _ = 2 by decide) (by decide)) (by decide)) (by decide); omega) hT hF (fr_tr hLF_10 hLF_26 (by decide) (by decide)) hP hD hS (lv_sub hl [0, 2, 3, 4] rfl)
        · refine lv_aload_n hx hb dX6_findBest_38 rfl (lv_at hl 2 rfl) ?_
          refine va_get (D := D) (ci := 6) (v := .ref (a 1)) (C := RX6) (T := TX6) (N := 9) hx hb htg ig_6 hown hK hP 0 (oh_wg (by decide) (sX_0 hT)) rfl 0 (by decide) (htg _ q_258) (fun _ h9 => h9) rfl dX6_findBest_39 ?_
          refine lv_iload hx hb dX6_findBest_42 (lv_at hl 0 rfl) ?_
          refine lv_iconst (v := 1) hx hb dX6_findBest_44 (by decide) ?_
          refine tq_V (As := [.int z26_4, .int 1]) (rest := []) (ws := (oh_W 35 a K26)) ⟨hx, hb, hml, hown, htg⟩ (e_X0_sumOfParts l D E G a K26 hT z26_4 (1 : Int32) (rg_w (rg_c (v := 1) (lo := 1) (hi := 1) (by decide)) (by decide))) (cwV 2 htg (oh_gV q_825 q_710 q_711 q_67 q_712) rfl rfl rfl pdVX0_sumOfParts ⟨Nat.le_of_ble_eq_true rfl, Nat.le_of_ble_eq_true rfl⟩) hK hP hG hS (va_recv hK hP (ci := 0) (q0 := 1) rfl (oh_wg (by decide) (sX_1 hT))) rfl hl.1 rfl (Nat.le_of_ble_eq_true rfl) dX6_findBest_45 ⟨Nat.le_of_ble_eq_true rfl, Nat.le_of_ble_eq_true rfl⟩ (fun r_10 hq_11 => ?_)
          refine lv_aload_n hx hb dX6_findBest_48 rfl (lv_at hl 2 rfl) ?_
          refine va_get (D := D) (ci := 6) (v := .ref (a 8)) (C := RX6) (T := TX6) (N := 9) hx hb htg ig_6 hown hK hP 0 (oh_wg (by decide) (sX_0 hT)) rfl 8 (by decide) (htg _ q_266) (fun _ h9 => h9) rfl dX6_findBest_49 ?_
          refine lv_iconst (v := 2) hx hb dX6_findBest_52 (by decide) ?_
          refine th_iald hx hb hK hP 8 (by decide) (sX_8 hT) (rg_in (rg_c (v := 2) (lo := 2) (hi := 2) (by decide)) (by decide)) dX6_findBest_53 ?_
          refine lv_icmp_ge (tgt := 106) hx hb dX6_findBest_54 (by decide) (fun (c_12 : (ga (K26 8) ((2 : Int32)).toNatClampNeg) ≤ r_10) => ?_) (fun (c_12 : ¬ ((ga (K26 8) ((2 : Int32)).toNatClampNeg) ≤ r_10)) => ?_)
          · refine lv_iinc (v := z26_4 + 1) (lv' := [(4, .int (z26_4 + 1)), (3, .int z10_3), (0, .ref (a 0)), (1, .int x1), (2, .int x2)]) hx hb dX6_findBest_106 hl (k := 0) rfl (by rfl) (by decide) rfl (fun ls hl => ?_)
            refine lv_goto (tgt := 26) hx hb dX6_findBest_109 (by decide) ?_
            exact ih_26 _ (hd_26 ▸ mu_up 32 (rn_ltu (u' := 31) (Int32.not_le.mp c_9) hz26_4 (rg_shl1 (tA_rdc (lo := 0) (hi := 5) (tX_10 t_6) (rg_in (rg_c (v := 3) (lo := 3) (hi := 3) (by decide)) (by decide)) (show _ = 3 by decide) (by decide))) (by decide)) (by decide)) K26 (z26_4 + 1) _ _ ls rfl (rg_w (rg_add (lo := 1) (hi := 32) (rn_ltu (u' := 31) (Int32.not_le.mp c_9) hz26_4 (rg_shl1 (tA_rdc (lo := 0) (hi := 5) (tX_10 t_6) (rg_in (rg_c (v := 3) (lo := 3) (hi := 3) (by decide)) (by decide)) (show _ = 3 by decide) (by decide))) (by decide)) (rg_c (v := 1) (lo := 1) (hi := 1) (by decide)) (by decide)) (by decide)) (fun A hA hok => by exact bsX_n hok (show z10_3 < A 5 0 2 from oh_lte (Int32.not_le.mp c_5) (hA.1 2 (by decide))) hx1 hx2 (hw_26 A hA hok) (rg_w (lo := 0) (hi := 4) (rn_ltu (u' := 4) (Int32.not_le.mp c_5) hz10_3 (tA_rdc (lo := 0) (hi := 5) (tX_10 hT0) (rg_in (rg_c (v := 2) (lo := 2) (hi := 2) (by decide)) (by decide)) (show _ = 2 by decide) (by decide)) (by decide)) (by decide)) (rg_w (lo := 0) (hi := 31) (rn_ltu (u' := 31) (Int32.not_le.mp c_9) hz26_4 (rg_shl1 (tA_rdc (lo := 0) (hi := 5) (tX_10 t_6) (rg_in (rg_c (v := 3) (lo := 3) (hi := 3) (by decide)) (by decide)) (show _ = 3 by decide) (by decide))) (by decide)) (by decide)) (show ga (C 10) ((3 : Int32)).toNatClampNeg = A 5 0 3 from hA.1 3 (by decide)) (rg_w (lo := 0) (hi := 5) (tA_rdc (lo := 0) (hi := 5) (tX_10 hT0) (rg_in (rg_c (v := 3) (lo := 3) (hi := 3) (by decide)) (by decide)) (show _ = 3 by decide) (by decide)) (by decide)) (by have h9 := (Int32.not_le.mp c_9); rw [show K26 10 = C 10 from (Eq.trans (hLF_26.1 10 rfl (by decide)) (Eq.trans (hLF_10.1 10 rfl (by decide)) (th_un e_2 (by decide))))] at h9; exact h9) (fun q => by have h7 := lc_ge hok (rg_w (lo := 0) (hi := 4) (rn_ltu (u' := 4) (Int32.not_le.mp c_5) hz10_3 (tA_rdc (lo := 0) (hi := 5) (tX_10 hT0) (rg_in (rg_c (v := 2) (lo := 2) (hi := 2) (by decide)) (by decide)) (show _ = 2 by decide) (by decide)) (by decide)) (by decide)) (show z10_3 < A 5 0 2 from oh_lte (Int32.not_le.mp c_5) (hA.1 2 (by decide))) (s := z26_4) hx1 hx2; have h8 := Int32.le_iff_toInt_le.mp c_12; rw [hq_11 A (absX_eq (absX_eq (absX_eq hA (fun k k1 k2 => th_un e_2 (by omega))) (fr_all hLF_10 10 15 (by decide))) (fr_all hLF_26 10 15 (by decide)))] at h8; have h9 : (sumA A z26_4 1 (A 5 0 3).toNatClampNeg).toInt = (sumA A z26_4 ((1 : Int32)).toNatClampNeg (A 5 0 3).toNatClampNeg).toInt := rfl; omega)) hT hF hLF_26 hP hD hS (lv_sub hl [0, 1, 2, 3, 4] rfl)
          · refine lv_aload_n hx hb dX6_findBest_57 rfl (lv_at hl 2 rfl) ?_
            refine va_get (D := D) (ci := 6) (v := .ref (a 3)) (C := RX6) (T := TX6) (N := 9) hx hb htg ig_6 hown hK hP 0 (oh_wg (by decide) (sX_0 hT)) rfl 3 (by decide) (htg _ q_261) (fun _ h9 => h9) rfl dX6_findBest_58 ?_
            refine lv_iload_n hx hb dX6_findBest_61 rfl (lv_at hl 1 rfl) ?_
            refine lv_iload hx hb dX6_findBest_62 (lv_at hl 0 rfl) ?_
            refine lv_iload_n hx hb dX6_findBest_64 rfl (lv_at hl 3 rfl) ?_
            refine lv_iload_n hx hb dX6_findBest_65 rfl (lv_at hl 4 rfl) ?_
            refine lv_iconst (v := 1) hx hb dX6_findBest_66 (by decide) ?_
            refine tm_V (As := [.int z10_3, .int z26_4, .int x1, .int x2, .int 1]) (rest := []) ⟨hx, hb, hml, hown, htg⟩ (e_X5_leastCoin l D E G _ a K26 hT z10_3 z26_4 x1 x2 (1 : Int32) (rg_w (rn_ltu (u' := 4) (Int32.not_le.mp c_5) hz10_3 (tA_rdc (lo := 0) (hi := 5) (tX_10 hT0) (rg_in (rg_c (v := 2) (lo := 2) (hi := 2) (by decide)) (by decide)) (show _ = 2 by decide) (by decide)) (by decide)) (by decide)) (rg_w hx1 (by decide)) (rg_w hx2 (by decide))) (cwV 5 htg (oh_gV q_780 q_781 q_782 q_68 q_783) rfl rfl rfl pdVX5_leastCoin ⟨Nat.le_of_ble_eq_true rfl, Nat.le_of_ble_eq_true rfl⟩) hK hP hD hG hS hA (va_recv hK hP (ci := 5) (q0 := 3) rfl (oh_wg (by decide) (sX_3 hT))) rfl hl.1 rfl (Nat.le_of_ble_eq_true rfl) dX6_findBest_67 ⟨Nat.le_of_ble_eq_true rfl, Nat.le_of_ble_eq_true rfl⟩ (fun r_13 C_14 H locs hq_15 hP hD hS => ?_)
            obtain ⟨hT, f_16, hq_15⟩ := hq_15
            have hF := fr_tr hF f_16 (by decide) (by decide)
            refine W.widen (k := 0) (n := 0) (Nat.le_refl _) (Nat.le_refl _) ?_
            have t_17 := hT
            refine lv_istore (lv' := [(5, .int r_13), (4, .int z26_4), (3, .int z10_3), (0, .ref (a 0)), (1, .int x1), (2, .int x2)]) hx hb dX6_findBest_70 hl (by decide) rfl (fun ls hl => ?_)
            refine lv_iload hx hb dX6_findBest_72 (lv_at hl 0 rfl) ?_
            refine lv_aload_n hx hb dX6_findBest_74 rfl (lv_at hl 3 rfl) ?_
            refine va_get (D := D) (ci := 6) (v := .ref (a 8)) (C := RX6) (T := TX6) (N := 9) hx hb htg ig_6 hown hK hP 0 (oh_wg (by decide) (sX_0 hT)) rfl 8 (by decide) (htg _ q_266) (fun _ h9 => h9) rfl dX6_findBest_75 ?_
            refine lv_iconst (v := 2) hx hb dX6_findBest_78 (by decide) ?_
            refine th_iald hx hb hK hP 8 (by decide) (Eq.trans (f_16.1 8 rfl (by decide)) (sX_8 t_6)) (rg_in (rg_c (v := 2) (lo := 2) (hi := 2) (by decide)) (by decide)) dX6_findBest_79 ?_
            refine lv_icmp_ge (tgt := 106) hx hb dX6_findBest_80 (by decide) (fun (c_18 : (ga (K26 8) ((2 : Int32)).toNatClampNeg) ≤ r_13) => ?_) (fun (c_18 : ¬ ((ga (K26 8) ((2 : Int32)).toNatClampNeg) ≤ r_13)) => ?_)
            · refine lv_iinc (v := z26_4 + 1) (lv' := [(4, .int (z26_4 + 1)), (5, .int r_13), (3, .int z10_3), (0, .ref (a 0)), (1, .int x1), (2, .int x2)]) hx hb dX6_findBest_106 hl (k := 1) rfl (by rfl) (by decide) rfl (fun ls hl => ?_)
              refine lv_goto (tgt := 26) hx hb dX6_findBest_109 (by decide) ?_
              exact ih_26 _ (hd_26 ▸ mu_up 32 (rn_ltu (u' := 31) (Int32.not_le.mp c_9) hz26_4 (rg_shl1 (tA_rdc (lo := 0) (hi := 5) (tX_10 t_6) (rg_in (rg_c (v := 3) (lo := 3) (hi := 3) (by decide)) (by decide)) (show _ = 3 by decide) (by decide))) (by decide)) (by decide)) C_14 (z26_4 + 1) _ _ ls rfl (rg_w (rg_add (lo := 1) (hi := 32) (rn_ltu (u' := 31) (Int32.not_le.mp c_9) hz26_4 (rg_shl1 (tA_rdc (lo := 0) (hi := 5) (tX_10 t_6) (rg_in (rg_c (v := 3) (lo := 3) (hi := 3) (by decide)) (by decide)) (show _ = 3 by decide) (by decide))) (by decide)) (rg_c (v := 1) (lo := 1) (hi := 1) (by decide)) (by decide)) (by decide)) (fun A hA hok => by rw [(show ga (C_14 8) ((0 : Int32)).toNatClampNeg = ga (K26 8) ((0 : Int32)).toNatClampNeg from (by rw [show C_14 8 = K26 8 from f_16.1 8 rfl (by decide)])), (show ga (C_14 8) ((1 : Int32)).toNatClampNeg = ga (K26 8) ((1 : Int32)).toNatClampNeg from (by rw [show C_14 8 = K26 8 from f_16.1 8 rfl (by decide)])), (show ga (C_14 8) ((2 : Int32)).toNatClampNeg = ga (K26 8) ((2 : Int32)).toNatClampNeg from (by rw [show C_14 8 = K26 8 from f_16.1 8 rfl (by decide)]))]; exact bsX_n hok (show z10_3 < A 5 0 2 from oh_lte (Int32.not_le.mp c_5) (hA.1 2 (by decide))) hx1 hx2 (hw_26 A hA hok) (rg_w (lo := 0) (hi := 4) (rn_ltu (u' := 4) (Int32.not_le.mp c_5) hz10_3 (tA_rdc (lo := 0) (hi := 5) (tX_10 hT0) (rg_in (rg_c (v := 2) (lo := 2) (hi := 2) (by decide)) (by decide)) (show _ = 2 by decide) (by decide)) (by decide)) (by decide)) (rg_w (lo := 0) (hi := 31) (rn_ltu (u' := 31) (Int32.not_le.mp c_9) hz26_4 (rg_shl1 (tA_rdc (lo := 0) (hi := 5) (tX_10 t_6) (rg_in (rg_c (v := 3) (lo := 3) (hi := 3) (by decide)) (by decide)) (show _ = 3 by decide) (by decide))) (by decide)) (by decide)) (show ga (C 10) ((3 : Int32)).toNatClampNeg = A 5 0 3 from hA.1 3 (by decide)) (rg_w (lo := 0) (hi := 5) (tA_rdc (lo := 0) (hi := 5) (tX_10 hT0) (rg_in (rg_c (v := 3) (lo := 3) (hi := 3) (by decide)) (by decide)) (show _ = 3 by decide) (by decide)) (by decide)) (by have h9 := (Int32.not_le.mp c_9); rw [show K26 10 = C 10 from (Eq.trans (hLF_26.1 10 rfl (by decide)) (Eq.trans (hLF_10.1 10 rfl (by decide)) (th_un e_2 (by decide))))] at h9; exact h9) (fun q => by have h8 := c_18; have h9 := Int32.le_iff_toInt_le.mp h8; rw [(hq_15 A (absX_eq (absX_eq (absX_eq hA (fun k k1 k2 => th_un e_2 (by omega))) (fr_all hLF_10 10 15 (by decide))) (fr_all hLF_26 10 15 (by decide))) hok (show z10_3 < A 5 0 2 from oh_lte (Int32.not_le.mp c_5) (hA.1 2 (by decide))) ⟨by decide, by decide⟩)] at h9; omega)) hT hF (fr_tr hLF_26 f_16 (by decide) (by decide)) hP hD hS (lv_sub hl [0, 2, 3, 4, 5] rfl)
            · refine lv_aload_n hx hb dX6_findBest_83 rfl (lv_at hl 3 rfl) ?_
              refine va_get (D := D) (ci := 6) (v := .ref (a 8)) (C := RX6) (T := TX6) (N := 9) hx hb htg ig_6 hown hK hP 0 (oh_wg (by decide) (sX_0 hT)) rfl 8 (by decide) (htg _ q_266) (fun _ h9 => h9) rfl dX6_findBest_84 ?_
              refine lv_iconst (v := 0) hx hb dX6_findBest_87 (by decide) ?_
              refine lv_iload_n hx hb dX6_findBest_88 rfl (lv_at hl 2 rfl) ?_
              refine th_iast (T := TyX a E) (Rl := fr [(8, 10), (24, 28)] [] C) hx hb hK hP hD hS 8 (by decide) (sX_8 hT) (rg_in (rg_c (v := 0) (lo := 0) (hi := 0) (by decide)) (by decide)) (hT.up 8 (tA_upd (tX_8 hT) tA_any)) (fr_st hF (by decide) (by decide)) dX6_findBest_89 (fun C_19 H locs e_20 hT hF hP hD hS => ?_)
              have t_21 := hT
              refine lv_aload_n hx hb dX6_findBest_90 rfl (lv_at hl 3 rfl) ?_
              refine va_get (D := D) (ci := 6) (v := .ref (a 8)) (C := RX6) (T := TX6) (N := 9) hx hb htg ig_6 hown hK hP 0 (oh_wg (by decide) (sX_0 hT)) rfl 8 (by decide) (htg _ q_266) (fun _ h9 => h9) rfl dX6_findBest_91 ?_
              refine lv_iconst (v := 1) hx hb dX6_findBest_94 (by decide) ?_
              refine lv_iload hx hb dX6_findBest_95 (lv_at hl 1 rfl) ?_
              refine th_iast (T := TyX a E) (Rl := fr [(8, 10), (24, 28)] [] C) hx hb hK hP hD hS 8 (by decide) (sX_8 hT) (rg_in (rg_c (v := 1) (lo := 1) (hi := 1) (by decide)) (by decide)) (hT.up 8 (tA_upd (tX_8 hT) tA_any)) (fr_st hF (by decide) (by decide)) dX6_findBest_97 (fun C_22 H locs e_23 hT hF hP hD hS => ?_)
              have t_24 := hT
              refine lv_aload_n hx hb dX6_findBest_98 rfl (lv_at hl 3 rfl) ?_
              refine va_get (D := D) (ci := 6) (v := .ref (a 8)) (C := RX6) (T := TX6) (N := 9) hx hb htg ig_6 hown hK hP 0 (oh_wg (by decide) (sX_0 hT)) rfl 8 (by decide) (htg _ q_266) (fun _ h9 => h9) rfl dX6_findBest_99 ?_
              refine lv_iconst (v := 2) hx hb dX6_findBest_102 (by decide) ?_
              refine lv_iload hx hb dX6_findBest_103 (lv_at hl 0 rfl) ?_
              refine th_iast (T := TyX a E) (Rl := fr [(8, 10), (24, 28)] [] C) hx hb hK hP hD hS 8 (by decide) (sX_8 hT) (rg_in (rg_c (v := 2) (lo := 2) (hi := 2) (by decide)) (by decide)) (hT.up 8 (tA_upd (tX_8 hT) tA_any)) (fr_st hF (by decide) (by decide)) dX6_findBest_105 (fun C_25 H locs e_26 hT hF hP hD hS => ?_)
              have t_27 := hT
              refine lv_iinc (v := z26_4 + 1) (lv' := [(4, .int (z26_4 + 1)), (5, .int r_13), (3, .int z10_3), (0, .ref (a 0)), (1, .int x1), (2, .int x2)]) hx hb dX6_findBest_106 hl (k := 1) rfl (by rfl) (by decide) rfl (fun ls hl => ?_)
              refine lv_goto (tgt := 26) hx hb dX6_findBest_109 (by decide) ?_
              exact ih_26 _ (hd_26 ▸ mu_up 32 (rn_ltu (u' := 31) (Int32.not_le.mp c_9) hz26_4 (rg_shl1 (tA_rdc (lo := 0) (hi := 5) (tX_10 t_6) (rg_in (rg_c (v := 3) (lo := 3) (hi := 3) (by decide)) (by decide)) (show _ = 3 by decide) (by decide))) (by decide)) (by decide)) C_25 (z26_4 + 1) _ _ ls rfl (rg_w (rg_add (lo := 1) (hi := 32) (rn_ltu (u' := 31) (Int32.not_le.mp c_9) hz26_4 (rg_shl1 (tA_rdc (lo := 0) (hi := 5) (tX_10 t_6) (rg_in (rg_c (v := 3) (lo := 3) (hi := 3) (by decide)) (by decide)) (show _ = 3 by decide) (by decide))) (by decide)) (rg_c (v := 1) (lo := 1) (hi := 1) (by decide)) (by decide)) (by decide)) (fun A hA hok => by have h8 := (Int32.not_le.mp c_18); rw [(show ga (C_25 8) ((0 : Int32)).toNatClampNeg = z10_3 from (by rw [st_ga e_26, pk_un (by decide), st_ga e_23, pk_un (by decide), st_ga e_20, pk_us])), (show ga (C_25 8) ((1 : Int32)).toNatClampNeg = z26_4 from (by rw [st_ga e_26, pk_un (by decide), st_ga e_23, pk_us])), (show ga (C_25 8) ((2 : Int32)).toNatClampNeg = r_13 from (by rw [st_ga e_26, pk_us]))]; exact bsX_y hok (show z10_3 < A 5 0 2 from oh_lte (Int32.not_le.mp c_5) (hA.1 2 (by decide))) hx1 hx2 (hw_26 A hA hok) (rg_w (lo := 0) (hi := 4) (rn_ltu (u' := 4) (Int32.not_le.mp c_5) hz10_3 (tA_rdc (lo := 0) (hi := 5) (tX_10 hT0) (rg_in (rg_c (v := 2) (lo := 2) (hi := 2) (by decide)) (by decide)) (show _ = 2 by decide) (by decide)) (by decide)) (by decide)) (rg_w (lo := 0) (hi := 31) (rn_ltu (u' := 31) (Int32.not_le.mp c_9) hz26_4 (rg_shl1 (tA_rdc (lo := 0) (hi := 5) (tX_10 t_6) (rg_in (rg_c (v := 3) (lo := 3) (hi := 3) (by decide)) (by decide)) (show _ = 3 by decide) (by decide))) (by decide)) (by decide)) (show ga (C 10) ((3 : Int32)).toNatClampNeg = A 5 0 3 from hA.1 3 (by decide)) (rg_w (lo := 0) (hi := 5) (tA_rdc (lo := 0) (hi := 5) (tX_10 hT0) (rg_in (rg_c (v := 3) (lo := 3) (hi := 3) (by decide)) (by decide)) (show _ = 3 by decide) (by decide)) (by decide)) (by have h9 := (Int32.not_le.mp c_9); rw [show K26 10 = C 10 from (Eq.trans (hLF_26.1 10 rfl (by decide)) (Eq.trans (hLF_10.1 10 rfl (by decide)) (th_un e_2 (by decide))))] at h9; exact h9) (hq_15 A (absX_eq (absX_eq (absX_eq hA (fun k k1 k2 => th_un e_2 (by omega))) (fr_all hLF_10 10 15 (by decide))) (fr_all hLF_26 10 15 (by decide))) hok (show z10_3 < A 5 0 2 from oh_lte (Int32.not_le.mp c_5) (hA.1 2 (by decide))) ⟨by decide, by decide⟩) h8) hT hF (fr_ste (fr_ste (fr_ste (fr_tr hLF_26 f_16 (by decide) (by decide)) e_20 (by decide) (by decide)) e_23 (by decide) (by decide)) e_26 (by decide) (by decide)) hP hD hS (lv_sub hl [0, 2, 3, 4, 5] rfl)
      exact L_26 _ K10 0 _ _ ls rfl (rg_w (rg_c (v := 0) (lo := 0) (hi := 0) (by decide)) (by decide)) (fun A hA hok => by rw [show (0 : Int32).toNatClampNeg = 0 from rfl, Nat.add_zero]; exact hv_10 A hA hok) hT hF fr_rf hP hD hS (lv_sub hl [0, 1, 2, 3, 4] rfl)
  exact L_10 _ C_1 0 _ _ ls rfl (rg_w (rg_c (v := 0) (lo := 0) (hi := 0) (by decide)) (by decide)) (fun A hA hok => by rw [(show ga (C_1 8) ((2 : Int32)).toNatClampNeg = (1000000000 : Int32) from (by rw [st_ga e_2, pk_us]))]; exact bs_0) (cntX 2 hT0 (by decide)).1 hT hF fr_rf hP hD hS (lv_sub hl [0, 1, 2, 3] rfl)

theorem bx3 {g : Nat → Int32} {x : Int32} (h : rg x 0 2) : g x.toNatClampNeg = pif (x = 0) (g ((0 : Int32)).toNatClampNeg) (pif (x = 1) (g ((1 : Int32)).toNatClampNeg) (g ((2 : Int32)).toNatClampNeg)) := by
  by_cases p : x = 0
  · rw [pif_pos p, p]
  · by_cases q : x = 1
    · rw [pif_neg p, pif_pos q, q]
    · rw [pif_neg p, pif_neg q]
      have h1 := h.1
      have h2 := h.2
      have a : ¬ x.toInt = 0 := fun e => p (Int32.toInt_inj.mp e)
      have b : ¬ x.toInt = 1 := fun e => q (Int32.toInt_inj.mp e)
      rw [show x = 2 from Int32.toInt_inj.mp (show x.toInt = 2 by omega)]

set_option maxHeartbeats 4000000 in
set_option maxRecDepth 100000 in
theorem e_X6_best (l : Launch) (D : va_G) (E : Nat → ClassId) (G : Nat → Nat) (sz : Nat) (a : Nat → Nat) (C : Nat → va_E) (hT : TyX a E C) (x1 : Int32) (x2 : Int32) (x3 : Int32) : Met l yX6_best (oh_w yX6_best cX6_best 4 (some .int)) ({ frames := 6, cells := 0, slots := 0, locals := 150 }) (oh_Pm D E G [.ref (a 0), .int x1, .int x2, .int x3] (oh_W 35 a C) sz) (va_Qi (fun r (u : Nat → va_E) => TyX a E u ∧ fr [(7, 10), (24, 28)] [] C u ∧ (∀ A : LA, absX 10 C A → okA A → r = spBest A x1 x2 x3)) (oh_B D (va_A (oh_W 35 a C) sz) (fun u => oh_W 35 a u)) (va_A (oh_W 35 a C) sz)) 0 0 (va_A (oh_W 35 a C) sz) := by
  refine Met.ofW (cc := cX6_best) (maxL := 4) (ret := (some .int)) (by decide) rfl ?_
  intro p e s m args below meth c s₁ B hml hv
  obtain ⟨rfl, hsz, hP, hK, hD0, hG⟩ := hv
  have hx := B.exec
  have hb := B.bytes
  have hr := B.returns
  have hts := atoms_spec (ws := (oh_w yX6_best cX6_best 4 (some .int))) B.pre
  have htg : ∀ w ∈ oh_t, w.before _ s = true := fun w h => hts w (List.mem_cons_of_mem _ h)
  have hown : s.vm.findClass RX6 = some m.cls := findClass_of_methodNamed B.named
  have hlocks := B.notSynchronized
  have hT0 := hT
  subst hsz
  have hD := hD0.self (sz := s.heap.size)
  generalize hAe : va_A (oh_W 35 a C) s.heap.size = A at hD hG ⊢
  have hA : ∀ q : Nat, s.heap.size ≤ q → A q := fun q h => by rw [← hAe]; exact Or.inr h
  have hS : va_S A s.heap s.heap [] := va_S.rf
  have hF : fr [(7, 10), (24, 28)] [] C C := fr_rf
  have hl := lv_entry ([.ref (a 0), .int x1, .int x2, .int x3]) (n := 4) (Nat.le_of_ble_eq_true rfl)
  rw [lg_entry_eq]
  generalize (lg_sl ([.ref (a 0), .int x1, .int x2, .int x3]) ++ List.replicate (4 - (lg_sl ([.ref (a 0), .int x1, .int x2, .int x3])).length) Slot.unset).toArray = ls at hl ⊢
  have hl : lv_has ls 4 [(0, .ref (a 0)), (1, .int x1), (2, .int x2), (3, .int x3)] := hl
  refine oh_genQ (fun Q hQ => ?_)
  refine lv_iload_n hx hb dX6_best_0 rfl (lv_at hl 1 rfl) ?_
  refine tq_S (As := [.int x1]) (rest := []) (ws := []) ⟨hx, hb, hml, hown, htg⟩ (e_X6_isPlace l D E G x1) (va_cwS 1 htg (oh_gS q_413 q_414 q_66 q_415) rfl rfl rfl pdX6_isPlace ⟨Nat.le_of_ble_eq_true rfl, Nat.le_of_ble_eq_true rfl⟩) hK va_nil hG hS rfl hl.1 rfl (Nat.le_of_ble_eq_true rfl) dX6_best_1 ⟨Nat.le_of_ble_eq_true rfl, Nat.le_of_ble_eq_true rfl⟩ (fun r_1 hq_2 => ?_)
  refine lv_if_eq (tgt := 23) hx hb dX6_best_4 (by decide) (fun (c_3 : r_1 = 0) => ?_) (fun (c_3 : ¬ (r_1 = 0)) => ?_)
  · have u_4 := hq_2.2.2 c_3
    refine lv_aload_n hx hb dX6_best_23 rfl (lv_at hl 0 rfl) ?_
    refine lv_bipush (v := (-2)) hx hb dX6_best_24 (by decide) ?_
    refine tm_V (As := [.int (-2)]) (rest := []) ⟨hx, hb, hml, hown, htg⟩ (c_X6_refuse l D E G _ a C hT ((-2) : Int32)) (cwV 1 htg (oh_gV q_296 q_298 q_0 q_66 q_299) rfl rfl rfl pdVX6_refuse ⟨Nat.le_of_ble_eq_true rfl, Nat.le_of_ble_eq_true rfl⟩) hK hP hD hG hS hA (va_recv hK hP (ci := 6) (q0 := 0) rfl (oh_wg (by decide) (sX_0 hT))) rfl hl.1 rfl (Nat.le_of_ble_eq_true rfl) dX6_best_26 ⟨Nat.le_of_ble_eq_true rfl, Nat.le_of_ble_eq_true rfl⟩ (fun r_5 C_6 H locs hq_7 hP hD hS => ?_)
    obtain ⟨hT, f_8, hq_7⟩ := hq_7
    have hF := fr_tr hF f_8 (by decide) (by decide)
    refine W.widen (k := 0) (n := 0) (Nat.le_refl _) (Nat.le_refl _) ?_
    have t_9 := hT
    rw [hQ]
    exact W.iret (v := r_5) hx hb hr (fun t ht hW => ⟨⟨r_5, C_6, rfl, ⟨hT, hF, (fun A hA hok => Eq.trans hq_7 (pif_neg (fun h8 => u_4 h8.1)).symm)⟩, ⟨by rw [ht]; exact hP, hD⟩⟩, hS.F ht⟩) hS.2.2 dX6_best_29
  · have u_10 := hq_2.2.1 c_3
    refine lv_iload_n hx hb dX6_best_7 rfl (lv_at hl 2 rfl) ?_
    refine tq_S (As := [.int x2]) (rest := []) (ws := []) ⟨hx, hb, hml, hown, htg⟩ (e_X6_isPlace l D E G x2) (va_cwS 1 htg (oh_gS q_413 q_414 q_66 q_415) rfl rfl rfl pdX6_isPlace ⟨Nat.le_of_ble_eq_true rfl, Nat.le_of_ble_eq_true rfl⟩) hK va_nil hG hS rfl hl.1 rfl (Nat.le_of_ble_eq_true rfl) dX6_best_8 ⟨Nat.le_of_ble_eq_true rfl, Nat.le_of_ble_eq_true rfl⟩ (fun r_11 hq_12 => ?_)
    refine lv_if_eq (tgt := 23) hx hb dX6_best_11 (by decide) (fun (c_13 : r_11 = 0) => ?_) (fun (c_13 : ¬ (r_11 = 0)) => ?_)
    · have u_14 := hq_12.2.2 c_13
      refine lv_aload_n hx hb dX6_best_23 rfl (lv_at hl 0 rfl) ?_
      refine lv_bipush (v := (-2)) hx hb dX6_best_24 (by decide) ?_
      refine tm_V (As := [.int (-2)]) (rest := []) ⟨hx, hb, hml, hown, htg⟩ (c_X6_refuse l D E G _ a C hT ((-2) : Int32)) (cwV 1 htg (oh_gV q_296 q_298 q_0 q_66 q_299) rfl rfl rfl pdVX6_refuse ⟨Nat.le_of_ble_eq_true rfl, Nat.le_of_ble_eq_true rfl⟩) hK hP hD hG hS hA (va_recv hK hP (ci := 6) (q0 := 0) rfl (oh_wg (by decide) (sX_0 hT))) rfl hl.1 rfl (Nat.le_of_ble_eq_true rfl) dX6_best_26 ⟨Nat.le_of_ble_eq_true rfl, Nat.le_of_ble_eq_true rfl⟩ (fun r_15 C_16 H locs hq_17 hP hD hS => ?_)
      obtain ⟨hT, f_18, hq_17⟩ := hq_17
      have hF := fr_tr hF f_18 (by decide) (by decide)
      refine W.widen (k := 0) (n := 0) (Nat.le_refl _) (Nat.le_refl _) ?_
      have t_19 := hT
      rw [hQ]
      exact W.iret (v := r_15) hx hb hr (fun t ht hW => ⟨⟨r_15, C_16, rfl, ⟨hT, hF, (fun A hA hok => Eq.trans hq_17 (pif_neg (fun h8 => u_14 h8.2.1)).symm)⟩, ⟨by rw [ht]; exact hP, hD⟩⟩, hS.F ht⟩) hS.2.2 dX6_best_29
    · have u_20 := hq_12.2.1 c_13
      refine lv_iload_n hx hb dX6_best_14 rfl (lv_at hl 3 rfl) ?_
      refine lv_iconst (v := 0) hx hb dX6_best_15 (by decide) ?_
      refine lv_iconst (v := 2) hx hb dX6_best_16 (by decide) ?_
      refine tq_S (As := [.int x3, .int 0, .int 2]) (rest := []) (ws := []) ⟨hx, hb, hml, hown, htg⟩ (c_X6_within l D E G x3 (0 : Int32) (2 : Int32)) (va_cwS 3 htg (oh_gS q_293 q_294 q_66 q_295) rfl rfl rfl pdX6_within ⟨Nat.le_of_ble_eq_true rfl, Nat.le_of_ble_eq_true rfl⟩) hK va_nil hG hS rfl hl.1 rfl (Nat.le_of_ble_eq_true rfl) dX6_best_17 ⟨Nat.le_of_ble_eq_true rfl, Nat.le_of_ble_eq_true rfl⟩ (fun r_21 hq_22 => ?_)
      refine lv_if_ne (tgt := 30) hx hb dX6_best_20 (by decide) (fun (c_23 : ¬ (r_21 = 0)) => ?_) (fun (c_23 : r_21 = 0) => ?_)
      · have u_24 := hq_22.2.1 c_23
        refine lv_aload_n hx hb dX6_best_30 rfl (lv_at hl 0 rfl) ?_
        refine lv_iload_n hx hb dX6_best_31 rfl (lv_at hl 1 rfl) ?_
        refine lv_iload_n hx hb dX6_best_32 rfl (lv_at hl 2 rfl) ?_
        refine tm_Vv (As := [.int x1, .int x2]) (rest := []) ⟨hx, hb, hml, hown, htg⟩ (e_X6_findBest l D E G _ a C hT x1 x2 (rg_w u_10 (by decide)) (rg_w u_20 (by decide))) (cwV 2 htg (oh_gV q_821 q_823 q_22 q_66 q_824) rfl rfl rfl pdVX6_findBest ⟨Nat.le_of_ble_eq_true rfl, Nat.le_of_ble_eq_true rfl⟩) hK hP hD hG hS hA (va_recv hK hP (ci := 6) (q0 := 0) rfl (oh_wg (by decide) (sX_0 hT))) rfl hl.1 rfl (Nat.le_of_ble_eq_true rfl) dX6_best_33 ⟨Nat.le_of_ble_eq_true rfl, Nat.le_of_ble_eq_true rfl⟩ (fun C_26 H locs hq_27 hP hD hS => ?_)
        obtain ⟨hT, f_28, hq_27⟩ := hq_27
        have hF := fr_tr hF f_28 (by decide) (by decide)
        refine W.widen (k := 0) (n := 0) (Nat.le_refl _) (Nat.le_refl _) ?_
        have t_29 := hT
        refine lv_aload_n hx hb dX6_best_36 rfl (lv_at hl 0 rfl) ?_
        refine va_get (D := D) (ci := 6) (v := .ref (a 8)) (C := RX6) (T := TX6) (N := 9) hx hb htg ig_6 hown hK hP 0 (oh_wg (by decide) (sX_0 hT)) rfl 8 (by decide) (htg _ q_266) (fun _ h9 => h9) rfl dX6_best_37 ?_
        refine lv_iconst (v := 2) hx hb dX6_best_40 (by decide) ?_
        refine th_iald hx hb hK hP 8 (by decide) (sX_8 hT) (rg_in (rg_c (v := 2) (lo := 2) (hi := 2) (by decide)) (by decide)) dX6_best_41 ?_
        refine lv_ldc (v := 1000000000) hx hb hown (htg _ q_803) dX6_best_42 ?_
        refine lv_icmp_ne (tgt := 56) hx hb dX6_best_44 (by decide) (fun (c_30 : ¬ ((ga (C_26 8) ((2 : Int32)).toNatClampNeg) = 1000000000)) => ?_) (fun (c_30 : (ga (C_26 8) ((2 : Int32)).toNatClampNeg) = 1000000000) => ?_)
        · refine lv_aload_n hx hb dX6_best_56 rfl (lv_at hl 0 rfl) ?_
          refine va_get (D := D) (ci := 6) (v := .ref (a 8)) (C := RX6) (T := TX6) (N := 9) hx hb htg ig_6 hown hK hP 0 (oh_wg (by decide) (sX_0 hT)) rfl 8 (by decide) (htg _ q_266) (fun _ h9 => h9) rfl dX6_best_57 ?_
          refine lv_iload_n hx hb dX6_best_60 rfl (lv_at hl 3 rfl) ?_
          have n_31 : vp_in x3 3 := (rg_in (rn_leu u_24.2 (rn_lel u_24.1 (rg_c (v := 0) (lo := 0) (hi := 0) (by decide)) (rg_any _)) (rg_c (v := 2) (lo := 2) (hi := 2) (by decide))) (by decide))
          refine th_iald hx hb hK hP 8 (by decide) (sX_8 hT) n_31 dX6_best_61 ?_
          rw [hQ]
          exact W.iret (v := ga (C_26 8) (x3).toNatClampNeg) hx hb hr (fun t ht hW => ⟨⟨ga (C_26 8) (x3).toNatClampNeg, C_26, rfl, ⟨hT, hF, (fun A hA hok => Eq.trans (Eq.trans (bx3 (rg_w (lo := 0) (hi := 2) (rn_leu u_24.2 (rn_lel u_24.1 (rg_c (v := 0) (lo := 0) (hi := 0) (by decide)) (rg_any _)) (rg_c (v := 2) (lo := 2) (hi := 2) (by decide))) (by decide))) (spOb_eq (bs_e2 (hq_27 A hA hok) c_30) bsR_u)) (pif_pos ⟨(oh_rgI (p := 0) (q := 15) (rg_w (lo := 0) (hi := 15) u_10 (by decide))), (oh_rgI (p := 0) (q := 15) (rg_w (lo := 0) (hi := 15) u_20 (by decide))), (oh_rgI (p := 0) (q := 2) (rg_w (lo := 0) (hi := 2) (rn_leu u_24.2 (rn_lel u_24.1 (rg_c (v := 0) (lo := 0) (hi := 0) (by decide)) (rg_any _)) (rg_c (v := 2) (lo := 2) (hi := 2) (by decide))) (by decide)))⟩).symm)⟩, ⟨by rw [ht]; exact hP, hD⟩⟩, hS.F ht⟩) hS.2.2 dX6_best_62
        · refine lv_aload_n hx hb dX6_best_47 rfl (lv_at hl 0 rfl) ?_
          refine lv_bipush (v := (-5)) hx hb dX6_best_48 (by decide) ?_
          refine tm_V (As := [.int (-5)]) (rest := []) ⟨hx, hb, hml, hown, htg⟩ (c_X6_refuse l D E G _ a C_26 hT ((-5) : Int32)) (cwV 1 htg (oh_gV q_296 q_298 q_0 q_66 q_299) rfl rfl rfl pdVX6_refuse ⟨Nat.le_of_ble_eq_true rfl, Nat.le_of_ble_eq_true rfl⟩) hK hP hD hG hS hA (va_recv hK hP (ci := 6) (q0 := 0) rfl (oh_wg (by decide) (sX_0 hT))) rfl hl.1 rfl (Nat.le_of_ble_eq_true rfl) dX6_best_50 ⟨Nat.le_of_ble_eq_true rfl, Nat.le_of_ble_eq_true rfl⟩ (fun r_32 C_33 H locs hq_34 hP hD hS => ?_)
          obtain ⟨hT, f_35, hq_34⟩ := hq_34
          have hF := fr_tr hF f_35 (by decide) (by decide)
          refine W.widen (k := 0) (n := 0) (Nat.le_refl _) (Nat.le_refl _) ?_
          have t_36 := hT
          refine lv_goto (tgt := 62) hx hb dX6_best_53 (by decide) ?_
          rw [hQ]
          exact W.iret (v := r_32) hx hb hr (fun t ht hW => ⟨⟨r_32, C_33, rfl, ⟨hT, hF, (fun A hA hok => Eq.trans (spOb_eq (bs_e1 (hq_27 A hA hok) c_30 hq_34) bsR_u) (pif_pos ⟨(oh_rgI (p := 0) (q := 15) (rg_w (lo := 0) (hi := 15) u_10 (by decide))), (oh_rgI (p := 0) (q := 15) (rg_w (lo := 0) (hi := 15) u_20 (by decide))), (oh_rgI (p := 0) (q := 2) (rg_w (lo := 0) (hi := 2) (rn_leu u_24.2 (rn_lel u_24.1 (rg_c (v := 0) (lo := 0) (hi := 0) (by decide)) (rg_any _)) (rg_c (v := 2) (lo := 2) (hi := 2) (by decide))) (by decide)))⟩).symm)⟩, ⟨by rw [ht]; exact hP, hD⟩⟩, hS.F ht⟩) hS.2.2 dX6_best_62
      · have u_37 := hq_22.2.2 c_23
        refine lv_aload_n hx hb dX6_best_23 rfl (lv_at hl 0 rfl) ?_
        refine lv_bipush (v := (-2)) hx hb dX6_best_24 (by decide) ?_
        refine tm_V (As := [.int (-2)]) (rest := []) ⟨hx, hb, hml, hown, htg⟩ (c_X6_refuse l D E G _ a C hT ((-2) : Int32)) (cwV 1 htg (oh_gV q_296 q_298 q_0 q_66 q_299) rfl rfl rfl pdVX6_refuse ⟨Nat.le_of_ble_eq_true rfl, Nat.le_of_ble_eq_true rfl⟩) hK hP hD hG hS hA (va_recv hK hP (ci := 6) (q0 := 0) rfl (oh_wg (by decide) (sX_0 hT))) rfl hl.1 rfl (Nat.le_of_ble_eq_true rfl) dX6_best_26 ⟨Nat.le_of_ble_eq_true rfl, Nat.le_of_ble_eq_true rfl⟩ (fun r_38 C_39 H locs hq_40 hP hD hS => ?_)
        obtain ⟨hT, f_41, hq_40⟩ := hq_40
        have hF := fr_tr hF f_41 (by decide) (by decide)
        refine W.widen (k := 0) (n := 0) (Nat.le_refl _) (Nat.le_refl _) ?_
        have t_42 := hT
        rw [hQ]
        exact W.iret (v := r_38) hx hb hr (fun t ht hW => ⟨⟨r_38, C_39, rfl, ⟨hT, hF, (fun A hA hok => Eq.trans hq_40 (pif_neg (fun h8 => u_37 h8.2.2)).symm)⟩, ⟨by rw [ht]; exact hP, hD⟩⟩, hS.F ht⟩) hS.2.2 dX6_best_29

def bmI (F : Nat → Int32) (K : Nat) (be le : Int32) : Prop := (be = -1 ∧ bsN F K) ∨ ∃ k0, k0 < 160 ∧ be = 100 * Int32.ofNat (k0 / 32) + Int32.ofNat (k0 % 32) ∧ le = F k0 ∧ bsM F K k0
theorem bm_d : ∀ k : Nat, k < 160 → (100 * Int32.ofNat (k / 32) + Int32.ofNat (k % 32)) / 100 = Int32.ofNat (k / 32) ∧ (100 * Int32.ofNat (k / 32) + Int32.ofNat (k % 32)) - (100 * Int32.ofNat (k / 32) + Int32.ofNat (k % 32)) / 100 * 100 = Int32.ofNat (k % 32) ∧ ¬ 100 * Int32.ofNat (k / 32) + Int32.ofNat (k % 32) = -1 := by decide +kernel
theorem bm_i {F : Nat → Int32} {K : Nat} {be le : Int32} (h : bmI F K be le) : ∃ bw bs bc, bsI F K bw bs bc ∧ (be = -1 → bc = 1000000000) ∧ (¬ be = -1 → bc = le ∧ be = 100 * bw + bs) := by
  rcases h with ⟨h1, h2⟩ | ⟨k0, hk, h1, h2, h3⟩
  · exact ⟨0, 0, 1000000000, Or.inl ⟨rfl, h2⟩, fun _ => rfl, fun z => absurd h1 z⟩
  · exact ⟨_, _, _, Or.inr ⟨k0, hk, rfl, rfl, rfl, h3⟩, fun z => absurd (Eq.trans h1.symm z) (bm_d k0 hk).2.2, fun _ => ⟨h2.symm, h1⟩⟩
theorem im_b {F : Nat → Int32} {K : Nat} {be le bw bs bc : Int32} (I : bsI F K bw bs bc) (h1 : bc = 1000000000 → be = -1) (h2 : ¬ bc = 1000000000 → le = bc ∧ be = 100 * bw + bs) : bmI F K be le := by
  rcases I with ⟨e, n⟩ | ⟨k0, hk, a1, a2, a3, m⟩
  · exact Or.inl ⟨h1 e, n⟩
  · have q : ¬ bc = 1000000000 := fun e => by
      have m2 := m.2.1
      rw [← a3, e, M_i] at m2
      omega
    obtain ⟨b1, b2⟩ := h2 q
    exact Or.inr ⟨k0, hk, by rw [b2, a1, a2], by rw [b1, a3], m⟩
theorem bm_0 {F : Nat → Int32} {le : Int32} : bmI F 0 (-1) le := Or.inl ⟨rfl, fun k hk => absurd hk (Nat.not_lt_zero k)⟩
/-- a pack is taken -/
theorem bmM_y {A : LA} (h : okA A) {f t w s n be le r : Int32} (hl : w < A 5 0 2) (hf : rg f 0 15) (ht : rg t 0 15) (I : bmI (bsF A f t) (32 * w.toNatClampNeg + s.toNatClampNeg) be le) (hw : rg w 0 4) (hs : rg s 0 31) (hn : n = A 5 0 3) (h5 : rg n 0 5) (c : s < ((1 : Int32) <<< (n &&& 31))) (er : r = mcA A w s f t 1) (d : ¬ r = -1) (q : be = -1 ∨ r < le) : bmI (bsF A f t) (32 * w.toNatClampNeg + (s + 1).toNatClampNeg) (100 * w + s) r := by
  have hq : hasW (EcA A w s 1) f.toNatClampNeg t.toNatClampNeg := Classical.byContradiction (fun z => d ((mc_w h hw hl hf ht er).mpr z))
  have e2 : r = lcA A w s f t 1 := by
    rw [er]
    exact Eq.trans (pif_pos hq) (pif_pos hq).symm
  have hr : ¬ r = 1000000000 := fun z => (lc_w h hw hl hf ht e2).mp z hq
  have hr2 := (lc_r h hw hl hf ht (s := s)).2
  rw [← e2] at hr2
  obtain ⟨bw, bs, bc, I2, k1, k2⟩ := bm_i I
  have hlt : r < bc := by
    rcases q with q | q
    · rw [k1 q]
      refine Int32.lt_iff_toInt_lt.mpr ?_
      rw [M_i]
      have : ¬ r.toInt = 1000000000 := fun z => hr (Int32.toInt_inj.mp z)
      omega
    · by_cases z : be = -1
      · rw [k1 z]
        refine Int32.lt_iff_toInt_lt.mpr ?_
        rw [M_i]
        have : ¬ r.toInt = 1000000000 := fun z => hr (Int32.toInt_inj.mp z)
        omega
      · rw [(k2 z).1]
        exact q
  exact im_b (bsX_y h hl hf ht I2 hw hs hn h5 c e2 hlt) (fun z => absurd z hr) (fun _ => ⟨rfl, rfl⟩)
/-- a pack is left -/
theorem bmM_n {A : LA} (h : okA A) {f t w s n be le r : Int32} (hl : w < A 5 0 2) (hf : rg f 0 15) (ht : rg t 0 15) (I : bmI (bsF A f t) (32 * w.toNatClampNeg + s.toNatClampNeg) be le) (hw : rg w 0 4) (hs : rg s 0 31) (hn : n = A 5 0 3) (h5 : rg n 0 5) (c : s < ((1 : Int32) <<< (n &&& 31))) (er : r = mcA A w s f t 1) (d : r = -1 ∨ (¬ be = -1 ∧ le ≤ r)) : bmI (bsF A f t) (32 * w.toNatClampNeg + (s + 1).toNatClampNeg) be le := by
  obtain ⟨bw, bs, bc, I2, k1, k2⟩ := bm_i I
  have hc := bsI_c I2
  have hd : ¬ (lcA A w s f t 1).toInt < bc.toInt := by
    by_cases z : r = -1
    · rw [show lcA A w s f t 1 = 1000000000 from pif_neg ((mc_w h hw hl hf ht er).mp z), M_i]
      omega
    · rcases d with d | ⟨d1, d2⟩
      · exact absurd d z
      · have hq : hasW (EcA A w s 1) f.toNatClampNeg t.toNatClampNeg := Classical.byContradiction (fun y => z ((mc_w h hw hl hf ht er).mpr y))
        have e2 : lcA A w s f t 1 = r := by
          rw [er]
          exact Eq.trans (pif_pos hq) (pif_pos hq).symm
        rw [e2, (k2 d1).1]
        have := Int32.le_iff_toInt_le.mp d2
        omega
  refine im_b (bsX_n h hl hf ht I2 hw hs hn h5 c hd) (fun z => ?_) (fun z => ?_)
  · refine Classical.byContradiction (fun y => ?_)
    have := (k2 y).1
    rcases I with ⟨i1, _⟩ | ⟨k0, _, _, i1, i2⟩
    · exact y i1
    · have m := i2.2.1
      rw [← i1, ← (k2 y).1, z, M_i] at m
      omega
  · have y : ¬ be = -1 := fun y => z (k1 y)
    exact ⟨(k2 y).1.symm, (k2 y).2⟩
theorem bmM_w {A : LA} {f t w s n be le : Int32} (I : bmI (bsF A f t) (32 * w.toNatClampNeg + s.toNatClampNeg) be le) (hw : rg w 0 4) (hs : rg s 0 32) (hn : n = A 5 0 3) (h5 : rg n 0 5) (c : ((1 : Int32) <<< (n &&& 31)) ≤ s) : bmI (bsF A f t) (32 * (w + 1).toNatClampNeg) be le := by
  obtain ⟨bw, bs, bc, I2, k1, k2⟩ := bm_i I
  refine im_b (bsX_w I2 hw hs hn h5 c) (fun z => ?_) (fun z => ?_)
  · refine Classical.byContradiction (fun y => ?_)
    rcases I with ⟨i1, _⟩ | ⟨k0, _, _, i1, i2⟩
    · exact y i1
    · have m := i2.2.1
      rw [← i1, ← (k2 y).1, z, M_i] at m
      omega
  · have y : ¬ be = -1 := fun y => z (k1 y)
    exact ⟨(k2 y).1.symm, (k2 y).2⟩
theorem bm_e1 {F : Nat → Int32} {K : Nat} {be le x r : Int32} (h : bmI F K be le) (e : be = -1) (er : r = -5) : bsR F K x r := by
  rcases h with ⟨_, h2⟩ | ⟨k0, hk, h1, _, _⟩
  · exact Or.inl ⟨er, h2⟩
  · exact absurd (Eq.trans h1.symm e) (bm_d k0 hk).2.2
theorem bm_e2 {F : Nat → Int32} {K : Nat} {be le x r : Int32} (h : bmI F K be le) (e : ¬ be = -1) (er : r = pif (x = 0) (be / 100) (pif (x = 1) (be - be / 100 * 100) le)) : bsR F K x r := by
  rcases h with ⟨h1, _⟩ | ⟨k0, hk, h1, h2, h3⟩
  · exact absurd h1 e
  · obtain ⟨d1, d2, _⟩ := bm_d k0 hk
    refine Or.inr ⟨k0, h3, ?_⟩
    rw [er, h1, h2, d2, d1]

set_option maxHeartbeats 4000000 in
set_option maxRecDepth 100000 in
theorem e_X7_best (l : Launch) (D : va_G) (E : Nat → ClassId) (G : Nat → Nat) (sz : Nat) (a : Nat → Nat) (C : Nat → va_E) (n : Nat) (hn : 74 ≤ n) (hT : TyM a E C) (x1 : Int32) (x2 : Int32) (x3 : Int32) (hR : RelM C) : Met l yX7_best (oh_w yX7_best cX7_best 9 (some .int)) ({ frames := 7, cells := 0, slots := 0, locals := 177 }) (oh_Pm D E G [.ref (a 0), .int x1, .int x2, .int x3] (oh_W n a C) sz) (va_Qi (fun r (u : Nat → va_E) => TyM a E u ∧ fr [(8, 9), (15, 16)] [] C u ∧ (RelM u) ∧ (∀ A : LA, absM C A → okA A → r = spBest A x1 x2 x3)) (oh_B D (va_A (oh_W n a C) sz) (fun u => oh_W n a u)) (va_A (oh_W n a C) sz)) 0 0 (va_A (oh_W n a C) sz) := by
  refine Met.ofW (cc := cX7_best) (maxL := 9) (ret := (some .int)) (by decide) rfl ?_
  intro p e s m args below meth c s₁ B hml hv
  obtain ⟨rfl, hsz, hP, hK, hD0, hG⟩ := hv
  have hx := B.exec
  have hb := B.bytes
  have hr := B.returns
  have hts := atoms_spec (ws := (oh_w yX7_best cX7_best 9 (some .int))) B.pre
  have htg : ∀ w ∈ oh_t, w.before _ s = true := fun w h => hts w (List.mem_cons_of_mem _ h)
  have hown : s.vm.findClass RX7 = some m.cls := findClass_of_methodNamed B.named
  have hlocks := B.notSynchronized
  have hT0 := hT
  subst hsz
  have hD := hD0.self (sz := s.heap.size)
  generalize hAe : va_A (oh_W n a C) s.heap.size = A at hD hG ⊢
  have hA : ∀ q : Nat, s.heap.size ≤ q → A q := fun q h => by rw [← hAe]; exact Or.inr h
  have hS : va_S A s.heap s.heap [] := va_S.rf
  have hF : fr [(8, 9), (15, 16)] [] C C := fr_rf
  have hl := lv_entry ([.ref (a 0), .int x1, .int x2, .int x3]) (n := 9) (Nat.le_of_ble_eq_true rfl)
  rw [lg_entry_eq]
  generalize (lg_sl ([.ref (a 0), .int x1, .int x2, .int x3]) ++ List.replicate (9 - (lg_sl ([.ref (a 0), .int x1, .int x2, .int x3])).length) Slot.unset).toArray = ls at hl ⊢
  have hl : lv_has ls 9 [(0, .ref (a 0)), (1, .int x1), (2, .int x2), (3, .int x3)] := hl
  refine oh_genQ (fun Q hQ => ?_)
  refine lv_iload_n hx hb dX7_best_0 rfl (lv_at hl 1 rfl) ?_
  refine tq_S (As := [.int x1]) (rest := []) (ws := []) ⟨hx, hb, hml, hown, htg⟩ (e_X7_isPlace l D E G x1) (va_cwS 1 htg (oh_gS q_1130 q_1131 q_73 q_1132) rfl rfl rfl pdX7_isPlace ⟨Nat.le_of_ble_eq_true rfl, Nat.le_of_ble_eq_true rfl⟩) hK va_nil hG hS rfl hl.1 rfl (Nat.le_of_ble_eq_true rfl) dX7_best_1 ⟨Nat.le_of_ble_eq_true rfl, Nat.le_of_ble_eq_true rfl⟩ (fun r_1 hq_2 => ?_)
  refine lv_if_eq (tgt := 26) hx hb dX7_best_4 (by decide) (fun (c_3 : r_1 = 0) => ?_) (fun (c_3 : ¬ (r_1 = 0)) => ?_)
  · have u_4 := hq_2.2.2 c_3
    refine lv_aload_n hx hb dX7_best_26 rfl (lv_at hl 0 rfl) ?_
    refine lv_bipush (v := (-2)) hx hb dX7_best_27 (by decide) ?_
    refine tm_V (As := [.int (-2)]) (rest := []) ⟨hx, hb, hml, hown, htg⟩ (c_X7_refuse l D E G _ a C n hn hT ((-2) : Int32) (rg_w (rg_c (v := (-2)) (lo := (-2)) (hi := (-2)) (by decide)) (by decide))) (cwV 1 htg (oh_gV q_1071 q_1073 q_29 q_73 q_1074) rfl rfl rfl pdVX7_refuse ⟨Nat.le_of_ble_eq_true rfl, Nat.le_of_ble_eq_true rfl⟩) hK hP hD hG hS hA (va_recv hK hP (ci := 7) (q0 := 0) rfl (oh_wg (Nat.lt_of_lt_of_le (by decide) hn) (sM_0 hT))) rfl hl.1 rfl (Nat.le_of_ble_eq_true rfl) dX7_best_29 ⟨Nat.le_of_ble_eq_true rfl, Nat.le_of_ble_eq_true rfl⟩ (fun r_5 C_6 H locs hq_7 hP hD hS => ?_)
    obtain ⟨hT, f_8, hq_7⟩ := hq_7
    have hF := fr_tr hF f_8 (by decide) (by decide)
    refine W.widen (k := 0) (n := 0) (Nat.le_refl _) (Nat.le_refl _) ?_
    have t_9 := hT
    rw [hQ]
    exact W.iret (v := r_5) hx hb hr (fun t ht hW => ⟨⟨r_5, C_6, rfl, ⟨hT, hF, ⟨⟨hR.1.fr hF (by decide), hR.2.fr hF (by decide)⟩, (fun A hA hok => Eq.trans hq_7 (pif_neg (fun h8 => u_4 h8.1)).symm)⟩⟩, ⟨by rw [ht]; exact hP, hD⟩⟩, hS.F ht⟩) hS.2.2 dX7_best_32
  · have u_10 := hq_2.2.1 c_3
    refine lv_iload_n hx hb dX7_best_7 rfl (lv_at hl 2 rfl) ?_
    refine tq_S (As := [.int x2]) (rest := []) (ws := []) ⟨hx, hb, hml, hown, htg⟩ (e_X7_isPlace l D E G x2) (va_cwS 1 htg (oh_gS q_1130 q_1131 q_73 q_1132) rfl rfl rfl pdX7_isPlace ⟨Nat.le_of_ble_eq_true rfl, Nat.le_of_ble_eq_true rfl⟩) hK va_nil hG hS rfl hl.1 rfl (Nat.le_of_ble_eq_true rfl) dX7_best_8 ⟨Nat.le_of_ble_eq_true rfl, Nat.le_of_ble_eq_true rfl⟩ (fun r_11 hq_12 => ?_)
    refine lv_if_eq (tgt := 26) hx hb dX7_best_11 (by decide) (fun (c_13 : r_11 = 0) => ?_) (fun (c_13 : ¬ (r_11 = 0)) => ?_)
    · have u_14 := hq_12.2.2 c_13
      refine lv_aload_n hx hb dX7_best_26 rfl (lv_at hl 0 rfl) ?_
      refine lv_bipush (v := (-2)) hx hb dX7_best_27 (by decide) ?_
      refine tm_V (As := [.int (-2)]) (rest := []) ⟨hx, hb, hml, hown, htg⟩ (c_X7_refuse l D E G _ a C n hn hT ((-2) : Int32) (rg_w (rg_c (v := (-2)) (lo := (-2)) (hi := (-2)) (by decide)) (by decide))) (cwV 1 htg (oh_gV q_1071 q_1073 q_29 q_73 q_1074) rfl rfl rfl pdVX7_refuse ⟨Nat.le_of_ble_eq_true rfl, Nat.le_of_ble_eq_true rfl⟩) hK hP hD hG hS hA (va_recv hK hP (ci := 7) (q0 := 0) rfl (oh_wg (Nat.lt_of_lt_of_le (by decide) hn) (sM_0 hT))) rfl hl.1 rfl (Nat.le_of_ble_eq_true rfl) dX7_best_29 ⟨Nat.le_of_ble_eq_true rfl, Nat.le_of_ble_eq_true rfl⟩ (fun r_15 C_16 H locs hq_17 hP hD hS => ?_)
      obtain ⟨hT, f_18, hq_17⟩ := hq_17
      have hF := fr_tr hF f_18 (by decide) (by decide)
      refine W.widen (k := 0) (n := 0) (Nat.le_refl _) (Nat.le_refl _) ?_
      have t_19 := hT
      rw [hQ]
      exact W.iret (v := r_15) hx hb hr (fun t ht hW => ⟨⟨r_15, C_16, rfl, ⟨hT, hF, ⟨⟨hR.1.fr hF (by decide), hR.2.fr hF (by decide)⟩, (fun A hA hok => Eq.trans hq_17 (pif_neg (fun h8 => u_14 h8.2.1)).symm)⟩⟩, ⟨by rw [ht]; exact hP, hD⟩⟩, hS.F ht⟩) hS.2.2 dX7_best_32
    · have u_20 := hq_12.2.1 c_13
      refine lv_iload_n hx hb dX7_best_14 rfl (lv_at hl 3 rfl) ?_
      refine lv_i2l (v := Int32.toInt64 x3) hx hb dX7_best_15 (by rfl) ?_
      refine lv_lconst (v := 0) hx hb dX7_best_16 (by decide) ?_
      refine lv_ldc2 (v := 2) hx hb hown (htg _ q_1162) dX7_best_17 ?_
      refine tq_S (As := [.long (Int32.toInt64 x3), .long 0, .long 2]) (rest := []) (ws := []) ⟨hx, hb, hml, hown, htg⟩ (c_X7_in l D E G (Int32.toInt64 x3) (0 : Int64) (2 : Int64)) (va_cwS 3 htg (oh_gS q_1066 q_1067 q_73 q_1068) rfl rfl rfl pdX7_in ⟨Nat.le_of_ble_eq_true rfl, Nat.le_of_ble_eq_true rfl⟩) hK va_nil hG hS rfl hl.1 rfl (Nat.le_of_ble_eq_true rfl) dX7_best_20 ⟨Nat.le_of_ble_eq_true rfl, Nat.le_of_ble_eq_true rfl⟩ (fun r_21 hq_22 => ?_)
      refine lv_if_ne (tgt := 33) hx hb dX7_best_23 (by decide) (fun (c_23 : ¬ (r_21 = 0)) => ?_) (fun (c_23 : r_21 = 0) => ?_)
      · have u_24 := hq_22.2.1 c_23
        refine lv_iconst (v := (-1)) hx hb dX7_best_33 (by decide) ?_
        refine lv_istore (lv' := [(4, .int (-1)), (0, .ref (a 0)), (1, .int x1), (2, .int x2), (3, .int x3)]) hx hb dX7_best_34 hl (by decide) rfl (fun ls hl => ?_)
        refine lv_iconst (v := 0) hx hb dX7_best_36 (by decide) ?_
        refine lv_istore (lv' := [(5, .int 0), (4, .int (-1)), (0, .ref (a 0)), (1, .int x1), (2, .int x2), (3, .int x3)]) hx hb dX7_best_37 hl (by decide) rfl (fun ls hl => ?_)
        refine lv_iconst (v := 0) hx hb dX7_best_39 (by decide) ?_
        refine lv_istore (lv' := [(6, .int 0), (5, .int 0), (4, .int (-1)), (0, .ref (a 0)), (1, .int x1), (2, .int x2), (3, .int x3)]) hx hb dX7_best_40 hl (by decide) rfl (fun ls hl => ?_)
        have L_42 : ∀ (d : Nat) (K42 : Nat → va_E) (z42_6 : Int32) (z42_5 : Int32) (z42_4 : Int32) (H : Heap) (locs : List Loc) (ls : Array Slot), (5 - z42_6.toInt).toNat = d → rg z42_6 0 5 → (∀ A : LA, absM C A → okA A → bmI (bsF A x1 x2) (32 * z42_6.toNatClampNeg) z42_4 z42_5) → (z42_6.toInt ≤ (gi (C 0) 13).toInt) → TyM a E K42 → fr [(8, 9), (15, 16)] [] C K42 → fr [(15, 16)] [] C K42 → va_P D vwCl (oh_W n a K42) H → va_D A (oh_W n a K42) → va_S A s.heap H locs → lv_has ls 9 [(6, .int z42_6), (5, .int z42_5), (4, .int z42_4), (0, .ref (a 0)), (1, .int x1), (2, .int x2), (3, .int x3)] → W p l e ({ frames := 7, cells := 0, slots := 0, locals := 177 }) s m (([.ref (a 0), .int x1, .int x2, .int x3] : List Value).toArray) below meth c H locs 0 0 Q (F0 m 42 ls []) := by
          intro d
          induction d using Nat.strongRecOn with
          | ind d ih_42 =>
          intro K42 z42_6 z42_5 z42_4 H locs ls hd_42 hz42_6 hv_42 hy_42 hT hF hLF_42 hP hD hS hl
          have t_25 := hT
          refine lv_iload hx hb dX7_best_42 (lv_at hl 0 rfl) ?_
          refine lv_aload_n hx hb dX7_best_44 rfl (lv_at hl 3 rfl) ?_
          refine va_get (D := D) (ci := 7) (v := .int (gi (C 0) 13)) (C := RX7) (T := TX7) (N := 29) hx hb htg ig_7 hown hK hP 0 (oh_wg (Nat.lt_of_lt_of_le (by decide) hn) (sM_0 hT)) rfl 13 (by decide) (htg _ q_986) (fun _ h9 => h9) (oh_fv (c := K42 0) (j := 13) rfl (congrArg vi (hLF_42.2 13 (by decide)))) dX7_best_45 ?_
          refine lv_icmp_ge (tgt := 123) hx hb dX7_best_48 (by decide) (fun (c_26 : (gi (C 0) 13) ≤ z42_6) => ?_) (fun (c_26 : ¬ ((gi (C 0) 13) ≤ z42_6)) => ?_)
          · refine lv_iload hx hb dX7_best_123 (lv_at hl 2 rfl) ?_
            refine lv_iconst (v := (-1)) hx hb dX7_best_125 (by decide) ?_
            refine lv_icmp_ne (tgt := 136) hx hb dX7_best_126 (by decide) (fun (c_27 : ¬ (z42_4 = (-1))) => ?_) (fun (c_27 : z42_4 = (-1)) => ?_)
            · refine lv_iload_n hx hb dX7_best_136 rfl (lv_at hl 6 rfl) ?_
              refine lv_if_ne (tgt := 148) hx hb dX7_best_137 (by decide) (fun (c_28 : ¬ (x3 = 0)) => ?_) (fun (c_28 : x3 = 0) => ?_)
              · refine lv_iload_n hx hb dX7_best_148 rfl (lv_at hl 6 rfl) ?_
                refine lv_iconst (v := 1) hx hb dX7_best_149 (by decide) ?_
                refine lv_icmp_ne (tgt := 161) hx hb dX7_best_150 (by decide) (fun (c_29 : ¬ (x3 = 1)) => ?_) (fun (c_29 : x3 = 1) => ?_)
                · refine lv_iload hx hb dX7_best_161 (lv_at hl 1 rfl) ?_
                  rw [hQ]
                  exact W.iret (v := z42_5) hx hb hr (fun t ht hW => ⟨⟨z42_5, K42, rfl, ⟨hT, hF, ⟨⟨hR.1.fr hF (by decide), hR.2.fr hF (by decide)⟩, (fun A hA hok => by have h7 := hv_42 A hA hok; rw [show z42_6 = A 5 0 2 from Eq.trans (show z42_6 = gi (C 0) 13 from Int32.toInt_inj.mp (by have h8 := Int32.le_iff_toInt_le.mp c_26; have h9 := hy_42; omega)) (show gi (C 0) 13 = A 5 0 2 from hA.1 2 (by decide))] at h7; exact Eq.trans (spOb_eq (bm_e2 h7 c_27 ((Eq.trans (pif_neg c_28) (pif_neg c_29)).symm)) bsR_u) (pif_pos ⟨(oh_rgI (p := 0) (q := 15) (rg_w (lo := 0) (hi := 15) u_10 (by decide))), (oh_rgI (p := 0) (q := 15) (rg_w (lo := 0) (hi := 15) u_20 (by decide))), (oh_rgI (p := 0) (q := 2) (rg_w (lo := 0) (hi := 2) (rg_il (rgL_i (rg_il (rnL_leu u_24.2 (rnL_lel u_24.1 (rgL_c (v := 0) (lo := 0) (hi := 0) (by decide)) (rgL_i (rg_any _))) (rgL_c (v := 2) (lo := 2) (hi := 2) (by decide)))))) (by decide)))⟩).symm)⟩⟩, ⟨by rw [ht]; exact hP, hD⟩⟩, hS.F ht⟩) hS.2.2 dX7_best_163
                · refine lv_iload hx hb dX7_best_153 (lv_at hl 2 rfl) ?_
                  refine lv_bipush (v := 100) hx hb dX7_best_155 (by decide) ?_
                  refine lv_irem hx hb dX7_best_157 (by decide) ?_
                  refine lv_goto (tgt := 163) hx hb dX7_best_158 (by decide) ?_
                  rw [hQ]
                  exact W.iret (v := z42_4 - z42_4 / 100 * 100) hx hb hr (fun t ht hW => ⟨⟨z42_4 - z42_4 / 100 * 100, K42, rfl, ⟨hT, hF, ⟨⟨hR.1.fr hF (by decide), hR.2.fr hF (by decide)⟩, (fun A hA hok => by have h7 := hv_42 A hA hok; rw [show z42_6 = A 5 0 2 from Eq.trans (show z42_6 = gi (C 0) 13 from Int32.toInt_inj.mp (by have h8 := Int32.le_iff_toInt_le.mp c_26; have h9 := hy_42; omega)) (show gi (C 0) 13 = A 5 0 2 from hA.1 2 (by decide))] at h7; exact Eq.trans (spOb_eq (bm_e2 h7 c_27 ((Eq.trans (pif_neg c_28) (pif_pos c_29)).symm)) bsR_u) (pif_pos ⟨(oh_rgI (p := 0) (q := 15) (rg_w (lo := 0) (hi := 15) u_10 (by decide))), (oh_rgI (p := 0) (q := 15) (rg_w (lo := 0) (hi := 15) u_20 (by decide))), (oh_rgI (p := 0) (q := 2) (rg_w (lo := 0) (hi := 2) (rn_eq c_29 (rg_c (v := 1) (lo := 1) (hi := 1) (by decide))) (by decide)))⟩).symm)⟩⟩, ⟨by rw [ht]; exact hP, hD⟩⟩, hS.F ht⟩) hS.2.2 dX7_best_163
              · refine lv_iload hx hb dX7_best_140 (lv_at hl 2 rfl) ?_
                refine lv_bipush (v := 100) hx hb dX7_best_142 (by decide) ?_
                refine lv_idiv hx hb dX7_best_144 (by decide) ?_
                refine lv_goto (tgt := 163) hx hb dX7_best_145 (by decide) ?_
                rw [hQ]
                exact W.iret (v := z42_4 / 100) hx hb hr (fun t ht hW => ⟨⟨z42_4 / 100, K42, rfl, ⟨hT, hF, ⟨⟨hR.1.fr hF (by decide), hR.2.fr hF (by decide)⟩, (fun A hA hok => by have h7 := hv_42 A hA hok; rw [show z42_6 = A 5 0 2 from Eq.trans (show z42_6 = gi (C 0) 13 from Int32.toInt_inj.mp (by have h8 := Int32.le_iff_toInt_le.mp c_26; have h9 := hy_42; omega)) (show gi (C 0) 13 = A 5 0 2 from hA.1 2 (by decide))] at h7; exact Eq.trans (spOb_eq (bm_e2 h7 c_27 ((pif_pos c_28).symm)) bsR_u) (pif_pos ⟨(oh_rgI (p := 0) (q := 15) (rg_w (lo := 0) (hi := 15) u_10 (by decide))), (oh_rgI (p := 0) (q := 15) (rg_w (lo := 0) (hi := 15) u_20 (by decide))), (oh_rgI (p := 0) (q := 2) (rg_w (lo := 0) (hi := 2) (rn_eq c_28 (rg_c (v := 0) (lo := 0) (hi := 0) (by decide))) (by decide)))⟩).symm)⟩⟩, ⟨by rw [ht]; exact hP, hD⟩⟩, hS.F ht⟩) hS.2.2 dX7_best_163
            · refine lv_aload_n hx hb dX7_best_129 rfl (lv_at hl 3 rfl) ?_
              refine lv_bipush (v := (-5)) hx hb dX7_best_130 (by decide) ?_
              refine tm_V (As := [.int (-5)]) (rest := []) ⟨hx, hb, hml, hown, htg⟩ (c_X7_refuse l D E G _ a K42 n hn hT ((-5) : Int32) (rg_w (rg_c (v := (-5)) (lo := (-5)) (hi := (-5)) (by decide)) (by decide))) (cwV 1 htg (oh_gV q_1071 q_1073 q_29 q_73 q_1074) rfl rfl rfl pdVX7_refuse ⟨Nat.le_of_ble_eq_true rfl, Nat.le_of_ble_eq_true rfl⟩) hK hP hD hG hS hA (va_recv hK hP (ci := 7) (q0 := 0) rfl (oh_wg (Nat.lt_of_lt_of_le (by decide) hn) (sM_0 hT))) rfl hl.1 rfl (Nat.le_of_ble_eq_true rfl) dX7_best_132 ⟨Nat.le_of_ble_eq_true rfl, Nat.le_of_ble_eq_true rfl⟩ (fun r_30 C_31 H locs hq_32 hP hD hS => ?_)
              obtain ⟨hT, f_33, hq_32⟩ := hq_32
              have hF := fr_tr hF f_33 (by decide) (by decide)
              refine W.widen (k := 0) (n := 0) (Nat.le_refl _) (Nat.le_refl _) ?_
              have t_34 := hT
              rw [hQ]
              exact W.iret (v := r_30) hx hb hr (fun t ht hW => ⟨⟨r_30, C_31, rfl, ⟨hT, hF, ⟨⟨hR.1.fr hF (by decide), hR.2.fr hF (by decide)⟩, (fun A hA hok => by have h7 := hv_42 A hA hok; rw [show z42_6 = A 5 0 2 from Eq.trans (show z42_6 = gi (C 0) 13 from Int32.toInt_inj.mp (by have h8 := Int32.le_iff_toInt_le.mp c_26; have h9 := hy_42; omega)) (show gi (C 0) 13 = A 5 0 2 from hA.1 2 (by decide))] at h7; exact Eq.trans (spOb_eq (bm_e1 h7 c_27 hq_32) bsR_u) (pif_pos ⟨(oh_rgI (p := 0) (q := 15) (rg_w (lo := 0) (hi := 15) u_10 (by decide))), (oh_rgI (p := 0) (q := 15) (rg_w (lo := 0) (hi := 15) u_20 (by decide))), (oh_rgI (p := 0) (q := 2) (rg_w (lo := 0) (hi := 2) (rg_il (rgL_i (rg_il (rnL_leu u_24.2 (rnL_lel u_24.1 (rgL_c (v := 0) (lo := 0) (hi := 0) (by decide)) (rgL_i (rg_any _))) (rgL_c (v := 2) (lo := 2) (hi := 2) (by decide)))))) (by decide)))⟩).symm)⟩⟩, ⟨by rw [ht]; exact hP, hD⟩⟩, hS.F ht⟩) hS.2.2 dX7_best_135
          · refine lv_iconst (v := 0) hx hb dX7_best_51 (by decide) ?_
            refine lv_istore (lv' := [(7, .int 0), (6, .int z42_6), (5, .int z42_5), (4, .int z42_4), (0, .ref (a 0)), (1, .int x1), (2, .int x2), (3, .int x3)]) hx hb dX7_best_52 hl (by decide) rfl (fun ls hl => ?_)
            have L_54 : ∀ (d : Nat) (K54 : Nat → va_E) (z54_7 : Int32) (z54_5 : Int32) (z54_4 : Int32) (H : Heap) (locs : List Loc) (ls : Array Slot), (32 - z54_7.toInt).toNat = d → rg z54_7 0 32 → (∀ A : LA, absM C A → okA A → bmI (bsF A x1 x2) (32 * z42_6.toNatClampNeg + z54_7.toNatClampNeg) z54_4 z54_5) → TyM a E K54 → fr [(8, 9), (15, 16)] [] C K54 → fr [(15, 16)] [] K42 K54 → va_P D vwCl (oh_W n a K54) H → va_D A (oh_W n a K54) → va_S A s.heap H locs → lv_has ls 9 [(7, .int z54_7), (6, .int z42_6), (5, .int z54_5), (4, .int z54_4), (0, .ref (a 0)), (1, .int x1), (2, .int x2), (3, .int x3)] → W p l e ({ frames := 7, cells := 0, slots := 0, locals := 177 }) s m (([.ref (a 0), .int x1, .int x2, .int x3] : List Value).toArray) below meth c H locs 0 0 Q (F0 m 54 ls []) := by
              intro d
              induction d using Nat.strongRecOn with
              | ind d ih_54 =>
              intro K54 z54_7 z54_5 z54_4 H locs ls hd_54 hz54_7 hw_54 hT hF hLF_54 hP hD hS hl
              have t_35 := hT
              refine lv_iload hx hb dX7_best_54 (lv_at hl 0 rfl) ?_
              refine lv_iconst (v := 1) hx hb dX7_best_56 (by decide) ?_
              refine lv_aload_n hx hb dX7_best_57 rfl (lv_at hl 4 rfl) ?_
              refine va_get (D := D) (ci := 7) (v := .int (gi (C 0) 15)) (C := RX7) (T := TX7) (N := 29) hx hb htg ig_7 hown hK hP 0 (oh_wg (Nat.lt_of_lt_of_le (by decide) hn) (sM_0 hT)) rfl 15 (by decide) (htg _ q_988) (fun _ h9 => h9) (oh_fv (c := K54 0) (j := 15) rfl (Eq.trans (congrArg vi (hLF_54.2 15 (by decide))) (congrArg vi (hLF_42.2 15 (by decide))))) dX7_best_58 ?_
              refine lv_ishl hx hb dX7_best_61 ?_
              refine lv_icmp_ge (tgt := 117) hx hb dX7_best_62 (by decide) (fun (c_36 : ((1 : Int32) <<< ((gi (C 0) 15) &&& 31)) ≤ z54_7) => ?_) (fun (c_36 : ¬ (((1 : Int32) <<< ((gi (C 0) 15) &&& 31)) ≤ z54_7)) => ?_)
              · refine lv_iinc (v := z42_6 + 1) (lv' := [(6, .int (z42_6 + 1)), (7, .int z54_7), (5, .int z54_5), (4, .int z54_4), (0, .ref (a 0)), (1, .int x1), (2, .int x2), (3, .int x3)]) hx hb dX7_best_117 hl (k := 1) rfl (by rfl) (by decide) rfl (fun ls hl => ?_)
                refine lv_goto (tgt := 42) hx hb dX7_best_120 (by decide) ?_
                exact ih_42 _ (hd_42 ▸ mu_up 5 (rn_ltu (u' := 4) (Int32.not_le.mp c_26) hz42_6 (fM_0_13 hT0) (by decide)) (by decide)) K54 (z42_6 + 1) z54_5 z54_4 _ _ ls rfl (rg_w (rg_add (lo := 1) (hi := 5) (rn_ltu (u' := 4) (Int32.not_le.mp c_26) hz42_6 (fM_0_13 hT0) (by decide)) (rg_c (v := 1) (lo := 1) (hi := 1) (by decide)) (by decide)) (by decide)) (fun A hA hok => bmM_w (hw_54 A hA hok) (rg_w (lo := 0) (hi := 4) (rn_ltu (u' := 4) (Int32.not_le.mp c_26) hz42_6 (fM_0_13 hT0) (by decide)) (by decide)) (rg_w (lo := 0) (hi := 32) (rn_lel c_36 (rg_shl1 (fM_0_15 hT0)) hz54_7) (by decide)) (show gi (C 0) 15 = A 5 0 3 from hA.1 3 (by decide)) (rg_w (lo := 0) (hi := 5) (fM_0_15 hT0) (by decide)) c_36) (by have h7 := Int32.lt_iff_toInt_lt.mp (Int32.not_le.mp c_26); have h8 : (z42_6 + 1).toInt = z42_6.toInt + 1 := oh_incr (rn_ltu (u' := 4) (Int32.not_le.mp c_26) hz42_6 (fM_0_13 hT0) (by decide)) (by decide); omega) hT hF (fr_tr hLF_42 hLF_54 (by decide) (by decide)) hP hD hS (lv_sub hl [0, 2, 3, 4, 5, 6, 7] rfl)
              · refine lv_aload_n hx hb dX7_best_65 rfl (lv_at hl 4 rfl) ?_
                refine lv_iload hx hb dX7_best_66 (lv_at hl 1 rfl) ?_
                refine lv_iload hx hb dX7_best_68 (lv_at hl 0 rfl) ?_
                refine lv_iload_n hx hb dX7_best_70 rfl (lv_at hl 5 rfl) ?_
                refine lv_iload_n hx hb dX7_best_71 rfl (lv_at hl 6 rfl) ?_
                refine lv_iconst (v := 1) hx hb dX7_best_72 (by decide) ?_
                refine tm_V (As := [.int z42_6, .int z54_7, .int x1, .int x2, .int 1]) (rest := []) ⟨hx, hb, hml, hown, htg⟩ (e_X7_cheapestOf l D E G _ a K54 n hn hT z42_6 z54_7 x1 x2 (1 : Int32) (rg_w (rn_ltu (u' := 4) (Int32.not_le.mp c_26) hz42_6 (fM_0_13 hT0) (by decide)) (by decide)) (rg_w u_10 (by decide)) (rg_w u_20 (by decide)) (oh_posU (rg_w (rn_ltu (u' := 4) (Int32.not_le.mp c_26) hz42_6 (fM_0_13 hT0) (by decide)) (by decide)) (fun i hi => hLF_54.1 _ (inR_out hi (by decide)) (by omega)) (oh_posU (rg_w (rn_ltu (u' := 4) (Int32.not_le.mp c_26) hz42_6 (fM_0_13 hT0) (by decide)) (by decide)) (fun i hi => hLF_42.1 _ (inR_out hi (by decide)) (by omega)) (oh_posw hR.1 (rg_w (rn_ltu (u' := 4) (Int32.not_le.mp c_26) hz42_6 (fM_0_13 hT0) (by decide)) (by decide)) (Int32.not_le.mp c_26))))) (cwV 5 htg (oh_gV q_1347 q_1349 q_59 q_73 q_1350) rfl rfl rfl pdVX7_cheapestOf ⟨Nat.le_of_ble_eq_true rfl, Nat.le_of_ble_eq_true rfl⟩) hK hP hD hG hS hA (va_recv hK hP (ci := 7) (q0 := 0) rfl (oh_wg (Nat.lt_of_lt_of_le (by decide) hn) (sM_0 hT))) rfl hl.1 rfl (Nat.le_of_ble_eq_true rfl) dX7_best_73 ⟨Nat.le_of_ble_eq_true rfl, Nat.le_of_ble_eq_true rfl⟩ (fun r_37 C_38 H locs hq_39 hP hD hS => ?_)
                obtain ⟨hT, f_40, hq_39⟩ := hq_39
                have hF := fr_tr hF f_40 (by decide) (by decide)
                refine W.widen (k := 0) (n := 0) (Nat.le_refl _) (Nat.le_refl _) ?_
                have t_41 := hT
                refine lv_istore (lv' := [(8, .int r_37), (7, .int z54_7), (6, .int z42_6), (5, .int z54_5), (4, .int z54_4), (0, .ref (a 0)), (1, .int x1), (2, .int x2), (3, .int x3)]) hx hb dX7_best_76 hl (by decide) rfl (fun ls hl => ?_)
                refine lv_iload hx hb dX7_best_78 (lv_at hl 0 rfl) ?_
                refine lv_iconst (v := (-1)) hx hb dX7_best_80 (by decide) ?_
                refine lv_icmp_eq (tgt := 111) hx hb dX7_best_81 (by decide) (fun (c_42 : r_37 = (-1)) => ?_) (fun (c_42 : ¬ (r_37 = (-1))) => ?_)
                · refine lv_iinc (v := z54_7 + 1) (lv' := [(7, .int (z54_7 + 1)), (8, .int r_37), (6, .int z42_6), (5, .int z54_5), (4, .int z54_4), (0, .ref (a 0)), (1, .int x1), (2, .int x2), (3, .int x3)]) hx hb dX7_best_111 hl (k := 1) rfl (by rfl) (by decide) rfl (fun ls hl => ?_)
                  refine lv_goto (tgt := 54) hx hb dX7_best_114 (by decide) ?_
                  exact ih_54 _ (hd_54 ▸ mu_up 32 (rn_ltu (u' := 31) (Int32.not_le.mp c_36) hz54_7 (rg_shl1 (fM_0_15 hT0)) (by decide)) (by decide)) C_38 (z54_7 + 1) z54_5 z54_4 _ _ ls rfl (rg_w (rg_add (lo := 1) (hi := 32) (rn_ltu (u' := 31) (Int32.not_le.mp c_36) hz54_7 (rg_shl1 (fM_0_15 hT0)) (by decide)) (rg_c (v := 1) (lo := 1) (hi := 1) (by decide)) (by decide)) (by decide)) (fun A hA hok => bmM_n hok (show z42_6 < A 5 0 2 from oh_lte (Int32.not_le.mp c_26) (hA.1 2 (by decide))) (rg_w (lo := 0) (hi := 15) u_10 (by decide)) (rg_w (lo := 0) (hi := 15) u_20 (by decide)) (hw_54 A hA hok) (rg_w (lo := 0) (hi := 4) (rn_ltu (u' := 4) (Int32.not_le.mp c_26) hz42_6 (fM_0_13 hT0) (by decide)) (by decide)) (rg_w (lo := 0) (hi := 31) (rn_ltu (u' := 31) (Int32.not_le.mp c_36) hz54_7 (rg_shl1 (fM_0_15 hT0)) (by decide)) (by decide)) (show gi (C 0) 15 = A 5 0 3 from hA.1 3 (by decide)) (rg_w (lo := 0) (hi := 5) (fM_0_15 hT0) (by decide)) (Int32.not_le.mp c_36) (hq_39 A (absM_fr hA hT0 (show fr [(15, 16)] [] C K54 from (fr_tr (fr_tr fr_rf hLF_42 (by decide) (by decide)) hLF_54 (by decide) (by decide))) (by decide) (by decide) (by decide)) hok (show z42_6 < A 5 0 2 from oh_lte (Int32.not_le.mp c_26) (hA.1 2 (by decide))) ⟨by decide, by decide⟩) (Or.inl c_42)) hT hF (fr_tr hLF_54 f_40 (by decide) (by decide)) hP hD hS (lv_sub hl [0, 2, 3, 4, 5, 6, 7, 8] rfl)
                · refine lv_iload hx hb dX7_best_84 (lv_at hl 4 rfl) ?_
                  refine lv_iconst (v := (-1)) hx hb dX7_best_86 (by decide) ?_
                  refine lv_icmp_eq (tgt := 97) hx hb dX7_best_87 (by decide) (fun (c_43 : z54_4 = (-1)) => ?_) (fun (c_43 : ¬ (z54_4 = (-1))) => ?_)
                  · refine lv_bipush (v := 100) hx hb dX7_best_97 (by decide) ?_
                    refine lv_iload hx hb dX7_best_99 (lv_at hl 2 rfl) ?_
                    refine lv_imul hx hb dX7_best_101 ?_
                    refine lv_iload hx hb dX7_best_102 (lv_at hl 1 rfl) ?_
                    refine lv_iadd hx hb dX7_best_104 ?_
                    refine lv_istore (lv' := [(4, .int ((100 * z42_6) + z54_7)), (8, .int r_37), (7, .int z54_7), (6, .int z42_6), (5, .int z54_5), (0, .ref (a 0)), (1, .int x1), (2, .int x2), (3, .int x3)]) hx hb dX7_best_105 hl (by decide) rfl (fun ls hl => ?_)
                    refine lv_iload hx hb dX7_best_107 (lv_at hl 1 rfl) ?_
                    refine lv_istore (lv' := [(5, .int r_37), (4, .int ((100 * z42_6) + z54_7)), (8, .int r_37), (7, .int z54_7), (6, .int z42_6), (0, .ref (a 0)), (1, .int x1), (2, .int x2), (3, .int x3)]) hx hb dX7_best_109 hl (by decide) rfl (fun ls hl => ?_)
                    refine lv_iinc (v := z54_7 + 1) (lv' := [(7, .int (z54_7 + 1)), (5, .int r_37), (4, .int ((100 * z42_6) + z54_7)), (8, .int r_37), (6, .int z42_6), (0, .ref (a 0)), (1, .int x1), (2, .int x2), (3, .int x3)]) hx hb dX7_best_111 hl (k := 3) rfl (by rfl) (by decide) rfl (fun ls hl => ?_)
                    refine lv_goto (tgt := 54) hx hb dX7_best_114 (by decide) ?_
                    exact ih_54 _ (hd_54 ▸ mu_up 32 (rn_ltu (u' := 31) (Int32.not_le.mp c_36) hz54_7 (rg_shl1 (fM_0_15 hT0)) (by decide)) (by decide)) C_38 (z54_7 + 1) r_37 ((100 * z42_6) + z54_7) _ _ ls rfl (rg_w (rg_add (lo := 1) (hi := 32) (rn_ltu (u' := 31) (Int32.not_le.mp c_36) hz54_7 (rg_shl1 (fM_0_15 hT0)) (by decide)) (rg_c (v := 1) (lo := 1) (hi := 1) (by decide)) (by decide)) (by decide)) (fun A hA hok => bmM_y hok (show z42_6 < A 5 0 2 from oh_lte (Int32.not_le.mp c_26) (hA.1 2 (by decide))) (rg_w (lo := 0) (hi := 15) u_10 (by decide)) (rg_w (lo := 0) (hi := 15) u_20 (by decide)) (hw_54 A hA hok) (rg_w (lo := 0) (hi := 4) (rn_ltu (u' := 4) (Int32.not_le.mp c_26) hz42_6 (fM_0_13 hT0) (by decide)) (by decide)) (rg_w (lo := 0) (hi := 31) (rn_ltu (u' := 31) (Int32.not_le.mp c_36) hz54_7 (rg_shl1 (fM_0_15 hT0)) (by decide)) (by decide)) (show gi (C 0) 15 = A 5 0 3 from hA.1 3 (by decide)) (rg_w (lo := 0) (hi := 5) (fM_0_15 hT0) (by decide)) (Int32.not_le.mp c_36) (hq_39 A (absM_fr hA hT0 (show fr [(15, 16)] [] C K54 from (fr_tr (fr_tr fr_rf hLF_42 (by decide) (by decide)) hLF_54 (by decide) (by decide))) (by decide) (by decide) (by decide)) hok (show z42_6 < A 5 0 2 from oh_lte (Int32.not_le.mp c_26) (hA.1 2 (by decide))) ⟨by decide, by decide⟩) c_42 (Or.inl c_43)) hT hF (fr_tr hLF_54 f_40 (by decide) (by decide)) hP hD hS (lv_sub hl [0, 4, 1, 2, 5, 6, 7, 8] rfl)
                  · refine lv_iload hx hb dX7_best_90 (lv_at hl 0 rfl) ?_
                    refine lv_iload hx hb dX7_best_92 (lv_at hl 3 rfl) ?_
                    refine lv_icmp_ge (tgt := 111) hx hb dX7_best_94 (by decide) (fun (c_44 : z54_5 ≤ r_37) => ?_) (fun (c_44 : ¬ (z54_5 ≤ r_37)) => ?_)
                    · refine lv_iinc (v := z54_7 + 1) (lv' := [(7, .int (z54_7 + 1)), (8, .int r_37), (6, .int z42_6), (5, .int z54_5), (4, .int z54_4), (0, .ref (a 0)), (1, .int x1), (2, .int x2), (3, .int x3)]) hx hb dX7_best_111 hl (k := 1) rfl (by rfl) (by decide) rfl (fun ls hl => ?_)
                      refine lv_goto (tgt := 54) hx hb dX7_best_114 (by decide) ?_
                      exact ih_54 _ (hd_54 ▸ mu_up 32 (rn_ltu (u' := 31) (Int32.not_le.mp c_36) hz54_7 (rg_shl1 (fM_0_15 hT0)) (by decide)) (by decide)) C_38 (z54_7 + 1) z54_5 z54_4 _ _ ls rfl (rg_w (rg_add (lo := 1) (hi := 32) (rn_ltu (u' := 31) (Int32.not_le.mp c_36) hz54_7 (rg_shl1 (fM_0_15 hT0)) (by decide)) (rg_c (v := 1) (lo := 1) (hi := 1) (by decide)) (by decide)) (by decide)) (fun A hA hok => bmM_n hok (show z42_6 < A 5 0 2 from oh_lte (Int32.not_le.mp c_26) (hA.1 2 (by decide))) (rg_w (lo := 0) (hi := 15) u_10 (by decide)) (rg_w (lo := 0) (hi := 15) u_20 (by decide)) (hw_54 A hA hok) (rg_w (lo := 0) (hi := 4) (rn_ltu (u' := 4) (Int32.not_le.mp c_26) hz42_6 (fM_0_13 hT0) (by decide)) (by decide)) (rg_w (lo := 0) (hi := 31) (rn_ltu (u' := 31) (Int32.not_le.mp c_36) hz54_7 (rg_shl1 (fM_0_15 hT0)) (by decide)) (by decide)) (show gi (C 0) 15 = A 5 0 3 from hA.1 3 (by decide)) (rg_w (lo := 0) (hi := 5) (fM_0_15 hT0) (by decide)) (Int32.not_le.mp c_36) (hq_39 A (absM_fr hA hT0 (show fr [(15, 16)] [] C K54 from (fr_tr (fr_tr fr_rf hLF_42 (by decide) (by decide)) hLF_54 (by decide) (by decide))) (by decide) (by decide) (by decide)) hok (show z42_6 < A 5 0 2 from oh_lte (Int32.not_le.mp c_26) (hA.1 2 (by decide))) ⟨by decide, by decide⟩) (Or.inr ⟨c_43, c_44⟩)) hT hF (fr_tr hLF_54 f_40 (by decide) (by decide)) hP hD hS (lv_sub hl [0, 2, 3, 4, 5, 6, 7, 8] rfl)
                    · refine lv_bipush (v := 100) hx hb dX7_best_97 (by decide) ?_
                      refine lv_iload hx hb dX7_best_99 (lv_at hl 2 rfl) ?_
                      refine lv_imul hx hb dX7_best_101 ?_
                      refine lv_iload hx hb dX7_best_102 (lv_at hl 1 rfl) ?_
                      refine lv_iadd hx hb dX7_best_104 ?_
                      refine lv_istore (lv' := [(4, .int ((100 * z42_6) + z54_7)), (8, .int r_37), (7, .int z54_7), (6, .int z42_6), (5, .int z54_5), (0, .ref (a 0)), (1, .int x1), (2, .int x2), (3, .int x3)]) hx hb dX7_best_105 hl (by decide) rfl (fun ls hl => ?_)
                      refine lv_iload hx hb dX7_best_107 (lv_at hl 1 rfl) ?_
                      refine lv_istore (lv' := [(5, .int r_37), (4, .int ((100 * z42_6) + z54_7)), (8, .int r_37), (7, .int z54_7), (6, .int z42_6), (0, .ref (a 0)), (1, .int x1), (2, .int x2), (3, .int x3)]) hx hb dX7_best_109 hl (by decide) rfl (fun ls hl => ?_)
                      refine lv_iinc (v := z54_7 + 1) (lv' := [(7, .int (z54_7 + 1)), (5, .int r_37), (4, .int ((100 * z42_6) + z54_7)), (8, .int r_37), (6, .int z42_6), (0, .ref (a 0)), (1, .int x1), (2, .int x2), (3, .int x3)]) hx hb dX7_best_111 hl (k := 3) rfl (by rfl) (by decide) rfl (fun ls hl => ?_)
                      refine lv_goto (tgt := 54) hx hb dX7_best_114 (by decide) ?_
                      exact ih_54 _ (hd_54 ▸ mu_up 32 (rn_ltu (u' := 31) (Int32.not_le.mp c_36) hz54_7 (rg_shl1 (fM_0_15 hT0)) (by decide)) (by decide)) C_38 (z54_7 + 1) r_37 ((100 * z42_6) + z54_7) _ _ ls rfl (rg_w (rg_add (lo := 1) (hi := 32) (rn_ltu (u' := 31) (Int32.not_le.mp c_36) hz54_7 (rg_shl1 (fM_0_15 hT0)) (by decide)) (rg_c (v := 1) (lo := 1) (hi := 1) (by decide)) (by decide)) (by decide)) (fun A hA hok => bmM_y hok (show z42_6 < A 5 0 2 from oh_lte (Int32.not_le.mp c_26) (hA.1 2 (by decide))) (rg_w (lo := 0) (hi := 15) u_10 (by decide)) (rg_w (lo := 0) (hi := 15) u_20 (by decide)) (hw_54 A hA hok) (rg_w (lo := 0) (hi := 4) (rn_ltu (u' := 4) (Int32.not_le.mp c_26) hz42_6 (fM_0_13 hT0) (by decide)) (by decide)) (rg_w (lo := 0) (hi := 31) (rn_ltu (u' := 31) (Int32.not_le.mp c_36) hz54_7 (rg_shl1 (fM_0_15 hT0)) (by decide)) (by decide)) (show gi (C 0) 15 = A 5 0 3 from hA.1 3 (by decide)) (rg_w (lo := 0) (hi := 5) (fM_0_15 hT0) (by decide)) (Int32.not_le.mp c_36) (hq_39 A (absM_fr hA hT0 (show fr [(15, 16)] [] C K54 from (fr_tr (fr_tr fr_rf hLF_42 (by decide) (by decide)) hLF_54 (by decide) (by decide))) (by decide) (by decide) (by decide)) hok (show z42_6 < A 5 0 2 from oh_lte (Int32.not_le.mp c_26) (hA.1 2 (by decide))) ⟨by decide, by decide⟩) c_42 (Or.inr (Int32.not_le.mp c_44))) hT hF (fr_tr hLF_54 f_40 (by decide) (by decide)) hP hD hS (lv_sub hl [0, 4, 1, 2, 5, 6, 7, 8] rfl)
            exact L_54 _ K42 0 z42_5 z42_4 _ _ ls rfl (rg_w (rg_c (v := 0) (lo := 0) (hi := 0) (by decide)) (by decide)) (fun A hA hok => by rw [show (0 : Int32).toNatClampNeg = 0 from rfl, Nat.add_zero]; exact hv_42 A hA hok) hT hF fr_rf hP hD hS (lv_sub hl [0, 1, 2, 3, 4, 5, 6, 7] rfl)
        exact L_42 _ C 0 0 (-1) _ _ ls rfl (rg_w (rg_c (v := 0) (lo := 0) (hi := 0) (by decide)) (by decide)) (fun A hA hok => bm_0) (fM_0_13 hT0).1 hT hF fr_rf hP hD hS (lv_sub hl [0, 1, 2, 3, 4, 5, 6] rfl)
      · have u_45 := hq_22.2.2 c_23
        refine lv_aload_n hx hb dX7_best_26 rfl (lv_at hl 0 rfl) ?_
        refine lv_bipush (v := (-2)) hx hb dX7_best_27 (by decide) ?_
        refine tm_V (As := [.int (-2)]) (rest := []) ⟨hx, hb, hml, hown, htg⟩ (c_X7_refuse l D E G _ a C n hn hT ((-2) : Int32) (rg_w (rg_c (v := (-2)) (lo := (-2)) (hi := (-2)) (by decide)) (by decide))) (cwV 1 htg (oh_gV q_1071 q_1073 q_29 q_73 q_1074) rfl rfl rfl pdVX7_refuse ⟨Nat.le_of_ble_eq_true rfl, Nat.le_of_ble_eq_true rfl⟩) hK hP hD hG hS hA (va_recv hK hP (ci := 7) (q0 := 0) rfl (oh_wg (Nat.lt_of_lt_of_le (by decide) hn) (sM_0 hT))) rfl hl.1 rfl (Nat.le_of_ble_eq_true rfl) dX7_best_29 ⟨Nat.le_of_ble_eq_true rfl, Nat.le_of_ble_eq_true rfl⟩ (fun r_46 C_47 H locs hq_48 hP hD hS => ?_)
        obtain ⟨hT, f_49, hq_48⟩ := hq_48
        have hF := fr_tr hF f_49 (by decide) (by decide)
        refine W.widen (k := 0) (n := 0) (Nat.le_refl _) (Nat.le_refl _) ?_
        have t_50 := hT
        rw [hQ]
        exact W.iret (v := r_46) hx hb hr (fun t ht hW => ⟨⟨r_46, C_47, rfl, ⟨hT, hF, ⟨⟨hR.1.fr hF (by decide), hR.2.fr hF (by decide)⟩, (fun A hA hok => Eq.trans hq_48 (pif_neg (fun h8 => (oh_in64 (l' := 0) (k' := 2) rfl rfl u_45) h8.2.2)).symm)⟩⟩, ⟨by rw [ht]; exact hP, hD⟩⟩, hS.F ht⟩) hS.2.2 dX7_best_32
