/-! FULL: the fewest parts with which there is a way -/
noncomputable def spOf (P : Int32 → Prop) : Int32 := Classical.epsilon P
theorem spOf_eq {P : Int32 → Prop} {r : Int32} (h : P r) (u : ∀ a b, P a → P b → a = b) : r = spOf P := u _ _ h (Classical.epsilon_spec ⟨r, h⟩)
def popN (k : Nat) : Nat := k % 2 + k / 2 % 2 + k / 4 % 2 + k / 8 % 2 + k / 16 % 2
theorem popN_5 (k : Nat) : popN k ≤ 5 := by
  unfold popN
  omega
def bcF (x1 : Int32) : Int32 := (((((((x1 - (((x1.toUInt32 >>> ((1 : Int32).toUInt32 &&& Int32.toUInt32 31)).toInt32) &&& 1431655765)) &&& 858993459) + ((((x1 - (((x1.toUInt32 >>> ((1 : Int32).toUInt32 &&& Int32.toUInt32 31)).toInt32) &&& 1431655765)).toUInt32 >>> ((2 : Int32).toUInt32 &&& Int32.toUInt32 31)).toInt32) &&& 858993459)) + (((((x1 - (((x1.toUInt32 >>> ((1 : Int32).toUInt32 &&& Int32.toUInt32 31)).toInt32) &&& 1431655765)) &&& 858993459) + ((((x1 - (((x1.toUInt32 >>> ((1 : Int32).toUInt32 &&& Int32.toUInt32 31)).toInt32) &&& 1431655765)).toUInt32 >>> ((2 : Int32).toUInt32 &&& Int32.toUInt32 31)).toInt32) &&& 858993459)).toUInt32 >>> ((4 : Int32).toUInt32 &&& Int32.toUInt32 31)).toInt32)) &&& 252645135) + (((((((x1 - (((x1.toUInt32 >>> ((1 : Int32).toUInt32 &&& Int32.toUInt32 31)).toInt32) &&& 1431655765)) &&& 858993459) + ((((x1 - (((x1.toUInt32 >>> ((1 : Int32).toUInt32 &&& Int32.toUInt32 31)).toInt32) &&& 1431655765)).toUInt32 >>> ((2 : Int32).toUInt32 &&& Int32.toUInt32 31)).toInt32) &&& 858993459)) + (((((x1 - (((x1.toUInt32 >>> ((1 : Int32).toUInt32 &&& Int32.toUInt32 31)).toInt32) &&& 1431655765)) &&& 858993459) + ((((x1 - (((x1.toUInt32 >>> ((1 : Int32).toUInt32 &&& Int32.toUInt32 31)).toInt32) &&& 1431655765)).toUInt32 >>> ((2 : Int32).toUInt32 &&& Int32.toUInt32 31)).toInt32) &&& 858993459)).toUInt32 >>> ((4 : Int32).toUInt32 &&& Int32.toUInt32 31)).toInt32)) &&& 252645135).toUInt32 >>> ((8 : Int32).toUInt32 &&& Int32.toUInt32 31)).toInt32)) + ((((((((x1 - (((x1.toUInt32 >>> ((1 : Int32).toUInt32 &&& Int32.toUInt32 31)).toInt32) &&& 1431655765)) &&& 858993459) + ((((x1 - (((x1.toUInt32 >>> ((1 : Int32).toUInt32 &&& Int32.toUInt32 31)).toInt32) &&& 1431655765)).toUInt32 >>> ((2 : Int32).toUInt32 &&& Int32.toUInt32 31)).toInt32) &&& 858993459)) + (((((x1 - (((x1.toUInt32 >>> ((1 : Int32).toUInt32 &&& Int32.toUInt32 31)).toInt32) &&& 1431655765)) &&& 858993459) + ((((x1 - (((x1.toUInt32 >>> ((1 : Int32).toUInt32 &&& Int32.toUInt32 31)).toInt32) &&& 1431655765)).toUInt32 >>> ((2 : Int32).toUInt32 &&& Int32.toUInt32 31)).toInt32) &&& 858993459)).toUInt32 >>> ((4 : Int32).toUInt32 &&& Int32.toUInt32 31)).toInt32)) &&& 252645135) + (((((((x1 - (((x1.toUInt32 >>> ((1 : Int32).toUInt32 &&& Int32.toUInt32 31)).toInt32) &&& 1431655765)) &&& 858993459) + ((((x1 - (((x1.toUInt32 >>> ((1 : Int32).toUInt32 &&& Int32.toUInt32 31)).toInt32) &&& 1431655765)).toUInt32 >>> ((2 : Int32).toUInt32 &&& Int32.toUInt32 31)).toInt32) &&& 858993459)) + (((((x1 - (((x1.toUInt32 >>> ((1 : Int32).toUInt32 &&& Int32.toUInt32 31)).toInt32) &&& 1431655765)) &&& 858993459) + ((((x1 - (((x1.toUInt32 >>> ((1 : Int32).toUInt32 &&& Int32.toUInt32 31)).toInt32) &&& 1431655765)).toUInt32 >>> ((2 : Int32).toUInt32 &&& Int32.toUInt32 31)).toInt32) &&& 858993459)).toUInt32 >>> ((4 : Int32).toUInt32 &&& Int32.toUInt32 31)).toInt32)) &&& 252645135).toUInt32 >>> ((8 : Int32).toUInt32 &&& Int32.toUInt32 31)).toInt32)).toUInt32 >>> ((16 : Int32).toUInt32 &&& Int32.toUInt32 31)).toInt32)) &&& 63
theorem bc_32 : ∀ n : Nat, n < 32 → bcF (Int32.ofNat n) = Int32.ofNat (popN n) := by decide +kernel
theorem bc_p {x : Int32} (h : rg x 0 31) : bcF x = Int32.ofNat (popN x.toNatClampNeg) := by
  have e := bc_32 x.toNatClampNeg (by have := oh_nat h (by decide); have := h.2; omega)
  rw [oh_ofc h (by decide)] at e
  exact e
def btI (x : Int32) : Nat → Int32
  | 0 => 0
  | k + 1 => btI x k + ((x >>> (Int32.ofNat k &&& 31)) &&& 1)
theorem bt_s {x z : Int32} (hz : rg z 0 15) : btI x (z + 1).toNatClampNeg = btI x z.toNatClampNeg + ((x >>> (z &&& 31)) &&& 1) := by
  rw [z_s15 hz]
  show btI x z.toNatClampNeg + ((x >>> (Int32.ofNat z.toNatClampNeg &&& 31)) &&& 1) = _
  rw [oh_ofc hz (by decide)]
theorem bt_32 : ∀ n : Nat, n < 32 → btI (Int32.ofNat n) 16 = Int32.ofNat (popN n) := by decide +kernel
theorem bt_p {x : Int32} (h : rg x 0 31) : btI x 16 = Int32.ofNat (popN x.toNatClampNeg) := by
  have e := bt_32 x.toNatClampNeg (by have := oh_nat h (by decide); have := h.2; omega)
  rw [oh_ofc h (by decide)] at e
  exact e
theorem on_lt {a b : Nat} (ha : a < 100) (hb : b < 100) : Int32.ofNat a < Int32.ofNat b ↔ a < b := by
  rw [Int32.lt_iff_toInt_lt, show (Int32.ofNat a).toInt = (a : Int) from nI_toInt (by omega), show (Int32.ofNat b).toInt = (b : Int) from nI_toInt (by omega)]
  omega
theorem on_eq {a b : Nat} (ha : a < 100) (hb : b < 100) (h : Int32.ofNat a = Int32.ofNat b) : a = b := by
  have h2 := congrArg Int32.toInt h
  rw [show (Int32.ofNat a).toInt = (a : Int) from nI_toInt (by omega), show (Int32.ofNat b).toInt = (b : Int) from nI_toInt (by omega)] at h2
  omega
theorem on_n1 {a : Nat} (ha : a < 100) : ¬ Int32.ofNat a = -1 := by
  intro h
  have h2 := congrArg Int32.toInt h
  rw [show (Int32.ofNat a).toInt = (a : Int) from nI_toInt (by omega), show (-1 : Int32).toInt = -1 from rfl] at h2
  omega
def fwL (P : Nat → Prop) (n k0 : Nat) : Prop := k0 < n ∧ P k0 ∧ ∀ k, k < n → P k → popN k0 < popN k ∨ (popN k0 = popN k ∧ k0 ≤ k)
def fwI (P : Nat → Prop) (n : Nat) (fd le : Int32) : Prop := (fd = -1 ∧ le = 6 ∧ ∀ k, k < n → ¬ P k) ∨ ∃ k0, k0 < 32 ∧ fd = Int32.ofNat k0 ∧ le = Int32.ofNat (popN k0) ∧ fwL P n k0
def fwR (P : Nat → Prop) (n : Nat) (r : Int32) : Prop := (r = -5 ∧ ∀ k, k < n → ¬ P k) ∨ ∃ k0, r = Int32.ofNat k0 ∧ fwL P n k0
theorem fwL_u {P : Nat → Prop} {n a b : Nat} (h : fwL P n a) (g : fwL P n b) : a = b := by
  have h1 := h.2.2 b g.1 g.2.1
  have g1 := g.2.2 a h.1 h.2.1
  omega
theorem fwR_u {P : Nat → Prop} {n : Nat} (a b : Int32) (h : fwR P n a) (g : fwR P n b) : a = b := by
  rcases h with ⟨h1, h2⟩ | ⟨i, h1, h2⟩
  · rcases g with ⟨g1, g2⟩ | ⟨j, g1, g2⟩
    · rw [h1, g1]
    · exact absurd g2.2.1 (h2 j g2.1)
  · rcases g with ⟨g1, g2⟩ | ⟨j, g1, g2⟩
    · exact absurd h2.2.1 (g2 i h2.1)
    · rw [h1, g1, fwL_u h2 g2]
theorem fw_y {P : Nat → Prop} {z : Nat} {fd le : Int32} (h : fwI P z fd le) (hz : z < 32) (c : Int32.ofNat (popN z) < le) (q : P z) : fwI P (z + 1) (Int32.ofNat z) (Int32.ofNat (popN z)) := by
  refine Or.inr ⟨z, hz, rfl, rfl, Nat.lt_succ_self z, q, fun k hk pk => ?_⟩
  by_cases e : k = z
  · exact Or.inr ⟨by rw [e], by omega⟩
  · rcases h with ⟨_, _, h⟩ | ⟨k0, _, _, e2, h⟩
    · exact absurd pk (h k (by omega))
    · have h5 := popN_5 z
      have h6 := popN_5 k0
      rw [e2] at c
      have c2 := (on_lt (by omega) (by omega)).mp c
      have h7 := h.2.2 k (by omega) pk
      omega
theorem fw_n {P : Nat → Prop} {z : Nat} {fd le : Int32} (h : fwI P z fd le) (c : ¬ (Int32.ofNat (popN z) < le ∧ P z)) : fwI P (z + 1) fd le := by
  have h5 := popN_5 z
  rcases h with ⟨a, b, h⟩ | ⟨k0, hk0, a, b, h⟩
  · refine Or.inl ⟨a, b, fun k hk pk => ?_⟩
    by_cases e : k = z
    · rw [e] at pk
      exact c ⟨by rw [b]; exact (on_lt (b := 6) (by omega) (by omega)).mpr (by omega), pk⟩
    · exact h k (by omega) pk
  · refine Or.inr ⟨k0, hk0, a, b, by have := h.1; omega, h.2.1, fun k hk pk => ?_⟩
    by_cases e : k = z
    · rw [e] at pk
      have h6 := popN_5 k0
      have h7 : ¬ popN z < popN k0 := fun q => c ⟨by rw [b]; exact (on_lt (by omega) (by omega)).mpr q, pk⟩
      have h8 := h.1
      rw [e]
      omega
    · exact h.2.2 k (by omega) pk
theorem fw_0 {P : Nat → Prop} : fwI P 0 (-1) 6 := Or.inl ⟨rfl, rfl, fun k hk => absurd hk (Nat.not_lt_zero k)⟩
theorem fw_e1 {P : Nat → Prop} {n : Nat} {fd le r : Int32} (h : fwI P n fd le) (e : fd = -1) (er : r = -5) : fwR P n r := by
  rcases h with ⟨_, _, h⟩ | ⟨k0, hk, a, _, _⟩
  · exact Or.inl ⟨er, h⟩
  · exact absurd (Eq.trans a.symm e) (on_n1 (by omega))
theorem fw_e2 {P : Nat → Prop} {n : Nat} {fd le : Int32} (h : fwI P n fd le) (c : ¬ fd = -1) : fwR P n fd := by
  rcases h with ⟨a, _, _⟩ | ⟨k0, _, a, _, h⟩
  · exact absurd a c
  · exact Or.inr ⟨k0, a, h⟩
def fwH (A : LA) (w f t : Int32) (k : Nat) : Prop := hasW (EcA A w (Int32.ofNat k) 1) f.toNatClampNeg t.toNatClampNeg
theorem fwH_z {A : LA} {w f t z : Int32} (hz : rg z 0 31) : fwH A w f t z.toNatClampNeg ↔ hasW (EcA A w z 1) f.toNatClampNeg t.toNatClampNeg := by
  unfold fwH
  rw [oh_ofc hz (by decide)]
def nS (A : LA) : Nat := ((1 : Int32) <<< (A 5 0 3 &&& 31)).toNatClampNeg
noncomputable def spFew (A : LA) (w f t : Int32) : Int32 := pif ((0 ≤ w ∧ w < A 5 0 2) ∧ (0 ≤ f ∧ f ≤ 15) ∧ (0 ≤ t ∧ t ≤ 15)) (spOf (fwR (fwH A w f t) (nS A))) (-2)
theorem z_s31 {z : Int32} (h : rg z 0 31) : (z + 1).toNatClampNeg = z.toNatClampNeg + 1 := by
  have e2 : (z + 1).toInt = z.toInt + 1 := by
    rw [Int32.toInt_add]
    exact oh_bmod (by show _ ≤ z.toInt + 1; have := h.1; omega) (by show z.toInt + 1 ≤ _; have := h.2; omega)
  have a := oh_nat h (by decide)
  have b := oh_nat (i := z + 1) (l := 0) (u := 32) ⟨by rw [e2]; have := h.1; omega, by rw [e2]; have := h.2; omega⟩ (by decide)
  omega
theorem n31 {z : Int32} (h : rg z 0 31) : z.toNatClampNeg < 32 := by
  have := oh_nat h (by decide)
  have := h.2
  omega
theorem fwX_y {A : LA} {w f t z fd le r : Int32} (h : fwI (fwH A w f t) z.toNatClampNeg fd le) (hz : rg z 0 31) (er : r = bcF z) (c : r < le) (q : hasW (EcA A w z 1) f.toNatClampNeg t.toNatClampNeg) : fwI (fwH A w f t) (z + 1).toNatClampNeg z (bcF z) := by
  rw [er, bc_p hz] at c
  have k := fw_y h (n31 hz) c ((fwH_z hz).mpr q)
  rw [z_s31 hz, bc_p hz]
  rw [oh_ofc hz (by decide)] at k
  exact k
theorem fwX_n {A : LA} {w f t z fd le r : Int32} (h : fwI (fwH A w f t) z.toNatClampNeg fd le) (hz : rg z 0 31) (er : r = bcF z) (c : ¬ (r < le ∧ hasW (EcA A w z 1) f.toNatClampNeg t.toNatClampNeg)) : fwI (fwH A w f t) (z + 1).toNatClampNeg fd le := by
  rw [z_s31 hz]
  exact fw_n h (fun q => c ⟨by rw [er, bc_p hz]; exact q.1, (fwH_z hz).mp q.2⟩)
theorem nS_of {A : LA} {n z : Int32} (hn : n = A 5 0 3) (h5 : rg n 0 5) (hz : rg z 0 32) (c : ((1 : Int32) <<< (n &&& 31)) ≤ z) (y : z.toInt ≤ ((1 : Int32) <<< (n &&& 31)).toInt) : z.toNatClampNeg = nS A := by
  unfold nS
  rw [← hn, show z = ((1 : Int32) <<< (n &&& 31)) from Int32.toInt_inj.mp (by have := Int32.le_iff_toInt_le.mp c; omega)]

set_option maxHeartbeats 4000000 in
set_option maxRecDepth 100000 in
theorem e_J6_bitCount (l : Launch) (D : va_G) (E : Nat → ClassId) (G : Nat → Nat) (x1 : Int32) : Met l yJ6_bitCount_0f7a4 (oh_w yJ6_bitCount_0f7a4 cJ6_bitCount_0f7a4 1 (some .int)) ({ frames := 0, cells := 0, slots := 0, locals := 0 }) (oh_Pp D E G [.int x1] []) (vp_Si (fun r => (r = bcF x1))) 0 0 (fun _ => False) := by
  refine Met.ofW (cc := cJ6_bitCount_0f7a4) (maxL := 1) (ret := (some .int)) (by decide) rfl ?_
  intro p e s m args below meth c s₁ B hml hv
  obtain ⟨rfl, hP, hK, hG⟩ := hv
  have hx := B.exec
  have hb := B.bytes
  have hr := B.returns
  have hts := atoms_spec (ws := (oh_w yJ6_bitCount_0f7a4 cJ6_bitCount_0f7a4 1 (some .int))) B.pre
  have htg : ∀ w ∈ oh_t, w.before _ s = true := fun w h => hts w (List.mem_cons_of_mem _ h)
  have hown : s.vm.findClass RJ6 = some m.cls := findClass_of_methodNamed B.named
  have hlocks := B.notSynchronized
  have hS : va_S (fun _ => False) s.heap s.heap [] := va_S.rf
  have hl := lv_entry ([.int x1]) (n := 1) (Nat.le_of_ble_eq_true rfl)
  rw [lg_entry_eq]
  generalize (lg_sl ([.int x1]) ++ List.replicate (1 - (lg_sl ([.int x1])).length) Slot.unset).toArray = ls at hl ⊢
  have hl : lv_has ls 1 [(0, .int x1)] := hl
  refine oh_genQ (fun Q hQ => ?_)
  refine lv_iload_n hx hb dJ6_bitCount_0f7a4_0 rfl (lv_at hl 0 rfl) ?_
  refine lv_iload_n hx hb dJ6_bitCount_0f7a4_1 rfl (lv_at hl 0 rfl) ?_
  refine lv_iconst (v := 1) hx hb dJ6_bitCount_0f7a4_2 (by decide) ?_
  refine lv_iushr (v := (x1.toUInt32 >>> ((1 : Int32).toUInt32 &&& Int32.toUInt32 31)).toInt32) hx hb dJ6_bitCount_0f7a4_3 rfl ?_
  refine lv_ldcw (v := 1431655765) hx hb hown (htg _ q_857) dJ6_bitCount_0f7a4_4 ?_
  refine lv_iand hx hb dJ6_bitCount_0f7a4_7 ?_
  refine lv_isub hx hb dJ6_bitCount_0f7a4_8 ?_
  refine lv_istore_n (lv' := [(0, .int (x1 - (((x1.toUInt32 >>> ((1 : Int32).toUInt32 &&& Int32.toUInt32 31)).toInt32) &&& 1431655765)))]) hx hb dJ6_bitCount_0f7a4_9 rfl hl (by decide) rfl (fun ls hl => ?_)
  refine lv_iload_n hx hb dJ6_bitCount_0f7a4_10 rfl (lv_at hl 0 rfl) ?_
  refine lv_ldcw (v := 858993459) hx hb hown (htg _ q_858) dJ6_bitCount_0f7a4_11 ?_
  refine lv_iand hx hb dJ6_bitCount_0f7a4_14 ?_
  refine lv_iload_n hx hb dJ6_bitCount_0f7a4_15 rfl (lv_at hl 0 rfl) ?_
  refine lv_iconst (v := 2) hx hb dJ6_bitCount_0f7a4_16 (by decide) ?_
  refine lv_iushr (v := ((x1 - (((x1.toUInt32 >>> ((1 : Int32).toUInt32 &&& Int32.toUInt32 31)).toInt32) &&& 1431655765)).toUInt32 >>> ((2 : Int32).toUInt32 &&& Int32.toUInt32 31)).toInt32) hx hb dJ6_bitCount_0f7a4_17 rfl ?_
  refine lv_ldcw (v := 858993459) hx hb hown (htg _ q_858) dJ6_bitCount_0f7a4_18 ?_
  refine lv_iand hx hb dJ6_bitCount_0f7a4_21 ?_
  refine lv_iadd hx hb dJ6_bitCount_0f7a4_22 ?_
  refine lv_istore_n (lv' := [(0, .int (((x1 - (((x1.toUInt32 >>> ((1 : Int32).toUInt32 &&& Int32.toUInt32 31)).toInt32) &&& 1431655765)) &&& 858993459) + ((((x1 - (((x1.toUInt32 >>> ((1 : Int32).toUInt32 &&& Int32.toUInt32 31)).toInt32) &&& 1431655765)).toUInt32 >>> ((2 : Int32).toUInt32 &&& Int32.toUInt32 31)).toInt32) &&& 858993459)))]) hx hb dJ6_bitCount_0f7a4_23 rfl hl (by decide) rfl (fun ls hl => ?_)
  refine lv_iload_n hx hb dJ6_bitCount_0f7a4_24 rfl (lv_at hl 0 rfl) ?_
  refine lv_iload_n hx hb dJ6_bitCount_0f7a4_25 rfl (lv_at hl 0 rfl) ?_
  refine lv_iconst (v := 4) hx hb dJ6_bitCount_0f7a4_26 (by decide) ?_
  refine lv_iushr (v := ((((x1 - (((x1.toUInt32 >>> ((1 : Int32).toUInt32 &&& Int32.toUInt32 31)).toInt32) &&& 1431655765)) &&& 858993459) + ((((x1 - (((x1.toUInt32 >>> ((1 : Int32).toUInt32 &&& Int32.toUInt32 31)).toInt32) &&& 1431655765)).toUInt32 >>> ((2 : Int32).toUInt32 &&& Int32.toUInt32 31)).toInt32) &&& 858993459)).toUInt32 >>> ((4 : Int32).toUInt32 &&& Int32.toUInt32 31)).toInt32) hx hb dJ6_bitCount_0f7a4_27 rfl ?_
  refine lv_iadd hx hb dJ6_bitCount_0f7a4_28 ?_
  refine lv_ldcw (v := 252645135) hx hb hown (htg _ q_859) dJ6_bitCount_0f7a4_29 ?_
  refine lv_iand hx hb dJ6_bitCount_0f7a4_32 ?_
  refine lv_istore_n (lv' := [(0, .int (((((x1 - (((x1.toUInt32 >>> ((1 : Int32).toUInt32 &&& Int32.toUInt32 31)).toInt32) &&& 1431655765)) &&& 858993459) + ((((x1 - (((x1.toUInt32 >>> ((1 : Int32).toUInt32 &&& Int32.toUInt32 31)).toInt32) &&& 1431655765)).toUInt32 >>> ((2 : Int32).toUInt32 &&& Int32.toUInt32 31)).toInt32) &&& 858993459)) + (((((x1 - (((x1.toUInt32 >>> ((1 : Int32).toUInt32 &&& Int32.toUInt32 31)).toInt32) &&& 1431655765)) &&& 858993459) + ((((x1 - (((x1.toUInt32 >>> ((1 : Int32).toUInt32 &&& Int32.toUInt32 31)).toInt32) &&& 1431655765)).toUInt32 >>> ((2 : Int32).toUInt32 &&& Int32.toUInt32 31)).toInt32) &&& 858993459)).toUInt32 >>> ((4 : Int32).toUInt32 &&& Int32.toUInt32 31)).toInt32)) &&& 252645135))]) hx hb dJ6_bitCount_0f7a4_33 rfl hl (by decide) rfl (fun ls hl => ?_)
  refine lv_iload_n hx hb dJ6_bitCount_0f7a4_34 rfl (lv_at hl 0 rfl) ?_
  refine lv_iload_n hx hb dJ6_bitCount_0f7a4_35 rfl (lv_at hl 0 rfl) ?_
  refine lv_bipush (v := 8) hx hb dJ6_bitCount_0f7a4_36 (by decide) ?_
  refine lv_iushr (v := ((((((x1 - (((x1.toUInt32 >>> ((1 : Int32).toUInt32 &&& Int32.toUInt32 31)).toInt32) &&& 1431655765)) &&& 858993459) + ((((x1 - (((x1.toUInt32 >>> ((1 : Int32).toUInt32 &&& Int32.toUInt32 31)).toInt32) &&& 1431655765)).toUInt32 >>> ((2 : Int32).toUInt32 &&& Int32.toUInt32 31)).toInt32) &&& 858993459)) + (((((x1 - (((x1.toUInt32 >>> ((1 : Int32).toUInt32 &&& Int32.toUInt32 31)).toInt32) &&& 1431655765)) &&& 858993459) + ((((x1 - (((x1.toUInt32 >>> ((1 : Int32).toUInt32 &&& Int32.toUInt32 31)).toInt32) &&& 1431655765)).toUInt32 >>> ((2 : Int32).toUInt32 &&& Int32.toUInt32 31)).toInt32) &&& 858993459)).toUInt32 >>> ((4 : Int32).toUInt32 &&& Int32.toUInt32 31)).toInt32)) &&& 252645135).toUInt32 >>> ((8 : Int32).toUInt32 &&& Int32.toUInt32 31)).toInt32) hx hb dJ6_bitCount_0f7a4_38 rfl ?_
  refine lv_iadd hx hb dJ6_bitCount_0f7a4_39 ?_
  refine lv_istore_n (lv' := [(0, .int ((((((x1 - (((x1.toUInt32 >>> ((1 : Int32).toUInt32 &&& Int32.toUInt32 31)).toInt32) &&& 1431655765)) &&& 858993459) + ((((x1 - (((x1.toUInt32 >>> ((1 : Int32).toUInt32 &&& Int32.toUInt32 31)).toInt32) &&& 1431655765)).toUInt32 >>> ((2 : Int32).toUInt32 &&& Int32.toUInt32 31)).toInt32) &&& 858993459)) + (((((x1 - (((x1.toUInt32 >>> ((1 : Int32).toUInt32 &&& Int32.toUInt32 31)).toInt32) &&& 1431655765)) &&& 858993459) + ((((x1 - (((x1.toUInt32 >>> ((1 : Int32).toUInt32 &&& Int32.toUInt32 31)).toInt32) &&& 1431655765)).toUInt32 >>> ((2 : Int32).toUInt32 &&& Int32.toUInt32 31)).toInt32) &&& 858993459)).toUInt32 >>> ((4 : Int32).toUInt32 &&& Int32.toUInt32 31)).toInt32)) &&& 252645135) + (((((((x1 - (((x1.toUInt32 >>> ((1 : Int32).toUInt32 &&& Int32.toUInt32 31)).toInt32) &&& 1431655765)) &&& 858993459) + ((((x1 - (((x1.toUInt32 >>> ((1 : Int32).toUInt32 &&& Int32.toUInt32 31)).toInt32) &&& 1431655765)).toUInt32 >>> ((2 : Int32).toUInt32 &&& Int32.toUInt32 31)).toInt32) &&& 858993459)) + (((((x1 - (((x1.toUInt32 >>> ((1 : Int32).toUInt32 &&& Int32.toUInt32 31)).toInt32) &&& 1431655765)) &&& 858993459) + ((((x1 - (((x1.toUInt32 >>> ((1 : Int32).toUInt32 &&& Int32.toUInt32 31)).toInt32) &&& 1431655765)).toUInt32 >>> ((2 : Int32).toUInt32 &&& Int32.toUInt32 31)).toInt32) &&& 858993459)).toUInt32 >>> ((4 : Int32).toUInt32 &&& Int32.toUInt32 31)).toInt32)) &&& 252645135).toUInt32 >>> ((8 : Int32).toUInt32 &&& Int32.toUInt32 31)).toInt32)))]) hx hb dJ6_bitCount_0f7a4_40 rfl hl (by decide) rfl (fun ls hl => ?_)
  refine lv_iload_n hx hb dJ6_bitCount_0f7a4_41 rfl (lv_at hl 0 rfl) ?_
  refine lv_iload_n hx hb dJ6_bitCount_0f7a4_42 rfl (lv_at hl 0 rfl) ?_
  refine lv_bipush (v := 16) hx hb dJ6_bitCount_0f7a4_43 (by decide) ?_
  refine lv_iushr (v := (((((((x1 - (((x1.toUInt32 >>> ((1 : Int32).toUInt32 &&& Int32.toUInt32 31)).toInt32) &&& 1431655765)) &&& 858993459) + ((((x1 - (((x1.toUInt32 >>> ((1 : Int32).toUInt32 &&& Int32.toUInt32 31)).toInt32) &&& 1431655765)).toUInt32 >>> ((2 : Int32).toUInt32 &&& Int32.toUInt32 31)).toInt32) &&& 858993459)) + (((((x1 - (((x1.toUInt32 >>> ((1 : Int32).toUInt32 &&& Int32.toUInt32 31)).toInt32) &&& 1431655765)) &&& 858993459) + ((((x1 - (((x1.toUInt32 >>> ((1 : Int32).toUInt32 &&& Int32.toUInt32 31)).toInt32) &&& 1431655765)).toUInt32 >>> ((2 : Int32).toUInt32 &&& Int32.toUInt32 31)).toInt32) &&& 858993459)).toUInt32 >>> ((4 : Int32).toUInt32 &&& Int32.toUInt32 31)).toInt32)) &&& 252645135) + (((((((x1 - (((x1.toUInt32 >>> ((1 : Int32).toUInt32 &&& Int32.toUInt32 31)).toInt32) &&& 1431655765)) &&& 858993459) + ((((x1 - (((x1.toUInt32 >>> ((1 : Int32).toUInt32 &&& Int32.toUInt32 31)).toInt32) &&& 1431655765)).toUInt32 >>> ((2 : Int32).toUInt32 &&& Int32.toUInt32 31)).toInt32) &&& 858993459)) + (((((x1 - (((x1.toUInt32 >>> ((1 : Int32).toUInt32 &&& Int32.toUInt32 31)).toInt32) &&& 1431655765)) &&& 858993459) + ((((x1 - (((x1.toUInt32 >>> ((1 : Int32).toUInt32 &&& Int32.toUInt32 31)).toInt32) &&& 1431655765)).toUInt32 >>> ((2 : Int32).toUInt32 &&& Int32.toUInt32 31)).toInt32) &&& 858993459)).toUInt32 >>> ((4 : Int32).toUInt32 &&& Int32.toUInt32 31)).toInt32)) &&& 252645135).toUInt32 >>> ((8 : Int32).toUInt32 &&& Int32.toUInt32 31)).toInt32)).toUInt32 >>> ((16 : Int32).toUInt32 &&& Int32.toUInt32 31)).toInt32) hx hb dJ6_bitCount_0f7a4_45 rfl ?_
  refine lv_iadd hx hb dJ6_bitCount_0f7a4_46 ?_
  refine lv_istore_n (lv' := [(0, .int (((((((x1 - (((x1.toUInt32 >>> ((1 : Int32).toUInt32 &&& Int32.toUInt32 31)).toInt32) &&& 1431655765)) &&& 858993459) + ((((x1 - (((x1.toUInt32 >>> ((1 : Int32).toUInt32 &&& Int32.toUInt32 31)).toInt32) &&& 1431655765)).toUInt32 >>> ((2 : Int32).toUInt32 &&& Int32.toUInt32 31)).toInt32) &&& 858993459)) + (((((x1 - (((x1.toUInt32 >>> ((1 : Int32).toUInt32 &&& Int32.toUInt32 31)).toInt32) &&& 1431655765)) &&& 858993459) + ((((x1 - (((x1.toUInt32 >>> ((1 : Int32).toUInt32 &&& Int32.toUInt32 31)).toInt32) &&& 1431655765)).toUInt32 >>> ((2 : Int32).toUInt32 &&& Int32.toUInt32 31)).toInt32) &&& 858993459)).toUInt32 >>> ((4 : Int32).toUInt32 &&& Int32.toUInt32 31)).toInt32)) &&& 252645135) + (((((((x1 - (((x1.toUInt32 >>> ((1 : Int32).toUInt32 &&& Int32.toUInt32 31)).toInt32) &&& 1431655765)) &&& 858993459) + ((((x1 - (((x1.toUInt32 >>> ((1 : Int32).toUInt32 &&& Int32.toUInt32 31)).toInt32) &&& 1431655765)).toUInt32 >>> ((2 : Int32).toUInt32 &&& Int32.toUInt32 31)).toInt32) &&& 858993459)) + (((((x1 - (((x1.toUInt32 >>> ((1 : Int32).toUInt32 &&& Int32.toUInt32 31)).toInt32) &&& 1431655765)) &&& 858993459) + ((((x1 - (((x1.toUInt32 >>> ((1 : Int32).toUInt32 &&& Int32.toUInt32 31)).toInt32) &&& 1431655765)).toUInt32 >>> ((2 : Int32).toUInt32 &&& Int32.toUInt32 31)).toInt32) &&& 858993459)).toUInt32 >>> ((4 : Int32).toUInt32 &&& Int32.toUInt32 31)).toInt32)) &&& 252645135).toUInt32 >>> ((8 : Int32).toUInt32 &&& Int32.toUInt32 31)).toInt32)) + ((((((((x1 - (((x1.toUInt32 >>> ((1 : Int32).toUInt32 &&& Int32.toUInt32 31)).toInt32) &&& 1431655765)) &&& 858993459) + ((((x1 - (((x1.toUInt32 >>> ((1 : Int32).toUInt32 &&& Int32.toUInt32 31)).toInt32) &&& 1431655765)).toUInt32 >>> ((2 : Int32).toUInt32 &&& Int32.toUInt32 31)).toInt32) &&& 858993459)) + (((((x1 - (((x1.toUInt32 >>> ((1 : Int32).toUInt32 &&& Int32.toUInt32 31)).toInt32) &&& 1431655765)) &&& 858993459) + ((((x1 - (((x1.toUInt32 >>> ((1 : Int32).toUInt32 &&& Int32.toUInt32 31)).toInt32) &&& 1431655765)).toUInt32 >>> ((2 : Int32).toUInt32 &&& Int32.toUInt32 31)).toInt32) &&& 858993459)).toUInt32 >>> ((4 : Int32).toUInt32 &&& Int32.toUInt32 31)).toInt32)) &&& 252645135) + (((((((x1 - (((x1.toUInt32 >>> ((1 : Int32).toUInt32 &&& Int32.toUInt32 31)).toInt32) &&& 1431655765)) &&& 858993459) + ((((x1 - (((x1.toUInt32 >>> ((1 : Int32).toUInt32 &&& Int32.toUInt32 31)).toInt32) &&& 1431655765)).toUInt32 >>> ((2 : Int32).toUInt32 &&& Int32.toUInt32 31)).toInt32) &&& 858993459)) + (((((x1 - (((x1.toUInt32 >>> ((1 : Int32).toUInt32 &&& Int32.toUInt32 31)).toInt32) &&& 1431655765)) &&& 858993459) + ((((x1 - (((x1.toUInt32 >>> ((1 : Int32).toUInt32 &&& Int32.toUInt32 31)).toInt32) &&& 1431655765)).toUInt32 >>> ((2 : Int32).toUInt32 &&& Int32.toUInt32 31)).toInt32) &&& 858993459)).toUInt32 >>> ((4 : Int32).toUInt32 &&& Int32.toUInt32 31)).toInt32)) &&& 252645135).toUInt32 >>> ((8 : Int32).toUInt32 &&& Int32.toUInt32 31)).toInt32)).toUInt32 >>> ((16 : Int32).toUInt32 &&& Int32.toUInt32 31)).toInt32)))]) hx hb dJ6_bitCount_0f7a4_47 rfl hl (by decide) rfl (fun ls hl => ?_)
  refine lv_iload_n hx hb dJ6_bitCount_0f7a4_48 rfl (lv_at hl 0 rfl) ?_
  refine lv_bipush (v := 63) hx hb dJ6_bitCount_0f7a4_49 (by decide) ?_
  refine lv_iand hx hb dJ6_bitCount_0f7a4_51 ?_
  rw [hQ]
  exact W.iret (v := (((((((x1 - (((x1.toUInt32 >>> ((1 : Int32).toUInt32 &&& Int32.toUInt32 31)).toInt32) &&& 1431655765)) &&& 858993459) + ((((x1 - (((x1.toUInt32 >>> ((1 : Int32).toUInt32 &&& Int32.toUInt32 31)).toInt32) &&& 1431655765)).toUInt32 >>> ((2 : Int32).toUInt32 &&& Int32.toUInt32 31)).toInt32) &&& 858993459)) + (((((x1 - (((x1.toUInt32 >>> ((1 : Int32).toUInt32 &&& Int32.toUInt32 31)).toInt32) &&& 1431655765)) &&& 858993459) + ((((x1 - (((x1.toUInt32 >>> ((1 : Int32).toUInt32 &&& Int32.toUInt32 31)).toInt32) &&& 1431655765)).toUInt32 >>> ((2 : Int32).toUInt32 &&& Int32.toUInt32 31)).toInt32) &&& 858993459)).toUInt32 >>> ((4 : Int32).toUInt32 &&& Int32.toUInt32 31)).toInt32)) &&& 252645135) + (((((((x1 - (((x1.toUInt32 >>> ((1 : Int32).toUInt32 &&& Int32.toUInt32 31)).toInt32) &&& 1431655765)) &&& 858993459) + ((((x1 - (((x1.toUInt32 >>> ((1 : Int32).toUInt32 &&& Int32.toUInt32 31)).toInt32) &&& 1431655765)).toUInt32 >>> ((2 : Int32).toUInt32 &&& Int32.toUInt32 31)).toInt32) &&& 858993459)) + (((((x1 - (((x1.toUInt32 >>> ((1 : Int32).toUInt32 &&& Int32.toUInt32 31)).toInt32) &&& 1431655765)) &&& 858993459) + ((((x1 - (((x1.toUInt32 >>> ((1 : Int32).toUInt32 &&& Int32.toUInt32 31)).toInt32) &&& 1431655765)).toUInt32 >>> ((2 : Int32).toUInt32 &&& Int32.toUInt32 31)).toInt32) &&& 858993459)).toUInt32 >>> ((4 : Int32).toUInt32 &&& Int32.toUInt32 31)).toInt32)) &&& 252645135).toUInt32 >>> ((8 : Int32).toUInt32 &&& Int32.toUInt32 31)).toInt32)) + ((((((((x1 - (((x1.toUInt32 >>> ((1 : Int32).toUInt32 &&& Int32.toUInt32 31)).toInt32) &&& 1431655765)) &&& 858993459) + ((((x1 - (((x1.toUInt32 >>> ((1 : Int32).toUInt32 &&& Int32.toUInt32 31)).toInt32) &&& 1431655765)).toUInt32 >>> ((2 : Int32).toUInt32 &&& Int32.toUInt32 31)).toInt32) &&& 858993459)) + (((((x1 - (((x1.toUInt32 >>> ((1 : Int32).toUInt32 &&& Int32.toUInt32 31)).toInt32) &&& 1431655765)) &&& 858993459) + ((((x1 - (((x1.toUInt32 >>> ((1 : Int32).toUInt32 &&& Int32.toUInt32 31)).toInt32) &&& 1431655765)).toUInt32 >>> ((2 : Int32).toUInt32 &&& Int32.toUInt32 31)).toInt32) &&& 858993459)).toUInt32 >>> ((4 : Int32).toUInt32 &&& Int32.toUInt32 31)).toInt32)) &&& 252645135) + (((((((x1 - (((x1.toUInt32 >>> ((1 : Int32).toUInt32 &&& Int32.toUInt32 31)).toInt32) &&& 1431655765)) &&& 858993459) + ((((x1 - (((x1.toUInt32 >>> ((1 : Int32).toUInt32 &&& Int32.toUInt32 31)).toInt32) &&& 1431655765)).toUInt32 >>> ((2 : Int32).toUInt32 &&& Int32.toUInt32 31)).toInt32) &&& 858993459)) + (((((x1 - (((x1.toUInt32 >>> ((1 : Int32).toUInt32 &&& Int32.toUInt32 31)).toInt32) &&& 1431655765)) &&& 858993459) + ((((x1 - (((x1.toUInt32 >>> ((1 : Int32).toUInt32 &&& Int32.toUInt32 31)).toInt32) &&& 1431655765)).toUInt32 >>> ((2 : Int32).toUInt32 &&& Int32.toUInt32 31)).toInt32) &&& 858993459)).toUInt32 >>> ((4 : Int32).toUInt32 &&& Int32.toUInt32 31)).toInt32)) &&& 252645135).toUInt32 >>> ((8 : Int32).toUInt32 &&& Int32.toUInt32 31)).toInt32)).toUInt32 >>> ((16 : Int32).toUInt32 &&& Int32.toUInt32 31)).toInt32)) &&& 63) hx hb hr (fun t ht hW => ⟨(((((((x1 - (((x1.toUInt32 >>> ((1 : Int32).toUInt32 &&& Int32.toUInt32 31)).toInt32) &&& 1431655765)) &&& 858993459) + ((((x1 - (((x1.toUInt32 >>> ((1 : Int32).toUInt32 &&& Int32.toUInt32 31)).toInt32) &&& 1431655765)).toUInt32 >>> ((2 : Int32).toUInt32 &&& Int32.toUInt32 31)).toInt32) &&& 858993459)) + (((((x1 - (((x1.toUInt32 >>> ((1 : Int32).toUInt32 &&& Int32.toUInt32 31)).toInt32) &&& 1431655765)) &&& 858993459) + ((((x1 - (((x1.toUInt32 >>> ((1 : Int32).toUInt32 &&& Int32.toUInt32 31)).toInt32) &&& 1431655765)).toUInt32 >>> ((2 : Int32).toUInt32 &&& Int32.toUInt32 31)).toInt32) &&& 858993459)).toUInt32 >>> ((4 : Int32).toUInt32 &&& Int32.toUInt32 31)).toInt32)) &&& 252645135) + (((((((x1 - (((x1.toUInt32 >>> ((1 : Int32).toUInt32 &&& Int32.toUInt32 31)).toInt32) &&& 1431655765)) &&& 858993459) + ((((x1 - (((x1.toUInt32 >>> ((1 : Int32).toUInt32 &&& Int32.toUInt32 31)).toInt32) &&& 1431655765)).toUInt32 >>> ((2 : Int32).toUInt32 &&& Int32.toUInt32 31)).toInt32) &&& 858993459)) + (((((x1 - (((x1.toUInt32 >>> ((1 : Int32).toUInt32 &&& Int32.toUInt32 31)).toInt32) &&& 1431655765)) &&& 858993459) + ((((x1 - (((x1.toUInt32 >>> ((1 : Int32).toUInt32 &&& Int32.toUInt32 31)).toInt32) &&& 1431655765)).toUInt32 >>> ((2 : Int32).toUInt32 &&& Int32.toUInt32 31)).toInt32) &&& 858993459)).toUInt32 >>> ((4 : Int32).toUInt32 &&& Int32.toUInt32 31)).toInt32)) &&& 252645135).toUInt32 >>> ((8 : Int32).toUInt32 &&& Int32.toUInt32 31)).toInt32)) + ((((((((x1 - (((x1.toUInt32 >>> ((1 : Int32).toUInt32 &&& Int32.toUInt32 31)).toInt32) &&& 1431655765)) &&& 858993459) + ((((x1 - (((x1.toUInt32 >>> ((1 : Int32).toUInt32 &&& Int32.toUInt32 31)).toInt32) &&& 1431655765)).toUInt32 >>> ((2 : Int32).toUInt32 &&& Int32.toUInt32 31)).toInt32) &&& 858993459)) + (((((x1 - (((x1.toUInt32 >>> ((1 : Int32).toUInt32 &&& Int32.toUInt32 31)).toInt32) &&& 1431655765)) &&& 858993459) + ((((x1 - (((x1.toUInt32 >>> ((1 : Int32).toUInt32 &&& Int32.toUInt32 31)).toInt32) &&& 1431655765)).toUInt32 >>> ((2 : Int32).toUInt32 &&& Int32.toUInt32 31)).toInt32) &&& 858993459)).toUInt32 >>> ((4 : Int32).toUInt32 &&& Int32.toUInt32 31)).toInt32)) &&& 252645135) + (((((((x1 - (((x1.toUInt32 >>> ((1 : Int32).toUInt32 &&& Int32.toUInt32 31)).toInt32) &&& 1431655765)) &&& 858993459) + ((((x1 - (((x1.toUInt32 >>> ((1 : Int32).toUInt32 &&& Int32.toUInt32 31)).toInt32) &&& 1431655765)).toUInt32 >>> ((2 : Int32).toUInt32 &&& Int32.toUInt32 31)).toInt32) &&& 858993459)) + (((((x1 - (((x1.toUInt32 >>> ((1 : Int32).toUInt32 &&& Int32.toUInt32 31)).toInt32) &&& 1431655765)) &&& 858993459) + ((((x1 - (((x1.toUInt32 >>> ((1 : Int32).toUInt32 &&& Int32.toUInt32 31)).toInt32) &&& 1431655765)).toUInt32 >>> ((2 : Int32).toUInt32 &&& Int32.toUInt32 31)).toInt32) &&& 858993459)).toUInt32 >>> ((4 : Int32).toUInt32 &&& Int32.toUInt32 31)).toInt32)) &&& 252645135).toUInt32 >>> ((8 : Int32).toUInt32 &&& Int32.toUInt32 31)).toInt32)).toUInt32 >>> ((16 : Int32).toUInt32 &&& Int32.toUInt32 31)).toInt32)) &&& 63, rfl, rfl, ht⟩) (fun q h => by cases h) dJ6_bitCount_0f7a4_52

set_option maxHeartbeats 4000000 in
set_option maxRecDepth 100000 in
theorem e_X6_fewest (l : Launch) (D : va_G) (E : Nat → ClassId) (G : Nat → Nat) (sz : Nat) (a : Nat → Nat) (C : Nat → va_E) (hT : TyX a E C) (x1 : Int32) (x2 : Int32) (x3 : Int32) : Met l yX6_fewest (oh_w yX6_fewest cX6_fewest 7 (some .int)) ({ frames := 5, cells := 0, slots := 0, locals := 124 }) (oh_Pm D E G [.ref (a 0), .int x1, .int x2, .int x3] (oh_W 35 a C) sz) (va_Qi (fun r (u : Nat → va_E) => TyX a E u ∧ fr [(7, 8), (9, 10), (24, 28)] [] C u ∧ (∀ A : LA, absX 10 C A → okA A → r = spFew A x1 x2 x3)) (oh_B D (va_A (oh_W 35 a C) sz) (fun u => oh_W 35 a u)) (va_A (oh_W 35 a C) sz)) 0 0 (va_A (oh_W 35 a C) sz) := by
  refine Met.ofW (cc := cX6_fewest) (maxL := 7) (ret := (some .int)) (by decide) rfl ?_
  intro p e s m args below meth c s₁ B hml hv
  obtain ⟨rfl, hsz, hP, hK, hD0, hG⟩ := hv
  have hx := B.exec
  have hb := B.bytes
  have hr := B.returns
  have hts := atoms_spec (ws := (oh_w yX6_fewest cX6_fewest 7 (some .int))) B.pre
  have htg : ∀ w ∈ oh_t, w.before _ s = true := fun w h => hts w (List.mem_cons_of_mem _ h)
  have hown : s.vm.findClass RX6 = some m.cls := findClass_of_methodNamed B.named
  have hlocks := B.notSynchronized
  have hT0 := hT
  subst hsz
  have hD := hD0.self (sz := s.heap.size)
  generalize hAe : va_A (oh_W 35 a C) s.heap.size = A at hD hG ⊢
  have hA : ∀ q : Nat, s.heap.size ≤ q → A q := fun q h => by rw [← hAe]; exact Or.inr h
  have hS : va_S A s.heap s.heap [] := va_S.rf
  have hF : fr [(7, 8), (9, 10), (24, 28)] [] C C := fr_rf
  have hl := lv_entry ([.ref (a 0), .int x1, .int x2, .int x3]) (n := 7) (Nat.le_of_ble_eq_true rfl)
  rw [lg_entry_eq]
  generalize (lg_sl ([.ref (a 0), .int x1, .int x2, .int x3]) ++ List.replicate (7 - (lg_sl ([.ref (a 0), .int x1, .int x2, .int x3])).length) Slot.unset).toArray = ls at hl ⊢
  have hl : lv_has ls 7 [(0, .ref (a 0)), (1, .int x1), (2, .int x2), (3, .int x3)] := hl
  refine oh_genQ (fun Q hQ => ?_)
  refine lv_aload_n hx hb dX6_fewest_0 rfl (lv_at hl 0 rfl) ?_
  refine lv_iload_n hx hb dX6_fewest_1 rfl (lv_at hl 1 rfl) ?_
  refine tq_V (As := [.int x1]) (rest := []) (ws := (oh_W 35 a C)) ⟨hx, hb, hml, hown, htg⟩ (e_X6_isWaggon l D E G a C hT x1) (cwV 1 htg (oh_gV q_679 q_681 q_15 q_66 q_682) rfl rfl rfl pdVX6_isWaggon ⟨Nat.le_of_ble_eq_true rfl, Nat.le_of_ble_eq_true rfl⟩) hK hP hG hS (va_recv hK hP (ci := 6) (q0 := 0) rfl (oh_wg (by decide) (sX_0 hT))) rfl hl.1 rfl (Nat.le_of_ble_eq_true rfl) dX6_fewest_2 ⟨Nat.le_of_ble_eq_true rfl, Nat.le_of_ble_eq_true rfl⟩ (fun r_1 hq_2 => ?_)
  refine lv_if_eq (tgt := 22) hx hb dX6_fewest_5 (by decide) (fun (c_3 : r_1 = 0) => ?_) (fun (c_3 : ¬ (r_1 = 0)) => ?_)
  · have u_4 := hq_2.2.2 c_3
    refine lv_aload_n hx hb dX6_fewest_22 rfl (lv_at hl 0 rfl) ?_
    refine lv_bipush (v := (-2)) hx hb dX6_fewest_23 (by decide) ?_
    refine tm_V (As := [.int (-2)]) (rest := []) ⟨hx, hb, hml, hown, htg⟩ (c_X6_refuse l D E G _ a C hT ((-2) : Int32)) (cwV 1 htg (oh_gV q_296 q_298 q_0 q_66 q_299) rfl rfl rfl pdVX6_refuse ⟨Nat.le_of_ble_eq_true rfl, Nat.le_of_ble_eq_true rfl⟩) hK hP hD hG hS hA (va_recv hK hP (ci := 6) (q0 := 0) rfl (oh_wg (by decide) (sX_0 hT))) rfl hl.1 rfl (Nat.le_of_ble_eq_true rfl) dX6_fewest_25 ⟨Nat.le_of_ble_eq_true rfl, Nat.le_of_ble_eq_true rfl⟩ (fun r_5 C_6 H locs hq_7 hP hD hS => ?_)
    obtain ⟨hT, f_8, hq_7⟩ := hq_7
    have hF := fr_tr hF f_8 (by decide) (by decide)
    refine W.widen (k := 0) (n := 0) (Nat.le_refl _) (Nat.le_refl _) ?_
    have t_9 := hT
    rw [hQ]
    exact W.iret (v := r_5) hx hb hr (fun t ht hW => ⟨⟨r_5, C_6, rfl, ⟨hT, hF, (fun A hA hok => Eq.trans hq_7 (pif_neg (fun h8 => by have h7 := h8.1; rw [← (show ga (C 10) ((2 : Int32)).toNatClampNeg = A 5 0 2 from hA.1 2 (by decide))] at h7; exact u_4 h7)).symm)⟩, ⟨by rw [ht]; exact hP, hD⟩⟩, hS.F ht⟩) hS.2.2 dX6_fewest_28
  · have u_10 := hq_2.2.1 c_3
    refine lv_iload_n hx hb dX6_fewest_8 rfl (lv_at hl 2 rfl) ?_
    refine tq_S (As := [.int x2]) (rest := []) (ws := []) ⟨hx, hb, hml, hown, htg⟩ (e_X6_isPlace l D E G x2) (va_cwS 1 htg (oh_gS q_413 q_414 q_66 q_415) rfl rfl rfl pdX6_isPlace ⟨Nat.le_of_ble_eq_true rfl, Nat.le_of_ble_eq_true rfl⟩) hK va_nil hG hS rfl hl.1 rfl (Nat.le_of_ble_eq_true rfl) dX6_fewest_9 ⟨Nat.le_of_ble_eq_true rfl, Nat.le_of_ble_eq_true rfl⟩ (fun r_11 hq_12 => ?_)
    refine lv_if_eq (tgt := 22) hx hb dX6_fewest_12 (by decide) (fun (c_13 : r_11 = 0) => ?_) (fun (c_13 : ¬ (r_11 = 0)) => ?_)
    · have u_14 := hq_12.2.2 c_13
      refine lv_aload_n hx hb dX6_fewest_22 rfl (lv_at hl 0 rfl) ?_
      refine lv_bipush (v := (-2)) hx hb dX6_fewest_23 (by decide) ?_
      refine tm_V (As := [.int (-2)]) (rest := []) ⟨hx, hb, hml, hown, htg⟩ (c_X6_refuse l D E G _ a C hT ((-2) : Int32)) (cwV 1 htg (oh_gV q_296 q_298 q_0 q_66 q_299) rfl rfl rfl pdVX6_refuse ⟨Nat.le_of_ble_eq_true rfl, Nat.le_of_ble_eq_true rfl⟩) hK hP hD hG hS hA (va_recv hK hP (ci := 6) (q0 := 0) rfl (oh_wg (by decide) (sX_0 hT))) rfl hl.1 rfl (Nat.le_of_ble_eq_true rfl) dX6_fewest_25 ⟨Nat.le_of_ble_eq_true rfl, Nat.le_of_ble_eq_true rfl⟩ (fun r_15 C_16 H locs hq_17 hP hD hS => ?_)
      obtain ⟨hT, f_18, hq_17⟩ := hq_17
      have hF := fr_tr hF f_18 (by decide) (by decide)
      refine W.widen (k := 0) (n := 0) (Nat.le_refl _) (Nat.le_refl _) ?_
      have t_19 := hT
      rw [hQ]
      exact W.iret (v := r_15) hx hb hr (fun t ht hW => ⟨⟨r_15, C_16, rfl, ⟨hT, hF, (fun A hA hok => Eq.trans hq_17 (pif_neg (fun h8 => u_14 h8.2.1)).symm)⟩, ⟨by rw [ht]; exact hP, hD⟩⟩, hS.F ht⟩) hS.2.2 dX6_fewest_28
    · have u_20 := hq_12.2.1 c_13
      refine lv_iload_n hx hb dX6_fewest_15 rfl (lv_at hl 3 rfl) ?_
      refine tq_S (As := [.int x3]) (rest := []) (ws := []) ⟨hx, hb, hml, hown, htg⟩ (e_X6_isPlace l D E G x3) (va_cwS 1 htg (oh_gS q_413 q_414 q_66 q_415) rfl rfl rfl pdX6_isPlace ⟨Nat.le_of_ble_eq_true rfl, Nat.le_of_ble_eq_true rfl⟩) hK va_nil hG hS rfl hl.1 rfl (Nat.le_of_ble_eq_true rfl) dX6_fewest_16 ⟨Nat.le_of_ble_eq_true rfl, Nat.le_of_ble_eq_true rfl⟩ (fun r_21 hq_22 => ?_)
      refine lv_if_ne (tgt := 29) hx hb dX6_fewest_19 (by decide) (fun (c_23 : ¬ (r_21 = 0)) => ?_) (fun (c_23 : r_21 = 0) => ?_)
      · have u_24 := hq_22.2.1 c_23
        refine lv_iconst (v := (-1)) hx hb dX6_fewest_29 (by decide) ?_
        refine lv_istore (lv' := [(4, .int (-1)), (0, .ref (a 0)), (1, .int x1), (2, .int x2), (3, .int x3)]) hx hb dX6_fewest_30 hl (by decide) rfl (fun ls hl => ?_)
        refine va_gets hx hb hG.2.2.2.1.1 hS hown (htg _ q_880) (fun _ h9 => h9) dX6_fewest_32 ?_
        refine lv_iconst (v := 3) hx hb dX6_fewest_35 (by decide) ?_
        refine va_ti (v := .int 5) hx hb hG.2.2.2.1.2 hS (rg_in (rg_c (v := 3) (lo := 3) (hi := 3) (by decide)) (by decide)) (by decide) dX6_fewest_36 ?_
        refine lv_iconst (v := 1) hx hb dX6_fewest_37 (by decide) ?_
        refine lv_iadd hx hb dX6_fewest_38 ?_
        refine oh_nrm (v := 6) (by decide) ?_
        refine lv_istore (lv' := [(5, .int 6), (4, .int (-1)), (0, .ref (a 0)), (1, .int x1), (2, .int x2), (3, .int x3)]) hx hb dX6_fewest_39 hl (by decide) rfl (fun ls hl => ?_)
        refine lv_iconst (v := 0) hx hb dX6_fewest_41 (by decide) ?_
        refine lv_istore (lv' := [(6, .int 0), (5, .int 6), (4, .int (-1)), (0, .ref (a 0)), (1, .int x1), (2, .int x2), (3, .int x3)]) hx hb dX6_fewest_42 hl (by decide) rfl (fun ls hl => ?_)
        have L_44 : ∀ (d : Nat) (K44 : Nat → va_E) (z44_6 : Int32) (z44_5 : Int32) (z44_4 : Int32) (H : Heap) (locs : List Loc) (ls : Array Slot), (32 - z44_6.toInt).toNat = d → rg z44_6 0 32 → (∀ A : LA, absX 10 C A → okA A → x1 < A 5 0 2 → fwI (fwH A x1 x2 x3) z44_6.toNatClampNeg z44_4 z44_5) → (z44_6.toInt ≤ ((1 : Int32) <<< ((ga (C 10) ((3 : Int32)).toNatClampNeg) &&& 31)).toInt) → TyX a E K44 → fr [(7, 8), (9, 10), (24, 28)] [] C K44 → fr [(9, 10), (24, 28)] [] C K44 → va_P D vwCl (oh_W 35 a K44) H → va_D A (oh_W 35 a K44) → va_S A s.heap H locs → lv_has ls 7 [(6, .int z44_6), (5, .int z44_5), (4, .int z44_4), (0, .ref (a 0)), (1, .int x1), (2, .int x2), (3, .int x3)] → W p l e ({ frames := 5, cells := 0, slots := 0, locals := 124 }) s m (([.ref (a 0), .int x1, .int x2, .int x3] : List Value).toArray) below meth c H locs 0 0 Q (F0 m 44 ls []) := by
          intro d
          induction d using Nat.strongRecOn with
          | ind d ih_44 =>
          intro K44 z44_6 z44_5 z44_4 H locs ls hd_44 hz44_6 hv_44 hy_44 hT hF hLF_44 hP hD hS hl
          have t_25 := hT
          refine lv_iload hx hb dX6_fewest_44 (lv_at hl 0 rfl) ?_
          refine lv_aload_n hx hb dX6_fewest_46 rfl (lv_at hl 3 rfl) ?_
          refine va_get (D := D) (ci := 6) (v := .ref (a 1)) (C := RX6) (T := TX6) (N := 9) hx hb htg ig_6 hown hK hP 0 (oh_wg (by decide) (sX_0 hT)) rfl 0 (by decide) (htg _ q_258) (fun _ h9 => h9) rfl dX6_fewest_47 ?_
          refine tq_V (As := []) (rest := [.int z44_6]) (ws := (oh_W 35 a K44)) ⟨hx, hb, hml, hown, htg⟩ (e_X0_setsOfParts l D E G a K44 hT) (cwV 0 htg (oh_gV q_699 q_700 q_701 q_67 q_702) rfl rfl rfl pdVX0_setsOfParts ⟨Nat.le_of_ble_eq_true rfl, Nat.le_of_ble_eq_true rfl⟩) hK hP hG hS (va_recv hK hP (ci := 0) (q0 := 1) rfl (oh_wg (by decide) (sX_1 hT))) rfl hl.1 rfl (Nat.le_of_ble_eq_true rfl) dX6_fewest_50 ⟨Nat.le_of_ble_eq_true rfl, Nat.le_of_ble_eq_true rfl⟩ (fun r_26 hq_27 => ?_)
          subst hq_27
          refine lv_icmp_ge (tgt := 98) hx hb dX6_fewest_53 (by decide) (fun (c_28 : ((1 : Int32) <<< ((ga (K44 10) ((3 : Int32)).toNatClampNeg) &&& 31)) ≤ z44_6) => ?_) (fun (c_28 : ¬ (((1 : Int32) <<< ((ga (K44 10) ((3 : Int32)).toNatClampNeg) &&& 31)) ≤ z44_6)) => ?_)
          · refine lv_iload hx hb dX6_fewest_98 (lv_at hl 2 rfl) ?_
            refine lv_iconst (v := (-1)) hx hb dX6_fewest_100 (by decide) ?_
            refine lv_icmp_ne (tgt := 113) hx hb dX6_fewest_101 (by decide) (fun (c_29 : ¬ (z44_4 = (-1))) => ?_) (fun (c_29 : z44_4 = (-1)) => ?_)
            · refine lv_iload hx hb dX6_fewest_113 (lv_at hl 2 rfl) ?_
              rw [hQ]
              exact W.iret (v := z44_4) hx hb hr (fun t ht hW => ⟨⟨z44_4, K44, rfl, ⟨hT, hF, (fun A hA hok => by have h1 : 0 ≤ x1 ∧ x1 < A 5 0 2 := (by rw [← (show ga (C 10) ((2 : Int32)).toNatClampNeg = A 5 0 2 from hA.1 2 (by decide))]; exact u_10.2); have h7 := hv_44 A hA hok h1.2; rw [nS_of (show ga (C 10) ((3 : Int32)).toNatClampNeg = A 5 0 3 from hA.1 3 (by decide)) (rg_w (lo := 0) (hi := 5) (tA_rdc (lo := 0) (hi := 5) (tX_10 hT0) (rg_in (rg_c (v := 3) (lo := 3) (hi := 3) (by decide)) (by decide)) (show _ = 3 by decide) (by decide)) (by decide)) (rg_w (lo := 0) (hi := 32) (rn_lel c_28 (rg_shl1 (tA_rdc (lo := 0) (hi := 5) (tX_10 t_25) (rg_in (rg_c (v := 3) (lo := 3) (hi := 3) (by decide)) (by decide)) (show _ = 3 by decide) (by decide))) hz44_6) (by decide)) (by have h9 := c_28; rw [show K44 10 = C 10 from (hLF_44.1 10 rfl (by decide))] at h9; exact h9) hy_44] at h7; exact Eq.trans (spOf_eq (fw_e2 h7 c_29) fwR_u) (pif_pos ⟨h1, (oh_rgI (p := 0) (q := 15) (rg_w (lo := 0) (hi := 15) u_20 (by decide))), (oh_rgI (p := 0) (q := 15) (rg_w (lo := 0) (hi := 15) u_24 (by decide)))⟩).symm)⟩, ⟨by rw [ht]; exact hP, hD⟩⟩, hS.F ht⟩) hS.2.2 dX6_fewest_115
            · refine lv_aload_n hx hb dX6_fewest_104 rfl (lv_at hl 3 rfl) ?_
              refine lv_bipush (v := (-5)) hx hb dX6_fewest_105 (by decide) ?_
              refine tm_V (As := [.int (-5)]) (rest := []) ⟨hx, hb, hml, hown, htg⟩ (c_X6_refuse l D E G _ a K44 hT ((-5) : Int32)) (cwV 1 htg (oh_gV q_296 q_298 q_0 q_66 q_299) rfl rfl rfl pdVX6_refuse ⟨Nat.le_of_ble_eq_true rfl, Nat.le_of_ble_eq_true rfl⟩) hK hP hD hG hS hA (va_recv hK hP (ci := 6) (q0 := 0) rfl (oh_wg (by decide) (sX_0 hT))) rfl hl.1 rfl (Nat.le_of_ble_eq_true rfl) dX6_fewest_107 ⟨Nat.le_of_ble_eq_true rfl, Nat.le_of_ble_eq_true rfl⟩ (fun r_30 C_31 H locs hq_32 hP hD hS => ?_)
              obtain ⟨hT, f_33, hq_32⟩ := hq_32
              have hF := fr_tr hF f_33 (by decide) (by decide)
              refine W.widen (k := 0) (n := 0) (Nat.le_refl _) (Nat.le_refl _) ?_
              have t_34 := hT
              refine lv_goto (tgt := 115) hx hb dX6_fewest_110 (by decide) ?_
              rw [hQ]
              exact W.iret (v := r_30) hx hb hr (fun t ht hW => ⟨⟨r_30, C_31, rfl, ⟨hT, hF, (fun A hA hok => by have h1 : 0 ≤ x1 ∧ x1 < A 5 0 2 := (by rw [← (show ga (C 10) ((2 : Int32)).toNatClampNeg = A 5 0 2 from hA.1 2 (by decide))]; exact u_10.2); have h7 := hv_44 A hA hok h1.2; rw [nS_of (show ga (C 10) ((3 : Int32)).toNatClampNeg = A 5 0 3 from hA.1 3 (by decide)) (rg_w (lo := 0) (hi := 5) (tA_rdc (lo := 0) (hi := 5) (tX_10 hT0) (rg_in (rg_c (v := 3) (lo := 3) (hi := 3) (by decide)) (by decide)) (show _ = 3 by decide) (by decide)) (by decide)) (rg_w (lo := 0) (hi := 32) (rn_lel c_28 (rg_shl1 (tA_rdc (lo := 0) (hi := 5) (tX_10 t_25) (rg_in (rg_c (v := 3) (lo := 3) (hi := 3) (by decide)) (by decide)) (show _ = 3 by decide) (by decide))) hz44_6) (by decide)) (by have h9 := c_28; rw [show K44 10 = C 10 from (hLF_44.1 10 rfl (by decide))] at h9; exact h9) hy_44] at h7; exact Eq.trans (spOf_eq (fw_e1 h7 c_29 hq_32) fwR_u) (pif_pos ⟨h1, (oh_rgI (p := 0) (q := 15) (rg_w (lo := 0) (hi := 15) u_20 (by decide))), (oh_rgI (p := 0) (q := 15) (rg_w (lo := 0) (hi := 15) u_24 (by decide)))⟩).symm)⟩, ⟨by rw [ht]; exact hP, hD⟩⟩, hS.F ht⟩) hS.2.2 dX6_fewest_115
          · refine lv_iload hx hb dX6_fewest_56 (lv_at hl 0 rfl) ?_
            refine tq_S (As := [.int z44_6]) (rest := []) (ws := []) ⟨hx, hb, hml, hown, htg⟩ (e_J6_bitCount l D E G z44_6) (va_cwS 1 htg (oh_gS q_854 q_855 q_80 q_856) rfl rfl rfl pdJ6_bitCount_0f7a4 ⟨Nat.le_of_ble_eq_true rfl, Nat.le_of_ble_eq_true rfl⟩) hK va_nil hG hS rfl hl.1 rfl (Nat.le_of_ble_eq_true rfl) dX6_fewest_58 ⟨Nat.le_of_ble_eq_true rfl, Nat.le_of_ble_eq_true rfl⟩ (fun r_35 hq_36 => ?_)
            refine lv_iload hx hb dX6_fewest_61 (lv_at hl 1 rfl) ?_
            refine lv_icmp_ge (tgt := 92) hx hb dX6_fewest_63 (by decide) (fun (c_37 : z44_5 ≤ r_35) => ?_) (fun (c_37 : ¬ (z44_5 ≤ r_35)) => ?_)
            · refine lv_iinc (v := z44_6 + 1) (lv' := [(6, .int (z44_6 + 1)), (5, .int z44_5), (4, .int z44_4), (0, .ref (a 0)), (1, .int x1), (2, .int x2), (3, .int x3)]) hx hb dX6_fewest_92 hl (k := 0) rfl (by rfl) (by decide) rfl (fun ls hl => ?_)
              refine lv_goto (tgt := 44) hx hb dX6_fewest_95 (by decide) ?_
              exact ih_44 _ (hd_44 ▸ mu_up 32 (rn_ltu (u' := 31) (Int32.not_le.mp c_28) hz44_6 (rg_shl1 (tA_rdc (lo := 0) (hi := 5) (tX_10 t_25) (rg_in (rg_c (v := 3) (lo := 3) (hi := 3) (by decide)) (by decide)) (show _ = 3 by decide) (by decide))) (by decide)) (by decide)) K44 (z44_6 + 1) z44_5 z44_4 _ _ ls rfl (rg_w (rg_add (lo := 1) (hi := 32) (rn_ltu (u' := 31) (Int32.not_le.mp c_28) hz44_6 (rg_shl1 (tA_rdc (lo := 0) (hi := 5) (tX_10 t_25) (rg_in (rg_c (v := 3) (lo := 3) (hi := 3) (by decide)) (by decide)) (show _ = 3 by decide) (by decide))) (by decide)) (rg_c (v := 1) (lo := 1) (hi := 1) (by decide)) (by decide)) (by decide)) (fun A hA hok hl => fwX_n (hv_44 A hA hok hl) (rg_w (lo := 0) (hi := 31) (rn_ltu (u' := 31) (Int32.not_le.mp c_28) hz44_6 (rg_shl1 (tA_rdc (lo := 0) (hi := 5) (tX_10 t_25) (rg_in (rg_c (v := 3) (lo := 3) (hi := 3) (by decide)) (by decide)) (show _ = 3 by decide) (by decide))) (by decide)) (by decide)) hq_36 (fun q => absurd q.1 (Int32.not_lt.mpr c_37))) (by have h7 := Int32.lt_iff_toInt_lt.mp (by have h9 := (Int32.not_le.mp c_28); rw [show K44 10 = C 10 from (hLF_44.1 10 rfl (by decide))] at h9; exact h9); have h8 : (z44_6 + 1).toInt = z44_6.toInt + 1 := oh_incr (rn_ltu (u' := 31) (Int32.not_le.mp c_28) hz44_6 (rg_shl1 (tA_rdc (lo := 0) (hi := 5) (tX_10 t_25) (rg_in (rg_c (v := 3) (lo := 3) (hi := 3) (by decide)) (by decide)) (show _ = 3 by decide) (by decide))) (by decide)) (by decide); omega) hT hF hLF_44 hP hD hS (lv_sub hl [0, 1, 2, 3, 4, 5, 6] rfl)
            · refine lv_aload_n hx hb dX6_fewest_66 rfl (lv_at hl 3 rfl) ?_
              refine va_get (D := D) (ci := 6) (v := .ref (a 3)) (C := RX6) (T := TX6) (N := 9) hx hb htg ig_6 hown hK hP 0 (oh_wg (by decide) (sX_0 hT)) rfl 3 (by decide) (htg _ q_261) (fun _ h9 => h9) rfl dX6_fewest_67 ?_
              refine lv_iload_n hx hb dX6_fewest_70 rfl (lv_at hl 4 rfl) ?_
              refine lv_iload hx hb dX6_fewest_71 (lv_at hl 0 rfl) ?_
              refine lv_iload_n hx hb dX6_fewest_73 rfl (lv_at hl 5 rfl) ?_
              refine lv_iload_n hx hb dX6_fewest_74 rfl (lv_at hl 6 rfl) ?_
              refine tm_V (As := [.int x1, .int z44_6, .int x2, .int x3]) (rest := []) ⟨hx, hb, hml, hown, htg⟩ (e_X5_hasWay l D E G _ a K44 hT x1 z44_6 x2 x3 (rg_w u_10.1 (by decide)) (rg_w u_20 (by decide)) (rg_w u_24 (by decide))) (cwV 4 htg (oh_gV q_881 q_882 q_883 q_68 q_884) rfl rfl rfl pdVX5_hasWay ⟨Nat.le_of_ble_eq_true rfl, Nat.le_of_ble_eq_true rfl⟩) hK hP hD hG hS hA (va_recv hK hP (ci := 5) (q0 := 3) rfl (oh_wg (by decide) (sX_3 hT))) rfl hl.1 rfl (Nat.le_of_ble_eq_true rfl) dX6_fewest_75 ⟨Nat.le_of_ble_eq_true rfl, Nat.le_of_ble_eq_true rfl⟩ (fun r_38 C_39 H locs hq_40 hP hD hS => ?_)
              obtain ⟨hT, f_41, hq_40⟩ := hq_40
              have hF := fr_tr hF f_41 (by decide) (by decide)
              refine W.widen (k := 0) (n := 0) (Nat.le_refl _) (Nat.le_refl _) ?_
              have t_42 := hT
              refine lv_if_eq (tgt := 92) hx hb dX6_fewest_78 (by decide) (fun (c_43 : r_38 = 0) => ?_) (fun (c_43 : ¬ (r_38 = 0)) => ?_)
              · refine lv_iinc (v := z44_6 + 1) (lv' := [(6, .int (z44_6 + 1)), (5, .int z44_5), (4, .int z44_4), (0, .ref (a 0)), (1, .int x1), (2, .int x2), (3, .int x3)]) hx hb dX6_fewest_92 hl (k := 0) rfl (by rfl) (by decide) rfl (fun ls hl => ?_)
                refine lv_goto (tgt := 44) hx hb dX6_fewest_95 (by decide) ?_
                exact ih_44 _ (hd_44 ▸ mu_up 32 (rn_ltu (u' := 31) (Int32.not_le.mp c_28) hz44_6 (rg_shl1 (tA_rdc (lo := 0) (hi := 5) (tX_10 t_25) (rg_in (rg_c (v := 3) (lo := 3) (hi := 3) (by decide)) (by decide)) (show _ = 3 by decide) (by decide))) (by decide)) (by decide)) C_39 (z44_6 + 1) z44_5 z44_4 _ _ ls rfl (rg_w (rg_add (lo := 1) (hi := 32) (rn_ltu (u' := 31) (Int32.not_le.mp c_28) hz44_6 (rg_shl1 (tA_rdc (lo := 0) (hi := 5) (tX_10 t_25) (rg_in (rg_c (v := 3) (lo := 3) (hi := 3) (by decide)) (by decide)) (show _ = 3 by decide) (by decide))) (by decide)) (rg_c (v := 1) (lo := 1) (hi := 1) (by decide)) (by decide)) (by decide)) (fun A hA hok hl => fwX_n (hv_44 A hA hok hl) (rg_w (lo := 0) (hi := 31) (rn_ltu (u' := 31) (Int32.not_le.mp c_28) hz44_6 (rg_shl1 (tA_rdc (lo := 0) (hi := 5) (tX_10 t_25) (rg_in (rg_c (v := 3) (lo := 3) (hi := 3) (by decide)) (by decide)) (show _ = 3 by decide) (by decide))) (by decide)) (by decide)) hq_36 (fun q => absurd (Eq.trans (Eq.symm ((hq_40.2 A (absX_eq hA (fr_all hLF_44 10 15 (by decide))) hok hl).mpr q.2)) c_43) (by decide))) (by have h7 := Int32.lt_iff_toInt_lt.mp (by have h9 := (Int32.not_le.mp c_28); rw [show K44 10 = C 10 from (hLF_44.1 10 rfl (by decide))] at h9; exact h9); have h8 : (z44_6 + 1).toInt = z44_6.toInt + 1 := oh_incr (rn_ltu (u' := 31) (Int32.not_le.mp c_28) hz44_6 (rg_shl1 (tA_rdc (lo := 0) (hi := 5) (tX_10 t_25) (rg_in (rg_c (v := 3) (lo := 3) (hi := 3) (by decide)) (by decide)) (show _ = 3 by decide) (by decide))) (by decide)) (by decide); omega) hT hF (fr_tr hLF_44 f_41 (by decide) (by decide)) hP hD hS (lv_sub hl [0, 1, 2, 3, 4, 5, 6] rfl)
              · refine lv_iload hx hb dX6_fewest_81 (lv_at hl 0 rfl) ?_
                refine lv_istore (lv' := [(4, .int z44_6), (6, .int z44_6), (5, .int z44_5), (0, .ref (a 0)), (1, .int x1), (2, .int x2), (3, .int x3)]) hx hb dX6_fewest_83 hl (by decide) rfl (fun ls hl => ?_)
                refine lv_iload hx hb dX6_fewest_85 (lv_at hl 1 rfl) ?_
                refine tq_S (As := [.int z44_6]) (rest := []) (ws := []) ⟨hx, hb, hml, hown, htg⟩ (e_J6_bitCount l D E G z44_6) (va_cwS 1 htg (oh_gS q_854 q_855 q_80 q_856) rfl rfl rfl pdJ6_bitCount_0f7a4 ⟨Nat.le_of_ble_eq_true rfl, Nat.le_of_ble_eq_true rfl⟩) hK va_nil hG hS rfl hl.1 rfl (Nat.le_of_ble_eq_true rfl) dX6_fewest_87 ⟨Nat.le_of_ble_eq_true rfl, Nat.le_of_ble_eq_true rfl⟩ (fun r_44 hq_45 => ?_)
                refine lv_istore (lv' := [(5, .int r_44), (4, .int z44_6), (6, .int z44_6), (0, .ref (a 0)), (1, .int x1), (2, .int x2), (3, .int x3)]) hx hb dX6_fewest_90 hl (by decide) rfl (fun ls hl => ?_)
                refine lv_iinc (v := z44_6 + 1) (lv' := [(6, .int (z44_6 + 1)), (5, .int r_44), (4, .int z44_6), (0, .ref (a 0)), (1, .int x1), (2, .int x2), (3, .int x3)]) hx hb dX6_fewest_92 hl (k := 2) rfl (by rfl) (by decide) rfl (fun ls hl => ?_)
                refine lv_goto (tgt := 44) hx hb dX6_fewest_95 (by decide) ?_
                exact ih_44 _ (hd_44 ▸ mu_up 32 (rn_ltu (u' := 31) (Int32.not_le.mp c_28) hz44_6 (rg_shl1 (tA_rdc (lo := 0) (hi := 5) (tX_10 t_25) (rg_in (rg_c (v := 3) (lo := 3) (hi := 3) (by decide)) (by decide)) (show _ = 3 by decide) (by decide))) (by decide)) (by decide)) C_39 (z44_6 + 1) r_44 z44_6 _ _ ls rfl (rg_w (rg_add (lo := 1) (hi := 32) (rn_ltu (u' := 31) (Int32.not_le.mp c_28) hz44_6 (rg_shl1 (tA_rdc (lo := 0) (hi := 5) (tX_10 t_25) (rg_in (rg_c (v := 3) (lo := 3) (hi := 3) (by decide)) (by decide)) (show _ = 3 by decide) (by decide))) (by decide)) (rg_c (v := 1) (lo := 1) (hi := 1) (by decide)) (by decide)) (by decide)) (fun A hA hok hl => by rw [hq_45]; exact fwX_y (hv_44 A hA hok hl) (rg_w (lo := 0) (hi := 31) (rn_ltu (u' := 31) (Int32.not_le.mp c_28) hz44_6 (rg_shl1 (tA_rdc (lo := 0) (hi := 5) (tX_10 t_25) (rg_in (rg_c (v := 3) (lo := 3) (hi := 3) (by decide)) (by decide)) (show _ = 3 by decide) (by decide))) (by decide)) (by decide)) hq_36 (Int32.not_le.mp c_37) ((hq_40.2 A (absX_eq hA (fr_all hLF_44 10 15 (by decide))) hok hl).mp (oh_b1 (rg_w (lo := 0) (hi := 1) (rn_nel (l' := 1) c_43 (oh_rgb hq_40.1) (rg_c (v := 0) (lo := 0) (hi := 0) (by decide)) (by decide)) (by decide)) c_43))) (by have h7 := Int32.lt_iff_toInt_lt.mp (by have h9 := (Int32.not_le.mp c_28); rw [show K44 10 = C 10 from (hLF_44.1 10 rfl (by decide))] at h9; exact h9); have h8 : (z44_6 + 1).toInt = z44_6.toInt + 1 := oh_incr (rn_ltu (u' := 31) (Int32.not_le.mp c_28) hz44_6 (rg_shl1 (tA_rdc (lo := 0) (hi := 5) (tX_10 t_25) (rg_in (rg_c (v := 3) (lo := 3) (hi := 3) (by decide)) (by decide)) (show _ = 3 by decide) (by decide))) (by decide)) (by decide); omega) hT hF (fr_tr hLF_44 f_41 (by decide) (by decide)) hP hD hS (lv_sub hl [0, 1, 2, 3, 4, 5, 6] rfl)
        exact L_44 _ C 0 6 (-1) _ _ ls rfl (rg_w (rg_c (v := 0) (lo := 0) (hi := 0) (by decide)) (by decide)) (fun A hA hok hl => fw_0) (Int.le_trans (show (0 : Int32).toInt ≤ 1 by decide) (rg_shl1 (rg_w (lo := 0) (hi := 5) (tA_rdc (lo := 0) (hi := 5) (tX_10 hT0) (rg_in (rg_c (v := 3) (lo := 3) (hi := 3) (by decide)) (by decide)) (show _ = 3 by decide) (by decide)) (by decide))).1) hT hF fr_rf hP hD hS (lv_sub hl [0, 1, 2, 3, 4, 5, 6] rfl)
      · have u_46 := hq_22.2.2 c_23
        refine lv_aload_n hx hb dX6_fewest_22 rfl (lv_at hl 0 rfl) ?_
        refine lv_bipush (v := (-2)) hx hb dX6_fewest_23 (by decide) ?_
        refine tm_V (As := [.int (-2)]) (rest := []) ⟨hx, hb, hml, hown, htg⟩ (c_X6_refuse l D E G _ a C hT ((-2) : Int32)) (cwV 1 htg (oh_gV q_296 q_298 q_0 q_66 q_299) rfl rfl rfl pdVX6_refuse ⟨Nat.le_of_ble_eq_true rfl, Nat.le_of_ble_eq_true rfl⟩) hK hP hD hG hS hA (va_recv hK hP (ci := 6) (q0 := 0) rfl (oh_wg (by decide) (sX_0 hT))) rfl hl.1 rfl (Nat.le_of_ble_eq_true rfl) dX6_fewest_25 ⟨Nat.le_of_ble_eq_true rfl, Nat.le_of_ble_eq_true rfl⟩ (fun r_47 C_48 H locs hq_49 hP hD hS => ?_)
        obtain ⟨hT, f_50, hq_49⟩ := hq_49
        have hF := fr_tr hF f_50 (by decide) (by decide)
        refine W.widen (k := 0) (n := 0) (Nat.le_refl _) (Nat.le_refl _) ?_
        have t_51 := hT
        rw [hQ]
        exact W.iret (v := r_47) hx hb hr (fun t ht hW => ⟨⟨r_47, C_48, rfl, ⟨hT, hF, (fun A hA hok => Eq.trans hq_49 (pif_neg (fun h8 => u_46 h8.2.2)).symm)⟩, ⟨by rw [ht]; exact hP, hD⟩⟩, hS.F ht⟩) hS.2.2 dX6_fewest_28

set_option maxHeartbeats 4000000 in
set_option maxRecDepth 100000 in
theorem e_X7_bits (l : Launch) (D : va_G) (E : Nat → ClassId) (G : Nat → Nat) (x1 : Int32) : Met l yX7_bits (oh_w yX7_bits cX7_bits 3 (some .int)) ({ frames := 0, cells := 0, slots := 0, locals := 0 }) (oh_Pp D E G [.int x1] []) (vp_Si (fun r => (r = btI x1 16))) 0 0 (fun _ => False) := by
  refine Met.ofW (cc := cX7_bits) (maxL := 3) (ret := (some .int)) (by decide) rfl ?_
  intro p e s m args below meth c s₁ B hml hv
  obtain ⟨rfl, hP, hK, hG⟩ := hv
  have hx := B.exec
  have hb := B.bytes
  have hr := B.returns
  have hts := atoms_spec (ws := (oh_w yX7_bits cX7_bits 3 (some .int))) B.pre
  have htg : ∀ w ∈ oh_t, w.before _ s = true := fun w h => hts w (List.mem_cons_of_mem _ h)
  have hown : s.vm.findClass RX7 = some m.cls := findClass_of_methodNamed B.named
  have hlocks := B.notSynchronized
  have hS : va_S (fun _ => False) s.heap s.heap [] := va_S.rf
  have hl := lv_entry ([.int x1]) (n := 3) (Nat.le_of_ble_eq_true rfl)
  rw [lg_entry_eq]
  generalize (lg_sl ([.int x1]) ++ List.replicate (3 - (lg_sl ([.int x1])).length) Slot.unset).toArray = ls at hl ⊢
  have hl : lv_has ls 3 [(0, .int x1)] := hl
  refine oh_genQ (fun Q hQ => ?_)
  refine lv_iconst (v := 0) hx hb dX7_bits_0 (by decide) ?_
  refine lv_istore_n (lv' := [(1, .int 0), (0, .int x1)]) hx hb dX7_bits_1 rfl hl (by decide) rfl (fun ls hl => ?_)
  refine lv_iconst (v := 0) hx hb dX7_bits_2 (by decide) ?_
  refine lv_istore_n (lv' := [(2, .int 0), (1, .int 0), (0, .int x1)]) hx hb dX7_bits_3 rfl hl (by decide) rfl (fun ls hl => ?_)
  have L_4 : ∀ (d : Nat) (z4_2 : Int32) (z4_1 : Int32) (ls : Array Slot), (16 - z4_2.toInt).toNat = d → rg z4_2 0 16 → (z4_1 = btI x1 z4_2.toNatClampNeg) → lv_has ls 3 [(2, .int z4_2), (1, .int z4_1), (0, .int x1)] → W p l e ({ frames := 0, cells := 0, slots := 0, locals := 0 }) s m (([.int x1] : List Value).toArray) below meth c s.heap [] 0 0 Q (F0 m 4 ls []) := by
    intro d
    induction d using Nat.strongRecOn with
    | ind d ih_4 =>
    intro z4_2 z4_1 ls hd_4 hz4_2 hx_4 hl
    refine lv_iload_n hx hb dX7_bits_4 rfl (lv_at hl 0 rfl) ?_
    refine lv_bipush (v := 16) hx hb dX7_bits_5 (by decide) ?_
    refine lv_icmp_ge (tgt := 24) hx hb dX7_bits_7 (by decide) (fun (c_1 : (16 : Int32) ≤ z4_2) => ?_) (fun (c_1 : ¬ ((16 : Int32) ≤ z4_2)) => ?_)
    · refine lv_iload_n hx hb dX7_bits_24 rfl (lv_at hl 1 rfl) ?_
      rw [hQ]
      exact W.iret (v := z4_1) hx hb hr (fun t ht hW => ⟨z4_1, rfl, (by have h7 := hx_4; rw [oh_zeq (k := 16) hz4_2 c_1 (by decide)] at h7; exact h7), ht⟩) (fun q h => by cases h) dX7_bits_25
    · refine lv_iload_n hx hb dX7_bits_10 rfl (lv_at hl 1 rfl) ?_
      refine lv_iload_n hx hb dX7_bits_11 rfl (lv_at hl 2 rfl) ?_
      refine lv_iload_n hx hb dX7_bits_12 rfl (lv_at hl 0 rfl) ?_
      refine lv_ishr hx hb dX7_bits_13 ?_
      refine lv_iconst (v := 1) hx hb dX7_bits_14 (by decide) ?_
      refine lv_iand hx hb dX7_bits_15 ?_
      refine lv_iadd hx hb dX7_bits_16 ?_
      refine lv_istore_n (lv' := [(1, .int (z4_1 + ((x1 >>> (z4_2 &&& 31)) &&& 1))), (2, .int z4_2), (0, .int x1)]) hx hb dX7_bits_17 rfl hl (by decide) rfl (fun ls hl => ?_)
      refine lv_iinc (v := z4_2 + 1) (lv' := [(2, .int (z4_2 + 1)), (1, .int (z4_1 + ((x1 >>> (z4_2 &&& 31)) &&& 1))), (0, .int x1)]) hx hb dX7_bits_18 hl (k := 1) rfl (by rfl) (by decide) rfl (fun ls hl => ?_)
      refine lv_goto (tgt := 4) hx hb dX7_bits_21 (by decide) ?_
      exact ih_4 _ (hd_4 ▸ mu_up 16 (rn_ltu (u' := 15) (Int32.not_le.mp c_1) hz4_2 (rg_c (v := 16) (lo := 16) (hi := 16) (by decide)) (by decide)) (by decide)) (z4_2 + 1) (z4_1 + ((x1 >>> (z4_2 &&& 31)) &&& 1)) ls rfl (rg_w (rg_add (lo := 1) (hi := 16) (rn_ltu (u' := 15) (Int32.not_le.mp c_1) hz4_2 (rg_c (v := 16) (lo := 16) (hi := 16) (by decide)) (by decide)) (rg_c (v := 1) (lo := 1) (hi := 1) (by decide)) (by decide)) (by decide)) (by rw [bt_s (rg_w (lo := 0) (hi := 15) (rn_ltu (u' := 15) (Int32.not_le.mp c_1) hz4_2 (rg_c (v := 16) (lo := 16) (hi := 16) (by decide)) (by decide)) (by decide)), ← hx_4]) (lv_sub hl [0, 1, 2] rfl)
  exact L_4 _ 0 0 ls rfl (rg_w (rg_c (v := 0) (lo := 0) (hi := 0) (by decide)) (by decide)) rfl (lv_sub hl [0, 1, 2] rfl)

theorem pop_le : ∀ p : Nat, p < 6 → ∀ k : Nat, k < 32 → k < ((1 : Int32) <<< (Int32.ofNat p &&& 31)).toNatClampNeg → popN k ≤ p := by decide +kernel
theorem shl_32 : ∀ p : Nat, p < 6 → ((1 : Int32) <<< (Int32.ofNat p &&& 31)).toNatClampNeg ≤ 32 := by decide +kernel
theorem pop_A {A : LA} (h : rg (A 5 0 3) 0 5) {k : Nat} (hk : k < nS A) : k < 32 ∧ popN k ≤ (A 5 0 3).toNatClampNeg := by
  have hp : (A 5 0 3).toNatClampNeg < 6 := by
    have := oh_nat h (by decide)
    have := h.2
    omega
  have e := oh_ofc h (by decide)
  have h1 := shl_32 _ hp
  have h2 := pop_le _ hp k
  unfold nS at hk
  rw [e] at h1 h2
  exact ⟨by omega, h2 (by omega) hk⟩
def fmO (P : Nat → Prop) (N n : Nat) : Prop := ∀ k, k < N → P k → n ≤ popN k
def fmI (P : Nat → Prop) (N n s : Nat) : Prop := fmO P N n ∧ ∀ k, k < s → P k → ¬ popN k = n
theorem fm_s {P : Nat → Prop} {N n s : Nat} (h : fmI P N n s) (c : ¬ (popN s = n ∧ P s)) : fmI P N n (s + 1) := by
  refine ⟨h.1, fun k hk pk => ?_⟩
  by_cases e : k = s
  · intro q
    rw [e] at q pk
    exact c ⟨q, pk⟩
  · exact h.2 k (by omega) pk
theorem fm_o {P : Nat → Prop} {N n s : Nat} (h : fmI P N n s) (c : N ≤ s) : fmO P N (n + 1) := by
  intro k hk pk
  have h1 := h.1 k hk pk
  have h2 := h.2 k (by omega) pk
  omega
theorem fm_r {P : Nat → Prop} {N n s : Nat} (h : fmI P N n s) (hs : s < N) (e : popN s = n) (q : P s) : fwR P N (Int32.ofNat s) := by
  refine Or.inr ⟨s, rfl, hs, q, fun k hk pk => ?_⟩
  have h1 := h.1 k hk pk
  by_cases c : k < s
  · have h2 := h.2 k c pk
    omega
  · omega
theorem fm_e {P : Nat → Prop} {N n : Nat} {r : Int32} (h : fmO P N n) (c : ∀ k, k < N → popN k < n) (er : r = -5) : fwR P N r := Or.inl ⟨er, fun k hk pk => by have h1 := h k hk pk; have h2 := c k hk; omega⟩
theorem fmM_s {A : LA} {w f t n z r : Int32} (h : fmI (fwH A w f t) (nS A) n.toNatClampNeg z.toNatClampNeg) (hz : rg z 0 31) (hn : rg n 0 5) (er : r = btI z 16) (c : ¬ (r = n ∧ hasW (EcA A w z 1) f.toNatClampNeg t.toNatClampNeg)) : fmI (fwH A w f t) (nS A) n.toNatClampNeg (z + 1).toNatClampNeg := by
  rw [z_s31 hz]
  refine fm_s h (fun q => c ⟨?_, (fwH_z hz).mp q.2⟩)
  rw [er, bt_p hz, q.1]
  exact oh_ofc hn (by decide)
theorem fmM_r {A : LA} {w f t n z r : Int32} (h : fmI (fwH A w f t) (nS A) n.toNatClampNeg z.toNatClampNeg) (hz : rg z 0 31) (hn : rg n 0 5) (er : r = btI z 16) (hs : z.toNatClampNeg < nS A) (c : r = n) (q : hasW (EcA A w z 1) f.toNatClampNeg t.toNatClampNeg) : fwR (fwH A w f t) (nS A) z := by
  have k := fm_r h hs (on_eq (by have := popN_5 z.toNatClampNeg; omega) (by have := oh_nat hn (by decide); have := hn.2; omega) (by rw [← bt_p hz, oh_ofc hn (by decide), ← er]; exact c)) ((fwH_z hz).mpr q)
  rw [oh_ofc hz (by decide)] at k
  exact k
theorem nS_le {A : LA} {n z : Int32} (hn : n = A 5 0 3) (h5 : rg n 0 5) (hz : rg z 0 32) (c : ((1 : Int32) <<< (n &&& 31)) ≤ z) : nS A ≤ z.toNatClampNeg := by
  unfold nS
  rw [← hn]
  have h1 := Int32.le_iff_toInt_le.mp c
  have h2 := oh_nat hz (by decide)
  have h3 := oh_nat (rg_shl1 h5) (by decide)
  omega
theorem nS_lt {A : LA} {n z : Int32} (hn : n = A 5 0 3) (h5 : rg n 0 5) (hz : rg z 0 32) (c : z < ((1 : Int32) <<< (n &&& 31))) : z.toNatClampNeg < nS A := by
  unfold nS
  rw [← hn]
  have h1 := Int32.lt_iff_toInt_lt.mp c
  have h2 := oh_nat hz (by decide)
  have h3 := oh_nat (rg_shl1 h5) (by decide)
  omega
theorem z_s5 {z : Int32} (h : rg z 0 5) : (z + 1).toNatClampNeg = z.toNatClampNeg + 1 := z_s31 (rg_w h (by decide))

set_option maxHeartbeats 4000000 in
set_option maxRecDepth 100000 in
theorem e_X7_fewest (l : Launch) (D : va_G) (E : Nat → ClassId) (G : Nat → Nat) (sz : Nat) (a : Nat → Nat) (C : Nat → va_E) (n : Nat) (hn : 74 ≤ n) (hT : TyM a E C) (x1 : Int32) (x2 : Int32) (x3 : Int32) (hR : RelM C) : Met l yX7_fewest (oh_w yX7_fewest cX7_fewest 6 (some .int)) ({ frames := 7, cells := 0, slots := 0, locals := 177 }) (oh_Pm D E G [.ref (a 0), .int x1, .int x2, .int x3] (oh_W n a C) sz) (va_Qi (fun r (u : Nat → va_E) => TyM a E u ∧ fr [(8, 9), (15, 16)] [] C u ∧ (RelM u) ∧ (∀ A : LA, absM C A → okA A → r = spFew A x1 x2 x3)) (oh_B D (va_A (oh_W n a C) sz) (fun u => oh_W n a u)) (va_A (oh_W n a C) sz)) 0 0 (va_A (oh_W n a C) sz) := by
  refine Met.ofW (cc := cX7_fewest) (maxL := 6) (ret := (some .int)) (by decide) rfl ?_
  intro p e s m args below meth c s₁ B hml hv
  obtain ⟨rfl, hsz, hP, hK, hD0, hG⟩ := hv
  have hx := B.exec
  have hb := B.bytes
  have hr := B.returns
  have hts := atoms_spec (ws := (oh_w yX7_fewest cX7_fewest 6 (some .int))) B.pre
  have htg : ∀ w ∈ oh_t, w.before _ s = true := fun w h => hts w (List.mem_cons_of_mem _ h)
  have hown : s.vm.findClass RX7 = some m.cls := findClass_of_methodNamed B.named
  have hlocks := B.notSynchronized
  have hT0 := hT
  subst hsz
  have hD := hD0.self (sz := s.heap.size)
  generalize hAe : va_A (oh_W n a C) s.heap.size = A at hD hG ⊢
  have hA : ∀ q : Nat, s.heap.size ≤ q → A q := fun q h => by rw [← hAe]; exact Or.inr h
  have hS : va_S A s.heap s.heap [] := va_S.rf
  have hF : fr [(8, 9), (15, 16)] [] C C := fr_rf
  have hl := lv_entry ([.ref (a 0), .int x1, .int x2, .int x3]) (n := 6) (Nat.le_of_ble_eq_true rfl)
  rw [lg_entry_eq]
  generalize (lg_sl ([.ref (a 0), .int x1, .int x2, .int x3]) ++ List.replicate (6 - (lg_sl ([.ref (a 0), .int x1, .int x2, .int x3])).length) Slot.unset).toArray = ls at hl ⊢
  have hl : lv_has ls 6 [(0, .ref (a 0)), (1, .int x1), (2, .int x2), (3, .int x3)] := hl
  refine oh_genQ (fun Q hQ => ?_)
  refine lv_aload_n hx hb dX7_fewest_0 rfl (lv_at hl 0 rfl) ?_
  refine lv_iload_n hx hb dX7_fewest_1 rfl (lv_at hl 1 rfl) ?_
  refine tq_V (As := [.int x1]) (rest := []) (ws := (oh_W n a C)) ⟨hx, hb, hml, hown, htg⟩ (e_X7_isWaggon l D E G a C n hn hT x1 hR.1) (cwV 1 htg (oh_gV q_1278 q_1280 q_48 q_73 q_1281) rfl rfl rfl pdVX7_isWaggon ⟨Nat.le_of_ble_eq_true rfl, Nat.le_of_ble_eq_true rfl⟩) hK hP hG hS (va_recv hK hP (ci := 7) (q0 := 0) rfl (oh_wg (Nat.lt_of_lt_of_le (by decide) hn) (sM_0 hT))) rfl hl.1 rfl (Nat.le_of_ble_eq_true rfl) dX7_fewest_2 ⟨Nat.le_of_ble_eq_true rfl, Nat.le_of_ble_eq_true rfl⟩ (fun r_1 hq_2 => ?_)
  refine lv_if_eq (tgt := 22) hx hb dX7_fewest_5 (by decide) (fun (c_3 : r_1 = 0) => ?_) (fun (c_3 : ¬ (r_1 = 0)) => ?_)
  · have u_4 := hq_2.2.2 c_3
    refine lv_aload_n hx hb dX7_fewest_22 rfl (lv_at hl 0 rfl) ?_
    refine lv_bipush (v := (-2)) hx hb dX7_fewest_23 (by decide) ?_
    refine tm_V (As := [.int (-2)]) (rest := []) ⟨hx, hb, hml, hown, htg⟩ (c_X7_refuse l D E G _ a C n hn hT ((-2) : Int32) (rg_w (rg_c (v := (-2)) (lo := (-2)) (hi := (-2)) (by decide)) (by decide))) (cwV 1 htg (oh_gV q_1071 q_1073 q_29 q_73 q_1074) rfl rfl rfl pdVX7_refuse ⟨Nat.le_of_ble_eq_true rfl, Nat.le_of_ble_eq_true rfl⟩) hK hP hD hG hS hA (va_recv hK hP (ci := 7) (q0 := 0) rfl (oh_wg (Nat.lt_of_lt_of_le (by decide) hn) (sM_0 hT))) rfl hl.1 rfl (Nat.le_of_ble_eq_true rfl) dX7_fewest_25 ⟨Nat.le_of_ble_eq_true rfl, Nat.le_of_ble_eq_true rfl⟩ (fun r_5 C_6 H locs hq_7 hP hD hS => ?_)
    obtain ⟨hT, f_8, hq_7⟩ := hq_7
    have hF := fr_tr hF f_8 (by decide) (by decide)
    refine W.widen (k := 0) (n := 0) (Nat.le_refl _) (Nat.le_refl _) ?_
    have t_9 := hT
    rw [hQ]
    exact W.iret (v := r_5) hx hb hr (fun t ht hW => ⟨⟨r_5, C_6, rfl, ⟨hT, hF, ⟨⟨hR.1.fr hF (by decide), hR.2.fr hF (by decide)⟩, (fun A hA hok => Eq.trans hq_7 (pif_neg (fun h8 => by have h7 := h8.1; rw [← (show gi (C 0) 13 = A 5 0 2 from hA.1 2 (by decide))] at h7; exact u_4 h7)).symm)⟩⟩, ⟨by rw [ht]; exact hP, hD⟩⟩, hS.F ht⟩) hS.2.2 dX7_fewest_28
  · have u_10 := hq_2.2.1 c_3
    refine lv_iload_n hx hb dX7_fewest_8 rfl (lv_at hl 2 rfl) ?_
    refine tq_S (As := [.int x2]) (rest := []) (ws := []) ⟨hx, hb, hml, hown, htg⟩ (e_X7_isPlace l D E G x2) (va_cwS 1 htg (oh_gS q_1130 q_1131 q_73 q_1132) rfl rfl rfl pdX7_isPlace ⟨Nat.le_of_ble_eq_true rfl, Nat.le_of_ble_eq_true rfl⟩) hK va_nil hG hS rfl hl.1 rfl (Nat.le_of_ble_eq_true rfl) dX7_fewest_9 ⟨Nat.le_of_ble_eq_true rfl, Nat.le_of_ble_eq_true rfl⟩ (fun r_11 hq_12 => ?_)
    refine lv_if_eq (tgt := 22) hx hb dX7_fewest_12 (by decide) (fun (c_13 : r_11 = 0) => ?_) (fun (c_13 : ¬ (r_11 = 0)) => ?_)
    · have u_14 := hq_12.2.2 c_13
      refine lv_aload_n hx hb dX7_fewest_22 rfl (lv_at hl 0 rfl) ?_
      refine lv_bipush (v := (-2)) hx hb dX7_fewest_23 (by decide) ?_
      refine tm_V (As := [.int (-2)]) (rest := []) ⟨hx, hb, hml, hown, htg⟩ (c_X7_refuse l D E G _ a C n hn hT ((-2) : Int32) (rg_w (rg_c (v := (-2)) (lo := (-2)) (hi := (-2)) (by decide)) (by decide))) (cwV 1 htg (oh_gV q_1071 q_1073 q_29 q_73 q_1074) rfl rfl rfl pdVX7_refuse ⟨Nat.le_of_ble_eq_true rfl, Nat.le_of_ble_eq_true rfl⟩) hK hP hD hG hS hA (va_recv hK hP (ci := 7) (q0 := 0) rfl (oh_wg (Nat.lt_of_lt_of_le (by decide) hn) (sM_0 hT))) rfl hl.1 rfl (Nat.le_of_ble_eq_true rfl) dX7_fewest_25 ⟨Nat.le_of_ble_eq_true rfl, Nat.le_of_ble_eq_true rfl⟩ (fun r_15 C_16 H locs hq_17 hP hD hS => ?_)
      obtain ⟨hT, f_18, hq_17⟩ := hq_17
      have hF := fr_tr hF f_18 (by decide) (by decide)
      refine W.widen (k := 0) (n := 0) (Nat.le_refl _) (Nat.le_refl _) ?_
      have t_19 := hT
      rw [hQ]
      exact W.iret (v := r_15) hx hb hr (fun t ht hW => ⟨⟨r_15, C_16, rfl, ⟨hT, hF, ⟨⟨hR.1.fr hF (by decide), hR.2.fr hF (by decide)⟩, (fun A hA hok => Eq.trans hq_17 (pif_neg (fun h8 => u_14 h8.2.1)).symm)⟩⟩, ⟨by rw [ht]; exact hP, hD⟩⟩, hS.F ht⟩) hS.2.2 dX7_fewest_28
    · have u_20 := hq_12.2.1 c_13
      refine lv_iload_n hx hb dX7_fewest_15 rfl (lv_at hl 3 rfl) ?_
      refine tq_S (As := [.int x3]) (rest := []) (ws := []) ⟨hx, hb, hml, hown, htg⟩ (e_X7_isPlace l D E G x3) (va_cwS 1 htg (oh_gS q_1130 q_1131 q_73 q_1132) rfl rfl rfl pdX7_isPlace ⟨Nat.le_of_ble_eq_true rfl, Nat.le_of_ble_eq_true rfl⟩) hK va_nil hG hS rfl hl.1 rfl (Nat.le_of_ble_eq_true rfl) dX7_fewest_16 ⟨Nat.le_of_ble_eq_true rfl, Nat.le_of_ble_eq_true rfl⟩ (fun r_21 hq_22 => ?_)
      refine lv_if_ne (tgt := 29) hx hb dX7_fewest_19 (by decide) (fun (c_23 : ¬ (r_21 = 0)) => ?_) (fun (c_23 : r_21 = 0) => ?_)
      · have u_24 := hq_22.2.1 c_23
        refine lv_iconst (v := 0) hx hb dX7_fewest_29 (by decide) ?_
        refine lv_istore (lv' := [(4, .int 0), (0, .ref (a 0)), (1, .int x1), (2, .int x2), (3, .int x3)]) hx hb dX7_fewest_30 hl (by decide) rfl (fun ls hl => ?_)
        have L_32 : ∀ (d : Nat) (K32 : Nat → va_E) (z32_4 : Int32) (H : Heap) (locs : List Loc) (ls : Array Slot), (6 - z32_4.toInt).toNat = d → rg z32_4 0 6 → (∀ A : LA, absM C A → okA A → x1 < A 5 0 2 → fmO (fwH A x1 x2 x3) (nS A) z32_4.toNatClampNeg) → TyM a E K32 → fr [(8, 9), (15, 16)] [] C K32 → fr [(15, 16)] [] C K32 → va_P D vwCl (oh_W n a K32) H → va_D A (oh_W n a K32) → va_S A s.heap H locs → lv_has ls 6 [(4, .int z32_4), (0, .ref (a 0)), (1, .int x1), (2, .int x2), (3, .int x3)] → W p l e ({ frames := 7, cells := 0, slots := 0, locals := 177 }) s m (([.ref (a 0), .int x1, .int x2, .int x3] : List Value).toArray) below meth c H locs 0 0 Q (F0 m 32 ls []) := by
          intro d
          induction d using Nat.strongRecOn with
          | ind d ih_32 =>
          intro K32 z32_4 H locs ls hd_32 hz32_4 hv_32 hT hF hLF_32 hP hD hS hl
          have t_25 := hT
          refine lv_iload hx hb dX7_fewest_32 (lv_at hl 0 rfl) ?_
          refine lv_aload_n hx hb dX7_fewest_34 rfl (lv_at hl 1 rfl) ?_
          refine va_get (D := D) (ci := 7) (v := .int (gi (C 0) 15)) (C := RX7) (T := TX7) (N := 29) hx hb htg ig_7 hown hK hP 0 (oh_wg (Nat.lt_of_lt_of_le (by decide) hn) (sM_0 hT)) rfl 15 (by decide) (htg _ q_988) (fun _ h9 => h9) (oh_fv (c := K32 0) (j := 15) rfl (congrArg vi (hLF_32.2 15 (by decide)))) dX7_fewest_35 ?_
          refine lv_icmp_gt (tgt := 94) hx hb dX7_fewest_38 (by decide) (fun (c_26 : (gi (C 0) 15) < z32_4) => ?_) (fun (c_26 : ¬ ((gi (C 0) 15) < z32_4)) => ?_)
          · refine lv_aload_n hx hb dX7_fewest_94 rfl (lv_at hl 1 rfl) ?_
            refine lv_bipush (v := (-5)) hx hb dX7_fewest_95 (by decide) ?_
            refine tm_V (As := [.int (-5)]) (rest := []) ⟨hx, hb, hml, hown, htg⟩ (c_X7_refuse l D E G _ a K32 n hn hT ((-5) : Int32) (rg_w (rg_c (v := (-5)) (lo := (-5)) (hi := (-5)) (by decide)) (by decide))) (cwV 1 htg (oh_gV q_1071 q_1073 q_29 q_73 q_1074) rfl rfl rfl pdVX7_refuse ⟨Nat.le_of_ble_eq_true rfl, Nat.le_of_ble_eq_true rfl⟩) hK hP hD hG hS hA (va_recv hK hP (ci := 7) (q0 := 0) rfl (oh_wg (Nat.lt_of_lt_of_le (by decide) hn) (sM_0 hT))) rfl hl.1 rfl (Nat.le_of_ble_eq_true rfl) dX7_fewest_97 ⟨Nat.le_of_ble_eq_true rfl, Nat.le_of_ble_eq_true rfl⟩ (fun r_27 C_28 H locs hq_29 hP hD hS => ?_)
            obtain ⟨hT, f_30, hq_29⟩ := hq_29
            have hF := fr_tr hF f_30 (by decide) (by decide)
            refine W.widen (k := 0) (n := 0) (Nat.le_refl _) (Nat.le_refl _) ?_
            have t_31 := hT
            rw [hQ]
            exact W.iret (v := r_27) hx hb hr (fun t ht hW => ⟨⟨r_27, C_28, rfl, ⟨hT, hF, ⟨⟨hR.1.fr hF (by decide), hR.2.fr hF (by decide)⟩, (fun A hA hok => by have h1 : 0 ≤ x1 ∧ x1 < A 5 0 2 := (by rw [← (show gi (C 0) 13 = A 5 0 2 from hA.1 2 (by decide))]; exact u_10.2.2.2); have hl := h1.2; have h5 : rg (A 5 0 3) 0 5 := (by rw [← (show gi (C 0) 15 = A 5 0 3 from hA.1 3 (by decide))]; exact (rg_w (lo := 0) (hi := 5) (fM_0_15 hT0) (by decide))); exact Eq.trans (spOf_eq (fm_e (hv_32 A hA hok hl) (fun k hk => by have h6 := (pop_A h5 hk).2; have h7 := Int32.lt_iff_toInt_lt.mp (show A 5 0 3 < z32_4 by rw [← (show gi (C 0) 15 = A 5 0 3 from hA.1 3 (by decide))]; exact c_26); have h8 := oh_nat h5 (by decide); have h9 := oh_nat (rg_w (lo := 0) (hi := 6) (rn_ltl (l' := 1) c_26 (fM_0_15 hT0) hz32_4 (by decide)) (by decide)) (by decide); omega) hq_29) fwR_u) (pif_pos ⟨h1, (oh_rgI (p := 0) (q := 15) (rg_w (lo := 0) (hi := 15) u_20 (by decide))), (oh_rgI (p := 0) (q := 15) (rg_w (lo := 0) (hi := 15) u_24 (by decide)))⟩).symm)⟩⟩, ⟨by rw [ht]; exact hP, hD⟩⟩, hS.F ht⟩) hS.2.2 dX7_fewest_100
          · refine lv_iconst (v := 0) hx hb dX7_fewest_41 (by decide) ?_
            refine lv_istore (lv' := [(5, .int 0), (4, .int z32_4), (0, .ref (a 0)), (1, .int x1), (2, .int x2), (3, .int x3)]) hx hb dX7_fewest_42 hl (by decide) rfl (fun ls hl => ?_)
            have L_44 : ∀ (d : Nat) (K44 : Nat → va_E) (z44_5 : Int32) (H : Heap) (locs : List Loc) (ls : Array Slot), (32 - z44_5.toInt).toNat = d → rg z44_5 0 32 → (∀ A : LA, absM C A → okA A → x1 < A 5 0 2 → fmI (fwH A x1 x2 x3) (nS A) z32_4.toNatClampNeg z44_5.toNatClampNeg) → TyM a E K44 → fr [(8, 9), (15, 16)] [] C K44 → fr [(15, 16)] [] K32 K44 → va_P D vwCl (oh_W n a K44) H → va_D A (oh_W n a K44) → va_S A s.heap H locs → lv_has ls 6 [(5, .int z44_5), (4, .int z32_4), (0, .ref (a 0)), (1, .int x1), (2, .int x2), (3, .int x3)] → W p l e ({ frames := 7, cells := 0, slots := 0, locals := 177 }) s m (([.ref (a 0), .int x1, .int x2, .int x3] : List Value).toArray) below meth c H locs 0 0 Q (F0 m 44 ls []) := by
              intro d
              induction d using Nat.strongRecOn with
              | ind d ih_44 =>
              intro K44 z44_5 H locs ls hd_44 hz44_5 hw_44 hT hF hLF_44 hP hD hS hl
              have t_32 := hT
              refine lv_iload hx hb dX7_fewest_44 (lv_at hl 0 rfl) ?_
              refine lv_iconst (v := 1) hx hb dX7_fewest_46 (by decide) ?_
              refine lv_aload_n hx hb dX7_fewest_47 rfl (lv_at hl 2 rfl) ?_
              refine va_get (D := D) (ci := 7) (v := .int (gi (C 0) 15)) (C := RX7) (T := TX7) (N := 29) hx hb htg ig_7 hown hK hP 0 (oh_wg (Nat.lt_of_lt_of_le (by decide) hn) (sM_0 hT)) rfl 15 (by decide) (htg _ q_988) (fun _ h9 => h9) (oh_fv (c := K44 0) (j := 15) rfl (Eq.trans (congrArg vi (hLF_44.2 15 (by decide))) (congrArg vi (hLF_32.2 15 (by decide))))) dX7_fewest_48 ?_
              refine lv_ishl hx hb dX7_fewest_51 ?_
              refine lv_icmp_ge (tgt := 88) hx hb dX7_fewest_52 (by decide) (fun (c_33 : ((1 : Int32) <<< ((gi (C 0) 15) &&& 31)) ≤ z44_5) => ?_) (fun (c_33 : ¬ (((1 : Int32) <<< ((gi (C 0) 15) &&& 31)) ≤ z44_5)) => ?_)
              · refine lv_iinc (v := z32_4 + 1) (lv' := [(4, .int (z32_4 + 1)), (5, .int z44_5), (0, .ref (a 0)), (1, .int x1), (2, .int x2), (3, .int x3)]) hx hb dX7_fewest_88 hl (k := 1) rfl (by rfl) (by decide) rfl (fun ls hl => ?_)
                refine lv_goto (tgt := 32) hx hb dX7_fewest_91 (by decide) ?_
                exact ih_32 _ (hd_32 ▸ mu_up 6 (rn_leu (Int32.not_lt.mp c_26) hz32_4 (fM_0_15 hT0)) (by decide)) K44 (z32_4 + 1) _ _ ls rfl (rg_w (rg_add (lo := 1) (hi := 6) (rn_leu (Int32.not_lt.mp c_26) hz32_4 (fM_0_15 hT0)) (rg_c (v := 1) (lo := 1) (hi := 1) (by decide)) (by decide)) (by decide)) (fun A hA hok hl => by rw [z_s5 (rg_w (lo := 0) (hi := 5) (rn_leu (Int32.not_lt.mp c_26) hz32_4 (fM_0_15 hT0)) (by decide))]; exact fm_o (hw_44 A hA hok hl) (nS_le (show gi (C 0) 15 = A 5 0 3 from hA.1 3 (by decide)) (rg_w (lo := 0) (hi := 5) (fM_0_15 hT0) (by decide)) (rg_w (lo := 0) (hi := 32) (rn_lel c_33 (rg_shl1 (fM_0_15 hT0)) hz44_5) (by decide)) c_33)) hT hF (fr_tr hLF_32 hLF_44 (by decide) (by decide)) hP hD hS (lv_sub hl [0, 2, 3, 4, 5] rfl)
              · refine lv_iload hx hb dX7_fewest_55 (lv_at hl 0 rfl) ?_
                refine tq_S (As := [.int z44_5]) (rest := []) (ws := []) ⟨hx, hb, hml, hown, htg⟩ (e_X7_bits l D E G z44_5) (va_cwS 1 htg (oh_gS q_1386 q_1387 q_73 q_1388) rfl rfl rfl pdX7_bits ⟨Nat.le_of_ble_eq_true rfl, Nat.le_of_ble_eq_true rfl⟩) hK va_nil hG hS rfl hl.1 rfl (Nat.le_of_ble_eq_true rfl) dX7_fewest_57 ⟨Nat.le_of_ble_eq_true rfl, Nat.le_of_ble_eq_true rfl⟩ (fun r_34 hq_35 => ?_)
                refine lv_iload hx hb dX7_fewest_60 (lv_at hl 1 rfl) ?_
                refine lv_icmp_ne (tgt := 82) hx hb dX7_fewest_62 (by decide) (fun (c_36 : ¬ (r_34 = z32_4)) => ?_) (fun (c_36 : r_34 = z32_4) => ?_)
                · refine lv_iinc (v := z44_5 + 1) (lv' := [(5, .int (z44_5 + 1)), (4, .int z32_4), (0, .ref (a 0)), (1, .int x1), (2, .int x2), (3, .int x3)]) hx hb dX7_fewest_82 hl (k := 0) rfl (by rfl) (by decide) rfl (fun ls hl => ?_)
                  refine lv_goto (tgt := 44) hx hb dX7_fewest_85 (by decide) ?_
                  exact ih_44 _ (hd_44 ▸ mu_up 32 (rn_ltu (u' := 31) (Int32.not_le.mp c_33) hz44_5 (rg_shl1 (fM_0_15 hT0)) (by decide)) (by decide)) K44 (z44_5 + 1) _ _ ls rfl (rg_w (rg_add (lo := 1) (hi := 32) (rn_ltu (u' := 31) (Int32.not_le.mp c_33) hz44_5 (rg_shl1 (fM_0_15 hT0)) (by decide)) (rg_c (v := 1) (lo := 1) (hi := 1) (by decide)) (by decide)) (by decide)) (fun A hA hok hl => fmM_s (hw_44 A hA hok hl) (rg_w (lo := 0) (hi := 31) (rn_ltu (u' := 31) (Int32.not_le.mp c_33) hz44_5 (rg_shl1 (fM_0_15 hT0)) (by decide)) (by decide)) (rg_w (lo := 0) (hi := 5) (rn_leu (Int32.not_lt.mp c_26) hz32_4 (fM_0_15 hT0)) (by decide)) hq_35 (fun q => c_36 q.1)) hT hF hLF_44 hP hD hS (lv_sub hl [0, 1, 2, 3, 4, 5] rfl)
                · refine lv_aload_n hx hb dX7_fewest_65 rfl (lv_at hl 2 rfl) ?_
                  refine lv_iload_n hx hb dX7_fewest_66 rfl (lv_at hl 3 rfl) ?_
                  refine lv_iload hx hb dX7_fewest_67 (lv_at hl 0 rfl) ?_
                  refine lv_iload_n hx hb dX7_fewest_69 rfl (lv_at hl 4 rfl) ?_
                  refine lv_iload_n hx hb dX7_fewest_70 rfl (lv_at hl 5 rfl) ?_
                  refine lv_iconst (v := 1) hx hb dX7_fewest_71 (by decide) ?_
                  refine tm_V (As := [.int x1, .int z44_5, .int x2, .int x3, .int 1]) (rest := []) ⟨hx, hb, hml, hown, htg⟩ (e_X7_cheapestOf l D E G _ a K44 n hn hT x1 z44_5 x2 x3 (1 : Int32) (rg_w u_10.1 (by decide)) (rg_w u_20 (by decide)) (rg_w u_24 (by decide)) (oh_posU (rg_w u_10.1 (by decide)) (fun i hi => hLF_44.1 _ (inR_out hi (by decide)) (by omega)) (oh_posU (rg_w u_10.1 (by decide)) (fun i hi => hLF_32.1 _ (inR_out hi (by decide)) (by omega)) u_10.2.1))) (cwV 5 htg (oh_gV q_1347 q_1349 q_59 q_73 q_1350) rfl rfl rfl pdVX7_cheapestOf ⟨Nat.le_of_ble_eq_true rfl, Nat.le_of_ble_eq_true rfl⟩) hK hP hD hG hS hA (va_recv hK hP (ci := 7) (q0 := 0) rfl (oh_wg (Nat.lt_of_lt_of_le (by decide) hn) (sM_0 hT))) rfl hl.1 rfl (Nat.le_of_ble_eq_true rfl) dX7_fewest_72 ⟨Nat.le_of_ble_eq_true rfl, Nat.le_of_ble_eq_true rfl⟩ (fun r_37 C_38 H locs hq_39 hP hD hS => ?_)
                  obtain ⟨hT, f_40, hq_39⟩ := hq_39
                  have hF := fr_tr hF f_40 (by decide) (by decide)
                  refine W.widen (k := 0) (n := 0) (Nat.le_refl _) (Nat.le_refl _) ?_
                  have t_41 := hT
                  refine lv_iconst (v := (-1)) hx hb dX7_fewest_75 (by decide) ?_
                  refine lv_icmp_eq (tgt := 82) hx hb dX7_fewest_76 (by decide) (fun (c_42 : r_37 = (-1)) => ?_) (fun (c_42 : ¬ (r_37 = (-1))) => ?_)
                  · refine lv_iinc (v := z44_5 + 1) (lv' := [(5, .int (z44_5 + 1)), (4, .int z32_4), (0, .ref (a 0)), (1, .int x1), (2, .int x2), (3, .int x3)]) hx hb dX7_fewest_82 hl (k := 0) rfl (by rfl) (by decide) rfl (fun ls hl => ?_)
                    refine lv_goto (tgt := 44) hx hb dX7_fewest_85 (by decide) ?_
                    exact ih_44 _ (hd_44 ▸ mu_up 32 (rn_ltu (u' := 31) (Int32.not_le.mp c_33) hz44_5 (rg_shl1 (fM_0_15 hT0)) (by decide)) (by decide)) C_38 (z44_5 + 1) _ _ ls rfl (rg_w (rg_add (lo := 1) (hi := 32) (rn_ltu (u' := 31) (Int32.not_le.mp c_33) hz44_5 (rg_shl1 (fM_0_15 hT0)) (by decide)) (rg_c (v := 1) (lo := 1) (hi := 1) (by decide)) (by decide)) (by decide)) (fun A hA hok hl => fmM_s (hw_44 A hA hok hl) (rg_w (lo := 0) (hi := 31) (rn_ltu (u' := 31) (Int32.not_le.mp c_33) hz44_5 (rg_shl1 (fM_0_15 hT0)) (by decide)) (by decide)) (rg_w (lo := 0) (hi := 5) (rn_leu (Int32.not_lt.mp c_26) hz32_4 (fM_0_15 hT0)) (by decide)) hq_35 (fun q => (mc_w hok (rg_w (lo := 0) (hi := 4) u_10.1 (by decide)) hl (rg_w (lo := 0) (hi := 15) u_20 (by decide)) (rg_w (lo := 0) (hi := 15) u_24 (by decide)) (hq_39 A (absM_fr hA hT0 (show fr [(15, 16)] [] C K44 from (fr_tr (fr_tr fr_rf hLF_32 (by decide) (by decide)) hLF_44 (by decide) (by decide))) (by decide) (by decide) (by decide)) hok hl ⟨by decide, by decide⟩)).mp c_42 q.2)) hT hF (fr_tr hLF_44 f_40 (by decide) (by decide)) hP hD hS (lv_sub hl [0, 1, 2, 3, 4, 5] rfl)
                  · refine lv_iload hx hb dX7_fewest_79 (lv_at hl 0 rfl) ?_
                    rw [hQ]
                    exact W.iret (v := z44_5) hx hb hr (fun t ht hW => ⟨⟨z44_5, C_38, rfl, ⟨hT, hF, ⟨⟨hR.1.fr hF (by decide), hR.2.fr hF (by decide)⟩, (fun A hA hok => by have h1 : 0 ≤ x1 ∧ x1 < A 5 0 2 := (by rw [← (show gi (C 0) 13 = A 5 0 2 from hA.1 2 (by decide))]; exact u_10.2.2.2); have hl := h1.2; exact Eq.trans (spOf_eq (fmM_r (hw_44 A hA hok hl) (rg_w (lo := 0) (hi := 31) (rn_ltu (u' := 31) (Int32.not_le.mp c_33) hz44_5 (rg_shl1 (fM_0_15 hT0)) (by decide)) (by decide)) (rg_w (lo := 0) (hi := 5) (rn_leu (Int32.not_lt.mp c_26) hz32_4 (fM_0_15 hT0)) (by decide)) hq_35 (nS_lt (show gi (C 0) 15 = A 5 0 3 from hA.1 3 (by decide)) (rg_w (lo := 0) (hi := 5) (fM_0_15 hT0) (by decide)) (rg_w (lo := 0) (hi := 32) (rg_w (lo := 0) (hi := 31) (rn_ltu (u' := 31) (Int32.not_le.mp c_33) hz44_5 (rg_shl1 (fM_0_15 hT0)) (by decide)) (by decide)) (by decide)) (Int32.not_le.mp c_33)) c_36 (Classical.byContradiction (fun q => c_42 ((mc_w hok (rg_w (lo := 0) (hi := 4) u_10.1 (by decide)) hl (rg_w (lo := 0) (hi := 15) u_20 (by decide)) (rg_w (lo := 0) (hi := 15) u_24 (by decide)) (hq_39 A (absM_fr hA hT0 (show fr [(15, 16)] [] C K44 from (fr_tr (fr_tr fr_rf hLF_32 (by decide) (by decide)) hLF_44 (by decide) (by decide))) (by decide) (by decide) (by decide)) hok hl ⟨by decide, by decide⟩)).mpr q)))) fwR_u) (pif_pos ⟨h1, (oh_rgI (p := 0) (q := 15) (rg_w (lo := 0) (hi := 15) u_20 (by decide))), (oh_rgI (p := 0) (q := 15) (rg_w (lo := 0) (hi := 15) u_24 (by decide)))⟩).symm)⟩⟩, ⟨by rw [ht]; exact hP, hD⟩⟩, hS.F ht⟩) hS.2.2 dX7_fewest_81
            exact L_44 _ K32 0 _ _ ls rfl (rg_w (rg_c (v := 0) (lo := 0) (hi := 0) (by decide)) (by decide)) (fun A hA hok hl => ⟨hv_32 A hA hok hl, fun k hk => absurd hk (Nat.not_lt_zero k)⟩) hT hF fr_rf hP hD hS (lv_sub hl [0, 1, 2, 3, 4, 5] rfl)
        exact L_32 _ C 0 _ _ ls rfl (rg_w (rg_c (v := 0) (lo := 0) (hi := 0) (by decide)) (by decide)) (fun A hA hok hl k hk pk => Nat.zero_le _) hT hF fr_rf hP hD hS (lv_sub hl [0, 1, 2, 3, 4] rfl)
      · have u_43 := hq_22.2.2 c_23
        refine lv_aload_n hx hb dX7_fewest_22 rfl (lv_at hl 0 rfl) ?_
        refine lv_bipush (v := (-2)) hx hb dX7_fewest_23 (by decide) ?_
        refine tm_V (As := [.int (-2)]) (rest := []) ⟨hx, hb, hml, hown, htg⟩ (c_X7_refuse l D E G _ a C n hn hT ((-2) : Int32) (rg_w (rg_c (v := (-2)) (lo := (-2)) (hi := (-2)) (by decide)) (by decide))) (cwV 1 htg (oh_gV q_1071 q_1073 q_29 q_73 q_1074) rfl rfl rfl pdVX7_refuse ⟨Nat.le_of_ble_eq_true rfl, Nat.le_of_ble_eq_true rfl⟩) hK hP hD hG hS hA (va_recv hK hP (ci := 7) (q0 := 0) rfl (oh_wg (Nat.lt_of_lt_of_le (by decide) hn) (sM_0 hT))) rfl hl.1 rfl (Nat.le_of_ble_eq_true rfl) dX7_fewest_25 ⟨Nat.le_of_ble_eq_true rfl, Nat.le_of_ble_eq_true rfl⟩ (fun r_44 C_45 H locs hq_46 hP hD hS => ?_)
        obtain ⟨hT, f_47, hq_46⟩ := hq_46
        have hF := fr_tr hF f_47 (by decide) (by decide)
        refine W.widen (k := 0) (n := 0) (Nat.le_refl _) (Nat.le_refl _) ?_
        have t_48 := hT
        rw [hQ]
        exact W.iret (v := r_44) hx hb hr (fun t ht hW => ⟨⟨r_44, C_45, rfl, ⟨hT, hF, ⟨⟨hR.1.fr hF (by decide), hR.2.fr hF (by decide)⟩, (fun A hA hok => Eq.trans hq_46 (pif_neg (fun h8 => u_43 h8.2.2)).symm)⟩⟩, ⟨by rw [ht]; exact hP, hD⟩⟩, hS.F ht⟩) hS.2.2 dX7_fewest_28
