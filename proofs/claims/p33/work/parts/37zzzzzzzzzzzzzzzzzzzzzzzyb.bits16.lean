/-! FULL: the bits of sixteen, by Nat -/
def bt (x : Int32) (i : Nat) : Bool := x.toBitVec.getLsbD i
theorem b_ext {x y : Int32} (h : ∀ i, i < 32 → bt x i = bt y i) : x = y := Int32.toBitVec_inj.mp (BitVec.eq_of_getLsbD_eq (fun i hi => h i hi))
theorem s_l : ∀ n, n < 32 → ((nI n &&& 31).toBitVec.smod 32).toNat = n := by decide +kernel
theorem b_sshr (n : Nat) (hn : n < 32) (x : Int32) {i : Nat} (hi : i < 32) : bt (x >>> (nI n &&& 31)) i = if n + i < 32 then bt x (n + i) else bt x 31 := by
  unfold bt
  rw [Int32.toBitVec_shiftRight]
  show (x.toBitVec.sshiftRight ((nI n &&& 31).toBitVec.smod 32).toNat).getLsbD i = _
  rw [s_l n hn, BitVec.getLsbD_sshiftRight, BitVec.msb_eq_getLsbD_last]
  simp [hi]
theorem bt_n (k : Nat) {i : Nat} (hi : i < 32) : bt (nI k) i = k.testBit i := by
  show (BitVec.ofNat 32 k).getLsbD i = _
  rw [BitVec.getLsbD_ofNat]
  simp [hi]
theorem tb_0 {k i : Nat} (hk : k < 2147483648) (hi : 31 ≤ i) : k.testBit i = false := Nat.testBit_lt_two_pow (Nat.lt_of_lt_of_le hk (Nat.le_trans (by decide) (Nat.pow_le_pow_right (n := 2) (by decide) hi)))
theorem nq_sshr {k j : Nat} (hk : k < 2147483648) (hj : j < 32) : nI k >>> (nI j &&& 31) = nI (k >>> j) := by
  refine b_ext (fun i hi => ?_)
  rw [b_sshr j hj _ hi, bt_n (k >>> j) hi, Nat.testBit_shiftRight]
  by_cases c : j + i < 32
  · rw [if_pos c, bt_n k c]
  · rw [if_neg c, bt_n k (by decide), tb_0 hk (by decide), tb_0 hk (by omega)]
theorem nq_and (a b : Nat) : nI a &&& nI b = nI (a &&& b) := by
  apply Int32.toBitVec_inj.1
  show BitVec.ofNat 32 a &&& BitVec.ofNat 32 b = BitVec.ofNat 32 (a &&& b)
  apply BitVec.eq_of_getLsbD_eq
  intro i hi
  simp [hi]
theorem nq_or (a b : Nat) : nI a ||| nI b = nI (a ||| b) := by
  apply Int32.toBitVec_inj.1
  show BitVec.ofNat 32 a ||| BitVec.ofNat 32 b = BitVec.ofNat 32 (a ||| b)
  apply BitVec.eq_of_getLsbD_eq
  intro i hi
  simp [hi]
theorem nq_add (a b : Nat) : nI a + nI b = nI (a + b) := by
  apply Int32.toBitVec_inj.1
  show BitVec.ofNat 32 a + BitVec.ofNat 32 b = BitVec.ofNat 32 (a + b)
  exact (BitVec.ofNat_add a b).symm
theorem nq_sub {a b : Nat} (h : b ≤ a) : nI a - nI b = nI (a - b) := by
  have e := nq_add (a - b) b
  rw [Nat.sub_add_cancel h] at e
  rw [← e]
  exact Int32.add_sub_cancel _ _
theorem nq_cnt : ∀ j : Fin 32, (UInt32.ofNat j.val &&& Int32.toUInt32 31).toNat % 32 = j.val := by decide +kernel
theorem nq_ush {k j : Nat} (hk : k < 2147483648) (hj : j < 32) : ((nI k).toUInt32 >>> ((nI j).toUInt32 &&& Int32.toUInt32 31)).toInt32 = nI (k >>> j) := by
  have hs : k >>> j ≤ k := by
    rw [Nat.shiftRight_eq_div_pow]
    exact Nat.div_le_self _ _
  have e2 : UInt32.ofNat k >>> (UInt32.ofNat j &&& Int32.toUInt32 31) = UInt32.ofNat (k >>> j) := by
    apply UInt32.toNat_inj.1
    have h1 : (UInt32.ofNat k).toNat = k := Nat.mod_eq_of_lt (by omega)
    have h2 : (UInt32.ofNat (k >>> j)).toNat = k >>> j := Nat.mod_eq_of_lt (by omega)
    rw [UInt32.toNat_shiftRight, nq_cnt ⟨j, hj⟩, h1, h2]
  show (UInt32.ofNat k >>> (UInt32.ofNat j &&& Int32.toUInt32 31)).toInt32 = _
  rw [e2]
  rfl
def b1N (k : Nat) : Nat := k - ((k >>> 1) &&& 1431655765)
def b2N (k : Nat) : Nat := (k &&& 858993459) + ((k >>> 2) &&& 858993459)
def b3N (k : Nat) : Nat := (k + (k >>> 4)) &&& 252645135
def b4N (k : Nat) : Nat := k + (k >>> 8)
def b5N (k : Nat) : Nat := k + (k >>> 16)
def bcN (k : Nat) : Nat := b5N (b4N (b3N (b2N (b1N k)))) &&& 63
def tN (k : Nat) : Nat → Nat
  | 0 => 0
  | j + 1 => tN k j + ((k >>> j) &&& 1)
theorem sr_le (k j : Nat) : k >>> j ≤ k := by
  rw [Nat.shiftRight_eq_div_pow]
  exact Nat.div_le_self _ _
theorem b1_le (k : Nat) : b1N k ≤ k := Nat.sub_le _ _
theorem b2_le (k : Nat) : b2N k ≤ 2 * k := by
  unfold b2N
  have h1 : k &&& 858993459 ≤ k := Nat.and_le_left
  have h2 : (k >>> 2) &&& 858993459 ≤ k >>> 2 := Nat.and_le_left
  have h3 := sr_le k 2
  omega
theorem b3_le (k : Nat) : b3N k ≤ 2 * k := by
  unfold b3N
  have h1 : (k + (k >>> 4)) &&& 252645135 ≤ k + (k >>> 4) := Nat.and_le_left
  have h3 := sr_le k 4
  omega
theorem b4_le (k : Nat) : b4N k ≤ 2 * k := by
  unfold b4N
  have h3 := sr_le k 8
  omega
def B1 (x : Int32) : Int32 := x - (((x.toUInt32 >>> ((1 : Int32).toUInt32 &&& Int32.toUInt32 31)).toInt32) &&& 1431655765)
def B2 (x : Int32) : Int32 := (x &&& 858993459) + (((x.toUInt32 >>> ((2 : Int32).toUInt32 &&& Int32.toUInt32 31)).toInt32) &&& 858993459)
def B3 (x : Int32) : Int32 := (x + ((x.toUInt32 >>> ((4 : Int32).toUInt32 &&& Int32.toUInt32 31)).toInt32)) &&& 252645135
def B4 (x : Int32) : Int32 := x + ((x.toUInt32 >>> ((8 : Int32).toUInt32 &&& Int32.toUInt32 31)).toInt32)
def B5 (x : Int32) : Int32 := x + ((x.toUInt32 >>> ((16 : Int32).toUInt32 &&& Int32.toUInt32 31)).toInt32)
theorem B1_n {k : Nat} (hk : k < 2147483648) : B1 (nI k) = nI (b1N k) := by
  show nI k - (((nI k).toUInt32 >>> ((nI 1).toUInt32 &&& Int32.toUInt32 31)).toInt32 &&& nI 1431655765) = _
  rw [nq_ush hk (by decide), nq_and, nq_sub (Nat.le_trans Nat.and_le_left (sr_le k 1))]
  rfl
theorem B2_n {k : Nat} (hk : k < 2147483648) : B2 (nI k) = nI (b2N k) := by
  show (nI k &&& nI 858993459) + (((nI k).toUInt32 >>> ((nI 2).toUInt32 &&& Int32.toUInt32 31)).toInt32 &&& nI 858993459) = _
  rw [nq_ush hk (by decide), nq_and, nq_and, nq_add]
  rfl
theorem B3_n {k : Nat} (hk : k < 2147483648) : B3 (nI k) = nI (b3N k) := by
  show (nI k + ((nI k).toUInt32 >>> ((nI 4).toUInt32 &&& Int32.toUInt32 31)).toInt32) &&& nI 252645135 = _
  rw [nq_ush hk (by decide), nq_add, nq_and]
  rfl
theorem B4_n {k : Nat} (hk : k < 2147483648) : B4 (nI k) = nI (b4N k) := by
  show nI k + ((nI k).toUInt32 >>> ((nI 8).toUInt32 &&& Int32.toUInt32 31)).toInt32 = _
  rw [nq_ush hk (by decide), nq_add]
  rfl
theorem B5_n {k : Nat} (hk : k < 2147483648) : B5 (nI k) = nI (b5N k) := by
  show nI k + ((nI k).toUInt32 >>> ((nI 16).toUInt32 &&& Int32.toUInt32 31)).toInt32 = _
  rw [nq_ush hk (by decide), nq_add]
  rfl
theorem bcF_B (x : Int32) : bcF x = B5 (B4 (B3 (B2 (B1 x)))) &&& 63 := rfl
theorem bcF_n {k : Nat} (hk : k < 65536) : bcF (nI k) = nI (bcN k) := by
  have h1 := b1_le k
  have h2 := b2_le (b1N k)
  have h3 := b3_le (b2N (b1N k))
  have h4 := b4_le (b3N (b2N (b1N k)))
  rw [bcF_B, B1_n (by omega), B2_n (by omega), B3_n (by omega), B4_n (by omega), B5_n (by omega)]
  show nI _ &&& nI 63 = _
  rw [nq_and]
  rfl
theorem btI_n {k : Nat} (hk : k < 65536) : ∀ j, j ≤ 16 → btI (nI k) j = nI (tN k j) := by
  intro j
  induction j with
  | zero => exact fun _ => rfl
  | succ j ih =>
    intro hj
    show btI (nI k) j + ((nI k >>> (nI j &&& 31)) &&& nI 1) = _
    rw [ih (by omega), nq_sshr (by omega) (by omega), nq_and, nq_add]
    rfl
theorem bc_c0 : ∀ r : Nat, r < 4 → ∀ l : Nat, l < 256 → bcN (256 * (4 * 0 + r) + l) = tN (256 * (4 * 0 + r) + l) 16 := by decide +kernel
theorem bc_c1 : ∀ r : Nat, r < 4 → ∀ l : Nat, l < 256 → bcN (256 * (4 * 1 + r) + l) = tN (256 * (4 * 1 + r) + l) 16 := by decide +kernel
theorem bc_c2 : ∀ r : Nat, r < 4 → ∀ l : Nat, l < 256 → bcN (256 * (4 * 2 + r) + l) = tN (256 * (4 * 2 + r) + l) 16 := by decide +kernel
theorem bc_c3 : ∀ r : Nat, r < 4 → ∀ l : Nat, l < 256 → bcN (256 * (4 * 3 + r) + l) = tN (256 * (4 * 3 + r) + l) 16 := by decide +kernel
theorem bc_c4 : ∀ r : Nat, r < 4 → ∀ l : Nat, l < 256 → bcN (256 * (4 * 4 + r) + l) = tN (256 * (4 * 4 + r) + l) 16 := by decide +kernel
theorem bc_c5 : ∀ r : Nat, r < 4 → ∀ l : Nat, l < 256 → bcN (256 * (4 * 5 + r) + l) = tN (256 * (4 * 5 + r) + l) 16 := by decide +kernel
theorem bc_c6 : ∀ r : Nat, r < 4 → ∀ l : Nat, l < 256 → bcN (256 * (4 * 6 + r) + l) = tN (256 * (4 * 6 + r) + l) 16 := by decide +kernel
theorem bc_c7 : ∀ r : Nat, r < 4 → ∀ l : Nat, l < 256 → bcN (256 * (4 * 7 + r) + l) = tN (256 * (4 * 7 + r) + l) 16 := by decide +kernel
theorem bc_c8 : ∀ r : Nat, r < 4 → ∀ l : Nat, l < 256 → bcN (256 * (4 * 8 + r) + l) = tN (256 * (4 * 8 + r) + l) 16 := by decide +kernel
theorem bc_c9 : ∀ r : Nat, r < 4 → ∀ l : Nat, l < 256 → bcN (256 * (4 * 9 + r) + l) = tN (256 * (4 * 9 + r) + l) 16 := by decide +kernel
theorem bc_c10 : ∀ r : Nat, r < 4 → ∀ l : Nat, l < 256 → bcN (256 * (4 * 10 + r) + l) = tN (256 * (4 * 10 + r) + l) 16 := by decide +kernel
theorem bc_c11 : ∀ r : Nat, r < 4 → ∀ l : Nat, l < 256 → bcN (256 * (4 * 11 + r) + l) = tN (256 * (4 * 11 + r) + l) 16 := by decide +kernel
theorem bc_c12 : ∀ r : Nat, r < 4 → ∀ l : Nat, l < 256 → bcN (256 * (4 * 12 + r) + l) = tN (256 * (4 * 12 + r) + l) 16 := by decide +kernel
theorem bc_c13 : ∀ r : Nat, r < 4 → ∀ l : Nat, l < 256 → bcN (256 * (4 * 13 + r) + l) = tN (256 * (4 * 13 + r) + l) 16 := by decide +kernel
theorem bc_c14 : ∀ r : Nat, r < 4 → ∀ l : Nat, l < 256 → bcN (256 * (4 * 14 + r) + l) = tN (256 * (4 * 14 + r) + l) 16 := by decide +kernel
theorem bc_c15 : ∀ r : Nat, r < 4 → ∀ l : Nat, l < 256 → bcN (256 * (4 * 15 + r) + l) = tN (256 * (4 * 15 + r) + l) 16 := by decide +kernel
theorem bc_c16 : ∀ r : Nat, r < 4 → ∀ l : Nat, l < 256 → bcN (256 * (4 * 16 + r) + l) = tN (256 * (4 * 16 + r) + l) 16 := by decide +kernel
theorem bc_c17 : ∀ r : Nat, r < 4 → ∀ l : Nat, l < 256 → bcN (256 * (4 * 17 + r) + l) = tN (256 * (4 * 17 + r) + l) 16 := by decide +kernel
theorem bc_c18 : ∀ r : Nat, r < 4 → ∀ l : Nat, l < 256 → bcN (256 * (4 * 18 + r) + l) = tN (256 * (4 * 18 + r) + l) 16 := by decide +kernel
theorem bc_c19 : ∀ r : Nat, r < 4 → ∀ l : Nat, l < 256 → bcN (256 * (4 * 19 + r) + l) = tN (256 * (4 * 19 + r) + l) 16 := by decide +kernel
theorem bc_c20 : ∀ r : Nat, r < 4 → ∀ l : Nat, l < 256 → bcN (256 * (4 * 20 + r) + l) = tN (256 * (4 * 20 + r) + l) 16 := by decide +kernel
theorem bc_c21 : ∀ r : Nat, r < 4 → ∀ l : Nat, l < 256 → bcN (256 * (4 * 21 + r) + l) = tN (256 * (4 * 21 + r) + l) 16 := by decide +kernel
theorem bc_c22 : ∀ r : Nat, r < 4 → ∀ l : Nat, l < 256 → bcN (256 * (4 * 22 + r) + l) = tN (256 * (4 * 22 + r) + l) 16 := by decide +kernel
theorem bc_c23 : ∀ r : Nat, r < 4 → ∀ l : Nat, l < 256 → bcN (256 * (4 * 23 + r) + l) = tN (256 * (4 * 23 + r) + l) 16 := by decide +kernel
theorem bc_c24 : ∀ r : Nat, r < 4 → ∀ l : Nat, l < 256 → bcN (256 * (4 * 24 + r) + l) = tN (256 * (4 * 24 + r) + l) 16 := by decide +kernel
theorem bc_c25 : ∀ r : Nat, r < 4 → ∀ l : Nat, l < 256 → bcN (256 * (4 * 25 + r) + l) = tN (256 * (4 * 25 + r) + l) 16 := by decide +kernel
theorem bc_c26 : ∀ r : Nat, r < 4 → ∀ l : Nat, l < 256 → bcN (256 * (4 * 26 + r) + l) = tN (256 * (4 * 26 + r) + l) 16 := by decide +kernel
theorem bc_c27 : ∀ r : Nat, r < 4 → ∀ l : Nat, l < 256 → bcN (256 * (4 * 27 + r) + l) = tN (256 * (4 * 27 + r) + l) 16 := by decide +kernel
theorem bc_c28 : ∀ r : Nat, r < 4 → ∀ l : Nat, l < 256 → bcN (256 * (4 * 28 + r) + l) = tN (256 * (4 * 28 + r) + l) 16 := by decide +kernel
theorem bc_c29 : ∀ r : Nat, r < 4 → ∀ l : Nat, l < 256 → bcN (256 * (4 * 29 + r) + l) = tN (256 * (4 * 29 + r) + l) 16 := by decide +kernel
theorem bc_c30 : ∀ r : Nat, r < 4 → ∀ l : Nat, l < 256 → bcN (256 * (4 * 30 + r) + l) = tN (256 * (4 * 30 + r) + l) 16 := by decide +kernel
theorem bc_c31 : ∀ r : Nat, r < 4 → ∀ l : Nat, l < 256 → bcN (256 * (4 * 31 + r) + l) = tN (256 * (4 * 31 + r) + l) 16 := by decide +kernel
theorem bc_c32 : ∀ r : Nat, r < 4 → ∀ l : Nat, l < 256 → bcN (256 * (4 * 32 + r) + l) = tN (256 * (4 * 32 + r) + l) 16 := by decide +kernel
theorem bc_c33 : ∀ r : Nat, r < 4 → ∀ l : Nat, l < 256 → bcN (256 * (4 * 33 + r) + l) = tN (256 * (4 * 33 + r) + l) 16 := by decide +kernel
theorem bc_c34 : ∀ r : Nat, r < 4 → ∀ l : Nat, l < 256 → bcN (256 * (4 * 34 + r) + l) = tN (256 * (4 * 34 + r) + l) 16 := by decide +kernel
theorem bc_c35 : ∀ r : Nat, r < 4 → ∀ l : Nat, l < 256 → bcN (256 * (4 * 35 + r) + l) = tN (256 * (4 * 35 + r) + l) 16 := by decide +kernel
theorem bc_c36 : ∀ r : Nat, r < 4 → ∀ l : Nat, l < 256 → bcN (256 * (4 * 36 + r) + l) = tN (256 * (4 * 36 + r) + l) 16 := by decide +kernel
theorem bc_c37 : ∀ r : Nat, r < 4 → ∀ l : Nat, l < 256 → bcN (256 * (4 * 37 + r) + l) = tN (256 * (4 * 37 + r) + l) 16 := by decide +kernel
theorem bc_c38 : ∀ r : Nat, r < 4 → ∀ l : Nat, l < 256 → bcN (256 * (4 * 38 + r) + l) = tN (256 * (4 * 38 + r) + l) 16 := by decide +kernel
theorem bc_c39 : ∀ r : Nat, r < 4 → ∀ l : Nat, l < 256 → bcN (256 * (4 * 39 + r) + l) = tN (256 * (4 * 39 + r) + l) 16 := by decide +kernel
theorem bc_c40 : ∀ r : Nat, r < 4 → ∀ l : Nat, l < 256 → bcN (256 * (4 * 40 + r) + l) = tN (256 * (4 * 40 + r) + l) 16 := by decide +kernel
theorem bc_c41 : ∀ r : Nat, r < 4 → ∀ l : Nat, l < 256 → bcN (256 * (4 * 41 + r) + l) = tN (256 * (4 * 41 + r) + l) 16 := by decide +kernel
theorem bc_c42 : ∀ r : Nat, r < 4 → ∀ l : Nat, l < 256 → bcN (256 * (4 * 42 + r) + l) = tN (256 * (4 * 42 + r) + l) 16 := by decide +kernel
theorem bc_c43 : ∀ r : Nat, r < 4 → ∀ l : Nat, l < 256 → bcN (256 * (4 * 43 + r) + l) = tN (256 * (4 * 43 + r) + l) 16 := by decide +kernel
theorem bc_c44 : ∀ r : Nat, r < 4 → ∀ l : Nat, l < 256 → bcN (256 * (4 * 44 + r) + l) = tN (256 * (4 * 44 + r) + l) 16 := by decide +kernel
theorem bc_c45 : ∀ r : Nat, r < 4 → ∀ l : Nat, l < 256 → bcN (256 * (4 * 45 + r) + l) = tN (256 * (4 * 45 + r) + l) 16 := by decide +kernel
theorem bc_c46 : ∀ r : Nat, r < 4 → ∀ l : Nat, l < 256 → bcN (256 * (4 * 46 + r) + l) = tN (256 * (4 * 46 + r) + l) 16 := by decide +kernel
theorem bc_c47 : ∀ r : Nat, r < 4 → ∀ l : Nat, l < 256 → bcN (256 * (4 * 47 + r) + l) = tN (256 * (4 * 47 + r) + l) 16 := by decide +kernel
theorem bc_c48 : ∀ r : Nat, r < 4 → ∀ l : Nat, l < 256 → bcN (256 * (4 * 48 + r) + l) = tN (256 * (4 * 48 + r) + l) 16 := by decide +kernel
theorem bc_c49 : ∀ r : Nat, r < 4 → ∀ l : Nat, l < 256 → bcN (256 * (4 * 49 + r) + l) = tN (256 * (4 * 49 + r) + l) 16 := by decide +kernel
theorem bc_c50 : ∀ r : Nat, r < 4 → ∀ l : Nat, l < 256 → bcN (256 * (4 * 50 + r) + l) = tN (256 * (4 * 50 + r) + l) 16 := by decide +kernel
theorem bc_c51 : ∀ r : Nat, r < 4 → ∀ l : Nat, l < 256 → bcN (256 * (4 * 51 + r) + l) = tN (256 * (4 * 51 + r) + l) 16 := by decide +kernel
theorem bc_c52 : ∀ r : Nat, r < 4 → ∀ l : Nat, l < 256 → bcN (256 * (4 * 52 + r) + l) = tN (256 * (4 * 52 + r) + l) 16 := by decide +kernel
theorem bc_c53 : ∀ r : Nat, r < 4 → ∀ l : Nat, l < 256 → bcN (256 * (4 * 53 + r) + l) = tN (256 * (4 * 53 + r) + l) 16 := by decide +kernel
theorem bc_c54 : ∀ r : Nat, r < 4 → ∀ l : Nat, l < 256 → bcN (256 * (4 * 54 + r) + l) = tN (256 * (4 * 54 + r) + l) 16 := by decide +kernel
theorem bc_c55 : ∀ r : Nat, r < 4 → ∀ l : Nat, l < 256 → bcN (256 * (4 * 55 + r) + l) = tN (256 * (4 * 55 + r) + l) 16 := by decide +kernel
theorem bc_c56 : ∀ r : Nat, r < 4 → ∀ l : Nat, l < 256 → bcN (256 * (4 * 56 + r) + l) = tN (256 * (4 * 56 + r) + l) 16 := by decide +kernel
theorem bc_c57 : ∀ r : Nat, r < 4 → ∀ l : Nat, l < 256 → bcN (256 * (4 * 57 + r) + l) = tN (256 * (4 * 57 + r) + l) 16 := by decide +kernel
theorem bc_c58 : ∀ r : Nat, r < 4 → ∀ l : Nat, l < 256 → bcN (256 * (4 * 58 + r) + l) = tN (256 * (4 * 58 + r) + l) 16 := by decide +kernel
theorem bc_c59 : ∀ r : Nat, r < 4 → ∀ l : Nat, l < 256 → bcN (256 * (4 * 59 + r) + l) = tN (256 * (4 * 59 + r) + l) 16 := by decide +kernel
theorem bc_c60 : ∀ r : Nat, r < 4 → ∀ l : Nat, l < 256 → bcN (256 * (4 * 60 + r) + l) = tN (256 * (4 * 60 + r) + l) 16 := by decide +kernel
theorem bc_c61 : ∀ r : Nat, r < 4 → ∀ l : Nat, l < 256 → bcN (256 * (4 * 61 + r) + l) = tN (256 * (4 * 61 + r) + l) 16 := by decide +kernel
theorem bc_c62 : ∀ r : Nat, r < 4 → ∀ l : Nat, l < 256 → bcN (256 * (4 * 62 + r) + l) = tN (256 * (4 * 62 + r) + l) 16 := by decide +kernel
theorem bc_c63 : ∀ r : Nat, r < 4 → ∀ l : Nat, l < 256 → bcN (256 * (4 * 63 + r) + l) = tN (256 * (4 * 63 + r) + l) 16 := by decide +kernel
set_option maxRecDepth 100000 in
set_option maxHeartbeats 4000000 in
theorem bc_all : ∀ c : Nat, c < 64 → ∀ r : Nat, r < 4 → ∀ l : Nat, l < 256 → bcN (256 * (4 * c + r) + l) = tN (256 * (4 * c + r) + l) 16 := by
  intro c hc
  rcases (show c = 0 ∨ c = 1 ∨ c = 2 ∨ c = 3 ∨ c = 4 ∨ c = 5 ∨ c = 6 ∨ c = 7 ∨ c = 8 ∨ c = 9 ∨ c = 10 ∨ c = 11 ∨ c = 12 ∨ c = 13 ∨ c = 14 ∨ c = 15 ∨ c = 16 ∨ c = 17 ∨ c = 18 ∨ c = 19 ∨ c = 20 ∨ c = 21 ∨ c = 22 ∨ c = 23 ∨ c = 24 ∨ c = 25 ∨ c = 26 ∨ c = 27 ∨ c = 28 ∨ c = 29 ∨ c = 30 ∨ c = 31 ∨ c = 32 ∨ c = 33 ∨ c = 34 ∨ c = 35 ∨ c = 36 ∨ c = 37 ∨ c = 38 ∨ c = 39 ∨ c = 40 ∨ c = 41 ∨ c = 42 ∨ c = 43 ∨ c = 44 ∨ c = 45 ∨ c = 46 ∨ c = 47 ∨ c = 48 ∨ c = 49 ∨ c = 50 ∨ c = 51 ∨ c = 52 ∨ c = 53 ∨ c = 54 ∨ c = 55 ∨ c = 56 ∨ c = 57 ∨ c = 58 ∨ c = 59 ∨ c = 60 ∨ c = 61 ∨ c = 62 ∨ c = 63 by omega) with rfl | rfl | rfl | rfl | rfl | rfl | rfl | rfl | rfl | rfl | rfl | rfl | rfl | rfl | rfl | rfl | rfl | rfl | rfl | rfl | rfl | rfl | rfl | rfl | rfl | rfl | rfl | rfl | rfl | rfl | rfl | rfl | rfl | rfl | rfl | rfl | rfl | rfl | rfl | rfl | rfl | rfl | rfl | rfl | rfl | rfl | rfl | rfl | rfl | rfl | rfl | rfl | rfl | rfl | rfl | rfl | rfl | rfl | rfl | rfl | rfl | rfl | rfl | rfl
  · exact bc_c0
  · exact bc_c1
  · exact bc_c2
  · exact bc_c3
  · exact bc_c4
  · exact bc_c5
  · exact bc_c6
  · exact bc_c7
  · exact bc_c8
  · exact bc_c9
  · exact bc_c10
  · exact bc_c11
  · exact bc_c12
  · exact bc_c13
  · exact bc_c14
  · exact bc_c15
  · exact bc_c16
  · exact bc_c17
  · exact bc_c18
  · exact bc_c19
  · exact bc_c20
  · exact bc_c21
  · exact bc_c22
  · exact bc_c23
  · exact bc_c24
  · exact bc_c25
  · exact bc_c26
  · exact bc_c27
  · exact bc_c28
  · exact bc_c29
  · exact bc_c30
  · exact bc_c31
  · exact bc_c32
  · exact bc_c33
  · exact bc_c34
  · exact bc_c35
  · exact bc_c36
  · exact bc_c37
  · exact bc_c38
  · exact bc_c39
  · exact bc_c40
  · exact bc_c41
  · exact bc_c42
  · exact bc_c43
  · exact bc_c44
  · exact bc_c45
  · exact bc_c46
  · exact bc_c47
  · exact bc_c48
  · exact bc_c49
  · exact bc_c50
  · exact bc_c51
  · exact bc_c52
  · exact bc_c53
  · exact bc_c54
  · exact bc_c55
  · exact bc_c56
  · exact bc_c57
  · exact bc_c58
  · exact bc_c59
  · exact bc_c60
  · exact bc_c61
  · exact bc_c62
  · exact bc_c63
theorem bc_ct : ∀ h : Nat, h < 256 → ∀ l : Nat, l < 256 → bcN (256 * h + l) = tN (256 * h + l) 16 := by
  intro h hh l hl
  have e := bc_all (h / 4) (by omega) (h % 4) (by omega) l hl
  rw [show 4 * (h / 4) + h % 4 = h by omega] at e
  exact e
theorem bc_bt {k : Nat} (hk : k < 65536) : bcF (nI k) = btI (nI k) 16 := by
  rw [bcF_n hk, btI_n hk 16 (Nat.le_refl _)]
  have e := bc_ct (k / 256) (by omega) (k % 256) (by omega)
  rw [show 256 * (k / 256) + k % 256 = k by omega] at e
  rw [e]
theorem sh_n : ∀ p : Nat, p < 16 → (1 : Int32) <<< (nI p &&& 31) = nI (2 ^ p) := by decide +kernel
