/-! bits -/
def tb (x i : Int) : Bool := x.toNat.testBit i.toNat
theorem z_ofN {z : Int} (h0 : 0 ≤ z) : Int32.ofInt z = nI z.toNat := by
  have h : Int32.ofInt z = Int32.ofInt ((z.toNat : Nat) : Int) := by rw [Int.toNat_of_nonneg h0]
  rw [h]
  exact Int32.ofInt_eq_ofNat
theorem z_bv {z : Int} (h0 : 0 ≤ z) (h : z < 2147483648) : (Int32.ofInt z).toBitVec.toNat = z.toNat := by
  rw [Int32.toBitVec_ofInt, BitVec.toNat_ofInt]
  congr 1
  exact Int.emod_eq_of_lt h0 (by omega)
theorem z_toInt {x : Int32} (h : x.toBitVec.toNat < 2147483648) : x.toInt = (x.toBitVec.toNat : Int) := by
  show x.toBitVec.toInt = _
  exact BitVec.toInt_eq_toNat_of_lt (by omega)
theorem z_sh : ∀ k : Nat, k < 32 → ((Int32.ofInt (k : Int) &&& 31).toBitVec.smod 32).toNat = k := by decide
theorem z_sh' {i : Int} (h0 : 0 ≤ i) (h : i < 32) : ((Int32.ofInt i &&& 31).toBitVec.smod 32).toNat = i.toNat := by
  have := z_sh i.toNat (by omega)
  rwa [Int.toNat_of_nonneg h0] at this
theorem iAnd_nn {a b : Int} (a0 : 0 ≤ a) (a1 : a < 2147483648) (b0 : 0 ≤ b) (b1 : b < 2147483648) : iAnd a b = ((a.toNat &&& b.toNat : Nat) : Int) := by
  have e : (Int32.ofInt a &&& Int32.ofInt b).toBitVec.toNat = a.toNat &&& b.toNat := by
    rw [Int32.toBitVec_and, BitVec.toNat_and, z_bv a0 a1, z_bv b0 b1]
  have : a.toNat &&& b.toNat ≤ a.toNat := Nat.and_le_left
  unfold iAnd
  rw [z_toInt (by omega), e]
theorem iOr_nn {a b : Int} (a0 : 0 ≤ a) (a1 : a < 2147483648) (b0 : 0 ≤ b) (b1 : b < 2147483648) : iOr a b = ((a.toNat ||| b.toNat : Nat) : Int) := by
  have e : (Int32.ofInt a ||| Int32.ofInt b).toBitVec.toNat = a.toNat ||| b.toNat := by
    rw [Int32.toBitVec_or, BitVec.toNat_or, z_bv a0 a1, z_bv b0 b1]
  have : a.toNat ||| b.toNat < 2 ^ 31 := Nat.or_lt_two_pow (by omega) (by omega)
  unfold iOr
  rw [z_toInt (by omega), e]
theorem iAnd_m {z : Int} (k : Nat) (hk : k ≤ 30) : iAnd z ((2 : Int) ^ k - 1) = z % (2 : Int) ^ k := by
  have h2 : (0 : Int) < (2 : Int) ^ k := Int.pow_pos (by decide)
  have h3 : (2 : Nat) ^ k ≤ 2 ^ 30 := Nat.pow_le_pow_right (by decide) hk
  have h4 : (((2 : Nat) ^ k : Nat) : Int) = (2 : Int) ^ k := Int.natCast_pow 2 k
  have hm : (Int32.ofInt ((2 : Int) ^ k - 1)).toBitVec.toNat = 2 ^ k - 1 := by
    rw [z_bv (by omega) (by omega)]
    omega
  unfold iAnd
  rw [pk_and _ k hm, Int32.toBitVec_ofInt, BitVec.toNat_ofInt]
  have h5 : ((z % ((2 ^ 32 : Nat) : Int)).toNat % 2 ^ k : Nat) < 2 ^ k := Nat.mod_lt _ (by omega)
  rw [nI_toInt (by omega)]
  rw [Int.natCast_emod, Int.toNat_of_nonneg (Int.emod_nonneg _ (by decide))]
  rw [h4]
  exact Int.emod_emod_of_dvd z ⟨(2 : Int) ^ (32 - k), by rw [← Int.pow_add, show k + (32 - k) = 32 by omega]; rfl⟩
theorem iShr_d {x i : Int} (h0 : 0 ≤ x) (h1 : x < 2147483648) (i0 : 0 ≤ i) (i1 : i < 32) : iShr x i = ((x.toNat / 2 ^ i.toNat : Nat) : Int) := by
  have hd : x.toNat / 2 ^ i.toNat ≤ x.toNat := Nat.div_le_self _ _
  unfold iShr
  rw [z_ofN h0, pk_shrN (by omega) _ i.toNat (z_sh' i0 i1), nI_toInt (by omega)]
theorem iShl_1 {i : Int} (i0 : 0 ≤ i) (i1 : i < 31) : iShl 1 i = ((2 ^ i.toNat : Nat) : Int) := by
  have h3 : (2 : Nat) ^ i.toNat ≤ 2 ^ 30 := Nat.pow_le_pow_right (by decide) (by omega)
  have e1 : Int32.ofInt 1 = nI 1 := rfl
  unfold iShl
  rw [e1, pk_shlN _ i.toNat (z_sh' i0 (by omega)) (by omega), Nat.one_mul, nI_toInt (by omega)]
theorem pow_toNat_lt {i : Int} (i0 : 0 ≤ i) (i1 : i < 31) : (2 : Nat) ^ i.toNat < 2147483648 := Nat.lt_of_le_of_lt (Nat.pow_le_pow_right (by decide) (show i.toNat ≤ 30 by omega)) (by decide)
theorem tb_get {x i : Int} (h0 : 0 ≤ x) (h1 : x < 2147483648) (i0 : 0 ≤ i) (i1 : i < 31) : iAnd (iShr x i) 1 = if tb x i = true then 1 else 0 := by
  have hd : x.toNat / 2 ^ i.toNat ≤ x.toNat := Nat.div_le_self _ _
  rw [iShr_d h0 h1 i0 (by omega)]
  have := iAnd_m (z := ((x.toNat / 2 ^ i.toNat : Nat) : Int)) 1 (by decide)
  rw [show (2 : Int) ^ 1 - 1 = 1 by decide] at this
  rw [this]
  unfold tb
  rw [Nat.testBit_eq_decide_div_mod_eq]
  simp only [decide_eq_true_eq]
  split <;> omega
theorem tb_or {x i : Int} (h0 : 0 ≤ x) (h1 : x < 2147483648) (i0 : 0 ≤ i) (i1 : i < 31) : (0 ≤ iOr x (iShl 1 i) ∧ iOr x (iShl 1 i) < 2147483648) ∧ ∀ j : Int, 0 ≤ j → tb (iOr x (iShl 1 i)) j = (tb x j || decide (j = i)) := by
  have hp := pow_toNat_lt i0 i1
  have e : iOr x (iShl 1 i) = ((x.toNat ||| 2 ^ i.toNat : Nat) : Int) := by
    rw [iShl_1 i0 i1, iOr_nn h0 h1 (Int.natCast_nonneg _) (by have := Int.ofNat_lt.mpr hp; exact this), Int.toNat_natCast]
  have hl : x.toNat ||| 2 ^ i.toNat < 2 ^ 31 := Nat.or_lt_two_pow (by omega) (by omega)
  rw [e]
  refine ⟨⟨by omega, by omega⟩, fun j j0 => ?_⟩
  unfold tb
  rw [Int.toNat_natCast, Nat.testBit_or, Nat.testBit_two_pow]
  congr 1
  simp only [decide_eq_decide]
  omega
theorem tb_clr {x i : Int} (h0 : 0 ≤ x) (h1 : x < 2147483648) (i0 : 0 ≤ i) (i1 : i < 31) : (0 ≤ iAnd x (iXor (iShl 1 i) (-1)) ∧ iAnd x (iXor (iShl 1 i) (-1)) < 2147483648) ∧ ∀ j : Int, 0 ≤ j → tb (iAnd x (iXor (iShl 1 i) (-1))) j = (tb x j && !decide (j = i)) := by
  have hp := pow_toNat_lt i0 i1
  have e : (Int32.ofInt x &&& Int32.ofInt (iXor (iShl 1 i) (-1))).toBitVec = (Int32.ofInt x).toBitVec &&& ~~~ (BitVec.ofNat 32 (2 ^ i.toNat)) := by
    unfold iXor
    rw [zof, Int32.toBitVec_and, Int32.toBitVec_xor, iShl_1 i0 i1]
    congr 1
    rw [show (Int32.ofInt (-1)).toBitVec = BitVec.allOnes 32 by decide, BitVec.xor_allOnes]
    congr 1
  have hle : (Int32.ofInt x &&& Int32.ofInt (iXor (iShl 1 i) (-1))).toBitVec.toNat ≤ x.toNat := by
    rw [e, BitVec.toNat_and, z_bv h0 h1]
    exact Nat.and_le_left
  have e2 : iAnd x (iXor (iShl 1 i) (-1)) = ((Int32.ofInt x &&& Int32.ofInt (iXor (iShl 1 i) (-1))).toBitVec.toNat : Int) := by
    unfold iAnd
    rw [z_toInt (by omega)]
  rw [e2]
  refine ⟨⟨by omega, by omega⟩, fun j j0 => ?_⟩
  unfold tb
  rw [Int.toNat_natCast, e, BitVec.testBit_toNat, BitVec.getLsbD_and, BitVec.getLsbD_not, BitVec.getLsbD_ofNat, ← BitVec.testBit_toNat, z_bv h0 h1, Nat.testBit_two_pow]
  by_cases hj : j.toNat < 32
  · have : (decide (i.toNat = j.toNat)) = decide (j = i) := by simp only [decide_eq_decide]; omega
    simp [hj, this]
  · have hx : x.toNat.testBit j.toNat = false := Nat.testBit_lt_two_pow (Nat.lt_of_lt_of_le (show x.toNat < 2 ^ 31 by omega) (Nat.pow_le_pow_right (by decide) (by omega)))
    simp [hx]
theorem tb_ext {x y : Int} (h0 : 0 ≤ x) (h1 : 0 ≤ y) (h : ∀ j : Int, 0 ≤ j → tb x j = tb y j) : x = y := by
  have : x.toNat = y.toNat := Nat.eq_of_testBit_eq (fun j => by have := h (j : Int) (by omega); simpa [tb] using this)
  omega
theorem tb_0 (j : Int) : tb 0 j = false := by simp [tb]
theorem tb_hi {x j : Int} {k : Nat} (h1 : x < (2 : Int) ^ k) (hj : (k : Int) ≤ j) : tb x j = false := by
  unfold tb
  have h4 : (((2 : Nat) ^ k : Nat) : Int) = (2 : Int) ^ k := Int.natCast_pow 2 k
  exact Nat.testBit_lt_two_pow (Nat.lt_of_lt_of_le (show x.toNat < 2 ^ k by have : 0 < 2 ^ k := Nat.pow_pos (by decide); omega) (Nat.pow_le_pow_right (by decide) (by omega)))
theorem tb_lt {x : Int} {k : Nat} (h0 : 0 ≤ x) (h : ∀ j : Int, (k : Int) ≤ j → tb x j = false) : x < (2 : Int) ^ k := by
  have h4 : (((2 : Nat) ^ k : Nat) : Int) = (2 : Int) ^ k := Int.natCast_pow 2 k
  have : x.toNat < 2 ^ k := Nat.lt_pow_two_of_testBit _ (fun j hj => by have := h (j : Int) (by omega); simpa [tb] using this)
  omega
theorem iUsh_d {x i : Int} (h0 : 0 ≤ x) (h1 : x < 2147483648) (i0 : 0 ≤ i) (i1 : i < 32) : iUsh x i = ((x.toNat / 2 ^ i.toNat : Nat) : Int) := by
  have hs : ∀ k : Nat, k < 32 → (((Int32.ofInt (k : Int)).toUInt32 &&& Int32.toUInt32 31).toBitVec % 32).toNat = k := by decide
  have hs1 := hs i.toNat (by omega)
  rw [Int.toNat_of_nonneg i0] at hs1
  have hd : x.toNat / 2 ^ i.toNat ≤ x.toNat := Nat.div_le_self _ _
  unfold iUsh
  rw [z_ofN h0, pk_ushrN (by omega) _ i.toNat hs1, nI_toInt (by omega)]
