/-! the JDK's own: fill, floorDiv, bitCount -/
theorem zRt_i {a b : Int} {S : zS} {w : zW} (h : a = b) : zRt (some (zI b)) S w (some (zI a)) S w := by subst h; exact ⟨rfl, rfl, rfl⟩
theorem zmulB {x y A B : Int} (hx0 : 0 ≤ x) (hx : x ≤ A) (hy0 : 0 ≤ y) (hy : y ≤ B) : 0 ≤ x * y ∧ x * y ≤ A * B := ⟨Int.mul_nonneg hx0 hy0, Int.mul_le_mul hx hy hy0 (by omega)⟩
def zsum : Nat → (Nat → Int) → Int
  | 0, _ => 0
  | n + 1, f => zsum n f + f n
theorem zsum_b {f : Nat → Int} {B : Int} (n : Nat) (h : ∀ k, k < n → 0 ≤ f k ∧ f k ≤ B) : 0 ≤ zsum n f ∧ zsum n f ≤ n * B := by
  induction n with
  | zero => exact ⟨Int.le_refl _, by simp [zsum]⟩
  | succ n ih =>
    have h1 := ih (fun k hk => h k (by omega))
    have h2 := h n (by omega)
    have h3 : ((n + 1 : Nat) : Int) * B = n * B + B := by rw [Int.natCast_add, Int.add_mul]; simp
    simp only [zsum]
    omega
theorem zsum_c {f g : Nat → Int} (n : Nat) (h : ∀ k, k < n → f k = g k) : zsum n f = zsum n g := by
  induction n with
  | zero => rfl
  | succ n ih => simp only [zsum]; rw [ih (fun k hk => h k (by omega)), h n (by omega)]
/-- nothing but the cell c0 has changed -/
def only (c0 : Nat) (w w' : zW) : Prop := ∀ c i, c ≠ c0 → w' c i = w c i
theorem only_rfl {c0 : Nat} {w : zW} : only c0 w w := fun _ _ _ => rfl
theorem only_up {c0 : Nat} {w w' : zW} {i v : Int} (h : only c0 w w') : only c0 w (up w' c0 i v) := fun c j hc => by rw [up_cell _ _ _ _ hc]; exact h c j hc
theorem only_tr {c0 : Nat} {w w' w'' : zW} (h : only c0 w w') (h2 : only c0 w' w'') : only c0 w w'' := fun c j hc => (h2 c j hc).trans (h c j hc)
theorem ztd {a b : Int} (hb : 0 < b) : a.tdiv b = if 0 ≤ a then a / b else -((-a) / b) := by
  split
  · exact Int.tdiv_eq_ediv_of_nonneg (by assumption)
  · rw [← Int.tdiv_eq_ediv_of_nonneg (show 0 ≤ -a by omega), Int.neg_tdiv, Int.neg_neg]
theorem ztd_b {a b : Int} (ha : inR a) (hb : 0 < b) : inR (a.tdiv b) := by
  rw [ztd hb]
  have h1 := inR_lo ha
  have h2 := inR_hi ha
  split
  · have e1 := Int.ediv_nonneg (show 0 ≤ a by assumption) (show 0 ≤ b by omega)
    have e2 := Int.ediv_le_self b (show 0 ≤ a by assumption)
    exact inR_mk (by omega) (by omega)
  · have e1 := Int.ediv_nonneg (show 0 ≤ -a by omega) (show 0 ≤ b by omega)
    have e2 := Int.ediv_le_self b (show 0 ≤ -a by omega)
    exact inR_mk (by omega) (by omega)
theorem zdivT {a b : Int} (ha : inR a) (hb : 0 < b) (rb : b < 2147483648) : Int32.ofInt a / Int32.ofInt b = Int32.ofInt (a.tdiv b) := by
  have h2 : inR b := inR_mk (by omega) rb
  have h3 := ztd_b ha hb
  rw [← Int32.toInt_inj, Int32.toInt_div, inR_n ha, inR_n h2, inR_n h3]
  exact Int.bmod_eq_of_le (by have := inR_lo h3; omega) (by have := inR_hi h3; omega)
theorem zxor_neg {a b : Int} (ha : inR a) (hb : inR b) : iXor a b < 0 ↔ ¬ ((a < 0) ↔ (b < 0)) := by
  have e1 : iXor a b < 0 ↔ (Int32.ofInt a ^^^ Int32.ofInt b).toBitVec.msb = true := by
    rw [BitVec.msb_eq_toInt]
    simp [iXor, Int32.toInt]
  have e2 : a < 0 ↔ (Int32.ofInt a).toBitVec.msb = true := by
    rw [BitVec.msb_eq_toInt]
    have : (Int32.ofInt a).toBitVec.toInt = a := inR_n ha
    rw [this]; simp
  have e3 : b < 0 ↔ (Int32.ofInt b).toBitVec.msb = true := by
    rw [BitVec.msb_eq_toInt]
    have : (Int32.ofInt b).toBitVec.toInt = b := inR_n hb
    rw [this]; simp
  rw [e1, e2, e3, Int32.toBitVec_xor, BitVec.msb_xor]
  cases (Int32.ofInt a).toBitVec.msb <;> cases (Int32.ofInt b).toBitVec.msb <;> simp
section ZO
variable {l : Launch} {M : zM} {gr : Bool} {d bc bs : Nat} {Q : Option Value → zS → zW → Prop} {X : String → zS → zW → Prop} {pc : Nat} {lo st : List Value} {S : zS} {w : zW}
theorem zA_idivT {a b : Int} (hd : decode M.2.1 pc = .ok (.idiv, 1)) (ha : inR a) (hb : 0 < b) (rb : b < 2147483648) (kk : zA l M gr d bc bs Q X (pc + 1) lo (zI (a.tdiv b) :: st) S w) : zA l M gr d bc bs Q X pc lo (zI b :: zI a :: st) S w := by
  intro p e R s m args below meth c Z G ad A hC H locs ls cells slots hR hS hL hc hs
  exact lv_idiv hC.1 hC.2.1 hd (fun h => by rw [← Int32.toInt_inj, inR_n (inR_mk (by omega) rb)] at h; simp at h; omega) (zW1 (zdivT ha hb rb) (kk p e R s m args below meth c Z G ad A hC H locs ls cells slots hR hS hL hc hs))
end ZO
/-- the ones of a number below 65536 -/
def popc (a : Int) : Int := zsum 16 (fun k => if tb a k = true then 1 else 0)
def bc1 (n : Nat) : Nat := n - (n / 2 &&& 1431655765)
def bc2 (n : Nat) : Nat := (n &&& 858993459) + (n / 4 &&& 858993459)
def bc3 (n : Nat) : Nat := (n + n / 16) &&& 252645135
def bc4 (n : Nat) : Nat := n + n / 256
def bc5 (n : Nat) : Nat := n + n / 65536
def bcN (n : Nat) : Nat := bc5 (bc4 (bc3 (bc2 (bc1 n)))) &&& 63
def pcN : Nat → Nat → Nat
  | 0, _ => 0
  | k + 1, n => pcN k n + n / 2 ^ k % 2
theorem bcN_ok : (List.range 16384).all (fun n => bcN n == pcN 16 n) = true := by decide +kernel
theorem popc_N {a : Int} (h0 : 0 ≤ a) : ∀ k, zsum k (fun k => if tb a k = true then 1 else 0) = ((pcN k a.toNat : Nat) : Int) := by
  intro k
  induction k with
  | zero => rfl
  | succ k ih =>
    simp only [zsum, pcN]
    rw [ih]
    have : tb a (k : Int) = decide (a.toNat / 2 ^ k % 2 = 1) := by
      unfold tb
      rw [Int.toNat_natCast, Nat.testBit_eq_decide_div_mod_eq]
    rw [this]
    simp only [decide_eq_true_eq]
    split <;> omega
set_option maxRecDepth 100000 in
set_option maxHeartbeats 4000000 in
theorem s_fill {l : Launch} {w : zW} {gr : Bool} {S : zS} {q z : Nat} {v : Int} (hq : S[q]? = some (.inl (0, z))) (hn : z < 100000) (hv : inR v) : zSp l mJ7_fill_53178 gr 1 0 0 [zR q, zI v] S w (fun v' S' w' => v' = none ∧ S' = S ∧ only q w w' ∧ ∀ i : Int, 0 ≤ i → i < z → w' q i = v) zNo := by
  refine zA_intro ⟨by decide +kernel, Or.inr rfl⟩ rfl (Nat.le_of_ble_eq_true rfl) ?_
  refine zA_range (fun hr => ?_)
  show zA l mJ7_fill_53178 gr 1 0 0 (fun v' S' w' => v' = none ∧ S' = S ∧ only q w w' ∧ ∀ i : Int, 0 ≤ i → i < z → w' q i = v) zNo 0 [zR q, zI v, .null, .null] [] S w
  refine zA_iconst dJ7_fill_53178_0 ?_
  refine zA_istore_n (lo1 := [zR q, zI v, zI 0, .null]) dJ7_fill_53178_1 (by decide) rfl rfl ?_
  refine zA_aload_n dJ7_fill_53178_2 rfl ?_
  refine zA_alen (n := z) dJ7_fill_53178_3 hq (by decide) ?_
  refine zA_istore_n (lo1 := [zR q, zI v, zI 0, zI (z : Int)]) dJ7_fill_53178_4 (by decide) rfl rfl ?_
  have L5 : ∀ (n : Nat) (i : Int) (w1 : zW) (i0 : 0 ≤ i) (i1 : i ≤ z) (hf : only q w w1) (hw : ∀ j : Int, 0 ≤ j → j < i → w1 q j = v) (hm : ((z : Int) - i).toNat < n), zA l mJ7_fill_53178 gr 1 0 0 (fun v' S' w' => v' = none ∧ S' = S ∧ only q w w' ∧ ∀ i : Int, 0 ≤ i → i < z → w' q i = v) zNo 5 [zR q, zI v, zI i, zI (z : Int)] [] S w1 := by
    intro n
    induction n with
    | zero => intro i w1 i0 i1 hf hw hm; exact absurd hm (Nat.not_lt_zero _)
    | succ n ih5 =>
      intro i w1 i0 i1 hf hw hm
      refine zA_range (fun hr => ?_)
      refine zA_iload_n dJ7_fill_53178_5 rfl ?_
      refine zA_iload_n dJ7_fill_53178_6 rfl ?_
      refine zA_icmp_ge (tgt := 20) dJ7_fill_53178_7 (by decide) (by first | assumption | exact hr _ _ | exact inR_mk (by omega) (by omega)) (by first | assumption | exact hr _ _ | exact inR_mk (by omega) (by omega)) (fun c7 => ?_) (fun c7 => ?_)
      · skip
        refine zA_vret dJ7_fill_53178_20 rfl ?_
        exact ⟨rfl, rfl, hf, fun i h1 h2 => hw i h1 (by omega)⟩
      · skip
        refine zA_aload_n dJ7_fill_53178_10 rfl ?_
        refine zA_iload_n dJ7_fill_53178_11 rfl ?_
        refine zA_iload_n dJ7_fill_53178_12 rfl ?_
        refine zA_iastore dJ7_fill_53178_13 (by first | assumption | exact hr _ _ | exact inR_mk (by omega) (by omega)) hq (by first | assumption | omega) (by first | assumption | omega) (by omega) ?_
        refine zA_namew (fun w_1 hw_1 => ?_)
        refine zA_range (fun hr => ?_)
        refine zA_iinc (lo1 := [zR q, zI v, zI (i + 1), zI (z : Int)]) dJ7_fill_53178_14 rfl (by decide) rfl rfl ?_
        refine zA_goto (tgt := 5) dJ7_fill_53178_17 (by decide) ?_
        exact ih5 (i + 1) w_1 (by omega) (by omega) (by rw [hw_1]; exact only_up hf) (fun j h1 h2 => by
            rw [hw_1]
            by_cases hj : j = i
            · rw [hj, up_same]
            · rw [up_idx _ _ _ _ hj]; exact hw j h1 (by omega)) (by omega)
  exact L5 _ 0 w (by omega) (by omega) only_rfl (fun j h1 h2 => by omega) (Nat.lt_succ_self _)

set_option maxRecDepth 100000 in
set_option maxHeartbeats 4000000 in
theorem s_floorDiv {l : Launch} {w : zW} {gr : Bool} {S : zS} {a b : Int} (ha : inR a) (hb : 0 < b) (rb : b < 2147483648) : zSp l mJ9_floorDiv_7cf53 gr 1 0 0 [zI a, zI b] S w (zRt (some (zI (a / b))) S w) zNo := by
  refine zA_intro ⟨by decide +kernel, Or.inr rfl⟩ rfl (Nat.le_of_ble_eq_true rfl) ?_
  refine zA_range (fun hr => ?_)
  show zA l mJ9_floorDiv_7cf53 gr 1 0 0 (zRt (some (zI (a / b))) S w) zNo 0 [zI a, zI b, .null] [] S w
  refine zA_iload_n dJ9_floorDiv_7cf53_0 rfl ?_
  refine zA_iload_n dJ9_floorDiv_7cf53_1 rfl ?_
  refine zA_idivT dJ9_floorDiv_7cf53_2 ha hb rb ?_
  have hq := ztd_b ha hb
  refine zA_nameI (fun q hq0 => ?_)
  rw [← hq0] at hq
  rw [ztd hb] at hq0
  have hbR : inR b := inR_mk (by omega) rb
  refine zA_istore_n (lo1 := [zI a, zI b, zI q]) dJ9_floorDiv_7cf53_3 (by decide) rfl rfl ?_
  refine zA_iload_n dJ9_floorDiv_7cf53_4 rfl ?_
  refine zA_iload_n dJ9_floorDiv_7cf53_5 rfl ?_
  refine zA_ixor dJ9_floorDiv_7cf53_6 ?_
  have hx := zxor_neg ha hbR
  have hxR : inR (iXor a b) := inR_t _
  refine zA_if_ge (tgt := 21) dJ9_floorDiv_7cf53_7 (by decide) (by first | assumption | exact hr _ _ | exact inR_mk (by omega) (by omega)) (fun c7 => ?_) (fun c7 => ?_)
  · skip
    have h3 : 0 ≤ a := by
      rcases (show a < 0 ∨ 0 ≤ a by omega) with h | h
      · exact absurd (hx.mpr (by omega)) (by omega)
      · exact h
    rw [if_pos h3] at hq0
    refine zA_iload_n dJ9_floorDiv_7cf53_21 rfl ?_
    refine zA_iret dJ9_floorDiv_7cf53_22 rfl ?_
    first
      | exact zRt_i hq0
      | exact zRt_i (by rw [← c14]; exact (Int.mul_ediv_cancel q (by omega)).symm)
  · skip
    have h4 : a < 0 := by
      have := hx.mp c7
      omega
    rw [if_neg (by omega)] at hq0
    have e1 := Int.ediv_mul_le (-a) (show b ≠ 0 by omega)
    have e2 := Int.lt_ediv_add_one_mul_self (-a) hb
    have e3 : 0 ≤ -a / b := Int.ediv_nonneg (by omega) (by omega)
    have e4 : 0 ≤ -a / b * b := Int.mul_nonneg e3 (by omega)
    have e5 : q * b = -(-a / b * b) := by rw [hq0, Int.neg_mul]
    have e6 : (-a / b + 1) * b = -a / b * b + b := by rw [Int.add_mul, Int.one_mul]
    have a1 := inR_lo ha
    have a2 := inR_hi ha
    have e7 : 0 ≤ q + 2147483648 := by have := inR_lo hq; omega
    refine zA_iload_n dJ9_floorDiv_7cf53_10 rfl ?_
    refine zA_iload_n dJ9_floorDiv_7cf53_11 rfl ?_
    refine zA_imul dJ9_floorDiv_7cf53_12 ?_
    refine zA_iload_n dJ9_floorDiv_7cf53_13 rfl ?_
    refine zA_icmp_eq (tgt := 21) dJ9_floorDiv_7cf53_14 (by decide) (by first | assumption | exact hr _ _ | exact inR_mk (by omega) (by omega)) (by first | assumption | exact hr _ _ | exact inR_mk (by omega) (by omega)) (fun c14 => ?_) (fun c14 => ?_)
    · skip
      refine zA_iload_n dJ9_floorDiv_7cf53_21 rfl ?_
      refine zA_iret dJ9_floorDiv_7cf53_22 rfl ?_
      first
        | exact zRt_i hq0
        | exact zRt_i (by rw [← c14]; exact (Int.mul_ediv_cancel q (by omega)).symm)
    · skip
      refine zA_iload_n dJ9_floorDiv_7cf53_17 rfl ?_
      refine zA_iconst dJ9_floorDiv_7cf53_18 ?_
      refine zA_isub dJ9_floorDiv_7cf53_19 ?_
      refine zA_iret dJ9_floorDiv_7cf53_20 rfl ?_
      refine zRt_i (Int.le_antisymm ?_ ?_)
      · rw [Int.le_ediv_iff_mul_le hb, Int.sub_mul, Int.one_mul]
        omega
      · have := (Int.ediv_lt_iff_lt_mul (a := a) (b := q) hb).mpr (by omega)
        omega

theorem popc_b (a : Int) : 0 ≤ popc a ∧ popc a ≤ 16 := by
  have := zsum_b (f := fun k : Nat => if tb a k = true then (1 : Int) else 0) (B := 1) 16 (fun k _ => by split <;> omega)
  unfold popc
  omega
set_option maxRecDepth 100000 in
set_option maxHeartbeats 4000000 in
theorem s_bitCountN {l : Launch} {w : zW} {gr : Bool} {S : zS} {n : Nat} (hn : n < 16384) : zSp l mJ6_bitCount_0f7a4 gr 1 0 0 [zI (n : Int)] S w (zRt (some (zI (popc (n : Int)))) S w) zNo := by
  refine zA_intro ⟨by decide +kernel, Or.inr rfl⟩ rfl (Nat.le_of_ble_eq_true rfl) ?_
  have hu : ∀ (x : Nat) (i : Nat), x < 2147483648 → i < 32 → iUsh (x : Int) (i : Int) = ((x / 2 ^ i : Nat) : Int) := fun x i hx hi => by
    have := iUsh_d (x := (x : Int)) (i := (i : Int)) (by omega) (by omega) (by omega) (by omega)
    simpa using this
  have ha : ∀ (x m : Nat), x < 2147483648 → m < 2147483648 → iAnd (x : Int) (m : Int) = ((x &&& m : Nat) : Int) := fun x m hx hm => by
    have := iAnd_nn (a := (x : Int)) (b := (m : Int)) (by omega) (by omega) (by omega) (by omega)
    simpa using this
  refine zA_range (fun hr => ?_)
  show zA l mJ6_bitCount_0f7a4 gr 1 0 0 (zRt (some (zI (popc (n : Int)))) S w) zNo 0 [zI (n : Int)] [] S w
  refine zA_iload_n dJ6_bitCount_0f7a4_0 rfl ?_
  refine zA_iload_n dJ6_bitCount_0f7a4_1 rfl ?_
  refine zA_iconst dJ6_bitCount_0f7a4_2 ?_
  refine zA_iushr dJ6_bitCount_0f7a4_3 ?_
  refine zA_ldcw dJ6_bitCount_0f7a4_4 qJ6_265 ?_
  refine zA_iand dJ6_bitCount_0f7a4_7 ?_
  refine zA_isub dJ6_bitCount_0f7a4_8 ?_
  refine zA_valI ((bc1 n : Nat) : Int) (by have q1 := hu n 1 (by omega) (by decide); have q2 := ha (n / 2 ^ 1) 1431655765 (by simp only [Nat.pow_one]; omega) (by decide); rw [show (1 : Int) = ((1 : Nat) : Int) from rfl, q1, show (1431655765 : Int) = ((1431655765 : Nat) : Int) from rfl, q2]; unfold bc1; simp only [Nat.pow_one]; have g1 : n / 2 &&& 1431655765 ≤ n / 2 := Nat.and_le_left; omega) ?_
  have b1 : bc1 n ≤ n := Nat.sub_le _ _
  refine zA_istore_n (lo1 := [zI ((bc1 n : Nat) : Int)]) dJ6_bitCount_0f7a4_9 (by decide) rfl rfl ?_
  refine zA_iload_n dJ6_bitCount_0f7a4_10 rfl ?_
  refine zA_ldcw dJ6_bitCount_0f7a4_11 qJ6_266 ?_
  refine zA_iand dJ6_bitCount_0f7a4_14 ?_
  refine zA_iload_n dJ6_bitCount_0f7a4_15 rfl ?_
  refine zA_iconst dJ6_bitCount_0f7a4_16 ?_
  refine zA_iushr dJ6_bitCount_0f7a4_17 ?_
  refine zA_ldcw dJ6_bitCount_0f7a4_18 qJ6_266 ?_
  refine zA_iand dJ6_bitCount_0f7a4_21 ?_
  refine zA_iadd dJ6_bitCount_0f7a4_22 ?_
  refine zA_valI ((bc2 (bc1 n) : Nat) : Int) (by have q1 := hu (bc1 n) 2 (by omega) (by decide); have q2 := ha (bc1 n) 858993459 (by omega) (by decide); have q3 := ha (bc1 n / 2 ^ 2) 858993459 (by have := Nat.div_le_self (bc1 n) (2 ^ 2); omega) (by decide); rw [show (2 : Int) = ((2 : Nat) : Int) from rfl, q1, show (858993459 : Int) = ((858993459 : Nat) : Int) from rfl, q2, q3]; unfold bc2; simp only [show (2 : Nat) ^ 2 = 4 from rfl]; omega) ?_
  have b2 : bc2 (bc1 n) ≤ 40000 := by unfold bc2; have g1 : bc1 n &&& 858993459 ≤ bc1 n := Nat.and_le_left; have g2 : bc1 n / 4 &&& 858993459 ≤ bc1 n / 4 := Nat.and_le_left; omega
  refine zA_istore_n (lo1 := [zI ((bc2 (bc1 n) : Nat) : Int)]) dJ6_bitCount_0f7a4_23 (by decide) rfl rfl ?_
  refine zA_iload_n dJ6_bitCount_0f7a4_24 rfl ?_
  refine zA_iload_n dJ6_bitCount_0f7a4_25 rfl ?_
  refine zA_iconst dJ6_bitCount_0f7a4_26 ?_
  refine zA_iushr dJ6_bitCount_0f7a4_27 ?_
  refine zA_iadd dJ6_bitCount_0f7a4_28 ?_
  refine zA_ldcw dJ6_bitCount_0f7a4_29 qJ6_267 ?_
  refine zA_iand dJ6_bitCount_0f7a4_32 ?_
  refine zA_valI ((bc3 (bc2 (bc1 n)) : Nat) : Int) (by have q1 := hu (bc2 (bc1 n)) 4 (by omega) (by decide); have q2 := ha (bc2 (bc1 n) + bc2 (bc1 n) / 2 ^ 4) 252645135 (by have := Nat.div_le_self (bc2 (bc1 n)) (2 ^ 4); omega) (by decide); rw [show (4 : Int) = ((4 : Nat) : Int) from rfl, q1, show (252645135 : Int) = ((252645135 : Nat) : Int) from rfl, ← Int.natCast_add, q2]; unfold bc3; simp only [show (2 : Nat) ^ 4 = 16 from rfl]) ?_
  have b3 : bc3 (bc2 (bc1 n)) ≤ 80000 := by unfold bc3; have g1 : bc2 (bc1 n) + bc2 (bc1 n) / 16 &&& 252645135 ≤ bc2 (bc1 n) + bc2 (bc1 n) / 16 := Nat.and_le_left; omega
  refine zA_istore_n (lo1 := [zI ((bc3 (bc2 (bc1 n)) : Nat) : Int)]) dJ6_bitCount_0f7a4_33 (by decide) rfl rfl ?_
  refine zA_iload_n dJ6_bitCount_0f7a4_34 rfl ?_
  refine zA_iload_n dJ6_bitCount_0f7a4_35 rfl ?_
  refine zA_bipush dJ6_bitCount_0f7a4_36 rfl ?_
  refine zA_iushr dJ6_bitCount_0f7a4_38 ?_
  refine zA_iadd dJ6_bitCount_0f7a4_39 ?_
  refine zA_valI ((bc4 (bc3 (bc2 (bc1 n))) : Nat) : Int) (by have q1 := hu (bc3 (bc2 (bc1 n))) 8 (by omega) (by decide); rw [show (8 : Int) = ((8 : Nat) : Int) from rfl, q1, ← Int.natCast_add]; unfold bc4; simp only [show (2 : Nat) ^ 8 = 256 from rfl]) ?_
  have b4 : bc4 (bc3 (bc2 (bc1 n))) ≤ 160000 := by unfold bc4; have := Nat.div_le_self (bc3 (bc2 (bc1 n))) 256; omega
  refine zA_istore_n (lo1 := [zI ((bc4 (bc3 (bc2 (bc1 n))) : Nat) : Int)]) dJ6_bitCount_0f7a4_40 (by decide) rfl rfl ?_
  refine zA_iload_n dJ6_bitCount_0f7a4_41 rfl ?_
  refine zA_iload_n dJ6_bitCount_0f7a4_42 rfl ?_
  refine zA_bipush dJ6_bitCount_0f7a4_43 rfl ?_
  refine zA_iushr dJ6_bitCount_0f7a4_45 ?_
  refine zA_iadd dJ6_bitCount_0f7a4_46 ?_
  refine zA_valI ((bc5 (bc4 (bc3 (bc2 (bc1 n)))) : Nat) : Int) (by have q1 := hu (bc4 (bc3 (bc2 (bc1 n)))) 16 (by omega) (by decide); rw [show (16 : Int) = ((16 : Nat) : Int) from rfl, q1, ← Int.natCast_add]; unfold bc5; simp only [show (2 : Nat) ^ 16 = 65536 from rfl]) ?_
  have b5 : bc5 (bc4 (bc3 (bc2 (bc1 n)))) ≤ 320000 := by unfold bc5; have := Nat.div_le_self (bc4 (bc3 (bc2 (bc1 n)))) 65536; omega
  refine zA_istore_n (lo1 := [zI ((bc5 (bc4 (bc3 (bc2 (bc1 n)))) : Nat) : Int)]) dJ6_bitCount_0f7a4_47 (by decide) rfl rfl ?_
  refine zA_iload_n dJ6_bitCount_0f7a4_48 rfl ?_
  refine zA_bipush dJ6_bitCount_0f7a4_49 rfl ?_
  refine zA_iand dJ6_bitCount_0f7a4_51 ?_
  refine zA_valI ((bcN n : Nat) : Int) (by have q2 := ha (bc5 (bc4 (bc3 (bc2 (bc1 n))))) 63 (by omega) (by decide); rw [show (63 : Int) = ((63 : Nat) : Int) from rfl, q2]; rfl) ?_
  refine zA_iret dJ6_bitCount_0f7a4_52 rfl ?_
  refine zRt_i ?_
  have h5 := List.all_eq_true.mp bcN_ok n (List.mem_range.mpr hn)
  rw [beq_iff_eq] at h5
  rw [h5]
  unfold popc
  rw [popc_N (by omega) 16]
  simp

theorem s_bitCount {l : Launch} {w : zW} {gr : Bool} {S : zS} {a : Int} (h0 : 0 ≤ a) (h1 : a < 16384) : zSp l mJ6_bitCount_0f7a4 gr 1 0 0 [zI a] S w (zRt (some (zI (popc a))) S w) zNo := by
  obtain ⟨n, rfl⟩ := Int.eq_ofNat_of_zero_le h0
  exact s_bitCountN (by omega)
