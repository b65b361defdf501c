/-! the class's orders: over the list of the chimneys asked -/
def ixN (S c : Int) : Int := zsum c.toNat (fun j => if tb S j = true then 1 else 0)
def rem (S D : Int) : Int → Bool := fun c => tb S c && !tb D (ixN S c)
def aOk (S : Int) (a : Int → Int) (m : Int) : Prop := m = popN (tb S) ∧ (∀ i : Int, 0 ≤ i → i < m → (0 ≤ a i ∧ a i < 12) ∧ tb S (a i) = true ∧ ixN S (a i) = i) ∧ ∀ c : Int, 0 ≤ c → c < 12 → tb S c = true → (0 ≤ ixN S c ∧ ixN S c < m) ∧ a (ixN S c) = c
theorem ixN_s {S c : Int} (h : 0 ≤ c) : ixN S (c + 1) = ixN S c + (if tb S c = true then 1 else 0) := by
  unfold ixN
  rw [zsucc h]
  simp only [zsum]
  rw [zcast h]
theorem ixN_0 {S : Int} : ixN S 0 = 0 := rfl
theorem ixN_b {S c : Int} : 0 ≤ ixN S c := zsum_b0 _ (fun k _ => by split <;> omega)
theorem ixN_m {S c : Int} (h : 0 ≤ c) : ∀ k : Nat, ixN S c ≤ ixN S (c + k) := by
  intro k
  induction k with
  | zero => simp
  | succ k ih =>
    have := ixN_s (S := S) (c := c + k) (by omega)
    rw [show c + ((k + 1 : Nat) : Int) = c + k + 1 by omega, this]
    split <;> omega
theorem ixN_le {S c c' : Int} (h : 0 ≤ c) (hc : c ≤ c') : ixN S c ≤ ixN S c' := by
  have := ixN_m (S := S) h (c' - c).toNat
  rwa [show c + ((c' - c).toNat : Int) = c' by omega] at this
theorem ixN_lt {S c c' : Int} (h : 0 ≤ c) (hc : c < c') (ht : tb S c = true) : ixN S c < ixN S c' := by
  have h1 := ixN_s (S := S) h
  rw [if_pos ht] at h1
  have := ixN_le (S := S) (c := c + 1) (c' := c') (by omega) (by omega)
  omega
theorem ixN_12 {S : Int} : ixN S 12 = popN (tb S) := rfl
theorem br_sum {S D m : Int} {a f : Int → Int} (hA : aOk S a m) : ∀ k : Nat, k ≤ 12 → zsum k (fun c => if rem S D c = true then f c else 0) = zsum (ixN S k).toNat (fun j => if tb D j = true then 0 else f (a j)) := by
  intro k
  induction k with
  | zero => intro _; rfl
  | succ k ih =>
    intro hk
    have h1 := ixN_s (S := S) (c := k) (by omega)
    have h2 : 0 ≤ ixN S k := ixN_b
    rw [show ((k + 1 : Nat) : Int) = (k : Int) + 1 by omega]
    simp only [zsum]
    rw [ih (by omega), h1]
    by_cases ht : tb S k = true
    · rw [if_pos ht, zsucc h2]
      simp only [zsum]
      rw [zcast h2, (hA.2.2 k (by omega) (by omega) ht).2]
      unfold rem
      rw [ht]
      cases tb D (ixN S k) <;> simp
    · rw [if_neg ht]
      have : rem S D k = false := by unfold rem; rw [Bool.not_eq_true] at ht; rw [ht]; rfl
      rw [this]
      simp
theorem br_mn {S D m : Int} {a f : Int → Int} (hA : aOk S a m) : ∀ k : Nat, k ≤ 12 → mnF (rem S D) f k = mnF (fun j => !tb D j) (fun j => f (a j)) (ixN S k).toNat := by
  intro k
  induction k with
  | zero => intro _; rfl
  | succ k ih =>
    intro hk
    have h1 := ixN_s (S := S) (c := k) (by omega)
    have h2 : 0 ≤ ixN S k := ixN_b
    rw [show ((k + 1 : Nat) : Int) = (k : Int) + 1 by omega]
    simp only [mnF]
    rw [ih (by omega), h1]
    by_cases ht : tb S k = true
    · rw [if_pos ht, zsucc h2]
      simp only [mnF]
      rw [zcast h2, (hA.2.2 k (by omega) (by omega) ht).2]
      unfold rem
      rw [ht]
      cases tb D (ixN S k) <;> simp
    · rw [if_neg ht]
      have : rem S D k = false := by unfold rem; rw [Bool.not_eq_true] at ht; rw [ht]; rfl
      rw [this]
      simp
theorem br_R {S D m : Int} {a rk : Int → Int} (hA : aOk S a m) : oR rk (rem S D) = zsum m.toNat (fun j => if tb D j = true then 0 else rk (a j)) := by
  have h := br_sum (D := D) (f := rk) hA 12 (Nat.le_refl _)
  rw [show ((12 : Nat) : Int) = 12 from rfl, ixN_12, ← hA.1] at h
  exact h
theorem br_M {S D m : Int} {a f : Int → Int} (hA : aOk S a m) : mnF (rem S D) f 12 = mnF (fun j => !tb D j) (fun j => f (a j)) m.toNat := by
  have h := br_mn (D := D) (f := f) hA 12 (Nat.le_refl _)
  rw [show ((12 : Nat) : Int) = 12 from rfl, ixN_12, ← hA.1] at h
  exact h
theorem rem_or {S D D' m i : Int} {a : Int → Int} (hA : aOk S a m) (i0 : 0 ≤ i) (i1 : i < m) (h : ∀ j : Int, 0 ≤ j → tb D' j = (tb D j || decide (j = i))) : agP (rem S D') (rmv (rem S D) (a i)) := by
  intro c c0 c1
  unfold rmv rem
  cases ht : tb S c with
  | false => rfl
  | true =>
    obtain ⟨h1, h2⟩ := hA.2.2 c c0 c1 ht
    have h3 := (hA.2.1 i i0 i1).2.2
    rw [h _ h1.1]
    by_cases e : ixN S c = i
    · rw [decide_eq_true e, decide_eq_true (show c = a i by rw [← e, h2])]; simp
    · rw [decide_eq_false e, decide_eq_false (show ¬ c = a i from fun q => e (by rw [q]; exact h3))]; simp
theorem rem_at {S D m i : Int} {a : Int → Int} (hA : aOk S a m) (i0 : 0 ≤ i) (i1 : i < m) : rem S D (a i) = !tb D i := by
  have h := hA.2.1 i i0 i1
  unfold rem
  rw [h.2.1, h.2.2]; simp
theorem rem_d {S D c : Int} (h : rem S D c = true) : tb S c = true ∧ tb D (ixN S c) = false := by
  unfold rem at h
  rw [Bool.and_eq_true] at h
  exact ⟨h.1, by simpa using h.2⟩
theorem rem_0 {S : Int} : agP (rem S 0) (tb S) := fun c _ _ => by unfold rem; rw [tb_0]; simp
theorem tb_M1 {m : Int} (j : Int) (h : 0 ≤ m) (j0 : 0 ≤ j) : tb (((2 ^ m.toNat : Nat) : Int) - 1) j = decide (j < m) := by
  unfold tb
  have h1 : 0 < 2 ^ m.toNat := Nat.pow_pos (by decide)
  rw [show (((2 ^ m.toNat : Nat) : Int) - 1).toNat = 2 ^ m.toNat - 1 by omega, Nat.testBit_two_pow_sub_one, decide_eq_decide]
  omega
theorem tb_Mhi {m D j : Int} (h : 0 ≤ m) (hD : D < ((2 ^ m.toNat : Nat) : Int)) (hj : m ≤ j) : tb D j = false :=
  tb_hi (k := m.toNat) (by have h4 : (((2 : Nat) ^ m.toNat : Nat) : Int) = (2 : Int) ^ m.toNat := Int.natCast_pow 2 m.toNat; rw [← h4]; exact hD) (by omega)
theorem tb_Mlt {m D : Int} (h : 0 ≤ m) (h0 : 0 ≤ D) (hj : ∀ j : Int, m ≤ j → tb D j = false) : D < ((2 ^ m.toNat : Nat) : Int) := by
  have e := tb_lt (k := m.toNat) h0 (fun j hh => hj j (by omega))
  have h4 : (((2 : Nat) ^ m.toNat : Nat) : Int) = (2 : Int) ^ m.toNat := Int.natCast_pow 2 m.toNat
  rw [← h4] at e
  exact e
theorem M_b {m : Int} (h0 : 0 ≤ m) (h : m ≤ 9) : 1 ≤ ((2 ^ m.toNat : Nat) : Int) ∧ ((2 ^ m.toNat : Nat) : Int) ≤ 512 := by
  have h1 : 0 < 2 ^ m.toNat := Nat.pow_pos (by decide)
  have h2 : 2 ^ m.toNat ≤ 2 ^ 9 := Nat.pow_le_pow_right (by decide) (by omega)
  omega
/-- what a call of order asks of the yard and the rows -/
def oG (w : zW) (y : Nat) (S m : Int) : Prop := aOk S (w 66) m ∧ w 62 5 = m ∧ okO (w 63) (w 64) (yTrav w y) ∧ (0 ≤ m ∧ m ≤ 9)
def oLa (w : zW) (i : Int) : Int := if i = -1 then -1 else w 66 i
theorem oWay_la {w : zW} {y : Nat} {la i : Int} (h : la ≠ -1 → w 66 la ≠ -1) : (if la = -1 then 0 else yTrav w y (w 66 la) (w 66 i)) = oWay (yTrav w y) (oLa w la) (w 66 i) := by
  unfold oWay oLa
  by_cases hq : la = -1
  · rw [if_pos hq, if_pos hq, if_pos rfl]
  · rw [if_neg hq, if_neg hq, if_neg (h hq)]
/-- costs and risks are told of all that is done beyond D0 -/
def oG2 (w : zW) (y : Nat) (S m D0 : Int) : Prop := (∀ (D i : Int) (n : Nat), D0 < D → D < ((2 ^ m.toNat : Nat) : Int) → 0 ≤ i → i < m → tb D i = true → popN (rem S D) = n → w 67 (D * 9 + i) = oC (w 63) (w 64) (yTrav w y) n (rem S D) (w 66 i)) ∧ ∀ D : Int, D0 < D → D < ((2 ^ m.toNat : Nat) : Int) → w 68 D = oR (w 63) (rem S D)
theorem or_b {m D i : Int} (m0 : 0 ≤ m) (m9 : m ≤ 9) (d0 : 0 ≤ D) (d1 : D < ((2 ^ m.toNat : Nat) : Int)) (i0 : 0 ≤ i) (i1 : i < m) : (0 ≤ iOr D (iShl 1 i) ∧ iOr D (iShl 1 i) < ((2 ^ m.toNat : Nat) : Int)) ∧ (∀ j : Int, 0 ≤ j → tb (iOr D (iShl 1 i)) j = (tb D j || decide (j = i))) ∧ (tb D i = false → D < iOr D (iShl 1 i)) := by
  have hM := M_b m0 m9
  have h := tb_or (x := D) (i := i) d0 (by omega) i0 (by omega)
  refine ⟨⟨h.1.1, tb_Mlt m0 h.1.1 (fun j hj => ?_)⟩, h.2, fun ht => ?_⟩
  · rw [h.2 j (by omega), tb_Mhi m0 d1 hj, decide_eq_false (show ¬ j = i by omega)]; rfl
  · have e : iOr D (iShl 1 i) = ((D.toNat ||| 2 ^ i.toNat : Nat) : Int) := by
      have hp := pow_toNat_lt i0 (show i < 31 by omega)
      rw [iShl_1 i0 (by omega), iOr_nn d0 (by omega) (Int.natCast_nonneg _) (by have := Int.ofNat_lt.mpr hp; exact this), Int.toNat_natCast]
    have h3 : D.toNat ≤ D.toNat ||| 2 ^ i.toNat := Nat.left_le_or
    have h4 : D.toNat ≠ D.toNat ||| 2 ^ i.toNat := fun q => by
      have h5 : (D.toNat ||| 2 ^ i.toNat).testBit i.toNat = true := by rw [Nat.testBit_or, Nat.testBit_two_pow_self, Bool.or_true]
      rw [← q] at h5
      unfold tb at ht
      rw [ht] at h5; cases h5
    rw [e]
    generalize D.toNat ||| 2 ^ i.toNat = z at h3 h4
    omega
/-- a cost that is told -/
theorem oG_cost {w : zW} {y : Nat} {S m D i la : Int} {n : Nat} (hG : oG w y S m) (h2 : oG2 w y S m D) (ho : w 68 D = oR (w 63) (rem S D)) (d0 : 0 ≤ D) (d1 : D < ((2 ^ m.toNat : Nat) : Int)) (i0 : 0 ≤ i) (i1 : i < m) (ht : tb D i = false) (hn : popN (rem S D) = (n + 1 : Nat)) (way : Int) (hw : way = oWay (yTrav w y) la (w 66 i)) :
    (way + w 64 (w 66 i)) * w 68 D + w 67 (iOr D (iShl 1 i) * 9 + i) = oF (w 63) (w 64) (yTrav w y) n (rem S D) la (w 66 i) := by
  obtain ⟨hA, -, hok, m0, m9⟩ := hG
  have hb := or_b m0 m9 d0 d1 i0 i1
  have hag := rem_or (D := D) hA i0 i1 hb.2.1
  have ha := hA.2.1 i i0 i1
  have hre : rem S D (w 66 i) = true := by rw [rem_at hA i0 i1, ht]; rfl
  have hpn := popN_rmv (p := rem S D) ha.1.1 ha.1.2 hre
  have hc := h2.1 (iOr D (iShl 1 i)) i n (hb.2.2 ht) hb.1.2 i0 i1 (by rw [hb.2.1 i i0, decide_eq_true rfl, Bool.or_true]) (by rw [popN_c hag]; omega)
  rw [hc, ho, hw, oC_c n _ _ _ hag]
  rfl
set_option maxRecDepth 100000 in
set_option maxHeartbeats 4000000 in
theorem s_listAsked {l : Launch} {t dr tx : Nat} {w : zW} {S : Int} (s0 : 0 ≤ S) (s1 : S < 4096) (hp : popN (tb S) ≤ 9) : zSp l mX4_listAsked false 1 0 0 [zR 62, zI S] (ZZ t dr tx) w (fun v' S' w' => v' = none ∧ S' = (ZZ t dr tx) ∧ (∀ c i, c ≠ 66 → (c ≠ 62 ∨ i ≠ 5) → w' c i = w c i) ∧ w' 62 5 = popN (tb S) ∧ aOk S (w' 66) (popN (tb S))) zNo := by
  refine zA_intro ⟨plainFor_of_name (by decide +kernel), Or.inl (by decide +kernel)⟩ rfl (Nat.le_of_ble_eq_true rfl) ?_
  refine zA_range (fun hr => ?_)
  show zA l mX4_listAsked false 1 0 0 (fun v' S' w' => v' = none ∧ S' = (ZZ t dr tx) ∧ (∀ c i, c ≠ 66 → (c ≠ 62 ∨ i ≠ 5) → w' c i = w c i) ∧ w' 62 5 = popN (tb S) ∧ aOk S (w' 66) (popN (tb S))) zNo 0 [zR 62, zI S, .null] [] (ZZ t dr tx) w
  refine zA_aload_n dX4_listAsked_0 rfl ?_
  refine zA_iconst dX4_listAsked_1 ?_
  refine zA_putI dX4_listAsked_2 fX4_28 c62 rfl ⟨by decide, by decide⟩ ⟨rfl, rfl⟩ ?_
  refine zA_namew (fun w_1 hw_1 => ?_)
  refine zA_range (fun hr => ?_)
  replace hw_1 : w_1 = up w 62 5 0 := hw_1
  refine zA_iconst dX4_listAsked_5 ?_
  refine zA_istore_n (lo1 := [zR 62, zI S, zI 0]) dX4_listAsked_6 (by decide) rfl rfl ?_
  have L7 : ∀ (z7 : Nat) (c : Int) (w1 : zW) (c0 : 0 ≤ c) (c1 : c ≤ 12) (hf : ∀ c i, c ≠ 66 → (c ≠ 62 ∨ i ≠ 5) → w1 c i = w c i) (h5 : w1 62 5 = ixN S c) (ha : ∀ j : Int, 0 ≤ j → j < c → tb S j = true → w1 66 (ixN S j) = j) (hb : ∀ i : Int, 0 ≤ i → i < ixN S c → (0 ≤ w1 66 i ∧ w1 66 i < c) ∧ tb S (w1 66 i) = true ∧ ixN S (w1 66 i) = i) (zm : (12 - c).toNat < z7), zA l mX4_listAsked false 1 0 0 (fun v' S' w' => v' = none ∧ S' = (ZZ t dr tx) ∧ (∀ c i, c ≠ 66 → (c ≠ 62 ∨ i ≠ 5) → w' c i = w c i) ∧ w' 62 5 = popN (tb S) ∧ aOk S (w' 66) (popN (tb S))) zNo 7 [zR 62, zI S, zI c] [] (ZZ t dr tx) w1 := by
    intro z7
    induction z7 with
    | zero => intro c w1 c0 c1 hf h5 ha hb zm; exact absurd zm (Nat.not_lt_zero _)
    | succ z7 ih7 =>
      intro c w1 c0 c1 hf h5 ha hb zm
      refine zA_range (fun hr => ?_)
      have hxb : 0 ≤ ixN S c := ixN_b
      have hx12 := ixN_le (S := S) c0 c1
      rw [ixN_12] at hx12
      refine zA_iload_n dX4_listAsked_7 rfl ?_
      refine zA_bipush dX4_listAsked_8 rfl ?_
      refine zA_icmp_ge (tgt := 56) dX4_listAsked_10 (by decide) (by first | assumption | exact hr _ _ | exact inR_mk (by omega) (by omega)) ⟨by decide, by decide⟩ (fun c10 => ?_) (fun c10 => ?_)
      · skip
        refine zA_vret dX4_listAsked_56 rfl ?_
        have hend : ∀ j : Int, c ≤ j → j < 12 → tb S j = false := by
          intro j a b
          cases ht : tb S j with
          | false => rfl
          | true =>
            have h1 := ixN_lt (S := S) (c := j) (c' := 12) (by omega) b ht
            have h2 := ixN_le (S := S) c0 a
            rw [ixN_12] at h1
            omega
        have hx : ixN S c = popN (tb S) := by
          have key : ∀ k : Nat, c + k ≤ 12 → ixN S (c + k) = ixN S c := by
            intro k
            induction k with
            | zero => intro _; simp
            | succ k ih =>
              intro hk
              rw [show c + ((k + 1 : Nat) : Int) = c + k + 1 by omega, ixN_s (by omega), hend _ (by omega) (by omega), ih (by omega)]
              simp
          have := key (12 - c).toNat (by omega)
          rw [show c + ((12 - c).toNat : Int) = 12 by omega, ixN_12] at this
          exact this.symm
        refine ⟨rfl, rfl, hf, by rw [h5, hx], rfl, fun i a b => ?_, fun j a b ht => ?_⟩
        · have := hb i a (by omega)
          exact ⟨by omega, this.2⟩
        · have hj : j < c := by
            refine Classical.byContradiction (fun hn => ?_)
            rw [hend j (by omega) b] at ht; cases ht
          have := ixN_lt (S := S) a hj ht
          exact ⟨⟨ixN_b, by omega⟩, ha j a hj ht⟩
      · skip
        refine zA_aload_n dX4_listAsked_13 rfl ?_
        refine zA_getI dX4_listAsked_14 fX4_28 c62 rfl ?_
        refine zA_valI (w1 62 5) rfl ?_
        refine zA_bipush dX4_listAsked_17 rfl ?_
        refine zA_icmp_ge (tgt := 56) dX4_listAsked_19 (by decide) (by first | assumption | exact hr _ _ | exact inR_mk (by omega) (by omega)) ⟨by decide, by decide⟩ (fun c19 => ?_) (fun c19 => ?_)
        · skip
          refine zA_vret dX4_listAsked_56 rfl ?_
          have hend : ∀ j : Int, c ≤ j → j < 12 → tb S j = false := by
            intro j a b
            cases ht : tb S j with
            | false => rfl
            | true =>
              have h1 := ixN_lt (S := S) (c := j) (c' := 12) (by omega) b ht
              have h2 := ixN_le (S := S) c0 a
              rw [ixN_12] at h1
              omega
          have hx : ixN S c = popN (tb S) := by
            have key : ∀ k : Nat, c + k ≤ 12 → ixN S (c + k) = ixN S c := by
              intro k
              induction k with
              | zero => intro _; simp
              | succ k ih =>
                intro hk
                rw [show c + ((k + 1 : Nat) : Int) = c + k + 1 by omega, ixN_s (by omega), hend _ (by omega) (by omega), ih (by omega)]
                simp
            have := key (12 - c).toNat (by omega)
            rw [show c + ((12 - c).toNat : Int) = 12 by omega, ixN_12] at this
            exact this.symm
          refine ⟨rfl, rfl, hf, by rw [h5, hx], rfl, fun i a b => ?_, fun j a b ht => ?_⟩
          · have := hb i a (by omega)
            exact ⟨by omega, this.2⟩
          · have hj : j < c := by
              refine Classical.byContradiction (fun hn => ?_)
              rw [hend j (by omega) b] at ht; cases ht
            have := ixN_lt (S := S) a hj ht
            exact ⟨⟨ixN_b, by omega⟩, ha j a hj ht⟩
        · skip
          refine zA_iload_n dX4_listAsked_22 rfl ?_
          refine zA_iload_n dX4_listAsked_23 rfl ?_
          refine zA_ishr dX4_listAsked_24 ?_
          refine zA_iconst dX4_listAsked_25 ?_
          refine zA_iand dX4_listAsked_26 ?_
          refine zA_valI (if tb S c = true then 1 else 0) (tb_get s0 (by omega) c0 (by omega)) ?_
          refine zA_if_eq (tgt := 50) dX4_listAsked_27 (by decide) (inR_ite _) (fun c27 => ?_) (fun c27 => ?_)
          · skip
            replace c27 := zite_eq c27
            refine zA_iinc (lo1 := [zR 62, zI S, zI (c + 1)]) dX4_listAsked_50 rfl (by decide) rfl rfl ?_
            refine zA_goto (tgt := 7) dX4_listAsked_53 (by decide) ?_
            exact ih7 (c + 1) _ (by omega) (by omega) hf (by rw [ixN_s c0, if_neg c27, h5]; omega) (fun j a b ht => by
                        by_cases hj : j = c
                        · rw [hj] at ht; exact absurd ht c27
                        · exact ha j a (by omega) ht) (fun i a b => by
                        rw [ixN_s c0, if_neg c27] at b
                        have := hb i a (by omega)
                        exact ⟨by omega, this.2⟩) (by omega)
          · skip
            replace c27 := zite_ne c27
            refine zA_aload_n dX4_listAsked_30 rfl ?_
            refine zA_getR (n := 66) dX4_listAsked_31 fX4_25 c62 rfl ?_
            refine zA_aload_n dX4_listAsked_34 rfl ?_
            refine zA_getI dX4_listAsked_35 fX4_28 c62 rfl ?_
            refine zA_valI (w1 62 5) rfl ?_
            refine zA_iload_n dX4_listAsked_38 rfl ?_
            refine zA_iastore dX4_listAsked_39 (by first | assumption | exact hr _ _ | exact inR_mk (by omega) (by omega)) c66 (by first | assumption | omega) (by first | assumption | omega) (by decide) ?_
            refine zA_namew (fun w_2 hw_2 => ?_)
            refine zA_range (fun hr => ?_)
            replace hw_2 : w_2 = up w1 66 (w1 62 5) c := hw_2
            have e5 : w_2 62 5 = ixN S c := by rw [hw_2, up_cell _ _ _ _ (by decide)]; exact h5
            refine zA_aload_n dX4_listAsked_40 rfl ?_
            refine zA_dup dX4_listAsked_41 rfl ?_
            refine zA_getI dX4_listAsked_42 fX4_28 c62 rfl ?_
            refine zA_valI (w_2 62 5) rfl ?_
            refine zA_iconst dX4_listAsked_45 ?_
            refine zA_iadd dX4_listAsked_46 ?_
            refine zA_putI dX4_listAsked_47 fX4_28 c62 rfl (by first | assumption | exact hr _ _ | exact inR_mk (by omega) (by omega)) ⟨rfl, rfl⟩ ?_
            refine zA_namew (fun w_3 hw_3 => ?_)
            refine zA_range (fun hr => ?_)
            replace hw_3 : w_3 = up w_2 62 5 ((w_2 62 5) + 1) := hw_3
            refine zA_iinc (lo1 := [zR 62, zI S, zI (c + 1)]) dX4_listAsked_50 rfl (by decide) rfl rfl ?_
            refine zA_goto (tgt := 7) dX4_listAsked_53 (by decide) ?_
            exact ih7 (c + 1) _ (by omega) (by omega) (fun cc i a b => by
                        by_cases hc : cc = 62
                        · subst hc; rw [hw_3, up_idx _ _ _ _ (by omega), hw_2, up_cell _ _ _ _ (by decide)]; exact hf 62 i (by decide) b
                        · rw [hw_3, up_cell _ _ _ _ hc, hw_2, up_cell _ _ _ _ a]; exact hf cc i a b) (by rw [hw_3, up_same, e5, ixN_s c0, if_pos c27]) (fun j a b ht => by
                        rw [hw_3, up_cell _ _ _ _ (by decide), hw_2]
                        by_cases hj : j = c
                        · rw [hj, h5, up_same]
                        · rw [up_idx _ _ _ _ (by have := ixN_lt (S := S) a (show j < c by omega) ht; omega)]; exact ha j a (by omega) ht) (fun i a b => by
                        rw [ixN_s c0, if_pos c27] at b
                        rw [hw_3, up_cell _ _ _ _ (by decide), hw_2]
                        by_cases hi : i = w1 62 5
                        · rw [hi, up_same]; exact ⟨by omega, c27, h5.symm⟩
                        · rw [up_idx _ _ _ _ hi]
                          have := hb i a (by omega)
                          exact ⟨by omega, this.2⟩) (by omega)
  exact L7 _ 0 w_1 (by omega) (by omega) (fun c i a b => by
          by_cases hc : c = 62
          · subst hc; rw [hw_1, up_idx _ _ _ _ (by omega)]
          · rw [hw_1, up_cell _ _ _ _ hc]) (by rw [hw_1, up_same]; rfl) (fun j a b => by omega) (fun i a b => by rw [ixN_0] at b; omega) (Nat.lt_succ_self _)

set_option maxRecDepth 100000 in
set_option maxHeartbeats 4000000 in
theorem s_riskWithout {l : Launch} {t dr tx : Nat} {w : zW} {y : Nat} {S D m : Int} (hG : oG w y S m) (d0 : 0 ≤ D) (d1 : D < 512) : zSp l mX4_riskWithout false 1 0 0 [zR 62, zI D] (ZZ t dr tx) w (zRt (some (zI (oR (w 63) (rem S D)))) (ZZ t dr tx) w) zNo := by
  refine zA_intro ⟨plainFor_of_name (by decide +kernel), Or.inl (by decide +kernel)⟩ rfl (Nat.le_of_ble_eq_true rfl) ?_
  obtain ⟨hA, h5, hok, m0, m9⟩ := id hG
  refine zA_range (fun hr => ?_)
  show zA l mX4_riskWithout false 1 0 0 (zRt (some (zI (oR (w 63) (rem S D)))) (ZZ t dr tx) w) zNo 0 [zR 62, zI D, .null, .null] [] (ZZ t dr tx) w
  refine zA_iconst dX4_riskWithout_0 ?_
  refine zA_istore_n (lo1 := [zR 62, zI D, zI 0, .null]) dX4_riskWithout_1 (by decide) rfl rfl ?_
  refine zA_iconst dX4_riskWithout_2 ?_
  refine zA_istore_n (lo1 := [zR 62, zI D, zI 0, zI 0]) dX4_riskWithout_3 (by decide) rfl rfl ?_
  have L4 : ∀ (z4 : Nat) (s i : Int) (i0 : 0 ≤ i) (i1 : i ≤ m) (hs : s = zsum i.toNat (fun j => if tb D j = true then 0 else w 63 (w 66 j))) (zm : (m - i).toNat < z4), zA l mX4_riskWithout false 1 0 0 (zRt (some (zI (oR (w 63) (rem S D)))) (ZZ t dr tx) w) zNo 4 [zR 62, zI D, zI s, zI i] [] (ZZ t dr tx) w := by
    intro z4
    induction z4 with
    | zero => intro s i i0 i1 hs zm; exact absurd zm (Nat.not_lt_zero _)
    | succ z4 ih4 =>
      intro s i i0 i1 hs zm
      refine zA_iload_n dX4_riskWithout_4 rfl ?_
      refine zA_aload_n dX4_riskWithout_5 rfl ?_
      refine zA_getI dX4_riskWithout_6 fX4_28 c62 rfl ?_
      refine zA_valI (w 62 5) rfl ?_
      refine zA_icmp_ge (tgt := 40) dX4_riskWithout_9 (by decide) (by first | assumption | exact hr _ _ | exact inR_mk (by omega) (by omega)) (by first | assumption | exact hr _ _ | exact inR_mk (by omega) (by omega)) (fun c9 => ?_) (fun c9 => ?_)
      · skip
        refine zA_iload_n dX4_riskWithout_40 rfl ?_
        refine zA_iret dX4_riskWithout_41 rfl ?_
        exact zRt_i (by rw [hs, br_R hA, show i = m by omega])
      · skip
        refine zA_iload_n dX4_riskWithout_12 rfl ?_
        refine zA_iload_n dX4_riskWithout_13 rfl ?_
        refine zA_ishr dX4_riskWithout_14 ?_
        refine zA_iconst dX4_riskWithout_15 ?_
        refine zA_iand dX4_riskWithout_16 ?_
        refine zA_valI (if tb D i = true then 1 else 0) (tb_get d0 (by omega) i0 (by omega)) ?_
        refine zA_if_ne (tgt := 34) dX4_riskWithout_17 (by decide) (inR_ite _) (fun c17 => ?_) (fun c17 => ?_)
        · skip
          replace c17 := zite_ne c17
          refine zA_iinc (lo1 := [zR 62, zI D, zI s, zI (i + 1)]) dX4_riskWithout_34 rfl (by decide) rfl rfl ?_
          refine zA_goto (tgt := 4) dX4_riskWithout_37 (by decide) ?_
          exact ih4 _ (i + 1) (by omega) (by omega) (by rw [zsucc i0]; simp only [zsum]; rw [zcast i0, if_pos c17, hs]; omega) (by omega)
        · skip
          replace c17 := zite_eq c17
          have hai := hA.2.1 i i0 (by omega)
          have hrk := (hok.1 (w 66 i) hai.1.1 hai.1.2).1
          have hsb := zsum_b (f := fun j : Nat => if tb D j = true then 0 else w 63 (w 66 j)) (B := 999) i.toNat (fun k hk => by
            have h1 := hA.2.1 k (by omega) (by omega)
            have := (hok.1 _ h1.1.1 h1.1.2).1
            split <;> omega)
          refine zA_iload_n dX4_riskWithout_20 rfl ?_
          refine zA_aload_n dX4_riskWithout_21 rfl ?_
          refine zA_getR (n := 63) dX4_riskWithout_22 fX4_11 c62 rfl ?_
          refine zA_aload_n dX4_riskWithout_25 rfl ?_
          refine zA_getR (n := 66) dX4_riskWithout_26 fX4_25 c62 rfl ?_
          refine zA_iload_n dX4_riskWithout_29 rfl ?_
          refine zA_iaload dX4_riskWithout_30 c66 (by first | assumption | omega) (by first | assumption | omega) (by decide) ?_
          refine zA_iaload dX4_riskWithout_31 c63 (by first | assumption | omega) (by first | assumption | omega) (by decide) ?_
          refine zA_iadd dX4_riskWithout_32 ?_
          refine zA_istore_n (lo1 := [zR 62, zI D, zI (s + (w 63 (w 66 i))), zI i]) dX4_riskWithout_33 (by decide) rfl rfl ?_
          refine zA_iinc (lo1 := [zR 62, zI D, zI (s + (w 63 (w 66 i))), zI (i + 1)]) dX4_riskWithout_34 rfl (by decide) rfl rfl ?_
          refine zA_goto (tgt := 4) dX4_riskWithout_37 (by decide) ?_
          exact ih4 _ (i + 1) (by omega) (by omega) (by rw [zsucc i0]; simp only [zsum]; rw [zcast i0, if_neg c17, hs]) (by omega)
  exact L4 _ 0 0 (by omega) (by omega) rfl (Nat.lt_succ_self _)

set_option maxRecDepth 100000 in
set_option maxHeartbeats 4000000 in
theorem s_costOf {l : Launch} {t dr tx : Nat} {w : zW} {y : Nat} (hy : y = 4 ∨ y = 10) {S D la i m : Int} (hG : oG w y S m) (d0 : 0 ≤ D) (d1 : D < ((2 ^ m.toNat : Nat) : Int)) (la0 : -1 ≤ la) (la1 : la < m) (i0 : 0 ≤ i) (i1 : i < m) : zSp l mX4_costOf false 2 0 0 [zR 62, zR y, zI D, zI la, zI i] (ZZ t dr tx) w (zRt (some (zI (((if la = -1 then 0 else yTrav w y (w 66 la) (w 66 i)) + w 64 (w 66 i)) * w 68 D + w 67 (iOr D (iShl 1 i) * 9 + i)))) (ZZ t dr tx) w) zNo := by
  refine zA_intro ⟨plainFor_of_name (by decide +kernel), Or.inl (by decide +kernel)⟩ rfl (Nat.le_of_ble_eq_true rfl) ?_
  obtain ⟨hA, h5, hok, m0, m9⟩ := id hG
  have hM := M_b m0 m9
  have hob := or_b m0 m9 d0 d1 i0 i1
  have hai := hA.2.1 i i0 i1
  refine zA_range (fun hr => ?_)
  show zA l mX4_costOf false 2 0 0 (zRt (some (zI (((if la = -1 then 0 else yTrav w y (w 66 la) (w 66 i)) + w 64 (w 66 i)) * w 68 D + w 67 (iOr D (iShl 1 i) * 9 + i)))) (ZZ t dr tx) w) zNo 0 [zR 62, zR y, zI D, zI la, zI i, .null] [] (ZZ t dr tx) w
  refine zA_iload_n dX4_costOf_0 rfl ?_
  refine zA_iconst dX4_costOf_1 ?_
  refine zA_icmp_ne (tgt := 9) dX4_costOf_2 (by decide) (by first | assumption | exact hr _ _ | exact inR_mk (by omega) (by omega)) ⟨by decide, by decide⟩ (fun c2 => ?_) (fun c2 => ?_)
  · skip
    have hal := hA.2.1 la (by omega) la1
    refine zA_aload_n dX4_costOf_9 rfl ?_
    refine zA_aload_n dX4_costOf_10 rfl ?_
    refine zA_getR (n := 66) dX4_costOf_11 fX4_25 c62 rfl ?_
    refine zA_iload_n dX4_costOf_14 rfl ?_
    refine zA_iaload dX4_costOf_15 c66 (by first | assumption | omega) (by first | assumption | omega) (by decide) ?_
    refine zA_aload_n dX4_costOf_16 rfl ?_
    refine zA_getR (n := 66) dX4_costOf_17 fX4_25 c62 rfl ?_
    refine zA_iload dX4_costOf_20 rfl ?_
    refine zA_iaload dX4_costOf_22 c66 (by first | assumption | omega) (by first | assumption | omega) (by decide) ?_
    refine zA_cV (st := []) dX4_costOf_23 vX10_travel kX4_62 (s_travel (w := w) hy hal.1.1 hal.1.2 hai.1.1 hai.1.2) (by decide) (cY0 hy) rfl rfl (Nat.le_of_ble_eq_true rfl) rfl (zRt_el ?_)
    show zA l mX4_costOf false 2 0 0 (zRt (some (zI (((if la = -1 then 0 else yTrav w y (w 66 la) (w 66 i)) + w 64 (w 66 i)) * w 68 D + w 67 (iOr D (iShl 1 i) * 9 + i)))) (ZZ t dr tx) w) zNo 26 [zR 62, zR y, zI D, zI la, zI i, .null] [zI (yTrav w y (w 66 la) (w 66 i))] (ZZ t dr tx) w
    refine zA_istore (lo1 := [zR 62, zR y, zI D, zI la, zI i, zI (yTrav w y (w 66 la) (w 66 i))]) dX4_costOf_26 (by decide) rfl rfl ?_
    refine zA_iload dX4_costOf_28 rfl ?_
    refine zA_aload_n dX4_costOf_30 rfl ?_
    refine zA_getR (n := 64) dX4_costOf_31 fX4_15 c62 rfl ?_
    refine zA_aload_n dX4_costOf_34 rfl ?_
    refine zA_getR (n := 66) dX4_costOf_35 fX4_25 c62 rfl ?_
    refine zA_iload dX4_costOf_38 rfl ?_
    refine zA_iaload dX4_costOf_40 c66 (by first | assumption | omega) (by first | assumption | omega) (by decide) ?_
    refine zA_iaload dX4_costOf_41 c64 (by first | assumption | omega) (by first | assumption | omega) (by decide) ?_
    refine zA_iadd dX4_costOf_42 ?_
    refine zA_aload_n dX4_costOf_43 rfl ?_
    refine zA_getR (n := 68) dX4_costOf_44 fX4_34 c62 rfl ?_
    refine zA_iload_n dX4_costOf_47 rfl ?_
    refine zA_iaload dX4_costOf_48 c68 (by first | assumption | omega) (by first | assumption | omega) (by decide) ?_
    refine zA_imul dX4_costOf_49 ?_
    refine zA_aload_n dX4_costOf_50 rfl ?_
    refine zA_getR (n := 67) dX4_costOf_51 fX4_31 c62 rfl ?_
    refine zA_iload_n dX4_costOf_54 rfl ?_
    refine zA_iconst dX4_costOf_55 ?_
    refine zA_iload dX4_costOf_56 rfl ?_
    refine zA_ishl dX4_costOf_58 ?_
    refine zA_ior dX4_costOf_59 ?_
    refine zA_bipush dX4_costOf_60 rfl ?_
    refine zA_imul dX4_costOf_62 ?_
    refine zA_iload dX4_costOf_63 rfl ?_
    refine zA_iadd dX4_costOf_65 ?_
    refine zA_iaload dX4_costOf_66 c67 (by first | assumption | omega) (by first | assumption | omega) (by decide) ?_
    refine zA_iadd dX4_costOf_67 ?_
    refine zA_iret dX4_costOf_68 rfl ?_
    exact zRt_i (by rw [if_neg c2])
  · skip
    refine zA_iconst dX4_costOf_5 ?_
    refine zA_goto (tgt := 26) dX4_costOf_6 (by decide) ?_
    refine zA_istore (lo1 := [zR 62, zR y, zI D, zI la, zI i, zI 0]) dX4_costOf_26 (by decide) rfl rfl ?_
    refine zA_iload dX4_costOf_28 rfl ?_
    refine zA_aload_n dX4_costOf_30 rfl ?_
    refine zA_getR (n := 64) dX4_costOf_31 fX4_15 c62 rfl ?_
    refine zA_aload_n dX4_costOf_34 rfl ?_
    refine zA_getR (n := 66) dX4_costOf_35 fX4_25 c62 rfl ?_
    refine zA_iload dX4_costOf_38 rfl ?_
    refine zA_iaload dX4_costOf_40 c66 (by first | assumption | omega) (by first | assumption | omega) (by decide) ?_
    refine zA_iaload dX4_costOf_41 c64 (by first | assumption | omega) (by first | assumption | omega) (by decide) ?_
    refine zA_iadd dX4_costOf_42 ?_
    refine zA_aload_n dX4_costOf_43 rfl ?_
    refine zA_getR (n := 68) dX4_costOf_44 fX4_34 c62 rfl ?_
    refine zA_iload_n dX4_costOf_47 rfl ?_
    refine zA_iaload dX4_costOf_48 c68 (by first | assumption | omega) (by first | assumption | omega) (by decide) ?_
    refine zA_imul dX4_costOf_49 ?_
    refine zA_aload_n dX4_costOf_50 rfl ?_
    refine zA_getR (n := 67) dX4_costOf_51 fX4_31 c62 rfl ?_
    refine zA_iload_n dX4_costOf_54 rfl ?_
    refine zA_iconst dX4_costOf_55 ?_
    refine zA_iload dX4_costOf_56 rfl ?_
    refine zA_ishl dX4_costOf_58 ?_
    refine zA_ior dX4_costOf_59 ?_
    refine zA_bipush dX4_costOf_60 rfl ?_
    refine zA_imul dX4_costOf_62 ?_
    refine zA_iload dX4_costOf_63 rfl ?_
    refine zA_iadd dX4_costOf_65 ?_
    refine zA_iaload dX4_costOf_66 c67 (by first | assumption | omega) (by first | assumption | omega) (by decide) ?_
    refine zA_iadd dX4_costOf_67 ?_
    refine zA_iret dX4_costOf_68 rfl ?_
    exact zRt_i (by rw [if_pos c2])

set_option maxRecDepth 100000 in
set_option maxHeartbeats 4000000 in
theorem s_leastCost {l : Launch} {t dr tx : Nat} {w : zW} {y : Nat} (hy : y = 4 ∨ y = 10) {S D la m : Int} {n : Nat} (hG : oG w y S m) (hG2 : oG2 w y S m D) (ho : w 68 D = oR (w 63) (rem S D)) (d0 : 0 ≤ D) (d1 : D < ((2 ^ m.toNat : Nat) : Int)) (la0 : -1 ≤ la) (la1 : la < m) (hn : popN (rem S D) = (n + 1 : Nat)) : zSp l mX4_leastCost false 3 0 0 [zR 62, zR y, zI D, zI la] (ZZ t dr tx) w (zRt (some (zI (oC (w 63) (w 64) (yTrav w y) (n + 1) (rem S D) (oLa w la)))) (ZZ t dr tx) w) zNo := by
  refine zA_intro ⟨plainFor_of_name (by decide +kernel), Or.inl (by decide +kernel)⟩ rfl (Nat.le_of_ble_eq_true rfl) ?_
  obtain ⟨hA, h5, hok, m0, m9⟩ := id hG
  have hM := M_b m0 m9
  have hLa : oLa w la = -1 ∨ (0 ≤ oLa w la ∧ oLa w la < 12) := by
    unfold oLa
    split
    · exact Or.inl rfl
    · exact Or.inr (hA.2.1 la (by omega) la1).1
  have hpp : popN (tb S) = m := hA.1.symm
  have hn9 : n < 12 := by
    have h1 : popN (rem S D) ≤ 12 * 1 := (zsum_b (f := fun c : Nat => if rem S D c = true then 1 else 0) (B := 1) 12 (fun k _ => by split <;> omega)).2
    omega
  refine zA_range (fun hr => ?_)
  show zA l mX4_leastCost false 3 0 0 (zRt (some (zI (oC (w 63) (w 64) (yTrav w y) (n + 1) (rem S D) (oLa w la)))) (ZZ t dr tx) w) zNo 0 [zR 62, zR y, zI D, zI la, .null, .null] [] (ZZ t dr tx) w
  refine zA_ldc dX4_leastCost_0 qX4_68 ?_
  refine zA_istore (lo1 := [zR 62, zR y, zI D, zI la, zI 1000000000, .null]) dX4_leastCost_2 (by decide) rfl rfl ?_
  refine zA_iconst dX4_leastCost_4 ?_
  refine zA_istore (lo1 := [zR 62, zR y, zI D, zI la, zI 1000000000, zI 0]) dX4_leastCost_5 (by decide) rfl rfl ?_
  have L7 : ∀ (z7 : Nat) (s i : Int) (i0 : 0 ≤ i) (i1 : i ≤ m) (hs : s = mnF (fun j => !tb D j) (fun j => oF (w 63) (w 64) (yTrav w y) n (rem S D) (oLa w la) (w 66 j)) i.toNat) (hsr : inR s) (zm : (m - i).toNat < z7), zA l mX4_leastCost false 3 0 0 (zRt (some (zI (oC (w 63) (w 64) (yTrav w y) (n + 1) (rem S D) (oLa w la)))) (ZZ t dr tx) w) zNo 7 [zR 62, zR y, zI D, zI la, zI s, zI i] [] (ZZ t dr tx) w := by
    intro z7
    induction z7 with
    | zero => intro s i i0 i1 hs hsr zm; exact absurd zm (Nat.not_lt_zero _)
    | succ z7 ih7 =>
      intro s i i0 i1 hs hsr zm
      refine zA_iload dX4_leastCost_7 rfl ?_
      refine zA_aload_n dX4_leastCost_9 rfl ?_
      refine zA_getI dX4_leastCost_10 fX4_28 c62 rfl ?_
      refine zA_valI (w 62 5) rfl ?_
      refine zA_icmp_ge (tgt := 47) dX4_leastCost_13 (by decide) (by first | assumption | exact hr _ _ | exact inR_mk (by omega) (by omega)) (by first | assumption | exact hr _ _ | exact inR_mk (by omega) (by omega)) (fun c13 => ?_) (fun c13 => ?_)
      · skip
        refine zA_iload dX4_leastCost_47 rfl ?_
        refine zA_iret dX4_leastCost_49 rfl ?_
        exact zRt_i (by rw [oC_s, br_M hA, hs, show i = m by omega])
      · skip
        refine zA_iload_n dX4_leastCost_16 rfl ?_
        refine zA_iload dX4_leastCost_17 rfl ?_
        refine zA_ishr dX4_leastCost_19 ?_
        refine zA_iconst dX4_leastCost_20 ?_
        refine zA_iand dX4_leastCost_21 ?_
        refine zA_valI (if tb D i = true then 1 else 0) (tb_get d0 (by omega) i0 (by omega)) ?_
        refine zA_if_ne (tgt := 41) dX4_leastCost_22 (by decide) (inR_ite _) (fun c22 => ?_) (fun c22 => ?_)
        · skip
          replace c22 := zite_ne c22
          refine zA_iinc (lo1 := [zR 62, zR y, zI D, zI la, zI s, zI (i + 1)]) dX4_leastCost_41 rfl (by decide) rfl rfl ?_
          refine zA_goto (tgt := 7) dX4_leastCost_44 (by decide) ?_
          exact ih7 _ (i + 1) (by omega) (by omega) (by rw [zsucc i0]; simp only [mnF]; rw [zcast i0, if_neg (by rw [c22]; decide), hs]) hsr (by omega)
        · skip
          replace c22 := zite_eq c22
          have hai := hA.2.1 i i0 (by omega)
          have hcc := oG_cost (la := oLa w la) hG hG2 ho d0 d1 i0 (by omega) (by simpa using c22) hn (if la = -1 then 0 else yTrav w y (w 66 la) (w 66 i)) (oWay_la (fun hq => by have := (hA.2.1 la (by omega) la1).1; omega))
          have hfb := oF_b (p := rem S D) (n := n) hok hn9 (by omega) hLa hai.1.1 hai.1.2 (by rw [rem_at hA i0 (by omega)]; simpa using c22)
          refine zA_iload dX4_leastCost_25 rfl ?_
          refine zA_aload_n dX4_leastCost_27 rfl ?_
          refine zA_aload_n dX4_leastCost_28 rfl ?_
          refine zA_iload_n dX4_leastCost_29 rfl ?_
          refine zA_iload_n dX4_leastCost_30 rfl ?_
          refine zA_iload dX4_leastCost_31 rfl ?_
          refine zA_cV (st := [zI s]) dX4_leastCost_33 vX4_costOf kX4_69 (s_costOf (w := w) hy (D := D) (la := la) (i := i) hG d0 d1 la0 la1 i0 (by omega)) (by decide) c62 rfl rfl (Nat.le_of_ble_eq_true rfl) rfl (zRt_el ?_)
          show zA l mX4_leastCost false 3 0 0 (zRt (some (zI (oC (w 63) (w 64) (yTrav w y) (n + 1) (rem S D) (oLa w la)))) (ZZ t dr tx) w) zNo 36 [zR 62, zR y, zI D, zI la, zI s, zI i] [zI (((if la = -1 then 0 else yTrav w y (w 66 la) (w 66 i)) + w 64 (w 66 i)) * w 68 D + w 67 (iOr D (iShl 1 i) * 9 + i)), zI s] (ZZ t dr tx) w
          refine zA_valI (oF (w 63) (w 64) (yTrav w y) n (rem S D) (oLa w la) (w 66 i)) (hcc) ?_
          refine zA_mmin dX4_leastCost_36 kmX4_73 zw_min (by first | assumption | exact hr _ _ | exact inR_mk (by omega) (by omega)) (by first | assumption | exact hr _ _ | exact inR_mk (by omega) (by omega)) (Nat.le_of_ble_eq_true rfl) ?_
          refine zA_istore (lo1 := [zR 62, zR y, zI D, zI la, zI (min s (oF (w 63) (w 64) (yTrav w y) n (rem S D) (oLa w la) (w 66 i))), zI i]) dX4_leastCost_39 (by decide) rfl rfl ?_
          refine zA_iinc (lo1 := [zR 62, zR y, zI D, zI la, zI (min s (oF (w 63) (w 64) (yTrav w y) n (rem S D) (oLa w la) (w 66 i))), zI (i + 1)]) dX4_leastCost_41 rfl (by decide) rfl rfl ?_
          refine zA_goto (tgt := 7) dX4_leastCost_44 (by decide) ?_
          exact ih7 _ (i + 1) (by omega) (by omega) (by rw [zsucc i0]; simp only [mnF]; rw [zcast i0, if_pos (by simpa using c22), hs]) (by have := hsr.1; have := hsr.2; exact inR_mk (by omega) (by omega)) (by omega)
  exact L7 _ 1000000000 0 (by omega) (by omega) rfl ⟨by decide, by decide⟩ (Nat.lt_succ_self _)

set_option maxRecDepth 100000 in
set_option maxHeartbeats 4000000 in
theorem s_leastNext {l : Launch} {t dr tx : Nat} {w : zW} {y : Nat} (hy : y = 4 ∨ y = 10) {S D la m : Int} {n : Nat} (hG : oG w y S m) (hG2 : oG2 w y S m D) (ho : w 68 D = oR (w 63) (rem S D)) (d0 : 0 ≤ D) (d1 : D < ((2 ^ m.toNat : Nat) : Int)) (la0 : -1 ≤ la) (la1 : la < m) (hn : popN (rem S D) = (n + 1 : Nat)) : zSp l mX4_leastNext false 4 0 0 [zR 62, zR y, zI D, zI la] (ZZ t dr tx) w (zRp1 (fun r => (0 ≤ r ∧ r < m) ∧ w 66 r = oNx (w 63) (w 64) (yTrav w y) n (rem S D) (oLa w la) ∧ tb D r = false) (ZZ t dr tx) w) zNo := by
  refine zA_intro ⟨plainFor_of_name (by decide +kernel), Or.inl (by decide +kernel)⟩ rfl (Nat.le_of_ble_eq_true rfl) ?_
  obtain ⟨hA, h5, hok, m0, m9⟩ := id hG
  have hM := M_b m0 m9
  have hLa : oLa w la = -1 ∨ (0 ≤ oLa w la ∧ oLa w la < 12) := by
    unfold oLa
    split
    · exact Or.inl rfl
    · exact Or.inr (hA.2.1 la (by omega) la1).1
  have hpp : popN (tb S) = m := hA.1.symm
  have hn9 : n < 12 := by
    have h1 : popN (rem S D) ≤ 12 * 1 := (zsum_b (f := fun c : Nat => if rem S D c = true then 1 else 0) (B := 1) 12 (fun k _ => by split <;> omega)).2
    omega
  have hCb := oC_b hok (n + 1) (rem S D) (oLa w la) (by omega) hn hLa
  have hCr : inR (oC (w 63) (w 64) (yTrav w y) (n + 1) (rem S D) (oLa w la)) := inR_mk (by omega) (by omega)
  refine zA_range (fun hr => ?_)
  show zA l mX4_leastNext false 4 0 0 (zRp1 (fun r => (0 ≤ r ∧ r < m) ∧ w 66 r = oNx (w 63) (w 64) (yTrav w y) n (rem S D) (oLa w la) ∧ tb D r = false) (ZZ t dr tx) w) zNo 0 [zR 62, zR y, zI D, zI la, .null, .null] [] (ZZ t dr tx) w
  refine zA_aload_n dX4_leastNext_0 rfl ?_
  refine zA_aload_n dX4_leastNext_1 rfl ?_
  refine zA_iload_n dX4_leastNext_2 rfl ?_
  refine zA_iload_n dX4_leastNext_3 rfl ?_
  refine zA_cV (st := []) dX4_leastNext_4 vX4_leastCost kX4_54 (s_leastCost (w := w) hy (D := D) (la := la) (n := n) hG hG2 ho d0 d1 la0 la1 hn) (by decide) c62 rfl rfl (Nat.le_of_ble_eq_true rfl) rfl (zRt_el ?_)
  show zA l mX4_leastNext false 4 0 0 (zRp1 (fun r => (0 ≤ r ∧ r < m) ∧ w 66 r = oNx (w 63) (w 64) (yTrav w y) n (rem S D) (oLa w la) ∧ tb D r = false) (ZZ t dr tx) w) zNo 7 [zR 62, zR y, zI D, zI la, .null, .null] [zI (oC (w 63) (w 64) (yTrav w y) (n + 1) (rem S D) (oLa w la))] (ZZ t dr tx) w
  refine zA_istore (lo1 := [zR 62, zR y, zI D, zI la, zI (oC (w 63) (w 64) (yTrav w y) (n + 1) (rem S D) (oLa w la)), .null]) dX4_leastNext_7 (by decide) rfl rfl ?_
  refine zA_iconst dX4_leastNext_9 ?_
  refine zA_istore (lo1 := [zR 62, zR y, zI D, zI la, zI (oC (w 63) (w 64) (yTrav w y) (n + 1) (rem S D) (oLa w la)), zI 0]) dX4_leastNext_10 (by decide) rfl rfl ?_
  have L12 : ∀ (z12 : Nat) (i : Int) (i0 : 0 ≤ i) (i1 : i ≤ m) (hj : ∀ j : Int, 0 ≤ j → j < i → tb D j = false → oF (w 63) (w 64) (yTrav w y) n (rem S D) (oLa w la) (w 66 j) ≠ oC (w 63) (w 64) (yTrav w y) (n + 1) (rem S D) (oLa w la)) (zm : (m - i).toNat < z12), zA l mX4_leastNext false 4 0 0 (zRp1 (fun r => (0 ≤ r ∧ r < m) ∧ w 66 r = oNx (w 63) (w 64) (yTrav w y) n (rem S D) (oLa w la) ∧ tb D r = false) (ZZ t dr tx) w) zNo 12 [zR 62, zR y, zI D, zI la, zI (oC (w 63) (w 64) (yTrav w y) (n + 1) (rem S D) (oLa w la)), zI i] [] (ZZ t dr tx) w := by
    intro z12
    induction z12 with
    | zero => intro i i0 i1 hj zm; exact absurd zm (Nat.not_lt_zero _)
    | succ z12 ih12 =>
      intro i i0 i1 hj zm
      refine zA_iload dX4_leastNext_12 rfl ?_
      refine zA_aload_n dX4_leastNext_14 rfl ?_
      refine zA_getI dX4_leastNext_15 fX4_28 c62 rfl ?_
      refine zA_valI (w 62 5) rfl ?_
      refine zA_icmp_ge (tgt := 53) dX4_leastNext_18 (by decide) (by first | assumption | exact hr _ _ | exact inR_mk (by omega) (by omega)) (by first | assumption | exact hr _ _ | exact inR_mk (by omega) (by omega)) (fun c18 => ?_) (fun c18 => ?_)
      · skip
        refine zA_iconst dX4_leastNext_53 ?_
        refine zA_iret dX4_leastNext_54 rfl ?_
        exfalso
        obtain ⟨g1, g2, g3⟩ := oNx_e (p := rem S D) (n := n) hok hn9 (by omega) hLa
        obtain ⟨ht, htd⟩ := rem_d g2
        have hx := hA.2.2 _ g1.1 g1.2 ht
        have := hj _ hx.1.1 (by omega) htd
        rw [hx.2] at this
        exact this g3
      · skip
        refine zA_iload_n dX4_leastNext_21 rfl ?_
        refine zA_iload dX4_leastNext_22 rfl ?_
        refine zA_ishr dX4_leastNext_24 ?_
        refine zA_iconst dX4_leastNext_25 ?_
        refine zA_iand dX4_leastNext_26 ?_
        refine zA_valI (if tb D i = true then 1 else 0) (tb_get d0 (by omega) i0 (by omega)) ?_
        refine zA_if_ne (tgt := 47) dX4_leastNext_27 (by decide) (inR_ite _) (fun c27 => ?_) (fun c27 => ?_)
        · skip
          replace c27 := zite_ne c27
          refine zA_iinc (lo1 := [zR 62, zR y, zI D, zI la, zI (oC (w 63) (w 64) (yTrav w y) (n + 1) (rem S D) (oLa w la)), zI (i + 1)]) dX4_leastNext_47 rfl (by decide) rfl rfl ?_
          refine zA_goto (tgt := 12) dX4_leastNext_50 (by decide) ?_
          exact ih12 (i + 1) (by omega) (by omega) (fun j a b ht => by
                      by_cases e : j = i
                      · rw [e] at ht ⊢
                        first
                        | exact c41
                        | (rw [ht] at c27; cases c27)
                      · exact hj j a (by omega) ht) (by omega)
        · skip
          replace c27 := zite_eq c27
          have hai := hA.2.1 i i0 (by omega)
          have hcc := oG_cost (la := oLa w la) hG hG2 ho d0 d1 i0 (by omega) (by simpa using c27) hn (if la = -1 then 0 else yTrav w y (w 66 la) (w 66 i)) (oWay_la (fun hq => by have := (hA.2.1 la (by omega) la1).1; omega))
          have hfb := oF_b (p := rem S D) (n := n) hok hn9 (by omega) hLa hai.1.1 hai.1.2 (by rw [rem_at hA i0 (by omega)]; simpa using c27)
          refine zA_aload_n dX4_leastNext_30 rfl ?_
          refine zA_aload_n dX4_leastNext_31 rfl ?_
          refine zA_iload_n dX4_leastNext_32 rfl ?_
          refine zA_iload_n dX4_leastNext_33 rfl ?_
          refine zA_iload dX4_leastNext_34 rfl ?_
          refine zA_cV (st := []) dX4_leastNext_36 vX4_costOf kX4_69 (s_costOf (w := w) hy (D := D) (la := la) (i := i) hG d0 d1 la0 la1 i0 (by omega)) (by decide) c62 rfl rfl (Nat.le_of_ble_eq_true rfl) rfl (zRt_el ?_)
          show zA l mX4_leastNext false 4 0 0 (zRp1 (fun r => (0 ≤ r ∧ r < m) ∧ w 66 r = oNx (w 63) (w 64) (yTrav w y) n (rem S D) (oLa w la) ∧ tb D r = false) (ZZ t dr tx) w) zNo 39 [zR 62, zR y, zI D, zI la, zI (oC (w 63) (w 64) (yTrav w y) (n + 1) (rem S D) (oLa w la)), zI i] [zI (((if la = -1 then 0 else yTrav w y (w 66 la) (w 66 i)) + w 64 (w 66 i)) * w 68 D + w 67 (iOr D (iShl 1 i) * 9 + i))] (ZZ t dr tx) w
          refine zA_valI (oF (w 63) (w 64) (yTrav w y) n (rem S D) (oLa w la) (w 66 i)) (hcc) ?_
          refine zA_iload dX4_leastNext_39 rfl ?_
          refine zA_icmp_ne (tgt := 47) dX4_leastNext_41 (by decide) (by first | assumption | exact hr _ _ | exact inR_mk (by omega) (by omega)) (by first | assumption | exact hr _ _ | exact inR_mk (by omega) (by omega)) (fun c41 => ?_) (fun c41 => ?_)
          · skip
            refine zA_iinc (lo1 := [zR 62, zR y, zI D, zI la, zI (oC (w 63) (w 64) (yTrav w y) (n + 1) (rem S D) (oLa w la)), zI (i + 1)]) dX4_leastNext_47 rfl (by decide) rfl rfl ?_
            refine zA_goto (tgt := 12) dX4_leastNext_50 (by decide) ?_
            exact ih12 (i + 1) (by omega) (by omega) (fun j a b ht => by
                        by_cases e : j = i
                        · rw [e] at ht ⊢
                          first
                          | exact c41
                          | (rw [ht] at c27; cases c27)
                        · exact hj j a (by omega) ht) (by omega)
          · skip
            refine zA_iload dX4_leastNext_44 rfl ?_
            refine zA_iret dX4_leastNext_46 rfl ?_
            refine ⟨⟨i, rfl, ⟨i0, by omega⟩, ?_, by simpa using c27⟩, rfl, rfl⟩
            refine (fsq_u hai.1.1 hai.1.2 ?_ (fun c a b => ?_)).symm
            · simp only [Bool.and_eq_true, decide_eq_true_iff]
              exact ⟨by rw [rem_at hA i0 (by omega)]; simpa using c27, c41⟩
            · cases hre : rem S D c with
              | false => rfl
              | true =>
                have ht : tb S c = true := by unfold rem at hre; rw [Bool.and_eq_true] at hre; exact hre.1
                have hx := hA.2.2 c a (by omega) ht
                have hlt := ixN_lt (S := S) a b ht
                rw [hai.2.2] at hlt
                have htd : tb D (ixN S c) = false := by unfold rem at hre; rw [ht] at hre; simpa using hre
                have := hj (ixN S c) hx.1.1 hlt htd
                rw [hx.2] at this
                simp only [Bool.true_and, decide_eq_false_iff_not]
                exact this
  exact L12 _ 0 (by omega) (by omega) (fun j a b => by omega) (Nat.lt_succ_self _)

