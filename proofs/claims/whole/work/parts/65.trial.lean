/-! trials: the list of the cases that fit. fit: which fit; a: the list, m long, of numbers below N -/
def ixF (fit : Int → Bool) (c : Int) : Int := zsum c.toNat (fun j => if fit j = true then 1 else 0)
theorem ixF_s {fit : Int → Bool} {c : Int} (h : 0 ≤ c) : ixF fit (c + 1) = ixF fit c + (if fit c = true then 1 else 0) := by
  unfold ixF
  rw [zsucc h]
  simp only [zsum]
  rw [zcast h]
theorem ixF_b {fit : Int → Bool} {c : Int} : 0 ≤ ixF fit c ∧ ixF fit c ≤ c.toNat := by
  have h := zsum_b (f := fun j : Nat => if fit j = true then 1 else 0) (B := 1) c.toNat (fun k _ => by split <;> omega)
  unfold ixF
  omega
theorem ixF_gap {fit : Int → Bool} {c : Int} (h : 0 ≤ c) : ∀ k : Nat, (∀ x : Int, c ≤ x → x < c + k → fit x = false) → ixF fit (c + k) = ixF fit c := by
  intro k
  induction k with
  | zero => intro _; simp
  | succ k ih =>
    intro hx
    rw [show c + ((k + 1 : Nat) : Int) = c + k + 1 by omega, ixF_s (by omega), hx _ (by omega) (by omega), ih (fun x a b => hx x a (by omega))]
    simp
theorem ixF_c {fit fit' : Int → Bool} {c : Int} (h : ∀ x : Int, 0 ≤ x → x < c → fit x = fit' x) : ixF fit c = ixF fit' c := zsum_c _ (fun k hk => by rw [h k (by omega) (by omega)])
theorem ixF_le {fit : Int → Bool} {c c' : Int} (h : 0 ≤ c) (hc : c ≤ c') : ixF fit c ≤ ixF fit c' := by
  have key : ∀ k : Nat, ixF fit c ≤ ixF fit (c + k) := by
    intro k
    induction k with
    | zero => simp
    | succ k ih =>
      have := ixF_s (fit := fit) (c := c + k) (by omega)
      rw [show c + ((k + 1 : Nat) : Int) = c + k + 1 by omega, this]
      split <;> omega
  have := key (c' - c).toNat
  rwa [show c + ((c' - c).toNat : Int) = c' by omega] at this
theorem ixF_lt {fit : Int → Bool} {c c' : Int} (h : 0 ≤ c) (hc : c < c') (ht : fit c = true) : ixF fit c < ixF fit c' := by
  have h1 := ixF_s (fit := fit) h
  rw [if_pos ht] at h1
  have := ixF_le (fit := fit) (c := c + 1) (c' := c') (by omega) (by omega)
  omega
def lOk (fit : Int → Bool) (a : Int → Int) (m N : Int) : Prop := m = ixF fit N ∧ (∀ i : Int, 0 ≤ i → i < m → (0 ≤ a i ∧ a i < N) ∧ fit (a i) = true ∧ ixF fit (a i) = i) ∧ ∀ c : Int, 0 ≤ c → c < N → fit c = true → ixF fit c < m ∧ a (ixF fit c) = c
theorem lOk_c {fit fit' : Int → Bool} {a : Int → Int} {m N : Int} (h : ∀ x : Int, 0 ≤ x → x < N → fit x = fit' x) (hN : 0 ≤ N) (k : lOk fit a m N) : lOk fit' a m N := by
  obtain ⟨k1, k2, k3⟩ := k
  have e : ∀ c : Int, c ≤ N → ixF fit c = ixF fit' c := fun c hc => ixF_c (fun x a b => h x a (by omega))
  refine ⟨by rw [← e N (by omega)]; exact k1, fun i i0 i1 => ?_, fun c c0 c1 hc => ?_⟩
  · have := k2 i i0 i1
    exact ⟨this.1, by rw [← h _ this.1.1 this.1.2]; exact this.2.1, by rw [← e _ (by omega)]; exact this.2.2⟩
  · rw [← h c c0 c1] at hc
    have := k3 c c0 c1 hc
    rw [← e c (by omega)]
    exact this
/-- where the list stands in a new one: from entry i on nothing below it is left -/
def lUp (a : Int → Int) (m N i : Int) : Int := if i < m then a i else N
theorem lUp_gap {fit : Int → Bool} {a : Int → Int} {m N i : Int} (k : lOk fit a m N) (i0 : 0 ≤ i) (i1 : i < m) : a i < lUp a m N (i + 1) ∧ ∀ x : Int, a i < x → x < lUp a m N (i + 1) → fit x = false := by
  obtain ⟨k1, k2, k3⟩ := k
  have h1 := k2 i i0 i1
  unfold lUp
  by_cases g : i + 1 < m
  · rw [if_pos g]
    have h2 := k2 (i + 1) (by omega) g
    refine ⟨?_, fun x x0 x1 => ?_⟩
    · refine Classical.byContradiction (fun hn => ?_)
      have := ixF_le (fit := fit) h2.1.1 (show a (i + 1) ≤ a i by omega)
      omega
    · cases hx : fit x with
      | false => rfl
      | true =>
        have e1 := ixF_lt (fit := fit) h1.1.1 x0 h1.2.1
        have e2 := ixF_lt (fit := fit) (show 0 ≤ x by omega) x1 hx
        omega
  · rw [if_neg g]
    refine ⟨h1.1.2, fun x x0 x1 => ?_⟩
    cases hx : fit x with
    | false => rfl
    | true =>
      have e1 := ixF_lt (fit := fit) h1.1.1 x0 h1.2.1
      have e2 := (k3 x (by omega) x1 hx).1
      omega
/-- one step of keeping what fits -/
theorem lUp_step {fit g : Int → Bool} {a : Int → Int} {m N i : Int} (k : lOk fit a m N) (i0 : 0 ≤ i) (i1 : i < m) : ixF (fun x => fit x && g x) (lUp a m N (i + 1)) = ixF (fun x => fit x && g x) (a i) + (if g (a i) = true then 1 else 0) := by
  obtain ⟨h1, h2⟩ := lUp_gap k i0 i1
  obtain ⟨k1, k2, k3⟩ := k
  have h3 := k2 i i0 i1
  have e := ixF_gap (fit := fun x => fit x && g x) (c := a i + 1) (by omega) (lUp a m N (i + 1) - (a i + 1)).toNat (fun x x0 x1 => by
    show (fit x && g x) = false
    rw [h2 x (by omega) (by omega)]; rfl)
  rw [show a i + 1 + ((lUp a m N (i + 1) - (a i + 1)).toNat : Int) = lUp a m N (i + 1) by omega] at e
  rw [e, ixF_s h3.1.1]
  show _ + (if (fit (a i) && g (a i)) = true then 1 else 0) = _
  rw [h3.2.1, Bool.true_and]
def tX (c i j : Int) : Int := iAnd (iShr c i) (iShl 1 (j - i) - 1)
/-- what a question is answered in a case: kd 2 a wall -/
def tAn (kd g b c i j : Int) : Int := if kd = 2 then (if iAnd c (iShr (iShl 7 i) 1) ≠ 0 then 1 else 0) else popc (tX c i j) * b + (j - i - popc (tX c i j)) * g
def tOk (kd n i j : Int) : Prop := (kd = 2 ∧ 0 ≤ i ∧ i < n) ∨ (kd ≠ 2 ∧ 0 ≤ i ∧ i < j ∧ j ≤ n)
theorem tX_b {c i j : Int} (c0 : 0 ≤ c) (c1 : c < 16384) (i0 : 0 ≤ i) (ij : i < j) (jn : j ≤ 14) : 0 ≤ tX c i j ∧ tX c i j < 16384 := by
  have h2 : (2 : Nat) ^ (j - i).toNat ≤ 2 ^ 14 := Nat.pow_le_pow_right (by decide) (by omega)
  have h3 : 0 < (2 : Nat) ^ (j - i).toNat := Nat.pow_pos (by decide)
  have hd : c.toNat / 2 ^ i.toNat ≤ c.toNat := Nat.div_le_self _ _
  unfold tX
  rw [iShr_d c0 (by omega) i0 (by omega), iShl_1 (by omega) (by omega)]
  rw [show (((2 ^ (j - i).toNat : Nat) : Int) - 1) = ((2 ^ (j - i).toNat - 1 : Nat) : Int) by omega]
  generalize hz : c.toNat / 2 ^ i.toNat = z at hd
  generalize hy : 2 ^ (j - i).toNat - 1 = y
  have hy2 : y < 16384 := by omega
  rw [iAnd_nn (by omega) (by omega) (by omega) (by omega), Int.toNat_natCast, Int.toNat_natCast]
  have : z &&& y ≤ z := Nat.and_le_left
  omega
set_option maxRecDepth 100000 in
set_option maxHeartbeats 4000000 in
theorem s_besides {l : Launch} {w : zW} {S : zS} {i : Int} (hi : inR i) : zSp l mX9_besides false 1 0 0 [zI i] S w (zRt (some (zI (iShr (iShl 7 i) 1))) S w) zNo := by
  refine zA_intro ⟨plainFor_of_name (by decide +kernel), Or.inl (by decide +kernel)⟩ rfl (Nat.le_of_ble_eq_true rfl) ?_
  refine zA_range (fun hr => ?_)
  show zA l mX9_besides false 1 0 0 (zRt (some (zI (iShr (iShl 7 i) 1))) S w) zNo 0 [zI i] [] S w
  refine zA_bipush dX9_besides_0 rfl ?_
  refine zA_iload_n dX9_besides_2 rfl ?_
  refine zA_ishl dX9_besides_3 ?_
  refine zA_iconst dX9_besides_4 ?_
  refine zA_ishr dX9_besides_5 ?_
  refine zA_iret dX9_besides_6 rfl ?_
  exact zRt_i rfl

set_option maxRecDepth 100000 in
set_option maxHeartbeats 4000000 in
theorem s_answerOf {l : Launch} {t dr tx : Nat} {w : zW} (p0 : 2 ≤ w 34 4) (p1 : w 34 4 ≤ 14) (g0 : 0 ≤ w 34 5) (g1 : w 34 5 ≤ 99) (b0 : 0 ≤ w 34 6) (b1 : w 34 6 ≤ 99) {c i j : Int} (c0 : 0 ≤ c) (c1 : c < 16384) (hq : tOk (w 34 8) (w 34 4) i j) (hj : inR j) : zSp l mX9_answerOf false 2 0 0 [zR 34, zI c, zI i, zI j] (ZZ t dr tx) w (zRt (some (zI (tAn (w 34 8) (w 34 5) (w 34 6) c i j))) (ZZ t dr tx) w) zNo := by
  refine zA_intro ⟨plainFor_of_name (by decide +kernel), Or.inl (by decide +kernel)⟩ rfl (Nat.le_of_ble_eq_true rfl) ?_
  refine zA_range (fun hr => ?_)
  show zA l mX9_answerOf false 2 0 0 (zRt (some (zI (tAn (w 34 8) (w 34 5) (w 34 6) c i j))) (ZZ t dr tx) w) zNo 0 [zR 34, zI c, zI i, zI j, .null] [] (ZZ t dr tx) w
  refine zA_aload_n dX9_answerOf_0 rfl ?_
  refine zA_getI dX9_answerOf_1 fX9_38 c34 rfl ?_
  refine zA_valI (w 34 8) rfl ?_
  refine zA_iconst dX9_answerOf_4 ?_
  refine zA_icmp_ne (tgt := 23) dX9_answerOf_5 (by decide) (by first | assumption | exact hr _ _ | exact inR_mk (by omega) (by omega)) ⟨by decide, by decide⟩ (fun c5 => ?_) (fun c5 => ?_)
  · skip
    refine zA_iload_n dX9_answerOf_23 rfl ?_
    refine zA_iload_n dX9_answerOf_24 rfl ?_
    refine zA_ishr dX9_answerOf_25 ?_
    refine zA_iconst dX9_answerOf_26 ?_
    refine zA_iload_n dX9_answerOf_27 rfl ?_
    refine zA_iload_n dX9_answerOf_28 rfl ?_
    refine zA_isub dX9_answerOf_29 ?_
    refine zA_ishl dX9_answerOf_30 ?_
    refine zA_iconst dX9_answerOf_31 ?_
    refine zA_isub dX9_answerOf_32 ?_
    refine zA_iand dX9_answerOf_33 ?_
    refine zA_cS (st := []) dX9_answerOf_34 sJ6_bitCount_0f7a4 kX9_61 (s_bitCount (w := w) (S := (ZZ t dr tx)) (a := tX c i j) (tX_b c0 c1 (by rcases hq with h | h <;> omega) (by rcases hq with h | h <;> omega) (by rcases hq with h | h <;> omega)).1 (tX_b c0 c1 (by rcases hq with h | h <;> omega) (by rcases hq with h | h <;> omega) (by rcases hq with h | h <;> omega)).2) (by decide) rfl rfl (Nat.le_of_ble_eq_true rfl) (zRt_el ?_)
    show zA l mX9_answerOf false 2 0 0 (zRt (some (zI (tAn (w 34 8) (w 34 5) (w 34 6) c i j))) (ZZ t dr tx) w) zNo 37 [zR 34, zI c, zI i, zI j, .null] [zI (popc (tX c i j))] (ZZ t dr tx) w
    refine zA_istore (lo1 := [zR 34, zI c, zI i, zI j, zI (popc (tX c i j))]) dX9_answerOf_37 (by decide) rfl rfl ?_
    refine zA_iload dX9_answerOf_39 rfl ?_
    refine zA_aload_n dX9_answerOf_41 rfl ?_
    refine zA_getI dX9_answerOf_42 fX9_31 c34 rfl ?_
    refine zA_valI (w 34 6) rfl ?_
    refine zA_imul dX9_answerOf_45 ?_
    refine zA_iload_n dX9_answerOf_46 rfl ?_
    refine zA_iload_n dX9_answerOf_47 rfl ?_
    refine zA_isub dX9_answerOf_48 ?_
    refine zA_iload dX9_answerOf_49 rfl ?_
    refine zA_isub dX9_answerOf_51 ?_
    refine zA_aload_n dX9_answerOf_52 rfl ?_
    refine zA_getI dX9_answerOf_53 fX9_28 c34 rfl ?_
    refine zA_valI (w 34 5) rfl ?_
    refine zA_imul dX9_answerOf_56 ?_
    refine zA_iadd dX9_answerOf_57 ?_
    refine zA_iret dX9_answerOf_58 rfl ?_
    exact zRt_i (by unfold tAn; rw [if_neg (by omega)])
  · skip
    refine zA_iload_n dX9_answerOf_8 rfl ?_
    refine zA_iload_n dX9_answerOf_9 rfl ?_
    refine zA_cS (st := [zI c]) dX9_answerOf_10 sX9_besides kX9_57 (s_besides (w := w) (S := (ZZ t dr tx)) (i := i) (by rcases hq with h | h <;> exact inR_mk (by omega) (by omega))) (by decide) rfl rfl (Nat.le_of_ble_eq_true rfl) (zRt_el ?_)
    show zA l mX9_answerOf false 2 0 0 (zRt (some (zI (tAn (w 34 8) (w 34 5) (w 34 6) c i j))) (ZZ t dr tx) w) zNo 13 [zR 34, zI c, zI i, zI j, .null] [zI (iShr (iShl 7 i) 1), zI c] (ZZ t dr tx) w
    have har : inR (iAnd c (iShr (iShl 7 i) 1)) := inR_t _
    refine zA_iand dX9_answerOf_13 ?_
    refine zA_if_eq (tgt := 21) dX9_answerOf_14 (by decide) (by first | assumption | exact hr _ _ | exact inR_mk (by omega) (by omega)) (fun c14 => ?_) (fun c14 => ?_)
    · skip
      refine zA_iconst dX9_answerOf_21 ?_
      refine zA_iret dX9_answerOf_22 rfl ?_
      exact zRt_i (by unfold tAn; rw [if_pos (by omega)]; first | rw [if_pos c14] | rw [if_neg (fun h => h c14)])
    · skip
      refine zA_iconst dX9_answerOf_17 ?_
      refine zA_goto (tgt := 22) dX9_answerOf_18 (by decide) ?_
      refine zA_iret dX9_answerOf_22 rfl ?_
      exact zRt_i (by unfold tAn; rw [if_pos (by omega)]; first | rw [if_pos c14] | rw [if_neg (fun h => h c14)])

set_option maxRecDepth 100000 in
set_option maxHeartbeats 4000000 in
theorem s_canAsk {l : Launch} {t dr tx : Nat} {w : zW} {i j : Int} (hi : inR i) (hj : inR j) : zSp l mX9_canAsk false 1 0 0 [zR 34, zI i, zI j] (ZZ t dr tx) w (zRp1 (isB (tOk (w 34 8) (w 34 4) i j)) (ZZ t dr tx) w) zNo := by
  refine zA_intro ⟨plainFor_of_name (by decide +kernel), Or.inl (by decide +kernel)⟩ rfl (Nat.le_of_ble_eq_true rfl) ?_
  refine zA_range (fun hr => ?_)
  show zA l mX9_canAsk false 1 0 0 (zRp1 (isB (tOk (w 34 8) (w 34 4) i j)) (ZZ t dr tx) w) zNo 0 [zR 34, zI i, zI j] [] (ZZ t dr tx) w
  refine zA_aload_n dX9_canAsk_0 rfl ?_
  refine zA_getI dX9_canAsk_1 fX9_38 c34 rfl ?_
  refine zA_valI (w 34 8) rfl ?_
  refine zA_iconst dX9_canAsk_4 ?_
  refine zA_icmp_ne (tgt := 26) dX9_canAsk_5 (by decide) (by first | assumption | exact hr _ _ | exact inR_mk (by omega) (by omega)) ⟨by decide, by decide⟩ (fun c5 => ?_) (fun c5 => ?_)
  · skip
    refine zA_iload_n dX9_canAsk_26 rfl ?_
    refine zA_if_lt (tgt := 47) dX9_canAsk_27 (by decide) (by first | assumption | exact hr _ _ | exact inR_mk (by omega) (by omega)) (fun c27 => ?_) (fun c27 => ?_)
    · skip
      refine zA_iconst dX9_canAsk_47 ?_
      refine zA_zret dX9_canAsk_48 rfl (Or.inl rfl) ?_
      exact ⟨⟨_, rfl, Or.inr ⟨rfl, by unfold tOk; omega⟩⟩, rfl, rfl⟩
    · skip
      refine zA_iload_n dX9_canAsk_30 rfl ?_
      refine zA_iload_n dX9_canAsk_31 rfl ?_
      refine zA_icmp_ge (tgt := 47) dX9_canAsk_32 (by decide) (by first | assumption | exact hr _ _ | exact inR_mk (by omega) (by omega)) (by first | assumption | exact hr _ _ | exact inR_mk (by omega) (by omega)) (fun c32 => ?_) (fun c32 => ?_)
      · skip
        refine zA_iconst dX9_canAsk_47 ?_
        refine zA_zret dX9_canAsk_48 rfl (Or.inl rfl) ?_
        exact ⟨⟨_, rfl, Or.inr ⟨rfl, by unfold tOk; omega⟩⟩, rfl, rfl⟩
      · skip
        refine zA_iload_n dX9_canAsk_35 rfl ?_
        refine zA_aload_n dX9_canAsk_36 rfl ?_
        refine zA_getI dX9_canAsk_37 fX9_24 c34 rfl ?_
        refine zA_valI (w 34 4) rfl ?_
        refine zA_icmp_gt (tgt := 47) dX9_canAsk_40 (by decide) (by first | assumption | exact hr _ _ | exact inR_mk (by omega) (by omega)) (by first | assumption | exact hr _ _ | exact inR_mk (by omega) (by omega)) (fun c40 => ?_) (fun c40 => ?_)
        · skip
          refine zA_iconst dX9_canAsk_47 ?_
          refine zA_zret dX9_canAsk_48 rfl (Or.inl rfl) ?_
          exact ⟨⟨_, rfl, Or.inr ⟨rfl, by unfold tOk; omega⟩⟩, rfl, rfl⟩
        · skip
          refine zA_iconst dX9_canAsk_43 ?_
          refine zA_goto (tgt := 48) dX9_canAsk_44 (by decide) ?_
          refine zA_zret dX9_canAsk_48 rfl (Or.inr rfl) ?_
          exact ⟨⟨_, rfl, Or.inl ⟨rfl, by unfold tOk; omega⟩⟩, rfl, rfl⟩
  · skip
    refine zA_iload_n dX9_canAsk_8 rfl ?_
    refine zA_if_lt (tgt := 24) dX9_canAsk_9 (by decide) (by first | assumption | exact hr _ _ | exact inR_mk (by omega) (by omega)) (fun c9 => ?_) (fun c9 => ?_)
    · skip
      refine zA_iconst dX9_canAsk_24 ?_
      refine zA_zret dX9_canAsk_25 rfl (Or.inl rfl) ?_
      exact ⟨⟨_, rfl, Or.inr ⟨rfl, by unfold tOk; omega⟩⟩, rfl, rfl⟩
    · skip
      refine zA_iload_n dX9_canAsk_12 rfl ?_
      refine zA_aload_n dX9_canAsk_13 rfl ?_
      refine zA_getI dX9_canAsk_14 fX9_24 c34 rfl ?_
      refine zA_valI (w 34 4) rfl ?_
      refine zA_icmp_ge (tgt := 24) dX9_canAsk_17 (by decide) (by first | assumption | exact hr _ _ | exact inR_mk (by omega) (by omega)) (by first | assumption | exact hr _ _ | exact inR_mk (by omega) (by omega)) (fun c17 => ?_) (fun c17 => ?_)
      · skip
        refine zA_iconst dX9_canAsk_24 ?_
        refine zA_zret dX9_canAsk_25 rfl (Or.inl rfl) ?_
        exact ⟨⟨_, rfl, Or.inr ⟨rfl, by unfold tOk; omega⟩⟩, rfl, rfl⟩
      · skip
        refine zA_iconst dX9_canAsk_20 ?_
        refine zA_goto (tgt := 25) dX9_canAsk_21 (by decide) ?_
        refine zA_zret dX9_canAsk_25 rfl (Or.inr rfl) ?_
        exact ⟨⟨_, rfl, Or.inl ⟨rfl, by unfold tOk; omega⟩⟩, rfl, rfl⟩

