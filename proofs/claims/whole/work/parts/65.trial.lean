/-! trials: the list of the cases that fit. fit: which fit; a: the list, m long, of numbers below N -/
def ixF (fit : Int → Bool) (c : Int) : Int := zsum c.toNat (fun j => if fit j = true then 1 else 0)
theorem ixF_s {fit : Int → Bool} {c : Int} (h : 0 ≤ c) : ixF fit (c + 1) = ixF fit c + (if fit c = true then 1 else 0) := by
  unfold ixF
  rw [zsucc h]
  simp only [zsum]
  rw [zcast h]
theorem ixF_b {fit : Int → Bool} {c : Int} : 0 ≤ ixF fit c ∧ ixF fit c ≤ c.toNat := by
  have h := zsum_b (f := fun j : Nat => if fit j = true then 1 else 0) (B := 1) c.toNat (fun k _ => by split <;> omega)
  unfold ixF
  omega
theorem ixF_gap {fit : Int → Bool} {c : Int} (h : 0 ≤ c) : ∀ k : Nat, (∀ x : Int, c ≤ x → x < c + k → fit x = false) → ixF fit (c + k) = ixF fit c := by
  intro k
  induction k with
  | zero => intro _; simp
  | succ k ih =>
    intro hx
    rw [show c + ((k + 1 : Nat) : Int) = c + k + 1 by omega, ixF_s (by omega), hx _ (by omega) (by omega), ih (fun x a b => hx x a (by omega))]
    simp
theorem ixF_c {fit fit' : Int → Bool} {c : Int} (h : ∀ x : Int, 0 ≤ x → x < c → fit x = fit' x) : ixF fit c = ixF fit' c := zsum_c _ (fun k hk => by rw [h k (by omega) (by omega)])
theorem ixF_le {fit : Int → Bool} {c c' : Int} (h : 0 ≤ c) (hc : c ≤ c') : ixF fit c ≤ ixF fit c' := by
  have key : ∀ k : Nat, ixF fit c ≤ ixF fit (c + k) := by
    intro k
    induction k with
    | zero => simp
    | succ k ih =>
      have := ixF_s (fit := fit) (c := c + k) (by omega)
      rw [show c + ((k + 1 : Nat) : Int) = c + k + 1 by omega, this]
      split <;> omega
  have := key (c' - c).toNat
  rwa [show c + ((c' - c).toNat : Int) = c' by omega] at this
theorem ixF_lt {fit : Int → Bool} {c c' : Int} (h : 0 ≤ c) (hc : c < c') (ht : fit c = true) : ixF fit c < ixF fit c' := by
  have h1 := ixF_s (fit := fit) h
  rw [if_pos ht] at h1
  have := ixF_le (fit := fit) (c := c + 1) (c' := c') (by omega) (by omega)
  omega
def lOk (fit : Int → Bool) (a : Int → Int) (m N : Int) : Prop := m = ixF fit N ∧ (∀ i : Int, 0 ≤ i → i < m → (0 ≤ a i ∧ a i < N) ∧ fit (a i) = true ∧ ixF fit (a i) = i) ∧ ∀ c : Int, 0 ≤ c → c < N → fit c = true → ixF fit c < m ∧ a (ixF fit c) = c
theorem lOk_c {fit fit' : Int → Bool} {a : Int → Int} {m N : Int} (h : ∀ x : Int, 0 ≤ x → x < N → fit x = fit' x) (hN : 0 ≤ N) (k : lOk fit a m N) : lOk fit' a m N := by
  obtain ⟨k1, k2, k3⟩ := k
  have e : ∀ c : Int, c ≤ N → ixF fit c = ixF fit' c := fun c hc => ixF_c (fun x a b => h x a (by omega))
  refine ⟨by rw [← e N (by omega)]; exact k1, fun i i0 i1 => ?_, fun c c0 c1 hc => ?_⟩
  · have := k2 i i0 i1
    exact ⟨this.1, by rw [← h _ this.1.1 this.1.2]; exact this.2.1, by rw [← e _ (by omega)]; exact this.2.2⟩
  · rw [← h c c0 c1] at hc
    have := k3 c c0 c1 hc
    rw [← e c (by omega)]
    exact this
/-- where the list stands in a new one: from entry i on nothing below it is left -/
def lUp (a : Int → Int) (m N i : Int) : Int := if i < m then a i else N
theorem lUp_gap {fit : Int → Bool} {a : Int → Int} {m N i : Int} (k : lOk fit a m N) (i0 : 0 ≤ i) (i1 : i < m) : a i < lUp a m N (i + 1) ∧ ∀ x : Int, a i < x → x < lUp a m N (i + 1) → fit x = false := by
  obtain ⟨k1, k2, k3⟩ := k
  have h1 := k2 i i0 i1
  unfold lUp
  by_cases g : i + 1 < m
  · rw [if_pos g]
    have h2 := k2 (i + 1) (by omega) g
    refine ⟨?_, fun x x0 x1 => ?_⟩
    · refine Classical.byContradiction (fun hn => ?_)
      have := ixF_le (fit := fit) h2.1.1 (show a (i + 1) ≤ a i by omega)
      omega
    · cases hx : fit x with
      | false => rfl
      | true =>
        have e1 := ixF_lt (fit := fit) h1.1.1 x0 h1.2.1
        have e2 := ixF_lt (fit := fit) (show 0 ≤ x by omega) x1 hx
        omega
  · rw [if_neg g]
    refine ⟨h1.1.2, fun x x0 x1 => ?_⟩
    cases hx : fit x with
    | false => rfl
    | true =>
      have e1 := ixF_lt (fit := fit) h1.1.1 x0 h1.2.1
      have e2 := (k3 x (by omega) x1 hx).1
      omega
/-- one step of keeping what fits -/
theorem lUp_step {fit g : Int → Bool} {a : Int → Int} {m N i : Int} (k : lOk fit a m N) (i0 : 0 ≤ i) (i1 : i < m) : ixF (fun x => fit x && g x) (lUp a m N (i + 1)) = ixF (fun x => fit x && g x) (a i) + (if g (a i) = true then 1 else 0) := by
  obtain ⟨h1, h2⟩ := lUp_gap k i0 i1
  obtain ⟨k1, k2, k3⟩ := k
  have h3 := k2 i i0 i1
  have e := ixF_gap (fit := fun x => fit x && g x) (c := a i + 1) (by omega) (lUp a m N (i + 1) - (a i + 1)).toNat (fun x x0 x1 => by
    show (fit x && g x) = false
    rw [h2 x (by omega) (by omega)]; rfl)
  rw [show a i + 1 + ((lUp a m N (i + 1) - (a i + 1)).toNat : Int) = lUp a m N (i + 1) by omega] at e
  rw [e, ixF_s h3.1.1]
  show _ + (if (fit (a i) && g (a i)) = true then 1 else 0) = _
  rw [h3.2.1, Bool.true_and]
def tX (c i j : Int) : Int := iAnd (iShr c i) (iShl 1 (j - i) - 1)
/-- what a question is answered in a case: kd 2 a wall -/
def tAn (kd g b c i j : Int) : Int := if kd = 2 then (if iAnd c (iShr (iShl 7 i) 1) ≠ 0 then 1 else 0) else popc (tX c i j) * b + (j - i - popc (tX c i j)) * g
def tOk (kd n i j : Int) : Prop := (kd = 2 ∧ 0 ≤ i ∧ i < n) ∨ (kd ≠ 2 ∧ 0 ≤ i ∧ i < j ∧ j ≤ n)
theorem tX_b {c i j : Int} (c0 : 0 ≤ c) (c1 : c < 16384) (i0 : 0 ≤ i) (ij : i < j) (jn : j ≤ 14) : 0 ≤ tX c i j ∧ tX c i j < 16384 := by
  have h2 : (2 : Nat) ^ (j - i).toNat ≤ 2 ^ 14 := Nat.pow_le_pow_right (by decide) (by omega)
  have h3 : 0 < (2 : Nat) ^ (j - i).toNat := Nat.pow_pos (by decide)
  have hd : c.toNat / 2 ^ i.toNat ≤ c.toNat := Nat.div_le_self _ _
  unfold tX
  rw [iShr_d c0 (by omega) i0 (by omega), iShl_1 (by omega) (by omega)]
  rw [show (((2 ^ (j - i).toNat : Nat) : Int) - 1) = ((2 ^ (j - i).toNat - 1 : Nat) : Int) by omega]
  generalize hz : c.toNat / 2 ^ i.toNat = z at hd
  generalize hy : 2 ^ (j - i).toNat - 1 = y
  have hy2 : y < 16384 := by omega
  rw [iAnd_nn (by omega) (by omega) (by omega) (by omega), Int.toNat_natCast, Int.toNat_natCast]
  have : z &&& y ≤ z := Nat.and_le_left
  omega
set_option maxRecDepth 100000 in
set_option maxHeartbeats 4000000 in
theorem s_besides {l : Launch} {w : zW} {S : zS} {i : Int} (hi : inR i) : zSp l mX9_besides false 1 0 0 [zI i] S w (zRt (some (zI (iShr (iShl 7 i) 1))) S w) zNo := by
  refine zA_intro ⟨plainFor_of_name (by decide +kernel), Or.inl (by decide +kernel)⟩ rfl (Nat.le_of_ble_eq_true rfl) ?_
  refine zA_range (fun hr => ?_)
  show zA l mX9_besides false 1 0 0 (zRt (some (zI (iShr (iShl 7 i) 1))) S w) zNo 0 [zI i] [] S w
  refine zA_bipush dX9_besides_0 rfl ?_
  refine zA_iload_n dX9_besides_2 rfl ?_
  refine zA_ishl dX9_besides_3 ?_
  refine zA_iconst dX9_besides_4 ?_
  refine zA_ishr dX9_besides_5 ?_
  refine zA_iret dX9_besides_6 rfl ?_
  exact zRt_i rfl

set_option maxRecDepth 100000 in
set_option maxHeartbeats 4000000 in
theorem s_answerOf {l : Launch} {t dr tx : Nat} {w : zW} (p0 : 2 ≤ w 34 4) (p1 : w 34 4 ≤ 14) (g0 : 0 ≤ w 34 5) (g1 : w 34 5 ≤ 99) (b0 : 0 ≤ w 34 6) (b1 : w 34 6 ≤ 99) {c i j : Int} (c0 : 0 ≤ c) (c1 : c < 16384) (hq : tOk (w 34 8) (w 34 4) i j) (hj : inR j) : zSp l mX9_answerOf false 2 0 0 [zR 34, zI c, zI i, zI j] (ZZ t dr tx) w (zRt (some (zI (tAn (w 34 8) (w 34 5) (w 34 6) c i j))) (ZZ t dr tx) w) zNo := by
  refine zA_intro ⟨plainFor_of_name (by decide +kernel), Or.inl (by decide +kernel)⟩ rfl (Nat.le_of_ble_eq_true rfl) ?_
  refine zA_range (fun hr => ?_)
  show zA l mX9_answerOf false 2 0 0 (zRt (some (zI (tAn (w 34 8) (w 34 5) (w 34 6) c i j))) (ZZ t dr tx) w) zNo 0 [zR 34, zI c, zI i, zI j, .null] [] (ZZ t dr tx) w
  refine zA_aload_n dX9_answerOf_0 rfl ?_
  refine zA_getI dX9_answerOf_1 fX9_38 c34 rfl ?_
  refine zA_valI (w 34 8) rfl ?_
  refine zA_iconst dX9_answerOf_4 ?_
  refine zA_icmp_ne (tgt := 23) dX9_answerOf_5 (by decide) (by first | assumption | exact hr _ _ | exact inR_mk (by omega) (by omega)) ⟨by decide, by decide⟩ (fun c5 => ?_) (fun c5 => ?_)
  · skip
    refine zA_iload_n dX9_answerOf_23 rfl ?_
    refine zA_iload_n dX9_answerOf_24 rfl ?_
    refine zA_ishr dX9_answerOf_25 ?_
    refine zA_iconst dX9_answerOf_26 ?_
    refine zA_iload_n dX9_answerOf_27 rfl ?_
    refine zA_iload_n dX9_answerOf_28 rfl ?_
    refine zA_isub dX9_answerOf_29 ?_
    refine zA_ishl dX9_answerOf_30 ?_
    refine zA_iconst dX9_answerOf_31 ?_
    refine zA_isub dX9_answerOf_32 ?_
    refine zA_iand dX9_answerOf_33 ?_
    refine zA_cS (st := []) dX9_answerOf_34 sJ6_bitCount_0f7a4 kX9_61 (s_bitCount (w := w) (S := (ZZ t dr tx)) (a := tX c i j) (tX_b c0 c1 (by rcases hq with h | h <;> omega) (by rcases hq with h | h <;> omega) (by rcases hq with h | h <;> omega)).1 (tX_b c0 c1 (by rcases hq with h | h <;> omega) (by rcases hq with h | h <;> omega) (by rcases hq with h | h <;> omega)).2) (by decide) rfl rfl (Nat.le_of_ble_eq_true rfl) (zRt_el ?_)
    show zA l mX9_answerOf false 2 0 0 (zRt (some (zI (tAn (w 34 8) (w 34 5) (w 34 6) c i j))) (ZZ t dr tx) w) zNo 37 [zR 34, zI c, zI i, zI j, .null] [zI (popc (tX c i j))] (ZZ t dr tx) w
    refine zA_istore (lo1 := [zR 34, zI c, zI i, zI j, zI (popc (tX c i j))]) dX9_answerOf_37 (by decide) rfl rfl ?_
    refine zA_iload dX9_answerOf_39 rfl ?_
    refine zA_aload_n dX9_answerOf_41 rfl ?_
    refine zA_getI dX9_answerOf_42 fX9_31 c34 rfl ?_
    refine zA_valI (w 34 6) rfl ?_
    refine zA_imul dX9_answerOf_45 ?_
    refine zA_iload_n dX9_answerOf_46 rfl ?_
    refine zA_iload_n dX9_answerOf_47 rfl ?_
    refine zA_isub dX9_answerOf_48 ?_
    refine zA_iload dX9_answerOf_49 rfl ?_
    refine zA_isub dX9_answerOf_51 ?_
    refine zA_aload_n dX9_answerOf_52 rfl ?_
    refine zA_getI dX9_answerOf_53 fX9_28 c34 rfl ?_
    refine zA_valI (w 34 5) rfl ?_
    refine zA_imul dX9_answerOf_56 ?_
    refine zA_iadd dX9_answerOf_57 ?_
    refine zA_iret dX9_answerOf_58 rfl ?_
    exact zRt_i (by unfold tAn; rw [if_neg (by omega)])
  · skip
    refine zA_iload_n dX9_answerOf_8 rfl ?_
    refine zA_iload_n dX9_answerOf_9 rfl ?_
    refine zA_cS (st := [zI c]) dX9_answerOf_10 sX9_besides kX9_57 (s_besides (w := w) (S := (ZZ t dr tx)) (i := i) (by rcases hq with h | h <;> exact inR_mk (by omega) (by omega))) (by decide) rfl rfl (Nat.le_of_ble_eq_true rfl) (zRt_el ?_)
    show zA l mX9_answerOf false 2 0 0 (zRt (some (zI (tAn (w 34 8) (w 34 5) (w 34 6) c i j))) (ZZ t dr tx) w) zNo 13 [zR 34, zI c, zI i, zI j, .null] [zI (iShr (iShl 7 i) 1), zI c] (ZZ t dr tx) w
    have har : inR (iAnd c (iShr (iShl 7 i) 1)) := inR_t _
    refine zA_iand dX9_answerOf_13 ?_
    refine zA_if_eq (tgt := 21) dX9_answerOf_14 (by decide) (by first | assumption | exact hr _ _ | exact inR_mk (by omega) (by omega)) (fun c14 => ?_) (fun c14 => ?_)
    · skip
      refine zA_iconst dX9_answerOf_21 ?_
      refine zA_iret dX9_answerOf_22 rfl ?_
      exact zRt_i (by unfold tAn; rw [if_pos (by omega)]; first | rw [if_pos c14] | rw [if_neg (fun h => h c14)])
    · skip
      refine zA_iconst dX9_answerOf_17 ?_
      refine zA_goto (tgt := 22) dX9_answerOf_18 (by decide) ?_
      refine zA_iret dX9_answerOf_22 rfl ?_
      exact zRt_i (by unfold tAn; rw [if_pos (by omega)]; first | rw [if_pos c14] | rw [if_neg (fun h => h c14)])

set_option maxRecDepth 100000 in
set_option maxHeartbeats 4000000 in
theorem s_canAsk {l : Launch} {t dr tx : Nat} {w : zW} {i j : Int} (hi : inR i) (hj : inR j) : zSp l mX9_canAsk false 1 0 0 [zR 34, zI i, zI j] (ZZ t dr tx) w (zRp1 (isB (tOk (w 34 8) (w 34 4) i j)) (ZZ t dr tx) w) zNo := by
  refine zA_intro ⟨plainFor_of_name (by decide +kernel), Or.inl (by decide +kernel)⟩ rfl (Nat.le_of_ble_eq_true rfl) ?_
  refine zA_range (fun hr => ?_)
  show zA l mX9_canAsk false 1 0 0 (zRp1 (isB (tOk (w 34 8) (w 34 4) i j)) (ZZ t dr tx) w) zNo 0 [zR 34, zI i, zI j] [] (ZZ t dr tx) w
  refine zA_aload_n dX9_canAsk_0 rfl ?_
  refine zA_getI dX9_canAsk_1 fX9_38 c34 rfl ?_
  refine zA_valI (w 34 8) rfl ?_
  refine zA_iconst dX9_canAsk_4 ?_
  refine zA_icmp_ne (tgt := 26) dX9_canAsk_5 (by decide) (by first | assumption | exact hr _ _ | exact inR_mk (by omega) (by omega)) ⟨by decide, by decide⟩ (fun c5 => ?_) (fun c5 => ?_)
  · skip
    refine zA_iload_n dX9_canAsk_26 rfl ?_
    refine zA_if_lt (tgt := 47) dX9_canAsk_27 (by decide) (by first | assumption | exact hr _ _ | exact inR_mk (by omega) (by omega)) (fun c27 => ?_) (fun c27 => ?_)
    · skip
      refine zA_iconst dX9_canAsk_47 ?_
      refine zA_zret dX9_canAsk_48 rfl (Or.inl rfl) ?_
      exact ⟨⟨_, rfl, Or.inr ⟨rfl, by unfold tOk; omega⟩⟩, rfl, rfl⟩
    · skip
      refine zA_iload_n dX9_canAsk_30 rfl ?_
      refine zA_iload_n dX9_canAsk_31 rfl ?_
      refine zA_icmp_ge (tgt := 47) dX9_canAsk_32 (by decide) (by first | assumption | exact hr _ _ | exact inR_mk (by omega) (by omega)) (by first | assumption | exact hr _ _ | exact inR_mk (by omega) (by omega)) (fun c32 => ?_) (fun c32 => ?_)
      · skip
        refine zA_iconst dX9_canAsk_47 ?_
        refine zA_zret dX9_canAsk_48 rfl (Or.inl rfl) ?_
        exact ⟨⟨_, rfl, Or.inr ⟨rfl, by unfold tOk; omega⟩⟩, rfl, rfl⟩
      · skip
        refine zA_iload_n dX9_canAsk_35 rfl ?_
        refine zA_aload_n dX9_canAsk_36 rfl ?_
        refine zA_getI dX9_canAsk_37 fX9_24 c34 rfl ?_
        refine zA_valI (w 34 4) rfl ?_
        refine zA_icmp_gt (tgt := 47) dX9_canAsk_40 (by decide) (by first | assumption | exact hr _ _ | exact inR_mk (by omega) (by omega)) (by first | assumption | exact hr _ _ | exact inR_mk (by omega) (by omega)) (fun c40 => ?_) (fun c40 => ?_)
        · skip
          refine zA_iconst dX9_canAsk_47 ?_
          refine zA_zret dX9_canAsk_48 rfl (Or.inl rfl) ?_
          exact ⟨⟨_, rfl, Or.inr ⟨rfl, by unfold tOk; omega⟩⟩, rfl, rfl⟩
        · skip
          refine zA_iconst dX9_canAsk_43 ?_
          refine zA_goto (tgt := 48) dX9_canAsk_44 (by decide) ?_
          refine zA_zret dX9_canAsk_48 rfl (Or.inr rfl) ?_
          exact ⟨⟨_, rfl, Or.inl ⟨rfl, by unfold tOk; omega⟩⟩, rfl, rfl⟩
  · skip
    refine zA_iload_n dX9_canAsk_8 rfl ?_
    refine zA_if_lt (tgt := 24) dX9_canAsk_9 (by decide) (by first | assumption | exact hr _ _ | exact inR_mk (by omega) (by omega)) (fun c9 => ?_) (fun c9 => ?_)
    · skip
      refine zA_iconst dX9_canAsk_24 ?_
      refine zA_zret dX9_canAsk_25 rfl (Or.inl rfl) ?_
      exact ⟨⟨_, rfl, Or.inr ⟨rfl, by unfold tOk; omega⟩⟩, rfl, rfl⟩
    · skip
      refine zA_iload_n dX9_canAsk_12 rfl ?_
      refine zA_aload_n dX9_canAsk_13 rfl ?_
      refine zA_getI dX9_canAsk_14 fX9_24 c34 rfl ?_
      refine zA_valI (w 34 4) rfl ?_
      refine zA_icmp_ge (tgt := 24) dX9_canAsk_17 (by decide) (by first | assumption | exact hr _ _ | exact inR_mk (by omega) (by omega)) (by first | assumption | exact hr _ _ | exact inR_mk (by omega) (by omega)) (fun c17 => ?_) (fun c17 => ?_)
      · skip
        refine zA_iconst dX9_canAsk_24 ?_
        refine zA_zret dX9_canAsk_25 rfl (Or.inl rfl) ?_
        exact ⟨⟨_, rfl, Or.inr ⟨rfl, by unfold tOk; omega⟩⟩, rfl, rfl⟩
      · skip
        refine zA_iconst dX9_canAsk_20 ?_
        refine zA_goto (tgt := 25) dX9_canAsk_21 (by decide) ?_
        refine zA_zret dX9_canAsk_25 rfl (Or.inr rfl) ?_
        exact ⟨⟨_, rfl, Or.inl ⟨rfl, by unfold tOk; omega⟩⟩, rfl, rfl⟩

theorem tAn_b {kd g b c i j : Int} (g0 : 0 ≤ g) (g1 : g ≤ 99) (b0 : 0 ≤ b) (b1 : b ≤ 99) (c0 : 0 ≤ c) (c1 : c < 16384) {n : Int} (hn : n ≤ 14) (hq : tOk kd n i j) : -4000 ≤ tAn kd g b c i j ∧ tAn kd g b c i j ≤ 4000 := by
  unfold tAn
  by_cases h : kd = 2
  · rw [if_pos h]; split <;> omega
  · rw [if_neg h]
    have hq2 := hq.resolve_left (fun q => h q.1)
    have hp := popc_b (tX c i j)
    have m1 := zmulA (x := popc (tX c i j)) (y := b) (A := 16) (B := 99) (by omega) (by omega) (by omega) (by omega)
    have m2 := zmulA (x := j - i - popc (tX c i j)) (y := g) (A := 16) (B := 99) (by omega) (by omega) (by omega) (by omega)
    omega
theorem ixF_sub {fit g : Int → Bool} (c : Int) : ixF (fun x => fit x && g x) c ≤ ixF fit c := zsum_le _ (fun k _ => by
  show (if (fit k && g k) = true then (1 : Int) else 0) ≤ if fit k = true then 1 else 0
  cases fit k <;> cases g k <;> decide)
theorem lUp_ix {fit : Int → Bool} {a : Int → Int} {m N i : Int} (k : lOk fit a m N) (i0 : 0 ≤ i) (i1 : i ≤ m) : ixF fit (lUp a m N i) = i := by
  unfold lUp
  by_cases h : i < m
  · rw [if_pos h]; exact (k.2.1 i i0 h).2.2
  · rw [if_neg h, ← k.1]; omega
theorem pow14 {m : Int} (h0 : 0 ≤ m) (h : m ≤ 14) : 1 ≤ ((2 ^ m.toNat : Nat) : Int) ∧ ((2 ^ m.toNat : Nat) : Int) ≤ 16384 := by
  have h1 : 0 < 2 ^ m.toNat := Nat.pow_pos (by decide)
  have h2 : 2 ^ m.toNat ≤ 2 ^ 14 := Nat.pow_le_pow_right (by decide) (by omega)
  omega
set_option maxRecDepth 100000 in
set_option maxHeartbeats 4000000 in
theorem s_keepFitting {l : Launch} {t dr tx : Nat} {w : zW} (p0 : 2 ≤ w 34 4) (p1 : w 34 4 ≤ 14) (g0 : 0 ≤ w 34 5) (g1 : w 34 5 ≤ 99) (b0 : 0 ≤ w 34 6) (b1 : w 34 6 ≤ 99) {i j s : Int} (hq : tOk (w 34 8) (w 34 4) i j) (hj : inR j) (hs : inR s) {fit : Int → Bool} (hl : lOk fit (w 35) (w 34 9) ((2 ^ (w 34 4).toNat : Nat) : Int)) : zSp l mX9_keepFitting false 3 0 0 [zR 34, zI i, zI j, zI s] (ZZ t dr tx) w (fun v' S' w' => v' = none ∧ S' = (ZZ t dr tx) ∧ (∀ c x, c ≠ 35 → (c ≠ 34 ∨ (x ≠ 7 ∧ x ≠ 9)) → w' c x = w c x) ∧ w' 34 7 = 0 ∧ lOk (fun x => fit x && decide (tAn (w 34 8) (w 34 5) (w 34 6) x i j = s)) (w' 35) (w' 34 9) ((2 ^ (w 34 4).toNat : Nat) : Int)) zNo := by
  refine zA_intro ⟨plainFor_of_name (by decide +kernel), Or.inl (by decide +kernel)⟩ rfl (Nat.le_of_ble_eq_true rfl) ?_
  have hpw := pow14 (m := w 34 4) (by omega) p1
  have hmb : 0 ≤ w 34 9 ∧ w 34 9 ≤ ((2 ^ (w 34 4).toNat : Nat) : Int) := by
    have h := ixF_b (fit := fit) (c := ((2 ^ (w 34 4).toNat : Nat) : Int))
    rw [hl.1]; omega
  refine zA_range (fun hr => ?_)
  show zA l mX9_keepFitting false 3 0 0 (fun v' S' w' => v' = none ∧ S' = (ZZ t dr tx) ∧ (∀ c x, c ≠ 35 → (c ≠ 34 ∨ (x ≠ 7 ∧ x ≠ 9)) → w' c x = w c x) ∧ w' 34 7 = 0 ∧ lOk (fun x => fit x && decide (tAn (w 34 8) (w 34 5) (w 34 6) x i j = s)) (w' 35) (w' 34 9) ((2 ^ (w 34 4).toNat : Nat) : Int)) zNo 0 [zR 34, zI i, zI j, zI s, .null, .null] [] (ZZ t dr tx) w
  refine zA_iconst dX9_keepFitting_0 ?_
  refine zA_istore (lo1 := [zR 34, zI i, zI j, zI s, zI 0, .null]) dX9_keepFitting_1 (by decide) rfl rfl ?_
  refine zA_iconst dX9_keepFitting_3 ?_
  refine zA_istore (lo1 := [zR 34, zI i, zI j, zI s, zI 0, zI 0]) dX9_keepFitting_4 (by decide) rfl rfl ?_
  have L6 : ∀ (z6 : Nat) (lf p : Int) (w1 : zW) (q0 : 0 ≤ p) (q1 : p ≤ w 34 9) (hlf : lf = ixF (fun x => fit x && decide (tAn (w 34 8) (w 34 5) (w 34 6) x i j = s)) (lUp (w 35) (w 34 9) ((2 ^ (w 34 4).toNat : Nat) : Int) p)) (hlp : lf ≤ p) (hlf0 : 0 ≤ lf) (hf : only 35 w w1) (hu : ∀ x : Int, p ≤ x → w1 35 x = w 35 x) (ha : ∀ x : Int, 0 ≤ x → x < lf → (0 ≤ w1 35 x ∧ w1 35 x < ((2 ^ (w 34 4).toNat : Nat) : Int)) ∧ (fun x => fit x && decide (tAn (w 34 8) (w 34 5) (w 34 6) x i j = s)) (w1 35 x) = true ∧ ixF (fun x => fit x && decide (tAn (w 34 8) (w 34 5) (w 34 6) x i j = s)) (w1 35 x) = x) (hb : ∀ c : Int, 0 ≤ c → c < (lUp (w 35) (w 34 9) ((2 ^ (w 34 4).toNat : Nat) : Int) p) → (fun x => fit x && decide (tAn (w 34 8) (w 34 5) (w 34 6) x i j = s)) c = true → ixF (fun x => fit x && decide (tAn (w 34 8) (w 34 5) (w 34 6) x i j = s)) c < lf ∧ w1 35 (ixF (fun x => fit x && decide (tAn (w 34 8) (w 34 5) (w 34 6) x i j = s)) c) = c) (zm : (w 34 9 - p).toNat < z6), zA l mX9_keepFitting false 3 0 0 (fun v' S' w' => v' = none ∧ S' = (ZZ t dr tx) ∧ (∀ c x, c ≠ 35 → (c ≠ 34 ∨ (x ≠ 7 ∧ x ≠ 9)) → w' c x = w c x) ∧ w' 34 7 = 0 ∧ lOk (fun x => fit x && decide (tAn (w 34 8) (w 34 5) (w 34 6) x i j = s)) (w' 35) (w' 34 9) ((2 ^ (w 34 4).toNat : Nat) : Int)) zNo 6 [zR 34, zI i, zI j, zI s, zI lf, zI p] [] (ZZ t dr tx) w1 := by
    intro z6
    induction z6 with
    | zero => intro lf p w1 q0 q1 hlf hlp hlf0 hf hu ha hb zm; exact absurd zm (Nat.not_lt_zero _)
    | succ z6 ih6 =>
      intro lf p w1 q0 q1 hlf hlp hlf0 hf hu ha hb zm
      refine zA_range (fun hr => ?_)
      have e9 : w1 34 9 = w 34 9 := hf 34 9 (by decide)
      refine zA_iload dX9_keepFitting_6 rfl ?_
      refine zA_aload_n dX9_keepFitting_8 rfl ?_
      refine zA_getI dX9_keepFitting_9 fX9_41 c34 rfl ?_
      refine zA_valI (w1 34 9) rfl ?_
      refine zA_icmp_ge (tgt := 55) dX9_keepFitting_12 (by decide) (by first | assumption | exact hr _ _ | exact inR_mk (by omega) (by omega)) (by first | assumption | exact hr _ _ | exact inR_mk (by omega) (by omega)) (fun c12 => ?_) (fun c12 => ?_)
      · skip
        refine zA_aload_n dX9_keepFitting_55 rfl ?_
        refine zA_iload dX9_keepFitting_56 rfl ?_
        refine zA_putI dX9_keepFitting_58 fX9_41 c34 rfl (by first | assumption | exact hr _ _ | exact inR_mk (by omega) (by omega)) ⟨rfl, rfl⟩ ?_
        refine zA_namew (fun w_1 hw_1 => ?_)
        refine zA_range (fun hr => ?_)
        replace hw_1 : w_1 = up w1 34 9 lf := hw_1
        refine zA_aload_n dX9_keepFitting_61 rfl ?_
        refine zA_iconst dX9_keepFitting_62 ?_
        refine zA_putI dX9_keepFitting_63 fX9_34 c34 rfl ⟨by decide, by decide⟩ ⟨by rfl, by rfl⟩ ?_
        refine zA_namew (fun w_2 hw_2 => ?_)
        refine zA_range (fun hr => ?_)
        replace hw_2 : w_2 = up w_1 34 7 0 := hw_2
        refine zA_vret dX9_keepFitting_66 rfl ?_
        have hpm : p = w 34 9 := by omega
        rw [hpm] at hlf hb
        have hU : (lUp (w 35) (w 34 9) ((2 ^ (w 34 4).toNat : Nat) : Int) (w 34 9)) = ((2 ^ (w 34 4).toNat : Nat) : Int) := by unfold lUp; rw [if_neg (by omega)]
        rw [hU] at hlf hb
        have e35 : ∀ x, w_2 35 x = w1 35 x := fun x => by rw [hw_2, up_cell _ _ _ _ (by decide), hw_1, up_cell _ _ _ _ (by decide)]
        have e34 : w_2 34 9 = lf := by rw [hw_2, up_idx _ _ _ _ (by decide), hw_1, up_same]
        refine ⟨rfl, rfl, fun c x a b => ?_, by rw [hw_2, up_same], ?_⟩
        · rw [hw_2, up_ne a (by omega), hw_1, up_ne a (by omega)]; exact hf c x a
        · rw [e34]
          exact ⟨hlf, fun x a b => by rw [e35]; exact ha x a b, fun c c0 c1 hc => by rw [e35]; exact hb c c0 c1 hc⟩
      · skip
        have hlp1 := hl.2.1 p q0 (by omega)
        have hup := hu p (Int.le_refl _)
        have hgap := lUp_gap hl q0 (show p < w 34 9 by omega)
        have hst := lUp_step (g := fun x => decide (tAn (w 34 8) (w 34 5) (w 34 6) x i j = s)) hl q0 (show p < w 34 9 by omega)
        have htb := tAn_b (kd := w 34 8) (c := w 35 p) g0 g1 b0 b1 hlp1.1.1 (by omega) p1 hq
        refine zA_aload_n dX9_keepFitting_15 rfl ?_
        refine zA_aload_n dX9_keepFitting_16 rfl ?_
        refine zA_getR (n := 35) dX9_keepFitting_17 fX9_11 c34 rfl ?_
        refine zA_iload dX9_keepFitting_20 rfl ?_
        refine zA_iaload dX9_keepFitting_22 c35 (by first | assumption | omega) (by first | assumption | omega) (by decide) ?_
        refine zA_iload_n dX9_keepFitting_23 rfl ?_
        refine zA_iload_n dX9_keepFitting_24 rfl ?_
        refine zA_cV (st := []) dX9_keepFitting_25 vX9_answerOf kX9_53 (s_answerOf (w := w1) (c := w1 35 p) (i := i) (j := j) (by rw [hf 34 4 (by decide)]; exact p0) (by rw [hf 34 4 (by decide)]; exact p1) (by rw [hf 34 5 (by decide)]; exact g0) (by rw [hf 34 5 (by decide)]; exact g1) (by rw [hf 34 6 (by decide)]; exact b0) (by rw [hf 34 6 (by decide)]; exact b1) (by rw [hup]; exact hlp1.1.1) (by rw [hup]; have := hlp1.1.2; omega) (by rw [hf 34 8 (by decide), hf 34 4 (by decide)]; exact hq) hj) (by decide) c34 rfl rfl (Nat.le_of_ble_eq_true rfl) rfl (zRt_el ?_)
        show zA l mX9_keepFitting false 3 0 0 (fun v' S' w' => v' = none ∧ S' = (ZZ t dr tx) ∧ (∀ c x, c ≠ 35 → (c ≠ 34 ∨ (x ≠ 7 ∧ x ≠ 9)) → w' c x = w c x) ∧ w' 34 7 = 0 ∧ lOk (fun x => fit x && decide (tAn (w 34 8) (w 34 5) (w 34 6) x i j = s)) (w' 35) (w' 34 9) ((2 ^ (w 34 4).toNat : Nat) : Int)) zNo 28 [zR 34, zI i, zI j, zI s, zI lf, zI p] [zI (tAn (w1 34 8) (w1 34 5) (w1 34 6) (w1 35 p) i j)] (ZZ t dr tx) w1
        refine zA_valI (tAn (w 34 8) (w 34 5) (w 34 6) (w 35 p) i j) (by rw [hup, hf 34 8 (by decide), hf 34 5 (by decide), hf 34 6 (by decide)]) ?_
        refine zA_iload_n dX9_keepFitting_28 rfl ?_
        refine zA_icmp_ne (tgt := 49) dX9_keepFitting_29 (by decide) (by first | assumption | exact hr _ _ | exact inR_mk (by omega) (by omega)) (by first | assumption | exact hr _ _ | exact inR_mk (by omega) (by omega)) (fun c29 => ?_) (fun c29 => ?_)
        · skip
          refine zA_iinc (lo1 := [zR 34, zI i, zI j, zI s, zI lf, zI (p + 1)]) dX9_keepFitting_49 rfl (by decide) rfl rfl ?_
          refine zA_goto (tgt := 6) dX9_keepFitting_52 (by decide) ?_
          exact ih6 _ (p + 1) _ (by omega) (by omega) (by rw [hst, if_neg (by rw [decide_eq_true_iff]; exact c29)]; unfold lUp at hlf; rw [if_pos (by omega)] at hlf; omega) (by omega) hlf0 hf (fun x a => hu x (by omega)) ha (fun c c0 c1 hc => by
                      have hc2 : (fit c && decide (tAn (w 34 8) (w 34 5) (w 34 6) c i j = s)) = true := hc
                      rw [Bool.and_eq_true, decide_eq_true_iff] at hc2
                      refine hb c c0 ?_ hc
                      unfold lUp
                      rw [if_pos (by omega)]
                      rcases Int.lt_trichotomy c (w 35 p) with q | q | q
                      · exact q
                      · exfalso; rw [q] at hc2; exact c29 hc2.2
                      · exfalso; rw [hgap.2 c q c1] at hc2; exact absurd hc2.1 (by decide)) (by omega)
        · skip
          refine zA_aload_n dX9_keepFitting_32 rfl ?_
          refine zA_getR (n := 35) dX9_keepFitting_33 fX9_11 c34 rfl ?_
          refine zA_iload dX9_keepFitting_36 rfl ?_
          refine zA_aload_n dX9_keepFitting_38 rfl ?_
          refine zA_getR (n := 35) dX9_keepFitting_39 fX9_11 c34 rfl ?_
          refine zA_iload dX9_keepFitting_42 rfl ?_
          refine zA_iaload dX9_keepFitting_44 c35 (by first | assumption | omega) (by first | assumption | omega) (by decide) ?_
          refine zA_iastore dX9_keepFitting_45 (by first | assumption | exact hr _ _ | exact inR_mk (by omega) (by omega)) c35 (by first | assumption | omega) (by first | assumption | omega) (by decide) ?_
          refine zA_namew (fun w_3 hw_3 => ?_)
          refine zA_range (fun hr => ?_)
          replace hw_3 : w_3 = up w1 35 lf (w1 35 p) := hw_3
          refine zA_iinc (lo1 := [zR 34, zI i, zI j, zI s, zI (lf + 1), zI p]) dX9_keepFitting_46 rfl (by decide) rfl rfl ?_
          refine zA_iinc (lo1 := [zR 34, zI i, zI j, zI s, zI (lf + 1), zI (p + 1)]) dX9_keepFitting_49 rfl (by decide) rfl rfl ?_
          refine zA_goto (tgt := 6) dX9_keepFitting_52 (by decide) ?_
          exact ih6 _ (p + 1) _ (by omega) (by omega) (by rw [hst, if_pos (by rw [decide_eq_true_iff]; exact c29)]; unfold lUp at hlf; rw [if_pos (by omega)] at hlf; omega) (by omega) (by omega) (by rw [hw_3]; exact only_up hf) (fun x a => by rw [hw_3, up_idx _ _ _ _ (by omega)]; exact hu x (by omega)) (fun x a b => by
                      rw [hw_3]
                      by_cases e : x = lf
                      · rw [e, up_same, hup]
                        refine ⟨hlp1.1, ?_, ?_⟩
                        · show (fit (w 35 p) && decide (tAn (w 34 8) (w 34 5) (w 34 6) (w 35 p) i j = s)) = true
                          rw [hlp1.2.1, Bool.true_and, decide_eq_true_iff]; exact c29
                        · unfold lUp at hlf; rw [if_pos (by omega)] at hlf; exact hlf.symm
                      · rw [up_idx _ _ _ _ e]; exact ha x a (by omega)) (fun c c0 c1 hc => by
                      have hc2 : (fit c && decide (tAn (w 34 8) (w 34 5) (w 34 6) c i j = s)) = true := hc
                      rw [Bool.and_eq_true, decide_eq_true_iff] at hc2
                      rw [hw_3]
                      rcases Int.lt_trichotomy c (w 35 p) with q | q | q
                      · have h1 := hb c c0 (by unfold lUp; rw [if_pos (by omega)]; exact q) hc
                        exact ⟨by omega, by rw [up_idx _ _ _ _ (by omega)]; exact h1.2⟩
                      · have e : ixF (fun x => fit x && decide (tAn (w 34 8) (w 34 5) (w 34 6) x i j = s)) c = lf := by rw [hlf, q]; unfold lUp; rw [if_pos (by omega)]
                        exact ⟨by omega, by rw [e, up_same, hup, q]⟩
                      · exfalso; rw [hgap.2 c q c1] at hc2; exact absurd hc2.1 (by decide)) (by omega)
  exact L6 _ 0 0 w (by omega) (by omega) (by have h1 := ixF_sub (fit := fit) (g := fun x => decide (tAn (w 34 8) (w 34 5) (w 34 6) x i j = s)) (lUp (w 35) (w 34 9) ((2 ^ (w 34 4).toNat : Nat) : Int) 0); have h2 := (ixF_b (fit := (fun x => fit x && decide (tAn (w 34 8) (w 34 5) (w 34 6) x i j = s))) (c := (lUp (w 35) (w 34 9) ((2 ^ (w 34 4).toNat : Nat) : Int) 0))).1; rw [lUp_ix hl (by omega) (by omega)] at h1; exact (Int.le_antisymm h1 h2).symm) (by omega) (by omega) only_rfl (fun _ _ => rfl) (fun x a b => by omega) (fun c c0 c1 hc => by
          exfalso
          have h1 := lUp_ix hl (i := 0) (by omega) (by omega)
          have hfc : fit c = true := by
            have hc2 : (fit c && decide (tAn (w 34 8) (w 34 5) (w 34 6) c i j = s)) = true := hc
            rw [Bool.and_eq_true] at hc2; exact hc2.1
          have h2 := ixF_lt (fit := fit) c0 c1 hfc
          have h3 := (ixF_b (fit := fit) (c := c)).1
          omega) (Nat.lt_succ_self _)

theorem ixF_t : ∀ n : Nat, ixF (fun _ => true) n = n := by
  intro n
  induction n with
  | zero => rfl
  | succ n ih =>
    rw [show ((n + 1 : Nat) : Int) = (n : Int) + 1 by omega, ixF_s (by omega), ih]
    simp
theorem ixF_ti {c : Int} (h : 0 ≤ c) : ixF (fun _ => true) c = c := by
  have := ixF_t c.toNat
  rwa [zcast h] at this
set_option maxRecDepth 100000 in
set_option maxHeartbeats 4000000 in
theorem s_begin {l : Launch} {t dr tx : Nat} {w : zW} {kd n g b : Int} (k0 : 0 ≤ kd) (k1 : kd ≤ 2) (n0 : 2 ≤ n) (n1 : n ≤ 14) (g0 : 0 ≤ g) (g1 : g ≤ 99) (b0 : 0 ≤ b) (b1 : b ≤ 99) : zSp l mX9_begin false 1 0 0 [zR 34, zI kd, zI n, zI g, zI b] (ZZ t dr tx) w (fun v' S' w' => v' = none ∧ S' = (ZZ t dr tx) ∧ (∀ c x, c ≠ 35 → (c ≠ 34 ∨ (x ≠ 4 ∧ x ≠ 5 ∧ x ≠ 6 ∧ x ≠ 7 ∧ x ≠ 8 ∧ x ≠ 9)) → w' c x = w c x) ∧ w' 34 8 = kd ∧ w' 34 4 = n ∧ w' 34 5 = g ∧ w' 34 6 = b ∧ w' 34 7 = 0 ∧ lOk (fun _ => true) (w' 35) (w' 34 9) ((2 ^ n.toNat : Nat) : Int)) zNo := by
  refine zA_intro ⟨plainFor_of_name (by decide +kernel), Or.inl (by decide +kernel)⟩ rfl (Nat.le_of_ble_eq_true rfl) ?_
  have hpw := pow14 (m := n) (by omega) n1
  refine zA_range (fun hr => ?_)
  show zA l mX9_begin false 1 0 0 (fun v' S' w' => v' = none ∧ S' = (ZZ t dr tx) ∧ (∀ c x, c ≠ 35 → (c ≠ 34 ∨ (x ≠ 4 ∧ x ≠ 5 ∧ x ≠ 6 ∧ x ≠ 7 ∧ x ≠ 8 ∧ x ≠ 9)) → w' c x = w c x) ∧ w' 34 8 = kd ∧ w' 34 4 = n ∧ w' 34 5 = g ∧ w' 34 6 = b ∧ w' 34 7 = 0 ∧ lOk (fun _ => true) (w' 35) (w' 34 9) ((2 ^ n.toNat : Nat) : Int)) zNo 0 [zR 34, zI kd, zI n, zI g, zI b, .null] [] (ZZ t dr tx) w
  refine zA_aload_n dX9_begin_0 rfl ?_
  refine zA_iload_n dX9_begin_1 rfl ?_
  refine zA_putI dX9_begin_2 fX9_38 c34 rfl (by first | assumption | exact hr _ _ | exact inR_mk (by omega) (by omega)) ⟨rfl, rfl⟩ ?_
  refine zA_namew (fun w_1 hw_1 => ?_)
  refine zA_range (fun hr => ?_)
  replace hw_1 : w_1 = up w 34 8 kd := hw_1
  refine zA_aload_n dX9_begin_5 rfl ?_
  refine zA_iload_n dX9_begin_6 rfl ?_
  refine zA_putI dX9_begin_7 fX9_24 c34 rfl (by first | assumption | exact hr _ _ | exact inR_mk (by omega) (by omega)) ⟨rfl, rfl⟩ ?_
  refine zA_namew (fun w_2 hw_2 => ?_)
  refine zA_range (fun hr => ?_)
  replace hw_2 : w_2 = up w_1 34 4 n := hw_2
  refine zA_aload_n dX9_begin_10 rfl ?_
  refine zA_iload_n dX9_begin_11 rfl ?_
  refine zA_putI dX9_begin_12 fX9_28 c34 rfl (by first | assumption | exact hr _ _ | exact inR_mk (by omega) (by omega)) ⟨rfl, rfl⟩ ?_
  refine zA_namew (fun w_3 hw_3 => ?_)
  refine zA_range (fun hr => ?_)
  replace hw_3 : w_3 = up w_2 34 5 g := hw_3
  refine zA_aload_n dX9_begin_15 rfl ?_
  refine zA_iload dX9_begin_16 rfl ?_
  refine zA_putI dX9_begin_18 fX9_31 c34 rfl (by first | assumption | exact hr _ _ | exact inR_mk (by omega) (by omega)) ⟨rfl, rfl⟩ ?_
  refine zA_namew (fun w_4 hw_4 => ?_)
  refine zA_range (fun hr => ?_)
  replace hw_4 : w_4 = up w_3 34 6 b := hw_4
  refine zA_aload_n dX9_begin_21 rfl ?_
  refine zA_iconst dX9_begin_22 ?_
  refine zA_iload_n dX9_begin_23 rfl ?_
  refine zA_ishl dX9_begin_24 ?_
  refine zA_valI ((2 ^ n.toNat : Nat) : Int) (by rw [iShl_1 (by omega) (by omega)]) ?_
  refine zA_putI dX9_begin_25 fX9_41 c34 rfl (by first | assumption | exact hr _ _ | exact inR_mk (by omega) (by omega)) ⟨rfl, rfl⟩ ?_
  refine zA_namew (fun w_5 hw_5 => ?_)
  refine zA_range (fun hr => ?_)
  replace hw_5 : w_5 = up w_4 34 9 ((2 ^ n.toNat : Nat) : Int) := hw_5
  have h59 : w_5 34 9 = ((2 ^ n.toNat : Nat) : Int) := by rw [hw_5, up_same]
  have h5o : ∀ x, x ≠ 9 → x ≠ 6 → x ≠ 5 → x ≠ 4 → x ≠ 8 → w_5 34 x = w 34 x := fun x a b c d e => by rw [hw_5, up_idx _ _ _ _ a, hw_4, up_idx _ _ _ _ b, hw_3, up_idx _ _ _ _ c, hw_2, up_idx _ _ _ _ d, hw_1, up_idx _ _ _ _ e]
  have h5c : ∀ c x, c ≠ 34 → w_5 c x = w c x := fun c x a => by rw [hw_5, up_cell _ _ _ _ a, hw_4, up_cell _ _ _ _ a, hw_3, up_cell _ _ _ _ a, hw_2, up_cell _ _ _ _ a, hw_1, up_cell _ _ _ _ a]
  refine zA_iconst dX9_begin_28 ?_
  refine zA_istore (lo1 := [zR 34, zI kd, zI n, zI g, zI b, zI 0]) dX9_begin_29 (by decide) rfl rfl ?_
  have L31 : ∀ (z31 : Nat) (i : Int) (w1 : zW) (i0 : 0 ≤ i) (i1 : i ≤ ((2 ^ n.toNat : Nat) : Int)) (hf : only 35 w_5 w1) (ha : ∀ x : Int, 0 ≤ x → x < i → w1 35 x = x) (zm : (((2 ^ n.toNat : Nat) : Int) - i).toNat < z31), zA l mX9_begin false 1 0 0 (fun v' S' w' => v' = none ∧ S' = (ZZ t dr tx) ∧ (∀ c x, c ≠ 35 → (c ≠ 34 ∨ (x ≠ 4 ∧ x ≠ 5 ∧ x ≠ 6 ∧ x ≠ 7 ∧ x ≠ 8 ∧ x ≠ 9)) → w' c x = w c x) ∧ w' 34 8 = kd ∧ w' 34 4 = n ∧ w' 34 5 = g ∧ w' 34 6 = b ∧ w' 34 7 = 0 ∧ lOk (fun _ => true) (w' 35) (w' 34 9) ((2 ^ n.toNat : Nat) : Int)) zNo 31 [zR 34, zI kd, zI n, zI g, zI b, zI i] [] (ZZ t dr tx) w1 := by
    intro z31
    induction z31 with
    | zero => intro i w1 i0 i1 hf ha zm; exact absurd zm (Nat.not_lt_zero _)
    | succ z31 ih31 =>
      intro i w1 i0 i1 hf ha zm
      refine zA_range (fun hr => ?_)
      have e9 : w1 34 9 = ((2 ^ n.toNat : Nat) : Int) := (hf 34 9 (by decide)).trans h59
      refine zA_iload dX9_begin_31 rfl ?_
      refine zA_aload_n dX9_begin_33 rfl ?_
      refine zA_getI dX9_begin_34 fX9_41 c34 rfl ?_
      refine zA_valI (w1 34 9) rfl ?_
      refine zA_icmp_ge (tgt := 55) dX9_begin_37 (by decide) (by first | assumption | exact hr _ _ | exact inR_mk (by omega) (by omega)) (by first | assumption | exact hr _ _ | exact inR_mk (by omega) (by omega)) (fun c37 => ?_) (fun c37 => ?_)
      · skip
        refine zA_aload_n dX9_begin_55 rfl ?_
        refine zA_iconst dX9_begin_56 ?_
        refine zA_putI dX9_begin_57 fX9_34 c34 rfl ⟨by decide, by decide⟩ ⟨by rfl, by rfl⟩ ?_
        refine zA_namew (fun w_6 hw_6 => ?_)
        refine zA_range (fun hr => ?_)
        replace hw_6 : w_6 = up w1 34 7 0 := hw_6
        refine zA_vret dX9_begin_60 rfl ?_
        have z : ∀ x, x ≠ 7 → w_6 34 x = w_5 34 x := fun x h => by rw [hw_6, up_idx _ _ _ _ h]; exact hf 34 x (by decide)
        have z35 : ∀ x, w_6 35 x = w1 35 x := fun x => by rw [hw_6, up_cell _ _ _ _ (by decide)]
        refine ⟨rfl, rfl, fun c x h1 h2 => ?_, ?_, ?_, ?_, ?_, by rw [hw_6, up_same], ?_⟩
        · by_cases hc : c = 34
          · subst hc; rw [z x (by omega)]; exact h5o x (by omega) (by omega) (by omega) (by omega) (by omega)
          · rw [hw_6, up_cell _ _ _ _ hc, hf c x h1]; exact h5c c x hc
        · rw [z 8 (by decide)]; simp [hw_5, hw_4, hw_3, hw_2, hw_1, up]
        · rw [z 4 (by decide)]; simp [hw_5, hw_4, hw_3, hw_2, hw_1, up]
        · rw [z 5 (by decide)]; simp [hw_5, hw_4, hw_3, hw_2, hw_1, up]
        · rw [z 6 (by decide)]; simp [hw_5, hw_4, hw_3, hw_2, hw_1, up]
        · rw [z 9 (by decide), h59]
          refine ⟨(ixF_ti (by omega)).symm, fun x a b => ?_, fun c c0 c1 _ => ?_⟩
          · rw [z35, ha x a (by omega)]; exact ⟨⟨a, b⟩, rfl, ixF_ti a⟩
          · rw [ixF_ti c0, z35, ha c c0 (by omega)]; exact ⟨c1, rfl⟩
      · skip
        refine zA_aload_n dX9_begin_40 rfl ?_
        refine zA_getR (n := 35) dX9_begin_41 fX9_11 c34 rfl ?_
        refine zA_iload dX9_begin_44 rfl ?_
        refine zA_iload dX9_begin_46 rfl ?_
        refine zA_iastore dX9_begin_48 (by first | assumption | exact hr _ _ | exact inR_mk (by omega) (by omega)) c35 (by first | assumption | omega) (by first | assumption | omega) (by decide) ?_
        refine zA_namew (fun w_7 hw_7 => ?_)
        refine zA_range (fun hr => ?_)
        replace hw_7 : w_7 = up w1 35 i i := hw_7
        refine zA_iinc (lo1 := [zR 34, zI kd, zI n, zI g, zI b, zI (i + 1)]) dX9_begin_49 rfl (by decide) rfl rfl ?_
        refine zA_goto (tgt := 31) dX9_begin_52 (by decide) ?_
        exact ih31 (i + 1) _ (by omega) (by omega) (by rw [hw_7]; exact only_up hf) (fun x a b => by
                    rw [hw_7]
                    by_cases e : x = i
                    · rw [e, up_same]
                    · rw [up_idx _ _ _ _ e]; exact ha x a (by omega)) (by omega)
  exact L31 _ 0 w_5 (by omega) (by omega) only_rfl (fun x a b => by omega) (Nat.lt_succ_self _)

set_option maxRecDepth 100000 in
set_option maxHeartbeats 4000000 in
theorem s_rod {l : Launch} {t dr tx : Nat} {w : zW} {n g b : Int} (hn : inR n) (hg : inR g) (hb : inR b) : zSp l mX11_rod false 3 0 0 [zR 0, zI n, zI g, zI b] (ZZ t dr tx) w (fun v' S' w' => S' = (ZZ t dr tx) ∧ ((((2 ≤ n ∧ n ≤ 14) ∧ (0 ≤ g ∧ g ≤ 99) ∧ (0 ≤ b ∧ b ≤ 99) ∧ g ≠ b) ∧ v' = some (zI 1) ∧ (∀ c x, c ≠ 35 → (c ≠ 34 ∨ (x ≠ 4 ∧ x ≠ 5 ∧ x ≠ 6 ∧ x ≠ 7 ∧ x ≠ 8 ∧ x ≠ 9)) → w' c x = w c x) ∧ w' 34 8 = 1 ∧ w' 34 4 = n ∧ w' 34 5 = g ∧ w' 34 6 = b ∧ w' 34 7 = 0 ∧ lOk (fun _ => true) (w' 35) (w' 34 9) ((2 ^ n.toNat : Nat) : Int)) ∨ (¬ ((2 ≤ n ∧ n ≤ 14) ∧ (0 ≤ g ∧ g ≤ 99) ∧ (0 ≤ b ∧ b ≤ 99) ∧ g ≠ b) ∧ v' = some (zI 0) ∧ w' = w))) zNo := by
  refine zA_intro ⟨plainFor_of_name (by decide +kernel), Or.inl (by decide +kernel)⟩ rfl (Nat.le_of_ble_eq_true rfl) ?_
  refine zA_range (fun hr => ?_)
  show zA l mX11_rod false 3 0 0 (fun v' S' w' => S' = (ZZ t dr tx) ∧ ((((2 ≤ n ∧ n ≤ 14) ∧ (0 ≤ g ∧ g ≤ 99) ∧ (0 ≤ b ∧ b ≤ 99) ∧ g ≠ b) ∧ v' = some (zI 1) ∧ (∀ c x, c ≠ 35 → (c ≠ 34 ∨ (x ≠ 4 ∧ x ≠ 5 ∧ x ≠ 6 ∧ x ≠ 7 ∧ x ≠ 8 ∧ x ≠ 9)) → w' c x = w c x) ∧ w' 34 8 = 1 ∧ w' 34 4 = n ∧ w' 34 5 = g ∧ w' 34 6 = b ∧ w' 34 7 = 0 ∧ lOk (fun _ => true) (w' 35) (w' 34 9) ((2 ^ n.toNat : Nat) : Int)) ∨ (¬ ((2 ≤ n ∧ n ≤ 14) ∧ (0 ≤ g ∧ g ≤ 99) ∧ (0 ≤ b ∧ b ≤ 99) ∧ g ≠ b) ∧ v' = some (zI 0) ∧ w' = w))) zNo 0 [zR 0, zI n, zI g, zI b] [] (ZZ t dr tx) w
  refine zA_iconst dX11_rod_0 ?_
  refine zA_iload_n dX11_rod_1 rfl ?_
  refine zA_bipush dX11_rod_2 rfl ?_
  refine zA_cS (st := []) dX11_rod_4 sX11_between kX11_213 (s_between (w := w) (a := 2) (b := n) (e := 14) ⟨by decide, by decide⟩ (by first | assumption | exact hr _ _ | exact inR_mk (by omega) (by omega)) ⟨by decide, by decide⟩) (by decide) rfl rfl (Nat.le_of_ble_eq_true rfl) (zRt_el ?_)
  show zA l mX11_rod false 3 0 0 (fun v' S' w' => S' = (ZZ t dr tx) ∧ ((((2 ≤ n ∧ n ≤ 14) ∧ (0 ≤ g ∧ g ≤ 99) ∧ (0 ≤ b ∧ b ≤ 99) ∧ g ≠ b) ∧ v' = some (zI 1) ∧ (∀ c x, c ≠ 35 → (c ≠ 34 ∨ (x ≠ 4 ∧ x ≠ 5 ∧ x ≠ 6 ∧ x ≠ 7 ∧ x ≠ 8 ∧ x ≠ 9)) → w' c x = w c x) ∧ w' 34 8 = 1 ∧ w' 34 4 = n ∧ w' 34 5 = g ∧ w' 34 6 = b ∧ w' 34 7 = 0 ∧ lOk (fun _ => true) (w' 35) (w' 34 9) ((2 ^ n.toNat : Nat) : Int)) ∨ (¬ ((2 ≤ n ∧ n ≤ 14) ∧ (0 ≤ g ∧ g ≤ 99) ∧ (0 ≤ b ∧ b ≤ 99) ∧ g ≠ b) ∧ v' = some (zI 0) ∧ w' = w))) zNo 7 [zR 0, zI n, zI g, zI b] [zI (if 2 ≤ n ∧ n ≤ 14 then 1 else 0)] (ZZ t dr tx) w
  refine zA_if_eq (tgt := 35) dX11_rod_7 (by decide) (inR_ite _) (fun c7 => ?_) (fun c7 => ?_)
  · skip
    replace c7 := zite_eq c7
    refine zA_iconst dX11_rod_35 ?_
    refine zA_zret dX11_rod_36 rfl (Or.inl rfl) ?_
    exact ⟨rfl, Or.inr ⟨by omega, rfl, rfl⟩⟩
  · skip
    replace c7 := zite_ne c7
    refine zA_iconst dX11_rod_10 ?_
    refine zA_iload_n dX11_rod_11 rfl ?_
    refine zA_bipush dX11_rod_12 rfl ?_
    refine zA_cS (st := []) dX11_rod_14 sX11_between kX11_213 (s_between (w := w) (a := 0) (b := g) (e := 99) ⟨by decide, by decide⟩ (by first | assumption | exact hr _ _ | exact inR_mk (by omega) (by omega)) ⟨by decide, by decide⟩) (by decide) rfl rfl (Nat.le_of_ble_eq_true rfl) (zRt_el ?_)
    show zA l mX11_rod false 3 0 0 (fun v' S' w' => S' = (ZZ t dr tx) ∧ ((((2 ≤ n ∧ n ≤ 14) ∧ (0 ≤ g ∧ g ≤ 99) ∧ (0 ≤ b ∧ b ≤ 99) ∧ g ≠ b) ∧ v' = some (zI 1) ∧ (∀ c x, c ≠ 35 → (c ≠ 34 ∨ (x ≠ 4 ∧ x ≠ 5 ∧ x ≠ 6 ∧ x ≠ 7 ∧ x ≠ 8 ∧ x ≠ 9)) → w' c x = w c x) ∧ w' 34 8 = 1 ∧ w' 34 4 = n ∧ w' 34 5 = g ∧ w' 34 6 = b ∧ w' 34 7 = 0 ∧ lOk (fun _ => true) (w' 35) (w' 34 9) ((2 ^ n.toNat : Nat) : Int)) ∨ (¬ ((2 ≤ n ∧ n ≤ 14) ∧ (0 ≤ g ∧ g ≤ 99) ∧ (0 ≤ b ∧ b ≤ 99) ∧ g ≠ b) ∧ v' = some (zI 0) ∧ w' = w))) zNo 17 [zR 0, zI n, zI g, zI b] [zI (if 0 ≤ g ∧ g ≤ 99 then 1 else 0)] (ZZ t dr tx) w
    refine zA_if_eq (tgt := 35) dX11_rod_17 (by decide) (inR_ite _) (fun c17 => ?_) (fun c17 => ?_)
    · skip
      replace c17 := zite_eq c17
      refine zA_iconst dX11_rod_35 ?_
      refine zA_zret dX11_rod_36 rfl (Or.inl rfl) ?_
      exact ⟨rfl, Or.inr ⟨by omega, rfl, rfl⟩⟩
    · skip
      replace c17 := zite_ne c17
      refine zA_iconst dX11_rod_20 ?_
      refine zA_iload_n dX11_rod_21 rfl ?_
      refine zA_bipush dX11_rod_22 rfl ?_
      refine zA_cS (st := []) dX11_rod_24 sX11_between kX11_213 (s_between (w := w) (a := 0) (b := b) (e := 99) ⟨by decide, by decide⟩ (by first | assumption | exact hr _ _ | exact inR_mk (by omega) (by omega)) ⟨by decide, by decide⟩) (by decide) rfl rfl (Nat.le_of_ble_eq_true rfl) (zRt_el ?_)
      show zA l mX11_rod false 3 0 0 (fun v' S' w' => S' = (ZZ t dr tx) ∧ ((((2 ≤ n ∧ n ≤ 14) ∧ (0 ≤ g ∧ g ≤ 99) ∧ (0 ≤ b ∧ b ≤ 99) ∧ g ≠ b) ∧ v' = some (zI 1) ∧ (∀ c x, c ≠ 35 → (c ≠ 34 ∨ (x ≠ 4 ∧ x ≠ 5 ∧ x ≠ 6 ∧ x ≠ 7 ∧ x ≠ 8 ∧ x ≠ 9)) → w' c x = w c x) ∧ w' 34 8 = 1 ∧ w' 34 4 = n ∧ w' 34 5 = g ∧ w' 34 6 = b ∧ w' 34 7 = 0 ∧ lOk (fun _ => true) (w' 35) (w' 34 9) ((2 ^ n.toNat : Nat) : Int)) ∨ (¬ ((2 ≤ n ∧ n ≤ 14) ∧ (0 ≤ g ∧ g ≤ 99) ∧ (0 ≤ b ∧ b ≤ 99) ∧ g ≠ b) ∧ v' = some (zI 0) ∧ w' = w))) zNo 27 [zR 0, zI n, zI g, zI b] [zI (if 0 ≤ b ∧ b ≤ 99 then 1 else 0)] (ZZ t dr tx) w
      refine zA_if_eq (tgt := 35) dX11_rod_27 (by decide) (inR_ite _) (fun c27 => ?_) (fun c27 => ?_)
      · skip
        replace c27 := zite_eq c27
        refine zA_iconst dX11_rod_35 ?_
        refine zA_zret dX11_rod_36 rfl (Or.inl rfl) ?_
        exact ⟨rfl, Or.inr ⟨by omega, rfl, rfl⟩⟩
      · skip
        replace c27 := zite_ne c27
        refine zA_iload_n dX11_rod_30 rfl ?_
        refine zA_iload_n dX11_rod_31 rfl ?_
        refine zA_icmp_ne (tgt := 37) dX11_rod_32 (by decide) (by first | assumption | exact hr _ _ | exact inR_mk (by omega) (by omega)) (by first | assumption | exact hr _ _ | exact inR_mk (by omega) (by omega)) (fun c32 => ?_) (fun c32 => ?_)
        · skip
          refine zA_aload_n dX11_rod_37 rfl ?_
          refine zA_getR (n := 34) dX11_rod_38 fX11_57 c0 rfl ?_
          refine zA_iconst dX11_rod_41 ?_
          refine zA_iload_n dX11_rod_42 rfl ?_
          refine zA_iload_n dX11_rod_43 rfl ?_
          refine zA_iload_n dX11_rod_44 rfl ?_
          refine zA_cV (st := []) dX11_rod_45 vX9_begin kX11_261 (s_begin (w := w) (kd := 1) (n := n) (g := g) (b := b) (by decide) (by decide) (by omega) (by omega) (by omega) (by omega) (by omega) (by omega)) (by decide) c34 rfl rfl (Nat.le_of_ble_eq_true rfl) rfl (fun q_1_v q_1_S q_1_w q_1 => ?_)
          obtain ⟨rfl, rfl, hbg⟩ := q_1
          refine zA_range (fun hr => ?_)
          show zA l mX11_rod false 3 0 0 (fun v' S' w' => S' = (ZZ t dr tx) ∧ ((((2 ≤ n ∧ n ≤ 14) ∧ (0 ≤ g ∧ g ≤ 99) ∧ (0 ≤ b ∧ b ≤ 99) ∧ g ≠ b) ∧ v' = some (zI 1) ∧ (∀ c x, c ≠ 35 → (c ≠ 34 ∨ (x ≠ 4 ∧ x ≠ 5 ∧ x ≠ 6 ∧ x ≠ 7 ∧ x ≠ 8 ∧ x ≠ 9)) → w' c x = w c x) ∧ w' 34 8 = 1 ∧ w' 34 4 = n ∧ w' 34 5 = g ∧ w' 34 6 = b ∧ w' 34 7 = 0 ∧ lOk (fun _ => true) (w' 35) (w' 34 9) ((2 ^ n.toNat : Nat) : Int)) ∨ (¬ ((2 ≤ n ∧ n ≤ 14) ∧ (0 ≤ g ∧ g ≤ 99) ∧ (0 ≤ b ∧ b ≤ 99) ∧ g ≠ b) ∧ v' = some (zI 0) ∧ w' = w))) zNo 48 [zR 0, zI n, zI g, zI b] [] (ZZ t dr tx) q_1_w
          refine zA_iconst dX11_rod_48 ?_
          refine zA_zret dX11_rod_49 rfl (Or.inr rfl) ?_
          exact ⟨rfl, Or.inl ⟨by omega, rfl, hbg⟩⟩
        · skip
          refine zA_iconst dX11_rod_35 ?_
          refine zA_zret dX11_rod_36 rfl (Or.inl rfl) ?_
          exact ⟨rfl, Or.inr ⟨by omega, rfl, rfl⟩⟩

set_option maxRecDepth 100000 in
set_option maxHeartbeats 4000000 in
theorem s_wall {l : Launch} {t dr tx : Nat} {w : zW} {n : Int} (hn : inR n) : zSp l mX11_wall false 3 0 0 [zR 0, zI n] (ZZ t dr tx) w (fun v' S' w' => S' = (ZZ t dr tx) ∧ (((2 ≤ n ∧ n ≤ 14) ∧ v' = some (zI 1) ∧ (∀ c x, c ≠ 35 → (c ≠ 34 ∨ (x ≠ 4 ∧ x ≠ 5 ∧ x ≠ 6 ∧ x ≠ 7 ∧ x ≠ 8 ∧ x ≠ 9)) → w' c x = w c x) ∧ w' 34 8 = 2 ∧ w' 34 4 = n ∧ w' 34 5 = 0 ∧ w' 34 6 = 1 ∧ w' 34 7 = 0 ∧ lOk (fun _ => true) (w' 35) (w' 34 9) ((2 ^ n.toNat : Nat) : Int)) ∨ (¬ (2 ≤ n ∧ n ≤ 14) ∧ v' = some (zI 0) ∧ w' = w))) zNo := by
  refine zA_intro ⟨plainFor_of_name (by decide +kernel), Or.inl (by decide +kernel)⟩ rfl (Nat.le_of_ble_eq_true rfl) ?_
  refine zA_range (fun hr => ?_)
  show zA l mX11_wall false 3 0 0 (fun v' S' w' => S' = (ZZ t dr tx) ∧ (((2 ≤ n ∧ n ≤ 14) ∧ v' = some (zI 1) ∧ (∀ c x, c ≠ 35 → (c ≠ 34 ∨ (x ≠ 4 ∧ x ≠ 5 ∧ x ≠ 6 ∧ x ≠ 7 ∧ x ≠ 8 ∧ x ≠ 9)) → w' c x = w c x) ∧ w' 34 8 = 2 ∧ w' 34 4 = n ∧ w' 34 5 = 0 ∧ w' 34 6 = 1 ∧ w' 34 7 = 0 ∧ lOk (fun _ => true) (w' 35) (w' 34 9) ((2 ^ n.toNat : Nat) : Int)) ∨ (¬ (2 ≤ n ∧ n ≤ 14) ∧ v' = some (zI 0) ∧ w' = w))) zNo 0 [zR 0, zI n] [] (ZZ t dr tx) w
  refine zA_iconst dX11_wall_0 ?_
  refine zA_iload_n dX11_wall_1 rfl ?_
  refine zA_bipush dX11_wall_2 rfl ?_
  refine zA_cS (st := []) dX11_wall_4 sX11_between kX11_213 (s_between (w := w) (a := 2) (b := n) (e := 14) ⟨by decide, by decide⟩ (by first | assumption | exact hr _ _ | exact inR_mk (by omega) (by omega)) ⟨by decide, by decide⟩) (by decide) rfl rfl (Nat.le_of_ble_eq_true rfl) (zRt_el ?_)
  show zA l mX11_wall false 3 0 0 (fun v' S' w' => S' = (ZZ t dr tx) ∧ (((2 ≤ n ∧ n ≤ 14) ∧ v' = some (zI 1) ∧ (∀ c x, c ≠ 35 → (c ≠ 34 ∨ (x ≠ 4 ∧ x ≠ 5 ∧ x ≠ 6 ∧ x ≠ 7 ∧ x ≠ 8 ∧ x ≠ 9)) → w' c x = w c x) ∧ w' 34 8 = 2 ∧ w' 34 4 = n ∧ w' 34 5 = 0 ∧ w' 34 6 = 1 ∧ w' 34 7 = 0 ∧ lOk (fun _ => true) (w' 35) (w' 34 9) ((2 ^ n.toNat : Nat) : Int)) ∨ (¬ (2 ≤ n ∧ n ≤ 14) ∧ v' = some (zI 0) ∧ w' = w))) zNo 7 [zR 0, zI n] [zI (if 2 ≤ n ∧ n ≤ 14 then 1 else 0)] (ZZ t dr tx) w
  refine zA_if_ne (tgt := 12) dX11_wall_7 (by decide) (inR_ite _) (fun c7 => ?_) (fun c7 => ?_)
  · skip
    replace c7 := zite_ne c7
    refine zA_aload_n dX11_wall_12 rfl ?_
    refine zA_getR (n := 34) dX11_wall_13 fX11_57 c0 rfl ?_
    refine zA_iconst dX11_wall_16 ?_
    refine zA_iload_n dX11_wall_17 rfl ?_
    refine zA_iconst dX11_wall_18 ?_
    refine zA_iconst dX11_wall_19 ?_
    refine zA_cV (st := []) dX11_wall_20 vX9_begin kX11_261 (s_begin (w := w) (kd := 2) (n := n) (g := 0) (b := 1) (by decide) (by decide) (by omega) (by omega) (by decide) (by decide) (by decide) (by decide)) (by decide) c34 rfl rfl (Nat.le_of_ble_eq_true rfl) rfl (fun q_1_v q_1_S q_1_w q_1 => ?_)
    obtain ⟨rfl, rfl, hbg⟩ := q_1
    refine zA_range (fun hr => ?_)
    show zA l mX11_wall false 3 0 0 (fun v' S' w' => S' = (ZZ t dr tx) ∧ (((2 ≤ n ∧ n ≤ 14) ∧ v' = some (zI 1) ∧ (∀ c x, c ≠ 35 → (c ≠ 34 ∨ (x ≠ 4 ∧ x ≠ 5 ∧ x ≠ 6 ∧ x ≠ 7 ∧ x ≠ 8 ∧ x ≠ 9)) → w' c x = w c x) ∧ w' 34 8 = 2 ∧ w' 34 4 = n ∧ w' 34 5 = 0 ∧ w' 34 6 = 1 ∧ w' 34 7 = 0 ∧ lOk (fun _ => true) (w' 35) (w' 34 9) ((2 ^ n.toNat : Nat) : Int)) ∨ (¬ (2 ≤ n ∧ n ≤ 14) ∧ v' = some (zI 0) ∧ w' = w))) zNo 23 [zR 0, zI n] [] (ZZ t dr tx) q_1_w
    refine zA_iconst dX11_wall_23 ?_
    refine zA_zret dX11_wall_24 rfl (Or.inr rfl) ?_
    exact ⟨rfl, Or.inl ⟨by omega, rfl, hbg⟩⟩
  · skip
    replace c7 := zite_eq c7
    refine zA_iconst dX11_wall_10 ?_
    refine zA_zret dX11_wall_11 rfl (Or.inl rfl) ?_
    exact ⟨rfl, Or.inr ⟨by omega, rfl, rfl⟩⟩

set_option maxRecDepth 100000 in
set_option maxHeartbeats 4000000 in
theorem s_tell {l : Launch} {t dr tx : Nat} {w : zW} {i j s : Int} (hi : inR i) (hj : inR j) (hs : inR s) {fit : Int → Bool} (hT : w 34 8 ≠ 0 → ((2 ≤ w 34 4 ∧ w 34 4 ≤ 14) ∧ (0 ≤ w 34 5 ∧ w 34 5 ≤ 99) ∧ 0 ≤ w 34 6 ∧ w 34 6 ≤ 99) ∧ lOk fit (w 35) (w 34 9) ((2 ^ (w 34 4).toNat : Nat) : Int)) : zSp l mX11_tell false 4 1 6 [zR 0, zI i, zI j, zI s] (ZZ t dr tx) w (fun v' S' w' => S' = (ZZ t dr tx) ∧ ((w 34 8 = 0 ∧ v' = some (zI (-1)) ∧ w' = w) ∨ (w 34 8 ≠ 0 ∧ tOk (w 34 8) (w 34 4) i j ∧ v' = some (zI (w' 34 9)) ∧ (∀ c x, c ≠ 35 → (c ≠ 34 ∨ (x ≠ 7 ∧ x ≠ 9)) → w' c x = w c x) ∧ w' 34 7 = 0 ∧ lOk (fun x => fit x && decide (tAn (w 34 8) (w 34 5) (w 34 6) x i j = s)) (w' 35) (w' 34 9) ((2 ^ (w 34 4).toNat : Nat) : Int)))) (zXp (False) (w 34 8 ≠ 0 ∧ ¬ tOk (w 34 8) (w 34 4) i j) (ZZ t dr tx) w) := by
  refine zA_intro ⟨plainFor_of_name (by decide +kernel), Or.inl (by decide +kernel)⟩ rfl (Nat.le_of_ble_eq_true rfl) ?_
  refine zA_range (fun hr => ?_)
  show zA l mX11_tell false 4 1 6 (fun v' S' w' => S' = (ZZ t dr tx) ∧ ((w 34 8 = 0 ∧ v' = some (zI (-1)) ∧ w' = w) ∨ (w 34 8 ≠ 0 ∧ tOk (w 34 8) (w 34 4) i j ∧ v' = some (zI (w' 34 9)) ∧ (∀ c x, c ≠ 35 → (c ≠ 34 ∨ (x ≠ 7 ∧ x ≠ 9)) → w' c x = w c x) ∧ w' 34 7 = 0 ∧ lOk (fun x => fit x && decide (tAn (w 34 8) (w 34 5) (w 34 6) x i j = s)) (w' 35) (w' 34 9) ((2 ^ (w 34 4).toNat : Nat) : Int)))) (zXp (False) (w 34 8 ≠ 0 ∧ ¬ tOk (w 34 8) (w 34 4) i j) (ZZ t dr tx) w) 0 [zR 0, zI i, zI j, zI s] [] (ZZ t dr tx) w
  refine zA_aload_n dX11_tell_0 rfl ?_
  refine zA_getR (n := 34) dX11_tell_1 fX11_57 c0 rfl ?_
  refine zA_getI dX11_tell_4 fX11_264 c34 rfl ?_
  refine zA_valI (w 34 8) rfl ?_
  refine zA_if_ne (tgt := 12) dX11_tell_7 (by decide) (by first | assumption | exact hr _ _ | exact inR_mk (by omega) (by omega)) (fun c7 => ?_) (fun c7 => ?_)
  · skip
    obtain ⟨⟨⟨p0, p1⟩, ⟨g0, g1⟩, b0, b1⟩, hl⟩ := hT c7
    refine zA_aload_n dX11_tell_12 rfl ?_
    refine zA_getR (n := 34) dX11_tell_13 fX11_57 c0 rfl ?_
    refine zA_iload_n dX11_tell_16 rfl ?_
    refine zA_iload_n dX11_tell_17 rfl ?_
    refine zA_cV (st := []) dX11_tell_18 vX9_canAsk kX11_267 (s_canAsk (w := w) (i := i) (j := j) hi hj) (by decide) c34 rfl rfl (Nat.le_of_ble_eq_true rfl) rfl (zRp1_el (fun ca hca => ?_))
    have hcar := isB_R hca
    refine zA_if_ne (tgt := 35) dX11_tell_21 (by decide) (by first | assumption | exact hr _ _ | exact inR_mk (by omega) (by omega)) (fun c21 => ?_) (fun c21 => ?_)
    · skip
      refine zA_aload_n dX11_tell_35 rfl ?_
      refine zA_getR (n := 34) dX11_tell_36 fX11_57 c0 rfl ?_
      refine zA_iload_n dX11_tell_39 rfl ?_
      refine zA_iload_n dX11_tell_40 rfl ?_
      refine zA_iload_n dX11_tell_41 rfl ?_
      refine zA_cV (st := []) dX11_tell_42 vX9_keepFitting kX11_273 (s_keepFitting (w := w) (i := i) (j := j) (s := s) p0 p1 g0 g1 b0 b1 (isB_ne hca c21) hj hs hl) (by decide) c34 rfl rfl (Nat.le_of_ble_eq_true rfl) rfl (fun q_1_v q_1_S q_1_w q_1 => ?_)
      obtain ⟨rfl, rfl, hk1, hk2, hk3⟩ := q_1
      refine zA_range (fun hr => ?_)
      show zA l mX11_tell false 4 1 6 (fun v' S' w' => S' = (ZZ t dr tx) ∧ ((w 34 8 = 0 ∧ v' = some (zI (-1)) ∧ w' = w) ∨ (w 34 8 ≠ 0 ∧ tOk (w 34 8) (w 34 4) i j ∧ v' = some (zI (w' 34 9)) ∧ (∀ c x, c ≠ 35 → (c ≠ 34 ∨ (x ≠ 7 ∧ x ≠ 9)) → w' c x = w c x) ∧ w' 34 7 = 0 ∧ lOk (fun x => fit x && decide (tAn (w 34 8) (w 34 5) (w 34 6) x i j = s)) (w' 35) (w' 34 9) ((2 ^ (w 34 4).toNat : Nat) : Int)))) (zXp (False) (w 34 8 ≠ 0 ∧ ¬ tOk (w 34 8) (w 34 4) i j) (ZZ t dr tx) w) 45 [zR 0, zI i, zI j, zI s] [] (ZZ t dr tx) q_1_w
      refine zA_aload_n dX11_tell_45 rfl ?_
      refine zA_getR (n := 34) dX11_tell_46 fX11_57 c0 rfl ?_
      refine zA_getI dX11_tell_49 fX11_277 c34 rfl ?_
      refine zA_valI (q_1_w 34 9) rfl ?_
      refine zA_iret dX11_tell_52 rfl ?_
      exact ⟨rfl, Or.inr ⟨c7, isB_ne hca c21, rfl, hk1, hk2, hk3⟩⟩
    · skip
      refine zA_throw (sa := 1110) (zIAE_w dX11_tell_24 dX11_tell_27 ⟨dX11_tell_28, dX11_tell_31, dX11_tell_34⟩) (List.mem_of_getElem? (i := 10) rfl) rfl rfl (Nat.le_of_ble_eq_true rfl) (by decide) ?_
      exact ⟨Or.inr ⟨rfl, c7, isB_eq hca c21⟩, rfl, rfl⟩
  · skip
    refine zA_iconst dX11_tell_10 ?_
    refine zA_iret dX11_tell_11 rfl ?_
    exact ⟨rfl, Or.inl ⟨by assumption, rfl, rfl⟩⟩

