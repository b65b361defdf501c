/-! what is out, in the reference -/
theorem zite_inj {P R : Prop} [hp : Decidable P] [hr : Decidable R] (h : (if P then (1 : Int) else 0) = (if R then 1 else 0)) : P ↔ R := by
  by_cases a : P <;> by_cases b : R
  · exact ⟨fun _ => b, fun _ => a⟩
  · rw [if_pos a, if_neg b] at h; exact absurd h (by decide)
  · rw [if_neg a, if_pos b] at h; exact absurd h (by decide)
  · exact ⟨fun q => absurd q a, fun q => absurd q b⟩
theorem tb_iff {x y i : Int} (h : tb x i = true ↔ tb y i = true) : tb x i = tb y i := by
  cases a : tb x i <;> cases b : tb y i
  · rfl
  · rw [h.mpr b] at a; cases a
  · rw [h.mp a] at b; cases b
  · rfl
theorem ahead_tr {a b c : Int} (h : ahead a b) (k : ahead b c) : ahead a c := by
  obtain ⟨i, i0, i1, i2, i3⟩ := h
  obtain ⟨j, j0, j1, j2, j3⟩ := k
  rcases Int.lt_trichotomy i j with g | g | g
  · exact ⟨i, i0, i1, by rw [← j3 i i0.1 g]; exact i2, fun x x0 x1 => (i3 x x0 x1).trans (j3 x x0 (by omega))⟩
  · rw [g, j1] at i2; cases i2
  · exact ⟨j, j0, by rw [i3 j j0.1 g]; exact j1, j2, fun x x0 x1 => (i3 x x0 (by omega)).trans (j3 x x0 x1)⟩
theorem tb_hi12 {x j : Int} (h : x < 4096) (hj : 12 ≤ j) : tb x j = false := tb_hi (k := 12) (by rw [show (2 : Int) ^ 12 = 4096 by decide]; exact h) (by omega)
theorem ahead_tot {a b : Int} (a0 : 0 ≤ a) (a1 : a < 4096) (b0 : 0 ≤ b) (b1 : b < 4096) (hn : a ≠ b) : ahead a b ∨ ahead b a := by
  have key : ∀ k : Nat, k ≤ 12 → (∀ j : Int, 0 ≤ j → j < k → tb a j = tb b j) ∨ ahead a b ∨ ahead b a := by
    intro k
    induction k with
    | zero => intro _; exact Or.inl (fun j x y => by omega)
    | succ k ih =>
      intro hk
      rcases ih (by omega) with h | h
      · by_cases e : tb a k = tb b k
        · refine Or.inl (fun j x y => ?_)
          by_cases hj : j = k
          · rw [hj]; exact e
          · exact h j x (by omega)
        · cases ta : tb a k with
          | true => exact Or.inr (Or.inl ⟨k, by omega, ta, by rw [ta] at e; simpa using e, h⟩)
          | false => exact Or.inr (Or.inr ⟨k, by omega, by rw [ta] at e; simpa using e, ta, fun j x y => (h j x y).symm⟩)
      · exact Or.inr h
  rcases key 12 (Nat.le_refl _) with h | h
  · refine absurd (tb_ext a0 b0 (fun j j0 => ?_)) hn
    by_cases hj : j < 12
    · exact h j j0 hj
    · rw [tb_hi12 a1 (by omega), tb_hi12 b1 (by omega)]
  · exact h
def bst (n : Nat) (wt vl : Int → Int) (B best most set : Int) : Prop := (set = 0 ∧ best = 0 ∧ most = -1) ∨ ((0 ≤ best ∧ best < set) ∧ sOf wt best n ≤ B ∧ most = sOf vl best n ∧ ∀ S : Int, 0 ≤ S → S < set → sOf wt S n ≤ B → S ≠ best → sOf vl S n < sOf vl best n ∨ (sOf vl S n = sOf vl best n ∧ ahead best S))
theorem sOf_0 {f : Int → Int} {n : Nat} : sOf f 0 n = 0 := zsum0 n (fun k _ => by rw [tb_0]; rfl)
theorem sOf_nn {f : Int → Int} {S : Int} {n : Nat} (h : ∀ j : Int, 0 ≤ j → j < n → 0 ≤ f j) : 0 ≤ sOf f S n := zsum_b0 n (fun k hk => by have := h k (by omega) (by omega); split <;> omega)
theorem bst_skip {n : Nat} {wt vl : Int → Int} {B best most set : Int} (hB : 0 ≤ B) (hv : ∀ j : Int, 0 ≤ j → j < n → 0 ≤ vl j) (s0 : 0 ≤ set) (s1 : set < 4096) (h : bst n wt vl B best most set) (k : B < sOf wt set n ∨ sOf vl set n < most ∨ (sOf vl set n = most ∧ ¬ ahead set best)) : bst n wt vl B best most (set + 1) := by
  have hn := sOf_nn (f := vl) (S := set) hv
  rcases h with ⟨a, b, c⟩ | ⟨a, b, c, d⟩
  · exfalso
    subst a
    rw [sOf_0] at k
    omega
  · refine Or.inr ⟨by omega, b, c, fun S t0 t1 t2 t3 => ?_⟩
    by_cases e : S = set
    · subst e
      rcases k with k | k | ⟨k, k2⟩
      · omega
      · exact Or.inl (by omega)
      · exact Or.inr ⟨by omega, (ahead_tot t0 s1 a.1 (by omega) t3).resolve_left k2⟩
    · exact d S t0 (by omega) t2 t3
theorem bst_take {n : Nat} {wt vl : Int → Int} {B best most set : Int} (s0 : 0 ≤ set) (h : bst n wt vl B best most set) (k : sOf wt set n ≤ B) (k2 : most < sOf vl set n ∨ (sOf vl set n = most ∧ ahead set best)) : bst n wt vl B set (sOf vl set n) (set + 1) := by
  refine Or.inr ⟨by omega, k, rfl, fun S t0 t1 t2 t3 => ?_⟩
  rcases h with ⟨a, b, c⟩ | ⟨a, b, c, d⟩
  · omega
  · by_cases e : S = best
    · subst e
      rcases k2 with k2 | ⟨k2, k3⟩
      · exact Or.inl (by omega)
      · exact Or.inr ⟨by omega, k3⟩
    · rcases d S t0 (by omega) t2 e with g | ⟨g, g2⟩
      · exact Or.inl (by omega)
      · rcases k2 with k2 | ⟨k2, k3⟩
        · exact Or.inl (by omega)
        · exact Or.inr ⟨by omega, ahead_tr k3 g2⟩
theorem bst_end {n : Nat} {wt vl : Int → Int} {B best most : Int} (h : bst n wt vl B best most ((2 ^ n : Nat) : Int)) : isOut n wt vl B best := by
  have hp : 0 < 2 ^ n := Nat.pow_pos (by decide)
  rcases h with ⟨a, b, c⟩ | ⟨a, b, c, d⟩
  · omega
  · exact ⟨a, b, d⟩
theorem pow12 {m : Int} (h0 : 0 ≤ m) (h : m ≤ 12) : 1 ≤ ((2 ^ m.toNat : Nat) : Int) ∧ ((2 ^ m.toNat : Nat) : Int) ≤ 4096 := by
  have h1 : 0 < 2 ^ m.toNat := Nat.pow_pos (by decide)
  have h2 : 2 ^ m.toNat ≤ 2 ^ 12 := Nat.pow_le_pow_right (by decide) (by omega)
  omega
set_option maxRecDepth 100000 in
set_option maxHeartbeats 4000000 in
theorem m_isAhead {l : Launch} {t dr tx : Nat} {w : zW} {a b : Int} (a0 : 0 ≤ a) (a1 : a < 4096) (b0 : 0 ≤ b) (b1 : b < 4096) : zSp l mX12_isAhead false 1 0 0 [zR 73, zI a, zI b] (ZZ t dr tx) w (zRp1 (isB (ahead a b)) (ZZ t dr tx) w) zNo := by
  refine zA_intro ⟨plainFor_of_name (by decide +kernel), Or.inl (by decide +kernel)⟩ rfl (Nat.le_of_ble_eq_true rfl) ?_
  refine zA_range (fun hr => ?_)
  show zA l mX12_isAhead false 1 0 0 (zRp1 (isB (ahead a b)) (ZZ t dr tx) w) zNo 0 [zR 73, zI a, zI b, .null] [] (ZZ t dr tx) w
  refine zA_iconst dX12_isAhead_0 ?_
  refine zA_istore_n (lo1 := [zR 73, zI a, zI b, zI 0]) dX12_isAhead_1 (by decide) rfl rfl ?_
  have L2 : ∀ (z2 : Nat) (c : Int) (c0 : 0 ≤ c) (c1 : c ≤ 12) (hc : ∀ j : Int, 0 ≤ j → j < c → tb a j = tb b j) (zm : (12 - c).toNat < z2), zA l mX12_isAhead false 1 0 0 (zRp1 (isB (ahead a b)) (ZZ t dr tx) w) zNo 2 [zR 73, zI a, zI b, zI c] [] (ZZ t dr tx) w := by
    intro z2
    induction z2 with
    | zero => intro c c0 c1 hc zm; exact absurd zm (Nat.not_lt_zero _)
    | succ z2 ih2 =>
      intro c c0 c1 hc zm
      refine zA_iload_n dX12_isAhead_2 rfl ?_
      refine zA_bipush dX12_isAhead_3 rfl ?_
      refine zA_icmp_ge (tgt := 42) dX12_isAhead_5 (by decide) (by first | assumption | exact hr _ _ | exact inR_mk (by omega) (by omega)) ⟨by decide, by decide⟩ (fun c5 => ?_) (fun c5 => ?_)
      · skip
        refine zA_iconst dX12_isAhead_42 ?_
        refine zA_zret dX12_isAhead_43 rfl (Or.inl rfl) ?_
        exact ⟨⟨_, rfl, Or.inr ⟨rfl, fun ⟨j, j0, j1, j2, j3⟩ => by rw [hc j j0.1 (by omega), j2] at j1; cases j1⟩⟩, rfl, rfl⟩
      · skip
        refine zA_iload_n dX12_isAhead_8 rfl ?_
        refine zA_iload_n dX12_isAhead_9 rfl ?_
        refine zA_ishr dX12_isAhead_10 ?_
        refine zA_iconst dX12_isAhead_11 ?_
        refine zA_iand dX12_isAhead_12 ?_
        refine zA_valI (if tb a c = true then 1 else 0) (tb_get a0 (by omega) c0 (by omega)) ?_
        refine zA_iload_n dX12_isAhead_13 rfl ?_
        refine zA_iload_n dX12_isAhead_14 rfl ?_
        refine zA_ishr dX12_isAhead_15 ?_
        refine zA_iconst dX12_isAhead_16 ?_
        refine zA_iand dX12_isAhead_17 ?_
        refine zA_valI (if tb b c = true then 1 else 0) (tb_get b0 (by omega) c0 (by omega)) ?_
        refine zA_icmp_eq (tgt := 36) dX12_isAhead_18 (by decide) (inR_ite _) (inR_ite _) (fun c18 => ?_) (fun c18 => ?_)
        · skip
          refine zA_iinc (lo1 := [zR 73, zI a, zI b, zI (c + 1)]) dX12_isAhead_36 rfl (by decide) rfl rfl ?_
          refine zA_goto (tgt := 2) dX12_isAhead_39 (by decide) ?_
          exact ih2 (c + 1) (by omega) (by omega) (fun j x y => by
                      by_cases hj : j = c
                      · rw [hj]; exact tb_iff (zite_inj c18)
                      · exact hc j x (by omega)) (by omega)
        · skip
          refine zA_iload_n dX12_isAhead_21 rfl ?_
          refine zA_iload_n dX12_isAhead_22 rfl ?_
          refine zA_ishr dX12_isAhead_23 ?_
          refine zA_iconst dX12_isAhead_24 ?_
          refine zA_iand dX12_isAhead_25 ?_
          refine zA_valI (if tb a c = true then 1 else 0) (tb_get a0 (by omega) c0 (by omega)) ?_
          refine zA_iconst dX12_isAhead_26 ?_
          refine zA_icmp_ne (tgt := 34) dX12_isAhead_27 (by decide) (inR_ite _) ⟨by decide, by decide⟩ (fun c27 => ?_) (fun c27 => ?_)
          · skip
            refine zA_iconst dX12_isAhead_34 ?_
            refine zA_zret dX12_isAhead_35 rfl (Or.inl rfl) ?_
            have ta : tb a c = false := by
              cases h : tb a c with
              | false => rfl
              | true => rw [if_pos h] at c27; exact absurd rfl c27
            have tb2 : tb b c = true := by
              cases h : tb b c with
              | true => rfl
              | false => rw [ta, h] at c18; exact absurd rfl c18
            exact ⟨⟨_, rfl, Or.inr ⟨rfl, fun h => ahead_as h ⟨c, ⟨c0, by omega⟩, tb2, ta, fun j x y => (hc j x y).symm⟩⟩⟩, rfl, rfl⟩
          · skip
            refine zA_iconst dX12_isAhead_30 ?_
            refine zA_goto (tgt := 35) dX12_isAhead_31 (by decide) ?_
            refine zA_zret dX12_isAhead_35 rfl (Or.inr rfl) ?_
            have ta : tb a c = true := by
              by_cases h : tb a c = true
              · exact h
              · rw [if_neg h] at c27; exact absurd c27 (by decide)
            rw [if_pos ta] at c18
            exact ⟨⟨_, rfl, Or.inl ⟨rfl, c, ⟨c0, by omega⟩, ta, by
              cases tb2 : tb b c with
              | false => rfl
              | true => rw [if_pos tb2] at c18; exact absurd rfl c18, hc⟩⟩, rfl, rfl⟩
  exact L2 _ 0 (by omega) (by omega) (fun j x y => by omega) (Nat.lt_succ_self _)

set_option maxRecDepth 100000 in
set_option maxHeartbeats 4000000 in
theorem m_out {l : Launch} {t dr tx : Nat} {w : zW} {B q : Int} (hB : inR B) (hq : inR q) (hn0 : 0 ≤ w 75 0) (hn : w 75 0 ≤ 12) (hcc : ∀ c : Int, 0 ≤ c → c < w 75 0 → 1 ≤ w 79 c ∧ w 79 c ≤ 200) : zSp l mX12_out false 3 0 0 [zR 73, zI B, zI q] (ZZ t dr tx) w (zMr (¬ ((0 ≤ B ∧ B ≤ 200) ∧ 3 ≤ q ∧ q ≤ 99)) False (isOut (w 75 0).toNat (fun c => lad (w 79 c) q) (w 79) B) (ZZ t dr tx) w (up w 73 1 0)) zNo := by
  refine zA_intro ⟨plainFor_of_name (by decide +kernel), Or.inl (by decide +kernel)⟩ rfl (Nat.le_of_ble_eq_true rfl) ?_
  refine zA_range (fun hr => ?_)
  show zA l mX12_out false 3 0 0 (zMr (¬ ((0 ≤ B ∧ B ≤ 200) ∧ 3 ≤ q ∧ q ≤ 99)) False (isOut (w 75 0).toNat (fun c => lad (w 79 c) q) (w 79) B) (ZZ t dr tx) w (up w 73 1 0)) zNo 0 [zR 73, zI B, zI q, .null, .null, .null, .null, .null, .null] [] (ZZ t dr tx) w
  refine zA_aload_n dX12_out_0 rfl ?_
  refine zA_iconst dX12_out_1 ?_
  refine zA_putI dX12_out_2 fX12_182 c73 rfl ⟨by decide, by decide⟩ ⟨rfl, rfl⟩ ?_
  refine zA_namew (fun w_1 hw_1 => ?_)
  refine zA_range (fun hr => ?_)
  replace hw_1 : w_1 = up w 73 1 0 := hw_1
  have ef : ∀ cc i, cc ≠ 73 → w_1 cc i = w cc i := fun cc i h => by rw [hw_1, up_cell _ _ _ _ h]
  have e75 : w_1 75 0 = w 75 0 := ef 75 0 (by decide)
  have hpw := pow12 (m := w 75 0) hn0 hn
  refine zA_iload_n dX12_out_5 rfl ?_
  refine zA_iconst dX12_out_6 ?_
  refine zA_sipush dX12_out_7 rfl ?_
  refine zA_cS (st := []) dX12_out_10 sX12_isIn kX12_185 (m_isIn (w := w_1) (a := B) (b := 0) (e := 200) (by first | assumption | exact hr _ _ | exact inR_mk (by omega) (by omega)) ⟨by decide, by decide⟩ ⟨by decide, by decide⟩) (by decide) rfl rfl (Nat.le_of_ble_eq_true rfl) (zRt_el ?_)
  show zA l mX12_out false 3 0 0 (zMr (¬ ((0 ≤ B ∧ B ≤ 200) ∧ 3 ≤ q ∧ q ≤ 99)) False (isOut (w 75 0).toNat (fun c => lad (w 79 c) q) (w 79) B) (ZZ t dr tx) w (up w 73 1 0)) zNo 13 [zR 73, zI B, zI q, .null, .null, .null, .null, .null, .null] [zI (if 0 ≤ B ∧ B ≤ 200 then 1 else 0)] (ZZ t dr tx) w_1
  refine zA_if_eq (tgt := 26) dX12_out_13 (by decide) (inR_ite _) (fun c13 => ?_) (fun c13 => ?_)
  · skip
    replace c13 := zite_eq c13
    refine zA_aload_n dX12_out_26 rfl ?_
    refine zA_iconst dX12_out_27 ?_
    refine zA_cV (st := []) dX12_out_28 vX12_fail kX12_292 (m_fail (w := w_1) (k := 1) ⟨by decide, by decide⟩) (by decide) c73 rfl rfl (Nat.le_of_ble_eq_true rfl) rfl (zRt_el ?_)
    show zA l mX12_out false 3 0 0 (zMr (¬ ((0 ≤ B ∧ B ≤ 200) ∧ 3 ≤ q ∧ q ≤ 99)) False (isOut (w 75 0).toNat (fun c => lad (w 79 c) q) (w 79) B) (ZZ t dr tx) w (up w 73 1 0)) zNo 31 [zR 73, zI B, zI q, .null, .null, .null, .null, .null, .null] [zI 0] (ZZ t dr tx) (up w_1 73 1 1)
    refine zA_iret dX12_out_31 rfl ?_
    exact ⟨rfl, Or.inl ⟨by omega, rfl, by rw [hw_1, up_up]⟩⟩
  · skip
    replace c13 := zite_ne c13
    have b0 : 0 ≤ B := c13.1
    refine zA_iload_n dX12_out_16 rfl ?_
    refine zA_iconst dX12_out_17 ?_
    refine zA_bipush dX12_out_18 rfl ?_
    refine zA_cS (st := []) dX12_out_20 sX12_isIn kX12_185 (m_isIn (w := w_1) (a := q) (b := 3) (e := 99) (by first | assumption | exact hr _ _ | exact inR_mk (by omega) (by omega)) ⟨by decide, by decide⟩ ⟨by decide, by decide⟩) (by decide) rfl rfl (Nat.le_of_ble_eq_true rfl) (zRt_el ?_)
    show zA l mX12_out false 3 0 0 (zMr (¬ ((0 ≤ B ∧ B ≤ 200) ∧ 3 ≤ q ∧ q ≤ 99)) False (isOut (w 75 0).toNat (fun c => lad (w 79 c) q) (w 79) B) (ZZ t dr tx) w (up w 73 1 0)) zNo 23 [zR 73, zI B, zI q, .null, .null, .null, .null, .null, .null] [zI (if 3 ≤ q ∧ q ≤ 99 then 1 else 0)] (ZZ t dr tx) w_1
    refine zA_if_ne (tgt := 32) dX12_out_23 (by decide) (inR_ite _) (fun c23 => ?_) (fun c23 => ?_)
    · skip
      replace c23 := zite_ne c23
      have hvl : ∀ j : Int, 0 ≤ j → j < (w 75 0).toNat → 0 ≤ w 79 j := fun j a b => by have := hcc j a (by omega); omega
      refine zA_iconst dX12_out_32 ?_
      refine zA_istore_n (lo1 := [zR 73, zI B, zI q, zI 0, .null, .null, .null, .null, .null]) dX12_out_33 (by decide) rfl rfl ?_
      refine zA_iconst dX12_out_34 ?_
      refine zA_istore (lo1 := [zR 73, zI B, zI q, zI 0, zI (-1), .null, .null, .null, .null]) dX12_out_35 (by decide) rfl rfl ?_
      refine zA_iconst dX12_out_37 ?_
      refine zA_istore (lo1 := [zR 73, zI B, zI q, zI 0, zI (-1), zI 0, .null, .null, .null]) dX12_out_38 (by decide) rfl rfl ?_
      have L40 : ∀ (z40 : Nat) (bs ms s : Int) (s0 : 0 ≤ s) (s1 : s ≤ ((2 ^ (w 75 0).toNat : Nat) : Int)) (hbb : 0 ≤ bs ∧ bs < 4096) (hms : -1 ≤ ms ∧ ms ≤ 2400) (hb : bst (w 75 0).toNat (fun c => lad (w 79 c) q) (w 79) B bs ms s) (zm : (((2 ^ (w 75 0).toNat : Nat) : Int) - s).toNat < z40), zA l mX12_out false 3 0 0 (zMr (¬ ((0 ≤ B ∧ B ≤ 200) ∧ 3 ≤ q ∧ q ≤ 99)) False (isOut (w 75 0).toNat (fun c => lad (w 79 c) q) (w 79) B) (ZZ t dr tx) w (up w 73 1 0)) zNo 40 [zR 73, zI B, zI q, zI bs, zI ms, zI s, .null, .null, .null] [] (ZZ t dr tx) w_1 := by
        intro z40
        induction z40 with
        | zero => intro bs ms s s0 s1 hbb hms hb zm; exact absurd zm (Nat.not_lt_zero _)
        | succ z40 ih40 =>
          intro bs ms s s0 s1 hbb hms hb zm
          refine zA_iload dX12_out_40 rfl ?_
          refine zA_iconst dX12_out_42 ?_
          refine zA_aload_n dX12_out_43 rfl ?_
          refine zA_getR (n := 75) dX12_out_44 fX12_25 c73 rfl ?_
          refine zA_iconst dX12_out_47 ?_
          refine zA_iaload dX12_out_48 c75 (by first | assumption | omega) (by first | assumption | omega) (by decide) ?_
          refine zA_ishl dX12_out_49 ?_
          refine zA_valI ((2 ^ (w 75 0).toNat : Nat) : Int) (by rw [e75, iShl_1 (by omega) (by omega)]) ?_
          refine zA_icmp_ge (tgt := 166) dX12_out_50 (by decide) (by first | assumption | exact hr _ _ | exact inR_mk (by omega) (by omega)) (by first | assumption | exact hr _ _ | exact inR_mk (by omega) (by omega)) (fun c50 => ?_) (fun c50 => ?_)
          · skip
            refine zA_iload_n dX12_out_166 rfl ?_
            refine zA_iret dX12_out_167 rfl ?_
            exact ⟨rfl, Or.inr (Or.inr ⟨by omega, fun h => h, ⟨_, rfl, bst_end (by rw [show ((2 ^ (w 75 0).toNat : Nat) : Int) = s by omega]; exact hb)⟩, hw_1⟩)⟩
          · skip
            refine zA_iconst dX12_out_53 ?_
            refine zA_istore (lo1 := [zR 73, zI B, zI q, zI bs, zI ms, zI s, zI 0, .null, .null]) dX12_out_54 (by decide) rfl rfl ?_
            refine zA_iconst dX12_out_56 ?_
            refine zA_istore (lo1 := [zR 73, zI B, zI q, zI bs, zI ms, zI s, zI 0, zI 0, .null]) dX12_out_57 (by decide) rfl rfl ?_
            refine zA_iconst dX12_out_59 ?_
            refine zA_istore (lo1 := [zR 73, zI B, zI q, zI bs, zI ms, zI s, zI 0, zI 0, zI 0]) dX12_out_60 (by decide) rfl rfl ?_
            have L62 : ∀ (z62 : Nat) (nd sm c : Int) (c0 : 0 ≤ c) (c1 : c ≤ w 75 0) (hnd : nd = zsum c.toNat (fun j => if tb s j = true then lad (w 79 j) q else 0)) (hsm : sm = zsum c.toNat (fun j => if tb s j = true then w 79 j else 0)) (zm : (w 75 0 - c).toNat < z62), zA l mX12_out false 3 0 0 (zMr (¬ ((0 ≤ B ∧ B ≤ 200) ∧ 3 ≤ q ∧ q ≤ 99)) False (isOut (w 75 0).toNat (fun c => lad (w 79 c) q) (w 79) B) (ZZ t dr tx) w (up w 73 1 0)) zNo 62 [zR 73, zI B, zI q, zI bs, zI ms, zI s, zI nd, zI sm, zI c] [] (ZZ t dr tx) w_1 := by
              intro z62
              induction z62 with
              | zero => intro nd sm c c0 c1 hnd hsm zm; exact absurd zm (Nat.not_lt_zero _)
              | succ z62 ih62 =>
                intro nd sm c c0 c1 hnd hsm zm
                refine zA_iload dX12_out_62 rfl ?_
                refine zA_aload_n dX12_out_64 rfl ?_
                refine zA_getR (n := 75) dX12_out_65 fX12_25 c73 rfl ?_
                refine zA_iconst dX12_out_68 ?_
                refine zA_iaload dX12_out_69 c75 (by first | assumption | omega) (by first | assumption | omega) (by decide) ?_
                refine zA_icmp_ge (tgt := 120) dX12_out_70 (by decide) (by first | assumption | exact hr _ _ | exact inR_mk (by omega) (by omega)) (by first | assumption | exact hr _ _ | exact inR_mk (by omega) (by omega)) (fun c70 => ?_) (fun c70 => ?_)
                · skip
                  have zb1 := zsum_b (f := fun j : Nat => if tb s j = true then w 79 j else 0) (B := 200) c.toNat (fun k hk => by have := hcc k (by omega) (by omega); split <;> omega)
                  have zb2 := zsum_b (f := fun j : Nat => if tb s j = true then lad (w 79 j) q else 0) (B := 400) c.toNat (fun k hk => by have h1 := hcc k (by omega) (by omega); have := lad_b (q := q) h1.1 h1.2 (by omega); split <;> omega)
                  have hnd2 : nd = sOf (fun c => lad (w 79 c) q) s (w 75 0).toNat := by rw [hnd, show c = w 75 0 by omega]; rfl
                  have hsm2 : sm = sOf (w 79) s (w 75 0).toNat := by rw [hsm, show c = w 75 0 by omega]; rfl
                  refine zA_iload dX12_out_120 rfl ?_
                  refine zA_iload_n dX12_out_122 rfl ?_
                  refine zA_icmp_gt (tgt := 160) dX12_out_123 (by decide) (by first | assumption | exact hr _ _ | exact inR_mk (by omega) (by omega)) (by first | assumption | exact hr _ _ | exact inR_mk (by omega) (by omega)) (fun c123 => ?_) (fun c123 => ?_)
                  · skip
                    refine zA_iinc (lo1 := [zR 73, zI B, zI q, zI bs, zI ms, zI (s + 1), zI nd, zI sm, zI c]) dX12_out_160 rfl (by decide) rfl rfl ?_
                    refine zA_goto (tgt := 40) dX12_out_163 (by decide) ?_
                    refine zA_drop 6 (lo1 := [zR 73, zI B, zI q, zI bs, zI ms, zI (s + 1), .null, zI sm, zI c]) rfl ?_
                    refine zA_drop 7 (lo1 := [zR 73, zI B, zI q, zI bs, zI ms, zI (s + 1), .null, .null, zI c]) rfl ?_
                    refine zA_drop 8 (lo1 := [zR 73, zI B, zI q, zI bs, zI ms, zI (s + 1), .null, .null, .null]) rfl ?_
                    exact ih40 _ _ (s + 1) (by omega) (by omega) hbb (by omega) (bst_skip b0 hvl s0 (by omega) hb (by first | exact Or.inl (by omega) | exact Or.inr (Or.inl (by omega)) | exact Or.inr (Or.inr ⟨by omega, isB_eq hah c147⟩))) (by omega)
                  · skip
                    refine zA_iload dX12_out_126 rfl ?_
                    refine zA_iload dX12_out_128 rfl ?_
                    refine zA_icmp_lt (tgt := 160) dX12_out_130 (by decide) (by first | assumption | exact hr _ _ | exact inR_mk (by omega) (by omega)) (by first | assumption | exact hr _ _ | exact inR_mk (by omega) (by omega)) (fun c130 => ?_) (fun c130 => ?_)
                    · skip
                      refine zA_iinc (lo1 := [zR 73, zI B, zI q, zI bs, zI ms, zI (s + 1), zI nd, zI sm, zI c]) dX12_out_160 rfl (by decide) rfl rfl ?_
                      refine zA_goto (tgt := 40) dX12_out_163 (by decide) ?_
                      refine zA_drop 6 (lo1 := [zR 73, zI B, zI q, zI bs, zI ms, zI (s + 1), .null, zI sm, zI c]) rfl ?_
                      refine zA_drop 7 (lo1 := [zR 73, zI B, zI q, zI bs, zI ms, zI (s + 1), .null, .null, zI c]) rfl ?_
                      refine zA_drop 8 (lo1 := [zR 73, zI B, zI q, zI bs, zI ms, zI (s + 1), .null, .null, .null]) rfl ?_
                      exact ih40 _ _ (s + 1) (by omega) (by omega) hbb (by omega) (bst_skip b0 hvl s0 (by omega) hb (by first | exact Or.inl (by omega) | exact Or.inr (Or.inl (by omega)) | exact Or.inr (Or.inr ⟨by omega, isB_eq hah c147⟩))) (by omega)
                    · skip
                      refine zA_iload dX12_out_133 rfl ?_
                      refine zA_iload dX12_out_135 rfl ?_
                      refine zA_icmp_ne (tgt := 153) dX12_out_137 (by decide) (by first | assumption | exact hr _ _ | exact inR_mk (by omega) (by omega)) (by first | assumption | exact hr _ _ | exact inR_mk (by omega) (by omega)) (fun c137 => ?_) (fun c137 => ?_)
                      · skip
                        refine zA_iload dX12_out_153 rfl ?_
                        refine zA_istore_n (lo1 := [zR 73, zI B, zI q, zI s, zI ms, zI s, zI nd, zI sm, zI c]) dX12_out_155 (by decide) rfl rfl ?_
                        refine zA_iload dX12_out_156 rfl ?_
                        refine zA_istore (lo1 := [zR 73, zI B, zI q, zI s, zI sm, zI s, zI nd, zI sm, zI c]) dX12_out_158 (by decide) rfl rfl ?_
                        refine zA_iinc (lo1 := [zR 73, zI B, zI q, zI s, zI sm, zI (s + 1), zI nd, zI sm, zI c]) dX12_out_160 rfl (by decide) rfl rfl ?_
                        refine zA_goto (tgt := 40) dX12_out_163 (by decide) ?_
                        refine zA_drop 6 (lo1 := [zR 73, zI B, zI q, zI s, zI sm, zI (s + 1), .null, zI sm, zI c]) rfl ?_
                        refine zA_drop 7 (lo1 := [zR 73, zI B, zI q, zI s, zI sm, zI (s + 1), .null, .null, zI c]) rfl ?_
                        refine zA_drop 8 (lo1 := [zR 73, zI B, zI q, zI s, zI sm, zI (s + 1), .null, .null, .null]) rfl ?_
                        exact ih40 _ _ (s + 1) (by omega) (by omega) (by omega) (by omega) (by rw [hsm2]; exact bst_take s0 hb (by omega) (by first | exact Or.inl (by omega) | exact Or.inr ⟨by omega, isB_ne hah c147⟩)) (by omega)
                      · skip
                        refine zA_aload_n dX12_out_140 rfl ?_
                        refine zA_iload dX12_out_141 rfl ?_
                        refine zA_iload_n dX12_out_143 rfl ?_
                        refine zA_cV (st := []) dX12_out_144 vX12_isAhead kX12_485 (m_isAhead (w := w_1) (a := s) (b := bs) s0 (by omega) hbb.1 hbb.2) (by decide) c73 rfl rfl (Nat.le_of_ble_eq_true rfl) rfl (zRp1_el (fun ah hah => ?_))
                        have hahr := isB_R hah
                        refine zA_if_ne (tgt := 153) dX12_out_147 (by decide) (by first | assumption | exact hr _ _ | exact inR_mk (by omega) (by omega)) (fun c147 => ?_) (fun c147 => ?_)
                        · skip
                          refine zA_iload dX12_out_153 rfl ?_
                          refine zA_istore_n (lo1 := [zR 73, zI B, zI q, zI s, zI ms, zI s, zI nd, zI sm, zI c]) dX12_out_155 (by decide) rfl rfl ?_
                          refine zA_iload dX12_out_156 rfl ?_
                          refine zA_istore (lo1 := [zR 73, zI B, zI q, zI s, zI sm, zI s, zI nd, zI sm, zI c]) dX12_out_158 (by decide) rfl rfl ?_
                          refine zA_iinc (lo1 := [zR 73, zI B, zI q, zI s, zI sm, zI (s + 1), zI nd, zI sm, zI c]) dX12_out_160 rfl (by decide) rfl rfl ?_
                          refine zA_goto (tgt := 40) dX12_out_163 (by decide) ?_
                          refine zA_drop 6 (lo1 := [zR 73, zI B, zI q, zI s, zI sm, zI (s + 1), .null, zI sm, zI c]) rfl ?_
                          refine zA_drop 7 (lo1 := [zR 73, zI B, zI q, zI s, zI sm, zI (s + 1), .null, .null, zI c]) rfl ?_
                          refine zA_drop 8 (lo1 := [zR 73, zI B, zI q, zI s, zI sm, zI (s + 1), .null, .null, .null]) rfl ?_
                          exact ih40 _ _ (s + 1) (by omega) (by omega) (by omega) (by omega) (by rw [hsm2]; exact bst_take s0 hb (by omega) (by first | exact Or.inl (by omega) | exact Or.inr ⟨by omega, isB_ne hah c147⟩)) (by omega)
                        · skip
                          refine zA_goto (tgt := 160) dX12_out_150 (by decide) ?_
                          refine zA_iinc (lo1 := [zR 73, zI B, zI q, zI bs, zI ms, zI (s + 1), zI nd, zI sm, zI c]) dX12_out_160 rfl (by decide) rfl rfl ?_
                          refine zA_goto (tgt := 40) dX12_out_163 (by decide) ?_
                          refine zA_drop 6 (lo1 := [zR 73, zI B, zI q, zI bs, zI ms, zI (s + 1), .null, zI sm, zI c]) rfl ?_
                          refine zA_drop 7 (lo1 := [zR 73, zI B, zI q, zI bs, zI ms, zI (s + 1), .null, .null, zI c]) rfl ?_
                          refine zA_drop 8 (lo1 := [zR 73, zI B, zI q, zI bs, zI ms, zI (s + 1), .null, .null, .null]) rfl ?_
                          exact ih40 _ _ (s + 1) (by omega) (by omega) hbb (by omega) (bst_skip b0 hvl s0 (by omega) hb (by first | exact Or.inl (by omega) | exact Or.inr (Or.inl (by omega)) | exact Or.inr (Or.inr ⟨by omega, isB_eq hah c147⟩))) (by omega)
                · skip
                  have e79 : w_1 79 c = w 79 c := ef 79 c (by decide)
                  have hc1 := hcc c c0 (by omega)
                  have hlb := lad_b (q := q) hc1.1 hc1.2 (by omega)
                  have zb1 := zsum_b (f := fun j : Nat => if tb s j = true then w 79 j else 0) (B := 200) c.toNat (fun k hk => by have := hcc k (by omega) (by omega); split <;> omega)
                  have zb2 := zsum_b (f := fun j : Nat => if tb s j = true then lad (w 79 j) q else 0) (B := 400) c.toNat (fun k hk => by have h1 := hcc k (by omega) (by omega); have := lad_b (q := q) h1.1 h1.2 (by omega); split <;> omega)
                  refine zA_iload dX12_out_73 rfl ?_
                  refine zA_iload dX12_out_75 rfl ?_
                  refine zA_ishr dX12_out_77 ?_
                  refine zA_iconst dX12_out_78 ?_
                  refine zA_iand dX12_out_79 ?_
                  refine zA_valI (if tb s c = true then 1 else 0) (tb_get s0 (by omega) c0 (by omega)) ?_
                  refine zA_if_ne (tgt := 86) dX12_out_80 (by decide) (inR_ite _) (fun c80 => ?_) (fun c80 => ?_)
                  · skip
                    replace c80 := zite_ne c80
                    refine zA_iload dX12_out_86 rfl ?_
                    refine zA_aload_n dX12_out_88 rfl ?_
                    refine zA_getR (n := 79) dX12_out_89 fX12_38 c73 rfl ?_
                    refine zA_iload dX12_out_92 rfl ?_
                    refine zA_iaload dX12_out_94 c79 (by first | assumption | omega) (by first | assumption | omega) (by decide) ?_
                    refine zA_iload_n dX12_out_95 rfl ?_
                    refine zA_cS (st := [zI nd]) dX12_out_96 sX12_laddersTo kX12_482 (m_laddersTo (w := w_1) (S := (ZZ t dr tx)) (a := w_1 79 c) (q := q) (by omega) (by omega) (by omega) (by omega)) (by decide) rfl rfl (Nat.le_of_ble_eq_true rfl) (zRt_el ?_)
                    show zA l mX12_out false 3 0 0 (zMr (¬ ((0 ≤ B ∧ B ≤ 200) ∧ 3 ≤ q ∧ q ≤ 99)) False (isOut (w 75 0).toNat (fun c => lad (w 79 c) q) (w 79) B) (ZZ t dr tx) w (up w 73 1 0)) zNo 99 [zR 73, zI B, zI q, zI bs, zI ms, zI s, zI nd, zI sm, zI c] [zI (lad (w_1 79 c) q), zI nd] (ZZ t dr tx) w_1
                    refine zA_iadd dX12_out_99 ?_
                    refine zA_istore (lo1 := [zR 73, zI B, zI q, zI bs, zI ms, zI s, zI (nd + (lad (w_1 79 c) q)), zI sm, zI c]) dX12_out_100 (by decide) rfl rfl ?_
                    refine zA_iload dX12_out_102 rfl ?_
                    refine zA_aload_n dX12_out_104 rfl ?_
                    refine zA_getR (n := 79) dX12_out_105 fX12_38 c73 rfl ?_
                    refine zA_iload dX12_out_108 rfl ?_
                    refine zA_iaload dX12_out_110 c79 (by first | assumption | omega) (by first | assumption | omega) (by decide) ?_
                    refine zA_iadd dX12_out_111 ?_
                    refine zA_istore (lo1 := [zR 73, zI B, zI q, zI bs, zI ms, zI s, zI (nd + (lad (w_1 79 c) q)), zI (sm + (w_1 79 c)), zI c]) dX12_out_112 (by decide) rfl rfl ?_
                    refine zA_iinc (lo1 := [zR 73, zI B, zI q, zI bs, zI ms, zI s, zI (nd + (lad (w_1 79 c) q)), zI (sm + (w_1 79 c)), zI (c + 1)]) dX12_out_114 rfl (by decide) rfl rfl ?_
                    refine zA_goto (tgt := 62) dX12_out_117 (by decide) ?_
                    exact ih62 _ _ (c + 1) (by omega) (by omega) (by rw [zsucc c0]; simp only [zsum]; rw [zcast c0, if_pos c80, hnd, e79]) (by rw [zsucc c0]; simp only [zsum]; rw [zcast c0, if_pos c80, hsm, e79]) (by omega)
                  · skip
                    replace c80 := zite_eq c80
                    refine zA_goto (tgt := 114) dX12_out_83 (by decide) ?_
                    refine zA_iinc (lo1 := [zR 73, zI B, zI q, zI bs, zI ms, zI s, zI nd, zI sm, zI (c + 1)]) dX12_out_114 rfl (by decide) rfl rfl ?_
                    refine zA_goto (tgt := 62) dX12_out_117 (by decide) ?_
                    exact ih62 _ _ (c + 1) (by omega) (by omega) (by rw [zsucc c0]; simp only [zsum]; rw [zcast c0, if_neg c80, hnd]; omega) (by rw [zsucc c0]; simp only [zsum]; rw [zcast c0, if_neg c80, hsm]; omega) (by omega)
            exact L62 _ 0 0 0 (by omega) (by omega) rfl rfl (Nat.lt_succ_self _)
      exact L40 _ 0 (-1) 0 (by omega) (by omega) (by omega) (by omega) (Or.inl ⟨rfl, rfl, rfl⟩) (Nat.lt_succ_self _)
    · skip
      replace c23 := zite_eq c23
      refine zA_aload_n dX12_out_26 rfl ?_
      refine zA_iconst dX12_out_27 ?_
      refine zA_cV (st := []) dX12_out_28 vX12_fail kX12_292 (m_fail (w := w_1) (k := 1) ⟨by decide, by decide⟩) (by decide) c73 rfl rfl (Nat.le_of_ble_eq_true rfl) rfl (zRt_el ?_)
      show zA l mX12_out false 3 0 0 (zMr (¬ ((0 ≤ B ∧ B ≤ 200) ∧ 3 ≤ q ∧ q ≤ 99)) False (isOut (w 75 0).toNat (fun c => lad (w 79 c) q) (w 79) B) (ZZ t dr tx) w (up w 73 1 0)) zNo 31 [zR 73, zI B, zI q, .null, .null, .null, .null, .null, .null] [zI 0] (ZZ t dr tx) (up w_1 73 1 1)
      refine zA_iret dX12_out_31 rfl ?_
      exact ⟨rfl, Or.inl ⟨by omega, rfl, by rw [hw_1, up_up]⟩⟩

set_option maxRecDepth 100000 in
set_option maxHeartbeats 4000000 in
theorem s_out {l : Launch} {t dr tx : Nat} {w : zW} (ht : t = 4 ∨ t = 10) {B q : Int} (hB : inR B) (hq : inR q) (n0 : 0 ≤ w t 5) (n1 : w t 5 ≤ 12) (hcc : ∀ c : Int, 0 ≤ c → c < w t 5 → 1 ≤ w (t + 1) c ∧ w (t + 1) c ≤ 200) : zSp l mX11_out false 4 2 12 [zR 0, zI B, zI q] (ZZ t dr tx) w (fun v' S' w' => ((0 ≤ B ∧ B ≤ 200) ∧ 3 ≤ q ∧ q ≤ 99) ∧ S' = (ZZ t dr tx) ∧ only 43 w w' ∧ ∃ r, v' = some (zI r) ∧ isOut (w t 5).toNat (fun c => lad (w (t + 1) c) q) (w (t + 1)) B r) (zXp (False) (¬ ((0 ≤ B ∧ B ≤ 200) ∧ 3 ≤ q ∧ q ≤ 99)) (ZZ t dr tx) w) := by
  refine zA_intro ⟨plainFor_of_name (by decide +kernel), Or.inl (by decide +kernel)⟩ rfl (Nat.le_of_ble_eq_true rfl) ?_
  refine zA_range (fun hr => ?_)
  show zA l mX11_out false 4 2 12 (fun v' S' w' => ((0 ≤ B ∧ B ≤ 200) ∧ 3 ≤ q ∧ q ≤ 99) ∧ S' = (ZZ t dr tx) ∧ only 43 w w' ∧ ∃ r, v' = some (zI r) ∧ isOut (w t 5).toNat (fun c => lad (w (t + 1) c) q) (w (t + 1)) B r) (zXp (False) (¬ ((0 ≤ B ∧ B ≤ 200) ∧ 3 ≤ q ∧ q ≤ 99)) (ZZ t dr tx) w) 0 [zR 0, zI B, zI q] [] (ZZ t dr tx) w
  refine zA_iconst dX11_out_0 ?_
  refine zA_iload_n dX11_out_1 rfl ?_
  refine zA_sipush dX11_out_2 rfl ?_
  refine zA_cS (st := []) dX11_out_5 sX11_between kX11_213 (s_between (w := w) (a := 0) (b := B) (e := 200) ⟨by decide, by decide⟩ (by first | assumption | exact hr _ _ | exact inR_mk (by omega) (by omega)) ⟨by decide, by decide⟩) (by decide) rfl rfl (Nat.le_of_ble_eq_true rfl) (zRt_el ?_)
  show zA l mX11_out false 4 2 12 (fun v' S' w' => ((0 ≤ B ∧ B ≤ 200) ∧ 3 ≤ q ∧ q ≤ 99) ∧ S' = (ZZ t dr tx) ∧ only 43 w w' ∧ ∃ r, v' = some (zI r) ∧ isOut (w t 5).toNat (fun c => lad (w (t + 1) c) q) (w (t + 1)) B r) (zXp (False) (¬ ((0 ≤ B ∧ B ≤ 200) ∧ 3 ≤ q ∧ q ≤ 99)) (ZZ t dr tx) w) 8 [zR 0, zI B, zI q] [zI (if 0 ≤ B ∧ B ≤ 200 then 1 else 0)] (ZZ t dr tx) w
  refine zA_if_ne (tgt := 22) dX11_out_8 (by decide) (inR_ite _) (fun c8 => ?_) (fun c8 => ?_)
  · skip
    replace c8 := zite_ne c8
    refine zA_iload_n dX11_out_22 rfl ?_
    refine zA_callS (bc2 := 1) (bs2 := 6) (st := []) dX11_out_23 sX11_askLadder kX11_422 (s_askLadder (w := w) (c := q) (by first | assumption | exact hr _ _ | exact inR_mk (by omega) (by omega))) (by decide) rfl rfl (Nat.le_of_ble_eq_true rfl) ⟨rfl, rfl⟩ (zRa_el (fun h_23 => ?_)) (zXp_m rfl (fun h => by first | exact h.elim | omega) (fun h => by first | exact h.elim | omega))
    show zA l mX11_out false 4 1 6 (fun v' S' w' => ((0 ≤ B ∧ B ≤ 200) ∧ 3 ≤ q ∧ q ≤ 99) ∧ S' = (ZZ t dr tx) ∧ only 43 w w' ∧ ∃ r, v' = some (zI r) ∧ isOut (w t 5).toNat (fun c => lad (w (t + 1) c) q) (w (t + 1)) B r) (zXp (False) (¬ ((0 ≤ B ∧ B ≤ 200) ∧ 3 ≤ q ∧ q ≤ 99)) (ZZ t dr tx) w) 26 [zR 0, zI B, zI q] [] (ZZ t dr tx) w
    refine zA_aload_n dX11_out_26 rfl ?_
    refine zA_getR (n := 39) dX11_out_27 fX11_64 c0 rfl ?_
    refine zA_aload_n dX11_out_30 rfl ?_
    refine zA_getR (n := t) dX11_out_31 fX11_30 c0 rfl ?_
    refine zA_iload_n dX11_out_34 rfl ?_
    refine zA_iload_n dX11_out_35 rfl ?_
    refine zA_cV (st := []) dX11_out_36 vX2_mostOut kX11_430 (s_mostOut (w := w) ht n0 n1 hcc (q := q) (by omega) (by omega) (B := B) (by omega) (by omega)) (by decide) c39 rfl rfl (Nat.le_of_ble_eq_true rfl) rfl (fun q_1_v q_1_S q_1_w q_1 => ?_)
    obtain ⟨rfl, ho, r0, rfl, hr0⟩ := q_1
    refine zA_range (fun hr => ?_)
    show zA l mX11_out false 4 1 6 (fun v' S' w' => ((0 ≤ B ∧ B ≤ 200) ∧ 3 ≤ q ∧ q ≤ 99) ∧ S' = (ZZ t dr tx) ∧ only 43 w w' ∧ ∃ r, v' = some (zI r) ∧ isOut (w t 5).toNat (fun c => lad (w (t + 1) c) q) (w (t + 1)) B r) (zXp (False) (¬ ((0 ≤ B ∧ B ≤ 200) ∧ 3 ≤ q ∧ q ≤ 99)) (ZZ t dr tx) w) 39 [zR 0, zI B, zI q] [zI r0] (ZZ t dr tx) q_1_w
    refine zA_iret dX11_out_39 rfl ?_
    exact ⟨by omega, rfl, ho, _, rfl, hr0⟩
  · skip
    replace c8 := zite_eq c8
    refine zA_throw (sa := 1121) (zIAE_w dX11_out_11 dX11_out_14 ⟨dX11_out_15, dX11_out_18, dX11_out_21⟩) (List.mem_of_getElem? (i := 21) rfl) rfl rfl (Nat.le_of_ble_eq_true rfl) (by decide) ?_
    exact ⟨Or.inr ⟨rfl, by omega⟩, rfl, rfl⟩

