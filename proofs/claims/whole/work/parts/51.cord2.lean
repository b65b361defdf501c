/-! the whole of the class's orders -/
theorem oG_fr {w w' : zW} {y : Nat} {S m : Int} (hy : y = 4 ∨ y = 10) (h : ∀ c i, c ≠ 67 → c ≠ 68 → c ≠ 65 → (c ≠ 62 ∨ i ≠ 3) → w' c i = w c i) : (oG w y S m → oG w' y S m) ∧ w' 63 = w 63 ∧ w' 64 = w 64 ∧ w' 66 = w 66 ∧ yTrav w' y = yTrav w y := by
  have h63 : w' 63 = w 63 := funext fun i => h 63 i (by decide) (by decide) (by decide) (Or.inl (by decide))
  have h64 : w' 64 = w 64 := funext fun i => h 64 i (by decide) (by decide) (by decide) (Or.inl (by decide))
  have h66 : w' 66 = w 66 := funext fun i => h 66 i (by decide) (by decide) (by decide) (Or.inl (by decide))
  have h62 : w' 62 5 = w 62 5 := h 62 5 (by decide) (by decide) (by decide) (Or.inr (by decide))
  have hyt : yTrav w' y = yTrav w y := by
    funext a b
    unfold yTrav
    rw [h (y + 2) _ (by omega) (by omega) (by omega) (Or.inl (by omega))]
  refine ⟨fun hg => ?_, h63, h64, h66, hyt⟩
  unfold oG
  rw [h63, h64, h66, h62, hyt]
  exact hg
theorem oG2_up {w w' : zW} {y : Nat} {S m D0 : Int} (h63 : w' 63 = w 63) (h64 : w' 64 = w 64) (h66 : w' 66 = w 66) (hyt : yTrav w' y = yTrav w y) (h67 : ∀ i, D0 * 9 + 9 ≤ i → w' 67 i = w 67 i) (h68 : ∀ D, D0 < D → w' 68 D = w 68 D) (h : oG2 w y S m D0) : oG2 w' y S m D0 := by
  refine ⟨fun D i n a b c e f g => ?_, fun D a b => ?_⟩
  · rw [h67 _ (by omega), h63, h64, h66, hyt]; exact h.1 D i n a b c e f g
  · rw [h68 D a, h63]; exact h.2 D a b
theorem oG2_low {w : zW} {y : Nat} {S m D0 : Int} (h : oG2 w y S m D0) (hc : ∀ (i : Int) (n : Nat), 0 ≤ i → i < m → tb D0 i = true → popN (rem S D0) = n → w 67 (D0 * 9 + i) = oC (w 63) (w 64) (yTrav w y) n (rem S D0) (w 66 i)) (ho : w 68 D0 = oR (w 63) (rem S D0)) : oG2 w y S m (D0 - 1) := by
  refine ⟨fun D i n a b c e f g => ?_, fun D a b => ?_⟩
  · by_cases q : D = D0
    · rw [q] at f g ⊢; exact hc i n c e f g
    · exact h.1 D i n (by omega) b c e f g
  · by_cases q : D = D0
    · rw [q]; exact ho
    · exact h.2 D (by omega) b
/-- all is done just if nothing is left -/
theorem all_0 {S m D : Int} {a : Int → Int} (hA : aOk S a m) (m0 : 0 ≤ m) (d0 : 0 ≤ D) (d1 : D < ((2 ^ m.toNat : Nat) : Int)) : popN (rem S D) = 0 ↔ D = ((2 ^ m.toNat : Nat) : Int) - 1 := by
  have hp : 0 < 2 ^ m.toNat := Nat.pow_pos (by decide)
  constructor
  · intro h
    refine tb_ext d0 (by omega) (fun j j0 => ?_)
    rw [tb_M1 j m0 j0]
    by_cases hj : j < m
    · rw [decide_eq_true hj]
      have h1 := hA.2.1 j j0 hj
      have h2 := popN_0 h (a j) h1.1.1 h1.1.2
      rw [rem_at hA j0 hj] at h2
      simpa using h2
    · rw [decide_eq_false hj]; exact tb_Mhi m0 d1 (by omega)
  · intro h
    refine zsum0 12 (fun k hk => ?_)
    cases hr : rem S D (k : Int) with
    | false => rfl
    | true =>
      exfalso
      obtain ⟨h1, h2⟩ := rem_d hr
      have h3 := hA.2.2 k (by omega) (by omega) h1
      rw [h, tb_M1 _ m0 h3.1.1, decide_eq_true h3.1.2] at h2
      cases h2
theorem popN_nn (p : Int → Bool) : 0 ≤ popN p := zsum_b0 12 (fun k _ => by split <;> omega)
set_option maxRecDepth 100000 in
set_option maxHeartbeats 4000000 in
theorem s_fillRowO {l : Launch} {t dr tx : Nat} {w : zW} {y : Nat} (hy : y = 4 ∨ y = 10) {S m : Int} (hG : oG w y S m) (hG2 : oG2 w y S m (-1)) : zSp l mX4_fillRow false 5 0 0 [zR 62, zR y] (ZZ t dr tx) w (fun v' S' w' => v' = none ∧ S' = (ZZ t dr tx) ∧ (∀ c i, c ≠ 65 → (c ≠ 62 ∨ i ≠ 3) → w' c i = w c i) ∧ w' 62 3 = m ∧ ∀ i, 0 ≤ i → i < m → w' 65 i = orow (w 63) (w 64) (yTrav w y) m.toNat (tb S) (-1) i) zNo := by
  refine zA_intro ⟨plainFor_of_name (by decide +kernel), Or.inl (by decide +kernel)⟩ rfl (Nat.le_of_ble_eq_true rfl) ?_
  obtain ⟨hA, h5, hok, m0, m9⟩ := id hG
  have hM := M_b m0 m9
  refine zA_range (fun hr => ?_)
  show zA l mX4_fillRow false 5 0 0 (fun v' S' w' => v' = none ∧ S' = (ZZ t dr tx) ∧ (∀ c i, c ≠ 65 → (c ≠ 62 ∨ i ≠ 3) → w' c i = w c i) ∧ w' 62 3 = m ∧ ∀ i, 0 ≤ i → i < m → w' 65 i = orow (w 63) (w 64) (yTrav w y) m.toNat (tb S) (-1) i) zNo 0 [zR 62, zR y, .null, .null, .null] [] (ZZ t dr tx) w
  refine zA_aload_n dX4_fillRow_0 rfl ?_
  refine zA_iconst dX4_fillRow_1 ?_
  refine zA_putI dX4_fillRow_2 fX4_21 c62 rfl ⟨by decide, by decide⟩ ⟨rfl, rfl⟩ ?_
  refine zA_namew (fun w_1 hw_1 => ?_)
  refine zA_range (fun hr => ?_)
  replace hw_1 : w_1 = up w 62 3 0 := hw_1
  refine zA_iconst dX4_fillRow_5 ?_
  refine zA_istore_n (lo1 := [zR 62, zR y, zI 0, .null, .null]) dX4_fillRow_6 (by decide) rfl rfl ?_
  refine zA_iconst dX4_fillRow_7 ?_
  refine zA_istore_n (lo1 := [zR 62, zR y, zI 0, zI (-1), .null]) dX4_fillRow_8 (by decide) rfl rfl ?_
  refine zA_iconst dX4_fillRow_9 ?_
  refine zA_istore (lo1 := [zR 62, zR y, zI 0, zI (-1), zI 0]) dX4_fillRow_10 (by decide) rfl rfl ?_
  have L12 : ∀ (z12 : Nat) (D la st0 : Int) (w1 : zW) (t0 : 0 ≤ st0) (t1 : st0 ≤ m) (d0 : 0 ≤ D) (d1 : D < ((2 ^ m.toNat : Nat) : Int)) (la0 : -1 ≤ la) (la1 : la < m ∨ la = -1) (hf : ∀ c i, c ≠ 65 → (c ≠ 62 ∨ i ≠ 3) → w1 c i = w c i) (h3 : w1 62 3 = st0) (hp : popN (rem S D) = m - st0) (ha : ∀ i : Int, 0 ≤ i → i < st0 → w1 65 i = orow (w 63) (w 64) (yTrav w y) m.toNat (tb S) (-1) i) (hb : ∀ i : Int, st0 ≤ i → i < m → orow (w 63) (w 64) (yTrav w y) m.toNat (tb S) (-1) i = orow (w 63) (w 64) (yTrav w y) (m - st0).toNat (rem S D) (oLa w la) (i - st0)) (zm : (m - st0).toNat < z12), zA l mX4_fillRow false 5 0 0 (fun v' S' w' => v' = none ∧ S' = (ZZ t dr tx) ∧ (∀ c i, c ≠ 65 → (c ≠ 62 ∨ i ≠ 3) → w' c i = w c i) ∧ w' 62 3 = m ∧ ∀ i, 0 ≤ i → i < m → w' 65 i = orow (w 63) (w 64) (yTrav w y) m.toNat (tb S) (-1) i) zNo 12 [zR 62, zR y, zI D, zI la, zI st0] [] (ZZ t dr tx) w1 := by
    intro z12
    induction z12 with
    | zero => intro D la st0 w1 t0 t1 d0 d1 la0 la1 hf h3 hp ha hb zm; exact absurd zm (Nat.not_lt_zero _)
    | succ z12 ih12 =>
      intro D la st0 w1 t0 t1 d0 d1 la0 la1 hf h3 hp ha hb zm
      refine zA_range (fun hr => ?_)
      obtain ⟨g0, g63, g64, g66, gyt⟩ := oG_fr (S := S) (m := m) hy (fun c i a b e f => hf c i e f)
      have hG1 := g0 hG
      have hG21 : oG2 w1 y S m (-1) := oG2_up g63 g64 g66 gyt (fun i _ => hf 67 i (by decide) (Or.inl (by decide))) (fun D _ => hf 68 D (by decide) (Or.inl (by decide))) hG2
      have e5 : w1 62 5 = m := hG1.2.1
      have elL : oLa w1 la = oLa w la := by unfold oLa; rw [g66]
      refine zA_iload dX4_fillRow_12 rfl ?_
      refine zA_aload_n dX4_fillRow_14 rfl ?_
      refine zA_getI dX4_fillRow_15 fX4_28 c62 rfl ?_
      refine zA_valI (w1 62 5) rfl ?_
      refine zA_icmp_ge (tgt := 72) dX4_fillRow_18 (by decide) (by first | assumption | exact hr _ _ | exact inR_mk (by omega) (by omega)) (by first | assumption | exact hr _ _ | exact inR_mk (by omega) (by omega)) (fun c18 => ?_) (fun c18 => ?_)
      · skip
        refine zA_vret dX4_fillRow_72 rfl ?_
        exact ⟨rfl, rfl, hf, by omega, fun i a b => ha i a (by omega)⟩
      · skip
        obtain ⟨kk, hkk⟩ : ∃ kk : Nat, m - st0 = (kk + 1 : Nat) := ⟨(m - st0 - 1).toNat, by omega⟩
        have hk1 : (m - st0).toNat = kk + 1 := by omega
        refine zA_aload_n dX4_fillRow_21 rfl ?_
        refine zA_aload_n dX4_fillRow_22 rfl ?_
        refine zA_iload_n dX4_fillRow_23 rfl ?_
        refine zA_iload_n dX4_fillRow_24 rfl ?_
        refine zA_cV (st := []) dX4_fillRow_25 vX4_leastNext kX4_75 (s_leastNext (w := w1) hy (D := D) (la := la) (n := kk) hG1 ⟨fun D0 i n a b => hG21.1 D0 i n (by omega) b, fun D0 a b => hG21.2 D0 (by omega) b⟩ (hG21.2 D (by omega) d1) d0 d1 la0 (by omega) (by rw [hp]; exact hkk)) (by decide) c62 rfl rfl (Nat.le_of_ble_eq_true rfl) rfl (zRp1_el (fun nx hnx => ?_))
        obtain ⟨hnx0, hnx1, hnxt⟩ := hnx
        have hob := or_b m0 m9 d0 d1 hnx0.1 hnx0.2
        have hnx2 : w 66 nx = oNx (w 63) (w 64) (yTrav w y) kk (rem S D) (oLa w la) := by rw [← g66, hnx1, g63, g64, gyt, elL]
        have hag : agP (rem S (iOr D (iShl 1 nx))) (rmv (rem S D) (w 66 nx)) := rem_or hA hnx0.1 hnx0.2 hob.2.1
        have hai := hA.2.1 nx hnx0.1 hnx0.2
        have hpr := popN_rmv (p := rem S D) hai.1.1 hai.1.2 (by rw [rem_at hA hnx0.1 hnx0.2, hnxt]; rfl)
        rw [← popN_c hag] at hpr
        refine zA_istore_n (lo1 := [zR 62, zR y, zI D, zI nx, zI st0]) dX4_fillRow_28 (by decide) rfl rfl ?_
        refine zA_iload_n dX4_fillRow_29 rfl ?_
        refine zA_iconst dX4_fillRow_30 ?_
        refine zA_icmp_ne (tgt := 35) dX4_fillRow_31 (by decide) (by first | assumption | exact hr _ _ | exact inR_mk (by omega) (by omega)) ⟨by decide, by decide⟩ (fun c31 => ?_) (fun c31 => ?_)
        · skip
          refine zA_aload_n dX4_fillRow_35 rfl ?_
          refine zA_getR (n := 65) dX4_fillRow_36 fX4_18 c62 rfl ?_
          refine zA_aload_n dX4_fillRow_39 rfl ?_
          refine zA_getI dX4_fillRow_40 fX4_21 c62 rfl ?_
          refine zA_valI (w1 62 3) rfl ?_
          refine zA_aload_n dX4_fillRow_43 rfl ?_
          refine zA_getR (n := 66) dX4_fillRow_44 fX4_25 c62 rfl ?_
          refine zA_iload_n dX4_fillRow_47 rfl ?_
          refine zA_iaload dX4_fillRow_48 c66 (by first | assumption | omega) (by first | assumption | omega) (by decide) ?_
          refine zA_iastore dX4_fillRow_49 (by first | assumption | exact hr _ _ | exact inR_mk (by omega) (by omega)) c65 (by first | assumption | omega) (by first | assumption | omega) (by decide) ?_
          refine zA_namew (fun w_2 hw_2 => ?_)
          refine zA_range (fun hr => ?_)
          replace hw_2 : w_2 = up w1 65 (w1 62 3) (w1 66 nx) := hw_2
          have e3 : w_2 62 3 = st0 := by rw [hw_2, up_cell _ _ _ _ (by decide)]; exact h3
          refine zA_aload_n dX4_fillRow_50 rfl ?_
          refine zA_dup dX4_fillRow_51 rfl ?_
          refine zA_getI dX4_fillRow_52 fX4_21 c62 rfl ?_
          refine zA_valI (w_2 62 3) rfl ?_
          refine zA_iconst dX4_fillRow_55 ?_
          refine zA_iadd dX4_fillRow_56 ?_
          refine zA_putI dX4_fillRow_57 fX4_21 c62 rfl (by first | assumption | exact hr _ _ | exact inR_mk (by omega) (by omega)) ⟨rfl, rfl⟩ ?_
          refine zA_namew (fun w_3 hw_3 => ?_)
          refine zA_range (fun hr => ?_)
          replace hw_3 : w_3 = up w_2 62 3 ((w_2 62 3) + 1) := hw_3
          refine zA_iload_n dX4_fillRow_60 rfl ?_
          refine zA_iconst dX4_fillRow_61 ?_
          refine zA_iload_n dX4_fillRow_62 rfl ?_
          refine zA_ishl dX4_fillRow_63 ?_
          refine zA_ior dX4_fillRow_64 ?_
          refine zA_istore_n (lo1 := [zR 62, zR y, zI (iOr D (iShl 1 nx)), zI nx, zI st0]) dX4_fillRow_65 (by decide) rfl rfl ?_
          refine zA_iinc (lo1 := [zR 62, zR y, zI (iOr D (iShl 1 nx)), zI nx, zI (st0 + 1)]) dX4_fillRow_66 rfl (by decide) rfl rfl ?_
          refine zA_goto (tgt := 12) dX4_fillRow_69 (by decide) ?_
          exact ih12 _ nx (st0 + 1) _ (by omega) (by omega) hob.1.1 hob.1.2 (by omega) (Or.inl hnx0.1.2) (fun c i a b => by
                      by_cases hc : c = 62
                      · subst hc; rw [hw_3, up_idx _ _ _ _ (by omega), hw_2, up_cell _ _ _ _ (by decide)]; exact hf 62 i (by decide) b
                      · rw [hw_3, up_cell _ _ _ _ hc, hw_2, up_cell _ _ _ _ a]; exact hf c i a b) (by rw [hw_3, up_same, e3]) (by omega) (fun i a b => by
                      rw [hw_3, up_cell _ _ _ _ (by decide), hw_2]
                      by_cases hi : i = w1 62 3
                      · rw [hi, up_same, hnx1, h3, hb st0 (by omega) (by omega), hk1, show st0 - st0 = 0 by omega, ← elL, g63, g64, gyt]; rfl
                      · rw [up_idx _ _ _ _ hi]; exact ha i a (by omega)) (fun i a b => by
                      rw [hb i (by omega) b, hk1, show (m - (st0 + 1)).toNat = kk by omega]
                      simp only [orow]
                      rw [if_neg (by omega), show i - st0 - 1 = i - (st0 + 1) by omega, ← hnx2]
                      unfold oLa
                      rw [if_neg (show ¬ nx = -1 by omega)]
                      exact (orow_c _ _ _ _ _ hag).symm) (by omega)
        · skip
          exfalso; omega
  exact L12 _ 0 (-1) 0 w_1 (by omega) (by omega) (by omega) (by omega) (by omega) (Or.inr rfl) (fun c i a b => by
          by_cases hc : c = 62
          · subst hc; rw [hw_1, up_idx _ _ _ _ (by omega)]
          · rw [hw_1, up_cell _ _ _ _ hc]) (by rw [hw_1, up_same]) (by rw [popN_c rem_0, ← hA.1]; omega) (fun i a b => by omega) (fun i a b => by rw [show m - 0 = m by omega, show i - 0 = i by omega]; unfold oLa; rw [if_pos rfl]; exact (orow_c _ _ _ _ _ rem_0).symm) (Nat.lt_succ_self _)

