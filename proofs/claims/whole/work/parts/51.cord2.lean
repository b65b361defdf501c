/-! the whole of the class's orders -/
theorem oG_fr {w w' : zW} {y : Nat} {S m : Int} (hy : y = 4 ∨ y = 10) (h : ∀ c i, c ≠ 67 → c ≠ 68 → c ≠ 65 → (c ≠ 62 ∨ i ≠ 3) → w' c i = w c i) : (oG w y S m → oG w' y S m) ∧ w' 63 = w 63 ∧ w' 64 = w 64 ∧ w' 66 = w 66 ∧ yTrav w' y = yTrav w y := by
  have h63 : w' 63 = w 63 := funext fun i => h 63 i (by decide) (by decide) (by decide) (Or.inl (by decide))
  have h64 : w' 64 = w 64 := funext fun i => h 64 i (by decide) (by decide) (by decide) (Or.inl (by decide))
  have h66 : w' 66 = w 66 := funext fun i => h 66 i (by decide) (by decide) (by decide) (Or.inl (by decide))
  have h62 : w' 62 5 = w 62 5 := h 62 5 (by decide) (by decide) (by decide) (Or.inr (by decide))
  have hyt : yTrav w' y = yTrav w y := by
    funext a b
    unfold yTrav
    rw [h (y + 2) _ (by omega) (by omega) (by omega) (Or.inl (by omega))]
  refine ⟨fun hg => ?_, h63, h64, h66, hyt⟩
  unfold oG
  rw [h63, h64, h66, h62, hyt]
  exact hg
theorem oG2_up {w w' : zW} {y : Nat} {S m D0 : Int} (h63 : w' 63 = w 63) (h64 : w' 64 = w 64) (h66 : w' 66 = w 66) (hyt : yTrav w' y = yTrav w y) (h67 : ∀ i, D0 * 9 + 9 ≤ i → w' 67 i = w 67 i) (h68 : ∀ D, D0 < D → w' 68 D = w 68 D) (h : oG2 w y S m D0) : oG2 w' y S m D0 := by
  refine ⟨fun D i n a b c e f g => ?_, fun D a b => ?_⟩
  · rw [h67 _ (by omega), h63, h64, h66, hyt]; exact h.1 D i n a b c e f g
  · rw [h68 D a, h63]; exact h.2 D a b
theorem oG2_low {w : zW} {y : Nat} {S m D0 : Int} (h : oG2 w y S m D0) (hc : ∀ (i : Int) (n : Nat), 0 ≤ i → i < m → tb D0 i = true → popN (rem S D0) = n → w 67 (D0 * 9 + i) = oC (w 63) (w 64) (yTrav w y) n (rem S D0) (w 66 i)) (ho : w 68 D0 = oR (w 63) (rem S D0)) : oG2 w y S m (D0 - 1) := by
  refine ⟨fun D i n a b c e f g => ?_, fun D a b => ?_⟩
  · by_cases q : D = D0
    · rw [q] at f g ⊢; exact hc i n c e f g
    · exact h.1 D i n (by omega) b c e f g
  · by_cases q : D = D0
    · rw [q]; exact ho
    · exact h.2 D (by omega) b
/-- all is done just if nothing is left -/
theorem all_0 {S m D : Int} {a : Int → Int} (hA : aOk S a m) (m0 : 0 ≤ m) (d0 : 0 ≤ D) (d1 : D < ((2 ^ m.toNat : Nat) : Int)) : popN (rem S D) = 0 ↔ D = ((2 ^ m.toNat : Nat) : Int) - 1 := by
  have hp : 0 < 2 ^ m.toNat := Nat.pow_pos (by decide)
  constructor
  · intro h
    refine tb_ext d0 (by omega) (fun j j0 => ?_)
    rw [tb_M1 j m0 j0]
    by_cases hj : j < m
    · rw [decide_eq_true hj]
      have h1 := hA.2.1 j j0 hj
      have h2 := popN_0 h (a j) h1.1.1 h1.1.2
      rw [rem_at hA j0 hj] at h2
      simpa using h2
    · rw [decide_eq_false hj]; exact tb_Mhi m0 d1 (by omega)
  · intro h
    refine zsum0 12 (fun k hk => ?_)
    cases hr : rem S D (k : Int) with
    | false => rfl
    | true =>
      exfalso
      obtain ⟨h1, h2⟩ := rem_d hr
      have h3 := hA.2.2 k (by omega) (by omega) h1
      rw [h, tb_M1 _ m0 h3.1.1, decide_eq_true h3.1.2] at h2
      cases h2
theorem popN_nn (p : Int → Bool) : 0 ≤ popN p := zsum_b0 12 (fun k _ => by split <;> omega)
set_option maxRecDepth 100000 in
set_option maxHeartbeats 4000000 in
theorem s_fillRowO {l : Launch} {t dr tx : Nat} {w : zW} {y : Nat} (hy : y = 4 ∨ y = 10) {S m : Int} (hG : oG w y S m) (hG2 : oG2 w y S m (-1)) : zSp l mX4_fillRow false 5 0 0 [zR 62, zR y] (ZZ t dr tx) w (fun v' S' w' => v' = none ∧ S' = (ZZ t dr tx) ∧ (∀ c i, c ≠ 65 → (c ≠ 62 ∨ i ≠ 3) → w' c i = w c i) ∧ w' 62 3 = m ∧ ∀ i, 0 ≤ i → i < m → w' 65 i = orow (w 63) (w 64) (yTrav w y) m.toNat (tb S) (-1) i) zNo := by
  refine zA_intro ⟨plainFor_of_name (by decide +kernel), Or.inl (by decide +kernel)⟩ rfl (Nat.le_of_ble_eq_true rfl) ?_
  obtain ⟨hA, h5, hok, m0, m9⟩ := id hG
  have hM := M_b m0 m9
  refine zA_range (fun hr => ?_)
  show zA l mX4_fillRow false 5 0 0 (fun v' S' w' => v' = none ∧ S' = (ZZ t dr tx) ∧ (∀ c i, c ≠ 65 → (c ≠ 62 ∨ i ≠ 3) → w' c i = w c i) ∧ w' 62 3 = m ∧ ∀ i, 0 ≤ i → i < m → w' 65 i = orow (w 63) (w 64) (yTrav w y) m.toNat (tb S) (-1) i) zNo 0 [zR 62, zR y, .null, .null, .null] [] (ZZ t dr tx) w
  refine zA_aload_n dX4_fillRow_0 rfl ?_
  refine zA_iconst dX4_fillRow_1 ?_
  refine zA_putI dX4_fillRow_2 fX4_21 c62 rfl ⟨by decide, by decide⟩ ⟨rfl, rfl⟩ ?_
  refine zA_namew (fun w_1 hw_1 => ?_)
  refine zA_range (fun hr => ?_)
  replace hw_1 : w_1 = up w 62 3 0 := hw_1
  refine zA_iconst dX4_fillRow_5 ?_
  refine zA_istore_n (lo1 := [zR 62, zR y, zI 0, .null, .null]) dX4_fillRow_6 (by decide) rfl rfl ?_
  refine zA_iconst dX4_fillRow_7 ?_
  refine zA_istore_n (lo1 := [zR 62, zR y, zI 0, zI (-1), .null]) dX4_fillRow_8 (by decide) rfl rfl ?_
  refine zA_iconst dX4_fillRow_9 ?_
  refine zA_istore (lo1 := [zR 62, zR y, zI 0, zI (-1), zI 0]) dX4_fillRow_10 (by decide) rfl rfl ?_
  have L12 : ∀ (z12 : Nat) (D la st0 : Int) (w1 : zW) (t0 : 0 ≤ st0) (t1 : st0 ≤ m) (d0 : 0 ≤ D) (d1 : D < ((2 ^ m.toNat : Nat) : Int)) (la0 : -1 ≤ la) (la1 : la < m ∨ la = -1) (hf : ∀ c i, c ≠ 65 → (c ≠ 62 ∨ i ≠ 3) → w1 c i = w c i) (h3 : w1 62 3 = st0) (hp : popN (rem S D) = m - st0) (ha : ∀ i : Int, 0 ≤ i → i < st0 → w1 65 i = orow (w 63) (w 64) (yTrav w y) m.toNat (tb S) (-1) i) (hb : ∀ i : Int, st0 ≤ i → i < m → orow (w 63) (w 64) (yTrav w y) m.toNat (tb S) (-1) i = orow (w 63) (w 64) (yTrav w y) (m - st0).toNat (rem S D) (oLa w la) (i - st0)) (zm : (m - st0).toNat < z12), zA l mX4_fillRow false 5 0 0 (fun v' S' w' => v' = none ∧ S' = (ZZ t dr tx) ∧ (∀ c i, c ≠ 65 → (c ≠ 62 ∨ i ≠ 3) → w' c i = w c i) ∧ w' 62 3 = m ∧ ∀ i, 0 ≤ i → i < m → w' 65 i = orow (w 63) (w 64) (yTrav w y) m.toNat (tb S) (-1) i) zNo 12 [zR 62, zR y, zI D, zI la, zI st0] [] (ZZ t dr tx) w1 := by
    intro z12
    induction z12 with
    | zero => intro D la st0 w1 t0 t1 d0 d1 la0 la1 hf h3 hp ha hb zm; exact absurd zm (Nat.not_lt_zero _)
    | succ z12 ih12 =>
      intro D la st0 w1 t0 t1 d0 d1 la0 la1 hf h3 hp ha hb zm
      refine zA_range (fun hr => ?_)
      obtain ⟨g0, g63, g64, g66, gyt⟩ := oG_fr (S := S) (m := m) hy (fun c i a b e f => hf c i e f)
      have hG1 := g0 hG
      have hG21 : oG2 w1 y S m (-1) := oG2_up g63 g64 g66 gyt (fun i _ => hf 67 i (by decide) (Or.inl (by decide))) (fun D _ => hf 68 D (by decide) (Or.inl (by decide))) hG2
      have e5 : w1 62 5 = m := hG1.2.1
      have elL : oLa w1 la = oLa w la := by unfold oLa; rw [g66]
      refine zA_iload dX4_fillRow_12 rfl ?_
      refine zA_aload_n dX4_fillRow_14 rfl ?_
      refine zA_getI dX4_fillRow_15 fX4_28 c62 rfl ?_
      refine zA_valI (w1 62 5) rfl ?_
      refine zA_icmp_ge (tgt := 72) dX4_fillRow_18 (by decide) (by first | assumption | exact hr _ _ | exact inR_mk (by omega) (by omega)) (by first | assumption | exact hr _ _ | exact inR_mk (by omega) (by omega)) (fun c18 => ?_) (fun c18 => ?_)
      · skip
        refine zA_vret dX4_fillRow_72 rfl ?_
        exact ⟨rfl, rfl, hf, by omega, fun i a b => ha i a (by omega)⟩
      · skip
        obtain ⟨kk, hkk⟩ : ∃ kk : Nat, m - st0 = (kk + 1 : Nat) := ⟨(m - st0 - 1).toNat, by omega⟩
        have hk1 : (m - st0).toNat = kk + 1 := by omega
        refine zA_aload_n dX4_fillRow_21 rfl ?_
        refine zA_aload_n dX4_fillRow_22 rfl ?_
        refine zA_iload_n dX4_fillRow_23 rfl ?_
        refine zA_iload_n dX4_fillRow_24 rfl ?_
        refine zA_cV (st := []) dX4_fillRow_25 vX4_leastNext kX4_78 (s_leastNext (w := w1) hy (D := D) (la := la) (n := kk) hG1 ⟨fun D0 i n a b => hG21.1 D0 i n (by omega) b, fun D0 a b => hG21.2 D0 (by omega) b⟩ (hG21.2 D (by omega) d1) d0 d1 la0 (by omega) (by rw [hp]; exact hkk)) (by decide) c62 rfl rfl (Nat.le_of_ble_eq_true rfl) rfl (zRp1_el (fun nx hnx => ?_))
        obtain ⟨hnx0, hnx1, hnxt⟩ := hnx
        have hob := or_b m0 m9 d0 d1 hnx0.1 hnx0.2
        have hnx2 : w 66 nx = oNx (w 63) (w 64) (yTrav w y) kk (rem S D) (oLa w la) := by rw [← g66, hnx1, g63, g64, gyt, elL]
        have hag : agP (rem S (iOr D (iShl 1 nx))) (rmv (rem S D) (w 66 nx)) := rem_or hA hnx0.1 hnx0.2 hob.2.1
        have hai := hA.2.1 nx hnx0.1 hnx0.2
        have hpr := popN_rmv (p := rem S D) hai.1.1 hai.1.2 (by rw [rem_at hA hnx0.1 hnx0.2, hnxt]; rfl)
        rw [← popN_c hag] at hpr
        refine zA_istore_n (lo1 := [zR 62, zR y, zI D, zI nx, zI st0]) dX4_fillRow_28 (by decide) rfl rfl ?_
        refine zA_iload_n dX4_fillRow_29 rfl ?_
        refine zA_iconst dX4_fillRow_30 ?_
        refine zA_icmp_ne (tgt := 35) dX4_fillRow_31 (by decide) (by first | assumption | exact hr _ _ | exact inR_mk (by omega) (by omega)) ⟨by decide, by decide⟩ (fun c31 => ?_) (fun c31 => ?_)
        · skip
          refine zA_aload_n dX4_fillRow_35 rfl ?_
          refine zA_getR (n := 65) dX4_fillRow_36 fX4_18 c62 rfl ?_
          refine zA_aload_n dX4_fillRow_39 rfl ?_
          refine zA_getI dX4_fillRow_40 fX4_21 c62 rfl ?_
          refine zA_valI (w1 62 3) rfl ?_
          refine zA_aload_n dX4_fillRow_43 rfl ?_
          refine zA_getR (n := 66) dX4_fillRow_44 fX4_25 c62 rfl ?_
          refine zA_iload_n dX4_fillRow_47 rfl ?_
          refine zA_iaload dX4_fillRow_48 c66 (by first | assumption | omega) (by first | assumption | omega) (by decide) ?_
          refine zA_iastore dX4_fillRow_49 (by first | assumption | exact hr _ _ | exact inR_mk (by omega) (by omega)) c65 (by first | assumption | omega) (by first | assumption | omega) (by decide) ?_
          refine zA_namew (fun w_2 hw_2 => ?_)
          refine zA_range (fun hr => ?_)
          replace hw_2 : w_2 = up w1 65 (w1 62 3) (w1 66 nx) := hw_2
          have e3 : w_2 62 3 = st0 := by rw [hw_2, up_cell _ _ _ _ (by decide)]; exact h3
          refine zA_aload_n dX4_fillRow_50 rfl ?_
          refine zA_dup dX4_fillRow_51 rfl ?_
          refine zA_getI dX4_fillRow_52 fX4_21 c62 rfl ?_
          refine zA_valI (w_2 62 3) rfl ?_
          refine zA_iconst dX4_fillRow_55 ?_
          refine zA_iadd dX4_fillRow_56 ?_
          refine zA_putI dX4_fillRow_57 fX4_21 c62 rfl (by first | assumption | exact hr _ _ | exact inR_mk (by omega) (by omega)) ⟨rfl, rfl⟩ ?_
          refine zA_namew (fun w_3 hw_3 => ?_)
          refine zA_range (fun hr => ?_)
          replace hw_3 : w_3 = up w_2 62 3 ((w_2 62 3) + 1) := hw_3
          refine zA_iload_n dX4_fillRow_60 rfl ?_
          refine zA_iconst dX4_fillRow_61 ?_
          refine zA_iload_n dX4_fillRow_62 rfl ?_
          refine zA_ishl dX4_fillRow_63 ?_
          refine zA_ior dX4_fillRow_64 ?_
          refine zA_istore_n (lo1 := [zR 62, zR y, zI (iOr D (iShl 1 nx)), zI nx, zI st0]) dX4_fillRow_65 (by decide) rfl rfl ?_
          refine zA_iinc (lo1 := [zR 62, zR y, zI (iOr D (iShl 1 nx)), zI nx, zI (st0 + 1)]) dX4_fillRow_66 rfl (by decide) rfl rfl ?_
          refine zA_goto (tgt := 12) dX4_fillRow_69 (by decide) ?_
          exact ih12 _ nx (st0 + 1) _ (by omega) (by omega) hob.1.1 hob.1.2 (by omega) (Or.inl hnx0.2) (fun c i a b => by
                      by_cases hc : c = 62
                      · subst hc; rw [hw_3, up_idx _ _ _ _ (by omega), hw_2, up_cell _ _ _ _ (by decide)]; exact hf 62 i (by decide) b
                      · rw [hw_3, up_cell _ _ _ _ hc, hw_2, up_cell _ _ _ _ a]; exact hf c i a b) (by rw [hw_3, up_same, e3]) (by omega) (fun i a b => by
                      rw [hw_3, up_cell _ _ _ _ (by decide), hw_2]
                      by_cases hi : i = w1 62 3
                      · rw [hi, up_same, hnx1, h3, hb st0 (by omega) (by omega), hk1, show st0 - st0 = 0 by omega, ← elL, g63, g64, gyt]; rfl
                      · rw [up_idx _ _ _ _ hi]; exact ha i a (by omega)) (fun i a b => by
                      rw [hb i (by omega) b, hk1, show (m - (st0 + 1)).toNat = kk by omega]
                      simp only [orow]
                      rw [if_neg (by omega), show i - st0 - 1 = i - (st0 + 1) by omega, ← hnx2]
                      unfold oLa
                      rw [if_neg (show ¬ nx = -1 by omega)]
                      exact (orow_c _ _ _ _ _ hag).symm) (by omega)
        · skip
          exfalso; omega
  exact L12 _ 0 (-1) 0 w_1 (by omega) (by omega) (by omega) (by omega) (by omega) (Or.inr rfl) (fun c i a b => by
          by_cases hc : c = 62
          · subst hc; rw [hw_1, up_idx _ _ _ _ (by omega)]
          · rw [hw_1, up_cell _ _ _ _ hc]) (by rw [hw_1, up_same]) (by rw [popN_c rem_0, ← hA.1]; omega) (fun i a b => by omega) (fun i a b => by rw [show m - 0 = m by omega, show i - 0 = i by omega]; unfold oLa; rw [if_pos rfl]; exact (orow_c _ _ _ _ _ rem_0).symm) (Nat.lt_succ_self _)

set_option maxRecDepth 100000 in
set_option maxHeartbeats 4000000 in
theorem s_makeO {l : Launch} {t dr tx : Nat} {w : zW} {y : Nat} (hy : y = 4 ∨ y = 10) {S : Int} (s1 : 0 < S) (s2 : S < 4096) (hp9 : popN (tb S) ≤ 9) (hok : okO (w 63) (w 64) (yTrav w y)) {nn : Nat} (hnn : popN (tb S) = nn) : zSp l mX4_make false 6 0 0 [zR 62, zR y, zI S] (ZZ t dr tx) w (fun v' S' w' => v' = some (zI (oC (w 63) (w 64) (yTrav w y) nn (tb S) (-1))) ∧ S' = (ZZ t dr tx) ∧ (∀ c i, c ≠ 65 → c ≠ 66 → c ≠ 67 → c ≠ 68 → (c ≠ 62 ∨ (i ≠ 3 ∧ i ≠ 5)) → w' c i = w c i) ∧ w' 62 3 = nn ∧ ∀ i : Int, 0 ≤ i → i < nn → w' 65 i = orow (w 63) (w 64) (yTrav w y) nn (tb S) (-1) i) zNo := by
  refine zA_intro ⟨plainFor_of_name (by decide +kernel), Or.inl (by decide +kernel)⟩ rfl (Nat.le_of_ble_eq_true rfl) ?_
  have hpp := popN_tb (S := S) (by omega) s2 (by omega)
  obtain ⟨m, hm⟩ : ∃ m : Int, m = popN (tb S) := ⟨_, rfl⟩
  have hM := M_b (m := m) (by omega) (by omega)
  refine zA_range (fun hr => ?_)
  show zA l mX4_make false 6 0 0 (fun v' S' w' => v' = some (zI (oC (w 63) (w 64) (yTrav w y) nn (tb S) (-1))) ∧ S' = (ZZ t dr tx) ∧ (∀ c i, c ≠ 65 → c ≠ 66 → c ≠ 67 → c ≠ 68 → (c ≠ 62 ∨ (i ≠ 3 ∧ i ≠ 5)) → w' c i = w c i) ∧ w' 62 3 = nn ∧ ∀ i : Int, 0 ≤ i → i < nn → w' 65 i = orow (w 63) (w 64) (yTrav w y) nn (tb S) (-1) i) zNo 0 [zR 62, zR y, zI S, .null, .null, .null] [] (ZZ t dr tx) w
  refine zA_aload_n dX4_make_0 rfl ?_
  refine zA_iload_n dX4_make_1 rfl ?_
  refine zA_cV (st := []) dX4_make_2 vX4_listAsked kX4_46 (s_listAsked (w := w) (S := S) (by omega) s2 hp9) (by decide) c62 rfl rfl (Nat.le_of_ble_eq_true rfl) rfl (fun q_1_v q_1_S q_1_w q_1 => ?_)
  obtain ⟨rfl, rfl, hf0, h50, hA⟩ := q_1
  obtain ⟨wa, hwa⟩ : ∃ wa, wa = q_1_w := ⟨_, rfl⟩
  rw [← hwa] at hf0 h50 hA ⊢
  rw [← hm] at h50 hA
  have b63 : wa 63 = w 63 := funext fun i => hf0 63 i (by decide) (Or.inl (by decide))
  have b64 : wa 64 = w 64 := funext fun i => hf0 64 i (by decide) (Or.inl (by decide))
  have byt : yTrav wa y = yTrav w y := by
    funext a b
    unfold yTrav
    rw [hf0 (y + 2) _ (by omega) (Or.inl (by omega))]
  have hGa : oG wa y S m := ⟨hA, h50, by rw [b63, b64, byt]; exact hok, by omega, by omega⟩
  refine zA_range (fun hr => ?_)
  show zA l mX4_make false 6 0 0 (fun v' S' w' => v' = some (zI (oC (w 63) (w 64) (yTrav w y) nn (tb S) (-1))) ∧ S' = (ZZ t dr tx) ∧ (∀ c i, c ≠ 65 → c ≠ 66 → c ≠ 67 → c ≠ 68 → (c ≠ 62 ∨ (i ≠ 3 ∧ i ≠ 5)) → w' c i = w c i) ∧ w' 62 3 = nn ∧ ∀ i : Int, 0 ≤ i → i < nn → w' 65 i = orow (w 63) (w 64) (yTrav w y) nn (tb S) (-1) i) zNo 5 [zR 62, zR y, zI S, .null, .null, .null] [] (ZZ t dr tx) wa
  refine zA_iconst dX4_make_5 ?_
  refine zA_aload_n dX4_make_6 rfl ?_
  refine zA_getI dX4_make_7 fX4_28 c62 rfl ?_
  refine zA_valI (wa 62 5) rfl ?_
  refine zA_ishl dX4_make_10 ?_
  refine zA_iconst dX4_make_11 ?_
  refine zA_isub dX4_make_12 ?_
  refine zA_valI (((2 ^ m.toNat : Nat) : Int) - 1) (by rw [h50, iShl_1 (by omega) (by omega)]) ?_
  refine zA_istore_n (lo1 := [zR 62, zR y, zI S, zI (((2 ^ m.toNat : Nat) : Int) - 1), .null, .null]) dX4_make_13 (by decide) rfl rfl ?_
  refine zA_iload_n dX4_make_14 rfl ?_
  refine zA_istore (lo1 := [zR 62, zR y, zI S, zI (((2 ^ m.toNat : Nat) : Int) - 1), zI (((2 ^ m.toNat : Nat) : Int) - 1), .null]) dX4_make_15 (by decide) rfl rfl ?_
  have L17 : ∀ (z17 : Nat) (D : Int) (w1 : zW) (d0 : 0 ≤ D) (d1 : D < ((2 ^ m.toNat : Nat) : Int)) (hf : ∀ c i, c ≠ 67 → c ≠ 68 → w1 c i = wa c i) (hG2 : oG2 w1 y S m D) (zm : D.toNat < z17), zA l mX4_make false 6 0 0 (fun v' S' w' => v' = some (zI (oC (w 63) (w 64) (yTrav w y) nn (tb S) (-1))) ∧ S' = (ZZ t dr tx) ∧ (∀ c i, c ≠ 65 → c ≠ 66 → c ≠ 67 → c ≠ 68 → (c ≠ 62 ∨ (i ≠ 3 ∧ i ≠ 5)) → w' c i = w c i) ∧ w' 62 3 = nn ∧ ∀ i : Int, 0 ≤ i → i < nn → w' 65 i = orow (w 63) (w 64) (yTrav w y) nn (tb S) (-1) i) zNo 17 [zR 62, zR y, zI S, zI (((2 ^ m.toNat : Nat) : Int) - 1), zI D, .null] [] (ZZ t dr tx) w1 := by
    intro z17
    induction z17 with
    | zero => intro D w1 d0 d1 hf hG2 zm; exact absurd zm (Nat.not_lt_zero _)
    | succ z17 ih17 =>
      intro D w1 d0 d1 hf hG2 zm
      refine zA_range (fun hr => ?_)
      obtain ⟨g0, g63, g64, g66, gyt⟩ := oG_fr (S := S) (m := m) hy (fun c i a b e f => hf c i a b)
      have hG1 := g0 hGa
      have hA1 := hG1.1
      have e5 : w1 62 5 = m := hG1.2.1
      refine zA_iload dX4_make_17 rfl ?_
      refine zA_if_le (tgt := 101) dX4_make_19 (by decide) (by first | assumption | exact hr _ _ | exact inR_mk (by omega) (by omega)) (fun c19 => ?_) (fun c19 => ?_)
      · skip
        refine zA_aload_n dX4_make_101 rfl ?_
        refine zA_getR (n := 68) dX4_make_102 fX4_34 c62 rfl ?_
        refine zA_iconst dX4_make_105 ?_
        refine zA_aload_n dX4_make_106 rfl ?_
        refine zA_iconst dX4_make_107 ?_
        refine zA_cV (st := [zI 0, zR 68]) dX4_make_108 vX4_riskWithout kX4_50 (s_riskWithout (w := w1) (y := y) (S := S) (m := m) hG1 (D := 0) (by omega) (by omega)) (by decide) c62 rfl rfl (Nat.le_of_ble_eq_true rfl) rfl (zRt_el ?_)
        show zA l mX4_make false 6 0 0 (fun v' S' w' => v' = some (zI (oC (w 63) (w 64) (yTrav w y) nn (tb S) (-1))) ∧ S' = (ZZ t dr tx) ∧ (∀ c i, c ≠ 65 → c ≠ 66 → c ≠ 67 → c ≠ 68 → (c ≠ 62 ∨ (i ≠ 3 ∧ i ≠ 5)) → w' c i = w c i) ∧ w' 62 3 = nn ∧ ∀ i : Int, 0 ≤ i → i < nn → w' 65 i = orow (w 63) (w 64) (yTrav w y) nn (tb S) (-1) i) zNo 111 [zR 62, zR y, zI S, zI (((2 ^ m.toNat : Nat) : Int) - 1), zI D, .null] [zI (oR (w1 63) (rem S 0)), zI 0, zR 68] (ZZ t dr tx) w1
        have hRb := oR_b hG1.2.2.1 (rem S 0)
        refine zA_iastore dX4_make_111 (by first | assumption | exact hr _ _ | exact inR_mk (by omega) (by omega)) c68 (by first | assumption | omega) (by first | assumption | omega) (by decide) ?_
        refine zA_namew (fun w_2 hw_2 => ?_)
        refine zA_range (fun hr => ?_)
        replace hw_2 : w_2 = up w1 68 0 (oR (w1 63) (rem S 0)) := hw_2
        have v63 : w_2 63 = w1 63 := by rw [hw_2]; funext i; exact up_cell _ _ _ _ (by decide)
        have v64 : w_2 64 = w1 64 := by rw [hw_2]; funext i; exact up_cell _ _ _ _ (by decide)
        have v66 : w_2 66 = w1 66 := by rw [hw_2]; funext i; exact up_cell _ _ _ _ (by decide)
        have vyt : yTrav w_2 y = yTrav w1 y := by rw [hw_2]; funext a b; unfold yTrav; rw [up_cell _ _ _ _ (by omega)]
        have hG5 : oG w_2 y S m := (oG_fr hy (fun c i a b e f => by rw [hw_2, up_cell _ _ _ _ b])).1 hG1
        have hG6 : oG2 w_2 y S m 0 := oG2_up (w := w1) v63 v64 v66 vyt (fun i _ => by rw [hw_2, up_cell _ _ _ _ (by decide)]) (fun D' hD => by rw [hw_2, up_idx _ _ _ _ (by omega)]) (by rw [show (0 : Int) = D by omega]; exact hG2)
        have ho6 : w_2 68 0 = oR (w_2 63) (rem S 0) := by rw [v63, hw_2, up_same]
        have hG7 : oG2 w_2 y S m (-1) := oG2_low (D0 := 0) hG6 (fun i n a b ht hn => by rw [tb_0] at ht; cases ht) ho6
        obtain ⟨kk, hkk⟩ : ∃ kk : Nat, nn = kk + 1 := ⟨nn - 1, by omega⟩
        refine zA_aload_n dX4_make_112 rfl ?_
        refine zA_aload_n dX4_make_113 rfl ?_
        refine zA_iconst dX4_make_114 ?_
        refine zA_iconst dX4_make_115 ?_
        refine zA_cV (st := []) dX4_make_116 vX4_leastCost kX4_54 (s_leastCost (w := w_2) hy (D := 0) (la := -1) (n := kk) hG5 hG6 ho6 (by omega) (by omega) (by omega) (by omega) (by rw [popN_c rem_0]; omega)) (by decide) c62 rfl rfl (Nat.le_of_ble_eq_true rfl) rfl (zRt_el ?_)
        show zA l mX4_make false 6 0 0 (fun v' S' w' => v' = some (zI (oC (w 63) (w 64) (yTrav w y) nn (tb S) (-1))) ∧ S' = (ZZ t dr tx) ∧ (∀ c i, c ≠ 65 → c ≠ 66 → c ≠ 67 → c ≠ 68 → (c ≠ 62 ∨ (i ≠ 3 ∧ i ≠ 5)) → w' c i = w c i) ∧ w' 62 3 = nn ∧ ∀ i : Int, 0 ≤ i → i < nn → w' 65 i = orow (w 63) (w 64) (yTrav w y) nn (tb S) (-1) i) zNo 119 [zR 62, zR y, zI S, zI (((2 ^ m.toNat : Nat) : Int) - 1), zI D, .null] [zI (oC (w_2 63) (w_2 64) (yTrav w_2 y) (kk + 1) (rem S 0) (oLa w_2 (-1)))] (ZZ t dr tx) w_2
        refine zA_istore (lo1 := [zR 62, zR y, zI S, zI (((2 ^ m.toNat : Nat) : Int) - 1), zI (oC (w_2 63) (w_2 64) (yTrav w_2 y) (kk + 1) (rem S 0) (oLa w_2 (-1))), .null]) dX4_make_119 (by decide) rfl rfl ?_
        refine zA_aload_n dX4_make_121 rfl ?_
        refine zA_aload_n dX4_make_122 rfl ?_
        refine zA_cV (st := []) dX4_make_123 vX4_fillRow kX4_58 (s_fillRowO (w := w_2) hy (S := S) (m := m) hG5 hG7) (by decide) c62 rfl rfl (Nat.le_of_ble_eq_true rfl) rfl (fun q_3_v q_3_S q_3_w q_3 => ?_)
        obtain ⟨rfl, rfl, hff, hf3, hfr⟩ := q_3
        refine zA_range (fun hr => ?_)
        show zA l mX4_make false 6 0 0 (fun v' S' w' => v' = some (zI (oC (w 63) (w 64) (yTrav w y) nn (tb S) (-1))) ∧ S' = (ZZ t dr tx) ∧ (∀ c i, c ≠ 65 → c ≠ 66 → c ≠ 67 → c ≠ 68 → (c ≠ 62 ∨ (i ≠ 3 ∧ i ≠ 5)) → w' c i = w c i) ∧ w' 62 3 = nn ∧ ∀ i : Int, 0 ≤ i → i < nn → w' 65 i = orow (w 63) (w 64) (yTrav w y) nn (tb S) (-1) i) zNo 126 [zR 62, zR y, zI S, zI (((2 ^ m.toNat : Nat) : Int) - 1), zI (oC (w_2 63) (w_2 64) (yTrav w_2 y) (kk + 1) (rem S 0) (oLa w_2 (-1))), .null] [] (ZZ t dr tx) q_3_w
        refine zA_iload dX4_make_126 rfl ?_
        refine zA_iret dX4_make_128 rfl ?_
        refine ⟨?_, rfl, fun c i a b e f g => ?_, by omega, fun i a b => ?_⟩
        · rw [v63, v64, vyt, g63, g64, gyt, b63, b64, byt, oC_c _ _ _ _ rem_0, hkk]; rfl
        · rw [hff c i a (by omega), hw_2, up_cell _ _ _ _ f, hf c i e f]; exact hf0 c i b (by omega)
        · rw [hfr i a (by omega), v63, v64, vyt, g63, g64, gyt, b63, b64, byt, show m.toNat = nn by omega]
      · skip
        refine zA_aload_n dX4_make_22 rfl ?_
        refine zA_getR (n := 68) dX4_make_23 fX4_34 c62 rfl ?_
        refine zA_iload dX4_make_26 rfl ?_
        refine zA_aload_n dX4_make_28 rfl ?_
        refine zA_iload dX4_make_29 rfl ?_
        refine zA_cV (st := [zI D, zR 68]) dX4_make_31 vX4_riskWithout kX4_50 (s_riskWithout (w := w1) (y := y) (S := S) (m := m) hG1 (D := D) (by omega) (by omega)) (by decide) c62 rfl rfl (Nat.le_of_ble_eq_true rfl) rfl (zRt_el ?_)
        show zA l mX4_make false 6 0 0 (fun v' S' w' => v' = some (zI (oC (w 63) (w 64) (yTrav w y) nn (tb S) (-1))) ∧ S' = (ZZ t dr tx) ∧ (∀ c i, c ≠ 65 → c ≠ 66 → c ≠ 67 → c ≠ 68 → (c ≠ 62 ∨ (i ≠ 3 ∧ i ≠ 5)) → w' c i = w c i) ∧ w' 62 3 = nn ∧ ∀ i : Int, 0 ≤ i → i < nn → w' 65 i = orow (w 63) (w 64) (yTrav w y) nn (tb S) (-1) i) zNo 34 [zR 62, zR y, zI S, zI (((2 ^ m.toNat : Nat) : Int) - 1), zI D, .null] [zI (oR (w1 63) (rem S D)), zI D, zR 68] (ZZ t dr tx) w1
        have hRb := oR_b hG1.2.2.1 (rem S D)
        refine zA_iastore dX4_make_34 (by first | assumption | exact hr _ _ | exact inR_mk (by omega) (by omega)) c68 (by first | assumption | omega) (by first | assumption | omega) (by decide) ?_
        refine zA_namew (fun w_4 hw_4 => ?_)
        refine zA_range (fun hr => ?_)
        replace hw_4 : w_4 = up w1 68 D (oR (w1 63) (rem S D)) := hw_4
        refine zA_iconst dX4_make_35 ?_
        refine zA_istore (lo1 := [zR 62, zR y, zI S, zI (((2 ^ m.toNat : Nat) : Int) - 1), zI D, zI 0]) dX4_make_36 (by decide) rfl rfl ?_
        have L38 : ∀ (z38 : Nat) (i : Int) (w2 : zW) (i0 : 0 ≤ i) (i1 : i ≤ m) (hf2 : ∀ c i, c ≠ 67 → c ≠ 68 → w2 c i = wa c i) (hG3 : oG2 w2 y S m D) (ho2 : w2 68 D = oR (w2 63) (rem S D)) (hc2 : ∀ j : Int, ∀ n : Nat, 0 ≤ j → j < i → tb D j = true → popN (rem S D) = n → w2 67 (D * 9 + j) = oC (w2 63) (w2 64) (yTrav w2 y) n (rem S D) (w2 66 j)) (zm : (m - i).toNat < z38), zA l mX4_make false 6 0 0 (fun v' S' w' => v' = some (zI (oC (w 63) (w 64) (yTrav w y) nn (tb S) (-1))) ∧ S' = (ZZ t dr tx) ∧ (∀ c i, c ≠ 65 → c ≠ 66 → c ≠ 67 → c ≠ 68 → (c ≠ 62 ∨ (i ≠ 3 ∧ i ≠ 5)) → w' c i = w c i) ∧ w' 62 3 = nn ∧ ∀ i : Int, 0 ≤ i → i < nn → w' 65 i = orow (w 63) (w 64) (yTrav w y) nn (tb S) (-1) i) zNo 38 [zR 62, zR y, zI S, zI (((2 ^ m.toNat : Nat) : Int) - 1), zI D, zI i] [] (ZZ t dr tx) w2 := by
          intro z38
          induction z38 with
          | zero => intro i w2 i0 i1 hf2 hG3 ho2 hc2 zm; exact absurd zm (Nat.not_lt_zero _)
          | succ z38 ih38 =>
            intro i w2 i0 i1 hf2 hG3 ho2 hc2 zm
            refine zA_range (fun hr => ?_)
            obtain ⟨k0, k63, k64, k66, kyt⟩ := oG_fr (S := S) (m := m) hy (fun c i a b e f => hf2 c i a b)
            have hG4 := k0 hGa
            have e52 : w2 62 5 = m := hG4.2.1
            refine zA_iload dX4_make_38 rfl ?_
            refine zA_aload_n dX4_make_40 rfl ?_
            refine zA_getI dX4_make_41 fX4_28 c62 rfl ?_
            refine zA_valI (w2 62 5) rfl ?_
            refine zA_icmp_ge (tgt := 95) dX4_make_44 (by decide) (by first | assumption | exact hr _ _ | exact inR_mk (by omega) (by omega)) (by first | assumption | exact hr _ _ | exact inR_mk (by omega) (by omega)) (fun c44 => ?_) (fun c44 => ?_)
            · skip
              refine zA_iinc (lo1 := [zR 62, zR y, zI S, zI (((2 ^ m.toNat : Nat) : Int) - 1), zI (D + (-1)), zI i]) dX4_make_95 rfl (by decide) rfl rfl ?_
              refine zA_goto (tgt := 17) dX4_make_98 (by decide) ?_
              refine zA_drop 5 (lo1 := [zR 62, zR y, zI S, zI (((2 ^ m.toNat : Nat) : Int) - 1), zI (D + (-1)), .null]) rfl ?_
              exact ih17 (D - 1) w2 (by omega) (by omega) hf2 (oG2_low hG3 (fun i n a b ht hn => hc2 i n a (by omega) ht hn) ho2) (by omega)
            · skip
              refine zA_iload dX4_make_47 rfl ?_
              refine zA_iload dX4_make_49 rfl ?_
              refine zA_ishr dX4_make_51 ?_
              refine zA_iconst dX4_make_52 ?_
              refine zA_iand dX4_make_53 ?_
              refine zA_valI (if tb D i = true then 1 else 0) (tb_get (by omega) (by omega) i0 (by omega)) ?_
              refine zA_if_eq (tgt := 89) dX4_make_54 (by decide) (inR_ite _) (fun c54 => ?_) (fun c54 => ?_)
              · skip
                replace c54 := zite_eq c54
                refine zA_iinc (lo1 := [zR 62, zR y, zI S, zI (((2 ^ m.toNat : Nat) : Int) - 1), zI D, zI (i + 1)]) dX4_make_89 rfl (by decide) rfl rfl ?_
                refine zA_goto (tgt := 38) dX4_make_92 (by decide) ?_
                exact ih38 (i + 1) w2 (by omega) (by omega) hf2 hG3 ho2 (fun j n a b ht hn => by
                            by_cases hj : j = i
                            · rw [hj] at ht; exact absurd ht c54
                            · exact hc2 j n a (by omega) ht hn) (by omega)
              · skip
                replace c54 := zite_ne c54
                refine zA_aload_n dX4_make_57 rfl ?_
                refine zA_getR (n := 67) dX4_make_58 fX4_31 c62 rfl ?_
                refine zA_iload dX4_make_61 rfl ?_
                refine zA_bipush dX4_make_63 rfl ?_
                refine zA_imul dX4_make_65 ?_
                refine zA_iload dX4_make_66 rfl ?_
                refine zA_iadd dX4_make_68 ?_
                refine zA_iload dX4_make_69 rfl ?_
                refine zA_iload_n dX4_make_71 rfl ?_
                refine zA_icmp_ne (tgt := 79) dX4_make_72 (by decide) (by first | assumption | exact hr _ _ | exact inR_mk (by omega) (by omega)) (by first | assumption | exact hr _ _ | exact inR_mk (by omega) (by omega)) (fun c72 => ?_) (fun c72 => ?_)
                · skip
                  have hz1 : popN (rem S D) ≠ 0 := fun h => by have := (all_0 (S := S) hG4.1 (by omega) d0 d1).mp h; omega
                  have hz2 := popN_nn (rem S D)
                  obtain ⟨n1, hn1⟩ : ∃ n1 : Nat, popN (rem S D) = (n1 + 1 : Nat) := ⟨(popN (rem S D) - 1).toNat, by omega⟩
                  refine zA_aload_n dX4_make_79 rfl ?_
                  refine zA_aload_n dX4_make_80 rfl ?_
                  refine zA_iload dX4_make_81 rfl ?_
                  refine zA_iload dX4_make_83 rfl ?_
                  refine zA_cV (st := [zI ((D * 9) + i), zR 67]) dX4_make_85 vX4_leastCost kX4_54 (s_leastCost (w := w2) hy (D := D) (la := i) (n := n1) hG4 hG3 ho2 d0 d1 (by omega) (by omega) hn1) (by decide) c62 rfl rfl (Nat.le_of_ble_eq_true rfl) rfl (zRt_el ?_)
                  show zA l mX4_make false 6 0 0 (fun v' S' w' => v' = some (zI (oC (w 63) (w 64) (yTrav w y) nn (tb S) (-1))) ∧ S' = (ZZ t dr tx) ∧ (∀ c i, c ≠ 65 → c ≠ 66 → c ≠ 67 → c ≠ 68 → (c ≠ 62 ∨ (i ≠ 3 ∧ i ≠ 5)) → w' c i = w c i) ∧ w' 62 3 = nn ∧ ∀ i : Int, 0 ≤ i → i < nn → w' 65 i = orow (w 63) (w 64) (yTrav w y) nn (tb S) (-1) i) zNo 88 [zR 62, zR y, zI S, zI (((2 ^ m.toNat : Nat) : Int) - 1), zI D, zI i] [zI (oC (w2 63) (w2 64) (yTrav w2 y) (n1 + 1) (rem S D) (oLa w2 i)), zI ((D * 9) + i), zR 67] (ZZ t dr tx) w2
                  refine zA_valI (oC (w2 63) (w2 64) (yTrav w2 y) (popN (rem S D)).toNat (rem S D) (w2 66 i)) (by first | (rw [show (popN (rem S D)).toNat = 0 by omega]; rfl) | (rw [show (popN (rem S D)).toNat = n1 + 1 by omega]; unfold oLa; rw [if_neg (by omega)])) ?_
                  have hpl : popN (rem S D) ≤ 12 * 1 := (zsum_b (f := fun c : Nat => if rem S D c = true then 1 else 0) (B := 1) 12 (fun k _ => by split <;> omega)).2
                  have hpl0 := popN_nn (rem S D)
                  have hai := hG4.1.2.1 i i0 (by omega)
                  have hcb := oC_b hG4.2.2.1 (popN (rem S D)).toNat (rem S D) (w2 66 i) (by omega) (by omega) (Or.inr hai.1)
                  refine zA_iastore dX4_make_88 (by first | assumption | exact hr _ _ | exact inR_mk (by omega) (by omega)) c67 (by first | assumption | omega) (by first | assumption | omega) (by decide) ?_
                  refine zA_namew (fun w_5 hw_5 => ?_)
                  refine zA_range (fun hr => ?_)
                  replace hw_5 : w_5 = up w2 67 ((D * 9) + i) (oC (w2 63) (w2 64) (yTrav w2 y) (popN (rem S D)).toNat (rem S D) (w2 66 i)) := hw_5
                  have u63 : w_5 63 = w2 63 := by rw [hw_5]; funext i; exact up_cell _ _ _ _ (by decide)
                  have u64 : w_5 64 = w2 64 := by rw [hw_5]; funext i; exact up_cell _ _ _ _ (by decide)
                  have u66 : w_5 66 = w2 66 := by rw [hw_5]; funext i; exact up_cell _ _ _ _ (by decide)
                  have uyt : yTrav w_5 y = yTrav w2 y := by rw [hw_5]; funext a b; unfold yTrav; rw [up_cell _ _ _ _ (by omega)]
                  have hval : ∀ n : Nat, popN (rem S D) = n → oC (w2 63) (w2 64) (yTrav w2 y) (popN (rem S D)).toNat (rem S D) (w2 66 i) = oC (w2 63) (w2 64) (yTrav w2 y) n (rem S D) (w2 66 i) := by
                    intro n hn
                    rw [hn, Int.toNat_natCast]
                  refine zA_iinc (lo1 := [zR 62, zR y, zI S, zI (((2 ^ m.toNat : Nat) : Int) - 1), zI D, zI (i + 1)]) dX4_make_89 rfl (by decide) rfl rfl ?_
                  refine zA_goto (tgt := 38) dX4_make_92 (by decide) ?_
                  exact ih38 (i + 1) _ (by omega) (by omega) (fun c i a b => by rw [hw_5, up_cell _ _ _ _ a]; exact hf2 c i a b) (oG2_up (w := w2) u63 u64 u66 uyt (fun x hx => by rw [hw_5, up_idx _ _ _ _ (by omega)]) (fun D' _ => by rw [hw_5, up_cell _ _ _ _ (by decide)]) hG3) (by rw [u63, hw_5, up_cell _ _ _ _ (by decide)]; exact ho2) (fun j n a b ht hn => by
                              rw [u63, u64, u66, uyt, hw_5]
                              by_cases hj : j = i
                              · rw [hj, up_same]; exact hval n hn
                              · rw [up_idx _ _ _ _ (by omega)]; exact hc2 j n a (by omega) ht hn) (by omega)
                · skip
                  have hz0 := (all_0 (S := S) hG4.1 (by omega) d0 d1).mpr (by omega)
                  refine zA_iconst dX4_make_75 ?_
                  refine zA_goto (tgt := 88) dX4_make_76 (by decide) ?_
                  refine zA_valI (oC (w2 63) (w2 64) (yTrav w2 y) (popN (rem S D)).toNat (rem S D) (w2 66 i)) (by first | (rw [show (popN (rem S D)).toNat = 0 by omega]; rfl) | (rw [show (popN (rem S D)).toNat = n1 + 1 by omega]; unfold oLa; rw [if_neg (by omega)])) ?_
                  have hpl : popN (rem S D) ≤ 12 * 1 := (zsum_b (f := fun c : Nat => if rem S D c = true then 1 else 0) (B := 1) 12 (fun k _ => by split <;> omega)).2
                  have hpl0 := popN_nn (rem S D)
                  have hai := hG4.1.2.1 i i0 (by omega)
                  have hcb := oC_b hG4.2.2.1 (popN (rem S D)).toNat (rem S D) (w2 66 i) (by omega) (by omega) (Or.inr hai.1)
                  refine zA_iastore dX4_make_88 (by first | assumption | exact hr _ _ | exact inR_mk (by omega) (by omega)) c67 (by first | assumption | omega) (by first | assumption | omega) (by decide) ?_
                  refine zA_namew (fun w_6 hw_6 => ?_)
                  refine zA_range (fun hr => ?_)
                  replace hw_6 : w_6 = up w2 67 ((D * 9) + i) (oC (w2 63) (w2 64) (yTrav w2 y) (popN (rem S D)).toNat (rem S D) (w2 66 i)) := hw_6
                  have u63 : w_6 63 = w2 63 := by rw [hw_6]; funext i; exact up_cell _ _ _ _ (by decide)
                  have u64 : w_6 64 = w2 64 := by rw [hw_6]; funext i; exact up_cell _ _ _ _ (by decide)
                  have u66 : w_6 66 = w2 66 := by rw [hw_6]; funext i; exact up_cell _ _ _ _ (by decide)
                  have uyt : yTrav w_6 y = yTrav w2 y := by rw [hw_6]; funext a b; unfold yTrav; rw [up_cell _ _ _ _ (by omega)]
                  have hval : ∀ n : Nat, popN (rem S D) = n → oC (w2 63) (w2 64) (yTrav w2 y) (popN (rem S D)).toNat (rem S D) (w2 66 i) = oC (w2 63) (w2 64) (yTrav w2 y) n (rem S D) (w2 66 i) := by
                    intro n hn
                    rw [hn, Int.toNat_natCast]
                  refine zA_iinc (lo1 := [zR 62, zR y, zI S, zI (((2 ^ m.toNat : Nat) : Int) - 1), zI D, zI (i + 1)]) dX4_make_89 rfl (by decide) rfl rfl ?_
                  refine zA_goto (tgt := 38) dX4_make_92 (by decide) ?_
                  exact ih38 (i + 1) _ (by omega) (by omega) (fun c i a b => by rw [hw_6, up_cell _ _ _ _ a]; exact hf2 c i a b) (oG2_up (w := w2) u63 u64 u66 uyt (fun x hx => by rw [hw_6, up_idx _ _ _ _ (by omega)]) (fun D' _ => by rw [hw_6, up_cell _ _ _ _ (by decide)]) hG3) (by rw [u63, hw_6, up_cell _ _ _ _ (by decide)]; exact ho2) (fun j n a b ht hn => by
                              rw [u63, u64, u66, uyt, hw_6]
                              by_cases hj : j = i
                              · rw [hj, up_same]; exact hval n hn
                              · rw [up_idx _ _ _ _ (by omega)]; exact hc2 j n a (by omega) ht hn) (by omega)
        exact L38 _ 0 _ (by omega) (by omega) (fun c i a b => by rw [hw_4, up_cell _ _ _ _ b]; exact hf c i a b) (oG2_up (w := w1) (by rw [hw_4]; funext i; exact up_cell _ _ _ _ (by decide)) (by rw [hw_4]; funext i; exact up_cell _ _ _ _ (by decide)) (by rw [hw_4]; funext i; exact up_cell _ _ _ _ (by decide)) (by rw [hw_4]; funext a b; unfold yTrav; rw [up_cell _ _ _ _ (by omega)]) (fun i _ => by rw [hw_4, up_cell _ _ _ _ (by decide)]) (fun D' hD => by rw [hw_4, up_idx _ _ _ _ (by omega)]) hG2) (by rw [hw_4, up_same]; rfl) (fun j n a b => by omega) (Nat.lt_succ_self _)
  exact L17 _ (((2 ^ m.toNat : Nat) : Int) - 1) wa (by omega) (by omega) (fun _ _ _ _ => rfl) ⟨fun D i n a b => by omega, fun D a b => by omega⟩ (Nat.lt_succ_self _)

theorem iUsh_neg {x i : Int} (h : inR x) (h0 : x < 0) (i0 : 0 ≤ i) (i1 : i ≤ 12) : iUsh x i ≠ 0 := by
  have hs : ∀ k : Nat, k < 32 → (((Int32.ofInt (k : Int)).toUInt32 &&& Int32.toUInt32 31).toBitVec % 32).toNat = k := by decide
  have hs1 := hs i.toNat (by omega)
  rw [Int.toNat_of_nonneg i0] at hs1
  intro he
  have h1 := pk_ushr (Int32.ofInt x) (Int32.ofInt i) i.toNat hs1
  have h2 : (Int32.ofInt x).toBitVec.toNat = (x + 4294967296).toNat := by
    rw [Int32.toBitVec_ofInt, BitVec.toNat_ofInt]
    congr 1
    have := h.1
    omega
  have h3 : 2 ^ i.toNat ≤ 2 ^ 12 := Nat.pow_le_pow_right (by decide) (by omega)
  have h4 : 0 < 2 ^ i.toNat := Nat.pow_pos (by decide)
  have h5 : 1 ≤ (x + 4294967296).toNat / 2 ^ i.toNat := (Nat.le_div_iff_mul_le h4).mpr (by have := h.1; omega)
  unfold iUsh at he
  have h6 : ((Int32.ofInt x).toUInt32 >>> ((Int32.ofInt i).toUInt32 &&& Int32.toUInt32 31)).toInt32.toBitVec.toInt = 0 := he
  rw [BitVec.toInt_eq_toNat_cond] at h6
  have h7 := BitVec.isLt ((Int32.ofInt x).toUInt32 >>> ((Int32.ofInt i).toUInt32 &&& Int32.toUInt32 31)).toInt32.toBitVec
  rw [h2] at h1
  split at h6 <;> omega
set_option maxRecDepth 100000 in
set_option maxHeartbeats 4000000 in
theorem s_order {l : Launch} {t dr tx : Nat} {w : zW} (ht : t = 4 ∨ t = 10) {S : Int} (hS : inR S) (hn0 : 0 ≤ w t 5) (hn : w t 5 ≤ 12) (hok : okO (w 63) (w 64) (yTrav w t)) : zSp l mX11_order false 7 0 0 [zR 0, zI S] (ZZ t dr tx) w (fun v' S' w' => S' = (ZZ t dr tx) ∧ ((¬ okS S (w t 5) ∧ v' = some (zI (-1)) ∧ w' = w) ∨ (okS S (w t 5) ∧ ∃ n : Nat, popN (tb S) = n ∧ n ≤ 9 ∧ v' = some (zI (oC (w 63) (w 64) (yTrav w t) n (tb S) (-1))) ∧ (∀ c i, c ≠ 65 → c ≠ 66 → c ≠ 67 → c ≠ 68 → (c ≠ 62 ∨ (i ≠ 3 ∧ i ≠ 5)) → w' c i = w c i) ∧ w' 62 3 = n ∧ ∀ i : Int, 0 ≤ i → i < n → w' 65 i = orow (w 63) (w 64) (yTrav w t) n (tb S) (-1) i))) zNo := by
  refine zA_intro ⟨plainFor_of_name (by decide +kernel), Or.inl (by decide +kernel)⟩ rfl (Nat.le_of_ble_eq_true rfl) ?_
  have hur : inR (iUsh S (w t 5)) := inR_t _
  refine zA_range (fun hr => ?_)
  show zA l mX11_order false 7 0 0 (fun v' S' w' => S' = (ZZ t dr tx) ∧ ((¬ okS S (w t 5) ∧ v' = some (zI (-1)) ∧ w' = w) ∨ (okS S (w t 5) ∧ ∃ n : Nat, popN (tb S) = n ∧ n ≤ 9 ∧ v' = some (zI (oC (w 63) (w 64) (yTrav w t) n (tb S) (-1))) ∧ (∀ c i, c ≠ 65 → c ≠ 66 → c ≠ 67 → c ≠ 68 → (c ≠ 62 ∨ (i ≠ 3 ∧ i ≠ 5)) → w' c i = w c i) ∧ w' 62 3 = n ∧ ∀ i : Int, 0 ≤ i → i < n → w' 65 i = orow (w 63) (w 64) (yTrav w t) n (tb S) (-1) i))) zNo 0 [zR 0, zI S] [] (ZZ t dr tx) w
  refine zA_iload_n dX11_order_0 rfl ?_
  refine zA_if_eq (tgt := 25) dX11_order_1 (by decide) (by first | assumption | exact hr _ _ | exact inR_mk (by omega) (by omega)) (fun c1 => ?_) (fun c1 => ?_)
  · skip
    refine zA_iconst dX11_order_25 ?_
    refine zA_iret dX11_order_26 rfl ?_
    refine ⟨rfl, Or.inl ⟨fun h => ?_, rfl, rfl⟩⟩
    obtain ⟨a, b, c⟩ := h
    first
    | omega
    | (have h := iUsh_d (show 0 ≤ S by omega) hS.2 hn0 (show w t 5 < 32 by omega)
       rw [b] at h
       exact c13 h)
  · skip
    refine zA_iload_n dX11_order_4 rfl ?_
    refine zA_aload_n dX11_order_5 rfl ?_
    refine zA_getR (n := t) dX11_order_6 fX11_30 c0 rfl ?_
    refine zA_getI dX11_order_9 fX11_136 (cY0 ht) rfl ?_
    refine zA_valI (w t 5) rfl ?_
    refine zA_iushr dX11_order_12 ?_
    refine zA_if_ne (tgt := 25) dX11_order_13 (by decide) (by first | assumption | exact hr _ _ | exact inR_mk (by omega) (by omega)) (fun c13 => ?_) (fun c13 => ?_)
    · skip
      refine zA_iconst dX11_order_25 ?_
      refine zA_iret dX11_order_26 rfl ?_
      refine ⟨rfl, Or.inl ⟨fun h => ?_, rfl, rfl⟩⟩
      obtain ⟨a, b, c⟩ := h
      first
      | omega
      | (have h := iUsh_d (show 0 ≤ S by omega) hS.2 hn0 (show w t 5 < 32 by omega)
         rw [b] at h
         exact c13 h)
    · skip
      have hS0 : 0 ≤ S := Classical.byContradiction (fun h => iUsh_neg hS (by omega) hn0 hn c13)
      have hdz : S.toNat / 2 ^ (w t 5).toNat = 0 := by
        have h := iUsh_d hS0 hS.2 hn0 (show w t 5 < 32 by omega)
        rw [c13] at h
        omega
      have hS4 := okS_lt hS0 hn hdz
      have hpb := popc_b S
      have hpp := popN_popc hS4
      refine zA_iload_n dX11_order_16 rfl ?_
      refine zA_cS (st := []) dX11_order_17 sJ6_bitCount_0f7a4 kX11_411 (s_bitCount (w := w) (S := (ZZ t dr tx)) (a := S) hS0 (by omega)) (by decide) rfl rfl (Nat.le_of_ble_eq_true rfl) (zRt_el ?_)
      show zA l mX11_order false 7 0 0 (fun v' S' w' => S' = (ZZ t dr tx) ∧ ((¬ okS S (w t 5) ∧ v' = some (zI (-1)) ∧ w' = w) ∨ (okS S (w t 5) ∧ ∃ n : Nat, popN (tb S) = n ∧ n ≤ 9 ∧ v' = some (zI (oC (w 63) (w 64) (yTrav w t) n (tb S) (-1))) ∧ (∀ c i, c ≠ 65 → c ≠ 66 → c ≠ 67 → c ≠ 68 → (c ≠ 62 ∨ (i ≠ 3 ∧ i ≠ 5)) → w' c i = w c i) ∧ w' 62 3 = n ∧ ∀ i : Int, 0 ≤ i → i < n → w' 65 i = orow (w 63) (w 64) (yTrav w t) n (tb S) (-1) i))) zNo 20 [zR 0, zI S] [zI (popc S)] (ZZ t dr tx) w
      refine zA_bipush dX11_order_20 rfl ?_
      refine zA_icmp_le (tgt := 27) dX11_order_22 (by decide) (by first | assumption | exact hr _ _ | exact inR_mk (by omega) (by omega)) ⟨by decide, by decide⟩ (fun c22 => ?_) (fun c22 => ?_)
      · skip
        obtain ⟨n, hpn⟩ : ∃ n : Nat, popN (tb S) = n := ⟨(popc S).toNat, by omega⟩
        refine zA_aload_n dX11_order_27 rfl ?_
        refine zA_getR (n := 62) dX11_order_28 fX11_92 c0 rfl ?_
        refine zA_aload_n dX11_order_31 rfl ?_
        refine zA_getR (n := t) dX11_order_32 fX11_30 c0 rfl ?_
        refine zA_iload_n dX11_order_35 rfl ?_
        refine zA_cV (st := []) dX11_order_36 vX4_make kX11_416 (s_makeO (w := w) ht (S := S) (by omega) hS4 (by omega) hok hpn) (by decide) c62 rfl rfl (Nat.le_of_ble_eq_true rfl) rfl (fun q_1_v q_1_S q_1_w q_1 => ?_)
        obtain ⟨rfl, rfl, hff, hf3, hfr⟩ := q_1
        refine zA_range (fun hr => ?_)
        show zA l mX11_order false 7 0 0 (fun v' S' w' => S' = (ZZ t dr tx) ∧ ((¬ okS S (w t 5) ∧ v' = some (zI (-1)) ∧ w' = w) ∨ (okS S (w t 5) ∧ ∃ n : Nat, popN (tb S) = n ∧ n ≤ 9 ∧ v' = some (zI (oC (w 63) (w 64) (yTrav w t) n (tb S) (-1))) ∧ (∀ c i, c ≠ 65 → c ≠ 66 → c ≠ 67 → c ≠ 68 → (c ≠ 62 ∨ (i ≠ 3 ∧ i ≠ 5)) → w' c i = w c i) ∧ w' 62 3 = n ∧ ∀ i : Int, 0 ≤ i → i < n → w' 65 i = orow (w 63) (w 64) (yTrav w t) n (tb S) (-1) i))) zNo 39 [zR 0, zI S] [zI (oC (w 63) (w 64) (yTrav w t) n (tb S) (-1))] (ZZ t dr tx) q_1_w
        refine zA_iret dX11_order_39 rfl ?_
        exact ⟨rfl, Or.inr ⟨⟨by omega, hdz, by omega⟩, n, hpn, by omega, rfl, hff, hf3, hfr⟩⟩
      · skip
        refine zA_iconst dX11_order_25 ?_
        refine zA_iret dX11_order_26 rfl ?_
        refine ⟨rfl, Or.inl ⟨fun h => ?_, rfl, rfl⟩⟩
        obtain ⟨a, b, c⟩ := h
        first
        | omega
        | (have h := iUsh_d (show 0 ≤ S by omega) hS.2 hn0 (show w t 5 < 32 by omega)
           rw [b] at h
           exact c13 h)

