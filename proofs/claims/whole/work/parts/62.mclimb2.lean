/-! climbing, in the reference: public methods -/
set_option maxRecDepth 100000 in
set_option maxHeartbeats 4000000 in
theorem m_be {l : Launch} {w : zW} {S : zS} {q q2 n : Nat} (hq : S[q]? = some (.inl (0, n))) (hq2 : S[q2]? = some (.inl (0, n))) (hn : n < 100000) (hne : q ≠ q2) : zSp l mX12_be false 1 0 0 [zR q, zR q2] S w (fun v' S' w' => v' = none ∧ S' = S ∧ only q w w' ∧ ∀ x : Int, 0 ≤ x → x < n → w' q x = w q2 x) zNo := by
  refine zA_intro ⟨plainFor_of_name (by decide +kernel), Or.inl (by decide +kernel)⟩ rfl (Nat.le_of_ble_eq_true rfl) ?_
  refine zA_range (fun hr => ?_)
  show zA l mX12_be false 1 0 0 (fun v' S' w' => v' = none ∧ S' = S ∧ only q w w' ∧ ∀ x : Int, 0 ≤ x → x < n → w' q x = w q2 x) zNo 0 [zR q, zR q2, .null] [] S w
  refine zA_iconst dX12_be_0 ?_
  refine zA_istore_n (lo1 := [zR q, zR q2, zI 0]) dX12_be_1 (by decide) rfl rfl ?_
  have L2 : ∀ (z2 : Nat) (i : Int) (w1 : zW) (i0 : 0 ≤ i) (i1 : i ≤ n) (hf : only q w w1) (ha : ∀ x : Int, 0 ≤ x → x < i → w1 q x = w q2 x) (zm : (n - i).toNat < z2), zA l mX12_be false 1 0 0 (fun v' S' w' => v' = none ∧ S' = S ∧ only q w w' ∧ ∀ x : Int, 0 ≤ x → x < n → w' q x = w q2 x) zNo 2 [zR q, zR q2, zI i] [] S w1 := by
    intro z2
    induction z2 with
    | zero => intro i w1 i0 i1 hf ha zm; exact absurd zm (Nat.not_lt_zero _)
    | succ z2 ih2 =>
      intro i w1 i0 i1 hf ha zm
      refine zA_range (fun hr => ?_)
      refine zA_iload_n dX12_be_2 rfl ?_
      refine zA_aload_n dX12_be_3 rfl ?_
      refine zA_alen (n := n) dX12_be_4 hq (by decide) ?_
      refine zA_icmp_ge (tgt := 20) dX12_be_5 (by decide) (by first | assumption | exact hr _ _ | exact inR_mk (by omega) (by omega)) (by first | assumption | exact hr _ _ | exact inR_mk (by omega) (by omega)) (fun c5 => ?_) (fun c5 => ?_)
      · skip
        refine zA_vret dX12_be_20 rfl ?_
        exact ⟨rfl, rfl, hf, fun x a b => ha x a (by omega)⟩
      · skip
        refine zA_aload_n dX12_be_8 rfl ?_
        refine zA_iload_n dX12_be_9 rfl ?_
        refine zA_aload_n dX12_be_10 rfl ?_
        refine zA_iload_n dX12_be_11 rfl ?_
        refine zA_iaload dX12_be_12 hq2 (by first | assumption | omega) (by first | assumption | omega) (by omega) ?_
        refine zA_iastore dX12_be_13 (by first | assumption | exact hr _ _ | exact inR_mk (by omega) (by omega)) hq (by first | assumption | omega) (by first | assumption | omega) (by omega) ?_
        refine zA_namew (fun w_1 hw_1 => ?_)
        refine zA_range (fun hr => ?_)
        replace hw_1 : w_1 = up w1 q i (w1 q2 i) := hw_1
        refine zA_iinc (lo1 := [zR q, zR q2, zI (i + 1)]) dX12_be_14 rfl (by decide) rfl rfl ?_
        refine zA_goto (tgt := 2) dX12_be_17 (by decide) ?_
        exact ih2 (i + 1) _ (by omega) (by omega) (by rw [hw_1]; exact only_up hf) (fun x a b => by
                    rw [hw_1]
                    by_cases e : x = i
                    · rw [e, up_same]; exact hf q2 i (fun h => hne h.symm)
                    · rw [up_idx _ _ _ _ e]; exact ha x a (by omega)) (by omega)
  exact L2 _ 0 w (by omega) (by omega) only_rfl (fun x a b => by omega) (Nat.lt_succ_self _)

set_option maxRecDepth 100000 in
set_option maxHeartbeats 4000000 in
theorem m_climb {l : Launch} {t dr tx : Nat} {w : zW} (hn0 : 0 ≤ w 75 0) (hn : w 75 0 ≤ 12) (hr0 : 0 ≤ w 73 44) (hr1 : w 73 44 ≤ 20) (hq0 : 0 ≤ w 78 0) (hq : w 78 0 ≤ 12) (hmu : ∀ x : Int, 0 ≤ x → x < 360 → 0 ≤ w 99 x ∧ w 99 x < 1024) {m c r d : Int} (hm : inR m) (hc : inR c) (hrr : inR r) (hd : inR d) (hgo : ∀ x : Int, 0 ≤ x → x < 7 → -100000 ≤ w 98 x ∧ w 98 x ≤ 100000) (hcc : ∀ c : Int, 0 ≤ c → c < w 75 0 → 1 ≤ w 79 c ∧ w 79 c ≤ 200) (hlv : ∀ r : Int, 0 ≤ r → r < 20 → 0 ≤ w 95 r ∧ w 95 r ≤ 200000) (k0 : 0 ≤ w 73 54) (k1 : w 73 54 ≤ 50) : zSp l mX12_climb false 4 0 0 [zR 73, zI m, zI c, zI r, zI d] (ZZ t dr tx) w (fun v' S' w' => S' = (ZZ t dr tx) ∧ ∃ k, v' = some (zI k) ∧ (rfR ((0 ≤ m ∧ m ≤ 9) ∧ (0 ≤ c ∧ c < w 75 0) ∧ (0 ≤ r ∧ r < w 73 44) ∧ 0 ≤ d ∧ d ≤ 29) (w 80 d) (w 73 46) (∃ k : Int, (0 ≤ k ∧ k < w 78 0) ∧ w 83 (3 * k) = c ∧ w 83 (3 * k + 1) ≤ d ∧ d ≤ w 83 (3 * k + 2)) (∃ ch : Int, (0 ≤ ch ∧ ch < w 75 0) ∧ tb (w 99 (30 * ch + d)) m = true) (5 ≤ m) (w 99 (30 * c + d) % 32 ≠ 0) (w 95 r) (w 79 c)) k ∧ (∀ cc i, cc ≠ 95 → cc ≠ 98 → cc ≠ 99 → cc ≠ 100 → (cc ≠ 73 ∨ (i ≠ 1 ∧ i ≠ 54)) → w' cc i = w cc i) ∧ w' 73 1 = 0 ∧ (∀ x : Int, w' 98 x = if x = k then w 98 k + 1 else w 98 x) ∧ ((k ≠ 0 ∧ (∀ x, w' 95 x = w 95 x) ∧ (∀ x, w' 99 x = w 99 x) ∧ (∀ x, w' 100 x = w 100 x) ∧ w' 73 54 = w 73 54) ∨ (k = 0 ∧ (∀ x : Int, w' 95 x = if x = r then w 95 r - w 79 c else w 95 x) ∧ (∀ x : Int, w' 99 x = if x = 30 * c + d then iOr (w 99 (30 * c + d)) (iShl 1 m) else w 99 x) ∧ w' 73 54 = (min (w 73 54 + 1) 50) ∧ (∀ x : Int, 0 ≤ x → x < 4 * (min (w 73 54 + 1) 50) - 4 → w' 100 x = w 100 (if w 73 54 < 50 then x else x + 4)) ∧ w' 100 (4 * (min (w 73 54 + 1) 50) - 4) = m ∧ w' 100 (4 * (min (w 73 54 + 1) 50) - 3) = c ∧ w' 100 (4 * (min (w 73 54 + 1) 50) - 2) = r ∧ w' 100 (4 * (min (w 73 54 + 1) 50) - 1) = d))) zNo := by
  refine zA_intro ⟨plainFor_of_name (by decide +kernel), Or.inl (by decide +kernel)⟩ rfl (Nat.le_of_ble_eq_true rfl) ?_
  refine zA_range (fun hr => ?_)
  show zA l mX12_climb false 4 0 0 (fun v' S' w' => S' = (ZZ t dr tx) ∧ ∃ k, v' = some (zI k) ∧ (rfR ((0 ≤ m ∧ m ≤ 9) ∧ (0 ≤ c ∧ c < w 75 0) ∧ (0 ≤ r ∧ r < w 73 44) ∧ 0 ≤ d ∧ d ≤ 29) (w 80 d) (w 73 46) (∃ k : Int, (0 ≤ k ∧ k < w 78 0) ∧ w 83 (3 * k) = c ∧ w 83 (3 * k + 1) ≤ d ∧ d ≤ w 83 (3 * k + 2)) (∃ ch : Int, (0 ≤ ch ∧ ch < w 75 0) ∧ tb (w 99 (30 * ch + d)) m = true) (5 ≤ m) (w 99 (30 * c + d) % 32 ≠ 0) (w 95 r) (w 79 c)) k ∧ (∀ cc i, cc ≠ 95 → cc ≠ 98 → cc ≠ 99 → cc ≠ 100 → (cc ≠ 73 ∨ (i ≠ 1 ∧ i ≠ 54)) → w' cc i = w cc i) ∧ w' 73 1 = 0 ∧ (∀ x : Int, w' 98 x = if x = k then w 98 k + 1 else w 98 x) ∧ ((k ≠ 0 ∧ (∀ x, w' 95 x = w 95 x) ∧ (∀ x, w' 99 x = w 99 x) ∧ (∀ x, w' 100 x = w 100 x) ∧ w' 73 54 = w 73 54) ∨ (k = 0 ∧ (∀ x : Int, w' 95 x = if x = r then w 95 r - w 79 c else w 95 x) ∧ (∀ x : Int, w' 99 x = if x = 30 * c + d then iOr (w 99 (30 * c + d)) (iShl 1 m) else w 99 x) ∧ w' 73 54 = (min (w 73 54 + 1) 50) ∧ (∀ x : Int, 0 ≤ x → x < 4 * (min (w 73 54 + 1) 50) - 4 → w' 100 x = w 100 (if w 73 54 < 50 then x else x + 4)) ∧ w' 100 (4 * (min (w 73 54 + 1) 50) - 4) = m ∧ w' 100 (4 * (min (w 73 54 + 1) 50) - 3) = c ∧ w' 100 (4 * (min (w 73 54 + 1) 50) - 2) = r ∧ w' 100 (4 * (min (w 73 54 + 1) 50) - 1) = d))) zNo 0 [zR 73, zI m, zI c, zI r, zI d, .null] [] (ZZ t dr tx) w
  refine zA_aload_n dX12_climb_0 rfl ?_
  refine zA_iconst dX12_climb_1 ?_
  refine zA_putI dX12_climb_2 fX12_182 c73 rfl ⟨by decide, by decide⟩ ⟨rfl, rfl⟩ ?_
  refine zA_namew (fun w_1 hw_1 => ?_)
  refine zA_range (fun hr => ?_)
  replace hw_1 : w_1 = up w 73 1 0 := hw_1
  have ef : ∀ cc i, (cc ≠ 73 ∨ i ≠ 1) → w_1 cc i = w cc i := fun cc i h => by
    by_cases hc : cc = 73
    · subst hc; rw [hw_1, up_idx _ _ _ _ (by omega)]
    · rw [hw_1, up_cell _ _ _ _ hc]
  have ew : ∀ cc, cc ≠ 73 → w_1 cc = w cc := fun cc h => funext fun i => ef cc i (Or.inl h)
  have e1 : w_1 73 1 = 0 := by rw [hw_1, up_same]
  have f44 := ef 73 44 (Or.inr (by decide))
  have f46 := ef 73 46 (Or.inr (by decide))
  refine zA_aload_n dX12_climb_5 rfl ?_
  refine zA_iload_n dX12_climb_6 rfl ?_
  refine zA_iload_n dX12_climb_7 rfl ?_
  refine zA_iload_n dX12_climb_8 rfl ?_
  refine zA_iload dX12_climb_9 rfl ?_
  refine zA_cV (st := []) dX12_climb_11 vX12_refused kX12_448 (m_refused (w := w_1) (by rw [ew 75 (by decide)]; exact hn0) (by rw [ew 75 (by decide)]; exact hn) (by omega) (by omega) (by rw [ew 78 (by decide)]; exact hq0) (by rw [ew 78 (by decide)]; exact hq) (by rw [ew 99 (by decide)]; exact hmu) hm hc hrr hd) (by decide) c73 rfl rfl (Nat.le_of_ble_eq_true rfl) rfl (zRp1_el (fun k hk => ?_))
  rw [ew 75 (by decide), ew 80 (by decide), ew 83 (by decide), ew 78 (by decide), ew 99 (by decide), ew 95 (by decide), ew 79 (by decide), f44, f46] at hk
  have hkb := rfR_b hk
  have hgk := hgo k hkb.1 hkb.2
  have hgk1 : w_1 98 k = w 98 k := ef 98 k (Or.inl (by decide))
  refine zA_istore (lo1 := [zR 73, zI m, zI c, zI r, zI d, zI k]) dX12_climb_14 (by decide) rfl rfl ?_
  refine zA_aload_n dX12_climb_16 rfl ?_
  refine zA_getR (n := 98) dX12_climb_17 fX12_103 c73 rfl ?_
  refine zA_iload dX12_climb_20 rfl ?_
  refine zA_dup2 dX12_climb_22 rfl rfl ?_
  refine zA_iaload dX12_climb_23 c98 (by first | assumption | omega) (by first | assumption | omega) (by decide) ?_
  refine zA_iconst dX12_climb_24 ?_
  refine zA_iadd dX12_climb_25 ?_
  refine zA_iastore dX12_climb_26 (by first | assumption | exact hr _ _ | exact inR_mk (by omega) (by omega)) c98 (by first | assumption | omega) (by first | assumption | omega) (by decide) ?_
  refine zA_namew (fun w_2 hw_2 => ?_)
  refine zA_range (fun hr => ?_)
  replace hw_2 : w_2 = up w_1 98 k ((w_1 98 k) + 1) := hw_2
  have eo : ∀ cc i, cc ≠ 98 → (cc ≠ 73 ∨ i ≠ 1) → w_2 cc i = w cc i := fun cc i h g => by rw [hw_2, up_cell _ _ _ _ h]; exact ef cc i g
  have e98 : ∀ x : Int, w_2 98 x = if x = k then w 98 k + 1 else w 98 x := fun x => by
    rw [hw_2, ew 98 (by decide)]
    by_cases e : x = k
    · rw [if_pos e, e, up_same]
    · rw [if_neg e, up_idx _ _ _ _ e, ew 98 (by decide)]
  have e12 : w_2 73 1 = 0 := by rw [hw_2, up_cell _ _ _ _ (by decide)]; exact e1
  refine zA_iload dX12_climb_27 rfl ?_
  refine zA_if_ne (tgt := 74) dX12_climb_29 (by decide) (by first | assumption | exact hr _ _ | exact inR_mk (by omega) (by omega)) (fun c29 => ?_) (fun c29 => ?_)
  · skip
    refine zA_iload dX12_climb_74 rfl ?_
    refine zA_iret dX12_climb_76 rfl ?_
    exact ⟨rfl, k, rfl, hk, fun cc i a b e f g => eo cc i b (by omega), e12, e98, Or.inl ⟨by omega, fun x => eo 95 x (by decide) (Or.inl (by decide)), fun x => eo 99 x (by decide) (Or.inl (by decide)), fun x => eo 100 x (by decide) (Or.inl (by decide)), eo 73 54 (by decide) (Or.inr (by decide))⟩⟩
  · skip
    have hk0 := rfR_0 hk (by omega)
    obtain ⟨⟨q1, q2, q3, q4⟩, q5⟩ := hk0
    have hcb := hcc c (by omega) (by omega)
    have hlr := hlv r (by omega) (by omega)
    have hmo := hmu (30 * c + d) (by omega) (by omega)
    have hor := tb_or (x := w 99 (30 * c + d)) (i := m) hmo.1 (by omega) (by omega) (by omega)
    have e99 : w_2 99 (30 * c + d) = w 99 (30 * c + d) := eo 99 _ (by decide) (Or.inl (by decide))
    rw [← e99] at hor
    have hor1 := inR_mk (z := iOr (w_2 99 (30 * c + d)) (iShl 1 m)) (by omega) hor.1.2
    refine zA_aload_n dX12_climb_32 rfl ?_
    refine zA_getR (n := 99) dX12_climb_33 fX12_106 c73 rfl ?_
    refine zA_bipush dX12_climb_36 rfl ?_
    refine zA_iload_n dX12_climb_38 rfl ?_
    refine zA_imul dX12_climb_39 ?_
    refine zA_iload dX12_climb_40 rfl ?_
    refine zA_iadd dX12_climb_42 ?_
    refine zA_dup2 dX12_climb_43 rfl rfl ?_
    refine zA_iaload dX12_climb_44 c99 (by first | assumption | omega) (by first | assumption | omega) (by decide) ?_
    refine zA_iconst dX12_climb_45 ?_
    refine zA_iload_n dX12_climb_46 rfl ?_
    refine zA_ishl dX12_climb_47 ?_
    refine zA_ior dX12_climb_48 ?_
    refine zA_iastore dX12_climb_49 (by first | assumption | exact hr _ _ | exact inR_mk (by omega) (by omega)) c99 (by first | assumption | omega) (by first | assumption | omega) (by decide) ?_
    refine zA_namew (fun w_3 hw_3 => ?_)
    refine zA_range (fun hr => ?_)
    replace hw_3 : w_3 = up w_2 99 ((30 * c) + d) (iOr (w_2 99 ((30 * c) + d)) (iShl 1 m)) := hw_3
    have g3 : ∀ cc i, cc ≠ 98 → cc ≠ 99 → (cc ≠ 73 ∨ i ≠ 1) → w_3 cc i = w cc i := fun cc i h h2 g => by rw [hw_3, up_cell _ _ _ _ h2]; exact eo cc i h g
    have f1 : w_3 79 c = w 79 c := g3 79 c (by decide) (by decide) (Or.inl (by decide))
    have f2 : w_3 95 r = w 95 r := g3 95 r (by decide) (by decide) (Or.inl (by decide))
    refine zA_aload_n dX12_climb_50 rfl ?_
    refine zA_getR (n := 95) dX12_climb_51 fX12_94 c73 rfl ?_
    refine zA_iload_n dX12_climb_54 rfl ?_
    refine zA_dup2 dX12_climb_55 rfl rfl ?_
    refine zA_iaload dX12_climb_56 c95 (by first | assumption | omega) (by first | assumption | omega) (by decide) ?_
    refine zA_aload_n dX12_climb_57 rfl ?_
    refine zA_getR (n := 79) dX12_climb_58 fX12_38 c73 rfl ?_
    refine zA_iload_n dX12_climb_61 rfl ?_
    refine zA_iaload dX12_climb_62 c79 (by first | assumption | omega) (by first | assumption | omega) (by decide) ?_
    refine zA_isub dX12_climb_63 ?_
    refine zA_iastore dX12_climb_64 (by first | assumption | exact hr _ _ | exact inR_mk (by omega) (by omega)) c95 (by first | assumption | omega) (by first | assumption | omega) (by decide) ?_
    refine zA_namew (fun w_4 hw_4 => ?_)
    refine zA_range (fun hr => ?_)
    replace hw_4 : w_4 = up w_3 95 r ((w_3 95 r) - (w_3 79 c)) := hw_4
    have g4 : ∀ cc i, cc ≠ 98 → cc ≠ 99 → cc ≠ 95 → (cc ≠ 73 ∨ i ≠ 1) → w_4 cc i = w cc i := fun cc i h h2 h3 g => by rw [hw_4, up_cell _ _ _ _ h3]; exact g3 cc i h h2 g
    have f54 : w_4 73 54 = w 73 54 := g4 73 54 (by decide) (by decide) (by decide) (Or.inr (by decide))
    refine zA_aload_n dX12_climb_65 rfl ?_
    refine zA_iload_n dX12_climb_66 rfl ?_
    refine zA_iload_n dX12_climb_67 rfl ?_
    refine zA_iload_n dX12_climb_68 rfl ?_
    refine zA_iload dX12_climb_69 rfl ?_
    refine zA_cV (st := []) dX12_climb_71 vX12_write kX12_451 (m_write (w := w_4) hm hc hrr hd (by omega) (by omega)) (by decide) c73 rfl rfl (Nat.le_of_ble_eq_true rfl) rfl (fun q_5_v q_5_S q_5_w q_5 => ?_)
    obtain ⟨rfl, rfl, a0, a1, a2, a3, a4, a5, a6⟩ := q_5
    refine zA_range (fun hr => ?_)
    show zA l mX12_climb false 4 0 0 (fun v' S' w' => S' = (ZZ t dr tx) ∧ ∃ k, v' = some (zI k) ∧ (rfR ((0 ≤ m ∧ m ≤ 9) ∧ (0 ≤ c ∧ c < w 75 0) ∧ (0 ≤ r ∧ r < w 73 44) ∧ 0 ≤ d ∧ d ≤ 29) (w 80 d) (w 73 46) (∃ k : Int, (0 ≤ k ∧ k < w 78 0) ∧ w 83 (3 * k) = c ∧ w 83 (3 * k + 1) ≤ d ∧ d ≤ w 83 (3 * k + 2)) (∃ ch : Int, (0 ≤ ch ∧ ch < w 75 0) ∧ tb (w 99 (30 * ch + d)) m = true) (5 ≤ m) (w 99 (30 * c + d) % 32 ≠ 0) (w 95 r) (w 79 c)) k ∧ (∀ cc i, cc ≠ 95 → cc ≠ 98 → cc ≠ 99 → cc ≠ 100 → (cc ≠ 73 ∨ (i ≠ 1 ∧ i ≠ 54)) → w' cc i = w cc i) ∧ w' 73 1 = 0 ∧ (∀ x : Int, w' 98 x = if x = k then w 98 k + 1 else w 98 x) ∧ ((k ≠ 0 ∧ (∀ x, w' 95 x = w 95 x) ∧ (∀ x, w' 99 x = w 99 x) ∧ (∀ x, w' 100 x = w 100 x) ∧ w' 73 54 = w 73 54) ∨ (k = 0 ∧ (∀ x : Int, w' 95 x = if x = r then w 95 r - w 79 c else w 95 x) ∧ (∀ x : Int, w' 99 x = if x = 30 * c + d then iOr (w 99 (30 * c + d)) (iShl 1 m) else w 99 x) ∧ w' 73 54 = (min (w 73 54 + 1) 50) ∧ (∀ x : Int, 0 ≤ x → x < 4 * (min (w 73 54 + 1) 50) - 4 → w' 100 x = w 100 (if w 73 54 < 50 then x else x + 4)) ∧ w' 100 (4 * (min (w 73 54 + 1) 50) - 4) = m ∧ w' 100 (4 * (min (w 73 54 + 1) 50) - 3) = c ∧ w' 100 (4 * (min (w 73 54 + 1) 50) - 2) = r ∧ w' 100 (4 * (min (w 73 54 + 1) 50) - 1) = d))) zNo 74 [zR 73, zI m, zI c, zI r, zI d, zI k] [] (ZZ t dr tx) q_5_w
    refine zA_iload dX12_climb_74 rfl ?_
    refine zA_iret dX12_climb_76 rfl ?_
    rw [f54] at a1 a2 a3 a4 a5 a6
    refine ⟨rfl, k, rfl, hk, fun cc i a b e f g => ?_, ?_, fun x => ?_, Or.inr ⟨by omega, fun x => ?_, fun x => ?_, a1, fun x a b => ?_, a3, a4, a5, a6⟩⟩
    · rw [a0 cc i f (by omega)]; exact g4 cc i b e a (by omega)
    · rw [a0 73 1 (by decide) (Or.inr (by decide)), hw_4, up_cell _ _ _ _ (by decide), hw_3, up_cell _ _ _ _ (by decide)]; exact e12
    · rw [a0 98 x (by decide) (Or.inl (by decide)), hw_4, up_cell _ _ _ _ (by decide), hw_3, up_cell _ _ _ _ (by decide)]; exact e98 x
    · rw [a0 95 x (by decide) (Or.inl (by decide)), hw_4]
      by_cases e : x = r
      · rw [if_pos e, e, up_same, f1, f2]
      · rw [if_neg e, up_idx _ _ _ _ e]; exact g3 95 x (by decide) (by decide) (Or.inl (by decide))
    · rw [a0 99 x (by decide) (Or.inl (by decide)), hw_4, up_cell _ _ _ _ (by decide), hw_3]
      by_cases e : x = 30 * c + d
      · rw [if_pos e, e, up_same, e99]
      · rw [if_neg e, up_idx _ _ _ _ e]; exact eo 99 x (by decide) (Or.inl (by decide))
    · rw [a2 x a b]; exact g4 100 _ (by decide) (by decide) (by decide) (Or.inl (by decide))

set_option maxRecDepth 100000 in
set_option maxHeartbeats 4000000 in
theorem m_back {l : Launch} {t dr tx : Nat} {w : zW} (hmu : ∀ x : Int, 0 ≤ x → x < 360 → 0 ≤ w 99 x ∧ w 99 x < 1024) (hlv : ∀ r : Int, 0 ≤ r → r < 20 → 0 ≤ w 95 r ∧ w 95 r ≤ 200000) (hcy : ∀ c : Int, 0 ≤ c → c < 12 → 0 ≤ w 79 c ∧ w 79 c ≤ 200) (hlg : ∀ i : Int, 0 ≤ i → i < w 73 54 → (0 ≤ w 100 (4 * i) ∧ w 100 (4 * i) < 10) ∧ (0 ≤ w 100 (4 * i + 1) ∧ w 100 (4 * i + 1) < 12) ∧ (0 ≤ w 100 (4 * i + 2) ∧ w 100 (4 * i + 2) < 20) ∧ 0 ≤ w 100 (4 * i + 3) ∧ w 100 (4 * i + 3) < 30) (k0 : 0 ≤ w 73 54) (k1 : w 73 54 ≤ 50) (hg : -100000 ≤ w 98 0 ∧ w 98 0 ≤ 100000) : zSp l mX12_back false 2 0 0 [zR 73] (ZZ t dr tx) w (fun v' S' w' => S' = (ZZ t dr tx) ∧ ((w 73 54 = 0 ∧ v' = some (zI (-1)) ∧ w' = up w 73 1 0) ∨ (w 73 54 ≠ 0 ∧ v' = some (zI (w 100 (4 * (w 73 54 - 1)))) ∧ w' = up (up (up (up (up w 73 1 0) 73 54 (w 73 54 - 1)) 99 (30 * (w 100 (4 * (w 73 54 - 1) + 1)) + (w 100 (4 * (w 73 54 - 1) + 3))) (iAnd (w 99 (30 * (w 100 (4 * (w 73 54 - 1) + 1)) + (w 100 (4 * (w 73 54 - 1) + 3)))) (iXor (iShl 1 (w 100 (4 * (w 73 54 - 1)))) (-1)))) 95 (w 100 (4 * (w 73 54 - 1) + 2)) (w 95 (w 100 (4 * (w 73 54 - 1) + 2)) + w 79 (w 100 (4 * (w 73 54 - 1) + 1)))) 98 0 (w 98 0 - 1)))) zNo := by
  refine zA_intro ⟨plainFor_of_name (by decide +kernel), Or.inl (by decide +kernel)⟩ rfl (Nat.le_of_ble_eq_true rfl) ?_
  refine zA_range (fun hr => ?_)
  show zA l mX12_back false 2 0 0 (fun v' S' w' => S' = (ZZ t dr tx) ∧ ((w 73 54 = 0 ∧ v' = some (zI (-1)) ∧ w' = up w 73 1 0) ∨ (w 73 54 ≠ 0 ∧ v' = some (zI (w 100 (4 * (w 73 54 - 1)))) ∧ w' = up (up (up (up (up w 73 1 0) 73 54 (w 73 54 - 1)) 99 (30 * (w 100 (4 * (w 73 54 - 1) + 1)) + (w 100 (4 * (w 73 54 - 1) + 3))) (iAnd (w 99 (30 * (w 100 (4 * (w 73 54 - 1) + 1)) + (w 100 (4 * (w 73 54 - 1) + 3)))) (iXor (iShl 1 (w 100 (4 * (w 73 54 - 1)))) (-1)))) 95 (w 100 (4 * (w 73 54 - 1) + 2)) (w 95 (w 100 (4 * (w 73 54 - 1) + 2)) + w 79 (w 100 (4 * (w 73 54 - 1) + 1)))) 98 0 (w 98 0 - 1)))) zNo 0 [zR 73, .null, .null] [] (ZZ t dr tx) w
  refine zA_aload_n dX12_back_0 rfl ?_
  refine zA_iconst dX12_back_1 ?_
  refine zA_putI dX12_back_2 fX12_182 c73 rfl ⟨by decide, by decide⟩ ⟨rfl, rfl⟩ ?_
  refine zA_namew (fun w_1 hw_1 => ?_)
  refine zA_range (fun hr => ?_)
  replace hw_1 : w_1 = up w 73 1 0 := hw_1
  have ef : ∀ cc i, (cc ≠ 73 ∨ i ≠ 1) → w_1 cc i = w cc i := fun cc i h => by
    by_cases hc : cc = 73
    · subst hc; rw [hw_1, up_idx _ _ _ _ (by omega)]
    · rw [hw_1, up_cell _ _ _ _ hc]
  have ew : ∀ cc, cc ≠ 73 → w_1 cc = w cc := fun cc h => funext fun i => ef cc i (Or.inl h)
  have e1 : w_1 73 1 = 0 := by rw [hw_1, up_same]
  have f54 : w_1 73 54 = w 73 54 := ef 73 54 (Or.inr (by decide))
  refine zA_aload_n dX12_back_5 rfl ?_
  refine zA_getI dX12_back_6 fX12_305 c73 rfl ?_
  refine zA_valI (w_1 73 54) rfl ?_
  refine zA_if_ne (tgt := 14) dX12_back_9 (by decide) (by first | assumption | exact hr _ _ | exact inR_mk (by omega) (by omega)) (fun c9 => ?_) (fun c9 => ?_)
  · skip
    refine zA_aload_n dX12_back_14 rfl ?_
    refine zA_dup dX12_back_15 rfl ?_
    refine zA_getI dX12_back_16 fX12_305 c73 rfl ?_
    refine zA_valI (w_1 73 54) rfl ?_
    refine zA_iconst dX12_back_19 ?_
    refine zA_isub dX12_back_20 ?_
    refine zA_putI dX12_back_21 fX12_305 c73 rfl (by first | assumption | exact hr _ _ | exact inR_mk (by omega) (by omega)) ⟨rfl, rfl⟩ ?_
    refine zA_namew (fun w_2 hw_2 => ?_)
    refine zA_range (fun hr => ?_)
    replace hw_2 : w_2 = up w_1 73 54 ((w_1 73 54) - 1) := hw_2
    have h54 : w_2 73 54 = w 73 54 - 1 := by rw [hw_2, up_same, f54]
    have eo : ∀ cc i, cc ≠ 73 → w_2 cc i = w cc i := fun cc i h => by rw [hw_2, up_cell _ _ _ _ h]; exact ef cc i (Or.inl h)
    have hlb := hlg (w 73 54 - 1) (by omega) (by omega)
    have hmb := hmu (30 * (w 100 (4 * (w 73 54 - 1) + 1)) + (w 100 (4 * (w 73 54 - 1) + 3))) (by omega) (by omega)
    have hlvb := hlv (w 100 (4 * (w 73 54 - 1) + 2)) (by omega) (by omega)
    have hcb := hcy (w 100 (4 * (w 73 54 - 1) + 1)) (by omega) (by omega)
    have hclr := tb_clr (x := w 99 (30 * (w 100 (4 * (w 73 54 - 1) + 1)) + (w 100 (4 * (w 73 54 - 1) + 3)))) (i := (w 100 (4 * (w 73 54 - 1)))) hmb.1 (by omega) (by omega) (by omega)
    have hclr2 := inR_mk (z := iAnd (w 99 (30 * (w 100 (4 * (w 73 54 - 1) + 1)) + (w 100 (4 * (w 73 54 - 1) + 3)))) (iXor (iShl 1 (w 100 (4 * (w 73 54 - 1)))) (-1))) (by omega) hclr.1.2
    refine zA_aload_n dX12_back_24 rfl ?_
    refine zA_getR (n := 100) dX12_back_25 fX12_109 c73 rfl ?_
    refine zA_iconst dX12_back_28 ?_
    refine zA_aload_n dX12_back_29 rfl ?_
    refine zA_getI dX12_back_30 fX12_305 c73 rfl ?_
    refine zA_valI (w_2 73 54) rfl ?_
    refine zA_imul dX12_back_33 ?_
    refine zA_iaload dX12_back_34 c100 (by first | assumption | omega) (by first | assumption | omega) (by decide) ?_
    refine zA_valI (w 100 (4 * (w 73 54 - 1))) (by rw [h54]; exact eo 100 _ (by decide)) ?_
    refine zA_istore_n (lo1 := [zR 73, zI (w 100 (4 * (w 73 54 - 1))), .null]) dX12_back_35 (by decide) rfl rfl ?_
    refine zA_aload_n dX12_back_36 rfl ?_
    refine zA_getR (n := 100) dX12_back_37 fX12_109 c73 rfl ?_
    refine zA_iconst dX12_back_40 ?_
    refine zA_aload_n dX12_back_41 rfl ?_
    refine zA_getI dX12_back_42 fX12_305 c73 rfl ?_
    refine zA_valI (w_2 73 54) rfl ?_
    refine zA_imul dX12_back_45 ?_
    refine zA_iconst dX12_back_46 ?_
    refine zA_iadd dX12_back_47 ?_
    refine zA_iaload dX12_back_48 c100 (by first | assumption | omega) (by first | assumption | omega) (by decide) ?_
    refine zA_valI (w 100 (4 * (w 73 54 - 1) + 1)) (by rw [h54]; exact eo 100 _ (by decide)) ?_
    refine zA_istore_n (lo1 := [zR 73, zI (w 100 (4 * (w 73 54 - 1))), zI (w 100 (4 * (w 73 54 - 1) + 1))]) dX12_back_49 (by decide) rfl rfl ?_
    refine zA_aload_n dX12_back_50 rfl ?_
    refine zA_getR (n := 99) dX12_back_51 fX12_106 c73 rfl ?_
    refine zA_bipush dX12_back_54 rfl ?_
    refine zA_iload_n dX12_back_56 rfl ?_
    refine zA_imul dX12_back_57 ?_
    refine zA_aload_n dX12_back_58 rfl ?_
    refine zA_getR (n := 100) dX12_back_59 fX12_109 c73 rfl ?_
    refine zA_iconst dX12_back_62 ?_
    refine zA_aload_n dX12_back_63 rfl ?_
    refine zA_getI dX12_back_64 fX12_305 c73 rfl ?_
    refine zA_valI (w_2 73 54) rfl ?_
    refine zA_imul dX12_back_67 ?_
    refine zA_iconst dX12_back_68 ?_
    refine zA_iadd dX12_back_69 ?_
    refine zA_iaload dX12_back_70 c100 (by first | assumption | omega) (by first | assumption | omega) (by decide) ?_
    refine zA_valI (w 100 (4 * (w 73 54 - 1) + 3)) (by rw [h54]; exact eo 100 _ (by decide)) ?_
    refine zA_iadd dX12_back_71 ?_
    refine zA_dup2 dX12_back_72 rfl rfl ?_
    refine zA_iaload dX12_back_73 c99 (by first | assumption | omega) (by first | assumption | omega) (by decide) ?_
    refine zA_iconst dX12_back_74 ?_
    refine zA_iload_n dX12_back_75 rfl ?_
    refine zA_ishl dX12_back_76 ?_
    refine zA_iconst dX12_back_77 ?_
    refine zA_ixor dX12_back_78 ?_
    refine zA_iand dX12_back_79 ?_
    refine zA_valI (iAnd (w 99 (30 * (w 100 (4 * (w 73 54 - 1) + 1)) + (w 100 (4 * (w 73 54 - 1) + 3)))) (iXor (iShl 1 (w 100 (4 * (w 73 54 - 1)))) (-1))) (by rw [eo 99 _ (by decide)]) ?_
    refine zA_iastore dX12_back_80 (by first | assumption | exact hr _ _ | exact inR_mk (by omega) (by omega)) c99 (by first | assumption | omega) (by first | assumption | omega) (by decide) ?_
    refine zA_namew (fun w_3 hw_3 => ?_)
    refine zA_range (fun hr => ?_)
    replace hw_3 : w_3 = up w_2 99 ((30 * (w 100 (4 * (w 73 54 - 1) + 1))) + (w 100 (4 * (w 73 54 - 1) + 3))) (iAnd (w 99 (30 * (w 100 (4 * (w 73 54 - 1) + 1)) + (w 100 (4 * (w 73 54 - 1) + 3)))) (iXor (iShl 1 (w 100 (4 * (w 73 54 - 1)))) (-1))) := hw_3
    have h543 : w_3 73 54 = w 73 54 - 1 := by rw [hw_3, up_cell _ _ _ _ (by decide)]; exact h54
    refine zA_aload_n dX12_back_81 rfl ?_
    refine zA_getR (n := 95) dX12_back_82 fX12_94 c73 rfl ?_
    refine zA_aload_n dX12_back_85 rfl ?_
    refine zA_getR (n := 100) dX12_back_86 fX12_109 c73 rfl ?_
    refine zA_iconst dX12_back_89 ?_
    refine zA_aload_n dX12_back_90 rfl ?_
    refine zA_getI dX12_back_91 fX12_305 c73 rfl ?_
    refine zA_valI (w_3 73 54) rfl ?_
    refine zA_imul dX12_back_94 ?_
    refine zA_iconst dX12_back_95 ?_
    refine zA_iadd dX12_back_96 ?_
    refine zA_iaload dX12_back_97 c100 (by first | assumption | omega) (by first | assumption | omega) (by decide) ?_
    refine zA_valI (w 100 (4 * (w 73 54 - 1) + 2)) (by rw [h543, hw_3, up_cell _ _ _ _ (by decide)]; exact eo 100 _ (by decide)) ?_
    refine zA_dup2 dX12_back_98 rfl rfl ?_
    refine zA_iaload dX12_back_99 c95 (by first | assumption | omega) (by first | assumption | omega) (by decide) ?_
    refine zA_aload_n dX12_back_100 rfl ?_
    refine zA_getR (n := 79) dX12_back_101 fX12_38 c73 rfl ?_
    refine zA_iload_n dX12_back_104 rfl ?_
    refine zA_iaload dX12_back_105 c79 (by first | assumption | omega) (by first | assumption | omega) (by decide) ?_
    refine zA_iadd dX12_back_106 ?_
    refine zA_valI (w 95 (w 100 (4 * (w 73 54 - 1) + 2)) + w 79 (w 100 (4 * (w 73 54 - 1) + 1))) (by rw [hw_3, up_cell _ _ _ _ (by decide), up_cell _ _ _ _ (by decide), eo 95 _ (by decide), eo 79 _ (by decide)]) ?_
    refine zA_iastore dX12_back_107 (by first | assumption | exact hr _ _ | exact inR_mk (by omega) (by omega)) c95 (by first | assumption | omega) (by first | assumption | omega) (by decide) ?_
    refine zA_namew (fun w_4 hw_4 => ?_)
    refine zA_range (fun hr => ?_)
    replace hw_4 : w_4 = up w_3 95 (w 100 (4 * (w 73 54 - 1) + 2)) (w 95 (w 100 (4 * (w 73 54 - 1) + 2)) + w 79 (w 100 (4 * (w 73 54 - 1) + 1))) := hw_4
    refine zA_aload_n dX12_back_108 rfl ?_
    refine zA_getR (n := 98) dX12_back_109 fX12_103 c73 rfl ?_
    refine zA_iconst dX12_back_112 ?_
    refine zA_dup2 dX12_back_113 rfl rfl ?_
    refine zA_iaload dX12_back_114 c98 (by first | assumption | omega) (by first | assumption | omega) (by decide) ?_
    refine zA_iconst dX12_back_115 ?_
    refine zA_isub dX12_back_116 ?_
    refine zA_valI (w 98 0 - 1) (by rw [hw_4, up_cell _ _ _ _ (by decide), hw_3, up_cell _ _ _ _ (by decide), eo 98 _ (by decide)]) ?_
    refine zA_iastore dX12_back_117 (by first | assumption | exact hr _ _ | exact inR_mk (by omega) (by omega)) c98 (by first | assumption | omega) (by first | assumption | omega) (by decide) ?_
    refine zA_namew (fun w_5 hw_5 => ?_)
    refine zA_range (fun hr => ?_)
    replace hw_5 : w_5 = up w_4 98 0 (w 98 0 - 1) := hw_5
    refine zA_iload_n dX12_back_118 rfl ?_
    refine zA_iret dX12_back_119 rfl ?_
    exact ⟨rfl, Or.inr ⟨by omega, rfl, by rw [hw_5, hw_4, hw_3, hw_2, f54, hw_1]⟩⟩
  · skip
    refine zA_iconst dX12_back_12 ?_
    refine zA_iret dX12_back_13 rfl ?_
    exact ⟨rfl, Or.inl ⟨by omega, rfl, hw_1⟩⟩

set_option maxRecDepth 100000 in
set_option maxHeartbeats 4000000 in
theorem m_image {l : Launch} {t dr tx : Nat} {w : zW}  : zSp l mX12_image false 3 0 0 [zR 73] (ZZ t dr tx) w (fun v' S' w' => v' = none ∧ S' = (ZZ t dr tx) ∧ (∀ cc i, cc ≠ 101 → cc ≠ 102 → cc ≠ 103 → cc ≠ 104 → (cc ≠ 73 ∨ (i ≠ 1 ∧ i ≠ 55 ∧ i ≠ 56 ∧ i ≠ 57 ∧ i ≠ 58)) → w' cc i = w cc i) ∧ w' 73 1 = 0 ∧ w' 73 55 = 1 ∧ w' 73 56 = w 73 44 ∧ w' 73 57 = w 73 46 ∧ w' 73 58 = w 73 54 ∧ (∀ x : Int, 0 ≤ x → x < 20 → w' 101 x = w 95 x) ∧ (∀ x : Int, 0 ≤ x → x < 360 → w' 102 x = w 99 x) ∧ (∀ x : Int, 0 ≤ x → x < 7 → w' 103 x = w 98 x) ∧ (∀ x : Int, 0 ≤ x → x < 200 → w' 104 x = w 100 x)) zNo := by
  refine zA_intro ⟨plainFor_of_name (by decide +kernel), Or.inl (by decide +kernel)⟩ rfl (Nat.le_of_ble_eq_true rfl) ?_
  refine zA_range (fun hr => ?_)
  show zA l mX12_image false 3 0 0 (fun v' S' w' => v' = none ∧ S' = (ZZ t dr tx) ∧ (∀ cc i, cc ≠ 101 → cc ≠ 102 → cc ≠ 103 → cc ≠ 104 → (cc ≠ 73 ∨ (i ≠ 1 ∧ i ≠ 55 ∧ i ≠ 56 ∧ i ≠ 57 ∧ i ≠ 58)) → w' cc i = w cc i) ∧ w' 73 1 = 0 ∧ w' 73 55 = 1 ∧ w' 73 56 = w 73 44 ∧ w' 73 57 = w 73 46 ∧ w' 73 58 = w 73 54 ∧ (∀ x : Int, 0 ≤ x → x < 20 → w' 101 x = w 95 x) ∧ (∀ x : Int, 0 ≤ x → x < 360 → w' 102 x = w 99 x) ∧ (∀ x : Int, 0 ≤ x → x < 7 → w' 103 x = w 98 x) ∧ (∀ x : Int, 0 ≤ x → x < 200 → w' 104 x = w 100 x)) zNo 0 [zR 73] [] (ZZ t dr tx) w
  refine zA_aload_n dX12_image_0 rfl ?_
  refine zA_iconst dX12_image_1 ?_
  refine zA_putI dX12_image_2 fX12_182 c73 rfl ⟨by decide, by decide⟩ ⟨rfl, rfl⟩ ?_
  refine zA_namew (fun w_1 hw_1 => ?_)
  refine zA_range (fun hr => ?_)
  replace hw_1 : w_1 = up w 73 1 0 := hw_1
  refine zA_aload_n dX12_image_5 rfl ?_
  refine zA_iconst dX12_image_6 ?_
  refine zA_putI dX12_image_7 fX12_308 c73 rfl ⟨by decide, by decide⟩ ⟨by rfl, by rfl⟩ ?_
  refine zA_namew (fun w_2 hw_2 => ?_)
  refine zA_range (fun hr => ?_)
  replace hw_2 : w_2 = up w_1 73 55 1 := hw_2
  refine zA_aload_n dX12_image_10 rfl ?_
  refine zA_aload_n dX12_image_11 rfl ?_
  refine zA_getI dX12_image_12 fX12_312 c73 rfl ?_
  refine zA_valI (w_2 73 44) rfl ?_
  refine zA_putI dX12_image_15 fX12_454 c73 rfl (by first | assumption | exact hr _ _ | exact inR_mk (by omega) (by omega)) ⟨rfl, rfl⟩ ?_
  refine zA_namew (fun w_3 hw_3 => ?_)
  refine zA_range (fun hr => ?_)
  replace hw_3 : w_3 = up w_2 73 56 (w_2 73 44) := hw_3
  refine zA_aload_n dX12_image_18 rfl ?_
  refine zA_aload_n dX12_image_19 rfl ?_
  refine zA_getI dX12_image_20 fX12_91 c73 rfl ?_
  refine zA_valI (w_3 73 46) rfl ?_
  refine zA_putI dX12_image_23 fX12_457 c73 rfl (by first | assumption | exact hr _ _ | exact inR_mk (by omega) (by omega)) ⟨rfl, rfl⟩ ?_
  refine zA_namew (fun w_4 hw_4 => ?_)
  refine zA_range (fun hr => ?_)
  replace hw_4 : w_4 = up w_3 73 57 (w_3 73 46) := hw_4
  refine zA_aload_n dX12_image_26 rfl ?_
  refine zA_aload_n dX12_image_27 rfl ?_
  refine zA_getI dX12_image_28 fX12_305 c73 rfl ?_
  refine zA_valI (w_4 73 54) rfl ?_
  refine zA_putI dX12_image_31 fX12_460 c73 rfl (by first | assumption | exact hr _ _ | exact inR_mk (by omega) (by omega)) ⟨rfl, rfl⟩ ?_
  refine zA_namew (fun w_5 hw_5 => ?_)
  refine zA_range (fun hr => ?_)
  replace hw_5 : w_5 = up w_4 73 58 (w_4 73 54) := hw_5
  refine zA_aload_n dX12_image_34 rfl ?_
  refine zA_getR (n := 101) dX12_image_35 fX12_112 c73 rfl ?_
  refine zA_aload_n dX12_image_38 rfl ?_
  refine zA_getR (n := 95) dX12_image_39 fX12_94 c73 rfl ?_
  refine zA_cS (st := []) dX12_image_42 sX12_be kX12_463 (m_be (w := w_5) (S := (ZZ t dr tx)) (q := 101) (q2 := 95) (n := 20) c101 c95 (by decide) (by decide)) (by decide) rfl rfl (Nat.le_of_ble_eq_true rfl) (fun q_6_v q_6_S q_6_w q_6 => ?_)
  obtain ⟨rfl, rfl, bf1, bv1⟩ := q_6
  refine zA_range (fun hr => ?_)
  show zA l mX12_image false 3 0 0 (fun v' S' w' => v' = none ∧ S' = (ZZ t dr tx) ∧ (∀ cc i, cc ≠ 101 → cc ≠ 102 → cc ≠ 103 → cc ≠ 104 → (cc ≠ 73 ∨ (i ≠ 1 ∧ i ≠ 55 ∧ i ≠ 56 ∧ i ≠ 57 ∧ i ≠ 58)) → w' cc i = w cc i) ∧ w' 73 1 = 0 ∧ w' 73 55 = 1 ∧ w' 73 56 = w 73 44 ∧ w' 73 57 = w 73 46 ∧ w' 73 58 = w 73 54 ∧ (∀ x : Int, 0 ≤ x → x < 20 → w' 101 x = w 95 x) ∧ (∀ x : Int, 0 ≤ x → x < 360 → w' 102 x = w 99 x) ∧ (∀ x : Int, 0 ≤ x → x < 7 → w' 103 x = w 98 x) ∧ (∀ x : Int, 0 ≤ x → x < 200 → w' 104 x = w 100 x)) zNo 45 [zR 73] [] (ZZ t dr tx) q_6_w
  refine zA_aload_n dX12_image_45 rfl ?_
  refine zA_getR (n := 102) dX12_image_46 fX12_115 c73 rfl ?_
  refine zA_aload_n dX12_image_49 rfl ?_
  refine zA_getR (n := 99) dX12_image_50 fX12_106 c73 rfl ?_
  refine zA_cS (st := []) dX12_image_53 sX12_be kX12_463 (m_be (w := q_6_w) (S := (ZZ t dr tx)) (q := 102) (q2 := 99) (n := 360) c102 c99 (by decide) (by decide)) (by decide) rfl rfl (Nat.le_of_ble_eq_true rfl) (fun q_7_v q_7_S q_7_w q_7 => ?_)
  obtain ⟨rfl, rfl, bf2, bv2⟩ := q_7
  refine zA_range (fun hr => ?_)
  show zA l mX12_image false 3 0 0 (fun v' S' w' => v' = none ∧ S' = (ZZ t dr tx) ∧ (∀ cc i, cc ≠ 101 → cc ≠ 102 → cc ≠ 103 → cc ≠ 104 → (cc ≠ 73 ∨ (i ≠ 1 ∧ i ≠ 55 ∧ i ≠ 56 ∧ i ≠ 57 ∧ i ≠ 58)) → w' cc i = w cc i) ∧ w' 73 1 = 0 ∧ w' 73 55 = 1 ∧ w' 73 56 = w 73 44 ∧ w' 73 57 = w 73 46 ∧ w' 73 58 = w 73 54 ∧ (∀ x : Int, 0 ≤ x → x < 20 → w' 101 x = w 95 x) ∧ (∀ x : Int, 0 ≤ x → x < 360 → w' 102 x = w 99 x) ∧ (∀ x : Int, 0 ≤ x → x < 7 → w' 103 x = w 98 x) ∧ (∀ x : Int, 0 ≤ x → x < 200 → w' 104 x = w 100 x)) zNo 56 [zR 73] [] (ZZ t dr tx) q_7_w
  refine zA_aload_n dX12_image_56 rfl ?_
  refine zA_getR (n := 103) dX12_image_57 fX12_118 c73 rfl ?_
  refine zA_aload_n dX12_image_60 rfl ?_
  refine zA_getR (n := 98) dX12_image_61 fX12_103 c73 rfl ?_
  refine zA_cS (st := []) dX12_image_64 sX12_be kX12_463 (m_be (w := q_7_w) (S := (ZZ t dr tx)) (q := 103) (q2 := 98) (n := 7) c103 c98 (by decide) (by decide)) (by decide) rfl rfl (Nat.le_of_ble_eq_true rfl) (fun q_8_v q_8_S q_8_w q_8 => ?_)
  obtain ⟨rfl, rfl, bf3, bv3⟩ := q_8
  refine zA_range (fun hr => ?_)
  show zA l mX12_image false 3 0 0 (fun v' S' w' => v' = none ∧ S' = (ZZ t dr tx) ∧ (∀ cc i, cc ≠ 101 → cc ≠ 102 → cc ≠ 103 → cc ≠ 104 → (cc ≠ 73 ∨ (i ≠ 1 ∧ i ≠ 55 ∧ i ≠ 56 ∧ i ≠ 57 ∧ i ≠ 58)) → w' cc i = w cc i) ∧ w' 73 1 = 0 ∧ w' 73 55 = 1 ∧ w' 73 56 = w 73 44 ∧ w' 73 57 = w 73 46 ∧ w' 73 58 = w 73 54 ∧ (∀ x : Int, 0 ≤ x → x < 20 → w' 101 x = w 95 x) ∧ (∀ x : Int, 0 ≤ x → x < 360 → w' 102 x = w 99 x) ∧ (∀ x : Int, 0 ≤ x → x < 7 → w' 103 x = w 98 x) ∧ (∀ x : Int, 0 ≤ x → x < 200 → w' 104 x = w 100 x)) zNo 67 [zR 73] [] (ZZ t dr tx) q_8_w
  refine zA_aload_n dX12_image_67 rfl ?_
  refine zA_getR (n := 104) dX12_image_68 fX12_121 c73 rfl ?_
  refine zA_aload_n dX12_image_71 rfl ?_
  refine zA_getR (n := 100) dX12_image_72 fX12_109 c73 rfl ?_
  refine zA_cS (st := []) dX12_image_75 sX12_be kX12_463 (m_be (w := q_8_w) (S := (ZZ t dr tx)) (q := 104) (q2 := 100) (n := 200) c104 c100 (by decide) (by decide)) (by decide) rfl rfl (Nat.le_of_ble_eq_true rfl) (fun q_9_v q_9_S q_9_w q_9 => ?_)
  obtain ⟨rfl, rfl, bf4, bv4⟩ := q_9
  refine zA_range (fun hr => ?_)
  show zA l mX12_image false 3 0 0 (fun v' S' w' => v' = none ∧ S' = (ZZ t dr tx) ∧ (∀ cc i, cc ≠ 101 → cc ≠ 102 → cc ≠ 103 → cc ≠ 104 → (cc ≠ 73 ∨ (i ≠ 1 ∧ i ≠ 55 ∧ i ≠ 56 ∧ i ≠ 57 ∧ i ≠ 58)) → w' cc i = w cc i) ∧ w' 73 1 = 0 ∧ w' 73 55 = 1 ∧ w' 73 56 = w 73 44 ∧ w' 73 57 = w 73 46 ∧ w' 73 58 = w 73 54 ∧ (∀ x : Int, 0 ≤ x → x < 20 → w' 101 x = w 95 x) ∧ (∀ x : Int, 0 ≤ x → x < 360 → w' 102 x = w 99 x) ∧ (∀ x : Int, 0 ≤ x → x < 7 → w' 103 x = w 98 x) ∧ (∀ x : Int, 0 ≤ x → x < 200 → w' 104 x = w 100 x)) zNo 78 [zR 73] [] (ZZ t dr tx) q_9_w
  refine zA_vret dX12_image_78 rfl ?_
  have u : ∀ c i, c ≠ 73 → w_5 c i = w c i := fun c i h => by rw [hw_5, up_cell _ _ _ _ h, hw_4, up_cell _ _ _ _ h, hw_3, up_cell _ _ _ _ h, hw_2, up_cell _ _ _ _ h, hw_1, up_cell _ _ _ _ h]
  have z : ∀ i, q_9_w 73 i = w_5 73 i := fun i => by rw [bf4 73 i (by decide), bf3 73 i (by decide), bf2 73 i (by decide), bf1 73 i (by decide)]
  refine ⟨rfl, rfl, fun c i h1 h2 h3 h4 h5 => ?_, ?_, ?_, ?_, ?_, ?_, fun x a b => ?_, fun x a b => ?_, fun x a b => ?_, fun x a b => ?_⟩
  · rw [bf4 c i h4, bf3 c i h3, bf2 c i h2, bf1 c i h1]
    by_cases hc : c = 73
    · subst hc
      rw [hw_5, up_idx _ _ _ _ (by omega), hw_4, up_idx _ _ _ _ (by omega), hw_3, up_idx _ _ _ _ (by omega), hw_2, up_idx _ _ _ _ (by omega), hw_1, up_idx _ _ _ _ (by omega)]
    · exact u c i hc
  · rw [z]; simp [hw_5, hw_4, hw_3, hw_2, hw_1, up]
  · rw [z]; simp [hw_5, hw_4, hw_3, hw_2, hw_1, up]
  · rw [z]; simp [hw_5, hw_4, hw_3, hw_2, hw_1, up]
  · rw [z]; simp [hw_5, hw_4, hw_3, hw_2, hw_1, up]
  · rw [z]; simp [hw_5, hw_4, hw_3, hw_2, hw_1, up]
  · rw [bf4 101 x (by decide), bf3 101 x (by decide), bf2 101 x (by decide), bv1 x a b]; exact u 95 x (by decide)
  · rw [bf4 102 x (by decide), bf3 102 x (by decide), bv2 x a b, bf1 99 x (by decide)]; exact u 99 x (by decide)
  · rw [bf4 103 x (by decide), bv3 x a b, bf2 98 x (by decide), bf1 98 x (by decide)]; exact u 98 x (by decide)
  · rw [bv4 x a b, bf3 100 x (by decide), bf2 100 x (by decide), bf1 100 x (by decide)]; exact u 100 x (by decide)

set_option maxRecDepth 100000 in
set_option maxHeartbeats 4000000 in
theorem m_restore {l : Launch} {t dr tx : Nat} {w : zW}  : zSp l mX12_restore false 3 0 0 [zR 73] (ZZ t dr tx) w (fun v' S' w' => S' = (ZZ t dr tx) ∧ ((w 73 55 = 0 ∧ v' = some (zI 0) ∧ w' = up w 73 1 0) ∨ (w 73 55 ≠ 0 ∧ v' = some (zI 1) ∧ (∀ cc i, cc ≠ 95 → cc ≠ 98 → cc ≠ 99 → cc ≠ 100 → (cc ≠ 73 ∨ (i ≠ 1 ∧ i ≠ 44 ∧ i ≠ 46 ∧ i ≠ 54)) → w' cc i = w cc i) ∧ w' 73 1 = 0 ∧ w' 73 44 = w 73 56 ∧ w' 73 46 = w 73 57 ∧ w' 73 54 = w 73 58 ∧ (∀ x : Int, 0 ≤ x → x < 20 → w' 95 x = w 101 x) ∧ (∀ x : Int, 0 ≤ x → x < 360 → w' 99 x = w 102 x) ∧ (∀ x : Int, 0 ≤ x → x < 7 → w' 98 x = w 103 x) ∧ (∀ x : Int, 0 ≤ x → x < 200 → w' 100 x = w 104 x)))) zNo := by
  refine zA_intro ⟨plainFor_of_name (by decide +kernel), Or.inl (by decide +kernel)⟩ rfl (Nat.le_of_ble_eq_true rfl) ?_
  refine zA_range (fun hr => ?_)
  show zA l mX12_restore false 3 0 0 (fun v' S' w' => S' = (ZZ t dr tx) ∧ ((w 73 55 = 0 ∧ v' = some (zI 0) ∧ w' = up w 73 1 0) ∨ (w 73 55 ≠ 0 ∧ v' = some (zI 1) ∧ (∀ cc i, cc ≠ 95 → cc ≠ 98 → cc ≠ 99 → cc ≠ 100 → (cc ≠ 73 ∨ (i ≠ 1 ∧ i ≠ 44 ∧ i ≠ 46 ∧ i ≠ 54)) → w' cc i = w cc i) ∧ w' 73 1 = 0 ∧ w' 73 44 = w 73 56 ∧ w' 73 46 = w 73 57 ∧ w' 73 54 = w 73 58 ∧ (∀ x : Int, 0 ≤ x → x < 20 → w' 95 x = w 101 x) ∧ (∀ x : Int, 0 ≤ x → x < 360 → w' 99 x = w 102 x) ∧ (∀ x : Int, 0 ≤ x → x < 7 → w' 98 x = w 103 x) ∧ (∀ x : Int, 0 ≤ x → x < 200 → w' 100 x = w 104 x)))) zNo 0 [zR 73] [] (ZZ t dr tx) w
  refine zA_aload_n dX12_restore_0 rfl ?_
  refine zA_iconst dX12_restore_1 ?_
  refine zA_putI dX12_restore_2 fX12_182 c73 rfl ⟨by decide, by decide⟩ ⟨rfl, rfl⟩ ?_
  refine zA_namew (fun w_1 hw_1 => ?_)
  refine zA_range (fun hr => ?_)
  replace hw_1 : w_1 = up w 73 1 0 := hw_1
  have ef : ∀ cc i, (cc ≠ 73 ∨ i ≠ 1) → w_1 cc i = w cc i := fun cc i h => by
    by_cases hc : cc = 73
    · subst hc; rw [hw_1, up_idx _ _ _ _ (by omega)]
    · rw [hw_1, up_cell _ _ _ _ hc]
  have ew : ∀ cc, cc ≠ 73 → w_1 cc = w cc := fun cc h => funext fun i => ef cc i (Or.inl h)
  have e1 : w_1 73 1 = 0 := by rw [hw_1, up_same]
  have f55 : w_1 73 55 = w 73 55 := ef 73 55 (Or.inr (by decide))
  refine zA_aload_n dX12_restore_5 rfl ?_
  refine zA_getI dX12_restore_6 fX12_308 c73 rfl ?_
  refine zA_valI (w_1 73 55) rfl ?_
  refine zA_if_ne (tgt := 14) dX12_restore_9 (by decide) (by first | assumption | exact hr _ _ | exact inR_mk (by omega) (by omega)) (fun c9 => ?_) (fun c9 => ?_)
  · skip
    refine zA_aload_n dX12_restore_14 rfl ?_
    refine zA_aload_n dX12_restore_15 rfl ?_
    refine zA_getI dX12_restore_16 fX12_454 c73 rfl ?_
    refine zA_valI (w_1 73 56) rfl ?_
    refine zA_putI dX12_restore_19 fX12_312 c73 rfl (by first | assumption | exact hr _ _ | exact inR_mk (by omega) (by omega)) ⟨rfl, rfl⟩ ?_
    refine zA_namew (fun w_2 hw_2 => ?_)
    refine zA_range (fun hr => ?_)
    replace hw_2 : w_2 = up w_1 73 44 (w_1 73 56) := hw_2
    refine zA_aload_n dX12_restore_22 rfl ?_
    refine zA_aload_n dX12_restore_23 rfl ?_
    refine zA_getI dX12_restore_24 fX12_457 c73 rfl ?_
    refine zA_valI (w_2 73 57) rfl ?_
    refine zA_putI dX12_restore_27 fX12_91 c73 rfl (by first | assumption | exact hr _ _ | exact inR_mk (by omega) (by omega)) ⟨rfl, rfl⟩ ?_
    refine zA_namew (fun w_3 hw_3 => ?_)
    refine zA_range (fun hr => ?_)
    replace hw_3 : w_3 = up w_2 73 46 (w_2 73 57) := hw_3
    refine zA_aload_n dX12_restore_30 rfl ?_
    refine zA_aload_n dX12_restore_31 rfl ?_
    refine zA_getI dX12_restore_32 fX12_460 c73 rfl ?_
    refine zA_valI (w_3 73 58) rfl ?_
    refine zA_putI dX12_restore_35 fX12_305 c73 rfl (by first | assumption | exact hr _ _ | exact inR_mk (by omega) (by omega)) ⟨rfl, rfl⟩ ?_
    refine zA_namew (fun w_4 hw_4 => ?_)
    refine zA_range (fun hr => ?_)
    replace hw_4 : w_4 = up w_3 73 54 (w_3 73 58) := hw_4
    refine zA_aload_n dX12_restore_38 rfl ?_
    refine zA_getR (n := 95) dX12_restore_39 fX12_94 c73 rfl ?_
    refine zA_aload_n dX12_restore_42 rfl ?_
    refine zA_getR (n := 101) dX12_restore_43 fX12_112 c73 rfl ?_
    refine zA_cS (st := []) dX12_restore_46 sX12_be kX12_463 (m_be (w := w_4) (S := (ZZ t dr tx)) (q := 95) (q2 := 101) (n := 20) c95 c101 (by decide) (by decide)) (by decide) rfl rfl (Nat.le_of_ble_eq_true rfl) (fun q_5_v q_5_S q_5_w q_5 => ?_)
    obtain ⟨rfl, rfl, bf1, bv1⟩ := q_5
    refine zA_range (fun hr => ?_)
    show zA l mX12_restore false 3 0 0 (fun v' S' w' => S' = (ZZ t dr tx) ∧ ((w 73 55 = 0 ∧ v' = some (zI 0) ∧ w' = up w 73 1 0) ∨ (w 73 55 ≠ 0 ∧ v' = some (zI 1) ∧ (∀ cc i, cc ≠ 95 → cc ≠ 98 → cc ≠ 99 → cc ≠ 100 → (cc ≠ 73 ∨ (i ≠ 1 ∧ i ≠ 44 ∧ i ≠ 46 ∧ i ≠ 54)) → w' cc i = w cc i) ∧ w' 73 1 = 0 ∧ w' 73 44 = w 73 56 ∧ w' 73 46 = w 73 57 ∧ w' 73 54 = w 73 58 ∧ (∀ x : Int, 0 ≤ x → x < 20 → w' 95 x = w 101 x) ∧ (∀ x : Int, 0 ≤ x → x < 360 → w' 99 x = w 102 x) ∧ (∀ x : Int, 0 ≤ x → x < 7 → w' 98 x = w 103 x) ∧ (∀ x : Int, 0 ≤ x → x < 200 → w' 100 x = w 104 x)))) zNo 49 [zR 73] [] (ZZ t dr tx) q_5_w
    refine zA_aload_n dX12_restore_49 rfl ?_
    refine zA_getR (n := 99) dX12_restore_50 fX12_106 c73 rfl ?_
    refine zA_aload_n dX12_restore_53 rfl ?_
    refine zA_getR (n := 102) dX12_restore_54 fX12_115 c73 rfl ?_
    refine zA_cS (st := []) dX12_restore_57 sX12_be kX12_463 (m_be (w := q_5_w) (S := (ZZ t dr tx)) (q := 99) (q2 := 102) (n := 360) c99 c102 (by decide) (by decide)) (by decide) rfl rfl (Nat.le_of_ble_eq_true rfl) (fun q_6_v q_6_S q_6_w q_6 => ?_)
    obtain ⟨rfl, rfl, bf2, bv2⟩ := q_6
    refine zA_range (fun hr => ?_)
    show zA l mX12_restore false 3 0 0 (fun v' S' w' => S' = (ZZ t dr tx) ∧ ((w 73 55 = 0 ∧ v' = some (zI 0) ∧ w' = up w 73 1 0) ∨ (w 73 55 ≠ 0 ∧ v' = some (zI 1) ∧ (∀ cc i, cc ≠ 95 → cc ≠ 98 → cc ≠ 99 → cc ≠ 100 → (cc ≠ 73 ∨ (i ≠ 1 ∧ i ≠ 44 ∧ i ≠ 46 ∧ i ≠ 54)) → w' cc i = w cc i) ∧ w' 73 1 = 0 ∧ w' 73 44 = w 73 56 ∧ w' 73 46 = w 73 57 ∧ w' 73 54 = w 73 58 ∧ (∀ x : Int, 0 ≤ x → x < 20 → w' 95 x = w 101 x) ∧ (∀ x : Int, 0 ≤ x → x < 360 → w' 99 x = w 102 x) ∧ (∀ x : Int, 0 ≤ x → x < 7 → w' 98 x = w 103 x) ∧ (∀ x : Int, 0 ≤ x → x < 200 → w' 100 x = w 104 x)))) zNo 60 [zR 73] [] (ZZ t dr tx) q_6_w
    refine zA_aload_n dX12_restore_60 rfl ?_
    refine zA_getR (n := 98) dX12_restore_61 fX12_103 c73 rfl ?_
    refine zA_aload_n dX12_restore_64 rfl ?_
    refine zA_getR (n := 103) dX12_restore_65 fX12_118 c73 rfl ?_
    refine zA_cS (st := []) dX12_restore_68 sX12_be kX12_463 (m_be (w := q_6_w) (S := (ZZ t dr tx)) (q := 98) (q2 := 103) (n := 7) c98 c103 (by decide) (by decide)) (by decide) rfl rfl (Nat.le_of_ble_eq_true rfl) (fun q_7_v q_7_S q_7_w q_7 => ?_)
    obtain ⟨rfl, rfl, bf3, bv3⟩ := q_7
    refine zA_range (fun hr => ?_)
    show zA l mX12_restore false 3 0 0 (fun v' S' w' => S' = (ZZ t dr tx) ∧ ((w 73 55 = 0 ∧ v' = some (zI 0) ∧ w' = up w 73 1 0) ∨ (w 73 55 ≠ 0 ∧ v' = some (zI 1) ∧ (∀ cc i, cc ≠ 95 → cc ≠ 98 → cc ≠ 99 → cc ≠ 100 → (cc ≠ 73 ∨ (i ≠ 1 ∧ i ≠ 44 ∧ i ≠ 46 ∧ i ≠ 54)) → w' cc i = w cc i) ∧ w' 73 1 = 0 ∧ w' 73 44 = w 73 56 ∧ w' 73 46 = w 73 57 ∧ w' 73 54 = w 73 58 ∧ (∀ x : Int, 0 ≤ x → x < 20 → w' 95 x = w 101 x) ∧ (∀ x : Int, 0 ≤ x → x < 360 → w' 99 x = w 102 x) ∧ (∀ x : Int, 0 ≤ x → x < 7 → w' 98 x = w 103 x) ∧ (∀ x : Int, 0 ≤ x → x < 200 → w' 100 x = w 104 x)))) zNo 71 [zR 73] [] (ZZ t dr tx) q_7_w
    refine zA_aload_n dX12_restore_71 rfl ?_
    refine zA_getR (n := 100) dX12_restore_72 fX12_109 c73 rfl ?_
    refine zA_aload_n dX12_restore_75 rfl ?_
    refine zA_getR (n := 104) dX12_restore_76 fX12_121 c73 rfl ?_
    refine zA_cS (st := []) dX12_restore_79 sX12_be kX12_463 (m_be (w := q_7_w) (S := (ZZ t dr tx)) (q := 100) (q2 := 104) (n := 200) c100 c104 (by decide) (by decide)) (by decide) rfl rfl (Nat.le_of_ble_eq_true rfl) (fun q_8_v q_8_S q_8_w q_8 => ?_)
    obtain ⟨rfl, rfl, bf4, bv4⟩ := q_8
    refine zA_range (fun hr => ?_)
    show zA l mX12_restore false 3 0 0 (fun v' S' w' => S' = (ZZ t dr tx) ∧ ((w 73 55 = 0 ∧ v' = some (zI 0) ∧ w' = up w 73 1 0) ∨ (w 73 55 ≠ 0 ∧ v' = some (zI 1) ∧ (∀ cc i, cc ≠ 95 → cc ≠ 98 → cc ≠ 99 → cc ≠ 100 → (cc ≠ 73 ∨ (i ≠ 1 ∧ i ≠ 44 ∧ i ≠ 46 ∧ i ≠ 54)) → w' cc i = w cc i) ∧ w' 73 1 = 0 ∧ w' 73 44 = w 73 56 ∧ w' 73 46 = w 73 57 ∧ w' 73 54 = w 73 58 ∧ (∀ x : Int, 0 ≤ x → x < 20 → w' 95 x = w 101 x) ∧ (∀ x : Int, 0 ≤ x → x < 360 → w' 99 x = w 102 x) ∧ (∀ x : Int, 0 ≤ x → x < 7 → w' 98 x = w 103 x) ∧ (∀ x : Int, 0 ≤ x → x < 200 → w' 100 x = w 104 x)))) zNo 82 [zR 73] [] (ZZ t dr tx) q_8_w
    refine zA_iconst dX12_restore_82 ?_
    refine zA_zret dX12_restore_83 rfl (Or.inr rfl) ?_
    have u : ∀ c i, c ≠ 73 → w_4 c i = w c i := fun c i h => by rw [hw_4, up_cell _ _ _ _ h, hw_3, up_cell _ _ _ _ h, hw_2, up_cell _ _ _ _ h, hw_1, up_cell _ _ _ _ h]
    have z : ∀ i, q_8_w 73 i = w_4 73 i := fun i => by rw [bf4 73 i (by decide), bf3 73 i (by decide), bf2 73 i (by decide), bf1 73 i (by decide)]
    refine ⟨rfl, Or.inr ⟨by omega, rfl, fun c i h1 h2 h3 h4 h5 => ?_, ?_, ?_, ?_, ?_, fun x a b => ?_, fun x a b => ?_, fun x a b => ?_, fun x a b => ?_⟩⟩
    · rw [bf4 c i h4, bf3 c i h2, bf2 c i h3, bf1 c i h1]
      by_cases hc : c = 73
      · subst hc
        rw [hw_4, up_idx _ _ _ _ (by omega), hw_3, up_idx _ _ _ _ (by omega), hw_2, up_idx _ _ _ _ (by omega), hw_1, up_idx _ _ _ _ (by omega)]
      · exact u c i hc
    · rw [z]; simp [hw_4, hw_3, hw_2, hw_1, up]
    · rw [z]; simp [hw_4, hw_3, hw_2, hw_1, up]
    · rw [z]; simp [hw_4, hw_3, hw_2, hw_1, up]
    · rw [z]; simp [hw_4, hw_3, hw_2, hw_1, up]
    · rw [bf4 95 x (by decide), bf3 95 x (by decide), bf2 95 x (by decide), bv1 x a b]; exact u 101 x (by decide)
    · rw [bf4 99 x (by decide), bf3 99 x (by decide), bv2 x a b, bf1 102 x (by decide)]; exact u 102 x (by decide)
    · rw [bf4 98 x (by decide), bv3 x a b, bf2 103 x (by decide), bf1 103 x (by decide)]; exact u 103 x (by decide)
    · rw [bv4 x a b, bf3 104 x (by decide), bf2 104 x (by decide), bf1 104 x (by decide)]; exact u 104 x (by decide)
  · skip
    refine zA_iconst dX12_restore_12 ?_
    refine zA_zret dX12_restore_13 rfl (Or.inl rfl) ?_
    exact ⟨rfl, Or.inl ⟨by omega, rfl, hw_1⟩⟩

