/-! trials in the reference -/
def mF (w : zW) : Int → Bool := fun c => decide (w 93 c = 1)
def mKd (w : zW) : Int := if w 73 42 = 0 then 2 else 1
theorem near_eq {i : Int} (h0 : 0 ≤ i) (h1 : i < 14) : iOr (iOr (iShl 1 i) (iShl 1 (i + 1))) (if 0 < i then iShl 1 (i - 1) else 0) = iShr (iShl 7 i) 1 := by
  have h : ∀ k : Nat, k < 14 → iOr (iOr (iShl 1 (k : Int)) (iShl 1 ((k : Int) + 1))) (if 0 < (k : Int) then iShl 1 ((k : Int) - 1) else 0) = iShr (iShl 7 (k : Int)) 1 := by decide +kernel
  have := h i.toNat (by omega)
  rwa [zcast h0] at this
set_option maxRecDepth 100000 in
set_option maxHeartbeats 4000000 in
theorem m_tryAll {l : Launch} {t dr tx : Nat} {w : zW} {n : Int} (n0 : 2 ≤ n) (n1 : n ≤ 14) : zSp l mX12_tryAll false 1 0 0 [zR 73, zI n] (ZZ t dr tx) w (fun v' S' w' => v' = none ∧ S' = (ZZ t dr tx) ∧ (∀ c x, c ≠ 93 → (c ≠ 73 ∨ x ≠ 39) → w' c x = w c x) ∧ w' 73 39 = n ∧ (∀ c : Int, 0 ≤ c → c < ((2 ^ n.toNat : Nat) : Int) → w' 93 c = 1) ∧ ∀ c : Int, ((2 ^ n.toNat : Nat) : Int) ≤ c → w' 93 c = w 93 c) zNo := by
  refine zA_intro ⟨plainFor_of_name (by decide +kernel), Or.inl (by decide +kernel)⟩ rfl (Nat.le_of_ble_eq_true rfl) ?_
  have hpw := pow14 (m := n) (by omega) n1
  refine zA_range (fun hr => ?_)
  show zA l mX12_tryAll false 1 0 0 (fun v' S' w' => v' = none ∧ S' = (ZZ t dr tx) ∧ (∀ c x, c ≠ 93 → (c ≠ 73 ∨ x ≠ 39) → w' c x = w c x) ∧ w' 73 39 = n ∧ (∀ c : Int, 0 ≤ c → c < ((2 ^ n.toNat : Nat) : Int) → w' 93 c = 1) ∧ ∀ c : Int, ((2 ^ n.toNat : Nat) : Int) ≤ c → w' 93 c = w 93 c) zNo 0 [zR 73, zI n, .null] [] (ZZ t dr tx) w
  refine zA_aload_n dX12_tryAll_0 rfl ?_
  refine zA_iload_n dX12_tryAll_1 rfl ?_
  refine zA_putI dX12_tryAll_2 fX12_378 c73 rfl (by first | assumption | exact hr _ _ | exact inR_mk (by omega) (by omega)) ⟨rfl, rfl⟩ ?_
  refine zA_namew (fun w_1 hw_1 => ?_)
  refine zA_range (fun hr => ?_)
  replace hw_1 : w_1 = up w 73 39 n := hw_1
  refine zA_iconst dX12_tryAll_5 ?_
  refine zA_istore_n (lo1 := [zR 73, zI n, zI 0]) dX12_tryAll_6 (by decide) rfl rfl ?_
  have L7 : ∀ (z7 : Nat) (i : Int) (w1 : zW) (i0 : 0 ≤ i) (i1 : i ≤ ((2 ^ n.toNat : Nat) : Int)) (hf : only 93 w_1 w1) (ha : ∀ c : Int, 0 ≤ c → c < i → w1 93 c = 1) (hb : ∀ c : Int, i ≤ c → w1 93 c = w 93 c) (zm : (((2 ^ n.toNat : Nat) : Int) - i).toNat < z7), zA l mX12_tryAll false 1 0 0 (fun v' S' w' => v' = none ∧ S' = (ZZ t dr tx) ∧ (∀ c x, c ≠ 93 → (c ≠ 73 ∨ x ≠ 39) → w' c x = w c x) ∧ w' 73 39 = n ∧ (∀ c : Int, 0 ≤ c → c < ((2 ^ n.toNat : Nat) : Int) → w' 93 c = 1) ∧ ∀ c : Int, ((2 ^ n.toNat : Nat) : Int) ≤ c → w' 93 c = w 93 c) zNo 7 [zR 73, zI n, zI i] [] (ZZ t dr tx) w1 := by
    intro z7
    induction z7 with
    | zero => intro i w1 i0 i1 hf ha hb zm; exact absurd zm (Nat.not_lt_zero _)
    | succ z7 ih7 =>
      intro i w1 i0 i1 hf ha hb zm
      refine zA_range (fun hr => ?_)
      refine zA_iload_n dX12_tryAll_7 rfl ?_
      refine zA_iconst dX12_tryAll_8 ?_
      refine zA_iload_n dX12_tryAll_9 rfl ?_
      refine zA_ishl dX12_tryAll_10 ?_
      refine zA_valI ((2 ^ n.toNat : Nat) : Int) (by rw [iShl_1 (by omega) (by omega)]) ?_
      refine zA_icmp_ge (tgt := 27) dX12_tryAll_11 (by decide) (by first | assumption | exact hr _ _ | exact inR_mk (by omega) (by omega)) (by first | assumption | exact hr _ _ | exact inR_mk (by omega) (by omega)) (fun c11 => ?_) (fun c11 => ?_)
      · skip
        refine zA_vret dX12_tryAll_27 rfl ?_
        exact ⟨rfl, rfl, fun c x a b => by rw [hf c x a, hw_1, up_ne a b], by rw [hf 73 39 (by decide), hw_1, up_same], fun c a b => ha c a (by omega), fun c a => hb c (by omega)⟩
      · skip
        refine zA_aload_n dX12_tryAll_14 rfl ?_
        refine zA_getR (n := 93) dX12_tryAll_15 fX12_84 c73 rfl ?_
        refine zA_iload_n dX12_tryAll_18 rfl ?_
        refine zA_iconst dX12_tryAll_19 ?_
        refine zA_bastore dX12_tryAll_20 rfl (by first | assumption | omega | exact Or.inr rfl) c93 (by first | assumption | omega | exact Or.inr rfl) (by first | assumption | omega | exact Or.inr rfl) (by decide) ?_
        refine zA_namew (fun w_2 hw_2 => ?_)
        refine zA_range (fun hr => ?_)
        replace hw_2 : w_2 = up w1 93 i 1 := hw_2
        refine zA_iinc (lo1 := [zR 73, zI n, zI (i + 1)]) dX12_tryAll_21 rfl (by decide) rfl rfl ?_
        refine zA_goto (tgt := 7) dX12_tryAll_24 (by decide) ?_
        exact ih7 (i + 1) _ (by omega) (by omega) (by rw [hw_2]; exact only_up hf) (fun c a b => by
                    rw [hw_2]
                    by_cases e : c = i
                    · rw [e, up_same]
                    · rw [up_idx _ _ _ _ e]; exact ha c a (by omega)) (fun c a => by rw [hw_2, up_idx _ _ _ _ (by omega)]; exact hb c (by omega)) (by omega)
  exact L7 _ 0 w_1 (by omega) (by omega) only_rfl (fun c a b => by omega) (fun c _ => by rw [hw_1, up_cell _ _ _ _ (by decide)]) (Nat.lt_succ_self _)

set_option maxRecDepth 100000 in
set_option maxHeartbeats 4000000 in
theorem m_asked {l : Launch} {t dr tx : Nat} {w : zW} (p0 : 2 ≤ w 73 39) (p1 : w 73 39 ≤ 14) {c i j : Int} (c0 : 0 ≤ c) (c1 : c < 16384) (hq : tOk (mKd w) (w 73 39) i j) (hj : inR j) : zSp l mX12_asked false 2 0 0 [zR 73, zI c, zI i, zI j] (ZZ t dr tx) w (zRt (some (zI (if w 73 42 = 0 then (if iAnd c (iShr (iShl 7 i) 1) ≠ 0 then 1 else 0) else popc (tX c i j)))) (ZZ t dr tx) w) zNo := by
  refine zA_intro ⟨plainFor_of_name (by decide +kernel), Or.inl (by decide +kernel)⟩ rfl (Nat.le_of_ble_eq_true rfl) ?_
  have hq2 : (w 73 42 = 0 ∧ 0 ≤ i ∧ i < w 73 39) ∨ (w 73 42 ≠ 0 ∧ 0 ≤ i ∧ i < j ∧ j ≤ w 73 39) := by
    unfold mKd tOk at hq
    by_cases h : w 73 42 = 0
    · rw [if_pos h] at hq; omega
    · rw [if_neg h] at hq; omega
  refine zA_range (fun hr => ?_)
  show zA l mX12_asked false 2 0 0 (zRt (some (zI (if w 73 42 = 0 then (if iAnd c (iShr (iShl 7 i) 1) ≠ 0 then 1 else 0) else popc (tX c i j)))) (ZZ t dr tx) w) zNo 0 [zR 73, zI c, zI i, zI j, .null] [] (ZZ t dr tx) w
  refine zA_aload_n dX12_asked_0 rfl ?_
  refine zA_getI dX12_asked_1 fX12_381 c73 rfl ?_
  refine zA_valI (w 73 42) rfl ?_
  refine zA_if_eq (tgt := 22) dX12_asked_4 (by decide) (by first | assumption | exact hr _ _ | exact inR_mk (by omega) (by omega)) (fun c4 => ?_) (fun c4 => ?_)
  · skip
    refine zA_iconst dX12_asked_22 ?_
    refine zA_iload_n dX12_asked_23 rfl ?_
    refine zA_ishl dX12_asked_24 ?_
    refine zA_iconst dX12_asked_25 ?_
    refine zA_iload_n dX12_asked_26 rfl ?_
    refine zA_iconst dX12_asked_27 ?_
    refine zA_iadd dX12_asked_28 ?_
    refine zA_ishl dX12_asked_29 ?_
    refine zA_ior dX12_asked_30 ?_
    refine zA_iload_n dX12_asked_31 rfl ?_
    refine zA_if_le (tgt := 43) dX12_asked_32 (by decide) (by first | assumption | exact hr _ _ | exact inR_mk (by omega) (by omega)) (fun c32 => ?_) (fun c32 => ?_)
    · skip
      refine zA_iconst dX12_asked_43 ?_
      refine zA_ior dX12_asked_44 ?_
      refine zA_valI (iShr (iShl 7 i) 1) (by rw [← near_eq (show 0 ≤ i by omega) (by omega)]; first | rw [if_pos (by omega)] | rw [if_neg (by omega)]) ?_
      have har : inR (iAnd c (iShr (iShl 7 i) 1)) := inR_t _
      refine zA_istore (lo1 := [zR 73, zI c, zI i, zI j, zI (iShr (iShl 7 i) 1)]) dX12_asked_45 (by decide) rfl rfl ?_
      refine zA_iload_n dX12_asked_47 rfl ?_
      refine zA_iload dX12_asked_48 rfl ?_
      refine zA_iand dX12_asked_50 ?_
      refine zA_if_ne (tgt := 58) dX12_asked_51 (by decide) (by first | assumption | exact hr _ _ | exact inR_mk (by omega) (by omega)) (fun c51 => ?_) (fun c51 => ?_)
      · skip
        refine zA_iconst dX12_asked_58 ?_
        refine zA_iret dX12_asked_59 rfl ?_
        exact zRt_i (by rw [if_pos (by omega)]; first | rw [if_pos c51] | rw [if_neg (fun h => h c51)])
      · skip
        refine zA_iconst dX12_asked_54 ?_
        refine zA_goto (tgt := 59) dX12_asked_55 (by decide) ?_
        refine zA_iret dX12_asked_59 rfl ?_
        exact zRt_i (by rw [if_pos (by omega)]; first | rw [if_pos c51] | rw [if_neg (fun h => h c51)])
    · skip
      refine zA_iconst dX12_asked_35 ?_
      refine zA_iload_n dX12_asked_36 rfl ?_
      refine zA_iconst dX12_asked_37 ?_
      refine zA_isub dX12_asked_38 ?_
      refine zA_ishl dX12_asked_39 ?_
      refine zA_goto (tgt := 44) dX12_asked_40 (by decide) ?_
      refine zA_ior dX12_asked_44 ?_
      refine zA_valI (iShr (iShl 7 i) 1) (by rw [← near_eq (show 0 ≤ i by omega) (by omega)]; first | rw [if_pos (by omega)] | rw [if_neg (by omega)]) ?_
      have har : inR (iAnd c (iShr (iShl 7 i) 1)) := inR_t _
      refine zA_istore (lo1 := [zR 73, zI c, zI i, zI j, zI (iShr (iShl 7 i) 1)]) dX12_asked_45 (by decide) rfl rfl ?_
      refine zA_iload_n dX12_asked_47 rfl ?_
      refine zA_iload dX12_asked_48 rfl ?_
      refine zA_iand dX12_asked_50 ?_
      refine zA_if_ne (tgt := 58) dX12_asked_51 (by decide) (by first | assumption | exact hr _ _ | exact inR_mk (by omega) (by omega)) (fun c51 => ?_) (fun c51 => ?_)
      · skip
        refine zA_iconst dX12_asked_58 ?_
        refine zA_iret dX12_asked_59 rfl ?_
        exact zRt_i (by rw [if_pos (by omega)]; first | rw [if_pos c51] | rw [if_neg (fun h => h c51)])
      · skip
        refine zA_iconst dX12_asked_54 ?_
        refine zA_goto (tgt := 59) dX12_asked_55 (by decide) ?_
        refine zA_iret dX12_asked_59 rfl ?_
        exact zRt_i (by rw [if_pos (by omega)]; first | rw [if_pos c51] | rw [if_neg (fun h => h c51)])
  · skip
    refine zA_iload_n dX12_asked_7 rfl ?_
    refine zA_iload_n dX12_asked_8 rfl ?_
    refine zA_ishr dX12_asked_9 ?_
    refine zA_iconst dX12_asked_10 ?_
    refine zA_iload_n dX12_asked_11 rfl ?_
    refine zA_iload_n dX12_asked_12 rfl ?_
    refine zA_isub dX12_asked_13 ?_
    refine zA_ishl dX12_asked_14 ?_
    refine zA_iconst dX12_asked_15 ?_
    refine zA_isub dX12_asked_16 ?_
    refine zA_iand dX12_asked_17 ?_
    refine zA_cS (st := []) dX12_asked_18 sX12_bitsOf kX12_393 (m_bitsOf (w := w) (S := (ZZ t dr tx)) (s := tX c i j) (tX_b c0 c1 (by omega) (by omega) (by omega)).1 (by have := (tX_b c0 c1 (show 0 ≤ i by omega) (show i < j by omega) (by omega)).2; omega)) (by decide) rfl rfl (Nat.le_of_ble_eq_true rfl) (zRt_el ?_)
    show zA l mX12_asked false 2 0 0 (zRt (some (zI (if w 73 42 = 0 then (if iAnd c (iShr (iShl 7 i) 1) ≠ 0 then 1 else 0) else popc (tX c i j)))) (ZZ t dr tx) w) zNo 21 [zR 73, zI c, zI i, zI j, .null] [zI (popc (tX c i j))] (ZZ t dr tx) w
    refine zA_iret dX12_asked_21 rfl ?_
    exact zRt_i (by rw [if_neg (by omega)])

set_option maxRecDepth 100000 in
set_option maxHeartbeats 4000000 in
theorem m_answerOf {l : Launch} {t dr tx : Nat} {w : zW} (p0 : 2 ≤ w 73 39) (p1 : w 73 39 ≤ 14) {c i j : Int} (c0 : 0 ≤ c) (c1 : c < 16384) (hq : tOk (mKd w) (w 73 39) i j) (hj : inR j) : zSp l mX12_answerOf false 3 0 0 [zR 73, zI c, zI i, zI j] (ZZ t dr tx) w (zRt (some (zI (tAn (mKd w) (w 73 40) (w 73 41) c i j))) (ZZ t dr tx) w) zNo := by
  refine zA_intro ⟨plainFor_of_name (by decide +kernel), Or.inl (by decide +kernel)⟩ rfl (Nat.le_of_ble_eq_true rfl) ?_
  refine zA_range (fun hr => ?_)
  show zA l mX12_answerOf false 3 0 0 (zRt (some (zI (tAn (mKd w) (w 73 40) (w 73 41) c i j))) (ZZ t dr tx) w) zNo 0 [zR 73, zI c, zI i, zI j, .null] [] (ZZ t dr tx) w
  refine zA_aload_n dX12_answerOf_0 rfl ?_
  refine zA_iload_n dX12_answerOf_1 rfl ?_
  refine zA_iload_n dX12_answerOf_2 rfl ?_
  refine zA_iload_n dX12_answerOf_3 rfl ?_
  refine zA_cV (st := []) dX12_answerOf_4 vX12_asked kX12_396 (m_asked (w := w) p0 p1 c0 c1 hq hj) (by decide) c73 rfl rfl (Nat.le_of_ble_eq_true rfl) rfl (zRt_el ?_)
  show zA l mX12_answerOf false 3 0 0 (zRt (some (zI (tAn (mKd w) (w 73 40) (w 73 41) c i j))) (ZZ t dr tx) w) zNo 7 [zR 73, zI c, zI i, zI j, .null] [zI (if w 73 42 = 0 then (if iAnd c (iShr (iShl 7 i) 1) ≠ 0 then 1 else 0) else popc (tX c i j))] (ZZ t dr tx) w
  refine zA_istore (lo1 := [zR 73, zI c, zI i, zI j, zI (if w 73 42 = 0 then (if iAnd c (iShr (iShl 7 i) 1) ≠ 0 then 1 else 0) else popc (tX c i j))]) dX12_answerOf_7 (by decide) rfl rfl ?_
  refine zA_aload_n dX12_answerOf_9 rfl ?_
  refine zA_getI dX12_answerOf_10 fX12_381 c73 rfl ?_
  refine zA_valI (w 73 42) rfl ?_
  refine zA_if_eq (tgt := 38) dX12_answerOf_13 (by decide) (by first | assumption | exact hr _ _ | exact inR_mk (by omega) (by omega)) (fun c13 => ?_) (fun c13 => ?_)
  · skip
    refine zA_iload dX12_answerOf_38 rfl ?_
    refine zA_iret dX12_answerOf_40 rfl ?_
    exact zRt_i (by unfold tAn mKd; first | rw [if_pos (by omega), if_pos rfl, if_pos (by omega)] | (rw [if_neg (show ¬ w 73 42 = 0 by omega), if_neg (show ¬ w 73 42 = 0 by omega), if_neg (by decide)]) | (rw [if_pos (show w 73 42 = 0 by omega), if_pos (show w 73 42 = 0 by omega), if_pos rfl]))
  · skip
    refine zA_iload dX12_answerOf_16 rfl ?_
    refine zA_aload_n dX12_answerOf_18 rfl ?_
    refine zA_getI dX12_answerOf_19 fX12_387 c73 rfl ?_
    refine zA_valI (w 73 41) rfl ?_
    refine zA_imul dX12_answerOf_22 ?_
    refine zA_iload_n dX12_answerOf_23 rfl ?_
    refine zA_iload_n dX12_answerOf_24 rfl ?_
    refine zA_isub dX12_answerOf_25 ?_
    refine zA_iload dX12_answerOf_26 rfl ?_
    refine zA_isub dX12_answerOf_28 ?_
    refine zA_aload_n dX12_answerOf_29 rfl ?_
    refine zA_getI dX12_answerOf_30 fX12_384 c73 rfl ?_
    refine zA_valI (w 73 40) rfl ?_
    refine zA_imul dX12_answerOf_33 ?_
    refine zA_iadd dX12_answerOf_34 ?_
    refine zA_goto (tgt := 40) dX12_answerOf_35 (by decide) ?_
    refine zA_iret dX12_answerOf_40 rfl ?_
    exact zRt_i (by unfold tAn mKd; first | rw [if_pos (by omega), if_pos rfl, if_pos (by omega)] | (rw [if_neg (show ¬ w 73 42 = 0 by omega), if_neg (show ¬ w 73 42 = 0 by omega), if_neg (by decide)]) | (rw [if_pos (show w 73 42 = 0 by omega), if_pos (show w 73 42 = 0 by omega), if_pos rfl]))

set_option maxRecDepth 100000 in
set_option maxHeartbeats 4000000 in
theorem m_fitting {l : Launch} {t dr tx : Nat} {w : zW} (p0 : 2 ≤ w 73 39) (p1 : w 73 39 ≤ 14) (hbo : ∀ c : Int, 0 ≤ c → w 93 c = 0 ∨ w 93 c = 1) : zSp l mX12_fitting false 1 0 0 [zR 73] (ZZ t dr tx) w (zRt (some (zI (ixF (mF w) ((2 ^ (w 73 39).toNat : Nat) : Int)))) (ZZ t dr tx) w) zNo := by
  refine zA_intro ⟨plainFor_of_name (by decide +kernel), Or.inl (by decide +kernel)⟩ rfl (Nat.le_of_ble_eq_true rfl) ?_
  have hpw := pow14 (m := w 73 39) (by omega) p1
  refine zA_range (fun hr => ?_)
  show zA l mX12_fitting false 1 0 0 (zRt (some (zI (ixF (mF w) ((2 ^ (w 73 39).toNat : Nat) : Int)))) (ZZ t dr tx) w) zNo 0 [zR 73, .null, .null] [] (ZZ t dr tx) w
  refine zA_iconst dX12_fitting_0 ?_
  refine zA_istore_n (lo1 := [zR 73, zI 0, .null]) dX12_fitting_1 (by decide) rfl rfl ?_
  refine zA_iconst dX12_fitting_2 ?_
  refine zA_istore_n (lo1 := [zR 73, zI 0, zI 0]) dX12_fitting_3 (by decide) rfl rfl ?_
  have L4 : ∀ (z4 : Nat) (m c : Int) (c0 : 0 ≤ c) (c1 : c ≤ ((2 ^ (w 73 39).toNat : Nat) : Int)) (hm : m = ixF (mF w) c) (zm : (((2 ^ (w 73 39).toNat : Nat) : Int) - c).toNat < z4), zA l mX12_fitting false 1 0 0 (zRt (some (zI (ixF (mF w) ((2 ^ (w 73 39).toNat : Nat) : Int)))) (ZZ t dr tx) w) zNo 4 [zR 73, zI m, zI c] [] (ZZ t dr tx) w := by
    intro z4
    induction z4 with
    | zero => intro m c c0 c1 hm zm; exact absurd zm (Nat.not_lt_zero _)
    | succ z4 ih4 =>
      intro m c c0 c1 hm zm
      refine zA_iload_n dX12_fitting_4 rfl ?_
      refine zA_iconst dX12_fitting_5 ?_
      refine zA_aload_n dX12_fitting_6 rfl ?_
      refine zA_getI dX12_fitting_7 fX12_378 c73 rfl ?_
      refine zA_valI (w 73 39) rfl ?_
      refine zA_ishl dX12_fitting_10 ?_
      refine zA_valI ((2 ^ (w 73 39).toNat : Nat) : Int) (by rw [iShl_1 (by omega) (by omega)]) ?_
      refine zA_icmp_ge (tgt := 44) dX12_fitting_11 (by decide) (by first | assumption | exact hr _ _ | exact inR_mk (by omega) (by omega)) (by first | assumption | exact hr _ _ | exact inR_mk (by omega) (by omega)) (fun c11 => ?_) (fun c11 => ?_)
      · skip
        refine zA_iload_n dX12_fitting_44 rfl ?_
        refine zA_iret dX12_fitting_45 rfl ?_
        exact zRt_i (by rw [hm, show c = ((2 ^ (w 73 39).toNat : Nat) : Int) by omega])
      · skip
        refine zA_aload_n dX12_fitting_14 rfl ?_
        refine zA_getI dX12_fitting_15 fX12_378 c73 rfl ?_
        refine zA_valI (w 73 39) rfl ?_
        refine zA_if_le (tgt := 44) dX12_fitting_18 (by decide) (by first | assumption | exact hr _ _ | exact inR_mk (by omega) (by omega)) (fun c18 => ?_) (fun c18 => ?_)
        · skip
          exfalso; omega
        · skip
          refine zA_iload_n dX12_fitting_21 rfl ?_
          refine zA_aload_n dX12_fitting_22 rfl ?_
          refine zA_getR (n := 93) dX12_fitting_23 fX12_84 c73 rfl ?_
          refine zA_iload_n dX12_fitting_26 rfl ?_
          refine zA_baload dX12_fitting_27 c93 (by first | assumption | omega) (by first | assumption | omega) (by decide) ?_
          refine zA_if_eq (tgt := 35) dX12_fitting_28 (by decide) (by first | assumption | exact hr _ _ | exact inR_mk (by omega) (by omega)) (fun c28 => ?_) (fun c28 => ?_)
          · skip
            refine zA_iconst dX12_fitting_35 ?_
            refine zA_iadd dX12_fitting_36 ?_
            refine zA_istore_n (lo1 := [zR 73, zI (m + 0), zI c]) dX12_fitting_37 (by decide) rfl rfl ?_
            refine zA_iinc (lo1 := [zR 73, zI (m + 0), zI (c + 1)]) dX12_fitting_38 rfl (by decide) rfl rfl ?_
            refine zA_goto (tgt := 4) dX12_fitting_41 (by decide) ?_
            exact ih4 _ (c + 1) (by omega) (by omega) (by rw [ixF_s c0, hm]; unfold mF; simp only [decide_eq_true_iff]; have := hbo c c0; split <;> omega) (by omega)
          · skip
            refine zA_iconst dX12_fitting_31 ?_
            refine zA_goto (tgt := 36) dX12_fitting_32 (by decide) ?_
            refine zA_iadd dX12_fitting_36 ?_
            refine zA_istore_n (lo1 := [zR 73, zI (m + 1), zI c]) dX12_fitting_37 (by decide) rfl rfl ?_
            refine zA_iinc (lo1 := [zR 73, zI (m + 1), zI (c + 1)]) dX12_fitting_38 rfl (by decide) rfl rfl ?_
            refine zA_goto (tgt := 4) dX12_fitting_41 (by decide) ?_
            exact ih4 _ (c + 1) (by omega) (by omega) (by rw [ixF_s c0, hm]; unfold mF; simp only [decide_eq_true_iff]; have := hbo c c0; split <;> omega) (by omega)
  exact L4 _ 0 0 (by omega) (by omega) rfl (Nat.lt_succ_self _)

set_option maxRecDepth 100000 in
set_option maxHeartbeats 4000000 in
theorem m_rod {l : Launch} {t dr tx : Nat} {w : zW} {n g b : Int} (hn : inR n) (hg : inR g) (hb : inR b) : zSp l mX12_rod false 3 0 0 [zR 73, zI n, zI g, zI b] (ZZ t dr tx) w (fun v' S' w' => S' = (ZZ t dr tx) ∧ ((¬ ((2 ≤ n ∧ n ≤ 14) ∧ (0 ≤ g ∧ g ≤ 99) ∧ (0 ≤ b ∧ b ≤ 99) ∧ g ≠ b) ∧ v' = some (zI 0) ∧ w' = up w 73 1 0) ∨ (((2 ≤ n ∧ n ≤ 14) ∧ (0 ≤ g ∧ g ≤ 99) ∧ (0 ≤ b ∧ b ≤ 99) ∧ g ≠ b) ∧ v' = some (zI 1) ∧ (∀ c x, c ≠ 93 → (c ≠ 73 ∨ (x ≠ 1 ∧ x ≠ 39 ∧ x ≠ 40 ∧ x ≠ 41 ∧ x ≠ 42)) → w' c x = w c x) ∧ w' 73 1 = 0 ∧ w' 73 39 = n ∧ w' 73 42 = 1 ∧ w' 73 40 = g ∧ w' 73 41 = b ∧ (∀ c : Int, 0 ≤ c → c < ((2 ^ n.toNat : Nat) : Int) → w' 93 c = 1) ∧ ∀ c : Int, ((2 ^ n.toNat : Nat) : Int) ≤ c → w' 93 c = w 93 c))) zNo := by
  refine zA_intro ⟨plainFor_of_name (by decide +kernel), Or.inl (by decide +kernel)⟩ rfl (Nat.le_of_ble_eq_true rfl) ?_
  refine zA_range (fun hr => ?_)
  show zA l mX12_rod false 3 0 0 (fun v' S' w' => S' = (ZZ t dr tx) ∧ ((¬ ((2 ≤ n ∧ n ≤ 14) ∧ (0 ≤ g ∧ g ≤ 99) ∧ (0 ≤ b ∧ b ≤ 99) ∧ g ≠ b) ∧ v' = some (zI 0) ∧ w' = up w 73 1 0) ∨ (((2 ≤ n ∧ n ≤ 14) ∧ (0 ≤ g ∧ g ≤ 99) ∧ (0 ≤ b ∧ b ≤ 99) ∧ g ≠ b) ∧ v' = some (zI 1) ∧ (∀ c x, c ≠ 93 → (c ≠ 73 ∨ (x ≠ 1 ∧ x ≠ 39 ∧ x ≠ 40 ∧ x ≠ 41 ∧ x ≠ 42)) → w' c x = w c x) ∧ w' 73 1 = 0 ∧ w' 73 39 = n ∧ w' 73 42 = 1 ∧ w' 73 40 = g ∧ w' 73 41 = b ∧ (∀ c : Int, 0 ≤ c → c < ((2 ^ n.toNat : Nat) : Int) → w' 93 c = 1) ∧ ∀ c : Int, ((2 ^ n.toNat : Nat) : Int) ≤ c → w' 93 c = w 93 c))) zNo 0 [zR 73, zI n, zI g, zI b] [] (ZZ t dr tx) w
  refine zA_aload_n dX12_rod_0 rfl ?_
  refine zA_iconst dX12_rod_1 ?_
  refine zA_putI dX12_rod_2 fX12_182 c73 rfl ⟨by decide, by decide⟩ ⟨rfl, rfl⟩ ?_
  refine zA_namew (fun w_1 hw_1 => ?_)
  refine zA_range (fun hr => ?_)
  replace hw_1 : w_1 = up w 73 1 0 := hw_1
  have ef : ∀ cc i, (cc ≠ 73 ∨ i ≠ 1) → w_1 cc i = w cc i := fun cc i h => by
    by_cases hc : cc = 73
    · subst hc; rw [hw_1, up_idx _ _ _ _ (by omega)]
    · rw [hw_1, up_cell _ _ _ _ hc]
  have e1 : w_1 73 1 = 0 := by rw [hw_1, up_same]
  refine zA_iload_n dX12_rod_5 rfl ?_
  refine zA_iconst dX12_rod_6 ?_
  refine zA_bipush dX12_rod_7 rfl ?_
  refine zA_cS (st := []) dX12_rod_9 sX12_isIn kX12_185 (m_isIn (w := w_1) (a := n) (b := 2) (e := 14) (by first | assumption | exact hr _ _ | exact inR_mk (by omega) (by omega)) ⟨by decide, by decide⟩ ⟨by decide, by decide⟩) (by decide) rfl rfl (Nat.le_of_ble_eq_true rfl) (zRt_el ?_)
  show zA l mX12_rod false 3 0 0 (fun v' S' w' => S' = (ZZ t dr tx) ∧ ((¬ ((2 ≤ n ∧ n ≤ 14) ∧ (0 ≤ g ∧ g ≤ 99) ∧ (0 ≤ b ∧ b ≤ 99) ∧ g ≠ b) ∧ v' = some (zI 0) ∧ w' = up w 73 1 0) ∨ (((2 ≤ n ∧ n ≤ 14) ∧ (0 ≤ g ∧ g ≤ 99) ∧ (0 ≤ b ∧ b ≤ 99) ∧ g ≠ b) ∧ v' = some (zI 1) ∧ (∀ c x, c ≠ 93 → (c ≠ 73 ∨ (x ≠ 1 ∧ x ≠ 39 ∧ x ≠ 40 ∧ x ≠ 41 ∧ x ≠ 42)) → w' c x = w c x) ∧ w' 73 1 = 0 ∧ w' 73 39 = n ∧ w' 73 42 = 1 ∧ w' 73 40 = g ∧ w' 73 41 = b ∧ (∀ c : Int, 0 ≤ c → c < ((2 ^ n.toNat : Nat) : Int) → w' 93 c = 1) ∧ ∀ c : Int, ((2 ^ n.toNat : Nat) : Int) ≤ c → w' 93 c = w 93 c))) zNo 12 [zR 73, zI n, zI g, zI b] [zI (if 2 ≤ n ∧ n ≤ 14 then 1 else 0)] (ZZ t dr tx) w_1
  refine zA_if_eq (tgt := 40) dX12_rod_12 (by decide) (inR_ite _) (fun c12 => ?_) (fun c12 => ?_)
  · skip
    replace c12 := zite_eq c12
    refine zA_iconst dX12_rod_40 ?_
    refine zA_zret dX12_rod_41 rfl (Or.inl rfl) ?_
    exact ⟨rfl, Or.inl ⟨by omega, rfl, hw_1⟩⟩
  · skip
    replace c12 := zite_ne c12
    refine zA_iload_n dX12_rod_15 rfl ?_
    refine zA_iconst dX12_rod_16 ?_
    refine zA_bipush dX12_rod_17 rfl ?_
    refine zA_cS (st := []) dX12_rod_19 sX12_isIn kX12_185 (m_isIn (w := w_1) (a := g) (b := 0) (e := 99) (by first | assumption | exact hr _ _ | exact inR_mk (by omega) (by omega)) ⟨by decide, by decide⟩ ⟨by decide, by decide⟩) (by decide) rfl rfl (Nat.le_of_ble_eq_true rfl) (zRt_el ?_)
    show zA l mX12_rod false 3 0 0 (fun v' S' w' => S' = (ZZ t dr tx) ∧ ((¬ ((2 ≤ n ∧ n ≤ 14) ∧ (0 ≤ g ∧ g ≤ 99) ∧ (0 ≤ b ∧ b ≤ 99) ∧ g ≠ b) ∧ v' = some (zI 0) ∧ w' = up w 73 1 0) ∨ (((2 ≤ n ∧ n ≤ 14) ∧ (0 ≤ g ∧ g ≤ 99) ∧ (0 ≤ b ∧ b ≤ 99) ∧ g ≠ b) ∧ v' = some (zI 1) ∧ (∀ c x, c ≠ 93 → (c ≠ 73 ∨ (x ≠ 1 ∧ x ≠ 39 ∧ x ≠ 40 ∧ x ≠ 41 ∧ x ≠ 42)) → w' c x = w c x) ∧ w' 73 1 = 0 ∧ w' 73 39 = n ∧ w' 73 42 = 1 ∧ w' 73 40 = g ∧ w' 73 41 = b ∧ (∀ c : Int, 0 ≤ c → c < ((2 ^ n.toNat : Nat) : Int) → w' 93 c = 1) ∧ ∀ c : Int, ((2 ^ n.toNat : Nat) : Int) ≤ c → w' 93 c = w 93 c))) zNo 22 [zR 73, zI n, zI g, zI b] [zI (if 0 ≤ g ∧ g ≤ 99 then 1 else 0)] (ZZ t dr tx) w_1
    refine zA_if_eq (tgt := 40) dX12_rod_22 (by decide) (inR_ite _) (fun c22 => ?_) (fun c22 => ?_)
    · skip
      replace c22 := zite_eq c22
      refine zA_iconst dX12_rod_40 ?_
      refine zA_zret dX12_rod_41 rfl (Or.inl rfl) ?_
      exact ⟨rfl, Or.inl ⟨by omega, rfl, hw_1⟩⟩
    · skip
      replace c22 := zite_ne c22
      refine zA_iload_n dX12_rod_25 rfl ?_
      refine zA_iconst dX12_rod_26 ?_
      refine zA_bipush dX12_rod_27 rfl ?_
      refine zA_cS (st := []) dX12_rod_29 sX12_isIn kX12_185 (m_isIn (w := w_1) (a := b) (b := 0) (e := 99) (by first | assumption | exact hr _ _ | exact inR_mk (by omega) (by omega)) ⟨by decide, by decide⟩ ⟨by decide, by decide⟩) (by decide) rfl rfl (Nat.le_of_ble_eq_true rfl) (zRt_el ?_)
      show zA l mX12_rod false 3 0 0 (fun v' S' w' => S' = (ZZ t dr tx) ∧ ((¬ ((2 ≤ n ∧ n ≤ 14) ∧ (0 ≤ g ∧ g ≤ 99) ∧ (0 ≤ b ∧ b ≤ 99) ∧ g ≠ b) ∧ v' = some (zI 0) ∧ w' = up w 73 1 0) ∨ (((2 ≤ n ∧ n ≤ 14) ∧ (0 ≤ g ∧ g ≤ 99) ∧ (0 ≤ b ∧ b ≤ 99) ∧ g ≠ b) ∧ v' = some (zI 1) ∧ (∀ c x, c ≠ 93 → (c ≠ 73 ∨ (x ≠ 1 ∧ x ≠ 39 ∧ x ≠ 40 ∧ x ≠ 41 ∧ x ≠ 42)) → w' c x = w c x) ∧ w' 73 1 = 0 ∧ w' 73 39 = n ∧ w' 73 42 = 1 ∧ w' 73 40 = g ∧ w' 73 41 = b ∧ (∀ c : Int, 0 ≤ c → c < ((2 ^ n.toNat : Nat) : Int) → w' 93 c = 1) ∧ ∀ c : Int, ((2 ^ n.toNat : Nat) : Int) ≤ c → w' 93 c = w 93 c))) zNo 32 [zR 73, zI n, zI g, zI b] [zI (if 0 ≤ b ∧ b ≤ 99 then 1 else 0)] (ZZ t dr tx) w_1
      refine zA_if_eq (tgt := 40) dX12_rod_32 (by decide) (inR_ite _) (fun c32 => ?_) (fun c32 => ?_)
      · skip
        replace c32 := zite_eq c32
        refine zA_iconst dX12_rod_40 ?_
        refine zA_zret dX12_rod_41 rfl (Or.inl rfl) ?_
        exact ⟨rfl, Or.inl ⟨by omega, rfl, hw_1⟩⟩
      · skip
        replace c32 := zite_ne c32
        refine zA_iload_n dX12_rod_35 rfl ?_
        refine zA_iload_n dX12_rod_36 rfl ?_
        refine zA_icmp_ne (tgt := 42) dX12_rod_37 (by decide) (by first | assumption | exact hr _ _ | exact inR_mk (by omega) (by omega)) (by first | assumption | exact hr _ _ | exact inR_mk (by omega) (by omega)) (fun c37 => ?_) (fun c37 => ?_)
        · skip
          refine zA_aload_n dX12_rod_42 rfl ?_
          refine zA_iconst dX12_rod_43 ?_
          refine zA_putI dX12_rod_44 fX12_381 c73 rfl ⟨by decide, by decide⟩ ⟨by rfl, by rfl⟩ ?_
          refine zA_namew (fun w_2 hw_2 => ?_)
          refine zA_range (fun hr => ?_)
          replace hw_2 : w_2 = up w_1 73 42 1 := hw_2
          refine zA_aload_n dX12_rod_47 rfl ?_
          refine zA_iload_n dX12_rod_48 rfl ?_
          refine zA_putI dX12_rod_49 fX12_384 c73 rfl (by first | assumption | exact hr _ _ | exact inR_mk (by omega) (by omega)) ⟨rfl, rfl⟩ ?_
          refine zA_namew (fun w_3 hw_3 => ?_)
          refine zA_range (fun hr => ?_)
          replace hw_3 : w_3 = up w_2 73 40 g := hw_3
          refine zA_aload_n dX12_rod_52 rfl ?_
          refine zA_iload_n dX12_rod_53 rfl ?_
          refine zA_putI dX12_rod_54 fX12_387 c73 rfl (by first | assumption | exact hr _ _ | exact inR_mk (by omega) (by omega)) ⟨rfl, rfl⟩ ?_
          refine zA_namew (fun w_4 hw_4 => ?_)
          refine zA_range (fun hr => ?_)
          replace hw_4 : w_4 = up w_3 73 41 b := hw_4
          refine zA_aload_n dX12_rod_57 rfl ?_
          refine zA_iload_n dX12_rod_58 rfl ?_
          refine zA_cV (st := []) dX12_rod_59 vX12_tryAll kX12_390 (m_tryAll (w := w_4) (n := n) (by omega) (by omega)) (by decide) c73 rfl rfl (Nat.le_of_ble_eq_true rfl) rfl (fun q_5_v q_5_S q_5_w q_5 => ?_)
          obtain ⟨rfl, rfl, t1, t2, t3, t4⟩ := q_5
          refine zA_range (fun hr => ?_)
          show zA l mX12_rod false 3 0 0 (fun v' S' w' => S' = (ZZ t dr tx) ∧ ((¬ ((2 ≤ n ∧ n ≤ 14) ∧ (0 ≤ g ∧ g ≤ 99) ∧ (0 ≤ b ∧ b ≤ 99) ∧ g ≠ b) ∧ v' = some (zI 0) ∧ w' = up w 73 1 0) ∨ (((2 ≤ n ∧ n ≤ 14) ∧ (0 ≤ g ∧ g ≤ 99) ∧ (0 ≤ b ∧ b ≤ 99) ∧ g ≠ b) ∧ v' = some (zI 1) ∧ (∀ c x, c ≠ 93 → (c ≠ 73 ∨ (x ≠ 1 ∧ x ≠ 39 ∧ x ≠ 40 ∧ x ≠ 41 ∧ x ≠ 42)) → w' c x = w c x) ∧ w' 73 1 = 0 ∧ w' 73 39 = n ∧ w' 73 42 = 1 ∧ w' 73 40 = g ∧ w' 73 41 = b ∧ (∀ c : Int, 0 ≤ c → c < ((2 ^ n.toNat : Nat) : Int) → w' 93 c = 1) ∧ ∀ c : Int, ((2 ^ n.toNat : Nat) : Int) ≤ c → w' 93 c = w 93 c))) zNo 62 [zR 73, zI n, zI g, zI b] [] (ZZ t dr tx) q_5_w
          refine zA_iconst dX12_rod_62 ?_
          refine zA_zret dX12_rod_63 rfl (Or.inr rfl) ?_
          refine ⟨rfl, Or.inr ⟨by omega, rfl, fun c x a e => ?_, ?_, t2, ?_, ?_, ?_, t3, fun c a => ?_⟩⟩
          · rw [t1 c x a (by omega)]
            by_cases hc : c = 73
            · subst hc; simp only [hw_4, hw_3, hw_2, hw_1, up, true_and]; rw [if_neg (by omega), if_neg (by omega), if_neg (by omega), if_neg (by omega)]
            · simp only [hw_4, hw_3, hw_2, hw_1, up, hc, false_and, if_false]
          · rw [t1 73 1 (by decide) (Or.inr (by decide))]; simp [hw_4, hw_3, hw_2, hw_1, up]
          · rw [t1 73 42 (by decide) (Or.inr (by decide))]; simp [hw_4, hw_3, hw_2, hw_1, up]
          · rw [t1 73 40 (by decide) (Or.inr (by decide))]; simp [hw_4, hw_3, hw_2, hw_1, up]
          · rw [t1 73 41 (by decide) (Or.inr (by decide))]; simp [hw_4, hw_3, hw_2, hw_1, up]
          · rw [t4 c a]; simp [hw_4, hw_3, hw_2, hw_1, up]
        · skip
          refine zA_iconst dX12_rod_40 ?_
          refine zA_zret dX12_rod_41 rfl (Or.inl rfl) ?_
          exact ⟨rfl, Or.inl ⟨by omega, rfl, hw_1⟩⟩

set_option maxRecDepth 100000 in
set_option maxHeartbeats 4000000 in
theorem m_wall {l : Launch} {t dr tx : Nat} {w : zW} {n : Int} (hn : inR n) : zSp l mX12_wall false 3 0 0 [zR 73, zI n] (ZZ t dr tx) w (fun v' S' w' => S' = (ZZ t dr tx) ∧ ((¬ (2 ≤ n ∧ n ≤ 14) ∧ v' = some (zI 0) ∧ w' = up w 73 1 0) ∨ ((2 ≤ n ∧ n ≤ 14) ∧ v' = some (zI 1) ∧ (∀ c x, c ≠ 93 → (c ≠ 73 ∨ (x ≠ 1 ∧ x ≠ 39 ∧ x ≠ 40 ∧ x ≠ 41 ∧ x ≠ 42)) → w' c x = w c x) ∧ w' 73 1 = 0 ∧ w' 73 39 = n ∧ w' 73 42 = 0 ∧ w' 73 40 = w 73 40 ∧ w' 73 41 = w 73 41 ∧ (∀ c : Int, 0 ≤ c → c < ((2 ^ n.toNat : Nat) : Int) → w' 93 c = 1) ∧ ∀ c : Int, ((2 ^ n.toNat : Nat) : Int) ≤ c → w' 93 c = w 93 c))) zNo := by
  refine zA_intro ⟨plainFor_of_name (by decide +kernel), Or.inl (by decide +kernel)⟩ rfl (Nat.le_of_ble_eq_true rfl) ?_
  refine zA_range (fun hr => ?_)
  show zA l mX12_wall false 3 0 0 (fun v' S' w' => S' = (ZZ t dr tx) ∧ ((¬ (2 ≤ n ∧ n ≤ 14) ∧ v' = some (zI 0) ∧ w' = up w 73 1 0) ∨ ((2 ≤ n ∧ n ≤ 14) ∧ v' = some (zI 1) ∧ (∀ c x, c ≠ 93 → (c ≠ 73 ∨ (x ≠ 1 ∧ x ≠ 39 ∧ x ≠ 40 ∧ x ≠ 41 ∧ x ≠ 42)) → w' c x = w c x) ∧ w' 73 1 = 0 ∧ w' 73 39 = n ∧ w' 73 42 = 0 ∧ w' 73 40 = w 73 40 ∧ w' 73 41 = w 73 41 ∧ (∀ c : Int, 0 ≤ c → c < ((2 ^ n.toNat : Nat) : Int) → w' 93 c = 1) ∧ ∀ c : Int, ((2 ^ n.toNat : Nat) : Int) ≤ c → w' 93 c = w 93 c))) zNo 0 [zR 73, zI n] [] (ZZ t dr tx) w
  refine zA_aload_n dX12_wall_0 rfl ?_
  refine zA_iconst dX12_wall_1 ?_
  refine zA_putI dX12_wall_2 fX12_182 c73 rfl ⟨by decide, by decide⟩ ⟨rfl, rfl⟩ ?_
  refine zA_namew (fun w_1 hw_1 => ?_)
  refine zA_range (fun hr => ?_)
  replace hw_1 : w_1 = up w 73 1 0 := hw_1
  have ef : ∀ cc i, (cc ≠ 73 ∨ i ≠ 1) → w_1 cc i = w cc i := fun cc i h => by
    by_cases hc : cc = 73
    · subst hc; rw [hw_1, up_idx _ _ _ _ (by omega)]
    · rw [hw_1, up_cell _ _ _ _ hc]
  have e1 : w_1 73 1 = 0 := by rw [hw_1, up_same]
  refine zA_iload_n dX12_wall_5 rfl ?_
  refine zA_iconst dX12_wall_6 ?_
  refine zA_bipush dX12_wall_7 rfl ?_
  refine zA_cS (st := []) dX12_wall_9 sX12_isIn kX12_185 (m_isIn (w := w_1) (a := n) (b := 2) (e := 14) (by first | assumption | exact hr _ _ | exact inR_mk (by omega) (by omega)) ⟨by decide, by decide⟩ ⟨by decide, by decide⟩) (by decide) rfl rfl (Nat.le_of_ble_eq_true rfl) (zRt_el ?_)
  show zA l mX12_wall false 3 0 0 (fun v' S' w' => S' = (ZZ t dr tx) ∧ ((¬ (2 ≤ n ∧ n ≤ 14) ∧ v' = some (zI 0) ∧ w' = up w 73 1 0) ∨ ((2 ≤ n ∧ n ≤ 14) ∧ v' = some (zI 1) ∧ (∀ c x, c ≠ 93 → (c ≠ 73 ∨ (x ≠ 1 ∧ x ≠ 39 ∧ x ≠ 40 ∧ x ≠ 41 ∧ x ≠ 42)) → w' c x = w c x) ∧ w' 73 1 = 0 ∧ w' 73 39 = n ∧ w' 73 42 = 0 ∧ w' 73 40 = w 73 40 ∧ w' 73 41 = w 73 41 ∧ (∀ c : Int, 0 ≤ c → c < ((2 ^ n.toNat : Nat) : Int) → w' 93 c = 1) ∧ ∀ c : Int, ((2 ^ n.toNat : Nat) : Int) ≤ c → w' 93 c = w 93 c))) zNo 12 [zR 73, zI n] [zI (if 2 ≤ n ∧ n ≤ 14 then 1 else 0)] (ZZ t dr tx) w_1
  refine zA_if_ne (tgt := 17) dX12_wall_12 (by decide) (inR_ite _) (fun c12 => ?_) (fun c12 => ?_)
  · skip
    replace c12 := zite_ne c12
    refine zA_aload_n dX12_wall_17 rfl ?_
    refine zA_iconst dX12_wall_18 ?_
    refine zA_putI dX12_wall_19 fX12_381 c73 rfl ⟨by decide, by decide⟩ ⟨by rfl, by rfl⟩ ?_
    refine zA_namew (fun w_2 hw_2 => ?_)
    refine zA_range (fun hr => ?_)
    replace hw_2 : w_2 = up w_1 73 42 0 := hw_2
    refine zA_aload_n dX12_wall_22 rfl ?_
    refine zA_iload_n dX12_wall_23 rfl ?_
    refine zA_cV (st := []) dX12_wall_24 vX12_tryAll kX12_390 (m_tryAll (w := w_2) (n := n) (by omega) (by omega)) (by decide) c73 rfl rfl (Nat.le_of_ble_eq_true rfl) rfl (fun q_3_v q_3_S q_3_w q_3 => ?_)
    obtain ⟨rfl, rfl, t1, t2, t3, t4⟩ := q_3
    refine zA_range (fun hr => ?_)
    show zA l mX12_wall false 3 0 0 (fun v' S' w' => S' = (ZZ t dr tx) ∧ ((¬ (2 ≤ n ∧ n ≤ 14) ∧ v' = some (zI 0) ∧ w' = up w 73 1 0) ∨ ((2 ≤ n ∧ n ≤ 14) ∧ v' = some (zI 1) ∧ (∀ c x, c ≠ 93 → (c ≠ 73 ∨ (x ≠ 1 ∧ x ≠ 39 ∧ x ≠ 40 ∧ x ≠ 41 ∧ x ≠ 42)) → w' c x = w c x) ∧ w' 73 1 = 0 ∧ w' 73 39 = n ∧ w' 73 42 = 0 ∧ w' 73 40 = w 73 40 ∧ w' 73 41 = w 73 41 ∧ (∀ c : Int, 0 ≤ c → c < ((2 ^ n.toNat : Nat) : Int) → w' 93 c = 1) ∧ ∀ c : Int, ((2 ^ n.toNat : Nat) : Int) ≤ c → w' 93 c = w 93 c))) zNo 27 [zR 73, zI n] [] (ZZ t dr tx) q_3_w
    refine zA_iconst dX12_wall_27 ?_
    refine zA_zret dX12_wall_28 rfl (Or.inr rfl) ?_
    refine ⟨rfl, Or.inr ⟨by omega, rfl, fun c x a e => ?_, ?_, t2, ?_, ?_, ?_, t3, fun c a => ?_⟩⟩
    · rw [t1 c x a (by omega)]
      by_cases hc : c = 73
      · subst hc; simp only [hw_2, hw_1, up, true_and]; rw [if_neg (by omega), if_neg (by omega)]
      · simp only [hw_2, hw_1, up, hc, false_and, if_false]
    · rw [t1 73 1 (by decide) (Or.inr (by decide))]; simp [hw_2, hw_1, up]
    · rw [t1 73 42 (by decide) (Or.inr (by decide))]; simp [hw_2, hw_1, up]
    · rw [t1 73 40 (by decide) (Or.inr (by decide))]; simp [hw_2, hw_1, up]
    · rw [t1 73 41 (by decide) (Or.inr (by decide))]; simp [hw_2, hw_1, up]
    · rw [t4 c a]; simp [hw_2, hw_1, up]
  · skip
    replace c12 := zite_eq c12
    refine zA_iconst dX12_wall_15 ?_
    refine zA_zret dX12_wall_16 rfl (Or.inl rfl) ?_
    exact ⟨rfl, Or.inl ⟨by omega, rfl, hw_1⟩⟩

theorem tOk_r {w : zW} {n i j : Int} (h : w 73 42 ≠ 0) : tOk (mKd w) n i j ↔ 0 ≤ i ∧ i < j ∧ j ≤ n := by
  unfold tOk mKd
  rw [if_neg h]; omega
theorem tOk_w {w : zW} {n i j : Int} (h : w 73 42 = 0) : tOk (mKd w) n i j ↔ 0 ≤ i ∧ i < n := by
  unfold tOk mKd
  rw [if_pos h]; omega
theorem isB_ite {P R : Prop} [hp : Decidable P] (h : P ↔ R) : isB R (if P then 1 else 0) := by
  by_cases q : P
  · rw [if_pos q]; exact Or.inl ⟨rfl, h.mp q⟩
  · rw [if_neg q]; exact Or.inr ⟨rfl, fun k => q (h.mpr k)⟩
/-- what fits when one more is told -/
def mFt (w : zW) (i j s : Int) : Int → Bool := fun x => mF w x && decide (tAn (mKd w) (w 73 40) (w 73 41) x i j = s)
set_option maxRecDepth 100000 in
set_option maxHeartbeats 4000000 in
theorem m_tell {l : Launch} {t dr tx : Nat} {w : zW} {i j s : Int} (hi : inR i) (hj : inR j) (hs : inR s) (hp : w 73 39 = 0 ∨ (2 ≤ w 73 39 ∧ w 73 39 ≤ 14)) (hgb : w 73 39 ≠ 0 → (0 ≤ w 73 40 ∧ w 73 40 ≤ 99) ∧ 0 ≤ w 73 41 ∧ w 73 41 ≤ 99) (hbo : ∀ c : Int, 0 ≤ c → w 93 c = 0 ∨ w 93 c = 1) : zSp l mX12_tell false 5 0 0 [zR 73, zI i, zI j, zI s] (ZZ t dr tx) w (fun v' S' w' => S' = (ZZ t dr tx) ∧ ((w 73 39 = 0 ∧ v' = some (zI (-1)) ∧ w' = up w 73 1 0) ∨ (w 73 39 ≠ 0 ∧ ¬ tOk (mKd w) (w 73 39) i j ∧ v' = some (zI 0) ∧ w' = up w 73 1 1) ∨ (w 73 39 ≠ 0 ∧ tOk (mKd w) (w 73 39) i j ∧ v' = some (zI (ixF (mFt w i j s) ((2 ^ (w 73 39).toNat : Nat) : Int))) ∧ (∀ c x, c ≠ 93 → (c ≠ 73 ∨ x ≠ 1) → w' c x = w c x) ∧ w' 73 1 = 0 ∧ (∀ c : Int, 0 ≤ c → c < ((2 ^ (w 73 39).toNat : Nat) : Int) → w' 93 c = if mFt w i j s c = true then 1 else 0) ∧ ∀ c : Int, ((2 ^ (w 73 39).toNat : Nat) : Int) ≤ c → w' 93 c = w 93 c))) zNo := by
  refine zA_intro ⟨plainFor_of_name (by decide +kernel), Or.inl (by decide +kernel)⟩ rfl (Nat.le_of_ble_eq_true rfl) ?_
  refine zA_range (fun hr => ?_)
  show zA l mX12_tell false 5 0 0 (fun v' S' w' => S' = (ZZ t dr tx) ∧ ((w 73 39 = 0 ∧ v' = some (zI (-1)) ∧ w' = up w 73 1 0) ∨ (w 73 39 ≠ 0 ∧ ¬ tOk (mKd w) (w 73 39) i j ∧ v' = some (zI 0) ∧ w' = up w 73 1 1) ∨ (w 73 39 ≠ 0 ∧ tOk (mKd w) (w 73 39) i j ∧ v' = some (zI (ixF (mFt w i j s) ((2 ^ (w 73 39).toNat : Nat) : Int))) ∧ (∀ c x, c ≠ 93 → (c ≠ 73 ∨ x ≠ 1) → w' c x = w c x) ∧ w' 73 1 = 0 ∧ (∀ c : Int, 0 ≤ c → c < ((2 ^ (w 73 39).toNat : Nat) : Int) → w' 93 c = if mFt w i j s c = true then 1 else 0) ∧ ∀ c : Int, ((2 ^ (w 73 39).toNat : Nat) : Int) ≤ c → w' 93 c = w 93 c))) zNo 0 [zR 73, zI i, zI j, zI s, .null, .null] [] (ZZ t dr tx) w
  refine zA_aload_n dX12_tell_0 rfl ?_
  refine zA_iconst dX12_tell_1 ?_
  refine zA_putI dX12_tell_2 fX12_182 c73 rfl ⟨by decide, by decide⟩ ⟨rfl, rfl⟩ ?_
  refine zA_namew (fun w_1 hw_1 => ?_)
  refine zA_range (fun hr => ?_)
  replace hw_1 : w_1 = up w 73 1 0 := hw_1
  have ef : ∀ cc i, (cc ≠ 73 ∨ i ≠ 1) → w_1 cc i = w cc i := fun cc i h => by
    by_cases hc : cc = 73
    · subst hc; rw [hw_1, up_idx _ _ _ _ (by omega)]
    · rw [hw_1, up_cell _ _ _ _ hc]
  have e1 : w_1 73 1 = 0 := by rw [hw_1, up_same]
  have f39 : w_1 73 39 = w 73 39 := ef 73 39 (Or.inr (by decide))
  have f42 : w_1 73 42 = w 73 42 := ef 73 42 (Or.inr (by decide))
  refine zA_aload_n dX12_tell_5 rfl ?_
  refine zA_getI dX12_tell_6 fX12_378 c73 rfl ?_
  refine zA_valI (w_1 73 39) rfl ?_
  refine zA_if_ne (tgt := 14) dX12_tell_9 (by decide) (by first | assumption | exact hr _ _ | exact inR_mk (by omega) (by omega)) (fun c9 => ?_) (fun c9 => ?_)
  · skip
    have p0 : 2 ≤ w 73 39 := by omega
    have p1 : w 73 39 ≤ 14 := by omega
    obtain ⟨⟨g0, g1⟩, b0, b1⟩ := hgb (by omega)
    have hpw := pow14 (m := w 73 39) (by omega) p1
    refine zA_aload_n dX12_tell_14 rfl ?_
    refine zA_getI dX12_tell_15 fX12_381 c73 rfl ?_
    refine zA_valI (w_1 73 42) rfl ?_
    have L59 : ∀ (fn : Int) (hfn : isB (tOk (mKd w) (w 73 39) i j) fn), zA l mX12_tell false 5 0 0 (fun v' S' w' => S' = (ZZ t dr tx) ∧ ((w 73 39 = 0 ∧ v' = some (zI (-1)) ∧ w' = up w 73 1 0) ∨ (w 73 39 ≠ 0 ∧ ¬ tOk (mKd w) (w 73 39) i j ∧ v' = some (zI 0) ∧ w' = up w 73 1 1) ∨ (w 73 39 ≠ 0 ∧ tOk (mKd w) (w 73 39) i j ∧ v' = some (zI (ixF (mFt w i j s) ((2 ^ (w 73 39).toNat : Nat) : Int))) ∧ (∀ c x, c ≠ 93 → (c ≠ 73 ∨ x ≠ 1) → w' c x = w c x) ∧ w' 73 1 = 0 ∧ (∀ c : Int, 0 ≤ c → c < ((2 ^ (w 73 39).toNat : Nat) : Int) → w' 93 c = if mFt w i j s c = true then 1 else 0) ∧ ∀ c : Int, ((2 ^ (w 73 39).toNat : Nat) : Int) ≤ c → w' 93 c = w 93 c))) zNo 59 [zR 73, zI i, zI j, zI s, zI fn, .null] [] (ZZ t dr tx) w_1 := by
      intro fn hfn
      have hfr := isB_R hfn
      refine zA_iload dX12_tell_59 rfl ?_
      refine zA_if_ne (tgt := 70) dX12_tell_61 (by decide) (by first | assumption | exact hr _ _ | exact inR_mk (by omega) (by omega)) (fun c61 => ?_) (fun c61 => ?_)
      · skip
        have hq := isB_ne hfn c61
        refine zA_iconst dX12_tell_70 ?_
        refine zA_istore (lo1 := [zR 73, zI i, zI j, zI s, zI fn, zI 0]) dX12_tell_71 (by decide) rfl rfl ?_
        refine zA_drop 4 (lo1 := [zR 73, zI i, zI j, zI s, .null, zI 0]) rfl ?_
        have L73 : ∀ (z73 : Nat) (c : Int) (w1 : zW) (c0 : 0 ≤ c) (c1 : c ≤ ((2 ^ (w 73 39).toNat : Nat) : Int)) (hf : only 93 w_1 w1) (ha : ∀ x : Int, 0 ≤ x → x < c → w1 93 x = if mFt w i j s x = true then 1 else 0) (hb : ∀ x : Int, c ≤ x → w1 93 x = w 93 x) (zm : (((2 ^ (w 73 39).toNat : Nat) : Int) - c).toNat < z73), zA l mX12_tell false 5 0 0 (fun v' S' w' => S' = (ZZ t dr tx) ∧ ((w 73 39 = 0 ∧ v' = some (zI (-1)) ∧ w' = up w 73 1 0) ∨ (w 73 39 ≠ 0 ∧ ¬ tOk (mKd w) (w 73 39) i j ∧ v' = some (zI 0) ∧ w' = up w 73 1 1) ∨ (w 73 39 ≠ 0 ∧ tOk (mKd w) (w 73 39) i j ∧ v' = some (zI (ixF (mFt w i j s) ((2 ^ (w 73 39).toNat : Nat) : Int))) ∧ (∀ c x, c ≠ 93 → (c ≠ 73 ∨ x ≠ 1) → w' c x = w c x) ∧ w' 73 1 = 0 ∧ (∀ c : Int, 0 ≤ c → c < ((2 ^ (w 73 39).toNat : Nat) : Int) → w' 93 c = if mFt w i j s c = true then 1 else 0) ∧ ∀ c : Int, ((2 ^ (w 73 39).toNat : Nat) : Int) ≤ c → w' 93 c = w 93 c))) zNo 73 [zR 73, zI i, zI j, zI s, .null, zI c] [] (ZZ t dr tx) w1 := by
          intro z73
          induction z73 with
          | zero => intro c w1 c0 c1 hf ha hb zm; exact absurd zm (Nat.not_lt_zero _)
          | succ z73 ih73 =>
            intro c w1 c0 c1 hf ha hb zm
            refine zA_range (fun hr => ?_)
            refine zA_iload dX12_tell_73 rfl ?_
            refine zA_iconst dX12_tell_75 ?_
            refine zA_aload_n dX12_tell_76 rfl ?_
            refine zA_getI dX12_tell_77 fX12_378 c73 rfl ?_
            refine zA_valI (w1 73 39) rfl ?_
            refine zA_ishl dX12_tell_80 ?_
            refine zA_valI ((2 ^ (w 73 39).toNat : Nat) : Int) (by rw [show w1 73 39 = w 73 39 from (hf 73 39 (by decide)).trans f39, iShl_1 (by omega) (by omega)]) ?_
            refine zA_icmp_ge (tgt := 124) dX12_tell_81 (by decide) (by first | assumption | exact hr _ _ | exact inR_mk (by omega) (by omega)) (by first | assumption | exact hr _ _ | exact inR_mk (by omega) (by omega)) (fun c81 => ?_) (fun c81 => ?_)
            · skip
              refine zA_aload_n dX12_tell_124 rfl ?_
              refine zA_cV (st := []) dX12_tell_125 vX12_fitting kX12_402 (m_fitting (w := w1) (by rw [hf 73 39 (by decide), f39]; exact p0) (by rw [hf 73 39 (by decide), f39]; exact p1) (fun x x0 => by
                  by_cases hx : x < c
                  · rw [ha x x0 hx]; split <;> omega
                  · rw [hb x (by omega)]; exact hbo x x0)) (by decide) c73 rfl rfl (Nat.le_of_ble_eq_true rfl) rfl (zRt_el ?_)
              show zA l mX12_tell false 5 0 0 (fun v' S' w' => S' = (ZZ t dr tx) ∧ ((w 73 39 = 0 ∧ v' = some (zI (-1)) ∧ w' = up w 73 1 0) ∨ (w 73 39 ≠ 0 ∧ ¬ tOk (mKd w) (w 73 39) i j ∧ v' = some (zI 0) ∧ w' = up w 73 1 1) ∨ (w 73 39 ≠ 0 ∧ tOk (mKd w) (w 73 39) i j ∧ v' = some (zI (ixF (mFt w i j s) ((2 ^ (w 73 39).toNat : Nat) : Int))) ∧ (∀ c x, c ≠ 93 → (c ≠ 73 ∨ x ≠ 1) → w' c x = w c x) ∧ w' 73 1 = 0 ∧ (∀ c : Int, 0 ≤ c → c < ((2 ^ (w 73 39).toNat : Nat) : Int) → w' 93 c = if mFt w i j s c = true then 1 else 0) ∧ ∀ c : Int, ((2 ^ (w 73 39).toNat : Nat) : Int) ≤ c → w' 93 c = w 93 c))) zNo 128 [zR 73, zI i, zI j, zI s, .null, zI c] [zI (ixF (mF w1) ((2 ^ (w1 73 39).toNat : Nat) : Int))] (ZZ t dr tx) w1
              refine zA_iret dX12_tell_128 rfl ?_
              have hcn : c = ((2 ^ (w 73 39).toNat : Nat) : Int) := by omega
              refine ⟨rfl, Or.inr (Or.inr ⟨by omega, hq, ?_, fun cc x a b => by rw [hf cc x a]; exact ef cc x b, by rw [hf 73 1 (by decide)]; exact e1, fun x a b => ha x a (by omega), fun x a => hb x (by omega)⟩)⟩
              congr 2
              rw [show w1 73 39 = w 73 39 from (hf 73 39 (by decide)).trans f39]
              exact ixF_c (fun x a b => by
                unfold mF
                rw [ha x a (by omega)]
                by_cases q : mFt w i j s x = true
                · rw [if_pos q, q]; rfl
                · rw [if_neg q]; rw [Bool.not_eq_true] at q; rw [q]; rfl)
            · skip
              refine zA_aload_n dX12_tell_84 rfl ?_
              refine zA_getR (n := 93) dX12_tell_85 fX12_84 c73 rfl ?_
              refine zA_iload dX12_tell_88 rfl ?_
              refine zA_aload_n dX12_tell_90 rfl ?_
              refine zA_getR (n := 93) dX12_tell_91 fX12_84 c73 rfl ?_
              refine zA_iload dX12_tell_94 rfl ?_
              refine zA_baload dX12_tell_96 c93 (by first | assumption | omega) (by first | assumption | omega) (by decide) ?_
              refine zA_if_eq (tgt := 116) dX12_tell_97 (by decide) (by first | assumption | exact hr _ _ | exact inR_mk (by omega) (by omega)) (fun c97 => ?_) (fun c97 => ?_)
              · skip
                refine zA_iconst dX12_tell_116 ?_
                refine zA_bastore dX12_tell_117 rfl (by first | assumption | omega) c93 (by first | assumption | omega) (by first | assumption | omega) (by decide) ?_
                refine zA_namew (fun w_2 hw_2 => ?_)
                refine zA_range (fun hr => ?_)
                replace hw_2 : w_2 = up w1 93 c 0 := hw_2
                refine zA_iinc (lo1 := [zR 73, zI i, zI j, zI s, .null, zI (c + 1)]) dX12_tell_118 rfl (by decide) rfl rfl ?_
                refine zA_goto (tgt := 73) dX12_tell_121 (by decide) ?_
                exact ih73 (c + 1) _ (by omega) (by omega) (by rw [hw_2]; exact only_up hf) (fun x a b => by
                              rw [hw_2]
                              by_cases e : x = c
                              · rw [e, up_same]
                                have hbc := hb c (Int.le_refl _)
                                have hboc := hbo c c0
                                first
                                | (rw [if_pos]; unfold mFt mF; rw [Bool.and_eq_true, decide_eq_true_iff, decide_eq_true_iff]; exact ⟨by omega, by omega⟩)
                                | (rw [if_neg]; unfold mFt mF; rw [Bool.and_eq_true, decide_eq_true_iff, decide_eq_true_iff]; omega)
                              · rw [up_idx _ _ _ _ e]; exact ha x a (by omega)) (fun x a => by rw [hw_2, up_idx _ _ _ _ (by omega)]; exact hb x (by omega)) (by omega)
              · skip
                refine zA_aload_n dX12_tell_100 rfl ?_
                refine zA_iload dX12_tell_101 rfl ?_
                refine zA_iload_n dX12_tell_103 rfl ?_
                refine zA_iload_n dX12_tell_104 rfl ?_
                refine zA_cV (st := [zI c, zR 93]) dX12_tell_105 vX12_answerOf kX12_399 (m_answerOf (w := w1) (c := c) (i := i) (j := j) (by rw [hf 73 39 (by decide), f39]; exact p0) (by rw [hf 73 39 (by decide), f39]; exact p1) c0 (by omega) (by rw [show mKd w1 = mKd w by unfold mKd; rw [hf 73 42 (by decide), f42], hf 73 39 (by decide), f39]; exact hq) hj) (by decide) c73 rfl rfl (Nat.le_of_ble_eq_true rfl) rfl (zRt_el ?_)
                show zA l mX12_tell false 5 0 0 (fun v' S' w' => S' = (ZZ t dr tx) ∧ ((w 73 39 = 0 ∧ v' = some (zI (-1)) ∧ w' = up w 73 1 0) ∨ (w 73 39 ≠ 0 ∧ ¬ tOk (mKd w) (w 73 39) i j ∧ v' = some (zI 0) ∧ w' = up w 73 1 1) ∨ (w 73 39 ≠ 0 ∧ tOk (mKd w) (w 73 39) i j ∧ v' = some (zI (ixF (mFt w i j s) ((2 ^ (w 73 39).toNat : Nat) : Int))) ∧ (∀ c x, c ≠ 93 → (c ≠ 73 ∨ x ≠ 1) → w' c x = w c x) ∧ w' 73 1 = 0 ∧ (∀ c : Int, 0 ≤ c → c < ((2 ^ (w 73 39).toNat : Nat) : Int) → w' 93 c = if mFt w i j s c = true then 1 else 0) ∧ ∀ c : Int, ((2 ^ (w 73 39).toNat : Nat) : Int) ≤ c → w' 93 c = w 93 c))) zNo 108 [zR 73, zI i, zI j, zI s, .null, zI c] [zI (tAn (mKd w1) (w1 73 40) (w1 73 41) c i j), zI c, zR 93] (ZZ t dr tx) w1
                refine zA_valI (tAn (mKd w) (w 73 40) (w 73 41) c i j) (by rw [show mKd w1 = mKd w by unfold mKd; rw [hf 73 42 (by decide), f42], hf 73 40 (by decide), hf 73 41 (by decide), ef 73 40 (Or.inr (by decide)), ef 73 41 (Or.inr (by decide))]) ?_
                have htb := tAn_b (kd := mKd w) (c := c) g0 g1 b0 b1 c0 (by omega) p1 hq
                refine zA_iload_n dX12_tell_108 rfl ?_
                refine zA_icmp_ne (tgt := 116) dX12_tell_109 (by decide) (by first | assumption | exact hr _ _ | exact inR_mk (by omega) (by omega)) (by first | assumption | exact hr _ _ | exact inR_mk (by omega) (by omega)) (fun c109 => ?_) (fun c109 => ?_)
                · skip
                  refine zA_iconst dX12_tell_116 ?_
                  refine zA_bastore dX12_tell_117 rfl (by first | assumption | omega) c93 (by first | assumption | omega) (by first | assumption | omega) (by decide) ?_
                  refine zA_namew (fun w_3 hw_3 => ?_)
                  refine zA_range (fun hr => ?_)
                  replace hw_3 : w_3 = up w1 93 c 0 := hw_3
                  refine zA_iinc (lo1 := [zR 73, zI i, zI j, zI s, .null, zI (c + 1)]) dX12_tell_118 rfl (by decide) rfl rfl ?_
                  refine zA_goto (tgt := 73) dX12_tell_121 (by decide) ?_
                  exact ih73 (c + 1) _ (by omega) (by omega) (by rw [hw_3]; exact only_up hf) (fun x a b => by
                                rw [hw_3]
                                by_cases e : x = c
                                · rw [e, up_same]
                                  have hbc := hb c (Int.le_refl _)
                                  have hboc := hbo c c0
                                  first
                                  | (rw [if_pos]; unfold mFt mF; rw [Bool.and_eq_true, decide_eq_true_iff, decide_eq_true_iff]; exact ⟨by omega, by omega⟩)
                                  | (rw [if_neg]; unfold mFt mF; rw [Bool.and_eq_true, decide_eq_true_iff, decide_eq_true_iff]; omega)
                                · rw [up_idx _ _ _ _ e]; exact ha x a (by omega)) (fun x a => by rw [hw_3, up_idx _ _ _ _ (by omega)]; exact hb x (by omega)) (by omega)
                · skip
                  refine zA_iconst dX12_tell_112 ?_
                  refine zA_goto (tgt := 117) dX12_tell_113 (by decide) ?_
                  refine zA_bastore dX12_tell_117 rfl (by first | assumption | omega) c93 (by first | assumption | omega) (by first | assumption | omega) (by decide) ?_
                  refine zA_namew (fun w_4 hw_4 => ?_)
                  refine zA_range (fun hr => ?_)
                  replace hw_4 : w_4 = up w1 93 c 1 := hw_4
                  refine zA_iinc (lo1 := [zR 73, zI i, zI j, zI s, .null, zI (c + 1)]) dX12_tell_118 rfl (by decide) rfl rfl ?_
                  refine zA_goto (tgt := 73) dX12_tell_121 (by decide) ?_
                  exact ih73 (c + 1) _ (by omega) (by omega) (by rw [hw_4]; exact only_up hf) (fun x a b => by
                                rw [hw_4]
                                by_cases e : x = c
                                · rw [e, up_same]
                                  have hbc := hb c (Int.le_refl _)
                                  have hboc := hbo c c0
                                  first
                                  | (rw [if_pos]; unfold mFt mF; rw [Bool.and_eq_true, decide_eq_true_iff, decide_eq_true_iff]; exact ⟨by omega, by omega⟩)
                                  | (rw [if_neg]; unfold mFt mF; rw [Bool.and_eq_true, decide_eq_true_iff, decide_eq_true_iff]; omega)
                                · rw [up_idx _ _ _ _ e]; exact ha x a (by omega)) (fun x a => by rw [hw_4, up_idx _ _ _ _ (by omega)]; exact hb x (by omega)) (by omega)
        exact L73 _ 0 w_1 (by omega) (by omega) only_rfl (fun x a b => by omega) (fun x _ => ef 93 x (Or.inl (by decide))) (Nat.lt_succ_self _)
      · skip
        refine zA_aload_n dX12_tell_64 rfl ?_
        refine zA_iconst dX12_tell_65 ?_
        refine zA_cV (st := []) dX12_tell_66 vX12_fail kX12_292 (m_fail (w := w_1) (k := 1) ⟨by decide, by decide⟩) (by decide) c73 rfl rfl (Nat.le_of_ble_eq_true rfl) rfl (zRt_el ?_)
        show zA l mX12_tell false 5 0 0 (fun v' S' w' => S' = (ZZ t dr tx) ∧ ((w 73 39 = 0 ∧ v' = some (zI (-1)) ∧ w' = up w 73 1 0) ∨ (w 73 39 ≠ 0 ∧ ¬ tOk (mKd w) (w 73 39) i j ∧ v' = some (zI 0) ∧ w' = up w 73 1 1) ∨ (w 73 39 ≠ 0 ∧ tOk (mKd w) (w 73 39) i j ∧ v' = some (zI (ixF (mFt w i j s) ((2 ^ (w 73 39).toNat : Nat) : Int))) ∧ (∀ c x, c ≠ 93 → (c ≠ 73 ∨ x ≠ 1) → w' c x = w c x) ∧ w' 73 1 = 0 ∧ (∀ c : Int, 0 ≤ c → c < ((2 ^ (w 73 39).toNat : Nat) : Int) → w' 93 c = if mFt w i j s c = true then 1 else 0) ∧ ∀ c : Int, ((2 ^ (w 73 39).toNat : Nat) : Int) ≤ c → w' 93 c = w 93 c))) zNo 69 [zR 73, zI i, zI j, zI s, zI fn, .null] [zI 0] (ZZ t dr tx) (up w_1 73 1 1)
        refine zA_iret dX12_tell_69 rfl ?_
        exact ⟨rfl, Or.inr (Or.inl ⟨by omega, isB_eq hfn c61, rfl, by rw [hw_1, up_up]⟩)⟩
    refine zA_if_eq (tgt := 46) dX12_tell_18 (by decide) (by first | assumption | exact hr _ _ | exact inR_mk (by omega) (by omega)) (fun c18 => ?_) (fun c18 => ?_)
    · skip
      refine zA_iload_n dX12_tell_46 rfl ?_
      refine zA_iconst dX12_tell_47 ?_
      refine zA_aload_n dX12_tell_48 rfl ?_
      refine zA_getI dX12_tell_49 fX12_378 c73 rfl ?_
      refine zA_valI (w_1 73 39) rfl ?_
      refine zA_iconst dX12_tell_52 ?_
      refine zA_isub dX12_tell_53 ?_
      refine zA_cS (st := []) dX12_tell_54 sX12_isIn kX12_185 (m_isIn (w := w_1) (a := i) (b := 0) (e := ((w_1 73 39) - 1)) (by first | assumption | exact hr _ _ | exact inR_mk (by omega) (by omega)) ⟨by decide, by decide⟩ (by first | assumption | exact hr _ _ | exact inR_mk (by omega) (by omega))) (by decide) rfl rfl (Nat.le_of_ble_eq_true rfl) (zRt_el ?_)
      show zA l mX12_tell false 5 0 0 (fun v' S' w' => S' = (ZZ t dr tx) ∧ ((w 73 39 = 0 ∧ v' = some (zI (-1)) ∧ w' = up w 73 1 0) ∨ (w 73 39 ≠ 0 ∧ ¬ tOk (mKd w) (w 73 39) i j ∧ v' = some (zI 0) ∧ w' = up w 73 1 1) ∨ (w 73 39 ≠ 0 ∧ tOk (mKd w) (w 73 39) i j ∧ v' = some (zI (ixF (mFt w i j s) ((2 ^ (w 73 39).toNat : Nat) : Int))) ∧ (∀ c x, c ≠ 93 → (c ≠ 73 ∨ x ≠ 1) → w' c x = w c x) ∧ w' 73 1 = 0 ∧ (∀ c : Int, 0 ≤ c → c < ((2 ^ (w 73 39).toNat : Nat) : Int) → w' 93 c = if mFt w i j s c = true then 1 else 0) ∧ ∀ c : Int, ((2 ^ (w 73 39).toNat : Nat) : Int) ≤ c → w' 93 c = w 93 c))) zNo 57 [zR 73, zI i, zI j, zI s, .null, .null] [zI (if 0 ≤ i ∧ i ≤ ((w_1 73 39) - 1) then 1 else 0)] (ZZ t dr tx) w_1
      refine zA_istore (lo1 := [zR 73, zI i, zI j, zI s, zI (if 0 ≤ i ∧ i ≤ ((w_1 73 39) - 1) then 1 else 0), .null]) dX12_tell_57 (by decide) rfl rfl ?_
      exact L59 _ (isB_ite ((show _ ↔ (0 ≤ i ∧ i < w 73 39) by rw [f39]; omega).trans (tOk_w (by omega)).symm))
    · skip
      refine zA_iload_n dX12_tell_21 rfl ?_
      refine zA_if_lt (tgt := 42) dX12_tell_22 (by decide) (by first | assumption | exact hr _ _ | exact inR_mk (by omega) (by omega)) (fun c22 => ?_) (fun c22 => ?_)
      · skip
        refine zA_iconst dX12_tell_42 ?_
        refine zA_goto (tgt := 57) dX12_tell_43 (by decide) ?_
        refine zA_istore (lo1 := [zR 73, zI i, zI j, zI s, zI 0, .null]) dX12_tell_57 (by decide) rfl rfl ?_
        exact L59 _ (Or.inr ⟨rfl, fun h => by have := (tOk_r (show w 73 42 ≠ 0 by omega)).mp h; omega⟩)
      · skip
        refine zA_iload_n dX12_tell_25 rfl ?_
        refine zA_iload_n dX12_tell_26 rfl ?_
        refine zA_icmp_ge (tgt := 42) dX12_tell_27 (by decide) (by first | assumption | exact hr _ _ | exact inR_mk (by omega) (by omega)) (by first | assumption | exact hr _ _ | exact inR_mk (by omega) (by omega)) (fun c27 => ?_) (fun c27 => ?_)
        · skip
          refine zA_iconst dX12_tell_42 ?_
          refine zA_goto (tgt := 57) dX12_tell_43 (by decide) ?_
          refine zA_istore (lo1 := [zR 73, zI i, zI j, zI s, zI 0, .null]) dX12_tell_57 (by decide) rfl rfl ?_
          exact L59 _ (Or.inr ⟨rfl, fun h => by have := (tOk_r (show w 73 42 ≠ 0 by omega)).mp h; omega⟩)
        · skip
          refine zA_iload_n dX12_tell_30 rfl ?_
          refine zA_aload_n dX12_tell_31 rfl ?_
          refine zA_getI dX12_tell_32 fX12_378 c73 rfl ?_
          refine zA_valI (w_1 73 39) rfl ?_
          refine zA_icmp_gt (tgt := 42) dX12_tell_35 (by decide) (by first | assumption | exact hr _ _ | exact inR_mk (by omega) (by omega)) (by first | assumption | exact hr _ _ | exact inR_mk (by omega) (by omega)) (fun c35 => ?_) (fun c35 => ?_)
          · skip
            refine zA_iconst dX12_tell_42 ?_
            refine zA_goto (tgt := 57) dX12_tell_43 (by decide) ?_
            refine zA_istore (lo1 := [zR 73, zI i, zI j, zI s, zI 0, .null]) dX12_tell_57 (by decide) rfl rfl ?_
            exact L59 _ (Or.inr ⟨rfl, fun h => by have := (tOk_r (show w 73 42 ≠ 0 by omega)).mp h; omega⟩)
          · skip
            refine zA_iconst dX12_tell_38 ?_
            refine zA_goto (tgt := 57) dX12_tell_39 (by decide) ?_
            refine zA_istore (lo1 := [zR 73, zI i, zI j, zI s, zI 1, .null]) dX12_tell_57 (by decide) rfl rfl ?_
            exact L59 _ (Or.inl ⟨rfl, (tOk_r (by omega)).mpr (by omega)⟩)
  · skip
    refine zA_iconst dX12_tell_12 ?_
    refine zA_iret dX12_tell_13 rfl ?_
    exact ⟨rfl, Or.inl ⟨by omega, rfl, hw_1⟩⟩

