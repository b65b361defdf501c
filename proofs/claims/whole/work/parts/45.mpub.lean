/-! the reference's plain public methods -/
set_option maxRecDepth 100000 in
set_option maxHeartbeats 4000000 in
theorem m_isLetter {l : Launch} {t dr tx : Nat} {w : zW} {c : Int} (hc : inR c) (hn0 : 0 ≤ w 76 0) (hn : w 76 0 ≤ 8) : zSp l mX12_isLetter false 2 0 0 [zR 73, zI c] (ZZ t dr tx) w (zRt (some (zI (if 0 ≤ c ∧ c < w 76 0 then 1 else 0))) (ZZ t dr tx) w) zNo := by
  refine zA_intro ⟨plainFor_of_name (by decide +kernel), Or.inl (by decide +kernel)⟩ rfl (Nat.le_of_ble_eq_true rfl) ?_
  refine zA_range (fun hr => ?_)
  show zA l mX12_isLetter false 2 0 0 (zRt (some (zI (if 0 ≤ c ∧ c < w 76 0 then 1 else 0))) (ZZ t dr tx) w) zNo 0 [zR 73, zI c] [] (ZZ t dr tx) w
  refine zA_iload_n dX12_isLetter_0 rfl ?_
  refine zA_iconst dX12_isLetter_1 ?_
  refine zA_aload_n dX12_isLetter_2 rfl ?_
  refine zA_getR (n := 76) dX12_isLetter_3 fX12_29 c73 rfl ?_
  refine zA_iconst dX12_isLetter_6 ?_
  refine zA_iaload dX12_isLetter_7 c76 (by first | assumption | omega) (by first | assumption | omega) (by decide) ?_
  refine zA_iconst dX12_isLetter_8 ?_
  refine zA_isub dX12_isLetter_9 ?_
  refine zA_cS (st := []) dX12_isLetter_10 sX12_isIn kX12_185 (m_isIn (w := w) (a := c) (b := 0) (e := ((w 76 0) - 1)) (by first | assumption | exact hr _ _ | exact inR_mk (by omega) (by omega)) ⟨by decide, by decide⟩ (by first | assumption | exact hr _ _ | exact inR_mk (by omega) (by omega))) (by decide) rfl rfl (Nat.le_of_ble_eq_true rfl) (zRt_el ?_)
  show zA l mX12_isLetter false 2 0 0 (zRt (some (zI (if 0 ≤ c ∧ c < w 76 0 then 1 else 0))) (ZZ t dr tx) w) zNo 13 [zR 73, zI c] [zI (if 0 ≤ c ∧ c ≤ ((w 76 0) - 1) then 1 else 0)] (ZZ t dr tx) w
  refine zA_zret dX12_isLetter_13 rfl (by first | assumption | omega) ?_
  exact zRt_i (by split <;> split <;> omega)

set_option maxRecDepth 100000 in
set_option maxHeartbeats 4000000 in
theorem m_thrown {l : Launch} {t dr tx : Nat} {w : zW}  : zSp l mX12_thrown false 3 0 0 [zR 73] (ZZ t dr tx) w (zRt (some (zI (w 73 1))) (ZZ t dr tx) w) zNo := by
  refine zA_intro ⟨plainFor_of_name (by decide +kernel), Or.inl (by decide +kernel)⟩ rfl (Nat.le_of_ble_eq_true rfl) ?_
  refine zA_range (fun hr => ?_)
  show zA l mX12_thrown false 3 0 0 (zRt (some (zI (w 73 1))) (ZZ t dr tx) w) zNo 0 [zR 73] [] (ZZ t dr tx) w
  refine zA_aload_n dX12_thrown_0 rfl ?_
  refine zA_getI dX12_thrown_1 fX12_182 c73 rfl ?_
  refine zA_valI (w 73 1) rfl ?_
  refine zA_iret dX12_thrown_4 rfl ?_
  exact zRt_i rfl

set_option maxRecDepth 100000 in
set_option maxHeartbeats 4000000 in
theorem m_fault {l : Launch} {t dr tx : Nat} {w : zW}  : zSp l mX12_fault false 3 0 0 [zR 73] (ZZ t dr tx) w (zRt (some (zI (w 73 21))) (ZZ t dr tx) (up w 73 1 0)) zNo := by
  refine zA_intro ⟨plainFor_of_name (by decide +kernel), Or.inl (by decide +kernel)⟩ rfl (Nat.le_of_ble_eq_true rfl) ?_
  refine zA_range (fun hr => ?_)
  show zA l mX12_fault false 3 0 0 (zRt (some (zI (w 73 21))) (ZZ t dr tx) (up w 73 1 0)) zNo 0 [zR 73] [] (ZZ t dr tx) w
  refine zA_aload_n dX12_fault_0 rfl ?_
  refine zA_iconst dX12_fault_1 ?_
  refine zA_putI dX12_fault_2 fX12_182 c73 rfl ⟨by decide, by decide⟩ ⟨rfl, rfl⟩ ?_
  refine zA_namew (fun w_1 hw_1 => ?_)
  refine zA_range (fun hr => ?_)
  replace hw_1 : w_1 = up w 73 1 0 := hw_1
  refine zA_aload_n dX12_fault_5 rfl ?_
  refine zA_getI dX12_fault_6 fX12_53 c73 rfl ?_
  refine zA_valI (w_1 73 21) rfl ?_
  refine zA_iret dX12_fault_9 rfl ?_
  rw [hw_1]
  exact zRt_i rfl

set_option maxRecDepth 100000 in
set_option maxHeartbeats 4000000 in
theorem m_letter {l : Launch} {t dr tx : Nat} {w : zW} {a k : Int} (ha : inR a) (hk : inR k) (hn0 : 0 ≤ w 76 0) (hn : w 76 0 ≤ 8) : zSp l mX12_letter false 3 0 0 [zR 73, zI a, zI k] (ZZ t dr tx) w (zMq (¬ ((0 ≤ a ∧ a < w 76 0) ∧ 0 ≤ k ∧ k < 6)) (False) (w 81 (6 * a + k)) (ZZ t dr tx) w (up w 73 1 0)) zNo := by
  refine zA_intro ⟨plainFor_of_name (by decide +kernel), Or.inl (by decide +kernel)⟩ rfl (Nat.le_of_ble_eq_true rfl) ?_
  refine zA_range (fun hr => ?_)
  show zA l mX12_letter false 3 0 0 (zMq (¬ ((0 ≤ a ∧ a < w 76 0) ∧ 0 ≤ k ∧ k < 6)) (False) (w 81 (6 * a + k)) (ZZ t dr tx) w (up w 73 1 0)) zNo 0 [zR 73, zI a, zI k] [] (ZZ t dr tx) w
  refine zA_aload_n dX12_letter_0 rfl ?_
  refine zA_iconst dX12_letter_1 ?_
  refine zA_putI dX12_letter_2 fX12_182 c73 rfl ⟨by decide, by decide⟩ ⟨rfl, rfl⟩ ?_
  refine zA_namew (fun w_1 hw_1 => ?_)
  refine zA_range (fun hr => ?_)
  replace hw_1 : w_1 = up w 73 1 0 := hw_1
  have ef : ∀ cc i, cc ≠ 73 → w_1 cc i = w cc i := fun cc i h => by rw [hw_1, up_cell _ _ _ _ h]
  have e75 : w_1 75 0 = w 75 0 := ef 75 0 (by decide)
  have e76 : w_1 76 0 = w 76 0 := ef 76 0 (by decide)
  have e73 : ∀ i, i ≠ 1 → w_1 73 i = w 73 i := fun i h => by rw [hw_1, up_idx _ _ _ _ h]
  refine zA_aload_n dX12_letter_5 rfl ?_
  refine zA_iload_n dX12_letter_6 rfl ?_
  refine zA_cV (st := []) dX12_letter_7 vX12_isLetter kX12_318 (m_isLetter (w := w_1) (c := a) (by first | assumption | exact hr _ _ | exact inR_mk (by omega) (by omega)) (by omega) (by omega)) (by decide) c73 rfl rfl (Nat.le_of_ble_eq_true rfl) rfl (zRt_el ?_)
  show zA l mX12_letter false 3 0 0 (zMq (¬ ((0 ≤ a ∧ a < w 76 0) ∧ 0 ≤ k ∧ k < 6)) (False) (w 81 (6 * a + k)) (ZZ t dr tx) w (up w 73 1 0)) zNo 10 [zR 73, zI a, zI k] [zI (if 0 ≤ a ∧ a < w_1 76 0 then 1 else 0)] (ZZ t dr tx) w_1
  refine zA_if_eq (tgt := 36) dX12_letter_10 (by decide) (inR_ite _) (fun c10 => ?_) (fun c10 => ?_)
  · skip
    replace c10 := zite_eq c10
    refine zA_aload_n dX12_letter_36 rfl ?_
    refine zA_iconst dX12_letter_37 ?_
    refine zA_cV (st := []) dX12_letter_38 vX12_fail kX12_292 (m_fail (w := w_1) (k := 1) ⟨by decide, by decide⟩) (by decide) c73 rfl rfl (Nat.le_of_ble_eq_true rfl) rfl (zRt_el ?_)
    show zA l mX12_letter false 3 0 0 (zMq (¬ ((0 ≤ a ∧ a < w 76 0) ∧ 0 ≤ k ∧ k < 6)) (False) (w 81 (6 * a + k)) (ZZ t dr tx) w (up w 73 1 0)) zNo 41 [zR 73, zI a, zI k] [zI 0] (ZZ t dr tx) (up w_1 73 1 1)
    refine zA_iret dX12_letter_41 rfl ?_
    exact ⟨rfl, Or.inl ⟨by omega, rfl, by rw [hw_1, up_up]⟩⟩
  · skip
    replace c10 := zite_ne c10
    refine zA_iload_n dX12_letter_13 rfl ?_
    refine zA_iconst dX12_letter_14 ?_
    refine zA_iconst dX12_letter_15 ?_
    refine zA_cS (st := []) dX12_letter_16 sX12_isIn kX12_185 (m_isIn (w := w_1) (a := k) (b := 0) (e := 5) (by first | assumption | exact hr _ _ | exact inR_mk (by omega) (by omega)) ⟨by decide, by decide⟩ ⟨by decide, by decide⟩) (by decide) rfl rfl (Nat.le_of_ble_eq_true rfl) (zRt_el ?_)
    show zA l mX12_letter false 3 0 0 (zMq (¬ ((0 ≤ a ∧ a < w 76 0) ∧ 0 ≤ k ∧ k < 6)) (False) (w 81 (6 * a + k)) (ZZ t dr tx) w (up w 73 1 0)) zNo 19 [zR 73, zI a, zI k] [zI (if 0 ≤ k ∧ k ≤ 5 then 1 else 0)] (ZZ t dr tx) w_1
    refine zA_if_eq (tgt := 36) dX12_letter_19 (by decide) (inR_ite _) (fun c19 => ?_) (fun c19 => ?_)
    · skip
      replace c19 := zite_eq c19
      refine zA_aload_n dX12_letter_36 rfl ?_
      refine zA_iconst dX12_letter_37 ?_
      refine zA_cV (st := []) dX12_letter_38 vX12_fail kX12_292 (m_fail (w := w_1) (k := 1) ⟨by decide, by decide⟩) (by decide) c73 rfl rfl (Nat.le_of_ble_eq_true rfl) rfl (zRt_el ?_)
      show zA l mX12_letter false 3 0 0 (zMq (¬ ((0 ≤ a ∧ a < w 76 0) ∧ 0 ≤ k ∧ k < 6)) (False) (w 81 (6 * a + k)) (ZZ t dr tx) w (up w 73 1 0)) zNo 41 [zR 73, zI a, zI k] [zI 0] (ZZ t dr tx) (up w_1 73 1 1)
      refine zA_iret dX12_letter_41 rfl ?_
      exact ⟨rfl, Or.inl ⟨by omega, rfl, by rw [hw_1, up_up]⟩⟩
    · skip
      replace c19 := zite_ne c19
      refine zA_aload_n dX12_letter_22 rfl ?_
      refine zA_getR (n := 81) dX12_letter_23 fX12_43 c73 rfl ?_
      refine zA_bipush dX12_letter_26 rfl ?_
      refine zA_iload_n dX12_letter_28 rfl ?_
      refine zA_imul dX12_letter_29 ?_
      refine zA_iload_n dX12_letter_30 rfl ?_
      refine zA_iadd dX12_letter_31 ?_
      refine zA_iaload dX12_letter_32 c81 (by first | assumption | omega) (by first | assumption | omega) (by decide) ?_
      refine zA_goto (tgt := 41) dX12_letter_33 (by decide) ?_
      refine zA_iret dX12_letter_41 rfl ?_
      exact ⟨rfl, Or.inr (Or.inr ⟨by omega, (by first | omega | exact fun h => h), by rw [ef 81 _ (by decide)], hw_1⟩)⟩

set_option maxRecDepth 100000 in
set_option maxHeartbeats 4000000 in
theorem m_road {l : Launch} {t dr tx : Nat} {w : zW} {c a : Int} (hc : inR c) (ha : inR a) (hn0 : 0 ≤ w 75 0) (hn : w 75 0 ≤ 12)  : zSp l mX12_road false 3 0 0 [zR 73, zI c, zI a] (ZZ t dr tx) w (zMq (¬ ((0 ≤ c ∧ c < w 75 0) ∧ 0 ≤ a ∧ a < w 75 0)) (False) (w 82 (12 * c + a)) (ZZ t dr tx) w (up w 73 1 0)) zNo := by
  refine zA_intro ⟨plainFor_of_name (by decide +kernel), Or.inl (by decide +kernel)⟩ rfl (Nat.le_of_ble_eq_true rfl) ?_
  refine zA_range (fun hr => ?_)
  show zA l mX12_road false 3 0 0 (zMq (¬ ((0 ≤ c ∧ c < w 75 0) ∧ 0 ≤ a ∧ a < w 75 0)) (False) (w 82 (12 * c + a)) (ZZ t dr tx) w (up w 73 1 0)) zNo 0 [zR 73, zI c, zI a] [] (ZZ t dr tx) w
  refine zA_aload_n dX12_road_0 rfl ?_
  refine zA_iconst dX12_road_1 ?_
  refine zA_putI dX12_road_2 fX12_182 c73 rfl ⟨by decide, by decide⟩ ⟨rfl, rfl⟩ ?_
  refine zA_namew (fun w_1 hw_1 => ?_)
  refine zA_range (fun hr => ?_)
  replace hw_1 : w_1 = up w 73 1 0 := hw_1
  have ef : ∀ cc i, cc ≠ 73 → w_1 cc i = w cc i := fun cc i h => by rw [hw_1, up_cell _ _ _ _ h]
  have e75 : w_1 75 0 = w 75 0 := ef 75 0 (by decide)
  have e76 : w_1 76 0 = w 76 0 := ef 76 0 (by decide)
  have e73 : ∀ i, i ≠ 1 → w_1 73 i = w 73 i := fun i h => by rw [hw_1, up_idx _ _ _ _ h]
  refine zA_aload_n dX12_road_5 rfl ?_
  refine zA_iload_n dX12_road_6 rfl ?_
  refine zA_cV (st := []) dX12_road_7 vX12_isChimney kX12_321 (m_isChimney (w := w_1) (c := c) (by first | assumption | exact hr _ _ | exact inR_mk (by omega) (by omega)) (by omega) (by omega)) (by decide) c73 rfl rfl (Nat.le_of_ble_eq_true rfl) rfl (zRt_el ?_)
  show zA l mX12_road false 3 0 0 (zMq (¬ ((0 ≤ c ∧ c < w 75 0) ∧ 0 ≤ a ∧ a < w 75 0)) (False) (w 82 (12 * c + a)) (ZZ t dr tx) w (up w 73 1 0)) zNo 10 [zR 73, zI c, zI a] [zI (if 0 ≤ c ∧ c < w_1 75 0 then 1 else 0)] (ZZ t dr tx) w_1
  refine zA_if_eq (tgt := 35) dX12_road_10 (by decide) (inR_ite _) (fun c10 => ?_) (fun c10 => ?_)
  · skip
    replace c10 := zite_eq c10
    refine zA_aload_n dX12_road_35 rfl ?_
    refine zA_iconst dX12_road_36 ?_
    refine zA_cV (st := []) dX12_road_37 vX12_fail kX12_292 (m_fail (w := w_1) (k := 1) ⟨by decide, by decide⟩) (by decide) c73 rfl rfl (Nat.le_of_ble_eq_true rfl) rfl (zRt_el ?_)
    show zA l mX12_road false 3 0 0 (zMq (¬ ((0 ≤ c ∧ c < w 75 0) ∧ 0 ≤ a ∧ a < w 75 0)) (False) (w 82 (12 * c + a)) (ZZ t dr tx) w (up w 73 1 0)) zNo 40 [zR 73, zI c, zI a] [zI 0] (ZZ t dr tx) (up w_1 73 1 1)
    refine zA_iret dX12_road_40 rfl ?_
    exact ⟨rfl, Or.inl ⟨by omega, rfl, by rw [hw_1, up_up]⟩⟩
  · skip
    replace c10 := zite_ne c10
    refine zA_aload_n dX12_road_13 rfl ?_
    refine zA_iload_n dX12_road_14 rfl ?_
    refine zA_cV (st := []) dX12_road_15 vX12_isChimney kX12_321 (m_isChimney (w := w_1) (c := a) (by first | assumption | exact hr _ _ | exact inR_mk (by omega) (by omega)) (by omega) (by omega)) (by decide) c73 rfl rfl (Nat.le_of_ble_eq_true rfl) rfl (zRt_el ?_)
    show zA l mX12_road false 3 0 0 (zMq (¬ ((0 ≤ c ∧ c < w 75 0) ∧ 0 ≤ a ∧ a < w 75 0)) (False) (w 82 (12 * c + a)) (ZZ t dr tx) w (up w 73 1 0)) zNo 18 [zR 73, zI c, zI a] [zI (if 0 ≤ a ∧ a < w_1 75 0 then 1 else 0)] (ZZ t dr tx) w_1
    refine zA_if_eq (tgt := 35) dX12_road_18 (by decide) (inR_ite _) (fun c18 => ?_) (fun c18 => ?_)
    · skip
      replace c18 := zite_eq c18
      refine zA_aload_n dX12_road_35 rfl ?_
      refine zA_iconst dX12_road_36 ?_
      refine zA_cV (st := []) dX12_road_37 vX12_fail kX12_292 (m_fail (w := w_1) (k := 1) ⟨by decide, by decide⟩) (by decide) c73 rfl rfl (Nat.le_of_ble_eq_true rfl) rfl (zRt_el ?_)
      show zA l mX12_road false 3 0 0 (zMq (¬ ((0 ≤ c ∧ c < w 75 0) ∧ 0 ≤ a ∧ a < w 75 0)) (False) (w 82 (12 * c + a)) (ZZ t dr tx) w (up w 73 1 0)) zNo 40 [zR 73, zI c, zI a] [zI 0] (ZZ t dr tx) (up w_1 73 1 1)
      refine zA_iret dX12_road_40 rfl ?_
      exact ⟨rfl, Or.inl ⟨by omega, rfl, by rw [hw_1, up_up]⟩⟩
    · skip
      replace c18 := zite_ne c18
      refine zA_aload_n dX12_road_21 rfl ?_
      refine zA_getR (n := 82) dX12_road_22 fX12_45 c73 rfl ?_
      refine zA_bipush dX12_road_25 rfl ?_
      refine zA_iload_n dX12_road_27 rfl ?_
      refine zA_imul dX12_road_28 ?_
      refine zA_iload_n dX12_road_29 rfl ?_
      refine zA_iadd dX12_road_30 ?_
      refine zA_iaload dX12_road_31 c82 (by first | assumption | omega) (by first | assumption | omega) (by decide) ?_
      refine zA_goto (tgt := 40) dX12_road_32 (by decide) ?_
      refine zA_iret dX12_road_40 rfl ?_
      exact ⟨rfl, Or.inr (Or.inr ⟨by omega, (by first | omega | exact fun h => h), by rw [ef 82 _ (by decide)], hw_1⟩)⟩

set_option maxRecDepth 100000 in
set_option maxHeartbeats 4000000 in
theorem m_paid {l : Launch} {t dr tx : Nat} {w : zW} {o k : Int} (ho : inR o) (hk : inR k) : zSp l mX12_paid false 3 0 0 [zR 73, zI o, zI k] (ZZ t dr tx) w (zMq (¬ ((0 ≤ o ∧ o < 6) ∧ 0 ≤ k ∧ k < 2)) (False) (if k = 0 then w 118 o else w 116 o) (ZZ t dr tx) w (up w 73 1 0)) zNo := by
  refine zA_intro ⟨plainFor_of_name (by decide +kernel), Or.inl (by decide +kernel)⟩ rfl (Nat.le_of_ble_eq_true rfl) ?_
  refine zA_range (fun hr => ?_)
  show zA l mX12_paid false 3 0 0 (zMq (¬ ((0 ≤ o ∧ o < 6) ∧ 0 ≤ k ∧ k < 2)) (False) (if k = 0 then w 118 o else w 116 o) (ZZ t dr tx) w (up w 73 1 0)) zNo 0 [zR 73, zI o, zI k] [] (ZZ t dr tx) w
  refine zA_aload_n dX12_paid_0 rfl ?_
  refine zA_iconst dX12_paid_1 ?_
  refine zA_putI dX12_paid_2 fX12_182 c73 rfl ⟨by decide, by decide⟩ ⟨rfl, rfl⟩ ?_
  refine zA_namew (fun w_1 hw_1 => ?_)
  refine zA_range (fun hr => ?_)
  replace hw_1 : w_1 = up w 73 1 0 := hw_1
  have ef : ∀ cc i, cc ≠ 73 → w_1 cc i = w cc i := fun cc i h => by rw [hw_1, up_cell _ _ _ _ h]
  have e75 : w_1 75 0 = w 75 0 := ef 75 0 (by decide)
  have e76 : w_1 76 0 = w 76 0 := ef 76 0 (by decide)
  have e73 : ∀ i, i ≠ 1 → w_1 73 i = w 73 i := fun i h => by rw [hw_1, up_idx _ _ _ _ h]
  refine zA_iload_n dX12_paid_5 rfl ?_
  refine zA_cS (st := []) dX12_paid_6 sX12_isOwner kX12_495 (m_isOwner (w := w_1) (c := o) (by first | assumption | exact hr _ _ | exact inR_mk (by omega) (by omega))) (by decide) rfl rfl (Nat.le_of_ble_eq_true rfl) (zRt_el ?_)
  show zA l mX12_paid false 3 0 0 (zMq (¬ ((0 ≤ o ∧ o < 6) ∧ 0 ≤ k ∧ k < 2)) (False) (if k = 0 then w 118 o else w 116 o) (ZZ t dr tx) w (up w 73 1 0)) zNo 9 [zR 73, zI o, zI k] [zI (if 0 ≤ o ∧ o ≤ 5 then 1 else 0)] (ZZ t dr tx) w_1
  refine zA_if_eq (tgt := 21) dX12_paid_9 (by decide) (inR_ite _) (fun c9 => ?_) (fun c9 => ?_)
  · skip
    replace c9 := zite_eq c9
    refine zA_aload_n dX12_paid_21 rfl ?_
    refine zA_iconst dX12_paid_22 ?_
    refine zA_cV (st := []) dX12_paid_23 vX12_fail kX12_292 (m_fail (w := w_1) (k := 1) ⟨by decide, by decide⟩) (by decide) c73 rfl rfl (Nat.le_of_ble_eq_true rfl) rfl (zRt_el ?_)
    show zA l mX12_paid false 3 0 0 (zMq (¬ ((0 ≤ o ∧ o < 6) ∧ 0 ≤ k ∧ k < 2)) (False) (if k = 0 then w 118 o else w 116 o) (ZZ t dr tx) w (up w 73 1 0)) zNo 26 [zR 73, zI o, zI k] [zI 0] (ZZ t dr tx) (up w_1 73 1 1)
    refine zA_iret dX12_paid_26 rfl ?_
    exact ⟨rfl, Or.inl ⟨by omega, rfl, by rw [hw_1, up_up]⟩⟩
  · skip
    replace c9 := zite_ne c9
    refine zA_iload_n dX12_paid_12 rfl ?_
    refine zA_if_lt (tgt := 21) dX12_paid_13 (by decide) (by first | assumption | exact hr _ _ | exact inR_mk (by omega) (by omega)) (fun c13 => ?_) (fun c13 => ?_)
    · skip
      refine zA_aload_n dX12_paid_21 rfl ?_
      refine zA_iconst dX12_paid_22 ?_
      refine zA_cV (st := []) dX12_paid_23 vX12_fail kX12_292 (m_fail (w := w_1) (k := 1) ⟨by decide, by decide⟩) (by decide) c73 rfl rfl (Nat.le_of_ble_eq_true rfl) rfl (zRt_el ?_)
      show zA l mX12_paid false 3 0 0 (zMq (¬ ((0 ≤ o ∧ o < 6) ∧ 0 ≤ k ∧ k < 2)) (False) (if k = 0 then w 118 o else w 116 o) (ZZ t dr tx) w (up w 73 1 0)) zNo 26 [zR 73, zI o, zI k] [zI 0] (ZZ t dr tx) (up w_1 73 1 1)
      refine zA_iret dX12_paid_26 rfl ?_
      exact ⟨rfl, Or.inl ⟨by omega, rfl, by rw [hw_1, up_up]⟩⟩
    · skip
      refine zA_iload_n dX12_paid_16 rfl ?_
      refine zA_iconst dX12_paid_17 ?_
      refine zA_icmp_le (tgt := 27) dX12_paid_18 (by decide) (by first | assumption | exact hr _ _ | exact inR_mk (by omega) (by omega)) ⟨by decide, by decide⟩ (fun c18 => ?_) (fun c18 => ?_)
      · skip
        refine zA_iload_n dX12_paid_27 rfl ?_
        refine zA_if_ne (tgt := 40) dX12_paid_28 (by decide) (by first | assumption | exact hr _ _ | exact inR_mk (by omega) (by omega)) (fun c28 => ?_) (fun c28 => ?_)
        · skip
          refine zA_aload_n dX12_paid_40 rfl ?_
          refine zA_getR (n := 116) dX12_paid_41 fX12_160 c73 rfl ?_
          refine zA_iload_n dX12_paid_44 rfl ?_
          refine zA_iaload dX12_paid_45 c116 (by first | assumption | omega) (by first | assumption | omega) (by decide) ?_
          refine zA_iret dX12_paid_46 rfl ?_
          exact ⟨rfl, Or.inr (Or.inr ⟨by omega, (by first | omega | exact fun h => h), by first | rw [if_pos (by omega), ef 118 _ (by decide)] | rw [if_neg (by omega), ef 116 _ (by decide)], hw_1⟩)⟩
        · skip
          refine zA_aload_n dX12_paid_31 rfl ?_
          refine zA_getR (n := 118) dX12_paid_32 fX12_166 c73 rfl ?_
          refine zA_iload_n dX12_paid_35 rfl ?_
          refine zA_iaload dX12_paid_36 c118 (by first | assumption | omega) (by first | assumption | omega) (by decide) ?_
          refine zA_goto (tgt := 46) dX12_paid_37 (by decide) ?_
          refine zA_iret dX12_paid_46 rfl ?_
          exact ⟨rfl, Or.inr (Or.inr ⟨by omega, (by first | omega | exact fun h => h), by first | rw [if_pos (by omega), ef 118 _ (by decide)] | rw [if_neg (by omega), ef 116 _ (by decide)], hw_1⟩)⟩
      · skip
        refine zA_aload_n dX12_paid_21 rfl ?_
        refine zA_iconst dX12_paid_22 ?_
        refine zA_cV (st := []) dX12_paid_23 vX12_fail kX12_292 (m_fail (w := w_1) (k := 1) ⟨by decide, by decide⟩) (by decide) c73 rfl rfl (Nat.le_of_ble_eq_true rfl) rfl (zRt_el ?_)
        show zA l mX12_paid false 3 0 0 (zMq (¬ ((0 ≤ o ∧ o < 6) ∧ 0 ≤ k ∧ k < 2)) (False) (if k = 0 then w 118 o else w 116 o) (ZZ t dr tx) w (up w 73 1 0)) zNo 26 [zR 73, zI o, zI k] [zI 0] (ZZ t dr tx) (up w_1 73 1 1)
        refine zA_iret dX12_paid_26 rfl ?_
        exact ⟨rfl, Or.inl ⟨by omega, rfl, by rw [hw_1, up_up]⟩⟩

set_option maxRecDepth 100000 in
set_option maxHeartbeats 4000000 in
theorem m_means {l : Launch} {t dr tx : Nat} {w : zW} {o m : Int} (ho : inR o) (hm : inR m) : zSp l mX12_means false 3 0 0 [zR 73, zI o, zI m] (ZZ t dr tx) w (zMb (¬ (0 ≤ o ∧ o < 6)) (0 ≤ m ∧ m ≤ 9999) (ZZ t dr tx) w (up (up w 73 1 0) 116 o m)) zNo := by
  refine zA_intro ⟨plainFor_of_name (by decide +kernel), Or.inl (by decide +kernel)⟩ rfl (Nat.le_of_ble_eq_true rfl) ?_
  refine zA_range (fun hr => ?_)
  show zA l mX12_means false 3 0 0 (zMb (¬ (0 ≤ o ∧ o < 6)) (0 ≤ m ∧ m ≤ 9999) (ZZ t dr tx) w (up (up w 73 1 0) 116 o m)) zNo 0 [zR 73, zI o, zI m] [] (ZZ t dr tx) w
  refine zA_aload_n dX12_means_0 rfl ?_
  refine zA_iconst dX12_means_1 ?_
  refine zA_putI dX12_means_2 fX12_182 c73 rfl ⟨by decide, by decide⟩ ⟨rfl, rfl⟩ ?_
  refine zA_namew (fun w_1 hw_1 => ?_)
  refine zA_range (fun hr => ?_)
  replace hw_1 : w_1 = up w 73 1 0 := hw_1
  have ef : ∀ cc i, cc ≠ 73 → w_1 cc i = w cc i := fun cc i h => by rw [hw_1, up_cell _ _ _ _ h]
  have e75 : w_1 75 0 = w 75 0 := ef 75 0 (by decide)
  have e76 : w_1 76 0 = w 76 0 := ef 76 0 (by decide)
  have e73 : ∀ i, i ≠ 1 → w_1 73 i = w 73 i := fun i h => by rw [hw_1, up_idx _ _ _ _ h]
  refine zA_iload_n dX12_means_5 rfl ?_
  refine zA_cS (st := []) dX12_means_6 sX12_isOwner kX12_495 (m_isOwner (w := w_1) (c := o) (by first | assumption | exact hr _ _ | exact inR_mk (by omega) (by omega))) (by decide) rfl rfl (Nat.le_of_ble_eq_true rfl) (zRt_el ?_)
  show zA l mX12_means false 3 0 0 (zMb (¬ (0 ≤ o ∧ o < 6)) (0 ≤ m ∧ m ≤ 9999) (ZZ t dr tx) w (up (up w 73 1 0) 116 o m)) zNo 9 [zR 73, zI o, zI m] [zI (if 0 ≤ o ∧ o ≤ 5 then 1 else 0)] (ZZ t dr tx) w_1
  refine zA_if_ne (tgt := 18) dX12_means_9 (by decide) (inR_ite _) (fun c9 => ?_) (fun c9 => ?_)
  · skip
    replace c9 := zite_ne c9
    refine zA_iload_n dX12_means_18 rfl ?_
    refine zA_iconst dX12_means_19 ?_
    refine zA_sipush dX12_means_20 rfl ?_
    refine zA_cS (st := []) dX12_means_23 sX12_isIn kX12_185 (m_isIn (w := w_1) (a := m) (b := 0) (e := 9999) (by first | assumption | exact hr _ _ | exact inR_mk (by omega) (by omega)) ⟨by decide, by decide⟩ ⟨by decide, by decide⟩) (by decide) rfl rfl (Nat.le_of_ble_eq_true rfl) (zRt_el ?_)
    show zA l mX12_means false 3 0 0 (zMb (¬ (0 ≤ o ∧ o < 6)) (0 ≤ m ∧ m ≤ 9999) (ZZ t dr tx) w (up (up w 73 1 0) 116 o m)) zNo 26 [zR 73, zI o, zI m] [zI (if 0 ≤ m ∧ m ≤ 9999 then 1 else 0)] (ZZ t dr tx) w_1
    refine zA_if_ne (tgt := 31) dX12_means_26 (by decide) (inR_ite _) (fun c26 => ?_) (fun c26 => ?_)
    · skip
      replace c26 := zite_ne c26
      refine zA_aload_n dX12_means_31 rfl ?_
      refine zA_getR (n := 116) dX12_means_32 fX12_160 c73 rfl ?_
      refine zA_iload_n dX12_means_35 rfl ?_
      refine zA_iload_n dX12_means_36 rfl ?_
      refine zA_iastore dX12_means_37 (by first | assumption | exact hr _ _ | exact inR_mk (by omega) (by omega)) c116 (by first | assumption | omega) (by first | assumption | omega) (by decide) ?_
      refine zA_namew (fun w_2 hw_2 => ?_)
      refine zA_range (fun hr => ?_)
      replace hw_2 : w_2 = up w_1 116 o m := hw_2
      refine zA_iconst dX12_means_38 ?_
      refine zA_zret dX12_means_39 rfl (Or.inr rfl) ?_
      exact ⟨rfl, Or.inr (Or.inr ⟨(by first | omega | exact fun h => h), by omega, rfl, by rw [hw_2, hw_1]⟩)⟩
    · skip
      replace c26 := zite_eq c26
      refine zA_iconst dX12_means_29 ?_
      refine zA_zret dX12_means_30 rfl (Or.inl rfl) ?_
      exact ⟨rfl, Or.inr (Or.inl ⟨(by first | omega | exact fun h => h), by omega, rfl, hw_1⟩)⟩
  · skip
    replace c9 := zite_eq c9
    refine zA_aload_n dX12_means_12 rfl ?_
    refine zA_iconst dX12_means_13 ?_
    refine zA_cV (st := []) dX12_means_14 vX12_refuse kX12_344 (m_refuse (w := w_1) (k := 1) ⟨by decide, by decide⟩) (by decide) c73 rfl rfl (Nat.le_of_ble_eq_true rfl) rfl (zRt_el ?_)
    show zA l mX12_means false 3 0 0 (zMb (¬ (0 ≤ o ∧ o < 6)) (0 ≤ m ∧ m ≤ 9999) (ZZ t dr tx) w (up (up w 73 1 0) 116 o m)) zNo 17 [zR 73, zI o, zI m] [zI 0] (ZZ t dr tx) (up w_1 73 1 1)
    refine zA_zret dX12_means_17 rfl (Or.inl rfl) ?_
    exact ⟨rfl, Or.inl ⟨by omega, rfl, by rw [hw_1, up_up]⟩⟩

set_option maxRecDepth 100000 in
set_option maxHeartbeats 4000000 in
theorem m_part {l : Launch} {t dr tx : Nat} {w : zW} {c o m : Int} (hc : inR c) (ho : inR o) (hm : inR m) (hn0 : 0 ≤ w 75 0) (hn : w 75 0 ≤ 12)  : zSp l mX12_part false 3 0 0 [zR 73, zI c, zI o, zI m] (ZZ t dr tx) w (zMb (¬ ((0 ≤ c ∧ c < w 75 0) ∧ 0 ≤ o ∧ o < 6)) (0 ≤ m ∧ m ≤ 100) (ZZ t dr tx) w (up (up w 73 1 0) 117 (6 * c + o) m)) zNo := by
  refine zA_intro ⟨plainFor_of_name (by decide +kernel), Or.inl (by decide +kernel)⟩ rfl (Nat.le_of_ble_eq_true rfl) ?_
  refine zA_range (fun hr => ?_)
  show zA l mX12_part false 3 0 0 (zMb (¬ ((0 ≤ c ∧ c < w 75 0) ∧ 0 ≤ o ∧ o < 6)) (0 ≤ m ∧ m ≤ 100) (ZZ t dr tx) w (up (up w 73 1 0) 117 (6 * c + o) m)) zNo 0 [zR 73, zI c, zI o, zI m] [] (ZZ t dr tx) w
  refine zA_aload_n dX12_part_0 rfl ?_
  refine zA_iconst dX12_part_1 ?_
  refine zA_putI dX12_part_2 fX12_182 c73 rfl ⟨by decide, by decide⟩ ⟨rfl, rfl⟩ ?_
  refine zA_namew (fun w_1 hw_1 => ?_)
  refine zA_range (fun hr => ?_)
  replace hw_1 : w_1 = up w 73 1 0 := hw_1
  have ef : ∀ cc i, cc ≠ 73 → w_1 cc i = w cc i := fun cc i h => by rw [hw_1, up_cell _ _ _ _ h]
  have e75 : w_1 75 0 = w 75 0 := ef 75 0 (by decide)
  have e76 : w_1 76 0 = w 76 0 := ef 76 0 (by decide)
  have e73 : ∀ i, i ≠ 1 → w_1 73 i = w 73 i := fun i h => by rw [hw_1, up_idx _ _ _ _ h]
  refine zA_aload_n dX12_part_5 rfl ?_
  refine zA_iload_n dX12_part_6 rfl ?_
  refine zA_cV (st := []) dX12_part_7 vX12_isChimney kX12_321 (m_isChimney (w := w_1) (c := c) (by first | assumption | exact hr _ _ | exact inR_mk (by omega) (by omega)) (by omega) (by omega)) (by decide) c73 rfl rfl (Nat.le_of_ble_eq_true rfl) rfl (zRt_el ?_)
  show zA l mX12_part false 3 0 0 (zMb (¬ ((0 ≤ c ∧ c < w 75 0) ∧ 0 ≤ o ∧ o < 6)) (0 ≤ m ∧ m ≤ 100) (ZZ t dr tx) w (up (up w 73 1 0) 117 (6 * c + o) m)) zNo 10 [zR 73, zI c, zI o, zI m] [zI (if 0 ≤ c ∧ c < w_1 75 0 then 1 else 0)] (ZZ t dr tx) w_1
  refine zA_if_eq (tgt := 20) dX12_part_10 (by decide) (inR_ite _) (fun c10 => ?_) (fun c10 => ?_)
  · skip
    replace c10 := zite_eq c10
    refine zA_aload_n dX12_part_20 rfl ?_
    refine zA_iconst dX12_part_21 ?_
    refine zA_cV (st := []) dX12_part_22 vX12_refuse kX12_344 (m_refuse (w := w_1) (k := 1) ⟨by decide, by decide⟩) (by decide) c73 rfl rfl (Nat.le_of_ble_eq_true rfl) rfl (zRt_el ?_)
    show zA l mX12_part false 3 0 0 (zMb (¬ ((0 ≤ c ∧ c < w 75 0) ∧ 0 ≤ o ∧ o < 6)) (0 ≤ m ∧ m ≤ 100) (ZZ t dr tx) w (up (up w 73 1 0) 117 (6 * c + o) m)) zNo 25 [zR 73, zI c, zI o, zI m] [zI 0] (ZZ t dr tx) (up w_1 73 1 1)
    refine zA_zret dX12_part_25 rfl (Or.inl rfl) ?_
    exact ⟨rfl, Or.inl ⟨by omega, rfl, by rw [hw_1, up_up]⟩⟩
  · skip
    replace c10 := zite_ne c10
    refine zA_iload_n dX12_part_13 rfl ?_
    refine zA_cS (st := []) dX12_part_14 sX12_isOwner kX12_495 (m_isOwner (w := w_1) (c := o) (by first | assumption | exact hr _ _ | exact inR_mk (by omega) (by omega))) (by decide) rfl rfl (Nat.le_of_ble_eq_true rfl) (zRt_el ?_)
    show zA l mX12_part false 3 0 0 (zMb (¬ ((0 ≤ c ∧ c < w 75 0) ∧ 0 ≤ o ∧ o < 6)) (0 ≤ m ∧ m ≤ 100) (ZZ t dr tx) w (up (up w 73 1 0) 117 (6 * c + o) m)) zNo 17 [zR 73, zI c, zI o, zI m] [zI (if 0 ≤ o ∧ o ≤ 5 then 1 else 0)] (ZZ t dr tx) w_1
    refine zA_if_ne (tgt := 26) dX12_part_17 (by decide) (inR_ite _) (fun c17 => ?_) (fun c17 => ?_)
    · skip
      replace c17 := zite_ne c17
      refine zA_iload_n dX12_part_26 rfl ?_
      refine zA_iconst dX12_part_27 ?_
      refine zA_bipush dX12_part_28 rfl ?_
      refine zA_cS (st := []) dX12_part_30 sX12_isIn kX12_185 (m_isIn (w := w_1) (a := m) (b := 0) (e := 100) (by first | assumption | exact hr _ _ | exact inR_mk (by omega) (by omega)) ⟨by decide, by decide⟩ ⟨by decide, by decide⟩) (by decide) rfl rfl (Nat.le_of_ble_eq_true rfl) (zRt_el ?_)
      show zA l mX12_part false 3 0 0 (zMb (¬ ((0 ≤ c ∧ c < w 75 0) ∧ 0 ≤ o ∧ o < 6)) (0 ≤ m ∧ m ≤ 100) (ZZ t dr tx) w (up (up w 73 1 0) 117 (6 * c + o) m)) zNo 33 [zR 73, zI c, zI o, zI m] [zI (if 0 ≤ m ∧ m ≤ 100 then 1 else 0)] (ZZ t dr tx) w_1
      refine zA_if_ne (tgt := 38) dX12_part_33 (by decide) (inR_ite _) (fun c33 => ?_) (fun c33 => ?_)
      · skip
        replace c33 := zite_ne c33
        refine zA_aload_n dX12_part_38 rfl ?_
        refine zA_getR (n := 117) dX12_part_39 fX12_163 c73 rfl ?_
        refine zA_bipush dX12_part_42 rfl ?_
        refine zA_iload_n dX12_part_44 rfl ?_
        refine zA_imul dX12_part_45 ?_
        refine zA_iload_n dX12_part_46 rfl ?_
        refine zA_iadd dX12_part_47 ?_
        refine zA_iload_n dX12_part_48 rfl ?_
        refine zA_iastore dX12_part_49 (by first | assumption | exact hr _ _ | exact inR_mk (by omega) (by omega)) c117 (by first | assumption | omega) (by first | assumption | omega) (by decide) ?_
        refine zA_namew (fun w_2 hw_2 => ?_)
        refine zA_range (fun hr => ?_)
        replace hw_2 : w_2 = up w_1 117 ((6 * c) + o) m := hw_2
        refine zA_iconst dX12_part_50 ?_
        refine zA_zret dX12_part_51 rfl (Or.inr rfl) ?_
        exact ⟨rfl, Or.inr (Or.inr ⟨(by first | omega | exact fun h => h), by omega, rfl, by rw [hw_2, hw_1]⟩)⟩
      · skip
        replace c33 := zite_eq c33
        refine zA_iconst dX12_part_36 ?_
        refine zA_zret dX12_part_37 rfl (Or.inl rfl) ?_
        exact ⟨rfl, Or.inr (Or.inl ⟨(by first | omega | exact fun h => h), by omega, rfl, hw_1⟩)⟩
    · skip
      replace c17 := zite_eq c17
      refine zA_aload_n dX12_part_20 rfl ?_
      refine zA_iconst dX12_part_21 ?_
      refine zA_cV (st := []) dX12_part_22 vX12_refuse kX12_344 (m_refuse (w := w_1) (k := 1) ⟨by decide, by decide⟩) (by decide) c73 rfl rfl (Nat.le_of_ble_eq_true rfl) rfl (zRt_el ?_)
      show zA l mX12_part false 3 0 0 (zMb (¬ ((0 ≤ c ∧ c < w 75 0) ∧ 0 ≤ o ∧ o < 6)) (0 ≤ m ∧ m ≤ 100) (ZZ t dr tx) w (up (up w 73 1 0) 117 (6 * c + o) m)) zNo 25 [zR 73, zI c, zI o, zI m] [zI 0] (ZZ t dr tx) (up w_1 73 1 1)
      refine zA_zret dX12_part_25 rfl (Or.inl rfl) ?_
      exact ⟨rfl, Or.inl ⟨by omega, rfl, by rw [hw_1, up_up]⟩⟩

set_option maxRecDepth 100000 in
set_option maxHeartbeats 4000000 in
theorem m_storm {l : Launch} {t dr tx : Nat} {w : zW} {o m : Int} (ho : inR o) (hm : inR m) : zSp l mX12_storm false 3 0 0 [zR 73, zI o, zI m] (ZZ t dr tx) w (zMb (False) ((0 ≤ o ∧ o ≤ 29) ∧ (0 ≤ m ∧ m ≤ 100)) (ZZ t dr tx) w (up (up w 73 1 0) 120 o m)) zNo := by
  refine zA_intro ⟨plainFor_of_name (by decide +kernel), Or.inl (by decide +kernel)⟩ rfl (Nat.le_of_ble_eq_true rfl) ?_
  refine zA_range (fun hr => ?_)
  show zA l mX12_storm false 3 0 0 (zMb (False) ((0 ≤ o ∧ o ≤ 29) ∧ (0 ≤ m ∧ m ≤ 100)) (ZZ t dr tx) w (up (up w 73 1 0) 120 o m)) zNo 0 [zR 73, zI o, zI m] [] (ZZ t dr tx) w
  refine zA_aload_n dX12_storm_0 rfl ?_
  refine zA_iconst dX12_storm_1 ?_
  refine zA_putI dX12_storm_2 fX12_182 c73 rfl ⟨by decide, by decide⟩ ⟨rfl, rfl⟩ ?_
  refine zA_namew (fun w_1 hw_1 => ?_)
  refine zA_range (fun hr => ?_)
  replace hw_1 : w_1 = up w 73 1 0 := hw_1
  have ef : ∀ cc i, cc ≠ 73 → w_1 cc i = w cc i := fun cc i h => by rw [hw_1, up_cell _ _ _ _ h]
  have e75 : w_1 75 0 = w 75 0 := ef 75 0 (by decide)
  have e76 : w_1 76 0 = w 76 0 := ef 76 0 (by decide)
  have e73 : ∀ i, i ≠ 1 → w_1 73 i = w 73 i := fun i h => by rw [hw_1, up_idx _ _ _ _ h]
  refine zA_iload_n dX12_storm_5 rfl ?_
  refine zA_iconst dX12_storm_6 ?_
  refine zA_bipush dX12_storm_7 rfl ?_
  refine zA_cS (st := []) dX12_storm_9 sX12_isIn kX12_185 (m_isIn (w := w_1) (a := o) (b := 0) (e := 29) (by first | assumption | exact hr _ _ | exact inR_mk (by omega) (by omega)) ⟨by decide, by decide⟩ ⟨by decide, by decide⟩) (by decide) rfl rfl (Nat.le_of_ble_eq_true rfl) (zRt_el ?_)
  show zA l mX12_storm false 3 0 0 (zMb (False) ((0 ≤ o ∧ o ≤ 29) ∧ (0 ≤ m ∧ m ≤ 100)) (ZZ t dr tx) w (up (up w 73 1 0) 120 o m)) zNo 12 [zR 73, zI o, zI m] [zI (if 0 ≤ o ∧ o ≤ 29 then 1 else 0)] (ZZ t dr tx) w_1
  refine zA_if_eq (tgt := 25) dX12_storm_12 (by decide) (inR_ite _) (fun c12 => ?_) (fun c12 => ?_)
  · skip
    replace c12 := zite_eq c12
    refine zA_iconst dX12_storm_25 ?_
    refine zA_zret dX12_storm_26 rfl (Or.inl rfl) ?_
    exact ⟨rfl, Or.inr (Or.inl ⟨(by first | omega | exact fun h => h), by omega, rfl, hw_1⟩)⟩
  · skip
    replace c12 := zite_ne c12
    refine zA_iload_n dX12_storm_15 rfl ?_
    refine zA_iconst dX12_storm_16 ?_
    refine zA_bipush dX12_storm_17 rfl ?_
    refine zA_cS (st := []) dX12_storm_19 sX12_isIn kX12_185 (m_isIn (w := w_1) (a := m) (b := 0) (e := 100) (by first | assumption | exact hr _ _ | exact inR_mk (by omega) (by omega)) ⟨by decide, by decide⟩ ⟨by decide, by decide⟩) (by decide) rfl rfl (Nat.le_of_ble_eq_true rfl) (zRt_el ?_)
    show zA l mX12_storm false 3 0 0 (zMb (False) ((0 ≤ o ∧ o ≤ 29) ∧ (0 ≤ m ∧ m ≤ 100)) (ZZ t dr tx) w (up (up w 73 1 0) 120 o m)) zNo 22 [zR 73, zI o, zI m] [zI (if 0 ≤ m ∧ m ≤ 100 then 1 else 0)] (ZZ t dr tx) w_1
    refine zA_if_ne (tgt := 27) dX12_storm_22 (by decide) (inR_ite _) (fun c22 => ?_) (fun c22 => ?_)
    · skip
      replace c22 := zite_ne c22
      refine zA_aload_n dX12_storm_27 rfl ?_
      refine zA_getR (n := 120) dX12_storm_28 fX12_172 c73 rfl ?_
      refine zA_iload_n dX12_storm_31 rfl ?_
      refine zA_iload_n dX12_storm_32 rfl ?_
      refine zA_iastore dX12_storm_33 (by first | assumption | exact hr _ _ | exact inR_mk (by omega) (by omega)) c120 (by first | assumption | omega) (by first | assumption | omega) (by decide) ?_
      refine zA_namew (fun w_2 hw_2 => ?_)
      refine zA_range (fun hr => ?_)
      replace hw_2 : w_2 = up w_1 120 o m := hw_2
      refine zA_iconst dX12_storm_34 ?_
      refine zA_zret dX12_storm_35 rfl (Or.inr rfl) ?_
      exact ⟨rfl, Or.inr (Or.inr ⟨(by first | omega | exact fun h => h), by omega, rfl, by rw [hw_2, hw_1]⟩)⟩
    · skip
      replace c22 := zite_eq c22
      refine zA_iconst dX12_storm_25 ?_
      refine zA_zret dX12_storm_26 rfl (Or.inl rfl) ?_
      exact ⟨rfl, Or.inr (Or.inl ⟨(by first | omega | exact fun h => h), by omega, rfl, hw_1⟩)⟩

set_option maxRecDepth 100000 in
set_option maxHeartbeats 4000000 in
theorem m_rope {l : Launch} {t dr tx : Nat} {w : zW} {m : Int} (hm : inR m) (h0 : 0 ≤ w 73 44) (h1 : w 73 44 ≤ 20) : zSp l mX12_rope false 3 0 0 [zR 73, zI m] (ZZ t dr tx) w (zIs (True) (if (1 ≤ m ∧ m ≤ 9999) ∧ w 73 44 < 20 then w 73 44 else -1) (ZZ t dr tx) (if (1 ≤ m ∧ m ≤ 9999) ∧ w 73 44 < 20 then up (up (up w 73 1 0) 95 (w 73 44) m) 73 44 (w 73 44 + 1) else up w 73 1 0)) zNo := by
  refine zA_intro ⟨plainFor_of_name (by decide +kernel), Or.inl (by decide +kernel)⟩ rfl (Nat.le_of_ble_eq_true rfl) ?_
  refine zA_range (fun hr => ?_)
  show zA l mX12_rope false 3 0 0 (zIs (True) (if (1 ≤ m ∧ m ≤ 9999) ∧ w 73 44 < 20 then w 73 44 else -1) (ZZ t dr tx) (if (1 ≤ m ∧ m ≤ 9999) ∧ w 73 44 < 20 then up (up (up w 73 1 0) 95 (w 73 44) m) 73 44 (w 73 44 + 1) else up w 73 1 0)) zNo 0 [zR 73, zI m] [] (ZZ t dr tx) w
  refine zA_aload_n dX12_rope_0 rfl ?_
  refine zA_iconst dX12_rope_1 ?_
  refine zA_putI dX12_rope_2 fX12_182 c73 rfl ⟨by decide, by decide⟩ ⟨rfl, rfl⟩ ?_
  refine zA_namew (fun w_1 hw_1 => ?_)
  refine zA_range (fun hr => ?_)
  replace hw_1 : w_1 = up w 73 1 0 := hw_1
  have ef : ∀ cc i, cc ≠ 73 → w_1 cc i = w cc i := fun cc i h => by rw [hw_1, up_cell _ _ _ _ h]
  have e75 : w_1 75 0 = w 75 0 := ef 75 0 (by decide)
  have e76 : w_1 76 0 = w 76 0 := ef 76 0 (by decide)
  have e73 : ∀ i, i ≠ 1 → w_1 73 i = w 73 i := fun i h => by rw [hw_1, up_idx _ _ _ _ h]
  have eF : w_1 73 44 = w 73 44 := e73 44 (by decide)
  refine zA_aload_n dX12_rope_5 rfl ?_
  refine zA_getI dX12_rope_6 fX12_312 c73 rfl ?_
  refine zA_valI (w_1 73 44) rfl ?_
  refine zA_bipush dX12_rope_9 rfl ?_
  refine zA_icmp_eq (tgt := 25) dX12_rope_11 (by decide) (by first | assumption | exact hr _ _ | exact inR_mk (by omega) (by omega)) ⟨by decide, by decide⟩ (fun c11 => ?_) (fun c11 => ?_)
  · skip
    refine zA_iconst dX12_rope_25 ?_
    refine zA_iret dX12_rope_26 rfl ?_
    exact ⟨trivial, by rw [if_neg (by omega)], rfl, by rw [if_neg (by omega)]; exact hw_1⟩
  · skip
    refine zA_iload_n dX12_rope_14 rfl ?_
    refine zA_iconst dX12_rope_15 ?_
    refine zA_sipush dX12_rope_16 rfl ?_
    refine zA_cS (st := []) dX12_rope_19 sX12_isIn kX12_185 (m_isIn (w := w_1) (a := m) (b := 1) (e := 9999) (by first | assumption | exact hr _ _ | exact inR_mk (by omega) (by omega)) ⟨by decide, by decide⟩ ⟨by decide, by decide⟩) (by decide) rfl rfl (Nat.le_of_ble_eq_true rfl) (zRt_el ?_)
    show zA l mX12_rope false 3 0 0 (zIs (True) (if (1 ≤ m ∧ m ≤ 9999) ∧ w 73 44 < 20 then w 73 44 else -1) (ZZ t dr tx) (if (1 ≤ m ∧ m ≤ 9999) ∧ w 73 44 < 20 then up (up (up w 73 1 0) 95 (w 73 44) m) 73 44 (w 73 44 + 1) else up w 73 1 0)) zNo 22 [zR 73, zI m] [zI (if 1 ≤ m ∧ m ≤ 9999 then 1 else 0)] (ZZ t dr tx) w_1
    refine zA_if_ne (tgt := 27) dX12_rope_22 (by decide) (inR_ite _) (fun c22 => ?_) (fun c22 => ?_)
    · skip
      replace c22 := zite_ne c22
      refine zA_aload_n dX12_rope_27 rfl ?_
      refine zA_getR (n := 95) dX12_rope_28 fX12_94 c73 rfl ?_
      refine zA_aload_n dX12_rope_31 rfl ?_
      refine zA_getI dX12_rope_32 fX12_312 c73 rfl ?_
      refine zA_valI (w_1 73 44) rfl ?_
      refine zA_iload_n dX12_rope_35 rfl ?_
      refine zA_iastore dX12_rope_36 (by first | assumption | exact hr _ _ | exact inR_mk (by omega) (by omega)) c95 (by first | assumption | omega) (by first | assumption | omega) (by decide) ?_
      refine zA_namew (fun w_2 hw_2 => ?_)
      refine zA_range (fun hr => ?_)
      replace hw_2 : w_2 = up w_1 95 (w_1 73 44) m := hw_2
      have e1 : w_2 73 44 = w 73 44 := by rw [hw_2, up_cell _ _ _ _ (by decide : (73 : Nat) ≠ 95)]; exact e73 _ (by decide)
      refine zA_aload_n dX12_rope_37 rfl ?_
      refine zA_dup dX12_rope_38 rfl ?_
      refine zA_getI dX12_rope_39 fX12_312 c73 rfl ?_
      refine zA_valI (w_2 73 44) rfl ?_
      refine zA_iconst dX12_rope_42 ?_
      refine zA_iadd dX12_rope_43 ?_
      refine zA_putI dX12_rope_44 fX12_312 c73 rfl (by first | assumption | exact hr _ _ | exact inR_mk (by omega) (by omega)) ⟨rfl, rfl⟩ ?_
      refine zA_namew (fun w_3 hw_3 => ?_)
      refine zA_range (fun hr => ?_)
      replace hw_3 : w_3 = up w_2 73 44 ((w_2 73 44) + 1) := hw_3
      refine zA_aload_n dX12_rope_47 rfl ?_
      refine zA_getI dX12_rope_48 fX12_312 c73 rfl ?_
      refine zA_valI (w_3 73 44) rfl ?_
      refine zA_iconst dX12_rope_51 ?_
      refine zA_isub dX12_rope_52 ?_
      refine zA_iret dX12_rope_53 rfl ?_
      exact ⟨trivial, by rw [if_pos (by omega), hw_3]; congr 2; show up w_2 73 44 (w_2 73 44 + 1) 73 44 - 1 = _; rw [up_same, e1]; omega, rfl, by rw [if_pos (by omega), hw_3]; show up w_2 73 44 (w_2 73 44 + 1) = _; rw [e1, hw_2]; show up (up w_1 95 (w_1 73 44) m) 73 44 _ = _; rw [e73 44 (by decide), hw_1]⟩
    · skip
      replace c22 := zite_eq c22
      refine zA_iconst dX12_rope_25 ?_
      refine zA_iret dX12_rope_26 rfl ?_
      exact ⟨trivial, by rw [if_neg (by omega)], rfl, by rw [if_neg (by omega)]; exact hw_1⟩

set_option maxRecDepth 100000 in
set_option maxHeartbeats 4000000 in
theorem m_need {l : Launch} {t dr tx : Nat} {w : zW} {m : Int} (hm : inR m) (h0 : 0 ≤ w 73 45) (h1 : w 73 45 ≤ 10) : zSp l mX12_need false 3 0 0 [zR 73, zI m] (ZZ t dr tx) w (zIs (True) (if (1 ≤ m ∧ m ≤ 9999) ∧ w 73 45 < 10 then w 73 45 + 1 else -1) (ZZ t dr tx) (if (1 ≤ m ∧ m ≤ 9999) ∧ w 73 45 < 10 then up (up (up w 73 1 0) 96 (w 73 45) m) 73 45 (w 73 45 + 1) else up w 73 1 0)) zNo := by
  refine zA_intro ⟨plainFor_of_name (by decide +kernel), Or.inl (by decide +kernel)⟩ rfl (Nat.le_of_ble_eq_true rfl) ?_
  refine zA_range (fun hr => ?_)
  show zA l mX12_need false 3 0 0 (zIs (True) (if (1 ≤ m ∧ m ≤ 9999) ∧ w 73 45 < 10 then w 73 45 + 1 else -1) (ZZ t dr tx) (if (1 ≤ m ∧ m ≤ 9999) ∧ w 73 45 < 10 then up (up (up w 73 1 0) 96 (w 73 45) m) 73 45 (w 73 45 + 1) else up w 73 1 0)) zNo 0 [zR 73, zI m] [] (ZZ t dr tx) w
  refine zA_aload_n dX12_need_0 rfl ?_
  refine zA_iconst dX12_need_1 ?_
  refine zA_putI dX12_need_2 fX12_182 c73 rfl ⟨by decide, by decide⟩ ⟨rfl, rfl⟩ ?_
  refine zA_namew (fun w_1 hw_1 => ?_)
  refine zA_range (fun hr => ?_)
  replace hw_1 : w_1 = up w 73 1 0 := hw_1
  have ef : ∀ cc i, cc ≠ 73 → w_1 cc i = w cc i := fun cc i h => by rw [hw_1, up_cell _ _ _ _ h]
  have e75 : w_1 75 0 = w 75 0 := ef 75 0 (by decide)
  have e76 : w_1 76 0 = w 76 0 := ef 76 0 (by decide)
  have e73 : ∀ i, i ≠ 1 → w_1 73 i = w 73 i := fun i h => by rw [hw_1, up_idx _ _ _ _ h]
  have eF : w_1 73 45 = w 73 45 := e73 45 (by decide)
  refine zA_aload_n dX12_need_5 rfl ?_
  refine zA_getI dX12_need_6 fX12_315 c73 rfl ?_
  refine zA_valI (w_1 73 45) rfl ?_
  refine zA_bipush dX12_need_9 rfl ?_
  refine zA_icmp_eq (tgt := 25) dX12_need_11 (by decide) (by first | assumption | exact hr _ _ | exact inR_mk (by omega) (by omega)) ⟨by decide, by decide⟩ (fun c11 => ?_) (fun c11 => ?_)
  · skip
    refine zA_iconst dX12_need_25 ?_
    refine zA_iret dX12_need_26 rfl ?_
    exact ⟨trivial, by rw [if_neg (by omega)], rfl, by rw [if_neg (by omega)]; exact hw_1⟩
  · skip
    refine zA_iload_n dX12_need_14 rfl ?_
    refine zA_iconst dX12_need_15 ?_
    refine zA_sipush dX12_need_16 rfl ?_
    refine zA_cS (st := []) dX12_need_19 sX12_isIn kX12_185 (m_isIn (w := w_1) (a := m) (b := 1) (e := 9999) (by first | assumption | exact hr _ _ | exact inR_mk (by omega) (by omega)) ⟨by decide, by decide⟩ ⟨by decide, by decide⟩) (by decide) rfl rfl (Nat.le_of_ble_eq_true rfl) (zRt_el ?_)
    show zA l mX12_need false 3 0 0 (zIs (True) (if (1 ≤ m ∧ m ≤ 9999) ∧ w 73 45 < 10 then w 73 45 + 1 else -1) (ZZ t dr tx) (if (1 ≤ m ∧ m ≤ 9999) ∧ w 73 45 < 10 then up (up (up w 73 1 0) 96 (w 73 45) m) 73 45 (w 73 45 + 1) else up w 73 1 0)) zNo 22 [zR 73, zI m] [zI (if 1 ≤ m ∧ m ≤ 9999 then 1 else 0)] (ZZ t dr tx) w_1
    refine zA_if_ne (tgt := 27) dX12_need_22 (by decide) (inR_ite _) (fun c22 => ?_) (fun c22 => ?_)
    · skip
      replace c22 := zite_ne c22
      refine zA_aload_n dX12_need_27 rfl ?_
      refine zA_getR (n := 96) dX12_need_28 fX12_97 c73 rfl ?_
      refine zA_aload_n dX12_need_31 rfl ?_
      refine zA_getI dX12_need_32 fX12_315 c73 rfl ?_
      refine zA_valI (w_1 73 45) rfl ?_
      refine zA_iload_n dX12_need_35 rfl ?_
      refine zA_iastore dX12_need_36 (by first | assumption | exact hr _ _ | exact inR_mk (by omega) (by omega)) c96 (by first | assumption | omega) (by first | assumption | omega) (by decide) ?_
      refine zA_namew (fun w_2 hw_2 => ?_)
      refine zA_range (fun hr => ?_)
      replace hw_2 : w_2 = up w_1 96 (w_1 73 45) m := hw_2
      have e1 : w_2 73 45 = w 73 45 := by rw [hw_2, up_cell _ _ _ _ (by decide : (73 : Nat) ≠ 96)]; exact e73 _ (by decide)
      refine zA_aload_n dX12_need_37 rfl ?_
      refine zA_dup dX12_need_38 rfl ?_
      refine zA_getI dX12_need_39 fX12_315 c73 rfl ?_
      refine zA_valI (w_2 73 45) rfl ?_
      refine zA_iconst dX12_need_42 ?_
      refine zA_iadd dX12_need_43 ?_
      refine zA_putI dX12_need_44 fX12_315 c73 rfl (by first | assumption | exact hr _ _ | exact inR_mk (by omega) (by omega)) ⟨rfl, rfl⟩ ?_
      refine zA_namew (fun w_3 hw_3 => ?_)
      refine zA_range (fun hr => ?_)
      replace hw_3 : w_3 = up w_2 73 45 ((w_2 73 45) + 1) := hw_3
      refine zA_aload_n dX12_need_47 rfl ?_
      refine zA_getI dX12_need_48 fX12_315 c73 rfl ?_
      refine zA_valI (w_3 73 45) rfl ?_
      refine zA_iret dX12_need_51 rfl ?_
      exact ⟨trivial, by rw [if_pos (by omega), hw_3]; congr 2; show up w_2 73 45 (w_2 73 45 + 1) 73 45 = _; rw [up_same, e1], rfl, by rw [if_pos (by omega), hw_3]; show up w_2 73 45 (w_2 73 45 + 1) = _; rw [e1, hw_2]; show up (up w_1 96 (w_1 73 45) m) 73 45 _ = _; rw [e73 45 (by decide), hw_1]⟩
    · skip
      replace c22 := zite_eq c22
      refine zA_iconst dX12_need_25 ?_
      refine zA_iret dX12_need_26 rfl ?_
      exact ⟨trivial, by rw [if_neg (by omega)], rfl, by rw [if_neg (by omega)]; exact hw_1⟩

set_option maxRecDepth 100000 in
set_option maxHeartbeats 4000000 in
theorem m_life {l : Launch} {t dr tx : Nat} {w : zW} {o : Int} (ho : inR o) (h1 : w 73 44 ≤ 20) (h0 : -1 ≤ w 73 44) : zSp l mX12_life false 3 0 0 [zR 73, zI o] (ZZ t dr tx) w (zMq (¬ (0 ≤ o ∧ o < w 73 44)) (False) (w 95 o) (ZZ t dr tx) w (up w 73 1 0)) zNo := by
  refine zA_intro ⟨plainFor_of_name (by decide +kernel), Or.inl (by decide +kernel)⟩ rfl (Nat.le_of_ble_eq_true rfl) ?_
  refine zA_range (fun hr => ?_)
  show zA l mX12_life false 3 0 0 (zMq (¬ (0 ≤ o ∧ o < w 73 44)) (False) (w 95 o) (ZZ t dr tx) w (up w 73 1 0)) zNo 0 [zR 73, zI o] [] (ZZ t dr tx) w
  refine zA_aload_n dX12_life_0 rfl ?_
  refine zA_iconst dX12_life_1 ?_
  refine zA_putI dX12_life_2 fX12_182 c73 rfl ⟨by decide, by decide⟩ ⟨rfl, rfl⟩ ?_
  refine zA_namew (fun w_1 hw_1 => ?_)
  refine zA_range (fun hr => ?_)
  replace hw_1 : w_1 = up w 73 1 0 := hw_1
  have ef : ∀ cc i, cc ≠ 73 → w_1 cc i = w cc i := fun cc i h => by rw [hw_1, up_cell _ _ _ _ h]
  have e75 : w_1 75 0 = w 75 0 := ef 75 0 (by decide)
  have e76 : w_1 76 0 = w 76 0 := ef 76 0 (by decide)
  have e73 : ∀ i, i ≠ 1 → w_1 73 i = w 73 i := fun i h => by rw [hw_1, up_idx _ _ _ _ h]
  have eF : w_1 73 44 = w 73 44 := e73 44 (by decide)
  refine zA_iload_n dX12_life_5 rfl ?_
  refine zA_iconst dX12_life_6 ?_
  refine zA_aload_n dX12_life_7 rfl ?_
  refine zA_getI dX12_life_8 fX12_312 c73 rfl ?_
  refine zA_valI (w_1 73 44) rfl ?_
  refine zA_iconst dX12_life_11 ?_
  refine zA_isub dX12_life_12 ?_
  refine zA_cS (st := []) dX12_life_13 sX12_isIn kX12_185 (m_isIn (w := w_1) (a := o) (b := 0) (e := ((w_1 73 44) - 1)) (by first | assumption | exact hr _ _ | exact inR_mk (by omega) (by omega)) ⟨by decide, by decide⟩ (by first | assumption | exact hr _ _ | exact inR_mk (by omega) (by omega))) (by decide) rfl rfl (Nat.le_of_ble_eq_true rfl) (zRt_el ?_)
  show zA l mX12_life false 3 0 0 (zMq (¬ (0 ≤ o ∧ o < w 73 44)) (False) (w 95 o) (ZZ t dr tx) w (up w 73 1 0)) zNo 16 [zR 73, zI o] [zI (if 0 ≤ o ∧ o ≤ ((w_1 73 44) - 1) then 1 else 0)] (ZZ t dr tx) w_1
  refine zA_if_eq (tgt := 28) dX12_life_16 (by decide) (inR_ite _) (fun c16 => ?_) (fun c16 => ?_)
  · skip
    replace c16 := zite_eq c16
    refine zA_aload_n dX12_life_28 rfl ?_
    refine zA_iconst dX12_life_29 ?_
    refine zA_cV (st := []) dX12_life_30 vX12_fail kX12_292 (m_fail (w := w_1) (k := 1) ⟨by decide, by decide⟩) (by decide) c73 rfl rfl (Nat.le_of_ble_eq_true rfl) rfl (zRt_el ?_)
    show zA l mX12_life false 3 0 0 (zMq (¬ (0 ≤ o ∧ o < w 73 44)) (False) (w 95 o) (ZZ t dr tx) w (up w 73 1 0)) zNo 33 [zR 73, zI o] [zI 0] (ZZ t dr tx) (up w_1 73 1 1)
    refine zA_iret dX12_life_33 rfl ?_
    exact ⟨rfl, Or.inl ⟨by omega, rfl, by rw [hw_1, up_up]⟩⟩
  · skip
    replace c16 := zite_ne c16
    refine zA_aload_n dX12_life_19 rfl ?_
    refine zA_getR (n := 95) dX12_life_20 fX12_94 c73 rfl ?_
    refine zA_iload_n dX12_life_23 rfl ?_
    refine zA_iaload dX12_life_24 c95 (by first | assumption | omega) (by first | assumption | omega) (by decide) ?_
    refine zA_goto (tgt := 33) dX12_life_25 (by decide) ?_
    refine zA_iret dX12_life_33 rfl ?_
    exact ⟨rfl, Or.inr (Or.inr ⟨by omega, (by first | omega | exact fun h => h), by rw [ef 95 _ (by decide)], hw_1⟩)⟩

set_option maxRecDepth 100000 in
set_option maxHeartbeats 4000000 in
theorem m_ordered {l : Launch} {t dr tx : Nat} {w : zW} {o : Int} (ho : inR o) (h1 : w 73 71 ≤ 9) (h0 : -1 ≤ w 73 71) : zSp l mX12_ordered false 3 0 0 [zR 73, zI o] (ZZ t dr tx) w (zMq (¬ (0 ≤ o ∧ o < w 73 71)) (False) (w 111 o) (ZZ t dr tx) w (up w 73 1 0)) zNo := by
  refine zA_intro ⟨plainFor_of_name (by decide +kernel), Or.inl (by decide +kernel)⟩ rfl (Nat.le_of_ble_eq_true rfl) ?_
  refine zA_range (fun hr => ?_)
  show zA l mX12_ordered false 3 0 0 (zMq (¬ (0 ≤ o ∧ o < w 73 71)) (False) (w 111 o) (ZZ t dr tx) w (up w 73 1 0)) zNo 0 [zR 73, zI o] [] (ZZ t dr tx) w
  refine zA_aload_n dX12_ordered_0 rfl ?_
  refine zA_iconst dX12_ordered_1 ?_
  refine zA_putI dX12_ordered_2 fX12_182 c73 rfl ⟨by decide, by decide⟩ ⟨rfl, rfl⟩ ?_
  refine zA_namew (fun w_1 hw_1 => ?_)
  refine zA_range (fun hr => ?_)
  replace hw_1 : w_1 = up w 73 1 0 := hw_1
  have ef : ∀ cc i, cc ≠ 73 → w_1 cc i = w cc i := fun cc i h => by rw [hw_1, up_cell _ _ _ _ h]
  have e75 : w_1 75 0 = w 75 0 := ef 75 0 (by decide)
  have e76 : w_1 76 0 = w 76 0 := ef 76 0 (by decide)
  have e73 : ∀ i, i ≠ 1 → w_1 73 i = w 73 i := fun i h => by rw [hw_1, up_idx _ _ _ _ h]
  have eF : w_1 73 71 = w 73 71 := e73 71 (by decide)
  refine zA_iload_n dX12_ordered_5 rfl ?_
  refine zA_iconst dX12_ordered_6 ?_
  refine zA_aload_n dX12_ordered_7 rfl ?_
  refine zA_getI dX12_ordered_8 fX12_302 c73 rfl ?_
  refine zA_valI (w_1 73 71) rfl ?_
  refine zA_iconst dX12_ordered_11 ?_
  refine zA_isub dX12_ordered_12 ?_
  refine zA_cS (st := []) dX12_ordered_13 sX12_isIn kX12_185 (m_isIn (w := w_1) (a := o) (b := 0) (e := ((w_1 73 71) - 1)) (by first | assumption | exact hr _ _ | exact inR_mk (by omega) (by omega)) ⟨by decide, by decide⟩ (by first | assumption | exact hr _ _ | exact inR_mk (by omega) (by omega))) (by decide) rfl rfl (Nat.le_of_ble_eq_true rfl) (zRt_el ?_)
  show zA l mX12_ordered false 3 0 0 (zMq (¬ (0 ≤ o ∧ o < w 73 71)) (False) (w 111 o) (ZZ t dr tx) w (up w 73 1 0)) zNo 16 [zR 73, zI o] [zI (if 0 ≤ o ∧ o ≤ ((w_1 73 71) - 1) then 1 else 0)] (ZZ t dr tx) w_1
  refine zA_if_eq (tgt := 28) dX12_ordered_16 (by decide) (inR_ite _) (fun c16 => ?_) (fun c16 => ?_)
  · skip
    replace c16 := zite_eq c16
    refine zA_aload_n dX12_ordered_28 rfl ?_
    refine zA_iconst dX12_ordered_29 ?_
    refine zA_cV (st := []) dX12_ordered_30 vX12_fail kX12_292 (m_fail (w := w_1) (k := 1) ⟨by decide, by decide⟩) (by decide) c73 rfl rfl (Nat.le_of_ble_eq_true rfl) rfl (zRt_el ?_)
    show zA l mX12_ordered false 3 0 0 (zMq (¬ (0 ≤ o ∧ o < w 73 71)) (False) (w 111 o) (ZZ t dr tx) w (up w 73 1 0)) zNo 33 [zR 73, zI o] [zI 0] (ZZ t dr tx) (up w_1 73 1 1)
    refine zA_iret dX12_ordered_33 rfl ?_
    exact ⟨rfl, Or.inl ⟨by omega, rfl, by rw [hw_1, up_up]⟩⟩
  · skip
    replace c16 := zite_ne c16
    refine zA_aload_n dX12_ordered_19 rfl ?_
    refine zA_getR (n := 111) dX12_ordered_20 fX12_142 c73 rfl ?_
    refine zA_iload_n dX12_ordered_23 rfl ?_
    refine zA_iaload dX12_ordered_24 c111 (by first | assumption | omega) (by first | assumption | omega) (by decide) ?_
    refine zA_goto (tgt := 33) dX12_ordered_25 (by decide) ?_
    refine zA_iret dX12_ordered_33 rfl ?_
    exact ⟨rfl, Or.inr (Or.inr ⟨by omega, (by first | omega | exact fun h => h), by rw [ef 111 _ (by decide)], hw_1⟩)⟩

set_option maxRecDepth 100000 in
set_option maxHeartbeats 4000000 in
theorem m_gang {l : Launch} {t dr tx : Nat} {w : zW} {o : Int} (ho : inR o) (h1 : w 73 76 ≤ 8) (h0 : -1 ≤ w 73 76) : zSp l mX12_gang false 3 0 0 [zR 73, zI o] (ZZ t dr tx) w (zMq (¬ (0 ≤ o ∧ o < w 73 76)) (False) (w 113 o) (ZZ t dr tx) w (up w 73 1 0)) zNo := by
  refine zA_intro ⟨plainFor_of_name (by decide +kernel), Or.inl (by decide +kernel)⟩ rfl (Nat.le_of_ble_eq_true rfl) ?_
  refine zA_range (fun hr => ?_)
  show zA l mX12_gang false 3 0 0 (zMq (¬ (0 ≤ o ∧ o < w 73 76)) (False) (w 113 o) (ZZ t dr tx) w (up w 73 1 0)) zNo 0 [zR 73, zI o] [] (ZZ t dr tx) w
  refine zA_aload_n dX12_gang_0 rfl ?_
  refine zA_iconst dX12_gang_1 ?_
  refine zA_putI dX12_gang_2 fX12_182 c73 rfl ⟨by decide, by decide⟩ ⟨rfl, rfl⟩ ?_
  refine zA_namew (fun w_1 hw_1 => ?_)
  refine zA_range (fun hr => ?_)
  replace hw_1 : w_1 = up w 73 1 0 := hw_1
  have ef : ∀ cc i, cc ≠ 73 → w_1 cc i = w cc i := fun cc i h => by rw [hw_1, up_cell _ _ _ _ h]
  have e75 : w_1 75 0 = w 75 0 := ef 75 0 (by decide)
  have e76 : w_1 76 0 = w 76 0 := ef 76 0 (by decide)
  have e73 : ∀ i, i ≠ 1 → w_1 73 i = w 73 i := fun i h => by rw [hw_1, up_idx _ _ _ _ h]
  have eF : w_1 73 76 = w 73 76 := e73 76 (by decide)
  refine zA_iload_n dX12_gang_5 rfl ?_
  refine zA_iconst dX12_gang_6 ?_
  refine zA_aload_n dX12_gang_7 rfl ?_
  refine zA_getI dX12_gang_8 fX12_157 c73 rfl ?_
  refine zA_valI (w_1 73 76) rfl ?_
  refine zA_iconst dX12_gang_11 ?_
  refine zA_isub dX12_gang_12 ?_
  refine zA_cS (st := []) dX12_gang_13 sX12_isIn kX12_185 (m_isIn (w := w_1) (a := o) (b := 0) (e := ((w_1 73 76) - 1)) (by first | assumption | exact hr _ _ | exact inR_mk (by omega) (by omega)) ⟨by decide, by decide⟩ (by first | assumption | exact hr _ _ | exact inR_mk (by omega) (by omega))) (by decide) rfl rfl (Nat.le_of_ble_eq_true rfl) (zRt_el ?_)
  show zA l mX12_gang false 3 0 0 (zMq (¬ (0 ≤ o ∧ o < w 73 76)) (False) (w 113 o) (ZZ t dr tx) w (up w 73 1 0)) zNo 16 [zR 73, zI o] [zI (if 0 ≤ o ∧ o ≤ ((w_1 73 76) - 1) then 1 else 0)] (ZZ t dr tx) w_1
  refine zA_if_eq (tgt := 28) dX12_gang_16 (by decide) (inR_ite _) (fun c16 => ?_) (fun c16 => ?_)
  · skip
    replace c16 := zite_eq c16
    refine zA_aload_n dX12_gang_28 rfl ?_
    refine zA_iconst dX12_gang_29 ?_
    refine zA_cV (st := []) dX12_gang_30 vX12_fail kX12_292 (m_fail (w := w_1) (k := 1) ⟨by decide, by decide⟩) (by decide) c73 rfl rfl (Nat.le_of_ble_eq_true rfl) rfl (zRt_el ?_)
    show zA l mX12_gang false 3 0 0 (zMq (¬ (0 ≤ o ∧ o < w 73 76)) (False) (w 113 o) (ZZ t dr tx) w (up w 73 1 0)) zNo 33 [zR 73, zI o] [zI 0] (ZZ t dr tx) (up w_1 73 1 1)
    refine zA_iret dX12_gang_33 rfl ?_
    exact ⟨rfl, Or.inl ⟨by omega, rfl, by rw [hw_1, up_up]⟩⟩
  · skip
    replace c16 := zite_ne c16
    refine zA_aload_n dX12_gang_19 rfl ?_
    refine zA_getR (n := 113) dX12_gang_20 fX12_148 c73 rfl ?_
    refine zA_iload_n dX12_gang_23 rfl ?_
    refine zA_iaload dX12_gang_24 c113 (by first | assumption | omega) (by first | assumption | omega) (by decide) ?_
    refine zA_goto (tgt := 33) dX12_gang_25 (by decide) ?_
    refine zA_iret dX12_gang_33 rfl ?_
    exact ⟨rfl, Or.inr (Or.inr ⟨by omega, (by first | omega | exact fun h => h), by rw [ef 113 _ (by decide)], hw_1⟩)⟩

set_option maxRecDepth 100000 in
set_option maxHeartbeats 4000000 in
theorem m_rule {l : Launch} {t dr tx : Nat} {w : zW} {m : Int} (hm : inR m) : zSp l mX12_rule false 3 0 0 [zR 73, zI m] (ZZ t dr tx) w (zMb (False) (0 ≤ m ∧ m ≤ 13) (ZZ t dr tx) w (up (up w 73 1 0) 73 46 m)) zNo := by
  refine zA_intro ⟨plainFor_of_name (by decide +kernel), Or.inl (by decide +kernel)⟩ rfl (Nat.le_of_ble_eq_true rfl) ?_
  refine zA_range (fun hr => ?_)
  show zA l mX12_rule false 3 0 0 (zMb (False) (0 ≤ m ∧ m ≤ 13) (ZZ t dr tx) w (up (up w 73 1 0) 73 46 m)) zNo 0 [zR 73, zI m] [] (ZZ t dr tx) w
  refine zA_aload_n dX12_rule_0 rfl ?_
  refine zA_iconst dX12_rule_1 ?_
  refine zA_putI dX12_rule_2 fX12_182 c73 rfl ⟨by decide, by decide⟩ ⟨rfl, rfl⟩ ?_
  refine zA_namew (fun w_1 hw_1 => ?_)
  refine zA_range (fun hr => ?_)
  replace hw_1 : w_1 = up w 73 1 0 := hw_1
  have ef : ∀ cc i, cc ≠ 73 → w_1 cc i = w cc i := fun cc i h => by rw [hw_1, up_cell _ _ _ _ h]
  have e75 : w_1 75 0 = w 75 0 := ef 75 0 (by decide)
  have e76 : w_1 76 0 = w 76 0 := ef 76 0 (by decide)
  have e73 : ∀ i, i ≠ 1 → w_1 73 i = w 73 i := fun i h => by rw [hw_1, up_idx _ _ _ _ h]
  refine zA_iload_n dX12_rule_5 rfl ?_
  refine zA_iconst dX12_rule_6 ?_
  refine zA_bipush dX12_rule_7 rfl ?_
  refine zA_cS (st := []) dX12_rule_9 sX12_isIn kX12_185 (m_isIn (w := w_1) (a := m) (b := 0) (e := 13) (by first | assumption | exact hr _ _ | exact inR_mk (by omega) (by omega)) ⟨by decide, by decide⟩ ⟨by decide, by decide⟩) (by decide) rfl rfl (Nat.le_of_ble_eq_true rfl) (zRt_el ?_)
  show zA l mX12_rule false 3 0 0 (zMb (False) (0 ≤ m ∧ m ≤ 13) (ZZ t dr tx) w (up (up w 73 1 0) 73 46 m)) zNo 12 [zR 73, zI m] [zI (if 0 ≤ m ∧ m ≤ 13 then 1 else 0)] (ZZ t dr tx) w_1
  refine zA_if_ne (tgt := 17) dX12_rule_12 (by decide) (inR_ite _) (fun c12 => ?_) (fun c12 => ?_)
  · skip
    replace c12 := zite_ne c12
    refine zA_aload_n dX12_rule_17 rfl ?_
    refine zA_iload_n dX12_rule_18 rfl ?_
    refine zA_putI dX12_rule_19 fX12_91 c73 rfl (by first | assumption | exact hr _ _ | exact inR_mk (by omega) (by omega)) ⟨rfl, rfl⟩ ?_
    refine zA_namew (fun w_2 hw_2 => ?_)
    refine zA_range (fun hr => ?_)
    replace hw_2 : w_2 = up w_1 73 46 m := hw_2
    refine zA_iconst dX12_rule_22 ?_
    refine zA_zret dX12_rule_23 rfl (Or.inr rfl) ?_
    exact ⟨rfl, Or.inr (Or.inr ⟨(by first | omega | exact fun h => h), by omega, rfl, by rw [hw_2, hw_1]⟩)⟩
  · skip
    replace c12 := zite_eq c12
    refine zA_iconst dX12_rule_15 ?_
    refine zA_zret dX12_rule_16 rfl (Or.inl rfl) ?_
    exact ⟨rfl, Or.inr (Or.inl ⟨(by first | omega | exact fun h => h), by omega, rfl, hw_1⟩)⟩

set_option maxRecDepth 100000 in
set_option maxHeartbeats 4000000 in
theorem m_climbs {l : Launch} {t dr tx : Nat} {w : zW} {k : Int} (hk : inR k) : zSp l mX12_climbs false 3 0 0 [zR 73, zI k] (ZZ t dr tx) w (zMq (¬ (0 ≤ k ∧ k < 7)) (False) (w 98 k) (ZZ t dr tx) w (up w 73 1 0)) zNo := by
  refine zA_intro ⟨plainFor_of_name (by decide +kernel), Or.inl (by decide +kernel)⟩ rfl (Nat.le_of_ble_eq_true rfl) ?_
  refine zA_range (fun hr => ?_)
  show zA l mX12_climbs false 3 0 0 (zMq (¬ (0 ≤ k ∧ k < 7)) (False) (w 98 k) (ZZ t dr tx) w (up w 73 1 0)) zNo 0 [zR 73, zI k] [] (ZZ t dr tx) w
  refine zA_aload_n dX12_climbs_0 rfl ?_
  refine zA_iconst dX12_climbs_1 ?_
  refine zA_putI dX12_climbs_2 fX12_182 c73 rfl ⟨by decide, by decide⟩ ⟨rfl, rfl⟩ ?_
  refine zA_namew (fun w_1 hw_1 => ?_)
  refine zA_range (fun hr => ?_)
  replace hw_1 : w_1 = up w 73 1 0 := hw_1
  have ef : ∀ cc i, cc ≠ 73 → w_1 cc i = w cc i := fun cc i h => by rw [hw_1, up_cell _ _ _ _ h]
  have e75 : w_1 75 0 = w 75 0 := ef 75 0 (by decide)
  have e76 : w_1 76 0 = w 76 0 := ef 76 0 (by decide)
  have e73 : ∀ i, i ≠ 1 → w_1 73 i = w 73 i := fun i h => by rw [hw_1, up_idx _ _ _ _ h]
  refine zA_iload_n dX12_climbs_5 rfl ?_
  refine zA_iconst dX12_climbs_6 ?_
  refine zA_bipush dX12_climbs_7 rfl ?_
  refine zA_cS (st := []) dX12_climbs_9 sX12_isIn kX12_185 (m_isIn (w := w_1) (a := k) (b := 0) (e := 6) (by first | assumption | exact hr _ _ | exact inR_mk (by omega) (by omega)) ⟨by decide, by decide⟩ ⟨by decide, by decide⟩) (by decide) rfl rfl (Nat.le_of_ble_eq_true rfl) (zRt_el ?_)
  show zA l mX12_climbs false 3 0 0 (zMq (¬ (0 ≤ k ∧ k < 7)) (False) (w 98 k) (ZZ t dr tx) w (up w 73 1 0)) zNo 12 [zR 73, zI k] [zI (if 0 ≤ k ∧ k ≤ 6 then 1 else 0)] (ZZ t dr tx) w_1
  refine zA_if_eq (tgt := 24) dX12_climbs_12 (by decide) (inR_ite _) (fun c12 => ?_) (fun c12 => ?_)
  · skip
    replace c12 := zite_eq c12
    refine zA_aload_n dX12_climbs_24 rfl ?_
    refine zA_iconst dX12_climbs_25 ?_
    refine zA_cV (st := []) dX12_climbs_26 vX12_fail kX12_292 (m_fail (w := w_1) (k := 1) ⟨by decide, by decide⟩) (by decide) c73 rfl rfl (Nat.le_of_ble_eq_true rfl) rfl (zRt_el ?_)
    show zA l mX12_climbs false 3 0 0 (zMq (¬ (0 ≤ k ∧ k < 7)) (False) (w 98 k) (ZZ t dr tx) w (up w 73 1 0)) zNo 29 [zR 73, zI k] [zI 0] (ZZ t dr tx) (up w_1 73 1 1)
    refine zA_iret dX12_climbs_29 rfl ?_
    exact ⟨rfl, Or.inl ⟨by omega, rfl, by rw [hw_1, up_up]⟩⟩
  · skip
    replace c12 := zite_ne c12
    refine zA_aload_n dX12_climbs_15 rfl ?_
    refine zA_getR (n := 98) dX12_climbs_16 fX12_103 c73 rfl ?_
    refine zA_iload_n dX12_climbs_19 rfl ?_
    refine zA_iaload dX12_climbs_20 c98 (by first | assumption | omega) (by first | assumption | omega) (by decide) ?_
    refine zA_goto (tgt := 29) dX12_climbs_21 (by decide) ?_
    refine zA_iret dX12_climbs_29 rfl ?_
    exact ⟨rfl, Or.inr (Or.inr ⟨by omega, (by first | omega | exact fun h => h), by rw [ef 98 _ (by decide)], hw_1⟩)⟩

set_option maxRecDepth 100000 in
set_option maxHeartbeats 4000000 in
theorem m_up {l : Launch} {t dr tx : Nat} {w : zW} {c k : Int} (hc : inR c) (hk : inR k) (hn0 : 0 ≤ w 75 0) (hn : w 75 0 ≤ 12)  : zSp l mX12_up false 3 0 0 [zR 73, zI c, zI k] (ZZ t dr tx) w (zMq (¬ ((0 ≤ c ∧ c < w 75 0) ∧ 0 ≤ k ∧ k ≤ 29)) (False) (w 99 (30 * c + k)) (ZZ t dr tx) w (up w 73 1 0)) zNo := by
  refine zA_intro ⟨plainFor_of_name (by decide +kernel), Or.inl (by decide +kernel)⟩ rfl (Nat.le_of_ble_eq_true rfl) ?_
  refine zA_range (fun hr => ?_)
  show zA l mX12_up false 3 0 0 (zMq (¬ ((0 ≤ c ∧ c < w 75 0) ∧ 0 ≤ k ∧ k ≤ 29)) (False) (w 99 (30 * c + k)) (ZZ t dr tx) w (up w 73 1 0)) zNo 0 [zR 73, zI c, zI k] [] (ZZ t dr tx) w
  refine zA_aload_n dX12_up_0 rfl ?_
  refine zA_iconst dX12_up_1 ?_
  refine zA_putI dX12_up_2 fX12_182 c73 rfl ⟨by decide, by decide⟩ ⟨rfl, rfl⟩ ?_
  refine zA_namew (fun w_1 hw_1 => ?_)
  refine zA_range (fun hr => ?_)
  replace hw_1 : w_1 = up w 73 1 0 := hw_1
  have ef : ∀ cc i, cc ≠ 73 → w_1 cc i = w cc i := fun cc i h => by rw [hw_1, up_cell _ _ _ _ h]
  have e75 : w_1 75 0 = w 75 0 := ef 75 0 (by decide)
  have e76 : w_1 76 0 = w 76 0 := ef 76 0 (by decide)
  have e73 : ∀ i, i ≠ 1 → w_1 73 i = w 73 i := fun i h => by rw [hw_1, up_idx _ _ _ _ h]
  refine zA_aload_n dX12_up_5 rfl ?_
  refine zA_iload_n dX12_up_6 rfl ?_
  refine zA_cV (st := []) dX12_up_7 vX12_isChimney kX12_321 (m_isChimney (w := w_1) (c := c) (by first | assumption | exact hr _ _ | exact inR_mk (by omega) (by omega)) (by omega) (by omega)) (by decide) c73 rfl rfl (Nat.le_of_ble_eq_true rfl) rfl (zRt_el ?_)
  show zA l mX12_up false 3 0 0 (zMq (¬ ((0 ≤ c ∧ c < w 75 0) ∧ 0 ≤ k ∧ k ≤ 29)) (False) (w 99 (30 * c + k)) (ZZ t dr tx) w (up w 73 1 0)) zNo 10 [zR 73, zI c, zI k] [zI (if 0 ≤ c ∧ c < w_1 75 0 then 1 else 0)] (ZZ t dr tx) w_1
  refine zA_if_eq (tgt := 37) dX12_up_10 (by decide) (inR_ite _) (fun c10 => ?_) (fun c10 => ?_)
  · skip
    replace c10 := zite_eq c10
    refine zA_aload_n dX12_up_37 rfl ?_
    refine zA_iconst dX12_up_38 ?_
    refine zA_cV (st := []) dX12_up_39 vX12_fail kX12_292 (m_fail (w := w_1) (k := 1) ⟨by decide, by decide⟩) (by decide) c73 rfl rfl (Nat.le_of_ble_eq_true rfl) rfl (zRt_el ?_)
    show zA l mX12_up false 3 0 0 (zMq (¬ ((0 ≤ c ∧ c < w 75 0) ∧ 0 ≤ k ∧ k ≤ 29)) (False) (w 99 (30 * c + k)) (ZZ t dr tx) w (up w 73 1 0)) zNo 42 [zR 73, zI c, zI k] [zI 0] (ZZ t dr tx) (up w_1 73 1 1)
    refine zA_iret dX12_up_42 rfl ?_
    exact ⟨rfl, Or.inl ⟨by omega, rfl, by rw [hw_1, up_up]⟩⟩
  · skip
    replace c10 := zite_ne c10
    refine zA_iload_n dX12_up_13 rfl ?_
    refine zA_iconst dX12_up_14 ?_
    refine zA_bipush dX12_up_15 rfl ?_
    refine zA_cS (st := []) dX12_up_17 sX12_isIn kX12_185 (m_isIn (w := w_1) (a := k) (b := 0) (e := 29) (by first | assumption | exact hr _ _ | exact inR_mk (by omega) (by omega)) ⟨by decide, by decide⟩ ⟨by decide, by decide⟩) (by decide) rfl rfl (Nat.le_of_ble_eq_true rfl) (zRt_el ?_)
    show zA l mX12_up false 3 0 0 (zMq (¬ ((0 ≤ c ∧ c < w 75 0) ∧ 0 ≤ k ∧ k ≤ 29)) (False) (w 99 (30 * c + k)) (ZZ t dr tx) w (up w 73 1 0)) zNo 20 [zR 73, zI c, zI k] [zI (if 0 ≤ k ∧ k ≤ 29 then 1 else 0)] (ZZ t dr tx) w_1
    refine zA_if_eq (tgt := 37) dX12_up_20 (by decide) (inR_ite _) (fun c20 => ?_) (fun c20 => ?_)
    · skip
      replace c20 := zite_eq c20
      refine zA_aload_n dX12_up_37 rfl ?_
      refine zA_iconst dX12_up_38 ?_
      refine zA_cV (st := []) dX12_up_39 vX12_fail kX12_292 (m_fail (w := w_1) (k := 1) ⟨by decide, by decide⟩) (by decide) c73 rfl rfl (Nat.le_of_ble_eq_true rfl) rfl (zRt_el ?_)
      show zA l mX12_up false 3 0 0 (zMq (¬ ((0 ≤ c ∧ c < w 75 0) ∧ 0 ≤ k ∧ k ≤ 29)) (False) (w 99 (30 * c + k)) (ZZ t dr tx) w (up w 73 1 0)) zNo 42 [zR 73, zI c, zI k] [zI 0] (ZZ t dr tx) (up w_1 73 1 1)
      refine zA_iret dX12_up_42 rfl ?_
      exact ⟨rfl, Or.inl ⟨by omega, rfl, by rw [hw_1, up_up]⟩⟩
    · skip
      replace c20 := zite_ne c20
      refine zA_aload_n dX12_up_23 rfl ?_
      refine zA_getR (n := 99) dX12_up_24 fX12_106 c73 rfl ?_
      refine zA_bipush dX12_up_27 rfl ?_
      refine zA_iload_n dX12_up_29 rfl ?_
      refine zA_imul dX12_up_30 ?_
      refine zA_iload_n dX12_up_31 rfl ?_
      refine zA_iadd dX12_up_32 ?_
      refine zA_iaload dX12_up_33 c99 (by first | assumption | omega) (by first | assumption | omega) (by decide) ?_
      refine zA_goto (tgt := 42) dX12_up_34 (by decide) ?_
      refine zA_iret dX12_up_42 rfl ?_
      exact ⟨rfl, Or.inr (Or.inr ⟨by omega, (by first | omega | exact fun h => h), by rw [ef 99 _ (by decide)], hw_1⟩)⟩

set_option maxRecDepth 100000 in
set_option maxHeartbeats 4000000 in
theorem m_mortar {l : Launch} {t dr tx : Nat} {w : zW} {c m : Int} (hc : inR c) (hm : inR m) (hn0 : 0 ≤ w 75 0) (hn : w 75 0 ≤ 12)  : zSp l mX12_mortar false 3 0 0 [zR 73, zI c, zI m] (ZZ t dr tx) w (zMb (¬ (0 ≤ c ∧ c < w 75 0)) (0 ≤ m ∧ m ≤ 9999) (ZZ t dr tx) w (up (up w 73 1 0) 107 c m)) zNo := by
  refine zA_intro ⟨plainFor_of_name (by decide +kernel), Or.inl (by decide +kernel)⟩ rfl (Nat.le_of_ble_eq_true rfl) ?_
  refine zA_range (fun hr => ?_)
  show zA l mX12_mortar false 3 0 0 (zMb (¬ (0 ≤ c ∧ c < w 75 0)) (0 ≤ m ∧ m ≤ 9999) (ZZ t dr tx) w (up (up w 73 1 0) 107 c m)) zNo 0 [zR 73, zI c, zI m] [] (ZZ t dr tx) w
  refine zA_aload_n dX12_mortar_0 rfl ?_
  refine zA_iconst dX12_mortar_1 ?_
  refine zA_putI dX12_mortar_2 fX12_182 c73 rfl ⟨by decide, by decide⟩ ⟨rfl, rfl⟩ ?_
  refine zA_namew (fun w_1 hw_1 => ?_)
  refine zA_range (fun hr => ?_)
  replace hw_1 : w_1 = up w 73 1 0 := hw_1
  have ef : ∀ cc i, cc ≠ 73 → w_1 cc i = w cc i := fun cc i h => by rw [hw_1, up_cell _ _ _ _ h]
  have e75 : w_1 75 0 = w 75 0 := ef 75 0 (by decide)
  have e76 : w_1 76 0 = w 76 0 := ef 76 0 (by decide)
  have e73 : ∀ i, i ≠ 1 → w_1 73 i = w 73 i := fun i h => by rw [hw_1, up_idx _ _ _ _ h]
  refine zA_aload_n dX12_mortar_5 rfl ?_
  refine zA_iload_n dX12_mortar_6 rfl ?_
  refine zA_cV (st := []) dX12_mortar_7 vX12_isChimney kX12_321 (m_isChimney (w := w_1) (c := c) (by first | assumption | exact hr _ _ | exact inR_mk (by omega) (by omega)) (by omega) (by omega)) (by decide) c73 rfl rfl (Nat.le_of_ble_eq_true rfl) rfl (zRt_el ?_)
  show zA l mX12_mortar false 3 0 0 (zMb (¬ (0 ≤ c ∧ c < w 75 0)) (0 ≤ m ∧ m ≤ 9999) (ZZ t dr tx) w (up (up w 73 1 0) 107 c m)) zNo 10 [zR 73, zI c, zI m] [zI (if 0 ≤ c ∧ c < w_1 75 0 then 1 else 0)] (ZZ t dr tx) w_1
  refine zA_if_ne (tgt := 19) dX12_mortar_10 (by decide) (inR_ite _) (fun c10 => ?_) (fun c10 => ?_)
  · skip
    replace c10 := zite_ne c10
    refine zA_iload_n dX12_mortar_19 rfl ?_
    refine zA_iconst dX12_mortar_20 ?_
    refine zA_sipush dX12_mortar_21 rfl ?_
    refine zA_cS (st := []) dX12_mortar_24 sX12_isIn kX12_185 (m_isIn (w := w_1) (a := m) (b := 0) (e := 9999) (by first | assumption | exact hr _ _ | exact inR_mk (by omega) (by omega)) ⟨by decide, by decide⟩ ⟨by decide, by decide⟩) (by decide) rfl rfl (Nat.le_of_ble_eq_true rfl) (zRt_el ?_)
    show zA l mX12_mortar false 3 0 0 (zMb (¬ (0 ≤ c ∧ c < w 75 0)) (0 ≤ m ∧ m ≤ 9999) (ZZ t dr tx) w (up (up w 73 1 0) 107 c m)) zNo 27 [zR 73, zI c, zI m] [zI (if 0 ≤ m ∧ m ≤ 9999 then 1 else 0)] (ZZ t dr tx) w_1
    refine zA_if_ne (tgt := 32) dX12_mortar_27 (by decide) (inR_ite _) (fun c27 => ?_) (fun c27 => ?_)
    · skip
      replace c27 := zite_ne c27
      refine zA_aload_n dX12_mortar_32 rfl ?_
      refine zA_getR (n := 107) dX12_mortar_33 fX12_130 c73 rfl ?_
      refine zA_iload_n dX12_mortar_36 rfl ?_
      refine zA_iload_n dX12_mortar_37 rfl ?_
      refine zA_iastore dX12_mortar_38 (by first | assumption | exact hr _ _ | exact inR_mk (by omega) (by omega)) c107 (by first | assumption | omega) (by first | assumption | omega) (by decide) ?_
      refine zA_namew (fun w_2 hw_2 => ?_)
      refine zA_range (fun hr => ?_)
      replace hw_2 : w_2 = up w_1 107 c m := hw_2
      refine zA_iconst dX12_mortar_39 ?_
      refine zA_zret dX12_mortar_40 rfl (Or.inr rfl) ?_
      exact ⟨rfl, Or.inr (Or.inr ⟨(by first | omega | exact fun h => h), by omega, rfl, by rw [hw_2, hw_1]⟩)⟩
    · skip
      replace c27 := zite_eq c27
      refine zA_iconst dX12_mortar_30 ?_
      refine zA_zret dX12_mortar_31 rfl (Or.inl rfl) ?_
      exact ⟨rfl, Or.inr (Or.inl ⟨(by first | omega | exact fun h => h), by omega, rfl, hw_1⟩)⟩
  · skip
    replace c10 := zite_eq c10
    refine zA_aload_n dX12_mortar_13 rfl ?_
    refine zA_iconst dX12_mortar_14 ?_
    refine zA_cV (st := []) dX12_mortar_15 vX12_refuse kX12_344 (m_refuse (w := w_1) (k := 1) ⟨by decide, by decide⟩) (by decide) c73 rfl rfl (Nat.le_of_ble_eq_true rfl) rfl (zRt_el ?_)
    show zA l mX12_mortar false 3 0 0 (zMb (¬ (0 ≤ c ∧ c < w 75 0)) (0 ≤ m ∧ m ≤ 9999) (ZZ t dr tx) w (up (up w 73 1 0) 107 c m)) zNo 18 [zR 73, zI c, zI m] [zI 0] (ZZ t dr tx) (up w_1 73 1 1)
    refine zA_zret dX12_mortar_18 rfl (Or.inl rfl) ?_
    exact ⟨rfl, Or.inl ⟨by omega, rfl, by rw [hw_1, up_up]⟩⟩

set_option maxRecDepth 100000 in
set_option maxHeartbeats 4000000 in
theorem m_doubt {l : Launch} {t dr tx : Nat} {w : zW} {c m : Int} (hc : inR c) (hm : inR m) (hn0 : 0 ≤ w 75 0) (hn : w 75 0 ≤ 12)  : zSp l mX12_doubt false 3 0 0 [zR 73, zI c, zI m] (ZZ t dr tx) w (zMb (¬ (0 ≤ c ∧ c < w 75 0)) (0 ≤ m ∧ m ≤ 500) (ZZ t dr tx) w (up (up w 73 1 0) 90 c m)) zNo := by
  refine zA_intro ⟨plainFor_of_name (by decide +kernel), Or.inl (by decide +kernel)⟩ rfl (Nat.le_of_ble_eq_true rfl) ?_
  refine zA_range (fun hr => ?_)
  show zA l mX12_doubt false 3 0 0 (zMb (¬ (0 ≤ c ∧ c < w 75 0)) (0 ≤ m ∧ m ≤ 500) (ZZ t dr tx) w (up (up w 73 1 0) 90 c m)) zNo 0 [zR 73, zI c, zI m] [] (ZZ t dr tx) w
  refine zA_aload_n dX12_doubt_0 rfl ?_
  refine zA_iconst dX12_doubt_1 ?_
  refine zA_putI dX12_doubt_2 fX12_182 c73 rfl ⟨by decide, by decide⟩ ⟨rfl, rfl⟩ ?_
  refine zA_namew (fun w_1 hw_1 => ?_)
  refine zA_range (fun hr => ?_)
  replace hw_1 : w_1 = up w 73 1 0 := hw_1
  have ef : ∀ cc i, cc ≠ 73 → w_1 cc i = w cc i := fun cc i h => by rw [hw_1, up_cell _ _ _ _ h]
  have e75 : w_1 75 0 = w 75 0 := ef 75 0 (by decide)
  have e76 : w_1 76 0 = w 76 0 := ef 76 0 (by decide)
  have e73 : ∀ i, i ≠ 1 → w_1 73 i = w 73 i := fun i h => by rw [hw_1, up_idx _ _ _ _ h]
  refine zA_aload_n dX12_doubt_5 rfl ?_
  refine zA_iload_n dX12_doubt_6 rfl ?_
  refine zA_cV (st := []) dX12_doubt_7 vX12_isChimney kX12_321 (m_isChimney (w := w_1) (c := c) (by first | assumption | exact hr _ _ | exact inR_mk (by omega) (by omega)) (by omega) (by omega)) (by decide) c73 rfl rfl (Nat.le_of_ble_eq_true rfl) rfl (zRt_el ?_)
  show zA l mX12_doubt false 3 0 0 (zMb (¬ (0 ≤ c ∧ c < w 75 0)) (0 ≤ m ∧ m ≤ 500) (ZZ t dr tx) w (up (up w 73 1 0) 90 c m)) zNo 10 [zR 73, zI c, zI m] [zI (if 0 ≤ c ∧ c < w_1 75 0 then 1 else 0)] (ZZ t dr tx) w_1
  refine zA_if_ne (tgt := 19) dX12_doubt_10 (by decide) (inR_ite _) (fun c10 => ?_) (fun c10 => ?_)
  · skip
    replace c10 := zite_ne c10
    refine zA_iload_n dX12_doubt_19 rfl ?_
    refine zA_iconst dX12_doubt_20 ?_
    refine zA_sipush dX12_doubt_21 rfl ?_
    refine zA_cS (st := []) dX12_doubt_24 sX12_isIn kX12_185 (m_isIn (w := w_1) (a := m) (b := 0) (e := 500) (by first | assumption | exact hr _ _ | exact inR_mk (by omega) (by omega)) ⟨by decide, by decide⟩ ⟨by decide, by decide⟩) (by decide) rfl rfl (Nat.le_of_ble_eq_true rfl) (zRt_el ?_)
    show zA l mX12_doubt false 3 0 0 (zMb (¬ (0 ≤ c ∧ c < w 75 0)) (0 ≤ m ∧ m ≤ 500) (ZZ t dr tx) w (up (up w 73 1 0) 90 c m)) zNo 27 [zR 73, zI c, zI m] [zI (if 0 ≤ m ∧ m ≤ 500 then 1 else 0)] (ZZ t dr tx) w_1
    refine zA_if_ne (tgt := 32) dX12_doubt_27 (by decide) (inR_ite _) (fun c27 => ?_) (fun c27 => ?_)
    · skip
      replace c27 := zite_ne c27
      refine zA_aload_n dX12_doubt_32 rfl ?_
      refine zA_getR (n := 90) dX12_doubt_33 fX12_75 c73 rfl ?_
      refine zA_iload_n dX12_doubt_36 rfl ?_
      refine zA_iload_n dX12_doubt_37 rfl ?_
      refine zA_iastore dX12_doubt_38 (by first | assumption | exact hr _ _ | exact inR_mk (by omega) (by omega)) c90 (by first | assumption | omega) (by first | assumption | omega) (by decide) ?_
      refine zA_namew (fun w_2 hw_2 => ?_)
      refine zA_range (fun hr => ?_)
      replace hw_2 : w_2 = up w_1 90 c m := hw_2
      refine zA_iconst dX12_doubt_39 ?_
      refine zA_zret dX12_doubt_40 rfl (Or.inr rfl) ?_
      exact ⟨rfl, Or.inr (Or.inr ⟨(by first | omega | exact fun h => h), by omega, rfl, by rw [hw_2, hw_1]⟩)⟩
    · skip
      replace c27 := zite_eq c27
      refine zA_iconst dX12_doubt_30 ?_
      refine zA_zret dX12_doubt_31 rfl (Or.inl rfl) ?_
      exact ⟨rfl, Or.inr (Or.inl ⟨(by first | omega | exact fun h => h), by omega, rfl, hw_1⟩)⟩
  · skip
    replace c10 := zite_eq c10
    refine zA_aload_n dX12_doubt_13 rfl ?_
    refine zA_iconst dX12_doubt_14 ?_
    refine zA_cV (st := []) dX12_doubt_15 vX12_refuse kX12_344 (m_refuse (w := w_1) (k := 1) ⟨by decide, by decide⟩) (by decide) c73 rfl rfl (Nat.le_of_ble_eq_true rfl) rfl (zRt_el ?_)
    show zA l mX12_doubt false 3 0 0 (zMb (¬ (0 ≤ c ∧ c < w 75 0)) (0 ≤ m ∧ m ≤ 500) (ZZ t dr tx) w (up (up w 73 1 0) 90 c m)) zNo 18 [zR 73, zI c, zI m] [zI 0] (ZZ t dr tx) (up w_1 73 1 1)
    refine zA_zret dX12_doubt_18 rfl (Or.inl rfl) ?_
    exact ⟨rfl, Or.inl ⟨by omega, rfl, by rw [hw_1, up_up]⟩⟩

set_option maxRecDepth 100000 in
set_option maxHeartbeats 4000000 in
theorem m_risk {l : Launch} {t dr tx : Nat} {w : zW} {c m k : Int} (hc : inR c) (hm : inR m) (hk : inR k) (hn0 : 0 ≤ w 75 0) (hn : w 75 0 ≤ 12)  : zSp l mX12_risk false 3 0 0 [zR 73, zI c, zI m, zI k] (ZZ t dr tx) w (zMb (¬ (0 ≤ c ∧ c < w 75 0)) ((0 ≤ m ∧ m ≤ 999) ∧ (1 ≤ k ∧ k ≤ 99)) (ZZ t dr tx) w (up (up (up w 73 1 0) 109 c m) 110 c k)) zNo := by
  refine zA_intro ⟨plainFor_of_name (by decide +kernel), Or.inl (by decide +kernel)⟩ rfl (Nat.le_of_ble_eq_true rfl) ?_
  refine zA_range (fun hr => ?_)
  show zA l mX12_risk false 3 0 0 (zMb (¬ (0 ≤ c ∧ c < w 75 0)) ((0 ≤ m ∧ m ≤ 999) ∧ (1 ≤ k ∧ k ≤ 99)) (ZZ t dr tx) w (up (up (up w 73 1 0) 109 c m) 110 c k)) zNo 0 [zR 73, zI c, zI m, zI k] [] (ZZ t dr tx) w
  refine zA_aload_n dX12_risk_0 rfl ?_
  refine zA_iconst dX12_risk_1 ?_
  refine zA_putI dX12_risk_2 fX12_182 c73 rfl ⟨by decide, by decide⟩ ⟨rfl, rfl⟩ ?_
  refine zA_namew (fun w_1 hw_1 => ?_)
  refine zA_range (fun hr => ?_)
  replace hw_1 : w_1 = up w 73 1 0 := hw_1
  have ef : ∀ cc i, cc ≠ 73 → w_1 cc i = w cc i := fun cc i h => by rw [hw_1, up_cell _ _ _ _ h]
  have e75 : w_1 75 0 = w 75 0 := ef 75 0 (by decide)
  have e76 : w_1 76 0 = w 76 0 := ef 76 0 (by decide)
  have e73 : ∀ i, i ≠ 1 → w_1 73 i = w 73 i := fun i h => by rw [hw_1, up_idx _ _ _ _ h]
  refine zA_aload_n dX12_risk_5 rfl ?_
  refine zA_iload_n dX12_risk_6 rfl ?_
  refine zA_cV (st := []) dX12_risk_7 vX12_isChimney kX12_321 (m_isChimney (w := w_1) (c := c) (by first | assumption | exact hr _ _ | exact inR_mk (by omega) (by omega)) (by omega) (by omega)) (by decide) c73 rfl rfl (Nat.le_of_ble_eq_true rfl) rfl (zRt_el ?_)
  show zA l mX12_risk false 3 0 0 (zMb (¬ (0 ≤ c ∧ c < w 75 0)) ((0 ≤ m ∧ m ≤ 999) ∧ (1 ≤ k ∧ k ≤ 99)) (ZZ t dr tx) w (up (up (up w 73 1 0) 109 c m) 110 c k)) zNo 10 [zR 73, zI c, zI m, zI k] [zI (if 0 ≤ c ∧ c < w_1 75 0 then 1 else 0)] (ZZ t dr tx) w_1
  refine zA_if_ne (tgt := 19) dX12_risk_10 (by decide) (inR_ite _) (fun c10 => ?_) (fun c10 => ?_)
  · skip
    replace c10 := zite_ne c10
    refine zA_iload_n dX12_risk_19 rfl ?_
    refine zA_iconst dX12_risk_20 ?_
    refine zA_sipush dX12_risk_21 rfl ?_
    refine zA_cS (st := []) dX12_risk_24 sX12_isIn kX12_185 (m_isIn (w := w_1) (a := m) (b := 0) (e := 999) (by first | assumption | exact hr _ _ | exact inR_mk (by omega) (by omega)) ⟨by decide, by decide⟩ ⟨by decide, by decide⟩) (by decide) rfl rfl (Nat.le_of_ble_eq_true rfl) (zRt_el ?_)
    show zA l mX12_risk false 3 0 0 (zMb (¬ (0 ≤ c ∧ c < w 75 0)) ((0 ≤ m ∧ m ≤ 999) ∧ (1 ≤ k ∧ k ≤ 99)) (ZZ t dr tx) w (up (up (up w 73 1 0) 109 c m) 110 c k)) zNo 27 [zR 73, zI c, zI m, zI k] [zI (if 0 ≤ m ∧ m ≤ 999 then 1 else 0)] (ZZ t dr tx) w_1
    refine zA_if_eq (tgt := 40) dX12_risk_27 (by decide) (inR_ite _) (fun c27 => ?_) (fun c27 => ?_)
    · skip
      replace c27 := zite_eq c27
      refine zA_iconst dX12_risk_40 ?_
      refine zA_zret dX12_risk_41 rfl (Or.inl rfl) ?_
      exact ⟨rfl, Or.inr (Or.inl ⟨(by first | omega | exact fun h => h), by omega, rfl, hw_1⟩)⟩
    · skip
      replace c27 := zite_ne c27
      refine zA_iload_n dX12_risk_30 rfl ?_
      refine zA_iconst dX12_risk_31 ?_
      refine zA_bipush dX12_risk_32 rfl ?_
      refine zA_cS (st := []) dX12_risk_34 sX12_isIn kX12_185 (m_isIn (w := w_1) (a := k) (b := 1) (e := 99) (by first | assumption | exact hr _ _ | exact inR_mk (by omega) (by omega)) ⟨by decide, by decide⟩ ⟨by decide, by decide⟩) (by decide) rfl rfl (Nat.le_of_ble_eq_true rfl) (zRt_el ?_)
      show zA l mX12_risk false 3 0 0 (zMb (¬ (0 ≤ c ∧ c < w 75 0)) ((0 ≤ m ∧ m ≤ 999) ∧ (1 ≤ k ∧ k ≤ 99)) (ZZ t dr tx) w (up (up (up w 73 1 0) 109 c m) 110 c k)) zNo 37 [zR 73, zI c, zI m, zI k] [zI (if 1 ≤ k ∧ k ≤ 99 then 1 else 0)] (ZZ t dr tx) w_1
      refine zA_if_ne (tgt := 42) dX12_risk_37 (by decide) (inR_ite _) (fun c37 => ?_) (fun c37 => ?_)
      · skip
        replace c37 := zite_ne c37
        refine zA_aload_n dX12_risk_42 rfl ?_
        refine zA_getR (n := 109) dX12_risk_43 fX12_136 c73 rfl ?_
        refine zA_iload_n dX12_risk_46 rfl ?_
        refine zA_iload_n dX12_risk_47 rfl ?_
        refine zA_iastore dX12_risk_48 (by first | assumption | exact hr _ _ | exact inR_mk (by omega) (by omega)) c109 (by first | assumption | omega) (by first | assumption | omega) (by decide) ?_
        refine zA_namew (fun w_2 hw_2 => ?_)
        refine zA_range (fun hr => ?_)
        replace hw_2 : w_2 = up w_1 109 c m := hw_2
        refine zA_aload_n dX12_risk_49 rfl ?_
        refine zA_getR (n := 110) dX12_risk_50 fX12_139 c73 rfl ?_
        refine zA_iload_n dX12_risk_53 rfl ?_
        refine zA_iload_n dX12_risk_54 rfl ?_
        refine zA_iastore dX12_risk_55 (by first | assumption | exact hr _ _ | exact inR_mk (by omega) (by omega)) c110 (by first | assumption | omega) (by first | assumption | omega) (by decide) ?_
        refine zA_namew (fun w_3 hw_3 => ?_)
        refine zA_range (fun hr => ?_)
        replace hw_3 : w_3 = up w_2 110 c k := hw_3
        refine zA_iconst dX12_risk_56 ?_
        refine zA_zret dX12_risk_57 rfl (Or.inr rfl) ?_
        exact ⟨rfl, Or.inr (Or.inr ⟨(by first | omega | exact fun h => h), by omega, rfl, by rw [hw_3, hw_2, hw_1]⟩)⟩
      · skip
        replace c37 := zite_eq c37
        refine zA_iconst dX12_risk_40 ?_
        refine zA_zret dX12_risk_41 rfl (Or.inl rfl) ?_
        exact ⟨rfl, Or.inr (Or.inl ⟨(by first | omega | exact fun h => h), by omega, rfl, hw_1⟩)⟩
  · skip
    replace c10 := zite_eq c10
    refine zA_aload_n dX12_risk_13 rfl ?_
    refine zA_iconst dX12_risk_14 ?_
    refine zA_cV (st := []) dX12_risk_15 vX12_refuse kX12_344 (m_refuse (w := w_1) (k := 1) ⟨by decide, by decide⟩) (by decide) c73 rfl rfl (Nat.le_of_ble_eq_true rfl) rfl (zRt_el ?_)
    show zA l mX12_risk false 3 0 0 (zMb (¬ (0 ≤ c ∧ c < w 75 0)) ((0 ≤ m ∧ m ≤ 999) ∧ (1 ≤ k ∧ k ≤ 99)) (ZZ t dr tx) w (up (up (up w 73 1 0) 109 c m) 110 c k)) zNo 18 [zR 73, zI c, zI m, zI k] [zI 0] (ZZ t dr tx) (up w_1 73 1 1)
    refine zA_zret dX12_risk_18 rfl (Or.inl rfl) ?_
    exact ⟨rfl, Or.inl ⟨by omega, rfl, by rw [hw_1, up_up]⟩⟩

set_option maxRecDepth 100000 in
set_option maxHeartbeats 4000000 in
theorem m_plumb {l : Launch} {t dr tx : Nat} {w : zW} {c y m : Int} (hc : inR c) (hy : inR y) (hm : inR m) (hw : ∀ c : Int, 0 ≤ c → c < 12 → 0 ≤ w 89 c ∧ w 89 c ≤ 10) (hn0 : 0 ≤ w 75 0) (hn : w 75 0 ≤ 12)  : zSp l mX12_plumb false 3 0 0 [zR 73, zI c, zI y, zI m] (ZZ t dr tx) w (zMb (¬ (0 ≤ c ∧ c < w 75 0)) (((0 ≤ y ∧ y ≤ 300) ∧ (-3000 ≤ m ∧ m ≤ 3000)) ∧ w 89 c < 10) (ZZ t dr tx) w (up (up (up (up w 73 1 0) 91 (10 * c + w 89 c) y) 92 (10 * c + w 89 c) m) 89 c (w 89 c + 1))) zNo := by
  refine zA_intro ⟨plainFor_of_name (by decide +kernel), Or.inl (by decide +kernel)⟩ rfl (Nat.le_of_ble_eq_true rfl) ?_
  refine zA_range (fun hr => ?_)
  show zA l mX12_plumb false 3 0 0 (zMb (¬ (0 ≤ c ∧ c < w 75 0)) (((0 ≤ y ∧ y ≤ 300) ∧ (-3000 ≤ m ∧ m ≤ 3000)) ∧ w 89 c < 10) (ZZ t dr tx) w (up (up (up (up w 73 1 0) 91 (10 * c + w 89 c) y) 92 (10 * c + w 89 c) m) 89 c (w 89 c + 1))) zNo 0 [zR 73, zI c, zI y, zI m] [] (ZZ t dr tx) w
  refine zA_aload_n dX12_plumb_0 rfl ?_
  refine zA_iconst dX12_plumb_1 ?_
  refine zA_putI dX12_plumb_2 fX12_182 c73 rfl ⟨by decide, by decide⟩ ⟨rfl, rfl⟩ ?_
  refine zA_namew (fun w_1 hw_1 => ?_)
  refine zA_range (fun hr => ?_)
  replace hw_1 : w_1 = up w 73 1 0 := hw_1
  have ef : ∀ cc i, cc ≠ 73 → w_1 cc i = w cc i := fun cc i h => by rw [hw_1, up_cell _ _ _ _ h]
  have e75 : w_1 75 0 = w 75 0 := ef 75 0 (by decide)
  have e76 : w_1 76 0 = w 76 0 := ef 76 0 (by decide)
  have e73 : ∀ i, i ≠ 1 → w_1 73 i = w 73 i := fun i h => by rw [hw_1, up_idx _ _ _ _ h]
  have e89 : w_1 89 c = w 89 c := ef 89 c (by decide)
  refine zA_aload_n dX12_plumb_5 rfl ?_
  refine zA_iload_n dX12_plumb_6 rfl ?_
  refine zA_cV (st := []) dX12_plumb_7 vX12_isChimney kX12_321 (m_isChimney (w := w_1) (c := c) (by first | assumption | exact hr _ _ | exact inR_mk (by omega) (by omega)) (by omega) (by omega)) (by decide) c73 rfl rfl (Nat.le_of_ble_eq_true rfl) rfl (zRt_el ?_)
  show zA l mX12_plumb false 3 0 0 (zMb (¬ (0 ≤ c ∧ c < w 75 0)) (((0 ≤ y ∧ y ≤ 300) ∧ (-3000 ≤ m ∧ m ≤ 3000)) ∧ w 89 c < 10) (ZZ t dr tx) w (up (up (up (up w 73 1 0) 91 (10 * c + w 89 c) y) 92 (10 * c + w 89 c) m) 89 c (w 89 c + 1))) zNo 10 [zR 73, zI c, zI y, zI m] [zI (if 0 ≤ c ∧ c < w_1 75 0 then 1 else 0)] (ZZ t dr tx) w_1
  refine zA_if_ne (tgt := 19) dX12_plumb_10 (by decide) (inR_ite _) (fun c10 => ?_) (fun c10 => ?_)
  · skip
    replace c10 := zite_ne c10
    have hwc := hw c (by omega) (by omega)
    refine zA_aload_n dX12_plumb_19 rfl ?_
    refine zA_getR (n := 89) dX12_plumb_20 fX12_72 c73 rfl ?_
    refine zA_iload_n dX12_plumb_23 rfl ?_
    refine zA_iaload dX12_plumb_24 c89 (by first | assumption | omega) (by first | assumption | omega) (by decide) ?_
    refine zA_bipush dX12_plumb_25 rfl ?_
    refine zA_icmp_eq (tgt := 54) dX12_plumb_27 (by decide) (by first | assumption | exact hr _ _ | exact inR_mk (by omega) (by omega)) ⟨by decide, by decide⟩ (fun c27 => ?_) (fun c27 => ?_)
    · skip
      refine zA_iconst dX12_plumb_54 ?_
      refine zA_zret dX12_plumb_55 rfl (Or.inl rfl) ?_
      exact ⟨rfl, Or.inr (Or.inl ⟨(by first | omega | exact fun h => h), by omega, rfl, hw_1⟩)⟩
    · skip
      refine zA_iload_n dX12_plumb_30 rfl ?_
      refine zA_iconst dX12_plumb_31 ?_
      refine zA_sipush dX12_plumb_32 rfl ?_
      refine zA_cS (st := []) dX12_plumb_35 sX12_isIn kX12_185 (m_isIn (w := w_1) (a := y) (b := 0) (e := 300) (by first | assumption | exact hr _ _ | exact inR_mk (by omega) (by omega)) ⟨by decide, by decide⟩ ⟨by decide, by decide⟩) (by decide) rfl rfl (Nat.le_of_ble_eq_true rfl) (zRt_el ?_)
      show zA l mX12_plumb false 3 0 0 (zMb (¬ (0 ≤ c ∧ c < w 75 0)) (((0 ≤ y ∧ y ≤ 300) ∧ (-3000 ≤ m ∧ m ≤ 3000)) ∧ w 89 c < 10) (ZZ t dr tx) w (up (up (up (up w 73 1 0) 91 (10 * c + w 89 c) y) 92 (10 * c + w 89 c) m) 89 c (w 89 c + 1))) zNo 38 [zR 73, zI c, zI y, zI m] [zI (if 0 ≤ y ∧ y ≤ 300 then 1 else 0)] (ZZ t dr tx) w_1
      refine zA_if_eq (tgt := 54) dX12_plumb_38 (by decide) (inR_ite _) (fun c38 => ?_) (fun c38 => ?_)
      · skip
        replace c38 := zite_eq c38
        refine zA_iconst dX12_plumb_54 ?_
        refine zA_zret dX12_plumb_55 rfl (Or.inl rfl) ?_
        exact ⟨rfl, Or.inr (Or.inl ⟨(by first | omega | exact fun h => h), by omega, rfl, hw_1⟩)⟩
      · skip
        replace c38 := zite_ne c38
        refine zA_iload_n dX12_plumb_41 rfl ?_
        refine zA_sipush dX12_plumb_42 rfl ?_
        refine zA_sipush dX12_plumb_45 rfl ?_
        refine zA_cS (st := []) dX12_plumb_48 sX12_isIn kX12_185 (m_isIn (w := w_1) (a := m) (b := (-3000)) (e := 3000) (by first | assumption | exact hr _ _ | exact inR_mk (by omega) (by omega)) ⟨by decide, by decide⟩ ⟨by decide, by decide⟩) (by decide) rfl rfl (Nat.le_of_ble_eq_true rfl) (zRt_el ?_)
        show zA l mX12_plumb false 3 0 0 (zMb (¬ (0 ≤ c ∧ c < w 75 0)) (((0 ≤ y ∧ y ≤ 300) ∧ (-3000 ≤ m ∧ m ≤ 3000)) ∧ w 89 c < 10) (ZZ t dr tx) w (up (up (up (up w 73 1 0) 91 (10 * c + w 89 c) y) 92 (10 * c + w 89 c) m) 89 c (w 89 c + 1))) zNo 51 [zR 73, zI c, zI y, zI m] [zI (if (-3000) ≤ m ∧ m ≤ 3000 then 1 else 0)] (ZZ t dr tx) w_1
        refine zA_if_ne (tgt := 56) dX12_plumb_51 (by decide) (inR_ite _) (fun c51 => ?_) (fun c51 => ?_)
        · skip
          replace c51 := zite_ne c51
          refine zA_aload_n dX12_plumb_56 rfl ?_
          refine zA_getR (n := 91) dX12_plumb_57 fX12_78 c73 rfl ?_
          refine zA_bipush dX12_plumb_60 rfl ?_
          refine zA_iload_n dX12_plumb_62 rfl ?_
          refine zA_imul dX12_plumb_63 ?_
          refine zA_aload_n dX12_plumb_64 rfl ?_
          refine zA_getR (n := 89) dX12_plumb_65 fX12_72 c73 rfl ?_
          refine zA_iload_n dX12_plumb_68 rfl ?_
          refine zA_iaload dX12_plumb_69 c89 (by first | assumption | omega) (by first | assumption | omega) (by decide) ?_
          refine zA_iadd dX12_plumb_70 ?_
          refine zA_iload_n dX12_plumb_71 rfl ?_
          refine zA_iastore dX12_plumb_72 (by first | assumption | exact hr _ _ | exact inR_mk (by omega) (by omega)) c91 (by first | assumption | omega) (by first | assumption | omega) (by decide) ?_
          refine zA_namew (fun w_2 hw_2 => ?_)
          refine zA_range (fun hr => ?_)
          replace hw_2 : w_2 = up w_1 91 ((10 * c) + (w_1 89 c)) y := hw_2
          have e892 : w_2 89 c = w 89 c := by rw [hw_2, up_cell _ _ _ _ (by decide)]; exact e89
          refine zA_aload_n dX12_plumb_73 rfl ?_
          refine zA_getR (n := 92) dX12_plumb_74 fX12_81 c73 rfl ?_
          refine zA_bipush dX12_plumb_77 rfl ?_
          refine zA_iload_n dX12_plumb_79 rfl ?_
          refine zA_imul dX12_plumb_80 ?_
          refine zA_aload_n dX12_plumb_81 rfl ?_
          refine zA_getR (n := 89) dX12_plumb_82 fX12_72 c73 rfl ?_
          refine zA_iload_n dX12_plumb_85 rfl ?_
          refine zA_iaload dX12_plumb_86 c89 (by first | assumption | omega) (by first | assumption | omega) (by decide) ?_
          refine zA_iadd dX12_plumb_87 ?_
          refine zA_iload_n dX12_plumb_88 rfl ?_
          refine zA_iastore dX12_plumb_89 (by first | assumption | exact hr _ _ | exact inR_mk (by omega) (by omega)) c92 (by first | assumption | omega) (by first | assumption | omega) (by decide) ?_
          refine zA_namew (fun w_3 hw_3 => ?_)
          refine zA_range (fun hr => ?_)
          replace hw_3 : w_3 = up w_2 92 ((10 * c) + (w_2 89 c)) m := hw_3
          have e893 : w_3 89 c = w 89 c := by rw [hw_3, up_cell _ _ _ _ (by decide)]; exact e892
          refine zA_aload_n dX12_plumb_90 rfl ?_
          refine zA_getR (n := 89) dX12_plumb_91 fX12_72 c73 rfl ?_
          refine zA_iload_n dX12_plumb_94 rfl ?_
          refine zA_dup2 dX12_plumb_95 rfl rfl ?_
          refine zA_iaload dX12_plumb_96 c89 (by first | assumption | omega) (by first | assumption | omega) (by decide) ?_
          refine zA_iconst dX12_plumb_97 ?_
          refine zA_iadd dX12_plumb_98 ?_
          refine zA_iastore dX12_plumb_99 (by first | assumption | exact hr _ _ | exact inR_mk (by omega) (by omega)) c89 (by first | assumption | omega) (by first | assumption | omega) (by decide) ?_
          refine zA_namew (fun w_4 hw_4 => ?_)
          refine zA_range (fun hr => ?_)
          replace hw_4 : w_4 = up w_3 89 c ((w_3 89 c) + 1) := hw_4
          refine zA_iconst dX12_plumb_100 ?_
          refine zA_zret dX12_plumb_101 rfl (Or.inr rfl) ?_
          exact ⟨rfl, Or.inr (Or.inr ⟨by omega, by omega, rfl, by rw [hw_4, hw_3, hw_2, up_cell _ _ _ _ (by decide : (89 : Nat) ≠ 92), up_cell _ _ _ _ (by decide : (89 : Nat) ≠ 91), e89, hw_1]⟩)⟩
        · skip
          replace c51 := zite_eq c51
          refine zA_iconst dX12_plumb_54 ?_
          refine zA_zret dX12_plumb_55 rfl (Or.inl rfl) ?_
          exact ⟨rfl, Or.inr (Or.inl ⟨(by first | omega | exact fun h => h), by omega, rfl, hw_1⟩)⟩
  · skip
    replace c10 := zite_eq c10
    refine zA_aload_n dX12_plumb_13 rfl ?_
    refine zA_iconst dX12_plumb_14 ?_
    refine zA_cV (st := []) dX12_plumb_15 vX12_refuse kX12_344 (m_refuse (w := w_1) (k := 1) ⟨by decide, by decide⟩) (by decide) c73 rfl rfl (Nat.le_of_ble_eq_true rfl) rfl (zRt_el ?_)
    show zA l mX12_plumb false 3 0 0 (zMb (¬ (0 ≤ c ∧ c < w 75 0)) (((0 ≤ y ∧ y ≤ 300) ∧ (-3000 ≤ m ∧ m ≤ 3000)) ∧ w 89 c < 10) (ZZ t dr tx) w (up (up (up (up w 73 1 0) 91 (10 * c + w 89 c) y) 92 (10 * c + w 89 c) m) 89 c (w 89 c + 1))) zNo 18 [zR 73, zI c, zI y, zI m] [zI 0] (ZZ t dr tx) (up w_1 73 1 1)
    refine zA_zret dX12_plumb_18 rfl (Or.inl rfl) ?_
    exact ⟨rfl, Or.inl ⟨by omega, rfl, by rw [hw_1, up_up]⟩⟩

def lad (a q : Int) : Int := if a ≤ q then 1 else 1 + (a - q + (q - 2) - 1) / (q - 2)
set_option maxRecDepth 100000 in
set_option maxHeartbeats 4000000 in
theorem m_laddersTo {l : Launch} {w : zW} {S : zS} {a q : Int} (ha0 : 1 ≤ a) (ha : a ≤ 200) (hq0 : 3 ≤ q) (hq : q ≤ 99) : zSp l mX12_laddersTo false 1 0 0 [zI a, zI q] S w (zRt (some (zI (lad a q))) S w) zNo := by
  refine zA_intro ⟨plainFor_of_name (by decide +kernel), Or.inl (by decide +kernel)⟩ rfl (Nat.le_of_ble_eq_true rfl) ?_
  refine zA_range (fun hr => ?_)
  show zA l mX12_laddersTo false 1 0 0 (zRt (some (zI (lad a q))) S w) zNo 0 [zI a, zI q] [] S w
  refine zA_iload_n dX12_laddersTo_0 rfl ?_
  refine zA_iload_n dX12_laddersTo_1 rfl ?_
  refine zA_icmp_gt (tgt := 9) dX12_laddersTo_2 (by decide) (by first | assumption | exact hr _ _ | exact inR_mk (by omega) (by omega)) (by first | assumption | exact hr _ _ | exact inR_mk (by omega) (by omega)) (fun c2 => ?_) (fun c2 => ?_)
  · skip
    refine zA_iconst dX12_laddersTo_9 ?_
    refine zA_iload_n dX12_laddersTo_10 rfl ?_
    refine zA_iload_n dX12_laddersTo_11 rfl ?_
    refine zA_isub dX12_laddersTo_12 ?_
    refine zA_iload_n dX12_laddersTo_13 rfl ?_
    refine zA_iadd dX12_laddersTo_14 ?_
    refine zA_iconst dX12_laddersTo_15 ?_
    refine zA_isub dX12_laddersTo_16 ?_
    refine zA_iload_n dX12_laddersTo_17 rfl ?_
    refine zA_iconst dX12_laddersTo_18 ?_
    refine zA_isub dX12_laddersTo_19 ?_
    refine zA_idiv dX12_laddersTo_20 (by first | assumption | omega) (by first | assumption | omega) (by first | assumption | omega) (by first | assumption | omega) ?_
    refine zA_iadd dX12_laddersTo_21 ?_
    refine zA_iret dX12_laddersTo_22 rfl ?_
    exact zRt_i (by unfold lad; split <;> first | omega | rfl | (congr 2; omega))
  · skip
    refine zA_iconst dX12_laddersTo_5 ?_
    refine zA_goto (tgt := 22) dX12_laddersTo_6 (by decide) ?_
    refine zA_iret dX12_laddersTo_22 rfl ?_
    exact zRt_i (by unfold lad; split <;> first | omega | rfl | (congr 2; omega))

set_option maxRecDepth 100000 in
set_option maxHeartbeats 4000000 in
theorem s_laddersFor {l : Launch} {w : zW} {S : zS} {a q : Int} (ha0 : 1 ≤ a) (ha : a ≤ 200) (hq0 : 3 ≤ q) (hq : q ≤ 99) : zSp l mX2_laddersFor false 1 0 0 [zI a, zI q] S w (zRt (some (zI (lad a q))) S w) zNo := by
  refine zA_intro ⟨plainFor_of_name (by decide +kernel), Or.inl (by decide +kernel)⟩ rfl (Nat.le_of_ble_eq_true rfl) ?_
  refine zA_range (fun hr => ?_)
  show zA l mX2_laddersFor false 1 0 0 (zRt (some (zI (lad a q))) S w) zNo 0 [zI a, zI q, .null] [] S w
  refine zA_iload_n dX2_laddersFor_0 rfl ?_
  refine zA_iconst dX2_laddersFor_1 ?_
  refine zA_isub dX2_laddersFor_2 ?_
  refine zA_istore_n (lo1 := [zI a, zI q, zI (q - 2)]) dX2_laddersFor_3 (by decide) rfl rfl ?_
  refine zA_iload_n dX2_laddersFor_4 rfl ?_
  refine zA_iload_n dX2_laddersFor_5 rfl ?_
  refine zA_icmp_le (tgt := 13) dX2_laddersFor_6 (by decide) (by first | assumption | exact hr _ _ | exact inR_mk (by omega) (by omega)) (by first | assumption | exact hr _ _ | exact inR_mk (by omega) (by omega)) (fun c6 => ?_) (fun c6 => ?_)
  · skip
    refine zA_iconst dX2_laddersFor_13 ?_
    refine zA_iret dX2_laddersFor_14 rfl ?_
    exact zRt_i (by unfold lad; split <;> first | omega | rfl)
  · skip
    refine zA_iload_n dX2_laddersFor_9 rfl ?_
    refine zA_if_gt (tgt := 15) dX2_laddersFor_10 (by decide) (by first | assumption | exact hr _ _ | exact inR_mk (by omega) (by omega)) (fun c10 => ?_) (fun c10 => ?_)
    · skip
      refine zA_iconst dX2_laddersFor_15 ?_
      refine zA_iload_n dX2_laddersFor_16 rfl ?_
      refine zA_iload_n dX2_laddersFor_17 rfl ?_
      refine zA_isub dX2_laddersFor_18 ?_
      refine zA_iload_n dX2_laddersFor_19 rfl ?_
      refine zA_iadd dX2_laddersFor_20 ?_
      refine zA_iconst dX2_laddersFor_21 ?_
      refine zA_isub dX2_laddersFor_22 ?_
      refine zA_iload_n dX2_laddersFor_23 rfl ?_
      refine zA_idiv dX2_laddersFor_24 (by first | assumption | omega) (by first | assumption | omega) (by first | assumption | omega) (by first | assumption | omega) ?_
      refine zA_iadd dX2_laddersFor_25 ?_
      refine zA_iret dX2_laddersFor_26 rfl ?_
      exact zRt_i (by unfold lad; split <;> first | omega | rfl)
    · skip
      refine zA_iconst dX2_laddersFor_13 ?_
      refine zA_iret dX2_laddersFor_14 rfl ?_
      exact zRt_i (by unfold lad; split <;> first | omega | rfl)

set_option maxRecDepth 100000 in
set_option maxHeartbeats 4000000 in
theorem m_ladders {l : Launch} {t dr tx : Nat} {w : zW} {c q : Int} (hc : inR c) (hq : inR q) (hcc : ∀ c : Int, 0 ≤ c → c < w 75 0 → 1 ≤ w 79 c ∧ w 79 c ≤ 200) (hn0 : 0 ≤ w 75 0) (hn : w 75 0 ≤ 12)  : zSp l mX12_ladders false 3 0 0 [zR 73, zI c, zI q] (ZZ t dr tx) w (zMq (¬ (0 ≤ c ∧ c < w 75 0)) (¬ (3 ≤ q ∧ q ≤ 99)) (lad (w 79 c) q) (ZZ t dr tx) w (up w 73 1 0)) zNo := by
  refine zA_intro ⟨plainFor_of_name (by decide +kernel), Or.inl (by decide +kernel)⟩ rfl (Nat.le_of_ble_eq_true rfl) ?_
  refine zA_range (fun hr => ?_)
  show zA l mX12_ladders false 3 0 0 (zMq (¬ (0 ≤ c ∧ c < w 75 0)) (¬ (3 ≤ q ∧ q ≤ 99)) (lad (w 79 c) q) (ZZ t dr tx) w (up w 73 1 0)) zNo 0 [zR 73, zI c, zI q] [] (ZZ t dr tx) w
  refine zA_aload_n dX12_ladders_0 rfl ?_
  refine zA_iconst dX12_ladders_1 ?_
  refine zA_putI dX12_ladders_2 fX12_182 c73 rfl ⟨by decide, by decide⟩ ⟨rfl, rfl⟩ ?_
  refine zA_namew (fun w_1 hw_1 => ?_)
  refine zA_range (fun hr => ?_)
  replace hw_1 : w_1 = up w 73 1 0 := hw_1
  have ef : ∀ cc i, cc ≠ 73 → w_1 cc i = w cc i := fun cc i h => by rw [hw_1, up_cell _ _ _ _ h]
  have e75 : w_1 75 0 = w 75 0 := ef 75 0 (by decide)
  have e76 : w_1 76 0 = w 76 0 := ef 76 0 (by decide)
  have e73 : ∀ i, i ≠ 1 → w_1 73 i = w 73 i := fun i h => by rw [hw_1, up_idx _ _ _ _ h]
  refine zA_aload_n dX12_ladders_5 rfl ?_
  refine zA_iload_n dX12_ladders_6 rfl ?_
  refine zA_cV (st := []) dX12_ladders_7 vX12_isChimney kX12_321 (m_isChimney (w := w_1) (c := c) (by first | assumption | exact hr _ _ | exact inR_mk (by omega) (by omega)) (by omega) (by omega)) (by decide) c73 rfl rfl (Nat.le_of_ble_eq_true rfl) rfl (zRt_el ?_)
  show zA l mX12_ladders false 3 0 0 (zMq (¬ (0 ≤ c ∧ c < w 75 0)) (¬ (3 ≤ q ∧ q ≤ 99)) (lad (w 79 c) q) (ZZ t dr tx) w (up w 73 1 0)) zNo 10 [zR 73, zI c, zI q] [zI (if 0 ≤ c ∧ c < w_1 75 0 then 1 else 0)] (ZZ t dr tx) w_1
  refine zA_if_ne (tgt := 19) dX12_ladders_10 (by decide) (inR_ite _) (fun c10 => ?_) (fun c10 => ?_)
  · skip
    replace c10 := zite_ne c10
    have e79 : w_1 79 c = w 79 c := ef 79 c (by decide)
    have hcc1 := hcc c (by omega) (by omega)
    refine zA_iload_n dX12_ladders_19 rfl ?_
    refine zA_iconst dX12_ladders_20 ?_
    refine zA_bipush dX12_ladders_21 rfl ?_
    refine zA_cS (st := []) dX12_ladders_23 sX12_isIn kX12_185 (m_isIn (w := w_1) (a := q) (b := 3) (e := 99) (by first | assumption | exact hr _ _ | exact inR_mk (by omega) (by omega)) ⟨by decide, by decide⟩ ⟨by decide, by decide⟩) (by decide) rfl rfl (Nat.le_of_ble_eq_true rfl) (zRt_el ?_)
    show zA l mX12_ladders false 3 0 0 (zMq (¬ (0 ≤ c ∧ c < w 75 0)) (¬ (3 ≤ q ∧ q ≤ 99)) (lad (w 79 c) q) (ZZ t dr tx) w (up w 73 1 0)) zNo 26 [zR 73, zI c, zI q] [zI (if 3 ≤ q ∧ q ≤ 99 then 1 else 0)] (ZZ t dr tx) w_1
    refine zA_if_eq (tgt := 42) dX12_ladders_26 (by decide) (inR_ite _) (fun c26 => ?_) (fun c26 => ?_)
    · skip
      replace c26 := zite_eq c26
      refine zA_aload_n dX12_ladders_42 rfl ?_
      refine zA_iconst dX12_ladders_43 ?_
      refine zA_cV (st := []) dX12_ladders_44 vX12_fail kX12_292 (m_fail (w := w_1) (k := 2) ⟨by decide, by decide⟩) (by decide) c73 rfl rfl (Nat.le_of_ble_eq_true rfl) rfl (zRt_el ?_)
      show zA l mX12_ladders false 3 0 0 (zMq (¬ (0 ≤ c ∧ c < w 75 0)) (¬ (3 ≤ q ∧ q ≤ 99)) (lad (w 79 c) q) (ZZ t dr tx) w (up w 73 1 0)) zNo 47 [zR 73, zI c, zI q] [zI 0] (ZZ t dr tx) (up w_1 73 1 2)
      refine zA_iret dX12_ladders_47 rfl ?_
      exact ⟨rfl, Or.inr (Or.inl ⟨by omega, by omega, rfl, by rw [hw_1, up_up]⟩)⟩
    · skip
      replace c26 := zite_ne c26
      refine zA_aload_n dX12_ladders_29 rfl ?_
      refine zA_getR (n := 79) dX12_ladders_30 fX12_38 c73 rfl ?_
      refine zA_iload_n dX12_ladders_33 rfl ?_
      refine zA_iaload dX12_ladders_34 c79 (by first | assumption | omega) (by first | assumption | omega) (by decide) ?_
      refine zA_iload_n dX12_ladders_35 rfl ?_
      refine zA_cS (st := []) dX12_ladders_36 sX12_laddersTo kX12_482 (m_laddersTo (w := w_1) (a := w_1 79 c) (q := q) (by omega) (by omega) (by omega) (by omega)) (by decide) rfl rfl (Nat.le_of_ble_eq_true rfl) (zRt_el ?_)
      show zA l mX12_ladders false 3 0 0 (zMq (¬ (0 ≤ c ∧ c < w 75 0)) (¬ (3 ≤ q ∧ q ≤ 99)) (lad (w 79 c) q) (ZZ t dr tx) w (up w 73 1 0)) zNo 39 [zR 73, zI c, zI q] [zI (lad (w_1 79 c) q)] (ZZ t dr tx) w_1
      refine zA_goto (tgt := 47) dX12_ladders_39 (by decide) ?_
      refine zA_iret dX12_ladders_47 rfl ?_
      exact ⟨rfl, Or.inr (Or.inr ⟨by omega, (by first | omega | exact fun h => h), by rw [e79], hw_1⟩)⟩
  · skip
    replace c10 := zite_eq c10
    refine zA_aload_n dX12_ladders_13 rfl ?_
    refine zA_iconst dX12_ladders_14 ?_
    refine zA_cV (st := []) dX12_ladders_15 vX12_fail kX12_292 (m_fail (w := w_1) (k := 1) ⟨by decide, by decide⟩) (by decide) c73 rfl rfl (Nat.le_of_ble_eq_true rfl) rfl (zRt_el ?_)
    show zA l mX12_ladders false 3 0 0 (zMq (¬ (0 ≤ c ∧ c < w 75 0)) (¬ (3 ≤ q ∧ q ≤ 99)) (lad (w 79 c) q) (ZZ t dr tx) w (up w 73 1 0)) zNo 18 [zR 73, zI c, zI q] [zI 0] (ZZ t dr tx) (up w_1 73 1 1)
    refine zA_iret dX12_ladders_18 rfl ?_
    exact ⟨rfl, Or.inl ⟨by omega, rfl, by rw [hw_1, up_up]⟩⟩

set_option maxRecDepth 100000 in
set_option maxHeartbeats 4000000 in
theorem s_ladders {l : Launch} {t dr tx : Nat} {w : zW} (ht : t = 4 ∨ t = 10) (hn : w t 5 ≤ 12) {c q : Int} (hc : inR c) (hq : inR q) (hcc : ∀ c : Int, 0 ≤ c → c < w t 5 → 1 ≤ w (t + 1) c ∧ w (t + 1) c ≤ 200) : zSp l mX11_ladders false 3 2 12 [zR 0, zI c, zI q] (ZZ t dr tx) w (zIs ((0 ≤ c ∧ c < w t 5) ∧ (3 ≤ q ∧ q ≤ 99)) (lad (w (t + 1) c) q) (ZZ t dr tx) (w)) (zXp (¬ (0 ≤ c ∧ c < w t 5)) ((0 ≤ c ∧ c < w t 5) ∧ ¬ (3 ≤ q ∧ q ≤ 99)) (ZZ t dr tx) w) := by
  refine zA_intro ⟨plainFor_of_name (by decide +kernel), Or.inl (by decide +kernel)⟩ rfl (Nat.le_of_ble_eq_true rfl) ?_
  refine zA_range (fun hr => ?_)
  show zA l mX11_ladders false 3 2 12 (zIs ((0 ≤ c ∧ c < w t 5) ∧ (3 ≤ q ∧ q ≤ 99)) (lad (w (t + 1) c) q) (ZZ t dr tx) (w)) (zXp (¬ (0 ≤ c ∧ c < w t 5)) ((0 ≤ c ∧ c < w t 5) ∧ ¬ (3 ≤ q ∧ q ≤ 99)) (ZZ t dr tx) w) 0 [zR 0, zI c, zI q] [] (ZZ t dr tx) w
  refine zA_aload_n dX11_ladders_0 rfl ?_
  refine zA_iload_n dX11_ladders_1 rfl ?_
  refine zA_callV (bc2 := 1) (bs2 := 6) (st := []) dX11_ladders_2 vX11_askChimney kX11_173 (s_askChimney (w := w) ht (c := c) (by first | assumption | exact hr _ _ | exact inR_mk (by omega) (by omega))) (by decide) rfl rfl (Nat.le_of_ble_eq_true rfl) c0 rfl ⟨rfl, rfl⟩ (zRa_el (fun h_2 => ?_)) (zXp_m rfl (fun h => by first | exact h.elim | omega) (fun h => by first | exact h.elim | omega))
  show zA l mX11_ladders false 3 1 6 (zIs ((0 ≤ c ∧ c < w t 5) ∧ (3 ≤ q ∧ q ≤ 99)) (lad (w (t + 1) c) q) (ZZ t dr tx) (w)) (zXp (¬ (0 ≤ c ∧ c < w t 5)) ((0 ≤ c ∧ c < w t 5) ∧ ¬ (3 ≤ q ∧ q ≤ 99)) (ZZ t dr tx) w) 5 [zR 0, zI c, zI q] [] (ZZ t dr tx) w
  refine zA_iload_n dX11_ladders_5 rfl ?_
  refine zA_callS (bc2 := 0) (bs2 := 0) (st := []) dX11_ladders_6 sX11_askLadder kX11_422 (s_askLadder (w := w) (c := q) (by first | assumption | exact hr _ _ | exact inR_mk (by omega) (by omega))) (by decide) rfl rfl (Nat.le_of_ble_eq_true rfl) ⟨rfl, rfl⟩ (zRa_el (fun h_6 => ?_)) (zXp_m rfl (fun h => by first | exact h.elim | omega) (fun h => by first | exact h.elim | omega))
  show zA l mX11_ladders false 3 0 0 (zIs ((0 ≤ c ∧ c < w t 5) ∧ (3 ≤ q ∧ q ≤ 99)) (lad (w (t + 1) c) q) (ZZ t dr tx) (w)) (zXp (¬ (0 ≤ c ∧ c < w t 5)) ((0 ≤ c ∧ c < w t 5) ∧ ¬ (3 ≤ q ∧ q ≤ 99)) (ZZ t dr tx) w) 9 [zR 0, zI c, zI q] [] (ZZ t dr tx) w
  refine zA_aload_n dX11_ladders_9 rfl ?_
  refine zA_getR (n := t) dX11_ladders_10 fX11_30 c0 rfl ?_
  refine zA_getR (n := (t + 1)) dX11_ladders_13 fX11_346 (cY0 ht) rfl ?_
  refine zA_iload_n dX11_ladders_16 rfl ?_
  refine zA_iaload dX11_ladders_17 (cY1 ht) (by first | assumption | omega) (by first | assumption | omega) (by decide) ?_
  refine zA_iload_n dX11_ladders_18 rfl ?_
  refine zA_cS (st := []) dX11_ladders_19 sX2_laddersFor kX11_425 (s_laddersFor (w := w) (a := w (t + 1) c) (q := q) (hcc c (by omega) (by omega)).1 (hcc c (by omega) (by omega)).2 (by omega) (by omega)) (by decide) rfl rfl (Nat.le_of_ble_eq_true rfl) (zRt_el ?_)
  show zA l mX11_ladders false 3 0 0 (zIs ((0 ≤ c ∧ c < w t 5) ∧ (3 ≤ q ∧ q ≤ 99)) (lad (w (t + 1) c) q) (ZZ t dr tx) (w)) (zXp (¬ (0 ≤ c ∧ c < w t 5)) ((0 ≤ c ∧ c < w t 5) ∧ ¬ (3 ≤ q ∧ q ≤ 99)) (ZZ t dr tx) w) 22 [zR 0, zI c, zI q] [zI (lad (w (t + 1) c) q)] (ZZ t dr tx) w
  refine zA_iret dX11_ladders_22 rfl ?_
  exact ⟨by omega, by first | rfl | (congr 2; first | rfl | omega), rfl, by first | rfl | (simp only [*]; done)⟩

