/-! clears, what is planned -/
set_option maxRecDepth 100000 in
set_option maxHeartbeats 4000000 in
theorem s_clearC {l : Launch} {t dr tx : Nat} {w : zW}  : zSp l mX0_clear false 2 0 0 [zR 44] (ZZ t dr tx) w (fun v' S' w' => v' = none ∧ S' = (ZZ t dr tx) ∧ (∀ c i, c ≠ 46 → c ≠ 47 → (c ≠ 44 ∨ (i ≠ 6)) → w' c i = w c i) ∧ (∀ x : Int, 0 ≤ x → x < 360 → w' 46 x = 0) ∧ (∀ x : Int, 0 ≤ x → x < 7 → w' 47 x = 0) ∧ w' 44 6 = 0) zNo := by
  refine zA_intro ⟨plainFor_of_name (by decide +kernel), Or.inl (by decide +kernel)⟩ rfl (Nat.le_of_ble_eq_true rfl) ?_
  refine zA_range (fun hr => ?_)
  show zA l mX0_clear false 2 0 0 (fun v' S' w' => v' = none ∧ S' = (ZZ t dr tx) ∧ (∀ c i, c ≠ 46 → c ≠ 47 → (c ≠ 44 ∨ (i ≠ 6)) → w' c i = w c i) ∧ (∀ x : Int, 0 ≤ x → x < 360 → w' 46 x = 0) ∧ (∀ x : Int, 0 ≤ x → x < 7 → w' 47 x = 0) ∧ w' 44 6 = 0) zNo 0 [zR 44] [] (ZZ t dr tx) w
  refine zA_aload_n dX0_clear_0 rfl ?_
  refine zA_getR (n := 46) dX0_clear_1 fX0_19 c44 rfl ?_
  refine zA_iconst dX0_clear_4 ?_
  refine zA_cS (st := []) dX0_clear_5 sJ7_fill_53178 kX0_34 (s_fill (w := w) (q := 46) (z := 360) (v := 0) c46 (by decide) ⟨by decide, by decide⟩) (by decide) rfl rfl (Nat.le_of_ble_eq_true rfl) (fun q_1_v q_1_S q_1_w q_1 => ?_)
  obtain ⟨rfl, rfl, a0, b0⟩ := q_1
  refine zA_range (fun hr => ?_)
  show zA l mX0_clear false 2 0 0 (fun v' S' w' => v' = none ∧ S' = (ZZ t dr tx) ∧ (∀ c i, c ≠ 46 → c ≠ 47 → (c ≠ 44 ∨ (i ≠ 6)) → w' c i = w c i) ∧ (∀ x : Int, 0 ≤ x → x < 360 → w' 46 x = 0) ∧ (∀ x : Int, 0 ≤ x → x < 7 → w' 47 x = 0) ∧ w' 44 6 = 0) zNo 8 [zR 44] [] (ZZ t dr tx) q_1_w
  refine zA_aload_n dX0_clear_8 rfl ?_
  refine zA_getR (n := 47) dX0_clear_9 fX0_22 c44 rfl ?_
  refine zA_iconst dX0_clear_12 ?_
  refine zA_cS (st := []) dX0_clear_13 sJ7_fill_53178 kX0_34 (s_fill (w := q_1_w) (q := 47) (z := 7) (v := 0) c47 (by decide) ⟨by decide, by decide⟩) (by decide) rfl rfl (Nat.le_of_ble_eq_true rfl) (fun q_2_v q_2_S q_2_w q_2 => ?_)
  obtain ⟨rfl, rfl, a1, b1⟩ := q_2
  refine zA_range (fun hr => ?_)
  show zA l mX0_clear false 2 0 0 (fun v' S' w' => v' = none ∧ S' = (ZZ t dr tx) ∧ (∀ c i, c ≠ 46 → c ≠ 47 → (c ≠ 44 ∨ (i ≠ 6)) → w' c i = w c i) ∧ (∀ x : Int, 0 ≤ x → x < 360 → w' 46 x = 0) ∧ (∀ x : Int, 0 ≤ x → x < 7 → w' 47 x = 0) ∧ w' 44 6 = 0) zNo 16 [zR 44] [] (ZZ t dr tx) q_2_w
  refine zA_aload_n dX0_clear_16 rfl ?_
  refine zA_iconst dX0_clear_17 ?_
  refine zA_putI dX0_clear_18 fX0_31 c44 rfl ⟨by decide, by decide⟩ ⟨rfl, rfl⟩ ?_
  refine zA_namew (fun w_3 hw_3 => ?_)
  refine zA_range (fun hr => ?_)
  replace hw_3 : w_3 = up q_2_w 44 6 0 := hw_3
  refine zA_vret dX0_clear_21 rfl ?_
  refine ⟨rfl, rfl, fun c i h0 h1 hh => ?_, fun x p q => ?_, fun x p q => ?_, ?_⟩
  · by_cases hc : c = 44
    · subst hc; rw [hw_3, up_idx _ _ _ _ (by omega)]; rw [a1 44 i (by decide), a0 44 i (by decide)]
    · rw [hw_3, up_cell _ _ _ _ hc]; rw [a1 c i h1, a0 c i h0]
  · rw [hw_3, up_cell _ _ _ _ (by decide), a1 46 x (by decide), b0 x p (by omega)]
  · rw [hw_3, up_cell _ _ _ _ (by decide), b1 x p (by omega)]
  · simp [hw_3, up]

set_option maxRecDepth 100000 in
set_option maxHeartbeats 4000000 in
theorem s_clearI {l : Launch} {t dr tx : Nat} {w : zW}  : zSp l mX3_clear false 2 0 0 [zR 54] (ZZ t dr tx) w (fun v' S' w' => v' = none ∧ S' = (ZZ t dr tx) ∧ (∀ c i, c ≠ 59 → c ≠ 60 → w' c i = w c i) ∧ (∀ x : Int, 0 ≤ x → x < 12 → w' 59 x = 0) ∧ (∀ x : Int, 0 ≤ x → x < 12 → w' 60 x = 0)) zNo := by
  refine zA_intro ⟨plainFor_of_name (by decide +kernel), Or.inl (by decide +kernel)⟩ rfl (Nat.le_of_ble_eq_true rfl) ?_
  refine zA_range (fun hr => ?_)
  show zA l mX3_clear false 2 0 0 (fun v' S' w' => v' = none ∧ S' = (ZZ t dr tx) ∧ (∀ c i, c ≠ 59 → c ≠ 60 → w' c i = w c i) ∧ (∀ x : Int, 0 ≤ x → x < 12 → w' 59 x = 0) ∧ (∀ x : Int, 0 ≤ x → x < 12 → w' 60 x = 0)) zNo 0 [zR 54] [] (ZZ t dr tx) w
  refine zA_aload_n dX3_clear_0 rfl ?_
  refine zA_getR (n := 59) dX3_clear_1 fX3_24 c54 rfl ?_
  refine zA_iconst dX3_clear_4 ?_
  refine zA_cS (st := []) dX3_clear_5 sJ7_fill_53178 kX3_33 (s_fill (w := w) (q := 59) (z := 12) (v := 0) c59 (by decide) ⟨by decide, by decide⟩) (by decide) rfl rfl (Nat.le_of_ble_eq_true rfl) (fun q_1_v q_1_S q_1_w q_1 => ?_)
  obtain ⟨rfl, rfl, a0, b0⟩ := q_1
  refine zA_range (fun hr => ?_)
  show zA l mX3_clear false 2 0 0 (fun v' S' w' => v' = none ∧ S' = (ZZ t dr tx) ∧ (∀ c i, c ≠ 59 → c ≠ 60 → w' c i = w c i) ∧ (∀ x : Int, 0 ≤ x → x < 12 → w' 59 x = 0) ∧ (∀ x : Int, 0 ≤ x → x < 12 → w' 60 x = 0)) zNo 8 [zR 54] [] (ZZ t dr tx) q_1_w
  refine zA_aload_n dX3_clear_8 rfl ?_
  refine zA_getR (n := 60) dX3_clear_9 fX3_27 c54 rfl ?_
  refine zA_iconst dX3_clear_12 ?_
  refine zA_cS (st := []) dX3_clear_13 sJ7_fill_53178 kX3_33 (s_fill (w := q_1_w) (q := 60) (z := 12) (v := 0) c60 (by decide) ⟨by decide, by decide⟩) (by decide) rfl rfl (Nat.le_of_ble_eq_true rfl) (fun q_2_v q_2_S q_2_w q_2 => ?_)
  obtain ⟨rfl, rfl, a1, b1⟩ := q_2
  refine zA_range (fun hr => ?_)
  show zA l mX3_clear false 2 0 0 (fun v' S' w' => v' = none ∧ S' = (ZZ t dr tx) ∧ (∀ c i, c ≠ 59 → c ≠ 60 → w' c i = w c i) ∧ (∀ x : Int, 0 ≤ x → x < 12 → w' 59 x = 0) ∧ (∀ x : Int, 0 ≤ x → x < 12 → w' 60 x = 0)) zNo 16 [zR 54] [] (ZZ t dr tx) q_2_w
  refine zA_vret dX3_clear_16 rfl ?_
  refine ⟨rfl, rfl, fun c i h0 h1 => ?_, fun x p q => ?_, fun x p q => ?_⟩
  · rw [a1 c i h1, a0 c i h0]
  · rw [a1 59 x (by decide), b0 x p (by omega)]
  · rw [b1 x p (by omega)]

set_option maxRecDepth 100000 in
set_option maxHeartbeats 4000000 in
theorem s_clearO {l : Launch} {t dr tx : Nat} {w : zW}  : zSp l mX4_clear false 2 0 0 [zR 62] (ZZ t dr tx) w (fun v' S' w' => v' = none ∧ S' = (ZZ t dr tx) ∧ (∀ c i, c ≠ 63 → c ≠ 64 → (c ≠ 62 ∨ (i ≠ 3)) → w' c i = w c i) ∧ (∀ x : Int, 0 ≤ x → x < 12 → w' 63 x = 0) ∧ (∀ x : Int, 0 ≤ x → x < 12 → w' 64 x = 1) ∧ w' 62 3 = 0) zNo := by
  refine zA_intro ⟨plainFor_of_name (by decide +kernel), Or.inl (by decide +kernel)⟩ rfl (Nat.le_of_ble_eq_true rfl) ?_
  refine zA_range (fun hr => ?_)
  show zA l mX4_clear false 2 0 0 (fun v' S' w' => v' = none ∧ S' = (ZZ t dr tx) ∧ (∀ c i, c ≠ 63 → c ≠ 64 → (c ≠ 62 ∨ (i ≠ 3)) → w' c i = w c i) ∧ (∀ x : Int, 0 ≤ x → x < 12 → w' 63 x = 0) ∧ (∀ x : Int, 0 ≤ x → x < 12 → w' 64 x = 1) ∧ w' 62 3 = 0) zNo 0 [zR 62] [] (ZZ t dr tx) w
  refine zA_aload_n dX4_clear_0 rfl ?_
  refine zA_getR (n := 63) dX4_clear_1 fX4_11 c62 rfl ?_
  refine zA_iconst dX4_clear_4 ?_
  refine zA_cS (st := []) dX4_clear_5 sJ7_fill_53178 kX4_40 (s_fill (w := w) (q := 63) (z := 12) (v := 0) c63 (by decide) ⟨by decide, by decide⟩) (by decide) rfl rfl (Nat.le_of_ble_eq_true rfl) (fun q_1_v q_1_S q_1_w q_1 => ?_)
  obtain ⟨rfl, rfl, a0, b0⟩ := q_1
  refine zA_range (fun hr => ?_)
  show zA l mX4_clear false 2 0 0 (fun v' S' w' => v' = none ∧ S' = (ZZ t dr tx) ∧ (∀ c i, c ≠ 63 → c ≠ 64 → (c ≠ 62 ∨ (i ≠ 3)) → w' c i = w c i) ∧ (∀ x : Int, 0 ≤ x → x < 12 → w' 63 x = 0) ∧ (∀ x : Int, 0 ≤ x → x < 12 → w' 64 x = 1) ∧ w' 62 3 = 0) zNo 8 [zR 62] [] (ZZ t dr tx) q_1_w
  refine zA_aload_n dX4_clear_8 rfl ?_
  refine zA_getR (n := 64) dX4_clear_9 fX4_15 c62 rfl ?_
  refine zA_iconst dX4_clear_12 ?_
  refine zA_cS (st := []) dX4_clear_13 sJ7_fill_53178 kX4_40 (s_fill (w := q_1_w) (q := 64) (z := 12) (v := 1) c64 (by decide) ⟨by decide, by decide⟩) (by decide) rfl rfl (Nat.le_of_ble_eq_true rfl) (fun q_2_v q_2_S q_2_w q_2 => ?_)
  obtain ⟨rfl, rfl, a1, b1⟩ := q_2
  refine zA_range (fun hr => ?_)
  show zA l mX4_clear false 2 0 0 (fun v' S' w' => v' = none ∧ S' = (ZZ t dr tx) ∧ (∀ c i, c ≠ 63 → c ≠ 64 → (c ≠ 62 ∨ (i ≠ 3)) → w' c i = w c i) ∧ (∀ x : Int, 0 ≤ x → x < 12 → w' 63 x = 0) ∧ (∀ x : Int, 0 ≤ x → x < 12 → w' 64 x = 1) ∧ w' 62 3 = 0) zNo 16 [zR 62] [] (ZZ t dr tx) q_2_w
  refine zA_aload_n dX4_clear_16 rfl ?_
  refine zA_iconst dX4_clear_17 ?_
  refine zA_putI dX4_clear_18 fX4_21 c62 rfl ⟨by decide, by decide⟩ ⟨rfl, rfl⟩ ?_
  refine zA_namew (fun w_3 hw_3 => ?_)
  refine zA_range (fun hr => ?_)
  replace hw_3 : w_3 = up q_2_w 62 3 0 := hw_3
  refine zA_vret dX4_clear_21 rfl ?_
  refine ⟨rfl, rfl, fun c i h0 h1 hh => ?_, fun x p q => ?_, fun x p q => ?_, ?_⟩
  · by_cases hc : c = 62
    · subst hc; rw [hw_3, up_idx _ _ _ _ (by omega)]; rw [a1 62 i (by decide), a0 62 i (by decide)]
    · rw [hw_3, up_cell _ _ _ _ hc]; rw [a1 c i h1, a0 c i h0]
  · rw [hw_3, up_cell _ _ _ _ (by decide), a1 63 x (by decide), b0 x p (by omega)]
  · rw [hw_3, up_cell _ _ _ _ (by decide), b1 x p (by omega)]
  · simp [hw_3, up]

set_option maxRecDepth 100000 in
set_option maxHeartbeats 4000000 in
theorem s_clearP {l : Launch} {t dr tx : Nat} {w : zW}  : zSp l mX5_clearParts false 2 0 0 [zR 69] (ZZ t dr tx) w (fun v' S' w' => v' = none ∧ S' = (ZZ t dr tx) ∧ (∀ c i, c ≠ 71 → w' c i = w c i) ∧ (∀ x : Int, 0 ≤ x → x < 72 → w' 71 x = 0)) zNo := by
  refine zA_intro ⟨plainFor_of_name (by decide +kernel), Or.inl (by decide +kernel)⟩ rfl (Nat.le_of_ble_eq_true rfl) ?_
  refine zA_range (fun hr => ?_)
  show zA l mX5_clearParts false 2 0 0 (fun v' S' w' => v' = none ∧ S' = (ZZ t dr tx) ∧ (∀ c i, c ≠ 71 → w' c i = w c i) ∧ (∀ x : Int, 0 ≤ x → x < 72 → w' 71 x = 0)) zNo 0 [zR 69] [] (ZZ t dr tx) w
  refine zA_aload_n dX5_clearParts_0 rfl ?_
  refine zA_getR (n := 71) dX5_clearParts_1 fX5_15 c69 rfl ?_
  refine zA_iconst dX5_clearParts_4 ?_
  refine zA_cS (st := []) dX5_clearParts_5 sJ7_fill_53178 kX5_21 (s_fill (w := w) (q := 71) (z := 72) (v := 0) c71 (by decide) ⟨by decide, by decide⟩) (by decide) rfl rfl (Nat.le_of_ble_eq_true rfl) (fun q_1_v q_1_S q_1_w q_1 => ?_)
  obtain ⟨rfl, rfl, a0, b0⟩ := q_1
  refine zA_range (fun hr => ?_)
  show zA l mX5_clearParts false 2 0 0 (fun v' S' w' => v' = none ∧ S' = (ZZ t dr tx) ∧ (∀ c i, c ≠ 71 → w' c i = w c i) ∧ (∀ x : Int, 0 ≤ x → x < 72 → w' 71 x = 0)) zNo 8 [zR 69] [] (ZZ t dr tx) q_1_w
  refine zA_vret dX5_clearParts_8 rfl ?_
  refine ⟨rfl, rfl, fun c i h0 => ?_, fun x p q => ?_⟩
  · rw [a0 c i h0]
  · rw [b0 x p (by omega)]

set_option maxRecDepth 100000 in
set_option maxHeartbeats 4000000 in
theorem s_clearL {l : Launch} {t dr tx : Nat} {w : zW}  : zSp l mX7_clear false 2 0 0 [zR 29] (ZZ t dr tx) w (fun v' S' w' => v' = none ∧ S' = (ZZ t dr tx) ∧ (∀ c i, c ≠ 32 → c ≠ 33 → w' c i = w c i) ∧ (∀ x : Int, 0 ≤ x → x < 12 → w' 32 x = 0) ∧ (∀ x : Int, 0 ≤ x → x < 12 → w' 33 x = 0)) zNo := by
  refine zA_intro ⟨plainFor_of_name (by decide +kernel), Or.inl (by decide +kernel)⟩ rfl (Nat.le_of_ble_eq_true rfl) ?_
  refine zA_range (fun hr => ?_)
  show zA l mX7_clear false 2 0 0 (fun v' S' w' => v' = none ∧ S' = (ZZ t dr tx) ∧ (∀ c i, c ≠ 32 → c ≠ 33 → w' c i = w c i) ∧ (∀ x : Int, 0 ≤ x → x < 12 → w' 32 x = 0) ∧ (∀ x : Int, 0 ≤ x → x < 12 → w' 33 x = 0)) zNo 0 [zR 29] [] (ZZ t dr tx) w
  refine zA_aload_n dX7_clear_0 rfl ?_
  refine zA_getR (n := 32) dX7_clear_1 fX7_18 c29 rfl ?_
  refine zA_iconst dX7_clear_4 ?_
  refine zA_cS (st := []) dX7_clear_5 sJ7_fill_53178 kX7_24 (s_fill (w := w) (q := 32) (z := 12) (v := 0) c32 (by decide) ⟨by decide, by decide⟩) (by decide) rfl rfl (Nat.le_of_ble_eq_true rfl) (fun q_1_v q_1_S q_1_w q_1 => ?_)
  obtain ⟨rfl, rfl, a0, b0⟩ := q_1
  refine zA_range (fun hr => ?_)
  show zA l mX7_clear false 2 0 0 (fun v' S' w' => v' = none ∧ S' = (ZZ t dr tx) ∧ (∀ c i, c ≠ 32 → c ≠ 33 → w' c i = w c i) ∧ (∀ x : Int, 0 ≤ x → x < 12 → w' 32 x = 0) ∧ (∀ x : Int, 0 ≤ x → x < 12 → w' 33 x = 0)) zNo 8 [zR 29] [] (ZZ t dr tx) q_1_w
  refine zA_aload_n dX7_clear_8 rfl ?_
  refine zA_getR (n := 33) dX7_clear_9 fX7_21 c29 rfl ?_
  refine zA_iconst dX7_clear_12 ?_
  refine zA_cS (st := []) dX7_clear_13 sJ7_fill_53178 kX7_24 (s_fill (w := q_1_w) (q := 33) (z := 12) (v := 0) c33 (by decide) ⟨by decide, by decide⟩) (by decide) rfl rfl (Nat.le_of_ble_eq_true rfl) (fun q_2_v q_2_S q_2_w q_2 => ?_)
  obtain ⟨rfl, rfl, a1, b1⟩ := q_2
  refine zA_range (fun hr => ?_)
  show zA l mX7_clear false 2 0 0 (fun v' S' w' => v' = none ∧ S' = (ZZ t dr tx) ∧ (∀ c i, c ≠ 32 → c ≠ 33 → w' c i = w c i) ∧ (∀ x : Int, 0 ≤ x → x < 12 → w' 32 x = 0) ∧ (∀ x : Int, 0 ≤ x → x < 12 → w' 33 x = 0)) zNo 16 [zR 29] [] (ZZ t dr tx) q_2_w
  refine zA_vret dX7_clear_16 rfl ?_
  refine ⟨rfl, rfl, fun c i h0 h1 => ?_, fun x p q => ?_, fun x p q => ?_⟩
  · rw [a1 c i h1, a0 c i h0]
  · rw [a1 32 x (by decide), b0 x p (by omega)]
  · rw [b1 x p (by omega)]

set_option maxRecDepth 100000 in
set_option maxHeartbeats 4000000 in
theorem s_drop {l : Launch} {t dr tx : Nat} {w : zW}  : zSp l mX6_drop false 1 0 0 [zR 16] (ZZ t dr tx) w (zRt none (ZZ t dr tx) (up (up w 16 15 0) 16 16 0)) zNo := by
  refine zA_intro ⟨plainFor_of_name (by decide +kernel), Or.inl (by decide +kernel)⟩ rfl (Nat.le_of_ble_eq_true rfl) ?_
  refine zA_range (fun hr => ?_)
  show zA l mX6_drop false 1 0 0 (zRt none (ZZ t dr tx) (up (up w 16 15 0) 16 16 0)) zNo 0 [zR 16] [] (ZZ t dr tx) w
  refine zA_aload_n dX6_drop_0 rfl ?_
  refine zA_iconst dX6_drop_1 ?_
  refine zA_putI dX6_drop_2 fX6_58 c16 rfl ⟨by decide, by decide⟩ ⟨by rfl, by rfl⟩ ?_
  refine zA_namew (fun w_1 hw_1 => ?_)
  refine zA_range (fun hr => ?_)
  replace hw_1 : w_1 = up w 16 15 0 := hw_1
  refine zA_aload_n dX6_drop_5 rfl ?_
  refine zA_iconst dX6_drop_6 ?_
  refine zA_putI dX6_drop_7 fX6_62 c16 rfl ⟨by decide, by decide⟩ ⟨by rfl, by rfl⟩ ?_
  refine zA_namew (fun w_2 hw_2 => ?_)
  refine zA_range (fun hr => ?_)
  replace hw_2 : w_2 = up w_1 16 16 0 := hw_2
  refine zA_vret dX6_drop_10 rfl ?_
  rw [hw_2, hw_1]
  exact ⟨rfl, rfl, rfl⟩

set_option maxRecDepth 100000 in
set_option maxHeartbeats 4000000 in
theorem s_gang {l : Launch} {t dr tx : Nat} {w : zW} {o : Int} (ho : inR o) (hb : w 16 15 = 0 ∨ w 16 15 = 1) (hb2 : w 16 16 = 0 ∨ (w 16 16 = 1 ∧ w 16 15 = 1)) (h1 : w 16 12 ≤ 8) : zSp l mX11_gang false 3 1 6 [zR 0, zI o] (ZZ t dr tx) w (zIs (w 16 15 = 1 ∧ w 16 16 = 1 ∧ 0 ≤ o ∧ o < w 16 12) (w 27 o) (ZZ t dr tx) w) (zXp (¬ (w 16 15 = 1 ∧ w 16 16 = 1 ∧ 0 ≤ o ∧ o < w 16 12)) (False) (ZZ t dr tx) w) := by
  refine zA_intro ⟨plainFor_of_name (by decide +kernel), Or.inl (by decide +kernel)⟩ rfl (Nat.le_of_ble_eq_true rfl) ?_
  refine zA_range (fun hr => ?_)
  show zA l mX11_gang false 3 1 6 (zIs (w 16 15 = 1 ∧ w 16 16 = 1 ∧ 0 ≤ o ∧ o < w 16 12) (w 27 o) (ZZ t dr tx) w) (zXp (¬ (w 16 15 = 1 ∧ w 16 16 = 1 ∧ 0 ≤ o ∧ o < w 16 12)) (False) (ZZ t dr tx) w) 0 [zR 0, zI o] [] (ZZ t dr tx) w
  refine zA_aload_n dX11_gang_0 rfl ?_
  refine zA_getR (n := 16) dX11_gang_1 fX11_40 c0 rfl ?_
  refine zA_getI dX11_gang_4 fX11_221 c16 rfl ?_
  refine zA_valI (w 16 16) rfl ?_
  refine zA_if_eq (tgt := 25) dX11_gang_7 (by decide) (by first | assumption | exact hr _ _ | exact inR_mk (by omega) (by omega)) (fun c7 => ?_) (fun c7 => ?_)
  · skip
    refine zA_throw (sa := 1108) (zNSE_n dX11_gang_25 dX11_gang_28 ⟨dX11_gang_29, dX11_gang_31, dX11_gang_34⟩) (List.mem_of_getElem? (i := 8) rfl) rfl rfl (Nat.le_of_ble_eq_true rfl) (by decide) ?_
    exact ⟨Or.inl ⟨rfl, by omega⟩, rfl, rfl⟩
  · skip
    refine zA_iload_n dX11_gang_10 rfl ?_
    refine zA_if_lt (tgt := 25) dX11_gang_11 (by decide) (by first | assumption | exact hr _ _ | exact inR_mk (by omega) (by omega)) (fun c11 => ?_) (fun c11 => ?_)
    · skip
      refine zA_throw (sa := 1108) (zNSE_n dX11_gang_25 dX11_gang_28 ⟨dX11_gang_29, dX11_gang_31, dX11_gang_34⟩) (List.mem_of_getElem? (i := 8) rfl) rfl rfl (Nat.le_of_ble_eq_true rfl) (by decide) ?_
      exact ⟨Or.inl ⟨rfl, by omega⟩, rfl, rfl⟩
    · skip
      refine zA_iload_n dX11_gang_14 rfl ?_
      refine zA_aload_n dX11_gang_15 rfl ?_
      refine zA_getR (n := 16) dX11_gang_16 fX11_40 c0 rfl ?_
      refine zA_getI dX11_gang_19 fX11_199 c16 rfl ?_
      refine zA_valI (w 16 12) rfl ?_
      refine zA_icmp_lt (tgt := 35) dX11_gang_22 (by decide) (by first | assumption | exact hr _ _ | exact inR_mk (by omega) (by omega)) (by first | assumption | exact hr _ _ | exact inR_mk (by omega) (by omega)) (fun c22 => ?_) (fun c22 => ?_)
      · skip
        refine zA_aload_n dX11_gang_35 rfl ?_
        refine zA_getR (n := 16) dX11_gang_36 fX11_40 c0 rfl ?_
        refine zA_getR (n := 27) dX11_gang_39 fX11_226 c16 rfl ?_
        refine zA_iload_n dX11_gang_42 rfl ?_
        refine zA_iaload dX11_gang_43 c27 (by first | assumption | omega) (by first | assumption | omega) (by decide) ?_
        refine zA_iret dX11_gang_44 rfl ?_
        exact ⟨by omega, by first | rfl | (congr 2; first | rfl | omega), rfl, by first | rfl | (simp only [*]; done)⟩
      · skip
        refine zA_throw (sa := 1108) (zNSE_n dX11_gang_25 dX11_gang_28 ⟨dX11_gang_29, dX11_gang_31, dX11_gang_34⟩) (List.mem_of_getElem? (i := 8) rfl) rfl rfl (Nat.le_of_ble_eq_true rfl) (by decide) ?_
        exact ⟨Or.inl ⟨rfl, by omega⟩, rfl, rfl⟩

set_option maxRecDepth 100000 in
set_option maxHeartbeats 4000000 in
theorem s_planned {l : Launch} {t dr tx : Nat} {w : zW} {o k : Int} (ho : inR o) (hk : inR k) (hb : w 16 15 = 0 ∨ w 16 15 = 1) (h1 : w 16 12 ≤ 8) : zSp l mX11_planned false 3 2 12 [zR 0, zI o, zI k] (ZZ t dr tx) w (zIs ((0 ≤ k ∧ k < 2) ∧ w 16 15 = 1 ∧ -1 ≤ o ∧ o < w 16 12) (if o = -1 then (if k = 0 then w 16 12 else w 16 13) else if k = 0 then w 25 o else w 26 o) (ZZ t dr tx) w) (zXp (¬ ((0 ≤ k ∧ k < 2) ∧ w 16 15 = 1 ∧ -1 ≤ o ∧ o < w 16 12)) (False) (ZZ t dr tx) w) := by
  refine zA_intro ⟨plainFor_of_name (by decide +kernel), Or.inl (by decide +kernel)⟩ rfl (Nat.le_of_ble_eq_true rfl) ?_
  refine zA_range (fun hr => ?_)
  show zA l mX11_planned false 3 2 12 (zIs ((0 ≤ k ∧ k < 2) ∧ w 16 15 = 1 ∧ -1 ≤ o ∧ o < w 16 12) (if o = -1 then (if k = 0 then w 16 12 else w 16 13) else if k = 0 then w 25 o else w 26 o) (ZZ t dr tx) w) (zXp (¬ ((0 ≤ k ∧ k < 2) ∧ w 16 15 = 1 ∧ -1 ≤ o ∧ o < w 16 12)) (False) (ZZ t dr tx) w) 0 [zR 0, zI o, zI k] [] (ZZ t dr tx) w
  refine zA_iload_n dX11_planned_0 rfl ?_
  refine zA_iconst dX11_planned_1 ?_
  refine zA_callS (bc2 := 1) (bs2 := 6) (st := []) dX11_planned_2 sX11_askWhat kX11_165 (s_askWhat (w := w) (c := k) (n := 2) (by first | assumption | exact hr _ _ | exact inR_mk (by omega) (by omega)) ⟨by decide, by decide⟩) (by decide) rfl rfl (Nat.le_of_ble_eq_true rfl) ⟨rfl, rfl⟩ (zRa_el (fun h_2 => ?_)) (zXp_m rfl (fun h => by first | exact h.elim | omega) (fun h => by first | exact h.elim | omega))
  show zA l mX11_planned false 3 1 6 (zIs ((0 ≤ k ∧ k < 2) ∧ w 16 15 = 1 ∧ -1 ≤ o ∧ o < w 16 12) (if o = -1 then (if k = 0 then w 16 12 else w 16 13) else if k = 0 then w 25 o else w 26 o) (ZZ t dr tx) w) (zXp (¬ ((0 ≤ k ∧ k < 2) ∧ w 16 15 = 1 ∧ -1 ≤ o ∧ o < w 16 12)) (False) (ZZ t dr tx) w) 5 [zR 0, zI o, zI k] [] (ZZ t dr tx) w
  refine zA_aload_n dX11_planned_5 rfl ?_
  refine zA_getR (n := 16) dX11_planned_6 fX11_40 c0 rfl ?_
  refine zA_getI dX11_planned_9 fX11_196 c16 rfl ?_
  refine zA_valI (w 16 15) rfl ?_
  refine zA_if_eq (tgt := 31) dX11_planned_12 (by decide) (by first | assumption | exact hr _ _ | exact inR_mk (by omega) (by omega)) (fun c12 => ?_) (fun c12 => ?_)
  · skip
    refine zA_throw (sa := 1107) (zNSE_n dX11_planned_31 dX11_planned_34 ⟨dX11_planned_35, dX11_planned_37, dX11_planned_40⟩) (List.mem_of_getElem? (i := 7) rfl) rfl rfl (Nat.le_of_ble_eq_true rfl) (by decide) ?_
    exact ⟨Or.inl ⟨rfl, by omega⟩, rfl, rfl⟩
  · skip
    refine zA_iload_n dX11_planned_15 rfl ?_
    refine zA_iconst dX11_planned_16 ?_
    refine zA_icmp_lt (tgt := 31) dX11_planned_17 (by decide) (by first | assumption | exact hr _ _ | exact inR_mk (by omega) (by omega)) ⟨by decide, by decide⟩ (fun c17 => ?_) (fun c17 => ?_)
    · skip
      refine zA_throw (sa := 1107) (zNSE_n dX11_planned_31 dX11_planned_34 ⟨dX11_planned_35, dX11_planned_37, dX11_planned_40⟩) (List.mem_of_getElem? (i := 7) rfl) rfl rfl (Nat.le_of_ble_eq_true rfl) (by decide) ?_
      exact ⟨Or.inl ⟨rfl, by omega⟩, rfl, rfl⟩
    · skip
      refine zA_iload_n dX11_planned_20 rfl ?_
      refine zA_aload_n dX11_planned_21 rfl ?_
      refine zA_getR (n := 16) dX11_planned_22 fX11_40 c0 rfl ?_
      refine zA_getI dX11_planned_25 fX11_199 c16 rfl ?_
      refine zA_valI (w 16 12) rfl ?_
      refine zA_icmp_lt (tgt := 41) dX11_planned_28 (by decide) (by first | assumption | exact hr _ _ | exact inR_mk (by omega) (by omega)) (by first | assumption | exact hr _ _ | exact inR_mk (by omega) (by omega)) (fun c28 => ?_) (fun c28 => ?_)
      · skip
        refine zA_iload_n dX11_planned_41 rfl ?_
        refine zA_iconst dX11_planned_42 ?_
        refine zA_icmp_ne (tgt := 68) dX11_planned_43 (by decide) (by first | assumption | exact hr _ _ | exact inR_mk (by omega) (by omega)) ⟨by decide, by decide⟩ (fun c43 => ?_) (fun c43 => ?_)
        · skip
          refine zA_iload_n dX11_planned_68 rfl ?_
          refine zA_if_ne (tgt := 84) dX11_planned_69 (by decide) (by first | assumption | exact hr _ _ | exact inR_mk (by omega) (by omega)) (fun c69 => ?_) (fun c69 => ?_)
          · skip
            refine zA_aload_n dX11_planned_84 rfl ?_
            refine zA_getR (n := 16) dX11_planned_85 fX11_40 c0 rfl ?_
            refine zA_getR (n := 26) dX11_planned_88 fX11_210 c16 rfl ?_
            refine zA_iload_n dX11_planned_91 rfl ?_
            refine zA_iaload dX11_planned_92 c26 (by first | assumption | omega) (by first | assumption | omega) (by decide) ?_
            refine zA_iret dX11_planned_93 rfl ?_
            refine ⟨by omega, ?_, rfl, rfl⟩
            congr 2
            first
            | rw [if_pos (by omega), if_pos (by omega)]
            | rw [if_pos (by omega), if_neg (by omega)]
            | rw [if_neg (by omega), if_pos (by omega)]
            | rw [if_neg (by omega), if_neg (by omega)]
          · skip
            refine zA_aload_n dX11_planned_72 rfl ?_
            refine zA_getR (n := 16) dX11_planned_73 fX11_40 c0 rfl ?_
            refine zA_getR (n := 25) dX11_planned_76 fX11_207 c16 rfl ?_
            refine zA_iload_n dX11_planned_79 rfl ?_
            refine zA_iaload dX11_planned_80 c25 (by first | assumption | omega) (by first | assumption | omega) (by decide) ?_
            refine zA_goto (tgt := 93) dX11_planned_81 (by decide) ?_
            refine zA_iret dX11_planned_93 rfl ?_
            refine ⟨by omega, ?_, rfl, rfl⟩
            congr 2
            first
            | rw [if_pos (by omega), if_pos (by omega)]
            | rw [if_pos (by omega), if_neg (by omega)]
            | rw [if_neg (by omega), if_pos (by omega)]
            | rw [if_neg (by omega), if_neg (by omega)]
        · skip
          refine zA_iload_n dX11_planned_46 rfl ?_
          refine zA_if_ne (tgt := 60) dX11_planned_47 (by decide) (by first | assumption | exact hr _ _ | exact inR_mk (by omega) (by omega)) (fun c47 => ?_) (fun c47 => ?_)
          · skip
            refine zA_aload_n dX11_planned_60 rfl ?_
            refine zA_getR (n := 16) dX11_planned_61 fX11_40 c0 rfl ?_
            refine zA_getI dX11_planned_64 fX11_204 c16 rfl ?_
            refine zA_valI (w 16 13) rfl ?_
            refine zA_iret dX11_planned_67 rfl ?_
            refine ⟨by omega, ?_, rfl, rfl⟩
            congr 2
            first
            | rw [if_pos (by omega), if_pos (by omega)]
            | rw [if_pos (by omega), if_neg (by omega)]
            | rw [if_neg (by omega), if_pos (by omega)]
            | rw [if_neg (by omega), if_neg (by omega)]
          · skip
            refine zA_aload_n dX11_planned_50 rfl ?_
            refine zA_getR (n := 16) dX11_planned_51 fX11_40 c0 rfl ?_
            refine zA_getI dX11_planned_54 fX11_199 c16 rfl ?_
            refine zA_valI (w 16 12) rfl ?_
            refine zA_goto (tgt := 67) dX11_planned_57 (by decide) ?_
            refine zA_iret dX11_planned_67 rfl ?_
            refine ⟨by omega, ?_, rfl, rfl⟩
            congr 2
            first
            | rw [if_pos (by omega), if_pos (by omega)]
            | rw [if_pos (by omega), if_neg (by omega)]
            | rw [if_neg (by omega), if_pos (by omega)]
            | rw [if_neg (by omega), if_neg (by omega)]
      · skip
        refine zA_throw (sa := 1107) (zNSE_n dX11_planned_31 dX11_planned_34 ⟨dX11_planned_35, dX11_planned_37, dX11_planned_40⟩) (List.mem_of_getElem? (i := 7) rfl) rfl rfl (Nat.le_of_ble_eq_true rfl) (by decide) ?_
        exact ⟨Or.inl ⟨rfl, by omega⟩, rfl, rfl⟩

