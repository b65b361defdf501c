/-! climbing: image and the public methods -/
set_option maxRecDepth 100000 in
set_option maxHeartbeats 8000000 in
theorem s_copyI {l : Launch} {t dr tx : Nat} {w : zW}  : zSp l mX0_copy false 1 0 0 [zR 49, zR 44] (ZZ t dr tx) w (fun v' S' w' => v' = none ∧ S' = (ZZ t dr tx) ∧ (∀ c i, c ≠ 49 → c ≠ 50 → c ≠ 51 → c ≠ 52 → c ≠ 53 → w' c i = w c i) ∧ (∀ x : Int, 0 ≤ x → x < 20 → w' 50 x = w 45 x) ∧ (∀ x : Int, 0 ≤ x → x < 360 → w' 51 x = w 46 x) ∧ (∀ x : Int, 0 ≤ x → x < 7 → w' 52 x = w 47 x) ∧ (∀ x : Int, 0 ≤ x → x < 50 → w' 53 x = w 48 x) ∧ w' 49 1 = w 44 1 ∧ w' 49 4 = w 44 4 ∧ w' 49 6 = w 44 6) zNo := by
  refine zA_intro ⟨plainFor_of_name (by decide +kernel), Or.inl (by decide +kernel)⟩ rfl (Nat.le_of_ble_eq_true rfl) ?_
  refine zA_range (fun hr => ?_)
  show zA l mX0_copy false 1 0 0 (fun v' S' w' => v' = none ∧ S' = (ZZ t dr tx) ∧ (∀ c i, c ≠ 49 → c ≠ 50 → c ≠ 51 → c ≠ 52 → c ≠ 53 → w' c i = w c i) ∧ (∀ x : Int, 0 ≤ x → x < 20 → w' 50 x = w 45 x) ∧ (∀ x : Int, 0 ≤ x → x < 360 → w' 51 x = w 46 x) ∧ (∀ x : Int, 0 ≤ x → x < 7 → w' 52 x = w 47 x) ∧ (∀ x : Int, 0 ≤ x → x < 50 → w' 53 x = w 48 x) ∧ w' 49 1 = w 44 1 ∧ w' 49 4 = w 44 4 ∧ w' 49 6 = w 44 6) zNo 0 [zR 49, zR 44] [] (ZZ t dr tx) w
  refine zA_aload_n dX0_copy_0 rfl ?_
  refine zA_getR (n := 45) dX0_copy_1 fX0_11 c44 rfl ?_
  refine zA_iconst dX0_copy_4 ?_
  refine zA_aload_n dX0_copy_5 rfl ?_
  refine zA_getR (n := 50) dX0_copy_6 fX0_11 c49 rfl ?_
  refine zA_iconst dX0_copy_9 ?_
  refine zA_bipush dX0_copy_10 rfl ?_
  refine zA_copy dX0_copy_12 rfl kaX0_40 zw_copy c45 c50 (by first | assumption | omega) (by first | assumption | omega) (by first | assumption | omega) (by first | assumption | omega) (by first | assumption | omega) (by decide) (by decide) (Nat.le_of_ble_eq_true rfl) ?_
  refine zA_namew (fun w_1 hw_1 => ?_)
  refine zA_range (fun hr => ?_)
  refine zA_aload_n dX0_copy_15 rfl ?_
  refine zA_getR (n := 46) dX0_copy_16 fX0_19 c44 rfl ?_
  refine zA_iconst dX0_copy_19 ?_
  refine zA_aload_n dX0_copy_20 rfl ?_
  refine zA_getR (n := 51) dX0_copy_21 fX0_19 c49 rfl ?_
  refine zA_iconst dX0_copy_24 ?_
  refine zA_sipush dX0_copy_25 rfl ?_
  refine zA_copy dX0_copy_28 rfl kaX0_40 zw_copy c46 c51 (by first | assumption | omega) (by first | assumption | omega) (by first | assumption | omega) (by first | assumption | omega) (by first | assumption | omega) (by decide) (by decide) (Nat.le_of_ble_eq_true rfl) ?_
  refine zA_namew (fun w_2 hw_2 => ?_)
  refine zA_range (fun hr => ?_)
  refine zA_aload_n dX0_copy_31 rfl ?_
  refine zA_getR (n := 47) dX0_copy_32 fX0_22 c44 rfl ?_
  refine zA_iconst dX0_copy_35 ?_
  refine zA_aload_n dX0_copy_36 rfl ?_
  refine zA_getR (n := 52) dX0_copy_37 fX0_22 c49 rfl ?_
  refine zA_iconst dX0_copy_40 ?_
  refine zA_bipush dX0_copy_41 rfl ?_
  refine zA_copy dX0_copy_43 rfl kaX0_40 zw_copy c47 c52 (by first | assumption | omega) (by first | assumption | omega) (by first | assumption | omega) (by first | assumption | omega) (by first | assumption | omega) (by decide) (by decide) (Nat.le_of_ble_eq_true rfl) ?_
  refine zA_namew (fun w_3 hw_3 => ?_)
  refine zA_range (fun hr => ?_)
  refine zA_aload_n dX0_copy_46 rfl ?_
  refine zA_getR (n := 48) dX0_copy_47 fX0_28 c44 rfl ?_
  refine zA_iconst dX0_copy_50 ?_
  refine zA_aload_n dX0_copy_51 rfl ?_
  refine zA_getR (n := 53) dX0_copy_52 fX0_28 c49 rfl ?_
  refine zA_iconst dX0_copy_55 ?_
  refine zA_bipush dX0_copy_56 rfl ?_
  refine zA_copy dX0_copy_58 rfl kaX0_40 zw_copy c48 c53 (by first | assumption | omega) (by first | assumption | omega) (by first | assumption | omega) (by first | assumption | omega) (by first | assumption | omega) (by decide) (by decide) (Nat.le_of_ble_eq_true rfl) ?_
  refine zA_namew (fun w_4 hw_4 => ?_)
  refine zA_range (fun hr => ?_)
  refine zA_aload_n dX0_copy_61 rfl ?_
  refine zA_aload_n dX0_copy_62 rfl ?_
  refine zA_getI dX0_copy_63 fX0_15 c44 rfl ?_
  refine zA_valI (w_4 44 1) rfl ?_
  refine zA_putI dX0_copy_66 fX0_15 c49 rfl (by first | assumption | exact hr _ _ | exact inR_mk (by omega) (by omega)) ⟨rfl, rfl⟩ ?_
  refine zA_namew (fun w_5 hw_5 => ?_)
  refine zA_range (fun hr => ?_)
  replace hw_5 : w_5 = up w_4 49 1 (w_4 44 1) := hw_5
  refine zA_aload_n dX0_copy_69 rfl ?_
  refine zA_aload_n dX0_copy_70 rfl ?_
  refine zA_getI dX0_copy_71 fX0_25 c44 rfl ?_
  refine zA_valI (w_5 44 4) rfl ?_
  refine zA_putI dX0_copy_74 fX0_25 c49 rfl (by first | assumption | exact hr _ _ | exact inR_mk (by omega) (by omega)) ⟨rfl, rfl⟩ ?_
  refine zA_namew (fun w_6 hw_6 => ?_)
  refine zA_range (fun hr => ?_)
  replace hw_6 : w_6 = up w_5 49 4 (w_5 44 4) := hw_6
  refine zA_aload_n dX0_copy_77 rfl ?_
  refine zA_aload_n dX0_copy_78 rfl ?_
  refine zA_getI dX0_copy_79 fX0_31 c44 rfl ?_
  refine zA_valI (w_6 44 6) rfl ?_
  refine zA_putI dX0_copy_82 fX0_31 c49 rfl (by first | assumption | exact hr _ _ | exact inR_mk (by omega) (by omega)) ⟨rfl, rfl⟩ ?_
  refine zA_namew (fun w_7 hw_7 => ?_)
  refine zA_range (fun hr => ?_)
  replace hw_7 : w_7 = up w_6 49 6 (w_6 44 6) := hw_7
  refine zA_vret dX0_copy_85 rfl ?_
  refine ⟨rfl, rfl, fun c i h1 h2 h3 h4 h5 => ?_, fun x p q => ?_, fun x p q => ?_, fun x p q => ?_, fun x p q => ?_, ?_, ?_, ?_⟩
  · simp only [hw_7, hw_6, hw_5, hw_4, hw_3, hw_2, hw_1, up, cpy, h1, h2, h3, h4, h5, false_and, if_false]
  · have q' : x < 0 + 20 := by omega
    simp [hw_7, hw_6, hw_5, hw_4, hw_3, hw_2, hw_1, up, cpy, p, q]
  · simp [hw_7, hw_6, hw_5, hw_4, hw_3, hw_2, hw_1, up, cpy, p, q]
  · simp [hw_7, hw_6, hw_5, hw_4, hw_3, hw_2, hw_1, up, cpy, p, q]
  · simp [hw_7, hw_6, hw_5, hw_4, hw_3, hw_2, hw_1, up, cpy, p, q]
  · simp [hw_7, hw_6, hw_5, hw_4, hw_3, hw_2, hw_1, up, cpy]
  · simp [hw_7, hw_6, hw_5, hw_4, hw_3, hw_2, hw_1, up, cpy]
  · simp [hw_7, hw_6, hw_5, hw_4, hw_3, hw_2, hw_1, up, cpy]

set_option maxRecDepth 100000 in
set_option maxHeartbeats 8000000 in
theorem s_copyR {l : Launch} {t dr tx : Nat} {w : zW}  : zSp l mX0_copy false 1 0 0 [zR 44, zR 49] (ZZ t dr tx) w (fun v' S' w' => v' = none ∧ S' = (ZZ t dr tx) ∧ (∀ c i, c ≠ 44 → c ≠ 45 → c ≠ 46 → c ≠ 47 → c ≠ 48 → w' c i = w c i) ∧ (∀ x : Int, 0 ≤ x → x < 20 → w' 45 x = w 50 x) ∧ (∀ x : Int, 0 ≤ x → x < 360 → w' 46 x = w 51 x) ∧ (∀ x : Int, 0 ≤ x → x < 7 → w' 47 x = w 52 x) ∧ (∀ x : Int, 0 ≤ x → x < 50 → w' 48 x = w 53 x) ∧ w' 44 1 = w 49 1 ∧ w' 44 4 = w 49 4 ∧ w' 44 6 = w 49 6) zNo := by
  refine zA_intro ⟨plainFor_of_name (by decide +kernel), Or.inl (by decide +kernel)⟩ rfl (Nat.le_of_ble_eq_true rfl) ?_
  refine zA_range (fun hr => ?_)
  show zA l mX0_copy false 1 0 0 (fun v' S' w' => v' = none ∧ S' = (ZZ t dr tx) ∧ (∀ c i, c ≠ 44 → c ≠ 45 → c ≠ 46 → c ≠ 47 → c ≠ 48 → w' c i = w c i) ∧ (∀ x : Int, 0 ≤ x → x < 20 → w' 45 x = w 50 x) ∧ (∀ x : Int, 0 ≤ x → x < 360 → w' 46 x = w 51 x) ∧ (∀ x : Int, 0 ≤ x → x < 7 → w' 47 x = w 52 x) ∧ (∀ x : Int, 0 ≤ x → x < 50 → w' 48 x = w 53 x) ∧ w' 44 1 = w 49 1 ∧ w' 44 4 = w 49 4 ∧ w' 44 6 = w 49 6) zNo 0 [zR 44, zR 49] [] (ZZ t dr tx) w
  refine zA_aload_n dX0_copy_0 rfl ?_
  refine zA_getR (n := 50) dX0_copy_1 fX0_11 c49 rfl ?_
  refine zA_iconst dX0_copy_4 ?_
  refine zA_aload_n dX0_copy_5 rfl ?_
  refine zA_getR (n := 45) dX0_copy_6 fX0_11 c44 rfl ?_
  refine zA_iconst dX0_copy_9 ?_
  refine zA_bipush dX0_copy_10 rfl ?_
  refine zA_copy dX0_copy_12 rfl kaX0_40 zw_copy c50 c45 (by first | assumption | omega) (by first | assumption | omega) (by first | assumption | omega) (by first | assumption | omega) (by first | assumption | omega) (by decide) (by decide) (Nat.le_of_ble_eq_true rfl) ?_
  refine zA_namew (fun w_1 hw_1 => ?_)
  refine zA_range (fun hr => ?_)
  refine zA_aload_n dX0_copy_15 rfl ?_
  refine zA_getR (n := 51) dX0_copy_16 fX0_19 c49 rfl ?_
  refine zA_iconst dX0_copy_19 ?_
  refine zA_aload_n dX0_copy_20 rfl ?_
  refine zA_getR (n := 46) dX0_copy_21 fX0_19 c44 rfl ?_
  refine zA_iconst dX0_copy_24 ?_
  refine zA_sipush dX0_copy_25 rfl ?_
  refine zA_copy dX0_copy_28 rfl kaX0_40 zw_copy c51 c46 (by first | assumption | omega) (by first | assumption | omega) (by first | assumption | omega) (by first | assumption | omega) (by first | assumption | omega) (by decide) (by decide) (Nat.le_of_ble_eq_true rfl) ?_
  refine zA_namew (fun w_2 hw_2 => ?_)
  refine zA_range (fun hr => ?_)
  refine zA_aload_n dX0_copy_31 rfl ?_
  refine zA_getR (n := 52) dX0_copy_32 fX0_22 c49 rfl ?_
  refine zA_iconst dX0_copy_35 ?_
  refine zA_aload_n dX0_copy_36 rfl ?_
  refine zA_getR (n := 47) dX0_copy_37 fX0_22 c44 rfl ?_
  refine zA_iconst dX0_copy_40 ?_
  refine zA_bipush dX0_copy_41 rfl ?_
  refine zA_copy dX0_copy_43 rfl kaX0_40 zw_copy c52 c47 (by first | assumption | omega) (by first | assumption | omega) (by first | assumption | omega) (by first | assumption | omega) (by first | assumption | omega) (by decide) (by decide) (Nat.le_of_ble_eq_true rfl) ?_
  refine zA_namew (fun w_3 hw_3 => ?_)
  refine zA_range (fun hr => ?_)
  refine zA_aload_n dX0_copy_46 rfl ?_
  refine zA_getR (n := 53) dX0_copy_47 fX0_28 c49 rfl ?_
  refine zA_iconst dX0_copy_50 ?_
  refine zA_aload_n dX0_copy_51 rfl ?_
  refine zA_getR (n := 48) dX0_copy_52 fX0_28 c44 rfl ?_
  refine zA_iconst dX0_copy_55 ?_
  refine zA_bipush dX0_copy_56 rfl ?_
  refine zA_copy dX0_copy_58 rfl kaX0_40 zw_copy c53 c48 (by first | assumption | omega) (by first | assumption | omega) (by first | assumption | omega) (by first | assumption | omega) (by first | assumption | omega) (by decide) (by decide) (Nat.le_of_ble_eq_true rfl) ?_
  refine zA_namew (fun w_4 hw_4 => ?_)
  refine zA_range (fun hr => ?_)
  refine zA_aload_n dX0_copy_61 rfl ?_
  refine zA_aload_n dX0_copy_62 rfl ?_
  refine zA_getI dX0_copy_63 fX0_15 c49 rfl ?_
  refine zA_valI (w_4 49 1) rfl ?_
  refine zA_putI dX0_copy_66 fX0_15 c44 rfl (by first | assumption | exact hr _ _ | exact inR_mk (by omega) (by omega)) ⟨rfl, rfl⟩ ?_
  refine zA_namew (fun w_5 hw_5 => ?_)
  refine zA_range (fun hr => ?_)
  replace hw_5 : w_5 = up w_4 44 1 (w_4 49 1) := hw_5
  refine zA_aload_n dX0_copy_69 rfl ?_
  refine zA_aload_n dX0_copy_70 rfl ?_
  refine zA_getI dX0_copy_71 fX0_25 c49 rfl ?_
  refine zA_valI (w_5 49 4) rfl ?_
  refine zA_putI dX0_copy_74 fX0_25 c44 rfl (by first | assumption | exact hr _ _ | exact inR_mk (by omega) (by omega)) ⟨rfl, rfl⟩ ?_
  refine zA_namew (fun w_6 hw_6 => ?_)
  refine zA_range (fun hr => ?_)
  replace hw_6 : w_6 = up w_5 44 4 (w_5 49 4) := hw_6
  refine zA_aload_n dX0_copy_77 rfl ?_
  refine zA_aload_n dX0_copy_78 rfl ?_
  refine zA_getI dX0_copy_79 fX0_31 c49 rfl ?_
  refine zA_valI (w_6 49 6) rfl ?_
  refine zA_putI dX0_copy_82 fX0_31 c44 rfl (by first | assumption | exact hr _ _ | exact inR_mk (by omega) (by omega)) ⟨rfl, rfl⟩ ?_
  refine zA_namew (fun w_7 hw_7 => ?_)
  refine zA_range (fun hr => ?_)
  replace hw_7 : w_7 = up w_6 44 6 (w_6 49 6) := hw_7
  refine zA_vret dX0_copy_85 rfl ?_
  refine ⟨rfl, rfl, fun c i h1 h2 h3 h4 h5 => ?_, fun x p q => ?_, fun x p q => ?_, fun x p q => ?_, fun x p q => ?_, ?_, ?_, ?_⟩
  · simp only [hw_7, hw_6, hw_5, hw_4, hw_3, hw_2, hw_1, up, cpy, h1, h2, h3, h4, h5, false_and, if_false]
  · have q' : x < 0 + 20 := by omega
    simp [hw_7, hw_6, hw_5, hw_4, hw_3, hw_2, hw_1, up, cpy, p, q]
  · simp [hw_7, hw_6, hw_5, hw_4, hw_3, hw_2, hw_1, up, cpy, p, q]
  · simp [hw_7, hw_6, hw_5, hw_4, hw_3, hw_2, hw_1, up, cpy, p, q]
  · simp [hw_7, hw_6, hw_5, hw_4, hw_3, hw_2, hw_1, up, cpy, p, q]
  · simp [hw_7, hw_6, hw_5, hw_4, hw_3, hw_2, hw_1, up, cpy]
  · simp [hw_7, hw_6, hw_5, hw_4, hw_3, hw_2, hw_1, up, cpy]
  · simp [hw_7, hw_6, hw_5, hw_4, hw_3, hw_2, hw_1, up, cpy]

set_option maxRecDepth 100000 in
set_option maxHeartbeats 4000000 in
theorem s_image {l : Launch} {t dr tx : Nat} {w : zW}  : zSp l mX11_image false 2 0 0 [zR 0] (ZZ t dr tx) w (fun v' S' w' => v' = none ∧ S' = (ZZ t dr tx) ∧ (∀ c i, (c ≠ 0 ∨ i ≠ 13) → c ≠ 49 → c ≠ 50 → c ≠ 51 → c ≠ 52 → c ≠ 53 → w' c i = w c i) ∧ w' 0 13 = 1 ∧ (∀ x : Int, 0 ≤ x → x < 20 → w' 50 x = w 45 x) ∧ (∀ x : Int, 0 ≤ x → x < 360 → w' 51 x = w 46 x) ∧ (∀ x : Int, 0 ≤ x → x < 7 → w' 52 x = w 47 x) ∧ (∀ x : Int, 0 ≤ x → x < 50 → w' 53 x = w 48 x) ∧ w' 49 1 = w 44 1 ∧ w' 49 4 = w 44 4 ∧ w' 49 6 = w 44 6) zNo := by
  refine zA_intro ⟨plainFor_of_name (by decide +kernel), Or.inl (by decide +kernel)⟩ rfl (Nat.le_of_ble_eq_true rfl) ?_
  refine zA_range (fun hr => ?_)
  show zA l mX11_image false 2 0 0 (fun v' S' w' => v' = none ∧ S' = (ZZ t dr tx) ∧ (∀ c i, (c ≠ 0 ∨ i ≠ 13) → c ≠ 49 → c ≠ 50 → c ≠ 51 → c ≠ 52 → c ≠ 53 → w' c i = w c i) ∧ w' 0 13 = 1 ∧ (∀ x : Int, 0 ≤ x → x < 20 → w' 50 x = w 45 x) ∧ (∀ x : Int, 0 ≤ x → x < 360 → w' 51 x = w 46 x) ∧ (∀ x : Int, 0 ≤ x → x < 7 → w' 52 x = w 47 x) ∧ (∀ x : Int, 0 ≤ x → x < 50 → w' 53 x = w 48 x) ∧ w' 49 1 = w 44 1 ∧ w' 49 4 = w 44 4 ∧ w' 49 6 = w 44 6) zNo 0 [zR 0] [] (ZZ t dr tx) w
  refine zA_aload_n dX11_image_0 rfl ?_
  refine zA_getR (n := 49) dX11_image_1 fX11_75 c0 rfl ?_
  refine zA_aload_n dX11_image_4 rfl ?_
  refine zA_getR (n := 44) dX11_image_5 fX11_71 c0 rfl ?_
  refine zA_cV (st := []) dX11_image_8 vX0_copy kX11_373 (s_copyI (w := w)) (by decide) c49 rfl rfl (Nat.le_of_ble_eq_true rfl) rfl (fun q_1_v q_1_S q_1_w q_1 => ?_)
  obtain ⟨rfl, rfl, e0, e1, e2, e3, e4, e5, e6, e7⟩ := q_1
  refine zA_range (fun hr => ?_)
  show zA l mX11_image false 2 0 0 (fun v' S' w' => v' = none ∧ S' = (ZZ t dr tx) ∧ (∀ c i, (c ≠ 0 ∨ i ≠ 13) → c ≠ 49 → c ≠ 50 → c ≠ 51 → c ≠ 52 → c ≠ 53 → w' c i = w c i) ∧ w' 0 13 = 1 ∧ (∀ x : Int, 0 ≤ x → x < 20 → w' 50 x = w 45 x) ∧ (∀ x : Int, 0 ≤ x → x < 360 → w' 51 x = w 46 x) ∧ (∀ x : Int, 0 ≤ x → x < 7 → w' 52 x = w 47 x) ∧ (∀ x : Int, 0 ≤ x → x < 50 → w' 53 x = w 48 x) ∧ w' 49 1 = w 44 1 ∧ w' 49 4 = w 44 4 ∧ w' 49 6 = w 44 6) zNo 11 [zR 0] [] (ZZ t dr tx) q_1_w
  refine zA_aload_n dX11_image_11 rfl ?_
  refine zA_iconst dX11_image_12 ?_
  refine zA_putI dX11_image_13 fX11_78 c0 rfl ⟨by decide, by decide⟩ ⟨by rfl, by rfl⟩ ?_
  refine zA_namew (fun w_2 hw_2 => ?_)
  refine zA_range (fun hr => ?_)
  replace hw_2 : w_2 = up q_1_w 0 13 1 := hw_2
  refine zA_vret dX11_image_16 rfl ?_
  have u : ∀ c i, c ≠ 0 → w_2 c i = q_1_w c i := fun c i h => by rw [hw_2, up_cell _ _ _ _ h]
  refine ⟨rfl, rfl, fun c i h h1 h2 h3 h4 h5 => ?_, by rw [hw_2, up_same], fun x a b => ?_, fun x a b => ?_, fun x a b => ?_, fun x a b => ?_, ?_, ?_, ?_⟩
  · by_cases hc : c = 0
    · subst hc; rw [hw_2, up_idx _ _ _ _ (by omega)]; exact e0 0 i h1 h2 h3 h4 h5
    · rw [u c i hc]; exact e0 c i h1 h2 h3 h4 h5
  · rw [u 50 x (by decide)]; exact e1 x a b
  · rw [u 51 x (by decide)]; exact e2 x a b
  · rw [u 52 x (by decide)]; exact e3 x a b
  · rw [u 53 x (by decide)]; exact e4 x a b
  · rw [u 49 1 (by decide)]; exact e5
  · rw [u 49 4 (by decide)]; exact e6
  · rw [u 49 6 (by decide)]; exact e7

set_option maxRecDepth 100000 in
set_option maxHeartbeats 4000000 in
theorem s_restore {l : Launch} {t dr tx : Nat} {w : zW} (hb : w 0 13 = 0 ∨ w 0 13 = 1) : zSp l mX11_restore false 2 0 0 [zR 0] (ZZ t dr tx) w (fun v' S' w' => S' = (ZZ t dr tx) ∧ ((w 0 13 = 0 ∧ v' = some (zI 0) ∧ w' = w) ∨ (w 0 13 = 1 ∧ v' = some (zI 1) ∧ (∀ c i, c ≠ 44 → c ≠ 45 → c ≠ 46 → c ≠ 47 → c ≠ 48 → w' c i = w c i) ∧ (∀ x : Int, 0 ≤ x → x < 20 → w' 45 x = w 50 x) ∧ (∀ x : Int, 0 ≤ x → x < 360 → w' 46 x = w 51 x) ∧ (∀ x : Int, 0 ≤ x → x < 7 → w' 47 x = w 52 x) ∧ (∀ x : Int, 0 ≤ x → x < 50 → w' 48 x = w 53 x) ∧ w' 44 1 = w 49 1 ∧ w' 44 4 = w 49 4 ∧ w' 44 6 = w 49 6))) zNo := by
  refine zA_intro ⟨plainFor_of_name (by decide +kernel), Or.inl (by decide +kernel)⟩ rfl (Nat.le_of_ble_eq_true rfl) ?_
  refine zA_range (fun hr => ?_)
  show zA l mX11_restore false 2 0 0 (fun v' S' w' => S' = (ZZ t dr tx) ∧ ((w 0 13 = 0 ∧ v' = some (zI 0) ∧ w' = w) ∨ (w 0 13 = 1 ∧ v' = some (zI 1) ∧ (∀ c i, c ≠ 44 → c ≠ 45 → c ≠ 46 → c ≠ 47 → c ≠ 48 → w' c i = w c i) ∧ (∀ x : Int, 0 ≤ x → x < 20 → w' 45 x = w 50 x) ∧ (∀ x : Int, 0 ≤ x → x < 360 → w' 46 x = w 51 x) ∧ (∀ x : Int, 0 ≤ x → x < 7 → w' 47 x = w 52 x) ∧ (∀ x : Int, 0 ≤ x → x < 50 → w' 48 x = w 53 x) ∧ w' 44 1 = w 49 1 ∧ w' 44 4 = w 49 4 ∧ w' 44 6 = w 49 6))) zNo 0 [zR 0] [] (ZZ t dr tx) w
  refine zA_aload_n dX11_restore_0 rfl ?_
  refine zA_getI dX11_restore_1 fX11_78 c0 rfl ?_
  refine zA_valI (w 0 13) rfl ?_
  refine zA_if_ne (tgt := 9) dX11_restore_4 (by decide) (by first | assumption | exact hr _ _ | exact inR_mk (by omega) (by omega)) (fun c4 => ?_) (fun c4 => ?_)
  · skip
    refine zA_aload_n dX11_restore_9 rfl ?_
    refine zA_getR (n := 44) dX11_restore_10 fX11_71 c0 rfl ?_
    refine zA_aload_n dX11_restore_13 rfl ?_
    refine zA_getR (n := 49) dX11_restore_14 fX11_75 c0 rfl ?_
    refine zA_cV (st := []) dX11_restore_17 vX0_copy kX11_373 (s_copyR (w := w)) (by decide) c44 rfl rfl (Nat.le_of_ble_eq_true rfl) rfl (fun q_1_v q_1_S q_1_w q_1 => ?_)
    obtain ⟨rfl, rfl, he⟩ := q_1
    refine zA_range (fun hr => ?_)
    show zA l mX11_restore false 2 0 0 (fun v' S' w' => S' = (ZZ t dr tx) ∧ ((w 0 13 = 0 ∧ v' = some (zI 0) ∧ w' = w) ∨ (w 0 13 = 1 ∧ v' = some (zI 1) ∧ (∀ c i, c ≠ 44 → c ≠ 45 → c ≠ 46 → c ≠ 47 → c ≠ 48 → w' c i = w c i) ∧ (∀ x : Int, 0 ≤ x → x < 20 → w' 45 x = w 50 x) ∧ (∀ x : Int, 0 ≤ x → x < 360 → w' 46 x = w 51 x) ∧ (∀ x : Int, 0 ≤ x → x < 7 → w' 47 x = w 52 x) ∧ (∀ x : Int, 0 ≤ x → x < 50 → w' 48 x = w 53 x) ∧ w' 44 1 = w 49 1 ∧ w' 44 4 = w 49 4 ∧ w' 44 6 = w 49 6))) zNo 20 [zR 0] [] (ZZ t dr tx) q_1_w
    refine zA_iconst dX11_restore_20 ?_
    refine zA_zret dX11_restore_21 rfl (Or.inr rfl) ?_
    exact ⟨rfl, Or.inr ⟨by omega, rfl, he⟩⟩
  · skip
    refine zA_iconst dX11_restore_7 ?_
    refine zA_zret dX11_restore_8 rfl (Or.inl rfl) ?_
    exact ⟨rfl, Or.inl ⟨by omega, rfl, rfl⟩⟩

set_option maxRecDepth 100000 in
set_option maxHeartbeats 4000000 in
theorem s_back {l : Launch} {t dr tx : Nat} {w : zW} (ht : t = 4 ∨ t = 10) (hcy : ∀ c : Int, 0 ≤ c → c < 12 → 0 ≤ w (t + 1) c ∧ w (t + 1) c ≤ 200) (hmu : ∀ x : Int, 0 ≤ x → x < 360 → 0 ≤ w 46 x ∧ w 46 x < 1024) (hlv : ∀ r : Int, 0 ≤ r → r < 20 → 0 ≤ w 45 r ∧ w 45 r ≤ 200000) (hlt : ∀ i : Int, 0 ≤ i → i < w 44 6 → 0 ≤ w 48 i ∧ w 48 i < 72000) (k0 : 0 ≤ w 44 6) (k1 : w 44 6 ≤ 50) (hg : -100000 ≤ w 47 0 ∧ w 47 0 ≤ 100000)  : zSp l mX11_back false 2 0 0 [zR 0] (ZZ t dr tx) w (fun v' S' w' => S' = (ZZ t dr tx) ∧ ((w 44 6 ≤ 0 ∧ v' = some (zI (-1)) ∧ w' = w) ∨ (0 < w 44 6 ∧ v' = some (zI ((w 48 (w 44 6 - 1)) % 10)) ∧ w' = up (up (up (up w 44 6 (w 44 6 - 1)) 45 ((w 48 (w 44 6 - 1)) / 10 % 20) (w 45 ((w 48 (w 44 6 - 1)) / 10 % 20) + w (t + 1) ((w 48 (w 44 6 - 1)) / 10 / 20 / 30))) 46 ((w 48 (w 44 6 - 1)) / 10 / 20) (iAnd (w 46 ((w 48 (w 44 6 - 1)) / 10 / 20)) (iXor (iShl 1 ((w 48 (w 44 6 - 1)) % 10)) (-1)))) 47 0 (w 47 0 - 1)))) zNo := by
  refine zA_intro ⟨plainFor_of_name (by decide +kernel), Or.inl (by decide +kernel)⟩ rfl (Nat.le_of_ble_eq_true rfl) ?_
  refine zA_range (fun hr => ?_)
  show zA l mX11_back false 2 0 0 (fun v' S' w' => S' = (ZZ t dr tx) ∧ ((w 44 6 ≤ 0 ∧ v' = some (zI (-1)) ∧ w' = w) ∨ (0 < w 44 6 ∧ v' = some (zI ((w 48 (w 44 6 - 1)) % 10)) ∧ w' = up (up (up (up w 44 6 (w 44 6 - 1)) 45 ((w 48 (w 44 6 - 1)) / 10 % 20) (w 45 ((w 48 (w 44 6 - 1)) / 10 % 20) + w (t + 1) ((w 48 (w 44 6 - 1)) / 10 / 20 / 30))) 46 ((w 48 (w 44 6 - 1)) / 10 / 20) (iAnd (w 46 ((w 48 (w 44 6 - 1)) / 10 / 20)) (iXor (iShl 1 ((w 48 (w 44 6 - 1)) % 10)) (-1)))) 47 0 (w 47 0 - 1)))) zNo 0 [zR 0] [] (ZZ t dr tx) w
  refine zA_aload_n dX11_back_0 rfl ?_
  refine zA_getR (n := 44) dX11_back_1 fX11_71 c0 rfl ?_
  refine zA_aload_n dX11_back_4 rfl ?_
  refine zA_getR (n := t) dX11_back_5 fX11_30 c0 rfl ?_
  refine zA_cV (st := []) dX11_back_8 vX0_takeBack kX11_370 (s_takeBack (w := w) (y := t) ht hcy hmu hlv hlt k0 k1 hg) (by decide) c44 rfl rfl (Nat.le_of_ble_eq_true rfl) rfl (fun q_1_v q_1_S q_1_w q_1 => ?_)
  obtain ⟨rfl, hres⟩ := q_1
  obtain ⟨zv, hzv, hr2⟩ : ∃ zv, q_1_v = some (zI zv) ∧ ((w 44 6 ≤ 0 ∧ zv = -1 ∧ q_1_w = w) ∨ (0 < w 44 6 ∧ zv = (w 48 (w 44 6 - 1)) % 10 ∧ q_1_w = up (up (up (up w 44 6 (w 44 6 - 1)) 45 ((w 48 (w 44 6 - 1)) / 10 % 20) (w 45 ((w 48 (w 44 6 - 1)) / 10 % 20) + w (t + 1) ((w 48 (w 44 6 - 1)) / 10 / 20 / 30))) 46 ((w 48 (w 44 6 - 1)) / 10 / 20) (iAnd (w 46 ((w 48 (w 44 6 - 1)) / 10 / 20)) (iXor (iShl 1 ((w 48 (w 44 6 - 1)) % 10)) (-1)))) 47 0 (w 47 0 - 1))) := by
    rcases hres with ⟨a, b, e⟩ | ⟨a, b, e⟩
    · exact ⟨_, b, Or.inl ⟨a, rfl, e⟩⟩
    · exact ⟨_, b, Or.inr ⟨a, rfl, e⟩⟩
  subst hzv
  refine zA_range (fun hr => ?_)
  show zA l mX11_back false 2 0 0 (fun v' S' w' => S' = (ZZ t dr tx) ∧ ((w 44 6 ≤ 0 ∧ v' = some (zI (-1)) ∧ w' = w) ∨ (0 < w 44 6 ∧ v' = some (zI ((w 48 (w 44 6 - 1)) % 10)) ∧ w' = up (up (up (up w 44 6 (w 44 6 - 1)) 45 ((w 48 (w 44 6 - 1)) / 10 % 20) (w 45 ((w 48 (w 44 6 - 1)) / 10 % 20) + w (t + 1) ((w 48 (w 44 6 - 1)) / 10 / 20 / 30))) 46 ((w 48 (w 44 6 - 1)) / 10 / 20) (iAnd (w 46 ((w 48 (w 44 6 - 1)) / 10 / 20)) (iXor (iShl 1 ((w 48 (w 44 6 - 1)) % 10)) (-1)))) 47 0 (w 47 0 - 1)))) zNo 11 [zR 0] [zI zv] (ZZ t dr tx) q_1_w
  refine zA_iret dX11_back_11 rfl ?_
  refine ⟨rfl, ?_⟩
  rcases hr2 with ⟨a, b, e⟩ | ⟨a, b, e⟩
  · exact Or.inl ⟨a, by rw [b], e⟩
  · exact Or.inr ⟨a, by rw [b], e⟩

set_option maxRecDepth 100000 in
set_option maxHeartbeats 4000000 in
theorem s_climb {l : Launch} {t dr tx : Nat} {w : zW} (ht : t = 4 ∨ t = 10) (hn0 : 0 ≤ w t 5) (hn : w t 5 ≤ 12) (hr0 : 0 ≤ w 44 1) (hr1 : w 44 1 ≤ 20) (hne : ∀ c : Int, 0 ≤ c → c < 12 → 0 ≤ w (t + 5) c ∧ w (t + 5) c < 1073741824) (hmu : ∀ x : Int, 0 ≤ x → x < 360 → 0 ≤ w 46 x ∧ w 46 x < 1024) {m c r d : Int} (hm : inR m) (hc : inR c) (hrr : inR r) (hd : inR d) (hgo : ∀ x : Int, 0 ≤ x → x < 7 → -100000 ≤ w 47 x ∧ w 47 x ≤ 100000) (hcc : ∀ c : Int, 0 ≤ c → c < w t 5 → 1 ≤ w (t + 1) c ∧ w (t + 1) c ≤ 200) (hlv : ∀ r : Int, 0 ≤ r → r < 20 → 0 ≤ w 45 r ∧ w 45 r ≤ 200000) (k0 : 0 ≤ w 44 6) (k1 : w 44 6 ≤ 50) : zSp l mX11_climb false 4 0 0 [zR 0, zI m, zI c, zI r, zI d] (ZZ t dr tx) w (fun v' S' w' => S' = (ZZ t dr tx) ∧ ∃ k, v' = some (zI k) ∧ (rfR ((0 ≤ m ∧ m ≤ 9) ∧ (0 ≤ c ∧ c < w t 5) ∧ (0 ≤ r ∧ r < w 44 1) ∧ 0 ≤ d ∧ d ≤ 29) (w (t + 3) d) (w 44 4) (tb (w (t + 5) c) d = true) (∃ ch : Int, (0 ≤ ch ∧ ch < 12) ∧ tb (w 46 (ch * 30 + d)) m = true) (5 ≤ m) (w 46 (c * 30 + d) % 32 ≠ 0) (w 45 r) (w (t + 1) c)) k ∧ (∀ cc i, cc ≠ 45 → cc ≠ 46 → cc ≠ 47 → cc ≠ 48 → (cc ≠ 44 ∨ i ≠ 6) → w' cc i = w cc i) ∧ (∀ x : Int, w' 47 x = if x = k then w 47 k + 1 else w 47 x) ∧ ((k ≠ 0 ∧ (∀ x, w' 45 x = w 45 x) ∧ (∀ x, w' 46 x = w 46 x) ∧ (∀ x, w' 48 x = w 48 x) ∧ w' 44 6 = w 44 6) ∨ (k = 0 ∧ (∀ x : Int, w' 45 x = if x = r then w 45 r - w (t + 1) c else w 45 x) ∧ (∀ x : Int, w' 46 x = if x = c * 30 + d then iOr (w 46 (c * 30 + d)) (iShl 1 m) else w 46 x) ∧ w' 44 6 = min (w 44 6 + 1) 50 ∧ ∀ i : Int, 0 ≤ i → i < min (w 44 6 + 1) 50 → w' 48 i = if i = min (w 44 6 + 1) 50 - 1 then ((((c * 30 + d) * 20 + r) * 10) + m) else w 48 (if w 44 6 < 50 then i else i + 1)))) zNo := by
  refine zA_intro ⟨plainFor_of_name (by decide +kernel), Or.inl (by decide +kernel)⟩ rfl (Nat.le_of_ble_eq_true rfl) ?_
  refine zA_range (fun hr => ?_)
  show zA l mX11_climb false 4 0 0 (fun v' S' w' => S' = (ZZ t dr tx) ∧ ∃ k, v' = some (zI k) ∧ (rfR ((0 ≤ m ∧ m ≤ 9) ∧ (0 ≤ c ∧ c < w t 5) ∧ (0 ≤ r ∧ r < w 44 1) ∧ 0 ≤ d ∧ d ≤ 29) (w (t + 3) d) (w 44 4) (tb (w (t + 5) c) d = true) (∃ ch : Int, (0 ≤ ch ∧ ch < 12) ∧ tb (w 46 (ch * 30 + d)) m = true) (5 ≤ m) (w 46 (c * 30 + d) % 32 ≠ 0) (w 45 r) (w (t + 1) c)) k ∧ (∀ cc i, cc ≠ 45 → cc ≠ 46 → cc ≠ 47 → cc ≠ 48 → (cc ≠ 44 ∨ i ≠ 6) → w' cc i = w cc i) ∧ (∀ x : Int, w' 47 x = if x = k then w 47 k + 1 else w 47 x) ∧ ((k ≠ 0 ∧ (∀ x, w' 45 x = w 45 x) ∧ (∀ x, w' 46 x = w 46 x) ∧ (∀ x, w' 48 x = w 48 x) ∧ w' 44 6 = w 44 6) ∨ (k = 0 ∧ (∀ x : Int, w' 45 x = if x = r then w 45 r - w (t + 1) c else w 45 x) ∧ (∀ x : Int, w' 46 x = if x = c * 30 + d then iOr (w 46 (c * 30 + d)) (iShl 1 m) else w 46 x) ∧ w' 44 6 = min (w 44 6 + 1) 50 ∧ ∀ i : Int, 0 ≤ i → i < min (w 44 6 + 1) 50 → w' 48 i = if i = min (w 44 6 + 1) 50 - 1 then ((((c * 30 + d) * 20 + r) * 10) + m) else w 48 (if w 44 6 < 50 then i else i + 1)))) zNo 0 [zR 0, zI m, zI c, zI r, zI d, .null] [] (ZZ t dr tx) w
  refine zA_aload_n dX11_climb_0 rfl ?_
  refine zA_iload_n dX11_climb_1 rfl ?_
  refine zA_iload_n dX11_climb_2 rfl ?_
  refine zA_iload_n dX11_climb_3 rfl ?_
  refine zA_iload dX11_climb_4 rfl ?_
  refine zA_cV (st := []) dX11_climb_6 vX11_refusal kX11_340 (s_refusal (w := w) ht hn0 hn hr0 hr1 hne hmu hm hc hrr hd) (by decide) c0 rfl rfl (Nat.le_of_ble_eq_true rfl) rfl (zRp1_el (fun k hk => ?_))
  have hkb := rfR_b hk
  have hgk := hgo k hkb.1 hkb.2
  refine zA_istore (lo1 := [zR 0, zI m, zI c, zI r, zI d, zI k]) dX11_climb_9 (by decide) rfl rfl ?_
  refine zA_aload_n dX11_climb_11 rfl ?_
  refine zA_getR (n := 44) dX11_climb_12 fX11_71 c0 rfl ?_
  refine zA_getR (n := 47) dX11_climb_15 fX11_343 c44 rfl ?_
  refine zA_iload dX11_climb_18 rfl ?_
  refine zA_dup2 dX11_climb_20 rfl rfl ?_
  refine zA_iaload dX11_climb_21 c47 (by first | assumption | omega) (by first | assumption | omega) (by decide) ?_
  refine zA_iconst dX11_climb_22 ?_
  refine zA_iadd dX11_climb_23 ?_
  refine zA_iastore dX11_climb_24 (by first | assumption | exact hr _ _ | exact inR_mk (by omega) (by omega)) c47 (by first | assumption | omega) (by first | assumption | omega) (by decide) ?_
  refine zA_namew (fun w_1 hw_1 => ?_)
  refine zA_range (fun hr => ?_)
  replace hw_1 : w_1 = up w 47 k ((w 47 k) + 1) := hw_1
  have eo : ∀ cc i, cc ≠ 47 → w_1 cc i = w cc i := fun cc i h => by rw [hw_1, up_cell _ _ _ _ h]
  have e47 : ∀ x : Int, w_1 47 x = if x = k then w 47 k + 1 else w 47 x := fun x => by
    rw [hw_1]
    by_cases e : x = k
    · rw [if_pos e, e, up_same]
    · rw [if_neg e, up_idx _ _ _ _ e]
  refine zA_iload dX11_climb_25 rfl ?_
  refine zA_if_ne (tgt := 51) dX11_climb_27 (by decide) (by first | assumption | exact hr _ _ | exact inR_mk (by omega) (by omega)) (fun c27 => ?_) (fun c27 => ?_)
  · skip
    refine zA_iload dX11_climb_51 rfl ?_
    refine zA_iret dX11_climb_53 rfl ?_
    exact ⟨rfl, k, rfl, hk, fun cc i a b e f g => eo cc i e, e47, Or.inl ⟨by omega, fun x => eo 45 x (by decide), fun x => eo 46 x (by decide), fun x => eo 48 x (by decide), eo 44 6 (by decide)⟩⟩
  · skip
    have hk0 := rfR_0 hk (by omega)
    obtain ⟨⟨q1, q2, q3, q4⟩, q5⟩ := hk0
    have hcb := hcc c (by omega) (by omega)
    have hlr := hlv r (by omega) (by omega)
    have f1 : w_1 (t + 1) c = w (t + 1) c := eo _ _ (by omega)
    have f2 : w_1 45 r = w 45 r := eo _ _ (by decide)
    have f3 : w_1 44 6 = w 44 6 := eo _ _ (by decide)
    refine zA_aload_n dX11_climb_30 rfl ?_
    refine zA_getR (n := 44) dX11_climb_31 fX11_71 c0 rfl ?_
    refine zA_iload_n dX11_climb_34 rfl ?_
    refine zA_iload_n dX11_climb_35 rfl ?_
    refine zA_iload_n dX11_climb_36 rfl ?_
    refine zA_iload dX11_climb_37 rfl ?_
    refine zA_aload_n dX11_climb_39 rfl ?_
    refine zA_getR (n := t) dX11_climb_40 fX11_30 c0 rfl ?_
    refine zA_getR (n := (t + 1)) dX11_climb_43 fX11_346 (cY0 ht) rfl ?_
    refine zA_iload_n dX11_climb_46 rfl ?_
    refine zA_iaload dX11_climb_47 (cY1 ht) (by first | assumption | omega) (by first | assumption | omega) (by decide) ?_
    refine zA_cV (st := []) dX11_climb_48 vX0_goUp kX11_349 (s_goUp (w := w_1) (m := m) (c := c) (r := r) (d := d) (cs := w_1 (t + 1) c) (fun x a b => by rw [eo 46 x (by decide)]; exact hmu x a b) (by omega) (by omega) (by omega) (by omega) (by omega) (by omega) (by omega) (by omega) (by omega) (by omega) (by omega) (by omega) (by omega) (by omega)) (by decide) c44 rfl rfl (Nat.le_of_ble_eq_true rfl) rfl (fun q_2_v q_2_S q_2_w q_2 => ?_)
    obtain ⟨rfl, rfl, g0, g1, g2, g3, g4⟩ := q_2
    refine zA_range (fun hr => ?_)
    show zA l mX11_climb false 4 0 0 (fun v' S' w' => S' = (ZZ t dr tx) ∧ ∃ k, v' = some (zI k) ∧ (rfR ((0 ≤ m ∧ m ≤ 9) ∧ (0 ≤ c ∧ c < w t 5) ∧ (0 ≤ r ∧ r < w 44 1) ∧ 0 ≤ d ∧ d ≤ 29) (w (t + 3) d) (w 44 4) (tb (w (t + 5) c) d = true) (∃ ch : Int, (0 ≤ ch ∧ ch < 12) ∧ tb (w 46 (ch * 30 + d)) m = true) (5 ≤ m) (w 46 (c * 30 + d) % 32 ≠ 0) (w 45 r) (w (t + 1) c)) k ∧ (∀ cc i, cc ≠ 45 → cc ≠ 46 → cc ≠ 47 → cc ≠ 48 → (cc ≠ 44 ∨ i ≠ 6) → w' cc i = w cc i) ∧ (∀ x : Int, w' 47 x = if x = k then w 47 k + 1 else w 47 x) ∧ ((k ≠ 0 ∧ (∀ x, w' 45 x = w 45 x) ∧ (∀ x, w' 46 x = w 46 x) ∧ (∀ x, w' 48 x = w 48 x) ∧ w' 44 6 = w 44 6) ∨ (k = 0 ∧ (∀ x : Int, w' 45 x = if x = r then w 45 r - w (t + 1) c else w 45 x) ∧ (∀ x : Int, w' 46 x = if x = c * 30 + d then iOr (w 46 (c * 30 + d)) (iShl 1 m) else w 46 x) ∧ w' 44 6 = min (w 44 6 + 1) 50 ∧ ∀ i : Int, 0 ≤ i → i < min (w 44 6 + 1) 50 → w' 48 i = if i = min (w 44 6 + 1) 50 - 1 then ((((c * 30 + d) * 20 + r) * 10) + m) else w 48 (if w 44 6 < 50 then i else i + 1)))) zNo 51 [zR 0, zI m, zI c, zI r, zI d, zI k] [] (ZZ t dr tx) q_2_w
    refine zA_iload dX11_climb_51 rfl ?_
    refine zA_iret dX11_climb_53 rfl ?_
    rw [f1, f2] at g1
    rw [eo 46 _ (by decide)] at g2
    rw [f3] at g3 g4
    refine ⟨rfl, k, rfl, hk, fun cc i a b e f g => ?_, fun x => ?_, Or.inr ⟨by omega, fun x => ?_, fun x => ?_, g3, fun i a b => ?_⟩⟩
    · rw [g0 cc i a b f g]; exact eo cc i e
    · rw [g0 47 x (by decide) (by decide) (by decide) (Or.inl (by decide))]; exact e47 x
    · rw [g1 x]; split; rfl; exact eo 45 x (by decide)
    · rw [g2 x]; split; rfl; exact eo 46 x (by decide)
    · rw [g4 i a b]; split; rfl; exact eo 48 _ (by decide)

