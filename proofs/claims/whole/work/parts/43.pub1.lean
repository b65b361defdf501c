/-! the class's plain public methods -/
set_option maxRecDepth 100000 in
set_option maxHeartbeats 4000000 in
theorem s_means {l : Launch} {t dr tx : Nat} {w : zW} {o m : Int} (ho : inR o) (hm : inR m) : zSp l mX11_means false 3 1 6 [zR 0, zI o, zI m] (ZZ t dr tx) w (zBs (0 ≤ o ∧ o < 6) (0 ≤ m ∧ m ≤ 9999) (ZZ t dr tx) w (up w 70 o m)) (zXp (¬ (0 ≤ o ∧ o < 6)) (False) (ZZ t dr tx) w) := by
  refine zA_intro ⟨plainFor_of_name (by decide +kernel), Or.inl (by decide +kernel)⟩ rfl (Nat.le_of_ble_eq_true rfl) ?_
  refine zA_range (fun hr => ?_)
  show zA l mX11_means false 3 1 6 (zBs (0 ≤ o ∧ o < 6) (0 ≤ m ∧ m ≤ 9999) (ZZ t dr tx) w (up w 70 o m)) (zXp (¬ (0 ≤ o ∧ o < 6)) (False) (ZZ t dr tx) w) 0 [zR 0, zI o, zI m] [] (ZZ t dr tx) w
  refine zA_iload_n dX11_means_0 rfl ?_
  refine zA_callS (bc2 := 0) (bs2 := 0) (st := []) dX11_means_1 sX11_askOwner kX11_434 (s_askOwner (w := w) (c := o) (by first | assumption | exact hr _ _ | exact inR_mk (by omega) (by omega))) (by decide) rfl rfl (Nat.le_of_ble_eq_true rfl) ⟨rfl, rfl⟩ (zRa_el (fun h_1 => ?_)) (zXp_m rfl (fun h => by first | exact h.elim | omega) (fun h => by first | exact h.elim | omega))
  show zA l mX11_means false 3 0 0 (zBs (0 ≤ o ∧ o < 6) (0 ≤ m ∧ m ≤ 9999) (ZZ t dr tx) w (up w 70 o m)) (zXp (¬ (0 ≤ o ∧ o < 6)) (False) (ZZ t dr tx) w) 4 [zR 0, zI o, zI m] [] (ZZ t dr tx) w
  refine zA_iconst dX11_means_4 ?_
  refine zA_iload_n dX11_means_5 rfl ?_
  refine zA_sipush dX11_means_6 rfl ?_
  refine zA_cS (st := []) dX11_means_9 sX11_between kX11_213 (s_between (w := w) (a := 0) (b := m) (e := 9999) ⟨by decide, by decide⟩ (by first | assumption | exact hr _ _ | exact inR_mk (by omega) (by omega)) ⟨by decide, by decide⟩) (by decide) rfl rfl (Nat.le_of_ble_eq_true rfl) (zRt_el ?_)
  show zA l mX11_means false 3 0 0 (zBs (0 ≤ o ∧ o < 6) (0 ≤ m ∧ m ≤ 9999) (ZZ t dr tx) w (up w 70 o m)) (zXp (¬ (0 ≤ o ∧ o < 6)) (False) (ZZ t dr tx) w) 12 [zR 0, zI o, zI m] [zI (if 0 ≤ m ∧ m ≤ 9999 then 1 else 0)] (ZZ t dr tx) w
  refine zA_if_ne (tgt := 17) dX11_means_12 (by decide) (inR_ite _) (fun c12 => ?_) (fun c12 => ?_)
  · skip
    replace c12 := zite_ne c12
    refine zA_aload_n dX11_means_17 rfl ?_
    refine zA_getR (n := 69) dX11_means_18 fX11_99 c0 rfl ?_
    refine zA_getR (n := 70) dX11_means_21 fX11_437 c69 rfl ?_
    refine zA_iload_n dX11_means_24 rfl ?_
    refine zA_iload_n dX11_means_25 rfl ?_
    refine zA_iastore dX11_means_26 (by first | assumption | exact hr _ _ | exact inR_mk (by omega) (by omega)) c70 (by first | assumption | omega) (by first | assumption | omega) (by decide) ?_
    refine zA_namew (fun w_1 hw_1 => ?_)
    refine zA_range (fun hr => ?_)
    replace hw_1 : w_1 = up w 70 o m := hw_1
    refine zA_iconst dX11_means_27 ?_
    refine zA_zret dX11_means_28 rfl (Or.inr rfl) ?_
    exact ⟨rfl, by omega, by first | exact Or.inl ⟨by omega, rfl, by first | rfl | (simp only [*]; done)⟩ | exact Or.inr ⟨by omega, rfl, rfl⟩⟩
  · skip
    replace c12 := zite_eq c12
    refine zA_iconst dX11_means_15 ?_
    refine zA_zret dX11_means_16 rfl (Or.inl rfl) ?_
    exact ⟨rfl, by omega, by first | exact Or.inl ⟨by omega, rfl, by first | rfl | (simp only [*]; done)⟩ | exact Or.inr ⟨by omega, rfl, rfl⟩⟩

set_option maxRecDepth 100000 in
set_option maxHeartbeats 4000000 in
theorem s_part {l : Launch} {t dr tx : Nat} {w : zW} (ht : t = 4 ∨ t = 10) (hn : w t 5 ≤ 12) {c o m : Int} (hc : inR c) (ho : inR o) (hm : inR m) : zSp l mX11_part false 3 2 12 [zR 0, zI c, zI o, zI m] (ZZ t dr tx) w (zBs ((0 ≤ c ∧ c < w t 5) ∧ 0 ≤ o ∧ o < 6) (0 ≤ m ∧ m ≤ 100) (ZZ t dr tx) w (up w 71 (c * 6 + o) m)) (zXp (¬ (0 ≤ c ∧ c < w t 5) ∨ ¬ (0 ≤ o ∧ o < 6)) (False) (ZZ t dr tx) w) := by
  refine zA_intro ⟨plainFor_of_name (by decide +kernel), Or.inl (by decide +kernel)⟩ rfl (Nat.le_of_ble_eq_true rfl) ?_
  refine zA_range (fun hr => ?_)
  show zA l mX11_part false 3 2 12 (zBs ((0 ≤ c ∧ c < w t 5) ∧ 0 ≤ o ∧ o < 6) (0 ≤ m ∧ m ≤ 100) (ZZ t dr tx) w (up w 71 (c * 6 + o) m)) (zXp (¬ (0 ≤ c ∧ c < w t 5) ∨ ¬ (0 ≤ o ∧ o < 6)) (False) (ZZ t dr tx) w) 0 [zR 0, zI c, zI o, zI m] [] (ZZ t dr tx) w
  refine zA_aload_n dX11_part_0 rfl ?_
  refine zA_iload_n dX11_part_1 rfl ?_
  refine zA_callV (bc2 := 1) (bs2 := 6) (st := []) dX11_part_2 vX11_askChimney kX11_173 (s_askChimney (w := w) ht (c := c) (by first | assumption | exact hr _ _ | exact inR_mk (by omega) (by omega))) (by decide) rfl rfl (Nat.le_of_ble_eq_true rfl) c0 rfl ⟨rfl, rfl⟩ (zRa_el (fun h_2 => ?_)) (zXp_m rfl (fun h => by first | exact h.elim | omega) (fun h => by first | exact h.elim | omega))
  show zA l mX11_part false 3 1 6 (zBs ((0 ≤ c ∧ c < w t 5) ∧ 0 ≤ o ∧ o < 6) (0 ≤ m ∧ m ≤ 100) (ZZ t dr tx) w (up w 71 (c * 6 + o) m)) (zXp (¬ (0 ≤ c ∧ c < w t 5) ∨ ¬ (0 ≤ o ∧ o < 6)) (False) (ZZ t dr tx) w) 5 [zR 0, zI c, zI o, zI m] [] (ZZ t dr tx) w
  refine zA_iload_n dX11_part_5 rfl ?_
  refine zA_callS (bc2 := 0) (bs2 := 0) (st := []) dX11_part_6 sX11_askOwner kX11_434 (s_askOwner (w := w) (c := o) (by first | assumption | exact hr _ _ | exact inR_mk (by omega) (by omega))) (by decide) rfl rfl (Nat.le_of_ble_eq_true rfl) ⟨rfl, rfl⟩ (zRa_el (fun h_6 => ?_)) (zXp_m rfl (fun h => by first | exact h.elim | omega) (fun h => by first | exact h.elim | omega))
  show zA l mX11_part false 3 0 0 (zBs ((0 ≤ c ∧ c < w t 5) ∧ 0 ≤ o ∧ o < 6) (0 ≤ m ∧ m ≤ 100) (ZZ t dr tx) w (up w 71 (c * 6 + o) m)) (zXp (¬ (0 ≤ c ∧ c < w t 5) ∨ ¬ (0 ≤ o ∧ o < 6)) (False) (ZZ t dr tx) w) 9 [zR 0, zI c, zI o, zI m] [] (ZZ t dr tx) w
  refine zA_iconst dX11_part_9 ?_
  refine zA_iload_n dX11_part_10 rfl ?_
  refine zA_bipush dX11_part_11 rfl ?_
  refine zA_cS (st := []) dX11_part_13 sX11_between kX11_213 (s_between (w := w) (a := 0) (b := m) (e := 100) ⟨by decide, by decide⟩ (by first | assumption | exact hr _ _ | exact inR_mk (by omega) (by omega)) ⟨by decide, by decide⟩) (by decide) rfl rfl (Nat.le_of_ble_eq_true rfl) (zRt_el ?_)
  show zA l mX11_part false 3 0 0 (zBs ((0 ≤ c ∧ c < w t 5) ∧ 0 ≤ o ∧ o < 6) (0 ≤ m ∧ m ≤ 100) (ZZ t dr tx) w (up w 71 (c * 6 + o) m)) (zXp (¬ (0 ≤ c ∧ c < w t 5) ∨ ¬ (0 ≤ o ∧ o < 6)) (False) (ZZ t dr tx) w) 16 [zR 0, zI c, zI o, zI m] [zI (if 0 ≤ m ∧ m ≤ 100 then 1 else 0)] (ZZ t dr tx) w
  refine zA_if_ne (tgt := 21) dX11_part_16 (by decide) (inR_ite _) (fun c16 => ?_) (fun c16 => ?_)
  · skip
    replace c16 := zite_ne c16
    refine zA_aload_n dX11_part_21 rfl ?_
    refine zA_getR (n := 69) dX11_part_22 fX11_99 c0 rfl ?_
    refine zA_getR (n := 71) dX11_part_25 fX11_440 c69 rfl ?_
    refine zA_iload_n dX11_part_28 rfl ?_
    refine zA_bipush dX11_part_29 rfl ?_
    refine zA_imul dX11_part_31 ?_
    refine zA_iload_n dX11_part_32 rfl ?_
    refine zA_iadd dX11_part_33 ?_
    refine zA_iload_n dX11_part_34 rfl ?_
    refine zA_iastore dX11_part_35 (by first | assumption | exact hr _ _ | exact inR_mk (by omega) (by omega)) c71 (by first | assumption | omega) (by first | assumption | omega) (by decide) ?_
    refine zA_namew (fun w_1 hw_1 => ?_)
    refine zA_range (fun hr => ?_)
    replace hw_1 : w_1 = up w 71 ((c * 6) + o) m := hw_1
    refine zA_iconst dX11_part_36 ?_
    refine zA_zret dX11_part_37 rfl (Or.inr rfl) ?_
    exact ⟨rfl, by omega, by first | exact Or.inl ⟨by omega, rfl, by first | rfl | (simp only [*]; done)⟩ | exact Or.inr ⟨by omega, rfl, rfl⟩⟩
  · skip
    replace c16 := zite_eq c16
    refine zA_iconst dX11_part_19 ?_
    refine zA_zret dX11_part_20 rfl (Or.inl rfl) ?_
    exact ⟨rfl, by omega, by first | exact Or.inl ⟨by omega, rfl, by first | rfl | (simp only [*]; done)⟩ | exact Or.inr ⟨by omega, rfl, rfl⟩⟩

set_option maxRecDepth 100000 in
set_option maxHeartbeats 4000000 in
theorem s_paid {l : Launch} {t dr tx : Nat} {w : zW} {o k : Int} (ho : inR o) (hk : inR k) : zSp l mX11_paid false 3 2 12 [zR 0, zI o, zI k] (ZZ t dr tx) w (zIs ((0 ≤ o ∧ o < 6) ∧ 0 ≤ k ∧ k < 2) (if k = 0 then w 72 o else w 70 o) (ZZ t dr tx) (w)) (zXp (¬ (0 ≤ o ∧ o < 6) ∨ ¬ (0 ≤ k ∧ k < 2)) (False) (ZZ t dr tx) w) := by
  refine zA_intro ⟨plainFor_of_name (by decide +kernel), Or.inl (by decide +kernel)⟩ rfl (Nat.le_of_ble_eq_true rfl) ?_
  refine zA_range (fun hr => ?_)
  show zA l mX11_paid false 3 2 12 (zIs ((0 ≤ o ∧ o < 6) ∧ 0 ≤ k ∧ k < 2) (if k = 0 then w 72 o else w 70 o) (ZZ t dr tx) (w)) (zXp (¬ (0 ≤ o ∧ o < 6) ∨ ¬ (0 ≤ k ∧ k < 2)) (False) (ZZ t dr tx) w) 0 [zR 0, zI o, zI k] [] (ZZ t dr tx) w
  refine zA_iload_n dX11_paid_0 rfl ?_
  refine zA_callS (bc2 := 1) (bs2 := 6) (st := []) dX11_paid_1 sX11_askOwner kX11_434 (s_askOwner (w := w) (c := o) (by first | assumption | exact hr _ _ | exact inR_mk (by omega) (by omega))) (by decide) rfl rfl (Nat.le_of_ble_eq_true rfl) ⟨rfl, rfl⟩ (zRa_el (fun h_1 => ?_)) (zXp_m rfl (fun h => by first | exact h.elim | omega) (fun h => by first | exact h.elim | omega))
  show zA l mX11_paid false 3 1 6 (zIs ((0 ≤ o ∧ o < 6) ∧ 0 ≤ k ∧ k < 2) (if k = 0 then w 72 o else w 70 o) (ZZ t dr tx) (w)) (zXp (¬ (0 ≤ o ∧ o < 6) ∨ ¬ (0 ≤ k ∧ k < 2)) (False) (ZZ t dr tx) w) 4 [zR 0, zI o, zI k] [] (ZZ t dr tx) w
  refine zA_iload_n dX11_paid_4 rfl ?_
  refine zA_iconst dX11_paid_5 ?_
  refine zA_callS (bc2 := 0) (bs2 := 0) (st := []) dX11_paid_6 sX11_askWhat kX11_165 (s_askWhat (w := w) (c := k) (n := 2) (by first | assumption | exact hr _ _ | exact inR_mk (by omega) (by omega)) ⟨by decide, by decide⟩) (by decide) rfl rfl (Nat.le_of_ble_eq_true rfl) ⟨rfl, rfl⟩ (zRa_el (fun h_6 => ?_)) (zXp_m rfl (fun h => by first | exact h.elim | omega) (fun h => by first | exact h.elim | omega))
  show zA l mX11_paid false 3 0 0 (zIs ((0 ≤ o ∧ o < 6) ∧ 0 ≤ k ∧ k < 2) (if k = 0 then w 72 o else w 70 o) (ZZ t dr tx) (w)) (zXp (¬ (0 ≤ o ∧ o < 6) ∨ ¬ (0 ≤ k ∧ k < 2)) (False) (ZZ t dr tx) w) 9 [zR 0, zI o, zI k] [] (ZZ t dr tx) w
  refine zA_iload_n dX11_paid_9 rfl ?_
  refine zA_if_ne (tgt := 25) dX11_paid_10 (by decide) (by first | assumption | exact hr _ _ | exact inR_mk (by omega) (by omega)) (fun c10 => ?_) (fun c10 => ?_)
  · skip
    refine zA_aload_n dX11_paid_25 rfl ?_
    refine zA_getR (n := 69) dX11_paid_26 fX11_99 c0 rfl ?_
    refine zA_getR (n := 70) dX11_paid_29 fX11_437 c69 rfl ?_
    refine zA_iload_n dX11_paid_32 rfl ?_
    refine zA_iaload dX11_paid_33 c70 (by first | assumption | omega) (by first | assumption | omega) (by decide) ?_
    refine zA_iret dX11_paid_34 rfl ?_
    exact ⟨by omega, by congr 2; split <;> first | rfl | omega, rfl, rfl⟩
  · skip
    refine zA_aload_n dX11_paid_13 rfl ?_
    refine zA_getR (n := 69) dX11_paid_14 fX11_99 c0 rfl ?_
    refine zA_getR (n := 72) dX11_paid_17 fX11_449 c69 rfl ?_
    refine zA_iload_n dX11_paid_20 rfl ?_
    refine zA_iaload dX11_paid_21 c72 (by first | assumption | omega) (by first | assumption | omega) (by decide) ?_
    refine zA_goto (tgt := 34) dX11_paid_22 (by decide) ?_
    refine zA_iret dX11_paid_34 rfl ?_
    exact ⟨by omega, by congr 2; split <;> first | rfl | omega, rfl, rfl⟩

set_option maxRecDepth 100000 in
set_option maxHeartbeats 4000000 in
theorem s_storm {l : Launch} {t dr tx : Nat} {w : zW} {o m : Int} (ho : inR o) (hm : inR m) : zSp l mX11_storm false 3 0 0 [zR 0, zI o, zI m] (ZZ t dr tx) w (zBs (True) ((0 ≤ o ∧ o ≤ 29) ∧ (0 ≤ m ∧ m ≤ 100)) (ZZ t dr tx) w (up w 28 o m)) zNo := by
  refine zA_intro ⟨plainFor_of_name (by decide +kernel), Or.inl (by decide +kernel)⟩ rfl (Nat.le_of_ble_eq_true rfl) ?_
  refine zA_range (fun hr => ?_)
  show zA l mX11_storm false 3 0 0 (zBs (True) ((0 ≤ o ∧ o ≤ 29) ∧ (0 ≤ m ∧ m ≤ 100)) (ZZ t dr tx) w (up w 28 o m)) zNo 0 [zR 0, zI o, zI m] [] (ZZ t dr tx) w
  refine zA_iconst dX11_storm_0 ?_
  refine zA_iload_n dX11_storm_1 rfl ?_
  refine zA_bipush dX11_storm_2 rfl ?_
  refine zA_cS (st := []) dX11_storm_4 sX11_between kX11_213 (s_between (w := w) (a := 0) (b := o) (e := 29) ⟨by decide, by decide⟩ (by first | assumption | exact hr _ _ | exact inR_mk (by omega) (by omega)) ⟨by decide, by decide⟩) (by decide) rfl rfl (Nat.le_of_ble_eq_true rfl) (zRt_el ?_)
  show zA l mX11_storm false 3 0 0 (zBs (True) ((0 ≤ o ∧ o ≤ 29) ∧ (0 ≤ m ∧ m ≤ 100)) (ZZ t dr tx) w (up w 28 o m)) zNo 7 [zR 0, zI o, zI m] [zI (if 0 ≤ o ∧ o ≤ 29 then 1 else 0)] (ZZ t dr tx) w
  refine zA_if_eq (tgt := 20) dX11_storm_7 (by decide) (inR_ite _) (fun c7 => ?_) (fun c7 => ?_)
  · skip
    replace c7 := zite_eq c7
    refine zA_iconst dX11_storm_20 ?_
    refine zA_zret dX11_storm_21 rfl (Or.inl rfl) ?_
    exact ⟨rfl, trivial, by first | exact Or.inl ⟨by omega, rfl, by first | rfl | (simp only [*]; done)⟩ | exact Or.inr ⟨by omega, rfl, rfl⟩⟩
  · skip
    replace c7 := zite_ne c7
    refine zA_iconst dX11_storm_10 ?_
    refine zA_iload_n dX11_storm_11 rfl ?_
    refine zA_bipush dX11_storm_12 rfl ?_
    refine zA_cS (st := []) dX11_storm_14 sX11_between kX11_213 (s_between (w := w) (a := 0) (b := m) (e := 100) ⟨by decide, by decide⟩ (by first | assumption | exact hr _ _ | exact inR_mk (by omega) (by omega)) ⟨by decide, by decide⟩) (by decide) rfl rfl (Nat.le_of_ble_eq_true rfl) (zRt_el ?_)
    show zA l mX11_storm false 3 0 0 (zBs (True) ((0 ≤ o ∧ o ≤ 29) ∧ (0 ≤ m ∧ m ≤ 100)) (ZZ t dr tx) w (up w 28 o m)) zNo 17 [zR 0, zI o, zI m] [zI (if 0 ≤ m ∧ m ≤ 100 then 1 else 0)] (ZZ t dr tx) w
    refine zA_if_ne (tgt := 22) dX11_storm_17 (by decide) (inR_ite _) (fun c17 => ?_) (fun c17 => ?_)
    · skip
      replace c17 := zite_ne c17
      refine zA_aload_n dX11_storm_22 rfl ?_
      refine zA_getR (n := 28) dX11_storm_23 fX11_44 c0 rfl ?_
      refine zA_iload_n dX11_storm_26 rfl ?_
      refine zA_iload_n dX11_storm_27 rfl ?_
      refine zA_iastore dX11_storm_28 (by first | assumption | exact hr _ _ | exact inR_mk (by omega) (by omega)) c28 (by first | assumption | omega) (by first | assumption | omega) (by decide) ?_
      refine zA_namew (fun w_1 hw_1 => ?_)
      refine zA_range (fun hr => ?_)
      replace hw_1 : w_1 = up w 28 o m := hw_1
      refine zA_iconst dX11_storm_29 ?_
      refine zA_zret dX11_storm_30 rfl (Or.inr rfl) ?_
      exact ⟨rfl, trivial, by first | exact Or.inl ⟨by omega, rfl, by first | rfl | (simp only [*]; done)⟩ | exact Or.inr ⟨by omega, rfl, rfl⟩⟩
    · skip
      replace c17 := zite_eq c17
      refine zA_iconst dX11_storm_20 ?_
      refine zA_zret dX11_storm_21 rfl (Or.inl rfl) ?_
      exact ⟨rfl, trivial, by first | exact Or.inl ⟨by omega, rfl, by first | rfl | (simp only [*]; done)⟩ | exact Or.inr ⟨by omega, rfl, rfl⟩⟩

set_option maxRecDepth 100000 in
set_option maxHeartbeats 4000000 in
theorem s_fault {l : Launch} {t dr tx : Nat} {w : zW}  : zSp l mX11_fault false 3 0 0 [zR 0] (ZZ t dr tx) w (zRt (some (zI (w 0 2))) (ZZ t dr tx) w) zNo := by
  refine zA_intro ⟨plainFor_of_name (by decide +kernel), Or.inl (by decide +kernel)⟩ rfl (Nat.le_of_ble_eq_true rfl) ?_
  refine zA_range (fun hr => ?_)
  show zA l mX11_fault false 3 0 0 (zRt (some (zI (w 0 2))) (ZZ t dr tx) w) zNo 0 [zR 0] [] (ZZ t dr tx) w
  refine zA_aload_n dX11_fault_0 rfl ?_
  refine zA_getI dX11_fault_1 fX11_17 c0 rfl ?_
  refine zA_valI (w 0 2) rfl ?_
  refine zA_iret dX11_fault_4 rfl ?_
  exact zRt_i rfl

set_option maxRecDepth 100000 in
set_option maxHeartbeats 4000000 in
theorem s_letter {l : Launch} {t dr tx : Nat} {w : zW} (ht : t = 4 ∨ t = 10) {a k : Int} (hn : w t 7 ≤ 8) (ha : inR a) (hk : inR k) : zSp l mX11_letter false 3 2 12 [zR 0, zI a, zI k] (ZZ t dr tx) w (zIs ((0 ≤ a ∧ a < w t 7) ∧ 0 ≤ k ∧ k < 6) (w (t + 4) (a * 6 + k)) (ZZ t dr tx) (w)) (zXp (¬ (0 ≤ a ∧ a < w t 7) ∨ ¬ (0 ≤ k ∧ k < 6)) (False) (ZZ t dr tx) w) := by
  refine zA_intro ⟨plainFor_of_name (by decide +kernel), Or.inl (by decide +kernel)⟩ rfl (Nat.le_of_ble_eq_true rfl) ?_
  refine zA_range (fun hr => ?_)
  show zA l mX11_letter false 3 2 12 (zIs ((0 ≤ a ∧ a < w t 7) ∧ 0 ≤ k ∧ k < 6) (w (t + 4) (a * 6 + k)) (ZZ t dr tx) (w)) (zXp (¬ (0 ≤ a ∧ a < w t 7) ∨ ¬ (0 ≤ k ∧ k < 6)) (False) (ZZ t dr tx) w) 0 [zR 0, zI a, zI k] [] (ZZ t dr tx) w
  refine zA_aload_n dX11_letter_0 rfl ?_
  refine zA_iload_n dX11_letter_1 rfl ?_
  refine zA_callV (bc2 := 1) (bs2 := 6) (st := []) dX11_letter_2 vX11_askLetter kX11_162 (s_askLetter (w := w) ht (c := a) (by first | assumption | exact hr _ _ | exact inR_mk (by omega) (by omega))) (by decide) rfl rfl (Nat.le_of_ble_eq_true rfl) c0 rfl ⟨rfl, rfl⟩ (zRa_el (fun h_2 => ?_)) (zXp_m rfl (fun h => by first | exact h.elim | omega) (fun h => by first | exact h.elim | omega))
  show zA l mX11_letter false 3 1 6 (zIs ((0 ≤ a ∧ a < w t 7) ∧ 0 ≤ k ∧ k < 6) (w (t + 4) (a * 6 + k)) (ZZ t dr tx) (w)) (zXp (¬ (0 ≤ a ∧ a < w t 7) ∨ ¬ (0 ≤ k ∧ k < 6)) (False) (ZZ t dr tx) w) 5 [zR 0, zI a, zI k] [] (ZZ t dr tx) w
  refine zA_iload_n dX11_letter_5 rfl ?_
  refine zA_bipush dX11_letter_6 rfl ?_
  refine zA_callS (bc2 := 0) (bs2 := 0) (st := []) dX11_letter_8 sX11_askWhat kX11_165 (s_askWhat (w := w) (c := k) (n := 6) (by first | assumption | exact hr _ _ | exact inR_mk (by omega) (by omega)) ⟨by decide, by decide⟩) (by decide) rfl rfl (Nat.le_of_ble_eq_true rfl) ⟨rfl, rfl⟩ (zRa_el (fun h_8 => ?_)) (zXp_m rfl (fun h => by first | exact h.elim | omega) (fun h => by first | exact h.elim | omega))
  show zA l mX11_letter false 3 0 0 (zIs ((0 ≤ a ∧ a < w t 7) ∧ 0 ≤ k ∧ k < 6) (w (t + 4) (a * 6 + k)) (ZZ t dr tx) (w)) (zXp (¬ (0 ≤ a ∧ a < w t 7) ∨ ¬ (0 ≤ k ∧ k < 6)) (False) (ZZ t dr tx) w) 11 [zR 0, zI a, zI k] [] (ZZ t dr tx) w
  refine zA_aload_n dX11_letter_11 rfl ?_
  refine zA_getR (n := t) dX11_letter_12 fX11_30 c0 rfl ?_
  refine zA_iload_n dX11_letter_15 rfl ?_
  refine zA_iload_n dX11_letter_16 rfl ?_
  refine zA_cV (st := []) dX11_letter_17 vX10_fact kX11_169 (s_fact (w := w) (a := a) (k := k) ht (by omega) (by omega) (by omega) (by omega)) (by decide) (cY0 ht) rfl rfl (Nat.le_of_ble_eq_true rfl) rfl (zRt_el ?_)
  show zA l mX11_letter false 3 0 0 (zIs ((0 ≤ a ∧ a < w t 7) ∧ 0 ≤ k ∧ k < 6) (w (t + 4) (a * 6 + k)) (ZZ t dr tx) (w)) (zXp (¬ (0 ≤ a ∧ a < w t 7) ∨ ¬ (0 ≤ k ∧ k < 6)) (False) (ZZ t dr tx) w) 20 [zR 0, zI a, zI k] [zI (w (t + 4) (a * 6 + k))] (ZZ t dr tx) w
  refine zA_iret dX11_letter_20 rfl ?_
  exact ⟨by omega, by first | rfl | (congr 2; first | rfl | omega), rfl, by first | rfl | (simp only [*]; done)⟩

set_option maxRecDepth 100000 in
set_option maxHeartbeats 4000000 in
theorem s_road {l : Launch} {t dr tx : Nat} {w : zW} (ht : t = 4 ∨ t = 10) {a c : Int} (hn : w t 5 ≤ 12) (ha : inR a) (hc : inR c) : zSp l mX11_road false 3 2 12 [zR 0, zI a, zI c] (ZZ t dr tx) w (zIs ((0 ≤ a ∧ a < w t 5) ∧ 0 ≤ c ∧ c < w t 5) (yTrav w t a c) (ZZ t dr tx) (w)) (zXp (¬ (0 ≤ a ∧ a < w t 5) ∨ ¬ (0 ≤ c ∧ c < w t 5)) (False) (ZZ t dr tx) w) := by
  refine zA_intro ⟨plainFor_of_name (by decide +kernel), Or.inl (by decide +kernel)⟩ rfl (Nat.le_of_ble_eq_true rfl) ?_
  refine zA_range (fun hr => ?_)
  show zA l mX11_road false 3 2 12 (zIs ((0 ≤ a ∧ a < w t 5) ∧ 0 ≤ c ∧ c < w t 5) (yTrav w t a c) (ZZ t dr tx) (w)) (zXp (¬ (0 ≤ a ∧ a < w t 5) ∨ ¬ (0 ≤ c ∧ c < w t 5)) (False) (ZZ t dr tx) w) 0 [zR 0, zI a, zI c] [] (ZZ t dr tx) w
  refine zA_aload_n dX11_road_0 rfl ?_
  refine zA_iload_n dX11_road_1 rfl ?_
  refine zA_callV (bc2 := 1) (bs2 := 6) (st := []) dX11_road_2 vX11_askChimney kX11_173 (s_askChimney (w := w) ht (c := a) (by first | assumption | exact hr _ _ | exact inR_mk (by omega) (by omega))) (by decide) rfl rfl (Nat.le_of_ble_eq_true rfl) c0 rfl ⟨rfl, rfl⟩ (zRa_el (fun h_2 => ?_)) (zXp_m rfl (fun h => by first | exact h.elim | omega) (fun h => by first | exact h.elim | omega))
  show zA l mX11_road false 3 1 6 (zIs ((0 ≤ a ∧ a < w t 5) ∧ 0 ≤ c ∧ c < w t 5) (yTrav w t a c) (ZZ t dr tx) (w)) (zXp (¬ (0 ≤ a ∧ a < w t 5) ∨ ¬ (0 ≤ c ∧ c < w t 5)) (False) (ZZ t dr tx) w) 5 [zR 0, zI a, zI c] [] (ZZ t dr tx) w
  refine zA_aload_n dX11_road_5 rfl ?_
  refine zA_iload_n dX11_road_6 rfl ?_
  refine zA_callV (bc2 := 0) (bs2 := 0) (st := []) dX11_road_7 vX11_askChimney kX11_173 (s_askChimney (w := w) ht (c := c) (by first | assumption | exact hr _ _ | exact inR_mk (by omega) (by omega))) (by decide) rfl rfl (Nat.le_of_ble_eq_true rfl) c0 rfl ⟨rfl, rfl⟩ (zRa_el (fun h_7 => ?_)) (zXp_m rfl (fun h => by first | exact h.elim | omega) (fun h => by first | exact h.elim | omega))
  show zA l mX11_road false 3 0 0 (zIs ((0 ≤ a ∧ a < w t 5) ∧ 0 ≤ c ∧ c < w t 5) (yTrav w t a c) (ZZ t dr tx) (w)) (zXp (¬ (0 ≤ a ∧ a < w t 5) ∨ ¬ (0 ≤ c ∧ c < w t 5)) (False) (ZZ t dr tx) w) 10 [zR 0, zI a, zI c] [] (ZZ t dr tx) w
  refine zA_aload_n dX11_road_10 rfl ?_
  refine zA_getR (n := t) dX11_road_11 fX11_30 c0 rfl ?_
  refine zA_iload_n dX11_road_14 rfl ?_
  refine zA_iload_n dX11_road_15 rfl ?_
  refine zA_cV (st := []) dX11_road_16 vX10_travel kX11_176 (s_travel (w := w) (a := a) (b := c) ht (by omega) (by omega) (by omega) (by omega)) (by decide) (cY0 ht) rfl rfl (Nat.le_of_ble_eq_true rfl) rfl (zRt_el ?_)
  show zA l mX11_road false 3 0 0 (zIs ((0 ≤ a ∧ a < w t 5) ∧ 0 ≤ c ∧ c < w t 5) (yTrav w t a c) (ZZ t dr tx) (w)) (zXp (¬ (0 ≤ a ∧ a < w t 5) ∨ ¬ (0 ≤ c ∧ c < w t 5)) (False) (ZZ t dr tx) w) 19 [zR 0, zI a, zI c] [zI (yTrav w t a c)] (ZZ t dr tx) w
  refine zA_iret dX11_road_19 rfl ?_
  exact ⟨by omega, by first | rfl | (congr 2; first | rfl | omega), rfl, by first | rfl | (simp only [*]; done)⟩

set_option maxRecDepth 100000 in
set_option maxHeartbeats 4000000 in
theorem s_addRope {l : Launch} {t dr tx : Nat} {w : zW} {m : Int} (hm : inR m) (h0 : 0 ≤ w 44 1) (h1 : w 44 1 ≤ 20) : zSp l mX0_addRope false 1 0 0 [zR 44, zI m] (ZZ t dr tx) w (zIs (True) (if w 44 1 < 20 then w 44 1 else -1) (ZZ t dr tx) (if w 44 1 < 20 then up (up w 45 (w 44 1) m) 44 1 (w 44 1 + 1) else w)) zNo := by
  refine zA_intro ⟨plainFor_of_name (by decide +kernel), Or.inl (by decide +kernel)⟩ rfl (Nat.le_of_ble_eq_true rfl) ?_
  refine zA_range (fun hr => ?_)
  show zA l mX0_addRope false 1 0 0 (zIs (True) (if w 44 1 < 20 then w 44 1 else -1) (ZZ t dr tx) (if w 44 1 < 20 then up (up w 45 (w 44 1) m) 44 1 (w 44 1 + 1) else w)) zNo 0 [zR 44, zI m] [] (ZZ t dr tx) w
  refine zA_aload_n dX0_addRope_0 rfl ?_
  refine zA_getI dX0_addRope_1 fX0_15 c44 rfl ?_
  refine zA_valI (w 44 1) rfl ?_
  refine zA_bipush dX0_addRope_4 rfl ?_
  refine zA_icmp_lt (tgt := 11) dX0_addRope_6 (by decide) (by first | assumption | exact hr _ _ | exact inR_mk (by omega) (by omega)) ⟨by decide, by decide⟩ (fun c6 => ?_) (fun c6 => ?_)
  · skip
    refine zA_aload_n dX0_addRope_11 rfl ?_
    refine zA_getR (n := 45) dX0_addRope_12 fX0_11 c44 rfl ?_
    refine zA_aload_n dX0_addRope_15 rfl ?_
    refine zA_getI dX0_addRope_16 fX0_15 c44 rfl ?_
    refine zA_valI (w 44 1) rfl ?_
    refine zA_iload_n dX0_addRope_19 rfl ?_
    refine zA_iastore dX0_addRope_20 (by first | assumption | exact hr _ _ | exact inR_mk (by omega) (by omega)) c45 (by first | assumption | omega) (by first | assumption | omega) (by decide) ?_
    refine zA_namew (fun w_1 hw_1 => ?_)
    refine zA_range (fun hr => ?_)
    replace hw_1 : w_1 = up w 45 (w 44 1) m := hw_1
    have e1 : w_1 44 1 = w 44 1 := by rw [hw_1]; exact up_cell _ _ _ _ (by decide)
    refine zA_aload_n dX0_addRope_21 rfl ?_
    refine zA_dup dX0_addRope_22 rfl ?_
    refine zA_getI dX0_addRope_23 fX0_15 c44 rfl ?_
    refine zA_valI (w_1 44 1) rfl ?_
    refine zA_iconst dX0_addRope_26 ?_
    refine zA_iadd dX0_addRope_27 ?_
    refine zA_putI dX0_addRope_28 fX0_15 c44 rfl (by first | assumption | exact hr _ _ | exact inR_mk (by omega) (by omega)) ⟨rfl, rfl⟩ ?_
    refine zA_namew (fun w_2 hw_2 => ?_)
    refine zA_range (fun hr => ?_)
    replace hw_2 : w_2 = up w_1 44 1 ((w_1 44 1) + 1) := hw_2
    refine zA_aload_n dX0_addRope_31 rfl ?_
    refine zA_getI dX0_addRope_32 fX0_15 c44 rfl ?_
    refine zA_valI (w_2 44 1) rfl ?_
    refine zA_iconst dX0_addRope_35 ?_
    refine zA_isub dX0_addRope_36 ?_
    refine zA_iret dX0_addRope_37 rfl ?_
    exact ⟨trivial, by rw [if_pos (by omega), hw_2]; congr 2; show up w_1 44 1 (w_1 44 1 + 1) 44 1 - 1 = _; rw [up_same, e1]; omega, rfl, by rw [if_pos (by omega), hw_2, hw_1]; show up (up w 45 (w 44 1) m) 44 1 (up w 45 (w 44 1) m 44 1 + 1) = _; rw [up_cell _ _ _ _ (by decide : (44 : Nat) ≠ 45)]⟩
  · skip
    refine zA_iconst dX0_addRope_9 ?_
    refine zA_iret dX0_addRope_10 rfl ?_
    exact ⟨trivial, by rw [if_neg (by omega)], rfl, by rw [if_neg (by omega)]⟩

set_option maxRecDepth 100000 in
set_option maxHeartbeats 4000000 in
theorem s_rope {l : Launch} {t dr tx : Nat} {w : zW} {m : Int} (hm : inR m) (h0 : 0 ≤ w 44 1) (h1 : w 44 1 ≤ 20) : zSp l mX11_rope false 3 0 0 [zR 0, zI m] (ZZ t dr tx) w (zIs (True) (if (1 ≤ m ∧ m ≤ 9999) ∧ w 44 1 < 20 then w 44 1 else -1) (ZZ t dr tx) (if (1 ≤ m ∧ m ≤ 9999) ∧ w 44 1 < 20 then up (up w 45 (w 44 1) m) 44 1 (w 44 1 + 1) else w)) zNo := by
  refine zA_intro ⟨plainFor_of_name (by decide +kernel), Or.inl (by decide +kernel)⟩ rfl (Nat.le_of_ble_eq_true rfl) ?_
  refine zA_range (fun hr => ?_)
  show zA l mX11_rope false 3 0 0 (zIs (True) (if (1 ≤ m ∧ m ≤ 9999) ∧ w 44 1 < 20 then w 44 1 else -1) (ZZ t dr tx) (if (1 ≤ m ∧ m ≤ 9999) ∧ w 44 1 < 20 then up (up w 45 (w 44 1) m) 44 1 (w 44 1 + 1) else w)) zNo 0 [zR 0, zI m] [] (ZZ t dr tx) w
  refine zA_iconst dX11_rope_0 ?_
  refine zA_iload_n dX11_rope_1 rfl ?_
  refine zA_sipush dX11_rope_2 rfl ?_
  refine zA_cS (st := []) dX11_rope_5 sX11_between kX11_213 (s_between (w := w) (a := 1) (b := m) (e := 9999) ⟨by decide, by decide⟩ (by first | assumption | exact hr _ _ | exact inR_mk (by omega) (by omega)) ⟨by decide, by decide⟩) (by decide) rfl rfl (Nat.le_of_ble_eq_true rfl) (zRt_el ?_)
  show zA l mX11_rope false 3 0 0 (zIs (True) (if (1 ≤ m ∧ m ≤ 9999) ∧ w 44 1 < 20 then w 44 1 else -1) (ZZ t dr tx) (if (1 ≤ m ∧ m ≤ 9999) ∧ w 44 1 < 20 then up (up w 45 (w 44 1) m) 44 1 (w 44 1 + 1) else w)) zNo 8 [zR 0, zI m] [zI (if 1 ≤ m ∧ m ≤ 9999 then 1 else 0)] (ZZ t dr tx) w
  refine zA_if_ne (tgt := 13) dX11_rope_8 (by decide) (inR_ite _) (fun c8 => ?_) (fun c8 => ?_)
  · skip
    replace c8 := zite_ne c8
    refine zA_aload_n dX11_rope_13 rfl ?_
    refine zA_getR (n := 44) dX11_rope_14 fX11_71 c0 rfl ?_
    refine zA_iload_n dX11_rope_17 rfl ?_
    refine zA_cV (st := []) dX11_rope_18 vX0_addRope kX11_326 (s_addRope (w := w) (m := m) hm h0 h1) (by decide) c44 rfl rfl (Nat.le_of_ble_eq_true rfl) rfl (fun q_1_v q_1_S q_1_w q_1 => ?_)
    obtain ⟨-, rfl, rfl, rfl⟩ := q_1
    refine zA_range (fun hr => ?_)
    show zA l mX11_rope false 3 0 0 (zIs (True) (if (1 ≤ m ∧ m ≤ 9999) ∧ w 44 1 < 20 then w 44 1 else -1) (ZZ t dr tx) (if (1 ≤ m ∧ m ≤ 9999) ∧ w 44 1 < 20 then up (up w 45 (w 44 1) m) 44 1 (w 44 1 + 1) else w)) zNo 21 [zR 0, zI m] [zI (if w 44 1 < 20 then w 44 1 else -1)] (ZZ t dr tx) (if w 44 1 < 20 then up (up w 45 (w 44 1) m) 44 1 (w 44 1 + 1) else w)
    refine zA_iret dX11_rope_21 rfl ?_
    by_cases hz : w 44 1 < 20
    · rw [if_pos hz, if_pos hz, if_pos ⟨by omega, hz⟩, if_pos ⟨by omega, hz⟩] ; exact ⟨trivial, rfl, rfl, rfl⟩
    · rw [if_neg hz, if_neg hz, if_neg (by omega), if_neg (by omega)] ; exact ⟨trivial, rfl, rfl, rfl⟩
  · skip
    replace c8 := zite_eq c8
    refine zA_iconst dX11_rope_11 ?_
    refine zA_iret dX11_rope_12 rfl ?_
    exact ⟨trivial, by rw [if_neg (by omega)], rfl, by rw [if_neg (by omega)]⟩

set_option maxRecDepth 100000 in
set_option maxHeartbeats 4000000 in
theorem s_life {l : Launch} {t dr tx : Nat} {w : zW} {o : Int} (ho : inR o) (h1 : w 44 1 ≤ 20) : zSp l mX11_life false 3 1 6 [zR 0, zI o] (ZZ t dr tx) w (zIs (0 ≤ o ∧ o < w 44 1) (w 45 o) (ZZ t dr tx) (w)) (zXp (¬ (0 ≤ o ∧ o < w 44 1)) (False) (ZZ t dr tx) w) := by
  refine zA_intro ⟨plainFor_of_name (by decide +kernel), Or.inl (by decide +kernel)⟩ rfl (Nat.le_of_ble_eq_true rfl) ?_
  refine zA_range (fun hr => ?_)
  show zA l mX11_life false 3 1 6 (zIs (0 ≤ o ∧ o < w 44 1) (w 45 o) (ZZ t dr tx) (w)) (zXp (¬ (0 ≤ o ∧ o < w 44 1)) (False) (ZZ t dr tx) w) 0 [zR 0, zI o] [] (ZZ t dr tx) w
  refine zA_iload_n dX11_life_0 rfl ?_
  refine zA_if_lt (tgt := 15) dX11_life_1 (by decide) (by first | assumption | exact hr _ _ | exact inR_mk (by omega) (by omega)) (fun c1 => ?_) (fun c1 => ?_)
  · skip
    refine zA_throw (sa := 1116) (zNSE_w dX11_life_15 dX11_life_18 ⟨dX11_life_19, dX11_life_22, dX11_life_25⟩) (List.mem_of_getElem? (i := 16) rfl) rfl rfl (Nat.le_of_ble_eq_true rfl) (by decide) ?_
    exact ⟨Or.inl ⟨rfl, by omega⟩, rfl, rfl⟩
  · skip
    refine zA_iload_n dX11_life_4 rfl ?_
    refine zA_aload_n dX11_life_5 rfl ?_
    refine zA_getR (n := 44) dX11_life_6 fX11_71 c0 rfl ?_
    refine zA_getI dX11_life_9 fX11_148 c44 rfl ?_
    refine zA_valI (w 44 1) rfl ?_
    refine zA_icmp_lt (tgt := 26) dX11_life_12 (by decide) (by first | assumption | exact hr _ _ | exact inR_mk (by omega) (by omega)) (by first | assumption | exact hr _ _ | exact inR_mk (by omega) (by omega)) (fun c12 => ?_) (fun c12 => ?_)
    · skip
      refine zA_aload_n dX11_life_26 rfl ?_
      refine zA_getR (n := 44) dX11_life_27 fX11_71 c0 rfl ?_
      refine zA_getR (n := 45) dX11_life_30 fX11_331 c44 rfl ?_
      refine zA_iload_n dX11_life_33 rfl ?_
      refine zA_iaload dX11_life_34 c45 (by first | assumption | omega) (by first | assumption | omega) (by decide) ?_
      refine zA_iret dX11_life_35 rfl ?_
      exact ⟨by omega, by first | rfl | (congr 2; first | rfl | omega), rfl, by first | rfl | (simp only [*]; done)⟩
    · skip
      refine zA_throw (sa := 1116) (zNSE_w dX11_life_15 dX11_life_18 ⟨dX11_life_19, dX11_life_22, dX11_life_25⟩) (List.mem_of_getElem? (i := 16) rfl) rfl rfl (Nat.le_of_ble_eq_true rfl) (by decide) ?_
      exact ⟨Or.inl ⟨rfl, by omega⟩, rfl, rfl⟩

set_option maxRecDepth 100000 in
set_option maxHeartbeats 4000000 in
theorem s_addNeed {l : Launch} {t dr tx : Nat} {w : zW} {m : Int} (hm : inR m) (h0 : 0 ≤ w 39 1) (h1 : w 39 1 ≤ 10) : zSp l mX2_addNeed false 1 0 0 [zR 39, zI m] (ZZ t dr tx) w (zIs (True) (if w 39 1 < 10 then w 39 1 + 1 else -1) (ZZ t dr tx) (if w 39 1 < 10 then up (up w 40 (w 39 1) m) 39 1 (w 39 1 + 1) else w)) zNo := by
  refine zA_intro ⟨plainFor_of_name (by decide +kernel), Or.inl (by decide +kernel)⟩ rfl (Nat.le_of_ble_eq_true rfl) ?_
  refine zA_range (fun hr => ?_)
  show zA l mX2_addNeed false 1 0 0 (zIs (True) (if w 39 1 < 10 then w 39 1 + 1 else -1) (ZZ t dr tx) (if w 39 1 < 10 then up (up w 40 (w 39 1) m) 39 1 (w 39 1 + 1) else w)) zNo 0 [zR 39, zI m] [] (ZZ t dr tx) w
  refine zA_aload_n dX2_addNeed_0 rfl ?_
  refine zA_getI dX2_addNeed_1 fX2_15 c39 rfl ?_
  refine zA_valI (w 39 1) rfl ?_
  refine zA_bipush dX2_addNeed_4 rfl ?_
  refine zA_icmp_lt (tgt := 11) dX2_addNeed_6 (by decide) (by first | assumption | exact hr _ _ | exact inR_mk (by omega) (by omega)) ⟨by decide, by decide⟩ (fun c6 => ?_) (fun c6 => ?_)
  · skip
    refine zA_aload_n dX2_addNeed_11 rfl ?_
    refine zA_getR (n := 40) dX2_addNeed_12 fX2_11 c39 rfl ?_
    refine zA_aload_n dX2_addNeed_15 rfl ?_
    refine zA_getI dX2_addNeed_16 fX2_15 c39 rfl ?_
    refine zA_valI (w 39 1) rfl ?_
    refine zA_iload_n dX2_addNeed_19 rfl ?_
    refine zA_iastore dX2_addNeed_20 (by first | assumption | exact hr _ _ | exact inR_mk (by omega) (by omega)) c40 (by first | assumption | omega) (by first | assumption | omega) (by decide) ?_
    refine zA_namew (fun w_1 hw_1 => ?_)
    refine zA_range (fun hr => ?_)
    replace hw_1 : w_1 = up w 40 (w 39 1) m := hw_1
    have e1 : w_1 39 1 = w 39 1 := by rw [hw_1]; exact up_cell _ _ _ _ (by decide)
    refine zA_aload_n dX2_addNeed_21 rfl ?_
    refine zA_dup dX2_addNeed_22 rfl ?_
    refine zA_getI dX2_addNeed_23 fX2_15 c39 rfl ?_
    refine zA_valI (w_1 39 1) rfl ?_
    refine zA_iconst dX2_addNeed_26 ?_
    refine zA_iadd dX2_addNeed_27 ?_
    refine zA_putI dX2_addNeed_28 fX2_15 c39 rfl (by first | assumption | exact hr _ _ | exact inR_mk (by omega) (by omega)) ⟨rfl, rfl⟩ ?_
    refine zA_namew (fun w_2 hw_2 => ?_)
    refine zA_range (fun hr => ?_)
    replace hw_2 : w_2 = up w_1 39 1 ((w_1 39 1) + 1) := hw_2
    refine zA_aload_n dX2_addNeed_31 rfl ?_
    refine zA_getI dX2_addNeed_32 fX2_15 c39 rfl ?_
    refine zA_valI (w_2 39 1) rfl ?_
    refine zA_iret dX2_addNeed_35 rfl ?_
    exact ⟨trivial, by rw [if_pos (by omega), hw_2]; congr 2; show up w_1 39 1 (w_1 39 1 + 1) 39 1 = _; rw [up_same, e1], rfl, by rw [if_pos (by omega), hw_2, hw_1]; show up (up w 40 (w 39 1) m) 39 1 (up w 40 (w 39 1) m 39 1 + 1) = _; rw [up_cell _ _ _ _ (by decide : (39 : Nat) ≠ 40)]⟩
  · skip
    refine zA_iconst dX2_addNeed_9 ?_
    refine zA_iret dX2_addNeed_10 rfl ?_
    exact ⟨trivial, by rw [if_neg (by omega)], rfl, by rw [if_neg (by omega)]⟩

set_option maxRecDepth 100000 in
set_option maxHeartbeats 4000000 in
theorem s_need {l : Launch} {t dr tx : Nat} {w : zW} {m : Int} (hm : inR m) (h0 : 0 ≤ w 39 1) (h1 : w 39 1 ≤ 10) : zSp l mX11_need false 3 0 0 [zR 0, zI m] (ZZ t dr tx) w (zIs (True) (if (1 ≤ m ∧ m ≤ 9999) ∧ w 39 1 < 10 then w 39 1 + 1 else -1) (ZZ t dr tx) (if (1 ≤ m ∧ m ≤ 9999) ∧ w 39 1 < 10 then up (up w 40 (w 39 1) m) 39 1 (w 39 1 + 1) else w)) zNo := by
  refine zA_intro ⟨plainFor_of_name (by decide +kernel), Or.inl (by decide +kernel)⟩ rfl (Nat.le_of_ble_eq_true rfl) ?_
  refine zA_range (fun hr => ?_)
  show zA l mX11_need false 3 0 0 (zIs (True) (if (1 ≤ m ∧ m ≤ 9999) ∧ w 39 1 < 10 then w 39 1 + 1 else -1) (ZZ t dr tx) (if (1 ≤ m ∧ m ≤ 9999) ∧ w 39 1 < 10 then up (up w 40 (w 39 1) m) 39 1 (w 39 1 + 1) else w)) zNo 0 [zR 0, zI m] [] (ZZ t dr tx) w
  refine zA_iconst dX11_need_0 ?_
  refine zA_iload_n dX11_need_1 rfl ?_
  refine zA_sipush dX11_need_2 rfl ?_
  refine zA_cS (st := []) dX11_need_5 sX11_between kX11_213 (s_between (w := w) (a := 1) (b := m) (e := 9999) ⟨by decide, by decide⟩ (by first | assumption | exact hr _ _ | exact inR_mk (by omega) (by omega)) ⟨by decide, by decide⟩) (by decide) rfl rfl (Nat.le_of_ble_eq_true rfl) (zRt_el ?_)
  show zA l mX11_need false 3 0 0 (zIs (True) (if (1 ≤ m ∧ m ≤ 9999) ∧ w 39 1 < 10 then w 39 1 + 1 else -1) (ZZ t dr tx) (if (1 ≤ m ∧ m ≤ 9999) ∧ w 39 1 < 10 then up (up w 40 (w 39 1) m) 39 1 (w 39 1 + 1) else w)) zNo 8 [zR 0, zI m] [zI (if 1 ≤ m ∧ m ≤ 9999 then 1 else 0)] (ZZ t dr tx) w
  refine zA_if_ne (tgt := 13) dX11_need_8 (by decide) (inR_ite _) (fun c8 => ?_) (fun c8 => ?_)
  · skip
    replace c8 := zite_ne c8
    refine zA_aload_n dX11_need_13 rfl ?_
    refine zA_getR (n := 39) dX11_need_14 fX11_64 c0 rfl ?_
    refine zA_iload_n dX11_need_17 rfl ?_
    refine zA_cV (st := []) dX11_need_18 vX2_addNeed kX11_334 (s_addNeed (w := w) (m := m) hm h0 h1) (by decide) c39 rfl rfl (Nat.le_of_ble_eq_true rfl) rfl (fun q_1_v q_1_S q_1_w q_1 => ?_)
    obtain ⟨-, rfl, rfl, rfl⟩ := q_1
    refine zA_range (fun hr => ?_)
    show zA l mX11_need false 3 0 0 (zIs (True) (if (1 ≤ m ∧ m ≤ 9999) ∧ w 39 1 < 10 then w 39 1 + 1 else -1) (ZZ t dr tx) (if (1 ≤ m ∧ m ≤ 9999) ∧ w 39 1 < 10 then up (up w 40 (w 39 1) m) 39 1 (w 39 1 + 1) else w)) zNo 21 [zR 0, zI m] [zI (if w 39 1 < 10 then w 39 1 + 1 else -1)] (ZZ t dr tx) (if w 39 1 < 10 then up (up w 40 (w 39 1) m) 39 1 (w 39 1 + 1) else w)
    refine zA_iret dX11_need_21 rfl ?_
    by_cases hz : w 39 1 < 10
    · rw [if_pos hz, if_pos hz, if_pos ⟨by omega, hz⟩, if_pos ⟨by omega, hz⟩] ; exact ⟨trivial, rfl, rfl, rfl⟩
    · rw [if_neg hz, if_neg hz, if_neg (by omega), if_neg (by omega)] ; exact ⟨trivial, rfl, rfl, rfl⟩
  · skip
    replace c8 := zite_eq c8
    refine zA_iconst dX11_need_11 ?_
    refine zA_iret dX11_need_12 rfl ?_
    exact ⟨trivial, by rw [if_neg (by omega)], rfl, by rw [if_neg (by omega)]⟩

set_option maxRecDepth 100000 in
set_option maxHeartbeats 4000000 in
theorem s_rule {l : Launch} {t dr tx : Nat} {w : zW} {m : Int} (hm : inR m) : zSp l mX11_rule false 3 0 0 [zR 0, zI m] (ZZ t dr tx) w (zBs (True) (0 ≤ m ∧ m ≤ 13) (ZZ t dr tx) w (up w 44 4 m)) zNo := by
  refine zA_intro ⟨plainFor_of_name (by decide +kernel), Or.inl (by decide +kernel)⟩ rfl (Nat.le_of_ble_eq_true rfl) ?_
  refine zA_range (fun hr => ?_)
  show zA l mX11_rule false 3 0 0 (zBs (True) (0 ≤ m ∧ m ≤ 13) (ZZ t dr tx) w (up w 44 4 m)) zNo 0 [zR 0, zI m] [] (ZZ t dr tx) w
  refine zA_iconst dX11_rule_0 ?_
  refine zA_iload_n dX11_rule_1 rfl ?_
  refine zA_bipush dX11_rule_2 rfl ?_
  refine zA_cS (st := []) dX11_rule_4 sX11_between kX11_213 (s_between (w := w) (a := 0) (b := m) (e := 13) ⟨by decide, by decide⟩ (by first | assumption | exact hr _ _ | exact inR_mk (by omega) (by omega)) ⟨by decide, by decide⟩) (by decide) rfl rfl (Nat.le_of_ble_eq_true rfl) (zRt_el ?_)
  show zA l mX11_rule false 3 0 0 (zBs (True) (0 ≤ m ∧ m ≤ 13) (ZZ t dr tx) w (up w 44 4 m)) zNo 7 [zR 0, zI m] [zI (if 0 ≤ m ∧ m ≤ 13 then 1 else 0)] (ZZ t dr tx) w
  refine zA_if_ne (tgt := 12) dX11_rule_7 (by decide) (inR_ite _) (fun c7 => ?_) (fun c7 => ?_)
  · skip
    replace c7 := zite_ne c7
    refine zA_aload_n dX11_rule_12 rfl ?_
    refine zA_getR (n := 44) dX11_rule_13 fX11_71 c0 rfl ?_
    refine zA_iload_n dX11_rule_16 rfl ?_
    refine zA_putI dX11_rule_17 fX11_154 c44 rfl (by first | assumption | exact hr _ _ | exact inR_mk (by omega) (by omega)) ⟨rfl, rfl⟩ ?_
    refine zA_namew (fun w_1 hw_1 => ?_)
    refine zA_range (fun hr => ?_)
    replace hw_1 : w_1 = up w 44 4 m := hw_1
    refine zA_iconst dX11_rule_20 ?_
    refine zA_zret dX11_rule_21 rfl (Or.inr rfl) ?_
    exact ⟨rfl, trivial, by first | exact Or.inl ⟨by omega, rfl, by first | rfl | (simp only [*]; done)⟩ | exact Or.inr ⟨by omega, rfl, rfl⟩⟩
  · skip
    replace c7 := zite_eq c7
    refine zA_iconst dX11_rule_10 ?_
    refine zA_zret dX11_rule_11 rfl (Or.inl rfl) ?_
    exact ⟨rfl, trivial, by first | exact Or.inl ⟨by omega, rfl, by first | rfl | (simp only [*]; done)⟩ | exact Or.inr ⟨by omega, rfl, rfl⟩⟩

set_option maxRecDepth 100000 in
set_option maxHeartbeats 4000000 in
theorem s_climbs {l : Launch} {t dr tx : Nat} {w : zW} {k : Int} (hk : inR k) : zSp l mX11_climbs false 3 1 6 [zR 0, zI k] (ZZ t dr tx) w (zIs (0 ≤ k ∧ k < 7) (w 47 k) (ZZ t dr tx) (w)) (zXp (¬ (0 ≤ k ∧ k < 7)) (False) (ZZ t dr tx) w) := by
  refine zA_intro ⟨plainFor_of_name (by decide +kernel), Or.inl (by decide +kernel)⟩ rfl (Nat.le_of_ble_eq_true rfl) ?_
  refine zA_range (fun hr => ?_)
  show zA l mX11_climbs false 3 1 6 (zIs (0 ≤ k ∧ k < 7) (w 47 k) (ZZ t dr tx) (w)) (zXp (¬ (0 ≤ k ∧ k < 7)) (False) (ZZ t dr tx) w) 0 [zR 0, zI k] [] (ZZ t dr tx) w
  refine zA_iload_n dX11_climbs_0 rfl ?_
  refine zA_bipush dX11_climbs_1 rfl ?_
  refine zA_callS (bc2 := 0) (bs2 := 0) (st := []) dX11_climbs_3 sX11_askWhat kX11_165 (s_askWhat (w := w) (c := k) (n := 7) (by first | assumption | exact hr _ _ | exact inR_mk (by omega) (by omega)) ⟨by decide, by decide⟩) (by decide) rfl rfl (Nat.le_of_ble_eq_true rfl) ⟨rfl, rfl⟩ (zRa_el (fun h_3 => ?_)) (zXp_m rfl (fun h => by first | exact h.elim | omega) (fun h => by first | exact h.elim | omega))
  show zA l mX11_climbs false 3 0 0 (zIs (0 ≤ k ∧ k < 7) (w 47 k) (ZZ t dr tx) (w)) (zXp (¬ (0 ≤ k ∧ k < 7)) (False) (ZZ t dr tx) w) 6 [zR 0, zI k] [] (ZZ t dr tx) w
  refine zA_aload_n dX11_climbs_6 rfl ?_
  refine zA_getR (n := 44) dX11_climbs_7 fX11_71 c0 rfl ?_
  refine zA_getR (n := 47) dX11_climbs_10 fX11_343 c44 rfl ?_
  refine zA_iload_n dX11_climbs_13 rfl ?_
  refine zA_iaload dX11_climbs_14 c47 (by first | assumption | omega) (by first | assumption | omega) (by decide) ?_
  refine zA_iret dX11_climbs_15 rfl ?_
  exact ⟨by omega, by first | rfl | (congr 2; first | rfl | omega), rfl, by first | rfl | (simp only [*]; done)⟩

set_option maxRecDepth 100000 in
set_option maxHeartbeats 4000000 in
theorem s_up {l : Launch} {t dr tx : Nat} {w : zW} (ht : t = 4 ∨ t = 10) (hn : w t 5 ≤ 12) {c k : Int} (hc : inR c) (hk : inR k) : zSp l mX11_up false 3 2 12 [zR 0, zI c, zI k] (ZZ t dr tx) w (zIs ((0 ≤ c ∧ c < w t 5) ∧ (0 ≤ k ∧ k ≤ 29)) (w 46 (c * 30 + k)) (ZZ t dr tx) (w)) (zXp (¬ (0 ≤ c ∧ c < w t 5) ∨ ¬ (0 ≤ k ∧ k ≤ 29)) (False) (ZZ t dr tx) w) := by
  refine zA_intro ⟨plainFor_of_name (by decide +kernel), Or.inl (by decide +kernel)⟩ rfl (Nat.le_of_ble_eq_true rfl) ?_
  refine zA_range (fun hr => ?_)
  show zA l mX11_up false 3 2 12 (zIs ((0 ≤ c ∧ c < w t 5) ∧ (0 ≤ k ∧ k ≤ 29)) (w 46 (c * 30 + k)) (ZZ t dr tx) (w)) (zXp (¬ (0 ≤ c ∧ c < w t 5) ∨ ¬ (0 ≤ k ∧ k ≤ 29)) (False) (ZZ t dr tx) w) 0 [zR 0, zI c, zI k] [] (ZZ t dr tx) w
  refine zA_aload_n dX11_up_0 rfl ?_
  refine zA_iload_n dX11_up_1 rfl ?_
  refine zA_callV (bc2 := 1) (bs2 := 6) (st := []) dX11_up_2 vX11_askChimney kX11_173 (s_askChimney (w := w) ht (c := c) (by first | assumption | exact hr _ _ | exact inR_mk (by omega) (by omega))) (by decide) rfl rfl (Nat.le_of_ble_eq_true rfl) c0 rfl ⟨rfl, rfl⟩ (zRa_el (fun h_2 => ?_)) (zXp_m rfl (fun h => by first | exact h.elim | omega) (fun h => by first | exact h.elim | omega))
  show zA l mX11_up false 3 1 6 (zIs ((0 ≤ c ∧ c < w t 5) ∧ (0 ≤ k ∧ k ≤ 29)) (w 46 (c * 30 + k)) (ZZ t dr tx) (w)) (zXp (¬ (0 ≤ c ∧ c < w t 5) ∨ ¬ (0 ≤ k ∧ k ≤ 29)) (False) (ZZ t dr tx) w) 5 [zR 0, zI c, zI k] [] (ZZ t dr tx) w
  refine zA_iconst dX11_up_5 ?_
  refine zA_iload_n dX11_up_6 rfl ?_
  refine zA_bipush dX11_up_7 rfl ?_
  refine zA_cS (st := []) dX11_up_9 sX11_between kX11_213 (s_between (w := w) (a := 0) (b := k) (e := 29) ⟨by decide, by decide⟩ (by first | assumption | exact hr _ _ | exact inR_mk (by omega) (by omega)) ⟨by decide, by decide⟩) (by decide) rfl rfl (Nat.le_of_ble_eq_true rfl) (zRt_el ?_)
  show zA l mX11_up false 3 1 6 (zIs ((0 ≤ c ∧ c < w t 5) ∧ (0 ≤ k ∧ k ≤ 29)) (w 46 (c * 30 + k)) (ZZ t dr tx) (w)) (zXp (¬ (0 ≤ c ∧ c < w t 5) ∨ ¬ (0 ≤ k ∧ k ≤ 29)) (False) (ZZ t dr tx) w) 12 [zR 0, zI c, zI k] [zI (if 0 ≤ k ∧ k ≤ 29 then 1 else 0)] (ZZ t dr tx) w
  refine zA_if_ne (tgt := 26) dX11_up_12 (by decide) (inR_ite _) (fun c12 => ?_) (fun c12 => ?_)
  · skip
    replace c12 := zite_ne c12
    refine zA_aload_n dX11_up_26 rfl ?_
    refine zA_getR (n := 44) dX11_up_27 fX11_71 c0 rfl ?_
    refine zA_getR (n := 46) dX11_up_30 fX11_367 c44 rfl ?_
    refine zA_iload_n dX11_up_33 rfl ?_
    refine zA_bipush dX11_up_34 rfl ?_
    refine zA_imul dX11_up_36 ?_
    refine zA_iload_n dX11_up_37 rfl ?_
    refine zA_iadd dX11_up_38 ?_
    refine zA_iaload dX11_up_39 c46 (by first | assumption | omega) (by first | assumption | omega) (by decide) ?_
    refine zA_iret dX11_up_40 rfl ?_
    exact ⟨by omega, by first | rfl | (congr 2; first | rfl | omega), rfl, by first | rfl | (simp only [*]; done)⟩
  · skip
    replace c12 := zite_eq c12
    refine zA_throw (sa := 1117) (zNSE_w dX11_up_15 dX11_up_18 ⟨dX11_up_19, dX11_up_22, dX11_up_25⟩) (List.mem_of_getElem? (i := 17) rfl) rfl rfl (Nat.le_of_ble_eq_true rfl) (by decide) ?_
    exact ⟨Or.inl ⟨rfl, by omega⟩, rfl, rfl⟩

set_option maxRecDepth 100000 in
set_option maxHeartbeats 4000000 in
theorem s_mortar {l : Launch} {t dr tx : Nat} {w : zW} (ht : t = 4 ∨ t = 10) (hn : w t 5 ≤ 12) {c m : Int} (hc : inR c) (hm : inR m) : zSp l mX11_mortar false 3 1 6 [zR 0, zI c, zI m] (ZZ t dr tx) w (zBs (0 ≤ c ∧ c < w t 5) (0 ≤ m ∧ m ≤ 9999) (ZZ t dr tx) w (up w 60 c m)) (zXp (¬ (0 ≤ c ∧ c < w t 5)) (False) (ZZ t dr tx) w) := by
  refine zA_intro ⟨plainFor_of_name (by decide +kernel), Or.inl (by decide +kernel)⟩ rfl (Nat.le_of_ble_eq_true rfl) ?_
  refine zA_range (fun hr => ?_)
  show zA l mX11_mortar false 3 1 6 (zBs (0 ≤ c ∧ c < w t 5) (0 ≤ m ∧ m ≤ 9999) (ZZ t dr tx) w (up w 60 c m)) (zXp (¬ (0 ≤ c ∧ c < w t 5)) (False) (ZZ t dr tx) w) 0 [zR 0, zI c, zI m] [] (ZZ t dr tx) w
  refine zA_aload_n dX11_mortar_0 rfl ?_
  refine zA_iload_n dX11_mortar_1 rfl ?_
  refine zA_callV (bc2 := 0) (bs2 := 0) (st := []) dX11_mortar_2 vX11_askChimney kX11_173 (s_askChimney (w := w) ht (c := c) (by first | assumption | exact hr _ _ | exact inR_mk (by omega) (by omega))) (by decide) rfl rfl (Nat.le_of_ble_eq_true rfl) c0 rfl ⟨rfl, rfl⟩ (zRa_el (fun h_2 => ?_)) (zXp_m rfl (fun h => by first | exact h.elim | omega) (fun h => by first | exact h.elim | omega))
  show zA l mX11_mortar false 3 0 0 (zBs (0 ≤ c ∧ c < w t 5) (0 ≤ m ∧ m ≤ 9999) (ZZ t dr tx) w (up w 60 c m)) (zXp (¬ (0 ≤ c ∧ c < w t 5)) (False) (ZZ t dr tx) w) 5 [zR 0, zI c, zI m] [] (ZZ t dr tx) w
  refine zA_iconst dX11_mortar_5 ?_
  refine zA_iload_n dX11_mortar_6 rfl ?_
  refine zA_sipush dX11_mortar_7 rfl ?_
  refine zA_cS (st := []) dX11_mortar_10 sX11_between kX11_213 (s_between (w := w) (a := 0) (b := m) (e := 9999) ⟨by decide, by decide⟩ (by first | assumption | exact hr _ _ | exact inR_mk (by omega) (by omega)) ⟨by decide, by decide⟩) (by decide) rfl rfl (Nat.le_of_ble_eq_true rfl) (zRt_el ?_)
  show zA l mX11_mortar false 3 0 0 (zBs (0 ≤ c ∧ c < w t 5) (0 ≤ m ∧ m ≤ 9999) (ZZ t dr tx) w (up w 60 c m)) (zXp (¬ (0 ≤ c ∧ c < w t 5)) (False) (ZZ t dr tx) w) 13 [zR 0, zI c, zI m] [zI (if 0 ≤ m ∧ m ≤ 9999 then 1 else 0)] (ZZ t dr tx) w
  refine zA_if_ne (tgt := 18) dX11_mortar_13 (by decide) (inR_ite _) (fun c13 => ?_) (fun c13 => ?_)
  · skip
    replace c13 := zite_ne c13
    refine zA_aload_n dX11_mortar_18 rfl ?_
    refine zA_getR (n := 54) dX11_mortar_19 fX11_85 c0 rfl ?_
    refine zA_getR (n := 60) dX11_mortar_22 fX11_379 c54 rfl ?_
    refine zA_iload_n dX11_mortar_25 rfl ?_
    refine zA_iload_n dX11_mortar_26 rfl ?_
    refine zA_iastore dX11_mortar_27 (by first | assumption | exact hr _ _ | exact inR_mk (by omega) (by omega)) c60 (by first | assumption | omega) (by first | assumption | omega) (by decide) ?_
    refine zA_namew (fun w_1 hw_1 => ?_)
    refine zA_range (fun hr => ?_)
    replace hw_1 : w_1 = up w 60 c m := hw_1
    refine zA_iconst dX11_mortar_28 ?_
    refine zA_zret dX11_mortar_29 rfl (Or.inr rfl) ?_
    exact ⟨rfl, by omega, by first | exact Or.inl ⟨by omega, rfl, by first | rfl | (simp only [*]; done)⟩ | exact Or.inr ⟨by omega, rfl, rfl⟩⟩
  · skip
    replace c13 := zite_eq c13
    refine zA_iconst dX11_mortar_16 ?_
    refine zA_zret dX11_mortar_17 rfl (Or.inl rfl) ?_
    exact ⟨rfl, by omega, by first | exact Or.inl ⟨by omega, rfl, by first | rfl | (simp only [*]; done)⟩ | exact Or.inr ⟨by omega, rfl, rfl⟩⟩

set_option maxRecDepth 100000 in
set_option maxHeartbeats 4000000 in
theorem s_doubt {l : Launch} {t dr tx : Nat} {w : zW} (ht : t = 4 ∨ t = 10) (hn : w t 5 ≤ 12) {c m : Int} (hc : inR c) (hm : inR m) : zSp l mX11_doubt false 3 1 6 [zR 0, zI c, zI m] (ZZ t dr tx) w (zBs (0 ≤ c ∧ c < w t 5) (0 ≤ m ∧ m ≤ 500) (ZZ t dr tx) w (up w 33 c m)) (zXp (¬ (0 ≤ c ∧ c < w t 5)) (False) (ZZ t dr tx) w) := by
  refine zA_intro ⟨plainFor_of_name (by decide +kernel), Or.inl (by decide +kernel)⟩ rfl (Nat.le_of_ble_eq_true rfl) ?_
  refine zA_range (fun hr => ?_)
  show zA l mX11_doubt false 3 1 6 (zBs (0 ≤ c ∧ c < w t 5) (0 ≤ m ∧ m ≤ 500) (ZZ t dr tx) w (up w 33 c m)) (zXp (¬ (0 ≤ c ∧ c < w t 5)) (False) (ZZ t dr tx) w) 0 [zR 0, zI c, zI m] [] (ZZ t dr tx) w
  refine zA_aload_n dX11_doubt_0 rfl ?_
  refine zA_iload_n dX11_doubt_1 rfl ?_
  refine zA_callV (bc2 := 0) (bs2 := 0) (st := []) dX11_doubt_2 vX11_askChimney kX11_173 (s_askChimney (w := w) ht (c := c) (by first | assumption | exact hr _ _ | exact inR_mk (by omega) (by omega))) (by decide) rfl rfl (Nat.le_of_ble_eq_true rfl) c0 rfl ⟨rfl, rfl⟩ (zRa_el (fun h_2 => ?_)) (zXp_m rfl (fun h => by first | exact h.elim | omega) (fun h => by first | exact h.elim | omega))
  show zA l mX11_doubt false 3 0 0 (zBs (0 ≤ c ∧ c < w t 5) (0 ≤ m ∧ m ≤ 500) (ZZ t dr tx) w (up w 33 c m)) (zXp (¬ (0 ≤ c ∧ c < w t 5)) (False) (ZZ t dr tx) w) 5 [zR 0, zI c, zI m] [] (ZZ t dr tx) w
  refine zA_iconst dX11_doubt_5 ?_
  refine zA_iload_n dX11_doubt_6 rfl ?_
  refine zA_sipush dX11_doubt_7 rfl ?_
  refine zA_cS (st := []) dX11_doubt_10 sX11_between kX11_213 (s_between (w := w) (a := 0) (b := m) (e := 500) ⟨by decide, by decide⟩ (by first | assumption | exact hr _ _ | exact inR_mk (by omega) (by omega)) ⟨by decide, by decide⟩) (by decide) rfl rfl (Nat.le_of_ble_eq_true rfl) (zRt_el ?_)
  show zA l mX11_doubt false 3 0 0 (zBs (0 ≤ c ∧ c < w t 5) (0 ≤ m ∧ m ≤ 500) (ZZ t dr tx) w (up w 33 c m)) (zXp (¬ (0 ≤ c ∧ c < w t 5)) (False) (ZZ t dr tx) w) 13 [zR 0, zI c, zI m] [zI (if 0 ≤ m ∧ m ≤ 500 then 1 else 0)] (ZZ t dr tx) w
  refine zA_if_ne (tgt := 18) dX11_doubt_13 (by decide) (inR_ite _) (fun c13 => ?_) (fun c13 => ?_)
  · skip
    replace c13 := zite_ne c13
    refine zA_aload_n dX11_doubt_18 rfl ?_
    refine zA_getR (n := 29) dX11_doubt_19 fX11_50 c0 rfl ?_
    refine zA_getR (n := 33) dX11_doubt_22 fX11_243 c29 rfl ?_
    refine zA_iload_n dX11_doubt_25 rfl ?_
    refine zA_iload_n dX11_doubt_26 rfl ?_
    refine zA_iastore dX11_doubt_27 (by first | assumption | exact hr _ _ | exact inR_mk (by omega) (by omega)) c33 (by first | assumption | omega) (by first | assumption | omega) (by decide) ?_
    refine zA_namew (fun w_1 hw_1 => ?_)
    refine zA_range (fun hr => ?_)
    replace hw_1 : w_1 = up w 33 c m := hw_1
    refine zA_iconst dX11_doubt_28 ?_
    refine zA_zret dX11_doubt_29 rfl (Or.inr rfl) ?_
    exact ⟨rfl, by omega, by first | exact Or.inl ⟨by omega, rfl, by first | rfl | (simp only [*]; done)⟩ | exact Or.inr ⟨by omega, rfl, rfl⟩⟩
  · skip
    replace c13 := zite_eq c13
    refine zA_iconst dX11_doubt_16 ?_
    refine zA_zret dX11_doubt_17 rfl (Or.inl rfl) ?_
    exact ⟨rfl, by omega, by first | exact Or.inl ⟨by omega, rfl, by first | rfl | (simp only [*]; done)⟩ | exact Or.inr ⟨by omega, rfl, rfl⟩⟩

set_option maxRecDepth 100000 in
set_option maxHeartbeats 4000000 in
theorem s_risk {l : Launch} {t dr tx : Nat} {w : zW} (ht : t = 4 ∨ t = 10) (hn : w t 5 ≤ 12) {c m k : Int} (hc : inR c) (hm : inR m) (hk : inR k) : zSp l mX11_risk false 3 1 6 [zR 0, zI c, zI m, zI k] (ZZ t dr tx) w (zBs (0 ≤ c ∧ c < w t 5) ((0 ≤ m ∧ m ≤ 999) ∧ (1 ≤ k ∧ k ≤ 99)) (ZZ t dr tx) w (up (up w 63 c m) 64 c k)) (zXp (¬ (0 ≤ c ∧ c < w t 5)) (False) (ZZ t dr tx) w) := by
  refine zA_intro ⟨plainFor_of_name (by decide +kernel), Or.inl (by decide +kernel)⟩ rfl (Nat.le_of_ble_eq_true rfl) ?_
  refine zA_range (fun hr => ?_)
  show zA l mX11_risk false 3 1 6 (zBs (0 ≤ c ∧ c < w t 5) ((0 ≤ m ∧ m ≤ 999) ∧ (1 ≤ k ∧ k ≤ 99)) (ZZ t dr tx) w (up (up w 63 c m) 64 c k)) (zXp (¬ (0 ≤ c ∧ c < w t 5)) (False) (ZZ t dr tx) w) 0 [zR 0, zI c, zI m, zI k] [] (ZZ t dr tx) w
  refine zA_aload_n dX11_risk_0 rfl ?_
  refine zA_iload_n dX11_risk_1 rfl ?_
  refine zA_callV (bc2 := 0) (bs2 := 0) (st := []) dX11_risk_2 vX11_askChimney kX11_173 (s_askChimney (w := w) ht (c := c) (by first | assumption | exact hr _ _ | exact inR_mk (by omega) (by omega))) (by decide) rfl rfl (Nat.le_of_ble_eq_true rfl) c0 rfl ⟨rfl, rfl⟩ (zRa_el (fun h_2 => ?_)) (zXp_m rfl (fun h => by first | exact h.elim | omega) (fun h => by first | exact h.elim | omega))
  show zA l mX11_risk false 3 0 0 (zBs (0 ≤ c ∧ c < w t 5) ((0 ≤ m ∧ m ≤ 999) ∧ (1 ≤ k ∧ k ≤ 99)) (ZZ t dr tx) w (up (up w 63 c m) 64 c k)) (zXp (¬ (0 ≤ c ∧ c < w t 5)) (False) (ZZ t dr tx) w) 5 [zR 0, zI c, zI m, zI k] [] (ZZ t dr tx) w
  refine zA_iconst dX11_risk_5 ?_
  refine zA_iload_n dX11_risk_6 rfl ?_
  refine zA_sipush dX11_risk_7 rfl ?_
  refine zA_cS (st := []) dX11_risk_10 sX11_between kX11_213 (s_between (w := w) (a := 0) (b := m) (e := 999) ⟨by decide, by decide⟩ (by first | assumption | exact hr _ _ | exact inR_mk (by omega) (by omega)) ⟨by decide, by decide⟩) (by decide) rfl rfl (Nat.le_of_ble_eq_true rfl) (zRt_el ?_)
  show zA l mX11_risk false 3 0 0 (zBs (0 ≤ c ∧ c < w t 5) ((0 ≤ m ∧ m ≤ 999) ∧ (1 ≤ k ∧ k ≤ 99)) (ZZ t dr tx) w (up (up w 63 c m) 64 c k)) (zXp (¬ (0 ≤ c ∧ c < w t 5)) (False) (ZZ t dr tx) w) 13 [zR 0, zI c, zI m, zI k] [zI (if 0 ≤ m ∧ m ≤ 999 then 1 else 0)] (ZZ t dr tx) w
  refine zA_if_eq (tgt := 26) dX11_risk_13 (by decide) (inR_ite _) (fun c13 => ?_) (fun c13 => ?_)
  · skip
    replace c13 := zite_eq c13
    refine zA_iconst dX11_risk_26 ?_
    refine zA_zret dX11_risk_27 rfl (Or.inl rfl) ?_
    exact ⟨rfl, by omega, by first | exact Or.inl ⟨by omega, rfl, by first | rfl | (simp only [*]; done)⟩ | exact Or.inr ⟨by omega, rfl, rfl⟩⟩
  · skip
    replace c13 := zite_ne c13
    refine zA_iconst dX11_risk_16 ?_
    refine zA_iload_n dX11_risk_17 rfl ?_
    refine zA_bipush dX11_risk_18 rfl ?_
    refine zA_cS (st := []) dX11_risk_20 sX11_between kX11_213 (s_between (w := w) (a := 1) (b := k) (e := 99) ⟨by decide, by decide⟩ (by first | assumption | exact hr _ _ | exact inR_mk (by omega) (by omega)) ⟨by decide, by decide⟩) (by decide) rfl rfl (Nat.le_of_ble_eq_true rfl) (zRt_el ?_)
    show zA l mX11_risk false 3 0 0 (zBs (0 ≤ c ∧ c < w t 5) ((0 ≤ m ∧ m ≤ 999) ∧ (1 ≤ k ∧ k ≤ 99)) (ZZ t dr tx) w (up (up w 63 c m) 64 c k)) (zXp (¬ (0 ≤ c ∧ c < w t 5)) (False) (ZZ t dr tx) w) 23 [zR 0, zI c, zI m, zI k] [zI (if 1 ≤ k ∧ k ≤ 99 then 1 else 0)] (ZZ t dr tx) w
    refine zA_if_ne (tgt := 28) dX11_risk_23 (by decide) (inR_ite _) (fun c23 => ?_) (fun c23 => ?_)
    · skip
      replace c23 := zite_ne c23
      refine zA_aload_n dX11_risk_28 rfl ?_
      refine zA_getR (n := 62) dX11_risk_29 fX11_92 c0 rfl ?_
      refine zA_getR (n := 63) dX11_risk_32 fX11_405 c62 rfl ?_
      refine zA_iload_n dX11_risk_35 rfl ?_
      refine zA_iload_n dX11_risk_36 rfl ?_
      refine zA_iastore dX11_risk_37 (by first | assumption | exact hr _ _ | exact inR_mk (by omega) (by omega)) c63 (by first | assumption | omega) (by first | assumption | omega) (by decide) ?_
      refine zA_namew (fun w_1 hw_1 => ?_)
      refine zA_range (fun hr => ?_)
      replace hw_1 : w_1 = up w 63 c m := hw_1
      refine zA_aload_n dX11_risk_38 rfl ?_
      refine zA_getR (n := 62) dX11_risk_39 fX11_92 c0 rfl ?_
      refine zA_getR (n := 64) dX11_risk_42 fX11_408 c62 rfl ?_
      refine zA_iload_n dX11_risk_45 rfl ?_
      refine zA_iload_n dX11_risk_46 rfl ?_
      refine zA_iastore dX11_risk_47 (by first | assumption | exact hr _ _ | exact inR_mk (by omega) (by omega)) c64 (by first | assumption | omega) (by first | assumption | omega) (by decide) ?_
      refine zA_namew (fun w_2 hw_2 => ?_)
      refine zA_range (fun hr => ?_)
      replace hw_2 : w_2 = up w_1 64 c k := hw_2
      refine zA_iconst dX11_risk_48 ?_
      refine zA_zret dX11_risk_49 rfl (Or.inr rfl) ?_
      exact ⟨rfl, by omega, by first | exact Or.inl ⟨by omega, rfl, by first | rfl | (simp only [*]; done)⟩ | exact Or.inr ⟨by omega, rfl, rfl⟩⟩
    · skip
      replace c23 := zite_eq c23
      refine zA_iconst dX11_risk_26 ?_
      refine zA_zret dX11_risk_27 rfl (Or.inl rfl) ?_
      exact ⟨rfl, by omega, by first | exact Or.inl ⟨by omega, rfl, by first | rfl | (simp only [*]; done)⟩ | exact Or.inr ⟨by omega, rfl, rfl⟩⟩

set_option maxRecDepth 100000 in
set_option maxHeartbeats 4000000 in
theorem s_ordered {l : Launch} {t dr tx : Nat} {w : zW} {o : Int} (ho : inR o) (h1 : w 62 3 ≤ 9) : zSp l mX11_ordered false 3 1 6 [zR 0, zI o] (ZZ t dr tx) w (zIs (0 ≤ o ∧ o < w 62 3) (w 65 o) (ZZ t dr tx) (w)) (zXp (¬ (0 ≤ o ∧ o < w 62 3)) (False) (ZZ t dr tx) w) := by
  refine zA_intro ⟨plainFor_of_name (by decide +kernel), Or.inl (by decide +kernel)⟩ rfl (Nat.le_of_ble_eq_true rfl) ?_
  refine zA_range (fun hr => ?_)
  show zA l mX11_ordered false 3 1 6 (zIs (0 ≤ o ∧ o < w 62 3) (w 65 o) (ZZ t dr tx) (w)) (zXp (¬ (0 ≤ o ∧ o < w 62 3)) (False) (ZZ t dr tx) w) 0 [zR 0, zI o] [] (ZZ t dr tx) w
  refine zA_iload_n dX11_ordered_0 rfl ?_
  refine zA_if_lt (tgt := 15) dX11_ordered_1 (by decide) (by first | assumption | exact hr _ _ | exact inR_mk (by omega) (by omega)) (fun c1 => ?_) (fun c1 => ?_)
  · skip
    refine zA_throw (sa := 1120) (zNSE_w dX11_ordered_15 dX11_ordered_18 ⟨dX11_ordered_19, dX11_ordered_22, dX11_ordered_25⟩) (List.mem_of_getElem? (i := 20) rfl) rfl rfl (Nat.le_of_ble_eq_true rfl) (by decide) ?_
    exact ⟨Or.inl ⟨rfl, by omega⟩, rfl, rfl⟩
  · skip
    refine zA_iload_n dX11_ordered_4 rfl ?_
    refine zA_aload_n dX11_ordered_5 rfl ?_
    refine zA_getR (n := 62) dX11_ordered_6 fX11_92 c0 rfl ?_
    refine zA_getI dX11_ordered_9 fX11_418 c62 rfl ?_
    refine zA_valI (w 62 3) rfl ?_
    refine zA_icmp_lt (tgt := 26) dX11_ordered_12 (by decide) (by first | assumption | exact hr _ _ | exact inR_mk (by omega) (by omega)) (by first | assumption | exact hr _ _ | exact inR_mk (by omega) (by omega)) (fun c12 => ?_) (fun c12 => ?_)
    · skip
      refine zA_aload_n dX11_ordered_26 rfl ?_
      refine zA_getR (n := 62) dX11_ordered_27 fX11_92 c0 rfl ?_
      refine zA_getR (n := 65) dX11_ordered_30 fX11_421 c62 rfl ?_
      refine zA_iload_n dX11_ordered_33 rfl ?_
      refine zA_iaload dX11_ordered_34 c65 (by first | assumption | omega) (by first | assumption | omega) (by decide) ?_
      refine zA_iret dX11_ordered_35 rfl ?_
      exact ⟨by omega, by first | rfl | (congr 2; first | rfl | omega), rfl, by first | rfl | (simp only [*]; done)⟩
    · skip
      refine zA_throw (sa := 1120) (zNSE_w dX11_ordered_15 dX11_ordered_18 ⟨dX11_ordered_19, dX11_ordered_22, dX11_ordered_25⟩) (List.mem_of_getElem? (i := 20) rfl) rfl rfl (Nat.le_of_ble_eq_true rfl) (by decide) ?_
      exact ⟨Or.inl ⟨rfl, by omega⟩, rfl, rfl⟩

set_option maxRecDepth 100000 in
set_option maxHeartbeats 4000000 in
theorem s_addLean {l : Launch} {t dr tx : Nat} {w : zW} {c y m : Int} (h0 : 0 ≤ c) (h1 : c < 12) (hy : inR y) (hm : inR m) (hn0 : 0 ≤ w 32 c) (hn : w 32 c ≤ 10) : zSp l mX7_add false 1 0 0 [zR 29, zI c, zI y, zI m] (ZZ t dr tx) w (zBs (True) (w 32 c < 10) (ZZ t dr tx) w (up (up (up w 30 (c * 10 + w 32 c) y) 31 (c * 10 + w 32 c) m) 32 c (w 32 c + 1))) zNo := by
  refine zA_intro ⟨plainFor_of_name (by decide +kernel), Or.inl (by decide +kernel)⟩ rfl (Nat.le_of_ble_eq_true rfl) ?_
  refine zA_range (fun hr => ?_)
  show zA l mX7_add false 1 0 0 (zBs (True) (w 32 c < 10) (ZZ t dr tx) w (up (up (up w 30 (c * 10 + w 32 c) y) 31 (c * 10 + w 32 c) m) 32 c (w 32 c + 1))) zNo 0 [zR 29, zI c, zI y, zI m, .null] [] (ZZ t dr tx) w
  refine zA_aload_n dX7_add_0 rfl ?_
  refine zA_getR (n := 32) dX7_add_1 fX7_18 c29 rfl ?_
  refine zA_iload_n dX7_add_4 rfl ?_
  refine zA_iaload dX7_add_5 c32 (by first | assumption | omega) (by first | assumption | omega) (by decide) ?_
  refine zA_bipush dX7_add_6 rfl ?_
  refine zA_icmp_lt (tgt := 13) dX7_add_8 (by decide) (by first | assumption | exact hr _ _ | exact inR_mk (by omega) (by omega)) ⟨by decide, by decide⟩ (fun c8 => ?_) (fun c8 => ?_)
  · skip
    refine zA_iload_n dX7_add_13 rfl ?_
    refine zA_bipush dX7_add_14 rfl ?_
    refine zA_imul dX7_add_16 ?_
    refine zA_aload_n dX7_add_17 rfl ?_
    refine zA_getR (n := 32) dX7_add_18 fX7_18 c29 rfl ?_
    refine zA_iload_n dX7_add_21 rfl ?_
    refine zA_iaload dX7_add_22 c32 (by first | assumption | omega) (by first | assumption | omega) (by decide) ?_
    refine zA_iadd dX7_add_23 ?_
    refine zA_istore (lo1 := [zR 29, zI c, zI y, zI m, zI ((c * 10) + (w 32 c))]) dX7_add_24 (by decide) rfl rfl ?_
    refine zA_aload_n dX7_add_26 rfl ?_
    refine zA_getR (n := 30) dX7_add_27 fX7_11 c29 rfl ?_
    refine zA_iload dX7_add_30 rfl ?_
    refine zA_iload_n dX7_add_32 rfl ?_
    refine zA_iastore dX7_add_33 (by first | assumption | exact hr _ _ | exact inR_mk (by omega) (by omega)) c30 (by first | assumption | omega) (by first | assumption | omega) (by decide) ?_
    refine zA_namew (fun w_1 hw_1 => ?_)
    refine zA_range (fun hr => ?_)
    replace hw_1 : w_1 = up w 30 ((c * 10) + (w 32 c)) y := hw_1
    refine zA_aload_n dX7_add_34 rfl ?_
    refine zA_getR (n := 31) dX7_add_35 fX7_15 c29 rfl ?_
    refine zA_iload dX7_add_38 rfl ?_
    refine zA_iload_n dX7_add_40 rfl ?_
    refine zA_iastore dX7_add_41 (by first | assumption | exact hr _ _ | exact inR_mk (by omega) (by omega)) c31 (by first | assumption | omega) (by first | assumption | omega) (by decide) ?_
    refine zA_namew (fun w_2 hw_2 => ?_)
    refine zA_range (fun hr => ?_)
    replace hw_2 : w_2 = up w_1 31 ((c * 10) + (w 32 c)) m := hw_2
    have e2 : w_2 32 c = w 32 c := by rw [hw_2, up_cell _ _ _ _ (by decide : (32 : Nat) ≠ 31), hw_1, up_cell _ _ _ _ (by decide : (32 : Nat) ≠ 30)]
    refine zA_aload_n dX7_add_42 rfl ?_
    refine zA_getR (n := 32) dX7_add_43 fX7_18 c29 rfl ?_
    refine zA_iload_n dX7_add_46 rfl ?_
    refine zA_dup2 dX7_add_47 rfl rfl ?_
    refine zA_iaload dX7_add_48 c32 (by first | assumption | omega) (by first | assumption | omega) (by decide) ?_
    refine zA_iconst dX7_add_49 ?_
    refine zA_iadd dX7_add_50 ?_
    refine zA_iastore dX7_add_51 (by first | assumption | exact hr _ _ | exact inR_mk (by omega) (by omega)) c32 (by first | assumption | omega) (by first | assumption | omega) (by decide) ?_
    refine zA_namew (fun w_3 hw_3 => ?_)
    refine zA_range (fun hr => ?_)
    replace hw_3 : w_3 = up w_2 32 c ((w_2 32 c) + 1) := hw_3
    refine zA_iconst dX7_add_52 ?_
    refine zA_zret dX7_add_53 rfl (Or.inr rfl) ?_
    exact ⟨rfl, trivial, Or.inl ⟨by omega, rfl, by rw [hw_3, hw_2, hw_1, up_cell _ _ _ _ (by decide : (32 : Nat) ≠ 31), up_cell _ _ _ _ (by decide : (32 : Nat) ≠ 30)]⟩⟩
  · skip
    refine zA_iconst dX7_add_11 ?_
    refine zA_zret dX7_add_12 rfl (Or.inl rfl) ?_
    exact ⟨rfl, trivial, Or.inr ⟨by omega, rfl, rfl⟩⟩

set_option maxRecDepth 100000 in
set_option maxHeartbeats 4000000 in
theorem s_plumb {l : Launch} {t dr tx : Nat} {w : zW} (ht : t = 4 ∨ t = 10) (hn : w t 5 ≤ 12) {c y m : Int} (hc : inR c) (hy : inR y) (hm : inR m) (hw : ∀ c : Int, 0 ≤ c → c < 12 → 0 ≤ w 32 c ∧ w 32 c ≤ 10) : zSp l mX11_plumb false 3 1 6 [zR 0, zI c, zI y, zI m] (ZZ t dr tx) w (zBs (0 ≤ c ∧ c < w t 5) (((0 ≤ y ∧ y ≤ 300) ∧ (-3000 ≤ m ∧ m ≤ 3000)) ∧ w 32 c < 10) (ZZ t dr tx) w (up (up (up w 30 (c * 10 + w 32 c) y) 31 (c * 10 + w 32 c) m) 32 c (w 32 c + 1))) (zXp (¬ (0 ≤ c ∧ c < w t 5)) (False) (ZZ t dr tx) w) := by
  refine zA_intro ⟨plainFor_of_name (by decide +kernel), Or.inl (by decide +kernel)⟩ rfl (Nat.le_of_ble_eq_true rfl) ?_
  refine zA_range (fun hr => ?_)
  show zA l mX11_plumb false 3 1 6 (zBs (0 ≤ c ∧ c < w t 5) (((0 ≤ y ∧ y ≤ 300) ∧ (-3000 ≤ m ∧ m ≤ 3000)) ∧ w 32 c < 10) (ZZ t dr tx) w (up (up (up w 30 (c * 10 + w 32 c) y) 31 (c * 10 + w 32 c) m) 32 c (w 32 c + 1))) (zXp (¬ (0 ≤ c ∧ c < w t 5)) (False) (ZZ t dr tx) w) 0 [zR 0, zI c, zI y, zI m] [] (ZZ t dr tx) w
  refine zA_aload_n dX11_plumb_0 rfl ?_
  refine zA_iload_n dX11_plumb_1 rfl ?_
  refine zA_callV (bc2 := 0) (bs2 := 0) (st := []) dX11_plumb_2 vX11_askChimney kX11_173 (s_askChimney (w := w) ht (c := c) (by first | assumption | exact hr _ _ | exact inR_mk (by omega) (by omega))) (by decide) rfl rfl (Nat.le_of_ble_eq_true rfl) c0 rfl ⟨rfl, rfl⟩ (zRa_el (fun h_2 => ?_)) (zXp_m rfl (fun h => by first | exact h.elim | omega) (fun h => by first | exact h.elim | omega))
  show zA l mX11_plumb false 3 0 0 (zBs (0 ≤ c ∧ c < w t 5) (((0 ≤ y ∧ y ≤ 300) ∧ (-3000 ≤ m ∧ m ≤ 3000)) ∧ w 32 c < 10) (ZZ t dr tx) w (up (up (up w 30 (c * 10 + w 32 c) y) 31 (c * 10 + w 32 c) m) 32 c (w 32 c + 1))) (zXp (¬ (0 ≤ c ∧ c < w t 5)) (False) (ZZ t dr tx) w) 5 [zR 0, zI c, zI y, zI m] [] (ZZ t dr tx) w
  refine zA_iconst dX11_plumb_5 ?_
  refine zA_iload_n dX11_plumb_6 rfl ?_
  refine zA_sipush dX11_plumb_7 rfl ?_
  refine zA_cS (st := []) dX11_plumb_10 sX11_between kX11_213 (s_between (w := w) (a := 0) (b := y) (e := 300) ⟨by decide, by decide⟩ (by first | assumption | exact hr _ _ | exact inR_mk (by omega) (by omega)) ⟨by decide, by decide⟩) (by decide) rfl rfl (Nat.le_of_ble_eq_true rfl) (zRt_el ?_)
  show zA l mX11_plumb false 3 0 0 (zBs (0 ≤ c ∧ c < w t 5) (((0 ≤ y ∧ y ≤ 300) ∧ (-3000 ≤ m ∧ m ≤ 3000)) ∧ w 32 c < 10) (ZZ t dr tx) w (up (up (up w 30 (c * 10 + w 32 c) y) 31 (c * 10 + w 32 c) m) 32 c (w 32 c + 1))) (zXp (¬ (0 ≤ c ∧ c < w t 5)) (False) (ZZ t dr tx) w) 13 [zR 0, zI c, zI y, zI m] [zI (if 0 ≤ y ∧ y ≤ 300 then 1 else 0)] (ZZ t dr tx) w
  refine zA_if_eq (tgt := 29) dX11_plumb_13 (by decide) (inR_ite _) (fun c13 => ?_) (fun c13 => ?_)
  · skip
    replace c13 := zite_eq c13
    refine zA_iconst dX11_plumb_29 ?_
    refine zA_zret dX11_plumb_30 rfl (Or.inl rfl) ?_
    exact ⟨rfl, by omega, Or.inr ⟨by omega, rfl, rfl⟩⟩
  · skip
    replace c13 := zite_ne c13
    refine zA_sipush dX11_plumb_16 rfl ?_
    refine zA_iload_n dX11_plumb_19 rfl ?_
    refine zA_sipush dX11_plumb_20 rfl ?_
    refine zA_cS (st := []) dX11_plumb_23 sX11_between kX11_213 (s_between (w := w) (a := (-3000)) (b := m) (e := 3000) ⟨by decide, by decide⟩ (by first | assumption | exact hr _ _ | exact inR_mk (by omega) (by omega)) ⟨by decide, by decide⟩) (by decide) rfl rfl (Nat.le_of_ble_eq_true rfl) (zRt_el ?_)
    show zA l mX11_plumb false 3 0 0 (zBs (0 ≤ c ∧ c < w t 5) (((0 ≤ y ∧ y ≤ 300) ∧ (-3000 ≤ m ∧ m ≤ 3000)) ∧ w 32 c < 10) (ZZ t dr tx) w (up (up (up w 30 (c * 10 + w 32 c) y) 31 (c * 10 + w 32 c) m) 32 c (w 32 c + 1))) (zXp (¬ (0 ≤ c ∧ c < w t 5)) (False) (ZZ t dr tx) w) 26 [zR 0, zI c, zI y, zI m] [zI (if (-3000) ≤ m ∧ m ≤ 3000 then 1 else 0)] (ZZ t dr tx) w
    refine zA_if_ne (tgt := 31) dX11_plumb_26 (by decide) (inR_ite _) (fun c26 => ?_) (fun c26 => ?_)
    · skip
      replace c26 := zite_ne c26
      refine zA_aload_n dX11_plumb_31 rfl ?_
      refine zA_getR (n := 29) dX11_plumb_32 fX11_50 c0 rfl ?_
      refine zA_iload_n dX11_plumb_35 rfl ?_
      refine zA_iload_n dX11_plumb_36 rfl ?_
      refine zA_iload_n dX11_plumb_37 rfl ?_
      refine zA_cV (st := []) dX11_plumb_38 vX7_add kX11_240 (s_addLean (w := w) (c := c) (y := y) (m := m) (by omega) (by omega) hy hm (hw c (by omega) (by omega)).1 (hw c (by omega) (by omega)).2) (by decide) c29 rfl rfl (Nat.le_of_ble_eq_true rfl) rfl (fun q_1_v q_1_S q_1_w q_1 => ?_)
      obtain ⟨rfl, -, hz⟩ := q_1
      obtain ⟨zv, hv, hzv, hz1⟩ : ∃ zv : Int, q_1_v = some (zI zv) ∧ (zv = 0 ∨ zv = 1) ∧ ((w 32 c < 10 ∧ zv = 1 ∧ q_1_w = up (up (up w 30 (c * 10 + w 32 c) y) 31 (c * 10 + w 32 c) m) 32 c (w 32 c + 1)) ∨ (¬ (w 32 c < 10) ∧ zv = 0 ∧ q_1_w = w)) := by
        rcases hz with ⟨a, b, c⟩ | ⟨a, b, c⟩
        · exact ⟨1, b, Or.inr rfl, Or.inl ⟨a, rfl, c⟩⟩
        · exact ⟨0, b, Or.inl rfl, Or.inr ⟨a, rfl, c⟩⟩
      subst hv
      refine zA_range (fun hr => ?_)
      show zA l mX11_plumb false 3 0 0 (zBs (0 ≤ c ∧ c < w t 5) (((0 ≤ y ∧ y ≤ 300) ∧ (-3000 ≤ m ∧ m ≤ 3000)) ∧ w 32 c < 10) (ZZ t dr tx) w (up (up (up w 30 (c * 10 + w 32 c) y) 31 (c * 10 + w 32 c) m) 32 c (w 32 c + 1))) (zXp (¬ (0 ≤ c ∧ c < w t 5)) (False) (ZZ t dr tx) w) 41 [zR 0, zI c, zI y, zI m] [zI zv] (ZZ t dr tx) q_1_w
      refine zA_zret dX11_plumb_41 rfl (by exact hzv) ?_
      refine ⟨rfl, by omega, ?_⟩
      rcases hz1 with ⟨a, b, c⟩ | ⟨a, b, c⟩
      · exact Or.inl ⟨by omega, by rw [b], c⟩
      · exact Or.inr ⟨by omega, by rw [b], c⟩
    · skip
      replace c26 := zite_eq c26
      refine zA_iconst dX11_plumb_29 ?_
      refine zA_zret dX11_plumb_30 rfl (Or.inl rfl) ?_
      exact ⟨rfl, by omega, Or.inr ⟨by omega, rfl, rfl⟩⟩

