/-! bands: the public methods -/
theorem cBears_b {w : zW} {c s y : Int} (hI : okIron w) (h0 : 0 ≤ c) (h1 : c < 12) (hm : (0 ≤ w 59 c ∧ w 59 c ≤ 8) ∧ (0 ≤ w 60 c ∧ w 60 c ≤ 9999)) : 0 ≤ cBears w c s y ∧ cBears w c s y ≤ 100000 := by
  have := zsum_b (f := cBand w c s y) (B := 9999) (w 59 c).toNat (fun k hk => cBand_b hI h0 h1 (by omega))
  unfold cBears
  omega
theorem cWant_f {w w' : zW} {c n y v : Int} (h : ∀ s, 0 ≤ s → s < n → w' 61 s = cBears w c s y) : ∀ s : Int, 0 ≤ s → s < n → cWant w' n v s = cWf w c n y v s := fun s a b => by unfold cWant cWf; rw [h s a b]
theorem cBears_fr {w w' : zW} (h : only 61 w w') (c s y : Int) : cBears w' c s y = cBears w c s y := by
  unfold cBears
  rw [h 60 c (by decide), h 59 c (by decide)]
  congr 1
  exact zsum_c _ (fun k _ => by unfold cBand; rw [h 55 _ (by decide), iHeld_fr h])
set_option maxRecDepth 100000 in
set_option maxHeartbeats 4000000 in
theorem s_weak {l : Launch} {t dr tx : Nat} {w : zW} (ht : t = 4 ∨ t = 10) (hn : w t 5 ≤ 12) (hI : okIron w) (hm : ∀ c : Int, 0 ≤ c → c < 12 → (0 ≤ w 59 c ∧ w 59 c ≤ 8) ∧ (0 ≤ w 60 c ∧ w 60 c ≤ 9999)) (hcc : ∀ c : Int, 0 ≤ c → c < w t 5 → 1 ≤ w (t + 1) c ∧ w (t + 1) c ≤ 200) {c y v k : Int} (hc : inR c) (hy : inR y) (hv : inR v) (hk : inR k) : zSp l mX11_weak false 4 3 18 [zR 0, zI c, zI y, zI v, zI k] (ZZ t dr tx) w (fun v' S' w' => ((0 ≤ c ∧ c < w t 5) ∧ (0 ≤ k ∧ k < 3) ∧ (0 ≤ y ∧ y ≤ 500) ∧ (0 ≤ v ∧ v ≤ 13)) ∧ S' = (ZZ t dr tx) ∧ only 61 w w' ∧ ∃ r, v' = some (zI r) ∧ wkR k (cWf w c (w (t + 1) c) y v) (w (t + 1) c) r) (zXp (¬ (0 ≤ c ∧ c < w t 5) ∨ ¬ (0 ≤ k ∧ k < 3)) (((0 ≤ c ∧ c < w t 5) ∧ (0 ≤ k ∧ k < 3)) ∧ ¬ ((0 ≤ y ∧ y ≤ 500) ∧ (0 ≤ v ∧ v ≤ 13))) (ZZ t dr tx) w) := by
  refine zA_intro ⟨plainFor_of_name (by decide +kernel), Or.inl (by decide +kernel)⟩ rfl (Nat.le_of_ble_eq_true rfl) ?_
  refine zA_range (fun hr => ?_)
  show zA l mX11_weak false 4 3 18 (fun v' S' w' => ((0 ≤ c ∧ c < w t 5) ∧ (0 ≤ k ∧ k < 3) ∧ (0 ≤ y ∧ y ≤ 500) ∧ (0 ≤ v ∧ v ≤ 13)) ∧ S' = (ZZ t dr tx) ∧ only 61 w w' ∧ ∃ r, v' = some (zI r) ∧ wkR k (cWf w c (w (t + 1) c) y v) (w (t + 1) c) r) (zXp (¬ (0 ≤ c ∧ c < w t 5) ∨ ¬ (0 ≤ k ∧ k < 3)) (((0 ≤ c ∧ c < w t 5) ∧ (0 ≤ k ∧ k < 3)) ∧ ¬ ((0 ≤ y ∧ y ≤ 500) ∧ (0 ≤ v ∧ v ≤ 13))) (ZZ t dr tx) w) 0 [zR 0, zI c, zI y, zI v, zI k, .null] [] (ZZ t dr tx) w
  refine zA_aload_n dX11_weak_0 rfl ?_
  refine zA_iload_n dX11_weak_1 rfl ?_
  refine zA_callV (bc2 := 2) (bs2 := 12) (st := []) dX11_weak_2 vX11_askChimney kX11_173 (s_askChimney (w := w) ht (c := c) (by first | assumption | exact hr _ _ | exact inR_mk (by omega) (by omega))) (by decide) rfl rfl (Nat.le_of_ble_eq_true rfl) c0 rfl ⟨rfl, rfl⟩ (zRa_el (fun h_2 => ?_)) (zXp_m rfl (fun h => by first | exact h.elim | omega) (fun h => by first | exact h.elim | omega))
  show zA l mX11_weak false 4 2 12 (fun v' S' w' => ((0 ≤ c ∧ c < w t 5) ∧ (0 ≤ k ∧ k < 3) ∧ (0 ≤ y ∧ y ≤ 500) ∧ (0 ≤ v ∧ v ≤ 13)) ∧ S' = (ZZ t dr tx) ∧ only 61 w w' ∧ ∃ r, v' = some (zI r) ∧ wkR k (cWf w c (w (t + 1) c) y v) (w (t + 1) c) r) (zXp (¬ (0 ≤ c ∧ c < w t 5) ∨ ¬ (0 ≤ k ∧ k < 3)) (((0 ≤ c ∧ c < w t 5) ∧ (0 ≤ k ∧ k < 3)) ∧ ¬ ((0 ≤ y ∧ y ≤ 500) ∧ (0 ≤ v ∧ v ≤ 13))) (ZZ t dr tx) w) 5 [zR 0, zI c, zI y, zI v, zI k, .null] [] (ZZ t dr tx) w
  refine zA_iload dX11_weak_5 rfl ?_
  refine zA_iconst dX11_weak_7 ?_
  refine zA_callS (bc2 := 1) (bs2 := 6) (st := []) dX11_weak_8 sX11_askWhat kX11_165 (s_askWhat (w := w) (c := k) (n := 3) (by first | assumption | exact hr _ _ | exact inR_mk (by omega) (by omega)) ⟨by decide, by decide⟩) (by decide) rfl rfl (Nat.le_of_ble_eq_true rfl) ⟨rfl, rfl⟩ (zRa_el (fun h_8 => ?_)) (zXp_m rfl (fun h => by first | exact h.elim | omega) (fun h => by first | exact h.elim | omega))
  show zA l mX11_weak false 4 1 6 (fun v' S' w' => ((0 ≤ c ∧ c < w t 5) ∧ (0 ≤ k ∧ k < 3) ∧ (0 ≤ y ∧ y ≤ 500) ∧ (0 ≤ v ∧ v ≤ 13)) ∧ S' = (ZZ t dr tx) ∧ only 61 w w' ∧ ∃ r, v' = some (zI r) ∧ wkR k (cWf w c (w (t + 1) c) y v) (w (t + 1) c) r) (zXp (¬ (0 ≤ c ∧ c < w t 5) ∨ ¬ (0 ≤ k ∧ k < 3)) (((0 ≤ c ∧ c < w t 5) ∧ (0 ≤ k ∧ k < 3)) ∧ ¬ ((0 ≤ y ∧ y ≤ 500) ∧ (0 ≤ v ∧ v ≤ 13))) (ZZ t dr tx) w) 11 [zR 0, zI c, zI y, zI v, zI k, .null] [] (ZZ t dr tx) w
  refine zA_iload_n dX11_weak_11 rfl ?_
  refine zA_iload_n dX11_weak_12 rfl ?_
  refine zA_callS (bc2 := 0) (bs2 := 0) (st := []) dX11_weak_13 sX11_askYearAndWind kX11_382 (s_askYearAndWind (w := w) (y := y) (v := v) (by first | assumption | exact hr _ _ | exact inR_mk (by omega) (by omega)) (by first | assumption | exact hr _ _ | exact inR_mk (by omega) (by omega))) (by decide) rfl rfl (Nat.le_of_ble_eq_true rfl) ⟨rfl, rfl⟩ (zRa_el (fun h_13 => ?_)) (zXp_m rfl (fun h => by first | exact h.elim | omega) (fun h => by first | exact h.elim | omega))
  show zA l mX11_weak false 4 0 0 (fun v' S' w' => ((0 ≤ c ∧ c < w t 5) ∧ (0 ≤ k ∧ k < 3) ∧ (0 ≤ y ∧ y ≤ 500) ∧ (0 ≤ v ∧ v ≤ 13)) ∧ S' = (ZZ t dr tx) ∧ only 61 w w' ∧ ∃ r, v' = some (zI r) ∧ wkR k (cWf w c (w (t + 1) c) y v) (w (t + 1) c) r) (zXp (¬ (0 ≤ c ∧ c < w t 5) ∨ ¬ (0 ≤ k ∧ k < 3)) (((0 ≤ c ∧ c < w t 5) ∧ (0 ≤ k ∧ k < 3)) ∧ ¬ ((0 ≤ y ∧ y ≤ 500) ∧ (0 ≤ v ∧ v ≤ 13))) (ZZ t dr tx) w) 16 [zR 0, zI c, zI y, zI v, zI k, .null] [] (ZZ t dr tx) w
  have hcb := hcc c (by omega) (by omega)
  refine zA_aload_n dX11_weak_16 rfl ?_
  refine zA_getR (n := t) dX11_weak_17 fX11_30 c0 rfl ?_
  refine zA_getR (n := (t + 1)) dX11_weak_20 fX11_346 (cY0 ht) rfl ?_
  refine zA_iload_n dX11_weak_23 rfl ?_
  refine zA_iaload dX11_weak_24 (cY1 ht) (by first | assumption | omega) (by first | assumption | omega) (by decide) ?_
  refine zA_istore (lo1 := [zR 0, zI c, zI y, zI v, zI k, zI (w (t + 1) c)]) dX11_weak_25 (by decide) rfl rfl ?_
  refine zA_aload_n dX11_weak_27 rfl ?_
  refine zA_getR (n := 54) dX11_weak_28 fX11_85 c0 rfl ?_
  refine zA_iload_n dX11_weak_31 rfl ?_
  refine zA_iload_n dX11_weak_32 rfl ?_
  refine zA_iload dX11_weak_33 rfl ?_
  refine zA_cV (st := []) dX11_weak_35 vX3_fillBears kX11_385 (s_fillBears (w := w) (c := c) (y := y) (n := (w (t + 1) c)) hI (by omega) (by omega) (by omega) (by omega) (by omega) (by omega) (hm c (by omega) (by omega)).1.1 (hm c (by omega) (by omega)).1.2 (hm c (by omega) (by omega)).2.1 (hm c (by omega) (by omega)).2.2) (by decide) c54 rfl rfl (Nat.le_of_ble_eq_true rfl) rfl (fun q_1_v q_1_S q_1_w q_1 => ?_)
  obtain ⟨rfl, rfl, hfa, hba⟩ := q_1
  obtain ⟨wa, hwa⟩ : ∃ wa, wa = q_1_w := ⟨_, rfl⟩
  rw [← hwa] at hfa hba ⊢
  have hbb : ∀ s, 0 ≤ s → s < (w (t + 1) c) → 0 ≤ wa 61 s ∧ wa 61 s ≤ 100000000 := fun s a b => by
    rw [hba s a b]
    have := cBears_b (s := s) (y := y) hI (show 0 ≤ c by omega) (by omega) (hm c (by omega) (by omega))
    omega
  refine zA_range (fun hr => ?_)
  show zA l mX11_weak false 4 0 0 (fun v' S' w' => ((0 ≤ c ∧ c < w t 5) ∧ (0 ≤ k ∧ k < 3) ∧ (0 ≤ y ∧ y ≤ 500) ∧ (0 ≤ v ∧ v ≤ 13)) ∧ S' = (ZZ t dr tx) ∧ only 61 w w' ∧ ∃ r, v' = some (zI r) ∧ wkR k (cWf w c (w (t + 1) c) y v) (w (t + 1) c) r) (zXp (¬ (0 ≤ c ∧ c < w t 5) ∨ ¬ (0 ≤ k ∧ k < 3)) (((0 ≤ c ∧ c < w t 5) ∧ (0 ≤ k ∧ k < 3)) ∧ ¬ ((0 ≤ y ∧ y ≤ 500) ∧ (0 ≤ v ∧ v ≤ 13))) (ZZ t dr tx) w) 38 [zR 0, zI c, zI y, zI v, zI k, zI (w (t + 1) c)] [] (ZZ t dr tx) wa
  refine zA_iload dX11_weak_38 rfl ?_
  refine zA_if_ne (tgt := 54) dX11_weak_40 (by decide) (by first | assumption | exact hr _ _ | exact inR_mk (by omega) (by omega)) (fun c40 => ?_) (fun c40 => ?_)
  · skip
    refine zA_iload dX11_weak_54 rfl ?_
    refine zA_iconst dX11_weak_56 ?_
    refine zA_icmp_ne (tgt := 73) dX11_weak_57 (by decide) (by first | assumption | exact hr _ _ | exact inR_mk (by omega) (by omega)) ⟨by decide, by decide⟩ (fun c57 => ?_) (fun c57 => ?_)
    · skip
      refine zA_aload_n dX11_weak_73 rfl ?_
      refine zA_getR (n := 54) dX11_weak_74 fX11_85 c0 rfl ?_
      refine zA_iload dX11_weak_77 rfl ?_
      refine zA_iload_n dX11_weak_79 rfl ?_
      refine zA_cV (st := []) dX11_weak_80 vX3_mostWanting kX11_394 (s_mostWanting (w := wa) (n := (w (t + 1) c)) (v := v) (by omega) (by omega) (by omega) (by omega) hbb) (by decide) c54 rfl rfl (Nat.le_of_ble_eq_true rfl) rfl (zRt_el ?_)
      show zA l mX11_weak false 4 0 0 (fun v' S' w' => ((0 ≤ c ∧ c < w t 5) ∧ (0 ≤ k ∧ k < 3) ∧ (0 ≤ y ∧ y ≤ 500) ∧ (0 ≤ v ∧ v ≤ 13)) ∧ S' = (ZZ t dr tx) ∧ only 61 w w' ∧ ∃ r, v' = some (zI r) ∧ wkR k (cWf w c (w (t + 1) c) y v) (w (t + 1) c) r) (zXp (¬ (0 ≤ c ∧ c < w t 5) ∨ ¬ (0 ≤ k ∧ k < 3)) (((0 ≤ c ∧ c < w t 5) ∧ (0 ≤ k ∧ k < 3)) ∧ ¬ ((0 ≤ y ∧ y ≤ 500) ∧ (0 ≤ v ∧ v ≤ 13))) (ZZ t dr tx) w) 83 [zR 0, zI c, zI y, zI v, zI k, zI (w (t + 1) c)] [zI (wkMost (cWant wa (w (t + 1) c) v) (w (t + 1) c).toNat)] (ZZ t dr tx) wa
      refine zA_iret dX11_weak_83 rfl ?_
      have hcf := cWant_f (v := v) hba
      refine ⟨by omega, rfl, hfa, _, rfl, ⟨fun h => ?_, fun h => ?_, fun h => ?_⟩⟩
      · first | omega | exact wkMany_c _ (fun s a b => hcf s a (by omega))
      · first | omega | exact isLeast_c hcf hlw
      · first | omega | exact wkMost_c _ (fun s a b => hcf s a (by omega))
    · skip
      refine zA_aload_n dX11_weak_60 rfl ?_
      refine zA_getR (n := 54) dX11_weak_61 fX11_85 c0 rfl ?_
      refine zA_iload dX11_weak_64 rfl ?_
      refine zA_iload_n dX11_weak_66 rfl ?_
      refine zA_cV (st := []) dX11_weak_67 vX3_leastWeak kX11_391 (s_leastWeak (w := wa) (n := (w (t + 1) c)) (v := v) (by omega) (by omega) (by omega) (by omega) hbb) (by decide) c54 rfl rfl (Nat.le_of_ble_eq_true rfl) rfl (zRp1_el (fun lw hlw => ?_))
      refine zA_goto (tgt := 83) dX11_weak_70 (by decide) ?_
      refine zA_iret dX11_weak_83 rfl ?_
      have hcf := cWant_f (v := v) hba
      refine ⟨by omega, rfl, hfa, _, rfl, ⟨fun h => ?_, fun h => ?_, fun h => ?_⟩⟩
      · first | omega | exact wkMany_c _ (fun s a b => hcf s a (by omega))
      · first | omega | exact isLeast_c hcf hlw
      · first | omega | exact wkMost_c _ (fun s a b => hcf s a (by omega))
  · skip
    refine zA_aload_n dX11_weak_43 rfl ?_
    refine zA_getR (n := 54) dX11_weak_44 fX11_85 c0 rfl ?_
    refine zA_iload dX11_weak_47 rfl ?_
    refine zA_iload_n dX11_weak_49 rfl ?_
    refine zA_cV (st := []) dX11_weak_50 vX3_weakOnes kX11_388 (s_weakOnes (w := wa) (n := (w (t + 1) c)) (v := v) (by omega) (by omega) (by omega) (by omega) hbb) (by decide) c54 rfl rfl (Nat.le_of_ble_eq_true rfl) rfl (zRt_el ?_)
    show zA l mX11_weak false 4 0 0 (fun v' S' w' => ((0 ≤ c ∧ c < w t 5) ∧ (0 ≤ k ∧ k < 3) ∧ (0 ≤ y ∧ y ≤ 500) ∧ (0 ≤ v ∧ v ≤ 13)) ∧ S' = (ZZ t dr tx) ∧ only 61 w w' ∧ ∃ r, v' = some (zI r) ∧ wkR k (cWf w c (w (t + 1) c) y v) (w (t + 1) c) r) (zXp (¬ (0 ≤ c ∧ c < w t 5) ∨ ¬ (0 ≤ k ∧ k < 3)) (((0 ≤ c ∧ c < w t 5) ∧ (0 ≤ k ∧ k < 3)) ∧ ¬ ((0 ≤ y ∧ y ≤ 500) ∧ (0 ≤ v ∧ v ≤ 13))) (ZZ t dr tx) w) 53 [zR 0, zI c, zI y, zI v, zI k, zI (w (t + 1) c)] [zI (wkMany (cWant wa (w (t + 1) c) v) (w (t + 1) c).toNat)] (ZZ t dr tx) wa
    refine zA_iret dX11_weak_53 rfl ?_
    have hcf := cWant_f (v := v) hba
    refine ⟨by omega, rfl, hfa, _, rfl, ⟨fun h => ?_, fun h => ?_, fun h => ?_⟩⟩
    · first | omega | exact wkMany_c _ (fun s a b => hcf s a (by omega))
    · first | omega | exact isLeast_c hcf hlw
    · first | omega | exact wkMost_c _ (fun s a b => hcf s a (by omega))

set_option maxRecDepth 100000 in
set_option maxHeartbeats 4000000 in
theorem s_lasts {l : Launch} {t dr tx : Nat} {w : zW} (ht : t = 4 ∨ t = 10) (hn : w t 5 ≤ 12) (hI : okIron w) (hm : ∀ c : Int, 0 ≤ c → c < 12 → (0 ≤ w 59 c ∧ w 59 c ≤ 8) ∧ (0 ≤ w 60 c ∧ w 60 c ≤ 9999)) (hcc : ∀ c : Int, 0 ≤ c → c < w t 5 → 1 ≤ w (t + 1) c ∧ w (t + 1) c ≤ 200) {c y v : Int} (hc : inR c) (hy : inR y) (hv : inR v) : zSp l mX11_lasts false 4 2 12 [zR 0, zI c, zI y, zI v] (ZZ t dr tx) w (fun v' S' w' => ((0 ≤ c ∧ c < w t 5) ∧ (0 ≤ y ∧ y ≤ 500) ∧ (0 ≤ v ∧ v ≤ 13)) ∧ S' = (ZZ t dr tx) ∧ only 61 w w' ∧ ∃ r, v' = some (zI r) ∧ isFst (laP (fun z => cWf w c (w (t + 1) c) z v) (w (t + 1) c) y) y r) (zXp (¬ (0 ≤ c ∧ c < w t 5)) ((0 ≤ c ∧ c < w t 5) ∧ ¬ ((0 ≤ y ∧ y ≤ 500) ∧ (0 ≤ v ∧ v ≤ 13))) (ZZ t dr tx) w) := by
  refine zA_intro ⟨plainFor_of_name (by decide +kernel), Or.inl (by decide +kernel)⟩ rfl (Nat.le_of_ble_eq_true rfl) ?_
  refine zA_range (fun hr => ?_)
  show zA l mX11_lasts false 4 2 12 (fun v' S' w' => ((0 ≤ c ∧ c < w t 5) ∧ (0 ≤ y ∧ y ≤ 500) ∧ (0 ≤ v ∧ v ≤ 13)) ∧ S' = (ZZ t dr tx) ∧ only 61 w w' ∧ ∃ r, v' = some (zI r) ∧ isFst (laP (fun z => cWf w c (w (t + 1) c) z v) (w (t + 1) c) y) y r) (zXp (¬ (0 ≤ c ∧ c < w t 5)) ((0 ≤ c ∧ c < w t 5) ∧ ¬ ((0 ≤ y ∧ y ≤ 500) ∧ (0 ≤ v ∧ v ≤ 13))) (ZZ t dr tx) w) 0 [zR 0, zI c, zI y, zI v, .null, .null] [] (ZZ t dr tx) w
  refine zA_aload_n dX11_lasts_0 rfl ?_
  refine zA_iload_n dX11_lasts_1 rfl ?_
  refine zA_callV (bc2 := 1) (bs2 := 6) (st := []) dX11_lasts_2 vX11_askChimney kX11_173 (s_askChimney (w := w) ht (c := c) (by first | assumption | exact hr _ _ | exact inR_mk (by omega) (by omega))) (by decide) rfl rfl (Nat.le_of_ble_eq_true rfl) c0 rfl ⟨rfl, rfl⟩ (zRa_el (fun h_2 => ?_)) (zXp_m rfl (fun h => by first | exact h.elim | omega) (fun h => by first | exact h.elim | omega))
  show zA l mX11_lasts false 4 1 6 (fun v' S' w' => ((0 ≤ c ∧ c < w t 5) ∧ (0 ≤ y ∧ y ≤ 500) ∧ (0 ≤ v ∧ v ≤ 13)) ∧ S' = (ZZ t dr tx) ∧ only 61 w w' ∧ ∃ r, v' = some (zI r) ∧ isFst (laP (fun z => cWf w c (w (t + 1) c) z v) (w (t + 1) c) y) y r) (zXp (¬ (0 ≤ c ∧ c < w t 5)) ((0 ≤ c ∧ c < w t 5) ∧ ¬ ((0 ≤ y ∧ y ≤ 500) ∧ (0 ≤ v ∧ v ≤ 13))) (ZZ t dr tx) w) 5 [zR 0, zI c, zI y, zI v, .null, .null] [] (ZZ t dr tx) w
  refine zA_iload_n dX11_lasts_5 rfl ?_
  refine zA_iload_n dX11_lasts_6 rfl ?_
  refine zA_callS (bc2 := 0) (bs2 := 0) (st := []) dX11_lasts_7 sX11_askYearAndWind kX11_382 (s_askYearAndWind (w := w) (y := y) (v := v) (by first | assumption | exact hr _ _ | exact inR_mk (by omega) (by omega)) (by first | assumption | exact hr _ _ | exact inR_mk (by omega) (by omega))) (by decide) rfl rfl (Nat.le_of_ble_eq_true rfl) ⟨rfl, rfl⟩ (zRa_el (fun h_7 => ?_)) (zXp_m rfl (fun h => by first | exact h.elim | omega) (fun h => by first | exact h.elim | omega))
  show zA l mX11_lasts false 4 0 0 (fun v' S' w' => ((0 ≤ c ∧ c < w t 5) ∧ (0 ≤ y ∧ y ≤ 500) ∧ (0 ≤ v ∧ v ≤ 13)) ∧ S' = (ZZ t dr tx) ∧ only 61 w w' ∧ ∃ r, v' = some (zI r) ∧ isFst (laP (fun z => cWf w c (w (t + 1) c) z v) (w (t + 1) c) y) y r) (zXp (¬ (0 ≤ c ∧ c < w t 5)) ((0 ≤ c ∧ c < w t 5) ∧ ¬ ((0 ≤ y ∧ y ≤ 500) ∧ (0 ≤ v ∧ v ≤ 13))) (ZZ t dr tx) w) 10 [zR 0, zI c, zI y, zI v, .null, .null] [] (ZZ t dr tx) w
  have hcb := hcc c (by omega) (by omega)
  refine zA_aload_n dX11_lasts_10 rfl ?_
  refine zA_getR (n := t) dX11_lasts_11 fX11_30 c0 rfl ?_
  refine zA_getR (n := (t + 1)) dX11_lasts_14 fX11_346 (cY0 ht) rfl ?_
  refine zA_iload_n dX11_lasts_17 rfl ?_
  refine zA_iaload dX11_lasts_18 (cY1 ht) (by first | assumption | omega) (by first | assumption | omega) (by decide) ?_
  refine zA_istore (lo1 := [zR 0, zI c, zI y, zI v, zI (w (t + 1) c), .null]) dX11_lasts_19 (by decide) rfl rfl ?_
  refine zA_iconst dX11_lasts_21 ?_
  refine zA_istore (lo1 := [zR 0, zI c, zI y, zI v, zI (w (t + 1) c), zI 0]) dX11_lasts_22 (by decide) rfl rfl ?_
  have L24 : ∀ (z24 : Nat) (f : Int) (w1 : zW) (f0 : 0 ≤ f) (f1 : f ≤ 101) (hf : only 61 w w1) (hno : ∀ z : Int, y ≤ z → z < y + f → ¬ laP (fun z => cWf w c (w (t + 1) c) z v) (w (t + 1) c) y z) (zm : (101 - f).toNat < z24), zA l mX11_lasts false 4 0 0 (fun v' S' w' => ((0 ≤ c ∧ c < w t 5) ∧ (0 ≤ y ∧ y ≤ 500) ∧ (0 ≤ v ∧ v ≤ 13)) ∧ S' = (ZZ t dr tx) ∧ only 61 w w' ∧ ∃ r, v' = some (zI r) ∧ isFst (laP (fun z => cWf w c (w (t + 1) c) z v) (w (t + 1) c) y) y r) (zXp (¬ (0 ≤ c ∧ c < w t 5)) ((0 ≤ c ∧ c < w t 5) ∧ ¬ ((0 ≤ y ∧ y ≤ 500) ∧ (0 ≤ v ∧ v ≤ 13))) (ZZ t dr tx) w) 24 [zR 0, zI c, zI y, zI v, zI (w (t + 1) c), zI f] [] (ZZ t dr tx) w1 := by
    intro z24
    induction z24 with
    | zero => intro f w1 f0 f1 hf hno zm; exact absurd zm (Nat.not_lt_zero _)
    | succ z24 ih24 =>
      intro f w1 f0 f1 hf hno zm
      refine zA_range (fun hr => ?_)
      refine zA_iload dX11_lasts_24 rfl ?_
      refine zA_bipush dX11_lasts_26 rfl ?_
      refine zA_icmp_gt (tgt := 70) dX11_lasts_28 (by decide) (by first | assumption | exact hr _ _ | exact inR_mk (by omega) (by omega)) ⟨by decide, by decide⟩ (fun c28 => ?_) (fun c28 => ?_)
      · skip
        refine zA_iconst dX11_lasts_70 ?_
        refine zA_iret dX11_lasts_71 rfl ?_
        exact ⟨by omega, rfl, hf, _, rfl, Or.inl ⟨rfl, fun z a h => hno z a (by have := h.1; omega) h⟩⟩
      · skip
        refine zA_aload_n dX11_lasts_31 rfl ?_
        refine zA_getR (n := 54) dX11_lasts_32 fX11_85 c0 rfl ?_
        refine zA_iload_n dX11_lasts_35 rfl ?_
        refine zA_iload_n dX11_lasts_36 rfl ?_
        refine zA_iload dX11_lasts_37 rfl ?_
        refine zA_iadd dX11_lasts_39 ?_
        refine zA_iload dX11_lasts_40 rfl ?_
        refine zA_cV (st := []) dX11_lasts_42 vX3_fillBears kX11_385 (s_fillBears (w := w1) (c := c) (y := (y + f)) (n := (w (t + 1) c)) (okIron_fr hf hI) (by omega) (by omega) (by omega) (by omega) (by omega) (by omega) (by rw [hf 59 c (by decide)]; exact (hm c (by omega) (by omega)).1.1) (by rw [hf 59 c (by decide)]; exact (hm c (by omega) (by omega)).1.2) (by rw [hf 60 c (by decide)]; exact (hm c (by omega) (by omega)).2.1) (by rw [hf 60 c (by decide)]; exact (hm c (by omega) (by omega)).2.2)) (by decide) c54 rfl rfl (Nat.le_of_ble_eq_true rfl) rfl (fun q_1_v q_1_S q_1_w q_1 => ?_)
        obtain ⟨rfl, rfl, hfa, hba⟩ := q_1
        obtain ⟨wa, hwa⟩ : ∃ wa, wa = q_1_w := ⟨_, rfl⟩
        rw [← hwa] at hfa hba ⊢
        have hfa2 := only_tr hf hfa
        have hbb : ∀ s, 0 ≤ s → s < (w (t + 1) c) → 0 ≤ wa 61 s ∧ wa 61 s ≤ 100000000 := fun s a b => by
          rw [hba s a b]
          rw [cBears_fr hf]
          have := cBears_b (s := s) (y := (y + f)) hI (show 0 ≤ c by omega) (by omega) (hm c (by omega) (by omega))
          omega
        refine zA_range (fun hr => ?_)
        show zA l mX11_lasts false 4 0 0 (fun v' S' w' => ((0 ≤ c ∧ c < w t 5) ∧ (0 ≤ y ∧ y ≤ 500) ∧ (0 ≤ v ∧ v ≤ 13)) ∧ S' = (ZZ t dr tx) ∧ only 61 w w' ∧ ∃ r, v' = some (zI r) ∧ isFst (laP (fun z => cWf w c (w (t + 1) c) z v) (w (t + 1) c) y) y r) (zXp (¬ (0 ≤ c ∧ c < w t 5)) ((0 ≤ c ∧ c < w t 5) ∧ ¬ ((0 ≤ y ∧ y ≤ 500) ∧ (0 ≤ v ∧ v ≤ 13))) (ZZ t dr tx) w) 45 [zR 0, zI c, zI y, zI v, zI (w (t + 1) c), zI f] [] (ZZ t dr tx) wa
        refine zA_aload_n dX11_lasts_45 rfl ?_
        refine zA_getR (n := 54) dX11_lasts_46 fX11_85 c0 rfl ?_
        refine zA_iload dX11_lasts_49 rfl ?_
        refine zA_iload_n dX11_lasts_51 rfl ?_
        refine zA_cV (st := []) dX11_lasts_52 vX3_leastWeak kX11_391 (s_leastWeak (w := wa) (n := (w (t + 1) c)) (v := v) (by omega) (by omega) (by omega) (by omega) hbb) (by decide) c54 rfl rfl (Nat.le_of_ble_eq_true rfl) rfl (zRp1_el (fun lw hlw => ?_))
        have hlr := isLeast_ne hlw
        have hfq : ∀ s : Int, 0 ≤ s → s < (w (t + 1) c) → cWant wa (w (t + 1) c) v s = cWf w c (w (t + 1) c) (y + f) v s := fun s a b => by rw [cWant_f hba s a b]; unfold cWf; rw [cBears_fr hf]
        have hlb : inR lw := by rcases hlw with ⟨a, _⟩ | ⟨a, b, _⟩ <;> exact inR_mk (by omega) (by omega)
        refine zA_iconst dX11_lasts_55 ?_
        refine zA_icmp_eq (tgt := 64) dX11_lasts_56 (by decide) (by first | assumption | exact hr _ _ | exact inR_mk (by omega) (by omega)) ⟨by decide, by decide⟩ (fun c56 => ?_) (fun c56 => ?_)
        · skip
          refine zA_iinc (lo1 := [zR 0, zI c, zI y, zI v, zI (w (t + 1) c), zI (f + 1)]) dX11_lasts_64 rfl (by decide) rfl rfl ?_
          refine zA_goto (tgt := 24) dX11_lasts_67 (by decide) ?_
          exact ih24 (f + 1) _ (by omega) (by omega) hfa2 (fun z a b => by
                      by_cases e : z = y + f
                      · rintro ⟨-, s, p, q⟩
                        subst e
                        exact (hlr.mpr ⟨s, p, by rw [hfq s p.1 p.2]; exact q⟩) c56
                      · exact hno z a (by clear hlr; omega)) (by clear hlr; omega)
        · skip
          refine zA_iload_n dX11_lasts_59 rfl ?_
          refine zA_iload dX11_lasts_60 rfl ?_
          refine zA_iadd dX11_lasts_62 ?_
          refine zA_iret dX11_lasts_63 rfl ?_
          obtain ⟨s, p, q⟩ := hlr.mp c56
          clear hlr
          exact ⟨by omega, rfl, hfa2, _, rfl, Or.inr ⟨by omega, ⟨by omega, s, p, by show 0 < cWf w c (w (t + 1) c) (y + f) v s; rw [← hfq s p.1 p.2]; exact q⟩, hno⟩⟩
  exact L24 _ 0 w (by omega) (by omega) only_rfl (fun z a b => by omega) (Nat.lt_succ_self _)

set_option maxRecDepth 100000 in
set_option maxHeartbeats 4000000 in
theorem s_bands {l : Launch} {t dr tx : Nat} {w : zW} (ht : t = 4 ∨ t = 10) (hn : w t 5 ≤ 12) (hI : okIron w) (hm : ∀ c : Int, 0 ≤ c → c < 12 → (0 ≤ w 59 c ∧ w 59 c ≤ 8) ∧ (0 ≤ w 60 c ∧ w 60 c ≤ 9999)) (hcc : ∀ c : Int, 0 ≤ c → c < w t 5 → 1 ≤ w (t + 1) c ∧ w (t + 1) c ≤ 200) {c y v p : Int} (hc : inR c) (hy : inR y) (hv : inR v) (hp : inR p) : zSp l mX11_bands false 4 3 18 [zR 0, zI c, zI y, zI v, zI p] (ZZ t dr tx) w (fun v' S' w' => ((0 ≤ c ∧ c < w t 5) ∧ ((0 ≤ y ∧ y ≤ 500) ∧ (0 ≤ v ∧ v ≤ 13)) ∧ 1 ≤ p ∧ p ≤ 9999) ∧ S' = (ZZ t dr tx) ∧ only 61 w w' ∧ v' = some (zI (gS (cWf w c (w (t + 1) c) y v) p (w (t + 1) c).toNat).1)) (zXp (¬ (0 ≤ c ∧ c < w t 5)) ((0 ≤ c ∧ c < w t 5) ∧ ¬ (((0 ≤ y ∧ y ≤ 500) ∧ (0 ≤ v ∧ v ≤ 13)) ∧ 1 ≤ p ∧ p ≤ 9999)) (ZZ t dr tx) w) := by
  refine zA_intro ⟨plainFor_of_name (by decide +kernel), Or.inl (by decide +kernel)⟩ rfl (Nat.le_of_ble_eq_true rfl) ?_
  refine zA_range (fun hr => ?_)
  show zA l mX11_bands false 4 3 18 (fun v' S' w' => ((0 ≤ c ∧ c < w t 5) ∧ ((0 ≤ y ∧ y ≤ 500) ∧ (0 ≤ v ∧ v ≤ 13)) ∧ 1 ≤ p ∧ p ≤ 9999) ∧ S' = (ZZ t dr tx) ∧ only 61 w w' ∧ v' = some (zI (gS (cWf w c (w (t + 1) c) y v) p (w (t + 1) c).toNat).1)) (zXp (¬ (0 ≤ c ∧ c < w t 5)) ((0 ≤ c ∧ c < w t 5) ∧ ¬ (((0 ≤ y ∧ y ≤ 500) ∧ (0 ≤ v ∧ v ≤ 13)) ∧ 1 ≤ p ∧ p ≤ 9999)) (ZZ t dr tx) w) 0 [zR 0, zI c, zI y, zI v, zI p, .null] [] (ZZ t dr tx) w
  refine zA_aload_n dX11_bands_0 rfl ?_
  refine zA_iload_n dX11_bands_1 rfl ?_
  refine zA_callV (bc2 := 2) (bs2 := 12) (st := []) dX11_bands_2 vX11_askChimney kX11_173 (s_askChimney (w := w) ht (c := c) (by first | assumption | exact hr _ _ | exact inR_mk (by omega) (by omega))) (by decide) rfl rfl (Nat.le_of_ble_eq_true rfl) c0 rfl ⟨rfl, rfl⟩ (zRa_el (fun h_2 => ?_)) (zXp_m rfl (fun h => by first | exact h.elim | omega) (fun h => by first | exact h.elim | omega))
  show zA l mX11_bands false 4 2 12 (fun v' S' w' => ((0 ≤ c ∧ c < w t 5) ∧ ((0 ≤ y ∧ y ≤ 500) ∧ (0 ≤ v ∧ v ≤ 13)) ∧ 1 ≤ p ∧ p ≤ 9999) ∧ S' = (ZZ t dr tx) ∧ only 61 w w' ∧ v' = some (zI (gS (cWf w c (w (t + 1) c) y v) p (w (t + 1) c).toNat).1)) (zXp (¬ (0 ≤ c ∧ c < w t 5)) ((0 ≤ c ∧ c < w t 5) ∧ ¬ (((0 ≤ y ∧ y ≤ 500) ∧ (0 ≤ v ∧ v ≤ 13)) ∧ 1 ≤ p ∧ p ≤ 9999)) (ZZ t dr tx) w) 5 [zR 0, zI c, zI y, zI v, zI p, .null] [] (ZZ t dr tx) w
  refine zA_iload_n dX11_bands_5 rfl ?_
  refine zA_iload_n dX11_bands_6 rfl ?_
  refine zA_callS (bc2 := 1) (bs2 := 6) (st := []) dX11_bands_7 sX11_askYearAndWind kX11_382 (s_askYearAndWind (w := w) (y := y) (v := v) (by first | assumption | exact hr _ _ | exact inR_mk (by omega) (by omega)) (by first | assumption | exact hr _ _ | exact inR_mk (by omega) (by omega))) (by decide) rfl rfl (Nat.le_of_ble_eq_true rfl) ⟨rfl, rfl⟩ (zRa_el (fun h_7 => ?_)) (zXp_m rfl (fun h => by first | exact h.elim | omega) (fun h => by first | exact h.elim | omega))
  show zA l mX11_bands false 4 1 6 (fun v' S' w' => ((0 ≤ c ∧ c < w t 5) ∧ ((0 ≤ y ∧ y ≤ 500) ∧ (0 ≤ v ∧ v ≤ 13)) ∧ 1 ≤ p ∧ p ≤ 9999) ∧ S' = (ZZ t dr tx) ∧ only 61 w w' ∧ v' = some (zI (gS (cWf w c (w (t + 1) c) y v) p (w (t + 1) c).toNat).1)) (zXp (¬ (0 ≤ c ∧ c < w t 5)) ((0 ≤ c ∧ c < w t 5) ∧ ¬ (((0 ≤ y ∧ y ≤ 500) ∧ (0 ≤ v ∧ v ≤ 13)) ∧ 1 ≤ p ∧ p ≤ 9999)) (ZZ t dr tx) w) 10 [zR 0, zI c, zI y, zI v, zI p, .null] [] (ZZ t dr tx) w
  have hcb := hcc c (by omega) (by omega)
  refine zA_iconst dX11_bands_10 ?_
  refine zA_iload dX11_bands_11 rfl ?_
  refine zA_sipush dX11_bands_13 rfl ?_
  refine zA_cS (st := []) dX11_bands_16 sX11_between kX11_213 (s_between (w := w) (a := 1) (b := p) (e := 9999) ⟨by decide, by decide⟩ (by first | assumption | exact hr _ _ | exact inR_mk (by omega) (by omega)) ⟨by decide, by decide⟩) (by decide) rfl rfl (Nat.le_of_ble_eq_true rfl) (zRt_el ?_)
  show zA l mX11_bands false 4 1 6 (fun v' S' w' => ((0 ≤ c ∧ c < w t 5) ∧ ((0 ≤ y ∧ y ≤ 500) ∧ (0 ≤ v ∧ v ≤ 13)) ∧ 1 ≤ p ∧ p ≤ 9999) ∧ S' = (ZZ t dr tx) ∧ only 61 w w' ∧ v' = some (zI (gS (cWf w c (w (t + 1) c) y v) p (w (t + 1) c).toNat).1)) (zXp (¬ (0 ≤ c ∧ c < w t 5)) ((0 ≤ c ∧ c < w t 5) ∧ ¬ (((0 ≤ y ∧ y ≤ 500) ∧ (0 ≤ v ∧ v ≤ 13)) ∧ 1 ≤ p ∧ p ≤ 9999)) (ZZ t dr tx) w) 19 [zR 0, zI c, zI y, zI v, zI p, .null] [zI (if 1 ≤ p ∧ p ≤ 9999 then 1 else 0)] (ZZ t dr tx) w
  refine zA_if_ne (tgt := 33) dX11_bands_19 (by decide) (inR_ite _) (fun c19 => ?_) (fun c19 => ?_)
  · skip
    replace c19 := zite_ne c19
    refine zA_aload_n dX11_bands_33 rfl ?_
    refine zA_getR (n := t) dX11_bands_34 fX11_30 c0 rfl ?_
    refine zA_getR (n := (t + 1)) dX11_bands_37 fX11_346 (cY0 ht) rfl ?_
    refine zA_iload_n dX11_bands_40 rfl ?_
    refine zA_iaload dX11_bands_41 (cY1 ht) (by first | assumption | omega) (by first | assumption | omega) (by decide) ?_
    refine zA_istore (lo1 := [zR 0, zI c, zI y, zI v, zI p, zI (w (t + 1) c)]) dX11_bands_42 (by decide) rfl rfl ?_
    refine zA_aload_n dX11_bands_44 rfl ?_
    refine zA_getR (n := 54) dX11_bands_45 fX11_85 c0 rfl ?_
    refine zA_iload_n dX11_bands_48 rfl ?_
    refine zA_iload_n dX11_bands_49 rfl ?_
    refine zA_iload dX11_bands_50 rfl ?_
    refine zA_cV (st := []) dX11_bands_52 vX3_fillBears kX11_385 (s_fillBears (w := w) (c := c) (y := y) (n := (w (t + 1) c)) hI (by omega) (by omega) (by omega) (by omega) (by omega) (by omega) (hm c (by omega) (by omega)).1.1 (hm c (by omega) (by omega)).1.2 (hm c (by omega) (by omega)).2.1 (hm c (by omega) (by omega)).2.2) (by decide) c54 rfl rfl (Nat.le_of_ble_eq_true rfl) rfl (fun q_1_v q_1_S q_1_w q_1 => ?_)
    obtain ⟨rfl, rfl, hfa, hba⟩ := q_1
    obtain ⟨wa, hwa⟩ : ∃ wa, wa = q_1_w := ⟨_, rfl⟩
    rw [← hwa] at hfa hba ⊢
    have hbb : ∀ s, 0 ≤ s → s < (w (t + 1) c) → 0 ≤ wa 61 s ∧ wa 61 s ≤ 100000000 := fun s a b => by
      rw [hba s a b]
      have := cBears_b (s := s) (y := y) hI (show 0 ≤ c by omega) (by omega) (hm c (by omega) (by omega))
      omega
    refine zA_range (fun hr => ?_)
    show zA l mX11_bands false 4 1 6 (fun v' S' w' => ((0 ≤ c ∧ c < w t 5) ∧ ((0 ≤ y ∧ y ≤ 500) ∧ (0 ≤ v ∧ v ≤ 13)) ∧ 1 ≤ p ∧ p ≤ 9999) ∧ S' = (ZZ t dr tx) ∧ only 61 w w' ∧ v' = some (zI (gS (cWf w c (w (t + 1) c) y v) p (w (t + 1) c).toNat).1)) (zXp (¬ (0 ≤ c ∧ c < w t 5)) ((0 ≤ c ∧ c < w t 5) ∧ ¬ (((0 ≤ y ∧ y ≤ 500) ∧ (0 ≤ v ∧ v ≤ 13)) ∧ 1 ≤ p ∧ p ≤ 9999)) (ZZ t dr tx) w) 55 [zR 0, zI c, zI y, zI v, zI p, zI (w (t + 1) c)] [] (ZZ t dr tx) wa
    refine zA_aload_n dX11_bands_55 rfl ?_
    refine zA_getR (n := 54) dX11_bands_56 fX11_85 c0 rfl ?_
    refine zA_iload dX11_bands_59 rfl ?_
    refine zA_iload_n dX11_bands_61 rfl ?_
    refine zA_iload dX11_bands_62 rfl ?_
    refine zA_cV (st := []) dX11_bands_64 vX3_fewestNew kX11_399 (s_fewestNew (w := wa) (n := (w (t + 1) c)) (v := v) (p := p) (by omega) (by omega) (by omega) (by omega) (by omega) (by omega) (fun s a b => by rw [hba s a b]; exact cBears_b hI (by omega) (by omega) (hm c (by omega) (by omega)))) (by decide) c54 rfl rfl (Nat.le_of_ble_eq_true rfl) rfl (fun q_2_v q_2_S q_2_w q_2 => ?_)
    obtain ⟨rfl, rfl, hfb⟩ := q_2
    refine zA_range (fun hr => ?_)
    show zA l mX11_bands false 4 1 6 (fun v' S' w' => ((0 ≤ c ∧ c < w t 5) ∧ ((0 ≤ y ∧ y ≤ 500) ∧ (0 ≤ v ∧ v ≤ 13)) ∧ 1 ≤ p ∧ p ≤ 9999) ∧ S' = (ZZ t dr tx) ∧ only 61 w w' ∧ v' = some (zI (gS (cWf w c (w (t + 1) c) y v) p (w (t + 1) c).toNat).1)) (zXp (¬ (0 ≤ c ∧ c < w t 5)) ((0 ≤ c ∧ c < w t 5) ∧ ¬ (((0 ≤ y ∧ y ≤ 500) ∧ (0 ≤ v ∧ v ≤ 13)) ∧ 1 ≤ p ∧ p ≤ 9999)) (ZZ t dr tx) w) 67 [zR 0, zI c, zI y, zI v, zI p, zI (w (t + 1) c)] [zI ((gS (fun t_1 => max 0 (v * ((w (t + 1) c) - 1 - t_1) - wa 61 t_1)) p (w (t + 1) c).toNat).1)] (ZZ t dr tx) q_2_w
    refine zA_iret dX11_bands_67 rfl ?_
    have hg := (gS_c (f0 := fun t_1 => max 0 (v * ((w (t + 1) c) - 1 - t_1) - wa 61 t_1)) (g0 := cWf w c (w (t + 1) c) y v) (p := p) (n := (w (t + 1) c)) (fun s a b => cWant_f (v := v) hba s a b) (w (t + 1) c).toNat (by omega)).1
    exact ⟨by omega, rfl, only_tr hfa hfb, by rw [hg]⟩
  · skip
    replace c19 := zite_eq c19
    refine zA_throw (sa := 1118) (zIAE_w dX11_bands_22 dX11_bands_25 ⟨dX11_bands_26, dX11_bands_29, dX11_bands_32⟩) (List.mem_of_getElem? (i := 18) rfl) rfl rfl (Nat.le_of_ble_eq_true rfl) (by decide) ?_
    exact ⟨Or.inr ⟨rfl, by omega⟩, rfl, rfl⟩

set_option maxRecDepth 100000 in
set_option maxHeartbeats 4000000 in
theorem s_addBand {l : Launch} {t dr tx : Nat} {w : zW} {c co y p r : Int} (h0 : 0 ≤ c) (h1 : c < 12) (hco : inR co) (hy : inR y) (hp : inR p) (hrr : inR r) (hm0 : 0 ≤ w 59 c) (hm1 : w 59 c ≤ 8) : zSp l mX3_add false 1 0 0 [zR 54, zI c, zI co, zI y, zI p, zI r] (ZZ t dr tx) w (fun v' S' w' => S' = (ZZ t dr tx) ∧ ((w 59 c < 8 ∧ v' = some (zI (w 59 c + 1)) ∧ w' = up (up (up (up (up w 55 (c * 8 + w 59 c) co) 56 (c * 8 + w 59 c) y) 57 (c * 8 + w 59 c) p) 58 (c * 8 + w 59 c) r) 59 c (w 59 c + 1)) ∨ (¬ (w 59 c < 8) ∧ v' = some (zI (-1)) ∧ w' = w))) zNo := by
  refine zA_intro ⟨plainFor_of_name (by decide +kernel), Or.inl (by decide +kernel)⟩ rfl (Nat.le_of_ble_eq_true rfl) ?_
  refine zA_range (fun hr => ?_)
  show zA l mX3_add false 1 0 0 (fun v' S' w' => S' = (ZZ t dr tx) ∧ ((w 59 c < 8 ∧ v' = some (zI (w 59 c + 1)) ∧ w' = up (up (up (up (up w 55 (c * 8 + w 59 c) co) 56 (c * 8 + w 59 c) y) 57 (c * 8 + w 59 c) p) 58 (c * 8 + w 59 c) r) 59 c (w 59 c + 1)) ∨ (¬ (w 59 c < 8) ∧ v' = some (zI (-1)) ∧ w' = w))) zNo 0 [zR 54, zI c, zI co, zI y, zI p, zI r, .null] [] (ZZ t dr tx) w
  refine zA_aload_n dX3_add_0 rfl ?_
  refine zA_getR (n := 59) dX3_add_1 fX3_24 c54 rfl ?_
  refine zA_iload_n dX3_add_4 rfl ?_
  refine zA_iaload dX3_add_5 c59 (by first | assumption | omega) (by first | assumption | omega) (by decide) ?_
  refine zA_bipush dX3_add_6 rfl ?_
  refine zA_icmp_lt (tgt := 13) dX3_add_8 (by decide) (by first | assumption | exact hr _ _ | exact inR_mk (by omega) (by omega)) ⟨by decide, by decide⟩ (fun c8 => ?_) (fun c8 => ?_)
  · skip
    refine zA_iload_n dX3_add_13 rfl ?_
    refine zA_bipush dX3_add_14 rfl ?_
    refine zA_imul dX3_add_16 ?_
    refine zA_aload_n dX3_add_17 rfl ?_
    refine zA_getR (n := 59) dX3_add_18 fX3_24 c54 rfl ?_
    refine zA_iload_n dX3_add_21 rfl ?_
    refine zA_iaload dX3_add_22 c59 (by first | assumption | omega) (by first | assumption | omega) (by decide) ?_
    refine zA_iadd dX3_add_23 ?_
    refine zA_istore (lo1 := [zR 54, zI c, zI co, zI y, zI p, zI r, zI ((c * 8) + (w 59 c))]) dX3_add_24 (by decide) rfl rfl ?_
    refine zA_aload_n dX3_add_26 rfl ?_
    refine zA_getR (n := 55) dX3_add_27 fX3_11 c54 rfl ?_
    refine zA_iload dX3_add_30 rfl ?_
    refine zA_iload_n dX3_add_32 rfl ?_
    refine zA_iastore dX3_add_33 (by first | assumption | exact hr _ _ | exact inR_mk (by omega) (by omega)) c55 (by first | assumption | omega) (by first | assumption | omega) (by decide) ?_
    refine zA_namew (fun w_1 hw_1 => ?_)
    refine zA_range (fun hr => ?_)
    replace hw_1 : w_1 = up w 55 ((c * 8) + (w 59 c)) co := hw_1
    refine zA_aload_n dX3_add_34 rfl ?_
    refine zA_getR (n := 56) dX3_add_35 fX3_15 c54 rfl ?_
    refine zA_iload dX3_add_38 rfl ?_
    refine zA_iload_n dX3_add_40 rfl ?_
    refine zA_iastore dX3_add_41 (by first | assumption | exact hr _ _ | exact inR_mk (by omega) (by omega)) c56 (by first | assumption | omega) (by first | assumption | omega) (by decide) ?_
    refine zA_namew (fun w_2 hw_2 => ?_)
    refine zA_range (fun hr => ?_)
    replace hw_2 : w_2 = up w_1 56 ((c * 8) + (w 59 c)) y := hw_2
    refine zA_aload_n dX3_add_42 rfl ?_
    refine zA_getR (n := 57) dX3_add_43 fX3_18 c54 rfl ?_
    refine zA_iload dX3_add_46 rfl ?_
    refine zA_iload dX3_add_48 rfl ?_
    refine zA_iastore dX3_add_50 (by first | assumption | exact hr _ _ | exact inR_mk (by omega) (by omega)) c57 (by first | assumption | omega) (by first | assumption | omega) (by decide) ?_
    refine zA_namew (fun w_3 hw_3 => ?_)
    refine zA_range (fun hr => ?_)
    replace hw_3 : w_3 = up w_2 57 ((c * 8) + (w 59 c)) p := hw_3
    refine zA_aload_n dX3_add_51 rfl ?_
    refine zA_getR (n := 58) dX3_add_52 fX3_21 c54 rfl ?_
    refine zA_iload dX3_add_55 rfl ?_
    refine zA_iload dX3_add_57 rfl ?_
    refine zA_iastore dX3_add_59 (by first | assumption | exact hr _ _ | exact inR_mk (by omega) (by omega)) c58 (by first | assumption | omega) (by first | assumption | omega) (by decide) ?_
    refine zA_namew (fun w_4 hw_4 => ?_)
    refine zA_range (fun hr => ?_)
    replace hw_4 : w_4 = up w_3 58 ((c * 8) + (w 59 c)) r := hw_4
    have e4 : w_4 59 c = w 59 c := by rw [hw_4, up_cell _ _ _ _ (by decide), hw_3, up_cell _ _ _ _ (by decide), hw_2, up_cell _ _ _ _ (by decide), hw_1, up_cell _ _ _ _ (by decide)]
    refine zA_aload_n dX3_add_60 rfl ?_
    refine zA_getR (n := 59) dX3_add_61 fX3_24 c54 rfl ?_
    refine zA_iload_n dX3_add_64 rfl ?_
    refine zA_dup2 dX3_add_65 rfl rfl ?_
    refine zA_iaload dX3_add_66 c59 (by first | assumption | omega) (by first | assumption | omega) (by decide) ?_
    refine zA_iconst dX3_add_67 ?_
    refine zA_iadd dX3_add_68 ?_
    refine zA_iastore dX3_add_69 (by first | assumption | exact hr _ _ | exact inR_mk (by omega) (by omega)) c59 (by first | assumption | omega) (by first | assumption | omega) (by decide) ?_
    refine zA_namew (fun w_5 hw_5 => ?_)
    refine zA_range (fun hr => ?_)
    replace hw_5 : w_5 = up w_4 59 c ((w_4 59 c) + 1) := hw_5
    refine zA_aload_n dX3_add_70 rfl ?_
    refine zA_getR (n := 59) dX3_add_71 fX3_24 c54 rfl ?_
    refine zA_iload_n dX3_add_74 rfl ?_
    refine zA_iaload dX3_add_75 c59 (by first | assumption | omega) (by first | assumption | omega) (by decide) ?_
    refine zA_iret dX3_add_76 rfl ?_
    exact ⟨rfl, Or.inl ⟨by omega, by rw [hw_5, up_same, e4], by rw [hw_5, e4, hw_4, hw_3, hw_2, hw_1]⟩⟩
  · skip
    refine zA_iconst dX3_add_11 ?_
    refine zA_iret dX3_add_12 rfl ?_
    exact ⟨rfl, Or.inr ⟨by omega, rfl, rfl⟩⟩

set_option maxRecDepth 100000 in
set_option maxHeartbeats 4000000 in
theorem s_band {l : Launch} {t dr tx : Nat} {w : zW} (ht : t = 4 ∨ t = 10) (hn : w t 5 ≤ 12) (hI : okIron w) (hm : ∀ c : Int, 0 ≤ c → c < 12 → (0 ≤ w 59 c ∧ w 59 c ≤ 8) ∧ (0 ≤ w 60 c ∧ w 60 c ≤ 9999)) (hcc : ∀ c : Int, 0 ≤ c → c < w t 5 → 1 ≤ w (t + 1) c ∧ w (t + 1) c ≤ 200) {c co y p r : Int} (hc : inR c) (hco : inR co) (hy : inR y) (hp : inR p) (hrr : inR r) : zSp l mX11_band false 4 1 6 [zR 0, zI c, zI co, zI y, zI p, zI r] (ZZ t dr tx) w (fun v' S' w' => (0 ≤ c ∧ c < w t 5) ∧ S' = (ZZ t dr tx) ∧ (((((0 ≤ co ∧ co < (w (t + 1) c)) ∧ (0 ≤ y ∧ y ≤ 300) ∧ (1 ≤ p ∧ p ≤ 9999) ∧ 0 ≤ r ∧ r ≤ 999) ∧ w 59 c < 8) ∧ v' = some (zI (w 59 c + 1)) ∧ w' = up (up (up (up (up w 55 (c * 8 + w 59 c) co) 56 (c * 8 + w 59 c) y) 57 (c * 8 + w 59 c) p) 58 (c * 8 + w 59 c) r) 59 c (w 59 c + 1)) ∨ (¬ (((0 ≤ co ∧ co < (w (t + 1) c)) ∧ (0 ≤ y ∧ y ≤ 300) ∧ (1 ≤ p ∧ p ≤ 9999) ∧ 0 ≤ r ∧ r ≤ 999) ∧ w 59 c < 8) ∧ v' = some (zI (-1)) ∧ w' = w))) (zXp (¬ (0 ≤ c ∧ c < w t 5)) (False) (ZZ t dr tx) w) := by
  refine zA_intro ⟨plainFor_of_name (by decide +kernel), Or.inl (by decide +kernel)⟩ rfl (Nat.le_of_ble_eq_true rfl) ?_
  refine zA_range (fun hr => ?_)
  show zA l mX11_band false 4 1 6 (fun v' S' w' => (0 ≤ c ∧ c < w t 5) ∧ S' = (ZZ t dr tx) ∧ (((((0 ≤ co ∧ co < (w (t + 1) c)) ∧ (0 ≤ y ∧ y ≤ 300) ∧ (1 ≤ p ∧ p ≤ 9999) ∧ 0 ≤ r ∧ r ≤ 999) ∧ w 59 c < 8) ∧ v' = some (zI (w 59 c + 1)) ∧ w' = up (up (up (up (up w 55 (c * 8 + w 59 c) co) 56 (c * 8 + w 59 c) y) 57 (c * 8 + w 59 c) p) 58 (c * 8 + w 59 c) r) 59 c (w 59 c + 1)) ∨ (¬ (((0 ≤ co ∧ co < (w (t + 1) c)) ∧ (0 ≤ y ∧ y ≤ 300) ∧ (1 ≤ p ∧ p ≤ 9999) ∧ 0 ≤ r ∧ r ≤ 999) ∧ w 59 c < 8) ∧ v' = some (zI (-1)) ∧ w' = w))) (zXp (¬ (0 ≤ c ∧ c < w t 5)) (False) (ZZ t dr tx) w) 0 [zR 0, zI c, zI co, zI y, zI p, zI r] [] (ZZ t dr tx) w
  refine zA_aload_n dX11_band_0 rfl ?_
  refine zA_iload_n dX11_band_1 rfl ?_
  refine zA_callV (bc2 := 0) (bs2 := 0) (st := []) dX11_band_2 vX11_askChimney kX11_173 (s_askChimney (w := w) ht (c := c) (by first | assumption | exact hr _ _ | exact inR_mk (by omega) (by omega))) (by decide) rfl rfl (Nat.le_of_ble_eq_true rfl) c0 rfl ⟨rfl, rfl⟩ (zRa_el (fun h_2 => ?_)) (zXp_m rfl (fun h => by first | exact h.elim | omega) (fun h => by first | exact h.elim | omega))
  show zA l mX11_band false 4 0 0 (fun v' S' w' => (0 ≤ c ∧ c < w t 5) ∧ S' = (ZZ t dr tx) ∧ (((((0 ≤ co ∧ co < (w (t + 1) c)) ∧ (0 ≤ y ∧ y ≤ 300) ∧ (1 ≤ p ∧ p ≤ 9999) ∧ 0 ≤ r ∧ r ≤ 999) ∧ w 59 c < 8) ∧ v' = some (zI (w 59 c + 1)) ∧ w' = up (up (up (up (up w 55 (c * 8 + w 59 c) co) 56 (c * 8 + w 59 c) y) 57 (c * 8 + w 59 c) p) 58 (c * 8 + w 59 c) r) 59 c (w 59 c + 1)) ∨ (¬ (((0 ≤ co ∧ co < (w (t + 1) c)) ∧ (0 ≤ y ∧ y ≤ 300) ∧ (1 ≤ p ∧ p ≤ 9999) ∧ 0 ≤ r ∧ r ≤ 999) ∧ w 59 c < 8) ∧ v' = some (zI (-1)) ∧ w' = w))) (zXp (¬ (0 ≤ c ∧ c < w t 5)) (False) (ZZ t dr tx) w) 5 [zR 0, zI c, zI co, zI y, zI p, zI r] [] (ZZ t dr tx) w
  have hcb := hcc c (by omega) (by omega)
  refine zA_iconst dX11_band_5 ?_
  refine zA_iload_n dX11_band_6 rfl ?_
  refine zA_aload_n dX11_band_7 rfl ?_
  refine zA_getR (n := t) dX11_band_8 fX11_30 c0 rfl ?_
  refine zA_getR (n := (t + 1)) dX11_band_11 fX11_346 (cY0 ht) rfl ?_
  refine zA_iload_n dX11_band_14 rfl ?_
  refine zA_iaload dX11_band_15 (cY1 ht) (by first | assumption | omega) (by first | assumption | omega) (by decide) ?_
  refine zA_iconst dX11_band_16 ?_
  refine zA_isub dX11_band_17 ?_
  refine zA_cS (st := []) dX11_band_18 sX11_between kX11_213 (s_between (w := w) (a := 0) (b := co) (e := ((w (t + 1) c) - 1)) ⟨by decide, by decide⟩ (by first | assumption | exact hr _ _ | exact inR_mk (by omega) (by omega)) (by first | assumption | exact hr _ _ | exact inR_mk (by omega) (by omega))) (by decide) rfl rfl (Nat.le_of_ble_eq_true rfl) (zRt_el ?_)
  show zA l mX11_band false 4 0 0 (fun v' S' w' => (0 ≤ c ∧ c < w t 5) ∧ S' = (ZZ t dr tx) ∧ (((((0 ≤ co ∧ co < (w (t + 1) c)) ∧ (0 ≤ y ∧ y ≤ 300) ∧ (1 ≤ p ∧ p ≤ 9999) ∧ 0 ≤ r ∧ r ≤ 999) ∧ w 59 c < 8) ∧ v' = some (zI (w 59 c + 1)) ∧ w' = up (up (up (up (up w 55 (c * 8 + w 59 c) co) 56 (c * 8 + w 59 c) y) 57 (c * 8 + w 59 c) p) 58 (c * 8 + w 59 c) r) 59 c (w 59 c + 1)) ∨ (¬ (((0 ≤ co ∧ co < (w (t + 1) c)) ∧ (0 ≤ y ∧ y ≤ 300) ∧ (1 ≤ p ∧ p ≤ 9999) ∧ 0 ≤ r ∧ r ≤ 999) ∧ w 59 c < 8) ∧ v' = some (zI (-1)) ∧ w' = w))) (zXp (¬ (0 ≤ c ∧ c < w t 5)) (False) (ZZ t dr tx) w) 21 [zR 0, zI c, zI co, zI y, zI p, zI r] [zI (if 0 ≤ co ∧ co ≤ ((w (t + 1) c) - 1) then 1 else 0)] (ZZ t dr tx) w
  refine zA_if_eq (tgt := 59) dX11_band_21 (by decide) (inR_ite _) (fun c21 => ?_) (fun c21 => ?_)
  · skip
    replace c21 := zite_eq c21
    refine zA_iconst dX11_band_59 ?_
    refine zA_iret dX11_band_60 rfl ?_
    exact ⟨by omega, rfl, Or.inr ⟨by omega, rfl, rfl⟩⟩
  · skip
    replace c21 := zite_ne c21
    refine zA_iconst dX11_band_24 ?_
    refine zA_iload_n dX11_band_25 rfl ?_
    refine zA_sipush dX11_band_26 rfl ?_
    refine zA_cS (st := []) dX11_band_29 sX11_between kX11_213 (s_between (w := w) (a := 0) (b := y) (e := 300) ⟨by decide, by decide⟩ (by first | assumption | exact hr _ _ | exact inR_mk (by omega) (by omega)) ⟨by decide, by decide⟩) (by decide) rfl rfl (Nat.le_of_ble_eq_true rfl) (zRt_el ?_)
    show zA l mX11_band false 4 0 0 (fun v' S' w' => (0 ≤ c ∧ c < w t 5) ∧ S' = (ZZ t dr tx) ∧ (((((0 ≤ co ∧ co < (w (t + 1) c)) ∧ (0 ≤ y ∧ y ≤ 300) ∧ (1 ≤ p ∧ p ≤ 9999) ∧ 0 ≤ r ∧ r ≤ 999) ∧ w 59 c < 8) ∧ v' = some (zI (w 59 c + 1)) ∧ w' = up (up (up (up (up w 55 (c * 8 + w 59 c) co) 56 (c * 8 + w 59 c) y) 57 (c * 8 + w 59 c) p) 58 (c * 8 + w 59 c) r) 59 c (w 59 c + 1)) ∨ (¬ (((0 ≤ co ∧ co < (w (t + 1) c)) ∧ (0 ≤ y ∧ y ≤ 300) ∧ (1 ≤ p ∧ p ≤ 9999) ∧ 0 ≤ r ∧ r ≤ 999) ∧ w 59 c < 8) ∧ v' = some (zI (-1)) ∧ w' = w))) (zXp (¬ (0 ≤ c ∧ c < w t 5)) (False) (ZZ t dr tx) w) 32 [zR 0, zI c, zI co, zI y, zI p, zI r] [zI (if 0 ≤ y ∧ y ≤ 300 then 1 else 0)] (ZZ t dr tx) w
    refine zA_if_eq (tgt := 59) dX11_band_32 (by decide) (inR_ite _) (fun c32 => ?_) (fun c32 => ?_)
    · skip
      replace c32 := zite_eq c32
      refine zA_iconst dX11_band_59 ?_
      refine zA_iret dX11_band_60 rfl ?_
      exact ⟨by omega, rfl, Or.inr ⟨by omega, rfl, rfl⟩⟩
    · skip
      replace c32 := zite_ne c32
      refine zA_iconst dX11_band_35 ?_
      refine zA_iload dX11_band_36 rfl ?_
      refine zA_sipush dX11_band_38 rfl ?_
      refine zA_cS (st := []) dX11_band_41 sX11_between kX11_213 (s_between (w := w) (a := 1) (b := p) (e := 9999) ⟨by decide, by decide⟩ (by first | assumption | exact hr _ _ | exact inR_mk (by omega) (by omega)) ⟨by decide, by decide⟩) (by decide) rfl rfl (Nat.le_of_ble_eq_true rfl) (zRt_el ?_)
      show zA l mX11_band false 4 0 0 (fun v' S' w' => (0 ≤ c ∧ c < w t 5) ∧ S' = (ZZ t dr tx) ∧ (((((0 ≤ co ∧ co < (w (t + 1) c)) ∧ (0 ≤ y ∧ y ≤ 300) ∧ (1 ≤ p ∧ p ≤ 9999) ∧ 0 ≤ r ∧ r ≤ 999) ∧ w 59 c < 8) ∧ v' = some (zI (w 59 c + 1)) ∧ w' = up (up (up (up (up w 55 (c * 8 + w 59 c) co) 56 (c * 8 + w 59 c) y) 57 (c * 8 + w 59 c) p) 58 (c * 8 + w 59 c) r) 59 c (w 59 c + 1)) ∨ (¬ (((0 ≤ co ∧ co < (w (t + 1) c)) ∧ (0 ≤ y ∧ y ≤ 300) ∧ (1 ≤ p ∧ p ≤ 9999) ∧ 0 ≤ r ∧ r ≤ 999) ∧ w 59 c < 8) ∧ v' = some (zI (-1)) ∧ w' = w))) (zXp (¬ (0 ≤ c ∧ c < w t 5)) (False) (ZZ t dr tx) w) 44 [zR 0, zI c, zI co, zI y, zI p, zI r] [zI (if 1 ≤ p ∧ p ≤ 9999 then 1 else 0)] (ZZ t dr tx) w
      refine zA_if_eq (tgt := 59) dX11_band_44 (by decide) (inR_ite _) (fun c44 => ?_) (fun c44 => ?_)
      · skip
        replace c44 := zite_eq c44
        refine zA_iconst dX11_band_59 ?_
        refine zA_iret dX11_band_60 rfl ?_
        exact ⟨by omega, rfl, Or.inr ⟨by omega, rfl, rfl⟩⟩
      · skip
        replace c44 := zite_ne c44
        refine zA_iconst dX11_band_47 ?_
        refine zA_iload dX11_band_48 rfl ?_
        refine zA_sipush dX11_band_50 rfl ?_
        refine zA_cS (st := []) dX11_band_53 sX11_between kX11_213 (s_between (w := w) (a := 0) (b := r) (e := 999) ⟨by decide, by decide⟩ (by first | assumption | exact hr _ _ | exact inR_mk (by omega) (by omega)) ⟨by decide, by decide⟩) (by decide) rfl rfl (Nat.le_of_ble_eq_true rfl) (zRt_el ?_)
        show zA l mX11_band false 4 0 0 (fun v' S' w' => (0 ≤ c ∧ c < w t 5) ∧ S' = (ZZ t dr tx) ∧ (((((0 ≤ co ∧ co < (w (t + 1) c)) ∧ (0 ≤ y ∧ y ≤ 300) ∧ (1 ≤ p ∧ p ≤ 9999) ∧ 0 ≤ r ∧ r ≤ 999) ∧ w 59 c < 8) ∧ v' = some (zI (w 59 c + 1)) ∧ w' = up (up (up (up (up w 55 (c * 8 + w 59 c) co) 56 (c * 8 + w 59 c) y) 57 (c * 8 + w 59 c) p) 58 (c * 8 + w 59 c) r) 59 c (w 59 c + 1)) ∨ (¬ (((0 ≤ co ∧ co < (w (t + 1) c)) ∧ (0 ≤ y ∧ y ≤ 300) ∧ (1 ≤ p ∧ p ≤ 9999) ∧ 0 ≤ r ∧ r ≤ 999) ∧ w 59 c < 8) ∧ v' = some (zI (-1)) ∧ w' = w))) (zXp (¬ (0 ≤ c ∧ c < w t 5)) (False) (ZZ t dr tx) w) 56 [zR 0, zI c, zI co, zI y, zI p, zI r] [zI (if 0 ≤ r ∧ r ≤ 999 then 1 else 0)] (ZZ t dr tx) w
        refine zA_if_ne (tgt := 61) dX11_band_56 (by decide) (inR_ite _) (fun c56 => ?_) (fun c56 => ?_)
        · skip
          replace c56 := zite_ne c56
          refine zA_aload_n dX11_band_61 rfl ?_
          refine zA_getR (n := 54) dX11_band_62 fX11_85 c0 rfl ?_
          refine zA_iload_n dX11_band_65 rfl ?_
          refine zA_iload_n dX11_band_66 rfl ?_
          refine zA_iload_n dX11_band_67 rfl ?_
          refine zA_iload dX11_band_68 rfl ?_
          refine zA_iload dX11_band_70 rfl ?_
          refine zA_cV (st := []) dX11_band_72 vX3_add kX11_377 (s_addBand (w := w) (c := c) (co := co) (y := y) (p := p) (r := r) (by omega) (by omega) hco hy hp hrr (hm c (by omega) (by omega)).1.1 (hm c (by omega) (by omega)).1.2) (by decide) c54 rfl rfl (Nat.le_of_ble_eq_true rfl) rfl (fun q_1_v q_1_S q_1_w q_1 => ?_)
          obtain ⟨rfl, hres⟩ := q_1
          obtain ⟨zv, hzv, hr2⟩ : ∃ zv, q_1_v = some (zI zv) ∧ ((w 59 c < 8 ∧ zv = w 59 c + 1 ∧ q_1_w = up (up (up (up (up w 55 (c * 8 + w 59 c) co) 56 (c * 8 + w 59 c) y) 57 (c * 8 + w 59 c) p) 58 (c * 8 + w 59 c) r) 59 c (w 59 c + 1)) ∨ (¬ (w 59 c < 8) ∧ zv = -1 ∧ q_1_w = w)) := by
            rcases hres with ⟨a, b, e⟩ | ⟨a, b, e⟩
            · exact ⟨_, b, Or.inl ⟨a, rfl, e⟩⟩
            · exact ⟨_, b, Or.inr ⟨a, rfl, e⟩⟩
          subst hzv
          refine zA_range (fun hr => ?_)
          show zA l mX11_band false 4 0 0 (fun v' S' w' => (0 ≤ c ∧ c < w t 5) ∧ S' = (ZZ t dr tx) ∧ (((((0 ≤ co ∧ co < (w (t + 1) c)) ∧ (0 ≤ y ∧ y ≤ 300) ∧ (1 ≤ p ∧ p ≤ 9999) ∧ 0 ≤ r ∧ r ≤ 999) ∧ w 59 c < 8) ∧ v' = some (zI (w 59 c + 1)) ∧ w' = up (up (up (up (up w 55 (c * 8 + w 59 c) co) 56 (c * 8 + w 59 c) y) 57 (c * 8 + w 59 c) p) 58 (c * 8 + w 59 c) r) 59 c (w 59 c + 1)) ∨ (¬ (((0 ≤ co ∧ co < (w (t + 1) c)) ∧ (0 ≤ y ∧ y ≤ 300) ∧ (1 ≤ p ∧ p ≤ 9999) ∧ 0 ≤ r ∧ r ≤ 999) ∧ w 59 c < 8) ∧ v' = some (zI (-1)) ∧ w' = w))) (zXp (¬ (0 ≤ c ∧ c < w t 5)) (False) (ZZ t dr tx) w) 75 [zR 0, zI c, zI co, zI y, zI p, zI r] [zI zv] (ZZ t dr tx) q_1_w
          refine zA_iret dX11_band_75 rfl ?_
          refine ⟨by omega, rfl, ?_⟩
          rcases hr2 with ⟨a, b, e⟩ | ⟨a, b, e⟩
          · exact Or.inl ⟨by omega, by rw [b], e⟩
          · exact Or.inr ⟨by omega, by rw [b], e⟩
        · skip
          replace c56 := zite_eq c56
          refine zA_iconst dX11_band_59 ?_
          refine zA_iret dX11_band_60 rfl ?_
          exact ⟨by omega, rfl, Or.inr ⟨by omega, rfl, rfl⟩⟩

theorem okMI_1 {w : zW} {c k : Int} (h : okMIron w c) : okMIron (up w 73 1 k) c := by
  unfold okMIron
  simp only [up_cell _ _ _ _ (by decide : (105 : Nat) ≠ 73), up_cell _ _ _ _ (by decide : (106 : Nat) ≠ 73), up_cell _ _ _ _ (by decide : (107 : Nat) ≠ 73)]
  exact h
theorem mBears_1 {w : zW} {c s y k : Int} : mBears (up w 73 1 k) c s y = mBears w c s y := by
  unfold mBears
  rw [up_cell _ _ _ _ (by decide : (107 : Nat) ≠ 73), up_cell _ _ _ _ (by decide : (105 : Nat) ≠ 73)]
  congr 1
theorem mWant_1 {w : zW} {c s y v k : Int} : mWant (up w 73 1 k) c y v s = mWant w c y v s := by
  unfold mWant
  rw [mBears_1, up_cell _ _ _ _ (by decide : (79 : Nat) ≠ 73)]
theorem mWant_fr {w w' : zW} (h : only 108 w w') (c y v s : Int) : mWant w' c y v s = mWant w c y v s := by
  unfold mWant
  rw [mBears_fr h, h 79 c (by decide)]
def zM3 (P1 P2 : Prop) (R : Int → Prop) (S : zS) (w : zW) : Option Value → zS → zW → Prop := fun v' S' w' => S' = S ∧ ((P1 ∧ v' = some (zI 0) ∧ w' = up w 73 1 1) ∨ (¬ P1 ∧ P2 ∧ v' = some (zI 0) ∧ w' = up w 73 1 2) ∨ (¬ P1 ∧ ¬ P2 ∧ (∃ r, v' = some (zI r) ∧ R r) ∧ only 108 (up w 73 1 0) w'))
set_option maxRecDepth 100000 in
set_option maxHeartbeats 4000000 in
theorem m_weak {l : Launch} {t dr tx : Nat} {w : zW} {c y v k : Int} (hc : inR c) (hy : inR y) (hv : inR v) (hk : inR k) (hn0 : 0 ≤ w 75 0) (hn : w 75 0 ≤ 12) (hI : ∀ c : Int, 0 ≤ c → c < 12 → okMIron w c) (hcc : ∀ c : Int, 0 ≤ c → c < w 75 0 → 1 ≤ w 79 c ∧ w 79 c ≤ 200)  : zSp l mX12_weak false 4 0 0 [zR 73, zI c, zI y, zI v, zI k] (ZZ t dr tx) w (zM3 (¬ ((0 ≤ c ∧ c < w 75 0) ∧ 0 ≤ k ∧ k < 3)) (¬ ((0 ≤ y ∧ y ≤ 500) ∧ (0 ≤ v ∧ v ≤ 13))) (wkR k (mWant w c y v) (w 79 c)) (ZZ t dr tx) w) zNo := by
  refine zA_intro ⟨plainFor_of_name (by decide +kernel), Or.inl (by decide +kernel)⟩ rfl (Nat.le_of_ble_eq_true rfl) ?_
  refine zA_range (fun hr => ?_)
  show zA l mX12_weak false 4 0 0 (zM3 (¬ ((0 ≤ c ∧ c < w 75 0) ∧ 0 ≤ k ∧ k < 3)) (¬ ((0 ≤ y ∧ y ≤ 500) ∧ (0 ≤ v ∧ v ≤ 13))) (wkR k (mWant w c y v) (w 79 c)) (ZZ t dr tx) w) zNo 0 [zR 73, zI c, zI y, zI v, zI k, .null, .null, .null, .null] [] (ZZ t dr tx) w
  refine zA_aload_n dX12_weak_0 rfl ?_
  refine zA_iconst dX12_weak_1 ?_
  refine zA_putI dX12_weak_2 fX12_182 c73 rfl ⟨by decide, by decide⟩ ⟨rfl, rfl⟩ ?_
  refine zA_namew (fun w_1 hw_1 => ?_)
  refine zA_range (fun hr => ?_)
  replace hw_1 : w_1 = up w 73 1 0 := hw_1
  have ef : ∀ cc i, cc ≠ 73 → w_1 cc i = w cc i := fun cc i h => by rw [hw_1, up_cell _ _ _ _ h]
  have e75 : w_1 75 0 = w 75 0 := ef 75 0 (by decide)
  refine zA_aload_n dX12_weak_5 rfl ?_
  refine zA_iload_n dX12_weak_6 rfl ?_
  refine zA_cV (st := []) dX12_weak_7 vX12_isChimney kX12_321 (m_isChimney (w := w_1) (c := c) (by first | assumption | exact hr _ _ | exact inR_mk (by omega) (by omega)) (by omega) (by omega)) (by decide) c73 rfl rfl (Nat.le_of_ble_eq_true rfl) rfl (zRt_el ?_)
  show zA l mX12_weak false 4 0 0 (zM3 (¬ ((0 ≤ c ∧ c < w 75 0) ∧ 0 ≤ k ∧ k < 3)) (¬ ((0 ≤ y ∧ y ≤ 500) ∧ (0 ≤ v ∧ v ≤ 13))) (wkR k (mWant w c y v) (w 79 c)) (ZZ t dr tx) w) zNo 10 [zR 73, zI c, zI y, zI v, zI k, .null, .null, .null, .null] [zI (if 0 ≤ c ∧ c < w_1 75 0 then 1 else 0)] (ZZ t dr tx) w_1
  refine zA_if_eq (tgt := 23) dX12_weak_10 (by decide) (inR_ite _) (fun c10 => ?_) (fun c10 => ?_)
  · skip
    replace c10 := zite_eq c10
    refine zA_aload_n dX12_weak_23 rfl ?_
    refine zA_iconst dX12_weak_24 ?_
    refine zA_cV (st := []) dX12_weak_25 vX12_fail kX12_292 (m_fail (w := w_1) (k := 1) ⟨by decide, by decide⟩) (by decide) c73 rfl rfl (Nat.le_of_ble_eq_true rfl) rfl (zRt_el ?_)
    show zA l mX12_weak false 4 0 0 (zM3 (¬ ((0 ≤ c ∧ c < w 75 0) ∧ 0 ≤ k ∧ k < 3)) (¬ ((0 ≤ y ∧ y ≤ 500) ∧ (0 ≤ v ∧ v ≤ 13))) (wkR k (mWant w c y v) (w 79 c)) (ZZ t dr tx) w) zNo 28 [zR 73, zI c, zI y, zI v, zI k, .null, .null, .null, .null] [zI 0] (ZZ t dr tx) (up w_1 73 1 1)
    refine zA_iret dX12_weak_28 rfl ?_
    exact ⟨rfl, Or.inl ⟨by omega, rfl, by rw [hw_1, up_up]⟩⟩
  · skip
    replace c10 := zite_ne c10
    refine zA_iload dX12_weak_13 rfl ?_
    refine zA_iconst dX12_weak_15 ?_
    refine zA_iconst dX12_weak_16 ?_
    refine zA_cS (st := []) dX12_weak_17 sX12_isIn kX12_185 (m_isIn (w := w_1) (a := k) (b := 0) (e := 2) (by first | assumption | exact hr _ _ | exact inR_mk (by omega) (by omega)) ⟨by decide, by decide⟩ ⟨by decide, by decide⟩) (by decide) rfl rfl (Nat.le_of_ble_eq_true rfl) (zRt_el ?_)
    show zA l mX12_weak false 4 0 0 (zM3 (¬ ((0 ≤ c ∧ c < w 75 0) ∧ 0 ≤ k ∧ k < 3)) (¬ ((0 ≤ y ∧ y ≤ 500) ∧ (0 ≤ v ∧ v ≤ 13))) (wkR k (mWant w c y v) (w 79 c)) (ZZ t dr tx) w) zNo 20 [zR 73, zI c, zI y, zI v, zI k, .null, .null, .null, .null] [zI (if 0 ≤ k ∧ k ≤ 2 then 1 else 0)] (ZZ t dr tx) w_1
    refine zA_if_ne (tgt := 29) dX12_weak_20 (by decide) (inR_ite _) (fun c20 => ?_) (fun c20 => ?_)
    · skip
      replace c20 := zite_ne c20
      refine zA_iload_n dX12_weak_29 rfl ?_
      refine zA_iload_n dX12_weak_30 rfl ?_
      refine zA_cS (st := []) dX12_weak_31 sX12_isAsked kX12_470 (m_isAsked (w := w_1) (S := (ZZ t dr tx)) (y := y) (v := v) hy hv) (by decide) rfl rfl (Nat.le_of_ble_eq_true rfl) (zRt_el ?_)
      show zA l mX12_weak false 4 0 0 (zM3 (¬ ((0 ≤ c ∧ c < w 75 0) ∧ 0 ≤ k ∧ k < 3)) (¬ ((0 ≤ y ∧ y ≤ 500) ∧ (0 ≤ v ∧ v ≤ 13))) (wkR k (mWant w c y v) (w 79 c)) (ZZ t dr tx) w) zNo 34 [zR 73, zI c, zI y, zI v, zI k, .null, .null, .null, .null] [zI (if (0 ≤ y ∧ y ≤ 500) ∧ 0 ≤ v ∧ v ≤ 13 then 1 else 0)] (ZZ t dr tx) w_1
      refine zA_if_ne (tgt := 43) dX12_weak_34 (by decide) (inR_ite _) (fun c34 => ?_) (fun c34 => ?_)
      · skip
        replace c34 := zite_ne c34
        have e79 : w_1 79 c = w 79 c := ef 79 c (by decide)
        have hcb := hcc c (by omega) (by omega)
        have hMI : okMIron w_1 c := by rw [hw_1]; exact okMI_1 (hI c (by omega) (by omega))
        refine zA_aload_n dX12_weak_43 rfl ?_
        refine zA_iload_n dX12_weak_44 rfl ?_
        refine zA_iload_n dX12_weak_45 rfl ?_
        refine zA_iload_n dX12_weak_46 rfl ?_
        refine zA_cV (st := []) dX12_weak_47 vX12_tellWanting kX12_473 (m_tellWanting (w := w_1) (c := c) (y := y) (v := v) (by omega) (by omega) (hMI) (by omega) (by omega) (by omega) (by omega) (by omega) (by omega)) (by decide) c73 rfl rfl (Nat.le_of_ble_eq_true rfl) rfl (fun q_2_v q_2_S q_2_w q_2 => ?_)
        obtain ⟨rfl, rfl, hta, htb⟩ := q_2
        obtain ⟨wa, hwa⟩ : ∃ wa, wa = q_2_w := ⟨_, rfl⟩
        rw [← hwa] at hta htb ⊢
        have ea79 : wa 79 c = w 79 c := by rw [hta 79 c (by decide), e79]
        have htf : ∀ s : Int, 0 ≤ s → s < w 79 c → wa 108 s = mWant w c y v s := fun s a b => by rw [htb s a (by omega), hw_1, mWant_1]
        have hmn : wkMany (mWant w_1 c y v) (w_1 79 c).toNat = wkMany (mWant w c y v) (w 79 c).toNat := by rw [e79]; exact wkMany_c _ (fun s _ _ => by rw [hw_1, mWant_1])
        refine zA_range (fun hr => ?_)
        show zA l mX12_weak false 4 0 0 (zM3 (¬ ((0 ≤ c ∧ c < w 75 0) ∧ 0 ≤ k ∧ k < 3)) (¬ ((0 ≤ y ∧ y ≤ 500) ∧ (0 ≤ v ∧ v ≤ 13))) (wkR k (mWant w c y v) (w 79 c)) (ZZ t dr tx) w) zNo 50 [zR 73, zI c, zI y, zI v, zI k, .null, .null, .null, .null] [zI (wkMany (mWant w_1 c y v) (w_1 79 c).toNat)] (ZZ t dr tx) wa
        refine zA_istore (lo1 := [zR 73, zI c, zI y, zI v, zI k, zI (wkMany (mWant w_1 c y v) (w_1 79 c).toNat), .null, .null, .null]) dX12_weak_50 (by decide) rfl rfl ?_
        refine zA_iload dX12_weak_52 rfl ?_
        refine zA_if_ne (tgt := 60) dX12_weak_54 (by decide) (by first | assumption | exact hr _ _ | exact inR_mk (by omega) (by omega)) (fun c54 => ?_) (fun c54 => ?_)
        · skip
          refine zA_iconst dX12_weak_60 ?_
          refine zA_istore (lo1 := [zR 73, zI c, zI y, zI v, zI k, zI (wkMany (mWant w_1 c y v) (w_1 79 c).toNat), zI (-1), .null, .null]) dX12_weak_61 (by decide) rfl rfl ?_
          refine zA_iconst dX12_weak_63 ?_
          refine zA_istore (lo1 := [zR 73, zI c, zI y, zI v, zI k, zI (wkMany (mWant w_1 c y v) (w_1 79 c).toNat), zI (-1), zI 0, .null]) dX12_weak_64 (by decide) rfl rfl ?_
          refine zA_iconst dX12_weak_66 ?_
          refine zA_istore (lo1 := [zR 73, zI c, zI y, zI v, zI k, zI (wkMany (mWant w_1 c y v) (w_1 79 c).toNat), zI (-1), zI 0, zI 0]) dX12_weak_67 (by decide) rfl rfl ?_
          refine zA_drop 5 (lo1 := [zR 73, zI c, zI y, zI v, zI k, .null, zI (-1), zI 0, zI 0]) rfl ?_
          have L69 : ∀ (z69 : Nat) (le mo s : Int) (s0 : 0 ≤ s) (s1 : s ≤ w 79 c) (hle : (le = -1 ∧ ∀ x : Int, 0 ≤ x → x < s → ¬ 0 < mWant w c y v x) ∨ ((0 ≤ le ∧ le < s) ∧ 0 < mWant w c y v le ∧ ∀ x : Int, 0 ≤ x → x < le → ¬ 0 < mWant w c y v x)) (hmo : mo = wkMost (mWant w c y v) s.toNat) (hmr : inR mo) (zm : (w 79 c - s).toNat < z69), zA l mX12_weak false 4 0 0 (zM3 (¬ ((0 ≤ c ∧ c < w 75 0) ∧ 0 ≤ k ∧ k < 3)) (¬ ((0 ≤ y ∧ y ≤ 500) ∧ (0 ≤ v ∧ v ≤ 13))) (wkR k (mWant w c y v) (w 79 c)) (ZZ t dr tx) w) zNo 69 [zR 73, zI c, zI y, zI v, zI k, .null, zI le, zI mo, zI s] [] (ZZ t dr tx) wa := by
            intro z69
            induction z69 with
            | zero => intro le mo s s0 s1 hle hmo hmr zm; exact absurd zm (Nat.not_lt_zero _)
            | succ z69 ih69 =>
              intro le mo s s0 s1 hle hmo hmr zm
              refine zA_iload dX12_weak_69 rfl ?_
              refine zA_aload_n dX12_weak_71 rfl ?_
              refine zA_getR (n := 79) dX12_weak_72 fX12_38 c73 rfl ?_
              refine zA_iload_n dX12_weak_75 rfl ?_
              refine zA_iaload dX12_weak_76 c79 (by first | assumption | omega) (by first | assumption | omega) (by decide) ?_
              refine zA_icmp_ge (tgt := 120) dX12_weak_77 (by decide) (by first | assumption | exact hr _ _ | exact inR_mk (by omega) (by omega)) (by first | assumption | exact hr _ _ | exact inR_mk (by omega) (by omega)) (fun c77 => ?_) (fun c77 => ?_)
              · skip
                refine zA_iload dX12_weak_120 rfl ?_
                refine zA_iconst dX12_weak_122 ?_
                refine zA_icmp_ne (tgt := 131) dX12_weak_123 (by decide) (by first | assumption | exact hr _ _ | exact inR_mk (by omega) (by omega)) ⟨by decide, by decide⟩ (fun c123 => ?_) (fun c123 => ?_)
                · skip
                  refine zA_iload dX12_weak_131 rfl ?_
                  refine zA_iret dX12_weak_133 rfl ?_
                  have he : s = w 79 c := by omega
                  refine ⟨rfl, Or.inr (Or.inr ⟨by omega, by omega, ⟨_, rfl, ⟨fun h => by omega, fun h => ?_, fun h => ?_⟩⟩, by rw [← hw_1]; exact hta⟩)⟩
                  · first
                    | omega
                    | (rw [← he]; rcases hle with ⟨h1, h2⟩ | ⟨h1, h2, h3⟩
                       · exact Or.inl ⟨h1, h2⟩
                       · exact Or.inr ⟨h1.1, h1.2, h2, h3⟩)
                  · first
                    | omega
                    | (rw [hmo, he])
                · skip
                  refine zA_iload dX12_weak_126 rfl ?_
                  refine zA_goto (tgt := 133) dX12_weak_128 (by decide) ?_
                  refine zA_iret dX12_weak_133 rfl ?_
                  have he : s = w 79 c := by omega
                  refine ⟨rfl, Or.inr (Or.inr ⟨by omega, by omega, ⟨_, rfl, ⟨fun h => by omega, fun h => ?_, fun h => ?_⟩⟩, by rw [← hw_1]; exact hta⟩)⟩
                  · first
                    | omega
                    | (rw [← he]; rcases hle with ⟨h1, h2⟩ | ⟨h1, h2, h3⟩
                       · exact Or.inl ⟨h1, h2⟩
                       · exact Or.inr ⟨h1.1, h1.2, h2, h3⟩)
                  · first
                    | omega
                    | (rw [hmo, he])
              · skip
                have hts := htf s s0 (by omega)
                have hwr : inR (wa 108 s) := hr 108 s
                refine zA_aload_n dX12_weak_80 rfl ?_
                refine zA_getR (n := 108) dX12_weak_81 fX12_133 c73 rfl ?_
                refine zA_iload dX12_weak_84 rfl ?_
                refine zA_iaload dX12_weak_86 c108 (by first | assumption | omega) (by first | assumption | omega) (by decide) ?_
                refine zA_if_le (tgt := 100) dX12_weak_87 (by decide) (by first | assumption | exact hr _ _ | exact inR_mk (by omega) (by omega)) (fun c87 => ?_) (fun c87 => ?_)
                · skip
                  refine zA_iload dX12_weak_100 rfl ?_
                  refine zA_aload_n dX12_weak_102 rfl ?_
                  refine zA_getR (n := 108) dX12_weak_103 fX12_133 c73 rfl ?_
                  refine zA_iload dX12_weak_106 rfl ?_
                  refine zA_iaload dX12_weak_108 c108 (by first | assumption | omega) (by first | assumption | omega) (by decide) ?_
                  refine zA_mmax dX12_weak_109 kmX12_375 zw_max (by first | assumption | exact hr _ _ | exact inR_mk (by omega) (by omega)) (by first | assumption | exact hr _ _ | exact inR_mk (by omega) (by omega)) (Nat.le_of_ble_eq_true rfl) ?_
                  refine zA_istore (lo1 := [zR 73, zI c, zI y, zI v, zI k, .null, zI le, zI (max mo (wa 108 s)), zI s]) dX12_weak_112 (by decide) rfl rfl ?_
                  refine zA_iinc (lo1 := [zR 73, zI c, zI y, zI v, zI k, .null, zI le, zI (max mo (wa 108 s)), zI (s + 1)]) dX12_weak_114 rfl (by decide) rfl rfl ?_
                  refine zA_goto (tgt := 69) dX12_weak_117 (by decide) ?_
                  exact ih69 _ _ (s + 1) (by omega) (by omega) (by
                              rcases hle with ⟨h1, h2⟩ | ⟨h1, h2, h3⟩
                              · refine Or.inl ⟨h1, fun x a b => ?_⟩
                                by_cases e : x = s
                                · rw [e, ← hts]; omega
                                · exact h2 x a (by omega)
                              · exact Or.inr ⟨by omega, h2, h3⟩) (by rw [zsucc s0]; simp only [wkMost]; rw [zcast s0, ← hts, hmo]) (by have := hmr.1; have := hmr.2; have := hwr.1; have := hwr.2; exact inR_mk (by omega) (by omega)) (by omega)
                · skip
                  refine zA_iload dX12_weak_90 rfl ?_
                  refine zA_iconst dX12_weak_92 ?_
                  refine zA_icmp_ne (tgt := 100) dX12_weak_93 (by decide) (by first | assumption | exact hr _ _ | exact inR_mk (by omega) (by omega)) ⟨by decide, by decide⟩ (fun c93 => ?_) (fun c93 => ?_)
                  · skip
                    refine zA_iload dX12_weak_100 rfl ?_
                    refine zA_aload_n dX12_weak_102 rfl ?_
                    refine zA_getR (n := 108) dX12_weak_103 fX12_133 c73 rfl ?_
                    refine zA_iload dX12_weak_106 rfl ?_
                    refine zA_iaload dX12_weak_108 c108 (by first | assumption | omega) (by first | assumption | omega) (by decide) ?_
                    refine zA_mmax dX12_weak_109 kmX12_375 zw_max (by first | assumption | exact hr _ _ | exact inR_mk (by omega) (by omega)) (by first | assumption | exact hr _ _ | exact inR_mk (by omega) (by omega)) (Nat.le_of_ble_eq_true rfl) ?_
                    refine zA_istore (lo1 := [zR 73, zI c, zI y, zI v, zI k, .null, zI le, zI (max mo (wa 108 s)), zI s]) dX12_weak_112 (by decide) rfl rfl ?_
                    refine zA_iinc (lo1 := [zR 73, zI c, zI y, zI v, zI k, .null, zI le, zI (max mo (wa 108 s)), zI (s + 1)]) dX12_weak_114 rfl (by decide) rfl rfl ?_
                    refine zA_goto (tgt := 69) dX12_weak_117 (by decide) ?_
                    exact ih69 _ _ (s + 1) (by omega) (by omega) (by
                                rcases hle with ⟨h1, h2⟩ | ⟨h1, h2, h3⟩
                                · refine Or.inl ⟨h1, fun x a b => ?_⟩
                                  by_cases e : x = s
                                  · rw [e, ← hts]; omega
                                  · exact h2 x a (by omega)
                                · exact Or.inr ⟨by omega, h2, h3⟩) (by rw [zsucc s0]; simp only [wkMost]; rw [zcast s0, ← hts, hmo]) (by have := hmr.1; have := hmr.2; have := hwr.1; have := hwr.2; exact inR_mk (by omega) (by omega)) (by omega)
                  · skip
                    refine zA_iload dX12_weak_96 rfl ?_
                    refine zA_istore (lo1 := [zR 73, zI c, zI y, zI v, zI k, .null, zI s, zI mo, zI s]) dX12_weak_98 (by decide) rfl rfl ?_
                    refine zA_iload dX12_weak_100 rfl ?_
                    refine zA_aload_n dX12_weak_102 rfl ?_
                    refine zA_getR (n := 108) dX12_weak_103 fX12_133 c73 rfl ?_
                    refine zA_iload dX12_weak_106 rfl ?_
                    refine zA_iaload dX12_weak_108 c108 (by first | assumption | omega) (by first | assumption | omega) (by decide) ?_
                    refine zA_mmax dX12_weak_109 kmX12_375 zw_max (by first | assumption | exact hr _ _ | exact inR_mk (by omega) (by omega)) (by first | assumption | exact hr _ _ | exact inR_mk (by omega) (by omega)) (Nat.le_of_ble_eq_true rfl) ?_
                    refine zA_istore (lo1 := [zR 73, zI c, zI y, zI v, zI k, .null, zI s, zI (max mo (wa 108 s)), zI s]) dX12_weak_112 (by decide) rfl rfl ?_
                    refine zA_iinc (lo1 := [zR 73, zI c, zI y, zI v, zI k, .null, zI s, zI (max mo (wa 108 s)), zI (s + 1)]) dX12_weak_114 rfl (by decide) rfl rfl ?_
                    refine zA_goto (tgt := 69) dX12_weak_117 (by decide) ?_
                    exact ih69 _ _ (s + 1) (by omega) (by omega) (Or.inr ⟨by omega, by rw [← hts]; exact c87, fun x a b => (by
                                rcases hle with ⟨h1, h2⟩ | ⟨h1, h2, h3⟩
                                · exact h2 x a b
                                · omega)⟩) (by rw [zsucc s0]; simp only [wkMost]; rw [zcast s0, ← hts, hmo]) (by have := hmr.1; have := hmr.2; have := hwr.1; have := hwr.2; exact inR_mk (by omega) (by omega)) (by omega)
          exact L69 _ (-1) 0 0 (by omega) (by omega) (Or.inl ⟨rfl, fun x a b => by omega⟩) rfl ⟨by decide, by decide⟩ (Nat.lt_succ_self _)
        · skip
          refine zA_iload dX12_weak_57 rfl ?_
          refine zA_iret dX12_weak_59 rfl ?_
          refine ⟨rfl, Or.inr (Or.inr ⟨by omega, by omega, ⟨_, rfl, ⟨fun _ => hmn, fun h => by omega, fun h => by omega⟩⟩, by rw [← hw_1]; exact hta⟩)⟩
      · skip
        replace c34 := zite_eq c34
        refine zA_aload_n dX12_weak_37 rfl ?_
        refine zA_iconst dX12_weak_38 ?_
        refine zA_cV (st := []) dX12_weak_39 vX12_fail kX12_292 (m_fail (w := w_1) (k := 2) ⟨by decide, by decide⟩) (by decide) c73 rfl rfl (Nat.le_of_ble_eq_true rfl) rfl (zRt_el ?_)
        show zA l mX12_weak false 4 0 0 (zM3 (¬ ((0 ≤ c ∧ c < w 75 0) ∧ 0 ≤ k ∧ k < 3)) (¬ ((0 ≤ y ∧ y ≤ 500) ∧ (0 ≤ v ∧ v ≤ 13))) (wkR k (mWant w c y v) (w 79 c)) (ZZ t dr tx) w) zNo 42 [zR 73, zI c, zI y, zI v, zI k, .null, .null, .null, .null] [zI 0] (ZZ t dr tx) (up w_1 73 1 2)
        refine zA_iret dX12_weak_42 rfl ?_
        exact ⟨rfl, Or.inr (Or.inl ⟨by omega, by omega, rfl, by rw [hw_1, up_up]⟩)⟩
    · skip
      replace c20 := zite_eq c20
      refine zA_aload_n dX12_weak_23 rfl ?_
      refine zA_iconst dX12_weak_24 ?_
      refine zA_cV (st := []) dX12_weak_25 vX12_fail kX12_292 (m_fail (w := w_1) (k := 1) ⟨by decide, by decide⟩) (by decide) c73 rfl rfl (Nat.le_of_ble_eq_true rfl) rfl (zRt_el ?_)
      show zA l mX12_weak false 4 0 0 (zM3 (¬ ((0 ≤ c ∧ c < w 75 0) ∧ 0 ≤ k ∧ k < 3)) (¬ ((0 ≤ y ∧ y ≤ 500) ∧ (0 ≤ v ∧ v ≤ 13))) (wkR k (mWant w c y v) (w 79 c)) (ZZ t dr tx) w) zNo 28 [zR 73, zI c, zI y, zI v, zI k, .null, .null, .null, .null] [zI 0] (ZZ t dr tx) (up w_1 73 1 1)
      refine zA_iret dX12_weak_28 rfl ?_
      exact ⟨rfl, Or.inl ⟨by omega, rfl, by rw [hw_1, up_up]⟩⟩

set_option maxRecDepth 100000 in
set_option maxHeartbeats 4000000 in
theorem m_lasts {l : Launch} {t dr tx : Nat} {w : zW} {c y v : Int} (hc : inR c) (hy : inR y) (hv : inR v) (hn0 : 0 ≤ w 75 0) (hn : w 75 0 ≤ 12) (hI : ∀ c : Int, 0 ≤ c → c < 12 → okMIron w c) (hcc : ∀ c : Int, 0 ≤ c → c < w 75 0 → 1 ≤ w 79 c ∧ w 79 c ≤ 200)  : zSp l mX12_lasts false 4 0 0 [zR 73, zI c, zI y, zI v] (ZZ t dr tx) w (zM3 (¬ (0 ≤ c ∧ c < w 75 0)) (¬ ((0 ≤ y ∧ y ≤ 500) ∧ (0 ≤ v ∧ v ≤ 13))) (isFst (laP (fun z => mWant w c z v) (w 79 c) y) y) (ZZ t dr tx) w) zNo := by
  refine zA_intro ⟨plainFor_of_name (by decide +kernel), Or.inl (by decide +kernel)⟩ rfl (Nat.le_of_ble_eq_true rfl) ?_
  refine zA_range (fun hr => ?_)
  show zA l mX12_lasts false 4 0 0 (zM3 (¬ (0 ≤ c ∧ c < w 75 0)) (¬ ((0 ≤ y ∧ y ≤ 500) ∧ (0 ≤ v ∧ v ≤ 13))) (isFst (laP (fun z => mWant w c z v) (w 79 c) y) y) (ZZ t dr tx) w) zNo 0 [zR 73, zI c, zI y, zI v, .null] [] (ZZ t dr tx) w
  refine zA_aload_n dX12_lasts_0 rfl ?_
  refine zA_iconst dX12_lasts_1 ?_
  refine zA_putI dX12_lasts_2 fX12_182 c73 rfl ⟨by decide, by decide⟩ ⟨rfl, rfl⟩ ?_
  refine zA_namew (fun w_1 hw_1 => ?_)
  refine zA_range (fun hr => ?_)
  replace hw_1 : w_1 = up w 73 1 0 := hw_1
  have ef : ∀ cc i, cc ≠ 73 → w_1 cc i = w cc i := fun cc i h => by rw [hw_1, up_cell _ _ _ _ h]
  have e75 : w_1 75 0 = w 75 0 := ef 75 0 (by decide)
  refine zA_aload_n dX12_lasts_5 rfl ?_
  refine zA_iload_n dX12_lasts_6 rfl ?_
  refine zA_cV (st := []) dX12_lasts_7 vX12_isChimney kX12_321 (m_isChimney (w := w_1) (c := c) (by first | assumption | exact hr _ _ | exact inR_mk (by omega) (by omega)) (by omega) (by omega)) (by decide) c73 rfl rfl (Nat.le_of_ble_eq_true rfl) rfl (zRt_el ?_)
  show zA l mX12_lasts false 4 0 0 (zM3 (¬ (0 ≤ c ∧ c < w 75 0)) (¬ ((0 ≤ y ∧ y ≤ 500) ∧ (0 ≤ v ∧ v ≤ 13))) (isFst (laP (fun z => mWant w c z v) (w 79 c) y) y) (ZZ t dr tx) w) zNo 10 [zR 73, zI c, zI y, zI v, .null] [zI (if 0 ≤ c ∧ c < w_1 75 0 then 1 else 0)] (ZZ t dr tx) w_1
  refine zA_if_ne (tgt := 19) dX12_lasts_10 (by decide) (inR_ite _) (fun c10 => ?_) (fun c10 => ?_)
  · skip
    replace c10 := zite_ne c10
    refine zA_iload_n dX12_lasts_19 rfl ?_
    refine zA_iload_n dX12_lasts_20 rfl ?_
    refine zA_cS (st := []) dX12_lasts_21 sX12_isAsked kX12_470 (m_isAsked (w := w_1) (S := (ZZ t dr tx)) (y := y) (v := v) hy hv) (by decide) rfl rfl (Nat.le_of_ble_eq_true rfl) (zRt_el ?_)
    show zA l mX12_lasts false 4 0 0 (zM3 (¬ (0 ≤ c ∧ c < w 75 0)) (¬ ((0 ≤ y ∧ y ≤ 500) ∧ (0 ≤ v ∧ v ≤ 13))) (isFst (laP (fun z => mWant w c z v) (w 79 c) y) y) (ZZ t dr tx) w) zNo 24 [zR 73, zI c, zI y, zI v, .null] [zI (if (0 ≤ y ∧ y ≤ 500) ∧ 0 ≤ v ∧ v ≤ 13 then 1 else 0)] (ZZ t dr tx) w_1
    refine zA_if_ne (tgt := 33) dX12_lasts_24 (by decide) (inR_ite _) (fun c24 => ?_) (fun c24 => ?_)
    · skip
      replace c24 := zite_ne c24
      have e79 : w_1 79 c = w 79 c := ef 79 c (by decide)
      have hcb := hcc c (by omega) (by omega)
      have hMI : okMIron w_1 c := by rw [hw_1]; exact okMI_1 (hI c (by omega) (by omega))
      refine zA_iload_n dX12_lasts_33 rfl ?_
      refine zA_istore (lo1 := [zR 73, zI c, zI y, zI v, zI y]) dX12_lasts_34 (by decide) rfl rfl ?_
      have L36 : ∀ (z36 : Nat) (z : Int) (w1 : zW) (z0 : y ≤ z) (z1 : z ≤ y + 101) (hf : only 108 w_1 w1) (hno : ∀ x : Int, y ≤ x → x < z → ¬ laP (fun z => mWant w c z v) (w 79 c) y x) (zm : (y + 101 - z).toNat < z36), zA l mX12_lasts false 4 0 0 (zM3 (¬ (0 ≤ c ∧ c < w 75 0)) (¬ ((0 ≤ y ∧ y ≤ 500) ∧ (0 ≤ v ∧ v ≤ 13))) (isFst (laP (fun z => mWant w c z v) (w 79 c) y) y) (ZZ t dr tx) w) zNo 36 [zR 73, zI c, zI y, zI v, zI z] [] (ZZ t dr tx) w1 := by
        intro z36
        induction z36 with
        | zero => intro z w1 z0 z1 hf hno zm; exact absurd zm (Nat.not_lt_zero _)
        | succ z36 ih36 =>
          intro z w1 z0 z1 hf hno zm
          refine zA_range (fun hr => ?_)
          have f79 : w1 79 c = w 79 c := (hf 79 c (by decide)).trans e79
          refine zA_iload dX12_lasts_36 rfl ?_
          refine zA_iload_n dX12_lasts_38 rfl ?_
          refine zA_bipush dX12_lasts_39 rfl ?_
          refine zA_iadd dX12_lasts_41 ?_
          refine zA_icmp_gt (tgt := 65) dX12_lasts_42 (by decide) (by first | assumption | exact hr _ _ | exact inR_mk (by omega) (by omega)) (by first | assumption | exact hr _ _ | exact inR_mk (by omega) (by omega)) (fun c42 => ?_) (fun c42 => ?_)
          · skip
            refine zA_iconst dX12_lasts_65 ?_
            refine zA_iret dX12_lasts_66 rfl ?_
            exact ⟨rfl, Or.inr (Or.inr ⟨by omega, by omega, ⟨_, rfl, Or.inl ⟨rfl, fun x a h => hno x a (by have := h.1; omega) h⟩⟩, by rw [← hw_1]; exact hf⟩)⟩
          · skip
            refine zA_aload_n dX12_lasts_45 rfl ?_
            refine zA_iload_n dX12_lasts_46 rfl ?_
            refine zA_iload dX12_lasts_47 rfl ?_
            refine zA_iload_n dX12_lasts_49 rfl ?_
            refine zA_cV (st := []) dX12_lasts_50 vX12_tellWanting kX12_473 (m_tellWanting (w := w1) (c := c) (y := z) (v := v) (by omega) (by omega) (okMIron_fr hf hMI) (by omega) (by omega) (by omega) (by omega) (by omega) (by omega)) (by decide) c73 rfl rfl (Nat.le_of_ble_eq_true rfl) rfl (fun q_2_v q_2_S q_2_w q_2 => ?_)
            obtain ⟨rfl, rfl, hta, htb⟩ := q_2
            have hmn : wkMany (mWant w1 c z v) (w1 79 c).toNat = wkMany (mWant w c z v) (w 79 c).toNat := by rw [f79]; exact wkMany_c _ (fun s _ _ => by rw [mWant_fr hf, hw_1, mWant_1])
            have hwb := wkMany_b (mWant w1 c z v) (w1 79 c).toNat
            have hlm := isLeast_many (f := mWant w c z v) (w 79 c).toNat
            rw [← hmn] at hlm
            refine zA_range (fun hr => ?_)
            show zA l mX12_lasts false 4 0 0 (zM3 (¬ (0 ≤ c ∧ c < w 75 0)) (¬ ((0 ≤ y ∧ y ≤ 500) ∧ (0 ≤ v ∧ v ≤ 13))) (isFst (laP (fun z => mWant w c z v) (w 79 c) y) y) (ZZ t dr tx) w) zNo 53 [zR 73, zI c, zI y, zI v, zI z] [zI (wkMany (mWant w1 c z v) (w1 79 c).toNat)] (ZZ t dr tx) q_2_w
            refine zA_if_le (tgt := 59) dX12_lasts_53 (by decide) (by first | assumption | exact hr _ _ | exact inR_mk (by omega) (by omega)) (fun c53 => ?_) (fun c53 => ?_)
            · skip
              refine zA_iinc (lo1 := [zR 73, zI c, zI y, zI v, zI (z + 1)]) dX12_lasts_59 rfl (by decide) rfl rfl ?_
              refine zA_goto (tgt := 36) dX12_lasts_62 (by decide) ?_
              exact ih36 (z + 1) _ (by omega) (by omega) (only_tr hf hta) (fun x a b => by
                          by_cases e : x = z
                          · rintro ⟨-, s, p, q⟩
                            subst e
                            have := hlm.mpr ⟨s, by clear hlm; omega, q⟩
                            clear hlm; omega
                          · exact hno x a (by clear hlm; omega)) (by clear hlm; omega)
            · skip
              refine zA_iload dX12_lasts_56 rfl ?_
              refine zA_iret dX12_lasts_58 rfl ?_
              obtain ⟨s, p, q⟩ := hlm.mp (by clear hlm; omega)
              clear hlm
              exact ⟨rfl, Or.inr (Or.inr ⟨by omega, by omega, ⟨_, rfl, Or.inr ⟨z0, ⟨by omega, s, by omega, q⟩, hno⟩⟩, by rw [← hw_1]; exact only_tr hf hta⟩)⟩
      exact L36 _ y w_1 (by omega) (by omega) only_rfl (fun x a b => by omega) (Nat.lt_succ_self _)
    · skip
      replace c24 := zite_eq c24
      refine zA_aload_n dX12_lasts_27 rfl ?_
      refine zA_iconst dX12_lasts_28 ?_
      refine zA_cV (st := []) dX12_lasts_29 vX12_fail kX12_292 (m_fail (w := w_1) (k := 2) ⟨by decide, by decide⟩) (by decide) c73 rfl rfl (Nat.le_of_ble_eq_true rfl) rfl (zRt_el ?_)
      show zA l mX12_lasts false 4 0 0 (zM3 (¬ (0 ≤ c ∧ c < w 75 0)) (¬ ((0 ≤ y ∧ y ≤ 500) ∧ (0 ≤ v ∧ v ≤ 13))) (isFst (laP (fun z => mWant w c z v) (w 79 c) y) y) (ZZ t dr tx) w) zNo 32 [zR 73, zI c, zI y, zI v, .null] [zI 0] (ZZ t dr tx) (up w_1 73 1 2)
      refine zA_iret dX12_lasts_32 rfl ?_
      exact ⟨rfl, Or.inr (Or.inl ⟨by omega, by omega, rfl, by rw [hw_1, up_up]⟩)⟩
  · skip
    replace c10 := zite_eq c10
    refine zA_aload_n dX12_lasts_13 rfl ?_
    refine zA_iconst dX12_lasts_14 ?_
    refine zA_cV (st := []) dX12_lasts_15 vX12_fail kX12_292 (m_fail (w := w_1) (k := 1) ⟨by decide, by decide⟩) (by decide) c73 rfl rfl (Nat.le_of_ble_eq_true rfl) rfl (zRt_el ?_)
    show zA l mX12_lasts false 4 0 0 (zM3 (¬ (0 ≤ c ∧ c < w 75 0)) (¬ ((0 ≤ y ∧ y ≤ 500) ∧ (0 ≤ v ∧ v ≤ 13))) (isFst (laP (fun z => mWant w c z v) (w 79 c) y) y) (ZZ t dr tx) w) zNo 18 [zR 73, zI c, zI y, zI v, .null] [zI 0] (ZZ t dr tx) (up w_1 73 1 1)
    refine zA_iret dX12_lasts_18 rfl ?_
    exact ⟨rfl, Or.inl ⟨by omega, rfl, by rw [hw_1, up_up]⟩⟩

set_option maxRecDepth 100000 in
set_option maxHeartbeats 4000000 in
theorem m_bands {l : Launch} {t dr tx : Nat} {w : zW} {c y v p : Int} (hc : inR c) (hy : inR y) (hv : inR v) (hp : inR p) (hn0 : 0 ≤ w 75 0) (hn : w 75 0 ≤ 12) (hI : ∀ c : Int, 0 ≤ c → c < 12 → okMIron w c) (hcc : ∀ c : Int, 0 ≤ c → c < w 75 0 → 1 ≤ w 79 c ∧ w 79 c ≤ 200)  : zSp l mX12_bands false 4 0 0 [zR 73, zI c, zI y, zI v, zI p] (ZZ t dr tx) w (zM3 (¬ (0 ≤ c ∧ c < w 75 0)) (¬ (((0 ≤ y ∧ y ≤ 500) ∧ (0 ≤ v ∧ v ≤ 13)) ∧ 1 ≤ p ∧ p ≤ 9999)) (fun r => r = (gS (mWant w c y v) p (w 79 c).toNat).1) (ZZ t dr tx) w) zNo := by
  refine zA_intro ⟨plainFor_of_name (by decide +kernel), Or.inl (by decide +kernel)⟩ rfl (Nat.le_of_ble_eq_true rfl) ?_
  refine zA_range (fun hr => ?_)
  show zA l mX12_bands false 4 0 0 (zM3 (¬ (0 ≤ c ∧ c < w 75 0)) (¬ (((0 ≤ y ∧ y ≤ 500) ∧ (0 ≤ v ∧ v ≤ 13)) ∧ 1 ≤ p ∧ p ≤ 9999)) (fun r => r = (gS (mWant w c y v) p (w 79 c).toNat).1) (ZZ t dr tx) w) zNo 0 [zR 73, zI c, zI y, zI v, zI p, .null, .null, .null, .null] [] (ZZ t dr tx) w
  refine zA_aload_n dX12_bands_0 rfl ?_
  refine zA_iconst dX12_bands_1 ?_
  refine zA_putI dX12_bands_2 fX12_182 c73 rfl ⟨by decide, by decide⟩ ⟨rfl, rfl⟩ ?_
  refine zA_namew (fun w_1 hw_1 => ?_)
  refine zA_range (fun hr => ?_)
  replace hw_1 : w_1 = up w 73 1 0 := hw_1
  have ef : ∀ cc i, cc ≠ 73 → w_1 cc i = w cc i := fun cc i h => by rw [hw_1, up_cell _ _ _ _ h]
  have e75 : w_1 75 0 = w 75 0 := ef 75 0 (by decide)
  refine zA_aload_n dX12_bands_5 rfl ?_
  refine zA_iload_n dX12_bands_6 rfl ?_
  refine zA_cV (st := []) dX12_bands_7 vX12_isChimney kX12_321 (m_isChimney (w := w_1) (c := c) (by first | assumption | exact hr _ _ | exact inR_mk (by omega) (by omega)) (by omega) (by omega)) (by decide) c73 rfl rfl (Nat.le_of_ble_eq_true rfl) rfl (zRt_el ?_)
  show zA l mX12_bands false 4 0 0 (zM3 (¬ (0 ≤ c ∧ c < w 75 0)) (¬ (((0 ≤ y ∧ y ≤ 500) ∧ (0 ≤ v ∧ v ≤ 13)) ∧ 1 ≤ p ∧ p ≤ 9999)) (fun r => r = (gS (mWant w c y v) p (w 79 c).toNat).1) (ZZ t dr tx) w) zNo 10 [zR 73, zI c, zI y, zI v, zI p, .null, .null, .null, .null] [zI (if 0 ≤ c ∧ c < w_1 75 0 then 1 else 0)] (ZZ t dr tx) w_1
  refine zA_if_ne (tgt := 19) dX12_bands_10 (by decide) (inR_ite _) (fun c10 => ?_) (fun c10 => ?_)
  · skip
    replace c10 := zite_ne c10
    refine zA_iload_n dX12_bands_19 rfl ?_
    refine zA_iload_n dX12_bands_20 rfl ?_
    refine zA_cS (st := []) dX12_bands_21 sX12_isAsked kX12_470 (m_isAsked (w := w_1) (S := (ZZ t dr tx)) (y := y) (v := v) hy hv) (by decide) rfl rfl (Nat.le_of_ble_eq_true rfl) (zRt_el ?_)
    show zA l mX12_bands false 4 0 0 (zM3 (¬ (0 ≤ c ∧ c < w 75 0)) (¬ (((0 ≤ y ∧ y ≤ 500) ∧ (0 ≤ v ∧ v ≤ 13)) ∧ 1 ≤ p ∧ p ≤ 9999)) (fun r => r = (gS (mWant w c y v) p (w 79 c).toNat).1) (ZZ t dr tx) w) zNo 24 [zR 73, zI c, zI y, zI v, zI p, .null, .null, .null, .null] [zI (if (0 ≤ y ∧ y ≤ 500) ∧ 0 ≤ v ∧ v ≤ 13 then 1 else 0)] (ZZ t dr tx) w_1
    refine zA_if_eq (tgt := 39) dX12_bands_24 (by decide) (inR_ite _) (fun c24 => ?_) (fun c24 => ?_)
    · skip
      replace c24 := zite_eq c24
      refine zA_aload_n dX12_bands_39 rfl ?_
      refine zA_iconst dX12_bands_40 ?_
      refine zA_cV (st := []) dX12_bands_41 vX12_fail kX12_292 (m_fail (w := w_1) (k := 2) ⟨by decide, by decide⟩) (by decide) c73 rfl rfl (Nat.le_of_ble_eq_true rfl) rfl (zRt_el ?_)
      show zA l mX12_bands false 4 0 0 (zM3 (¬ (0 ≤ c ∧ c < w 75 0)) (¬ (((0 ≤ y ∧ y ≤ 500) ∧ (0 ≤ v ∧ v ≤ 13)) ∧ 1 ≤ p ∧ p ≤ 9999)) (fun r => r = (gS (mWant w c y v) p (w 79 c).toNat).1) (ZZ t dr tx) w) zNo 44 [zR 73, zI c, zI y, zI v, zI p, .null, .null, .null, .null] [zI 0] (ZZ t dr tx) (up w_1 73 1 2)
      refine zA_iret dX12_bands_44 rfl ?_
      exact ⟨rfl, Or.inr (Or.inl ⟨by omega, by omega, rfl, by rw [hw_1, up_up]⟩)⟩
    · skip
      replace c24 := zite_ne c24
      refine zA_iload dX12_bands_27 rfl ?_
      refine zA_iconst dX12_bands_29 ?_
      refine zA_sipush dX12_bands_30 rfl ?_
      refine zA_cS (st := []) dX12_bands_33 sX12_isIn kX12_185 (m_isIn (w := w_1) (a := p) (b := 1) (e := 9999) (by first | assumption | exact hr _ _ | exact inR_mk (by omega) (by omega)) ⟨by decide, by decide⟩ ⟨by decide, by decide⟩) (by decide) rfl rfl (Nat.le_of_ble_eq_true rfl) (zRt_el ?_)
      show zA l mX12_bands false 4 0 0 (zM3 (¬ (0 ≤ c ∧ c < w 75 0)) (¬ (((0 ≤ y ∧ y ≤ 500) ∧ (0 ≤ v ∧ v ≤ 13)) ∧ 1 ≤ p ∧ p ≤ 9999)) (fun r => r = (gS (mWant w c y v) p (w 79 c).toNat).1) (ZZ t dr tx) w) zNo 36 [zR 73, zI c, zI y, zI v, zI p, .null, .null, .null, .null] [zI (if 1 ≤ p ∧ p ≤ 9999 then 1 else 0)] (ZZ t dr tx) w_1
      refine zA_if_ne (tgt := 45) dX12_bands_36 (by decide) (inR_ite _) (fun c36 => ?_) (fun c36 => ?_)
      · skip
        replace c36 := zite_ne c36
        have e79 : w_1 79 c = w 79 c := ef 79 c (by decide)
        have hcb := hcc c (by omega) (by omega)
        have hMI : okMIron w_1 c := by rw [hw_1]; exact okMI_1 (hI c (by omega) (by omega))
        refine zA_aload_n dX12_bands_45 rfl ?_
        refine zA_iload_n dX12_bands_46 rfl ?_
        refine zA_iload_n dX12_bands_47 rfl ?_
        refine zA_iload_n dX12_bands_48 rfl ?_
        refine zA_cV (st := []) dX12_bands_49 vX12_tellWanting kX12_473 (m_tellWanting (w := w_1) (c := c) (y := y) (v := v) (by omega) (by omega) (hMI) (by omega) (by omega) (by omega) (by omega) (by omega) (by omega)) (by decide) c73 rfl rfl (Nat.le_of_ble_eq_true rfl) rfl (fun q_2_v q_2_S q_2_w q_2 => ?_)
        obtain ⟨rfl, rfl, hta, htb⟩ := q_2
        obtain ⟨wa, hwa⟩ : ∃ wa, wa = q_2_w := ⟨_, rfl⟩
        rw [← hwa] at hta htb ⊢
        have htf : ∀ s : Int, 0 ≤ s → s < w 79 c → wa 108 s = mWant w c y v s := fun s a b => by rw [htb s a (by omega), hw_1, mWant_1]
        have hF0 : ∀ t : Int, 0 ≤ t → t < w 79 c → 0 ≤ mWant w c y v t ∧ mWant w c y v t ≤ 2600 := fun t a b => by
          have hm := zmulB (show 0 ≤ v by omega) (show v ≤ 13 by omega) (show 0 ≤ w 79 c - 1 - t by omega) (show w 79 c - 1 - t ≤ 200 by omega)
          have := mBears_b (s := t) (y := y) (hI c (by omega) (by omega))
          unfold mWant
          omega
        refine zA_range (fun hr => ?_)
        show zA l mX12_bands false 4 0 0 (zM3 (¬ (0 ≤ c ∧ c < w 75 0)) (¬ (((0 ≤ y ∧ y ≤ 500) ∧ (0 ≤ v ∧ v ≤ 13)) ∧ 1 ≤ p ∧ p ≤ 9999)) (fun r => r = (gS (mWant w c y v) p (w 79 c).toNat).1) (ZZ t dr tx) w) zNo 52 [zR 73, zI c, zI y, zI v, zI p, .null, .null, .null, .null] [zI (wkMany (mWant w_1 c y v) (w_1 79 c).toNat)] (ZZ t dr tx) wa
        refine zA_pop dX12_bands_52 rfl ?_
        skip
        refine zA_iconst dX12_bands_53 ?_
        refine zA_istore (lo1 := [zR 73, zI c, zI y, zI v, zI p, zI 0, .null, .null, .null]) dX12_bands_54 (by decide) rfl rfl ?_
        refine zA_iconst dX12_bands_56 ?_
        refine zA_istore (lo1 := [zR 73, zI c, zI y, zI v, zI p, zI 0, zI 0, .null, .null]) dX12_bands_57 (by decide) rfl rfl ?_
        have L59 : ∀ (z59 : Nat) (g k : Int) (w1 : zW) (k0 : 0 ≤ k) (k1 : k ≤ w 79 c) (hf : only 108 w_1 w1) (hg : g = (gS (mWant w c y v) p k.toNat).1) (hw : ∀ t : Int, 0 ≤ t → t < w 79 c → w1 108 t = (gS (mWant w c y v) p k.toNat).2 t) (zm : (w 79 c - k).toNat < z59), zA l mX12_bands false 4 0 0 (zM3 (¬ (0 ≤ c ∧ c < w 75 0)) (¬ (((0 ≤ y ∧ y ≤ 500) ∧ (0 ≤ v ∧ v ≤ 13)) ∧ 1 ≤ p ∧ p ≤ 9999)) (fun r => r = (gS (mWant w c y v) p (w 79 c).toNat).1) (ZZ t dr tx) w) zNo 59 [zR 73, zI c, zI y, zI v, zI p, zI g, zI k, .null, .null] [] (ZZ t dr tx) w1 := by
          intro z59
          induction z59 with
          | zero => intro g k w1 k0 k1 hf hg hw zm; exact absurd zm (Nat.not_lt_zero _)
          | succ z59 ih59 =>
            intro g k w1 k0 k1 hf hg hw zm
            refine zA_range (fun hr => ?_)
            have hgb := gS_b (p := p) (by omega) (by omega) hF0 k.toNat (by omega)
            rw [← hg, zcast k0] at hgb
            have f79 : w1 79 c = w 79 c := (hf 79 c (by decide)).trans e79
            refine zA_iload dX12_bands_59 rfl ?_
            refine zA_aload_n dX12_bands_61 rfl ?_
            refine zA_getR (n := 79) dX12_bands_62 fX12_38 c73 rfl ?_
            refine zA_iload_n dX12_bands_65 rfl ?_
            refine zA_iaload dX12_bands_66 c79 (by first | assumption | omega) (by first | assumption | omega) (by decide) ?_
            refine zA_icmp_ge (tgt := 159) dX12_bands_67 (by decide) (by first | assumption | exact hr _ _ | exact inR_mk (by omega) (by omega)) (by first | assumption | exact hr _ _ | exact inR_mk (by omega) (by omega)) (fun c67 => ?_) (fun c67 => ?_)
            · skip
              refine zA_iload dX12_bands_159 rfl ?_
              refine zA_iret dX12_bands_161 rfl ?_
              exact ⟨rfl, Or.inr (Or.inr ⟨by omega, by omega, ⟨_, rfl, by rw [hg, show k = w 79 c by omega]⟩, by rw [← hw_1]; exact hf⟩)⟩
            · skip
              have hk2 := hgb.2 k k0 (by omega)
              have hwk := hw k k0 (by omega)
              refine zA_aload_n dX12_bands_70 rfl ?_
              refine zA_getR (n := 108) dX12_bands_71 fX12_133 c73 rfl ?_
              refine zA_iload dX12_bands_74 rfl ?_
              refine zA_iaload dX12_bands_76 c108 (by first | assumption | omega) (by first | assumption | omega) (by decide) ?_
              refine zA_if_gt (tgt := 83) dX12_bands_77 (by decide) (by first | assumption | exact hr _ _ | exact inR_mk (by omega) (by omega)) (fun c77 => ?_) (fun c77 => ?_)
              · skip
                have hpos : 0 < (gS (mWant w c y v) p k.toNat).2 k := by omega
                have hdu := div_up (x := (gS (mWant w c y v) p k.toNat).2 k) (p := p) hpos hk2.2 (by omega) (by omega)
                refine zA_aload_n dX12_bands_83 rfl ?_
                refine zA_getR (n := 108) dX12_bands_84 fX12_133 c73 rfl ?_
                refine zA_iload dX12_bands_87 rfl ?_
                refine zA_iaload dX12_bands_89 c108 (by first | assumption | omega) (by first | assumption | omega) (by decide) ?_
                refine zA_iload dX12_bands_90 rfl ?_
                refine zA_iadd dX12_bands_92 ?_
                refine zA_iconst dX12_bands_93 ?_
                refine zA_isub dX12_bands_94 ?_
                refine zA_iload dX12_bands_95 rfl ?_
                refine zA_idiv dX12_bands_97 (by first | assumption | omega) (by first | assumption | omega) (by first | assumption | omega) (by first | assumption | omega) ?_
                refine zA_valI (((gS (mWant w c y v) p k.toNat).2 k + p - 1) / p) (by rw [hwk]) ?_
                refine zA_istore (lo1 := [zR 73, zI c, zI y, zI v, zI p, zI g, zI k, zI (((gS (mWant w c y v) p k.toNat).2 k + p - 1) / p), .null]) dX12_bands_98 (by decide) rfl rfl ?_
                refine zA_iload dX12_bands_100 rfl ?_
                refine zA_iload dX12_bands_102 rfl ?_
                refine zA_iadd dX12_bands_104 ?_
                refine zA_istore (lo1 := [zR 73, zI c, zI y, zI v, zI p, zI (g + (((gS (mWant w c y v) p k.toNat).2 k + p - 1) / p)), zI k, zI (((gS (mWant w c y v) p k.toNat).2 k + p - 1) / p), .null]) dX12_bands_105 (by decide) rfl rfl ?_
                refine zA_iload dX12_bands_107 rfl ?_
                refine zA_istore (lo1 := [zR 73, zI c, zI y, zI v, zI p, zI (g + (((gS (mWant w c y v) p k.toNat).2 k + p - 1) / p)), zI k, zI (((gS (mWant w c y v) p k.toNat).2 k + p - 1) / p), zI k]) dX12_bands_109 (by decide) rfl rfl ?_
                have L111 : ∀ (z111 : Nat) (tt : Int) (w2 : zW) (t0 : k ≤ tt) (t1 : tt ≤ k + 11) (t2 : tt ≤ w 79 c) (hf2 : only 108 w_1 w2) (hw2 : ∀ t : Int, 0 ≤ t → t < w 79 c → w2 108 t = if k ≤ t ∧ t < tt then (gS (mWant w c y v) p k.toNat).2 t - ((gS (mWant w c y v) p k.toNat).2 k + p - 1) / p * p else (gS (mWant w c y v) p k.toNat).2 t) (zm : (k + 11 - tt).toNat < z111), zA l mX12_bands false 4 0 0 (zM3 (¬ (0 ≤ c ∧ c < w 75 0)) (¬ (((0 ≤ y ∧ y ≤ 500) ∧ (0 ≤ v ∧ v ≤ 13)) ∧ 1 ≤ p ∧ p ≤ 9999)) (fun r => r = (gS (mWant w c y v) p (w 79 c).toNat).1) (ZZ t dr tx) w) zNo 111 [zR 73, zI c, zI y, zI v, zI p, zI (g + ((gS (mWant w c y v) p k.toNat).2 k + p - 1) / p), zI k, zI (((gS (mWant w c y v) p k.toNat).2 k + p - 1) / p), zI tt] [] (ZZ t dr tx) w2 := by
                  intro z111
                  induction z111 with
                  | zero => intro tt w2 t0 t1 t2 hf2 hw2 zm; exact absurd zm (Nat.not_lt_zero _)
                  | succ z111 ih111 =>
                    intro tt w2 t0 t1 t2 hf2 hw2 zm
                    refine zA_range (fun hr => ?_)
                    have g79 : w2 79 c = w 79 c := (hf2 79 c (by decide)).trans e79
                    refine zA_iload dX12_bands_111 rfl ?_
                    refine zA_iload dX12_bands_113 rfl ?_
                    refine zA_bipush dX12_bands_115 rfl ?_
                    refine zA_iadd dX12_bands_117 ?_
                    refine zA_icmp_gt (tgt := 153) dX12_bands_118 (by decide) (by first | assumption | exact hr _ _ | exact inR_mk (by omega) (by omega)) (by first | assumption | exact hr _ _ | exact inR_mk (by omega) (by omega)) (fun c118 => ?_) (fun c118 => ?_)
                    · skip
                      refine zA_iinc (lo1 := [zR 73, zI c, zI y, zI v, zI p, zI (g + ((gS (mWant w c y v) p k.toNat).2 k + p - 1) / p), zI (k + 1), zI (((gS (mWant w c y v) p k.toNat).2 k + p - 1) / p), zI tt]) dX12_bands_153 rfl (by decide) rfl rfl ?_
                      refine zA_goto (tgt := 59) dX12_bands_156 (by decide) ?_
                      refine zA_drop 7 (lo1 := [zR 73, zI c, zI y, zI v, zI p, zI (g + ((gS (mWant w c y v) p k.toNat).2 k + p - 1) / p), zI (k + 1), .null, zI tt]) rfl ?_
                      refine zA_drop 8 (lo1 := [zR 73, zI c, zI y, zI v, zI p, zI (g + ((gS (mWant w c y v) p k.toNat).2 k + p - 1) / p), zI (k + 1), .null, .null]) rfl ?_
                      exact ih59 _ (k + 1) _ (by omega) (by omega) hf2 (by rw [gS_2 k0 hpos, hg]) (fun t a b => by
                                  rw [gS_2 k0 hpos, hw2 t a b]
                                  show _ = (if k ≤ t ∧ t ≤ k + 10 then (gS (mWant w c y v) p k.toNat).2 t - ((gS (mWant w c y v) p k.toNat).2 k + p - 1) / p * p else (gS (mWant w c y v) p k.toNat).2 t)
                                  by_cases q : k ≤ t ∧ t ≤ k + 10
                                  · rw [if_pos q, if_pos (by omega)]
                                  · rw [if_neg q, if_neg (by omega)]) (by omega)
                    · skip
                      refine zA_iload dX12_bands_121 rfl ?_
                      refine zA_aload_n dX12_bands_123 rfl ?_
                      refine zA_getR (n := 79) dX12_bands_124 fX12_38 c73 rfl ?_
                      refine zA_iload_n dX12_bands_127 rfl ?_
                      refine zA_iaload dX12_bands_128 c79 (by first | assumption | omega) (by first | assumption | omega) (by decide) ?_
                      refine zA_icmp_ge (tgt := 153) dX12_bands_129 (by decide) (by first | assumption | exact hr _ _ | exact inR_mk (by omega) (by omega)) (by first | assumption | exact hr _ _ | exact inR_mk (by omega) (by omega)) (fun c129 => ?_) (fun c129 => ?_)
                      · skip
                        refine zA_iinc (lo1 := [zR 73, zI c, zI y, zI v, zI p, zI (g + ((gS (mWant w c y v) p k.toNat).2 k + p - 1) / p), zI (k + 1), zI (((gS (mWant w c y v) p k.toNat).2 k + p - 1) / p), zI tt]) dX12_bands_153 rfl (by decide) rfl rfl ?_
                        refine zA_goto (tgt := 59) dX12_bands_156 (by decide) ?_
                        refine zA_drop 7 (lo1 := [zR 73, zI c, zI y, zI v, zI p, zI (g + ((gS (mWant w c y v) p k.toNat).2 k + p - 1) / p), zI (k + 1), .null, zI tt]) rfl ?_
                        refine zA_drop 8 (lo1 := [zR 73, zI c, zI y, zI v, zI p, zI (g + ((gS (mWant w c y v) p k.toNat).2 k + p - 1) / p), zI (k + 1), .null, .null]) rfl ?_
                        exact ih59 _ (k + 1) _ (by omega) (by omega) hf2 (by rw [gS_2 k0 hpos, hg]) (fun t a b => by
                                    rw [gS_2 k0 hpos, hw2 t a b]
                                    show _ = (if k ≤ t ∧ t ≤ k + 10 then (gS (mWant w c y v) p k.toNat).2 t - ((gS (mWant w c y v) p k.toNat).2 k + p - 1) / p * p else (gS (mWant w c y v) p k.toNat).2 t)
                                    by_cases q : k ≤ t ∧ t ≤ k + 10
                                    · rw [if_pos q, if_pos (by omega)]
                                    · rw [if_neg q, if_neg (by omega)]) (by omega)
                      · skip
                        have hw2t := hw2 tt (by omega) (by omega)
                        rw [if_neg (by omega)] at hw2t
                        have hb2 := hgb.2 tt (by omega) (by omega)
                        refine zA_aload_n dX12_bands_132 rfl ?_
                        refine zA_getR (n := 108) dX12_bands_133 fX12_133 c73 rfl ?_
                        refine zA_iload dX12_bands_136 rfl ?_
                        refine zA_dup2 dX12_bands_138 rfl rfl ?_
                        refine zA_iaload dX12_bands_139 c108 (by first | assumption | omega) (by first | assumption | omega) (by decide) ?_
                        refine zA_iload dX12_bands_140 rfl ?_
                        refine zA_iload dX12_bands_142 rfl ?_
                        refine zA_imul dX12_bands_144 ?_
                        refine zA_isub dX12_bands_145 ?_
                        refine zA_iastore dX12_bands_146 (by first | assumption | exact hr _ _ | exact inR_mk (by omega) (by omega)) c108 (by first | assumption | omega) (by first | assumption | omega) (by decide) ?_
                        refine zA_namew (fun w_3 hw_3 => ?_)
                        refine zA_range (fun hr => ?_)
                        replace hw_3 : w_3 = up w2 108 tt ((w2 108 tt) - ((((gS (mWant w c y v) p k.toNat).2 k + p - 1) / p) * p)) := hw_3
                        refine zA_iinc (lo1 := [zR 73, zI c, zI y, zI v, zI p, zI (g + ((gS (mWant w c y v) p k.toNat).2 k + p - 1) / p), zI k, zI (((gS (mWant w c y v) p k.toNat).2 k + p - 1) / p), zI (tt + 1)]) dX12_bands_147 rfl (by decide) rfl rfl ?_
                        refine zA_goto (tgt := 111) dX12_bands_150 (by decide) ?_
                        exact ih111 (tt + 1) _ (by omega) (by omega) (by omega) (by rw [hw_3]; exact only_up hf2) (fun t a b => by
                                      rw [hw_3]
                                      by_cases e : t = tt
                                      · subst e; rw [up_same, hw2 t a b, if_neg (by omega), if_pos (by omega)]
                                      · rw [up_idx _ _ _ _ e, hw2 t a b]
                                        by_cases q : k ≤ t ∧ t < tt
                                        · rw [if_pos q, if_pos (by omega)]
                                        · rw [if_neg q, if_neg (by omega)]) (by omega)
                exact L111 _ k w1 (by omega) (by omega) (by omega) hf (fun t a b => by rw [if_neg (by omega)]; exact hw t a b) (Nat.lt_succ_self _)
              · skip
                refine zA_goto (tgt := 153) dX12_bands_80 (by decide) ?_
                refine zA_iinc (lo1 := [zR 73, zI c, zI y, zI v, zI p, zI g, zI (k + 1), .null, .null]) dX12_bands_153 rfl (by decide) rfl rfl ?_
                refine zA_goto (tgt := 59) dX12_bands_156 (by decide) ?_
                exact ih59 _ (k + 1) _ (by omega) (by omega) hf (by rw [gS_1 k0 (by omega)]; exact hg) (fun t a b => by rw [gS_1 k0 (by omega)]; exact hw t a b) (by omega)
        exact L59 _ 0 0 wa (by omega) (by omega) hta rfl (fun t a b => htf t a b) (Nat.lt_succ_self _)
      · skip
        replace c36 := zite_eq c36
        refine zA_aload_n dX12_bands_39 rfl ?_
        refine zA_iconst dX12_bands_40 ?_
        refine zA_cV (st := []) dX12_bands_41 vX12_fail kX12_292 (m_fail (w := w_1) (k := 2) ⟨by decide, by decide⟩) (by decide) c73 rfl rfl (Nat.le_of_ble_eq_true rfl) rfl (zRt_el ?_)
        show zA l mX12_bands false 4 0 0 (zM3 (¬ (0 ≤ c ∧ c < w 75 0)) (¬ (((0 ≤ y ∧ y ≤ 500) ∧ (0 ≤ v ∧ v ≤ 13)) ∧ 1 ≤ p ∧ p ≤ 9999)) (fun r => r = (gS (mWant w c y v) p (w 79 c).toNat).1) (ZZ t dr tx) w) zNo 44 [zR 73, zI c, zI y, zI v, zI p, .null, .null, .null, .null] [zI 0] (ZZ t dr tx) (up w_1 73 1 2)
        refine zA_iret dX12_bands_44 rfl ?_
        exact ⟨rfl, Or.inr (Or.inl ⟨by omega, by omega, rfl, by rw [hw_1, up_up]⟩)⟩
  · skip
    replace c10 := zite_eq c10
    refine zA_aload_n dX12_bands_13 rfl ?_
    refine zA_iconst dX12_bands_14 ?_
    refine zA_cV (st := []) dX12_bands_15 vX12_fail kX12_292 (m_fail (w := w_1) (k := 1) ⟨by decide, by decide⟩) (by decide) c73 rfl rfl (Nat.le_of_ble_eq_true rfl) rfl (zRt_el ?_)
    show zA l mX12_bands false 4 0 0 (zM3 (¬ (0 ≤ c ∧ c < w 75 0)) (¬ (((0 ≤ y ∧ y ≤ 500) ∧ (0 ≤ v ∧ v ≤ 13)) ∧ 1 ≤ p ∧ p ≤ 9999)) (fun r => r = (gS (mWant w c y v) p (w 79 c).toNat).1) (ZZ t dr tx) w) zNo 18 [zR 73, zI c, zI y, zI v, zI p, .null, .null, .null, .null] [zI 0] (ZZ t dr tx) (up w_1 73 1 1)
    refine zA_iret dX12_bands_18 rfl ?_
    exact ⟨rfl, Or.inl ⟨by omega, rfl, by rw [hw_1, up_up]⟩⟩

set_option maxRecDepth 100000 in
set_option maxHeartbeats 4000000 in
theorem m_band {l : Launch} {t dr tx : Nat} {w : zW} {c co y p r : Int} (hc : inR c) (hco : inR co) (hy : inR y) (hp : inR p) (hrr : inR r) (hn0 : 0 ≤ w 75 0) (hn : w 75 0 ≤ 12) (hI : ∀ c : Int, 0 ≤ c → c < 12 → okMIron w c) (hcc : ∀ c : Int, 0 ≤ c → c < w 75 0 → 1 ≤ w 79 c ∧ w 79 c ≤ 200)  : zSp l mX12_band false 4 0 0 [zR 73, zI c, zI co, zI y, zI p, zI r] (ZZ t dr tx) w (fun v' S' w' => S' = (ZZ t dr tx) ∧ ((¬ (0 ≤ c ∧ c < w 75 0) ∧ v' = some (zI 0) ∧ w' = up w 73 1 1) ∨ ((0 ≤ c ∧ c < w 75 0) ∧ (((0 ≤ co ∧ co < w 79 c) ∧ (0 ≤ y ∧ y ≤ 300) ∧ (1 ≤ p ∧ p ≤ 9999) ∧ 0 ≤ r ∧ r ≤ 999) ∧ w 105 c < 8) ∧ v' = some (zI (w 105 c + 1)) ∧ w' = up (up (up (up (up (up w 73 1 0) 106 (4 * (8 * c + w 105 c)) co) 106 ((4 * (8 * c + w 105 c)) + 1) y) 106 ((4 * (8 * c + w 105 c)) + 2) p) 106 ((4 * (8 * c + w 105 c)) + 3) r) 105 c (w 105 c + 1)) ∨ ((0 ≤ c ∧ c < w 75 0) ∧ ¬ (((0 ≤ co ∧ co < w 79 c) ∧ (0 ≤ y ∧ y ≤ 300) ∧ (1 ≤ p ∧ p ≤ 9999) ∧ 0 ≤ r ∧ r ≤ 999) ∧ w 105 c < 8) ∧ v' = some (zI (-1)) ∧ w' = up w 73 1 0))) zNo := by
  refine zA_intro ⟨plainFor_of_name (by decide +kernel), Or.inl (by decide +kernel)⟩ rfl (Nat.le_of_ble_eq_true rfl) ?_
  refine zA_range (fun hr => ?_)
  show zA l mX12_band false 4 0 0 (fun v' S' w' => S' = (ZZ t dr tx) ∧ ((¬ (0 ≤ c ∧ c < w 75 0) ∧ v' = some (zI 0) ∧ w' = up w 73 1 1) ∨ ((0 ≤ c ∧ c < w 75 0) ∧ (((0 ≤ co ∧ co < w 79 c) ∧ (0 ≤ y ∧ y ≤ 300) ∧ (1 ≤ p ∧ p ≤ 9999) ∧ 0 ≤ r ∧ r ≤ 999) ∧ w 105 c < 8) ∧ v' = some (zI (w 105 c + 1)) ∧ w' = up (up (up (up (up (up w 73 1 0) 106 (4 * (8 * c + w 105 c)) co) 106 ((4 * (8 * c + w 105 c)) + 1) y) 106 ((4 * (8 * c + w 105 c)) + 2) p) 106 ((4 * (8 * c + w 105 c)) + 3) r) 105 c (w 105 c + 1)) ∨ ((0 ≤ c ∧ c < w 75 0) ∧ ¬ (((0 ≤ co ∧ co < w 79 c) ∧ (0 ≤ y ∧ y ≤ 300) ∧ (1 ≤ p ∧ p ≤ 9999) ∧ 0 ≤ r ∧ r ≤ 999) ∧ w 105 c < 8) ∧ v' = some (zI (-1)) ∧ w' = up w 73 1 0))) zNo 0 [zR 73, zI c, zI co, zI y, zI p, zI r, .null] [] (ZZ t dr tx) w
  refine zA_aload_n dX12_band_0 rfl ?_
  refine zA_iconst dX12_band_1 ?_
  refine zA_putI dX12_band_2 fX12_182 c73 rfl ⟨by decide, by decide⟩ ⟨rfl, rfl⟩ ?_
  refine zA_namew (fun w_1 hw_1 => ?_)
  refine zA_range (fun hr => ?_)
  replace hw_1 : w_1 = up w 73 1 0 := hw_1
  have ef : ∀ cc i, cc ≠ 73 → w_1 cc i = w cc i := fun cc i h => by rw [hw_1, up_cell _ _ _ _ h]
  have e75 : w_1 75 0 = w 75 0 := ef 75 0 (by decide)
  refine zA_aload_n dX12_band_5 rfl ?_
  refine zA_iload_n dX12_band_6 rfl ?_
  refine zA_cV (st := []) dX12_band_7 vX12_isChimney kX12_321 (m_isChimney (w := w_1) (c := c) (by first | assumption | exact hr _ _ | exact inR_mk (by omega) (by omega)) (by omega) (by omega)) (by decide) c73 rfl rfl (Nat.le_of_ble_eq_true rfl) rfl (zRt_el ?_)
  show zA l mX12_band false 4 0 0 (fun v' S' w' => S' = (ZZ t dr tx) ∧ ((¬ (0 ≤ c ∧ c < w 75 0) ∧ v' = some (zI 0) ∧ w' = up w 73 1 1) ∨ ((0 ≤ c ∧ c < w 75 0) ∧ (((0 ≤ co ∧ co < w 79 c) ∧ (0 ≤ y ∧ y ≤ 300) ∧ (1 ≤ p ∧ p ≤ 9999) ∧ 0 ≤ r ∧ r ≤ 999) ∧ w 105 c < 8) ∧ v' = some (zI (w 105 c + 1)) ∧ w' = up (up (up (up (up (up w 73 1 0) 106 (4 * (8 * c + w 105 c)) co) 106 ((4 * (8 * c + w 105 c)) + 1) y) 106 ((4 * (8 * c + w 105 c)) + 2) p) 106 ((4 * (8 * c + w 105 c)) + 3) r) 105 c (w 105 c + 1)) ∨ ((0 ≤ c ∧ c < w 75 0) ∧ ¬ (((0 ≤ co ∧ co < w 79 c) ∧ (0 ≤ y ∧ y ≤ 300) ∧ (1 ≤ p ∧ p ≤ 9999) ∧ 0 ≤ r ∧ r ≤ 999) ∧ w 105 c < 8) ∧ v' = some (zI (-1)) ∧ w' = up w 73 1 0))) zNo 10 [zR 73, zI c, zI co, zI y, zI p, zI r, .null] [zI (if 0 ≤ c ∧ c < w_1 75 0 then 1 else 0)] (ZZ t dr tx) w_1
  refine zA_if_ne (tgt := 19) dX12_band_10 (by decide) (inR_ite _) (fun c10 => ?_) (fun c10 => ?_)
  · skip
    replace c10 := zite_ne c10
    have e79 : w_1 79 c = w 79 c := ef 79 c (by decide)
    have e105 : w_1 105 c = w 105 c := ef 105 c (by decide)
    have hcb := hcc c (by omega) (by omega)
    have hm5 := (hI c (by omega) (by omega)).1
    refine zA_aload_n dX12_band_19 rfl ?_
    refine zA_getR (n := 105) dX12_band_20 fX12_124 c73 rfl ?_
    refine zA_iload_n dX12_band_23 rfl ?_
    refine zA_iaload dX12_band_24 c105 (by first | assumption | omega) (by first | assumption | omega) (by decide) ?_
    refine zA_bipush dX12_band_25 rfl ?_
    refine zA_icmp_eq (tgt := 81) dX12_band_27 (by decide) (by first | assumption | exact hr _ _ | exact inR_mk (by omega) (by omega)) ⟨by decide, by decide⟩ (fun c27 => ?_) (fun c27 => ?_)
    · skip
      refine zA_iconst dX12_band_81 ?_
      refine zA_iret dX12_band_82 rfl ?_
      exact ⟨rfl, Or.inr (Or.inr ⟨by omega, by omega, rfl, hw_1⟩)⟩
    · skip
      refine zA_iload_n dX12_band_30 rfl ?_
      refine zA_iconst dX12_band_31 ?_
      refine zA_aload_n dX12_band_32 rfl ?_
      refine zA_getR (n := 79) dX12_band_33 fX12_38 c73 rfl ?_
      refine zA_iload_n dX12_band_36 rfl ?_
      refine zA_iaload dX12_band_37 c79 (by first | assumption | omega) (by first | assumption | omega) (by decide) ?_
      refine zA_iconst dX12_band_38 ?_
      refine zA_isub dX12_band_39 ?_
      refine zA_cS (st := []) dX12_band_40 sX12_isIn kX12_185 (m_isIn (w := w_1) (a := co) (b := 0) (e := ((w_1 79 c) - 1)) (by first | assumption | exact hr _ _ | exact inR_mk (by omega) (by omega)) ⟨by decide, by decide⟩ (by first | assumption | exact hr _ _ | exact inR_mk (by omega) (by omega))) (by decide) rfl rfl (Nat.le_of_ble_eq_true rfl) (zRt_el ?_)
      show zA l mX12_band false 4 0 0 (fun v' S' w' => S' = (ZZ t dr tx) ∧ ((¬ (0 ≤ c ∧ c < w 75 0) ∧ v' = some (zI 0) ∧ w' = up w 73 1 1) ∨ ((0 ≤ c ∧ c < w 75 0) ∧ (((0 ≤ co ∧ co < w 79 c) ∧ (0 ≤ y ∧ y ≤ 300) ∧ (1 ≤ p ∧ p ≤ 9999) ∧ 0 ≤ r ∧ r ≤ 999) ∧ w 105 c < 8) ∧ v' = some (zI (w 105 c + 1)) ∧ w' = up (up (up (up (up (up w 73 1 0) 106 (4 * (8 * c + w 105 c)) co) 106 ((4 * (8 * c + w 105 c)) + 1) y) 106 ((4 * (8 * c + w 105 c)) + 2) p) 106 ((4 * (8 * c + w 105 c)) + 3) r) 105 c (w 105 c + 1)) ∨ ((0 ≤ c ∧ c < w 75 0) ∧ ¬ (((0 ≤ co ∧ co < w 79 c) ∧ (0 ≤ y ∧ y ≤ 300) ∧ (1 ≤ p ∧ p ≤ 9999) ∧ 0 ≤ r ∧ r ≤ 999) ∧ w 105 c < 8) ∧ v' = some (zI (-1)) ∧ w' = up w 73 1 0))) zNo 43 [zR 73, zI c, zI co, zI y, zI p, zI r, .null] [zI (if 0 ≤ co ∧ co ≤ ((w_1 79 c) - 1) then 1 else 0)] (ZZ t dr tx) w_1
      refine zA_if_eq (tgt := 81) dX12_band_43 (by decide) (inR_ite _) (fun c43 => ?_) (fun c43 => ?_)
      · skip
        replace c43 := zite_eq c43
        refine zA_iconst dX12_band_81 ?_
        refine zA_iret dX12_band_82 rfl ?_
        exact ⟨rfl, Or.inr (Or.inr ⟨by omega, by omega, rfl, hw_1⟩)⟩
      · skip
        replace c43 := zite_ne c43
        refine zA_iload_n dX12_band_46 rfl ?_
        refine zA_iconst dX12_band_47 ?_
        refine zA_sipush dX12_band_48 rfl ?_
        refine zA_cS (st := []) dX12_band_51 sX12_isIn kX12_185 (m_isIn (w := w_1) (a := y) (b := 0) (e := 300) (by first | assumption | exact hr _ _ | exact inR_mk (by omega) (by omega)) ⟨by decide, by decide⟩ ⟨by decide, by decide⟩) (by decide) rfl rfl (Nat.le_of_ble_eq_true rfl) (zRt_el ?_)
        show zA l mX12_band false 4 0 0 (fun v' S' w' => S' = (ZZ t dr tx) ∧ ((¬ (0 ≤ c ∧ c < w 75 0) ∧ v' = some (zI 0) ∧ w' = up w 73 1 1) ∨ ((0 ≤ c ∧ c < w 75 0) ∧ (((0 ≤ co ∧ co < w 79 c) ∧ (0 ≤ y ∧ y ≤ 300) ∧ (1 ≤ p ∧ p ≤ 9999) ∧ 0 ≤ r ∧ r ≤ 999) ∧ w 105 c < 8) ∧ v' = some (zI (w 105 c + 1)) ∧ w' = up (up (up (up (up (up w 73 1 0) 106 (4 * (8 * c + w 105 c)) co) 106 ((4 * (8 * c + w 105 c)) + 1) y) 106 ((4 * (8 * c + w 105 c)) + 2) p) 106 ((4 * (8 * c + w 105 c)) + 3) r) 105 c (w 105 c + 1)) ∨ ((0 ≤ c ∧ c < w 75 0) ∧ ¬ (((0 ≤ co ∧ co < w 79 c) ∧ (0 ≤ y ∧ y ≤ 300) ∧ (1 ≤ p ∧ p ≤ 9999) ∧ 0 ≤ r ∧ r ≤ 999) ∧ w 105 c < 8) ∧ v' = some (zI (-1)) ∧ w' = up w 73 1 0))) zNo 54 [zR 73, zI c, zI co, zI y, zI p, zI r, .null] [zI (if 0 ≤ y ∧ y ≤ 300 then 1 else 0)] (ZZ t dr tx) w_1
        refine zA_if_eq (tgt := 81) dX12_band_54 (by decide) (inR_ite _) (fun c54 => ?_) (fun c54 => ?_)
        · skip
          replace c54 := zite_eq c54
          refine zA_iconst dX12_band_81 ?_
          refine zA_iret dX12_band_82 rfl ?_
          exact ⟨rfl, Or.inr (Or.inr ⟨by omega, by omega, rfl, hw_1⟩)⟩
        · skip
          replace c54 := zite_ne c54
          refine zA_iload dX12_band_57 rfl ?_
          refine zA_iconst dX12_band_59 ?_
          refine zA_sipush dX12_band_60 rfl ?_
          refine zA_cS (st := []) dX12_band_63 sX12_isIn kX12_185 (m_isIn (w := w_1) (a := p) (b := 1) (e := 9999) (by first | assumption | exact hr _ _ | exact inR_mk (by omega) (by omega)) ⟨by decide, by decide⟩ ⟨by decide, by decide⟩) (by decide) rfl rfl (Nat.le_of_ble_eq_true rfl) (zRt_el ?_)
          show zA l mX12_band false 4 0 0 (fun v' S' w' => S' = (ZZ t dr tx) ∧ ((¬ (0 ≤ c ∧ c < w 75 0) ∧ v' = some (zI 0) ∧ w' = up w 73 1 1) ∨ ((0 ≤ c ∧ c < w 75 0) ∧ (((0 ≤ co ∧ co < w 79 c) ∧ (0 ≤ y ∧ y ≤ 300) ∧ (1 ≤ p ∧ p ≤ 9999) ∧ 0 ≤ r ∧ r ≤ 999) ∧ w 105 c < 8) ∧ v' = some (zI (w 105 c + 1)) ∧ w' = up (up (up (up (up (up w 73 1 0) 106 (4 * (8 * c + w 105 c)) co) 106 ((4 * (8 * c + w 105 c)) + 1) y) 106 ((4 * (8 * c + w 105 c)) + 2) p) 106 ((4 * (8 * c + w 105 c)) + 3) r) 105 c (w 105 c + 1)) ∨ ((0 ≤ c ∧ c < w 75 0) ∧ ¬ (((0 ≤ co ∧ co < w 79 c) ∧ (0 ≤ y ∧ y ≤ 300) ∧ (1 ≤ p ∧ p ≤ 9999) ∧ 0 ≤ r ∧ r ≤ 999) ∧ w 105 c < 8) ∧ v' = some (zI (-1)) ∧ w' = up w 73 1 0))) zNo 66 [zR 73, zI c, zI co, zI y, zI p, zI r, .null] [zI (if 1 ≤ p ∧ p ≤ 9999 then 1 else 0)] (ZZ t dr tx) w_1
          refine zA_if_eq (tgt := 81) dX12_band_66 (by decide) (inR_ite _) (fun c66 => ?_) (fun c66 => ?_)
          · skip
            replace c66 := zite_eq c66
            refine zA_iconst dX12_band_81 ?_
            refine zA_iret dX12_band_82 rfl ?_
            exact ⟨rfl, Or.inr (Or.inr ⟨by omega, by omega, rfl, hw_1⟩)⟩
          · skip
            replace c66 := zite_ne c66
            refine zA_iload dX12_band_69 rfl ?_
            refine zA_iconst dX12_band_71 ?_
            refine zA_sipush dX12_band_72 rfl ?_
            refine zA_cS (st := []) dX12_band_75 sX12_isIn kX12_185 (m_isIn (w := w_1) (a := r) (b := 0) (e := 999) (by first | assumption | exact hr _ _ | exact inR_mk (by omega) (by omega)) ⟨by decide, by decide⟩ ⟨by decide, by decide⟩) (by decide) rfl rfl (Nat.le_of_ble_eq_true rfl) (zRt_el ?_)
            show zA l mX12_band false 4 0 0 (fun v' S' w' => S' = (ZZ t dr tx) ∧ ((¬ (0 ≤ c ∧ c < w 75 0) ∧ v' = some (zI 0) ∧ w' = up w 73 1 1) ∨ ((0 ≤ c ∧ c < w 75 0) ∧ (((0 ≤ co ∧ co < w 79 c) ∧ (0 ≤ y ∧ y ≤ 300) ∧ (1 ≤ p ∧ p ≤ 9999) ∧ 0 ≤ r ∧ r ≤ 999) ∧ w 105 c < 8) ∧ v' = some (zI (w 105 c + 1)) ∧ w' = up (up (up (up (up (up w 73 1 0) 106 (4 * (8 * c + w 105 c)) co) 106 ((4 * (8 * c + w 105 c)) + 1) y) 106 ((4 * (8 * c + w 105 c)) + 2) p) 106 ((4 * (8 * c + w 105 c)) + 3) r) 105 c (w 105 c + 1)) ∨ ((0 ≤ c ∧ c < w 75 0) ∧ ¬ (((0 ≤ co ∧ co < w 79 c) ∧ (0 ≤ y ∧ y ≤ 300) ∧ (1 ≤ p ∧ p ≤ 9999) ∧ 0 ≤ r ∧ r ≤ 999) ∧ w 105 c < 8) ∧ v' = some (zI (-1)) ∧ w' = up w 73 1 0))) zNo 78 [zR 73, zI c, zI co, zI y, zI p, zI r, .null] [zI (if 0 ≤ r ∧ r ≤ 999 then 1 else 0)] (ZZ t dr tx) w_1
            refine zA_if_ne (tgt := 83) dX12_band_78 (by decide) (inR_ite _) (fun c78 => ?_) (fun c78 => ?_)
            · skip
              replace c78 := zite_ne c78
              refine zA_iconst dX12_band_83 ?_
              refine zA_bipush dX12_band_84 rfl ?_
              refine zA_iload_n dX12_band_86 rfl ?_
              refine zA_imul dX12_band_87 ?_
              refine zA_aload_n dX12_band_88 rfl ?_
              refine zA_getR (n := 105) dX12_band_89 fX12_124 c73 rfl ?_
              refine zA_iload_n dX12_band_92 rfl ?_
              refine zA_iaload dX12_band_93 c105 (by first | assumption | omega) (by first | assumption | omega) (by decide) ?_
              refine zA_iadd dX12_band_94 ?_
              refine zA_imul dX12_band_95 ?_
              refine zA_valI (4 * (8 * c + w 105 c)) (by rw [e105]) ?_
              refine zA_istore (lo1 := [zR 73, zI c, zI co, zI y, zI p, zI r, zI (4 * (8 * c + w 105 c))]) dX12_band_96 (by decide) rfl rfl ?_
              refine zA_aload_n dX12_band_98 rfl ?_
              refine zA_getR (n := 106) dX12_band_99 fX12_127 c73 rfl ?_
              refine zA_iload dX12_band_102 rfl ?_
              refine zA_iload_n dX12_band_104 rfl ?_
              refine zA_iastore dX12_band_105 (by first | assumption | exact hr _ _ | exact inR_mk (by omega) (by omega)) c106 (by first | assumption | omega) (by first | assumption | omega) (by decide) ?_
              refine zA_namew (fun w_2 hw_2 => ?_)
              refine zA_range (fun hr => ?_)
              replace hw_2 : w_2 = up w_1 106 (4 * (8 * c + w 105 c)) co := hw_2
              have e2 : w_2 105 c = w 105 c := by rw [hw_2, up_cell _ _ _ _ (by decide)]; exact e105
              refine zA_aload_n dX12_band_106 rfl ?_
              refine zA_getR (n := 106) dX12_band_107 fX12_127 c73 rfl ?_
              refine zA_iload dX12_band_110 rfl ?_
              refine zA_iconst dX12_band_112 ?_
              refine zA_iadd dX12_band_113 ?_
              refine zA_iload_n dX12_band_114 rfl ?_
              refine zA_iastore dX12_band_115 (by first | assumption | exact hr _ _ | exact inR_mk (by omega) (by omega)) c106 (by first | assumption | omega) (by first | assumption | omega) (by decide) ?_
              refine zA_namew (fun w_3 hw_3 => ?_)
              refine zA_range (fun hr => ?_)
              replace hw_3 : w_3 = up w_2 106 ((4 * (8 * c + w 105 c)) + 1) y := hw_3
              refine zA_aload_n dX12_band_116 rfl ?_
              refine zA_getR (n := 106) dX12_band_117 fX12_127 c73 rfl ?_
              refine zA_iload dX12_band_120 rfl ?_
              refine zA_iconst dX12_band_122 ?_
              refine zA_iadd dX12_band_123 ?_
              refine zA_iload dX12_band_124 rfl ?_
              refine zA_iastore dX12_band_126 (by first | assumption | exact hr _ _ | exact inR_mk (by omega) (by omega)) c106 (by first | assumption | omega) (by first | assumption | omega) (by decide) ?_
              refine zA_namew (fun w_4 hw_4 => ?_)
              refine zA_range (fun hr => ?_)
              replace hw_4 : w_4 = up w_3 106 ((4 * (8 * c + w 105 c)) + 2) p := hw_4
              refine zA_aload_n dX12_band_127 rfl ?_
              refine zA_getR (n := 106) dX12_band_128 fX12_127 c73 rfl ?_
              refine zA_iload dX12_band_131 rfl ?_
              refine zA_iconst dX12_band_133 ?_
              refine zA_iadd dX12_band_134 ?_
              refine zA_iload dX12_band_135 rfl ?_
              refine zA_iastore dX12_band_137 (by first | assumption | exact hr _ _ | exact inR_mk (by omega) (by omega)) c106 (by first | assumption | omega) (by first | assumption | omega) (by decide) ?_
              refine zA_namew (fun w_5 hw_5 => ?_)
              refine zA_range (fun hr => ?_)
              replace hw_5 : w_5 = up w_4 106 ((4 * (8 * c + w 105 c)) + 3) r := hw_5
              have e5 : w_5 105 c = w 105 c := by rw [hw_5, up_cell _ _ _ _ (by decide), hw_4, up_cell _ _ _ _ (by decide), hw_3, up_cell _ _ _ _ (by decide)]; exact e2
              refine zA_aload_n dX12_band_138 rfl ?_
              refine zA_getR (n := 105) dX12_band_139 fX12_124 c73 rfl ?_
              refine zA_iload_n dX12_band_142 rfl ?_
              refine zA_dup2 dX12_band_143 rfl rfl ?_
              refine zA_iaload dX12_band_144 c105 (by first | assumption | omega) (by first | assumption | omega) (by decide) ?_
              refine zA_iconst dX12_band_145 ?_
              refine zA_iadd dX12_band_146 ?_
              refine zA_iastore dX12_band_147 (by first | assumption | exact hr _ _ | exact inR_mk (by omega) (by omega)) c105 (by first | assumption | omega) (by first | assumption | omega) (by decide) ?_
              refine zA_namew (fun w_6 hw_6 => ?_)
              refine zA_range (fun hr => ?_)
              replace hw_6 : w_6 = up w_5 105 c ((w_5 105 c) + 1) := hw_6
              refine zA_aload_n dX12_band_148 rfl ?_
              refine zA_getR (n := 105) dX12_band_149 fX12_124 c73 rfl ?_
              refine zA_iload_n dX12_band_152 rfl ?_
              refine zA_iaload dX12_band_153 c105 (by first | assumption | omega) (by first | assumption | omega) (by decide) ?_
              refine zA_iret dX12_band_154 rfl ?_
              exact ⟨rfl, Or.inr (Or.inl ⟨by omega, by omega, by rw [hw_6, up_same, e5], by rw [hw_6, e5, hw_5, hw_4, hw_3, hw_2, hw_1]⟩)⟩
            · skip
              replace c78 := zite_eq c78
              refine zA_iconst dX12_band_81 ?_
              refine zA_iret dX12_band_82 rfl ?_
              exact ⟨rfl, Or.inr (Or.inr ⟨by omega, by omega, rfl, hw_1⟩)⟩
  · skip
    replace c10 := zite_eq c10
    refine zA_aload_n dX12_band_13 rfl ?_
    refine zA_iconst dX12_band_14 ?_
    refine zA_cV (st := []) dX12_band_15 vX12_fail kX12_292 (m_fail (w := w_1) (k := 1) ⟨by decide, by decide⟩) (by decide) c73 rfl rfl (Nat.le_of_ble_eq_true rfl) rfl (zRt_el ?_)
    show zA l mX12_band false 4 0 0 (fun v' S' w' => S' = (ZZ t dr tx) ∧ ((¬ (0 ≤ c ∧ c < w 75 0) ∧ v' = some (zI 0) ∧ w' = up w 73 1 1) ∨ ((0 ≤ c ∧ c < w 75 0) ∧ (((0 ≤ co ∧ co < w 79 c) ∧ (0 ≤ y ∧ y ≤ 300) ∧ (1 ≤ p ∧ p ≤ 9999) ∧ 0 ≤ r ∧ r ≤ 999) ∧ w 105 c < 8) ∧ v' = some (zI (w 105 c + 1)) ∧ w' = up (up (up (up (up (up w 73 1 0) 106 (4 * (8 * c + w 105 c)) co) 106 ((4 * (8 * c + w 105 c)) + 1) y) 106 ((4 * (8 * c + w 105 c)) + 2) p) 106 ((4 * (8 * c + w 105 c)) + 3) r) 105 c (w 105 c + 1)) ∨ ((0 ≤ c ∧ c < w 75 0) ∧ ¬ (((0 ≤ co ∧ co < w 79 c) ∧ (0 ≤ y ∧ y ≤ 300) ∧ (1 ≤ p ∧ p ≤ 9999) ∧ 0 ≤ r ∧ r ≤ 999) ∧ w 105 c < 8) ∧ v' = some (zI (-1)) ∧ w' = up w 73 1 0))) zNo 18 [zR 73, zI c, zI co, zI y, zI p, zI r, .null] [zI 0] (ZZ t dr tx) (up w_1 73 1 1)
    refine zA_iret dX12_band_18 rfl ?_
    exact ⟨rfl, Or.inl ⟨by omega, rfl, by rw [hw_1, up_up]⟩⟩

