/-! yard() of the class -/
def tdQ (w w' : zW) : Prop := (∀ c x, c ≠ 32 → c ≠ 33 → c ≠ 46 → c ≠ 47 → c ≠ 59 → c ≠ 60 → c ≠ 63 → c ≠ 64 → c ≠ 71 → (c ≠ 16 ∨ (x ≠ 15 ∧ x ≠ 16)) → (c ≠ 62 ∨ x ≠ 3) → (c ≠ 44 ∨ x ≠ 6) → (c ≠ 0 ∨ x ≠ 13) → w' c x = w c x) ∧ ((w' 16 15 = 0 ∧ w' 16 16 = 0) ∧ w' 62 3 = 0 ∧ w' 44 6 = 0 ∧ w' 0 13 = 0) ∧
  (∀ x : Int, 0 ≤ x → x < 12 → (w' 32 x = 0 ∧ w' 33 x = 0) ∧ (w' 59 x = 0 ∧ w' 60 x = 0) ∧ w' 63 x = 0 ∧ w' 64 x = 1) ∧ (∀ x : Int, 0 ≤ x → x < 360 → w' 46 x = 0) ∧ (∀ x : Int, 0 ≤ x → x < 7 → w' 47 x = 0) ∧ ∀ x : Int, 0 ≤ x → x < 72 → w' 71 x = 0
set_option maxRecDepth 100000 in
set_option maxHeartbeats 4000000 in
theorem s_takeDraft {l : Launch} {t dr tx : Nat} {w : zW}  : zSp l mX11_takeDraft false 4 0 0 [zR 0] (ZZ t dr tx) w (fun v' S' w' => v' = none ∧ S' = (ZZ dr t tx) ∧ tdQ w w') zNo := by
  refine zA_intro ⟨plainFor_of_name (by decide +kernel), Or.inl (by decide +kernel)⟩ rfl (Nat.le_of_ble_eq_true rfl) ?_
  refine zA_range (fun hr => ?_)
  show zA l mX11_takeDraft false 4 0 0 (fun v' S' w' => v' = none ∧ S' = (ZZ dr t tx) ∧ tdQ w w') zNo 0 [zR 0, .null] [] (ZZ t dr tx) w
  refine zA_aload_n dX11_takeDraft_0 rfl ?_
  refine zA_getR (n := t) dX11_takeDraft_1 fX11_30 c0 rfl ?_
  refine zA_astore_n (lo1 := [zR 0, zR t]) dX11_takeDraft_4 (by decide) rfl rfl ?_
  refine zA_aload_n dX11_takeDraft_5 rfl ?_
  refine zA_aload_n dX11_takeDraft_6 rfl ?_
  refine zA_getR (n := dr) dX11_takeDraft_7 fX11_34 c0 rfl ?_
  refine zA_putR dX11_takeDraft_10 fX11_30 c0 (by show 4 < 17; decide) ⟨fun _ => rfl, fun _ => rfl⟩ ?_
  show zA l mX11_takeDraft false 4 0 0 (fun v' S' w' => v' = none ∧ S' = (ZZ dr t tx) ∧ tdQ w w') zNo 13 [zR 0, zR t] [] (ZZ dr dr tx) w
  refine zA_aload_n dX11_takeDraft_13 rfl ?_
  refine zA_aload_n dX11_takeDraft_14 rfl ?_
  refine zA_putR dX11_takeDraft_15 fX11_34 c0 (by show 5 < 17; decide) ⟨fun _ => rfl, fun _ => rfl⟩ ?_
  show zA l mX11_takeDraft false 4 0 0 (fun v' S' w' => v' = none ∧ S' = (ZZ dr t tx) ∧ tdQ w w') zNo 18 [zR 0, zR t] [] (ZZ dr t tx) w
  refine zA_aload_n dX11_takeDraft_18 rfl ?_
  refine zA_getR (n := 16) dX11_takeDraft_19 fX11_40 c0 rfl ?_
  refine zA_cV (st := []) dX11_takeDraft_22 vX6_drop kX11_124 (s_drop (w := w)) (by decide) c16 rfl rfl (Nat.le_of_ble_eq_true rfl) rfl (zRt_el ?_)
  show zA l mX11_takeDraft false 4 0 0 (fun v' S' w' => v' = none ∧ S' = (ZZ dr t tx) ∧ tdQ w w') zNo 25 [zR 0, zR t] [] (ZZ dr t tx) (up (up w 16 15 0) 16 16 0)
  refine zA_aload_n dX11_takeDraft_25 rfl ?_
  refine zA_getR (n := 29) dX11_takeDraft_26 fX11_50 c0 rfl ?_
  refine zA_cV (st := []) dX11_takeDraft_29 vX7_clear kX11_127 (s_clearL (w := (up (up w 16 15 0) 16 16 0))) (by decide) c29 rfl rfl (Nat.le_of_ble_eq_true rfl) rfl (fun q_1_v q_1_S q_1_w q_1 => ?_)
  obtain ⟨rfl, rfl, l1, l2, l3⟩ := q_1
  refine zA_range (fun hr => ?_)
  show zA l mX11_takeDraft false 4 0 0 (fun v' S' w' => v' = none ∧ S' = (ZZ dr t tx) ∧ tdQ w w') zNo 32 [zR 0, zR t] [] (ZZ dr t tx) q_1_w
  refine zA_aload_n dX11_takeDraft_32 rfl ?_
  refine zA_getR (n := 54) dX11_takeDraft_33 fX11_85 c0 rfl ?_
  refine zA_cV (st := []) dX11_takeDraft_36 vX3_clear kX11_130 (s_clearI (w := q_1_w)) (by decide) c54 rfl rfl (Nat.le_of_ble_eq_true rfl) rfl (fun q_2_v q_2_S q_2_w q_2 => ?_)
  obtain ⟨rfl, rfl, i1, i2, i3⟩ := q_2
  refine zA_range (fun hr => ?_)
  show zA l mX11_takeDraft false 4 0 0 (fun v' S' w' => v' = none ∧ S' = (ZZ dr t tx) ∧ tdQ w w') zNo 39 [zR 0, zR t] [] (ZZ dr t tx) q_2_w
  refine zA_aload_n dX11_takeDraft_39 rfl ?_
  refine zA_getR (n := 62) dX11_takeDraft_40 fX11_92 c0 rfl ?_
  refine zA_cV (st := []) dX11_takeDraft_43 vX4_clear kX11_131 (s_clearO (w := q_2_w)) (by decide) c62 rfl rfl (Nat.le_of_ble_eq_true rfl) rfl (fun q_3_v q_3_S q_3_w q_3 => ?_)
  obtain ⟨rfl, rfl, o1, o2, o3, o4⟩ := q_3
  refine zA_range (fun hr => ?_)
  show zA l mX11_takeDraft false 4 0 0 (fun v' S' w' => v' = none ∧ S' = (ZZ dr t tx) ∧ tdQ w w') zNo 46 [zR 0, zR t] [] (ZZ dr t tx) q_3_w
  refine zA_aload_n dX11_takeDraft_46 rfl ?_
  refine zA_getR (n := 44) dX11_takeDraft_47 fX11_71 c0 rfl ?_
  refine zA_cV (st := []) dX11_takeDraft_50 vX0_clear kX11_132 (s_clearC (w := q_3_w)) (by decide) c44 rfl rfl (Nat.le_of_ble_eq_true rfl) rfl (fun q_4_v q_4_S q_4_w q_4 => ?_)
  obtain ⟨rfl, rfl, q1, q2, q3, q4⟩ := q_4
  refine zA_range (fun hr => ?_)
  show zA l mX11_takeDraft false 4 0 0 (fun v' S' w' => v' = none ∧ S' = (ZZ dr t tx) ∧ tdQ w w') zNo 53 [zR 0, zR t] [] (ZZ dr t tx) q_4_w
  refine zA_aload_n dX11_takeDraft_53 rfl ?_
  refine zA_iconst dX11_takeDraft_54 ?_
  refine zA_putI dX11_takeDraft_55 fX11_78 c0 rfl ⟨by decide, by decide⟩ ⟨by rfl, by rfl⟩ ?_
  refine zA_namew (fun w_5 hw_5 => ?_)
  refine zA_range (fun hr => ?_)
  replace hw_5 : w_5 = up q_4_w 0 13 0 := hw_5
  refine zA_aload_n dX11_takeDraft_58 rfl ?_
  refine zA_getR (n := 69) dX11_takeDraft_59 fX11_99 c0 rfl ?_
  refine zA_cV (st := []) dX11_takeDraft_62 vX5_clearParts kX11_133 (s_clearP (w := w_5)) (by decide) c69 rfl rfl (Nat.le_of_ble_eq_true rfl) rfl (fun q_6_v q_6_S q_6_w q_6 => ?_)
  obtain ⟨rfl, rfl, p1, p2⟩ := q_6
  refine zA_range (fun hr => ?_)
  show zA l mX11_takeDraft false 4 0 0 (fun v' S' w' => v' = none ∧ S' = (ZZ dr t tx) ∧ tdQ w w') zNo 65 [zR 0, zR t] [] (ZZ dr t tx) q_6_w
  refine zA_vret dX11_takeDraft_65 rfl ?_
  have h5 : ∀ c x, (c ≠ 0 ∨ x ≠ 13) → w_5 c x = q_4_w c x := fun c x a => by rw [hw_5, up_n a]
  have h0 : ∀ c x, (c ≠ 16 ∨ (x ≠ 15 ∧ x ≠ 16)) → (up (up w 16 15 0) 16 16 0) c x = w c x := fun c x a => by rw [up_n (by omega), up_n (by omega)]
  refine ⟨rfl, rfl, fun c x a1 a2 a3 a4 a5 a6 a7 a8 a9 a10 a11 a12 a13 => ?_, ⟨⟨?_, ?_⟩, ?_, ?_, ?_⟩, fun x x0 x1 => ⟨⟨?_, ?_⟩, ⟨?_, ?_⟩, ?_, ?_⟩, fun x x0 x1 => ?_, fun x x0 x1 => ?_, p2⟩
  · rw [p1 c x a9, h5 c x a13, q1 c x a3 a4 a12, o1 c x a7 a8 a11, i1 c x a5 a6, l1 c x a1 a2]; exact h0 c x a10
  · rw [p1 16 15 (by decide), h5 16 15 (by decide), q1 16 15 (by decide) (by decide) (by decide), o1 16 15 (by decide) (by decide) (by decide), i1 16 15 (by decide) (by decide), l1 16 15 (by decide) (by decide), up_idx _ _ _ _ (by decide), up_same]
  · rw [p1 16 16 (by decide), h5 16 16 (by decide), q1 16 16 (by decide) (by decide) (by decide), o1 16 16 (by decide) (by decide) (by decide), i1 16 16 (by decide) (by decide), l1 16 16 (by decide) (by decide), up_same]
  · rw [p1 62 3 (by decide), h5 62 3 (by decide), q1 62 3 (by decide) (by decide) (by decide)]; exact o4
  · rw [p1 44 6 (by decide), h5 44 6 (by decide)]; exact q4
  · rw [p1 0 13 (by decide), hw_5, up_same]
  · rw [p1 32 x (by omega), h5 32 x (by omega), q1 32 x (by omega) (by omega) (by omega), o1 32 x (by omega) (by omega) (by omega), i1 32 x (by omega) (by omega)]; exact l2 x x0 x1
  · rw [p1 33 x (by omega), h5 33 x (by omega), q1 33 x (by omega) (by omega) (by omega), o1 33 x (by omega) (by omega) (by omega), i1 33 x (by omega) (by omega)]; exact l3 x x0 x1
  · rw [p1 59 x (by omega), h5 59 x (by omega), q1 59 x (by omega) (by omega) (by omega), o1 59 x (by omega) (by omega) (by omega)]; exact i2 x x0 x1
  · rw [p1 60 x (by omega), h5 60 x (by omega), q1 60 x (by omega) (by omega) (by omega), o1 60 x (by omega) (by omega) (by omega)]; exact i3 x x0 x1
  · rw [p1 63 x (by omega), h5 63 x (by omega), q1 63 x (by omega) (by omega) (by omega)]; exact o2 x x0 x1
  · rw [p1 64 x (by omega), h5 64 x (by omega), q1 64 x (by omega) (by omega) (by omega)]; exact o3 x x0 x1
  · rw [p1 46 x (by omega), h5 46 x (by omega)]; exact q2 x x0 x1
  · rw [p1 47 x (by omega), h5 47 x (by omega)]; exact q3 x x0 x1

set_option maxRecDepth 100000 in
set_option maxHeartbeats 4000000 in
theorem s_yard {l : Launch} {t dr tx : Nat} {w : zW} {n : Int} (ht : (t = 4 ∧ dr = 10) ∨ (t = 10 ∧ dr = 4)) (hn : inR n) (h6 : w 0 1 ≤ 600)  : zSp l mX11_yard false 9 1 6 [zR 0, zI n] (ZZ t dr tx) w (fun v' S' w' => (0 ≤ n ∧ n ≤ w 0 1) ∧ ((∃ e, (runP (w 1) n 600 (.inl 0) Y00).1 = .inr e ∧ S' = (ZZ t dr 1) ∧ v' = some (zI e.1) ∧ e.1 ≠ 0 ∧ (w' 0 1 = 0 ∧ w' 0 2 = e.2) ∧ (∀ c x, c ≠ 2 → (c < dr ∨ dr + 5 < c) → (c ≠ 0 ∨ (x ≠ 1 ∧ x ≠ 2)) → w' c x = w c x)) ∨ (okP (runP (w 1) n 600 (.inl 0) Y00).1 ∧ S' = (ZZ dr t 1) ∧ v' = some (zI 0) ∧ (w' 0 1 = 0 ∧ w' 0 2 = -1) ∧ yC w' dr (runP (w 1) n 600 (.inl 0) Y00).2 ∧ okY (runP (w 1) n 600 (.inl 0) Y00).2 ∧ ∃ w1, (∀ c x, c ≠ 2 → (c < dr ∨ dr + 5 < c) → (c ≠ 0 ∨ (x ≠ 1 ∧ x ≠ 2)) → w1 c x = w c x) ∧ tdQ w1 w'))) (zXp (False) (¬ (0 ≤ n ∧ n ≤ w 0 1)) (ZZ t dr tx) w) := by
  refine zA_intro ⟨plainFor_of_name (by decide +kernel), Or.inl (by decide +kernel)⟩ rfl (Nat.le_of_ble_eq_true rfl) ?_
  have hdr : dr = 4 ∨ dr = 10 := by omega
  refine zA_range (fun hr => ?_)
  show zA l mX11_yard false 9 1 6 (fun v' S' w' => (0 ≤ n ∧ n ≤ w 0 1) ∧ ((∃ e, (runP (w 1) n 600 (.inl 0) Y00).1 = .inr e ∧ S' = (ZZ t dr 1) ∧ v' = some (zI e.1) ∧ e.1 ≠ 0 ∧ (w' 0 1 = 0 ∧ w' 0 2 = e.2) ∧ (∀ c x, c ≠ 2 → (c < dr ∨ dr + 5 < c) → (c ≠ 0 ∨ (x ≠ 1 ∧ x ≠ 2)) → w' c x = w c x)) ∨ (okP (runP (w 1) n 600 (.inl 0) Y00).1 ∧ S' = (ZZ dr t 1) ∧ v' = some (zI 0) ∧ (w' 0 1 = 0 ∧ w' 0 2 = -1) ∧ yC w' dr (runP (w 1) n 600 (.inl 0) Y00).2 ∧ okY (runP (w 1) n 600 (.inl 0) Y00).2 ∧ ∃ w1, (∀ c x, c ≠ 2 → (c < dr ∨ dr + 5 < c) → (c ≠ 0 ∨ (x ≠ 1 ∧ x ≠ 2)) → w1 c x = w c x) ∧ tdQ w1 w'))) (zXp (False) (¬ (0 ≤ n ∧ n ≤ w 0 1)) (ZZ t dr tx) w) 0 [zR 0, zI n, .null] [] (ZZ t dr tx) w
  refine zA_iload_n dX11_yard_0 rfl ?_
  refine zA_if_lt (tgt := 12) dX11_yard_1 (by decide) (by first | assumption | exact hr _ _ | exact inR_mk (by omega) (by omega)) (fun c1 => ?_) (fun c1 => ?_)
  · skip
    refine zA_throw (sa := 1100) (zIAE_n dX11_yard_12 dX11_yard_15 ⟨dX11_yard_16, dX11_yard_18, dX11_yard_21⟩) (List.mem_of_getElem? (i := 0) rfl) rfl rfl (Nat.le_of_ble_eq_true rfl) (by decide) ?_
    exact ⟨Or.inr ⟨rfl, by omega⟩, rfl, rfl⟩
  · skip
    refine zA_iload_n dX11_yard_4 rfl ?_
    refine zA_aload_n dX11_yard_5 rfl ?_
    refine zA_getI dX11_yard_6 fX11_13 c0 rfl ?_
    refine zA_valI (w 0 1) rfl ?_
    refine zA_icmp_le (tgt := 22) dX11_yard_9 (by decide) (by first | assumption | exact hr _ _ | exact inR_mk (by omega) (by omega)) (by first | assumption | exact hr _ _ | exact inR_mk (by omega) (by omega)) (fun c9 => ?_) (fun c9 => ?_)
    · skip
      refine zA_aload_n dX11_yard_22 rfl ?_
      refine zA_getR (n := 2) dX11_yard_23 fX11_23 c0 rfl ?_
      refine zA_aload_n dX11_yard_26 rfl ?_
      refine zA_getR (n := 1) dX11_yard_27 fX11_9 c0 rfl ?_
      refine zA_iload_n dX11_yard_30 rfl ?_
      refine zA_aload_n dX11_yard_31 rfl ?_
      refine zA_getR (n := dr) dX11_yard_32 fX11_34 c0 rfl ?_
      refine zA_cV (st := []) dX11_yard_35 vX8_read kX11_114 (s_read (w := w) (b := w 1) (n := n) hdr (by omega) (by omega) (fun _ _ _ => rfl)) (by decide) c2 rfl rfl (Nat.le_of_ble_eq_true rfl) rfl (fun q_1_v q_1_S q_1_w q_1 => ?_)
      obtain ⟨rfl, rfl, hfr, hrc, hyk⟩ := q_1
      refine zA_range (fun hr => ?_)
      show zA l mX11_yard false 9 1 6 (fun v' S' w' => (0 ≤ n ∧ n ≤ w 0 1) ∧ ((∃ e, (runP (w 1) n 600 (.inl 0) Y00).1 = .inr e ∧ S' = (ZZ t dr 1) ∧ v' = some (zI e.1) ∧ e.1 ≠ 0 ∧ (w' 0 1 = 0 ∧ w' 0 2 = e.2) ∧ (∀ c x, c ≠ 2 → (c < dr ∨ dr + 5 < c) → (c ≠ 0 ∨ (x ≠ 1 ∧ x ≠ 2)) → w' c x = w c x)) ∨ (okP (runP (w 1) n 600 (.inl 0) Y00).1 ∧ S' = (ZZ dr t 1) ∧ v' = some (zI 0) ∧ (w' 0 1 = 0 ∧ w' 0 2 = -1) ∧ yC w' dr (runP (w 1) n 600 (.inl 0) Y00).2 ∧ okY (runP (w 1) n 600 (.inl 0) Y00).2 ∧ ∃ w1, (∀ c x, c ≠ 2 → (c < dr ∨ dr + 5 < c) → (c ≠ 0 ∨ (x ≠ 1 ∧ x ≠ 2)) → w1 c x = w c x) ∧ tdQ w1 w'))) (zXp (False) (¬ (0 ≤ n ∧ n ≤ w 0 1)) (ZZ t dr tx) w) 38 [zR 0, zI n, .null] [zI (q_1_w 2 6)] (ZZ t dr 1) q_1_w
      refine zA_istore_n (lo1 := [zR 0, zI n, zI (q_1_w 2 6)]) dX11_yard_38 (by decide) rfl rfl ?_
      have hv26 := hr 2 6
      refine zA_aload_n dX11_yard_39 rfl ?_
      refine zA_iconst dX11_yard_40 ?_
      refine zA_putI dX11_yard_41 fX11_13 c0 rfl ⟨by decide, by decide⟩ ⟨rfl, rfl⟩ ?_
      refine zA_namew (fun w_2 hw_2 => ?_)
      refine zA_range (fun hr => ?_)
      replace hw_2 : w_2 = up q_1_w 0 1 0 := hw_2
      refine zA_aload_n dX11_yard_44 rfl ?_
      refine zA_aload_n dX11_yard_45 rfl ?_
      refine zA_getR (n := 2) dX11_yard_46 fX11_23 c0 rfl ?_
      refine zA_getN dX11_yard_49 fX11_118 c2 rfl ?_
      refine zA_valI (w_2 2 7) rfl ?_
      refine zA_putI dX11_yard_52 fX11_17 c0 rfl (by first | assumption | exact hr _ _ | exact inR_mk (by omega) (by omega)) ⟨rfl, rfl⟩ ?_
      refine zA_namew (fun w_3 hw_3 => ?_)
      refine zA_range (fun hr => ?_)
      replace hw_3 : w_3 = up w_2 0 2 (w_2 2 7) := hw_3
      have hf2 : ∀ c x, (c ≠ 0 ∨ (x ≠ 1 ∧ x ≠ 2)) → w_3 c x = q_1_w c x := fun c x a => by rw [hw_3, up_n (by omega), hw_2, up_n (by omega)]
      have hf3 : ∀ c x, c ≠ 2 → (c < dr ∨ dr + 5 < c) → (c ≠ 0 ∨ (x ≠ 1 ∧ x ≠ 2)) → w_3 c x = w c x := fun c x a1 a2 a3 => (hf2 c x a3).trans (hfr c x a1 a2)
      have e1 : w_3 0 1 = 0 := by rw [hw_3, up_idx _ _ _ _ (by decide), hw_2, up_same]
      have e2 : w_3 0 2 = q_1_w 2 7 := by rw [hw_3, up_same, hw_2, up_cell _ _ _ _ (by decide)]
      refine zA_iload_n dX11_yard_55 rfl ?_
      refine zA_if_ne (tgt := 63) dX11_yard_56 (by decide) (by first | assumption | exact hr _ _ | exact inR_mk (by omega) (by omega)) (fun c56 => ?_) (fun c56 => ?_)
      · skip
        refine zA_iload_n dX11_yard_63 rfl ?_
        refine zA_iret dX11_yard_64 rfl ?_
        obtain ⟨e, he⟩ := rC_inr hrc c56
        have hrc2 := hrc
        rw [he] at hrc2
        exact ⟨by omega, Or.inl ⟨e, he, rfl, by rw [hrc2.1.1], hrc2.1.2.1, ⟨e1, e2.trans hrc2.1.2.2⟩, hf3⟩⟩
      · skip
        have hok := (rC_ok hrc).mp c56
        obtain ⟨hyk1, hyk2⟩ := hyk hok
        refine zA_aload_n dX11_yard_59 rfl ?_
        refine zA_cV (st := []) dX11_yard_60 vX11_takeDraft kX11_121 (s_takeDraft (w := w_3)) (by decide) c0 rfl rfl (Nat.le_of_ble_eq_true rfl) rfl (fun q_4_v q_4_S q_4_w q_4 => ?_)
        obtain ⟨rfl, rfl, htd⟩ := q_4
        refine zA_range (fun hr => ?_)
        show zA l mX11_yard false 9 1 6 (fun v' S' w' => (0 ≤ n ∧ n ≤ w 0 1) ∧ ((∃ e, (runP (w 1) n 600 (.inl 0) Y00).1 = .inr e ∧ S' = (ZZ t dr 1) ∧ v' = some (zI e.1) ∧ e.1 ≠ 0 ∧ (w' 0 1 = 0 ∧ w' 0 2 = e.2) ∧ (∀ c x, c ≠ 2 → (c < dr ∨ dr + 5 < c) → (c ≠ 0 ∨ (x ≠ 1 ∧ x ≠ 2)) → w' c x = w c x)) ∨ (okP (runP (w 1) n 600 (.inl 0) Y00).1 ∧ S' = (ZZ dr t 1) ∧ v' = some (zI 0) ∧ (w' 0 1 = 0 ∧ w' 0 2 = -1) ∧ yC w' dr (runP (w 1) n 600 (.inl 0) Y00).2 ∧ okY (runP (w 1) n 600 (.inl 0) Y00).2 ∧ ∃ w1, (∀ c x, c ≠ 2 → (c < dr ∨ dr + 5 < c) → (c ≠ 0 ∨ (x ≠ 1 ∧ x ≠ 2)) → w1 c x = w c x) ∧ tdQ w1 w'))) (zXp (False) (¬ (0 ≤ n ∧ n ≤ w 0 1)) (ZZ t dr tx) w) 63 [zR 0, zI n, zI (q_1_w 2 6)] [] (ZZ dr t 1) q_4_w
        refine zA_iload_n dX11_yard_63 rfl ?_
        refine zA_iret dX11_yard_64 rfl ?_
        obtain ⟨p, hp⟩ := rC_inl hrc c56
        have hrc2 := hrc
        rw [hp] at hrc2
        have k0 : ∀ x, x ≠ 13 → q_4_w 0 x = w_3 0 x := fun x a => htd.1 0 x (by decide) (by decide) (by decide) (by decide) (by decide) (by decide) (by decide) (by decide) (by decide) (Or.inl (by decide)) (Or.inl (by decide)) (Or.inl (by decide)) (Or.inr a)
        refine ⟨by omega, Or.inr ⟨hok, rfl, by rw [c56], ⟨?_, ?_⟩, yC_c hyk1 (fun c x a1 a2 => ?_), hyk2, _, hf3, htd⟩⟩
        · rw [k0 1 (by decide)]; exact e1
        · rw [k0 2 (by decide), e2]; exact hrc2.2.1.2
        · rw [htd.1 c x (by omega) (by omega) (by omega) (by omega) (by omega) (by omega) (by omega) (by omega) (by omega) (Or.inl (by omega)) (Or.inl (by omega)) (Or.inl (by omega)) (Or.inl (by omega))]
          exact hf2 c x (by omega)
    · skip
      refine zA_throw (sa := 1100) (zIAE_n dX11_yard_12 dX11_yard_15 ⟨dX11_yard_16, dX11_yard_18, dX11_yard_21⟩) (List.mem_of_getElem? (i := 0) rfl) rfl rfl (Nat.le_of_ble_eq_true rfl) (by decide) ?_
      exact ⟨Or.inr ⟨rfl, by omega⟩, rfl, rfl⟩

