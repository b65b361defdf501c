set_option maxRecDepth 100000 in
set_option maxHeartbeats 4000000 in
theorem s_plan {l : Launch} {t dr tx : Nat} {w : zW} (ht : t = 4 ∨ t = 10) (hY : okYard w t)  : zSp l mX11_plan false 7 0 0 [zR 0] (ZZ t dr tx) w (fun v' S' w' => v' = some (zI (w' 16 14)) ∧ S' = (ZZ t dr tx) ∧ (∀ c x, c ≠ 16 → (c < 17 ∨ 26 < c ∨ c = 23) → w' c x = w c x) ∧ (w' 16 15 = 1 ∧ w' 16 16 = 0) ∧ (∃ R r, bz (yCan w t) (yW w t) (yP w t) (yT w t) (w t 7) R ∧ ct R [] = r ∧ rz (yCan w t) (yW w t) (yT w t) (w t 7) r ∧ arR (w' 25) (w' 26) r ∧ w' 16 12 = ((r.length : Nat) : Int) ∧ prR (yP w t) r = w' 16 14 ∧ enR (yW w t) r = w' 16 13)) zNo := by
  refine zA_intro ⟨plainFor_of_name (by decide +kernel), Or.inl (by decide +kernel)⟩ rfl (Nat.le_of_ble_eq_true rfl) ?_
  refine zA_range (fun hr => ?_)
  show zA l mX11_plan false 7 0 0 (fun v' S' w' => v' = some (zI (w' 16 14)) ∧ S' = (ZZ t dr tx) ∧ (∀ c x, c ≠ 16 → (c < 17 ∨ 26 < c ∨ c = 23) → w' c x = w c x) ∧ (w' 16 15 = 1 ∧ w' 16 16 = 0) ∧ (∃ R r, bz (yCan w t) (yW w t) (yP w t) (yT w t) (w t 7) R ∧ ct R [] = r ∧ rz (yCan w t) (yW w t) (yT w t) (w t 7) r ∧ arR (w' 25) (w' 26) r ∧ w' 16 12 = ((r.length : Nat) : Int) ∧ prR (yP w t) r = w' 16 14 ∧ enR (yW w t) r = w' 16 13)) zNo 0 [zR 0] [] (ZZ t dr tx) w
  refine zA_aload_n dX11_plan_0 rfl ?_
  refine zA_getR (n := 16) dX11_plan_1 fX11_40 c0 rfl ?_
  refine zA_aload_n dX11_plan_4 rfl ?_
  refine zA_getR (n := t) dX11_plan_5 fX11_30 c0 rfl ?_
  refine zA_cV (st := []) dX11_plan_8 vX6_make kX11_192 (s_makePlan (w := w) ht hY) (by decide) c16 rfl rfl (Nat.le_of_ble_eq_true rfl) rfl (fun q_1_v q_1_S q_1_w q_1 => ?_)
  obtain ⟨rfl, rfl, hq⟩ := q_1
  refine zA_range (fun hr => ?_)
  show zA l mX11_plan false 7 0 0 (fun v' S' w' => v' = some (zI (w' 16 14)) ∧ S' = (ZZ t dr tx) ∧ (∀ c x, c ≠ 16 → (c < 17 ∨ 26 < c ∨ c = 23) → w' c x = w c x) ∧ (w' 16 15 = 1 ∧ w' 16 16 = 0) ∧ (∃ R r, bz (yCan w t) (yW w t) (yP w t) (yT w t) (w t 7) R ∧ ct R [] = r ∧ rz (yCan w t) (yW w t) (yT w t) (w t 7) r ∧ arR (w' 25) (w' 26) r ∧ w' 16 12 = ((r.length : Nat) : Int) ∧ prR (yP w t) r = w' 16 14 ∧ enR (yW w t) r = w' 16 13)) zNo 11 [zR 0] [zI (q_1_w 16 14)] (ZZ t dr tx) q_1_w
  refine zA_iret dX11_plan_11 rfl ?_
  exact ⟨rfl, rfl, hq⟩

