/-! the reader of the class: a whole text -/
theorem clF_0 {b : Int → Int} {n p : Int} {Y : zW} (h : wh b n p = 0) : (clF b n p Y).1 = (if 12 ≤ Y 0 0 then .inr (2, tkS b n p) else pSign b n (pNum b n 1 200 (.inl (tkE b n p)))) ∧ (okP (clF b n p Y).1 → (clF b n p Y).2 = yAddC Y (pVal b n (.inl (tkE b n p)))) := by
  have e : clF b n p Y = (if 12 ≤ Y 0 0 then (.inr (2, tkS b n p), Y) else (pSign b n (pNum b n 1 200 (.inl (tkE b n p))), yAddC Y (pVal b n (.inl (tkE b n p))))) := if_pos h
  rw [e]
  by_cases g : 12 ≤ Y 0 0
  · rw [if_pos g, if_pos g]; exact ⟨rfl, fun q => (show False from q).elim⟩
  · rw [if_neg g, if_neg g]; exact ⟨rfl, fun _ => rfl⟩
theorem clF_1 {b : Int → Int} {n p : Int} {Y : zW} (h : wh b n p = 1) : (clF b n p Y).1 = pSign b n (wndF b n 31 (.inl (tkE b n p)) Y).1 ∧ (okP (clF b n p Y).1 → (clF b n p Y).2 = (wndF b n 31 (.inl (tkE b n p)) Y).2) := by
  unfold clF
  rw [if_neg (by omega), if_pos h]
  exact ⟨rfl, fun _ => rfl⟩
theorem clF_2 {b : Int → Int} {n p : Int} {Y : zW} (h : wh b n p = 2) : (clF b n p Y).1 = (if 8 ≤ Y 0 1 then .inr (2, tkS b n p) else pSign b n (lt6 b n Y (.inl (tkE b n p)))) ∧ (okP (clF b n p Y).1 → (clF b n p Y).2 = yAddL Y (pVal b n (.inl (tkE b n p))) (pVal b n (lt1 b n Y (.inl (tkE b n p)))) (pVal b n (lt2 b n Y (.inl (tkE b n p)))) (pVal b n (lt3 b n Y (.inl (tkE b n p)))) (pVal b n (lt4 b n Y (.inl (tkE b n p)))) (pVal b n (lt5 b n Y (.inl (tkE b n p))))) := by
  unfold clF
  rw [if_neg (by omega), if_neg (by omega), if_pos h]
  by_cases g : 8 ≤ Y 0 1
  · rw [if_pos g, if_pos g]; exact ⟨rfl, fun q => (show False from q).elim⟩
  · rw [if_neg g, if_neg g]; exact ⟨rfl, fun _ => rfl⟩
theorem clF_3 {b : Int → Int} {n p : Int} {Y : zW} (h : wh b n p = 3) : (clF b n p Y).1 = pSign b n (rd3 b n Y (.inl (tkE b n p))) ∧ (okP (clF b n p Y).1 → (clF b n p Y).2 = yAddR Y (pVal b n (.inl (tkE b n p))) (pVal b n (rd1 b n Y (.inl (tkE b n p)))) (pVal b n (rd2 b n Y (.inl (tkE b n p))))) := by
  unfold clF
  rw [if_neg (by omega), if_neg (by omega), if_neg (by omega), if_pos h]
  exact ⟨rfl, fun _ => rfl⟩
theorem clF_4 {b : Int → Int} {n p : Int} {Y : zW} (h : wh b n p = 4) : (clF b n p Y).1 = (if 12 ≤ Y 0 3 then .inr (2, tkS b n p) else pSign b n (ne3 b n Y (.inl (tkE b n p)))) ∧ (okP (clF b n p Y).1 → (clF b n p Y).2 = yAddN Y (pVal b n (.inl (tkE b n p))) (pVal b n (ne1 b n Y (.inl (tkE b n p)))) (pVal b n (ne2 b n Y (.inl (tkE b n p))))) := by
  unfold clF
  rw [if_neg (by omega), if_neg (by omega), if_neg (by omega), if_neg (by omega), if_pos h]
  by_cases g : 12 ≤ Y 0 3
  · rw [if_pos g, if_pos g]; exact ⟨rfl, fun q => (show False from q).elim⟩
  · rw [if_neg g, if_neg g]; exact ⟨rfl, fun _ => rfl⟩
theorem clF_5 {b : Int → Int} {n p : Int} {Y : zW} (h : wh b n p = -1) : (clF b n p Y).1 = .inr (1, tkS b n p) := by
  unfold clF
  rw [if_neg (by omega), if_neg (by omega), if_neg (by omega), if_neg (by omega), if_neg (by omega)]
theorem wh_0 {b : Int → Int} {n p : Int} (h : isW b n 0 p) : wh b n p = 0 := if_pos h
theorem wh_1 {b : Int → Int} {n p : Int} (h0 : ¬ isW b n 0 p) (h : isW b n 1 p) : wh b n p = 1 := (if_neg h0).trans (if_pos h)
theorem wh_2 {b : Int → Int} {n p : Int} (h0 : ¬ isW b n 0 p) (h1 : ¬ isW b n 1 p) (h : isW b n 2 p) : wh b n p = 2 := (if_neg h0).trans ((if_neg h1).trans (if_pos h))
theorem wh_3 {b : Int → Int} {n p : Int} (h0 : ¬ isW b n 0 p) (h1 : ¬ isW b n 1 p) (h2 : ¬ isW b n 2 p) (h : isW b n 3 p) : wh b n p = 3 := (if_neg h0).trans ((if_neg h1).trans ((if_neg h2).trans (if_pos h)))
theorem wh_4 {b : Int → Int} {n p : Int} (h0 : ¬ isW b n 0 p) (h1 : ¬ isW b n 1 p) (h2 : ¬ isW b n 2 p) (h3 : ¬ isW b n 3 p) (h : isW b n 4 p) : wh b n p = 4 := (if_neg h0).trans ((if_neg h1).trans ((if_neg h2).trans ((if_neg h3).trans (if_pos h))))
theorem wh_5 {b : Int → Int} {n p : Int} (h0 : ¬ isW b n 0 p) (h1 : ¬ isW b n 1 p) (h2 : ¬ isW b n 2 p) (h3 : ¬ isW b n 3 p) (h4 : ¬ isW b n 4 p) : wh b n p = -1 := (if_neg h0).trans ((if_neg h1).trans ((if_neg h2).trans ((if_neg h3).trans (if_neg h4))))
theorem wh_b {b : Int → Int} {n p : Int} : wh b n p = 0 ∨ wh b n p = 1 ∨ wh b n p = 2 ∨ wh b n p = 3 ∨ wh b n p = 4 ∨ wh b n p = -1 := by
  by_cases h0 : isW b n 0 p
  · exact Or.inl (wh_0 h0)
  by_cases h1 : isW b n 1 p
  · exact Or.inr (Or.inl (wh_1 h0 h1))
  by_cases h2 : isW b n 2 p
  · exact Or.inr (Or.inr (Or.inl (wh_2 h0 h1 h2)))
  by_cases h3 : isW b n 3 p
  · exact Or.inr (Or.inr (Or.inr (Or.inl (wh_3 h0 h1 h2 h3))))
  by_cases h4 : isW b n 4 p
  · exact Or.inr (Or.inr (Or.inr (Or.inr (Or.inl (wh_4 h0 h1 h2 h3 h4)))))
  · exact Or.inr (Or.inr (Or.inr (Or.inr (Or.inr (wh_5 h0 h1 h2 h3 h4)))))
theorem wndF_ok {b : Int → Int} {n : Int} : ∀ (k : Nat) (s : zP) (Y : zW), okY Y → okP (wndF b n k s Y).1 → okY (wndF b n k s Y).2
  | 0, _, _, h, _ => h
  | k + 1, s, Y, h, g => by
    cases s with
    | inr e => exact (show False from g).elim
    | inl q =>
      have e : wndF b n (k + 1) (.inl q) Y = (match wnd1 b n (.inl q) Y with | .inr e => (.inr e, Y) | .inl p => if tkK b n p = 2 then wndF b n k (.inl p) (yAddW Y (pVal b n (.inl q))) else (.inl p, yAddW Y (pVal b n (.inl q)))) := rfl
      have hok := wnd1_ok (b := b) (n := n) (p := q) (Y := Y)
      rw [e] at g ⊢
      cases hw : wnd1 b n (.inl q) Y with
      | inr e2 => rw [hw] at g; exact (show False from g).elim
      | inl p =>
        rw [hw] at g hok
        have h1 := hok trivial
        have hY := okY_W h h1.2 h1.1.1 h1.1.2
        show okY (if tkK b n p = 2 then wndF b n k (.inl p) (yAddW Y (pVal b n (.inl q))) else (.inl p, yAddW Y (pVal b n (.inl q)))).2
        have g2 : okP (if tkK b n p = 2 then wndF b n k (.inl p) (yAddW Y (pVal b n (.inl q))) else (.inl p, yAddW Y (pVal b n (.inl q)))).1 := g
        by_cases k2 : tkK b n p = 2
        · rw [if_pos k2] at g2 ⊢
          exact wndF_ok k _ _ hY g2
        · rw [if_neg k2]; exact hY
theorem okY_cl {b : Int → Int} {n p : Int} {Y : zW} (p0 : 0 ≤ p) (p1 : p ≤ n) (h : okY Y) (g : okP (clF b n p Y).1) : okY (clF b n p Y).2 := by
  have hi := pNum_inl (b := b) p1 p0
  rcases wh_b (b := b) (n := n) (p := p) with e | e | e | e | e | e
  · obtain ⟨e1, e2⟩ := clF_0 (Y := Y) e
    rw [e2 g]
    rw [e1] at g
    by_cases q : 12 ≤ Y 0 0
    · rw [if_pos q] at g; exact (show False from g).elim
    · rw [if_neg q] at g
      have := (pNum_ok (pSign_ok g)).2
      exact okY_C h (by omega) this.1 this.2
  · obtain ⟨e1, e2⟩ := clF_1 (Y := Y) e
    rw [e2 g]
    rw [e1] at g
    exact wndF_ok 31 _ _ h (pSign_ok g)
  · obtain ⟨e1, e2⟩ := clF_2 (Y := Y) e
    rw [e2 g]
    rw [e1] at g
    by_cases q : 8 ≤ Y 0 1
    · rw [if_pos q] at g; exact (show False from g).elim
    · rw [if_neg q] at g
      obtain ⟨-, h0, h1, h2, h3, h4, h5⟩ := lt_all hi (pSign_ok g)
      exact okY_L h (by omega) h0 h1 h2 h3 h4 h5
  · obtain ⟨e1, e2⟩ := clF_3 (Y := Y) e
    rw [e2 g]
    rw [e1] at g
    obtain ⟨-, h0, h1, h2, h3, h4⟩ := rd_all hi (pSign_ok g)
    have := h.1
    exact okY_R h (by omega) (by omega) h2 h3 h4
  · obtain ⟨e1, e2⟩ := clF_4 (Y := Y) e
    rw [e2 g]
    rw [e1] at g
    by_cases q : 12 ≤ Y 0 3
    · rw [if_pos q] at g; exact (show False from g).elim
    · rw [if_neg q] at g
      obtain ⟨-, h0, h1, h2⟩ := ne_all hi (pSign_ok g)
      exact okY_N h (by omega) h0 h1 h2
  · rw [clF_5 e] at g; exact (show False from g).elim
theorem runP_r {b : Int → Int} {n : Int} {k : Nat} {e : Int × Int} {Y : zW} : runP b n k (.inr e) Y = (.inr e, Y) := by
  cases k <;> rfl
theorem runP_e {b : Int → Int} {n p : Int} {k : Nat} {Y : zW} (h : tkK b n p = 0) : runP b n k (.inl p) Y = (.inl p, Y) := by
  cases k with
  | zero => rfl
  | succ k => exact if_pos h
theorem runP_s {b : Int → Int} {n p : Int} {k : Nat} {Y : zW} (h : tkK b n p ≠ 0) : runP b n (k + 1) (.inl p) Y = runP b n k (clF b n p Y).1 (clF b n p Y).2 := if_neg h
theorem rC_W {b : Int → Int} {n p : Int} {w : zW} {k : Nat} (h : rC b n w (.inl p)) : (w 2 2 = 1 ∧ w 2 4 - w 2 3 = sLen k ∧ ∀ i : Int, 0 ≤ i → i < sLen k → b (w 2 3 + i) = sCh k i) ↔ isW b n k p := by
  obtain ⟨-, -, ⟨f3, f4⟩, f2, -⟩ := h
  unfold isW; rw [f2, f3, f4]
set_option maxRecDepth 100000 in
set_option maxHeartbeats 4000000 in
theorem s_clearY {l : Launch} {t dr tx : Nat} {w : zW} (hdr : dr = 4 ∨ dr = 10) : zSp l mX10_clear false 2 0 0 [zR dr] (ZZ t dr tx) w (fun v' S' w' => v' = none ∧ S' = (ZZ t dr tx) ∧ (∀ c x, (c < dr ∨ dr + 5 < c) → w' c x = w c x) ∧ yC w' dr Y00) zNo := by
  refine zA_intro ⟨plainFor_of_name (by decide +kernel), Or.inl (by decide +kernel)⟩ rfl (Nat.le_of_ble_eq_true rfl) ?_
  refine zA_range (fun hr => ?_)
  show zA l mX10_clear false 2 0 0 (fun v' S' w' => v' = none ∧ S' = (ZZ t dr tx) ∧ (∀ c x, (c < dr ∨ dr + 5 < c) → w' c x = w c x) ∧ yC w' dr Y00) zNo 0 [zR dr] [] (ZZ t dr tx) w
  refine zA_aload_n dX10_clear_0 rfl ?_
  refine zA_getR (n := (dr + 2)) dX10_clear_1 fX10_15 (cY0 hdr) rfl ?_
  refine zA_iconst dX10_clear_4 ?_
  refine zA_cS (st := []) dX10_clear_5 sJ7_fill_53178 kX10_43 (s_fill (w := w) (q := dr + 2) (z := 144) (v := 1) (cY2 hdr) (by decide) ⟨by decide, by decide⟩) (by decide) rfl rfl (Nat.le_of_ble_eq_true rfl) (fun q_1_v q_1_S q_1_w q_1 => ?_)
  obtain ⟨rfl, rfl, ha1, ha2⟩ := q_1
  refine zA_range (fun hr => ?_)
  show zA l mX10_clear false 2 0 0 (fun v' S' w' => v' = none ∧ S' = (ZZ t dr tx) ∧ (∀ c x, (c < dr ∨ dr + 5 < c) → w' c x = w c x) ∧ yC w' dr Y00) zNo 8 [zR dr] [] (ZZ t dr tx) q_1_w
  refine zA_aload_n dX10_clear_8 rfl ?_
  refine zA_getR (n := (dr + 3)) dX10_clear_9 fX10_18 (cY0 hdr) rfl ?_
  refine zA_bipush dX10_clear_12 rfl ?_
  refine zA_cS (st := []) dX10_clear_14 sJ7_fill_53178 kX10_43 (s_fill (w := q_1_w) (q := dr + 3) (z := 30) (v := 13) (cY3 hdr) (by decide) ⟨by decide, by decide⟩) (by decide) rfl rfl (Nat.le_of_ble_eq_true rfl) (fun q_2_v q_2_S q_2_w q_2 => ?_)
  obtain ⟨rfl, rfl, hb1, hb2⟩ := q_2
  refine zA_range (fun hr => ?_)
  show zA l mX10_clear false 2 0 0 (fun v' S' w' => v' = none ∧ S' = (ZZ t dr tx) ∧ (∀ c x, (c < dr ∨ dr + 5 < c) → w' c x = w c x) ∧ yC w' dr Y00) zNo 17 [zR dr] [] (ZZ t dr tx) q_2_w
  refine zA_aload_n dX10_clear_17 rfl ?_
  refine zA_getR (n := (dr + 5)) dX10_clear_18 fX10_24 (cY0 hdr) rfl ?_
  refine zA_iconst dX10_clear_21 ?_
  refine zA_cS (st := []) dX10_clear_22 sJ7_fill_53178 kX10_43 (s_fill (w := q_2_w) (q := dr + 5) (z := 12) (v := 0) (cY5 hdr) (by decide) ⟨by decide, by decide⟩) (by decide) rfl rfl (Nat.le_of_ble_eq_true rfl) (fun q_3_v q_3_S q_3_w q_3 => ?_)
  obtain ⟨rfl, rfl, hc1, hc2⟩ := q_3
  refine zA_range (fun hr => ?_)
  show zA l mX10_clear false 2 0 0 (fun v' S' w' => v' = none ∧ S' = (ZZ t dr tx) ∧ (∀ c x, (c < dr ∨ dr + 5 < c) → w' c x = w c x) ∧ yC w' dr Y00) zNo 25 [zR dr] [] (ZZ t dr tx) q_3_w
  refine zA_aload_n dX10_clear_25 rfl ?_
  refine zA_iconst dX10_clear_26 ?_
  refine zA_putI dX10_clear_27 fX10_27 (cY0 hdr) rfl ⟨by decide, by decide⟩ ⟨rfl, rfl⟩ ?_
  refine zA_namew (fun w_4 hw_4 => ?_)
  refine zA_range (fun hr => ?_)
  replace hw_4 : w_4 = up q_3_w dr 5 0 := hw_4
  refine zA_aload_n dX10_clear_30 rfl ?_
  refine zA_iconst dX10_clear_31 ?_
  refine zA_putI dX10_clear_32 fX10_31 (cY0 hdr) rfl ⟨by decide, by decide⟩ ⟨rfl, rfl⟩ ?_
  refine zA_namew (fun w_5 hw_5 => ?_)
  refine zA_range (fun hr => ?_)
  replace hw_5 : w_5 = up w_4 dr 6 0 := hw_5
  refine zA_aload_n dX10_clear_35 rfl ?_
  refine zA_iconst dX10_clear_36 ?_
  refine zA_putI dX10_clear_37 fX10_34 (cY0 hdr) rfl ⟨by decide, by decide⟩ ⟨rfl, rfl⟩ ?_
  refine zA_namew (fun w_6 hw_6 => ?_)
  refine zA_range (fun hr => ?_)
  replace hw_6 : w_6 = up w_5 dr 7 0 := hw_6
  refine zA_aload_n dX10_clear_40 rfl ?_
  refine zA_iconst dX10_clear_41 ?_
  refine zA_putI dX10_clear_42 fX10_37 (cY0 hdr) rfl ⟨by decide, by decide⟩ ⟨rfl, rfl⟩ ?_
  refine zA_namew (fun w_7 hw_7 => ?_)
  refine zA_range (fun hr => ?_)
  replace hw_7 : w_7 = up w_6 dr 8 0 := hw_7
  refine zA_vret dX10_clear_45 rfl ?_
  have hu : ∀ c x, c ≠ dr → w_7 c x = q_3_w c x := fun c x a => by rw [hw_7, up_cell _ _ _ _ a, hw_6, up_cell _ _ _ _ a, hw_5, up_cell _ _ _ _ a, hw_4, up_cell _ _ _ _ a]
  refine ⟨rfl, rfl, fun c x a => ?_, ⟨?_, ?_, ?_, ?_⟩, fun c x0 x1 => ?_, fun d x0 x1 => ?_, fun i x0 x1 => ?_, fun a c x0 x1 hne => ?_, fun i x0 x1 => ?_, fun c x0 x1 => ⟨?_, fun d d0 d1 => ?_⟩⟩
  · rw [hu c x (by omega), hc1 c x (by omega), hb1 c x (by omega)]; exact ha1 c x (by omega)
  · rw [hw_7, up_idx _ _ _ _ (by decide), hw_6, up_idx _ _ _ _ (by decide), hw_5, up_idx _ _ _ _ (by decide), hw_4, up_same]; rfl
  · rw [hw_7, up_idx _ _ _ _ (by decide), hw_6, up_same]; rfl
  · rw [hw_7, up_idx _ _ _ _ (by decide), hw_6, up_idx _ _ _ _ (by decide), hw_5, up_same]; rfl
  · rw [hw_7, up_same]; rfl
  · have : c < 0 := x1
    omega
  · rw [hu _ _ (by omega), hc1 _ _ (by omega), hb2 d x0 x1]; rfl
  · have : i < 6 * 0 := x1
    omega
  · rw [hu _ _ (by omega), hc1 _ _ (by omega), hb1 _ _ (by omega), ha2 _ (by omega) (by omega)]
    show (1 : Int) = if (12 * a + c) / 12 = (12 * a + c) % 12 then 0 else 1
    rw [if_neg (by omega)]
  · rw [hu _ _ (by omega), hc1 _ _ (by omega), hb1 _ _ (by omega), ha2 _ (by omega) (by omega)]; decide
  · rw [hu _ _ (by omega), hc2 c x0 (by omega)]; decide
  · rw [hu _ _ (by omega), hc2 c x0 (by omega), tb_0]
    refine ⟨fun h => (by cases h), fun h => ?_⟩
    obtain ⟨k, ⟨k0, k1⟩, -⟩ := h
    have : k < 0 := k1
    omega

set_option maxRecDepth 100000 in
set_option maxHeartbeats 4000000 in
theorem s_read {l : Launch} {t dr tx : Nat} {w : zW} {b : Int → Int} {n : Int} (hdr : dr = 4 ∨ dr = 10) (n0 : 0 ≤ n) (n6 : n ≤ 600) (hb : ∀ i : Int, 0 ≤ i → i < n → w 1 i = b i) : zSp l mX8_read false 8 0 0 [zR 2, zR 1, zI n, zR dr] (ZZ t dr tx) w (fun v' S' w' => S' = (ZZ t dr 1) ∧ v' = some (zI (w' 2 6)) ∧ frD dr w w' ∧ rC b n w' (runP b n 600 (.inl 0) Y00).1 ∧ (okP (runP b n 600 (.inl 0) Y00).1 → yC w' dr (runP b n 600 (.inl 0) Y00).2 ∧ okY (runP b n 600 (.inl 0) Y00).2)) zNo := by
  refine zA_intro ⟨plainFor_of_name (by decide +kernel), Or.inl (by decide +kernel)⟩ rfl (Nat.le_of_ble_eq_true rfl) ?_
  refine zA_range (fun hr => ?_)
  show zA l mX8_read false 8 0 0 (fun v' S' w' => S' = (ZZ t dr 1) ∧ v' = some (zI (w' 2 6)) ∧ frD dr w w' ∧ rC b n w' (runP b n 600 (.inl 0) Y00).1 ∧ (okP (runP b n 600 (.inl 0) Y00).1 → yC w' dr (runP b n 600 (.inl 0) Y00).2 ∧ okY (runP b n 600 (.inl 0) Y00).2)) zNo 0 [zR 2, zR 1, zI n, zR dr, .null] [] (ZZ t dr tx) w
  refine zA_aload_n dX8_read_0 rfl ?_
  refine zA_aload_n dX8_read_1 rfl ?_
  refine zA_putR dX8_read_2 fX8_9 c2 (by show 0 < 8; decide) ⟨fun _ => rfl, fun _ => rfl⟩ ?_
  show zA l mX8_read false 8 0 0 (fun v' S' w' => S' = (ZZ t dr 1) ∧ v' = some (zI (w' 2 6)) ∧ frD dr w w' ∧ rC b n w' (runP b n 600 (.inl 0) Y00).1 ∧ (okP (runP b n 600 (.inl 0) Y00).1 → yC w' dr (runP b n 600 (.inl 0) Y00).2 ∧ okY (runP b n 600 (.inl 0) Y00).2)) zNo 5 [zR 2, zR 1, zI n, zR dr, .null] [] (ZZ t dr 1) w
  refine zA_aload_n dX8_read_5 rfl ?_
  refine zA_iload_n dX8_read_6 rfl ?_
  refine zA_aload_n dX8_read_7 rfl ?_
  refine zA_alen (n := 600) dX8_read_8 c1 (by decide) ?_
  refine zA_mmin dX8_read_9 kmX8_37 zw_min (by first | assumption | exact hr _ _ | exact inR_mk (by omega) (by omega)) ⟨by decide, by decide⟩ (Nat.le_of_ble_eq_true rfl) ?_
  refine zA_valI n (by omega) ?_
  refine zA_putI dX8_read_12 fX8_15 c2 rfl (by first | assumption | exact hr _ _ | exact inR_mk (by omega) (by omega)) ⟨rfl, rfl⟩ ?_
  refine zA_namew (fun w_1 hw_1 => ?_)
  refine zA_range (fun hr => ?_)
  replace hw_1 : w_1 = up w 2 1 n := hw_1
  refine zA_aload_n dX8_read_15 rfl ?_
  refine zA_iconst dX8_read_16 ?_
  refine zA_putI dX8_read_17 fX8_25 c2 rfl ⟨by decide, by decide⟩ ⟨rfl, rfl⟩ ?_
  refine zA_namew (fun w_2 hw_2 => ?_)
  refine zA_range (fun hr => ?_)
  replace hw_2 : w_2 = up w_1 2 4 0 := hw_2
  refine zA_aload_n dX8_read_20 rfl ?_
  refine zA_iconst dX8_read_21 ?_
  refine zA_putI dX8_read_22 fX8_31 c2 rfl ⟨by decide, by decide⟩ ⟨rfl, rfl⟩ ?_
  refine zA_namew (fun w_3 hw_3 => ?_)
  refine zA_range (fun hr => ?_)
  replace hw_3 : w_3 = up w_2 2 6 0 := hw_3
  refine zA_aload_n dX8_read_25 rfl ?_
  refine zA_iconst dX8_read_26 ?_
  refine zA_putI dX8_read_27 fX8_34 c2 rfl ⟨by decide, by decide⟩ ⟨rfl, rfl⟩ ?_
  refine zA_namew (fun w_4 hw_4 => ?_)
  refine zA_range (fun hr => ?_)
  replace hw_4 : w_4 = up w_3 2 7 (-1) := hw_4
  have hg2 : ∀ c x, c ≠ 2 → w_4 c x = w c x := fun c x a => by rw [hw_4, up_cell _ _ _ _ a, hw_3, up_cell _ _ _ _ a, hw_2, up_cell _ _ _ _ a, hw_1, up_cell _ _ _ _ a]
  have hg1 : ∀ i, w_4 1 i = w 1 i := fun i => hg2 1 i (by decide)
  have ha1 : w_4 2 1 = n := by rw [hw_4, up_idx _ _ _ _ (by decide), hw_3, up_idx _ _ _ _ (by decide), hw_2, up_idx _ _ _ _ (by decide), hw_1, up_same]
  have ha4 : w_4 2 4 = 0 := by rw [hw_4, up_idx _ _ _ _ (by decide), hw_3, up_idx _ _ _ _ (by decide), hw_2, up_same]
  have ha6 : w_4 2 6 = 0 := by rw [hw_4, up_idx _ _ _ _ (by decide), hw_3, up_same]
  have ha7 : w_4 2 7 = -1 := by rw [hw_4, up_same]
  refine zA_aload_n dX8_read_30 rfl ?_
  refine zA_cV (st := []) dX8_read_31 vX10_clear kX8_43 (s_clearY (w := w_4) (tx := 1) hdr) (by decide) (cY0 hdr) rfl rfl (Nat.le_of_ble_eq_true rfl) rfl (fun q_5_v q_5_S q_5_w q_5 => ?_)
  obtain ⟨rfl, rfl, hcf, hyi0⟩ := q_5
  refine zA_range (fun hr => ?_)
  show zA l mX8_read false 8 0 0 (fun v' S' w' => S' = (ZZ t dr 1) ∧ v' = some (zI (w' 2 6)) ∧ frD dr w w' ∧ rC b n w' (runP b n 600 (.inl 0) Y00).1 ∧ (okP (runP b n 600 (.inl 0) Y00).1 → yC w' dr (runP b n 600 (.inl 0) Y00).2 ∧ okY (runP b n 600 (.inl 0) Y00).2)) zNo 34 [zR 2, zR 1, zI n, zR dr, .null] [] (ZZ t dr 1) q_5_w
  have hcl1 : q_5_w 2 1 = n := (hcf 2 1 (by omega)).trans ha1
  have hcl4 : q_5_w 2 4 = 0 := (hcf 2 4 (by omega)).trans ha4
  have hcl6 : q_5_w 2 6 = 0 := (hcf 2 6 (by omega)).trans ha6
  have hcl7 : q_5_w 2 7 = -1 := (hcf 2 7 (by omega)).trans ha7
  refine zA_aload_n dX8_read_34 rfl ?_
  refine zA_cV (st := []) dX8_read_35 vX8_step kX8_48 (s_step (w := q_5_w) (n := n) (b := b) ⟨⟨n0, n6⟩, hcl1, fun i i0 i1 => by rw [hcf 1 i (by omega), hg1]; exact hb i i0 i1⟩ (fun _ => ⟨by rw [hcl4]; omega, hcl7⟩)) (by decide) c2 rfl rfl (Nat.le_of_ble_eq_true rfl) rfl (fun q_6_v q_6_S q_6_w q_6 => ?_)
  obtain ⟨rfl, rfl, hoi, hpi, hsti⟩ := q_6
  have hRi := (hsti.resolve_left (fun h => h.1 hcl6)).2
  rw [hcl4] at hRi
  have hyi := yC_o hdr hyi0 hoi
  have hfi : frD dr w q_6_w := fun c x a e => (hoi c x a).trans ((hcf c x e).trans (hg2 c x a))
  refine zA_range (fun hr => ?_)
  show zA l mX8_read false 8 0 0 (fun v' S' w' => S' = (ZZ t dr 1) ∧ v' = some (zI (w' 2 6)) ∧ frD dr w w' ∧ rC b n w' (runP b n 600 (.inl 0) Y00).1 ∧ (okP (runP b n 600 (.inl 0) Y00).1 → yC w' dr (runP b n 600 (.inl 0) Y00).2 ∧ okY (runP b n 600 (.inl 0) Y00).2)) zNo 38 [zR 2, zR 1, zI n, zR dr, .null] [] (ZZ t dr 1) q_6_w
  refine zA_iconst dX8_read_38 ?_
  refine zA_istore (lo1 := [zR 2, zR 1, zI n, zR dr, zI 0]) dX8_read_39 (by decide) rfl rfl ?_
  refine zA_drop 1 (lo1 := [zR 2, .null, zI n, zR dr, zI 0]) rfl ?_
  refine zA_drop 2 (lo1 := [zR 2, .null, .null, zR dr, zI 0]) rfl ?_
  have L41 : ∀ (z41 : Nat) (x : Int) (w1 : zW) (s1 : zP) (Y1 : zW) (x0 : 0 ≤ x) (x1 : x ≤ 600) (hf : frD dr w w1) (hp1 : pC b n w1) (hR1 : rC b n w1 s1) (hY1 : okP s1 → yC w1 dr Y1 ∧ okY Y1) (hc : (runP b n 600 (.inl 0) Y00) = runP b n (600 - x).toNat s1 Y1) (zm : (600 - x).toNat < z41), zA l mX8_read false 8 0 0 (fun v' S' w' => S' = (ZZ t dr 1) ∧ v' = some (zI (w' 2 6)) ∧ frD dr w w' ∧ rC b n w' (runP b n 600 (.inl 0) Y00).1 ∧ (okP (runP b n 600 (.inl 0) Y00).1 → yC w' dr (runP b n 600 (.inl 0) Y00).2 ∧ okY (runP b n 600 (.inl 0) Y00).2)) zNo 41 [zR 2, .null, .null, zR dr, zI x] [] (ZZ t dr 1) w1 := by
    intro z41
    induction z41 with
    | zero => intro x w1 s1 Y1 x0 x1 hf hp1 hR1 hY1 hc zm; exact absurd zm (Nat.not_lt_zero _)
    | succ z41 ih41 =>
      intro x w1 s1 Y1 x0 x1 hf hp1 hR1 hY1 hc zm
      refine zA_range (fun hr => ?_)
      refine zA_iload dX8_read_41 rfl ?_
      refine zA_sipush dX8_read_43 rfl ?_
      have L159 : ∀  (hre : (runP b n 600 (.inl 0) Y00) = (s1, Y1)), zA l mX8_read false 8 0 0 (fun v' S' w' => S' = (ZZ t dr 1) ∧ v' = some (zI (w' 2 6)) ∧ frD dr w w' ∧ rC b n w' (runP b n 600 (.inl 0) Y00).1 ∧ (okP (runP b n 600 (.inl 0) Y00).1 → yC w' dr (runP b n 600 (.inl 0) Y00).2 ∧ okY (runP b n 600 (.inl 0) Y00).2)) zNo 159 [zR 2, .null, .null, zR dr, .null] [] (ZZ t dr 1) w1 := by
        intro  hre
        refine zA_aload_n dX8_read_159 rfl ?_
        refine zA_getI dX8_read_160 fX8_31 c2 rfl ?_
        refine zA_valI (w1 2 6) rfl ?_
        refine zA_iret dX8_read_163 rfl ?_
        rw [hre]
        exact ⟨rfl, rfl, hf, hR1, hY1⟩
      refine zA_icmp_ge (tgt := 159) dX8_read_46 (by decide) (by first | assumption | exact hr _ _ | exact inR_mk (by omega) (by omega)) ⟨by decide, by decide⟩ (fun c46 => ?_) (fun c46 => ?_)
      · skip
        skip
        refine zA_drop 4 (lo1 := [zR 2, .null, .null, zR dr, .null]) rfl ?_
        exact L159 (by rw [hc, show (600 - x).toNat = 0 by omega]; rfl)
      · skip
        refine zA_aload_n dX8_read_49 rfl ?_
        refine zA_getI dX8_read_50 fX8_31 c2 rfl ?_
        refine zA_valI (w1 2 6) rfl ?_
        refine zA_if_ne (tgt := 159) dX8_read_53 (by decide) (by first | assumption | exact hr _ _ | exact inR_mk (by omega) (by omega)) (fun c53 => ?_) (fun c53 => ?_)
        · skip
          skip
          refine zA_drop 4 (lo1 := [zR 2, .null, .null, zR dr, .null]) rfl ?_
          exact L159 (by obtain ⟨e, he⟩ := rC_inr hR1 c53; rw [hc, he]; exact runP_r)
        · skip
          obtain ⟨q1, hs1⟩ := rC_inl hR1 c53
          obtain ⟨hYc, hO1⟩ := hY1 (by rw [hs1]; trivial)
          have hRq := hR1
          rw [hs1] at hRq hc
          have hq0 := hRq.1
          have hbb := rC_b hR1
          refine zA_aload_n dX8_read_56 rfl ?_
          refine zA_getI dX8_read_57 fX8_19 c2 rfl ?_
          refine zA_valI (w1 2 2) rfl ?_
          refine zA_if_eq (tgt := 159) dX8_read_60 (by decide) (by first | assumption | exact hr _ _ | exact inR_mk (by omega) (by omega)) (fun c60 => ?_) (fun c60 => ?_)
          · skip
            skip
            refine zA_drop 4 (lo1 := [zR 2, .null, .null, zR dr, .null]) rfl ?_
            exact L159 (by rw [hc, hs1]; exact runP_e (hRq.2.2.2.1.symm.trans c60))
          · skip
            have hk0 : tkK b n q1 ≠ 0 := fun h => c60 (hRq.2.2.2.1.trans h)
            refine zA_aload_n dX8_read_63 rfl ?_
            refine zA_ldcS (a := 1000) dX8_read_64 (List.mem_of_getElem? (i := 23) rfl) ?_
            have L153 : ∀ (w2 : zW) (hf2 : frD dr w1 w2) (hp2 : pC b n w2) (hR2 : rC b n w2 (clF b n q1 Y1).1) (hy2 : okP (clF b n q1 Y1).1 → yC w2 dr (clF b n q1 Y1).2), zA l mX8_read false 8 0 0 (fun v' S' w' => S' = (ZZ t dr 1) ∧ v' = some (zI (w' 2 6)) ∧ frD dr w w' ∧ rC b n w' (runP b n 600 (.inl 0) Y00).1 ∧ (okP (runP b n 600 (.inl 0) Y00).1 → yC w' dr (runP b n 600 (.inl 0) Y00).2 ∧ okY (runP b n 600 (.inl 0) Y00).2)) zNo 153 [zR 2, .null, .null, zR dr, zI x] [] (ZZ t dr 1) w2 := by
              intro w2 hf2 hp2 hR2 hy2
              refine zA_range (fun hr => ?_)
              refine zA_iinc (lo1 := [zR 2, .null, .null, zR dr, zI (x + 1)]) dX8_read_153 rfl (by decide) rfl rfl ?_
              refine zA_goto (tgt := 41) dX8_read_156 (by decide) ?_
              exact ih41 (x + 1) _ _ _ (by omega) (by omega) (frD_tr hf hf2) hp2 hR2 (fun h => ⟨hy2 h, okY_cl hq0.1 hq0.2 hO1 h⟩) (by rw [hc, show (600 - x).toNat = (600 - (x + 1)).toNat + 1 by omega]; exact runP_s hk0) (by omega)
            refine zA_cV (st := []) dX8_read_66 vX8_isWord kX8_53 (s_isWord (w := w1) (k := 0) (by decide) hp1 hbb.1 hbb.2.1 hbb.2.2) (by decide) c2 rfl rfl (Nat.le_of_ble_eq_true rfl) rfl (zRp1_el (fun rr0 hrr0 => ?_))
            have hrb0 : 0 ≤ rr0 ∧ rr0 ≤ 1 := by rcases hrr0 with ⟨h, -⟩ | ⟨h, -⟩ <;> omega
            rw [rC_W hRq] at hrr0
            refine zA_if_eq (tgt := 80) dX8_read_69 (by decide) (by first | assumption | exact hr _ _ | exact inR_mk (by omega) (by omega)) (fun c69 => ?_) (fun c69 => ?_)
            · skip
              have hnw0 := (hrr0.resolve_left (fun h => by have := h.1; omega)).2
              refine zA_aload_n dX8_read_80 rfl ?_
              refine zA_ldcS (a := 1001) dX8_read_81 (List.mem_of_getElem? (i := 24) rfl) ?_
              refine zA_cV (st := []) dX8_read_83 vX8_isWord kX8_53 (s_isWord (w := w1) (k := 1) (by decide) hp1 hbb.1 hbb.2.1 hbb.2.2) (by decide) c2 rfl rfl (Nat.le_of_ble_eq_true rfl) rfl (zRp1_el (fun rr1 hrr1 => ?_))
              have hrb1 : 0 ≤ rr1 ∧ rr1 ≤ 1 := by rcases hrr1 with ⟨h, -⟩ | ⟨h, -⟩ <;> omega
              rw [rC_W hRq] at hrr1
              refine zA_if_eq (tgt := 97) dX8_read_86 (by decide) (by first | assumption | exact hr _ _ | exact inR_mk (by omega) (by omega)) (fun c86 => ?_) (fun c86 => ?_)
              · skip
                have hnw1 := (hrr1.resolve_left (fun h => by have := h.1; omega)).2
                refine zA_aload_n dX8_read_97 rfl ?_
                refine zA_ldcS (a := 1002) dX8_read_98 (List.mem_of_getElem? (i := 25) rfl) ?_
                refine zA_cV (st := []) dX8_read_100 vX8_isWord kX8_53 (s_isWord (w := w1) (k := 2) (by decide) hp1 hbb.1 hbb.2.1 hbb.2.2) (by decide) c2 rfl rfl (Nat.le_of_ble_eq_true rfl) rfl (zRp1_el (fun rr2 hrr2 => ?_))
                have hrb2 : 0 ≤ rr2 ∧ rr2 ≤ 1 := by rcases hrr2 with ⟨h, -⟩ | ⟨h, -⟩ <;> omega
                rw [rC_W hRq] at hrr2
                refine zA_if_eq (tgt := 114) dX8_read_103 (by decide) (by first | assumption | exact hr _ _ | exact inR_mk (by omega) (by omega)) (fun c103 => ?_) (fun c103 => ?_)
                · skip
                  have hnw2 := (hrr2.resolve_left (fun h => by have := h.1; omega)).2
                  refine zA_aload_n dX8_read_114 rfl ?_
                  refine zA_ldcS (a := 1003) dX8_read_115 (List.mem_of_getElem? (i := 26) rfl) ?_
                  refine zA_cV (st := []) dX8_read_117 vX8_isWord kX8_53 (s_isWord (w := w1) (k := 3) (by decide) hp1 hbb.1 hbb.2.1 hbb.2.2) (by decide) c2 rfl rfl (Nat.le_of_ble_eq_true rfl) rfl (zRp1_el (fun rr3 hrr3 => ?_))
                  have hrb3 : 0 ≤ rr3 ∧ rr3 ≤ 1 := by rcases hrr3 with ⟨h, -⟩ | ⟨h, -⟩ <;> omega
                  rw [rC_W hRq] at hrr3
                  refine zA_if_eq (tgt := 131) dX8_read_120 (by decide) (by first | assumption | exact hr _ _ | exact inR_mk (by omega) (by omega)) (fun c120 => ?_) (fun c120 => ?_)
                  · skip
                    have hnw3 := (hrr3.resolve_left (fun h => by have := h.1; omega)).2
                    refine zA_aload_n dX8_read_131 rfl ?_
                    refine zA_ldcS (a := 1004) dX8_read_132 (List.mem_of_getElem? (i := 27) rfl) ?_
                    refine zA_cV (st := []) dX8_read_134 vX8_isWord kX8_53 (s_isWord (w := w1) (k := 4) (by decide) hp1 hbb.1 hbb.2.1 hbb.2.2) (by decide) c2 rfl rfl (Nat.le_of_ble_eq_true rfl) rfl (zRp1_el (fun rr4 hrr4 => ?_))
                    have hrb4 : 0 ≤ rr4 ∧ rr4 ≤ 1 := by rcases hrr4 with ⟨h, -⟩ | ⟨h, -⟩ <;> omega
                    rw [rC_W hRq] at hrr4
                    refine zA_if_eq (tgt := 148) dX8_read_137 (by decide) (by first | assumption | exact hr _ _ | exact inR_mk (by omega) (by omega)) (fun c137 => ?_) (fun c137 => ?_)
                    · skip
                      have hnw4 := (hrr4.resolve_left (fun h => by have := h.1; omega)).2
                      refine zA_aload_n dX8_read_148 rfl ?_
                      refine zA_iconst dX8_read_149 ?_
                      refine zA_cV (st := []) dX8_read_150 vX8_fail kX8_81 (s_failR (w := w1) (t := t) (dr := dr) (tx := 1) (k := 1) ⟨by decide, by decide⟩) (by decide) c2 rfl rfl (Nat.le_of_ble_eq_true rfl) rfl (fun q_7_v q_7_S q_7_w q_7 => ?_)
                      obtain ⟨rfl, rfl, rfl⟩ := q_7
                      refine zA_range (fun hr => ?_)
                      show zA l mX8_read false 8 0 0 (fun v' S' w' => S' = (ZZ t dr 1) ∧ v' = some (zI (w' 2 6)) ∧ frD dr w w' ∧ rC b n w' (runP b n 600 (.inl 0) Y00).1 ∧ (okP (runP b n 600 (.inl 0) Y00).1 → yC w' dr (runP b n 600 (.inl 0) Y00).2 ∧ okY (runP b n 600 (.inl 0) Y00).2)) zNo 153 [zR 2, .null, .null, zR dr, zI x] [] (ZZ t dr 1) (failw w1 1)
                      exact L153 _ (frD_o failw_o) (pC_o hp1) (by rw [clF_5 (wh_5 hnw0 hnw1 hnw2 hnw3 hnw4)]; exact rC_f hRq (by decide)) (fun h => by rw [clF_5 (wh_5 hnw0 hnw1 hnw2 hnw3 hnw4)] at h; exact (show False from h).elim)
                    · skip
                      have hyw4 := (hrr4.resolve_right (fun h => by have := h.1; omega)).2
                      refine zA_aload_n dX8_read_140 rfl ?_
                      refine zA_aload_n dX8_read_141 rfl ?_
                      refine zA_cV (st := []) dX8_read_142 vX8_readNest kX8_78 (s_readNest (w := w1) (p := q1) (Y := Y1) hdr hp1 hRq hYc hO1) (by decide) c2 rfl rfl (Nat.le_of_ble_eq_true rfl) rfl (fun q_8_v q_8_S q_8_w q_8 => ?_)
                      have hwh := wh_4 hnw0 hnw1 hnw2 hnw3 hyw4
                      obtain ⟨rfl, rfl, hfb, hpb, hRb, hyb⟩ := q_8
                      obtain ⟨cl1, cl2⟩ := clF_4 (Y := Y1) hwh
                      rw [← cl1] at hRb hyb
                      refine zA_range (fun hr => ?_)
                      show zA l mX8_read false 8 0 0 (fun v' S' w' => S' = (ZZ t dr 1) ∧ v' = some (zI (w' 2 6)) ∧ frD dr w w' ∧ rC b n w' (runP b n 600 (.inl 0) Y00).1 ∧ (okP (runP b n 600 (.inl 0) Y00).1 → yC w' dr (runP b n 600 (.inl 0) Y00).2 ∧ okY (runP b n 600 (.inl 0) Y00).2)) zNo 145 [zR 2, .null, .null, zR dr, zI x] [] (ZZ t dr 1) q_8_w
                      refine zA_goto (tgt := 153) dX8_read_145 (by decide) ?_
                      exact L153 _ hfb hpb hRb (fun h => by rw [cl2 h]; exact hyb h)
                  · skip
                    have hyw3 := (hrr3.resolve_right (fun h => by have := h.1; omega)).2
                    refine zA_aload_n dX8_read_123 rfl ?_
                    refine zA_aload_n dX8_read_124 rfl ?_
                    refine zA_cV (st := []) dX8_read_125 vX8_readRoad kX8_73 (s_readRoad (w := w1) (p := q1) (Y := Y1) hdr hp1 hRq hYc hO1) (by decide) c2 rfl rfl (Nat.le_of_ble_eq_true rfl) rfl (fun q_9_v q_9_S q_9_w q_9 => ?_)
                    have hwh := wh_3 hnw0 hnw1 hnw2 hyw3
                    obtain ⟨rfl, rfl, hfb, hpb, hRb, hyb⟩ := q_9
                    obtain ⟨cl1, cl2⟩ := clF_3 (Y := Y1) hwh
                    rw [← cl1] at hRb hyb
                    refine zA_range (fun hr => ?_)
                    show zA l mX8_read false 8 0 0 (fun v' S' w' => S' = (ZZ t dr 1) ∧ v' = some (zI (w' 2 6)) ∧ frD dr w w' ∧ rC b n w' (runP b n 600 (.inl 0) Y00).1 ∧ (okP (runP b n 600 (.inl 0) Y00).1 → yC w' dr (runP b n 600 (.inl 0) Y00).2 ∧ okY (runP b n 600 (.inl 0) Y00).2)) zNo 128 [zR 2, .null, .null, zR dr, zI x] [] (ZZ t dr 1) q_9_w
                    refine zA_goto (tgt := 153) dX8_read_128 (by decide) ?_
                    exact L153 _ hfb hpb hRb (fun h => by rw [cl2 h]; exact hyb h)
                · skip
                  have hyw2 := (hrr2.resolve_right (fun h => by have := h.1; omega)).2
                  refine zA_aload_n dX8_read_106 rfl ?_
                  refine zA_aload_n dX8_read_107 rfl ?_
                  refine zA_cV (st := []) dX8_read_108 vX8_readLetter kX8_68 (s_readLetter (w := w1) (p := q1) (Y := Y1) hdr hp1 hRq hYc hO1) (by decide) c2 rfl rfl (Nat.le_of_ble_eq_true rfl) rfl (fun q_10_v q_10_S q_10_w q_10 => ?_)
                  have hwh := wh_2 hnw0 hnw1 hyw2
                  obtain ⟨rfl, rfl, hfb, hpb, hRb, hyb⟩ := q_10
                  obtain ⟨cl1, cl2⟩ := clF_2 (Y := Y1) hwh
                  rw [← cl1] at hRb hyb
                  refine zA_range (fun hr => ?_)
                  show zA l mX8_read false 8 0 0 (fun v' S' w' => S' = (ZZ t dr 1) ∧ v' = some (zI (w' 2 6)) ∧ frD dr w w' ∧ rC b n w' (runP b n 600 (.inl 0) Y00).1 ∧ (okP (runP b n 600 (.inl 0) Y00).1 → yC w' dr (runP b n 600 (.inl 0) Y00).2 ∧ okY (runP b n 600 (.inl 0) Y00).2)) zNo 111 [zR 2, .null, .null, zR dr, zI x] [] (ZZ t dr 1) q_10_w
                  refine zA_goto (tgt := 153) dX8_read_111 (by decide) ?_
                  exact L153 _ hfb hpb hRb (fun h => by rw [cl2 h]; exact hyb h)
              · skip
                have hyw1 := (hrr1.resolve_right (fun h => by have := h.1; omega)).2
                refine zA_aload_n dX8_read_89 rfl ?_
                refine zA_aload_n dX8_read_90 rfl ?_
                refine zA_cV (st := []) dX8_read_91 vX8_readWinds kX8_63 (s_readWinds (w := w1) (p := q1) (Y := Y1) hdr hp1 hRq hYc hO1) (by decide) c2 rfl rfl (Nat.le_of_ble_eq_true rfl) rfl (fun q_11_v q_11_S q_11_w q_11 => ?_)
                have hwh := wh_1 hnw0 hyw1
                obtain ⟨rfl, rfl, hfb, hpb, hRb, hyb⟩ := q_11
                obtain ⟨cl1, cl2⟩ := clF_1 (Y := Y1) hwh
                rw [← cl1] at hRb hyb
                refine zA_range (fun hr => ?_)
                show zA l mX8_read false 8 0 0 (fun v' S' w' => S' = (ZZ t dr 1) ∧ v' = some (zI (w' 2 6)) ∧ frD dr w w' ∧ rC b n w' (runP b n 600 (.inl 0) Y00).1 ∧ (okP (runP b n 600 (.inl 0) Y00).1 → yC w' dr (runP b n 600 (.inl 0) Y00).2 ∧ okY (runP b n 600 (.inl 0) Y00).2)) zNo 94 [zR 2, .null, .null, zR dr, zI x] [] (ZZ t dr 1) q_11_w
                refine zA_goto (tgt := 153) dX8_read_94 (by decide) ?_
                exact L153 _ hfb hpb hRb (fun h => by rw [cl2 h]; exact hyb h)
            · skip
              have hyw0 := (hrr0.resolve_right (fun h => by have := h.1; omega)).2
              refine zA_aload_n dX8_read_72 rfl ?_
              refine zA_aload_n dX8_read_73 rfl ?_
              refine zA_cV (st := []) dX8_read_74 vX8_readChimney kX8_57 (s_readChimney (w := w1) (p := q1) (Y := Y1) hdr hp1 hRq hYc hO1) (by decide) c2 rfl rfl (Nat.le_of_ble_eq_true rfl) rfl (fun q_12_v q_12_S q_12_w q_12 => ?_)
              have hwh := wh_0  hyw0
              obtain ⟨rfl, rfl, hfb, hpb, hRb, hyb⟩ := q_12
              obtain ⟨cl1, cl2⟩ := clF_0 (Y := Y1) hwh
              rw [← cl1] at hRb hyb
              refine zA_range (fun hr => ?_)
              show zA l mX8_read false 8 0 0 (fun v' S' w' => S' = (ZZ t dr 1) ∧ v' = some (zI (w' 2 6)) ∧ frD dr w w' ∧ rC b n w' (runP b n 600 (.inl 0) Y00).1 ∧ (okP (runP b n 600 (.inl 0) Y00).1 → yC w' dr (runP b n 600 (.inl 0) Y00).2 ∧ okY (runP b n 600 (.inl 0) Y00).2)) zNo 77 [zR 2, .null, .null, zR dr, zI x] [] (ZZ t dr 1) q_12_w
              refine zA_goto (tgt := 153) dX8_read_77 (by decide) ?_
              exact L153 _ hfb hpb hRb (fun h => by rw [cl2 h]; exact hyb h)
  exact L41 _ 0 _ (.inl 0) Y00 (by omega) (by omega) hfi hpi hRi (fun _ => ⟨hyi, okY_0⟩) rfl (Nat.lt_succ_self _)

