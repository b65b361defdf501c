/-! the reader of the class: clauses -/
def frD (dr : Nat) (w w' : zW) : Prop := ∀ c x, c ≠ 2 → (c < dr ∨ dr + 5 < c) → w' c x = w c x
theorem frD_o {dr : Nat} {w w' : zW} (h : only 2 w w') : frD dr w w' := fun c x a _ => h c x a
theorem frD_tr {dr : Nat} {w w1 w' : zW} (h : frD dr w w1) (k : frD dr w1 w') : frD dr w w' := fun c x a e => (k c x a e).trans (h c x a e)
theorem frD_rfl {dr : Nat} {w : zW} : frD dr w w := fun _ _ _ _ => rfl
theorem frD_up {dr : Nat} {w w1 : zW} {c0 : Nat} {i v : Int} (h : frD dr w w1) (h0 : dr ≤ c0) (h1 : c0 ≤ dr + 5) : frD dr w (up w1 c0 i v) := fun c x a e => by rw [up_cell _ _ _ _ (by omega)]; exact h c x a e
theorem pC_up {b : Int → Int} {n : Int} {w : zW} {c0 : Nat} {i v : Int} (h : pC b n w) (h1 : c0 ≠ 1) (h2 : c0 ≠ 2) : pC b n (up w c0 i v) := pC_c h (up_cell _ _ _ _ (Ne.symm h2)) (fun _ => up_cell _ _ _ _ (Ne.symm h1))
theorem rC_c2 {b : Int → Int} {n : Int} {w w' : zW} {s : zP} (h : rC b n w s) (k : ∀ x, w' 2 x = w 2 x) : rC b n w' s := by
  cases s with
  | inr e => unfold rC at h ⊢; simp only [k]; exact h
  | inl p => unfold rC at h ⊢; simp only [k]; exact h
theorem rC_up {b : Int → Int} {n : Int} {w : zW} {s : zP} {c0 : Nat} {i v : Int} (h : rC b n w s) (h2 : c0 ≠ 2) : rC b n (up w c0 i v) s := rC_c2 h (fun _ => up_cell _ _ _ _ (Ne.symm h2))
theorem yC_o {w w' : zW} {y : Nat} {Y : zW} (hy : y = 4 ∨ y = 10) (h : yC w y Y) (k : only 2 w w') : yC w' y Y := yC_c h (fun c x a _ => k c x (by omega))
theorem wnd1_e {b : Int → Int} {n p : Int} {Y : zW} : wnd1 b n (.inl p) Y = pNum b n 0 12 (if tkK b n p = 2 ∧ 30 ≤ Y 0 2 then .inr (2, tkS b n p) else .inl p) := rfl
theorem wnd1_n {b : Int → Int} {n p : Int} {Y : zW} (g : ¬ (tkK b n p = 2 ∧ 30 ≤ Y 0 2)) : wnd1 b n (.inl p) Y = pNum b n 0 12 (.inl p) := by rw [wnd1_e, if_neg g]
theorem wnd1_y {b : Int → Int} {n p : Int} {Y : zW} (g : tkK b n p = 2 ∧ 30 ≤ Y 0 2) : wnd1 b n (.inl p) Y = pNum b n 0 12 (pFl b n 2 (.inl p)) := by
  rw [wnd1_e, if_pos g]; rfl
theorem wnd1_ok {b : Int → Int} {n p : Int} {Y : zW} (h : okP (wnd1 b n (.inl p) Y)) : (0 ≤ pVal b n (.inl p) ∧ pVal b n (.inl p) ≤ 12) ∧ Y 0 2 < 30 := by
  by_cases g : tkK b n p = 2 ∧ 30 ≤ Y 0 2
  · rw [wnd1_y g] at h
    exact (show False from h).elim
  · rw [wnd1_n g] at h
    have h1 := pNum_ok h
    refine ⟨h1.2, ?_⟩
    have k2 : tkK b n p = 2 := Classical.byContradiction (fun q => by
      have e2 : pNum b n 0 12 (.inl p) = .inr (1, tkS b n p) := if_pos q
      rw [e2] at h; exact h)
    omega
noncomputable def cntW (b : Int → Int) (n : Int) (k : Nat) (s : zP) (Y : zW) : zP × zW := match s with
  | .inr e => (.inr e, Y)
  | .inl p => if tkK b n p = 2 then wndF b n k (.inl p) Y else (.inl p, Y)
theorem cntW_0 {b : Int → Int} {n : Int} {s : zP} {Y : zW} : cntW b n 0 s Y = (s, Y) := by
  cases s with
  | inr e => rfl
  | inl p => show (if tkK b n p = 2 then _ else _) = _; split <;> rfl
theorem cntW_r {b : Int → Int} {n : Int} {k : Nat} {s : zP} {Y : zW} (h : ¬ okP s) : cntW b n k s Y = (s, Y) := by
  cases s with
  | inr e => rfl
  | inl p => exact (h trivial).elim
theorem cntW_n {b : Int → Int} {n p : Int} {k : Nat} {Y : zW} (h : tkK b n p ≠ 2) : cntW b n k (.inl p) Y = (.inl p, Y) := if_neg h
theorem cntW_y {b : Int → Int} {n p : Int} {k : Nat} {Y : zW} (h : tkK b n p = 2) : cntW b n k (.inl p) Y = wndF b n k (.inl p) Y := if_pos h
theorem wndF_s {b : Int → Int} {n : Int} {k : Nat} {s : zP} {Y : zW} : ∃ Y1, wndF b n (k + 1) s Y = cntW b n k (wnd1 b n s Y) Y1 ∧ (okP (wnd1 b n s Y) → Y1 = yAddW Y (pVal b n s)) := by
  have e : wndF b n (k + 1) s Y = (match wnd1 b n s Y with | .inr e => (.inr e, Y) | .inl p => if tkK b n p = 2 then wndF b n k (.inl p) (yAddW Y (pVal b n s)) else (.inl p, yAddW Y (pVal b n s))) := rfl
  rw [e]
  cases wnd1 b n s Y with
  | inr e => exact ⟨Y, rfl, fun h => h.elim⟩
  | inl p => exact ⟨_, rfl, fun _ => rfl⟩
set_option maxRecDepth 100000 in
set_option maxHeartbeats 4000000 in
theorem s_takeDaysWind {l : Launch} {t dr : Nat} {w : zW} {b : Int → Int} {n : Int} {p : Int} {Y : zW} (hdr : dr = 4 ∨ dr = 10) (hp : pC b n w) (hR : rC b n w (.inl p)) (hY : yC w dr Y) (hO : okY Y)  : zSp l mX8_takeDaysWind false 5 0 0 [zR 2, zR dr] (ZZ t dr 1) w (fun v' S' w' => v' = none ∧ S' = (ZZ t dr 1) ∧ frD dr w w' ∧ pC b n w' ∧ rC b n w' (wnd1 b n (.inl p) Y) ∧ (okP (wnd1 b n (.inl p) Y) → yC w' dr (yAddW Y (pVal b n (.inl p))))) zNo := by
  refine zA_intro ⟨plainFor_of_name (by decide +kernel), Or.inl (by decide +kernel)⟩ rfl (Nat.le_of_ble_eq_true rfl) ?_
  obtain ⟨⟨p0, p1⟩, ⟨f6, f7⟩, ⟨f3, f4⟩, f2, f5⟩ := id hR
  obtain ⟨⟨y5, y7, y6, y8⟩, -⟩ := id hY
  obtain ⟨a0, a1, a2, a3, -⟩ := id hO
  refine zA_range (fun hr => ?_)
  show zA l mX8_takeDaysWind false 5 0 0 (fun v' S' w' => v' = none ∧ S' = (ZZ t dr 1) ∧ frD dr w w' ∧ pC b n w' ∧ rC b n w' (wnd1 b n (.inl p) Y) ∧ (okP (wnd1 b n (.inl p) Y) → yC w' dr (yAddW Y (pVal b n (.inl p))))) zNo 0 [zR 2, zR dr, .null] [] (ZZ t dr 1) w
  have L22 : ∀ (w1 : zW) (s1 : zP) (ho1 : only 2 w w1) (hp1 : pC b n w1) (hR1 : rC b n w1 s1) (hs1 : wnd1 b n (.inl p) Y = pNum b n 0 12 s1) (hs2 : okP (pNum b n 0 12 s1) → s1 = .inl p), zA l mX8_takeDaysWind false 5 0 0 (fun v' S' w' => v' = none ∧ S' = (ZZ t dr 1) ∧ frD dr w w' ∧ pC b n w' ∧ rC b n w' (wnd1 b n (.inl p) Y) ∧ (okP (wnd1 b n (.inl p) Y) → yC w' dr (yAddW Y (pVal b n (.inl p))))) zNo 22 [zR 2, zR dr, .null] [] (ZZ t dr 1) w1 := by
    intro w1 s1 ho1 hp1 hR1 hs1 hs2
    refine zA_range (fun hr => ?_)
    refine zA_aload_n dX8_takeDaysWind_22 rfl ?_
    refine zA_iconst dX8_takeDaysWind_23 ?_
    refine zA_bipush dX8_takeDaysWind_24 rfl ?_
    refine zA_cV (st := []) dX8_takeDaysWind_26 vX8_takeNumber kX8_88 (s_takeNumber (w := w1) (lo := 0) (hi := 12) (s := s1) (by decide) (by decide) ⟨by decide, by decide⟩ ⟨by decide, by decide⟩ hp1 hR1) (by decide) c2 rfl rfl (Nat.le_of_ble_eq_true rfl) rfl (fun q_1_v q_1_S q_1_w q_1 => ?_)
    obtain ⟨⟨rvn, rfl, hrvn, hrqn⟩, rfl, hon, hpn, hRn⟩ := q_1
    refine zA_range (fun hr => ?_)
    show zA l mX8_takeDaysWind false 5 0 0 (fun v' S' w' => v' = none ∧ S' = (ZZ t dr 1) ∧ frD dr w w' ∧ pC b n w' ∧ rC b n w' (wnd1 b n (.inl p) Y) ∧ (okP (wnd1 b n (.inl p) Y) → yC w' dr (yAddW Y (pVal b n (.inl p))))) zNo 29 [zR 2, zR dr, .null] [zI rvn] (ZZ t dr 1) q_1_w
    refine zA_istore_n (lo1 := [zR 2, zR dr, zI rvn]) dX8_takeDaysWind_29 (by decide) rfl rfl ?_
    refine zA_aload_n dX8_takeDaysWind_30 rfl ?_
    refine zA_getI dX8_takeDaysWind_31 fX8_31 c2 rfl ?_
    refine zA_valI (q_1_w 2 6) rfl ?_
    refine zA_if_ne (tgt := 57) dX8_takeDaysWind_34 (by decide) (by first | assumption | exact hr _ _ | exact inR_mk (by omega) (by omega)) (fun c34 => ?_) (fun c34 => ?_)
    · skip
      have hnk : ¬ okP (pNum b n 0 12 s1) := fun h => c34 ((rC_ok hRn).mpr h)
      refine zA_vret dX8_takeDaysWind_57 rfl ?_
      rw [hs1]
      exact ⟨rfl, rfl, frD_o (only_tr ho1 hon), hpn, hRn, fun h => absurd h hnk⟩
    · skip
      have hok := (rC_ok hRn).mp c34
      have hval := hrqn hok
      rw [hs2 hok] at hval
      have hwo := wnd1_ok (b := b) (n := n) (p := p) (Y := Y) (by rw [hs1]; exact hok)
      have hot := only_tr ho1 hon
      have hd6 : q_1_w dr 6 = Y 0 2 := (hot dr 6 (by omega)).trans y6
      refine zA_aload_n dX8_takeDaysWind_37 rfl ?_
      refine zA_getR (n := (dr + 3)) dX8_takeDaysWind_38 fX8_103 (cY0 hdr) rfl ?_
      refine zA_aload_n dX8_takeDaysWind_41 rfl ?_
      refine zA_getI dX8_takeDaysWind_42 fX8_100 (cY0 hdr) rfl ?_
      refine zA_valI (q_1_w dr 6) rfl ?_
      refine zA_iload_n dX8_takeDaysWind_45 rfl ?_
      refine zA_iastore dX8_takeDaysWind_46 (by first | assumption | exact hr _ _ | exact inR_mk (by omega) (by omega)) (cY3 hdr) (by first | assumption | omega) (by first | assumption | omega) (by decide) ?_
      refine zA_namew (fun w_2 hw_2 => ?_)
      refine zA_range (fun hr => ?_)
      replace hw_2 : w_2 = up q_1_w (dr + 3) (q_1_w dr 6) rvn := hw_2
      have hd6b : w_2 dr 6 = Y 0 2 := by rw [hw_2, up_cell _ _ _ _ (by omega)]; exact hd6
      refine zA_aload_n dX8_takeDaysWind_47 rfl ?_
      refine zA_dup dX8_takeDaysWind_48 rfl ?_
      refine zA_getI dX8_takeDaysWind_49 fX8_100 (cY0 hdr) rfl ?_
      refine zA_valI (w_2 dr 6) rfl ?_
      refine zA_iconst dX8_takeDaysWind_52 ?_
      refine zA_iadd dX8_takeDaysWind_53 ?_
      refine zA_putI dX8_takeDaysWind_54 fX8_100 (cY0 hdr) rfl (by first | assumption | exact hr _ _ | exact inR_mk (by omega) (by omega)) ⟨rfl, rfl⟩ ?_
      refine zA_namew (fun w_3 hw_3 => ?_)
      refine zA_range (fun hr => ?_)
      replace hw_3 : w_3 = up w_2 dr 6 ((w_2 dr 6) + 1) := hw_3
      refine zA_vret dX8_takeDaysWind_57 rfl ?_
      rw [hs1]
      refine ⟨rfl, rfl, ?_, ?_, ?_, fun _ => ?_⟩
      · rw [hw_3, hw_2]; exact frD_up (frD_up (frD_o hot) (by omega) (by omega)) (by omega) (by omega)
      · rw [hw_3, hw_2]; exact pC_up (pC_up hpn (by omega) (by omega)) (by omega) (by omega)
      · rw [hw_3, hw_2]; exact rC_up (rC_up hRn (by omega)) (by omega)
      · refine yC_W (yC_o hdr hY hot) (fun c x a e g1 g2 => ?_) ?_ (fun i => ?_)
        · rw [hw_3, up_n (by omega), hw_2, up_cell _ _ _ _ a]
        · rw [hw_3, up_same, hd6b, hd6]
        · rw [hw_3, up_cell _ _ _ _ (by omega), hw_2]
          by_cases g : i = Y 0 2
          · rw [hd6, if_pos g, g, up_same, hval]
          · rw [hd6, if_neg g, up_idx _ _ _ _ g]
  refine zA_aload_n dX8_takeDaysWind_0 rfl ?_
  refine zA_getI dX8_takeDaysWind_1 fX8_19 c2 rfl ?_
  refine zA_valI (w 2 2) rfl ?_
  refine zA_iconst dX8_takeDaysWind_4 ?_
  refine zA_icmp_ne (tgt := 22) dX8_takeDaysWind_5 (by decide) (by first | assumption | exact hr _ _ | exact inR_mk (by omega) (by omega)) ⟨by decide, by decide⟩ (fun c5 => ?_) (fun c5 => ?_)
  · skip
    exact L22 w (.inl p) only_rfl hp hR (wnd1_n (by omega)) (fun _ => rfl)
  · skip
    refine zA_aload_n dX8_takeDaysWind_8 rfl ?_
    refine zA_getI dX8_takeDaysWind_9 fX8_100 (cY0 hdr) rfl ?_
    refine zA_valI (w dr 6) rfl ?_
    refine zA_bipush dX8_takeDaysWind_12 rfl ?_
    refine zA_icmp_lt (tgt := 22) dX8_takeDaysWind_14 (by decide) (by first | assumption | exact hr _ _ | exact inR_mk (by omega) (by omega)) ⟨by decide, by decide⟩ (fun c14 => ?_) (fun c14 => ?_)
    · skip
      exact L22 w (.inl p) only_rfl hp hR (wnd1_n (by omega)) (fun _ => rfl)
    · skip
      refine zA_aload_n dX8_takeDaysWind_17 rfl ?_
      refine zA_iconst dX8_takeDaysWind_18 ?_
      refine zA_cV (st := []) dX8_takeDaysWind_19 vX8_fail kX8_81 (s_failR (w := w) (t := t) (dr := dr) (tx := 1) (k := 2) ⟨by decide, by decide⟩) (by decide) c2 rfl rfl (Nat.le_of_ble_eq_true rfl) rfl (fun q_4_v q_4_S q_4_w q_4 => ?_)
      obtain ⟨rfl, rfl, rfl⟩ := q_4
      refine zA_range (fun hr => ?_)
      show zA l mX8_takeDaysWind false 5 0 0 (fun v' S' w' => v' = none ∧ S' = (ZZ t dr 1) ∧ frD dr w w' ∧ pC b n w' ∧ rC b n w' (wnd1 b n (.inl p) Y) ∧ (okP (wnd1 b n (.inl p) Y) → yC w' dr (yAddW Y (pVal b n (.inl p))))) zNo 22 [zR 2, zR dr, .null] [] (ZZ t dr 1) (failw w 2)
      exact L22 _ _ failw_o (pC_o hp) (rC_f hR (by decide)) (wnd1_y (by omega)) (fun h => h.elim)

set_option maxRecDepth 100000 in
set_option maxHeartbeats 4000000 in
theorem s_readChimney {l : Launch} {t dr : Nat} {w : zW} {b : Int → Int} {n : Int} {p : Int} {Y : zW} (hdr : dr = 4 ∨ dr = 10) (hp : pC b n w) (hR : rC b n w (.inl p)) (hY : yC w dr Y) (hO : okY Y)  : zSp l mX8_readChimney false 6 0 0 [zR 2, zR dr] (ZZ t dr 1) w (fun v' S' w' => v' = none ∧ S' = (ZZ t dr 1) ∧ frD dr w w' ∧ pC b n w' ∧ rC b n w' (if 12 ≤ Y 0 0 then .inr (2, tkS b n p) else pSign b n (pNum b n 1 200 (.inl (tkE b n p)))) ∧ (okP (if 12 ≤ Y 0 0 then .inr (2, tkS b n p) else pSign b n (pNum b n 1 200 (.inl (tkE b n p)))) → yC w' dr (yAddC Y (pVal b n (.inl (tkE b n p)))))) zNo := by
  refine zA_intro ⟨plainFor_of_name (by decide +kernel), Or.inl (by decide +kernel)⟩ rfl (Nat.le_of_ble_eq_true rfl) ?_
  obtain ⟨⟨p0, p1⟩, ⟨f6, f7⟩, ⟨f3, f4⟩, f2, f5⟩ := id hR
  obtain ⟨⟨y5, y7, y6, y8⟩, -⟩ := id hY
  obtain ⟨a0, a1, a2, a3, -⟩ := id hO
  refine zA_range (fun hr => ?_)
  show zA l mX8_readChimney false 6 0 0 (fun v' S' w' => v' = none ∧ S' = (ZZ t dr 1) ∧ frD dr w w' ∧ pC b n w' ∧ rC b n w' (if 12 ≤ Y 0 0 then .inr (2, tkS b n p) else pSign b n (pNum b n 1 200 (.inl (tkE b n p)))) ∧ (okP (if 12 ≤ Y 0 0 then .inr (2, tkS b n p) else pSign b n (pNum b n 1 200 (.inl (tkE b n p)))) → yC w' dr (yAddC Y (pVal b n (.inl (tkE b n p)))))) zNo 0 [zR 2, zR dr, .null] [] (ZZ t dr 1) w
  refine zA_aload_n dX8_readChimney_0 rfl ?_
  refine zA_getI dX8_readChimney_1 fX8_85 (cY0 hdr) rfl ?_
  refine zA_valI (w dr 5) rfl ?_
  refine zA_bipush dX8_readChimney_4 rfl ?_
  refine zA_icmp_lt (tgt := 15) dX8_readChimney_6 (by decide) (by first | assumption | exact hr _ _ | exact inR_mk (by omega) (by omega)) ⟨by decide, by decide⟩ (fun c6 => ?_) (fun c6 => ?_)
  · skip
    have hnf : ¬ 12 ≤ Y 0 0 := by omega
    refine zA_aload_n dX8_readChimney_15 rfl ?_
    refine zA_cV (st := []) dX8_readChimney_16 vX8_step kX8_48 (s_step (w := w) hp (rC_E hR)) (by decide) c2 rfl rfl (Nat.le_of_ble_eq_true rfl) rfl (fun q_1_v q_1_S q_1_w q_1 => ?_)
    obtain ⟨rfl, rfl, ho0, hp0, hst0⟩ := q_1
    have hR0 : rC b n q_1_w (.inl (tkE b n p)) := rC_s hR hst0
    refine zA_range (fun hr => ?_)
    show zA l mX8_readChimney false 6 0 0 (fun v' S' w' => v' = none ∧ S' = (ZZ t dr 1) ∧ frD dr w w' ∧ pC b n w' ∧ rC b n w' (if 12 ≤ Y 0 0 then .inr (2, tkS b n p) else pSign b n (pNum b n 1 200 (.inl (tkE b n p)))) ∧ (okP (if 12 ≤ Y 0 0 then .inr (2, tkS b n p) else pSign b n (pNum b n 1 200 (.inl (tkE b n p)))) → yC w' dr (yAddC Y (pVal b n (.inl (tkE b n p)))))) zNo 19 [zR 2, zR dr, .null] [] (ZZ t dr 1) q_1_w
    refine zA_aload_n dX8_readChimney_19 rfl ?_
    refine zA_iconst dX8_readChimney_20 ?_
    refine zA_sipush dX8_readChimney_21 rfl ?_
    refine zA_cV (st := []) dX8_readChimney_24 vX8_takeNumber kX8_88 (s_takeNumber (w := q_1_w) (lo := 1) (hi := 200) (s := (.inl (tkE b n p))) (by decide) (by decide) ⟨by decide, by decide⟩ ⟨by decide, by decide⟩ hp0 hR0) (by decide) c2 rfl rfl (Nat.le_of_ble_eq_true rfl) rfl (fun q_2_v q_2_S q_2_w q_2 => ?_)
    obtain ⟨⟨rvn, rfl, hrvn, hrqn⟩, rfl, hon, hpn, hRn⟩ := q_2
    refine zA_range (fun hr => ?_)
    show zA l mX8_readChimney false 6 0 0 (fun v' S' w' => v' = none ∧ S' = (ZZ t dr 1) ∧ frD dr w w' ∧ pC b n w' ∧ rC b n w' (if 12 ≤ Y 0 0 then .inr (2, tkS b n p) else pSign b n (pNum b n 1 200 (.inl (tkE b n p)))) ∧ (okP (if 12 ≤ Y 0 0 then .inr (2, tkS b n p) else pSign b n (pNum b n 1 200 (.inl (tkE b n p)))) → yC w' dr (yAddC Y (pVal b n (.inl (tkE b n p)))))) zNo 27 [zR 2, zR dr, .null] [zI rvn] (ZZ t dr 1) q_2_w
    refine zA_istore_n (lo1 := [zR 2, zR dr, zI rvn]) dX8_readChimney_27 (by decide) rfl rfl ?_
    refine zA_aload_n dX8_readChimney_28 rfl ?_
    refine zA_cV (st := []) dX8_readChimney_29 vX8_takeSign kX8_91 (s_takeSign (w := q_2_w) hpn hRn) (by decide) c2 rfl rfl (Nat.le_of_ble_eq_true rfl) rfl (fun q_3_v q_3_S q_3_w q_3 => ?_)
    obtain ⟨rfl, rfl, hoz, hpz, hRz⟩ := q_3
    refine zA_range (fun hr => ?_)
    show zA l mX8_readChimney false 6 0 0 (fun v' S' w' => v' = none ∧ S' = (ZZ t dr 1) ∧ frD dr w w' ∧ pC b n w' ∧ rC b n w' (if 12 ≤ Y 0 0 then .inr (2, tkS b n p) else pSign b n (pNum b n 1 200 (.inl (tkE b n p)))) ∧ (okP (if 12 ≤ Y 0 0 then .inr (2, tkS b n p) else pSign b n (pNum b n 1 200 (.inl (tkE b n p)))) → yC w' dr (yAddC Y (pVal b n (.inl (tkE b n p)))))) zNo 32 [zR 2, zR dr, zI rvn] [] (ZZ t dr 1) q_3_w
    refine zA_aload_n dX8_readChimney_32 rfl ?_
    refine zA_getI dX8_readChimney_33 fX8_31 c2 rfl ?_
    refine zA_valI (q_3_w 2 6) rfl ?_
    refine zA_if_ne (tgt := 59) dX8_readChimney_36 (by decide) (by first | assumption | exact hr _ _ | exact inR_mk (by omega) (by omega)) (fun c36 => ?_) (fun c36 => ?_)
    · skip
      refine zA_vret dX8_readChimney_59 rfl ?_
      rw [if_neg hnf]
      exact ⟨rfl, rfl, frD_o (only_tr (only_tr ho0 hon) hoz), hpz, hRz, fun h => absurd ((rC_ok hRz).mpr h) c36⟩
    · skip
      have hok := (rC_ok hRz).mp c36
      have hok2 := pSign_ok hok
      have hval := hrqn hok2
      have hnb := (pNum_ok hok2).2
      have hot := only_tr (only_tr ho0 hon) hoz
      have hd5 : q_3_w dr 5 = Y 0 0 := (hot dr 5 (by omega)).trans y5
      refine zA_aload_n dX8_readChimney_39 rfl ?_
      refine zA_getR (n := (dr + 1)) dX8_readChimney_40 fX8_94 (cY0 hdr) rfl ?_
      refine zA_aload_n dX8_readChimney_43 rfl ?_
      refine zA_getI dX8_readChimney_44 fX8_85 (cY0 hdr) rfl ?_
      refine zA_valI (q_3_w dr 5) rfl ?_
      refine zA_iload_n dX8_readChimney_47 rfl ?_
      refine zA_iastore dX8_readChimney_48 (by first | assumption | exact hr _ _ | exact inR_mk (by omega) (by omega)) (cY1 hdr) (by first | assumption | omega) (by first | assumption | omega) (by decide) ?_
      refine zA_namew (fun w_4 hw_4 => ?_)
      refine zA_range (fun hr => ?_)
      replace hw_4 : w_4 = up q_3_w (dr + 1) (q_3_w dr 5) rvn := hw_4
      have hd5b : w_4 dr 5 = Y 0 0 := by rw [hw_4, up_cell _ _ _ _ (by omega)]; exact hd5
      refine zA_aload_n dX8_readChimney_49 rfl ?_
      refine zA_dup dX8_readChimney_50 rfl ?_
      refine zA_getI dX8_readChimney_51 fX8_85 (cY0 hdr) rfl ?_
      refine zA_valI (w_4 dr 5) rfl ?_
      refine zA_iconst dX8_readChimney_54 ?_
      refine zA_iadd dX8_readChimney_55 ?_
      refine zA_putI dX8_readChimney_56 fX8_85 (cY0 hdr) rfl (by first | assumption | exact hr _ _ | exact inR_mk (by omega) (by omega)) ⟨rfl, rfl⟩ ?_
      refine zA_namew (fun w_5 hw_5 => ?_)
      refine zA_range (fun hr => ?_)
      replace hw_5 : w_5 = up w_4 dr 5 ((w_4 dr 5) + 1) := hw_5
      refine zA_vret dX8_readChimney_59 rfl ?_
      rw [if_neg hnf]
      refine ⟨rfl, rfl, ?_, ?_, ?_, fun _ => ?_⟩
      · rw [hw_5, hw_4]; exact frD_up (frD_up (frD_o hot) (by omega) (by omega)) (by omega) (by omega)
      · rw [hw_5, hw_4]; exact pC_up (pC_up hpz (by omega) (by omega)) (by omega) (by omega)
      · rw [hw_5, hw_4]; exact rC_up (rC_up hRz (by omega)) (by omega)
      · refine yC_C (yC_o hdr hY hot) (fun c x a e g1 g2 => ?_) ?_ (fun i => ?_)
        · rw [hw_5, up_n (by omega), hw_4, up_cell _ _ _ _ a]
        · rw [hw_5, up_same, hd5b, hd5]
        · rw [hw_5, up_cell _ _ _ _ (by omega), hw_4]
          by_cases g : i = Y 0 0
          · rw [hd5, if_pos g, g, up_same, hval]
          · rw [hd5, if_neg g, up_idx _ _ _ _ g]
  · skip
    refine zA_aload_n dX8_readChimney_9 rfl ?_
    refine zA_iconst dX8_readChimney_10 ?_
    refine zA_cV (st := []) dX8_readChimney_11 vX8_fail kX8_81 (s_failR (w := w) (t := t) (dr := dr) (tx := 1) (k := 2) ⟨by decide, by decide⟩) (by decide) c2 rfl rfl (Nat.le_of_ble_eq_true rfl) rfl (fun q_6_v q_6_S q_6_w q_6 => ?_)
    obtain ⟨rfl, rfl, rfl⟩ := q_6
    refine zA_range (fun hr => ?_)
    show zA l mX8_readChimney false 6 0 0 (fun v' S' w' => v' = none ∧ S' = (ZZ t dr 1) ∧ frD dr w w' ∧ pC b n w' ∧ rC b n w' (if 12 ≤ Y 0 0 then .inr (2, tkS b n p) else pSign b n (pNum b n 1 200 (.inl (tkE b n p)))) ∧ (okP (if 12 ≤ Y 0 0 then .inr (2, tkS b n p) else pSign b n (pNum b n 1 200 (.inl (tkE b n p)))) → yC w' dr (yAddC Y (pVal b n (.inl (tkE b n p)))))) zNo 14 [zR 2, zR dr, .null] [] (ZZ t dr 1) (failw w 2)
    refine zA_vret dX8_readChimney_14 rfl ?_
    have hRf := rC_f (k := 2) hR (by decide)
    have hfu : 12 ≤ Y 0 0 := by omega
    rw [if_pos hfu]
    exact ⟨rfl, rfl, frD_o failw_o, pC_o hp, hRf, fun h => h.elim⟩

set_option maxRecDepth 100000 in
set_option maxHeartbeats 4000000 in
theorem s_readWinds {l : Launch} {t dr : Nat} {w : zW} {b : Int → Int} {n : Int} {p : Int} {Y : zW} (hdr : dr = 4 ∨ dr = 10) (hp : pC b n w) (hR : rC b n w (.inl p)) (hY : yC w dr Y) (hO : okY Y)  : zSp l mX8_readWinds false 6 0 0 [zR 2, zR dr] (ZZ t dr 1) w (fun v' S' w' => v' = none ∧ S' = (ZZ t dr 1) ∧ frD dr w w' ∧ pC b n w' ∧ rC b n w' (pSign b n (wndF b n 31 (.inl (tkE b n p)) Y).1) ∧ (okP (pSign b n (wndF b n 31 (.inl (tkE b n p)) Y).1) → yC w' dr ((wndF b n 31 (.inl (tkE b n p)) Y).2))) zNo := by
  refine zA_intro ⟨plainFor_of_name (by decide +kernel), Or.inl (by decide +kernel)⟩ rfl (Nat.le_of_ble_eq_true rfl) ?_
  obtain ⟨⟨p0, p1⟩, ⟨f6, f7⟩, ⟨f3, f4⟩, f2, f5⟩ := id hR
  obtain ⟨⟨y5, y7, y6, y8⟩, -⟩ := id hY
  obtain ⟨a0, a1, a2, a3, -⟩ := id hO
  refine zA_range (fun hr => ?_)
  show zA l mX8_readWinds false 6 0 0 (fun v' S' w' => v' = none ∧ S' = (ZZ t dr 1) ∧ frD dr w w' ∧ pC b n w' ∧ rC b n w' (pSign b n (wndF b n 31 (.inl (tkE b n p)) Y).1) ∧ (okP (pSign b n (wndF b n 31 (.inl (tkE b n p)) Y).1) → yC w' dr ((wndF b n 31 (.inl (tkE b n p)) Y).2))) zNo 0 [zR 2, zR dr, .null] [] (ZZ t dr 1) w
  refine zA_aload_n dX8_readWinds_0 rfl ?_
  refine zA_cV (st := []) dX8_readWinds_1 vX8_step kX8_48 (s_step (w := w) hp (rC_E hR)) (by decide) c2 rfl rfl (Nat.le_of_ble_eq_true rfl) rfl (fun q_1_v q_1_S q_1_w q_1 => ?_)
  obtain ⟨rfl, rfl, ho0, hp0, hst0⟩ := q_1
  have hR0 : rC b n q_1_w (.inl (tkE b n p)) := rC_s hR hst0
  refine zA_range (fun hr => ?_)
  show zA l mX8_readWinds false 6 0 0 (fun v' S' w' => v' = none ∧ S' = (ZZ t dr 1) ∧ frD dr w w' ∧ pC b n w' ∧ rC b n w' (pSign b n (wndF b n 31 (.inl (tkE b n p)) Y).1) ∧ (okP (pSign b n (wndF b n 31 (.inl (tkE b n p)) Y).1) → yC w' dr ((wndF b n 31 (.inl (tkE b n p)) Y).2))) zNo 4 [zR 2, zR dr, .null] [] (ZZ t dr 1) q_1_w
  refine zA_aload_n dX8_readWinds_4 rfl ?_
  refine zA_aload_n dX8_readWinds_5 rfl ?_
  refine zA_cV (st := []) dX8_readWinds_6 vX8_takeDaysWind kX8_97 (s_takeDaysWind (w := q_1_w) (p := tkE b n p) (Y := Y) hdr hp0 hR0 (yC_o hdr hY ho0) hO) (by decide) c2 rfl rfl (Nat.le_of_ble_eq_true rfl) rfl (fun q_2_v q_2_S q_2_w q_2 => ?_)
  obtain ⟨rfl, rfl, hfa, hpa, hRa, hya⟩ := q_2
  obtain ⟨Ya, hca, hYa⟩ := wndF_s (b := b) (n := n) (k := 30) (s := .inl (tkE b n p)) (Y := Y)
  refine zA_range (fun hr => ?_)
  show zA l mX8_readWinds false 6 0 0 (fun v' S' w' => v' = none ∧ S' = (ZZ t dr 1) ∧ frD dr w w' ∧ pC b n w' ∧ rC b n w' (pSign b n (wndF b n 31 (.inl (tkE b n p)) Y).1) ∧ (okP (pSign b n (wndF b n 31 (.inl (tkE b n p)) Y).1) → yC w' dr ((wndF b n 31 (.inl (tkE b n p)) Y).2))) zNo 9 [zR 2, zR dr, .null] [] (ZZ t dr 1) q_2_w
  refine zA_iconst dX8_readWinds_9 ?_
  refine zA_istore_n (lo1 := [zR 2, zR dr, zI 0]) dX8_readWinds_10 (by decide) rfl rfl ?_
  have L11 : ∀ (z11 : Nat) (x : Int) (w1 : zW) (s1 : zP) (Y1 : zW) (x0 : 0 ≤ x) (x1 : x ≤ 30) (hf : frD dr w w1) (hp1 : pC b n w1) (hR1 : rC b n w1 s1) (hY1 : okP s1 → yC w1 dr Y1 ∧ okY Y1) (hc : wndF b n 31 (.inl (tkE b n p)) Y = cntW b n (30 - x).toNat s1 Y1) (zm : (30 - x).toNat < z11), zA l mX8_readWinds false 6 0 0 (fun v' S' w' => v' = none ∧ S' = (ZZ t dr 1) ∧ frD dr w w' ∧ pC b n w' ∧ rC b n w' (pSign b n (wndF b n 31 (.inl (tkE b n p)) Y).1) ∧ (okP (pSign b n (wndF b n 31 (.inl (tkE b n p)) Y).1) → yC w' dr ((wndF b n 31 (.inl (tkE b n p)) Y).2))) zNo 11 [zR 2, zR dr, zI x] [] (ZZ t dr 1) w1 := by
    intro z11
    induction z11 with
    | zero => intro x w1 s1 Y1 x0 x1 hf hp1 hR1 hY1 hc zm; exact absurd zm (Nat.not_lt_zero _)
    | succ z11 ih11 =>
      intro x w1 s1 Y1 x0 x1 hf hp1 hR1 hY1 hc zm
      refine zA_range (fun hr => ?_)
      refine zA_iload_n dX8_readWinds_11 rfl ?_
      refine zA_bipush dX8_readWinds_12 rfl ?_
      have L43 : ∀  (hre : wndF b n 31 (.inl (tkE b n p)) Y = (s1, Y1)), zA l mX8_readWinds false 6 0 0 (fun v' S' w' => v' = none ∧ S' = (ZZ t dr 1) ∧ frD dr w w' ∧ pC b n w' ∧ rC b n w' (pSign b n (wndF b n 31 (.inl (tkE b n p)) Y).1) ∧ (okP (pSign b n (wndF b n 31 (.inl (tkE b n p)) Y).1) → yC w' dr ((wndF b n 31 (.inl (tkE b n p)) Y).2))) zNo 43 [zR 2, zR dr, .null] [] (ZZ t dr 1) w1 := by
        intro  hre
        refine zA_aload_n dX8_readWinds_43 rfl ?_
        refine zA_cV (st := []) dX8_readWinds_44 vX8_takeSign kX8_91 (s_takeSign (w := w1) hp1 hR1) (by decide) c2 rfl rfl (Nat.le_of_ble_eq_true rfl) rfl (fun q_3_v q_3_S q_3_w q_3 => ?_)
        obtain ⟨rfl, rfl, hoz, hpz, hRz⟩ := q_3
        refine zA_range (fun hr => ?_)
        show zA l mX8_readWinds false 6 0 0 (fun v' S' w' => v' = none ∧ S' = (ZZ t dr 1) ∧ frD dr w w' ∧ pC b n w' ∧ rC b n w' (pSign b n (wndF b n 31 (.inl (tkE b n p)) Y).1) ∧ (okP (pSign b n (wndF b n 31 (.inl (tkE b n p)) Y).1) → yC w' dr ((wndF b n 31 (.inl (tkE b n p)) Y).2))) zNo 47 [zR 2, zR dr, .null] [] (ZZ t dr 1) q_3_w
        refine zA_vret dX8_readWinds_47 rfl ?_
        rw [hre]
        exact ⟨rfl, rfl, frD_tr hf (frD_o hoz), hpz, hRz, fun h => yC_o hdr (hY1 (pSign_ok h)).1 hoz⟩
      refine zA_icmp_ge (tgt := 43) dX8_readWinds_14 (by decide) (by first | assumption | exact hr _ _ | exact inR_mk (by omega) (by omega)) ⟨by decide, by decide⟩ (fun c14 => ?_) (fun c14 => ?_)
      · skip
        skip
        refine zA_drop 2 (lo1 := [zR 2, zR dr, .null]) rfl ?_
        exact L43 (by rw [hc, show (30 - x).toNat = 0 by omega]; exact cntW_0)
      · skip
        refine zA_aload_n dX8_readWinds_17 rfl ?_
        refine zA_getI dX8_readWinds_18 fX8_31 c2 rfl ?_
        refine zA_valI (w1 2 6) rfl ?_
        refine zA_if_ne (tgt := 43) dX8_readWinds_21 (by decide) (by first | assumption | exact hr _ _ | exact inR_mk (by omega) (by omega)) (fun c21 => ?_) (fun c21 => ?_)
        · skip
          skip
          refine zA_drop 2 (lo1 := [zR 2, zR dr, .null]) rfl ?_
          exact L43 (by rw [hc]; exact cntW_r (fun h => c21 ((rC_ok hR1).mpr h)))
        · skip
          obtain ⟨q1, hs1⟩ := rC_inl hR1 c21
          obtain ⟨hYc, hO1⟩ := hY1 (by rw [hs1]; trivial)
          have hRq := hR1
          rw [hs1] at hRq hc
          refine zA_aload_n dX8_readWinds_24 rfl ?_
          refine zA_getI dX8_readWinds_25 fX8_19 c2 rfl ?_
          refine zA_valI (w1 2 2) rfl ?_
          refine zA_iconst dX8_readWinds_28 ?_
          refine zA_icmp_ne (tgt := 43) dX8_readWinds_29 (by decide) (by first | assumption | exact hr _ _ | exact inR_mk (by omega) (by omega)) ⟨by decide, by decide⟩ (fun c29 => ?_) (fun c29 => ?_)
          · skip
            skip
            refine zA_drop 2 (lo1 := [zR 2, zR dr, .null]) rfl ?_
            exact L43 (by rw [hc, hs1]; exact cntW_n (fun h => c29 (hRq.2.2.2.1.trans h)))
          · skip
            have hk2 : tkK b n q1 = 2 := hRq.2.2.2.1.symm.trans c29
            refine zA_aload_n dX8_readWinds_32 rfl ?_
            refine zA_aload_n dX8_readWinds_33 rfl ?_
            refine zA_cV (st := []) dX8_readWinds_34 vX8_takeDaysWind kX8_97 (s_takeDaysWind (w := w1) (p := q1) (Y := Y1) hdr hp1 hRq hYc hO1) (by decide) c2 rfl rfl (Nat.le_of_ble_eq_true rfl) rfl (fun q_4_v q_4_S q_4_w q_4 => ?_)
            obtain ⟨rfl, rfl, hfb, hpb, hRb, hyb⟩ := q_4
            obtain ⟨Yb, hcb, hYb⟩ := wndF_s (b := b) (n := n) (k := (30 - (x + 1)).toNat) (s := .inl q1) (Y := Y1)
            refine zA_range (fun hr => ?_)
            show zA l mX8_readWinds false 6 0 0 (fun v' S' w' => v' = none ∧ S' = (ZZ t dr 1) ∧ frD dr w w' ∧ pC b n w' ∧ rC b n w' (pSign b n (wndF b n 31 (.inl (tkE b n p)) Y).1) ∧ (okP (pSign b n (wndF b n 31 (.inl (tkE b n p)) Y).1) → yC w' dr ((wndF b n 31 (.inl (tkE b n p)) Y).2))) zNo 37 [zR 2, zR dr, zI x] [] (ZZ t dr 1) q_4_w
            refine zA_iinc (lo1 := [zR 2, zR dr, zI (x + 1)]) dX8_readWinds_37 rfl (by decide) rfl rfl ?_
            refine zA_goto (tgt := 11) dX8_readWinds_40 (by decide) ?_
            exact ih11 (x + 1) _ _ Yb (by omega) (by omega) (frD_tr hf hfb) hpb hRb (fun h => by rw [hYb h]; exact ⟨hyb h, okY_W hO1 (wnd1_ok h).2 (wnd1_ok h).1.1 (wnd1_ok h).1.2⟩) (by rw [hc, show (30 - x).toNat = (30 - (x + 1)).toNat + 1 by omega, cntW_y hk2]; exact hcb) (by omega)
  exact L11 _ 0 _ _ Ya (by omega) (by omega) (frD_tr (frD_o ho0) hfa) hpa hRa (fun h => by rw [hYa h]; exact ⟨hya h, okY_W hO (wnd1_ok h).2 (wnd1_ok h).1.1 (wnd1_ok h).1.2⟩) hca (Nat.lt_succ_self _)

