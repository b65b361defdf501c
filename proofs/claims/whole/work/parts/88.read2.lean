/-! the reader of the class: takes -/
noncomputable def pNx (b : Int → Int) (n : Int) (s : zP) : zP := match s with
  | .inl p => .inl (tkE b n p)
  | .inr e => .inr e
noncomputable def pFl (b : Int → Int) (n k : Int) (s : zP) : zP := match s with
  | .inl p => .inr (k, tkS b n p)
  | .inr e => .inr e
def failw (w : zW) (k : Int) : zW := if w 2 6 ≠ 0 then w else up (up w 2 6 k) 2 7 (w 2 3)
theorem failw_o {w : zW} {k : Int} : only 2 w (failw w k) := by
  unfold failw; split
  · exact only_rfl
  · exact only_up (only_up only_rfl)
theorem pC_o {b : Int → Int} {n : Int} {w : zW} {k : Int} (h : pC b n w) : pC b n (failw w k) := by
  refine pC_c h ?_ (fun x => failw_o 1 x (by decide))
  unfold failw; split
  · rfl
  · rw [up_idx _ _ _ _ (by decide), up_idx _ _ _ _ (by decide)]
theorem rC_E {b : Int → Int} {n : Int} {w : zW} {s : zP} (h : rC b n w s) : w 2 6 = 0 → (0 ≤ w 2 4 ∧ w 2 4 ≤ n) ∧ w 2 7 = -1 := by
  intro h0
  cases s with
  | inr e => exact absurd (h.1.1.symm.trans h0) h.1.2.1
  | inl p =>
    obtain ⟨⟨p0, p1⟩, ⟨f6, f7⟩, ⟨f3, f4⟩, -⟩ := h
    have h1 := tkS_b (b := b) p1
    have h2 := tkE_b (b := b) p1
    exact ⟨by omega, f7⟩
theorem rC_b {b : Int → Int} {n : Int} {w : zW} {s : zP} (h : rC b n w s) : 0 ≤ w 2 3 ∧ w 2 3 ≤ w 2 4 ∧ w 2 4 ≤ n := by
  cases s with
  | inr e => exact h.2
  | inl p =>
    obtain ⟨⟨p0, p1⟩, ⟨f6, f7⟩, ⟨f3, f4⟩, -⟩ := h
    have h1 := tkS_b (b := b) p1
    have h2 := tkE_b (b := b) p1
    omega
theorem rC_inl {b : Int → Int} {n : Int} {w : zW} {s : zP} (h : rC b n w s) (h0 : w 2 6 = 0) : ∃ p, s = .inl p := by
  cases s with
  | inr e => exact absurd (h.1.1.symm.trans h0) h.1.2.1
  | inl p => exact ⟨p, rfl⟩
theorem rC_inr {b : Int → Int} {n : Int} {w : zW} {s : zP} (h : rC b n w s) (h0 : w 2 6 ≠ 0) : ∃ e, s = .inr e := by
  cases s with
  | inr e => exact ⟨e, rfl⟩
  | inl p => exact absurd h.2.1.1 h0
theorem rC_ok {b : Int → Int} {n : Int} {w : zW} {s : zP} (h : rC b n w s) : w 2 6 = 0 ↔ okP s := by
  cases s with
  | inr e => exact ⟨fun q => (h.1.2.1 (h.1.1.symm.trans q)).elim, fun q => q.elim⟩
  | inl p => exact ⟨fun _ => trivial, fun _ => h.2.1.1⟩
theorem rC_s {b : Int → Int} {n : Int} {w w' : zW} {s : zP} (h : rC b n w s) (k : (w 2 6 ≠ 0 ∧ w' = w) ∨ (w 2 6 = 0 ∧ rC b n w' (.inl (w 2 4)))) : rC b n w' (pNx b n s) := by
  rcases k with ⟨k1, rfl⟩ | ⟨k1, k2⟩
  · obtain ⟨e, rfl⟩ := rC_inr h k1; exact h
  · obtain ⟨p, rfl⟩ := rC_inl h k1
    have e4 : w 2 4 = tkE b n p := h.2.2.1.2
    rw [e4] at k2
    exact k2
theorem rC_f {b : Int → Int} {n : Int} {w : zW} {s : zP} {k : Int} (h : rC b n w s) (hk : k ≠ 0) : rC b n (failw w k) (pFl b n k s) := by
  have hb := rC_b h
  cases s with
  | inr e =>
    have : failw w k = w := by unfold failw; rw [if_pos (by rw [h.1.1]; exact h.1.2.1)]
    rw [this]; exact h
  | inl p =>
    have e : failw w k = up (up w 2 6 k) 2 7 (w 2 3) := by unfold failw; rw [if_neg (by rw [h.2.1.1]; exact fun q => q rfl)]
    rw [e]
    refine ⟨⟨?_, hk, ?_⟩, ?_⟩
    · rw [up_idx _ _ _ _ (by decide), up_same]
    · rw [up_same]; exact h.2.2.1.1
    · rw [up_idx _ _ _ _ (by decide), up_idx _ _ _ _ (by decide), up_idx _ _ _ _ (by decide), up_idx _ _ _ _ (by decide)]; exact hb
theorem pWord_t {b : Int → Int} {n : Int} {w : zW} {s : zP} {k : Nat} (h : rC b n w s) (g : w 2 2 = 1 ∧ w 2 4 - w 2 3 = sLen k ∧ ∀ i : Int, 0 ≤ i → i < sLen k → b (w 2 3 + i) = sCh k i) : pWord b n k s = pNx b n s := by
  cases s with
  | inr e => rfl
  | inl p =>
    obtain ⟨-, -, ⟨f3, f4⟩, f2, -⟩ := h
    unfold pWord
    simp only
    rw [if_pos (show isW b n k p by unfold isW; rw [← f2, ← f3, ← f4]; exact g)]
    rfl
theorem pWord_f {b : Int → Int} {n : Int} {w : zW} {s : zP} {k : Nat} (h : rC b n w s) (g : ¬ (w 2 2 = 1 ∧ w 2 4 - w 2 3 = sLen k ∧ ∀ i : Int, 0 ≤ i → i < sLen k → b (w 2 3 + i) = sCh k i)) : pWord b n k s = pFl b n 1 s := by
  cases s with
  | inr e => rfl
  | inl p =>
    obtain ⟨-, -, ⟨f3, f4⟩, f2, -⟩ := h
    unfold pWord
    simp only
    rw [if_neg (show ¬ isW b n k p by unfold isW; rw [← f2, ← f3, ← f4]; exact g)]
    rfl
set_option maxRecDepth 100000 in
set_option maxHeartbeats 4000000 in
theorem s_takeWord {l : Launch} {t dr : Nat} {w : zW} {b : Int → Int} {n : Int} {k : Nat} (hk : k < 11) {s : zP} (hp : pC b n w) (hR : rC b n w s)  : zSp l mX8_takeWord false 6 0 0 [zR 2, zR (1000 + k)] (ZZ t dr 1) w (fun v' S' w' => v' = none ∧ S' = (ZZ t dr 1) ∧ only 2 w w' ∧ pC b n w' ∧ rC b n w' (pWord b n k s)) zNo := by
  refine zA_intro ⟨plainFor_of_name (by decide +kernel), Or.inl (by decide +kernel)⟩ rfl (Nat.le_of_ble_eq_true rfl) ?_
  have hbb := rC_b hR
  refine zA_range (fun hr => ?_)
  show zA l mX8_takeWord false 6 0 0 (fun v' S' w' => v' = none ∧ S' = (ZZ t dr 1) ∧ only 2 w w' ∧ pC b n w' ∧ rC b n w' (pWord b n k s)) zNo 0 [zR 2, zR (1000 + k)] [] (ZZ t dr 1) w
  refine zA_aload_n dX8_takeWord_0 rfl ?_
  refine zA_aload_n dX8_takeWord_1 rfl ?_
  refine zA_cV (st := []) dX8_takeWord_2 vX8_isWord kX8_53 (s_isWord (w := w) hk hp hbb.1 hbb.2.1 hbb.2.2) (by decide) c2 rfl rfl (Nat.le_of_ble_eq_true rfl) rfl (zRp1_el (fun rr hrr => ?_))
  have hrb : 0 ≤ rr ∧ rr ≤ 1 := by rcases hrr with ⟨h, -⟩ | ⟨h, -⟩ <;> omega
  refine zA_if_eq (tgt := 15) dX8_takeWord_5 (by decide) (by first | assumption | exact hr _ _ | exact inR_mk (by omega) (by omega)) (fun c5 => ?_) (fun c5 => ?_)
  · skip
    have hnw := (hrr.resolve_left (fun h => by omega)).2
    refine zA_aload_n dX8_takeWord_15 rfl ?_
    refine zA_iconst dX8_takeWord_16 ?_
    refine zA_cV (st := []) dX8_takeWord_17 vX8_fail kX8_81 (s_failR (w := w) (t := t) (dr := dr) (tx := 1) (k := 1) ⟨by decide, by decide⟩) (by decide) c2 rfl rfl (Nat.le_of_ble_eq_true rfl) rfl (fun q_1_v q_1_S q_1_w q_1 => ?_)
    obtain ⟨rfl, rfl, rfl⟩ := q_1
    refine zA_range (fun hr => ?_)
    show zA l mX8_takeWord false 6 0 0 (fun v' S' w' => v' = none ∧ S' = (ZZ t dr 1) ∧ only 2 w w' ∧ pC b n w' ∧ rC b n w' (pWord b n k s)) zNo 20 [zR 2, zR (1000 + k)] [] (ZZ t dr 1) (failw w 1)
    refine zA_vret dX8_takeWord_20 rfl ?_
    exact ⟨rfl, rfl, failw_o, pC_o hp, by rw [pWord_f hR hnw]; exact rC_f hR (by decide)⟩
  · skip
    have hyw := (hrr.resolve_right (fun h => by omega)).2
    refine zA_aload_n dX8_takeWord_8 rfl ?_
    refine zA_cV (st := []) dX8_takeWord_9 vX8_step kX8_48 (s_step (w := w) hp (rC_E hR)) (by decide) c2 rfl rfl (Nat.le_of_ble_eq_true rfl) rfl (fun q_2_v q_2_S q_2_w q_2 => ?_)
    obtain ⟨rfl, rfl, ho, hp2, hst⟩ := q_2
    refine zA_range (fun hr => ?_)
    show zA l mX8_takeWord false 6 0 0 (fun v' S' w' => v' = none ∧ S' = (ZZ t dr 1) ∧ only 2 w w' ∧ pC b n w' ∧ rC b n w' (pWord b n k s)) zNo 12 [zR 2, zR (1000 + k)] [] (ZZ t dr 1) q_2_w
    refine zA_goto (tgt := 20) dX8_takeWord_12 (by decide) ?_
    refine zA_vret dX8_takeWord_20 rfl ?_
    exact ⟨rfl, rfl, ho, hp2, by rw [pWord_t hR hyw]; exact rC_s hR hst⟩

set_option maxRecDepth 100000 in
set_option maxHeartbeats 4000000 in
theorem s_takeSign {l : Launch} {t dr : Nat} {w : zW} {b : Int → Int} {n : Int} {s : zP} (hp : pC b n w) (hR : rC b n w s)  : zSp l mX8_takeSign false 4 0 0 [zR 2] (ZZ t dr 1) w (fun v' S' w' => v' = none ∧ S' = (ZZ t dr 1) ∧ only 2 w w' ∧ pC b n w' ∧ rC b n w' (pSign b n s)) zNo := by
  refine zA_intro ⟨plainFor_of_name (by decide +kernel), Or.inl (by decide +kernel)⟩ rfl (Nat.le_of_ble_eq_true rfl) ?_
  refine zA_range (fun hr => ?_)
  show zA l mX8_takeSign false 4 0 0 (fun v' S' w' => v' = none ∧ S' = (ZZ t dr 1) ∧ only 2 w w' ∧ pC b n w' ∧ rC b n w' (pSign b n s)) zNo 0 [zR 2] [] (ZZ t dr 1) w
  refine zA_aload_n dX8_takeSign_0 rfl ?_
  refine zA_getI dX8_takeSign_1 fX8_19 c2 rfl ?_
  refine zA_valI (w 2 2) rfl ?_
  refine zA_iconst dX8_takeSign_4 ?_
  refine zA_icmp_ne (tgt := 15) dX8_takeSign_5 (by decide) (by first | assumption | exact hr _ _ | exact inR_mk (by omega) (by omega)) ⟨by decide, by decide⟩ (fun c5 => ?_) (fun c5 => ?_)
  · skip
    refine zA_aload_n dX8_takeSign_15 rfl ?_
    refine zA_iconst dX8_takeSign_16 ?_
    refine zA_cV (st := []) dX8_takeSign_17 vX8_fail kX8_81 (s_failR (w := w) (t := t) (dr := dr) (tx := 1) (k := 1) ⟨by decide, by decide⟩) (by decide) c2 rfl rfl (Nat.le_of_ble_eq_true rfl) rfl (fun q_1_v q_1_S q_1_w q_1 => ?_)
    obtain ⟨rfl, rfl, rfl⟩ := q_1
    refine zA_range (fun hr => ?_)
    show zA l mX8_takeSign false 4 0 0 (fun v' S' w' => v' = none ∧ S' = (ZZ t dr 1) ∧ only 2 w w' ∧ pC b n w' ∧ rC b n w' (pSign b n s)) zNo 20 [zR 2] [] (ZZ t dr 1) (failw w 1)
    refine zA_vret dX8_takeSign_20 rfl ?_
    refine ⟨rfl, rfl, failw_o, pC_o hp, ?_⟩
    have hq := rC_f (k := 1) hR (by decide)
    cases s with
    | inr e => exact hq
    | inl p =>
      have e : pSign b n (.inl p) = .inr (1, tkS b n p) := if_neg (fun h => c5 (hR.2.2.2.1.trans h))
      rw [e]; exact hq
  · skip
    refine zA_aload_n dX8_takeSign_8 rfl ?_
    refine zA_cV (st := []) dX8_takeSign_9 vX8_step kX8_48 (s_step (w := w) hp (rC_E hR)) (by decide) c2 rfl rfl (Nat.le_of_ble_eq_true rfl) rfl (fun q_2_v q_2_S q_2_w q_2 => ?_)
    obtain ⟨rfl, rfl, ho, hp2, hst⟩ := q_2
    refine zA_range (fun hr => ?_)
    show zA l mX8_takeSign false 4 0 0 (fun v' S' w' => v' = none ∧ S' = (ZZ t dr 1) ∧ only 2 w w' ∧ pC b n w' ∧ rC b n w' (pSign b n s)) zNo 12 [zR 2] [] (ZZ t dr 1) q_2_w
    refine zA_goto (tgt := 20) dX8_takeSign_12 (by decide) ?_
    refine zA_vret dX8_takeSign_20 rfl ?_
    refine ⟨rfl, rfl, ho, hp2, ?_⟩
    have hq := rC_s hR hst
    cases s with
    | inr e => exact hq
    | inl p =>
      have e : pSign b n (.inl p) = .inl (tkE b n p) := if_pos (hR.2.2.2.1.symm.trans c5)
      rw [e]; exact hq

set_option maxRecDepth 100000 in
set_option maxHeartbeats 4000000 in
theorem s_takeNumber {l : Launch} {t dr : Nat} {w : zW} {b : Int → Int} {n : Int} {lo hi : Int} (l0 : 0 ≤ lo) (h9 : hi ≤ 9999) (l1 : inR lo) (h1 : inR hi) {s : zP} (hp : pC b n w) (hR : rC b n w s)  : zSp l mX8_takeNumber false 4 0 0 [zR 2, zI lo, zI hi] (ZZ t dr 1) w (fun v' S' w' => (∃ r, v' = some (zI r) ∧ inR r ∧ (okP (pNum b n lo hi s) → r = pVal b n s)) ∧ S' = (ZZ t dr 1) ∧ only 2 w w' ∧ pC b n w' ∧ rC b n w' (pNum b n lo hi s)) zNo := by
  refine zA_intro ⟨plainFor_of_name (by decide +kernel), Or.inl (by decide +kernel)⟩ rfl (Nat.le_of_ble_eq_true rfl) ?_
  refine zA_range (fun hr => ?_)
  show zA l mX8_takeNumber false 4 0 0 (fun v' S' w' => (∃ r, v' = some (zI r) ∧ inR r ∧ (okP (pNum b n lo hi s) → r = pVal b n s)) ∧ S' = (ZZ t dr 1) ∧ only 2 w w' ∧ pC b n w' ∧ rC b n w' (pNum b n lo hi s)) zNo 0 [zR 2, zI lo, zI hi, .null] [] (ZZ t dr 1) w
  refine zA_aload_n dX8_takeNumber_0 rfl ?_
  refine zA_getI dX8_takeNumber_1 fX8_31 c2 rfl ?_
  refine zA_valI (w 2 6) rfl ?_
  refine zA_if_eq (tgt := 9) dX8_takeNumber_4 (by decide) (by first | assumption | exact hr _ _ | exact inR_mk (by omega) (by omega)) (fun c4 => ?_) (fun c4 => ?_)
  · skip
    have hv5 := hr 2 5
    obtain ⟨p, hs⟩ := rC_inl hR c4
    have hRp := hR
    rw [hs] at hRp
    obtain ⟨⟨p0, p1⟩, ⟨f6, f7⟩, ⟨f3, f4⟩, f2, f5⟩ := id hRp
    refine zA_aload_n dX8_takeNumber_9 rfl ?_
    refine zA_getI dX8_takeNumber_10 fX8_19 c2 rfl ?_
    refine zA_valI (w 2 2) rfl ?_
    refine zA_iconst dX8_takeNumber_13 ?_
    refine zA_icmp_eq (tgt := 24) dX8_takeNumber_14 (by decide) (by first | assumption | exact hr _ _ | exact inR_mk (by omega) (by omega)) ⟨by decide, by decide⟩ (fun c14 => ?_) (fun c14 => ?_)
    · skip
      rw [f2] at c14
      rw [if_pos c14] at f5
      have hvb := tkV_b (b := b) p1 c14
      have hpn : ∀ x : zP, (4 < tkE b n p - tkS b n p ∨ tkV b n p < lo ∨ hi < tkV b n p → x = .inr (2, tkS b n p)) → (¬ (4 < tkE b n p - tkS b n p ∨ tkV b n p < lo ∨ hi < tkV b n p) → x = .inl (tkE b n p)) → pNum b n lo hi (.inl p) = x := fun x g1 g2 => by
        show (if tkK b n p ≠ 2 then _ else if 4 < tkE b n p - tkS b n p ∨ tkV b n p < lo ∨ hi < tkV b n p then _ else _) = x
        rw [if_neg (fun q => q c14)]
        by_cases g : 4 < tkE b n p - tkS b n p ∨ tkV b n p < lo ∨ hi < tkV b n p
        · rw [if_pos g, g1 g]
        · rw [if_neg g, g2 g]
      refine zA_aload_n dX8_takeNumber_24 rfl ?_
      refine zA_getI dX8_takeNumber_25 fX8_28 c2 rfl ?_
      refine zA_valI (w 2 5) rfl ?_
      refine zA_iload_n dX8_takeNumber_28 rfl ?_
      refine zA_icmp_lt (tgt := 40) dX8_takeNumber_29 (by decide) (by first | assumption | exact hr _ _ | exact inR_mk (by omega) (by omega)) (by first | assumption | exact hr _ _ | exact inR_mk (by omega) (by omega)) (fun c29 => ?_) (fun c29 => ?_)
      · skip
        refine zA_aload_n dX8_takeNumber_40 rfl ?_
        refine zA_iconst dX8_takeNumber_41 ?_
        refine zA_cV (st := []) dX8_takeNumber_42 vX8_fail kX8_81 (s_failR (w := w) (t := t) (dr := dr) (tx := 1) (k := 2) ⟨by decide, by decide⟩) (by decide) c2 rfl rfl (Nat.le_of_ble_eq_true rfl) rfl (fun q_1_v q_1_S q_1_w q_1 => ?_)
        obtain ⟨rfl, rfl, rfl⟩ := q_1
        refine zA_range (fun hr => ?_)
        show zA l mX8_takeNumber false 4 0 0 (fun v' S' w' => (∃ r, v' = some (zI r) ∧ inR r ∧ (okP (pNum b n lo hi s) → r = pVal b n s)) ∧ S' = (ZZ t dr 1) ∧ only 2 w w' ∧ pC b n w' ∧ rC b n w' (pNum b n lo hi s)) zNo 45 [zR 2, zI lo, zI hi, .null] [] (ZZ t dr 1) (failw w 2)
        refine zA_iconst dX8_takeNumber_45 ?_
        refine zA_iret dX8_takeNumber_46 rfl ?_
        subst hs
        have hq := rC_f (k := 2) hR (by decide)
        have e : pNum b n lo hi (.inl p) = .inr (2, tkS b n p) := hpn _ (fun _ => rfl) (fun g => by
          exfalso
          rw [if_neg (by omega)] at f5
          omega)
        rw [e]
        exact ⟨⟨0, rfl, ⟨by decide, by decide⟩, fun h => h.elim⟩, rfl, failw_o, pC_o hp, hq⟩
      · skip
        refine zA_aload_n dX8_takeNumber_32 rfl ?_
        refine zA_getI dX8_takeNumber_33 fX8_28 c2 rfl ?_
        refine zA_valI (w 2 5) rfl ?_
        refine zA_iload_n dX8_takeNumber_36 rfl ?_
        refine zA_icmp_le (tgt := 47) dX8_takeNumber_37 (by decide) (by first | assumption | exact hr _ _ | exact inR_mk (by omega) (by omega)) (by first | assumption | exact hr _ _ | exact inR_mk (by omega) (by omega)) (fun c37 => ?_) (fun c37 => ?_)
        · skip
          refine zA_aload_n dX8_takeNumber_47 rfl ?_
          refine zA_getI dX8_takeNumber_48 fX8_28 c2 rfl ?_
          refine zA_valI (w 2 5) rfl ?_
          refine zA_istore_n (lo1 := [zR 2, zI lo, zI hi, zI (w 2 5)]) dX8_takeNumber_51 (by decide) rfl rfl ?_
          refine zA_aload_n dX8_takeNumber_52 rfl ?_
          refine zA_cV (st := []) dX8_takeNumber_53 vX8_step kX8_48 (s_step (w := w) hp (rC_E hR)) (by decide) c2 rfl rfl (Nat.le_of_ble_eq_true rfl) rfl (fun q_2_v q_2_S q_2_w q_2 => ?_)
          obtain ⟨rfl, rfl, ho, hp2, hst⟩ := q_2
          refine zA_range (fun hr => ?_)
          show zA l mX8_takeNumber false 4 0 0 (fun v' S' w' => (∃ r, v' = some (zI r) ∧ inR r ∧ (okP (pNum b n lo hi s) → r = pVal b n s)) ∧ S' = (ZZ t dr 1) ∧ only 2 w w' ∧ pC b n w' ∧ rC b n w' (pNum b n lo hi s)) zNo 56 [zR 2, zI lo, zI hi, zI (w 2 5)] [] (ZZ t dr 1) q_2_w
          refine zA_iload_n dX8_takeNumber_56 rfl ?_
          refine zA_iret dX8_takeNumber_57 rfl ?_
          subst hs
          have hq := rC_s hR hst
          have hlen : ¬ 4 < tkE b n p - tkS b n p := fun g => by rw [if_pos g] at f5; omega
          rw [if_neg hlen] at f5
          have e : pNum b n lo hi (.inl p) = .inl (tkE b n p) := hpn _ (fun g => by exfalso; omega) (fun _ => rfl)
          rw [e]
          exact ⟨⟨_, rfl, hv5, fun _ => f5⟩, rfl, ho, hp2, hq⟩
        · skip
          refine zA_aload_n dX8_takeNumber_40 rfl ?_
          refine zA_iconst dX8_takeNumber_41 ?_
          refine zA_cV (st := []) dX8_takeNumber_42 vX8_fail kX8_81 (s_failR (w := w) (t := t) (dr := dr) (tx := 1) (k := 2) ⟨by decide, by decide⟩) (by decide) c2 rfl rfl (Nat.le_of_ble_eq_true rfl) rfl (fun q_3_v q_3_S q_3_w q_3 => ?_)
          obtain ⟨rfl, rfl, rfl⟩ := q_3
          refine zA_range (fun hr => ?_)
          show zA l mX8_takeNumber false 4 0 0 (fun v' S' w' => (∃ r, v' = some (zI r) ∧ inR r ∧ (okP (pNum b n lo hi s) → r = pVal b n s)) ∧ S' = (ZZ t dr 1) ∧ only 2 w w' ∧ pC b n w' ∧ rC b n w' (pNum b n lo hi s)) zNo 45 [zR 2, zI lo, zI hi, .null] [] (ZZ t dr 1) (failw w 2)
          refine zA_iconst dX8_takeNumber_45 ?_
          refine zA_iret dX8_takeNumber_46 rfl ?_
          subst hs
          have hq := rC_f (k := 2) hR (by decide)
          have e : pNum b n lo hi (.inl p) = .inr (2, tkS b n p) := hpn _ (fun _ => rfl) (fun g => by
            exfalso
            rw [if_neg (by omega)] at f5
            omega)
          rw [e]
          exact ⟨⟨0, rfl, ⟨by decide, by decide⟩, fun h => h.elim⟩, rfl, failw_o, pC_o hp, hq⟩
    · skip
      refine zA_aload_n dX8_takeNumber_17 rfl ?_
      refine zA_iconst dX8_takeNumber_18 ?_
      refine zA_cV (st := []) dX8_takeNumber_19 vX8_fail kX8_81 (s_failR (w := w) (t := t) (dr := dr) (tx := 1) (k := 1) ⟨by decide, by decide⟩) (by decide) c2 rfl rfl (Nat.le_of_ble_eq_true rfl) rfl (fun q_4_v q_4_S q_4_w q_4 => ?_)
      obtain ⟨rfl, rfl, rfl⟩ := q_4
      refine zA_range (fun hr => ?_)
      show zA l mX8_takeNumber false 4 0 0 (fun v' S' w' => (∃ r, v' = some (zI r) ∧ inR r ∧ (okP (pNum b n lo hi s) → r = pVal b n s)) ∧ S' = (ZZ t dr 1) ∧ only 2 w w' ∧ pC b n w' ∧ rC b n w' (pNum b n lo hi s)) zNo 22 [zR 2, zI lo, zI hi, .null] [] (ZZ t dr 1) (failw w 1)
      refine zA_iconst dX8_takeNumber_22 ?_
      refine zA_iret dX8_takeNumber_23 rfl ?_
      subst hs
      have hq := rC_f (k := 1) hR (by decide)
      have e : pNum b n lo hi (.inl p) = .inr (1, tkS b n p) := if_pos (fun h => c14 (f2.trans h))
      rw [e]
      exact ⟨⟨0, rfl, ⟨by decide, by decide⟩, fun h => h.elim⟩, rfl, failw_o, pC_o hp, hq⟩
  · skip
    refine zA_iconst dX8_takeNumber_7 ?_
    refine zA_iret dX8_takeNumber_8 rfl ?_
    obtain ⟨e, rfl⟩ := rC_inr hR c4
    exact ⟨⟨0, rfl, ⟨by decide, by decide⟩, fun h => h.elim⟩, rfl, only_rfl, hp, hR⟩

theorem pTill_n {b : Int → Int} {n : Int} {w : zW} {s : zP} {f : Int} (h : rC b n w s) (hf : okP s → f ≤ 29) (hn : ¬ (w 2 2 = 2 ∧ w 2 5 < f)) : pNum b n 0 29 s = pTill b n f s := by
  cases s with
  | inr e => rfl
  | inl p =>
    obtain ⟨⟨p0, p1⟩, -, -, f2, f5⟩ := h
    have hf := hf trivial
    show (if tkK b n p ≠ 2 then _ else if 4 < tkE b n p - tkS b n p ∨ tkV b n p < 0 ∨ 29 < tkV b n p then _ else _) = (if tkK b n p ≠ 2 then _ else if 4 < tkE b n p - tkS b n p then _ else if tkV b n p < f then _ else if 29 < tkV b n p then _ else _)
    by_cases k : tkK b n p ≠ 2
    · rw [if_pos k, if_pos k]
    · rw [if_neg k, if_neg k]
      have k2 : tkK b n p = 2 := by omega
      rw [if_pos k2] at f5
      by_cases g : 4 < tkE b n p - tkS b n p
      · rw [if_pos (Or.inl g), if_pos g]
      · have := tkV_b (b := b) p1 k2 (by omega)
        rw [if_neg g] at f5
        rw [if_neg g, if_neg (show ¬ tkV b n p < f by omega)]
        by_cases q : 29 < tkV b n p
        · rw [if_pos (Or.inr (Or.inr q)), if_pos q]
        · rw [if_neg (by omega), if_neg q]
theorem pTill_y {b : Int → Int} {n : Int} {w : zW} {s : zP} {f : Int} (h : rC b n w s) (hf : okP s → f ≤ 29) (hn : w 2 2 = 2 ∧ w 2 5 < f) : pNum b n 0 29 (pFl b n 4 s) = pTill b n f s := by
  cases s with
  | inr e => rfl
  | inl p =>
    obtain ⟨⟨p0, p1⟩, -, -, f2, f5⟩ := h
    have hf := hf trivial
    show (.inr (4, tkS b n p) : zP) = (if tkK b n p ≠ 2 then _ else if 4 < tkE b n p - tkS b n p then _ else if tkV b n p < f then _ else if 29 < tkV b n p then _ else _)
    have k2 : tkK b n p = 2 := by omega
    rw [if_pos k2] at f5
    have g : ¬ 4 < tkE b n p - tkS b n p := fun g => by rw [if_pos g] at f5; omega
    rw [if_neg g] at f5
    rw [if_neg (by omega), if_neg g, if_pos (by omega)]
theorem pTill_y2 {b : Int → Int} {n : Int} {w : zW} {s : zP} {f : Int} (h : rC b n w s) (hf : okP s → f ≤ 29) (hn : w 2 2 = 2 ∧ w 2 5 < f) : okP (pTill b n f s) → pFl b n 4 s = s := by
  rw [← pTill_y h hf hn]
  cases s with
  | inr e => exact fun _ => rfl
  | inl p => exact fun q => q.elim
theorem pChim_n {b : Int → Int} {n : Int} {w : zW} {s : zP} {nc un : Int} (h : rC b n w s) (hn : ¬ (w 2 2 = 2 ∧ w 2 5 ≤ 9999 ∧ (nc ≤ w 2 5 ∨ w 2 5 = un))) : pNum b n 0 9999 s = pChim b n nc un s := by
  cases s with
  | inr e => rfl
  | inl p =>
    obtain ⟨⟨p0, p1⟩, -, -, f2, f5⟩ := h
    show (if tkK b n p ≠ 2 then _ else if 4 < tkE b n p - tkS b n p ∨ tkV b n p < 0 ∨ 9999 < tkV b n p then _ else _) = (if tkK b n p ≠ 2 then _ else if 4 < tkE b n p - tkS b n p then _ else if nc ≤ tkV b n p then _ else if tkV b n p = un then _ else _)
    by_cases k : tkK b n p ≠ 2
    · rw [if_pos k, if_pos k]
    · rw [if_neg k, if_neg k]
      have k2 : tkK b n p = 2 := by omega
      rw [if_pos k2] at f5
      by_cases g : 4 < tkE b n p - tkS b n p
      · rw [if_pos (Or.inl g), if_pos g]
      · have := tkV_b (b := b) p1 k2 (by omega)
        rw [if_neg g] at f5
        rw [if_neg g, if_neg (show ¬ nc ≤ tkV b n p by omega), if_neg (show ¬ tkV b n p = un by omega), if_neg (by omega)]
theorem pChim_3 {b : Int → Int} {n : Int} {w : zW} {s : zP} {nc un : Int} (h : rC b n w s) (hn : w 2 2 = 2 ∧ w 2 5 ≤ 9999 ∧ nc ≤ w 2 5) : pNum b n 0 9999 (pFl b n 3 s) = pChim b n nc un s ∧ (okP (pChim b n nc un s) → pFl b n 3 s = s) := by
  cases s with
  | inr e => exact ⟨rfl, fun _ => rfl⟩
  | inl p =>
    obtain ⟨⟨p0, p1⟩, -, -, f2, f5⟩ := h
    have k2 : tkK b n p = 2 := by omega
    rw [if_pos k2] at f5
    have g : ¬ 4 < tkE b n p - tkS b n p := fun g => by rw [if_pos g] at f5; omega
    rw [if_neg g] at f5
    have e : (.inr (3, tkS b n p) : zP) = pChim b n nc un (.inl p) := by
      show (.inr (3, tkS b n p) : zP) = (if tkK b n p ≠ 2 then _ else if 4 < tkE b n p - tkS b n p then _ else if nc ≤ tkV b n p then _ else if tkV b n p = un then _ else _)
      rw [if_neg (by omega), if_neg g, if_pos (by omega)]
    exact ⟨e, fun q => by rw [← e] at q; exact q.elim⟩
theorem pChim_5 {b : Int → Int} {n : Int} {w : zW} {s : zP} {nc un : Int} (h : rC b n w s) (hn : w 2 2 = 2 ∧ w 2 5 ≤ 9999 ∧ w 2 5 < nc ∧ w 2 5 = un) : pNum b n 0 9999 (pFl b n 5 s) = pChim b n nc un s ∧ (okP (pChim b n nc un s) → pFl b n 5 s = s) := by
  cases s with
  | inr e => exact ⟨rfl, fun _ => rfl⟩
  | inl p =>
    obtain ⟨⟨p0, p1⟩, -, -, f2, f5⟩ := h
    have k2 : tkK b n p = 2 := by omega
    rw [if_pos k2] at f5
    have g : ¬ 4 < tkE b n p - tkS b n p := fun g => by rw [if_pos g] at f5; omega
    rw [if_neg g] at f5
    have e : (.inr (5, tkS b n p) : zP) = pChim b n nc un (.inl p) := by
      show (.inr (5, tkS b n p) : zP) = (if tkK b n p ≠ 2 then _ else if 4 < tkE b n p - tkS b n p then _ else if nc ≤ tkV b n p then _ else if tkV b n p = un then _ else _)
      rw [if_neg (by omega), if_neg g, if_neg (by omega), if_pos (by omega)]
    exact ⟨e, fun q => by rw [← e] at q; exact q.elim⟩
set_option maxRecDepth 100000 in
set_option maxHeartbeats 4000000 in
theorem s_takeTill {l : Launch} {t dr : Nat} {w : zW} {b : Int → Int} {n : Int} {f : Int} {s : zP} (hfr : inR f) (hf : okP s → f ≤ 29) (hp : pC b n w) (hR : rC b n w s)  : zSp l mX8_takeTill false 5 0 0 [zR 2, zI f] (ZZ t dr 1) w (fun v' S' w' => (∃ r, v' = some (zI r) ∧ inR r ∧ (okP (pTill b n f s) → r = pVal b n s)) ∧ S' = (ZZ t dr 1) ∧ only 2 w w' ∧ pC b n w' ∧ rC b n w' (pTill b n f s)) zNo := by
  refine zA_intro ⟨plainFor_of_name (by decide +kernel), Or.inl (by decide +kernel)⟩ rfl (Nat.le_of_ble_eq_true rfl) ?_
  refine zA_range (fun hr => ?_)
  show zA l mX8_takeTill false 5 0 0 (fun v' S' w' => (∃ r, v' = some (zI r) ∧ inR r ∧ (okP (pTill b n f s) → r = pVal b n s)) ∧ S' = (ZZ t dr 1) ∧ only 2 w w' ∧ pC b n w' ∧ rC b n w' (pTill b n f s)) zNo 0 [zR 2, zI f] [] (ZZ t dr 1) w
  have L21 : ∀ (w1 : zW) (s1 : zP) (ho1 : only 2 w w1) (hp1 : pC b n w1) (hR1 : rC b n w1 s1) (hs1 : pNum b n 0 29 s1 = pTill b n f s) (hs2 : okP (pTill b n f s) → s1 = s), zA l mX8_takeTill false 5 0 0 (fun v' S' w' => (∃ r, v' = some (zI r) ∧ inR r ∧ (okP (pTill b n f s) → r = pVal b n s)) ∧ S' = (ZZ t dr 1) ∧ only 2 w w' ∧ pC b n w' ∧ rC b n w' (pTill b n f s)) zNo 21 [zR 2, zI f] [] (ZZ t dr 1) w1 := by
    intro w1 s1 ho1 hp1 hR1 hs1 hs2
    refine zA_range (fun hr => ?_)
    refine zA_aload_n dX8_takeTill_21 rfl ?_
    refine zA_iconst dX8_takeTill_22 ?_
    refine zA_bipush dX8_takeTill_23 rfl ?_
    refine zA_cV (st := []) dX8_takeTill_25 vX8_takeNumber kX8_88 (s_takeNumber (w := w1) (lo := 0) (hi := 29) (s := s1) (by decide) (by decide) ⟨by decide, by decide⟩ ⟨by decide, by decide⟩ hp1 hR1) (by decide) c2 rfl rfl (Nat.le_of_ble_eq_true rfl) rfl (fun q_1_v q_1_S q_1_w q_1 => ?_)
    obtain ⟨⟨rv, rfl, hrv, hrv2⟩, rfl, ho3, hp3, hR3⟩ := q_1
    refine zA_range (fun hr => ?_)
    show zA l mX8_takeTill false 5 0 0 (fun v' S' w' => (∃ r, v' = some (zI r) ∧ inR r ∧ (okP (pTill b n f s) → r = pVal b n s)) ∧ S' = (ZZ t dr 1) ∧ only 2 w w' ∧ pC b n w' ∧ rC b n w' (pTill b n f s)) zNo 28 [zR 2, zI f] [zI rv] (ZZ t dr 1) q_1_w
    refine zA_iret dX8_takeTill_28 rfl ?_
    rw [hs1] at hrv2 hR3
    exact ⟨⟨_, rfl, hrv, fun h => by rw [hrv2 h, hs2 h]⟩, rfl, only_tr ho1 ho3, hp3, hR3⟩
  refine zA_aload_n dX8_takeTill_0 rfl ?_
  refine zA_getI dX8_takeTill_1 fX8_19 c2 rfl ?_
  refine zA_valI (w 2 2) rfl ?_
  refine zA_iconst dX8_takeTill_4 ?_
  refine zA_icmp_ne (tgt := 21) dX8_takeTill_5 (by decide) (by first | assumption | exact hr _ _ | exact inR_mk (by omega) (by omega)) ⟨by decide, by decide⟩ (fun c5 => ?_) (fun c5 => ?_)
  · skip
    exact L21 w s only_rfl hp hR (pTill_n hR hf (by omega)) (fun _ => rfl)
  · skip
    refine zA_aload_n dX8_takeTill_8 rfl ?_
    refine zA_getI dX8_takeTill_9 fX8_28 c2 rfl ?_
    refine zA_valI (w 2 5) rfl ?_
    refine zA_iload_n dX8_takeTill_12 rfl ?_
    refine zA_icmp_ge (tgt := 21) dX8_takeTill_13 (by decide) (by first | assumption | exact hr _ _ | exact inR_mk (by omega) (by omega)) (by first | assumption | exact hr _ _ | exact inR_mk (by omega) (by omega)) (fun c13 => ?_) (fun c13 => ?_)
    · skip
      exact L21 w s only_rfl hp hR (pTill_n hR hf (by omega)) (fun _ => rfl)
    · skip
      refine zA_aload_n dX8_takeTill_16 rfl ?_
      refine zA_iconst dX8_takeTill_17 ?_
      refine zA_cV (st := []) dX8_takeTill_18 vX8_fail kX8_81 (s_failR (w := w) (t := t) (dr := dr) (tx := 1) (k := 4) ⟨by decide, by decide⟩) (by decide) c2 rfl rfl (Nat.le_of_ble_eq_true rfl) rfl (fun q_2_v q_2_S q_2_w q_2 => ?_)
      obtain ⟨rfl, rfl, rfl⟩ := q_2
      refine zA_range (fun hr => ?_)
      show zA l mX8_takeTill false 5 0 0 (fun v' S' w' => (∃ r, v' = some (zI r) ∧ inR r ∧ (okP (pTill b n f s) → r = pVal b n s)) ∧ S' = (ZZ t dr 1) ∧ only 2 w w' ∧ pC b n w' ∧ rC b n w' (pTill b n f s)) zNo 21 [zR 2, zI f] [] (ZZ t dr 1) (failw w 4)
      exact L21 _ _ failw_o (pC_o hp) (rC_f hR (by decide)) (pTill_y hR hf (by omega)) (pTill_y2 hR hf (by omega))

set_option maxRecDepth 100000 in
set_option maxHeartbeats 4000000 in
theorem s_takeChimney {l : Launch} {t dr : Nat} {w : zW} {b : Int → Int} {n : Int} {un : Int} (hdr : dr = 4 ∨ dr = 10) (hur : inR un) {s : zP} (hp : pC b n w) (hR : rC b n w s)  : zSp l mX8_takeChimney false 5 0 0 [zR 2, zR dr, zI un] (ZZ t dr 1) w (fun v' S' w' => (∃ r, v' = some (zI r) ∧ inR r ∧ (okP (pChim b n (w dr 5) un s) → r = pVal b n s)) ∧ S' = (ZZ t dr 1) ∧ only 2 w w' ∧ pC b n w' ∧ rC b n w' (pChim b n (w dr 5) un s)) zNo := by
  refine zA_intro ⟨plainFor_of_name (by decide +kernel), Or.inl (by decide +kernel)⟩ rfl (Nat.le_of_ble_eq_true rfl) ?_
  refine zA_range (fun hr => ?_)
  show zA l mX8_takeChimney false 5 0 0 (fun v' S' w' => (∃ r, v' = some (zI r) ∧ inR r ∧ (okP (pChim b n (w dr 5) un s) → r = pVal b n s)) ∧ S' = (ZZ t dr 1) ∧ only 2 w w' ∧ pC b n w' ∧ rC b n w' (pChim b n (w dr 5) un s)) zNo 0 [zR 2, zR dr, zI un] [] (ZZ t dr 1) w
  have L50 : ∀ (w1 : zW) (s1 : zP) (ho1 : only 2 w w1) (hp1 : pC b n w1) (hR1 : rC b n w1 s1) (hs1 : pNum b n 0 9999 s1 = pChim b n (w dr 5) un s) (hs2 : okP (pChim b n (w dr 5) un s) → s1 = s), zA l mX8_takeChimney false 5 0 0 (fun v' S' w' => (∃ r, v' = some (zI r) ∧ inR r ∧ (okP (pChim b n (w dr 5) un s) → r = pVal b n s)) ∧ S' = (ZZ t dr 1) ∧ only 2 w w' ∧ pC b n w' ∧ rC b n w' (pChim b n (w dr 5) un s)) zNo 50 [zR 2, zR dr, zI un] [] (ZZ t dr 1) w1 := by
    intro w1 s1 ho1 hp1 hR1 hs1 hs2
    refine zA_range (fun hr => ?_)
    refine zA_aload_n dX8_takeChimney_50 rfl ?_
    refine zA_iconst dX8_takeChimney_51 ?_
    refine zA_sipush dX8_takeChimney_52 rfl ?_
    refine zA_cV (st := []) dX8_takeChimney_55 vX8_takeNumber kX8_88 (s_takeNumber (w := w1) (lo := 0) (hi := 9999) (s := s1) (by decide) (by decide) ⟨by decide, by decide⟩ ⟨by decide, by decide⟩ hp1 hR1) (by decide) c2 rfl rfl (Nat.le_of_ble_eq_true rfl) rfl (fun q_1_v q_1_S q_1_w q_1 => ?_)
    obtain ⟨⟨rv, rfl, hrv, hrv2⟩, rfl, ho3, hp3, hR3⟩ := q_1
    refine zA_range (fun hr => ?_)
    show zA l mX8_takeChimney false 5 0 0 (fun v' S' w' => (∃ r, v' = some (zI r) ∧ inR r ∧ (okP (pChim b n (w dr 5) un s) → r = pVal b n s)) ∧ S' = (ZZ t dr 1) ∧ only 2 w w' ∧ pC b n w' ∧ rC b n w' (pChim b n (w dr 5) un s)) zNo 58 [zR 2, zR dr, zI un] [zI rv] (ZZ t dr 1) q_1_w
    refine zA_iret dX8_takeChimney_58 rfl ?_
    rw [hs1] at hrv2 hR3
    exact ⟨⟨_, rfl, hrv, fun h => by rw [hrv2 h, hs2 h]⟩, rfl, only_tr ho1 ho3, hp3, hR3⟩
  refine zA_aload_n dX8_takeChimney_0 rfl ?_
  refine zA_getI dX8_takeChimney_1 fX8_19 c2 rfl ?_
  refine zA_valI (w 2 2) rfl ?_
  refine zA_iconst dX8_takeChimney_4 ?_
  refine zA_icmp_ne (tgt := 50) dX8_takeChimney_5 (by decide) (by first | assumption | exact hr _ _ | exact inR_mk (by omega) (by omega)) ⟨by decide, by decide⟩ (fun c5 => ?_) (fun c5 => ?_)
  · skip
    exact L50 w s only_rfl hp hR (pChim_n hR (by omega)) (fun _ => rfl)
  · skip
    refine zA_aload_n dX8_takeChimney_8 rfl ?_
    refine zA_getI dX8_takeChimney_9 fX8_28 c2 rfl ?_
    refine zA_valI (w 2 5) rfl ?_
    refine zA_sipush dX8_takeChimney_12 rfl ?_
    refine zA_icmp_gt (tgt := 50) dX8_takeChimney_15 (by decide) (by first | assumption | exact hr _ _ | exact inR_mk (by omega) (by omega)) ⟨by decide, by decide⟩ (fun c15 => ?_) (fun c15 => ?_)
    · skip
      exact L50 w s only_rfl hp hR (pChim_n hR (by omega)) (fun _ => rfl)
    · skip
      refine zA_aload_n dX8_takeChimney_18 rfl ?_
      refine zA_getI dX8_takeChimney_19 fX8_28 c2 rfl ?_
      refine zA_valI (w 2 5) rfl ?_
      refine zA_aload_n dX8_takeChimney_22 rfl ?_
      refine zA_getI dX8_takeChimney_23 fX8_85 (cY0 hdr) rfl ?_
      refine zA_valI (w dr 5) rfl ?_
      refine zA_icmp_lt (tgt := 37) dX8_takeChimney_26 (by decide) (by first | assumption | exact hr _ _ | exact inR_mk (by omega) (by omega)) (by first | assumption | exact hr _ _ | exact inR_mk (by omega) (by omega)) (fun c26 => ?_) (fun c26 => ?_)
      · skip
        refine zA_aload_n dX8_takeChimney_37 rfl ?_
        refine zA_getI dX8_takeChimney_38 fX8_28 c2 rfl ?_
        refine zA_valI (w 2 5) rfl ?_
        refine zA_iload_n dX8_takeChimney_41 rfl ?_
        refine zA_icmp_ne (tgt := 50) dX8_takeChimney_42 (by decide) (by first | assumption | exact hr _ _ | exact inR_mk (by omega) (by omega)) (by first | assumption | exact hr _ _ | exact inR_mk (by omega) (by omega)) (fun c42 => ?_) (fun c42 => ?_)
        · skip
          exact L50 w s only_rfl hp hR (pChim_n hR (by omega)) (fun _ => rfl)
        · skip
          refine zA_aload_n dX8_takeChimney_45 rfl ?_
          refine zA_iconst dX8_takeChimney_46 ?_
          refine zA_cV (st := []) dX8_takeChimney_47 vX8_fail kX8_81 (s_failR (w := w) (t := t) (dr := dr) (tx := 1) (k := 5) ⟨by decide, by decide⟩) (by decide) c2 rfl rfl (Nat.le_of_ble_eq_true rfl) rfl (fun q_2_v q_2_S q_2_w q_2 => ?_)
          obtain ⟨rfl, rfl, rfl⟩ := q_2
          refine zA_range (fun hr => ?_)
          show zA l mX8_takeChimney false 5 0 0 (fun v' S' w' => (∃ r, v' = some (zI r) ∧ inR r ∧ (okP (pChim b n (w dr 5) un s) → r = pVal b n s)) ∧ S' = (ZZ t dr 1) ∧ only 2 w w' ∧ pC b n w' ∧ rC b n w' (pChim b n (w dr 5) un s)) zNo 50 [zR 2, zR dr, zI un] [] (ZZ t dr 1) (failw w 5)
          exact L50 _ _ failw_o (pC_o hp) (rC_f hR (by decide)) (pChim_5 hR (by omega)).1 (pChim_5 hR (by omega)).2
      · skip
        refine zA_aload_n dX8_takeChimney_29 rfl ?_
        refine zA_iconst dX8_takeChimney_30 ?_
        refine zA_cV (st := []) dX8_takeChimney_31 vX8_fail kX8_81 (s_failR (w := w) (t := t) (dr := dr) (tx := 1) (k := 3) ⟨by decide, by decide⟩) (by decide) c2 rfl rfl (Nat.le_of_ble_eq_true rfl) rfl (fun q_3_v q_3_S q_3_w q_3 => ?_)
        obtain ⟨rfl, rfl, rfl⟩ := q_3
        refine zA_range (fun hr => ?_)
        show zA l mX8_takeChimney false 5 0 0 (fun v' S' w' => (∃ r, v' = some (zI r) ∧ inR r ∧ (okP (pChim b n (w dr 5) un s) → r = pVal b n s)) ∧ S' = (ZZ t dr 1) ∧ only 2 w w' ∧ pC b n w' ∧ rC b n w' (pChim b n (w dr 5) un s)) zNo 34 [zR 2, zR dr, zI un] [] (ZZ t dr 1) (failw w 3)
        refine zA_goto (tgt := 50) dX8_takeChimney_34 (by decide) ?_
        exact L50 _ _ failw_o (pC_o hp) (rC_f hR (by decide)) (pChim_3 hR (by omega)).1 (pChim_3 hR (by omega)).2

