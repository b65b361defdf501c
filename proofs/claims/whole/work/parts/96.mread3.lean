/-! the text of the reference: takes -/
theorem rM_s {b : Int → Int} {n p : Int} {w w' : zW} (h : rM b n w (.inl p)) (k : rM b n w' (.inl (w 73 13))) : rM b n w' (.inl (tkE b n p)) := by
  rw [h.2.2.1.2.2] at k; exact k
theorem pWord_y {b : Int → Int} {n p : Int} {k : Nat} (h : isW b n k p) : pWord b n k (.inl p) = .inl (tkE b n p) := if_pos h
theorem pWord_n {b : Int → Int} {n p : Int} {k : Nat} (h : ¬ isW b n k p) : pWord b n k (.inl p) = .inr (1, tkS b n p) := if_neg h
set_option maxRecDepth 100000 in
set_option maxHeartbeats 4000000 in
theorem m_which {l : Launch} {t dr tx : Nat} {w : zW} {b : Int → Int} {n : Int} {p : Int} (hp : pM b n w) (hR : rM b n w (.inl p)) (hcl : ∀ j : Nat, j < 5 → w 74 (j : Int) = ((1000 + j : Nat) : Int)) : zSp l mX12_which false 6 0 0 [zR 73, zR 74] (ZZ t dr tx) w (zRt (some (zI (wh b n p))) (ZZ t dr tx) w) zNo := by
  refine zA_intro ⟨plainFor_of_name (by decide +kernel), Or.inl (by decide +kernel)⟩ rfl (Nat.le_of_ble_eq_true rfl) ?_
  refine zA_range (fun hr => ?_)
  show zA l mX12_which false 6 0 0 (zRt (some (zI (wh b n p))) (ZZ t dr tx) w) zNo 0 [zR 73, zR 74, .null] [] (ZZ t dr tx) w
  refine zA_iconst dX12_which_0 ?_
  refine zA_istore_n (lo1 := [zR 73, zR 74, zI 0]) dX12_which_1 (by decide) rfl rfl ?_
  have L2 : ∀ (z2 : Nat) (k : Nat) (k5 : k ≤ 5) (hno : ∀ j : Nat, j < k → ¬ isW b n j p) (zm : (5 - k) < z2), zA l mX12_which false 6 0 0 (zRt (some (zI (wh b n p))) (ZZ t dr tx) w) zNo 2 [zR 73, zR 74, zI (k : Int)] [] (ZZ t dr tx) w := by
    intro z2
    induction z2 with
    | zero => intro k k5 hno zm; exact absurd zm (Nat.not_lt_zero _)
    | succ z2 ih2 =>
      intro k k5 hno zm
      refine zA_iload_n dX12_which_2 rfl ?_
      refine zA_aload_n dX12_which_3 rfl ?_
      refine zA_alen (n := 5) dX12_which_4 c74 (by decide) ?_
      refine zA_icmp_ge (tgt := 26) dX12_which_5 (by decide) (by first | assumption | exact hr _ _ | exact inR_mk (by omega) (by omega)) ⟨by decide, by decide⟩ (fun c5 => ?_) (fun c5 => ?_)
      · skip
        refine zA_iconst dX12_which_26 ?_
        refine zA_iret dX12_which_27 rfl ?_
        exact zRt_i (wh_5 (hno 0 (by omega)) (hno 1 (by omega)) (hno 2 (by omega)) (hno 3 (by omega)) (hno 4 (by omega))).symm
      · skip
        refine zA_aload_n dX12_which_8 rfl ?_
        refine zA_aload_n dX12_which_9 rfl ?_
        refine zA_iload_n dX12_which_10 rfl ?_
        refine zA_aaload (q := 1000 + k) dX12_which_11 c74 (by omega) (by show ((k : Int)) < 5; omega) (hcl k (by omega)) (by decide) ?_
        refine zA_cV (st := []) dX12_which_12 vX12_is kX12_242 (m_is (w := w) (k := k) (by omega) hp hR) (by decide) c73 rfl rfl (Nat.le_of_ble_eq_true rfl) rfl (zRp1_el (fun rr hrr => ?_))
        have hrb : 0 ≤ rr ∧ rr ≤ 1 := by rcases hrr with ⟨h, -⟩ | ⟨h, -⟩ <;> omega
        refine zA_if_eq (tgt := 20) dX12_which_15 (by decide) (by first | assumption | exact hr _ _ | exact inR_mk (by omega) (by omega)) (fun c15 => ?_) (fun c15 => ?_)
        · skip
          have hnk : ¬ isW b n k p := fun h => (hrr.resolve_left (fun h => by omega)).2 ⟨p, rfl, h⟩
          refine zA_iinc (lo1 := [zR 73, zR 74, zI ((k : Int) + 1)]) dX12_which_20 rfl (by decide) rfl rfl ?_
          refine zA_goto (tgt := 2) dX12_which_23 (by decide) ?_
          exact ih2 (k + 1) (by omega) (fun j a => by
                by_cases g : j = k
                · rw [g]; exact hnk
                · exact hno j (by omega)) (by omega)
        · skip
          obtain ⟨p1, hp1, hyk⟩ := (hrr.resolve_right (fun h => by omega)).2
          cases hp1
          refine zA_iload_n dX12_which_18 rfl ?_
          refine zA_iret dX12_which_19 rfl ?_
          exact zRt_i (wh_k (by omega) hyk hno).symm
  exact L2 _ 0 (by omega) (fun j a => by omega) (Nat.lt_succ_self _)

set_option maxRecDepth 100000 in
set_option maxHeartbeats 4000000 in
theorem m_word {l : Launch} {t dr tx : Nat} {w : zW} {b : Int → Int} {n : Int} {k : Nat} (hk : k < 11) {s : zP} (hp : pM b n w) (hR : rM b n w s)  : zSp l mX12_word false 6 0 0 [zR 73, zR (1000 + k)] (ZZ t dr tx) w (fun v' S' w' => v' = none ∧ S' = (ZZ t dr tx) ∧ onM w w' ∧ pM b n w' ∧ rM b n w' (pWord b n k s)) zNo := by
  refine zA_intro ⟨plainFor_of_name (by decide +kernel), Or.inl (by decide +kernel)⟩ rfl (Nat.le_of_ble_eq_true rfl) ?_
  refine zA_range (fun hr => ?_)
  show zA l mX12_word false 6 0 0 (fun v' S' w' => v' = none ∧ S' = (ZZ t dr tx) ∧ onM w w' ∧ pM b n w' ∧ rM b n w' (pWord b n k s)) zNo 0 [zR 73, zR (1000 + k)] [] (ZZ t dr tx) w
  have L20 : ∀ (w1 : zW) (s1 : zP) (ho1 : onM w w1) (hp1 : pM b n w1) (hR1 : rM b n w1 s1) (hs1 : pWord b n k s = pNx b n s1), zA l mX12_word false 6 0 0 (fun v' S' w' => v' = none ∧ S' = (ZZ t dr tx) ∧ onM w w' ∧ pM b n w' ∧ rM b n w' (pWord b n k s)) zNo 20 [zR 73, zR (1000 + k)] [] (ZZ t dr tx) w1 := by
    intro w1 s1 ho1 hp1 hR1 hs1
    refine zA_range (fun hr => ?_)
    refine zA_aload_n dX12_word_20 rfl ?_
    refine zA_getI dX12_word_21 fX12_228 c73 rfl ?_
    refine zA_valI (w1 73 19) rfl ?_
    refine zA_if_ne (tgt := 31) dX12_word_24 (by decide) (by first | assumption | exact hr _ _ | exact inR_mk (by omega) (by omega)) (fun c24 => ?_) (fun c24 => ?_)
    · skip
      obtain ⟨e, he⟩ := rM_inr hR1 c24
      refine zA_vret dX12_word_31 rfl ?_
      rw [he] at hR1
      rw [hs1, he]
      exact ⟨rfl, rfl, ho1, hp1, hR1⟩
    · skip
      obtain ⟨q, hq⟩ := rM_inl hR1 c24
      have hRq := hR1
      rw [hq] at hRq
      have hbq := rM_b hRq
      refine zA_aload_n dX12_word_27 rfl ?_
      refine zA_cV (st := []) dX12_word_28 vX12_stepOn kX12_249 (m_stepOn (w := w1) (n := n) (b := b) hp1 c24 (by omega) (by omega)) (by decide) c73 rfl rfl (Nat.le_of_ble_eq_true rfl) rfl (fun q_1_v q_1_S q_1_w q_1 => ?_)
      obtain ⟨rfl, rfl, hoS, hpS, hRS⟩ := q_1
      refine zA_range (fun hr => ?_)
      show zA l mX12_word false 6 0 0 (fun v' S' w' => v' = none ∧ S' = (ZZ t dr tx) ∧ onM w w' ∧ pM b n w' ∧ rM b n w' (pWord b n k s)) zNo 31 [zR 73, zR (1000 + k)] [] (ZZ t dr tx) q_1_w
      refine zA_vret dX12_word_31 rfl ?_
      rw [hs1, hq]
      exact ⟨rfl, rfl, onM_tr ho1 hoS, hpS, rM_s hRq hRS⟩
  refine zA_aload_n dX12_word_0 rfl ?_
  refine zA_getI dX12_word_1 fX12_228 c73 rfl ?_
  refine zA_valI (w 73 19) rfl ?_
  refine zA_if_ne (tgt := 20) dX12_word_4 (by decide) (by first | assumption | exact hr _ _ | exact inR_mk (by omega) (by omega)) (fun c4 => ?_) (fun c4 => ?_)
  · skip
    skip
    exact L20 w s onM_rfl hp hR (by obtain ⟨e, he⟩ := rM_inr hR c4; rw [he]; rfl)
  · skip
    refine zA_aload_n dX12_word_7 rfl ?_
    refine zA_aload_n dX12_word_8 rfl ?_
    refine zA_cV (st := []) dX12_word_9 vX12_is kX12_242 (m_is (w := w) hk hp hR) (by decide) c73 rfl rfl (Nat.le_of_ble_eq_true rfl) rfl (zRp1_el (fun rr hrr => ?_))
    have hrb : 0 ≤ rr ∧ rr ≤ 1 := by rcases hrr with ⟨h, -⟩ | ⟨h, -⟩ <;> omega
    obtain ⟨p, hps⟩ := rM_inl hR c4
    refine zA_if_ne (tgt := 20) dX12_word_12 (by decide) (by first | assumption | exact hr _ _ | exact inR_mk (by omega) (by omega)) (fun c12 => ?_) (fun c12 => ?_)
    · skip
      have hyk : isW b n k p := by
        obtain ⟨p1, h1, h2⟩ := (hrr.resolve_right (fun h => by omega)).2
        rw [hps] at h1; cases h1; exact h2
      exact L20 w s onM_rfl hp hR (by rw [hps, pWord_y hyk]; rfl)
    · skip
      have hnk : ¬ isW b n k p := fun h => (hrr.resolve_left (fun h => by omega)).2 ⟨p, hps, h⟩
      refine zA_aload_n dX12_word_15 rfl ?_
      refine zA_iconst dX12_word_16 ?_
      refine zA_cV (st := []) dX12_word_17 vX12_wrong kX12_246 (m_wrong (w := w) (k := 1) ⟨by decide, by decide⟩) (by decide) c73 rfl rfl (Nat.le_of_ble_eq_true rfl) rfl (fun q_2_v q_2_S q_2_w q_2 => ?_)
      obtain ⟨rfl, rfl, rfl⟩ := q_2
      refine zA_range (fun hr => ?_)
      show zA l mX12_word false 6 0 0 (fun v' S' w' => v' = none ∧ S' = (ZZ t dr tx) ∧ onM w w' ∧ pM b n w' ∧ rM b n w' (pWord b n k s)) zNo 20 [zR 73, zR (1000 + k)] [] (ZZ t dr tx) (wrongw w 1)
      exact L20 _ _ wrongw_o (pM_o hp wrongw_o) (rM_f hR (by decide)) (by rw [hps, pWord_n hnk]; rfl)

set_option maxRecDepth 100000 in
set_option maxHeartbeats 4000000 in
theorem m_readNumber {l : Launch} {t dr tx : Nat} {w : zW} {b : Int → Int} {n : Int} {lo hi : Int} (l0 : 0 ≤ lo) (h9 : hi ≤ 9999) (l1 : inR lo) (h1 : inR hi) {s : zP} (hp : pM b n w) (hR : rM b n w s)  : zSp l mX12_readNumber false 4 0 0 [zR 73, zI lo, zI hi] (ZZ t dr tx) w (fun v' S' w' => (∃ r, v' = some (zI r) ∧ inR r ∧ (okP (pNum b n lo hi s) → r = pVal b n s)) ∧ S' = (ZZ t dr tx) ∧ onM w w' ∧ pM b n w' ∧ rM b n w' (pNum b n lo hi s)) zNo := by
  refine zA_intro ⟨plainFor_of_name (by decide +kernel), Or.inl (by decide +kernel)⟩ rfl (Nat.le_of_ble_eq_true rfl) ?_
  refine zA_range (fun hr => ?_)
  show zA l mX12_readNumber false 4 0 0 (fun v' S' w' => (∃ r, v' = some (zI r) ∧ inR r ∧ (okP (pNum b n lo hi s) → r = pVal b n s)) ∧ S' = (ZZ t dr tx) ∧ onM w w' ∧ pM b n w' ∧ rM b n w' (pNum b n lo hi s)) zNo 0 [zR 73, zI lo, zI hi, .null] [] (ZZ t dr tx) w
  refine zA_aload_n dX12_readNumber_0 rfl ?_
  refine zA_getI dX12_readNumber_1 fX12_228 c73 rfl ?_
  refine zA_valI (w 73 19) rfl ?_
  refine zA_if_eq (tgt := 9) dX12_readNumber_4 (by decide) (by first | assumption | exact hr _ _ | exact inR_mk (by omega) (by omega)) (fun c4 => ?_) (fun c4 => ?_)
  · skip
    obtain ⟨⟨n0, n6⟩, hn, hb⟩ := id hp
    obtain ⟨p, hps⟩ := rM_inl hR c4
    have hRp := hR
    rw [hps] at hRp
    obtain ⟨⟨p0, p1⟩, f19, ⟨f17, f18, f13⟩, f15, f16⟩ := id hRp
    have L59 : ∀ (w1 : zW) (s1 : zP) (ho1 : onM w w1) (hp1 : pM b n w1) (hR1 : rM b n w1 s1) (hs1 : pNum b n lo hi (.inl p) = pNx b n s1) (hs2 : okP s1 → s1 = .inl p ∧ w1 73 16 = tkV b n p), zA l mX12_readNumber false 4 0 0 (fun v' S' w' => (∃ r, v' = some (zI r) ∧ inR r ∧ (okP (pNum b n lo hi s) → r = pVal b n s)) ∧ S' = (ZZ t dr tx) ∧ onM w w' ∧ pM b n w' ∧ rM b n w' (pNum b n lo hi s)) zNo 59 [zR 73, zI lo, zI hi, .null] [] (ZZ t dr tx) w1 := by
      intro w1 s1 ho1 hp1 hR1 hs1 hs2
      refine zA_range (fun hr => ?_)
      refine zA_aload_n dX12_readNumber_59 rfl ?_
      refine zA_getI dX12_readNumber_60 fX12_215 c73 rfl ?_
      refine zA_valI (w1 73 16) rfl ?_
      refine zA_istore_n (lo1 := [zR 73, zI lo, zI hi, zI (w1 73 16)]) dX12_readNumber_63 (by decide) rfl rfl ?_
      refine zA_aload_n dX12_readNumber_64 rfl ?_
      refine zA_getI dX12_readNumber_65 fX12_228 c73 rfl ?_
      refine zA_valI (w1 73 19) rfl ?_
      refine zA_if_ne (tgt := 75) dX12_readNumber_68 (by decide) (by first | assumption | exact hr _ _ | exact inR_mk (by omega) (by omega)) (fun c68 => ?_) (fun c68 => ?_)
      · skip
        have hrn := hr 73 16
        obtain ⟨e, he⟩ := rM_inr hR1 c68
        refine zA_iload_n dX12_readNumber_75 rfl ?_
        refine zA_iret dX12_readNumber_76 rfl ?_
        rw [he] at hR1 hs1
        rw [hps, hs1]
        exact ⟨⟨_, rfl, hrn, fun h => (show False from h).elim⟩, rfl, ho1, hp1, hR1⟩
      · skip
        have hrn := hr 73 16
        obtain ⟨q, hq⟩ := rM_inl hR1 c68
        have hRq := hR1
        rw [hq] at hRq
        have hbq := rM_b hRq
        obtain ⟨hqp, hqv⟩ := hs2 (by rw [hq]; trivial)
        refine zA_aload_n dX12_readNumber_71 rfl ?_
        refine zA_cV (st := []) dX12_readNumber_72 vX12_stepOn kX12_249 (m_stepOn (w := w1) (n := n) (b := b) hp1 c68 (by omega) (by omega)) (by decide) c73 rfl rfl (Nat.le_of_ble_eq_true rfl) rfl (fun q_1_v q_1_S q_1_w q_1 => ?_)
        obtain ⟨rfl, rfl, hoS, hpS, hRS⟩ := q_1
        refine zA_range (fun hr => ?_)
        show zA l mX12_readNumber false 4 0 0 (fun v' S' w' => (∃ r, v' = some (zI r) ∧ inR r ∧ (okP (pNum b n lo hi s) → r = pVal b n s)) ∧ S' = (ZZ t dr tx) ∧ onM w w' ∧ pM b n w' ∧ rM b n w' (pNum b n lo hi s)) zNo 75 [zR 73, zI lo, zI hi, zI (w1 73 16)] [] (ZZ t dr tx) q_1_w
        refine zA_iload_n dX12_readNumber_75 rfl ?_
        refine zA_iret dX12_readNumber_76 rfl ?_
        have hps2 : (.inl q : zP) = .inl p := hq.symm.trans hqp
        cases hps2
        rw [hq] at hs1
        rw [hps, hs1]
        exact ⟨⟨_, rfl, hrn, fun _ => hqv⟩, rfl, onM_tr ho1 hoS, hpS, rM_s hRq hRS⟩
    refine zA_aload_n dX12_readNumber_9 rfl ?_
    refine zA_getI dX12_readNumber_10 fX12_205 c73 rfl ?_
    refine zA_valI (w 73 15) rfl ?_
    refine zA_iconst dX12_readNumber_13 ?_
    refine zA_icmp_eq (tgt := 25) dX12_readNumber_14 (by decide) (by first | assumption | exact hr _ _ | exact inR_mk (by omega) (by omega)) ⟨by decide, by decide⟩ (fun c14 => ?_) (fun c14 => ?_)
    · skip
      have k2 : tkK b n p = 2 := f15.symm.trans c14
      have hbp := rM_b hRp
      have hpn : ∀ x : zP, (4 < tkE b n p - tkS b n p ∨ tkV b n p < lo ∨ hi < tkV b n p → x = .inr (2, tkS b n p)) → (¬ (4 < tkE b n p - tkS b n p ∨ tkV b n p < lo ∨ hi < tkV b n p) → x = .inl (tkE b n p)) → pNum b n lo hi (.inl p) = x := fun x g1 g2 => by
        show (if tkK b n p ≠ 2 then _ else if 4 < tkE b n p - tkS b n p ∨ tkV b n p < lo ∨ hi < tkV b n p then _ else _) = x
        rw [if_neg (fun q => q k2)]
        by_cases g : 4 < tkE b n p - tkS b n p ∨ tkV b n p < lo ∨ hi < tkV b n p
        · rw [if_pos g, g1 g]
        · rw [if_neg g, g2 g]
      refine zA_aload_n dX12_readNumber_25 rfl ?_
      refine zA_getI dX12_readNumber_26 fX12_225 c73 rfl ?_
      refine zA_valI (w 73 18) rfl ?_
      refine zA_aload_n dX12_readNumber_29 rfl ?_
      refine zA_getI dX12_readNumber_30 fX12_202 c73 rfl ?_
      refine zA_valI (w 73 17) rfl ?_
      refine zA_isub dX12_readNumber_33 ?_
      refine zA_iconst dX12_readNumber_34 ?_
      refine zA_icmp_gt (tgt := 54) dX12_readNumber_35 (by decide) (by first | assumption | exact hr _ _ | exact inR_mk (by omega) (by omega)) ⟨by decide, by decide⟩ (fun c35 => ?_) (fun c35 => ?_)
      · skip
        refine zA_aload_n dX12_readNumber_54 rfl ?_
        refine zA_iconst dX12_readNumber_55 ?_
        refine zA_cV (st := []) dX12_readNumber_56 vX12_wrong kX12_246 (m_wrong (w := w) (k := 2) ⟨by decide, by decide⟩) (by decide) c73 rfl rfl (Nat.le_of_ble_eq_true rfl) rfl (fun q_2_v q_2_S q_2_w q_2 => ?_)
        obtain ⟨rfl, rfl, rfl⟩ := q_2
        refine zA_range (fun hr => ?_)
        show zA l mX12_readNumber false 4 0 0 (fun v' S' w' => (∃ r, v' = some (zI r) ∧ inR r ∧ (okP (pNum b n lo hi s) → r = pVal b n s)) ∧ S' = (ZZ t dr tx) ∧ onM w w' ∧ pM b n w' ∧ rM b n w' (pNum b n lo hi s)) zNo 59 [zR 73, zI lo, zI hi, .null] [] (ZZ t dr tx) (wrongw w 2)
        exact L59 _ (.inr (2, tkS b n p)) wrongw_o (pM_o hp wrongw_o) (by have := rM_f (k := 2) hRp (by decide); exact this) (by rw [hpn _ (fun _ => rfl) (fun g => by exfalso; omega)]; rfl) (fun h => (show False from h).elim)
      · skip
        have f16b := f16 k2 (by omega)
        refine zA_aload_n dX12_readNumber_38 rfl ?_
        refine zA_getI dX12_readNumber_39 fX12_215 c73 rfl ?_
        refine zA_valI (w 73 16) rfl ?_
        refine zA_iload_n dX12_readNumber_42 rfl ?_
        refine zA_icmp_lt (tgt := 54) dX12_readNumber_43 (by decide) (by first | assumption | exact hr _ _ | exact inR_mk (by omega) (by omega)) (by first | assumption | exact hr _ _ | exact inR_mk (by omega) (by omega)) (fun c43 => ?_) (fun c43 => ?_)
        · skip
          refine zA_aload_n dX12_readNumber_54 rfl ?_
          refine zA_iconst dX12_readNumber_55 ?_
          refine zA_cV (st := []) dX12_readNumber_56 vX12_wrong kX12_246 (m_wrong (w := w) (k := 2) ⟨by decide, by decide⟩) (by decide) c73 rfl rfl (Nat.le_of_ble_eq_true rfl) rfl (fun q_3_v q_3_S q_3_w q_3 => ?_)
          obtain ⟨rfl, rfl, rfl⟩ := q_3
          refine zA_range (fun hr => ?_)
          show zA l mX12_readNumber false 4 0 0 (fun v' S' w' => (∃ r, v' = some (zI r) ∧ inR r ∧ (okP (pNum b n lo hi s) → r = pVal b n s)) ∧ S' = (ZZ t dr tx) ∧ onM w w' ∧ pM b n w' ∧ rM b n w' (pNum b n lo hi s)) zNo 59 [zR 73, zI lo, zI hi, .null] [] (ZZ t dr tx) (wrongw w 2)
          exact L59 _ (.inr (2, tkS b n p)) wrongw_o (pM_o hp wrongw_o) (by have := rM_f (k := 2) hRp (by decide); exact this) (by rw [hpn _ (fun _ => rfl) (fun g => by exfalso; omega)]; rfl) (fun h => (show False from h).elim)
        · skip
          refine zA_aload_n dX12_readNumber_46 rfl ?_
          refine zA_getI dX12_readNumber_47 fX12_215 c73 rfl ?_
          refine zA_valI (w 73 16) rfl ?_
          refine zA_iload_n dX12_readNumber_50 rfl ?_
          refine zA_icmp_le (tgt := 59) dX12_readNumber_51 (by decide) (by first | assumption | exact hr _ _ | exact inR_mk (by omega) (by omega)) (by first | assumption | exact hr _ _ | exact inR_mk (by omega) (by omega)) (fun c51 => ?_) (fun c51 => ?_)
          · skip
            exact L59 w (.inl p) onM_rfl hp hRp (hpn _ (fun g => by exfalso; omega) (fun _ => rfl)) (fun _ => ⟨rfl, f16 k2 (by omega)⟩)
          · skip
            refine zA_aload_n dX12_readNumber_54 rfl ?_
            refine zA_iconst dX12_readNumber_55 ?_
            refine zA_cV (st := []) dX12_readNumber_56 vX12_wrong kX12_246 (m_wrong (w := w) (k := 2) ⟨by decide, by decide⟩) (by decide) c73 rfl rfl (Nat.le_of_ble_eq_true rfl) rfl (fun q_4_v q_4_S q_4_w q_4 => ?_)
            obtain ⟨rfl, rfl, rfl⟩ := q_4
            refine zA_range (fun hr => ?_)
            show zA l mX12_readNumber false 4 0 0 (fun v' S' w' => (∃ r, v' = some (zI r) ∧ inR r ∧ (okP (pNum b n lo hi s) → r = pVal b n s)) ∧ S' = (ZZ t dr tx) ∧ onM w w' ∧ pM b n w' ∧ rM b n w' (pNum b n lo hi s)) zNo 59 [zR 73, zI lo, zI hi, .null] [] (ZZ t dr tx) (wrongw w 2)
            exact L59 _ (.inr (2, tkS b n p)) wrongw_o (pM_o hp wrongw_o) (by have := rM_f (k := 2) hRp (by decide); exact this) (by rw [hpn _ (fun _ => rfl) (fun g => by exfalso; omega)]; rfl) (fun h => (show False from h).elim)
    · skip
      refine zA_aload_n dX12_readNumber_17 rfl ?_
      refine zA_iconst dX12_readNumber_18 ?_
      refine zA_cV (st := []) dX12_readNumber_19 vX12_wrong kX12_246 (m_wrong (w := w) (k := 1) ⟨by decide, by decide⟩) (by decide) c73 rfl rfl (Nat.le_of_ble_eq_true rfl) rfl (fun q_5_v q_5_S q_5_w q_5 => ?_)
      obtain ⟨rfl, rfl, rfl⟩ := q_5
      refine zA_range (fun hr => ?_)
      show zA l mX12_readNumber false 4 0 0 (fun v' S' w' => (∃ r, v' = some (zI r) ∧ inR r ∧ (okP (pNum b n lo hi s) → r = pVal b n s)) ∧ S' = (ZZ t dr tx) ∧ onM w w' ∧ pM b n w' ∧ rM b n w' (pNum b n lo hi s)) zNo 22 [zR 73, zI lo, zI hi, .null] [] (ZZ t dr tx) (wrongw w 1)
      refine zA_goto (tgt := 59) dX12_readNumber_22 (by decide) ?_
      exact L59 _ (.inr (1, tkS b n p)) wrongw_o (pM_o hp wrongw_o) (by have := rM_f (k := 1) hRp (by decide); exact this) (by rw [show pNum b n lo hi (.inl p) = .inr (1, tkS b n p) from if_pos (fun h => c14 (f15.trans h))]; rfl) (fun h => (show False from h).elim)
  · skip
    refine zA_iconst dX12_readNumber_7 ?_
    refine zA_iret dX12_readNumber_8 rfl ?_
    obtain ⟨e, rfl⟩ := rM_inr hR c4
    exact ⟨⟨0, rfl, ⟨by decide, by decide⟩, fun h => (show False from h).elim⟩, rfl, onM_rfl, hp, hR⟩

set_option maxRecDepth 100000 in
set_option maxHeartbeats 4000000 in
theorem m_readChimney {l : Launch} {t dr tx : Nat} {w : zW} {b : Int → Int} {n : Int} {un : Int} (hur : inR un) {s : zP} (hp : pM b n w) (hR : rM b n w s)  : zSp l mX12_readChimney false 4 0 0 [zR 73, zI un] (ZZ t dr tx) w (fun v' S' w' => (∃ r, v' = some (zI r) ∧ inR r ∧ (okP (pChim b n (w 75 1) un s) → r = pVal b n s)) ∧ S' = (ZZ t dr tx) ∧ onM w w' ∧ pM b n w' ∧ rM b n w' (pChim b n (w 75 1) un s)) zNo := by
  refine zA_intro ⟨plainFor_of_name (by decide +kernel), Or.inl (by decide +kernel)⟩ rfl (Nat.le_of_ble_eq_true rfl) ?_
  refine zA_range (fun hr => ?_)
  show zA l mX12_readChimney false 4 0 0 (fun v' S' w' => (∃ r, v' = some (zI r) ∧ inR r ∧ (okP (pChim b n (w 75 1) un s) → r = pVal b n s)) ∧ S' = (ZZ t dr tx) ∧ onM w w' ∧ pM b n w' ∧ rM b n w' (pChim b n (w 75 1) un s)) zNo 0 [zR 73, zI un, .null] [] (ZZ t dr tx) w
  refine zA_aload_n dX12_readChimney_0 rfl ?_
  refine zA_getI dX12_readChimney_1 fX12_228 c73 rfl ?_
  refine zA_valI (w 73 19) rfl ?_
  refine zA_if_eq (tgt := 9) dX12_readChimney_4 (by decide) (by first | assumption | exact hr _ _ | exact inR_mk (by omega) (by omega)) (fun c4 => ?_) (fun c4 => ?_)
  · skip
    obtain ⟨⟨n0, n6⟩, hn, hb⟩ := id hp
    obtain ⟨p, hps⟩ := rM_inl hR c4
    have hRp := hR
    rw [hps] at hRp
    obtain ⟨⟨p0, p1⟩, f19, ⟨f17, f18, f13⟩, f15, f16⟩ := id hRp
    have L80 : ∀ (w1 : zW) (s1 : zP) (ho1 : onM w w1) (hp1 : pM b n w1) (hR1 : rM b n w1 s1) (hs1 : pChim b n (w 75 1) un (.inl p) = pNx b n s1) (hs2 : okP s1 → s1 = .inl p ∧ w1 73 16 = tkV b n p), zA l mX12_readChimney false 4 0 0 (fun v' S' w' => (∃ r, v' = some (zI r) ∧ inR r ∧ (okP (pChim b n (w 75 1) un s) → r = pVal b n s)) ∧ S' = (ZZ t dr tx) ∧ onM w w' ∧ pM b n w' ∧ rM b n w' (pChim b n (w 75 1) un s)) zNo 80 [zR 73, zI un, .null] [] (ZZ t dr tx) w1 := by
      intro w1 s1 ho1 hp1 hR1 hs1 hs2
      refine zA_range (fun hr => ?_)
      refine zA_aload_n dX12_readChimney_80 rfl ?_
      refine zA_getI dX12_readChimney_81 fX12_215 c73 rfl ?_
      refine zA_valI (w1 73 16) rfl ?_
      refine zA_istore_n (lo1 := [zR 73, zI un, zI (w1 73 16)]) dX12_readChimney_84 (by decide) rfl rfl ?_
      refine zA_aload_n dX12_readChimney_85 rfl ?_
      refine zA_getI dX12_readChimney_86 fX12_228 c73 rfl ?_
      refine zA_valI (w1 73 19) rfl ?_
      refine zA_if_ne (tgt := 96) dX12_readChimney_89 (by decide) (by first | assumption | exact hr _ _ | exact inR_mk (by omega) (by omega)) (fun c89 => ?_) (fun c89 => ?_)
      · skip
        have hrn := hr 73 16
        obtain ⟨e, he⟩ := rM_inr hR1 c89
        refine zA_iload_n dX12_readChimney_96 rfl ?_
        refine zA_iret dX12_readChimney_97 rfl ?_
        rw [he] at hR1 hs1
        rw [hps, hs1]
        exact ⟨⟨_, rfl, hrn, fun h => (show False from h).elim⟩, rfl, ho1, hp1, hR1⟩
      · skip
        have hrn := hr 73 16
        obtain ⟨q, hq⟩ := rM_inl hR1 c89
        have hRq := hR1
        rw [hq] at hRq
        have hbq := rM_b hRq
        obtain ⟨hqp, hqv⟩ := hs2 (by rw [hq]; trivial)
        refine zA_aload_n dX12_readChimney_92 rfl ?_
        refine zA_cV (st := []) dX12_readChimney_93 vX12_stepOn kX12_249 (m_stepOn (w := w1) (n := n) (b := b) hp1 c89 (by omega) (by omega)) (by decide) c73 rfl rfl (Nat.le_of_ble_eq_true rfl) rfl (fun q_1_v q_1_S q_1_w q_1 => ?_)
        obtain ⟨rfl, rfl, hoS, hpS, hRS⟩ := q_1
        refine zA_range (fun hr => ?_)
        show zA l mX12_readChimney false 4 0 0 (fun v' S' w' => (∃ r, v' = some (zI r) ∧ inR r ∧ (okP (pChim b n (w 75 1) un s) → r = pVal b n s)) ∧ S' = (ZZ t dr tx) ∧ onM w w' ∧ pM b n w' ∧ rM b n w' (pChim b n (w 75 1) un s)) zNo 96 [zR 73, zI un, zI (w1 73 16)] [] (ZZ t dr tx) q_1_w
        refine zA_iload_n dX12_readChimney_96 rfl ?_
        refine zA_iret dX12_readChimney_97 rfl ?_
        have hps2 : (.inl q : zP) = .inl p := hq.symm.trans hqp
        cases hps2
        rw [hq] at hs1
        rw [hps, hs1]
        exact ⟨⟨_, rfl, hrn, fun _ => hqv⟩, rfl, onM_tr ho1 hoS, hpS, rM_s hRq hRS⟩
    refine zA_aload_n dX12_readChimney_9 rfl ?_
    refine zA_getI dX12_readChimney_10 fX12_205 c73 rfl ?_
    refine zA_valI (w 73 15) rfl ?_
    refine zA_iconst dX12_readChimney_13 ?_
    refine zA_icmp_eq (tgt := 25) dX12_readChimney_14 (by decide) (by first | assumption | exact hr _ _ | exact inR_mk (by omega) (by omega)) ⟨by decide, by decide⟩ (fun c14 => ?_) (fun c14 => ?_)
    · skip
      have k2 : tkK b n p = 2 := f15.symm.trans c14
      have hbp := rM_b hRp
      refine zA_aload_n dX12_readChimney_25 rfl ?_
      refine zA_getI dX12_readChimney_26 fX12_225 c73 rfl ?_
      refine zA_valI (w 73 18) rfl ?_
      refine zA_aload_n dX12_readChimney_29 rfl ?_
      refine zA_getI dX12_readChimney_30 fX12_202 c73 rfl ?_
      refine zA_valI (w 73 17) rfl ?_
      refine zA_isub dX12_readChimney_33 ?_
      refine zA_iconst dX12_readChimney_34 ?_
      refine zA_icmp_le (tgt := 46) dX12_readChimney_35 (by decide) (by first | assumption | exact hr _ _ | exact inR_mk (by omega) (by omega)) ⟨by decide, by decide⟩ (fun c35 => ?_) (fun c35 => ?_)
      · skip
        have f16b := f16 k2 (by omega)
        refine zA_aload_n dX12_readChimney_46 rfl ?_
        refine zA_getI dX12_readChimney_47 fX12_215 c73 rfl ?_
        refine zA_valI (w 73 16) rfl ?_
        refine zA_aload_n dX12_readChimney_50 rfl ?_
        refine zA_getR (n := 75) dX12_readChimney_51 fX12_25 c73 rfl ?_
        refine zA_iconst dX12_readChimney_54 ?_
        refine zA_iaload dX12_readChimney_55 c75 (by first | assumption | omega) (by first | assumption | omega) (by decide) ?_
        refine zA_icmp_lt (tgt := 67) dX12_readChimney_56 (by decide) (by first | assumption | exact hr _ _ | exact inR_mk (by omega) (by omega)) (by first | assumption | exact hr _ _ | exact inR_mk (by omega) (by omega)) (fun c56 => ?_) (fun c56 => ?_)
        · skip
          refine zA_aload_n dX12_readChimney_67 rfl ?_
          refine zA_getI dX12_readChimney_68 fX12_215 c73 rfl ?_
          refine zA_valI (w 73 16) rfl ?_
          refine zA_iload_n dX12_readChimney_71 rfl ?_
          refine zA_icmp_ne (tgt := 80) dX12_readChimney_72 (by decide) (by first | assumption | exact hr _ _ | exact inR_mk (by omega) (by omega)) (by first | assumption | exact hr _ _ | exact inR_mk (by omega) (by omega)) (fun c72 => ?_) (fun c72 => ?_)
          · skip
            exact L80 w (.inl p) onM_rfl hp hRp (by
               show (if tkK b n p ≠ 2 then (.inr (1, tkS b n p) : zP) else if 4 < tkE b n p - tkS b n p then .inr (2, tkS b n p) else if w 75 1 ≤ tkV b n p then .inr (3, tkS b n p) else if tkV b n p = un then .inr (5, tkS b n p) else .inl (tkE b n p)) = _
               rw [if_neg (fun h => h k2), if_neg (by omega), if_neg (by omega), if_neg (by omega)]; rfl) (fun _ => ⟨rfl, f16b⟩)
          · skip
            refine zA_aload_n dX12_readChimney_75 rfl ?_
            refine zA_iconst dX12_readChimney_76 ?_
            refine zA_cV (st := []) dX12_readChimney_77 vX12_wrong kX12_246 (m_wrong (w := w) (k := 5) ⟨by decide, by decide⟩) (by decide) c73 rfl rfl (Nat.le_of_ble_eq_true rfl) rfl (fun q_2_v q_2_S q_2_w q_2 => ?_)
            obtain ⟨rfl, rfl, rfl⟩ := q_2
            refine zA_range (fun hr => ?_)
            show zA l mX12_readChimney false 4 0 0 (fun v' S' w' => (∃ r, v' = some (zI r) ∧ inR r ∧ (okP (pChim b n (w 75 1) un s) → r = pVal b n s)) ∧ S' = (ZZ t dr tx) ∧ onM w w' ∧ pM b n w' ∧ rM b n w' (pChim b n (w 75 1) un s)) zNo 80 [zR 73, zI un, .null] [] (ZZ t dr tx) (wrongw w 5)
            exact L80 _ (.inr (5, tkS b n p)) wrongw_o (pM_o hp wrongw_o) (by have := rM_f (k := 5) hRp (by decide); exact this) (by
               show (if tkK b n p ≠ 2 then (.inr (1, tkS b n p) : zP) else if 4 < tkE b n p - tkS b n p then .inr (2, tkS b n p) else if w 75 1 ≤ tkV b n p then .inr (3, tkS b n p) else if tkV b n p = un then .inr (5, tkS b n p) else .inl (tkE b n p)) = _
               rw [if_neg (fun h => h k2), if_neg (by omega), if_neg (by omega), if_pos (by omega)]; rfl) (fun h => (show False from h).elim)
        · skip
          refine zA_aload_n dX12_readChimney_59 rfl ?_
          refine zA_iconst dX12_readChimney_60 ?_
          refine zA_cV (st := []) dX12_readChimney_61 vX12_wrong kX12_246 (m_wrong (w := w) (k := 3) ⟨by decide, by decide⟩) (by decide) c73 rfl rfl (Nat.le_of_ble_eq_true rfl) rfl (fun q_3_v q_3_S q_3_w q_3 => ?_)
          obtain ⟨rfl, rfl, rfl⟩ := q_3
          refine zA_range (fun hr => ?_)
          show zA l mX12_readChimney false 4 0 0 (fun v' S' w' => (∃ r, v' = some (zI r) ∧ inR r ∧ (okP (pChim b n (w 75 1) un s) → r = pVal b n s)) ∧ S' = (ZZ t dr tx) ∧ onM w w' ∧ pM b n w' ∧ rM b n w' (pChim b n (w 75 1) un s)) zNo 64 [zR 73, zI un, .null] [] (ZZ t dr tx) (wrongw w 3)
          refine zA_goto (tgt := 80) dX12_readChimney_64 (by decide) ?_
          exact L80 _ (.inr (3, tkS b n p)) wrongw_o (pM_o hp wrongw_o) (by have := rM_f (k := 3) hRp (by decide); exact this) (by
             show (if tkK b n p ≠ 2 then (.inr (1, tkS b n p) : zP) else if 4 < tkE b n p - tkS b n p then .inr (2, tkS b n p) else if w 75 1 ≤ tkV b n p then .inr (3, tkS b n p) else if tkV b n p = un then .inr (5, tkS b n p) else .inl (tkE b n p)) = _
             rw [if_neg (fun h => h k2), if_neg (by omega), if_pos (by omega)]; rfl) (fun h => (show False from h).elim)
      · skip
        refine zA_aload_n dX12_readChimney_38 rfl ?_
        refine zA_iconst dX12_readChimney_39 ?_
        refine zA_cV (st := []) dX12_readChimney_40 vX12_wrong kX12_246 (m_wrong (w := w) (k := 2) ⟨by decide, by decide⟩) (by decide) c73 rfl rfl (Nat.le_of_ble_eq_true rfl) rfl (fun q_4_v q_4_S q_4_w q_4 => ?_)
        obtain ⟨rfl, rfl, rfl⟩ := q_4
        refine zA_range (fun hr => ?_)
        show zA l mX12_readChimney false 4 0 0 (fun v' S' w' => (∃ r, v' = some (zI r) ∧ inR r ∧ (okP (pChim b n (w 75 1) un s) → r = pVal b n s)) ∧ S' = (ZZ t dr tx) ∧ onM w w' ∧ pM b n w' ∧ rM b n w' (pChim b n (w 75 1) un s)) zNo 43 [zR 73, zI un, .null] [] (ZZ t dr tx) (wrongw w 2)
        refine zA_goto (tgt := 80) dX12_readChimney_43 (by decide) ?_
        exact L80 _ (.inr (2, tkS b n p)) wrongw_o (pM_o hp wrongw_o) (by have := rM_f (k := 2) hRp (by decide); exact this) (by
           show (if tkK b n p ≠ 2 then (.inr (1, tkS b n p) : zP) else if 4 < tkE b n p - tkS b n p then .inr (2, tkS b n p) else if w 75 1 ≤ tkV b n p then .inr (3, tkS b n p) else if tkV b n p = un then .inr (5, tkS b n p) else .inl (tkE b n p)) = _
           rw [if_neg (fun h => h k2), if_pos (by omega)]; rfl) (fun h => (show False from h).elim)
    · skip
      refine zA_aload_n dX12_readChimney_17 rfl ?_
      refine zA_iconst dX12_readChimney_18 ?_
      refine zA_cV (st := []) dX12_readChimney_19 vX12_wrong kX12_246 (m_wrong (w := w) (k := 1) ⟨by decide, by decide⟩) (by decide) c73 rfl rfl (Nat.le_of_ble_eq_true rfl) rfl (fun q_5_v q_5_S q_5_w q_5 => ?_)
      obtain ⟨rfl, rfl, rfl⟩ := q_5
      refine zA_range (fun hr => ?_)
      show zA l mX12_readChimney false 4 0 0 (fun v' S' w' => (∃ r, v' = some (zI r) ∧ inR r ∧ (okP (pChim b n (w 75 1) un s) → r = pVal b n s)) ∧ S' = (ZZ t dr tx) ∧ onM w w' ∧ pM b n w' ∧ rM b n w' (pChim b n (w 75 1) un s)) zNo 22 [zR 73, zI un, .null] [] (ZZ t dr tx) (wrongw w 1)
      refine zA_goto (tgt := 80) dX12_readChimney_22 (by decide) ?_
      exact L80 _ (.inr (1, tkS b n p)) wrongw_o (pM_o hp wrongw_o) (by have := rM_f (k := 1) hRp (by decide); exact this) (by
         show (if tkK b n p ≠ 2 then (.inr (1, tkS b n p) : zP) else if 4 < tkE b n p - tkS b n p then .inr (2, tkS b n p) else if w 75 1 ≤ tkV b n p then .inr (3, tkS b n p) else if tkV b n p = un then .inr (5, tkS b n p) else .inl (tkE b n p)) = _
         rw [if_pos (fun h => c14 (f15.trans h))]; rfl) (fun h => (show False from h).elim)
  · skip
    refine zA_iconst dX12_readChimney_7 ?_
    refine zA_iret dX12_readChimney_8 rfl ?_
    obtain ⟨e, rfl⟩ := rM_inr hR c4
    exact ⟨⟨0, rfl, ⟨by decide, by decide⟩, fun h => (show False from h).elim⟩, rfl, onM_rfl, hp, hR⟩

