/-! the tape -/
def byt (a b c d e j : Int) : Int := iAnd (iShr (if j < 4 then a else if j < 8 then b else if j < 12 then c else if j < 16 then d else e) (24 - 8 * (j % 4))) 255
theorem iAnd_255 {z : Int} : iAnd z 255 = z % 256 := by
  have h := iAnd_m (z := z) 8 (by decide)
  rw [show (2 : Int) ^ 8 - 1 = 255 by decide, show (2 : Int) ^ 8 = 256 by decide] at h
  exact h
theorem iAnd_255b {z : Int} : inR (iAnd z 255) := by rw [iAnd_255]; exact inR_mk (by omega) (by omega)
theorem byt_b {a b c d e j : Int} : 0 ≤ byt a b c d e j ∧ byt a b c d e j ≤ 255 := by unfold byt; rw [iAnd_255]; omega
set_option maxRecDepth 100000 in
set_option maxHeartbeats 4000000 in
theorem s_putBytes {l : Launch} {t dr tx : Nat} {w : zW} {n : Int} (hn : inR n) (t0 : 0 ≤ w 0 1) (t1 : w 0 1 ≤ 596) : zSp l mX11_putBytes false 1 0 0 [zR 0, zI n] (ZZ t dr tx) w (fun v' S' w' => v' = none ∧ S' = (ZZ t dr tx) ∧ (∀ c i, (c ≠ 0 ∨ i ≠ 1) → c ≠ 1 → w' c i = w c i) ∧ w' 0 1 = w 0 1 + 4 ∧ (∀ x : Int, x < w 0 1 → w' 1 x = w 1 x) ∧ ∀ j : Int, 0 ≤ j → j < 4 → w' 1 (w 0 1 + j) = iAnd (iShr n (24 - 8 * j)) 255) zNo := by
  refine zA_intro ⟨plainFor_of_name (by decide +kernel), Or.inl (by decide +kernel)⟩ rfl (Nat.le_of_ble_eq_true rfl) ?_
  refine zA_range (fun hr => ?_)
  show zA l mX11_putBytes false 1 0 0 (fun v' S' w' => v' = none ∧ S' = (ZZ t dr tx) ∧ (∀ c i, (c ≠ 0 ∨ i ≠ 1) → c ≠ 1 → w' c i = w c i) ∧ w' 0 1 = w 0 1 + 4 ∧ (∀ x : Int, x < w 0 1 → w' 1 x = w 1 x) ∧ ∀ j : Int, 0 ≤ j → j < 4 → w' 1 (w 0 1 + j) = iAnd (iShr n (24 - 8 * j)) 255) zNo 0 [zR 0, zI n, .null] [] (ZZ t dr tx) w
  refine zA_bipush dX11_putBytes_0 rfl ?_
  refine zA_istore_n (lo1 := [zR 0, zI n, zI 24]) dX11_putBytes_2 (by decide) rfl rfl ?_
  have L3 : ∀ (z3 : Nat) (sh j : Int) (w1 : zW) (hsh : sh = 24 - 8 * j) (j0 : 0 ≤ j) (j1 : j ≤ 4) (hf : ∀ c i, (c ≠ 0 ∨ i ≠ 1) → c ≠ 1 → w1 c i = w c i) (h1 : w1 0 1 = w 0 1 + j) (ha : ∀ x : Int, x < w 0 1 → w1 1 x = w 1 x) (hb : ∀ x : Int, 0 ≤ x → x < j → w1 1 (w 0 1 + x) = iAnd (iShr n (24 - 8 * x)) 255) (zm : (4 - j).toNat < z3), zA l mX11_putBytes false 1 0 0 (fun v' S' w' => v' = none ∧ S' = (ZZ t dr tx) ∧ (∀ c i, (c ≠ 0 ∨ i ≠ 1) → c ≠ 1 → w' c i = w c i) ∧ w' 0 1 = w 0 1 + 4 ∧ (∀ x : Int, x < w 0 1 → w' 1 x = w 1 x) ∧ ∀ j : Int, 0 ≤ j → j < 4 → w' 1 (w 0 1 + j) = iAnd (iShr n (24 - 8 * j)) 255) zNo 3 [zR 0, zI n, zI sh] [] (ZZ t dr tx) w1 := by
    intro z3
    induction z3 with
    | zero => intro sh j w1 hsh j0 j1 hf h1 ha hb zm; exact absurd zm (Nat.not_lt_zero _)
    | succ z3 ih3 =>
      intro sh j w1 hsh j0 j1 hf h1 ha hb zm
      refine zA_range (fun hr => ?_)
      refine zA_iload_n dX11_putBytes_3 rfl ?_
      refine zA_if_lt (tgt := 49) dX11_putBytes_4 (by decide) (by first | assumption | exact hr _ _ | exact inR_mk (by omega) (by omega)) (fun c4 => ?_) (fun c4 => ?_)
      · skip
        refine zA_vret dX11_putBytes_49 rfl ?_
        exact ⟨rfl, rfl, hf, by omega, ha, fun x a b => hb x a (by omega)⟩
      · skip
        refine zA_aload_n dX11_putBytes_7 rfl ?_
        refine zA_getI dX11_putBytes_8 fX11_13 c0 rfl ?_
        refine zA_valI (w1 0 1) rfl ?_
        refine zA_sipush dX11_putBytes_11 rfl ?_
        refine zA_icmp_ge (tgt := 49) dX11_putBytes_14 (by decide) (by first | assumption | exact hr _ _ | exact inR_mk (by omega) (by omega)) ⟨by decide, by decide⟩ (fun c14 => ?_) (fun c14 => ?_)
        · skip
          exfalso; omega
        · skip
          refine zA_aload_n dX11_putBytes_17 rfl ?_
          refine zA_getR (n := 1) dX11_putBytes_18 fX11_9 c0 rfl ?_
          refine zA_aload_n dX11_putBytes_21 rfl ?_
          refine zA_getI dX11_putBytes_22 fX11_13 c0 rfl ?_
          refine zA_valI (w1 0 1) rfl ?_
          refine zA_iload_n dX11_putBytes_25 rfl ?_
          refine zA_iload_n dX11_putBytes_26 rfl ?_
          refine zA_ishr dX11_putBytes_27 ?_
          refine zA_sipush dX11_putBytes_28 rfl ?_
          refine zA_iand dX11_putBytes_31 ?_
          have hand : inR (iAnd (iShr n sh) 255) := iAnd_255b
          refine zA_iastore dX11_putBytes_32 (by first | assumption | exact hr _ _ | exact inR_mk (by omega) (by omega)) c1 (by first | assumption | omega) (by first | assumption | omega) (by decide) ?_
          refine zA_namew (fun w_1 hw_1 => ?_)
          refine zA_range (fun hr => ?_)
          replace hw_1 : w_1 = up w1 1 (w1 0 1) (iAnd (iShr n sh) 255) := hw_1
          have e1 : w_1 0 1 = w1 0 1 := by rw [hw_1, up_cell _ _ _ _ (by decide)]
          refine zA_aload_n dX11_putBytes_33 rfl ?_
          refine zA_dup dX11_putBytes_34 rfl ?_
          refine zA_getI dX11_putBytes_35 fX11_13 c0 rfl ?_
          refine zA_valI (w_1 0 1) rfl ?_
          refine zA_iconst dX11_putBytes_38 ?_
          refine zA_iadd dX11_putBytes_39 ?_
          refine zA_putI dX11_putBytes_40 fX11_13 c0 rfl (by first | assumption | exact hr _ _ | exact inR_mk (by omega) (by omega)) ⟨rfl, rfl⟩ ?_
          refine zA_namew (fun w_2 hw_2 => ?_)
          refine zA_range (fun hr => ?_)
          replace hw_2 : w_2 = up w_1 0 1 ((w_1 0 1) + 1) := hw_2
          refine zA_iinc (lo1 := [zR 0, zI n, zI (sh + (-8))]) dX11_putBytes_43 rfl (by decide) rfl rfl ?_
          refine zA_goto (tgt := 3) dX11_putBytes_46 (by decide) ?_
          exact ih3 _ (j + 1) _ (by omega) (by omega) (by omega) (fun c i a b => by rw [hw_2, up_ne b a, hw_1, up_cell _ _ _ _ b]; exact hf c i a b) (by rw [hw_2, up_same]; omega) (fun x a => by rw [hw_2, up_cell _ _ _ _ (by decide), hw_1, up_idx _ _ _ _ (by omega)]; exact ha x a) (fun x a b => by
                      rw [hw_2, up_cell _ _ _ _ (by decide), hw_1]
                      by_cases e : x = j
                      · rw [e, ← h1, up_same, hsh]
                      · rw [up_idx _ _ _ _ (by omega)]; exact hb x a (by omega)) (by omega)
  exact L3 _ 24 0 w (by omega) (by omega) (by omega) (fun _ _ _ _ => rfl) (by omega) (fun x _ => rfl) (fun x a b => by omega) (Nat.lt_succ_self _)

set_option maxRecDepth 100000 in
set_option maxHeartbeats 4000000 in
theorem s_feed {l : Launch} {t dr tx : Nat} {w : zW} {a b c d e : Int} (ha : inR a) (hb : inR b) (hc : inR c) (hd : inR d) (he : inR e) (t0 : 0 ≤ w 0 1) (t1 : w 0 1 ≤ 600) : zSp l mX11_feed false 2 0 0 [zR 0, zI a, zI b, zI c, zI d, zI e] (ZZ t dr tx) w (fun v' S' w' => S' = (ZZ t dr tx) ∧ ((580 < w 0 1 ∧ v' = some (zI (-1)) ∧ w' = w) ∨ (w 0 1 ≤ 580 ∧ v' = some (zI (w 0 1 + 20)) ∧ (∀ cc i, (cc ≠ 0 ∨ i ≠ 1) → cc ≠ 1 → w' cc i = w cc i) ∧ w' 0 1 = w 0 1 + 20 ∧ (∀ x : Int, x < w 0 1 → w' 1 x = w 1 x) ∧ ∀ j : Int, 0 ≤ j → j < 20 → w' 1 (w 0 1 + j) = byt a b c d e j))) zNo := by
  refine zA_intro ⟨plainFor_of_name (by decide +kernel), Or.inl (by decide +kernel)⟩ rfl (Nat.le_of_ble_eq_true rfl) ?_
  refine zA_range (fun hr => ?_)
  show zA l mX11_feed false 2 0 0 (fun v' S' w' => S' = (ZZ t dr tx) ∧ ((580 < w 0 1 ∧ v' = some (zI (-1)) ∧ w' = w) ∨ (w 0 1 ≤ 580 ∧ v' = some (zI (w 0 1 + 20)) ∧ (∀ cc i, (cc ≠ 0 ∨ i ≠ 1) → cc ≠ 1 → w' cc i = w cc i) ∧ w' 0 1 = w 0 1 + 20 ∧ (∀ x : Int, x < w 0 1 → w' 1 x = w 1 x) ∧ ∀ j : Int, 0 ≤ j → j < 20 → w' 1 (w 0 1 + j) = byt a b c d e j))) zNo 0 [zR 0, zI a, zI b, zI c, zI d, zI e] [] (ZZ t dr tx) w
  refine zA_aload_n dX11_feed_0 rfl ?_
  refine zA_getI dX11_feed_1 fX11_13 c0 rfl ?_
  refine zA_valI (w 0 1) rfl ?_
  refine zA_bipush dX11_feed_4 rfl ?_
  refine zA_iadd dX11_feed_6 ?_
  refine zA_sipush dX11_feed_7 rfl ?_
  refine zA_icmp_le (tgt := 15) dX11_feed_10 (by decide) (by first | assumption | exact hr _ _ | exact inR_mk (by omega) (by omega)) ⟨by decide, by decide⟩ (fun c10 => ?_) (fun c10 => ?_)
  · skip
    refine zA_aload_n dX11_feed_15 rfl ?_
    refine zA_iload_n dX11_feed_16 rfl ?_
    refine zA_cV (st := []) dX11_feed_17 vX11_putBytes kX11_103 (s_putBytes (w := w) (n := a) ha (by omega) (by omega)) (by decide) c0 rfl rfl (Nat.le_of_ble_eq_true rfl) rfl (fun q_1_v q_1_S q_1_w q_1 => ?_)
    obtain ⟨rfl, rfl, f1, g1, k1, m1⟩ := q_1
    refine zA_range (fun hr => ?_)
    show zA l mX11_feed false 2 0 0 (fun v' S' w' => S' = (ZZ t dr tx) ∧ ((580 < w 0 1 ∧ v' = some (zI (-1)) ∧ w' = w) ∨ (w 0 1 ≤ 580 ∧ v' = some (zI (w 0 1 + 20)) ∧ (∀ cc i, (cc ≠ 0 ∨ i ≠ 1) → cc ≠ 1 → w' cc i = w cc i) ∧ w' 0 1 = w 0 1 + 20 ∧ (∀ x : Int, x < w 0 1 → w' 1 x = w 1 x) ∧ ∀ j : Int, 0 ≤ j → j < 20 → w' 1 (w 0 1 + j) = byt a b c d e j))) zNo 20 [zR 0, zI a, zI b, zI c, zI d, zI e] [] (ZZ t dr tx) q_1_w
    refine zA_aload_n dX11_feed_20 rfl ?_
    refine zA_iload_n dX11_feed_21 rfl ?_
    refine zA_cV (st := []) dX11_feed_22 vX11_putBytes kX11_103 (s_putBytes (w := q_1_w) (n := b) hb (by omega) (by omega)) (by decide) c0 rfl rfl (Nat.le_of_ble_eq_true rfl) rfl (fun q_2_v q_2_S q_2_w q_2 => ?_)
    obtain ⟨rfl, rfl, f2, g2, k2, m2⟩ := q_2
    refine zA_range (fun hr => ?_)
    show zA l mX11_feed false 2 0 0 (fun v' S' w' => S' = (ZZ t dr tx) ∧ ((580 < w 0 1 ∧ v' = some (zI (-1)) ∧ w' = w) ∨ (w 0 1 ≤ 580 ∧ v' = some (zI (w 0 1 + 20)) ∧ (∀ cc i, (cc ≠ 0 ∨ i ≠ 1) → cc ≠ 1 → w' cc i = w cc i) ∧ w' 0 1 = w 0 1 + 20 ∧ (∀ x : Int, x < w 0 1 → w' 1 x = w 1 x) ∧ ∀ j : Int, 0 ≤ j → j < 20 → w' 1 (w 0 1 + j) = byt a b c d e j))) zNo 25 [zR 0, zI a, zI b, zI c, zI d, zI e] [] (ZZ t dr tx) q_2_w
    refine zA_aload_n dX11_feed_25 rfl ?_
    refine zA_iload_n dX11_feed_26 rfl ?_
    refine zA_cV (st := []) dX11_feed_27 vX11_putBytes kX11_103 (s_putBytes (w := q_2_w) (n := c) hc (by omega) (by omega)) (by decide) c0 rfl rfl (Nat.le_of_ble_eq_true rfl) rfl (fun q_3_v q_3_S q_3_w q_3 => ?_)
    obtain ⟨rfl, rfl, f3, g3, k3, m3⟩ := q_3
    refine zA_range (fun hr => ?_)
    show zA l mX11_feed false 2 0 0 (fun v' S' w' => S' = (ZZ t dr tx) ∧ ((580 < w 0 1 ∧ v' = some (zI (-1)) ∧ w' = w) ∨ (w 0 1 ≤ 580 ∧ v' = some (zI (w 0 1 + 20)) ∧ (∀ cc i, (cc ≠ 0 ∨ i ≠ 1) → cc ≠ 1 → w' cc i = w cc i) ∧ w' 0 1 = w 0 1 + 20 ∧ (∀ x : Int, x < w 0 1 → w' 1 x = w 1 x) ∧ ∀ j : Int, 0 ≤ j → j < 20 → w' 1 (w 0 1 + j) = byt a b c d e j))) zNo 30 [zR 0, zI a, zI b, zI c, zI d, zI e] [] (ZZ t dr tx) q_3_w
    refine zA_aload_n dX11_feed_30 rfl ?_
    refine zA_iload dX11_feed_31 rfl ?_
    refine zA_cV (st := []) dX11_feed_33 vX11_putBytes kX11_103 (s_putBytes (w := q_3_w) (n := d) hd (by omega) (by omega)) (by decide) c0 rfl rfl (Nat.le_of_ble_eq_true rfl) rfl (fun q_4_v q_4_S q_4_w q_4 => ?_)
    obtain ⟨rfl, rfl, f4, g4, k4, m4⟩ := q_4
    refine zA_range (fun hr => ?_)
    show zA l mX11_feed false 2 0 0 (fun v' S' w' => S' = (ZZ t dr tx) ∧ ((580 < w 0 1 ∧ v' = some (zI (-1)) ∧ w' = w) ∨ (w 0 1 ≤ 580 ∧ v' = some (zI (w 0 1 + 20)) ∧ (∀ cc i, (cc ≠ 0 ∨ i ≠ 1) → cc ≠ 1 → w' cc i = w cc i) ∧ w' 0 1 = w 0 1 + 20 ∧ (∀ x : Int, x < w 0 1 → w' 1 x = w 1 x) ∧ ∀ j : Int, 0 ≤ j → j < 20 → w' 1 (w 0 1 + j) = byt a b c d e j))) zNo 36 [zR 0, zI a, zI b, zI c, zI d, zI e] [] (ZZ t dr tx) q_4_w
    refine zA_aload_n dX11_feed_36 rfl ?_
    refine zA_iload dX11_feed_37 rfl ?_
    refine zA_cV (st := []) dX11_feed_39 vX11_putBytes kX11_103 (s_putBytes (w := q_4_w) (n := e) he (by omega) (by omega)) (by decide) c0 rfl rfl (Nat.le_of_ble_eq_true rfl) rfl (fun q_5_v q_5_S q_5_w q_5 => ?_)
    obtain ⟨rfl, rfl, f5, g5, k5, m5⟩ := q_5
    refine zA_range (fun hr => ?_)
    show zA l mX11_feed false 2 0 0 (fun v' S' w' => S' = (ZZ t dr tx) ∧ ((580 < w 0 1 ∧ v' = some (zI (-1)) ∧ w' = w) ∨ (w 0 1 ≤ 580 ∧ v' = some (zI (w 0 1 + 20)) ∧ (∀ cc i, (cc ≠ 0 ∨ i ≠ 1) → cc ≠ 1 → w' cc i = w cc i) ∧ w' 0 1 = w 0 1 + 20 ∧ (∀ x : Int, x < w 0 1 → w' 1 x = w 1 x) ∧ ∀ j : Int, 0 ≤ j → j < 20 → w' 1 (w 0 1 + j) = byt a b c d e j))) zNo 42 [zR 0, zI a, zI b, zI c, zI d, zI e] [] (ZZ t dr tx) q_5_w
    refine zA_aload_n dX11_feed_42 rfl ?_
    refine zA_getI dX11_feed_43 fX11_13 c0 rfl ?_
    refine zA_valI (q_5_w 0 1) rfl ?_
    refine zA_iret dX11_feed_46 rfl ?_
    refine ⟨rfl, Or.inr ⟨by omega, by rw [show w 0 1 + 20 = q_5_w 0 1 by omega], fun cc i h1 h2 => ?_, by omega, fun x hx => ?_, fun j j0 j1 => ?_⟩⟩
    · rw [f5 cc i h1 h2, f4 cc i h1 h2, f3 cc i h1 h2, f2 cc i h1 h2, f1 cc i h1 h2]
    · rw [k5 x (by omega), k4 x (by omega), k3 x (by omega), k2 x (by omega), k1 x (by omega)]
    · unfold byt
      by_cases c1 : j < 4
      · rw [if_pos c1, k5 _ (by omega), k4 _ (by omega), k3 _ (by omega), k2 _ (by omega), m1 j j0 c1, show j % 4 = j by omega]
      · rw [if_neg c1]
        by_cases c2 : j < 8
        · rw [if_pos c2, k5 _ (by omega), k4 _ (by omega), k3 _ (by omega), show w 0 1 + j = q_1_w 0 1 + (j - 4) by omega, m2 (j - 4) (by omega) (by omega), show j % 4 = j - 4 by omega]
        · rw [if_neg c2]
          by_cases c3 : j < 12
          · rw [if_pos c3, k5 _ (by omega), k4 _ (by omega), show w 0 1 + j = q_2_w 0 1 + (j - 8) by omega, m3 (j - 8) (by omega) (by omega), show j % 4 = j - 8 by omega]
          · rw [if_neg c3]
            by_cases c4 : j < 16
            · rw [if_pos c4, k5 _ (by omega), show w 0 1 + j = q_3_w 0 1 + (j - 12) by omega, m4 (j - 12) (by omega) (by omega), show j % 4 = j - 12 by omega]
            · rw [if_neg c4, show w 0 1 + j = q_4_w 0 1 + (j - 16) by omega, m5 (j - 16) (by omega) (by omega), show j % 4 = j - 16 by omega]
  · skip
    refine zA_iconst dX11_feed_13 ?_
    refine zA_iret dX11_feed_14 rfl ?_
    exact ⟨rfl, Or.inl ⟨by omega, rfl, rfl⟩⟩

set_option maxRecDepth 100000 in
set_option maxHeartbeats 4000000 in
theorem m_feed {l : Launch} {t dr tx : Nat} {w : zW} {a b c d e : Int} (ha : inR a) (hb : inR b) (hc : inR c) (hd : inR d) (he : inR e) (t0 : 0 ≤ w 73 12) (t1 : w 73 12 ≤ 600) : zSp l mX12_feed false 2 0 0 [zR 73, zI a, zI b, zI c, zI d, zI e] (ZZ t dr tx) w (fun v' S' w' => S' = (ZZ t dr tx) ∧ ((580 < w 73 12 ∧ v' = some (zI (-1)) ∧ w' = up w 73 1 0) ∨ (w 73 12 ≤ 580 ∧ v' = some (zI (w 73 12 + 20)) ∧ (∀ cc i, (cc ≠ 73 ∨ (i ≠ 1 ∧ i ≠ 12)) → cc ≠ 84 → w' cc i = w cc i) ∧ w' 73 1 = 0 ∧ w' 73 12 = w 73 12 + 20 ∧ (∀ x : Int, x < w 73 12 → w' 84 x = w 84 x) ∧ ∀ j : Int, 0 ≤ j → j < 20 → w' 84 (w 73 12 + j) = byt a b c d e j))) zNo := by
  refine zA_intro ⟨plainFor_of_name (by decide +kernel), Or.inl (by decide +kernel)⟩ rfl (Nat.le_of_ble_eq_true rfl) ?_
  refine zA_range (fun hr => ?_)
  show zA l mX12_feed false 2 0 0 (fun v' S' w' => S' = (ZZ t dr tx) ∧ ((580 < w 73 12 ∧ v' = some (zI (-1)) ∧ w' = up w 73 1 0) ∨ (w 73 12 ≤ 580 ∧ v' = some (zI (w 73 12 + 20)) ∧ (∀ cc i, (cc ≠ 73 ∨ (i ≠ 1 ∧ i ≠ 12)) → cc ≠ 84 → w' cc i = w cc i) ∧ w' 73 1 = 0 ∧ w' 73 12 = w 73 12 + 20 ∧ (∀ x : Int, x < w 73 12 → w' 84 x = w 84 x) ∧ ∀ j : Int, 0 ≤ j → j < 20 → w' 84 (w 73 12 + j) = byt a b c d e j))) zNo 0 [zR 73, zI a, zI b, zI c, zI d, zI e, .null, .null] [] (ZZ t dr tx) w
  refine zA_aload_n dX12_feed_0 rfl ?_
  refine zA_iconst dX12_feed_1 ?_
  refine zA_putI dX12_feed_2 fX12_182 c73 rfl ⟨by decide, by decide⟩ ⟨rfl, rfl⟩ ?_
  refine zA_namew (fun w_1 hw_1 => ?_)
  refine zA_range (fun hr => ?_)
  replace hw_1 : w_1 = up w 73 1 0 := hw_1
  have ef : ∀ cc i, (cc ≠ 73 ∨ i ≠ 1) → w_1 cc i = w cc i := fun cc i h => by
    by_cases hc : cc = 73
    · subst hc; rw [hw_1, up_idx _ _ _ _ (by omega)]
    · rw [hw_1, up_cell _ _ _ _ hc]
  have e12 : w_1 73 12 = w 73 12 := ef 73 12 (Or.inr (by decide))
  have e1 : w_1 73 1 = 0 := by rw [hw_1, up_same]
  refine zA_aload_n dX12_feed_5 rfl ?_
  refine zA_getI dX12_feed_6 fX12_189 c73 rfl ?_
  refine zA_valI (w_1 73 12) rfl ?_
  refine zA_bipush dX12_feed_9 rfl ?_
  refine zA_iadd dX12_feed_11 ?_
  refine zA_sipush dX12_feed_12 rfl ?_
  refine zA_icmp_le (tgt := 20) dX12_feed_15 (by decide) (by first | assumption | exact hr _ _ | exact inR_mk (by omega) (by omega)) ⟨by decide, by decide⟩ (fun c15 => ?_) (fun c15 => ?_)
  · skip
    refine zA_iconst dX12_feed_20 ?_
    refine zA_istore (lo1 := [zR 73, zI a, zI b, zI c, zI d, zI e, zI 0, .null]) dX12_feed_21 (by decide) rfl rfl ?_
    have L23 : ∀ (z23 : Nat) (k : Int) (w1 : zW) (k0 : 0 ≤ k) (k1 : k ≤ 20) (hf : ∀ cc i, (cc ≠ 73 ∨ (i ≠ 1 ∧ i ≠ 12)) → cc ≠ 84 → w1 cc i = w cc i) (h1 : w1 73 1 = 0) (h12 : w1 73 12 = w 73 12 + k) (hx : ∀ x : Int, x < w 73 12 → w1 84 x = w 84 x) (hy : ∀ j : Int, 0 ≤ j → j < k → w1 84 (w 73 12 + j) = byt a b c d e j) (zm : (20 - k).toNat < z23), zA l mX12_feed false 2 0 0 (fun v' S' w' => S' = (ZZ t dr tx) ∧ ((580 < w 73 12 ∧ v' = some (zI (-1)) ∧ w' = up w 73 1 0) ∨ (w 73 12 ≤ 580 ∧ v' = some (zI (w 73 12 + 20)) ∧ (∀ cc i, (cc ≠ 73 ∨ (i ≠ 1 ∧ i ≠ 12)) → cc ≠ 84 → w' cc i = w cc i) ∧ w' 73 1 = 0 ∧ w' 73 12 = w 73 12 + 20 ∧ (∀ x : Int, x < w 73 12 → w' 84 x = w 84 x) ∧ ∀ j : Int, 0 ≤ j → j < 20 → w' 84 (w 73 12 + j) = byt a b c d e j))) zNo 23 [zR 73, zI a, zI b, zI c, zI d, zI e, zI k, .null] [] (ZZ t dr tx) w1 := by
      intro z23
      induction z23 with
      | zero => intro k w1 k0 k1 hf h1 h12 hx hy zm; exact absurd zm (Nat.not_lt_zero _)
      | succ z23 ih23 =>
        intro k w1 k0 k1 hf h1 h12 hx hy zm
        refine zA_range (fun hr => ?_)
        refine zA_iload dX12_feed_23 rfl ?_
        refine zA_bipush dX12_feed_25 rfl ?_
        refine zA_icmp_ge (tgt := 120) dX12_feed_27 (by decide) (by first | assumption | exact hr _ _ | exact inR_mk (by omega) (by omega)) ⟨by decide, by decide⟩ (fun c27 => ?_) (fun c27 => ?_)
        · skip
          refine zA_aload_n dX12_feed_120 rfl ?_
          refine zA_getI dX12_feed_121 fX12_189 c73 rfl ?_
          refine zA_valI (w1 73 12) rfl ?_
          refine zA_iret dX12_feed_124 rfl ?_
          exact ⟨rfl, Or.inr ⟨by omega, by rw [show w 73 12 + 20 = w1 73 12 by omega], hf, h1, by omega, hx, fun j a b => hy j a (by omega)⟩⟩
        · skip
          refine zA_iload dX12_feed_30 rfl ?_
          refine zA_iconst dX12_feed_32 ?_
          refine zA_icmp_ge (tgt := 40) dX12_feed_33 (by decide) (by first | assumption | exact hr _ _ | exact inR_mk (by omega) (by omega)) ⟨by decide, by decide⟩ (fun c33 => ?_) (fun c33 => ?_)
          · skip
            refine zA_iload dX12_feed_40 rfl ?_
            refine zA_bipush dX12_feed_42 rfl ?_
            refine zA_icmp_ge (tgt := 51) dX12_feed_44 (by decide) (by first | assumption | exact hr _ _ | exact inR_mk (by omega) (by omega)) ⟨by decide, by decide⟩ (fun c44 => ?_) (fun c44 => ?_)
            · skip
              refine zA_iload dX12_feed_51 rfl ?_
              refine zA_bipush dX12_feed_53 rfl ?_
              refine zA_icmp_ge (tgt := 62) dX12_feed_55 (by decide) (by first | assumption | exact hr _ _ | exact inR_mk (by omega) (by omega)) ⟨by decide, by decide⟩ (fun c55 => ?_) (fun c55 => ?_)
              · skip
                refine zA_iload dX12_feed_62 rfl ?_
                refine zA_bipush dX12_feed_64 rfl ?_
                refine zA_icmp_ge (tgt := 74) dX12_feed_66 (by decide) (by first | assumption | exact hr _ _ | exact inR_mk (by omega) (by omega)) ⟨by decide, by decide⟩ (fun c66 => ?_) (fun c66 => ?_)
                · skip
                  refine zA_iload dX12_feed_74 rfl ?_
                  refine zA_valI (if k < 4 then a else if k < 8 then b else if k < 12 then c else if k < 16 then d else e) (by first | rw [if_pos (by omega)] | rw [if_neg (by omega), if_pos (by omega)] | rw [if_neg (by omega), if_neg (by omega), if_pos (by omega)] | rw [if_neg (by omega), if_neg (by omega), if_neg (by omega), if_pos (by omega)] | rw [if_neg (by omega), if_neg (by omega), if_neg (by omega), if_neg (by omega)]) ?_
                  refine zA_istore (lo1 := [zR 73, zI a, zI b, zI c, zI d, zI e, zI k, zI (if k < 4 then a else if k < 8 then b else if k < 12 then c else if k < 16 then d else e)]) dX12_feed_76 (by decide) rfl rfl ?_
                  refine zA_aload_n dX12_feed_78 rfl ?_
                  refine zA_getR (n := 84) dX12_feed_79 fX12_50 c73 rfl ?_
                  refine zA_aload_n dX12_feed_82 rfl ?_
                  refine zA_getI dX12_feed_83 fX12_189 c73 rfl ?_
                  refine zA_valI (w1 73 12) rfl ?_
                  refine zA_iload dX12_feed_86 rfl ?_
                  refine zA_bipush dX12_feed_88 rfl ?_
                  refine zA_bipush dX12_feed_90 rfl ?_
                  refine zA_iload dX12_feed_92 rfl ?_
                  refine zA_iconst dX12_feed_94 ?_
                  refine zA_irem dX12_feed_95 (by first | assumption | omega) (by first | assumption | omega) (by first | assumption | omega) (by first | assumption | omega) ?_
                  refine zA_imul dX12_feed_96 ?_
                  refine zA_isub dX12_feed_97 ?_
                  refine zA_ishr dX12_feed_98 ?_
                  refine zA_sipush dX12_feed_99 rfl ?_
                  refine zA_iand dX12_feed_102 ?_
                  have hand : inR (iAnd (iShr (if k < 4 then a else if k < 8 then b else if k < 12 then c else if k < 16 then d else e) (24 - 8 * (k % 4))) 255) := iAnd_255b
                  refine zA_iastore dX12_feed_103 (by first | assumption | exact hr _ _ | exact inR_mk (by omega) (by omega)) c84 (by first | assumption | omega) (by first | assumption | omega) (by decide) ?_
                  refine zA_namew (fun w_2 hw_2 => ?_)
                  refine zA_range (fun hr => ?_)
                  replace hw_2 : w_2 = up w1 84 (w1 73 12) (iAnd (iShr (if k < 4 then a else if k < 8 then b else if k < 12 then c else if k < 16 then d else e) (24 - (8 * (k % 4)))) 255) := hw_2
                  have e2 : w_2 73 12 = w1 73 12 := by rw [hw_2, up_cell _ _ _ _ (by decide)]
                  refine zA_aload_n dX12_feed_104 rfl ?_
                  refine zA_dup dX12_feed_105 rfl ?_
                  refine zA_getI dX12_feed_106 fX12_189 c73 rfl ?_
                  refine zA_valI (w_2 73 12) rfl ?_
                  refine zA_iconst dX12_feed_109 ?_
                  refine zA_iadd dX12_feed_110 ?_
                  refine zA_putI dX12_feed_111 fX12_189 c73 rfl (by first | assumption | exact hr _ _ | exact inR_mk (by omega) (by omega)) ⟨rfl, rfl⟩ ?_
                  refine zA_namew (fun w_3 hw_3 => ?_)
                  refine zA_range (fun hr => ?_)
                  replace hw_3 : w_3 = up w_2 73 12 ((w_2 73 12) + 1) := hw_3
                  refine zA_iinc (lo1 := [zR 73, zI a, zI b, zI c, zI d, zI e, zI (k + 1), zI (if k < 4 then a else if k < 8 then b else if k < 12 then c else if k < 16 then d else e)]) dX12_feed_114 rfl (by decide) rfl rfl ?_
                  refine zA_goto (tgt := 23) dX12_feed_117 (by decide) ?_
                  refine zA_drop 7 (lo1 := [zR 73, zI a, zI b, zI c, zI d, zI e, zI (k + 1), .null]) rfl ?_
                  exact ih23 (k + 1) _ (by omega) (by omega) (fun cc i a b => by rw [hw_3, up_ne b (by omega), hw_2, up_cell _ _ _ _ b]; exact hf cc i a b) (by rw [hw_3, up_idx _ _ _ _ (by decide), hw_2, up_cell _ _ _ _ (by decide)]; exact h1) (by rw [hw_3, up_same]; omega) (fun x a => by rw [hw_3, up_cell _ _ _ _ (by decide), hw_2, up_idx _ _ _ _ (by omega)]; exact hx x a) (fun j a b => by
                              rw [hw_3, up_cell _ _ _ _ (by decide), hw_2]
                              by_cases q : j = k
                              · rw [q, ← h12, up_same]; rfl
                              · rw [up_idx _ _ _ _ (by omega)]; exact hy j a (by omega)) (by omega)
                · skip
                  refine zA_iload dX12_feed_69 rfl ?_
                  refine zA_goto (tgt := 76) dX12_feed_71 (by decide) ?_
                  refine zA_valI (if k < 4 then a else if k < 8 then b else if k < 12 then c else if k < 16 then d else e) (by first | rw [if_pos (by omega)] | rw [if_neg (by omega), if_pos (by omega)] | rw [if_neg (by omega), if_neg (by omega), if_pos (by omega)] | rw [if_neg (by omega), if_neg (by omega), if_neg (by omega), if_pos (by omega)] | rw [if_neg (by omega), if_neg (by omega), if_neg (by omega), if_neg (by omega)]) ?_
                  refine zA_istore (lo1 := [zR 73, zI a, zI b, zI c, zI d, zI e, zI k, zI (if k < 4 then a else if k < 8 then b else if k < 12 then c else if k < 16 then d else e)]) dX12_feed_76 (by decide) rfl rfl ?_
                  refine zA_aload_n dX12_feed_78 rfl ?_
                  refine zA_getR (n := 84) dX12_feed_79 fX12_50 c73 rfl ?_
                  refine zA_aload_n dX12_feed_82 rfl ?_
                  refine zA_getI dX12_feed_83 fX12_189 c73 rfl ?_
                  refine zA_valI (w1 73 12) rfl ?_
                  refine zA_iload dX12_feed_86 rfl ?_
                  refine zA_bipush dX12_feed_88 rfl ?_
                  refine zA_bipush dX12_feed_90 rfl ?_
                  refine zA_iload dX12_feed_92 rfl ?_
                  refine zA_iconst dX12_feed_94 ?_
                  refine zA_irem dX12_feed_95 (by first | assumption | omega) (by first | assumption | omega) (by first | assumption | omega) (by first | assumption | omega) ?_
                  refine zA_imul dX12_feed_96 ?_
                  refine zA_isub dX12_feed_97 ?_
                  refine zA_ishr dX12_feed_98 ?_
                  refine zA_sipush dX12_feed_99 rfl ?_
                  refine zA_iand dX12_feed_102 ?_
                  have hand : inR (iAnd (iShr (if k < 4 then a else if k < 8 then b else if k < 12 then c else if k < 16 then d else e) (24 - 8 * (k % 4))) 255) := iAnd_255b
                  refine zA_iastore dX12_feed_103 (by first | assumption | exact hr _ _ | exact inR_mk (by omega) (by omega)) c84 (by first | assumption | omega) (by first | assumption | omega) (by decide) ?_
                  refine zA_namew (fun w_4 hw_4 => ?_)
                  refine zA_range (fun hr => ?_)
                  replace hw_4 : w_4 = up w1 84 (w1 73 12) (iAnd (iShr (if k < 4 then a else if k < 8 then b else if k < 12 then c else if k < 16 then d else e) (24 - (8 * (k % 4)))) 255) := hw_4
                  have e2 : w_4 73 12 = w1 73 12 := by rw [hw_4, up_cell _ _ _ _ (by decide)]
                  refine zA_aload_n dX12_feed_104 rfl ?_
                  refine zA_dup dX12_feed_105 rfl ?_
                  refine zA_getI dX12_feed_106 fX12_189 c73 rfl ?_
                  refine zA_valI (w_4 73 12) rfl ?_
                  refine zA_iconst dX12_feed_109 ?_
                  refine zA_iadd dX12_feed_110 ?_
                  refine zA_putI dX12_feed_111 fX12_189 c73 rfl (by first | assumption | exact hr _ _ | exact inR_mk (by omega) (by omega)) ⟨rfl, rfl⟩ ?_
                  refine zA_namew (fun w_5 hw_5 => ?_)
                  refine zA_range (fun hr => ?_)
                  replace hw_5 : w_5 = up w_4 73 12 ((w_4 73 12) + 1) := hw_5
                  refine zA_iinc (lo1 := [zR 73, zI a, zI b, zI c, zI d, zI e, zI (k + 1), zI (if k < 4 then a else if k < 8 then b else if k < 12 then c else if k < 16 then d else e)]) dX12_feed_114 rfl (by decide) rfl rfl ?_
                  refine zA_goto (tgt := 23) dX12_feed_117 (by decide) ?_
                  refine zA_drop 7 (lo1 := [zR 73, zI a, zI b, zI c, zI d, zI e, zI (k + 1), .null]) rfl ?_
                  exact ih23 (k + 1) _ (by omega) (by omega) (fun cc i a b => by rw [hw_5, up_ne b (by omega), hw_4, up_cell _ _ _ _ b]; exact hf cc i a b) (by rw [hw_5, up_idx _ _ _ _ (by decide), hw_4, up_cell _ _ _ _ (by decide)]; exact h1) (by rw [hw_5, up_same]; omega) (fun x a => by rw [hw_5, up_cell _ _ _ _ (by decide), hw_4, up_idx _ _ _ _ (by omega)]; exact hx x a) (fun j a b => by
                              rw [hw_5, up_cell _ _ _ _ (by decide), hw_4]
                              by_cases q : j = k
                              · rw [q, ← h12, up_same]; rfl
                              · rw [up_idx _ _ _ _ (by omega)]; exact hy j a (by omega)) (by omega)
              · skip
                refine zA_iload_n dX12_feed_58 rfl ?_
                refine zA_goto (tgt := 76) dX12_feed_59 (by decide) ?_
                refine zA_valI (if k < 4 then a else if k < 8 then b else if k < 12 then c else if k < 16 then d else e) (by first | rw [if_pos (by omega)] | rw [if_neg (by omega), if_pos (by omega)] | rw [if_neg (by omega), if_neg (by omega), if_pos (by omega)] | rw [if_neg (by omega), if_neg (by omega), if_neg (by omega), if_pos (by omega)] | rw [if_neg (by omega), if_neg (by omega), if_neg (by omega), if_neg (by omega)]) ?_
                refine zA_istore (lo1 := [zR 73, zI a, zI b, zI c, zI d, zI e, zI k, zI (if k < 4 then a else if k < 8 then b else if k < 12 then c else if k < 16 then d else e)]) dX12_feed_76 (by decide) rfl rfl ?_
                refine zA_aload_n dX12_feed_78 rfl ?_
                refine zA_getR (n := 84) dX12_feed_79 fX12_50 c73 rfl ?_
                refine zA_aload_n dX12_feed_82 rfl ?_
                refine zA_getI dX12_feed_83 fX12_189 c73 rfl ?_
                refine zA_valI (w1 73 12) rfl ?_
                refine zA_iload dX12_feed_86 rfl ?_
                refine zA_bipush dX12_feed_88 rfl ?_
                refine zA_bipush dX12_feed_90 rfl ?_
                refine zA_iload dX12_feed_92 rfl ?_
                refine zA_iconst dX12_feed_94 ?_
                refine zA_irem dX12_feed_95 (by first | assumption | omega) (by first | assumption | omega) (by first | assumption | omega) (by first | assumption | omega) ?_
                refine zA_imul dX12_feed_96 ?_
                refine zA_isub dX12_feed_97 ?_
                refine zA_ishr dX12_feed_98 ?_
                refine zA_sipush dX12_feed_99 rfl ?_
                refine zA_iand dX12_feed_102 ?_
                have hand : inR (iAnd (iShr (if k < 4 then a else if k < 8 then b else if k < 12 then c else if k < 16 then d else e) (24 - 8 * (k % 4))) 255) := iAnd_255b
                refine zA_iastore dX12_feed_103 (by first | assumption | exact hr _ _ | exact inR_mk (by omega) (by omega)) c84 (by first | assumption | omega) (by first | assumption | omega) (by decide) ?_
                refine zA_namew (fun w_6 hw_6 => ?_)
                refine zA_range (fun hr => ?_)
                replace hw_6 : w_6 = up w1 84 (w1 73 12) (iAnd (iShr (if k < 4 then a else if k < 8 then b else if k < 12 then c else if k < 16 then d else e) (24 - (8 * (k % 4)))) 255) := hw_6
                have e2 : w_6 73 12 = w1 73 12 := by rw [hw_6, up_cell _ _ _ _ (by decide)]
                refine zA_aload_n dX12_feed_104 rfl ?_
                refine zA_dup dX12_feed_105 rfl ?_
                refine zA_getI dX12_feed_106 fX12_189 c73 rfl ?_
                refine zA_valI (w_6 73 12) rfl ?_
                refine zA_iconst dX12_feed_109 ?_
                refine zA_iadd dX12_feed_110 ?_
                refine zA_putI dX12_feed_111 fX12_189 c73 rfl (by first | assumption | exact hr _ _ | exact inR_mk (by omega) (by omega)) ⟨rfl, rfl⟩ ?_
                refine zA_namew (fun w_7 hw_7 => ?_)
                refine zA_range (fun hr => ?_)
                replace hw_7 : w_7 = up w_6 73 12 ((w_6 73 12) + 1) := hw_7
                refine zA_iinc (lo1 := [zR 73, zI a, zI b, zI c, zI d, zI e, zI (k + 1), zI (if k < 4 then a else if k < 8 then b else if k < 12 then c else if k < 16 then d else e)]) dX12_feed_114 rfl (by decide) rfl rfl ?_
                refine zA_goto (tgt := 23) dX12_feed_117 (by decide) ?_
                refine zA_drop 7 (lo1 := [zR 73, zI a, zI b, zI c, zI d, zI e, zI (k + 1), .null]) rfl ?_
                exact ih23 (k + 1) _ (by omega) (by omega) (fun cc i a b => by rw [hw_7, up_ne b (by omega), hw_6, up_cell _ _ _ _ b]; exact hf cc i a b) (by rw [hw_7, up_idx _ _ _ _ (by decide), hw_6, up_cell _ _ _ _ (by decide)]; exact h1) (by rw [hw_7, up_same]; omega) (fun x a => by rw [hw_7, up_cell _ _ _ _ (by decide), hw_6, up_idx _ _ _ _ (by omega)]; exact hx x a) (fun j a b => by
                            rw [hw_7, up_cell _ _ _ _ (by decide), hw_6]
                            by_cases q : j = k
                            · rw [q, ← h12, up_same]; rfl
                            · rw [up_idx _ _ _ _ (by omega)]; exact hy j a (by omega)) (by omega)
            · skip
              refine zA_iload_n dX12_feed_47 rfl ?_
              refine zA_goto (tgt := 76) dX12_feed_48 (by decide) ?_
              refine zA_valI (if k < 4 then a else if k < 8 then b else if k < 12 then c else if k < 16 then d else e) (by first | rw [if_pos (by omega)] | rw [if_neg (by omega), if_pos (by omega)] | rw [if_neg (by omega), if_neg (by omega), if_pos (by omega)] | rw [if_neg (by omega), if_neg (by omega), if_neg (by omega), if_pos (by omega)] | rw [if_neg (by omega), if_neg (by omega), if_neg (by omega), if_neg (by omega)]) ?_
              refine zA_istore (lo1 := [zR 73, zI a, zI b, zI c, zI d, zI e, zI k, zI (if k < 4 then a else if k < 8 then b else if k < 12 then c else if k < 16 then d else e)]) dX12_feed_76 (by decide) rfl rfl ?_
              refine zA_aload_n dX12_feed_78 rfl ?_
              refine zA_getR (n := 84) dX12_feed_79 fX12_50 c73 rfl ?_
              refine zA_aload_n dX12_feed_82 rfl ?_
              refine zA_getI dX12_feed_83 fX12_189 c73 rfl ?_
              refine zA_valI (w1 73 12) rfl ?_
              refine zA_iload dX12_feed_86 rfl ?_
              refine zA_bipush dX12_feed_88 rfl ?_
              refine zA_bipush dX12_feed_90 rfl ?_
              refine zA_iload dX12_feed_92 rfl ?_
              refine zA_iconst dX12_feed_94 ?_
              refine zA_irem dX12_feed_95 (by first | assumption | omega) (by first | assumption | omega) (by first | assumption | omega) (by first | assumption | omega) ?_
              refine zA_imul dX12_feed_96 ?_
              refine zA_isub dX12_feed_97 ?_
              refine zA_ishr dX12_feed_98 ?_
              refine zA_sipush dX12_feed_99 rfl ?_
              refine zA_iand dX12_feed_102 ?_
              have hand : inR (iAnd (iShr (if k < 4 then a else if k < 8 then b else if k < 12 then c else if k < 16 then d else e) (24 - 8 * (k % 4))) 255) := iAnd_255b
              refine zA_iastore dX12_feed_103 (by first | assumption | exact hr _ _ | exact inR_mk (by omega) (by omega)) c84 (by first | assumption | omega) (by first | assumption | omega) (by decide) ?_
              refine zA_namew (fun w_8 hw_8 => ?_)
              refine zA_range (fun hr => ?_)
              replace hw_8 : w_8 = up w1 84 (w1 73 12) (iAnd (iShr (if k < 4 then a else if k < 8 then b else if k < 12 then c else if k < 16 then d else e) (24 - (8 * (k % 4)))) 255) := hw_8
              have e2 : w_8 73 12 = w1 73 12 := by rw [hw_8, up_cell _ _ _ _ (by decide)]
              refine zA_aload_n dX12_feed_104 rfl ?_
              refine zA_dup dX12_feed_105 rfl ?_
              refine zA_getI dX12_feed_106 fX12_189 c73 rfl ?_
              refine zA_valI (w_8 73 12) rfl ?_
              refine zA_iconst dX12_feed_109 ?_
              refine zA_iadd dX12_feed_110 ?_
              refine zA_putI dX12_feed_111 fX12_189 c73 rfl (by first | assumption | exact hr _ _ | exact inR_mk (by omega) (by omega)) ⟨rfl, rfl⟩ ?_
              refine zA_namew (fun w_9 hw_9 => ?_)
              refine zA_range (fun hr => ?_)
              replace hw_9 : w_9 = up w_8 73 12 ((w_8 73 12) + 1) := hw_9
              refine zA_iinc (lo1 := [zR 73, zI a, zI b, zI c, zI d, zI e, zI (k + 1), zI (if k < 4 then a else if k < 8 then b else if k < 12 then c else if k < 16 then d else e)]) dX12_feed_114 rfl (by decide) rfl rfl ?_
              refine zA_goto (tgt := 23) dX12_feed_117 (by decide) ?_
              refine zA_drop 7 (lo1 := [zR 73, zI a, zI b, zI c, zI d, zI e, zI (k + 1), .null]) rfl ?_
              exact ih23 (k + 1) _ (by omega) (by omega) (fun cc i a b => by rw [hw_9, up_ne b (by omega), hw_8, up_cell _ _ _ _ b]; exact hf cc i a b) (by rw [hw_9, up_idx _ _ _ _ (by decide), hw_8, up_cell _ _ _ _ (by decide)]; exact h1) (by rw [hw_9, up_same]; omega) (fun x a => by rw [hw_9, up_cell _ _ _ _ (by decide), hw_8, up_idx _ _ _ _ (by omega)]; exact hx x a) (fun j a b => by
                          rw [hw_9, up_cell _ _ _ _ (by decide), hw_8]
                          by_cases q : j = k
                          · rw [q, ← h12, up_same]; rfl
                          · rw [up_idx _ _ _ _ (by omega)]; exact hy j a (by omega)) (by omega)
          · skip
            refine zA_iload_n dX12_feed_36 rfl ?_
            refine zA_goto (tgt := 76) dX12_feed_37 (by decide) ?_
            refine zA_valI (if k < 4 then a else if k < 8 then b else if k < 12 then c else if k < 16 then d else e) (by first | rw [if_pos (by omega)] | rw [if_neg (by omega), if_pos (by omega)] | rw [if_neg (by omega), if_neg (by omega), if_pos (by omega)] | rw [if_neg (by omega), if_neg (by omega), if_neg (by omega), if_pos (by omega)] | rw [if_neg (by omega), if_neg (by omega), if_neg (by omega), if_neg (by omega)]) ?_
            refine zA_istore (lo1 := [zR 73, zI a, zI b, zI c, zI d, zI e, zI k, zI (if k < 4 then a else if k < 8 then b else if k < 12 then c else if k < 16 then d else e)]) dX12_feed_76 (by decide) rfl rfl ?_
            refine zA_aload_n dX12_feed_78 rfl ?_
            refine zA_getR (n := 84) dX12_feed_79 fX12_50 c73 rfl ?_
            refine zA_aload_n dX12_feed_82 rfl ?_
            refine zA_getI dX12_feed_83 fX12_189 c73 rfl ?_
            refine zA_valI (w1 73 12) rfl ?_
            refine zA_iload dX12_feed_86 rfl ?_
            refine zA_bipush dX12_feed_88 rfl ?_
            refine zA_bipush dX12_feed_90 rfl ?_
            refine zA_iload dX12_feed_92 rfl ?_
            refine zA_iconst dX12_feed_94 ?_
            refine zA_irem dX12_feed_95 (by first | assumption | omega) (by first | assumption | omega) (by first | assumption | omega) (by first | assumption | omega) ?_
            refine zA_imul dX12_feed_96 ?_
            refine zA_isub dX12_feed_97 ?_
            refine zA_ishr dX12_feed_98 ?_
            refine zA_sipush dX12_feed_99 rfl ?_
            refine zA_iand dX12_feed_102 ?_
            have hand : inR (iAnd (iShr (if k < 4 then a else if k < 8 then b else if k < 12 then c else if k < 16 then d else e) (24 - 8 * (k % 4))) 255) := iAnd_255b
            refine zA_iastore dX12_feed_103 (by first | assumption | exact hr _ _ | exact inR_mk (by omega) (by omega)) c84 (by first | assumption | omega) (by first | assumption | omega) (by decide) ?_
            refine zA_namew (fun w_10 hw_10 => ?_)
            refine zA_range (fun hr => ?_)
            replace hw_10 : w_10 = up w1 84 (w1 73 12) (iAnd (iShr (if k < 4 then a else if k < 8 then b else if k < 12 then c else if k < 16 then d else e) (24 - (8 * (k % 4)))) 255) := hw_10
            have e2 : w_10 73 12 = w1 73 12 := by rw [hw_10, up_cell _ _ _ _ (by decide)]
            refine zA_aload_n dX12_feed_104 rfl ?_
            refine zA_dup dX12_feed_105 rfl ?_
            refine zA_getI dX12_feed_106 fX12_189 c73 rfl ?_
            refine zA_valI (w_10 73 12) rfl ?_
            refine zA_iconst dX12_feed_109 ?_
            refine zA_iadd dX12_feed_110 ?_
            refine zA_putI dX12_feed_111 fX12_189 c73 rfl (by first | assumption | exact hr _ _ | exact inR_mk (by omega) (by omega)) ⟨rfl, rfl⟩ ?_
            refine zA_namew (fun w_11 hw_11 => ?_)
            refine zA_range (fun hr => ?_)
            replace hw_11 : w_11 = up w_10 73 12 ((w_10 73 12) + 1) := hw_11
            refine zA_iinc (lo1 := [zR 73, zI a, zI b, zI c, zI d, zI e, zI (k + 1), zI (if k < 4 then a else if k < 8 then b else if k < 12 then c else if k < 16 then d else e)]) dX12_feed_114 rfl (by decide) rfl rfl ?_
            refine zA_goto (tgt := 23) dX12_feed_117 (by decide) ?_
            refine zA_drop 7 (lo1 := [zR 73, zI a, zI b, zI c, zI d, zI e, zI (k + 1), .null]) rfl ?_
            exact ih23 (k + 1) _ (by omega) (by omega) (fun cc i a b => by rw [hw_11, up_ne b (by omega), hw_10, up_cell _ _ _ _ b]; exact hf cc i a b) (by rw [hw_11, up_idx _ _ _ _ (by decide), hw_10, up_cell _ _ _ _ (by decide)]; exact h1) (by rw [hw_11, up_same]; omega) (fun x a => by rw [hw_11, up_cell _ _ _ _ (by decide), hw_10, up_idx _ _ _ _ (by omega)]; exact hx x a) (fun j a b => by
                        rw [hw_11, up_cell _ _ _ _ (by decide), hw_10]
                        by_cases q : j = k
                        · rw [q, ← h12, up_same]; rfl
                        · rw [up_idx _ _ _ _ (by omega)]; exact hy j a (by omega)) (by omega)
    exact L23 _ 0 w_1 (by omega) (by omega) (fun cc i h _ => ef cc i (by omega)) e1 (by omega) (fun x _ => ef 84 x (Or.inl (by decide))) (fun j a b => by omega) (Nat.lt_succ_self _)
  · skip
    refine zA_iconst dX12_feed_18 ?_
    refine zA_iret dX12_feed_19 rfl ?_
    exact ⟨rfl, Or.inl ⟨by omega, rfl, hw_1⟩⟩

