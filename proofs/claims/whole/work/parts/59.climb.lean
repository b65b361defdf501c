/-! climbing, in the class; the bill -/
def rfR (ok : Prop) (wnd rule : Int) (nest up4 app mas : Prop) (lf cs k : Int) : Prop := (¬ ok ∧ k = 1) ∨ (ok ∧ rule < wnd ∧ k = 2) ∨ (ok ∧ wnd ≤ rule ∧ nest ∧ k = 3) ∨ (ok ∧ wnd ≤ rule ∧ ¬ nest ∧ up4 ∧ k = 4) ∨ (ok ∧ wnd ≤ rule ∧ ¬ nest ∧ ¬ up4 ∧ (app ∧ ¬ mas) ∧ k = 5) ∨ (ok ∧ wnd ≤ rule ∧ ¬ nest ∧ ¬ up4 ∧ ¬ (app ∧ ¬ mas) ∧ lf < cs ∧ k = 6) ∨ (ok ∧ wnd ≤ rule ∧ ¬ nest ∧ ¬ up4 ∧ ¬ (app ∧ ¬ mas) ∧ cs ≤ lf ∧ k = 0)
theorem rfR_b {ok nest up4 app mas : Prop} {wnd rule lf cs k : Int} (h : rfR ok wnd rule nest up4 app mas lf cs k) : 0 ≤ k ∧ k < 7 := by
  rcases h with ⟨_, h⟩ | ⟨_, _, h⟩ | ⟨_, _, _, h⟩ | ⟨_, _, _, _, h⟩ | ⟨_, _, _, _, _, h⟩ | ⟨_, _, _, _, _, _, h⟩ | ⟨_, _, _, _, _, _, h⟩ <;> omega
theorem rfR_0 {ok nest up4 app mas : Prop} {wnd rule lf cs k : Int} (h : rfR ok wnd rule nest up4 app mas lf cs k) (hk : k = 0) : ok ∧ cs ≤ lf := by
  rcases h with ⟨_, h⟩ | ⟨_, _, h⟩ | ⟨_, _, _, h⟩ | ⟨_, _, _, _, h⟩ | ⟨_, _, _, _, _, h⟩ | ⟨_, _, _, _, _, _, h⟩ | ⟨a, _, _, _, _, b, h⟩
  · omega
  · omega
  · omega
  · omega
  · omega
  · omega
  · exact ⟨a, b⟩
theorem up_ne {w : zW} {c0 c c1 : Nat} {i0 i v : Int} (a : c ≠ c1) (b : c ≠ c0 ∨ i ≠ i0) : up w c0 i0 v c i = w c i := by
  rcases b with b | b
  · exact up_cell _ _ _ _ b
  · by_cases e : c = c0
    · subst e; exact up_idx _ _ _ _ b
    · exact up_cell _ _ _ _ e
theorem iAnd_31 {z : Int} : iAnd z 31 = z % 32 := by
  have h := iAnd_m (z := z) 5 (by decide)
  rw [show (2 : Int) ^ 5 - 1 = 31 by decide, show (2 : Int) ^ 5 = 32 by decide] at h
  exact h
set_option maxRecDepth 100000 in
set_option maxHeartbeats 4000000 in
theorem s_bill {l : Launch} {t dr tx : Nat} {w : zW} (ht : t = 4 ∨ t = 10) {c x : Int} (hc : inR c) (hx : inR x) (hn : w t 5 ≤ 12) (hI : ∀ c : Int, 0 ≤ c → c < 12 → okOwn (w 70) (cP w c)) {N : Nat} (hN : 100000 ≤ N) : zSp l mX11_bill false 4 2 12 [zR 0, zI c, zI x] (ZZ t dr tx) w (fun v' S' w' => ((0 ≤ c ∧ c < w t 5) ∧ 1 ≤ x ∧ x ≤ 99999) ∧ S' = (ZZ t dr tx) ∧ frm [70, 72] w w' ∧ ∃ A, zAg (oAll N (cP w c) (w 70) x) A ∧ v' = some (zI A.2.2) ∧ ∀ o : Int, 0 ≤ o → o < 6 → w' 70 o = A.1 o ∧ w' 72 o = A.2.1 o) (zXp (¬ (0 ≤ c ∧ c < w t 5)) ((0 ≤ c ∧ c < w t 5) ∧ ¬ (1 ≤ x ∧ x ≤ 99999)) (ZZ t dr tx) w) := by
  refine zA_intro ⟨plainFor_of_name (by decide +kernel), Or.inl (by decide +kernel)⟩ rfl (Nat.le_of_ble_eq_true rfl) ?_
  refine zA_range (fun hr => ?_)
  show zA l mX11_bill false 4 2 12 (fun v' S' w' => ((0 ≤ c ∧ c < w t 5) ∧ 1 ≤ x ∧ x ≤ 99999) ∧ S' = (ZZ t dr tx) ∧ frm [70, 72] w w' ∧ ∃ A, zAg (oAll N (cP w c) (w 70) x) A ∧ v' = some (zI A.2.2) ∧ ∀ o : Int, 0 ≤ o → o < 6 → w' 70 o = A.1 o ∧ w' 72 o = A.2.1 o) (zXp (¬ (0 ≤ c ∧ c < w t 5)) ((0 ≤ c ∧ c < w t 5) ∧ ¬ (1 ≤ x ∧ x ≤ 99999)) (ZZ t dr tx) w) 0 [zR 0, zI c, zI x] [] (ZZ t dr tx) w
  refine zA_aload_n dX11_bill_0 rfl ?_
  refine zA_iload_n dX11_bill_1 rfl ?_
  refine zA_callV (bc2 := 1) (bs2 := 6) (st := []) dX11_bill_2 vX11_askChimney kX11_173 (s_askChimney (w := w) ht (c := c) (by first | assumption | exact hr _ _ | exact inR_mk (by omega) (by omega))) (by decide) rfl rfl (Nat.le_of_ble_eq_true rfl) c0 rfl ⟨rfl, rfl⟩ (zRa_el (fun h_2 => ?_)) (zXp_m rfl (fun h => by first | exact h.elim | omega) (fun h => by first | exact h.elim | omega))
  show zA l mX11_bill false 4 1 6 (fun v' S' w' => ((0 ≤ c ∧ c < w t 5) ∧ 1 ≤ x ∧ x ≤ 99999) ∧ S' = (ZZ t dr tx) ∧ frm [70, 72] w w' ∧ ∃ A, zAg (oAll N (cP w c) (w 70) x) A ∧ v' = some (zI A.2.2) ∧ ∀ o : Int, 0 ≤ o → o < 6 → w' 70 o = A.1 o ∧ w' 72 o = A.2.1 o) (zXp (¬ (0 ≤ c ∧ c < w t 5)) ((0 ≤ c ∧ c < w t 5) ∧ ¬ (1 ≤ x ∧ x ≤ 99999)) (ZZ t dr tx) w) 5 [zR 0, zI c, zI x] [] (ZZ t dr tx) w
  refine zA_iconst dX11_bill_5 ?_
  refine zA_iload_n dX11_bill_6 rfl ?_
  refine zA_ldcw dX11_bill_7 qX11_443 ?_
  refine zA_cS (st := []) dX11_bill_10 sX11_between kX11_213 (s_between (w := w) (a := 1) (b := x) (e := 99999) ⟨by decide, by decide⟩ (by first | assumption | exact hr _ _ | exact inR_mk (by omega) (by omega)) ⟨by decide, by decide⟩) (by decide) rfl rfl (Nat.le_of_ble_eq_true rfl) (zRt_el ?_)
  show zA l mX11_bill false 4 1 6 (fun v' S' w' => ((0 ≤ c ∧ c < w t 5) ∧ 1 ≤ x ∧ x ≤ 99999) ∧ S' = (ZZ t dr tx) ∧ frm [70, 72] w w' ∧ ∃ A, zAg (oAll N (cP w c) (w 70) x) A ∧ v' = some (zI A.2.2) ∧ ∀ o : Int, 0 ≤ o → o < 6 → w' 70 o = A.1 o ∧ w' 72 o = A.2.1 o) (zXp (¬ (0 ≤ c ∧ c < w t 5)) ((0 ≤ c ∧ c < w t 5) ∧ ¬ (1 ≤ x ∧ x ≤ 99999)) (ZZ t dr tx) w) 13 [zR 0, zI c, zI x] [zI (if 1 ≤ x ∧ x ≤ 99999 then 1 else 0)] (ZZ t dr tx) w
  refine zA_if_ne (tgt := 27) dX11_bill_13 (by decide) (inR_ite _) (fun c13 => ?_) (fun c13 => ?_)
  · skip
    replace c13 := zite_ne c13
    refine zA_aload_n dX11_bill_27 rfl ?_
    refine zA_getR (n := 69) dX11_bill_28 fX11_99 c0 rfl ?_
    refine zA_iload_n dX11_bill_31 rfl ?_
    refine zA_iload_n dX11_bill_32 rfl ?_
    refine zA_cV (st := []) dX11_bill_33 vX5_settle kX11_446 (s_settle (w := w) (c := c) (x := x) (hI c (by omega) (by omega)) (by omega) (by omega) (by omega) (by omega) hN) (by decide) c69 rfl rfl (Nat.le_of_ble_eq_true rfl) rfl (fun q_1_v q_1_S q_1_w q_1 => ?_)
    obtain ⟨A, hA, rfl, rfl, hfr, hao⟩ := q_1
    refine zA_range (fun hr => ?_)
    show zA l mX11_bill false 4 1 6 (fun v' S' w' => ((0 ≤ c ∧ c < w t 5) ∧ 1 ≤ x ∧ x ≤ 99999) ∧ S' = (ZZ t dr tx) ∧ frm [70, 72] w w' ∧ ∃ A, zAg (oAll N (cP w c) (w 70) x) A ∧ v' = some (zI A.2.2) ∧ ∀ o : Int, 0 ≤ o → o < 6 → w' 70 o = A.1 o ∧ w' 72 o = A.2.1 o) (zXp (¬ (0 ≤ c ∧ c < w t 5)) ((0 ≤ c ∧ c < w t 5) ∧ ¬ (1 ≤ x ∧ x ≤ 99999)) (ZZ t dr tx) w) 36 [zR 0, zI c, zI x] [zI (A.2.2)] (ZZ t dr tx) q_1_w
    refine zA_iret dX11_bill_36 rfl ?_
    exact ⟨by omega, rfl, hfr, A, hA, rfl, hao⟩
  · skip
    replace c13 := zite_eq c13
    refine zA_throw (sa := 1122) (zIAE_w dX11_bill_16 dX11_bill_19 ⟨dX11_bill_20, dX11_bill_23, dX11_bill_26⟩) (List.mem_of_getElem? (i := 22) rfl) rfl rfl (Nat.le_of_ble_eq_true rfl) (by decide) ?_
    exact ⟨Or.inr ⟨rfl, by omega⟩, rfl, rfl⟩

set_option maxRecDepth 100000 in
set_option maxHeartbeats 4000000 in
theorem s_isUp {l : Launch} {t dr tx : Nat} {w : zW} (hmu : ∀ x : Int, 0 ≤ x → x < 360 → 0 ≤ w 46 x ∧ w 46 x < 1024) {m d : Int} (m0 : 0 ≤ m) (m1 : m < 10) (d0 : 0 ≤ d) (d1 : d < 30) : zSp l mX0_isUp false 1 0 0 [zR 44, zI m, zI d] (ZZ t dr tx) w (zRp1 (isB (∃ ch : Int, (0 ≤ ch ∧ ch < 12) ∧ tb (w 46 (ch * 30 + d)) m = true)) (ZZ t dr tx) w) zNo := by
  refine zA_intro ⟨plainFor_of_name (by decide +kernel), Or.inl (by decide +kernel)⟩ rfl (Nat.le_of_ble_eq_true rfl) ?_
  refine zA_range (fun hr => ?_)
  show zA l mX0_isUp false 1 0 0 (zRp1 (isB (∃ ch : Int, (0 ≤ ch ∧ ch < 12) ∧ tb (w 46 (ch * 30 + d)) m = true)) (ZZ t dr tx) w) zNo 0 [zR 44, zI m, zI d, .null] [] (ZZ t dr tx) w
  refine zA_iconst dX0_isUp_0 ?_
  refine zA_istore_n (lo1 := [zR 44, zI m, zI d, zI 0]) dX0_isUp_1 (by decide) rfl rfl ?_
  have L2 : ∀ (z2 : Nat) (k : Int) (k0 : 0 ≤ k) (k1 : k ≤ 12) (hk : ∀ j : Int, 0 ≤ j → j < k → tb (w 46 (j * 30 + d)) m = false) (zm : (12 - k).toNat < z2), zA l mX0_isUp false 1 0 0 (zRp1 (isB (∃ ch : Int, (0 ≤ ch ∧ ch < 12) ∧ tb (w 46 (ch * 30 + d)) m = true)) (ZZ t dr tx) w) zNo 2 [zR 44, zI m, zI d, zI k] [] (ZZ t dr tx) w := by
    intro z2
    induction z2 with
    | zero => intro k k0 k1 hk zm; exact absurd zm (Nat.not_lt_zero _)
    | succ z2 ih2 =>
      intro k k0 k1 hk zm
      refine zA_iload_n dX0_isUp_2 rfl ?_
      refine zA_bipush dX0_isUp_3 rfl ?_
      refine zA_icmp_ge (tgt := 34) dX0_isUp_5 (by decide) (by first | assumption | exact hr _ _ | exact inR_mk (by omega) (by omega)) ⟨by decide, by decide⟩ (fun c5 => ?_) (fun c5 => ?_)
      · skip
        refine zA_iconst dX0_isUp_34 ?_
        refine zA_zret dX0_isUp_35 rfl (Or.inl rfl) ?_
        exact ⟨⟨_, rfl, Or.inr ⟨rfl, fun ⟨j, a, b⟩ => by rw [hk j a.1 (by omega)] at b; cases b⟩⟩, rfl, rfl⟩
      · skip
        refine zA_aload_n dX0_isUp_8 rfl ?_
        refine zA_getR (n := 46) dX0_isUp_9 fX0_19 c44 rfl ?_
        refine zA_iload_n dX0_isUp_12 rfl ?_
        refine zA_bipush dX0_isUp_13 rfl ?_
        refine zA_imul dX0_isUp_15 ?_
        refine zA_iload_n dX0_isUp_16 rfl ?_
        refine zA_iadd dX0_isUp_17 ?_
        refine zA_iaload dX0_isUp_18 c46 (by first | assumption | omega) (by first | assumption | omega) (by decide) ?_
        refine zA_iload_n dX0_isUp_19 rfl ?_
        refine zA_ishr dX0_isUp_20 ?_
        refine zA_iconst dX0_isUp_21 ?_
        refine zA_iand dX0_isUp_22 ?_
        refine zA_valI (if tb (w 46 (k * 30 + d)) m = true then 1 else 0) (tb_get (hmu _ (by omega) (by omega)).1 (by have := (hmu (k * 30 + d) (by omega) (by omega)).2; omega) m0 (by omega)) ?_
        refine zA_if_eq (tgt := 28) dX0_isUp_23 (by decide) (inR_ite _) (fun c23 => ?_) (fun c23 => ?_)
        · skip
          replace c23 := zite_eq c23
          refine zA_iinc (lo1 := [zR 44, zI m, zI d, zI (k + 1)]) dX0_isUp_28 rfl (by decide) rfl rfl ?_
          refine zA_goto (tgt := 2) dX0_isUp_31 (by decide) ?_
          exact ih2 (k + 1) (by omega) (by omega) (fun j a b => by
                      by_cases e : j = k
                      · rw [e]; simpa using c23
                      · exact hk j a (by omega)) (by omega)
        · skip
          replace c23 := zite_ne c23
          refine zA_iconst dX0_isUp_26 ?_
          refine zA_zret dX0_isUp_27 rfl (Or.inr rfl) ?_
          exact ⟨⟨_, rfl, Or.inl ⟨rfl, k, ⟨k0, by omega⟩, c23⟩⟩, rfl, rfl⟩
  exact L2 _ 0 (by omega) (by omega) (fun j a b => by omega) (Nat.lt_succ_self _)

set_option maxRecDepth 100000 in
set_option maxHeartbeats 4000000 in
theorem s_hasMaster {l : Launch} {t dr tx : Nat} {w : zW} {c d : Int} (c0 : 0 ≤ c) (c1 : c < 12) (d0 : 0 ≤ d) (d1 : d < 30) : zSp l mX0_hasMaster false 1 0 0 [zR 44, zI c, zI d] (ZZ t dr tx) w (zRt (some (zI (if w 46 (c * 30 + d) % 32 ≠ 0 then 1 else 0))) (ZZ t dr tx) w) zNo := by
  refine zA_intro ⟨plainFor_of_name (by decide +kernel), Or.inl (by decide +kernel)⟩ rfl (Nat.le_of_ble_eq_true rfl) ?_
  refine zA_range (fun hr => ?_)
  show zA l mX0_hasMaster false 1 0 0 (zRt (some (zI (if w 46 (c * 30 + d) % 32 ≠ 0 then 1 else 0))) (ZZ t dr tx) w) zNo 0 [zR 44, zI c, zI d] [] (ZZ t dr tx) w
  refine zA_aload_n dX0_hasMaster_0 rfl ?_
  refine zA_getR (n := 46) dX0_hasMaster_1 fX0_19 c44 rfl ?_
  refine zA_iload_n dX0_hasMaster_4 rfl ?_
  refine zA_bipush dX0_hasMaster_5 rfl ?_
  refine zA_imul dX0_hasMaster_7 ?_
  refine zA_iload_n dX0_hasMaster_8 rfl ?_
  refine zA_iadd dX0_hasMaster_9 ?_
  refine zA_iaload dX0_hasMaster_10 c46 (by first | assumption | omega) (by first | assumption | omega) (by decide) ?_
  refine zA_bipush dX0_hasMaster_11 rfl ?_
  refine zA_iand dX0_hasMaster_13 ?_
  refine zA_valI (w 46 (c * 30 + d) % 32) (iAnd_31) ?_
  refine zA_if_eq (tgt := 21) dX0_hasMaster_14 (by decide) (by first | assumption | exact hr _ _ | exact inR_mk (by omega) (by omega)) (fun c14 => ?_) (fun c14 => ?_)
  · skip
    refine zA_iconst dX0_hasMaster_21 ?_
    refine zA_zret dX0_hasMaster_22 rfl (Or.inl rfl) ?_
    exact zRt_i (by split <;> first | rfl | omega)
  · skip
    refine zA_iconst dX0_hasMaster_17 ?_
    refine zA_goto (tgt := 22) dX0_hasMaster_18 (by decide) ?_
    refine zA_zret dX0_hasMaster_22 rfl (Or.inr rfl) ?_
    exact zRt_i (by split <;> first | rfl | omega)

set_option maxRecDepth 100000 in
set_option maxHeartbeats 4000000 in
theorem s_refusal {l : Launch} {t dr tx : Nat} {w : zW} (ht : t = 4 ∨ t = 10) (hn0 : 0 ≤ w t 5) (hn : w t 5 ≤ 12) (hr0 : 0 ≤ w 44 1) (hr1 : w 44 1 ≤ 20) (hne : ∀ c : Int, 0 ≤ c → c < 12 → 0 ≤ w (t + 5) c ∧ w (t + 5) c < 1073741824) (hmu : ∀ x : Int, 0 ≤ x → x < 360 → 0 ≤ w 46 x ∧ w 46 x < 1024) {m c r d : Int} (hm : inR m) (hc : inR c) (hrr : inR r) (hd : inR d) : zSp l mX11_refusal false 3 0 0 [zR 0, zI m, zI c, zI r, zI d] (ZZ t dr tx) w (zRp1 (rfR ((0 ≤ m ∧ m ≤ 9) ∧ (0 ≤ c ∧ c < w t 5) ∧ (0 ≤ r ∧ r < w 44 1) ∧ 0 ≤ d ∧ d ≤ 29) (w (t + 3) d) (w 44 4) (tb (w (t + 5) c) d = true) (∃ ch : Int, (0 ≤ ch ∧ ch < 12) ∧ tb (w 46 (ch * 30 + d)) m = true) (5 ≤ m) (w 46 (c * 30 + d) % 32 ≠ 0) (w 45 r) (w (t + 1) c)) (ZZ t dr tx) w) zNo := by
  refine zA_intro ⟨plainFor_of_name (by decide +kernel), Or.inl (by decide +kernel)⟩ rfl (Nat.le_of_ble_eq_true rfl) ?_
  refine zA_range (fun hr => ?_)
  show zA l mX11_refusal false 3 0 0 (zRp1 (rfR ((0 ≤ m ∧ m ≤ 9) ∧ (0 ≤ c ∧ c < w t 5) ∧ (0 ≤ r ∧ r < w 44 1) ∧ 0 ≤ d ∧ d ≤ 29) (w (t + 3) d) (w 44 4) (tb (w (t + 5) c) d = true) (∃ ch : Int, (0 ≤ ch ∧ ch < 12) ∧ tb (w 46 (ch * 30 + d)) m = true) (5 ≤ m) (w 46 (c * 30 + d) % 32 ≠ 0) (w 45 r) (w (t + 1) c)) (ZZ t dr tx) w) zNo 0 [zR 0, zI m, zI c, zI r, zI d] [] (ZZ t dr tx) w
  refine zA_iconst dX11_refusal_0 ?_
  refine zA_iload_n dX11_refusal_1 rfl ?_
  refine zA_bipush dX11_refusal_2 rfl ?_
  refine zA_cS (st := []) dX11_refusal_4 sX11_between kX11_213 (s_between (w := w) (a := 0) (b := m) (e := 9) ⟨by decide, by decide⟩ (by first | assumption | exact hr _ _ | exact inR_mk (by omega) (by omega)) ⟨by decide, by decide⟩) (by decide) rfl rfl (Nat.le_of_ble_eq_true rfl) (zRt_el ?_)
  show zA l mX11_refusal false 3 0 0 (zRp1 (rfR ((0 ≤ m ∧ m ≤ 9) ∧ (0 ≤ c ∧ c < w t 5) ∧ (0 ≤ r ∧ r < w 44 1) ∧ 0 ≤ d ∧ d ≤ 29) (w (t + 3) d) (w 44 4) (tb (w (t + 5) c) d = true) (∃ ch : Int, (0 ≤ ch ∧ ch < 12) ∧ tb (w 46 (ch * 30 + d)) m = true) (5 ≤ m) (w 46 (c * 30 + d) % 32 ≠ 0) (w 45 r) (w (t + 1) c)) (ZZ t dr tx) w) zNo 7 [zR 0, zI m, zI c, zI r, zI d] [zI (if 0 ≤ m ∧ m ≤ 9 then 1 else 0)] (ZZ t dr tx) w
  refine zA_if_eq (tgt := 55) dX11_refusal_7 (by decide) (inR_ite _) (fun c7 => ?_) (fun c7 => ?_)
  · skip
    replace c7 := zite_eq c7
    refine zA_iconst dX11_refusal_55 ?_
    refine zA_iret dX11_refusal_56 rfl ?_
    exact ⟨⟨_, rfl, Or.inl ⟨by omega, rfl⟩⟩, rfl, rfl⟩
  · skip
    replace c7 := zite_ne c7
    refine zA_iconst dX11_refusal_10 ?_
    refine zA_iload_n dX11_refusal_11 rfl ?_
    refine zA_aload_n dX11_refusal_12 rfl ?_
    refine zA_getR (n := t) dX11_refusal_13 fX11_30 c0 rfl ?_
    refine zA_getI dX11_refusal_16 fX11_136 (cY0 ht) rfl ?_
    refine zA_valI (w t 5) rfl ?_
    refine zA_iconst dX11_refusal_19 ?_
    refine zA_isub dX11_refusal_20 ?_
    refine zA_cS (st := []) dX11_refusal_21 sX11_between kX11_213 (s_between (w := w) (a := 0) (b := c) (e := ((w t 5) - 1)) ⟨by decide, by decide⟩ (by first | assumption | exact hr _ _ | exact inR_mk (by omega) (by omega)) (by first | assumption | exact hr _ _ | exact inR_mk (by omega) (by omega))) (by decide) rfl rfl (Nat.le_of_ble_eq_true rfl) (zRt_el ?_)
    show zA l mX11_refusal false 3 0 0 (zRp1 (rfR ((0 ≤ m ∧ m ≤ 9) ∧ (0 ≤ c ∧ c < w t 5) ∧ (0 ≤ r ∧ r < w 44 1) ∧ 0 ≤ d ∧ d ≤ 29) (w (t + 3) d) (w 44 4) (tb (w (t + 5) c) d = true) (∃ ch : Int, (0 ≤ ch ∧ ch < 12) ∧ tb (w 46 (ch * 30 + d)) m = true) (5 ≤ m) (w 46 (c * 30 + d) % 32 ≠ 0) (w 45 r) (w (t + 1) c)) (ZZ t dr tx) w) zNo 24 [zR 0, zI m, zI c, zI r, zI d] [zI (if 0 ≤ c ∧ c ≤ ((w t 5) - 1) then 1 else 0)] (ZZ t dr tx) w
    refine zA_if_eq (tgt := 55) dX11_refusal_24 (by decide) (inR_ite _) (fun c24 => ?_) (fun c24 => ?_)
    · skip
      replace c24 := zite_eq c24
      refine zA_iconst dX11_refusal_55 ?_
      refine zA_iret dX11_refusal_56 rfl ?_
      exact ⟨⟨_, rfl, Or.inl ⟨by omega, rfl⟩⟩, rfl, rfl⟩
    · skip
      replace c24 := zite_ne c24
      refine zA_iconst dX11_refusal_27 ?_
      refine zA_iload_n dX11_refusal_28 rfl ?_
      refine zA_aload_n dX11_refusal_29 rfl ?_
      refine zA_getR (n := 44) dX11_refusal_30 fX11_71 c0 rfl ?_
      refine zA_getI dX11_refusal_33 fX11_148 c44 rfl ?_
      refine zA_valI (w 44 1) rfl ?_
      refine zA_iconst dX11_refusal_36 ?_
      refine zA_isub dX11_refusal_37 ?_
      refine zA_cS (st := []) dX11_refusal_38 sX11_between kX11_213 (s_between (w := w) (a := 0) (b := r) (e := ((w 44 1) - 1)) ⟨by decide, by decide⟩ (by first | assumption | exact hr _ _ | exact inR_mk (by omega) (by omega)) (by first | assumption | exact hr _ _ | exact inR_mk (by omega) (by omega))) (by decide) rfl rfl (Nat.le_of_ble_eq_true rfl) (zRt_el ?_)
      show zA l mX11_refusal false 3 0 0 (zRp1 (rfR ((0 ≤ m ∧ m ≤ 9) ∧ (0 ≤ c ∧ c < w t 5) ∧ (0 ≤ r ∧ r < w 44 1) ∧ 0 ≤ d ∧ d ≤ 29) (w (t + 3) d) (w 44 4) (tb (w (t + 5) c) d = true) (∃ ch : Int, (0 ≤ ch ∧ ch < 12) ∧ tb (w 46 (ch * 30 + d)) m = true) (5 ≤ m) (w 46 (c * 30 + d) % 32 ≠ 0) (w 45 r) (w (t + 1) c)) (ZZ t dr tx) w) zNo 41 [zR 0, zI m, zI c, zI r, zI d] [zI (if 0 ≤ r ∧ r ≤ ((w 44 1) - 1) then 1 else 0)] (ZZ t dr tx) w
      refine zA_if_eq (tgt := 55) dX11_refusal_41 (by decide) (inR_ite _) (fun c41 => ?_) (fun c41 => ?_)
      · skip
        replace c41 := zite_eq c41
        refine zA_iconst dX11_refusal_55 ?_
        refine zA_iret dX11_refusal_56 rfl ?_
        exact ⟨⟨_, rfl, Or.inl ⟨by omega, rfl⟩⟩, rfl, rfl⟩
      · skip
        replace c41 := zite_ne c41
        refine zA_iconst dX11_refusal_44 ?_
        refine zA_iload dX11_refusal_45 rfl ?_
        refine zA_bipush dX11_refusal_47 rfl ?_
        refine zA_cS (st := []) dX11_refusal_49 sX11_between kX11_213 (s_between (w := w) (a := 0) (b := d) (e := 29) ⟨by decide, by decide⟩ (by first | assumption | exact hr _ _ | exact inR_mk (by omega) (by omega)) ⟨by decide, by decide⟩) (by decide) rfl rfl (Nat.le_of_ble_eq_true rfl) (zRt_el ?_)
        show zA l mX11_refusal false 3 0 0 (zRp1 (rfR ((0 ≤ m ∧ m ≤ 9) ∧ (0 ≤ c ∧ c < w t 5) ∧ (0 ≤ r ∧ r < w 44 1) ∧ 0 ≤ d ∧ d ≤ 29) (w (t + 3) d) (w 44 4) (tb (w (t + 5) c) d = true) (∃ ch : Int, (0 ≤ ch ∧ ch < 12) ∧ tb (w 46 (ch * 30 + d)) m = true) (5 ≤ m) (w 46 (c * 30 + d) % 32 ≠ 0) (w 45 r) (w (t + 1) c)) (ZZ t dr tx) w) zNo 52 [zR 0, zI m, zI c, zI r, zI d] [zI (if 0 ≤ d ∧ d ≤ 29 then 1 else 0)] (ZZ t dr tx) w
        refine zA_if_ne (tgt := 57) dX11_refusal_52 (by decide) (inR_ite _) (fun c52 => ?_) (fun c52 => ?_)
        · skip
          replace c52 := zite_ne c52
          refine zA_aload_n dX11_refusal_57 rfl ?_
          refine zA_getR (n := t) dX11_refusal_58 fX11_30 c0 rfl ?_
          refine zA_getR (n := (t + 3)) dX11_refusal_61 fX11_353 (cY0 ht) rfl ?_
          refine zA_iload dX11_refusal_64 rfl ?_
          refine zA_iaload dX11_refusal_66 (cY3 ht) (by first | assumption | omega) (by first | assumption | omega) (by decide) ?_
          refine zA_aload_n dX11_refusal_67 rfl ?_
          refine zA_getR (n := 44) dX11_refusal_68 fX11_71 c0 rfl ?_
          refine zA_getI dX11_refusal_71 fX11_154 c44 rfl ?_
          refine zA_valI (w 44 4) rfl ?_
          refine zA_icmp_le (tgt := 79) dX11_refusal_74 (by decide) (by first | assumption | exact hr _ _ | exact inR_mk (by omega) (by omega)) (by first | assumption | exact hr _ _ | exact inR_mk (by omega) (by omega)) (fun c74 => ?_) (fun c74 => ?_)
          · skip
            refine zA_aload_n dX11_refusal_79 rfl ?_
            refine zA_getR (n := t) dX11_refusal_80 fX11_30 c0 rfl ?_
            refine zA_iload_n dX11_refusal_83 rfl ?_
            refine zA_iload dX11_refusal_84 rfl ?_
            refine zA_cV (st := []) dX11_refusal_86 vX10_hasNest kX11_356 (s_hasNest (w := w) (a := c) (d := d) ht (by omega) (by omega) (by omega) (by omega) (hne c (by omega) (by omega)).1 (hne c (by omega) (by omega)).2) (by decide) (cY0 ht) rfl rfl (Nat.le_of_ble_eq_true rfl) rfl (zRt_el ?_)
            show zA l mX11_refusal false 3 0 0 (zRp1 (rfR ((0 ≤ m ∧ m ≤ 9) ∧ (0 ≤ c ∧ c < w t 5) ∧ (0 ≤ r ∧ r < w 44 1) ∧ 0 ≤ d ∧ d ≤ 29) (w (t + 3) d) (w 44 4) (tb (w (t + 5) c) d = true) (∃ ch : Int, (0 ≤ ch ∧ ch < 12) ∧ tb (w 46 (ch * 30 + d)) m = true) (5 ≤ m) (w 46 (c * 30 + d) % 32 ≠ 0) (w 45 r) (w (t + 1) c)) (ZZ t dr tx) w) zNo 89 [zR 0, zI m, zI c, zI r, zI d] [zI (if tb (w (t + 5) c) d = true then 1 else 0)] (ZZ t dr tx) w
            refine zA_if_eq (tgt := 94) dX11_refusal_89 (by decide) (inR_ite _) (fun c89 => ?_) (fun c89 => ?_)
            · skip
              replace c89 := zite_eq c89
              refine zA_aload_n dX11_refusal_94 rfl ?_
              refine zA_getR (n := 44) dX11_refusal_95 fX11_71 c0 rfl ?_
              refine zA_iload_n dX11_refusal_98 rfl ?_
              refine zA_iload dX11_refusal_99 rfl ?_
              refine zA_cV (st := []) dX11_refusal_101 vX0_isUp kX11_359 (s_isUp (w := w) hmu (m := m) (d := d) (by omega) (by omega) (by omega) (by omega)) (by decide) c44 rfl rfl (Nat.le_of_ble_eq_true rfl) rfl (zRp1_el (fun iu hiu => ?_))
              have hiur := isB_R hiu
              refine zA_if_eq (tgt := 109) dX11_refusal_104 (by decide) (by first | assumption | exact hr _ _ | exact inR_mk (by omega) (by omega)) (fun c104 => ?_) (fun c104 => ?_)
              · skip
                refine zA_iload_n dX11_refusal_109 rfl ?_
                refine zA_iconst dX11_refusal_110 ?_
                refine zA_icmp_lt (tgt := 129) dX11_refusal_111 (by decide) (by first | assumption | exact hr _ _ | exact inR_mk (by omega) (by omega)) ⟨by decide, by decide⟩ (fun c111 => ?_) (fun c111 => ?_)
                · skip
                  refine zA_aload_n dX11_refusal_129 rfl ?_
                  refine zA_getR (n := 44) dX11_refusal_130 fX11_71 c0 rfl ?_
                  refine zA_getR (n := 45) dX11_refusal_133 fX11_331 c44 rfl ?_
                  refine zA_iload_n dX11_refusal_136 rfl ?_
                  refine zA_iaload dX11_refusal_137 c45 (by first | assumption | omega) (by first | assumption | omega) (by decide) ?_
                  refine zA_aload_n dX11_refusal_138 rfl ?_
                  refine zA_getR (n := t) dX11_refusal_139 fX11_30 c0 rfl ?_
                  refine zA_getR (n := (t + 1)) dX11_refusal_142 fX11_346 (cY0 ht) rfl ?_
                  refine zA_iload_n dX11_refusal_145 rfl ?_
                  refine zA_iaload dX11_refusal_146 (cY1 ht) (by first | assumption | omega) (by first | assumption | omega) (by decide) ?_
                  refine zA_icmp_ge (tgt := 155) dX11_refusal_147 (by decide) (by first | assumption | exact hr _ _ | exact inR_mk (by omega) (by omega)) (by first | assumption | exact hr _ _ | exact inR_mk (by omega) (by omega)) (fun c147 => ?_) (fun c147 => ?_)
                  · skip
                    refine zA_iconst dX11_refusal_155 ?_
                    refine zA_iret dX11_refusal_156 rfl ?_
                    have hnm : ¬ (5 ≤ m ∧ ¬ (w 46 (c * 30 + d) % 32 ≠ 0)) := fun h => by first | omega | exact h.2 c124
                    have hnu := isB_eq hiu c104
                    exact ⟨⟨_, rfl, Or.inr (Or.inr (Or.inr (Or.inr (Or.inr (Or.inr ⟨by clear hnu; omega, by clear hnu; omega, c89, hnu, hnm, by clear hnu; omega, rfl⟩)))))⟩, rfl, rfl⟩
                  · skip
                    refine zA_bipush dX11_refusal_150 rfl ?_
                    refine zA_goto (tgt := 156) dX11_refusal_152 (by decide) ?_
                    refine zA_iret dX11_refusal_156 rfl ?_
                    have hnm : ¬ (5 ≤ m ∧ ¬ (w 46 (c * 30 + d) % 32 ≠ 0)) := fun h => by first | omega | exact h.2 c124
                    have hnu := isB_eq hiu c104
                    exact ⟨⟨_, rfl, Or.inr (Or.inr (Or.inr (Or.inr (Or.inr (Or.inl ⟨by clear hnu; omega, by clear hnu; omega, c89, hnu, hnm, by clear hnu; omega, rfl⟩)))))⟩, rfl, rfl⟩
                · skip
                  refine zA_aload_n dX11_refusal_114 rfl ?_
                  refine zA_getR (n := 44) dX11_refusal_115 fX11_71 c0 rfl ?_
                  refine zA_iload_n dX11_refusal_118 rfl ?_
                  refine zA_iload dX11_refusal_119 rfl ?_
                  refine zA_cV (st := []) dX11_refusal_121 vX0_hasMaster kX11_362 (s_hasMaster (w := w) (c := c) (d := d) (by omega) (by omega) (by omega) (by omega)) (by decide) c44 rfl rfl (Nat.le_of_ble_eq_true rfl) rfl (zRt_el ?_)
                  show zA l mX11_refusal false 3 0 0 (zRp1 (rfR ((0 ≤ m ∧ m ≤ 9) ∧ (0 ≤ c ∧ c < w t 5) ∧ (0 ≤ r ∧ r < w 44 1) ∧ 0 ≤ d ∧ d ≤ 29) (w (t + 3) d) (w 44 4) (tb (w (t + 5) c) d = true) (∃ ch : Int, (0 ≤ ch ∧ ch < 12) ∧ tb (w 46 (ch * 30 + d)) m = true) (5 ≤ m) (w 46 (c * 30 + d) % 32 ≠ 0) (w 45 r) (w (t + 1) c)) (ZZ t dr tx) w) zNo 124 [zR 0, zI m, zI c, zI r, zI d] [zI (if w 46 (c * 30 + d) % 32 ≠ 0 then 1 else 0)] (ZZ t dr tx) w
                  refine zA_if_ne (tgt := 129) dX11_refusal_124 (by decide) (inR_ite _) (fun c124 => ?_) (fun c124 => ?_)
                  · skip
                    replace c124 := zite_ne c124
                    refine zA_aload_n dX11_refusal_129 rfl ?_
                    refine zA_getR (n := 44) dX11_refusal_130 fX11_71 c0 rfl ?_
                    refine zA_getR (n := 45) dX11_refusal_133 fX11_331 c44 rfl ?_
                    refine zA_iload_n dX11_refusal_136 rfl ?_
                    refine zA_iaload dX11_refusal_137 c45 (by first | assumption | omega) (by first | assumption | omega) (by decide) ?_
                    refine zA_aload_n dX11_refusal_138 rfl ?_
                    refine zA_getR (n := t) dX11_refusal_139 fX11_30 c0 rfl ?_
                    refine zA_getR (n := (t + 1)) dX11_refusal_142 fX11_346 (cY0 ht) rfl ?_
                    refine zA_iload_n dX11_refusal_145 rfl ?_
                    refine zA_iaload dX11_refusal_146 (cY1 ht) (by first | assumption | omega) (by first | assumption | omega) (by decide) ?_
                    refine zA_icmp_ge (tgt := 155) dX11_refusal_147 (by decide) (by first | assumption | exact hr _ _ | exact inR_mk (by omega) (by omega)) (by first | assumption | exact hr _ _ | exact inR_mk (by omega) (by omega)) (fun c147 => ?_) (fun c147 => ?_)
                    · skip
                      refine zA_iconst dX11_refusal_155 ?_
                      refine zA_iret dX11_refusal_156 rfl ?_
                      have hnm : ¬ (5 ≤ m ∧ ¬ (w 46 (c * 30 + d) % 32 ≠ 0)) := fun h => by first | omega | exact h.2 c124
                      have hnu := isB_eq hiu c104
                      exact ⟨⟨_, rfl, Or.inr (Or.inr (Or.inr (Or.inr (Or.inr (Or.inr ⟨by clear hnu; omega, by clear hnu; omega, c89, hnu, hnm, by clear hnu; omega, rfl⟩)))))⟩, rfl, rfl⟩
                    · skip
                      refine zA_bipush dX11_refusal_150 rfl ?_
                      refine zA_goto (tgt := 156) dX11_refusal_152 (by decide) ?_
                      refine zA_iret dX11_refusal_156 rfl ?_
                      have hnm : ¬ (5 ≤ m ∧ ¬ (w 46 (c * 30 + d) % 32 ≠ 0)) := fun h => by first | omega | exact h.2 c124
                      have hnu := isB_eq hiu c104
                      exact ⟨⟨_, rfl, Or.inr (Or.inr (Or.inr (Or.inr (Or.inr (Or.inl ⟨by clear hnu; omega, by clear hnu; omega, c89, hnu, hnm, by clear hnu; omega, rfl⟩)))))⟩, rfl, rfl⟩
                  · skip
                    replace c124 := zite_eq c124
                    refine zA_iconst dX11_refusal_127 ?_
                    refine zA_iret dX11_refusal_128 rfl ?_
                    exact ⟨⟨_, rfl, Or.inr (Or.inr (Or.inr (Or.inr (Or.inl ⟨by omega, by omega, c89, isB_eq hiu c104, ⟨by omega, c124⟩, rfl⟩))))⟩, rfl, rfl⟩
              · skip
                refine zA_iconst dX11_refusal_107 ?_
                refine zA_iret dX11_refusal_108 rfl ?_
                exact ⟨⟨_, rfl, Or.inr (Or.inr (Or.inr (Or.inl ⟨by omega, by omega, c89, isB_ne hiu c104, rfl⟩)))⟩, rfl, rfl⟩
            · skip
              replace c89 := zite_ne c89
              refine zA_iconst dX11_refusal_92 ?_
              refine zA_iret dX11_refusal_93 rfl ?_
              exact ⟨⟨_, rfl, Or.inr (Or.inr (Or.inl ⟨by omega, by omega, c89, rfl⟩))⟩, rfl, rfl⟩
          · skip
            refine zA_iconst dX11_refusal_77 ?_
            refine zA_iret dX11_refusal_78 rfl ?_
            exact ⟨⟨_, rfl, Or.inr (Or.inl ⟨by omega, by omega, rfl⟩)⟩, rfl, rfl⟩
        · skip
          replace c52 := zite_eq c52
          refine zA_iconst dX11_refusal_55 ?_
          refine zA_iret dX11_refusal_56 rfl ?_
          exact ⟨⟨_, rfl, Or.inl ⟨by omega, rfl⟩⟩, rfl, rfl⟩

set_option maxRecDepth 100000 in
set_option maxHeartbeats 4000000 in
theorem s_goUp {l : Launch} {t dr tx : Nat} {w : zW} (hmu : ∀ x : Int, 0 ≤ x → x < 360 → 0 ≤ w 46 x ∧ w 46 x < 1024) {m c r d cs : Int} (m0 : 0 ≤ m) (m1 : m < 10) (c0 : 0 ≤ c) (c1 : c < 12) (r0 : 0 ≤ r) (r1 : r < 20) (d0 : 0 ≤ d) (d1 : d < 30) (s0 : 0 ≤ cs) (s1 : cs ≤ 200) (l0 : 0 ≤ w 45 r) (l1 : w 45 r ≤ 200000) (k0 : 0 ≤ w 44 6) (k1 : w 44 6 ≤ 50) : zSp l mX0_goUp false 1 0 0 [zR 44, zI m, zI c, zI r, zI d, zI cs] (ZZ t dr tx) w (fun v' S' w' => v' = none ∧ S' = (ZZ t dr tx) ∧ (∀ cc i, cc ≠ 45 → cc ≠ 46 → cc ≠ 48 → (cc ≠ 44 ∨ i ≠ 6) → w' cc i = w cc i) ∧ (∀ x : Int, w' 45 x = if x = r then w 45 r - cs else w 45 x) ∧ (∀ x : Int, w' 46 x = if x = c * 30 + d then iOr (w 46 (c * 30 + d)) (iShl 1 m) else w 46 x) ∧ w' 44 6 = min (w 44 6 + 1) 50 ∧ ∀ i : Int, 0 ≤ i → i < min (w 44 6 + 1) 50 → w' 48 i = if i = min (w 44 6 + 1) 50 - 1 then ((((c * 30 + d) * 20 + r) * 10) + m) else w 48 (if w 44 6 < 50 then i else i + 1)) zNo := by
  refine zA_intro ⟨plainFor_of_name (by decide +kernel), Or.inl (by decide +kernel)⟩ rfl (Nat.le_of_ble_eq_true rfl) ?_
  have hmo := hmu (c * 30 + d) (by omega) (by omega)
  have hor := tb_or (x := w 46 (c * 30 + d)) (i := m) hmo.1 (by omega) m0 (by omega)
  refine zA_range (fun hr => ?_)
  show zA l mX0_goUp false 1 0 0 (fun v' S' w' => v' = none ∧ S' = (ZZ t dr tx) ∧ (∀ cc i, cc ≠ 45 → cc ≠ 46 → cc ≠ 48 → (cc ≠ 44 ∨ i ≠ 6) → w' cc i = w cc i) ∧ (∀ x : Int, w' 45 x = if x = r then w 45 r - cs else w 45 x) ∧ (∀ x : Int, w' 46 x = if x = c * 30 + d then iOr (w 46 (c * 30 + d)) (iShl 1 m) else w 46 x) ∧ w' 44 6 = min (w 44 6 + 1) 50 ∧ ∀ i : Int, 0 ≤ i → i < min (w 44 6 + 1) 50 → w' 48 i = if i = min (w 44 6 + 1) 50 - 1 then ((((c * 30 + d) * 20 + r) * 10) + m) else w 48 (if w 44 6 < 50 then i else i + 1)) zNo 0 [zR 44, zI m, zI c, zI r, zI d, zI cs] [] (ZZ t dr tx) w
  refine zA_aload_n dX0_goUp_0 rfl ?_
  refine zA_getR (n := 45) dX0_goUp_1 fX0_11 c44 rfl ?_
  refine zA_iload_n dX0_goUp_4 rfl ?_
  refine zA_dup2 dX0_goUp_5 rfl rfl ?_
  refine zA_iaload dX0_goUp_6 c45 (by first | assumption | omega) (by first | assumption | omega) (by decide) ?_
  refine zA_iload dX0_goUp_7 rfl ?_
  refine zA_isub dX0_goUp_9 ?_
  refine zA_iastore dX0_goUp_10 (by first | assumption | exact hr _ _ | exact inR_mk (by omega) (by omega)) c45 (by first | assumption | omega) (by first | assumption | omega) (by decide) ?_
  refine zA_namew (fun w_1 hw_1 => ?_)
  refine zA_range (fun hr => ?_)
  replace hw_1 : w_1 = up w 45 r ((w 45 r) - cs) := hw_1
  have e46 : w_1 46 (c * 30 + d) = w 46 (c * 30 + d) := by rw [hw_1, up_cell _ _ _ _ (by decide)]
  rw [← e46] at hor
  have hor1 := inR_mk (z := iOr (w_1 46 (c * 30 + d)) (iShl 1 m)) (by omega) hor.1.2
  refine zA_aload_n dX0_goUp_11 rfl ?_
  refine zA_getR (n := 46) dX0_goUp_12 fX0_19 c44 rfl ?_
  refine zA_iload_n dX0_goUp_15 rfl ?_
  refine zA_bipush dX0_goUp_16 rfl ?_
  refine zA_imul dX0_goUp_18 ?_
  refine zA_iload dX0_goUp_19 rfl ?_
  refine zA_iadd dX0_goUp_21 ?_
  refine zA_dup2 dX0_goUp_22 rfl rfl ?_
  refine zA_iaload dX0_goUp_23 c46 (by first | assumption | omega) (by first | assumption | omega) (by decide) ?_
  refine zA_iconst dX0_goUp_24 ?_
  refine zA_iload_n dX0_goUp_25 rfl ?_
  refine zA_ishl dX0_goUp_26 ?_
  refine zA_ior dX0_goUp_27 ?_
  refine zA_iastore dX0_goUp_28 (by first | assumption | exact hr _ _ | exact inR_mk (by omega) (by omega)) c46 (by first | assumption | omega) (by first | assumption | omega) (by decide) ?_
  refine zA_namew (fun w_2 hw_2 => ?_)
  refine zA_range (fun hr => ?_)
  replace hw_2 : w_2 = up w_1 46 ((c * 30) + d) (iOr (w_1 46 ((c * 30) + d)) (iShl 1 m)) := hw_2
  have e44 : w_2 44 6 = w 44 6 := by rw [hw_2, up_cell _ _ _ _ (by decide), hw_1, up_cell _ _ _ _ (by decide)]
  have L59 : ∀ (w3 : zW) (h36 : w3 44 6 = min (w 44 6 + 1) 50 - 1) (hfr : ∀ cc i, cc ≠ 48 → (cc ≠ 44 ∨ i ≠ 6) → w3 cc i = w_2 cc i) (hl : ∀ i : Int, 0 ≤ i → i < min (w 44 6 + 1) 50 - 1 → w3 48 i = w 48 (if w 44 6 < 50 then i else i + 1)), zA l mX0_goUp false 1 0 0 (fun v' S' w' => v' = none ∧ S' = (ZZ t dr tx) ∧ (∀ cc i, cc ≠ 45 → cc ≠ 46 → cc ≠ 48 → (cc ≠ 44 ∨ i ≠ 6) → w' cc i = w cc i) ∧ (∀ x : Int, w' 45 x = if x = r then w 45 r - cs else w 45 x) ∧ (∀ x : Int, w' 46 x = if x = c * 30 + d then iOr (w 46 (c * 30 + d)) (iShl 1 m) else w 46 x) ∧ w' 44 6 = min (w 44 6 + 1) 50 ∧ ∀ i : Int, 0 ≤ i → i < min (w 44 6 + 1) 50 → w' 48 i = if i = min (w 44 6 + 1) 50 - 1 then ((((c * 30 + d) * 20 + r) * 10) + m) else w 48 (if w 44 6 < 50 then i else i + 1)) zNo 59 [zR 44, zI m, zI c, zI r, zI d, zI cs] [] (ZZ t dr tx) w3 := by
    intro w3 h36 hfr hl
    refine zA_range (fun hr => ?_)
    refine zA_aload_n dX0_goUp_59 rfl ?_
    refine zA_getR (n := 48) dX0_goUp_60 fX0_28 c44 rfl ?_
    refine zA_aload_n dX0_goUp_63 rfl ?_
    refine zA_getI dX0_goUp_64 fX0_31 c44 rfl ?_
    refine zA_valI (w3 44 6) rfl ?_
    refine zA_iload_n dX0_goUp_67 rfl ?_
    refine zA_bipush dX0_goUp_68 rfl ?_
    refine zA_imul dX0_goUp_70 ?_
    refine zA_iload dX0_goUp_71 rfl ?_
    refine zA_iadd dX0_goUp_73 ?_
    refine zA_bipush dX0_goUp_74 rfl ?_
    refine zA_imul dX0_goUp_76 ?_
    refine zA_iload_n dX0_goUp_77 rfl ?_
    refine zA_iadd dX0_goUp_78 ?_
    refine zA_bipush dX0_goUp_79 rfl ?_
    refine zA_imul dX0_goUp_81 ?_
    refine zA_iload_n dX0_goUp_82 rfl ?_
    refine zA_iadd dX0_goUp_83 ?_
    refine zA_iastore dX0_goUp_84 (by first | assumption | exact hr _ _ | exact inR_mk (by omega) (by omega)) c48 (by first | assumption | omega) (by first | assumption | omega) (by decide) ?_
    refine zA_namew (fun w_3 hw_3 => ?_)
    refine zA_range (fun hr => ?_)
    replace hw_3 : w_3 = up w3 48 (w3 44 6) ((((((c * 30) + d) * 20) + r) * 10) + m) := hw_3
    have ek : w_3 44 6 = w3 44 6 := by rw [hw_3, up_cell _ _ _ _ (by decide)]
    refine zA_aload_n dX0_goUp_85 rfl ?_
    refine zA_dup dX0_goUp_86 rfl ?_
    refine zA_getI dX0_goUp_87 fX0_31 c44 rfl ?_
    refine zA_valI (w_3 44 6) rfl ?_
    refine zA_iconst dX0_goUp_90 ?_
    refine zA_iadd dX0_goUp_91 ?_
    refine zA_putI dX0_goUp_92 fX0_31 c44 rfl (by first | assumption | exact hr _ _ | exact inR_mk (by omega) (by omega)) ⟨rfl, rfl⟩ ?_
    refine zA_namew (fun w_4 hw_4 => ?_)
    refine zA_range (fun hr => ?_)
    replace hw_4 : w_4 = up w_3 44 6 ((w_3 44 6) + 1) := hw_4
    refine zA_vret dX0_goUp_95 rfl ?_
    have hw3 : ∀ cc i, cc ≠ 48 → (cc ≠ 44 ∨ i ≠ 6) → w_4 cc i = w_2 cc i := fun cc i a b => by rw [hw_4, up_ne a b, hw_3, up_cell _ _ _ _ a]; exact hfr cc i a b
    refine ⟨rfl, rfl, fun cc i a b e f => ?_, fun x => ?_, fun x => ?_, ?_, fun i a b => ?_⟩
    · rw [hw3 cc i e f, hw_2, up_cell _ _ _ _ b, hw_1, up_cell _ _ _ _ a]
    · rw [hw3 45 x (by decide) (Or.inl (by decide)), hw_2, up_cell _ _ _ _ (by decide), hw_1]
      by_cases e : x = r
      · rw [if_pos e, e, up_same]
      · rw [if_neg e, up_idx _ _ _ _ e]
    · rw [hw3 46 x (by decide) (Or.inl (by decide)), hw_2]
      by_cases e : x = c * 30 + d
      · rw [if_pos e, e, up_same, e46]
      · rw [if_neg e, up_idx _ _ _ _ e, hw_1, up_cell _ _ _ _ (by decide)]
    · rw [hw_4, up_same]; omega
    · rw [hw_4, up_cell _ _ _ _ (by decide), hw_3]
      by_cases e : i = min (w 44 6 + 1) 50 - 1
      · rw [if_pos e, e, ← h36, up_same]
      · rw [if_neg e, up_idx _ _ _ _ (by omega)]; exact hl i a (by omega)
  refine zA_aload_n dX0_goUp_29 rfl ?_
  refine zA_getI dX0_goUp_30 fX0_31 c44 rfl ?_
  refine zA_valI (w_2 44 6) rfl ?_
  refine zA_bipush dX0_goUp_33 rfl ?_
  refine zA_icmp_lt (tgt := 59) dX0_goUp_35 (by decide) (by first | assumption | exact hr _ _ | exact inR_mk (by omega) (by omega)) ⟨by decide, by decide⟩ (fun c35 => ?_) (fun c35 => ?_)
  · skip
    exact L59 w_2 (by omega) (fun _ _ _ _ => rfl) (fun i a b => by rw [if_pos (by omega), hw_2, up_cell _ _ _ _ (by decide), hw_1, up_cell _ _ _ _ (by decide)])
  · skip
    refine zA_aload_n dX0_goUp_38 rfl ?_
    refine zA_getR (n := 48) dX0_goUp_39 fX0_28 c44 rfl ?_
    refine zA_iconst dX0_goUp_42 ?_
    refine zA_aload_n dX0_goUp_43 rfl ?_
    refine zA_getR (n := 48) dX0_goUp_44 fX0_28 c44 rfl ?_
    refine zA_iconst dX0_goUp_47 ?_
    refine zA_bipush dX0_goUp_48 rfl ?_
    refine zA_copy dX0_goUp_50 rfl kaX0_40 zw_copy c48 c48 (by first | assumption | omega) (by first | assumption | omega) (by first | assumption | omega) (by first | assumption | omega) (by first | assumption | omega) (by decide) (by decide) (Nat.le_of_ble_eq_true rfl) ?_
    refine zA_namew (fun w_5 hw_5 => ?_)
    refine zA_range (fun hr => ?_)
    refine zA_aload_n dX0_goUp_53 rfl ?_
    refine zA_bipush dX0_goUp_54 rfl ?_
    refine zA_putI dX0_goUp_56 fX0_31 c44 rfl ⟨by decide, by decide⟩ ⟨rfl, rfl⟩ ?_
    refine zA_namew (fun w_6 hw_6 => ?_)
    refine zA_range (fun hr => ?_)
    replace hw_6 : w_6 = up w_5 44 6 49 := hw_6
    exact L59 w_6 (by rw [hw_6, up_same]; omega) (fun cc i a b => by rw [hw_6, up_ne a b, hw_5]; unfold cpy; rw [if_neg (by omega)]) (fun i a b => by
                rw [if_neg (by omega), hw_6, up_cell _ _ _ _ (by decide), hw_5]
                unfold cpy
                rw [if_pos ⟨rfl, by omega, by omega⟩, hw_2, up_cell _ _ _ _ (by decide), hw_1, up_cell _ _ _ _ (by decide)]
                congr 1; omega)

set_option maxRecDepth 100000 in
set_option maxHeartbeats 4000000 in
theorem s_takeBack {l : Launch} {t dr tx : Nat} {w : zW} {y : Nat} (hy : y = 4 ∨ y = 10) (hcy : ∀ c : Int, 0 ≤ c → c < 12 → 0 ≤ w (y + 1) c ∧ w (y + 1) c ≤ 200) (hmu : ∀ x : Int, 0 ≤ x → x < 360 → 0 ≤ w 46 x ∧ w 46 x < 1024) (hlv : ∀ r : Int, 0 ≤ r → r < 20 → 0 ≤ w 45 r ∧ w 45 r ≤ 200000) (hlt : ∀ i : Int, 0 ≤ i → i < w 44 6 → 0 ≤ w 48 i ∧ w 48 i < 72000) (k0 : 0 ≤ w 44 6) (k1 : w 44 6 ≤ 50) (hg : -100000 ≤ w 47 0 ∧ w 47 0 ≤ 100000)  : zSp l mX0_takeBack false 1 0 0 [zR 44, zR y] (ZZ t dr tx) w (fun v' S' w' => S' = (ZZ t dr tx) ∧ ((w 44 6 ≤ 0 ∧ v' = some (zI (-1)) ∧ w' = w) ∨ (0 < w 44 6 ∧ v' = some (zI ((w 48 (w 44 6 - 1)) % 10)) ∧ w' = up (up (up (up w 44 6 (w 44 6 - 1)) 45 ((w 48 (w 44 6 - 1)) / 10 % 20) (w 45 ((w 48 (w 44 6 - 1)) / 10 % 20) + w (y + 1) ((w 48 (w 44 6 - 1)) / 10 / 20 / 30))) 46 ((w 48 (w 44 6 - 1)) / 10 / 20) (iAnd (w 46 ((w 48 (w 44 6 - 1)) / 10 / 20)) (iXor (iShl 1 ((w 48 (w 44 6 - 1)) % 10)) (-1)))) 47 0 (w 47 0 - 1)))) zNo := by
  refine zA_intro ⟨plainFor_of_name (by decide +kernel), Or.inl (by decide +kernel)⟩ rfl (Nat.le_of_ble_eq_true rfl) ?_
  refine zA_range (fun hr => ?_)
  show zA l mX0_takeBack false 1 0 0 (fun v' S' w' => S' = (ZZ t dr tx) ∧ ((w 44 6 ≤ 0 ∧ v' = some (zI (-1)) ∧ w' = w) ∨ (0 < w 44 6 ∧ v' = some (zI ((w 48 (w 44 6 - 1)) % 10)) ∧ w' = up (up (up (up w 44 6 (w 44 6 - 1)) 45 ((w 48 (w 44 6 - 1)) / 10 % 20) (w 45 ((w 48 (w 44 6 - 1)) / 10 % 20) + w (y + 1) ((w 48 (w 44 6 - 1)) / 10 / 20 / 30))) 46 ((w 48 (w 44 6 - 1)) / 10 / 20) (iAnd (w 46 ((w 48 (w 44 6 - 1)) / 10 / 20)) (iXor (iShl 1 ((w 48 (w 44 6 - 1)) % 10)) (-1)))) 47 0 (w 47 0 - 1)))) zNo 0 [zR 44, zR y, .null, .null, .null] [] (ZZ t dr tx) w
  refine zA_aload_n dX0_takeBack_0 rfl ?_
  refine zA_getI dX0_takeBack_1 fX0_31 c44 rfl ?_
  refine zA_valI (w 44 6) rfl ?_
  refine zA_if_gt (tgt := 9) dX0_takeBack_4 (by decide) (by first | assumption | exact hr _ _ | exact inR_mk (by omega) (by omega)) (fun c4 => ?_) (fun c4 => ?_)
  · skip
    refine zA_aload_n dX0_takeBack_9 rfl ?_
    refine zA_dup dX0_takeBack_10 rfl ?_
    refine zA_getI dX0_takeBack_11 fX0_31 c44 rfl ?_
    refine zA_valI (w 44 6) rfl ?_
    refine zA_iconst dX0_takeBack_14 ?_
    refine zA_isub dX0_takeBack_15 ?_
    refine zA_putI dX0_takeBack_16 fX0_31 c44 rfl (by first | assumption | exact hr _ _ | exact inR_mk (by omega) (by omega)) ⟨rfl, rfl⟩ ?_
    refine zA_namew (fun w_1 hw_1 => ?_)
    refine zA_range (fun hr => ?_)
    replace hw_1 : w_1 = up w 44 6 ((w 44 6) - 1) := hw_1
    have e6 : w_1 44 6 = w 44 6 - 1 := by rw [hw_1, up_same]
    have eo : ∀ cc i, cc ≠ 44 → w_1 cc i = w cc i := fun cc i h => by rw [hw_1, up_cell _ _ _ _ h]
    have ep : w_1 48 (w_1 44 6) = (w 48 (w 44 6 - 1)) := by rw [e6]; exact eo 48 _ (by decide)
    have hpb := hlt (w 44 6 - 1) (by omega) (by omega)
    have hmb := hmu ((w 48 (w 44 6 - 1)) / 10 / 20) (by omega) (by omega)
    have hlb := hlv ((w 48 (w 44 6 - 1)) / 10 % 20) (by omega) (by omega)
    have hcb := hcy ((w 48 (w 44 6 - 1)) / 10 / 20 / 30) (by omega) (by omega)
    have hclr := tb_clr (x := w 46 ((w 48 (w 44 6 - 1)) / 10 / 20)) (i := (w 48 (w 44 6 - 1)) % 10) hmb.1 (by omega) (by omega) (by omega)
    have hclr2 := inR_mk (z := iAnd (w 46 ((w 48 (w 44 6 - 1)) / 10 / 20)) (iXor (iShl 1 ((w 48 (w 44 6 - 1)) % 10)) (-1))) (by omega) hclr.1.2
    refine zA_aload_n dX0_takeBack_19 rfl ?_
    refine zA_getR (n := 48) dX0_takeBack_20 fX0_28 c44 rfl ?_
    refine zA_aload_n dX0_takeBack_23 rfl ?_
    refine zA_getI dX0_takeBack_24 fX0_31 c44 rfl ?_
    refine zA_valI (w_1 44 6) rfl ?_
    refine zA_iaload dX0_takeBack_27 c48 (by first | assumption | omega) (by first | assumption | omega) (by decide) ?_
    refine zA_valI (w 48 (w 44 6 - 1)) (ep) ?_
    refine zA_bipush dX0_takeBack_28 rfl ?_
    refine zA_irem dX0_takeBack_30 (by first | assumption | omega) (by first | assumption | omega) (by first | assumption | omega) (by first | assumption | omega) ?_
    refine zA_istore_n (lo1 := [zR 44, zR y, zI ((w 48 (w 44 6 - 1)) % 10), .null, .null]) dX0_takeBack_31 (by decide) rfl rfl ?_
    refine zA_aload_n dX0_takeBack_32 rfl ?_
    refine zA_getR (n := 48) dX0_takeBack_33 fX0_28 c44 rfl ?_
    refine zA_aload_n dX0_takeBack_36 rfl ?_
    refine zA_getI dX0_takeBack_37 fX0_31 c44 rfl ?_
    refine zA_valI (w_1 44 6) rfl ?_
    refine zA_iaload dX0_takeBack_40 c48 (by first | assumption | omega) (by first | assumption | omega) (by decide) ?_
    refine zA_valI (w 48 (w 44 6 - 1)) (ep) ?_
    refine zA_bipush dX0_takeBack_41 rfl ?_
    refine zA_idiv dX0_takeBack_43 (by first | assumption | omega) (by first | assumption | omega) (by first | assumption | omega) (by first | assumption | omega) ?_
    refine zA_bipush dX0_takeBack_44 rfl ?_
    refine zA_irem dX0_takeBack_46 (by first | assumption | omega) (by first | assumption | omega) (by first | assumption | omega) (by first | assumption | omega) ?_
    refine zA_istore_n (lo1 := [zR 44, zR y, zI ((w 48 (w 44 6 - 1)) % 10), zI (((w 48 (w 44 6 - 1)) / 10) % 20), .null]) dX0_takeBack_47 (by decide) rfl rfl ?_
    refine zA_aload_n dX0_takeBack_48 rfl ?_
    refine zA_getR (n := 48) dX0_takeBack_49 fX0_28 c44 rfl ?_
    refine zA_aload_n dX0_takeBack_52 rfl ?_
    refine zA_getI dX0_takeBack_53 fX0_31 c44 rfl ?_
    refine zA_valI (w_1 44 6) rfl ?_
    refine zA_iaload dX0_takeBack_56 c48 (by first | assumption | omega) (by first | assumption | omega) (by decide) ?_
    refine zA_valI (w 48 (w 44 6 - 1)) (ep) ?_
    refine zA_bipush dX0_takeBack_57 rfl ?_
    refine zA_idiv dX0_takeBack_59 (by first | assumption | omega) (by first | assumption | omega) (by first | assumption | omega) (by first | assumption | omega) ?_
    refine zA_bipush dX0_takeBack_60 rfl ?_
    refine zA_idiv dX0_takeBack_62 (by first | assumption | omega) (by first | assumption | omega) (by first | assumption | omega) (by first | assumption | omega) ?_
    refine zA_istore (lo1 := [zR 44, zR y, zI ((w 48 (w 44 6 - 1)) % 10), zI (((w 48 (w 44 6 - 1)) / 10) % 20), zI (((w 48 (w 44 6 - 1)) / 10) / 20)]) dX0_takeBack_63 (by decide) rfl rfl ?_
    refine zA_aload_n dX0_takeBack_65 rfl ?_
    refine zA_getR (n := 45) dX0_takeBack_66 fX0_11 c44 rfl ?_
    refine zA_iload_n dX0_takeBack_69 rfl ?_
    refine zA_dup2 dX0_takeBack_70 rfl rfl ?_
    refine zA_iaload dX0_takeBack_71 c45 (by first | assumption | omega) (by first | assumption | omega) (by decide) ?_
    refine zA_aload_n dX0_takeBack_72 rfl ?_
    refine zA_getR (n := (y + 1)) dX0_takeBack_73 fX0_46 (cY0 hy) rfl ?_
    refine zA_iload dX0_takeBack_76 rfl ?_
    refine zA_bipush dX0_takeBack_78 rfl ?_
    refine zA_idiv dX0_takeBack_80 (by first | assumption | omega) (by first | assumption | omega) (by first | assumption | omega) (by first | assumption | omega) ?_
    refine zA_iaload dX0_takeBack_81 (cY1 hy) (by first | assumption | omega) (by first | assumption | omega) (by decide) ?_
    refine zA_iadd dX0_takeBack_82 ?_
    refine zA_valI (w 45 ((w 48 (w 44 6 - 1)) / 10 % 20) + w (y + 1) ((w 48 (w 44 6 - 1)) / 10 / 20 / 30)) (by rw [eo 45 _ (by decide), eo (y + 1) _ (by omega)]) ?_
    refine zA_iastore dX0_takeBack_83 (by first | assumption | exact hr _ _ | exact inR_mk (by omega) (by omega)) c45 (by first | assumption | omega) (by first | assumption | omega) (by decide) ?_
    refine zA_namew (fun w_2 hw_2 => ?_)
    refine zA_range (fun hr => ?_)
    replace hw_2 : w_2 = up w_1 45 (((w 48 (w 44 6 - 1)) / 10) % 20) (w 45 ((w 48 (w 44 6 - 1)) / 10 % 20) + w (y + 1) ((w 48 (w 44 6 - 1)) / 10 / 20 / 30)) := hw_2
    refine zA_aload_n dX0_takeBack_84 rfl ?_
    refine zA_getR (n := 46) dX0_takeBack_85 fX0_19 c44 rfl ?_
    refine zA_iload dX0_takeBack_88 rfl ?_
    refine zA_dup2 dX0_takeBack_90 rfl rfl ?_
    refine zA_iaload dX0_takeBack_91 c46 (by first | assumption | omega) (by first | assumption | omega) (by decide) ?_
    refine zA_iconst dX0_takeBack_92 ?_
    refine zA_iload_n dX0_takeBack_93 rfl ?_
    refine zA_ishl dX0_takeBack_94 ?_
    refine zA_iconst dX0_takeBack_95 ?_
    refine zA_ixor dX0_takeBack_96 ?_
    refine zA_iand dX0_takeBack_97 ?_
    refine zA_valI (iAnd (w 46 ((w 48 (w 44 6 - 1)) / 10 / 20)) (iXor (iShl 1 ((w 48 (w 44 6 - 1)) % 10)) (-1))) (by rw [hw_2, up_cell _ _ _ _ (by decide), eo 46 _ (by decide)]) ?_
    refine zA_iastore dX0_takeBack_98 (by first | assumption | exact hr _ _ | exact inR_mk (by omega) (by omega)) c46 (by first | assumption | omega) (by first | assumption | omega) (by decide) ?_
    refine zA_namew (fun w_3 hw_3 => ?_)
    refine zA_range (fun hr => ?_)
    replace hw_3 : w_3 = up w_2 46 (((w 48 (w 44 6 - 1)) / 10) / 20) (iAnd (w 46 ((w 48 (w 44 6 - 1)) / 10 / 20)) (iXor (iShl 1 ((w 48 (w 44 6 - 1)) % 10)) (-1))) := hw_3
    refine zA_aload_n dX0_takeBack_99 rfl ?_
    refine zA_getR (n := 47) dX0_takeBack_100 fX0_22 c44 rfl ?_
    refine zA_iconst dX0_takeBack_103 ?_
    refine zA_dup2 dX0_takeBack_104 rfl rfl ?_
    refine zA_iaload dX0_takeBack_105 c47 (by first | assumption | omega) (by first | assumption | omega) (by decide) ?_
    refine zA_iconst dX0_takeBack_106 ?_
    refine zA_isub dX0_takeBack_107 ?_
    refine zA_valI (w 47 0 - 1) (by rw [hw_3, up_cell _ _ _ _ (by decide), hw_2, up_cell _ _ _ _ (by decide), eo 47 _ (by decide)]) ?_
    refine zA_iastore dX0_takeBack_108 (by first | assumption | exact hr _ _ | exact inR_mk (by omega) (by omega)) c47 (by first | assumption | omega) (by first | assumption | omega) (by decide) ?_
    refine zA_namew (fun w_4 hw_4 => ?_)
    refine zA_range (fun hr => ?_)
    replace hw_4 : w_4 = up w_3 47 0 (w 47 0 - 1) := hw_4
    refine zA_iload_n dX0_takeBack_109 rfl ?_
    refine zA_iret dX0_takeBack_110 rfl ?_
    exact ⟨rfl, Or.inr ⟨by omega, rfl, by rw [hw_4, hw_3, hw_2, hw_1]⟩⟩
  · skip
    refine zA_iconst dX0_takeBack_7 ?_
    refine zA_iret dX0_takeBack_8 rfl ?_
    exact ⟨rfl, Or.inl ⟨by omega, rfl, rfl⟩⟩

