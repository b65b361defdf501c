/-! the plan of the class -/
def yW (w : zW) (y : Nat) : Int → Int := fun l => w (y + 4) (l * 6 + 1)
def yP (w : zW) (y : Nat) : Int → Int := fun l => w (y + 4) (l * 6 + 5)
def yT (w : zW) (y : Nat) : Int → Int → Int := fun a b => yTrav w y (w (y + 4) (a * 6)) (w (y + 4) (b * 6))
theorem yd_c {w w1 : zW} {y : Nat} (hy : y = 4 ∨ y = 10) (h : ∀ c x, c < 16 → w1 c x = w c x) : yCan w1 y = yCan w y ∧ yW w1 y = yW w y ∧ yP w1 y = yP w y ∧ yT w1 y = yT w y ∧ (okYard w y → okYard w1 y) ∧ ∀ k, w1 y k = w y k := by
  have e : ∀ c, c < 16 → w1 c = w c := fun c hc => funext fun x => h c x hc
  have e0 := e y (by omega)
  have e1 := e (y + 1) (by omega)
  have e2 := e (y + 2) (by omega)
  have e3 := e (y + 3) (by omega)
  have e4 := e (y + 4) (by omega)
  have e5 := e (y + 5) (by omega)
  refine ⟨?_, ?_, ?_, ?_, ?_, fun k => by rw [e0]⟩
  · funext l d; unfold yCan yGood; rw [e3, e4, e5]
  · unfold yW; rw [e4]
  · unfold yP; rw [e4]
  · funext a b; unfold yT yTrav; rw [e2, e4]
  · intro hY
    unfold okYard okLet at hY ⊢
    rw [e0, e1, e2, e3, e4, e5]
    exact hY
theorem yG {w : zW} {y : Nat} (hY : okYard w y) : okG (yCan w y) (yW w y) (yP w y) (yT w y) (w y 7) := by
  obtain ⟨⟨u1, u2⟩, -, u3, -, -, hm, -, hle, -⟩ := hY
  refine ⟨u3, fun l l0 l1 => ?_⟩
  obtain ⟨q1, q2, q3, q4, q5, q6⟩ := hle l l0 l1
  refine ⟨q2, q6, fun b b0 b1 => ?_, fun d hd => ?_⟩
  · obtain ⟨p1, -⟩ := hle b b0 b1
    unfold yT yTrav
    split
    · omega
    · exact hm _ (by omega) (by omega)
  · obtain ⟨d1, d2, -⟩ := hd
    show 0 ≤ d ∧ d + w (y + 4) (l * 6 + 1) ≤ 30
    omega
theorem yG_lt {can : Int → Int → Prop} {wd pr : Int → Int} {tr : Int → Int → Int} {n : Int} (hG : okG can wd pr tr n) {l d : Int} (l0 : 0 ≤ l) (l1 : l < n) (h : can l d) : d < 30 := by
  obtain ⟨g1, -, -, g4⟩ := hG.2 l l0 l1
  have := g4 d h
  omega
theorem fdF_b {can : Int → Int → Prop} {wd pr : Int → Int} {tr : Int → Int → Int} {n : Int} (hG : okG can wd pr tr n) {l d : Int} (l0 : 0 ≤ l) (l1 : l < n) : -1 ≤ fdF (can l) d ∧ fdF (can l) d ≤ 29 := by
  obtain ⟨g1, -, -, g4⟩ := hG.2 l l0 l1
  have hf := fdF_is (P := can l) (d := d) (fun d hd => by have := g4 d hd; omega)
  rcases hf with ⟨a, b⟩ | ⟨a, b, c⟩
  · omega
  · have := g4 _ b; omega
/-- the days on which letters can be begun, as told in the arrays -/
def bgO (w : zW) (y : Nat) : Prop := ∀ l d : Int, 0 ≤ l → l < w y 7 → 0 ≤ d → d ≤ 30 → w 17 (l * 31 + d) = fdF (yCan w y l) d ∧ luR (yCan w y l) d (w 18 (l * 31 + d))
theorem bgO_c {w w1 : zW} {y : Nat} (hy : y = 4 ∨ y = 10) (h : ∀ c x, c < 19 → c ≠ 16 → w1 c x = w c x) (k : bgO w y) : bgO w1 y := by
  obtain ⟨e1, -, -, -, -, e6⟩ := yd_c hy (fun c x hc => h c x (by omega) (by omega))
  intro l d l0 l1 d0 d1
  rw [e6] at l1
  rw [h 17 _ (by decide) (by decide), h 18 _ (by decide) (by decide), e1]
  exact k l d l0 l1 d0 d1
def eaB (a : Int → Int) : Prop := ∀ i : Int, 0 ≤ i → i < 2048 → a i = 1000 ∨ (0 ≤ a i ∧ a i ≤ 29)
def Vt (S l x : Int) : Int → Int → Int → Prop := fun S' l' x' => S' < S ∨ (S' = S ∧ (l' < l ∨ (l' = l ∧ x' < x)))
theorem or_ix {n S x l : Int} (n0 : 0 ≤ n) (n8 : n ≤ 8) (s0 : 0 ≤ S) (s1 : S < ((2 ^ n.toNat : Nat) : Int)) (x0 : 0 ≤ x) (x1 : x < n) (h : tb S x = false) (l0 : 0 ≤ l) (l1 : l < 8) : (0 ≤ iOr S (iShl 1 x) * 8 + x ∧ iOr S (iShl 1 x) * 8 + x < 2048) ∧ S * 8 + l ≠ iOr S (iShl 1 x) * 8 + x ∧ (0 ≤ S * 8 + l ∧ S * 8 + l < 2048) := by
  have hp := pow8 n0 n8
  have h1 := orN n0 n8 s0 s1 x0 x1
  have h2 := or_gt n0 n8 s0 s1 x0 x1 h
  omega
set_option maxRecDepth 100000 in
set_option maxHeartbeats 4000000 in
theorem s_tr6 {l : Launch} {t dr tx : Nat} {w : zW} {y : Nat} (hy : y = 4 ∨ y = 10) (hY : okYard w y) {a b : Int} (a0 : 0 ≤ a) (a1 : a < w y 7) (b0 : 0 ≤ b) (b1 : b < w y 7) : zSp l mX6_travel false 2 0 0 [zR y, zI a, zI b] (ZZ t dr tx) w (zRt (some (zI (yT w y a b))) (ZZ t dr tx) w) zNo := by
  refine zA_intro ⟨plainFor_of_name (by decide +kernel), Or.inl (by decide +kernel)⟩ rfl (Nat.le_of_ble_eq_true rfl) ?_
  obtain ⟨⟨u1, u2⟩, -, ⟨u3, u4⟩, -, -, -, -, hle, -⟩ := id hY
  obtain ⟨p1, -⟩ := hle a a0 a1
  obtain ⟨p2, -⟩ := hle b b0 b1
  refine zA_range (fun hr => ?_)
  show zA l mX6_travel false 2 0 0 (zRt (some (zI (yT w y a b))) (ZZ t dr tx) w) zNo 0 [zR y, zI a, zI b] [] (ZZ t dr tx) w
  refine zA_aload_n dX6_travel_0 rfl ?_
  refine zA_aload_n dX6_travel_1 rfl ?_
  refine zA_iload_n dX6_travel_2 rfl ?_
  refine zA_iconst dX6_travel_3 ?_
  refine zA_cV (st := [zR y]) dX6_travel_4 vX10_fact kX6_91 (s_fact (w := w) (a := a) (k := 0) hy a0 (by omega) (by decide) (by decide)) (by decide) (cY0 hy) rfl rfl (Nat.le_of_ble_eq_true rfl) rfl (zRt_el ?_)
  show zA l mX6_travel false 2 0 0 (zRt (some (zI (yT w y a b))) (ZZ t dr tx) w) zNo 7 [zR y, zI a, zI b] [zI (w (y + 4) (a * 6 + 0)), zR y] (ZZ t dr tx) w
  refine zA_aload_n dX6_travel_7 rfl ?_
  refine zA_iload_n dX6_travel_8 rfl ?_
  refine zA_iconst dX6_travel_9 ?_
  refine zA_cV (st := [zI (w (y + 4) (a * 6 + 0)), zR y]) dX6_travel_10 vX10_fact kX6_91 (s_fact (w := w) (a := b) (k := 0) hy b0 (by omega) (by decide) (by decide)) (by decide) (cY0 hy) rfl rfl (Nat.le_of_ble_eq_true rfl) rfl (zRt_el ?_)
  show zA l mX6_travel false 2 0 0 (zRt (some (zI (yT w y a b))) (ZZ t dr tx) w) zNo 13 [zR y, zI a, zI b] [zI (w (y + 4) (b * 6 + 0)), zI (w (y + 4) (a * 6 + 0)), zR y] (ZZ t dr tx) w
  refine zA_cV (st := []) dX6_travel_13 vX10_travel kX6_116 (s_travel (w := w) hy (a := w (y + 4) (a * 6 + 0)) (b := w (y + 4) (b * 6 + 0)) (by rw [Int.add_zero]; omega) (by rw [Int.add_zero]; omega) (by rw [Int.add_zero]; omega) (by rw [Int.add_zero]; omega)) (by decide) (cY0 hy) rfl rfl (Nat.le_of_ble_eq_true rfl) rfl (zRt_el ?_)
  show zA l mX6_travel false 2 0 0 (zRt (some (zI (yT w y a b))) (ZZ t dr tx) w) zNo 16 [zR y, zI a, zI b] [zI (yTrav w y (w (y + 4) (a * 6 + 0)) (w (y + 4) (b * 6 + 0)))] (ZZ t dr tx) w
  refine zA_iret dX6_travel_16 rfl ?_
  exact zRt_i (by unfold yT; rw [Int.add_zero, Int.add_zero])

set_option maxRecDepth 100000 in
set_option maxHeartbeats 4000000 in
theorem s_endOf {l : Launch} {t dr tx : Nat} {w : zW} {y : Nat} (hy : y = 4 ∨ y = 10) (hY : okYard w y) (hB : bgO w y) {a d : Int} (a0 : 0 ≤ a) (a1 : a < w y 7) (d0 : 0 ≤ d) (hd : inR d) : zSp l mX6_endOf false 2 0 0 [zR 16, zR y, zI a, zI d] (ZZ t dr tx) w (zRt (some (zI (eo (yCan w y) (yW w y) a d))) (ZZ t dr tx) w) zNo := by
  refine zA_intro ⟨plainFor_of_name (by decide +kernel), Or.inl (by decide +kernel)⟩ rfl (Nat.le_of_ble_eq_true rfl) ?_
  have hG := yG hY
  obtain ⟨⟨u1, u2⟩, -, ⟨u3, u4⟩, -, -, -, -, hle, -⟩ := id hY
  have hpn := pow8 u3 u4
  have hfb := fdF_b hG (d := d) a0 a1
  obtain ⟨q1, q2, -⟩ := hle a a0 a1
  refine zA_range (fun hr => ?_)
  show zA l mX6_endOf false 2 0 0 (zRt (some (zI (eo (yCan w y) (yW w y) a d))) (ZZ t dr tx) w) zNo 0 [zR 16, zR y, zI a, zI d, .null] [] (ZZ t dr tx) w
  refine zA_iload_n dX6_endOf_0 rfl ?_
  refine zA_bipush dX6_endOf_1 rfl ?_
  refine zA_icmp_ge (tgt := 20) dX6_endOf_3 (by decide) (by first | assumption | exact hr _ _ | exact inR_mk (by omega) (by omega)) ⟨by decide, by decide⟩ (fun c3 => ?_) (fun c3 => ?_)
  · skip
    refine zA_iconst dX6_endOf_20 ?_
    refine zA_istore (lo1 := [zR 16, zR y, zI a, zI d, zI (-1)]) dX6_endOf_21 (by decide) rfl rfl ?_
    refine zA_iload dX6_endOf_23 rfl ?_
    refine zA_iconst dX6_endOf_25 ?_
    refine zA_icmp_ne (tgt := 35) dX6_endOf_26 (by decide) ⟨by decide, by decide⟩ ⟨by decide, by decide⟩ (fun c26 => ?_) (fun c26 => ?_)
    · skip
      exact absurd rfl c26
    · skip
      refine zA_sipush dX6_endOf_29 rfl ?_
      refine zA_goto (tgt := 46) dX6_endOf_32 (by decide) ?_
      refine zA_iret dX6_endOf_46 rfl ?_
      exact zRt_i (by unfold eo; rw [if_pos (by
        have hf := fdF_is (P := yCan w y a) (d := d) (fun d hd => yG_lt hG a0 a1 hd)
        rcases hf with h | ⟨h1, h2, -⟩
        · exact h.1
        · have := yG_lt hG a0 a1 h2; omega)])
  · skip
    refine zA_aload_n dX6_endOf_6 rfl ?_
    refine zA_getR (n := 17) dX6_endOf_7 fX6_11 c16 rfl ?_
    refine zA_iload_n dX6_endOf_10 rfl ?_
    refine zA_bipush dX6_endOf_11 rfl ?_
    refine zA_imul dX6_endOf_13 ?_
    refine zA_iload_n dX6_endOf_14 rfl ?_
    refine zA_iadd dX6_endOf_15 ?_
    refine zA_iaload dX6_endOf_16 c17 (by first | assumption | omega) (by first | assumption | omega) (by decide) ?_
    refine zA_valI (fdF (yCan w y a) d) ((hB a d a0 a1 d0 (by omega)).1) ?_
    refine zA_goto (tgt := 21) dX6_endOf_17 (by decide) ?_
    refine zA_istore (lo1 := [zR 16, zR y, zI a, zI d, zI (fdF (yCan w y a) d)]) dX6_endOf_21 (by decide) rfl rfl ?_
    refine zA_iload dX6_endOf_23 rfl ?_
    refine zA_iconst dX6_endOf_25 ?_
    refine zA_icmp_ne (tgt := 35) dX6_endOf_26 (by decide) (by first | assumption | exact hr _ _ | exact inR_mk (by omega) (by omega)) ⟨by decide, by decide⟩ (fun c26 => ?_) (fun c26 => ?_)
    · skip
      refine zA_iload dX6_endOf_35 rfl ?_
      refine zA_aload_n dX6_endOf_37 rfl ?_
      refine zA_iload_n dX6_endOf_38 rfl ?_
      refine zA_iconst dX6_endOf_39 ?_
      refine zA_cV (st := [zI (fdF (yCan w y a) d)]) dX6_endOf_40 vX10_fact kX6_91 (s_fact (w := w) (a := a) (k := 1) hy a0 (by omega) (by decide) (by decide)) (by decide) (cY0 hy) rfl rfl (Nat.le_of_ble_eq_true rfl) rfl (zRt_el ?_)
      show zA l mX6_endOf false 2 0 0 (zRt (some (zI (eo (yCan w y) (yW w y) a d))) (ZZ t dr tx) w) zNo 43 [zR 16, zR y, zI a, zI d, zI (fdF (yCan w y a) d)] [zI (w (y + 4) (a * 6 + 1)), zI (fdF (yCan w y a) d)] (ZZ t dr tx) w
      refine zA_iadd dX6_endOf_43 ?_
      refine zA_iconst dX6_endOf_44 ?_
      refine zA_isub dX6_endOf_45 ?_
      refine zA_iret dX6_endOf_46 rfl ?_
      exact zRt_i (by unfold eo; rw [if_neg c26]; rfl)
    · skip
      refine zA_sipush dX6_endOf_29 rfl ?_
      refine zA_goto (tgt := 46) dX6_endOf_32 (by decide) ?_
      refine zA_iret dX6_endOf_46 rfl ?_
      exact zRt_i (by unfold eo; rw [if_pos c26])

set_option maxRecDepth 100000 in
set_option maxHeartbeats 4000000 in
theorem s_fillBegins {l : Launch} {t dr tx : Nat} {w : zW} {y : Nat} (hy : y = 4 ∨ y = 10) (hY : okYard w y) {a : Int} (a0 : 0 ≤ a) (a1 : a < w y 7) : zSp l mX6_fillBegins false 3 0 0 [zR 16, zR y, zI a] (ZZ t dr tx) w (fun v' S' w' => v' = none ∧ S' = (ZZ t dr tx) ∧ (∀ c x, c ≠ 17 → c ≠ 18 → w' c x = w c x) ∧ (∀ d : Int, 0 ≤ d → d ≤ 30 → w' 17 (a * 31 + d) = fdF (yCan w y a) d ∧ luR (yCan w y a) d (w' 18 (a * 31 + d))) ∧ ∀ i : Int, i < a * 31 → w' 17 i = w 17 i ∧ w' 18 i = w 18 i) zNo := by
  refine zA_intro ⟨plainFor_of_name (by decide +kernel), Or.inl (by decide +kernel)⟩ rfl (Nat.le_of_ble_eq_true rfl) ?_
  have hG := yG hY
  obtain ⟨⟨u1, u2⟩, -, ⟨u3, u4⟩, -, -, -, -, hle, -⟩ := id hY
  have hpn := pow8 u3 u4
  refine zA_range (fun hr => ?_)
  show zA l mX6_fillBegins false 3 0 0 (fun v' S' w' => v' = none ∧ S' = (ZZ t dr tx) ∧ (∀ c x, c ≠ 17 → c ≠ 18 → w' c x = w c x) ∧ (∀ d : Int, 0 ≤ d → d ≤ 30 → w' 17 (a * 31 + d) = fdF (yCan w y a) d ∧ luR (yCan w y a) d (w' 18 (a * 31 + d))) ∧ ∀ i : Int, i < a * 31 → w' 17 i = w 17 i ∧ w' 18 i = w 18 i) zNo 0 [zR 16, zR y, zI a, .null, .null, .null] [] (ZZ t dr tx) w
  refine zA_iconst dX6_fillBegins_0 ?_
  refine zA_istore_n (lo1 := [zR 16, zR y, zI a, zI (-1), .null, .null]) dX6_fillBegins_1 (by decide) rfl rfl ?_
  refine zA_iconst dX6_fillBegins_2 ?_
  refine zA_istore (lo1 := [zR 16, zR y, zI a, zI (-1), zI 0, .null]) dX6_fillBegins_3 (by decide) rfl rfl ?_
  have L5 : ∀ (z5 : Nat) (la d : Int) (w1 : zW) (d0 : 0 ≤ d) (d1 : d ≤ 31) (hla : luR (yCan w y a) (d - 1) la) (hlr : -1 ≤ la ∧ la ≤ 30) (hf : ∀ c x, c ≠ 17 → c ≠ 18 → w1 c x = w c x) (hg : ∀ x : Int, 0 ≤ x → x < d → w1 17 (a * 31 + x) = fdF (yCan w y a) x ∧ luR (yCan w y a) x (w1 18 (a * 31 + x))) (hh : ∀ i : Int, i < a * 31 → w1 17 i = w 17 i ∧ w1 18 i = w 18 i) (zm : (31 - d).toNat < z5), zA l mX6_fillBegins false 3 0 0 (fun v' S' w' => v' = none ∧ S' = (ZZ t dr tx) ∧ (∀ c x, c ≠ 17 → c ≠ 18 → w' c x = w c x) ∧ (∀ d : Int, 0 ≤ d → d ≤ 30 → w' 17 (a * 31 + d) = fdF (yCan w y a) d ∧ luR (yCan w y a) d (w' 18 (a * 31 + d))) ∧ ∀ i : Int, i < a * 31 → w' 17 i = w 17 i ∧ w' 18 i = w 18 i) zNo 5 [zR 16, zR y, zI a, zI la, zI d, .null] [] (ZZ t dr tx) w1 := by
    intro z5
    induction z5 with
    | zero => intro la d w1 d0 d1 hla hlr hf hg hh zm; exact absurd zm (Nat.not_lt_zero _)
    | succ z5 ih5 =>
      intro la d w1 d0 d1 hla hlr hf hg hh zm
      refine zA_range (fun hr => ?_)
      obtain ⟨e1, e2, e3, e4, e5, e6⟩ := yd_c hy (w1 := w1) (w := w) (fun c x hc => hf c x (by omega) (by omega))
      refine zA_iload dX6_fillBegins_5 rfl ?_
      refine zA_bipush dX6_fillBegins_7 rfl ?_
      refine zA_icmp_ge (tgt := 68) dX6_fillBegins_9 (by decide) (by first | assumption | exact hr _ _ | exact inR_mk (by omega) (by omega)) ⟨by decide, by decide⟩ (fun c9 => ?_) (fun c9 => ?_)
      · skip
        refine zA_vret dX6_fillBegins_68 rfl ?_
        exact ⟨rfl, rfl, hf, fun x b1 b2 => hg x b1 (by omega), hh⟩
      · skip
        refine zA_aload_n dX6_fillBegins_12 rfl ?_
        refine zA_iload_n dX6_fillBegins_13 rfl ?_
        refine zA_iload dX6_fillBegins_14 rfl ?_
        refine zA_cV (st := []) dX6_fillBegins_16 vX10_firstDay kX6_87 (s_firstDayA (w := w1) hy (a := a) (d := d) (e5 hY) a0 (by rw [e6]; exact a1) d0 (inR_mk (by omega) (by omega))) (by decide) (cY0 hy) rfl rfl (Nat.le_of_ble_eq_true rfl) rfl (zRp1_el (fun fi hfi => ?_))
        rw [e1] at hfi
        have hfd := hfi
        rw [← fdF_eq hfi] at hfd
        have hfb := fdF_b hG (d := d) a0 a1
        refine zA_valI (fdF (yCan w y a) d) ((fdF_eq hfi).symm) ?_
        refine zA_istore (lo1 := [zR 16, zR y, zI a, zI la, zI d, zI (fdF (yCan w y a) d)]) dX6_fillBegins_19 (by decide) rfl rfl ?_
        have L34 : ∀ (lb : Int) (hlb : luR (yCan w y a) d lb) (hlbr : -1 ≤ lb ∧ lb ≤ 30), zA l mX6_fillBegins false 3 0 0 (fun v' S' w' => v' = none ∧ S' = (ZZ t dr tx) ∧ (∀ c x, c ≠ 17 → c ≠ 18 → w' c x = w c x) ∧ (∀ d : Int, 0 ≤ d → d ≤ 30 → w' 17 (a * 31 + d) = fdF (yCan w y a) d ∧ luR (yCan w y a) d (w' 18 (a * 31 + d))) ∧ ∀ i : Int, i < a * 31 → w' 17 i = w 17 i ∧ w' 18 i = w 18 i) zNo 34 [zR 16, zR y, zI a, .null, zI d, zI (fdF (yCan w y a) d)] [zI lb] (ZZ t dr tx) w1 := by
          intro lb hlb hlbr
          refine zA_istore_n (lo1 := [zR 16, zR y, zI a, zI lb, zI d, zI (fdF (yCan w y a) d)]) dX6_fillBegins_34 (by decide) rfl rfl ?_
          refine zA_aload_n dX6_fillBegins_35 rfl ?_
          refine zA_getR (n := 17) dX6_fillBegins_36 fX6_11 c16 rfl ?_
          refine zA_iload_n dX6_fillBegins_39 rfl ?_
          refine zA_bipush dX6_fillBegins_40 rfl ?_
          refine zA_imul dX6_fillBegins_42 ?_
          refine zA_iload dX6_fillBegins_43 rfl ?_
          refine zA_iadd dX6_fillBegins_45 ?_
          refine zA_iload dX6_fillBegins_46 rfl ?_
          refine zA_iastore dX6_fillBegins_48 (by first | assumption | exact hr _ _ | exact inR_mk (by omega) (by omega)) c17 (by first | assumption | omega) (by first | assumption | omega) (by decide) ?_
          refine zA_namew (fun w_1 hw_1 => ?_)
          refine zA_range (fun hr => ?_)
          replace hw_1 : w_1 = up w1 17 ((a * 31) + d) (fdF (yCan w y a) d) := hw_1
          refine zA_aload_n dX6_fillBegins_49 rfl ?_
          refine zA_getR (n := 18) dX6_fillBegins_50 fX6_15 c16 rfl ?_
          refine zA_iload_n dX6_fillBegins_53 rfl ?_
          refine zA_bipush dX6_fillBegins_54 rfl ?_
          refine zA_imul dX6_fillBegins_56 ?_
          refine zA_iload dX6_fillBegins_57 rfl ?_
          refine zA_iadd dX6_fillBegins_59 ?_
          refine zA_iload_n dX6_fillBegins_60 rfl ?_
          refine zA_iastore dX6_fillBegins_61 (by first | assumption | exact hr _ _ | exact inR_mk (by omega) (by omega)) c18 (by first | assumption | omega) (by first | assumption | omega) (by decide) ?_
          refine zA_namew (fun w_2 hw_2 => ?_)
          refine zA_range (fun hr => ?_)
          replace hw_2 : w_2 = up w_1 18 ((a * 31) + d) lb := hw_2
          refine zA_iinc (lo1 := [zR 16, zR y, zI a, zI lb, zI (d + 1), zI (fdF (yCan w y a) d)]) dX6_fillBegins_62 rfl (by decide) rfl rfl ?_
          refine zA_goto (tgt := 5) dX6_fillBegins_65 (by decide) ?_
          refine zA_drop 5 (lo1 := [zR 16, zR y, zI a, zI lb, zI (d + 1), .null]) rfl ?_
          exact ih5 lb (d + 1) _ (by omega) (by omega) (by rw [show d + 1 - 1 = d by omega]; exact hlb) (by omega) (fun c x b1 b2 => by rw [hw_2, up_cell _ _ _ _ b2, hw_1, up_cell _ _ _ _ b1]; exact hf c x b1 b2) (fun x b1 b2 => by
                    rw [hw_2, up_cell _ _ _ _ (by decide), hw_1]
                    by_cases e : x = d
                    · rw [e, up_same, up_same]; exact ⟨rfl, hlb⟩
                    · rw [up_idx _ _ _ _ (by omega), up_idx _ _ _ _ (by omega), up_cell _ _ _ _ (by decide)]; exact hg x b1 (by omega)) (fun i hi => by
                    rw [hw_2, up_cell _ _ _ _ (by decide), hw_1, up_idx _ _ _ _ (by omega), up_idx _ _ _ _ (by omega), up_cell _ _ _ _ (by decide)]; exact hh i hi) (by omega)
        refine zA_iload dX6_fillBegins_21 rfl ?_
        refine zA_iload dX6_fillBegins_23 rfl ?_
        refine zA_icmp_ne (tgt := 33) dX6_fillBegins_25 (by decide) (by first | assumption | exact hr _ _ | exact inR_mk (by omega) (by omega)) (by first | assumption | exact hr _ _ | exact inR_mk (by omega) (by omega)) (fun c25 => ?_) (fun c25 => ?_)
        · skip
          have hnd : ¬ yCan w y a d := fun hc => by
            rcases hfd with ⟨h1, h2⟩ | ⟨h1, h2, h3⟩
            · exact h2 d (Int.le_refl _) hc
            · exact h3 d (Int.le_refl _) (by omega) hc
          have hl2 : luR (yCan w y a) d la := by
            rcases hla with ⟨h1, h2⟩ | ⟨⟨h1, h2⟩, h3, h4⟩
            · refine Or.inl ⟨h1, fun x b1 b2 hc => ?_⟩
              by_cases e : x = d
              · exact hnd (by rw [← e]; exact hc)
              · exact h2 x b1 (by omega) hc
            · refine Or.inr ⟨by omega, h3, fun x b1 b2 hc => ?_⟩
              by_cases e : x = d
              · exact hnd (by rw [← e]; exact hc)
              · exact h4 x b1 (by omega) hc
          refine zA_iload_n dX6_fillBegins_33 rfl ?_
          refine zA_drop 3 (lo1 := [zR 16, zR y, zI a, .null, zI d, zI (fdF (yCan w y a) d)]) rfl ?_
          exact L34 _ hl2 (by omega)
        · skip
          have hl1 : luR (yCan w y a) d d := Or.inr ⟨by omega, by
            rcases hfd with ⟨h1, -⟩ | ⟨h1, h2, -⟩
            · omega
            · rw [← c25]; rw [c25] at h2 ⊢; exact h2, fun x b1 b2 => by omega⟩
          refine zA_iload dX6_fillBegins_28 rfl ?_
          refine zA_goto (tgt := 34) dX6_fillBegins_30 (by decide) ?_
          refine zA_drop 3 (lo1 := [zR 16, zR y, zI a, .null, zI d, zI (fdF (yCan w y a) d)]) rfl ?_
          exact L34 _ hl1 (by omega)
  exact L5 _ (-1) 0 w (by omega) (by omega) (Or.inl ⟨rfl, fun x a b => by omega⟩) (by omega) (fun _ _ _ _ => rfl) (fun x a b => by omega) (fun _ _ => ⟨rfl, rfl⟩) (Nat.lt_succ_self _)

set_option maxRecDepth 100000 in
set_option maxHeartbeats 4000000 in
theorem s_goOn {l : Launch} {t dr tx : Nat} {w : zW} {y : Nat} (hy : y = 4 ∨ y = 10) (hY : okYard w y) (hB : bgO w y) {S q : Int} (s0 : 0 ≤ S) (s1 : S < ((2 ^ (w y 7).toNat : Nat) : Int)) (q0 : 0 ≤ q) (q1 : q < w y 7) (hb : eaB (w 20)) (hne : w 20 (S * 8 + q) ≠ 1000) (hE : eaI (yCan w y) (yW w y) (yT w y) (w y 7) (Vt S q 0) (w 20)) : zSp l mX6_goOn false 3 0 0 [zR 16, zR y, zI S, zI q] (ZZ t dr tx) w (fun v' S' w' => v' = none ∧ S' = (ZZ t dr tx) ∧ only 20 w w' ∧ eaB (w' 20) ∧ eaI (yCan w y) (yW w y) (yT w y) (w y 7) (Vt S (q + 1) 0) (w' 20)) zNo := by
  refine zA_intro ⟨plainFor_of_name (by decide +kernel), Or.inl (by decide +kernel)⟩ rfl (Nat.le_of_ble_eq_true rfl) ?_
  have hG := yG hY
  obtain ⟨⟨u1, u2⟩, -, ⟨u3, u4⟩, -, -, -, -, hle, -⟩ := id hY
  have hpn := pow8 u3 u4
  have hbq := hb (S * 8 + q) (by omega) (by omega)
  have hen : 0 ≤ w 20 (S * 8 + q) ∧ w 20 (S * 8 + q) ≤ 29 := hbq.resolve_left hne
  refine zA_range (fun hr => ?_)
  show zA l mX6_goOn false 3 0 0 (fun v' S' w' => v' = none ∧ S' = (ZZ t dr tx) ∧ only 20 w w' ∧ eaB (w' 20) ∧ eaI (yCan w y) (yW w y) (yT w y) (w y 7) (Vt S (q + 1) 0) (w' 20)) zNo 0 [zR 16, zR y, zI S, zI q, .null, .null, .null] [] (ZZ t dr tx) w
  refine zA_aload_n dX6_goOn_0 rfl ?_
  refine zA_getR (n := 20) dX6_goOn_1 fX6_21 c16 rfl ?_
  refine zA_iload_n dX6_goOn_4 rfl ?_
  refine zA_bipush dX6_goOn_5 rfl ?_
  refine zA_imul dX6_goOn_7 ?_
  refine zA_iload_n dX6_goOn_8 rfl ?_
  refine zA_iadd dX6_goOn_9 ?_
  refine zA_iaload dX6_goOn_10 c20 (by first | assumption | omega) (by first | assumption | omega) (by decide) ?_
  refine zA_istore (lo1 := [zR 16, zR y, zI S, zI q, zI (w 20 ((S * 8) + q)), .null, .null]) dX6_goOn_11 (by decide) rfl rfl ?_
  refine zA_iconst dX6_goOn_13 ?_
  refine zA_istore (lo1 := [zR 16, zR y, zI S, zI q, zI (w 20 ((S * 8) + q)), zI 0, .null]) dX6_goOn_14 (by decide) rfl rfl ?_
  have L16 : ∀ (z16 : Nat) (x : Int) (w1 : zW) (x0 : 0 ≤ x) (x1 : x ≤ w y 7) (hf : only 20 w w1) (hb1 : eaB (w1 20)) (he : w1 20 (S * 8 + q) = w 20 (S * 8 + q)) (hE1 : eaI (yCan w y) (yW w y) (yT w y) (w y 7) (Vt S q x) (w1 20)) (zm : (w y 7 - x).toNat < z16), zA l mX6_goOn false 3 0 0 (fun v' S' w' => v' = none ∧ S' = (ZZ t dr tx) ∧ only 20 w w' ∧ eaB (w' 20) ∧ eaI (yCan w y) (yW w y) (yT w y) (w y 7) (Vt S (q + 1) 0) (w' 20)) zNo 16 [zR 16, zR y, zI S, zI q, zI (w 20 ((S * 8) + q)), zI x, .null] [] (ZZ t dr tx) w1 := by
    intro z16
    induction z16 with
    | zero => intro x w1 x0 x1 hf hb1 he hE1 zm; exact absurd zm (Nat.not_lt_zero _)
    | succ z16 ih16 =>
      intro x w1 x0 x1 hf hb1 he hE1 zm
      refine zA_range (fun hr => ?_)
      obtain ⟨e1, e2, e3, e4, e5, e6⟩ := yd_c hy (w1 := w1) (w := w) (fun c x hc => hf c x (by omega))
      refine zA_iload dX6_goOn_16 rfl ?_
      refine zA_aload_n dX6_goOn_18 rfl ?_
      refine zA_getI dX6_goOn_19 fX6_65 (cY0 hy) rfl ?_
      refine zA_valI (w1 y 7) rfl ?_
      refine zA_valI (w y 7) (e6 7) ?_
      refine zA_icmp_ge (tgt := 90) dX6_goOn_22 (by decide) (by first | assumption | exact hr _ _ | exact inR_mk (by omega) (by omega)) (by first | assumption | exact hr _ _ | exact inR_mk (by omega) (by omega)) (fun c22 => ?_) (fun c22 => ?_)
      · skip
        refine zA_vret dX6_goOn_90 rfl ?_
        have hxn : x = w y 7 := by omega
        exact ⟨rfl, rfl, hf, hb1, eaI_V hE1 (fun S1 l1 y1 h1 h2 h3 h4 => by unfold Vt at h4 ⊢; omega) hd_b⟩
      · skip
        refine zA_iload_n dX6_goOn_25 rfl ?_
        refine zA_iload dX6_goOn_26 rfl ?_
        refine zA_ishr dX6_goOn_28 ?_
        refine zA_iconst dX6_goOn_29 ?_
        refine zA_iand dX6_goOn_30 ?_
        refine zA_valI (if tb S x = true then 1 else 0) (tb_get s0 (by omega) x0 (by omega)) ?_
        refine zA_if_ne (tgt := 84) dX6_goOn_31 (by decide) (inR_ite _) (fun c31 => ?_) (fun c31 => ?_)
        · skip
          replace c31 := zite_ne c31
          have htb : tb S x = true := by simpa using c31
          refine zA_iinc (lo1 := [zR 16, zR y, zI S, zI q, zI (w 20 ((S * 8) + q)), zI (x + 1), .null]) dX6_goOn_84 rfl (by decide) rfl rfl ?_
          refine zA_goto (tgt := 16) dX6_goOn_87 (by decide) ?_
          exact ih16 (x + 1) w1 (by omega) (by omega) hf hb1 he (eaI_u hG hE1 ⟨x0, by omega⟩ htb (fun S1 l1 y1 h => by unfold Vt at h ⊢; omega)) (by omega)
        · skip
          replace c31 := zite_eq c31
          have htb : tb S x = false := by simpa using c31
          have hox := or_ix u3 u4 s0 s1 x0 (show x < w y 7 by omega) htb q0 (by omega)
          have hbi := hb1 _ hox.1.1 hox.1.2
          have htr := ((hG.2 q q0 q1).2.2.1 x x0 (by omega))
          have heb := eo_b hG (l := x) (day := w 20 (S * 8 + q) + 1 + yT w y q x) x0 (by omega)
          refine zA_iload_n dX6_goOn_34 rfl ?_
          refine zA_iconst dX6_goOn_35 ?_
          refine zA_iload dX6_goOn_36 rfl ?_
          refine zA_ishl dX6_goOn_38 ?_
          refine zA_ior dX6_goOn_39 ?_
          refine zA_bipush dX6_goOn_40 rfl ?_
          refine zA_imul dX6_goOn_42 ?_
          refine zA_iload dX6_goOn_43 rfl ?_
          refine zA_iadd dX6_goOn_45 ?_
          refine zA_istore (lo1 := [zR 16, zR y, zI S, zI q, zI (w 20 ((S * 8) + q)), zI x, zI (((iOr S (iShl 1 x)) * 8) + x)]) dX6_goOn_46 (by decide) rfl rfl ?_
          refine zA_aload_n dX6_goOn_48 rfl ?_
          refine zA_getR (n := 20) dX6_goOn_49 fX6_21 c16 rfl ?_
          refine zA_iload dX6_goOn_52 rfl ?_
          refine zA_aload_n dX6_goOn_54 rfl ?_
          refine zA_getR (n := 20) dX6_goOn_55 fX6_21 c16 rfl ?_
          refine zA_iload dX6_goOn_58 rfl ?_
          refine zA_iaload dX6_goOn_60 c20 (by first | assumption | omega) (by first | assumption | omega) (by decide) ?_
          refine zA_aload_n dX6_goOn_61 rfl ?_
          refine zA_aload_n dX6_goOn_62 rfl ?_
          refine zA_iload dX6_goOn_63 rfl ?_
          refine zA_iload dX6_goOn_65 rfl ?_
          refine zA_iconst dX6_goOn_67 ?_
          refine zA_iadd dX6_goOn_68 ?_
          refine zA_aload_n dX6_goOn_69 rfl ?_
          refine zA_iload_n dX6_goOn_70 rfl ?_
          refine zA_iload dX6_goOn_71 rfl ?_
          refine zA_cS (st := [zI ((w 20 ((S * 8) + q)) + 1), zI x, zR y, zR 16, zI (w1 20 (((iOr S (iShl 1 x)) * 8) + x)), zI (((iOr S (iShl 1 x)) * 8) + x), zR 20]) dX6_goOn_73 sX6_travel kX6_108 (s_tr6 (w := w1) hy (e5 hY) (a := q) (b := x) q0 (by rw [e6]; exact q1) x0 (by rw [e6]; omega)) (by decide) rfl rfl (Nat.le_of_ble_eq_true rfl) (zRt_el ?_)
          show zA l mX6_goOn false 3 0 0 (fun v' S' w' => v' = none ∧ S' = (ZZ t dr tx) ∧ only 20 w w' ∧ eaB (w' 20) ∧ eaI (yCan w y) (yW w y) (yT w y) (w y 7) (Vt S (q + 1) 0) (w' 20)) zNo 76 [zR 16, zR y, zI S, zI q, zI (w 20 ((S * 8) + q)), zI x, zI (((iOr S (iShl 1 x)) * 8) + x)] [zI (yT w1 y q x), zI ((w 20 ((S * 8) + q)) + 1), zI x, zR y, zR 16, zI (w1 20 (((iOr S (iShl 1 x)) * 8) + x)), zI (((iOr S (iShl 1 x)) * 8) + x), zR 20] (ZZ t dr tx) w1
          refine zA_iadd dX6_goOn_76 ?_
          refine zA_cV (st := [zI (w1 20 (((iOr S (iShl 1 x)) * 8) + x)), zI (((iOr S (iShl 1 x)) * 8) + x), zR 20]) dX6_goOn_77 vX6_endOf kX6_100 (s_endOf (w := w1) hy (e5 hY) (bgO_c hy (fun c x hc hc2 => hf c x (by omega)) hB) (a := x) (d := w 20 (S * 8 + q) + 1 + yT w1 y q x) x0 (by rw [e6]; omega) (by rw [e4]; omega) (by rw [e4]; exact inR_mk (by omega) (by omega))) (by decide) c16 rfl rfl (Nat.le_of_ble_eq_true rfl) rfl (zRt_el ?_)
          show zA l mX6_goOn false 3 0 0 (fun v' S' w' => v' = none ∧ S' = (ZZ t dr tx) ∧ only 20 w w' ∧ eaB (w' 20) ∧ eaI (yCan w y) (yW w y) (yT w y) (w y 7) (Vt S (q + 1) 0) (w' 20)) zNo 80 [zR 16, zR y, zI S, zI q, zI (w 20 ((S * 8) + q)), zI x, zI (((iOr S (iShl 1 x)) * 8) + x)] [zI (eo (yCan w1 y) (yW w1 y) x (w 20 (S * 8 + q) + 1 + yT w1 y q x)), zI (w1 20 (((iOr S (iShl 1 x)) * 8) + x)), zI (((iOr S (iShl 1 x)) * 8) + x), zR 20] (ZZ t dr tx) w1
          refine zA_valI (eo (yCan w y) (yW w y) x (w 20 (S * 8 + q) + 1 + yT w y q x)) (by rw [e1, e2, e4]) ?_
          refine zA_mmin dX6_goOn_80 kmX6_111 zw_min (by first | assumption | exact hr _ _ | exact inR_mk (by omega) (by omega)) (by first | assumption | exact hr _ _ | exact inR_mk (by omega) (by omega)) (Nat.le_of_ble_eq_true rfl) ?_
          refine zA_iastore dX6_goOn_83 (by first | assumption | exact hr _ _ | exact inR_mk (by omega) (by omega)) c20 (by first | assumption | omega) (by first | assumption | omega) (by decide) ?_
          refine zA_namew (fun w_1 hw_1 => ?_)
          refine zA_range (fun hr => ?_)
          replace hw_1 : w_1 = up w1 20 (((iOr S (iShl 1 x)) * 8) + x) (min (w1 20 (((iOr S (iShl 1 x)) * 8) + x)) (eo (yCan w y) (yW w y) x (w 20 (S * 8 + q) + 1 + yT w y q x))) := hw_1
          refine zA_iinc (lo1 := [zR 16, zR y, zI S, zI q, zI (w 20 ((S * 8) + q)), zI (x + 1), zI (((iOr S (iShl 1 x)) * 8) + x)]) dX6_goOn_84 rfl (by decide) rfl rfl ?_
          refine zA_goto (tgt := 16) dX6_goOn_87 (by decide) ?_
          refine zA_drop 6 (lo1 := [zR 16, zR y, zI S, zI q, zI (w 20 ((S * 8) + q)), zI (x + 1), .null]) rfl ?_
          exact ih16 (x + 1) _ (by omega) (by omega) (by rw [hw_1]; exact only_up hf) (fun i i0 i1 => by
                    rw [hw_1]
                    by_cases e : i = (iOr S (iShl 1 x) * 8 + x)
                    · rw [e, up_same]; omega
                    · rw [up_idx _ _ _ _ e]; exact hb1 i i0 i1) (by rw [hw_1, up_idx _ _ _ _ hox.2.1]; exact he) (by
                    refine eaI_s hG hE1 (S := S) (l := q) (x := x) s0 s1 ⟨q0, q1⟩ ⟨x0, by omega⟩ htb (by rw [he]; exact hne) ?_ ?_ ?_ ?_
                    · rw [hw_1, up_same, he]
                    · intro i hi; rw [hw_1, up_idx _ _ _ _ hi]
                    · intro S1 l1 y1 h; unfold Vt at h ⊢; omega
                    · intro S1 l1 y1 h1 h2 h3 h4; unfold Vt; omega) (by omega)
  exact L16 _ 0 w (by omega) (by omega) only_rfl hb rfl hE (Nat.lt_succ_self _)

