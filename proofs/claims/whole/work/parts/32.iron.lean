/-! pure words -/
/-- the bands' numbers are as told -/
def okIron (w : zW) : Prop := ∀ k : Int, 0 ≤ k → k < 96 → (0 ≤ w 55 k ∧ w 55 k < 200) ∧ (0 ≤ w 56 k ∧ w 56 k ≤ 300) ∧ (0 ≤ w 57 k ∧ w 57 k ≤ 9999) ∧ (0 ≤ w 58 k ∧ w 58 k ≤ 999)
def iHeld (w : zW) (a y : Int) : Int := if y < w 56 a then 0 else max 0 (w 57 a - w 58 a * (y - w 56 a))
theorem okIron_fr {w w' : zW} (h : only 61 w w') (hI : okIron w) : okIron w' := fun k h0 h1 => by
  rw [h 55 k (by decide), h 56 k (by decide), h 57 k (by decide), h 58 k (by decide)]; exact hI k h0 h1
theorem iHeld_fr {w w' : zW} (h : only 61 w w') (a y : Int) : iHeld w' a y = iHeld w a y := by
  unfold iHeld; rw [h 56 a (by decide), h 57 a (by decide), h 58 a (by decide)]
theorem iHeld_b {w : zW} {a y : Int} (hI : okIron w) (h0 : 0 ≤ a) (h1 : a < 96) : 0 ≤ iHeld w a y ∧ iHeld w a y ≤ 9999 := by
  obtain ⟨⟨q1, q2⟩, ⟨q3, q4⟩, ⟨q5, q6⟩, ⟨q7, q8⟩⟩ := hI a h0 h1
  unfold iHeld
  split
  · exact ⟨by omega, by omega⟩
  · have := Int.mul_nonneg q7 (show 0 ≤ y - w 56 a by omega)
    exact ⟨by omega, by omega⟩
/-- what a band of a chimney holds of a course in a year -/
def cBand (w : zW) (c s y : Int) (b : Nat) : Int := if w 55 (8 * c + b) - 5 ≤ s ∧ s ≤ w 55 (8 * c + b) + 5 then iHeld w (8 * c + b) y else 0
def cBears (w : zW) (c s y : Int) : Int := w 60 c + zsum (w 59 c).toNat (cBand w c s y)
theorem cBand_b {w : zW} {c s y : Int} {b : Nat} (hI : okIron w) (h0 : 0 ≤ c) (h1 : c < 12) (hb : b < 8) : 0 ≤ cBand w c s y b ∧ cBand w c s y b ≤ 9999 := by
  have h := iHeld_b (a := 8 * c + b) (y := y) hI (by omega) (by omega)
  unfold cBand
  split
  · exact h
  · exact ⟨by omega, by omega⟩
set_option maxRecDepth 100000 in
set_option maxHeartbeats 4000000 in
theorem s_held {l : Launch} {t dr tx : Nat} {w : zW} {gr : Bool} {a y : Int} (hI : okIron w) (h0 : 0 ≤ a) (h1 : a < 96) (hy0 : 0 ≤ y) (hy : y ≤ 600) : zSp l mX3_held gr 1 0 0 [zR 54, zI a, zI y] (ZZ t dr tx) w (zRt (some (zI (iHeld w a y))) (ZZ t dr tx) w) zNo := by
  refine zA_intro ⟨plainFor_of_name (by decide +kernel), Or.inl (by decide +kernel)⟩ rfl (Nat.le_of_ble_eq_true rfl) ?_
  obtain ⟨⟨q1, q2⟩, ⟨q3, q4⟩, ⟨q5, q6⟩, ⟨q7, q8⟩⟩ := hI a h0 h1
  refine zA_range (fun hr => ?_)
  show zA l mX3_held gr 1 0 0 (zRt (some (zI (iHeld w a y))) (ZZ t dr tx) w) zNo 0 [zR 54, zI a, zI y] [] (ZZ t dr tx) w
  refine zA_iload_n dX3_held_0 rfl ?_
  refine zA_aload_n dX3_held_1 rfl ?_
  refine zA_getR (n := 56) dX3_held_2 fX3_15 c54 rfl ?_
  refine zA_iload_n dX3_held_5 rfl ?_
  refine zA_iaload dX3_held_6 c56 (by first | assumption | omega) (by first | assumption | omega) (by decide) ?_
  refine zA_icmp_ge (tgt := 14) dX3_held_7 (by decide) (by first | assumption | exact hr _ _ | exact inR_mk (by omega) (by omega)) (by first | assumption | exact hr _ _ | exact inR_mk (by omega) (by omega)) (fun c7 => ?_) (fun c7 => ?_)
  · skip
    have hm := zmulB q7 q8 (show 0 ≤ y - w 56 a by omega) (show y - w 56 a ≤ 600 by omega)
    refine zA_iconst dX3_held_14 ?_
    refine zA_aload_n dX3_held_15 rfl ?_
    refine zA_getR (n := 57) dX3_held_16 fX3_18 c54 rfl ?_
    refine zA_iload_n dX3_held_19 rfl ?_
    refine zA_iaload dX3_held_20 c57 (by first | assumption | omega) (by first | assumption | omega) (by decide) ?_
    refine zA_aload_n dX3_held_21 rfl ?_
    refine zA_getR (n := 58) dX3_held_22 fX3_21 c54 rfl ?_
    refine zA_iload_n dX3_held_25 rfl ?_
    refine zA_iaload dX3_held_26 c58 (by first | assumption | omega) (by first | assumption | omega) (by decide) ?_
    refine zA_iload_n dX3_held_27 rfl ?_
    refine zA_aload_n dX3_held_28 rfl ?_
    refine zA_getR (n := 56) dX3_held_29 fX3_15 c54 rfl ?_
    refine zA_iload_n dX3_held_32 rfl ?_
    refine zA_iaload dX3_held_33 c56 (by first | assumption | omega) (by first | assumption | omega) (by decide) ?_
    refine zA_isub dX3_held_34 ?_
    refine zA_imul dX3_held_35 ?_
    refine zA_isub dX3_held_36 ?_
    refine zA_mmax dX3_held_37 kmX3_47 zw_max ⟨by decide, by decide⟩ (by first | assumption | exact hr _ _ | exact inR_mk (by omega) (by omega)) (Nat.le_of_ble_eq_true rfl) ?_
    refine zA_iret dX3_held_40 rfl ?_
    exact zRt_i (by unfold iHeld; split <;> omega)
  · skip
    refine zA_iconst dX3_held_10 ?_
    refine zA_goto (tgt := 40) dX3_held_11 (by decide) ?_
    refine zA_iret dX3_held_40 rfl ?_
    exact zRt_i (by unfold iHeld; split <;> omega)

set_option maxRecDepth 100000 in
set_option maxHeartbeats 4000000 in
theorem s_wanting {l : Launch} {t dr tx : Nat} {w : zW} {gr : Bool} {s n v : Int} (h0 : 0 ≤ s) (h1 : s < n) (hn : n ≤ 200) (hv0 : 0 ≤ v) (hv : v ≤ 13) (hb0 : -1000000 ≤ w 61 s) (hb : w 61 s ≤ 100000000) : zSp l mX3_wanting gr 1 0 0 [zR 54, zI s, zI n, zI v] (ZZ t dr tx) w (zRt (some (zI (max 0 (v * (n - 1 - s) - w 61 s)))) (ZZ t dr tx) w) zNo := by
  refine zA_intro ⟨plainFor_of_name (by decide +kernel), Or.inl (by decide +kernel)⟩ rfl (Nat.le_of_ble_eq_true rfl) ?_
  have hm := zmulB hv0 hv (show 0 ≤ n - 1 - s by omega) (show n - 1 - s ≤ 200 by omega)
  refine zA_range (fun hr => ?_)
  show zA l mX3_wanting gr 1 0 0 (zRt (some (zI (max 0 (v * (n - 1 - s) - w 61 s)))) (ZZ t dr tx) w) zNo 0 [zR 54, zI s, zI n, zI v] [] (ZZ t dr tx) w
  refine zA_iconst dX3_wanting_0 ?_
  refine zA_iload_n dX3_wanting_1 rfl ?_
  refine zA_iload_n dX3_wanting_2 rfl ?_
  refine zA_iconst dX3_wanting_3 ?_
  refine zA_isub dX3_wanting_4 ?_
  refine zA_iload_n dX3_wanting_5 rfl ?_
  refine zA_isub dX3_wanting_6 ?_
  refine zA_imul dX3_wanting_7 ?_
  refine zA_aload_n dX3_wanting_8 rfl ?_
  refine zA_getR (n := 61) dX3_wanting_9 fX3_30 c54 rfl ?_
  refine zA_iload_n dX3_wanting_12 rfl ?_
  refine zA_iaload dX3_wanting_13 c61 (by first | assumption | omega) (by first | assumption | omega) (by decide) ?_
  refine zA_isub dX3_wanting_14 ?_
  refine zA_mmax dX3_wanting_15 kmX3_47 zw_max ⟨by decide, by decide⟩ (by first | assumption | exact hr _ _ | exact inR_mk (by omega) (by omega)) (Nat.le_of_ble_eq_true rfl) ?_
  refine zA_iret dX3_wanting_18 rfl ?_
  exact zRt_i rfl

set_option maxRecDepth 100000 in
set_option maxHeartbeats 4000000 in
theorem s_addAround {l : Launch} {t dr tx : Nat} {w : zW} {gr : Bool} {p u n : Int} (h0 : 0 ≤ p) (h1 : p < 200) (hn0 : 0 ≤ n) (hn : n ≤ 200) (hu0 : 0 ≤ u) (hu : u ≤ 20000) (hb : ∀ s, 0 ≤ s → s < n → 0 ≤ w 61 s ∧ w 61 s ≤ 100000000) : zSp l mX3_addAround gr 1 0 0 [zR 54, zI p, zI u, zI n] (ZZ t dr tx) w (fun v' S' w' => v' = none ∧ S' = (ZZ t dr tx) ∧ only 61 w w' ∧ ∀ s, 0 ≤ s → s < n → w' 61 s = w 61 s + (if p - 5 ≤ s ∧ s ≤ p + 5 then u else 0)) zNo := by
  refine zA_intro ⟨plainFor_of_name (by decide +kernel), Or.inl (by decide +kernel)⟩ rfl (Nat.le_of_ble_eq_true rfl) ?_
  refine zA_range (fun hr => ?_)
  show zA l mX3_addAround gr 1 0 0 (fun v' S' w' => v' = none ∧ S' = (ZZ t dr tx) ∧ only 61 w w' ∧ ∀ s, 0 ≤ s → s < n → w' 61 s = w 61 s + (if p - 5 ≤ s ∧ s ≤ p + 5 then u else 0)) zNo 0 [zR 54, zI p, zI u, zI n, .null, .null] [] (ZZ t dr tx) w
  refine zA_iload_n dX3_addAround_0 rfl ?_
  refine zA_iconst dX3_addAround_1 ?_
  refine zA_isub dX3_addAround_2 ?_
  refine zA_iload_n dX3_addAround_3 rfl ?_
  refine zA_iconst dX3_addAround_4 ?_
  refine zA_iadd dX3_addAround_5 ?_
  refine zA_mmin dX3_addAround_6 kmX3_52 zw_min (by first | assumption | exact hr _ _ | exact inR_mk (by omega) (by omega)) (by first | assumption | exact hr _ _ | exact inR_mk (by omega) (by omega)) (Nat.le_of_ble_eq_true rfl) ?_
  refine zA_istore (lo1 := [zR 54, zI p, zI u, zI n, zI (min (n - 1) (p + 5)), .null]) dX3_addAround_9 (by decide) rfl rfl ?_
  refine zA_iconst dX3_addAround_11 ?_
  refine zA_iload_n dX3_addAround_12 rfl ?_
  refine zA_iconst dX3_addAround_13 ?_
  refine zA_isub dX3_addAround_14 ?_
  refine zA_mmax dX3_addAround_15 kmX3_47 zw_max ⟨by decide, by decide⟩ (by first | assumption | exact hr _ _ | exact inR_mk (by omega) (by omega)) (Nat.le_of_ble_eq_true rfl) ?_
  refine zA_istore (lo1 := [zR 54, zI p, zI u, zI n, zI (min (n - 1) (p + 5)), zI (max 0 (p - 5))]) dX3_addAround_18 (by decide) rfl rfl ?_
  have L20 : ∀ (z20 : Nat) (s : Int) (w1 : zW) (hs0 : max 0 (p - 5) ≤ s) (hs1 : s ≤ max (max 0 (p - 5)) (min (n - 1) (p + 5) + 1)) (hf : only 61 w w1) (hv : ∀ x, 0 ≤ x → x < n → w1 61 x = w 61 x + (if p - 5 ≤ x ∧ x < s then u else 0)) (zm : (n - s).toNat < z20), zA l mX3_addAround gr 1 0 0 (fun v' S' w' => v' = none ∧ S' = (ZZ t dr tx) ∧ only 61 w w' ∧ ∀ s, 0 ≤ s → s < n → w' 61 s = w 61 s + (if p - 5 ≤ s ∧ s ≤ p + 5 then u else 0)) zNo 20 [zR 54, zI p, zI u, zI n, zI (min (n - 1) (p + 5)), zI s] [] (ZZ t dr tx) w1 := by
    intro z20
    induction z20 with
    | zero => intro s w1 hs0 hs1 hf hv zm; exact absurd zm (Nat.not_lt_zero _)
    | succ z20 ih20 =>
      intro s w1 hs0 hs1 hf hv zm
      refine zA_range (fun hr => ?_)
      refine zA_iload dX3_addAround_20 rfl ?_
      refine zA_iload dX3_addAround_22 rfl ?_
      refine zA_icmp_gt (tgt := 44) dX3_addAround_24 (by decide) (by first | assumption | exact hr _ _ | exact inR_mk (by omega) (by omega)) (by first | assumption | exact hr _ _ | exact inR_mk (by omega) (by omega)) (fun c24 => ?_) (fun c24 => ?_)
      · skip
        refine zA_vret dX3_addAround_44 rfl ?_
        refine ⟨rfl, rfl, hf, fun x hx0 hx1 => ?_⟩
        rw [hv x hx0 hx1]
        split <;> split <;> omega
      · skip
        have e0 := hv s (by omega) (by omega)
        rw [if_neg (by omega)] at e0
        have e2 := hb s (by omega) (by omega)
        refine zA_aload_n dX3_addAround_27 rfl ?_
        refine zA_getR (n := 61) dX3_addAround_28 fX3_30 c54 rfl ?_
        refine zA_iload dX3_addAround_31 rfl ?_
        refine zA_dup2 dX3_addAround_33 rfl rfl ?_
        refine zA_iaload dX3_addAround_34 c61 (by first | assumption | omega) (by first | assumption | omega) (by decide) ?_
        refine zA_iload_n dX3_addAround_35 rfl ?_
        refine zA_iadd dX3_addAround_36 ?_
        refine zA_iastore dX3_addAround_37 (by first | assumption | exact hr _ _ | exact inR_mk (by omega) (by omega)) c61 (by first | assumption | omega) (by first | assumption | omega) (by decide) ?_
        refine zA_namew (fun w_1 hw_1 => ?_)
        refine zA_range (fun hr => ?_)
        refine zA_iinc (lo1 := [zR 54, zI p, zI u, zI n, zI (min (n - 1) (p + 5)), zI (s + 1)]) dX3_addAround_38 rfl (by decide) rfl rfl ?_
        refine zA_goto (tgt := 20) dX3_addAround_41 (by decide) ?_
        exact ih20 (s + 1) w_1 (by omega) (by omega) (by rw [hw_1]; exact only_up hf) (fun x hx0 hx1 => by
            have e1 := hv x hx0 hx1
            rw [hw_1]
            by_cases hx : x = s
            · subst hx; rw [up_same, e1]; split <;> split <;> omega
            · rw [up_idx _ _ _ _ hx, e1]; split <;> split <;> omega) (by omega)
  exact L20 _ (max 0 (p - 5)) w (by omega) (by omega) only_rfl (fun x hx0 hx1 => by split <;> omega) (Nat.lt_succ_self _)

set_option maxRecDepth 100000 in
set_option maxHeartbeats 4000000 in
theorem s_fillBears {l : Launch} {t dr tx : Nat} {w : zW} {gr : Bool} {c y n : Int} (hI : okIron w) (h0 : 0 ≤ c) (h1 : c < 12) (hn0 : 0 ≤ n) (hn : n ≤ 200) (hy0 : 0 ≤ y) (hy : y ≤ 600) (hm0 : 0 ≤ w 59 c) (hm1 : w 59 c ≤ 8) (hq0 : 0 ≤ w 60 c) (hq : w 60 c ≤ 9999) : zSp l mX3_fillBears gr 2 0 0 [zR 54, zI c, zI y, zI n] (ZZ t dr tx) w (fun v' S' w' => v' = none ∧ S' = (ZZ t dr tx) ∧ only 61 w w' ∧ ∀ s, 0 ≤ s → s < n → w' 61 s = cBears w c s y) zNo := by
  refine zA_intro ⟨plainFor_of_name (by decide +kernel), Or.inl (by decide +kernel)⟩ rfl (Nat.le_of_ble_eq_true rfl) ?_
  refine zA_range (fun hr => ?_)
  show zA l mX3_fillBears gr 2 0 0 (fun v' S' w' => v' = none ∧ S' = (ZZ t dr tx) ∧ only 61 w w' ∧ ∀ s, 0 ≤ s → s < n → w' 61 s = cBears w c s y) zNo 0 [zR 54, zI c, zI y, zI n, .null] [] (ZZ t dr tx) w
  refine zA_iconst dX3_fillBears_0 ?_
  refine zA_istore (lo1 := [zR 54, zI c, zI y, zI n, zI 0]) dX3_fillBears_1 (by decide) rfl rfl ?_
  have L3 : ∀ (z3 : Nat) (s : Int) (w1 : zW) (hs0 : 0 ≤ s) (hs1 : s ≤ n) (hf : only 61 w w1) (hv : ∀ x, 0 ≤ x → x < s → w1 61 x = w 60 c) (zm : (n - s).toNat < z3), zA l mX3_fillBears gr 2 0 0 (fun v' S' w' => v' = none ∧ S' = (ZZ t dr tx) ∧ only 61 w w' ∧ ∀ s, 0 ≤ s → s < n → w' 61 s = cBears w c s y) zNo 3 [zR 54, zI c, zI y, zI n, zI s] [] (ZZ t dr tx) w1 := by
    intro z3
    induction z3 with
    | zero => intro s w1 hs0 hs1 hf hv zm; exact absurd zm (Nat.not_lt_zero _)
    | succ z3 ih3 =>
      intro s w1 hs0 hs1 hf hv zm
      refine zA_range (fun hr => ?_)
      refine zA_iload dX3_fillBears_3 rfl ?_
      refine zA_iload_n dX3_fillBears_5 rfl ?_
      refine zA_icmp_ge (tgt := 28) dX3_fillBears_6 (by decide) (by first | assumption | exact hr _ _ | exact inR_mk (by omega) (by omega)) (by first | assumption | exact hr _ _ | exact inR_mk (by omega) (by omega)) (fun c6 => ?_) (fun c6 => ?_)
      · skip
        refine zA_iload_n dX3_fillBears_28 rfl ?_
        refine zA_bipush dX3_fillBears_29 rfl ?_
        refine zA_imul dX3_fillBears_31 ?_
        refine zA_istore (lo1 := [zR 54, zI c, zI y, zI n, zI (c * 8)]) dX3_fillBears_32 (by decide) rfl rfl ?_
        have L34 : ∀ (z34 : Nat) (a : Int) (w2 : zW) (ha0 : 8 * c ≤ a) (ha1 : a ≤ 8 * c + w 59 c) (hf2 : only 61 w w2) (hv2 : ∀ x, 0 ≤ x → x < n → w2 61 x = w 60 c + zsum (a - 8 * c).toNat (cBand w c x y)) (zm : (8 * c + w 59 c - a).toNat < z34), zA l mX3_fillBears gr 2 0 0 (fun v' S' w' => v' = none ∧ S' = (ZZ t dr tx) ∧ only 61 w w' ∧ ∀ s, 0 ≤ s → s < n → w' 61 s = cBears w c s y) zNo 34 [zR 54, zI c, zI y, zI n, zI a] [] (ZZ t dr tx) w2 := by
          intro z34
          induction z34 with
          | zero => intro a w2 ha0 ha1 hf2 hv2 zm; exact absurd zm (Nat.not_lt_zero _)
          | succ z34 ih34 =>
            intro a w2 ha0 ha1 hf2 hv2 zm
            refine zA_range (fun hr => ?_)
            have e59 := hf2 59 c (by decide)
            refine zA_iload dX3_fillBears_34 rfl ?_
            refine zA_iload_n dX3_fillBears_36 rfl ?_
            refine zA_bipush dX3_fillBears_37 rfl ?_
            refine zA_imul dX3_fillBears_39 ?_
            refine zA_aload_n dX3_fillBears_40 rfl ?_
            refine zA_getR (n := 59) dX3_fillBears_41 fX3_24 c54 rfl ?_
            refine zA_iload_n dX3_fillBears_44 rfl ?_
            refine zA_iaload dX3_fillBears_45 c59 (by first | assumption | omega) (by first | assumption | omega) (by decide) ?_
            refine zA_iadd dX3_fillBears_46 ?_
            refine zA_icmp_ge (tgt := 75) dX3_fillBears_47 (by decide) (by first | assumption | exact hr _ _ | exact inR_mk (by omega) (by omega)) (by first | assumption | exact hr _ _ | exact inR_mk (by omega) (by omega)) (fun c47 => ?_) (fun c47 => ?_)
            · skip
              have e59b : a = 8 * c + w 59 c := by omega
              refine zA_vret dX3_fillBears_75 rfl ?_
              refine ⟨rfl, rfl, hf2, fun x hx0 hx1 => ?_⟩
              rw [hv2 x hx0 hx1, e59b]
              unfold cBears
              congr 2
              omega
            · skip
              have e55 := hf2 55 a (by decide)
              have e56 := hI a (by omega) (by omega)
              have eh := iHeld_b (w := w2) (a := a) (y := y) (okIron_fr hf2 hI) (by omega) (by omega)
              have hbb : ∀ s, 0 ≤ s → s < n → 0 ≤ w2 61 s ∧ w2 61 s ≤ 100000000 := fun s hs0 hs1 => by
                have := zsum_b (f := cBand w c s y) (B := 9999) (a - 8 * c).toNat (fun k hk => cBand_b hI h0 h1 (by omega))
                rw [hv2 s hs0 hs1]
                omega
              refine zA_aload_n dX3_fillBears_50 rfl ?_
              refine zA_aload_n dX3_fillBears_51 rfl ?_
              refine zA_getR (n := 55) dX3_fillBears_52 fX3_11 c54 rfl ?_
              refine zA_iload dX3_fillBears_55 rfl ?_
              refine zA_iaload dX3_fillBears_57 c55 (by first | assumption | omega) (by first | assumption | omega) (by decide) ?_
              refine zA_aload_n dX3_fillBears_58 rfl ?_
              refine zA_iload dX3_fillBears_59 rfl ?_
              refine zA_iload_n dX3_fillBears_61 rfl ?_
              refine zA_cV (st := [zI (w2 55 a), zR 54]) dX3_fillBears_62 vX3_held kX3_39 (s_held (w := w2) (a := a) (y := y) (okIron_fr hf2 hI) (by omega) (by omega) hy0 hy) (by decide) c54 rfl rfl (Nat.le_of_ble_eq_true rfl) rfl (zRt_el ?_)
              show zA l mX3_fillBears gr 2 0 0 (fun v' S' w' => v' = none ∧ S' = (ZZ t dr tx) ∧ only 61 w w' ∧ ∀ s, 0 ≤ s → s < n → w' 61 s = cBears w c s y) zNo 65 [zR 54, zI c, zI y, zI n, zI a] [zI (iHeld w2 a y), zI (w2 55 a), zR 54] (ZZ t dr tx) w2
              refine zA_iload_n dX3_fillBears_65 rfl ?_
              refine zA_cV (st := []) dX3_fillBears_66 vX3_addAround kX3_43 (s_addAround (w := w2) (p := w2 55 a) (u := iHeld w2 a y) (n := n) (by omega) (by omega) hn0 hn eh.1 (by omega) hbb) (by decide) c54 rfl rfl (Nat.le_of_ble_eq_true rfl) rfl (fun q_1_v q_1_S q_1_w q_1 => ?_)
              obtain ⟨rfl, rfl, hq3, hq4⟩ := q_1
              refine zA_range (fun hr => ?_)
              show zA l mX3_fillBears gr 2 0 0 (fun v' S' w' => v' = none ∧ S' = (ZZ t dr tx) ∧ only 61 w w' ∧ ∀ s, 0 ≤ s → s < n → w' 61 s = cBears w c s y) zNo 69 [zR 54, zI c, zI y, zI n, zI a] [] (ZZ t dr tx) q_1_w
              refine zA_iinc (lo1 := [zR 54, zI c, zI y, zI n, zI (a + 1)]) dX3_fillBears_69 rfl (by decide) rfl rfl ?_
              refine zA_goto (tgt := 34) dX3_fillBears_72 (by decide) ?_
              exact ih34 (a + 1) q_1_w (by omega) (by omega) (only_tr hf2 hq3) (fun x hx0 hx1 => by
            have hk : (a + 1 - 8 * c).toNat = (a - 8 * c).toNat + 1 := by omega
            have hk2 : 8 * c + ((a - 8 * c).toNat : Int) = a := by omega
            rw [hq4 x hx0 hx1, hv2 x hx0 hx1, hk]
            simp only [zsum, cBand, hk2]
            rw [e55, iHeld_fr hf2]
            split <;> omega) (by omega)
        exact L34 _ (c * 8) w1 (by omega) (by omega) hf (fun x hx0 hx1 => by
          have this : (c * 8 - 8 * c).toNat = 0 := by omega
          rw [hv x hx0 (by omega), this]; simp [zsum]) (Nat.lt_succ_self _)
      · skip
        refine zA_aload_n dX3_fillBears_9 rfl ?_
        refine zA_getR (n := 61) dX3_fillBears_10 fX3_30 c54 rfl ?_
        refine zA_iload dX3_fillBears_13 rfl ?_
        refine zA_aload_n dX3_fillBears_15 rfl ?_
        refine zA_getR (n := 60) dX3_fillBears_16 fX3_27 c54 rfl ?_
        refine zA_iload_n dX3_fillBears_19 rfl ?_
        refine zA_iaload dX3_fillBears_20 c60 (by first | assumption | omega) (by first | assumption | omega) (by decide) ?_
        refine zA_iastore dX3_fillBears_21 (by first | assumption | exact hr _ _ | exact inR_mk (by omega) (by omega)) c61 (by first | assumption | omega) (by first | assumption | omega) (by decide) ?_
        refine zA_namew (fun w_2 hw_2 => ?_)
        refine zA_range (fun hr => ?_)
        refine zA_iinc (lo1 := [zR 54, zI c, zI y, zI n, zI (s + 1)]) dX3_fillBears_22 rfl (by decide) rfl rfl ?_
        refine zA_goto (tgt := 3) dX3_fillBears_25 (by decide) ?_
        exact ih3 (s + 1) w_2 (by omega) (by omega) (by rw [hw_2]; exact only_up hf) (fun x hx0 hx1 => by
            rw [hw_2]
            by_cases hx : x = s
            · subst hx; rw [up_same, hf 60 c (by decide)]
            · rw [up_idx _ _ _ _ hx]; exact hv x hx0 (by omega)) (by omega)
  exact L3 _ 0 w (by omega) (by omega) only_rfl (fun x hx0 hx1 => by omega) (Nat.lt_succ_self _)

/-- how many courses are weak, the first, the most that is wanting: of a row of what is wanting -/
def wkMany (f : Int → Int) : Nat → Int
  | 0 => 0
  | k + 1 => wkMany f k + (if 0 < f k then 1 else 0)
def wkMost (f : Int → Int) : Nat → Int
  | 0 => 0
  | k + 1 => max (wkMost f k) (f k)
def isLeast (f : Int → Int) (n r : Int) : Prop := (r = -1 ∧ ∀ s, 0 ≤ s → s < n → ¬ 0 < f s) ∨ (0 ≤ r ∧ r < n ∧ 0 < f r ∧ ∀ s, 0 ≤ s → s < r → ¬ 0 < f s)
def cWant (w : zW) (n v s : Int) : Int := max 0 (v * (n - 1 - s) - w 61 s)
theorem cWant_b {w : zW} {n v s : Int} (h0 : 0 ≤ s) (h1 : s < n) (hn : n ≤ 200) (hv0 : 0 ≤ v) (hv : v ≤ 13) (hb : 0 ≤ w 61 s) : 0 ≤ cWant w n v s ∧ cWant w n v s ≤ 2600 := by
  have hm := zmulB hv0 hv (show 0 ≤ n - 1 - s by omega) (show n - 1 - s ≤ 200 by omega)
  unfold cWant
  omega
theorem wkMany_b (f : Int → Int) (k : Nat) : 0 ≤ wkMany f k ∧ wkMany f k ≤ k := by
  induction k with
  | zero => exact ⟨Int.le_refl _, Int.le_refl _⟩
  | succ k ih => simp only [wkMany]; split <;> omega
set_option maxRecDepth 100000 in
set_option maxHeartbeats 4000000 in
theorem s_weakOnes {l : Launch} {t dr tx : Nat} {w : zW} {gr : Bool} {n v : Int} (h0 : 0 ≤ n) (hn : n ≤ 200) (hv0 : 0 ≤ v) (hv : v ≤ 13) (hb : ∀ s, 0 ≤ s → s < n → 0 ≤ w 61 s ∧ w 61 s ≤ 100000000) : zSp l mX3_weakOnes gr 2 0 0 [zR 54, zI n, zI v] (ZZ t dr tx) w (zRt (some (zI (wkMany (cWant w n v) n.toNat))) (ZZ t dr tx) w) zNo := by
  refine zA_intro ⟨plainFor_of_name (by decide +kernel), Or.inl (by decide +kernel)⟩ rfl (Nat.le_of_ble_eq_true rfl) ?_
  refine zA_range (fun hr => ?_)
  show zA l mX3_weakOnes gr 2 0 0 (zRt (some (zI (wkMany (cWant w n v) n.toNat))) (ZZ t dr tx) w) zNo 0 [zR 54, zI n, zI v, .null, .null] [] (ZZ t dr tx) w
  refine zA_iconst dX3_weakOnes_0 ?_
  refine zA_istore_n (lo1 := [zR 54, zI n, zI v, zI 0, .null]) dX3_weakOnes_1 (by decide) rfl rfl ?_
  refine zA_iconst dX3_weakOnes_2 ?_
  refine zA_istore (lo1 := [zR 54, zI n, zI v, zI 0, zI 0]) dX3_weakOnes_3 (by decide) rfl rfl ?_
  have L5 : ∀ (z5 : Nat) (m : Int) (s : Int) (hs0 : 0 ≤ s) (hs1 : s ≤ n) (hm : m = wkMany (cWant w n v) s.toNat) (zm : (n - s).toNat < z5), zA l mX3_weakOnes gr 2 0 0 (zRt (some (zI (wkMany (cWant w n v) n.toNat))) (ZZ t dr tx) w) zNo 5 [zR 54, zI n, zI v, zI m, zI s] [] (ZZ t dr tx) w := by
    intro z5
    induction z5 with
    | zero => intro m s hs0 hs1 hm zm; exact absurd zm (Nat.not_lt_zero _)
    | succ z5 ih5 =>
      intro m s hs0 hs1 hm zm
      refine zA_iload dX3_weakOnes_5 rfl ?_
      refine zA_iload_n dX3_weakOnes_7 rfl ?_
      refine zA_icmp_ge (tgt := 31) dX3_weakOnes_8 (by decide) (by first | assumption | exact hr _ _ | exact inR_mk (by omega) (by omega)) (by first | assumption | exact hr _ _ | exact inR_mk (by omega) (by omega)) (fun c8 => ?_) (fun c8 => ?_)
      · skip
        refine zA_iload_n dX3_weakOnes_31 rfl ?_
        refine zA_iret dX3_weakOnes_32 rfl ?_
        exact zRt_i (by rw [hm]; congr 1; omega)
      · skip
        have hwb := cWant_b (w := w) (s := s) (n := n) (v := v) (by omega) (by omega) hn hv0 hv (hb s (by omega) (by omega)).1
        unfold cWant at hwb
        have hmb := wkMany_b (cWant w n v) s.toNat
        refine zA_aload_n dX3_weakOnes_11 rfl ?_
        refine zA_iload dX3_weakOnes_12 rfl ?_
        refine zA_iload_n dX3_weakOnes_14 rfl ?_
        refine zA_iload_n dX3_weakOnes_15 rfl ?_
        refine zA_cV (st := []) dX3_weakOnes_16 vX3_wanting kX3_55 (s_wanting (w := w) (s := s) (n := n) (v := v) (by omega) (by omega) hn hv0 hv (by have := hb s (by omega) (by omega); omega) (hb s (by omega) (by omega)).2) (by decide) c54 rfl rfl (Nat.le_of_ble_eq_true rfl) rfl (zRt_el ?_)
        show zA l mX3_weakOnes gr 2 0 0 (zRt (some (zI (wkMany (cWant w n v) n.toNat))) (ZZ t dr tx) w) zNo 19 [zR 54, zI n, zI v, zI m, zI s] [zI (max 0 (v * (n - 1 - s) - w 61 s))] (ZZ t dr tx) w
        refine zA_if_le (tgt := 25) dX3_weakOnes_19 (by decide) (by first | assumption | exact hr _ _ | exact inR_mk (by omega) (by omega)) (fun c19 => ?_) (fun c19 => ?_)
        · skip
          refine zA_iinc (lo1 := [zR 54, zI n, zI v, zI m, zI (s + 1)]) dX3_weakOnes_25 rfl (by decide) rfl rfl ?_
          refine zA_goto (tgt := 5) dX3_weakOnes_28 (by decide) ?_
          exact ih5 m (s + 1) (by omega) (by omega) (by rw [show (s + 1).toNat = s.toNat + 1 by omega]; simp only [wkMany]; rw [show ((s.toNat : Nat) : Int) = s by omega, hm]; unfold cWant; split <;> omega) (by omega)
        · skip
          refine zA_iinc (lo1 := [zR 54, zI n, zI v, zI (m + 1), zI s]) dX3_weakOnes_22 rfl (by decide) rfl rfl ?_
          refine zA_iinc (lo1 := [zR 54, zI n, zI v, zI (m + 1), zI (s + 1)]) dX3_weakOnes_25 rfl (by decide) rfl rfl ?_
          refine zA_goto (tgt := 5) dX3_weakOnes_28 (by decide) ?_
          exact ih5 (m + 1) (s + 1) (by omega) (by omega) (by rw [show (s + 1).toNat = s.toNat + 1 by omega]; simp only [wkMany]; rw [show ((s.toNat : Nat) : Int) = s by omega, hm]; unfold cWant; split <;> omega) (by omega)
  exact L5 _ 0 0 (by omega) (by omega) rfl (Nat.lt_succ_self _)

set_option maxRecDepth 100000 in
set_option maxHeartbeats 4000000 in
theorem s_leastWeak {l : Launch} {t dr tx : Nat} {w : zW} {gr : Bool} {n v : Int} (h0 : 0 ≤ n) (hn : n ≤ 200) (hv0 : 0 ≤ v) (hv : v ≤ 13) (hb : ∀ s, 0 ≤ s → s < n → 0 ≤ w 61 s ∧ w 61 s ≤ 100000000) : zSp l mX3_leastWeak gr 2 0 0 [zR 54, zI n, zI v] (ZZ t dr tx) w (zRp1 (isLeast (cWant w n v) n) (ZZ t dr tx) w) zNo := by
  refine zA_intro ⟨plainFor_of_name (by decide +kernel), Or.inl (by decide +kernel)⟩ rfl (Nat.le_of_ble_eq_true rfl) ?_
  refine zA_range (fun hr => ?_)
  show zA l mX3_leastWeak gr 2 0 0 (zRp1 (isLeast (cWant w n v) n) (ZZ t dr tx) w) zNo 0 [zR 54, zI n, zI v, .null] [] (ZZ t dr tx) w
  refine zA_iconst dX3_leastWeak_0 ?_
  refine zA_istore_n (lo1 := [zR 54, zI n, zI v, zI 0]) dX3_leastWeak_1 (by decide) rfl rfl ?_
  have L2 : ∀ (z2 : Nat) (s : Int) (hs0 : 0 ≤ s) (hs1 : s ≤ n) (hm : ∀ x, 0 ≤ x → x < s → ¬ 0 < cWant w n v x) (zm : (n - s).toNat < z2), zA l mX3_leastWeak gr 2 0 0 (zRp1 (isLeast (cWant w n v) n) (ZZ t dr tx) w) zNo 2 [zR 54, zI n, zI v, zI s] [] (ZZ t dr tx) w := by
    intro z2
    induction z2 with
    | zero => intro s hs0 hs1 hm zm; exact absurd zm (Nat.not_lt_zero _)
    | succ z2 ih2 =>
      intro s hs0 hs1 hm zm
      refine zA_iload_n dX3_leastWeak_2 rfl ?_
      refine zA_iload_n dX3_leastWeak_3 rfl ?_
      refine zA_icmp_ge (tgt := 25) dX3_leastWeak_4 (by decide) (by first | assumption | exact hr _ _ | exact inR_mk (by omega) (by omega)) (by first | assumption | exact hr _ _ | exact inR_mk (by omega) (by omega)) (fun c4 => ?_) (fun c4 => ?_)
      · skip
        refine zA_iconst dX3_leastWeak_25 ?_
        refine zA_iret dX3_leastWeak_26 rfl ?_
        exact ⟨⟨_, rfl, Or.inl ⟨rfl, fun x hx0 hx1 => hm x hx0 (by omega)⟩⟩, rfl, rfl⟩
      · skip
        have hwb := cWant_b (w := w) (s := s) (n := n) (v := v) (by omega) (by omega) hn hv0 hv (hb s (by omega) (by omega)).1
        unfold cWant at hwb
        refine zA_aload_n dX3_leastWeak_7 rfl ?_
        refine zA_iload_n dX3_leastWeak_8 rfl ?_
        refine zA_iload_n dX3_leastWeak_9 rfl ?_
        refine zA_iload_n dX3_leastWeak_10 rfl ?_
        refine zA_cV (st := []) dX3_leastWeak_11 vX3_wanting kX3_55 (s_wanting (w := w) (s := s) (n := n) (v := v) (by omega) (by omega) hn hv0 hv (by have := hb s (by omega) (by omega); omega) (hb s (by omega) (by omega)).2) (by decide) c54 rfl rfl (Nat.le_of_ble_eq_true rfl) rfl (zRt_el ?_)
        show zA l mX3_leastWeak gr 2 0 0 (zRp1 (isLeast (cWant w n v) n) (ZZ t dr tx) w) zNo 14 [zR 54, zI n, zI v, zI s] [zI (max 0 (v * (n - 1 - s) - w 61 s))] (ZZ t dr tx) w
        refine zA_if_le (tgt := 19) dX3_leastWeak_14 (by decide) (by first | assumption | exact hr _ _ | exact inR_mk (by omega) (by omega)) (fun c14 => ?_) (fun c14 => ?_)
        · skip
          refine zA_iinc (lo1 := [zR 54, zI n, zI v, zI (s + 1)]) dX3_leastWeak_19 rfl (by decide) rfl rfl ?_
          refine zA_goto (tgt := 2) dX3_leastWeak_22 (by decide) ?_
          exact ih2 (s + 1) (by omega) (by omega) (fun x hx0 hx1 => by
            by_cases hx : x = s
            · subst hx; unfold cWant; omega
            · exact hm x hx0 (by omega)) (by omega)
        · skip
          refine zA_iload_n dX3_leastWeak_17 rfl ?_
          refine zA_iret dX3_leastWeak_18 rfl ?_
          exact ⟨⟨s, rfl, Or.inr ⟨hs0, by omega, by unfold cWant; omega, hm⟩⟩, rfl, rfl⟩
  exact L2 _ 0 (by omega) (by omega) (fun x hx0 hx1 => by omega) (Nat.lt_succ_self _)

set_option maxRecDepth 100000 in
set_option maxHeartbeats 4000000 in
theorem s_mostWanting {l : Launch} {t dr tx : Nat} {w : zW} {gr : Bool} {n v : Int} (h0 : 0 ≤ n) (hn : n ≤ 200) (hv0 : 0 ≤ v) (hv : v ≤ 13) (hb : ∀ s, 0 ≤ s → s < n → 0 ≤ w 61 s ∧ w 61 s ≤ 100000000) : zSp l mX3_mostWanting gr 2 0 0 [zR 54, zI n, zI v] (ZZ t dr tx) w (zRt (some (zI (wkMost (cWant w n v) n.toNat))) (ZZ t dr tx) w) zNo := by
  refine zA_intro ⟨plainFor_of_name (by decide +kernel), Or.inl (by decide +kernel)⟩ rfl (Nat.le_of_ble_eq_true rfl) ?_
  refine zA_range (fun hr => ?_)
  show zA l mX3_mostWanting gr 2 0 0 (zRt (some (zI (wkMost (cWant w n v) n.toNat))) (ZZ t dr tx) w) zNo 0 [zR 54, zI n, zI v, .null, .null] [] (ZZ t dr tx) w
  refine zA_iconst dX3_mostWanting_0 ?_
  refine zA_istore_n (lo1 := [zR 54, zI n, zI v, zI 0, .null]) dX3_mostWanting_1 (by decide) rfl rfl ?_
  refine zA_iconst dX3_mostWanting_2 ?_
  refine zA_istore (lo1 := [zR 54, zI n, zI v, zI 0, zI 0]) dX3_mostWanting_3 (by decide) rfl rfl ?_
  have L5 : ∀ (z5 : Nat) (m : Int) (s : Int) (hs0 : 0 ≤ s) (hs1 : s ≤ n) (hm : m = wkMost (cWant w n v) s.toNat) (hm0 : 0 ≤ m) (hm1 : m ≤ 2600) (zm : (n - s).toNat < z5), zA l mX3_mostWanting gr 2 0 0 (zRt (some (zI (wkMost (cWant w n v) n.toNat))) (ZZ t dr tx) w) zNo 5 [zR 54, zI n, zI v, zI m, zI s] [] (ZZ t dr tx) w := by
    intro z5
    induction z5 with
    | zero => intro m s hs0 hs1 hm hm0 hm1 zm; exact absurd zm (Nat.not_lt_zero _)
    | succ z5 ih5 =>
      intro m s hs0 hs1 hm hm0 hm1 zm
      refine zA_iload dX3_mostWanting_5 rfl ?_
      refine zA_iload_n dX3_mostWanting_7 rfl ?_
      refine zA_icmp_ge (tgt := 30) dX3_mostWanting_8 (by decide) (by first | assumption | exact hr _ _ | exact inR_mk (by omega) (by omega)) (by first | assumption | exact hr _ _ | exact inR_mk (by omega) (by omega)) (fun c8 => ?_) (fun c8 => ?_)
      · skip
        refine zA_iload_n dX3_mostWanting_30 rfl ?_
        refine zA_iret dX3_mostWanting_31 rfl ?_
        exact zRt_i (by rw [hm]; congr 1; omega)
      · skip
        have hwb := cWant_b (w := w) (s := s) (n := n) (v := v) (by omega) (by omega) hn hv0 hv (hb s (by omega) (by omega)).1
        unfold cWant at hwb
        refine zA_iload_n dX3_mostWanting_11 rfl ?_
        refine zA_aload_n dX3_mostWanting_12 rfl ?_
        refine zA_iload dX3_mostWanting_13 rfl ?_
        refine zA_iload_n dX3_mostWanting_15 rfl ?_
        refine zA_iload_n dX3_mostWanting_16 rfl ?_
        refine zA_cV (st := [zI m]) dX3_mostWanting_17 vX3_wanting kX3_55 (s_wanting (w := w) (s := s) (n := n) (v := v) (by omega) (by omega) hn hv0 hv (by have := hb s (by omega) (by omega); omega) (hb s (by omega) (by omega)).2) (by decide) c54 rfl rfl (Nat.le_of_ble_eq_true rfl) rfl (zRt_el ?_)
        show zA l mX3_mostWanting gr 2 0 0 (zRt (some (zI (wkMost (cWant w n v) n.toNat))) (ZZ t dr tx) w) zNo 20 [zR 54, zI n, zI v, zI m, zI s] [zI (max 0 (v * (n - 1 - s) - w 61 s)), zI m] (ZZ t dr tx) w
        refine zA_mmax dX3_mostWanting_20 kmX3_47 zw_max (by first | assumption | exact hr _ _ | exact inR_mk (by omega) (by omega)) (by first | assumption | exact hr _ _ | exact inR_mk (by omega) (by omega)) (Nat.le_of_ble_eq_true rfl) ?_
        refine zA_istore_n (lo1 := [zR 54, zI n, zI v, zI (max m (max 0 (v * (n - 1 - s) - w 61 s))), zI s]) dX3_mostWanting_23 (by decide) rfl rfl ?_
        refine zA_iinc (lo1 := [zR 54, zI n, zI v, zI (max m (max 0 (v * (n - 1 - s) - w 61 s))), zI (s + 1)]) dX3_mostWanting_24 rfl (by decide) rfl rfl ?_
        refine zA_goto (tgt := 5) dX3_mostWanting_27 (by decide) ?_
        exact ih5 _ (s + 1) (by omega) (by omega) (by rw [show (s + 1).toNat = s.toNat + 1 by omega]; simp only [wkMost]; rw [show ((s.toNat : Nat) : Int) = s by omega, hm]; rfl) (by omega) (by omega) (by omega)
  exact L5 _ 0 0 (by omega) (by omega) rfl (by omega) (by omega) (Nat.lt_succ_self _)

