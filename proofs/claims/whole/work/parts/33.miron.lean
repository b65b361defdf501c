/-! the reference's bands -/
def okMIron (w : zW) (c : Int) : Prop := (0 ≤ w 105 c ∧ w 105 c ≤ 8) ∧ (0 ≤ w 107 c ∧ w 107 c ≤ 9999) ∧ ∀ b : Int, 0 ≤ b → b < w 105 c → (0 ≤ w 106 (4 * (8 * c + b)) ∧ w 106 (4 * (8 * c + b)) < 200) ∧ (0 ≤ w 106 (4 * (8 * c + b) + 1) ∧ w 106 (4 * (8 * c + b) + 1) ≤ 300) ∧ (0 ≤ w 106 (4 * (8 * c + b) + 2) ∧ w 106 (4 * (8 * c + b) + 2) ≤ 9999) ∧ (0 ≤ w 106 (4 * (8 * c + b) + 3) ∧ w 106 (4 * (8 * c + b) + 3) ≤ 999)
def mBand (w : zW) (c s y : Int) (b : Nat) : Int := if y < w 106 (4 * (8 * c + b) + 1) then 0 else if w 106 (4 * (8 * c + b)) - 5 ≤ s ∧ s ≤ w 106 (4 * (8 * c + b)) + 5 then max 0 (w 106 (4 * (8 * c + b) + 2) - w 106 (4 * (8 * c + b) + 3) * (y - w 106 (4 * (8 * c + b) + 1))) else 0
def mBears (w : zW) (c s y : Int) : Int := w 107 c + zsum (w 105 c).toNat (mBand w c s y)
theorem mBand_b {w : zW} {c s y : Int} {b : Nat} (hI : okMIron w c) (hb : (b : Int) < w 105 c) : 0 ≤ mBand w c s y b ∧ mBand w c s y b ≤ 9999 := by
  obtain ⟨-, -, h⟩ := hI
  obtain ⟨⟨q1, q2⟩, ⟨q3, q4⟩, ⟨q5, q6⟩, ⟨q7, q8⟩⟩ := h b (by omega) hb
  unfold mBand
  split
  · exact ⟨by omega, by omega⟩
  · have := Int.mul_nonneg q7 (show 0 ≤ y - w 106 (4 * (8 * c + b) + 1) by omega)
    split <;> exact ⟨by omega, by omega⟩
theorem mBears_b {w : zW} {c s y : Int} (hI : okMIron w c) : 0 ≤ mBears w c s y ∧ mBears w c s y ≤ 100000 := by
  have := zsum_b (f := mBand w c s y) (B := 9999) (w 105 c).toNat (fun k hk => mBand_b hI (by have := hI.1; omega))
  have h1 := hI.1
  have h2 := hI.2.1
  unfold mBears
  omega
theorem okMIron_fr {w w' : zW} {c : Int} (h : only 108 w w') (hI : okMIron w c) : okMIron w' c := by
  unfold okMIron at *
  simp only [h 105 _ (by decide), h 106 _ (by decide), h 107 _ (by decide)]
  exact hI
theorem mBears_fr {w w' : zW} (h : only 108 w w') (c s y : Int) : mBears w' c s y = mBears w c s y := by
  unfold mBears mBand
  simp only [h 105 _ (by decide), h 106 _ (by decide), h 107 _ (by decide)]
def mWant (w : zW) (c y v s : Int) : Int := max 0 (v * (w 79 c - 1 - s) - mBears w c s y)
set_option maxRecDepth 100000 in
set_option maxHeartbeats 4000000 in
theorem m_isIn {l : Launch} {w : zW} {gr : Bool} {S : zS} {a b e : Int} (ha : inR a) (hb : inR b) (he : inR e) : zSp l mX12_isIn gr 1 0 0 [zI a, zI b, zI e] S w (zRt (some (zI (if b ≤ a ∧ a ≤ e then 1 else 0))) S w) zNo := by
  refine zA_intro ⟨plainFor_of_name (by decide +kernel), Or.inl (by decide +kernel)⟩ rfl (Nat.le_of_ble_eq_true rfl) ?_
  refine zA_range (fun hr => ?_)
  show zA l mX12_isIn gr 1 0 0 (zRt (some (zI (if b ≤ a ∧ a ≤ e then 1 else 0))) S w) zNo 0 [zI a, zI b, zI e] [] S w
  refine zA_iload_n dX12_isIn_0 rfl ?_
  refine zA_iload_n dX12_isIn_1 rfl ?_
  refine zA_icmp_lt (tgt := 14) dX12_isIn_2 (by decide) (by first | assumption | exact hr _ _ | exact inR_mk (by omega) (by omega)) (by first | assumption | exact hr _ _ | exact inR_mk (by omega) (by omega)) (fun c2 => ?_) (fun c2 => ?_)
  · skip
    refine zA_iconst dX12_isIn_14 ?_
    refine zA_zret dX12_isIn_15 rfl (Or.inl rfl) ?_
    exact zRt_i (by split <;> omega)
  · skip
    refine zA_iload_n dX12_isIn_5 rfl ?_
    refine zA_iload_n dX12_isIn_6 rfl ?_
    refine zA_icmp_gt (tgt := 14) dX12_isIn_7 (by decide) (by first | assumption | exact hr _ _ | exact inR_mk (by omega) (by omega)) (by first | assumption | exact hr _ _ | exact inR_mk (by omega) (by omega)) (fun c7 => ?_) (fun c7 => ?_)
    · skip
      refine zA_iconst dX12_isIn_14 ?_
      refine zA_zret dX12_isIn_15 rfl (Or.inl rfl) ?_
      exact zRt_i (by split <;> omega)
    · skip
      refine zA_iconst dX12_isIn_10 ?_
      refine zA_goto (tgt := 15) dX12_isIn_11 (by decide) ?_
      refine zA_zret dX12_isIn_15 rfl (Or.inr rfl) ?_
      exact zRt_i (by split <;> omega)

set_option maxRecDepth 100000 in
set_option maxHeartbeats 4000000 in
theorem m_fail {l : Launch} {t dr tx : Nat} {w : zW} {gr : Bool} {k : Int} (hk : inR k) : zSp l mX12_fail gr 1 0 0 [zR 73, zI k] (ZZ t dr tx) w (zRt (some (zI 0)) (ZZ t dr tx) (up w 73 1 k)) zNo := by
  refine zA_intro ⟨plainFor_of_name (by decide +kernel), Or.inl (by decide +kernel)⟩ rfl (Nat.le_of_ble_eq_true rfl) ?_
  refine zA_range (fun hr => ?_)
  show zA l mX12_fail gr 1 0 0 (zRt (some (zI 0)) (ZZ t dr tx) (up w 73 1 k)) zNo 0 [zR 73, zI k] [] (ZZ t dr tx) w
  refine zA_aload_n dX12_fail_0 rfl ?_
  refine zA_iload_n dX12_fail_1 rfl ?_
  refine zA_putI dX12_fail_2 fX12_182 c73 rfl (by first | assumption | exact hr _ _ | exact inR_mk (by omega) (by omega)) ⟨rfl, rfl⟩ ?_
  refine zA_namew (fun w_1 hw_1 => ?_)
  refine zA_range (fun hr => ?_)
  refine zA_iconst dX12_fail_5 ?_
  refine zA_iret dX12_fail_6 rfl ?_
  subst hw_1
  exact zRt_i rfl

set_option maxRecDepth 100000 in
set_option maxHeartbeats 4000000 in
theorem m_refuse {l : Launch} {t dr tx : Nat} {w : zW} {gr : Bool} {k : Int} (hk : inR k) : zSp l mX12_refuse gr 1 0 0 [zR 73, zI k] (ZZ t dr tx) w (zRt (some (zI 0)) (ZZ t dr tx) (up w 73 1 k)) zNo := by
  refine zA_intro ⟨plainFor_of_name (by decide +kernel), Or.inl (by decide +kernel)⟩ rfl (Nat.le_of_ble_eq_true rfl) ?_
  refine zA_range (fun hr => ?_)
  show zA l mX12_refuse gr 1 0 0 (zRt (some (zI 0)) (ZZ t dr tx) (up w 73 1 k)) zNo 0 [zR 73, zI k] [] (ZZ t dr tx) w
  refine zA_aload_n dX12_refuse_0 rfl ?_
  refine zA_iload_n dX12_refuse_1 rfl ?_
  refine zA_putI dX12_refuse_2 fX12_182 c73 rfl (by first | assumption | exact hr _ _ | exact inR_mk (by omega) (by omega)) ⟨rfl, rfl⟩ ?_
  refine zA_namew (fun w_1 hw_1 => ?_)
  refine zA_range (fun hr => ?_)
  refine zA_iconst dX12_refuse_5 ?_
  refine zA_zret dX12_refuse_6 rfl (Or.inl rfl) ?_
  subst hw_1
  exact zRt_i rfl

set_option maxRecDepth 100000 in
set_option maxHeartbeats 4000000 in
theorem m_isChimney {l : Launch} {t dr tx : Nat} {w : zW} {gr : Bool} {c : Int} (hc : inR c) (hn0 : 0 ≤ w 75 0) (hn : w 75 0 ≤ 12) : zSp l mX12_isChimney gr 2 0 0 [zR 73, zI c] (ZZ t dr tx) w (zRt (some (zI (if 0 ≤ c ∧ c < w 75 0 then 1 else 0))) (ZZ t dr tx) w) zNo := by
  refine zA_intro ⟨plainFor_of_name (by decide +kernel), Or.inl (by decide +kernel)⟩ rfl (Nat.le_of_ble_eq_true rfl) ?_
  refine zA_range (fun hr => ?_)
  show zA l mX12_isChimney gr 2 0 0 (zRt (some (zI (if 0 ≤ c ∧ c < w 75 0 then 1 else 0))) (ZZ t dr tx) w) zNo 0 [zR 73, zI c] [] (ZZ t dr tx) w
  refine zA_iload_n dX12_isChimney_0 rfl ?_
  refine zA_iconst dX12_isChimney_1 ?_
  refine zA_aload_n dX12_isChimney_2 rfl ?_
  refine zA_getR (n := 75) dX12_isChimney_3 fX12_25 c73 rfl ?_
  refine zA_iconst dX12_isChimney_6 ?_
  refine zA_iaload dX12_isChimney_7 c75 (by first | assumption | omega) (by first | assumption | omega) (by decide) ?_
  refine zA_iconst dX12_isChimney_8 ?_
  refine zA_isub dX12_isChimney_9 ?_
  refine zA_cS (st := []) dX12_isChimney_10 sX12_isIn kX12_185 (m_isIn (a := c) (b := 0) (e := w 75 0 - 1) hc ⟨by decide, by decide⟩ (inR_mk (by omega) (by omega))) (by decide) rfl rfl (Nat.le_of_ble_eq_true rfl) (zRt_el ?_)
  show zA l mX12_isChimney gr 2 0 0 (zRt (some (zI (if 0 ≤ c ∧ c < w 75 0 then 1 else 0))) (ZZ t dr tx) w) zNo 13 [zR 73, zI c] [zI (if 0 ≤ c ∧ c ≤ w 75 0 - 1 then 1 else 0)] (ZZ t dr tx) w
  refine zA_zret dX12_isChimney_13 rfl (by split <;> omega) ?_
  exact zRt_i (by split <;> split <;> omega)

set_option maxRecDepth 100000 in
set_option maxHeartbeats 4000000 in
theorem m_isAsked {l : Launch} {w : zW} {gr : Bool} {S : zS} {y v : Int} (hy : inR y) (hv : inR v) : zSp l mX12_isAsked gr 2 0 0 [zI y, zI v] S w (zRt (some (zI (if (0 ≤ y ∧ y ≤ 500) ∧ 0 ≤ v ∧ v ≤ 13 then 1 else 0))) S w) zNo := by
  refine zA_intro ⟨plainFor_of_name (by decide +kernel), Or.inl (by decide +kernel)⟩ rfl (Nat.le_of_ble_eq_true rfl) ?_
  refine zA_range (fun hr => ?_)
  show zA l mX12_isAsked gr 2 0 0 (zRt (some (zI (if (0 ≤ y ∧ y ≤ 500) ∧ 0 ≤ v ∧ v ≤ 13 then 1 else 0))) S w) zNo 0 [zI y, zI v] [] S w
  refine zA_iload_n dX12_isAsked_0 rfl ?_
  refine zA_iconst dX12_isAsked_1 ?_
  refine zA_sipush dX12_isAsked_2 rfl ?_
  refine zA_cS (st := []) dX12_isAsked_5 sX12_isIn kX12_185 (m_isIn (a := y) (b := 0) (e := 500) hy ⟨by decide, by decide⟩ ⟨by decide, by decide⟩) (by decide) rfl rfl (Nat.le_of_ble_eq_true rfl) (zRt_el ?_)
  show zA l mX12_isAsked gr 2 0 0 (zRt (some (zI (if (0 ≤ y ∧ y ≤ 500) ∧ 0 ≤ v ∧ v ≤ 13 then 1 else 0))) S w) zNo 8 [zI y, zI v] [zI (if 0 ≤ y ∧ y ≤ 500 then 1 else 0)] S w
  refine zA_if_eq (tgt := 25) dX12_isAsked_8 (by decide) (by first | assumption | exact hr _ _ | exact inR_mk (by omega) (by omega)) (fun c8 => ?_) (fun c8 => ?_)
  · skip
    refine zA_iconst dX12_isAsked_25 ?_
    refine zA_zret dX12_isAsked_26 rfl (Or.inl rfl) ?_
    exact zRt_i (by split <;> omega)
  · skip
    refine zA_iload_n dX12_isAsked_11 rfl ?_
    refine zA_iconst dX12_isAsked_12 ?_
    refine zA_bipush dX12_isAsked_13 rfl ?_
    refine zA_cS (st := []) dX12_isAsked_15 sX12_isIn kX12_185 (m_isIn (a := v) (b := 0) (e := 13) hv ⟨by decide, by decide⟩ ⟨by decide, by decide⟩) (by decide) rfl rfl (Nat.le_of_ble_eq_true rfl) (zRt_el ?_)
    show zA l mX12_isAsked gr 2 0 0 (zRt (some (zI (if (0 ≤ y ∧ y ≤ 500) ∧ 0 ≤ v ∧ v ≤ 13 then 1 else 0))) S w) zNo 18 [zI y, zI v] [zI (if 0 ≤ v ∧ v ≤ 13 then 1 else 0)] S w
    refine zA_if_eq (tgt := 25) dX12_isAsked_18 (by decide) (by first | assumption | exact hr _ _ | exact inR_mk (by omega) (by omega)) (fun c18 => ?_) (fun c18 => ?_)
    · skip
      refine zA_iconst dX12_isAsked_25 ?_
      refine zA_zret dX12_isAsked_26 rfl (Or.inl rfl) ?_
      exact zRt_i (by split <;> omega)
    · skip
      refine zA_iconst dX12_isAsked_21 ?_
      refine zA_goto (tgt := 26) dX12_isAsked_22 (by decide) ?_
      refine zA_zret dX12_isAsked_26 rfl (Or.inr rfl) ?_
      exact zRt_i (by split <;> omega)

set_option maxRecDepth 100000 in
set_option maxHeartbeats 4000000 in
theorem m_bears {l : Launch} {t dr tx : Nat} {w : zW} {gr : Bool} {c s y : Int} (h0 : 0 ≤ c) (h1 : c < 12) (hI : okMIron w c) (hs0 : 0 ≤ s) (hs : s < 200) (hy0 : 0 ≤ y) (hy : y ≤ 600) : zSp l mX12_bears gr 1 0 0 [zR 73, zI c, zI s, zI y] (ZZ t dr tx) w (zRt (some (zI (mBears w c s y))) (ZZ t dr tx) w) zNo := by
  refine zA_intro ⟨plainFor_of_name (by decide +kernel), Or.inl (by decide +kernel)⟩ rfl (Nat.le_of_ble_eq_true rfl) ?_
  obtain ⟨⟨e1, e2⟩, ⟨e3, e4⟩, hB⟩ := id hI
  refine zA_range (fun hr => ?_)
  show zA l mX12_bears gr 1 0 0 (zRt (some (zI (mBears w c s y))) (ZZ t dr tx) w) zNo 0 [zR 73, zI c, zI s, zI y, .null, .null, .null, .null] [] (ZZ t dr tx) w
  refine zA_aload_n dX12_bears_0 rfl ?_
  refine zA_getR (n := 107) dX12_bears_1 fX12_130 c73 rfl ?_
  refine zA_iload_n dX12_bears_4 rfl ?_
  refine zA_iaload dX12_bears_5 c107 (by first | assumption | omega) (by first | assumption | omega) (by decide) ?_
  refine zA_istore (lo1 := [zR 73, zI c, zI s, zI y, zI (w 107 c), .null, .null, .null]) dX12_bears_6 (by decide) rfl rfl ?_
  refine zA_iconst dX12_bears_8 ?_
  refine zA_istore (lo1 := [zR 73, zI c, zI s, zI y, zI (w 107 c), zI 0, .null, .null]) dX12_bears_9 (by decide) rfl rfl ?_
  have L11 : ∀ (z11 : Nat) (v : Int) (b : Int) (hb0 : 0 ≤ b) (hb1 : b ≤ w 105 c) (hv : v = w 107 c + zsum b.toNat (mBand w c s y)) (zm : (w 105 c - b).toNat < z11), zA l mX12_bears gr 1 0 0 (zRt (some (zI (mBears w c s y))) (ZZ t dr tx) w) zNo 11 [zR 73, zI c, zI s, zI y, zI v, zI b, .null, .null] [] (ZZ t dr tx) w := by
    intro z11
    induction z11 with
    | zero => intro v b hb0 hb1 hv zm; exact absurd zm (Nat.not_lt_zero _)
    | succ z11 ih11 =>
      intro v b hb0 hb1 hv zm
      refine zA_iload dX12_bears_11 rfl ?_
      refine zA_aload_n dX12_bears_13 rfl ?_
      refine zA_getR (n := 105) dX12_bears_14 fX12_124 c73 rfl ?_
      refine zA_iload_n dX12_bears_17 rfl ?_
      refine zA_iaload dX12_bears_18 c105 (by first | assumption | omega) (by first | assumption | omega) (by decide) ?_
      refine zA_icmp_ge (tgt := 107) dX12_bears_19 (by decide) (by first | assumption | exact hr _ _ | exact inR_mk (by omega) (by omega)) (by first | assumption | exact hr _ _ | exact inR_mk (by omega) (by omega)) (fun c19 => ?_) (fun c19 => ?_)
      · skip
        refine zA_iload dX12_bears_107 rfl ?_
        refine zA_iret dX12_bears_109 rfl ?_
        exact zRt_i (by rw [hv]; unfold mBears; congr 2; omega)
      · skip
        obtain ⟨⟨q1, q2⟩, ⟨q3, q4⟩, ⟨q5, q6⟩, ⟨q7, q8⟩⟩ := hB b hb0 (by omega)
        have hb2 : ((b.toNat : Nat) : Int) = b := by omega
        have hsb := zsum_b (f := mBand w c s y) (B := 9999) b.toNat (fun k hk => mBand_b hI (by omega))
        have hmb := mBand_b (s := s) (y := y) (b := b.toNat) hI (by omega)
        unfold mBand at hmb
        simp only [hb2] at hmb
        refine zA_iconst dX12_bears_22 ?_
        refine zA_bipush dX12_bears_23 rfl ?_
        refine zA_iload_n dX12_bears_25 rfl ?_
        refine zA_imul dX12_bears_26 ?_
        refine zA_iload dX12_bears_27 rfl ?_
        refine zA_iadd dX12_bears_29 ?_
        refine zA_imul dX12_bears_30 ?_
        refine zA_istore (lo1 := [zR 73, zI c, zI s, zI y, zI v, zI b, zI (4 * ((8 * c) + b)), .null]) dX12_bears_31 (by decide) rfl rfl ?_
        refine zA_iload_n dX12_bears_33 rfl ?_
        refine zA_aload_n dX12_bears_34 rfl ?_
        refine zA_getR (n := 106) dX12_bears_35 fX12_127 c73 rfl ?_
        refine zA_iload dX12_bears_38 rfl ?_
        refine zA_iconst dX12_bears_40 ?_
        refine zA_iadd dX12_bears_41 ?_
        refine zA_iaload dX12_bears_42 c106 (by first | assumption | omega) (by first | assumption | omega) (by decide) ?_
        refine zA_isub dX12_bears_43 ?_
        refine zA_istore (lo1 := [zR 73, zI c, zI s, zI y, zI v, zI b, zI (4 * ((8 * c) + b)), zI (y - (w 106 ((4 * ((8 * c) + b)) + 1)))]) dX12_bears_44 (by decide) rfl rfl ?_
        refine zA_iload dX12_bears_46 rfl ?_
        refine zA_if_lt (tgt := 101) dX12_bears_48 (by decide) (by first | assumption | exact hr _ _ | exact inR_mk (by omega) (by omega)) (fun c48 => ?_) (fun c48 => ?_)
        · skip
          refine zA_iinc (lo1 := [zR 73, zI c, zI s, zI y, zI v, zI (b + 1), zI (4 * ((8 * c) + b)), zI (y - (w 106 ((4 * ((8 * c) + b)) + 1)))]) dX12_bears_101 rfl (by decide) rfl rfl ?_
          refine zA_goto (tgt := 11) dX12_bears_104 (by decide) ?_
          refine zA_drop 6 (lo1 := [zR 73, zI c, zI s, zI y, zI v, zI (b + 1), .null, zI (y - (w 106 ((4 * ((8 * c) + b)) + 1)))]) rfl ?_
          refine zA_drop 7 (lo1 := [zR 73, zI c, zI s, zI y, zI v, zI (b + 1), .null, .null]) rfl ?_
          exact ih11 _ (b + 1) (by omega) (by omega) (by rw [show (b + 1).toNat = b.toNat + 1 by omega]; simp only [zsum]; rw [hv]; unfold mBand; simp only [hb2]; omega) (by omega)
        · skip
          have hm := zmulB q7 q8 (show 0 ≤ y - w 106 (4 * (8 * c + b) + 1) by omega) (show y - w 106 (4 * (8 * c + b) + 1) ≤ 600 by omega)
          refine zA_aload_n dX12_bears_51 rfl ?_
          refine zA_getR (n := 106) dX12_bears_52 fX12_127 c73 rfl ?_
          refine zA_iload dX12_bears_55 rfl ?_
          refine zA_iaload dX12_bears_57 c106 (by first | assumption | omega) (by first | assumption | omega) (by decide) ?_
          refine zA_iload_n dX12_bears_58 rfl ?_
          refine zA_isub dX12_bears_59 ?_
          refine zA_mabs dX12_bears_60 kmX12_359 zw_abs (by first | assumption | exact hr _ _ | exact inR_mk (by omega) (by omega)) (Nat.le_of_ble_eq_true rfl) ?_
          refine zA_iconst dX12_bears_63 ?_
          refine zA_icmp_le (tgt := 70) dX12_bears_64 (by decide) (by first | assumption | exact hr _ _ | exact inR_mk (by omega) (by omega)) ⟨by decide, by decide⟩ (fun c64 => ?_) (fun c64 => ?_)
          · skip
            refine zA_iload dX12_bears_70 rfl ?_
            refine zA_iconst dX12_bears_72 ?_
            refine zA_aload_n dX12_bears_73 rfl ?_
            refine zA_getR (n := 106) dX12_bears_74 fX12_127 c73 rfl ?_
            refine zA_iload dX12_bears_77 rfl ?_
            refine zA_iconst dX12_bears_79 ?_
            refine zA_iadd dX12_bears_80 ?_
            refine zA_iaload dX12_bears_81 c106 (by first | assumption | omega) (by first | assumption | omega) (by decide) ?_
            refine zA_aload_n dX12_bears_82 rfl ?_
            refine zA_getR (n := 106) dX12_bears_83 fX12_127 c73 rfl ?_
            refine zA_iload dX12_bears_86 rfl ?_
            refine zA_iconst dX12_bears_88 ?_
            refine zA_iadd dX12_bears_89 ?_
            refine zA_iaload dX12_bears_90 c106 (by first | assumption | omega) (by first | assumption | omega) (by decide) ?_
            refine zA_iload dX12_bears_91 rfl ?_
            refine zA_imul dX12_bears_93 ?_
            refine zA_isub dX12_bears_94 ?_
            refine zA_mmax dX12_bears_95 kmX12_375 zw_max ⟨by decide, by decide⟩ (by first | assumption | exact hr _ _ | exact inR_mk (by omega) (by omega)) (Nat.le_of_ble_eq_true rfl) ?_
            refine zA_iadd dX12_bears_98 ?_
            refine zA_istore (lo1 := [zR 73, zI c, zI s, zI y, zI (v + (max 0 ((w 106 ((4 * ((8 * c) + b)) + 2)) - ((w 106 ((4 * ((8 * c) + b)) + 3)) * (y - (w 106 ((4 * ((8 * c) + b)) + 1))))))), zI b, zI (4 * ((8 * c) + b)), zI (y - (w 106 ((4 * ((8 * c) + b)) + 1)))]) dX12_bears_99 (by decide) rfl rfl ?_
            refine zA_iinc (lo1 := [zR 73, zI c, zI s, zI y, zI (v + (max 0 ((w 106 ((4 * ((8 * c) + b)) + 2)) - ((w 106 ((4 * ((8 * c) + b)) + 3)) * (y - (w 106 ((4 * ((8 * c) + b)) + 1))))))), zI (b + 1), zI (4 * ((8 * c) + b)), zI (y - (w 106 ((4 * ((8 * c) + b)) + 1)))]) dX12_bears_101 rfl (by decide) rfl rfl ?_
            refine zA_goto (tgt := 11) dX12_bears_104 (by decide) ?_
            refine zA_drop 6 (lo1 := [zR 73, zI c, zI s, zI y, zI (v + (max 0 ((w 106 ((4 * ((8 * c) + b)) + 2)) - ((w 106 ((4 * ((8 * c) + b)) + 3)) * (y - (w 106 ((4 * ((8 * c) + b)) + 1))))))), zI (b + 1), .null, zI (y - (w 106 ((4 * ((8 * c) + b)) + 1)))]) rfl ?_
            refine zA_drop 7 (lo1 := [zR 73, zI c, zI s, zI y, zI (v + (max 0 ((w 106 ((4 * ((8 * c) + b)) + 2)) - ((w 106 ((4 * ((8 * c) + b)) + 3)) * (y - (w 106 ((4 * ((8 * c) + b)) + 1))))))), zI (b + 1), .null, .null]) rfl ?_
            exact ih11 _ (b + 1) (by omega) (by omega) (by rw [show (b + 1).toNat = b.toNat + 1 by omega]; simp only [zsum]; rw [hv]; unfold mBand; simp only [hb2]; omega) (by omega)
          · skip
            refine zA_goto (tgt := 101) dX12_bears_67 (by decide) ?_
            refine zA_iinc (lo1 := [zR 73, zI c, zI s, zI y, zI v, zI (b + 1), zI (4 * ((8 * c) + b)), zI (y - (w 106 ((4 * ((8 * c) + b)) + 1)))]) dX12_bears_101 rfl (by decide) rfl rfl ?_
            refine zA_goto (tgt := 11) dX12_bears_104 (by decide) ?_
            refine zA_drop 6 (lo1 := [zR 73, zI c, zI s, zI y, zI v, zI (b + 1), .null, zI (y - (w 106 ((4 * ((8 * c) + b)) + 1)))]) rfl ?_
            refine zA_drop 7 (lo1 := [zR 73, zI c, zI s, zI y, zI v, zI (b + 1), .null, .null]) rfl ?_
            exact ih11 _ (b + 1) (by omega) (by omega) (by rw [show (b + 1).toNat = b.toNat + 1 by omega]; simp only [zsum]; rw [hv]; unfold mBand; simp only [hb2]; omega) (by omega)
  exact L11 _ _ 0 (by omega) (by omega) (by simp [zsum]) (Nat.lt_succ_self _)

set_option maxRecDepth 100000 in
set_option maxHeartbeats 4000000 in
theorem m_tellWanting {l : Launch} {t dr tx : Nat} {w : zW} {gr : Bool} {c y v : Int} (h0 : 0 ≤ c) (h1 : c < 12) (hI : okMIron w c) (hn0 : 0 ≤ w 79 c) (hn : w 79 c ≤ 200) (hy0 : 0 ≤ y) (hy : y ≤ 600) (hv0 : 0 ≤ v) (hv : v ≤ 13) : zSp l mX12_tellWanting gr 2 0 0 [zR 73, zI c, zI y, zI v] (ZZ t dr tx) w (fun v' S' w' => v' = some (zI (wkMany (mWant w c y v) (w 79 c).toNat)) ∧ S' = (ZZ t dr tx) ∧ only 108 w w' ∧ ∀ s, 0 ≤ s → s < w 79 c → w' 108 s = mWant w c y v s) zNo := by
  refine zA_intro ⟨plainFor_of_name (by decide +kernel), Or.inl (by decide +kernel)⟩ rfl (Nat.le_of_ble_eq_true rfl) ?_
  refine zA_range (fun hr => ?_)
  show zA l mX12_tellWanting gr 2 0 0 (fun v' S' w' => v' = some (zI (wkMany (mWant w c y v) (w 79 c).toNat)) ∧ S' = (ZZ t dr tx) ∧ only 108 w w' ∧ ∀ s, 0 ≤ s → s < w 79 c → w' 108 s = mWant w c y v s) zNo 0 [zR 73, zI c, zI y, zI v, .null, .null] [] (ZZ t dr tx) w
  refine zA_iconst dX12_tellWanting_0 ?_
  refine zA_istore (lo1 := [zR 73, zI c, zI y, zI v, zI 0, .null]) dX12_tellWanting_1 (by decide) rfl rfl ?_
  refine zA_iconst dX12_tellWanting_3 ?_
  refine zA_istore (lo1 := [zR 73, zI c, zI y, zI v, zI 0, zI 0]) dX12_tellWanting_4 (by decide) rfl rfl ?_
  have L6 : ∀ (z6 : Nat) (m : Int) (s : Int) (w1 : zW) (hs0 : 0 ≤ s) (hs1 : s ≤ w 79 c) (hm : m = wkMany (mWant w c y v) s.toNat) (hf : only 108 w w1) (hw : ∀ x, 0 ≤ x → x < s → w1 108 x = mWant w c y v x) (zm : (w 79 c - s).toNat < z6), zA l mX12_tellWanting gr 2 0 0 (fun v' S' w' => v' = some (zI (wkMany (mWant w c y v) (w 79 c).toNat)) ∧ S' = (ZZ t dr tx) ∧ only 108 w w' ∧ ∀ s, 0 ≤ s → s < w 79 c → w' 108 s = mWant w c y v s) zNo 6 [zR 73, zI c, zI y, zI v, zI m, zI s] [] (ZZ t dr tx) w1 := by
    intro z6
    induction z6 with
    | zero => intro m s w1 hs0 hs1 hm hf hw zm; exact absurd zm (Nat.not_lt_zero _)
    | succ z6 ih6 =>
      intro m s w1 hs0 hs1 hm hf hw zm
      refine zA_range (fun hr => ?_)
      have e79 := hf 79 c (by decide)
      refine zA_iload dX12_tellWanting_6 rfl ?_
      refine zA_aload_n dX12_tellWanting_8 rfl ?_
      refine zA_getR (n := 79) dX12_tellWanting_9 fX12_38 c73 rfl ?_
      refine zA_iload_n dX12_tellWanting_12 rfl ?_
      refine zA_iaload dX12_tellWanting_13 c79 (by first | assumption | omega) (by first | assumption | omega) (by decide) ?_
      refine zA_icmp_ge (tgt := 76) dX12_tellWanting_14 (by decide) (by first | assumption | exact hr _ _ | exact inR_mk (by omega) (by omega)) (by first | assumption | exact hr _ _ | exact inR_mk (by omega) (by omega)) (fun c14 => ?_) (fun c14 => ?_)
      · skip
        refine zA_iload dX12_tellWanting_76 rfl ?_
        refine zA_iret dX12_tellWanting_78 rfl ?_
        refine ⟨by rw [hm]; congr 3; omega, rfl, hf, fun x hx0 hx1 => hw x hx0 (by omega)⟩
      · skip
        have hm1 := zmulB hv0 hv (show 0 ≤ w1 79 c - 1 - s by omega) (show w1 79 c - 1 - s ≤ 200 by omega)
        have hbb := mBears_b (w := w1) (s := s) (y := y) (okMIron_fr hf hI)
        have hmb := wkMany_b (mWant w c y v) s.toNat
        have hmw : max 0 (v * (w1 79 c - 1 - s) - mBears w1 c s y) = mWant w c y v s := by unfold mWant; rw [e79, mBears_fr hf]
        refine zA_aload_n dX12_tellWanting_17 rfl ?_
        refine zA_getR (n := 108) dX12_tellWanting_18 fX12_133 c73 rfl ?_
        refine zA_iload dX12_tellWanting_21 rfl ?_
        refine zA_iconst dX12_tellWanting_23 ?_
        refine zA_iload_n dX12_tellWanting_24 rfl ?_
        refine zA_aload_n dX12_tellWanting_25 rfl ?_
        refine zA_getR (n := 79) dX12_tellWanting_26 fX12_38 c73 rfl ?_
        refine zA_iload_n dX12_tellWanting_29 rfl ?_
        refine zA_iaload dX12_tellWanting_30 c79 (by first | assumption | omega) (by first | assumption | omega) (by decide) ?_
        refine zA_iconst dX12_tellWanting_31 ?_
        refine zA_isub dX12_tellWanting_32 ?_
        refine zA_iload dX12_tellWanting_33 rfl ?_
        refine zA_isub dX12_tellWanting_35 ?_
        refine zA_imul dX12_tellWanting_36 ?_
        refine zA_aload_n dX12_tellWanting_37 rfl ?_
        refine zA_iload_n dX12_tellWanting_38 rfl ?_
        refine zA_iload dX12_tellWanting_39 rfl ?_
        refine zA_iload_n dX12_tellWanting_41 rfl ?_
        refine zA_cV (st := [zI (v * (((w1 79 c) - 1) - s)), zI 0, zI s, zR 108]) dX12_tellWanting_42 vX12_bears kX12_467 (m_bears (w := w1) (c := c) (s := s) (y := y) h0 h1 (okMIron_fr hf hI) hs0 (by omega) hy0 hy) (by decide) c73 rfl rfl (Nat.le_of_ble_eq_true rfl) rfl (zRt_el ?_)
        show zA l mX12_tellWanting gr 2 0 0 (fun v' S' w' => v' = some (zI (wkMany (mWant w c y v) (w 79 c).toNat)) ∧ S' = (ZZ t dr tx) ∧ only 108 w w' ∧ ∀ s, 0 ≤ s → s < w 79 c → w' 108 s = mWant w c y v s) zNo 45 [zR 73, zI c, zI y, zI v, zI m, zI s] [zI (mBears w1 c s y), zI (v * (((w1 79 c) - 1) - s)), zI 0, zI s, zR 108] (ZZ t dr tx) w1
        refine zA_isub dX12_tellWanting_45 ?_
        refine zA_mmax dX12_tellWanting_46 kmX12_375 zw_max ⟨by decide, by decide⟩ (by first | assumption | exact hr _ _ | exact inR_mk (by omega) (by omega)) (Nat.le_of_ble_eq_true rfl) ?_
        refine zA_iastore dX12_tellWanting_49 (by first | assumption | exact hr _ _ | exact inR_mk (by omega) (by omega)) c108 (by first | assumption | omega) (by first | assumption | omega) (by decide) ?_
        refine zA_namew (fun w_1 hw_1 => ?_)
        refine zA_range (fun hr => ?_)
        refine zA_iload dX12_tellWanting_50 rfl ?_
        refine zA_aload_n dX12_tellWanting_52 rfl ?_
        refine zA_getR (n := 108) dX12_tellWanting_53 fX12_133 c73 rfl ?_
        refine zA_iload dX12_tellWanting_56 rfl ?_
        refine zA_iaload dX12_tellWanting_58 c108 (by first | assumption | omega) (by first | assumption | omega) (by decide) ?_
        refine zA_if_le (tgt := 66) dX12_tellWanting_59 (by decide) (by first | assumption | exact hr _ _ | exact inR_mk (by omega) (by omega)) (fun c59 => ?_) (fun c59 => ?_)
        · skip
          rw [hw_1, up_same, hmw] at c59
          refine zA_iconst dX12_tellWanting_66 ?_
          refine zA_iadd dX12_tellWanting_67 ?_
          refine zA_istore (lo1 := [zR 73, zI c, zI y, zI v, zI (m + 0), zI s]) dX12_tellWanting_68 (by decide) rfl rfl ?_
          refine zA_iinc (lo1 := [zR 73, zI c, zI y, zI v, zI (m + 0), zI (s + 1)]) dX12_tellWanting_70 rfl (by decide) rfl rfl ?_
          refine zA_goto (tgt := 6) dX12_tellWanting_73 (by decide) ?_
          exact ih6 _ (s + 1) w_1 (by omega) (by omega) (by rw [show (s + 1).toNat = s.toNat + 1 by omega]; simp only [wkMany]; rw [show ((s.toNat : Nat) : Int) = s by omega, hm]; split <;> omega) (by rw [hw_1]; exact only_up hf) (fun x hx0 hx1 => by
            rw [hw_1]
            by_cases hx : x = s
            · subst hx; rw [up_same, e79, mBears_fr hf]; rfl
            · rw [up_idx _ _ _ _ hx]; exact hw x hx0 (by omega)) (by omega)
        · skip
          rw [hw_1, up_same, hmw] at c59
          refine zA_iconst dX12_tellWanting_62 ?_
          refine zA_goto (tgt := 67) dX12_tellWanting_63 (by decide) ?_
          refine zA_iadd dX12_tellWanting_67 ?_
          refine zA_istore (lo1 := [zR 73, zI c, zI y, zI v, zI (m + 1), zI s]) dX12_tellWanting_68 (by decide) rfl rfl ?_
          refine zA_iinc (lo1 := [zR 73, zI c, zI y, zI v, zI (m + 1), zI (s + 1)]) dX12_tellWanting_70 rfl (by decide) rfl rfl ?_
          refine zA_goto (tgt := 6) dX12_tellWanting_73 (by decide) ?_
          exact ih6 _ (s + 1) w_1 (by omega) (by omega) (by rw [show (s + 1).toNat = s.toNat + 1 by omega]; simp only [wkMany]; rw [show ((s.toNat : Nat) : Int) = s by omega, hm]; split <;> omega) (by rw [hw_1]; exact only_up hf) (fun x hx0 hx1 => by
            rw [hw_1]
            by_cases hx : x = s
            · subst hx; rw [up_same, e79, mBears_fr hf]; rfl
            · rw [up_idx _ _ _ _ hx]; exact hw x hx0 (by omega)) (by omega)
  exact L6 _ 0 0 w (by omega) (by omega) rfl only_rfl (fun x hx0 hx1 => by omega) (Nat.lt_succ_self _)

