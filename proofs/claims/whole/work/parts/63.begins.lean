/-! days on which a letter can be begun; counts -/
def mNe (w : zW) (c d : Int) : Prop := ∃ k : Int, (0 ≤ k ∧ k < w 78 0) ∧ w 83 (3 * k) = c ∧ w 83 (3 * k + 1) ≤ d ∧ d ≤ w 83 (3 * k + 2)
def okML (w : zW) (l : Int) : Prop := (0 ≤ w 81 (6 * l) ∧ w 81 (6 * l) < w 75 0) ∧ (1 ≤ w 81 (6 * l + 1) ∧ w 81 (6 * l + 1) ≤ 9) ∧ (0 ≤ w 81 (6 * l + 2) ∧ w 81 (6 * l + 2) ≤ 12) ∧ (0 ≤ w 81 (6 * l + 3) ∧ w 81 (6 * l + 3) ≤ w 81 (6 * l + 4)) ∧ w 81 (6 * l + 4) ≤ 29 ∧ (0 ≤ w 81 (6 * l + 5) ∧ w 81 (6 * l + 5) ≤ 9999)
def mGood (w : zW) (l d : Int) : Prop := w 80 d ≤ w 81 (6 * l + 2) ∧ ¬ mNe w (w 81 (6 * l)) d
def mCan (w : zW) (l d : Int) : Prop := w 81 (6 * l + 3) ≤ d ∧ d + w 81 (6 * l + 1) - 1 ≤ w 81 (6 * l + 4) ∧ ∀ e, d ≤ e → e < d + w 81 (6 * l + 1) → mGood w l e
set_option maxRecDepth 100000 in
set_option maxHeartbeats 4000000 in
theorem s_firstDayB {l : Launch} {t dr tx : Nat} {w : zW} {y : Nat} (hy : y = 4 ∨ y = 10) {a d : Int} (hY : okYard w y) (a0 : 0 ≤ a) (a1 : a < w y 7) (d0 : 30 ≤ d) (hdr : inR d) : zSp l mX10_firstDay false 2 0 0 [zR y, zI a, zI d] (ZZ t dr tx) w (zRp1 (isFst (yCan w y a) d) (ZZ t dr tx) w) zNo := by
  refine zA_intro ⟨plainFor_of_name (by decide +kernel), Or.inl (by decide +kernel)⟩ rfl (Nat.le_of_ble_eq_true rfl) ?_
  obtain ⟨⟨u1, u2⟩, -, ⟨u3, u4⟩, -, -, -, hwi, hle, hne⟩ := id hY
  obtain ⟨⟨q1, q2⟩, ⟨q3, q4⟩, ⟨q5, q6⟩, ⟨q7, q8⟩, q9, -⟩ := hle a a0 a1
  have a1 : a < 8 := by omega
  have hdr2 := hdr.2
  refine zA_range (fun hr => ?_)
  show zA l mX10_firstDay false 2 0 0 (zRp1 (isFst (yCan w y a) d) (ZZ t dr tx) w) zNo 0 [zR y, zI a, zI d, .null, .null, .null, .null, .null, .null] [] (ZZ t dr tx) w
  refine zA_aload_n dX10_firstDay_0 rfl ?_
  refine zA_iload_n dX10_firstDay_1 rfl ?_
  refine zA_iconst dX10_firstDay_2 ?_
  refine zA_cV (st := []) dX10_firstDay_3 vX10_fact kX10_49 (s_fact (w := w) (a := a) (k := 0) hy a0 a1 (by decide) (by decide)) (by decide) (cY0 hy) rfl rfl (Nat.le_of_ble_eq_true rfl) rfl (zRt_el ?_)
  show zA l mX10_firstDay false 2 0 0 (zRp1 (isFst (yCan w y a) d) (ZZ t dr tx) w) zNo 6 [zR y, zI a, zI d, .null, .null, .null, .null, .null, .null] [zI (w (y + 4) (a * 6 + 0))] (ZZ t dr tx) w
  refine zA_istore_n (lo1 := [zR y, zI a, zI d, zI (w (y + 4) (a * 6 + 0)), .null, .null, .null, .null, .null]) dX10_firstDay_6 (by decide) rfl rfl ?_
  refine zA_aload_n dX10_firstDay_7 rfl ?_
  refine zA_iload_n dX10_firstDay_8 rfl ?_
  refine zA_iconst dX10_firstDay_9 ?_
  refine zA_cV (st := []) dX10_firstDay_10 vX10_fact kX10_49 (s_fact (w := w) (a := a) (k := 2) hy a0 a1 (by decide) (by decide)) (by decide) (cY0 hy) rfl rfl (Nat.le_of_ble_eq_true rfl) rfl (zRt_el ?_)
  show zA l mX10_firstDay false 2 0 0 (zRp1 (isFst (yCan w y a) d) (ZZ t dr tx) w) zNo 13 [zR y, zI a, zI d, zI (w (y + 4) (a * 6 + 0)), .null, .null, .null, .null, .null] [zI (w (y + 4) (a * 6 + 2))] (ZZ t dr tx) w
  refine zA_istore (lo1 := [zR y, zI a, zI d, zI (w (y + 4) (a * 6 + 0)), zI (w (y + 4) (a * 6 + 2)), .null, .null, .null, .null]) dX10_firstDay_13 (by decide) rfl rfl ?_
  refine zA_aload_n dX10_firstDay_15 rfl ?_
  refine zA_iload_n dX10_firstDay_16 rfl ?_
  refine zA_iconst dX10_firstDay_17 ?_
  refine zA_cV (st := []) dX10_firstDay_18 vX10_fact kX10_49 (s_fact (w := w) (a := a) (k := 1) hy a0 a1 (by decide) (by decide)) (by decide) (cY0 hy) rfl rfl (Nat.le_of_ble_eq_true rfl) rfl (zRt_el ?_)
  show zA l mX10_firstDay false 2 0 0 (zRp1 (isFst (yCan w y a) d) (ZZ t dr tx) w) zNo 21 [zR y, zI a, zI d, zI (w (y + 4) (a * 6 + 0)), zI (w (y + 4) (a * 6 + 2)), .null, .null, .null, .null] [zI (w (y + 4) (a * 6 + 1))] (ZZ t dr tx) w
  refine zA_istore (lo1 := [zR y, zI a, zI d, zI (w (y + 4) (a * 6 + 0)), zI (w (y + 4) (a * 6 + 2)), zI (w (y + 4) (a * 6 + 1)), .null, .null, .null]) dX10_firstDay_21 (by decide) rfl rfl ?_
  refine zA_aload_n dX10_firstDay_23 rfl ?_
  refine zA_iload_n dX10_firstDay_24 rfl ?_
  refine zA_iconst dX10_firstDay_25 ?_
  refine zA_cV (st := []) dX10_firstDay_26 vX10_fact kX10_49 (s_fact (w := w) (a := a) (k := 4) hy a0 a1 (by decide) (by decide)) (by decide) (cY0 hy) rfl rfl (Nat.le_of_ble_eq_true rfl) rfl (zRt_el ?_)
  show zA l mX10_firstDay false 2 0 0 (zRp1 (isFst (yCan w y a) d) (ZZ t dr tx) w) zNo 29 [zR y, zI a, zI d, zI (w (y + 4) (a * 6 + 0)), zI (w (y + 4) (a * 6 + 2)), zI (w (y + 4) (a * 6 + 1)), .null, .null, .null] [zI (w (y + 4) (a * 6 + 4))] (ZZ t dr tx) w
  refine zA_istore (lo1 := [zR y, zI a, zI d, zI (w (y + 4) (a * 6 + 0)), zI (w (y + 4) (a * 6 + 2)), zI (w (y + 4) (a * 6 + 1)), zI (w (y + 4) (a * 6 + 4)), .null, .null]) dX10_firstDay_29 (by decide) rfl rfl ?_
  refine zA_iconst dX10_firstDay_31 ?_
  refine zA_istore (lo1 := [zR y, zI a, zI d, zI (w (y + 4) (a * 6 + 0)), zI (w (y + 4) (a * 6 + 2)), zI (w (y + 4) (a * 6 + 1)), zI (w (y + 4) (a * 6 + 4)), zI 0, .null]) dX10_firstDay_32 (by decide) rfl rfl ?_
  refine zA_iload_n dX10_firstDay_34 rfl ?_
  refine zA_aload_n dX10_firstDay_35 rfl ?_
  refine zA_iload_n dX10_firstDay_36 rfl ?_
  refine zA_iconst dX10_firstDay_37 ?_
  refine zA_cV (st := [zI d]) dX10_firstDay_38 vX10_fact kX10_49 (s_fact (w := w) (a := a) (k := 3) hy a0 a1 (by decide) (by decide)) (by decide) (cY0 hy) rfl rfl (Nat.le_of_ble_eq_true rfl) rfl (zRt_el ?_)
  show zA l mX10_firstDay false 2 0 0 (zRp1 (isFst (yCan w y a) d) (ZZ t dr tx) w) zNo 41 [zR y, zI a, zI d, zI (w (y + 4) (a * 6 + 0)), zI (w (y + 4) (a * 6 + 2)), zI (w (y + 4) (a * 6 + 1)), zI (w (y + 4) (a * 6 + 4)), zI 0, .null] [zI (w (y + 4) (a * 6 + 3)), zI d] (ZZ t dr tx) w
  refine zA_mmax dX10_firstDay_41 kmX10_53 zw_max (by first | assumption | exact hr _ _ | exact inR_mk (by omega) (by omega)) (by first | assumption | exact hr _ _ | exact inR_mk (by omega) (by omega)) (Nat.le_of_ble_eq_true rfl) ?_
  refine zA_istore (lo1 := [zR y, zI a, zI d, zI (w (y + 4) (a * 6 + 0)), zI (w (y + 4) (a * 6 + 2)), zI (w (y + 4) (a * 6 + 1)), zI (w (y + 4) (a * 6 + 4)), zI 0, zI (max d (w (y + 4) (a * 6 + 3)))]) dX10_firstDay_44 (by decide) rfl rfl ?_
  refine zA_iload dX10_firstDay_46 rfl ?_
  refine zA_iload dX10_firstDay_48 rfl ?_
  refine zA_icmp_gt (tgt := 106) dX10_firstDay_50 (by decide) (by first | assumption | exact hr _ _ | exact inR_mk (by omega) (by omega)) (by first | assumption | exact hr _ _ | exact inR_mk (by omega) (by omega)) (fun c50 => ?_) (fun c50 => ?_)
  · skip
    refine zA_iconst dX10_firstDay_106 ?_
    refine zA_iret dX10_firstDay_107 rfl ?_
    exact ⟨⟨_, rfl, Or.inl ⟨rfl, fun x h1 h3 => by obtain ⟨k1, k2, -⟩ := h3; omega⟩⟩, rfl, rfl⟩
  · skip
    exfalso; omega

theorem s_firstDayA {l : Launch} {t dr tx : Nat} {w : zW} {y : Nat} (hy : y = 4 ∨ y = 10) {a d : Int} (hY : okYard w y) (a0 : 0 ≤ a) (a1 : a < w y 7) (d0 : 0 ≤ d) (hdr : inR d) : zSp l mX10_firstDay false 2 0 0 [zR y, zI a, zI d] (ZZ t dr tx) w (zRp1 (isFst (yCan w y a) d) (ZZ t dr tx) w) zNo := by
  by_cases h : d < 30
  · exact s_firstDay hy hY a0 a1 d0 (by omega)
  · exact s_firstDayB hy hY a0 a1 (by omega) hdr
set_option maxRecDepth 100000 in
set_option maxHeartbeats 4000000 in
theorem s_begins {l : Launch} {t dr tx : Nat} {w : zW} (ht : t = 4 ∨ t = 10) (hY : okYard w t) {a d : Int} (ha : inR a) (hd : inR d) : zSp l mX11_begins false 3 2 12 [zR 0, zI a, zI d] (ZZ t dr tx) w (zIr ((0 ≤ a ∧ a < w t 7) ∧ 0 ≤ d) (isFst (yCan w t a) d) (ZZ t dr tx) w) (zXp (¬ (0 ≤ a ∧ a < w t 7)) ((0 ≤ a ∧ a < w t 7) ∧ d < 0) (ZZ t dr tx) w) := by
  refine zA_intro ⟨plainFor_of_name (by decide +kernel), Or.inl (by decide +kernel)⟩ rfl (Nat.le_of_ble_eq_true rfl) ?_
  refine zA_range (fun hr => ?_)
  show zA l mX11_begins false 3 2 12 (zIr ((0 ≤ a ∧ a < w t 7) ∧ 0 ≤ d) (isFst (yCan w t a) d) (ZZ t dr tx) w) (zXp (¬ (0 ≤ a ∧ a < w t 7)) ((0 ≤ a ∧ a < w t 7) ∧ d < 0) (ZZ t dr tx) w) 0 [zR 0, zI a, zI d] [] (ZZ t dr tx) w
  refine zA_aload_n dX11_begins_0 rfl ?_
  refine zA_iload_n dX11_begins_1 rfl ?_
  refine zA_callV (bc2 := 1) (bs2 := 6) (st := []) dX11_begins_2 vX11_askLetter kX11_162 (s_askLetter (w := w) ht (c := a) (by first | assumption | exact hr _ _ | exact inR_mk (by omega) (by omega))) (by decide) rfl rfl (Nat.le_of_ble_eq_true rfl) c0 rfl ⟨rfl, rfl⟩ (zRa_el (fun h_2 => ?_)) (zXp_m rfl (fun h => by first | exact h.elim | omega) (fun h => by first | exact h.elim | omega))
  show zA l mX11_begins false 3 1 6 (zIr ((0 ≤ a ∧ a < w t 7) ∧ 0 ≤ d) (isFst (yCan w t a) d) (ZZ t dr tx) w) (zXp (¬ (0 ≤ a ∧ a < w t 7)) ((0 ≤ a ∧ a < w t 7) ∧ d < 0) (ZZ t dr tx) w) 5 [zR 0, zI a, zI d] [] (ZZ t dr tx) w
  refine zA_iload_n dX11_begins_5 rfl ?_
  refine zA_if_ge (tgt := 19) dX11_begins_6 (by decide) (by first | assumption | exact hr _ _ | exact inR_mk (by omega) (by omega)) (fun c6 => ?_) (fun c6 => ?_)
  · skip
    refine zA_aload_n dX11_begins_19 rfl ?_
    refine zA_getR (n := t) dX11_begins_20 fX11_30 c0 rfl ?_
    refine zA_iload_n dX11_begins_23 rfl ?_
    refine zA_iload_n dX11_begins_24 rfl ?_
    refine zA_cV (st := []) dX11_begins_25 vX10_firstDay kX11_181 (s_firstDayA (w := w) ht (a := a) (d := d) hY (by omega) (by omega) (by omega) hd) (by decide) (cY0 ht) rfl rfl (Nat.le_of_ble_eq_true rfl) rfl (zRp1_el (fun r hrr => ?_))
    refine zA_iret dX11_begins_28 rfl ?_
    exact ⟨by omega, ⟨_, rfl, hrr⟩, rfl, rfl⟩
  · skip
    refine zA_throw (sa := 1102) (zIAE_n dX11_begins_9 dX11_begins_12 ⟨dX11_begins_13, dX11_begins_15, dX11_begins_18⟩) (List.mem_of_getElem? (i := 2) rfl) rfl rfl (Nat.le_of_ble_eq_true rfl) (by decide) ?_
    exact ⟨Or.inr ⟨rfl, by omega⟩, rfl, rfl⟩

set_option maxRecDepth 100000 in
set_option maxHeartbeats 4000000 in
theorem m_canBegin {l : Launch} {t dr tx : Nat} {w : zW} {a d : Int} (hL : okML w a) (a0 : 0 ≤ a) (a1 : a < 8) (hn0 : 0 ≤ w 78 0) (hn : w 78 0 ≤ 12) (d0 : 0 ≤ d) (d1 : d < 30) : zSp l mX12_canBegin false 3 0 0 [zR 73, zI a, zI d] (ZZ t dr tx) w (zRp1 (isB (mCan w a d)) (ZZ t dr tx) w) zNo := by
  refine zA_intro ⟨plainFor_of_name (by decide +kernel), Or.inl (by decide +kernel)⟩ rfl (Nat.le_of_ble_eq_true rfl) ?_
  obtain ⟨⟨q1, q2⟩, ⟨q3, q4⟩, ⟨q5, q6⟩, ⟨q7, q8⟩, q9, -⟩ := id hL
  refine zA_range (fun hr => ?_)
  show zA l mX12_canBegin false 3 0 0 (zRp1 (isB (mCan w a d)) (ZZ t dr tx) w) zNo 0 [zR 73, zI a, zI d, .null, .null] [] (ZZ t dr tx) w
  refine zA_bipush dX12_canBegin_0 rfl ?_
  refine zA_iload_n dX12_canBegin_2 rfl ?_
  refine zA_imul dX12_canBegin_3 ?_
  refine zA_istore_n (lo1 := [zR 73, zI a, zI d, zI (6 * a), .null]) dX12_canBegin_4 (by decide) rfl rfl ?_
  refine zA_iload_n dX12_canBegin_5 rfl ?_
  refine zA_aload_n dX12_canBegin_6 rfl ?_
  refine zA_getR (n := 81) dX12_canBegin_7 fX12_43 c73 rfl ?_
  refine zA_iload_n dX12_canBegin_10 rfl ?_
  refine zA_iconst dX12_canBegin_11 ?_
  refine zA_iadd dX12_canBegin_12 ?_
  refine zA_iaload dX12_canBegin_13 c81 (by first | assumption | omega) (by first | assumption | omega) (by decide) ?_
  refine zA_icmp_lt (tgt := 40) dX12_canBegin_14 (by decide) (by first | assumption | exact hr _ _ | exact inR_mk (by omega) (by omega)) (by first | assumption | exact hr _ _ | exact inR_mk (by omega) (by omega)) (fun c14 => ?_) (fun c14 => ?_)
  · skip
    refine zA_iconst dX12_canBegin_40 ?_
    refine zA_zret dX12_canBegin_41 rfl (Or.inl rfl) ?_
    exact ⟨⟨_, rfl, Or.inr ⟨rfl, fun h => by obtain ⟨h1, h2, -⟩ := h; omega⟩⟩, rfl, rfl⟩
  · skip
    refine zA_iload_n dX12_canBegin_17 rfl ?_
    refine zA_aload_n dX12_canBegin_18 rfl ?_
    refine zA_getR (n := 81) dX12_canBegin_19 fX12_43 c73 rfl ?_
    refine zA_iload_n dX12_canBegin_22 rfl ?_
    refine zA_iconst dX12_canBegin_23 ?_
    refine zA_iadd dX12_canBegin_24 ?_
    refine zA_iaload dX12_canBegin_25 c81 (by first | assumption | omega) (by first | assumption | omega) (by decide) ?_
    refine zA_iadd dX12_canBegin_26 ?_
    refine zA_iconst dX12_canBegin_27 ?_
    refine zA_isub dX12_canBegin_28 ?_
    refine zA_aload_n dX12_canBegin_29 rfl ?_
    refine zA_getR (n := 81) dX12_canBegin_30 fX12_43 c73 rfl ?_
    refine zA_iload_n dX12_canBegin_33 rfl ?_
    refine zA_iconst dX12_canBegin_34 ?_
    refine zA_iadd dX12_canBegin_35 ?_
    refine zA_iaload dX12_canBegin_36 c81 (by first | assumption | omega) (by first | assumption | omega) (by decide) ?_
    refine zA_icmp_le (tgt := 42) dX12_canBegin_37 (by decide) (by first | assumption | exact hr _ _ | exact inR_mk (by omega) (by omega)) (by first | assumption | exact hr _ _ | exact inR_mk (by omega) (by omega)) (fun c37 => ?_) (fun c37 => ?_)
    · skip
      refine zA_iload_n dX12_canBegin_42 rfl ?_
      refine zA_istore (lo1 := [zR 73, zI a, zI d, zI (6 * a), zI d]) dX12_canBegin_43 (by decide) rfl rfl ?_
      have L45 : ∀ (z45 : Nat) (e : Int) (e0 : d ≤ e) (e1 : e ≤ d + w 81 (6 * a + 1)) (hg : ∀ x : Int, d ≤ x → x < e → mGood w a x) (zm : (d + w 81 (6 * a + 1) - e).toNat < z45), zA l mX12_canBegin false 3 0 0 (zRp1 (isB (mCan w a d)) (ZZ t dr tx) w) zNo 45 [zR 73, zI a, zI d, zI (6 * a), zI e] [] (ZZ t dr tx) w := by
        intro z45
        induction z45 with
        | zero => intro e e0 e1 hg zm; exact absurd zm (Nat.not_lt_zero _)
        | succ z45 ih45 =>
          intro e e0 e1 hg zm
          refine zA_iload dX12_canBegin_45 rfl ?_
          refine zA_iload_n dX12_canBegin_47 rfl ?_
          refine zA_aload_n dX12_canBegin_48 rfl ?_
          refine zA_getR (n := 81) dX12_canBegin_49 fX12_43 c73 rfl ?_
          refine zA_iload_n dX12_canBegin_52 rfl ?_
          refine zA_iconst dX12_canBegin_53 ?_
          refine zA_iadd dX12_canBegin_54 ?_
          refine zA_iaload dX12_canBegin_55 c81 (by first | assumption | omega) (by first | assumption | omega) (by decide) ?_
          refine zA_iadd dX12_canBegin_56 ?_
          refine zA_icmp_ge (tgt := 101) dX12_canBegin_57 (by decide) (by first | assumption | exact hr _ _ | exact inR_mk (by omega) (by omega)) (by first | assumption | exact hr _ _ | exact inR_mk (by omega) (by omega)) (fun c57 => ?_) (fun c57 => ?_)
          · skip
            refine zA_iconst dX12_canBegin_101 ?_
            refine zA_zret dX12_canBegin_102 rfl (Or.inr rfl) ?_
            exact ⟨⟨_, rfl, Or.inl ⟨rfl, by omega, by omega, fun x p q => hg x p (by omega)⟩⟩, rfl, rfl⟩
          · skip
            refine zA_aload_n dX12_canBegin_60 rfl ?_
            refine zA_getR (n := 80) dX12_canBegin_61 fX12_41 c73 rfl ?_
            refine zA_iload dX12_canBegin_64 rfl ?_
            refine zA_iaload dX12_canBegin_66 c80 (by first | assumption | omega) (by first | assumption | omega) (by decide) ?_
            refine zA_aload_n dX12_canBegin_67 rfl ?_
            refine zA_getR (n := 81) dX12_canBegin_68 fX12_43 c73 rfl ?_
            refine zA_iload_n dX12_canBegin_71 rfl ?_
            refine zA_iconst dX12_canBegin_72 ?_
            refine zA_iadd dX12_canBegin_73 ?_
            refine zA_iaload dX12_canBegin_74 c81 (by first | assumption | omega) (by first | assumption | omega) (by decide) ?_
            refine zA_icmp_gt (tgt := 93) dX12_canBegin_75 (by decide) (by first | assumption | exact hr _ _ | exact inR_mk (by omega) (by omega)) (by first | assumption | exact hr _ _ | exact inR_mk (by omega) (by omega)) (fun c75 => ?_) (fun c75 => ?_)
            · skip
              refine zA_iconst dX12_canBegin_93 ?_
              refine zA_zret dX12_canBegin_94 rfl (Or.inl rfl) ?_
              refine ⟨⟨_, rfl, Or.inr ⟨rfl, fun h => ?_⟩⟩, rfl, rfl⟩
              have hh := h.2.2 e e0 (by omega)
              first
              | (have := hh.1; omega)
              | exact hh.2 (isB_ne hne c90)
            · skip
              refine zA_aload_n dX12_canBegin_78 rfl ?_
              refine zA_aload_n dX12_canBegin_79 rfl ?_
              refine zA_getR (n := 81) dX12_canBegin_80 fX12_43 c73 rfl ?_
              refine zA_iload_n dX12_canBegin_83 rfl ?_
              refine zA_iaload dX12_canBegin_84 c81 (by first | assumption | omega) (by first | assumption | omega) (by decide) ?_
              refine zA_iload dX12_canBegin_85 rfl ?_
              refine zA_cV (st := []) dX12_canBegin_87 vX12_isNested kX12_324 (m_isNested (w := w) (c := w 81 (6 * a)) (d := e) (hr _ _) (inR_mk (by omega) (by omega)) hn0 hn) (by decide) c73 rfl rfl (Nat.le_of_ble_eq_true rfl) rfl (zRp1_el (fun ne hne => ?_))
              have hner := isB_R hne
              refine zA_if_eq (tgt := 95) dX12_canBegin_90 (by decide) (by first | assumption | exact hr _ _ | exact inR_mk (by omega) (by omega)) (fun c90 => ?_) (fun c90 => ?_)
              · skip
                refine zA_iinc (lo1 := [zR 73, zI a, zI d, zI (6 * a), zI (e + 1)]) dX12_canBegin_95 rfl (by decide) rfl rfl ?_
                refine zA_goto (tgt := 45) dX12_canBegin_98 (by decide) ?_
                exact ih45 (e + 1) (by omega) (by omega) (fun x p q => by
                            by_cases h : x = e
                            · rw [h]; exact ⟨c75, isB_eq hne c90⟩
                            · exact hg x p (by omega)) (by omega)
              · skip
                refine zA_iconst dX12_canBegin_93 ?_
                refine zA_zret dX12_canBegin_94 rfl (Or.inl rfl) ?_
                refine ⟨⟨_, rfl, Or.inr ⟨rfl, fun h => ?_⟩⟩, rfl, rfl⟩
                have hh := h.2.2 e e0 (by omega)
                first
                | (have := hh.1; omega)
                | exact hh.2 (isB_ne hne c90)
      exact L45 _ d (by omega) (by omega) (fun x p q => by omega) (Nat.lt_succ_self _)
    · skip
      refine zA_iconst dX12_canBegin_40 ?_
      refine zA_zret dX12_canBegin_41 rfl (Or.inl rfl) ?_
      exact ⟨⟨_, rfl, Or.inr ⟨rfl, fun h => by obtain ⟨h1, h2, -⟩ := h; omega⟩⟩, rfl, rfl⟩

set_option maxRecDepth 100000 in
set_option maxHeartbeats 4000000 in
theorem m_firstDay {l : Launch} {t dr tx : Nat} {w : zW} {a d : Int} (hL : okML w a) (a0 : 0 ≤ a) (a1 : a < 8) (hn0 : 0 ≤ w 78 0) (hn : w 78 0 ≤ 12) (d0 : 0 ≤ d) (hdr : inR d) : zSp l mX12_firstDay false 4 0 0 [zR 73, zI a, zI d] (ZZ t dr tx) w (zRp1 (isFst (mCan w a) d) (ZZ t dr tx) w) zNo := by
  refine zA_intro ⟨plainFor_of_name (by decide +kernel), Or.inl (by decide +kernel)⟩ rfl (Nat.le_of_ble_eq_true rfl) ?_
  obtain ⟨⟨q1, q2⟩, ⟨q3, q4⟩, ⟨q5, q6⟩, ⟨q7, q8⟩, q9, -⟩ := id hL
  have hd2 := hdr.2
  refine zA_range (fun hr => ?_)
  show zA l mX12_firstDay false 4 0 0 (zRp1 (isFst (mCan w a) d) (ZZ t dr tx) w) zNo 0 [zR 73, zI a, zI d, .null] [] (ZZ t dr tx) w
  refine zA_iload_n dX12_firstDay_0 rfl ?_
  refine zA_istore_n (lo1 := [zR 73, zI a, zI d, zI d]) dX12_firstDay_1 (by decide) rfl rfl ?_
  have L2 : ∀ (z2 : Nat) (e : Int) (e0 : d ≤ e) (e1 : e ≤ max d 30) (hg : ∀ x : Int, d ≤ x → x < e → ¬ mCan w a x) (zm : (max d 30 - e).toNat < z2), zA l mX12_firstDay false 4 0 0 (zRp1 (isFst (mCan w a) d) (ZZ t dr tx) w) zNo 2 [zR 73, zI a, zI d, zI e] [] (ZZ t dr tx) w := by
    intro z2
    induction z2 with
    | zero => intro e e0 e1 hg zm; exact absurd zm (Nat.not_lt_zero _)
    | succ z2 ih2 =>
      intro e e0 e1 hg zm
      refine zA_iload_n dX12_firstDay_2 rfl ?_
      refine zA_bipush dX12_firstDay_3 rfl ?_
      refine zA_icmp_ge (tgt := 25) dX12_firstDay_5 (by decide) (by first | assumption | exact hr _ _ | exact inR_mk (by omega) (by omega)) ⟨by decide, by decide⟩ (fun c5 => ?_) (fun c5 => ?_)
      · skip
        refine zA_iconst dX12_firstDay_25 ?_
        refine zA_iret dX12_firstDay_26 rfl ?_
        exact ⟨⟨_, rfl, Or.inl ⟨rfl, fun x p h => (by
          by_cases q : x < e
          · exact hg x p q h
          · obtain ⟨h1, h2, -⟩ := h; omega)⟩⟩, rfl, rfl⟩
      · skip
        refine zA_aload_n dX12_firstDay_8 rfl ?_
        refine zA_iload_n dX12_firstDay_9 rfl ?_
        refine zA_iload_n dX12_firstDay_10 rfl ?_
        refine zA_cV (st := []) dX12_firstDay_11 vX12_canBegin kX12_328 (m_canBegin (w := w) (a := a) (d := e) hL a0 a1 hn0 hn (by omega) (by omega)) (by decide) c73 rfl rfl (Nat.le_of_ble_eq_true rfl) rfl (zRp1_el (fun cb hcb => ?_))
        have hcbr := isB_R hcb
        refine zA_if_eq (tgt := 19) dX12_firstDay_14 (by decide) (by first | assumption | exact hr _ _ | exact inR_mk (by omega) (by omega)) (fun c14 => ?_) (fun c14 => ?_)
        · skip
          refine zA_iinc (lo1 := [zR 73, zI a, zI d, zI (e + 1)]) dX12_firstDay_19 rfl (by decide) rfl rfl ?_
          refine zA_goto (tgt := 2) dX12_firstDay_22 (by decide) ?_
          exact ih2 (e + 1) (by omega) (by omega) (fun x p q => by
                      by_cases h : x = e
                      · rw [h]; exact isB_eq hcb c14
                      · exact hg x p (by omega)) (by omega)
        · skip
          refine zA_iload_n dX12_firstDay_17 rfl ?_
          refine zA_iret dX12_firstDay_18 rfl ?_
          exact ⟨⟨_, rfl, Or.inr ⟨e0, isB_ne hcb c14, hg⟩⟩, rfl, rfl⟩
  exact L2 _ d (by omega) (by omega) (fun x p q => by omega) (Nat.lt_succ_self _)

set_option maxRecDepth 100000 in
set_option maxHeartbeats 4000000 in
theorem m_begins {l : Launch} {t dr tx : Nat} {w : zW} {a d : Int} (ha : inR a) (hd : inR d) (hl0 : 0 ≤ w 76 0) (hl1 : w 76 0 ≤ 8) (hn0 : 0 ≤ w 78 0) (hn : w 78 0 ≤ 12) (hML : ∀ l : Int, 0 ≤ l → l < w 76 0 → okML w l) : zSp l mX12_begins false 5 0 0 [zR 73, zI a, zI d] (ZZ t dr tx) w (zMr (¬ (0 ≤ a ∧ a < w 76 0)) (d < 0) (isFst (mCan w a) d) (ZZ t dr tx) w (up w 73 1 0)) zNo := by
  refine zA_intro ⟨plainFor_of_name (by decide +kernel), Or.inl (by decide +kernel)⟩ rfl (Nat.le_of_ble_eq_true rfl) ?_
  refine zA_range (fun hr => ?_)
  show zA l mX12_begins false 5 0 0 (zMr (¬ (0 ≤ a ∧ a < w 76 0)) (d < 0) (isFst (mCan w a) d) (ZZ t dr tx) w (up w 73 1 0)) zNo 0 [zR 73, zI a, zI d] [] (ZZ t dr tx) w
  refine zA_aload_n dX12_begins_0 rfl ?_
  refine zA_iconst dX12_begins_1 ?_
  refine zA_putI dX12_begins_2 fX12_182 c73 rfl ⟨by decide, by decide⟩ ⟨rfl, rfl⟩ ?_
  refine zA_namew (fun w_1 hw_1 => ?_)
  refine zA_range (fun hr => ?_)
  replace hw_1 : w_1 = up w 73 1 0 := hw_1
  have ef : ∀ cc i, cc ≠ 73 → w_1 cc i = w cc i := fun cc i h => by rw [hw_1, up_cell _ _ _ _ h]
  have ew : ∀ cc, cc ≠ 73 → w_1 cc = w cc := fun cc h => funext fun i => ef cc i h
  have e76 : w_1 76 0 = w 76 0 := ef 76 0 (by decide)
  have e73 : ∀ i, i ≠ 1 → w_1 73 i = w 73 i := fun i h => by rw [hw_1, up_idx _ _ _ _ h]
  refine zA_aload_n dX12_begins_5 rfl ?_
  refine zA_iload_n dX12_begins_6 rfl ?_
  refine zA_cV (st := []) dX12_begins_7 vX12_isLetter kX12_318 (m_isLetter (w := w_1) (c := a) (by first | assumption | exact hr _ _ | exact inR_mk (by omega) (by omega)) (by omega) (by omega)) (by decide) c73 rfl rfl (Nat.le_of_ble_eq_true rfl) rfl (zRt_el ?_)
  show zA l mX12_begins false 5 0 0 (zMr (¬ (0 ≤ a ∧ a < w 76 0)) (d < 0) (isFst (mCan w a) d) (ZZ t dr tx) w (up w 73 1 0)) zNo 10 [zR 73, zI a, zI d] [zI (if 0 ≤ a ∧ a < w_1 76 0 then 1 else 0)] (ZZ t dr tx) w_1
  refine zA_if_ne (tgt := 19) dX12_begins_10 (by decide) (inR_ite _) (fun c10 => ?_) (fun c10 => ?_)
  · skip
    replace c10 := zite_ne c10
    refine zA_iload_n dX12_begins_19 rfl ?_
    refine zA_if_ge (tgt := 31) dX12_begins_20 (by decide) (by first | assumption | exact hr _ _ | exact inR_mk (by omega) (by omega)) (fun c20 => ?_) (fun c20 => ?_)
    · skip
      refine zA_aload_n dX12_begins_31 rfl ?_
      refine zA_iload_n dX12_begins_32 rfl ?_
      refine zA_iload_n dX12_begins_33 rfl ?_
      refine zA_cV (st := []) dX12_begins_34 vX12_firstDay kX12_331 (m_firstDay (w := w_1) (a := a) (d := d) (by have h := hML a (by omega) (by omega); unfold okML at h ⊢; rw [ew 81 (by decide), ew 75 (by decide)]; exact h) (by omega) (by omega) (by rw [ew 78 (by decide)]; exact hn0) (by rw [ew 78 (by decide)]; exact hn) (by omega) hd) (by decide) c73 rfl rfl (Nat.le_of_ble_eq_true rfl) rfl (zRp1_el (fun fd hfd => ?_))
      have hcan : mCan w_1 a = mCan w a := by unfold mCan mGood mNe; rw [ew 81 (by decide), ew 80 (by decide), ew 78 (by decide), ew 83 (by decide)]
      rw [hcan] at hfd
      refine zA_iret dX12_begins_37 rfl ?_
      exact ⟨rfl, Or.inr (Or.inr ⟨by omega, by omega, ⟨_, rfl, hfd⟩, hw_1⟩)⟩
    · skip
      refine zA_aload_n dX12_begins_23 rfl ?_
      refine zA_iconst dX12_begins_24 ?_
      refine zA_cV (st := []) dX12_begins_25 vX12_fail kX12_292 (m_fail (w := w_1) (k := 2) ⟨by decide, by decide⟩) (by decide) c73 rfl rfl (Nat.le_of_ble_eq_true rfl) rfl (zRt_el ?_)
      show zA l mX12_begins false 5 0 0 (zMr (¬ (0 ≤ a ∧ a < w 76 0)) (d < 0) (isFst (mCan w a) d) (ZZ t dr tx) w (up w 73 1 0)) zNo 28 [zR 73, zI a, zI d] [zI 0] (ZZ t dr tx) (up w_1 73 1 2)
      refine zA_goto (tgt := 37) dX12_begins_28 (by decide) ?_
      refine zA_iret dX12_begins_37 rfl ?_
      exact ⟨rfl, Or.inr (Or.inl ⟨by omega, by omega, rfl, by rw [hw_1, up_up]⟩)⟩
  · skip
    replace c10 := zite_eq c10
    refine zA_aload_n dX12_begins_13 rfl ?_
    refine zA_iconst dX12_begins_14 ?_
    refine zA_cV (st := []) dX12_begins_15 vX12_fail kX12_292 (m_fail (w := w_1) (k := 1) ⟨by decide, by decide⟩) (by decide) c73 rfl rfl (Nat.le_of_ble_eq_true rfl) rfl (zRt_el ?_)
    show zA l mX12_begins false 5 0 0 (zMr (¬ (0 ≤ a ∧ a < w 76 0)) (d < 0) (isFst (mCan w a) d) (ZZ t dr tx) w (up w 73 1 0)) zNo 18 [zR 73, zI a, zI d] [zI 0] (ZZ t dr tx) (up w_1 73 1 1)
    refine zA_iret dX12_begins_18 rfl ?_
    exact ⟨rfl, Or.inl ⟨by omega, rfl, by rw [hw_1, up_up]⟩⟩

set_option maxRecDepth 100000 in
set_option maxHeartbeats 4000000 in
theorem s_count {l : Launch} {t dr tx : Nat} {w : zW} (ht : t = 4 ∨ t = 10) {k : Int} (hk : inR k) : zSp l mX11_count false 3 1 6 [zR 0, zI k] (ZZ t dr tx) w (zIs (0 ≤ k ∧ k < 8) (if k = 0 then w t 5 else if k = 1 then w t 7 else if k = 2 then w t 6 else if k = 3 then w t 8 else if k = 4 then w 44 1 else if k = 5 then w 0 1 else if k = 6 then w 39 1 else w 44 4) (ZZ t dr tx) w) (zXp (¬ (0 ≤ k ∧ k < 8)) (False) (ZZ t dr tx) w) := by
  refine zA_intro ⟨plainFor_of_name (by decide +kernel), Or.inl (by decide +kernel)⟩ rfl (Nat.le_of_ble_eq_true rfl) ?_
  refine zA_range (fun hr => ?_)
  show zA l mX11_count false 3 1 6 (zIs (0 ≤ k ∧ k < 8) (if k = 0 then w t 5 else if k = 1 then w t 7 else if k = 2 then w t 6 else if k = 3 then w t 8 else if k = 4 then w 44 1 else if k = 5 then w 0 1 else if k = 6 then w 39 1 else w 44 4) (ZZ t dr tx) w) (zXp (¬ (0 ≤ k ∧ k < 8)) (False) (ZZ t dr tx) w) 0 [zR 0, zI k] [] (ZZ t dr tx) w
  refine zA_iload_n dX11_count_0 rfl ?_
  have ct : k = 0 ∨ k = 1 ∨ k = 2 ∨ k = 3 ∨ k = 4 ∨ k = 5 ∨ k = 6 ∨ k = 7 ∨ (k < 0 ∨ 7 < k) := by omega
  rcases ct with c1 | c1 | c1 | c1 | c1 | c1 | c1 | c1 | c1
  · refine zA_tableIn (off := 47) (tgt := 48) dX11_count_1 (by first | assumption | exact hr _ _ | exact inR_mk (by omega) (by omega)) (by omega) (by omega) (by rw [c1]; rfl) (by decide) ?_
    refine zA_aload_n dX11_count_48 rfl ?_
    refine zA_getR (n := t) dX11_count_49 fX11_30 c0 rfl ?_
    refine zA_getI dX11_count_52 fX11_136 (cY0 ht) rfl ?_
    refine zA_valI (w t 5) rfl ?_
    refine zA_iret dX11_count_55 rfl ?_
    exact ⟨by omega, by rw [c1]; rfl, rfl, rfl⟩
  · refine zA_tableIn (off := 55) (tgt := 56) dX11_count_1 (by first | assumption | exact hr _ _ | exact inR_mk (by omega) (by omega)) (by omega) (by omega) (by rw [c1]; rfl) (by decide) ?_
    refine zA_aload_n dX11_count_56 rfl ?_
    refine zA_getR (n := t) dX11_count_57 fX11_30 c0 rfl ?_
    refine zA_getI dX11_count_60 fX11_139 (cY0 ht) rfl ?_
    refine zA_valI (w t 7) rfl ?_
    refine zA_iret dX11_count_63 rfl ?_
    exact ⟨by omega, by rw [c1]; rfl, rfl, rfl⟩
  · refine zA_tableIn (off := 63) (tgt := 64) dX11_count_1 (by first | assumption | exact hr _ _ | exact inR_mk (by omega) (by omega)) (by omega) (by omega) (by rw [c1]; rfl) (by decide) ?_
    refine zA_aload_n dX11_count_64 rfl ?_
    refine zA_getR (n := t) dX11_count_65 fX11_30 c0 rfl ?_
    refine zA_getI dX11_count_68 fX11_142 (cY0 ht) rfl ?_
    refine zA_valI (w t 6) rfl ?_
    refine zA_iret dX11_count_71 rfl ?_
    exact ⟨by omega, by rw [c1]; rfl, rfl, rfl⟩
  · refine zA_tableIn (off := 71) (tgt := 72) dX11_count_1 (by first | assumption | exact hr _ _ | exact inR_mk (by omega) (by omega)) (by omega) (by omega) (by rw [c1]; rfl) (by decide) ?_
    refine zA_aload_n dX11_count_72 rfl ?_
    refine zA_getR (n := t) dX11_count_73 fX11_30 c0 rfl ?_
    refine zA_getI dX11_count_76 fX11_145 (cY0 ht) rfl ?_
    refine zA_valI (w t 8) rfl ?_
    refine zA_iret dX11_count_79 rfl ?_
    exact ⟨by omega, by rw [c1]; rfl, rfl, rfl⟩
  · refine zA_tableIn (off := 79) (tgt := 80) dX11_count_1 (by first | assumption | exact hr _ _ | exact inR_mk (by omega) (by omega)) (by omega) (by omega) (by rw [c1]; rfl) (by decide) ?_
    refine zA_aload_n dX11_count_80 rfl ?_
    refine zA_getR (n := 44) dX11_count_81 fX11_71 c0 rfl ?_
    refine zA_getI dX11_count_84 fX11_148 c44 rfl ?_
    refine zA_valI (w 44 1) rfl ?_
    refine zA_iret dX11_count_87 rfl ?_
    exact ⟨by omega, by rw [c1]; rfl, rfl, rfl⟩
  · refine zA_tableIn (off := 87) (tgt := 88) dX11_count_1 (by first | assumption | exact hr _ _ | exact inR_mk (by omega) (by omega)) (by omega) (by omega) (by rw [c1]; rfl) (by decide) ?_
    refine zA_aload_n dX11_count_88 rfl ?_
    refine zA_getI dX11_count_89 fX11_13 c0 rfl ?_
    refine zA_valI (w 0 1) rfl ?_
    refine zA_iret dX11_count_92 rfl ?_
    exact ⟨by omega, by rw [c1]; rfl, rfl, rfl⟩
  · refine zA_tableIn (off := 92) (tgt := 93) dX11_count_1 (by first | assumption | exact hr _ _ | exact inR_mk (by omega) (by omega)) (by omega) (by omega) (by rw [c1]; rfl) (by decide) ?_
    refine zA_aload_n dX11_count_93 rfl ?_
    refine zA_getR (n := 39) dX11_count_94 fX11_64 c0 rfl ?_
    refine zA_getI dX11_count_97 fX11_151 c39 rfl ?_
    refine zA_valI (w 39 1) rfl ?_
    refine zA_iret dX11_count_100 rfl ?_
    exact ⟨by omega, by rw [c1]; rfl, rfl, rfl⟩
  · refine zA_tableIn (off := 100) (tgt := 101) dX11_count_1 (by first | assumption | exact hr _ _ | exact inR_mk (by omega) (by omega)) (by omega) (by omega) (by rw [c1]; rfl) (by decide) ?_
    refine zA_aload_n dX11_count_101 rfl ?_
    refine zA_getR (n := 44) dX11_count_102 fX11_71 c0 rfl ?_
    refine zA_getI dX11_count_105 fX11_154 c44 rfl ?_
    refine zA_valI (w 44 4) rfl ?_
    refine zA_iret dX11_count_108 rfl ?_
    exact ⟨by omega, by rw [c1]; rfl, rfl, rfl⟩
  · refine zA_tableOut (tgt := 109) dX11_count_1 (by first | assumption | exact hr _ _ | exact inR_mk (by omega) (by omega)) (by omega) (by decide) ?_
    refine zA_throw (sa := 1101) (zNSE_n dX11_count_109 dX11_count_112 ⟨dX11_count_113, dX11_count_115, dX11_count_118⟩) (List.mem_of_getElem? (i := 1) rfl) rfl rfl (Nat.le_of_ble_eq_true rfl) (by decide) ?_
    exact ⟨Or.inl ⟨rfl, by omega⟩, rfl, rfl⟩

set_option maxRecDepth 100000 in
set_option maxHeartbeats 4000000 in
theorem m_count {l : Launch} {t dr tx : Nat} {w : zW} {k : Int} (hk : inR k) : zSp l mX12_count false 3 0 0 [zR 73, zI k] (ZZ t dr tx) w (zMq (¬ (0 ≤ k ∧ k < 8)) False (if k = 0 then w 75 0 else if k = 1 then w 76 0 else if k = 2 then w 77 0 else if k = 3 then w 78 0 else if k = 4 then w 73 44 else if k = 5 then w 73 12 else if k = 6 then w 73 45 else w 73 46) (ZZ t dr tx) w (up w 73 1 0)) zNo := by
  refine zA_intro ⟨plainFor_of_name (by decide +kernel), Or.inl (by decide +kernel)⟩ rfl (Nat.le_of_ble_eq_true rfl) ?_
  refine zA_range (fun hr => ?_)
  show zA l mX12_count false 3 0 0 (zMq (¬ (0 ≤ k ∧ k < 8)) False (if k = 0 then w 75 0 else if k = 1 then w 76 0 else if k = 2 then w 77 0 else if k = 3 then w 78 0 else if k = 4 then w 73 44 else if k = 5 then w 73 12 else if k = 6 then w 73 45 else w 73 46) (ZZ t dr tx) w (up w 73 1 0)) zNo 0 [zR 73, zI k] [] (ZZ t dr tx) w
  refine zA_aload_n dX12_count_0 rfl ?_
  refine zA_iconst dX12_count_1 ?_
  refine zA_putI dX12_count_2 fX12_182 c73 rfl ⟨by decide, by decide⟩ ⟨rfl, rfl⟩ ?_
  refine zA_namew (fun w_1 hw_1 => ?_)
  refine zA_range (fun hr => ?_)
  replace hw_1 : w_1 = up w 73 1 0 := hw_1
  have ef : ∀ cc i, cc ≠ 73 → w_1 cc i = w cc i := fun cc i h => by rw [hw_1, up_cell _ _ _ _ h]
  have ew : ∀ cc, cc ≠ 73 → w_1 cc = w cc := fun cc h => funext fun i => ef cc i h
  have e76 : w_1 76 0 = w 76 0 := ef 76 0 (by decide)
  have e73 : ∀ i, i ≠ 1 → w_1 73 i = w 73 i := fun i h => by rw [hw_1, up_idx _ _ _ _ h]
  refine zA_iload_n dX12_count_5 rfl ?_
  have ct : k = 0 ∨ k = 1 ∨ k = 2 ∨ k = 3 ∨ k = 4 ∨ k = 5 ∨ k = 6 ∨ k = 7 ∨ (k < 0 ∨ 7 < k) := by omega
  rcases ct with c6 | c6 | c6 | c6 | c6 | c6 | c6 | c6 | c6
  · refine zA_tableIn (off := 46) (tgt := 52) dX12_count_6 (by first | assumption | exact hr _ _ | exact inR_mk (by omega) (by omega)) (by omega) (by omega) (by rw [c6]; rfl) (by decide) ?_
    refine zA_aload_n dX12_count_52 rfl ?_
    refine zA_getR (n := 75) dX12_count_53 fX12_25 c73 rfl ?_
    refine zA_iconst dX12_count_56 ?_
    refine zA_iaload dX12_count_57 c75 (by first | assumption | omega) (by first | assumption | omega) (by decide) ?_
    refine zA_iret dX12_count_58 rfl ?_
    exact ⟨rfl, Or.inr (Or.inr ⟨by omega, fun h => h, by rw [c6]; first | (rw [ef _ _ (by decide : (75 : Nat) ≠ 73)]; rfl) | (rw [ef _ _ (by decide : (76 : Nat) ≠ 73)]; rfl) | (rw [ef _ _ (by decide : (77 : Nat) ≠ 73)]; rfl) | (rw [ef _ _ (by decide : (78 : Nat) ≠ 73)]; rfl) | (rw [e73 44 (by decide)]; rfl) | (rw [e73 12 (by decide)]; rfl) | (rw [e73 45 (by decide)]; rfl) | (rw [e73 46 (by decide)]; rfl), hw_1⟩)⟩
  · refine zA_tableIn (off := 53) (tgt := 59) dX12_count_6 (by first | assumption | exact hr _ _ | exact inR_mk (by omega) (by omega)) (by omega) (by omega) (by rw [c6]; rfl) (by decide) ?_
    refine zA_aload_n dX12_count_59 rfl ?_
    refine zA_getR (n := 76) dX12_count_60 fX12_29 c73 rfl ?_
    refine zA_iconst dX12_count_63 ?_
    refine zA_iaload dX12_count_64 c76 (by first | assumption | omega) (by first | assumption | omega) (by decide) ?_
    refine zA_iret dX12_count_65 rfl ?_
    exact ⟨rfl, Or.inr (Or.inr ⟨by omega, fun h => h, by rw [c6]; first | (rw [ef _ _ (by decide : (75 : Nat) ≠ 73)]; rfl) | (rw [ef _ _ (by decide : (76 : Nat) ≠ 73)]; rfl) | (rw [ef _ _ (by decide : (77 : Nat) ≠ 73)]; rfl) | (rw [ef _ _ (by decide : (78 : Nat) ≠ 73)]; rfl) | (rw [e73 44 (by decide)]; rfl) | (rw [e73 12 (by decide)]; rfl) | (rw [e73 45 (by decide)]; rfl) | (rw [e73 46 (by decide)]; rfl), hw_1⟩)⟩
  · refine zA_tableIn (off := 60) (tgt := 66) dX12_count_6 (by first | assumption | exact hr _ _ | exact inR_mk (by omega) (by omega)) (by omega) (by omega) (by rw [c6]; rfl) (by decide) ?_
    refine zA_aload_n dX12_count_66 rfl ?_
    refine zA_getR (n := 77) dX12_count_67 fX12_32 c73 rfl ?_
    refine zA_iconst dX12_count_70 ?_
    refine zA_iaload dX12_count_71 c77 (by first | assumption | omega) (by first | assumption | omega) (by decide) ?_
    refine zA_iret dX12_count_72 rfl ?_
    exact ⟨rfl, Or.inr (Or.inr ⟨by omega, fun h => h, by rw [c6]; first | (rw [ef _ _ (by decide : (75 : Nat) ≠ 73)]; rfl) | (rw [ef _ _ (by decide : (76 : Nat) ≠ 73)]; rfl) | (rw [ef _ _ (by decide : (77 : Nat) ≠ 73)]; rfl) | (rw [ef _ _ (by decide : (78 : Nat) ≠ 73)]; rfl) | (rw [e73 44 (by decide)]; rfl) | (rw [e73 12 (by decide)]; rfl) | (rw [e73 45 (by decide)]; rfl) | (rw [e73 46 (by decide)]; rfl), hw_1⟩)⟩
  · refine zA_tableIn (off := 67) (tgt := 73) dX12_count_6 (by first | assumption | exact hr _ _ | exact inR_mk (by omega) (by omega)) (by omega) (by omega) (by rw [c6]; rfl) (by decide) ?_
    refine zA_aload_n dX12_count_73 rfl ?_
    refine zA_getR (n := 78) dX12_count_74 fX12_35 c73 rfl ?_
    refine zA_iconst dX12_count_77 ?_
    refine zA_iaload dX12_count_78 c78 (by first | assumption | omega) (by first | assumption | omega) (by decide) ?_
    refine zA_iret dX12_count_79 rfl ?_
    exact ⟨rfl, Or.inr (Or.inr ⟨by omega, fun h => h, by rw [c6]; first | (rw [ef _ _ (by decide : (75 : Nat) ≠ 73)]; rfl) | (rw [ef _ _ (by decide : (76 : Nat) ≠ 73)]; rfl) | (rw [ef _ _ (by decide : (77 : Nat) ≠ 73)]; rfl) | (rw [ef _ _ (by decide : (78 : Nat) ≠ 73)]; rfl) | (rw [e73 44 (by decide)]; rfl) | (rw [e73 12 (by decide)]; rfl) | (rw [e73 45 (by decide)]; rfl) | (rw [e73 46 (by decide)]; rfl), hw_1⟩)⟩
  · refine zA_tableIn (off := 74) (tgt := 80) dX12_count_6 (by first | assumption | exact hr _ _ | exact inR_mk (by omega) (by omega)) (by omega) (by omega) (by rw [c6]; rfl) (by decide) ?_
    refine zA_aload_n dX12_count_80 rfl ?_
    refine zA_getI dX12_count_81 fX12_312 c73 rfl ?_
    refine zA_valI (w_1 73 44) rfl ?_
    refine zA_iret dX12_count_84 rfl ?_
    exact ⟨rfl, Or.inr (Or.inr ⟨by omega, fun h => h, by rw [c6]; first | (rw [ef _ _ (by decide : (75 : Nat) ≠ 73)]; rfl) | (rw [ef _ _ (by decide : (76 : Nat) ≠ 73)]; rfl) | (rw [ef _ _ (by decide : (77 : Nat) ≠ 73)]; rfl) | (rw [ef _ _ (by decide : (78 : Nat) ≠ 73)]; rfl) | (rw [e73 44 (by decide)]; rfl) | (rw [e73 12 (by decide)]; rfl) | (rw [e73 45 (by decide)]; rfl) | (rw [e73 46 (by decide)]; rfl), hw_1⟩)⟩
  · refine zA_tableIn (off := 79) (tgt := 85) dX12_count_6 (by first | assumption | exact hr _ _ | exact inR_mk (by omega) (by omega)) (by omega) (by omega) (by rw [c6]; rfl) (by decide) ?_
    refine zA_aload_n dX12_count_85 rfl ?_
    refine zA_getI dX12_count_86 fX12_189 c73 rfl ?_
    refine zA_valI (w_1 73 12) rfl ?_
    refine zA_iret dX12_count_89 rfl ?_
    exact ⟨rfl, Or.inr (Or.inr ⟨by omega, fun h => h, by rw [c6]; first | (rw [ef _ _ (by decide : (75 : Nat) ≠ 73)]; rfl) | (rw [ef _ _ (by decide : (76 : Nat) ≠ 73)]; rfl) | (rw [ef _ _ (by decide : (77 : Nat) ≠ 73)]; rfl) | (rw [ef _ _ (by decide : (78 : Nat) ≠ 73)]; rfl) | (rw [e73 44 (by decide)]; rfl) | (rw [e73 12 (by decide)]; rfl) | (rw [e73 45 (by decide)]; rfl) | (rw [e73 46 (by decide)]; rfl), hw_1⟩)⟩
  · refine zA_tableIn (off := 84) (tgt := 90) dX12_count_6 (by first | assumption | exact hr _ _ | exact inR_mk (by omega) (by omega)) (by omega) (by omega) (by rw [c6]; rfl) (by decide) ?_
    refine zA_aload_n dX12_count_90 rfl ?_
    refine zA_getI dX12_count_91 fX12_315 c73 rfl ?_
    refine zA_valI (w_1 73 45) rfl ?_
    refine zA_iret dX12_count_94 rfl ?_
    exact ⟨rfl, Or.inr (Or.inr ⟨by omega, fun h => h, by rw [c6]; first | (rw [ef _ _ (by decide : (75 : Nat) ≠ 73)]; rfl) | (rw [ef _ _ (by decide : (76 : Nat) ≠ 73)]; rfl) | (rw [ef _ _ (by decide : (77 : Nat) ≠ 73)]; rfl) | (rw [ef _ _ (by decide : (78 : Nat) ≠ 73)]; rfl) | (rw [e73 44 (by decide)]; rfl) | (rw [e73 12 (by decide)]; rfl) | (rw [e73 45 (by decide)]; rfl) | (rw [e73 46 (by decide)]; rfl), hw_1⟩)⟩
  · refine zA_tableIn (off := 89) (tgt := 95) dX12_count_6 (by first | assumption | exact hr _ _ | exact inR_mk (by omega) (by omega)) (by omega) (by omega) (by rw [c6]; rfl) (by decide) ?_
    refine zA_aload_n dX12_count_95 rfl ?_
    refine zA_getI dX12_count_96 fX12_91 c73 rfl ?_
    refine zA_valI (w_1 73 46) rfl ?_
    refine zA_iret dX12_count_99 rfl ?_
    exact ⟨rfl, Or.inr (Or.inr ⟨by omega, fun h => h, by rw [c6]; first | (rw [ef _ _ (by decide : (75 : Nat) ≠ 73)]; rfl) | (rw [ef _ _ (by decide : (76 : Nat) ≠ 73)]; rfl) | (rw [ef _ _ (by decide : (77 : Nat) ≠ 73)]; rfl) | (rw [ef _ _ (by decide : (78 : Nat) ≠ 73)]; rfl) | (rw [e73 44 (by decide)]; rfl) | (rw [e73 12 (by decide)]; rfl) | (rw [e73 45 (by decide)]; rfl) | (rw [e73 46 (by decide)]; rfl), hw_1⟩)⟩
  · refine zA_tableOut (tgt := 100) dX12_count_6 (by first | assumption | exact hr _ _ | exact inR_mk (by omega) (by omega)) (by omega) (by decide) ?_
    refine zA_aload_n dX12_count_100 rfl ?_
    refine zA_iconst dX12_count_101 ?_
    refine zA_cV (st := []) dX12_count_102 vX12_fail kX12_292 (m_fail (w := w_1) (k := 1) ⟨by decide, by decide⟩) (by decide) c73 rfl rfl (Nat.le_of_ble_eq_true rfl) rfl (zRt_el ?_)
    show zA l mX12_count false 3 0 0 (zMq (¬ (0 ≤ k ∧ k < 8)) False (if k = 0 then w 75 0 else if k = 1 then w 76 0 else if k = 2 then w 77 0 else if k = 3 then w 78 0 else if k = 4 then w 73 44 else if k = 5 then w 73 12 else if k = 6 then w 73 45 else w 73 46) (ZZ t dr tx) w (up w 73 1 0)) zNo 105 [zR 73, zI k] [zI 0] (ZZ t dr tx) (up w_1 73 1 1)
    refine zA_iret dX12_count_105 rfl ?_
    exact ⟨rfl, Or.inl ⟨by omega, rfl, by rw [hw_1, up_up]⟩⟩

