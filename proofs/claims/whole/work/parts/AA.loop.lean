/-! the law's loop -/
set_option maxRecDepth 100000 in
set_option maxHeartbeats 8000000 in
theorem law_loop {L : Nat} {xs : Nat → Int32} {l : Launch} (hL : L ≤ 3072) : ∀ (r n t dr tx : Nat) (w : zW) (i : Int), zSim n t dr tx w → i = 6 * (n : Int) → i ≤ (L : Int) → (L : Int) - i < 6 * (r : Int) + 6 → zB L xs l mL_law false 16 (3 * r) (18 * r) QL zNo 23 [zR 4000, zR 0, zR 73, zR 121, zI i, .null, .null] [] (ZZ t dr tx) w := by
  intro r
  have hL0 : L < 2147483648 := by omega
  induction r with
  | zero =>
    intro n t dr tx w i hs hi hiL hr
    refine zB_iload dL_law_23 rfl ?_
    refine zB_aload_n dL_law_25 rfl ?_
    refine zB_slen dL_law_26 hL0 ?_
    refine zB_bipush dL_law_27 rfl ?_
    refine zB_isub dL_law_29 ?_
    refine zB_icmp_gt (tgt := 3201) dL_law_30 (by decide) (inR_mk (by omega) (by omega)) (inR_mk (by omega) (by omega)) (fun _ => ?_) (fun q => absurd q (by omega))
    refine zB_iconst dL_law_3201 ?_
    exact zB_zret dL_law_3202 rfl (Or.inr rfl) rfl
  | succ r ih =>
    intro n t dr tx w i hs hi hiL hr
    refine zB_iload dL_law_23 rfl ?_
    refine zB_aload_n dL_law_25 rfl ?_
    refine zB_slen dL_law_26 hL0 ?_
    refine zB_bipush dL_law_27 rfl ?_
    refine zB_isub dL_law_29 ?_
    refine zB_icmp_gt (tgt := 3201) dL_law_30 (by decide) (inR_mk (by omega) (by omega)) (inR_mk (by omega) (by omega)) (fun _ => ?_) (fun q => ?_)
    · refine zB_iconst dL_law_3201 ?_
      exact zB_zret dL_law_3202 rfl (Or.inr rfl) rfl
    have i0 : 0 ≤ i := by omega
    have i6 : i + 6 ≤ (L : Int) := by omega
    have hn : n ≤ 600 := by omega
    have kk : ∀ (t2 dr2 tx2 : Nat) (w3 : zW), zSim (n + 1) t2 dr2 tx2 w3 → zB L xs l mL_law false 16 (3 * r) (18 * r) QL zNo 3195 [zR 4000, zR 0, zR 73, zR 121, zI i, .null, .null] [] (ZZ t2 dr2 tx2) w3 := fun t2 dr2 tx2 w3 hs2 => by
      refine zB_iinc (lo1 := [zR 4000, zR 0, zR 73, zR 121, zI (i + 6), .null, .null]) dL_law_3195 rfl (by decide) rfl rfl ?_
      refine zB_goto (tgt := 23) dL_law_3198 (by decide) ?_
      exact ih (n + 1) t2 dr2 tx2 w3 (i + 6) hs2 (by omega) (by omega) (by omega)
    refine zB_aload_n dL_law_33 rfl ?_
    refine zB_iload dL_law_34 rfl ?_
    refine zB_sld dL_law_36 i0 (by omega) hL0 ?_
    refine zB_bipush dL_law_37 rfl ?_
    refine zB_iand dL_law_39 ?_
    have ha : iAnd (xs i.toNat).toInt 63 = (xs i.toNat).toInt % 64 := iAnd_m 6 (by decide)
    rw [ha]
    have hb : 0 ≤ (xs i.toNat).toInt % 64 ∧ (xs i.toNat).toInt % 64 < 64 := by omega
    generalize (xs i.toNat).toInt % 64 = a at hb ⊢
    have har : inR a := inR_mk (by omega) (by omega)
    by_cases h50 : 50 ≤ a
    · refine zB_tableOut (tgt := 3195) dL_law_40 har (Or.inr (by omega)) (by decide) ?_
      exact zB_wk (by omega) (by omega) (kk t dr tx w (zSim_k hs (fun _ _ _ => rfl)))
    have hall : a = 0 ∨ a = 1 ∨ a = 2 ∨ a = 3 ∨ a = 4 ∨ a = 5 ∨ a = 6 ∨ a = 7 ∨ a = 8 ∨ a = 9 ∨ a = 10 ∨ a = 11 ∨ a = 12 ∨ a = 13 ∨ a = 14 ∨ a = 15 ∨ a = 16 ∨ a = 17 ∨ a = 18 ∨ a = 19 ∨ a = 20 ∨ a = 21 ∨ a = 22 ∨ a = 23 ∨ a = 24 ∨ a = 25 ∨ a = 26 ∨ a = 27 ∨ a = 28 ∨ a = 29 ∨ a = 30 ∨ a = 31 ∨ a = 32 ∨ a = 33 ∨ a = 34 ∨ a = 35 ∨ a = 36 ∨ a = 37 ∨ a = 38 ∨ a = 39 ∨ a = 40 ∨ a = 41 ∨ a = 42 ∨ a = 43 ∨ a = 44 ∨ a = 45 ∨ a = 46 ∨ a = 47 ∨ a = 48 ∨ a = 49 := by omega
    rcases hall with rfl | rfl | rfl | rfl | rfl | rfl | rfl | rfl | rfl | rfl | rfl | rfl | rfl | rfl | rfl | rfl | rfl | rfl | rfl | rfl | rfl | rfl | rfl | rfl | rfl | rfl | rfl | rfl | rfl | rfl | rfl | rfl | rfl | rfl | rfl | rfl | rfl | rfl | rfl | rfl | rfl | rfl | rfl | rfl | rfl | rfl | rfl | rfl | rfl | rfl
    · exact zB_tableIn (off := 216) (tgt := 256) dL_law_40 har (by decide) (by decide) rfl (by decide) (zB_wk (bc1 := 3 * r + 3) (bs1 := 18 * r + 18) (by omega) (by omega) (L_0 hL0 hs hn i0 i6 kk))
    · exact zB_tableIn (off := 289) (tgt := 329) dL_law_40 har (by decide) (by decide) rfl (by decide) (zB_wk (bc1 := 3 * r + 3) (bs1 := 18 * r + 18) (by omega) (by omega) (L_1 hL0 hs hn i0 i6 kk))
    · exact zB_tableIn (off := 345) (tgt := 385) dL_law_40 har (by decide) (by decide) rfl (by decide) (zB_wk (bc1 := 3 * r + 3) (bs1 := 18 * r + 18) (by omega) (by omega) (L_2 hL0 hs hn i0 i6 kk))
    · exact zB_tableIn (off := 358) (tgt := 398) dL_law_40 har (by decide) (by decide) rfl (by decide) (zB_wk (bc1 := 3 * r + 3) (bs1 := 18 * r + 18) (by omega) (by omega) (L_3 hL0 hs hn i0 i6 kk))
    · exact zB_tableIn (off := 414) (tgt := 454) dL_law_40 har (by decide) (by decide) rfl (by decide) (zB_wk (bc1 := 3 * r + 3) (bs1 := 18 * r + 18) (by omega) (by omega) (L_4 hL0 hs hn i0 i6 kk))
    · exact zB_tableIn (off := 482) (tgt := 522) dL_law_40 har (by decide) (by decide) rfl (by decide) (zB_wk (bc1 := 3 * r + 3) (bs1 := 18 * r + 18) (by omega) (by omega) (L_5 hL0 hs hn i0 i6 kk))
    · exact zB_tableIn (off := 550) (tgt := 590) dL_law_40 har (by decide) (by decide) rfl (by decide) (zB_wk (bc1 := 3 * r + 3) (bs1 := 18 * r + 18) (by omega) (by omega) (L_6 hL0 hs hn i0 i6 kk))
    · exact zB_tableIn (off := 618) (tgt := 658) dL_law_40 har (by decide) (by decide) rfl (by decide) (zB_wk (bc1 := 3 * r + 3) (bs1 := 18 * r + 18) (by omega) (by omega) (L_7 hL0 hs hn i0 i6 kk))
    · exact zB_tableIn (off := 631) (tgt := 671) dL_law_40 har (by decide) (by decide) rfl (by decide) (zB_wk (bc1 := 3 * r + 3) (bs1 := 18 * r + 18) (by omega) (by omega) (L_8 hL0 hs hn i0 i6 kk))
    · exact zB_tableIn (off := 699) (tgt := 739) dL_law_40 har (by decide) (by decide) rfl (by decide) (zB_wk (bc1 := 3 * r + 3) (bs1 := 18 * r + 18) (by omega) (by omega) (L_9 hL0 hs hn i0 i6 kk))
    · exact zB_tableIn (off := 786) (tgt := 826) dL_law_40 har (by decide) (by decide) rfl (by decide) (zB_wk (bc1 := 3 * r + 3) (bs1 := 18 * r + 18) (by omega) (by omega) (L_10 hL0 hs hn i0 i6 kk))
    · exact zB_tableIn (off := 861) (tgt := 901) dL_law_40 har (by decide) (by decide) rfl (by decide) (zB_wk (bc1 := 3 * r + 3) (bs1 := 18 * r + 18) (by omega) (by omega) (L_11 hL0 hs hn i0 i6 kk))
    · exact zB_tableIn (off := 941) (tgt := 981) dL_law_40 har (by decide) (by decide) rfl (by decide) (zB_wk (bc1 := 3 * r + 3) (bs1 := 18 * r + 18) (by omega) (by omega) (L_12 hL0 hs hn i0 i6 kk))
    · exact zB_tableIn (off := 1021) (tgt := 1061) dL_law_40 har (by decide) (by decide) rfl (by decide) (zB_wk (bc1 := 3 * r + 3) (bs1 := 18 * r + 18) (by omega) (by omega) (L_13 hL0 hs hn i0 i6 kk))
    · exact zB_tableIn (off := 1070) (tgt := 1110) dL_law_40 har (by decide) (by decide) rfl (by decide) (zB_wk (bc1 := 3 * r + 3) (bs1 := 18 * r + 18) (by omega) (by omega) (L_14 hL0 hs hn i0 i6 kk))
    · exact zB_tableIn (off := 1095) (tgt := 1135) dL_law_40 har (by decide) (by decide) rfl (by decide) (zB_wk (bc1 := 3 * r + 3) (bs1 := 18 * r + 18) (by omega) (by omega) (L_15 hL0 hs hn i0 i6 kk))
    · exact zB_tableIn (off := 1175) (tgt := 1215) dL_law_40 har (by decide) (by decide) rfl (by decide) (zB_wk (bc1 := 3 * r + 3) (bs1 := 18 * r + 18) (by omega) (by omega) (L_16 hL0 hs hn i0 i6 kk))
    · exact zB_tableIn (off := 1231) (tgt := 1271) dL_law_40 har (by decide) (by decide) rfl (by decide) (zB_wk (bc1 := 3 * r + 3) (bs1 := 18 * r + 18) (by omega) (by omega) (L_17 hL0 hs hn i0 i6 kk))
    · exact zB_tableIn (off := 1287) (tgt := 1327) dL_law_40 har (by decide) (by decide) rfl (by decide) (zB_wk (bc1 := 3 * r + 3) (bs1 := 18 * r + 18) (by omega) (by omega) (L_18 hL0 hs hn i0 i6 kk))
    · exact zB_tableIn (off := 1374) (tgt := 1414) dL_law_40 har (by decide) (by decide) rfl (by decide) (zB_wk (bc1 := 3 * r + 3) (bs1 := 18 * r + 18) (by omega) (by omega) (L_19 hL0 hs hn i0 i6 kk))
    · exact zB_tableIn (off := 1466) (tgt := 1506) dL_law_40 har (by decide) (by decide) rfl (by decide) (zB_wk (bc1 := 3 * r + 3) (bs1 := 18 * r + 18) (by omega) (by omega) (L_20 hL0 hs hn i0 i6 kk))
    · exact zB_tableIn (off := 1558) (tgt := 1598) dL_law_40 har (by decide) (by decide) rfl (by decide) (zB_wk (bc1 := 3 * r + 3) (bs1 := 18 * r + 18) (by omega) (by omega) (L_21 hL0 hs hn i0 i6 kk))
    · exact zB_tableIn (off := 1583) (tgt := 1623) dL_law_40 har (by decide) (by decide) rfl (by decide) (zB_wk (bc1 := 3 * r + 3) (bs1 := 18 * r + 18) (by omega) (by omega) (L_22 hL0 hs hn i0 i6 kk))
    · exact zB_tableIn (off := 1639) (tgt := 1679) dL_law_40 har (by decide) (by decide) rfl (by decide) (zB_wk (bc1 := 3 * r + 3) (bs1 := 18 * r + 18) (by omega) (by omega) (L_23 hL0 hs hn i0 i6 kk))
    · exact zB_tableIn (off := 1664) (tgt := 1704) dL_law_40 har (by decide) (by decide) rfl (by decide) (zB_wk (bc1 := 3 * r + 3) (bs1 := 18 * r + 18) (by omega) (by omega) (L_24 hL0 hs hn i0 i6 kk))
    · exact zB_tableIn (off := 1689) (tgt := 1729) dL_law_40 har (by decide) (by decide) rfl (by decide) (zB_wk (bc1 := 3 * r + 3) (bs1 := 18 * r + 18) (by omega) (by omega) (L_25 hL0 hs hn i0 i6 kk))
    · exact zB_tableIn (off := 1714) (tgt := 1754) dL_law_40 har (by decide) (by decide) rfl (by decide) (zB_wk (bc1 := 3 * r + 3) (bs1 := 18 * r + 18) (by omega) (by omega) (L_26 hL0 hs hn i0 i6 kk))
    · exact zB_tableIn (off := 1775) (tgt := 1815) dL_law_40 har (by decide) (by decide) rfl (by decide) (zB_wk (bc1 := 3 * r + 3) (bs1 := 18 * r + 18) (by omega) (by omega) (L_27 hL0 hs hn i0 i6 kk))
    · exact zB_tableIn (off := 1831) (tgt := 1871) dL_law_40 har (by decide) (by decide) rfl (by decide) (zB_wk (bc1 := 3 * r + 3) (bs1 := 18 * r + 18) (by omega) (by omega) (L_28 hL0 hs hn i0 i6 kk))
    · exact zB_tableIn (off := 1899) (tgt := 1939) dL_law_40 har (by decide) (by decide) rfl (by decide) (zB_wk (bc1 := 3 * r + 3) (bs1 := 18 * r + 18) (by omega) (by omega) (L_29 hL0 hs hn i0 i6 kk))
    · exact zB_tableIn (off := 1912) (tgt := 1952) dL_law_40 har (by decide) (by decide) rfl (by decide) (zB_wk (bc1 := 3 * r + 3) (bs1 := 18 * r + 18) (by omega) (by omega) (L_30 hL0 hs hn i0 i6 kk))
    · exact zB_tableIn (off := 1923) (tgt := 1963) dL_law_40 har (by decide) (by decide) rfl (by decide) (zB_wk (bc1 := 3 * r + 3) (bs1 := 18 * r + 18) (by omega) (by omega) (L_31 hL0 hs hn i0 i6 kk))
    · exact zB_tableIn (off := 1936) (tgt := 1976) dL_law_40 har (by decide) (by decide) rfl (by decide) (zB_wk (bc1 := 3 * r + 3) (bs1 := 18 * r + 18) (by omega) (by omega) (L_32 hL0 hs hn i0 i6 kk))
    · exact zB_tableIn (off := 2040) (tgt := 2080) dL_law_40 har (by decide) (by decide) rfl (by decide) (zB_wk (bc1 := 3 * r + 3) (bs1 := 18 * r + 18) (by omega) (by omega) (L_33 hL0 hs hn i0 i6 kk))
    · exact zB_tableIn (off := 2115) (tgt := 2155) dL_law_40 har (by decide) (by decide) rfl (by decide) (zB_wk (bc1 := 3 * r + 3) (bs1 := 18 * r + 18) (by omega) (by omega) (L_34 hL0 hs hn i0 i6 kk))
    · exact zB_tableIn (off := 2207) (tgt := 2247) dL_law_40 har (by decide) (by decide) rfl (by decide) (zB_wk (bc1 := 3 * r + 3) (bs1 := 18 * r + 18) (by omega) (by omega) (L_35 hL0 hs hn i0 i6 kk))
    · exact zB_tableIn (off := 2287) (tgt := 2327) dL_law_40 har (by decide) (by decide) rfl (by decide) (zB_wk (bc1 := 3 * r + 3) (bs1 := 18 * r + 18) (by omega) (by omega) (L_36 hL0 hs hn i0 i6 kk))
    · exact zB_tableIn (off := 2379) (tgt := 2419) dL_law_40 har (by decide) (by decide) rfl (by decide) (zB_wk (bc1 := 3 * r + 3) (bs1 := 18 * r + 18) (by omega) (by omega) (L_37 hL0 hs hn i0 i6 kk))
    · exact zB_tableIn (off := 2466) (tgt := 2506) dL_law_40 har (by decide) (by decide) rfl (by decide) (zB_wk (bc1 := 3 * r + 3) (bs1 := 18 * r + 18) (by omega) (by omega) (L_38 hL0 hs hn i0 i6 kk))
    · exact zB_tableIn (off := 2491) (tgt := 2531) dL_law_40 har (by decide) (by decide) rfl (by decide) (zB_wk (bc1 := 3 * r + 3) (bs1 := 18 * r + 18) (by omega) (by omega) (L_39 hL0 hs hn i0 i6 kk))
    · exact zB_tableIn (off := 2547) (tgt := 2587) dL_law_40 har (by decide) (by decide) rfl (by decide) (zB_wk (bc1 := 3 * r + 3) (bs1 := 18 * r + 18) (by omega) (by omega) (L_40 hL0 hs hn i0 i6 kk))
    · exact zB_tableIn (off := 2615) (tgt := 2655) dL_law_40 har (by decide) (by decide) rfl (by decide) (zB_wk (bc1 := 3 * r + 3) (bs1 := 18 * r + 18) (by omega) (by omega) (L_41 hL0 hs hn i0 i6 kk))
    · exact zB_tableIn (off := 2683) (tgt := 2723) dL_law_40 har (by decide) (by decide) rfl (by decide) (zB_wk (bc1 := 3 * r + 3) (bs1 := 18 * r + 18) (by omega) (by omega) (L_42 hL0 hs hn i0 i6 kk))
    · exact zB_tableIn (off := 2708) (tgt := 2748) dL_law_40 har (by decide) (by decide) rfl (by decide) (zB_wk (bc1 := 3 * r + 3) (bs1 := 18 * r + 18) (by omega) (by omega) (L_43 hL0 hs hn i0 i6 kk))
    · exact zB_tableIn (off := 2764) (tgt := 2804) dL_law_40 har (by decide) (by decide) rfl (by decide) (zB_wk (bc1 := 3 * r + 3) (bs1 := 18 * r + 18) (by omega) (by omega) (L_44 hL0 hs hn i0 i6 kk))
    · exact zB_tableIn (off := 2839) (tgt := 2879) dL_law_40 har (by decide) (by decide) rfl (by decide) (zB_wk (bc1 := 3 * r + 3) (bs1 := 18 * r + 18) (by omega) (by omega) (L_45 hL0 hs hn i0 i6 kk))
    · exact zB_tableIn (off := 2926) (tgt := 2966) dL_law_40 har (by decide) (by decide) rfl (by decide) (zB_wk (bc1 := 3 * r + 3) (bs1 := 18 * r + 18) (by omega) (by omega) (L_46 hL0 hs hn i0 i6 kk))
    · exact zB_tableIn (off := 2994) (tgt := 3034) dL_law_40 har (by decide) (by decide) rfl (by decide) (zB_wk (bc1 := 3 * r + 3) (bs1 := 18 * r + 18) (by omega) (by omega) (L_47 hL0 hs hn i0 i6 kk))
    · exact zB_tableIn (off := 3062) (tgt := 3102) dL_law_40 har (by decide) (by decide) rfl (by decide) (zB_wk (bc1 := 3 * r + 3) (bs1 := 18 * r + 18) (by omega) (by omega) (L_48 hL0 hs hn i0 i6 kk))
    · exact zB_tableIn (off := 3099) (tgt := 3139) dL_law_40 har (by decide) (by decide) rfl (by decide) (zB_wk (bc1 := 3 * r + 3) (bs1 := 18 * r + 18) (by omega) (by omega) (L_49 hL0 hs hn i0 i6 kk))
