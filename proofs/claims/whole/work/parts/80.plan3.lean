/-! the plan of the class: latest ends, the row that is taken -/
theorem frr_b {can : Int → Int → Prop} {wd pr : Int → Int} {tr : Int → Int → Int} {n : Int} (hG : okG can wd pr tr n) {r : List (Int × Int)} (hr : rz can wd tr n r) {l : Int} (l0 : 0 ≤ l) (l1 : l < n) : 0 ≤ frr wd tr r l ∧ frr wd tr r l ≤ 40 := by
  have h1 := (frr_en hG hr l0 l1).1
  have h2 := enR_b hG hr
  by_cases e : r = []
  · subst e; exact ⟨Int.le_refl _, by show (0 : Int) ≤ 40; decide⟩
  · obtain ⟨h3, h4, h5, h6, h7⟩ := (frr_en hG hr l0 l1).2 e
    have h8 := (hG.2 (hdR r) h6 h7).2.2.1 l l0 l1
    omega
set_option maxRecDepth 100000 in
set_option maxHeartbeats 4000000 in
theorem s_latestEnd {l : Launch} {t dr tx : Nat} {w : zW} {y : Nat} (hy : y = 4 ∨ y = 10) (hY : okYard w y) (hB : bgO w y) {S q : Int} (s0 : 1 ≤ S) (s1 : S < ((2 ^ (w y 7).toNat : Nat) : Int)) (q0 : 0 ≤ q) (q1 : q < w y 7) (hp : ∀ T : Int, 0 ≤ T → T < ((2 ^ (w y 7).toNat : Nat) : Int) → w 19 T = psS (yP w y) (w y 7) T) (er : -1 ≤ w 16 13 ∧ w 16 13 ≤ 29) (hL : (∀ T k : Int, S < T → T < ((2 ^ (w y 7).toNat : Nat) : Int) → 0 ≤ k → k < w y 7 → (-1 ≤ w 21 (T * 8 + k) ∧ w 21 (T * 8 + k) ≤ 29) ∧ (tb T k = true → laO (yCan w y) (yW w y) (yP w y) (yT w y) (w y 7) (w 16 14) (w 16 13) T k (w 21 (T * 8 + k))))) : zSp l mX6_latestEnd false 3 0 0 [zR 16, zR y, zI S, zI q] (ZZ t dr tx) w (zRp1 (fun v => laO (yCan w y) (yW w y) (yP w y) (yT w y) (w y 7) (w 16 14) (w 16 13) S q v ∧ -1 ≤ v ∧ v ≤ 29) (ZZ t dr tx) w) zNo := by
  refine zA_intro ⟨plainFor_of_name (by decide +kernel), Or.inl (by decide +kernel)⟩ rfl (Nat.le_of_ble_eq_true rfl) ?_
  have hG := yG hY
  obtain ⟨⟨u1, u2⟩, -, ⟨u3, u4⟩, -, -, -, -, hle, -⟩ := id hY
  have hpn := pow8 u3 u4
  have hpS := hp S (by omega) s1
  have hl0 := leI_0 hG (P := w 16 14) (E := w 16 13) (S := S) (l := q)
  refine zA_range (fun hr => ?_)
  show zA l mX6_latestEnd false 3 0 0 (zRp1 (fun v => laO (yCan w y) (yW w y) (yP w y) (yT w y) (w y 7) (w 16 14) (w 16 13) S q v ∧ -1 ≤ v ∧ v ≤ 29) (ZZ t dr tx) w) zNo 0 [zR 16, zR y, zI S, zI q, .null, .null, .null, .null] [] (ZZ t dr tx) w
  have L21 : ∀ (v : Int) (vr : -1 ≤ v ∧ v ≤ 29) (hE : leI (yCan w y) (yW w y) (yP w y) (yT w y) (w y 7) (w 16 14) (w 16 13) S q 0 v), zA l mX6_latestEnd false 3 0 0 (zRp1 (fun v => laO (yCan w y) (yW w y) (yP w y) (yT w y) (w y 7) (w 16 14) (w 16 13) S q v ∧ -1 ≤ v ∧ v ≤ 29) (ZZ t dr tx) w) zNo 21 [zR 16, zR y, zI S, zI q, .null, .null, .null, .null] [zI v] (ZZ t dr tx) w := by
    intro v vr hE
    refine zA_istore (lo1 := [zR 16, zR y, zI S, zI q, zI v, .null, .null, .null]) dX6_latestEnd_21 (by decide) rfl rfl ?_
    refine zA_iconst dX6_latestEnd_23 ?_
    refine zA_istore (lo1 := [zR 16, zR y, zI S, zI q, zI v, zI 0, .null, .null]) dX6_latestEnd_24 (by decide) rfl rfl ?_
    have L26 : ∀ (z26 : Nat) (v x : Int) (x0 : 0 ≤ x) (x1 : x ≤ w y 7) (vr : -1 ≤ v ∧ v ≤ 29) (hE : leI (yCan w y) (yW w y) (yP w y) (yT w y) (w y 7) (w 16 14) (w 16 13) S q x v) (zm : (w y 7 - x).toNat < z26), zA l mX6_latestEnd false 3 0 0 (zRp1 (fun v => laO (yCan w y) (yW w y) (yP w y) (yT w y) (w y 7) (w 16 14) (w 16 13) S q v ∧ -1 ≤ v ∧ v ≤ 29) (ZZ t dr tx) w) zNo 26 [zR 16, zR y, zI S, zI q, zI v, zI x, .null, .null] [] (ZZ t dr tx) w := by
      intro z26
      induction z26 with
      | zero => intro v x x0 x1 vr hE zm; exact absurd zm (Nat.not_lt_zero _)
      | succ z26 ih26 =>
        intro v x x0 x1 vr hE zm
        refine zA_iload dX6_latestEnd_26 rfl ?_
        refine zA_aload_n dX6_latestEnd_28 rfl ?_
        refine zA_getI dX6_latestEnd_29 fX6_65 (cY0 hy) rfl ?_
        refine zA_valI (w y 7) rfl ?_
        refine zA_icmp_ge (tgt := 128) dX6_latestEnd_32 (by decide) (by first | assumption | exact hr _ _ | exact inR_mk (by omega) (by omega)) (by first | assumption | exact hr _ _ | exact inR_mk (by omega) (by omega)) (fun c32 => ?_) (fun c32 => ?_)
        · skip
          refine zA_iload dX6_latestEnd_128 rfl ?_
          refine zA_iret dX6_latestEnd_130 rfl ?_
          exact ⟨⟨v, rfl, by rw [show x = w y 7 by omega] at hE; exact leI_O hE, vr⟩, rfl, rfl⟩
        · skip
          refine zA_iload_n dX6_latestEnd_35 rfl ?_
          refine zA_iload dX6_latestEnd_36 rfl ?_
          refine zA_ishr dX6_latestEnd_38 ?_
          refine zA_iconst dX6_latestEnd_39 ?_
          refine zA_iand dX6_latestEnd_40 ?_
          refine zA_valI (if tb S x = true then 1 else 0) (tb_get (by omega) (by omega) x0 (by omega)) ?_
          refine zA_if_ne (tgt := 122) dX6_latestEnd_41 (by decide) (inR_ite _) (fun c41 => ?_) (fun c41 => ?_)
          · skip
            replace c41 := zite_ne c41
            have htb : tb S x = true := by simpa using c41
            refine zA_iinc (lo1 := [zR 16, zR y, zI S, zI q, zI v, zI (x + 1), .null, .null]) dX6_latestEnd_122 rfl (by decide) rfl rfl ?_
            refine zA_goto (tgt := 26) dX6_latestEnd_125 (by decide) ?_
            exact ih26 v (x + 1) (by omega) (by omega) vr (leI_u hE ⟨x0, by omega⟩ htb) (by omega)
          · skip
            replace c41 := zite_eq c41
            have htb : tb S x = false := by simpa using c41
            have hox := or_ix u3 u4 (show 0 ≤ S by omega) s1 x0 (show x < w y 7 by omega) htb q0 (by omega)
            have hon := orN u3 u4 (show 0 ≤ S by omega) s1 x0 (show x < w y 7 by omega)
            have hog := or_gt u3 u4 (show 0 ≤ S by omega) s1 x0 (show x < w y 7 by omega) htb
            obtain ⟨hlb, hla⟩ := hL (iOr S (iShl 1 x)) x hog hon.1.2 x0 (by omega)
            replace hla := hla (by rw [hon.2 x x0, decide_eq_true rfl, Bool.or_true])
            obtain ⟨p1, p2, -⟩ := hle x x0 (by omega)
            have hyw : yW w y x = w (y + 4) (x * 6 + 1) := rfl
            refine zA_aload_n dX6_latestEnd_44 rfl ?_
            refine zA_getR (n := 21) dX6_latestEnd_45 fX6_24 c16 rfl ?_
            refine zA_iload_n dX6_latestEnd_48 rfl ?_
            refine zA_iconst dX6_latestEnd_49 ?_
            refine zA_iload dX6_latestEnd_50 rfl ?_
            refine zA_ishl dX6_latestEnd_52 ?_
            refine zA_ior dX6_latestEnd_53 ?_
            refine zA_bipush dX6_latestEnd_54 rfl ?_
            refine zA_imul dX6_latestEnd_56 ?_
            refine zA_iload dX6_latestEnd_57 rfl ?_
            refine zA_iadd dX6_latestEnd_59 ?_
            refine zA_iaload dX6_latestEnd_60 c21 (by first | assumption | omega) (by first | assumption | omega) (by decide) ?_
            refine zA_aload_n dX6_latestEnd_61 rfl ?_
            refine zA_iload dX6_latestEnd_62 rfl ?_
            refine zA_iconst dX6_latestEnd_64 ?_
            refine zA_cV (st := [zI (w 21 (((iOr S (iShl 1 x)) * 8) + x))]) dX6_latestEnd_65 vX10_fact kX6_91 (s_fact (w := w) (a := x) (k := 1) hy x0 (by omega) (by decide) (by decide)) (by decide) (cY0 hy) rfl rfl (Nat.le_of_ble_eq_true rfl) rfl (zRt_el ?_)
            show zA l mX6_latestEnd false 3 0 0 (zRp1 (fun v => laO (yCan w y) (yW w y) (yP w y) (yT w y) (w y 7) (w 16 14) (w 16 13) S q v ∧ -1 ≤ v ∧ v ≤ 29) (ZZ t dr tx) w) zNo 68 [zR 16, zR y, zI S, zI q, zI v, zI x, .null, .null] [zI (w (y + 4) (x * 6 + 1)), zI (w 21 (((iOr S (iShl 1 x)) * 8) + x))] (ZZ t dr tx) w
            refine zA_isub dX6_latestEnd_68 ?_
            refine zA_iconst dX6_latestEnd_69 ?_
            refine zA_iadd dX6_latestEnd_70 ?_
            refine zA_istore (lo1 := [zR 16, zR y, zI S, zI q, zI v, zI x, zI (((w 21 (((iOr S (iShl 1 x)) * 8) + x)) - (w (y + 4) (x * 6 + 1))) + 1), .null]) dX6_latestEnd_71 (by decide) rfl rfl ?_
            have L95 : ∀ (bg : Int) (hbg : luR (yCan w y x) ((w 21 (iOr S (iShl 1 x) * 8 + x)) - yW w y x + 1) bg), zA l mX6_latestEnd false 3 0 0 (zRp1 (fun v => laO (yCan w y) (yW w y) (yP w y) (yT w y) (w y 7) (w 16 14) (w 16 13) S q v ∧ -1 ≤ v ∧ v ≤ 29) (ZZ t dr tx) w) zNo 95 [zR 16, zR y, zI S, zI q, zI v, zI x, .null, .null] [zI bg] (ZZ t dr tx) w := by
              intro bg hbg
              have hbr : -1 ≤ bg ∧ bg ≤ 29 := by rcases hbg with ⟨h1, -⟩ | ⟨⟨h1, h2⟩, -⟩ <;> omega
              have htv := (hG.2 q q0 q1).2.2.1 x x0 (by omega)
              refine zA_istore (lo1 := [zR 16, zR y, zI S, zI q, zI v, zI x, .null, zI bg]) dX6_latestEnd_95 (by decide) rfl rfl ?_
              refine zA_iload dX6_latestEnd_97 rfl ?_
              refine zA_iconst dX6_latestEnd_99 ?_
              refine zA_icmp_eq (tgt := 122) dX6_latestEnd_100 (by decide) (by first | assumption | exact hr _ _ | exact inR_mk (by omega) (by omega)) ⟨by decide, by decide⟩ (fun c100 => ?_) (fun c100 => ?_)
              · skip
                refine zA_iinc (lo1 := [zR 16, zR y, zI S, zI q, zI v, zI (x + 1), .null, zI bg]) dX6_latestEnd_122 rfl (by decide) rfl rfl ?_
                refine zA_goto (tgt := 26) dX6_latestEnd_125 (by decide) ?_
                refine zA_drop 7 (lo1 := [zR 16, zR y, zI S, zI q, zI v, zI (x + 1), .null, .null]) rfl ?_
                exact ih26 v (x + 1) (by omega) (by omega) vr (leI_s hG hE ⟨x0, by omega⟩ htb hla hbg (by rw [if_pos c100])) (by omega)
              · skip
                refine zA_iload dX6_latestEnd_103 rfl ?_
                refine zA_iload dX6_latestEnd_105 rfl ?_
                refine zA_iconst dX6_latestEnd_107 ?_
                refine zA_isub dX6_latestEnd_108 ?_
                refine zA_aload_n dX6_latestEnd_109 rfl ?_
                refine zA_iload_n dX6_latestEnd_110 rfl ?_
                refine zA_iload dX6_latestEnd_111 rfl ?_
                refine zA_cS (st := [zI (bg - 1), zI v]) dX6_latestEnd_113 sX6_travel kX6_108 (s_tr6 (w := w) hy hY (a := q) (b := x) q0 q1 x0 (by omega)) (by decide) rfl rfl (Nat.le_of_ble_eq_true rfl) (zRt_el ?_)
                show zA l mX6_latestEnd false 3 0 0 (zRp1 (fun v => laO (yCan w y) (yW w y) (yP w y) (yT w y) (w y 7) (w 16 14) (w 16 13) S q v ∧ -1 ≤ v ∧ v ≤ 29) (ZZ t dr tx) w) zNo 116 [zR 16, zR y, zI S, zI q, zI v, zI x, .null, zI bg] [zI (yT w y q x), zI (bg - 1), zI v] (ZZ t dr tx) w
                refine zA_isub dX6_latestEnd_116 ?_
                refine zA_mmax dX6_latestEnd_117 kmX6_121 zw_max (by first | assumption | exact hr _ _ | exact inR_mk (by omega) (by omega)) (by first | assumption | exact hr _ _ | exact inR_mk (by omega) (by omega)) (Nat.le_of_ble_eq_true rfl) ?_
                refine zA_istore (lo1 := [zR 16, zR y, zI S, zI q, zI (max v ((bg - 1) - (yT w y q x))), zI x, .null, zI bg]) dX6_latestEnd_120 (by decide) rfl rfl ?_
                refine zA_iinc (lo1 := [zR 16, zR y, zI S, zI q, zI (max v ((bg - 1) - (yT w y q x))), zI (x + 1), .null, zI bg]) dX6_latestEnd_122 rfl (by decide) rfl rfl ?_
                refine zA_goto (tgt := 26) dX6_latestEnd_125 (by decide) ?_
                refine zA_drop 7 (lo1 := [zR 16, zR y, zI S, zI q, zI (max v ((bg - 1) - (yT w y q x))), zI (x + 1), .null, .null]) rfl ?_
                exact ih26 _ (x + 1) (by omega) (by omega) (by omega) (leI_s hG hE ⟨x0, by omega⟩ htb hla hbg (by rw [if_neg c100])) (by omega)
            refine zA_iload dX6_latestEnd_73 rfl ?_
            refine zA_if_ge (tgt := 82) dX6_latestEnd_75 (by decide) (by first | assumption | exact hr _ _ | exact inR_mk (by omega) (by omega)) (fun c75 => ?_) (fun c75 => ?_)
            · skip
              refine zA_aload_n dX6_latestEnd_82 rfl ?_
              refine zA_getR (n := 18) dX6_latestEnd_83 fX6_15 c16 rfl ?_
              refine zA_iload dX6_latestEnd_86 rfl ?_
              refine zA_bipush dX6_latestEnd_88 rfl ?_
              refine zA_imul dX6_latestEnd_90 ?_
              refine zA_iload dX6_latestEnd_91 rfl ?_
              refine zA_iadd dX6_latestEnd_93 ?_
              refine zA_iaload dX6_latestEnd_94 c18 (by first | assumption | omega) (by first | assumption | omega) (by decide) ?_
              refine zA_drop 6 (lo1 := [zR 16, zR y, zI S, zI q, zI v, zI x, .null, .null]) rfl ?_
              exact L95 _ (hB x _ x0 (by omega) (by omega) (by omega)).2
            · skip
              refine zA_iconst dX6_latestEnd_78 ?_
              refine zA_goto (tgt := 95) dX6_latestEnd_79 (by decide) ?_
              refine zA_drop 6 (lo1 := [zR 16, zR y, zI S, zI q, zI v, zI x, .null, .null]) rfl ?_
              exact L95 _ (Or.inl ⟨rfl, fun dd h1 h2 => by omega⟩)
    exact L26 _ v 0 (by omega) (by omega) vr hE (Nat.lt_succ_self _)
  refine zA_aload_n dX6_latestEnd_0 rfl ?_
  refine zA_getR (n := 19) dX6_latestEnd_1 fX6_18 c16 rfl ?_
  refine zA_iload_n dX6_latestEnd_4 rfl ?_
  refine zA_iaload dX6_latestEnd_5 c19 (by first | assumption | omega) (by first | assumption | omega) (by decide) ?_
  refine zA_aload_n dX6_latestEnd_6 rfl ?_
  refine zA_getI dX6_latestEnd_7 fX6_55 c16 rfl ?_
  refine zA_valI (w 16 14) rfl ?_
  refine zA_icmp_ne (tgt := 20) dX6_latestEnd_10 (by decide) (by first | assumption | exact hr _ _ | exact inR_mk (by omega) (by omega)) (by first | assumption | exact hr _ _ | exact inR_mk (by omega) (by omega)) (fun c10 => ?_) (fun c10 => ?_)
  · skip
    refine zA_iconst dX6_latestEnd_20 ?_
    exact L21 _ (by omega) (by rw [← hpS, if_neg c10] at hl0; exact hl0)
  · skip
    refine zA_aload_n dX6_latestEnd_13 rfl ?_
    refine zA_getI dX6_latestEnd_14 fX6_52 c16 rfl ?_
    refine zA_valI (w 16 13) rfl ?_
    refine zA_goto (tgt := 21) dX6_latestEnd_17 (by decide) ?_
    exact L21 _ er (by rw [← hpS, if_pos c10] at hl0; exact hl0)

set_option maxRecDepth 100000 in
set_option maxHeartbeats 4000000 in
theorem s_fillLate {l : Launch} {t dr tx : Nat} {w : zW} {y : Nat} (hy : y = 4 ∨ y = 10) (hY : okYard w y) (hB : bgO w y) (hp : ∀ T : Int, 0 ≤ T → T < ((2 ^ (w y 7).toNat : Nat) : Int) → w 19 T = psS (yP w y) (w y 7) T) (er : -1 ≤ w 16 13 ∧ w 16 13 ≤ 29)  : zSp l mX6_fillLate false 4 0 0 [zR 16, zR y] (ZZ t dr tx) w (fun v' S' w' => v' = none ∧ S' = (ZZ t dr tx) ∧ only 21 w w' ∧ (∀ T k : Int, 0 < T → T < ((2 ^ (w y 7).toNat : Nat) : Int) → 0 ≤ k → k < w y 7 → (-1 ≤ w' 21 (T * 8 + k) ∧ w' 21 (T * 8 + k) ≤ 29) ∧ (tb T k = true → laO (yCan w y) (yW w y) (yP w y) (yT w y) (w y 7) (w 16 14) (w 16 13) T k (w' 21 (T * 8 + k))))) zNo := by
  refine zA_intro ⟨plainFor_of_name (by decide +kernel), Or.inl (by decide +kernel)⟩ rfl (Nat.le_of_ble_eq_true rfl) ?_
  have hG := yG hY
  obtain ⟨⟨u1, u2⟩, -, ⟨u3, u4⟩, -, -, -, -, hle, -⟩ := id hY
  have hpn := pow8 u3 u4
  refine zA_range (fun hr => ?_)
  show zA l mX6_fillLate false 4 0 0 (fun v' S' w' => v' = none ∧ S' = (ZZ t dr tx) ∧ only 21 w w' ∧ (∀ T k : Int, 0 < T → T < ((2 ^ (w y 7).toNat : Nat) : Int) → 0 ≤ k → k < w y 7 → (-1 ≤ w' 21 (T * 8 + k) ∧ w' 21 (T * 8 + k) ≤ 29) ∧ (tb T k = true → laO (yCan w y) (yW w y) (yP w y) (yT w y) (w y 7) (w 16 14) (w 16 13) T k (w' 21 (T * 8 + k))))) zNo 0 [zR 16, zR y, .null, .null] [] (ZZ t dr tx) w
  refine zA_iconst dX6_fillLate_0 ?_
  refine zA_aload_n dX6_fillLate_1 rfl ?_
  refine zA_getI dX6_fillLate_2 fX6_65 (cY0 hy) rfl ?_
  refine zA_valI (w y 7) rfl ?_
  refine zA_ishl dX6_fillLate_5 ?_
  refine zA_iconst dX6_fillLate_6 ?_
  refine zA_isub dX6_fillLate_7 ?_
  refine zA_valI (((2 ^ (w y 7).toNat : Nat) : Int) - 1) (by rw [iShl_1 (by omega) (by omega)]) ?_
  refine zA_istore_n (lo1 := [zR 16, zR y, zI (((2 ^ (w y 7).toNat : Nat) : Int) - 1), .null]) dX6_fillLate_8 (by decide) rfl rfl ?_
  have L9 : ∀ (z9 : Nat) (S : Int) (w1 : zW) (s0 : 0 ≤ S) (s1 : S < ((2 ^ (w y 7).toNat : Nat) : Int)) (hf : only 21 w w1) (hl : (∀ T k : Int, S < T → T < ((2 ^ (w y 7).toNat : Nat) : Int) → 0 ≤ k → k < w y 7 → (-1 ≤ w1 21 (T * 8 + k) ∧ w1 21 (T * 8 + k) ≤ 29) ∧ (tb T k = true → laO (yCan w y) (yW w y) (yP w y) (yT w y) (w y 7) (w 16 14) (w 16 13) T k (w1 21 (T * 8 + k))))) (zm : S.toNat < z9), zA l mX6_fillLate false 4 0 0 (fun v' S' w' => v' = none ∧ S' = (ZZ t dr tx) ∧ only 21 w w' ∧ (∀ T k : Int, 0 < T → T < ((2 ^ (w y 7).toNat : Nat) : Int) → 0 ≤ k → k < w y 7 → (-1 ≤ w' 21 (T * 8 + k) ∧ w' 21 (T * 8 + k) ≤ 29) ∧ (tb T k = true → laO (yCan w y) (yW w y) (yP w y) (yT w y) (w y 7) (w 16 14) (w 16 13) T k (w' 21 (T * 8 + k))))) zNo 9 [zR 16, zR y, zI S, .null] [] (ZZ t dr tx) w1 := by
    intro z9
    induction z9 with
    | zero => intro S w1 s0 s1 hf hl zm; exact absurd zm (Nat.not_lt_zero _)
    | succ z9 ih9 =>
      intro S w1 s0 s1 hf hl zm
      refine zA_range (fun hr => ?_)
      obtain ⟨e1, e2, e3, e4, e5, e6⟩ := yd_c hy (w1 := w1) (w := w) (fun c x hc => hf c x (by omega))
      refine zA_iload_n dX6_fillLate_9 rfl ?_
      refine zA_if_le (tgt := 65) dX6_fillLate_10 (by decide) (by first | assumption | exact hr _ _ | exact inR_mk (by omega) (by omega)) (fun c10 => ?_) (fun c10 => ?_)
      · skip
        refine zA_vret dX6_fillLate_65 rfl ?_
        have hS0 : S = 0 := by omega
        rw [hS0] at hl
        exact ⟨rfl, rfl, hf, hl⟩
      · skip
        refine zA_iconst dX6_fillLate_13 ?_
        refine zA_istore_n (lo1 := [zR 16, zR y, zI S, zI 0]) dX6_fillLate_14 (by decide) rfl rfl ?_
        have L15 : ∀ (z15 : Nat) (q : Int) (w1 : zW) (q0 : 0 ≤ q) (q1 : q ≤ w y 7) (hf : only 21 w w1) (hl : (∀ T k : Int, S < T → T < ((2 ^ (w y 7).toNat : Nat) : Int) → 0 ≤ k → k < w y 7 → (-1 ≤ w1 21 (T * 8 + k) ∧ w1 21 (T * 8 + k) ≤ 29) ∧ (tb T k = true → laO (yCan w y) (yW w y) (yP w y) (yT w y) (w y 7) (w 16 14) (w 16 13) T k (w1 21 (T * 8 + k))))) (hq : ∀ k : Int, 0 ≤ k → k < q → (-1 ≤ w1 21 (S * 8 + k) ∧ w1 21 (S * 8 + k) ≤ 29) ∧ (tb S k = true → laO (yCan w y) (yW w y) (yP w y) (yT w y) (w y 7) (w 16 14) (w 16 13) S k (w1 21 (S * 8 + k)))) (zm : (w y 7 - q).toNat < z15), zA l mX6_fillLate false 4 0 0 (fun v' S' w' => v' = none ∧ S' = (ZZ t dr tx) ∧ only 21 w w' ∧ (∀ T k : Int, 0 < T → T < ((2 ^ (w y 7).toNat : Nat) : Int) → 0 ≤ k → k < w y 7 → (-1 ≤ w' 21 (T * 8 + k) ∧ w' 21 (T * 8 + k) ≤ 29) ∧ (tb T k = true → laO (yCan w y) (yW w y) (yP w y) (yT w y) (w y 7) (w 16 14) (w 16 13) T k (w' 21 (T * 8 + k))))) zNo 15 [zR 16, zR y, zI S, zI q] [] (ZZ t dr tx) w1 := by
          intro z15
          induction z15 with
          | zero => intro q w1 q0 q1 hf hl hq zm; exact absurd zm (Nat.not_lt_zero _)
          | succ z15 ih15 =>
            intro q w1 q0 q1 hf hl hq zm
            refine zA_range (fun hr => ?_)
            obtain ⟨e1, e2, e3, e4, e5, e6⟩ := yd_c hy (w1 := w1) (w := w) (fun c x hc => hf c x (by omega))
            have hp1 : ∀ T : Int, 0 ≤ T → T < ((2 ^ (w1 y 7).toNat : Nat) : Int) → w1 19 T = psS (yP w1 y) (w1 y 7) T := by
              rw [e3, e6]; intro T a b; rw [hf 19 T (by decide)]; exact hp T a b
            have f13 := hf 16 13 (by decide)
            have f14 := hf 16 14 (by decide)
            refine zA_iload_n dX6_fillLate_15 rfl ?_
            refine zA_aload_n dX6_fillLate_16 rfl ?_
            refine zA_getI dX6_fillLate_17 fX6_65 (cY0 hy) rfl ?_
            refine zA_valI (w1 y 7) rfl ?_
            refine zA_valI (w y 7) (e6 7) ?_
            refine zA_icmp_ge (tgt := 59) dX6_fillLate_20 (by decide) (by first | assumption | exact hr _ _ | exact inR_mk (by omega) (by omega)) (by first | assumption | exact hr _ _ | exact inR_mk (by omega) (by omega)) (fun c20 => ?_) (fun c20 => ?_)
            · skip
              refine zA_iinc (lo1 := [zR 16, zR y, zI (S + (-1)), zI q]) dX6_fillLate_59 rfl (by decide) rfl rfl ?_
              refine zA_goto (tgt := 9) dX6_fillLate_62 (by decide) ?_
              refine zA_drop 3 (lo1 := [zR 16, zR y, zI (S + (-1)), .null]) rfl ?_
              exact ih9 (S + (-1)) w1 (by omega) (by omega) hf (fun T k a b c d => by
                    by_cases e : T = S
                    · rw [e]; exact hq k c (by omega)
                    · exact hl T k (by omega) b c d) (by omega)
            · skip
              refine zA_aload_n dX6_fillLate_23 rfl ?_
              refine zA_getR (n := 21) dX6_fillLate_24 fX6_24 c16 rfl ?_
              refine zA_iload_n dX6_fillLate_27 rfl ?_
              refine zA_bipush dX6_fillLate_28 rfl ?_
              refine zA_imul dX6_fillLate_30 ?_
              refine zA_iload_n dX6_fillLate_31 rfl ?_
              refine zA_iadd dX6_fillLate_32 ?_
              refine zA_iload_n dX6_fillLate_33 rfl ?_
              refine zA_iload_n dX6_fillLate_34 rfl ?_
              refine zA_ishr dX6_fillLate_35 ?_
              refine zA_iconst dX6_fillLate_36 ?_
              refine zA_iand dX6_fillLate_37 ?_
              refine zA_valI (if tb S q = true then 1 else 0) (tb_get (by omega) (by omega) q0 (by omega)) ?_
              refine zA_if_eq (tgt := 51) dX6_fillLate_38 (by decide) (inR_ite _) (fun c38 => ?_) (fun c38 => ?_)
              · skip
                replace c38 := zite_eq c38
                have htb : tb S q = false := by simpa using c38
                refine zA_iconst dX6_fillLate_51 ?_
                refine zA_iastore dX6_fillLate_52 ⟨by decide, by decide⟩ c21 (by first | assumption | omega) (by first | assumption | omega) (by decide) ?_
                refine zA_namew (fun w_1 hw_1 => ?_)
                refine zA_range (fun hr => ?_)
                replace hw_1 : w_1 = up w1 21 ((S * 8) + q) (-1) := hw_1
                refine zA_iinc (lo1 := [zR 16, zR y, zI S, zI (q + 1)]) dX6_fillLate_53 rfl (by decide) rfl rfl ?_
                refine zA_goto (tgt := 15) dX6_fillLate_56 (by decide) ?_
                exact ih15 (q + 1) _ (by omega) (by omega) (by rw [hw_1]; exact only_up hf) (fun T k a b c d => by
                          rw [hw_1, up_idx _ _ _ _ (by omega)]; exact hl T k a b c d) (fun k a b => by
                          rw [hw_1]
                          by_cases e : k = q
                          · rw [e, up_same]; exact ⟨by omega, fun h => by rw [htb] at h; cases h⟩
                          · rw [up_idx _ _ _ _ (by omega)]; exact hq k a (by omega)) (by omega)
              · skip
                replace c38 := zite_ne c38
                have htb : tb S q = true := by simpa using c38
                refine zA_aload_n dX6_fillLate_41 rfl ?_
                refine zA_aload_n dX6_fillLate_42 rfl ?_
                refine zA_iload_n dX6_fillLate_43 rfl ?_
                refine zA_iload_n dX6_fillLate_44 rfl ?_
                refine zA_cV (st := [zI ((S * 8) + q), zR 21]) dX6_fillLate_45 vX6_latestEnd kX6_118 (s_latestEnd (w := w1) hy (e5 hY) (bgO_c hy (fun c x hc hc2 => hf c x (by omega)) hB) (S := S) (q := q) (by omega) (by rw [e6]; exact s1) q0 (by rw [e6]; omega) hp1 (by rw [f13]; exact er) (by rw [e1, e2, e3, e4, e6, f13, f14]; exact hl)) (by decide) c16 rfl rfl (Nat.le_of_ble_eq_true rfl) rfl (zRp1_el (fun lt hlt => ?_))
                rw [e1, e2, e3, e4, e6, f13, f14] at hlt
                obtain ⟨hla, hlb⟩ := hlt
                refine zA_goto (tgt := 52) dX6_fillLate_48 (by decide) ?_
                refine zA_iastore dX6_fillLate_52 (by first | assumption | exact hr _ _ | exact inR_mk (by omega) (by omega)) c21 (by first | assumption | omega) (by first | assumption | omega) (by decide) ?_
                refine zA_namew (fun w_2 hw_2 => ?_)
                refine zA_range (fun hr => ?_)
                replace hw_2 : w_2 = up w1 21 ((S * 8) + q) lt := hw_2
                refine zA_iinc (lo1 := [zR 16, zR y, zI S, zI (q + 1)]) dX6_fillLate_53 rfl (by decide) rfl rfl ?_
                refine zA_goto (tgt := 15) dX6_fillLate_56 (by decide) ?_
                exact ih15 (q + 1) _ (by omega) (by omega) (by rw [hw_2]; exact only_up hf) (fun T k a b c d => by
                          rw [hw_2, up_idx _ _ _ _ (by omega)]; exact hl T k a b c d) (fun k a b => by
                          rw [hw_2]
                          by_cases e : k = q
                          · rw [e, up_same]; exact ⟨hlb, fun _ => hla⟩
                          · rw [up_idx _ _ _ _ (by omega)]; exact hq k a (by omega)) (by omega)
        exact L15 _ 0 w1 (by omega) (by omega) hf hl (fun k a b => by omega) (Nat.lt_succ_self _)
  exact L9 _ (((2 ^ (w y 7).toNat : Nat) : Int) - 1) w (by omega) (by omega) only_rfl (fun T k a b => by omega) (Nat.lt_succ_self _)

set_option maxRecDepth 100000 in
set_option maxHeartbeats 4000000 in
theorem s_dayAt {l : Launch} {t dr tx : Nat} {w : zW} {y : Nat} (hy : y = 4 ∨ y = 10) (hY : okYard w y) {a d : Int} (a0 : 0 ≤ a) (a1 : a < w y 7) {r : List (Int × Int)} (hrz : rz (yCan w y) (yW w y) (yT w y) (w y 7) r) (ha : arR (w 25) (w 26) r) (hm : w 16 12 = ((r.length : Nat) : Int)) (hd : d = enR (yW w y) r + 1) : zSp l mX6_dayAt false 3 0 0 [zR 16, zR y, zI a, zI d] (ZZ t dr tx) w (zRt (some (zI (frr (yW w y) (yT w y) r a))) (ZZ t dr tx) w) zNo := by
  refine zA_intro ⟨plainFor_of_name (by decide +kernel), Or.inl (by decide +kernel)⟩ rfl (Nat.le_of_ble_eq_true rfl) ?_
  have hG := yG hY
  obtain ⟨⟨u1, u2⟩, -, ⟨u3, u4⟩, -, -, -, -, hle, -⟩ := id hY
  have hpn := pow8 u3 u4
  have hln := len_n u3 hrz
  refine zA_range (fun hr => ?_)
  show zA l mX6_dayAt false 3 0 0 (zRt (some (zI (frr (yW w y) (yT w y) r a))) (ZZ t dr tx) w) zNo 0 [zR 16, zR y, zI a, zI d] [] (ZZ t dr tx) w
  refine zA_aload_n dX6_dayAt_0 rfl ?_
  refine zA_getI dX6_dayAt_1 fX6_49 c16 rfl ?_
  refine zA_valI (w 16 12) rfl ?_
  refine zA_if_ne (tgt := 11) dX6_dayAt_4 (by decide) (by first | assumption | exact hr _ _ | exact inR_mk (by omega) (by omega)) (fun c4 => ?_) (fun c4 => ?_)
  · skip
    have hrn : r ≠ [] := fun e => c4 (by rw [hm, e]; rfl)
    have hhd := hd_b r hrz hrn
    have hrow : w 25 (w 16 12 - 1) = hdR r := by
      cases r with
      | nil => exact absurd rfl hrn
      | cons x r =>
        have e : (((x :: r).length : Nat) : Int) = ((r.length : Nat) : Int) + 1 := by simp
        rw [hm, e, show ((r.length : Nat) : Int) + 1 - 1 = ((r.length : Nat) : Int) by omega]
        exact ha.1
    refine zA_iload_n dX6_dayAt_11 rfl ?_
    refine zA_aload_n dX6_dayAt_12 rfl ?_
    refine zA_aload_n dX6_dayAt_13 rfl ?_
    refine zA_getR (n := 25) dX6_dayAt_14 fX6_40 c16 rfl ?_
    refine zA_aload_n dX6_dayAt_17 rfl ?_
    refine zA_getI dX6_dayAt_18 fX6_49 c16 rfl ?_
    refine zA_valI (w 16 12) rfl ?_
    refine zA_iconst dX6_dayAt_21 ?_
    refine zA_isub dX6_dayAt_22 ?_
    refine zA_iaload dX6_dayAt_23 c25 (by first | assumption | omega) (by first | assumption | omega) (by decide) ?_
    refine zA_valI (hdR r) (hrow) ?_
    refine zA_iload_n dX6_dayAt_24 rfl ?_
    refine zA_cS (st := [zI d]) dX6_dayAt_25 sX6_travel kX6_108 (s_tr6 (w := w) hy hY (a := hdR r) (b := a) hhd.1 hhd.2 a0 a1) (by decide) rfl rfl (Nat.le_of_ble_eq_true rfl) (zRt_el ?_)
    show zA l mX6_dayAt false 3 0 0 (zRt (some (zI (frr (yW w y) (yT w y) r a))) (ZZ t dr tx) w) zNo 28 [zR 16, zR y, zI a, zI d] [zI (yT w y (hdR r) a), zI d] (ZZ t dr tx) w
    refine zA_iadd dX6_dayAt_28 ?_
    refine zA_iret dX6_dayAt_29 rfl ?_
    exact zRt_i (by rw [((frr_en hG hrz a0 a1).2 hrn).1, hd])
  · skip
    have hrn : r = [] := by
      cases r with
      | nil => rfl
      | cons x r => exfalso; have : (((x :: r).length : Nat) : Int) = ((r.length : Nat) : Int) + 1 := by simp
                    omega
    refine zA_iload_n dX6_dayAt_7 rfl ?_
    refine zA_goto (tgt := 29) dX6_dayAt_8 (by decide) ?_
    refine zA_iret dX6_dayAt_29 rfl ?_
    exact zRt_i (by rw [hd, hrn]; rfl)

set_option maxRecDepth 100000 in
set_option maxHeartbeats 4000000 in
theorem s_leastNx {l : Launch} {t dr tx : Nat} {w : zW} {y : Nat} (hy : y = 4 ∨ y = 10) (hY : okYard w y) (hB : bgO w y) {S d : Int} (s0 : 0 ≤ S) (s1 : S < ((2 ^ (w y 7).toNat : Nat) : Int)) {r : List (Int × Int)} (hrz : rz (yCan w y) (yW w y) (yT w y) (w y 7) r) (ha : arR (w 25) (w 26) r) (hm : w 16 12 = ((r.length : Nat) : Int)) (hd : d = enR (yW w y) r + 1) : zSp l mX6_leastNext false 4 0 0 [zR 16, zR y, zI S, zI d] (ZZ t dr tx) w (zRp1 (fun v => (v = -1 ∧ ∀ j : Int, 0 ≤ j → j < w y 7 → (tb S j = true ∨ w 21 (iOr S (iShl 1 j) * 8 + j) < eo (yCan w y) (yW w y) j (frr (yW w y) (yT w y) r j))) ∨ ((0 ≤ v ∧ v < w y 7) ∧ tb S v = false ∧ eo (yCan w y) (yW w y) v (frr (yW w y) (yT w y) r v) ≤ w 21 (iOr S (iShl 1 v) * 8 + v) ∧ ∀ j : Int, 0 ≤ j → j < v → (tb S j = true ∨ w 21 (iOr S (iShl 1 j) * 8 + j) < eo (yCan w y) (yW w y) j (frr (yW w y) (yT w y) r j)))) (ZZ t dr tx) w) zNo := by
  refine zA_intro ⟨plainFor_of_name (by decide +kernel), Or.inl (by decide +kernel)⟩ rfl (Nat.le_of_ble_eq_true rfl) ?_
  have hG := yG hY
  obtain ⟨⟨u1, u2⟩, -, ⟨u3, u4⟩, -, -, -, -, hle, -⟩ := id hY
  have hpn := pow8 u3 u4
  refine zA_range (fun hr => ?_)
  show zA l mX6_leastNext false 4 0 0 (zRp1 (fun v => (v = -1 ∧ ∀ j : Int, 0 ≤ j → j < w y 7 → (tb S j = true ∨ w 21 (iOr S (iShl 1 j) * 8 + j) < eo (yCan w y) (yW w y) j (frr (yW w y) (yT w y) r j))) ∨ ((0 ≤ v ∧ v < w y 7) ∧ tb S v = false ∧ eo (yCan w y) (yW w y) v (frr (yW w y) (yT w y) r v) ≤ w 21 (iOr S (iShl 1 v) * 8 + v) ∧ ∀ j : Int, 0 ≤ j → j < v → (tb S j = true ∨ w 21 (iOr S (iShl 1 j) * 8 + j) < eo (yCan w y) (yW w y) j (frr (yW w y) (yT w y) r j)))) (ZZ t dr tx) w) zNo 0 [zR 16, zR y, zI S, zI d, .null] [] (ZZ t dr tx) w
  refine zA_iconst dX6_leastNext_0 ?_
  refine zA_istore (lo1 := [zR 16, zR y, zI S, zI d, zI 0]) dX6_leastNext_1 (by decide) rfl rfl ?_
  have L3 : ∀ (z3 : Nat) (k : Int) (k0 : 0 ≤ k) (k1 : k ≤ w y 7) (hno : ∀ j : Int, 0 ≤ j → j < k → (tb S j = true ∨ w 21 (iOr S (iShl 1 j) * 8 + j) < eo (yCan w y) (yW w y) j (frr (yW w y) (yT w y) r j))) (zm : (w y 7 - k).toNat < z3), zA l mX6_leastNext false 4 0 0 (zRp1 (fun v => (v = -1 ∧ ∀ j : Int, 0 ≤ j → j < w y 7 → (tb S j = true ∨ w 21 (iOr S (iShl 1 j) * 8 + j) < eo (yCan w y) (yW w y) j (frr (yW w y) (yT w y) r j))) ∨ ((0 ≤ v ∧ v < w y 7) ∧ tb S v = false ∧ eo (yCan w y) (yW w y) v (frr (yW w y) (yT w y) r v) ≤ w 21 (iOr S (iShl 1 v) * 8 + v) ∧ ∀ j : Int, 0 ≤ j → j < v → (tb S j = true ∨ w 21 (iOr S (iShl 1 j) * 8 + j) < eo (yCan w y) (yW w y) j (frr (yW w y) (yT w y) r j)))) (ZZ t dr tx) w) zNo 3 [zR 16, zR y, zI S, zI d, zI k] [] (ZZ t dr tx) w := by
    intro z3
    induction z3 with
    | zero => intro k k0 k1 hno zm; exact absurd zm (Nat.not_lt_zero _)
    | succ z3 ih3 =>
      intro k k0 k1 hno zm
      refine zA_iload dX6_leastNext_3 rfl ?_
      refine zA_aload_n dX6_leastNext_5 rfl ?_
      refine zA_getI dX6_leastNext_6 fX6_65 (cY0 hy) rfl ?_
      refine zA_valI (w y 7) rfl ?_
      refine zA_icmp_ge (tgt := 65) dX6_leastNext_9 (by decide) (by first | assumption | exact hr _ _ | exact inR_mk (by omega) (by omega)) (by first | assumption | exact hr _ _ | exact inR_mk (by omega) (by omega)) (fun c9 => ?_) (fun c9 => ?_)
      · skip
        refine zA_iconst dX6_leastNext_65 ?_
        refine zA_iret dX6_leastNext_66 rfl ?_
        exact ⟨⟨-1, rfl, Or.inl ⟨rfl, fun j a b => hno j a (by omega)⟩⟩, rfl, rfl⟩
      · skip
        refine zA_iload_n dX6_leastNext_12 rfl ?_
        refine zA_iload dX6_leastNext_13 rfl ?_
        refine zA_ishr dX6_leastNext_15 ?_
        refine zA_iconst dX6_leastNext_16 ?_
        refine zA_iand dX6_leastNext_17 ?_
        refine zA_valI (if tb S k = true then 1 else 0) (tb_get (by omega) (by omega) k0 (by omega)) ?_
        refine zA_if_ne (tgt := 59) dX6_leastNext_18 (by decide) (inR_ite _) (fun c18 => ?_) (fun c18 => ?_)
        · skip
          replace c18 := zite_ne c18
          have htb : tb S k = true := by simpa using c18
          refine zA_iinc (lo1 := [zR 16, zR y, zI S, zI d, zI (k + 1)]) dX6_leastNext_59 rfl (by decide) rfl rfl ?_
          refine zA_goto (tgt := 3) dX6_leastNext_62 (by decide) ?_
          exact ih3 (k + 1) (by omega) (by omega) (fun j a b => by
                by_cases e : j = k
                · rw [e]; first | exact Or.inl htb | exact Or.inr c53
                · exact hno j a (by omega)) (by omega)
        · skip
          replace c18 := zite_eq c18
          have htb : tb S k = false := by simpa using c18
          have hox := or_ix u3 u4 s0 s1 k0 (show k < w y 7 by omega) htb k0 (by omega)
          have hfr := frr_b hG hrz k0 (show k < w y 7 by omega)
          have heb := eo_b hG (l := k) (day := frr (yW w y) (yT w y) r k) k0 (show k < w y 7 by omega)
          refine zA_aload_n dX6_leastNext_21 rfl ?_
          refine zA_aload_n dX6_leastNext_22 rfl ?_
          refine zA_iload dX6_leastNext_23 rfl ?_
          refine zA_aload_n dX6_leastNext_25 rfl ?_
          refine zA_aload_n dX6_leastNext_26 rfl ?_
          refine zA_iload dX6_leastNext_27 rfl ?_
          refine zA_iload_n dX6_leastNext_29 rfl ?_
          refine zA_cV (st := [zI k, zR y, zR 16]) dX6_leastNext_30 vX6_dayAt kX6_127 (s_dayAt (w := w) hy hY (a := k) (d := d) k0 (by omega) hrz ha hm hd) (by decide) c16 rfl rfl (Nat.le_of_ble_eq_true rfl) rfl (zRt_el ?_)
          show zA l mX6_leastNext false 4 0 0 (zRp1 (fun v => (v = -1 ∧ ∀ j : Int, 0 ≤ j → j < w y 7 → (tb S j = true ∨ w 21 (iOr S (iShl 1 j) * 8 + j) < eo (yCan w y) (yW w y) j (frr (yW w y) (yT w y) r j))) ∨ ((0 ≤ v ∧ v < w y 7) ∧ tb S v = false ∧ eo (yCan w y) (yW w y) v (frr (yW w y) (yT w y) r v) ≤ w 21 (iOr S (iShl 1 v) * 8 + v) ∧ ∀ j : Int, 0 ≤ j → j < v → (tb S j = true ∨ w 21 (iOr S (iShl 1 j) * 8 + j) < eo (yCan w y) (yW w y) j (frr (yW w y) (yT w y) r j)))) (ZZ t dr tx) w) zNo 33 [zR 16, zR y, zI S, zI d, zI k] [zI (frr (yW w y) (yT w y) r k), zI k, zR y, zR 16] (ZZ t dr tx) w
          refine zA_cV (st := []) dX6_leastNext_33 vX6_endOf kX6_100 (s_endOf (w := w) hy hY hB (a := k) (d := frr (yW w y) (yT w y) r k) k0 (by omega) hfr.1 (inR_mk (by omega) (by omega))) (by decide) c16 rfl rfl (Nat.le_of_ble_eq_true rfl) rfl (zRt_el ?_)
          show zA l mX6_leastNext false 4 0 0 (zRp1 (fun v => (v = -1 ∧ ∀ j : Int, 0 ≤ j → j < w y 7 → (tb S j = true ∨ w 21 (iOr S (iShl 1 j) * 8 + j) < eo (yCan w y) (yW w y) j (frr (yW w y) (yT w y) r j))) ∨ ((0 ≤ v ∧ v < w y 7) ∧ tb S v = false ∧ eo (yCan w y) (yW w y) v (frr (yW w y) (yT w y) r v) ≤ w 21 (iOr S (iShl 1 v) * 8 + v) ∧ ∀ j : Int, 0 ≤ j → j < v → (tb S j = true ∨ w 21 (iOr S (iShl 1 j) * 8 + j) < eo (yCan w y) (yW w y) j (frr (yW w y) (yT w y) r j)))) (ZZ t dr tx) w) zNo 36 [zR 16, zR y, zI S, zI d, zI k] [zI (eo (yCan w y) (yW w y) k (frr (yW w y) (yT w y) r k))] (ZZ t dr tx) w
          refine zA_aload_n dX6_leastNext_36 rfl ?_
          refine zA_getR (n := 21) dX6_leastNext_37 fX6_24 c16 rfl ?_
          refine zA_iload_n dX6_leastNext_40 rfl ?_
          refine zA_iconst dX6_leastNext_41 ?_
          refine zA_iload dX6_leastNext_42 rfl ?_
          refine zA_ishl dX6_leastNext_44 ?_
          refine zA_ior dX6_leastNext_45 ?_
          refine zA_bipush dX6_leastNext_46 rfl ?_
          refine zA_imul dX6_leastNext_48 ?_
          refine zA_iload dX6_leastNext_49 rfl ?_
          refine zA_iadd dX6_leastNext_51 ?_
          refine zA_iaload dX6_leastNext_52 c21 (by first | assumption | omega) (by first | assumption | omega) (by decide) ?_
          refine zA_icmp_gt (tgt := 59) dX6_leastNext_53 (by decide) (by first | assumption | exact hr _ _ | exact inR_mk (by omega) (by omega)) (by first | assumption | exact hr _ _ | exact inR_mk (by omega) (by omega)) (fun c53 => ?_) (fun c53 => ?_)
          · skip
            refine zA_iinc (lo1 := [zR 16, zR y, zI S, zI d, zI (k + 1)]) dX6_leastNext_59 rfl (by decide) rfl rfl ?_
            refine zA_goto (tgt := 3) dX6_leastNext_62 (by decide) ?_
            exact ih3 (k + 1) (by omega) (by omega) (fun j a b => by
                  by_cases e : j = k
                  · rw [e]; first | exact Or.inl htb | exact Or.inr c53
                  · exact hno j a (by omega)) (by omega)
          · skip
            refine zA_iload dX6_leastNext_56 rfl ?_
            refine zA_iret dX6_leastNext_58 rfl ?_
            exact ⟨⟨k, rfl, Or.inr ⟨⟨k0, by omega⟩, htb, c53, hno⟩⟩, rfl, rfl⟩
  exact L3 _ 0 (by omega) (by omega) (fun j a b => by omega) (Nat.lt_succ_self _)

set_option maxRecDepth 100000 in
set_option maxHeartbeats 4000000 in
theorem s_fillRow {l : Launch} {t dr tx : Nat} {w : zW} {y : Nat} (hy : y = 4 ∨ y = 10) (hY : okYard w y) (hB : bgO w y) (hp : ∀ T : Int, 0 ≤ T → T < ((2 ^ (w y 7).toNat : Nat) : Int) → w 19 T = psS (yP w y) (w y 7) T) (er : -1 ≤ w 16 13 ∧ w 16 13 ≤ 29) (hfb : fbO (yCan w y) (yW w y) (yP w y) (yT w y) (w y 7) (w 16 14) (w 16 13)) (hl : (∀ T k : Int, 0 < T → T < ((2 ^ (w y 7).toNat : Nat) : Int) → 0 ≤ k → k < w y 7 → (-1 ≤ w 21 (T * 8 + k) ∧ w 21 (T * 8 + k) ≤ 29) ∧ (tb T k = true → laO (yCan w y) (yW w y) (yP w y) (yT w y) (w y 7) (w 16 14) (w 16 13) T k (w 21 (T * 8 + k))))) : zSp l mX6_fillRow false 5 0 0 [zR 16, zR y] (ZZ t dr tx) w (fun v' S' w' => v' = none ∧ S' = (ZZ t dr tx) ∧ (∀ c x, c ≠ 25 → c ≠ 26 → (c ≠ 16 ∨ x ≠ 12) → w' c x = w c x) ∧ (∃ R r, bz (yCan w y) (yW w y) (yP w y) (yT w y) (w y 7) R ∧ ct R [] = r ∧ rz (yCan w y) (yW w y) (yT w y) (w y 7) r ∧ arR (w' 25) (w' 26) r ∧ w' 16 12 = ((r.length : Nat) : Int) ∧ prR (yP w y) r = w 16 14 ∧ enR (yW w y) r = w 16 13)) zNo := by
  refine zA_intro ⟨plainFor_of_name (by decide +kernel), Or.inl (by decide +kernel)⟩ rfl (Nat.le_of_ble_eq_true rfl) ?_
  have hG := yG hY
  obtain ⟨⟨u1, u2⟩, -, ⟨u3, u4⟩, -, -, -, -, hle, -⟩ := id hY
  have hpn := pow8 u3 u4
  refine zA_range (fun hr => ?_)
  show zA l mX6_fillRow false 5 0 0 (fun v' S' w' => v' = none ∧ S' = (ZZ t dr tx) ∧ (∀ c x, c ≠ 25 → c ≠ 26 → (c ≠ 16 ∨ x ≠ 12) → w' c x = w c x) ∧ (∃ R r, bz (yCan w y) (yW w y) (yP w y) (yT w y) (w y 7) R ∧ ct R [] = r ∧ rz (yCan w y) (yW w y) (yT w y) (w y 7) r ∧ arR (w' 25) (w' 26) r ∧ w' 16 12 = ((r.length : Nat) : Int) ∧ prR (yP w y) r = w 16 14 ∧ enR (yW w y) r = w 16 13)) zNo 0 [zR 16, zR y, .null, .null, .null, .null, .null] [] (ZZ t dr tx) w
  refine zA_aload_n dX6_fillRow_0 rfl ?_
  refine zA_iconst dX6_fillRow_1 ?_
  refine zA_putI dX6_fillRow_2 fX6_49 c16 rfl ⟨by decide, by decide⟩ ⟨rfl, rfl⟩ ?_
  refine zA_namew (fun w_1 hw_1 => ?_)
  refine zA_range (fun hr => ?_)
  replace hw_1 : w_1 = up w 16 12 0 := hw_1
  refine zA_iconst dX6_fillRow_5 ?_
  refine zA_istore_n (lo1 := [zR 16, zR y, zI 0, .null, .null, .null, .null]) dX6_fillRow_6 (by decide) rfl rfl ?_
  refine zA_iconst dX6_fillRow_7 ?_
  refine zA_istore_n (lo1 := [zR 16, zR y, zI 0, zI 0, .null, .null, .null]) dX6_fillRow_8 (by decide) rfl rfl ?_
  refine zA_iconst dX6_fillRow_9 ?_
  refine zA_istore (lo1 := [zR 16, zR y, zI 0, zI 0, zI 0, .null, .null]) dX6_fillRow_10 (by decide) rfl rfl ?_
  have L12 : ∀ (z12 : Nat) (S d i : Int) (w1 : zW) (R r : List (Int × Int)) (hfr : frI (yCan w y) (yW w y) (yP w y) (yT w y) (w y 7) (w 16 14) (w 16 13) R r) (hS : stR (w y 7) r S) (ha : arR (w1 25) (w1 26) r) (hm : w1 16 12 = ((r.length : Nat) : Int)) (hd : d = enR (yW w y) r + 1) (hi : i = ((r.length : Nat) : Int)) (hf : (∀ c x, c ≠ 25 → c ≠ 26 → (c ≠ 16 ∨ x ≠ 12) → w1 c x = w c x)) (zm : (w y 7 + 1 - i).toNat < z12), zA l mX6_fillRow false 5 0 0 (fun v' S' w' => v' = none ∧ S' = (ZZ t dr tx) ∧ (∀ c x, c ≠ 25 → c ≠ 26 → (c ≠ 16 ∨ x ≠ 12) → w' c x = w c x) ∧ (∃ R r, bz (yCan w y) (yW w y) (yP w y) (yT w y) (w y 7) R ∧ ct R [] = r ∧ rz (yCan w y) (yW w y) (yT w y) (w y 7) r ∧ arR (w' 25) (w' 26) r ∧ w' 16 12 = ((r.length : Nat) : Int) ∧ prR (yP w y) r = w 16 14 ∧ enR (yW w y) r = w 16 13)) zNo 12 [zR 16, zR y, zI S, zI d, zI i, .null, .null] [] (ZZ t dr tx) w1 := by
    intro z12
    induction z12 with
    | zero => intro S d i w1 R r hfr hS ha hm hd hi hf zm; exact absurd zm (Nat.not_lt_zero _)
    | succ z12 ih12 =>
      intro S d i w1 R r hfr hS ha hm hd hi hf zm
      refine zA_range (fun hr => ?_)
      obtain ⟨e1, e2, e3, e4, e5, e6⟩ := yd_c hy (w1 := w1) (w := w) (fun c x hc => hf c x (by omega) (by omega) (by omega))
      have hrz := frI_rz hfr
      have hln := len_n u3 hrz
      have hS1 := hS.1
      have e19 : w1 19 S = psS (yP w y) (w y 7) S := by rw [hf 19 S (by decide) (by decide) (Or.inl (by decide))]; exact hp S hS1.1 hS1.2
      have f13 := hf 16 13 (by decide) (by decide) (Or.inr (by decide))
      have f14 := hf 16 14 (by decide) (by decide) (Or.inr (by decide))
      refine zA_iload dX6_fillRow_12 rfl ?_
      refine zA_aload_n dX6_fillRow_14 rfl ?_
      refine zA_getI dX6_fillRow_15 fX6_65 (cY0 hy) rfl ?_
      refine zA_valI (w1 y 7) rfl ?_
      refine zA_valI (w y 7) (e6 7) ?_
      refine zA_icmp_ge (tgt := 127) dX6_fillRow_18 (by decide) (by first | assumption | exact hr _ _ | exact inR_mk (by omega) (by omega)) (by first | assumption | exact hr _ _ | exact inR_mk (by omega) (by omega)) (fun c18 => ?_) (fun c18 => ?_)
      · skip
        have hPS : psS (yP w y) (w y 7) S = w 16 14 := Classical.byContradiction (fun hne => by
          obtain ⟨t1, g1, g2, g3, g4, g5, g6⟩ := fr_ex hfr hS hne
          cases t1 with
          | nil => have : (0 : Int) ≤ -1 := g4; omega
          | cons x t1 =>
            have h1 := len_n (r := x :: r) u3 ⟨g1.1, hrz⟩
            have h2 : (((x :: r).length : Nat) : Int) = ((r.length : Nat) : Int) + 1 := by simp
            omega)
        refine zA_vret dX6_fillRow_127 rfl ?_
        obtain ⟨hz1, hz2, hz3⟩ := fr_z hG hfb hfr hS hPS
        exact ⟨rfl, rfl, hf, R, r, hz1, hfr.2.1, hrz, ha, hm, hz2, hz3⟩
      · skip
        refine zA_aload_n dX6_fillRow_21 rfl ?_
        refine zA_getR (n := 19) dX6_fillRow_22 fX6_18 c16 rfl ?_
        refine zA_iload_n dX6_fillRow_25 rfl ?_
        refine zA_iaload dX6_fillRow_26 c19 (by first | assumption | omega) (by first | assumption | omega) (by decide) ?_
        refine zA_aload_n dX6_fillRow_27 rfl ?_
        refine zA_getI dX6_fillRow_28 fX6_55 c16 rfl ?_
        refine zA_valI (w1 16 14) rfl ?_
        refine zA_icmp_eq (tgt := 127) dX6_fillRow_31 (by decide) (by first | assumption | exact hr _ _ | exact inR_mk (by omega) (by omega)) (by first | assumption | exact hr _ _ | exact inR_mk (by omega) (by omega)) (fun c31 => ?_) (fun c31 => ?_)
        · skip
          have hPS : psS (yP w y) (w y 7) S = w 16 14 := by rw [← e19, ← f14]; exact c31
          refine zA_vret dX6_fillRow_127 rfl ?_
          obtain ⟨hz1, hz2, hz3⟩ := fr_z hG hfb hfr hS hPS
          exact ⟨rfl, rfl, hf, R, r, hz1, hfr.2.1, hrz, ha, hm, hz2, hz3⟩
        · skip
          have hPS : psS (yP w y) (w y 7) S ≠ w 16 14 := fun e => c31 (by rw [e19, f14]; exact e)
          refine zA_aload_n dX6_fillRow_34 rfl ?_
          refine zA_aload_n dX6_fillRow_35 rfl ?_
          refine zA_iload_n dX6_fillRow_36 rfl ?_
          refine zA_iload_n dX6_fillRow_37 rfl ?_
          refine zA_cV (st := []) dX6_fillRow_38 vX6_leastNext kX6_124 (s_leastNx (w := w1) hy (e5 hY) (bgO_c hy (fun c x hc hc2 => hf c x (by omega) (by omega) (Or.inl hc2)) hB) (S := S) (d := d) hS1.1 (by rw [e6]; exact hS1.2) (r := r) (by rw [e1, e2, e4, e6]; exact hrz) ha hm (by rw [e2]; exact hd)) (by decide) c16 rfl rfl (Nat.le_of_ble_eq_true rfl) rfl (zRp1_el (fun nx hnx => ?_))
          rw [e1, e2, e4, e6] at hnx
          have f21 : w1 21 = w 21 := funext fun x => hf 21 x (by decide) (by decide) (Or.inl (by decide))
          refine zA_istore (lo1 := [zR 16, zR y, zI S, zI d, zI i, zI nx, .null]) dX6_fillRow_41 (by decide) rfl rfl ?_
          refine zA_iload dX6_fillRow_43 rfl ?_
          refine zA_iconst dX6_fillRow_45 ?_
          refine zA_icmp_ne (tgt := 50) dX6_fillRow_46 (by decide) (by first | assumption | exact hr _ _ | exact inR_mk (by omega) (by omega)) ⟨by decide, by decide⟩ (fun c46 => ?_) (fun c46 => ?_)
          · skip
            have hnx2 := hnx.resolve_left (fun h => c46 h.1)
            obtain ⟨⟨n0, n1⟩, htb, hle2, hno⟩ := hnx2
            rw [f21] at hle2
            have hon := orN u3 u4 hS1.1 hS1.2 n0 n1
            have hog := or_gt u3 u4 hS1.1 hS1.2 n0 n1 htb
            obtain ⟨hlb, hla⟩ := hl (iOr S (iShl 1 nx)) nx (by omega) hon.1.2 n0 n1
            replace hla := hla (by rw [hon.2 nx n0, decide_eq_true rfl, Bool.or_true])
            obtain ⟨hst, hfr2, hen2⟩ := fr_s hG hfr hS ⟨n0, n1⟩ htb hla (by omega) hle2 hPS (fun j j0 j1 => by
              have hoj := orN u3 u4 hS1.1 hS1.2 j0 (show j < w y 7 by omega)
              have hpos : 0 < iOr S (iShl 1 j) := by
                have hz : iOr S (iShl 1 j) ≠ 0 := fun e => by
                  have := hoj.2 j j0
                  rw [e, tb_0, decide_eq_true rfl, Bool.or_true] at this; cases this
                have := hoj.1.1; omega
              exact fr_no hG hrz hS ⟨j0, by omega⟩ ((hl _ j hpos hoj.1.2 j0 (by omega)).2 (by rw [hoj.2 _ j0, decide_eq_true rfl, Bool.or_true])) (by
                have h := hno j j0 j1
                rw [f21] at h; exact h))
            have hS2 := st_s (x := (nx, (fdF (yCan w y nx) (frr (yW w y) (yT w y) r nx)))) u3 u4 hS n0 n1
            have hfrb := frr_b hG hrz n0 n1
            have hlen2 := len_n (r := (nx, (fdF (yCan w y nx) (frr (yW w y) (yT w y) r nx))) :: r) u3 ⟨hst, hrz⟩
            have hlen3 : ((((nx, (fdF (yCan w y nx) (frr (yW w y) (yT w y) r nx))) :: r).length : Nat) : Int) = ((r.length : Nat) : Int) + 1 := by simp
            have hsd := stp_d hG hst
            have heq : (eo (yCan w y) (yW w y) nx (frr (yW w y) (yT w y) r nx)) = (fdF (yCan w y nx) (frr (yW w y) (yT w y) r nx)) + yW w y nx - 1 := hen2.symm
            have hyw : yW w y nx = w1 (y + 4) (nx * 6 + 1) := (hf _ _ (by omega) (by omega) (Or.inl (by omega))).symm
            have hsd1 : 0 ≤ (fdF (yCan w y nx) (frr (yW w y) (yT w y) r nx)) ∧ (fdF (yCan w y nx) (frr (yW w y) (yT w y) r nx)) + yW w y nx ≤ 30 := hsd.1.1
            refine zA_aload_n dX6_fillRow_50 rfl ?_
            refine zA_aload_n dX6_fillRow_51 rfl ?_
            refine zA_iload dX6_fillRow_52 rfl ?_
            refine zA_aload_n dX6_fillRow_54 rfl ?_
            refine zA_aload_n dX6_fillRow_55 rfl ?_
            refine zA_iload dX6_fillRow_56 rfl ?_
            refine zA_iload_n dX6_fillRow_58 rfl ?_
            refine zA_cV (st := [zI nx, zR y, zR 16]) dX6_fillRow_59 vX6_dayAt kX6_127 (s_dayAt (w := w1) hy (e5 hY) (a := nx) (d := d) n0 (by rw [e6]; exact n1) (r := r) (by rw [e1, e2, e4, e6]; exact hrz) ha hm (by rw [e2]; exact hd)) (by decide) c16 rfl rfl (Nat.le_of_ble_eq_true rfl) rfl (zRt_el ?_)
            show zA l mX6_fillRow false 5 0 0 (fun v' S' w' => v' = none ∧ S' = (ZZ t dr tx) ∧ (∀ c x, c ≠ 25 → c ≠ 26 → (c ≠ 16 ∨ x ≠ 12) → w' c x = w c x) ∧ (∃ R r, bz (yCan w y) (yW w y) (yP w y) (yT w y) (w y 7) R ∧ ct R [] = r ∧ rz (yCan w y) (yW w y) (yT w y) (w y 7) r ∧ arR (w' 25) (w' 26) r ∧ w' 16 12 = ((r.length : Nat) : Int) ∧ prR (yP w y) r = w 16 14 ∧ enR (yW w y) r = w 16 13)) zNo 62 [zR 16, zR y, zI S, zI d, zI i, zI nx, .null] [zI (frr (yW w1 y) (yT w1 y) r nx), zI nx, zR y, zR 16] (ZZ t dr tx) w1
            refine zA_valI (frr (yW w y) (yT w y) r nx) (by rw [e2, e4]) ?_
            refine zA_cV (st := []) dX6_fillRow_62 vX6_endOf kX6_100 (s_endOf (w := w1) hy (e5 hY) (bgO_c hy (fun c x hc hc2 => hf c x (by omega) (by omega) (Or.inl hc2)) hB) (a := nx) (d := frr (yW w y) (yT w y) r nx) n0 (by rw [e6]; exact n1) hfrb.1 (inR_mk (by omega) (by omega))) (by decide) c16 rfl rfl (Nat.le_of_ble_eq_true rfl) rfl (zRt_el ?_)
            show zA l mX6_fillRow false 5 0 0 (fun v' S' w' => v' = none ∧ S' = (ZZ t dr tx) ∧ (∀ c x, c ≠ 25 → c ≠ 26 → (c ≠ 16 ∨ x ≠ 12) → w' c x = w c x) ∧ (∃ R r, bz (yCan w y) (yW w y) (yP w y) (yT w y) (w y 7) R ∧ ct R [] = r ∧ rz (yCan w y) (yW w y) (yT w y) (w y 7) r ∧ arR (w' 25) (w' 26) r ∧ w' 16 12 = ((r.length : Nat) : Int) ∧ prR (yP w y) r = w 16 14 ∧ enR (yW w y) r = w 16 13)) zNo 65 [zR 16, zR y, zI S, zI d, zI i, zI nx, .null] [zI (eo (yCan w1 y) (yW w1 y) nx (frr (yW w y) (yT w y) r nx))] (ZZ t dr tx) w1
            refine zA_valI (eo (yCan w y) (yW w y) nx (frr (yW w y) (yT w y) r nx)) (by rw [e1, e2]) ?_
            refine zA_istore (lo1 := [zR 16, zR y, zI S, zI d, zI i, zI nx, zI (eo (yCan w y) (yW w y) nx (frr (yW w y) (yT w y) r nx))]) dX6_fillRow_65 (by decide) rfl rfl ?_
            refine zA_aload_n dX6_fillRow_67 rfl ?_
            refine zA_getR (n := 25) dX6_fillRow_68 fX6_40 c16 rfl ?_
            refine zA_aload_n dX6_fillRow_71 rfl ?_
            refine zA_getI dX6_fillRow_72 fX6_49 c16 rfl ?_
            refine zA_valI (w1 16 12) rfl ?_
            refine zA_iload dX6_fillRow_75 rfl ?_
            refine zA_iastore dX6_fillRow_77 (by first | assumption | exact hr _ _ | exact inR_mk (by omega) (by omega)) c25 (by first | assumption | omega) (by first | assumption | omega) (by decide) ?_
            refine zA_namew (fun w_2 hw_2 => ?_)
            refine zA_range (fun hr => ?_)
            replace hw_2 : w_2 = up w1 25 (w1 16 12) nx := hw_2
            have e12b : w_2 16 12 = ((r.length : Nat) : Int) := by rw [hw_2, up_cell _ _ _ _ (by decide)]; exact hm
            refine zA_aload_n dX6_fillRow_78 rfl ?_
            refine zA_getR (n := 26) dX6_fillRow_79 fX6_43 c16 rfl ?_
            refine zA_aload_n dX6_fillRow_82 rfl ?_
            refine zA_getI dX6_fillRow_83 fX6_49 c16 rfl ?_
            refine zA_valI (w_2 16 12) rfl ?_
            refine zA_iload dX6_fillRow_86 rfl ?_
            refine zA_aload_n dX6_fillRow_88 rfl ?_
            refine zA_iload dX6_fillRow_89 rfl ?_
            refine zA_iconst dX6_fillRow_91 ?_
            refine zA_cV (st := [zI (eo (yCan w y) (yW w y) nx (frr (yW w y) (yT w y) r nx)), zI (w_2 16 12), zR 26]) dX6_fillRow_92 vX10_fact kX6_91 (s_fact (w := w_2) (a := nx) (k := 1) hy n0 (by omega) (by decide) (by decide)) (by decide) (cY0 hy) rfl rfl (Nat.le_of_ble_eq_true rfl) rfl (zRt_el ?_)
            show zA l mX6_fillRow false 5 0 0 (fun v' S' w' => v' = none ∧ S' = (ZZ t dr tx) ∧ (∀ c x, c ≠ 25 → c ≠ 26 → (c ≠ 16 ∨ x ≠ 12) → w' c x = w c x) ∧ (∃ R r, bz (yCan w y) (yW w y) (yP w y) (yT w y) (w y 7) R ∧ ct R [] = r ∧ rz (yCan w y) (yW w y) (yT w y) (w y 7) r ∧ arR (w' 25) (w' 26) r ∧ w' 16 12 = ((r.length : Nat) : Int) ∧ prR (yP w y) r = w 16 14 ∧ enR (yW w y) r = w 16 13)) zNo 95 [zR 16, zR y, zI S, zI d, zI i, zI nx, zI (eo (yCan w y) (yW w y) nx (frr (yW w y) (yT w y) r nx))] [zI (w_2 (y + 4) (nx * 6 + 1)), zI (eo (yCan w y) (yW w y) nx (frr (yW w y) (yT w y) r nx)), zI (w_2 16 12), zR 26] (ZZ t dr tx) w_2
            refine zA_valI (yW w y nx) (by rw [hw_2, up_cell _ _ _ _ (by omega)]; exact hyw.symm) ?_
            refine zA_isub dX6_fillRow_95 ?_
            refine zA_iconst dX6_fillRow_96 ?_
            refine zA_iadd dX6_fillRow_97 ?_
            refine zA_iastore dX6_fillRow_98 (by first | assumption | exact hr _ _ | exact inR_mk (by omega) (by omega)) c26 (by first | assumption | omega) (by first | assumption | omega) (by decide) ?_
            refine zA_namew (fun w_3 hw_3 => ?_)
            refine zA_range (fun hr => ?_)
            replace hw_3 : w_3 = up w_2 26 (w_2 16 12) (((eo (yCan w y) (yW w y) nx (frr (yW w y) (yT w y) r nx)) - (yW w y nx)) + 1) := hw_3
            have e12c : w_3 16 12 = ((r.length : Nat) : Int) := by rw [hw_3, up_cell _ _ _ _ (by decide)]; exact e12b
            refine zA_aload_n dX6_fillRow_99 rfl ?_
            refine zA_dup dX6_fillRow_100 rfl ?_
            refine zA_getI dX6_fillRow_101 fX6_49 c16 rfl ?_
            refine zA_valI (w_3 16 12) rfl ?_
            refine zA_iconst dX6_fillRow_104 ?_
            refine zA_iadd dX6_fillRow_105 ?_
            refine zA_putI dX6_fillRow_106 fX6_49 c16 rfl (by first | assumption | exact hr _ _ | exact inR_mk (by omega) (by omega)) ⟨rfl, rfl⟩ ?_
            refine zA_namew (fun w_4 hw_4 => ?_)
            refine zA_range (fun hr => ?_)
            replace hw_4 : w_4 = up w_3 16 12 ((w_3 16 12) + 1) := hw_4
            refine zA_iload_n dX6_fillRow_109 rfl ?_
            refine zA_iconst dX6_fillRow_110 ?_
            refine zA_iload dX6_fillRow_111 rfl ?_
            refine zA_ishl dX6_fillRow_113 ?_
            refine zA_ior dX6_fillRow_114 ?_
            refine zA_istore_n (lo1 := [zR 16, zR y, zI (iOr S (iShl 1 nx)), zI d, zI i, zI nx, zI (eo (yCan w y) (yW w y) nx (frr (yW w y) (yT w y) r nx))]) dX6_fillRow_115 (by decide) rfl rfl ?_
            refine zA_iload dX6_fillRow_116 rfl ?_
            refine zA_iconst dX6_fillRow_118 ?_
            refine zA_iadd dX6_fillRow_119 ?_
            refine zA_istore_n (lo1 := [zR 16, zR y, zI (iOr S (iShl 1 nx)), zI ((eo (yCan w y) (yW w y) nx (frr (yW w y) (yT w y) r nx)) + 1), zI i, zI nx, zI (eo (yCan w y) (yW w y) nx (frr (yW w y) (yT w y) r nx))]) dX6_fillRow_120 (by decide) rfl rfl ?_
            refine zA_iinc (lo1 := [zR 16, zR y, zI (iOr S (iShl 1 nx)), zI ((eo (yCan w y) (yW w y) nx (frr (yW w y) (yT w y) r nx)) + 1), zI (i + 1), zI nx, zI (eo (yCan w y) (yW w y) nx (frr (yW w y) (yT w y) r nx))]) dX6_fillRow_121 rfl (by decide) rfl rfl ?_
            refine zA_goto (tgt := 12) dX6_fillRow_124 (by decide) ?_
            refine zA_drop 5 (lo1 := [zR 16, zR y, zI (iOr S (iShl 1 nx)), zI ((eo (yCan w y) (yW w y) nx (frr (yW w y) (yT w y) r nx)) + 1), zI (i + 1), .null, zI (eo (yCan w y) (yW w y) nx (frr (yW w y) (yT w y) r nx))]) rfl ?_
            refine zA_drop 6 (lo1 := [zR 16, zR y, zI (iOr S (iShl 1 nx)), zI ((eo (yCan w y) (yW w y) nx (frr (yW w y) (yT w y) r nx)) + 1), zI (i + 1), .null, .null]) rfl ?_
            exact ih12 (iOr S (iShl 1 nx)) ((eo (yCan w y) (yW w y) nx (frr (yW w y) (yT w y) r nx)) + 1) (i + 1) w_4 (R ++ [(nx, (fdF (yCan w y nx) (frr (yW w y) (yT w y) r nx)))]) ((nx, (fdF (yCan w y nx) (frr (yW w y) (yT w y) r nx))) :: r) hfr2 hS2 (by
                    refine ⟨?_, ?_, arR_c (fun j j0 j1 => ?_) ha⟩
                    · rw [hw_4, up_cell _ _ _ _ (by decide), hw_3, up_cell _ _ _ _ (by decide), hw_2, hm, up_same]
                    · rw [hw_4, up_cell _ _ _ _ (by decide), hw_3, show w_2 16 12 = ((r.length : Nat) : Int) by rw [hw_2, up_cell _ _ _ _ (by decide), hm], up_same]; omega
                    · rw [hw_4, up_cell _ _ _ _ (by decide), up_cell _ _ _ _ (by decide), hw_3, up_cell _ _ _ _ (by decide), show w_2 16 12 = ((r.length : Nat) : Int) by rw [hw_2, up_cell _ _ _ _ (by decide), hm], up_idx _ _ _ _ (by omega), hw_2, hm, up_idx _ _ _ _ (by omega), up_cell _ _ _ _ (by decide)]
                      exact ⟨rfl, rfl⟩) (by rw [hw_4, up_same, hw_3, up_cell _ _ _ _ (by decide), hw_2, up_cell _ _ _ _ (by decide), hm]; simp) (by rw [hen2]) (by rw [hi]; simp) (fun c x a b e => by
                    rw [hw_4, up_n (by omega), hw_3, up_cell _ _ _ _ b, hw_2, up_cell _ _ _ _ a]; exact hf c x a b e) (by omega)
          · skip
            exfalso
            have hnx2 := hnx.resolve_right (fun h => by have := h.1; omega)
            obtain ⟨t1, g1, g2, g3, g4, g5, g6⟩ := fr_ex hfr hS hPS
            have hon := orN u3 u4 hS1.1 hS1.2 g4 g5
            have hpos : 0 < iOr S (iShl 1 (hdR t1)) := by
              have hz : iOr S (iShl 1 (hdR t1)) ≠ 0 := fun e => by
                have := hon.2 (hdR t1) g4
                rw [e, tb_0, decide_eq_true rfl, Bool.or_true] at this; cases this
              have := hon.1.1; omega
            exact fr_no hG hrz hS ⟨g4, g5⟩ ((hl _ (hdR t1) hpos hon.1.2 g4 g5).2 (by rw [hon.2 _ g4, decide_eq_true rfl, Bool.or_true])) (by
              have h := hnx2.2 (hdR t1) g4 g5
              rw [f21] at h; exact h) t1 g1 g2 g3 rfl
  exact L12 _ 0 0 0 _ [] [] (frI_0 hfb) st_0 trivial (by rw [hw_1, up_same]; rfl) rfl rfl (fun c x a b e => by rw [hw_1, up_n (by omega)]) (Nat.lt_succ_self _)

set_option maxRecDepth 100000 in
set_option maxHeartbeats 4000000 in
theorem s_makePlan {l : Launch} {t dr tx : Nat} {w : zW} {y : Nat} (hy : y = 4 ∨ y = 10) (hY : okYard w y)  : zSp l mX6_make false 6 0 0 [zR 16, zR y] (ZZ t dr tx) w (fun v' S' w' => v' = some (zI (w' 16 14)) ∧ S' = (ZZ t dr tx) ∧ (∀ c x, c ≠ 16 → (c < 17 ∨ 26 < c ∨ c = 23) → w' c x = w c x) ∧ (w' 16 15 = 1 ∧ w' 16 16 = 0) ∧ (∃ R r, bz (yCan w y) (yW w y) (yP w y) (yT w y) (w y 7) R ∧ ct R [] = r ∧ rz (yCan w y) (yW w y) (yT w y) (w y 7) r ∧ arR (w' 25) (w' 26) r ∧ w' 16 12 = ((r.length : Nat) : Int) ∧ prR (yP w y) r = w' 16 14 ∧ enR (yW w y) r = w' 16 13)) zNo := by
  refine zA_intro ⟨plainFor_of_name (by decide +kernel), Or.inl (by decide +kernel)⟩ rfl (Nat.le_of_ble_eq_true rfl) ?_
  have hG := yG hY
  obtain ⟨⟨u1, u2⟩, -, ⟨u3, u4⟩, -, -, -, -, hle, -⟩ := id hY
  have hpn := pow8 u3 u4
  refine zA_range (fun hr => ?_)
  show zA l mX6_make false 6 0 0 (fun v' S' w' => v' = some (zI (w' 16 14)) ∧ S' = (ZZ t dr tx) ∧ (∀ c x, c ≠ 16 → (c < 17 ∨ 26 < c ∨ c = 23) → w' c x = w c x) ∧ (w' 16 15 = 1 ∧ w' 16 16 = 0) ∧ (∃ R r, bz (yCan w y) (yW w y) (yP w y) (yT w y) (w y 7) R ∧ ct R [] = r ∧ rz (yCan w y) (yW w y) (yT w y) (w y 7) r ∧ arR (w' 25) (w' 26) r ∧ w' 16 12 = ((r.length : Nat) : Int) ∧ prR (yP w y) r = w' 16 14 ∧ enR (yW w y) r = w' 16 13)) zNo 0 [zR 16, zR y, .null] [] (ZZ t dr tx) w
  refine zA_iconst dX6_make_0 ?_
  refine zA_istore_n (lo1 := [zR 16, zR y, zI 0]) dX6_make_1 (by decide) rfl rfl ?_
  have L2 : ∀ (z2 : Nat) (a : Int) (w1 : zW) (a0 : 0 ≤ a) (a1 : a ≤ w y 7) (hf : ∀ c x, c ≠ 17 → c ≠ 18 → w1 c x = w c x) (hb : ∀ b d : Int, 0 ≤ b → b < a → 0 ≤ d → d ≤ 30 → w1 17 (b * 31 + d) = fdF (yCan w y b) d ∧ luR (yCan w y b) d (w1 18 (b * 31 + d))) (zm : (w y 7 - a).toNat < z2), zA l mX6_make false 6 0 0 (fun v' S' w' => v' = some (zI (w' 16 14)) ∧ S' = (ZZ t dr tx) ∧ (∀ c x, c ≠ 16 → (c < 17 ∨ 26 < c ∨ c = 23) → w' c x = w c x) ∧ (w' 16 15 = 1 ∧ w' 16 16 = 0) ∧ (∃ R r, bz (yCan w y) (yW w y) (yP w y) (yT w y) (w y 7) R ∧ ct R [] = r ∧ rz (yCan w y) (yW w y) (yT w y) (w y 7) r ∧ arR (w' 25) (w' 26) r ∧ w' 16 12 = ((r.length : Nat) : Int) ∧ prR (yP w y) r = w' 16 14 ∧ enR (yW w y) r = w' 16 13)) zNo 2 [zR 16, zR y, zI a] [] (ZZ t dr tx) w1 := by
    intro z2
    induction z2 with
    | zero => intro a w1 a0 a1 hf hb zm; exact absurd zm (Nat.not_lt_zero _)
    | succ z2 ih2 =>
      intro a w1 a0 a1 hf hb zm
      refine zA_range (fun hr => ?_)
      obtain ⟨e1, e2, e3, e4, e5, e6⟩ := yd_c hy (w1 := w1) (w := w) (fun c x hc => hf c x (by omega) (by omega))
      refine zA_iload_n dX6_make_2 rfl ?_
      refine zA_aload_n dX6_make_3 rfl ?_
      refine zA_getI dX6_make_4 fX6_65 (cY0 hy) rfl ?_
      refine zA_valI (w1 y 7) rfl ?_
      refine zA_valI (w y 7) (e6 7) ?_
      refine zA_icmp_ge (tgt := 22) dX6_make_7 (by decide) (by first | assumption | exact hr _ _ | exact inR_mk (by omega) (by omega)) (by first | assumption | exact hr _ _ | exact inR_mk (by omega) (by omega)) (fun c7 => ?_) (fun c7 => ?_)
      · skip
        have hBg : bgO w1 y := by
          unfold bgO
          rw [e1, e6]
          exact fun b d q1 q2 q3 q4 => hb b d q1 (by omega) q3 q4
        refine zA_aload_n dX6_make_22 rfl ?_
        refine zA_aload_n dX6_make_23 rfl ?_
        refine zA_cV (st := []) dX6_make_24 vX6_fillEarly kX6_74 (s_fillEarly (w := w1) hy (e5 hY) hBg) (by decide) c16 rfl rfl (Nat.le_of_ble_eq_true rfl) rfl (fun q_1_v q_1_S q_1_w q_1 => ?_)
        obtain ⟨rfl, rfl, hga, hgb, hgc⟩ := q_1
        rw [e1, e2, e4, e6] at hgc
        have hf2 : ∀ c x, c ≠ 20 → c ≠ 17 → c ≠ 18 → q_1_w c x = w c x := fun c x g1 g2 g3 => (hga c x g1).trans (hf c x g2 g3)
        have hB2 := bgO_c hy (w1 := q_1_w) (w := w1) (fun c x hc hc2 => hga c x (by omega)) hBg
        clear e1 e2 e3 e4 e5 e6
        obtain ⟨e1, e2, e3, e4, e5, e6⟩ := yd_c hy (w1 := q_1_w) (w := w) (fun c x hc => hf2 c x (by omega) (by omega) (by omega))
        refine zA_range (fun hr => ?_)
        show zA l mX6_make false 6 0 0 (fun v' S' w' => v' = some (zI (w' 16 14)) ∧ S' = (ZZ t dr tx) ∧ (∀ c x, c ≠ 16 → (c < 17 ∨ 26 < c ∨ c = 23) → w' c x = w c x) ∧ (w' 16 15 = 1 ∧ w' 16 16 = 0) ∧ (∃ R r, bz (yCan w y) (yW w y) (yP w y) (yT w y) (w y 7) R ∧ ct R [] = r ∧ rz (yCan w y) (yW w y) (yT w y) (w y 7) r ∧ arR (w' 25) (w' 26) r ∧ w' 16 12 = ((r.length : Nat) : Int) ∧ prR (yP w y) r = w' 16 14 ∧ enR (yW w y) r = w' 16 13)) zNo 27 [zR 16, zR y, zI a] [] (ZZ t dr tx) q_1_w
        refine zA_aload_n dX6_make_27 rfl ?_
        refine zA_aload_n dX6_make_28 rfl ?_
        refine zA_cV (st := []) dX6_make_29 vX6_findBest kX6_78 (s_findBest (w := q_1_w) hy (e5 hY) hgb (by rw [e1, e2, e4, e6]; exact hgc)) (by decide) c16 rfl rfl (Nat.le_of_ble_eq_true rfl) rfl (fun q_2_v q_2_S q_2_w q_2 => ?_)
        obtain ⟨rfl, rfl, hha, hhb, hhc⟩ := q_2
        rw [e3, e6] at hhb
        rw [e1, e2, e3, e4, e6] at hhc
        have hf3 : ∀ c x, c ≠ 16 → (c < 17 ∨ 20 < c) → q_2_w c x = w c x := fun c x g1 g2 => (hha c x (by omega) (Or.inl g1)).trans (hf2 c x (by omega) (by omega) (by omega))
        have hB3 := bgO_c hy (w1 := q_2_w) (w := q_1_w) (fun c x hc hc2 => hha c x (by omega) (Or.inl hc2)) hB2
        clear e1 e2 e3 e4 e5 e6
        obtain ⟨e1, e2, e3, e4, e5, e6⟩ := yd_c hy (w1 := q_2_w) (w := w) (fun c x hc => hf3 c x (by omega) (by omega))
        have her : -1 ≤ q_2_w 16 13 ∧ q_2_w 16 13 ≤ 29 := by
          obtain ⟨s1, q1, q2, q3⟩ := hhc.2
          rw [← q3]; exact enR_b hG q1
        refine zA_range (fun hr => ?_)
        show zA l mX6_make false 6 0 0 (fun v' S' w' => v' = some (zI (w' 16 14)) ∧ S' = (ZZ t dr tx) ∧ (∀ c x, c ≠ 16 → (c < 17 ∨ 26 < c ∨ c = 23) → w' c x = w c x) ∧ (w' 16 15 = 1 ∧ w' 16 16 = 0) ∧ (∃ R r, bz (yCan w y) (yW w y) (yP w y) (yT w y) (w y 7) R ∧ ct R [] = r ∧ rz (yCan w y) (yW w y) (yT w y) (w y 7) r ∧ arR (w' 25) (w' 26) r ∧ w' 16 12 = ((r.length : Nat) : Int) ∧ prR (yP w y) r = w' 16 14 ∧ enR (yW w y) r = w' 16 13)) zNo 32 [zR 16, zR y, zI a] [] (ZZ t dr tx) q_2_w
        refine zA_aload_n dX6_make_32 rfl ?_
        refine zA_aload_n dX6_make_33 rfl ?_
        refine zA_cV (st := []) dX6_make_34 vX6_fillLate kX6_81 (s_fillLate (w := q_2_w) hy (e5 hY) hB3 (by rw [e3, e6]; exact hhb) her) (by decide) c16 rfl rfl (Nat.le_of_ble_eq_true rfl) rfl (fun q_3_v q_3_S q_3_w q_3 => ?_)
        obtain ⟨rfl, rfl, hia, hib⟩ := q_3
        rw [e1, e2, e3, e4, e6] at hib
        have hf4 : ∀ c x, c ≠ 16 → (c < 17 ∨ 21 < c) → q_3_w c x = w c x := fun c x g1 g2 => (hia c x (by omega)).trans (hf3 c x g1 (by omega))
        have hB4 := bgO_c hy (w1 := q_3_w) (w := q_2_w) (fun c x hc hc2 => hia c x (by omega)) hB3
        clear e1 e2 e3 e4 e5 e6
        obtain ⟨e1, e2, e3, e4, e5, e6⟩ := yd_c hy (w1 := q_3_w) (w := w) (fun c x hc => hf4 c x (by omega) (by omega))
        have g13 := hia 16 13 (by decide)
        have g14 := hia 16 14 (by decide)
        rw [← g13] at her
        rw [← g13, ← g14] at hhc hib
        have hhb2 : ∀ T : Int, 0 ≤ T → T < ((2 ^ (w y 7).toNat : Nat) : Int) → q_3_w 19 T = psS (yP w y) (w y 7) T := fun T a b => (hia 19 T (by decide)).trans (hhb T a b)
        refine zA_range (fun hr => ?_)
        show zA l mX6_make false 6 0 0 (fun v' S' w' => v' = some (zI (w' 16 14)) ∧ S' = (ZZ t dr tx) ∧ (∀ c x, c ≠ 16 → (c < 17 ∨ 26 < c ∨ c = 23) → w' c x = w c x) ∧ (w' 16 15 = 1 ∧ w' 16 16 = 0) ∧ (∃ R r, bz (yCan w y) (yW w y) (yP w y) (yT w y) (w y 7) R ∧ ct R [] = r ∧ rz (yCan w y) (yW w y) (yT w y) (w y 7) r ∧ arR (w' 25) (w' 26) r ∧ w' 16 12 = ((r.length : Nat) : Int) ∧ prR (yP w y) r = w' 16 14 ∧ enR (yW w y) r = w' 16 13)) zNo 37 [zR 16, zR y, zI a] [] (ZZ t dr tx) q_3_w
        refine zA_aload_n dX6_make_37 rfl ?_
        refine zA_aload_n dX6_make_38 rfl ?_
        refine zA_cV (st := []) dX6_make_39 vX6_fillRow kX6_84 (s_fillRow (w := q_3_w) hy (e5 hY) hB4 (by rw [e3, e6]; exact hhb2) her (by rw [e1, e2, e3, e4, e6]; exact hhc) (by rw [e1, e2, e3, e4, e6]; exact hib)) (by decide) c16 rfl rfl (Nat.le_of_ble_eq_true rfl) rfl (fun q_4_v q_4_S q_4_w q_4 => ?_)
        obtain ⟨rfl, rfl, hja, hjb⟩ := q_4
        rw [e1, e2, e3, e4, e6] at hjb
        rw [← hja 16 13 (by decide) (by decide) (Or.inr (by decide)), ← hja 16 14 (by decide) (by decide) (Or.inr (by decide))] at hjb
        refine zA_range (fun hr => ?_)
        show zA l mX6_make false 6 0 0 (fun v' S' w' => v' = some (zI (w' 16 14)) ∧ S' = (ZZ t dr tx) ∧ (∀ c x, c ≠ 16 → (c < 17 ∨ 26 < c ∨ c = 23) → w' c x = w c x) ∧ (w' 16 15 = 1 ∧ w' 16 16 = 0) ∧ (∃ R r, bz (yCan w y) (yW w y) (yP w y) (yT w y) (w y 7) R ∧ ct R [] = r ∧ rz (yCan w y) (yW w y) (yT w y) (w y 7) r ∧ arR (w' 25) (w' 26) r ∧ w' 16 12 = ((r.length : Nat) : Int) ∧ prR (yP w y) r = w' 16 14 ∧ enR (yW w y) r = w' 16 13)) zNo 42 [zR 16, zR y, zI a] [] (ZZ t dr tx) q_4_w
        refine zA_aload_n dX6_make_42 rfl ?_
        refine zA_iconst dX6_make_43 ?_
        refine zA_putI dX6_make_44 fX6_58 c16 rfl ⟨by decide, by decide⟩ ⟨by rfl, by rfl⟩ ?_
        refine zA_namew (fun w_5 hw_5 => ?_)
        refine zA_range (fun hr => ?_)
        replace hw_5 : w_5 = up q_4_w 16 15 1 := hw_5
        refine zA_aload_n dX6_make_47 rfl ?_
        refine zA_iconst dX6_make_48 ?_
        refine zA_putI dX6_make_49 fX6_62 c16 rfl ⟨by decide, by decide⟩ ⟨by rfl, by rfl⟩ ?_
        refine zA_namew (fun w_6 hw_6 => ?_)
        refine zA_range (fun hr => ?_)
        replace hw_6 : w_6 = up w_5 16 16 0 := hw_6
        refine zA_aload_n dX6_make_52 rfl ?_
        refine zA_getI dX6_make_53 fX6_55 c16 rfl ?_
        refine zA_valI (w_6 16 14) rfl ?_
        refine zA_iret dX6_make_56 rfl ?_
        refine ⟨rfl, rfl, fun c x g1 g2 => ?_, ⟨by rw [hw_6, up_idx _ _ _ _ (by decide), hw_5, up_same], by rw [hw_6, up_same]⟩, ?_⟩
        · rw [hw_6, up_cell _ _ _ _ g1, hw_5, up_cell _ _ _ _ g1]
          exact (hja c x (by omega) (by omega) (Or.inl g1)).trans (hf4 c x g1 (by omega))
        · obtain ⟨R, r, q1, q2, q3, q4, q5, q6, q7⟩ := hjb
          refine ⟨R, r, q1, q2, q3, ?_, ?_, ?_, ?_⟩
          · rw [hw_6, hw_5]; exact arR_c (fun i _ _ => ⟨by rw [up_cell _ _ _ _ (by decide), up_cell _ _ _ _ (by decide)], by rw [up_cell _ _ _ _ (by decide), up_cell _ _ _ _ (by decide)]⟩) q4
          · rw [hw_6, up_idx _ _ _ _ (by decide), hw_5, up_idx _ _ _ _ (by decide)]; exact q5
          · rw [hw_6, up_idx _ _ _ _ (by decide), hw_5, up_idx _ _ _ _ (by decide)]; exact q6
          · rw [hw_6, up_idx _ _ _ _ (by decide), hw_5, up_idx _ _ _ _ (by decide)]; exact q7
      · skip
        refine zA_aload_n dX6_make_10 rfl ?_
        refine zA_aload_n dX6_make_11 rfl ?_
        refine zA_iload_n dX6_make_12 rfl ?_
        refine zA_cV (st := []) dX6_make_13 vX6_fillBegins kX6_70 (s_fillBegins (w := w1) hy (e5 hY) (a := a) a0 (by rw [e6]; omega)) (by decide) c16 rfl rfl (Nat.le_of_ble_eq_true rfl) rfl (fun q_7_v q_7_S q_7_w q_7 => ?_)
        obtain ⟨rfl, rfl, hfa, hfb, hfc⟩ := q_7
        rw [e1] at hfb
        refine zA_range (fun hr => ?_)
        show zA l mX6_make false 6 0 0 (fun v' S' w' => v' = some (zI (w' 16 14)) ∧ S' = (ZZ t dr tx) ∧ (∀ c x, c ≠ 16 → (c < 17 ∨ 26 < c ∨ c = 23) → w' c x = w c x) ∧ (w' 16 15 = 1 ∧ w' 16 16 = 0) ∧ (∃ R r, bz (yCan w y) (yW w y) (yP w y) (yT w y) (w y 7) R ∧ ct R [] = r ∧ rz (yCan w y) (yW w y) (yT w y) (w y 7) r ∧ arR (w' 25) (w' 26) r ∧ w' 16 12 = ((r.length : Nat) : Int) ∧ prR (yP w y) r = w' 16 14 ∧ enR (yW w y) r = w' 16 13)) zNo 16 [zR 16, zR y, zI a] [] (ZZ t dr tx) q_7_w
        refine zA_iinc (lo1 := [zR 16, zR y, zI (a + 1)]) dX6_make_16 rfl (by decide) rfl rfl ?_
        refine zA_goto (tgt := 2) dX6_make_19 (by decide) ?_
        exact ih2 (a + 1) _ (by omega) (by omega) (fun c x g1 g2 => (hfa c x g1 g2).trans (hf c x g1 g2)) (fun b d q1 q2 q3 q4 => by
                by_cases e : b = a
                · rw [e]; exact hfb d q3 q4
                · rw [(hfc (b * 31 + d) (by omega)).1, (hfc (b * 31 + d) (by omega)).2]; exact hb b d q1 (by omega) q3 q4) (by omega)
  exact L2 _ 0 w (by omega) (by omega) (fun _ _ _ _ => rfl) (fun b d q1 q2 => by omega) (Nat.lt_succ_self _)

