/-! the plan of the class: earliest ends, the best, latest ends -/
theorem shl8 {x : Int} (x0 : 0 ≤ x) (x1 : x < 8) : 1 ≤ iShl 1 x ∧ iShl 1 x ≤ 128 := by
  have h : ∀ k : Nat, k < 8 → 1 ≤ iShl 1 (k : Int) ∧ iShl 1 (k : Int) ≤ 128 := by decide
  have := h x.toNat (by omega)
  rwa [zcast x0] at this
theorem eaI_1 {can : Int → Int → Prop} {wd pr : Int → Int} {tr : Int → Int → Int} {n : Int} (hG : okG can wd pr tr n) {ea : Int → Int} (hA : ∀ S l : Int, (0 ≤ S ∧ S < ((2 ^ n.toNat : Nat) : Int)) → (0 ≤ l ∧ l < n) → ea (S * 8 + l) ≠ 1000 → S = iShl 1 l ∧ ea (S * 8 + l) = eo can wd l 0) (hB : ∀ l : Int, 0 ≤ l → l < n → ea (iShl 1 l * 8 + l) = eo can wd l 0) : eaI can wd tr n (Vt 1 0 0) ea := by
  obtain ⟨⟨n0, n8⟩, -⟩ := id hG
  refine ⟨fun S l hS hl hne => ?_, fun x hx => ?_, fun r S x hr hr0 hx hS hv => ?_⟩
  · obtain ⟨h1, h2⟩ := hA S l hS hl hne
    have hst : stp can wd tr n [] (l, fdF (can l) (frr wd tr [] l)) := stp_eo hl (fun h => h) (by rw [h2] at hne; exact hne)
    refine ⟨[(l, fdF (can l) (frr wd tr [] l))], ⟨hst, trivial⟩, ?_, by simp, rfl, ?_⟩
    · have := st_s (x := (l, fdF (can l) (frr wd tr [] l))) n0 n8 (st_0 (n := n)) hl.1 hl.2
      rw [h1, ← or_0 hl.1 (by omega)]
      exact this
    · rw [h2]; exact eo_stp hst
  · rw [hB x.1 hx.1.1 hx.1.2, eo_stp hx]
    exact Int.le_refl _
  · exfalso
    have hh := hd_b r hr hr0
    unfold Vt at hv
    have hS0 : S = 0 := by
      have := hS.1.1
      have := hx.1.1
      omega
    rw [hS0] at hS
    cases r with
    | nil => exact hr0 rfl
    | cons z r =>
      have := (hS.2 z.1 hr.1.1.1 hr.1.1.2).mpr (Or.inl rfl)
      rw [tb_0] at this; cases this
set_option maxRecDepth 100000 in
set_option maxHeartbeats 4000000 in
theorem s_fillEarly {l : Launch} {t dr tx : Nat} {w : zW} {y : Nat} (hy : y = 4 ∨ y = 10) (hY : okYard w y) (hB : bgO w y) : zSp l mX6_fillEarly false 4 0 0 [zR 16, zR y] (ZZ t dr tx) w (fun v' S' w' => v' = none ∧ S' = (ZZ t dr tx) ∧ only 20 w w' ∧ eaB (w' 20) ∧ eaF (yCan w y) (yW w y) (yT w y) (w y 7) (w' 20)) zNo := by
  refine zA_intro ⟨plainFor_of_name (by decide +kernel), Or.inl (by decide +kernel)⟩ rfl (Nat.le_of_ble_eq_true rfl) ?_
  have hG := yG hY
  obtain ⟨⟨u1, u2⟩, -, ⟨u3, u4⟩, -, -, -, -, hle, -⟩ := id hY
  have hpn := pow8 u3 u4
  refine zA_range (fun hr => ?_)
  show zA l mX6_fillEarly false 4 0 0 (fun v' S' w' => v' = none ∧ S' = (ZZ t dr tx) ∧ only 20 w w' ∧ eaB (w' 20) ∧ eaF (yCan w y) (yW w y) (yT w y) (w y 7) (w' 20)) zNo 0 [zR 16, zR y, .null, .null] [] (ZZ t dr tx) w
  refine zA_aload_n dX6_fillEarly_0 rfl ?_
  refine zA_getR (n := 20) dX6_fillEarly_1 fX6_21 c16 rfl ?_
  refine zA_sipush dX6_fillEarly_4 rfl ?_
  refine zA_cS (st := []) dX6_fillEarly_7 sJ7_fill_53178 kX6_94 (s_fill (w := w) (q := 20) (z := 2048) (v := 1000) c20 (by decide) ⟨by decide, by decide⟩) (by decide) rfl rfl (Nat.le_of_ble_eq_true rfl) (fun q_1_v q_1_S q_1_w q_1 => ?_)
  obtain ⟨rfl, rfl, hfa, hfb⟩ := q_1
  refine zA_range (fun hr => ?_)
  show zA l mX6_fillEarly false 4 0 0 (fun v' S' w' => v' = none ∧ S' = (ZZ t dr tx) ∧ only 20 w w' ∧ eaB (w' 20) ∧ eaF (yCan w y) (yW w y) (yT w y) (w y 7) (w' 20)) zNo 10 [zR 16, zR y, .null, .null] [] (ZZ t dr tx) q_1_w
  refine zA_iconst dX6_fillEarly_10 ?_
  refine zA_istore_n (lo1 := [zR 16, zR y, zI 0, .null]) dX6_fillEarly_11 (by decide) rfl rfl ?_
  have L12 : ∀ (z12 : Nat) (x : Int) (w1 : zW) (x0 : 0 ≤ x) (x1 : x ≤ w y 7) (hf : only 20 w w1) (hb1 : eaB (w1 20)) (hA : ∀ S l : Int, (0 ≤ S ∧ S < ((2 ^ (w y 7).toNat : Nat) : Int)) → (0 ≤ l ∧ l < w y 7) → w1 20 (S * 8 + l) ≠ 1000 → S = iShl 1 l ∧ w1 20 (S * 8 + l) = eo (yCan w y) (yW w y) l 0) (hS : ∀ l : Int, 0 ≤ l → l < x → w1 20 (iShl 1 l * 8 + l) = eo (yCan w y) (yW w y) l 0) (zm : (w y 7 - x).toNat < z12), zA l mX6_fillEarly false 4 0 0 (fun v' S' w' => v' = none ∧ S' = (ZZ t dr tx) ∧ only 20 w w' ∧ eaB (w' 20) ∧ eaF (yCan w y) (yW w y) (yT w y) (w y 7) (w' 20)) zNo 12 [zR 16, zR y, zI x, .null] [] (ZZ t dr tx) w1 := by
    intro z12
    induction z12 with
    | zero => intro x w1 x0 x1 hf hb1 hA hS zm; exact absurd zm (Nat.not_lt_zero _)
    | succ z12 ih12 =>
      intro x w1 x0 x1 hf hb1 hA hS zm
      refine zA_range (fun hr => ?_)
      obtain ⟨e1, e2, e3, e4, e5, e6⟩ := yd_c hy (w1 := w1) (w := w) (fun c x hc => hf c x (by omega))
      refine zA_iload_n dX6_fillEarly_12 rfl ?_
      refine zA_aload_n dX6_fillEarly_13 rfl ?_
      refine zA_getI dX6_fillEarly_14 fX6_65 (cY0 hy) rfl ?_
      refine zA_valI (w1 y 7) rfl ?_
      refine zA_valI (w y 7) (e6 7) ?_
      refine zA_icmp_ge (tgt := 46) dX6_fillEarly_17 (by decide) (by first | assumption | exact hr _ _ | exact inR_mk (by omega) (by omega)) (by first | assumption | exact hr _ _ | exact inR_mk (by omega) (by omega)) (fun c17 => ?_) (fun c17 => ?_)
      · skip
        refine zA_iconst dX6_fillEarly_46 ?_
        refine zA_istore_n (lo1 := [zR 16, zR y, zI 1, .null]) dX6_fillEarly_47 (by decide) rfl rfl ?_
        have L48 : ∀ (z48 : Nat) (S : Int) (w1 : zW) (s0 : 1 ≤ S) (s1 : S ≤ ((2 ^ (w y 7).toNat : Nat) : Int)) (hf : only 20 w w1) (hb1 : eaB (w1 20)) (hE : eaI (yCan w y) (yW w y) (yT w y) (w y 7) (Vt S 0 0) (w1 20)) (zm : (((2 ^ (w y 7).toNat : Nat) : Int) - S).toNat < z48), zA l mX6_fillEarly false 4 0 0 (fun v' S' w' => v' = none ∧ S' = (ZZ t dr tx) ∧ only 20 w w' ∧ eaB (w' 20) ∧ eaF (yCan w y) (yW w y) (yT w y) (w y 7) (w' 20)) zNo 48 [zR 16, zR y, zI S, .null] [] (ZZ t dr tx) w1 := by
          intro z48
          induction z48 with
          | zero => intro S w1 s0 s1 hf hb1 hE zm; exact absurd zm (Nat.not_lt_zero _)
          | succ z48 ih48 =>
            intro S w1 s0 s1 hf hb1 hE zm
            refine zA_range (fun hr => ?_)
            obtain ⟨e1, e2, e3, e4, e5, e6⟩ := yd_c hy (w1 := w1) (w := w) (fun c x hc => hf c x (by omega))
            refine zA_iload_n dX6_fillEarly_48 rfl ?_
            refine zA_iconst dX6_fillEarly_49 ?_
            refine zA_aload_n dX6_fillEarly_50 rfl ?_
            refine zA_getI dX6_fillEarly_51 fX6_65 (cY0 hy) rfl ?_
            refine zA_valI (w1 y 7) rfl ?_
            refine zA_ishl dX6_fillEarly_54 ?_
            refine zA_valI ((2 ^ (w y 7).toNat : Nat) : Int) (by rw [e6, iShl_1 (by omega) (by omega)]) ?_
            refine zA_icmp_ge (tgt := 104) dX6_fillEarly_55 (by decide) (by first | assumption | exact hr _ _ | exact inR_mk (by omega) (by omega)) (by first | assumption | exact hr _ _ | exact inR_mk (by omega) (by omega)) (fun c55 => ?_) (fun c55 => ?_)
            · skip
              refine zA_vret dX6_fillEarly_104 rfl ?_
              have hSn : S = ((2 ^ (w y 7).toNat : Nat) : Int) := by omega
              exact ⟨rfl, rfl, hf, hb1, eaI_F hG ⟨hE.1, hE.2.1, fun r S1 x1 h1 h2 h3 h4 _ => hE.2.2 r S1 x1 h1 h2 h3 h4 (Or.inl (by have := h4.1.2; omega))⟩⟩
            · skip
              refine zA_iconst dX6_fillEarly_58 ?_
              refine zA_istore_n (lo1 := [zR 16, zR y, zI S, zI 0]) dX6_fillEarly_59 (by decide) rfl rfl ?_
              have L60 : ∀ (z60 : Nat) (q : Int) (w1 : zW) (q0 : 0 ≤ q) (q1 : q ≤ w y 7) (hf : only 20 w w1) (hb1 : eaB (w1 20)) (hE2 : eaI (yCan w y) (yW w y) (yT w y) (w y 7) (Vt S q 0) (w1 20)) (zm : (w y 7 - q).toNat < z60), zA l mX6_fillEarly false 4 0 0 (fun v' S' w' => v' = none ∧ S' = (ZZ t dr tx) ∧ only 20 w w' ∧ eaB (w' 20) ∧ eaF (yCan w y) (yW w y) (yT w y) (w y 7) (w' 20)) zNo 60 [zR 16, zR y, zI S, zI q] [] (ZZ t dr tx) w1 := by
                intro z60
                induction z60 with
                | zero => intro q w1 q0 q1 hf hb1 hE2 zm; exact absurd zm (Nat.not_lt_zero _)
                | succ z60 ih60 =>
                  intro q w1 q0 q1 hf hb1 hE2 zm
                  refine zA_range (fun hr => ?_)
                  obtain ⟨e1, e2, e3, e4, e5, e6⟩ := yd_c hy (w1 := w1) (w := w) (fun c x hc => hf c x (by omega))
                  refine zA_iload_n dX6_fillEarly_60 rfl ?_
                  refine zA_aload_n dX6_fillEarly_61 rfl ?_
                  refine zA_getI dX6_fillEarly_62 fX6_65 (cY0 hy) rfl ?_
                  refine zA_valI (w1 y 7) rfl ?_
                  refine zA_valI (w y 7) (e6 7) ?_
                  refine zA_icmp_ge (tgt := 98) dX6_fillEarly_65 (by decide) (by first | assumption | exact hr _ _ | exact inR_mk (by omega) (by omega)) (by first | assumption | exact hr _ _ | exact inR_mk (by omega) (by omega)) (fun c65 => ?_) (fun c65 => ?_)
                  · skip
                    refine zA_iinc (lo1 := [zR 16, zR y, zI (S + 1), zI q]) dX6_fillEarly_98 rfl (by decide) rfl rfl ?_
                    refine zA_goto (tgt := 48) dX6_fillEarly_101 (by decide) ?_
                    refine zA_drop 3 (lo1 := [zR 16, zR y, zI (S + 1), .null]) rfl ?_
                    exact ih48 (S + 1) w1 (by omega) (by omega) hf hb1 (eaI_V hE2 (fun S1 l1 y1 h1 h2 h3 h4 => by unfold Vt at h4 ⊢; omega) hd_b) (by omega)
                  · skip
                    refine zA_aload_n dX6_fillEarly_68 rfl ?_
                    refine zA_getR (n := 20) dX6_fillEarly_69 fX6_21 c16 rfl ?_
                    refine zA_iload_n dX6_fillEarly_72 rfl ?_
                    refine zA_bipush dX6_fillEarly_73 rfl ?_
                    refine zA_imul dX6_fillEarly_75 ?_
                    refine zA_iload_n dX6_fillEarly_76 rfl ?_
                    refine zA_iadd dX6_fillEarly_77 ?_
                    refine zA_iaload dX6_fillEarly_78 c20 (by first | assumption | omega) (by first | assumption | omega) (by decide) ?_
                    refine zA_sipush dX6_fillEarly_79 rfl ?_
                    refine zA_icmp_eq (tgt := 92) dX6_fillEarly_82 (by decide) (by first | assumption | exact hr _ _ | exact inR_mk (by omega) (by omega)) ⟨by decide, by decide⟩ (fun c82 => ?_) (fun c82 => ?_)
                    · skip
                      refine zA_iinc (lo1 := [zR 16, zR y, zI S, zI (q + 1)]) dX6_fillEarly_92 rfl (by decide) rfl rfl ?_
                      refine zA_goto (tgt := 60) dX6_fillEarly_95 (by decide) ?_
                      exact ih60 (q + 1) w1 (by omega) (by omega) hf hb1 (eaI_V (eaI_n (V' := fun S1 l1 y1 => Vt S q 0 S1 l1 y1 ∨ (S1 = S ∧ l1 = q)) hG hE2 (by assumption) (fun _ _ _ h => h) (fun S1 l1 y1 h1 h2 h3 h4 => by unfold Vt; omega)) (fun S1 l1 y1 h1 h2 h3 h4 => by unfold Vt at h4 ⊢; omega) hd_b) (by omega)
                    · skip
                      refine zA_aload_n dX6_fillEarly_85 rfl ?_
                      refine zA_aload_n dX6_fillEarly_86 rfl ?_
                      refine zA_iload_n dX6_fillEarly_87 rfl ?_
                      refine zA_iload_n dX6_fillEarly_88 rfl ?_
                      refine zA_cV (st := []) dX6_fillEarly_89 vX6_goOn kX6_104 (s_goOn (w := w1) hy (e5 hY) (bgO_c hy (fun c x hc hc2 => hf c x (by omega)) hB) (S := S) (q := q) (by omega) (by rw [e6]; omega) q0 (by rw [e6]; omega) hb1 (by assumption) (by rw [e1, e2, e4, e6]; exact hE2)) (by decide) c16 rfl rfl (Nat.le_of_ble_eq_true rfl) rfl (fun q_2_v q_2_S q_2_w q_2 => ?_)
                      obtain ⟨rfl, rfl, hga, hgb, hgE⟩ := q_2
                      rw [e1, e2, e4, e6] at hgE
                      refine zA_range (fun hr => ?_)
                      show zA l mX6_fillEarly false 4 0 0 (fun v' S' w' => v' = none ∧ S' = (ZZ t dr tx) ∧ only 20 w w' ∧ eaB (w' 20) ∧ eaF (yCan w y) (yW w y) (yT w y) (w y 7) (w' 20)) zNo 92 [zR 16, zR y, zI S, zI q] [] (ZZ t dr tx) q_2_w
                      refine zA_iinc (lo1 := [zR 16, zR y, zI S, zI (q + 1)]) dX6_fillEarly_92 rfl (by decide) rfl rfl ?_
                      refine zA_goto (tgt := 60) dX6_fillEarly_95 (by decide) ?_
                      exact ih60 (q + 1) _ (by omega) (by omega) (only_tr hf hga) hgb hgE (by omega)
              exact L60 _ 0 w1 (by omega) (by omega) hf hb1 hE (Nat.lt_succ_self _)
        exact L48 _ 1 w1 (by omega) (by omega) hf hb1 (eaI_1 hG hA (fun l a b => hS l a (by omega))) (Nat.lt_succ_self _)
      · skip
        have hsx := shl8 x0 (show x < 8 by omega)
        have heb := eo_b hG (l := x) (day := 0) x0 (by omega)
        refine zA_aload_n dX6_fillEarly_20 rfl ?_
        refine zA_getR (n := 20) dX6_fillEarly_21 fX6_21 c16 rfl ?_
        refine zA_iconst dX6_fillEarly_24 ?_
        refine zA_iload_n dX6_fillEarly_25 rfl ?_
        refine zA_ishl dX6_fillEarly_26 ?_
        refine zA_bipush dX6_fillEarly_27 rfl ?_
        refine zA_imul dX6_fillEarly_29 ?_
        refine zA_iload_n dX6_fillEarly_30 rfl ?_
        refine zA_iadd dX6_fillEarly_31 ?_
        refine zA_aload_n dX6_fillEarly_32 rfl ?_
        refine zA_aload_n dX6_fillEarly_33 rfl ?_
        refine zA_iload_n dX6_fillEarly_34 rfl ?_
        refine zA_iconst dX6_fillEarly_35 ?_
        refine zA_cV (st := [zI (((iShl 1 x) * 8) + x), zR 20]) dX6_fillEarly_36 vX6_endOf kX6_100 (s_endOf (w := w1) hy (e5 hY) (bgO_c hy (fun c x hc hc2 => hf c x (by omega)) hB) (a := x) (d := 0) x0 (by rw [e6]; omega) (by decide) ⟨by decide, by decide⟩) (by decide) c16 rfl rfl (Nat.le_of_ble_eq_true rfl) rfl (zRt_el ?_)
        show zA l mX6_fillEarly false 4 0 0 (fun v' S' w' => v' = none ∧ S' = (ZZ t dr tx) ∧ only 20 w w' ∧ eaB (w' 20) ∧ eaF (yCan w y) (yW w y) (yT w y) (w y 7) (w' 20)) zNo 39 [zR 16, zR y, zI x, .null] [zI (eo (yCan w1 y) (yW w1 y) x 0), zI (((iShl 1 x) * 8) + x), zR 20] (ZZ t dr tx) w1
        refine zA_valI (eo (yCan w y) (yW w y) x 0) (by rw [e1, e2]) ?_
        refine zA_iastore dX6_fillEarly_39 (by first | assumption | exact hr _ _ | exact inR_mk (by omega) (by omega)) c20 (by first | assumption | omega) (by first | assumption | omega) (by decide) ?_
        refine zA_namew (fun w_3 hw_3 => ?_)
        refine zA_range (fun hr => ?_)
        replace hw_3 : w_3 = up w1 20 (((iShl 1 x) * 8) + x) (eo (yCan w y) (yW w y) x 0) := hw_3
        refine zA_iinc (lo1 := [zR 16, zR y, zI (x + 1), .null]) dX6_fillEarly_40 rfl (by decide) rfl rfl ?_
        refine zA_goto (tgt := 12) dX6_fillEarly_43 (by decide) ?_
        exact ih12 (x + 1) _ (by omega) (by omega) (by rw [hw_3]; exact only_up hf) (fun i i0 i1 => by
                  rw [hw_3]
                  by_cases e : i = iShl 1 x * 8 + x
                  · rw [e, up_same]; exact heb
                  · rw [up_idx _ _ _ _ e]; exact hb1 i i0 i1) (fun S l hS hl h => by
                  rw [hw_3] at h ⊢
                  by_cases e : S * 8 + l = iShl 1 x * 8 + x
                  · rw [e, up_same]; rw [show l = x by omega]; exact ⟨by omega, rfl⟩
                  · rw [up_idx _ _ _ _ e] at h ⊢; exact hA S l hS hl h) (fun l a b => by
                  rw [hw_3]
                  by_cases e : l = x
                  · rw [e, up_same]
                  · rw [up_idx _ _ _ _ (by have := shl8 a (show l < 8 by omega); omega)]; exact hS l a (by omega)) (by omega)
  exact L12 _ 0 q_1_w (by omega) (by omega) hfa (fun i i0 i1 => Or.inl (hfb i i0 i1)) (fun S l hS hl h => absurd (hfb _ (by omega) (by omega)) h) (fun l a b => by omega) (Nat.lt_succ_self _)

set_option maxRecDepth 100000 in
set_option maxHeartbeats 4000000 in
theorem s_findBest {l : Launch} {t dr tx : Nat} {w : zW} {y : Nat} (hy : y = 4 ∨ y = 10) (hY : okYard w y) (hb : eaB (w 20)) (hE : eaF (yCan w y) (yW w y) (yT w y) (w y 7) (w 20)) : zSp l mX6_findBest false 2 0 0 [zR 16, zR y] (ZZ t dr tx) w (fun v' S' w' => v' = none ∧ S' = (ZZ t dr tx) ∧ (∀ c x, c ≠ 19 → (c ≠ 16 ∨ (x ≠ 13 ∧ x ≠ 14)) → w' c x = w c x) ∧ (∀ T : Int, 0 ≤ T → T < ((2 ^ (w y 7).toNat : Nat) : Int) → w' 19 T = psS (yP w y) (w y 7) T) ∧ fbO (yCan w y) (yW w y) (yP w y) (yT w y) (w y 7) (w' 16 14) (w' 16 13)) zNo := by
  refine zA_intro ⟨plainFor_of_name (by decide +kernel), Or.inl (by decide +kernel)⟩ rfl (Nat.le_of_ble_eq_true rfl) ?_
  have hG := yG hY
  obtain ⟨⟨u1, u2⟩, -, ⟨u3, u4⟩, -, -, -, -, hle, -⟩ := id hY
  have hpn := pow8 u3 u4
  refine zA_range (fun hr => ?_)
  show zA l mX6_findBest false 2 0 0 (fun v' S' w' => v' = none ∧ S' = (ZZ t dr tx) ∧ (∀ c x, c ≠ 19 → (c ≠ 16 ∨ (x ≠ 13 ∧ x ≠ 14)) → w' c x = w c x) ∧ (∀ T : Int, 0 ≤ T → T < ((2 ^ (w y 7).toNat : Nat) : Int) → w' 19 T = psS (yP w y) (w y 7) T) ∧ fbO (yCan w y) (yW w y) (yP w y) (yT w y) (w y 7) (w' 16 14) (w' 16 13)) zNo 0 [zR 16, zR y, .null, .null, .null] [] (ZZ t dr tx) w
  refine zA_aload_n dX6_findBest_0 rfl ?_
  refine zA_iconst dX6_findBest_1 ?_
  refine zA_putI dX6_findBest_2 fX6_55 c16 rfl ⟨by decide, by decide⟩ ⟨rfl, rfl⟩ ?_
  refine zA_namew (fun w_1 hw_1 => ?_)
  refine zA_range (fun hr => ?_)
  replace hw_1 : w_1 = up w 16 14 0 := hw_1
  refine zA_aload_n dX6_findBest_5 rfl ?_
  refine zA_iconst dX6_findBest_6 ?_
  refine zA_putI dX6_findBest_7 fX6_52 c16 rfl ⟨by decide, by decide⟩ ⟨rfl, rfl⟩ ?_
  refine zA_namew (fun w_2 hw_2 => ?_)
  refine zA_range (fun hr => ?_)
  replace hw_2 : w_2 = up w_1 16 13 (-1) := hw_2
  refine zA_aload_n dX6_findBest_10 rfl ?_
  refine zA_getR (n := 19) dX6_findBest_11 fX6_18 c16 rfl ?_
  refine zA_iconst dX6_findBest_14 ?_
  refine zA_iconst dX6_findBest_15 ?_
  refine zA_iastore dX6_findBest_16 ⟨by decide, by decide⟩ c19 (by first | assumption | omega) (by first | assumption | omega) (by decide) ?_
  refine zA_namew (fun w_3 hw_3 => ?_)
  refine zA_range (fun hr => ?_)
  replace hw_3 : w_3 = up w_2 19 0 0 := hw_3
  refine zA_iconst dX6_findBest_17 ?_
  refine zA_istore_n (lo1 := [zR 16, zR y, zI 1, .null, .null]) dX6_findBest_18 (by decide) rfl rfl ?_
  have L19 : ∀ (z19 : Nat) (S : Int) (w1 : zW) (s0 : 1 ≤ S) (s1 : S ≤ ((2 ^ (w y 7).toNat : Nat) : Int)) (hf : (∀ c x, c ≠ 19 → (c ≠ 16 ∨ (x ≠ 13 ∧ x ≠ 14)) → w1 c x = w c x)) (hp : ∀ T : Int, 0 ≤ T → T < S → w1 19 T = psS (yP w y) (w y 7) T) (hF : fbI (yCan w y) (yW w y) (yP w y) (yT w y) (w y 7) S (w1 16 14) (w1 16 13)) (zm : (((2 ^ (w y 7).toNat : Nat) : Int) - S).toNat < z19), zA l mX6_findBest false 2 0 0 (fun v' S' w' => v' = none ∧ S' = (ZZ t dr tx) ∧ (∀ c x, c ≠ 19 → (c ≠ 16 ∨ (x ≠ 13 ∧ x ≠ 14)) → w' c x = w c x) ∧ (∀ T : Int, 0 ≤ T → T < ((2 ^ (w y 7).toNat : Nat) : Int) → w' 19 T = psS (yP w y) (w y 7) T) ∧ fbO (yCan w y) (yW w y) (yP w y) (yT w y) (w y 7) (w' 16 14) (w' 16 13)) zNo 19 [zR 16, zR y, zI S, .null, .null] [] (ZZ t dr tx) w1 := by
    intro z19
    induction z19 with
    | zero => intro S w1 s0 s1 hf hp hF zm; exact absurd zm (Nat.not_lt_zero _)
    | succ z19 ih19 =>
      intro S w1 s0 s1 hf hp hF zm
      refine zA_range (fun hr => ?_)
      obtain ⟨e1, e2, e3, e4, e5, e6⟩ := yd_c hy (w1 := w1) (w := w) (fun c x hc => hf c x (by omega) (by omega))
      refine zA_iload_n dX6_findBest_19 rfl ?_
      refine zA_iconst dX6_findBest_20 ?_
      refine zA_aload_n dX6_findBest_21 rfl ?_
      refine zA_getI dX6_findBest_22 fX6_65 (cY0 hy) rfl ?_
      refine zA_valI (w1 y 7) rfl ?_
      refine zA_ishl dX6_findBest_25 ?_
      refine zA_valI ((2 ^ (w y 7).toNat : Nat) : Int) (by rw [e6, iShl_1 (by omega) (by omega)]) ?_
      refine zA_icmp_ge (tgt := 162) dX6_findBest_26 (by decide) (by first | assumption | exact hr _ _ | exact inR_mk (by omega) (by omega)) (by first | assumption | exact hr _ _ | exact inR_mk (by omega) (by omega)) (fun c26 => ?_) (fun c26 => ?_)
      · skip
        refine zA_vret dX6_findBest_162 rfl ?_
        have hSn : S = ((2 ^ (w y 7).toNat : Nat) : Int) := by omega
        rw [hSn] at hF hp
        exact ⟨rfl, rfl, hf, hp, fbI_O hG hF⟩
      · skip
        refine zA_aload_n dX6_findBest_29 rfl ?_
        refine zA_getR (n := 19) dX6_findBest_30 fX6_18 c16 rfl ?_
        refine zA_iload_n dX6_findBest_33 rfl ?_
        refine zA_iconst dX6_findBest_34 ?_
        refine zA_iastore dX6_findBest_35 ⟨by decide, by decide⟩ c19 (by first | assumption | omega) (by first | assumption | omega) (by decide) ?_
        refine zA_namew (fun w_4 hw_4 => ?_)
        refine zA_range (fun hr => ?_)
        replace hw_4 : w_4 = up w1 19 S 0 := hw_4
        refine zA_sipush dX6_findBest_36 rfl ?_
        refine zA_istore_n (lo1 := [zR 16, zR y, zI S, zI 1000, .null]) dX6_findBest_39 (by decide) rfl rfl ?_
        refine zA_iconst dX6_findBest_40 ?_
        refine zA_istore (lo1 := [zR 16, zR y, zI S, zI 1000, zI 0]) dX6_findBest_41 (by decide) rfl rfl ?_
        have L43 : ∀ (z43 : Nat) (e g : Int) (w2 : zW) (l0 : 0 ≤ g) (l1 : g ≤ w y 7) (er : 0 ≤ e ∧ e ≤ 1000) (hf : (∀ c x, c ≠ 19 → (c ≠ 16 ∨ (x ≠ 13 ∧ x ≠ 14)) → w2 c x = w c x)) (hp : ∀ T : Int, 0 ≤ T → T < S → w2 19 T = psS (yP w y) (w y 7) T) (hF : fbI (yCan w y) (yW w y) (yP w y) (yT w y) (w y 7) S (w2 16 14) (w2 16 13)) (hpS : w2 19 S = zsum g.toNat (fun k => if tb S k = true then yP w y k else 0)) (h1 : ∀ j : Int, 0 ≤ j → j < g → tb S j = true → e ≤ w 20 (S * 8 + j)) (h2 : e = 1000 ∨ ∃ j : Int, (0 ≤ j ∧ j < w y 7) ∧ e = w 20 (S * 8 + j)) (zm : (w y 7 - g).toNat < z43), zA l mX6_findBest false 2 0 0 (fun v' S' w' => v' = none ∧ S' = (ZZ t dr tx) ∧ (∀ c x, c ≠ 19 → (c ≠ 16 ∨ (x ≠ 13 ∧ x ≠ 14)) → w' c x = w c x) ∧ (∀ T : Int, 0 ≤ T → T < ((2 ^ (w y 7).toNat : Nat) : Int) → w' 19 T = psS (yP w y) (w y 7) T) ∧ fbO (yCan w y) (yW w y) (yP w y) (yT w y) (w y 7) (w' 16 14) (w' 16 13)) zNo 43 [zR 16, zR y, zI S, zI e, zI g] [] (ZZ t dr tx) w2 := by
          intro z43
          induction z43 with
          | zero => intro e g w2 l0 l1 er hf hp hF hpS h1 h2 zm; exact absurd zm (Nat.not_lt_zero _)
          | succ z43 ih43 =>
            intro e g w2 l0 l1 er hf hp hF hpS h1 h2 zm
            refine zA_range (fun hr => ?_)
            obtain ⟨e1, e2, e3, e4, e5, e6⟩ := yd_c hy (w1 := w2) (w := w) (fun c x hc => hf c x (by omega) (by omega))
            refine zA_iload dX6_findBest_43 rfl ?_
            refine zA_aload_n dX6_findBest_45 rfl ?_
            refine zA_getI dX6_findBest_46 fX6_65 (cY0 hy) rfl ?_
            refine zA_valI (w2 y 7) rfl ?_
            refine zA_valI (w y 7) (e6 7) ?_
            refine zA_icmp_ge (tgt := 100) dX6_findBest_49 (by decide) (by first | assumption | exact hr _ _ | exact inR_mk (by omega) (by omega)) (by first | assumption | exact hr _ _ | exact inR_mk (by omega) (by omega)) (fun c49 => ?_) (fun c49 => ?_)
            · skip
              have hps : w2 19 S = (psS (yP w y) (w y 7) S) := by rw [hpS, show g = w y 7 by omega]; rfl
              have hfs := fbI_s hG hF hE (by omega) (by omega) s0 (fun j a b h => h1 j a (by omega) h) h2
              clear h2
              have hpb : 0 ≤ (psS (yP w y) (w y 7) S) ∧ (psS (yP w y) (w y 7) S) ≤ 80000 := by
                have hzb := zsum_b (f := fun k : Nat => if tb S k = true then yP w y k else 0) (B := 9999) (w y 7).toNat (fun k hk => by
                  have := (hG.2 k (by omega) (by omega)).2.1
                  split <;> omega)
                unfold psS
                omega
              refine zA_iload_n dX6_findBest_100 rfl ?_
              refine zA_sipush dX6_findBest_101 rfl ?_
              refine zA_icmp_eq (tgt := 156) dX6_findBest_104 (by decide) (by first | assumption | exact hr _ _ | exact inR_mk (by omega) (by omega)) ⟨by decide, by decide⟩ (fun c104 => ?_) (fun c104 => ?_)
              · skip
                refine zA_iinc (lo1 := [zR 16, zR y, zI (S + 1), zI e, zI g]) dX6_findBest_156 rfl (by decide) rfl rfl ?_
                refine zA_goto (tgt := 19) dX6_findBest_159 (by decide) ?_
                refine zA_drop 3 (lo1 := [zR 16, zR y, zI (S + 1), .null, zI g]) rfl ?_
                refine zA_drop 4 (lo1 := [zR 16, zR y, zI (S + 1), .null, .null]) rfl ?_
                exact ih19 (S + 1) w2 (by omega) (by omega) hf (fun T t0 t1 => by
                        by_cases e : T = S
                        · rw [e]; exact hps
                        · exact hp T t0 (by omega)) (hfs.2 (by omega)) (by omega)
              · skip
                refine zA_aload_n dX6_findBest_107 rfl ?_
                refine zA_getR (n := 19) dX6_findBest_108 fX6_18 c16 rfl ?_
                refine zA_iload_n dX6_findBest_111 rfl ?_
                refine zA_iaload dX6_findBest_112 c19 (by first | assumption | omega) (by first | assumption | omega) (by decide) ?_
                refine zA_valI (psS (yP w y) (w y 7) S) (hps) ?_
                refine zA_aload_n dX6_findBest_113 rfl ?_
                refine zA_getI dX6_findBest_114 fX6_55 c16 rfl ?_
                refine zA_valI (w2 16 14) rfl ?_
                refine zA_icmp_gt (tgt := 141) dX6_findBest_117 (by decide) (by first | assumption | exact hr _ _ | exact inR_mk (by omega) (by omega)) (by first | assumption | exact hr _ _ | exact inR_mk (by omega) (by omega)) (fun c117 => ?_) (fun c117 => ?_)
                · skip
                  refine zA_aload_n dX6_findBest_141 rfl ?_
                  refine zA_aload_n dX6_findBest_142 rfl ?_
                  refine zA_getR (n := 19) dX6_findBest_143 fX6_18 c16 rfl ?_
                  refine zA_iload_n dX6_findBest_146 rfl ?_
                  refine zA_iaload dX6_findBest_147 c19 (by first | assumption | omega) (by first | assumption | omega) (by decide) ?_
                  refine zA_valI (psS (yP w y) (w y 7) S) (hps) ?_
                  refine zA_putI dX6_findBest_148 fX6_55 c16 rfl (by first | assumption | exact hr _ _ | exact inR_mk (by omega) (by omega)) ⟨rfl, rfl⟩ ?_
                  refine zA_namew (fun w_5 hw_5 => ?_)
                  refine zA_range (fun hr => ?_)
                  replace hw_5 : w_5 = up w2 16 14 (psS (yP w y) (w y 7) S) := hw_5
                  refine zA_aload_n dX6_findBest_151 rfl ?_
                  refine zA_iload_n dX6_findBest_152 rfl ?_
                  refine zA_putI dX6_findBest_153 fX6_52 c16 rfl (by first | assumption | exact hr _ _ | exact inR_mk (by omega) (by omega)) ⟨rfl, rfl⟩ ?_
                  refine zA_namew (fun w_6 hw_6 => ?_)
                  refine zA_range (fun hr => ?_)
                  replace hw_6 : w_6 = up w_5 16 13 e := hw_6
                  refine zA_iinc (lo1 := [zR 16, zR y, zI (S + 1), zI e, zI g]) dX6_findBest_156 rfl (by decide) rfl rfl ?_
                  refine zA_goto (tgt := 19) dX6_findBest_159 (by decide) ?_
                  refine zA_drop 3 (lo1 := [zR 16, zR y, zI (S + 1), .null, zI g]) rfl ?_
                  refine zA_drop 4 (lo1 := [zR 16, zR y, zI (S + 1), .null, .null]) rfl ?_
                  exact ih19 (S + 1) _ (by omega) (by omega) (fun c x a b => by rw [hw_6, up_n (by omega), hw_5, up_n (by omega)]; exact hf c x a b) (fun T t0 t1 => by
                          rw [hw_6, up_cell _ _ _ _ (by decide), hw_5, up_cell _ _ _ _ (by decide)]
                          by_cases e : T = S
                          · rw [e]; exact hps
                          · exact hp T t0 (by omega)) (by
                          rw [show w_6 16 14 = (psS (yP w y) (w y 7) S) by rw [hw_6, up_idx _ _ _ _ (by decide), hw_5, up_same], show w_6 16 13 = e by rw [hw_6, up_same]]
                          exact hfs.1 (by omega)) (by omega)
                · skip
                  refine zA_aload_n dX6_findBest_120 rfl ?_
                  refine zA_getR (n := 19) dX6_findBest_121 fX6_18 c16 rfl ?_
                  refine zA_iload_n dX6_findBest_124 rfl ?_
                  refine zA_iaload dX6_findBest_125 c19 (by first | assumption | omega) (by first | assumption | omega) (by decide) ?_
                  refine zA_valI (psS (yP w y) (w y 7) S) (hps) ?_
                  refine zA_aload_n dX6_findBest_126 rfl ?_
                  refine zA_getI dX6_findBest_127 fX6_55 c16 rfl ?_
                  refine zA_valI (w2 16 14) rfl ?_
                  refine zA_icmp_ne (tgt := 156) dX6_findBest_130 (by decide) (by first | assumption | exact hr _ _ | exact inR_mk (by omega) (by omega)) (by first | assumption | exact hr _ _ | exact inR_mk (by omega) (by omega)) (fun c130 => ?_) (fun c130 => ?_)
                  · skip
                    refine zA_iinc (lo1 := [zR 16, zR y, zI (S + 1), zI e, zI g]) dX6_findBest_156 rfl (by decide) rfl rfl ?_
                    refine zA_goto (tgt := 19) dX6_findBest_159 (by decide) ?_
                    refine zA_drop 3 (lo1 := [zR 16, zR y, zI (S + 1), .null, zI g]) rfl ?_
                    refine zA_drop 4 (lo1 := [zR 16, zR y, zI (S + 1), .null, .null]) rfl ?_
                    exact ih19 (S + 1) w2 (by omega) (by omega) hf (fun T t0 t1 => by
                            by_cases e : T = S
                            · rw [e]; exact hps
                            · exact hp T t0 (by omega)) (hfs.2 (by omega)) (by omega)
                  · skip
                    refine zA_iload_n dX6_findBest_133 rfl ?_
                    refine zA_aload_n dX6_findBest_134 rfl ?_
                    refine zA_getI dX6_findBest_135 fX6_52 c16 rfl ?_
                    refine zA_valI (w2 16 13) rfl ?_
                    refine zA_icmp_ge (tgt := 156) dX6_findBest_138 (by decide) (by first | assumption | exact hr _ _ | exact inR_mk (by omega) (by omega)) (by first | assumption | exact hr _ _ | exact inR_mk (by omega) (by omega)) (fun c138 => ?_) (fun c138 => ?_)
                    · skip
                      refine zA_iinc (lo1 := [zR 16, zR y, zI (S + 1), zI e, zI g]) dX6_findBest_156 rfl (by decide) rfl rfl ?_
                      refine zA_goto (tgt := 19) dX6_findBest_159 (by decide) ?_
                      refine zA_drop 3 (lo1 := [zR 16, zR y, zI (S + 1), .null, zI g]) rfl ?_
                      refine zA_drop 4 (lo1 := [zR 16, zR y, zI (S + 1), .null, .null]) rfl ?_
                      exact ih19 (S + 1) w2 (by omega) (by omega) hf (fun T t0 t1 => by
                              by_cases e : T = S
                              · rw [e]; exact hps
                              · exact hp T t0 (by omega)) (hfs.2 (by omega)) (by omega)
                    · skip
                      refine zA_aload_n dX6_findBest_141 rfl ?_
                      refine zA_aload_n dX6_findBest_142 rfl ?_
                      refine zA_getR (n := 19) dX6_findBest_143 fX6_18 c16 rfl ?_
                      refine zA_iload_n dX6_findBest_146 rfl ?_
                      refine zA_iaload dX6_findBest_147 c19 (by first | assumption | omega) (by first | assumption | omega) (by decide) ?_
                      refine zA_valI (psS (yP w y) (w y 7) S) (hps) ?_
                      refine zA_putI dX6_findBest_148 fX6_55 c16 rfl (by first | assumption | exact hr _ _ | exact inR_mk (by omega) (by omega)) ⟨rfl, rfl⟩ ?_
                      refine zA_namew (fun w_7 hw_7 => ?_)
                      refine zA_range (fun hr => ?_)
                      replace hw_7 : w_7 = up w2 16 14 (psS (yP w y) (w y 7) S) := hw_7
                      refine zA_aload_n dX6_findBest_151 rfl ?_
                      refine zA_iload_n dX6_findBest_152 rfl ?_
                      refine zA_putI dX6_findBest_153 fX6_52 c16 rfl (by first | assumption | exact hr _ _ | exact inR_mk (by omega) (by omega)) ⟨rfl, rfl⟩ ?_
                      refine zA_namew (fun w_8 hw_8 => ?_)
                      refine zA_range (fun hr => ?_)
                      replace hw_8 : w_8 = up w_7 16 13 e := hw_8
                      refine zA_iinc (lo1 := [zR 16, zR y, zI (S + 1), zI e, zI g]) dX6_findBest_156 rfl (by decide) rfl rfl ?_
                      refine zA_goto (tgt := 19) dX6_findBest_159 (by decide) ?_
                      refine zA_drop 3 (lo1 := [zR 16, zR y, zI (S + 1), .null, zI g]) rfl ?_
                      refine zA_drop 4 (lo1 := [zR 16, zR y, zI (S + 1), .null, .null]) rfl ?_
                      exact ih19 (S + 1) _ (by omega) (by omega) (fun c x a b => by rw [hw_8, up_n (by omega), hw_7, up_n (by omega)]; exact hf c x a b) (fun T t0 t1 => by
                              rw [hw_8, up_cell _ _ _ _ (by decide), hw_7, up_cell _ _ _ _ (by decide)]
                              by_cases e : T = S
                              · rw [e]; exact hps
                              · exact hp T t0 (by omega)) (by
                              rw [show w_8 16 14 = (psS (yP w y) (w y 7) S) by rw [hw_8, up_idx _ _ _ _ (by decide), hw_7, up_same], show w_8 16 13 = e by rw [hw_8, up_same]]
                              exact hfs.1 (by omega)) (by omega)
            · skip
              refine zA_iload_n dX6_findBest_52 rfl ?_
              refine zA_iload dX6_findBest_53 rfl ?_
              refine zA_ishr dX6_findBest_55 ?_
              refine zA_iconst dX6_findBest_56 ?_
              refine zA_iand dX6_findBest_57 ?_
              refine zA_valI (if tb S g = true then 1 else 0) (tb_get (by omega) (by omega) l0 (by omega)) ?_
              refine zA_if_eq (tgt := 94) dX6_findBest_58 (by decide) (inR_ite _) (fun c58 => ?_) (fun c58 => ?_)
              · skip
                replace c58 := zite_eq c58
                have htb : tb S g = false := by simpa using c58
                refine zA_iinc (lo1 := [zR 16, zR y, zI S, zI e, zI (g + 1)]) dX6_findBest_94 rfl (by decide) rfl rfl ?_
                refine zA_goto (tgt := 43) dX6_findBest_97 (by decide) ?_
                exact ih43 e (g + 1) w2 (by omega) (by omega) er hf hp hF (by rw [zsucc l0]; simp only [zsum]; rw [zcast l0, htb, ← hpS]; simp) (fun j a b h => by
                          by_cases q : j = g
                          · rw [q, htb] at h; cases h
                          · exact h1 j a (by omega) h) h2 (by omega)
              · skip
                replace c58 := zite_ne c58
                have htb : tb S g = true := by simpa using c58
                have hbe := hb (S * 8 + g) (by omega) (by omega)
                have hpl := (hG.2 g l0 (by omega)).2.1
                have hzb := zsum_b (f := fun k : Nat => if tb S k = true then yP w y k else 0) (B := 9999) g.toNat (fun k hk => by
                  have := (hG.2 k (by omega) (by omega)).2.1
                  split <;> omega)
                have hyp : yP w y g = w (y + 4) (g * 6 + 5) := rfl
                have hy45 : w2 (y + 4) (g * 6 + 5) = w (y + 4) (g * 6 + 5) := hf _ _ (by clear h2; omega) (Or.inl (by clear h2; omega))
                refine zA_aload_n dX6_findBest_61 rfl ?_
                refine zA_getR (n := 19) dX6_findBest_62 fX6_18 c16 rfl ?_
                refine zA_iload_n dX6_findBest_65 rfl ?_
                refine zA_dup2 dX6_findBest_66 rfl rfl ?_
                refine zA_iaload dX6_findBest_67 c19 (by first | assumption | omega) (by first | assumption | omega) (by decide) ?_
                refine zA_aload_n dX6_findBest_68 rfl ?_
                refine zA_iload dX6_findBest_69 rfl ?_
                refine zA_iconst dX6_findBest_71 ?_
                refine zA_cV (st := [zI (w2 19 S), zI S, zR 19]) dX6_findBest_72 vX10_fact kX6_91 (s_fact (w := w2) (a := g) (k := 5) hy l0 (by omega) (by decide) (by decide)) (by decide) (cY0 hy) rfl rfl (Nat.le_of_ble_eq_true rfl) rfl (zRt_el ?_)
                show zA l mX6_findBest false 2 0 0 (fun v' S' w' => v' = none ∧ S' = (ZZ t dr tx) ∧ (∀ c x, c ≠ 19 → (c ≠ 16 ∨ (x ≠ 13 ∧ x ≠ 14)) → w' c x = w c x) ∧ (∀ T : Int, 0 ≤ T → T < ((2 ^ (w y 7).toNat : Nat) : Int) → w' 19 T = psS (yP w y) (w y 7) T) ∧ fbO (yCan w y) (yW w y) (yP w y) (yT w y) (w y 7) (w' 16 14) (w' 16 13)) zNo 75 [zR 16, zR y, zI S, zI e, zI g] [zI (w2 (y + 4) (g * 6 + 5)), zI (w2 19 S), zI S, zR 19] (ZZ t dr tx) w2
                refine zA_valI (yP w y g) (by rw [hyp]; exact hy45) ?_
                refine zA_iadd dX6_findBest_75 ?_
                refine zA_iastore dX6_findBest_76 (by first | assumption | exact hr _ _ | exact inR_mk (by omega) (by omega)) c19 (by first | assumption | omega) (by first | assumption | omega) (by decide) ?_
                refine zA_namew (fun w_9 hw_9 => ?_)
                refine zA_range (fun hr => ?_)
                replace hw_9 : w_9 = up w2 19 S ((w2 19 S) + (yP w y g)) := hw_9
                have e20 : w_9 20 (S * 8 + g) = w 20 (S * 8 + g) := by rw [hw_9, up_cell _ _ _ _ (by decide)]; exact hf 20 _ (by decide) (Or.inl (by decide))
                refine zA_iload_n dX6_findBest_77 rfl ?_
                refine zA_aload_n dX6_findBest_78 rfl ?_
                refine zA_getR (n := 20) dX6_findBest_79 fX6_21 c16 rfl ?_
                refine zA_iload_n dX6_findBest_82 rfl ?_
                refine zA_bipush dX6_findBest_83 rfl ?_
                refine zA_imul dX6_findBest_85 ?_
                refine zA_iload dX6_findBest_86 rfl ?_
                refine zA_iadd dX6_findBest_88 ?_
                refine zA_iaload dX6_findBest_89 c20 (by first | assumption | omega) (by first | assumption | omega) (by decide) ?_
                refine zA_valI (w 20 (S * 8 + g)) (e20) ?_
                refine zA_mmin dX6_findBest_90 kmX6_111 zw_min (by first | assumption | exact hr _ _ | exact inR_mk (by omega) (by omega)) (by first | assumption | exact hr _ _ | exact inR_mk (by omega) (by omega)) (Nat.le_of_ble_eq_true rfl) ?_
                refine zA_istore_n (lo1 := [zR 16, zR y, zI S, zI (min e (w 20 (S * 8 + g))), zI g]) dX6_findBest_93 (by decide) rfl rfl ?_
                refine zA_iinc (lo1 := [zR 16, zR y, zI S, zI (min e (w 20 (S * 8 + g))), zI (g + 1)]) dX6_findBest_94 rfl (by decide) rfl rfl ?_
                refine zA_goto (tgt := 43) dX6_findBest_97 (by decide) ?_
                exact ih43 _ (g + 1) _ (by omega) (by omega) (by omega) (fun c x a b => by rw [hw_9, up_cell _ _ _ _ a]; exact hf c x a b) (fun T t0 t1 => by rw [hw_9, up_idx _ _ _ _ (by omega)]; exact hp T t0 t1) (by rw [hw_9, up_cell _ _ _ _ (by decide), up_cell _ _ _ _ (by decide)]; exact hF) (by
                          rw [hw_9, up_same, zsucc l0]; simp only [zsum]; rw [zcast l0, htb, hpS]; rfl) (fun j a b h => by
                          by_cases q : j = g
                          · rw [q]; omega
                          · have := h1 j a (by omega) h; omega) (by
                          by_cases q : e ≤ w 20 (S * 8 + g)
                          · rw [show min e (w 20 (S * 8 + g)) = e by omega]; exact h2
                          · rw [show min e (w 20 (S * 8 + g)) = w 20 (S * 8 + g) by omega]; exact Or.inr ⟨g, by omega, rfl⟩) (by omega)
        exact L43 _ 1000 0 _ (by omega) (by omega) (by omega) (fun c x a b => by rw [hw_4, up_cell _ _ _ _ a]; exact hf c x a b) (fun T t0 t1 => by rw [hw_4, up_idx _ _ _ _ (by omega)]; exact hp T t0 t1) (by rw [hw_4, up_cell _ _ _ _ (by decide), up_cell _ _ _ _ (by decide)]; exact hF) (by rw [hw_4, up_same]; rfl) (fun j a b => by omega) (Or.inl rfl) (Nat.lt_succ_self _)
  exact L19 _ 1 _ (by omega) (by omega) (fun c x a b => by rw [hw_3, up_cell _ _ _ _ a, hw_2, up_n (by omega), hw_1, up_n (by omega)]) (fun T t0 t1 => by
        have : T = 0 := by omega
        rw [hw_3, this, up_same]
        exact (zsum0 _ (fun k _ => by rw [tb_0]; rfl)).symm) (by
        rw [show w_3 16 14 = 0 by rw [hw_3, up_cell _ _ _ _ (by decide), hw_2, up_idx _ _ _ _ (by decide), hw_1, up_same], show w_3 16 13 = -1 by rw [hw_3, up_cell _ _ _ _ (by decide), hw_2, up_same]]
        exact fbI_0 hG) (Nat.lt_succ_self _)

