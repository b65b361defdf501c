/-! the text of the reference: what clauses say -/
theorem wnd1_M {b : Int → Int} {n p : Int} {Y : zW} : wnd1 b n (.inl p) Y = pNum b n 0 12 (if tkK b n p = 2 ∧ 30 ≤ Y 0 2 then .inr (2, tkS b n p) else .inl p) := rfl
set_option maxRecDepth 100000 in
set_option maxHeartbeats 4000000 in
theorem m_readWinds {l : Launch} {t dr tx : Nat} {w : zW} {b : Int → Int} {n : Int} {p : Int} {Y : zW} (hp : pM b n w) (hR : rM b n w (.inl p)) (hY : mC w Y) (hO : okY Y)  : zSp l mX12_readWinds false 6 0 0 [zR 73] (ZZ t dr tx) w (fun v' S' w' => v' = none ∧ S' = (ZZ t dr tx) ∧ clM w w' ∧ pM b n w' ∧ rM b n w' ((wndF b n 31 (.inl p) Y).1) ∧ (okP ((wndF b n 31 (.inl p) Y).1) → mC w' ((wndF b n 31 (.inl p) Y).2))) zNo := by
  refine zA_intro ⟨plainFor_of_name (by decide +kernel), Or.inl (by decide +kernel)⟩ rfl (Nat.le_of_ble_eq_true rfl) ?_
  obtain ⟨⟨p0, p1⟩, f19, ⟨f17, f18, f13⟩, f15, f16⟩ := id hR
  obtain ⟨⟨y0, y1, y2, y3⟩, -⟩ := id hY
  obtain ⟨a0, a1, a2, a3, -⟩ := id hO
  obtain ⟨⟨n0, n6⟩, hn, hb⟩ := id hp
  refine zA_range (fun hr => ?_)
  show zA l mX12_readWinds false 6 0 0 (fun v' S' w' => v' = none ∧ S' = (ZZ t dr tx) ∧ clM w w' ∧ pM b n w' ∧ rM b n w' ((wndF b n 31 (.inl p) Y).1) ∧ (okP ((wndF b n 31 (.inl p) Y).1) → mC w' ((wndF b n 31 (.inl p) Y).2))) zNo 0 [zR 73, .null] [] (ZZ t dr tx) w
  have L0 : ∀ (z0 : Nat) (w1 : zW) (q : Int) (Y1 : zW) (k : Nat) (hf : clM w w1) (hp1 : pM b n w1) (hR1 : rM b n w1 (.inl q)) (hY1 : mC w1 Y1) (hO1 : okY Y1) (hc : (wndF b n 31 (.inl p) Y) = wndF b n k (.inl q) Y1) (hk : 31 - Y1 0 2 ≤ k) (zm : k < z0), zA l mX12_readWinds false 6 0 0 (fun v' S' w' => v' = none ∧ S' = (ZZ t dr tx) ∧ clM w w' ∧ pM b n w' ∧ rM b n w' ((wndF b n 31 (.inl p) Y).1) ∧ (okP ((wndF b n 31 (.inl p) Y).1) → mC w' ((wndF b n 31 (.inl p) Y).2))) zNo 0 [zR 73, .null] [] (ZZ t dr tx) w1 := by
    intro z0
    induction z0 with
    | zero => intro w1 q Y1 k hf hp1 hR1 hY1 hO1 hc hk zm; exact absurd zm (Nat.not_lt_zero _)
    | succ z0 ih0 =>
      intro w1 q Y1 k hf hp1 hR1 hY1 hO1 hc hk zm
      refine zA_range (fun hr => ?_)
      obtain ⟨⟨q0, q1⟩, g19, ⟨g17, g18, g13⟩, g15, g16⟩ := id hR1
      obtain ⟨⟨z0, z1, z2, z3⟩, -⟩ := id hY1
      obtain ⟨b0, b1, b2, b3, -⟩ := id hO1
      obtain ⟨k1, hk1⟩ : ∃ k1 : Nat, k = k1 + 1 := ⟨k - 1, by omega⟩
      obtain ⟨Y2, hcs, hYs⟩ := wndF_s (b := b) (n := n) (k := k1) (s := .inl q) (Y := Y1)
      rw [hk1, hcs] at hc
      refine zA_aload_n dX12_readWinds_0 rfl ?_
      refine zA_getI dX12_readWinds_1 fX12_228 c73 rfl ?_
      refine zA_valI (w1 73 19) rfl ?_
      have L31 : ∀ (w2 : zW) (s1 : zP) (ho2 : onM w1 w2) (hp2 : pM b n w2) (hR2 : rM b n w2 s1) (hs1 : wnd1 b n (.inl q) Y1 = pNum b n 0 12 s1) (hs2 : okP (pNum b n 0 12 s1) → s1 = .inl q), zA l mX12_readWinds false 6 0 0 (fun v' S' w' => v' = none ∧ S' = (ZZ t dr tx) ∧ clM w w' ∧ pM b n w' ∧ rM b n w' ((wndF b n 31 (.inl p) Y).1) ∧ (okP ((wndF b n 31 (.inl p) Y).1) → mC w' ((wndF b n 31 (.inl p) Y).2))) zNo 31 [zR 73, .null] [] (ZZ t dr tx) w2 := by
        intro w2 s1 ho2 hp2 hR2 hs1 hs2
        refine zA_range (fun hr => ?_)
        refine zA_aload_n dX12_readWinds_31 rfl ?_
        refine zA_iconst dX12_readWinds_32 ?_
        refine zA_bipush dX12_readWinds_33 rfl ?_
        refine zA_cV (st := []) dX12_readWinds_35 vX12_readNumber kX12_258 (m_readNumber (w := w2) (lo := 0) (hi := 12) (by decide) (by decide) ⟨by decide, by decide⟩ ⟨by decide, by decide⟩ hp2 hR2) (by decide) c73 rfl rfl (Nat.le_of_ble_eq_true rfl) rfl (fun q_1_v q_1_S q_1_w q_1 => ?_)
        obtain ⟨⟨rv, rfl, hrv, hrv2⟩, rfl, ho3, hp3, hR3⟩ := q_1
        rw [← hs1] at hR3 hrv2
        refine zA_range (fun hr => ?_)
        show zA l mX12_readWinds false 6 0 0 (fun v' S' w' => v' = none ∧ S' = (ZZ t dr tx) ∧ clM w w' ∧ pM b n w' ∧ rM b n w' ((wndF b n 31 (.inl p) Y).1) ∧ (okP ((wndF b n 31 (.inl p) Y).1) → mC w' ((wndF b n 31 (.inl p) Y).2))) zNo 38 [zR 73, .null] [zI rv] (ZZ t dr tx) q_1_w
        refine zA_istore_n (lo1 := [zR 73, zI rv]) dX12_readWinds_38 (by decide) rfl rfl ?_
        refine zA_aload_n dX12_readWinds_39 rfl ?_
        refine zA_getI dX12_readWinds_40 fX12_228 c73 rfl ?_
        refine zA_valI (q_1_w 73 19) rfl ?_
        refine zA_if_eq (tgt := 47) dX12_readWinds_43 (by decide) (by first | assumption | exact hr _ _ | exact inR_mk (by omega) (by omega)) (fun c43 => ?_) (fun c43 => ?_)
        · skip
          have hokw := (rM_ok hR3).mp c43
          have hwo := wnd1_ok hokw
          have hval := hrv2 hokw
          rw [hs2 (by rw [← hs1]; exact hokw)] at hval
          obtain ⟨q3, hs3⟩ := rM_inl hR3 c43
          have hR3q := hR3
          rw [hs3] at hR3q
          have ho := onM_tr ho2 ho3
          have h77 : q_1_w 77 1 = Y1 0 2 := (ho 77 1 (Or.inl (by decide))).trans z2
          have hYs2 := hYs hokw
          refine zA_aload_n dX12_readWinds_47 rfl ?_
          refine zA_getR (n := 80) dX12_readWinds_48 fX12_41 c73 rfl ?_
          refine zA_bipush dX12_readWinds_51 rfl ?_
          refine zA_aload_n dX12_readWinds_53 rfl ?_
          refine zA_getR (n := 77) dX12_readWinds_54 fX12_32 c73 rfl ?_
          refine zA_iconst dX12_readWinds_57 ?_
          refine zA_iaload dX12_readWinds_58 c77 (by first | assumption | omega) (by first | assumption | omega) (by decide) ?_
          refine zA_iadd dX12_readWinds_59 ?_
          refine zA_iload_n dX12_readWinds_60 rfl ?_
          refine zA_iastore dX12_readWinds_61 (by first | assumption | exact hr _ _ | exact inR_mk (by omega) (by omega)) c80 (by first | assumption | omega) (by first | assumption | omega) (by decide) ?_
          refine zA_namew (fun w_2 hw_2 => ?_)
          refine zA_range (fun hr => ?_)
          replace hw_2 : w_2 = up q_1_w 80 (30 + (q_1_w 77 1)) rv := hw_2
          have h77b : w_2 77 1 = Y1 0 2 := by rw [hw_2, up_cell _ _ _ _ (by decide)]; exact h77
          refine zA_aload_n dX12_readWinds_62 rfl ?_
          refine zA_getR (n := 77) dX12_readWinds_63 fX12_32 c73 rfl ?_
          refine zA_iconst dX12_readWinds_66 ?_
          refine zA_dup2 dX12_readWinds_67 rfl rfl ?_
          refine zA_iaload dX12_readWinds_68 c77 (by first | assumption | omega) (by first | assumption | omega) (by decide) ?_
          refine zA_iconst dX12_readWinds_69 ?_
          refine zA_iadd dX12_readWinds_70 ?_
          refine zA_iastore dX12_readWinds_71 (by first | assumption | exact hr _ _ | exact inR_mk (by omega) (by omega)) c77 (by first | assumption | omega) (by first | assumption | omega) (by decide) ?_
          refine zA_namew (fun w_3 hw_3 => ?_)
          refine zA_range (fun hr => ?_)
          replace hw_3 : w_3 = up w_2 77 1 ((w_2 77 1) + 1) := hw_3
          have hew : w_3 = up (up q_1_w 80 (30 + q_1_w 77 1) rv) 77 1 (q_1_w 77 1 + 1) := by
            rw [hw_3, hw_2]
            congr 2
          have hY5 : mC w_3 Y2 := by rw [hew, hYs2, hval]; exact mC_W (mC_o hY1 ho)
          have hO5 : okY Y2 := by rw [hYs2]; exact okY_W hO1 hwo.2 hwo.1.1 hwo.1.2
          have hf5 : clM w w_3 := by rw [hew]; exact clM_up (clM_up (clM_tr hf (clM_o ho)) (by decide) (by decide) (by rw [h77]; show 30 ≤ 30 + Y1 0 2; omega)) (by decide) (by decide) (by decide)
          have hp5 : pM b n w_3 := by rw [hew]; exact pM_up (pM_up hp3 (by decide) (by decide)) (by decide) (by decide)
          have hR5 : rM b n w_3 (.inl q3) := by rw [hew]; exact rM_up (rM_up hR3q (by decide)) (by decide)
          refine zA_aload_n dX12_readWinds_72 rfl ?_
          refine zA_getI dX12_readWinds_73 fX12_205 c73 rfl ?_
          refine zA_valI (w_3 73 15) rfl ?_
          refine zA_iconst dX12_readWinds_76 ?_
          refine zA_icmp_eq (tgt := 0) dX12_readWinds_77 (by decide) (by first | assumption | exact hr _ _ | exact inR_mk (by omega) (by omega)) ⟨by decide, by decide⟩ (fun k77 => ?_) (fun k77 => ?_)
          · skip
            refine zA_drop 1 (lo1 := [zR 73, .null]) rfl ?_
            exact ih0 _ q3 Y2 k1 hf5 hp5 hR5 hY5 hO5 (by rw [hc, hs3]; exact cntW_y (hR5.2.2.2.1.symm.trans k77)) (by rw [hYs2]; rw [(yAddW_v Y1 (pVal b n (.inl q))).1.2.2.1]; omega) (by omega)
          · skip
            refine zA_vret dX12_readWinds_80 rfl ?_
            have hc2 : (wndF b n 31 (.inl p) Y) = (.inl q3, Y2) := by rw [hc, hs3]; exact cntW_n (fun h => k77 (hR5.2.2.2.1.trans h))
            rw [hc2]
            exact ⟨rfl, rfl, hf5, hp5, hR5, fun _ => hY5⟩
        · skip
          refine zA_vret dX12_readWinds_46 rfl ?_
          obtain ⟨e, he⟩ := rM_inr hR3 c43
          rw [he] at hc hR3
          have hc2 : (wndF b n 31 (.inl p) Y) = (.inr e, Y2) := hc
          rw [hc2]
          exact ⟨rfl, rfl, clM_tr hf (clM_o (onM_tr ho2 ho3)), hp3, hR3, fun h => (show False from h).elim⟩
      refine zA_if_ne (tgt := 31) dX12_readWinds_4 (by decide) (by first | assumption | exact hr _ _ | exact inR_mk (by omega) (by omega)) (fun c4 => ?_) (fun c4 => ?_)
      · skip
        exact L31 w1 (.inl q) onM_rfl hp1 hR1 (by rw [wnd1_M, if_neg (by omega)]) (fun _ => rfl)
      · skip
        refine zA_aload_n dX12_readWinds_7 rfl ?_
        refine zA_getI dX12_readWinds_8 fX12_205 c73 rfl ?_
        refine zA_valI (w1 73 15) rfl ?_
        refine zA_iconst dX12_readWinds_11 ?_
        refine zA_icmp_ne (tgt := 31) dX12_readWinds_12 (by decide) (by first | assumption | exact hr _ _ | exact inR_mk (by omega) (by omega)) ⟨by decide, by decide⟩ (fun c12 => ?_) (fun c12 => ?_)
        · skip
          exact L31 w1 (.inl q) onM_rfl hp1 hR1 (by rw [wnd1_M, if_neg (by omega)]) (fun _ => rfl)
        · skip
          refine zA_aload_n dX12_readWinds_15 rfl ?_
          refine zA_getR (n := 77) dX12_readWinds_16 fX12_32 c73 rfl ?_
          refine zA_iconst dX12_readWinds_19 ?_
          refine zA_iaload dX12_readWinds_20 c77 (by first | assumption | omega) (by first | assumption | omega) (by decide) ?_
          refine zA_bipush dX12_readWinds_21 rfl ?_
          refine zA_icmp_ne (tgt := 31) dX12_readWinds_23 (by decide) (by first | assumption | exact hr _ _ | exact inR_mk (by omega) (by omega)) ⟨by decide, by decide⟩ (fun c23 => ?_) (fun c23 => ?_)
          · skip
            exact L31 w1 (.inl q) onM_rfl hp1 hR1 (by rw [wnd1_M, if_neg (by omega)]) (fun _ => rfl)
          · skip
            refine zA_aload_n dX12_readWinds_26 rfl ?_
            refine zA_iconst dX12_readWinds_27 ?_
            refine zA_cV (st := []) dX12_readWinds_28 vX12_wrong kX12_246 (m_wrong (w := w1) (k := 2) ⟨by decide, by decide⟩) (by decide) c73 rfl rfl (Nat.le_of_ble_eq_true rfl) rfl (fun q_4_v q_4_S q_4_w q_4 => ?_)
            obtain ⟨rfl, rfl, rfl⟩ := q_4
            refine zA_range (fun hr => ?_)
            show zA l mX12_readWinds false 6 0 0 (fun v' S' w' => v' = none ∧ S' = (ZZ t dr tx) ∧ clM w w' ∧ pM b n w' ∧ rM b n w' ((wndF b n 31 (.inl p) Y).1) ∧ (okP ((wndF b n 31 (.inl p) Y).1) → mC w' ((wndF b n 31 (.inl p) Y).2))) zNo 31 [zR 73, .null] [] (ZZ t dr tx) (wrongw w1 2)
            exact L31 _ _ wrongw_o (pM_o hp1 wrongw_o) (rM_f hR1 (by decide)) (by rw [wnd1_M, if_pos (by omega)]; rfl) (fun h => (show False from h).elim)
  exact L0 _ w p Y 31 ⟨fun _ _ _ _ => rfl, fun _ _ _ _ _ => rfl⟩ hp hR hY hO rfl (by omega) (Nat.lt_succ_self _)

set_option maxRecDepth 100000 in
set_option maxHeartbeats 4000000 in
theorem m_readLetter {l : Launch} {t dr tx : Nat} {w : zW} {b : Int → Int} {n : Int} (hnl : w 76 1 < 8) {p : Int} {Y : zW} (hp : pM b n w) (hR : rM b n w (.inl p)) (hY : mC w Y) (hO : okY Y)  : zSp l mX12_readLetter false 8 0 0 [zR 73] (ZZ t dr tx) w (fun v' S' w' => v' = none ∧ S' = (ZZ t dr tx) ∧ clM w w' ∧ pM b n w' ∧ rM b n w' ((lt6 b n Y (.inl p))) ∧ (okP ((lt6 b n Y (.inl p))) → mC w' (yAddL Y (pVal b n (.inl p)) (pVal b n (lt1 b n Y (.inl p))) (pVal b n (lt2 b n Y (.inl p))) (pVal b n (lt3 b n Y (.inl p))) (pVal b n (lt4 b n Y (.inl p))) (pVal b n (lt5 b n Y (.inl p)))))) zNo := by
  refine zA_intro ⟨plainFor_of_name (by decide +kernel), Or.inl (by decide +kernel)⟩ rfl (Nat.le_of_ble_eq_true rfl) ?_
  obtain ⟨⟨p0, p1⟩, f19, ⟨f17, f18, f13⟩, f15, f16⟩ := id hR
  obtain ⟨⟨y0, y1, y2, y3⟩, -⟩ := id hY
  obtain ⟨a0, a1, a2, a3, -⟩ := id hO
  obtain ⟨⟨n0, n6⟩, hn, hb⟩ := id hp
  have hKl : loB 81 ≤ ((8 + w 76 1) * 6) := by show (48 : Int) ≤ ((8 + w 76 1) * 6); omega
  have hiN : inP n (.inl p : zP) := ⟨p0, p1⟩
  refine zA_range (fun hr => ?_)
  show zA l mX12_readLetter false 8 0 0 (fun v' S' w' => v' = none ∧ S' = (ZZ t dr tx) ∧ clM w w' ∧ pM b n w' ∧ rM b n w' ((lt6 b n Y (.inl p))) ∧ (okP ((lt6 b n Y (.inl p))) → mC w' (yAddL Y (pVal b n (.inl p)) (pVal b n (lt1 b n Y (.inl p))) (pVal b n (lt2 b n Y (.inl p))) (pVal b n (lt3 b n Y (.inl p))) (pVal b n (lt4 b n Y (.inl p))) (pVal b n (lt5 b n Y (.inl p)))))) zNo 0 [zR 73, .null] [] (ZZ t dr tx) w
  refine zA_bipush dX12_readLetter_0 rfl ?_
  refine zA_aload_n dX12_readLetter_2 rfl ?_
  refine zA_getR (n := 76) dX12_readLetter_3 fX12_29 c73 rfl ?_
  refine zA_iconst dX12_readLetter_6 ?_
  refine zA_iaload dX12_readLetter_7 c76 (by first | assumption | omega) (by first | assumption | omega) (by decide) ?_
  refine zA_iadd dX12_readLetter_8 ?_
  refine zA_bipush dX12_readLetter_9 rfl ?_
  refine zA_imul dX12_readLetter_11 ?_
  refine zA_valI ((8 + w 76 1) * 6) (rfl) ?_
  refine zA_istore_n (lo1 := [zR 73, zI ((8 + w 76 1) * 6)]) dX12_readLetter_12 (by decide) rfl rfl ?_
  refine zA_aload_n dX12_readLetter_13 rfl ?_
  refine zA_getR (n := 81) dX12_readLetter_14 fX12_43 c73 rfl ?_
  refine zA_iload_n dX12_readLetter_17 rfl ?_
  refine zA_aload_n dX12_readLetter_18 rfl ?_
  refine zA_iconst dX12_readLetter_19 ?_
  refine zA_cV (st := [zI ((8 + w 76 1) * 6), zR 81]) dX12_readLetter_20 vX12_readChimney kX12_261 (m_readChimney (w := w) (un := (-1)) ⟨by decide, by decide⟩ hp hR) (by decide) c73 rfl rfl (Nat.le_of_ble_eq_true rfl) rfl (fun q_1_v q_1_S q_1_w q_1 => ?_)
  obtain ⟨⟨rva, rfl, hrva, hrqa⟩, rfl, hoa, hpa, hRa⟩ := q_1
  rw [show w 75 1 = Y 0 0 from y0] at hrqa hRa
  have hIa := mlI_0 (c0 := 81) (K := ((8 + w 76 1) * 6)) (by decide) hoa
  refine zA_range (fun hr => ?_)
  show zA l mX12_readLetter false 8 0 0 (fun v' S' w' => v' = none ∧ S' = (ZZ t dr tx) ∧ clM w w' ∧ pM b n w' ∧ rM b n w' ((lt6 b n Y (.inl p))) ∧ (okP ((lt6 b n Y (.inl p))) → mC w' (yAddL Y (pVal b n (.inl p)) (pVal b n (lt1 b n Y (.inl p))) (pVal b n (lt2 b n Y (.inl p))) (pVal b n (lt3 b n Y (.inl p))) (pVal b n (lt4 b n Y (.inl p))) (pVal b n (lt5 b n Y (.inl p)))))) zNo 23 [zR 73, zI ((8 + w 76 1) * 6)] [zI rva, zI ((8 + w 76 1) * 6), zR 81] (ZZ t dr tx) q_1_w
  refine zA_iastore dX12_readLetter_23 (by first | assumption | exact hr _ _ | exact inR_mk (by omega) (by omega)) c81 (by first | assumption | omega) (by first | assumption | omega) (by decide) ?_
  refine zA_namew (fun w_2 hw_2 => ?_)
  refine zA_range (fun hr => ?_)
  replace hw_2 : w_2 = up q_1_w 81 ((8 + w 76 1) * 6) rva := hw_2
  have hI0 := mlI_s (v := rva) (j := 0) (c0 := 81) (K := ((8 + w 76 1) * 6)) (by decide) (by decide) hKl hIa rfl
  rw [Int.add_zero] at hI0
  rw [← hw_2] at hI0
  replace hpa : pM b n w_2 := by rw [hw_2]; exact pM_up hpa (by decide) (by decide)
  replace hRa := rM_up (c0 := 81) (i := ((8 + w 76 1) * 6)) (v := rva) hRa (by decide)
  rw [← hw_2] at hRa
  refine zA_aload_n dX12_readLetter_24 rfl ?_
  refine zA_ldcSw (a := 1005) dX12_readLetter_25 (List.mem_of_getElem? (i := 40) rfl) ?_
  refine zA_cV (st := []) dX12_readLetter_28 vX12_word kX12_254 (m_word (w := w_2) (k := 5) (by decide) hpa hRa) (by decide) c73 rfl rfl (Nat.le_of_ble_eq_true rfl) rfl (fun q_3_v q_3_S q_3_w q_3 => ?_)
  obtain ⟨rfl, rfl, hob, hpb, hRb⟩ := q_3
  have hIb := mlI_o (by decide) hI0 hob
  refine zA_range (fun hr => ?_)
  show zA l mX12_readLetter false 8 0 0 (fun v' S' w' => v' = none ∧ S' = (ZZ t dr tx) ∧ clM w w' ∧ pM b n w' ∧ rM b n w' ((lt6 b n Y (.inl p))) ∧ (okP ((lt6 b n Y (.inl p))) → mC w' (yAddL Y (pVal b n (.inl p)) (pVal b n (lt1 b n Y (.inl p))) (pVal b n (lt2 b n Y (.inl p))) (pVal b n (lt3 b n Y (.inl p))) (pVal b n (lt4 b n Y (.inl p))) (pVal b n (lt5 b n Y (.inl p)))))) zNo 31 [zR 73, zI ((8 + w 76 1) * 6)] [] (ZZ t dr tx) q_3_w
  refine zA_aload_n dX12_readLetter_31 rfl ?_
  refine zA_getR (n := 81) dX12_readLetter_32 fX12_43 c73 rfl ?_
  refine zA_iload_n dX12_readLetter_35 rfl ?_
  refine zA_iconst dX12_readLetter_36 ?_
  refine zA_iadd dX12_readLetter_37 ?_
  refine zA_aload_n dX12_readLetter_38 rfl ?_
  refine zA_iconst dX12_readLetter_39 ?_
  refine zA_bipush dX12_readLetter_40 rfl ?_
  refine zA_cV (st := [zI (((8 + w 76 1) * 6) + 1), zR 81]) dX12_readLetter_42 vX12_readNumber kX12_258 (m_readNumber (w := q_3_w) (lo := 1) (hi := 9) (by decide) (by decide) ⟨by decide, by decide⟩ ⟨by decide, by decide⟩ hpb hRb) (by decide) c73 rfl rfl (Nat.le_of_ble_eq_true rfl) rfl (fun q_4_v q_4_S q_4_w q_4 => ?_)
  obtain ⟨⟨rvc, rfl, hrvc, hrqc⟩, rfl, hoc, hpc, hRc⟩ := q_4
  have hIc := mlI_o (by decide) hIb hoc
  refine zA_range (fun hr => ?_)
  show zA l mX12_readLetter false 8 0 0 (fun v' S' w' => v' = none ∧ S' = (ZZ t dr tx) ∧ clM w w' ∧ pM b n w' ∧ rM b n w' ((lt6 b n Y (.inl p))) ∧ (okP ((lt6 b n Y (.inl p))) → mC w' (yAddL Y (pVal b n (.inl p)) (pVal b n (lt1 b n Y (.inl p))) (pVal b n (lt2 b n Y (.inl p))) (pVal b n (lt3 b n Y (.inl p))) (pVal b n (lt4 b n Y (.inl p))) (pVal b n (lt5 b n Y (.inl p)))))) zNo 45 [zR 73, zI ((8 + w 76 1) * 6)] [zI rvc, zI (((8 + w 76 1) * 6) + 1), zR 81] (ZZ t dr tx) q_4_w
  refine zA_iastore dX12_readLetter_45 (by first | assumption | exact hr _ _ | exact inR_mk (by omega) (by omega)) c81 (by first | assumption | omega) (by first | assumption | omega) (by decide) ?_
  refine zA_namew (fun w_5 hw_5 => ?_)
  refine zA_range (fun hr => ?_)
  replace hw_5 : w_5 = up q_4_w 81 (((8 + w 76 1) * 6) + 1) rvc := hw_5
  have hI1 := mlI_s (v := rvc) (j := 1) (c0 := 81) (K := ((8 + w 76 1) * 6)) (by decide) (by decide) hKl hIc rfl
  rw [← hw_5] at hI1
  replace hpc : pM b n w_5 := by rw [hw_5]; exact pM_up hpc (by decide) (by decide)
  replace hRc := rM_up (c0 := 81) (i := ((8 + w 76 1) * 6) + 1) (v := rvc) hRc (by decide)
  rw [← hw_5] at hRc
  refine zA_aload_n dX12_readLetter_46 rfl ?_
  refine zA_ldcSw (a := 1006) dX12_readLetter_47 (List.mem_of_getElem? (i := 41) rfl) ?_
  refine zA_cV (st := []) dX12_readLetter_50 vX12_word kX12_254 (m_word (w := w_5) (k := 6) (by decide) hpc hRc) (by decide) c73 rfl rfl (Nat.le_of_ble_eq_true rfl) rfl (fun q_6_v q_6_S q_6_w q_6 => ?_)
  obtain ⟨rfl, rfl, hod, hpd, hRd⟩ := q_6
  have hId := mlI_o (by decide) hI1 hod
  refine zA_range (fun hr => ?_)
  show zA l mX12_readLetter false 8 0 0 (fun v' S' w' => v' = none ∧ S' = (ZZ t dr tx) ∧ clM w w' ∧ pM b n w' ∧ rM b n w' ((lt6 b n Y (.inl p))) ∧ (okP ((lt6 b n Y (.inl p))) → mC w' (yAddL Y (pVal b n (.inl p)) (pVal b n (lt1 b n Y (.inl p))) (pVal b n (lt2 b n Y (.inl p))) (pVal b n (lt3 b n Y (.inl p))) (pVal b n (lt4 b n Y (.inl p))) (pVal b n (lt5 b n Y (.inl p)))))) zNo 53 [zR 73, zI ((8 + w 76 1) * 6)] [] (ZZ t dr tx) q_6_w
  refine zA_aload_n dX12_readLetter_53 rfl ?_
  refine zA_getR (n := 81) dX12_readLetter_54 fX12_43 c73 rfl ?_
  refine zA_iload_n dX12_readLetter_57 rfl ?_
  refine zA_iconst dX12_readLetter_58 ?_
  refine zA_iadd dX12_readLetter_59 ?_
  refine zA_aload_n dX12_readLetter_60 rfl ?_
  refine zA_iconst dX12_readLetter_61 ?_
  refine zA_bipush dX12_readLetter_62 rfl ?_
  refine zA_cV (st := [zI (((8 + w 76 1) * 6) + 2), zR 81]) dX12_readLetter_64 vX12_readNumber kX12_258 (m_readNumber (w := q_6_w) (lo := 0) (hi := 12) (by decide) (by decide) ⟨by decide, by decide⟩ ⟨by decide, by decide⟩ hpd hRd) (by decide) c73 rfl rfl (Nat.le_of_ble_eq_true rfl) rfl (fun q_7_v q_7_S q_7_w q_7 => ?_)
  obtain ⟨⟨rve, rfl, hrve, hrqe⟩, rfl, hoe, hpe, hRe⟩ := q_7
  have hIe := mlI_o (by decide) hId hoe
  refine zA_range (fun hr => ?_)
  show zA l mX12_readLetter false 8 0 0 (fun v' S' w' => v' = none ∧ S' = (ZZ t dr tx) ∧ clM w w' ∧ pM b n w' ∧ rM b n w' ((lt6 b n Y (.inl p))) ∧ (okP ((lt6 b n Y (.inl p))) → mC w' (yAddL Y (pVal b n (.inl p)) (pVal b n (lt1 b n Y (.inl p))) (pVal b n (lt2 b n Y (.inl p))) (pVal b n (lt3 b n Y (.inl p))) (pVal b n (lt4 b n Y (.inl p))) (pVal b n (lt5 b n Y (.inl p)))))) zNo 67 [zR 73, zI ((8 + w 76 1) * 6)] [zI rve, zI (((8 + w 76 1) * 6) + 2), zR 81] (ZZ t dr tx) q_7_w
  refine zA_iastore dX12_readLetter_67 (by first | assumption | exact hr _ _ | exact inR_mk (by omega) (by omega)) c81 (by first | assumption | omega) (by first | assumption | omega) (by decide) ?_
  refine zA_namew (fun w_8 hw_8 => ?_)
  refine zA_range (fun hr => ?_)
  replace hw_8 : w_8 = up q_7_w 81 (((8 + w 76 1) * 6) + 2) rve := hw_8
  have hI2 := mlI_s (v := rve) (j := 2) (c0 := 81) (K := ((8 + w 76 1) * 6)) (by decide) (by decide) hKl hIe rfl
  rw [← hw_8] at hI2
  replace hpe : pM b n w_8 := by rw [hw_8]; exact pM_up hpe (by decide) (by decide)
  replace hRe := rM_up (c0 := 81) (i := ((8 + w 76 1) * 6) + 2) (v := rve) hRe (by decide)
  rw [← hw_8] at hRe
  refine zA_aload_n dX12_readLetter_68 rfl ?_
  refine zA_ldcSw (a := 1007) dX12_readLetter_69 (List.mem_of_getElem? (i := 42) rfl) ?_
  refine zA_cV (st := []) dX12_readLetter_72 vX12_word kX12_254 (m_word (w := w_8) (k := 7) (by decide) hpe hRe) (by decide) c73 rfl rfl (Nat.le_of_ble_eq_true rfl) rfl (fun q_9_v q_9_S q_9_w q_9 => ?_)
  obtain ⟨rfl, rfl, hof, hpf, hRf⟩ := q_9
  have hIf := mlI_o (by decide) hI2 hof
  refine zA_range (fun hr => ?_)
  show zA l mX12_readLetter false 8 0 0 (fun v' S' w' => v' = none ∧ S' = (ZZ t dr tx) ∧ clM w w' ∧ pM b n w' ∧ rM b n w' ((lt6 b n Y (.inl p))) ∧ (okP ((lt6 b n Y (.inl p))) → mC w' (yAddL Y (pVal b n (.inl p)) (pVal b n (lt1 b n Y (.inl p))) (pVal b n (lt2 b n Y (.inl p))) (pVal b n (lt3 b n Y (.inl p))) (pVal b n (lt4 b n Y (.inl p))) (pVal b n (lt5 b n Y (.inl p)))))) zNo 75 [zR 73, zI ((8 + w 76 1) * 6)] [] (ZZ t dr tx) q_9_w
  refine zA_aload_n dX12_readLetter_75 rfl ?_
  refine zA_getR (n := 81) dX12_readLetter_76 fX12_43 c73 rfl ?_
  refine zA_iload_n dX12_readLetter_79 rfl ?_
  refine zA_iconst dX12_readLetter_80 ?_
  refine zA_iadd dX12_readLetter_81 ?_
  refine zA_aload_n dX12_readLetter_82 rfl ?_
  refine zA_iconst dX12_readLetter_83 ?_
  refine zA_bipush dX12_readLetter_84 rfl ?_
  refine zA_cV (st := [zI (((8 + w 76 1) * 6) + 3), zR 81]) dX12_readLetter_86 vX12_readNumber kX12_258 (m_readNumber (w := q_9_w) (lo := 0) (hi := 29) (by decide) (by decide) ⟨by decide, by decide⟩ ⟨by decide, by decide⟩ hpf hRf) (by decide) c73 rfl rfl (Nat.le_of_ble_eq_true rfl) rfl (fun q_10_v q_10_S q_10_w q_10 => ?_)
  obtain ⟨⟨rvg, rfl, hrvg, hrqg⟩, rfl, hog, hpg, hRg⟩ := q_10
  have hIg := mlI_o (by decide) hIf hog
  refine zA_range (fun hr => ?_)
  show zA l mX12_readLetter false 8 0 0 (fun v' S' w' => v' = none ∧ S' = (ZZ t dr tx) ∧ clM w w' ∧ pM b n w' ∧ rM b n w' ((lt6 b n Y (.inl p))) ∧ (okP ((lt6 b n Y (.inl p))) → mC w' (yAddL Y (pVal b n (.inl p)) (pVal b n (lt1 b n Y (.inl p))) (pVal b n (lt2 b n Y (.inl p))) (pVal b n (lt3 b n Y (.inl p))) (pVal b n (lt4 b n Y (.inl p))) (pVal b n (lt5 b n Y (.inl p)))))) zNo 89 [zR 73, zI ((8 + w 76 1) * 6)] [zI rvg, zI (((8 + w 76 1) * 6) + 3), zR 81] (ZZ t dr tx) q_10_w
  refine zA_iastore dX12_readLetter_89 (by first | assumption | exact hr _ _ | exact inR_mk (by omega) (by omega)) c81 (by first | assumption | omega) (by first | assumption | omega) (by decide) ?_
  refine zA_namew (fun w_11 hw_11 => ?_)
  refine zA_range (fun hr => ?_)
  replace hw_11 : w_11 = up q_10_w 81 (((8 + w 76 1) * 6) + 3) rvg := hw_11
  have hI3 := mlI_s (v := rvg) (j := 3) (c0 := 81) (K := ((8 + w 76 1) * 6)) (by decide) (by decide) hKl hIg rfl
  rw [← hw_11] at hI3
  replace hpg : pM b n w_11 := by rw [hw_11]; exact pM_up hpg (by decide) (by decide)
  replace hRg := rM_up (c0 := 81) (i := ((8 + w 76 1) * 6) + 3) (v := rvg) hRg (by decide)
  rw [← hw_11] at hRg
  have hIi0 := hI3
  refine zA_aload_n dX12_readLetter_90 rfl ?_
  refine zA_getR (n := 81) dX12_readLetter_91 fX12_43 c73 rfl ?_
  refine zA_iload_n dX12_readLetter_94 rfl ?_
  refine zA_iconst dX12_readLetter_95 ?_
  refine zA_iadd dX12_readLetter_96 ?_
  refine zA_aload_n dX12_readLetter_97 rfl ?_
  refine zA_aload_n dX12_readLetter_98 rfl ?_
  refine zA_getR (n := 81) dX12_readLetter_99 fX12_43 c73 rfl ?_
  refine zA_iload_n dX12_readLetter_102 rfl ?_
  refine zA_iconst dX12_readLetter_103 ?_
  refine zA_iadd dX12_readLetter_104 ?_
  refine zA_iaload dX12_readLetter_105 c81 (by first | assumption | omega) (by first | assumption | omega) (by decide) ?_
  refine zA_valI rvg (by exact hIi0.2.2.2 3 rvg rfl) ?_
  refine zA_cV (st := [zI (((8 + w 76 1) * 6) + 4), zR 81]) dX12_readLetter_106 vX12_readTill kX12_270 (m_readTill (w := w_11) (f := rvg) hrvg hpg hRg) (by decide) c73 rfl rfl (Nat.le_of_ble_eq_true rfl) rfl (fun q_12_v q_12_S q_12_w q_12 => ?_)
  obtain ⟨⟨rvi, rfl, hrvi, hrqi⟩, rfl, hoi, hpi, hRi⟩ := q_12
  have hrvg2 : okP (pNum b n 0 29 (lt3 b n Y (.inl p))) → rvg = pVal b n (lt3 b n Y (.inl p)) := hrqg
  replace hrqi : okP (pTill b n rvg (lt4 b n Y (.inl p))) → rvi = pVal b n (lt4 b n Y (.inl p)) := hrqi
  replace hRi : rM b n q_12_w (pTill b n rvg (lt4 b n Y (.inl p))) := hRi
  rw [pTill_f (b := b) (n := n) (f := rvg) (s := lt4 b n Y (.inl p)) (f' := pVal b n (lt3 b n Y (.inl p))) (fun h => hrvg2 (pWord_ok h))] at hrqi hRi
  have hIi := mlI_o (by decide) hI3 hoi
  refine zA_range (fun hr => ?_)
  show zA l mX12_readLetter false 8 0 0 (fun v' S' w' => v' = none ∧ S' = (ZZ t dr tx) ∧ clM w w' ∧ pM b n w' ∧ rM b n w' ((lt6 b n Y (.inl p))) ∧ (okP ((lt6 b n Y (.inl p))) → mC w' (yAddL Y (pVal b n (.inl p)) (pVal b n (lt1 b n Y (.inl p))) (pVal b n (lt2 b n Y (.inl p))) (pVal b n (lt3 b n Y (.inl p))) (pVal b n (lt4 b n Y (.inl p))) (pVal b n (lt5 b n Y (.inl p)))))) zNo 109 [zR 73, zI ((8 + w 76 1) * 6)] [zI rvi, zI (((8 + w 76 1) * 6) + 4), zR 81] (ZZ t dr tx) q_12_w
  refine zA_iastore dX12_readLetter_109 (by first | assumption | exact hr _ _ | exact inR_mk (by omega) (by omega)) c81 (by first | assumption | omega) (by first | assumption | omega) (by decide) ?_
  refine zA_namew (fun w_13 hw_13 => ?_)
  refine zA_range (fun hr => ?_)
  replace hw_13 : w_13 = up q_12_w 81 (((8 + w 76 1) * 6) + 4) rvi := hw_13
  have hI4 := mlI_s (v := rvi) (j := 4) (c0 := 81) (K := ((8 + w 76 1) * 6)) (by decide) (by decide) hKl hIi rfl
  rw [← hw_13] at hI4
  replace hpi : pM b n w_13 := by rw [hw_13]; exact pM_up hpi (by decide) (by decide)
  replace hRi := rM_up (c0 := 81) (i := ((8 + w 76 1) * 6) + 4) (v := rvi) hRi (by decide)
  rw [← hw_13] at hRi
  refine zA_aload_n dX12_readLetter_110 rfl ?_
  refine zA_ldcSw (a := 1009) dX12_readLetter_111 (List.mem_of_getElem? (i := 43) rfl) ?_
  refine zA_cV (st := []) dX12_readLetter_114 vX12_word kX12_254 (m_word (w := w_13) (k := 9) (by decide) hpi hRi) (by decide) c73 rfl rfl (Nat.le_of_ble_eq_true rfl) rfl (fun q_14_v q_14_S q_14_w q_14 => ?_)
  obtain ⟨rfl, rfl, hoj, hpj, hRj⟩ := q_14
  have hIj := mlI_o (by decide) hI4 hoj
  refine zA_range (fun hr => ?_)
  show zA l mX12_readLetter false 8 0 0 (fun v' S' w' => v' = none ∧ S' = (ZZ t dr tx) ∧ clM w w' ∧ pM b n w' ∧ rM b n w' ((lt6 b n Y (.inl p))) ∧ (okP ((lt6 b n Y (.inl p))) → mC w' (yAddL Y (pVal b n (.inl p)) (pVal b n (lt1 b n Y (.inl p))) (pVal b n (lt2 b n Y (.inl p))) (pVal b n (lt3 b n Y (.inl p))) (pVal b n (lt4 b n Y (.inl p))) (pVal b n (lt5 b n Y (.inl p)))))) zNo 117 [zR 73, zI ((8 + w 76 1) * 6)] [] (ZZ t dr tx) q_14_w
  refine zA_aload_n dX12_readLetter_117 rfl ?_
  refine zA_getR (n := 81) dX12_readLetter_118 fX12_43 c73 rfl ?_
  refine zA_iload_n dX12_readLetter_121 rfl ?_
  refine zA_iconst dX12_readLetter_122 ?_
  refine zA_iadd dX12_readLetter_123 ?_
  refine zA_aload_n dX12_readLetter_124 rfl ?_
  refine zA_iconst dX12_readLetter_125 ?_
  refine zA_sipush dX12_readLetter_126 rfl ?_
  refine zA_cV (st := [zI (((8 + w 76 1) * 6) + 5), zR 81]) dX12_readLetter_129 vX12_readNumber kX12_258 (m_readNumber (w := q_14_w) (lo := 0) (hi := 9999) (by decide) (by decide) ⟨by decide, by decide⟩ ⟨by decide, by decide⟩ hpj hRj) (by decide) c73 rfl rfl (Nat.le_of_ble_eq_true rfl) rfl (fun q_15_v q_15_S q_15_w q_15 => ?_)
  obtain ⟨⟨rvk, rfl, hrvk, hrqk⟩, rfl, hok, hpk, hRk⟩ := q_15
  have hIk := mlI_o (by decide) hIj hok
  refine zA_range (fun hr => ?_)
  show zA l mX12_readLetter false 8 0 0 (fun v' S' w' => v' = none ∧ S' = (ZZ t dr tx) ∧ clM w w' ∧ pM b n w' ∧ rM b n w' ((lt6 b n Y (.inl p))) ∧ (okP ((lt6 b n Y (.inl p))) → mC w' (yAddL Y (pVal b n (.inl p)) (pVal b n (lt1 b n Y (.inl p))) (pVal b n (lt2 b n Y (.inl p))) (pVal b n (lt3 b n Y (.inl p))) (pVal b n (lt4 b n Y (.inl p))) (pVal b n (lt5 b n Y (.inl p)))))) zNo 132 [zR 73, zI ((8 + w 76 1) * 6)] [zI rvk, zI (((8 + w 76 1) * 6) + 5), zR 81] (ZZ t dr tx) q_15_w
  refine zA_iastore dX12_readLetter_132 (by first | assumption | exact hr _ _ | exact inR_mk (by omega) (by omega)) c81 (by first | assumption | omega) (by first | assumption | omega) (by decide) ?_
  refine zA_namew (fun w_16 hw_16 => ?_)
  refine zA_range (fun hr => ?_)
  replace hw_16 : w_16 = up q_15_w 81 (((8 + w 76 1) * 6) + 5) rvk := hw_16
  have hI5 := mlI_s (v := rvk) (j := 5) (c0 := 81) (K := ((8 + w 76 1) * 6)) (by decide) (by decide) hKl hIk rfl
  rw [← hw_16] at hI5
  replace hpk : pM b n w_16 := by rw [hw_16]; exact pM_up hpk (by decide) (by decide)
  replace hRk := rM_up (c0 := 81) (i := ((8 + w 76 1) * 6) + 5) (v := rvk) hRk (by decide)
  rw [← hw_16] at hRk
  have w76 : w_16 76 1 = w 76 1 := hI5.2.1 76 1 (by decide) (by decide) (by decide)
  refine zA_aload_n dX12_readLetter_133 rfl ?_
  refine zA_getR (n := 76) dX12_readLetter_134 fX12_29 c73 rfl ?_
  refine zA_iconst dX12_readLetter_137 ?_
  refine zA_dup2 dX12_readLetter_138 rfl rfl ?_
  refine zA_iaload dX12_readLetter_139 c76 (by first | assumption | omega) (by first | assumption | omega) (by decide) ?_
  refine zA_iconst dX12_readLetter_140 ?_
  refine zA_iadd dX12_readLetter_141 ?_
  refine zA_iastore dX12_readLetter_142 (by first | assumption | exact hr _ _ | exact inR_mk (by omega) (by omega)) c76 (by first | assumption | omega) (by first | assumption | omega) (by decide) ?_
  refine zA_namew (fun w_17 hw_17 => ?_)
  refine zA_range (fun hr => ?_)
  replace hw_17 : w_17 = up w_16 76 1 ((w_16 76 1) + 1) := hw_17
  refine zA_vret dX12_readLetter_143 rfl ?_
  refine ⟨rfl, rfl, ?_, ?_, ?_, fun hokz => ?_⟩
  · rw [hw_17]; exact clM_up hI5.1 (by decide) (by decide) (by decide)
  · rw [hw_17]; exact pM_up hpk (by decide) (by decide)
  · rw [hw_17]; exact rM_up hRk (by decide)
  · obtain ⟨⟨k1, k2, k3, k4, k5, k6, k7, k8, k9, k10⟩, -⟩ := lt_all (b := b) (n := n) (Y := Y) (s := .inl p) hiN hokz
    have E0 : rva = pVal b n (.inl p) := hrqa k1
    have E1 : rvc = pVal b n (lt1 b n Y (.inl p)) := hrqc k3
    have E2 : rve = pVal b n (lt2 b n Y (.inl p)) := hrqe k5
    have E3 : rvg = pVal b n (lt3 b n Y (.inl p)) := hrqg k7
    have E4 : rvi = pVal b n (lt4 b n Y (.inl p)) := hrqi k9
    have E5 : rvk = pVal b n (lt5 b n Y (.inl p)) := hrqk hokz
    rw [hw_17, w76, ← E0, ← E1, ← E2, ← E3, ← E4, ← E5]
    exact mC_L hY hI5

set_option maxRecDepth 100000 in
set_option maxHeartbeats 4000000 in
theorem m_readRoad {l : Launch} {t dr tx : Nat} {w : zW} {b : Int → Int} {n : Int} {p : Int} {Y : zW} (hp : pM b n w) (hR : rM b n w (.inl p)) (hY : mC w Y) (hO : okY Y)  : zSp l mX12_readRoad false 7 0 0 [zR 73] (ZZ t dr tx) w (fun v' S' w' => v' = none ∧ S' = (ZZ t dr tx) ∧ clM w w' ∧ pM b n w' ∧ rM b n w' ((rd3 b n Y (.inl p))) ∧ (okP ((rd3 b n Y (.inl p))) → mC w' (yAddR Y (pVal b n (.inl p)) (pVal b n (rd1 b n Y (.inl p))) (pVal b n (rd2 b n Y (.inl p)))))) zNo := by
  refine zA_intro ⟨plainFor_of_name (by decide +kernel), Or.inl (by decide +kernel)⟩ rfl (Nat.le_of_ble_eq_true rfl) ?_
  obtain ⟨⟨p0, p1⟩, f19, ⟨f17, f18, f13⟩, f15, f16⟩ := id hR
  obtain ⟨⟨y0, y1, y2, y3⟩, -⟩ := id hY
  obtain ⟨a0, a1, a2, a3, -⟩ := id hO
  obtain ⟨⟨n0, n6⟩, hn, hb⟩ := id hp
  have hiN : inP n (.inl p : zP) := ⟨p0, p1⟩
  refine zA_range (fun hr => ?_)
  show zA l mX12_readRoad false 7 0 0 (fun v' S' w' => v' = none ∧ S' = (ZZ t dr tx) ∧ clM w w' ∧ pM b n w' ∧ rM b n w' ((rd3 b n Y (.inl p))) ∧ (okP ((rd3 b n Y (.inl p))) → mC w' (yAddR Y (pVal b n (.inl p)) (pVal b n (rd1 b n Y (.inl p))) (pVal b n (rd2 b n Y (.inl p)))))) zNo 0 [zR 73, .null, .null, .null] [] (ZZ t dr tx) w
  refine zA_aload_n dX12_readRoad_0 rfl ?_
  refine zA_iconst dX12_readRoad_1 ?_
  refine zA_cV (st := []) dX12_readRoad_2 vX12_readChimney kX12_261 (m_readChimney (w := w) (un := (-1)) ⟨by decide, by decide⟩ hp hR) (by decide) c73 rfl rfl (Nat.le_of_ble_eq_true rfl) rfl (fun q_1_v q_1_S q_1_w q_1 => ?_)
  obtain ⟨⟨rva, rfl, hrva, hrqa⟩, rfl, hoa, hpa, hRa⟩ := q_1
  rw [show w 75 1 = Y 0 0 from y0] at hrqa hRa
  refine zA_range (fun hr => ?_)
  show zA l mX12_readRoad false 7 0 0 (fun v' S' w' => v' = none ∧ S' = (ZZ t dr tx) ∧ clM w w' ∧ pM b n w' ∧ rM b n w' ((rd3 b n Y (.inl p))) ∧ (okP ((rd3 b n Y (.inl p))) → mC w' (yAddR Y (pVal b n (.inl p)) (pVal b n (rd1 b n Y (.inl p))) (pVal b n (rd2 b n Y (.inl p)))))) zNo 5 [zR 73, .null, .null, .null] [zI rva] (ZZ t dr tx) q_1_w
  refine zA_istore_n (lo1 := [zR 73, zI rva, .null, .null]) dX12_readRoad_5 (by decide) rfl rfl ?_
  refine zA_aload_n dX12_readRoad_6 rfl ?_
  refine zA_iload_n dX12_readRoad_7 rfl ?_
  refine zA_cV (st := []) dX12_readRoad_8 vX12_readChimney kX12_261 (m_readChimney (w := q_1_w) (un := rva) hrva hpa hRa) (by decide) c73 rfl rfl (Nat.le_of_ble_eq_true rfl) rfl (fun q_2_v q_2_S q_2_w q_2 => ?_)
  obtain ⟨⟨rvb, rfl, hrvb, hrqb⟩, rfl, hob, hpb, hRb⟩ := q_2
  rw [show q_1_w 75 1 = Y 0 0 from (hoa 75 1 (Or.inl (by decide))).trans y0, pChim_un hrqa] at hrqb hRb
  refine zA_range (fun hr => ?_)
  show zA l mX12_readRoad false 7 0 0 (fun v' S' w' => v' = none ∧ S' = (ZZ t dr tx) ∧ clM w w' ∧ pM b n w' ∧ rM b n w' ((rd3 b n Y (.inl p))) ∧ (okP ((rd3 b n Y (.inl p))) → mC w' (yAddR Y (pVal b n (.inl p)) (pVal b n (rd1 b n Y (.inl p))) (pVal b n (rd2 b n Y (.inl p)))))) zNo 11 [zR 73, zI rva, .null, .null] [zI rvb] (ZZ t dr tx) q_2_w
  refine zA_istore_n (lo1 := [zR 73, zI rva, zI rvb, .null]) dX12_readRoad_11 (by decide) rfl rfl ?_
  refine zA_aload_n dX12_readRoad_12 rfl ?_
  refine zA_ldcSw (a := 1010) dX12_readRoad_13 (List.mem_of_getElem? (i := 44) rfl) ?_
  refine zA_cV (st := []) dX12_readRoad_16 vX12_word kX12_254 (m_word (w := q_2_w) (k := 10) (by decide) hpb hRb) (by decide) c73 rfl rfl (Nat.le_of_ble_eq_true rfl) rfl (fun q_3_v q_3_S q_3_w q_3 => ?_)
  obtain ⟨rfl, rfl, hoc, hpc, hRc⟩ := q_3
  refine zA_range (fun hr => ?_)
  show zA l mX12_readRoad false 7 0 0 (fun v' S' w' => v' = none ∧ S' = (ZZ t dr tx) ∧ clM w w' ∧ pM b n w' ∧ rM b n w' ((rd3 b n Y (.inl p))) ∧ (okP ((rd3 b n Y (.inl p))) → mC w' (yAddR Y (pVal b n (.inl p)) (pVal b n (rd1 b n Y (.inl p))) (pVal b n (rd2 b n Y (.inl p)))))) zNo 19 [zR 73, zI rva, zI rvb, .null] [] (ZZ t dr tx) q_3_w
  refine zA_aload_n dX12_readRoad_19 rfl ?_
  refine zA_iconst dX12_readRoad_20 ?_
  refine zA_bipush dX12_readRoad_21 rfl ?_
  refine zA_cV (st := []) dX12_readRoad_23 vX12_readNumber kX12_258 (m_readNumber (w := q_3_w) (lo := 0) (hi := 9) (by decide) (by decide) ⟨by decide, by decide⟩ ⟨by decide, by decide⟩ hpc hRc) (by decide) c73 rfl rfl (Nat.le_of_ble_eq_true rfl) rfl (fun q_4_v q_4_S q_4_w q_4 => ?_)
  obtain ⟨⟨rvd, rfl, hrvd, hrqd⟩, rfl, hod, hpd, hRd⟩ := q_4
  have hot := onM_tr (onM_tr (onM_tr hoa hob) hoc) hod
  refine zA_range (fun hr => ?_)
  show zA l mX12_readRoad false 7 0 0 (fun v' S' w' => v' = none ∧ S' = (ZZ t dr tx) ∧ clM w w' ∧ pM b n w' ∧ rM b n w' ((rd3 b n Y (.inl p))) ∧ (okP ((rd3 b n Y (.inl p))) → mC w' (yAddR Y (pVal b n (.inl p)) (pVal b n (rd1 b n Y (.inl p))) (pVal b n (rd2 b n Y (.inl p)))))) zNo 26 [zR 73, zI rva, zI rvb, .null] [zI rvd] (ZZ t dr tx) q_4_w
  refine zA_istore_n (lo1 := [zR 73, zI rva, zI rvb, zI rvd]) dX12_readRoad_26 (by decide) rfl rfl ?_
  refine zA_aload_n dX12_readRoad_27 rfl ?_
  refine zA_getI dX12_readRoad_28 fX12_228 c73 rfl ?_
  refine zA_valI (q_4_w 73 19) rfl ?_
  refine zA_if_eq (tgt := 35) dX12_readRoad_31 (by decide) (by first | assumption | exact hr _ _ | exact inR_mk (by omega) (by omega)) (fun c31 => ?_) (fun c31 => ?_)
  · skip
    have hokz := (rM_ok hRd).mp c31
    obtain ⟨⟨k1, k2, k3⟩, kb0, kb1, kb2, kb3⟩ := rd_all (b := b) (n := n) (Y := Y) hiN hokz
    have ea : rva = pVal b n (.inl p) := hrqa k1
    have eb : rvb = pVal b n (rd1 b n Y (.inl p)) := hrqb k2
    have ed : rvd = pVal b n (rd2 b n Y (.inl p)) := hrqd hokz
    rw [← ea] at kb0 kb2
    rw [← eb] at kb1 kb2
    rw [← ed] at kb3
    refine zA_aload_n dX12_readRoad_35 rfl ?_
    refine zA_getR (n := 82) dX12_readRoad_36 fX12_45 c73 rfl ?_
    refine zA_bipush dX12_readRoad_39 rfl ?_
    refine zA_iload_n dX12_readRoad_41 rfl ?_
    refine zA_iadd dX12_readRoad_42 ?_
    refine zA_bipush dX12_readRoad_43 rfl ?_
    refine zA_imul dX12_readRoad_45 ?_
    refine zA_iload_n dX12_readRoad_46 rfl ?_
    refine zA_iadd dX12_readRoad_47 ?_
    refine zA_iload_n dX12_readRoad_48 rfl ?_
    refine zA_iastore dX12_readRoad_49 (by first | assumption | exact hr _ _ | exact inR_mk (by omega) (by omega)) c82 (by first | assumption | omega) (by first | assumption | omega) (by decide) ?_
    refine zA_namew (fun w_5 hw_5 => ?_)
    refine zA_range (fun hr => ?_)
    replace hw_5 : w_5 = up q_4_w 82 (((12 + rva) * 12) + rvb) rvd := hw_5
    refine zA_aload_n dX12_readRoad_50 rfl ?_
    refine zA_getR (n := 82) dX12_readRoad_51 fX12_45 c73 rfl ?_
    refine zA_bipush dX12_readRoad_54 rfl ?_
    refine zA_iload_n dX12_readRoad_56 rfl ?_
    refine zA_iadd dX12_readRoad_57 ?_
    refine zA_bipush dX12_readRoad_58 rfl ?_
    refine zA_imul dX12_readRoad_60 ?_
    refine zA_iload_n dX12_readRoad_61 rfl ?_
    refine zA_iadd dX12_readRoad_62 ?_
    refine zA_iload_n dX12_readRoad_63 rfl ?_
    refine zA_iastore dX12_readRoad_64 (by first | assumption | exact hr _ _ | exact inR_mk (by omega) (by omega)) c82 (by first | assumption | omega) (by first | assumption | omega) (by decide) ?_
    refine zA_namew (fun w_6 hw_6 => ?_)
    refine zA_range (fun hr => ?_)
    replace hw_6 : w_6 = up w_5 82 (((12 + rvb) * 12) + rva) rvd := hw_6
    refine zA_vret dX12_readRoad_65 rfl ?_
    refine ⟨rfl, rfl, ?_, ?_, ?_, fun _ => ?_⟩
    · rw [hw_6, hw_5]; exact clM_up (clM_up (clM_o hot) (by decide) (by decide) (by show (144 : Int) ≤ _; omega)) (by decide) (by decide) (by show (144 : Int) ≤ _; omega)
    · rw [hw_6, hw_5]; exact pM_up (pM_up hpd (by decide) (by decide)) (by decide) (by decide)
    · rw [hw_6, hw_5]; exact rM_up (rM_up hRd (by decide)) (by decide)
    · rw [hw_6, hw_5, ← ea, ← eb, ← ed]
      exact mC_R (mC_o hY hot) (by omega) (by omega)
  · skip
    refine zA_vret dX12_readRoad_34 rfl ?_
    exact ⟨rfl, rfl, clM_o hot, hpd, hRd, fun h => absurd ((rM_ok hRd).mpr h) c31⟩

set_option maxRecDepth 100000 in
set_option maxHeartbeats 4000000 in
theorem m_readNest {l : Launch} {t dr tx : Nat} {w : zW} {b : Int → Int} {n : Int} (hnn : w 78 1 < 12) {p : Int} {Y : zW} (hp : pM b n w) (hR : rM b n w (.inl p)) (hY : mC w Y) (hO : okY Y)  : zSp l mX12_readNest false 8 0 0 [zR 73] (ZZ t dr tx) w (fun v' S' w' => v' = none ∧ S' = (ZZ t dr tx) ∧ clM w w' ∧ pM b n w' ∧ rM b n w' ((ne3 b n Y (.inl p))) ∧ (okP ((ne3 b n Y (.inl p))) → mC w' (yAddN Y (pVal b n (.inl p)) (pVal b n (ne1 b n Y (.inl p))) (pVal b n (ne2 b n Y (.inl p)))))) zNo := by
  refine zA_intro ⟨plainFor_of_name (by decide +kernel), Or.inl (by decide +kernel)⟩ rfl (Nat.le_of_ble_eq_true rfl) ?_
  obtain ⟨⟨p0, p1⟩, f19, ⟨f17, f18, f13⟩, f15, f16⟩ := id hR
  obtain ⟨⟨y0, y1, y2, y3⟩, -⟩ := id hY
  obtain ⟨a0, a1, a2, a3, -⟩ := id hO
  obtain ⟨⟨n0, n6⟩, hn, hb⟩ := id hp
  have hKl : loB 83 ≤ (3 * (12 + w 78 1)) := by show (36 : Int) ≤ (3 * (12 + w 78 1)); omega
  have hiN : inP n (.inl p : zP) := ⟨p0, p1⟩
  refine zA_range (fun hr => ?_)
  show zA l mX12_readNest false 8 0 0 (fun v' S' w' => v' = none ∧ S' = (ZZ t dr tx) ∧ clM w w' ∧ pM b n w' ∧ rM b n w' ((ne3 b n Y (.inl p))) ∧ (okP ((ne3 b n Y (.inl p))) → mC w' (yAddN Y (pVal b n (.inl p)) (pVal b n (ne1 b n Y (.inl p))) (pVal b n (ne2 b n Y (.inl p)))))) zNo 0 [zR 73, .null] [] (ZZ t dr tx) w
  refine zA_iconst dX12_readNest_0 ?_
  refine zA_bipush dX12_readNest_1 rfl ?_
  refine zA_aload_n dX12_readNest_3 rfl ?_
  refine zA_getR (n := 78) dX12_readNest_4 fX12_35 c73 rfl ?_
  refine zA_iconst dX12_readNest_7 ?_
  refine zA_iaload dX12_readNest_8 c78 (by first | assumption | omega) (by first | assumption | omega) (by decide) ?_
  refine zA_iadd dX12_readNest_9 ?_
  refine zA_imul dX12_readNest_10 ?_
  refine zA_valI (3 * (12 + w 78 1)) (rfl) ?_
  refine zA_istore_n (lo1 := [zR 73, zI (3 * (12 + w 78 1))]) dX12_readNest_11 (by decide) rfl rfl ?_
  refine zA_aload_n dX12_readNest_12 rfl ?_
  refine zA_getR (n := 83) dX12_readNest_13 fX12_48 c73 rfl ?_
  refine zA_iload_n dX12_readNest_16 rfl ?_
  refine zA_aload_n dX12_readNest_17 rfl ?_
  refine zA_iconst dX12_readNest_18 ?_
  refine zA_cV (st := [zI (3 * (12 + w 78 1)), zR 83]) dX12_readNest_19 vX12_readChimney kX12_261 (m_readChimney (w := w) (un := (-1)) ⟨by decide, by decide⟩ hp hR) (by decide) c73 rfl rfl (Nat.le_of_ble_eq_true rfl) rfl (fun q_1_v q_1_S q_1_w q_1 => ?_)
  obtain ⟨⟨rva, rfl, hrva, hrqa⟩, rfl, hoa, hpa, hRa⟩ := q_1
  rw [show w 75 1 = Y 0 0 from y0] at hrqa hRa
  have hIa := mlI_0 (c0 := 83) (K := (3 * (12 + w 78 1))) (by decide) hoa
  refine zA_range (fun hr => ?_)
  show zA l mX12_readNest false 8 0 0 (fun v' S' w' => v' = none ∧ S' = (ZZ t dr tx) ∧ clM w w' ∧ pM b n w' ∧ rM b n w' ((ne3 b n Y (.inl p))) ∧ (okP ((ne3 b n Y (.inl p))) → mC w' (yAddN Y (pVal b n (.inl p)) (pVal b n (ne1 b n Y (.inl p))) (pVal b n (ne2 b n Y (.inl p)))))) zNo 22 [zR 73, zI (3 * (12 + w 78 1))] [zI rva, zI (3 * (12 + w 78 1)), zR 83] (ZZ t dr tx) q_1_w
  refine zA_iastore dX12_readNest_22 (by first | assumption | exact hr _ _ | exact inR_mk (by omega) (by omega)) c83 (by first | assumption | omega) (by first | assumption | omega) (by decide) ?_
  refine zA_namew (fun w_2 hw_2 => ?_)
  refine zA_range (fun hr => ?_)
  replace hw_2 : w_2 = up q_1_w 83 (3 * (12 + w 78 1)) rva := hw_2
  have hI0 := mlI_s (v := rva) (j := 0) (c0 := 83) (K := (3 * (12 + w 78 1))) (by decide) (by decide) hKl hIa rfl
  rw [Int.add_zero] at hI0
  rw [← hw_2] at hI0
  replace hpa : pM b n w_2 := by rw [hw_2]; exact pM_up hpa (by decide) (by decide)
  replace hRa := rM_up (c0 := 83) (i := (3 * (12 + w 78 1))) (v := rva) hRa (by decide)
  rw [← hw_2] at hRa
  refine zA_aload_n dX12_readNest_23 rfl ?_
  refine zA_ldcSw (a := 1007) dX12_readNest_24 (List.mem_of_getElem? (i := 42) rfl) ?_
  refine zA_cV (st := []) dX12_readNest_27 vX12_word kX12_254 (m_word (w := w_2) (k := 7) (by decide) hpa hRa) (by decide) c73 rfl rfl (Nat.le_of_ble_eq_true rfl) rfl (fun q_3_v q_3_S q_3_w q_3 => ?_)
  obtain ⟨rfl, rfl, hob, hpb, hRb⟩ := q_3
  have hIb := mlI_o (by decide) hI0 hob
  refine zA_range (fun hr => ?_)
  show zA l mX12_readNest false 8 0 0 (fun v' S' w' => v' = none ∧ S' = (ZZ t dr tx) ∧ clM w w' ∧ pM b n w' ∧ rM b n w' ((ne3 b n Y (.inl p))) ∧ (okP ((ne3 b n Y (.inl p))) → mC w' (yAddN Y (pVal b n (.inl p)) (pVal b n (ne1 b n Y (.inl p))) (pVal b n (ne2 b n Y (.inl p)))))) zNo 30 [zR 73, zI (3 * (12 + w 78 1))] [] (ZZ t dr tx) q_3_w
  refine zA_aload_n dX12_readNest_30 rfl ?_
  refine zA_getR (n := 83) dX12_readNest_31 fX12_48 c73 rfl ?_
  refine zA_iload_n dX12_readNest_34 rfl ?_
  refine zA_iconst dX12_readNest_35 ?_
  refine zA_iadd dX12_readNest_36 ?_
  refine zA_aload_n dX12_readNest_37 rfl ?_
  refine zA_iconst dX12_readNest_38 ?_
  refine zA_bipush dX12_readNest_39 rfl ?_
  refine zA_cV (st := [zI ((3 * (12 + w 78 1)) + 1), zR 83]) dX12_readNest_41 vX12_readNumber kX12_258 (m_readNumber (w := q_3_w) (lo := 0) (hi := 29) (by decide) (by decide) ⟨by decide, by decide⟩ ⟨by decide, by decide⟩ hpb hRb) (by decide) c73 rfl rfl (Nat.le_of_ble_eq_true rfl) rfl (fun q_4_v q_4_S q_4_w q_4 => ?_)
  obtain ⟨⟨rvc, rfl, hrvc, hrqc⟩, rfl, hoc, hpc, hRc⟩ := q_4
  have hIc := mlI_o (by decide) hIb hoc
  refine zA_range (fun hr => ?_)
  show zA l mX12_readNest false 8 0 0 (fun v' S' w' => v' = none ∧ S' = (ZZ t dr tx) ∧ clM w w' ∧ pM b n w' ∧ rM b n w' ((ne3 b n Y (.inl p))) ∧ (okP ((ne3 b n Y (.inl p))) → mC w' (yAddN Y (pVal b n (.inl p)) (pVal b n (ne1 b n Y (.inl p))) (pVal b n (ne2 b n Y (.inl p)))))) zNo 44 [zR 73, zI (3 * (12 + w 78 1))] [zI rvc, zI ((3 * (12 + w 78 1)) + 1), zR 83] (ZZ t dr tx) q_4_w
  refine zA_iastore dX12_readNest_44 (by first | assumption | exact hr _ _ | exact inR_mk (by omega) (by omega)) c83 (by first | assumption | omega) (by first | assumption | omega) (by decide) ?_
  refine zA_namew (fun w_5 hw_5 => ?_)
  refine zA_range (fun hr => ?_)
  replace hw_5 : w_5 = up q_4_w 83 ((3 * (12 + w 78 1)) + 1) rvc := hw_5
  have hI1 := mlI_s (v := rvc) (j := 1) (c0 := 83) (K := (3 * (12 + w 78 1))) (by decide) (by decide) hKl hIc rfl
  rw [← hw_5] at hI1
  replace hpc : pM b n w_5 := by rw [hw_5]; exact pM_up hpc (by decide) (by decide)
  replace hRc := rM_up (c0 := 83) (i := (3 * (12 + w 78 1)) + 1) (v := rvc) hRc (by decide)
  rw [← hw_5] at hRc
  have hIi0 := hI1
  refine zA_aload_n dX12_readNest_45 rfl ?_
  refine zA_getR (n := 83) dX12_readNest_46 fX12_48 c73 rfl ?_
  refine zA_iload_n dX12_readNest_49 rfl ?_
  refine zA_iconst dX12_readNest_50 ?_
  refine zA_iadd dX12_readNest_51 ?_
  refine zA_aload_n dX12_readNest_52 rfl ?_
  refine zA_aload_n dX12_readNest_53 rfl ?_
  refine zA_getR (n := 83) dX12_readNest_54 fX12_48 c73 rfl ?_
  refine zA_iload_n dX12_readNest_57 rfl ?_
  refine zA_iconst dX12_readNest_58 ?_
  refine zA_iadd dX12_readNest_59 ?_
  refine zA_iaload dX12_readNest_60 c83 (by first | assumption | omega) (by first | assumption | omega) (by decide) ?_
  refine zA_valI rvc (by exact hIi0.2.2.2 1 rvc rfl) ?_
  refine zA_cV (st := [zI ((3 * (12 + w 78 1)) + 2), zR 83]) dX12_readNest_61 vX12_readTill kX12_270 (m_readTill (w := w_5) (f := rvc) hrvc hpc hRc) (by decide) c73 rfl rfl (Nat.le_of_ble_eq_true rfl) rfl (fun q_6_v q_6_S q_6_w q_6 => ?_)
  obtain ⟨⟨rve, rfl, hrve, hrqe⟩, rfl, hoe, hpe, hRe⟩ := q_6
  have hrvc2 : okP (pNum b n 0 29 (ne1 b n Y (.inl p))) → rvc = pVal b n (ne1 b n Y (.inl p)) := hrqc
  replace hrqe : okP (pTill b n rvc (ne2 b n Y (.inl p))) → rve = pVal b n (ne2 b n Y (.inl p)) := hrqe
  replace hRe : rM b n q_6_w (pTill b n rvc (ne2 b n Y (.inl p))) := hRe
  rw [pTill_f (b := b) (n := n) (f := rvc) (s := ne2 b n Y (.inl p)) (f' := pVal b n (ne1 b n Y (.inl p))) (fun h => hrvc2 (pWord_ok h))] at hrqe hRe
  have hIe := mlI_o (by decide) hI1 hoe
  refine zA_range (fun hr => ?_)
  show zA l mX12_readNest false 8 0 0 (fun v' S' w' => v' = none ∧ S' = (ZZ t dr tx) ∧ clM w w' ∧ pM b n w' ∧ rM b n w' ((ne3 b n Y (.inl p))) ∧ (okP ((ne3 b n Y (.inl p))) → mC w' (yAddN Y (pVal b n (.inl p)) (pVal b n (ne1 b n Y (.inl p))) (pVal b n (ne2 b n Y (.inl p)))))) zNo 64 [zR 73, zI (3 * (12 + w 78 1))] [zI rve, zI ((3 * (12 + w 78 1)) + 2), zR 83] (ZZ t dr tx) q_6_w
  refine zA_iastore dX12_readNest_64 (by first | assumption | exact hr _ _ | exact inR_mk (by omega) (by omega)) c83 (by first | assumption | omega) (by first | assumption | omega) (by decide) ?_
  refine zA_namew (fun w_7 hw_7 => ?_)
  refine zA_range (fun hr => ?_)
  replace hw_7 : w_7 = up q_6_w 83 ((3 * (12 + w 78 1)) + 2) rve := hw_7
  have hI2 := mlI_s (v := rve) (j := 2) (c0 := 83) (K := (3 * (12 + w 78 1))) (by decide) (by decide) hKl hIe rfl
  rw [← hw_7] at hI2
  replace hpe : pM b n w_7 := by rw [hw_7]; exact pM_up hpe (by decide) (by decide)
  replace hRe := rM_up (c0 := 83) (i := (3 * (12 + w 78 1)) + 2) (v := rve) hRe (by decide)
  rw [← hw_7] at hRe
  have w78 : w_7 78 1 = w 78 1 := hI2.2.1 78 1 (by decide) (by decide) (by decide)
  refine zA_aload_n dX12_readNest_65 rfl ?_
  refine zA_getR (n := 78) dX12_readNest_66 fX12_35 c73 rfl ?_
  refine zA_iconst dX12_readNest_69 ?_
  refine zA_dup2 dX12_readNest_70 rfl rfl ?_
  refine zA_iaload dX12_readNest_71 c78 (by first | assumption | omega) (by first | assumption | omega) (by decide) ?_
  refine zA_iconst dX12_readNest_72 ?_
  refine zA_iadd dX12_readNest_73 ?_
  refine zA_iastore dX12_readNest_74 (by first | assumption | exact hr _ _ | exact inR_mk (by omega) (by omega)) c78 (by first | assumption | omega) (by first | assumption | omega) (by decide) ?_
  refine zA_namew (fun w_8 hw_8 => ?_)
  refine zA_range (fun hr => ?_)
  replace hw_8 : w_8 = up w_7 78 1 ((w_7 78 1) + 1) := hw_8
  refine zA_vret dX12_readNest_75 rfl ?_
  refine ⟨rfl, rfl, ?_, ?_, ?_, fun hokz => ?_⟩
  · rw [hw_8]; exact clM_up hI2.1 (by decide) (by decide) (by decide)
  · rw [hw_8]; exact pM_up hpe (by decide) (by decide)
  · rw [hw_8]; exact rM_up hRe (by decide)
  · obtain ⟨⟨k1, k2, k3, k4⟩, -⟩ := ne_all (b := b) (n := n) (Y := Y) hiN hokz
    have E0 : rva = pVal b n (.inl p) := hrqa k1
    have E1 : rvc = pVal b n (ne1 b n Y (.inl p)) := hrqc k3
    have E2 : rve = pVal b n (ne2 b n Y (.inl p)) := hrqe hokz
    rw [hw_8, w78, ← E0, ← E1, ← E2]
    exact mC_N hY hI2

