/-! the text of the reference: a clause -/
def ovP (k : Int) (Y : zW) : Prop := (k = 0 ∧ Y 0 0 = 12) ∨ (k = 2 ∧ Y 0 1 = 8) ∨ (k = 4 ∧ Y 0 3 = 12)
theorem clF_ov {b : Int → Int} {n p : Int} {Y : zW} (hO : okY Y) (h : ovP (wh b n p) Y) : (clF b n p Y).1 = .inr (2, tkS b n p) := by
  rcases h with ⟨h1, h2⟩ | ⟨h1, h2⟩ | ⟨h1, h2⟩
  · rw [(clF_0 h1).1, if_pos (by omega)]
  · rw [(clF_2 h1).1, if_pos (by omega)]
  · rw [(clF_4 h1).1, if_pos (by omega)]
theorem pSign_y {b : Int → Int} {n p : Int} (h : tkK b n p = 3) : pSign b n (.inl p) = .inl (tkE b n p) := if_pos h
theorem pSign_n {b : Int → Int} {n p : Int} (h : tkK b n p ≠ 3) : pSign b n (.inl p) = .inr (1, tkS b n p) := if_neg h
set_option maxRecDepth 100000 in
set_option maxHeartbeats 4000000 in
theorem m_readClause {l : Launch} {t dr tx : Nat} {w : zW} {b : Int → Int} {n : Int} {p : Int} {Y : zW} (hp : pM b n w) (hR : rM b n w (.inl p)) (hY : mC w Y) (hO : okY Y) (hcl : ∀ j : Nat, j < 5 → w 74 (j : Int) = ((1000 + j : Nat) : Int))  : zSp l mX12_readClause false 9 0 0 [zR 73] (ZZ t dr tx) w (fun v' S' w' => v' = none ∧ S' = (ZZ t dr tx) ∧ clM w w' ∧ pM b n w' ∧ rM b n w' ((clF b n p Y).1) ∧ (okP ((clF b n p Y).1) → mC w' ((clF b n p Y).2))) zNo := by
  refine zA_intro ⟨plainFor_of_name (by decide +kernel), Or.inl (by decide +kernel)⟩ rfl (Nat.le_of_ble_eq_true rfl) ?_
  obtain ⟨⟨p0, p1⟩, f19, ⟨f17, f18, f13⟩, f15, f16⟩ := id hR
  obtain ⟨⟨y0, y1, y2, y3⟩, -⟩ := id hY
  obtain ⟨a0, a1, a2, a3, -⟩ := id hO
  obtain ⟨⟨n0, n6⟩, hn, hb⟩ := id hp
  have hwb := wh_b (b := b) (n := n) (p := p)
  refine zA_range (fun hr => ?_)
  show zA l mX12_readClause false 9 0 0 (fun v' S' w' => v' = none ∧ S' = (ZZ t dr tx) ∧ clM w w' ∧ pM b n w' ∧ rM b n w' ((clF b n p Y).1) ∧ (okP ((clF b n p Y).1) → mC w' ((clF b n p Y).2))) zNo 0 [zR 73, .null, .null] [] (ZZ t dr tx) w
  refine zA_aload_n dX12_readClause_0 rfl ?_
  refine zA_aload_n dX12_readClause_1 rfl ?_
  refine zA_getR (n := 74) dX12_readClause_2 fX12_19 c73 rfl ?_
  refine zA_cV (st := []) dX12_readClause_5 vX12_which kX12_276 (m_which (w := w) hp hR hcl) (by decide) c73 rfl rfl (Nat.le_of_ble_eq_true rfl) rfl (zRt_el ?_)
  show zA l mX12_readClause false 9 0 0 (fun v' S' w' => v' = none ∧ S' = (ZZ t dr tx) ∧ clM w w' ∧ pM b n w' ∧ rM b n w' ((clF b n p Y).1) ∧ (okP ((clF b n p Y).1) → mC w' ((clF b n p Y).2))) zNo 8 [zR 73, .null, .null] [zI (wh b n p)] (ZZ t dr tx) w
  refine zA_istore_n (lo1 := [zR 73, zI (wh b n p), .null]) dX12_readClause_8 (by decide) rfl rfl ?_
  have L61 : ∀ (o : Int) (ho : (o = 1 ∧ ovP (wh b n p) Y) ∨ (o = 0 ∧ ¬ ovP (wh b n p) Y)), zA l mX12_readClause false 9 0 0 (fun v' S' w' => v' = none ∧ S' = (ZZ t dr tx) ∧ clM w w' ∧ pM b n w' ∧ rM b n w' ((clF b n p Y).1) ∧ (okP ((clF b n p Y).1) → mC w' ((clF b n p Y).2))) zNo 61 [zR 73, zI (wh b n p), .null] [zI o] (ZZ t dr tx) w := by
    intro o ho
    refine zA_istore_n (lo1 := [zR 73, zI (wh b n p), zI o]) dX12_readClause_61 (by decide) rfl rfl ?_
    have L84 : ∀ (w1 : zW) (s1 : zP) (ho1 : onM w w1) (hp1 : pM b n w1) (hR1 : rM b n w1 s1) (hs1 : (s1 = .inl p ∧ wh b n p ≠ -1 ∧ ¬ ovP (wh b n p) Y) ∨ (¬ okP s1 ∧ (clF b n p Y).1 = s1)), zA l mX12_readClause false 9 0 0 (fun v' S' w' => v' = none ∧ S' = (ZZ t dr tx) ∧ clM w w' ∧ pM b n w' ∧ rM b n w' ((clF b n p Y).1) ∧ (okP ((clF b n p Y).1) → mC w' ((clF b n p Y).2))) zNo 84 [zR 73, zI (wh b n p), .null] [] (ZZ t dr tx) w1 := by
      intro w1 s1 ho1 hp1 hR1 hs1
      refine zA_range (fun hr => ?_)
      refine zA_aload_n dX12_readClause_84 rfl ?_
      refine zA_getI dX12_readClause_85 fX12_228 c73 rfl ?_
      refine zA_valI (w1 73 19) rfl ?_
      refine zA_if_eq (tgt := 92) dX12_readClause_88 (by decide) (by first | assumption | exact hr _ _ | exact inR_mk (by omega) (by omega)) (fun c88 => ?_) (fun c88 => ?_)
      · skip
        have hokk := (rM_ok hR1).mp c88
        obtain ⟨hs1e, hwn, hnov⟩ := hs1.resolve_right (fun h => h.1 hokk)
        have hRq := hR1
        rw [hs1e] at hRq
        have hbq := rM_b hRq
        refine zA_aload_n dX12_readClause_92 rfl ?_
        refine zA_cV (st := []) dX12_readClause_93 vX12_stepOn kX12_249 (m_stepOn (w := w1) (n := n) (b := b) hp1 c88 (by omega) (by omega)) (by decide) c73 rfl rfl (Nat.le_of_ble_eq_true rfl) rfl (fun q_1_v q_1_S q_1_w q_1 => ?_)
        obtain ⟨rfl, rfl, hoS0, hpS, hRS⟩ := q_1
        have hoS := onM_tr ho1 hoS0
        have hRS2 := rM_s hRq hRS
        have h75s : q_1_w 75 1 = Y 0 0 := (hoS 75 1 (Or.inl (by decide))).trans y0
        have h76s : q_1_w 76 1 = Y 0 1 := (hoS 76 1 (Or.inl (by decide))).trans y1
        have h78s : q_1_w 78 1 = Y 0 3 := (hoS 78 1 (Or.inl (by decide))).trans y3
        refine zA_range (fun hr => ?_)
        show zA l mX12_readClause false 9 0 0 (fun v' S' w' => v' = none ∧ S' = (ZZ t dr tx) ∧ clM w w' ∧ pM b n w' ∧ rM b n w' ((clF b n p Y).1) ∧ (okP ((clF b n p Y).1) → mC w' ((clF b n p Y).2))) zNo 96 [zR 73, zI (wh b n p), .null] [] (ZZ t dr tx) q_1_w
        have L175 : ∀ (w2 : zW) (s2 : zP) (Y2 : zW) (hf2 : clM w w2) (hp2 : pM b n w2) (hR2 : rM b n w2 s2) (hm2 : okP s2 → mC w2 Y2) (hcl1 : (clF b n p Y).1 = pSign b n s2) (hcl2 : okP (clF b n p Y).1 → (clF b n p Y).2 = Y2), zA l mX12_readClause false 9 0 0 (fun v' S' w' => v' = none ∧ S' = (ZZ t dr tx) ∧ clM w w' ∧ pM b n w' ∧ rM b n w' ((clF b n p Y).1) ∧ (okP ((clF b n p Y).1) → mC w' ((clF b n p Y).2))) zNo 175 [zR 73, .null, .null] [] (ZZ t dr tx) w2 := by
          intro w2 s2 Y2 hf2 hp2 hR2 hm2 hcl1 hcl2
          refine zA_range (fun hr => ?_)
          refine zA_aload_n dX12_readClause_175 rfl ?_
          refine zA_getI dX12_readClause_176 fX12_228 c73 rfl ?_
          refine zA_valI (w2 73 19) rfl ?_
          have L195 : ∀ (w3 : zW) (s3 : zP) (ho3 : onM w2 w3) (hp3 : pM b n w3) (hR3 : rM b n w3 s3) (hs3 : pSign b n s2 = pNx b n s3) (hs4 : okP s3 → okP s2), zA l mX12_readClause false 9 0 0 (fun v' S' w' => v' = none ∧ S' = (ZZ t dr tx) ∧ clM w w' ∧ pM b n w' ∧ rM b n w' ((clF b n p Y).1) ∧ (okP ((clF b n p Y).1) → mC w' ((clF b n p Y).2))) zNo 195 [zR 73, .null, .null] [] (ZZ t dr tx) w3 := by
            intro w3 s3 ho3 hp3 hR3 hs3 hs4
            refine zA_range (fun hr => ?_)
            refine zA_aload_n dX12_readClause_195 rfl ?_
            refine zA_getI dX12_readClause_196 fX12_228 c73 rfl ?_
            refine zA_valI (w3 73 19) rfl ?_
            refine zA_if_ne (tgt := 206) dX12_readClause_199 (by decide) (by first | assumption | exact hr _ _ | exact inR_mk (by omega) (by omega)) (fun c199 => ?_) (fun c199 => ?_)
            · skip
              obtain ⟨e3, he3⟩ := rM_inr hR3 c199
              refine zA_vret dX12_readClause_206 rfl ?_
              rw [he3] at hR3 hs3
              have hc9 : (clF b n p Y).1 = .inr e3 := hcl1.trans hs3
              rw [hc9]
              exact ⟨rfl, rfl, clM_tr hf2 (clM_o ho3), hp3, hR3, fun h => (show False from h).elim⟩
            · skip
              obtain ⟨q3, hq3⟩ := rM_inl hR3 c199
              have hRq3 := hR3
              rw [hq3] at hRq3
              have hbq3 := rM_b hRq3
              refine zA_aload_n dX12_readClause_202 rfl ?_
              refine zA_cV (st := []) dX12_readClause_203 vX12_stepOn kX12_249 (m_stepOn (w := w3) (n := n) (b := b) hp3 c199 (by omega) (by omega)) (by decide) c73 rfl rfl (Nat.le_of_ble_eq_true rfl) rfl (fun q_2_v q_2_S q_2_w q_2 => ?_)
              obtain ⟨rfl, rfl, hoT, hpT, hRT⟩ := q_2
              refine zA_range (fun hr => ?_)
              show zA l mX12_readClause false 9 0 0 (fun v' S' w' => v' = none ∧ S' = (ZZ t dr tx) ∧ clM w w' ∧ pM b n w' ∧ rM b n w' ((clF b n p Y).1) ∧ (okP ((clF b n p Y).1) → mC w' ((clF b n p Y).2))) zNo 206 [zR 73, .null, .null] [] (ZZ t dr tx) q_2_w
              refine zA_vret dX12_readClause_206 rfl ?_
              rw [hq3] at hs3
              have hc9 : (clF b n p Y).1 = .inl (tkE b n q3) := hcl1.trans hs3
              have hok9 : okP (clF b n p Y).1 := by rw [hc9]; trivial
              rw [hcl2 hok9, hc9]
              exact ⟨rfl, rfl, clM_tr hf2 (clM_o (onM_tr ho3 hoT)), hpT, rM_s hRq3 hRT, fun _ => mC_o (hm2 (hs4 (by rw [hq3]; trivial))) (onM_tr ho3 hoT)⟩
          refine zA_if_ne (tgt := 195) dX12_readClause_179 (by decide) (by first | assumption | exact hr _ _ | exact inR_mk (by omega) (by omega)) (fun c179 => ?_) (fun c179 => ?_)
          · skip
            skip
            exact L195 w2 s2 onM_rfl hp2 hR2 (by obtain ⟨e, he⟩ := rM_inr hR2 c179; rw [he]; rfl) (fun h => h)
          · skip
            obtain ⟨q2, hq2⟩ := rM_inl hR2 c179
            have hRq2 := hR2
            rw [hq2] at hRq2
            refine zA_aload_n dX12_readClause_182 rfl ?_
            refine zA_getI dX12_readClause_183 fX12_205 c73 rfl ?_
            refine zA_valI (w2 73 15) rfl ?_
            refine zA_iconst dX12_readClause_186 ?_
            refine zA_icmp_eq (tgt := 195) dX12_readClause_187 (by decide) (by first | assumption | exact hr _ _ | exact inR_mk (by omega) (by omega)) ⟨by decide, by decide⟩ (fun c187 => ?_) (fun c187 => ?_)
            · skip
              skip
              exact L195 w2 s2 onM_rfl hp2 hR2 (by rw [hq2]; exact pSign_y (hRq2.2.2.2.1.symm.trans c187)) (fun h => h)
            · skip
              skip
              refine zA_aload_n dX12_readClause_190 rfl ?_
              refine zA_iconst dX12_readClause_191 ?_
              refine zA_cV (st := []) dX12_readClause_192 vX12_wrong kX12_246 (m_wrong (w := w2) (k := 1) ⟨by decide, by decide⟩) (by decide) c73 rfl rfl (Nat.le_of_ble_eq_true rfl) rfl (fun q_3_v q_3_S q_3_w q_3 => ?_)
              obtain ⟨rfl, rfl, rfl⟩ := q_3
              refine zA_range (fun hr => ?_)
              show zA l mX12_readClause false 9 0 0 (fun v' S' w' => v' = none ∧ S' = (ZZ t dr tx) ∧ clM w w' ∧ pM b n w' ∧ rM b n w' ((clF b n p Y).1) ∧ (okP ((clF b n p Y).1) → mC w' ((clF b n p Y).2))) zNo 195 [zR 73, .null, .null] [] (ZZ t dr tx) (wrongw w2 1)
              exact L195 _ _ wrongw_o (pM_o hp2 wrongw_o) (rM_f hR2 (by decide)) (by rw [hq2]; exact pSign_n (fun h => c187 (hRq2.2.2.2.1.trans h))) (fun h => by rw [hq2]; trivial)
        refine zA_iload_n dX12_readClause_96 rfl ?_
        refine zA_if_ne (tgt := 135) dX12_readClause_97 (by decide) (by first | assumption | exact hr _ _ | exact inR_mk (by omega) (by omega)) (fun c97 => ?_) (fun c97 => ?_)
        · skip
          refine zA_iload_n dX12_readClause_135 rfl ?_
          refine zA_iconst dX12_readClause_136 ?_
          refine zA_icmp_ne (tgt := 147) dX12_readClause_137 (by decide) (by first | assumption | exact hr _ _ | exact inR_mk (by omega) (by omega)) ⟨by decide, by decide⟩ (fun c137 => ?_) (fun c137 => ?_)
          · skip
            refine zA_iload_n dX12_readClause_147 rfl ?_
            refine zA_iconst dX12_readClause_148 ?_
            refine zA_icmp_ne (tgt := 159) dX12_readClause_149 (by decide) (by first | assumption | exact hr _ _ | exact inR_mk (by omega) (by omega)) ⟨by decide, by decide⟩ (fun c149 => ?_) (fun c149 => ?_)
            · skip
              refine zA_iload_n dX12_readClause_159 rfl ?_
              refine zA_iconst dX12_readClause_160 ?_
              refine zA_icmp_ne (tgt := 171) dX12_readClause_161 (by decide) (by first | assumption | exact hr _ _ | exact inR_mk (by omega) (by omega)) ⟨by decide, by decide⟩ (fun c161 => ?_) (fun c161 => ?_)
              · skip
                have hw4 : wh b n p = 4 := by omega
                have hnc : Y 0 3 ≠ 12 := fun h => hnov (Or.inr (Or.inr ⟨hw4, h⟩))
                refine zA_aload_n dX12_readClause_171 rfl ?_
                refine zA_cV (st := []) dX12_readClause_172 vX12_readNest kX12_289 (m_readNest (w := q_1_w) (by omega) (p := tkE b n p) (Y := Y) hpS hRS2 (mC_o hY hoS) hO) (by decide) c73 rfl rfl (Nat.le_of_ble_eq_true rfl) rfl (fun q_4_v q_4_S q_4_w q_4 => ?_)
                obtain ⟨rfl, rfl, hfb, hpb, hRb, hyb⟩ := q_4
                refine zA_range (fun hr => ?_)
                show zA l mX12_readClause false 9 0 0 (fun v' S' w' => v' = none ∧ S' = (ZZ t dr tx) ∧ clM w w' ∧ pM b n w' ∧ rM b n w' ((clF b n p Y).1) ∧ (okP ((clF b n p Y).1) → mC w' ((clF b n p Y).2))) zNo 175 [zR 73, zI (wh b n p), .null] [] (ZZ t dr tx) q_4_w
                refine zA_drop 1 (lo1 := [zR 73, .null, .null]) rfl ?_
                exact L175 _ _ _ (clM_tr (clM_o hoS) hfb) hpb hRb hyb (by rw [(clF_4 hw4).1, if_neg (fun h => hnov (Or.inr (Or.inr ⟨hw4, by omega⟩)))]) (fun h => (clF_4 hw4).2 h)
              · skip
                skip
                refine zA_aload_n dX12_readClause_164 rfl ?_
                refine zA_cV (st := []) dX12_readClause_165 vX12_readRoad kX12_286 (m_readRoad (w := q_1_w)  (p := tkE b n p) (Y := Y) hpS hRS2 (mC_o hY hoS) hO) (by decide) c73 rfl rfl (Nat.le_of_ble_eq_true rfl) rfl (fun q_5_v q_5_S q_5_w q_5 => ?_)
                obtain ⟨rfl, rfl, hfb, hpb, hRb, hyb⟩ := q_5
                refine zA_range (fun hr => ?_)
                show zA l mX12_readClause false 9 0 0 (fun v' S' w' => v' = none ∧ S' = (ZZ t dr tx) ∧ clM w w' ∧ pM b n w' ∧ rM b n w' ((clF b n p Y).1) ∧ (okP ((clF b n p Y).1) → mC w' ((clF b n p Y).2))) zNo 168 [zR 73, zI (wh b n p), .null] [] (ZZ t dr tx) q_5_w
                refine zA_goto (tgt := 175) dX12_readClause_168 (by decide) ?_
                refine zA_drop 1 (lo1 := [zR 73, .null, .null]) rfl ?_
                exact L175 _ _ _ (clM_tr (clM_o hoS) hfb) hpb hRb hyb (by rw [(clF_3 c161).1]) (fun h => (clF_3 c161).2 h)
            · skip
              have hnc : Y 0 1 ≠ 8 := fun h => hnov (Or.inr (Or.inl ⟨c149, h⟩))
              refine zA_aload_n dX12_readClause_152 rfl ?_
              refine zA_cV (st := []) dX12_readClause_153 vX12_readLetter kX12_283 (m_readLetter (w := q_1_w) (by omega) (p := tkE b n p) (Y := Y) hpS hRS2 (mC_o hY hoS) hO) (by decide) c73 rfl rfl (Nat.le_of_ble_eq_true rfl) rfl (fun q_6_v q_6_S q_6_w q_6 => ?_)
              obtain ⟨rfl, rfl, hfb, hpb, hRb, hyb⟩ := q_6
              refine zA_range (fun hr => ?_)
              show zA l mX12_readClause false 9 0 0 (fun v' S' w' => v' = none ∧ S' = (ZZ t dr tx) ∧ clM w w' ∧ pM b n w' ∧ rM b n w' ((clF b n p Y).1) ∧ (okP ((clF b n p Y).1) → mC w' ((clF b n p Y).2))) zNo 156 [zR 73, zI (wh b n p), .null] [] (ZZ t dr tx) q_6_w
              refine zA_goto (tgt := 175) dX12_readClause_156 (by decide) ?_
              refine zA_drop 1 (lo1 := [zR 73, .null, .null]) rfl ?_
              exact L175 _ _ _ (clM_tr (clM_o hoS) hfb) hpb hRb hyb (by rw [(clF_2 c149).1, if_neg (fun h => hnov (Or.inr (Or.inl ⟨c149, by omega⟩)))]) (fun h => (clF_2 c149).2 h)
          · skip
            skip
            refine zA_aload_n dX12_readClause_140 rfl ?_
            refine zA_cV (st := []) dX12_readClause_141 vX12_readWinds kX12_280 (m_readWinds (w := q_1_w)  (p := tkE b n p) (Y := Y) hpS hRS2 (mC_o hY hoS) hO) (by decide) c73 rfl rfl (Nat.le_of_ble_eq_true rfl) rfl (fun q_7_v q_7_S q_7_w q_7 => ?_)
            obtain ⟨rfl, rfl, hfb, hpb, hRb, hyb⟩ := q_7
            refine zA_range (fun hr => ?_)
            show zA l mX12_readClause false 9 0 0 (fun v' S' w' => v' = none ∧ S' = (ZZ t dr tx) ∧ clM w w' ∧ pM b n w' ∧ rM b n w' ((clF b n p Y).1) ∧ (okP ((clF b n p Y).1) → mC w' ((clF b n p Y).2))) zNo 144 [zR 73, zI (wh b n p), .null] [] (ZZ t dr tx) q_7_w
            refine zA_goto (tgt := 175) dX12_readClause_144 (by decide) ?_
            refine zA_drop 1 (lo1 := [zR 73, .null, .null]) rfl ?_
            exact L175 _ _ _ (clM_tr (clM_o hoS) hfb) hpb hRb hyb (by rw [(clF_1 c137).1]) (fun h => (clF_1 c137).2 h)
        · skip
          have c96 : wh b n p = 0 := c97
          have hnc : Y 0 0 < 12 := by
            have := a0.2
            have h1 : Y 0 0 ≠ 12 := fun h => hnov (Or.inl ⟨c96, h⟩)
            omega
          refine zA_aload_n dX12_readClause_100 rfl ?_
          refine zA_getR (n := 79) dX12_readClause_101 fX12_38 c73 rfl ?_
          refine zA_bipush dX12_readClause_104 rfl ?_
          refine zA_aload_n dX12_readClause_106 rfl ?_
          refine zA_getR (n := 75) dX12_readClause_107 fX12_25 c73 rfl ?_
          refine zA_iconst dX12_readClause_110 ?_
          refine zA_iaload dX12_readClause_111 c75 (by first | assumption | omega) (by first | assumption | omega) (by decide) ?_
          refine zA_iadd dX12_readClause_112 ?_
          refine zA_aload_n dX12_readClause_113 rfl ?_
          refine zA_iconst dX12_readClause_114 ?_
          refine zA_sipush dX12_readClause_115 rfl ?_
          refine zA_cV (st := [zI (12 + (q_1_w 75 1)), zR 79]) dX12_readClause_118 vX12_readNumber kX12_258 (m_readNumber (w := q_1_w) (lo := 1) (hi := 200) (by decide) (by decide) ⟨by decide, by decide⟩ ⟨by decide, by decide⟩ hpS hRS2) (by decide) c73 rfl rfl (Nat.le_of_ble_eq_true rfl) rfl (fun q_8_v q_8_S q_8_w q_8 => ?_)
          obtain ⟨⟨rv, rfl, hrv, hrqN⟩, rfl, hoN, hpN, hRN⟩ := q_8
          have h75 : q_8_w 75 1 = Y 0 0 := (hoN 75 1 (Or.inl (by decide))).trans h75s
          refine zA_range (fun hr => ?_)
          show zA l mX12_readClause false 9 0 0 (fun v' S' w' => v' = none ∧ S' = (ZZ t dr tx) ∧ clM w w' ∧ pM b n w' ∧ rM b n w' ((clF b n p Y).1) ∧ (okP ((clF b n p Y).1) → mC w' ((clF b n p Y).2))) zNo 121 [zR 73, zI (wh b n p), .null] [zI rv, zI (12 + (q_1_w 75 1)), zR 79] (ZZ t dr tx) q_8_w
          refine zA_iastore dX12_readClause_121 (by first | assumption | exact hr _ _ | exact inR_mk (by omega) (by omega)) c79 (by first | assumption | omega) (by first | assumption | omega) (by decide) ?_
          refine zA_namew (fun w_9 hw_9 => ?_)
          refine zA_range (fun hr => ?_)
          replace hw_9 : w_9 = up q_8_w 79 (12 + (q_1_w 75 1)) rv := hw_9
          have h75b : w_9 75 1 = Y 0 0 := by rw [hw_9, up_cell _ _ _ _ (by decide)]; exact h75
          refine zA_aload_n dX12_readClause_122 rfl ?_
          refine zA_getR (n := 75) dX12_readClause_123 fX12_25 c73 rfl ?_
          refine zA_iconst dX12_readClause_126 ?_
          refine zA_dup2 dX12_readClause_127 rfl rfl ?_
          refine zA_iaload dX12_readClause_128 c75 (by first | assumption | omega) (by first | assumption | omega) (by decide) ?_
          refine zA_iconst dX12_readClause_129 ?_
          refine zA_iadd dX12_readClause_130 ?_
          refine zA_iastore dX12_readClause_131 (by first | assumption | exact hr _ _ | exact inR_mk (by omega) (by omega)) c75 (by first | assumption | omega) (by first | assumption | omega) (by decide) ?_
          refine zA_namew (fun w_10 hw_10 => ?_)
          refine zA_range (fun hr => ?_)
          replace hw_10 : w_10 = up w_9 75 1 ((w_9 75 1) + 1) := hw_10
          have hew : w_10 = up (up q_8_w 79 (12 + q_8_w 75 1) rv) 75 1 (q_8_w 75 1 + 1) := by
            rw [hw_10, hw_9]
            congr 2
            rw [h75, h75s]
          refine zA_goto (tgt := 175) dX12_readClause_132 (by decide) ?_
          refine zA_drop 1 (lo1 := [zR 73, .null, .null]) rfl ?_
          exact L175 _ (pNum b n 1 200 (.inl (tkE b n p))) (yAddC Y (pVal b n (.inl (tkE b n p)))) (by rw [hew]; exact clM_up (clM_up (clM_tr (clM_o hoS) (clM_o hoN)) (by decide) (by decide) (by rw [h75]; show (12 : Int) ≤ 12 + Y 0 0; omega)) (by decide) (by decide) (by decide)) (by rw [hew]; exact pM_up (pM_up hpN (by decide) (by decide)) (by decide) (by decide)) (by rw [hew]; exact rM_up (rM_up hRN (by decide)) (by decide)) (fun h => by rw [hew, hrqN h]; exact mC_C (mC_o hY (onM_tr hoS hoN)) a0.1) (by rw [(clF_0 c96).1, if_neg (fun h => hnov (Or.inl ⟨c96, by omega⟩))]) (fun h => (clF_0 c96).2 h)
      · skip
        have hbad := hs1.resolve_left (fun h => by
          have := (rM_ok hR1).mpr (by rw [h.1]; trivial)
          exact c88 this)
        refine zA_vret dX12_readClause_91 rfl ?_
        rw [hbad.2]
        exact ⟨rfl, rfl, clM_o ho1, hp1, hR1, fun h => absurd h hbad.1⟩
    refine zA_iload_n dX12_readClause_62 rfl ?_
    refine zA_iconst dX12_readClause_63 ?_
    refine zA_icmp_ne (tgt := 75) dX12_readClause_64 (by decide) (by first | assumption | exact hr _ _ | exact inR_mk (by omega) (by omega)) ⟨by decide, by decide⟩ (fun c64 => ?_) (fun c64 => ?_)
    · skip
      refine zA_iload_n dX12_readClause_75 rfl ?_
      refine zA_if_eq (tgt := 84) dX12_readClause_76 (by decide) (by first | assumption | exact hr _ _ | exact inR_mk (by omega) (by omega)) (fun k76 => ?_) (fun k76 => ?_)
      · skip
        refine zA_drop 2 (lo1 := [zR 73, zI (wh b n p), .null]) rfl ?_
        exact L84 w (.inl p) onM_rfl hp hR (Or.inl ⟨rfl, c64, (ho.resolve_left (fun h => by omega)).2⟩)
      · skip
        refine zA_aload_n dX12_readClause_79 rfl ?_
        refine zA_iconst dX12_readClause_80 ?_
        refine zA_cV (st := []) dX12_readClause_81 vX12_wrong kX12_246 (m_wrong (w := w) (k := 2) ⟨by decide, by decide⟩) (by decide) c73 rfl rfl (Nat.le_of_ble_eq_true rfl) rfl (fun q_11_v q_11_S q_11_w q_11 => ?_)
        obtain ⟨rfl, rfl, rfl⟩ := q_11
        refine zA_range (fun hr => ?_)
        show zA l mX12_readClause false 9 0 0 (fun v' S' w' => v' = none ∧ S' = (ZZ t dr tx) ∧ clM w w' ∧ pM b n w' ∧ rM b n w' ((clF b n p Y).1) ∧ (okP ((clF b n p Y).1) → mC w' ((clF b n p Y).2))) zNo 84 [zR 73, zI (wh b n p), zI o] [] (ZZ t dr tx) (wrongw w 2)
        refine zA_drop 2 (lo1 := [zR 73, zI (wh b n p), .null]) rfl ?_
        exact L84 _ _ wrongw_o (pM_o hp wrongw_o) (rM_f hR (by decide)) (Or.inr ⟨fun h => h, clF_ov hO (ho.resolve_right (fun h => by omega)).2⟩)
    · skip
      refine zA_aload_n dX12_readClause_67 rfl ?_
      refine zA_iconst dX12_readClause_68 ?_
      refine zA_cV (st := []) dX12_readClause_69 vX12_wrong kX12_246 (m_wrong (w := w) (k := 1) ⟨by decide, by decide⟩) (by decide) c73 rfl rfl (Nat.le_of_ble_eq_true rfl) rfl (fun q_12_v q_12_S q_12_w q_12 => ?_)
      obtain ⟨rfl, rfl, rfl⟩ := q_12
      refine zA_range (fun hr => ?_)
      show zA l mX12_readClause false 9 0 0 (fun v' S' w' => v' = none ∧ S' = (ZZ t dr tx) ∧ clM w w' ∧ pM b n w' ∧ rM b n w' ((clF b n p Y).1) ∧ (okP ((clF b n p Y).1) → mC w' ((clF b n p Y).2))) zNo 72 [zR 73, zI (wh b n p), zI o] [] (ZZ t dr tx) (wrongw w 1)
      refine zA_goto (tgt := 84) dX12_readClause_72 (by decide) ?_
      refine zA_drop 2 (lo1 := [zR 73, zI (wh b n p), .null]) rfl ?_
      exact L84 _ _ wrongw_o (pM_o hp wrongw_o) (rM_f hR (by decide)) (Or.inr ⟨fun h => h, clF_5 c64⟩)
  refine zA_iload_n dX12_readClause_9 rfl ?_
  refine zA_if_ne (tgt := 24) dX12_readClause_10 (by decide) (by first | assumption | exact hr _ _ | exact inR_mk (by omega) (by omega)) (fun c10 => ?_) (fun c10 => ?_)
  · skip
    refine zA_iload_n dX12_readClause_24 rfl ?_
    refine zA_iconst dX12_readClause_25 ?_
    refine zA_icmp_ne (tgt := 40) dX12_readClause_26 (by decide) (by first | assumption | exact hr _ _ | exact inR_mk (by omega) (by omega)) ⟨by decide, by decide⟩ (fun c26 => ?_) (fun c26 => ?_)
    · skip
      refine zA_iload_n dX12_readClause_40 rfl ?_
      refine zA_iconst dX12_readClause_41 ?_
      refine zA_icmp_ne (tgt := 60) dX12_readClause_42 (by decide) (by first | assumption | exact hr _ _ | exact inR_mk (by omega) (by omega)) ⟨by decide, by decide⟩ (fun c42 => ?_) (fun c42 => ?_)
      · skip
        refine zA_iconst dX12_readClause_60 ?_
        exact L61 _ (Or.inr ⟨rfl, by unfold ovP; omega⟩)
      · skip
        refine zA_aload_n dX12_readClause_45 rfl ?_
        refine zA_getR (n := 78) dX12_readClause_46 fX12_35 c73 rfl ?_
        refine zA_iconst dX12_readClause_49 ?_
        refine zA_iaload dX12_readClause_50 c78 (by first | assumption | omega) (by first | assumption | omega) (by decide) ?_
        refine zA_bipush dX12_readClause_51 rfl ?_
        refine zA_icmp_ne (tgt := 60) dX12_readClause_53 (by decide) (by first | assumption | exact hr _ _ | exact inR_mk (by omega) (by omega)) ⟨by decide, by decide⟩ (fun c53 => ?_) (fun c53 => ?_)
        · skip
          refine zA_iconst dX12_readClause_60 ?_
          exact L61 _ (Or.inr ⟨rfl, by unfold ovP; omega⟩)
        · skip
          refine zA_iconst dX12_readClause_56 ?_
          refine zA_goto (tgt := 61) dX12_readClause_57 (by decide) ?_
          exact L61 _ (Or.inl ⟨rfl, by unfold ovP; omega⟩)
    · skip
      refine zA_aload_n dX12_readClause_29 rfl ?_
      refine zA_getR (n := 76) dX12_readClause_30 fX12_29 c73 rfl ?_
      refine zA_iconst dX12_readClause_33 ?_
      refine zA_iaload dX12_readClause_34 c76 (by first | assumption | omega) (by first | assumption | omega) (by decide) ?_
      refine zA_bipush dX12_readClause_35 rfl ?_
      refine zA_icmp_eq (tgt := 56) dX12_readClause_37 (by decide) (by first | assumption | exact hr _ _ | exact inR_mk (by omega) (by omega)) ⟨by decide, by decide⟩ (fun c37 => ?_) (fun c37 => ?_)
      · skip
        refine zA_iconst dX12_readClause_56 ?_
        refine zA_goto (tgt := 61) dX12_readClause_57 (by decide) ?_
        exact L61 _ (Or.inl ⟨rfl, by unfold ovP; omega⟩)
      · skip
        refine zA_iload_n dX12_readClause_40 rfl ?_
        refine zA_iconst dX12_readClause_41 ?_
        refine zA_icmp_ne (tgt := 60) dX12_readClause_42 (by decide) (by first | assumption | exact hr _ _ | exact inR_mk (by omega) (by omega)) ⟨by decide, by decide⟩ (fun c42 => ?_) (fun c42 => ?_)
        · skip
          refine zA_iconst dX12_readClause_60 ?_
          exact L61 _ (Or.inr ⟨rfl, by unfold ovP; omega⟩)
        · skip
          refine zA_aload_n dX12_readClause_45 rfl ?_
          refine zA_getR (n := 78) dX12_readClause_46 fX12_35 c73 rfl ?_
          refine zA_iconst dX12_readClause_49 ?_
          refine zA_iaload dX12_readClause_50 c78 (by first | assumption | omega) (by first | assumption | omega) (by decide) ?_
          refine zA_bipush dX12_readClause_51 rfl ?_
          refine zA_icmp_ne (tgt := 60) dX12_readClause_53 (by decide) (by first | assumption | exact hr _ _ | exact inR_mk (by omega) (by omega)) ⟨by decide, by decide⟩ (fun c53 => ?_) (fun c53 => ?_)
          · skip
            refine zA_iconst dX12_readClause_60 ?_
            exact L61 _ (Or.inr ⟨rfl, by unfold ovP; omega⟩)
          · skip
            refine zA_iconst dX12_readClause_56 ?_
            refine zA_goto (tgt := 61) dX12_readClause_57 (by decide) ?_
            exact L61 _ (Or.inl ⟨rfl, by unfold ovP; omega⟩)
  · skip
    refine zA_aload_n dX12_readClause_13 rfl ?_
    refine zA_getR (n := 75) dX12_readClause_14 fX12_25 c73 rfl ?_
    refine zA_iconst dX12_readClause_17 ?_
    refine zA_iaload dX12_readClause_18 c75 (by first | assumption | omega) (by first | assumption | omega) (by decide) ?_
    refine zA_bipush dX12_readClause_19 rfl ?_
    refine zA_icmp_eq (tgt := 56) dX12_readClause_21 (by decide) (by first | assumption | exact hr _ _ | exact inR_mk (by omega) (by omega)) ⟨by decide, by decide⟩ (fun c21 => ?_) (fun c21 => ?_)
    · skip
      refine zA_iconst dX12_readClause_56 ?_
      refine zA_goto (tgt := 61) dX12_readClause_57 (by decide) ?_
      exact L61 _ (Or.inl ⟨rfl, by unfold ovP; omega⟩)
    · skip
      refine zA_iload_n dX12_readClause_24 rfl ?_
      refine zA_iconst dX12_readClause_25 ?_
      refine zA_icmp_ne (tgt := 40) dX12_readClause_26 (by decide) (by first | assumption | exact hr _ _ | exact inR_mk (by omega) (by omega)) ⟨by decide, by decide⟩ (fun c26 => ?_) (fun c26 => ?_)
      · skip
        refine zA_iload_n dX12_readClause_40 rfl ?_
        refine zA_iconst dX12_readClause_41 ?_
        refine zA_icmp_ne (tgt := 60) dX12_readClause_42 (by decide) (by first | assumption | exact hr _ _ | exact inR_mk (by omega) (by omega)) ⟨by decide, by decide⟩ (fun c42 => ?_) (fun c42 => ?_)
        · skip
          refine zA_iconst dX12_readClause_60 ?_
          exact L61 _ (Or.inr ⟨rfl, by unfold ovP; omega⟩)
        · skip
          refine zA_aload_n dX12_readClause_45 rfl ?_
          refine zA_getR (n := 78) dX12_readClause_46 fX12_35 c73 rfl ?_
          refine zA_iconst dX12_readClause_49 ?_
          refine zA_iaload dX12_readClause_50 c78 (by first | assumption | omega) (by first | assumption | omega) (by decide) ?_
          refine zA_bipush dX12_readClause_51 rfl ?_
          refine zA_icmp_ne (tgt := 60) dX12_readClause_53 (by decide) (by first | assumption | exact hr _ _ | exact inR_mk (by omega) (by omega)) ⟨by decide, by decide⟩ (fun c53 => ?_) (fun c53 => ?_)
          · skip
            refine zA_iconst dX12_readClause_60 ?_
            exact L61 _ (Or.inr ⟨rfl, by unfold ovP; omega⟩)
          · skip
            refine zA_iconst dX12_readClause_56 ?_
            refine zA_goto (tgt := 61) dX12_readClause_57 (by decide) ?_
            exact L61 _ (Or.inl ⟨rfl, by unfold ovP; omega⟩)
      · skip
        refine zA_aload_n dX12_readClause_29 rfl ?_
        refine zA_getR (n := 76) dX12_readClause_30 fX12_29 c73 rfl ?_
        refine zA_iconst dX12_readClause_33 ?_
        refine zA_iaload dX12_readClause_34 c76 (by first | assumption | omega) (by first | assumption | omega) (by decide) ?_
        refine zA_bipush dX12_readClause_35 rfl ?_
        refine zA_icmp_eq (tgt := 56) dX12_readClause_37 (by decide) (by first | assumption | exact hr _ _ | exact inR_mk (by omega) (by omega)) ⟨by decide, by decide⟩ (fun c37 => ?_) (fun c37 => ?_)
        · skip
          refine zA_iconst dX12_readClause_56 ?_
          refine zA_goto (tgt := 61) dX12_readClause_57 (by decide) ?_
          exact L61 _ (Or.inl ⟨rfl, by unfold ovP; omega⟩)
        · skip
          refine zA_iload_n dX12_readClause_40 rfl ?_
          refine zA_iconst dX12_readClause_41 ?_
          refine zA_icmp_ne (tgt := 60) dX12_readClause_42 (by decide) (by first | assumption | exact hr _ _ | exact inR_mk (by omega) (by omega)) ⟨by decide, by decide⟩ (fun c42 => ?_) (fun c42 => ?_)
          · skip
            refine zA_iconst dX12_readClause_60 ?_
            exact L61 _ (Or.inr ⟨rfl, by unfold ovP; omega⟩)
          · skip
            refine zA_aload_n dX12_readClause_45 rfl ?_
            refine zA_getR (n := 78) dX12_readClause_46 fX12_35 c73 rfl ?_
            refine zA_iconst dX12_readClause_49 ?_
            refine zA_iaload dX12_readClause_50 c78 (by first | assumption | omega) (by first | assumption | omega) (by decide) ?_
            refine zA_bipush dX12_readClause_51 rfl ?_
            refine zA_icmp_ne (tgt := 60) dX12_readClause_53 (by decide) (by first | assumption | exact hr _ _ | exact inR_mk (by omega) (by omega)) ⟨by decide, by decide⟩ (fun c53 => ?_) (fun c53 => ?_)
            · skip
              refine zA_iconst dX12_readClause_60 ?_
              exact L61 _ (Or.inr ⟨rfl, by unfold ovP; omega⟩)
            · skip
              refine zA_iconst dX12_readClause_56 ?_
              refine zA_goto (tgt := 61) dX12_readClause_57 (by decide) ?_
              exact L61 _ (Or.inl ⟨rfl, by unfold ovP; omega⟩)

