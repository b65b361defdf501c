/-! the reader of the class: letters, roads, nests -/
def ltI (w W : zW) (dr : Nat) (vs : List Int) : Prop := (∀ c x, c ≠ 2 → c ≠ dr + 4 → W c x = w c x) ∧ (∀ i, i < w dr 7 * 6 → W (dr + 4) i = w (dr + 4) i) ∧ ∀ (k : Nat) (v : Int), vs[k]? = some v → W (dr + 4) (w dr 7 * 6 + (k : Int)) = v
theorem ltI_0 {w W : zW} {dr : Nat} (hdr : dr = 4 ∨ dr = 10) (h : only 2 w W) : ltI w W dr [] := ⟨fun c x a _ => h c x a, fun i _ => h _ _ (by omega), fun k v h => by simp at h⟩
theorem ltI_o {w W W' : zW} {dr : Nat} {vs : List Int} (hdr : dr = 4 ∨ dr = 10) (h : ltI w W dr vs) (k : only 2 W W') : ltI w W' dr vs := ⟨fun c x a e => (k c x a).trans (h.1 c x a e), fun i hi => (k _ _ (by omega)).trans (h.2.1 i hi), fun j v hv => (k _ _ (by omega)).trans (h.2.2 j v hv)⟩
theorem ltI_s {w W : zW} {dr : Nat} {vs : List Int} {v : Int} {j : Int} (h : ltI w W dr vs) (hj : ((vs.length : Nat) : Int) = j) : ltI w (up W (dr + 4) (w dr 7 * 6 + j) v) dr (vs ++ [v]) := by
  refine ⟨fun c x a e => by rw [up_cell _ _ _ _ e]; exact h.1 c x a e, fun i hi => by rw [up_idx _ _ _ _ (by omega)]; exact h.2.1 i hi, fun k u hu => ?_⟩
  by_cases q : k = vs.length
  · subst q
    rw [List.getElem?_append_right (Nat.le_refl _), Nat.sub_self] at hu
    have : v = u := Option.some.inj hu
    rw [hj, up_same, this]
  · have hk : k < vs.length := by
      have := (List.getElem?_eq_some_iff.mp hu).1
      rw [List.length_append] at this
      have e1 : [v].length = 1 := rfl
      omega
    rw [List.getElem?_append_left hk] at hu
    rw [up_idx _ _ _ _ (by omega)]
    exact h.2.2 k u hu
theorem lt_all {b : Int → Int} {n : Int} {Y : zW} {s : zP} (hi : inP n s) (h : okP (lt6 b n Y s)) : (okP (pChim b n (Y 0 0) (-1) s) ∧ okP (lt1 b n Y s) ∧ okP (pNum b n 1 9 (lt1 b n Y s)) ∧ okP (lt2 b n Y s) ∧ okP (pNum b n 0 12 (lt2 b n Y s)) ∧ okP (lt3 b n Y s) ∧ okP (pNum b n 0 29 (lt3 b n Y s)) ∧ okP (lt4 b n Y s) ∧ okP (pTill b n (pVal b n (lt3 b n Y s)) (lt4 b n Y s)) ∧ okP (lt5 b n Y s)) ∧
    (0 ≤ pVal b n s ∧ pVal b n s < Y 0 0) ∧ (1 ≤ pVal b n (lt1 b n Y s) ∧ pVal b n (lt1 b n Y s) ≤ 9) ∧ (0 ≤ pVal b n (lt2 b n Y s) ∧ pVal b n (lt2 b n Y s) ≤ 12) ∧ (0 ≤ pVal b n (lt3 b n Y s) ∧ pVal b n (lt3 b n Y s) ≤ pVal b n (lt4 b n Y s)) ∧ pVal b n (lt4 b n Y s) ≤ 29 ∧ (0 ≤ pVal b n (lt5 b n Y s) ∧ pVal b n (lt5 b n Y s) ≤ 9999) := by
  have h6 := pNum_ok h
  have h5 := pWord_ok h6.1
  have h4 := pTill_ok h5
  have h4b := pWord_ok h4.1
  have h3 := pNum_ok h4b
  have h3b := pWord_ok h3.1
  have h2 := pNum_ok h3b
  have h2b := pWord_ok h2.1
  have h1 := pNum_ok h2b
  have h1b := pWord_ok h1.1
  have h0 := pChim_ok hi h1b
  exact ⟨⟨h1b, h1.1, h2b, h2.1, h3b, h3.1, h4b, h4.1, h5, h6.1⟩, h0.2.1, h1.2, h2.2, ⟨h3.2.1, h4.2.1⟩, h4.2.2, h6.2⟩
theorem rd_all {b : Int → Int} {n : Int} {Y : zW} {s : zP} (hi : inP n s) (h : okP (rd3 b n Y s)) : (okP (rd1 b n Y s) ∧ okP (pChim b n (Y 0 0) (pVal b n s) (rd1 b n Y s)) ∧ okP (rd2 b n Y s)) ∧ (0 ≤ pVal b n s ∧ pVal b n s < Y 0 0) ∧ (0 ≤ pVal b n (rd1 b n Y s) ∧ pVal b n (rd1 b n Y s) < Y 0 0) ∧ pVal b n s ≠ pVal b n (rd1 b n Y s) ∧ 0 ≤ pVal b n (rd2 b n Y s) ∧ pVal b n (rd2 b n Y s) ≤ 9 := by
  have h3 := pNum_ok h
  have h2 := pWord_ok h3.1
  have h1 := pChim_ok (pChim_in hi) h2
  have h0 := pChim_ok hi h1.1
  exact ⟨⟨h1.1, h2, h3.1⟩, h0.2.1, h1.2.1, fun e => h1.2.2 e.symm, h3.2⟩
theorem ne_all {b : Int → Int} {n : Int} {Y : zW} {s : zP} (hi : inP n s) (h : okP (ne3 b n Y s)) : (okP (pChim b n (Y 0 0) (-1) s) ∧ okP (ne1 b n Y s) ∧ okP (pNum b n 0 29 (ne1 b n Y s)) ∧ okP (ne2 b n Y s)) ∧ (0 ≤ pVal b n s ∧ pVal b n s < Y 0 0) ∧ (0 ≤ pVal b n (ne1 b n Y s) ∧ pVal b n (ne1 b n Y s) ≤ pVal b n (ne2 b n Y s)) ∧ pVal b n (ne2 b n Y s) ≤ 29 := by
  have h3 := pTill_ok h
  have h2 := pWord_ok h3.1
  have h1 := pNum_ok h2
  have h0 := pWord_ok h1.1
  have h00 := pChim_ok hi h0
  exact ⟨⟨h0, h1.1, h2, h3.1⟩, h00.2.1, ⟨h1.2.1, h3.2.1⟩, h3.2.2⟩
theorem pNum_inl {b : Int → Int} {n p : Int} (h : p ≤ n) (h0 : 0 ≤ p) : inP n (.inl (tkE b n p)) := by
  have h1 := tkS_b (b := b) h
  have h2 := tkE_b (b := b) h
  exact ⟨by omega, h2.2.1⟩
set_option maxRecDepth 100000 in
set_option maxHeartbeats 4000000 in
theorem s_readLetter {l : Launch} {t dr : Nat} {w : zW} {b : Int → Int} {n : Int} {p : Int} {Y : zW} (hdr : dr = 4 ∨ dr = 10) (hp : pC b n w) (hR : rC b n w (.inl p)) (hY : yC w dr Y) (hO : okY Y)  : zSp l mX8_readLetter false 7 0 0 [zR 2, zR dr] (ZZ t dr 1) w (fun v' S' w' => v' = none ∧ S' = (ZZ t dr 1) ∧ frD dr w w' ∧ pC b n w' ∧ rC b n w' (if 8 ≤ Y 0 1 then .inr (2, tkS b n p) else pSign b n (lt6 b n Y (.inl (tkE b n p)))) ∧ (okP (if 8 ≤ Y 0 1 then .inr (2, tkS b n p) else pSign b n (lt6 b n Y (.inl (tkE b n p)))) → yC w' dr (yAddL Y (pVal b n (.inl (tkE b n p))) (pVal b n (lt1 b n Y (.inl (tkE b n p)))) (pVal b n (lt2 b n Y (.inl (tkE b n p)))) (pVal b n (lt3 b n Y (.inl (tkE b n p)))) (pVal b n (lt4 b n Y (.inl (tkE b n p)))) (pVal b n (lt5 b n Y (.inl (tkE b n p))))))) zNo := by
  refine zA_intro ⟨plainFor_of_name (by decide +kernel), Or.inl (by decide +kernel)⟩ rfl (Nat.le_of_ble_eq_true rfl) ?_
  obtain ⟨⟨p0, p1⟩, ⟨f6, f7⟩, ⟨f3, f4⟩, f2, f5⟩ := id hR
  obtain ⟨⟨y5, y7, y6, y8⟩, -⟩ := id hY
  obtain ⟨a0, a1, a2, a3, -⟩ := id hO
  refine zA_range (fun hr => ?_)
  show zA l mX8_readLetter false 7 0 0 (fun v' S' w' => v' = none ∧ S' = (ZZ t dr 1) ∧ frD dr w w' ∧ pC b n w' ∧ rC b n w' (if 8 ≤ Y 0 1 then .inr (2, tkS b n p) else pSign b n (lt6 b n Y (.inl (tkE b n p)))) ∧ (okP (if 8 ≤ Y 0 1 then .inr (2, tkS b n p) else pSign b n (lt6 b n Y (.inl (tkE b n p)))) → yC w' dr (yAddL Y (pVal b n (.inl (tkE b n p))) (pVal b n (lt1 b n Y (.inl (tkE b n p)))) (pVal b n (lt2 b n Y (.inl (tkE b n p)))) (pVal b n (lt3 b n Y (.inl (tkE b n p)))) (pVal b n (lt4 b n Y (.inl (tkE b n p)))) (pVal b n (lt5 b n Y (.inl (tkE b n p))))))) zNo 0 [zR 2, zR dr, .null, .null] [] (ZZ t dr 1) w
  refine zA_aload_n dX8_readLetter_0 rfl ?_
  refine zA_getI dX8_readLetter_1 fX8_105 (cY0 hdr) rfl ?_
  refine zA_valI (w dr 7) rfl ?_
  refine zA_bipush dX8_readLetter_4 rfl ?_
  refine zA_icmp_lt (tgt := 15) dX8_readLetter_6 (by decide) (by first | assumption | exact hr _ _ | exact inR_mk (by omega) (by omega)) ⟨by decide, by decide⟩ (fun c6 => ?_) (fun c6 => ?_)
  · skip
    have hnf : ¬ 8 ≤ Y 0 1 := by omega
    refine zA_aload_n dX8_readLetter_15 rfl ?_
    refine zA_cV (st := []) dX8_readLetter_16 vX8_step kX8_48 (s_step (w := w) hp (rC_E hR)) (by decide) c2 rfl rfl (Nat.le_of_ble_eq_true rfl) rfl (fun q_1_v q_1_S q_1_w q_1 => ?_)
    obtain ⟨rfl, rfl, ho0, hp0, hst0⟩ := q_1
    have hR0 : rC b n q_1_w (.inl (tkE b n p)) := rC_s hR hst0
    refine zA_range (fun hr => ?_)
    show zA l mX8_readLetter false 7 0 0 (fun v' S' w' => v' = none ∧ S' = (ZZ t dr 1) ∧ frD dr w w' ∧ pC b n w' ∧ rC b n w' (if 8 ≤ Y 0 1 then .inr (2, tkS b n p) else pSign b n (lt6 b n Y (.inl (tkE b n p)))) ∧ (okP (if 8 ≤ Y 0 1 then .inr (2, tkS b n p) else pSign b n (lt6 b n Y (.inl (tkE b n p)))) → yC w' dr (yAddL Y (pVal b n (.inl (tkE b n p))) (pVal b n (lt1 b n Y (.inl (tkE b n p)))) (pVal b n (lt2 b n Y (.inl (tkE b n p)))) (pVal b n (lt3 b n Y (.inl (tkE b n p)))) (pVal b n (lt4 b n Y (.inl (tkE b n p)))) (pVal b n (lt5 b n Y (.inl (tkE b n p))))))) zNo 19 [zR 2, zR dr, .null, .null] [] (ZZ t dr 1) q_1_w
    refine zA_aload_n dX8_readLetter_19 rfl ?_
    refine zA_getI dX8_readLetter_20 fX8_105 (cY0 hdr) rfl ?_
    refine zA_valI (q_1_w dr 7) rfl ?_
    refine zA_valI (w dr 7) (ho0 dr 7 (by omega)) ?_
    refine zA_istore_n (lo1 := [zR 2, zR dr, zI (w dr 7), .null]) dX8_readLetter_23 (by decide) rfl rfl ?_
    refine zA_aload_n dX8_readLetter_24 rfl ?_
    refine zA_iload_n dX8_readLetter_25 rfl ?_
    refine zA_iconst dX8_readLetter_26 ?_
    refine zA_aload_n dX8_readLetter_27 rfl ?_
    refine zA_aload_n dX8_readLetter_28 rfl ?_
    refine zA_iconst dX8_readLetter_29 ?_
    refine zA_cV (st := [zI 0, zI (w dr 7), zR dr]) dX8_readLetter_30 vX8_takeChimney kX8_108 (s_takeChimney (w := q_1_w) (un := (-1)) hdr ⟨by decide, by decide⟩ hp0 hR0) (by decide) c2 rfl rfl (Nat.le_of_ble_eq_true rfl) rfl (fun q_2_v q_2_S q_2_w q_2 => ?_)
    obtain ⟨⟨rva, rfl, hrva, hrqa⟩, rfl, hoa, hpa, hRa⟩ := q_2
    rw [show q_1_w dr 5 = Y 0 0 from (ho0 dr 5 (by omega)).trans y5] at hrqa hRa
    have hIa := ltI_o hdr (ltI_0 hdr ho0) hoa
    refine zA_range (fun hr => ?_)
    show zA l mX8_readLetter false 7 0 0 (fun v' S' w' => v' = none ∧ S' = (ZZ t dr 1) ∧ frD dr w w' ∧ pC b n w' ∧ rC b n w' (if 8 ≤ Y 0 1 then .inr (2, tkS b n p) else pSign b n (lt6 b n Y (.inl (tkE b n p)))) ∧ (okP (if 8 ≤ Y 0 1 then .inr (2, tkS b n p) else pSign b n (lt6 b n Y (.inl (tkE b n p)))) → yC w' dr (yAddL Y (pVal b n (.inl (tkE b n p))) (pVal b n (lt1 b n Y (.inl (tkE b n p)))) (pVal b n (lt2 b n Y (.inl (tkE b n p)))) (pVal b n (lt3 b n Y (.inl (tkE b n p)))) (pVal b n (lt4 b n Y (.inl (tkE b n p)))) (pVal b n (lt5 b n Y (.inl (tkE b n p))))))) zNo 33 [zR 2, zR dr, zI (w dr 7), .null] [zI rva, zI 0, zI (w dr 7), zR dr] (ZZ t dr 1) q_2_w
    refine zA_cV (st := []) dX8_readLetter_33 vX10_setFact kX8_112 (s_setFact (w := q_2_w) hdr (a := w dr 7) (k := 0) (v := rva) (by omega) (by omega) (by decide) (by decide) hrva) (by decide) (cY0 hdr) rfl rfl (Nat.le_of_ble_eq_true rfl) rfl (zRt_el ?_)
    show zA l mX8_readLetter false 7 0 0 (fun v' S' w' => v' = none ∧ S' = (ZZ t dr 1) ∧ frD dr w w' ∧ pC b n w' ∧ rC b n w' (if 8 ≤ Y 0 1 then .inr (2, tkS b n p) else pSign b n (lt6 b n Y (.inl (tkE b n p)))) ∧ (okP (if 8 ≤ Y 0 1 then .inr (2, tkS b n p) else pSign b n (lt6 b n Y (.inl (tkE b n p)))) → yC w' dr (yAddL Y (pVal b n (.inl (tkE b n p))) (pVal b n (lt1 b n Y (.inl (tkE b n p)))) (pVal b n (lt2 b n Y (.inl (tkE b n p)))) (pVal b n (lt3 b n Y (.inl (tkE b n p)))) (pVal b n (lt4 b n Y (.inl (tkE b n p)))) (pVal b n (lt5 b n Y (.inl (tkE b n p))))))) zNo 36 [zR 2, zR dr, zI (w dr 7), .null] [] (ZZ t dr 1) (up q_2_w (dr + 4) (w dr 7 * 6 + 0) rva)
    have hI0 := ltI_s (v := rva) (j := 0) hIa rfl
    replace hpa := pC_up (c0 := dr + 4) (i := w dr 7 * 6 + 0) (v := rva) hpa (by omega) (by omega)
    replace hRa := rC_up (c0 := dr + 4) (i := w dr 7 * 6 + 0) (v := rva) hRa (by omega)
    refine zA_aload_n dX8_readLetter_36 rfl ?_
    refine zA_ldcS (a := 1005) dX8_readLetter_37 (List.mem_of_getElem? (i := 28) rfl) ?_
    refine zA_cV (st := []) dX8_readLetter_39 vX8_takeWord kX8_117 (s_takeWord (w := (up q_2_w (dr + 4) (w dr 7 * 6 + 0) rva)) (k := 5) (by decide) hpa hRa) (by decide) c2 rfl rfl (Nat.le_of_ble_eq_true rfl) rfl (fun q_3_v q_3_S q_3_w q_3 => ?_)
    obtain ⟨rfl, rfl, hob, hpb, hRb⟩ := q_3
    have hIb := ltI_o hdr hI0 hob
    refine zA_range (fun hr => ?_)
    show zA l mX8_readLetter false 7 0 0 (fun v' S' w' => v' = none ∧ S' = (ZZ t dr 1) ∧ frD dr w w' ∧ pC b n w' ∧ rC b n w' (if 8 ≤ Y 0 1 then .inr (2, tkS b n p) else pSign b n (lt6 b n Y (.inl (tkE b n p)))) ∧ (okP (if 8 ≤ Y 0 1 then .inr (2, tkS b n p) else pSign b n (lt6 b n Y (.inl (tkE b n p)))) → yC w' dr (yAddL Y (pVal b n (.inl (tkE b n p))) (pVal b n (lt1 b n Y (.inl (tkE b n p)))) (pVal b n (lt2 b n Y (.inl (tkE b n p)))) (pVal b n (lt3 b n Y (.inl (tkE b n p)))) (pVal b n (lt4 b n Y (.inl (tkE b n p)))) (pVal b n (lt5 b n Y (.inl (tkE b n p))))))) zNo 42 [zR 2, zR dr, zI (w dr 7), .null] [] (ZZ t dr 1) q_3_w
    refine zA_aload_n dX8_readLetter_42 rfl ?_
    refine zA_iload_n dX8_readLetter_43 rfl ?_
    refine zA_iconst dX8_readLetter_44 ?_
    refine zA_aload_n dX8_readLetter_45 rfl ?_
    refine zA_iconst dX8_readLetter_46 ?_
    refine zA_bipush dX8_readLetter_47 rfl ?_
    refine zA_cV (st := [zI 1, zI (w dr 7), zR dr]) dX8_readLetter_49 vX8_takeNumber kX8_88 (s_takeNumber (w := q_3_w) (lo := 1) (hi := 9) (s := _) (by decide) (by decide) ⟨by decide, by decide⟩ ⟨by decide, by decide⟩ hpb hRb) (by decide) c2 rfl rfl (Nat.le_of_ble_eq_true rfl) rfl (fun q_4_v q_4_S q_4_w q_4 => ?_)
    obtain ⟨⟨rvc, rfl, hrvc, hrqc⟩, rfl, hoc, hpc, hRc⟩ := q_4
    have hIc := ltI_o hdr hIb hoc
    refine zA_range (fun hr => ?_)
    show zA l mX8_readLetter false 7 0 0 (fun v' S' w' => v' = none ∧ S' = (ZZ t dr 1) ∧ frD dr w w' ∧ pC b n w' ∧ rC b n w' (if 8 ≤ Y 0 1 then .inr (2, tkS b n p) else pSign b n (lt6 b n Y (.inl (tkE b n p)))) ∧ (okP (if 8 ≤ Y 0 1 then .inr (2, tkS b n p) else pSign b n (lt6 b n Y (.inl (tkE b n p)))) → yC w' dr (yAddL Y (pVal b n (.inl (tkE b n p))) (pVal b n (lt1 b n Y (.inl (tkE b n p)))) (pVal b n (lt2 b n Y (.inl (tkE b n p)))) (pVal b n (lt3 b n Y (.inl (tkE b n p)))) (pVal b n (lt4 b n Y (.inl (tkE b n p)))) (pVal b n (lt5 b n Y (.inl (tkE b n p))))))) zNo 52 [zR 2, zR dr, zI (w dr 7), .null] [zI rvc, zI 1, zI (w dr 7), zR dr] (ZZ t dr 1) q_4_w
    refine zA_cV (st := []) dX8_readLetter_52 vX10_setFact kX8_112 (s_setFact (w := q_4_w) hdr (a := w dr 7) (k := 1) (v := rvc) (by omega) (by omega) (by decide) (by decide) hrvc) (by decide) (cY0 hdr) rfl rfl (Nat.le_of_ble_eq_true rfl) rfl (zRt_el ?_)
    show zA l mX8_readLetter false 7 0 0 (fun v' S' w' => v' = none ∧ S' = (ZZ t dr 1) ∧ frD dr w w' ∧ pC b n w' ∧ rC b n w' (if 8 ≤ Y 0 1 then .inr (2, tkS b n p) else pSign b n (lt6 b n Y (.inl (tkE b n p)))) ∧ (okP (if 8 ≤ Y 0 1 then .inr (2, tkS b n p) else pSign b n (lt6 b n Y (.inl (tkE b n p)))) → yC w' dr (yAddL Y (pVal b n (.inl (tkE b n p))) (pVal b n (lt1 b n Y (.inl (tkE b n p)))) (pVal b n (lt2 b n Y (.inl (tkE b n p)))) (pVal b n (lt3 b n Y (.inl (tkE b n p)))) (pVal b n (lt4 b n Y (.inl (tkE b n p)))) (pVal b n (lt5 b n Y (.inl (tkE b n p))))))) zNo 55 [zR 2, zR dr, zI (w dr 7), .null] [] (ZZ t dr 1) (up q_4_w (dr + 4) (w dr 7 * 6 + 1) rvc)
    have hI1 := ltI_s (v := rvc) (j := 1) hIc rfl
    replace hpc := pC_up (c0 := dr + 4) (i := w dr 7 * 6 + 1) (v := rvc) hpc (by omega) (by omega)
    replace hRc := rC_up (c0 := dr + 4) (i := w dr 7 * 6 + 1) (v := rvc) hRc (by omega)
    refine zA_aload_n dX8_readLetter_55 rfl ?_
    refine zA_ldcS (a := 1006) dX8_readLetter_56 (List.mem_of_getElem? (i := 29) rfl) ?_
    refine zA_cV (st := []) dX8_readLetter_58 vX8_takeWord kX8_117 (s_takeWord (w := (up q_4_w (dr + 4) (w dr 7 * 6 + 1) rvc)) (k := 6) (by decide) hpc hRc) (by decide) c2 rfl rfl (Nat.le_of_ble_eq_true rfl) rfl (fun q_5_v q_5_S q_5_w q_5 => ?_)
    obtain ⟨rfl, rfl, hod, hpd, hRd⟩ := q_5
    have hId := ltI_o hdr hI1 hod
    refine zA_range (fun hr => ?_)
    show zA l mX8_readLetter false 7 0 0 (fun v' S' w' => v' = none ∧ S' = (ZZ t dr 1) ∧ frD dr w w' ∧ pC b n w' ∧ rC b n w' (if 8 ≤ Y 0 1 then .inr (2, tkS b n p) else pSign b n (lt6 b n Y (.inl (tkE b n p)))) ∧ (okP (if 8 ≤ Y 0 1 then .inr (2, tkS b n p) else pSign b n (lt6 b n Y (.inl (tkE b n p)))) → yC w' dr (yAddL Y (pVal b n (.inl (tkE b n p))) (pVal b n (lt1 b n Y (.inl (tkE b n p)))) (pVal b n (lt2 b n Y (.inl (tkE b n p)))) (pVal b n (lt3 b n Y (.inl (tkE b n p)))) (pVal b n (lt4 b n Y (.inl (tkE b n p)))) (pVal b n (lt5 b n Y (.inl (tkE b n p))))))) zNo 61 [zR 2, zR dr, zI (w dr 7), .null] [] (ZZ t dr 1) q_5_w
    refine zA_aload_n dX8_readLetter_61 rfl ?_
    refine zA_iload_n dX8_readLetter_62 rfl ?_
    refine zA_iconst dX8_readLetter_63 ?_
    refine zA_aload_n dX8_readLetter_64 rfl ?_
    refine zA_iconst dX8_readLetter_65 ?_
    refine zA_bipush dX8_readLetter_66 rfl ?_
    refine zA_cV (st := [zI 2, zI (w dr 7), zR dr]) dX8_readLetter_68 vX8_takeNumber kX8_88 (s_takeNumber (w := q_5_w) (lo := 0) (hi := 12) (s := _) (by decide) (by decide) ⟨by decide, by decide⟩ ⟨by decide, by decide⟩ hpd hRd) (by decide) c2 rfl rfl (Nat.le_of_ble_eq_true rfl) rfl (fun q_6_v q_6_S q_6_w q_6 => ?_)
    obtain ⟨⟨rve, rfl, hrve, hrqe⟩, rfl, hoe, hpe, hRe⟩ := q_6
    have hIe := ltI_o hdr hId hoe
    refine zA_range (fun hr => ?_)
    show zA l mX8_readLetter false 7 0 0 (fun v' S' w' => v' = none ∧ S' = (ZZ t dr 1) ∧ frD dr w w' ∧ pC b n w' ∧ rC b n w' (if 8 ≤ Y 0 1 then .inr (2, tkS b n p) else pSign b n (lt6 b n Y (.inl (tkE b n p)))) ∧ (okP (if 8 ≤ Y 0 1 then .inr (2, tkS b n p) else pSign b n (lt6 b n Y (.inl (tkE b n p)))) → yC w' dr (yAddL Y (pVal b n (.inl (tkE b n p))) (pVal b n (lt1 b n Y (.inl (tkE b n p)))) (pVal b n (lt2 b n Y (.inl (tkE b n p)))) (pVal b n (lt3 b n Y (.inl (tkE b n p)))) (pVal b n (lt4 b n Y (.inl (tkE b n p)))) (pVal b n (lt5 b n Y (.inl (tkE b n p))))))) zNo 71 [zR 2, zR dr, zI (w dr 7), .null] [zI rve, zI 2, zI (w dr 7), zR dr] (ZZ t dr 1) q_6_w
    refine zA_cV (st := []) dX8_readLetter_71 vX10_setFact kX8_112 (s_setFact (w := q_6_w) hdr (a := w dr 7) (k := 2) (v := rve) (by omega) (by omega) (by decide) (by decide) hrve) (by decide) (cY0 hdr) rfl rfl (Nat.le_of_ble_eq_true rfl) rfl (zRt_el ?_)
    show zA l mX8_readLetter false 7 0 0 (fun v' S' w' => v' = none ∧ S' = (ZZ t dr 1) ∧ frD dr w w' ∧ pC b n w' ∧ rC b n w' (if 8 ≤ Y 0 1 then .inr (2, tkS b n p) else pSign b n (lt6 b n Y (.inl (tkE b n p)))) ∧ (okP (if 8 ≤ Y 0 1 then .inr (2, tkS b n p) else pSign b n (lt6 b n Y (.inl (tkE b n p)))) → yC w' dr (yAddL Y (pVal b n (.inl (tkE b n p))) (pVal b n (lt1 b n Y (.inl (tkE b n p)))) (pVal b n (lt2 b n Y (.inl (tkE b n p)))) (pVal b n (lt3 b n Y (.inl (tkE b n p)))) (pVal b n (lt4 b n Y (.inl (tkE b n p)))) (pVal b n (lt5 b n Y (.inl (tkE b n p))))))) zNo 74 [zR 2, zR dr, zI (w dr 7), .null] [] (ZZ t dr 1) (up q_6_w (dr + 4) (w dr 7 * 6 + 2) rve)
    have hI2 := ltI_s (v := rve) (j := 2) hIe rfl
    replace hpe := pC_up (c0 := dr + 4) (i := w dr 7 * 6 + 2) (v := rve) hpe (by omega) (by omega)
    replace hRe := rC_up (c0 := dr + 4) (i := w dr 7 * 6 + 2) (v := rve) hRe (by omega)
    refine zA_aload_n dX8_readLetter_74 rfl ?_
    refine zA_ldcS (a := 1007) dX8_readLetter_75 (List.mem_of_getElem? (i := 30) rfl) ?_
    refine zA_cV (st := []) dX8_readLetter_77 vX8_takeWord kX8_117 (s_takeWord (w := (up q_6_w (dr + 4) (w dr 7 * 6 + 2) rve)) (k := 7) (by decide) hpe hRe) (by decide) c2 rfl rfl (Nat.le_of_ble_eq_true rfl) rfl (fun q_7_v q_7_S q_7_w q_7 => ?_)
    obtain ⟨rfl, rfl, hof, hpf, hRf⟩ := q_7
    have hIf := ltI_o hdr hI2 hof
    refine zA_range (fun hr => ?_)
    show zA l mX8_readLetter false 7 0 0 (fun v' S' w' => v' = none ∧ S' = (ZZ t dr 1) ∧ frD dr w w' ∧ pC b n w' ∧ rC b n w' (if 8 ≤ Y 0 1 then .inr (2, tkS b n p) else pSign b n (lt6 b n Y (.inl (tkE b n p)))) ∧ (okP (if 8 ≤ Y 0 1 then .inr (2, tkS b n p) else pSign b n (lt6 b n Y (.inl (tkE b n p)))) → yC w' dr (yAddL Y (pVal b n (.inl (tkE b n p))) (pVal b n (lt1 b n Y (.inl (tkE b n p)))) (pVal b n (lt2 b n Y (.inl (tkE b n p)))) (pVal b n (lt3 b n Y (.inl (tkE b n p)))) (pVal b n (lt4 b n Y (.inl (tkE b n p)))) (pVal b n (lt5 b n Y (.inl (tkE b n p))))))) zNo 80 [zR 2, zR dr, zI (w dr 7), .null] [] (ZZ t dr 1) q_7_w
    refine zA_aload_n dX8_readLetter_80 rfl ?_
    refine zA_iconst dX8_readLetter_81 ?_
    refine zA_bipush dX8_readLetter_82 rfl ?_
    refine zA_cV (st := []) dX8_readLetter_84 vX8_takeNumber kX8_88 (s_takeNumber (w := q_7_w) (lo := 0) (hi := 29) (s := _) (by decide) (by decide) ⟨by decide, by decide⟩ ⟨by decide, by decide⟩ hpf hRf) (by decide) c2 rfl rfl (Nat.le_of_ble_eq_true rfl) rfl (fun q_8_v q_8_S q_8_w q_8 => ?_)
    obtain ⟨⟨rvg, rfl, hrvg, hrqg⟩, rfl, hog, hpg, hRg⟩ := q_8
    have hIg := ltI_o hdr hIf hog
    refine zA_range (fun hr => ?_)
    show zA l mX8_readLetter false 7 0 0 (fun v' S' w' => v' = none ∧ S' = (ZZ t dr 1) ∧ frD dr w w' ∧ pC b n w' ∧ rC b n w' (if 8 ≤ Y 0 1 then .inr (2, tkS b n p) else pSign b n (lt6 b n Y (.inl (tkE b n p)))) ∧ (okP (if 8 ≤ Y 0 1 then .inr (2, tkS b n p) else pSign b n (lt6 b n Y (.inl (tkE b n p)))) → yC w' dr (yAddL Y (pVal b n (.inl (tkE b n p))) (pVal b n (lt1 b n Y (.inl (tkE b n p)))) (pVal b n (lt2 b n Y (.inl (tkE b n p)))) (pVal b n (lt3 b n Y (.inl (tkE b n p)))) (pVal b n (lt4 b n Y (.inl (tkE b n p)))) (pVal b n (lt5 b n Y (.inl (tkE b n p))))))) zNo 87 [zR 2, zR dr, zI (w dr 7), .null] [zI rvg] (ZZ t dr 1) q_8_w
    refine zA_istore_n (lo1 := [zR 2, zR dr, zI (w dr 7), zI rvg]) dX8_readLetter_87 (by decide) rfl rfl ?_
    refine zA_aload_n dX8_readLetter_88 rfl ?_
    refine zA_iload_n dX8_readLetter_89 rfl ?_
    refine zA_iconst dX8_readLetter_90 ?_
    refine zA_iload_n dX8_readLetter_91 rfl ?_
    refine zA_cV (st := []) dX8_readLetter_92 vX10_setFact kX8_112 (s_setFact (w := q_8_w) hdr (a := w dr 7) (k := 3) (v := rvg) (by omega) (by omega) (by decide) (by decide) hrvg) (by decide) (cY0 hdr) rfl rfl (Nat.le_of_ble_eq_true rfl) rfl (zRt_el ?_)
    show zA l mX8_readLetter false 7 0 0 (fun v' S' w' => v' = none ∧ S' = (ZZ t dr 1) ∧ frD dr w w' ∧ pC b n w' ∧ rC b n w' (if 8 ≤ Y 0 1 then .inr (2, tkS b n p) else pSign b n (lt6 b n Y (.inl (tkE b n p)))) ∧ (okP (if 8 ≤ Y 0 1 then .inr (2, tkS b n p) else pSign b n (lt6 b n Y (.inl (tkE b n p)))) → yC w' dr (yAddL Y (pVal b n (.inl (tkE b n p))) (pVal b n (lt1 b n Y (.inl (tkE b n p)))) (pVal b n (lt2 b n Y (.inl (tkE b n p)))) (pVal b n (lt3 b n Y (.inl (tkE b n p)))) (pVal b n (lt4 b n Y (.inl (tkE b n p)))) (pVal b n (lt5 b n Y (.inl (tkE b n p))))))) zNo 95 [zR 2, zR dr, zI (w dr 7), zI rvg] [] (ZZ t dr 1) (up q_8_w (dr + 4) (w dr 7 * 6 + 3) rvg)
    have hI3 := ltI_s (v := rvg) (j := 3) hIg rfl
    replace hpg := pC_up (c0 := dr + 4) (i := w dr 7 * 6 + 3) (v := rvg) hpg (by omega) (by omega)
    replace hRg := rC_up (c0 := dr + 4) (i := w dr 7 * 6 + 3) (v := rvg) hRg (by omega)
    refine zA_aload_n dX8_readLetter_95 rfl ?_
    refine zA_ldcS (a := 1008) dX8_readLetter_96 (List.mem_of_getElem? (i := 31) rfl) ?_
    refine zA_cV (st := []) dX8_readLetter_98 vX8_takeWord kX8_117 (s_takeWord (w := (up q_8_w (dr + 4) (w dr 7 * 6 + 3) rvg)) (k := 8) (by decide) hpg hRg) (by decide) c2 rfl rfl (Nat.le_of_ble_eq_true rfl) rfl (fun q_9_v q_9_S q_9_w q_9 => ?_)
    obtain ⟨rfl, rfl, hoh, hph, hRh⟩ := q_9
    have hIh := ltI_o hdr hI3 hoh
    have hrvg2 : okP (lt4 b n Y (.inl (tkE b n p))) → rvg = pVal b n (lt3 b n Y (.inl (tkE b n p))) ∧ rvg ≤ 29 := fun h => by
      have h1 := pWord_ok h
      have h2 := hrqg h1
      have h3 := (pNum_ok h1).2.2
      exact ⟨h2, by rw [h2]; exact h3⟩
    refine zA_range (fun hr => ?_)
    show zA l mX8_readLetter false 7 0 0 (fun v' S' w' => v' = none ∧ S' = (ZZ t dr 1) ∧ frD dr w w' ∧ pC b n w' ∧ rC b n w' (if 8 ≤ Y 0 1 then .inr (2, tkS b n p) else pSign b n (lt6 b n Y (.inl (tkE b n p)))) ∧ (okP (if 8 ≤ Y 0 1 then .inr (2, tkS b n p) else pSign b n (lt6 b n Y (.inl (tkE b n p)))) → yC w' dr (yAddL Y (pVal b n (.inl (tkE b n p))) (pVal b n (lt1 b n Y (.inl (tkE b n p)))) (pVal b n (lt2 b n Y (.inl (tkE b n p)))) (pVal b n (lt3 b n Y (.inl (tkE b n p)))) (pVal b n (lt4 b n Y (.inl (tkE b n p)))) (pVal b n (lt5 b n Y (.inl (tkE b n p))))))) zNo 101 [zR 2, zR dr, zI (w dr 7), zI rvg] [] (ZZ t dr 1) q_9_w
    refine zA_aload_n dX8_readLetter_101 rfl ?_
    refine zA_iload_n dX8_readLetter_102 rfl ?_
    refine zA_iconst dX8_readLetter_103 ?_
    refine zA_aload_n dX8_readLetter_104 rfl ?_
    refine zA_iload_n dX8_readLetter_105 rfl ?_
    refine zA_cV (st := [zI 4, zI (w dr 7), zR dr]) dX8_readLetter_106 vX8_takeTill kX8_127 (s_takeTill (w := q_9_w) (f := rvg) hrvg (fun h => (hrvg2 h).2) hph hRh) (by decide) c2 rfl rfl (Nat.le_of_ble_eq_true rfl) rfl (fun q_10_v q_10_S q_10_w q_10 => ?_)
    obtain ⟨⟨rvi, rfl, hrvi, hrqi⟩, rfl, hoi, hpi, hRi⟩ := q_10
    rw [pTill_f (fun h => (hrvg2 h).1)] at hrqi hRi
    have hIi := ltI_o hdr hIh hoi
    refine zA_range (fun hr => ?_)
    show zA l mX8_readLetter false 7 0 0 (fun v' S' w' => v' = none ∧ S' = (ZZ t dr 1) ∧ frD dr w w' ∧ pC b n w' ∧ rC b n w' (if 8 ≤ Y 0 1 then .inr (2, tkS b n p) else pSign b n (lt6 b n Y (.inl (tkE b n p)))) ∧ (okP (if 8 ≤ Y 0 1 then .inr (2, tkS b n p) else pSign b n (lt6 b n Y (.inl (tkE b n p)))) → yC w' dr (yAddL Y (pVal b n (.inl (tkE b n p))) (pVal b n (lt1 b n Y (.inl (tkE b n p)))) (pVal b n (lt2 b n Y (.inl (tkE b n p)))) (pVal b n (lt3 b n Y (.inl (tkE b n p)))) (pVal b n (lt4 b n Y (.inl (tkE b n p)))) (pVal b n (lt5 b n Y (.inl (tkE b n p))))))) zNo 109 [zR 2, zR dr, zI (w dr 7), zI rvg] [zI rvi, zI 4, zI (w dr 7), zR dr] (ZZ t dr 1) q_10_w
    refine zA_cV (st := []) dX8_readLetter_109 vX10_setFact kX8_112 (s_setFact (w := q_10_w) hdr (a := w dr 7) (k := 4) (v := rvi) (by omega) (by omega) (by decide) (by decide) hrvi) (by decide) (cY0 hdr) rfl rfl (Nat.le_of_ble_eq_true rfl) rfl (zRt_el ?_)
    show zA l mX8_readLetter false 7 0 0 (fun v' S' w' => v' = none ∧ S' = (ZZ t dr 1) ∧ frD dr w w' ∧ pC b n w' ∧ rC b n w' (if 8 ≤ Y 0 1 then .inr (2, tkS b n p) else pSign b n (lt6 b n Y (.inl (tkE b n p)))) ∧ (okP (if 8 ≤ Y 0 1 then .inr (2, tkS b n p) else pSign b n (lt6 b n Y (.inl (tkE b n p)))) → yC w' dr (yAddL Y (pVal b n (.inl (tkE b n p))) (pVal b n (lt1 b n Y (.inl (tkE b n p)))) (pVal b n (lt2 b n Y (.inl (tkE b n p)))) (pVal b n (lt3 b n Y (.inl (tkE b n p)))) (pVal b n (lt4 b n Y (.inl (tkE b n p)))) (pVal b n (lt5 b n Y (.inl (tkE b n p))))))) zNo 112 [zR 2, zR dr, zI (w dr 7), zI rvg] [] (ZZ t dr 1) (up q_10_w (dr + 4) (w dr 7 * 6 + 4) rvi)
    have hI4 := ltI_s (v := rvi) (j := 4) hIi rfl
    replace hpi := pC_up (c0 := dr + 4) (i := w dr 7 * 6 + 4) (v := rvi) hpi (by omega) (by omega)
    replace hRi := rC_up (c0 := dr + 4) (i := w dr 7 * 6 + 4) (v := rvi) hRi (by omega)
    refine zA_aload_n dX8_readLetter_112 rfl ?_
    refine zA_ldcS (a := 1009) dX8_readLetter_113 (List.mem_of_getElem? (i := 32) rfl) ?_
    refine zA_cV (st := []) dX8_readLetter_115 vX8_takeWord kX8_117 (s_takeWord (w := (up q_10_w (dr + 4) (w dr 7 * 6 + 4) rvi)) (k := 9) (by decide) hpi hRi) (by decide) c2 rfl rfl (Nat.le_of_ble_eq_true rfl) rfl (fun q_11_v q_11_S q_11_w q_11 => ?_)
    obtain ⟨rfl, rfl, hoj, hpj, hRj⟩ := q_11
    have hIj := ltI_o hdr hI4 hoj
    refine zA_range (fun hr => ?_)
    show zA l mX8_readLetter false 7 0 0 (fun v' S' w' => v' = none ∧ S' = (ZZ t dr 1) ∧ frD dr w w' ∧ pC b n w' ∧ rC b n w' (if 8 ≤ Y 0 1 then .inr (2, tkS b n p) else pSign b n (lt6 b n Y (.inl (tkE b n p)))) ∧ (okP (if 8 ≤ Y 0 1 then .inr (2, tkS b n p) else pSign b n (lt6 b n Y (.inl (tkE b n p)))) → yC w' dr (yAddL Y (pVal b n (.inl (tkE b n p))) (pVal b n (lt1 b n Y (.inl (tkE b n p)))) (pVal b n (lt2 b n Y (.inl (tkE b n p)))) (pVal b n (lt3 b n Y (.inl (tkE b n p)))) (pVal b n (lt4 b n Y (.inl (tkE b n p)))) (pVal b n (lt5 b n Y (.inl (tkE b n p))))))) zNo 118 [zR 2, zR dr, zI (w dr 7), zI rvg] [] (ZZ t dr 1) q_11_w
    refine zA_aload_n dX8_readLetter_118 rfl ?_
    refine zA_iload_n dX8_readLetter_119 rfl ?_
    refine zA_iconst dX8_readLetter_120 ?_
    refine zA_aload_n dX8_readLetter_121 rfl ?_
    refine zA_iconst dX8_readLetter_122 ?_
    refine zA_sipush dX8_readLetter_123 rfl ?_
    refine zA_cV (st := [zI 5, zI (w dr 7), zR dr]) dX8_readLetter_126 vX8_takeNumber kX8_88 (s_takeNumber (w := q_11_w) (lo := 0) (hi := 9999) (s := _) (by decide) (by decide) ⟨by decide, by decide⟩ ⟨by decide, by decide⟩ hpj hRj) (by decide) c2 rfl rfl (Nat.le_of_ble_eq_true rfl) rfl (fun q_12_v q_12_S q_12_w q_12 => ?_)
    obtain ⟨⟨rvk, rfl, hrvk, hrqk⟩, rfl, hok, hpk, hRk⟩ := q_12
    have hIk := ltI_o hdr hIj hok
    refine zA_range (fun hr => ?_)
    show zA l mX8_readLetter false 7 0 0 (fun v' S' w' => v' = none ∧ S' = (ZZ t dr 1) ∧ frD dr w w' ∧ pC b n w' ∧ rC b n w' (if 8 ≤ Y 0 1 then .inr (2, tkS b n p) else pSign b n (lt6 b n Y (.inl (tkE b n p)))) ∧ (okP (if 8 ≤ Y 0 1 then .inr (2, tkS b n p) else pSign b n (lt6 b n Y (.inl (tkE b n p)))) → yC w' dr (yAddL Y (pVal b n (.inl (tkE b n p))) (pVal b n (lt1 b n Y (.inl (tkE b n p)))) (pVal b n (lt2 b n Y (.inl (tkE b n p)))) (pVal b n (lt3 b n Y (.inl (tkE b n p)))) (pVal b n (lt4 b n Y (.inl (tkE b n p)))) (pVal b n (lt5 b n Y (.inl (tkE b n p))))))) zNo 129 [zR 2, zR dr, zI (w dr 7), zI rvg] [zI rvk, zI 5, zI (w dr 7), zR dr] (ZZ t dr 1) q_12_w
    refine zA_cV (st := []) dX8_readLetter_129 vX10_setFact kX8_112 (s_setFact (w := q_12_w) hdr (a := w dr 7) (k := 5) (v := rvk) (by omega) (by omega) (by decide) (by decide) hrvk) (by decide) (cY0 hdr) rfl rfl (Nat.le_of_ble_eq_true rfl) rfl (zRt_el ?_)
    show zA l mX8_readLetter false 7 0 0 (fun v' S' w' => v' = none ∧ S' = (ZZ t dr 1) ∧ frD dr w w' ∧ pC b n w' ∧ rC b n w' (if 8 ≤ Y 0 1 then .inr (2, tkS b n p) else pSign b n (lt6 b n Y (.inl (tkE b n p)))) ∧ (okP (if 8 ≤ Y 0 1 then .inr (2, tkS b n p) else pSign b n (lt6 b n Y (.inl (tkE b n p)))) → yC w' dr (yAddL Y (pVal b n (.inl (tkE b n p))) (pVal b n (lt1 b n Y (.inl (tkE b n p)))) (pVal b n (lt2 b n Y (.inl (tkE b n p)))) (pVal b n (lt3 b n Y (.inl (tkE b n p)))) (pVal b n (lt4 b n Y (.inl (tkE b n p)))) (pVal b n (lt5 b n Y (.inl (tkE b n p))))))) zNo 132 [zR 2, zR dr, zI (w dr 7), zI rvg] [] (ZZ t dr 1) (up q_12_w (dr + 4) (w dr 7 * 6 + 5) rvk)
    have hI5 := ltI_s (v := rvk) (j := 5) hIk rfl
    replace hpk := pC_up (c0 := dr + 4) (i := w dr 7 * 6 + 5) (v := rvk) hpk (by omega) (by omega)
    replace hRk := rC_up (c0 := dr + 4) (i := w dr 7 * 6 + 5) (v := rvk) hRk (by omega)
    refine zA_aload_n dX8_readLetter_132 rfl ?_
    refine zA_cV (st := []) dX8_readLetter_133 vX8_takeSign kX8_91 (s_takeSign (w := (up q_12_w (dr + 4) (w dr 7 * 6 + 5) rvk)) hpk hRk) (by decide) c2 rfl rfl (Nat.le_of_ble_eq_true rfl) rfl (fun q_13_v q_13_S q_13_w q_13 => ?_)
    obtain ⟨rfl, rfl, hoz, hpz, hRz⟩ := q_13
    have hIz := ltI_o hdr hI5 hoz
    have hfz : frD dr w q_13_w := fun c x a e => hIz.1 c x a (by omega)
    refine zA_range (fun hr => ?_)
    show zA l mX8_readLetter false 7 0 0 (fun v' S' w' => v' = none ∧ S' = (ZZ t dr 1) ∧ frD dr w w' ∧ pC b n w' ∧ rC b n w' (if 8 ≤ Y 0 1 then .inr (2, tkS b n p) else pSign b n (lt6 b n Y (.inl (tkE b n p)))) ∧ (okP (if 8 ≤ Y 0 1 then .inr (2, tkS b n p) else pSign b n (lt6 b n Y (.inl (tkE b n p)))) → yC w' dr (yAddL Y (pVal b n (.inl (tkE b n p))) (pVal b n (lt1 b n Y (.inl (tkE b n p)))) (pVal b n (lt2 b n Y (.inl (tkE b n p)))) (pVal b n (lt3 b n Y (.inl (tkE b n p)))) (pVal b n (lt4 b n Y (.inl (tkE b n p)))) (pVal b n (lt5 b n Y (.inl (tkE b n p))))))) zNo 136 [zR 2, zR dr, zI (w dr 7), zI rvg] [] (ZZ t dr 1) q_13_w
    refine zA_aload_n dX8_readLetter_136 rfl ?_
    refine zA_getI dX8_readLetter_137 fX8_31 c2 rfl ?_
    refine zA_valI (q_13_w 2 6) rfl ?_
    refine zA_if_ne (tgt := 153) dX8_readLetter_140 (by decide) (by first | assumption | exact hr _ _ | exact inR_mk (by omega) (by omega)) (fun c140 => ?_) (fun c140 => ?_)
    · skip
      refine zA_vret dX8_readLetter_153 rfl ?_
      rw [if_neg hnf]
      exact ⟨rfl, rfl, hfz, hpz, hRz, fun h => absurd ((rC_ok hRz).mpr h) c140⟩
    · skip
      have w7 : q_13_w dr 7 = w dr 7 := hIz.1 dr 7 (by omega) (by omega)
      refine zA_aload_n dX8_readLetter_143 rfl ?_
      refine zA_dup dX8_readLetter_144 rfl ?_
      refine zA_getI dX8_readLetter_145 fX8_105 (cY0 hdr) rfl ?_
      refine zA_valI (q_13_w dr 7) rfl ?_
      refine zA_iconst dX8_readLetter_148 ?_
      refine zA_iadd dX8_readLetter_149 ?_
      refine zA_putI dX8_readLetter_150 fX8_105 (cY0 hdr) rfl (by first | assumption | exact hr _ _ | exact inR_mk (by omega) (by omega)) ⟨rfl, rfl⟩ ?_
      refine zA_namew (fun w_14 hw_14 => ?_)
      refine zA_range (fun hr => ?_)
      replace hw_14 : w_14 = up q_13_w dr 7 ((q_13_w dr 7) + 1) := hw_14
      refine zA_vret dX8_readLetter_153 rfl ?_
      rw [if_neg hnf]
      have hokz := (rC_ok hRz).mp c140
      obtain ⟨⟨k1, k2, k3, k4, k5, k6, k7, k8, k9, k10⟩, -⟩ := lt_all (b := b) (n := n) (Y := Y) (s := .inl (tkE b n p)) (pNum_inl p1 p0) (pSign_ok hokz)
      have E0 : rva = pVal b n (.inl (tkE b n p)) := hrqa k1
      have E1 : rvc = pVal b n (lt1 b n Y (.inl (tkE b n p))) := hrqc k3
      have E2 : rve = pVal b n (lt2 b n Y (.inl (tkE b n p))) := hrqe k5
      have E3 : rvg = pVal b n (lt3 b n Y (.inl (tkE b n p))) := hrqg k7
      have E4 : rvi = pVal b n (lt4 b n Y (.inl (tkE b n p))) := hrqi k9
      have E5 : rvk = pVal b n (lt5 b n Y (.inl (tkE b n p))) := hrqk (pSign_ok hokz)
      refine ⟨rfl, rfl, ?_, ?_, ?_, fun _ => ?_⟩
      · rw [hw_14]; exact frD_up hfz (by omega) (by omega)
      · rw [hw_14]; exact pC_up hpz (by omega) (by omega)
      · rw [hw_14]; exact rC_up hRz (by omega)
      · refine yC_L hY (fun c x a e g1 g2 => ?_) ?_ (fun i hi => ?_) ⟨?_, ?_, ?_, ?_, ?_, ?_⟩
        · rw [hw_14, up_n (by omega)]; exact hIz.1 c x (by omega) a
        · rw [hw_14, up_same, w7]
        · rw [hw_14, up_cell _ _ _ _ (by omega)]; exact hIz.2.1 i hi
        · rw [hw_14, up_cell _ _ _ _ (by omega), ← E0]; have := hIz.2.2 0 rva rfl; rw [show w dr 7 * 6 + ((0 : Nat) : Int) = w dr 7 * 6 by omega] at this; exact this
        · rw [hw_14, up_cell _ _ _ _ (by omega), ← E1]; exact hIz.2.2 1 rvc rfl
        · rw [hw_14, up_cell _ _ _ _ (by omega), ← E2]; exact hIz.2.2 2 rve rfl
        · rw [hw_14, up_cell _ _ _ _ (by omega), ← E3]; exact hIz.2.2 3 rvg rfl
        · rw [hw_14, up_cell _ _ _ _ (by omega), ← E4]; exact hIz.2.2 4 rvi rfl
        · rw [hw_14, up_cell _ _ _ _ (by omega), ← E5]; exact hIz.2.2 5 rvk rfl
  · skip
    refine zA_aload_n dX8_readLetter_9 rfl ?_
    refine zA_iconst dX8_readLetter_10 ?_
    refine zA_cV (st := []) dX8_readLetter_11 vX8_fail kX8_81 (s_failR (w := w) (t := t) (dr := dr) (tx := 1) (k := 2) ⟨by decide, by decide⟩) (by decide) c2 rfl rfl (Nat.le_of_ble_eq_true rfl) rfl (fun q_15_v q_15_S q_15_w q_15 => ?_)
    obtain ⟨rfl, rfl, rfl⟩ := q_15
    refine zA_range (fun hr => ?_)
    show zA l mX8_readLetter false 7 0 0 (fun v' S' w' => v' = none ∧ S' = (ZZ t dr 1) ∧ frD dr w w' ∧ pC b n w' ∧ rC b n w' (if 8 ≤ Y 0 1 then .inr (2, tkS b n p) else pSign b n (lt6 b n Y (.inl (tkE b n p)))) ∧ (okP (if 8 ≤ Y 0 1 then .inr (2, tkS b n p) else pSign b n (lt6 b n Y (.inl (tkE b n p)))) → yC w' dr (yAddL Y (pVal b n (.inl (tkE b n p))) (pVal b n (lt1 b n Y (.inl (tkE b n p)))) (pVal b n (lt2 b n Y (.inl (tkE b n p)))) (pVal b n (lt3 b n Y (.inl (tkE b n p)))) (pVal b n (lt4 b n Y (.inl (tkE b n p)))) (pVal b n (lt5 b n Y (.inl (tkE b n p))))))) zNo 14 [zR 2, zR dr, .null, .null] [] (ZZ t dr 1) (failw w 2)
    refine zA_vret dX8_readLetter_14 rfl ?_
    have hRf := rC_f (k := 2) hR (by decide)
    have hfu : 8 ≤ Y 0 1 := by omega
    rw [if_pos hfu]
    exact ⟨rfl, rfl, frD_o failw_o, pC_o hp, hRf, fun h => h.elim⟩

set_option maxRecDepth 100000 in
set_option maxHeartbeats 4000000 in
theorem s_readRoad {l : Launch} {t dr : Nat} {w : zW} {b : Int → Int} {n : Int} {p : Int} {Y : zW} (hdr : dr = 4 ∨ dr = 10) (hp : pC b n w) (hR : rC b n w (.inl p)) (hY : yC w dr Y) (hO : okY Y)  : zSp l mX8_readRoad false 7 0 0 [zR 2, zR dr] (ZZ t dr 1) w (fun v' S' w' => v' = none ∧ S' = (ZZ t dr 1) ∧ frD dr w w' ∧ pC b n w' ∧ rC b n w' (pSign b n (rd3 b n Y (.inl (tkE b n p)))) ∧ (okP (pSign b n (rd3 b n Y (.inl (tkE b n p)))) → yC w' dr (yAddR Y (pVal b n (.inl (tkE b n p))) (pVal b n (rd1 b n Y (.inl (tkE b n p)))) (pVal b n (rd2 b n Y (.inl (tkE b n p))))))) zNo := by
  refine zA_intro ⟨plainFor_of_name (by decide +kernel), Or.inl (by decide +kernel)⟩ rfl (Nat.le_of_ble_eq_true rfl) ?_
  obtain ⟨⟨p0, p1⟩, ⟨f6, f7⟩, ⟨f3, f4⟩, f2, f5⟩ := id hR
  obtain ⟨⟨y5, y7, y6, y8⟩, -⟩ := id hY
  obtain ⟨a0, a1, a2, a3, -⟩ := id hO
  have hiN := pNum_inl (b := b) p1 p0
  refine zA_range (fun hr => ?_)
  show zA l mX8_readRoad false 7 0 0 (fun v' S' w' => v' = none ∧ S' = (ZZ t dr 1) ∧ frD dr w w' ∧ pC b n w' ∧ rC b n w' (pSign b n (rd3 b n Y (.inl (tkE b n p)))) ∧ (okP (pSign b n (rd3 b n Y (.inl (tkE b n p)))) → yC w' dr (yAddR Y (pVal b n (.inl (tkE b n p))) (pVal b n (rd1 b n Y (.inl (tkE b n p)))) (pVal b n (rd2 b n Y (.inl (tkE b n p))))))) zNo 0 [zR 2, zR dr, .null, .null, .null] [] (ZZ t dr 1) w
  refine zA_aload_n dX8_readRoad_0 rfl ?_
  refine zA_cV (st := []) dX8_readRoad_1 vX8_step kX8_48 (s_step (w := w) hp (rC_E hR)) (by decide) c2 rfl rfl (Nat.le_of_ble_eq_true rfl) rfl (fun q_1_v q_1_S q_1_w q_1 => ?_)
  obtain ⟨rfl, rfl, ho0, hp0, hst0⟩ := q_1
  have hR0 : rC b n q_1_w (.inl (tkE b n p)) := rC_s hR hst0
  refine zA_range (fun hr => ?_)
  show zA l mX8_readRoad false 7 0 0 (fun v' S' w' => v' = none ∧ S' = (ZZ t dr 1) ∧ frD dr w w' ∧ pC b n w' ∧ rC b n w' (pSign b n (rd3 b n Y (.inl (tkE b n p)))) ∧ (okP (pSign b n (rd3 b n Y (.inl (tkE b n p)))) → yC w' dr (yAddR Y (pVal b n (.inl (tkE b n p))) (pVal b n (rd1 b n Y (.inl (tkE b n p)))) (pVal b n (rd2 b n Y (.inl (tkE b n p))))))) zNo 4 [zR 2, zR dr, .null, .null, .null] [] (ZZ t dr 1) q_1_w
  refine zA_aload_n dX8_readRoad_4 rfl ?_
  refine zA_aload_n dX8_readRoad_5 rfl ?_
  refine zA_iconst dX8_readRoad_6 ?_
  refine zA_cV (st := []) dX8_readRoad_7 vX8_takeChimney kX8_108 (s_takeChimney (w := q_1_w) (un := (-1)) hdr ⟨by decide, by decide⟩ hp0 hR0) (by decide) c2 rfl rfl (Nat.le_of_ble_eq_true rfl) rfl (fun q_2_v q_2_S q_2_w q_2 => ?_)
  obtain ⟨⟨rva, rfl, hrva, hrqa⟩, rfl, hoa, hpa, hRa⟩ := q_2
  rw [show q_1_w dr 5 = Y 0 0 from (ho0 dr 5 (by omega)).trans y5] at hrqa hRa
  refine zA_range (fun hr => ?_)
  show zA l mX8_readRoad false 7 0 0 (fun v' S' w' => v' = none ∧ S' = (ZZ t dr 1) ∧ frD dr w w' ∧ pC b n w' ∧ rC b n w' (pSign b n (rd3 b n Y (.inl (tkE b n p)))) ∧ (okP (pSign b n (rd3 b n Y (.inl (tkE b n p)))) → yC w' dr (yAddR Y (pVal b n (.inl (tkE b n p))) (pVal b n (rd1 b n Y (.inl (tkE b n p)))) (pVal b n (rd2 b n Y (.inl (tkE b n p))))))) zNo 10 [zR 2, zR dr, .null, .null, .null] [zI rva] (ZZ t dr 1) q_2_w
  refine zA_istore_n (lo1 := [zR 2, zR dr, zI rva, .null, .null]) dX8_readRoad_10 (by decide) rfl rfl ?_
  refine zA_aload_n dX8_readRoad_11 rfl ?_
  refine zA_aload_n dX8_readRoad_12 rfl ?_
  refine zA_iload_n dX8_readRoad_13 rfl ?_
  refine zA_cV (st := []) dX8_readRoad_14 vX8_takeChimney kX8_108 (s_takeChimney (w := q_2_w) (un := rva) hdr hrva hpa hRa) (by decide) c2 rfl rfl (Nat.le_of_ble_eq_true rfl) rfl (fun q_3_v q_3_S q_3_w q_3 => ?_)
  obtain ⟨⟨rvb, rfl, hrvb, hrqb⟩, rfl, hob, hpb, hRb⟩ := q_3
  rw [show q_2_w dr 5 = Y 0 0 from (hoa dr 5 (by omega)).trans ((ho0 dr 5 (by omega)).trans y5), pChim_un hrqa] at hrqb hRb
  refine zA_range (fun hr => ?_)
  show zA l mX8_readRoad false 7 0 0 (fun v' S' w' => v' = none ∧ S' = (ZZ t dr 1) ∧ frD dr w w' ∧ pC b n w' ∧ rC b n w' (pSign b n (rd3 b n Y (.inl (tkE b n p)))) ∧ (okP (pSign b n (rd3 b n Y (.inl (tkE b n p)))) → yC w' dr (yAddR Y (pVal b n (.inl (tkE b n p))) (pVal b n (rd1 b n Y (.inl (tkE b n p)))) (pVal b n (rd2 b n Y (.inl (tkE b n p))))))) zNo 17 [zR 2, zR dr, zI rva, .null, .null] [zI rvb] (ZZ t dr 1) q_3_w
  refine zA_istore_n (lo1 := [zR 2, zR dr, zI rva, zI rvb, .null]) dX8_readRoad_17 (by decide) rfl rfl ?_
  refine zA_aload_n dX8_readRoad_18 rfl ?_
  refine zA_ldcS (a := 1010) dX8_readRoad_19 (List.mem_of_getElem? (i := 33) rfl) ?_
  refine zA_cV (st := []) dX8_readRoad_21 vX8_takeWord kX8_117 (s_takeWord (w := q_3_w) (k := 10) (by decide) hpb hRb) (by decide) c2 rfl rfl (Nat.le_of_ble_eq_true rfl) rfl (fun q_4_v q_4_S q_4_w q_4 => ?_)
  obtain ⟨rfl, rfl, hoc, hpc, hRc⟩ := q_4
  refine zA_range (fun hr => ?_)
  show zA l mX8_readRoad false 7 0 0 (fun v' S' w' => v' = none ∧ S' = (ZZ t dr 1) ∧ frD dr w w' ∧ pC b n w' ∧ rC b n w' (pSign b n (rd3 b n Y (.inl (tkE b n p)))) ∧ (okP (pSign b n (rd3 b n Y (.inl (tkE b n p)))) → yC w' dr (yAddR Y (pVal b n (.inl (tkE b n p))) (pVal b n (rd1 b n Y (.inl (tkE b n p)))) (pVal b n (rd2 b n Y (.inl (tkE b n p))))))) zNo 24 [zR 2, zR dr, zI rva, zI rvb, .null] [] (ZZ t dr 1) q_4_w
  refine zA_aload_n dX8_readRoad_24 rfl ?_
  refine zA_iconst dX8_readRoad_25 ?_
  refine zA_bipush dX8_readRoad_26 rfl ?_
  refine zA_cV (st := []) dX8_readRoad_28 vX8_takeNumber kX8_88 (s_takeNumber (w := q_4_w) (lo := 0) (hi := 9) (s := _) (by decide) (by decide) ⟨by decide, by decide⟩ ⟨by decide, by decide⟩ hpc hRc) (by decide) c2 rfl rfl (Nat.le_of_ble_eq_true rfl) rfl (fun q_5_v q_5_S q_5_w q_5 => ?_)
  obtain ⟨⟨rvd, rfl, hrvd, hrqd⟩, rfl, hod, hpd, hRd⟩ := q_5
  refine zA_range (fun hr => ?_)
  show zA l mX8_readRoad false 7 0 0 (fun v' S' w' => v' = none ∧ S' = (ZZ t dr 1) ∧ frD dr w w' ∧ pC b n w' ∧ rC b n w' (pSign b n (rd3 b n Y (.inl (tkE b n p)))) ∧ (okP (pSign b n (rd3 b n Y (.inl (tkE b n p)))) → yC w' dr (yAddR Y (pVal b n (.inl (tkE b n p))) (pVal b n (rd1 b n Y (.inl (tkE b n p)))) (pVal b n (rd2 b n Y (.inl (tkE b n p))))))) zNo 31 [zR 2, zR dr, zI rva, zI rvb, .null] [zI rvd] (ZZ t dr 1) q_5_w
  refine zA_istore (lo1 := [zR 2, zR dr, zI rva, zI rvb, zI rvd]) dX8_readRoad_31 (by decide) rfl rfl ?_
  refine zA_aload_n dX8_readRoad_33 rfl ?_
  refine zA_cV (st := []) dX8_readRoad_34 vX8_takeSign kX8_91 (s_takeSign (w := q_5_w) hpd hRd) (by decide) c2 rfl rfl (Nat.le_of_ble_eq_true rfl) rfl (fun q_6_v q_6_S q_6_w q_6 => ?_)
  obtain ⟨rfl, rfl, hoz, hpz, hRz⟩ := q_6
  have hot := only_tr (only_tr (only_tr (only_tr (only_tr ho0 hoa) hob) hoc) hod) hoz
  refine zA_range (fun hr => ?_)
  show zA l mX8_readRoad false 7 0 0 (fun v' S' w' => v' = none ∧ S' = (ZZ t dr 1) ∧ frD dr w w' ∧ pC b n w' ∧ rC b n w' (pSign b n (rd3 b n Y (.inl (tkE b n p)))) ∧ (okP (pSign b n (rd3 b n Y (.inl (tkE b n p)))) → yC w' dr (yAddR Y (pVal b n (.inl (tkE b n p))) (pVal b n (rd1 b n Y (.inl (tkE b n p)))) (pVal b n (rd2 b n Y (.inl (tkE b n p))))))) zNo 37 [zR 2, zR dr, zI rva, zI rvb, zI rvd] [] (ZZ t dr 1) q_6_w
  refine zA_aload_n dX8_readRoad_37 rfl ?_
  refine zA_getI dX8_readRoad_38 fX8_31 c2 rfl ?_
  refine zA_valI (q_6_w 2 6) rfl ?_
  refine zA_if_ne (tgt := 52) dX8_readRoad_41 (by decide) (by first | assumption | exact hr _ _ | exact inR_mk (by omega) (by omega)) (fun c41 => ?_) (fun c41 => ?_)
  · skip
    refine zA_vret dX8_readRoad_52 rfl ?_
    exact ⟨rfl, rfl, frD_o hot, hpz, hRz, fun h => absurd ((rC_ok hRz).mpr h) c41⟩
  · skip
    have hokz := (rC_ok hRz).mp c41
    obtain ⟨⟨k1, k2, k3⟩, kb0, kb1, kb2, kb3⟩ := rd_all (b := b) (n := n) (Y := Y) hiN (pSign_ok hokz)
    have ea : rva = pVal b n (.inl (tkE b n p)) := hrqa k1
    have eb : rvb = pVal b n (rd1 b n Y (.inl (tkE b n p))) := hrqb k2
    have ed : rvd = pVal b n (rd2 b n Y (.inl (tkE b n p))) := hrqd (pSign_ok hokz)
    rw [← ea] at kb0 kb2
    rw [← eb] at kb1 kb2
    rw [← ed] at kb3
    refine zA_aload_n dX8_readRoad_44 rfl ?_
    refine zA_iload_n dX8_readRoad_45 rfl ?_
    refine zA_iload_n dX8_readRoad_46 rfl ?_
    refine zA_iload dX8_readRoad_47 rfl ?_
    refine zA_cV (st := []) dX8_readRoad_49 vX10_setTravel kX8_135 (s_setTravel (w := q_6_w) hdr (a := rva) (b := rvb) (v := rvd) (by omega) (by omega) (by omega) (by omega) hrvd) (by decide) (cY0 hdr) rfl rfl (Nat.le_of_ble_eq_true rfl) rfl (zRt_el ?_)
    show zA l mX8_readRoad false 7 0 0 (fun v' S' w' => v' = none ∧ S' = (ZZ t dr 1) ∧ frD dr w w' ∧ pC b n w' ∧ rC b n w' (pSign b n (rd3 b n Y (.inl (tkE b n p)))) ∧ (okP (pSign b n (rd3 b n Y (.inl (tkE b n p)))) → yC w' dr (yAddR Y (pVal b n (.inl (tkE b n p))) (pVal b n (rd1 b n Y (.inl (tkE b n p)))) (pVal b n (rd2 b n Y (.inl (tkE b n p))))))) zNo 52 [zR 2, zR dr, zI rva, zI rvb, zI rvd] [] (ZZ t dr 1) (up (up q_6_w (dr + 2) (rva * 12 + rvb) rvd) (dr + 2) (rvb * 12 + rva) rvd)
    refine zA_vret dX8_readRoad_52 rfl ?_
    refine ⟨rfl, rfl, frD_up (frD_up (frD_o hot) (by omega) (by omega)) (by omega) (by omega), pC_up (pC_up hpz (by omega) (by omega)) (by omega) (by omega), rC_up (rC_up hRz (by omega)) (by omega), fun _ => ?_⟩
    rw [← ea, ← eb, ← ed]
    refine yC_R (yC_o hdr hY hot) (by omega) (by omega) kb2 kb3.1 kb3.2 (fun c x a e g1 => ?_) (fun i => ?_)
    · rw [up_cell _ _ _ _ a, up_cell _ _ _ _ a]
    · by_cases g : i = rvb * 12 + rva
      · rw [if_pos g, g, up_same]
      · rw [if_neg g, up_idx _ _ _ _ g]
        by_cases g2 : i = rva * 12 + rvb
        · rw [if_pos g2, g2, up_same]
        · rw [if_neg g2, up_idx _ _ _ _ g2]

set_option maxRecDepth 100000 in
set_option maxHeartbeats 4000000 in
theorem s_readNest {l : Launch} {t dr : Nat} {w : zW} {b : Int → Int} {n : Int} {p : Int} {Y : zW} (hdr : dr = 4 ∨ dr = 10) (hp : pC b n w) (hR : rC b n w (.inl p)) (hY : yC w dr Y) (hO : okY Y)  : zSp l mX8_readNest false 7 0 0 [zR 2, zR dr] (ZZ t dr 1) w (fun v' S' w' => v' = none ∧ S' = (ZZ t dr 1) ∧ frD dr w w' ∧ pC b n w' ∧ rC b n w' (if 12 ≤ Y 0 3 then .inr (2, tkS b n p) else pSign b n (ne3 b n Y (.inl (tkE b n p)))) ∧ (okP (if 12 ≤ Y 0 3 then .inr (2, tkS b n p) else pSign b n (ne3 b n Y (.inl (tkE b n p)))) → yC w' dr (yAddN Y (pVal b n (.inl (tkE b n p))) (pVal b n (ne1 b n Y (.inl (tkE b n p)))) (pVal b n (ne2 b n Y (.inl (tkE b n p))))))) zNo := by
  refine zA_intro ⟨plainFor_of_name (by decide +kernel), Or.inl (by decide +kernel)⟩ rfl (Nat.le_of_ble_eq_true rfl) ?_
  obtain ⟨⟨p0, p1⟩, ⟨f6, f7⟩, ⟨f3, f4⟩, f2, f5⟩ := id hR
  obtain ⟨⟨y5, y7, y6, y8⟩, -⟩ := id hY
  obtain ⟨a0, a1, a2, a3, -⟩ := id hO
  have hiN := pNum_inl (b := b) p1 p0
  have hY6 := hY.2.2.2.2.2.2
  refine zA_range (fun hr => ?_)
  show zA l mX8_readNest false 7 0 0 (fun v' S' w' => v' = none ∧ S' = (ZZ t dr 1) ∧ frD dr w w' ∧ pC b n w' ∧ rC b n w' (if 12 ≤ Y 0 3 then .inr (2, tkS b n p) else pSign b n (ne3 b n Y (.inl (tkE b n p)))) ∧ (okP (if 12 ≤ Y 0 3 then .inr (2, tkS b n p) else pSign b n (ne3 b n Y (.inl (tkE b n p)))) → yC w' dr (yAddN Y (pVal b n (.inl (tkE b n p))) (pVal b n (ne1 b n Y (.inl (tkE b n p)))) (pVal b n (ne2 b n Y (.inl (tkE b n p))))))) zNo 0 [zR 2, zR dr, .null, .null, .null] [] (ZZ t dr 1) w
  refine zA_aload_n dX8_readNest_0 rfl ?_
  refine zA_getI dX8_readNest_1 fX8_138 (cY0 hdr) rfl ?_
  refine zA_valI (w dr 8) rfl ?_
  refine zA_bipush dX8_readNest_4 rfl ?_
  refine zA_icmp_lt (tgt := 15) dX8_readNest_6 (by decide) (by first | assumption | exact hr _ _ | exact inR_mk (by omega) (by omega)) ⟨by decide, by decide⟩ (fun c6 => ?_) (fun c6 => ?_)
  · skip
    have hnf : ¬ 12 ≤ Y 0 3 := by omega
    refine zA_aload_n dX8_readNest_15 rfl ?_
    refine zA_cV (st := []) dX8_readNest_16 vX8_step kX8_48 (s_step (w := w) hp (rC_E hR)) (by decide) c2 rfl rfl (Nat.le_of_ble_eq_true rfl) rfl (fun q_1_v q_1_S q_1_w q_1 => ?_)
    obtain ⟨rfl, rfl, ho0, hp0, hst0⟩ := q_1
    have hR0 : rC b n q_1_w (.inl (tkE b n p)) := rC_s hR hst0
    refine zA_range (fun hr => ?_)
    show zA l mX8_readNest false 7 0 0 (fun v' S' w' => v' = none ∧ S' = (ZZ t dr 1) ∧ frD dr w w' ∧ pC b n w' ∧ rC b n w' (if 12 ≤ Y 0 3 then .inr (2, tkS b n p) else pSign b n (ne3 b n Y (.inl (tkE b n p)))) ∧ (okP (if 12 ≤ Y 0 3 then .inr (2, tkS b n p) else pSign b n (ne3 b n Y (.inl (tkE b n p)))) → yC w' dr (yAddN Y (pVal b n (.inl (tkE b n p))) (pVal b n (ne1 b n Y (.inl (tkE b n p)))) (pVal b n (ne2 b n Y (.inl (tkE b n p))))))) zNo 19 [zR 2, zR dr, .null, .null, .null] [] (ZZ t dr 1) q_1_w
    refine zA_aload_n dX8_readNest_19 rfl ?_
    refine zA_aload_n dX8_readNest_20 rfl ?_
    refine zA_iconst dX8_readNest_21 ?_
    refine zA_cV (st := []) dX8_readNest_22 vX8_takeChimney kX8_108 (s_takeChimney (w := q_1_w) (un := (-1)) hdr ⟨by decide, by decide⟩ hp0 hR0) (by decide) c2 rfl rfl (Nat.le_of_ble_eq_true rfl) rfl (fun q_2_v q_2_S q_2_w q_2 => ?_)
    obtain ⟨⟨rva, rfl, hrva, hrqa⟩, rfl, hoa, hpa, hRa⟩ := q_2
    rw [show q_1_w dr 5 = Y 0 0 from (ho0 dr 5 (by omega)).trans y5] at hrqa hRa
    refine zA_range (fun hr => ?_)
    show zA l mX8_readNest false 7 0 0 (fun v' S' w' => v' = none ∧ S' = (ZZ t dr 1) ∧ frD dr w w' ∧ pC b n w' ∧ rC b n w' (if 12 ≤ Y 0 3 then .inr (2, tkS b n p) else pSign b n (ne3 b n Y (.inl (tkE b n p)))) ∧ (okP (if 12 ≤ Y 0 3 then .inr (2, tkS b n p) else pSign b n (ne3 b n Y (.inl (tkE b n p)))) → yC w' dr (yAddN Y (pVal b n (.inl (tkE b n p))) (pVal b n (ne1 b n Y (.inl (tkE b n p)))) (pVal b n (ne2 b n Y (.inl (tkE b n p))))))) zNo 25 [zR 2, zR dr, .null, .null, .null] [zI rva] (ZZ t dr 1) q_2_w
    refine zA_istore_n (lo1 := [zR 2, zR dr, zI rva, .null, .null]) dX8_readNest_25 (by decide) rfl rfl ?_
    refine zA_aload_n dX8_readNest_26 rfl ?_
    refine zA_ldcS (a := 1007) dX8_readNest_27 (List.mem_of_getElem? (i := 30) rfl) ?_
    refine zA_cV (st := []) dX8_readNest_29 vX8_takeWord kX8_117 (s_takeWord (w := q_2_w) (k := 7) (by decide) hpa hRa) (by decide) c2 rfl rfl (Nat.le_of_ble_eq_true rfl) rfl (fun q_3_v q_3_S q_3_w q_3 => ?_)
    obtain ⟨rfl, rfl, hob, hpb, hRb⟩ := q_3
    refine zA_range (fun hr => ?_)
    show zA l mX8_readNest false 7 0 0 (fun v' S' w' => v' = none ∧ S' = (ZZ t dr 1) ∧ frD dr w w' ∧ pC b n w' ∧ rC b n w' (if 12 ≤ Y 0 3 then .inr (2, tkS b n p) else pSign b n (ne3 b n Y (.inl (tkE b n p)))) ∧ (okP (if 12 ≤ Y 0 3 then .inr (2, tkS b n p) else pSign b n (ne3 b n Y (.inl (tkE b n p)))) → yC w' dr (yAddN Y (pVal b n (.inl (tkE b n p))) (pVal b n (ne1 b n Y (.inl (tkE b n p)))) (pVal b n (ne2 b n Y (.inl (tkE b n p))))))) zNo 32 [zR 2, zR dr, zI rva, .null, .null] [] (ZZ t dr 1) q_3_w
    refine zA_aload_n dX8_readNest_32 rfl ?_
    refine zA_iconst dX8_readNest_33 ?_
    refine zA_bipush dX8_readNest_34 rfl ?_
    refine zA_cV (st := []) dX8_readNest_36 vX8_takeNumber kX8_88 (s_takeNumber (w := q_3_w) (lo := 0) (hi := 29) (s := _) (by decide) (by decide) ⟨by decide, by decide⟩ ⟨by decide, by decide⟩ hpb hRb) (by decide) c2 rfl rfl (Nat.le_of_ble_eq_true rfl) rfl (fun q_4_v q_4_S q_4_w q_4 => ?_)
    obtain ⟨⟨rvc, rfl, hrvc, hrqc⟩, rfl, hoc, hpc, hRc⟩ := q_4
    refine zA_range (fun hr => ?_)
    show zA l mX8_readNest false 7 0 0 (fun v' S' w' => v' = none ∧ S' = (ZZ t dr 1) ∧ frD dr w w' ∧ pC b n w' ∧ rC b n w' (if 12 ≤ Y 0 3 then .inr (2, tkS b n p) else pSign b n (ne3 b n Y (.inl (tkE b n p)))) ∧ (okP (if 12 ≤ Y 0 3 then .inr (2, tkS b n p) else pSign b n (ne3 b n Y (.inl (tkE b n p)))) → yC w' dr (yAddN Y (pVal b n (.inl (tkE b n p))) (pVal b n (ne1 b n Y (.inl (tkE b n p)))) (pVal b n (ne2 b n Y (.inl (tkE b n p))))))) zNo 39 [zR 2, zR dr, zI rva, .null, .null] [zI rvc] (ZZ t dr 1) q_4_w
    refine zA_istore_n (lo1 := [zR 2, zR dr, zI rva, zI rvc, .null]) dX8_readNest_39 (by decide) rfl rfl ?_
    refine zA_aload_n dX8_readNest_40 rfl ?_
    refine zA_ldcS (a := 1008) dX8_readNest_41 (List.mem_of_getElem? (i := 31) rfl) ?_
    refine zA_cV (st := []) dX8_readNest_43 vX8_takeWord kX8_117 (s_takeWord (w := q_4_w) (k := 8) (by decide) hpc hRc) (by decide) c2 rfl rfl (Nat.le_of_ble_eq_true rfl) rfl (fun q_5_v q_5_S q_5_w q_5 => ?_)
    obtain ⟨rfl, rfl, hod, hpd, hRd⟩ := q_5
    have hrvc2 : okP (ne2 b n Y (.inl (tkE b n p))) → rvc = pVal b n (ne1 b n Y (.inl (tkE b n p))) ∧ rvc ≤ 29 := fun h => by
      have h1 := pWord_ok h
      have h2 := hrqc h1
      have h3 := (pNum_ok h1).2.2
      exact ⟨h2, by rw [h2]; exact h3⟩
    refine zA_range (fun hr => ?_)
    show zA l mX8_readNest false 7 0 0 (fun v' S' w' => v' = none ∧ S' = (ZZ t dr 1) ∧ frD dr w w' ∧ pC b n w' ∧ rC b n w' (if 12 ≤ Y 0 3 then .inr (2, tkS b n p) else pSign b n (ne3 b n Y (.inl (tkE b n p)))) ∧ (okP (if 12 ≤ Y 0 3 then .inr (2, tkS b n p) else pSign b n (ne3 b n Y (.inl (tkE b n p)))) → yC w' dr (yAddN Y (pVal b n (.inl (tkE b n p))) (pVal b n (ne1 b n Y (.inl (tkE b n p)))) (pVal b n (ne2 b n Y (.inl (tkE b n p))))))) zNo 46 [zR 2, zR dr, zI rva, zI rvc, .null] [] (ZZ t dr 1) q_5_w
    refine zA_aload_n dX8_readNest_46 rfl ?_
    refine zA_iload_n dX8_readNest_47 rfl ?_
    refine zA_cV (st := []) dX8_readNest_48 vX8_takeTill kX8_127 (s_takeTill (w := q_5_w) (f := rvc) hrvc (fun h => (hrvc2 h).2) hpd hRd) (by decide) c2 rfl rfl (Nat.le_of_ble_eq_true rfl) rfl (fun q_6_v q_6_S q_6_w q_6 => ?_)
    obtain ⟨⟨rve, rfl, hrve, hrqe⟩, rfl, hoe, hpe, hRe⟩ := q_6
    rw [pTill_f (fun h => (hrvc2 h).1)] at hrqe hRe
    refine zA_range (fun hr => ?_)
    show zA l mX8_readNest false 7 0 0 (fun v' S' w' => v' = none ∧ S' = (ZZ t dr 1) ∧ frD dr w w' ∧ pC b n w' ∧ rC b n w' (if 12 ≤ Y 0 3 then .inr (2, tkS b n p) else pSign b n (ne3 b n Y (.inl (tkE b n p)))) ∧ (okP (if 12 ≤ Y 0 3 then .inr (2, tkS b n p) else pSign b n (ne3 b n Y (.inl (tkE b n p)))) → yC w' dr (yAddN Y (pVal b n (.inl (tkE b n p))) (pVal b n (ne1 b n Y (.inl (tkE b n p)))) (pVal b n (ne2 b n Y (.inl (tkE b n p))))))) zNo 51 [zR 2, zR dr, zI rva, zI rvc, .null] [zI rve] (ZZ t dr 1) q_6_w
    refine zA_istore (lo1 := [zR 2, zR dr, zI rva, zI rvc, zI rve]) dX8_readNest_51 (by decide) rfl rfl ?_
    refine zA_aload_n dX8_readNest_53 rfl ?_
    refine zA_cV (st := []) dX8_readNest_54 vX8_takeSign kX8_91 (s_takeSign (w := q_6_w) hpe hRe) (by decide) c2 rfl rfl (Nat.le_of_ble_eq_true rfl) rfl (fun q_7_v q_7_S q_7_w q_7 => ?_)
    obtain ⟨rfl, rfl, hoz, hpz, hRz⟩ := q_7
    have hot := only_tr (only_tr (only_tr (only_tr (only_tr (only_tr ho0 hoa) hob) hoc) hod) hoe) hoz
    refine zA_range (fun hr => ?_)
    show zA l mX8_readNest false 7 0 0 (fun v' S' w' => v' = none ∧ S' = (ZZ t dr 1) ∧ frD dr w w' ∧ pC b n w' ∧ rC b n w' (if 12 ≤ Y 0 3 then .inr (2, tkS b n p) else pSign b n (ne3 b n Y (.inl (tkE b n p)))) ∧ (okP (if 12 ≤ Y 0 3 then .inr (2, tkS b n p) else pSign b n (ne3 b n Y (.inl (tkE b n p)))) → yC w' dr (yAddN Y (pVal b n (.inl (tkE b n p))) (pVal b n (ne1 b n Y (.inl (tkE b n p)))) (pVal b n (ne2 b n Y (.inl (tkE b n p))))))) zNo 57 [zR 2, zR dr, zI rva, zI rvc, zI rve] [] (ZZ t dr 1) q_7_w
    refine zA_aload_n dX8_readNest_57 rfl ?_
    refine zA_getI dX8_readNest_58 fX8_31 c2 rfl ?_
    refine zA_valI (q_7_w 2 6) rfl ?_
    refine zA_if_ne (tgt := 72) dX8_readNest_61 (by decide) (by first | assumption | exact hr _ _ | exact inR_mk (by omega) (by omega)) (fun c61 => ?_) (fun c61 => ?_)
    · skip
      refine zA_vret dX8_readNest_72 rfl ?_
      rw [if_neg hnf]
      exact ⟨rfl, rfl, frD_o hot, hpz, hRz, fun h => absurd ((rC_ok hRz).mpr h) c61⟩
    · skip
      have hokz := (rC_ok hRz).mp c61
      obtain ⟨⟨k1, k2, k3, k4⟩, kb0, kb1, kb2⟩ := ne_all (b := b) (n := n) (Y := Y) hiN (pSign_ok hokz)
      have ea : rva = pVal b n (.inl (tkE b n p)) := hrqa k1
      have ec : rvc = pVal b n (ne1 b n Y (.inl (tkE b n p))) := hrqc k3
      have ee : rve = pVal b n (ne2 b n Y (.inl (tkE b n p))) := hrqe (pSign_ok hokz)
      rw [← ea] at kb0
      rw [← ec, ← ee] at kb1
      rw [← ee] at kb2
      have w8 : q_7_w dr 8 = Y 0 3 := (hot dr 8 (by omega)).trans y8
      have hx5 : ∀ c : Int, 0 ≤ c → c < 12 → 0 ≤ q_7_w (dr + 5) c ∧ q_7_w (dr + 5) c < 1073741824 := fun c x0 x1 => by rw [hot (dr + 5) c (by omega)]; exact (hY6 c x0 x1).1
      refine zA_aload_n dX8_readNest_64 rfl ?_
      refine zA_iload_n dX8_readNest_65 rfl ?_
      refine zA_iload_n dX8_readNest_66 rfl ?_
      refine zA_iload dX8_readNest_67 rfl ?_
      refine zA_cV (st := []) dX8_readNest_69 vX10_addNest kX8_141 (s_addNest (w := q_7_w) hdr (a := rva) (f := rvc) (g := rve) hx5 (by omega) (by omega) (by omega) (by omega) (by omega) (by omega) (by omega)) (by decide) (cY0 hdr) rfl rfl (Nat.le_of_ble_eq_true rfl) rfl (fun q_8_v q_8_S q_8_w q_8 => ?_)
      obtain ⟨rfl, rfl, hn1, hn2, hn3, hn4, hn5, hn6⟩ := q_8
      refine zA_range (fun hr => ?_)
      show zA l mX8_readNest false 7 0 0 (fun v' S' w' => v' = none ∧ S' = (ZZ t dr 1) ∧ frD dr w w' ∧ pC b n w' ∧ rC b n w' (if 12 ≤ Y 0 3 then .inr (2, tkS b n p) else pSign b n (ne3 b n Y (.inl (tkE b n p)))) ∧ (okP (if 12 ≤ Y 0 3 then .inr (2, tkS b n p) else pSign b n (ne3 b n Y (.inl (tkE b n p)))) → yC w' dr (yAddN Y (pVal b n (.inl (tkE b n p))) (pVal b n (ne1 b n Y (.inl (tkE b n p)))) (pVal b n (ne2 b n Y (.inl (tkE b n p))))))) zNo 72 [zR 2, zR dr, zI rva, zI rvc, zI rve] [] (ZZ t dr 1) q_8_w
      refine zA_vret dX8_readNest_72 rfl ?_
      rw [if_neg hnf]
      refine ⟨rfl, rfl, frD_tr (frD_o hot) (fun c x a e => hn1 c x (by omega) (by omega)), pC_c hpz (hn1 2 1 (by omega) (by omega)) (fun x => hn1 1 x (by omega) (by omega)), rC_c2 hRz (fun x => hn1 2 x (by omega) (by omega)), fun _ => ?_⟩
      rw [← ea, ← ec, ← ee]
      exact yC_N (yC_o hdr hY hot) (by omega) (by omega) (fun c x a e _ _ => hn1 c x a e) hn2 hn3 hn4 hn5 hn6
  · skip
    refine zA_aload_n dX8_readNest_9 rfl ?_
    refine zA_iconst dX8_readNest_10 ?_
    refine zA_cV (st := []) dX8_readNest_11 vX8_fail kX8_81 (s_failR (w := w) (t := t) (dr := dr) (tx := 1) (k := 2) ⟨by decide, by decide⟩) (by decide) c2 rfl rfl (Nat.le_of_ble_eq_true rfl) rfl (fun q_9_v q_9_S q_9_w q_9 => ?_)
    obtain ⟨rfl, rfl, rfl⟩ := q_9
    refine zA_range (fun hr => ?_)
    show zA l mX8_readNest false 7 0 0 (fun v' S' w' => v' = none ∧ S' = (ZZ t dr 1) ∧ frD dr w w' ∧ pC b n w' ∧ rC b n w' (if 12 ≤ Y 0 3 then .inr (2, tkS b n p) else pSign b n (ne3 b n Y (.inl (tkE b n p)))) ∧ (okP (if 12 ≤ Y 0 3 then .inr (2, tkS b n p) else pSign b n (ne3 b n Y (.inl (tkE b n p)))) → yC w' dr (yAddN Y (pVal b n (.inl (tkE b n p))) (pVal b n (ne1 b n Y (.inl (tkE b n p)))) (pVal b n (ne2 b n Y (.inl (tkE b n p))))))) zNo 14 [zR 2, zR dr, .null, .null, .null] [] (ZZ t dr 1) (failw w 2)
    refine zA_vret dX8_readNest_14 rfl ?_
    have hRf := rC_f (k := 2) hR (by decide)
    have hfu : 12 ≤ Y 0 3 := by omega
    rw [if_pos hfu]
    exact ⟨rfl, rfl, frD_o failw_o, pC_o hp, hRf, fun h => h.elim⟩

