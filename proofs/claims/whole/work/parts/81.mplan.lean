/-! the plan of the reference -/
def mWd (w : zW) : Int → Int := fun l => w 81 (6 * l + 1)
def mPr (w : zW) : Int → Int := fun l => w 81 (6 * l + 5)
def mTv (w : zW) : Int → Int → Int := fun a b => w 82 (12 * w 81 (6 * a) + w 81 (6 * b))
def okMY (w : zW) : Prop := (0 ≤ w 75 0 ∧ w 75 0 ≤ 12) ∧ (0 ≤ w 76 0 ∧ w 76 0 ≤ 8) ∧ (0 ≤ w 78 0 ∧ w 78 0 ≤ 12) ∧ (∀ i : Int, 0 ≤ i → i < 144 → 0 ≤ w 82 i ∧ w 82 i ≤ 9) ∧ ∀ l : Int, 0 ≤ l → l < w 76 0 → okML w l
theorem my_c {w w1 : zW} (h : ∀ c x, 75 ≤ c → c ≤ 83 → w1 c x = w c x) : mCan w1 = mCan w ∧ mWd w1 = mWd w ∧ mPr w1 = mPr w ∧ mTv w1 = mTv w ∧ (okMY w → okMY w1) ∧ w1 76 0 = w 76 0 := by
  have e : ∀ c, 75 ≤ c → c ≤ 83 → w1 c = w c := fun c h1 h2 => funext fun x => h c x h1 h2
  have e75 := e 75 (by decide) (by decide)
  have e76 := e 76 (by decide) (by decide)
  have e78 := e 78 (by decide) (by decide)
  have e80 := e 80 (by decide) (by decide)
  have e81 := e 81 (by decide) (by decide)
  have e82 := e 82 (by decide) (by decide)
  have e83 := e 83 (by decide) (by decide)
  refine ⟨?_, ?_, ?_, ?_, ?_, by rw [e76]⟩
  · funext l d; unfold mCan mGood mNe; rw [e78, e80, e81, e83]
  · unfold mWd; rw [e81]
  · unfold mPr; rw [e81]
  · funext a b; unfold mTv; rw [e81, e82]
  · intro hM
    unfold okMY okML at hM ⊢
    rw [e75, e76, e78, e81, e82]
    exact hM
theorem mG {w : zW} (hM : okMY w) : okG (mCan w) (mWd w) (mPr w) (mTv w) (w 76 0) := by
  obtain ⟨⟨u1, u2⟩, u3, -, hm, hle⟩ := hM
  refine ⟨u3, fun l l0 l1 => ?_⟩
  obtain ⟨q1, q2, q3, q4, q5, q6⟩ := hle l l0 l1
  refine ⟨q2, q6, fun b b0 b1 => ?_, fun d hd => ?_⟩
  · obtain ⟨p1, -⟩ := hle b b0 b1
    exact hm _ (by omega) (by omega)
  · obtain ⟨d1, d2, -⟩ := hd
    show 0 ≤ d ∧ d + w 81 (6 * l + 1) ≤ 30
    omega
def goF (m : Int) (w w' : zW) : Prop := (∀ c x, c ≠ 85 → c ≠ 86 → c ≠ 87 → c ≠ 88 → (c ≠ 73 ∨ (x ≠ 26 ∧ x ≠ 27 ∧ x ≠ 28)) → w' c x = w c x) ∧ ∀ i : Int, i < m → w' 85 i = w 85 i ∧ w' 86 i = w 86 i
def goS (w w' : zW) : Prop := (w' 73 26 = w 73 26 ∧ w' 73 27 = w 73 27 ∧ w' 73 28 = w 73 28) ∧ ∀ i : Int, w' 87 i = w 87 i ∧ w' 88 i = w 88 i
def goA (wd pr : Int → Int) (w' : zW) (s : List (Int × Int)) : Prop := (w' 73 26 = ((s.length : Nat) : Int) ∧ w' 73 27 = prR pr s ∧ w' 73 28 = enR wd s) ∧ arR (w' 87) (w' 88) s
theorem goF_rfl {m : Int} {w : zW} : goF m w w := ⟨fun _ _ _ _ _ _ _ => rfl, fun _ _ => ⟨rfl, rfl⟩⟩
theorem goS_rfl {w : zW} : goS w w := ⟨⟨rfl, rfl, rfl⟩, fun _ => ⟨rfl, rfl⟩⟩
theorem goS_tr {w w1 w2 w3 : zW} (h : goS w w1) (h1 : goS w1 w2) (h2 : goS w2 w3) : goS w w3 :=
  ⟨⟨h2.1.1.trans (h1.1.1.trans h.1.1), h2.1.2.1.trans (h1.1.2.1.trans h.1.2.1), h2.1.2.2.trans (h1.1.2.2.trans h.1.2.2)⟩, fun i => ⟨(h2.2 i).1.trans ((h1.2 i).1.trans (h.2 i).1), (h2.2 i).2.trans ((h1.2 i).2.trans (h.2 i).2)⟩⟩
theorem goA_s {wd pr : Int → Int} {w1 w2 : zW} {s : List (Int × Int)} (h : goA wd pr w1 s) (k : goS w1 w2) : goA wd pr w2 s :=
  ⟨⟨k.1.1.trans h.1.1, k.1.2.1.trans h.1.2.1, k.1.2.2.trans h.1.2.2⟩, arR_c (fun i _ _ => ⟨(k.2 i).1.symm, (k.2 i).2.symm⟩) h.2⟩
theorem goF_c {m : Int} {w w1 : zW} (h : goF m w w1) : ∀ c x, 75 ≤ c → c ≤ 83 → w1 c x = w c x := fun c x h1 h2 => h.1 c x (by omega) (by omega) (by omega) (by omega) (Or.inl (by omega))
theorem fdF_none {can : Int → Int → Prop} {wd : Int → Int} {tr : Int → Int → Int} {n : Int} {r : List (Int × Int)} {k : Int} (h : isFst (can k) (frr wd tr r k) (-1)) : ∀ d, ¬ stp can wd tr n r (k, d) := fun d hs => hs.2.2.2 (by rw [hs.2.2.1]; exact fdF_eq h)
theorem stp_no {can : Int → Int → Prop} {wd : Int → Int} {tr : Int → Int → Int} {n : Int} {r : List (Int × Int)} {k S : Int} (h : stR n r S) (k0 : 0 ≤ k) (k1 : k < n) (ht : tb S k = true) : ∀ d, ¬ stp can wd tr n r (k, d) := fun d hs => hs.2.1 ((h.2 k k0 k1).mp ht)
def gRow (w : zW) (m U p e : Int) (r : List (Int × Int)) : Prop := rz (mCan w) (mWd w) (mTv w) (w 76 0) r ∧ stR (w 76 0) r U ∧ arR (w 85) (w 86) r ∧ m = ((r.length : Nat) : Int) ∧ p = prR (mPr w) r ∧ e = enR (mWd w) r
theorem prR_b {can : Int → Int → Prop} {wd pr : Int → Int} {tr : Int → Int → Int} {n : Int} (hG : okG can wd pr tr n) : ∀ {r : List (Int × Int)}, rz can wd tr n r → 0 ≤ prR pr r ∧ prR pr r ≤ 9999 * ((r.length : Nat) : Int)
  | [], _ => ⟨Int.le_refl _, Int.le_refl _⟩
  | x :: r, h => by
    have h1 := prR_b hG h.2
    have h2 := (hG.2 x.1 h.1.1.1 h.1.1.2).2.1
    have e : (((x :: r).length : Nat) : Int) = ((r.length : Nat) : Int) + 1 := by simp
    show 0 ≤ pr x.1 + prR pr r ∧ pr x.1 + prR pr r ≤ _
    omega
set_option maxRecDepth 100000 in
set_option maxHeartbeats 4000000 in
theorem m_go_s {l : Launch} {t dr tx : Nat} {w : zW} {n : Nat} (IH : ∀ q : Nat, q < n → ∀ (w : zW) (m U p e : Int) (r : List (Int × Int)) (hM : okMY w) (hR : gRow w m U p e r) (hq : w 76 0 - m = (q : Nat)), zSp l mX12_go false (q + 5) 0 0 [zR 73, zI m, zI U, zI p, zI e] (ZZ t dr tx) w (fun v' S' w' => v' = none ∧ S' = (ZZ t dr tx) ∧ goF m w w' ∧ goV (mCan w) (mWd w) (mPr w) (mTv w) (w 76 0) (fun _ => True) r (w 73 26) (w 73 27) (w 73 28) (goS w w') (goA (mWd w) (mPr w) w')) zNo) {m U p e : Int} {r : List (Int × Int)} (hM : okMY w) (hR : gRow w m U p e r) (hq : w 76 0 - m = (n : Nat)) : zSp l mX12_go false (n + 5) 0 0 [zR 73, zI m, zI U, zI p, zI e] (ZZ t dr tx) w (fun v' S' w' => v' = none ∧ S' = (ZZ t dr tx) ∧ goF m w w' ∧ goV (mCan w) (mWd w) (mPr w) (mTv w) (w 76 0) (fun _ => True) r (w 73 26) (w 73 27) (w 73 28) (goS w w') (goA (mWd w) (mPr w) w')) zNo := by
  refine zA_intro ⟨plainFor_of_name (by decide +kernel), Or.inl (by decide +kernel)⟩ rfl (Nat.le_of_ble_eq_true rfl) ?_
  have hG := mG hM
  obtain ⟨hrz, hS, ha, hm, hp, he⟩ := id hR
  obtain ⟨⟨u1, u2⟩, ⟨u3, u4⟩, ⟨u5, u6⟩, hmv, hle⟩ := id hM
  have hln := len_n u3 hrz
  have hpb := prR_b hG hrz
  have heb := enR_b hG hrz
  have hS1 := hS.1
  have hpn := pow8 u3 u4
  refine zA_range (fun hr => ?_)
  show zA l mX12_go false (n + 5) 0 0 (fun v' S' w' => v' = none ∧ S' = (ZZ t dr tx) ∧ goF m w w' ∧ goV (mCan w) (mWd w) (mPr w) (mTv w) (w 76 0) (fun _ => True) r (w 73 26) (w 73 27) (w 73 28) (goS w w') (goA (mWd w) (mPr w) w')) zNo 0 [zR 73, zI m, zI U, zI p, zI e, .null, .null, .null, .null, .null] [] (ZZ t dr tx) w
  have L38 : ∀ (b : Int) (hb : (b = 1 ∧ (w 73 26 = -1 ∨ btR (mWd w) (mPr w) r (w 73 27) (w 73 28))) ∨ (b = 0 ∧ ¬ (w 73 26 = -1 ∨ btR (mWd w) (mPr w) r (w 73 27) (w 73 28)))), zA l mX12_go false (n + 5) 0 0 (fun v' S' w' => v' = none ∧ S' = (ZZ t dr tx) ∧ goF m w w' ∧ goV (mCan w) (mWd w) (mPr w) (mTv w) (w 76 0) (fun _ => True) r (w 73 26) (w 73 27) (w 73 28) (goS w w') (goA (mWd w) (mPr w) w')) zNo 38 [zR 73, zI m, zI U, zI p, zI e, .null, .null, .null, .null, .null] [zI b] (ZZ t dr tx) w := by
    intro b hb
    refine zA_istore (lo1 := [zR 73, zI m, zI U, zI p, zI e, zI b, .null, .null, .null, .null]) dX12_go_38 (by decide) rfl rfl ?_
    refine zA_iload dX12_go_40 rfl ?_
    have L104 : ∀ (w1 : zW) (hF : goF m w w1) (hV : goV (mCan w) (mWd w) (mPr w) (mTv w) (w 76 0) (Vk 0) r (w 73 26) (w 73 27) (w 73 28) (goS w w1) (goA (mWd w) (mPr w) w1)), zA l mX12_go false (n + 5) 0 0 (fun v' S' w' => v' = none ∧ S' = (ZZ t dr tx) ∧ goF m w w' ∧ goV (mCan w) (mWd w) (mPr w) (mTv w) (w 76 0) (fun _ => True) r (w 73 26) (w 73 27) (w 73 28) (goS w w') (goA (mWd w) (mPr w) w')) zNo 104 [zR 73, zI m, zI U, zI p, zI e, .null, .null, .null, .null, .null] [] (ZZ t dr tx) w1 := by
      intro w1 hF hV
      refine zA_range (fun hr => ?_)
      refine zA_iconst dX12_go_104 ?_
      refine zA_istore (lo1 := [zR 73, zI m, zI U, zI p, zI e, .null, zI 0, .null, .null, .null]) dX12_go_105 (by decide) rfl rfl ?_
      have L107 : ∀ (z107 : Nat) (x : Int) (w1 : zW) (x0 : 0 ≤ x) (x1 : x ≤ w 76 0) (hF : goF m w w1) (hV : goV (mCan w) (mWd w) (mPr w) (mTv w) (w 76 0) (Vk x) r (w 73 26) (w 73 27) (w 73 28) (goS w w1) (goA (mWd w) (mPr w) w1)) (zm : (w 76 0 - x).toNat < z107), zA l mX12_go false (n + 5) 0 0 (fun v' S' w' => v' = none ∧ S' = (ZZ t dr tx) ∧ goF m w w' ∧ goV (mCan w) (mWd w) (mPr w) (mTv w) (w 76 0) (fun _ => True) r (w 73 26) (w 73 27) (w 73 28) (goS w w') (goA (mWd w) (mPr w) w')) zNo 107 [zR 73, zI m, zI U, zI p, zI e, .null, zI x, .null, .null, .null] [] (ZZ t dr tx) w1 := by
        intro z107
        induction z107 with
        | zero => intro x w1 x0 x1 hF hV zm; exact absurd zm (Nat.not_lt_zero _)
        | succ z107 ih107 =>
          intro x w1 x0 x1 hF hV zm
          refine zA_range (fun hr => ?_)
          obtain ⟨e1, e2, e3, e4, e5, e6⟩ := my_c (goF_c hF)
          refine zA_iload dX12_go_107 rfl ?_
          refine zA_aload_n dX12_go_109 rfl ?_
          refine zA_getR (n := 76) dX12_go_110 fX12_29 c73 rfl ?_
          refine zA_iconst dX12_go_113 ?_
          refine zA_iaload dX12_go_114 c76 (by first | assumption | omega) (by first | assumption | omega) (by decide) ?_
          refine zA_valI (w 76 0) (e6) ?_
          refine zA_icmp_ge (tgt := 264) dX12_go_115 (by decide) (by first | assumption | exact hr _ _ | exact inR_mk (by omega) (by omega)) (by first | assumption | exact hr _ _ | exact inR_mk (by omega) (by omega)) (fun c115 => ?_) (fun c115 => ?_)
          · skip
            refine zA_vret dX12_go_264 rfl ?_
            have hxe : x = w 76 0 := by omega
            rw [hxe] at hV
            exact ⟨rfl, rfl, hF, goV_e hV⟩
          · skip
            refine zA_iload_n dX12_go_118 rfl ?_
            refine zA_iload dX12_go_119 rfl ?_
            refine zA_ishr dX12_go_121 ?_
            refine zA_iconst dX12_go_122 ?_
            refine zA_iand dX12_go_123 ?_
            refine zA_valI (if tb U x = true then 1 else 0) (tb_get hS1.1 (by omega) x0 (by omega)) ?_
            refine zA_iconst dX12_go_124 ?_
            refine zA_icmp_ne (tgt := 131) dX12_go_125 (by decide) (inR_ite _) ⟨by decide, by decide⟩ (fun c125 => ?_) (fun c125 => ?_)
            · skip
              have htb : tb U x = false := by
                cases h : tb U x with
                | false => rfl
                | true => rw [h] at c125; exact absurd rfl c125
              have hxn : x < w 76 0 := by omega
              have hlx := hle x x0 hxn
              have hfrb := frr_b hG hrz x0 hxn
              refine zA_bipush dX12_go_131 rfl ?_
              refine zA_iload dX12_go_133 rfl ?_
              refine zA_imul dX12_go_135 ?_
              refine zA_istore (lo1 := [zR 73, zI m, zI U, zI p, zI e, .null, zI x, zI (6 * x), .null, .null]) dX12_go_136 (by decide) rfl rfl ?_
              refine zA_iload_n dX12_go_138 rfl ?_
              have L183 : ∀ (fr : Int) (hfr : fr = frr (mWd w) (mTv w) r x), zA l mX12_go false (n + 5) 0 0 (fun v' S' w' => v' = none ∧ S' = (ZZ t dr tx) ∧ goF m w w' ∧ goV (mCan w) (mWd w) (mPr w) (mTv w) (w 76 0) (fun _ => True) r (w 73 26) (w 73 27) (w 73 28) (goS w w') (goA (mWd w) (mPr w) w')) zNo 183 [zR 73, zI m, zI U, zI p, zI e, .null, zI x, zI (6 * x), .null, .null] [zI fr] (ZZ t dr tx) w1 := by
                intro fr hfr
                refine zA_istore (lo1 := [zR 73, zI m, zI U, zI p, zI e, .null, zI x, zI (6 * x), zI fr, .null]) dX12_go_183 (by decide) rfl rfl ?_
                refine zA_aload_n dX12_go_185 rfl ?_
                refine zA_iload dX12_go_186 rfl ?_
                refine zA_iload dX12_go_188 rfl ?_
                refine zA_cV (st := []) dX12_go_190 vX12_firstDay kX12_331 (m_firstDay (w := w1) (a := x) (d := fr) ((e5 hM).2.2.2.2 x x0 (by rw [e6]; exact hxn)) x0 (by omega) (by rw [goF_c hF 78 0 (by decide) (by decide)]; exact u5) (by rw [goF_c hF 78 0 (by decide) (by decide)]; exact u6) (by omega) (inR_mk (by omega) (by omega))) (by omega) c73 rfl rfl (Nat.le_of_ble_eq_true rfl) rfl (zRp1_el (fun dy hdy => ?_))
                rw [e1, hfr] at hdy
                have hdb := fdF_b hG (l := x) (d := frr (mWd w) (mTv w) r x) x0 hxn
                rw [fdF_eq hdy] at hdb
                refine zA_istore (lo1 := [zR 73, zI m, zI U, zI p, zI e, .null, zI x, zI (6 * x), zI fr, zI dy]) dX12_go_193 (by decide) rfl rfl ?_
                refine zA_iload dX12_go_195 rfl ?_
                refine zA_iconst dX12_go_197 ?_
                refine zA_icmp_ne (tgt := 204) dX12_go_198 (by decide) (by first | assumption | exact hr _ _ | exact inR_mk (by omega) (by omega)) ⟨by decide, by decide⟩ (fun c198 => ?_) (fun c198 => ?_)
                · skip
                  have hst : stp (mCan w) (mWd w) (mTv w) (w 76 0) r (x, dy) := stp_c ⟨x0, hxn⟩ (fun g => by
                    have := (hS.2 x x0 hxn).mpr g
                    rw [htb] at this; cases this) hdy c198
                  have hln3 := len_n (r := (x, dy) :: r) u3 ⟨hst, hrz⟩
                  have hlen3 : ((((x, dy) :: r).length : Nat) : Int) = ((r.length : Nat) : Int) + 1 := by simp
                  refine zA_aload_n dX12_go_204 rfl ?_
                  refine zA_getR (n := 85) dX12_go_205 fX12_57 c73 rfl ?_
                  refine zA_iload_n dX12_go_208 rfl ?_
                  refine zA_iload dX12_go_209 rfl ?_
                  refine zA_iastore dX12_go_211 (by first | assumption | exact hr _ _ | exact inR_mk (by omega) (by omega)) c85 (by first | assumption | omega) (by first | assumption | omega) (by decide) ?_
                  refine zA_namew (fun w_1 hw_1 => ?_)
                  refine zA_range (fun hr => ?_)
                  replace hw_1 : w_1 = up w1 85 m x := hw_1
                  refine zA_aload_n dX12_go_212 rfl ?_
                  refine zA_getR (n := 86) dX12_go_213 fX12_60 c73 rfl ?_
                  refine zA_iload_n dX12_go_216 rfl ?_
                  refine zA_iload dX12_go_217 rfl ?_
                  refine zA_iastore dX12_go_219 (by first | assumption | exact hr _ _ | exact inR_mk (by omega) (by omega)) c86 (by first | assumption | omega) (by first | assumption | omega) (by decide) ?_
                  refine zA_namew (fun w_2 hw_2 => ?_)
                  refine zA_range (fun hr => ?_)
                  replace hw_2 : w_2 = up w_1 86 m dy := hw_2
                  have hu : ∀ c z, c ≠ 85 → c ≠ 86 → w_2 c z = w1 c z := fun c z g1 g2 => by rw [hw_2, up_cell _ _ _ _ g2, hw_1, up_cell _ _ _ _ g1]
                  have hu2 : ∀ i : Int, i < m → w_2 85 i = w1 85 i ∧ w_2 86 i = w1 86 i := fun i hi => by
                    refine ⟨?_, ?_⟩
                    · rw [hw_2, up_cell _ _ _ _ (by decide), hw_1, up_idx _ _ _ _ (by omega)]
                    · rw [hw_2, up_idx _ _ _ _ (by omega), hw_1, up_cell _ _ _ _ (by decide)]
                  have hu0 : ∀ c z, 75 ≤ c → c ≤ 83 → w_2 c z = w c z := fun c z g1 g2 => (hu c z (by omega) (by omega)).trans (goF_c hF c z g1 g2)
                  obtain ⟨h1, h2, h3, h4, h5, h6⟩ := my_c hu0
                  have hpe : w_2 81 (6 * x + 5) = mPr w x := hu0 81 _ (by decide) (by decide)
                  have hpw : w_2 81 (6 * x + 1) = mWd w x := hu0 81 _ (by decide) (by decide)
                  have hR3 : gRow w_2 (m + 1) (iOr U (iShl 1 x)) (p + mPr w x) (dy + mWd w x - 1) ((x, dy) :: r) := by
                    unfold gRow
                    rw [h1, h2, h3, h4, h6]
                    refine ⟨⟨hst, hrz⟩, st_s u3 u4 hS x0 hxn, ⟨?_, ?_, arR_c (fun j j0 j1 => ?_) ha⟩, by omega, ?_, rfl⟩
                    · rw [hw_2, up_cell _ _ _ _ (by decide), hw_1, ← hm, up_same]
                    · rw [hw_2, ← hm, up_same]
                    · rw [(hu2 j (by omega)).1, (hu2 j (by omega)).2, (hF.2 j (by omega)).1, (hF.2 j (by omega)).2]; exact ⟨rfl, rfl⟩
                    · rw [hp]; show prR (mPr w) r + mPr w x = mPr w x + prR (mPr w) r; omega
                  refine zA_aload_n dX12_go_220 rfl ?_
                  refine zA_iload_n dX12_go_221 rfl ?_
                  refine zA_iconst dX12_go_222 ?_
                  refine zA_iadd dX12_go_223 ?_
                  refine zA_iload_n dX12_go_224 rfl ?_
                  refine zA_iconst dX12_go_225 ?_
                  refine zA_iload dX12_go_226 rfl ?_
                  refine zA_ishl dX12_go_228 ?_
                  refine zA_ior dX12_go_229 ?_
                  refine zA_iload_n dX12_go_230 rfl ?_
                  refine zA_aload_n dX12_go_231 rfl ?_
                  refine zA_getR (n := 81) dX12_go_232 fX12_43 c73 rfl ?_
                  refine zA_iload dX12_go_235 rfl ?_
                  refine zA_iconst dX12_go_237 ?_
                  refine zA_iadd dX12_go_238 ?_
                  refine zA_iaload dX12_go_239 c81 (by first | assumption | omega) (by first | assumption | omega) (by decide) ?_
                  refine zA_valI (mPr w x) (hpe) ?_
                  refine zA_iadd dX12_go_240 ?_
                  refine zA_iload dX12_go_241 rfl ?_
                  refine zA_aload_n dX12_go_243 rfl ?_
                  refine zA_getR (n := 81) dX12_go_244 fX12_43 c73 rfl ?_
                  refine zA_iload dX12_go_247 rfl ?_
                  refine zA_iconst dX12_go_249 ?_
                  refine zA_iadd dX12_go_250 ?_
                  refine zA_iaload dX12_go_251 c81 (by first | assumption | omega) (by first | assumption | omega) (by decide) ?_
                  refine zA_valI (mWd w x) (hpw) ?_
                  refine zA_iadd dX12_go_252 ?_
                  refine zA_iconst dX12_go_253 ?_
                  refine zA_isub dX12_go_254 ?_
                  refine zA_cV (st := []) dX12_go_255 vX12_go kX12_340 (IH (n - 1) (by omega) w_2 (m + 1) (iOr U (iShl 1 x)) (p + mPr w x) (dy + mWd w x - 1) ((x, dy) :: r) (h5 hM) hR3 (by rw [h6]; omega)) (by omega) c73 rfl rfl (Nat.le_of_ble_eq_true rfl) rfl (fun q_3_v q_3_S q_3_w q_3 => ?_)
                  obtain ⟨rfl, rfl, hF3, hV3⟩ := q_3
                  rw [h1, h2, h3, h4, h6] at hV3
                  have hF4 : goF m w q_3_w := ⟨fun c z g1 g2 g3 g4 g5 => (hF3.1 c z g1 g2 g3 g4 g5).trans ((hu c z g1 g2).trans (hF.1 c z g1 g2 g3 g4 g5)), fun i hi => ⟨(hF3.2 i (by omega)).1.trans ((hu2 i (by omega)).1.trans (hF.2 i hi).1), (hF3.2 i (by omega)).2.trans ((hu2 i (by omega)).2.trans (hF.2 i hi).2)⟩⟩
                  have hu3 : goS w1 w_2 := ⟨⟨hu 73 26 (by decide) (by decide), hu 73 27 (by decide) (by decide), hu 73 28 (by decide) (by decide)⟩, fun i => ⟨hu 87 i (by decide) (by decide), hu 88 i (by decide) (by decide)⟩⟩
                  have hV4 := goV_s hV hst hV3 (sm2 := goS w q_3_w) (fun g1 g2 => goS_tr g1 hu3 g2) (fun g1 => ⟨hu3.1.1.trans g1.1.1, hu3.1.2.1.trans g1.1.2.1, hu3.1.2.2.trans g1.1.2.2⟩) (fun s g1 => ⟨by rw [hu3.1.1, g1.1.1]; omega, hu3.1.2.1.trans g1.1.2.1, hu3.1.2.2.trans g1.1.2.2⟩) (fun s g1 g2 => goA_s (goA_s g1 hu3) g2)
                  refine zA_range (fun hr => ?_)
                  show zA l mX12_go false (n + 5) 0 0 (fun v' S' w' => v' = none ∧ S' = (ZZ t dr tx) ∧ goF m w w' ∧ goV (mCan w) (mWd w) (mPr w) (mTv w) (w 76 0) (fun _ => True) r (w 73 26) (w 73 27) (w 73 28) (goS w w') (goA (mWd w) (mPr w) w')) zNo 258 [zR 73, zI m, zI U, zI p, zI e, .null, zI x, zI (6 * x), zI fr, zI dy] [] (ZZ t dr tx) q_3_w
                  refine zA_iinc (lo1 := [zR 73, zI m, zI U, zI p, zI e, .null, zI (x + 1), zI (6 * x), zI fr, zI dy]) dX12_go_258 rfl (by decide) rfl rfl ?_
                  refine zA_goto (tgt := 107) dX12_go_261 (by decide) ?_
                  refine zA_drop 7 (lo1 := [zR 73, zI m, zI U, zI p, zI e, .null, zI (x + 1), .null, zI fr, zI dy]) rfl ?_
                  refine zA_drop 8 (lo1 := [zR 73, zI m, zI U, zI p, zI e, .null, zI (x + 1), .null, .null, zI dy]) rfl ?_
                  refine zA_drop 9 (lo1 := [zR 73, zI m, zI U, zI p, zI e, .null, zI (x + 1), .null, .null, .null]) rfl ?_
                  exact ih107 (x + 1) _ (by omega) (by omega) hF4 hV4 (by omega)
                · skip
                  refine zA_goto (tgt := 258) dX12_go_201 (by decide) ?_
                  refine zA_iinc (lo1 := [zR 73, zI m, zI U, zI p, zI e, .null, zI (x + 1), zI (6 * x), zI fr, zI dy]) dX12_go_258 rfl (by decide) rfl rfl ?_
                  refine zA_goto (tgt := 107) dX12_go_261 (by decide) ?_
                  refine zA_drop 7 (lo1 := [zR 73, zI m, zI U, zI p, zI e, .null, zI (x + 1), .null, zI fr, zI dy]) rfl ?_
                  refine zA_drop 8 (lo1 := [zR 73, zI m, zI U, zI p, zI e, .null, zI (x + 1), .null, .null, zI dy]) rfl ?_
                  refine zA_drop 9 (lo1 := [zR 73, zI m, zI U, zI p, zI e, .null, zI (x + 1), .null, .null, .null]) rfl ?_
                  exact ih107 (x + 1) w1 (by omega) (by omega) hF (goV_no hV (fdF_none (by rw [c198] at hdy; exact hdy))) (by omega)
              refine zA_if_ne (tgt := 146) dX12_go_139 (by decide) (by first | assumption | exact hr _ _ | exact inR_mk (by omega) (by omega)) (fun c139 => ?_) (fun c139 => ?_)
              · skip
                have hrn : r ≠ [] := fun g => c139 (by rw [hm, g]; rfl)
                have hhd := hd_b r hrz hrn
                have hlh := hle (hdR r) hhd.1 hhd.2
                have hw85 : w1 85 (m - 1) = hdR r := by
                  rw [(hF.2 (m - 1) (by omega)).1]
                  cases r with
                  | nil => exact absurd rfl hrn
                  | cons y r =>
                    have g : (((y :: r).length : Nat) : Int) = ((r.length : Nat) : Int) + 1 := by simp
                    rw [hm, g, show ((r.length : Nat) : Int) + 1 - 1 = ((r.length : Nat) : Int) by omega]
                    exact ha.1
                have f81 : ∀ z, w1 81 z = w 81 z := fun z => goF_c hF 81 z (by decide) (by decide)
                have f81a := f81 (6 * hdR r)
                have f81b := f81 (6 * x)
                have f82 : ∀ z, w1 82 z = w 82 z := fun z => goF_c hF 82 z (by decide) (by decide)
                have hmi1 : 0 ≤ m - 1 ∧ m - 1 < 8 := by omega
                have hl0 := hlh.1
                have hl1 := hlx.1
                refine zA_iload dX12_go_146 rfl ?_
                refine zA_iconst dX12_go_148 ?_
                refine zA_iadd dX12_go_149 ?_
                refine zA_aload_n dX12_go_150 rfl ?_
                refine zA_getR (n := 82) dX12_go_151 fX12_45 c73 rfl ?_
                refine zA_bipush dX12_go_154 rfl ?_
                refine zA_aload_n dX12_go_156 rfl ?_
                refine zA_getR (n := 81) dX12_go_157 fX12_43 c73 rfl ?_
                refine zA_bipush dX12_go_160 rfl ?_
                refine zA_aload_n dX12_go_162 rfl ?_
                refine zA_getR (n := 85) dX12_go_163 fX12_57 c73 rfl ?_
                refine zA_iload_n dX12_go_166 rfl ?_
                refine zA_iconst dX12_go_167 ?_
                refine zA_isub dX12_go_168 ?_
                refine zA_iaload dX12_go_169 c85 (by first | assumption | omega) (by first | assumption | omega) (by decide) ?_
                refine zA_valI (hdR r) (hw85) ?_
                refine zA_imul dX12_go_170 ?_
                refine zA_iaload dX12_go_171 c81 (by first | assumption | omega) (by first | assumption | omega) (by decide) ?_
                refine zA_imul dX12_go_172 ?_
                refine zA_aload_n dX12_go_173 rfl ?_
                refine zA_getR (n := 81) dX12_go_174 fX12_43 c73 rfl ?_
                refine zA_iload dX12_go_177 rfl ?_
                refine zA_iaload dX12_go_179 c81 (by first | assumption | omega) (by first | assumption | omega) (by decide) ?_
                refine zA_iadd dX12_go_180 ?_
                refine zA_iaload dX12_go_181 c82 (by first | assumption | omega) (by first | assumption | omega) (by decide) ?_
                refine zA_iadd dX12_go_182 ?_
                exact L183 _ (by rw [((frr_en hG hrz x0 hxn).2 hrn).1, he]; rw [f81a, f81b, f82]; rfl)
              · skip
                have hrn : r = [] := by
                  cases r with
                  | nil => rfl
                  | cons y r => exfalso; have : (((y :: r).length : Nat) : Int) = ((r.length : Nat) : Int) + 1 := by simp
                                omega
                refine zA_iconst dX12_go_142 ?_
                refine zA_goto (tgt := 183) dX12_go_143 (by decide) ?_
                exact L183 _ (by rw [hrn]; rfl)
            · skip
              have htb : tb U x = true := by
                cases h : tb U x with
                | true => rfl
                | false => rw [h] at c125; exact absurd c125 (by decide)
              refine zA_goto (tgt := 258) dX12_go_128 (by decide) ?_
              refine zA_iinc (lo1 := [zR 73, zI m, zI U, zI p, zI e, .null, zI (x + 1), .null, .null, .null]) dX12_go_258 rfl (by decide) rfl rfl ?_
              refine zA_goto (tgt := 107) dX12_go_261 (by decide) ?_
              exact ih107 (x + 1) w1 (by omega) (by omega) hF (goV_no hV (stp_no hS x0 (by omega) htb)) (by omega)
      exact L107 _ 0 w1 (by omega) (by omega) hF hV (Nat.lt_succ_self _)
    refine zA_if_eq (tgt := 104) dX12_go_42 (by decide) (by first | assumption | exact hr _ _ | exact inR_mk (by omega) (by omega)) (fun c42 => ?_) (fun c42 => ?_)
    · skip
      refine zA_drop 5 (lo1 := [zR 73, zI m, zI U, zI p, zI e, .null, .null, .null, .null, .null]) rfl ?_
      exact L104 w goF_rfl (goV_0 (fun h => absurd h (hb.resolve_left (fun g => by omega)).2) (fun _ => goS_rfl))
    · skip
      refine zA_aload_n dX12_go_45 rfl ?_
      refine zA_iload_n dX12_go_46 rfl ?_
      refine zA_putI dX12_go_47 fX12_69 c73 rfl (by first | assumption | exact hr _ _ | exact inR_mk (by omega) (by omega)) ⟨rfl, rfl⟩ ?_
      refine zA_namew (fun w_4 hw_4 => ?_)
      refine zA_range (fun hr => ?_)
      replace hw_4 : w_4 = up w 73 26 m := hw_4
      refine zA_aload_n dX12_go_50 rfl ?_
      refine zA_iload_n dX12_go_51 rfl ?_
      refine zA_putI dX12_go_52 fX12_334 c73 rfl (by first | assumption | exact hr _ _ | exact inR_mk (by omega) (by omega)) ⟨rfl, rfl⟩ ?_
      refine zA_namew (fun w_5 hw_5 => ?_)
      refine zA_range (fun hr => ?_)
      replace hw_5 : w_5 = up w_4 73 27 p := hw_5
      refine zA_aload_n dX12_go_55 rfl ?_
      refine zA_iload dX12_go_56 rfl ?_
      refine zA_putI dX12_go_58 fX12_337 c73 rfl (by first | assumption | exact hr _ _ | exact inR_mk (by omega) (by omega)) ⟨rfl, rfl⟩ ?_
      refine zA_namew (fun w_6 hw_6 => ?_)
      refine zA_range (fun hr => ?_)
      replace hw_6 : w_6 = up w_5 73 28 e := hw_6
      refine zA_iconst dX12_go_61 ?_
      refine zA_istore (lo1 := [zR 73, zI m, zI U, zI p, zI e, zI b, zI 0, .null, .null, .null]) dX12_go_62 (by decide) rfl rfl ?_
      refine zA_drop 5 (lo1 := [zR 73, zI m, zI U, zI p, zI e, .null, zI 0, .null, .null, .null]) rfl ?_
      have L64 : ∀ (z64 : Nat) (i : Int) (w1 : zW) (i0 : 0 ≤ i) (i1 : i ≤ m) (f26 : w1 73 26 = m) (f27 : w1 73 27 = p) (f28 : w1 73 28 = e) (hf : ∀ c x, c ≠ 87 → c ≠ 88 → (c ≠ 73 ∨ (x ≠ 26 ∧ x ≠ 27 ∧ x ≠ 28)) → w1 c x = w c x) (hcp : ∀ j : Int, 0 ≤ j → j < i → w1 87 j = w 85 j ∧ w1 88 j = w 86 j) (zm : (m - i).toNat < z64), zA l mX12_go false (n + 5) 0 0 (fun v' S' w' => v' = none ∧ S' = (ZZ t dr tx) ∧ goF m w w' ∧ goV (mCan w) (mWd w) (mPr w) (mTv w) (w 76 0) (fun _ => True) r (w 73 26) (w 73 27) (w 73 28) (goS w w') (goA (mWd w) (mPr w) w')) zNo 64 [zR 73, zI m, zI U, zI p, zI e, .null, zI i, .null, .null, .null] [] (ZZ t dr tx) w1 := by
        intro z64
        induction z64 with
        | zero => intro i w1 i0 i1 f26 f27 f28 hf hcp zm; exact absurd zm (Nat.not_lt_zero _)
        | succ z64 ih64 =>
          intro i w1 i0 i1 f26 f27 f28 hf hcp zm
          refine zA_range (fun hr => ?_)
          refine zA_iload dX12_go_64 rfl ?_
          refine zA_iload_n dX12_go_66 rfl ?_
          refine zA_icmp_ge (tgt := 104) dX12_go_67 (by decide) (by first | assumption | exact hr _ _ | exact inR_mk (by omega) (by omega)) (by first | assumption | exact hr _ _ | exact inR_mk (by omega) (by omega)) (fun c67 => ?_) (fun c67 => ?_)
          · skip
            refine zA_drop 6 (lo1 := [zR 73, zI m, zI U, zI p, zI e, .null, .null, .null, .null, .null]) rfl ?_
            exact L104 w1 ⟨fun c x g1 g2 g3 g4 g5 => hf c x g3 g4 g5, fun i _ => ⟨hf 85 i (by decide) (by decide) (Or.inl (by decide)), hf 86 i (by decide) (by decide) (Or.inl (by decide))⟩⟩ (goV_0 (fun _ => ⟨⟨f26.trans hm, f27.trans hp, f28.trans he⟩, arR_c (fun j j0 j1 => ⟨(hcp j j0 (by omega)).1.symm, (hcp j j0 (by omega)).2.symm⟩) ha⟩) (fun h => absurd (hb.resolve_right (fun g => by omega)).2 h))
          · skip
            refine zA_aload_n dX12_go_70 rfl ?_
            refine zA_getR (n := 87) dX12_go_71 fX12_63 c73 rfl ?_
            refine zA_iload dX12_go_74 rfl ?_
            refine zA_aload_n dX12_go_76 rfl ?_
            refine zA_getR (n := 85) dX12_go_77 fX12_57 c73 rfl ?_
            refine zA_iload dX12_go_80 rfl ?_
            refine zA_iaload dX12_go_82 c85 (by first | assumption | omega) (by first | assumption | omega) (by decide) ?_
            refine zA_iastore dX12_go_83 (by first | assumption | exact hr _ _ | exact inR_mk (by omega) (by omega)) c87 (by first | assumption | omega) (by first | assumption | omega) (by decide) ?_
            refine zA_namew (fun w_7 hw_7 => ?_)
            refine zA_range (fun hr => ?_)
            replace hw_7 : w_7 = up w1 87 i (w1 85 i) := hw_7
            refine zA_aload_n dX12_go_84 rfl ?_
            refine zA_getR (n := 88) dX12_go_85 fX12_66 c73 rfl ?_
            refine zA_iload dX12_go_88 rfl ?_
            refine zA_aload_n dX12_go_90 rfl ?_
            refine zA_getR (n := 86) dX12_go_91 fX12_60 c73 rfl ?_
            refine zA_iload dX12_go_94 rfl ?_
            refine zA_iaload dX12_go_96 c86 (by first | assumption | omega) (by first | assumption | omega) (by decide) ?_
            refine zA_iastore dX12_go_97 (by first | assumption | exact hr _ _ | exact inR_mk (by omega) (by omega)) c88 (by first | assumption | omega) (by first | assumption | omega) (by decide) ?_
            refine zA_namew (fun w_8 hw_8 => ?_)
            refine zA_range (fun hr => ?_)
            replace hw_8 : w_8 = up w_7 88 i (w_7 86 i) := hw_8
            refine zA_iinc (lo1 := [zR 73, zI m, zI U, zI p, zI e, .null, zI (i + 1), .null, .null, .null]) dX12_go_98 rfl (by decide) rfl rfl ?_
            refine zA_goto (tgt := 64) dX12_go_101 (by decide) ?_
            exact ih64 (i + 1) _ (by omega) (by omega) (by rw [hw_8, up_cell _ _ _ _ (by decide), hw_7, up_cell _ _ _ _ (by decide)]; exact f26) (by rw [hw_8, up_cell _ _ _ _ (by decide), hw_7, up_cell _ _ _ _ (by decide)]; exact f27) (by rw [hw_8, up_cell _ _ _ _ (by decide), hw_7, up_cell _ _ _ _ (by decide)]; exact f28) (fun c x a b g => by rw [hw_8, up_cell _ _ _ _ b, hw_7, up_cell _ _ _ _ a]; exact hf c x a b g) (fun j a b => by
                        rw [hw_8, up_cell _ _ _ _ (by decide), hw_7]
                        by_cases g : j = i
                        · rw [g, up_same, up_same, up_cell _ _ _ _ (by decide)]
                          exact ⟨hf 85 i (by decide) (by decide) (Or.inl (by decide)), hf 86 i (by decide) (by decide) (Or.inl (by decide))⟩
                        · rw [up_idx _ _ _ _ g, up_idx _ _ _ _ g, up_cell _ _ _ _ (by decide)]; exact hcp j a (by omega)) (by omega)
      exact L64 _ 0 _ (by omega) (by omega) (by rw [hw_6, up_idx _ _ _ _ (by decide), hw_5, up_idx _ _ _ _ (by decide), hw_4, up_same]) (by rw [hw_6, up_idx _ _ _ _ (by decide), hw_5, up_same]) (by rw [hw_6, up_same]) (fun c x a b g => by rw [hw_6, up_n (by omega), hw_5, up_n (by omega), hw_4, up_n (by omega)]) (fun j a b => by omega) (Nat.lt_succ_self _)
  refine zA_aload_n dX12_go_0 rfl ?_
  refine zA_getI dX12_go_1 fX12_69 c73 rfl ?_
  refine zA_valI (w 73 26) rfl ?_
  refine zA_iconst dX12_go_4 ?_
  refine zA_icmp_eq (tgt := 33) dX12_go_5 (by decide) (by first | assumption | exact hr _ _ | exact inR_mk (by omega) (by omega)) ⟨by decide, by decide⟩ (fun c5 => ?_) (fun c5 => ?_)
  · skip
    refine zA_iconst dX12_go_33 ?_
    refine zA_goto (tgt := 38) dX12_go_34 (by decide) ?_
    exact L38 _ (Or.inl ⟨rfl, by unfold btR; omega⟩)
  · skip
    refine zA_iload_n dX12_go_8 rfl ?_
    refine zA_aload_n dX12_go_9 rfl ?_
    refine zA_getI dX12_go_10 fX12_334 c73 rfl ?_
    refine zA_valI (w 73 27) rfl ?_
    refine zA_icmp_gt (tgt := 33) dX12_go_13 (by decide) (by first | assumption | exact hr _ _ | exact inR_mk (by omega) (by omega)) (by first | assumption | exact hr _ _ | exact inR_mk (by omega) (by omega)) (fun c13 => ?_) (fun c13 => ?_)
    · skip
      refine zA_iconst dX12_go_33 ?_
      refine zA_goto (tgt := 38) dX12_go_34 (by decide) ?_
      exact L38 _ (Or.inl ⟨rfl, by unfold btR; omega⟩)
    · skip
      refine zA_iload_n dX12_go_16 rfl ?_
      refine zA_aload_n dX12_go_17 rfl ?_
      refine zA_getI dX12_go_18 fX12_334 c73 rfl ?_
      refine zA_valI (w 73 27) rfl ?_
      refine zA_icmp_ne (tgt := 37) dX12_go_21 (by decide) (by first | assumption | exact hr _ _ | exact inR_mk (by omega) (by omega)) (by first | assumption | exact hr _ _ | exact inR_mk (by omega) (by omega)) (fun c21 => ?_) (fun c21 => ?_)
      · skip
        refine zA_iconst dX12_go_37 ?_
        exact L38 _ (Or.inr ⟨rfl, by unfold btR; omega⟩)
      · skip
        refine zA_iload dX12_go_24 rfl ?_
        refine zA_aload_n dX12_go_26 rfl ?_
        refine zA_getI dX12_go_27 fX12_337 c73 rfl ?_
        refine zA_valI (w 73 28) rfl ?_
        refine zA_icmp_ge (tgt := 37) dX12_go_30 (by decide) (by first | assumption | exact hr _ _ | exact inR_mk (by omega) (by omega)) (by first | assumption | exact hr _ _ | exact inR_mk (by omega) (by omega)) (fun c30 => ?_) (fun c30 => ?_)
        · skip
          refine zA_iconst dX12_go_37 ?_
          exact L38 _ (Or.inr ⟨rfl, by unfold btR; omega⟩)
        · skip
          refine zA_iconst dX12_go_33 ?_
          refine zA_goto (tgt := 38) dX12_go_34 (by decide) ?_
          exact L38 _ (Or.inl ⟨rfl, by unfold btR; omega⟩)

theorem m_go {l : Launch} {t dr tx : Nat} : ∀ (n : Nat) (w : zW) (m U p e : Int) (r : List (Int × Int)) (hM : okMY w) (hR : gRow w m U p e r) (hq : w 76 0 - m = (n : Nat)), zSp l mX12_go false (n + 5) 0 0 [zR 73, zI m, zI U, zI p, zI e] (ZZ t dr tx) w (fun v' S' w' => v' = none ∧ S' = (ZZ t dr tx) ∧ goF m w w' ∧ goV (mCan w) (mWd w) (mPr w) (mTv w) (w 76 0) (fun _ => True) r (w 73 26) (w 73 27) (w 73 28) (goS w w') (goA (mWd w) (mPr w) w')) zNo := by
  intro n
  induction n using Nat.strongRecOn with
  | _ n ih =>
    intro w m U p e r h1 h2 h3
    exact m_go_s (n := n) ih h1 h2 h3
set_option maxRecDepth 100000 in
set_option maxHeartbeats 4000000 in
theorem m_plan {l : Launch} {t dr tx : Nat} {w : zW} (hM : okMY w) : zSp l mX12_plan false 14 0 0 [zR 73] (ZZ t dr tx) w (fun v' S' w' => v' = some (zI (w' 73 27)) ∧ S' = (ZZ t dr tx) ∧ (∀ c x, c ≠ 85 → c ≠ 86 → c ≠ 87 → c ≠ 88 → (c ≠ 73 ∨ (x ≠ 1 ∧ x ≠ 26 ∧ x ≠ 27 ∧ x ≠ 28 ∧ x ≠ 76)) → w' c x = w c x) ∧ (w' 73 1 = 0 ∧ w' 73 76 = -1) ∧ ∃ R r, bz (mCan w) (mWd w) (mPr w) (mTv w) (w 76 0) R ∧ ct R [] = r ∧ rz (mCan w) (mWd w) (mTv w) (w 76 0) r ∧ arR (w' 87) (w' 88) r ∧ w' 73 26 = ((r.length : Nat) : Int) ∧ prR (mPr w) r = w' 73 27 ∧ enR (mWd w) r = w' 73 28) zNo := by
  refine zA_intro ⟨plainFor_of_name (by decide +kernel), Or.inl (by decide +kernel)⟩ rfl (Nat.le_of_ble_eq_true rfl) ?_
  have hn8 := hM.2.1
  refine zA_range (fun hr => ?_)
  show zA l mX12_plan false 14 0 0 (fun v' S' w' => v' = some (zI (w' 73 27)) ∧ S' = (ZZ t dr tx) ∧ (∀ c x, c ≠ 85 → c ≠ 86 → c ≠ 87 → c ≠ 88 → (c ≠ 73 ∨ (x ≠ 1 ∧ x ≠ 26 ∧ x ≠ 27 ∧ x ≠ 28 ∧ x ≠ 76)) → w' c x = w c x) ∧ (w' 73 1 = 0 ∧ w' 73 76 = -1) ∧ ∃ R r, bz (mCan w) (mWd w) (mPr w) (mTv w) (w 76 0) R ∧ ct R [] = r ∧ rz (mCan w) (mWd w) (mTv w) (w 76 0) r ∧ arR (w' 87) (w' 88) r ∧ w' 73 26 = ((r.length : Nat) : Int) ∧ prR (mPr w) r = w' 73 27 ∧ enR (mWd w) r = w' 73 28) zNo 0 [zR 73] [] (ZZ t dr tx) w
  refine zA_aload_n dX12_plan_0 rfl ?_
  refine zA_iconst dX12_plan_1 ?_
  refine zA_putI dX12_plan_2 fX12_182 c73 rfl ⟨by decide, by decide⟩ ⟨rfl, rfl⟩ ?_
  refine zA_namew (fun w_1 hw_1 => ?_)
  refine zA_range (fun hr => ?_)
  replace hw_1 : w_1 = up w 73 1 0 := hw_1
  refine zA_aload_n dX12_plan_5 rfl ?_
  refine zA_iconst dX12_plan_6 ?_
  refine zA_putI dX12_plan_7 fX12_69 c73 rfl ⟨by decide, by decide⟩ ⟨rfl, rfl⟩ ?_
  refine zA_namew (fun w_2 hw_2 => ?_)
  refine zA_range (fun hr => ?_)
  replace hw_2 : w_2 = up w_1 73 26 (-1) := hw_2
  refine zA_aload_n dX12_plan_10 rfl ?_
  refine zA_iconst dX12_plan_11 ?_
  refine zA_putI dX12_plan_12 fX12_157 c73 rfl ⟨by decide, by decide⟩ ⟨rfl, rfl⟩ ?_
  refine zA_namew (fun w_3 hw_3 => ?_)
  refine zA_range (fun hr => ?_)
  replace hw_3 : w_3 = up w_2 73 76 (-1) := hw_3
  have hu : ∀ c z, (c ≠ 73 ∨ (z ≠ 1 ∧ z ≠ 26 ∧ z ≠ 76)) → w_3 c z = w c z := fun c z g => by rw [hw_3, up_n (by omega), hw_2, up_n (by omega), hw_1, up_n (by omega)]
  have hu26 : w_3 73 26 = -1 := by rw [hw_3, up_idx _ _ _ _ (by decide), hw_2, up_same]
  have hu1 : w_3 73 1 = 0 := by rw [hw_3, up_idx _ _ _ _ (by decide), hw_2, up_idx _ _ _ _ (by decide), hw_1, up_same]
  have hu76 : w_3 73 76 = -1 := by rw [hw_3, up_same]
  obtain ⟨h1, h2, h3, h4, h5, h6⟩ := my_c (w1 := w_3) (w := w) (fun c z g1 g2 => hu c z (Or.inl (by omega)))
  refine zA_aload_n dX12_plan_15 rfl ?_
  refine zA_iconst dX12_plan_16 ?_
  refine zA_iconst dX12_plan_17 ?_
  refine zA_iconst dX12_plan_18 ?_
  refine zA_iconst dX12_plan_19 ?_
  refine zA_cV (st := []) dX12_plan_20 vX12_go kX12_340 (m_go (w_3 76 0).toNat w_3 0 0 0 (-1) [] (h5 hM) ⟨trivial, st_0, trivial, rfl, rfl, rfl⟩ (by rw [h6]; omega)) (by rw [h6]; omega) c73 rfl rfl (Nat.le_of_ble_eq_true rfl) rfl (fun q_4_v q_4_S q_4_w q_4 => ?_)
  obtain ⟨rfl, rfl, hF, hV⟩ := q_4
  rw [h1, h2, h3, h4, h6] at hV
  have hV2 := hV.resolve_left (fun g => g.2.1 hu26)
  refine zA_range (fun hr => ?_)
  show zA l mX12_plan false 14 0 0 (fun v' S' w' => v' = some (zI (w' 73 27)) ∧ S' = (ZZ t dr tx) ∧ (∀ c x, c ≠ 85 → c ≠ 86 → c ≠ 87 → c ≠ 88 → (c ≠ 73 ∨ (x ≠ 1 ∧ x ≠ 26 ∧ x ≠ 27 ∧ x ≠ 28 ∧ x ≠ 76)) → w' c x = w c x) ∧ (w' 73 1 = 0 ∧ w' 73 76 = -1) ∧ ∃ R r, bz (mCan w) (mWd w) (mPr w) (mTv w) (w 76 0) R ∧ ct R [] = r ∧ rz (mCan w) (mWd w) (mTv w) (w 76 0) r ∧ arR (w' 87) (w' 88) r ∧ w' 73 26 = ((r.length : Nat) : Int) ∧ prR (mPr w) r = w' 73 27 ∧ enR (mWd w) r = w' 73 28) zNo 23 [zR 73] [] (ZZ t dr tx) q_4_w
  refine zA_aload_n dX12_plan_23 rfl ?_
  refine zA_getI dX12_plan_24 fX12_334 c73 rfl ?_
  refine zA_valI (q_4_w 73 27) rfl ?_
  refine zA_iret dX12_plan_27 rfl ?_
  obtain ⟨R, -, g1, g2, -, g3⟩ := hV2
  refine ⟨rfl, rfl, fun c z a b c1 d e => (hF.1 c z a b c1 d (by omega)).trans (hu c z (by omega)), ⟨(hF.1 73 1 (by decide) (by decide) (by decide) (by decide) (Or.inr (by decide))).trans hu1, (hF.1 73 76 (by decide) (by decide) (by decide) (by decide) (Or.inr (by decide))).trans hu76⟩, R, ct R [], ⟨g1, fun u hu2 => g3 u trivial hu2⟩, rfl, rz_ct (r := []) trivial g1, g2.2, g2.1.1, g2.1.2.1.symm, g2.1.2.2.symm⟩

