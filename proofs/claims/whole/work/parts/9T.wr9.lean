/-! climb, back on both sides -/
set_option maxRecDepth 100000 in
set_option maxHeartbeats 4000000 in
theorem P_climb {l : Launch} {N0 t dr tx : Nat} {w : zW} (h : zSim N0 t dr tx w) (hN : N0 ≤ 600) {m c r d : Int} (hr_m : inR m) (hr_c : inR c) (hr_r : inR r) (hr_d : inR d) : zPr l N0 mX11_climb mX12_climb 0 0 false [zI m, zI c, zI r, zI d] t dr tx w := by
  obtain ⟨⟨n0, n1, n2, n3⟩, n4, n5, n6, n7⟩ := sYd_n h.ky
  have ht : t = 4 ∨ t = 10 := by have := h.ht; omega
  have hpl := sPlan_n h.kp
  have hor := sOr_n h.ko
  have hcl := sClm_n h.kl
  have htr := sTr_n h.kT
  have hge := h.kg.2.1
  have hge2 := h.kg.1
  have htp := h.ka.1
  have htp2 := h.ka.2.1
  have hfl := h.kf.1
  obtain ⟨⟨u1, u2, u3⟩, u4, v1, v2, v3, v4, v5, v6⟩ := h.kl
  obtain ⟨-, -, -, -, -, -, -, -, hne⟩ := sYd_y h.ky
  have hR : ∀ w2 : zW, (∀ (cc : Nat) (xx : Int), 73 ≤ cc → cc ≠ 121 → w2 cc xx = w cc xx) → ∃ (d2 : Nat) (Q2 : Option Value → zS → zW → Prop), d2 ≤ 15 ∧ zSp l mX12_climb false d2 0 0 [zR 73, zI m, zI c, zI r, zI d] (ZZ t dr tx) w2 Q2 zNo ∧ ∀ v2 S2 w3, Q2 v2 S2 w3 → S2 = ZZ t dr tx ∧ ∃ k, v2 = some (zI k) ∧ (rfR ((0 ≤ m ∧ m ≤ 9) ∧ (0 ≤ c ∧ c < w t 5) ∧ (0 ≤ r ∧ r < w 44 1) ∧ 0 ≤ d ∧ d ≤ 29) (w 80 d) (w 73 46) (mNe w c d) (∃ ch : Int, (0 ≤ ch ∧ ch < w t 5) ∧ tb (w 99 (30 * ch + d)) m = true) (5 ≤ m) (w 99 (30 * c + d) % 32 ≠ 0) (w 95 r) (w 79 c)) k ∧ (∀ cc i, cc ≠ 95 → cc ≠ 98 → cc ≠ 99 → cc ≠ 100 → (cc ≠ 73 ∨ (i ≠ 1 ∧ i ≠ 54)) → w3 cc i = w2 cc i) ∧ w3 73 1 = 0 ∧ (∀ x : Int, w3 98 x = if x = k then w 98 k + 1 else w 98 x) ∧ ((k ≠ 0 ∧ (∀ x, w3 95 x = w 95 x) ∧ (∀ x, w3 99 x = w 99 x) ∧ (∀ x, w3 100 x = w 100 x) ∧ w3 73 54 = w 44 6) ∨ (k = 0 ∧ (∀ x : Int, w3 95 x = if x = r then w 95 r - w 79 c else w 95 x) ∧ (∀ x : Int, w3 99 x = if x = 30 * c + d then iOr (w 99 (30 * c + d)) (iShl 1 m) else w 99 x) ∧ w3 73 54 = (min (w 44 6 + 1) 50) ∧ (∀ x : Int, 0 ≤ x → x < 4 * (min (w 44 6 + 1) 50) - 4 → w3 100 x = w 100 (if w 44 6 < 50 then x else x + 4)) ∧ w3 100 (4 * (min (w 44 6 + 1) 50) - 4) = m ∧ w3 100 (4 * (min (w 44 6 + 1) 50) - 3) = c ∧ w3 100 (4 * (min (w 44 6 + 1) 50) - 2) = r ∧ w3 100 (4 * (min (w 44 6 + 1) 50) - 1) = d)) := fun w2 e => by
    have g73 : w2 73 = w 73 := funext fun x => e 73 x (by decide) (by decide)
    have g75 : w2 75 = w 75 := funext fun x => e 75 x (by decide) (by decide)
    have g78 : w2 78 = w 78 := funext fun x => e 78 x (by decide) (by decide)
    have g79 : w2 79 = w 79 := funext fun x => e 79 x (by decide) (by decide)
    have g80 : w2 80 = w 80 := funext fun x => e 80 x (by decide) (by decide)
    have g83 : w2 83 = w 83 := funext fun x => e 83 x (by decide) (by decide)
    have g95 : w2 95 = w 95 := funext fun x => e 95 x (by decide) (by decide)
    have g98 : w2 98 = w 98 := funext fun x => e 98 x (by decide) (by decide)
    have g99 : w2 99 = w 99 := funext fun x => e 99 x (by decide) (by decide)
    have g100 : w2 100 = w 100 := funext fun x => e 100 x (by decide) (by decide)
    refine ⟨_, _, ?_, m_climb (w := w2) (by rw [g75]; omega) (by rw [g75]; omega) (by rw [g73]; omega) (by rw [g73]; omega) (by rw [g78]; omega) (by rw [g78]; omega) (fun x a b => by rw [g99]; have := v3 x a b; omega) hr_m hr_c hr_r hr_d (fun x a b => by rw [g98]; have := v5 x a b; omega) (fun c a b => by rw [g75] at b; rw [g79]; have := sYd_h h.ky a (by omega); omega) (fun x a b => by rw [g95]; have := v2 x a b; omega) (by rw [g73]; omega) (by rw [g73]; omega), fun x2 S2 w3 hq => ?_⟩
    · decide
    rw [g73, g75, g78, g79, g80, g83, g95, g98, g99, g100, n0, u1, u3] at hq
    exact hq
  refine ⟨_, _, _, _, _, ⟨by decide, by decide, by decide⟩, s_climb (w := w) ht n4.1 n4.2 u4.1 u4.2 hne (fun x a b => (v3 x a b).2) hr_m hr_c hr_r hr_d (fun x a b => by have := v5 x a b; omega) (fun c a b => (sYd_h h.ky a b).2) (fun x a b => by have := v2 x a b; omega) v1.1 v1.2, fun v S w1 hq w2 e => ?_, fun E S w1 hx => hx.elim⟩
  obtain ⟨rfl, k, rfl, p1, p0, p2, p3⟩ := hq
  have e2 : ∀ (cc : Nat) (xx : Int), 73 ≤ cc → cc ≠ 121 → w2 cc xx = w cc xx := fun cc xx a b => by rw [e cc xx b, p0 cc xx (by omega) (by omega) (by omega) (by omega) (Or.inl (by omega))]
  obtain ⟨d2, Q2, hd, hsp, hk⟩ := hR w2 e2
  refine ⟨⟨_, _, _, rfl⟩, ⟨_, rfl⟩, d2, Q2, hd, hsp, fun x2 S2 w3 hq2 => ?_⟩
  obtain ⟨rfl, k', rfl, r1, r0, r2, r3, r4⟩ := hk x2 S2 w3 hq2
  have hkk : k' = k := (rfR_u p1 r1 Iff.rfl (fun q => by
    obtain ⟨q1, q2, q3, q4⟩ := q
    refine ⟨(sYd_w h.ky (by omega) (by omega)).1.symm, u2.symm, sYd_e h.ky (by omega) (by omega) (by omega) (by omega), ⟨?_, ?_⟩, ?_, (v2 r (by omega) (by omega)).1.symm, (sYd_h h.ky q2.1 q2.2).1.symm⟩
    · rintro ⟨ch, a, b⟩
      have hc : ch < w t 5 := by
        by_cases g : ch < w t 5
        · exact g
        · rw [v4 ch d (by omega) a.2 (by omega) (by omega), tb_0] at b; cases b
      refine ⟨ch, ⟨a.1, hc⟩, ?_⟩
      rw [show 30 * ch + d = ch * 30 + d by omega, (v3 _ (by omega) (by omega)).1]; exact b
    · rintro ⟨ch, a, b⟩
      refine ⟨ch, ⟨a.1, by omega⟩, ?_⟩
      rw [show 30 * ch + d = ch * 30 + d by omega, (v3 _ (by omega) (by omega)).1] at b; exact b
    · rw [show 30 * c + d = c * 30 + d by omega, (v3 _ (by omega) (by omega)).1])).symm
  subst hkk
  have hkb := rfR_b p1
  have e3 : ∀ (cc : Nat) (xx : Int), cc < 73 → w3 cc xx = w1 cc xx := fun cc xx a => by rw [r0 cc xx (by omega) (by omega) (by omega) (by omega) (Or.inl (by omega)), e cc xx (by omega)]
  have ek : ∀ (cc : Nat) (xx : Int), sFp t cc xx → ¬ ((cc = 44 ∧ xx = 1) ∨ (cc = 44 ∧ xx = 4) ∨ (cc = 44 ∧ xx = 6) ∨ (cc = 73 ∧ xx = 44) ∨ (cc = 73 ∧ xx = 46) ∨ (cc = 73 ∧ xx = 54) ∨ cc = 45 ∨ cc = 46 ∨ cc = 47 ∨ cc = 48 ∨ cc = 95 ∨ cc = 98 ∨ cc = 99 ∨ cc = 100) → w3 cc xx = w cc xx := fun cc xx hs hn => by
    obtain ⟨q1, qb, qc, q2⟩ := sFp_n ht hs
    have qm := sFp_m ht hs
    rw [r0 cc xx (fun hk => hn (by simp [hk])) (fun hk => hn (by simp [hk])) (fun hk => hn (by simp [hk])) (fun hk => hn (by simp [hk])) (by by_cases z : cc = 73; (subst z; exact Or.inr ⟨fun hk => (q1.resolve_left (fun g => g rfl)).1 hk, fun hk => hn (by simp [hk])⟩); exact Or.inl z), e cc xx (q2.2.2.2.2.2.2.2.2.2.2.2.2.2.2.2.2.2.2.2.2.2.2.2.2.2.2.2.2.2.2.2.2), p0 cc xx (fun hk => hn (by simp [hk])) (fun hk => hn (by simp [hk])) (fun hk => hn (by simp [hk])) (fun hk => hn (by simp [hk])) (by by_cases z : cc = 44; (subst z; exact Or.inr (fun hk => hn (by simp [hk]))); exact Or.inl z)]
  have k73 : ∀ x : Int, x ≠ 1 → x ≠ 54 → w3 73 x = w 73 x := fun x a b => by rw [r0 73 x (by decide) (by decide) (by decide) (by decide) (Or.inr ⟨a, b⟩), e2 73 x (by decide) (by decide)]
  have k44 : ∀ x : Int, x ≠ 6 → w3 44 x = w 44 x := fun x a => by rw [e3 44 x (by decide), p0 44 x (by decide) (by decide) (by decide) (by decide) (Or.inr a)]
  have k5 : w3 t 5 = w t 5 := by rw [e3 t 5 (by omega), p0 t 5 (by omega) (by omega) (by omega) (by omega) (Or.inl (by omega))]
  refine ⟨rfl, r2, r0 121 0 (by decide) (by decide) (by decide) (by decide) (Or.inl (by decide)), t, dr, tx, rfl, zSim_uClm h ek ?_⟩
  have hwt : ∀ x : Int, 0 ≤ x → x < 7 → w3 98 x = w3 47 x ∧ -((N0 + 1 : Nat) : Int) ≤ w3 47 x ∧ w3 47 x ≤ ((N0 + 1 : Nat) : Int) := fun x a b => by
    have g1 := v5 x a b
    have g2 := v5 k' hkb.1 hkb.2
    rw [r3 x, e3 47 x (by decide), p2 x]
    by_cases q : x = k'
    · rw [if_pos q, if_pos q]; omega
    · rw [if_neg q, if_neg q]; omega
  unfold sClm sClb
  rw [k44 1 (by decide), k44 4 (by decide), k73 44 (by decide) (by decide), k73 46 (by decide) (by decide), k5, e3 44 6 (by decide)]
  obtain ⟨z, p4, p5, p6, p7⟩ | ⟨z, p4, p5, p6, p7⟩ := p3
  · obtain ⟨-, r5, r6, r7, r8⟩ | ⟨g, -⟩ := r4
    · rw [r8, p7]
      refine ⟨⟨u1, u2, rfl⟩, u4, v1, fun x a b => ?_, fun x a b => ?_, fun x y a b c d => ?_, hwt, fun i a b => ?_⟩
      · have := v2 x a b
        rw [r5, e3 45 x (by decide), p4]; omega
      · rw [r6, e3 46 x (by decide), p5]; exact v3 x a b
      · rw [e3 46 _ (by decide), p5]; exact v4 x y a b c d
      · rw [e3 48 _ (by decide), p6, r7, r7, r7, r7]; exact v6 i a b
    · exact absurd g z
  · obtain ⟨g, -⟩ | ⟨-, r5, r6, r8, r7, s1, s2, s3, s4⟩ := r4
    · exact absurd z g
    obtain ⟨⟨q1, q2, q3, q4⟩, q5⟩ := rfR_0 p1 z
    have hlr := v2 r (by omega) (by omega)
    have hhc := sYd_h h.ky q2.1 q2.2
    have hdy := v3 (c * 30 + d) (by omega) (by omega)
    have hod := or_dy hdy.2.1 hdy.2.2 q1.1 (by omega : m < 10)
    have h30 : 30 * c + d = c * 30 + d := by omega
    rw [h30] at r6
    rw [r8, p6]
    refine ⟨⟨u1, u2, rfl⟩, u4, by omega, fun x a b => ?_, fun x a b => ?_, fun x y a b a2 b2 => ?_, hwt, fun i a b => ?_⟩
    · have := v2 x a b
      rw [r5, e3 45 x (by decide), p4]
      by_cases q : x = r
      · rw [if_pos q, if_pos q]; omega
      · rw [if_neg q, if_neg q]; omega
    · rw [r6, e3 46 x (by decide), p5]
      by_cases q : x = c * 30 + d
      · rw [if_pos q, if_pos q, hdy.1]; exact ⟨rfl, hod⟩
      · rw [if_neg q, if_neg q]; exact v3 x a b
    · rw [e3 46 _ (by decide), p5, if_neg (by omega)]; exact v4 x y a b a2 b2
    · rw [e3 48 _ (by decide), p7 i a b]
      by_cases q : i = min (w 44 6 + 1) 50 - 1
      · rw [if_pos q, show 4 * i = 4 * (min (w 44 6 + 1) 50) - 4 by omega, show 4 * (min (w 44 6 + 1) 50) - 4 + 1 = 4 * (min (w 44 6 + 1) 50) - 3 by omega, show 4 * (min (w 44 6 + 1) 50) - 4 + 2 = 4 * (min (w 44 6 + 1) 50) - 2 by omega, show 4 * (min (w 44 6 + 1) 50) - 4 + 3 = 4 * (min (w 44 6 + 1) 50) - 1 by omega, s1, s2, s3, s4]
        clear hpl hor hcl htr hk hR p1 r1
        omega
      · rw [if_neg q, r7 (4 * i) (by omega) (by omega), r7 (4 * i + 1) (by omega) (by omega), r7 (4 * i + 2) (by omega) (by omega), r7 (4 * i + 3) (by omega) (by omega)]
        by_cases q6 : w 44 6 < 50
        · rw [if_pos q6, if_pos q6, if_pos q6, if_pos q6, if_pos q6]
          exact v6 i a (by omega)
        · rw [if_neg q6, if_neg q6, if_neg q6, if_neg q6, if_neg q6, show 4 * i + 4 = 4 * (i + 1) by omega, show 4 * i + 1 + 4 = 4 * (i + 1) + 1 by omega, show 4 * i + 2 + 4 = 4 * (i + 1) + 2 by omega, show 4 * i + 3 + 4 = 4 * (i + 1) + 3 by omega]
          exact v6 (i + 1) (by omega) (by omega)
set_option maxRecDepth 100000 in
set_option maxHeartbeats 4000000 in
theorem P_back {l : Launch} {N0 t dr tx : Nat} {w : zW} (h : zSim N0 t dr tx w) (hN : N0 ≤ 600) : zPr l N0 mX11_back mX12_back 0 0 false [] t dr tx w := by
  obtain ⟨⟨n0, n1, n2, n3⟩, n4, n5, n6, n7⟩ := sYd_n h.ky
  have ht : t = 4 ∨ t = 10 := by have := h.ht; omega
  have hpl := sPlan_n h.kp
  have hor := sOr_n h.ko
  have hcl := sClm_n h.kl
  have htr := sTr_n h.kT
  have hge := h.kg.2.1
  have hge2 := h.kg.1
  have htp := h.ka.1
  have htp2 := h.ka.2.1
  have hfl := h.kf.1
  obtain ⟨⟨u1, u2, u3⟩, u4, v1, v2, v3, v4, v5, v6⟩ := h.kl
  have v50 := v5 0 (by decide) (by decide)
  have hlog : 0 < w 44 6 → (0 ≤ (w 48 (w 44 6 - 1)) ∧ (w 48 (w 44 6 - 1)) < 72000) ∧ (0 ≤ (w 48 (w 44 6 - 1)) / 10 / 20 / 30 ∧ (w 48 (w 44 6 - 1)) / 10 / 20 / 30 < w t 5) ∧ w 100 (4 * (w 44 6 - 1)) = (w 48 (w 44 6 - 1)) % 10 ∧ w 100 (4 * (w 44 6 - 1) + 1) = (w 48 (w 44 6 - 1)) / 10 / 20 / 30 ∧ w 100 (4 * (w 44 6 - 1) + 2) = (w 48 (w 44 6 - 1)) / 10 % 20 ∧ w 100 (4 * (w 44 6 - 1) + 3) = (w 48 (w 44 6 - 1)) / 10 / 20 % 30 := fun q => by
    have g := v6 (w 44 6 - 1) (by omega) (by omega)
    exact ⟨g.1, ⟨by omega, g.2.1⟩, g.2.2⟩
  have hcy : 0 < w 44 6 → w 79 ((w 48 (w 44 6 - 1)) / 10 / 20 / 30) = w (t + 1) ((w 48 (w 44 6 - 1)) / 10 / 20 / 30) ∧ 1 ≤ w (t + 1) ((w 48 (w 44 6 - 1)) / 10 / 20 / 30) ∧ w (t + 1) ((w 48 (w 44 6 - 1)) / 10 / 20 / 30) ≤ 200 := fun q => sYd_h h.ky (hlog q).2.1.1 (hlog q).2.1.2
  refine ⟨_, _, _, _, _, ⟨by decide, by decide, by decide⟩, s_back2 (w := w) ht (fun q => by have := hcy q; omega) (fun x a b => (v3 x a b).2) (fun x a b => by have := v2 x a b; omega) (fun i a b => (v6 i a b).1) v1.1 v1.2 (by omega), fun v S w1 hq w2 e => ?_, fun E S w1 hx => hx.elim⟩
  have hR : ∀ w2 : zW, (∀ (cc : Nat) (xx : Int), 73 ≤ cc → cc ≠ 121 → w2 cc xx = w cc xx) → ∃ (d2 : Nat) (Q2 : Option Value → zS → zW → Prop), d2 ≤ 15 ∧ zSp l mX12_back false d2 0 0 [zR 73] (ZZ t dr tx) w2 Q2 zNo ∧ ∀ v2 S2 w3, Q2 v2 S2 w3 → S2 = ZZ t dr tx ∧ ((w 44 6 = 0 ∧ v2 = some (zI (-1)) ∧ w3 = up w2 73 1 0) ∨ (0 < w 44 6 ∧ v2 = some (zI ((w 48 (w 44 6 - 1)) % 10)) ∧ w3 = up (up (up (up (up w2 73 1 0) 73 54 (w 44 6 - 1)) 99 ((w 48 (w 44 6 - 1)) / 10 / 20) (iAnd (w 46 ((w 48 (w 44 6 - 1)) / 10 / 20)) (iXor (iShl 1 ((w 48 (w 44 6 - 1)) % 10)) (-1)))) 95 ((w 48 (w 44 6 - 1)) / 10 % 20) (w 45 ((w 48 (w 44 6 - 1)) / 10 % 20) + w (t + 1) ((w 48 (w 44 6 - 1)) / 10 / 20 / 30))) 98 0 (w 47 0 - 1))) := fun w2 e => by
    have g73 : w2 73 = w 73 := funext fun x => e 73 x (by decide) (by decide)
    have g79 : w2 79 = w 79 := funext fun x => e 79 x (by decide) (by decide)
    have g95 : w2 95 = w 95 := funext fun x => e 95 x (by decide) (by decide)
    have g98 : w2 98 = w 98 := funext fun x => e 98 x (by decide) (by decide)
    have g99 : w2 99 = w 99 := funext fun x => e 99 x (by decide) (by decide)
    have g100 : w2 100 = w 100 := funext fun x => e 100 x (by decide) (by decide)
    refine ⟨_, _, ?_, m_back2 (w := w2) (fun x a b => by rw [g99]; have := v3 x a b; omega) (fun x a b => by rw [g95]; have := v2 x a b; omega) (fun q => ?_) (fun i a b => ?_) (by rw [g73]; omega) (by rw [g73]; omega) (by rw [g98]; omega), fun x2 S2 w3 hq => ?_⟩
    · decide
    · rw [g73, u3] at q ⊢
      rw [g79, g100]
      have h6 : 0 < w 44 6 := by omega
      rw [(hlog h6).2.2.2.1]
      have := hcy h6
      omega
    · rw [g73, u3] at b
      rw [g100]
      have := v6 i a b
      clear hpl hor hcl htr
      have hnc : w t 5 ≤ 12 := n4.2
      omega
    · rw [g73, u3, g79, g95, g98, g99, g100] at hq
      obtain ⟨rfl, ⟨q1, rfl, rfl⟩ | ⟨q1, rfl, rfl⟩⟩ := hq
      · exact ⟨rfl, Or.inl ⟨q1, rfl, rfl⟩⟩
      · have h6 : 0 < w 44 6 := by omega
        obtain ⟨l1, l2, l3, l4, l5, l6⟩ := hlog h6
        have h30 : 30 * ((w 48 (w 44 6 - 1)) / 10 / 20 / 30) + (w 48 (w 44 6 - 1)) / 10 / 20 % 30 = (w 48 (w 44 6 - 1)) / 10 / 20 := by omega
        refine ⟨rfl, Or.inr ⟨h6, ?_, ?_⟩⟩
        · rw [l3]
        · rw [l3, l4, l5, l6, h30, (hcy h6).1, (v2 _ (by omega) (by omega)).1, (v3 ((w 48 (w 44 6 - 1)) / 10 / 20) (by omega) (by omega)).1, v50.1]
  obtain ⟨rfl, ⟨h6, rfl, rfl⟩ | ⟨h6, rfl, hw1⟩⟩ := hq
  · obtain ⟨d2, Q2, hd, hsp, hk⟩ := hR w2 (fun cc xx a b => e cc xx b)
    refine ⟨⟨_, _, _, rfl⟩, ⟨_, rfl⟩, d2, Q2, hd, hsp, fun v2 S2 w3 hq2 => ?_⟩
    obtain ⟨rfl, ⟨-, rfl, rfl⟩ | ⟨g, -⟩⟩ := hk v2 S2 w3 hq2
    · refine ⟨rfl, up_same _ _ _ _, up_n (Or.inl (by decide)), t, dr, tx, rfl, zSim_k h (fun cc xx hs => ?_)⟩
      obtain ⟨q1, -, -, q2⟩ := sFp_n ht hs
      rw [up_n (by omega), e cc xx (by omega)]
    · omega
  · have e2 : ∀ (cc : Nat) (xx : Int), 73 ≤ cc → cc ≠ 121 → w2 cc xx = w cc xx := fun cc xx a b => by rw [e cc xx b, hw1, up_n (by omega), up_n (by omega), up_n (by omega), up_n (by omega)]
    obtain ⟨d2, Q2, hd, hsp, hk⟩ := hR w2 e2
    refine ⟨⟨_, _, _, rfl⟩, ⟨_, rfl⟩, d2, Q2, hd, hsp, fun x2 S2 w3 hq2 => ?_⟩
    obtain ⟨rfl, ⟨g, -⟩ | ⟨-, rfl, hw3⟩⟩ := hk x2 S2 w3 hq2
    · omega
    obtain ⟨l1, l2, -⟩ := hlog h6
    obtain ⟨y1, y2⟩ := hcy h6
    clear hk hR hsp hlog
    generalize hT : w 48 (w 44 6 - 1) = T at *
    have q : ∀ (cc : Nat) (xx : Int), w3 cc xx = up (up (up (up (up w2 73 1 0) 73 54 (w 44 6 - 1)) 99 (T / 10 / 20) (iAnd (w 46 (T / 10 / 20)) (iXor (iShl 1 (T % 10)) (-1)))) 95 (T / 10 % 20) (w 45 (T / 10 % 20) + w (t + 1) (T / 10 / 20 / 30))) 98 0 (w 47 0 - 1) cc xx := fun cc xx => by rw [hw3]
    have e1 : ∀ (cc : Nat) (xx : Int), cc ≠ 121 → w2 cc xx = up (up (up (up w 44 6 (w 44 6 - 1)) 45 (T / 10 % 20) (w 45 (T / 10 % 20) + w (t + 1) (T / 10 / 20 / 30))) 46 (T / 10 / 20) (iAnd (w 46 (T / 10 / 20)) (iXor (iShl 1 (T % 10)) (-1)))) 47 0 (w 47 0 - 1) cc xx := fun cc xx a => by rw [e cc xx a, hw1]
    have ek : ∀ (cc : Nat) (xx : Int), sFp t cc xx → ¬ ((cc = 44 ∧ xx = 1) ∨ (cc = 44 ∧ xx = 4) ∨ (cc = 44 ∧ xx = 6) ∨ (cc = 73 ∧ xx = 44) ∨ (cc = 73 ∧ xx = 46) ∨ (cc = 73 ∧ xx = 54) ∨ cc = 45 ∨ cc = 46 ∨ cc = 47 ∨ cc = 48 ∨ cc = 95 ∨ cc = 98 ∨ cc = 99 ∨ cc = 100) → w3 cc xx = w cc xx := fun cc xx hs hn => by
      obtain ⟨q1, -, -, q2⟩ := sFp_n ht hs
      clear hs hpl hor hcl htr hge hge2 htp htp2 hfl v1 v2 v3 v4 v5 v6 n0 n1 n2 n3 n4 n5 n6 n7 l1 l2 y1 y2 u1 u2 u3 u4 v50 h6
      rw [q, up_n (by omega), up_n (by omega), up_n (by omega), up_n (by omega), up_n (by omega), e1 cc xx (by omega), up_n (by omega), up_n (by omega), up_n (by omega), up_n (by omega)]
    have f44 : ∀ x : Int, w3 44 x = if x = 6 then w 44 6 - 1 else w 44 x := fun x => by rw [q]; simp [up, e1]
    have f73 : ∀ x : Int, w3 73 x = if x = 54 then w 44 6 - 1 else if x = 1 then 0 else w 73 x := fun x => by rw [q]; simp [up, e1]
    have f45 : ∀ x : Int, w3 45 x = if x = T / 10 % 20 then w 45 (T / 10 % 20) + w (t + 1) (T / 10 / 20 / 30) else w 45 x := fun x => by rw [q]; simp [up, e1]
    have f95 : ∀ x : Int, w3 95 x = if x = T / 10 % 20 then w 45 (T / 10 % 20) + w (t + 1) (T / 10 / 20 / 30) else w 95 x := fun x => by rw [q]; simp [up, e1]
    have f46 : ∀ x : Int, w3 46 x = if x = T / 10 / 20 then iAnd (w 46 (T / 10 / 20)) (iXor (iShl 1 (T % 10)) (-1)) else w 46 x := fun x => by rw [q]; simp [up, e1]
    have f99 : ∀ x : Int, w3 99 x = if x = T / 10 / 20 then iAnd (w 46 (T / 10 / 20)) (iXor (iShl 1 (T % 10)) (-1)) else w 99 x := fun x => by rw [q]; simp [up, e1]
    have f47 : ∀ x : Int, w3 47 x = if x = 0 then w 47 0 - 1 else w 47 x := fun x => by rw [q]; simp [up, e1]
    have f98 : ∀ x : Int, w3 98 x = if x = 0 then w 47 0 - 1 else w 98 x := fun x => by rw [q]; simp [up, e1]
    have f48 : ∀ x : Int, w3 48 x = w 48 x := fun x => by rw [q]; simp [up, e1]
    have f100 : ∀ x : Int, w3 100 x = w 100 x := fun x => by rw [q]; simp [up, e1]
    have k5 : w3 t 5 = w t 5 := by rw [q, up_n (by omega), up_n (by omega), up_n (by omega), up_n (by omega), up_n (by omega), e1 t 5 (by omega), up_n (by omega), up_n (by omega), up_n (by omega), up_n (by omega)]
    refine ⟨rfl, by rw [f73]; simp, by rw [q]; simp [up], t, dr, tx, rfl, zSim_uClm h ek ?_⟩
    unfold sClm sClb
    rw [k5, f44 1, f44 4, f44 6, f73 44, f73 46, f73 54]
    have hlr := v2 (T / 10 % 20) (by omega) (by omega)
    have hdy := v3 (T / 10 / 20) (by omega) (by omega)
    have hcl2 := clr_dy (m := T % 10) hdy.2.1 hdy.2.2 (by omega) (by omega)
    refine ⟨⟨by simpa using u1, by simpa using u2, by simp⟩, by simpa using u4, by simp; omega, fun x a b => ?_, fun x a b => ?_, fun x y a b a2 b2 => ?_, fun x a b => ?_, fun i a b => ?_⟩
    · have := v2 x a b
      rw [f95, f45]
      by_cases q8 : x = T / 10 % 20
      · rw [if_pos q8, if_pos q8]; omega
      · rw [if_neg q8, if_neg q8]; omega
    · rw [f99, f46]
      by_cases q8 : x = T / 10 / 20
      · rw [if_pos q8, if_pos q8]; exact ⟨rfl, hcl2⟩
      · rw [if_neg q8, if_neg q8]; exact v3 x a b
    · rw [f46, if_neg (by omega)]; exact v4 x y a b a2 b2
    · have := v5 x a b
      rw [f98, f47]
      by_cases q8 : x = 0
      · rw [if_pos q8, if_pos q8]; omega
      · rw [if_neg q8, if_neg q8]; omega
    · rw [if_pos rfl] at b
      rw [f48, f100, f100, f100, f100]; exact v6 i a (by omega)
