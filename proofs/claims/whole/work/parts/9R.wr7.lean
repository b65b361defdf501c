/-! trials on both sides -/
theorem mF_1 {w3 : zW} {N : Int} {f : Int → Bool} (h : ∀ c : Int, 0 ≤ c → c < N → w3 93 c = if f c = true then 1 else 0) : ∀ c : Int, 0 ≤ c → c < N → f c = mF w3 c := fun c a b => by
  unfold mF
  rw [h c a b]
  cases f c <;> simp
set_option maxRecDepth 100000 in
set_option maxHeartbeats 4000000 in
theorem P_rod {l : Launch} {N0 t dr tx : Nat} {w : zW} (h : zSim N0 t dr tx w) {n g b : Int} (hr_n : inR n) (hr_g : inR g) (hr_b : inR b) : zPr l N0 mX11_rod mX12_rod 0 0 false [zI n, zI g, zI b] t dr tx w := by
  obtain ⟨⟨n0, n1, n2, n3⟩, n4, n5, n6, n7⟩ := sYd_n h.ky
  have ht : t = 4 ∨ t = 10 := by have := h.ht; omega
  have hpl := sPlan_n h.kp
  have hor := sOr_n h.ko
  have hcl := sClm_n h.kl
  have htr := sTr_n h.kT
  have hge := h.kg.2.1
  have hge2 := h.kg.1
  have htp := h.ka.1
  have htp2 := h.ka.2.1
  have hfl := h.kf.1
  refine ⟨_, _, _, _, _, ⟨by decide, by decide, by decide⟩, s_rod (w := w) hr_n hr_g hr_b, fun v S w1 hq w2 e => ?_, fun E S w1 hx => hx.elim⟩
  obtain ⟨rfl, ⟨hz, rfl, p0, p1, p2, p3, p4, p5, p6⟩ | ⟨hz, rfl, rfl⟩⟩ := hq
  · refine ⟨⟨_, _, _, rfl⟩, ⟨_, rfl⟩, _, _, ?_, m_rod (w := w2) hr_n hr_g hr_b, fun v2 S2 w3 hq2 => ?_⟩
    · decide
    obtain ⟨rfl, ⟨g, -⟩ | ⟨-, rfl, r0, r1, r2, r3, r4, r5, r6, r7⟩⟩ := hq2
    · exact absurd hz g
    have e2 : ∀ (cc : Nat) (xx : Int), 73 ≤ cc → cc ≠ 121 → w2 cc xx = w cc xx := fun cc xx a b => by rw [e cc xx b, p0 cc xx (by omega) (Or.inl (by omega))]
    have e3 : ∀ (cc : Nat) (xx : Int), cc < 73 → w3 cc xx = w1 cc xx := fun cc xx a => by rw [r0 cc xx (by omega) (Or.inl (by omega)), e cc xx (by omega)]
    have ek : ∀ (cc : Nat) (xx : Int), sFp t cc xx → ¬ ((cc = 34 ∧ xx = 4) ∨ (cc = 34 ∧ xx = 5) ∨ (cc = 34 ∧ xx = 6) ∨ (cc = 34 ∧ xx = 7) ∨ (cc = 34 ∧ xx = 8) ∨ (cc = 34 ∧ xx = 9) ∨ (cc = 34 ∧ xx = 10) ∨ (cc = 34 ∧ xx = 11) ∨ (cc = 34 ∧ xx = 12) ∨ (cc = 73 ∧ xx = 39) ∨ (cc = 73 ∧ xx = 40) ∨ (cc = 73 ∧ xx = 41) ∨ (cc = 73 ∧ xx = 42) ∨ cc = 35 ∨ cc = 93) → w3 cc xx = w cc xx := fun cc xx hs hn => by
      obtain ⟨q1, qb, qc, q2⟩ := sFp_n ht hs
      have qm := sFp_m ht hs
      rw [r0 cc xx (fun hk => hn (by simp [hk])) (by by_cases z : cc = 73; (subst z; exact Or.inr ⟨fun hk => (q1.resolve_left (fun g => g rfl)).1 hk, fun hk => hn (by simp [hk]), fun hk => hn (by simp [hk]), fun hk => hn (by simp [hk]), fun hk => hn (by simp [hk])⟩); exact Or.inl z), e cc xx (q2.2.2.2.2.2.2.2.2.2.2.2.2.2.2.2.2.2.2.2.2.2.2.2.2.2.2.2.2.2.2.2.2), p0 cc xx (fun hk => hn (by simp [hk])) (by by_cases z : cc = 34; (subst z; exact Or.inr ⟨fun hk => hn (by simp [hk]), fun hk => hn (by simp [hk]), fun hk => hn (by simp [hk]), fun hk => hn (by simp [hk]), fun hk => hn (by simp [hk]), fun hk => hn (by simp [hk])⟩); exact Or.inl z)]
    have hN : 0 ≤ ((2 ^ n.toNat : Nat) : Int) := Int.natCast_nonneg _
    have g35 : w3 35 = w1 35 := funext fun x => e3 35 x (by decide)
    have hbit : ∀ c : Int, 0 ≤ c → w3 93 c = 0 ∨ w3 93 c = 1 := fun c a => by
      by_cases b : c < ((2 ^ n.toNat : Nat) : Int)
      · exact Or.inr (r6 c a b)
      · rw [r7 c (by omega), e2 93 c (by decide) (by decide)]; exact h.kT.2.2 c a
    refine ⟨rfl, r1, r0 121 0 (by decide) (Or.inl (by decide)), t, dr, tx, rfl, zSim_uTr h ek ⟨Or.inr ⟨?_, ?_, ?_, ?_, ?_, ?_, ?_, ?_⟩, ?_, hbit⟩⟩
    · rw [e3 34 8 (by decide), p1]; omega
    · rw [e3 34 4 (by decide), p2]; omega
    · rw [e3 34 5 (by decide), e3 34 6 (by decide), p3, p4]; omega
    · rw [e3 34 4 (by decide), p2, r2]
    · rw [e3 34 8 (by decide), p1]
      unfold mKd
      rw [r3]
      decide
    · rw [e3 34 8 (by decide), p1]
      intro q8
      rw [r4, r5, e3 34 5 (by decide), e3 34 6 (by decide), p3, p4]; exact ⟨rfl, rfl⟩
    · rw [e3 34 4 (by decide), e3 34 9 (by decide), g35, p2]
      exact lOk_c (mF_1 (f := fun _ => true) (fun c a b => by rw [r6 c a b]; simp)) hN p6
    · exact Or.inl (by rw [e3 34 7 (by decide)]; exact p5)
    · rw [r4, r5]; omega
  · refine ⟨⟨_, _, _, rfl⟩, ⟨_, rfl⟩, _, _, ?_, m_rod (w := w2) hr_n hr_g hr_b, fun v2 S2 w3 hq2 => ?_⟩
    · decide
    obtain ⟨rfl, ⟨-, rfl, rfl⟩ | ⟨g, -⟩⟩ := hq2
    · refine ⟨rfl, up_same _ _ _ _, up_n (Or.inl (by decide)), t, dr, tx, rfl, zSim_k h (fun cc xx hs => ?_)⟩
      obtain ⟨q1, -, -, q2⟩ := sFp_n ht hs
      rw [up_n (by omega), e cc xx (by omega)]
    · exact absurd g hz
set_option maxRecDepth 100000 in
set_option maxHeartbeats 4000000 in
theorem P_wall {l : Launch} {N0 t dr tx : Nat} {w : zW} (h : zSim N0 t dr tx w) {n : Int} (hr_n : inR n) : zPr l N0 mX11_wall mX12_wall 0 0 false [zI n] t dr tx w := by
  obtain ⟨⟨n0, n1, n2, n3⟩, n4, n5, n6, n7⟩ := sYd_n h.ky
  have ht : t = 4 ∨ t = 10 := by have := h.ht; omega
  have hpl := sPlan_n h.kp
  have hor := sOr_n h.ko
  have hcl := sClm_n h.kl
  have htr := sTr_n h.kT
  have hge := h.kg.2.1
  have hge2 := h.kg.1
  have htp := h.ka.1
  have htp2 := h.ka.2.1
  have hfl := h.kf.1
  refine ⟨_, _, _, _, _, ⟨by decide, by decide, by decide⟩, s_wall (w := w) hr_n, fun v S w1 hq w2 e => ?_, fun E S w1 hx => hx.elim⟩
  obtain ⟨rfl, ⟨hz, rfl, p0, p1, p2, p3, p4, p5, p6⟩ | ⟨hz, rfl, rfl⟩⟩ := hq
  · refine ⟨⟨_, _, _, rfl⟩, ⟨_, rfl⟩, _, _, ?_, m_wall (w := w2) hr_n, fun v2 S2 w3 hq2 => ?_⟩
    · decide
    obtain ⟨rfl, ⟨g, -⟩ | ⟨-, rfl, r0, r1, r2, r3, r4, r5, r6, r7⟩⟩ := hq2
    · exact absurd hz g
    have e2 : ∀ (cc : Nat) (xx : Int), 73 ≤ cc → cc ≠ 121 → w2 cc xx = w cc xx := fun cc xx a b => by rw [e cc xx b, p0 cc xx (by omega) (Or.inl (by omega))]
    have e3 : ∀ (cc : Nat) (xx : Int), cc < 73 → w3 cc xx = w1 cc xx := fun cc xx a => by rw [r0 cc xx (by omega) (Or.inl (by omega)), e cc xx (by omega)]
    have ek : ∀ (cc : Nat) (xx : Int), sFp t cc xx → ¬ ((cc = 34 ∧ xx = 4) ∨ (cc = 34 ∧ xx = 5) ∨ (cc = 34 ∧ xx = 6) ∨ (cc = 34 ∧ xx = 7) ∨ (cc = 34 ∧ xx = 8) ∨ (cc = 34 ∧ xx = 9) ∨ (cc = 34 ∧ xx = 10) ∨ (cc = 34 ∧ xx = 11) ∨ (cc = 34 ∧ xx = 12) ∨ (cc = 73 ∧ xx = 39) ∨ (cc = 73 ∧ xx = 40) ∨ (cc = 73 ∧ xx = 41) ∨ (cc = 73 ∧ xx = 42) ∨ cc = 35 ∨ cc = 93) → w3 cc xx = w cc xx := fun cc xx hs hn => by
      obtain ⟨q1, qb, qc, q2⟩ := sFp_n ht hs
      have qm := sFp_m ht hs
      rw [r0 cc xx (fun hk => hn (by simp [hk])) (by by_cases z : cc = 73; (subst z; exact Or.inr ⟨fun hk => (q1.resolve_left (fun g => g rfl)).1 hk, fun hk => hn (by simp [hk]), fun hk => hn (by simp [hk]), fun hk => hn (by simp [hk]), fun hk => hn (by simp [hk])⟩); exact Or.inl z), e cc xx (q2.2.2.2.2.2.2.2.2.2.2.2.2.2.2.2.2.2.2.2.2.2.2.2.2.2.2.2.2.2.2.2.2), p0 cc xx (fun hk => hn (by simp [hk])) (by by_cases z : cc = 34; (subst z; exact Or.inr ⟨fun hk => hn (by simp [hk]), fun hk => hn (by simp [hk]), fun hk => hn (by simp [hk]), fun hk => hn (by simp [hk]), fun hk => hn (by simp [hk]), fun hk => hn (by simp [hk])⟩); exact Or.inl z)]
    have hN : 0 ≤ ((2 ^ n.toNat : Nat) : Int) := Int.natCast_nonneg _
    have g35 : w3 35 = w1 35 := funext fun x => e3 35 x (by decide)
    have hbit : ∀ c : Int, 0 ≤ c → w3 93 c = 0 ∨ w3 93 c = 1 := fun c a => by
      by_cases b : c < ((2 ^ n.toNat : Nat) : Int)
      · exact Or.inr (r6 c a b)
      · rw [r7 c (by omega), e2 93 c (by decide) (by decide)]; exact h.kT.2.2 c a
    refine ⟨rfl, r1, r0 121 0 (by decide) (Or.inl (by decide)), t, dr, tx, rfl, zSim_uTr h ek ⟨Or.inr ⟨?_, ?_, ?_, ?_, ?_, ?_, ?_, ?_⟩, ?_, hbit⟩⟩
    · rw [e3 34 8 (by decide), p1]; omega
    · rw [e3 34 4 (by decide), p2]; omega
    · rw [e3 34 5 (by decide), e3 34 6 (by decide), p3, p4]; omega
    · rw [e3 34 4 (by decide), p2, r2]
    · rw [e3 34 8 (by decide), p1]
      unfold mKd
      rw [r3]
      decide
    · rw [e3 34 8 (by decide), p1]
      intro q8
      omega
    · rw [e3 34 4 (by decide), e3 34 9 (by decide), g35, p2]
      exact lOk_c (mF_1 (f := fun _ => true) (fun c a b => by rw [r6 c a b]; simp)) hN p6
    · exact Or.inl (by rw [e3 34 7 (by decide)]; exact p5)
    · rw [r4, r5]; rw [e2 73 40 (by decide) (by decide), e2 73 41 (by decide) (by decide)]; exact htr.2
  · refine ⟨⟨_, _, _, rfl⟩, ⟨_, rfl⟩, _, _, ?_, m_wall (w := w2) hr_n, fun v2 S2 w3 hq2 => ?_⟩
    · decide
    obtain ⟨rfl, ⟨-, rfl, rfl⟩ | ⟨g, -⟩⟩ := hq2
    · refine ⟨rfl, up_same _ _ _ _, up_n (Or.inl (by decide)), t, dr, tx, rfl, zSim_k h (fun cc xx hs => ?_)⟩
      obtain ⟨q1, -, -, q2⟩ := sFp_n ht hs
      rw [up_n (by omega), e cc xx (by omega)]
    · exact absurd g hz
set_option maxRecDepth 100000 in
set_option maxHeartbeats 4000000 in
theorem P_tell {l : Launch} {N0 t dr tx : Nat} {w : zW} (h : zSim N0 t dr tx w) {i j s : Int} (hr_i : inR i) (hr_j : inR j) (hr_s : inR s) : zPr l N0 mX11_tell mX12_tell 0 1 false [zI i, zI j, zI s] t dr tx w := by
  obtain ⟨⟨n0, n1, n2, n3⟩, n4, n5, n6, n7⟩ := sYd_n h.ky
  have ht : t = 4 ∨ t = 10 := by have := h.ht; omega
  have hpl := sPlan_n h.kp
  have hor := sOr_n h.ko
  have hcl := sClm_n h.kl
  have htr := sTr_n h.kT
  have hge := h.kg.2.1
  have hge2 := h.kg.1
  have htp := h.ka.1
  have htp2 := h.ka.2.1
  have hfl := h.kf.1
  have hT : w 34 8 ≠ 0 → ((2 ≤ w 34 4 ∧ w 34 4 ≤ 14) ∧ (0 ≤ w 34 5 ∧ w 34 5 ≤ 99) ∧ 0 ≤ w 34 6 ∧ w 34 6 ≤ 99) ∧ lOk (mF w) (w 35) (w 34 9) ((2 ^ (w 34 4).toNat : Nat) : Int) := fun q => by
    obtain ⟨-, q1, q2, -, -, -, q3, -⟩ := sTr_t h.kT q
    exact ⟨⟨q1, q2⟩, q3⟩
  have hAn : w 34 8 ≠ 0 → mKd w = w 34 8 ∧ w 73 39 = w 34 4 ∧ ∀ x : Int, tAn (mKd w) (w 73 40) (w 73 41) x i j = tAn (w 34 8) (w 34 5) (w 34 6) x i j := fun q => by
    obtain ⟨q0, -, -, q1, q2, q3, -⟩ := sTr_t h.kT q
    refine ⟨q2, q1, fun x => ?_⟩
    rw [q2]
    rcases q0 with q0 | q0
    · rw [(q3 q0).1, (q3 q0).2]
    · unfold tAn
      rw [if_pos q0, if_pos q0]
  have hz0 : w 34 8 = 0 ↔ w 73 39 = 0 := by omega
  have hR : ∀ w2 : zW, (∀ (cc : Nat) (xx : Int), 73 ≤ cc → cc ≠ 121 → w2 cc xx = w cc xx) → ∃ (d2 : Nat) (Q2 : Option Value → zS → zW → Prop), d2 ≤ 15 ∧ zSp l mX12_tell false d2 0 0 [zR 73, zI i, zI j, zI s] (ZZ t dr tx) w2 Q2 zNo ∧ ∀ v2 S2 w3, Q2 v2 S2 w3 → S2 = ZZ t dr tx ∧ ((w 73 39 = 0 ∧ v2 = some (zI (-1)) ∧ w3 = up w2 73 1 0) ∨ (w 73 39 ≠ 0 ∧ ¬ tOk (mKd w) (w 73 39) i j ∧ v2 = some (zI 0) ∧ w3 = up w2 73 1 1) ∨ (w 73 39 ≠ 0 ∧ tOk (mKd w) (w 73 39) i j ∧ v2 = some (zI (ixF (mFt w i j s) ((2 ^ (w 73 39).toNat : Nat) : Int))) ∧ (∀ c x, c ≠ 93 → (c ≠ 73 ∨ x ≠ 1) → w3 c x = w2 c x) ∧ w3 73 1 = 0 ∧ (∀ c : Int, 0 ≤ c → c < ((2 ^ (w 73 39).toNat : Nat) : Int) → w3 93 c = if mFt w i j s c = true then 1 else 0) ∧ ∀ c : Int, ((2 ^ (w 73 39).toNat : Nat) : Int) ≤ c → w3 93 c = w 93 c)) := fun w2 e => by
    have g73 : w2 73 = w 73 := funext fun x => e 73 x (by decide) (by decide)
    have g93 : w2 93 = w 93 := funext fun x => e 93 x (by decide) (by decide)
    have gk := mKd_c e
    have gf : mFt w2 i j s = mFt w i j s := by
      funext x
      unfold mFt
      rw [mF_c e, gk, g73]
    refine ⟨_, _, ?_, m_tell (w := w2) hr_i hr_j hr_s (by rw [g73]; omega) (fun q => by rw [g73]; exact htr.2) (fun c a => by rw [g93]; exact h.kT.2.2 c a), fun v2 S2 w3 hq => ?_⟩
    · decide
    rw [g73, gk, gf, g93] at hq
    exact hq
  refine ⟨_, _, _, _, _, ⟨by decide, by decide, by decide⟩, s_tell (w := w) hr_i hr_j hr_s hT, fun v S w1 hq w2 e => ?_, fun E S w1 hx => ?_⟩
  · obtain ⟨rfl, ⟨hz, rfl, rfl⟩ | ⟨hz, hok, rfl, p0, p1, p2⟩⟩ := hq
    · obtain ⟨d2, Q2, hd, hsp, hk⟩ := hR w2 (fun cc xx a b => e cc xx b)
      refine ⟨⟨_, _, _, rfl⟩, ⟨_, rfl⟩, d2, Q2, hd, hsp, fun v2 S2 w3 hq2 => ?_⟩
      obtain ⟨rfl, ⟨-, rfl, rfl⟩ | ⟨g, -⟩ | ⟨g, -⟩⟩ := hk v2 S2 w3 hq2
      · refine ⟨rfl, up_same _ _ _ _, up_n (Or.inl (by decide)), t, dr, tx, rfl, zSim_k h (fun cc xx hs => ?_)⟩
        obtain ⟨q1, -, -, q2⟩ := sFp_n ht hs
        rw [up_n (by omega), e cc xx (by omega)]
      · exact absurd (hz0.mp hz) g
      · exact absurd (hz0.mp hz) g
    · have e2 : ∀ (cc : Nat) (xx : Int), 73 ≤ cc → cc ≠ 121 → w2 cc xx = w cc xx := fun cc xx a b => by rw [e cc xx b, p0 cc xx (by omega) (Or.inl (by omega))]
      obtain ⟨d2, Q2, hd, hsp, hk⟩ := hR w2 e2
      obtain ⟨a1, a2, a3⟩ := hAn hz
      refine ⟨⟨_, _, _, rfl⟩, ⟨_, rfl⟩, d2, Q2, hd, hsp, fun v2 S2 w3 hq2 => ?_⟩
      obtain ⟨rfl, ⟨g, -⟩ | ⟨-, g, -⟩ | ⟨-, -, rfl, r0, r1, r2, r3⟩⟩ := hk v2 S2 w3 hq2
      · exact absurd (hz0.mpr g) hz
      · rw [a1, a2] at g; exact absurd hok g
      rw [a2] at r2 r3 ⊢
      have hf : mFt w i j s = fun x => mF w x && decide (tAn (w 34 8) (w 34 5) (w 34 6) x i j = s) := by
        funext x
        unfold mFt
        rw [a3 x]
      have e3 : ∀ (cc : Nat) (xx : Int), cc < 73 → w3 cc xx = w1 cc xx := fun cc xx a => by rw [r0 cc xx (by omega) (Or.inl (by omega)), e cc xx (by omega)]
      have ek : ∀ (cc : Nat) (xx : Int), sFp t cc xx → ¬ ((cc = 34 ∧ xx = 4) ∨ (cc = 34 ∧ xx = 5) ∨ (cc = 34 ∧ xx = 6) ∨ (cc = 34 ∧ xx = 7) ∨ (cc = 34 ∧ xx = 8) ∨ (cc = 34 ∧ xx = 9) ∨ (cc = 34 ∧ xx = 10) ∨ (cc = 34 ∧ xx = 11) ∨ (cc = 34 ∧ xx = 12) ∨ (cc = 73 ∧ xx = 39) ∨ (cc = 73 ∧ xx = 40) ∨ (cc = 73 ∧ xx = 41) ∨ (cc = 73 ∧ xx = 42) ∨ cc = 35 ∨ cc = 93) → w3 cc xx = w cc xx := fun cc xx hs hn => by
        obtain ⟨q1, qb, qc, q2⟩ := sFp_n ht hs
        have qm := sFp_m ht hs
        rw [r0 cc xx (fun hk => hn (by simp [hk])) (by by_cases z : cc = 73; (subst z; exact Or.inr (fun hk => (q1.resolve_left (fun g => g rfl)).1 hk)); exact Or.inl z), e cc xx (q2.2.2.2.2.2.2.2.2.2.2.2.2.2.2.2.2.2.2.2.2.2.2.2.2.2.2.2.2.2.2.2.2), p0 cc xx (fun hk => hn (by simp [hk])) (by by_cases z : cc = 34; (subst z; exact Or.inr ⟨fun hk => hn (by simp [hk]), fun hk => hn (by simp [hk])⟩); exact Or.inl z)]
      have hN : 0 ≤ ((2 ^ (w 34 4).toNat : Nat) : Int) := Int.natCast_nonneg _
      have g35 : w3 35 = w1 35 := funext fun x => e3 35 x (by decide)
      have hbit : ∀ c : Int, 0 ≤ c → w3 93 c = 0 ∨ w3 93 c = 1 := fun c a => by
        by_cases b : c < ((2 ^ (w 34 4).toNat : Nat) : Int)
        · rw [r2 c a b]
          by_cases q9 : mFt w i j s c = true
          · exact Or.inr (if_pos q9)
          · exact Or.inl (if_neg q9)
        · rw [r3 c (by omega)]; exact h.kT.2.2 c a
      have k34 : ∀ x : Int, x ≠ 7 → x ≠ 9 → w3 34 x = w 34 x := fun x a b => by rw [e3 34 x (by decide), p0 34 x (by decide) (Or.inr ⟨a, b⟩)]
      have k73 : ∀ x : Int, x ≠ 1 → w3 73 x = w 73 x := fun x a => by rw [r0 73 x (by decide) (Or.inr a), e2 73 x (by decide) (by decide)]
      obtain ⟨s1, s2, s3, s4, s5, s6, s7, s8⟩ := sTr_t h.kT hz
      refine ⟨by rw [hf, p2.1], r1, r0 121 0 (by decide) (Or.inl (by decide)), t, dr, tx, rfl, zSim_uTr h ek ⟨Or.inr ⟨?_, ?_, ?_, ?_, ?_, ?_, ?_, ?_⟩, ?_, hbit⟩⟩
      · rw [k34 8 (by decide) (by decide)]; exact s1
      · rw [k34 4 (by decide) (by decide)]; exact s2
      · rw [k34 5 (by decide) (by decide), k34 6 (by decide) (by decide)]; exact s3
      · rw [k34 4 (by decide) (by decide), k73 39 (by decide)]; exact s4
      · rw [k34 8 (by decide) (by decide), ← s5]
        unfold mKd
        rw [k73 42 (by decide)]
      · rw [k34 8 (by decide) (by decide), k34 5 (by decide) (by decide), k34 6 (by decide) (by decide), k73 40 (by decide), k73 41 (by decide)]; exact s6
      · rw [k34 4 (by decide) (by decide), e3 34 9 (by decide), g35]
        rw [← hf] at p2
        exact lOk_c (mF_1 r2) hN p2
      · exact Or.inl (by rw [e3 34 7 (by decide)]; exact p1)
      · rw [k73 40 (by decide), k73 41 (by decide)]; exact htr.2
  · obtain ⟨⟨-, hN⟩ | ⟨rfl, hz, hN⟩, rfl, rfl⟩ := hx
    · exact hN.elim
    · obtain ⟨d2, Q2, hd, hsp, hk⟩ := hR w1 (fun _ _ _ _ => rfl)
      obtain ⟨a1, a2, a3⟩ := hAn hz
      refine ⟨1, Or.inr ⟨rfl, rfl, by decide⟩, ⟨_, _, _, rfl⟩, d2, Q2, hd, hsp, fun v2 S2 w3 hq2 => ?_⟩
      obtain ⟨rfl, ⟨g, -⟩ | ⟨-, -, rfl, rfl⟩ | ⟨-, g, -⟩⟩ := hk v2 S2 w3 hq2
      · exact absurd (hz0.mpr g) hz
      · refine ⟨⟨_, rfl⟩, up_same _ _ _ _, t, dr, tx, rfl, zSim_k h (fun cc xx hs => ?_)⟩
        obtain ⟨q1, -, -, q2⟩ := sFp_n ht hs
        rw [up_n (by omega)]
      · rw [a1, a2] at g; exact absurd g hN
set_option maxRecDepth 100000 in
set_option maxHeartbeats 4000000 in
theorem P_next {l : Launch} {N0 t dr tx : Nat} {w : zW} (h : zSim N0 t dr tx w) {k : Int} (hr_k : inR k) : zPr l N0 mX11_next mX12_next 1 2 false [zI k] t dr tx w := by
  obtain ⟨⟨n0, n1, n2, n3⟩, n4, n5, n6, n7⟩ := sYd_n h.ky
  have ht : t = 4 ∨ t = 10 := by have := h.ht; omega
  have hpl := sPlan_n h.kp
  have hor := sOr_n h.ko
  have hcl := sClm_n h.kl
  have htr := sTr_n h.kT
  have hge := h.kg.2.1
  have hge2 := h.kg.1
  have htp := h.ka.1
  have htp2 := h.ka.2.1
  have hfl := h.kf.1
  have hT : w 34 8 ≠ 0 → ((2 ≤ w 34 4 ∧ w 34 4 ≤ 14) ∧ (w 34 8 = 1 ∨ w 34 8 = 2) ∧ (0 ≤ w 34 5 ∧ w 34 5 ≤ 99) ∧ 0 ≤ w 34 6 ∧ w 34 6 ≤ 99) ∧ lOk (mF w) (w 35) (w 34 9) ((2 ^ (w 34 4).toNat : Nat) : Int) ∧ (w 34 7 = 0 ∨ (w 34 7 = 1 ∧ qst (mF w) (w 34 8) (w 34 4) (w 34 10) (w 34 11) (w 34 12))) := fun q => by
    obtain ⟨q0, q1, q2, -, -, -, q3, q4⟩ := sTr_t h.kT q
    exact ⟨⟨q1, q0, q2⟩, q3, q4⟩
  have hz0 : w 34 8 = 0 ↔ w 73 39 = 0 := by omega
  have hzz : (w 34 8 = 0 ∨ w 34 9 = 0) ↔ (w 73 39 = 0 ∨ ixF (mF w) ((2 ^ (w 73 39).toNat : Nat) : Int) = 0) := by
    by_cases q : w 34 8 = 0
    · exact ⟨fun _ => Or.inl (hz0.mp q), fun _ => Or.inl q⟩
    · obtain ⟨-, -, -, q4, -, -, q3, -⟩ := sTr_t h.kT q
      rw [q4, ← q3.1]
      constructor
      · rintro (g | g)
        · exact absurd g q
        · exact Or.inr g
      · rintro (g | g)
        · exact absurd (hz0.mpr (q4.trans g)) q
        · exact Or.inr g
  have hR : ∀ w2 : zW, (∀ (cc : Nat) (xx : Int), 73 ≤ cc → cc ≠ 121 → w2 cc xx = w cc xx) → ∃ (d2 : Nat) (Q2 : Option Value → zS → zW → Prop), d2 ≤ 15 ∧ zSp l mX12_next false d2 0 0 [zR 73, zI k] (ZZ t dr tx) w2 Q2 zNo ∧ ∀ v2 S2 w3, Q2 v2 S2 w3 → S2 = ZZ t dr tx ∧ ((¬ (0 ≤ k ∧ k ≤ 2) ∧ v2 = some (zI 0) ∧ w3 = up w2 73 1 1) ∨ ((0 ≤ k ∧ k ≤ 2) ∧ (w 73 39 = 0 ∨ ixF (mF w) ((2 ^ (w 73 39).toNat : Nat) : Int) = 0) ∧ v2 = some (zI 0) ∧ w3 = up w2 73 1 2) ∨ ((0 ≤ k ∧ k ≤ 2) ∧ ¬ (w 73 39 = 0 ∨ ixF (mF w) ((2 ^ (w 73 39).toNat : Nat) : Int) = 0) ∧ (∃ a b r, qst (mF w) (mKd w) (w 73 39) a b r ∧ v2 = some (zI (if k = 0 then a else if k = 1 then b else r))) ∧ (∀ c x, c ≠ 94 → (c ≠ 73 ∨ x ≠ 1) → w3 c x = w2 c x) ∧ w3 73 1 = 0)) := fun w2 e => by
    have g73 : w2 73 = w 73 := funext fun x => e 73 x (by decide) (by decide)
    have g93 : w2 93 = w 93 := funext fun x => e 93 x (by decide) (by decide)
    refine ⟨_, _, ?_, m_next (w := w2) hr_k (by rw [g73]; omega) (fun c a => by rw [g93]; exact h.kT.2.2 c a), fun v2 S2 w3 hq => ?_⟩
    · decide
    rw [g73, mKd_c e, mF_c e] at hq
    exact hq
  refine ⟨_, _, _, _, _, ⟨by decide, by decide, by decide⟩, s_next (w := w) hr_k hT, fun v S w1 hq w2 e => ?_, fun E S w1 hx => ?_⟩
  · obtain ⟨rfl, ⟨k1, k2, k3⟩, rfl, p0, p1, p2⟩ := hq
    have e2 : ∀ (cc : Nat) (xx : Int), 73 ≤ cc → cc ≠ 121 → w2 cc xx = w cc xx := fun cc xx a b => by rw [e cc xx b, p0 cc xx (by omega) (by omega) (by omega) (Or.inl (by omega))]
    obtain ⟨d2, Q2, hd, hsp, hk⟩ := hR w2 e2
    refine ⟨⟨_, _, _, rfl⟩, ⟨_, rfl⟩, d2, Q2, hd, hsp, fun v2 S2 w3 hq2 => ?_⟩
    have hnz : ¬ (w 73 39 = 0 ∨ ixF (mF w) ((2 ^ (w 73 39).toNat : Nat) : Int) = 0) := fun g => by
      rcases hzz.mpr g with g | g
      · exact k2 g
      · exact k3 g
    obtain ⟨rfl, ⟨g, -⟩ | ⟨-, g, -⟩ | ⟨-, -, ⟨a, b, r, r4, rfl⟩, r0, r1⟩⟩ := hk v2 S2 w3 hq2
    · exact absurd ⟨k1.1, by omega⟩ g
    · exact absurd g hnz
    obtain ⟨s1, s2, s3, s4, s5, s6, s7, s8⟩ := sTr_t h.kT k2
    rw [s5, s4] at r4
    obtain ⟨u1, u2, u3⟩ := qst_u r4 p2
    have e3 : ∀ (cc : Nat) (xx : Int), cc < 73 → w3 cc xx = w1 cc xx := fun cc xx a => by rw [r0 cc xx (by omega) (Or.inl (by omega)), e cc xx (by omega)]
    have ek : ∀ (cc : Nat) (xx : Int), sFp t cc xx → ¬ ((cc = 34 ∧ xx = 4) ∨ (cc = 34 ∧ xx = 5) ∨ (cc = 34 ∧ xx = 6) ∨ (cc = 34 ∧ xx = 7) ∨ (cc = 34 ∧ xx = 8) ∨ (cc = 34 ∧ xx = 9) ∨ (cc = 34 ∧ xx = 10) ∨ (cc = 34 ∧ xx = 11) ∨ (cc = 34 ∧ xx = 12) ∨ (cc = 73 ∧ xx = 39) ∨ (cc = 73 ∧ xx = 40) ∨ (cc = 73 ∧ xx = 41) ∨ (cc = 73 ∧ xx = 42) ∨ cc = 35 ∨ cc = 93) → w3 cc xx = w cc xx := fun cc xx hs hn => by
      obtain ⟨q1, qb, qc, q2⟩ := sFp_n ht hs
      have qm := sFp_m ht hs
      rw [r0 cc xx (q2.2.2.2.2.2.2.2.2.2.2.2.2.2.2.2.2.2.2.2.2.2.2.2.2.2.1) (by by_cases z : cc = 73; (subst z; exact Or.inr (fun hk => (q1.resolve_left (fun g => g rfl)).1 hk)); exact Or.inl z), e cc xx (q2.2.2.2.2.2.2.2.2.2.2.2.2.2.2.2.2.2.2.2.2.2.2.2.2.2.2.2.2.2.2.2.2), p0 cc xx (q2.2.2.2.2.2.2.2.2.2.2.2.1) (q2.2.2.2.2.2.2.2.2.2.2.2.2.1) (q2.2.2.2.2.2.2.2.2.2.2.2.2.2.1) (by by_cases z : cc = 34; (subst z; exact Or.inr ⟨fun hk => hn (by simp [hk]), fun hk => hn (by simp [hk]), fun hk => hn (by simp [hk]), fun hk => hn (by simp [hk])⟩); exact Or.inl z)]
    have k34 : ∀ x : Int, x ≠ 7 → x ≠ 10 → x ≠ 11 → x ≠ 12 → w3 34 x = w 34 x := fun x a b c d => by rw [e3 34 x (by decide), p0 34 x (by decide) (by decide) (by decide) (Or.inr ⟨a, b, c, d⟩)]
    have k73 : ∀ x : Int, x ≠ 1 → w3 73 x = w 73 x := fun x a => by rw [r0 73 x (by decide) (Or.inr a), e2 73 x (by decide) (by decide)]
    have g35 : w3 35 = w 35 := funext fun x => by rw [e3 35 x (by decide), p0 35 x (by decide) (by decide) (by decide) (Or.inl (by decide))]
    have g93 : w3 93 = w 93 := funext fun x => by rw [r0 93 x (by decide) (Or.inl (by decide)), e2 93 x (by decide) (by decide)]
    have gf : mF w3 = mF w := by unfold mF; rw [g93]
    refine ⟨?_, r1, r0 121 0 (by decide) (Or.inl (by decide)), t, dr, tx, rfl, zSim_uTr h ek ⟨Or.inr ⟨?_, ?_, ?_, ?_, ?_, ?_, ?_, ?_⟩, ?_, ?_⟩⟩
    · rw [u1, u2, u3]
      by_cases q2 : k = 2
      · rw [if_pos q2, if_neg (by omega), if_neg (by omega)]
      · rw [if_neg q2]
        by_cases q0 : k = 0
        · rw [if_pos q0, if_pos q0]
        · rw [if_neg q0, if_neg q0, if_pos (by omega)]
    · rw [k34 8 (by decide) (by decide) (by decide) (by decide)]; exact s1
    · rw [k34 4 (by decide) (by decide) (by decide) (by decide)]; exact s2
    · rw [k34 5 (by decide) (by decide) (by decide) (by decide), k34 6 (by decide) (by decide) (by decide) (by decide)]; exact s3
    · rw [k34 4 (by decide) (by decide) (by decide) (by decide), k73 39 (by decide)]; exact s4
    · rw [k34 8 (by decide) (by decide) (by decide) (by decide), ← s5]
      unfold mKd
      rw [k73 42 (by decide)]
    · rw [k34 8 (by decide) (by decide) (by decide) (by decide), k34 5 (by decide) (by decide) (by decide) (by decide), k34 6 (by decide) (by decide) (by decide) (by decide), k73 40 (by decide), k73 41 (by decide)]; exact s6
    · rw [k34 4 (by decide) (by decide) (by decide) (by decide), k34 9 (by decide) (by decide) (by decide) (by decide), g35, gf]; exact s7
    · refine Or.inr ⟨by rw [e3 34 7 (by decide)]; exact p1, ?_⟩
      rw [gf, k34 8 (by decide) (by decide) (by decide) (by decide), k34 4 (by decide) (by decide) (by decide) (by decide), e3 34 10 (by decide), e3 34 11 (by decide), e3 34 12 (by decide)]; exact p2
    · rw [k73 40 (by decide), k73 41 (by decide)]; exact htr.2
    · rw [g93]; exact h.kT.2.2
  · obtain ⟨hN, rfl, rfl⟩ := hx
    obtain ⟨d2, Q2, hd, hsp, hk⟩ := hR w1 (fun _ _ _ _ => rfl)
    have hsim : ∀ v : Int, zSim (N0 + 1) t dr tx (up w1 73 1 v) := fun v => zSim_k h (fun cc xx hs => by
      obtain ⟨q1, -, -, q2⟩ := sFp_n ht hs
      rw [up_n (by omega)])
    rcases hN with ⟨rfl, hN⟩ | ⟨rfl, hN, hN2⟩
    · refine ⟨1, Or.inl ⟨rfl, rfl, by decide⟩, ⟨_, _, _, rfl⟩, d2, Q2, hd, hsp, fun v2 S2 w3 hq2 => ?_⟩
      obtain ⟨rfl, ⟨-, rfl, rfl⟩ | ⟨g, -⟩ | ⟨g, -⟩⟩ := hk v2 S2 w3 hq2
      · exact ⟨⟨_, rfl⟩, up_same _ _ _ _, t, dr, tx, rfl, hsim 1⟩
      · exact absurd ⟨g.1, by omega⟩ hN
      · exact absurd ⟨g.1, by omega⟩ hN
    · refine ⟨2, Or.inr ⟨rfl, rfl, by decide⟩, ⟨_, _, _, rfl⟩, d2, Q2, hd, hsp, fun v2 S2 w3 hq2 => ?_⟩
      obtain ⟨rfl, ⟨g, -⟩ | ⟨-, -, rfl, rfl⟩ | ⟨-, g, -⟩⟩ := hk v2 S2 w3 hq2
      · exact absurd ⟨hN.1, by omega⟩ g
      · exact ⟨⟨_, rfl⟩, up_same _ _ _ _, t, dr, tx, rfl, hsim 2⟩
      · exact absurd (hzz.mp hN2) g
