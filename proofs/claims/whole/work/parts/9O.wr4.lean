/-! feed, ropes -/
set_option maxRecDepth 100000 in
set_option maxHeartbeats 4000000 in
theorem P_feed {l : Launch} {N0 t dr tx : Nat} {w : zW} (h : zSim N0 t dr tx w) {a b c d e : Int} (hr_a : inR a) (hr_b : inR b) (hr_c : inR c) (hr_d : inR d) (hr_e : inR e) : zPr l N0 mX11_feed mX12_feed 0 0 false [zI a, zI b, zI c, zI d, zI e] t dr tx w := by
  obtain ⟨⟨n0, n1, n2, n3⟩, n4, n5, n6, n7⟩ := sYd_n h.ky
  have ht : t = 4 ∨ t = 10 := by have := h.ht; omega
  have hpl := sPlan_n h.kp
  have hor := sOr_n h.ko
  have hcl := sClm_n h.kl
  have htr := sTr_n h.kT
  have hge := h.kg.2.1
  have hge2 := h.kg.1
  have htp := h.ka.1
  have htp2 := h.ka.2.1
  have hfl := h.kf.1
  refine ⟨_, _, _, _, _, ⟨by decide, by decide, by decide⟩, s_feed (w := w) hr_a hr_b hr_c hr_d hr_e htp.1 htp.2, fun v S w1 hq w2 e1 => ?_, fun E S w1 hx => hx.elim⟩
  obtain ⟨rfl, ⟨hz, rfl, rfl⟩ | ⟨hz, rfl, p0, p1, p2, p3⟩⟩ := hq
  · have h12 : w2 73 12 = w1 0 1 := by rw [e1 73 12 (by decide)]; exact htp2
    refine ⟨⟨_, _, _, rfl⟩, ⟨_, rfl⟩, _, _, ?_, m_feed (w := w2) hr_a hr_b hr_c hr_d hr_e (by omega) (by omega), fun v2 S2 w3 hq2 => ?_⟩
    · decide
    obtain ⟨rfl, ⟨-, rfl, rfl⟩ | ⟨g, -⟩⟩ := hq2
    · refine ⟨rfl, up_same _ _ _ _, up_n (Or.inl (by decide)), t, dr, tx, rfl, zSim_k h (fun cc xx hs => ?_)⟩
      obtain ⟨q1, -, -, q2⟩ := sFp_n ht hs
      rw [up_n (by omega), e1 cc xx (by omega)]
    · omega
  · have e2 : ∀ (cc : Nat) (xx : Int), 73 ≤ cc → cc ≠ 121 → w2 cc xx = w cc xx := fun cc xx a b => by rw [e1 cc xx b, p0 cc xx (by omega) (by omega)]
    have h12 : w2 73 12 = w 0 1 := by rw [e2 73 12 (by decide) (by decide)]; exact htp2
    refine ⟨⟨_, _, _, rfl⟩, ⟨_, rfl⟩, _, _, ?_, m_feed (w := w2) hr_a hr_b hr_c hr_d hr_e (by omega) (by omega), fun v2 S2 w3 hq2 => ?_⟩
    · decide
    obtain ⟨rfl, ⟨g, -⟩ | ⟨-, rfl, r0, r1, r2, r3, r4⟩⟩ := hq2
    · omega
    have e3 : ∀ (cc : Nat) (xx : Int), cc < 73 → w3 cc xx = w1 cc xx := fun cc xx a => by rw [r0 cc xx (by omega) (by omega), e1 cc xx (by omega)]
    have ek : ∀ (cc : Nat) (xx : Int), sFp t cc xx → ¬ ((cc = 0 ∧ xx = 1) ∨ (cc = 73 ∧ xx = 12) ∨ cc = 1 ∨ cc = 84) → w3 cc xx = w cc xx := fun cc xx hs hn => by
      obtain ⟨q1, qb, qc, q2⟩ := sFp_n ht hs
      have qm := sFp_m ht hs
      rw [r0 cc xx (by by_cases z : cc = 73; (subst z; exact Or.inr ⟨fun hk => (q1.resolve_left (fun g => g rfl)).1 hk, fun hk => hn (by simp [hk])⟩); exact Or.inl z) (fun hk => hn (by simp [hk])), e1 cc xx (q2.2.2.2.2.2.2.2.2.2.2.2.2.2.2.2.2.2.2.2.2.2.2.2.2.2.2.2.2.2.2.2.2), p0 cc xx (by by_cases z : cc = 0; (subst z; exact Or.inr (fun hk => hn (by simp [hk]))); exact Or.inl z) (fun hk => hn (by simp [hk]))]
    refine ⟨by rw [h12], r1, r0 121 0 (Or.inl (by decide)) (by decide), t, dr, tx, rfl, zSim_uTape h ek ⟨?_, ?_, fun i b0 => ?_, fun i a0 b0 => ?_⟩⟩
    · rw [e3 0 1 (by decide), p1]; omega
    · rw [r2, e3 0 1 (by decide), p1]; omega
    · rw [e3 0 1 (by decide), p1] at b0
      rw [e3 1 i (by decide)]
      by_cases q8 : i < w 0 1
      · rw [r3 i (by omega), p2 i q8, e2 84 i (by decide) (by decide)]
        exact h.ka.2.2.1 i q8
      · have k1 := p3 (i - w 0 1) (by omega) (by omega)
        have k2 := r4 (i - w 0 1) (by omega) (by omega)
        rw [show w 0 1 + (i - w 0 1) = i by omega] at k1
        rw [h12, show w 0 1 + (i - w 0 1) = i by omega] at k2
        rw [k1, k2]
    · rw [e3 0 1 (by decide), p1] at b0
      rw [e3 1 i (by decide)]
      by_cases q8 : i < w 0 1
      · rw [p2 i q8]
        exact h.ka.2.2.2 i a0 q8
      · have k1 := p3 (i - w 0 1) (by omega) (by omega)
        rw [show w 0 1 + (i - w 0 1) = i by omega] at k1
        rw [k1]
        unfold byt
        rw [iAnd_255]
        omega
set_option maxRecDepth 100000 in
set_option maxHeartbeats 4000000 in
theorem P_ropes {l : Launch} {N0 t dr tx : Nat} {w : zW} (h : zSim N0 t dr tx w) {L : Int} (hr_L : inR L) : zPr l N0 mX11_ropes mX12_ropes 0 0 false [zI L] t dr tx w := by
  obtain ⟨⟨n0, n1, n2, n3⟩, n4, n5, n6, n7⟩ := sYd_n h.ky
  have ht : t = 4 ∨ t = 10 := by have := h.ht; omega
  have hpl := sPlan_n h.kp
  have hor := sOr_n h.ko
  have hcl := sClm_n h.kl
  have htr := sTr_n h.kT
  have hge := h.kg.2.1
  have hge2 := h.kg.1
  have htp := h.ka.1
  have htp2 := h.ka.2.1
  have hfl := h.kf.1
  refine ⟨_, _, _, _, _, ⟨by decide, by decide, by decide⟩, s_ropes (w := w) hr_L hge.1 hge.2 (fun i a b => (h.kg.2.2 i a b).2), fun v S w1 hq w2 e => ?_, fun E S w1 hx => hx.elim⟩
  obtain ⟨rfl, p0, p1, p2⟩ := hq
  have e2 : ∀ (cc : Nat) (xx : Int), 73 ≤ cc → cc ≠ 121 → w2 cc xx = w cc xx := fun cc xx a b => by rw [e cc xx b, p0 cc xx (by omega) (by omega) (by omega)]
  have h45 : w2 73 45 = w 39 1 := by rw [e2 73 45 (by decide) (by decide)]; exact hge2
  have g96 : w2 96 = w 96 := funext fun x => e2 96 x (by decide) (by decide)
  have hne : ∀ i : Int, 0 ≤ i → i < w 39 1 → w 96 i = w 40 i ∧ 1 ≤ w 40 i ∧ w 40 i ≤ 9999 := h.kg.2.2
  refine ⟨⟨_, _, _, rfl⟩, by rcases p2 with ⟨-, rfl⟩ | ⟨-, r, rfl, -⟩ <;> exact ⟨_, rfl⟩, _, _, ?_, m_ropes (w := w2) hr_L (by omega) (by omega) (fun i a b => by rw [g96]; have := hne i a (by omega); omega), fun v2 S2 w3 hq2 => ?_⟩
  · decide
  obtain ⟨rfl, r0, r1, r2, r3⟩ := hq2
  rw [h45, g96] at r3
  have ek : ∀ (cc : Nat) (xx : Int), sFp t cc xx → ¬ ((cc = 39 ∧ xx = 1) ∨ (cc = 73 ∧ xx = 45) ∨ cc = 40 ∨ cc = 96) → w3 cc xx = w cc xx := fun cc xx hs hn => by
    obtain ⟨q1, qb, qc, q2⟩ := sFp_n ht hs
    have qm := sFp_m ht hs
    rw [r0 cc xx (q2.2.2.2.2.2.2.2.2.2.2.2.2.2.2.2.2.2.2.2.2.2.2.2.2.2.2.1) (by by_cases z : cc = 73; (subst z; exact Or.inr ⟨fun hk => (q1.resolve_left (fun g => g rfl)).1 hk, fun hk => hn (by simp [hk]), fun hk => (q1.resolve_left (fun g => g rfl)).2.2.1 hk⟩); exact Or.inl z), e cc xx (q2.2.2.2.2.2.2.2.2.2.2.2.2.2.2.2.2.2.2.2.2.2.2.2.2.2.2.2.2.2.2.2.2), p0 cc xx (q2.2.2.2.2.2.2.2.2.2.2.2.2.2.2.1) (q2.2.2.2.2.2.2.2.2.2.2.2.2.2.2.2.1) (by by_cases z : cc = 39; (subst z; exact Or.inr (fun hk => hn (by simp [hk]))); exact Or.inl z)]
  have e3 : ∀ (cc : Nat) (xx : Int), cc < 73 → w3 cc xx = w1 cc xx := fun cc xx a => by rw [r0 cc xx (by omega) (by omega), e cc xx (by omega)]
  have hS : zSim (N0 + 1) t dr tx w3 := by
    refine zSim_uGe h ek ⟨?_, ?_, fun i a0 b0 => ?_⟩
    · rw [r2, e3 39 1 (by decide), p1]
    · rw [e3 39 1 (by decide), p1]; omega
    · rw [e3 39 1 (by decide), p1] at b0; omega
  have hv : v2 = v ∧ ∃ z, v = some (zI z) := by
    rcases p2 with ⟨⟨i, hi, hl⟩, rfl⟩ | ⟨ha, r, rfl, ho⟩
    · refine ⟨?_, _, rfl⟩
      rcases r3 with ⟨-, g⟩ | ⟨g, -⟩
      · exact g
      · have := g i hi.1 hi.2
        have := (hne i hi.1 hi.2).1
        omega
    · refine ⟨?_, _, rfl⟩
      rcases r3 with ⟨⟨i, hi, hl⟩, -⟩ | ⟨-, r', rfl, ho'⟩
      · have := ha i hi.1 hi.2
        have := (hne i hi.1 hi.2).1
        omega
      · rw [isOpt_u (isOpt_c (fun i a b => (hne i a (by omega)).1) ho') ho]
  exact ⟨hv.1, r1, r0 121 0 (by decide) (Or.inl (by decide)), t, dr, tx, rfl, hS⟩
