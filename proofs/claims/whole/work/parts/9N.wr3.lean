/-! image, restore, feed, ropes, order, odds on both sides -/
theorem sFp_m {t c : Nat} {x : Int} (ht : t = 4 ∨ t = 10) (h : sFp t c x) : (c ≠ 44 ∨ x = 1 ∨ x = 4 ∨ x = 6) ∧ (c ≠ 62 ∨ x = 3) ∧ (c ≠ 39 ∨ x = 1) ∧ (c ≠ 0 ∨ x = 1 ∨ x = 2 ∨ x = 13) ∧ (c ≠ 49 ∨ x = 1 ∨ x = 4 ∨ x = 6) := by
  unfold sFp at h
  refine ⟨?_, ?_, ?_, ?_, ?_⟩ <;> omega
theorem sClb_c {n : Nat} {nc k : Int} {lv dy wt lg lv' dy' wt' lg' a1 a2 a3 a4 b1 b2 b3 b4 : Int → Int} (h : sClb n nc lv dy wt lg lv' dy' wt' lg' k)
    (h1 : ∀ x : Int, 0 ≤ x → x < 20 → a1 x = lv x) (h2 : ∀ x : Int, 0 ≤ x → x < 360 → a2 x = dy x) (h3 : ∀ x : Int, 0 ≤ x → x < 7 → a3 x = wt x) (h4 : ∀ x : Int, 0 ≤ x → x < 50 → a4 x = lg x)
    (g1 : ∀ x : Int, 0 ≤ x → x < 20 → b1 x = lv' x) (g2 : ∀ x : Int, 0 ≤ x → x < 360 → b2 x = dy' x) (g3 : ∀ x : Int, 0 ≤ x → x < 7 → b3 x = wt' x) (g4 : ∀ x : Int, 0 ≤ x → x < 200 → b4 x = lg' x) (hn : 0 ≤ nc) : sClb n nc a1 a2 a3 a4 b1 b2 b3 b4 k := by
  obtain ⟨q1, q2, q3, q4, q5, q6⟩ := h
  refine ⟨q1, fun r a b => ?_, fun x a b => ?_, fun c d a b u v => ?_, fun x a b => ?_, fun i a b => ?_⟩
  · rw [h1 r a b, g1 r a b]; exact q2 r a b
  · rw [h2 x a b, g2 x a b]; exact q3 x a b
  · rw [h2 _ (by omega) (by omega)]; exact q4 c d a b u v
  · rw [h3 x a b, g3 x a b]; exact q5 x a b
  · rw [h4 i a (by omega), g4 _ (by omega) (by omega), g4 _ (by omega) (by omega), g4 _ (by omega) (by omega), g4 _ (by omega) (by omega)]; exact q6 i a b
set_option maxRecDepth 100000 in
set_option maxHeartbeats 4000000 in
theorem P_image {l : Launch} {N0 t dr tx : Nat} {w : zW} (h : zSim N0 t dr tx w) : zPr l N0 mX11_image mX12_image 0 0 true [] t dr tx w := by
  obtain ⟨⟨n0, n1, n2, n3⟩, n4, n5, n6, n7⟩ := sYd_n h.ky
  have ht : t = 4 ∨ t = 10 := by have := h.ht; omega
  have hpl := sPlan_n h.kp
  have hor := sOr_n h.ko
  have hcl := sClm_n h.kl
  have htr := sTr_n h.kT
  have hge := h.kg.2.1
  have hge2 := h.kg.1
  have htp := h.ka.1
  have htp2 := h.ka.2.1
  have hfl := h.kf.1
  refine ⟨_, _, _, _, _, ⟨by decide, by decide, by decide⟩, s_image (w := w), fun v S w1 hq w2 e => ?_, fun E S w1 hx => hx.elim⟩
  obtain ⟨rfl, rfl, p0, p1, p2, p3, p4, p5, p6, p7, p8⟩ := hq
  have e2 : ∀ (cc : Nat) (xx : Int), 73 ≤ cc → cc ≠ 121 → w2 cc xx = w cc xx := fun cc xx a b => by rw [e cc xx b, p0 cc xx (by omega) (by omega) (by omega) (by omega) (by omega) (by omega)]
  refine ⟨⟨_, _, _, rfl⟩, rfl, _, _, ?_, m_image (w := w2), fun v2 S2 w3 hq2 => ?_⟩
  · decide
  obtain ⟨rfl, rfl, r0, r1, r2, r3, r4, r5, r6, r7, r8, r9⟩ := hq2
  refine ⟨rfl, r1, r0 121 0 (by decide) (by decide) (by decide) (by decide) (Or.inl (by decide)), t, dr, tx, rfl, ?_⟩
  have e1 : ∀ (cc : Nat) (xx : Int), cc < 73 → w3 cc xx = w1 cc xx := fun cc xx a => by rw [r0 cc xx (by omega) (by omega) (by omega) (by omega) (by omega), e cc xx (by omega)]
  have ek : ∀ (cc : Nat) (xx : Int), sFp t cc xx → ¬ ((cc = 0 ∧ xx = 13) ∨ (cc = 73 ∧ xx = 55) ∨ (cc = 73 ∧ xx = 56) ∨ (cc = 73 ∧ xx = 57) ∨ (cc = 73 ∧ xx = 58) ∨ (cc = 49 ∧ xx = 1) ∨ (cc = 49 ∧ xx = 4) ∨ (cc = 49 ∧ xx = 6) ∨ cc = 50 ∨ cc = 51 ∨ cc = 52 ∨ cc = 53 ∨ cc = 101 ∨ cc = 102 ∨ cc = 103 ∨ cc = 104) → w3 cc xx = w cc xx := fun cc xx hs hn => by
    obtain ⟨q1, qb, qc, q2⟩ := sFp_n ht hs
    have qm := sFp_m ht hs
    rw [r0 cc xx (fun hk => hn (by simp [hk])) (fun hk => hn (by simp [hk])) (fun hk => hn (by simp [hk])) (fun hk => hn (by simp [hk])) (by by_cases z : cc = 73; (subst z; exact Or.inr ⟨fun hk => (q1.resolve_left (fun g => g rfl)).1 hk, fun hk => hn (by simp [hk]), fun hk => hn (by simp [hk]), fun hk => hn (by simp [hk]), fun hk => hn (by simp [hk])⟩); exact Or.inl z), e cc xx (q2.2.2.2.2.2.2.2.2.2.2.2.2.2.2.2.2.2.2.2.2.2.2.2.2.2.2.2.2.2.2.2.2), p0 cc xx (by by_cases z : cc = 0; (subst z; exact Or.inr (fun hk => hn (by simp [hk]))); exact Or.inl z) (fun hk => (qm.2.2.2.2).elim (fun g => g hk) (fun g => hn (by rcases g with g | g | g <;> simp [hk, g]))) (fun hk => hn (by simp [hk])) (fun hk => hn (by simp [hk])) (fun hk => hn (by simp [hk])) (fun hk => hn (by simp [hk]))]
  refine zSim_uImg h ek (Or.inr ⟨?_, r2, ?_, ?_, ?_⟩)
  · rw [e1 0 13 (by decide)]; exact p1
  · rw [r3, r4, r5, e1 49 1 (by decide), e1 49 4 (by decide), e1 49 6 (by decide), p6, p7, p8, e2 73 44 (by decide) (by decide), e2 73 46 (by decide) (by decide), e2 73 54 (by decide) (by decide)]; exact hcl.1
  · rw [e1 49 1 (by decide), p6]; exact hcl.2.1
  · rw [e1 49 6 (by decide), p8, e1 t 5 (by omega), p0 t 5 (by omega) (by omega) (by omega) (by omega) (by omega) (by omega)]
    refine sClb_c (sClm_m (Nat.le_succ N0) h.kl).2.2 (fun x a b => ?_) (fun x a b => ?_) (fun x a b => ?_) (fun x a b => ?_) (fun x a b => ?_) (fun x a b => ?_) (fun x a b => ?_) (fun x a b => ?_) n4.1
    · rw [e1 50 x (by decide)]; exact p2 x a b
    · rw [e1 51 x (by decide)]; exact p3 x a b
    · rw [e1 52 x (by decide)]; exact p4 x a b
    · rw [e1 53 x (by decide)]; exact p5 x a b
    · rw [r6 x a b, e2 95 x (by decide) (by decide)]
    · rw [r7 x a b, e2 99 x (by decide) (by decide)]
    · rw [r8 x a b, e2 98 x (by decide) (by decide)]
    · rw [r9 x a b, e2 100 x (by decide) (by decide)]
set_option maxRecDepth 100000 in
set_option maxHeartbeats 4000000 in
theorem P_restore {l : Launch} {N0 t dr tx : Nat} {w : zW} (h : zSim N0 t dr tx w) : zPr l N0 mX11_restore mX12_restore 0 0 false [] t dr tx w := by
  obtain ⟨⟨n0, n1, n2, n3⟩, n4, n5, n6, n7⟩ := sYd_n h.ky
  have ht : t = 4 ∨ t = 10 := by have := h.ht; omega
  have hpl := sPlan_n h.kp
  have hor := sOr_n h.ko
  have hcl := sClm_n h.kl
  have htr := sTr_n h.kT
  have hge := h.kg.2.1
  have hge2 := h.kg.1
  have htp := h.ka.1
  have htp2 := h.ka.2.1
  have hfl := h.kf.1
  have hI := h.ki
  unfold sImg at hI
  have hb : w 0 13 = 0 ∨ w 0 13 = 1 := hI.imp (fun q => q.1) (fun q => q.1)
  refine ⟨_, _, _, _, _, ⟨by decide, by decide, by decide⟩, s_restore (w := w) hb, fun v S w1 hq w2 e => ?_, fun E S w1 hx => hx.elim⟩
  obtain ⟨rfl, ⟨hz, rfl, rfl⟩ | ⟨hz, rfl, p0, p2, p3, p4, p5, p6, p7, p8⟩⟩ := hq
  · have h55 : w2 73 55 = 0 := by rw [e 73 55 (by decide)]; omega
    refine ⟨⟨_, _, _, rfl⟩, ⟨_, rfl⟩, _, _, ?_, m_restore (w := w2), fun v2 S2 w3 hq2 => ?_⟩
    · decide
    obtain ⟨rfl, ⟨-, rfl, rfl⟩ | ⟨g, -⟩⟩ := hq2
    · refine ⟨rfl, up_same _ _ _ _, up_n (Or.inl (by decide)), t, dr, tx, rfl, zSim_k h (fun cc xx hs => ?_)⟩
      obtain ⟨q1, -, -, q2⟩ := sFp_n ht hs
      rw [up_n (by omega), e cc xx (by omega)]
    · exact absurd h55 g
  · have e2 : ∀ (cc : Nat) (xx : Int), 73 ≤ cc → cc ≠ 121 → w2 cc xx = w cc xx := fun cc xx a b => by rw [e cc xx b, p0 cc xx (by omega) (by omega) (by omega) (by omega) (by omega)]
    obtain ⟨g, -⟩ | ⟨-, u1, u2, u3, u4⟩ := hI
    · omega
    have h55 : w2 73 55 = 1 := by rw [e2 73 55 (by decide) (by decide)]; exact u1
    refine ⟨⟨_, _, _, rfl⟩, ⟨_, rfl⟩, _, _, ?_, m_restore (w := w2), fun v2 S2 w3 hq2 => ?_⟩
    · decide
    obtain ⟨rfl, ⟨g, -⟩ | ⟨-, rfl, r0, r1, r3, r4, r5, r6, r7, r8, r9⟩⟩ := hq2
    · omega
    refine ⟨rfl, r1, r0 121 0 (by decide) (by decide) (by decide) (by decide) (Or.inl (by decide)), t, dr, tx, rfl, ?_⟩
    have e1 : ∀ (cc : Nat) (xx : Int), cc < 73 → w3 cc xx = w1 cc xx := fun cc xx a => by rw [r0 cc xx (by omega) (by omega) (by omega) (by omega) (by omega), e cc xx (by omega)]
    have ek : ∀ (cc : Nat) (xx : Int), sFp t cc xx → ¬ ((cc = 44 ∧ xx = 1) ∨ (cc = 44 ∧ xx = 4) ∨ (cc = 44 ∧ xx = 6) ∨ (cc = 73 ∧ xx = 44) ∨ (cc = 73 ∧ xx = 46) ∨ (cc = 73 ∧ xx = 54) ∨ cc = 45 ∨ cc = 46 ∨ cc = 47 ∨ cc = 48 ∨ cc = 95 ∨ cc = 98 ∨ cc = 99 ∨ cc = 100) → w3 cc xx = w cc xx := fun cc xx hs hn => by
      obtain ⟨q1, qb, qc, q2⟩ := sFp_n ht hs
      have qm := sFp_m ht hs
      rw [r0 cc xx (fun hk => hn (by simp [hk])) (fun hk => hn (by simp [hk])) (fun hk => hn (by simp [hk])) (fun hk => hn (by simp [hk])) (by by_cases z : cc = 73; (subst z; exact Or.inr ⟨fun hk => (q1.resolve_left (fun g => g rfl)).1 hk, fun hk => hn (by simp [hk]), fun hk => hn (by simp [hk]), fun hk => hn (by simp [hk])⟩); exact Or.inl z), e cc xx (q2.2.2.2.2.2.2.2.2.2.2.2.2.2.2.2.2.2.2.2.2.2.2.2.2.2.2.2.2.2.2.2.2), p0 cc xx (fun hk => (qm.1).elim (fun g => g hk) (fun g => hn (by rcases g with g | g | g <;> simp [hk, g]))) (fun hk => hn (by simp [hk])) (fun hk => hn (by simp [hk])) (fun hk => hn (by simp [hk])) (fun hk => hn (by simp [hk]))]
    refine zSim_uClm h ek ⟨?_, ?_, ?_⟩
    · rw [r3, r4, r5, e1 44 1 (by decide), e1 44 4 (by decide), e1 44 6 (by decide), p6, p7, p8, e2 73 56 (by decide) (by decide), e2 73 57 (by decide) (by decide), e2 73 58 (by decide) (by decide)]; exact u2
    · rw [e1 44 1 (by decide), p6]; exact u3
    · rw [e1 44 6 (by decide), p8, e1 t 5 (by omega), p0 t 5 (by omega) (by omega) (by omega) (by omega) (by omega)]
      refine sClb_c (sClb_m (Nat.le_succ N0) u4) (fun x a b => ?_) (fun x a b => ?_) (fun x a b => ?_) (fun x a b => ?_) (fun x a b => ?_) (fun x a b => ?_) (fun x a b => ?_) (fun x a b => ?_) n4.1
      · rw [e1 45 x (by decide)]; exact p2 x a b
      · rw [e1 46 x (by decide)]; exact p3 x a b
      · rw [e1 47 x (by decide)]; exact p4 x a b
      · rw [e1 48 x (by decide)]; exact p5 x a b
      · rw [r6 x a b, e2 101 x (by decide) (by decide)]
      · rw [r7 x a b, e2 102 x (by decide) (by decide)]
      · rw [r8 x a b, e2 103 x (by decide) (by decide)]
      · rw [r9 x a b, e2 104 x (by decide) (by decide)]
