/-! more writing calls on both sides -/
set_option maxRecDepth 100000 in
set_option maxHeartbeats 4000000 in
theorem P_rope {l : Launch} {N0 t dr tx : Nat} {w : zW} (h : zSim N0 t dr tx w) {m : Int} (hr_m : inR m) : zPr l N0 mX11_rope mX12_rope 0 0 false [zI m] t dr tx w := by
  obtain ⟨⟨n0, n1, n2, n3⟩, n4, n5, n6, n7⟩ := sYd_n h.ky
  have ht : t = 4 ∨ t = 10 := by have := h.ht; omega
  have hpl := sPlan_n h.kp
  have hor := sOr_n h.ko
  have hcl := sClm_n h.kl
  have htr := sTr_n h.kT
  have hge := h.kg.2.1
  have hge2 := h.kg.1
  have htp := h.ka.1
  have htp2 := h.ka.2.1
  have hfl := h.kf.1
  refine ⟨_, _, _, _, _, ⟨by decide, by decide, by decide⟩, s_rope (w := w) hr_m (by omega) (by omega), fun v S w1 hq w2 e => ?_, fun E S w1 hx => hx.elim⟩
  obtain ⟨-, rfl, rfl, hw1⟩ := hq
  have e2 : ∀ (cc : Nat) (xx : Int), 73 ≤ cc → cc ≠ 121 → w2 cc xx = w cc xx := fun cc xx a b => by
    rw [e cc xx b, hw1]
    split
    · rw [up_n (by omega), up_n (by omega)]
    · rfl
  have g73 : w2 73 = w 73 := funext fun x => e2 73 x (by decide) (by decide)
  refine ⟨⟨_, _, _, rfl⟩, ⟨_, rfl⟩, _, _, ?_, m_rope (w := w2) hr_m (by rw [g73]; omega) (by rw [g73]; omega), fun v2 S2 w3 hq2 => ?_⟩
  · decide
  simp only [g73, hcl.1.1] at hq2
  obtain ⟨-, rfl, rfl, hw3⟩ := hq2
  refine ⟨rfl, ?_⟩
  by_cases hc : (1 ≤ m ∧ m ≤ 9999) ∧ w 44 1 < 20
  · rw [if_pos hc] at hw1 hw3
    subst hw1
    have q : ∀ (cc : Nat) (xx : Int), w3 cc xx = (up (up (up w2 73 1 0) 95 (w 44 1) m) 73 44 (w 44 1 + 1)) cc xx := fun cc xx => by rw [hw3]
    have ek : ∀ (cc : Nat) (xx : Int), sFp t cc xx → ¬ ((cc = 44 ∧ xx = 1) ∨ (cc = 44 ∧ xx = 4) ∨ (cc = 44 ∧ xx = 6) ∨ (cc = 73 ∧ xx = 44) ∨ (cc = 73 ∧ xx = 46) ∨ (cc = 73 ∧ xx = 54) ∨ cc = 45 ∨ cc = 46 ∨ cc = 47 ∨ cc = 48 ∨ cc = 95 ∨ cc = 98 ∨ cc = 99 ∨ cc = 100) → w3 cc xx = w cc xx := fun cc xx hs hn => by
      obtain ⟨q1, -, -, q2⟩ := sFp_n ht hs
      rw [q, up_n (by omega), up_n (by omega), up_n (by omega), e cc xx (by omega), up_n (by omega), up_n (by omega)]
    have f46 : ∀ x : Int, w3 46 x = w 46 x := fun x => by rw [q]; simp [up, e]
    have f47 : ∀ x : Int, w3 47 x = w 47 x := fun x => by rw [q]; simp [up, e]
    have f48 : ∀ x : Int, w3 48 x = w 48 x := fun x => by rw [q]; simp [up, e]
    have f98 : ∀ x : Int, w3 98 x = w 98 x := fun x => by rw [q]; simp [up, e]
    have f99 : ∀ x : Int, w3 99 x = w 99 x := fun x => by rw [q]; simp [up, e]
    have f100 : ∀ x : Int, w3 100 x = w 100 x := fun x => by rw [q]; simp [up, e]
    have f45 : ∀ x : Int, w3 45 x = if x = w 44 1 then m else w 45 x := fun x => by rw [q]; simp [up, e]
    have f95 : ∀ x : Int, w3 95 x = if x = w 44 1 then m else w 95 x := fun x => by rw [q]; simp [up, e]
    have f44 : ∀ x : Int, w3 44 x = if x = 1 then w 44 1 + 1 else w 44 x := fun x => by rw [q]; simp [up, e]
    have f73 : ∀ x : Int, w3 73 x = if x = 44 then w 44 1 + 1 else if x = 1 then 0 else w 73 x := fun x => by rw [q]; simp [up, e]
    refine ⟨by rw [q]; simp [up], by rw [q]; simp [up], t, dr, tx, rfl, zSim_uClm h ek ?_⟩
    have j46 : w3 46 = w 46 := funext f46
    have j47 : w3 47 = w 47 := funext f47
    have j48 : w3 48 = w 48 := funext f48
    have j98 : w3 98 = w 98 := funext f98
    have j99 : w3 99 = w 99 := funext f99
    have j100 : w3 100 = w 100 := funext f100
    have j5 : w3 t 5 = w t 5 := by rw [q, up_n (by omega), up_n (by omega), up_n (by omega), e t 5 (by omega), up_n (by omega), up_n (by omega)]
    obtain ⟨⟨u1, u2, u3⟩, u4, v1, v2, v3, v4, v5, v6⟩ := sClm_m (Nat.le_succ N0) h.kl
    unfold sClm
    rw [j46, j47, j48, j98, j99, j100, j5, f44, f44, f44, f73, f73, f73]
    refine ⟨⟨by simp, by simpa using u2, by simpa using u3⟩, by simp; omega, by simpa using v1, fun r a b => ?_, v3, v4, v5, by simpa using v6⟩
    have := v2 r a b
    rw [f45, f95]
    by_cases q8 : r = w 44 1
    · rw [if_pos q8, if_pos q8]; omega
    · rw [if_neg q8, if_neg q8]; omega
  · rw [if_neg hc] at hw1 hw3
    subst hw1
    rw [hw3]
    refine ⟨up_same _ _ _ _, up_n (Or.inl (by decide)), t, dr, tx, rfl, zSim_k h (fun cc xx hs => ?_)⟩
    obtain ⟨q1, -, -, q2⟩ := sFp_n ht hs
    rw [up_n (by omega), e cc xx (by omega)]
set_option maxRecDepth 100000 in
set_option maxHeartbeats 4000000 in
theorem P_need {l : Launch} {N0 t dr tx : Nat} {w : zW} (h : zSim N0 t dr tx w) {m : Int} (hr_m : inR m) : zPr l N0 mX11_need mX12_need 0 0 false [zI m] t dr tx w := by
  obtain ⟨⟨n0, n1, n2, n3⟩, n4, n5, n6, n7⟩ := sYd_n h.ky
  have ht : t = 4 ∨ t = 10 := by have := h.ht; omega
  have hpl := sPlan_n h.kp
  have hor := sOr_n h.ko
  have hcl := sClm_n h.kl
  have htr := sTr_n h.kT
  have hge := h.kg.2.1
  have hge2 := h.kg.1
  have htp := h.ka.1
  have htp2 := h.ka.2.1
  have hfl := h.kf.1
  refine ⟨_, _, _, _, _, ⟨by decide, by decide, by decide⟩, s_need (w := w) hr_m (by omega) (by omega), fun v S w1 hq w2 e => ?_, fun E S w1 hx => hx.elim⟩
  obtain ⟨-, rfl, rfl, hw1⟩ := hq
  have e2 : ∀ (cc : Nat) (xx : Int), 73 ≤ cc → cc ≠ 121 → w2 cc xx = w cc xx := fun cc xx a b => by
    rw [e cc xx b, hw1]
    split
    · rw [up_n (by omega), up_n (by omega)]
    · rfl
  have g73 : w2 73 = w 73 := funext fun x => e2 73 x (by decide) (by decide)
  refine ⟨⟨_, _, _, rfl⟩, ⟨_, rfl⟩, _, _, ?_, m_need (w := w2) hr_m (by rw [g73]; omega) (by rw [g73]; omega), fun v2 S2 w3 hq2 => ?_⟩
  · decide
  simp only [g73, hge2] at hq2
  obtain ⟨-, rfl, rfl, hw3⟩ := hq2
  refine ⟨rfl, ?_⟩
  by_cases hc : (1 ≤ m ∧ m ≤ 9999) ∧ w 39 1 < 10
  · rw [if_pos hc] at hw1 hw3
    subst hw1
    have q : ∀ (cc : Nat) (xx : Int), w3 cc xx = (up (up (up w2 73 1 0) 96 (w 39 1) m) 73 45 (w 39 1 + 1)) cc xx := fun cc xx => by rw [hw3]
    have ek : ∀ (cc : Nat) (xx : Int), sFp t cc xx → ¬ ((cc = 39 ∧ xx = 1) ∨ (cc = 73 ∧ xx = 45) ∨ cc = 40 ∨ cc = 96) → w3 cc xx = w cc xx := fun cc xx hs hn => by
      obtain ⟨q1, -, -, q2⟩ := sFp_n ht hs
      rw [q, up_n (by omega), up_n (by omega), up_n (by omega), e cc xx (by omega), up_n (by omega), up_n (by omega)]
    have f40 : ∀ x : Int, w3 40 x = if x = w 39 1 then m else w 40 x := fun x => by rw [q]; simp [up, e]
    have f96 : ∀ x : Int, w3 96 x = if x = w 39 1 then m else w 96 x := fun x => by rw [q]; simp [up, e]
    have f39 : ∀ x : Int, w3 39 x = if x = 1 then w 39 1 + 1 else w 39 x := fun x => by rw [q]; simp [up, e]
    have f73 : ∀ x : Int, w3 73 x = if x = 45 then w 39 1 + 1 else if x = 1 then 0 else w 73 x := fun x => by rw [q]; simp [up, e]
    refine ⟨by rw [q]; simp [up], by rw [q]; simp [up], t, dr, tx, rfl, zSim_uGe h ek ?_⟩
    obtain ⟨u1, u2, u3⟩ := h.kg
    unfold sGe
    rw [f39, f73]
    refine ⟨by simp, by simp; omega, fun r a b => ?_⟩
    rw [if_pos rfl] at b
    rw [f40, f96]
    by_cases q8 : r = w 39 1
    · rw [if_pos q8, if_pos q8]; omega
    · rw [if_neg q8, if_neg q8]
      have := u3 r a (by omega)
      omega
  · rw [if_neg hc] at hw1 hw3
    subst hw1
    rw [hw3]
    refine ⟨up_same _ _ _ _, up_n (Or.inl (by decide)), t, dr, tx, rfl, zSim_k h (fun cc xx hs => ?_)⟩
    obtain ⟨q1, -, -, q2⟩ := sFp_n ht hs
    rw [up_n (by omega), e cc xx (by omega)]
set_option maxRecDepth 100000 in
set_option maxHeartbeats 4000000 in
theorem P_band {l : Launch} {N0 t dr tx : Nat} {w : zW} (h : zSim N0 t dr tx w) {c co y p r : Int} (hr_c : inR c) (hr_co : inR co) (hr_y : inR y) (hr_p : inR p) (hr_r : inR r) : zPr l N0 mX11_band mX12_band 1 0 false [zI c, zI co, zI y, zI p, zI r] t dr tx w := by
  obtain ⟨⟨n0, n1, n2, n3⟩, n4, n5, n6, n7⟩ := sYd_n h.ky
  have ht : t = 4 ∨ t = 10 := by have := h.ht; omega
  have hpl := sPlan_n h.kp
  have hor := sOr_n h.ko
  have hcl := sClm_n h.kl
  have htr := sTr_n h.kT
  have hge := h.kg.2.1
  have hge2 := h.kg.1
  have htp := h.ka.1
  have htp2 := h.ka.2.1
  have hfl := h.kf.1
  have hm : (0 ≤ c ∧ c < w t 5) → w 79 c = w (t + 1) c ∧ w 105 c = w 59 c ∧ 0 ≤ w 59 c ∧ w 59 c ≤ 8 := fun q => by
    have h1 := sYd_h h.ky q.1 q.2
    have h2 := h.kr.1 c q.1 (by omega)
    omega
  have hR : ∀ w2 : zW, (∀ (cc : Nat) (xx : Int), 73 ≤ cc → cc ≠ 121 → w2 cc xx = w cc xx) → ∃ (d2 : Nat) (Q2 : Option Value → zS → zW → Prop), d2 ≤ 15 ∧ zSp l mX12_band false d2 0 0 [zR 73, zI c, zI co, zI y, zI p, zI r] (ZZ t dr tx) w2 Q2 zNo ∧ ∀ v2 S2 w3, Q2 v2 S2 w3 → S2 = ZZ t dr tx ∧ ((¬ (0 ≤ c ∧ c < w t 5) ∧ v2 = some (zI 0) ∧ w3 = up w2 73 1 1) ∨ ((0 ≤ c ∧ c < w t 5) ∧ (((0 ≤ co ∧ co < w (t + 1) c) ∧ (0 ≤ y ∧ y ≤ 300) ∧ (1 ≤ p ∧ p ≤ 9999) ∧ 0 ≤ r ∧ r ≤ 999) ∧ w 59 c < 8) ∧ v2 = some (zI (w 59 c + 1)) ∧ w3 = up (up (up (up (up (up w2 73 1 0) 106 (4 * (8 * c + w 59 c)) co) 106 (4 * (8 * c + w 59 c) + 1) y) 106 (4 * (8 * c + w 59 c) + 2) p) 106 (4 * (8 * c + w 59 c) + 3) r) 105 c (w 59 c + 1)) ∨ ((0 ≤ c ∧ c < w t 5) ∧ ¬ (((0 ≤ co ∧ co < w (t + 1) c) ∧ (0 ≤ y ∧ y ≤ 300) ∧ (1 ≤ p ∧ p ≤ 9999) ∧ 0 ≤ r ∧ r ≤ 999) ∧ w 59 c < 8) ∧ v2 = some (zI (-1)) ∧ w3 = up w2 73 1 0)) := fun w2 e => by
    have g73 : w2 73 = w 73 := funext fun x => e 73 x (by decide) (by decide)
    have g75 : w2 75 = w 75 := funext fun x => e 75 x (by decide) (by decide)
    have g79 : w2 79 = w 79 := funext fun x => e 79 x (by decide) (by decide)
    have g105 : w2 105 = w 105 := funext fun x => e 105 x (by decide) (by decide)
    refine ⟨_, _, ?_, m_band (w := w2) hr_c hr_co hr_y hr_p hr_r (by simp only [g75]; omega) (by simp only [g75]; omega) (sIr_m h.kr e) (fun c a b => by rw [g75] at b; rw [g79]; have := sYd_h h.ky a (by omega); omega), fun v2 S2 w3 hq => ?_⟩
    · decide
    simp only [g75, g79, g105, n0] at hq
    refine ⟨hq.1, ?_⟩
    by_cases hA : 0 ≤ c ∧ c < w t 5
    · obtain ⟨m1, m2, -⟩ := hm hA
      rw [m1, m2] at hq
      exact hq.2
    · rcases hq.2 with g | g | g
      · exact Or.inl g
      · exact absurd g.1 hA
      · exact absurd g.1 hA
  refine ⟨_, _, _, _, _, ⟨by decide, by decide, by decide⟩, s_band (w := w) ht (by omega) h.kr.2.1 (fun c a b => by have := h.kr.1 c a b; omega) (fun c a b => (sYd_h h.ky a b).2) hr_c hr_co hr_y hr_p hr_r, fun v S w1 hq w2 e => ?_, fun E S w1 hx => ?_⟩
  · obtain ⟨hA, rfl, ⟨hC, rfl, rfl⟩ | ⟨hC, rfl, rfl⟩⟩ := hq
    · obtain ⟨d2, Q2, hd, hsp, hk⟩ := hR w2 (fun cc xx a b => by rw [e cc xx b, up_n (by omega), up_n (by omega), up_n (by omega), up_n (by omega), up_n (by omega)])
      refine ⟨⟨_, _, _, rfl⟩, ⟨_, rfl⟩, d2, Q2, hd, hsp, fun v2 S2 w3 hq2 => ?_⟩
      obtain ⟨rfl, ⟨g, -⟩ | ⟨-, -, rfl, hw3⟩ | ⟨-, g, -⟩⟩ := hk v2 S2 w3 hq2
      · exact absurd hA g
      · have q : ∀ (cc : Nat) (xx : Int), w3 cc xx = up (up (up (up (up (up w2 73 1 0) 106 (4 * (8 * c + w 59 c)) co) 106 (4 * (8 * c + w 59 c) + 1) y) 106 (4 * (8 * c + w 59 c) + 2) p) 106 (4 * (8 * c + w 59 c) + 3) r) 105 c (w 59 c + 1) cc xx := fun cc xx => by rw [hw3]
        have ek : ∀ (cc : Nat) (xx : Int), sFp t cc xx → ¬ (cc = 55 ∨ cc = 56 ∨ cc = 57 ∨ cc = 58 ∨ cc = 59 ∨ cc = 60 ∨ cc = 105 ∨ cc = 106 ∨ cc = 107) → w3 cc xx = w cc xx := fun cc xx hs hn => by
          obtain ⟨q1, -, -, q2⟩ := sFp_n ht hs
          rw [q, up_n (by omega), up_n (by omega), up_n (by omega), up_n (by omega), up_n (by omega), up_n (by omega), e cc xx (by omega), up_n (by omega), up_n (by omega), up_n (by omega), up_n (by omega), up_n (by omega)]
        have f107 : ∀ x : Int, w3 107 x = w 107 x := fun x => by rw [q]; simp [up, e]
        have f60 : ∀ x : Int, w3 60 x = w 60 x := fun x => by rw [q]; simp [up, e]
        have f59 : ∀ x : Int, w3 59 x = if x = c then w 59 c + 1 else w 59 x := fun x => by rw [q]; simp [up, e]
        have f105 : ∀ x : Int, w3 105 x = if x = c then w 59 c + 1 else w 105 x := fun x => by rw [q]; simp [up, e]
        have f55 : ∀ x : Int, w3 55 x = if x = c * 8 + w 59 c then co else w 55 x := fun x => by rw [q]; simp [up, e]
        have f56 : ∀ x : Int, w3 56 x = if x = c * 8 + w 59 c then y else w 56 x := fun x => by rw [q]; simp [up, e]
        have f57 : ∀ x : Int, w3 57 x = if x = c * 8 + w 59 c then p else w 57 x := fun x => by rw [q]; simp [up, e]
        have f58 : ∀ x : Int, w3 58 x = if x = c * 8 + w 59 c then r else w 58 x := fun x => by rw [q]; simp [up, e]
        have f106 : ∀ x : Int, w3 106 x = if x = 4 * (8 * c + w 59 c) + 3 then r else if x = 4 * (8 * c + w 59 c) + 2 then p else if x = 4 * (8 * c + w 59 c) + 1 then y else if x = 4 * (8 * c + w 59 c) then co else w 106 x := fun x => by rw [q]; simp [up, e]
        refine ⟨rfl, by rw [q]; simp [up], by rw [q]; simp [up], t, dr, tx, rfl, zSim_uIr h ek ?_⟩
        have j107 : w3 107 = w 107 := funext f107
        have j60 : w3 60 = w 60 := funext f60
        obtain ⟨u1, u2, u3⟩ := h.kr
        have hcc := sYd_h h.ky hA.1 hA.2
        have hmm := (hm hA).2
        refine ⟨fun c' a b => ?_, fun k a b => ?_, fun k a b => ?_⟩
        · have := u1 c' a b
          rw [f105, f59, j107, j60]
          by_cases q8 : c' = c
          · rw [if_pos q8, if_pos q8]; omega
          · rw [if_neg q8, if_neg q8]; omega
        · have := u2 k a b
          rw [f55, f56, f57, f58]
          by_cases q8 : k = c * 8 + w 59 c
          · rw [if_pos q8, if_pos q8, if_pos q8, if_pos q8]; omega
          · rw [if_neg q8, if_neg q8, if_neg q8, if_neg q8]; exact this
        · have := u3 k a b
          rw [f55, f56, f57, f58, f106, f106, f106, f106]
          by_cases q8 : k = c * 8 + w 59 c
          · rw [if_pos q8, if_pos q8, if_pos q8, if_pos q8, if_neg (by omega), if_neg (by omega), if_neg (by omega), if_pos (by omega), if_neg (by omega), if_neg (by omega), if_pos (by omega), if_neg (by omega), if_pos (by omega), if_pos (by omega)]
            exact ⟨rfl, rfl, rfl, rfl⟩
          · rw [if_neg q8, if_neg q8, if_neg q8, if_neg q8, if_neg (by omega), if_neg (by omega), if_neg (by omega), if_neg (by omega), if_neg (by omega), if_neg (by omega), if_neg (by omega), if_neg (by omega), if_neg (by omega), if_neg (by omega), if_neg (by omega), if_neg (by omega), if_neg (by omega), if_neg (by omega), if_neg (by omega), if_neg (by omega)]
            exact this
      · exact absurd hC g
    · obtain ⟨d2, Q2, hd, hsp, hk⟩ := hR w2 (fun cc xx a b => e cc xx b)
      refine ⟨⟨_, _, _, rfl⟩, ⟨_, rfl⟩, d2, Q2, hd, hsp, fun v2 S2 w3 hq2 => ?_⟩
      obtain ⟨rfl, ⟨g, -⟩ | ⟨-, g, -⟩ | ⟨-, -, rfl, rfl⟩⟩ := hk v2 S2 w3 hq2
      · exact absurd hA g
      · exact absurd g hC
      · refine ⟨rfl, up_same _ _ _ _, up_n (Or.inl (by decide)), t, dr, tx, rfl, zSim_k h (fun cc xx hs => ?_)⟩
        obtain ⟨q1, -, -, q2⟩ := sFp_n ht hs
        rw [up_n (by omega), e cc xx (by omega)]
  · obtain ⟨⟨rfl, hN⟩ | ⟨-, hN⟩, rfl, rfl⟩ := hx
    · obtain ⟨d2, Q2, hd, hsp, hk⟩ := hR w1 (fun _ _ _ _ => rfl)
      refine ⟨1, Or.inl ⟨rfl, rfl, by decide⟩, ⟨_, _, _, rfl⟩, d2, Q2, hd, hsp, fun v2 S2 w3 hq2 => ?_⟩
      obtain ⟨rfl, ⟨-, rfl, rfl⟩ | ⟨g, -⟩ | ⟨g, -⟩⟩ := hk v2 S2 w3 hq2
      · refine ⟨⟨_, rfl⟩, up_same _ _ _ _, t, dr, tx, rfl, zSim_k h (fun cc xx hs => ?_)⟩
        obtain ⟨q1, -, -, q2⟩ := sFp_n ht hs
        rw [up_n (by omega)]
      · exact absurd g hN
      · exact absurd g hN
    · exact hN.elim
