/-! calls that answer yes or no, on both sides -/
set_option maxRecDepth 100000 in
set_option maxHeartbeats 4000000 in
theorem P_plumb {l : Launch} {N0 t dr tx : Nat} {w : zW} (h : zSim N0 t dr tx w) {c y m : Int} (hr_c : inR c) (hr_y : inR y) (hr_m : inR m) : zPr l N0 mX11_plumb mX12_plumb 1 0 false [zI c, zI y, zI m] t dr tx w := by
  obtain ⟨⟨n0, n1, n2, n3⟩, n4, n5, n6, n7⟩ := sYd_n h.ky
  have ht : t = 4 ∨ t = 10 := by have := h.ht; omega
  have hpl := sPlan_n h.kp
  have hor := sOr_n h.ko
  have hcl := sClm_n h.kl
  have htr := sTr_n h.kT
  have hge := h.kg.2.1
  have hge2 := h.kg.1
  have htp := h.ka.1
  have htp2 := h.ka.2.1
  have hfl := h.kf.1
  refine zPr_b (A' := (¬ (0 ≤ c ∧ c < w 75 0))) (C' := (((0 ≤ y ∧ y ≤ 300) ∧ (-3000 ≤ m ∧ m ≤ 3000)) ∧ w 89 c < 10)) (W2 := fun w2 => up (up (up (up w2 73 1 0) 91 (10 * c + w 89 c) y) 92 (10 * c + w 89 c) m) 89 c (w 89 c + 1)) h ⟨by decide, by decide, by decide⟩ (s_plumb (w := w) ht (by omega) hr_c hr_y hr_m (fun c a b => (h.kb.2.2 c a b).1)) (fun E S w1 hx => hx) (fun c x hc => by rw [up_n (by omega), up_n (by omega), up_n (by omega)]) (fun w2 e => ?_) (fun hA => by first | exact id | omega) (fun hA => by have := (h.kb.1 c hA.1 (by omega)).1; omega) (fun hn => by first | exact hn.elim | exact ⟨by omega, rfl⟩) (fun hA hC w2 e w3 hw => ?_)
  · have g75 : w2 75 = w 75 := funext fun x => e 75 x (by decide) (by decide)
    have g89 : w2 89 = w 89 := funext fun x => e 89 x (by decide) (by decide)
    refine ⟨_, _, ?_, m_plumb (w := w2) hr_c hr_y hr_m (fun c a b => by rw [g89]; have := h.kb.1 c a b; have := h.kb.2.2 c a b; omega) (by simp only [g75, g89]; omega) (by simp only [g75, g89]; omega), fun v2 S2 w3 hq => ?_⟩
    · decide
    simp only [g75, g89] at hq
    exact hq
  · have q : ∀ (cc : Nat) (xx : Int), w3 cc xx = (up (up (up (up w2 73 1 0) 91 (10 * c + w 89 c) y) 92 (10 * c + w 89 c) m) 89 c (w 89 c + 1)) cc xx := fun cc xx => by rw [hw]
    have ek : ∀ (cc : Nat) (xx : Int), sFp t cc xx → ¬ (cc = 30 ∨ cc = 31 ∨ cc = 32 ∨ cc = 33 ∨ cc = 89 ∨ cc = 90 ∨ cc = 91 ∨ cc = 92) → w3 cc xx = w cc xx := fun cc xx hs hn => by
      obtain ⟨q1, -, -, q2⟩ := sFp_n ht hs
      rw [q, up_n (by omega), up_n (by omega), up_n (by omega), up_n (by omega), e cc xx (by omega), up_n (by omega), up_n (by omega), up_n (by omega)]
    have f89 : ∀ x : Int, w3 89 x = if x = c then w 89 c + 1 else w 89 x := fun x => by rw [q]; simp [up, e]
    have f32 : ∀ x : Int, w3 32 x = if x = c then w 32 c + 1 else w 32 x := fun x => by rw [q]; simp [up, e]
    have f90 : ∀ x : Int, w3 90 x = w 90 x := fun x => by rw [q]; simp [up, e]
    have f33 : ∀ x : Int, w3 33 x = w 33 x := fun x => by rw [q]; simp [up, e]
    have f91 : ∀ x : Int, w3 91 x = if x = 10 * c + w 89 c then y else w 91 x := fun x => by rw [q]; simp [up, e]
    have f92 : ∀ x : Int, w3 92 x = if x = 10 * c + w 89 c then m else w 92 x := fun x => by rw [q]; simp [up, e]
    have f30 : ∀ x : Int, w3 30 x = if x = c * 10 + w 32 c then y else w 30 x := fun x => by rw [q]; simp [up, e]
    have f31 : ∀ x : Int, w3 31 x = if x = c * 10 + w 32 c then m else w 31 x := fun x => by rw [q]; simp [up, e]
    refine ⟨by rw [q]; simp [up], by rw [q]; simp [up], zSim_uPb h ek ?_⟩
    obtain ⟨h1, h2, h3⟩ := h.kb
    have hm := h1 c hA.1 (by omega)
    have hm3 := h3 c hA.1 (by omega)
    refine ⟨fun c' a b => ?_, fun x => ?_, fun c' a b => ?_⟩
    · have := h1 c' a b
      rw [f89, f32, f90, f33]; omega
    · have := h2 x
      rw [f91, f92, f30, f31]; omega
    · obtain ⟨k1, k2, k3⟩ := h3 c' a b
      rw [f32, f33]
      refine ⟨by omega, by omega, fun k k0 k9 => ?_⟩
      rw [f30, f31]
      by_cases k8 : k < w 32 c'
      · have := k3 k k0 k8
        omega
      · by_cases e8 : c' = c
        · subst e8
          rw [if_pos rfl] at k9
          rw [if_pos (by omega), if_pos (by omega)]; omega
        · rw [if_neg e8] at k9; omega
set_option maxRecDepth 100000 in
set_option maxHeartbeats 4000000 in
theorem P_doubt {l : Launch} {N0 t dr tx : Nat} {w : zW} (h : zSim N0 t dr tx w) {c m : Int} (hr_c : inR c) (hr_m : inR m) : zPr l N0 mX11_doubt mX12_doubt 1 0 false [zI c, zI m] t dr tx w := by
  obtain ⟨⟨n0, n1, n2, n3⟩, n4, n5, n6, n7⟩ := sYd_n h.ky
  have ht : t = 4 ∨ t = 10 := by have := h.ht; omega
  have hpl := sPlan_n h.kp
  have hor := sOr_n h.ko
  have hcl := sClm_n h.kl
  have htr := sTr_n h.kT
  have hge := h.kg.2.1
  have hge2 := h.kg.1
  have htp := h.ka.1
  have htp2 := h.ka.2.1
  have hfl := h.kf.1
  refine zPr_b (A' := (¬ (0 ≤ c ∧ c < w 75 0))) (C' := (0 ≤ m ∧ m ≤ 500)) (W2 := fun w2 => up (up w2 73 1 0) 90 c m) h ⟨by decide, by decide, by decide⟩ (s_doubt (w := w) ht (by omega) hr_c hr_m) (fun E S w1 hx => hx) (fun c x hc => by rw [up_n (by omega)]) (fun w2 e => ?_) (fun hA => by first | exact id | omega) (fun hA => by first | exact Iff.rfl | omega) (fun hn => by first | exact hn.elim | exact ⟨by omega, rfl⟩) (fun hA hC w2 e w3 hw => ?_)
  · have g75 : w2 75 = w 75 := funext fun x => e 75 x (by decide) (by decide)
    refine ⟨_, _, ?_, m_doubt (w := w2) hr_c hr_m (by simp only [g75]; omega) (by simp only [g75]; omega), fun v2 S2 w3 hq => ?_⟩
    · decide
    simp only [g75] at hq
    exact hq
  · have q : ∀ (cc : Nat) (xx : Int), w3 cc xx = (up (up w2 73 1 0) 90 c m) cc xx := fun cc xx => by rw [hw]
    have ek : ∀ (cc : Nat) (xx : Int), sFp t cc xx → ¬ (cc = 30 ∨ cc = 31 ∨ cc = 32 ∨ cc = 33 ∨ cc = 89 ∨ cc = 90 ∨ cc = 91 ∨ cc = 92) → w3 cc xx = w cc xx := fun cc xx hs hn => by
      obtain ⟨q1, -, -, q2⟩ := sFp_n ht hs
      rw [q, up_n (by omega), up_n (by omega), e cc xx (by omega), up_n (by omega)]
    have f89 : ∀ x : Int, w3 89 x = w 89 x := fun x => by rw [q]; simp [up, e]
    have f32 : ∀ x : Int, w3 32 x = w 32 x := fun x => by rw [q]; simp [up, e]
    have f90 : ∀ x : Int, w3 90 x = if x = c then m else w 90 x := fun x => by rw [q]; simp [up, e]
    have f33 : ∀ x : Int, w3 33 x = if x = c then m else w 33 x := fun x => by rw [q]; simp [up, e]
    have f91 : ∀ x : Int, w3 91 x = w 91 x := fun x => by rw [q]; simp [up, e]
    have f92 : ∀ x : Int, w3 92 x = w 92 x := fun x => by rw [q]; simp [up, e]
    have f30 : ∀ x : Int, w3 30 x = w 30 x := fun x => by rw [q]; simp [up, e]
    have f31 : ∀ x : Int, w3 31 x = w 31 x := fun x => by rw [q]; simp [up, e]
    refine ⟨by rw [q]; simp [up], by rw [q]; simp [up], zSim_uPb h ek ?_⟩
    obtain ⟨h1, h2, h3⟩ := h.kb
    have hm := h1 c hA.1 (by omega)
    have hm3 := h3 c hA.1 (by omega)
    refine ⟨fun c' a b => ?_, fun x => ?_, fun c' a b => ?_⟩
    · have := h1 c' a b
      rw [f89, f32, f90, f33]; omega
    · have := h2 x
      rw [f91, f92, f30, f31]; omega
    · obtain ⟨k1, k2, k3⟩ := h3 c' a b
      rw [f32, f33]
      refine ⟨by omega, by omega, fun k k0 k9 => ?_⟩
      rw [f30, f31]
      by_cases k8 : k < w 32 c'
      · have := k3 k k0 k8
        omega
      · omega
set_option maxRecDepth 100000 in
set_option maxHeartbeats 4000000 in
theorem P_rule {l : Launch} {N0 t dr tx : Nat} {w : zW} (h : zSim N0 t dr tx w) {m : Int} (hr_m : inR m) : zPr l N0 mX11_rule mX12_rule 0 0 false [zI m] t dr tx w := by
  obtain ⟨⟨n0, n1, n2, n3⟩, n4, n5, n6, n7⟩ := sYd_n h.ky
  have ht : t = 4 ∨ t = 10 := by have := h.ht; omega
  have hpl := sPlan_n h.kp
  have hor := sOr_n h.ko
  have hcl := sClm_n h.kl
  have htr := sTr_n h.kT
  have hge := h.kg.2.1
  have hge2 := h.kg.1
  have htp := h.ka.1
  have htp2 := h.ka.2.1
  have hfl := h.kf.1
  refine zPr_b (N1 := False) (A' := (False)) (C' := (0 ≤ m ∧ m ≤ 13)) (W2 := fun w2 => up (up w2 73 1 0) 73 46 m) h ⟨by decide, by decide, by decide⟩ (s_rule (w := w) hr_m) (fun E S w1 hx => hx.elim) (fun c x hc => by rw [up_n (by omega)]) (fun w2 e => ?_) (fun hA => by first | exact id | omega) (fun hA => by first | exact Iff.rfl | omega) (fun hn => by first | exact hn.elim | exact ⟨by omega, rfl⟩) (fun hA hC w2 e w3 hw => ?_)
  · refine ⟨_, _, ?_, m_rule (w := w2) hr_m, fun v2 S2 w3 hq => ?_⟩
    · decide
    exact hq
  · have q : ∀ (cc : Nat) (xx : Int), w3 cc xx = (up (up w2 73 1 0) 73 46 m) cc xx := fun cc xx => by rw [hw]
    have ek : ∀ (cc : Nat) (xx : Int), sFp t cc xx → ¬ ((cc = 44 ∧ xx = 1) ∨ (cc = 44 ∧ xx = 4) ∨ (cc = 44 ∧ xx = 6) ∨ (cc = 73 ∧ xx = 44) ∨ (cc = 73 ∧ xx = 46) ∨ (cc = 73 ∧ xx = 54) ∨ cc = 45 ∨ cc = 46 ∨ cc = 47 ∨ cc = 48 ∨ cc = 95 ∨ cc = 98 ∨ cc = 99 ∨ cc = 100) → w3 cc xx = w cc xx := fun cc xx hs hn => by
      obtain ⟨q1, -, -, q2⟩ := sFp_n ht hs
      rw [q, up_n (by omega), up_n (by omega), e cc xx (by omega), up_n (by omega)]
    have f45 : ∀ x : Int, w3 45 x = w 45 x := fun x => by rw [q]; simp [up, e]
    have f46 : ∀ x : Int, w3 46 x = w 46 x := fun x => by rw [q]; simp [up, e]
    have f47 : ∀ x : Int, w3 47 x = w 47 x := fun x => by rw [q]; simp [up, e]
    have f48 : ∀ x : Int, w3 48 x = w 48 x := fun x => by rw [q]; simp [up, e]
    have f95 : ∀ x : Int, w3 95 x = w 95 x := fun x => by rw [q]; simp [up, e]
    have f98 : ∀ x : Int, w3 98 x = w 98 x := fun x => by rw [q]; simp [up, e]
    have f99 : ∀ x : Int, w3 99 x = w 99 x := fun x => by rw [q]; simp [up, e]
    have f100 : ∀ x : Int, w3 100 x = w 100 x := fun x => by rw [q]; simp [up, e]
    have f44 : ∀ x : Int, w3 44 x = if x = 4 then m else w 44 x := fun x => by rw [q]; simp [up, e]
    have f73 : ∀ x : Int, w3 73 x = if x = 46 then m else if x = 1 then 0 else w 73 x := fun x => by rw [q]; simp [up, e]
    refine ⟨by rw [q]; simp [up], by rw [q]; simp [up], zSim_uClm h ek ?_⟩
    have j45 : w3 45 = w 45 := funext f45
    have j46 : w3 46 = w 46 := funext f46
    have j47 : w3 47 = w 47 := funext f47
    have j48 : w3 48 = w 48 := funext f48
    have j95 : w3 95 = w 95 := funext f95
    have j98 : w3 98 = w 98 := funext f98
    have j99 : w3 99 = w 99 := funext f99
    have j100 : w3 100 = w 100 := funext f100
    have j5 : w3 t 5 = w t 5 := by rw [q, up_n (by omega), up_n (by omega), e t 5 (by omega), up_n (by omega)]
    have hq := sClm_m (Nat.le_succ N0) h.kl
    unfold sClm at hq ⊢
    rw [j45, j46, j47, j48, j95, j98, j99, j100, j5, f44, f44, f44, f73, f73, f73]
    refine ⟨⟨by simpa using hq.1.1, by simp, by simpa using hq.1.2.2⟩, by simpa using hq.2.1, by simpa using hq.2.2⟩
set_option maxRecDepth 100000 in
set_option maxHeartbeats 4000000 in
theorem P_mortar {l : Launch} {N0 t dr tx : Nat} {w : zW} (h : zSim N0 t dr tx w) {c m : Int} (hr_c : inR c) (hr_m : inR m) : zPr l N0 mX11_mortar mX12_mortar 1 0 false [zI c, zI m] t dr tx w := by
  obtain ⟨⟨n0, n1, n2, n3⟩, n4, n5, n6, n7⟩ := sYd_n h.ky
  have ht : t = 4 ∨ t = 10 := by have := h.ht; omega
  have hpl := sPlan_n h.kp
  have hor := sOr_n h.ko
  have hcl := sClm_n h.kl
  have htr := sTr_n h.kT
  have hge := h.kg.2.1
  have hge2 := h.kg.1
  have htp := h.ka.1
  have htp2 := h.ka.2.1
  have hfl := h.kf.1
  refine zPr_b (A' := (¬ (0 ≤ c ∧ c < w 75 0))) (C' := (0 ≤ m ∧ m ≤ 9999)) (W2 := fun w2 => up (up w2 73 1 0) 107 c m) h ⟨by decide, by decide, by decide⟩ (s_mortar (w := w) ht (by omega) hr_c hr_m) (fun E S w1 hx => hx) (fun c x hc => by rw [up_n (by omega)]) (fun w2 e => ?_) (fun hA => by first | exact id | omega) (fun hA => by first | exact Iff.rfl | omega) (fun hn => by first | exact hn.elim | exact ⟨by omega, rfl⟩) (fun hA hC w2 e w3 hw => ?_)
  · have g75 : w2 75 = w 75 := funext fun x => e 75 x (by decide) (by decide)
    refine ⟨_, _, ?_, m_mortar (w := w2) hr_c hr_m (by simp only [g75]; omega) (by simp only [g75]; omega), fun v2 S2 w3 hq => ?_⟩
    · decide
    simp only [g75] at hq
    exact hq
  · have q : ∀ (cc : Nat) (xx : Int), w3 cc xx = (up (up w2 73 1 0) 107 c m) cc xx := fun cc xx => by rw [hw]
    have ek : ∀ (cc : Nat) (xx : Int), sFp t cc xx → ¬ (cc = 55 ∨ cc = 56 ∨ cc = 57 ∨ cc = 58 ∨ cc = 59 ∨ cc = 60 ∨ cc = 105 ∨ cc = 106 ∨ cc = 107) → w3 cc xx = w cc xx := fun cc xx hs hn => by
      obtain ⟨q1, -, -, q2⟩ := sFp_n ht hs
      rw [q, up_n (by omega), up_n (by omega), e cc xx (by omega), up_n (by omega)]
    have f55 : ∀ x : Int, w3 55 x = w 55 x := fun x => by rw [q]; simp [up, e]
    have f56 : ∀ x : Int, w3 56 x = w 56 x := fun x => by rw [q]; simp [up, e]
    have f57 : ∀ x : Int, w3 57 x = w 57 x := fun x => by rw [q]; simp [up, e]
    have f58 : ∀ x : Int, w3 58 x = w 58 x := fun x => by rw [q]; simp [up, e]
    have f59 : ∀ x : Int, w3 59 x = w 59 x := fun x => by rw [q]; simp [up, e]
    have f105 : ∀ x : Int, w3 105 x = w 105 x := fun x => by rw [q]; simp [up, e]
    have f106 : ∀ x : Int, w3 106 x = w 106 x := fun x => by rw [q]; simp [up, e]
    have f60 : ∀ x : Int, w3 60 x = if x = c then m else w 60 x := fun x => by rw [q]; simp [up, e]
    have f107 : ∀ x : Int, w3 107 x = if x = c then m else w 107 x := fun x => by rw [q]; simp [up, e]
    refine ⟨by rw [q]; simp [up], by rw [q]; simp [up], zSim_uIr h ek ?_⟩
    have j55 : w3 55 = w 55 := funext f55
    have j56 : w3 56 = w 56 := funext f56
    have j57 : w3 57 = w 57 := funext f57
    have j58 : w3 58 = w 58 := funext f58
    have j59 : w3 59 = w 59 := funext f59
    have j105 : w3 105 = w 105 := funext f105
    have j106 : w3 106 = w 106 := funext f106
    obtain ⟨h1, h2, h3⟩ := h.kr
    refine ⟨fun c' a b => ?_, ?_, ?_⟩
    · have := h1 c' a b
      rw [j105, j59, f60, f107]; omega
    · unfold okIron
      rw [j55, j56, j57, j58]; exact h2
    · rw [j106, j55, j56, j57, j58]; exact h3
set_option maxRecDepth 100000 in
set_option maxHeartbeats 4000000 in
theorem P_risk {l : Launch} {N0 t dr tx : Nat} {w : zW} (h : zSim N0 t dr tx w) {c m k : Int} (hr_c : inR c) (hr_m : inR m) (hr_k : inR k) : zPr l N0 mX11_risk mX12_risk 1 0 false [zI c, zI m, zI k] t dr tx w := by
  obtain ⟨⟨n0, n1, n2, n3⟩, n4, n5, n6, n7⟩ := sYd_n h.ky
  have ht : t = 4 ∨ t = 10 := by have := h.ht; omega
  have hpl := sPlan_n h.kp
  have hor := sOr_n h.ko
  have hcl := sClm_n h.kl
  have htr := sTr_n h.kT
  have hge := h.kg.2.1
  have hge2 := h.kg.1
  have htp := h.ka.1
  have htp2 := h.ka.2.1
  have hfl := h.kf.1
  refine zPr_b (A' := (¬ (0 ≤ c ∧ c < w 75 0))) (C' := ((0 ≤ m ∧ m ≤ 999) ∧ (1 ≤ k ∧ k ≤ 99))) (W2 := fun w2 => up (up (up w2 73 1 0) 109 c m) 110 c k) h ⟨by decide, by decide, by decide⟩ (s_risk (w := w) ht (by omega) hr_c hr_m hr_k) (fun E S w1 hx => hx) (fun c x hc => by rw [up_n (by omega), up_n (by omega)]) (fun w2 e => ?_) (fun hA => by first | exact id | omega) (fun hA => by first | exact Iff.rfl | omega) (fun hn => by first | exact hn.elim | exact ⟨by omega, rfl⟩) (fun hA hC w2 e w3 hw => ?_)
  · have g75 : w2 75 = w 75 := funext fun x => e 75 x (by decide) (by decide)
    refine ⟨_, _, ?_, m_risk (w := w2) hr_c hr_m hr_k (by simp only [g75]; omega) (by simp only [g75]; omega), fun v2 S2 w3 hq => ?_⟩
    · decide
    simp only [g75] at hq
    exact hq
  · have q : ∀ (cc : Nat) (xx : Int), w3 cc xx = (up (up (up w2 73 1 0) 109 c m) 110 c k) cc xx := fun cc xx => by rw [hw]
    have ek : ∀ (cc : Nat) (xx : Int), sFp t cc xx → ¬ ((cc = 62 ∧ xx = 3) ∨ (cc = 73 ∧ xx = 71) ∨ cc = 63 ∨ cc = 64 ∨ cc = 65 ∨ cc = 109 ∨ cc = 110 ∨ cc = 111) → w3 cc xx = w cc xx := fun cc xx hs hn => by
      obtain ⟨q1, -, -, q2⟩ := sFp_n ht hs
      rw [q, up_n (by omega), up_n (by omega), up_n (by omega), e cc xx (by omega), up_n (by omega), up_n (by omega)]
    have f65 : ∀ x : Int, w3 65 x = w 65 x := fun x => by rw [q]; simp [up, e]
    have f111 : ∀ x : Int, w3 111 x = w 111 x := fun x => by rw [q]; simp [up, e]
    have f62 : ∀ x : Int, w3 62 x = w 62 x := fun x => by rw [q]; simp [up, e]
    have f73 : ∀ x : Int, w3 73 x = if x = 1 then 0 else w 73 x := fun x => by rw [q]; simp [up, e]
    have f63 : ∀ x : Int, w3 63 x = if x = c then m else w 63 x := fun x => by rw [q]; simp [up, e]
    have f109 : ∀ x : Int, w3 109 x = if x = c then m else w 109 x := fun x => by rw [q]; simp [up, e]
    have f64 : ∀ x : Int, w3 64 x = if x = c then k else w 64 x := fun x => by rw [q]; simp [up, e]
    have f110 : ∀ x : Int, w3 110 x = if x = c then k else w 110 x := fun x => by rw [q]; simp [up, e]
    refine ⟨by rw [q]; simp [up], by rw [q]; simp [up], zSim_uOr h ek ?_⟩
    have j65 : w3 65 = w 65 := funext f65
    have j111 : w3 111 = w 111 := funext f111
    have j62 : w3 62 = w 62 := funext f62
    obtain ⟨h1, h2, h3, h4⟩ := h.ko
    refine ⟨fun c' a b => ?_, ?_, ?_, ?_⟩
    · have := h1 c' a b
      rw [f63, f109, f64, f110]; omega
    · rw [f73, j62]; simpa using h2
    · rw [j62]; exact h3
    · rw [j62, j111, j65]; exact h4
set_option maxRecDepth 100000 in
set_option maxHeartbeats 4000000 in
theorem P_means {l : Launch} {N0 t dr tx : Nat} {w : zW} (h : zSim N0 t dr tx w) {o m : Int} (hr_o : inR o) (hr_m : inR m) : zPr l N0 mX11_means mX12_means 1 0 false [zI o, zI m] t dr tx w := by
  obtain ⟨⟨n0, n1, n2, n3⟩, n4, n5, n6, n7⟩ := sYd_n h.ky
  have ht : t = 4 ∨ t = 10 := by have := h.ht; omega
  have hpl := sPlan_n h.kp
  have hor := sOr_n h.ko
  have hcl := sClm_n h.kl
  have htr := sTr_n h.kT
  have hge := h.kg.2.1
  have hge2 := h.kg.1
  have htp := h.ka.1
  have htp2 := h.ka.2.1
  have hfl := h.kf.1
  refine zPr_b (A' := (¬ (0 ≤ o ∧ o < 6))) (C' := (0 ≤ m ∧ m ≤ 9999)) (W2 := fun w2 => up (up w2 73 1 0) 116 o m) h ⟨by decide, by decide, by decide⟩ (s_means (w := w) hr_o hr_m) (fun E S w1 hx => hx) (fun c x hc => by rw [up_n (by omega)]) (fun w2 e => ?_) (fun hA => by first | exact id | omega) (fun hA => by first | exact Iff.rfl | omega) (fun hn => by first | exact hn.elim | exact ⟨by omega, rfl⟩) (fun hA hC w2 e w3 hw => ?_)
  · refine ⟨_, _, ?_, m_means (w := w2) hr_o hr_m, fun v2 S2 w3 hq => ?_⟩
    · decide
    exact hq
  · have q : ∀ (cc : Nat) (xx : Int), w3 cc xx = (up (up w2 73 1 0) 116 o m) cc xx := fun cc xx => by rw [hw]
    have ek : ∀ (cc : Nat) (xx : Int), sFp t cc xx → ¬ (cc = 70 ∨ cc = 71 ∨ cc = 72 ∨ cc = 116 ∨ cc = 117 ∨ cc = 118) → w3 cc xx = w cc xx := fun cc xx hs hn => by
      obtain ⟨q1, -, -, q2⟩ := sFp_n ht hs
      rw [q, up_n (by omega), up_n (by omega), e cc xx (by omega), up_n (by omega)]
    have f72 : ∀ x : Int, w3 72 x = w 72 x := fun x => by rw [q]; simp [up, e]
    have f118 : ∀ x : Int, w3 118 x = w 118 x := fun x => by rw [q]; simp [up, e]
    have f71 : ∀ x : Int, w3 71 x = w 71 x := fun x => by rw [q]; simp [up, e]
    have f117 : ∀ x : Int, w3 117 x = w 117 x := fun x => by rw [q]; simp [up, e]
    have f70 : ∀ x : Int, w3 70 x = if x = o then m else w 70 x := fun x => by rw [q]; simp [up, e]
    have f116 : ∀ x : Int, w3 116 x = if x = o then m else w 116 x := fun x => by rw [q]; simp [up, e]
    refine ⟨by rw [q]; simp [up], by rw [q]; simp [up], zSim_uOw h ek ?_⟩
    have j71 : w3 71 = w 71 := funext f71
    have j117 : w3 117 = w 117 := funext f117
    obtain ⟨h1, h2⟩ := h.kO
    refine ⟨fun c' a b => ?_, fun x a b => ?_⟩
    · have := h1 c' a b
      rw [f116, f70, f118, f72]; omega
    · rw [j117, j71]; exact h2 x a b
set_option maxRecDepth 100000 in
set_option maxHeartbeats 4000000 in
theorem P_part {l : Launch} {N0 t dr tx : Nat} {w : zW} (h : zSim N0 t dr tx w) {c o m : Int} (hr_c : inR c) (hr_o : inR o) (hr_m : inR m) : zPr l N0 mX11_part mX12_part 1 0 false [zI c, zI o, zI m] t dr tx w := by
  obtain ⟨⟨n0, n1, n2, n3⟩, n4, n5, n6, n7⟩ := sYd_n h.ky
  have ht : t = 4 ∨ t = 10 := by have := h.ht; omega
  have hpl := sPlan_n h.kp
  have hor := sOr_n h.ko
  have hcl := sClm_n h.kl
  have htr := sTr_n h.kT
  have hge := h.kg.2.1
  have hge2 := h.kg.1
  have htp := h.ka.1
  have htp2 := h.ka.2.1
  have hfl := h.kf.1
  refine zPr_b (A' := (¬ ((0 ≤ c ∧ c < w 75 0) ∧ 0 ≤ o ∧ o < 6))) (C' := (0 ≤ m ∧ m ≤ 100)) (W2 := fun w2 => up (up w2 73 1 0) 117 (6 * c + o) m) h ⟨by decide, by decide, by decide⟩ (s_part (w := w) ht (by omega) hr_c hr_o hr_m) (fun E S w1 hx => hx) (fun c x hc => by rw [up_n (by omega)]) (fun w2 e => ?_) (fun hA => by first | exact id | omega) (fun hA => by first | exact Iff.rfl | omega) (fun hn => by first | exact hn.elim | exact ⟨by omega, rfl⟩) (fun hA hC w2 e w3 hw => ?_)
  · have g75 : w2 75 = w 75 := funext fun x => e 75 x (by decide) (by decide)
    refine ⟨_, _, ?_, m_part (w := w2) hr_c hr_o hr_m (by simp only [g75]; omega) (by simp only [g75]; omega), fun v2 S2 w3 hq => ?_⟩
    · decide
    simp only [g75] at hq
    exact hq
  · have q : ∀ (cc : Nat) (xx : Int), w3 cc xx = (up (up w2 73 1 0) 117 (6 * c + o) m) cc xx := fun cc xx => by rw [hw]
    have ek : ∀ (cc : Nat) (xx : Int), sFp t cc xx → ¬ (cc = 70 ∨ cc = 71 ∨ cc = 72 ∨ cc = 116 ∨ cc = 117 ∨ cc = 118) → w3 cc xx = w cc xx := fun cc xx hs hn => by
      obtain ⟨q1, -, -, q2⟩ := sFp_n ht hs
      rw [q, up_n (by omega), up_n (by omega), e cc xx (by omega), up_n (by omega)]
    have f72 : ∀ x : Int, w3 72 x = w 72 x := fun x => by rw [q]; simp [up, e]
    have f118 : ∀ x : Int, w3 118 x = w 118 x := fun x => by rw [q]; simp [up, e]
    have f70 : ∀ x : Int, w3 70 x = w 70 x := fun x => by rw [q]; simp [up, e]
    have f116 : ∀ x : Int, w3 116 x = w 116 x := fun x => by rw [q]; simp [up, e]
    have f71 : ∀ x : Int, w3 71 x = if x = c * 6 + o then m else w 71 x := fun x => by rw [q]; simp [up, e]
    have f117 : ∀ x : Int, w3 117 x = if x = 6 * c + o then m else w 117 x := fun x => by rw [q]; simp [up, e]
    refine ⟨by rw [q]; simp [up], by rw [q]; simp [up], zSim_uOw h ek ?_⟩
    have j70 : w3 70 = w 70 := funext f70
    have j116 : w3 116 = w 116 := funext f116
    have j72 : w3 72 = w 72 := funext f72
    have j118 : w3 118 = w 118 := funext f118
    obtain ⟨h1, h2⟩ := h.kO
    refine ⟨?_, fun x a b => ?_⟩
    · rw [j116, j70, j118, j72]; exact h1
    · have := h2 x a b
      rw [f117, f71]; omega
set_option maxRecDepth 100000 in
set_option maxHeartbeats 4000000 in
theorem P_storm {l : Launch} {N0 t dr tx : Nat} {w : zW} (h : zSim N0 t dr tx w) {o m : Int} (hr_o : inR o) (hr_m : inR m) : zPr l N0 mX11_storm mX12_storm 0 0 false [zI o, zI m] t dr tx w := by
  obtain ⟨⟨n0, n1, n2, n3⟩, n4, n5, n6, n7⟩ := sYd_n h.ky
  have ht : t = 4 ∨ t = 10 := by have := h.ht; omega
  have hpl := sPlan_n h.kp
  have hor := sOr_n h.ko
  have hcl := sClm_n h.kl
  have htr := sTr_n h.kT
  have hge := h.kg.2.1
  have hge2 := h.kg.1
  have htp := h.ka.1
  have htp2 := h.ka.2.1
  have hfl := h.kf.1
  refine zPr_b (N1 := False) (A' := (False)) (C' := ((0 ≤ o ∧ o ≤ 29) ∧ (0 ≤ m ∧ m ≤ 100))) (W2 := fun w2 => up (up w2 73 1 0) 120 o m) h ⟨by decide, by decide, by decide⟩ (s_storm (w := w) hr_o hr_m) (fun E S w1 hx => hx.elim) (fun c x hc => by rw [up_n (by omega)]) (fun w2 e => ?_) (fun hA => by first | exact id | omega) (fun hA => by first | exact Iff.rfl | omega) (fun hn => by first | exact hn.elim | exact ⟨by omega, rfl⟩) (fun hA hC w2 e w3 hw => ?_)
  · refine ⟨_, _, ?_, m_storm (w := w2) hr_o hr_m, fun v2 S2 w3 hq => ?_⟩
    · decide
    exact hq
  · have q : ∀ (cc : Nat) (xx : Int), w3 cc xx = (up (up w2 73 1 0) 120 o m) cc xx := fun cc xx => by rw [hw]
    have ek : ∀ (cc : Nat) (xx : Int), sFp t cc xx → ¬ (cc = 28 ∨ cc = 120) → w3 cc xx = w cc xx := fun cc xx hs hn => by
      obtain ⟨q1, -, -, q2⟩ := sFp_n ht hs
      rw [q, up_n (by omega), up_n (by omega), e cc xx (by omega), up_n (by omega)]
    have f28 : ∀ x : Int, w3 28 x = if x = o then m else w 28 x := fun x => by rw [q]; simp [up, e]
    have f120 : ∀ x : Int, w3 120 x = if x = o then m else w 120 x := fun x => by rw [q]; simp [up, e]
    refine ⟨by rw [q]; simp [up], by rw [q]; simp [up], zSim_uStm h ek ?_⟩
    intro o' a b
    have := h.kc o' a b
    rw [f28, f120]; omega
