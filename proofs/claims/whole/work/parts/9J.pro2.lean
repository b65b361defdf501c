/-! reading calls on both sides: lean, limit, sure, weak, lasts, bands, out, odds -/
theorem zLn_G {A B : Prop} {R : Int → Prop} {S : zS} {w : zW} {v : Option Value} {S' : zS} {w' : zW} (h : S' = S ∧ (∀ x y, (x ≠ 73 ∨ (y ≠ 1 ∧ y ≠ 33 ∧ y ≠ 34 ∧ y ≠ 35 ∧ y ≠ 36 ∧ y ≠ 37)) → w' x y = w x y) ∧ ((¬ A ∧ v = some (zI 0) ∧ w' 73 1 = 1) ∨ (A ∧ ¬ B ∧ v = some (zI 0) ∧ w' 73 1 = 2) ∨ (A ∧ B ∧ w' 73 1 = 0 ∧ ∃ a, v = some (zI a) ∧ R a))) : S' = S ∧ zFr w w' ∧ ∃ r, v = some (zI r) ∧ zGq (¬ A) (¬ B) R r (w' 73 1) := by
  obtain ⟨rfl, hf, ⟨h1, rfl, h2⟩ | ⟨h1, h2, rfl, h3⟩ | ⟨h1, h2, h3, a, rfl, h4⟩⟩ := h
  · exact ⟨rfl, fun c x _ _ q => hf c x q, _, rfl, Or.inl ⟨h1, h2⟩⟩
  · exact ⟨rfl, fun c x _ _ q => hf c x q, _, rfl, Or.inr (Or.inl ⟨fun q => q h1, h2, h3⟩)⟩
  · exact ⟨rfl, fun c x _ _ q => hf c x q, _, rfl, Or.inr (Or.inr ⟨fun q => q h1, fun q => q h2, h4, h3⟩)⟩
theorem zLm_G {A : Prop} {R : Int → Prop} {S : zS} {w : zW} {v : Option Value} {S' : zS} {w' : zW} (h : S' = S ∧ (∀ x y, (x ≠ 73 ∨ (y ≠ 1 ∧ y ≠ 33 ∧ y ≠ 34 ∧ y ≠ 35 ∧ y ≠ 36 ∧ y ≠ 37)) → w' x y = w x y) ∧ ((¬ A ∧ v = some (zI 0) ∧ w' 73 1 = 1) ∨ (A ∧ w' 73 1 = 0 ∧ ∃ a, v = some (zI a) ∧ R a))) : S' = S ∧ zFr w w' ∧ ∃ r, v = some (zI r) ∧ zGq (¬ A) False R r (w' 73 1) := by
  obtain ⟨rfl, hf, ⟨h1, rfl, h2⟩ | ⟨h1, h3, a, rfl, h4⟩⟩ := h
  · exact ⟨rfl, fun c x _ _ q => hf c x q, _, rfl, Or.inl ⟨h1, h2⟩⟩
  · exact ⟨rfl, fun c x _ _ q => hf c x q, _, rfl, Or.inr (Or.inr ⟨fun q => q h1, id, h4, h3⟩)⟩
theorem zOn_E {P : Prop} {a : Int} {c0 : Nat} {S : zS} {w : zW} {v : Option Value} {S' : zS} {w' : zW} (hc : c0 = 43 ∨ c0 = 61) (h : P ∧ S' = S ∧ only c0 w w' ∧ v = some (zI a)) : zRq (fun r => P ∧ r = a) S w v S' w' := by
  obtain ⟨h1, rfl, h3, rfl⟩ := h
  exact ⟨⟨_, rfl, h1, rfl⟩, rfl, fun c x a b => h3 c x (by omega)⟩
theorem zOn_Q {P : Prop} {R : Int → Prop} {c0 : Nat} {S : zS} {w : zW} {v : Option Value} {S' : zS} {w' : zW} (hc : c0 = 43 ∨ c0 = 61) (h : P ∧ S' = S ∧ only c0 w w' ∧ ∃ r, v = some (zI r) ∧ R r) : zRq (fun r => P ∧ R r) S w v S' w' := by
  obtain ⟨h1, rfl, h3, r, rfl, h2⟩ := h
  exact ⟨⟨_, rfl, h1, h2⟩, rfl, fun c x a b => h3 c x (by omega)⟩
set_option maxRecDepth 100000 in
set_option maxHeartbeats 4000000 in
theorem P_lean {l : Launch} {N0 t dr tx : Nat} {w : zW} (h : zSim N0 t dr tx w) {c y k : Int} (hr_c : inR c) (hr_y : inR y) (hr_k : inR k) : zPr l N0 mX11_lean mX12_lean 1 2 false [zI c, zI y, zI k] t dr tx w := by
  obtain ⟨⟨n0, n1, n2, n3⟩, n4, n5, n6, n7⟩ := sYd_n h.ky
  have ht : t = 4 ∨ t = 10 := by have := h.ht; omega
  have hpl := sPlan_n h.kp
  have hor := sOr_n h.ko
  have hcl := sClm_n h.kl
  have htr := sTr_n h.kT
  have hge := h.kg.2.1
  have hge2 := h.kg.1
  have htp := h.ka.1
  have htp2 := h.ka.2.1
  have hfl := h.kf.1
  obtain ⟨f30, f31⟩ := sPb_y h.kb c
  have hct : (0 ≤ c ∧ c < w t 5) → w 90 c = w 33 c ∧ w 89 c = w 32 c := fun q => ⟨(h.kb.1 c (by omega) (by omega)).2, (h.kb.1 c (by omega) (by omega)).1⟩
  have hR : ∀ w2 : zW, (∀ (c : Nat) (x : Int), 73 ≤ c → c ≠ 121 → w2 c x = w c x) → ∃ (d2 : Nat) (Q2 : Option Value → zS → zW → Prop), d2 ≤ 15 ∧ zSp l mX12_lean false d2 0 0 [zR 73, zI c, zI y, zI k] (ZZ t dr tx) w2 Q2 zNo ∧ ∀ v2 S2 w3, Q2 v2 S2 w3 → S2 = ZZ t dr tx ∧ zFr w2 w3 ∧ ∃ r, v2 = some (zI r) ∧ zGq (¬ ((0 ≤ c ∧ c < w 75 0) ∧ 0 ≤ k ∧ k ≤ 1)) (¬ ((0 ≤ y ∧ y ≤ 500) ∧ hv (fun k => w 91 (10 * c + k)) (fun k => w 92 (10 * c + k)) (w 90 c) (w 89 c))) (fun a => lnW (fun k => w 91 (10 * c + k)) (fun k => w 92 (10 * c + k)) (w 90 c) (w 89 c) k y a) r (w3 73 1) := fun w2 e => by
    have g73 : w2 73 = w 73 := funext fun x => e 73 x (by decide) (by decide)
    have g75 : w2 75 = w 75 := funext fun x => e 75 x (by decide) (by decide)
    have g89 : w2 89 = w 89 := funext fun x => e 89 x (by decide) (by decide)
    have g90 : w2 90 = w 90 := funext fun x => e 90 x (by decide) (by decide)
    have g91 : w2 91 = w 91 := funext fun x => e 91 x (by decide) (by decide)
    have g92 : w2 92 = w 92 := funext fun x => e 92 x (by decide) (by decide)
    refine ⟨_, _, ?_, m_lean (w := w2) (by simp only [g73, g75, g89, g90, g91, g92]; omega) (by simp only [g73, g75, g89, g90, g91, g92]; omega) (sPb_m h.kb e) hr_c hr_y hr_k, fun v2 S2 w3 hq => ?_⟩
    · decide
    have hq2 := zLn_G hq
    simp only [g73, g75, g89, g90, g91, g92] at hq2
    exact hq2
  refine zPr_ro h ⟨by decide, by decide, by decide⟩ (s_lean (w := w) ht (by omega) h.kb.2.2 hr_c hr_y hr_k) (fun v S w1 hq => zIr_Q hq) (fun E S w1 hx => hx) hR (fun r hr => by
    obtain ⟨⟨⟨hc0, hk0⟩, hy0, hv0⟩, hl0⟩ := hr
    obtain ⟨q1, q2⟩ := hct hc0
    rw [f30, f31, q1, q2]
    exact ⟨by omega, fun q => q ⟨hy0, hv0⟩⟩) (fun r r2 hr hr2 => ?_) (fun hn => by first | exact hn.elim | omega) (fun hn => by
    obtain ⟨hc0, hk0⟩ := hn
    obtain ⟨q1, q2⟩ := hct hc0.1
    refine Or.inr ⟨by omega, fun q => hk0 ?_, rfl⟩
    rw [f30, f31, q1, q2] at q
    exact q)
  obtain ⟨⟨⟨hc0, hk0⟩, hy0, hv0⟩, hl0⟩ := hr
  obtain ⟨q1, q2⟩ := hct hc0
  rw [f30, f31, q1, q2] at hr2
  exact lnW_u hr2 hl0
set_option maxRecDepth 100000 in
set_option maxHeartbeats 4000000 in
theorem P_limit {l : Launch} {N0 t dr tx : Nat} {w : zW} (h : zSim N0 t dr tx w) {c lt k : Int} (hr_c : inR c) (hr_lt : inR lt) (hr_k : inR k) : zPr l N0 mX11_limit mX12_limit 1 0 false [zI c, zI lt, zI k] t dr tx w := by
  obtain ⟨⟨n0, n1, n2, n3⟩, n4, n5, n6, n7⟩ := sYd_n h.ky
  have ht : t = 4 ∨ t = 10 := by have := h.ht; omega
  have hpl := sPlan_n h.kp
  have hor := sOr_n h.ko
  have hcl := sClm_n h.kl
  have htr := sTr_n h.kT
  have hge := h.kg.2.1
  have hge2 := h.kg.1
  have htp := h.ka.1
  have htp2 := h.ka.2.1
  have hfl := h.kf.1
  obtain ⟨f30, f31⟩ := sPb_y h.kb c
  have hct : (0 ≤ c ∧ c < w t 5) → w 90 c = w 33 c ∧ w 89 c = w 32 c := fun q => ⟨(h.kb.1 c (by omega) (by omega)).2, (h.kb.1 c (by omega) (by omega)).1⟩
  have hR : ∀ w2 : zW, (∀ (c : Nat) (x : Int), 73 ≤ c → c ≠ 121 → w2 c x = w c x) → ∃ (d2 : Nat) (Q2 : Option Value → zS → zW → Prop), d2 ≤ 15 ∧ zSp l mX12_limit false d2 0 0 [zR 73, zI c, zI lt, zI k] (ZZ t dr tx) w2 Q2 zNo ∧ ∀ v2 S2 w3, Q2 v2 S2 w3 → S2 = ZZ t dr tx ∧ zFr w2 w3 ∧ ∃ r, v2 = some (zI r) ∧ zGq (¬ ((0 ≤ c ∧ c < w 75 0) ∧ 0 ≤ k ∧ k ≤ 1)) False (fun a => lmR (fun k => w 91 (10 * c + k)) (fun k => w 92 (10 * c + k)) (w 90 c) (w 89 c) k lt a) r (w3 73 1) := fun w2 e => by
    have g73 : w2 73 = w 73 := funext fun x => e 73 x (by decide) (by decide)
    have g75 : w2 75 = w 75 := funext fun x => e 75 x (by decide) (by decide)
    have g89 : w2 89 = w 89 := funext fun x => e 89 x (by decide) (by decide)
    have g90 : w2 90 = w 90 := funext fun x => e 90 x (by decide) (by decide)
    have g91 : w2 91 = w 91 := funext fun x => e 91 x (by decide) (by decide)
    have g92 : w2 92 = w 92 := funext fun x => e 92 x (by decide) (by decide)
    refine ⟨_, _, ?_, m_limit (w := w2) (by simp only [g73, g75, g89, g90, g91, g92]; omega) (by simp only [g73, g75, g89, g90, g91, g92]; omega) (sPb_m h.kb e) hr_c hr_lt hr_k, fun v2 S2 w3 hq => ?_⟩
    · decide
    have hq2 := zLm_G hq
    simp only [g73, g75, g89, g90, g91, g92] at hq2
    exact hq2
  refine zPr_ro h ⟨by decide, by decide, by decide⟩ (s_limit (w := w) ht (by omega) h.kb.2.2 hr_c hr_lt hr_k) (fun v S w1 hq => zIr_Q hq) (fun E S w1 hx => hx) hR (fun r hr => by refine ⟨?_, ?_⟩ <;> first | exact id | omega) (fun r r2 hr hr2 => ?_) (fun hn => by first | exact hn.elim | omega) (fun hn => by first | exact hn.elim | exact Or.inl ⟨by omega, rfl⟩ | omega)
  obtain ⟨⟨hc0, hk0⟩, hl0⟩ := hr
  obtain ⟨q1, q2⟩ := hct hc0
  rw [f30, f31, q1, q2] at hr2
  exact lmR_u hr2 hl0
set_option maxRecDepth 100000 in
set_option maxHeartbeats 4000000 in
theorem P_sure {l : Launch} {N0 t dr tx : Nat} {w : zW} (h : zSim N0 t dr tx w) {k : Int} (hr_k : inR k) : zPr l N0 mX11_sure mX12_sure 1 2 false [zI k] t dr tx w := by
  obtain ⟨⟨n0, n1, n2, n3⟩, n4, n5, n6, n7⟩ := sYd_n h.ky
  have ht : t = 4 ∨ t = 10 := by have := h.ht; omega
  have hpl := sPlan_n h.kp
  have hor := sOr_n h.ko
  have hcl := sClm_n h.kl
  have htr := sTr_n h.kT
  have hge := h.kg.2.1
  have hge2 := h.kg.1
  have htp := h.ka.1
  have htp2 := h.ka.2.1
  have hfl := h.kf.1
  have hR : ∀ w2 : zW, (∀ (c : Nat) (x : Int), 73 ≤ c → c ≠ 121 → w2 c x = w c x) → ∃ (d2 : Nat) (Q2 : Option Value → zS → zW → Prop), d2 ≤ 15 ∧ zSp l mX12_sure false d2 0 0 [zR 73, zI k] (ZZ t dr tx) w2 Q2 zNo ∧ ∀ v2 S2 w3, Q2 v2 S2 w3 → S2 = ZZ t dr tx ∧ zFr w2 w3 ∧ ∃ r, v2 = some (zI r) ∧ zGq (¬ (0 ≤ k ∧ k < 3)) (w 73 39 = 0) (fun r => (k = 2 → r = ixF (mF w) ((2 ^ (w 73 39).toNat : Nat) : Int)) ∧ (k ≠ 2 → isSure (mF w) ((2 ^ (w 73 39).toNat : Nat) : Int) (w 73 39) k r)) r (w3 73 1) := fun w2 e => by
    have g73 : w2 73 = w 73 := funext fun x => e 73 x (by decide) (by decide)
    have g93 : w2 93 = w 93 := funext fun x => e 93 x (by decide) (by decide)
    have hmf := mF_c e
    refine ⟨_, _, ?_, m_sure (w := w2) hr_k (by simp only [g73, g93, hmf]; omega) (fun c a => by rw [g93]; exact h.kT.2.2 c a), fun v2 S2 w3 hq => ?_⟩
    · decide
    have hq2 := zMr_G hq
    simp only [g73, g93, hmf] at hq2
    exact hq2
  refine zPr_ro h ⟨by decide, by decide, by decide⟩ (s_sure2 (w := w) hr_k (fun q => ⟨(sTr_t h.kT q).2.1, (sTr_t h.kT q).2.2.2.2.2.2.1⟩)) (fun v S w1 hq => zIr_Q hq) (fun E S w1 hx => hx) hR (fun r hr => by refine ⟨?_, ?_⟩ <;> first | exact id | omega) (fun r r2 hr hr2 => ?_) (fun hn => by first | exact hn.elim | omega) (fun hn => by first | exact hn.elim | exact Or.inl ⟨by omega, rfl⟩ | omega)
  obtain ⟨⟨hk0, hx8⟩, q1, q2⟩ := hr
  by_cases k2 : k = 2
  · rw [hr2.1 k2, q1 k2]
    obtain ⟨-, -, -, e39, -, -, hlok, -⟩ := sTr_t h.kT hx8
    rw [e39]; exact hlok.1.symm
  · have a1 := hr2.2 k2
    have a2 := q2 k2
    obtain ⟨-, g4, -, e39, -⟩ := sTr_t h.kT hx8
    rw [e39] at a1
    exact isSure_u (by omega) a1 a2
set_option maxRecDepth 100000 in
set_option maxHeartbeats 4000000 in
theorem P_weak {l : Launch} {N0 t dr tx : Nat} {w : zW} (h : zSim N0 t dr tx w) {c y v k : Int} (hr_c : inR c) (hr_y : inR y) (hr_v : inR v) (hr_k : inR k) : zPr l N0 mX11_weak mX12_weak 1 2 false [zI c, zI y, zI v, zI k] t dr tx w := by
  obtain ⟨⟨n0, n1, n2, n3⟩, n4, n5, n6, n7⟩ := sYd_n h.ky
  have ht : t = 4 ∨ t = 10 := by have := h.ht; omega
  have hpl := sPlan_n h.kp
  have hor := sOr_n h.ko
  have hcl := sClm_n h.kl
  have htr := sTr_n h.kT
  have hge := h.kg.2.1
  have hge2 := h.kg.1
  have htp := h.ka.1
  have htp2 := h.ka.2.1
  have hfl := h.kf.1
  have hwf : ∀ y v : Int, (0 ≤ c ∧ c < w t 5) → cWf w c (w (t + 1) c) y v = fun s => mWant w c y v s := fun y v q => sIr_w h.kr q.1 (by omega) (sYd_h h.ky q.1 q.2).1 y v
  have h79 : (0 ≤ c ∧ c < w t 5) → w 79 c = w (t + 1) c := fun q => (sYd_h h.ky q.1 q.2).1
  have hR : ∀ w2 : zW, (∀ (c : Nat) (x : Int), 73 ≤ c → c ≠ 121 → w2 c x = w c x) → ∃ (d2 : Nat) (Q2 : Option Value → zS → zW → Prop), d2 ≤ 15 ∧ zSp l mX12_weak false d2 0 0 [zR 73, zI c, zI y, zI v, zI k] (ZZ t dr tx) w2 Q2 zNo ∧ ∀ v2 S2 w3, Q2 v2 S2 w3 → S2 = ZZ t dr tx ∧ zFr w2 w3 ∧ ∃ r, v2 = some (zI r) ∧ zGq (¬ ((0 ≤ c ∧ c < w 75 0) ∧ 0 ≤ k ∧ k < 3)) (¬ ((0 ≤ y ∧ y ≤ 500) ∧ (0 ≤ v ∧ v ≤ 13))) (wkR k (mWant w c y v) (w 79 c)) r (w3 73 1) := fun w2 e => by
    have g73 : w2 73 = w 73 := funext fun x => e 73 x (by decide) (by decide)
    have g75 : w2 75 = w 75 := funext fun x => e 75 x (by decide) (by decide)
    have g79 : w2 79 = w 79 := funext fun x => e 79 x (by decide) (by decide)
    have hmw := mWant_c e
    refine ⟨_, _, ?_, m_weak (w := w2) hr_c hr_y hr_v hr_k (by simp only [g73, g75, g79, hmw]; omega) (by simp only [g73, g75, g79, hmw]; omega) (sIr_m h.kr e) (fun c a b => by rw [g75] at b; rw [g79]; have := sYd_h h.ky a (by omega); omega), fun v2 S2 w3 hq => ?_⟩
    · decide
    have hq2 := zM3_G hq
    simp only [g73, g75, g79, hmw] at hq2
    exact hq2
  refine zPr_ro h ⟨by decide, by decide, by decide⟩ (s_weak (w := w) ht (by omega) h.kr.2.1 (fun c a b => by have := h.kr.1 c a b; omega) (fun c a b => (sYd_h h.ky a b).2) hr_c hr_y hr_v hr_k) (fun v S w1 hq => zOn_Q (Or.inr rfl) hq) (fun E S w1 hx => hx) hR (fun r hr => by refine ⟨?_, ?_⟩ <;> first | exact id | omega) (fun r r2 hr hr2 => ?_) (fun hn => by first | exact hn.elim | omega) (fun hn => by first | exact hn.elim | exact Or.inl ⟨by omega, rfl⟩ | omega)
  obtain ⟨⟨hc0, hk0, -⟩, q0, q1, q2⟩ := hr
  rw [hwf y v hc0] at q0 q1 q2
  rw [h79 hc0] at hr2
  obtain ⟨r0, r1, r3⟩ := hr2
  by_cases k0 : k = 0
  · rw [q0 k0, r0 k0]
  · by_cases k1 : k = 1
    · exact isLeast_u (r1 k1) (q1 k1)
    · rw [q2 (by omega), r3 (by omega)]
set_option maxRecDepth 100000 in
set_option maxHeartbeats 4000000 in
theorem P_lasts {l : Launch} {N0 t dr tx : Nat} {w : zW} (h : zSim N0 t dr tx w) {c y v : Int} (hr_c : inR c) (hr_y : inR y) (hr_v : inR v) : zPr l N0 mX11_lasts mX12_lasts 1 2 false [zI c, zI y, zI v] t dr tx w := by
  obtain ⟨⟨n0, n1, n2, n3⟩, n4, n5, n6, n7⟩ := sYd_n h.ky
  have ht : t = 4 ∨ t = 10 := by have := h.ht; omega
  have hpl := sPlan_n h.kp
  have hor := sOr_n h.ko
  have hcl := sClm_n h.kl
  have htr := sTr_n h.kT
  have hge := h.kg.2.1
  have hge2 := h.kg.1
  have htp := h.ka.1
  have htp2 := h.ka.2.1
  have hfl := h.kf.1
  have hwf : ∀ y v : Int, (0 ≤ c ∧ c < w t 5) → cWf w c (w (t + 1) c) y v = fun s => mWant w c y v s := fun y v q => sIr_w h.kr q.1 (by omega) (sYd_h h.ky q.1 q.2).1 y v
  have h79 : (0 ≤ c ∧ c < w t 5) → w 79 c = w (t + 1) c := fun q => (sYd_h h.ky q.1 q.2).1
  have hwf2 : (0 ≤ c ∧ c < w t 5) → (fun z => cWf w c (w (t + 1) c) z v) = (fun z => mWant w c z v) := fun q => funext fun z => hwf z v q
  have hR : ∀ w2 : zW, (∀ (c : Nat) (x : Int), 73 ≤ c → c ≠ 121 → w2 c x = w c x) → ∃ (d2 : Nat) (Q2 : Option Value → zS → zW → Prop), d2 ≤ 15 ∧ zSp l mX12_lasts false d2 0 0 [zR 73, zI c, zI y, zI v] (ZZ t dr tx) w2 Q2 zNo ∧ ∀ v2 S2 w3, Q2 v2 S2 w3 → S2 = ZZ t dr tx ∧ zFr w2 w3 ∧ ∃ r, v2 = some (zI r) ∧ zGq (¬ (0 ≤ c ∧ c < w 75 0)) (¬ ((0 ≤ y ∧ y ≤ 500) ∧ (0 ≤ v ∧ v ≤ 13))) (isFst (laP (fun z => mWant w c z v) (w 79 c) y) y) r (w3 73 1) := fun w2 e => by
    have g73 : w2 73 = w 73 := funext fun x => e 73 x (by decide) (by decide)
    have g75 : w2 75 = w 75 := funext fun x => e 75 x (by decide) (by decide)
    have g79 : w2 79 = w 79 := funext fun x => e 79 x (by decide) (by decide)
    have hmw := mWant_c e
    refine ⟨_, _, ?_, m_lasts (w := w2) hr_c hr_y hr_v (by simp only [g73, g75, g79, hmw]; omega) (by simp only [g73, g75, g79, hmw]; omega) (sIr_m h.kr e) (fun c a b => by rw [g75] at b; rw [g79]; have := sYd_h h.ky a (by omega); omega), fun v2 S2 w3 hq => ?_⟩
    · decide
    have hq2 := zM3_G hq
    simp only [g73, g75, g79, hmw] at hq2
    exact hq2
  refine zPr_ro h ⟨by decide, by decide, by decide⟩ (s_lasts (w := w) ht (by omega) h.kr.2.1 (fun c a b => by have := h.kr.1 c a b; omega) (fun c a b => (sYd_h h.ky a b).2) hr_c hr_y hr_v) (fun v S w1 hq => zOn_Q (Or.inr rfl) hq) (fun E S w1 hx => hx) hR (fun r hr => by refine ⟨?_, ?_⟩ <;> first | exact id | omega) (fun r r2 hr hr2 => ?_) (fun hn => by first | exact hn.elim | omega) (fun hn => by first | exact hn.elim | exact Or.inl ⟨by omega, rfl⟩ | omega)
  obtain ⟨⟨hc0, -⟩, q0⟩ := hr
  rw [hwf2 hc0] at q0
  rw [h79 hc0] at hr2
  exact isFst_u hr2 q0
set_option maxRecDepth 100000 in
set_option maxHeartbeats 4000000 in
theorem P_bands {l : Launch} {N0 t dr tx : Nat} {w : zW} (h : zSim N0 t dr tx w) {c y v p : Int} (hr_c : inR c) (hr_y : inR y) (hr_v : inR v) (hr_p : inR p) : zPr l N0 mX11_bands mX12_bands 1 2 false [zI c, zI y, zI v, zI p] t dr tx w := by
  obtain ⟨⟨n0, n1, n2, n3⟩, n4, n5, n6, n7⟩ := sYd_n h.ky
  have ht : t = 4 ∨ t = 10 := by have := h.ht; omega
  have hpl := sPlan_n h.kp
  have hor := sOr_n h.ko
  have hcl := sClm_n h.kl
  have htr := sTr_n h.kT
  have hge := h.kg.2.1
  have hge2 := h.kg.1
  have htp := h.ka.1
  have htp2 := h.ka.2.1
  have hfl := h.kf.1
  have hwf : ∀ y v : Int, (0 ≤ c ∧ c < w t 5) → cWf w c (w (t + 1) c) y v = fun s => mWant w c y v s := fun y v q => sIr_w h.kr q.1 (by omega) (sYd_h h.ky q.1 q.2).1 y v
  have h79 : (0 ≤ c ∧ c < w t 5) → w 79 c = w (t + 1) c := fun q => (sYd_h h.ky q.1 q.2).1
  have hR : ∀ w2 : zW, (∀ (c : Nat) (x : Int), 73 ≤ c → c ≠ 121 → w2 c x = w c x) → ∃ (d2 : Nat) (Q2 : Option Value → zS → zW → Prop), d2 ≤ 15 ∧ zSp l mX12_bands false d2 0 0 [zR 73, zI c, zI y, zI v, zI p] (ZZ t dr tx) w2 Q2 zNo ∧ ∀ v2 S2 w3, Q2 v2 S2 w3 → S2 = ZZ t dr tx ∧ zFr w2 w3 ∧ ∃ r, v2 = some (zI r) ∧ zGq (¬ (0 ≤ c ∧ c < w 75 0)) (¬ (((0 ≤ y ∧ y ≤ 500) ∧ (0 ≤ v ∧ v ≤ 13)) ∧ 1 ≤ p ∧ p ≤ 9999)) (fun r => r = (gS (mWant w c y v) p (w 79 c).toNat).1) r (w3 73 1) := fun w2 e => by
    have g73 : w2 73 = w 73 := funext fun x => e 73 x (by decide) (by decide)
    have g75 : w2 75 = w 75 := funext fun x => e 75 x (by decide) (by decide)
    have g79 : w2 79 = w 79 := funext fun x => e 79 x (by decide) (by decide)
    have hmw := mWant_c e
    refine ⟨_, _, ?_, m_bands (w := w2) hr_c hr_y hr_v hr_p (by simp only [g73, g75, g79, hmw]; omega) (by simp only [g73, g75, g79, hmw]; omega) (sIr_m h.kr e) (fun c a b => by rw [g75] at b; rw [g79]; have := sYd_h h.ky a (by omega); omega), fun v2 S2 w3 hq => ?_⟩
    · decide
    have hq2 := zM3_G hq
    simp only [g73, g75, g79, hmw] at hq2
    exact hq2
  refine zPr_ro h ⟨by decide, by decide, by decide⟩ (s_bands (w := w) ht (by omega) h.kr.2.1 (fun c a b => by have := h.kr.1 c a b; omega) (fun c a b => (sYd_h h.ky a b).2) hr_c hr_y hr_v hr_p) (fun v S w1 hq => zOn_E (Or.inr rfl) hq) (fun E S w1 hx => hx) hR (fun r hr => by refine ⟨?_, ?_⟩ <;> first | exact id | omega) (fun r r2 hr hr2 => ?_) (fun hn => by first | exact hn.elim | omega) (fun hn => by first | exact hn.elim | exact Or.inl ⟨by omega, rfl⟩ | omega)
  obtain ⟨⟨hc0, -⟩, q0⟩ := hr
  rw [hwf y v hc0] at q0
  rw [h79 hc0] at hr2
  rw [hr2, q0]
set_option maxRecDepth 100000 in
set_option maxHeartbeats 4000000 in
theorem P_out {l : Launch} {N0 t dr tx : Nat} {w : zW} (h : zSim N0 t dr tx w) {B q : Int} (hr_B : inR B) (hr_q : inR q) : zPr l N0 mX11_out mX12_out 0 1 false [zI B, zI q] t dr tx w := by
  obtain ⟨⟨n0, n1, n2, n3⟩, n4, n5, n6, n7⟩ := sYd_n h.ky
  have ht : t = 4 ∨ t = 10 := by have := h.ht; omega
  have hpl := sPlan_n h.kp
  have hor := sOr_n h.ko
  have hcl := sClm_n h.kl
  have htr := sTr_n h.kT
  have hge := h.kg.2.1
  have hge2 := h.kg.1
  have htp := h.ka.1
  have htp2 := h.ka.2.1
  have hfl := h.kf.1
  have hR : ∀ w2 : zW, (∀ (c : Nat) (x : Int), 73 ≤ c → c ≠ 121 → w2 c x = w c x) → ∃ (d2 : Nat) (Q2 : Option Value → zS → zW → Prop), d2 ≤ 15 ∧ zSp l mX12_out false d2 0 0 [zR 73, zI B, zI q] (ZZ t dr tx) w2 Q2 zNo ∧ ∀ v2 S2 w3, Q2 v2 S2 w3 → S2 = ZZ t dr tx ∧ zFr w2 w3 ∧ ∃ r, v2 = some (zI r) ∧ zGq (¬ ((0 ≤ B ∧ B ≤ 200) ∧ 3 ≤ q ∧ q ≤ 99)) False (isOut (w 75 0).toNat (fun c => lad (w 79 c) q) (w 79) B) r (w3 73 1) := fun w2 e => by
    have g73 : w2 73 = w 73 := funext fun x => e 73 x (by decide) (by decide)
    have g75 : w2 75 = w 75 := funext fun x => e 75 x (by decide) (by decide)
    have g79 : w2 79 = w 79 := funext fun x => e 79 x (by decide) (by decide)
    refine ⟨_, _, ?_, m_out (w := w2) hr_B hr_q (by simp only [g73, g75, g79]; omega) (by simp only [g73, g75, g79]; omega) (fun c a b => by rw [g75] at b; rw [g79]; have := sYd_h h.ky a (by omega); omega), fun v2 S2 w3 hq => ?_⟩
    · decide
    have hq2 := zMr_G hq
    simp only [g73, g75, g79] at hq2
    exact hq2
  refine zPr_ro h ⟨by decide, by decide, by decide⟩ (s_out (w := w) ht hr_B hr_q (by omega) (by omega) (fun c a b => (sYd_h h.ky a b).2)) (fun v S w1 hq => zOn_Q (Or.inl rfl) hq) (fun E S w1 hx => hx) hR (fun r hr => by refine ⟨?_, ?_⟩ <;> first | exact id | omega) (fun r r2 hr hr2 => ?_) (fun hn => by first | exact hn.elim | omega) (fun hn => by first | exact hn.elim | exact Or.inl ⟨by omega, rfl⟩ | omega)
  obtain ⟨-, q0⟩ := hr
  rw [n0] at hr2
  refine isOut_u hr2 (isOut_c (fun c a b => ?_) (fun c a b => ?_) q0)
  · show lad (w (t + 1) c) q = lad (w 79 c) q
    rw [(sYd_h h.ky a (by omega)).1]
  · exact (sYd_h h.ky a (by omega)).1.symm
