/-! odds -/
set_option maxRecDepth 100000 in
set_option maxHeartbeats 4000000 in
theorem P_odds {l : Launch} {N0 t dr tx : Nat} {w : zW} (h : zSim N0 t dr tx w) {k : Int} (hr_k : inR k) : zPr l N0 mX11_odds mX12_odds 1 0 false [zI k] t dr tx w := by
  obtain ⟨⟨n0, n1, n2, n3⟩, n4, n5, n6, n7⟩ := sYd_n h.ky
  have ht : t = 4 ∨ t = 10 := by have := h.ht; omega
  have hpl := sPlan_n h.kp
  have hor := sOr_n h.ko
  have hcl := sClm_n h.kl
  have htr := sTr_n h.kT
  have hge := h.kg.2.1
  have hge2 := h.kg.1
  have htp := h.ka.1
  have htp2 := h.ka.2.1
  have hfl := h.kf.1
  have hp1 : w 16 15 = 1 → w 73 26 = w 16 12 ∧ w 73 26 ≠ -1 ∧ ((w 16 12).toNat : Int) ≤ w 16 12 := fun q => by omega
  have hp0 : w 16 15 = 0 → w 73 26 = -1 := fun q => by omega
  have hM : w 16 15 = 1 → (0 ≤ w 16 12 ∧ w 16 12 ≤ 8) ∧ (∀ i : Int, 0 ≤ i → i < w 16 12 → 0 ≤ w 25 i ∧ w 25 i < 8) ∧ okPl (w 26) (cDs w t) (w 16 12) := fun q => by
    refine ⟨by omega, fun i a b => ?_, fun i a b => ?_⟩
    · have := sPlan_r h.kp q a b; omega
    · have h1 := sPlan_r h.kp q a b
      have h2 := sYd_let h.ky h1.2.1.1 h1.2.1.2
      unfold okLet at h2
      unfold cDs
      omega
  have hD : w 16 15 = 1 → ∀ i : Int, 0 ≤ i → i < w 16 12 → w 88 i = w 26 i ∧ mDs w i = cDs w t i := fun q i a b => by
    have h1 := sPlan_r h.kp q a b
    refine ⟨h1.1.2, ?_⟩
    unfold mDs cDs
    rw [h1.1.1]
    exact sYd_ll h.ky h1.2.1.1 h1.2.1.2 (by decide) (by decide)
  have hst : ∀ d : Int, 0 ≤ d → d < 30 → w 120 d = w 28 d := fun d a b => (h.kc d a b).1
  have hR : ∀ w2 : zW, (∀ (c : Nat) (x : Int), 73 ≤ c → c ≠ 121 → w2 c x = w c x) → ∃ (d2 : Nat) (Q2 : Option Value → zS → zW → Prop), d2 ≤ 15 ∧ zSp l mX12_odds false d2 0 0 [zR 73, zI k] (ZZ t dr tx) w2 Q2 zNo ∧ ∀ v2 S2 w3, Q2 v2 S2 w3 → S2 = ZZ t dr tx ∧ zFr w2 w3 ∧ ∃ r, v2 = some (zI r) ∧ zGq (¬ (0 ≤ k ∧ k < 102)) False (fun r => (w 73 26 = -1 ∧ r = -1) ∨ (w 73 26 ≠ -1 ∧ (k = 0 → r = odF (w 88) (mDs w) (w 120) (w 73 26).toNat) ∧ (k ≠ 0 → ∃ fs, isFs (w 120) (k - 1) fs ∧ r = dbF (w 88) (mDs w) fs (w 73 26).toNat))) r (w3 73 1) := fun w2 e => by
    have g73 : w2 73 = w 73 := funext fun x => e 73 x (by decide) (by decide)
    have g81 : w2 81 = w 81 := funext fun x => e 81 x (by decide) (by decide)
    have g87 : w2 87 = w 87 := funext fun x => e 87 x (by decide) (by decide)
    have g88 : w2 88 = w 88 := funext fun x => e 88 x (by decide) (by decide)
    have g120 : w2 120 = w 120 := funext fun x => e 120 x (by decide) (by decide)
    have gds : mDs w2 = mDs w := by unfold mDs; rw [g81, g87]
    refine ⟨_, _, ?_, m_odds (w := w2) hr_k (fun q => ?_) (fun d a b => ?_), fun v2 S2 w3 hq => ?_⟩
    · decide
    · rw [g73] at q ⊢
      rw [g87, g88, gds]
      have h15 : w 16 15 = 1 := by omega
      have h26 : w 73 26 = w 16 12 := by omega
      rw [h26]
      obtain ⟨m1, m2, m3⟩ := hM h15
      refine ⟨m1, fun i a b => ?_, fun i a b => ?_⟩
      · rw [(sPlan_r h.kp h15 a b).1.1]; exact m2 i a b
      · rw [(hD h15 i a b).1, (hD h15 i a b).2]; exact m3 i a b
    · rw [g120, hst d a b]; exact (h.kc d a b).2
    · rw [g73, g88, gds, g120] at hq
      obtain ⟨rfl, ⟨k1, rfl, rfl⟩ | ⟨k1, rfl, ⟨k2, rfl⟩ | ⟨k2, r, rfl, k3⟩⟩⟩ := hq
      · exact ⟨rfl, zFr_up, _, rfl, Or.inl ⟨k1, up_same _ _ _ _⟩⟩
      · exact ⟨rfl, zFr_up, _, rfl, Or.inr (Or.inr ⟨fun q => q k1, id, Or.inl ⟨k2, rfl⟩, up_same _ _ _ _⟩)⟩
      · exact ⟨rfl, zFr_up, _, rfl, Or.inr (Or.inr ⟨fun q => q k1, id, Or.inr ⟨k2, k3⟩, up_same _ _ _ _⟩)⟩
  refine zPr_ro (P := fun r => (0 ≤ k ∧ k < 102) ∧ ((w 16 15 = 0 ∧ r = -1) ∨ (w 16 15 = 1 ∧ (k = 0 → r = odF (w 26) (cDs w t) (w 28) (w 16 12).toNat) ∧ (k ≠ 0 → ∃ fs, isFs (w 28) (k - 1) fs ∧ r = dbF (w 26) (cDs w t) fs (w 16 12).toNat)))) h ⟨by decide, by decide, by decide⟩ (s_odds (w := w) ht hr_k (by omega) hM (fun d a b => (h.kc d a b).2)) (fun v S w1 hq => ?_) (fun E S w1 hx => hx) hR (fun r hr => ⟨fun q => q hr.1, id⟩) (fun r r2 hr hr2 => ?_) (fun hn => ⟨hn, rfl⟩) (fun hn => hn.elim)
  · obtain ⟨k1, rfl, rfl, ⟨k2, rfl⟩ | ⟨k2, r, rfl, k3⟩⟩ := hq
    · exact ⟨⟨_, rfl, k1, Or.inl ⟨k2, rfl⟩⟩, rfl, fun _ _ _ _ => rfl⟩
    · exact ⟨⟨_, rfl, k1, Or.inr ⟨k2, k3⟩⟩, rfl, fun _ _ _ _ => rfl⟩
  · obtain ⟨-, ⟨p1, p2⟩ | ⟨p1, p2, p3⟩⟩ := hr
    · rcases hr2 with ⟨r1, r2'⟩ | ⟨r1, -⟩
      · rw [p2, r2']
      · exact absurd (hp0 p1) r1
    · rcases hr2 with ⟨r1, -⟩ | ⟨r1, r2', r3⟩
      · exact absurd r1 (hp1 p1).2.1
      have h26 : w 73 26 = w 16 12 := (hp1 p1).1
      rw [h26] at r2' r3
      have hb : ∀ i : Int, 0 ≤ i → i < w 16 12 → w 26 i = w 88 i ∧ cDs w t i = mDs w i := fun i a b => ⟨(hD p1 i a b).1.symm, (hD p1 i a b).2.symm⟩
      by_cases k0 : k = 0
      · rw [p2 k0, r2' k0]
        exact (odF_c (fun d a b => (hst d a b).symm) (hM p1).2.2 hb _ (hp1 p1).2.2).symm
      · obtain ⟨fs, f1, rfl⟩ := p3 k0
        obtain ⟨fs2, f2, rfl⟩ := r3 k0
        rw [isFs_u hst f2 f1]
        exact (dbF_c hb _ (hp1 p1).2.2).symm
