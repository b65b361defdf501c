/-! order -/
section OAG2
variable {rk rk' wk wk' : Int → Int} {tt tt' : Int → Int → Int}
theorem orow_ag (h1 : ∀ c : Int, 0 ≤ c → c < 12 → rk c = rk' c) (h2 : ∀ c : Int, 0 ≤ c → c < 12 → wk c = wk' c) (h3 : ∀ a b : Int, 0 ≤ a → a < 12 → 0 ≤ b → b < 12 → tt a b = tt' a b) : ∀ (n : Nat) (p : Int → Bool) (L i : Int), (L = -1 ∨ (0 ≤ L ∧ L < 12)) → orow rk wk tt n p L i = orow rk' wk' tt' n p L i
  | 0, _, _, _, _ => rfl
  | n + 1, p, L, i, hL => by
    simp only [orow]
    rw [oNx_ag h1 h2 h3 n p hL]
    by_cases q : i = 0
    · rw [if_pos q, if_pos q]
    · rw [if_neg q, if_neg q]
      refine orow_ag h1 h2 h3 n _ _ _ ?_
      rcases fsq_s (fun c => p c && decide (oF rk' wk' tt' n p L c = oC rk' wk' tt' (n + 1) p L)) 12 with ⟨g, -⟩ | ⟨g, -⟩
      · exact Or.inl g
      · exact Or.inr ⟨g.1, by have := g.2; unfold oNx; omega⟩
end OAG2
set_option maxRecDepth 100000 in
set_option maxHeartbeats 4000000 in
theorem P_order {l : Launch} {N0 t dr tx : Nat} {w : zW} (h : zSim N0 t dr tx w) {S : Int} (hr_S : inR S) : zPr l N0 mX11_order mX12_order 0 0 false [zI S] t dr tx w := by
  obtain ⟨⟨n0, n1, n2, n3⟩, n4, n5, n6, n7⟩ := sYd_n h.ky
  have ht : t = 4 ∨ t = 10 := by have := h.ht; omega
  have hpl := sPlan_n h.kp
  have hor := sOr_n h.ko
  have hcl := sClm_n h.kl
  have htr := sTr_n h.kT
  have hge := h.kg.2.1
  have hge2 := h.kg.1
  have htp := h.ka.1
  have htp2 := h.ka.2.1
  have hfl := h.kf.1
  have hT : ∀ a b : Int, 0 ≤ a → a < 12 → 0 ≤ b → b < 12 → yTrav w t a b = mTr w a b := fun a b a0 a1 b0 b1 => (sYd_t h.ky a0 a1 b0 b1).1.symm
  have hO := h.ko.1
  have hok : okO (w 63) (w 64) (yTrav w t) := ⟨fun c a b => (hO c a b).2, fun a b a0 a1 b0 b1 => (sYd_t h.ky a0 a1 b0 b1).2⟩
  refine ⟨_, _, _, _, _, ⟨by decide, by decide, by decide⟩, s_order (w := w) ht hr_S n4.1 n4.2 hok, fun v S1 w1 hq w2 e => ?_, fun E S1 w1 hx => hx.elim⟩
  have key : ∀ w2 : zW, (∀ (cc : Nat) (xx : Int), 73 ≤ cc → cc ≠ 121 → w2 cc xx = w cc xx) → ∃ (d2 : Nat) (Q2 : Option Value → zS → zW → Prop), d2 ≤ 15 ∧ zSp l mX12_order false d2 0 0 [zR 73, zI S] (ZZ t dr tx) w2 Q2 zNo ∧ ∀ v2 S2 w3, Q2 v2 S2 w3 → S2 = ZZ t dr tx ∧ ((¬ okS S (w t 5) ∧ v2 = some (zI (-1)) ∧ w3 = up w2 73 1 0) ∨ (okS S (w t 5) ∧ ∃ n : Nat, popN (tb S) = n ∧ n ≤ 9 ∧ v2 = some (zI (oC (w 63) (w 64) (yTrav w t) n (tb S) (-1))) ∧ (∀ c i, c ≠ 111 → c ≠ 112 → (c ≠ 73 ∨ (i ≠ 1 ∧ i ≠ 71 ∧ i ≠ 72)) → w3 c i = w2 c i) ∧ w3 73 1 = 0 ∧ w3 73 71 = n ∧ ∀ i : Int, 0 ≤ i → i < n → w3 111 i = orow (w 63) (w 64) (yTrav w t) n (tb S) (-1) i)) := fun w2 e => by
    have g75 : w2 75 = w 75 := funext fun x => e 75 x (by decide) (by decide)
    have g109 : w2 109 = w 109 := funext fun x => e 109 x (by decide) (by decide)
    have g110 : w2 110 = w 110 := funext fun x => e 110 x (by decide) (by decide)
    have g82 : mTr w2 = mTr w := by unfold mTr; rw [show w2 82 = w 82 from funext fun x => e 82 x (by decide) (by decide)]
    have hok2 : okO (w2 109) (w2 110) (mTr w2) := by
      rw [g109, g110, g82]
      refine ⟨fun c a b => ?_, fun a b a0 a1 b0 b1 => ?_⟩
      · have := hO c a b; omega
      · rw [← hT a b a0 a1 b0 b1]; exact (sYd_t h.ky a0 a1 b0 b1).2
    refine ⟨_, _, ?_, m_order (w := w2) hr_S (by rw [g75]; omega) (by rw [g75]; omega) hok2, fun v2 S2 w3 hq => ?_⟩
    · decide
    rw [g75, g109, g110, g82, n0] at hq
    refine ⟨hq.1, hq.2.imp id ?_⟩
    rintro ⟨k0, n, k1, k2, k3, k4, k5, k6, k7⟩
    refine ⟨k0, n, k1, k2, ?_, k4, k5, k6, fun i a b => ?_⟩
    · rw [k3, oC_ag (fun c a b => (hO c a b).1.1.symm) (fun c a b => (hO c a b).1.2.symm) hT n (tb S) (-1) (Or.inl rfl)]
    · rw [k7 i a b, orow_ag (fun c a b => (hO c a b).1.1.symm) (fun c a b => (hO c a b).1.2.symm) hT n (tb S) (-1) i (Or.inl rfl)]
  obtain ⟨rfl, ⟨hz, rfl, rfl⟩ | ⟨hz, n, p1, p2, rfl, p0, p3, p4⟩⟩ := hq
  · obtain ⟨d2, Q2, hd, hsp, hk⟩ := key w2 (fun cc xx a b => e cc xx b)
    refine ⟨⟨_, _, _, rfl⟩, ⟨_, rfl⟩, d2, Q2, hd, hsp, fun v2 S2 w3 hq2 => ?_⟩
    obtain ⟨rfl, ⟨-, rfl, rfl⟩ | ⟨g, -⟩⟩ := hk v2 S2 w3 hq2
    · refine ⟨rfl, up_same _ _ _ _, up_n (Or.inl (by decide)), t, dr, tx, rfl, zSim_k h (fun cc xx hs => ?_)⟩
      obtain ⟨q1, -, -, q2⟩ := sFp_n ht hs
      rw [up_n (by omega), e cc xx (by omega)]
    · exact absurd g hz
  · obtain ⟨d2, Q2, hd, hsp, hk⟩ := key w2 (fun cc xx a b => by rw [e cc xx b, p0 cc xx (by omega) (by omega) (by omega) (by omega) (by omega)])
    refine ⟨⟨_, _, _, rfl⟩, ⟨_, rfl⟩, d2, Q2, hd, hsp, fun v2 S2 w3 hq2 => ?_⟩
    obtain ⟨rfl, ⟨g, -⟩ | ⟨-, n', r1, r2, rfl, r0, r3, r4, r5⟩⟩ := hk v2 S2 w3 hq2
    · exact absurd hz g
    have hnn : n' = n := by rw [p1] at r1; exact Int.ofNat.inj r1.symm
    subst hnn
    have e3 : ∀ (cc : Nat) (xx : Int), cc < 73 → w3 cc xx = w1 cc xx := fun cc xx a => by rw [r0 cc xx (by omega) (by omega) (by omega), e cc xx (by omega)]
    have ek : ∀ (cc : Nat) (xx : Int), sFp t cc xx → ¬ ((cc = 62 ∧ xx = 3) ∨ (cc = 73 ∧ xx = 71) ∨ cc = 63 ∨ cc = 64 ∨ cc = 65 ∨ cc = 109 ∨ cc = 110 ∨ cc = 111) → w3 cc xx = w cc xx := fun cc xx hs hn => by
      obtain ⟨q1, qb, qc, q2⟩ := sFp_n ht hs
      have qm := sFp_m ht hs
      rw [r0 cc xx (fun hk => hn (by simp [hk])) (q2.2.2.2.2.2.2.2.2.2.2.2.2.2.2.2.2.2.2.2.2.2.2.2.2.2.2.2.2.1) (by by_cases z : cc = 73; (subst z; exact Or.inr ⟨fun hk => (q1.resolve_left (fun g => g rfl)).1 hk, fun hk => hn (by simp [hk]), fun hk => (q1.resolve_left (fun g => g rfl)).2.2.2.1 hk⟩); exact Or.inl z), e cc xx (q2.2.2.2.2.2.2.2.2.2.2.2.2.2.2.2.2.2.2.2.2.2.2.2.2.2.2.2.2.2.2.2.2), p0 cc xx (fun hk => hn (by simp [hk])) (q2.2.2.2.2.2.2.2.2.2.2.2.2.2.2.2.2.2.2.2.1) (q2.2.2.2.2.2.2.2.2.2.2.2.2.2.2.2.2.2.2.2.2.1) (q2.2.2.2.2.2.2.2.2.2.2.2.2.2.2.2.2.2.2.2.2.2.1) (by by_cases z : cc = 62; (subst z; exact Or.inr ⟨fun hk => hn (by simp [hk]), fun hk => (qc.resolve_left (fun g => g rfl)) hk⟩); exact Or.inl z)]
    refine ⟨rfl, r3, r0 121 0 (by decide) (by decide) (Or.inl (by decide)), t, dr, tx, rfl, zSim_uOr h ek ⟨fun c a b => ?_, ?_, ?_, fun i a b => ?_⟩⟩
    · rw [r0 109 c (by decide) (by decide) (Or.inl (by decide)), e 109 c (by decide), p0 109 c (by decide) (by decide) (by decide) (by decide) (Or.inl (by decide)), r0 110 c (by decide) (by decide) (Or.inl (by decide)), e 110 c (by decide), p0 110 c (by decide) (by decide) (by decide) (by decide) (Or.inl (by decide)), e3 63 c (by decide), p0 63 c (by decide) (by decide) (by decide) (by decide) (Or.inl (by decide)), e3 64 c (by decide), p0 64 c (by decide) (by decide) (by decide) (by decide) (Or.inl (by decide))]
      exact hO c a b
    · rw [r4, e3 62 3 (by decide), p3]
    · rw [e3 62 3 (by decide), p3]; omega
    · rw [e3 62 3 (by decide), p3] at b
      rw [r5 i a b, e3 65 i (by decide), p4 i a b]
