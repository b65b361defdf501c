/-! yard on both sides -/
theorem sFp_y {t dr c : Nat} {x : Int} (hd : (t = 4 ∧ dr = 10) ∨ (t = 10 ∧ dr = 4)) (h : sFp t c x) : c < dr ∨ dr + 5 < c := by
  unfold sFp at h
  omega
theorem sFp_73 {t c : Nat} {x : Int} (ht : t = 4 ∨ t = 10) (h : sFp t c x) : c ≠ 73 ∨ (x ≠ 13 ∧ x ≠ 14 ∧ x ≠ 15 ∧ x ≠ 16 ∧ x ≠ 17 ∧ x ≠ 18 ∧ x ≠ 19 ∧ x ≠ 20) := by
  unfold sFp at h
  omega
set_option maxRecDepth 100000 in
set_option maxHeartbeats 4000000 in
theorem P_yard {l : Launch} {N0 t dr tx : Nat} {w : zW} (h : zSim N0 t dr tx w) {n : Int} (hr_n : inR n) : zPr l N0 mX11_yard mX12_yard 0 1 false [zI n] t dr tx w := by
  obtain ⟨⟨n0, n1, n2, n3⟩, n4, n5, n6, n7⟩ := sYd_n h.ky
  have ht : t = 4 ∨ t = 10 := by have := h.ht; omega
  have hpl := sPlan_n h.kp
  have hor := sOr_n h.ko
  have hcl := sClm_n h.kl
  have htr := sTr_n h.kT
  have hge := h.kg.2.1
  have hge2 := h.kg.1
  have htp := h.ka.1
  have htp2 := h.ka.2.1
  have hfl := h.kf.1
  have hdr : (t = 4 ∧ dr = 10) ∨ (t = 10 ∧ dr = 4) := h.ht
  have hrun : ∀ w2 : zW, (∀ (cc : Nat) (xx : Int), 73 ≤ cc → cc ≠ 121 → w2 cc xx = w cc xx) → n ≤ w 0 1 → runP (w2 84) n 600 (.inl 0) Y00 = runP (w 1) n 600 (.inl 0) Y00 := fun w2 e hn => runP_c (fun x hx => by rw [e 84 x (by decide) (by decide)]; exact h.ka.2.2.1 x (by omega)) 600 (.inl 0) Y00
  have hR : ∀ (t' dr' tx' : Nat) (w2 : zW), (∀ (cc : Nat) (xx : Int), 73 ≤ cc → cc ≠ 121 → w2 cc xx = w cc xx) → ∃ (d2 : Nat) (Q2 : Option Value → zS → zW → Prop), d2 ≤ 15 ∧ zSp l mX12_yard false d2 0 0 [zR 73, zI n] (ZZ t' dr' tx') w2 Q2 zNo ∧ ∀ v2 S2 w3, Q2 v2 S2 w3 → S2 = ZZ t' dr' tx' ∧ ((¬ (0 ≤ n ∧ n ≤ w 0 1) ∧ v2 = some (zI 0) ∧ w3 = up w2 73 1 1) ∨ ((0 ≤ n ∧ n ≤ w 0 1) ∧ (w3 73 1 = 0 ∧ w3 73 12 = 0) ∧ ((∃ e, (runP (w 1) n 600 (.inl 0) Y00).1 = .inr e ∧ v2 = some (zI e.1) ∧ e.1 ≠ 0 ∧ w3 73 21 = e.2 ∧ ((∀ c x, (c < 75 ∨ 83 < c) → (c ≠ 73 ∨ (x ≠ 1 ∧ x ≠ 12 ∧ x ≠ 13 ∧ x ≠ 14 ∧ x ≠ 15 ∧ x ≠ 16 ∧ x ≠ 17 ∧ x ≠ 18 ∧ x ≠ 19 ∧ x ≠ 20 ∧ x ≠ 21)) → w3 c x = w2 c x)) ∧ ∀ c x, 75 ≤ c → c ≤ 83 → x < loB c → w3 c x = w2 c x) ∨ (okP (runP (w 1) n 600 (.inl 0) Y00).1 ∧ v2 = some (zI 0) ∧ w3 73 21 = -1 ∧ mT w3 (runP (w 1) n 600 (.inl 0) Y00).2 ∧ ∃ w1, ((∀ c x, (c < 75 ∨ 83 < c) → (c ≠ 73 ∨ (x ≠ 1 ∧ x ≠ 12 ∧ x ≠ 13 ∧ x ≠ 14 ∧ x ≠ 15 ∧ x ≠ 16 ∧ x ≠ 17 ∧ x ≠ 18 ∧ x ≠ 19 ∧ x ≠ 20 ∧ x ≠ 21)) → w1 c x = w2 c x)) ∧ fgQ w1 w3)))) := fun t' dr' tx' w2 e => by
    have g12 : w2 73 12 = w 0 1 := (e 73 12 (by decide) (by decide)).trans htp2
    have g84 : w2 84 = w 84 := funext fun x => e 84 x (by decide) (by decide)
    have g74 : w2 74 = w 74 := funext fun x => e 74 x (by decide) (by decide)
    refine ⟨_, _, ?_, m_yard (w := w2) (b := w2 84) hr_n (by omega) (fun i a b => ?_) (fun j hj => by rw [g74]; exact h.kf.2 j hj), fun v2 S2 w3 hq => ?_⟩
    · decide
    · rw [g84, h.ka.2.2.1 i (by omega)]; exact h.ka.2.2.2 i a (by omega)
    · obtain ⟨rfl, hq⟩ := hq
      rw [g12] at hq
      refine ⟨rfl, ?_⟩
      rcases hq with q | ⟨q1, q2, q3⟩
      · exact Or.inl q
      · rw [hrun w2 e q1.2] at q3
        refine Or.inr ⟨q1, q2, q3.imp id ?_⟩
        rintro ⟨a1, a2, a3, a4, -, a5⟩
        exact ⟨a1, a2, a3, a4, a5⟩
  refine ⟨_, _, _, _, _, ⟨by decide, by decide, by decide⟩, s_yard (w := w) hdr hr_n htp.2, fun v S w1 hq w2 e => ?_, fun E S w1 hx => ?_⟩
  · obtain ⟨hA, ⟨er, p1, rfl, rfl, p2, ⟨p3, p4⟩, p0⟩ | ⟨p1, rfl, rfl, ⟨p3, p4⟩, p5, p6, wa, p0, pt⟩⟩ := hq
    · have e2 : ∀ (cc : Nat) (xx : Int), 73 ≤ cc → cc ≠ 121 → w2 cc xx = w cc xx := fun cc xx a b => by rw [e cc xx b, p0 cc xx (by omega) (by omega) (by omega)]
      obtain ⟨d2, Q2, hd, hsp, hk⟩ := hR t dr 1 w2 e2
      refine ⟨⟨_, _, _, rfl⟩, ⟨_, rfl⟩, d2, Q2, hd, hsp, fun v2 S2 w3 hq2 => ?_⟩
      obtain ⟨rfl, ⟨g, -⟩ | ⟨-, ⟨r1, r2⟩, ⟨er', r3, rfl, r4, r5, r0, r6⟩ | ⟨g, -⟩⟩⟩ := hk v2 S2 w3 hq2
      · exact absurd hA g
      · rw [p1] at r3
        have hee : er = er' := by injection r3
        subst hee
        have e3 : ∀ (cc : Nat) (xx : Int), cc < 73 → w3 cc xx = w1 cc xx := fun cc xx a => by rw [r0 cc xx (by omega) (by omega), e cc xx (by omega)]
        -- what is left alone
        have ek : ∀ (cc : Nat) (xx : Int), sFp t cc xx → (cc < 75 ∨ 83 < cc) → (cc ≠ 0 ∨ xx = 13) → (cc ≠ 73 ∨ (xx ≠ 12 ∧ xx ≠ 21)) → w3 cc xx = w cc xx := fun cc xx hs h1 h2 h3 => by
          obtain ⟨q1, qb, qc, q2⟩ := sFp_n ht hs
          have qd := sFp_y hdr hs
          rw [r0 cc xx h1 ?_, e cc xx (by clear q1 qb qc qd h1 h2 h3; omega), p0 cc xx (by clear q1 qb qc qd h1 h2 h3; omega) ?_ ?_]
          · clear q1 q2 qb qc h2 h1 h3; omega
          · clear q1 q2 qb qc h1 h3 qd; omega
          · by_cases z73 : cc = 73
            · have qy := (sFp_73 ht hs).resolve_left (fun g => g z73)
              have qa := h3.resolve_left (fun g => g z73)
              have qe := q1.resolve_left (fun g => g z73)
              exact Or.inr ⟨qe.1, qa.1, qy.1, qy.2.1, qy.2.2.1, qy.2.2.2.1, qy.2.2.2.2.1, qy.2.2.2.2.2.1, qy.2.2.2.2.2.2.1, qy.2.2.2.2.2.2.2, qa.2⟩
            · exact Or.inl z73
        refine ⟨rfl, r1, r0 121 0 (Or.inr (by decide)) (Or.inl (by decide)), t, dr, 1, rfl, h.ht, ⟨?_, ?_, ?_, ?_⟩, ⟨?_, ?_⟩, ?_, ?_, ?_, ?_, ?_, ?_, ?_, ?_, ?_, ?_, ?_, ?_⟩
        · rw [e3 0 1 (by decide), p3]; decide
        · rw [r2, e3 0 1 (by decide), p3]
        · intro i b
          rw [e3 0 1 (by decide), p3] at b
          rw [r0 84 i (by decide) (Or.inl (by decide)), e2 84 i (by decide) (by decide), e3 1 i (by decide), p0 1 i (by decide) (by omega) (Or.inl (by decide))]
          exact h.ka.2.2.1 i (by omega)
        · intro i a b
          rw [e3 0 1 (by decide), p3] at b
          omega
        · rw [r5, e3 0 2 (by decide), p4]
        · intro j hj
          rw [r0 74 _ (by decide) (Or.inl (by decide)), e2 74 _ (by decide) (by decide)]
          exact h.kf.2 j hj
        · obtain ⟨Y, y1, y2, y3⟩ := h.ky
          refine ⟨Y, yC_c y1 (fun c x a b => ?_), mT_lo y3 y2 (fun c x a b hx => ?_), y3⟩
          · rw [e3 c x (by omega), p0 c x (by omega) (by omega) (by omega)]
          · rw [r6 c x a b hx, e2 c x (by omega) (by omega)]
        · exact sPlan_k h.kp (fun c x hc => ek c x (sPlan_f hc) (by clear ek; omega) (by clear ek; omega) (by clear ek; omega))
        · exact sStm_k h.kc (fun c x hc => ek c x (sStm_f hc) (by clear ek; omega) (by clear ek; omega) (by clear ek; omega))
        · exact sPb_k h.kb (fun c x hc => ek c x (sPb_f hc) (by clear ek; omega) (by clear ek; omega) (by clear ek; omega))
        · exact sTr_k h.kT (fun c x hc => ek c x (sTr_f hc) (by clear ek; omega) (by clear ek; omega) (by clear ek; omega))
        · exact sGe_k h.kg (fun c x hc => ek c x (sGe_f hc) (by clear ek; omega) (by clear ek; omega) (by clear ek; omega))
        · exact sClm_k (sClm_m (Nat.le_succ N0) h.kl) (fun c x hc => ek c x (sClm_f hc) (by clear ek; omega) (by clear ek; omega) (by clear ek; omega))
        · exact sImg_k (sImg_m (Nat.le_succ N0) h.ki) (fun c x hc => ek c x (sImg_f hc) (by clear ek; omega) (by clear ek; omega) (by clear ek; omega))
        · exact sIr_k h.kr (fun c x hc => ek c x (sIr_f hc) (by clear ek; omega) (by clear ek; omega) (by clear ek; omega))
        · exact sOr_k h.ko (fun c x hc => ek c x (sOr_f hc) (by clear ek; omega) (by clear ek; omega) (by clear ek; omega))
        · exact sOw_k h.kO (fun c x hc => ek c x (sOw_f hc) (by clear ek; omega) (by clear ek; omega) (by clear ek; omega))
        · exact sLd_k h.kL (fun c x hc => ek c x (sLd_f hc) (by clear ek; omega) (by clear ek; omega) (by clear ek; omega))
      · rw [p1] at g; exact g.elim
    · have e2 : ∀ (cc : Nat) (xx : Int), 73 ≤ cc → cc ≠ 121 → w2 cc xx = w cc xx := fun cc xx a b => by
        rw [e cc xx b, pt.1 cc xx (by omega) (by omega) (by omega) (by omega) (by omega) (by omega) (by omega) (by omega) (by omega) (Or.inl (by omega)) (Or.inl (by omega)) (Or.inl (by omega)) (Or.inl (by omega)), p0 cc xx (by omega) (by omega) (by omega)]
      obtain ⟨d2, Q2, hd, hsp, hk⟩ := hR dr t 1 w2 e2
      refine ⟨⟨_, _, _, rfl⟩, ⟨_, rfl⟩, d2, Q2, hd, hsp, fun v2 S2 w3 hq2 => ?_⟩
      obtain ⟨rfl, ⟨g, -⟩ | ⟨-, ⟨r1, r2⟩, ⟨er', r3, -⟩ | ⟨-, rfl, r5, r6, wb, r0, rf⟩⟩⟩ := hk v2 S2 w3 hq2
      · exact absurd hA g
      · rw [r3] at p1; exact p1.elim
      obtain ⟨pt0, ⟨⟨pt1, pt2⟩, pt3, pt4, pt5⟩, pt6, pt7, pt8, pt9⟩ := pt
      obtain ⟨rf0, ⟨rf1, rf2, rf3, rf4, rf5⟩, rf6, rf7, rf8, rf9⟩ := rf
      have e3 : ∀ (cc : Nat) (xx : Int), cc < 73 → w3 cc xx = w1 cc xx := fun cc xx a => by
        rw [rf0 cc xx (by omega) (by omega) (by omega) (by omega) (by omega) (by omega) (by omega) (by omega) (by omega) (Or.inl (by omega)), r0 cc xx (by omega) (Or.inl (by omega)), e cc xx (by omega)]
      -- the class's cells that stay
      have kc : ∀ (cc : Nat) (xx : Int), cc < 73 → cc ≠ 0 → cc ≠ 2 → cc ≠ 16 → cc ≠ 44 → cc ≠ 62 → (cc < dr ∨ dr + 5 < cc) → cc ≠ 32 → cc ≠ 33 → cc ≠ 46 → cc ≠ 47 → cc ≠ 59 → cc ≠ 60 → cc ≠ 63 → cc ≠ 64 → cc ≠ 71 → w3 cc xx = w cc xx := fun cc xx a b0 b1 b2 b3 b4 b5 b6 b7 b8 b9 b10 b11 b12 b13 b14 => by
        rw [e3 cc xx a, pt0 cc xx b6 b7 b8 b9 b10 b11 b12 b13 b14 (Or.inl b2) (Or.inl b4) (Or.inl b3) (Or.inl b0), p0 cc xx b1 b5 (Or.inl b0)]
      have k44 : ∀ x : Int, x ≠ 6 → w3 44 x = w 44 x := fun x a => by
        rw [e3 44 x (by decide), pt0 44 x (by decide) (by decide) (by decide) (by decide) (by decide) (by decide) (by decide) (by decide) (by decide) (Or.inl (by decide)) (Or.inl (by decide)) (Or.inr a) (Or.inl (by decide)), p0 44 x (by decide) (by omega) (Or.inl (by decide))]
      have k16 : ∀ x : Int, x ≠ 15 → x ≠ 16 → w3 16 x = w 16 x := fun x a b => by
        rw [e3 16 x (by decide), pt0 16 x (by decide) (by decide) (by decide) (by decide) (by decide) (by decide) (by decide) (by decide) (by decide) (Or.inr ⟨a, b⟩) (Or.inl (by decide)) (Or.inl (by decide)) (Or.inl (by decide)), p0 16 x (by decide) (by omega) (Or.inl (by decide))]
      have k0 : ∀ x : Int, x ≠ 13 → w3 0 x = w1 0 x := fun x a => e3 0 x (by decide)
      -- the reference's cells that stay
      have km : ∀ (cc : Nat) (xx : Int), 83 < cc → cc ≠ 121 → cc ≠ 89 → cc ≠ 90 → cc ≠ 98 → cc ≠ 99 → cc ≠ 105 → cc ≠ 107 → cc ≠ 109 → cc ≠ 110 → cc ≠ 117 → w3 cc xx = w cc xx := fun cc xx a b c1 c2 c3 c4 c5 c6 c7 c8 c9 => by
        rw [rf0 cc xx c1 c2 c3 c4 c5 c6 c7 c8 c9 (Or.inl (by omega)), r0 cc xx (Or.inr a) (Or.inl (by omega)), e2 cc xx (by omega) b]
      have k73 : ∀ x : Int, 21 < x → x ≠ 26 → x ≠ 54 → x ≠ 55 → x ≠ 71 → x ≠ 76 → w3 73 x = w 73 x := fun x a b c d f g => by
        rw [rf0 73 x (by decide) (by decide) (by decide) (by decide) (by decide) (by decide) (by decide) (by decide) (by decide) (Or.inr ⟨b, c, d, f, g⟩), r0 73 x (by decide) (Or.inr (by omega)), e2 73 x (by decide) (by decide)]
      have kd : ∀ (cc : Nat) (xx : Int), dr ≤ cc → cc ≤ dr + 5 → w3 cc xx = w1 cc xx := fun cc xx a b => e3 cc xx (by omega)
      refine ⟨rfl, r1, (rf0 121 0 (by decide) (by decide) (by decide) (by decide) (by decide) (by decide) (by decide) (by decide) (by decide) (Or.inl (by decide))).trans (r0 121 0 (Or.inr (by decide)) (Or.inl (by decide))), dr, t, 1, rfl, by omega, ⟨?_, ?_, ?_, ?_⟩, ⟨?_, ?_⟩, ?_, ?_, ?_, ?_, ?_, ?_, ?_, ?_, ?_, ?_, ?_, ?_⟩
      · rw [k0 1 (by decide), p3]; decide
      · rw [r2, k0 1 (by decide), p3]
      · intro i b
        rw [k0 1 (by decide), p3] at b
        rw [km 84 i (by decide) (by decide) (by decide) (by decide) (by decide) (by decide) (by decide) (by decide) (by decide) (by decide) (by decide), kc 1 i (by decide) (by decide) (by decide) (by decide) (by decide) (by decide) (by omega) (by decide) (by decide) (by decide) (by decide) (by decide) (by decide) (by decide) (by decide) (by decide)]
        exact h.ka.2.2.1 i (by omega)
      · intro i a b
        rw [k0 1 (by decide), p3] at b
        omega
      · rw [r5, k0 2 (by decide), p4]
      · intro j hj
        rw [rf0 74 _ (by decide) (by decide) (by decide) (by decide) (by decide) (by decide) (by decide) (by decide) (by decide) (Or.inl (by decide)), r0 74 _ (by decide) (Or.inl (by decide)), e2 74 _ (by decide) (by decide)]
        exact h.kf.2 j hj
      · exact ⟨_, yC_c p5 (fun c x a b => kd c x a b), r6, p6⟩
      · refine Or.inl ⟨?_, ?_, ?_, rf1, rf2⟩
        · rw [e3 16 15 (by decide)]; exact pt1
        · rw [e3 16 16 (by decide)]; exact pt2
        · rw [k16 12 (by decide) (by decide)]; omega
      · intro o a b
        rw [km 120 o (by decide) (by decide) (by decide) (by decide) (by decide) (by decide) (by decide) (by decide) (by decide) (by decide) (by decide), kc 28 o (by decide) (by decide) (by decide) (by decide) (by decide) (by decide) (by omega) (by decide) (by decide) (by decide) (by decide) (by decide) (by decide) (by decide) (by decide) (by decide)]
        exact h.kc o a b
      · obtain ⟨u1, u2, u3⟩ := h.kb
        refine ⟨fun c a b => ?_, fun x => ?_, fun c a b => ⟨?_, ?_, fun k k0 k1 => ?_⟩⟩
        · rw [e3 32 c (by decide), e3 33 c (by decide), (pt6 c a b).1.1, (pt6 c a b).1.2, (rf6 c a b).1.1, (rf6 c a b).1.2]; exact ⟨rfl, rfl⟩
        · rw [km 91 x (by decide) (by decide) (by decide) (by decide) (by decide) (by decide) (by decide) (by decide) (by decide) (by decide) (by decide), km 92 x (by decide) (by decide) (by decide) (by decide) (by decide) (by decide) (by decide) (by decide) (by decide) (by decide) (by decide), kc 30 x (by decide) (by decide) (by decide) (by decide) (by decide) (by decide) (by omega) (by decide) (by decide) (by decide) (by decide) (by decide) (by decide) (by decide) (by decide) (by decide), kc 31 x (by decide) (by decide) (by decide) (by decide) (by decide) (by decide) (by omega) (by decide) (by decide) (by decide) (by decide) (by decide) (by decide) (by decide) (by decide) (by decide)]; exact u2 x
        · rw [e3 32 c (by decide), (pt6 c a b).1.1]; decide
        · rw [e3 33 c (by decide), (pt6 c a b).1.2]; decide
        · rw [e3 32 c (by decide), (pt6 c a b).1.1] at k1; omega
      · refine sTr_k h.kT (fun c x hc => ?_)
        rcases hc with ⟨rfl, rfl⟩ | ⟨rfl, rfl⟩ | ⟨rfl, rfl⟩ | ⟨rfl, rfl⟩ | ⟨rfl, rfl⟩ | ⟨rfl, rfl⟩ | ⟨rfl, rfl⟩ | ⟨rfl, rfl⟩ | ⟨rfl, rfl⟩ | ⟨rfl, rfl⟩ | ⟨rfl, rfl⟩ | ⟨rfl, rfl⟩ | ⟨rfl, rfl⟩ | rfl | rfl <;> first | exact k73 _ (by decide) (by decide) (by decide) (by decide) (by decide) (by decide) | exact kc _ _ (by decide) (by decide) (by decide) (by decide) (by decide) (by decide) (by omega) (by decide) (by decide) (by decide) (by decide) (by decide) (by decide) (by decide) (by decide) (by decide) | exact km _ _ (by decide) (by decide) (by decide) (by decide) (by decide) (by decide) (by decide) (by decide) (by decide) (by decide) (by decide)
      · refine sGe_k h.kg (fun c x hc => ?_)
        rcases hc with ⟨rfl, rfl⟩ | ⟨rfl, rfl⟩ | rfl | rfl <;> first | exact k73 _ (by decide) (by decide) (by decide) (by decide) (by decide) (by decide) | exact kc _ _ (by decide) (by decide) (by decide) (by decide) (by decide) (by decide) (by omega) (by decide) (by decide) (by decide) (by decide) (by decide) (by decide) (by decide) (by decide) (by decide) | exact km _ _ (by decide) (by decide) (by decide) (by decide) (by decide) (by decide) (by decide) (by decide) (by decide) (by decide) (by decide)
      · obtain ⟨⟨u1, u2, u3⟩, u4, v1, v2, v3, v4, v5, v6⟩ := h.kl
        unfold sClm sClb
        rw [k44 1 (by decide), k44 4 (by decide), e3 44 6 (by decide), pt4, k73 44 (by decide) (by decide) (by decide) (by decide) (by decide) (by decide), k73 46 (by decide) (by decide) (by decide) (by decide) (by decide) (by decide), rf4]
        refine ⟨⟨u1, u2, rfl⟩, u4, by decide, fun x a b => ?_, fun x a b => ?_, fun x y a b c d => ?_, fun x a b => ?_, fun i a b => by omega⟩
        · have := v2 x a b
          rw [km 95 x (by decide) (by decide) (by decide) (by decide) (by decide) (by decide) (by decide) (by decide) (by decide) (by decide) (by decide), kc 45 x (by decide) (by decide) (by decide) (by decide) (by decide) (by decide) (by omega) (by decide) (by decide) (by decide) (by decide) (by decide) (by decide) (by decide) (by decide) (by decide)]; omega
        · rw [rf7 x a b, e3 46 x (by decide), pt7 x a b]; decide
        · have hw5 : 0 ≤ w3 dr 5 := by
            rw [kd dr 5 (Nat.le_refl _) (by omega), p5.1.1]; exact p6.1.1
          rw [e3 46 _ (by decide), pt7 _ (by omega) (by omega)]
        · rw [rf8 x a b, e3 47 x (by decide), pt8 x a b]; omega
      · exact Or.inl ⟨by rw [e3 0 13 (by decide)]; exact pt5, rf5⟩
      · obtain ⟨u1, u2, u3⟩ := h.kr
        refine ⟨fun c a b => ?_, fun k a b => ?_, fun k a b => ?_⟩
        · rw [e3 59 c (by decide), e3 60 c (by decide), (pt6 c a b).2.1.1, (pt6 c a b).2.1.2, (rf6 c a b).2.1.1, (rf6 c a b).2.1.2]; decide
        · rw [kc 55 k (by decide) (by decide) (by decide) (by decide) (by decide) (by decide) (by omega) (by decide) (by decide) (by decide) (by decide) (by decide) (by decide) (by decide) (by decide) (by decide), kc 56 k (by decide) (by decide) (by decide) (by decide) (by decide) (by decide) (by omega) (by decide) (by decide) (by decide) (by decide) (by decide) (by decide) (by decide) (by decide) (by decide), kc 57 k (by decide) (by decide) (by decide) (by decide) (by decide) (by decide) (by omega) (by decide) (by decide) (by decide) (by decide) (by decide) (by decide) (by decide) (by decide) (by decide), kc 58 k (by decide) (by decide) (by decide) (by decide) (by decide) (by decide) (by omega) (by decide) (by decide) (by decide) (by decide) (by decide) (by decide) (by decide) (by decide) (by decide)]; exact u2 k a b
        · rw [kc 55 k (by decide) (by decide) (by decide) (by decide) (by decide) (by decide) (by omega) (by decide) (by decide) (by decide) (by decide) (by decide) (by decide) (by decide) (by decide) (by decide), kc 56 k (by decide) (by decide) (by decide) (by decide) (by decide) (by decide) (by omega) (by decide) (by decide) (by decide) (by decide) (by decide) (by decide) (by decide) (by decide) (by decide), kc 57 k (by decide) (by decide) (by decide) (by decide) (by decide) (by decide) (by omega) (by decide) (by decide) (by decide) (by decide) (by decide) (by decide) (by decide) (by decide) (by decide), kc 58 k (by decide) (by decide) (by decide) (by decide) (by decide) (by decide) (by omega) (by decide) (by decide) (by decide) (by decide) (by decide) (by decide) (by decide) (by decide) (by decide), km 106 (4 * k) (by decide) (by decide) (by decide) (by decide) (by decide) (by decide) (by decide) (by decide) (by decide) (by decide) (by decide), km 106 (4 * k + 1) (by decide) (by decide) (by decide) (by decide) (by decide) (by decide) (by decide) (by decide) (by decide) (by decide) (by decide), km 106 (4 * k + 2) (by decide) (by decide) (by decide) (by decide) (by decide) (by decide) (by decide) (by decide) (by decide) (by decide) (by decide), km 106 (4 * k + 3) (by decide) (by decide) (by decide) (by decide) (by decide) (by decide) (by decide) (by decide) (by decide) (by decide) (by decide)]; exact u3 k a b
      · refine ⟨fun c a b => ?_, ?_, ?_, fun i a b => ?_⟩
        · rw [e3 63 c (by decide), e3 64 c (by decide), (pt6 c a b).2.2.1, (pt6 c a b).2.2.2, (rf6 c a b).2.2.1, (rf6 c a b).2.2.2]; decide
        · rw [rf3, e3 62 3 (by decide), pt3]
        · rw [e3 62 3 (by decide), pt3]; decide
        · rw [e3 62 3 (by decide), pt3] at b; omega
      · obtain ⟨u1, u2⟩ := h.kO
        refine ⟨fun o a b => ?_, fun x a b => ?_⟩
        · rw [km 116 o (by decide) (by decide) (by decide) (by decide) (by decide) (by decide) (by decide) (by decide) (by decide) (by decide) (by decide), km 118 o (by decide) (by decide) (by decide) (by decide) (by decide) (by decide) (by decide) (by decide) (by decide) (by decide) (by decide), kc 70 o (by decide) (by decide) (by decide) (by decide) (by decide) (by decide) (by omega) (by decide) (by decide) (by decide) (by decide) (by decide) (by decide) (by decide) (by decide) (by decide), kc 72 o (by decide) (by decide) (by decide) (by decide) (by decide) (by decide) (by omega) (by decide) (by decide) (by decide) (by decide) (by decide) (by decide) (by decide) (by decide) (by decide)]; exact u1 o a b
        · rw [rf9 x a b, e3 71 x (by decide), pt9 x a b]; decide
      · intro x a b
        rw [kc 23 x (by decide) (by decide) (by decide) (by decide) (by decide) (by decide) (by omega) (by decide) (by decide) (by decide) (by decide) (by decide) (by decide) (by decide) (by decide) (by decide)]
        exact h.kL x a b
  · obtain ⟨⟨-, hN⟩ | ⟨rfl, hN⟩, rfl, rfl⟩ := hx
    · exact hN.elim
    · obtain ⟨d2, Q2, hd, hsp, hk⟩ := hR t dr tx w1 (fun _ _ _ _ => rfl)
      refine ⟨1, Or.inr ⟨rfl, rfl, by decide⟩, ⟨_, _, _, rfl⟩, d2, Q2, hd, hsp, fun v2 S2 w3 hq2 => ?_⟩
      obtain ⟨rfl, ⟨-, rfl, rfl⟩ | ⟨g, -⟩⟩ := hk v2 S2 w3 hq2
      · refine ⟨⟨_, rfl⟩, up_same _ _ _ _, t, dr, tx, rfl, zSim_k h (fun cc xx hs => ?_)⟩
        obtain ⟨q1, -, -, q2⟩ := sFp_n ht hs
        rw [up_n (by omega)]
      · exact absurd g hN
