/-! plan, even on both sides -/
theorem sFp_16 {t c : Nat} {x : Int} (ht : t = 4 ∨ t = 10) (h : sFp t c x) : c ≠ 16 ∨ x = 12 ∨ x = 13 ∨ x = 15 ∨ x = 16 := by
  unfold sFp at h
  omega
set_option maxRecDepth 100000 in
set_option maxHeartbeats 4000000 in
theorem P_plan {l : Launch} {N0 t dr tx : Nat} {w : zW} (h : zSim N0 t dr tx w) : zPr l N0 mX11_plan mX12_plan 0 0 false [] t dr tx w := by
  obtain ⟨⟨n0, n1, n2, n3⟩, n4, n5, n6, n7⟩ := sYd_n h.ky
  have ht : t = 4 ∨ t = 10 := by have := h.ht; omega
  have hpl := sPlan_n h.kp
  have hor := sOr_n h.ko
  have hcl := sClm_n h.kl
  have htr := sTr_n h.kT
  have hge := h.kg.2.1
  have hge2 := h.kg.1
  have htp := h.ka.1
  have htp2 := h.ka.2.1
  have hfl := h.kf.1
  have hY := sYd_y h.ky
  have hM := sYd_m h.ky
  refine ⟨_, _, _, _, _, ⟨by decide, by decide, by decide⟩, s_plan (w := w) ht hY, fun v S w1 hq w2 e => ?_, fun E S w1 hx => hx.elim⟩
  obtain ⟨rfl, rfl, p0, ⟨p1, p2⟩, R, r, hb, hct, hrz, har, hln, hpr, hen⟩ := hq
  have e2 : ∀ (cc : Nat) (xx : Int), 73 ≤ cc → cc ≠ 121 → w2 cc xx = w cc xx := fun cc xx a b => by rw [e cc xx b, p0 cc xx (by omega) (by omega)]
  obtain ⟨m1, m2, m3, m4, m5, m6⟩ := my_c2 e2
  refine ⟨⟨_, _, _, rfl⟩, ⟨_, rfl⟩, _, _, ?_, m_plan (w := w2) (m5 hM), fun x2 S2 w3 hq2 => ?_⟩
  · decide
  rw [m1, m2, m3, m4, m6, n1] at hq2
  obtain ⟨rfl, rfl, r0, ⟨r1, r2⟩, R', r', hb', hct', hrz', har', hln', hpr', hen'⟩ := hq2
  have hag := sYd_ag h.ky
  have hRR : R = R' := bz_u (bz_ag hag hb) hb'
  have hrr : r = r' := by rw [← hct, ← hct', hRR]
  subst hrr
  have e3 : ∀ (cc : Nat) (xx : Int), cc < 73 → w3 cc xx = w1 cc xx := fun cc xx a => by rw [r0 cc xx (by omega) (by omega) (by omega) (by omega) (Or.inl (by omega)), e cc xx (by omega)]
  have k4 : ∀ x : Int, w3 (t + 4) x = w (t + 4) x := fun x => by rw [e3 (t + 4) x (by omega), p0 (t + 4) x (by omega) (by omega)]
  have k7 : w3 t 7 = w t 7 := by rw [e3 t 7 (by omega), p0 t 7 (by omega) (by omega)]
  have ek : ∀ (cc : Nat) (xx : Int), sFp t cc xx → ¬ ((cc = 16 ∧ xx = 12) ∨ (cc = 16 ∧ xx = 13) ∨ (cc = 16 ∧ xx = 15) ∨ (cc = 16 ∧ xx = 16) ∨ (cc = 73 ∧ xx = 26) ∨ (cc = 73 ∧ xx = 28) ∨ (cc = 73 ∧ xx = 76) ∨ cc = 25 ∨ cc = 26 ∨ cc = 27 ∨ cc = 87 ∨ cc = 88 ∨ cc = 113) → w3 cc xx = w cc xx := fun cc xx hs hn => by
    obtain ⟨q1, qb, qc, q2⟩ := sFp_n ht hs
    have qm := sFp_m ht hs
    have z16 : cc ≠ 16 := fun hk => (sFp_16 ht hs).elim (fun g => g hk) (fun g => hn (by rcases g with g | g | g | g <;> simp [hk, g]))
    have z25 : cc ≠ 25 := fun hk => hn (by simp [hk])
    have z26 : cc ≠ 26 := fun hk => hn (by simp [hk])
    have zr : cc < 17 ∨ 26 < cc ∨ cc = 23 := by
      clear q1 qb qc qm hn hpl hor hcl htr hge hge2 htp htp2 hfl
      omega
    rw [r0 cc xx (q2.2.2.2.2.2.2.2.2.2.2.2.2.2.2.2.2.2.2.2.2.2.2.2.1) (q2.2.2.2.2.2.2.2.2.2.2.2.2.2.2.2.2.2.2.2.2.2.2.2.2.1) (fun hk => hn (by simp [hk])) (fun hk => hn (by simp [hk])) (by by_cases z : cc = 73; (subst z; exact Or.inr ⟨fun hk => (q1.resolve_left (fun g => g rfl)).1 hk, fun hk => hn (by simp [hk]), fun hk => (q1.resolve_left (fun g => g rfl)).2.1 hk, fun hk => hn (by simp [hk]), fun hk => hn (by simp [hk])⟩); exact Or.inl z), e cc xx (q2.2.2.2.2.2.2.2.2.2.2.2.2.2.2.2.2.2.2.2.2.2.2.2.2.2.2.2.2.2.2.2.2), p0 cc xx z16 zr]
  have hp27 : w3 73 27 = w1 16 14 := by rw [← hpr', ← prR_ag hag hrz, hpr]
  have hlen := len_n n5.1 hrz
  have h25 : w3 25 = w1 25 := funext fun x => e3 25 x (by decide)
  have h26 : w3 26 = w1 26 := funext fun x => e3 26 x (by decide)
  refine ⟨by rw [hp27], r1, r0 121 0 (by decide) (by decide) (by decide) (by decide) (Or.inl (by decide)), t, dr, tx, rfl, zSim_uPlan h ek (Or.inr ⟨?_, ?_, ?_, ?_, ?_, Or.inl ⟨?_, r2⟩⟩)⟩
  · rw [e3 16 15 (by decide)]; exact p1
  · rw [e3 16 12 (by decide), hln]; omega
  · rw [hln', e3 16 12 (by decide), hln]
  · rw [← hen', ← enR_ag hag hrz, hen, e3 16 13 (by decide)]
  · intro i a b
    rw [e3 16 12 (by decide), hln] at b
    rw [h25, h26, k7, k4]
    have u1 := arR_u har' har i a b
    have u2 := arR_b (yG hY) hrz har i a b
    exact ⟨u1, u2.1, u2.2⟩
  · rw [e3 16 16 (by decide)]; exact p2
set_option maxRecDepth 100000 in
set_option maxHeartbeats 4000000 in
theorem P_even {l : Launch} {N0 t dr tx : Nat} {w : zW} (h : zSim N0 t dr tx w) {g : Int} (hr_g : inR g) : zPr l N0 mX11_even mX12_even 0 0 false [zI g] t dr tx w := by
  obtain ⟨⟨n0, n1, n2, n3⟩, n4, n5, n6, n7⟩ := sYd_n h.ky
  have ht : t = 4 ∨ t = 10 := by have := h.ht; omega
  have hpl := sPlan_n h.kp
  have hor := sOr_n h.ko
  have hcl := sClm_n h.kl
  have htr := sTr_n h.kT
  have hge := h.kg.2.1
  have hge2 := h.kg.1
  have htp := h.ka.1
  have htp2 := h.ka.2.1
  have hfl := h.kf.1
  have hY := sYd_y h.ky
  have hrow : w 16 15 = 1 → ∀ j : Int, 0 ≤ j → j < w 16 12 → 0 ≤ w 25 j ∧ w 25 j < w t 7 := fun q j a b => (sPlan_r h.kp q a b).2.1
  have hwt : w 16 15 = 1 → ∀ j : Int, 0 ≤ j → j < w 16 12 → w 81 (6 * w 87 j) = w (t + 4) (w 25 j * 6) ∧ mWt w j = yWt w t j ∧ (0 ≤ w 87 j ∧ w 87 j < 8) ∧ (0 ≤ w 81 (6 * w 87 j) ∧ w 81 (6 * w 87 j) < 12) ∧ 0 ≤ mWt w j ∧ mWt w j ≤ 1800 := fun q j a b => by
    have h1 := sPlan_r h.kp q a b
    have h2 := sYd_let h.ky h1.2.1.1 h1.2.1.2
    unfold okLet at h2
    have h3 := sYd_l0 h.ky h1.2.1.1 h1.2.1.2
    have h4 := sYd_ll h.ky (k := 1) h1.2.1.1 h1.2.1.2 (by decide) (by decide)
    have h5 := sYd_h h.ky (c := w (t + 4) (w 25 j * 6)) h2.1.1 h2.1.2
    have e1 : mWt w j = yWt w t j := by
      unfold mWt yWt
      rw [h1.1.1, h3, h4, h5.1]
    have hmul : 0 ≤ w (t + 4) (w 25 j * 6 + 1) * w (t + 1) (w (t + 4) (w 25 j * 6)) ∧ w (t + 4) (w 25 j * 6 + 1) * w (t + 1) (w (t + 4) (w 25 j * 6)) ≤ 9 * 200 := ⟨Int.mul_nonneg (by omega) (by omega), Int.mul_le_mul (by omega) (by omega) (by omega) (by decide)⟩
    refine ⟨by rw [h1.1.1, h3], e1, by rw [h1.1.1]; omega, by rw [h1.1.1, h3]; omega, ?_⟩
    rw [e1]
    unfold yWt
    omega
  have hR : ∀ w2 : zW, (∀ (cc : Nat) (xx : Int), 73 ≤ cc → cc ≠ 121 → w2 cc xx = w cc xx) → ∃ (d2 : Nat) (Q2 : Option Value → zS → zW → Prop), d2 ≤ 15 ∧ zSp l mX12_even false d2 0 0 [zR 73, zI g] (ZZ t dr tx) w2 Q2 zNo ∧ ∀ v2 S2 w3, Q2 v2 S2 w3 → S2 = ZZ t dr tx ∧ ((¬ (w 73 26 ≠ -1 ∧ 2 ≤ g ∧ g ≤ 4) ∧ v2 = some (zI (-1)) ∧ w3 = up w2 73 1 0) ∨ ((w 73 26 ≠ -1 ∧ 2 ≤ g ∧ g ≤ 4) ∧ (∀ c x, c ≠ 113 → c ≠ 114 → c ≠ 115 → (c ≠ 73 ∨ (x ≠ 1 ∧ x ≠ 76 ∧ x ≠ 77)) → w3 c x = w2 c x) ∧ (w3 73 1 = 0 ∧ w3 73 76 = w 73 26) ∧ ∃ s, fmn (vl g (w 73 26).toNat) (fun s => mxL (lfn (mWt w) 0 s (fun _ => 0)) g.toNat) s ∧ v2 = some (zI (mxL (lfn (mWt w) 0 s (fun _ => 0)) g.toNat)) ∧ alS (w3 113) 0 s)) := fun w2 e => by
    have g73 : w2 73 = w 73 := funext fun x => e 73 x (by decide) (by decide)
    have g79 : w2 79 = w 79 := funext fun x => e 79 x (by decide) (by decide)
    have g81 : w2 81 = w 81 := funext fun x => e 81 x (by decide) (by decide)
    have g87 : w2 87 = w 87 := funext fun x => e 87 x (by decide) (by decide)
    have gw : mWt w2 = mWt w := by unfold mWt; rw [g79, g81, g87]
    have h15 : ∀ j : Int, 0 ≤ j → j < w 73 26 → w 16 15 = 1 ∧ j < w 16 12 := fun j a b => by omega
    refine ⟨_, _, ?_, m_even (w := w2) hr_g (by rw [g73]; omega) (by rw [g73]; omega) (fun j a b => ?_) (fun j a b => ?_), fun v2 S2 w3 hq => ?_⟩
    · decide
    · rw [g73] at b
      rw [g81, g87]
      obtain ⟨b1, b2⟩ := h15 j a b
      have := hwt b1 j a b2
      exact ⟨this.2.2.1, this.2.2.2.1⟩
    · rw [g73] at b
      rw [gw]
      obtain ⟨b1, b2⟩ := h15 j a b
      exact (hwt b1 j a b2).2.2.2.2
    · rw [g73, gw] at hq
      exact hq
  refine ⟨_, _, _, _, _, ⟨by decide, by decide, by decide⟩, s_even2 (w := w) ht hY hr_g (by omega) (by omega) (by omega) hrow h.kL, fun v S w1 hq w2 e => ?_, fun E S w1 hx => hx.elim⟩
  obtain ⟨rfl, ⟨hz, rfl, rfl⟩ | ⟨hz, p0, p1, s, p2, rfl, p3⟩⟩ := hq
  · have hzz : ¬ (w1 73 26 ≠ -1 ∧ 2 ≤ g ∧ g ≤ 4) := by omega
    obtain ⟨d2, Q2, hd, hsp, hk⟩ := hR w2 (fun cc xx a b => e cc xx b)
    refine ⟨⟨_, _, _, rfl⟩, ⟨_, rfl⟩, d2, Q2, hd, hsp, fun v2 S2 w3 hq2 => ?_⟩
    obtain ⟨rfl, ⟨-, rfl, rfl⟩ | ⟨q, -⟩⟩ := hk v2 S2 w3 hq2
    · refine ⟨rfl, up_same _ _ _ _, up_n (Or.inl (by decide)), t, dr, tx, rfl, zSim_k h (fun cc xx hs => ?_)⟩
      obtain ⟨q1, -, -, q2⟩ := sFp_n ht hs
      rw [up_n (by omega), e cc xx (by omega)]
    · exact absurd q hzz
  · have e2 : ∀ (cc : Nat) (xx : Int), 73 ≤ cc → cc ≠ 121 → w2 cc xx = w cc xx := fun cc xx a b => by rw [e cc xx b, p0 cc xx (by omega) (by omega) (by omega) (Or.inl (by omega))]
    have h26 : w 73 26 = w 16 12 := by omega
    have hpl2 : 0 ≤ w 16 12 := by omega
    obtain ⟨d2, Q2, hd, hsp, hk⟩ := hR w2 e2
    refine ⟨⟨_, _, _, rfl⟩, ⟨_, rfl⟩, d2, Q2, hd, hsp, fun v2 S2 w3 hq2 => ?_⟩
    obtain ⟨rfl, ⟨q, -⟩ | ⟨-, r0, ⟨r1, r2⟩, s', r3, rfl, r4⟩⟩ := hk v2 S2 w3 hq2
    · exact absurd ⟨by omega, hz.2⟩ q
    rw [h26] at r2 r3
    have hgg : ((g.toNat : Nat) : Int) = g := by omega
    have hM : ∀ s : List Int, vl g (w 16 12).toNat s → mxL (lfn (mWt w) 0 s (fun _ => 0)) g.toNat = mxL (lfn (yWt w t) 0 s (fun _ => 0)) g.toNat := fun s hs => by
      rw [lfn_wt (wt := mWt w) (wt' := yWt w t) s 0 (fun _ => 0) (fun j a b => (hwt hz.1 j a (by rw [vl_len hs] at b; omega)).2.1)]
    have r5 : fmn (vl g (w 16 12).toNat) (fun s => mxL (lfn (yWt w t) 0 s (fun _ => 0)) g.toNat) s' := by
      refine ⟨r3.1, fun u hu => ?_⟩
      have := r3.2 u hu
      simp only [hM u hu, hM s' r3.1] at this
      exact this
    have hss : s' = s := by
      rw [← hgg] at p2 r5
      exact fmn_cv r5 p2
    subst hss
    have e3 : ∀ (cc : Nat) (xx : Int), cc < 73 → w3 cc xx = w1 cc xx := fun cc xx a => by rw [r0 cc xx (by omega) (by omega) (by omega) (Or.inl (by omega)), e cc xx (by omega)]
    have ek : ∀ (cc : Nat) (xx : Int), sFp t cc xx → ¬ ((cc = 16 ∧ xx = 12) ∨ (cc = 16 ∧ xx = 13) ∨ (cc = 16 ∧ xx = 15) ∨ (cc = 16 ∧ xx = 16) ∨ (cc = 73 ∧ xx = 26) ∨ (cc = 73 ∧ xx = 28) ∨ (cc = 73 ∧ xx = 76) ∨ cc = 25 ∨ cc = 26 ∨ cc = 27 ∨ cc = 87 ∨ cc = 88 ∨ cc = 113) → w3 cc xx = w cc xx := fun cc xx hs hn => by
      obtain ⟨q1, qb, qc, q2⟩ := sFp_n ht hs
      have qm := sFp_m ht hs
      rw [r0 cc xx (fun hk => hn (by simp [hk])) (q2.2.2.2.2.2.2.2.2.2.2.2.2.2.2.2.2.2.2.2.2.2.2.2.2.2.2.2.2.2.1) (q2.2.2.2.2.2.2.2.2.2.2.2.2.2.2.2.2.2.2.2.2.2.2.2.2.2.2.2.2.2.2.1) (by by_cases z : cc = 73; (subst z; exact Or.inr ⟨fun hk => (q1.resolve_left (fun g => g rfl)).1 hk, fun hk => hn (by simp [hk]), fun hk => (q1.resolve_left (fun g => g rfl)).2.2.2.2.1 hk⟩); exact Or.inl z), e cc xx (q2.2.2.2.2.2.2.2.2.2.2.2.2.2.2.2.2.2.2.2.2.2.2.2.2.2.2.2.2.2.2.2.2), p0 cc xx (q2.2.2.2.2.2.2.2.1) (q2.2.2.2.2.2.2.2.2.2.1) (fun hk => hn (by simp [hk])) (by by_cases z : cc = 16; (subst z; exact Or.inr ⟨fun hk => (qb.resolve_left (fun g => g rfl)).1 hk, fun hk => hn (by simp [hk])⟩); exact Or.inl z)]
    have k16 : ∀ x : Int, x ≠ 8 → x ≠ 16 → w3 16 x = w 16 x := fun x a b => by rw [e3 16 x (by decide), p0 16 x (by decide) (by decide) (by decide) (Or.inr ⟨a, b⟩)]
    have k73 : ∀ x : Int, x ≠ 1 → x ≠ 76 → x ≠ 77 → w3 73 x = w 73 x := fun x a b c => by rw [r0 73 x (by decide) (by decide) (by decide) (Or.inr ⟨a, b, c⟩), e2 73 x (by decide) (by decide)]
    have k4 : ∀ x : Int, w3 (t + 4) x = w (t + 4) x := fun x => by rw [e3 (t + 4) x (by omega), p0 (t + 4) x (by omega) (by omega) (by omega) (Or.inl (by omega))]
    have k7 : w3 t 7 = w t 7 := by rw [e3 t 7 (by omega), p0 t 7 (by omega) (by omega) (by omega) (Or.inl (by omega))]
    refine ⟨by rw [hM s' r3.1], r1, r0 121 0 (by decide) (by decide) (by decide) (Or.inl (by decide)), t, dr, tx, rfl, zSim_uPlan h ek (Or.inr ⟨?_, ?_, ?_, ?_, ?_, Or.inr ⟨?_, ?_, ?_⟩⟩)⟩
    · rw [k16 15 (by decide) (by decide)]; exact hz.1
    · rw [k16 12 (by decide) (by decide)]; omega
    · rw [k73 26 (by decide) (by decide) (by decide), k16 12 (by decide) (by decide)]; exact h26
    · rw [k73 28 (by decide) (by decide) (by decide), k16 13 (by decide) (by decide)]; omega
    · intro i a b
      rw [k16 12 (by decide) (by decide)] at b
      have h1 := sPlan_r h.kp hz.1 a b
      rw [k7, k4, r0 87 i (by decide) (by decide) (by decide) (Or.inl (by decide)), r0 88 i (by decide) (by decide) (by decide) (Or.inl (by decide)), e2 87 i (by decide) (by decide), e2 88 i (by decide) (by decide), e3 25 i (by decide), e3 26 i (by decide), p0 25 i (by decide) (by decide) (by decide) (Or.inl (by decide)), p0 26 i (by decide) (by decide) (by decide) (Or.inl (by decide))]
      exact h1
    · rw [e3 16 16 (by decide)]; exact p1
    · rw [r2, k16 12 (by decide) (by decide)]
    · intro i a b
      rw [k16 12 (by decide) (by decide)] at b
      rw [e3 27 i (by decide)]
      exact alS_u r4 p3 i a (by rw [vl_len r3.1]; omega)
