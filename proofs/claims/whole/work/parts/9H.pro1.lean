/-! reading calls on both sides -/
theorem sPlan_n {t : Nat} {w : zW} (h : sPlan t w) : (w 16 15 = 0 ∧ w 16 16 = 0 ∧ (0 ≤ w 16 12 ∧ w 16 12 ≤ 8) ∧ w 73 26 = -1 ∧ w 73 76 = -1) ∨ (w 16 15 = 1 ∧ (0 ≤ w 16 12 ∧ w 16 12 ≤ 8) ∧ w 73 26 = w 16 12 ∧ w 73 28 = w 16 13 ∧ ((w 16 16 = 0 ∧ w 73 76 = -1) ∨ (w 16 16 = 1 ∧ w 73 76 = w 16 12))) := by
  rcases h with h | ⟨h1, h2, h3, h4, -, h5⟩
  · exact Or.inl h
  · exact Or.inr ⟨h1, h2, h3, h4, h5.imp id (fun h => ⟨h.1, h.2.1⟩)⟩
theorem sPlan_r {t : Nat} {w : zW} (h : sPlan t w) (h1 : w 16 15 = 1) {i : Int} (i0 : 0 ≤ i) (i1 : i < w 16 12) : (w 87 i = w 25 i ∧ w 88 i = w 26 i) ∧ (0 ≤ w 25 i ∧ w 25 i < w t 7) ∧ 0 ≤ w 26 i ∧ w 26 i + w (t + 4) (w 25 i * 6 + 1) ≤ 30 := by
  rcases h with h | ⟨-, -, -, -, h, -⟩
  · omega
  · exact h i i0 i1
theorem sPlan_g {t : Nat} {w : zW} (h : sPlan t w) (h1 : w 16 16 = 1) {i : Int} (i0 : 0 ≤ i) (i1 : i < w 16 12) : w 113 i = w 27 i := by
  rcases h with h | ⟨-, -, -, -, -, h | ⟨-, -, h⟩⟩
  · omega
  · omega
  · exact h i i0 i1
theorem sOr_n {w : zW} (h : sOr w) : w 73 71 = w 62 3 ∧ 0 ≤ w 62 3 ∧ w 62 3 ≤ 9 := ⟨h.2.1, h.2.2.1⟩
theorem sClm_n {n t : Nat} {w : zW} (h : sClm n t w) : (w 73 44 = w 44 1 ∧ w 73 46 = w 44 4 ∧ w 73 54 = w 44 6) ∧ (0 ≤ w 44 1 ∧ w 44 1 ≤ 20) ∧ 0 ≤ w 44 6 ∧ w 44 6 ≤ 50 := ⟨h.1, h.2.1, h.2.2.1⟩
theorem sTr_n {w : zW} (h : sTr w) : ((w 34 8 = 0 ∧ w 73 39 = 0) ∨ ((w 34 8 = 1 ∨ w 34 8 = 2) ∧ w 73 39 = w 34 4 ∧ 2 ≤ w 34 4 ∧ w 34 4 ≤ 14)) ∧ ((0 ≤ w 73 40 ∧ w 73 40 ≤ 99) ∧ 0 ≤ w 73 41 ∧ w 73 41 ≤ 99) := ⟨h.1.imp id (fun h => ⟨h.1, h.2.2.2.1, h.2.1⟩), h.2.1⟩
theorem sTr_t {w : zW} (h : sTr w) (h8 : w 34 8 ≠ 0) : (w 34 8 = 1 ∨ w 34 8 = 2) ∧ (2 ≤ w 34 4 ∧ w 34 4 ≤ 14) ∧ ((0 ≤ w 34 5 ∧ w 34 5 ≤ 99) ∧ 0 ≤ w 34 6 ∧ w 34 6 ≤ 99) ∧ w 73 39 = w 34 4 ∧ mKd w = w 34 8 ∧ (w 34 8 = 1 → w 73 40 = w 34 5 ∧ w 73 41 = w 34 6) ∧ lOk (mF w) (w 35) (w 34 9) ((2 ^ (w 34 4).toNat : Nat) : Int) ∧ (w 34 7 = 0 ∨ (w 34 7 = 1 ∧ qst (mF w) (w 34 8) (w 34 4) (w 34 10) (w 34 11) (w 34 12))) := by
  rcases h.1 with h | h
  · exact absurd h.1 h8
  · exact h
theorem my_c2 {w w2 : zW} (e : ∀ (c : Nat) (x : Int), 73 ≤ c → c ≠ 121 → w2 c x = w c x) : mCan w2 = mCan w ∧ mWd w2 = mWd w ∧ mPr w2 = mPr w ∧ mTv w2 = mTv w ∧ (okMY w → okMY w2) ∧ w2 76 0 = w 76 0 := my_c (fun c x a b => e c x (by omega) (by omega))
theorem odF_c {bg ds st bg' ds' st' : Int → Int} (hst : ∀ d : Int, 0 ≤ d → d < 30 → st d = st' d) {m : Int} (hp : okPl bg ds m) (hb : ∀ i : Int, 0 ≤ i → i < m → bg i = bg' i ∧ ds i = ds' i) : ∀ i : Nat, (i : Int) ≤ m → odF bg ds st i = odF bg' ds' st' i
  | 0, _ => rfl
  | i + 1, h => by
    have h1 := hb i (by omega) (by omega)
    have h2 := hp i (by omega) (by omega)
    have ih := odF_c hst hp hb i (by omega)
    have hd : ∀ (k : Nat) (a v : Int), 0 ≤ a → a + (k : Int) ≤ 30 → dayF st a v k = dayF st' a v k := by
      intro k
      induction k with
      | zero => intro a v _ _; rfl
      | succ k ihk => intro a v a0 a1; simp only [dayF]; rw [ihk _ _ a0 (by omega), hst _ (by omega) (by omega)]
    show dayF st (bg i) (odF bg ds st i) (ds i).toNat = dayF st' (bg' i) (odF bg' ds' st' i) (ds' i).toNat
    rw [ih, ← h1.1, ← h1.2]
    exact hd _ _ _ h2.1 (by omega)
theorem dbF_c {bg ds bg' ds' : Int → Int} {day m : Int} (hb : ∀ i : Int, 0 ≤ i → i < m → bg i = bg' i ∧ ds i = ds' i) : ∀ i : Nat, (i : Int) ≤ m → dbF bg ds day i = dbF bg' ds' day i
  | 0, _ => rfl
  | i + 1, h => by
    have h1 := hb i (by omega) (by omega)
    show dbF bg ds day i + (if bg i + ds i ≤ day then 1 else 0) = dbF bg' ds' day i + (if bg' i + ds' i ≤ day then 1 else 0)
    rw [dbF_c hb i (by omega), h1.1, h1.2]
theorem lmR_u {Y M : Int → Int} {d m k lt r r' : Int} (h : lmR Y M d m k lt r) (h' : lmR Y M d m k lt r') : r = r' := by
  by_cases q : hv Y M d m
  · exact isFst_u (h.2 q) (h'.2 q)
  · rw [h.1 q, h'.1 q]
theorem sIr_w {w : zW} (h : sIr w) {c : Int} (c0 : 0 ≤ c) (c1 : c < 12) {n : Int} (hn : w 79 c = n) (y v : Int) : cWf w c n y v = fun s => mWant w c y v s := by
  have h1 := h.1 c c0 c1
  funext s
  unfold cWf mWant
  have e : cBears w c s y = mBears w c s y := by
    unfold cBears mBears
    rw [h1.1.1, h1.2.1]
    congr 1
    refine zsum_c _ (fun k hk => ?_)
    obtain ⟨g0, g1, g2, g3⟩ := h.2.2 (8 * c + (k : Int)) (by omega) (by omega)
    unfold cBand mBand iHeld
    rw [g0, g1, g2, g3]
    split <;> split <;> (try rfl)
  rw [e, hn]
theorem sIr_m {w w2 : zW} (h : sIr w) (e : ∀ (c : Nat) (x : Int), 73 ≤ c → c ≠ 121 → w2 c x = w c x) : ∀ c : Int, 0 ≤ c → c < 12 → okMIron w2 c := fun c c0 c1 => by
  have h1 := h.1 c c0 c1
  have g5 : w2 105 = w 105 := funext fun x => e 105 x (by decide) (by decide)
  have g6 : w2 106 = w 106 := funext fun x => e 106 x (by decide) (by decide)
  have g7 : w2 107 = w 107 := funext fun x => e 107 x (by decide) (by decide)
  unfold okMIron
  rw [g5, g6, g7]
  refine ⟨by omega, by omega, fun b b0 b1 => ?_⟩
  have h2 := h.2.1 (8 * c + b) (by omega) (by omega)
  obtain ⟨q0, q1, q2, q3⟩ := h.2.2 (8 * c + b) (by omega) (by omega)
  rw [q0, q1, q2, q3]
  exact h2
theorem mWant_c {w w2 : zW} (e : ∀ (c : Nat) (x : Int), 73 ≤ c → c ≠ 121 → w2 c x = w c x) : mWant w2 = mWant w := by
  funext c y v s
  have g5 : w2 105 = w 105 := funext fun x => e 105 x (by decide) (by decide)
  have g6 : w2 106 = w 106 := funext fun x => e 106 x (by decide) (by decide)
  have g7 : w2 107 = w 107 := funext fun x => e 107 x (by decide) (by decide)
  have g9 : w2 79 = w 79 := funext fun x => e 79 x (by decide) (by decide)
  unfold mWant mBears mBand
  rw [g5, g6, g7, g9]
theorem mF_c {w w2 : zW} (e : ∀ (c : Nat) (x : Int), 73 ≤ c → c ≠ 121 → w2 c x = w c x) : mF w2 = mF w := by
  unfold mF
  rw [show w2 93 = w 93 from funext fun x => e 93 x (by decide) (by decide)]
theorem mKd_c {w w2 : zW} (e : ∀ (c : Nat) (x : Int), 73 ≤ c → c ≠ 121 → w2 c x = w c x) : mKd w2 = mKd w := by
  unfold mKd
  rw [e 73 42 (by decide) (by decide)]
theorem sPb_m {w w2 : zW} (h : sPb w) (e : ∀ (c : Nat) (x : Int), 73 ≤ c → c ≠ 121 → w2 c x = w c x) : okMb w2 := fun c c0 c1 => by
  obtain ⟨h1, h2, h3⟩ := h
  obtain ⟨k1, k2, k3⟩ := h3 c c0 c1
  obtain ⟨m1, m2⟩ := h1 c c0 c1
  rw [e 89 c (by decide) (by decide), e 90 c (by decide) (by decide), m1, m2]
  refine ⟨k1, k2, fun k k0 k9 => ?_⟩
  rw [e 91 _ (by decide) (by decide), e 92 _ (by decide) (by decide), (h2 _).1, (h2 _).2, show 10 * c + k = c * 10 + k by omega]
  exact k3 k k0 k9
theorem sPb_y {w : zW} (h : sPb w) (c : Int) : (fun k => w 91 (10 * c + k)) = (fun k => w 30 (c * 10 + k)) ∧ (fun k => w 92 (10 * c + k)) = (fun k => w 31 (c * 10 + k)) :=
  ⟨funext fun k => by rw [(h.2.1 _).1, show 10 * c + k = c * 10 + k by omega], funext fun k => by rw [(h.2.1 _).2, show 10 * c + k = c * 10 + k by omega]⟩
set_option maxRecDepth 100000 in
set_option maxHeartbeats 4000000 in
theorem P_fault {l : Launch} {N0 t dr tx : Nat} {w : zW} (h : zSim N0 t dr tx w) : zPr l N0 mX11_fault mX12_fault 0 0 false [] t dr tx w := by
  obtain ⟨⟨n0, n1, n2, n3⟩, n4, n5, n6, n7⟩ := sYd_n h.ky
  have ht : t = 4 ∨ t = 10 := by have := h.ht; omega
  have hpl := sPlan_n h.kp
  have hor := sOr_n h.ko
  have hcl := sClm_n h.kl
  have htr := sTr_n h.kT
  have hge := h.kg.2.1
  have hge2 := h.kg.1
  have htp := h.ka.1
  have htp2 := h.ka.2.1
  have hfl := h.kf.1
  have hR : ∀ w2 : zW, (∀ (c : Nat) (x : Int), 73 ≤ c → c ≠ 121 → w2 c x = w c x) → ∃ (d2 : Nat) (Q2 : Option Value → zS → zW → Prop), d2 ≤ 15 ∧ zSp l mX12_fault false d2 0 0 [zR 73] (ZZ t dr tx) w2 Q2 zNo ∧ ∀ v2 S2 w3, Q2 v2 S2 w3 → S2 = ZZ t dr tx ∧ zFr w2 w3 ∧ ∃ r, v2 = some (zI r) ∧ zGq False False (fun z => z = w 73 21) r (w3 73 1) := fun w2 e => by
    have g73 : w2 73 = w 73 := funext fun x => e 73 x (by decide) (by decide)
    refine ⟨_, _, ?_, m_fault (w := w2) , fun v2 S2 w3 hq => ?_⟩
    · decide
    have hq2 := zMq_G (P1 := False) (P2 := False) ⟨hq.2.1, Or.inr (Or.inr ⟨id, id, hq.1, hq.2.2⟩)⟩
    simp only [g73] at hq2
    exact hq2
  refine zPr_ro (N1 := False) (N2 := False) h ⟨by decide, by decide, by decide⟩ (s_fault (w := w) ) (fun v S w1 hq => zIs_Q (P := True) ⟨trivial, hq.1, hq.2.1, hq.2.2⟩) (fun E S w1 hx => hx.elim) hR (fun r hr => ⟨id, id⟩) (fun r r2 hr hr2 => ?_) (fun hn => hn.elim) (fun hn => hn.elim)
  rw [hr2, hr.2]; exact hfl
set_option maxRecDepth 100000 in
set_option maxHeartbeats 4000000 in
theorem P_count {l : Launch} {N0 t dr tx : Nat} {w : zW} (h : zSim N0 t dr tx w) {k : Int} (hr_k : inR k) : zPr l N0 mX11_count mX12_count 1 0 false [zI k] t dr tx w := by
  obtain ⟨⟨n0, n1, n2, n3⟩, n4, n5, n6, n7⟩ := sYd_n h.ky
  have ht : t = 4 ∨ t = 10 := by have := h.ht; omega
  have hpl := sPlan_n h.kp
  have hor := sOr_n h.ko
  have hcl := sClm_n h.kl
  have htr := sTr_n h.kT
  have hge := h.kg.2.1
  have hge2 := h.kg.1
  have htp := h.ka.1
  have htp2 := h.ka.2.1
  have hfl := h.kf.1
  have hR : ∀ w2 : zW, (∀ (c : Nat) (x : Int), 73 ≤ c → c ≠ 121 → w2 c x = w c x) → ∃ (d2 : Nat) (Q2 : Option Value → zS → zW → Prop), d2 ≤ 15 ∧ zSp l mX12_count false d2 0 0 [zR 73, zI k] (ZZ t dr tx) w2 Q2 zNo ∧ ∀ v2 S2 w3, Q2 v2 S2 w3 → S2 = ZZ t dr tx ∧ zFr w2 w3 ∧ ∃ r, v2 = some (zI r) ∧ zGq (¬ (0 ≤ k ∧ k < 8)) False (fun z => z = (if k = 0 then w 75 0 else if k = 1 then w 76 0 else if k = 2 then w 77 0 else if k = 3 then w 78 0 else if k = 4 then w 73 44 else if k = 5 then w 73 12 else if k = 6 then w 73 45 else w 73 46)) r (w3 73 1) := fun w2 e => by
    have g73 : w2 73 = w 73 := funext fun x => e 73 x (by decide) (by decide)
    have g75 : w2 75 = w 75 := funext fun x => e 75 x (by decide) (by decide)
    have g76 : w2 76 = w 76 := funext fun x => e 76 x (by decide) (by decide)
    have g77 : w2 77 = w 77 := funext fun x => e 77 x (by decide) (by decide)
    have g78 : w2 78 = w 78 := funext fun x => e 78 x (by decide) (by decide)
    refine ⟨_, _, ?_, m_count (w := w2) hr_k, fun v2 S2 w3 hq => ?_⟩
    · decide
    have hq2 := zMq_G hq
    simp only [g73, g75, g76, g77, g78] at hq2
    exact hq2
  refine zPr_ro h ⟨by decide, by decide, by decide⟩ (s_count (w := w) ht hr_k) (fun v S w1 hq => zIs_Q hq) (fun E S w1 hx => hx) hR (fun r hr => by refine ⟨?_, ?_⟩ <;> first | exact id | omega) (fun r r2 hr hr2 => ?_) (fun hn => by first | exact hn.elim | omega) (fun hn => by first | exact hn.elim | exact Or.inl ⟨by omega, rfl⟩ | omega)
  rw [hr2, hr.2]
  rw [n0, n1, n2, n3, hcl.1.1, htp2, hge2, hcl.1.2.1]
set_option maxRecDepth 100000 in
set_option maxHeartbeats 4000000 in
theorem P_letter {l : Launch} {N0 t dr tx : Nat} {w : zW} (h : zSim N0 t dr tx w) {a k : Int} (hr_a : inR a) (hr_k : inR k) : zPr l N0 mX11_letter mX12_letter 1 0 false [zI a, zI k] t dr tx w := by
  obtain ⟨⟨n0, n1, n2, n3⟩, n4, n5, n6, n7⟩ := sYd_n h.ky
  have ht : t = 4 ∨ t = 10 := by have := h.ht; omega
  have hpl := sPlan_n h.kp
  have hor := sOr_n h.ko
  have hcl := sClm_n h.kl
  have htr := sTr_n h.kT
  have hge := h.kg.2.1
  have hge2 := h.kg.1
  have htp := h.ka.1
  have htp2 := h.ka.2.1
  have hfl := h.kf.1
  have hR : ∀ w2 : zW, (∀ (c : Nat) (x : Int), 73 ≤ c → c ≠ 121 → w2 c x = w c x) → ∃ (d2 : Nat) (Q2 : Option Value → zS → zW → Prop), d2 ≤ 15 ∧ zSp l mX12_letter false d2 0 0 [zR 73, zI a, zI k] (ZZ t dr tx) w2 Q2 zNo ∧ ∀ v2 S2 w3, Q2 v2 S2 w3 → S2 = ZZ t dr tx ∧ zFr w2 w3 ∧ ∃ r, v2 = some (zI r) ∧ zGq (¬ ((0 ≤ a ∧ a < w 76 0) ∧ 0 ≤ k ∧ k < 6)) (False) (fun z => z = (w 81 (6 * a + k))) r (w3 73 1) := fun w2 e => by
    have g76 : w2 76 = w 76 := funext fun x => e 76 x (by decide) (by decide)
    have g81 : w2 81 = w 81 := funext fun x => e 81 x (by decide) (by decide)
    refine ⟨_, _, ?_, m_letter (w := w2) hr_a hr_k (by simp only [g76, g81]; omega) (by simp only [g76, g81]; omega), fun v2 S2 w3 hq => ?_⟩
    · decide
    have hq2 := zMq_G hq
    simp only [g76, g81] at hq2
    exact hq2
  refine zPr_ro h ⟨by decide, by decide, by decide⟩ (s_letter (w := w) ht (by omega) hr_a hr_k) (fun v S w1 hq => zIs_Q hq) (fun E S w1 hx => hx) hR (fun r hr => by refine ⟨?_, ?_⟩ <;> first | exact id | omega) (fun r r2 hr hr2 => ?_) (fun hn => by first | exact hn.elim | omega) (fun hn => by first | exact hn.elim | exact Or.inl ⟨by omega, rfl⟩ | omega)
  rw [hr2, hr.2]
  exact sYd_ll h.ky hr.1.1.1 hr.1.1.2 hr.1.2.1 hr.1.2.2
set_option maxRecDepth 100000 in
set_option maxHeartbeats 4000000 in
theorem P_road {l : Launch} {N0 t dr tx : Nat} {w : zW} (h : zSim N0 t dr tx w) {a c : Int} (hr_a : inR a) (hr_c : inR c) : zPr l N0 mX11_road mX12_road 1 0 false [zI a, zI c] t dr tx w := by
  obtain ⟨⟨n0, n1, n2, n3⟩, n4, n5, n6, n7⟩ := sYd_n h.ky
  have ht : t = 4 ∨ t = 10 := by have := h.ht; omega
  have hpl := sPlan_n h.kp
  have hor := sOr_n h.ko
  have hcl := sClm_n h.kl
  have htr := sTr_n h.kT
  have hge := h.kg.2.1
  have hge2 := h.kg.1
  have htp := h.ka.1
  have htp2 := h.ka.2.1
  have hfl := h.kf.1
  have hR : ∀ w2 : zW, (∀ (c : Nat) (x : Int), 73 ≤ c → c ≠ 121 → w2 c x = w c x) → ∃ (d2 : Nat) (Q2 : Option Value → zS → zW → Prop), d2 ≤ 15 ∧ zSp l mX12_road false d2 0 0 [zR 73, zI a, zI c] (ZZ t dr tx) w2 Q2 zNo ∧ ∀ v2 S2 w3, Q2 v2 S2 w3 → S2 = ZZ t dr tx ∧ zFr w2 w3 ∧ ∃ r, v2 = some (zI r) ∧ zGq (¬ ((0 ≤ a ∧ a < w 75 0) ∧ 0 ≤ c ∧ c < w 75 0)) (False) (fun z => z = (w 82 (12 * a + c))) r (w3 73 1) := fun w2 e => by
    have g75 : w2 75 = w 75 := funext fun x => e 75 x (by decide) (by decide)
    have g82 : w2 82 = w 82 := funext fun x => e 82 x (by decide) (by decide)
    refine ⟨_, _, ?_, m_road (w := w2) hr_a hr_c (by simp only [g75, g82]; omega) (by simp only [g75, g82]; omega), fun v2 S2 w3 hq => ?_⟩
    · decide
    have hq2 := zMq_G hq
    simp only [g75, g82] at hq2
    exact hq2
  refine zPr_ro h ⟨by decide, by decide, by decide⟩ (s_road (w := w) ht (by omega) hr_a hr_c) (fun v S w1 hq => zIs_Q hq) (fun E S w1 hx => hx) hR (fun r hr => by refine ⟨?_, ?_⟩ <;> first | exact id | omega) (fun r r2 hr hr2 => ?_) (fun hn => by first | exact hn.elim | omega) (fun hn => by first | exact hn.elim | exact Or.inl ⟨by omega, rfl⟩ | omega)
  rw [hr2, hr.2]
  exact (sYd_t h.ky (by omega) (by omega) (by omega) (by omega)).1
set_option maxRecDepth 100000 in
set_option maxHeartbeats 4000000 in
theorem P_begins {l : Launch} {N0 t dr tx : Nat} {w : zW} (h : zSim N0 t dr tx w) {a d : Int} (hr_a : inR a) (hr_d : inR d) : zPr l N0 mX11_begins mX12_begins 1 2 false [zI a, zI d] t dr tx w := by
  obtain ⟨⟨n0, n1, n2, n3⟩, n4, n5, n6, n7⟩ := sYd_n h.ky
  have ht : t = 4 ∨ t = 10 := by have := h.ht; omega
  have hpl := sPlan_n h.kp
  have hor := sOr_n h.ko
  have hcl := sClm_n h.kl
  have htr := sTr_n h.kT
  have hge := h.kg.2.1
  have hge2 := h.kg.1
  have htp := h.ka.1
  have htp2 := h.ka.2.1
  have hfl := h.kf.1
  have hR : ∀ w2 : zW, (∀ (c : Nat) (x : Int), 73 ≤ c → c ≠ 121 → w2 c x = w c x) → ∃ (d2 : Nat) (Q2 : Option Value → zS → zW → Prop), d2 ≤ 15 ∧ zSp l mX12_begins false d2 0 0 [zR 73, zI a, zI d] (ZZ t dr tx) w2 Q2 zNo ∧ ∀ v2 S2 w3, Q2 v2 S2 w3 → S2 = ZZ t dr tx ∧ zFr w2 w3 ∧ ∃ r, v2 = some (zI r) ∧ zGq (¬ (0 ≤ a ∧ a < w 76 0)) (d < 0) (isFst (mCan w a) d) r (w3 73 1) := fun w2 e => by
    have g76 : w2 76 = w 76 := funext fun x => e 76 x (by decide) (by decide)
    have g78 : w2 78 = w 78 := funext fun x => e 78 x (by decide) (by decide)
    obtain ⟨hc2, -, -, -, hc3, -⟩ := my_c2 e
    refine ⟨_, _, ?_, m_begins (w := w2) hr_a hr_d (by simp only [g76, g78, hc2]; omega) (by simp only [g76, g78, hc2]; omega) (by simp only [g76, g78, hc2]; omega) (by simp only [g76, g78, hc2]; omega) (hc3 (sYd_m h.ky)).2.2.2.2, fun v2 S2 w3 hq => ?_⟩
    · decide
    have hq2 := zMr_G hq
    simp only [g76, g78, hc2] at hq2
    exact hq2
  refine zPr_ro h ⟨by decide, by decide, by decide⟩ (s_begins (w := w) ht (sYd_y h.ky) hr_a hr_d) (fun v S w1 hq => zIr_Q hq) (fun E S w1 hx => hx) hR (fun r hr => by refine ⟨?_, ?_⟩ <;> first | exact id | omega) (fun r r2 hr hr2 => ?_) (fun hn => by first | exact hn.elim | omega) (fun hn => by first | exact hn.elim | exact Or.inl ⟨by omega, rfl⟩ | omega)
  exact isFst_u hr2 (isFst_c (sYd_can h.ky hr.1.1.1 hr.1.1.2) hr.2)
set_option maxRecDepth 100000 in
set_option maxHeartbeats 4000000 in
theorem P_planned {l : Launch} {N0 t dr tx : Nat} {w : zW} (h : zSim N0 t dr tx w) {o k : Int} (hr_o : inR o) (hr_k : inR k) : zPr l N0 mX11_planned mX12_planned 1 0 false [zI o, zI k] t dr tx w := by
  obtain ⟨⟨n0, n1, n2, n3⟩, n4, n5, n6, n7⟩ := sYd_n h.ky
  have ht : t = 4 ∨ t = 10 := by have := h.ht; omega
  have hpl := sPlan_n h.kp
  have hor := sOr_n h.ko
  have hcl := sClm_n h.kl
  have htr := sTr_n h.kT
  have hge := h.kg.2.1
  have hge2 := h.kg.1
  have htp := h.ka.1
  have htp2 := h.ka.2.1
  have hfl := h.kf.1
  have hR : ∀ w2 : zW, (∀ (c : Nat) (x : Int), 73 ≤ c → c ≠ 121 → w2 c x = w c x) → ∃ (d2 : Nat) (Q2 : Option Value → zS → zW → Prop), d2 ≤ 15 ∧ zSp l mX12_planned false d2 0 0 [zR 73, zI o, zI k] (ZZ t dr tx) w2 Q2 zNo ∧ ∀ v2 S2 w3, Q2 v2 S2 w3 → S2 = ZZ t dr tx ∧ zFr w2 w3 ∧ ∃ r, v2 = some (zI r) ∧ zGq (¬ (w 73 26 ≠ -1 ∧ (0 ≤ k ∧ k < 2) ∧ -1 ≤ o ∧ o < w 73 26)) False (fun z => z = (if o = -1 then (if k = 0 then w 73 26 else w 73 28) else if k = 0 then w 87 o else w 88 o)) r (w3 73 1) := fun w2 e => by
    have g73 : w2 73 = w 73 := funext fun x => e 73 x (by decide) (by decide)
    have g87 : w2 87 = w 87 := funext fun x => e 87 x (by decide) (by decide)
    have g88 : w2 88 = w 88 := funext fun x => e 88 x (by decide) (by decide)
    refine ⟨_, _, ?_, m_planned (w := w2) hr_o hr_k (by simp only [g73, g87, g88]; omega) (by simp only [g73, g87, g88]; omega), fun v2 S2 w3 hq => ?_⟩
    · decide
    have hq2 := zMq_G hq
    simp only [g73, g87, g88] at hq2
    exact hq2
  refine zPr_ro h ⟨by decide, by decide, by decide⟩ (s_planned (w := w) hr_o hr_k (by omega) (by omega)) (fun v S w1 hq => zIs_Q hq) (fun E S w1 hx => hx) hR (fun r hr => by refine ⟨?_, ?_⟩ <;> first | exact id | omega) (fun r r2 hr hr2 => ?_) (fun hn => by first | exact hn.elim | omega) (fun hn => by first | exact hn.elim | exact Or.inl ⟨by omega, rfl⟩ | omega)
  rw [hr2, hr.2]
  by_cases o1 : o = -1
  · rw [if_pos o1, if_pos o1]
    by_cases k1 : k = 0
    · rw [if_pos k1, if_pos k1]; omega
    · rw [if_neg k1, if_neg k1]; omega
  · have hrow := sPlan_r h.kp hr.1.2.1 (i := o) (by omega) (by omega)
    rw [if_neg o1, if_neg o1]
    by_cases k1 : k = 0
    · rw [if_pos k1, if_pos k1]; exact hrow.1.1
    · rw [if_neg k1, if_neg k1]; exact hrow.1.2
set_option maxRecDepth 100000 in
set_option maxHeartbeats 4000000 in
theorem P_climbs {l : Launch} {N0 t dr tx : Nat} {w : zW} (h : zSim N0 t dr tx w) {k : Int} (hr_k : inR k) : zPr l N0 mX11_climbs mX12_climbs 1 0 false [zI k] t dr tx w := by
  obtain ⟨⟨n0, n1, n2, n3⟩, n4, n5, n6, n7⟩ := sYd_n h.ky
  have ht : t = 4 ∨ t = 10 := by have := h.ht; omega
  have hpl := sPlan_n h.kp
  have hor := sOr_n h.ko
  have hcl := sClm_n h.kl
  have htr := sTr_n h.kT
  have hge := h.kg.2.1
  have hge2 := h.kg.1
  have htp := h.ka.1
  have htp2 := h.ka.2.1
  have hfl := h.kf.1
  have hR : ∀ w2 : zW, (∀ (c : Nat) (x : Int), 73 ≤ c → c ≠ 121 → w2 c x = w c x) → ∃ (d2 : Nat) (Q2 : Option Value → zS → zW → Prop), d2 ≤ 15 ∧ zSp l mX12_climbs false d2 0 0 [zR 73, zI k] (ZZ t dr tx) w2 Q2 zNo ∧ ∀ v2 S2 w3, Q2 v2 S2 w3 → S2 = ZZ t dr tx ∧ zFr w2 w3 ∧ ∃ r, v2 = some (zI r) ∧ zGq (¬ (0 ≤ k ∧ k < 7)) (False) (fun z => z = (w 98 k)) r (w3 73 1) := fun w2 e => by
    have g98 : w2 98 = w 98 := funext fun x => e 98 x (by decide) (by decide)
    refine ⟨_, _, ?_, m_climbs (w := w2) hr_k, fun v2 S2 w3 hq => ?_⟩
    · decide
    have hq2 := zMq_G hq
    simp only [g98] at hq2
    exact hq2
  refine zPr_ro h ⟨by decide, by decide, by decide⟩ (s_climbs (w := w) hr_k) (fun v S w1 hq => zIs_Q hq) (fun E S w1 hx => hx) hR (fun r hr => by refine ⟨?_, ?_⟩ <;> first | exact id | omega) (fun r r2 hr hr2 => ?_) (fun hn => by first | exact hn.elim | omega) (fun hn => by first | exact hn.elim | exact Or.inl ⟨by omega, rfl⟩ | omega)
  rw [hr2, hr.2]
  exact (h.kl.2.2.2.2.2.2.1 k (by omega) (by omega)).1
set_option maxRecDepth 100000 in
set_option maxHeartbeats 4000000 in
theorem P_up {l : Launch} {N0 t dr tx : Nat} {w : zW} (h : zSim N0 t dr tx w) {c k : Int} (hr_c : inR c) (hr_k : inR k) : zPr l N0 mX11_up mX12_up 1 0 false [zI c, zI k] t dr tx w := by
  obtain ⟨⟨n0, n1, n2, n3⟩, n4, n5, n6, n7⟩ := sYd_n h.ky
  have ht : t = 4 ∨ t = 10 := by have := h.ht; omega
  have hpl := sPlan_n h.kp
  have hor := sOr_n h.ko
  have hcl := sClm_n h.kl
  have htr := sTr_n h.kT
  have hge := h.kg.2.1
  have hge2 := h.kg.1
  have htp := h.ka.1
  have htp2 := h.ka.2.1
  have hfl := h.kf.1
  have hR : ∀ w2 : zW, (∀ (c : Nat) (x : Int), 73 ≤ c → c ≠ 121 → w2 c x = w c x) → ∃ (d2 : Nat) (Q2 : Option Value → zS → zW → Prop), d2 ≤ 15 ∧ zSp l mX12_up false d2 0 0 [zR 73, zI c, zI k] (ZZ t dr tx) w2 Q2 zNo ∧ ∀ v2 S2 w3, Q2 v2 S2 w3 → S2 = ZZ t dr tx ∧ zFr w2 w3 ∧ ∃ r, v2 = some (zI r) ∧ zGq (¬ ((0 ≤ c ∧ c < w 75 0) ∧ 0 ≤ k ∧ k ≤ 29)) (False) (fun z => z = (w 99 (30 * c + k))) r (w3 73 1) := fun w2 e => by
    have g75 : w2 75 = w 75 := funext fun x => e 75 x (by decide) (by decide)
    have g99 : w2 99 = w 99 := funext fun x => e 99 x (by decide) (by decide)
    refine ⟨_, _, ?_, m_up (w := w2) hr_c hr_k (by simp only [g75, g99]; omega) (by simp only [g75, g99]; omega), fun v2 S2 w3 hq => ?_⟩
    · decide
    have hq2 := zMq_G hq
    simp only [g75, g99] at hq2
    exact hq2
  refine zPr_ro h ⟨by decide, by decide, by decide⟩ (s_up (w := w) ht (by omega) hr_c hr_k) (fun v S w1 hq => zIs_Q hq) (fun E S w1 hx => hx) hR (fun r hr => by refine ⟨?_, ?_⟩ <;> first | exact id | omega) (fun r r2 hr hr2 => ?_) (fun hn => by first | exact hn.elim | omega) (fun hn => by first | exact hn.elim | exact Or.inl ⟨by omega, rfl⟩ | omega)
  rw [hr2, hr.2]
  rw [show 30 * c + k = c * 30 + k by omega]
  exact (h.kl.2.2.2.2.1 _ (by omega) (by omega)).1
set_option maxRecDepth 100000 in
set_option maxHeartbeats 4000000 in
theorem P_life {l : Launch} {N0 t dr tx : Nat} {w : zW} (h : zSim N0 t dr tx w) {o : Int} (hr_o : inR o) : zPr l N0 mX11_life mX12_life 1 0 false [zI o] t dr tx w := by
  obtain ⟨⟨n0, n1, n2, n3⟩, n4, n5, n6, n7⟩ := sYd_n h.ky
  have ht : t = 4 ∨ t = 10 := by have := h.ht; omega
  have hpl := sPlan_n h.kp
  have hor := sOr_n h.ko
  have hcl := sClm_n h.kl
  have htr := sTr_n h.kT
  have hge := h.kg.2.1
  have hge2 := h.kg.1
  have htp := h.ka.1
  have htp2 := h.ka.2.1
  have hfl := h.kf.1
  have hR : ∀ w2 : zW, (∀ (c : Nat) (x : Int), 73 ≤ c → c ≠ 121 → w2 c x = w c x) → ∃ (d2 : Nat) (Q2 : Option Value → zS → zW → Prop), d2 ≤ 15 ∧ zSp l mX12_life false d2 0 0 [zR 73, zI o] (ZZ t dr tx) w2 Q2 zNo ∧ ∀ v2 S2 w3, Q2 v2 S2 w3 → S2 = ZZ t dr tx ∧ zFr w2 w3 ∧ ∃ r, v2 = some (zI r) ∧ zGq (¬ (0 ≤ o ∧ o < w 73 44)) (False) (fun z => z = (w 95 o)) r (w3 73 1) := fun w2 e => by
    have g73 : w2 73 = w 73 := funext fun x => e 73 x (by decide) (by decide)
    have g95 : w2 95 = w 95 := funext fun x => e 95 x (by decide) (by decide)
    refine ⟨_, _, ?_, m_life (w := w2) hr_o (by simp only [g73, g95]; omega) (by simp only [g73, g95]; omega), fun v2 S2 w3 hq => ?_⟩
    · decide
    have hq2 := zMq_G hq
    simp only [g73, g95] at hq2
    exact hq2
  refine zPr_ro h ⟨by decide, by decide, by decide⟩ (s_life (w := w) hr_o (by omega)) (fun v S w1 hq => zIs_Q hq) (fun E S w1 hx => hx) hR (fun r hr => by refine ⟨?_, ?_⟩ <;> first | exact id | omega) (fun r r2 hr hr2 => ?_) (fun hn => by first | exact hn.elim | omega) (fun hn => by first | exact hn.elim | exact Or.inl ⟨by omega, rfl⟩ | omega)
  rw [hr2, hr.2]
  exact (h.kl.2.2.2.1 o (by omega) (by omega)).1
set_option maxRecDepth 100000 in
set_option maxHeartbeats 4000000 in
theorem P_paid {l : Launch} {N0 t dr tx : Nat} {w : zW} (h : zSim N0 t dr tx w) {o k : Int} (hr_o : inR o) (hr_k : inR k) : zPr l N0 mX11_paid mX12_paid 1 0 false [zI o, zI k] t dr tx w := by
  obtain ⟨⟨n0, n1, n2, n3⟩, n4, n5, n6, n7⟩ := sYd_n h.ky
  have ht : t = 4 ∨ t = 10 := by have := h.ht; omega
  have hpl := sPlan_n h.kp
  have hor := sOr_n h.ko
  have hcl := sClm_n h.kl
  have htr := sTr_n h.kT
  have hge := h.kg.2.1
  have hge2 := h.kg.1
  have htp := h.ka.1
  have htp2 := h.ka.2.1
  have hfl := h.kf.1
  have hR : ∀ w2 : zW, (∀ (c : Nat) (x : Int), 73 ≤ c → c ≠ 121 → w2 c x = w c x) → ∃ (d2 : Nat) (Q2 : Option Value → zS → zW → Prop), d2 ≤ 15 ∧ zSp l mX12_paid false d2 0 0 [zR 73, zI o, zI k] (ZZ t dr tx) w2 Q2 zNo ∧ ∀ v2 S2 w3, Q2 v2 S2 w3 → S2 = ZZ t dr tx ∧ zFr w2 w3 ∧ ∃ r, v2 = some (zI r) ∧ zGq (¬ ((0 ≤ o ∧ o < 6) ∧ 0 ≤ k ∧ k < 2)) (False) (fun z => z = (if k = 0 then w 118 o else w 116 o)) r (w3 73 1) := fun w2 e => by
    have g118 : w2 118 = w 118 := funext fun x => e 118 x (by decide) (by decide)
    have g116 : w2 116 = w 116 := funext fun x => e 116 x (by decide) (by decide)
    refine ⟨_, _, ?_, m_paid (w := w2) hr_o hr_k, fun v2 S2 w3 hq => ?_⟩
    · decide
    have hq2 := zMq_G hq
    simp only [g118, g116] at hq2
    exact hq2
  refine zPr_ro h ⟨by decide, by decide, by decide⟩ (s_paid (w := w) hr_o hr_k) (fun v S w1 hq => zIs_Q hq) (fun E S w1 hx => hx) hR (fun r hr => by refine ⟨?_, ?_⟩ <;> first | exact id | omega) (fun r r2 hr hr2 => ?_) (fun hn => by first | exact hn.elim | omega) (fun hn => by first | exact hn.elim | exact Or.inl ⟨by omega, rfl⟩ | omega)
  rw [hr2, hr.2]
  have how := h.kO.1 o (by omega) (by omega)
  by_cases k1 : k = 0
  · rw [if_pos k1, if_pos k1]; exact how.2.1
  · rw [if_neg k1, if_neg k1]; exact how.1
set_option maxRecDepth 100000 in
set_option maxHeartbeats 4000000 in
theorem P_ordered {l : Launch} {N0 t dr tx : Nat} {w : zW} (h : zSim N0 t dr tx w) {o : Int} (hr_o : inR o) : zPr l N0 mX11_ordered mX12_ordered 1 0 false [zI o] t dr tx w := by
  obtain ⟨⟨n0, n1, n2, n3⟩, n4, n5, n6, n7⟩ := sYd_n h.ky
  have ht : t = 4 ∨ t = 10 := by have := h.ht; omega
  have hpl := sPlan_n h.kp
  have hor := sOr_n h.ko
  have hcl := sClm_n h.kl
  have htr := sTr_n h.kT
  have hge := h.kg.2.1
  have hge2 := h.kg.1
  have htp := h.ka.1
  have htp2 := h.ka.2.1
  have hfl := h.kf.1
  have hR : ∀ w2 : zW, (∀ (c : Nat) (x : Int), 73 ≤ c → c ≠ 121 → w2 c x = w c x) → ∃ (d2 : Nat) (Q2 : Option Value → zS → zW → Prop), d2 ≤ 15 ∧ zSp l mX12_ordered false d2 0 0 [zR 73, zI o] (ZZ t dr tx) w2 Q2 zNo ∧ ∀ v2 S2 w3, Q2 v2 S2 w3 → S2 = ZZ t dr tx ∧ zFr w2 w3 ∧ ∃ r, v2 = some (zI r) ∧ zGq (¬ (0 ≤ o ∧ o < w 73 71)) (False) (fun z => z = (w 111 o)) r (w3 73 1) := fun w2 e => by
    have g73 : w2 73 = w 73 := funext fun x => e 73 x (by decide) (by decide)
    have g111 : w2 111 = w 111 := funext fun x => e 111 x (by decide) (by decide)
    refine ⟨_, _, ?_, m_ordered (w := w2) hr_o (by simp only [g73, g111]; omega) (by simp only [g73, g111]; omega), fun v2 S2 w3 hq => ?_⟩
    · decide
    have hq2 := zMq_G hq
    simp only [g73, g111] at hq2
    exact hq2
  refine zPr_ro h ⟨by decide, by decide, by decide⟩ (s_ordered (w := w) hr_o (by omega)) (fun v S w1 hq => zIs_Q hq) (fun E S w1 hx => hx) hR (fun r hr => by refine ⟨?_, ?_⟩ <;> first | exact id | omega) (fun r r2 hr hr2 => ?_) (fun hn => by first | exact hn.elim | omega) (fun hn => by first | exact hn.elim | exact Or.inl ⟨by omega, rfl⟩ | omega)
  rw [hr2, hr.2]
  exact h.ko.2.2.2 o (by omega) (by omega)
set_option maxRecDepth 100000 in
set_option maxHeartbeats 4000000 in
theorem P_gang {l : Launch} {N0 t dr tx : Nat} {w : zW} (h : zSim N0 t dr tx w) {o : Int} (hr_o : inR o) : zPr l N0 mX11_gang mX12_gang 1 0 false [zI o] t dr tx w := by
  obtain ⟨⟨n0, n1, n2, n3⟩, n4, n5, n6, n7⟩ := sYd_n h.ky
  have ht : t = 4 ∨ t = 10 := by have := h.ht; omega
  have hpl := sPlan_n h.kp
  have hor := sOr_n h.ko
  have hcl := sClm_n h.kl
  have htr := sTr_n h.kT
  have hge := h.kg.2.1
  have hge2 := h.kg.1
  have htp := h.ka.1
  have htp2 := h.ka.2.1
  have hfl := h.kf.1
  have hR : ∀ w2 : zW, (∀ (c : Nat) (x : Int), 73 ≤ c → c ≠ 121 → w2 c x = w c x) → ∃ (d2 : Nat) (Q2 : Option Value → zS → zW → Prop), d2 ≤ 15 ∧ zSp l mX12_gang false d2 0 0 [zR 73, zI o] (ZZ t dr tx) w2 Q2 zNo ∧ ∀ v2 S2 w3, Q2 v2 S2 w3 → S2 = ZZ t dr tx ∧ zFr w2 w3 ∧ ∃ r, v2 = some (zI r) ∧ zGq (¬ (0 ≤ o ∧ o < w 73 76)) (False) (fun z => z = (w 113 o)) r (w3 73 1) := fun w2 e => by
    have g73 : w2 73 = w 73 := funext fun x => e 73 x (by decide) (by decide)
    have g113 : w2 113 = w 113 := funext fun x => e 113 x (by decide) (by decide)
    refine ⟨_, _, ?_, m_gang (w := w2) hr_o (by simp only [g73, g113]; omega) (by simp only [g73, g113]; omega), fun v2 S2 w3 hq => ?_⟩
    · decide
    have hq2 := zMq_G hq
    simp only [g73, g113] at hq2
    exact hq2
  refine zPr_ro h ⟨by decide, by decide, by decide⟩ (s_gang (w := w) hr_o (by omega) (by omega) (by omega)) (fun v S w1 hq => zIs_Q hq) (fun E S w1 hx => hx) hR (fun r hr => by refine ⟨?_, ?_⟩ <;> first | exact id | omega) (fun r r2 hr hr2 => ?_) (fun hn => by first | exact hn.elim | omega) (fun hn => by first | exact hn.elim | exact Or.inl ⟨by omega, rfl⟩ | omega)
  rw [hr2, hr.2]
  exact sPlan_g h.kp hr.1.2.1 (by omega) (by omega)
set_option maxRecDepth 100000 in
set_option maxHeartbeats 4000000 in
theorem P_ladders {l : Launch} {N0 t dr tx : Nat} {w : zW} (h : zSim N0 t dr tx w) {c q : Int} (hr_c : inR c) (hr_q : inR q) : zPr l N0 mX11_ladders mX12_ladders 1 2 false [zI c, zI q] t dr tx w := by
  obtain ⟨⟨n0, n1, n2, n3⟩, n4, n5, n6, n7⟩ := sYd_n h.ky
  have ht : t = 4 ∨ t = 10 := by have := h.ht; omega
  have hpl := sPlan_n h.kp
  have hor := sOr_n h.ko
  have hcl := sClm_n h.kl
  have htr := sTr_n h.kT
  have hge := h.kg.2.1
  have hge2 := h.kg.1
  have htp := h.ka.1
  have htp2 := h.ka.2.1
  have hfl := h.kf.1
  have hR : ∀ w2 : zW, (∀ (c : Nat) (x : Int), 73 ≤ c → c ≠ 121 → w2 c x = w c x) → ∃ (d2 : Nat) (Q2 : Option Value → zS → zW → Prop), d2 ≤ 15 ∧ zSp l mX12_ladders false d2 0 0 [zR 73, zI c, zI q] (ZZ t dr tx) w2 Q2 zNo ∧ ∀ v2 S2 w3, Q2 v2 S2 w3 → S2 = ZZ t dr tx ∧ zFr w2 w3 ∧ ∃ r, v2 = some (zI r) ∧ zGq (¬ (0 ≤ c ∧ c < w 75 0)) (¬ (3 ≤ q ∧ q ≤ 99)) (fun z => z = (lad (w 79 c) q)) r (w3 73 1) := fun w2 e => by
    have g75 : w2 75 = w 75 := funext fun x => e 75 x (by decide) (by decide)
    have g79 : w2 79 = w 79 := funext fun x => e 79 x (by decide) (by decide)
    refine ⟨_, _, ?_, m_ladders (w := w2) hr_c hr_q (fun c a b => by rw [g75] at b; rw [g79]; have := sYd_h h.ky a (by omega); omega) (by simp only [g75, g79]; omega) (by simp only [g75, g79]; omega), fun v2 S2 w3 hq => ?_⟩
    · decide
    have hq2 := zMq_G hq
    simp only [g75, g79] at hq2
    exact hq2
  refine zPr_ro h ⟨by decide, by decide, by decide⟩ (s_ladders (w := w) ht (by omega) hr_c hr_q (fun c a b => (sYd_h h.ky a b).2)) (fun v S w1 hq => zIs_Q hq) (fun E S w1 hx => hx) hR (fun r hr => by refine ⟨?_, ?_⟩ <;> first | exact id | omega) (fun r r2 hr hr2 => ?_) (fun hn => by first | exact hn.elim | omega) (fun hn => by first | exact hn.elim | exact Or.inl ⟨by omega, rfl⟩ | omega)
  rw [hr2, hr.2]
  rw [(sYd_h h.ky hr.1.1.1 hr.1.1.2).1]
set_option maxRecDepth 100000 in
set_option maxHeartbeats 4000000 in
theorem P_stands {l : Launch} {N0 t dr tx : Nat} {w : zW} (h : zSim N0 t dr tx w) {s x y : Int} (hr_s : inR s) (hr_x : inR x) (hr_y : inR y) : zPr l N0 mX11_stands mX12_stands 0 1 false [zI s, zI x, zI y] t dr tx w := by
  obtain ⟨⟨n0, n1, n2, n3⟩, n4, n5, n6, n7⟩ := sYd_n h.ky
  have ht : t = 4 ∨ t = 10 := by have := h.ht; omega
  have hpl := sPlan_n h.kp
  have hor := sOr_n h.ko
  have hcl := sClm_n h.kl
  have htr := sTr_n h.kT
  have hge := h.kg.2.1
  have hge2 := h.kg.1
  have htp := h.ka.1
  have htp2 := h.ka.2.1
  have hfl := h.kf.1
  have hR : ∀ w2 : zW, (∀ (c : Nat) (x : Int), 73 ≤ c → c ≠ 121 → w2 c x = w c x) → ∃ (d2 : Nat) (Q2 : Option Value → zS → zW → Prop), d2 ≤ 15 ∧ zSp l mX12_stands false d2 0 0 [zR 73, zI s, zI x, zI y] (ZZ t dr tx) w2 Q2 zNo ∧ ∀ v2 S2 w3, Q2 v2 S2 w3 → S2 = ZZ t dr tx ∧ zFr w2 w3 ∧ ∃ r, v2 = some (zI r) ∧ zGq (¬ ((-95 ≤ x ∧ x ≤ 95) ∧ (-95 ≤ y ∧ y ≤ 95))) (False) (isB (stOn (iAnd s 65535) x y)) r (w3 73 1) := fun w2 e => by
    refine ⟨_, _, ?_, m_stands (w := w2) hr_x hr_y, fun v2 S2 w3 hq => ?_⟩
    · decide
    have hq2 := zMr_G hq
    exact hq2
  refine zPr_ro h ⟨by decide, by decide, by decide⟩ (s_stands (w := w) hr_x hr_y) (fun v S w1 hq => zIr_Q hq) (fun E S w1 hx => hx) hR (fun r hr => by refine ⟨?_, ?_⟩ <;> first | exact id | omega) (fun r r2 hr hr2 => ?_) (fun hn => by first | exact hn.elim | omega) (fun hn => by first | exact hn.elim | exact Or.inl ⟨by omega, rfl⟩ | omega)
  exact isB_u Iff.rfl hr2 hr.2
set_option maxRecDepth 100000 in
set_option maxHeartbeats 4000000 in
theorem P_cut {l : Launch} {N0 t dr tx : Nat} {w : zW} (h : zSim N0 t dr tx w) {k n x y : Int} (hr_k : inR k) (hr_n : inR n) (hr_x : inR x) (hr_y : inR y) : zPr l N0 mX11_cut mX12_cut 0 1 false [zI k, zI n, zI x, zI y] t dr tx w := by
  obtain ⟨⟨n0, n1, n2, n3⟩, n4, n5, n6, n7⟩ := sYd_n h.ky
  have ht : t = 4 ∨ t = 10 := by have := h.ht; omega
  have hpl := sPlan_n h.kp
  have hor := sOr_n h.ko
  have hcl := sClm_n h.kl
  have htr := sTr_n h.kT
  have hge := h.kg.2.1
  have hge2 := h.kg.1
  have htp := h.ka.1
  have htp2 := h.ka.2.1
  have hfl := h.kf.1
  have hR : ∀ w2 : zW, (∀ (c : Nat) (x : Int), 73 ≤ c → c ≠ 121 → w2 c x = w c x) → ∃ (d2 : Nat) (Q2 : Option Value → zS → zW → Prop), d2 ≤ 15 ∧ zSp l mX12_cut false d2 0 0 [zR 73, zI k, zI n, zI x, zI y] (ZZ t dr tx) w2 Q2 zNo ∧ ∀ v2 S2 w3, Q2 v2 S2 w3 → S2 = ZZ t dr tx ∧ zFr w2 w3 ∧ ∃ r, v2 = some (zI r) ∧ zGq (¬ (((0 ≤ k ∧ k ≤ 15) ∧ (1 ≤ n ∧ n ≤ 12)) ∧ (-95 ≤ x ∧ x ≤ 95) ∧ (-95 ≤ y ∧ y ≤ 95))) (False) (flR k n x y) r (w3 73 1) := fun w2 e => by
    refine ⟨_, _, ?_, m_cut (w := w2) hr_k hr_n hr_x hr_y, fun v2 S2 w3 hq => ?_⟩
    · decide
    have hq2 := zMr_G hq
    exact hq2
  refine zPr_ro h ⟨by decide, by decide, by decide⟩ (s_cut (w := w) hr_k hr_n hr_x hr_y) (fun v S w1 hq => zIr_Q hq) (fun E S w1 hx => hx) hR (fun r hr => by refine ⟨?_, ?_⟩ <;> first | exact id | omega) (fun r r2 hr hr2 => ?_) (fun hn => by first | exact hn.elim | omega) (fun hn => by first | exact hn.elim | exact Or.inl ⟨by omega, rfl⟩ | omega)
  exact flR_u hr2 hr.2
set_option maxRecDepth 100000 in
set_option maxHeartbeats 4000000 in
theorem P_fell {l : Launch} {N0 t dr tx : Nat} {w : zW} (h : zSim N0 t dr tx w) {f t0 x y : Int} (hr_f : inR f) (hr_t0 : inR t0) (hr_x : inR x) (hr_y : inR y) : zPr l N0 mX11_fell mX12_fell 0 1 false [zI f, zI t0, zI x, zI y] t dr tx w := by
  obtain ⟨⟨n0, n1, n2, n3⟩, n4, n5, n6, n7⟩ := sYd_n h.ky
  have ht : t = 4 ∨ t = 10 := by have := h.ht; omega
  have hpl := sPlan_n h.kp
  have hor := sOr_n h.ko
  have hcl := sClm_n h.kl
  have htr := sTr_n h.kT
  have hge := h.kg.2.1
  have hge2 := h.kg.1
  have htp := h.ka.1
  have htp2 := h.ka.2.1
  have hfl := h.kf.1
  have hR : ∀ w2 : zW, (∀ (c : Nat) (x : Int), 73 ≤ c → c ≠ 121 → w2 c x = w c x) → ∃ (d2 : Nat) (Q2 : Option Value → zS → zW → Prop), d2 ≤ 15 ∧ zSp l mX12_fell false d2 0 0 [zR 73, zI f, zI t0, zI x, zI y] (ZZ t dr tx) w2 Q2 zNo ∧ ∀ v2 S2 w3, Q2 v2 S2 w3 → S2 = ZZ t dr tx ∧ zFr w2 w3 ∧ ∃ r, v2 = some (zI r) ∧ zGq (¬ (((0 ≤ f ∧ f ≤ 15) ∧ (0 ≤ t0 ∧ t0 ≤ 15)) ∧ (-95 ≤ x ∧ x ≤ 95) ∧ (-95 ≤ y ∧ y ≤ 95))) (False) (isFst (fewP f t0 x y) 16) r (w3 73 1) := fun w2 e => by
    refine ⟨_, _, ?_, m_fell (w := w2) hr_f hr_t0 hr_x hr_y, fun v2 S2 w3 hq => ?_⟩
    · decide
    have hq2 := zMr_G hq
    exact hq2
  refine zPr_ro h ⟨by decide, by decide, by decide⟩ (s_fell (w := w) hr_f hr_t0 hr_x hr_y) (fun v S w1 hq => zIr_Q hq) (fun E S w1 hx => hx) hR (fun r hr => by refine ⟨?_, ?_⟩ <;> first | exact id | omega) (fun r r2 hr hr2 => ?_) (fun hn => by first | exact hn.elim | omega) (fun hn => by first | exact hn.elim | exact Or.inl ⟨by omega, rfl⟩ | omega)
  exact isFst_u hr2 hr.2
