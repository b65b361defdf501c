/-! climbing and bills on both sides -/
theorem rfR_u {ok ok' nest nest' up4 up4' app mas mas' : Prop} {wnd wnd' rule rule' lf lf' cs cs' k k' : Int} (h : rfR ok wnd rule nest up4 app mas lf cs k) (h' : rfR ok' wnd' rule' nest' up4' app mas' lf' cs' k') (e : ok ↔ ok') (e1 : ok → wnd = wnd' ∧ rule = rule' ∧ (nest ↔ nest') ∧ (up4 ↔ up4') ∧ (mas ↔ mas') ∧ lf = lf' ∧ cs = cs') : k = k' := by
  unfold rfR at h h'
  rw [← e] at h'
  by_cases q : ok
  · obtain ⟨rfl, rfl, a, b, c, rfl, rfl⟩ := e1 q
    rw [← a, ← b, ← c] at h'
    clear a b c e e1
    by_cases q1 : nest <;> by_cases q2 : up4 <;> by_cases q3 : app <;> by_cases q4 : mas <;> simp only [q, q1, q2, q3, q4, not_true, not_false_eq_true, true_and, false_and, and_true, and_false, false_or, or_false] at h h' <;> omega
  · simp only [q, not_false_eq_true, true_and, false_and, or_false] at h h'
    omega
theorem or_dy {x m : Int} (h0 : 0 ≤ x) (h1 : x < 1024) (m0 : 0 ≤ m) (m1 : m < 10) : 0 ≤ iOr x (iShl 1 m) ∧ iOr x (iShl 1 m) < 1024 := by
  obtain ⟨⟨a, b⟩, c⟩ := tb_or h0 (by omega) m0 (by omega : m < 31)
  refine ⟨a, ?_⟩
  have := tb_lt (k := 10) a (fun j hj => by
    rw [c j (by omega), tb_hi (k := 10) (by rw [show (2 : Int) ^ 10 = 1024 by decide]; exact h1) hj]
    simp; omega)
  rw [show (2 : Int) ^ 10 = 1024 by decide] at this
  exact this
theorem clr_dy {x m : Int} (h0 : 0 ≤ x) (h1 : x < 1024) (m0 : 0 ≤ m) (m1 : m < 10) : 0 ≤ iAnd x (iXor (iShl 1 m) (-1)) ∧ iAnd x (iXor (iShl 1 m) (-1)) < 1024 := by
  obtain ⟨⟨a, b⟩, c⟩ := tb_clr h0 (by omega) m0 (by omega : m < 31)
  refine ⟨a, ?_⟩
  have := tb_lt (k := 10) a (fun j hj => by
    rw [c j (by omega), tb_hi (k := 10) (by rw [show (2 : Int) ^ 10 = 1024 by decide]; exact h1) hj]
    simp)
  rw [show (2 : Int) ^ 10 = 1024 by decide] at this
  exact this
section OCP
variable {p p' : Int → Int} (hp : ∀ o : Int, 0 ≤ o → o < 6 → p' o = p o)
theorem oTog_cp (hp : ∀ o : Int, 0 ≤ o → o < 6 → p' o = p o) {m m2 : Int → Int} (h : ∀ o : Int, 0 ≤ o → o < 6 → m o = m2 o) : oTog m p = oTog m2 p' := (oTog_c 6 (fun o a b => (h o a (by omega)).symm) (fun o a b => hp o a (by omega))).symm
theorem oShare_cp (hp : ∀ o : Int, 0 ≤ o → o < 6 → p' o = p o) {m m2 : Int → Int} {x o : Int} (h : ∀ o : Int, 0 ≤ o → o < 6 → m o = m2 o) (h0 : 0 ≤ o) (h1 : o < 6) : oShare m p x o = oShare m2 p' x o := by
  unfold oShare oEff
  rw [oTog_cp hp h, h o h0 h1, hp o h0 h1]
theorem oGot_cp (hp : ∀ o : Int, 0 ≤ o → o < 6 → p' o = p o) {m m2 : Int → Int} {x : Int} (h : ∀ o : Int, 0 ≤ o → o < 6 → m o = m2 o) : oGot m p x = oGot m2 p' x := by
  unfold oGot
  rw [oTog_cp hp h]
  split
  · rfl
  · exact zsum_c 6 (fun k hk => oShare_cp hp h (by omega) (by omega))
theorem oPaid_cp (hp : ∀ o : Int, 0 ≤ o → o < 6 → p' o = p o) {m m2 : Int → Int} {x o : Int} (h : ∀ o : Int, 0 ≤ o → o < 6 → m o = m2 o) (h0 : 0 ≤ o) (h1 : o < 6) : oPaid m p x o = oPaid m2 p' x o := by
  unfold oPaid
  rw [oTog_cp hp h, oShare_cp hp h h0 h1]
theorem oRun_cp (hp : ∀ o : Int, 0 ≤ o → o < 6 → p' o = p o) : ∀ (n : Nat) (m m2 q q2 : Int → Int) (x : Int), (∀ o : Int, 0 ≤ o → o < 6 → m o = m2 o ∧ q o = q2 o) → zAg (oRun p n m q x) (oRun p' n m2 q2 x) := by
  intro n
  induction n with
  | zero => intro m m2 q q2 x h; exact ⟨rfl, h⟩
  | succ n ih =>
    intro m m2 q q2 x h
    have hm : ∀ o : Int, 0 ≤ o → o < 6 → m o = m2 o := fun o a b => (h o a b).1
    simp only [oRun]
    rw [oGot_cp hp hm]
    split
    · exact ⟨rfl, h⟩
    · exact ih _ _ _ _ _ (fun o a b => by
        show m o - oPaid m p x o = m2 o - oPaid m2 p' x o ∧ q o + oPaid m p x o = q2 o + oPaid m2 p' x o
        rw [oPaid_cp hp hm a b, (h o a b).1, (h o a b).2]; exact ⟨rfl, rfl⟩)
theorem oOnes_cp (hp : ∀ o : Int, 0 ≤ o → o < 6 → p' o = p o) {m m2 q q2 : Int → Int} {x : Int} (h : ∀ o : Int, 0 ≤ o → o < 6 → m o = m2 o ∧ q o = q2 o) : ∀ n : Nat, n ≤ 6 → zAg (oOnes p n m q x) (oOnes p' n m2 q2 x) := by
  intro n
  induction n with
  | zero => intro _; exact ⟨rfl, h⟩
  | succ n ih =>
    intro hn
    have i := ih (by omega)
    simp only [oOnes]
    rw [i.1, show oEff m p n = oEff m2 p' n by unfold oEff; rw [(h n (by omega) (by omega)).1, hp n (by omega) (by omega)]]
    split
    · refine ⟨rfl, fun o a b => ?_⟩
      show (if o = n then _ else _) = (if o = n then _ else _) ∧ (if o = n then _ else _) = (if o = n then _ else _)
      rw [(i.2 o a b).1, (i.2 o a b).2]; exact ⟨rfl, rfl⟩
    · exact i
theorem oAll_cp (hp : ∀ o : Int, 0 ≤ o → o < 6 → p' o = p o) {N : Nat} {m m2 : Int → Int} {x : Int} (h : ∀ o : Int, 0 ≤ o → o < 6 → m o = m2 o) : zAg (oAll N p m x) (oAll N p' m2 x) := by
  have h1 := oRun_cp hp N m m2 (fun _ => 0) (fun _ => 0) x (fun o a b => ⟨h o a b, rfl⟩)
  unfold oAll
  rw [h1.1]
  exact oOnes_cp hp h1.2 6 (Nat.le_refl _)
end OCP
theorem zAg_sy {A B : (Int → Int) × (Int → Int) × Int} (h : zAg A B) : zAg B A := ⟨h.1.symm, fun o a b => ⟨(h.2 o a b).1.symm, (h.2 o a b).2.symm⟩⟩
theorem oAll_m {N : Nat} {p m : Int → Int} {x : Int} (h : okOwn m p) (hx : 0 ≤ x) : ∀ o : Int, 0 ≤ o → o < 6 → 0 ≤ (oAll N p m x).1 o ∧ (oAll N p m x).1 o ≤ m o := by
  have h1 : ∀ (n : Nat) (m q : Int → Int) (x : Int), okOwn m p → 0 ≤ x → ∀ o : Int, 0 ≤ o → o < 6 → 0 ≤ (oRun p n m q x).1 o ∧ (oRun p n m q x).1 o ≤ m o := by
    intro n
    induction n with
    | zero => intro m q x h hx o a b; exact ⟨(h o a b).1.1, Int.le_refl _⟩
    | succ n ih =>
      intro m q x h hx o a b
      simp only [oRun]
      split
      · exact ⟨(h o a b).1.1, Int.le_refl _⟩
      · have hb := oPaid_b h hx a b
        have hg := oGot_b h hx
        have := ih (fun o => m o - oPaid m p x o) (fun o => q o + oPaid m p x o) (x - oGot m p x) (fun o a b => by
          have := oPaid_b h hx a b
          have := h o a b
          show (0 ≤ m o - oPaid m p x o ∧ m o - oPaid m p x o ≤ 9999) ∧ _
          omega) (by omega) o a b
        omega
  have h2 : ∀ (n : Nat) (m q : Int → Int) (x : Int), (∀ o : Int, 0 ≤ o → o < 6 → 0 ≤ m o) → n ≤ 6 → ∀ o : Int, 0 ≤ o → o < 6 → (0 ≤ (oOnes p n m q x).1 o ∧ (oOnes p n m q x).1 o ≤ m o) ∧ ((n : Int) ≤ o → (oOnes p n m q x).1 o = m o) := by
    intro n
    induction n with
    | zero => intro m q x h _ o a b; exact ⟨⟨h o a b, Int.le_refl _⟩, fun _ => rfl⟩
    | succ n ih =>
      intro m q x h hn o a b
      have i := ih m q x h (by omega) o a b
      simp only [oOnes]
      split
      · rename_i g
        have g2 := g.2
        unfold oEff at g2
        show (0 ≤ (if o = n then _ else _) ∧ (if o = n then _ else _) ≤ m o) ∧ (_ → (if o = n then _ else _) = m o)
        by_cases q1 : o = n
        · rw [if_pos q1]
          have e := i.2 (by omega)
          have g3 : 0 < m o := by
            by_cases q2 : 0 < m o
            · exact q2
            · rw [q1] at q2; rw [if_neg q2] at g2; omega
          rw [e]
          exact ⟨⟨by omega, by omega⟩, fun g => by omega⟩
        · rw [if_neg q1]
          exact ⟨i.1, fun g => i.2 (by omega)⟩
      · exact ⟨i.1, fun g => i.2 (by omega)⟩
  intro o a b
  have a1 := h1 N m (fun _ => 0) x h hx
  have a2 := h2 6 _ (oRun p N m (fun _ => 0) x).2.1 (oRun p N m (fun _ => 0) x).2.2 (fun o a b => (a1 o a b).1) (Nat.le_refl _) o a b
  have a3 := a1 o a b
  unfold oAll
  omega
set_option maxRecDepth 100000 in
set_option maxHeartbeats 4000000 in
theorem P_bill {l : Launch} {N0 t dr tx : Nat} {w : zW} (h : zSim N0 t dr tx w) {c x : Int} (hr_c : inR c) (hr_x : inR x) : zPr l N0 mX11_bill mX12_bill 1 2 false [zI c, zI x] t dr tx w := by
  obtain ⟨⟨n0, n1, n2, n3⟩, n4, n5, n6, n7⟩ := sYd_n h.ky
  have ht : t = 4 ∨ t = 10 := by have := h.ht; omega
  have hpl := sPlan_n h.kp
  have hor := sOr_n h.ko
  have hcl := sClm_n h.kl
  have htr := sTr_n h.kT
  have hge := h.kg.2.1
  have hge2 := h.kg.1
  have htp := h.ka.1
  have htp2 := h.ka.2.1
  have hfl := h.kf.1
  have hO := h.kO
  have hI : ∀ c : Int, 0 ≤ c → c < 12 → okOwn (w 70) (cP w c) := fun c a b o oa ob => by
    have h1 := hO.1 o oa ob
    have h2 := hO.2 (c * 6 + o) (by omega) (by omega)
    unfold cP
    omega
  have hp : ∀ c : Int, 0 ≤ c → c < 12 → ∀ o : Int, 0 ≤ o → o < 6 → mP w c o = cP w c o := fun c a b o oa ob => by
    unfold mP cP
    rw [show 6 * c + o = c * 6 + o by omega]
    exact (hO.2 _ (by omega) (by omega)).1
  have hR : ∀ w2 : zW, (∀ (cc : Nat) (xx : Int), 73 ≤ cc → cc ≠ 121 → w2 cc xx = w cc xx) → ∃ (d2 : Nat) (Q2 : Option Value → zS → zW → Prop), d2 ≤ 15 ∧ zSp l mX12_bill false d2 0 0 [zR 73, zI c, zI x] (ZZ t dr tx) w2 Q2 zNo ∧ ∀ v2 S2 w3, Q2 v2 S2 w3 → S2 = ZZ t dr tx ∧ ((¬ (0 ≤ c ∧ c < w t 5) ∧ v2 = some (zI 0) ∧ w3 = up w2 73 1 1) ∨ ((0 ≤ c ∧ c < w t 5) ∧ ¬ (1 ≤ x ∧ x ≤ 99999) ∧ v2 = some (zI 0) ∧ w3 = up w2 73 1 2) ∨ ((0 ≤ c ∧ c < w t 5) ∧ (1 ≤ x ∧ x ≤ 99999) ∧ ∃ A, zAg (oAll 100002 (mP w c) (w 116) x) A ∧ v2 = some (zI A.2.2) ∧ frm [116, 118, 119] (up w2 73 1 0) w3 ∧ ∀ o : Int, 0 ≤ o → o < 6 → w3 116 o = A.1 o ∧ w3 118 o = A.2.1 o)) := fun w2 e => by
    have g75 : w2 75 = w 75 := funext fun x => e 75 x (by decide) (by decide)
    have g116 : w2 116 = w 116 := funext fun x => e 116 x (by decide) (by decide)
    have gP : ∀ c, mP w2 c = mP w c := fun c => by unfold mP; rw [show w2 117 = w 117 from funext fun x => e 117 x (by decide) (by decide)]
    refine ⟨_, _, ?_, m_bill (w := w2) (N := 100002) hr_c hr_x (by rw [g75]; omega) (by rw [g75]; omega) (fun c a b o oa ob => by rw [g116, gP, hp c a b o oa ob, (hO.1 o oa ob).1]; exact hI c a b o oa ob) (Nat.le_refl _), fun v2 S2 w3 hq => ?_⟩
    · decide
    rw [g75, g116, gP, n0] at hq
    exact hq
  refine ⟨_, _, _, _, _, ⟨by decide, by decide, by decide⟩, s_bill (w := w) (N := 100002) ht hr_c hr_x (by omega) hI (by decide), fun v S w1 hq w2 e => ?_, fun E S w1 hx => ?_⟩
  · obtain ⟨⟨hA, hX⟩, rfl, p0, A, p1, rfl, p2⟩ := hq
    have e2 : ∀ (cc : Nat) (xx : Int), 73 ≤ cc → cc ≠ 121 → w2 cc xx = w cc xx := fun cc xx a b => by rw [e cc xx b, p0 cc xx (by simp; omega)]
    obtain ⟨d2, Q2, hd, hsp, hk⟩ := hR w2 e2
    refine ⟨⟨_, _, _, rfl⟩, ⟨_, rfl⟩, d2, Q2, hd, hsp, fun v2 S2 w3 hq2 => ?_⟩
    obtain ⟨rfl, ⟨g, -⟩ | ⟨-, g, -⟩ | ⟨-, -, B, r1, rfl, r0, r2⟩⟩ := hk v2 S2 w3 hq2
    · exact absurd hA g
    · exact absurd hX g
    have hAB : zAg A B := zAg_tr (zAg_sy p1) (zAg_tr (oAll_cp (hp c hA.1 (by omega)) (fun o a b => (hO.1 o a b).1.symm)) r1)
    have e3 : ∀ (cc : Nat) (xx : Int), cc < 73 → w3 cc xx = w1 cc xx := fun cc xx a => by rw [r0 cc xx (by simp; omega), up_n (by omega), e cc xx (by omega)]
    have ek : ∀ (cc : Nat) (xx : Int), sFp t cc xx → ¬ (cc = 70 ∨ cc = 71 ∨ cc = 72 ∨ cc = 116 ∨ cc = 117 ∨ cc = 118) → w3 cc xx = w cc xx := fun cc xx hs hn => by
      obtain ⟨q1, qb, qc, q2⟩ := sFp_n ht hs
      clear hpl hor hcl htr hge hge2 htp htp2 hfl hk hR
      rw [r0 cc xx (by simp; omega), up_n (by omega), e cc xx (by omega), p0 cc xx (by simp; omega)]
    have hm := oAll_m (N := 100002) (x := x) (hI c hA.1 (by omega)) (by omega)
    refine ⟨by rw [hAB.1], by rw [r0 73 1 (by decide)]; exact up_same _ _ _ _, by rw [r0 121 0 (by decide)]; exact up_n (Or.inl (by decide)), t, dr, tx, rfl, zSim_uOw h ek ⟨fun o a b => ?_, fun y a b => ?_⟩⟩
    · rw [e3 70 o (by decide), e3 72 o (by decide), (p2 o a b).1, (p2 o a b).2, (r2 o a b).1, (r2 o a b).2, (hAB.2 o a b).1, (hAB.2 o a b).2]
      have k1 := hm o a b
      have k2 := (p1.2 o a b).1
      have k3 := (hAB.2 o a b).1
      have k4 := hO.1 o a b
      refine ⟨rfl, rfl, by omega, by omega⟩
    · rw [r0 117 y (by decide), up_n (by omega), e2 117 y (by decide) (by decide), e3 71 y (by decide), p0 71 y (by decide)]
      exact hO.2 y a b
  · obtain ⟨hN, rfl, rfl⟩ := hx
    obtain ⟨d2, Q2, hd, hsp, hk⟩ := hR w1 (fun _ _ _ _ => rfl)
    have hsim : ∀ v : Int, zSim (N0 + 1) t dr tx (up w1 73 1 v) := fun v => zSim_k h (fun cc xx hs => by
      obtain ⟨q1, -, -, q2⟩ := sFp_n ht hs
      rw [up_n (by omega)])
    rcases hN with ⟨rfl, hN⟩ | ⟨rfl, hN, hN2⟩
    · refine ⟨1, Or.inl ⟨rfl, rfl, by decide⟩, ⟨_, _, _, rfl⟩, d2, Q2, hd, hsp, fun v2 S2 w3 hq2 => ?_⟩
      obtain ⟨rfl, ⟨-, rfl, rfl⟩ | ⟨g, -⟩ | ⟨g, -⟩⟩ := hk v2 S2 w3 hq2
      · exact ⟨⟨_, rfl⟩, up_same _ _ _ _, t, dr, tx, rfl, hsim 1⟩
      · exact absurd g hN
      · exact absurd g hN
    · refine ⟨2, Or.inr ⟨rfl, rfl, by decide⟩, ⟨_, _, _, rfl⟩, d2, Q2, hd, hsp, fun v2 S2 w3 hq2 => ?_⟩
      obtain ⟨rfl, ⟨g, -⟩ | ⟨-, -, rfl, rfl⟩ | ⟨-, g, -⟩⟩ := hk v2 S2 w3 hq2
      · exact absurd hN g
      · exact ⟨⟨_, rfl⟩, up_same _ _ _ _, t, dr, tx, rfl, hsim 2⟩
      · exact absurd g hN2
