/-! the whole bill of the class -/
def zAg (A B : (Int → Int) × (Int → Int) × Int) : Prop := A.2.2 = B.2.2 ∧ ∀ o : Int, 0 ≤ o → o < 6 → A.1 o = B.1 o ∧ A.2.1 o = B.2.1 o
theorem zAg_rfl {A : (Int → Int) × (Int → Int) × Int} : zAg A A := ⟨rfl, fun _ _ _ => ⟨rfl, rfl⟩⟩
theorem zAg_tr {A B C : (Int → Int) × (Int → Int) × Int} (h : zAg A B) (k : zAg B C) : zAg A C := ⟨h.1.trans k.1, fun o h0 h1 => ⟨(h.2 o h0 h1).1.trans (k.2 o h0 h1).1, (h.2 o h0 h1).2.trans (k.2 o h0 h1).2⟩⟩
theorem oShare_c {m m2 p : Int → Int} {x o : Int} (ht : oTog m p = oTog m2 p) (h : m o = m2 o) : oShare m p x o = oShare m2 p x o := by unfold oShare oEff; rw [ht, h]
theorem oGot_c {m m2 p : Int → Int} {x : Int} (h : ∀ o : Int, 0 ≤ o → o < 6 → m o = m2 o) : oTog m p = oTog m2 p ∧ oGot m p x = oGot m2 p x := by
  have ht : oTog m p = oTog m2 p := (oTog_c (m := m2) (m' := m) (p := p) (p' := p) 6 (fun o a b => h o a (by omega)) (fun _ _ _ => rfl))
  refine ⟨ht, ?_⟩
  unfold oGot
  rw [ht]
  split
  · rfl
  · exact zsum_c 6 (fun k hk => oShare_c ht (h k (by omega) (by omega)))
theorem oPaid_c {m m2 p : Int → Int} {x : Int} (h : ∀ o : Int, 0 ≤ o → o < 6 → m o = m2 o) (o : Int) (h0 : 0 ≤ o) (h1 : o < 6) : oPaid m p x o = oPaid m2 p x o := by
  have ht := (oGot_c (p := p) (x := x) h).1
  unfold oPaid
  rw [ht, oShare_c ht (h o h0 h1)]
theorem oRun_c {p : Int → Int} : ∀ (n : Nat) (m m2 q q2 : Int → Int) (x : Int), (∀ o : Int, 0 ≤ o → o < 6 → m o = m2 o ∧ q o = q2 o) → zAg (oRun p n m q x) (oRun p n m2 q2 x) := by
  intro n
  induction n with
  | zero => intro m m2 q q2 x h; exact ⟨rfl, h⟩
  | succ n ih =>
    intro m m2 q q2 x h
    have hm : ∀ o : Int, 0 ≤ o → o < 6 → m o = m2 o := fun o a b => (h o a b).1
    simp only [oRun]
    rw [(oGot_c (p := p) (x := x) hm).2]
    split
    · exact ⟨rfl, h⟩
    · exact ih _ _ _ _ _ (fun o a b => by
        show m o - oPaid m p x o = m2 o - oPaid m2 p x o ∧ q o + oPaid m p x o = q2 o + oPaid m2 p x o
        rw [oPaid_c hm o a b, (h o a b).1, (h o a b).2]; exact ⟨rfl, rfl⟩)
theorem oOnes_c {p : Int → Int} {m m2 q q2 : Int → Int} {x : Int} (h : ∀ o : Int, 0 ≤ o → o < 6 → m o = m2 o ∧ q o = q2 o) : ∀ n : Nat, n ≤ 6 → zAg (oOnes p n m q x) (oOnes p n m2 q2 x) := by
  intro n
  induction n with
  | zero => intro _; exact ⟨rfl, h⟩
  | succ n ih =>
    intro hn
    have i := ih (by omega)
    simp only [oOnes]
    rw [i.1, show oEff m p n = oEff m2 p n by unfold oEff; rw [(h n (by omega) (by omega)).1]]
    split
    · refine ⟨rfl, fun o a b => ?_⟩
      show (if o = n then _ else _) = (if o = n then _ else _) ∧ (if o = n then _ else _) = (if o = n then _ else _)
      rw [(i.2 o a b).1, (i.2 o a b).2]; exact ⟨rfl, rfl⟩
    · exact i
def oAll (N : Nat) (p m : Int → Int) (x : Int) : (Int → Int) × (Int → Int) × Int := oOnes p 6 (oRun p N m (fun _ => 0) x).1 (oRun p N m (fun _ => 0) x).2.1 (oRun p N m (fun _ => 0) x).2.2
theorem oPaid_b {m p : Int → Int} {x o : Int} (h : okOwn m p) (hx : 0 ≤ x) (h0 : 0 ≤ o) (h1 : o < 6) : 0 ≤ oPaid m p x o ∧ oPaid m p x o ≤ m o := by
  unfold oPaid
  split
  · have := h o h0 h1; omega
  · exact oShare_b h hx h0 h1 (by omega)
theorem zsum_b0 {f : Nat → Int} (n : Nat) (h : ∀ k, k < n → 0 ≤ f k) : 0 ≤ zsum n f := by
  induction n with
  | zero => exact Int.le_refl _
  | succ n ih => simp only [zsum]; have := ih (fun k hk => h k (by omega)); have := h n (by omega); omega
theorem zsum_ge {f : Nat → Int} (n j : Nat) (hj : j < n) (h : ∀ k, k < n → 0 ≤ f k) : f j ≤ zsum n f := by
  induction n with
  | zero => omega
  | succ n ih =>
    simp only [zsum]
    have h1 := zsum_b0 n (fun k hk => h k (by omega))
    have h2 := h n (by omega)
    by_cases hn : j = n
    · subst hn; omega
    · have := ih (by omega) (fun k hk => h k (by omega)); omega
theorem oGot_s {m p : Int → Int} {x : Int} : zsum 6 (fun k => oPaid m p x k) = oGot m p x := by
  unfold oGot
  by_cases ht : oTog m p ≤ 0
  · rw [if_pos ht]
    have : zsum 6 (fun k => oPaid m p x k) = zsum 6 (fun _ => 0) := zsum_c 6 (fun k _ => by unfold oPaid; rw [if_pos ht])
    rw [this]; rfl
  · rw [if_neg ht]
    exact zsum_c 6 (fun k _ => by unfold oPaid; rw [if_neg ht])
theorem oGot_0 {m p : Int → Int} {x o : Int} (hI : okOwn m p) (hx : 0 ≤ x) (h0 : 0 ≤ o) (h1 : o < 6) (h : oGot m p x = 0) : oPaid m p x o = 0 := by
  have a := zsum_ge (f := fun k : Nat => oPaid m p x k) 6 o.toNat (by omega) (fun k hk => (oPaid_b hI hx (by omega) (by omega)).1)
  rw [oGot_s, h] at a
  simp only [zcast h0] at a
  have := (oPaid_b hI hx h0 h1).1
  omega
theorem oEnd {p m m1 q1 : Int → Int} {x g : Int} {N : Nat} (h : zAg (oRun p N m (fun _ => 0) x) (m1, q1, g)) : zAg (oAll N p m x) (oOnes p 6 m1 q1 g) := by
  unfold oAll
  rw [h.1]
  exact oOnes_c h.2 6 (Nat.le_refl _)
theorem oEnd6 {p m m1 q1 : Int → Int} {x g : Int} {N n6 : Nat} (h6 : n6 = 6) (h : zAg (oRun p N m (fun _ => 0) x) (m1, q1, g)) : zAg (oAll N p m x) (oOnes p n6 m1 q1 g) := by
  subst h6
  exact oEnd h
theorem s_payOnes6 {l : Launch} {t dr tx : Nat} {w : zW} {gr : Bool} {c x : Int} (hI : okOwn (w 70) (cP w c)) (h0 : 0 ≤ c) (h1 : c < 12) (hx0 : 0 ≤ x) (hx : x ≤ 99999) (hq : ∀ o : Int, 0 ≤ o → o < 6 → 0 ≤ w 72 o ∧ w 72 o ≤ 500000) {n6 : Nat} (h6 : n6 = 6) : zSp l mX5_payOnes gr 2 0 0 [zR 69, zI c, zI x] (ZZ t dr tx) w (fun v' S' w' => v' = some (zI (oOnes (cP w c) n6 (w 70) (w 72) x).2.2) ∧ S' = (ZZ t dr tx) ∧ frm [70, 72] w w' ∧ ∀ o : Int, 0 ≤ o → o < 6 → w' 70 o = (oOnes (cP w c) n6 (w 70) (w 72) x).1 o ∧ w' 72 o = (oOnes (cP w c) n6 (w 70) (w 72) x).2.1 o) zNo := by
  subst h6
  exact s_payOnes hI h0 h1 hx0 hx hq
theorem oRun_1 {p m q : Int → Int} {x : Int} {n k : Nat} (hn : n = k + 1) (h : oGot m p x = 0) : zAg (oRun p n m q x) (m, q, x) := by
  subst hn
  simp only [oRun]
  rw [if_pos h]
  exact zAg_rfl
theorem oRun_2 {p m q m2 q2 : Int → Int} {x : Int} {n k : Nat} (hn : n = k + 1) (h : oGot m p x ≠ 0) (hm : ∀ o : Int, 0 ≤ o → o < 6 → m2 o = m o - oPaid m p x o ∧ q2 o = q o + oPaid m p x o) : zAg (oRun p n m q x) (oRun p k m2 q2 (x - oGot m p x)) := by
  subst hn
  simp only [oRun]
  rw [if_neg h]
  exact oRun_c _ _ _ _ _ _ (fun o a b => ⟨((hm o a b).1).symm, ((hm o a b).2).symm⟩)
set_option maxRecDepth 100000 in
set_option maxHeartbeats 4000000 in
theorem s_settle {l : Launch} {t dr tx : Nat} {w : zW} {gr : Bool} {c x : Int} (hI : okOwn (w 70) (cP w c)) (h0 : 0 ≤ c) (h1 : c < 12) (hx0 : 0 ≤ x) (hx : x ≤ 99999) {N : Nat} (hN : 100000 ≤ N) : zSp l mX5_settle gr 3 0 0 [zR 69, zI c, zI x] (ZZ t dr tx) w (fun v' S' w' => ∃ A, zAg (oAll N (cP w c) (w 70) x) A ∧ v' = some (zI A.2.2) ∧ S' = (ZZ t dr tx) ∧ frm [70, 72] w w' ∧ ∀ o : Int, 0 ≤ o → o < 6 → w' 70 o = A.1 o ∧ w' 72 o = A.2.1 o) zNo := by
  refine zA_intro ⟨plainFor_of_name (by decide +kernel), Or.inl (by decide +kernel)⟩ rfl (Nat.le_of_ble_eq_true rfl) ?_
  obtain ⟨n6, h6⟩ : ∃ n : Nat, n = 6 := ⟨6, rfl⟩
  refine zA_range (fun hr => ?_)
  show zA l mX5_settle gr 3 0 0 (fun v' S' w' => ∃ A, zAg (oAll N (cP w c) (w 70) x) A ∧ v' = some (zI A.2.2) ∧ S' = (ZZ t dr tx) ∧ frm [70, 72] w w' ∧ ∀ o : Int, 0 ≤ o → o < 6 → w' 70 o = A.1 o ∧ w' 72 o = A.2.1 o) zNo 0 [zR 69, zI c, zI x, .null, .null, .null] [] (ZZ t dr tx) w
  refine zA_aload_n dX5_settle_0 rfl ?_
  refine zA_getR (n := 72) dX5_settle_1 fX5_18 c69 rfl ?_
  refine zA_iconst dX5_settle_4 ?_
  refine zA_cS (st := []) dX5_settle_5 sJ7_fill_53178 kX5_21 (s_fill (w := w) (q := 72) (z := 6) (v := 0) c72 (by decide) ⟨by decide, by decide⟩) (by decide) rfl rfl (Nat.le_of_ble_eq_true rfl) (fun q_1_v q_1_S q_1_w q_1 => ?_)
  obtain ⟨rfl, rfl, hfa, hfb⟩ := q_1
  refine zA_range (fun hr => ?_)
  show zA l mX5_settle gr 3 0 0 (fun v' S' w' => ∃ A, zAg (oAll N (cP w c) (w 70) x) A ∧ v' = some (zI A.2.2) ∧ S' = (ZZ t dr tx) ∧ frm [70, 72] w w' ∧ ∀ o : Int, 0 ≤ o → o < 6 → w' 70 o = A.1 o ∧ w' 72 o = A.2.1 o) zNo 8 [zR 69, zI c, zI x, .null, .null, .null] [] (ZZ t dr tx) q_1_w
  refine zA_iload_n dX5_settle_8 rfl ?_
  refine zA_istore_n (lo1 := [zR 69, zI c, zI x, zI x, .null, .null]) dX5_settle_9 (by decide) rfl rfl ?_
  refine zA_iconst dX5_settle_10 ?_
  refine zA_istore (lo1 := [zR 69, zI c, zI x, zI x, zI 0, .null]) dX5_settle_11 (by decide) rfl rfl ?_
  have L13 : ∀ (z13 : Nat) (g : Int) (i : Int) (w1 : zW) (i0 : 0 ≤ i) (i1 : i ≤ x - g) (g0 : 0 ≤ g) (hf : frm [70, 72] w w1) (hcs : ∀ o : Int, 0 ≤ o → o < 6 → 0 ≤ w1 70 o ∧ 0 ≤ w1 72 o ∧ w1 70 o + w1 72 o = w 70 o) (ha : zAg (oRun (cP w c) N (w 70) (fun _ => 0) x) (oRun (cP w c) (N - i.toNat) (w1 70) (w1 72) g)) (zm : (x - i).toNat < z13), zA l mX5_settle gr 3 0 0 (fun v' S' w' => ∃ A, zAg (oAll N (cP w c) (w 70) x) A ∧ v' = some (zI A.2.2) ∧ S' = (ZZ t dr tx) ∧ frm [70, 72] w w' ∧ ∀ o : Int, 0 ≤ o → o < 6 → w' 70 o = A.1 o ∧ w' 72 o = A.2.1 o) zNo 13 [zR 69, zI c, zI x, zI g, zI i, .null] [] (ZZ t dr tx) w1 := by
    intro z13
    induction z13 with
    | zero => intro g i w1 i0 i1 g0 hf hcs ha zm; exact absurd zm (Nat.not_lt_zero _)
    | succ z13 ih13 =>
      intro g i w1 i0 i1 g0 hf hcs ha zm
      refine zA_range (fun hr => ?_)
      have hcp : cP w1 c = cP w c := cP_fr (fun i => hf 71 i (by decide))
      have hok : okOwn (w1 70) (cP w c) := fun o a b => ⟨by have := hcs o a b; have := hI o a b; omega, (hI o a b).2⟩
      refine zA_iload dX5_settle_13 rfl ?_
      refine zA_ldc dX5_settle_15 qX5_27 ?_
      refine zA_icmp_ge (tgt := 47) dX5_settle_17 (by decide) (by first | assumption | exact hr _ _ | exact inR_mk (by omega) (by omega)) ⟨by decide, by decide⟩ (fun c17 => ?_) (fun c17 => ?_)
      · skip
        exact absurd c17 (by omega)
      · skip
        refine zA_aload_n dX5_settle_20 rfl ?_
        refine zA_iload_n dX5_settle_21 rfl ?_
        refine zA_iload_n dX5_settle_22 rfl ?_
        refine zA_cV (st := []) dX5_settle_23 vX5_payRound kX5_28 (s_payRound (w := w1) (c := c) (x := g) (by rw [hcp]; exact hok) h0 h1 g0 (by omega) (fun o a b => by have := hcs o a b; have := hI o a b; omega)) (by decide) c69 rfl rfl (Nat.le_of_ble_eq_true rfl) rfl (fun q_2_v q_2_S q_2_w q_2 => ?_)
        obtain ⟨rfl, rfl, hga, hgb⟩ := q_2
        rw [hcp] at hgb ⊢
        have hgo := oGot_b (p := cP w c) (x := g) hok g0
        refine zA_range (fun hr => ?_)
        show zA l mX5_settle gr 3 0 0 (fun v' S' w' => ∃ A, zAg (oAll N (cP w c) (w 70) x) A ∧ v' = some (zI A.2.2) ∧ S' = (ZZ t dr tx) ∧ frm [70, 72] w w' ∧ ∀ o : Int, 0 ≤ o → o < 6 → w' 70 o = A.1 o ∧ w' 72 o = A.2.1 o) zNo 26 [zR 69, zI c, zI x, zI g, zI i, .null] [zI (oGot (w1 70) (cP w c) g)] (ZZ t dr tx) q_2_w
        refine zA_istore (lo1 := [zR 69, zI c, zI x, zI g, zI i, zI (oGot (w1 70) (cP w c) g)]) dX5_settle_26 (by decide) rfl rfl ?_
        refine zA_iload dX5_settle_28 rfl ?_
        refine zA_if_ne (tgt := 36) dX5_settle_30 (by decide) (by first | assumption | exact hr _ _ | exact inR_mk (by omega) (by omega)) (fun c30 => ?_) (fun c30 => ?_)
        · skip
          refine zA_iload_n dX5_settle_36 rfl ?_
          refine zA_iload dX5_settle_37 rfl ?_
          refine zA_isub dX5_settle_39 ?_
          refine zA_istore_n (lo1 := [zR 69, zI c, zI x, zI (g - (oGot (w1 70) (cP w c) g)), zI i, zI (oGot (w1 70) (cP w c) g)]) dX5_settle_40 (by decide) rfl rfl ?_
          refine zA_iinc (lo1 := [zR 69, zI c, zI x, zI (g - (oGot (w1 70) (cP w c) g)), zI (i + 1), zI (oGot (w1 70) (cP w c) g)]) dX5_settle_41 rfl (by decide) rfl rfl ?_
          refine zA_goto (tgt := 13) dX5_settle_44 (by decide) ?_
          refine zA_drop 5 (lo1 := [zR 69, zI c, zI x, zI (g - (oGot (w1 70) (cP w c) g)), zI (i + 1), .null]) rfl ?_
          exact ih13 (g - oGot (w1 70) (cP w c) g) (i + 1) _ (by omega) (by omega) (by omega) (frm_tr hf hga (fun _ h => h) (fun _ h => h)) (fun o a b => by have := hgb o a b; have := hcs o a b; have := oPaid_b (x := g) hok g0 a b; omega) (zAg_tr ha (oRun_2 (k := N - (i + 1).toNat) (by omega) (by omega) hgb)) (by omega)
        · skip
          have hz : ∀ o : Int, 0 ≤ o → o < 6 → q_2_w 70 o = w1 70 o ∧ q_2_w 72 o = w1 72 o := fun o a b => by have e0 := oGot_0 hok g0 a b (by omega); have e1 := hgb o a b; omega
          have hend : zAg (oRun (cP w c) N (w 70) (fun _ => 0) x) (q_2_w 70, q_2_w 72, g) := zAg_tr ha (zAg_tr (oRun_1 (k := N - (i + 1).toNat) (by omega) (by omega)) ⟨rfl, fun o a b => ⟨(hz o a b).1.symm, (hz o a b).2.symm⟩⟩)
          have hcp2 : cP q_2_w c = cP w c := (cP_fr (fun i => hga 71 i (by decide))).trans hcp
          have hok2 : okOwn (q_2_w 70) (cP w c) := fun o a b => ⟨by rw [(hz o a b).1]; exact (hok o a b).1, (hI o a b).2⟩
          refine zA_goto (tgt := 47) dX5_settle_33 (by decide) ?_
          refine zA_aload_n dX5_settle_47 rfl ?_
          refine zA_iload_n dX5_settle_48 rfl ?_
          refine zA_iload_n dX5_settle_49 rfl ?_
          refine zA_cV (st := []) dX5_settle_50 vX5_payOnes kX5_32 (s_payOnes6 (n6 := n6) (h6 := h6) (w := q_2_w) (c := c) (x := g) (by rw [hcp2]; exact hok2) h0 h1 g0 (by omega) (fun o a b => by have := hcs o a b; have := hI o a b; have := hz o a b; omega)) (by decide) c69 rfl rfl (Nat.le_of_ble_eq_true rfl) rfl (fun q_3_v q_3_S q_3_w q_3 => ?_)
          obtain ⟨rfl, rfl, hla, hlb⟩ := q_3
          refine zA_range (fun hr => ?_)
          show zA l mX5_settle gr 3 0 0 (fun v' S' w' => ∃ A, zAg (oAll N (cP w c) (w 70) x) A ∧ v' = some (zI A.2.2) ∧ S' = (ZZ t dr tx) ∧ frm [70, 72] w w' ∧ ∀ o : Int, 0 ≤ o → o < 6 → w' 70 o = A.1 o ∧ w' 72 o = A.2.1 o) zNo 53 [zR 69, zI c, zI x, zI g, zI i, zI (oGot (w1 70) (cP w c) g)] [zI ((oOnes (cP q_2_w c) n6 (q_2_w 70) (q_2_w 72) g).2.2)] (ZZ t dr tx) q_3_w
          refine zA_iret dX5_settle_53 rfl ?_
          rw [hcp2] at hlb
          refine ⟨_, oEnd6 h6 hend, by rw [hcp2], rfl, frm_tr (frm_tr hf hga (fun _ h => h) (fun _ h => h)) hla (fun _ h => h) (fun _ h => h), hlb⟩
  exact L13 _ x 0 _ (by omega) (by omega) (by omega) (fun cc i hc => hfa cc i (fun e => hc (by rw [e]; decide))) (fun o a b => by rw [hfb o a (by omega), hfa 70 o (by decide)]; have := hI o a b; omega) (oRun_c _ _ _ _ _ _ (fun o a b => by rw [hfb o a (by omega), hfa 70 o (by decide)]; exact ⟨rfl, rfl⟩)) (Nat.lt_succ_self _)

