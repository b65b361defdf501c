/-! a call on both sides: the class's, then the reference's, from one world -/
def zPr (l : Launch) (n : Nat) (mc mr : zM) (kN kI : Int) (vd : Bool) (as : List Value) (t dr tx : Nat) (w : zW) : Prop :=
  ∃ (d bc bs : Nat) (Q : Option Value → zS → zW → Prop) (X : String → zS → zW → Prop), (d ≤ 14 ∧ bc ≤ 3 ∧ bs ≤ 18) ∧ zSp l mc false d bc bs (zR 0 :: as) (ZZ t dr tx) w Q X ∧
  (∀ (v : Option Value) (S : zS) (w1 : zW), Q v S w1 → ∀ w2 : zW, (∀ (c : Nat) (x : Int), c ≠ 121 → w2 c x = w1 c x) → (∃ t1 dr1 tx1 : Nat, S = ZZ t1 dr1 tx1) ∧ (if vd = true then v = none else ∃ z, v = some (zI z)) ∧ ∃ (d2 : Nat) (Q2 : Option Value → zS → zW → Prop), d2 ≤ 15 ∧ zSp l mr false d2 0 0 (zR 73 :: as) S w2 Q2 zNo ∧
    ∀ (v2 : Option Value) (S2 : zS) (w3 : zW), Q2 v2 S2 w3 → v2 = v ∧ w3 73 1 = 0 ∧ w3 121 0 = w2 121 0 ∧ ∃ t2 dr2 tx2 : Nat, S2 = ZZ t2 dr2 tx2 ∧ zSim (n + 1) t2 dr2 tx2 w3) ∧
  (∀ (E : String) (S : zS) (w1 : zW), X E S w1 → ∃ k : Int, ((E = zNSE ∧ k = kN ∧ kN ≠ 0) ∨ (E = zIAE ∧ k = kI ∧ kI ≠ 0)) ∧ (∃ t1 dr1 tx1 : Nat, S = ZZ t1 dr1 tx1) ∧ ∃ (d2 : Nat) (Q2 : Option Value → zS → zW → Prop), d2 ≤ 15 ∧ zSp l mr false d2 0 0 (zR 73 :: as) S w1 Q2 zNo ∧
    ∀ (v2 : Option Value) (S2 : zS) (w3 : zW), Q2 v2 S2 w3 → (∃ z, v2 = some (zI z)) ∧ w3 73 1 = k ∧ ∃ t2 dr2 tx2 : Nat, S2 = ZZ t2 dr2 tx2 ∧ zSim (n + 1) t2 dr2 tx2 w3)
/-- how the reference tells -/
def zGq (P1 P2 : Prop) (R : Int → Prop) (r k : Int) : Prop := (P1 ∧ k = 1) ∨ (¬ P1 ∧ P2 ∧ k = 2) ∨ (¬ P1 ∧ ¬ P2 ∧ R r ∧ k = 0)
/-- what the reference's reading calls change -/
def zFr (w w' : zW) : Prop := ∀ (c : Nat) (x : Int), c ≠ 94 → c ≠ 108 → (c ≠ 73 ∨ (x ≠ 1 ∧ x ≠ 33 ∧ x ≠ 34 ∧ x ≠ 35 ∧ x ≠ 36 ∧ x ≠ 37)) → w' c x = w c x
theorem zFr_up {w : zW} {v : Int} : zFr w (up w 73 1 v) := fun c x _ _ h => up_n (by omega)
theorem zMq_G {P1 P2 : Prop} {a : Int} {S : zS} {w : zW} {v : Option Value} {S' : zS} {w' : zW} (h : zMq P1 P2 a S w (up w 73 1 0) v S' w') : S' = S ∧ zFr w w' ∧ ∃ r, v = some (zI r) ∧ zGq P1 P2 (fun z => z = a) r (w' 73 1) := by
  obtain ⟨rfl, ⟨h1, rfl, rfl⟩ | ⟨h1, h2, rfl, rfl⟩ | ⟨h1, h2, rfl, rfl⟩⟩ := h
  · exact ⟨rfl, zFr_up, _, rfl, Or.inl ⟨h1, up_same _ _ _ _⟩⟩
  · exact ⟨rfl, zFr_up, _, rfl, Or.inr (Or.inl ⟨h1, h2, up_same _ _ _ _⟩)⟩
  · exact ⟨rfl, zFr_up, _, rfl, Or.inr (Or.inr ⟨h1, h2, rfl, up_same _ _ _ _⟩)⟩
theorem zMr_G {P1 P2 : Prop} {R : Int → Prop} {S : zS} {w : zW} {v : Option Value} {S' : zS} {w' : zW} (h : zMr P1 P2 R S w (up w 73 1 0) v S' w') : S' = S ∧ zFr w w' ∧ ∃ r, v = some (zI r) ∧ zGq P1 P2 R r (w' 73 1) := by
  obtain ⟨rfl, ⟨h1, rfl, rfl⟩ | ⟨h1, h2, rfl, rfl⟩ | ⟨h1, h2, ⟨r, rfl, h3⟩, rfl⟩⟩ := h
  · exact ⟨rfl, zFr_up, _, rfl, Or.inl ⟨h1, up_same _ _ _ _⟩⟩
  · exact ⟨rfl, zFr_up, _, rfl, Or.inr (Or.inl ⟨h1, h2, up_same _ _ _ _⟩)⟩
  · exact ⟨rfl, zFr_up, _, rfl, Or.inr (Or.inr ⟨h1, h2, h3, up_same _ _ _ _⟩)⟩
theorem zM3_G {P1 P2 : Prop} {R : Int → Prop} {S : zS} {w : zW} {v : Option Value} {S' : zS} {w' : zW} (h : zM3 P1 P2 R S w v S' w') : S' = S ∧ zFr w w' ∧ ∃ r, v = some (zI r) ∧ zGq P1 P2 R r (w' 73 1) := by
  obtain ⟨rfl, ⟨h1, rfl, rfl⟩ | ⟨h1, h2, rfl, rfl⟩ | ⟨h1, h2, ⟨r, rfl, h3⟩, h4⟩⟩ := h
  · exact ⟨rfl, zFr_up, _, rfl, Or.inl ⟨h1, up_same _ _ _ _⟩⟩
  · exact ⟨rfl, zFr_up, _, rfl, Or.inr (Or.inl ⟨h1, h2, up_same _ _ _ _⟩)⟩
  · exact ⟨rfl, fun c x a b e => by rw [h4 c x b]; exact zFr_up c x a b e, _, rfl, Or.inr (Or.inr ⟨h1, h2, h3, by rw [h4 73 1 (by decide)]; exact up_same _ _ _ _⟩)⟩
/-- the class's reading calls -/
def zRq (P : Int → Prop) (S : zS) (w : zW) (v : Option Value) (S' : zS) (w' : zW) : Prop := (∃ r, v = some (zI r) ∧ P r) ∧ S' = S ∧ ∀ (c : Nat) (x : Int), c ≠ 43 → c ≠ 61 → w' c x = w c x
theorem zIs_Q {P : Prop} {a : Int} {S : zS} {w : zW} {v : Option Value} {S' : zS} {w' : zW} (h : zIs P a S w v S' w') : zRq (fun r => P ∧ r = a) S w v S' w' := by
  obtain ⟨h1, rfl, rfl, rfl⟩ := h
  exact ⟨⟨_, rfl, h1, rfl⟩, rfl, fun _ _ _ _ => rfl⟩
theorem zIr_Q {P : Prop} {R : Int → Prop} {S : zS} {w : zW} {v : Option Value} {S' : zS} {w' : zW} (h : zIr P R S w v S' w') : zRq (fun r => P ∧ R r) S w v S' w' := by
  obtain ⟨h1, ⟨r, rfl, h2⟩, rfl, rfl⟩ := h
  exact ⟨⟨_, rfl, h1, h2⟩, rfl, fun _ _ _ _ => rfl⟩
theorem zPr_ro {l : Launch} {n t dr tx : Nat} {w : zW} {mc mr : zM} {kN kI : Int} {as : List Value} {d bc bs : Nat} {Q : Option Value → zS → zW → Prop} {X : String → zS → zW → Prop} {P R : Int → Prop} {N1 N2 P1 P2 : Prop} (h : zSim n t dr tx w) (hb : d ≤ 14 ∧ bc ≤ 3 ∧ bs ≤ 18) (hs : zSp l mc false d bc bs (zR 0 :: as) (ZZ t dr tx) w Q X)
    (hQ : ∀ v S w1, Q v S w1 → zRq P (ZZ t dr tx) w v S w1) (hX : ∀ E S w1, X E S w1 → zXp N1 N2 (ZZ t dr tx) w E S w1)
    (hR : ∀ w2 : zW, (∀ (c : Nat) (x : Int), 73 ≤ c → c ≠ 121 → w2 c x = w c x) → ∃ (d2 : Nat) (Q2 : Option Value → zS → zW → Prop), d2 ≤ 15 ∧ zSp l mr false d2 0 0 (zR 73 :: as) (ZZ t dr tx) w2 Q2 zNo ∧ ∀ v2 S2 w3, Q2 v2 S2 w3 → S2 = ZZ t dr tx ∧ zFr w2 w3 ∧ ∃ r, v2 = some (zI r) ∧ zGq P1 P2 R r (w3 73 1))
    (c1 : ∀ r, P r → ¬ P1 ∧ ¬ P2) (c2 : ∀ r r2, P r → R r2 → r2 = r) (c3 : N1 → P1 ∧ kN = 1) (c4 : N2 → (P1 ∧ kI = 1) ∨ (¬ P1 ∧ P2 ∧ kI = 2)) : zPr l n mc mr kN kI false as t dr tx w := by
  have hk : ∀ w2 w3 : zW, (∀ (c : Nat) (x : Int), c ≠ 43 → c ≠ 61 → c ≠ 121 → w2 c x = w c x) → zFr w2 w3 → zSim (n + 1) t dr tx w3 := fun w2 w3 e1 e2 => zSim_k h (fun c x hc => by
    have ht := h.ht
    rw [e2 c x (by rintro rfl; unfold sFp at hc; simp at hc; omega) (by rintro rfl; unfold sFp at hc; simp at hc; omega) (by
      by_cases hc2 : c = 73
      · subst hc2; unfold sFp at hc; simp at hc; omega
      · exact Or.inl hc2)]
    exact e1 c x (by rintro rfl; unfold sFp at hc; simp at hc; omega) (by rintro rfl; unfold sFp at hc; simp at hc; omega) (by rintro rfl; unfold sFp at hc; simp at hc; omega))
  refine ⟨d, bc, bs, Q, X, hb, hs, fun v S w1 hq w2 hw => ?_, fun E S w1 hx => ?_⟩
  · obtain ⟨⟨r, rfl, hP⟩, rfl, hf⟩ := hQ v S w1 hq
    obtain ⟨d2, Q2, hd, hsp, hk2⟩ := hR w2 (fun c x a b => (hw c x b).trans (hf c x (by omega) (by omega)))
    refine ⟨⟨_, _, _, rfl⟩, ⟨_, rfl⟩, d2, Q2, hd, hsp, fun v2 S2 w3 hq2 => ?_⟩
    obtain ⟨rfl, hfr, r2, rfl, hg⟩ := hk2 v2 S2 w3 hq2
    have h1 := c1 r hP
    have hsim := hk w2 w3 (fun c x a b e => (hw c x e).trans (hf c x a b)) hfr
    rcases hg with ⟨g, -⟩ | ⟨-, g, -⟩ | ⟨-, -, g1, g2⟩
    · exact absurd g h1.1
    · exact absurd g h1.2
    · rw [c2 r r2 hP g1]
      exact ⟨rfl, g2, hfr 121 0 (by decide) (by decide) (Or.inl (by decide)), t, dr, tx, rfl, hsim⟩
  · obtain ⟨hE, rfl, rfl⟩ := hX E S w1 hx
    obtain ⟨d2, Q2, hd, hsp, hk2⟩ := hR w1 (fun c x a b => rfl)
    have hz : ∀ k : Int, (∀ r k2, zGq P1 P2 R r k2 → k2 = k) → ∀ (v2 : Option Value) (S2 : zS) (w3 : zW), Q2 v2 S2 w3 → (∃ z, v2 = some (zI z)) ∧ w3 73 1 = k ∧ ∃ t2 dr2 tx2 : Nat, S2 = ZZ t2 dr2 tx2 ∧ zSim (n + 1) t2 dr2 tx2 w3 := fun k hk3 v2 S2 w3 hq2 => by
      obtain ⟨rfl, hfr, r2, rfl, hg⟩ := hk2 v2 S2 w3 hq2
      exact ⟨⟨_, rfl⟩, hk3 _ _ hg, t, dr, tx, rfl, hk w1 w3 (fun _ _ _ _ _ => rfl) hfr⟩
    rcases hE with ⟨rfl, hN⟩ | ⟨rfl, hN⟩
    · have h3 := c3 hN
      refine ⟨kN, Or.inl ⟨rfl, rfl, by omega⟩, ⟨_, _, _, rfl⟩, d2, Q2, hd, hsp, hz kN (fun r k2 hg => ?_)⟩
      rcases hg with ⟨-, g⟩ | ⟨g, -⟩ | ⟨g, -⟩
      · omega
      · exact absurd h3.1 g
      · exact absurd h3.1 g
    · have h4 := c4 hN
      refine ⟨kI, Or.inr ⟨rfl, rfl, by omega⟩, ⟨_, _, _, rfl⟩, d2, Q2, hd, hsp, hz kI (fun r k2 hg => ?_)⟩
      rcases h4 with ⟨g1, g2⟩ | ⟨g1, g2, g3⟩ <;> rcases hg with ⟨g, g9⟩ | ⟨g, g8, g9⟩ | ⟨g, g8, -, g9⟩
      · omega
      · exact absurd g1 g
      · exact absurd g1 g
      · exact absurd g g1
      · omega
      · exact absurd g2 g8
