/-! the whole bill of the class -/
def zAg (A B : (Int → Int) × (Int → Int) × Int) : Prop := A.2.2 = B.2.2 ∧ ∀ o : Int, 0 ≤ o → o < 6 → A.1 o = B.1 o ∧ A.2.1 o = B.2.1 o
theorem zAg_rfl {A : (Int → Int) × (Int → Int) × Int} : zAg A A := ⟨rfl, fun _ _ _ => ⟨rfl, rfl⟩⟩
theorem zAg_tr {A B C : (Int → Int) × (Int → Int) × Int} (h : zAg A B) (k : zAg B C) : zAg A C := ⟨h.1.trans k.1, fun o h0 h1 => ⟨(h.2 o h0 h1).1.trans (k.2 o h0 h1).1, (h.2 o h0 h1).2.trans (k.2 o h0 h1).2⟩⟩
theorem oShare_c {m m2 p : Int → Int} {x o : Int} (ht : oTog m p = oTog m2 p) (h : m o = m2 o) : oShare m p x o = oShare m2 p x o := by unfold oShare oEff; rw [ht, h]
theorem oGot_c {m m2 p : Int → Int} {x : Int} (h : ∀ o : Int, 0 ≤ o → o < 6 → m o = m2 o) : oTog m p = oTog m2 p ∧ oGot m p x = oGot m2 p x := by
  have ht : oTog m p = oTog m2 p := (oTog_c (m := m2) (m' := m) (p := p) (p' := p) 6 (fun o a b => h o a (by omega)) (fun _ _ _ => rfl))
  refine ⟨ht, ?_⟩
  unfold oGot
  rw [ht]
  split
  · rfl
  · exact zsum_c 6 (fun k hk => oShare_c ht (h k (by omega) (by omega)))
theorem oPaid_c {m m2 p : Int → Int} {x : Int} (h : ∀ o : Int, 0 ≤ o → o < 6 → m o = m2 o) (o : Int) (h0 : 0 ≤ o) (h1 : o < 6) : oPaid m p x o = oPaid m2 p x o := by
  have ht := (oGot_c (p := p) (x := x) h).1
  unfold oPaid
  rw [ht, oShare_c ht (h o h0 h1)]
theorem oRun_c {p : Int → Int} : ∀ (n : Nat) (m m2 q q2 : Int → Int) (x : Int), (∀ o : Int, 0 ≤ o → o < 6 → m o = m2 o ∧ q o = q2 o) → zAg (oRun p n m q x) (oRun p n m2 q2 x) := by
  intro n
  induction n with
  | zero => intro m m2 q q2 x h; exact ⟨rfl, h⟩
  | succ n ih =>
    intro m m2 q q2 x h
    have hm : ∀ o : Int, 0 ≤ o → o < 6 → m o = m2 o := fun o a b => (h o a b).1
    simp only [oRun]
    rw [(oGot_c (p := p) (x := x) hm).2]
    split
    · exact ⟨rfl, h⟩
    · exact ih _ _ _ _ _ (fun o a b => by
        show m o - oPaid m p x o = m2 o - oPaid m2 p x o ∧ q o + oPaid m p x o = q2 o + oPaid m2 p x o
        rw [oPaid_c hm o a b, (h o a b).1, (h o a b).2]; exact ⟨rfl, rfl⟩)
theorem oOnes_c {p : Int → Int} {m m2 q q2 : Int → Int} {x : Int} (h : ∀ o : Int, 0 ≤ o → o < 6 → m o = m2 o ∧ q o = q2 o) : ∀ n : Nat, n ≤ 6 → zAg (oOnes p n m q x) (oOnes p n m2 q2 x) := by
  intro n
  induction n with
  | zero => intro _; exact ⟨rfl, h⟩
  | succ n ih =>
    intro hn
    have i := ih (by omega)
    simp only [oOnes]
    rw [i.1, show oEff m p n = oEff m2 p n by unfold oEff; rw [(h n (by omega) (by omega)).1]]
    split
    · refine ⟨rfl, fun o a b => ?_⟩
      show (if o = n then _ else _) = (if o = n then _ else _) ∧ (if o = n then _ else _) = (if o = n then _ else _)
      rw [(i.2 o a b).1, (i.2 o a b).2]; exact ⟨rfl, rfl⟩
    · exact i
def oAll (p m : Int → Int) (x : Int) : (Int → Int) × (Int → Int) × Int := oOnes p 6 (oRun p 100000 m (fun _ => 0) x).1 (oRun p 100000 m (fun _ => 0) x).2.1 (oRun p 100000 m (fun _ => 0) x).2.2
theorem oPaid_b {m p : Int → Int} {x o : Int} (h : okOwn m p) (hx : 0 ≤ x) (h0 : 0 ≤ o) (h1 : o < 6) : 0 ≤ oPaid m p x o ∧ oPaid m p x o ≤ m o := by
  unfold oPaid
  split
  · have := h o h0 h1; omega
  · exact oShare_b h hx h0 h1 (by omega)
