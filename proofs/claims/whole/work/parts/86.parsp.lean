/-! the text, the pure part: tokens -/
def isRn (P : Int → Prop) (n p q : Int) : Prop := p ≤ q ∧ (∀ x : Int, p ≤ x → x < q → x < n ∧ P x) ∧ ¬ (q < n ∧ P q)
theorem isRn_ex {P : Int → Prop} {n : Int} : ∀ (k : Nat) (p : Int), n - p ≤ k → ∃ q, isRn P n p q := by
  intro k
  induction k with
  | zero => intro p h; exact ⟨p, Int.le_refl _, fun x a c => by omega, fun q => by omega⟩
  | succ k ih =>
    intro p h
    by_cases hp : p < n ∧ P p
    · obtain ⟨q, h1, h2, h3⟩ := ih (p + 1) (by omega)
      refine ⟨q, by omega, fun x a c => ?_, h3⟩
      by_cases e : x = p
      · rw [e]; exact hp
      · exact h2 x (by omega) c
    · exact ⟨p, Int.le_refl _, fun x a c => by omega, hp⟩
theorem isRn_u {P : Int → Prop} {n p q q' : Int} (h : isRn P n p q) (k : isRn P n p q') : q = q' := by
  rcases Int.lt_trichotomy q q' with g | g | g
  · exact absurd (k.2.1 q h.1 g) h.2.2
  · exact g
  · exact absurd (h.2.1 q' k.1 g) k.2.2
noncomputable def rnF (P : Int → Prop) (n p : Int) : Int := Classical.choose (isRn_ex (P := P) (n := n) (n - p).toNat p (by omega))
theorem rnF_is (P : Int → Prop) (n p : Int) : isRn P n p (rnF P n p) := Classical.choose_spec (isRn_ex (P := P) (n := n) (n - p).toNat p (by omega))
theorem rnF_eq {P : Int → Prop} {n p q : Int} (h : isRn P n p q) : rnF P n p = q := isRn_u (rnF_is P n p) h
theorem rnF_le {P : Int → Prop} {n p : Int} (h : p ≤ n) : p ≤ rnF P n p ∧ rnF P n p ≤ n := by
  obtain ⟨h1, h2, h3⟩ := rnF_is P n p
  refine ⟨h1, Classical.byContradiction (fun q => ?_)⟩
  have := (h2 n h (by omega)).1
  omega
/-- a token behind p: where it begins, its kind, where it ends -/
noncomputable def tkS (b : Int → Int) (n p : Int) : Int := rnF (fun x => kdOf (b x) = 5) n p
noncomputable def tkK (b : Int → Int) (n p : Int) : Int := if tkS b n p < n then kdOf (b (tkS b n p)) else 0
noncomputable def tkE (b : Int → Int) (n p : Int) : Int := if tkK b n p = 0 then tkS b n p else if tkK b n p = 1 ∨ tkK b n p = 2 then rnF (fun x => kdOf (b x) = tkK b n p) n (tkS b n p + 1) else tkS b n p + 1
def dgv (b : Int → Int) (s : Int) : Nat → Int
  | 0 => 0
  | k + 1 => dgv b s k * 10 + b (s + (k : Int)) - 48
noncomputable def tkV (b : Int → Int) (n p : Int) : Int := dgv b (tkS b n p) (tkE b n p - tkS b n p).toNat
theorem kdOf_b (c : Int) : 1 ≤ kdOf c ∧ kdOf c ≤ 5 := by
  unfold kdOf; repeat' split
  all_goals omega
theorem kdOf_1 {c : Int} : kdOf c = 1 ↔ 97 ≤ c ∧ c ≤ 122 := by
  unfold kdOf; repeat' split
  all_goals omega
theorem kdOf_2 {c : Int} : kdOf c = 2 ↔ 48 ≤ c ∧ c ≤ 57 := by
  unfold kdOf; repeat' split
  all_goals omega
theorem kdOf_3 {c : Int} : kdOf c = 3 ↔ c = 59 := by
  unfold kdOf; repeat' split
  all_goals omega
theorem kdOf_5 {c : Int} : kdOf c = 5 ↔ c = 32 ∨ c = 10 := by
  unfold kdOf; repeat' split
  all_goals omega
theorem tkS_b {b : Int → Int} {n : Int} {p : Int} (h : p ≤ n) : p ≤ tkS b n p ∧ tkS b n p ≤ n := rnF_le h
theorem tkK_b {b : Int → Int} {n : Int} {p : Int} : 0 ≤ tkK b n p ∧ tkK b n p ≤ 4 := by
  have h := (rnF_is (fun x => kdOf (b x) = 5) n p).2.2
  unfold tkK
  split
  · have h1 := kdOf_b (b (tkS b n p))
    have h2 : kdOf (b (tkS b n p)) ≠ 5 := fun e => h ⟨by assumption, e⟩
    omega
  · omega
theorem tkK_0 {b : Int → Int} {n : Int} {p : Int} (h : p ≤ n) : tkK b n p = 0 ↔ tkS b n p = n := by
  have h1 := tkS_b (b := b) h
  unfold tkK
  split
  · have := kdOf_b (b (tkS b n p))
    omega
  · omega
theorem tkK_lt {b : Int → Int} {n : Int} {p : Int} (h : tkK b n p ≠ 0) : tkS b n p < n ∧ tkK b n p = kdOf (b (tkS b n p)) := by
  unfold tkK at h ⊢
  split
  · exact ⟨by assumption, rfl⟩
  · rename_i g; rw [if_neg g] at h; exact absurd rfl h
theorem tkE_b {b : Int → Int} {n : Int} {p : Int} (h : p ≤ n) : tkS b n p ≤ tkE b n p ∧ tkE b n p ≤ n ∧ (tkK b n p ≠ 0 → tkS b n p < tkE b n p) := by
  have h1 := tkS_b (b := b) h
  unfold tkE
  by_cases g : tkK b n p = 0
  · rw [if_pos g]; exact ⟨Int.le_refl _, h1.2, fun q => absurd g q⟩
  · rw [if_neg g]
    have h2 := tkK_lt g
    split
    · have h3 := rnF_le (P := fun x => kdOf (b x) = tkK b n p) (n := n) (p := tkS b n p + 1) (by omega)
      exact ⟨by omega, h3.2, fun _ => by omega⟩
    · exact ⟨by omega, by omega, fun _ => by omega⟩
theorem tkE_r {b : Int → Int} {n : Int} {p : Int} (g : tkK b n p = 1 ∨ tkK b n p = 2) : isRn (fun x => kdOf (b x) = tkK b n p) n (tkS b n p + 1) (tkE b n p) := by
  have h : tkE b n p = rnF (fun x => kdOf (b x) = tkK b n p) n (tkS b n p + 1) := by
    unfold tkE; rw [if_neg (by omega), if_pos g]
  rw [h]; exact rnF_is _ _ _
/-- all its signs are of its kind -/
theorem tkE_k {b : Int → Int} {n : Int} {p : Int} (g : tkK b n p = 1 ∨ tkK b n p = 2) {x : Int} (x0 : tkS b n p ≤ x) (x1 : x < tkE b n p) : x < n ∧ kdOf (b x) = tkK b n p := by
  have h1 := tkK_lt (b := b) (n := n) (p := p) (by omega)
  by_cases e : x = tkS b n p
  · rw [e]; exact ⟨h1.1, h1.2.symm⟩
  · exact (tkE_r g).2.1 x (by omega) x1
theorem dgv_b {b : Int → Int} {s : Int} : ∀ k : Nat, (∀ j : Int, 0 ≤ j → j < k → 48 ≤ b (s + j) ∧ b (s + j) ≤ 57) → 0 ≤ dgv b s k ∧ dgv b s k < ((10 ^ k : Nat) : Int)
  | 0, _ => ⟨Int.le_refl _, by show (0 : Int) < ((1 : Nat) : Int); decide⟩
  | k + 1, h => by
    have h1 := dgv_b k (fun j a c => h j a (by omega))
    have h2 := h (k : Int) (by omega) (by omega)
    have e : ((10 ^ (k + 1) : Nat) : Int) = ((10 ^ k : Nat) : Int) * 10 := by rw [Nat.pow_succ, Int.natCast_mul]; rfl
    show 0 ≤ dgv b s k * 10 + b (s + (k : Int)) - 48 ∧ dgv b s k * 10 + b (s + (k : Int)) - 48 < _
    rw [e]
    omega
theorem tkV_b {b : Int → Int} {n : Int} {p : Int} (h : p ≤ n) (g : tkK b n p = 2) (hl : tkE b n p - tkS b n p ≤ 4) : 0 ≤ tkV b n p ∧ tkV b n p ≤ 9999 := by
  have h1 := tkE_b (b := b) h
  have h2 := dgv_b (b := b) (s := tkS b n p) (tkE b n p - tkS b n p).toNat (fun j a c => by
    have := (tkE_k (b := b) (Or.inr g) (x := tkS b n p + j) (by omega) (by omega)).2
    rw [g] at this
    exact kdOf_2.mp this)
  have h3 : (10 : Nat) ^ (tkE b n p - tkS b n p).toNat ≤ 10 ^ 4 := Nat.pow_le_pow_right (by decide) (by omega)
  unfold tkV
  omega
abbrev zP : Type := Int ⊕ (Int × Int)
def okP (s : zP) : Prop := match s with
  | .inl _ => True
  | .inr _ => False
def inP (n : Int) (s : zP) : Prop := match s with
  | .inl p => 0 ≤ p ∧ p ≤ n
  | .inr e => e.1 ≠ 0
def isW (b : Int → Int) (n : Int) (k : Nat) (p : Int) : Prop := tkK b n p = 1 ∧ tkE b n p - tkS b n p = sLen k ∧ ∀ i : Int, 0 ≤ i → i < sLen k → b (tkS b n p + i) = sCh k i
noncomputable def pVal (b : Int → Int) (n : Int) (s : zP) : Int := match s with
  | .inl p => tkV b n p
  | .inr _ => 0
noncomputable def pNum (b : Int → Int) (n lo hi : Int) (s : zP) : zP := match s with
  | .inl p => if tkK b n p ≠ 2 then .inr (1, tkS b n p) else if 4 < tkE b n p - tkS b n p ∨ tkV b n p < lo ∨ hi < tkV b n p then .inr (2, tkS b n p) else .inl (tkE b n p)
  | .inr e => .inr e
noncomputable def pWord (b : Int → Int) (n : Int) (k : Nat) (s : zP) : zP := match s with
  | .inl p => @ite _ (isW b n k p) (Classical.propDecidable _) (.inl (tkE b n p)) (.inr (1, tkS b n p))
  | .inr e => .inr e
noncomputable def pSign (b : Int → Int) (n : Int) (s : zP) : zP := match s with
  | .inl p => if tkK b n p = 3 then .inl (tkE b n p) else .inr (1, tkS b n p)
  | .inr e => .inr e
noncomputable def pChim (b : Int → Int) (n nc un : Int) (s : zP) : zP := match s with
  | .inl p => if tkK b n p ≠ 2 then .inr (1, tkS b n p) else if 4 < tkE b n p - tkS b n p then .inr (2, tkS b n p) else if nc ≤ tkV b n p then .inr (3, tkS b n p) else if tkV b n p = un then .inr (5, tkS b n p) else .inl (tkE b n p)
  | .inr e => .inr e
noncomputable def pTill (b : Int → Int) (n f : Int) (s : zP) : zP := match s with
  | .inl p => if tkK b n p ≠ 2 then .inr (1, tkS b n p) else if 4 < tkE b n p - tkS b n p then .inr (2, tkS b n p) else if tkV b n p < f then .inr (4, tkS b n p) else if 29 < tkV b n p then .inr (2, tkS b n p) else .inl (tkE b n p)
  | .inr e => .inr e
theorem pNum_in {b : Int → Int} {n : Int} {lo hi : Int} {s : zP} (h : inP n s) : inP n (pNum b n lo hi s) := by
  cases s with
  | inr e => exact h
  | inl p =>
    have h1 := tkS_b (b := b) h.2
    have h2 := tkE_b (b := b) h.2
    unfold pNum
    simp only
    repeat' split
    · show (1 : Int) ≠ 0; decide
    · show (2 : Int) ≠ 0; decide
    · show 0 ≤ tkE b n p ∧ tkE b n p ≤ n
      have := h.1; omega
theorem pNum_ok {b : Int → Int} {n : Int} {lo hi : Int} {s : zP} (h : okP (pNum b n lo hi s)) : okP s ∧ lo ≤ pVal b n s ∧ pVal b n s ≤ hi := by
  cases s with
  | inr e => exact h.elim
  | inl p =>
    unfold pNum at h
    simp only at h
    split at h
    · exact h.elim
    · split at h
      · exact h.elim
      · exact ⟨trivial, by show lo ≤ tkV b n p; omega, by show tkV b n p ≤ hi; omega⟩
theorem pWord_in {b : Int → Int} {n : Int} {k : Nat} {s : zP} (h : inP n s) : inP n (pWord b n k s) := by
  cases s with
  | inr e => exact h
  | inl p =>
    have h1 := tkS_b (b := b) h.2
    have h2 := tkE_b (b := b) h.2
    unfold pWord
    simp only
    split
    · show 0 ≤ tkE b n p ∧ tkE b n p ≤ n
      have := h.1; omega
    · show (1 : Int) ≠ 0; decide
theorem pWord_ok {b : Int → Int} {n : Int} {k : Nat} {s : zP} (h : okP (pWord b n k s)) : okP s := by
  cases s with
  | inr e => exact h
  | inl p => trivial
theorem pSign_in {b : Int → Int} {n : Int} {s : zP} (h : inP n s) : inP n (pSign b n s) := by
  cases s with
  | inr e => exact h
  | inl p =>
    have h1 := tkS_b (b := b) h.2
    have h2 := tkE_b (b := b) h.2
    unfold pSign
    simp only
    split
    · show 0 ≤ tkE b n p ∧ tkE b n p ≤ n
      have := h.1; omega
    · show (1 : Int) ≠ 0; decide
theorem pSign_ok {b : Int → Int} {n : Int} {s : zP} (h : okP (pSign b n s)) : okP s := by
  cases s with
  | inr e => exact h
  | inl p => trivial
theorem pChim_in {b : Int → Int} {n : Int} {nc un : Int} {s : zP} (h : inP n s) : inP n (pChim b n nc un s) := by
  cases s with
  | inr e => exact h
  | inl p =>
    have h1 := tkS_b (b := b) h.2
    have h2 := tkE_b (b := b) h.2
    unfold pChim
    simp only
    repeat' split
    · show (1 : Int) ≠ 0; decide
    · show (2 : Int) ≠ 0; decide
    · show (3 : Int) ≠ 0; decide
    · show (5 : Int) ≠ 0; decide
    · show 0 ≤ tkE b n p ∧ tkE b n p ≤ n
      have := h.1; omega
theorem pChim_ok {b : Int → Int} {n : Int} {nc un : Int} {s : zP} (hi : inP n s) (h : okP (pChim b n nc un s)) : okP s ∧ (0 ≤ pVal b n s ∧ pVal b n s < nc) ∧ pVal b n s ≠ un := by
  cases s with
  | inr e => exact h.elim
  | inl p =>
    unfold pChim at h
    simp only at h
    split at h
    · exact h.elim
    · rename_i g1
      split at h
      · exact h.elim
      · rename_i g2
        split at h
        · exact h.elim
        · split at h
          · exact h.elim
          · have := tkV_b (b := b) hi.2 (by omega) (by omega)
            exact ⟨trivial, ⟨this.1, by show tkV b n p < nc; omega⟩, by assumption⟩
theorem pChim_un {b : Int → Int} {n : Int} {nc u u' : Int} {s : zP} (h : okP s → u = u') : pChim b n nc u s = pChim b n nc u' s := by
  cases s with
  | inr e => rfl
  | inl p => rw [h trivial]
theorem pTill_in {b : Int → Int} {n : Int} {f : Int} {s : zP} (h : inP n s) : inP n (pTill b n f s) := by
  cases s with
  | inr e => exact h
  | inl p =>
    have h1 := tkS_b (b := b) h.2
    have h2 := tkE_b (b := b) h.2
    unfold pTill
    simp only
    repeat' split
    · show (1 : Int) ≠ 0; decide
    · show (2 : Int) ≠ 0; decide
    · show (4 : Int) ≠ 0; decide
    · show (2 : Int) ≠ 0; decide
    · show 0 ≤ tkE b n p ∧ tkE b n p ≤ n
      have := h.1; omega
theorem pTill_ok {b : Int → Int} {n : Int} {f : Int} {s : zP} (h : okP (pTill b n f s)) : okP s ∧ f ≤ pVal b n s ∧ pVal b n s ≤ 29 := by
  cases s with
  | inr e => exact h.elim
  | inl p =>
    unfold pTill at h
    simp only at h
    split at h
    · exact h.elim
    · split at h
      · exact h.elim
      · split at h
        · exact h.elim
        · split at h
          · exact h.elim
          · exact ⟨trivial, by show f ≤ tkV b n p; omega, by show tkV b n p ≤ 29; omega⟩
theorem pTill_f {b : Int → Int} {n : Int} {f f' : Int} {s : zP} (h : okP s → f = f') : pTill b n f s = pTill b n f' s := by
  cases s with
  | inr e => rfl
  | inl p => rw [h trivial]
/-- what a text tells, as a world of its own: 0 counts (chimneys, letters, days, nests), 1 courses, 2 winds, 3 letters, 4 moves, 5 nests -/
def yAddC (Y : zW) (v : Int) : zW := up (up Y 1 (Y 0 0) v) 0 0 (Y 0 0 + 1)
def yAddW (Y : zW) (v : Int) : zW := up (up Y 2 (Y 0 2) v) 0 2 (Y 0 2 + 1)
def yAddL (Y : zW) (v0 v1 v2 v3 v4 v5 : Int) : zW := up (up (up (up (up (up (up Y 3 (6 * Y 0 1) v0) 3 (6 * Y 0 1 + 1) v1) 3 (6 * Y 0 1 + 2) v2) 3 (6 * Y 0 1 + 3) v3) 3 (6 * Y 0 1 + 4) v4) 3 (6 * Y 0 1 + 5) v5) 0 1 (Y 0 1 + 1)
def yAddR (Y : zW) (a c v : Int) : zW := up (up Y 4 (12 * a + c) v) 4 (12 * c + a) v
def yAddN (Y : zW) (c f t : Int) : zW := up (up (up (up Y 5 (3 * Y 0 3) c) 5 (3 * Y 0 3 + 1) f) 5 (3 * Y 0 3 + 2) t) 0 3 (Y 0 3 + 1)
noncomputable def wnd1 (b : Int → Int) (n : Int) (s : zP) (Y : zW) : zP := pNum b n 0 12 (match s with
  | .inl p => if tkK b n p = 2 ∧ 30 ≤ Y 0 2 then .inr (2, tkS b n p) else .inl p
  | .inr e => .inr e)
noncomputable def wndF (b : Int → Int) (n : Int) : Nat → zP → zW → zP × zW
  | 0, s, Y => (s, Y)
  | k + 1, s, Y => match wnd1 b n s Y with
    | .inr e => (.inr e, Y)
    | .inl p => if tkK b n p = 2 then wndF b n k (.inl p) (yAddW Y (pVal b n s)) else (.inl p, yAddW Y (pVal b n s))
noncomputable def lt1 (b : Int → Int) (n : Int) (Y : zW) (s : zP) : zP := pWord b n 5 (pChim b n (Y 0 0) (-1) s)
noncomputable def lt2 (b : Int → Int) (n : Int) (Y : zW) (s : zP) : zP := pWord b n 6 (pNum b n 1 9 (lt1 b n Y s))
noncomputable def lt3 (b : Int → Int) (n : Int) (Y : zW) (s : zP) : zP := pWord b n 7 (pNum b n 0 12 (lt2 b n Y s))
noncomputable def lt4 (b : Int → Int) (n : Int) (Y : zW) (s : zP) : zP := pWord b n 8 (pNum b n 0 29 (lt3 b n Y s))
noncomputable def lt5 (b : Int → Int) (n : Int) (Y : zW) (s : zP) : zP := pWord b n 9 (pTill b n (pVal b n (lt3 b n Y s)) (lt4 b n Y s))
noncomputable def lt6 (b : Int → Int) (n : Int) (Y : zW) (s : zP) : zP := pNum b n 0 9999 (lt5 b n Y s)
noncomputable def rd1 (b : Int → Int) (n : Int) (Y : zW) (s : zP) : zP := pChim b n (Y 0 0) (-1) s
noncomputable def rd2 (b : Int → Int) (n : Int) (Y : zW) (s : zP) : zP := pWord b n 10 (pChim b n (Y 0 0) (pVal b n s) (rd1 b n Y s))
noncomputable def rd3 (b : Int → Int) (n : Int) (Y : zW) (s : zP) : zP := pNum b n 0 9 (rd2 b n Y s)
noncomputable def ne1 (b : Int → Int) (n : Int) (Y : zW) (s : zP) : zP := pWord b n 7 (pChim b n (Y 0 0) (-1) s)
noncomputable def ne2 (b : Int → Int) (n : Int) (Y : zW) (s : zP) : zP := pWord b n 8 (pNum b n 0 29 (ne1 b n Y s))
noncomputable def ne3 (b : Int → Int) (n : Int) (Y : zW) (s : zP) : zP := pTill b n (pVal b n (ne1 b n Y s)) (ne2 b n Y s)
/-- which clause -/
noncomputable def wh (b : Int → Int) (n p : Int) : Int := @ite _ (isW b n 0 p) (Classical.propDecidable _) 0 (@ite _ (isW b n 1 p) (Classical.propDecidable _) 1 (@ite _ (isW b n 2 p) (Classical.propDecidable _) 2 (@ite _ (isW b n 3 p) (Classical.propDecidable _) 3 (@ite _ (isW b n 4 p) (Classical.propDecidable _) 4 (-1)))))
noncomputable def clF (b : Int → Int) (n p : Int) (Y : zW) : zP × zW :=
  if wh b n p = 0 then (if 12 ≤ Y 0 0 then (.inr (2, tkS b n p), Y) else (pSign b n (pNum b n 1 200 (.inl (tkE b n p))), yAddC Y (pVal b n (.inl (tkE b n p)))))
  else if wh b n p = 1 then (pSign b n (wndF b n 31 (.inl (tkE b n p)) Y).1, (wndF b n 31 (.inl (tkE b n p)) Y).2)
  else if wh b n p = 2 then (if 8 ≤ Y 0 1 then (.inr (2, tkS b n p), Y) else (pSign b n (lt6 b n Y (.inl (tkE b n p))), yAddL Y (pVal b n (.inl (tkE b n p))) (pVal b n (lt1 b n Y (.inl (tkE b n p)))) (pVal b n (lt2 b n Y (.inl (tkE b n p)))) (pVal b n (lt3 b n Y (.inl (tkE b n p)))) (pVal b n (lt4 b n Y (.inl (tkE b n p)))) (pVal b n (lt5 b n Y (.inl (tkE b n p))))))
  else if wh b n p = 3 then (pSign b n (rd3 b n Y (.inl (tkE b n p))), yAddR Y (pVal b n (.inl (tkE b n p))) (pVal b n (rd1 b n Y (.inl (tkE b n p)))) (pVal b n (rd2 b n Y (.inl (tkE b n p)))))
  else if wh b n p = 4 then (if 12 ≤ Y 0 3 then (.inr (2, tkS b n p), Y) else (pSign b n (ne3 b n Y (.inl (tkE b n p))), yAddN Y (pVal b n (.inl (tkE b n p))) (pVal b n (ne1 b n Y (.inl (tkE b n p)))) (pVal b n (ne2 b n Y (.inl (tkE b n p))))))
  else (.inr (1, tkS b n p), Y)
noncomputable def runP (b : Int → Int) (n : Int) : Nat → zP → zW → zP × zW
  | 0, s, Y => (s, Y)
  | _ + 1, .inr e, Y => (.inr e, Y)
  | k + 1, .inl p, Y => if tkK b n p = 0 then (.inl p, Y) else runP b n k (clF b n p Y).1 (clF b n p Y).2
def Y00 : zW := fun c i => if c = 2 then 13 else if c = 4 then (if i / 12 = i % 12 then 0 else 1) else 0
