/-! what to ask next -/
theorem up_n {w : zW} {c0 c : Nat} {i0 i v : Int} (b : c ≠ c0 ∨ i ≠ i0) : up w c0 i0 v c i = w c i := by
  rcases b with b | b
  · exact up_cell _ _ _ _ b
  · exact up_idx _ _ _ _ b
theorem zsum_ad {f g h : Nat → Int} : ∀ n : Nat, (∀ k, k < n → h k = f k + g k) → zsum n h = zsum n f + zsum n g := by
  intro n
  induction n with
  | zero => intro _; rfl
  | succ n ih => intro e; simp only [zsum]; rw [ih (fun k hk => e k (by omega)), e n (by omega)]; omega
theorem ite3 {A B C : Prop} [Decidable A] [Decidable B] [Decidable C] (f : Bool) (h1 : A ↔ B ∨ C) (h2 : ¬ (B ∧ C)) : (if (f && decide A) = true then (1 : Int) else 0) = (if (f && decide B) = true then 1 else 0) + (if (f && decide C) = true then 1 else 0) := by
  cases f with
  | false => simp
  | true =>
    simp only [Bool.true_and, decide_eq_true_iff]
    by_cases b : B
    · by_cases c : C
      · exact absurd ⟨b, c⟩ h2
      · rw [if_pos (h1.mpr (Or.inl b)), if_pos b, if_neg c]; rfl
    · by_cases c : C
      · rw [if_pos (h1.mpr (Or.inr c)), if_neg b, if_pos c]; rfl
      · rw [if_neg (fun h => (h1.mp h).elim b c), if_neg b, if_neg c]; rfl
/-- cases that fit and are of a kind -/
noncomputable def cq (fit : Int → Bool) (N : Int) (P : Int → Prop) : Int := ixF (fun c => fit c && (@decide (P c) (Classical.propDecidable _))) N
theorem cq_b {fit : Int → Bool} {N : Int} {P : Int → Prop} (h : 0 ≤ N) : 0 ≤ cq fit N P ∧ cq fit N P ≤ N := by
  have := ixF_b (fit := fun c => fit c && (@decide (P c) (Classical.propDecidable _))) (c := N)
  unfold cq
  omega
theorem cq_c {fit : Int → Bool} {N : Int} {P P' : Int → Prop} (h : ∀ c : Int, 0 ≤ c → c < N → (P c ↔ P' c)) : cq fit N P = cq fit N P' := ixF_c (fun c c0 c1 => by
  show (fit c && @decide (P c) (Classical.propDecidable _)) = (fit c && @decide (P' c) (Classical.propDecidable _))
  congr 1
  exact decide_eq_decide.mpr (h c c0 c1))
theorem cq_f {fit fit' : Int → Bool} {N : Int} {P : Int → Prop} (h : ∀ c : Int, 0 ≤ c → c < N → fit c = fit' c) : cq fit N P = cq fit' N P := ixF_c (fun c c0 c1 => by
  show (fit c && _) = (fit' c && _)
  rw [h c c0 c1])
theorem cq_a {fit : Int → Bool} {N : Int} {P A B : Int → Prop} (h : ∀ c : Int, 0 ≤ c → c < N → (P c ↔ A c ∨ B c)) (h2 : ∀ c : Int, 0 ≤ c → c < N → ¬ (A c ∧ B c)) : cq fit N P = cq fit N A + cq fit N B := by
  unfold cq ixF
  exact zsum_ad _ (fun k hk => @ite3 _ _ _ (Classical.propDecidable _) (Classical.propDecidable _) (Classical.propDecidable _) _ (h k (by omega) (by omega)) (h2 k (by omega) (by omega)))
theorem cq_0 {fit : Int → Bool} {N : Int} {P : Int → Prop} (h : ∀ c : Int, 0 ≤ c → c < N → ¬ P c) : cq fit N P = 0 := by
  unfold cq ixF
  exact zsum0 _ (fun k hk => by
    refine if_neg (fun q => ?_)
    rw [Bool.and_eq_true] at q
    exact h k (by omega) (by omega) (@of_decide_eq_true _ (Classical.propDecidable _) q.2))
theorem cq_s {fit : Int → Bool} {c : Int} {P : Int → Prop} (h : 0 ≤ c) : cq fit (c + 1) P = cq fit c P + (@ite Int (fit c = true ∧ P c) (Classical.propDecidable _) 1 0) := by
  unfold cq
  rw [ixF_s h]
  congr 1
  by_cases q : fit c = true ∧ P c
  · rw [if_pos q]
    exact if_pos (by rw [Bool.and_eq_true]; exact ⟨q.1, @decide_eq_true _ (Classical.propDecidable _) q.2⟩)
  · rw [if_neg q]
    exact if_neg (fun g => by rw [Bool.and_eq_true] at g; exact q ⟨g.1, @of_decide_eq_true _ (Classical.propDecidable _) g.2⟩)
theorem cq_z {fit : Int → Bool} {P : Int → Prop} : cq fit 0 P = 0 := rfl
theorem cq_t {fit : Int → Bool} {N : Int} : cq fit N (fun _ => True) = ixF fit N := ixF_c (fun c _ _ => by simp)
/-- just one case -/
theorem cq_1 {fit : Int → Bool} {b : Int} (b0 : 0 ≤ b) : ∀ n : Nat, cq fit (n : Int) (fun c => c = b) = if fit b = true ∧ b < n then 1 else 0 := by
  intro n
  induction n with
  | zero => rw [if_neg (by omega)]; rfl
  | succ n ih =>
    rw [show ((n + 1 : Nat) : Int) = (n : Int) + 1 by omega, cq_s (by omega), ih]
    by_cases e : (n : Int) = b
    · subst e
      rw [if_neg (show ¬ (fit (n : Int) = true ∧ (n : Int) < (n : Int)) by omega)]
      by_cases f : fit (n : Int) = true
      · rw [if_pos (show fit (n : Int) = true ∧ (n : Int) = (n : Int) from ⟨f, rfl⟩), if_pos (show fit (n : Int) = true ∧ (n : Int) < (n : Int) + 1 from ⟨f, by omega⟩)]; rfl
      · rw [if_neg (show ¬ (fit (n : Int) = true ∧ (n : Int) = (n : Int)) from fun h => f h.1), if_neg (show ¬ (fit (n : Int) = true ∧ (n : Int) < (n : Int) + 1) from fun h => f h.1)]; rfl
    · rw [if_neg (show ¬ (fit (n : Int) = true ∧ (n : Int) = b) from fun h => e h.2)]
      by_cases f : fit b = true ∧ b < (n : Int)
      · rw [if_pos f, if_pos (show fit b = true ∧ b < (n : Int) + 1 from ⟨f.1, by omega⟩)]; rfl
      · rw [if_neg f, if_neg (show ¬ (fit b = true ∧ b < (n : Int) + 1) from fun h => f ⟨h.1, by omega⟩)]; rfl
theorem wkMost_ge {f : Int → Int} : ∀ (n : Nat) (k : Int), 0 ≤ k → k < n → f k ≤ wkMost f n := by
  intro n
  induction n with
  | zero => intro k a b; omega
  | succ n ih =>
    intro k a b
    simp only [wkMost]
    by_cases e : k = (n : Int)
    · subst e; omega
    · have := ih k a (by omega); omega
theorem wkMost_ub {f : Int → Int} {m : Int} (m0 : 0 ≤ m) : ∀ n : Nat, (∀ k : Int, 0 ≤ k → k < n → f k ≤ m) → wkMost f n ≤ m := by
  intro n
  induction n with
  | zero => intro _; exact m0
  | succ n ih =>
    intro h
    simp only [wkMost]
    have h1 := ih (fun k a b => h k a (by omega))
    have h2 := h n (by omega) (by omega)
    omega
theorem wkMost_n {f : Int → Int} : ∀ n : Nat, 0 ≤ wkMost f n := by
  intro n
  induction n with
  | zero => exact Int.le_refl _
  | succ n ih => simp only [wkMost]; omega
theorem wkMost_eq {f : Int → Int} {m : Int} (n : Nat) (m0 : 0 ≤ m) (h : ∀ k : Int, 0 ≤ k → k < n → f k ≤ m) (he : ∃ k : Int, (0 ≤ k ∧ k < n) ∧ f k = m) : m = wkMost f n := by
  refine Int.le_antisymm ?_ (wkMost_ub m0 n h)
  obtain ⟨k, ⟨a, b⟩, e⟩ := he
  rw [← e]
  exact wkMost_ge n k a b
theorem popc14 {b : Int} (h0 : 0 ≤ b) (h1 : b < 16384) : 0 ≤ popc b ∧ popc b ≤ 14 := by
  have h := zsum_b (f := fun k : Nat => if tb b k = true then (1 : Int) else 0) (B := 1) 14 (fun k _ => by split <;> omega)
  have e : popc b = zsum 14 (fun k : Nat => if tb b k = true then (1 : Int) else 0) + (if tb b ((14 : Nat) : Int) = true then (1 : Int) else 0) + (if tb b ((15 : Nat) : Int) = true then (1 : Int) else 0) := rfl
  have t1 : tb b ((14 : Nat) : Int) = false := tb_hi (k := 14) (by rw [show (2 : Int) ^ 14 = 16384 by decide]; exact h1) (by decide)
  have t2 : tb b ((15 : Nat) : Int) = false := tb_hi (k := 14) (by rw [show (2 : Int) ^ 14 = 16384 by decide]; exact h1) (by decide)
  rw [t1, t2] at e
  simp only [Bool.false_eq_true, if_false] at e
  omega
/-- a case's parts from i up to j -/
def sh (c i j : Int) : Int := ((c.toNat / 2 ^ i.toNat % 2 ^ (j - i).toNat : Nat) : Int)
theorem sh_tX {c i j : Int} (c0 : 0 ≤ c) (c1 : c < 16384) (i0 : 0 ≤ i) (ij : i < j) (jn : j ≤ 14) : tX c i j = sh c i j := by
  have h4 : (((2 : Nat) ^ (j - i).toNat : Nat) : Int) = (2 : Int) ^ (j - i).toNat := Int.natCast_pow 2 _
  have h5 := iAnd_m (z := ((c.toNat / 2 ^ i.toNat : Nat) : Int)) (j - i).toNat (by omega)
  rw [← h4] at h5
  unfold tX sh
  rw [iShr_d c0 (by omega) i0 (by omega), iShl_1 (by omega) (by omega), h5, Int.natCast_emod]
theorem sh_b {c i j : Int} : 0 ≤ sh c i j ∧ sh c i j < ((2 ^ (j - i).toNat : Nat) : Int) := by
  have h : c.toNat / 2 ^ i.toNat % 2 ^ (j - i).toNat < 2 ^ (j - i).toNat := Nat.mod_lt _ (Nat.pow_pos (by decide))
  unfold sh
  omega
theorem pw_s {m : Int} (h : 0 < m) : ((2 ^ m.toNat : Nat) : Int) = 2 * ((2 ^ (m - 1).toNat : Nat) : Int) := by
  rw [show m.toNat = (m - 1).toNat + 1 by omega, Nat.pow_succ]
  omega
theorem sh_hi {c i j b : Int} (ij : i < j) (b0 : 0 ≤ b) (b1 : b < ((2 ^ (j + (-1) - i).toNat : Nat) : Int)) : sh c i (j + (-1)) = b ↔ sh c i j = b ∨ sh c i j = b + ((2 ^ (j + (-1) - i).toNat : Nat) : Int) := by
  have e : sh c i j = sh c i (j + (-1)) + ((2 ^ (j + (-1) - i).toNat : Nat) : Int) * ((c.toNat / 2 ^ i.toNat / 2 ^ (j + (-1) - i).toNat % 2 : Nat) : Int) := by
    unfold sh
    rw [show (j - i).toNat = (j + (-1) - i).toNat + 1 by omega, Nat.pow_succ, Nat.mod_mul]
    rw [Int.natCast_add, Int.natCast_mul]
  have h1 := (sh_b (c := c) (i := i) (j := j + (-1)))
  have h2 : c.toNat / 2 ^ i.toNat / 2 ^ (j + (-1) - i).toNat % 2 = 0 ∨ c.toNat / 2 ^ i.toNat / 2 ^ (j + (-1) - i).toNat % 2 = 1 := by omega
  generalize ((2 ^ (j + (-1) - i).toNat : Nat) : Int) = H at *
  rcases h2 with h2 | h2
  · rw [h2] at e
    simp only [Int.natCast_zero, Int.mul_zero] at e
    omega
  · rw [h2] at e
    rw [show (((1 : Nat) : Int)) = 1 by rfl, Int.mul_one] at e
    omega
theorem sh_lo {c i j b : Int} (i0 : 0 ≤ i) (ij : i < j) : sh c (i + 1) j = b ↔ sh c i j = 2 * b ∨ sh c i j = 2 * b + 1 := by
  have e : sh c i j = 2 * sh c (i + 1) j + ((c.toNat / 2 ^ i.toNat % 2 : Nat) : Int) := by
    unfold sh
    rw [show (j - i).toNat = (j - (i + 1)).toNat + 1 by omega, Nat.pow_succ, Nat.mul_comm, Nat.mod_mul, zsucc i0, Nat.pow_succ, ← Nat.div_div_eq_div_mul]
    omega
  omega
theorem sh_0 {c n : Int} (c0 : 0 ≤ c) (c1 : c < ((2 ^ n.toNat : Nat) : Int)) : sh c 0 n = c := by
  unfold sh
  rw [show (n - 0).toNat = n.toNat by omega, show (2 : Nat) ^ (0 : Int).toNat = 1 by rfl, Nat.div_one, Nat.mod_eq_of_lt (by omega)]
  omega
/-- what a question is answered by, and how many are left in the worst case -/
def qa (kd c i j : Int) : Int := if kd = 2 then (if iAnd c (iShr (iShl 7 i) 1) ≠ 0 then 1 else 0) else popc (tX c i j)
noncomputable def qR (fit : Int → Bool) (kd n : Int) (i j : Int) : Int := wkMost (fun k => cq fit ((2 ^ n.toNat : Nat) : Int) (fun c => qa kd c i j = k)) 15
theorem qR_b {fit : Int → Bool} {kd n i j : Int} (h0 : 0 ≤ n) (h1 : n ≤ 14) : 0 ≤ qR fit kd n i j ∧ qR fit kd n i j ≤ 16384 := by
  have hp := pow14 h0 h1
  exact ⟨wkMost_n _, wkMost_ub (by omega) _ (fun k _ _ => by have := (cq_b (fit := fit) (N := ((2 ^ n.toNat : Nat) : Int)) (P := fun c => qa kd c i j = k) (by omega)).2; omega)⟩
theorem qR_f {fit fit' : Int → Bool} {kd n i j : Int} (h : ∀ c : Int, 0 ≤ c → c < ((2 ^ n.toNat : Nat) : Int) → fit c = fit' c) : qR fit kd n i j = qR fit' kd n i j := wkMost_c _ (fun k _ _ => cq_f h)
theorem qR_sh {fit : Int → Bool} {n i j : Int} (h1 : n ≤ 14) (n0 : 0 ≤ n) (i0 : 0 ≤ i) (ij : i < j) (jn : j ≤ n) : wkMost (fun k => cq fit ((2 ^ n.toNat : Nat) : Int) (fun c => popc (sh c i j) = k)) 15 = qR fit 1 n i j := wkMost_c _ (fun k _ _ => cq_c (fun c c0 c1 => by
  have hp := pow14 n0 h1
  unfold qa
  rw [if_neg (by decide), sh_tX c0 (by omega) i0 ij (by omega)]))
theorem qR_wall {fit : Int → Bool} {n i j : Int} (n0 : 0 ≤ n) (h1 : n ≤ 14) : max (ixF (fun x => fit x && decide (iAnd x (iShr (iShl 7 i) 1) ≠ 0)) ((2 ^ n.toNat : Nat) : Int)) (ixF fit ((2 ^ n.toNat : Nat) : Int) - ixF (fun x => fit x && decide (iAnd x (iShr (iShl 7 i) 1) ≠ 0)) ((2 ^ n.toNat : Nat) : Int)) = qR fit 2 n i j := by
  have hp := pow14 n0 h1
  generalize hN : ((2 ^ n.toNat : Nat) : Int) = N at *
  have e1 : ixF (fun x => fit x && decide (iAnd x (iShr (iShl 7 i) 1) ≠ 0)) N = cq fit N (fun c => qa 2 c i j = 1) := ixF_c (fun c _ _ => by
    show (fit c && _) = (fit c && _)
    congr 1
    refine decide_eq_decide.mpr ?_
    show iAnd c (iShr (iShl 7 i) 1) ≠ 0 ↔ qa 2 c i j = 1
    unfold qa
    rw [if_pos rfl]
    by_cases g : iAnd c (iShr (iShl 7 i) 1) ≠ 0
    · rw [if_pos g]; exact ⟨fun _ => rfl, fun _ => g⟩
    · rw [if_neg g]; exact ⟨fun h => absurd h g, fun h => absurd h (by decide)⟩)
  have e2 : ixF fit N = cq fit N (fun c => qa 2 c i j = 0) + cq fit N (fun c => qa 2 c i j = 1) := by
    rw [← cq_t]
    exact cq_a (fun c _ _ => by
      refine ⟨fun _ => ?_, fun _ => trivial⟩
      unfold qa
      rw [if_pos rfl]
      split
      · exact Or.inr rfl
      · exact Or.inl rfl) (fun c _ _ q => by have := q.1; have := q.2; omega)
  have e3 : ∀ k : Int, k ≠ 0 → k ≠ 1 → cq fit N (fun c => qa 2 c i j = k) = 0 := fun k k0 k1 => cq_0 (fun c _ _ q => by
    have : qa 2 c i j = 0 ∨ qa 2 c i j = 1 := by
      unfold qa
      rw [if_pos rfl]
      split
      · exact Or.inr rfl
      · exact Or.inl rfl
    omega)
  have b0 := cq_b (fit := fit) (N := N) (P := fun c => qa 2 c i j = 0) (by omega)
  have b1 := cq_b (fit := fit) (N := N) (P := fun c => qa 2 c i j = 1) (by omega)
  unfold qR
  rw [e1, e2, hN]
  refine wkMost_eq 15 (by omega) (fun k k0 k1 => ?_) ?_
  · by_cases q0 : k = 0
    · rw [q0]; omega
    · by_cases q1 : k = 1
      · rw [q1]; omega
      · show cq fit N (fun c => qa 2 c i j = k) ≤ _
        rw [e3 k q0 q1]; omega
  · by_cases q : cq fit N (fun c => qa 2 c i j = 0) ≤ cq fit N (fun c => qa 2 c i j = 1)
    · exact ⟨1, by decide, by show cq fit N (fun c => qa 2 c i j = 1) = _; omega⟩
    · exact ⟨0, by decide, by show cq fit N (fun c => qa 2 c i j = 0) = _; omega⟩
/-- the best of the questions V: the least rest, and of like ones the first -/
def bq (R : Int → Int → Int) (V : Int → Int → Prop) (a b r : Int) : Prop := V a b ∧ r = R a b ∧ (∀ x y, V x y → r ≤ R x y) ∧ ∀ x y, V x y → (x < a ∨ (x = a ∧ y < b)) → r < R x y
theorem bq_V {R : Int → Int → Int} {V V' : Int → Int → Prop} {a b r : Int} (h : ∀ x y, V x y ↔ V' x y) (k : bq R V a b r) : bq R V' a b r :=
  ⟨(h a b).mp k.1, k.2.1, fun x y q => k.2.2.1 x y ((h x y).mpr q), fun x y q => k.2.2.2 x y ((h x y).mpr q)⟩
theorem bq_R {R R' : Int → Int → Int} {V : Int → Int → Prop} {a b r : Int} (h : ∀ x y, R x y = R' x y) (k : bq R V a b r) : bq R' V a b r :=
  ⟨k.1, by rw [← h]; exact k.2.1, fun x y q => by rw [← h]; exact k.2.2.1 x y q, fun x y q g => by rw [← h]; exact k.2.2.2 x y q g⟩
theorem bq_u {R : Int → Int → Int} {V : Int → Int → Prop} {a b r a' b' r' : Int} (h : bq R V a b r) (k : bq R V a' b' r') : a = a' ∧ b = b' ∧ r = r' := by
  obtain ⟨h1, h2, h3, h4⟩ := h
  obtain ⟨k1, k2, k3, k4⟩ := k
  have e1 := h3 a' b' k1
  have e2 := k3 a b h1
  have e3 := h4 a' b' k1
  have e4 := k4 a b h1
  omega
def bqS (R : Int → Int → Int) (V : Int → Int → Prop) (a b r : Int) : Prop := (r = 1000000000 ∧ ∀ x y, ¬ V x y) ∨ bq R V a b r
theorem bqS_V {R : Int → Int → Int} {V V' : Int → Int → Prop} {a b r : Int} (h : ∀ x y, V x y ↔ V' x y) (k : bqS R V a b r) : bqS R V' a b r :=
  k.imp (fun k => ⟨k.1, fun x y q => k.2 x y ((h x y).mpr q)⟩) (bq_V h)
theorem bqS_add {R : Int → Int → Int} {V V' : Int → Int → Prop} {a b r i j m : Int} (hs : bqS R V a b r) (hm : m = R i j) (hmx : m < 1000000000) (hV : ∀ x y, V' x y ↔ V x y ∨ (x = i ∧ y = j)) (ho : ∀ x y, V x y → x < i ∨ (x = i ∧ j < y)) : ((m < r ∨ (m = r ∧ a = i)) → bqS R V' i j m) ∧ (¬ (m < r ∨ (m = r ∧ a = i)) → bqS R V' a b r) := by
  refine ⟨fun h => Or.inr ⟨(hV i j).mpr (Or.inr ⟨rfl, rfl⟩), hm, fun x y q => ?_, fun x y q g => ?_⟩, fun h => ?_⟩
  · rcases (hV x y).mp q with q | ⟨rfl, rfl⟩
    · rcases hs with hs | hs
      · exact absurd q (hs.2 x y)
      · have := hs.2.2.1 x y q; omega
    · omega
  · rcases (hV x y).mp q with q | ⟨rfl, rfl⟩
    · have h1 := ho x y q
      rcases hs with hs | hs
      · exact absurd q (hs.2 x y)
      · have h2 := hs.2.2.1 x y q
        have h3 := hs.2.2.2 x y q
        omega
    · omega
  · rcases hs with hs | hs
    · exact absurd (Or.inl (by omega)) h
    · have h1 := ho a b hs.1
      refine Or.inr ⟨(hV a b).mpr (Or.inl hs.1), hs.2.1, fun x y q => ?_, fun x y q g => ?_⟩
      · rcases (hV x y).mp q with q | ⟨rfl, rfl⟩
        · exact hs.2.2.1 x y q
        · omega
      · rcases (hV x y).mp q with q | ⟨rfl, rfl⟩
        · exact hs.2.2.2 x y q g
        · omega
theorem bqS_up {R : Int → Int → Int} {V V' : Int → Int → Prop} {a b r i j m : Int} (hs : bqS R V a b r) (hm : m = R i j) (hmx : m < 1000000000) (hV : ∀ x y, V' x y ↔ V x y ∨ (x = i ∧ y = j)) (ho : ∀ x y, V x y → x < i ∨ (x = i ∧ y < j)) : (m < r → bqS R V' i j m) ∧ (¬ m < r → bqS R V' a b r) := by
  refine ⟨fun h => Or.inr ⟨(hV i j).mpr (Or.inr ⟨rfl, rfl⟩), hm, fun x y q => ?_, fun x y q g => ?_⟩, fun h => ?_⟩
  · rcases (hV x y).mp q with q | ⟨rfl, rfl⟩
    · rcases hs with hs | hs
      · exact absurd q (hs.2 x y)
      · have := hs.2.2.1 x y q; omega
    · omega
  · rcases (hV x y).mp q with q | ⟨rfl, rfl⟩
    · rcases hs with hs | hs
      · exact absurd q (hs.2 x y)
      · have h2 := hs.2.2.1 x y q
        omega
    · omega
  · rcases hs with hs | hs
    · omega
    · have h1 := ho a b hs.1
      refine Or.inr ⟨(hV a b).mpr (Or.inl hs.1), hs.2.1, fun x y q => ?_, fun x y q g => ?_⟩
      · rcases (hV x y).mp q with q | ⟨rfl, rfl⟩
        · exact hs.2.2.1 x y q
        · omega
      · rcases (hV x y).mp q with q | ⟨rfl, rfl⟩
        · exact hs.2.2.2 x y q g
        · omega
def qV (kd n x y : Int) : Prop := (0 ≤ x ∧ x < y) ∧ y ≤ n ∧ (kd = 2 → y = x + 1)
/-- what is asked next: from a to b (-1 with walls), r left in the worst case -/
def qst (fit : Int → Bool) (kd n a b r : Int) : Prop := ∃ y, bq (qR fit kd n) (qV kd n) a y r ∧ b = if kd = 2 then -1 else y
theorem qst_u {fit : Int → Bool} {kd n a b r a' b' r' : Int} (h : qst fit kd n a b r) (k : qst fit kd n a' b' r') : a = a' ∧ b = b' ∧ r = r' := by
  obtain ⟨y, h1, h2⟩ := h
  obtain ⟨z, k1, k2⟩ := k
  obtain ⟨e1, e2, e3⟩ := bq_u h1 k1
  refine ⟨e1, ?_, e3⟩
  rw [h2, k2, e2]
theorem qst_c {fit fit' : Int → Bool} {kd n a b r : Int} (h : ∀ c : Int, 0 ≤ c → c < ((2 ^ n.toNat : Nat) : Int) → fit c = fit' c) (k : qst fit kd n a b r) : qst fit' kd n a b r := by
  obtain ⟨y, h1, h2⟩ := k
  exact ⟨y, bq_R (fun x y => qR_f h) h1, h2⟩
set_option maxRecDepth 100000 in
set_option maxHeartbeats 4000000 in
theorem s_mostAlike {l : Launch} {t dr tx : Nat} {w : zW} {z N : Int} (z0 : 1 ≤ z) (z1 : z ≤ 16384) (N0 : 0 ≤ N) (N1 : N ≤ 16384) {fit : Int → Bool} {s : Int → Int} (hs : ∀ c : Int, 0 ≤ c → c < N → 0 ≤ s c ∧ s c < z) (hu : ∀ b : Int, 0 ≤ b → b < z → w 37 b = cq fit N (fun c => s c = b)) : zSp l mX9_mostAlike false 2 0 0 [zR 34, zI z] (ZZ t dr tx) w (fun v' S' w' => v' = some (zI (wkMost (fun k => cq fit N (fun c => popc (s c) = k)) 15)) ∧ S' = (ZZ t dr tx) ∧ only 38 w w') zNo := by
  refine zA_intro ⟨plainFor_of_name (by decide +kernel), Or.inl (by decide +kernel)⟩ rfl (Nat.le_of_ble_eq_true rfl) ?_
  refine zA_range (fun hr => ?_)
  show zA l mX9_mostAlike false 2 0 0 (fun v' S' w' => v' = some (zI (wkMost (fun k => cq fit N (fun c => popc (s c) = k)) 15)) ∧ S' = (ZZ t dr tx) ∧ only 38 w w') zNo 0 [zR 34, zI z, .null, .null, .null] [] (ZZ t dr tx) w
  refine zA_aload_n dX9_mostAlike_0 rfl ?_
  refine zA_getR (n := 38) dX9_mostAlike_1 fX9_21 c34 rfl ?_
  refine zA_iconst dX9_mostAlike_4 ?_
  refine zA_cS (st := []) dX9_mostAlike_5 sJ7_fill_53178 kX9_92 (s_fill (w := w) (q := 38) (z := 15) (v := 0) c38 (by decide) ⟨by decide, by decide⟩) (by decide) rfl rfl (Nat.le_of_ble_eq_true rfl) (fun q_1_v q_1_S q_1_w q_1 => ?_)
  obtain ⟨rfl, rfl, hfa, hfb⟩ := q_1
  refine zA_range (fun hr => ?_)
  show zA l mX9_mostAlike false 2 0 0 (fun v' S' w' => v' = some (zI (wkMost (fun k => cq fit N (fun c => popc (s c) = k)) 15)) ∧ S' = (ZZ t dr tx) ∧ only 38 w w') zNo 8 [zR 34, zI z, .null, .null, .null] [] (ZZ t dr tx) q_1_w
  refine zA_iconst dX9_mostAlike_8 ?_
  refine zA_istore_n (lo1 := [zR 34, zI z, zI 0, .null, .null]) dX9_mostAlike_9 (by decide) rfl rfl ?_
  refine zA_iconst dX9_mostAlike_10 ?_
  refine zA_istore_n (lo1 := [zR 34, zI z, zI 0, zI 0, .null]) dX9_mostAlike_11 (by decide) rfl rfl ?_
  have L12 : ∀ (z12 : Nat) (m b : Int) (w1 : zW) (b0 : 0 ≤ b) (b1 : b ≤ z) (hf : only 38 w w1) (ha : ∀ k : Int, 0 ≤ k → k ≤ 14 → w1 38 k = (cq fit N (fun c => s c < b ∧ popc (s c) = k))) (m0 : 0 ≤ m) (m1 : m ≤ 16384) (hm : ∀ k : Int, 0 ≤ k → k ≤ 14 → w1 38 k ≤ m) (he : ∃ k : Int, (0 ≤ k ∧ k ≤ 14) ∧ w1 38 k = m) (zm : (z - b).toNat < z12), zA l mX9_mostAlike false 2 0 0 (fun v' S' w' => v' = some (zI (wkMost (fun k => cq fit N (fun c => popc (s c) = k)) 15)) ∧ S' = (ZZ t dr tx) ∧ only 38 w w') zNo 12 [zR 34, zI z, zI m, zI b, .null] [] (ZZ t dr tx) w1 := by
    intro z12
    induction z12 with
    | zero => intro m b w1 b0 b1 hf ha m0 m1 hm he zm; exact absurd zm (Nat.not_lt_zero _)
    | succ z12 ih12 =>
      intro m b w1 b0 b1 hf ha m0 m1 hm he zm
      refine zA_range (fun hr => ?_)
      refine zA_iload_n dX9_mostAlike_12 rfl ?_
      refine zA_iload_n dX9_mostAlike_13 rfl ?_
      refine zA_icmp_ge (tgt := 57) dX9_mostAlike_14 (by decide) (by first | assumption | exact hr _ _ | exact inR_mk (by omega) (by omega)) (by first | assumption | exact hr _ _ | exact inR_mk (by omega) (by omega)) (fun c14 => ?_) (fun c14 => ?_)
      · skip
        refine zA_iload_n dX9_mostAlike_57 rfl ?_
        refine zA_iret dX9_mostAlike_58 rfl ?_
        have hbz : b = z := by omega
        refine ⟨?_, rfl, hf⟩
        congr 2
        have e : ∀ k : Int, 0 ≤ k → k ≤ 14 → w1 38 k = cq fit N (fun c => popc (s c) = k) := fun k k0 k1 => (ha k k0 k1).trans (cq_c (fun c c0 c1 => ⟨fun q => q.2, fun q => ⟨by have := (hs c c0 c1).2; omega, q⟩⟩))
        obtain ⟨k, hk, hk2⟩ := he
        exact wkMost_eq 15 m0 (fun k k0 k1 => by show cq _ _ _ ≤ _; rw [← e k k0 (by omega)]; exact hm k k0 (by omega)) ⟨k, ⟨hk.1, by omega⟩, by show cq _ _ _ = _; rw [← e k hk.1 hk.2]; exact hk2⟩
      · skip
        have hpb := popc14 (b := b) b0 (by omega)
        have e37 : w1 37 b = w 37 b := hf 37 b (by decide)
        have hub := hu b b0 (by omega)
        have hsum : (cq fit N (fun c => s c < b + 1 ∧ popc (s c) = popc b)) = (cq fit N (fun c => s c < b ∧ popc (s c) = popc b)) + w 37 b := by
          rw [hub]
          exact cq_a (fun c c0 c1 => ⟨fun q => by
            by_cases e : s c = b
            · exact Or.inr e
            · exact Or.inl ⟨by omega, q.2⟩, fun q => by
            rcases q with q | q
            · exact ⟨by omega, q.2⟩
            · rw [q]; exact ⟨by omega, rfl⟩⟩) (fun c _ _ q => by have := q.1.1; have := q.2; omega)
        have hoth : ∀ k : Int, k ≠ popc b → (cq fit N (fun c => s c < b + 1 ∧ popc (s c) = k)) = (cq fit N (fun c => s c < b ∧ popc (s c) = k)) := fun k e => cq_c (fun c c0 c1 => ⟨fun q => ⟨by
          have : s c ≠ b := fun e2 => by rw [e2] at q; exact e q.2.symm
          omega, q.2⟩, fun q => ⟨by omega, q.2⟩⟩)
        have hab := ha _ hpb.1 hpb.2
        have hcb := cq_b (fit := fit) (N := N) (P := fun c => s c < b + 1 ∧ popc (s c) = popc b) N0
        have hcb2 := cq_b (fit := fit) (N := N) (P := fun c => s c < b ∧ popc (s c) = popc b) N0
        have hcb3 := cq_b (fit := fit) (N := N) (P := fun c => s c = b) N0
        refine zA_iload_n dX9_mostAlike_17 rfl ?_
        refine zA_cS (st := []) dX9_mostAlike_18 sJ6_bitCount_0f7a4 kX9_61 (s_bitCount (w := w1) (S := (ZZ t dr tx)) (a := b) b0 (by omega)) (by decide) rfl rfl (Nat.le_of_ble_eq_true rfl) (zRt_el ?_)
        show zA l mX9_mostAlike false 2 0 0 (fun v' S' w' => v' = some (zI (wkMost (fun k => cq fit N (fun c => popc (s c) = k)) 15)) ∧ S' = (ZZ t dr tx) ∧ only 38 w w') zNo 21 [zR 34, zI z, zI m, zI b, .null] [zI (popc b)] (ZZ t dr tx) w1
        refine zA_istore (lo1 := [zR 34, zI z, zI m, zI b, zI (popc b)]) dX9_mostAlike_21 (by decide) rfl rfl ?_
        refine zA_aload_n dX9_mostAlike_23 rfl ?_
        refine zA_getR (n := 38) dX9_mostAlike_24 fX9_21 c34 rfl ?_
        refine zA_iload dX9_mostAlike_27 rfl ?_
        refine zA_dup2 dX9_mostAlike_29 rfl rfl ?_
        refine zA_iaload dX9_mostAlike_30 c38 (by first | assumption | omega) (by first | assumption | omega) (by decide) ?_
        refine zA_aload_n dX9_mostAlike_31 rfl ?_
        refine zA_getR (n := 37) dX9_mostAlike_32 fX9_18 c34 rfl ?_
        refine zA_iload_n dX9_mostAlike_35 rfl ?_
        refine zA_iaload dX9_mostAlike_36 c37 (by first | assumption | omega) (by first | assumption | omega) (by decide) ?_
        refine zA_iadd dX9_mostAlike_37 ?_
        refine zA_iastore dX9_mostAlike_38 (by first | assumption | exact hr _ _ | exact inR_mk (by omega) (by omega)) c38 (by first | assumption | omega) (by first | assumption | omega) (by decide) ?_
        refine zA_namew (fun w_2 hw_2 => ?_)
        refine zA_range (fun hr => ?_)
        replace hw_2 : w_2 = up w1 38 (popc b) ((w1 38 (popc b)) + (w1 37 b)) := hw_2
        have hn2 : w_2 38 (popc b) = w1 38 (popc b) + w1 37 b := by rw [hw_2, up_same]
        have ho2 : ∀ k : Int, k ≠ popc b → w_2 38 k = w1 38 k := fun k e => by rw [hw_2, up_idx _ _ _ _ e]
        refine zA_iload_n dX9_mostAlike_39 rfl ?_
        refine zA_aload_n dX9_mostAlike_40 rfl ?_
        refine zA_getR (n := 38) dX9_mostAlike_41 fX9_21 c34 rfl ?_
        refine zA_iload dX9_mostAlike_44 rfl ?_
        refine zA_iaload dX9_mostAlike_46 c38 (by first | assumption | omega) (by first | assumption | omega) (by decide) ?_
        refine zA_mmax dX9_mostAlike_47 kmX9_73 zw_max (by first | assumption | exact hr _ _ | exact inR_mk (by omega) (by omega)) (by first | assumption | exact hr _ _ | exact inR_mk (by omega) (by omega)) (Nat.le_of_ble_eq_true rfl) ?_
        refine zA_istore_n (lo1 := [zR 34, zI z, zI (max m (w_2 38 (popc b))), zI b, zI (popc b)]) dX9_mostAlike_50 (by decide) rfl rfl ?_
        refine zA_iinc (lo1 := [zR 34, zI z, zI (max m (w_2 38 (popc b))), zI (b + 1), zI (popc b)]) dX9_mostAlike_51 rfl (by decide) rfl rfl ?_
        refine zA_goto (tgt := 12) dX9_mostAlike_54 (by decide) ?_
        refine zA_drop 4 (lo1 := [zR 34, zI z, zI (max m (w_2 38 (popc b))), zI (b + 1), .null]) rfl ?_
        exact ih12 _ (b + 1) _ (by omega) (by omega) (by rw [hw_2]; exact only_up hf) (fun k k0 k1 => by
                  by_cases e : k = popc b
                  · rw [e, hn2, hsum, ha _ hpb.1 hpb.2, e37]
                  · rw [ho2 k e, hoth k e]; exact ha k k0 k1) (by omega) (by omega) (fun k k0 k1 => by
                  by_cases e : k = popc b
                  · rw [e]; omega
                  · rw [ho2 k e]; have := hm k k0 k1; omega) (by
                  by_cases q : m ≤ w_2 38 (popc b)
                  · exact ⟨popc b, hpb, by omega⟩
                  · obtain ⟨k, hk, hk2⟩ := he
                    have e : k ≠ popc b := fun e => by rw [e] at hk2; omega
                    exact ⟨k, hk, by rw [ho2 k e]; omega⟩) (by omega)
  exact L12 _ 0 0 q_1_w (by omega) (by omega) hfa (fun k k0 k1 => by rw [hfb k k0 (by omega)]; exact (cq_0 (fun c c0 c1 q => by have := (hs c c0 c1).1; omega)).symm) (by omega) (by omega) (fun k k0 k1 => by rw [hfb k k0 (by omega)]; omega) ⟨0, by decide, hfb 0 (by decide) (by decide)⟩ (Nat.lt_succ_self _)

set_option maxRecDepth 100000 in
set_option maxHeartbeats 4000000 in
theorem s_askFrom {l : Launch} {t dr tx : Nat} {w : zW} {n : Int} (hn : w 34 4 = n) (p0 : 2 ≤ n) (p1 : n ≤ 14) {i : Int} (i0 : 0 ≤ i) (i1 : i < n) {fit : Int → Bool} (hfr : ∀ b : Int, 0 ≤ b → b < ((2 ^ (n - i).toNat : Nat) : Int) → w 36 b = cq fit ((2 ^ n.toNat : Nat) : Int) (fun c => sh c i n = b)) (hs : bqS (qR fit 1 n) (fun x y => qV 1 n x y ∧ x < i) (w 34 10) (w 34 11) (w 34 12)) : zSp l mX9_askFrom false 3 0 0 [zR 34, zI i] (ZZ t dr tx) w (fun v' S' w' => v' = none ∧ S' = (ZZ t dr tx) ∧ (∀ c x, c ≠ 37 → c ≠ 38 → (c ≠ 34 ∨ (x ≠ 10 ∧ x ≠ 11 ∧ x ≠ 12)) → w' c x = w c x) ∧ bqS (qR fit 1 n) (fun x y => qV 1 n x y ∧ x < i + 1) (w' 34 10) (w' 34 11) (w' 34 12)) zNo := by
  refine zA_intro ⟨plainFor_of_name (by decide +kernel), Or.inl (by decide +kernel)⟩ rfl (Nat.le_of_ble_eq_true rfl) ?_
  have hpn := pow14 (m := n) (by omega) p1
  have hpi := pow14 (m := n - i) (by omega) (by omega)
  refine zA_range (fun hr => ?_)
  show zA l mX9_askFrom false 3 0 0 (fun v' S' w' => v' = none ∧ S' = (ZZ t dr tx) ∧ (∀ c x, c ≠ 37 → c ≠ 38 → (c ≠ 34 ∨ (x ≠ 10 ∧ x ≠ 11 ∧ x ≠ 12)) → w' c x = w c x) ∧ bqS (qR fit 1 n) (fun x y => qV 1 n x y ∧ x < i + 1) (w' 34 10) (w' 34 11) (w' 34 12)) zNo 0 [zR 34, zI i, .null, .null, .null, .null] [] (ZZ t dr tx) w
  refine zA_aload_n dX9_askFrom_0 rfl ?_
  refine zA_getR (n := 36) dX9_askFrom_1 fX9_15 c34 rfl ?_
  refine zA_iconst dX9_askFrom_4 ?_
  refine zA_aload_n dX9_askFrom_5 rfl ?_
  refine zA_getR (n := 37) dX9_askFrom_6 fX9_18 c34 rfl ?_
  refine zA_iconst dX9_askFrom_9 ?_
  refine zA_iconst dX9_askFrom_10 ?_
  refine zA_aload_n dX9_askFrom_11 rfl ?_
  refine zA_getI dX9_askFrom_12 fX9_24 c34 rfl ?_
  refine zA_valI (w 34 4) rfl ?_
  refine zA_valI n (hn) ?_
  refine zA_iload_n dX9_askFrom_15 rfl ?_
  refine zA_isub dX9_askFrom_16 ?_
  refine zA_ishl dX9_askFrom_17 ?_
  refine zA_valI ((2 ^ (n - i).toNat : Nat) : Int) (by rw [iShl_1 (by omega) (by omega)]) ?_
  refine zA_copy dX9_askFrom_18 rfl kaX9_83 zw_copy c36 c37 (by first | assumption | omega) (by first | assumption | omega) (by first | assumption | omega) (by first | assumption | omega) (by first | assumption | omega) (by decide) (by decide) (Nat.le_of_ble_eq_true rfl) ?_
  refine zA_namew (fun w_1 hw_1 => ?_)
  refine zA_range (fun hr => ?_)
  refine zA_aload_n dX9_askFrom_21 rfl ?_
  refine zA_getI dX9_askFrom_22 fX9_24 c34 rfl ?_
  refine zA_valI (w_1 34 4) rfl ?_
  refine zA_valI n (by rw [hw_1, show cpy w 36 0 37 0 ((2 ^ (n - i).toNat : Nat) : Int) 34 4 = w 34 4 from by unfold cpy; rw [if_neg (fun h => absurd h.1 (by decide))]]; exact hn) ?_
  refine zA_istore_n (lo1 := [zR 34, zI i, zI n, .null, .null, .null]) dX9_askFrom_25 (by decide) rfl rfl ?_
  have L26 : ∀ (z26 : Nat) (j : Int) (w1 : zW) (j0 : i ≤ j) (j1 : j ≤ n) (hf : (∀ c x, c ≠ 37 → c ≠ 38 → (c ≠ 34 ∨ (x ≠ 10 ∧ x ≠ 11 ∧ x ≠ 12)) → w1 c x = w c x)) (hu : ∀ b : Int, 0 ≤ b → b < ((2 ^ (j - i).toNat : Nat) : Int) → w1 37 b = cq fit ((2 ^ n.toNat : Nat) : Int) (fun c => sh c i j = b)) (hs1 : bqS (qR fit 1 n) (fun x y => qV 1 n x y ∧ (x < i ∨ (x = i ∧ j < y))) (w1 34 10) (w1 34 11) (w1 34 12)) (zm : (j - i).toNat < z26), zA l mX9_askFrom false 3 0 0 (fun v' S' w' => v' = none ∧ S' = (ZZ t dr tx) ∧ (∀ c x, c ≠ 37 → c ≠ 38 → (c ≠ 34 ∨ (x ≠ 10 ∧ x ≠ 11 ∧ x ≠ 12)) → w' c x = w c x) ∧ bqS (qR fit 1 n) (fun x y => qV 1 n x y ∧ x < i + 1) (w' 34 10) (w' 34 11) (w' 34 12)) zNo 26 [zR 34, zI i, zI j, .null, .null, .null] [] (ZZ t dr tx) w1 := by
    intro z26
    induction z26 with
    | zero => intro j w1 j0 j1 hf hu hs1 zm; exact absurd zm (Nat.not_lt_zero _)
    | succ z26 ih26 =>
      intro j w1 j0 j1 hf hu hs1 zm
      refine zA_range (fun hr => ?_)
      refine zA_iload_n dX9_askFrom_26 rfl ?_
      refine zA_iload_n dX9_askFrom_27 rfl ?_
      refine zA_icmp_le (tgt := 131) dX9_askFrom_28 (by decide) (by first | assumption | exact hr _ _ | exact inR_mk (by omega) (by omega)) (by first | assumption | exact hr _ _ | exact inR_mk (by omega) (by omega)) (fun c28 => ?_) (fun c28 => ?_)
      · skip
        refine zA_vret dX9_askFrom_131 rfl ?_
        refine ⟨rfl, rfl, hf, ?_⟩
        exact bqS_V (fun x y => by unfold qV; omega) hs1
      · skip
        refine zA_aload_n dX9_askFrom_31 rfl ?_
        refine zA_iconst dX9_askFrom_32 ?_
        refine zA_iload_n dX9_askFrom_33 rfl ?_
        refine zA_iload_n dX9_askFrom_34 rfl ?_
        refine zA_isub dX9_askFrom_35 ?_
        refine zA_ishl dX9_askFrom_36 ?_
        refine zA_valI ((2 ^ (j - i).toNat : Nat) : Int) (by rw [iShl_1 (by omega) (by omega)]) ?_
        have hpj := pow14 (m := j - i) (by omega) (by omega)
        refine zA_cV (st := []) dX9_askFrom_37 vX9_mostAlike kX9_89 (s_mostAlike (w := w1) (z := ((2 ^ (j - i).toNat : Nat) : Int)) (N := ((2 ^ n.toNat : Nat) : Int)) (fit := fit) (s := fun c => sh c i j) (by omega) (by omega) (by omega) (by omega) (fun c _ _ => sh_b) hu) (by decide) c34 rfl rfl (Nat.le_of_ble_eq_true rfl) rfl (fun q_2_v q_2_S q_2_w q_2 => ?_)
        obtain ⟨rfl, rfl, hfa⟩ := q_2
        obtain ⟨wa, hwa⟩ : ∃ wa, wa = q_2_w := ⟨_, rfl⟩
        rw [← hwa] at hfa ⊢
        have hwa37 : ∀ x, wa 37 x = w1 37 x := fun x => hfa 37 x (by decide)
        have hadd : ((qR fit 1 n i j < wa 34 12 ∨ (qR fit 1 n i j = wa 34 12 ∧ wa 34 10 = i)) → bqS (qR fit 1 n) (fun x y => qV 1 n x y ∧ (x < i ∨ (x = i ∧ (j + (-1)) < y))) i j (qR fit 1 n i j)) ∧ (¬ (qR fit 1 n i j < wa 34 12 ∨ (qR fit 1 n i j = wa 34 12 ∧ wa 34 10 = i)) → bqS (qR fit 1 n) (fun x y => qV 1 n x y ∧ (x < i ∨ (x = i ∧ (j + (-1)) < y))) (wa 34 10) (wa 34 11) (wa 34 12)) := by
          have hqb := qR_b (fit := fit) (kd := 1) (n := n) (i := i) (j := j) (by omega) p1
          rw [hfa 34 10 (by decide), hfa 34 11 (by decide), hfa 34 12 (by decide)]
          exact bqS_add hs1 rfl (by omega) (fun x y => by unfold qV; omega) (fun x y q => by have := q.2; omega)
        refine zA_range (fun hr => ?_)
        show zA l mX9_askFrom false 3 0 0 (fun v' S' w' => v' = none ∧ S' = (ZZ t dr tx) ∧ (∀ c x, c ≠ 37 → c ≠ 38 → (c ≠ 34 ∨ (x ≠ 10 ∧ x ≠ 11 ∧ x ≠ 12)) → w' c x = w c x) ∧ bqS (qR fit 1 n) (fun x y => qV 1 n x y ∧ x < i + 1) (w' 34 10) (w' 34 11) (w' 34 12)) zNo 40 [zR 34, zI i, zI j, .null, .null, .null] [zI (wkMost (fun k => cq fit ((2 ^ n.toNat : Nat) : Int) (fun c => popc (sh c i j) = k)) 15)] (ZZ t dr tx) wa
        refine zA_valI (qR fit 1 n i j) (qR_sh p1 (by omega) i0 (by omega) j1) ?_
        have hqb := qR_b (fit := fit) (kd := 1) (n := n) (i := i) (j := j) (by omega) p1
        refine zA_istore_n (lo1 := [zR 34, zI i, zI j, zI (qR fit 1 n i j), .null, .null]) dX9_askFrom_40 (by decide) rfl rfl ?_
        have L80 : ∀ (w2 : zW) (hg : (∀ c x, c ≠ 38 → (c ≠ 34 ∨ (x ≠ 10 ∧ x ≠ 11 ∧ x ≠ 12)) → w2 c x = wa c x)) (hs2 : bqS (qR fit 1 n) (fun x y => qV 1 n x y ∧ (x < i ∨ (x = i ∧ (j + (-1)) < y))) (w2 34 10) (w2 34 11) (w2 34 12)), zA l mX9_askFrom false 3 0 0 (fun v' S' w' => v' = none ∧ S' = (ZZ t dr tx) ∧ (∀ c x, c ≠ 37 → c ≠ 38 → (c ≠ 34 ∨ (x ≠ 10 ∧ x ≠ 11 ∧ x ≠ 12)) → w' c x = w c x) ∧ bqS (qR fit 1 n) (fun x y => qV 1 n x y ∧ x < i + 1) (w' 34 10) (w' 34 11) (w' 34 12)) zNo 80 [zR 34, zI i, zI j, .null, .null, .null] [] (ZZ t dr tx) w2 := by
          intro w2 hg hs2
          refine zA_range (fun hr => ?_)
          refine zA_iconst dX9_askFrom_80 ?_
          refine zA_iload_n dX9_askFrom_81 rfl ?_
          refine zA_iload_n dX9_askFrom_82 rfl ?_
          refine zA_isub dX9_askFrom_83 ?_
          refine zA_iconst dX9_askFrom_84 ?_
          refine zA_isub dX9_askFrom_85 ?_
          refine zA_ishl dX9_askFrom_86 ?_
          refine zA_valI ((2 ^ (j + (-1) - i).toNat : Nat) : Int) (by rw [iShl_1 (by omega) (by omega)]; congr 3; omega) ?_
          refine zA_istore (lo1 := [zR 34, zI i, zI j, .null, zI ((2 ^ (j + (-1) - i).toNat : Nat) : Int), .null]) dX9_askFrom_87 (by decide) rfl rfl ?_
          refine zA_iconst dX9_askFrom_89 ?_
          refine zA_istore (lo1 := [zR 34, zI i, zI j, .null, zI ((2 ^ (j + (-1) - i).toNat : Nat) : Int), zI 0]) dX9_askFrom_90 (by decide) rfl rfl ?_
          have hHH := pw_s (m := j - i) (by omega)
          rw [show (j - i - 1).toNat = (j + (-1) - i).toNat by omega] at hHH
          have hpH := pow14 (m := j + (-1) - i) (by omega) (by omega)
          have L92 : ∀ (z92 : Nat) (b : Int) (w3 : zW) (b0 : 0 ≤ b) (b1 : b ≤ ((2 ^ (j + (-1) - i).toNat : Nat) : Int)) (hf3 : only 37 w2 w3) (hl : ∀ x : Int, 0 ≤ x → x < b → w3 37 x = cq fit ((2 ^ n.toNat : Nat) : Int) (fun c => sh c i (j + (-1)) = x)) (hh : ∀ x : Int, b ≤ x → x < ((2 ^ (j - i).toNat : Nat) : Int) → w3 37 x = cq fit ((2 ^ n.toNat : Nat) : Int) (fun c => sh c i j = x)) (zm : (((2 ^ (j + (-1) - i).toNat : Nat) : Int) - b).toNat < z92), zA l mX9_askFrom false 3 0 0 (fun v' S' w' => v' = none ∧ S' = (ZZ t dr tx) ∧ (∀ c x, c ≠ 37 → c ≠ 38 → (c ≠ 34 ∨ (x ≠ 10 ∧ x ≠ 11 ∧ x ≠ 12)) → w' c x = w c x) ∧ bqS (qR fit 1 n) (fun x y => qV 1 n x y ∧ x < i + 1) (w' 34 10) (w' 34 11) (w' 34 12)) zNo 92 [zR 34, zI i, zI j, .null, zI ((2 ^ (j + (-1) - i).toNat : Nat) : Int), zI b] [] (ZZ t dr tx) w3 := by
            intro z92
            induction z92 with
            | zero => intro b w3 b0 b1 hf3 hl hh zm; exact absurd zm (Nat.not_lt_zero _)
            | succ z92 ih92 =>
              intro b w3 b0 b1 hf3 hl hh zm
              refine zA_range (fun hr => ?_)
              refine zA_iload dX9_askFrom_92 rfl ?_
              refine zA_iload dX9_askFrom_94 rfl ?_
              refine zA_icmp_ge (tgt := 125) dX9_askFrom_96 (by decide) (by first | assumption | exact hr _ _ | exact inR_mk (by omega) (by omega)) (by first | assumption | exact hr _ _ | exact inR_mk (by omega) (by omega)) (fun c96 => ?_) (fun c96 => ?_)
              · skip
                refine zA_iinc (lo1 := [zR 34, zI i, zI (j + (-1)), .null, zI ((2 ^ (j + (-1) - i).toNat : Nat) : Int), zI b]) dX9_askFrom_125 rfl (by decide) rfl rfl ?_
                refine zA_goto (tgt := 26) dX9_askFrom_128 (by decide) ?_
                refine zA_drop 4 (lo1 := [zR 34, zI i, zI (j + (-1)), .null, .null, zI b]) rfl ?_
                refine zA_drop 5 (lo1 := [zR 34, zI i, zI (j + (-1)), .null, .null, .null]) rfl ?_
                exact ih26 (j + (-1)) w3 (by omega) (by omega) (fun c x a a2 a3 => by rw [hf3 c x a, hg c x a2 a3, hfa c x a2]; exact hf c x a a2 a3) (fun b b0 b1 => hl b b0 (by omega)) (by
                        rw [hf3 34 10 (by decide), hf3 34 11 (by decide), hf3 34 12 (by decide)]
                        exact hs2) (by omega)
              · skip
                have hc1 := hh b (Int.le_refl _) (by omega)
                have hc2 := hh (b + ((2 ^ (j + (-1) - i).toNat : Nat) : Int)) (by omega) (by omega)
                have hsm : cq fit ((2 ^ n.toNat : Nat) : Int) (fun c => sh c i (j + (-1)) = b) = cq fit ((2 ^ n.toNat : Nat) : Int) (fun c => sh c i j = b) + cq fit ((2 ^ n.toNat : Nat) : Int) (fun c => sh c i j = (b + ((2 ^ (j + (-1) - i).toNat : Nat) : Int))) := cq_a (fun c c0 c1 => sh_hi (by omega) b0 (by omega)) (fun c c0 c1 q => by have := q.1; have := q.2; omega)
                have hsb := cq_b (fit := fit) (N := ((2 ^ n.toNat : Nat) : Int)) (P := fun c => sh c i (j + (-1)) = b) (by omega)
                have hsb1 := cq_b (fit := fit) (N := ((2 ^ n.toNat : Nat) : Int)) (P := fun c => sh c i j = b) (by omega)
                have hsb2 := cq_b (fit := fit) (N := ((2 ^ n.toNat : Nat) : Int)) (P := fun c => sh c i j = b + ((2 ^ (j + (-1) - i).toNat : Nat) : Int)) (by omega)
                refine zA_aload_n dX9_askFrom_99 rfl ?_
                refine zA_getR (n := 37) dX9_askFrom_100 fX9_18 c34 rfl ?_
                refine zA_iload dX9_askFrom_103 rfl ?_
                refine zA_dup2 dX9_askFrom_105 rfl rfl ?_
                refine zA_iaload dX9_askFrom_106 c37 (by first | assumption | omega) (by first | assumption | omega) (by decide) ?_
                refine zA_aload_n dX9_askFrom_107 rfl ?_
                refine zA_getR (n := 37) dX9_askFrom_108 fX9_18 c34 rfl ?_
                refine zA_iload dX9_askFrom_111 rfl ?_
                refine zA_iload dX9_askFrom_113 rfl ?_
                refine zA_iadd dX9_askFrom_115 ?_
                refine zA_iaload dX9_askFrom_116 c37 (by first | assumption | omega) (by first | assumption | omega) (by decide) ?_
                refine zA_iadd dX9_askFrom_117 ?_
                refine zA_iastore dX9_askFrom_118 (by first | assumption | exact hr _ _ | exact inR_mk (by omega) (by omega)) c37 (by first | assumption | omega) (by first | assumption | omega) (by decide) ?_
                refine zA_namew (fun w_3 hw_3 => ?_)
                refine zA_range (fun hr => ?_)
                replace hw_3 : w_3 = up w3 37 b ((w3 37 b) + (w3 37 (b + ((2 ^ (j + (-1) - i).toNat : Nat) : Int)))) := hw_3
                refine zA_iinc (lo1 := [zR 34, zI i, zI j, .null, zI ((2 ^ (j + (-1) - i).toNat : Nat) : Int), zI (b + 1)]) dX9_askFrom_119 rfl (by decide) rfl rfl ?_
                refine zA_goto (tgt := 92) dX9_askFrom_122 (by decide) ?_
                exact ih92 (b + 1) _ (by omega) (by omega) (by rw [hw_3]; exact only_up hf3) (fun x a a2 => by
                            rw [hw_3]
                            by_cases e : x = b
                            · rw [e, up_same, hsm, hc1, hc2]
                            · rw [up_idx _ _ _ _ e]; exact hl x a (by omega)) (fun x a a2 => by rw [hw_3, up_idx _ _ _ _ (by omega)]; exact hh x (by omega) a2) (by omega)
          exact L92 _ 0 w2 (by omega) (by omega) only_rfl (fun x a b => by omega) (fun x a b => by rw [hg 37 x (by decide) (Or.inl (by decide)), hwa37 x]; exact hu x a b) (Nat.lt_succ_self _)
        refine zA_iload_n dX9_askFrom_41 rfl ?_
        refine zA_aload_n dX9_askFrom_42 rfl ?_
        refine zA_getI dX9_askFrom_43 fX9_50 c34 rfl ?_
        refine zA_valI (wa 34 12) rfl ?_
        refine zA_icmp_lt (tgt := 65) dX9_askFrom_46 (by decide) (by first | assumption | exact hr _ _ | exact inR_mk (by omega) (by omega)) (by first | assumption | exact hr _ _ | exact inR_mk (by omega) (by omega)) (fun c46 => ?_) (fun c46 => ?_)
        · skip
          refine zA_aload_n dX9_askFrom_65 rfl ?_
          refine zA_iload_n dX9_askFrom_66 rfl ?_
          refine zA_putI dX9_askFrom_67 fX9_50 c34 rfl (by first | assumption | exact hr _ _ | exact inR_mk (by omega) (by omega)) ⟨rfl, rfl⟩ ?_
          refine zA_namew (fun w_4 hw_4 => ?_)
          refine zA_range (fun hr => ?_)
          replace hw_4 : w_4 = up wa 34 12 (qR fit 1 n i j) := hw_4
          refine zA_aload_n dX9_askFrom_70 rfl ?_
          refine zA_iload_n dX9_askFrom_71 rfl ?_
          refine zA_putI dX9_askFrom_72 fX9_44 c34 rfl (by first | assumption | exact hr _ _ | exact inR_mk (by omega) (by omega)) ⟨rfl, rfl⟩ ?_
          refine zA_namew (fun w_5 hw_5 => ?_)
          refine zA_range (fun hr => ?_)
          replace hw_5 : w_5 = up w_4 34 10 i := hw_5
          refine zA_aload_n dX9_askFrom_75 rfl ?_
          refine zA_iload_n dX9_askFrom_76 rfl ?_
          refine zA_putI dX9_askFrom_77 fX9_47 c34 rfl (by first | assumption | exact hr _ _ | exact inR_mk (by omega) (by omega)) ⟨rfl, rfl⟩ ?_
          refine zA_namew (fun w_6 hw_6 => ?_)
          refine zA_range (fun hr => ?_)
          replace hw_6 : w_6 = up w_5 34 11 j := hw_6
          refine zA_drop 3 (lo1 := [zR 34, zI i, zI j, .null, .null, .null]) rfl ?_
          exact L80 _ (fun c x a a2 => by rw [hw_6, up_n (by omega), hw_5, up_n (by omega), hw_4, up_n (by omega)]) (by
                    rw [show w_6 34 10 = i by rw [hw_6, up_idx _ _ _ _ (by decide), hw_5, up_same], show w_6 34 11 = j by rw [hw_6, up_same], show w_6 34 12 = (qR fit 1 n i j) by rw [hw_6, up_idx _ _ _ _ (by decide), hw_5, up_idx _ _ _ _ (by decide), hw_4, up_same]]
                    exact hadd.1 (by omega))
        · skip
          refine zA_iload_n dX9_askFrom_49 rfl ?_
          refine zA_aload_n dX9_askFrom_50 rfl ?_
          refine zA_getI dX9_askFrom_51 fX9_50 c34 rfl ?_
          refine zA_valI (wa 34 12) rfl ?_
          refine zA_icmp_ne (tgt := 80) dX9_askFrom_54 (by decide) (by first | assumption | exact hr _ _ | exact inR_mk (by omega) (by omega)) (by first | assumption | exact hr _ _ | exact inR_mk (by omega) (by omega)) (fun c54 => ?_) (fun c54 => ?_)
          · skip
            refine zA_drop 3 (lo1 := [zR 34, zI i, zI j, .null, .null, .null]) rfl ?_
            exact L80 wa (fun _ _ _ _ => rfl) (hadd.2 (by omega))
          · skip
            refine zA_aload_n dX9_askFrom_57 rfl ?_
            refine zA_getI dX9_askFrom_58 fX9_44 c34 rfl ?_
            refine zA_valI (wa 34 10) rfl ?_
            refine zA_iload_n dX9_askFrom_61 rfl ?_
            refine zA_icmp_ne (tgt := 80) dX9_askFrom_62 (by decide) (by first | assumption | exact hr _ _ | exact inR_mk (by omega) (by omega)) (by first | assumption | exact hr _ _ | exact inR_mk (by omega) (by omega)) (fun c62 => ?_) (fun c62 => ?_)
            · skip
              refine zA_drop 3 (lo1 := [zR 34, zI i, zI j, .null, .null, .null]) rfl ?_
              exact L80 wa (fun _ _ _ _ => rfl) (hadd.2 (by omega))
            · skip
              refine zA_aload_n dX9_askFrom_65 rfl ?_
              refine zA_iload_n dX9_askFrom_66 rfl ?_
              refine zA_putI dX9_askFrom_67 fX9_50 c34 rfl (by first | assumption | exact hr _ _ | exact inR_mk (by omega) (by omega)) ⟨rfl, rfl⟩ ?_
              refine zA_namew (fun w_7 hw_7 => ?_)
              refine zA_range (fun hr => ?_)
              replace hw_7 : w_7 = up wa 34 12 (qR fit 1 n i j) := hw_7
              refine zA_aload_n dX9_askFrom_70 rfl ?_
              refine zA_iload_n dX9_askFrom_71 rfl ?_
              refine zA_putI dX9_askFrom_72 fX9_44 c34 rfl (by first | assumption | exact hr _ _ | exact inR_mk (by omega) (by omega)) ⟨rfl, rfl⟩ ?_
              refine zA_namew (fun w_8 hw_8 => ?_)
              refine zA_range (fun hr => ?_)
              replace hw_8 : w_8 = up w_7 34 10 i := hw_8
              refine zA_aload_n dX9_askFrom_75 rfl ?_
              refine zA_iload_n dX9_askFrom_76 rfl ?_
              refine zA_putI dX9_askFrom_77 fX9_47 c34 rfl (by first | assumption | exact hr _ _ | exact inR_mk (by omega) (by omega)) ⟨rfl, rfl⟩ ?_
              refine zA_namew (fun w_9 hw_9 => ?_)
              refine zA_range (fun hr => ?_)
              replace hw_9 : w_9 = up w_8 34 11 j := hw_9
              refine zA_drop 3 (lo1 := [zR 34, zI i, zI j, .null, .null, .null]) rfl ?_
              exact L80 _ (fun c x a a2 => by rw [hw_9, up_n (by omega), hw_8, up_n (by omega), hw_7, up_n (by omega)]) (by
                        rw [show w_9 34 10 = i by rw [hw_9, up_idx _ _ _ _ (by decide), hw_8, up_same], show w_9 34 11 = j by rw [hw_9, up_same], show w_9 34 12 = (qR fit 1 n i j) by rw [hw_9, up_idx _ _ _ _ (by decide), hw_8, up_idx _ _ _ _ (by decide), hw_7, up_same]]
                        exact hadd.1 (by omega))
  exact L26 _ n w_1 (by omega) (by omega) (fun c x a _ _ => by rw [hw_1]; unfold cpy; rw [if_neg (fun h => a h.1)]) (fun b b0 b1 => by
        rw [hw_1, ← hfr b b0 b1]
        unfold cpy
        rw [if_pos ⟨rfl, b0, by omega⟩]
        congr 1
        omega) (by
        have e : ∀ x, w_1 34 x = w 34 x := fun x => by rw [hw_1]; unfold cpy; rw [if_neg (fun h => absurd h.1 (by decide))]
        rw [e, e, e]
        exact bqS_V (fun x y => by unfold qV; omega) hs) (Nat.lt_succ_self _)

set_option maxRecDepth 100000 in
set_option maxHeartbeats 4000000 in
theorem s_findClamps {l : Launch} {t dr tx : Nat} {w : zW} {n : Int} (hn : w 34 4 = n) (p0 : 2 ≤ n) (p1 : n ≤ 14) {fit : Int → Bool} (hl : lOk fit (w 35) (w 34 9) ((2 ^ n.toNat : Nat) : Int)) (hr0 : w 34 12 = 1000000000) : zSp l mX9_findClamps false 4 0 0 [zR 34] (ZZ t dr tx) w (fun v' S' w' => v' = none ∧ S' = (ZZ t dr tx) ∧ (∀ c x, c ≠ 36 → c ≠ 37 → c ≠ 38 → (c ≠ 34 ∨ (x ≠ 10 ∧ x ≠ 11 ∧ x ≠ 12)) → w' c x = w c x) ∧ bqS (qR fit 1 n) (fun x y => qV 1 n x y ∧ x < n) (w' 34 10) (w' 34 11) (w' 34 12)) zNo := by
  refine zA_intro ⟨plainFor_of_name (by decide +kernel), Or.inl (by decide +kernel)⟩ rfl (Nat.le_of_ble_eq_true rfl) ?_
  have hpn := pow14 (m := n) (by omega) p1
  have hmb := ixF_b (fit := fit) (c := ((2 ^ n.toNat : Nat) : Int))
  rw [← hl.1] at hmb
  refine zA_range (fun hr => ?_)
  show zA l mX9_findClamps false 4 0 0 (fun v' S' w' => v' = none ∧ S' = (ZZ t dr tx) ∧ (∀ c x, c ≠ 36 → c ≠ 37 → c ≠ 38 → (c ≠ 34 ∨ (x ≠ 10 ∧ x ≠ 11 ∧ x ≠ 12)) → w' c x = w c x) ∧ bqS (qR fit 1 n) (fun x y => qV 1 n x y ∧ x < n) (w' 34 10) (w' 34 11) (w' 34 12)) zNo 0 [zR 34, .null, .null, .null] [] (ZZ t dr tx) w
  refine zA_iconst dX9_findClamps_0 ?_
  refine zA_aload_n dX9_findClamps_1 rfl ?_
  refine zA_getI dX9_findClamps_2 fX9_24 c34 rfl ?_
  refine zA_valI (w 34 4) rfl ?_
  refine zA_valI n (hn) ?_
  refine zA_ishl dX9_findClamps_5 ?_
  refine zA_valI ((2 ^ n.toNat : Nat) : Int) (by rw [iShl_1 (by omega) (by omega)]) ?_
  refine zA_istore_n (lo1 := [zR 34, zI ((2 ^ n.toNat : Nat) : Int), .null, .null]) dX9_findClamps_6 (by decide) rfl rfl ?_
  refine zA_iconst dX9_findClamps_7 ?_
  refine zA_istore_n (lo1 := [zR 34, zI ((2 ^ n.toNat : Nat) : Int), zI 0, .null]) dX9_findClamps_8 (by decide) rfl rfl ?_
  have L9 : ∀ (z9 : Nat) (b : Int) (w1 : zW) (b0 : 0 ≤ b) (b1 : b ≤ ((2 ^ n.toNat : Nat) : Int)) (hf : only 36 w w1) (hz : ∀ x : Int, 0 ≤ x → x < b → w1 36 x = 0) (zm : (((2 ^ n.toNat : Nat) : Int) - b).toNat < z9), zA l mX9_findClamps false 4 0 0 (fun v' S' w' => v' = none ∧ S' = (ZZ t dr tx) ∧ (∀ c x, c ≠ 36 → c ≠ 37 → c ≠ 38 → (c ≠ 34 ∨ (x ≠ 10 ∧ x ≠ 11 ∧ x ≠ 12)) → w' c x = w c x) ∧ bqS (qR fit 1 n) (fun x y => qV 1 n x y ∧ x < n) (w' 34 10) (w' 34 11) (w' 34 12)) zNo 9 [zR 34, zI ((2 ^ n.toNat : Nat) : Int), zI b, .null] [] (ZZ t dr tx) w1 := by
    intro z9
    induction z9 with
    | zero => intro b w1 b0 b1 hf hz zm; exact absurd zm (Nat.not_lt_zero _)
    | succ z9 ih9 =>
      intro b w1 b0 b1 hf hz zm
      refine zA_range (fun hr => ?_)
      refine zA_iload_n dX9_findClamps_9 rfl ?_
      refine zA_iload_n dX9_findClamps_10 rfl ?_
      refine zA_icmp_ge (tgt := 27) dX9_findClamps_11 (by decide) (by first | assumption | exact hr _ _ | exact inR_mk (by omega) (by omega)) (by first | assumption | exact hr _ _ | exact inR_mk (by omega) (by omega)) (fun c11 => ?_) (fun c11 => ?_)
      · skip
        refine zA_iconst dX9_findClamps_27 ?_
        refine zA_istore_n (lo1 := [zR 34, zI ((2 ^ n.toNat : Nat) : Int), zI 0, .null]) dX9_findClamps_28 (by decide) rfl rfl ?_
        have L29 : ∀ (z29 : Nat) (p : Int) (w2 : zW) (q0 : 0 ≤ p) (q1 : p ≤ w 34 9) (hf2 : only 36 w w2) (hz2 : ∀ x : Int, 0 ≤ x → x < ((2 ^ n.toNat : Nat) : Int) → w2 36 x = if fit x = true ∧ ixF fit x < p then 1 else 0) (zm : (w 34 9 - p).toNat < z29), zA l mX9_findClamps false 4 0 0 (fun v' S' w' => v' = none ∧ S' = (ZZ t dr tx) ∧ (∀ c x, c ≠ 36 → c ≠ 37 → c ≠ 38 → (c ≠ 34 ∨ (x ≠ 10 ∧ x ≠ 11 ∧ x ≠ 12)) → w' c x = w c x) ∧ bqS (qR fit 1 n) (fun x y => qV 1 n x y ∧ x < n) (w' 34 10) (w' 34 11) (w' 34 12)) zNo 29 [zR 34, zI ((2 ^ n.toNat : Nat) : Int), zI p, .null] [] (ZZ t dr tx) w2 := by
          intro z29
          induction z29 with
          | zero => intro p w2 q0 q1 hf2 hz2 zm; exact absurd zm (Nat.not_lt_zero _)
          | succ z29 ih29 =>
            intro p w2 q0 q1 hf2 hz2 zm
            refine zA_range (fun hr => ?_)
            refine zA_iload_n dX9_findClamps_29 rfl ?_
            refine zA_aload_n dX9_findClamps_30 rfl ?_
            refine zA_getI dX9_findClamps_31 fX9_41 c34 rfl ?_
            refine zA_valI (w2 34 9) rfl ?_
            refine zA_valI (w 34 9) (hf2 34 9 (by decide)) ?_
            refine zA_icmp_ge (tgt := 55) dX9_findClamps_34 (by decide) (by first | assumption | exact hr _ _ | exact inR_mk (by omega) (by omega)) (by first | assumption | exact hr _ _ | exact inR_mk (by omega) (by omega)) (fun k34 => ?_) (fun k34 => ?_)
            · skip
              refine zA_iconst dX9_findClamps_55 ?_
              refine zA_istore_n (lo1 := [zR 34, zI ((2 ^ n.toNat : Nat) : Int), zI 0, .null]) dX9_findClamps_56 (by decide) rfl rfl ?_
              have L57 : ∀ (z57 : Nat) (i : Int) (w1 : zW) (i0 : 0 ≤ i) (i1 : i ≤ n) (hf : (∀ c x, c ≠ 36 → c ≠ 37 → c ≠ 38 → (c ≠ 34 ∨ (x ≠ 10 ∧ x ≠ 11 ∧ x ≠ 12)) → w1 c x = w c x)) (hfr : ∀ b : Int, 0 ≤ b → b < ((2 ^ (n - i).toNat : Nat) : Int) → w1 36 b = cq fit ((2 ^ n.toNat : Nat) : Int) (fun c => sh c i n = b)) (hs : bqS (qR fit 1 n) (fun x y => qV 1 n x y ∧ x < i) (w1 34 10) (w1 34 11) (w1 34 12)) (zm : (n - i).toNat < z57), zA l mX9_findClamps false 4 0 0 (fun v' S' w' => v' = none ∧ S' = (ZZ t dr tx) ∧ (∀ c x, c ≠ 36 → c ≠ 37 → c ≠ 38 → (c ≠ 34 ∨ (x ≠ 10 ∧ x ≠ 11 ∧ x ≠ 12)) → w' c x = w c x) ∧ bqS (qR fit 1 n) (fun x y => qV 1 n x y ∧ x < n) (w' 34 10) (w' 34 11) (w' 34 12)) zNo 57 [zR 34, zI ((2 ^ n.toNat : Nat) : Int), zI i, .null] [] (ZZ t dr tx) w1 := by
                intro z57
                induction z57 with
                | zero => intro i w1 i0 i1 hf hfr hs zm; exact absurd zm (Nat.not_lt_zero _)
                | succ z57 ih57 =>
                  intro i w1 i0 i1 hf hfr hs zm
                  refine zA_range (fun hr => ?_)
                  refine zA_iload_n dX9_findClamps_57 rfl ?_
                  refine zA_aload_n dX9_findClamps_58 rfl ?_
                  refine zA_getI dX9_findClamps_59 fX9_24 c34 rfl ?_
                  refine zA_valI (w1 34 4) rfl ?_
                  refine zA_valI n (by rw [hf 34 4 (by decide) (by decide) (by decide) (Or.inr (by decide))]; exact hn) ?_
                  refine zA_icmp_ge (tgt := 118) dX9_findClamps_62 (by decide) (by first | assumption | exact hr _ _ | exact inR_mk (by omega) (by omega)) (by first | assumption | exact hr _ _ | exact inR_mk (by omega) (by omega)) (fun c62 => ?_) (fun c62 => ?_)
                  · skip
                    refine zA_vret dX9_findClamps_118 rfl ?_
                    have hin : i = n := by omega
                    rw [hin] at hs
                    exact ⟨rfl, rfl, hf, hs⟩
                  · skip
                    refine zA_aload_n dX9_findClamps_65 rfl ?_
                    refine zA_iload_n dX9_findClamps_66 rfl ?_
                    refine zA_cV (st := []) dX9_findClamps_67 vX9_askFrom kX9_79 (s_askFrom (w := w1) (n := n) (by rw [hf 34 4 (by decide) (by decide) (by decide) (Or.inr (by decide))]; exact hn) p0 p1 (i := i) i0 (by omega) hfr hs) (by decide) c34 rfl rfl (Nat.le_of_ble_eq_true rfl) rfl (fun q_1_v q_1_S q_1_w q_1 => ?_)
                    obtain ⟨rfl, rfl, hfa, hsa⟩ := q_1
                    obtain ⟨wa, hwa⟩ : ∃ wa, wa = q_1_w := ⟨_, rfl⟩
                    rw [← hwa] at hfa hsa ⊢
                    refine zA_range (fun hr => ?_)
                    show zA l mX9_findClamps false 4 0 0 (fun v' S' w' => v' = none ∧ S' = (ZZ t dr tx) ∧ (∀ c x, c ≠ 36 → c ≠ 37 → c ≠ 38 → (c ≠ 34 ∨ (x ≠ 10 ∧ x ≠ 11 ∧ x ≠ 12)) → w' c x = w c x) ∧ bqS (qR fit 1 n) (fun x y => qV 1 n x y ∧ x < n) (w' 34 10) (w' 34 11) (w' 34 12)) zNo 70 [zR 34, zI ((2 ^ n.toNat : Nat) : Int), zI i, .null] [] (ZZ t dr tx) wa
                    refine zA_iconst dX9_findClamps_70 ?_
                    refine zA_istore_n (lo1 := [zR 34, zI ((2 ^ n.toNat : Nat) : Int), zI i, zI 0]) dX9_findClamps_71 (by decide) rfl rfl ?_
                    have hHH := pw_s (m := n - i) (by omega)
                    rw [show (n - i - 1).toNat = (n - (i + 1)).toNat by omega] at hHH
                    have hpH := pow14 (m := n - (i + 1)) (by omega) (by omega)
                    have hpJ := pow14 (m := n - i) (by omega) (by omega)
                    have L72 : ∀ (z72 : Nat) (b : Int) (w3 : zW) (b0 : 0 ≤ b) (b1 : b ≤ ((2 ^ (n - (i + 1)).toNat : Nat) : Int)) (hf3 : only 36 wa w3) (hl3 : ∀ x : Int, 0 ≤ x → x < b → w3 36 x = cq fit ((2 ^ n.toNat : Nat) : Int) (fun c => sh c (i + 1) n = x)) (hh : ∀ x : Int, b ≤ x → x < ((2 ^ (n - i).toNat : Nat) : Int) → w3 36 x = cq fit ((2 ^ n.toNat : Nat) : Int) (fun c => sh c i n = x)) (zm : (((2 ^ (n - (i + 1)).toNat : Nat) : Int) - b).toNat < z72), zA l mX9_findClamps false 4 0 0 (fun v' S' w' => v' = none ∧ S' = (ZZ t dr tx) ∧ (∀ c x, c ≠ 36 → c ≠ 37 → c ≠ 38 → (c ≠ 34 ∨ (x ≠ 10 ∧ x ≠ 11 ∧ x ≠ 12)) → w' c x = w c x) ∧ bqS (qR fit 1 n) (fun x y => qV 1 n x y ∧ x < n) (w' 34 10) (w' 34 11) (w' 34 12)) zNo 72 [zR 34, zI ((2 ^ n.toNat : Nat) : Int), zI i, zI b] [] (ZZ t dr tx) w3 := by
                      intro z72
                      induction z72 with
                      | zero => intro b w3 b0 b1 hf3 hl3 hh zm; exact absurd zm (Nat.not_lt_zero _)
                      | succ z72 ih72 =>
                        intro b w3 b0 b1 hf3 hl3 hh zm
                        refine zA_range (fun hr => ?_)
                        refine zA_iload_n dX9_findClamps_72 rfl ?_
                        refine zA_iload_n dX9_findClamps_73 rfl ?_
                        refine zA_iload_n dX9_findClamps_74 rfl ?_
                        refine zA_iconst dX9_findClamps_75 ?_
                        refine zA_iadd dX9_findClamps_76 ?_
                        refine zA_ishr dX9_findClamps_77 ?_
                        refine zA_valI ((2 ^ (n - (i + 1)).toNat : Nat) : Int) (by rw [iShr_d (by omega) (by omega) (by omega) (by omega)]; congr 1; rw [Int.toNat_natCast, Nat.pow_div (by omega) (by decide)]; congr 1; omega) ?_
                        refine zA_icmp_ge (tgt := 112) dX9_findClamps_78 (by decide) (by first | assumption | exact hr _ _ | exact inR_mk (by omega) (by omega)) (by first | assumption | exact hr _ _ | exact inR_mk (by omega) (by omega)) (fun c78 => ?_) (fun c78 => ?_)
                        · skip
                          refine zA_iinc (lo1 := [zR 34, zI ((2 ^ n.toNat : Nat) : Int), zI (i + 1), zI b]) dX9_findClamps_112 rfl (by decide) rfl rfl ?_
                          refine zA_goto (tgt := 57) dX9_findClamps_115 (by decide) ?_
                          refine zA_drop 3 (lo1 := [zR 34, zI ((2 ^ n.toNat : Nat) : Int), zI (i + 1), .null]) rfl ?_
                          exact ih57 (i + 1) w3 (by omega) (by omega) (fun c x a a2 a3 a4 => by rw [hf3 c x a, hfa c x a2 a3 a4]; exact hf c x a a2 a3 a4) (fun b b0 b1 => hl3 b b0 (by omega)) (by
                                  rw [hf3 34 10 (by decide), hf3 34 11 (by decide), hf3 34 12 (by decide)]
                                  exact hsa) (by omega)
                        · skip
                          have hc1 := hh (2 * b) (by omega) (by omega)
                          have hc2 := hh (2 * b + 1) (by omega) (by omega)
                          have hsm : cq fit ((2 ^ n.toNat : Nat) : Int) (fun c => sh c (i + 1) n = b) = cq fit ((2 ^ n.toNat : Nat) : Int) (fun c => sh c i n = (2 * b)) + cq fit ((2 ^ n.toNat : Nat) : Int) (fun c => sh c i n = (2 * b + 1)) := cq_a (fun c c0 c1 => sh_lo (by omega) (by omega)) (fun c c0 c1 q => by have := q.1; have := q.2; omega)
                          have hsb := cq_b (fit := fit) (N := ((2 ^ n.toNat : Nat) : Int)) (P := fun c => sh c (i + 1) n = b) (by omega)
                          have hsb1 := cq_b (fit := fit) (N := ((2 ^ n.toNat : Nat) : Int)) (P := fun c => sh c i n = 2 * b) (by omega)
                          have hsb2 := cq_b (fit := fit) (N := ((2 ^ n.toNat : Nat) : Int)) (P := fun c => sh c i n = 2 * b + 1) (by omega)
                          refine zA_aload_n dX9_findClamps_81 rfl ?_
                          refine zA_getR (n := 36) dX9_findClamps_82 fX9_15 c34 rfl ?_
                          refine zA_iload_n dX9_findClamps_85 rfl ?_
                          refine zA_aload_n dX9_findClamps_86 rfl ?_
                          refine zA_getR (n := 36) dX9_findClamps_87 fX9_15 c34 rfl ?_
                          refine zA_iconst dX9_findClamps_90 ?_
                          refine zA_iload_n dX9_findClamps_91 rfl ?_
                          refine zA_imul dX9_findClamps_92 ?_
                          refine zA_iaload dX9_findClamps_93 c36 (by first | assumption | omega) (by first | assumption | omega) (by decide) ?_
                          refine zA_aload_n dX9_findClamps_94 rfl ?_
                          refine zA_getR (n := 36) dX9_findClamps_95 fX9_15 c34 rfl ?_
                          refine zA_iconst dX9_findClamps_98 ?_
                          refine zA_iload_n dX9_findClamps_99 rfl ?_
                          refine zA_imul dX9_findClamps_100 ?_
                          refine zA_iconst dX9_findClamps_101 ?_
                          refine zA_iadd dX9_findClamps_102 ?_
                          refine zA_iaload dX9_findClamps_103 c36 (by first | assumption | omega) (by first | assumption | omega) (by decide) ?_
                          refine zA_iadd dX9_findClamps_104 ?_
                          refine zA_iastore dX9_findClamps_105 (by first | assumption | exact hr _ _ | exact inR_mk (by omega) (by omega)) c36 (by first | assumption | omega) (by first | assumption | omega) (by decide) ?_
                          refine zA_namew (fun w_2 hw_2 => ?_)
                          refine zA_range (fun hr => ?_)
                          replace hw_2 : w_2 = up w3 36 b ((w3 36 (2 * b)) + (w3 36 ((2 * b) + 1))) := hw_2
                          refine zA_iinc (lo1 := [zR 34, zI ((2 ^ n.toNat : Nat) : Int), zI i, zI (b + 1)]) dX9_findClamps_106 rfl (by decide) rfl rfl ?_
                          refine zA_goto (tgt := 72) dX9_findClamps_109 (by decide) ?_
                          exact ih72 (b + 1) _ (by omega) (by omega) (by rw [hw_2]; exact only_up hf3) (fun x a a2 => by
                                      rw [hw_2]
                                      by_cases e : x = b
                                      · rw [e, up_same, hsm, hc1, hc2]
                                      · rw [up_idx _ _ _ _ e]; exact hl3 x a (by omega)) (fun x a a2 => by rw [hw_2, up_idx _ _ _ _ (by omega)]; exact hh x (by omega) a2) (by omega)
                    exact L72 _ 0 wa (by omega) (by omega) only_rfl (fun x a b => by omega) (fun x a b => by rw [hfa 36 x (by decide) (by decide) (Or.inl (by decide))]; exact hfr x a b) (Nat.lt_succ_self _)
              exact L57 _ 0 w2 (by omega) (by omega) (fun c x a _ _ _ => hf2 c x a) (fun b b0 b1 => by
                    have b2 : b < ((2 ^ n.toNat : Nat) : Int) := by rw [show (n - 0).toNat = n.toNat by omega] at b1; exact b1
                    rw [hz2 b b0 b2]
                    have e1 : cq fit ((2 ^ n.toNat : Nat) : Int) (fun c => sh c 0 n = b) = cq fit ((2 ^ n.toNat : Nat) : Int) (fun c => c = b) := cq_c (fun c c0 c1 => by rw [sh_0 c0 c1])
                    rw [e1, cq_1 b0 _]
                    by_cases f : fit b = true
                    · have h3 := (hl.2.2 b b0 b2 f).1
                      rw [if_pos ⟨f, by omega⟩, if_pos ⟨f, b2⟩]
                    · rw [if_neg (fun h => f h.1), if_neg (fun h => f h.1)]) (Or.inl ⟨by rw [hf2 34 12 (by decide)]; exact hr0, fun x y q => by have := q.1.1.1; have := q.2; omega⟩) (Nat.lt_succ_self _)
            · skip
              have hlp := hl.2.1 p q0 (by omega)
              have e35 : w2 35 p = w 35 p := hf2 35 p (by decide)
              refine zA_aload_n dX9_findClamps_37 rfl ?_
              refine zA_getR (n := 36) dX9_findClamps_38 fX9_15 c34 rfl ?_
              refine zA_aload_n dX9_findClamps_41 rfl ?_
              refine zA_getR (n := 35) dX9_findClamps_42 fX9_11 c34 rfl ?_
              refine zA_iload_n dX9_findClamps_45 rfl ?_
              refine zA_iaload dX9_findClamps_46 c35 (by first | assumption | omega) (by first | assumption | omega) (by decide) ?_
              refine zA_iconst dX9_findClamps_47 ?_
              refine zA_iastore dX9_findClamps_48 ⟨by decide, by decide⟩ c36 (by first | assumption | omega) (by first | assumption | omega) (by decide) ?_
              refine zA_namew (fun w_3 hw_3 => ?_)
              refine zA_range (fun hr => ?_)
              replace hw_3 : w_3 = up w2 36 (w2 35 p) 1 := hw_3
              refine zA_iinc (lo1 := [zR 34, zI ((2 ^ n.toNat : Nat) : Int), zI (p + 1), .null]) dX9_findClamps_49 rfl (by decide) rfl rfl ?_
              refine zA_goto (tgt := 29) dX9_findClamps_52 (by decide) ?_
              exact ih29 (p + 1) _ (by omega) (by omega) (by rw [hw_3]; exact only_up hf2) (fun x a a2 => by
                        rw [hw_3]
                        by_cases e : x = w2 35 p
                        · rw [e, up_same, e35, if_pos ⟨hlp.2.1, by omega⟩]
                        · rw [up_idx _ _ _ _ e, hz2 x a a2]
                          by_cases f : fit x = true
                          · have h3 := hl.2.2 x a a2 f
                            have h4 : ixF fit x ≠ p := fun h => by rw [h] at h3; exact e (by rw [e35]; exact h3.2.symm)
                            by_cases g : ixF fit x < p
                            · rw [if_pos ⟨f, g⟩, if_pos ⟨f, by omega⟩]
                            · rw [if_neg (fun h => g h.2), if_neg (fun h => g (by have := h.2; omega))]
                          · rw [if_neg (fun h => f h.1), if_neg (fun h => f h.1)]) (by omega)
        exact L29 _ 0 w1 (by omega) (by omega) hf (fun x a a2 => by rw [if_neg (fun h => by have := (ixF_b (fit := fit) (c := x)).1; omega)]; exact hz x a (by omega)) (Nat.lt_succ_self _)
      · skip
        refine zA_aload_n dX9_findClamps_14 rfl ?_
        refine zA_getR (n := 36) dX9_findClamps_15 fX9_15 c34 rfl ?_
        refine zA_iload_n dX9_findClamps_18 rfl ?_
        refine zA_iconst dX9_findClamps_19 ?_
        refine zA_iastore dX9_findClamps_20 ⟨by decide, by decide⟩ c36 (by first | assumption | omega) (by first | assumption | omega) (by decide) ?_
        refine zA_namew (fun w_4 hw_4 => ?_)
        refine zA_range (fun hr => ?_)
        replace hw_4 : w_4 = up w1 36 b 0 := hw_4
        refine zA_iinc (lo1 := [zR 34, zI ((2 ^ n.toNat : Nat) : Int), zI (b + 1), .null]) dX9_findClamps_21 rfl (by decide) rfl rfl ?_
        refine zA_goto (tgt := 9) dX9_findClamps_24 (by decide) ?_
        exact ih9 (b + 1) _ (by omega) (by omega) (by rw [hw_4]; exact only_up hf) (fun x a a2 => by
                  rw [hw_4]
                  by_cases e : x = b
                  · rw [e, up_same]
                  · rw [up_idx _ _ _ _ e]; exact hz x a (by omega)) (by omega)
  exact L9 _ 0 w (by omega) (by omega) only_rfl (fun x a b => by omega) (Nat.lt_succ_self _)

set_option maxRecDepth 100000 in
set_option maxHeartbeats 4000000 in
theorem s_findCourse {l : Launch} {t dr tx : Nat} {w : zW} {n : Int} (hn : w 34 4 = n) (p0 : 2 ≤ n) (p1 : n ≤ 14) (hk : w 34 8 = 2) (g0 : 0 ≤ w 34 5) (g1 : w 34 5 ≤ 99) (b0 : 0 ≤ w 34 6) (b1 : w 34 6 ≤ 99) {fit : Int → Bool} (hl : lOk fit (w 35) (w 34 9) ((2 ^ n.toNat : Nat) : Int)) (hr0 : w 34 12 = 1000000000) : zSp l mX9_findCourse false 3 0 0 [zR 34] (ZZ t dr tx) w (fun v' S' w' => v' = none ∧ S' = (ZZ t dr tx) ∧ (∀ c x, (c ≠ 34 ∨ (x ≠ 10 ∧ x ≠ 11 ∧ x ≠ 12)) → w' c x = w c x) ∧ w' 34 11 = -1 ∧ bqS (qR fit 2 n) (fun x y => 0 ≤ x ∧ x < n ∧ y = x + 1) (w' 34 10) (w' 34 10 + 1) (w' 34 12)) zNo := by
  refine zA_intro ⟨plainFor_of_name (by decide +kernel), Or.inl (by decide +kernel)⟩ rfl (Nat.le_of_ble_eq_true rfl) ?_
  have hpn := pow14 (m := n) (by omega) p1
  have hmb := ixF_b (fit := fit) (c := ((2 ^ n.toNat : Nat) : Int))
  rw [← hl.1] at hmb
  refine zA_range (fun hr => ?_)
  show zA l mX9_findCourse false 3 0 0 (fun v' S' w' => v' = none ∧ S' = (ZZ t dr tx) ∧ (∀ c x, (c ≠ 34 ∨ (x ≠ 10 ∧ x ≠ 11 ∧ x ≠ 12)) → w' c x = w c x) ∧ w' 34 11 = -1 ∧ bqS (qR fit 2 n) (fun x y => 0 ≤ x ∧ x < n ∧ y = x + 1) (w' 34 10) (w' 34 10 + 1) (w' 34 12)) zNo 0 [zR 34, .null, .null, .null] [] (ZZ t dr tx) w
  refine zA_aload_n dX9_findCourse_0 rfl ?_
  refine zA_iconst dX9_findCourse_1 ?_
  refine zA_putI dX9_findCourse_2 fX9_47 c34 rfl ⟨by decide, by decide⟩ ⟨rfl, rfl⟩ ?_
  refine zA_namew (fun w_1 hw_1 => ?_)
  refine zA_range (fun hr => ?_)
  replace hw_1 : w_1 = up w 34 11 (-1) := hw_1
  refine zA_iconst dX9_findCourse_5 ?_
  refine zA_istore_n (lo1 := [zR 34, zI 0, .null, .null]) dX9_findCourse_6 (by decide) rfl rfl ?_
  have L7 : ∀ (z7 : Nat) (i : Int) (w1 : zW) (i0 : 0 ≤ i) (i1 : i ≤ n) (hf : (∀ c x, (c ≠ 34 ∨ (x ≠ 10 ∧ x ≠ 11 ∧ x ≠ 12)) → w1 c x = w c x)) (e11 : w1 34 11 = -1) (hs : bqS (qR fit 2 n) (fun x y => 0 ≤ x ∧ x < i ∧ y = x + 1) (w1 34 10) (w1 34 10 + 1) (w1 34 12)) (zm : (n - i).toNat < z7), zA l mX9_findCourse false 3 0 0 (fun v' S' w' => v' = none ∧ S' = (ZZ t dr tx) ∧ (∀ c x, (c ≠ 34 ∨ (x ≠ 10 ∧ x ≠ 11 ∧ x ≠ 12)) → w' c x = w c x) ∧ w' 34 11 = -1 ∧ bqS (qR fit 2 n) (fun x y => 0 ≤ x ∧ x < n ∧ y = x + 1) (w' 34 10) (w' 34 10 + 1) (w' 34 12)) zNo 7 [zR 34, zI i, .null, .null] [] (ZZ t dr tx) w1 := by
    intro z7
    induction z7 with
    | zero => intro i w1 i0 i1 hf e11 hs zm; exact absurd zm (Nat.not_lt_zero _)
    | succ z7 ih7 =>
      intro i w1 i0 i1 hf e11 hs zm
      refine zA_range (fun hr => ?_)
      refine zA_iload_n dX9_findCourse_7 rfl ?_
      refine zA_aload_n dX9_findCourse_8 rfl ?_
      refine zA_getI dX9_findCourse_9 fX9_24 c34 rfl ?_
      refine zA_valI (w1 34 4) rfl ?_
      refine zA_valI n (by rw [hf 34 4 (Or.inr (by decide))]; exact hn) ?_
      refine zA_icmp_ge (tgt := 83) dX9_findCourse_12 (by decide) (by first | assumption | exact hr _ _ | exact inR_mk (by omega) (by omega)) (by first | assumption | exact hr _ _ | exact inR_mk (by omega) (by omega)) (fun c12 => ?_) (fun c12 => ?_)
      · skip
        refine zA_vret dX9_findCourse_83 rfl ?_
        exact ⟨rfl, rfl, hf, e11, bqS_V (fun x y => by omega) hs⟩
      · skip
        refine zA_iconst dX9_findCourse_15 ?_
        refine zA_istore_n (lo1 := [zR 34, zI i, zI 0, .null]) dX9_findCourse_16 (by decide) rfl rfl ?_
        refine zA_iconst dX9_findCourse_17 ?_
        refine zA_istore_n (lo1 := [zR 34, zI i, zI 0, zI 0]) dX9_findCourse_18 (by decide) rfl rfl ?_
        have L19 : ∀ (z19 : Nat) (dl p : Int) (q0 : 0 ≤ p) (q1 : p ≤ w 34 9) (hdl : dl = ixF (fun x => fit x && decide (iAnd x (iShr (iShl 7 i) 1) ≠ 0)) (lUp (w 35) (w 34 9) ((2 ^ n.toNat : Nat) : Int) p)) (dl0 : 0 ≤ dl) (dl1 : dl ≤ p) (zm : (w 34 9 - p).toNat < z19), zA l mX9_findCourse false 3 0 0 (fun v' S' w' => v' = none ∧ S' = (ZZ t dr tx) ∧ (∀ c x, (c ≠ 34 ∨ (x ≠ 10 ∧ x ≠ 11 ∧ x ≠ 12)) → w' c x = w c x) ∧ w' 34 11 = -1 ∧ bqS (qR fit 2 n) (fun x y => 0 ≤ x ∧ x < n ∧ y = x + 1) (w' 34 10) (w' 34 10 + 1) (w' 34 12)) zNo 19 [zR 34, zI i, zI dl, zI p] [] (ZZ t dr tx) w1 := by
          intro z19
          induction z19 with
          | zero => intro dl p q0 q1 hdl dl0 dl1 zm; exact absurd zm (Nat.not_lt_zero _)
          | succ z19 ih19 =>
            intro dl p q0 q1 hdl dl0 dl1 zm
            refine zA_iload_n dX9_findCourse_19 rfl ?_
            refine zA_aload_n dX9_findCourse_20 rfl ?_
            refine zA_getI dX9_findCourse_21 fX9_41 c34 rfl ?_
            refine zA_valI (w1 34 9) rfl ?_
            refine zA_valI (w 34 9) (hf 34 9 (Or.inr (by decide))) ?_
            refine zA_icmp_ge (tgt := 48) dX9_findCourse_24 (by decide) (by first | assumption | exact hr _ _ | exact inR_mk (by omega) (by omega)) (by first | assumption | exact hr _ _ | exact inR_mk (by omega) (by omega)) (fun c24 => ?_) (fun c24 => ?_)
            · skip
              have hpm : p = w 34 9 := by omega
              have lUp_m : lUp (w 35) (w 34 9) ((2 ^ n.toNat : Nat) : Int) (w 34 9) = ((2 ^ n.toNat : Nat) : Int) := by unfold lUp; rw [if_neg (by omega)]
              have hadd := bqS_up hs (i := i) (j := i + 1) (m := qR fit 2 n i (i + 1)) rfl (by have := qR_b (fit := fit) (kd := 2) (n := n) (i := i) (j := i + 1) (by omega) p1; omega) (V' := fun x y => 0 ≤ x ∧ x < i + 1 ∧ y = x + 1) (fun x y => by omega) (fun x y q => by omega)
              refine zA_iload_n dX9_findCourse_48 rfl ?_
              refine zA_aload_n dX9_findCourse_49 rfl ?_
              refine zA_getI dX9_findCourse_50 fX9_41 c34 rfl ?_
              refine zA_valI (w1 34 9) rfl ?_
              refine zA_valI (w 34 9) (hf 34 9 (Or.inr (by decide))) ?_
              refine zA_iload_n dX9_findCourse_53 rfl ?_
              refine zA_isub dX9_findCourse_54 ?_
              refine zA_mmax dX9_findCourse_55 kmX9_73 zw_max (by first | assumption | exact hr _ _ | exact inR_mk (by omega) (by omega)) (by first | assumption | exact hr _ _ | exact inR_mk (by omega) (by omega)) (Nat.le_of_ble_eq_true rfl) ?_
              refine zA_valI (qR fit 2 n i (i + 1)) (by rw [hdl, hpm, lUp_m, hl.1]; exact qR_wall (by omega) p1) ?_
              have hqb := qR_b (fit := fit) (kd := 2) (n := n) (i := i) (j := i + 1) (by omega) p1
              refine zA_istore_n (lo1 := [zR 34, zI i, zI dl, zI (qR fit 2 n i (i + 1))]) dX9_findCourse_58 (by decide) rfl rfl ?_
              refine zA_iload_n dX9_findCourse_59 rfl ?_
              refine zA_aload_n dX9_findCourse_60 rfl ?_
              refine zA_getI dX9_findCourse_61 fX9_50 c34 rfl ?_
              refine zA_valI (w1 34 12) rfl ?_
              refine zA_icmp_ge (tgt := 77) dX9_findCourse_64 (by decide) (by first | assumption | exact hr _ _ | exact inR_mk (by omega) (by omega)) (by first | assumption | exact hr _ _ | exact inR_mk (by omega) (by omega)) (fun c64 => ?_) (fun c64 => ?_)
              · skip
                refine zA_iinc (lo1 := [zR 34, zI (i + 1), zI dl, zI (qR fit 2 n i (i + 1))]) dX9_findCourse_77 rfl (by decide) rfl rfl ?_
                refine zA_goto (tgt := 7) dX9_findCourse_80 (by decide) ?_
                refine zA_drop 2 (lo1 := [zR 34, zI (i + 1), .null, zI (qR fit 2 n i (i + 1))]) rfl ?_
                refine zA_drop 3 (lo1 := [zR 34, zI (i + 1), .null, .null]) rfl ?_
                exact ih7 (i + 1) w1 (by omega) (by omega) hf e11 (hadd.2 (by omega)) (by omega)
              · skip
                refine zA_aload_n dX9_findCourse_67 rfl ?_
                refine zA_iload_n dX9_findCourse_68 rfl ?_
                refine zA_putI dX9_findCourse_69 fX9_50 c34 rfl (by first | assumption | exact hr _ _ | exact inR_mk (by omega) (by omega)) ⟨rfl, rfl⟩ ?_
                refine zA_namew (fun w_2 hw_2 => ?_)
                refine zA_range (fun hr => ?_)
                replace hw_2 : w_2 = up w1 34 12 (qR fit 2 n i (i + 1)) := hw_2
                refine zA_aload_n dX9_findCourse_72 rfl ?_
                refine zA_iload_n dX9_findCourse_73 rfl ?_
                refine zA_putI dX9_findCourse_74 fX9_44 c34 rfl (by first | assumption | exact hr _ _ | exact inR_mk (by omega) (by omega)) ⟨rfl, rfl⟩ ?_
                refine zA_namew (fun w_3 hw_3 => ?_)
                refine zA_range (fun hr => ?_)
                replace hw_3 : w_3 = up w_2 34 10 i := hw_3
                refine zA_iinc (lo1 := [zR 34, zI (i + 1), zI dl, zI (qR fit 2 n i (i + 1))]) dX9_findCourse_77 rfl (by decide) rfl rfl ?_
                refine zA_goto (tgt := 7) dX9_findCourse_80 (by decide) ?_
                refine zA_drop 2 (lo1 := [zR 34, zI (i + 1), .null, zI (qR fit 2 n i (i + 1))]) rfl ?_
                refine zA_drop 3 (lo1 := [zR 34, zI (i + 1), .null, .null]) rfl ?_
                exact ih7 (i + 1) _ (by omega) (by omega) (fun c x a => by rw [hw_3, up_n (by omega), hw_2, up_n (by omega)]; exact hf c x a) (by rw [hw_3, up_idx _ _ _ _ (by decide), hw_2, up_idx _ _ _ _ (by decide)]; exact e11) (by
                          rw [show w_3 34 10 = i by rw [hw_3, up_same], show w_3 34 12 = qR fit 2 n i (i + 1) by rw [hw_3, up_idx _ _ _ _ (by decide), hw_2, up_same]]
                          exact hadd.1 (by omega)) (by omega)
            · skip
              have hlp1 := hl.2.1 p q0 (by omega)
              have hst := lUp_step (g := fun x => decide (iAnd x (iShr (iShl 7 i) 1) ≠ 0)) hl q0 (show p < w 34 9 by omega)
              refine zA_iload_n dX9_findCourse_27 rfl ?_
              refine zA_aload_n dX9_findCourse_28 rfl ?_
              refine zA_aload_n dX9_findCourse_29 rfl ?_
              refine zA_getR (n := 35) dX9_findCourse_30 fX9_11 c34 rfl ?_
              refine zA_iload_n dX9_findCourse_33 rfl ?_
              refine zA_iaload dX9_findCourse_34 c35 (by first | assumption | omega) (by first | assumption | omega) (by decide) ?_
              refine zA_iload_n dX9_findCourse_35 rfl ?_
              refine zA_iconst dX9_findCourse_36 ?_
              refine zA_cV (st := [zI dl]) dX9_findCourse_37 vX9_answerOf kX9_53 (s_answerOf (w := w1) (c := w1 35 p) (i := i) (j := -1) (by rw [hf 34 4 (Or.inr (by decide))]; omega) (by rw [hf 34 4 (Or.inr (by decide))]; omega) (by rw [hf 34 5 (Or.inr (by decide))]; exact g0) (by rw [hf 34 5 (Or.inr (by decide))]; exact g1) (by rw [hf 34 6 (Or.inr (by decide))]; exact b0) (by rw [hf 34 6 (Or.inr (by decide))]; exact b1) (by rw [hf 35 p (Or.inl (by decide))]; exact hlp1.1.1) (by rw [hf 35 p (Or.inl (by decide))]; have := hlp1.1.2; omega) (Or.inl ⟨by rw [hf 34 8 (Or.inr (by decide))]; exact hk, i0, by rw [hf 34 4 (Or.inr (by decide))]; omega⟩) ⟨by decide, by decide⟩) (by decide) c34 rfl rfl (Nat.le_of_ble_eq_true rfl) rfl (zRt_el ?_)
              show zA l mX9_findCourse false 3 0 0 (fun v' S' w' => v' = none ∧ S' = (ZZ t dr tx) ∧ (∀ c x, (c ≠ 34 ∨ (x ≠ 10 ∧ x ≠ 11 ∧ x ≠ 12)) → w' c x = w c x) ∧ w' 34 11 = -1 ∧ bqS (qR fit 2 n) (fun x y => 0 ≤ x ∧ x < n ∧ y = x + 1) (w' 34 10) (w' 34 10 + 1) (w' 34 12)) zNo 40 [zR 34, zI i, zI dl, zI p] [zI (tAn (w1 34 8) (w1 34 5) (w1 34 6) (w1 35 p) i (-1)), zI dl] (ZZ t dr tx) w1
              refine zA_valI (if iAnd (w 35 p) (iShr (iShl 7 i) 1) ≠ 0 then 1 else 0) (by rw [hf 34 8 (Or.inr (by decide)), hf 35 p (Or.inl (by decide))]; unfold tAn; rw [if_pos hk]) ?_
              have hif : 0 ≤ (if iAnd (w 35 p) (iShr (iShl 7 i) 1) ≠ 0 then (1 : Int) else 0) ∧ (if iAnd (w 35 p) (iShr (iShl 7 i) 1) ≠ 0 then (1 : Int) else 0) ≤ 1 := by split <;> omega
              refine zA_iadd dX9_findCourse_40 ?_
              refine zA_istore_n (lo1 := [zR 34, zI i, zI (dl + (if iAnd (w 35 p) (iShr (iShl 7 i) 1) ≠ 0 then 1 else 0)), zI p]) dX9_findCourse_41 (by decide) rfl rfl ?_
              refine zA_iinc (lo1 := [zR 34, zI i, zI (dl + (if iAnd (w 35 p) (iShr (iShl 7 i) 1) ≠ 0 then 1 else 0)), zI (p + 1)]) dX9_findCourse_42 rfl (by decide) rfl rfl ?_
              refine zA_goto (tgt := 19) dX9_findCourse_45 (by decide) ?_
              exact ih19 _ (p + 1) (by omega) (by omega) (by
                        rw [hst, hdl]
                        unfold lUp
                        rw [if_pos (by omega)]
                        congr 1
                        simp only [decide_eq_true_iff]) (by omega) (by omega) (by omega)
        exact L19 _ 0 0 (by omega) (by omega) (by have h1 := ixF_sub (fit := fit) (g := fun x => decide (iAnd x (iShr (iShl 7 i) 1) ≠ 0)) (lUp (w 35) (w 34 9) ((2 ^ n.toNat : Nat) : Int) 0); have h2 := (ixF_b (fit := (fun x => fit x && decide (iAnd x (iShr (iShl 7 i) 1) ≠ 0))) (c := (lUp (w 35) (w 34 9) ((2 ^ n.toNat : Nat) : Int) 0))).1; rw [lUp_ix hl (by omega) (by omega)] at h1; exact (Int.le_antisymm h1 h2).symm) (by omega) (by omega) (Nat.lt_succ_self _)
  exact L7 _ 0 w_1 (by omega) (by omega) (fun c x a => by rw [hw_1, up_n (by omega)]) (by rw [hw_1, up_same]) (Or.inl ⟨by rw [hw_1, up_idx _ _ _ _ (by decide)]; exact hr0, fun x y q => by omega⟩) (Nat.lt_succ_self _)

theorem qst_r {fit : Int → Bool} {n a b r : Int} (n2 : 2 ≤ n) (h : bqS (qR fit 1 n) (fun x y => qV 1 n x y ∧ x < n) a b r) : qst fit 1 n a b r := by
  rcases h with h | h
  · exact absurd (show qV 1 n 0 1 ∧ (0 : Int) < n by unfold qV; omega) (h.2 0 1)
  · exact ⟨b, bq_V (fun x y => by unfold qV; omega) h, by rw [if_neg (by decide)]⟩
theorem qst_w {fit : Int → Bool} {n a b r : Int} (n2 : 2 ≤ n) (hb : b = -1) (h : bqS (qR fit 2 n) (fun x y => 0 ≤ x ∧ x < n ∧ y = x + 1) a (a + 1) r) : qst fit 2 n a b r := by
  rcases h with h | h
  · exact absurd (show 0 ≤ (0 : Int) ∧ (0 : Int) < n ∧ (1 : Int) = 0 + 1 by omega) (h.2 0 1)
  · exact ⟨a + 1, bq_V (fun x y => by unfold qV; omega) h, by rw [if_pos rfl]; exact hb⟩
set_option maxRecDepth 100000 in
set_option maxHeartbeats 4000000 in
theorem s_findQuestion {l : Launch} {t dr tx : Nat} {w : zW} {n : Int} (hn : w 34 4 = n) (p0 : 2 ≤ n) (p1 : n ≤ 14) (hk : w 34 8 = 1 ∨ w 34 8 = 2) (g0 : 0 ≤ w 34 5) (g1 : w 34 5 ≤ 99) (b0 : 0 ≤ w 34 6) (b1 : w 34 6 ≤ 99) {fit : Int → Bool} (hl : lOk fit (w 35) (w 34 9) ((2 ^ n.toNat : Nat) : Int)) (ha : w 34 7 = 0 ∨ (w 34 7 = 1 ∧ qst fit (w 34 8) n (w 34 10) (w 34 11) (w 34 12))) : zSp l mX9_findQuestion false 5 0 0 [zR 34] (ZZ t dr tx) w (fun v' S' w' => v' = none ∧ S' = (ZZ t dr tx) ∧ (∀ c x, c ≠ 36 → c ≠ 37 → c ≠ 38 → (c ≠ 34 ∨ (x ≠ 7 ∧ x ≠ 10 ∧ x ≠ 11 ∧ x ≠ 12)) → w' c x = w c x) ∧ w' 34 7 = 1 ∧ qst fit (w 34 8) n (w' 34 10) (w' 34 11) (w' 34 12)) zNo := by
  refine zA_intro ⟨plainFor_of_name (by decide +kernel), Or.inl (by decide +kernel)⟩ rfl (Nat.le_of_ble_eq_true rfl) ?_
  refine zA_range (fun hr => ?_)
  show zA l mX9_findQuestion false 5 0 0 (fun v' S' w' => v' = none ∧ S' = (ZZ t dr tx) ∧ (∀ c x, c ≠ 36 → c ≠ 37 → c ≠ 38 → (c ≠ 34 ∨ (x ≠ 7 ∧ x ≠ 10 ∧ x ≠ 11 ∧ x ≠ 12)) → w' c x = w c x) ∧ w' 34 7 = 1 ∧ qst fit (w 34 8) n (w' 34 10) (w' 34 11) (w' 34 12)) zNo 0 [zR 34] [] (ZZ t dr tx) w
  refine zA_aload_n dX9_findQuestion_0 rfl ?_
  refine zA_getI dX9_findQuestion_1 fX9_34 c34 rfl ?_
  refine zA_valI (w 34 7) rfl ?_
  refine zA_if_eq (tgt := 8) dX9_findQuestion_4 (by decide) (by first | assumption | exact hr _ _ | exact inR_mk (by omega) (by omega)) (fun c4 => ?_) (fun c4 => ?_)
  · skip
    refine zA_aload_n dX9_findQuestion_8 rfl ?_
    refine zA_ldc dX9_findQuestion_9 qX9_66 ?_
    refine zA_putI dX9_findQuestion_11 fX9_50 c34 rfl ⟨by decide, by decide⟩ ⟨rfl, rfl⟩ ?_
    refine zA_namew (fun w_1 hw_1 => ?_)
    refine zA_range (fun hr => ?_)
    replace hw_1 : w_1 = up w 34 12 1000000000 := hw_1
    have h1 : ∀ c x, (c ≠ 34 ∨ x ≠ 12) → w_1 c x = w c x := fun c x h => by rw [hw_1, up_n (by omega)]
    have e35 : w_1 35 = w 35 := funext fun x => h1 35 x (Or.inl (by decide))
    have e8 : w_1 34 8 = w 34 8 := h1 34 8 (Or.inr (by decide))
    refine zA_aload_n dX9_findQuestion_14 rfl ?_
    refine zA_getI dX9_findQuestion_15 fX9_38 c34 rfl ?_
    refine zA_valI (w_1 34 8) rfl ?_
    refine zA_iconst dX9_findQuestion_18 ?_
    refine zA_icmp_ne (tgt := 29) dX9_findQuestion_19 (by decide) (by first | assumption | exact hr _ _ | exact inR_mk (by omega) (by omega)) ⟨by decide, by decide⟩ (fun c19 => ?_) (fun c19 => ?_)
    · skip
      refine zA_aload_n dX9_findQuestion_29 rfl ?_
      refine zA_cV (st := []) dX9_findQuestion_30 vX9_findClamps kX9_70 (s_findClamps (w := w_1) (n := n) (by rw [h1 34 4 (Or.inr (by decide))]; exact hn) p0 p1 (fit := fit) (by rw [e35, h1 34 9 (Or.inr (by decide))]; exact hl) (by rw [hw_1, up_same])) (by decide) c34 rfl rfl (Nat.le_of_ble_eq_true rfl) rfl (fun q_2_v q_2_S q_2_w q_2 => ?_)
      obtain ⟨rfl, rfl, hqa, hqc⟩ := q_2
      have hqa2 : ∀ c x, c ≠ 36 → c ≠ 37 → c ≠ 38 → (c ≠ 34 ∨ (x ≠ 10 ∧ x ≠ 11 ∧ x ≠ 12)) → q_2_w c x = w_1 c x := hqa
      have hqq : qst fit (w 34 8) n (q_2_w 34 10) (q_2_w 34 11) (q_2_w 34 12) := by rw [show w 34 8 = 1 by omega]; exact qst_r p0 hqc
      refine zA_range (fun hr => ?_)
      show zA l mX9_findQuestion false 5 0 0 (fun v' S' w' => v' = none ∧ S' = (ZZ t dr tx) ∧ (∀ c x, c ≠ 36 → c ≠ 37 → c ≠ 38 → (c ≠ 34 ∨ (x ≠ 7 ∧ x ≠ 10 ∧ x ≠ 11 ∧ x ≠ 12)) → w' c x = w c x) ∧ w' 34 7 = 1 ∧ qst fit (w 34 8) n (w' 34 10) (w' 34 11) (w' 34 12)) zNo 33 [zR 34] [] (ZZ t dr tx) q_2_w
      refine zA_aload_n dX9_findQuestion_33 rfl ?_
      refine zA_iconst dX9_findQuestion_34 ?_
      refine zA_putI dX9_findQuestion_35 fX9_34 c34 rfl ⟨by decide, by decide⟩ ⟨by rfl, by rfl⟩ ?_
      refine zA_namew (fun w_3 hw_3 => ?_)
      refine zA_range (fun hr => ?_)
      replace hw_3 : w_3 = up q_2_w 34 7 1 := hw_3
      refine zA_vret dX9_findQuestion_38 rfl ?_
      have e0 : ∀ c x, (c ≠ 34 ∨ x ≠ 7) → w_3 c x = q_2_w c x := fun c x h => by rw [hw_3, up_n (by omega)]
      refine ⟨rfl, rfl, fun c x a a2 a3 a4 => ?_, by rw [hw_3, up_same], ?_⟩
      · rw [e0 c x (by omega)]
        rw [hqa2 c x a a2 a3 (by omega)]; exact h1 c x (by omega)
      · rw [e0 34 10 (Or.inr (by decide)), e0 34 11 (Or.inr (by decide)), e0 34 12 (Or.inr (by decide))]
        exact hqq
    · skip
      refine zA_aload_n dX9_findQuestion_22 rfl ?_
      refine zA_cV (st := []) dX9_findQuestion_23 vX9_findCourse kX9_67 (s_findCourse (w := w_1) (n := n) (by rw [h1 34 4 (Or.inr (by decide))]; exact hn) p0 p1 (by rw [h1 34 8 (Or.inr (by decide))]; omega) (by rw [h1 34 5 (Or.inr (by decide))]; exact g0) (by rw [h1 34 5 (Or.inr (by decide))]; exact g1) (by rw [h1 34 6 (Or.inr (by decide))]; exact b0) (by rw [h1 34 6 (Or.inr (by decide))]; exact b1) (fit := fit) (by rw [e35, h1 34 9 (Or.inr (by decide))]; exact hl) (by rw [hw_1, up_same])) (by decide) c34 rfl rfl (Nat.le_of_ble_eq_true rfl) rfl (fun q_4_v q_4_S q_4_w q_4 => ?_)
      obtain ⟨rfl, rfl, hqa, hqb, hqc⟩ := q_4
      have hqa2 : ∀ c x, c ≠ 36 → c ≠ 37 → c ≠ 38 → (c ≠ 34 ∨ (x ≠ 10 ∧ x ≠ 11 ∧ x ≠ 12)) → q_4_w c x = w_1 c x := fun c x _ _ _ h => hqa c x h
      have hqq : qst fit (w 34 8) n (q_4_w 34 10) (q_4_w 34 11) (q_4_w 34 12) := by rw [show w 34 8 = 2 by omega]; exact qst_w p0 hqb hqc
      refine zA_range (fun hr => ?_)
      show zA l mX9_findQuestion false 5 0 0 (fun v' S' w' => v' = none ∧ S' = (ZZ t dr tx) ∧ (∀ c x, c ≠ 36 → c ≠ 37 → c ≠ 38 → (c ≠ 34 ∨ (x ≠ 7 ∧ x ≠ 10 ∧ x ≠ 11 ∧ x ≠ 12)) → w' c x = w c x) ∧ w' 34 7 = 1 ∧ qst fit (w 34 8) n (w' 34 10) (w' 34 11) (w' 34 12)) zNo 26 [zR 34] [] (ZZ t dr tx) q_4_w
      refine zA_goto (tgt := 33) dX9_findQuestion_26 (by decide) ?_
      refine zA_aload_n dX9_findQuestion_33 rfl ?_
      refine zA_iconst dX9_findQuestion_34 ?_
      refine zA_putI dX9_findQuestion_35 fX9_34 c34 rfl ⟨by decide, by decide⟩ ⟨by rfl, by rfl⟩ ?_
      refine zA_namew (fun w_5 hw_5 => ?_)
      refine zA_range (fun hr => ?_)
      replace hw_5 : w_5 = up q_4_w 34 7 1 := hw_5
      refine zA_vret dX9_findQuestion_38 rfl ?_
      have e0 : ∀ c x, (c ≠ 34 ∨ x ≠ 7) → w_5 c x = q_4_w c x := fun c x h => by rw [hw_5, up_n (by omega)]
      refine ⟨rfl, rfl, fun c x a a2 a3 a4 => ?_, by rw [hw_5, up_same], ?_⟩
      · rw [e0 c x (by omega)]
        rw [hqa2 c x a a2 a3 (by omega)]; exact h1 c x (by omega)
      · rw [e0 34 10 (Or.inr (by decide)), e0 34 11 (Or.inr (by decide)), e0 34 12 (Or.inr (by decide))]
        exact hqq
  · skip
    refine zA_vret dX9_findQuestion_7 rfl ?_
    exact ⟨rfl, rfl, fun _ _ _ _ _ _ => rfl, by omega, by rcases ha with ha | ha; exact absurd ha (by assumption); exact ha.2⟩

set_option maxRecDepth 100000 in
set_option maxHeartbeats 4000000 in
theorem s_next {l : Launch} {t dr tx : Nat} {w : zW} {k : Int} (hki : inR k) {fit : Int → Bool} (hT : w 34 8 ≠ 0 → ((2 ≤ w 34 4 ∧ w 34 4 ≤ 14) ∧ (w 34 8 = 1 ∨ w 34 8 = 2) ∧ (0 ≤ w 34 5 ∧ w 34 5 ≤ 99) ∧ 0 ≤ w 34 6 ∧ w 34 6 ≤ 99) ∧ lOk fit (w 35) (w 34 9) ((2 ^ (w 34 4).toNat : Nat) : Int) ∧ (w 34 7 = 0 ∨ (w 34 7 = 1 ∧ qst fit (w 34 8) (w 34 4) (w 34 10) (w 34 11) (w 34 12)))) : zSp l mX11_next false 6 2 12 [zR 0, zI k] (ZZ t dr tx) w (fun v' S' w' => S' = (ZZ t dr tx) ∧ ((0 ≤ k ∧ k < 3) ∧ w 34 8 ≠ 0 ∧ w 34 9 ≠ 0) ∧ v' = some (zI (if k = 2 then w' 34 12 else if k = 0 then w' 34 10 else w' 34 11)) ∧ (∀ c x, c ≠ 36 → c ≠ 37 → c ≠ 38 → (c ≠ 34 ∨ (x ≠ 7 ∧ x ≠ 10 ∧ x ≠ 11 ∧ x ≠ 12)) → w' c x = w c x) ∧ w' 34 7 = 1 ∧ qst fit (w 34 8) (w 34 4) (w' 34 10) (w' 34 11) (w' 34 12)) (zXp (¬ (0 ≤ k ∧ k < 3)) ((0 ≤ k ∧ k < 3) ∧ (w 34 8 = 0 ∨ w 34 9 = 0)) (ZZ t dr tx) w) := by
  refine zA_intro ⟨plainFor_of_name (by decide +kernel), Or.inl (by decide +kernel)⟩ rfl (Nat.le_of_ble_eq_true rfl) ?_
  refine zA_range (fun hr => ?_)
  show zA l mX11_next false 6 2 12 (fun v' S' w' => S' = (ZZ t dr tx) ∧ ((0 ≤ k ∧ k < 3) ∧ w 34 8 ≠ 0 ∧ w 34 9 ≠ 0) ∧ v' = some (zI (if k = 2 then w' 34 12 else if k = 0 then w' 34 10 else w' 34 11)) ∧ (∀ c x, c ≠ 36 → c ≠ 37 → c ≠ 38 → (c ≠ 34 ∨ (x ≠ 7 ∧ x ≠ 10 ∧ x ≠ 11 ∧ x ≠ 12)) → w' c x = w c x) ∧ w' 34 7 = 1 ∧ qst fit (w 34 8) (w 34 4) (w' 34 10) (w' 34 11) (w' 34 12)) (zXp (¬ (0 ≤ k ∧ k < 3)) ((0 ≤ k ∧ k < 3) ∧ (w 34 8 = 0 ∨ w 34 9 = 0)) (ZZ t dr tx) w) 0 [zR 0, zI k] [] (ZZ t dr tx) w
  refine zA_iload_n dX11_next_0 rfl ?_
  refine zA_iconst dX11_next_1 ?_
  refine zA_callS (bc2 := 1) (bs2 := 6) (st := []) dX11_next_2 sX11_askWhat kX11_165 (s_askWhat (w := w) (c := k) (n := 3) (by first | assumption | exact hr _ _ | exact inR_mk (by omega) (by omega)) ⟨by decide, by decide⟩) (by decide) rfl rfl (Nat.le_of_ble_eq_true rfl) ⟨rfl, rfl⟩ (zRa_el (fun h_2 => ?_)) (zXp_m rfl (fun h => by first | exact h.elim | omega) (fun h => by first | exact h.elim | omega))
  show zA l mX11_next false 6 1 6 (fun v' S' w' => S' = (ZZ t dr tx) ∧ ((0 ≤ k ∧ k < 3) ∧ w 34 8 ≠ 0 ∧ w 34 9 ≠ 0) ∧ v' = some (zI (if k = 2 then w' 34 12 else if k = 0 then w' 34 10 else w' 34 11)) ∧ (∀ c x, c ≠ 36 → c ≠ 37 → c ≠ 38 → (c ≠ 34 ∨ (x ≠ 7 ∧ x ≠ 10 ∧ x ≠ 11 ∧ x ≠ 12)) → w' c x = w c x) ∧ w' 34 7 = 1 ∧ qst fit (w 34 8) (w 34 4) (w' 34 10) (w' 34 11) (w' 34 12)) (zXp (¬ (0 ≤ k ∧ k < 3)) ((0 ≤ k ∧ k < 3) ∧ (w 34 8 = 0 ∨ w 34 9 = 0)) (ZZ t dr tx) w) 5 [zR 0, zI k] [] (ZZ t dr tx) w
  refine zA_aload_n dX11_next_5 rfl ?_
  refine zA_getR (n := 34) dX11_next_6 fX11_57 c0 rfl ?_
  refine zA_getI dX11_next_9 fX11_264 c34 rfl ?_
  refine zA_valI (w 34 8) rfl ?_
  refine zA_if_eq (tgt := 25) dX11_next_12 (by decide) (by first | assumption | exact hr _ _ | exact inR_mk (by omega) (by omega)) (fun c12 => ?_) (fun c12 => ?_)
  · skip
    refine zA_throw (sa := 1112) (zIAE_w dX11_next_25 dX11_next_28 ⟨dX11_next_29, dX11_next_32, dX11_next_35⟩) (List.mem_of_getElem? (i := 12) rfl) rfl rfl (Nat.le_of_ble_eq_true rfl) (by decide) ?_
    exact ⟨Or.inr ⟨rfl, by omega⟩, rfl, rfl⟩
  · skip
    obtain ⟨⟨⟨p0, p1⟩, hk, ⟨g0, g1⟩, b0, b1⟩, hl, hq⟩ := hT c12
    refine zA_aload_n dX11_next_15 rfl ?_
    refine zA_getR (n := 34) dX11_next_16 fX11_57 c0 rfl ?_
    refine zA_getI dX11_next_19 fX11_277 c34 rfl ?_
    refine zA_valI (w 34 9) rfl ?_
    refine zA_if_ne (tgt := 36) dX11_next_22 (by decide) (by first | assumption | exact hr _ _ | exact inR_mk (by omega) (by omega)) (fun c22 => ?_) (fun c22 => ?_)
    · skip
      refine zA_aload_n dX11_next_36 rfl ?_
      refine zA_getR (n := 34) dX11_next_37 fX11_57 c0 rfl ?_
      refine zA_cV (st := []) dX11_next_40 vX9_findQuestion kX11_288 (s_findQuestion (w := w) (n := w 34 4) rfl p0 p1 hk g0 g1 b0 b1 hl hq) (by decide) c34 rfl rfl (Nat.le_of_ble_eq_true rfl) rfl (fun q_1_v q_1_S q_1_w q_1 => ?_)
      obtain ⟨rfl, rfl, hqa, hqb, hqc⟩ := q_1
      refine zA_range (fun hr => ?_)
      show zA l mX11_next false 6 1 6 (fun v' S' w' => S' = (ZZ t dr tx) ∧ ((0 ≤ k ∧ k < 3) ∧ w 34 8 ≠ 0 ∧ w 34 9 ≠ 0) ∧ v' = some (zI (if k = 2 then w' 34 12 else if k = 0 then w' 34 10 else w' 34 11)) ∧ (∀ c x, c ≠ 36 → c ≠ 37 → c ≠ 38 → (c ≠ 34 ∨ (x ≠ 7 ∧ x ≠ 10 ∧ x ≠ 11 ∧ x ≠ 12)) → w' c x = w c x) ∧ w' 34 7 = 1 ∧ qst fit (w 34 8) (w 34 4) (w' 34 10) (w' 34 11) (w' 34 12)) (zXp (¬ (0 ≤ k ∧ k < 3)) ((0 ≤ k ∧ k < 3) ∧ (w 34 8 = 0 ∨ w 34 9 = 0)) (ZZ t dr tx) w) 43 [zR 0, zI k] [] (ZZ t dr tx) q_1_w
      refine zA_iload_n dX11_next_43 rfl ?_
      refine zA_iconst dX11_next_44 ?_
      refine zA_icmp_ne (tgt := 56) dX11_next_45 (by decide) (by first | assumption | exact hr _ _ | exact inR_mk (by omega) (by omega)) ⟨by decide, by decide⟩ (fun c45 => ?_) (fun c45 => ?_)
      · skip
        refine zA_iload_n dX11_next_56 rfl ?_
        refine zA_if_ne (tgt := 70) dX11_next_57 (by decide) (by first | assumption | exact hr _ _ | exact inR_mk (by omega) (by omega)) (fun c57 => ?_) (fun c57 => ?_)
        · skip
          refine zA_aload_n dX11_next_70 rfl ?_
          refine zA_getR (n := 34) dX11_next_71 fX11_57 c0 rfl ?_
          refine zA_getI dX11_next_74 fX11_297 c34 rfl ?_
          refine zA_valI (q_1_w 34 11) rfl ?_
          refine zA_iret dX11_next_77 rfl ?_
          exact ⟨rfl, ⟨by omega, c12, c22⟩, by first | rw [if_pos (show k = 2 by omega)] | rw [if_neg (show ¬ k = 2 by omega), if_pos (show k = 0 by omega)] | rw [if_neg (show ¬ k = 2 by omega), if_neg (show ¬ k = 0 by omega)], hqa, hqb, hqc⟩
        · skip
          refine zA_aload_n dX11_next_60 rfl ?_
          refine zA_getR (n := 34) dX11_next_61 fX11_57 c0 rfl ?_
          refine zA_getI dX11_next_64 fX11_294 c34 rfl ?_
          refine zA_valI (q_1_w 34 10) rfl ?_
          refine zA_goto (tgt := 77) dX11_next_67 (by decide) ?_
          refine zA_iret dX11_next_77 rfl ?_
          exact ⟨rfl, ⟨by omega, c12, c22⟩, by first | rw [if_pos (show k = 2 by omega)] | rw [if_neg (show ¬ k = 2 by omega), if_pos (show k = 0 by omega)] | rw [if_neg (show ¬ k = 2 by omega), if_neg (show ¬ k = 0 by omega)], hqa, hqb, hqc⟩
      · skip
        refine zA_aload_n dX11_next_48 rfl ?_
        refine zA_getR (n := 34) dX11_next_49 fX11_57 c0 rfl ?_
        refine zA_getI dX11_next_52 fX11_291 c34 rfl ?_
        refine zA_valI (q_1_w 34 12) rfl ?_
        refine zA_iret dX11_next_55 rfl ?_
        exact ⟨rfl, ⟨by omega, c12, c22⟩, by first | rw [if_pos (show k = 2 by omega)] | rw [if_neg (show ¬ k = 2 by omega), if_pos (show k = 0 by omega)] | rw [if_neg (show ¬ k = 2 by omega), if_neg (show ¬ k = 0 by omega)], hqa, hqb, hqc⟩
    · skip
      refine zA_throw (sa := 1112) (zIAE_w dX11_next_25 dX11_next_28 ⟨dX11_next_29, dX11_next_32, dX11_next_35⟩) (List.mem_of_getElem? (i := 12) rfl) rfl rfl (Nat.le_of_ble_eq_true rfl) (by decide) ?_
      exact ⟨Or.inr ⟨rfl, by omega⟩, rfl, rfl⟩

theorem qa_b {kd c i j n : Int} (h1 : n ≤ 14) (h : tOk kd n i j) (c0 : 0 ≤ c) (c1 : c < 16384) : 0 ≤ qa kd c i j ∧ qa kd c i j ≤ 14 := by
  unfold qa
  unfold tOk at h
  by_cases q : kd = 2
  · rw [if_pos q]; split <;> omega
  · rw [if_neg q]
    have hb := tX_b (c := c) (i := i) (j := j) c0 c1 (by omega) (by omega) (by omega)
    exact popc14 hb.1 hb.2
set_option maxRecDepth 100000 in
set_option maxHeartbeats 4000000 in
theorem m_restOf {l : Launch} {t dr tx : Nat} {w : zW} (p0 : 2 ≤ w 73 39) (p1 : w 73 39 ≤ 14) (hbo : ∀ c : Int, 0 ≤ c → w 93 c = 0 ∨ w 93 c = 1) {i j : Int} (hq : tOk (mKd w) (w 73 39) i j) (hj : inR j) : zSp l mX12_restOf false 3 0 0 [zR 73, zI i, zI j] (ZZ t dr tx) w (fun v' S' w' => v' = some (zI (qR (mF w) (mKd w) (w 73 39) i j)) ∧ S' = (ZZ t dr tx) ∧ only 94 w w') zNo := by
  refine zA_intro ⟨plainFor_of_name (by decide +kernel), Or.inl (by decide +kernel)⟩ rfl (Nat.le_of_ble_eq_true rfl) ?_
  have hpn := pow14 (m := w 73 39) (by omega) p1
  have hij : 0 ≤ i ∧ i < 14 := by unfold tOk at hq; omega
  refine zA_range (fun hr => ?_)
  show zA l mX12_restOf false 3 0 0 (fun v' S' w' => v' = some (zI (qR (mF w) (mKd w) (w 73 39) i j)) ∧ S' = (ZZ t dr tx) ∧ only 94 w w') zNo 0 [zR 73, zI i, zI j, .null, .null] [] (ZZ t dr tx) w
  refine zA_iconst dX12_restOf_0 ?_
  refine zA_istore_n (lo1 := [zR 73, zI i, zI j, zI 0, .null]) dX12_restOf_1 (by decide) rfl rfl ?_
  have L2 : ∀ (z2 : Nat) (k : Int) (w1 : zW) (k0 : 0 ≤ k) (k1 : k ≤ 15) (hf : only 94 w w1) (hz : ∀ x : Int, 0 ≤ x → x < k → w1 94 x = 0) (zm : (15 - k).toNat < z2), zA l mX12_restOf false 3 0 0 (fun v' S' w' => v' = some (zI (qR (mF w) (mKd w) (w 73 39) i j)) ∧ S' = (ZZ t dr tx) ∧ only 94 w w') zNo 2 [zR 73, zI i, zI j, zI k, .null] [] (ZZ t dr tx) w1 := by
    intro z2
    induction z2 with
    | zero => intro k w1 k0 k1 hf hz zm; exact absurd zm (Nat.not_lt_zero _)
    | succ z2 ih2 =>
      intro k w1 k0 k1 hf hz zm
      refine zA_range (fun hr => ?_)
      refine zA_iload_n dX12_restOf_2 rfl ?_
      refine zA_bipush dX12_restOf_3 rfl ?_
      refine zA_icmp_gt (tgt := 21) dX12_restOf_5 (by decide) (by first | assumption | exact hr _ _ | exact inR_mk (by omega) (by omega)) ⟨by decide, by decide⟩ (fun c5 => ?_) (fun c5 => ?_)
      · skip
        refine zA_iconst dX12_restOf_21 ?_
        refine zA_istore_n (lo1 := [zR 73, zI i, zI j, zI 0, .null]) dX12_restOf_22 (by decide) rfl rfl ?_
        have L23 : ∀ (z23 : Nat) (c : Int) (w1 : zW) (c0 : 0 ≤ c) (c1 : c ≤ ((2 ^ (w 73 39).toNat : Nat) : Int)) (hf : only 94 w w1) (ha : ∀ k : Int, 0 ≤ k → k ≤ 14 → w1 94 k = cq (mF w) c (fun x => qa (mKd w) x i j = k)) (zm : (((2 ^ (w 73 39).toNat : Nat) : Int) - c).toNat < z23), zA l mX12_restOf false 3 0 0 (fun v' S' w' => v' = some (zI (qR (mF w) (mKd w) (w 73 39) i j)) ∧ S' = (ZZ t dr tx) ∧ only 94 w w') zNo 23 [zR 73, zI i, zI j, zI c, .null] [] (ZZ t dr tx) w1 := by
          intro z23
          induction z23 with
          | zero => intro c w1 c0 c1 hf ha zm; exact absurd zm (Nat.not_lt_zero _)
          | succ z23 ih23 =>
            intro c w1 c0 c1 hf ha zm
            refine zA_range (fun hr => ?_)
            refine zA_iload_n dX12_restOf_23 rfl ?_
            refine zA_iconst dX12_restOf_24 ?_
            refine zA_aload_n dX12_restOf_25 rfl ?_
            refine zA_getI dX12_restOf_26 fX12_378 c73 rfl ?_
            refine zA_valI (w1 73 39) rfl ?_
            refine zA_ishl dX12_restOf_29 ?_
            refine zA_valI ((2 ^ (w 73 39).toNat : Nat) : Int) (by rw [hf 73 39 (by decide), iShl_1 (by omega) (by omega)]) ?_
            refine zA_icmp_ge (tgt := 64) dX12_restOf_30 (by decide) (by first | assumption | exact hr _ _ | exact inR_mk (by omega) (by omega)) (by first | assumption | exact hr _ _ | exact inR_mk (by omega) (by omega)) (fun c30 => ?_) (fun c30 => ?_)
            · skip
              refine zA_iconst dX12_restOf_64 ?_
              refine zA_istore_n (lo1 := [zR 73, zI i, zI j, zI 0, .null]) dX12_restOf_65 (by decide) rfl rfl ?_
              refine zA_iconst dX12_restOf_66 ?_
              refine zA_istore (lo1 := [zR 73, zI i, zI j, zI 0, zI 0]) dX12_restOf_67 (by decide) rfl rfl ?_
              have L69 : ∀ (z69 : Nat) (m k : Int) (k0 : 0 ≤ k) (k1 : k ≤ 15) (hm : m = wkMost (w1 94) k.toNat) (m0 : 0 ≤ m) (m1 : m ≤ 16384) (zm : (15 - k).toNat < z69), zA l mX12_restOf false 3 0 0 (fun v' S' w' => v' = some (zI (qR (mF w) (mKd w) (w 73 39) i j)) ∧ S' = (ZZ t dr tx) ∧ only 94 w w') zNo 69 [zR 73, zI i, zI j, zI m, zI k] [] (ZZ t dr tx) w1 := by
                intro z69
                induction z69 with
                | zero => intro m k k0 k1 hm m0 m1 zm; exact absurd zm (Nat.not_lt_zero _)
                | succ z69 ih69 =>
                  intro m k k0 k1 hm m0 m1 zm
                  refine zA_iload dX12_restOf_69 rfl ?_
                  refine zA_bipush dX12_restOf_71 rfl ?_
                  refine zA_icmp_gt (tgt := 94) dX12_restOf_73 (by decide) (by first | assumption | exact hr _ _ | exact inR_mk (by omega) (by omega)) ⟨by decide, by decide⟩ (fun k73 => ?_) (fun k73 => ?_)
                  · skip
                    refine zA_iload_n dX12_restOf_94 rfl ?_
                    refine zA_iret dX12_restOf_95 rfl ?_
                    have hcn : c = ((2 ^ (w 73 39).toNat : Nat) : Int) := by omega
                    rw [hcn] at ha
                    refine ⟨?_, rfl, hf⟩
                    congr 2
                    rw [hm, show k.toNat = 15 by omega]
                    exact wkMost_c 15 (fun x a b => ha x a (by omega))
                  · skip
                    have hak := ha k k0 (by omega)
                    have hck := cq_b (fit := mF w) (N := c) (P := fun x => qa (mKd w) x i j = k) (by omega)
                    refine zA_iload_n dX12_restOf_76 rfl ?_
                    refine zA_aload_n dX12_restOf_77 rfl ?_
                    refine zA_getR (n := 94) dX12_restOf_78 fX12_88 c73 rfl ?_
                    refine zA_iload dX12_restOf_81 rfl ?_
                    refine zA_iaload dX12_restOf_83 c94 (by first | assumption | omega) (by first | assumption | omega) (by decide) ?_
                    refine zA_mmax dX12_restOf_84 kmX12_375 zw_max (by first | assumption | exact hr _ _ | exact inR_mk (by omega) (by omega)) (by first | assumption | exact hr _ _ | exact inR_mk (by omega) (by omega)) (Nat.le_of_ble_eq_true rfl) ?_
                    refine zA_istore_n (lo1 := [zR 73, zI i, zI j, zI (max m (w1 94 k)), zI k]) dX12_restOf_87 (by decide) rfl rfl ?_
                    refine zA_iinc (lo1 := [zR 73, zI i, zI j, zI (max m (w1 94 k)), zI (k + 1)]) dX12_restOf_88 rfl (by decide) rfl rfl ?_
                    refine zA_goto (tgt := 69) dX12_restOf_91 (by decide) ?_
                    exact ih69 _ (k + 1) (by omega) (by omega) (by rw [zsucc k0]; simp only [wkMost]; rw [zcast k0, hm]) (by omega) (by omega) (by omega)
              exact L69 _ 0 0 (by omega) (by omega) rfl (by omega) (by omega) (Nat.lt_succ_self _)
            · skip
              refine zA_aload_n dX12_restOf_33 rfl ?_
              refine zA_getR (n := 93) dX12_restOf_34 fX12_84 c73 rfl ?_
              refine zA_iload_n dX12_restOf_37 rfl ?_
              refine zA_baload dX12_restOf_38 c93 (by first | assumption | omega) (by first | assumption | omega) (by decide) ?_
              refine zA_if_eq (tgt := 58) dX12_restOf_39 (by decide) (by first | assumption | exact hr _ _ | exact inR_mk (by omega) (by omega)) (fun c39 => ?_) (fun c39 => ?_)
              · skip
                refine zA_iinc (lo1 := [zR 73, zI i, zI j, zI (c + 1), .null]) dX12_restOf_58 rfl (by decide) rfl rfl ?_
                refine zA_goto (tgt := 23) dX12_restOf_61 (by decide) ?_
                exact ih23 (c + 1) _ (by omega) (by omega) hf (fun k a b => by
                          rw [cq_s c0, if_neg (fun h => by have h1 := h.1; unfold mF at h1; rw [decide_eq_true_iff] at h1; rw [hf 93 c (by decide)] at c39; omega), ha k a b]; simp) (by omega)
              · skip
                have hmc : mF w c = true := by unfold mF; rw [decide_eq_true_iff]; rw [hf 93 c (by decide)] at c39; have := hbo c c0; omega
                refine zA_aload_n dX12_restOf_42 rfl ?_
                refine zA_getR (n := 94) dX12_restOf_43 fX12_88 c73 rfl ?_
                refine zA_aload_n dX12_restOf_46 rfl ?_
                refine zA_iload_n dX12_restOf_47 rfl ?_
                refine zA_iload_n dX12_restOf_48 rfl ?_
                refine zA_iload_n dX12_restOf_49 rfl ?_
                refine zA_cV (st := [zR 94]) dX12_restOf_50 vX12_asked kX12_396 (m_asked (w := w1) (c := c) (i := i) (j := j) (by rw [hf 73 39 (by decide)]; exact p0) (by rw [hf 73 39 (by decide)]; exact p1) c0 (by omega) (by rw [show mKd w1 = mKd w by unfold mKd; rw [hf 73 42 (by decide)], hf 73 39 (by decide)]; exact hq) hj) (by decide) c73 rfl rfl (Nat.le_of_ble_eq_true rfl) rfl (zRt_el ?_)
                show zA l mX12_restOf false 3 0 0 (fun v' S' w' => v' = some (zI (qR (mF w) (mKd w) (w 73 39) i j)) ∧ S' = (ZZ t dr tx) ∧ only 94 w w') zNo 53 [zR 73, zI i, zI j, zI c, .null] [zI (if w1 73 42 = 0 then (if iAnd c (iShr (iShl 7 i) 1) ≠ 0 then 1 else 0) else popc (tX c i j)), zR 94] (ZZ t dr tx) w1
                refine zA_valI (qa (mKd w) c i j) (by rw [hf 73 42 (by decide)]; unfold qa mKd; by_cases q : w 73 42 = 0; rw [if_pos q, if_pos q, if_pos rfl]; rw [if_neg q, if_neg q, if_neg (by decide)]) ?_
                have hqb := qa_b (c := c) p1 hq c0 (by omega)
                have hab := ha _ hqb.1 hqb.2
                have hcb := cq_b (fit := mF w) (N := c) (P := fun x => qa (mKd w) x i j = qa (mKd w) c i j) c0
                refine zA_dup2 dX12_restOf_53 rfl rfl ?_
                refine zA_iaload dX12_restOf_54 c94 (by first | assumption | omega) (by first | assumption | omega) (by decide) ?_
                refine zA_iconst dX12_restOf_55 ?_
                refine zA_iadd dX12_restOf_56 ?_
                refine zA_iastore dX12_restOf_57 (by first | assumption | exact hr _ _ | exact inR_mk (by omega) (by omega)) c94 (by first | assumption | omega) (by first | assumption | omega) (by decide) ?_
                refine zA_namew (fun w_1 hw_1 => ?_)
                refine zA_range (fun hr => ?_)
                replace hw_1 : w_1 = up w1 94 (qa (mKd w) c i j) ((w1 94 (qa (mKd w) c i j)) + 1) := hw_1
                refine zA_iinc (lo1 := [zR 73, zI i, zI j, zI (c + 1), .null]) dX12_restOf_58 rfl (by decide) rfl rfl ?_
                refine zA_goto (tgt := 23) dX12_restOf_61 (by decide) ?_
                exact ih23 (c + 1) _ (by omega) (by omega) (by rw [hw_1]; exact only_up hf) (fun k a b => by
                          rw [cq_s c0, hw_1]
                          by_cases e : k = qa (mKd w) c i j
                          · rw [e, up_same, if_pos ⟨hmc, rfl⟩, hab]
                          · rw [up_idx _ _ _ _ e, if_neg (fun h => e h.2.symm), ha k a b]; simp) (by omega)
        exact L23 _ 0 w1 (by omega) (by omega) hf (fun k a b => by rw [hz k a (by omega)]; rfl) (Nat.lt_succ_self _)
      · skip
        refine zA_aload_n dX12_restOf_8 rfl ?_
        refine zA_getR (n := 94) dX12_restOf_9 fX12_88 c73 rfl ?_
        refine zA_iload_n dX12_restOf_12 rfl ?_
        refine zA_iconst dX12_restOf_13 ?_
        refine zA_iastore dX12_restOf_14 ⟨by decide, by decide⟩ c94 (by first | assumption | omega) (by first | assumption | omega) (by decide) ?_
        refine zA_namew (fun w_2 hw_2 => ?_)
        refine zA_range (fun hr => ?_)
        replace hw_2 : w_2 = up w1 94 k 0 := hw_2
        refine zA_iinc (lo1 := [zR 73, zI i, zI j, zI (k + 1), .null]) dX12_restOf_15 rfl (by decide) rfl rfl ?_
        refine zA_goto (tgt := 2) dX12_restOf_18 (by decide) ?_
        exact ih2 (k + 1) _ (by omega) (by omega) (by rw [hw_2]; exact only_up hf) (fun x a a2 => by
                  rw [hw_2]
                  by_cases e : x = k
                  · rw [e, up_same]
                  · rw [up_idx _ _ _ _ e]; exact hz x a (by omega)) (by omega)
  exact L2 _ 0 w (by omega) (by omega) only_rfl (fun x a b => by omega) (Nat.lt_succ_self _)

/-- the best so far, in the reference: -1 when nothing was asked -/
def bqM (R : Int → Int → Int) (V : Int → Int → Prop) (kd a b r : Int) : Prop := (a = -1 ∧ ∀ x y, ¬ V x y) ∨ (0 ≤ a ∧ ∃ y, bq R V a y r ∧ b = if kd = 2 then -1 else y)
theorem bqM_V {R : Int → Int → Int} {V V' : Int → Int → Prop} {kd a b r : Int} (h : ∀ x y, V x y ↔ V' x y) (k : bqM R V kd a b r) : bqM R V' kd a b r := by
  rcases k with k | ⟨k, y, h1, h2⟩
  · exact Or.inl ⟨k.1, fun x y q => k.2 x y ((h x y).mpr q)⟩
  · exact Or.inr ⟨k, y, bq_V h h1, h2⟩
theorem bqM_up {R : Int → Int → Int} {V V' : Int → Int → Prop} {kd a b r i j m : Int} (hs : bqM R V kd a b r) (i0 : 0 ≤ i) (hm : m = R i j) (hmx : m < 1000000000) (hV : ∀ x y, V' x y ↔ V x y ∨ (x = i ∧ y = j)) (ho : ∀ x y, V x y → x < i ∨ (x = i ∧ y < j)) : ((a = -1 ∨ m < r) → ∀ b', (b' = if kd = 2 then -1 else j) → bqM R V' kd i b' m) ∧ (¬ (a = -1 ∨ m < r) → bqM R V' kd a b r) := by
  rcases hs with ⟨ha, hv⟩ | ⟨ha, y, h1, h2⟩
  · refine ⟨fun _ b' hb => Or.inr ⟨i0, j, ?_, hb⟩, fun h => absurd (Or.inl ha) h⟩
    have h3 := (bqS_up (R := R) (V := V) (V' := V') (a := 0) (b := 0) (r := 1000000000) (i := i) (j := j) (m := m) (Or.inl ⟨rfl, hv⟩) hm hmx hV ho).1 hmx
    rcases h3 with h3 | h3
    · omega
    · exact h3
  · have h3 := bqS_up (V' := V') (Or.inr h1) hm hmx hV ho
    refine ⟨fun h b' hb => Or.inr ⟨i0, j, ?_, hb⟩, fun h => Or.inr ⟨ha, y, ?_, h2⟩⟩
    · rcases h3.1 (by omega) with h4 | h4
      · omega
      · exact h4
    · rcases h3.2 (by omega) with h4 | h4
      · exact absurd ((hV a y).mpr (Or.inl h1.1)) (h4.2 a y)
      · exact h4
set_option maxRecDepth 100000 in
set_option maxHeartbeats 4000000 in
theorem m_next {l : Launch} {t dr tx : Nat} {w : zW} {k : Int} (hki : inR k) (hp : w 73 39 = 0 ∨ (2 ≤ w 73 39 ∧ w 73 39 ≤ 14)) (hbo : ∀ c : Int, 0 ≤ c → w 93 c = 0 ∨ w 93 c = 1) : zSp l mX12_next false 5 0 0 [zR 73, zI k] (ZZ t dr tx) w (fun v' S' w' => S' = (ZZ t dr tx) ∧ ((¬ (0 ≤ k ∧ k ≤ 2) ∧ v' = some (zI 0) ∧ w' = up w 73 1 1) ∨ ((0 ≤ k ∧ k ≤ 2) ∧ (w 73 39 = 0 ∨ ixF (mF w) ((2 ^ (w 73 39).toNat : Nat) : Int) = 0) ∧ v' = some (zI 0) ∧ w' = up w 73 1 2) ∨ ((0 ≤ k ∧ k ≤ 2) ∧ ¬ (w 73 39 = 0 ∨ ixF (mF w) ((2 ^ (w 73 39).toNat : Nat) : Int) = 0) ∧ (∃ a b r, qst (mF w) (mKd w) (w 73 39) a b r ∧ v' = some (zI (if k = 0 then a else if k = 1 then b else r))) ∧ (∀ c x, c ≠ 94 → (c ≠ 73 ∨ x ≠ 1) → w' c x = w c x) ∧ w' 73 1 = 0))) zNo := by
  refine zA_intro ⟨plainFor_of_name (by decide +kernel), Or.inl (by decide +kernel)⟩ rfl (Nat.le_of_ble_eq_true rfl) ?_
  refine zA_range (fun hr => ?_)
  show zA l mX12_next false 5 0 0 (fun v' S' w' => S' = (ZZ t dr tx) ∧ ((¬ (0 ≤ k ∧ k ≤ 2) ∧ v' = some (zI 0) ∧ w' = up w 73 1 1) ∨ ((0 ≤ k ∧ k ≤ 2) ∧ (w 73 39 = 0 ∨ ixF (mF w) ((2 ^ (w 73 39).toNat : Nat) : Int) = 0) ∧ v' = some (zI 0) ∧ w' = up w 73 1 2) ∨ ((0 ≤ k ∧ k ≤ 2) ∧ ¬ (w 73 39 = 0 ∨ ixF (mF w) ((2 ^ (w 73 39).toNat : Nat) : Int) = 0) ∧ (∃ a b r, qst (mF w) (mKd w) (w 73 39) a b r ∧ v' = some (zI (if k = 0 then a else if k = 1 then b else r))) ∧ (∀ c x, c ≠ 94 → (c ≠ 73 ∨ x ≠ 1) → w' c x = w c x) ∧ w' 73 1 = 0))) zNo 0 [zR 73, zI k, .null, .null, .null, .null, .null, .null] [] (ZZ t dr tx) w
  refine zA_aload_n dX12_next_0 rfl ?_
  refine zA_iconst dX12_next_1 ?_
  refine zA_putI dX12_next_2 fX12_182 c73 rfl ⟨by decide, by decide⟩ ⟨rfl, rfl⟩ ?_
  refine zA_namew (fun w_1 hw_1 => ?_)
  refine zA_range (fun hr => ?_)
  replace hw_1 : w_1 = up w 73 1 0 := hw_1
  have ef : ∀ cc i, (cc ≠ 73 ∨ i ≠ 1) → w_1 cc i = w cc i := fun cc i h => by rw [hw_1, up_n h]
  have e1 : w_1 73 1 = 0 := by rw [hw_1, up_same]
  have f39 : w_1 73 39 = w 73 39 := ef 73 39 (Or.inr (by decide))
  have f42 : w_1 73 42 = w 73 42 := ef 73 42 (Or.inr (by decide))
  have fmF : mF w_1 = mF w := funext fun c => by unfold mF; rw [ef 93 c (Or.inl (by decide))]
  refine zA_iload_n dX12_next_5 rfl ?_
  refine zA_iconst dX12_next_6 ?_
  refine zA_iconst dX12_next_7 ?_
  refine zA_cS (st := []) dX12_next_8 sX12_isIn kX12_185 (m_isIn (w := w_1) (a := k) (b := 0) (e := 2) (by first | assumption | exact hr _ _ | exact inR_mk (by omega) (by omega)) ⟨by decide, by decide⟩ ⟨by decide, by decide⟩) (by decide) rfl rfl (Nat.le_of_ble_eq_true rfl) (zRt_el ?_)
  show zA l mX12_next false 5 0 0 (fun v' S' w' => S' = (ZZ t dr tx) ∧ ((¬ (0 ≤ k ∧ k ≤ 2) ∧ v' = some (zI 0) ∧ w' = up w 73 1 1) ∨ ((0 ≤ k ∧ k ≤ 2) ∧ (w 73 39 = 0 ∨ ixF (mF w) ((2 ^ (w 73 39).toNat : Nat) : Int) = 0) ∧ v' = some (zI 0) ∧ w' = up w 73 1 2) ∨ ((0 ≤ k ∧ k ≤ 2) ∧ ¬ (w 73 39 = 0 ∨ ixF (mF w) ((2 ^ (w 73 39).toNat : Nat) : Int) = 0) ∧ (∃ a b r, qst (mF w) (mKd w) (w 73 39) a b r ∧ v' = some (zI (if k = 0 then a else if k = 1 then b else r))) ∧ (∀ c x, c ≠ 94 → (c ≠ 73 ∨ x ≠ 1) → w' c x = w c x) ∧ w' 73 1 = 0))) zNo 11 [zR 73, zI k, .null, .null, .null, .null, .null, .null] [zI (if 0 ≤ k ∧ k ≤ 2 then 1 else 0)] (ZZ t dr tx) w_1
  refine zA_if_ne (tgt := 20) dX12_next_11 (by decide) (inR_ite _) (fun c11 => ?_) (fun c11 => ?_)
  · skip
    replace c11 := zite_ne c11
    refine zA_aload_n dX12_next_20 rfl ?_
    refine zA_getI dX12_next_21 fX12_378 c73 rfl ?_
    refine zA_valI (w_1 73 39) rfl ?_
    refine zA_if_eq (tgt := 34) dX12_next_24 (by decide) (by first | assumption | exact hr _ _ | exact inR_mk (by omega) (by omega)) (fun c24 => ?_) (fun c24 => ?_)
    · skip
      refine zA_aload_n dX12_next_34 rfl ?_
      refine zA_iconst dX12_next_35 ?_
      refine zA_cV (st := []) dX12_next_36 vX12_fail kX12_292 (m_fail (w := w_1) (k := 2) ⟨by decide, by decide⟩) (by decide) c73 rfl rfl (Nat.le_of_ble_eq_true rfl) rfl (zRt_el ?_)
      show zA l mX12_next false 5 0 0 (fun v' S' w' => S' = (ZZ t dr tx) ∧ ((¬ (0 ≤ k ∧ k ≤ 2) ∧ v' = some (zI 0) ∧ w' = up w 73 1 1) ∨ ((0 ≤ k ∧ k ≤ 2) ∧ (w 73 39 = 0 ∨ ixF (mF w) ((2 ^ (w 73 39).toNat : Nat) : Int) = 0) ∧ v' = some (zI 0) ∧ w' = up w 73 1 2) ∨ ((0 ≤ k ∧ k ≤ 2) ∧ ¬ (w 73 39 = 0 ∨ ixF (mF w) ((2 ^ (w 73 39).toNat : Nat) : Int) = 0) ∧ (∃ a b r, qst (mF w) (mKd w) (w 73 39) a b r ∧ v' = some (zI (if k = 0 then a else if k = 1 then b else r))) ∧ (∀ c x, c ≠ 94 → (c ≠ 73 ∨ x ≠ 1) → w' c x = w c x) ∧ w' 73 1 = 0))) zNo 39 [zR 73, zI k, .null, .null, .null, .null, .null, .null] [zI 0] (ZZ t dr tx) (up w_1 73 1 2)
      refine zA_iret dX12_next_39 rfl ?_
      exact ⟨rfl, Or.inr (Or.inl ⟨by omega, by omega, rfl, by rw [hw_1, up_up]⟩)⟩
    · skip
      refine zA_aload_n dX12_next_27 rfl ?_
      refine zA_cV (st := []) dX12_next_28 vX12_fitting kX12_402 (m_fitting (w := w_1) (by rw [f39]; omega) (by rw [f39]; omega) (fun c c0 => by rw [ef 93 c (Or.inl (by decide))]; exact hbo c c0)) (by decide) c73 rfl rfl (Nat.le_of_ble_eq_true rfl) rfl (zRt_el ?_)
      show zA l mX12_next false 5 0 0 (fun v' S' w' => S' = (ZZ t dr tx) ∧ ((¬ (0 ≤ k ∧ k ≤ 2) ∧ v' = some (zI 0) ∧ w' = up w 73 1 1) ∨ ((0 ≤ k ∧ k ≤ 2) ∧ (w 73 39 = 0 ∨ ixF (mF w) ((2 ^ (w 73 39).toNat : Nat) : Int) = 0) ∧ v' = some (zI 0) ∧ w' = up w 73 1 2) ∨ ((0 ≤ k ∧ k ≤ 2) ∧ ¬ (w 73 39 = 0 ∨ ixF (mF w) ((2 ^ (w 73 39).toNat : Nat) : Int) = 0) ∧ (∃ a b r, qst (mF w) (mKd w) (w 73 39) a b r ∧ v' = some (zI (if k = 0 then a else if k = 1 then b else r))) ∧ (∀ c x, c ≠ 94 → (c ≠ 73 ∨ x ≠ 1) → w' c x = w c x) ∧ w' 73 1 = 0))) zNo 31 [zR 73, zI k, .null, .null, .null, .null, .null, .null] [zI (ixF (mF w_1) ((2 ^ (w_1 73 39).toNat : Nat) : Int))] (ZZ t dr tx) w_1
      have hpn := pow14 (m := w 73 39) (by omega) (by omega)
      have hfb := ixF_b (fit := mF w) (c := ((2 ^ (w 73 39).toNat : Nat) : Int))
      have hfr : inR (ixF (mF w) ((2 ^ (w 73 39).toNat : Nat) : Int)) := inR_mk (by omega) (by omega)
      refine zA_valI (ixF (mF w) ((2 ^ (w 73 39).toNat : Nat) : Int)) (by rw [fmF, f39]) ?_
      refine zA_if_ne (tgt := 40) dX12_next_31 (by decide) (by first | assumption | exact hr _ _ | exact inR_mk (by omega) (by omega)) (fun c31 => ?_) (fun c31 => ?_)
      · skip
        refine zA_iconst dX12_next_40 ?_
        refine zA_istore_n (lo1 := [zR 73, zI k, zI (-1), .null, .null, .null, .null, .null]) dX12_next_41 (by decide) rfl rfl ?_
        refine zA_iconst dX12_next_42 ?_
        refine zA_istore_n (lo1 := [zR 73, zI k, zI (-1), zI (-1), .null, .null, .null, .null]) dX12_next_43 (by decide) rfl rfl ?_
        refine zA_iconst dX12_next_44 ?_
        refine zA_istore (lo1 := [zR 73, zI k, zI (-1), zI (-1), zI 0, .null, .null, .null]) dX12_next_45 (by decide) rfl rfl ?_
        refine zA_iconst dX12_next_47 ?_
        refine zA_istore (lo1 := [zR 73, zI k, zI (-1), zI (-1), zI 0, zI 0, .null, .null]) dX12_next_48 (by decide) rfl rfl ?_
        have hp2 : 2 ≤ w 73 39 ∧ w 73 39 ≤ 14 := by omega
        have L50 : ∀ (z50 : Nat) (a bb le i : Int) (w1 : zW) (i0 : 0 ≤ i) (i1 : i ≤ (w 73 39)) (ar : -1 ≤ a) (ar2 : a ≤ 14) (br : -1 ≤ bb) (br2 : bb ≤ 14) (lr : 0 ≤ le) (lr2 : le ≤ 16384) (hf : only 94 w_1 w1) (hs : bqM (qR (mF w) (mKd w) (w 73 39)) (fun x y => qV (mKd w) (w 73 39) x y ∧ x < i) (mKd w) a bb le) (zm : ((w 73 39) - i).toNat < z50), zA l mX12_next false 5 0 0 (fun v' S' w' => S' = (ZZ t dr tx) ∧ ((¬ (0 ≤ k ∧ k ≤ 2) ∧ v' = some (zI 0) ∧ w' = up w 73 1 1) ∨ ((0 ≤ k ∧ k ≤ 2) ∧ (w 73 39 = 0 ∨ ixF (mF w) ((2 ^ (w 73 39).toNat : Nat) : Int) = 0) ∧ v' = some (zI 0) ∧ w' = up w 73 1 2) ∨ ((0 ≤ k ∧ k ≤ 2) ∧ ¬ (w 73 39 = 0 ∨ ixF (mF w) ((2 ^ (w 73 39).toNat : Nat) : Int) = 0) ∧ (∃ a b r, qst (mF w) (mKd w) (w 73 39) a b r ∧ v' = some (zI (if k = 0 then a else if k = 1 then b else r))) ∧ (∀ c x, c ≠ 94 → (c ≠ 73 ∨ x ≠ 1) → w' c x = w c x) ∧ w' 73 1 = 0))) zNo 50 [zR 73, zI k, zI a, zI bb, zI le, zI i, .null, .null] [] (ZZ t dr tx) w1 := by
          intro z50
          induction z50 with
          | zero => intro a bb le i w1 i0 i1 ar ar2 br br2 lr lr2 hf hs zm; exact absurd zm (Nat.not_lt_zero _)
          | succ z50 ih50 =>
            intro a bb le i w1 i0 i1 ar ar2 br br2 lr lr2 hf hs zm
            refine zA_range (fun hr => ?_)
            refine zA_iload dX12_next_50 rfl ?_
            refine zA_aload_n dX12_next_52 rfl ?_
            refine zA_getI dX12_next_53 fX12_378 c73 rfl ?_
            refine zA_valI (w1 73 39) rfl ?_
            refine zA_valI (w 73 39) ((hf 73 39 (by decide)).trans f39) ?_
            refine zA_icmp_ge (tgt := 146) dX12_next_56 (by decide) (by first | assumption | exact hr _ _ | exact inR_mk (by omega) (by omega)) (by first | assumption | exact hr _ _ | exact inR_mk (by omega) (by omega)) (fun c56 => ?_) (fun c56 => ?_)
            · skip
              refine zA_iload_n dX12_next_146 rfl ?_
              refine zA_if_ne (tgt := 154) dX12_next_147 (by decide) (by first | assumption | exact hr _ _ | exact inR_mk (by omega) (by omega)) (fun c147 => ?_) (fun c147 => ?_)
              · skip
                refine zA_iload_n dX12_next_154 rfl ?_
                refine zA_iconst dX12_next_155 ?_
                refine zA_icmp_ne (tgt := 163) dX12_next_156 (by decide) (by first | assumption | exact hr _ _ | exact inR_mk (by omega) (by omega)) ⟨by decide, by decide⟩ (fun c156 => ?_) (fun c156 => ?_)
                · skip
                  refine zA_iload dX12_next_163 rfl ?_
                  refine zA_iret dX12_next_165 rfl ?_
                  have hin : i = (w 73 39) := by omega
                  have hq : qst (mF w) (mKd w) (w 73 39) a bb le := by
                    rcases hs with ⟨_, hv⟩ | ⟨_, y, h1, h2⟩
                    · exact absurd (show qV (mKd w) (w 73 39) 0 1 ∧ (0 : Int) < i by unfold qV; omega) (hv 0 1)
                    · exact ⟨y, bq_V (fun x y => by unfold qV; omega) h1, h2⟩
                  refine ⟨rfl, Or.inr (Or.inr ⟨by omega, by omega, ⟨a, bb, le, hq, ?_⟩, fun c x c1 c2 => by rw [hf c x c1]; exact ef c x c2, by rw [hf 73 1 (by decide)]; exact e1⟩)⟩
                  first
                  | rw [if_pos (show k = 0 by omega)]
                  | rw [if_neg (show ¬ k = 0 by omega), if_pos (show k = 1 by omega)]
                  | rw [if_neg (show ¬ k = 0 by omega), if_neg (show ¬ k = 1 by omega)]
                · skip
                  refine zA_iload_n dX12_next_159 rfl ?_
                  refine zA_goto (tgt := 165) dX12_next_160 (by decide) ?_
                  refine zA_iret dX12_next_165 rfl ?_
                  have hin : i = (w 73 39) := by omega
                  have hq : qst (mF w) (mKd w) (w 73 39) a bb le := by
                    rcases hs with ⟨_, hv⟩ | ⟨_, y, h1, h2⟩
                    · exact absurd (show qV (mKd w) (w 73 39) 0 1 ∧ (0 : Int) < i by unfold qV; omega) (hv 0 1)
                    · exact ⟨y, bq_V (fun x y => by unfold qV; omega) h1, h2⟩
                  refine ⟨rfl, Or.inr (Or.inr ⟨by omega, by omega, ⟨a, bb, le, hq, ?_⟩, fun c x c1 c2 => by rw [hf c x c1]; exact ef c x c2, by rw [hf 73 1 (by decide)]; exact e1⟩)⟩
                  first
                  | rw [if_pos (show k = 0 by omega)]
                  | rw [if_neg (show ¬ k = 0 by omega), if_pos (show k = 1 by omega)]
                  | rw [if_neg (show ¬ k = 0 by omega), if_neg (show ¬ k = 1 by omega)]
              · skip
                refine zA_iload_n dX12_next_150 rfl ?_
                refine zA_goto (tgt := 165) dX12_next_151 (by decide) ?_
                refine zA_iret dX12_next_165 rfl ?_
                have hin : i = (w 73 39) := by omega
                have hq : qst (mF w) (mKd w) (w 73 39) a bb le := by
                  rcases hs with ⟨_, hv⟩ | ⟨_, y, h1, h2⟩
                  · exact absurd (show qV (mKd w) (w 73 39) 0 1 ∧ (0 : Int) < i by unfold qV; omega) (hv 0 1)
                  · exact ⟨y, bq_V (fun x y => by unfold qV; omega) h1, h2⟩
                refine ⟨rfl, Or.inr (Or.inr ⟨by omega, by omega, ⟨a, bb, le, hq, ?_⟩, fun c x c1 c2 => by rw [hf c x c1]; exact ef c x c2, by rw [hf 73 1 (by decide)]; exact e1⟩)⟩
                first
                | rw [if_pos (show k = 0 by omega)]
                | rw [if_neg (show ¬ k = 0 by omega), if_pos (show k = 1 by omega)]
                | rw [if_neg (show ¬ k = 0 by omega), if_neg (show ¬ k = 1 by omega)]
            · skip
              refine zA_iload dX12_next_59 rfl ?_
              refine zA_iconst dX12_next_61 ?_
              refine zA_iadd dX12_next_62 ?_
              refine zA_istore (lo1 := [zR 73, zI k, zI a, zI bb, zI le, zI i, zI (i + 1), .null]) dX12_next_63 (by decide) rfl rfl ?_
              have L65 : ∀ (z65 : Nat) (a bb le j : Int) (w1 : zW) (j0 : i + 1 ≤ j) (j1 : j ≤ (w 73 39) + 1) (ar : -1 ≤ a) (ar2 : a ≤ 14) (br : -1 ≤ bb) (br2 : bb ≤ 14) (lr : 0 ≤ le) (lr2 : le ≤ 16384) (hf : only 94 w_1 w1) (hs2 : bqM (qR (mF w) (mKd w) (w 73 39)) (fun x y => qV (mKd w) (w 73 39) x y ∧ (x < i ∨ (x = i ∧ y < j))) (mKd w) a bb le) (zm : ((w 73 39) + 1 - j).toNat < z65), zA l mX12_next false 5 0 0 (fun v' S' w' => S' = (ZZ t dr tx) ∧ ((¬ (0 ≤ k ∧ k ≤ 2) ∧ v' = some (zI 0) ∧ w' = up w 73 1 1) ∨ ((0 ≤ k ∧ k ≤ 2) ∧ (w 73 39 = 0 ∨ ixF (mF w) ((2 ^ (w 73 39).toNat : Nat) : Int) = 0) ∧ v' = some (zI 0) ∧ w' = up w 73 1 2) ∨ ((0 ≤ k ∧ k ≤ 2) ∧ ¬ (w 73 39 = 0 ∨ ixF (mF w) ((2 ^ (w 73 39).toNat : Nat) : Int) = 0) ∧ (∃ a b r, qst (mF w) (mKd w) (w 73 39) a b r ∧ v' = some (zI (if k = 0 then a else if k = 1 then b else r))) ∧ (∀ c x, c ≠ 94 → (c ≠ 73 ∨ x ≠ 1) → w' c x = w c x) ∧ w' 73 1 = 0))) zNo 65 [zR 73, zI k, zI a, zI bb, zI le, zI i, zI j, .null] [] (ZZ t dr tx) w1 := by
                intro z65
                induction z65 with
                | zero => intro a bb le j w1 j0 j1 ar ar2 br br2 lr lr2 hf hs2 zm; exact absurd zm (Nat.not_lt_zero _)
                | succ z65 ih65 =>
                  intro a bb le j w1 j0 j1 ar ar2 br br2 lr lr2 hf hs2 zm
                  refine zA_range (fun hr => ?_)
                  have g42 : w1 73 42 = w 73 42 := (hf 73 42 (by decide)).trans f42
                  have hmF : mF w1 = mF w := by rw [← fmF]; exact funext fun c => by unfold mF; rw [hf 93 c (by decide)]
                  have hkd : mKd w1 = mKd w := by unfold mKd; rw [hf 73 42 (by decide), f42]
                  refine zA_iload dX12_next_65 rfl ?_
                  refine zA_aload_n dX12_next_67 rfl ?_
                  have L85 : ∀ (lm : Int) (hlm : lm = if mKd w = 2 then i + 1 else (w 73 39)) (lm1 : lm ≤ (w 73 39)) (lm0 : 0 ≤ lm), zA l mX12_next false 5 0 0 (fun v' S' w' => S' = (ZZ t dr tx) ∧ ((¬ (0 ≤ k ∧ k ≤ 2) ∧ v' = some (zI 0) ∧ w' = up w 73 1 1) ∨ ((0 ≤ k ∧ k ≤ 2) ∧ (w 73 39 = 0 ∨ ixF (mF w) ((2 ^ (w 73 39).toNat : Nat) : Int) = 0) ∧ v' = some (zI 0) ∧ w' = up w 73 1 2) ∨ ((0 ≤ k ∧ k ≤ 2) ∧ ¬ (w 73 39 = 0 ∨ ixF (mF w) ((2 ^ (w 73 39).toNat : Nat) : Int) = 0) ∧ (∃ a b r, qst (mF w) (mKd w) (w 73 39) a b r ∧ v' = some (zI (if k = 0 then a else if k = 1 then b else r))) ∧ (∀ c x, c ≠ 94 → (c ≠ 73 ∨ x ≠ 1) → w' c x = w c x) ∧ w' 73 1 = 0))) zNo 85 [zR 73, zI k, zI a, zI bb, zI le, zI i, zI j, .null] [zI lm, zI j] (ZZ t dr tx) w1 := by
                    intro lm hlm lm1 lm0
                    refine zA_icmp_gt (tgt := 140) dX12_next_85 (by decide) (by first | assumption | exact hr _ _ | exact inR_mk (by omega) (by omega)) (by first | assumption | exact hr _ _ | exact inR_mk (by omega) (by omega)) (fun c85 => ?_) (fun c85 => ?_)
                    · skip
                      refine zA_iinc (lo1 := [zR 73, zI k, zI a, zI bb, zI le, zI (i + 1), zI j, .null]) dX12_next_140 rfl (by decide) rfl rfl ?_
                      refine zA_goto (tgt := 50) dX12_next_143 (by decide) ?_
                      refine zA_drop 6 (lo1 := [zR 73, zI k, zI a, zI bb, zI le, zI (i + 1), .null, .null]) rfl ?_
                      exact ih50 a bb le (i + 1) w1 (by omega) (by omega) ar ar2 br br2 lr lr2 hf (bqM_V (fun x y => by
                                unfold qV; unfold mKd at hlm ⊢
                                by_cases q : w 73 42 = 0
                                · rw [if_pos q, if_pos rfl] at hlm; rw [if_pos q]; omega
                                · rw [if_neg q, if_neg (by decide)] at hlm; rw [if_neg q]; omega) hs2) (by omega)
                    · skip
                      refine zA_aload_n dX12_next_88 rfl ?_
                      refine zA_iload dX12_next_89 rfl ?_
                      refine zA_iload dX12_next_91 rfl ?_
                      refine zA_cV (st := []) dX12_next_93 vX12_restOf kX12_405 (m_restOf (w := w1) (by rw [(hf 73 39 (by decide)).trans f39]; omega) (by rw [(hf 73 39 (by decide)).trans f39]; omega) (fun c c0 => by rw [hf 93 c (by decide), ef 93 c (Or.inl (by decide))]; exact hbo c c0) (i := i) (j := j) (by rw [hkd, (hf 73 39 (by decide)).trans f39]; unfold tOk; unfold mKd at hlm ⊢; by_cases q : w 73 42 = 0; rw [if_pos q, if_pos rfl] at hlm; rw [if_pos q]; omega; rw [if_neg q, if_neg (by decide)] at hlm; rw [if_neg q]; omega) (inR_mk (by omega) (by omega))) (by decide) c73 rfl rfl (Nat.le_of_ble_eq_true rfl) rfl (fun q_2_v q_2_S q_2_w q_2 => ?_)
                      obtain ⟨rfl, rfl, hfa⟩ := q_2
                      obtain ⟨wa, hwa⟩ : ∃ wa, wa = q_2_w := ⟨_, rfl⟩
                      rw [← hwa] at hfa ⊢
                      have h42 : wa 73 42 = w 73 42 := (hfa 73 42 (by decide)).trans g42
                      refine zA_range (fun hr => ?_)
                      show zA l mX12_next false 5 0 0 (fun v' S' w' => S' = (ZZ t dr tx) ∧ ((¬ (0 ≤ k ∧ k ≤ 2) ∧ v' = some (zI 0) ∧ w' = up w 73 1 1) ∨ ((0 ≤ k ∧ k ≤ 2) ∧ (w 73 39 = 0 ∨ ixF (mF w) ((2 ^ (w 73 39).toNat : Nat) : Int) = 0) ∧ v' = some (zI 0) ∧ w' = up w 73 1 2) ∨ ((0 ≤ k ∧ k ≤ 2) ∧ ¬ (w 73 39 = 0 ∨ ixF (mF w) ((2 ^ (w 73 39).toNat : Nat) : Int) = 0) ∧ (∃ a b r, qst (mF w) (mKd w) (w 73 39) a b r ∧ v' = some (zI (if k = 0 then a else if k = 1 then b else r))) ∧ (∀ c x, c ≠ 94 → (c ≠ 73 ∨ x ≠ 1) → w' c x = w c x) ∧ w' 73 1 = 0))) zNo 96 [zR 73, zI k, zI a, zI bb, zI le, zI i, zI j, .null] [zI (qR (mF w1) (mKd w1) (w1 73 39) i j)] (ZZ t dr tx) wa
                      refine zA_valI ((qR (mF w) (mKd w) (w 73 39)) i j) (by rw [hmF, hkd, (hf 73 39 (by decide)).trans f39]) ?_
                      have hqb := qR_b (fit := mF w) (kd := mKd w) (n := w 73 39) (i := i) (j := j) (by omega) (by omega)
                      have hadd := bqM_up hs2 (i := i) (j := j) (m := (qR (mF w) (mKd w) (w 73 39)) i j) (by omega) rfl (by omega) (V' := (fun x y => qV (mKd w) (w 73 39) x y ∧ (x < i ∨ (x = i ∧ y < (j + 1))))) (fun x y => by unfold qV; unfold mKd at hlm ⊢; by_cases q : w 73 42 = 0; rw [if_pos q, if_pos rfl] at hlm; rw [if_pos q]; omega; rw [if_neg q, if_neg (by decide)] at hlm; rw [if_neg q]; omega) (fun x y q => q.2)
                      refine zA_istore (lo1 := [zR 73, zI k, zI a, zI bb, zI le, zI i, zI j, zI ((qR (mF w) (mKd w) (w 73 39)) i j)]) dX12_next_96 (by decide) rfl rfl ?_
                      have L113 : ∀  (hv : a = -1 ∨ (qR (mF w) (mKd w) (w 73 39)) i j < le), zA l mX12_next false 5 0 0 (fun v' S' w' => S' = (ZZ t dr tx) ∧ ((¬ (0 ≤ k ∧ k ≤ 2) ∧ v' = some (zI 0) ∧ w' = up w 73 1 1) ∨ ((0 ≤ k ∧ k ≤ 2) ∧ (w 73 39 = 0 ∨ ixF (mF w) ((2 ^ (w 73 39).toNat : Nat) : Int) = 0) ∧ v' = some (zI 0) ∧ w' = up w 73 1 2) ∨ ((0 ≤ k ∧ k ≤ 2) ∧ ¬ (w 73 39 = 0 ∨ ixF (mF w) ((2 ^ (w 73 39).toNat : Nat) : Int) = 0) ∧ (∃ a b r, qst (mF w) (mKd w) (w 73 39) a b r ∧ v' = some (zI (if k = 0 then a else if k = 1 then b else r))) ∧ (∀ c x, c ≠ 94 → (c ≠ 73 ∨ x ≠ 1) → w' c x = w c x) ∧ w' 73 1 = 0))) zNo 113 [zR 73, zI k, zI a, zI bb, zI le, zI i, zI j, zI ((qR (mF w) (mKd w) (w 73 39)) i j)] [] (ZZ t dr tx) wa := by
                        intro  hv
                        refine zA_iload dX12_next_113 rfl ?_
                        refine zA_istore_n (lo1 := [zR 73, zI k, zI i, zI bb, zI le, zI i, zI j, zI ((qR (mF w) (mKd w) (w 73 39)) i j)]) dX12_next_115 (by decide) rfl rfl ?_
                        have L129 : ∀ (bj : Int) (hbj : bj = if mKd w = 2 then -1 else j) (bj0 : -1 ≤ bj) (bj1 : bj ≤ 14), zA l mX12_next false 5 0 0 (fun v' S' w' => S' = (ZZ t dr tx) ∧ ((¬ (0 ≤ k ∧ k ≤ 2) ∧ v' = some (zI 0) ∧ w' = up w 73 1 1) ∨ ((0 ≤ k ∧ k ≤ 2) ∧ (w 73 39 = 0 ∨ ixF (mF w) ((2 ^ (w 73 39).toNat : Nat) : Int) = 0) ∧ v' = some (zI 0) ∧ w' = up w 73 1 2) ∨ ((0 ≤ k ∧ k ≤ 2) ∧ ¬ (w 73 39 = 0 ∨ ixF (mF w) ((2 ^ (w 73 39).toNat : Nat) : Int) = 0) ∧ (∃ a b r, qst (mF w) (mKd w) (w 73 39) a b r ∧ v' = some (zI (if k = 0 then a else if k = 1 then b else r))) ∧ (∀ c x, c ≠ 94 → (c ≠ 73 ∨ x ≠ 1) → w' c x = w c x) ∧ w' 73 1 = 0))) zNo 129 [zR 73, zI k, zI i, zI bb, zI le, zI i, zI j, zI ((qR (mF w) (mKd w) (w 73 39)) i j)] [zI bj] (ZZ t dr tx) wa := by
                          intro bj hbj bj0 bj1
                          refine zA_istore_n (lo1 := [zR 73, zI k, zI i, zI bj, zI le, zI i, zI j, zI ((qR (mF w) (mKd w) (w 73 39)) i j)]) dX12_next_129 (by decide) rfl rfl ?_
                          refine zA_iload dX12_next_130 rfl ?_
                          refine zA_istore (lo1 := [zR 73, zI k, zI i, zI bj, zI ((qR (mF w) (mKd w) (w 73 39)) i j), zI i, zI j, zI ((qR (mF w) (mKd w) (w 73 39)) i j)]) dX12_next_132 (by decide) rfl rfl ?_
                          refine zA_iinc (lo1 := [zR 73, zI k, zI i, zI bj, zI ((qR (mF w) (mKd w) (w 73 39)) i j), zI i, zI (j + 1), zI ((qR (mF w) (mKd w) (w 73 39)) i j)]) dX12_next_134 rfl (by decide) rfl rfl ?_
                          refine zA_goto (tgt := 65) dX12_next_137 (by decide) ?_
                          refine zA_drop 7 (lo1 := [zR 73, zI k, zI i, zI bj, zI ((qR (mF w) (mKd w) (w 73 39)) i j), zI i, zI (j + 1), .null]) rfl ?_
                          exact ih65 i bj _ (j + 1) wa (by omega) (by omega) (by omega) (by omega) (by omega) (by omega) (by omega) (by omega) (only_tr hf hfa) (hadd.1 hv bj hbj) (by omega)
                        refine zA_aload_n dX12_next_116 rfl ?_
                        refine zA_getI dX12_next_117 fX12_381 c73 rfl ?_
                        refine zA_valI (wa 73 42) rfl ?_
                        refine zA_if_eq (tgt := 128) dX12_next_120 (by decide) (by first | assumption | exact hr _ _ | exact inR_mk (by omega) (by omega)) (fun c120 => ?_) (fun c120 => ?_)
                        · skip
                          refine zA_iconst dX12_next_128 ?_
                          exact L129 _ (by unfold mKd; rw [if_pos (show w 73 42 = 0 by omega), if_pos rfl]) (by omega) (by omega)
                        · skip
                          refine zA_iload dX12_next_123 rfl ?_
                          refine zA_goto (tgt := 129) dX12_next_125 (by decide) ?_
                          exact L129 _ (by unfold mKd; rw [if_neg (show ¬ w 73 42 = 0 by omega), if_neg (by decide)]) (by omega) (by omega)
                      refine zA_iload_n dX12_next_98 rfl ?_
                      refine zA_iconst dX12_next_99 ?_
                      refine zA_icmp_eq (tgt := 113) dX12_next_100 (by decide) (by first | assumption | exact hr _ _ | exact inR_mk (by omega) (by omega)) ⟨by decide, by decide⟩ (fun c100 => ?_) (fun c100 => ?_)
                      · skip
                        exact L113 (by omega)
                      · skip
                        refine zA_iload dX12_next_103 rfl ?_
                        refine zA_iload dX12_next_105 rfl ?_
                        refine zA_icmp_lt (tgt := 113) dX12_next_107 (by decide) (by first | assumption | exact hr _ _ | exact inR_mk (by omega) (by omega)) (by first | assumption | exact hr _ _ | exact inR_mk (by omega) (by omega)) (fun c107 => ?_) (fun c107 => ?_)
                        · skip
                          exact L113 (by omega)
                        · skip
                          refine zA_goto (tgt := 134) dX12_next_110 (by decide) ?_
                          refine zA_iinc (lo1 := [zR 73, zI k, zI a, zI bb, zI le, zI i, zI (j + 1), zI ((qR (mF w) (mKd w) (w 73 39)) i j)]) dX12_next_134 rfl (by decide) rfl rfl ?_
                          refine zA_goto (tgt := 65) dX12_next_137 (by decide) ?_
                          refine zA_drop 7 (lo1 := [zR 73, zI k, zI a, zI bb, zI le, zI i, zI (j + 1), .null]) rfl ?_
                          exact ih65 a bb le (j + 1) wa (by omega) (by omega) ar ar2 br br2 lr lr2 (only_tr hf hfa) (hadd.2 (by omega)) (by omega)
                  refine zA_getI dX12_next_68 fX12_381 c73 rfl ?_
                  refine zA_valI (w1 73 42) rfl ?_
                  refine zA_if_eq (tgt := 81) dX12_next_71 (by decide) (by first | assumption | exact hr _ _ | exact inR_mk (by omega) (by omega)) (fun c71 => ?_) (fun c71 => ?_)
                  · skip
                    refine zA_iload dX12_next_81 rfl ?_
                    refine zA_iconst dX12_next_83 ?_
                    refine zA_iadd dX12_next_84 ?_
                    exact L85 _ (by unfold mKd; rw [if_pos (show w 73 42 = 0 by omega), if_pos rfl]) (by omega) (by omega)
                  · skip
                    refine zA_aload_n dX12_next_74 rfl ?_
                    refine zA_getI dX12_next_75 fX12_378 c73 rfl ?_
                    refine zA_valI (w1 73 39) rfl ?_
                    refine zA_valI (w 73 39) ((hf 73 39 (by decide)).trans f39) ?_
                    refine zA_goto (tgt := 85) dX12_next_78 (by decide) ?_
                    exact L85 _ (by unfold mKd; rw [if_neg (show ¬ w 73 42 = 0 by omega), if_neg (by decide)]) (by omega) (by omega)
              exact L65 _ a bb le (i + 1) w1 (by omega) (by omega) ar ar2 br br2 lr lr2 hf (bqM_V (fun x y => by unfold qV; omega) hs) (Nat.lt_succ_self _)
        exact L50 _ (-1) (-1) 0 0 w_1 (by omega) (by omega) (by omega) (by omega) (by omega) (by omega) (by omega) (by omega) only_rfl (Or.inl ⟨rfl, fun x y q => by have := q.1.1; omega⟩) (Nat.lt_succ_self _)
      · skip
        refine zA_aload_n dX12_next_34 rfl ?_
        refine zA_iconst dX12_next_35 ?_
        refine zA_cV (st := []) dX12_next_36 vX12_fail kX12_292 (m_fail (w := w_1) (k := 2) ⟨by decide, by decide⟩) (by decide) c73 rfl rfl (Nat.le_of_ble_eq_true rfl) rfl (zRt_el ?_)
        show zA l mX12_next false 5 0 0 (fun v' S' w' => S' = (ZZ t dr tx) ∧ ((¬ (0 ≤ k ∧ k ≤ 2) ∧ v' = some (zI 0) ∧ w' = up w 73 1 1) ∨ ((0 ≤ k ∧ k ≤ 2) ∧ (w 73 39 = 0 ∨ ixF (mF w) ((2 ^ (w 73 39).toNat : Nat) : Int) = 0) ∧ v' = some (zI 0) ∧ w' = up w 73 1 2) ∨ ((0 ≤ k ∧ k ≤ 2) ∧ ¬ (w 73 39 = 0 ∨ ixF (mF w) ((2 ^ (w 73 39).toNat : Nat) : Int) = 0) ∧ (∃ a b r, qst (mF w) (mKd w) (w 73 39) a b r ∧ v' = some (zI (if k = 0 then a else if k = 1 then b else r))) ∧ (∀ c x, c ≠ 94 → (c ≠ 73 ∨ x ≠ 1) → w' c x = w c x) ∧ w' 73 1 = 0))) zNo 39 [zR 73, zI k, .null, .null, .null, .null, .null, .null] [zI 0] (ZZ t dr tx) (up w_1 73 1 2)
        refine zA_iret dX12_next_39 rfl ?_
        exact ⟨rfl, Or.inr (Or.inl ⟨by omega, by omega, rfl, by rw [hw_1, up_up]⟩)⟩
  · skip
    replace c11 := zite_eq c11
    refine zA_aload_n dX12_next_14 rfl ?_
    refine zA_iconst dX12_next_15 ?_
    refine zA_cV (st := []) dX12_next_16 vX12_fail kX12_292 (m_fail (w := w_1) (k := 1) ⟨by decide, by decide⟩) (by decide) c73 rfl rfl (Nat.le_of_ble_eq_true rfl) rfl (zRt_el ?_)
    show zA l mX12_next false 5 0 0 (fun v' S' w' => S' = (ZZ t dr tx) ∧ ((¬ (0 ≤ k ∧ k ≤ 2) ∧ v' = some (zI 0) ∧ w' = up w 73 1 1) ∨ ((0 ≤ k ∧ k ≤ 2) ∧ (w 73 39 = 0 ∨ ixF (mF w) ((2 ^ (w 73 39).toNat : Nat) : Int) = 0) ∧ v' = some (zI 0) ∧ w' = up w 73 1 2) ∨ ((0 ≤ k ∧ k ≤ 2) ∧ ¬ (w 73 39 = 0 ∨ ixF (mF w) ((2 ^ (w 73 39).toNat : Nat) : Int) = 0) ∧ (∃ a b r, qst (mF w) (mKd w) (w 73 39) a b r ∧ v' = some (zI (if k = 0 then a else if k = 1 then b else r))) ∧ (∀ c x, c ≠ 94 → (c ≠ 73 ∨ x ≠ 1) → w' c x = w c x) ∧ w' 73 1 = 0))) zNo 19 [zR 73, zI k, .null, .null, .null, .null, .null, .null] [zI 0] (ZZ t dr tx) (up w_1 73 1 1)
    refine zA_iret dX12_next_19 rfl ?_
    exact ⟨rfl, Or.inl ⟨by omega, rfl, by rw [hw_1, up_up]⟩⟩

