/-! the best order: pure. p: the chimneys that are left, L: the last one (-1 none) -/
def mnF (p : Int → Bool) (f : Int → Int) : Nat → Int
  | 0 => 1000000000
  | k + 1 => if p k = true then min (mnF p f k) (f k) else mnF p f k
theorem mnF_c {p p' : Int → Bool} {f f' : Int → Int} (n : Nat) (hp : ∀ c : Int, 0 ≤ c → c < n → p c = p' c) (hf : ∀ c : Int, 0 ≤ c → c < n → p c = true → f c = f' c) : mnF p f n = mnF p' f' n := by
  induction n with
  | zero => rfl
  | succ n ih =>
    have i := ih (fun c a b => hp c a (by omega)) (fun c a b => hf c a (by omega))
    have e := hp n (by omega) (by omega)
    simp only [mnF]
    rw [i, ← e]
    by_cases h : p n = true
    · rw [if_pos h, if_pos h, hf n (by omega) (by omega) h]
    · rw [if_neg h, if_neg h]
theorem mnF_le {p : Int → Bool} {f : Int → Int} (n : Nat) : mnF p f n ≤ 1000000000 ∧ ∀ c : Int, 0 ≤ c → c < n → p c = true → mnF p f n ≤ f c := by
  induction n with
  | zero => exact ⟨Int.le_refl _, fun c a b => by omega⟩
  | succ n ih =>
    simp only [mnF]
    by_cases h : p n = true
    · rw [if_pos h]
      refine ⟨by omega, fun c a b hc => ?_⟩
      by_cases e : c = n
      · rw [e]; omega
      · have := ih.2 c a (by omega) hc; omega
    · rw [if_neg h]
      refine ⟨ih.1, fun c a b hc => ?_⟩
      by_cases e : c = n
      · rw [e] at hc; exact absurd hc h
      · exact ih.2 c a (by omega) hc
theorem mnF_at {p : Int → Bool} {f : Int → Int} (n : Nat) : mnF p f n = 1000000000 ∨ ∃ c : Int, (0 ≤ c ∧ c < n) ∧ p c = true ∧ mnF p f n = f c := by
  induction n with
  | zero => exact Or.inl rfl
  | succ n ih =>
    simp only [mnF]
    by_cases h : p n = true
    · rw [if_pos h]
      by_cases g : mnF p f n ≤ f n
      · rw [Int.min_eq_left g]
        rcases ih with ih | ⟨c, a, b, e⟩
        · exact Or.inl ih
        · exact Or.inr ⟨c, by omega, b, e⟩
      · rw [Int.min_eq_right (by omega)]
        exact Or.inr ⟨n, by omega, h, rfl⟩
    · rw [if_neg h]
      rcases ih with ih | ⟨c, a, b, e⟩
      · exact Or.inl ih
      · exact Or.inr ⟨c, by omega, b, e⟩
def fsq (q : Int → Bool) : Nat → Int
  | 0 => -1
  | k + 1 => if fsq q k = -1 then (if q k = true then (k : Int) else -1) else fsq q k
theorem fsq_s (q : Int → Bool) (n : Nat) : (fsq q n = -1 ∧ ∀ c : Int, 0 ≤ c → c < n → q c = false) ∨ ((0 ≤ fsq q n ∧ fsq q n < n) ∧ q (fsq q n) = true ∧ ∀ c : Int, 0 ≤ c → c < fsq q n → q c = false) := by
  induction n with
  | zero => exact Or.inl ⟨rfl, fun c a b => by omega⟩
  | succ n ih =>
    simp only [fsq]
    rcases ih with ⟨h1, h2⟩ | ⟨h1, h2, h3⟩
    · rw [if_pos h1]
      by_cases g : q n = true
      · rw [if_pos g]
        exact Or.inr ⟨by omega, g, fun c a b => h2 c a b⟩
      · rw [if_neg g]
        refine Or.inl ⟨rfl, fun c a b => ?_⟩
        by_cases e : c = n
        · rw [e]; simpa using g
        · exact h2 c a (by omega)
    · rw [if_neg (by omega)]
      exact Or.inr ⟨by omega, h2, h3⟩
theorem fsq_u {q : Int → Bool} {n : Nat} {c : Int} (h0 : 0 ≤ c) (h1 : c < n) (h2 : q c = true) (h3 : ∀ j : Int, 0 ≤ j → j < c → q j = false) : fsq q n = c := by
  rcases fsq_s q n with ⟨a, b⟩ | ⟨a, b, e⟩
  · rw [b c h0 h1] at h2; cases h2
  · rcases Int.lt_trichotomy (fsq q n) c with g | g | g
    · rw [h3 _ a.1 g] at b; cases b
    · exact g
    · rw [e c h0 g] at h2; cases h2
section ORD
variable (rk wk : Int → Int) (tr : Int → Int → Int)
def oR (p : Int → Bool) : Int := zsum 12 (fun c => if p c = true then rk c else 0)
def oWay (L c : Int) : Int := if L = -1 then 0 else tr L c
def rmv (p : Int → Bool) (c : Int) : Int → Bool := fun x => p x && !decide (x = c)
def oC : Nat → (Int → Bool) → Int → Int
  | 0, _, _ => 0
  | n + 1, p, L => mnF p (fun c => (oWay tr L c + wk c) * oR rk p + oC n (rmv p c) c) 12
def oF (n : Nat) (p : Int → Bool) (L c : Int) : Int := (oWay tr L c + wk c) * oR rk p + oC rk wk tr n (rmv p c) c
def oNx (n : Nat) (p : Int → Bool) (L : Int) : Int := fsq (fun c => p c && decide (oF rk wk tr n p L c = oC rk wk tr (n + 1) p L)) 12
def orow : Nat → (Int → Bool) → Int → Int → Int
  | 0, _, _, _ => 0
  | n + 1, p, L, i => if i = 0 then oNx rk wk tr n p L else orow n (rmv p (oNx rk wk tr n p L)) (oNx rk wk tr n p L) (i - 1)
def popN (p : Int → Bool) : Int := zsum 12 (fun c => if p c = true then 1 else 0)
def okO : Prop := (∀ c : Int, 0 ≤ c → c < 12 → (0 ≤ rk c ∧ rk c ≤ 999) ∧ (1 ≤ wk c ∧ wk c ≤ 99)) ∧ ∀ a b : Int, 0 ≤ a → a < 12 → 0 ≤ b → b < 12 → 0 ≤ tr a b ∧ tr a b ≤ 9
end ORD
abbrev agP (p p' : Int → Bool) : Prop := ∀ c : Int, 0 ≤ c → c < 12 → p c = p' c
theorem agP_rmv {p p' : Int → Bool} (h : agP p p') (c : Int) : agP (rmv p c) (rmv p' c) := fun x a b => by unfold rmv; rw [h x a b]
theorem oR_c {rk : Int → Int} {p p' : Int → Bool} (h : agP p p') : oR rk p = oR rk p' := zsum_c 12 (fun k hk => by rw [h k (by omega) (by omega)])
theorem popN_c {p p' : Int → Bool} (h : agP p p') : popN p = popN p' := zsum_c 12 (fun k hk => by rw [h k (by omega) (by omega)])
theorem oC_s {rk wk : Int → Int} {tr : Int → Int → Int} {n : Nat} {p : Int → Bool} {L : Int} : oC rk wk tr (n + 1) p L = mnF p (oF rk wk tr n p L) 12 := rfl
theorem oC_c {rk wk : Int → Int} {tr : Int → Int → Int} : ∀ (n : Nat) (p p' : Int → Bool) (L : Int), agP p p' → oC rk wk tr n p L = oC rk wk tr n p' L := by
  intro n
  induction n with
  | zero => intro p p' L _; rfl
  | succ n ih =>
    intro p p' L h
    simp only [oC]
    rw [oR_c h]
    exact mnF_c 12 (fun c a b => h c a b) (fun c a b _ => by rw [ih _ _ c (agP_rmv h c)])
theorem oF_c {rk wk : Int → Int} {tr : Int → Int → Int} {n : Nat} {p p' : Int → Bool} {L c : Int} (h : agP p p') : oF rk wk tr n p L c = oF rk wk tr n p' L c := by
  unfold oF
  rw [oR_c h, oC_c n _ _ c (agP_rmv h c)]
theorem fsq_c {q q' : Int → Bool} (n : Nat) (h : ∀ c : Int, 0 ≤ c → c < n → q c = q' c) : fsq q n = fsq q' n := by
  induction n with
  | zero => rfl
  | succ n ih => simp only [fsq]; rw [ih (fun c a b => h c a (by omega)), h n (by omega) (by omega)]
theorem oNx_c {rk wk : Int → Int} {tr : Int → Int → Int} {n : Nat} {p p' : Int → Bool} {L : Int} (h : agP p p') : oNx rk wk tr n p L = oNx rk wk tr n p' L := fsq_c 12 (fun c a b => by rw [h c a b, oF_c h, oC_c _ _ _ L h])
theorem orow_c {rk wk : Int → Int} {tr : Int → Int → Int} : ∀ (n : Nat) (p p' : Int → Bool) (L i : Int), agP p p' → orow rk wk tr n p L i = orow rk wk tr n p' L i := by
  intro n
  induction n with
  | zero => intro p p' L i _; rfl
  | succ n ih =>
    intro p p' L i h
    simp only [orow]
    rw [oNx_c h]
    split
    · rfl
    · exact ih _ _ _ _ (agP_rmv h _)
theorem zsum_at {f g : Nat → Int} (n j : Nat) (hj : j < n) (h : ∀ k, k < n → k ≠ j → f k = g k) : zsum n f - f j = zsum n g - g j := by
  induction n with
  | zero => omega
  | succ n ih =>
    simp only [zsum]
    by_cases e : j = n
    · subst e
      have := zsum_c (f := f) (g := g) j (fun k hk => h k (by omega) (by omega))
      omega
    · have := ih (by omega) (fun k hk => h k (by omega))
      have := h n (by omega) (fun q => e q.symm)
      omega
theorem rmv_at {p : Int → Bool} {c : Int} (f : Int → Int) (h0 : 0 ≤ c) (h1 : c < 12) (hp : p c = true) : zsum 12 (fun x => if p x = true then f x else 0) = f c + zsum 12 (fun x => if rmv p c x = true then f x else 0) := by
  have h := zsum_at (f := fun x : Nat => if p x = true then f x else 0) (g := fun x : Nat => if rmv p c x = true then f x else 0) 12 c.toNat (by omega) (fun k hk hn => by
    show (if p k = true then f k else 0) = (if rmv p c k = true then f k else 0)
    have : rmv p c k = p k := by unfold rmv; rw [decide_eq_false (show ¬ (k : Int) = c by omega)]; simp
    rw [this])
  simp only [zcast h0] at h
  have e1 : rmv p c c = false := by unfold rmv; simp
  rw [if_pos hp, e1] at h
  simp only [Bool.false_eq_true, if_false] at h
  omega
theorem oR_rmv {rk : Int → Int} {p : Int → Bool} {c : Int} (h0 : 0 ≤ c) (h1 : c < 12) (hp : p c = true) : oR rk p = rk c + oR rk (rmv p c) := rmv_at rk h0 h1 hp
theorem popN_rmv {p : Int → Bool} {c : Int} (h0 : 0 ≤ c) (h1 : c < 12) (hp : p c = true) : popN p = 1 + popN (rmv p c) := rmv_at (fun _ => 1) h0 h1 hp
theorem popN_0 {p : Int → Bool} (h : popN p = 0) (c : Int) (h0 : 0 ≤ c) (h1 : c < 12) : p c = false := by
  cases e : p c with
  | false => rfl
  | true =>
    have a := popN_rmv h0 h1 e
    have b : 0 ≤ popN (rmv p c) := zsum_b0 12 (fun k _ => by split <;> omega)
    omega
theorem popN_1 {p : Int → Bool} (h : 0 < popN p) : ∃ c : Int, (0 ≤ c ∧ c < 12) ∧ p c = true := by
  refine Classical.byContradiction (fun hn => ?_)
  have : popN p = 0 := zsum0 12 (fun k hk => by
    cases e : p k with
    | false => rfl
    | true => exact absurd ⟨(k : Int), ⟨by omega, by omega⟩, e⟩ hn)
  omega
theorem oR_b {rk wk : Int → Int} {tr : Int → Int → Int} (hk : okO rk wk tr) (p : Int → Bool) : 0 ≤ oR rk p ∧ oR rk p ≤ 11988 := by
  have := zsum_b (f := fun c : Nat => if p c = true then rk c else 0) (B := 999) 12 (fun k h => by
    have := (hk.1 k (by omega) (by omega)).1
    split <;> omega)
  unfold oR
  omega
theorem oWay_b {rk wk : Int → Int} {tr : Int → Int → Int} (hk : okO rk wk tr) {L c : Int} (hL : L = -1 ∨ (0 ≤ L ∧ L < 12)) (h0 : 0 ≤ c) (h1 : c < 12) : 0 ≤ oWay tr L c ∧ oWay tr L c ≤ 9 := by
  unfold oWay
  split
  · omega
  · exact hk.2 L c (by omega) (by omega) h0 h1
theorem oC_b {rk wk : Int → Int} {tr : Int → Int → Int} (hk : okO rk wk tr) : ∀ (n : Nat) (p : Int → Bool) (L : Int), n ≤ 12 → popN p = n → (L = -1 ∨ (0 ≤ L ∧ L < 12)) → 0 ≤ oC rk wk tr n p L ∧ oC rk wk tr n p L ≤ n * 1294704 := by
  intro n
  induction n with
  | zero => intro p L _ _ _; simp [oC]
  | succ n ih =>
    intro p L hn hp hL
    have hF : ∀ c : Int, 0 ≤ c → c < 12 → p c = true → 0 ≤ oF rk wk tr n p L c ∧ oF rk wk tr n p L c ≤ ((n + 1 : Nat) : Int) * 1294704 := by
      intro c a b hc
      have h1 := popN_rmv a b hc
      have h2 := ih (rmv p c) c (by omega) (by omega) (Or.inr ⟨a, b⟩)
      have h3 := oR_b hk p
      have h4 := oWay_b hk hL a b
      have h5 := (hk.1 c a b).2
      have h6 := zmulB (x := oWay tr L c + wk c) (y := oR rk p) (A := 108) (B := 11988) (by omega) (by omega) h3.1 h3.2
      unfold oF
      omega
    rw [oC_s]
    obtain ⟨c, ⟨a, b⟩, hc⟩ := popN_1 (p := p) (by omega)
    have h1 := (mnF_le (p := p) (f := oF rk wk tr n p L) 12).2 c a b hc
    have h2 := hF c a b hc
    refine ⟨?_, by omega⟩
    rcases mnF_at (p := p) (f := oF rk wk tr n p L) 12 with h | ⟨c', ⟨a', b'⟩, hc', e⟩
    · omega
    · rw [e]; exact (hF c' a' b' hc').1
theorem oF_b {rk wk : Int → Int} {tr : Int → Int → Int} (hk : okO rk wk tr) {n : Nat} {p : Int → Bool} {L c : Int} (hn : n < 12) (hp : popN p = n + 1) (hL : L = -1 ∨ (0 ≤ L ∧ L < 12)) (a : 0 ≤ c) (b : c < 12) (hc : p c = true) : 0 ≤ oF rk wk tr n p L c ∧ oF rk wk tr n p L c ≤ 15536448 := by
  have h1 := popN_rmv a b hc
  have h2 := oC_b hk n (rmv p c) c (by omega) (by omega) (Or.inr ⟨a, b⟩)
  have h3 := oR_b hk p
  have h4 := oWay_b hk hL a b
  have h5 := (hk.1 c a b).2
  have h6 := zmulB (x := oWay tr L c + wk c) (y := oR rk p) (A := 108) (B := 11988) (by omega) (by omega) h3.1 h3.2
  unfold oF
  omega
/-- the first of the least is the next one -/
theorem oNx_u {rk wk : Int → Int} {tr : Int → Int → Int} (hk : okO rk wk tr) {n : Nat} {p : Int → Bool} {L c : Int} (hn : n < 12) (hp : popN p = n + 1) (hL : L = -1 ∨ (0 ≤ L ∧ L < 12)) (a : 0 ≤ c) (b : c < 12) (hc : p c = true) (h1 : ∀ j : Int, 0 ≤ j → j < c → p j = true → oF rk wk tr n p L c < oF rk wk tr n p L j) (h2 : ∀ j : Int, c < j → j < 12 → p j = true → oF rk wk tr n p L c ≤ oF rk wk tr n p L j) : oC rk wk tr (n + 1) p L = oF rk wk tr n p L c ∧ oNx rk wk tr n p L = c := by
  have hb := oF_b hk hn hp hL a b hc
  have e : oC rk wk tr (n + 1) p L = oF rk wk tr n p L c := by
    rw [oC_s]
    have g1 := (mnF_le (p := p) (f := oF rk wk tr n p L) 12).2 c a b hc
    rcases mnF_at (p := p) (f := oF rk wk tr n p L) 12 with h | ⟨c', ⟨a', b'⟩, hc', e⟩
    · omega
    · rcases Int.lt_trichotomy c' c with g | g | g
      · have := h1 c' a' g hc'; omega
      · rw [g] at e; exact e
      · have := h2 c' g b' hc'; omega
  refine ⟨e, ?_⟩
  unfold oNx
  refine fsq_u a b (by rw [e]; simp [hc]) (fun j j0 j1 => ?_)
  rw [e]
  cases hj : p j with
  | false => rfl
  | true =>
    have := h1 j j0 j1 hj
    simp only [Bool.true_and, decide_eq_false_iff_not]
    omega
/-- and there is one -/
theorem oNx_e {rk wk : Int → Int} {tr : Int → Int → Int} (hk : okO rk wk tr) {n : Nat} {p : Int → Bool} {L : Int} (hn : n < 12) (hp : popN p = n + 1) (hL : L = -1 ∨ (0 ≤ L ∧ L < 12)) : (0 ≤ oNx rk wk tr n p L ∧ oNx rk wk tr n p L < 12) ∧ p (oNx rk wk tr n p L) = true ∧ oF rk wk tr n p L (oNx rk wk tr n p L) = oC rk wk tr (n + 1) p L := by
  have hs := fsq_s (fun c => p c && decide (oF rk wk tr n p L c = oC rk wk tr (n + 1) p L)) 12
  rcases hs with ⟨h1, h2⟩ | ⟨h1, h2, h3⟩
  · exfalso
    obtain ⟨c, ⟨a, b⟩, hc⟩ := popN_1 (p := p) (by omega)
    have hb := oF_b hk hn hp hL a b hc
    have g1 := (mnF_le (p := p) (f := oF rk wk tr n p L) 12).2 c a b hc
    rcases mnF_at (p := p) (f := oF rk wk tr n p L) 12 with h | ⟨c', ⟨a', b'⟩, hc', e⟩
    · omega
    · have h4 := h2 c' a' b'
      rw [oC_s, e] at h4
      simp [hc'] at h4
  · rw [Bool.and_eq_true, decide_eq_true_iff] at h2
    exact ⟨h1, h2.1, h2.2⟩
