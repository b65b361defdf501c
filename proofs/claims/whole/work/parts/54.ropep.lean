/-! ropes: needs d 0 .. d (n - 1) laid into ropes of L; f: in which rope -/
def ldS (d : Int → Int) (n : Nat) (S : Int) (f : Int → Int) (r : Int) : Int := zsum n (fun i => if tb S i = true ∧ f i = r then d i else 0)
def pkS (d : Int → Int) (L : Int) (n : Nat) (S : Int) (f : Int → Int) (b : Int) : Prop := (∀ i : Int, 0 ≤ i → i < n → tb S i = true → 0 ≤ f i ∧ f i < b) ∧ ∀ r : Int, 0 ≤ r → r < b → ldS d n S f r ≤ L
def pkA (d : Int → Int) (L : Int) (n : Nat) (b : Int) (f : Int → Int) : Prop := (∀ i : Int, 0 ≤ i → i < n → 0 ≤ f i ∧ f i < b) ∧ ∀ r : Int, 0 ≤ r → r < b → zsum n (fun i => if f i = r then d i else 0) ≤ L
def isOpt (d : Int → Int) (L : Int) (n : Nat) (v : Int) : Prop := 0 ≤ v ∧ (∃ f, pkA d L n v f) ∧ ∀ (b : Int) (f : Int → Int), 0 ≤ b → pkA d L n b f → v ≤ b
theorem isOpt_u {d : Int → Int} {L : Int} {n : Nat} {v v' : Int} (h : isOpt d L n v) (h' : isOpt d L n v') : v = v' := by
  obtain ⟨h0, ⟨f, h1⟩, h2⟩ := h
  obtain ⟨k0, ⟨g, k1⟩, k2⟩ := h'
  have := h2 v' g k0 k1
  have := k2 v f h0 h1
  omega
theorem isOpt_c {d d' : Int → Int} {L : Int} {n : Nat} {v : Int} (hd : ∀ i : Int, 0 ≤ i → i < n → d i = d' i) (h : isOpt d L n v) : isOpt d' L n v := by
  have e : ∀ (f : Int → Int) (r : Int), zsum n (fun i => if f i = r then d' i else 0) = zsum n (fun i => if f i = r then d i else 0) := fun f r => zsum_c n (fun k hk => by rw [hd k (by omega) (by omega)])
  obtain ⟨h0, ⟨f, h1⟩, h2⟩ := h
  exact ⟨h0, ⟨f, h1.1, fun r a b => by rw [e]; exact h1.2 r a b⟩, fun b g b0 hg => h2 b g b0 ⟨hg.1, fun r a c => by rw [← e]; exact hg.2 r a c⟩⟩
theorem ldS_nn {d : Int → Int} {n : Nat} {S r : Int} {f : Int → Int} (hd : ∀ i : Int, 0 ≤ i → i < n → 0 ≤ d i) : 0 ≤ ldS d n S f r := zsum_b0 n (fun k hk => by have := hd k (by omega) (by omega); split <;> omega)
/-- a need more in the set -/
theorem ldS_add {d : Int → Int} {n : Nat} {S S' i r : Int} {f g : Int → Int} (i0 : 0 ≤ i) (i1 : i < n) (hi : tb S i = true) (hi' : tb S' i = false) (hS : ∀ j : Int, 0 ≤ j → j ≠ i → tb S' j = tb S j) (hf : ∀ j : Int, j ≠ i → g j = f j) : ldS d n S g r = ldS d n S' f r + (if g i = r then d i else 0) := by
  have h := zsum_at (f := fun k : Nat => if tb S k = true ∧ g k = r then d k else 0) (g := fun k : Nat => if tb S' k = true ∧ f k = r then d k else 0) n i.toNat (by omega) (fun k hk hn => by
    show (if tb S k = true ∧ g k = r then d k else 0) = (if tb S' k = true ∧ f k = r then d k else 0)
    rw [hS k (by omega) (by omega), hf k (by omega)])
  simp only [zcast i0] at h
  rw [hi'] at h
  simp only [hi, true_and, Bool.false_eq_true, false_and, if_false] at h
  unfold ldS
  omega
/-- what is told of a set: the fewest, and with so many what the last one bears at least -/
def okD (d : Int → Int) (L : Int) (n : Nat) (S fw lb : Int) : Prop := (0 ≤ fw ∧ fw ≤ n) ∧ (0 ≤ lb ∧ lb ≤ L) ∧ (∃ f, pkS d L n S f fw ∧ (1 ≤ fw → ldS d n S f (fw - 1) = lb)) ∧ (fw = 0 → lb = L) ∧
  ∀ (b : Int) (f : Int → Int), 0 ≤ b → pkS d L n S f b → fw ≤ b ∧ (fw = b → 1 ≤ b → lb ≤ ldS d n S f (b - 1))
theorem okD_0 {d : Int → Int} {L : Int} {n : Nat} (hL : 0 ≤ L) : okD d L n 0 0 L := by
  refine ⟨⟨by omega, by omega⟩, ⟨hL, Int.le_refl _⟩, ⟨fun _ => 0, ⟨fun i a b h => (by rw [tb_0] at h; cases h), fun r a b => by omega⟩, fun h => by omega⟩, fun _ => rfl, fun b f hb _ => ⟨hb, fun h k => by omega⟩⟩
def exF (L x fw lb : Int) : Int := if lb ≤ L - x then fw else fw + 1
def exB (L x lb : Int) : Int := if lb ≤ L - x then lb + x else x
/-- the least of what the sets with one less give -/
theorem okD_step {d : Int → Int} {L : Int} {n : Nat} {S fw lb : Int} {F B : Int → Int} (hL : 0 ≤ L) (hd : ∀ i : Int, 0 ≤ i → i < n → 1 ≤ d i ∧ d i ≤ L) (T : Int → Int) (hT : ∀ i : Int, 0 ≤ i → i < n → tb S i = true → tb (T i) i = false ∧ (∀ j : Int, 0 ≤ j → j ≠ i → tb (T i) j = tb S j) ∧ okD d L n (T i) (F i) (B i))
    (hex : ∃ i : Int, (0 ≤ i ∧ i < n) ∧ tb S i = true ∧ fw = exF L (d i) (F i) (B i) ∧ lb = exB L (d i) (B i))
    (hle : ∀ i : Int, 0 ≤ i → i < n → tb S i = true → fw < exF L (d i) (F i) (B i) ∨ (fw = exF L (d i) (F i) (B i) ∧ lb ≤ exB L (d i) (B i))) : okD d L n S fw lb := by
  have hdn : ∀ i : Int, 0 ≤ i → i < n → 0 ≤ d i := fun i a b => by have := hd i a b; omega
  have low : ∀ (m : Nat) (f : Int → Int), pkS d L n S f m → fw ≤ m ∧ (fw = m → 1 ≤ (m : Int) → lb ≤ ldS d n S f (m - 1)) := by
    intro m
    induction m with
    | zero =>
      intro f hp
      exfalso
      obtain ⟨i, i0, i1, -⟩ := hex
      have := hp.1 i i0.1 i0.2 i1
      omega
    | succ m ih =>
      intro f hp
      by_cases hc : ∃ i : Int, (0 ≤ i ∧ i < n) ∧ tb S i = true ∧ f i = m
      · obtain ⟨i, i0, i1, i2⟩ := hc
        obtain ⟨t1, t2, t3⟩ := hT i i0.1 i0.2 i1
        have hadd : ∀ r, ldS d n S f r = ldS d n (T i) f r + (if f i = r then d i else 0) := fun r => ldS_add i0.1 i0.2 i1 t1 t2 (fun _ _ => rfl)
        have hp' : pkS d L n (T i) f ((m + 1 : Nat) : Int) := by
          refine ⟨fun j a b h => ?_, fun r a b => ?_⟩
          · by_cases e : j = i
            · rw [e, t1] at h; cases h
            · rw [t2 j a e] at h; exact hp.1 j a b h
          · have h1 := hp.2 r a b
            rw [hadd r] at h1
            have := hdn i i0.1 i0.2
            split at h1 <;> omega
        obtain ⟨-, -, -, -, lo⟩ := t3
        obtain ⟨l1, l2⟩ := lo _ f (by omega) hp'
        have hu := hadd m
        rw [if_pos i2] at hu
        have hun := ldS_nn (S := T i) (f := f) (r := m) hdn
        have huL := hp.2 m (by omega) (by omega)
        have h1 := hle i i0.1 i0.2 i1
        rw [show ((m + 1 : Nat) : Int) - 1 = m by omega] at l2 ⊢
        unfold exF exB at h1
        by_cases hfit : B i ≤ L - d i
        · rw [if_pos hfit, if_pos hfit] at h1
          by_cases e : F i = ((m + 1 : Nat) : Int)
          · have := l2 e (by omega)
            exact ⟨by omega, fun _ _ => by omega⟩
          · exact ⟨by omega, fun _ _ => by omega⟩
        · rw [if_neg hfit, if_neg hfit] at h1
          have e : F i ≠ ((m + 1 : Nat) : Int) := fun e => by have := l2 e (by omega); omega
          exact ⟨by omega, fun _ _ => by omega⟩
      · have hp' : pkS d L n S f m := by
          refine ⟨fun j a b h => ?_, fun r a b => hp.2 r a (by omega)⟩
          have h1 := hp.1 j a b h
          refine ⟨h1.1, ?_⟩
          have : f j ≠ m := fun e => hc ⟨j, ⟨a, b⟩, h, e⟩
          omega
        have := ih f hp'
        exact ⟨by omega, fun _ _ => by omega⟩
  obtain ⟨i, i0, i1, i2, i3⟩ := hex
  obtain ⟨t1, t2, ⟨u1, u2⟩, ⟨v1, v2⟩, ⟨f, p1, p2⟩, z0, lo⟩ := hT i i0.1 i0.2 i1
  have hdi := hd i i0.1 i0.2
  have hmax : fw ≤ n := by
    refine (low n (fun j => j) ⟨fun j a b _ => ⟨a, b⟩, fun r a b => ?_⟩).1
    have h : ldS d n S (fun j => j) r ≤ d r := by
      have h2 := zsum_at (f := fun k : Nat => if tb S k = true ∧ (k : Int) = r then d k else 0) (g := fun _ => 0) n r.toNat (by omega) (fun k hk hn => by
        show (if tb S k = true ∧ (k : Int) = r then d k else 0) = 0
        rw [if_neg (fun h => hn (by omega))])
      have h3 : zsum n (fun _ : Nat => (0 : Int)) = 0 := zsum0 n (fun _ _ => rfl)
      simp only [zcast a] at h2
      have h4 := hd r a b
      show zsum n (fun k : Nat => if tb S k = true ∧ (k : Int) = r then d k else 0) ≤ d r
      split at h2 <;> omega
    have := hd r a b
    omega
  unfold exF at i2
  unfold exB at i3
  by_cases hfit : B i ≤ L - d i
  · rw [if_pos hfit] at i2 i3
    have hF1 : 1 ≤ F i := by
      refine Classical.byContradiction (fun hn => ?_)
      have := z0 (by omega)
      omega
    refine ⟨⟨by omega, hmax⟩, ⟨by omega, by omega⟩, ⟨fun j => if j = i then F i - 1 else f j, ⟨fun j a b h => ?_, fun r a b => ?_⟩, fun _ => ?_⟩, fun h => by omega, fun b g hb hg => ?_⟩
    · show 0 ≤ (if j = i then F i - 1 else f j) ∧ (if j = i then F i - 1 else f j) < fw
      by_cases e : j = i
      · rw [if_pos e]; omega
      · rw [if_neg e]
        have := p1.1 j a b (by rw [t2 j a e]; exact h)
        omega
    · rw [ldS_add (f := f) i0.1 i0.2 i1 t1 t2 (fun j hj => if_neg hj)]
      simp only [if_true]
      have h1 := p1.2 r a (by omega)
      by_cases e : F i - 1 = r
      · rw [if_pos e, ← e, p2 hF1]; omega
      · rw [if_neg e]; omega
    · rw [ldS_add (f := f) i0.1 i0.2 i1 t1 t2 (fun j hj => if_neg hj)]
      simp only [if_true]
      rw [i2, if_pos rfl, p2 hF1]; omega
    · have := low b.toNat g (by rw [zcast hb]; exact hg)
      rw [zcast hb] at this
      exact this
  · rw [if_neg hfit] at i2 i3
    refine ⟨⟨by omega, hmax⟩, ⟨by omega, by omega⟩, ⟨fun j => if j = i then F i else f j, ⟨fun j a b h => ?_, fun r a b => ?_⟩, fun _ => ?_⟩, fun h => by omega, fun b g hb hg => ?_⟩
    · show 0 ≤ (if j = i then F i else f j) ∧ (if j = i then F i else f j) < fw
      by_cases e : j = i
      · rw [if_pos e]; omega
      · rw [if_neg e]
        have := p1.1 j a b (by rw [t2 j a e]; exact h)
        omega
    · rw [ldS_add (f := f) i0.1 i0.2 i1 t1 t2 (fun j hj => if_neg hj)]
      simp only [if_true]
      by_cases e : F i = r
      · have hz : ldS d n (T i) f r = 0 := zsum0 n (fun k hk => by
          show (if tb (T i) k = true ∧ f k = r then d k else 0) = 0
          refine if_neg (fun h => ?_)
          have := p1.1 k (by omega) (by omega) h.1
          omega)
        rw [if_pos e, hz]; omega
      · rw [if_neg e]
        have := p1.2 r a (by omega)
        omega
    · rw [ldS_add (f := f) i0.1 i0.2 i1 t1 t2 (fun j hj => if_neg hj)]
      simp only [if_true]
      have hz : ldS d n (T i) f (fw - 1) = 0 := zsum0 n (fun k hk => by
          show (if tb (T i) k = true ∧ f k = fw - 1 then d k else 0) = 0
          refine if_neg (fun h => ?_)
          have := p1.1 k (by omega) (by omega) h.1
          omega)
      rw [hz, if_pos (by omega)]; omega
    · have := low b.toNat g (by rw [zcast hb]; exact hg)
      rw [zcast hb] at this
      exact this
/-- of all needs -/
theorem okD_all {d : Int → Int} {L : Int} {n : Nat} {S fw lb : Int} (hS : ∀ i : Int, 0 ≤ i → i < n → tb S i = true) (h : okD d L n S fw lb) : isOpt d L n fw := by
  have e : ∀ (f : Int → Int) (r : Int), ldS d n S f r = zsum n (fun i => if f i = r then d i else 0) := fun f r => zsum_c n (fun k hk => by rw [hS k (by omega) (by omega)]; simp)
  obtain ⟨a1, -, ⟨f, p1, -⟩, -, lo⟩ := h
  refine ⟨a1.1, ⟨f, fun i a b => p1.1 i a b (hS i a b), fun r a b => by rw [← e]; exact p1.2 r a b⟩, fun b g hb hg => (lo b g hb ⟨fun i a c _ => hg.1 i a c, fun r a c => by rw [e]; exact hg.2 r a c⟩).1⟩
theorem or_lt {D i : Int} (d0 : 0 ≤ D) (d1 : D < 2147483648) (i0 : 0 ≤ i) (i1 : i < 31) (ht : tb D i = false) : D < iOr D (iShl 1 i) := by
  have e : iOr D (iShl 1 i) = ((D.toNat ||| 2 ^ i.toNat : Nat) : Int) := by
    have hp := pow_toNat_lt i0 i1
    rw [iShl_1 i0 i1, iOr_nn d0 d1 (Int.natCast_nonneg _) (by have := Int.ofNat_lt.mpr hp; exact this), Int.toNat_natCast]
  have h3 : D.toNat ≤ D.toNat ||| 2 ^ i.toNat := Nat.left_le_or
  have h4 : D.toNat ≠ D.toNat ||| 2 ^ i.toNat := fun q => by
    have h5 : (D.toNat ||| 2 ^ i.toNat).testBit i.toNat = true := by rw [Nat.testBit_or, Nat.testBit_two_pow_self, Bool.or_true]
    rw [← q] at h5
    unfold tb at ht
    rw [ht] at h5; cases h5
  rw [e]
  generalize D.toNat ||| 2 ^ i.toNat = z at h3 h4
  omega
abbrev clr (S i : Int) : Int := iAnd S (iXor (iShl 1 i) (-1))
theorem clr_lt {S i : Int} (s0 : 0 ≤ S) (s1 : S < 2147483648) (i0 : 0 ≤ i) (i1 : i < 31) (ht : tb S i = true) : (0 ≤ clr S i ∧ clr S i < S) ∧ tb (clr S i) i = false ∧ ∀ j : Int, 0 ≤ j → j ≠ i → tb (clr S i) j = tb S j := by
  have h := tb_clr s0 s1 i0 i1
  have h1 : tb (clr S i) i = false := by rw [h.2 i i0]; simp
  have h2 : ∀ j : Int, 0 ≤ j → j ≠ i → tb (clr S i) j = tb S j := fun j j0 hj => by rw [h.2 j j0, decide_eq_false hj]; simp
  refine ⟨⟨h.1.1, ?_⟩, h1, h2⟩
  have h3 := or_lt h.1.1 h.1.2 i0 i1 h1
  have h4 := tb_or h.1.1 h.1.2 i0 i1
  have h5 : iOr (clr S i) (iShl 1 i) = S := tb_ext h4.1.1 s0 (fun j j0 => by
    rw [h4.2 j j0]
    by_cases e : j = i
    · rw [e, decide_eq_true rfl, Bool.or_true, ht]
    · rw [decide_eq_false e, Bool.or_false, h2 j j0 e])
  have h6 : clr S i < iOr (clr S i) (iShl 1 i) := h3
  rw [h5] at h6
  exact h6
