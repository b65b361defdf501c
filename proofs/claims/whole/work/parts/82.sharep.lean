/-! letters laid even on gangs, the pure part: t: the gangs of the letters from the i-th on -/
def lfn (wt : Int → Int) : Int → List Int → (Int → Int) → (Int → Int)
  | _, [], ld => ld
  | i, x :: t, ld => lfn wt (i + 1) t (fun y => if y = x then ld y + wt i else ld y)
def mxL (ld : Int → Int) : Nat → Int
  | 0 => 0
  | k + 1 => max (mxL ld k) (ld (k : Int))
def vl (g : Int) : Nat → List Int → Prop
  | 0, t => t = []
  | _ + 1, [] => False
  | k + 1, x :: t => (0 ≤ x ∧ x < g) ∧ vl g k t
def cvn : Int → List Int → Prop
  | _, [] => True
  | u, x :: t => x ≤ u ∧ cvn (max u (x + 1)) t
def lxn : List Int → List Int → Prop
  | [], _ => False
  | _ :: _, [] => False
  | x :: t, y :: s => x < y ∨ (x = y ∧ lxn t s)
def alS (a : Int → Int) : Int → List Int → Prop
  | _, [] => True
  | i, x :: t => a i = x ∧ alS a (i + 1) t
theorem mxL_0 (ld : Int → Int) : ∀ k : Nat, 0 ≤ mxL ld k
  | 0 => Int.le_refl _
  | k + 1 => by
    have := mxL_0 ld k
    show 0 ≤ max (mxL ld k) (ld (k : Int)); omega
theorem mxL_ge (ld : Int → Int) : ∀ (k : Nat) (x : Int), 0 ≤ x → x < (k : Int) → ld x ≤ mxL ld k
  | 0, x, h0, h1 => by omega
  | k + 1, x, h0, h1 => by
    have := mxL_ge ld k x h0
    show ld x ≤ max (mxL ld k) (ld (k : Int))
    by_cases e : x = (k : Int)
    · rw [e]; omega
    · have := this (by omega); omega
theorem mxL_le {ld : Int → Int} {B : Int} (hB : 0 ≤ B) : ∀ (k : Nat), (∀ x : Int, 0 ≤ x → x < (k : Int) → ld x ≤ B) → mxL ld k ≤ B
  | 0, _ => hB
  | k + 1, h => by
    have h1 := mxL_le hB k (fun x a b => h x a (by omega))
    have h2 := h (k : Int) (by omega) (by omega)
    show max (mxL ld k) (ld (k : Int)) ≤ B; omega
theorem mxL_c {ld ld' : Int → Int} : ∀ (k : Nat), (∀ x : Int, 0 ≤ x → x < (k : Int) → ld x = ld' x) → mxL ld k = mxL ld' k
  | 0, _ => rfl
  | k + 1, h => by
    have h1 := mxL_c k (fun x a b => h x a (by omega))
    have h2 := h (k : Int) (by omega) (by omega)
    show max (mxL ld k) (ld (k : Int)) = max (mxL ld' k) (ld' (k : Int))
    rw [h1, h2]
theorem lfn_ge {wt : Int → Int} (hw : ∀ i : Int, 0 ≤ i → 0 ≤ wt i) : ∀ (t : List Int) (i : Int) (ld : Int → Int) (y : Int), 0 ≤ i → ld y ≤ lfn wt i t ld y
  | [], _, _, _, _ => Int.le_refl _
  | x :: t, i, ld, y, h => by
    have h1 := lfn_ge hw t (i + 1) (fun z => if z = x then ld z + wt i else ld z) y (by omega)
    refine Int.le_trans ?_ h1
    show ld y ≤ if y = x then ld y + wt i else ld y
    have := hw i h
    split <;> omega
theorem lfn_le {wt : Int → Int} {B : Int} (hB : 0 ≤ B) (hw : ∀ i : Int, 0 ≤ i → wt i ≤ B) : ∀ (t : List Int) (i : Int) (ld : Int → Int) (y : Int), 0 ≤ i → lfn wt i t ld y ≤ ld y + B * (t.length : Int)
  | [], _, ld, y, _ => by show ld y ≤ ld y + B * ((0 : Nat) : Int); omega
  | x :: t, i, ld, y, h => by
    have h1 := lfn_le hB hw t (i + 1) (fun z => if z = x then ld z + wt i else ld z) y (by omega)
    have h2 := hw i h
    have e : (((x :: t).length : Nat) : Int) = (t.length : Int) + 1 := by simp
    rw [e, Int.mul_add, Int.mul_one]
    refine Int.le_trans h1 ?_
    show (if y = x then ld y + wt i else ld y) + B * (t.length : Int) ≤ _
    split <;> omega
theorem lfn_c {wt : Int → Int} {g : Int} : ∀ (t : List Int) (i : Int) (ld ld' : Int → Int), (∀ y : Int, 0 ≤ y → y < g → ld y = ld' y) → ∀ y : Int, 0 ≤ y → y < g → lfn wt i t ld y = lfn wt i t ld' y
  | [], _, _, _, h, y, h0, h1 => h y h0 h1
  | x :: t, i, ld, ld', h, y, h0, h1 => lfn_c t (i + 1) _ _ (fun z z0 z1 => by
      show (if z = x then ld z + wt i else ld z) = if z = x then ld' z + wt i else ld' z
      rw [h z z0 z1]) y h0 h1
theorem lfn_wt {wt wt' : Int → Int} : ∀ (t : List Int) (i : Int) (ld : Int → Int), (∀ j : Int, i ≤ j → j < i + (t.length : Int) → wt j = wt' j) → lfn wt i t ld = lfn wt' i t ld
  | [], _, _, _ => rfl
  | x :: t, i, ld, h => by
    have e : (((x :: t).length : Nat) : Int) = (t.length : Int) + 1 := by simp
    show lfn wt (i + 1) t (fun y => if y = x then ld y + wt i else ld y) = lfn wt' (i + 1) t (fun y => if y = x then ld y + wt' i else ld y)
    rw [h i (by omega) (by omega)]
    exact lfn_wt t (i + 1) _ (fun j a b => h j (by omega) (by omega))
theorem vl_len {g : Int} : ∀ {k : Nat} {t : List Int}, vl g k t → t.length = k
  | 0, _, h => by rw [h]; rfl
  | k + 1, [], h => h.elim
  | k + 1, x :: t, h => by
    have := vl_len h.2
    show t.length + 1 = k + 1
    omega
theorem alS_u {a b : Int → Int} : ∀ {t : List Int} {i : Int}, alS a i t → alS b i t → ∀ j : Int, i ≤ j → j < i + (t.length : Int) → a j = b j
  | [], i, _, _, j, j0, j1 => by have : j < i + ((0 : Nat) : Int) := j1; omega
  | x :: t, i, h, k, j, j0, j1 => by
    have e : (((x :: t).length : Nat) : Int) = (t.length : Int) + 1 := by simp
    by_cases q : j = i
    · rw [q]; exact h.1.trans k.1.symm
    · exact alS_u h.2 k.2 j (by omega) (by omega)
theorem alS_c {a b : Int → Int} : ∀ {t : List Int} {i : Int}, (∀ j : Int, i ≤ j → j < i + (t.length : Int) → b j = a j) → alS a i t → alS b i t
  | [], _, _, _ => trivial
  | x :: t, i, h, k => by
    have e : (((x :: t).length : Nat) : Int) = (t.length : Int) + 1 := by simp
    exact ⟨(h i (by omega) (by omega)).trans k.1, alS_c (fun j j0 j1 => h j (by omega) (by omega)) k.2⟩
theorem alS_b {a : Int → Int} {g : Int} : ∀ {t : List Int} {k : Nat} {i : Int}, vl g k t → alS a i t → ∀ j : Int, i ≤ j → j < i + (k : Int) → 0 ≤ a j ∧ a j < g
  | t, 0, i, h, _, j, j0, j1 => by omega
  | [], k + 1, i, h, _, _, _, _ => h.elim
  | x :: t, k + 1, i, h, s, j, j0, j1 => by
    by_cases q : j = i
    · rw [q, s.1]; exact h.1
    · exact alS_b h.2 s.2 j (by omega) (by omega)
/-- two gangs change their names -/
def swn (a b x : Int) : Int := if x = a then b else if x = b then a else x
theorem swn_i (a b x : Int) : swn a b (swn a b x) = x := by
  unfold swn
  by_cases h1 : x = a
  · rw [if_pos h1]
    by_cases h2 : b = a
    · rw [if_pos h2, h1, h2]
    · rw [if_neg h2, if_pos rfl, h1]
  · rw [if_neg h1]
    by_cases h2 : x = b
    · rw [if_pos h2, if_pos rfl, h2]
    · rw [if_neg h2, if_neg h1, if_neg h2]
theorem swn_b {a b x g : Int} (ha : 0 ≤ a ∧ a < g) (hb : 0 ≤ b ∧ b < g) (hx : 0 ≤ x ∧ x < g) : 0 ≤ swn a b x ∧ swn a b x < g := by
  unfold swn; split
  · exact hb
  · split
    · exact ha
    · exact hx
theorem vl_sw {a b g : Int} (ha : 0 ≤ a ∧ a < g) (hb : 0 ≤ b ∧ b < g) : ∀ {k : Nat} {t : List Int}, vl g k t → vl g k (t.map (swn a b))
  | 0, _, h => by rw [show _ = [] from h]; rfl
  | k + 1, [], h => h
  | k + 1, x :: t, h => ⟨swn_b ha hb h.1, vl_sw ha hb h.2⟩
theorem lfn_sw {wt : Int → Int} {a b : Int} : ∀ (t : List Int) (i : Int) (ld : Int → Int) (y : Int), lfn wt i (t.map (swn a b)) ld (swn a b y) = lfn wt i t (fun z => ld (swn a b z)) y
  | [], _, _, _ => rfl
  | x :: t, i, ld, y => by
    show lfn wt (i + 1) (t.map (swn a b)) (fun z => if z = swn a b x then ld z + wt i else ld z) (swn a b y) = lfn wt (i + 1) t (fun z => if z = x then ld (swn a b z) + wt i else ld (swn a b z)) y
    rw [lfn_sw t (i + 1)]
    congr 1
    funext z
    show (if swn a b z = swn a b x then ld (swn a b z) + wt i else ld (swn a b z)) = _
    by_cases e : z = x
    · rw [if_pos (by rw [e]), if_pos e]
    · rw [if_neg (fun q => e (by rw [← swn_i a b z, q, swn_i])), if_neg e]
theorem mxL_sw {ld : Int → Int} {a b : Int} {g : Nat} (ha : 0 ≤ a ∧ a < (g : Int)) (hb : 0 ≤ b ∧ b < (g : Int)) : mxL (fun y => ld (swn a b y)) g = mxL ld g := by
  have h1 : mxL (fun y => ld (swn a b y)) g ≤ mxL ld g := mxL_le (mxL_0 _ _) g (fun x x0 x1 => mxL_ge ld g _ (swn_b ha hb ⟨x0, x1⟩).1 (swn_b ha hb ⟨x0, x1⟩).2)
  have h2 : mxL ld g ≤ mxL (fun y => ld (swn a b y)) g := mxL_le (mxL_0 _ _) g (fun x x0 x1 => by
    have h3 := mxL_ge (fun y => ld (swn a b y)) g (swn a b x) (swn_b ha hb ⟨x0, x1⟩).1 (swn_b ha hb ⟨x0, x1⟩).2
    have h4 : ld (swn a b (swn a b x)) ≤ mxL (fun y => ld (swn a b y)) g := h3
    rwa [swn_i] at h4)
  omega
theorem lfn_alike {wt : Int → Int} {a b : Int} {g : Nat} (ha : 0 ≤ a ∧ a < (g : Int)) (hb : 0 ≤ b ∧ b < (g : Int)) (t : List Int) (i : Int) (ld : Int → Int) (hl : ∀ y, ld (swn a b y) = ld y) : mxL (lfn wt i (t.map (swn a b)) ld) g = mxL (lfn wt i t ld) g := by
  rw [← mxL_sw (ld := lfn wt i (t.map (swn a b)) ld) ha hb]
  refine mxL_c g (fun y _ _ => ?_)
  show lfn wt i (t.map (swn a b)) ld (swn a b y) = _
  rw [lfn_sw, show (fun z => ld (swn a b z)) = ld from funext hl]
/-- what isn't told as the class tells it has one ahead of it that is as good -/
theorem cvn_ex {wt : Int → Int} {g : Nat} : ∀ (t : List Int) (k : Nat) (i u : Int) (ld : Int → Int), vl (g : Int) k t → 0 ≤ u → (∀ y : Int, u ≤ y → ld y = 0) → ¬ cvn u t → ∃ s, vl (g : Int) k s ∧ lxn s t ∧ mxL (lfn wt i s ld) g = mxL (lfn wt i t ld) g
  | [], _, _, _, _, _, _, _, hc => absurd trivial hc
  | x :: t, 0, _, _, _, h, _, _, _ => by cases h
  | x :: t, k + 1, i, u, ld, h, u0, hz, hc => by
    by_cases hx : x ≤ u
    · have hc2 : ¬ cvn (max u (x + 1)) t := fun q => hc ⟨hx, q⟩
      obtain ⟨s, s1, s2, s3⟩ := cvn_ex (wt := wt) t k (i + 1) (max u (x + 1)) (fun y => if y = x then ld y + wt i else ld y) h.2 (by omega) (fun y hy => by
        show (if y = x then ld y + wt i else ld y) = 0
        rw [if_neg (by omega)]; exact hz y (by omega)) hc2
      exact ⟨x :: s, ⟨h.1, s1⟩, Or.inr ⟨rfl, s2⟩, s3⟩
    · have hu : 0 ≤ u ∧ u < (g : Int) := by have := h.1; omega
      refine ⟨(x :: t).map (swn u x), vl_sw hu h.1 (k := k + 1) h, Or.inl ?_, lfn_alike hu h.1 (x :: t) i ld (fun y => ?_)⟩
      · show swn u x x < x
        unfold swn
        rw [if_neg (by omega), if_pos rfl]; omega
      · unfold swn
        by_cases h1 : y = u
        · rw [if_pos h1, h1, hz x (by omega), hz u (Int.le_refl _)]
        · rw [if_neg h1]
          by_cases h2 : y = x
          · rw [if_pos h2, h2, hz x (by omega), hz u (Int.le_refl _)]
          · rw [if_neg h2]
theorem lxn_asym : ∀ {t s : List Int}, lxn t s → lxn s t → False
  | [], _, h, _ => h
  | _ :: _, [], h, _ => h
  | x :: t, y :: s, h, k => by
    rcases h with h | ⟨h, h2⟩ <;> rcases k with k | ⟨k, k2⟩
    · omega
    · omega
    · omega
    · exact lxn_asym h2 k2
/-- the first one of the least -/
def fmn (V : List Int → Prop) (M : List Int → Int) (t : List Int) : Prop := V t ∧ ∀ s, V s → M t ≤ M s ∧ (M t = M s → t = s ∨ lxn t s)
theorem fmn_cv {wt : Int → Int} {g k : Nat} {t s : List Int} (h : fmn (vl (g : Int) k) (fun t => mxL (lfn wt 0 t (fun _ => 0)) g) t) (c : fmn (fun t => vl (g : Int) k t ∧ cvn 0 t) (fun t => mxL (lfn wt 0 t (fun _ => 0)) g) s) : t = s := by
  have hc : cvn 0 t := Classical.byContradiction (fun q => by
    obtain ⟨v, v1, v2, v3⟩ := cvn_ex (wt := wt) t k 0 0 (fun _ => 0) h.1 (Int.le_refl _) (fun _ _ => rfl) q
    have h1 := h.2 v v1
    rcases h1.2 v3.symm with e | e
    · rw [e] at v2; exact lxn_asym v2 v2
    · exact lxn_asym v2 e)
  have h1 := h.2 s c.1.1
  have h2 := c.2 t ⟨h.1, hc⟩
  have e : mxL (lfn wt 0 t (fun _ => 0)) g = mxL (lfn wt 0 s (fun _ => 0)) g := Int.le_antisymm h1.1 h2.1
  rcases h1.2 e with q | q
  · exact q
  · rcases h2.2 e.symm with p | p
    · exact p.symm
    · exact (lxn_asym q p).elim
/-- what has become of it: nothing (sm), or the first of the least of V (A) -/
def shO (V : List Int → Prop) (M : List Int → Int) (E : Int) (sm : Prop) (A : List Int → Prop) : Prop := (sm ∧ E ≠ -1 ∧ ∀ t, V t → E ≤ M t) ∨ ∃ t, fmn V M t ∧ A t ∧ (E = -1 ∨ M t < E)
def Vh (V : List Int → Prop) (x : Int) (t : List Int) : Prop := V t ∧ ∃ y s, t = y :: s ∧ y < x
theorem shr_0 {V : List Int → Prop} {M : List Int → Int} {E : Int} {sm : Prop} {A : List Int → Prop} (hE : E ≠ -1) (h : sm) (hV : ∀ y s, V (y :: s) → 0 ≤ y) : shO (Vh V 0) M E sm A := Or.inl ⟨h, hE, fun t ht => by
  obtain ⟨h1, y, s, rfl, h2⟩ := ht
  have := hV y s h1
  omega⟩
theorem sh_s {V V1 : List Int → Prop} {M : List Int → Int} {E E1 x : Int} {sm sm1 sm2 : Prop} {A A1 A2 : List Int → Prop} (hM : ∀ t, 0 ≤ M t) (h : shO (Vh V x) M E sm A ∨ (E = -1 ∧ sm ∧ ∀ t, ¬ Vh V x t)) (hV : ∀ s, V1 s ↔ V (x :: s)) (g : shO V1 (fun s => M (x :: s)) E1 sm1 A1)
    (e1 : sm → sm1 → sm2) (e2 : sm → E1 = E) (e3 : ∀ t, A t → E1 = M t) (e4 : ∀ t, A t → sm1 → A2 t) (e5 : ∀ s, A1 s → A2 (x :: s)) : shO (Vh V (x + 1)) M E sm2 A2 := by
  have hc : ∀ t, Vh V (x + 1) t → Vh V x t ∨ ∃ s, t = x :: s ∧ V1 s := fun t ht => by
    obtain ⟨h1, y, s, rfl, h2⟩ := ht
    by_cases q : y = x
    · rw [q] at h1 ⊢; exact Or.inr ⟨s, rfl, (hV s).mpr h1⟩
    · exact Or.inl ⟨h1, y, s, rfl, by omega⟩
  have hw : ∀ t, Vh V x t → Vh V (x + 1) t := fun t ht => by
    obtain ⟨h1, y, s, rfl, h2⟩ := ht
    exact ⟨h1, y, s, rfl, by omega⟩
  have hn : ∀ s, V1 s → Vh V (x + 1) (x :: s) := fun s hs => ⟨(hV s).mp hs, x, s, rfl, by omega⟩
  rcases h with (⟨h1, h2, h3⟩ | ⟨t, h1, h2, h3⟩) | ⟨h0, h1, h3⟩
  · rcases g with ⟨g1, g2, g3⟩ | ⟨s, g1, g2, g3⟩
    · refine Or.inl ⟨e1 h1 g1, h2, fun t ht => ?_⟩
      rcases hc t ht with q | ⟨s, rfl, q⟩
      · exact h3 t q
      · have := g3 s q
        rw [e2 h1] at this; exact this
    · rw [e2 h1] at g3
      have g4 : M (x :: s) < E := g3.resolve_left h2
      refine Or.inr ⟨x :: s, ⟨hn s g1.1, fun v hv => ?_⟩, e5 s g2, Or.inr g4⟩
      rcases hc v hv with q | ⟨v, rfl, q⟩
      · have := h3 v q
        exact ⟨by omega, fun e => by omega⟩
      · have h4 := g1.2 v q
        exact ⟨h4.1, fun e => (h4.2 e).imp (fun p => by rw [p]) (fun p => Or.inr ⟨rfl, p⟩)⟩
  · have hE := e3 t h2
    have hM0 := hM t
    rcases g with ⟨g1, g2, g3⟩ | ⟨s, g1, g2, g3⟩
    · refine Or.inr ⟨t, ⟨hw t h1.1, fun v hv => ?_⟩, e4 t h2 g1, h3⟩
      rcases hc v hv with q | ⟨v, rfl, q⟩
      · exact h1.2 v q
      · have h4 : E1 ≤ M (x :: v) := g3 v q
        refine ⟨by omega, fun e => Or.inr ?_⟩
        obtain ⟨-, y, s, rfl, h5⟩ := h1.1
        exact Or.inl h5
    · have g4 : M (x :: s) < E1 := g3.resolve_left (by omega)
      refine Or.inr ⟨x :: s, ⟨hn s g1.1, fun v hv => ?_⟩, e5 s g2, h3.imp id (fun q => by omega)⟩
      rcases hc v hv with q | ⟨v, rfl, q⟩
      · have h4 := h1.2 v q
        exact ⟨by omega, fun e => by omega⟩
      · have h4 := g1.2 v q
        exact ⟨h4.1, fun e => (h4.2 e).imp (fun p => by rw [p]) (fun p => Or.inr ⟨rfl, p⟩)⟩
  · rcases g with ⟨g1, g2, g3⟩ | ⟨s, g1, g2, g3⟩
    · exact absurd ((e2 h1).trans h0) g2
    · refine Or.inr ⟨x :: s, ⟨hn s g1.1, fun v hv => ?_⟩, e5 s g2, Or.inl h0⟩
      rcases hc v hv with q | ⟨v, rfl, q⟩
      · exact absurd q (h3 v)
      · have h4 := g1.2 v q
        exact ⟨h4.1, fun e => (h4.2 e).imp (fun p => by rw [p]) (fun p => Or.inr ⟨rfl, p⟩)⟩
theorem sh_V {V V' : List Int → Prop} {M M' : List Int → Int} {E : Int} {sm sm' : Prop} {A A' : List Int → Prop} (h : shO V M E sm A) (hV : ∀ t, V t ↔ V' t) (hM : ∀ t, V t → M t = M' t) (hs : sm → sm') (hA : ∀ t, V t → A t → A' t) : shO V' M' E sm' A' := by
  rcases h with ⟨h1, h2, h3⟩ | ⟨t, h1, h2, h3⟩
  · exact Or.inl ⟨hs h1, h2, fun t ht => by rw [← hM t ((hV t).mpr ht)]; exact h3 t ((hV t).mpr ht)⟩
  · refine Or.inr ⟨t, ⟨(hV t).mp h1.1, fun s hs => ?_⟩, hA t h1.1 h2, by rw [← hM t h1.1]; exact h3⟩
    rw [← hM t h1.1, ← hM s ((hV s).mpr hs)]
    exact h1.2 s ((hV s).mpr hs)
