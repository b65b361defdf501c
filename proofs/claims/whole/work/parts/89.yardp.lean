/-! the text, the pure part: what is told, on both sides -/
def neP (Y : zW) (c d : Int) : Prop := ∃ k : Int, (0 ≤ k ∧ k < Y 0 3) ∧ Y 5 (3 * k) = c ∧ Y 5 (3 * k + 1) ≤ d ∧ d ≤ Y 5 (3 * k + 2)
def yC (w : zW) (y : Nat) (Y : zW) : Prop := (w y 5 = Y 0 0 ∧ w y 7 = Y 0 1 ∧ w y 6 = Y 0 2 ∧ w y 8 = Y 0 3) ∧ (∀ c : Int, 0 ≤ c → c < Y 0 0 → w (y + 1) c = Y 1 c) ∧ (∀ d : Int, 0 ≤ d → d < 30 → w (y + 3) d = Y 2 d) ∧ (∀ i : Int, 0 ≤ i → i < 6 * Y 0 1 → w (y + 4) i = Y 3 i) ∧
  (∀ a c : Int, (0 ≤ a ∧ a < 12) → (0 ≤ c ∧ c < 12) → a ≠ c → w (y + 2) (a * 12 + c) = Y 4 (12 * a + c)) ∧ (∀ i : Int, 0 ≤ i → i < 144 → 0 ≤ w (y + 2) i ∧ w (y + 2) i ≤ 9) ∧
  ∀ c : Int, 0 ≤ c → c < 12 → (0 ≤ w (y + 5) c ∧ w (y + 5) c < 1073741824) ∧ ∀ d : Int, 0 ≤ d → d < 30 → (tb (w (y + 5) c) d = true ↔ neP Y c d)
def mC (w : zW) (Y : zW) : Prop := (w 75 1 = Y 0 0 ∧ w 76 1 = Y 0 1 ∧ w 77 1 = Y 0 2 ∧ w 78 1 = Y 0 3) ∧ (∀ c : Int, 0 ≤ c → c < Y 0 0 → w 79 (12 + c) = Y 1 c) ∧ (∀ d : Int, 0 ≤ d → d < 30 → w 80 (30 + d) = Y 2 d) ∧ (∀ i : Int, 0 ≤ i → i < 6 * Y 0 1 → w 81 (48 + i) = Y 3 i) ∧ (∀ i : Int, 0 ≤ i → i < 144 → w 82 (144 + i) = Y 4 i) ∧ ∀ i : Int, 0 ≤ i → i < 3 * Y 0 3 → w 83 (36 + i) = Y 5 i
def okY (Y : zW) : Prop := (0 ≤ Y 0 0 ∧ Y 0 0 ≤ 12) ∧ (0 ≤ Y 0 1 ∧ Y 0 1 ≤ 8) ∧ (0 ≤ Y 0 2 ∧ Y 0 2 ≤ 30) ∧ (0 ≤ Y 0 3 ∧ Y 0 3 ≤ 12) ∧ (∀ c : Int, 0 ≤ c → c < Y 0 0 → 1 ≤ Y 1 c ∧ Y 1 c ≤ 200) ∧ (∀ d : Int, 0 ≤ d → d < 30 → 0 ≤ Y 2 d ∧ Y 2 d ≤ 13) ∧
  (∀ l : Int, 0 ≤ l → l < Y 0 1 → (0 ≤ Y 3 (6 * l) ∧ Y 3 (6 * l) < Y 0 0) ∧ (1 ≤ Y 3 (6 * l + 1) ∧ Y 3 (6 * l + 1) ≤ 9) ∧ (0 ≤ Y 3 (6 * l + 2) ∧ Y 3 (6 * l + 2) ≤ 12) ∧ (0 ≤ Y 3 (6 * l + 3) ∧ Y 3 (6 * l + 3) ≤ Y 3 (6 * l + 4)) ∧ Y 3 (6 * l + 4) ≤ 29 ∧ (0 ≤ Y 3 (6 * l + 5) ∧ Y 3 (6 * l + 5) ≤ 9999)) ∧
  (∀ i : Int, 0 ≤ i → i < 144 → 0 ≤ Y 4 i ∧ Y 4 i ≤ 9) ∧ (∀ a : Int, 0 ≤ a → a < 12 → Y 4 (12 * a + a) = 0) ∧ ∀ k : Int, 0 ≤ k → k < Y 0 3 → (0 ≤ Y 5 (3 * k) ∧ Y 5 (3 * k) < Y 0 0) ∧ (0 ≤ Y 5 (3 * k + 1) ∧ Y 5 (3 * k + 1) ≤ Y 5 (3 * k + 2)) ∧ Y 5 (3 * k + 2) ≤ 29
theorem yC_c {w w' : zW} {y : Nat} {Y : zW} (h : yC w y Y) (k : ∀ c x, y ≤ c → c ≤ y + 5 → w' c x = w c x) : yC w' y Y := by
  have e : ∀ c, y ≤ c → c ≤ y + 5 → w' c = w c := fun c a b => funext fun x => k c x a b
  unfold yC at h ⊢
  rw [e y (by omega) (by omega), e (y + 1) (by omega) (by omega), e (y + 2) (by omega) (by omega), e (y + 3) (by omega) (by omega), e (y + 4) (by omega) (by omega), e (y + 5) (by omega) (by omega)]
  exact h
theorem mC_c {w w' : zW} {Y : zW} (h : mC w Y) (k : ∀ c x, 75 ≤ c → c ≤ 83 → w' c x = w c x) : mC w' Y := by
  have e : ∀ c, 75 ≤ c → c ≤ 83 → w' c = w c := fun c a b => funext fun x => k c x a b
  unfold mC at h ⊢
  rw [e 75 (by decide) (by decide), e 76 (by decide) (by decide), e 77 (by decide) (by decide), e 78 (by decide) (by decide), e 79 (by decide) (by decide), e 80 (by decide) (by decide), e 81 (by decide) (by decide), e 82 (by decide) (by decide), e 83 (by decide) (by decide)]
  exact h
theorem neP_c {Y Y' : zW} {c d : Int} (h0 : Y' 0 3 = Y 0 3) (h : ∀ i, Y' 5 i = Y 5 i) : neP Y' c d ↔ neP Y c d := by
  unfold neP; rw [h0]; simp only [h]
theorem neP_N {Y : zW} {c f t c0 d : Int} (h0 : 0 ≤ Y 0 3) : neP (yAddN Y c f t) c0 d ↔ neP Y c0 d ∨ (c = c0 ∧ f ≤ d ∧ d ≤ t) := by
  have e0 : yAddN Y c f t 0 3 = Y 0 3 + 1 := up_same _ _ _ _
  have e5 : ∀ i, yAddN Y c f t 5 i = up (up (up Y 5 (3 * Y 0 3) c) 5 (3 * Y 0 3 + 1) f) 5 (3 * Y 0 3 + 2) t 5 i := fun i => up_cell _ _ _ _ (by decide)
  unfold neP
  constructor
  · rintro ⟨k, ⟨k0, k1⟩, h1, h2, h3⟩
    rw [e0] at k1
    rw [e5] at h1 h2 h3
    by_cases g : k = Y 0 3
    · rw [g] at h1 h2 h3
      rw [up_idx _ _ _ _ (by omega), up_idx _ _ _ _ (by omega), up_same] at h1
      rw [up_idx _ _ _ _ (by omega), up_same] at h2
      rw [up_same] at h3
      exact Or.inr ⟨h1, h2, h3⟩
    · rw [up_idx _ _ _ _ (by omega), up_idx _ _ _ _ (by omega), up_idx _ _ _ _ (by omega)] at h1 h2 h3
      exact Or.inl ⟨k, ⟨k0, by omega⟩, h1, h2, h3⟩
  · rintro (⟨k, ⟨k0, k1⟩, h1, h2, h3⟩ | ⟨h1, h2, h3⟩)
    · refine ⟨k, ⟨k0, by omega⟩, ?_, ?_, ?_⟩
      · rw [e5, up_idx _ _ _ _ (by omega), up_idx _ _ _ _ (by omega), up_idx _ _ _ _ (by omega)]; exact h1
      · rw [e5, up_idx _ _ _ _ (by omega), up_idx _ _ _ _ (by omega), up_idx _ _ _ _ (by omega)]; exact h2
      · rw [e5, up_idx _ _ _ _ (by omega), up_idx _ _ _ _ (by omega), up_idx _ _ _ _ (by omega)]; exact h3
    · refine ⟨Y 0 3, ⟨h0, by omega⟩, ?_, ?_, ?_⟩
      · rw [e5, up_idx _ _ _ _ (by omega), up_idx _ _ _ _ (by omega), up_same]; exact h1
      · rw [e5, up_idx _ _ _ _ (by omega), up_same]; exact h2
      · rw [e5, up_same]; exact h3
theorem yAddC_v (Y : zW) (v : Int) : (yAddC Y v 0 0 = Y 0 0 + 1 ∧ yAddC Y v 0 1 = Y 0 1 ∧ yAddC Y v 0 2 = Y 0 2 ∧ yAddC Y v 0 3 = Y 0 3) ∧ (∀ i, yAddC Y v 1 i = if i = Y 0 0 then v else Y 1 i) ∧ ∀ c i, 2 ≤ c → yAddC Y v c i = Y c i := by
  unfold yAddC
  refine ⟨⟨up_same _ _ _ _, ?_, ?_, ?_⟩, fun i => ?_, fun c i h => ?_⟩
  · rw [up_idx _ _ _ _ (by decide), up_cell _ _ _ _ (by decide)]
  · rw [up_idx _ _ _ _ (by decide), up_cell _ _ _ _ (by decide)]
  · rw [up_idx _ _ _ _ (by decide), up_cell _ _ _ _ (by decide)]
  · rw [up_cell _ _ _ _ (by decide)]
    split
    · rename_i h; rw [h, up_same]
    · rename_i h; rw [up_idx _ _ _ _ h]
  · rw [up_cell _ _ _ _ (by omega), up_cell _ _ _ _ (by omega)]
theorem yAddW_v (Y : zW) (v : Int) : (yAddW Y v 0 0 = Y 0 0 ∧ yAddW Y v 0 1 = Y 0 1 ∧ yAddW Y v 0 2 = Y 0 2 + 1 ∧ yAddW Y v 0 3 = Y 0 3) ∧ (∀ i, yAddW Y v 2 i = if i = Y 0 2 then v else Y 2 i) ∧ ∀ c i, c ≠ 0 → c ≠ 2 → yAddW Y v c i = Y c i := by
  unfold yAddW
  refine ⟨⟨?_, ?_, up_same _ _ _ _, ?_⟩, fun i => ?_, fun c i h h2 => ?_⟩
  · rw [up_idx _ _ _ _ (by decide), up_cell _ _ _ _ (by decide)]
  · rw [up_idx _ _ _ _ (by decide), up_cell _ _ _ _ (by decide)]
  · rw [up_idx _ _ _ _ (by decide), up_cell _ _ _ _ (by decide)]
  · rw [up_cell _ _ _ _ (by decide)]
    split
    · rename_i h; rw [h, up_same]
    · rename_i h; rw [up_idx _ _ _ _ h]
  · rw [up_cell _ _ _ _ h, up_cell _ _ _ _ h2]
theorem yAddL_v (Y : zW) (v0 v1 v2 v3 v4 v5 : Int) : (yAddL Y v0 v1 v2 v3 v4 v5 0 0 = Y 0 0 ∧ yAddL Y v0 v1 v2 v3 v4 v5 0 1 = Y 0 1 + 1 ∧ yAddL Y v0 v1 v2 v3 v4 v5 0 2 = Y 0 2 ∧ yAddL Y v0 v1 v2 v3 v4 v5 0 3 = Y 0 3) ∧ (∀ i, i < 6 * Y 0 1 → yAddL Y v0 v1 v2 v3 v4 v5 3 i = Y 3 i) ∧
    (yAddL Y v0 v1 v2 v3 v4 v5 3 (6 * Y 0 1) = v0 ∧ yAddL Y v0 v1 v2 v3 v4 v5 3 (6 * Y 0 1 + 1) = v1 ∧ yAddL Y v0 v1 v2 v3 v4 v5 3 (6 * Y 0 1 + 2) = v2 ∧ yAddL Y v0 v1 v2 v3 v4 v5 3 (6 * Y 0 1 + 3) = v3 ∧ yAddL Y v0 v1 v2 v3 v4 v5 3 (6 * Y 0 1 + 4) = v4 ∧ yAddL Y v0 v1 v2 v3 v4 v5 3 (6 * Y 0 1 + 5) = v5) ∧ ∀ c i, c ≠ 0 → c ≠ 3 → yAddL Y v0 v1 v2 v3 v4 v5 c i = Y c i := by
  unfold yAddL
  refine ⟨⟨?_, up_same _ _ _ _, ?_, ?_⟩, fun i h => ?_, ⟨?_, ?_, ?_, ?_, ?_, ?_⟩, fun c i h h2 => ?_⟩
  · rw [up_idx _ _ _ _ (by decide)]; iterate 6 rw [up_cell _ _ _ _ (by decide)]
  · rw [up_idx _ _ _ _ (by decide)]; iterate 6 rw [up_cell _ _ _ _ (by decide)]
  · rw [up_idx _ _ _ _ (by decide)]; iterate 6 rw [up_cell _ _ _ _ (by decide)]
  · rw [up_cell _ _ _ _ (by decide)]; iterate 6 rw [up_idx _ _ _ _ (by omega)]
  · rw [up_cell _ _ _ _ (by decide)]; iterate 5 rw [up_idx _ _ _ _ (by omega)]
    exact up_same _ _ _ _
  · rw [up_cell _ _ _ _ (by decide)]; iterate 4 rw [up_idx _ _ _ _ (by omega)]
    exact up_same _ _ _ _
  · rw [up_cell _ _ _ _ (by decide)]; iterate 3 rw [up_idx _ _ _ _ (by omega)]
    exact up_same _ _ _ _
  · rw [up_cell _ _ _ _ (by decide)]; iterate 2 rw [up_idx _ _ _ _ (by omega)]
    exact up_same _ _ _ _
  · rw [up_cell _ _ _ _ (by decide), up_idx _ _ _ _ (by omega)]
    exact up_same _ _ _ _
  · rw [up_cell _ _ _ _ (by decide)]
    exact up_same _ _ _ _
  · rw [up_cell _ _ _ _ h]; iterate 6 rw [up_cell _ _ _ _ h2]
theorem yAddR_v (Y : zW) (a c v : Int) : (∀ i, yAddR Y a c v 4 i = if i = 12 * c + a then v else if i = 12 * a + c then v else Y 4 i) ∧ ∀ c1 i, c1 ≠ 4 → yAddR Y a c v c1 i = Y c1 i := by
  unfold yAddR
  refine ⟨fun i => ?_, fun c1 i h => ?_⟩
  · by_cases h : i = 12 * c + a
    · rw [if_pos h, h, up_same]
    · rw [if_neg h, up_idx _ _ _ _ h]
      by_cases g : i = 12 * a + c
      · rw [if_pos g, g, up_same]
      · rw [if_neg g, up_idx _ _ _ _ g]
  · rw [up_cell _ _ _ _ h, up_cell _ _ _ _ h]
theorem yAddN_v (Y : zW) (c f t : Int) : (yAddN Y c f t 0 0 = Y 0 0 ∧ yAddN Y c f t 0 1 = Y 0 1 ∧ yAddN Y c f t 0 2 = Y 0 2 ∧ yAddN Y c f t 0 3 = Y 0 3 + 1) ∧ (∀ i, i < 3 * Y 0 3 → yAddN Y c f t 5 i = Y 5 i) ∧ (yAddN Y c f t 5 (3 * Y 0 3) = c ∧ yAddN Y c f t 5 (3 * Y 0 3 + 1) = f ∧ yAddN Y c f t 5 (3 * Y 0 3 + 2) = t) ∧ ∀ c1 i, c1 ≠ 0 → c1 ≠ 5 → yAddN Y c f t c1 i = Y c1 i := by
  unfold yAddN
  refine ⟨⟨?_, ?_, ?_, up_same _ _ _ _⟩, fun i h => ?_, ⟨?_, ?_, ?_⟩, fun c1 i h h2 => ?_⟩
  · rw [up_idx _ _ _ _ (by decide)]; iterate 3 rw [up_cell _ _ _ _ (by decide)]
  · rw [up_idx _ _ _ _ (by decide)]; iterate 3 rw [up_cell _ _ _ _ (by decide)]
  · rw [up_idx _ _ _ _ (by decide)]; iterate 3 rw [up_cell _ _ _ _ (by decide)]
  · rw [up_cell _ _ _ _ (by decide)]; iterate 3 rw [up_idx _ _ _ _ (by omega)]
  · rw [up_cell _ _ _ _ (by decide)]; iterate 2 rw [up_idx _ _ _ _ (by omega)]
    exact up_same _ _ _ _
  · rw [up_cell _ _ _ _ (by decide), up_idx _ _ _ _ (by omega)]
    exact up_same _ _ _ _
  · rw [up_cell _ _ _ _ (by decide)]
    exact up_same _ _ _ _
  · rw [up_cell _ _ _ _ h]; iterate 3 rw [up_cell _ _ _ _ h2]
theorem okY_C {Y : zW} {v : Int} (h : okY Y) (hc : Y 0 0 < 12) (h0 : 1 ≤ v) (h1 : v ≤ 200) : okY (yAddC Y v) := by
  obtain ⟨⟨e0, e1, e2, e3⟩, f1, f2⟩ := yAddC_v Y v
  obtain ⟨a0, a1, a2, a3, a4, a5, a6, a7, a8, a9⟩ := h
  unfold okY
  rw [e0, e1, e2, e3]
  refine ⟨by omega, a1, a2, a3, fun c c0 c1 => ?_, fun d d0 d1 => by rw [f2 2 d (by decide)]; exact a5 d d0 d1, fun l l0 l1 => ?_, fun i i0 i1 => by rw [f2 4 i (by decide)]; exact a7 i i0 i1, fun a b0 b1 => by rw [f2 4 _ (by decide)]; exact a8 a b0 b1, fun k k0 k1 => ?_⟩
  · rw [f1 c]
    split
    · exact ⟨h0, h1⟩
    · exact a4 c c0 (by omega)
  · simp only [f2 3 _ (show 2 ≤ 3 by decide)]
    obtain ⟨q1, q2⟩ := a6 l l0 l1
    exact ⟨by omega, q2⟩
  · simp only [f2 5 _ (show 2 ≤ 5 by decide)]
    obtain ⟨q1, q2⟩ := a9 k k0 k1
    exact ⟨by omega, q2⟩
theorem okY_W {Y : zW} {v : Int} (h : okY Y) (hc : Y 0 2 < 30) (h0 : 0 ≤ v) (h1 : v ≤ 12) : okY (yAddW Y v) := by
  obtain ⟨⟨e0, e1, e2, e3⟩, f1, f2⟩ := yAddW_v Y v
  obtain ⟨a0, a1, a2, a3, a4, a5, a6, a7, a8, a9⟩ := h
  unfold okY
  rw [e0, e1, e2, e3]
  refine ⟨a0, a1, by omega, a3, fun c c0 c1 => by rw [f2 1 c (by decide) (by decide)]; exact a4 c c0 c1, fun d d0 d1 => ?_, fun l l0 l1 => ?_, fun i i0 i1 => by rw [f2 4 i (by decide) (by decide)]; exact a7 i i0 i1, fun a b0 b1 => by rw [f2 4 _ (by decide) (by decide)]; exact a8 a b0 b1, fun k k0 k1 => ?_⟩
  · rw [f1 d]
    split
    · omega
    · exact a5 d d0 d1
  · simp only [f2 3 _ (show 3 ≠ 0 by decide) (show 3 ≠ 2 by decide)]
    exact a6 l l0 l1
  · simp only [f2 5 _ (show 5 ≠ 0 by decide) (show 5 ≠ 2 by decide)]
    exact a9 k k0 k1
theorem okY_L {Y : zW} {v0 v1 v2 v3 v4 v5 : Int} (h : okY Y) (hc : Y 0 1 < 8) (h0 : 0 ≤ v0 ∧ v0 < Y 0 0) (h1 : 1 ≤ v1 ∧ v1 ≤ 9) (h2 : 0 ≤ v2 ∧ v2 ≤ 12) (h3 : 0 ≤ v3 ∧ v3 ≤ v4) (h4 : v4 ≤ 29) (h5 : 0 ≤ v5 ∧ v5 ≤ 9999) : okY (yAddL Y v0 v1 v2 v3 v4 v5) := by
  obtain ⟨⟨e0, e1, e2, e3⟩, f1, ⟨g0, g1, g2, g3, g4, g5⟩, f2⟩ := yAddL_v Y v0 v1 v2 v3 v4 v5
  obtain ⟨a0, a1, a2, a3, a4, a5, a6, a7, a8, a9⟩ := h
  unfold okY
  rw [e0, e1, e2, e3]
  refine ⟨a0, by omega, a2, a3, fun c c0 c1 => by rw [f2 1 c (by decide) (by decide)]; exact a4 c c0 c1, fun d d0 d1 => by rw [f2 2 d (by decide) (by decide)]; exact a5 d d0 d1, fun l l0 l1 => ?_, fun i i0 i1 => by rw [f2 4 i (by decide) (by decide)]; exact a7 i i0 i1, fun a b0 b1 => by rw [f2 4 _ (by decide) (by decide)]; exact a8 a b0 b1, fun k k0 k1 => ?_⟩
  · by_cases g : l = Y 0 1
    · rw [g, g0, g1, g2, g3, g4, g5]
      exact ⟨h0, h1, h2, h3, h4, h5⟩
    · rw [f1 _ (by omega), f1 _ (by omega), f1 _ (by omega), f1 _ (by omega), f1 _ (by omega), f1 _ (by omega)]
      exact a6 l l0 (by omega)
  · simp only [f2 5 _ (show 5 ≠ 0 by decide) (show 5 ≠ 3 by decide)]
    exact a9 k k0 k1
theorem okY_R {Y : zW} {a c v : Int} (h : okY Y) (ha : 0 ≤ a ∧ a < 12) (hc : 0 ≤ c ∧ c < 12) (hne : a ≠ c) (h0 : 0 ≤ v) (h1 : v ≤ 9) : okY (yAddR Y a c v) := by
  obtain ⟨f1, f2⟩ := yAddR_v Y a c v
  obtain ⟨a0, a1, a2, a3, a4, a5, a6, a7, a8, a9⟩ := h
  unfold okY
  simp only [f2 0 _ (show 0 ≠ 4 by decide), f2 1 _ (show 1 ≠ 4 by decide), f2 2 _ (show 2 ≠ 4 by decide), f2 3 _ (show 3 ≠ 4 by decide), f2 5 _ (show 5 ≠ 4 by decide)]
  refine ⟨a0, a1, a2, a3, a4, a5, a6, fun i i0 i1 => ?_, fun x x0 x1 => ?_, a9⟩
  · rw [f1 i]
    split
    · omega
    · split
      · omega
      · exact a7 i i0 i1
  · rw [f1, if_neg (by omega), if_neg (by omega)]; exact a8 x x0 x1
theorem okY_N {Y : zW} {c f t : Int} (h : okY Y) (hn : Y 0 3 < 12) (hc : 0 ≤ c ∧ c < Y 0 0) (hf : 0 ≤ f ∧ f ≤ t) (ht : t ≤ 29) : okY (yAddN Y c f t) := by
  obtain ⟨⟨e0, e1, e2, e3⟩, f1, ⟨g0, g1, g2⟩, f2⟩ := yAddN_v Y c f t
  obtain ⟨a0, a1, a2, a3, a4, a5, a6, a7, a8, a9⟩ := h
  unfold okY
  rw [e0, e1, e2, e3]
  refine ⟨a0, a1, a2, by omega, fun c c0 c1 => by rw [f2 1 c (by decide) (by decide)]; exact a4 c c0 c1, fun d d0 d1 => by rw [f2 2 d (by decide) (by decide)]; exact a5 d d0 d1, fun l l0 l1 => ?_, fun i i0 i1 => by rw [f2 4 i (by decide) (by decide)]; exact a7 i i0 i1, fun a b0 b1 => by rw [f2 4 _ (by decide) (by decide)]; exact a8 a b0 b1, fun k k0 k1 => ?_⟩
  · simp only [f2 3 _ (show 3 ≠ 0 by decide) (show 3 ≠ 5 by decide)]
    exact a6 l l0 l1
  · by_cases g : k = Y 0 3
    · rw [g, g0, g1, g2]
      exact ⟨hc, hf, ht⟩
    · rw [f1 _ (by omega), f1 _ (by omega), f1 _ (by omega)]
      exact a9 k k0 (by omega)
theorem okY_0 : okY Y00 := by
  refine ⟨by decide, by decide, by decide, by decide, fun c c0 c1 => ?_, fun d _ _ => by show (0 : Int) ≤ 13 ∧ (13 : Int) ≤ 13; decide, fun l l0 l1 => ?_, fun i _ _ => ?_, fun a a0 a1 => ?_, fun k k0 k1 => ?_⟩
  · have : c < 0 := c1
    omega
  · have : l < 0 := l1
    omega
  · show 0 ≤ (if i / 12 = i % 12 then (0 : Int) else 1) ∧ (if i / 12 = i % 12 then (0 : Int) else 1) ≤ 9
    split <;> decide
  · show (if (12 * a + a) / 12 = (12 * a + a) % 12 then (0 : Int) else 1) = 0
    rw [if_pos (by omega)]
  · have : k < 0 := k1
    omega
theorem yC_C {w w' : zW} {y : Nat} {Y : zW} {v : Int} (h : yC w y Y) (k : ∀ c x, c ≠ y + 1 → (c ≠ y ∨ x ≠ 5) → y ≤ c → c ≤ y + 5 → w' c x = w c x) (k0 : w' y 5 = w y 5 + 1) (k1 : ∀ i, w' (y + 1) i = if i = w y 5 then v else w (y + 1) i) : yC w' y (yAddC Y v) := by
  obtain ⟨⟨e0, e1, e2, e3⟩, f1, f2⟩ := yAddC_v Y v
  obtain ⟨⟨b0, b1, b2, b3⟩, c1, c2, c3, c4, c5, c6⟩ := h
  unfold yC
  rw [e0, e1, e2, e3, k0, k y 7 (by omega) (by omega) (by omega) (by omega), k y 6 (by omega) (by omega) (by omega) (by omega), k y 8 (by omega) (by omega) (by omega) (by omega)]
  refine ⟨⟨by rw [b0], b1, b2, b3⟩, fun c x0 x1 => ?_, fun d x0 x1 => ?_, fun i x0 x1 => ?_, fun a c x0 x1 hne => ?_, fun i x0 x1 => ?_, fun c x0 x1 => ?_⟩
  · rw [f1, k1, b0]
    split
    · rfl
    · exact c1 c x0 (by omega)
  · rw [f2 2 _ (by decide), k _ _ (by omega) (by omega) (by omega) (by omega)]; exact c2 d x0 x1
  · rw [f2 3 _ (by decide), k _ _ (by omega) (by omega) (by omega) (by omega)]; exact c3 i x0 x1
  · rw [f2 4 _ (by decide), k _ _ (by omega) (by omega) (by omega) (by omega)]; exact c4 a c x0 x1 hne
  · rw [k _ _ (by omega) (by omega) (by omega) (by omega)]; exact c5 i x0 x1
  · rw [k _ _ (by omega) (by omega) (by omega) (by omega)]
    exact ⟨(c6 c x0 x1).1, fun d d0 d1 => ((c6 c x0 x1).2 d d0 d1).trans (neP_c e3 (fun i => f2 5 i (by decide))).symm⟩
theorem yC_W {w w' : zW} {y : Nat} {Y : zW} {v : Int} (h : yC w y Y) (k : ∀ c x, c ≠ y + 3 → (c ≠ y ∨ x ≠ 6) → y ≤ c → c ≤ y + 5 → w' c x = w c x) (k0 : w' y 6 = w y 6 + 1) (k1 : ∀ i, w' (y + 3) i = if i = w y 6 then v else w (y + 3) i) : yC w' y (yAddW Y v) := by
  obtain ⟨⟨e0, e1, e2, e3⟩, f1, f2⟩ := yAddW_v Y v
  obtain ⟨⟨b0, b1, b2, b3⟩, c1, c2, c3, c4, c5, c6⟩ := h
  unfold yC
  rw [e0, e1, e2, e3, k0, k y 7 (by omega) (by omega) (by omega) (by omega), k y 5 (by omega) (by omega) (by omega) (by omega), k y 8 (by omega) (by omega) (by omega) (by omega)]
  refine ⟨⟨b0, b1, by rw [b2], b3⟩, fun c x0 x1 => ?_, fun d x0 x1 => ?_, fun i x0 x1 => ?_, fun a c x0 x1 hne => ?_, fun i x0 x1 => ?_, fun c x0 x1 => ?_⟩
  · rw [f2 1 _ (by decide) (by decide), k _ _ (by omega) (by omega) (by omega) (by omega)]; exact c1 c x0 x1
  · rw [f1, k1, b2]
    split
    · rfl
    · exact c2 d x0 x1
  · rw [f2 3 _ (by decide) (by decide), k _ _ (by omega) (by omega) (by omega) (by omega)]; exact c3 i x0 x1
  · rw [f2 4 _ (by decide) (by decide), k _ _ (by omega) (by omega) (by omega) (by omega)]; exact c4 a c x0 x1 hne
  · rw [k _ _ (by omega) (by omega) (by omega) (by omega)]; exact c5 i x0 x1
  · rw [k _ _ (by omega) (by omega) (by omega) (by omega)]
    exact ⟨(c6 c x0 x1).1, fun d d0 d1 => ((c6 c x0 x1).2 d d0 d1).trans (neP_c e3 (fun i => f2 5 i (by decide) (by decide))).symm⟩
theorem yC_L {w w' : zW} {y : Nat} {Y : zW} {v0 v1 v2 v3 v4 v5 : Int} (h : yC w y Y) (k : ∀ c x, c ≠ y + 4 → (c ≠ y ∨ x ≠ 7) → y ≤ c → c ≤ y + 5 → w' c x = w c x) (k0 : w' y 7 = w y 7 + 1) (k1 : ∀ i, i < w y 7 * 6 → w' (y + 4) i = w (y + 4) i) (k2 : w' (y + 4) (w y 7 * 6) = v0 ∧ w' (y + 4) (w y 7 * 6 + 1) = v1 ∧ w' (y + 4) (w y 7 * 6 + 2) = v2 ∧ w' (y + 4) (w y 7 * 6 + 3) = v3 ∧ w' (y + 4) (w y 7 * 6 + 4) = v4 ∧ w' (y + 4) (w y 7 * 6 + 5) = v5) : yC w' y (yAddL Y v0 v1 v2 v3 v4 v5) := by
  obtain ⟨⟨e0, e1, e2, e3⟩, f1, ⟨g0, g1, g2, g3, g4, g5⟩, f2⟩ := yAddL_v Y v0 v1 v2 v3 v4 v5
  obtain ⟨⟨b0, b1, b2, b3⟩, c1, c2, c3, c4, c5, c6⟩ := h
  rw [b1] at k1 k2
  rw [show Y 0 1 * 6 = 6 * Y 0 1 by omega] at k1 k2
  unfold yC
  rw [e0, e1, e2, e3, k0, k y 5 (by omega) (by omega) (by omega) (by omega), k y 6 (by omega) (by omega) (by omega) (by omega), k y 8 (by omega) (by omega) (by omega) (by omega)]
  refine ⟨⟨b0, by rw [b1], b2, b3⟩, fun c x0 x1 => ?_, fun d x0 x1 => ?_, fun i x0 x1 => ?_, fun a c x0 x1 hne => ?_, fun i x0 x1 => ?_, fun c x0 x1 => ?_⟩
  · rw [f2 1 _ (by decide) (by decide), k _ _ (by omega) (by omega) (by omega) (by omega)]; exact c1 c x0 x1
  · rw [f2 2 _ (by decide) (by decide), k _ _ (by omega) (by omega) (by omega) (by omega)]; exact c2 d x0 x1
  · by_cases q : i < 6 * Y 0 1
    · rw [f1 i q, k1 i q]; exact c3 i x0 q
    · have hi : i = 6 * Y 0 1 ∨ i = 6 * Y 0 1 + 1 ∨ i = 6 * Y 0 1 + 2 ∨ i = 6 * Y 0 1 + 3 ∨ i = 6 * Y 0 1 + 4 ∨ i = 6 * Y 0 1 + 5 := by omega
      rcases hi with hi | hi | hi | hi | hi | hi
      · rw [hi, g0]; exact k2.1
      · rw [hi, g1]; exact k2.2.1
      · rw [hi, g2]; exact k2.2.2.1
      · rw [hi, g3]; exact k2.2.2.2.1
      · rw [hi, g4]; exact k2.2.2.2.2.1
      · rw [hi, g5]; exact k2.2.2.2.2.2
  · rw [f2 4 _ (by decide) (by decide), k _ _ (by omega) (by omega) (by omega) (by omega)]; exact c4 a c x0 x1 hne
  · rw [k _ _ (by omega) (by omega) (by omega) (by omega)]; exact c5 i x0 x1
  · rw [k _ _ (by omega) (by omega) (by omega) (by omega)]
    exact ⟨(c6 c x0 x1).1, fun d d0 d1 => ((c6 c x0 x1).2 d d0 d1).trans (neP_c e3 (fun i => f2 5 i (by decide) (by decide))).symm⟩
theorem yC_R {w w' : zW} {y : Nat} {Y : zW} {a c v : Int} (h : yC w y Y) (ha : 0 ≤ a ∧ a < 12) (hc : 0 ≤ c ∧ c < 12) (hne : a ≠ c) (h0 : 0 ≤ v) (h1 : v ≤ 9) (k : ∀ c x, c ≠ y + 2 → y ≤ c → c ≤ y + 5 → w' c x = w c x) (k1 : ∀ i, w' (y + 2) i = if i = c * 12 + a then v else if i = a * 12 + c then v else w (y + 2) i) : yC w' y (yAddR Y a c v) := by
  obtain ⟨f1, f2⟩ := yAddR_v Y a c v
  obtain ⟨⟨b0, b1, b2, b3⟩, c1, c2, c3, c4, c5, c6⟩ := h
  unfold yC
  simp only [f2 0 _ (show 0 ≠ 4 by decide), f2 1 _ (show 1 ≠ 4 by decide), f2 2 _ (show 2 ≠ 4 by decide), f2 3 _ (show 3 ≠ 4 by decide)]
  rw [k y 5 (by omega) (by omega) (by omega), k y 7 (by omega) (by omega) (by omega), k y 6 (by omega) (by omega) (by omega), k y 8 (by omega) (by omega) (by omega)]
  refine ⟨⟨b0, b1, b2, b3⟩, fun c x0 x1 => ?_, fun d x0 x1 => ?_, fun i x0 x1 => ?_, fun a1 c1 x0 x1 hne1 => ?_, fun i x0 x1 => ?_, fun c x0 x1 => ?_⟩
  · rw [k _ _ (by omega) (by omega) (by omega)]; exact c1 c x0 x1
  · rw [k _ _ (by omega) (by omega) (by omega)]; exact c2 d x0 x1
  · rw [k _ _ (by omega) (by omega) (by omega)]; exact c3 i x0 x1
  · rw [f1, k1]
    by_cases q : a1 * 12 + c1 = c * 12 + a
    · rw [if_pos q, if_pos (by omega)]
    · rw [if_neg q, if_neg (show ¬ 12 * a1 + c1 = 12 * c + a by omega)]
      by_cases q2 : a1 * 12 + c1 = a * 12 + c
      · rw [if_pos q2, if_pos (by omega)]
      · rw [if_neg q2, if_neg (by omega)]; exact c4 a1 c1 x0 x1 hne1
  · rw [k1]
    split
    · omega
    · split
      · omega
      · exact c5 i x0 x1
  · rw [k _ _ (by omega) (by omega) (by omega)]
    exact ⟨(c6 c x0 x1).1, fun d d0 d1 => ((c6 c x0 x1).2 d d0 d1).trans (neP_c (f2 0 3 (by decide)) (fun i => f2 5 i (by decide))).symm⟩
theorem yC_N {w w' : zW} {y : Nat} {Y : zW} {a f t : Int} (h : yC w y Y) (hn : 0 ≤ Y 0 3) (ha : 0 ≤ a ∧ a < 12) (k : ∀ c x, c ≠ y → c ≠ y + 5 → y ≤ c → c ≤ y + 5 → w' c x = w c x) (k0 : ∀ i, i ≠ 8 → w' y i = w y i) (k1 : w' y 8 = w y 8 + 1) (k2 : ∀ c, c ≠ a → w' (y + 5) c = w (y + 5) c) (k3 : 0 ≤ w' (y + 5) a ∧ w' (y + 5) a < 1073741824) (k4 : ∀ d, 0 ≤ d → tb (w' (y + 5) a) d = (tb (w (y + 5) a) d || decide (f ≤ d ∧ d ≤ t))) : yC w' y (yAddN Y a f t) := by
  obtain ⟨⟨e0, e1, e2, e3⟩, f1, ⟨g0, g1, g2⟩, f2⟩ := yAddN_v Y a f t
  obtain ⟨⟨b0, b1, b2, b3⟩, c1, c2, c3, c4, c5, c6⟩ := h
  unfold yC
  rw [e0, e1, e2, e3, k1, k0 5 (by decide), k0 7 (by decide), k0 6 (by decide)]
  refine ⟨⟨b0, b1, b2, by rw [b3]⟩, fun c x0 x1 => ?_, fun d x0 x1 => ?_, fun i x0 x1 => ?_, fun a1 c1 x0 x1 hne1 => ?_, fun i x0 x1 => ?_, fun c x0 x1 => ?_⟩
  · rw [f2 1 _ (by decide) (by decide), k _ _ (by omega) (by omega) (by omega) (by omega)]; exact c1 c x0 x1
  · rw [f2 2 _ (by decide) (by decide), k _ _ (by omega) (by omega) (by omega) (by omega)]; exact c2 d x0 x1
  · rw [f2 3 _ (by decide) (by decide), k _ _ (by omega) (by omega) (by omega) (by omega)]; exact c3 i x0 x1
  · rw [f2 4 _ (by decide) (by decide), k _ _ (by omega) (by omega) (by omega) (by omega)]; exact c4 a1 c1 x0 x1 hne1
  · rw [k _ _ (by omega) (by omega) (by omega) (by omega)]; exact c5 i x0 x1
  · by_cases q : c = a
    · subst q
      refine ⟨k3, fun d d0 d1 => ?_⟩
      rw [k4 d d0, neP_N hn, Bool.or_eq_true, decide_eq_true_iff, (c6 c x0 x1).2 d d0 d1]
      exact ⟨fun z => z.imp id (fun z => ⟨rfl, z⟩), fun z => z.imp id (fun z => z.2)⟩
    · rw [k2 c q]
      refine ⟨(c6 c x0 x1).1, fun d d0 d1 => ?_⟩
      rw [neP_N hn, (c6 c x0 x1).2 d d0 d1]
      exact ⟨Or.inl, fun z => z.elim id (fun z => absurd z.1.symm q)⟩
theorem yC_ok {w : zW} {y : Nat} {Y : zW} (h : yC w y Y) (hY : okY Y) : okYard w y := by
  obtain ⟨⟨b0, b1, b2, b3⟩, c1, c2, c3, c4, c5, c6⟩ := h
  obtain ⟨a0, a1, a2, a3, a4, a5, a6, a7, a8, a9⟩ := hY
  unfold okYard okLet
  rw [b0, b1, b2, b3]
  refine ⟨a0, a2, a1, a3, fun c x0 x1 => by rw [c1 c x0 x1]; exact a4 c x0 x1, c5, fun d x0 x1 => by rw [c2 d x0 x1]; exact a5 d x0 x1, fun l x0 x1 => ?_, fun c x0 x1 => (c6 c x0 x1).1⟩
  have hl := a6 l x0 x1
  rw [show 6 * l = l * 6 by omega] at hl
  rw [c3 _ (by omega) (by omega), c3 _ (by omega) (by omega), c3 _ (by omega) (by omega), c3 _ (by omega) (by omega), c3 _ (by omega) (by omega), c3 _ (by omega) (by omega)]
  exact hl
