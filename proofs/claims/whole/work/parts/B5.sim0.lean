/-! at the start both sides are alike -/
set_option maxRecDepth 100000 in
set_option maxHeartbeats 8000000 in
theorem zSim_0 {S0 S0' : zS} {w0 w1 wc : zW} {v v' : Option Value} {S S' : zS} (hz : ∀ (c : Nat) (x : Int), w0 c x = if c = 74 then -1 else 0) (h1 : qX11 S0 w0 v S w1) (h2 : qX12 S0' w1 v' S' wc) : zSim 0 4 10 3 wc := by
  obtain ⟨-, -, f, g0, g2, g6, g7, g9, g12, g13, g15, g16, g34, g44, g49, g63, g64⟩ := h1
  obtain ⟨-, -, wa, wb, hfr, h73, h74, hmz, hfg⟩ := h2
  obtain ⟨mz0, mz1, mz2, mz3, mz4, mz5, mz6⟩ := hmz
  obtain ⟨fg0, ⟨fg1, fg2, fg3, fg4, fg5⟩, fg6, fg7, fg8, fg9⟩ := hfg
  have kc : ∀ (cc : Nat) (x : Int), cc < 73 → wc cc x = w1 cc x := fun cc x a => by
    rw [fg0 cc x (by omega) (by omega) (by omega) (by omega) (by omega) (by omega) (by omega) (by omega) (by omega) (Or.inl (by omega)), mz0 cc x (by omega) (by omega) (by omega), hfr cc x (by omega) (by omega)]
  have zc : ∀ (cc : Nat) (x : Int), cc < 73 → cc ≠ 0 → cc ≠ 2 → cc ≠ 6 → cc ≠ 7 → cc ≠ 9 → cc ≠ 12 → cc ≠ 13 → cc ≠ 15 → cc ≠ 16 → cc ≠ 34 → cc ≠ 44 → cc ≠ 49 → cc ≠ 63 → cc ≠ 64 → wc cc x = 0 := fun cc x a e0 e2 e6 e7 e9 e12 e13 e15 e16 e34 e44 e49 e63 e64 => by
    rw [kc cc x a, f cc x e0 e2 e6 e7 e9 e12 e13 e15 e16 e34 e44 e49 e63 e64, hz cc x, if_neg (by omega)]
  have zm : ∀ (cc : Nat) (x : Int), 83 < cc → cc ≠ 121 → cc ≠ 89 → cc ≠ 90 → cc ≠ 98 → cc ≠ 99 → cc ≠ 105 → cc ≠ 107 → cc ≠ 109 → cc ≠ 110 → cc ≠ 117 → wc cc x = 0 := fun cc x a a2 e89 e90 e98 e99 e105 e107 e109 e110 e117 => by
    rw [fg0 cc x e89 e90 e98 e99 e105 e107 e109 e110 e117 (Or.inl (by omega)), mz0 cc x (Or.inr (by omega)) (by omega) (by omega), hfr cc x (by omega) (by omega), f cc x (by omega) (by omega) (by omega) (by omega) (by omega) (by omega) (by omega) (by omega) (by omega) (by omega) (by omega) (by omega) (by omega) (by omega), hz cc x, if_neg (by omega)]
  have k73 : ∀ x : Int, x ≠ 26 → x ≠ 54 → x ≠ 55 → x ≠ 71 → x ≠ 76 → wc 73 x = if x = 46 then 6 else if x = 21 then -1 else 0 := fun x a b c d e => by
    rw [fg0 73 x (by decide) (by decide) (by decide) (by decide) (by decide) (by decide) (by decide) (by decide) (by decide) (Or.inr ⟨a, b, c, d, e⟩), mz0 73 x (Or.inl (by decide)) (by decide) (by decide), h73, if_neg e, if_neg a]
  have k74 : ∀ x : Int, wc 74 x = wa 74 x := fun x => by
    rw [fg0 74 x (by decide) (by decide) (by decide) (by decide) (by decide) (by decide) (by decide) (by decide) (by decide) (Or.inl (by decide)), mz0 74 x (Or.inl (by decide)) (by decide) (by decide)]
  have kb : ∀ (cc : Nat) (x : Int), 75 ≤ cc → cc ≤ 83 → wc cc x = wb cc x := fun cc x a b => fg0 cc x (by omega) (by omega) (by omega) (by omega) (by omega) (by omega) (by omega) (by omega) (by omega) (Or.inl (by omega))
  have q0 : ∀ x : Int, wc 0 x = if x = 2 then -1 else 0 := fun x => by rw [kc 0 x (by decide)]; exact g0 x
  have q16 : ∀ x : Int, wc 16 x = if x = 13 then -1 else 0 := fun x => by rw [kc 16 x (by decide)]; exact g16 x
  have q34 : ∀ x : Int, x ≠ 10 → x ≠ 11 → wc 34 x = 0 := fun x a b => by
    rw [kc 34 x (by decide), g34 x]
    first | rw [if_neg a, if_neg b] | rw [if_neg b, if_neg a]
  have q44 : ∀ x : Int, wc 44 x = if x = 4 then 6 else 0 := fun x => by rw [kc 44 x (by decide)]; exact g44 x
  have q6 : ∀ i : Int, 0 ≤ i → i < 144 → wc 6 i = 1 := fun i a b => by rw [kc 6 i (by decide)]; exact g6 i a b
  have q7 : ∀ i : Int, 0 ≤ i → i < 30 → wc 7 i = 13 := fun i a b => by rw [kc 7 i (by decide)]; exact g7 i a b
  have q9 : ∀ i : Int, 0 ≤ i → i < 12 → wc 9 i = 0 := fun i a b => by rw [kc 9 i (by decide)]; exact g9 i a b
  have q63 : ∀ i : Int, 0 ≤ i → i < 12 → wc 63 i = 0 := fun i a b => by rw [kc 63 i (by decide)]; exact g63 i a b
  have q64 : ∀ i : Int, 0 ≤ i → i < 12 → wc 64 i = 1 := fun i a b => by rw [kc 64 i (by decide)]; exact g64 i a b
  have y0 : ∀ k : Int, Y00 0 k = 0 := fun k => rfl
  have y2 : ∀ k : Int, Y00 2 k = 13 := fun k => rfl
  have y4 : ∀ k : Int, Y00 4 k = if k / 12 = k % 12 then 0 else 1 := fun k => rfl
  refine ⟨Or.inl ⟨rfl, rfl⟩, ⟨?_, ?_, ?_, ?_⟩, ⟨?_, ?_⟩, ⟨Y00, ⟨⟨?_, ?_, ?_, ?_⟩, ?_, ?_, ?_, ?_, ?_, ?_⟩, ⟨⟨?_, ?_, ?_, ?_⟩, ?_, ?_, ?_, ?_, ?_⟩, ?_⟩, Or.inl ⟨?_, ?_, ?_, fg1, fg2⟩, ?_, ⟨?_, ?_, ?_⟩, ⟨Or.inl ⟨?_, ?_⟩, ?_, ?_⟩, ⟨?_, ?_, ?_⟩, ⟨⟨?_, ?_, ?_⟩, ?_, ?_, ?_, ?_, ?_, ?_, ?_⟩, Or.inl ⟨?_, fg5⟩, ⟨?_, ?_, ?_⟩, ⟨?_, ?_, ?_, ?_⟩, ⟨?_, ?_⟩, ?_⟩
  · rw [q0]; decide
  · rw [q0, k73 12 (by decide) (by decide) (by decide) (by decide) (by decide)]; decide
  · intro i _
    rw [zm 84 i (by decide) (by decide) (by decide) (by decide) (by decide) (by decide) (by decide) (by decide) (by decide) (by decide) (by decide), zc 1 i (by decide) (by decide) (by decide) (by decide) (by decide) (by decide) (by decide) (by decide) (by decide) (by decide) (by decide) (by decide) (by decide) (by decide) (by decide)]
  · intro i _ _
    rw [zc 1 i (by decide) (by decide) (by decide) (by decide) (by decide) (by decide) (by decide) (by decide) (by decide) (by decide) (by decide) (by decide) (by decide) (by decide) (by decide)]; decide
  · rw [q0, k73 21 (by decide) (by decide) (by decide) (by decide) (by decide)]; decide
  · intro j hj; rw [k74]; exact h74 j hj
  · rw [zc 4 5 (by decide) (by decide) (by decide) (by decide) (by decide) (by decide) (by decide) (by decide) (by decide) (by decide) (by decide) (by decide) (by decide) (by decide) (by decide), y0]
  · rw [zc 4 7 (by decide) (by decide) (by decide) (by decide) (by decide) (by decide) (by decide) (by decide) (by decide) (by decide) (by decide) (by decide) (by decide) (by decide) (by decide), y0]
  · rw [zc 4 6 (by decide) (by decide) (by decide) (by decide) (by decide) (by decide) (by decide) (by decide) (by decide) (by decide) (by decide) (by decide) (by decide) (by decide) (by decide), y0]
  · rw [zc 4 8 (by decide) (by decide) (by decide) (by decide) (by decide) (by decide) (by decide) (by decide) (by decide) (by decide) (by decide) (by decide) (by decide) (by decide) (by decide), y0]
  · intro c a b; rw [y0] at b; omega
  · intro d a b; rw [y2]; exact q7 d a b
  · intro i a b; rw [y0] at b; omega
  · intro a c ha hc hac
    rw [y4, if_neg (by omega)]; exact q6 _ (by omega) (by omega)
  · intro i a b
    show 0 ≤ wc 6 i ∧ wc 6 i ≤ 9
    rw [q6 i a b]; decide
  · intro c a b
    show (0 ≤ wc 9 c ∧ wc 9 c < 1073741824) ∧ _
    refine ⟨by rw [q9 c a b]; decide, fun d d0 d1 => ?_⟩
    show tb (wc 9 c) d = true ↔ _
    rw [q9 c a b, tb_0]
    refine ⟨fun q => (by cases q), fun q => ?_⟩
    obtain ⟨k, k0, -⟩ := q
    rw [y0] at k0; omega
  · rw [kb 75 0 (by decide) (by decide), mz2 75 (by decide) (by decide), y0]
  · rw [kb 76 0 (by decide) (by decide), mz2 76 (by decide) (by decide), y0]
  · rw [kb 77 0 (by decide) (by decide), mz2 77 (by decide) (by decide), y0]
  · rw [kb 78 0 (by decide) (by decide), mz2 78 (by decide) (by decide), y0]
  · intro c a b; rw [y0] at b; omega
  · intro d a b
    have := mz4 d a b
    rw [kb 80 d (by decide) (by decide), y2]
    rw [show (30 * 0 + d : Int) = d by omega] at this
    exact this
  · intro i a b; rw [y0] at b; omega
  · intro i a b
    have := mz6 (i / 12) (i % 12) (by omega) (by omega)
    rw [kb 82 i (by decide) (by decide), y4]
    rw [show (144 * 0 + 12 * (i / 12) + i % 12 : Int) = i by omega] at this
    exact this
  · intro i a b; rw [y0] at b; omega
  · exact okY_0
  · rw [q16]; decide
  · rw [q16]; decide
  · rw [q16]; decide
  · intro o a b
    rw [zm 120 o (by decide) (by decide) (by decide) (by decide) (by decide) (by decide) (by decide) (by decide) (by decide) (by decide) (by decide), zc 28 o (by decide) (by decide) (by decide) (by decide) (by decide) (by decide) (by decide) (by decide) (by decide) (by decide) (by decide) (by decide) (by decide) (by decide) (by decide)]; decide
  · intro c a b
    rw [(fg6 c a b).1.1, (fg6 c a b).1.2, zc 32 c (by decide) (by decide) (by decide) (by decide) (by decide) (by decide) (by decide) (by decide) (by decide) (by decide) (by decide) (by decide) (by decide) (by decide) (by decide), zc 33 c (by decide) (by decide) (by decide) (by decide) (by decide) (by decide) (by decide) (by decide) (by decide) (by decide) (by decide) (by decide) (by decide) (by decide) (by decide)]; decide
  · intro x
    rw [zm 91 x (by decide) (by decide) (by decide) (by decide) (by decide) (by decide) (by decide) (by decide) (by decide) (by decide) (by decide), zc 30 x (by decide) (by decide) (by decide) (by decide) (by decide) (by decide) (by decide) (by decide) (by decide) (by decide) (by decide) (by decide) (by decide) (by decide) (by decide), zm 92 x (by decide) (by decide) (by decide) (by decide) (by decide) (by decide) (by decide) (by decide) (by decide) (by decide) (by decide), zc 31 x (by decide) (by decide) (by decide) (by decide) (by decide) (by decide) (by decide) (by decide) (by decide) (by decide) (by decide) (by decide) (by decide) (by decide) (by decide)]; decide
  · intro c a b
    refine ⟨by rw [zc 32 c (by decide) (by decide) (by decide) (by decide) (by decide) (by decide) (by decide) (by decide) (by decide) (by decide) (by decide) (by decide) (by decide) (by decide) (by decide)]; decide, by rw [zc 33 c (by decide) (by decide) (by decide) (by decide) (by decide) (by decide) (by decide) (by decide) (by decide) (by decide) (by decide) (by decide) (by decide) (by decide) (by decide)]; decide, fun k k0 k1 => ?_⟩
    rw [zc 32 c (by decide) (by decide) (by decide) (by decide) (by decide) (by decide) (by decide) (by decide) (by decide) (by decide) (by decide) (by decide) (by decide) (by decide) (by decide)] at k1; omega
  · exact q34 8 (by decide) (by decide)
  · rw [k73 39 (by decide) (by decide) (by decide) (by decide) (by decide)]; decide
  · rw [k73 40 (by decide) (by decide) (by decide) (by decide) (by decide), k73 41 (by decide) (by decide) (by decide) (by decide) (by decide)]; decide
  · intro c _; exact Or.inl (zm 93 c (by decide) (by decide) (by decide) (by decide) (by decide) (by decide) (by decide) (by decide) (by decide) (by decide) (by decide))
  · rw [k73 45 (by decide) (by decide) (by decide) (by decide) (by decide), zc 39 1 (by decide) (by decide) (by decide) (by decide) (by decide) (by decide) (by decide) (by decide) (by decide) (by decide) (by decide) (by decide) (by decide) (by decide) (by decide)]; decide
  · rw [zc 39 1 (by decide) (by decide) (by decide) (by decide) (by decide) (by decide) (by decide) (by decide) (by decide) (by decide) (by decide) (by decide) (by decide) (by decide) (by decide)]; decide
  · intro i a b
    rw [zc 39 1 (by decide) (by decide) (by decide) (by decide) (by decide) (by decide) (by decide) (by decide) (by decide) (by decide) (by decide) (by decide) (by decide) (by decide) (by decide)] at b; omega
  · rw [k73 44 (by decide) (by decide) (by decide) (by decide) (by decide), q44]; decide
  · rw [k73 46 (by decide) (by decide) (by decide) (by decide) (by decide), q44]; decide
  · rw [fg4, q44]; decide
  · rw [q44]; decide
  · rw [q44]; decide
  · intro r a b
    rw [zm 95 r (by decide) (by decide) (by decide) (by decide) (by decide) (by decide) (by decide) (by decide) (by decide) (by decide) (by decide), zc 45 r (by decide) (by decide) (by decide) (by decide) (by decide) (by decide) (by decide) (by decide) (by decide) (by decide) (by decide) (by decide) (by decide) (by decide) (by decide)]; decide
  · intro x a b
    rw [fg7 x a b, zc 46 x (by decide) (by decide) (by decide) (by decide) (by decide) (by decide) (by decide) (by decide) (by decide) (by decide) (by decide) (by decide) (by decide) (by decide) (by decide)]; decide
  · intro c d a b e g
    exact zc 46 _ (by decide) (by decide) (by decide) (by decide) (by decide) (by decide) (by decide) (by decide) (by decide) (by decide) (by decide) (by decide) (by decide) (by decide) (by decide)
  · intro x a b
    rw [fg8 x a b, zc 47 x (by decide) (by decide) (by decide) (by decide) (by decide) (by decide) (by decide) (by decide) (by decide) (by decide) (by decide) (by decide) (by decide) (by decide) (by decide)]; decide
  · intro i a b
    rw [q44] at b
    rw [if_neg (by decide)] at b; omega
  · rw [q0]; decide
  · intro c a b
    rw [(fg6 c a b).2.1.1, (fg6 c a b).2.1.2, zc 59 c (by decide) (by decide) (by decide) (by decide) (by decide) (by decide) (by decide) (by decide) (by decide) (by decide) (by decide) (by decide) (by decide) (by decide) (by decide), zc 60 c (by decide) (by decide) (by decide) (by decide) (by decide) (by decide) (by decide) (by decide) (by decide) (by decide) (by decide) (by decide) (by decide) (by decide) (by decide)]; decide
  · intro k a b
    rw [zc 55 k (by decide) (by decide) (by decide) (by decide) (by decide) (by decide) (by decide) (by decide) (by decide) (by decide) (by decide) (by decide) (by decide) (by decide) (by decide), zc 56 k (by decide) (by decide) (by decide) (by decide) (by decide) (by decide) (by decide) (by decide) (by decide) (by decide) (by decide) (by decide) (by decide) (by decide) (by decide), zc 57 k (by decide) (by decide) (by decide) (by decide) (by decide) (by decide) (by decide) (by decide) (by decide) (by decide) (by decide) (by decide) (by decide) (by decide) (by decide), zc 58 k (by decide) (by decide) (by decide) (by decide) (by decide) (by decide) (by decide) (by decide) (by decide) (by decide) (by decide) (by decide) (by decide) (by decide) (by decide)]; decide
  · intro k a b
    rw [zm 106 (4 * k) (by decide) (by decide) (by decide) (by decide) (by decide) (by decide) (by decide) (by decide) (by decide) (by decide) (by decide), zc 55 k (by decide) (by decide) (by decide) (by decide) (by decide) (by decide) (by decide) (by decide) (by decide) (by decide) (by decide) (by decide) (by decide) (by decide) (by decide), zm 106 (4 * k + 1) (by decide) (by decide) (by decide) (by decide) (by decide) (by decide) (by decide) (by decide) (by decide) (by decide) (by decide), zc 56 k (by decide) (by decide) (by decide) (by decide) (by decide) (by decide) (by decide) (by decide) (by decide) (by decide) (by decide) (by decide) (by decide) (by decide) (by decide), zm 106 (4 * k + 2) (by decide) (by decide) (by decide) (by decide) (by decide) (by decide) (by decide) (by decide) (by decide) (by decide) (by decide), zc 57 k (by decide) (by decide) (by decide) (by decide) (by decide) (by decide) (by decide) (by decide) (by decide) (by decide) (by decide) (by decide) (by decide) (by decide) (by decide), zm 106 (4 * k + 3) (by decide) (by decide) (by decide) (by decide) (by decide) (by decide) (by decide) (by decide) (by decide) (by decide) (by decide), zc 58 k (by decide) (by decide) (by decide) (by decide) (by decide) (by decide) (by decide) (by decide) (by decide) (by decide) (by decide) (by decide) (by decide) (by decide) (by decide)]; decide
  · intro c a b
    rw [(fg6 c a b).2.2.1, (fg6 c a b).2.2.2, q63 c a b, q64 c a b]; decide
  · rw [fg3, zc 62 3 (by decide) (by decide) (by decide) (by decide) (by decide) (by decide) (by decide) (by decide) (by decide) (by decide) (by decide) (by decide) (by decide) (by decide) (by decide)]
  · rw [zc 62 3 (by decide) (by decide) (by decide) (by decide) (by decide) (by decide) (by decide) (by decide) (by decide) (by decide) (by decide) (by decide) (by decide) (by decide) (by decide)]; decide
  · intro i a b
    rw [zc 62 3 (by decide) (by decide) (by decide) (by decide) (by decide) (by decide) (by decide) (by decide) (by decide) (by decide) (by decide) (by decide) (by decide) (by decide) (by decide)] at b; omega
  · intro o a b
    rw [zm 116 o (by decide) (by decide) (by decide) (by decide) (by decide) (by decide) (by decide) (by decide) (by decide) (by decide) (by decide), zc 70 o (by decide) (by decide) (by decide) (by decide) (by decide) (by decide) (by decide) (by decide) (by decide) (by decide) (by decide) (by decide) (by decide) (by decide) (by decide), zm 118 o (by decide) (by decide) (by decide) (by decide) (by decide) (by decide) (by decide) (by decide) (by decide) (by decide) (by decide), zc 72 o (by decide) (by decide) (by decide) (by decide) (by decide) (by decide) (by decide) (by decide) (by decide) (by decide) (by decide) (by decide) (by decide) (by decide) (by decide)]; decide
  · intro x a b
    rw [fg9 x a b, zc 71 x (by decide) (by decide) (by decide) (by decide) (by decide) (by decide) (by decide) (by decide) (by decide) (by decide) (by decide) (by decide) (by decide) (by decide) (by decide)]; decide
  · intro x _ _
    exact zc 23 x (by decide) (by decide) (by decide) (by decide) (by decide) (by decide) (by decide) (by decide) (by decide) (by decide) (by decide) (by decide) (by decide) (by decide) (by decide)
