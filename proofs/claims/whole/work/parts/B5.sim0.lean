/-! at the start both sides are alike -/
set_option maxRecDepth 100000 in
set_option maxHeartbeats 8000000 in
theorem zSim_0 {S0 S0' : zS} {w0 w1 wc : zW} {v v' : Option Value} {S S' : zS} (hz : ∀ (c : Nat) (x : Int), w0 c x = if c = 74 then -1 else 0) (h1 : qX11 S0 w0 v S w1) (h2 : qX12 S0' w1 v' S' wc) : zSim 0 4 10 3 wc := by
  obtain ⟨-, -, f, g0, g2, g6, g7, g12, g13, g16, g34, g44, g49, g64⟩ := h1
  obtain ⟨-, -, wa, wb, hfr, h73, h74, hmz, hfg⟩ := h2
  obtain ⟨mz0, mz1, mz2, mz3, mz4, mz5, mz6⟩ := hmz
  obtain ⟨fg0, ⟨fg1, fg2, fg3, fg4, fg5⟩, fg6, fg7, fg8, fg9⟩ := hfg
  have kc : ∀ (cc : Nat) (x : Int), cc < 73 → wc cc x = w1 cc x := fun cc x a => by
    rw [fg0 cc x (by omega) (by omega) (by omega) (by omega) (by omega) (by omega) (by omega) (by omega) (by omega) (Or.inl (by omega)), mz0 cc x (by omega) (by omega) (by omega), hfr cc x (by omega) (by omega)]
  have zc : ∀ (cc : Nat) (x : Int), cc < 73 → cc ≠ 0 → cc ≠ 2 → cc ≠ 6 → cc ≠ 7 → cc ≠ 12 → cc ≠ 13 → cc ≠ 16 → cc ≠ 34 → cc ≠ 44 → cc ≠ 49 → cc ≠ 64 → wc cc x = 0 := fun cc x a e0 e2 e6 e7 e12 e13 e16 e34 e44 e49 e64 => by
    rw [kc cc x a, f cc x e0 e2 e6 e7 e12 e13 e16 e34 e44 e49 e64, hz cc x, if_neg (by omega)]
  have zm : ∀ (cc : Nat) (x : Int), 83 < cc → cc ≠ 121 → cc ≠ 89 → cc ≠ 90 → cc ≠ 98 → cc ≠ 99 → cc ≠ 105 → cc ≠ 107 → cc ≠ 109 → cc ≠ 110 → cc ≠ 117 → wc cc x = 0 := fun cc x a a2 e89 e90 e98 e99 e105 e107 e109 e110 e117 => by
    rw [fg0 cc x e89 e90 e98 e99 e105 e107 e109 e110 e117 (Or.inl (by omega)), mz0 cc x (Or.inr (by omega)) (by omega) (by omega), hfr cc x (by omega) (by omega), f cc x (by omega) (by omega) (by omega) (by omega) (by omega) (by omega) (by omega) (by omega) (by omega) (by omega) (by omega), hz cc x, if_neg (by omega)]
  have k73 : ∀ x : Int, x ≠ 26 → x ≠ 54 → x ≠ 55 → x ≠ 71 → x ≠ 76 → wc 73 x = if x = 46 then 6 else if x = 21 then -1 else 0 := fun x a b c d e => by
    rw [fg0 73 x (by decide) (by decide) (by decide) (by decide) (by decide) (by decide) (by decide) (by decide) (by decide) (Or.inr ⟨a, b, c, d, e⟩), mz0 73 x (Or.inl (by decide)) (by decide) (by decide), h73, if_neg e, if_neg a]
  have k74 : ∀ x : Int, wc 74 x = wa 74 x := fun x => by
    rw [fg0 74 x (by decide) (by decide) (by decide) (by decide) (by decide) (by decide) (by decide) (by decide) (by decide) (Or.inl (by decide)), mz0 74 x (Or.inl (by decide)) (by decide) (by decide)]
  have kb : ∀ (cc : Nat) (x : Int), 75 ≤ cc → cc ≤ 83 → wc cc x = wb cc x := fun cc x a b => fg0 cc x (by omega) (by omega) (by omega) (by omega) (by omega) (by omega) (by omega) (by omega) (by omega) (Or.inl (by omega))
  have q0 : ∀ x : Int, wc 0 x = if x = 2 then -1 else 0 := fun x => by rw [kc 0 x (by decide)]; exact g0 x
  have q16 : ∀ x : Int, wc 16 x = if x = 13 then -1 else 0 := fun x => by rw [kc 16 x (by decide)]; exact g16 x
  have q34 : ∀ x : Int, x ≠ 10 → x ≠ 11 → wc 34 x = 0 := fun x a b => by
    rw [kc 34 x (by decide), g34 x]
    first | rw [if_neg a, if_neg b] | rw [if_neg b, if_neg a]
  have q44 : ∀ x : Int, wc 44 x = if x = 4 then 6 else 0 := fun x => by rw [kc 44 x (by decide)]; exact g44 x
  have q6 : ∀ i : Int, 0 ≤ i → i < 144 → wc 6 i = 1 := fun i a b => by rw [kc 6 i (by decide)]; exact g6 i a b
  have q7 : ∀ i : Int, 0 ≤ i → i < 30 → wc 7 i = 13 := fun i a b => by rw [kc 7 i (by decide)]; exact g7 i a b
  have q64 : ∀ i : Int, 0 ≤ i → i < 12 → wc 64 i = 1 := fun i a b => by rw [kc 64 i (by decide)]; exact g64 i a b
  have y0 : ∀ k : Int, Y00 0 k = 0 := fun k => rfl
  have y2 : ∀ k : Int, Y00 2 k = 13 := fun k => rfl
  have y4 : ∀ k : Int, Y00 4 k = if k / 12 = k % 12 then 0 else 1 := fun k => rfl
  refine ⟨Or.inl ⟨rfl, rfl⟩, ⟨?_, ?_, ?_, ?_⟩, ⟨?_, ?_⟩, ⟨Y00, ⟨⟨?_, ?_, ?_, ?_⟩, ?_, ?_, ?_, ?_, ?_, ?_⟩, ⟨⟨?_, ?_, ?_, ?_⟩, ?_, ?_, ?_, ?_, ?_⟩, ?_⟩, Or.inl ⟨?_, ?_, ?_, fg1, fg2⟩, ?_, ⟨?_, ?_, ?_⟩, ⟨Or.inl ⟨?_, ?_⟩, ?_, ?_⟩, ⟨?_, ?_, ?_⟩, ⟨⟨?_, ?_, ?_⟩, ?_, ?_, ?_, ?_, ?_, ?_, ?_⟩, Or.inl ⟨?_, fg5⟩, ⟨?_, ?_, ?_⟩, ⟨?_, ?_, ?_, ?_⟩, ⟨?_, ?_⟩⟩
  · rw [q0]; decide
  · rw [q0, k73 12 (by decide) (by decide) (by decide) (by decide) (by decide)]; decide
  · intro i _
    rw [zm 84 i (by decide) (by decide) (by decide) (by decide) (by decide) (by decide) (by decide) (by decide) (by decide) (by decide) (by decide), zc 1 i (by decide) (by decide) (by decide) (by decide) (by decide) (by decide) (by decide) (by decide) (by decide) (by decide) (by decide) (by decide)]
  · intro i _ _
    rw [zc 1 i (by decide) (by decide) (by decide) (by decide) (by decide) (by decide) (by decide) (by decide) (by decide) (by decide) (by decide) (by decide)]; decide
  · rw [q0, k73 21 (by decide) (by decide) (by decide) (by decide) (by decide)]; decide
  · intro j hj; rw [k74]; exact h74 j hj
  · rw [zc 4 5 (by decide) (by decide) (by decide) (by decide) (by decide) (by decide) (by decide) (by decide) (by decide) (by decide) (by decide) (by decide), y0]
  · rw [zc 4 7 (by decide) (by decide) (by decide) (by decide) (by decide) (by decide) (by decide) (by decide) (by decide) (by decide) (by decide) (by decide), y0]
  · rw [zc 4 6 (by decide) (by decide) (by decide) (by decide) (by decide) (by decide) (by decide) (by decide) (by decide) (by decide) (by decide) (by decide), y0]
  · rw [zc 4 8 (by decide) (by decide) (by decide) (by decide) (by decide) (by decide) (by decide) (by decide) (by decide) (by decide) (by decide) (by decide), y0]
  · intro c a b; rw [y0] at b; omega
  · intro d a b; rw [y2]; exact q7 d a b
  · intro i a b; rw [y0] at b; omega
  · intro a c ha hc hac
    rw [y4, if_neg (by omega)]; exact q6 _ (by omega) (by omega)
  · intro i a b
    show 0 ≤ wc 6 i ∧ wc 6 i ≤ 9
    rw [q6 i a b]; decide
  · intro c a b
    show (0 ≤ wc 9 c ∧ wc 9 c < 1073741824) ∧ _
    refine ⟨by rw [zc 9 c (by decide) (by decide) (by decide) (by decide) (by decide) (by decide) (by decide) (by decide) (by decide) (by decide) (by decide) (by decide)]; decide, fun d d0 d1 => ?_⟩
    show tb (wc 9 c) d = true ↔ _
    rw [zc 9 c (by decide) (by decide) (by decide) (by decide) (by decide) (by decide) (by decide) (by decide) (by decide) (by decide) (by decide) (by decide), tb_0]
    refine ⟨fun q => by cases q, fun q => ?_⟩
    obtain ⟨k, k0, -⟩ := q
    rw [y0] at k0; omega
  · rw [kb 75 0 (by decide) (by decide), mz2 75 (by decide) (by decide), y0]
  · rw [kb 76 0 (by decide) (by decide), mz2 76 (by decide) (by decide), y0]
  · rw [kb 77 0 (by decide) (by decide), mz2 77 (by decide) (by decide), y0]
  · rw [kb 78 0 (by decide) (by decide), mz2 78 (by decide) (by decide), y0]
  · intro c a b; rw [y0] at b; omega
  · intro d a b
    have := mz4 d a b
    rw [kb 80 d (by decide) (by decide), y2]
    rw [show (30 * 0 + d : Int) = d by omega] at this
    exact this
  · intro i a b; rw [y0] at b; omega
  · intro i a b
    have := mz6 (i / 12) (i % 12) (by omega) (by omega)
    rw [kb 82 i (by decide) (by decide), y4]
    rw [show (144 * 0 + 12 * (i / 12) + i % 12 : Int) = i by omega] at this
    exact this
  · intro i a b; rw [y0] at b; omega
  · exact okY_0
  · rw [q16]; decide
  · rw [q16]; decide
  · rw [q16]; decide
  · intro o a b
    rw [zm 120 o (by decide) (by decide) (by decide) (by decide) (by decide) (by decide) (by decide) (by decide) (by decide) (by decide) (by decide), zc 28 o (by decide) (by decide) (by decide) (by decide) (by decide) (by decide) (by decide) (by decide) (by decide) (by decide) (by decide) (by decide)]; decide
  · intro c a b
    rw [(fg6 c a b).1.1, (fg6 c a b).1.2, zc 32 c (by decide) (by decide) (by decide) (by decide) (by decide) (by decide) (by decide) (by decide) (by decide) (by decide) (by decide) (by decide), zc 33 c (by decide) (by decide) (by decide) (by decide) (by decide) (by decide) (by decide) (by decide) (by decide) (by decide) (by decide) (by decide)]; decide
  · intro x
    rw [zm 91 x (by decide) (by decide) (by decide) (by decide) (by decide) (by decide) (by decide) (by decide) (by decide) (by decide) (by decide), zc 30 x (by decide) (by decide) (by decide) (by decide) (by decide) (by decide) (by decide) (by decide) (by decide) (by decide) (by decide) (by decide), zm 92 x (by decide) (by decide) (by decide) (by decide) (by decide) (by decide) (by decide) (by decide) (by decide) (by decide) (by decide), zc 31 x (by decide) (by decide) (by decide) (by decide) (by decide) (by decide) (by decide) (by decide) (by decide) (by decide) (by decide) (by decide)]; decide
  · intro c a b
    refine ⟨by rw [zc 32 c (by decide) (by decide) (by decide) (by decide) (by decide) (by decide) (by decide) (by decide) (by decide) (by decide) (by decide) (by decide)]; decide, by rw [zc 33 c (by decide) (by decide) (by decide) (by decide) (by decide) (by decide) (by decide) (by decide) (by decide) (by decide) (by decide) (by decide)]; decide, fun k k0 k1 => ?_⟩
    rw [zc 32 c (by decide) (by decide) (by decide) (by decide) (by decide) (by decide) (by decide) (by decide) (by decide) (by decide) (by decide) (by decide)] at k1; omega
  · exact q34 8 (by decide) (by decide)
  · rw [k73 39 (by decide) (by decide) (by decide) (by decide) (by decide)]; decide
  · rw [k73 40 (by decide) (by decide) (by decide) (by decide) (by decide), k73 41 (by decide) (by decide) (by decide) (by decide) (by decide)]; decide
  · intro c _; exact Or.inl (zm 93 c (by decide) (by decide) (by decide) (by decide) (by decide) (by decide) (by decide) (by decide) (by decide) (by decide) (by decide))
  · rw [k73 45 (by decide) (by decide) (by decide) (by decide) (by decide), zc 39 1 (by decide) (by decide) (by decide) (by decide) (by decide) (by decide) (by decide) (by decide) (by decide) (by decide) (by decide) (by decide)]; decide
  · rw [zc 39 1 (by decide) (by decide) (by decide) (by decide) (by decide) (by decide) (by decide) (by decide) (by decide) (by decide) (by decide) (by decide)]; decide
  · intro i a b
    rw [zc 39 1 (by decide) (by decide) (by decide) (by decide) (by decide) (by decide) (by decide) (by decide) (by decide) (by decide) (by decide) (by decide)] at b; omega
  · rw [k73 44 (by decide) (by decide) (by decide) (by decide) (by decide), q44]; decide
  · rw [k73 46 (by decide) (by decide) (by decide) (by decide) (by decide), q44]; decide
  · rw [fg4, q44]; decide
  · rw [q44]; decide
  · rw [q44]; decide
  · intro r a b
    rw [zm 95 r (by decide) (by decide) (by decide) (by decide) (by decide) (by decide) (by decide) (by decide) (by decide) (by decide) (by decide), zc 45 r (by decide) (by decide) (by decide) (by decide) (by decide) (by decide) (by decide) (by decide) (by decide) (by decide) (by decide) (by decide)]; decide
  · intro x a b
    rw [fg7 x a b, zc 46 x (by decide) (by decide) (by decide) (by decide) (by decide) (by decide) (by decide) (by decide) (by decide) (by decide) (by decide) (by decide)]; decide
  · intro c d a b e g
    exact zc 46 _ (by decide) (by decide) (by decide) (by decide) (by decide) (by decide) (by decide) (by decide) (by decide) (by decide) (by decide) (by decide)
  · intro x a b
    rw [fg8 x a b, zc 47 x (by decide) (by decide) (by decide) (by decide) (by decide) (by decide) (by decide) (by decide) (by decide) (by decide) (by decide) (by decide)]; decide
  · intro i a b
    rw [q44] at b
    rw [if_neg (by decide)] at b; omega
  · rw [q0]; decide
  · intro c a b
    rw [(fg6 c a b).2.1.1, (fg6 c a b).2.1.2, zc 59 c (by decide) (by decide) (by decide) (by decide) (by decide) (by decide) (by decide) (by decide) (by decide) (by decide) (by decide) (by decide), zc 60 c (by decide) (by decide) (by decide) (by decide) (by decide) (by decide) (by decide) (by decide) (by decide) (by decide) (by decide) (by decide)]; decide
  · intro k a b
    rw [zc 55 k (by decide) (by decide) (by decide) (by decide) (by decide) (by decide) (by decide) (by decide) (by decide) (by decide) (by decide) (by decide), zc 56 k (by decide) (by decide) (by decide) (by decide) (by decide) (by decide) (by decide) (by decide) (by decide) (by decide) (by decide) (by decide), zc 57 k (by decide) (by decide) (by decide) (by decide) (by decide) (by decide) (by decide) (by decide) (by decide) (by decide) (by decide) (by decide), zc 58 k (by decide) (by decide) (by decide) (by decide) (by decide) (by decide) (by decide) (by decide) (by decide) (by decide) (by decide) (by decide)]; decide
  · intro k a b
    rw [zm 106 (4 * k) (by decide) (by decide) (by decide) (by decide) (by decide) (by decide) (by decide) (by decide) (by decide) (by decide) (by decide), zc 55 k (by decide) (by decide) (by decide) (by decide) (by decide) (by decide) (by decide) (by decide) (by decide) (by decide) (by decide) (by decide), zm 106 (4 * k + 1) (by decide) (by decide) (by decide) (by decide) (by decide) (by decide) (by decide) (by decide) (by decide) (by decide) (by decide), zc 56 k (by decide) (by decide) (by decide) (by decide) (by decide) (by decide) (by decide) (by decide) (by decide) (by decide) (by decide) (by decide), zm 106 (4 * k + 2) (by decide) (by decide) (by decide) (by decide) (by decide) (by decide) (by decide) (by decide) (by decide) (by decide) (by decide), zc 57 k (by decide) (by decide) (by decide) (by decide) (by decide) (by decide) (by decide) (by decide) (by decide) (by decide) (by decide) (by decide), zm 106 (4 * k + 3) (by decide) (by decide) (by decide) (by decide) (by decide) (by decide) (by decide) (by decide) (by decide) (by decide) (by decide), zc 58 k (by decide) (by decide) (by decide) (by decide) (by decide) (by decide) (by decide) (by decide) (by decide) (by decide) (by decide) (by decide)]; decide
  · intro c a b
    rw [(fg6 c a b).2.2.1, (fg6 c a b).2.2.2, zc 63 c (by decide) (by decide) (by decide) (by decide) (by decide) (by decide) (by decide) (by decide) (by decide) (by decide) (by decide) (by decide), q64 c a b]; decide
  · rw [fg3, zc 62 3 (by decide) (by decide) (by decide) (by decide) (by decide) (by decide) (by decide) (by decide) (by decide) (by decide) (by decide) (by decide)]
  · rw [zc 62 3 (by decide) (by decide) (by decide) (by decide) (by decide) (by decide) (by decide) (by decide) (by decide) (by decide) (by decide) (by decide)]; decide
  · intro i a b
    rw [zc 62 3 (by decide) (by decide) (by decide) (by decide) (by decide) (by decide) (by decide) (by decide) (by decide) (by decide) (by decide) (by decide)] at b; omega
  · intro o a b
    rw [zm 116 o (by decide) (by decide) (by decide) (by decide) (by decide) (by decide) (by decide) (by decide) (by decide) (by decide) (by decide), zc 70 o (by decide) (by decide) (by decide) (by decide) (by decide) (by decide) (by decide) (by decide) (by decide) (by decide) (by decide) (by decide), zm 118 o (by decide) (by decide) (by decide) (by decide) (by decide) (by decide) (by decide) (by decide) (by decide) (by decide) (by decide), zc 72 o (by decide) (by decide) (by decide) (by decide) (by decide) (by decide) (by decide) (by decide) (by decide) (by decide) (by decide) (by decide)]; decide
  · intro x a b
    rw [fg9 x a b, zc 71 x (by decide) (by decide) (by decide) (by decide) (by decide) (by decide) (by decide) (by decide) (by decide) (by decide) (by decide) (by decide)]; decide
/-! the law's prefix -/
section ZBN
variable {L : Nat} {xs : Nat → Int32} {l : Launch} {M : zM} {d bc bs : Nat} {Q : Option Value → zS → zW → Prop} {X : String → zS → zW → Prop} {pc : Nat} {lo st : List Value} {S : zS} {w : zW}
theorem zBN_new {idx ci N bc2 bs2 : Nat} {C : String} {T : u_T} {fs : List Nat} {ty : Nat → FieldType} (hd : decode M.2.1 pc = .ok (.new idx, 3)) (hcl : vwCl[ci]? = some (C, T, N)) (hws : ∀ w ∈ u_ws C T N, w ∈ zTB) (hty : ∀ k, k < N → parseFieldDescriptor (T k).2.2.1 = some (ty k)) (hlk : Cond.classLink M.1.cls idx C ∈ zTB) (hinst : Cond.instantiable C N ∈ zTB) (hini : Cond.initialized C ∈ zTB)
    (hfs : (List.range N).all (fun j => zdb (ty j) fs[j]?) = true) (hfl : fs.length = N) (hw : ∀ x : Int, w S.length x = 0) (hb : bc = bc2 + 1 ∧ bs = bs2 + N) (hl : S.length + 1 < 1000) (kk : zB L xs l M true d bc2 bs2 Q X (pc + 3) lo (zR S.length :: st) (S ++ [.inr (ci, fs)]) w) : zB L xs l M true d bc bs Q X pc lo st S w := by
  intro p e R s m args below meth c Z G ad A hC H locs ls cells slots hR hS hL hc hs
  obtain ⟨h1, h2, h3, h4, h5, h6, ⟨n0, h7⟩, h8, h9, h10, h11, h12, h13, h14⟩ := id hC.1
  obtain ⟨hsz, had⟩ := hR.2.2.2.2 rfl
  have hKn := hR.2.1.1 ci _ hcl
  refine W.newcK h1 h2 h4 (h5 _ hlk) (h5 _ hinst) (h5 _ hini) rfl hd (by omega) (by omega) hKn.2.1 rfl (fun H1 kC hkC e1 z1 o1 => ?_)
  have hA : A H.size := by rw [h7]; exact Or.inr hS.1
  have hat : va_at G.1 vwCl (H.size, zent G ad w S.length (.inr (ci, fs))) H1 := by
    refine ⟨_, hcl, (u_born ty h5 hws hKn hkC e1 hty).to (fun j hj => ?_)⟩
    have hj2 := List.all_eq_true.mp hfs j (List.mem_range.mpr hj)
    show defaultValue (ty j) = vp_V (fs.mapIdx (fun k f => zcv ad (zfv w S.length k f))) j
    unfold vp_V
    rw [List.getD_eq_getElem?_getD, List.getElem?_mapIdx]
    rcases zdb_s hj2 with ⟨q1, q2⟩ | ⟨q1, q2⟩
    · rw [q1, q2]
      show Value.int 0 = Value.int (Int32.ofInt (w S.length (j : Int)))
      rw [hw]; rfl
    · rw [q1, q2]; rfl
  have hR' := zRp_push (x := .inr (ci, fs)) hR hl rfl z1 o1 hat hA
  have k := kk p e R s m args below meth c Z G ad A hC H1 locs ls (cells + 1) (slots + N) hR' (va_S_push hS z1 o1) hL (by omega) (by omega)
  rw [hsz]
  exact k
theorem zBN_newa {atype : ArrayType} {t n bc2 bs2 : Nat} (hd : decode M.2.1 pc = .ok (.newarray atype, 2)) (ht : (atype = .int ∧ t = 0) ∨ (atype = .boolean ∧ t = 1) ∨ (atype = .long ∧ t = 2)) (harr : Cond.arrayClass (newarray.typeOf atype) ∈ zTB) (hn : n < 100000) (hw : ∀ x : Int, w S.length x = 0) (hb : bc = bc2 + 1 ∧ bs = bs2 + n) (hl : S.length + 1 < 1000) (kk : zB L xs l M true d bc2 bs2 Q X (pc + 2) lo (zR S.length :: st) (S ++ [.inl (t, n)]) w) : zB L xs l M true d bc bs Q X pc lo (zI (n : Int) :: st) S w := by
  intro p e R s m args below meth c Z G ad A hC H locs ls cells slots hR hS hL hc hs
  obtain ⟨h1, h2, h3, h4, h5, h6, ⟨n0, h7⟩, h8, h9, h10, h11, h12, h13, h14⟩ := id hC.1
  obtain ⟨hsz, had⟩ := hR.2.2.2.2 rfl
  have hni : (Int32.ofInt (n : Int)).toInt = (n : Int) := inR_n ⟨by omega, by omega⟩
  have hneg : ¬ Int32.ofInt (n : Int) < 0 := by
    have : ¬ (n : Int) < 0 := by omega
    exact fun q => this ((zlt ⟨by omega, by omega⟩ ⟨by decide, by decide⟩).mp (show Int32.ofInt (n : Int) < Int32.ofInt 0 from q))
  have hcl : (Int32.ofInt (n : Int)).toNatClampNeg = n := by
    show (Int32.ofInt (n : Int)).toInt.toNat = n
    rw [hni]; simp
  refine va_newaK h1 h2 (h5 _ harr) rfl hd rfl hneg hcl (by rcases ht with ⟨rfl, -⟩ | ⟨rfl, -⟩ | ⟨rfl, -⟩ <;> simp [newarray.typeOf, componentBytes] <;> omega) (by omega) (by omega) rfl (fun H1 cA e1 z1 o1 hAr hNm => ?_)
  have hA : A H.size := by rw [h7]; exact Or.inr hS.1
  have hat : va_at G.1 vwCl (H.size, zent G ad w S.length (.inl (t, n))) H1 := by
    rcases ht with ⟨rfl, rfl⟩ | ⟨rfl, rfl⟩ | ⟨rfl, rfl⟩
    · have hg : s.vm.findClass ("[" ++ (FieldType.int).toString) = some (G.2 0) := (hR.2.1.2 0 (G.2 0, .int) rfl).2
      have hcA : cA = G.2 0 := Option.some.inj (hNm.symm.trans hg)
      subst hcA
      show H1[H.size]? = some (arrV (G.2 0) n (fun j => .int (Int32.ofInt (w S.length (j : Int)))))
      rw [e1]
      congr 2
      funext j
      rw [hw]; rfl
    · have hg : s.vm.findClass ("[" ++ (FieldType.boolean).toString) = some (G.2 1) := (hR.2.1.2 1 (G.2 1, .boolean) rfl).2
      have hcA : cA = G.2 1 := Option.some.inj (hNm.symm.trans hg)
      subst hcA
      show H1[H.size]? = some (arrV (G.2 1) n (fun j => .int (Int32.ofInt (w S.length (j : Int)))))
      rw [e1]
      congr 2
      funext j
      rw [hw]; rfl
    · have hg : s.vm.findClass ("[" ++ (FieldType.long).toString) = some (G.2 2) := (hR.2.1.2 2 (G.2 2, .long) rfl).2
      have hcA : cA = G.2 2 := Option.some.inj (hNm.symm.trans hg)
      subst hcA
      show H1[H.size]? = some (arrV (G.2 2) n (fun j => .long (Int64.ofInt (w S.length (j : Int)))))
      rw [e1]
      congr 2
      funext j
      rw [hw]; rfl
  have hR' := zRp_push (x := .inl (t, n)) hR hl rfl z1 o1 hat hA
  have k := kk p e R s m args below meth c Z G ad A hC H1 locs ls (cells + 1) (slots + n) hR' (va_S_push hS z1 o1) hL (by omega) (by omega)
  rw [hsz]
  exact k
theorem zBN_callI {gr : Bool} {M' : zM} {idx d' bc' bs' bc2 bs2 n o : Nat} {As stk : List Value} {Q' : Option Value → zS → zW → Prop} (hd : decode M.2.1 pc = .ok (.invokespecial idx, 3)) (hm : zMI M' n) (hlk : zLk1 M.1.cls idx M') (hsp : zSp l M' gr d' bc' bs' (zR o :: As) S w Q' zNo) (hdd : d' < d) (hst : stk = As.reverse ++ zR o :: st) (hn : As.length = n) (hcat : (st.map fun v => v.category).sum ≤ 8) (hb : bc = bc' + bc2 ∧ bs = bs' + bs2)
    (kk : ∀ v S' w', Q' v S' w' → zB L xs l M gr d bc2 bs2 Q X (pc + 3) lo (v.toList ++ st) S' w') : zB L xs l M gr d bc bs Q X pc lo stk S w := by
  intro p e R s m args below meth c Z G ad A hC H locs ls cells slots hR hS hL hc hs
  subst hst
  obtain ⟨h1, h2, h3, h4, h5, h6, ⟨n0, h7⟩, h8, h9, h10, h11, h12, h13, h14⟩ := id hC.1
  obtain ⟨⟨g1, g2, g3⟩, g0, gr0, gn, gm, gd⟩ := hm
  have hsz : ls.size = M.2.2.1 := hL.1.1
  obtain ⟨hbc, hbs⟩ := hb
  have hcd : zcode M' = Cond.code M'.1 M'.2.1 M'.2.2.1 none := by unfold zcode; rw [g0, gr0]
  have hG : GoodIn zTB (zcode M' :: zTB) := fun w hm => by
    have : w ∈ zTB := by
      rcases List.mem_cons.mp hm with rfl | hm
      · exact g3
      · exact hm
    exact ⟨this, good_of_word (zTB_good this)⟩
  have hrun := va_runI (b := ad o) (As := As.map (zcv ad)) (rest := st.map (zcv ad)) (g := F0 m pc ls ((As.reverse ++ zR o :: st).map (zcv ad))) (H := H) (locs := locs) (cells := cells) (slots := slots) (R := R) (meth := meth) (below := below) (e := e) ⟨h1, h2, h3, h4, h5⟩ (zMet_of (hsp h6 G ad H.size) (fun E st t hx => by obtain ⟨⟨S', w', hx, -⟩, -⟩ := hx; exact hx))
    (cwI n h5 hG (by rw [hcd]) rfl rfl (h5 _ g2) (h5 _ hlk) (h5 _ g1) gn gd ⟨by show d' + 6 + 1 ≤ R.frames; omega, by show 8 + (M'.2.2.1 + 11) + (60 * d' + 100) ≤ R.locals; omega⟩)
    ⟨zPre_blind _ _ _ _ _ _ _, fun U hU hW => ⟨rfl, zPre_of h7 hR hS h9 hU hW⟩⟩ rfl (by rw [List.length_map]; exact hn) hsz (by simp [zcv]) (by show 2 * 0 + _ ≤ 8; rw [zcv_sum]; omega) hd ⟨by show cells + bc' ≤ R.cells; omega, by show slots + bs' ≤ R.slots; omega⟩
  have hsub := zFA_sub h7 hR hS
  intro T hT X
  obtain ⟨v0, st₀, t, T', Ls, h0, Y, hL', e1, e2, ⟨⟨v, S', w', hv, hq, hR'⟩, hF⟩, stp⟩ := hrun T hT X
  cases hv
  obtain ⟨-, -, k3⟩ := vx_keep h0 e1 hS (fun q _ h => hsub q h) hsub hL' hF
  have hal : s.vm.Alike t.vm := by rw [← e2]; exact Y.warmed.alike
  have := kk v S' w' hq p e R s m args below meth c Z G ad A hC T'.heap (locs ++ Ls) ls (cells + bc') (slots + bs') (zRp.moved hal.symm e1 hsub hR') k3 hL (by omega) (by omega)
  obtain ⟨t2, a1, b1⟩ := this T' rfl Y
  refine ⟨t2, stp t2 ?_, b1⟩
  rw [List.map_append] at a1
  cases v <;> exact a1
end ZBN
set_option maxRecDepth 100000 in
set_option maxHeartbeats 8000000 in
theorem law_pre {L : Nat} {xs : Nat → Int32} {l : Launch} (hL : L ≤ 3072) {w0 : zW} (hz : ∀ (c : Nat) (x : Int), w0 c x = if c = 74 then -1 else 0) : zB L xs l mL_law true 16 200000 400000 QL zNo 0 [zR 4000, .null, .null, .null, .null, .null, .null] [] [] w0 := by
  have h0 : ∀ (c : Nat) (x : Int), c ≠ 74 → w0 c x = 0 := fun c x h => by rw [hz, if_neg h]
  refine zBN_new (N := 17) (bc2 := 199999) (bs2 := 399983) (fs := [1, 0, 0, 1, 1, 1, 1, 1, 1, 1, 1, 1, 1, 0, 1, 1, 1]) (ty := tyX11) dL_law_0 zclX11.1 zclX11.2.1 tyX11_ok (zin 126 (by decide +kernel) rfl) (zin 127 (by decide +kernel) rfl) (zin 100 (by decide +kernel) rfl) rfl rfl (fun x => h0 _ x (by decide)) ⟨rfl, rfl⟩ (by decide) ?_
  show zB L xs l mL_law true 16 199999 399983 QL zNo 3 [zR 4000, .null, .null, .null, .null, .null, .null] [zR 0] ([] ++ [.inr (10, [1, 0, 0, 1, 1, 1, 1, 1, 1, 1, 1, 1, 1, 0, 1, 1, 1])]) w0
  refine zB_dup dL_law_3 rfl ?_
  refine zBN_callI (As := []) (st := [zR 0]) (bc2 := 199927) (bs2 := 333042) dL_law_4 jX11 kL_122 (n_X11 (S0 := []) (w := w0) rfl (fun c x _ b => h0 c x (by omega))) (by decide) rfl rfl (Nat.le_of_ble_eq_true rfl) ⟨rfl, rfl⟩ (fun v S1 w1 q1 => ?_)
  have hq1 := q1
  obtain ⟨rfl, rfl, f, -⟩ := q1
  show zB L xs l mL_law true 16 199927 333042 QL zNo 7 [zR 4000, .null, .null, .null, .null, .null, .null] [zR 0] ((ZZ 4 10 3).take 73) w1
  refine zB_astore_n (lo1 := [zR 4000, zR 0, .null, .null, .null, .null, .null]) dL_law_7 (by decide) rfl rfl ?_
  have h1 : ∀ (c : Nat) (x : Int), 73 ≤ c → c ≠ 74 → w1 c x = 0 := fun c x a b => by
    rw [f c x (by omega) (by omega) (by omega) (by omega) (by omega) (by omega) (by omega) (by omega) (by omega) (by omega) (by omega)]
    exact h0 c x b
  refine zBN_new (N := 83) (bc2 := 199926) (bs2 := 332959) (fs := [1, 0, 1, 1, 1, 1, 1, 1, 1, 1, 1, 1, 0, 0, 0, 0, 0, 0, 0, 0, 0, 0, 1, 1, 1, 1, 0, 0, 0, 1, 1, 1, 1, 0, 0, 0, 0, 0, 1, 0, 0, 0, 0, 1, 0, 0, 0, 0, 1, 1, 1, 1, 1, 1, 0, 0, 0, 0, 0, 1, 1, 1, 1, 1, 1, 1, 1, 1, 1, 1, 1, 0, 0, 1, 1, 1, 0, 0, 1, 1, 1, 1, 1]) (ty := tyX12) dL_law_8 zclX12.1 zclX12.2.1 tyX12_ok (zin 1530 (by decide +kernel) rfl) (zin 1531 (by decide +kernel) rfl) (zin 112 (by decide +kernel) rfl) rfl rfl (fun x => h1 _ x (by decide) (by decide)) ⟨rfl, rfl⟩ (by decide) ?_
  show zB L xs l mL_law true 16 199926 332959 QL zNo 11 [zR 4000, zR 0, .null, .null, .null, .null, .null] [zR 73] ((ZZ 4 10 3).take 73 ++ [.inr (11, [1, 0, 1, 1, 1, 1, 1, 1, 1, 1, 1, 1, 0, 0, 0, 0, 0, 0, 0, 0, 0, 0, 1, 1, 1, 1, 0, 0, 0, 1, 1, 1, 1, 0, 0, 0, 0, 0, 1, 0, 0, 0, 0, 1, 0, 0, 0, 0, 1, 1, 1, 1, 1, 1, 0, 0, 0, 0, 0, 1, 1, 1, 1, 1, 1, 1, 1, 1, 1, 1, 1, 0, 0, 1, 1, 1, 0, 0, 1, 1, 1, 1, 1])]) w1
  refine zB_dup dL_law_11 rfl ?_
  refine zBN_callI (As := []) (st := [zR 73]) (bc2 := 199879) (bs2 := 313127) dL_law_12 jX12 kL_125 (n_X12 (S0 := (ZZ 4 10 3).take 73) (w := w1) rfl (fun c x a _ b => h1 c x a b) (fun x => by rw [f 74 x (by decide) (by decide) (by decide) (by decide) (by decide) (by decide) (by decide) (by decide) (by decide) (by decide) (by decide), hz]; rfl)) (by decide) rfl rfl (Nat.le_of_ble_eq_true rfl) ⟨rfl, rfl⟩ (fun v S1 wc q2 => ?_)
  have hsim : zSim 0 4 10 3 wc := zSim_0 hz hq1 q2
  have h121 : ∀ x : Int, wc 121 x = 0 := fun x => by
    obtain ⟨-, -, wa, wb, hfr, -, -, hmz, hfg⟩ := q2
    rw [hfg.1 121 x (by decide) (by decide) (by decide) (by decide) (by decide) (by decide) (by decide) (by decide) (by decide) (Or.inl (by decide)), hmz.1 121 x (Or.inr (by decide)) (by decide) (by decide), hfr 121 x (by decide) (by decide)]
    exact h1 121 x (by decide) (by decide)
  obtain ⟨rfl, rfl, -⟩ := q2
  show zB L xs l mL_law true 16 199879 313127 QL zNo 15 [zR 4000, zR 0, .null, .null, .null, .null, .null] [zR 73] (ZY 4 10 3) wc
  refine zB_astore_n (lo1 := [zR 4000, zR 0, zR 73, .null, .null, .null, .null]) dL_law_15 (by decide) rfl rfl ?_
  refine zB_iconst dL_law_16 ?_
  refine zBN_newa (t := 2) (n := 1) (bc2 := 199878) (bs2 := 313126) dL_law_17 (Or.inr (Or.inr ⟨rfl, rfl⟩)) zin_long (by decide) (fun x => h121 x) ⟨rfl, rfl⟩ (by decide) ?_
  show zB L xs l mL_law true 16 199878 313126 QL zNo 19 [zR 4000, zR 0, zR 73, .null, .null, .null, .null] [zR 121] (ZZ 4 10 3) wc
  refine zB_astore_n (lo1 := [zR 4000, zR 0, zR 73, zR 121, .null, .null, .null]) dL_law_19 (by decide) rfl rfl ?_
  refine zB_iconst dL_law_20 ?_
  refine zB_istore (lo1 := [zR 4000, zR 0, zR 73, zR 121, zI 0, .null, .null]) dL_law_21 (by decide) rfl rfl ?_
  refine zB_gr ?_
  exact zB_wk (by decide) (by decide) (law_loop hL 512 0 4 10 3 wc 0 hsim rfl (by omega) (by omega))
