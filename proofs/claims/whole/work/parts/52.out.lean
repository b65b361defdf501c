/-! ladders: what is out. wt: ladders that a chimney wants, vl: its courses, n chimneys, B ladders -/
def sOf (f : Int → Int) (S : Int) (n : Nat) : Int := zsum n (fun j => if tb S j = true then f j else 0)
def ahead (a b : Int) : Prop := ∃ c : Int, (0 ≤ c ∧ c < 12) ∧ tb a c = true ∧ tb b c = false ∧ ∀ j : Int, 0 ≤ j → j < c → tb a j = tb b j
def isOut (n : Nat) (wt vl : Int → Int) (B r : Int) : Prop := (0 ≤ r ∧ r < ((2 ^ n : Nat) : Int)) ∧ sOf wt r n ≤ B ∧ ∀ S : Int, 0 ≤ S → S < ((2 ^ n : Nat) : Int) → sOf wt S n ≤ B → S ≠ r → sOf vl S n < sOf vl r n ∨ (sOf vl S n = sOf vl r n ∧ ahead r S)
theorem ahead_as {a b : Int} (h : ahead a b) (k : ahead b a) : False := by
  obtain ⟨c, c0, c1, c2, c3⟩ := h
  obtain ⟨d, d0, d1, d2, d3⟩ := k
  rcases Int.lt_trichotomy c d with g | g | g
  · rw [d3 c c0.1 g, c1] at c2; cases c2
  · rw [g, d2] at c1; cases c1
  · rw [c3 d d0.1 g, d1] at d2; cases d2
theorem isOut_u {n : Nat} {wt vl : Int → Int} {B r r' : Int} (h : isOut n wt vl B r) (h' : isOut n wt vl B r') : r = r' := by
  refine Classical.byContradiction (fun hn => ?_)
  have h1 := h.2.2 r' h'.1.1 h'.1.2 h'.2.1 (fun e => hn e.symm)
  have h2 := h'.2.2 r h.1.1 h.1.2 h.2.1 hn
  rcases h1 with h1 | ⟨h1, h3⟩ <;> rcases h2 with h2 | ⟨h2, h4⟩
  · omega
  · omega
  · omega
  · exact ahead_as h3 h4
theorem isOut_c {n : Nat} {wt vl wt' vl' : Int → Int} {B r : Int} (h1 : ∀ c : Int, 0 ≤ c → c < n → wt c = wt' c) (h2 : ∀ c : Int, 0 ≤ c → c < n → vl c = vl' c) (h : isOut n wt vl B r) : isOut n wt' vl' B r := by
  have e1 : ∀ S, sOf wt' S n = sOf wt S n := fun S => zsum_c n (fun k hk => by rw [h1 k (by omega) (by omega)])
  have e2 : ∀ S, sOf vl' S n = sOf vl S n := fun S => zsum_c n (fun k hk => by rw [h2 k (by omega) (by omega)])
  refine ⟨h.1, by rw [e1]; exact h.2.1, fun S a b c d => ?_⟩
  rw [e1] at c
  rw [e2, e2]
  exact h.2.2 S a b c d
/-- the sum of what stands from a chimney on -/
def sfx (f : Int → Int) (S : Int) : Nat → Int → Int
  | 0, _ => 0
  | r + 1, c => (if tb S c = true then f c else 0) + sfx f S r (c + 1)
theorem sfx_s {f : Int → Int} {S : Int} : ∀ (r c : Nat), zsum c (fun j => if tb S j = true then f j else 0) + sfx f S r c = zsum (c + r) (fun j => if tb S j = true then f j else 0) := by
  intro r
  induction r with
  | zero => intro c; simp [sfx]
  | succ r ih =>
    intro c
    have h := ih (c + 1)
    rw [show c + 1 + r = c + (r + 1) by omega] at h
    rw [← h]
    simp only [sfx, zsum]
    rw [show ((c + 1 : Nat) : Int) = (c : Int) + 1 by omega]
    omega
def kF (wt vl : Int → Int) : Nat → Int → Int → Int
  | 0, _, _ => 0
  | r + 1, c, left => if wt c ≤ left then max (kF wt vl r (c + 1) left) (vl c + kF wt vl r (c + 1) (left - wt c)) else kF wt vl r (c + 1) left
theorem kF_b {wt vl : Int → Int} : ∀ (r : Nat) (c left : Int), (∀ j : Int, c ≤ j → j < c + r → 0 ≤ vl j ∧ vl j ≤ 200) → 0 ≤ kF wt vl r c left ∧ kF wt vl r c left ≤ r * 200 := by
  intro r
  induction r with
  | zero => intro c left _; simp [kF]
  | succ r ih =>
    intro c left h
    have h1 := ih (c + 1) left (fun j a b => h j (by omega) (by omega))
    have h2 := ih (c + 1) (left - wt c) (fun j a b => h j (by omega) (by omega))
    have h3 := h c (by omega) (by omega)
    simp only [kF]
    split <;> omega
theorem sfx_nn {wt : Int → Int} {S : Int} : ∀ (r : Nat) (c : Int), (∀ j : Int, c ≤ j → j < c + r → 0 ≤ wt j) → 0 ≤ sfx wt S r c := by
  intro r
  induction r with
  | zero => intro c _; simp [sfx]
  | succ r ih => intro c h; have := ih (c + 1) (fun j a b => h j (by omega) (by omega)); have := h c (by omega) (by omega); simp only [sfx]; split <;> omega
/-- no set is worth more -/
theorem kF_ub {wt vl : Int → Int} {S : Int} : ∀ (r : Nat) (c left : Int), (∀ j : Int, c ≤ j → j < c + r → 0 ≤ wt j) → sfx wt S r c ≤ left → sfx vl S r c ≤ kF wt vl r c left := by
  intro r
  induction r with
  | zero => intro c left _ _; simp [kF, sfx]
  | succ r ih =>
    intro c left h0 h
    have hnn : 0 ≤ sfx wt S r (c + 1) := sfx_nn r (c + 1) (fun j a b => h0 j (by omega) (by omega))
    simp only [sfx] at h ⊢
    simp only [kF]
    by_cases ht : tb S c = true
    · rw [if_pos ht] at h ⊢
      rw [if_pos (by omega)]
      have := ih (c + 1) (left - wt c) (fun j a b => h0 j (by omega) (by omega)) (by omega)
      omega
    · rw [if_neg ht] at h ⊢
      have := ih (c + 1) left (fun j a b => h0 j (by omega) (by omega)) (by omega)
      split <;> omega
theorem lad_b {a q : Int} (h0 : 1 ≤ a) (h1 : a ≤ 200) (q0 : 3 ≤ q) : 1 ≤ lad a q ∧ lad a q ≤ 400 := by
  unfold lad
  split
  · omega
  · have h2 : 0 ≤ (a - q + (q - 2) - 1) / (q - 2) := Int.ediv_nonneg (by omega) (by omega)
    have h3 : (a - q + (q - 2) - 1) / (q - 2) ≤ a - q + (q - 2) - 1 := Int.ediv_le_self _ (by omega)
    omega
set_option maxRecDepth 100000 in
set_option maxHeartbeats 4000000 in
theorem s_fillMost {l : Launch} {t dr tx : Nat} {w : zW} {y : Nat} (hy : y = 4 ∨ y = 10) (n0 : 0 ≤ w y 5) (n1 : w y 5 ≤ 12) (hcc : ∀ c : Int, 0 ≤ c → c < w y 5 → 1 ≤ w (y + 1) c ∧ w (y + 1) c ≤ 200) {q : Int} (q0 : 3 ≤ q) (q1 : q ≤ 99)  : zSp l mX2_fillMost false 2 0 0 [zR 39, zR y, zI q] (ZZ t dr tx) w (fun v' S' w' => v' = none ∧ S' = (ZZ t dr tx) ∧ only 43 w w' ∧ ∀ c l : Int, 0 ≤ c → c ≤ w y 5 → 0 ≤ l → l ≤ 200 → w' 43 (c * 201 + l) = kF (fun c => lad (w (y + 1) c) q) (w (y + 1)) (w y 5 - c).toNat c l) zNo := by
  refine zA_intro ⟨plainFor_of_name (by decide +kernel), Or.inl (by decide +kernel)⟩ rfl (Nat.le_of_ble_eq_true rfl) ?_
  refine zA_range (fun hr => ?_)
  show zA l mX2_fillMost false 2 0 0 (fun v' S' w' => v' = none ∧ S' = (ZZ t dr tx) ∧ only 43 w w' ∧ ∀ c l : Int, 0 ≤ c → c ≤ w y 5 → 0 ≤ l → l ≤ 200 → w' 43 (c * 201 + l) = kF (fun c => lad (w (y + 1) c) q) (w (y + 1)) (w y 5 - c).toNat c l) zNo 0 [zR 39, zR y, zI q, .null, .null, .null, .null] [] (ZZ t dr tx) w
  refine zA_iconst dX2_fillMost_0 ?_
  refine zA_istore_n (lo1 := [zR 39, zR y, zI q, zI 0, .null, .null, .null]) dX2_fillMost_1 (by decide) rfl rfl ?_
  have L2 : ∀ (z2 : Nat) (i : Int) (w1 : zW) (i0 : 0 ≤ i) (i1 : i ≤ 201) (hf : only 43 w w1) (hz : ∀ l : Int, 0 ≤ l → l < i → w1 43 (w y 5 * 201 + l) = 0) (zm : (201 - i).toNat < z2), zA l mX2_fillMost false 2 0 0 (fun v' S' w' => v' = none ∧ S' = (ZZ t dr tx) ∧ only 43 w w' ∧ ∀ c l : Int, 0 ≤ c → c ≤ w y 5 → 0 ≤ l → l ≤ 200 → w' 43 (c * 201 + l) = kF (fun c => lad (w (y + 1) c) q) (w (y + 1)) (w y 5 - c).toNat c l) zNo 2 [zR 39, zR y, zI q, zI i, .null, .null, .null] [] (ZZ t dr tx) w1 := by
    intro z2
    induction z2 with
    | zero => intro i w1 i0 i1 hf hz zm; exact absurd zm (Nat.not_lt_zero _)
    | succ z2 ih2 =>
      intro i w1 i0 i1 hf hz zm
      refine zA_range (fun hr => ?_)
      have e5 : w1 y 5 = w y 5 := hf y 5 (by omega)
      refine zA_iload_n dX2_fillMost_2 rfl ?_
      refine zA_sipush dX2_fillMost_3 rfl ?_
      refine zA_icmp_ge (tgt := 31) dX2_fillMost_6 (by decide) (by first | assumption | exact hr _ _ | exact inR_mk (by omega) (by omega)) ⟨by decide, by decide⟩ (fun c6 => ?_) (fun c6 => ?_)
      · skip
        refine zA_aload_n dX2_fillMost_31 rfl ?_
        refine zA_getI dX2_fillMost_32 fX2_36 (cY0 hy) rfl ?_
        refine zA_valI (w1 y 5) rfl ?_
        refine zA_iconst dX2_fillMost_35 ?_
        refine zA_isub dX2_fillMost_36 ?_
        refine zA_valI (w y 5 - 1) (by rw [e5]) ?_
        refine zA_istore_n (lo1 := [zR 39, zR y, zI q, zI (w y 5 - 1), .null, .null, .null]) dX2_fillMost_37 (by decide) rfl rfl ?_
        have L38 : ∀ (z38 : Nat) (c : Int) (w2 : zW) (c0 : -1 ≤ c) (c1 : c < w y 5) (hf2 : only 43 w w2) (hk : ∀ d : Int, c < d → d ≤ w y 5 → ∀ l : Int, 0 ≤ l → l ≤ 200 → w2 43 (d * 201 + l) = kF (fun c => lad (w (y + 1) c) q) (w (y + 1)) (w y 5 - d).toNat d l) (zm : (c + 1).toNat < z38), zA l mX2_fillMost false 2 0 0 (fun v' S' w' => v' = none ∧ S' = (ZZ t dr tx) ∧ only 43 w w' ∧ ∀ c l : Int, 0 ≤ c → c ≤ w y 5 → 0 ≤ l → l ≤ 200 → w' 43 (c * 201 + l) = kF (fun c => lad (w (y + 1) c) q) (w (y + 1)) (w y 5 - c).toNat c l) zNo 38 [zR 39, zR y, zI q, zI c, .null, .null, .null] [] (ZZ t dr tx) w2 := by
          intro z38
          induction z38 with
          | zero => intro c w2 c0 c1 hf2 hk zm; exact absurd zm (Nat.not_lt_zero _)
          | succ z38 ih38 =>
            intro c w2 c0 c1 hf2 hk zm
            refine zA_range (fun hr => ?_)
            refine zA_iload_n dX2_fillMost_38 rfl ?_
            refine zA_if_lt (tgt := 148) dX2_fillMost_39 (by decide) (by first | assumption | exact hr _ _ | exact inR_mk (by omega) (by omega)) (fun k39 => ?_) (fun k39 => ?_)
            · skip
              refine zA_vret dX2_fillMost_148 rfl ?_
              exact ⟨rfl, rfl, hf2, fun d l a b l0 l1 => hk d (by omega) b l l0 l1⟩
            · skip
              have e20 : w2 (y + 1) c = w (y + 1) c := hf2 _ _ (by omega)
              have hc1 := hcc c (by omega) (by omega)
              have hlb := lad_b (q := q) hc1.1 hc1.2 q0
              refine zA_aload_n dX2_fillMost_42 rfl ?_
              refine zA_getR (n := (y + 1)) dX2_fillMost_43 fX2_41 (cY0 hy) rfl ?_
              refine zA_iload_n dX2_fillMost_46 rfl ?_
              refine zA_iaload dX2_fillMost_47 (cY1 hy) (by first | assumption | omega) (by first | assumption | omega) (by decide) ?_
              refine zA_iload_n dX2_fillMost_48 rfl ?_
              refine zA_cS (st := []) dX2_fillMost_49 sX2_laddersFor kX2_44 (s_laddersFor (w := w2) (S := (ZZ t dr tx)) (a := w2 (y + 1) c) (q := q) (by omega) (by omega) q0 q1) (by decide) rfl rfl (Nat.le_of_ble_eq_true rfl) (zRt_el ?_)
              show zA l mX2_fillMost false 2 0 0 (fun v' S' w' => v' = none ∧ S' = (ZZ t dr tx) ∧ only 43 w w' ∧ ∀ c l : Int, 0 ≤ c → c ≤ w y 5 → 0 ≤ l → l ≤ 200 → w' 43 (c * 201 + l) = kF (fun c => lad (w (y + 1) c) q) (w (y + 1)) (w y 5 - c).toNat c l) zNo 52 [zR 39, zR y, zI q, zI c, .null, .null, .null] [zI (lad (w2 (y + 1) c) q)] (ZZ t dr tx) w2
              refine zA_valI (lad (w (y + 1) c) q) (by rw [e20]) ?_
              refine zA_istore (lo1 := [zR 39, zR y, zI q, zI c, zI (lad (w (y + 1) c) q), .null, .null]) dX2_fillMost_52 (by decide) rfl rfl ?_
              refine zA_iconst dX2_fillMost_54 ?_
              refine zA_istore (lo1 := [zR 39, zR y, zI q, zI c, zI (lad (w (y + 1) c) q), zI 0, .null]) dX2_fillMost_55 (by decide) rfl rfl ?_
              have L57 : ∀ (z57 : Nat) (i : Int) (w3 : zW) (i0 : 0 ≤ i) (i1 : i ≤ 201) (hf3 : only 43 w w3) (hko : ∀ d : Int, c < d → d ≤ w y 5 → ∀ l : Int, 0 ≤ l → l ≤ 200 → w3 43 (d * 201 + l) = kF (fun c => lad (w (y + 1) c) q) (w (y + 1)) (w y 5 - d).toNat d l) (hk3 : ∀ l : Int, 0 ≤ l → l < i → w3 43 (c * 201 + l) = kF (fun c => lad (w (y + 1) c) q) (w (y + 1)) (w y 5 - c).toNat c l) (zm : (201 - i).toNat < z57), zA l mX2_fillMost false 2 0 0 (fun v' S' w' => v' = none ∧ S' = (ZZ t dr tx) ∧ only 43 w w' ∧ ∀ c l : Int, 0 ≤ c → c ≤ w y 5 → 0 ≤ l → l ≤ 200 → w' 43 (c * 201 + l) = kF (fun c => lad (w (y + 1) c) q) (w (y + 1)) (w y 5 - c).toNat c l) zNo 57 [zR 39, zR y, zI q, zI c, zI (lad (w (y + 1) c) q), zI i, .null] [] (ZZ t dr tx) w3 := by
                intro z57
                induction z57 with
                | zero => intro i w3 i0 i1 hf3 hko hk3 zm; exact absurd zm (Nat.not_lt_zero _)
                | succ z57 ih57 =>
                  intro i w3 i0 i1 hf3 hko hk3 zm
                  refine zA_range (fun hr => ?_)
                  have e1 : w3 (y + 1) c = w (y + 1) c := hf3 _ _ (by omega)
                  refine zA_iload dX2_fillMost_57 rfl ?_
                  refine zA_sipush dX2_fillMost_59 rfl ?_
                  refine zA_icmp_ge (tgt := 142) dX2_fillMost_62 (by decide) (by first | assumption | exact hr _ _ | exact inR_mk (by omega) (by omega)) ⟨by decide, by decide⟩ (fun c62 => ?_) (fun c62 => ?_)
                  · skip
                    refine zA_iinc (lo1 := [zR 39, zR y, zI q, zI (c + (-1)), zI (lad (w (y + 1) c) q), zI i, .null]) dX2_fillMost_142 rfl (by decide) rfl rfl ?_
                    refine zA_goto (tgt := 38) dX2_fillMost_145 (by decide) ?_
                    refine zA_drop 4 (lo1 := [zR 39, zR y, zI q, zI (c + (-1)), .null, zI i, .null]) rfl ?_
                    refine zA_drop 5 (lo1 := [zR 39, zR y, zI q, zI (c + (-1)), .null, .null, .null]) rfl ?_
                    exact ih38 (c - 1) w3 (by omega) (by omega) hf3 (fun d a b l l0 l1 => by
                                by_cases hd : d = c
                                · rw [hd]; exact hk3 l l0 (by omega)
                                · exact hko d (by omega) b l l0 l1) (by omega)
                  · skip
                    have k1 := hko (c + 1) (by omega) (by omega) i i0 (by omega)
                    have kb := kF_b (wt := (fun c => lad (w (y + 1) c) q)) (vl := (w (y + 1))) (w y 5 - (c + 1)).toNat (c + 1) i (fun j a b => by have := hcc j (by omega) (by omega); exact ⟨by show 0 ≤ w (y + 1) j; omega, this.2⟩)
                    have hks : kF (fun c => lad (w (y + 1) c) q) (w (y + 1)) (w y 5 - c).toNat c i = (if lad (w (y + 1) c) q ≤ i then max (kF (fun c => lad (w (y + 1) c) q) (w (y + 1)) (w y 5 - (c + 1)).toNat (c + 1) i) (w (y + 1) c + kF (fun c => lad (w (y + 1) c) q) (w (y + 1)) (w y 5 - (c + 1)).toNat (c + 1) (i - lad (w (y + 1) c) q)) else kF (fun c => lad (w (y + 1) c) q) (w (y + 1)) (w y 5 - (c + 1)).toNat (c + 1) i) := by
                      rw [show (w y 5 - c).toNat = (w y 5 - (c + 1)).toNat + 1 by omega]
                      rfl
                    refine zA_aload_n dX2_fillMost_65 rfl ?_
                    refine zA_getR (n := 43) dX2_fillMost_66 fX2_25 c39 rfl ?_
                    refine zA_iload_n dX2_fillMost_69 rfl ?_
                    refine zA_iconst dX2_fillMost_70 ?_
                    refine zA_iadd dX2_fillMost_71 ?_
                    refine zA_sipush dX2_fillMost_72 rfl ?_
                    refine zA_imul dX2_fillMost_75 ?_
                    refine zA_iload dX2_fillMost_76 rfl ?_
                    refine zA_iadd dX2_fillMost_78 ?_
                    refine zA_iaload dX2_fillMost_79 c43 (by first | assumption | omega) (by first | assumption | omega) (by decide) ?_
                    refine zA_istore (lo1 := [zR 39, zR y, zI q, zI c, zI (lad (w (y + 1) c) q), zI i, zI (w3 43 (((c + 1) * 201) + i))]) dX2_fillMost_80 (by decide) rfl rfl ?_
                    refine zA_iload dX2_fillMost_82 rfl ?_
                    refine zA_iload dX2_fillMost_84 rfl ?_
                    refine zA_icmp_gt (tgt := 121) dX2_fillMost_86 (by decide) (by first | assumption | exact hr _ _ | exact inR_mk (by omega) (by omega)) (by first | assumption | exact hr _ _ | exact inR_mk (by omega) (by omega)) (fun c86 => ?_) (fun c86 => ?_)
                    · skip
                      refine zA_aload_n dX2_fillMost_121 rfl ?_
                      refine zA_getR (n := 43) dX2_fillMost_122 fX2_25 c39 rfl ?_
                      refine zA_iload_n dX2_fillMost_125 rfl ?_
                      refine zA_sipush dX2_fillMost_126 rfl ?_
                      refine zA_imul dX2_fillMost_129 ?_
                      refine zA_iload dX2_fillMost_130 rfl ?_
                      refine zA_iadd dX2_fillMost_132 ?_
                      refine zA_iload dX2_fillMost_133 rfl ?_
                      refine zA_valI (kF (fun c => lad (w (y + 1) c) q) (w (y + 1)) (w y 5 - c).toNat c i) (by first | rw [hks, if_neg (by omega), ← k1] | rw [hks, if_pos (by omega), ← k1, ← k2, e1]) ?_
                      have hkr : 0 ≤ kF (fun c => lad (w (y + 1) c) q) (w (y + 1)) (w y 5 - c).toNat c i ∧ kF (fun c => lad (w (y + 1) c) q) (w (y + 1)) (w y 5 - c).toNat c i ≤ 4000 := by have := kF_b (wt := (fun c => lad (w (y + 1) c) q)) (vl := (w (y + 1))) (w y 5 - c).toNat c i (fun j a b => by have := hcc j (by omega) (by omega); exact ⟨by show 0 ≤ w (y + 1) j; omega, this.2⟩); omega
                      refine zA_iastore dX2_fillMost_135 (by first | assumption | exact hr _ _ | exact inR_mk (by omega) (by omega)) c43 (by first | assumption | omega) (by first | assumption | omega) (by decide) ?_
                      refine zA_namew (fun w_1 hw_1 => ?_)
                      refine zA_range (fun hr => ?_)
                      replace hw_1 : w_1 = up w3 43 ((c * 201) + i) (kF (fun c => lad (w (y + 1) c) q) (w (y + 1)) (w y 5 - c).toNat c i) := hw_1
                      refine zA_iinc (lo1 := [zR 39, zR y, zI q, zI c, zI (lad (w (y + 1) c) q), zI (i + 1), zI (w3 43 (((c + 1) * 201) + i))]) dX2_fillMost_136 rfl (by decide) rfl rfl ?_
                      refine zA_goto (tgt := 57) dX2_fillMost_139 (by decide) ?_
                      refine zA_drop 6 (lo1 := [zR 39, zR y, zI q, zI c, zI (lad (w (y + 1) c) q), zI (i + 1), .null]) rfl ?_
                      exact ih57 (i + 1) _ (by omega) (by omega) (by rw [hw_1]; exact only_up hf3) (fun d a b l l0 l1 => by rw [hw_1, up_idx _ _ _ _ (by omega)]; exact hko d a b l l0 l1) (fun l a b => by
                                  rw [hw_1]
                                  by_cases hl : l = i
                                  · subst hl; rw [up_same]
                                  · rw [up_idx _ _ _ _ (by omega)]; exact hk3 l a (by omega)) (by omega)
                    · skip
                      have k2 := hko (c + 1) (by omega) (by omega) (i - lad (w (y + 1) c) q) (by omega) (by omega)
                      have kb2 := kF_b (wt := (fun c => lad (w (y + 1) c) q)) (vl := (w (y + 1))) (w y 5 - (c + 1)).toNat (c + 1) (i - lad (w (y + 1) c) q) (fun j a b => by have := hcc j (by omega) (by omega); exact ⟨by show 0 ≤ w (y + 1) j; omega, this.2⟩)
                      rw [show (c + 1) * 201 + (i - lad (w (y + 1) c) q) = (c + 1) * 201 + i - lad (w (y + 1) c) q by omega] at k2
                      refine zA_iload dX2_fillMost_89 rfl ?_
                      refine zA_aload_n dX2_fillMost_91 rfl ?_
                      refine zA_getR (n := (y + 1)) dX2_fillMost_92 fX2_41 (cY0 hy) rfl ?_
                      refine zA_iload_n dX2_fillMost_95 rfl ?_
                      refine zA_iaload dX2_fillMost_96 (cY1 hy) (by first | assumption | omega) (by first | assumption | omega) (by decide) ?_
                      refine zA_aload_n dX2_fillMost_97 rfl ?_
                      refine zA_getR (n := 43) dX2_fillMost_98 fX2_25 c39 rfl ?_
                      refine zA_iload_n dX2_fillMost_101 rfl ?_
                      refine zA_iconst dX2_fillMost_102 ?_
                      refine zA_iadd dX2_fillMost_103 ?_
                      refine zA_sipush dX2_fillMost_104 rfl ?_
                      refine zA_imul dX2_fillMost_107 ?_
                      refine zA_iload dX2_fillMost_108 rfl ?_
                      refine zA_iadd dX2_fillMost_110 ?_
                      refine zA_iload dX2_fillMost_111 rfl ?_
                      refine zA_isub dX2_fillMost_113 ?_
                      refine zA_iaload dX2_fillMost_114 c43 (by first | assumption | omega) (by first | assumption | omega) (by decide) ?_
                      refine zA_iadd dX2_fillMost_115 ?_
                      refine zA_mmax dX2_fillMost_116 kmX2_48 zw_max (by first | assumption | exact hr _ _ | exact inR_mk (by omega) (by omega)) (by first | assumption | exact hr _ _ | exact inR_mk (by omega) (by omega)) (Nat.le_of_ble_eq_true rfl) ?_
                      refine zA_istore (lo1 := [zR 39, zR y, zI q, zI c, zI (lad (w (y + 1) c) q), zI i, zI (max (w3 43 (((c + 1) * 201) + i)) ((w3 (y + 1) c) + (w3 43 ((((c + 1) * 201) + i) - (lad (w (y + 1) c) q)))))]) dX2_fillMost_119 (by decide) rfl rfl ?_
                      refine zA_aload_n dX2_fillMost_121 rfl ?_
                      refine zA_getR (n := 43) dX2_fillMost_122 fX2_25 c39 rfl ?_
                      refine zA_iload_n dX2_fillMost_125 rfl ?_
                      refine zA_sipush dX2_fillMost_126 rfl ?_
                      refine zA_imul dX2_fillMost_129 ?_
                      refine zA_iload dX2_fillMost_130 rfl ?_
                      refine zA_iadd dX2_fillMost_132 ?_
                      refine zA_iload dX2_fillMost_133 rfl ?_
                      refine zA_valI (kF (fun c => lad (w (y + 1) c) q) (w (y + 1)) (w y 5 - c).toNat c i) (by first | rw [hks, if_neg (by omega), ← k1] | rw [hks, if_pos (by omega), ← k1, ← k2, e1]) ?_
                      have hkr : 0 ≤ kF (fun c => lad (w (y + 1) c) q) (w (y + 1)) (w y 5 - c).toNat c i ∧ kF (fun c => lad (w (y + 1) c) q) (w (y + 1)) (w y 5 - c).toNat c i ≤ 4000 := by have := kF_b (wt := (fun c => lad (w (y + 1) c) q)) (vl := (w (y + 1))) (w y 5 - c).toNat c i (fun j a b => by have := hcc j (by omega) (by omega); exact ⟨by show 0 ≤ w (y + 1) j; omega, this.2⟩); omega
                      refine zA_iastore dX2_fillMost_135 (by first | assumption | exact hr _ _ | exact inR_mk (by omega) (by omega)) c43 (by first | assumption | omega) (by first | assumption | omega) (by decide) ?_
                      refine zA_namew (fun w_2 hw_2 => ?_)
                      refine zA_range (fun hr => ?_)
                      replace hw_2 : w_2 = up w3 43 ((c * 201) + i) (kF (fun c => lad (w (y + 1) c) q) (w (y + 1)) (w y 5 - c).toNat c i) := hw_2
                      refine zA_iinc (lo1 := [zR 39, zR y, zI q, zI c, zI (lad (w (y + 1) c) q), zI (i + 1), zI (max (w3 43 (((c + 1) * 201) + i)) ((w3 (y + 1) c) + (w3 43 ((((c + 1) * 201) + i) - (lad (w (y + 1) c) q)))))]) dX2_fillMost_136 rfl (by decide) rfl rfl ?_
                      refine zA_goto (tgt := 57) dX2_fillMost_139 (by decide) ?_
                      refine zA_drop 6 (lo1 := [zR 39, zR y, zI q, zI c, zI (lad (w (y + 1) c) q), zI (i + 1), .null]) rfl ?_
                      exact ih57 (i + 1) _ (by omega) (by omega) (by rw [hw_2]; exact only_up hf3) (fun d a b l l0 l1 => by rw [hw_2, up_idx _ _ _ _ (by omega)]; exact hko d a b l l0 l1) (fun l a b => by
                                  rw [hw_2]
                                  by_cases hl : l = i
                                  · subst hl; rw [up_same]
                                  · rw [up_idx _ _ _ _ (by omega)]; exact hk3 l a (by omega)) (by omega)
              exact L57 _ 0 w2 (by omega) (by omega) hf2 hk (fun l a b => by omega) (Nat.lt_succ_self _)
        exact L38 _ (w y 5 - 1) w1 (by omega) (by omega) hf (fun d a b l l0 l1 => by
                have e : d = w y 5 := by omega
                subst e
                rw [show (w y 5 - w y 5).toNat = 0 by omega]
                exact hz l l0 (by omega)) (Nat.lt_succ_self _)
      · skip
        refine zA_aload_n dX2_fillMost_9 rfl ?_
        refine zA_getR (n := 43) dX2_fillMost_10 fX2_25 c39 rfl ?_
        refine zA_aload_n dX2_fillMost_13 rfl ?_
        refine zA_getI dX2_fillMost_14 fX2_36 (cY0 hy) rfl ?_
        refine zA_valI (w1 y 5) rfl ?_
        refine zA_sipush dX2_fillMost_17 rfl ?_
        refine zA_imul dX2_fillMost_20 ?_
        refine zA_iload_n dX2_fillMost_21 rfl ?_
        refine zA_iadd dX2_fillMost_22 ?_
        refine zA_iconst dX2_fillMost_23 ?_
        refine zA_iastore dX2_fillMost_24 ⟨by decide, by decide⟩ c43 (by first | assumption | omega) (by first | assumption | omega) (by decide) ?_
        refine zA_namew (fun w_3 hw_3 => ?_)
        refine zA_range (fun hr => ?_)
        replace hw_3 : w_3 = up w1 43 (((w1 y 5) * 201) + i) 0 := hw_3
        refine zA_iinc (lo1 := [zR 39, zR y, zI q, zI (i + 1), .null, .null, .null]) dX2_fillMost_25 rfl (by decide) rfl rfl ?_
        refine zA_goto (tgt := 2) dX2_fillMost_28 (by decide) ?_
        exact ih2 (i + 1) _ (by omega) (by omega) (by rw [hw_3]; exact only_up hf) (fun l a b => by
                    rw [hw_3, e5]
                    by_cases hl : l = i
                    · subst hl; rw [up_same]
                    · rw [up_idx _ _ _ _ (by omega)]; exact hz l a (by omega)) (by omega)
  exact L2 _ 0 w (by omega) (by omega) only_rfl (fun l a b => by omega) (Nat.lt_succ_self _)

def outI (n : Nat) (wt vl : Int → Int) (B V lf st c : Int) : Prop := (∀ j : Int, c ≤ j → tb st j = false) ∧ zsum c.toNat (fun j => if tb st j = true then wt j else 0) + lf = B ∧ zsum c.toNat (fun j => if tb st j = true then vl j else 0) + kF wt vl (n - c.toNat) c lf = V ∧
  ∀ S : Int, 0 ≤ S → S < ((2 ^ n : Nat) : Int) → sOf wt S n ≤ B → (∀ j : Int, 0 ≤ j → j < c → tb S j = tb st j) ∨ ∃ d : Int, (0 ≤ d ∧ d < c) ∧ tb S d ≠ tb st d ∧ (∀ j : Int, 0 ≤ j → j < d → tb S j = tb st j) ∧ (sOf vl S n < V ∨ (sOf vl S n = V ∧ tb st d = true))
theorem sOf_split {f : Int → Int} {S c : Int} {n r : Nat} (h0 : 0 ≤ c) (hr : c.toNat + (r + 1) = n) : sOf f S n = zsum c.toNat (fun j => if tb S j = true then f j else 0) + ((if tb S c = true then f c else 0) + sfx f S r (c + 1)) := by
  have h := sfx_s (f := f) (S := S) (r + 1) c.toNat
  rw [hr, zcast h0] at h
  unfold sOf
  rw [← h]
  rfl
theorem outI_agree {f : Int → Int} {S st c : Int} (h : ∀ j : Int, 0 ≤ j → j < c → tb S j = tb st j) (h0 : 0 ≤ c) : zsum c.toNat (fun j => if tb S j = true then f j else 0) = zsum c.toNat (fun j => if tb st j = true then f j else 0) := zsum_c _ (fun k hk => by rw [h k (by omega) (by omega)])
theorem outI_take {n r : Nat} {wt vl : Int → Int} {B V lf st st' c : Int} (h0 : 0 ≤ c) (hr : c.toNat + (r + 1) = n) (hw : ∀ j : Int, 0 ≤ j → j < n → 0 ≤ wt j) (h : outI n wt vl B V lf st c) (h1 : wt c ≤ lf) (h2 : kF wt vl r (c + 1) lf ≤ vl c + kF wt vl r (c + 1) (lf - wt c)) (hs : ∀ j : Int, 0 ≤ j → tb st' j = (tb st j || decide (j = c))) : outI n wt vl B V (lf - wt c) st' (c + 1) := by
  obtain ⟨a1, a2, a3, a4⟩ := h
  have tc : tb st' c = true := by rw [hs c h0, decide_eq_true rfl, Bool.or_true]
  have to : ∀ j : Int, 0 ≤ j → j ≠ c → tb st' j = tb st j := fun j j0 hj => by rw [hs j j0, decide_eq_false hj, Bool.or_false]
  have ez : ∀ f : Int → Int, zsum c.toNat (fun j => if tb st' j = true then f j else 0) = zsum c.toNat (fun j => if tb st j = true then f j else 0) := fun f => zsum_c _ (fun k hk => by rw [to k (by omega) (by omega)])
  have es : ∀ f : Int → Int, zsum (c + 1).toNat (fun j => if tb st' j = true then f j else 0) = zsum c.toNat (fun j => if tb st j = true then f j else 0) + f c := fun f => by
    rw [zsucc h0]; simp only [zsum]; rw [zcast h0, ez, if_pos tc]
  have ek : n - c.toNat = r + 1 := by omega
  have ek1 : n - (c + 1).toNat = r := by omega
  rw [ek] at a3
  simp only [kF] at a3
  rw [if_pos h1] at a3
  refine ⟨fun j hj => by rw [to j (by omega) (by omega)]; exact a1 j (by omega), by rw [es]; omega, by rw [es, ek1]; omega, fun S s0 s1 s2 => ?_⟩
  rcases a4 S s0 s1 s2 with q | ⟨d, d0, d1, d2, d3⟩
  · by_cases tS : tb S c = true
    · refine Or.inl (fun j j0 j1 => ?_)
      by_cases hj : j = c
      · rw [hj, tS, tc]
      · rw [to j j0 hj]; exact q j j0 (by omega)
    · refine Or.inr ⟨c, by omega, by rw [tc]; exact tS, fun j j0 j1 => by rw [to j j0 (by omega)]; exact q j j0 j1, ?_⟩
      have w1 := sOf_split (f := wt) (S := S) h0 hr
      have v1 := sOf_split (f := vl) (S := S) h0 hr
      rw [if_neg tS, outI_agree q h0] at w1 v1
      have ub := kF_ub (wt := wt) (vl := vl) (S := S) r (c + 1) lf (fun j a b => hw j (by omega) (by omega)) (by omega)
      have : sOf vl S n ≤ V := by omega
      by_cases e : sOf vl S n = V
      · exact Or.inr ⟨e, tc⟩
      · exact Or.inl (by omega)
  · refine Or.inr ⟨d, by omega, by rw [to d d0.1 (by omega)]; exact d1, fun j j0 j1 => by rw [to j j0 (by omega)]; exact d2 j j0 j1, by rw [to d d0.1 (by omega)]; exact d3⟩
theorem outI_skip {n r : Nat} {wt vl : Int → Int} {B V lf st c : Int} (h0 : 0 ≤ c) (hr : c.toNat + (r + 1) = n) (hw : ∀ j : Int, 0 ≤ j → j < n → 0 ≤ wt j) (h : outI n wt vl B V lf st c) (h1 : ¬ (wt c ≤ lf) ∨ vl c + kF wt vl r (c + 1) (lf - wt c) < kF wt vl r (c + 1) lf) : outI n wt vl B V lf st (c + 1) := by
  obtain ⟨a1, a2, a3, a4⟩ := h
  have tc := a1 c (by omega)
  have es : ∀ f : Int → Int, zsum (c + 1).toNat (fun j => if tb st j = true then f j else 0) = zsum c.toNat (fun j => if tb st j = true then f j else 0) := fun f => by
    rw [zsucc h0]; simp only [zsum]; rw [zcast h0, tc]; simp
  have ek : n - c.toNat = r + 1 := by omega
  have ek1 : n - (c + 1).toNat = r := by omega
  rw [ek] at a3
  simp only [kF] at a3
  have ekk : kF wt vl (r + 1) c lf = kF wt vl r (c + 1) lf := by
    simp only [kF]
    rcases h1 with h1 | h1
    · rw [if_neg h1]
    · split <;> omega
  simp only [kF] at ekk
  rw [ekk] at a3
  refine ⟨fun j hj => a1 j (by omega), by rw [es]; exact a2, by rw [es, ek1]; exact a3, fun S s0 s1 s2 => ?_⟩
  rcases a4 S s0 s1 s2 with q | ⟨d, d0, d1, d2, d3⟩
  · by_cases tS : tb S c = true
    · refine Or.inr ⟨c, by omega, by rw [tc, tS]; decide, q, Or.inl ?_⟩
      have w1 := sOf_split (f := wt) (S := S) h0 hr
      have v1 := sOf_split (f := vl) (S := S) h0 hr
      rw [if_pos tS, outI_agree q h0] at w1 v1
      have nn := sfx_nn (wt := wt) (S := S) r (c + 1) (fun j a b => hw j (by omega) (by omega))
      have ub := kF_ub (wt := wt) (vl := vl) (S := S) r (c + 1) (lf - wt c) (fun j a b => hw j (by omega) (by omega)) (by omega)
      rcases h1 with h1 | h1
      · omega
      · omega
    · refine Or.inl (fun j j0 j1 => ?_)
      by_cases hj : j = c
      · rw [hj, tc]; simpa using tS
      · exact q j j0 (by omega)
  · exact Or.inr ⟨d, by omega, d1, d2, d3⟩
theorem outI_end {n : Nat} {wt vl : Int → Int} {B V lf st : Int} (hn : n ≤ 12) (l0 : 0 ≤ lf) (s0 : 0 ≤ st) (h : outI n wt vl B V lf st n) : isOut n wt vl B st := by
  obtain ⟨a1, a2, a3, a4⟩ := h
  rw [show (n : Int).toNat = n by omega] at a2 a3
  rw [Nat.sub_self] at a3
  simp only [kF] at a3
  have e1 : sOf wt st n + lf = B := a2
  have e2 : sOf vl st n = V := by unfold sOf; omega
  have hlt : st < ((2 ^ n : Nat) : Int) := by
    have h := tb_Mlt (m := (n : Int)) (by omega) s0 a1
    rwa [show (n : Int).toNat = n by omega] at h
  refine ⟨⟨s0, hlt⟩, by omega, fun S t0 t1 t2 t3 => ?_⟩
  rcases a4 S t0 t1 t2 with q | ⟨d, d0, d1, d2, d3⟩
  · refine absurd (tb_ext t0 s0 (fun j j0 => ?_)) t3
    by_cases hj : j < n
    · exact q j j0 hj
    · have h := tb_Mhi (m := (n : Int)) (D := S) (j := j) (by omega) (by rwa [show (n : Int).toNat = n by omega]) (by omega)
      rw [h, a1 j (by omega)]
  · rw [e2]
    rcases d3 with d3 | ⟨d3, d4⟩
    · exact Or.inl d3
    · refine Or.inr ⟨d3, d, by omega, d4, ?_, fun j j0 j1 => (d2 j j0 j1).symm⟩
      rw [d4] at d1
      simpa using d1
theorem outI_0 {n : Nat} {wt vl : Int → Int} {B : Int} : outI n wt vl B (kF wt vl n 0 B) B 0 0 := ⟨fun j _ => tb_0 j, by simp [zsum], by simp [zsum], fun S _ _ _ => Or.inl (fun j a b => by omega)⟩
set_option maxRecDepth 100000 in
set_option maxHeartbeats 4000000 in
theorem s_mostOut {l : Launch} {t dr tx : Nat} {w : zW} {y : Nat} (hy : y = 4 ∨ y = 10) (n0 : 0 ≤ w y 5) (n1 : w y 5 ≤ 12) (hcc : ∀ c : Int, 0 ≤ c → c < w y 5 → 1 ≤ w (y + 1) c ∧ w (y + 1) c ≤ 200) {q : Int} (q0 : 3 ≤ q) (q1 : q ≤ 99) {B : Int} (b0 : 0 ≤ B) (b1 : B ≤ 200) : zSp l mX2_mostOut false 3 0 0 [zR 39, zR y, zI B, zI q] (ZZ t dr tx) w (fun v' S' w' => S' = (ZZ t dr tx) ∧ only 43 w w' ∧ ∃ r, v' = some (zI r) ∧ isOut (w y 5).toNat (fun c => lad (w (y + 1) c) q) (w (y + 1)) B r) zNo := by
  refine zA_intro ⟨plainFor_of_name (by decide +kernel), Or.inl (by decide +kernel)⟩ rfl (Nat.le_of_ble_eq_true rfl) ?_
  refine zA_range (fun hr => ?_)
  show zA l mX2_mostOut false 3 0 0 (fun v' S' w' => S' = (ZZ t dr tx) ∧ only 43 w w' ∧ ∃ r, v' = some (zI r) ∧ isOut (w y 5).toNat (fun c => lad (w (y + 1) c) q) (w (y + 1)) B r) zNo 0 [zR 39, zR y, zI B, zI q, .null, .null, .null, .null, .null] [] (ZZ t dr tx) w
  refine zA_aload_n dX2_mostOut_0 rfl ?_
  refine zA_aload_n dX2_mostOut_1 rfl ?_
  refine zA_iload_n dX2_mostOut_2 rfl ?_
  refine zA_cV (st := []) dX2_mostOut_3 vX2_fillMost kX2_32 (s_fillMost (w := w) hy n0 n1 hcc q0 q1) (by decide) c39 rfl rfl (Nat.le_of_ble_eq_true rfl) rfl (fun q_1_v q_1_S q_1_w q_1 => ?_)
  obtain ⟨rfl, rfl, hfa, hka⟩ := q_1
  obtain ⟨wa, hwa⟩ : ∃ wa, wa = q_1_w := ⟨_, rfl⟩
  rw [← hwa] at hfa hka ⊢
  have ea5 : wa y 5 = w y 5 := hfa y 5 (by omega)
  refine zA_range (fun hr => ?_)
  show zA l mX2_mostOut false 3 0 0 (fun v' S' w' => S' = (ZZ t dr tx) ∧ only 43 w w' ∧ ∃ r, v' = some (zI r) ∧ isOut (w y 5).toNat (fun c => lad (w (y + 1) c) q) (w (y + 1)) B r) zNo 6 [zR 39, zR y, zI B, zI q, .null, .null, .null, .null, .null] [] (ZZ t dr tx) wa
  refine zA_iload_n dX2_mostOut_6 rfl ?_
  refine zA_istore (lo1 := [zR 39, zR y, zI B, zI q, zI B, .null, .null, .null, .null]) dX2_mostOut_7 (by decide) rfl rfl ?_
  refine zA_iconst dX2_mostOut_9 ?_
  refine zA_istore (lo1 := [zR 39, zR y, zI B, zI q, zI B, zI 0, .null, .null, .null]) dX2_mostOut_10 (by decide) rfl rfl ?_
  refine zA_iconst dX2_mostOut_12 ?_
  refine zA_istore (lo1 := [zR 39, zR y, zI B, zI q, zI B, zI 0, zI 0, .null, .null]) dX2_mostOut_13 (by decide) rfl rfl ?_
  have L15 : ∀ (z15 : Nat) (lf st c : Int) (c0 : 0 ≤ c) (c1 : c ≤ w y 5) (l0 : 0 ≤ lf) (l1 : lf ≤ 200) (t0 : 0 ≤ st) (hO : outI (w y 5).toNat (fun c => lad (w (y + 1) c) q) (w (y + 1)) B (kF (fun c => lad (w (y + 1) c) q) (w (y + 1)) (w y 5).toNat 0 B) lf st c) (zm : (w y 5 - c).toNat < z15), zA l mX2_mostOut false 3 0 0 (fun v' S' w' => S' = (ZZ t dr tx) ∧ only 43 w w' ∧ ∃ r, v' = some (zI r) ∧ isOut (w y 5).toNat (fun c => lad (w (y + 1) c) q) (w (y + 1)) B r) zNo 15 [zR 39, zR y, zI B, zI q, zI lf, zI st, zI c, .null, .null] [] (ZZ t dr tx) wa := by
    intro z15
    induction z15 with
    | zero => intro lf st c c0 c1 l0 l1 t0 hO zm; exact absurd zm (Nat.not_lt_zero _)
    | succ z15 ih15 =>
      intro lf st c c0 c1 l0 l1 t0 hO zm
      refine zA_iload dX2_mostOut_15 rfl ?_
      refine zA_aload_n dX2_mostOut_17 rfl ?_
      refine zA_getI dX2_mostOut_18 fX2_36 (cY0 hy) rfl ?_
      refine zA_valI (wa y 5) rfl ?_
      refine zA_icmp_ge (tgt := 107) dX2_mostOut_21 (by decide) (by first | assumption | exact hr _ _ | exact inR_mk (by omega) (by omega)) (by first | assumption | exact hr _ _ | exact inR_mk (by omega) (by omega)) (fun c21 => ?_) (fun c21 => ?_)
      · skip
        refine zA_iload dX2_mostOut_107 rfl ?_
        refine zA_iret dX2_mostOut_109 rfl ?_
        exact ⟨rfl, hfa, _, rfl, outI_end (by omega) l0 t0 (by rw [show ((w y 5).toNat : Int) = c by omega]; exact hO)⟩
      · skip
        have ea1 : wa (y + 1) c = w (y + 1) c := hfa _ _ (by omega)
        have hc1 := hcc c (by omega) (by omega)
        have hlb := lad_b (q := q) hc1.1 hc1.2 q0
        have hwn : ∀ j : Int, 0 ≤ j → j < (w y 5).toNat → 0 ≤ lad (w (y + 1) j) q := fun j a b => by
          have h1 := hcc j a (by omega)
          have := lad_b (q := q) h1.1 h1.2 q0
          omega
        have kb : ∀ l : Int, 0 ≤ kF (fun c => lad (w (y + 1) c) q) (w (y + 1)) (w y 5 - (c + 1)).toNat (c + 1) l ∧ kF (fun c => lad (w (y + 1) c) q) (w (y + 1)) (w y 5 - (c + 1)).toNat (c + 1) l ≤ 2400 := fun l => by
          have := kF_b (wt := (fun c => lad (w (y + 1) c) q)) (vl := (w (y + 1))) (w y 5 - (c + 1)).toNat (c + 1) l (fun j a b => by have := hcc j (by omega) (by omega); exact ⟨by show 0 ≤ w (y + 1) j; omega, this.2⟩)
          omega
        have stb : st < 4096 := by
          have e := tb_lt (k := 12) t0 (fun j hj => hO.1 j (by omega))
          rw [show (2 : Int) ^ 12 = 4096 by decide] at e
          exact e
        have hor := tb_or (x := st) (i := c) t0 (by omega) c0 (by omega)
        refine zA_aload_n dX2_mostOut_24 rfl ?_
        refine zA_getR (n := (y + 1)) dX2_mostOut_25 fX2_41 (cY0 hy) rfl ?_
        refine zA_iload dX2_mostOut_28 rfl ?_
        refine zA_iaload dX2_mostOut_30 (cY1 hy) (by first | assumption | omega) (by first | assumption | omega) (by decide) ?_
        refine zA_iload_n dX2_mostOut_31 rfl ?_
        refine zA_cS (st := []) dX2_mostOut_32 sX2_laddersFor kX2_44 (s_laddersFor (w := wa) (S := (ZZ t dr tx)) (a := wa (y + 1) c) (q := q) (by omega) (by omega) q0 q1) (by decide) rfl rfl (Nat.le_of_ble_eq_true rfl) (zRt_el ?_)
        show zA l mX2_mostOut false 3 0 0 (fun v' S' w' => S' = (ZZ t dr tx) ∧ only 43 w w' ∧ ∃ r, v' = some (zI r) ∧ isOut (w y 5).toNat (fun c => lad (w (y + 1) c) q) (w (y + 1)) B r) zNo 35 [zR 39, zR y, zI B, zI q, zI lf, zI st, zI c, .null, .null] [zI (lad (wa (y + 1) c) q)] (ZZ t dr tx) wa
        refine zA_valI (lad (w (y + 1) c) q) (by rw [ea1]) ?_
        refine zA_istore (lo1 := [zR 39, zR y, zI B, zI q, zI lf, zI st, zI c, zI (lad (w (y + 1) c) q), .null]) dX2_mostOut_35 (by decide) rfl rfl ?_
        refine zA_iload dX2_mostOut_37 rfl ?_
        refine zA_iconst dX2_mostOut_39 ?_
        refine zA_iadd dX2_mostOut_40 ?_
        refine zA_sipush dX2_mostOut_41 rfl ?_
        refine zA_imul dX2_mostOut_44 ?_
        refine zA_iload dX2_mostOut_45 rfl ?_
        refine zA_iadd dX2_mostOut_47 ?_
        refine zA_istore (lo1 := [zR 39, zR y, zI B, zI q, zI lf, zI st, zI c, zI (lad (w (y + 1) c) q), zI (((c + 1) * 201) + lf)]) dX2_mostOut_48 (by decide) rfl rfl ?_
        refine zA_iload dX2_mostOut_50 rfl ?_
        refine zA_iload dX2_mostOut_52 rfl ?_
        refine zA_icmp_gt (tgt := 101) dX2_mostOut_54 (by decide) (by first | assumption | exact hr _ _ | exact inR_mk (by omega) (by omega)) (by first | assumption | exact hr _ _ | exact inR_mk (by omega) (by omega)) (fun c54 => ?_) (fun c54 => ?_)
        · skip
          refine zA_iinc (lo1 := [zR 39, zR y, zI B, zI q, zI lf, zI st, zI (c + 1), zI (lad (w (y + 1) c) q), zI (((c + 1) * 201) + lf)]) dX2_mostOut_101 rfl (by decide) rfl rfl ?_
          refine zA_goto (tgt := 15) dX2_mostOut_104 (by decide) ?_
          refine zA_drop 7 (lo1 := [zR 39, zR y, zI B, zI q, zI lf, zI st, zI (c + 1), .null, zI (((c + 1) * 201) + lf)]) rfl ?_
          refine zA_drop 8 (lo1 := [zR 39, zR y, zI B, zI q, zI lf, zI st, zI (c + 1), .null, .null]) rfl ?_
          exact ih15 _ _ (c + 1) (by omega) (by omega) l0 l1 t0 (outI_skip (r := (w y 5 - (c + 1)).toNat) c0 (by omega) hwn hO (by first | exact Or.inl (show ¬ (lad (w (y + 1) c) q ≤ lf) by omega) | exact Or.inr (show w (y + 1) c + kF (fun c => lad (w (y + 1) c) q) (w (y + 1)) (w y 5 - (c + 1)).toNat (c + 1) (lf - lad (w (y + 1) c) q) < kF (fun c => lad (w (y + 1) c) q) (w (y + 1)) (w y 5 - (c + 1)).toNat (c + 1) lf by omega))) (by omega)
        · skip
          have k1 := hka (c + 1) lf (by omega) (by omega) l0 l1
          have k2 := hka (c + 1) (lf - lad (w (y + 1) c) q) (by omega) (by omega) (by omega) (by omega)
          rw [show (c + 1) * 201 + (lf - lad (w (y + 1) c) q) = (c + 1) * 201 + lf - lad (w (y + 1) c) q by omega] at k2
          have kb1 := kb lf
          have kb2 := kb (lf - lad (w (y + 1) c) q)
          refine zA_aload_n dX2_mostOut_57 rfl ?_
          refine zA_getR (n := (y + 1)) dX2_mostOut_58 fX2_41 (cY0 hy) rfl ?_
          refine zA_iload dX2_mostOut_61 rfl ?_
          refine zA_iaload dX2_mostOut_63 (cY1 hy) (by first | assumption | omega) (by first | assumption | omega) (by decide) ?_
          refine zA_aload_n dX2_mostOut_64 rfl ?_
          refine zA_getR (n := 43) dX2_mostOut_65 fX2_25 c39 rfl ?_
          refine zA_iload dX2_mostOut_68 rfl ?_
          refine zA_iload dX2_mostOut_70 rfl ?_
          refine zA_isub dX2_mostOut_72 ?_
          refine zA_iaload dX2_mostOut_73 c43 (by first | assumption | omega) (by first | assumption | omega) (by decide) ?_
          refine zA_iadd dX2_mostOut_74 ?_
          refine zA_aload_n dX2_mostOut_75 rfl ?_
          refine zA_getR (n := 43) dX2_mostOut_76 fX2_25 c39 rfl ?_
          refine zA_iload dX2_mostOut_79 rfl ?_
          refine zA_iaload dX2_mostOut_81 c43 (by first | assumption | omega) (by first | assumption | omega) (by decide) ?_
          refine zA_icmp_lt (tgt := 101) dX2_mostOut_82 (by decide) (by first | assumption | exact hr _ _ | exact inR_mk (by omega) (by omega)) (by first | assumption | exact hr _ _ | exact inR_mk (by omega) (by omega)) (fun c82 => ?_) (fun c82 => ?_)
          · skip
            refine zA_iinc (lo1 := [zR 39, zR y, zI B, zI q, zI lf, zI st, zI (c + 1), zI (lad (w (y + 1) c) q), zI (((c + 1) * 201) + lf)]) dX2_mostOut_101 rfl (by decide) rfl rfl ?_
            refine zA_goto (tgt := 15) dX2_mostOut_104 (by decide) ?_
            refine zA_drop 7 (lo1 := [zR 39, zR y, zI B, zI q, zI lf, zI st, zI (c + 1), .null, zI (((c + 1) * 201) + lf)]) rfl ?_
            refine zA_drop 8 (lo1 := [zR 39, zR y, zI B, zI q, zI lf, zI st, zI (c + 1), .null, .null]) rfl ?_
            exact ih15 _ _ (c + 1) (by omega) (by omega) l0 l1 t0 (outI_skip (r := (w y 5 - (c + 1)).toNat) c0 (by omega) hwn hO (by first | exact Or.inl (show ¬ (lad (w (y + 1) c) q ≤ lf) by omega) | exact Or.inr (show w (y + 1) c + kF (fun c => lad (w (y + 1) c) q) (w (y + 1)) (w y 5 - (c + 1)).toNat (c + 1) (lf - lad (w (y + 1) c) q) < kF (fun c => lad (w (y + 1) c) q) (w (y + 1)) (w y 5 - (c + 1)).toNat (c + 1) lf by omega))) (by omega)
          · skip
            refine zA_iload dX2_mostOut_85 rfl ?_
            refine zA_iconst dX2_mostOut_87 ?_
            refine zA_iload dX2_mostOut_88 rfl ?_
            refine zA_ishl dX2_mostOut_90 ?_
            refine zA_ior dX2_mostOut_91 ?_
            refine zA_istore (lo1 := [zR 39, zR y, zI B, zI q, zI lf, zI (iOr st (iShl 1 c)), zI c, zI (lad (w (y + 1) c) q), zI (((c + 1) * 201) + lf)]) dX2_mostOut_92 (by decide) rfl rfl ?_
            refine zA_iload dX2_mostOut_94 rfl ?_
            refine zA_iload dX2_mostOut_96 rfl ?_
            refine zA_isub dX2_mostOut_98 ?_
            refine zA_istore (lo1 := [zR 39, zR y, zI B, zI q, zI (lf - (lad (w (y + 1) c) q)), zI (iOr st (iShl 1 c)), zI c, zI (lad (w (y + 1) c) q), zI (((c + 1) * 201) + lf)]) dX2_mostOut_99 (by decide) rfl rfl ?_
            refine zA_iinc (lo1 := [zR 39, zR y, zI B, zI q, zI (lf - (lad (w (y + 1) c) q)), zI (iOr st (iShl 1 c)), zI (c + 1), zI (lad (w (y + 1) c) q), zI (((c + 1) * 201) + lf)]) dX2_mostOut_101 rfl (by decide) rfl rfl ?_
            refine zA_goto (tgt := 15) dX2_mostOut_104 (by decide) ?_
            refine zA_drop 7 (lo1 := [zR 39, zR y, zI B, zI q, zI (lf - (lad (w (y + 1) c) q)), zI (iOr st (iShl 1 c)), zI (c + 1), .null, zI (((c + 1) * 201) + lf)]) rfl ?_
            refine zA_drop 8 (lo1 := [zR 39, zR y, zI B, zI q, zI (lf - (lad (w (y + 1) c) q)), zI (iOr st (iShl 1 c)), zI (c + 1), .null, .null]) rfl ?_
            exact ih15 _ _ (c + 1) (by omega) (by omega) (by omega) (by omega) hor.1.1 (outI_take (r := (w y 5 - (c + 1)).toNat) c0 (by omega) hwn hO (show lad (w (y + 1) c) q ≤ lf by omega) (show kF (fun c => lad (w (y + 1) c) q) (w (y + 1)) (w y 5 - (c + 1)).toNat (c + 1) lf ≤ w (y + 1) c + kF (fun c => lad (w (y + 1) c) q) (w (y + 1)) (w y 5 - (c + 1)).toNat (c + 1) (lf - lad (w (y + 1) c) q) by omega) hor.2) (by omega)
  exact L15 _ B 0 0 (by omega) (by omega) (by omega) (by omega) (by omega) outI_0 (Nat.lt_succ_self _)

