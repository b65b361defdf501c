/-! the text of the reference: clauses -/
def loB (c : Nat) : Int := if c ≤ 78 then 1 else if c = 79 then 12 else if c = 80 then 30 else if c = 81 then 48 else if c = 82 then 144 else 36
def clM (w w' : zW) : Prop := (∀ c x, (c < 75 ∨ 83 < c) → (c ≠ 73 ∨ (x ≠ 13 ∧ x ≠ 15 ∧ x ≠ 16 ∧ x ≠ 17 ∧ x ≠ 18 ∧ x ≠ 19 ∧ x ≠ 20)) → w' c x = w c x) ∧ ∀ c x, 75 ≤ c → c ≤ 83 → x < loB c → w' c x = w c x
theorem clM_o {w w' : zW} (h : onM w w') : clM w w' := ⟨fun c x _ a => h c x a, fun c x a _ _ => h c x (Or.inl (by omega))⟩
theorem clM_tr {w w1 w' : zW} (h : clM w w1) (k : clM w1 w') : clM w w' := ⟨fun c x a e => (k.1 c x a e).trans (h.1 c x a e), fun c x a e f => (k.2 c x a e f).trans (h.2 c x a e f)⟩
theorem clM_up {w w1 : zW} {c0 : Nat} {i v : Int} (h : clM w w1) (h0 : 75 ≤ c0) (h1 : c0 ≤ 83) (hi : loB c0 ≤ i) : clM w (up w1 c0 i v) := ⟨fun c x a e => by rw [up_cell _ _ _ _ (by omega)]; exact h.1 c x a e, fun c x a e f => by
  by_cases g : c = c0
  · rw [g, up_idx _ _ _ _ (by rw [g] at f; omega), ← g]; exact h.2 c x a e f
  · rw [up_cell _ _ _ _ g]; exact h.2 c x a e f⟩
theorem clM_p {b : Int → Int} {n : Int} {w w' : zW} (h : pM b n w) (k : clM w w') : pM b n w' := ⟨h.1, (k.1 73 14 (by decide) (Or.inr (by decide))).trans h.2.1, fun i a c => ⟨(k.1 84 i (by decide) (Or.inl (by decide))).trans (h.2.2 i a c).1, (h.2.2 i a c).2⟩⟩
theorem rM_c {b : Int → Int} {n : Int} {w w' : zW} {s : zP} (h : rM b n w s) (k : ∀ x, w' 73 x = w 73 x) : rM b n w' s := by
  cases s with
  | inr e => unfold rM at h ⊢; simp only [k]; exact h
  | inl p => unfold rM at h ⊢; simp only [k]; exact h
theorem rM_up {b : Int → Int} {n : Int} {w : zW} {s : zP} {c0 : Nat} {i v : Int} (h : rM b n w s) (h2 : c0 ≠ 73) : rM b n (up w c0 i v) s := rM_c h (fun _ => up_cell _ _ _ _ (Ne.symm h2))
theorem pM_up {b : Int → Int} {n : Int} {w : zW} {c0 : Nat} {i v : Int} (h : pM b n w) (h1 : c0 ≠ 73) (h2 : c0 ≠ 84) : pM b n (up w c0 i v) := ⟨h.1, (up_cell _ _ _ _ (Ne.symm h1)).trans h.2.1, fun j a c => ⟨(up_cell _ _ _ _ (Ne.symm h2)).trans (h.2.2 j a c).1, (h.2.2 j a c).2⟩⟩
theorem mC_o {w w' : zW} {Y : zW} (h : mC w Y) (k : onM w w') : mC w' Y := mC_c h (fun c x _ _ => k c x (Or.inl (by omega)))
theorem mC_C {w : zW} {Y : zW} {v : Int} (h : mC w Y) (h0 : 0 ≤ Y 0 0) : mC (up (up w 79 (12 + w 75 1) v) 75 1 (w 75 1 + 1)) (yAddC Y v) := by
  obtain ⟨⟨e0, e1, e2, e3⟩, f1, f2⟩ := yAddC_v Y v
  obtain ⟨⟨b0, b1, b2, b3⟩, c1, c2, c3, c4, c5⟩ := h
  unfold mC
  rw [e0, e1, e2, e3, b0]
  refine ⟨⟨up_same _ _ _ _, ?_, ?_, ?_⟩, fun c x0 x1 => ?_, fun d x0 x1 => ?_, fun i x0 x1 => ?_, fun i x0 x1 => ?_, fun i x0 x1 => ?_⟩
  · rw [up_cell _ _ _ _ (by decide), up_cell _ _ _ _ (by decide)]; exact b1
  · rw [up_cell _ _ _ _ (by decide), up_cell _ _ _ _ (by decide)]; exact b2
  · rw [up_cell _ _ _ _ (by decide), up_cell _ _ _ _ (by decide)]; exact b3
  · rw [up_cell _ _ _ _ (by decide), f1]
    by_cases g : c = Y 0 0
    · rw [if_pos g, g, up_same]
    · rw [if_neg g, up_idx _ _ _ _ (by omega)]; exact c1 c x0 (by omega)
  · rw [up_cell _ _ _ _ (by decide), up_cell _ _ _ _ (by decide), f2 2 _ (by decide)]; exact c2 d x0 x1
  · rw [up_cell _ _ _ _ (by decide), up_cell _ _ _ _ (by decide), f2 3 _ (by decide)]; exact c3 i x0 x1
  · rw [up_cell _ _ _ _ (by decide), up_cell _ _ _ _ (by decide), f2 4 _ (by decide)]; exact c4 i x0 x1
  · rw [up_cell _ _ _ _ (by decide), up_cell _ _ _ _ (by decide), f2 5 _ (by decide)]; exact c5 i x0 x1
theorem mC_W {w : zW} {Y : zW} {v : Int} (h : mC w Y) : mC (up (up w 80 (30 + w 77 1) v) 77 1 (w 77 1 + 1)) (yAddW Y v) := by
  obtain ⟨⟨e0, e1, e2, e3⟩, f1, f2⟩ := yAddW_v Y v
  obtain ⟨⟨b0, b1, b2, b3⟩, c1, c2, c3, c4, c5⟩ := h
  unfold mC
  rw [e0, e1, e2, e3, b2]
  refine ⟨⟨?_, ?_, up_same _ _ _ _, ?_⟩, fun c x0 x1 => ?_, fun d x0 x1 => ?_, fun i x0 x1 => ?_, fun i x0 x1 => ?_, fun i x0 x1 => ?_⟩
  · rw [up_cell _ _ _ _ (by decide), up_cell _ _ _ _ (by decide)]; exact b0
  · rw [up_cell _ _ _ _ (by decide), up_cell _ _ _ _ (by decide)]; exact b1
  · rw [up_cell _ _ _ _ (by decide), up_cell _ _ _ _ (by decide)]; exact b3
  · rw [up_cell _ _ _ _ (by decide), up_cell _ _ _ _ (by decide), f2 1 _ (by decide) (by decide)]; exact c1 c x0 x1
  · rw [up_cell _ _ _ _ (by decide), f1]
    by_cases g : d = Y 0 2
    · rw [if_pos g, g, up_same]
    · rw [if_neg g, up_idx _ _ _ _ (by omega)]; exact c2 d x0 x1
  · rw [up_cell _ _ _ _ (by decide), up_cell _ _ _ _ (by decide), f2 3 _ (by decide) (by decide)]; exact c3 i x0 x1
  · rw [up_cell _ _ _ _ (by decide), up_cell _ _ _ _ (by decide), f2 4 _ (by decide) (by decide)]; exact c4 i x0 x1
  · rw [up_cell _ _ _ _ (by decide), up_cell _ _ _ _ (by decide), f2 5 _ (by decide) (by decide)]; exact c5 i x0 x1
/-- K: where the new row begins -/
def mlI (w W : zW) (c0 : Nat) (K : Int) (vs : List Int) : Prop := clM w W ∧ (∀ c x, 75 ≤ c → c ≤ 83 → c ≠ c0 → W c x = w c x) ∧ (∀ i, i < K → W c0 i = w c0 i) ∧ ∀ (k : Nat) (v : Int), vs[k]? = some v → W c0 (K + (k : Int)) = v
theorem mlI_0 {w W : zW} {c0 : Nat} {K : Int} (h0 : 75 ≤ c0) (h : onM w W) : mlI w W c0 K [] := ⟨clM_o h, fun c x a _ _ => h c x (Or.inl (by omega)), fun i _ => h _ _ (Or.inl (by omega)), fun k v h => by simp at h⟩
theorem mlI_o {w W W' : zW} {c0 : Nat} {K : Int} {vs : List Int} (h0 : 75 ≤ c0) (h : mlI w W c0 K vs) (k : onM W W') : mlI w W' c0 K vs := ⟨clM_tr h.1 (clM_o k), fun c x a e f => (k c x (Or.inl (by omega))).trans (h.2.1 c x a e f), fun i hi => (k _ _ (Or.inl (by omega))).trans (h.2.2.1 i hi), fun j v hv => (k _ _ (Or.inl (by omega))).trans (h.2.2.2 j v hv)⟩
theorem mlI_s {w W : zW} {c0 : Nat} {K : Int} {vs : List Int} {v j : Int} (h0 : 75 ≤ c0) (h1 : c0 ≤ 83) (hK : loB c0 ≤ K) (h : mlI w W c0 K vs) (hj : ((vs.length : Nat) : Int) = j) : mlI w (up W c0 (K + j) v) c0 K (vs ++ [v]) := by
  refine ⟨clM_up h.1 h0 h1 (by omega), fun c x a e f => by rw [up_cell _ _ _ _ f]; exact h.2.1 c x a e f, fun i hi => by rw [up_idx _ _ _ _ (by omega)]; exact h.2.2.1 i hi, fun k u hu => ?_⟩
  by_cases q : k = vs.length
  · subst q
    rw [List.getElem?_append_right (Nat.le_refl _), Nat.sub_self] at hu
    have : v = u := Option.some.inj hu
    rw [hj, up_same, this]
  · have hk : k < vs.length := by
      have := (List.getElem?_eq_some_iff.mp hu).1
      rw [List.length_append] at this
      have e1 : [v].length = 1 := rfl
      omega
    rw [List.getElem?_append_left hk] at hu
    rw [up_idx _ _ _ _ (by omega)]
    exact h.2.2.2 k u hu
theorem mC_L {w W : zW} {Y : zW} {v0 v1 v2 v3 v4 v5 : Int} (h : mC w Y) (hI : mlI w W 81 ((8 + w 76 1) * 6) [v0, v1, v2, v3, v4, v5]) : mC (up W 76 1 (w 76 1 + 1)) (yAddL Y v0 v1 v2 v3 v4 v5) := by
  obtain ⟨⟨e0, e1, e2, e3⟩, f1, ⟨g0, g1, g2, g3, g4, g5⟩, f2⟩ := yAddL_v Y v0 v1 v2 v3 v4 v5
  obtain ⟨⟨b0, b1, b2, b3⟩, c1, c2, c3, c4, c5⟩ := h
  rw [b1] at hI
  obtain ⟨-, k1, k2, k3⟩ := hI
  unfold mC
  rw [e0, e1, e2, e3, b1]
  refine ⟨⟨?_, up_same _ _ _ _, ?_, ?_⟩, fun c x0 x1 => ?_, fun d x0 x1 => ?_, fun i x0 x1 => ?_, fun i x0 x1 => ?_, fun i x0 x1 => ?_⟩
  · rw [up_cell _ _ _ _ (by decide), k1 _ _ (by decide) (by decide) (by decide)]; exact b0
  · rw [up_cell _ _ _ _ (by decide), k1 _ _ (by decide) (by decide) (by decide)]; exact b2
  · rw [up_cell _ _ _ _ (by decide), k1 _ _ (by decide) (by decide) (by decide)]; exact b3
  · rw [up_cell _ _ _ _ (by decide), k1 _ _ (by decide) (by decide) (by decide), f2 1 _ (by decide) (by decide)]; exact c1 c x0 x1
  · rw [up_cell _ _ _ _ (by decide), k1 _ _ (by decide) (by decide) (by decide), f2 2 _ (by decide) (by decide)]; exact c2 d x0 x1
  · rw [up_cell _ _ _ _ (by decide)]
    by_cases q : i < 6 * Y 0 1
    · rw [f1 i q, k2 _ (by omega)]; exact c3 i x0 q
    · have hi : i = 6 * Y 0 1 ∨ i = 6 * Y 0 1 + 1 ∨ i = 6 * Y 0 1 + 2 ∨ i = 6 * Y 0 1 + 3 ∨ i = 6 * Y 0 1 + 4 ∨ i = 6 * Y 0 1 + 5 := by omega
      have hK : ∀ j : Int, 48 + (6 * Y 0 1 + j) = (8 + Y 0 1) * 6 + j := fun j => by omega
      rcases hi with hi | hi | hi | hi | hi | hi
      · rw [hi, g0, show 48 + 6 * Y 0 1 = (8 + Y 0 1) * 6 + ((0 : Nat) : Int) by omega]; exact k3 0 v0 rfl
      · rw [hi, g1, hK]; exact k3 1 v1 rfl
      · rw [hi, g2, hK]; exact k3 2 v2 rfl
      · rw [hi, g3, hK]; exact k3 3 v3 rfl
      · rw [hi, g4, hK]; exact k3 4 v4 rfl
      · rw [hi, g5, hK]; exact k3 5 v5 rfl
  · rw [up_cell _ _ _ _ (by decide), k1 _ _ (by decide) (by decide) (by decide), f2 4 _ (by decide) (by decide)]; exact c4 i x0 x1
  · rw [up_cell _ _ _ _ (by decide), k1 _ _ (by decide) (by decide) (by decide), f2 5 _ (by decide) (by decide)]; exact c5 i x0 x1
theorem mC_N {w W : zW} {Y : zW} {v0 v1 v2 : Int} (h : mC w Y) (hI : mlI w W 83 (3 * (12 + w 78 1)) [v0, v1, v2]) : mC (up W 78 1 (w 78 1 + 1)) (yAddN Y v0 v1 v2) := by
  obtain ⟨⟨e0, e1, e2, e3⟩, f1, ⟨g0, g1, g2⟩, f2⟩ := yAddN_v Y v0 v1 v2
  obtain ⟨⟨b0, b1, b2, b3⟩, c1, c2, c3, c4, c5⟩ := h
  rw [b3] at hI
  obtain ⟨-, k1, k2, k3⟩ := hI
  unfold mC
  rw [e0, e1, e2, e3, b3]
  refine ⟨⟨?_, ?_, ?_, up_same _ _ _ _⟩, fun c x0 x1 => ?_, fun d x0 x1 => ?_, fun i x0 x1 => ?_, fun i x0 x1 => ?_, fun i x0 x1 => ?_⟩
  · rw [up_cell _ _ _ _ (by decide), k1 _ _ (by decide) (by decide) (by decide)]; exact b0
  · rw [up_cell _ _ _ _ (by decide), k1 _ _ (by decide) (by decide) (by decide)]; exact b1
  · rw [up_cell _ _ _ _ (by decide), k1 _ _ (by decide) (by decide) (by decide)]; exact b2
  · rw [up_cell _ _ _ _ (by decide), k1 _ _ (by decide) (by decide) (by decide), f2 1 _ (by decide) (by decide)]; exact c1 c x0 x1
  · rw [up_cell _ _ _ _ (by decide), k1 _ _ (by decide) (by decide) (by decide), f2 2 _ (by decide) (by decide)]; exact c2 d x0 x1
  · rw [up_cell _ _ _ _ (by decide), k1 _ _ (by decide) (by decide) (by decide), f2 3 _ (by decide) (by decide)]; exact c3 i x0 x1
  · rw [up_cell _ _ _ _ (by decide), k1 _ _ (by decide) (by decide) (by decide), f2 4 _ (by decide) (by decide)]; exact c4 i x0 x1
  · rw [up_cell _ _ _ _ (by decide)]
    by_cases q : i < 3 * Y 0 3
    · rw [f1 i q, k2 _ (by omega)]; exact c5 i x0 q
    · have hi : i = 3 * Y 0 3 ∨ i = 3 * Y 0 3 + 1 ∨ i = 3 * Y 0 3 + 2 := by omega
      rcases hi with hi | hi | hi
      · rw [hi, g0, show 36 + 3 * Y 0 3 = 3 * (12 + Y 0 3) + ((0 : Nat) : Int) by omega]; exact k3 0 v0 rfl
      · rw [hi, g1, show 36 + (3 * Y 0 3 + 1) = 3 * (12 + Y 0 3) + ((1 : Nat) : Int) by omega]; exact k3 1 v1 rfl
      · rw [hi, g2, show 36 + (3 * Y 0 3 + 2) = 3 * (12 + Y 0 3) + ((2 : Nat) : Int) by omega]; exact k3 2 v2 rfl
theorem mC_R {w : zW} {Y : zW} {a c v : Int} (h : mC w Y) (ha : 0 ≤ a ∧ a < 12) (hc : 0 ≤ c ∧ c < 12) : mC (up (up w 82 ((12 + a) * 12 + c) v) 82 ((12 + c) * 12 + a) v) (yAddR Y a c v) := by
  obtain ⟨f1, f2⟩ := yAddR_v Y a c v
  obtain ⟨⟨b0, b1, b2, b3⟩, c1, c2, c3, c4, c5⟩ := h
  unfold mC
  simp only [f2 0 _ (show 0 ≠ 4 by decide), f2 1 _ (show 1 ≠ 4 by decide), f2 2 _ (show 2 ≠ 4 by decide), f2 3 _ (show 3 ≠ 4 by decide), f2 5 _ (show 5 ≠ 4 by decide)]
  have e : ∀ c1 x, c1 ≠ 82 → up (up w 82 ((12 + a) * 12 + c) v) 82 ((12 + c) * 12 + a) v c1 x = w c1 x := fun c1 x g => by rw [up_cell _ _ _ _ g, up_cell _ _ _ _ g]
  rw [e 75 _ (by decide), e 76 _ (by decide), e 77 _ (by decide), e 78 _ (by decide)]
  refine ⟨⟨b0, b1, b2, b3⟩, fun c x0 x1 => ?_, fun d x0 x1 => ?_, fun i x0 x1 => ?_, fun i x0 x1 => ?_, fun i x0 x1 => ?_⟩
  · rw [e _ _ (by decide)]; exact c1 c x0 x1
  · rw [e _ _ (by decide)]; exact c2 d x0 x1
  · rw [e _ _ (by decide)]; exact c3 i x0 x1
  · rw [f1]
    by_cases q : i = 12 * c + a
    · rw [if_pos q, show 144 + i = (12 + c) * 12 + a by omega, up_same]
    · rw [if_neg q, up_idx _ _ _ _ (by omega)]
      by_cases q2 : i = 12 * a + c
      · rw [if_pos q2, show 144 + i = (12 + a) * 12 + c by omega, up_same]
      · rw [if_neg q2, up_idx _ _ _ _ (by omega)]; exact c4 i x0 x1
  · rw [e _ _ (by decide)]; exact c5 i x0 x1
theorem pTillM_n {b : Int → Int} {n p f : Int} (p1 : p ≤ n) (h : ¬ (tkK b n p = 2 ∧ tkE b n p - tkS b n p ≤ 4 ∧ tkV b n p < f)) : pNum b n 0 29 (.inl p) = pTill b n f (.inl p) := by
  show (if tkK b n p ≠ 2 then _ else if 4 < tkE b n p - tkS b n p ∨ tkV b n p < 0 ∨ 29 < tkV b n p then _ else _) = (if tkK b n p ≠ 2 then _ else if 4 < tkE b n p - tkS b n p then _ else if tkV b n p < f then _ else if 29 < tkV b n p then _ else _)
  by_cases k : tkK b n p ≠ 2
  · rw [if_pos k, if_pos k]
  · rw [if_neg k, if_neg k]
    by_cases g : 4 < tkE b n p - tkS b n p
    · rw [if_pos (Or.inl g), if_pos g]
    · have := tkV_b (b := b) p1 (by omega) (by omega)
      rw [if_neg g, if_neg (show ¬ tkV b n p < f by omega)]
      by_cases q : 29 < tkV b n p
      · rw [if_pos (Or.inr (Or.inr q)), if_pos q]
      · rw [if_neg (by omega), if_neg q]
theorem pTillM_y {b : Int → Int} {n p f : Int} (h : tkK b n p = 2 ∧ tkE b n p - tkS b n p ≤ 4 ∧ tkV b n p < f) : (.inr (4, tkS b n p) : zP) = pTill b n f (.inl p) := by
  show (.inr (4, tkS b n p) : zP) = (if tkK b n p ≠ 2 then _ else if 4 < tkE b n p - tkS b n p then _ else if tkV b n p < f then _ else if 29 < tkV b n p then _ else _)
  rw [if_neg (by omega), if_neg (by omega), if_pos h.2.2]
set_option maxRecDepth 100000 in
set_option maxHeartbeats 4000000 in
theorem m_readTill {l : Launch} {t dr tx : Nat} {w : zW} {b : Int → Int} {n : Int} {f : Int} (hfr : inR f) {s : zP} (hp : pM b n w) (hR : rM b n w s)  : zSp l mX12_readTill false 7 0 0 [zR 73, zI f] (ZZ t dr tx) w (fun v' S' w' => (∃ r, v' = some (zI r) ∧ inR r ∧ (okP (pTill b n f (pWord b n 8 s)) → r = pVal b n (pWord b n 8 s))) ∧ S' = (ZZ t dr tx) ∧ onM w w' ∧ pM b n w' ∧ rM b n w' (pTill b n f (pWord b n 8 s))) zNo := by
  refine zA_intro ⟨plainFor_of_name (by decide +kernel), Or.inl (by decide +kernel)⟩ rfl (Nat.le_of_ble_eq_true rfl) ?_
  refine zA_range (fun hr => ?_)
  show zA l mX12_readTill false 7 0 0 (fun v' S' w' => (∃ r, v' = some (zI r) ∧ inR r ∧ (okP (pTill b n f (pWord b n 8 s)) → r = pVal b n (pWord b n 8 s))) ∧ S' = (ZZ t dr tx) ∧ onM w w' ∧ pM b n w' ∧ rM b n w' (pTill b n f (pWord b n 8 s))) zNo 0 [zR 73, zI f] [] (ZZ t dr tx) w
  refine zA_aload_n dX12_readTill_0 rfl ?_
  refine zA_ldcS (a := 1008) dX12_readTill_1 (List.mem_of_getElem? (i := 39) rfl) ?_
  refine zA_cV (st := []) dX12_readTill_3 vX12_word kX12_254 (m_word (w := w) (k := 8) (by decide) hp hR) (by decide) c73 rfl rfl (Nat.le_of_ble_eq_true rfl) rfl (fun q_1_v q_1_S q_1_w q_1 => ?_)
  obtain ⟨rfl, rfl, ho1, hp1, hR1⟩ := q_1
  refine zA_range (fun hr => ?_)
  show zA l mX12_readTill false 7 0 0 (fun v' S' w' => (∃ r, v' = some (zI r) ∧ inR r ∧ (okP (pTill b n f (pWord b n 8 s)) → r = pVal b n (pWord b n 8 s))) ∧ S' = (ZZ t dr tx) ∧ onM w w' ∧ pM b n w' ∧ rM b n w' (pTill b n f (pWord b n 8 s))) zNo 6 [zR 73, zI f] [] (ZZ t dr tx) q_1_w
  have L47 : ∀ (w2 : zW) (s2 : zP) (ho2 : onM w w2) (hp2 : pM b n w2) (hR2 : rM b n w2 s2) (hs2 : pNum b n 0 29 s2 = pTill b n f (pWord b n 8 s)) (hs3 : okP (pTill b n f (pWord b n 8 s)) → s2 = (pWord b n 8 s)), zA l mX12_readTill false 7 0 0 (fun v' S' w' => (∃ r, v' = some (zI r) ∧ inR r ∧ (okP (pTill b n f (pWord b n 8 s)) → r = pVal b n (pWord b n 8 s))) ∧ S' = (ZZ t dr tx) ∧ onM w w' ∧ pM b n w' ∧ rM b n w' (pTill b n f (pWord b n 8 s))) zNo 47 [zR 73, zI f] [] (ZZ t dr tx) w2 := by
    intro w2 s2 ho2 hp2 hR2 hs2 hs3
    refine zA_range (fun hr => ?_)
    refine zA_aload_n dX12_readTill_47 rfl ?_
    refine zA_iconst dX12_readTill_48 ?_
    refine zA_bipush dX12_readTill_49 rfl ?_
    refine zA_cV (st := []) dX12_readTill_51 vX12_readNumber kX12_258 (m_readNumber (w := w2) (lo := 0) (hi := 29) (by decide) (by decide) ⟨by decide, by decide⟩ ⟨by decide, by decide⟩ hp2 hR2) (by decide) c73 rfl rfl (Nat.le_of_ble_eq_true rfl) rfl (fun q_2_v q_2_S q_2_w q_2 => ?_)
    obtain ⟨⟨rv, rfl, hrv, hrv2⟩, rfl, ho3, hp3, hR3⟩ := q_2
    refine zA_range (fun hr => ?_)
    show zA l mX12_readTill false 7 0 0 (fun v' S' w' => (∃ r, v' = some (zI r) ∧ inR r ∧ (okP (pTill b n f (pWord b n 8 s)) → r = pVal b n (pWord b n 8 s))) ∧ S' = (ZZ t dr tx) ∧ onM w w' ∧ pM b n w' ∧ rM b n w' (pTill b n f (pWord b n 8 s))) zNo 54 [zR 73, zI f] [zI rv] (ZZ t dr tx) q_2_w
    refine zA_iret dX12_readTill_54 rfl ?_
    rw [hs2] at hrv2 hR3
    exact ⟨⟨_, rfl, hrv, fun h => by rw [hrv2 h, hs3 h]⟩, rfl, onM_tr ho2 ho3, hp3, hR3⟩
  refine zA_aload_n dX12_readTill_6 rfl ?_
  refine zA_getI dX12_readTill_7 fX12_228 c73 rfl ?_
  refine zA_valI (q_1_w 73 19) rfl ?_
  refine zA_if_ne (tgt := 47) dX12_readTill_10 (by decide) (by first | assumption | exact hr _ _ | exact inR_mk (by omega) (by omega)) (fun c10 => ?_) (fun c10 => ?_)
  · skip
    skip
    exact L47 _ _ ho1 hp1 hR1 (by obtain ⟨e, he⟩ := rM_inr hR1 c10; rw [he]; rfl) (fun _ => rfl)
  · skip
    obtain ⟨p, hps⟩ := rM_inl hR1 c10
    have hRp := hR1
    rw [hps] at hRp
    obtain ⟨⟨p0, p1⟩, f19, ⟨f17, f18, f13⟩, f15, f16⟩ := id hRp
    obtain ⟨⟨n0, n6⟩, hn, hb⟩ := id hp
    have hbp := rM_b hRp
    refine zA_aload_n dX12_readTill_13 rfl ?_
    refine zA_getI dX12_readTill_14 fX12_205 c73 rfl ?_
    refine zA_valI (q_1_w 73 15) rfl ?_
    refine zA_iconst dX12_readTill_17 ?_
    refine zA_icmp_ne (tgt := 47) dX12_readTill_18 (by decide) (by first | assumption | exact hr _ _ | exact inR_mk (by omega) (by omega)) ⟨by decide, by decide⟩ (fun c18 => ?_) (fun c18 => ?_)
    · skip
      exact L47 _ _ ho1 hp1 hR1 (by rw [hps]; exact pTillM_n p1 (by omega)) (fun _ => rfl)
    · skip
      have k2 : tkK b n p = 2 := f15.symm.trans c18
      refine zA_aload_n dX12_readTill_21 rfl ?_
      refine zA_getI dX12_readTill_22 fX12_225 c73 rfl ?_
      refine zA_valI (q_1_w 73 18) rfl ?_
      refine zA_aload_n dX12_readTill_25 rfl ?_
      refine zA_getI dX12_readTill_26 fX12_202 c73 rfl ?_
      refine zA_valI (q_1_w 73 17) rfl ?_
      refine zA_isub dX12_readTill_29 ?_
      refine zA_iconst dX12_readTill_30 ?_
      refine zA_icmp_gt (tgt := 47) dX12_readTill_31 (by decide) (by first | assumption | exact hr _ _ | exact inR_mk (by omega) (by omega)) ⟨by decide, by decide⟩ (fun c31 => ?_) (fun c31 => ?_)
      · skip
        exact L47 _ _ ho1 hp1 hR1 (by rw [hps]; exact pTillM_n p1 (by omega)) (fun _ => rfl)
      · skip
        have f16b := f16 k2 (by omega)
        refine zA_aload_n dX12_readTill_34 rfl ?_
        refine zA_getI dX12_readTill_35 fX12_215 c73 rfl ?_
        refine zA_valI (q_1_w 73 16) rfl ?_
        refine zA_iload_n dX12_readTill_38 rfl ?_
        refine zA_icmp_ge (tgt := 47) dX12_readTill_39 (by decide) (by first | assumption | exact hr _ _ | exact inR_mk (by omega) (by omega)) (by first | assumption | exact hr _ _ | exact inR_mk (by omega) (by omega)) (fun c39 => ?_) (fun c39 => ?_)
        · skip
          exact L47 _ _ ho1 hp1 hR1 (by rw [hps]; exact pTillM_n p1 (by omega)) (fun _ => rfl)
        · skip
          refine zA_aload_n dX12_readTill_42 rfl ?_
          refine zA_iconst dX12_readTill_43 ?_
          refine zA_cV (st := []) dX12_readTill_44 vX12_wrong kX12_246 (m_wrong (w := q_1_w) (k := 4) ⟨by decide, by decide⟩) (by decide) c73 rfl rfl (Nat.le_of_ble_eq_true rfl) rfl (fun q_3_v q_3_S q_3_w q_3 => ?_)
          obtain ⟨rfl, rfl, rfl⟩ := q_3
          refine zA_range (fun hr => ?_)
          show zA l mX12_readTill false 7 0 0 (fun v' S' w' => (∃ r, v' = some (zI r) ∧ inR r ∧ (okP (pTill b n f (pWord b n 8 s)) → r = pVal b n (pWord b n 8 s))) ∧ S' = (ZZ t dr tx) ∧ onM w w' ∧ pM b n w' ∧ rM b n w' (pTill b n f (pWord b n 8 s))) zNo 47 [zR 73, zI f] [] (ZZ t dr tx) (wrongw q_1_w 4)
          exact L47 _ _ (onM_tr ho1 wrongw_o) (pM_o hp1 wrongw_o) (rM_f hR1 (by decide)) (by rw [hps]; exact pTillM_y ⟨k2, by omega, by omega⟩) (by rw [hps, ← pTillM_y (f := f) ⟨k2, by omega, by omega⟩]; exact fun h => (show False from h).elim)

