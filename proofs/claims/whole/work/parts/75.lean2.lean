/-! lean in the class -/
def okPb (w : zW) : Prop := ∀ c : Int, 0 ≤ c → c < 12 → (0 ≤ w 32 c ∧ w 32 c ≤ 10) ∧ (0 ≤ w 33 c ∧ w 33 c ≤ 500) ∧ ∀ k : Int, 0 ≤ k → k < w 32 c → (0 ≤ w 30 (c * 10 + k) ∧ w 30 (c * 10 + k) ≤ 300) ∧ -3000 ≤ w 31 (c * 10 + k) ∧ w 31 (c * 10 + k) ≤ 3000
def hv (Y M : Int → Int) (d m : Int) : Prop := ∃ A D, vtx Y (fun k => M k - d) (fun k => M k + d) m A D
/-- so far: the least of the upper bounds of how steep -/
def us (Y M : Int → Int) (d2 : Int) (V : Int → Int → Prop) (bo mr my : Int) : Prop := (bo = 0 ∧ ∀ i j, V i j → ¬ Y i < Y j) ∨ (bo = 1 ∧ (∃ p q, V p q ∧ Y p < Y q ∧ mr = M q - M p + d2 ∧ my = Y q - Y p) ∧ ∀ i j, V i j → Y i < Y j → mr * (Y j - Y i) ≤ (M j - M i + d2) * my)
theorem us_V {Y M : Int → Int} {d2 : Int} {V V' : Int → Int → Prop} {bo mr my : Int} (h : ∀ i j, V i j ↔ V' i j) (k : us Y M d2 V bo mr my) : us Y M d2 V' bo mr my := by
  rcases k with ⟨k1, k2⟩ | ⟨k1, ⟨p, q, k2, k3⟩, k4⟩
  · exact Or.inl ⟨k1, fun i j v => k2 i j ((h i j).mpr v)⟩
  · exact Or.inr ⟨k1, ⟨p, q, (h p q).mp k2, k3⟩, fun i j v => k4 i j ((h i j).mpr v)⟩
theorem us_pos {Y M : Int → Int} {d2 : Int} {V : Int → Int → Prop} {bo mr my : Int} (k : us Y M d2 V bo mr my) (hb : bo ≠ 0) : 0 < my := by
  rcases k with ⟨k1, k2⟩ | ⟨k1, ⟨p, q, k2, k3⟩, k4⟩
  · exact absurd k1 hb
  · omega
theorem us_step {Y M : Int → Int} {d2 : Int} {V V' : Int → Int → Prop} {bo mr my i j sp ri : Int} (hs : us Y M d2 V bo mr my) (h1 : sp = Y j - Y i) (h2 : ri = M j - M i) (hV : ∀ x y, V' x y ↔ V x y ∨ (x = i ∧ y = j)) : ((0 < sp ∧ (bo = 0 ∨ (ri + d2) * my < mr * sp)) → us Y M d2 V' 1 (ri + d2) sp) ∧ (¬ (0 < sp ∧ (bo = 0 ∨ (ri + d2) * my < mr * sp)) → us Y M d2 V' (if 0 < sp then 1 else bo) mr my) := by
  refine ⟨fun h => Or.inr ⟨rfl, ⟨i, j, (hV i j).mpr (Or.inr ⟨rfl, rfl⟩), by omega, by omega, by omega⟩, fun x y v hl => ?_⟩, fun h => ?_⟩
  · rcases (hV x y).mp v with v | ⟨rfl, rfl⟩
    · rcases hs with ⟨k1, k2⟩ | ⟨k1, ⟨p, q, k2, k3⟩, k4⟩
      · exact absurd hl (k2 x y v)
      · have k5 := k4 x y v hl
        exact fr_tr (c := mr) (d := my) (by omega) (by omega) (by omega) (by omega) k5
    · rw [h1, h2]
      exact Int.le_refl _
  · rcases hs with ⟨k1, k2⟩ | ⟨k1, ⟨p, q, k2, k3⟩, k4⟩
    · have hsp : ¬ 0 < sp := fun q => h ⟨q, Or.inl k1⟩
      rw [if_neg hsp]
      refine Or.inl ⟨k1, fun x y v => ?_⟩
      rcases (hV x y).mp v with v | ⟨rfl, rfl⟩
      · exact k2 x y v
      · omega
    · refine Or.inr ⟨by split; rfl; exact k1, ⟨p, q, (hV p q).mpr (Or.inl k2), k3⟩, fun x y v hl => ?_⟩
      rcases (hV x y).mp v with v | ⟨rfl, rfl⟩
      · exact k4 x y v hl
      · rw [← h1, ← h2]
        have : ¬ (ri + d2) * my < mr * sp := fun g => h ⟨by omega, Or.inr g⟩
        omega
theorem hs_1 {Y M : Int → Int} {d m mr my lr ly bo : Int} {V : Int → Int → Prop} (hV : ∀ i j, V i j ↔ (0 ≤ i ∧ i < m) ∧ (0 ≤ j ∧ j < m)) (hn : ∀ i j, V i j → Y i = Y j → M j - M i ≤ 2 * d) (hu : us Y M (2 * d) V bo mr my) (hl : us Y (fun k => -M k) (2 * d) V bo (-lr) ly) (hb : bo ≠ 0) (h : lr * my ≤ mr * ly) : hv Y M d m := by
  rcases hu with ⟨k1, k2⟩ | ⟨k1, ⟨p, q, k2, k3, k4, k5⟩, k6⟩
  · exact absurd k1 hb
  rcases hl with ⟨l1, l2⟩ | ⟨l1, ⟨a, b, l2, l3, l4, l5⟩, l6⟩
  · exact absurd l1 hb
  have l4 : -lr = -M b - -M a + 2 * d := l4
  have l6 : ∀ i j, V i j → Y i < Y j → -lr * (Y j - Y i) ≤ (-M j - -M i + 2 * d) * ly := l6
  have v1 := (hV p q).mp k2
  refine hl_vtx ⟨fun i j hi hj e => by have := hn i j ((hV i j).mpr ⟨hi, hj⟩) e; show M j - d ≤ M i + d; omega, p, q, v1.1, v1.2, k3, fun i j hi hj e => ?_, fun i j hi hj e => ?_⟩
  · have := k6 i j ((hV i j).mpr ⟨hi, hj⟩) e
    rw [show M q + d - (M p - d) = mr by omega, show M j + d - (M i - d) = M j - M i + 2 * d by omega, ← k5]
    exact this
  · have h6 := l6 i j ((hV i j).mpr ⟨hi, hj⟩) e
    rw [show M q + d - (M p - d) = mr by omega, show M j - d - (M i + d) = M j - M i - 2 * d by omega, ← k5]
    refine fr_tr (c := lr) (d := ly) (by omega) (by omega) (by omega) ?_ h
    have e1 : -lr * (Y j - Y i) = -(lr * (Y j - Y i)) := Int.neg_mul _ _
    have e2 : (-M j - -M i + 2 * d) * ly = -((M j - M i - 2 * d) * ly) := by rw [← Int.neg_mul]; congr 1; omega
    rw [e1, e2] at h6
    omega
theorem hs_0 {Y M : Int → Int} {d m mr my lr ly bo : Int} {V : Int → Int → Prop} (hV : ∀ i j, V i j ↔ (0 ≤ i ∧ i < m) ∧ (0 ≤ j ∧ j < m)) (hu : us Y M (2 * d) V bo mr my) (hl : us Y (fun k => -M k) (2 * d) V bo (-lr) ly) (h : bo = 0 ∨ mr * ly < lr * my) : ¬ hv Y M d m := by
  rintro ⟨A, D, hvx⟩
  by_cases hb : bo = 0
  · rcases hu with ⟨k1, k2⟩ | ⟨k1, -⟩
    · exact hl_no3 (fun i j hi hj => k2 i j ((hV i j).mpr ⟨hi, hj⟩)) hvx
    · omega
  · have h := h.resolve_left hb
    rcases hu with ⟨k1, k2⟩ | ⟨k1, ⟨p, q, k2, k3, k4, k5⟩, k6⟩
    · exact absurd k1 hb
    rcases hl with ⟨l1, l2⟩ | ⟨l1, ⟨a, b, l2, l3, l4, l5⟩, l6⟩
    · exact absurd l1 hb
    have l4 : -lr = -M b - -M a + 2 * d := l4
    have v1 := (hV p q).mp k2
    have v2 := (hV a b).mp l2
    refine hl_no2 v2.1 v2.2 l3 v1.1 v1.2 k3 ?_ hvx
    show (M q + d - (M p - d)) * (Y b - Y a) < (M b - d - (M a + d)) * (Y q - Y p)
    rw [show M q + d - (M p - d) = mr by omega, show M b - d - (M a + d) = lr by omega, ← k5, ← l5]
    exact h
theorem hs_c {Y M : Int → Int} {d m i j : Int} (hi : 0 ≤ i ∧ i < m) (hj : 0 ≤ j ∧ j < m) (e : Y i = Y j) (h : 2 * d < M j - M i) : ¬ hv Y M d m := by
  rintro ⟨A, D, hvx⟩
  exact hl_no1 hi hj e (show M i + d < M j - d by omega) hvx
set_option maxRecDepth 100000 in
set_option maxHeartbeats 4000000 in
theorem s_hasLean {l : Launch} {t dr tx : Nat} {w : zW} (hP : okPb w) {c : Int} (c0 : 0 ≤ c) (c1 : c < 12)  : zSp l mX7_hasLean false 1 0 0 [zR 29, zI c] (ZZ t dr tx) w (zRp1 (isB (hv (fun k => w 30 (c * 10 + k)) (fun k => w 31 (c * 10 + k)) (w 33 c) (w 32 c))) (ZZ t dr tx) w) zNo := by
  refine zA_intro ⟨plainFor_of_name (by decide +kernel), Or.inl (by decide +kernel)⟩ rfl (Nat.le_of_ble_eq_true rfl) ?_
  obtain ⟨⟨m0, m1⟩, ⟨d0, d1⟩, hrd⟩ := hP c c0 c1
  refine zA_range (fun hr => ?_)
  show zA l mX7_hasLean false 1 0 0 (zRp1 (isB (hv (fun k => w 30 (c * 10 + k)) (fun k => w 31 (c * 10 + k)) (w 33 c) (w 32 c))) (ZZ t dr tx) w) zNo 0 [zR 29, zI c, .null, .null, .null, .null, .null, .null, .null, .null, .null, .null, .null, .null, .null, .null, .null, .null] [] (ZZ t dr tx) w
  refine zA_iload_n dX7_hasLean_0 rfl ?_
  refine zA_bipush dX7_hasLean_1 rfl ?_
  refine zA_imul dX7_hasLean_3 ?_
  refine zA_istore_n (lo1 := [zR 29, zI c, zI (c * 10), .null, .null, .null, .null, .null, .null, .null, .null, .null, .null, .null, .null, .null, .null, .null]) dX7_hasLean_4 (by decide) rfl rfl ?_
  refine zA_iload_n dX7_hasLean_5 rfl ?_
  refine zA_aload_n dX7_hasLean_6 rfl ?_
  refine zA_getR (n := 32) dX7_hasLean_7 fX7_18 c29 rfl ?_
  refine zA_iload_n dX7_hasLean_10 rfl ?_
  refine zA_iaload dX7_hasLean_11 c32 (by first | assumption | omega) (by first | assumption | omega) (by decide) ?_
  refine zA_iadd dX7_hasLean_12 ?_
  refine zA_istore_n (lo1 := [zR 29, zI c, zI (c * 10), zI ((c * 10) + (w 32 c)), .null, .null, .null, .null, .null, .null, .null, .null, .null, .null, .null, .null, .null, .null]) dX7_hasLean_13 (by decide) rfl rfl ?_
  refine zA_iconst dX7_hasLean_14 ?_
  refine zA_aload_n dX7_hasLean_15 rfl ?_
  refine zA_getR (n := 33) dX7_hasLean_16 fX7_21 c29 rfl ?_
  refine zA_iload_n dX7_hasLean_19 rfl ?_
  refine zA_iaload dX7_hasLean_20 c33 (by first | assumption | omega) (by first | assumption | omega) (by decide) ?_
  refine zA_imul dX7_hasLean_21 ?_
  refine zA_istore (lo1 := [zR 29, zI c, zI (c * 10), zI ((c * 10) + (w 32 c)), zI (2 * (w 33 c)), .null, .null, .null, .null, .null, .null, .null, .null, .null, .null, .null, .null, .null]) dX7_hasLean_22 (by decide) rfl rfl ?_
  refine zA_iconst dX7_hasLean_24 ?_
  refine zA_istore (lo1 := [zR 29, zI c, zI (c * 10), zI ((c * 10) + (w 32 c)), zI (2 * (w 33 c)), zI 0, .null, .null, .null, .null, .null, .null, .null, .null, .null, .null, .null, .null]) dX7_hasLean_25 (by decide) rfl rfl ?_
  refine zA_lconst dX7_hasLean_27 ?_
  refine zA_lstore (lo1 := [zR 29, zI c, zI (c * 10), zI ((c * 10) + (w 32 c)), zI (2 * (w 33 c)), zI 0, zL 0, .null, .null, .null, .null, .null, .null, .null, .null, .null, .null, .null]) dX7_hasLean_28 (by decide) rfl rfl ?_
  refine zA_lconst dX7_hasLean_30 ?_
  refine zA_lstore (lo1 := [zR 29, zI c, zI (c * 10), zI ((c * 10) + (w 32 c)), zI (2 * (w 33 c)), zI 0, zL 0, .null, zL 1, .null, .null, .null, .null, .null, .null, .null, .null, .null]) dX7_hasLean_31 (by decide) rfl rfl ?_
  refine zA_lconst dX7_hasLean_33 ?_
  refine zA_lstore (lo1 := [zR 29, zI c, zI (c * 10), zI ((c * 10) + (w 32 c)), zI (2 * (w 33 c)), zI 0, zL 0, .null, zL 1, .null, zL 0, .null, .null, .null, .null, .null, .null, .null]) dX7_hasLean_34 (by decide) rfl rfl ?_
  refine zA_lconst dX7_hasLean_36 ?_
  refine zA_lstore (lo1 := [zR 29, zI c, zI (c * 10), zI ((c * 10) + (w 32 c)), zI (2 * (w 33 c)), zI 0, zL 0, .null, zL 1, .null, zL 0, .null, zL 1, .null, .null, .null, .null, .null]) dX7_hasLean_37 (by decide) rfl rfl ?_
  refine zA_iload_n dX7_hasLean_39 rfl ?_
  refine zA_istore (lo1 := [zR 29, zI c, zI (c * 10), zI ((c * 10) + (w 32 c)), zI (2 * (w 33 c)), zI 0, zL 0, .null, zL 1, .null, zL 0, .null, zL 1, .null, zI (c * 10), .null, .null, .null]) dX7_hasLean_40 (by decide) rfl rfl ?_
  have L42 : ∀ (z42 : Nat) (bo mr my lr ly x i : Int) (hx : x = c * 10 + i) (i0 : 0 ≤ i) (i1 : i ≤ w 32 c) (bo0 : bo = 0 ∨ bo = 1) (mb : -7000 ≤ mr ∧ mr ≤ 7000) (yb : 1 ≤ my ∧ my ≤ 300) (lb : -7000 ≤ lr ∧ lr ≤ 7000) (lyb : 1 ≤ ly ∧ ly ≤ 300) (hn : ∀ a b, (fun a b => ((0 ≤ a ∧ a < w 32 c) ∧ (0 ≤ b ∧ b < w 32 c)) ∧ (a < i ∨ (a = i ∧ b < 0))) a b → w 30 (c * 10 + a) = w 30 (c * 10 + b) → w 31 (c * 10 + b) - w 31 (c * 10 + a) ≤ 2 * w 33 c) (hu : us (fun k => w 30 (c * 10 + k)) (fun k => w 31 (c * 10 + k)) (2 * w 33 c) (fun a b => ((0 ≤ a ∧ a < w 32 c) ∧ (0 ≤ b ∧ b < w 32 c)) ∧ (a < i ∨ (a = i ∧ b < 0))) bo mr my) (hl : us (fun k => w 30 (c * 10 + k)) (fun k => -(w 31 (c * 10 + k))) (2 * w 33 c) (fun a b => ((0 ≤ a ∧ a < w 32 c) ∧ (0 ≤ b ∧ b < w 32 c)) ∧ (a < i ∨ (a = i ∧ b < 0))) bo (-lr) ly) (zm : (w 32 c - i).toNat < z42), zA l mX7_hasLean false 1 0 0 (zRp1 (isB (hv (fun k => w 30 (c * 10 + k)) (fun k => w 31 (c * 10 + k)) (w 33 c) (w 32 c))) (ZZ t dr tx) w) zNo 42 [zR 29, zI c, zI (c * 10), zI ((c * 10) + (w 32 c)), zI (2 * (w 33 c)), zI bo, zL mr, .null, zL my, .null, zL lr, .null, zL ly, .null, zI x, .null, .null, .null] [] (ZZ t dr tx) w := by
    intro z42
    induction z42 with
    | zero => intro bo mr my lr ly x i hx i0 i1 bo0 mb yb lb lyb hn hu hl zm; exact absurd zm (Nat.not_lt_zero _)
    | succ z42 ih42 =>
      intro bo mr my lr ly x i hx i0 i1 bo0 mb yb lb lyb hn hu hl zm
      refine zA_iload dX7_hasLean_42 rfl ?_
      refine zA_iload_n dX7_hasLean_44 rfl ?_
      refine zA_icmp_ge (tgt := 218) dX7_hasLean_45 (by decide) (by first | assumption | exact hr _ _ | exact inR_mk (by omega) (by omega)) (by first | assumption | exact hr _ _ | exact inR_mk (by omega) (by omega)) (fun c45 => ?_) (fun c45 => ?_)
      · skip
        refine zA_iload dX7_hasLean_218 rfl ?_
        refine zA_if_eq (tgt := 241) dX7_hasLean_220 (by decide) (by first | assumption | exact hr _ _ | exact inR_mk (by omega) (by omega)) (fun c220 => ?_) (fun c220 => ?_)
        · skip
          have hVm : ∀ a b, (fun a b => ((0 ≤ a ∧ a < w 32 c) ∧ (0 ≤ b ∧ b < w 32 c)) ∧ (a < i ∨ (a = i ∧ b < 0))) a b ↔ (0 ≤ a ∧ a < w 32 c) ∧ (0 ≤ b ∧ b < w 32 c) := fun a b => by omega
          refine zA_iconst dX7_hasLean_241 ?_
          refine zA_zret dX7_hasLean_242 rfl (Or.inl rfl) ?_
          exact ⟨⟨_, rfl, Or.inr ⟨rfl, hs_0 hVm hu hl (by first | exact Or.inl (by assumption) | exact Or.inr k234)⟩⟩, rfl, rfl⟩
        · skip
          have q1 := zmulA (x := lr) (y := my) (A := 7000) (B := 300) (by omega) (by omega) (by omega) (by omega)
          have q2 := zmulA (x := mr) (y := ly) (A := 7000) (B := 300) (by omega) (by omega) (by omega) (by omega)
          have hVm : ∀ a b, (fun a b => ((0 ≤ a ∧ a < w 32 c) ∧ (0 ≤ b ∧ b < w 32 c)) ∧ (a < i ∨ (a = i ∧ b < 0))) a b ↔ (0 ≤ a ∧ a < w 32 c) ∧ (0 ≤ b ∧ b < w 32 c) := fun a b => by omega
          refine zA_lload dX7_hasLean_223 rfl ?_
          refine zA_lload dX7_hasLean_225 rfl ?_
          refine zA_lmul dX7_hasLean_227 ?_
          refine zA_lload dX7_hasLean_228 rfl ?_
          refine zA_lload dX7_hasLean_230 rfl ?_
          refine zA_lmul dX7_hasLean_232 ?_
          refine zA_lcmp dX7_hasLean_233 ⟨(by first | assumption | omega), (by first | assumption | omega)⟩ ⟨(by first | assumption | omega), (by first | assumption | omega)⟩ ?_
          refine zA_if_gt (tgt := 241) dX7_hasLean_234 (by decide) (by first | assumption | exact hr _ _ | exact inR_mk (by omega) (by omega)) (fun c234 => ?_) (fun c234 => ?_)
          · skip
            have k234 : mr * ly < lr * my := by refine Classical.byContradiction (fun h => ?_); rw [if_neg h] at c234; split at c234 <;> omega
            refine zA_iconst dX7_hasLean_241 ?_
            refine zA_zret dX7_hasLean_242 rfl (Or.inl rfl) ?_
            exact ⟨⟨_, rfl, Or.inr ⟨rfl, hs_0 hVm hu hl (by first | exact Or.inl (by assumption) | exact Or.inr k234)⟩⟩, rfl, rfl⟩
          · skip
            have k234 : ¬ mr * ly < lr * my := by intro h; rw [if_pos h] at c234; omega
            refine zA_iconst dX7_hasLean_237 ?_
            refine zA_goto (tgt := 242) dX7_hasLean_238 (by decide) ?_
            refine zA_zret dX7_hasLean_242 rfl (Or.inr rfl) ?_
            exact ⟨⟨_, rfl, Or.inl ⟨rfl, hs_1 hVm hn hu hl (by assumption) (by omega)⟩⟩, rfl, rfl⟩
      · skip
        refine zA_iload_n dX7_hasLean_48 rfl ?_
        refine zA_istore (lo1 := [zR 29, zI c, zI (c * 10), zI ((c * 10) + (w 32 c)), zI (2 * (w 33 c)), zI bo, zL mr, .null, zL my, .null, zL lr, .null, zL ly, .null, zI x, zI (c * 10), .null, .null]) dX7_hasLean_49 (by decide) rfl rfl ?_
        have L51 : ∀ (z51 : Nat) (bo mr my lr ly z j : Int) (hz : z = c * 10 + j) (j0 : 0 ≤ j) (j1 : j ≤ w 32 c) (bo0 : bo = 0 ∨ bo = 1) (mb : -7000 ≤ mr ∧ mr ≤ 7000) (yb : 1 ≤ my ∧ my ≤ 300) (lb : -7000 ≤ lr ∧ lr ≤ 7000) (lyb : 1 ≤ ly ∧ ly ≤ 300) (hn : ∀ a b, (fun a b => ((0 ≤ a ∧ a < w 32 c) ∧ (0 ≤ b ∧ b < w 32 c)) ∧ (a < i ∨ (a = i ∧ b < j))) a b → w 30 (c * 10 + a) = w 30 (c * 10 + b) → w 31 (c * 10 + b) - w 31 (c * 10 + a) ≤ 2 * w 33 c) (hu : us (fun k => w 30 (c * 10 + k)) (fun k => w 31 (c * 10 + k)) (2 * w 33 c) (fun a b => ((0 ≤ a ∧ a < w 32 c) ∧ (0 ≤ b ∧ b < w 32 c)) ∧ (a < i ∨ (a = i ∧ b < j))) bo mr my) (hl : us (fun k => w 30 (c * 10 + k)) (fun k => -(w 31 (c * 10 + k))) (2 * w 33 c) (fun a b => ((0 ≤ a ∧ a < w 32 c) ∧ (0 ≤ b ∧ b < w 32 c)) ∧ (a < i ∨ (a = i ∧ b < j))) bo (-lr) ly) (zm : (w 32 c - j).toNat < z51), zA l mX7_hasLean false 1 0 0 (zRp1 (isB (hv (fun k => w 30 (c * 10 + k)) (fun k => w 31 (c * 10 + k)) (w 33 c) (w 32 c))) (ZZ t dr tx) w) zNo 51 [zR 29, zI c, zI (c * 10), zI ((c * 10) + (w 32 c)), zI (2 * (w 33 c)), zI bo, zL mr, .null, zL my, .null, zL lr, .null, zL ly, .null, zI x, zI z, .null, .null] [] (ZZ t dr tx) w := by
          intro z51
          induction z51 with
          | zero => intro bo mr my lr ly z j hz j0 j1 bo0 mb yb lb lyb hn hu hl zm; exact absurd zm (Nat.not_lt_zero _)
          | succ z51 ih51 =>
            intro bo mr my lr ly z j hz j0 j1 bo0 mb yb lb lyb hn hu hl zm
            refine zA_iload dX7_hasLean_51 rfl ?_
            refine zA_iload_n dX7_hasLean_53 rfl ?_
            refine zA_icmp_ge (tgt := 212) dX7_hasLean_54 (by decide) (by first | assumption | exact hr _ _ | exact inR_mk (by omega) (by omega)) (by first | assumption | exact hr _ _ | exact inR_mk (by omega) (by omega)) (fun c54 => ?_) (fun c54 => ?_)
            · skip
              refine zA_iinc (lo1 := [zR 29, zI c, zI (c * 10), zI ((c * 10) + (w 32 c)), zI (2 * (w 33 c)), zI bo, zL mr, .null, zL my, .null, zL lr, .null, zL ly, .null, zI (x + 1), zI z, .null, .null]) dX7_hasLean_212 rfl (by decide) rfl rfl ?_
              refine zA_goto (tgt := 42) dX7_hasLean_215 (by decide) ?_
              refine zA_drop 15 (lo1 := [zR 29, zI c, zI (c * 10), zI ((c * 10) + (w 32 c)), zI (2 * (w 33 c)), zI bo, zL mr, .null, zL my, .null, zL lr, .null, zL ly, .null, zI (x + 1), .null, .null, .null]) rfl ?_
              exact ih42 bo mr my lr ly _ (i + 1) (by omega) (by omega) (by omega) bo0 mb yb lb lyb (fun a b v => hn a b (by omega)) (us_V (fun a b => by omega) hu) (us_V (fun a b => by omega) hl) (by omega)
            · skip
              refine zA_aload_n dX7_hasLean_57 rfl ?_
              refine zA_getR (n := 30) dX7_hasLean_58 fX7_11 c29 rfl ?_
              refine zA_iload dX7_hasLean_61 rfl ?_
              refine zA_iaload dX7_hasLean_63 c30 (by first | assumption | omega) (by first | assumption | omega) (by decide) ?_
              refine zA_aload_n dX7_hasLean_64 rfl ?_
              refine zA_getR (n := 30) dX7_hasLean_65 fX7_11 c29 rfl ?_
              refine zA_iload dX7_hasLean_68 rfl ?_
              refine zA_iaload dX7_hasLean_70 c30 (by first | assumption | omega) (by first | assumption | omega) (by decide) ?_
              refine zA_isub dX7_hasLean_71 ?_
              refine zA_istore (lo1 := [zR 29, zI c, zI (c * 10), zI ((c * 10) + (w 32 c)), zI (2 * (w 33 c)), zI bo, zL mr, .null, zL my, .null, zL lr, .null, zL ly, .null, zI x, zI z, zI ((w 30 z) - (w 30 x)), .null]) dX7_hasLean_72 (by decide) rfl rfl ?_
              refine zA_aload_n dX7_hasLean_74 rfl ?_
              refine zA_getR (n := 31) dX7_hasLean_75 fX7_15 c29 rfl ?_
              refine zA_iload dX7_hasLean_78 rfl ?_
              refine zA_iaload dX7_hasLean_80 c31 (by first | assumption | omega) (by first | assumption | omega) (by decide) ?_
              refine zA_aload_n dX7_hasLean_81 rfl ?_
              refine zA_getR (n := 31) dX7_hasLean_82 fX7_15 c29 rfl ?_
              refine zA_iload dX7_hasLean_85 rfl ?_
              refine zA_iaload dX7_hasLean_87 c31 (by first | assumption | omega) (by first | assumption | omega) (by decide) ?_
              refine zA_isub dX7_hasLean_88 ?_
              refine zA_istore (lo1 := [zR 29, zI c, zI (c * 10), zI ((c * 10) + (w 32 c)), zI (2 * (w 33 c)), zI bo, zL mr, .null, zL my, .null, zL lr, .null, zL ly, .null, zI x, zI z, zI ((w 30 z) - (w 30 x)), zI ((w 31 z) - (w 31 x))]) dX7_hasLean_89 (by decide) rfl rfl ?_
              have hri0 := hrd i i0 (by omega)
              have hrj0 := hrd j j0 (by omega)
              rw [← hx] at hri0
              rw [← hz] at hrj0
              have L91 : ∀ (sp ri : Int) (hsp : sp = w 30 z - w 30 x) (hri : ri = w 31 z - w 31 x) (sb : -300 ≤ sp ∧ sp ≤ 300) (rb : -6000 ≤ ri ∧ ri ≤ 6000), zA l mX7_hasLean false 1 0 0 (zRp1 (isB (hv (fun k => w 30 (c * 10 + k)) (fun k => w 31 (c * 10 + k)) (w 33 c) (w 32 c))) (ZZ t dr tx) w) zNo 91 [zR 29, zI c, zI (c * 10), zI ((c * 10) + (w 32 c)), zI (2 * (w 33 c)), zI bo, zL mr, .null, zL my, .null, zL lr, .null, zL ly, .null, zI x, zI z, zI sp, zI ri] [] (ZZ t dr tx) w := by
                intro sp ri hsp hri sb rb
                have hV : ∀ a b, (fun a b => ((0 ≤ a ∧ a < w 32 c) ∧ (0 ≤ b ∧ b < w 32 c)) ∧ (a < i ∨ (a = i ∧ b < (j + 1)))) a b ↔ (fun a b => ((0 ≤ a ∧ a < w 32 c) ∧ (0 ≤ b ∧ b < w 32 c)) ∧ (a < i ∨ (a = i ∧ b < j))) a b ∨ (a = i ∧ b = j) := fun a b => by omega
                have hus := us_step hu (i := i) (j := j) (sp := sp) (ri := ri) (by rw [hsp, hx, hz]) (by rw [hri, hx, hz]) hV
                have hls := us_step hl (i := i) (j := j) (sp := sp) (ri := -ri) (by rw [hsp, hx, hz]) (by rw [hri, hx, hz]; omega) hV
                have z1 := zmulA (x := ri + 2 * w 33 c) (y := my) (A := 7000) (B := 300) (by omega) (by omega) (by omega) (by omega)
                have z2 := zmulA (x := mr) (y := sp) (A := 7000) (B := 300) (by omega) (by omega) (by omega) (by omega)
                have z3 := zmulA (x := ri - 2 * w 33 c) (y := ly) (A := 7000) (B := 300) (by omega) (by omega) (by omega) (by omega)
                have z4 := zmulA (x := lr) (y := sp) (A := 7000) (B := 300) (by omega) (by omega) (by omega) (by omega)
                have e1 : (-ri + 2 * w 33 c) * ly = -((ri - 2 * w 33 c) * ly) := by rw [← Int.neg_mul]; congr 1; omega
                have e2 : -lr * sp = -(lr * sp) := Int.neg_mul _ _
                rw [e1, e2] at hls
                have L105 : ∀  (hnc : sp = 0 → ri ≤ 2 * w 33 c), zA l mX7_hasLean false 1 0 0 (zRp1 (isB (hv (fun k => w 30 (c * 10 + k)) (fun k => w 31 (c * 10 + k)) (w 33 c) (w 32 c))) (ZZ t dr tx) w) zNo 105 [zR 29, zI c, zI (c * 10), zI ((c * 10) + (w 32 c)), zI (2 * (w 33 c)), zI bo, zL mr, .null, zL my, .null, zL lr, .null, zL ly, .null, zI x, zI z, zI sp, zI ri] [] (ZZ t dr tx) w := by
                  intro  hnc
                  have hn2 : ∀ a b, (fun a b => ((0 ≤ a ∧ a < w 32 c) ∧ (0 ≤ b ∧ b < w 32 c)) ∧ (a < i ∨ (a = i ∧ b < (j + 1)))) a b → w 30 (c * 10 + a) = w 30 (c * 10 + b) → w 31 (c * 10 + b) - w 31 (c * 10 + a) ≤ 2 * w 33 c := fun a b v e => by
                    rcases (hV a b).mp v with v | ⟨rfl, rfl⟩
                    · exact hn a b v e
                    · rw [← hx, ← hz] at e ⊢; have := hnc (by omega); omega
                  have L147 : ∀ (mn yn : Int) (mnb : -7000 ≤ mn ∧ mn ≤ 7000) (ynb : 1 ≤ yn ∧ yn ≤ 300) (hun : us (fun k => w 30 (c * 10 + k)) (fun k => w 31 (c * 10 + k)) (2 * w 33 c) (fun a b => ((0 ≤ a ∧ a < w 32 c) ∧ (0 ≤ b ∧ b < w 32 c)) ∧ (a < i ∨ (a = i ∧ b < (j + 1)))) (if 0 < sp then 1 else bo) mn yn), zA l mX7_hasLean false 1 0 0 (zRp1 (isB (hv (fun k => w 30 (c * 10 + k)) (fun k => w 31 (c * 10 + k)) (w 33 c) (w 32 c))) (ZZ t dr tx) w) zNo 147 [zR 29, zI c, zI (c * 10), zI ((c * 10) + (w 32 c)), zI (2 * (w 33 c)), zI bo, zL mn, .null, zL yn, .null, zL lr, .null, zL ly, .null, zI x, zI z, zI sp, zI ri] [] (ZZ t dr tx) w := by
                    intro mn yn mnb ynb hun
                    have L189 : ∀ (ln lyn : Int) (lnb : -7000 ≤ ln ∧ ln ≤ 7000) (lynb : 1 ≤ lyn ∧ lyn ≤ 300) (hln : us (fun k => w 30 (c * 10 + k)) (fun k => -(w 31 (c * 10 + k))) (2 * w 33 c) (fun a b => ((0 ≤ a ∧ a < w 32 c) ∧ (0 ≤ b ∧ b < w 32 c)) ∧ (a < i ∨ (a = i ∧ b < (j + 1)))) (if 0 < sp then 1 else bo) (-ln) lyn), zA l mX7_hasLean false 1 0 0 (zRp1 (isB (hv (fun k => w 30 (c * 10 + k)) (fun k => w 31 (c * 10 + k)) (w 33 c) (w 32 c))) (ZZ t dr tx) w) zNo 189 [zR 29, zI c, zI (c * 10), zI ((c * 10) + (w 32 c)), zI (2 * (w 33 c)), zI bo, zL mn, .null, zL yn, .null, zL ln, .null, zL lyn, .null, zI x, zI z, zI sp, zI ri] [] (ZZ t dr tx) w := by
                      intro ln lyn lnb lynb hln
                      refine zA_iload dX7_hasLean_189 rfl ?_
                      refine zA_if_ne (tgt := 199) dX7_hasLean_191 (by decide) (by first | assumption | exact hr _ _ | exact inR_mk (by omega) (by omega)) (fun c191 => ?_) (fun c191 => ?_)
                      · skip
                        refine zA_iconst dX7_hasLean_199 ?_
                        refine zA_goto (tgt := 204) dX7_hasLean_200 (by decide) ?_
                        refine zA_istore (lo1 := [zR 29, zI c, zI (c * 10), zI ((c * 10) + (w 32 c)), zI (2 * (w 33 c)), zI 1, zL mn, .null, zL yn, .null, zL ln, .null, zL lyn, .null, zI x, zI z, zI sp, zI ri]) dX7_hasLean_204 (by decide) rfl rfl ?_
                        refine zA_iinc (lo1 := [zR 29, zI c, zI (c * 10), zI ((c * 10) + (w 32 c)), zI (2 * (w 33 c)), zI 1, zL mn, .null, zL yn, .null, zL ln, .null, zL lyn, .null, zI x, zI (z + 1), zI sp, zI ri]) dX7_hasLean_206 rfl (by decide) rfl rfl ?_
                        refine zA_goto (tgt := 51) dX7_hasLean_209 (by decide) ?_
                        refine zA_drop 16 (lo1 := [zR 29, zI c, zI (c * 10), zI ((c * 10) + (w 32 c)), zI (2 * (w 33 c)), zI 1, zL mn, .null, zL yn, .null, zL ln, .null, zL lyn, .null, zI x, zI (z + 1), .null, zI ri]) rfl ?_
                        refine zA_drop 17 (lo1 := [zR 29, zI c, zI (c * 10), zI ((c * 10) + (w 32 c)), zI (2 * (w 33 c)), zI 1, zL mn, .null, zL yn, .null, zL ln, .null, zL lyn, .null, zI x, zI (z + 1), .null, .null]) rfl ?_
                        exact ih51 1 mn yn ln lyn _ (j + 1) (by omega) (by omega) (by omega) (by omega) mnb ynb lnb lynb hn2 (by have h := hun; rw [show (if 0 < sp then 1 else bo) = 1 by split <;> omega] at h; exact h) (by have h := hln; rw [show (if 0 < sp then 1 else bo) = 1 by split <;> omega] at h; exact h) (by omega)
                      · skip
                        refine zA_iload dX7_hasLean_194 rfl ?_
                        refine zA_if_le (tgt := 203) dX7_hasLean_196 (by decide) (by first | assumption | exact hr _ _ | exact inR_mk (by omega) (by omega)) (fun c196 => ?_) (fun c196 => ?_)
                        · skip
                          refine zA_iconst dX7_hasLean_203 ?_
                          refine zA_istore (lo1 := [zR 29, zI c, zI (c * 10), zI ((c * 10) + (w 32 c)), zI (2 * (w 33 c)), zI 0, zL mn, .null, zL yn, .null, zL ln, .null, zL lyn, .null, zI x, zI z, zI sp, zI ri]) dX7_hasLean_204 (by decide) rfl rfl ?_
                          refine zA_iinc (lo1 := [zR 29, zI c, zI (c * 10), zI ((c * 10) + (w 32 c)), zI (2 * (w 33 c)), zI 0, zL mn, .null, zL yn, .null, zL ln, .null, zL lyn, .null, zI x, zI (z + 1), zI sp, zI ri]) dX7_hasLean_206 rfl (by decide) rfl rfl ?_
                          refine zA_goto (tgt := 51) dX7_hasLean_209 (by decide) ?_
                          refine zA_drop 16 (lo1 := [zR 29, zI c, zI (c * 10), zI ((c * 10) + (w 32 c)), zI (2 * (w 33 c)), zI 0, zL mn, .null, zL yn, .null, zL ln, .null, zL lyn, .null, zI x, zI (z + 1), .null, zI ri]) rfl ?_
                          refine zA_drop 17 (lo1 := [zR 29, zI c, zI (c * 10), zI ((c * 10) + (w 32 c)), zI (2 * (w 33 c)), zI 0, zL mn, .null, zL yn, .null, zL ln, .null, zL lyn, .null, zI x, zI (z + 1), .null, .null]) rfl ?_
                          exact ih51 0 mn yn ln lyn _ (j + 1) (by omega) (by omega) (by omega) (by omega) mnb ynb lnb lynb hn2 (by have h := hun; rw [show (if 0 < sp then 1 else bo) = 0 by split <;> omega] at h; exact h) (by have h := hln; rw [show (if 0 < sp then 1 else bo) = 0 by split <;> omega] at h; exact h) (by omega)
                        · skip
                          refine zA_iconst dX7_hasLean_199 ?_
                          refine zA_goto (tgt := 204) dX7_hasLean_200 (by decide) ?_
                          refine zA_istore (lo1 := [zR 29, zI c, zI (c * 10), zI ((c * 10) + (w 32 c)), zI (2 * (w 33 c)), zI 1, zL mn, .null, zL yn, .null, zL ln, .null, zL lyn, .null, zI x, zI z, zI sp, zI ri]) dX7_hasLean_204 (by decide) rfl rfl ?_
                          refine zA_iinc (lo1 := [zR 29, zI c, zI (c * 10), zI ((c * 10) + (w 32 c)), zI (2 * (w 33 c)), zI 1, zL mn, .null, zL yn, .null, zL ln, .null, zL lyn, .null, zI x, zI (z + 1), zI sp, zI ri]) dX7_hasLean_206 rfl (by decide) rfl rfl ?_
                          refine zA_goto (tgt := 51) dX7_hasLean_209 (by decide) ?_
                          refine zA_drop 16 (lo1 := [zR 29, zI c, zI (c * 10), zI ((c * 10) + (w 32 c)), zI (2 * (w 33 c)), zI 1, zL mn, .null, zL yn, .null, zL ln, .null, zL lyn, .null, zI x, zI (z + 1), .null, zI ri]) rfl ?_
                          refine zA_drop 17 (lo1 := [zR 29, zI c, zI (c * 10), zI ((c * 10) + (w 32 c)), zI (2 * (w 33 c)), zI 1, zL mn, .null, zL yn, .null, zL ln, .null, zL lyn, .null, zI x, zI (z + 1), .null, .null]) rfl ?_
                          exact ih51 1 mn yn ln lyn _ (j + 1) (by omega) (by omega) (by omega) (by omega) mnb ynb lnb lynb hn2 (by have h := hun; rw [show (if 0 < sp then 1 else bo) = 1 by split <;> omega] at h; exact h) (by have h := hln; rw [show (if 0 < sp then 1 else bo) = 1 by split <;> omega] at h; exact h) (by omega)
                    refine zA_iload dX7_hasLean_147 rfl ?_
                    refine zA_if_le (tgt := 189) dX7_hasLean_149 (by decide) (by first | assumption | exact hr _ _ | exact inR_mk (by omega) (by omega)) (fun c149 => ?_) (fun c149 => ?_)
                    · skip
                      exact L189 lr ly lb lyb (hls.2 (by omega))
                    · skip
                      refine zA_iload dX7_hasLean_152 rfl ?_
                      refine zA_if_eq (tgt := 176) dX7_hasLean_154 (by decide) (by first | assumption | exact hr _ _ | exact inR_mk (by omega) (by omega)) (fun c154 => ?_) (fun c154 => ?_)
                      · skip
                        refine zA_iload dX7_hasLean_176 rfl ?_
                        refine zA_iload dX7_hasLean_178 rfl ?_
                        refine zA_isub dX7_hasLean_180 ?_
                        refine zA_i2l dX7_hasLean_181 (by first | assumption | exact hr _ _ | exact inR_mk (by omega) (by omega)) ?_
                        refine zA_lstore (lo1 := [zR 29, zI c, zI (c * 10), zI ((c * 10) + (w 32 c)), zI (2 * (w 33 c)), zI bo, zL mn, .null, zL yn, .null, zL (ri - (2 * (w 33 c))), .null, zL ly, .null, zI x, zI z, zI sp, zI ri]) dX7_hasLean_182 (by decide) rfl rfl ?_
                        refine zA_iload dX7_hasLean_184 rfl ?_
                        refine zA_i2l dX7_hasLean_186 (by first | assumption | exact hr _ _ | exact inR_mk (by omega) (by omega)) ?_
                        refine zA_lstore (lo1 := [zR 29, zI c, zI (c * 10), zI ((c * 10) + (w 32 c)), zI (2 * (w 33 c)), zI bo, zL mn, .null, zL yn, .null, zL (ri - (2 * (w 33 c))), .null, zL sp, .null, zI x, zI z, zI sp, zI ri]) dX7_hasLean_187 (by decide) rfl rfl ?_
                        exact L189 _ _ (by omega) (by omega) (by have h := hls.1 (by omega); rw [show (if 0 < sp then 1 else bo) = 1 by rw [if_pos (by omega)]]; rw [show -(ri - 2 * w 33 c) = -ri + 2 * w 33 c by omega]; exact h)
                      · skip
                        refine zA_iload dX7_hasLean_157 rfl ?_
                        refine zA_iload dX7_hasLean_159 rfl ?_
                        refine zA_isub dX7_hasLean_161 ?_
                        refine zA_i2l dX7_hasLean_162 (by first | assumption | exact hr _ _ | exact inR_mk (by omega) (by omega)) ?_
                        refine zA_lload dX7_hasLean_163 rfl ?_
                        refine zA_lmul dX7_hasLean_165 ?_
                        refine zA_lload dX7_hasLean_166 rfl ?_
                        refine zA_iload dX7_hasLean_168 rfl ?_
                        refine zA_i2l dX7_hasLean_170 (by first | assumption | exact hr _ _ | exact inR_mk (by omega) (by omega)) ?_
                        refine zA_lmul dX7_hasLean_171 ?_
                        refine zA_lcmp dX7_hasLean_172 ⟨(by first | assumption | omega), (by first | assumption | omega)⟩ ⟨(by first | assumption | omega), (by first | assumption | omega)⟩ ?_
                        refine zA_if_le (tgt := 189) dX7_hasLean_173 (by decide) (by first | assumption | exact hr _ _ | exact inR_mk (by omega) (by omega)) (fun c173 => ?_) (fun c173 => ?_)
                        · skip
                          have k173 : ¬ lr * sp < (ri - 2 * w 33 c) * ly := by intro h; rw [if_pos h] at c173; omega
                          exact L189 lr ly lb lyb (hls.2 (by omega))
                        · skip
                          have k173 : lr * sp < (ri - 2 * w 33 c) * ly := by refine Classical.byContradiction (fun h => ?_); rw [if_neg h] at c173; split at c173 <;> omega
                          refine zA_iload dX7_hasLean_176 rfl ?_
                          refine zA_iload dX7_hasLean_178 rfl ?_
                          refine zA_isub dX7_hasLean_180 ?_
                          refine zA_i2l dX7_hasLean_181 (by first | assumption | exact hr _ _ | exact inR_mk (by omega) (by omega)) ?_
                          refine zA_lstore (lo1 := [zR 29, zI c, zI (c * 10), zI ((c * 10) + (w 32 c)), zI (2 * (w 33 c)), zI bo, zL mn, .null, zL yn, .null, zL (ri - (2 * (w 33 c))), .null, zL ly, .null, zI x, zI z, zI sp, zI ri]) dX7_hasLean_182 (by decide) rfl rfl ?_
                          refine zA_iload dX7_hasLean_184 rfl ?_
                          refine zA_i2l dX7_hasLean_186 (by first | assumption | exact hr _ _ | exact inR_mk (by omega) (by omega)) ?_
                          refine zA_lstore (lo1 := [zR 29, zI c, zI (c * 10), zI ((c * 10) + (w 32 c)), zI (2 * (w 33 c)), zI bo, zL mn, .null, zL yn, .null, zL (ri - (2 * (w 33 c))), .null, zL sp, .null, zI x, zI z, zI sp, zI ri]) dX7_hasLean_187 (by decide) rfl rfl ?_
                          exact L189 _ _ (by omega) (by omega) (by have h := hls.1 (by omega); rw [show (if 0 < sp then 1 else bo) = 1 by rw [if_pos (by omega)]]; rw [show -(ri - 2 * w 33 c) = -ri + 2 * w 33 c by omega]; exact h)
                  refine zA_iload dX7_hasLean_105 rfl ?_
                  refine zA_if_le (tgt := 147) dX7_hasLean_107 (by decide) (by first | assumption | exact hr _ _ | exact inR_mk (by omega) (by omega)) (fun c107 => ?_) (fun c107 => ?_)
                  · skip
                    exact L147 mr my mb yb (hus.2 (by omega))
                  · skip
                    refine zA_iload dX7_hasLean_110 rfl ?_
                    refine zA_if_eq (tgt := 134) dX7_hasLean_112 (by decide) (by first | assumption | exact hr _ _ | exact inR_mk (by omega) (by omega)) (fun c112 => ?_) (fun c112 => ?_)
                    · skip
                      refine zA_iload dX7_hasLean_134 rfl ?_
                      refine zA_iload dX7_hasLean_136 rfl ?_
                      refine zA_iadd dX7_hasLean_138 ?_
                      refine zA_i2l dX7_hasLean_139 (by first | assumption | exact hr _ _ | exact inR_mk (by omega) (by omega)) ?_
                      refine zA_lstore (lo1 := [zR 29, zI c, zI (c * 10), zI ((c * 10) + (w 32 c)), zI (2 * (w 33 c)), zI bo, zL (ri + (2 * (w 33 c))), .null, zL my, .null, zL lr, .null, zL ly, .null, zI x, zI z, zI sp, zI ri]) dX7_hasLean_140 (by decide) rfl rfl ?_
                      refine zA_iload dX7_hasLean_142 rfl ?_
                      refine zA_i2l dX7_hasLean_144 (by first | assumption | exact hr _ _ | exact inR_mk (by omega) (by omega)) ?_
                      refine zA_lstore (lo1 := [zR 29, zI c, zI (c * 10), zI ((c * 10) + (w 32 c)), zI (2 * (w 33 c)), zI bo, zL (ri + (2 * (w 33 c))), .null, zL sp, .null, zL lr, .null, zL ly, .null, zI x, zI z, zI sp, zI ri]) dX7_hasLean_145 (by decide) rfl rfl ?_
                      exact L147 _ _ (by omega) (by omega) (by have h := hus.1 (by omega); rw [show (if 0 < sp then 1 else bo) = 1 by rw [if_pos (by omega)]]; exact h)
                    · skip
                      refine zA_iload dX7_hasLean_115 rfl ?_
                      refine zA_iload dX7_hasLean_117 rfl ?_
                      refine zA_iadd dX7_hasLean_119 ?_
                      refine zA_i2l dX7_hasLean_120 (by first | assumption | exact hr _ _ | exact inR_mk (by omega) (by omega)) ?_
                      refine zA_lload dX7_hasLean_121 rfl ?_
                      refine zA_lmul dX7_hasLean_123 ?_
                      refine zA_lload dX7_hasLean_124 rfl ?_
                      refine zA_iload dX7_hasLean_126 rfl ?_
                      refine zA_i2l dX7_hasLean_128 (by first | assumption | exact hr _ _ | exact inR_mk (by omega) (by omega)) ?_
                      refine zA_lmul dX7_hasLean_129 ?_
                      refine zA_lcmp dX7_hasLean_130 ⟨(by first | assumption | omega), (by first | assumption | omega)⟩ ⟨(by first | assumption | omega), (by first | assumption | omega)⟩ ?_
                      refine zA_if_ge (tgt := 147) dX7_hasLean_131 (by decide) (by first | assumption | exact hr _ _ | exact inR_mk (by omega) (by omega)) (fun c131 => ?_) (fun c131 => ?_)
                      · skip
                        have k131 : ¬ (ri + 2 * w 33 c) * my < mr * sp := by intro h; rw [if_neg (by omega), if_pos h] at c131; omega
                        exact L147 mr my mb yb (hus.2 (by omega))
                      · skip
                        have k131 : (ri + 2 * w 33 c) * my < mr * sp := by refine Classical.byContradiction (fun h => ?_); rw [if_neg h] at c131; split at c131 <;> omega
                        refine zA_iload dX7_hasLean_134 rfl ?_
                        refine zA_iload dX7_hasLean_136 rfl ?_
                        refine zA_iadd dX7_hasLean_138 ?_
                        refine zA_i2l dX7_hasLean_139 (by first | assumption | exact hr _ _ | exact inR_mk (by omega) (by omega)) ?_
                        refine zA_lstore (lo1 := [zR 29, zI c, zI (c * 10), zI ((c * 10) + (w 32 c)), zI (2 * (w 33 c)), zI bo, zL (ri + (2 * (w 33 c))), .null, zL my, .null, zL lr, .null, zL ly, .null, zI x, zI z, zI sp, zI ri]) dX7_hasLean_140 (by decide) rfl rfl ?_
                        refine zA_iload dX7_hasLean_142 rfl ?_
                        refine zA_i2l dX7_hasLean_144 (by first | assumption | exact hr _ _ | exact inR_mk (by omega) (by omega)) ?_
                        refine zA_lstore (lo1 := [zR 29, zI c, zI (c * 10), zI ((c * 10) + (w 32 c)), zI (2 * (w 33 c)), zI bo, zL (ri + (2 * (w 33 c))), .null, zL sp, .null, zL lr, .null, zL ly, .null, zI x, zI z, zI sp, zI ri]) dX7_hasLean_145 (by decide) rfl rfl ?_
                        exact L147 _ _ (by omega) (by omega) (by have h := hus.1 (by omega); rw [show (if 0 < sp then 1 else bo) = 1 by rw [if_pos (by omega)]]; exact h)
                refine zA_iload dX7_hasLean_91 rfl ?_
                refine zA_if_ne (tgt := 105) dX7_hasLean_93 (by decide) (by first | assumption | exact hr _ _ | exact inR_mk (by omega) (by omega)) (fun c93 => ?_) (fun c93 => ?_)
                · skip
                  exact L105 (by omega)
                · skip
                  refine zA_iload dX7_hasLean_96 rfl ?_
                  refine zA_iload dX7_hasLean_98 rfl ?_
                  refine zA_icmp_le (tgt := 105) dX7_hasLean_100 (by decide) (by first | assumption | exact hr _ _ | exact inR_mk (by omega) (by omega)) (by first | assumption | exact hr _ _ | exact inR_mk (by omega) (by omega)) (fun c100 => ?_) (fun c100 => ?_)
                  · skip
                    exact L105 (by omega)
                  · skip
                    refine zA_iconst dX7_hasLean_103 ?_
                    refine zA_zret dX7_hasLean_104 rfl (Or.inl rfl) ?_
                    exact ⟨⟨_, rfl, Or.inr ⟨rfl, hs_c (i := i) (j := j) ⟨i0, by omega⟩ ⟨j0, by omega⟩ (show w 30 (c * 10 + i) = w 30 (c * 10 + j) by rw [← hx, ← hz]; omega) (show 2 * w 33 c < w 31 (c * 10 + j) - w 31 (c * 10 + i) by rw [← hx, ← hz]; omega)⟩⟩, rfl, rfl⟩
              exact L91 _ _ rfl rfl (by omega) (by omega)
        exact L51 _ bo mr my lr ly _ 0 (by omega) (by omega) (by omega) bo0 mb yb lb lyb hn hu hl (Nat.lt_succ_self _)
  exact L42 _ 0 0 1 0 1 (c * 10) 0 (by omega) (by omega) (by omega) (Or.inl rfl) (by omega) (by omega) (by omega) (by omega) (fun a b v => by omega) (Or.inl ⟨rfl, fun a b v => by omega⟩) (Or.inl ⟨rfl, fun a b v => by omega⟩) (Nat.lt_succ_self _)

theorem cl_b {N D K : Int} (hD : 0 < D) (h1 : -K ≤ N) (h2 : N ≤ K) (h0 : 0 ≤ K) : -K ≤ cl N D ∧ cl N D ≤ K := by
  have k1 := Int.mul_le_mul_of_nonneg_left (show 1 ≤ D by omega) h0
  constructor
  · refine Classical.byContradiction (fun h => ?_)
    have h3 := (cl_le (N := N) (v := -K - 1) hD).mp (by omega)
    have k2 := Int.mul_le_mul_of_nonneg_left (show 1 ≤ D by omega) (show 0 ≤ K + 1 by omega)
    rw [show -K - 1 = -(K + 1) by omega, Int.neg_mul] at h3
    omega
  · rw [cl_le hD]; omega
theorem cl_1 {N : Int} : cl N 1 = N := by unfold cl; rw [Int.ediv_one, Int.neg_neg]
theorem bd_b {y L U : Int → Int} {p q N E : Int} (h : bd y L U p q N E) (y1 : -500 ≤ y p ∧ y p ≤ 500) (y2 : -500 ≤ y q ∧ y q ≤ 500) (u1 : -3500 ≤ U p ∧ U p ≤ 3500) (u2 : -3500 ≤ U q ∧ U q ≤ 3500) (l2 : -3500 ≤ L q ∧ L q ≤ 3500) : -3500000 ≤ N ∧ N ≤ 3500000 := by
  have z1 := zmulA (x := U p) (y := y q) (A := 3500) (B := 500) u1.1 u1.2 y2.1 y2.2
  have z2 := zmulA (x := U q) (y := y p) (A := 3500) (B := 500) u2.1 u2.2 y1.1 y1.2
  have z3 := zmulA (x := L q) (y := y p) (A := 3500) (B := 500) l2.1 l2.2 y1.1 y1.2
  unfold bd at h
  omega
def mcV (y L U : Int → Int) (V : Int → Int → Prop) (r : Int) : Prop := (∀ p q N E, V p q → bd y L U p q N E → r ≤ cl N E) ∧ ((r = 1000000000 ∧ ∀ p q, V p q → ¬ bdP y p q) ∨ ∃ p q N E, V p q ∧ bd y L U p q N E ∧ r = cl N E)
theorem mcV_V {y L U : Int → Int} {V V' : Int → Int → Prop} {r : Int} (h : ∀ i j, V i j ↔ V' i j) (k : mcV y L U V r) : mcV y L U V' r := by
  obtain ⟨k1, k2⟩ := k
  refine ⟨fun p q N E v => k1 p q N E ((h p q).mpr v), k2.imp (fun k => ⟨k.1, fun p q v => k.2 p q ((h p q).mpr v)⟩) ?_⟩
  rintro ⟨p, q, N, E, v, k⟩
  exact ⟨p, q, N, E, (h p q).mp v, k⟩
theorem mcV_add {y L U : Int → Int} {V V' : Int → Int → Prop} {r i j N E : Int} (hs : mcV y L U V r) (hV : ∀ a b, V' a b ↔ V a b ∨ (a = i ∧ b = j)) (hb : bd y L U i j N E) (hc : cl N E ≤ 1000000000) : mcV y L U V' (min r (cl N E)) := by
  obtain ⟨k1, k2⟩ := hs
  refine ⟨fun p q N' E' v h => ?_, Or.inr ?_⟩
  · rcases (hV p q).mp v with v | ⟨rfl, rfl⟩
    · have := k1 p q N' E' v h; omega
    · obtain ⟨e1, e2⟩ := bd_f h hb
      rw [e1, e2]; omega
  · by_cases g : r ≤ cl N E
    · rcases k2 with k2 | ⟨p, q, N', E', v, h, e⟩
      · exact ⟨i, j, N, E, (hV i j).mpr (Or.inr ⟨rfl, rfl⟩), hb, by omega⟩
      · exact ⟨p, q, N', E', (hV p q).mpr (Or.inl v), h, by omega⟩
    · exact ⟨i, j, N, E, (hV i j).mpr (Or.inr ⟨rfl, rfl⟩), hb, by omega⟩
theorem mcV_no {y L U : Int → Int} {V V' : Int → Int → Prop} {r i j : Int} (hs : mcV y L U V r) (hV : ∀ a b, V' a b ↔ V a b ∨ (a = i ∧ b = j)) (hb : ¬ bdP y i j) : mcV y L U V' r := by
  obtain ⟨k1, k2⟩ := hs
  refine ⟨fun p q N' E' v h => ?_, ?_⟩
  · rcases (hV p q).mp v with v | ⟨rfl, rfl⟩
    · exact k1 p q N' E' v h
    · exact absurd (bd_bdP h).1 hb
  · rcases k2 with k2 | ⟨p, q, N', E', v, h, e⟩
    · exact Or.inl ⟨k2.1, fun p q v => by
        rcases (hV p q).mp v with v | ⟨rfl, rfl⟩
        · exact k2.2 p q v
        · exact hb⟩
    · exact Or.inr ⟨p, q, N', E', (hV p q).mpr (Or.inl v), h, e⟩
theorem mcV_mx {y L U : Int → Int} {V : Int → Int → Prop} {r m : Int} (hs : mcV y L U V r) (hV : ∀ a b, V a b ↔ (0 ≤ a ∧ a < m) ∧ (0 ≤ b ∧ b < m)) (hx : ∃ p q : Int, (0 ≤ p ∧ p < m) ∧ (0 ≤ q ∧ q < m) ∧ bdP y p q) : mxC y L U m r := by
  obtain ⟨k1, k2⟩ := hs
  refine ⟨fun p q N E hp hq h => k1 p q N E ((hV p q).mpr ⟨hp, hq⟩) h, ?_⟩
  rcases k2 with k2 | ⟨p, q, N', E', v, h, e⟩
  · obtain ⟨p, q, hp, hq, hb⟩ := hx
    exact absurd hb (k2.2 p q ((hV p q).mpr ⟨hp, hq⟩))
  · have v2 := (hV p q).mp v
    exact ⟨p, q, N', E', ⟨v2.1, v2.2, h⟩, e⟩
theorem mxC_R {y L U : Int → Int} {m r : Int} (m0 : 0 ≤ m) (m10 : m ≤ 10) (h : mxC y L U m r) (hx : ∃ A D, vtx y L U m A D) : mxR y L U m r := by
  obtain ⟨h1, p, q, N, E, ⟨hp, hq, hb⟩, h2⟩ := h
  obtain ⟨A0, D0, hv0⟩ := hx
  obtain ⟨i, j, e, f, B0, hi, hj, hy, -, -, -, -, -, hf⟩ := hv0
  have up : ∀ A D : Int, vtx y L U m A D → cl A D ≤ r := fun A D hv => by
    obtain ⟨-, -, -, -, B, -, -, -, -, -, -, -, -, hf⟩ := hv
    rw [h2]
    exact cl_mono hf.1 (bd_pos hb) (bd_fea hf hp hq hb)
  refine ⟨up, ?_⟩
  obtain ⟨p', q', N', E', A', D', ⟨hp', hq', hb'⟩, hv', he⟩ := lp_max m0 m10 hf ⟨i, j, hi, hj, hy⟩
  refine ⟨A', D', hv', ?_⟩
  have a1 := h1 p' q' N' E' hp' hq' hb'
  have a2 := up A' D' hv'
  obtain ⟨i', j', e', f', B', hi', hj', hy', -, -, -, -, -, hf'⟩ := hv'
  have a3 := cl_mono (bd_pos hb') hf'.1 (show N' * D' ≤ A' * E' by omega)
  omega
theorem mxR_u {y L U : Int → Int} {m r s : Int} (h : mxR y L U m r) (k : mxR y L U m s) : r = s := by
  obtain ⟨h1, A, D, hv, h2⟩ := h
  obtain ⟨k1, A', D', hv', k2⟩ := k
  have := h1 A' D' hv'
  have := k1 A D hv
  omega
/-- shifted, seen in a mirror -/
theorem vtx_sh {y L U : Int → Int} {m t : Int} : (∃ A D, vtx y L U m A D) ↔ ∃ A D, vtx (fun k => y k - t) L U m A D := by
  have key : ∀ (y : Int → Int) (t : Int), (∃ A D, vtx y L U m A D) → ∃ A D, vtx (fun k => y k - t) L U m A D := by
    rintro y t ⟨A, D, i, j, e, f, B, hi, hj, hy, he, hf, h1, h2, h3, h4, h5⟩
    refine ⟨A + B * t, D, i, j, e, f, B, hi, hj, (by show y i - t < y j - t; omega), he, hf, (by show D = y j - t - (y i - t); omega), h2, (by show A + B * t = e * D - B * (y i - t); rw [h3, Int.mul_sub]; omega), h4, fun k k0 k1 => ?_⟩
    have := h5 k k0 k1
    show _ ≤ A + B * t + B * (y k - t) ∧ A + B * t + B * (y k - t) ≤ _
    rw [Int.mul_sub]
    omega
  refine ⟨key y t, fun h => ?_⟩
  have h2 := key (fun k => y k - t) (-t) h
  have e : (fun k => y k - t - -t) = y := funext fun k => by omega
  have h3 : ∃ A D, vtx (fun k => y k - t - -t) L U m A D := h2
  rw [e] at h3
  exact h3
theorem vtx_mi {y L U : Int → Int} {m A D : Int} (h : vtx y L U m A D) : vtx y (fun k => -U k) (fun k => -L k) m (-A) D := by
  obtain ⟨i, j, e, f, B, hi, hj, hy, he, hf, h1, h2, h3, h4, h5⟩ := h
  refine ⟨i, j, -e, -f, -B, hi, hj, hy, ?_, ?_, h1, by omega, by rw [h3, Int.neg_mul, Int.neg_mul]; omega, h4, fun k k0 k1 => ?_⟩
  · show -e = -U i ∨ -e = -L i; omega
  · show -f = -U j ∨ -f = -L j; omega
  · have := h5 k k0 k1
    show -U k * D ≤ -A + -B * y k ∧ -A + -B * y k ≤ -L k * D
    rw [Int.neg_mul, Int.neg_mul, Int.neg_mul]
    omega
/-- the lean of a year: s 1 the greatest, s -1 the least (turned) -/
def ln (Y M : Int → Int) (d m s t r : Int) : Prop := mxR (fun k => Y k - t) (fun k => s * M k - d) (fun k => s * M k + d) m r
theorem hv_ts {Y M : Int → Int} {d m s t : Int} (hs : s = 1 ∨ s = -1) (h : hv Y M d m) : ∃ A D, vtx (fun k => Y k - t) (fun k => s * M k - d) (fun k => s * M k + d) m A D := by
  obtain ⟨A, D, h1⟩ := vtx_sh.mp h
  rcases hs with rfl | rfl
  · refine ⟨A, D, ?_⟩
    rw [show (fun k => (1 : Int) * M k - d) = fun k => M k - d from funext fun k => by rw [Int.one_mul], show (fun k => (1 : Int) * M k + d) = fun k => M k + d from funext fun k => by rw [Int.one_mul]]
    exact h1
  · refine ⟨-A, D, ?_⟩
    have h2 := vtx_mi h1
    rw [show (fun k => (-1 : Int) * M k - d) = fun k => -(M k + d) from funext fun k => by omega, show (fun k => (-1 : Int) * M k + d) = fun k => -(M k - d) from funext fun k => by omega]
    exact h2
theorem hv_two {Y M : Int → Int} {d m t : Int} (h : hv Y M d m) : ∃ i j : Int, (0 ≤ i ∧ i < m) ∧ (0 ≤ j ∧ j < m) ∧ (fun k => Y k - t) i < (fun k => Y k - t) j := by
  obtain ⟨A, D, i, j, e, f, B, hi, hj, hy, -⟩ := h
  exact ⟨i, j, hi, hj, by show Y i - t < Y j - t; omega⟩
def lnW (Y M : Int → Int) (d m k t a : Int) : Prop := (k = 0 → ln Y M d m (-1) t (-a)) ∧ (k ≠ 0 → ln Y M d m 1 t a)
theorem lnW_u {Y M : Int → Int} {d m k t a b : Int} (h : lnW Y M d m k t a) (g : lnW Y M d m k t b) : a = b := by
  by_cases e : k = 0
  · have := mxR_u (h.1 e) (g.1 e); omega
  · exact mxR_u (h.2 e) (g.2 e)
def lmP (Y M : Int → Int) (d m k lt t : Int) : Prop := t ≤ 500 ∧ ∃ a, lnW Y M d m (1 - k) t a ∧ lt ≤ a
def lmR (Y M : Int → Int) (d m k lt r : Int) : Prop := (¬ hv Y M d m → r = -1) ∧ (hv Y M d m → isFst (lmP Y M d m k lt) (wkMost Y m.toNat) r)
set_option maxRecDepth 100000 in
set_option maxHeartbeats 4000000 in
theorem s_lineAtB {l : Launch} {t dr tx : Nat} {w : zW} {c yr s x z : Int} (c0 : 0 ≤ c) (c1 : c < 12) (hs : s = 1 ∨ s = -1) (t0 : 0 ≤ yr) (t1 : yr ≤ 500) (d0 : 0 ≤ w 33 c) (d1 : w 33 c ≤ 500) (x0 : 0 ≤ x) (x1 : x < 120) (z0 : 0 ≤ z) (z1 : z < 120) (rx : (0 ≤ w 30 x ∧ w 30 x ≤ 300) ∧ -3000 ≤ w 31 x ∧ w 31 x ≤ 3000) (rz : (0 ≤ w 30 z ∧ w 30 z ≤ 300) ∧ -3000 ≤ w 31 z ∧ w 31 z ≤ 3000) (hc : (w 30 x - yr) < 0 ∧ 0 < (w 30 z - yr)) : zSp l mX7_lineAt false 2 0 0 [zR 29, zI c, zI yr, zI s, zI x, zI z] (ZZ t dr tx) w (zRt (some (zI (cl ((s * w 31 x + w 33 c) * (w 30 z - yr) - (s * w 31 z + w 33 c) * (w 30 x - yr)) ((w 30 z - yr) - (w 30 x - yr))))) (ZZ t dr tx) w) zNo := by
  refine zA_intro ⟨plainFor_of_name (by decide +kernel), Or.inl (by decide +kernel)⟩ rfl (Nat.le_of_ble_eq_true rfl) ?_
  have sx : -3000 ≤ s * w 31 x ∧ s * w 31 x ≤ 3000 := by rcases hs with rfl | rfl <;> omega
  have sz : -3000 ≤ s * w 31 z ∧ s * w 31 z ≤ 3000 := by rcases hs with rfl | rfl <;> omega
  have q1 := zmulA (x := (s * w 31 z + w 33 c)) (y := (w 30 x - yr)) (A := 3500) (B := 500) (by omega) (by omega) (by omega) (by omega)
  have q2 := zmulA (x := (s * w 31 x + w 33 c)) (y := (w 30 z - yr)) (A := 3500) (B := 500) (by omega) (by omega) (by omega) (by omega)
  refine zA_range (fun hr => ?_)
  show zA l mX7_lineAt false 2 0 0 (zRt (some (zI (cl ((s * w 31 x + w 33 c) * (w 30 z - yr) - (s * w 31 z + w 33 c) * (w 30 x - yr)) ((w 30 z - yr) - (w 30 x - yr))))) (ZZ t dr tx) w) zNo 0 [zR 29, zI c, zI yr, zI s, zI x, zI z, .null, .null, .null, .null, .null] [] (ZZ t dr tx) w
  refine zA_aload_n dX7_lineAt_0 rfl ?_
  refine zA_getR (n := 30) dX7_lineAt_1 fX7_11 c29 rfl ?_
  refine zA_iload dX7_lineAt_4 rfl ?_
  refine zA_iaload dX7_lineAt_6 c30 (by first | assumption | omega) (by first | assumption | omega) (by decide) ?_
  refine zA_iload_n dX7_lineAt_7 rfl ?_
  refine zA_isub dX7_lineAt_8 ?_
  refine zA_istore (lo1 := [zR 29, zI c, zI yr, zI s, zI x, zI z, zI ((w 30 x) - yr), .null, .null, .null, .null]) dX7_lineAt_9 (by decide) rfl rfl ?_
  refine zA_aload_n dX7_lineAt_11 rfl ?_
  refine zA_getR (n := 30) dX7_lineAt_12 fX7_11 c29 rfl ?_
  refine zA_iload dX7_lineAt_15 rfl ?_
  refine zA_iaload dX7_lineAt_17 c30 (by first | assumption | omega) (by first | assumption | omega) (by decide) ?_
  refine zA_iload_n dX7_lineAt_18 rfl ?_
  refine zA_isub dX7_lineAt_19 ?_
  refine zA_istore (lo1 := [zR 29, zI c, zI yr, zI s, zI x, zI z, zI ((w 30 x) - yr), zI ((w 30 z) - yr), .null, .null, .null]) dX7_lineAt_20 (by decide) rfl rfl ?_
  refine zA_iload dX7_lineAt_22 rfl ?_
  refine zA_iload dX7_lineAt_24 rfl ?_
  refine zA_icmp_ne (tgt := 32) dX7_lineAt_26 (by decide) (by first | assumption | exact hr _ _ | exact inR_mk (by omega) (by omega)) (by first | assumption | exact hr _ _ | exact inR_mk (by omega) (by omega)) (fun c26 => ?_) (fun c26 => ?_)
  · skip
    refine zA_iload dX7_lineAt_32 rfl ?_
    refine zA_if_ge (tgt := 46) dX7_lineAt_34 (by decide) (by first | assumption | exact hr _ _ | exact inR_mk (by omega) (by omega)) (fun c34 => ?_) (fun c34 => ?_)
    · skip
      exfalso; omega
    · skip
      refine zA_iload dX7_lineAt_37 rfl ?_
      refine zA_if_le (tgt := 46) dX7_lineAt_39 (by decide) (by first | assumption | exact hr _ _ | exact inR_mk (by omega) (by omega)) (fun c39 => ?_) (fun c39 => ?_)
      · skip
        exfalso; omega
      · skip
        refine zA_iconst dX7_lineAt_42 ?_
        refine zA_goto (tgt := 47) dX7_lineAt_43 (by decide) ?_
        refine zA_istore (lo1 := [zR 29, zI c, zI yr, zI s, zI x, zI z, zI ((w 30 x) - yr), zI ((w 30 z) - yr), zI 1, .null, .null]) dX7_lineAt_47 (by decide) rfl rfl ?_
        refine zA_iload_n dX7_lineAt_49 rfl ?_
        refine zA_aload_n dX7_lineAt_50 rfl ?_
        refine zA_getR (n := 31) dX7_lineAt_51 fX7_15 c29 rfl ?_
        refine zA_iload dX7_lineAt_54 rfl ?_
        refine zA_iaload dX7_lineAt_56 c31 (by first | assumption | omega) (by first | assumption | omega) (by decide) ?_
        refine zA_imul dX7_lineAt_57 ?_
        refine zA_aload_n dX7_lineAt_58 rfl ?_
        refine zA_getR (n := 33) dX7_lineAt_59 fX7_21 c29 rfl ?_
        refine zA_iload_n dX7_lineAt_62 rfl ?_
        refine zA_iaload dX7_lineAt_63 c33 (by first | assumption | omega) (by first | assumption | omega) (by decide) ?_
        refine zA_iadd dX7_lineAt_64 ?_
        refine zA_istore (lo1 := [zR 29, zI c, zI yr, zI s, zI x, zI z, zI ((w 30 x) - yr), zI ((w 30 z) - yr), zI 1, zI ((s * (w 31 x)) + (w 33 c)), .null]) dX7_lineAt_65 (by decide) rfl rfl ?_
        refine zA_iload_n dX7_lineAt_67 rfl ?_
        refine zA_aload_n dX7_lineAt_68 rfl ?_
        refine zA_getR (n := 31) dX7_lineAt_69 fX7_15 c29 rfl ?_
        refine zA_iload dX7_lineAt_72 rfl ?_
        refine zA_iaload dX7_lineAt_74 c31 (by first | assumption | omega) (by first | assumption | omega) (by decide) ?_
        refine zA_imul dX7_lineAt_75 ?_
        refine zA_iload dX7_lineAt_76 rfl ?_
        refine zA_if_eq (tgt := 90) dX7_lineAt_78 (by decide) ⟨by decide, by decide⟩ (fun c78 => ?_) (fun c78 => ?_)
        · skip
          exact absurd c78 (by decide)
        · skip
          refine zA_aload_n dX7_lineAt_81 rfl ?_
          refine zA_getR (n := 33) dX7_lineAt_82 fX7_21 c29 rfl ?_
          refine zA_iload_n dX7_lineAt_85 rfl ?_
          refine zA_iaload dX7_lineAt_86 c33 (by first | assumption | omega) (by first | assumption | omega) (by decide) ?_
          refine zA_goto (tgt := 97) dX7_lineAt_87 (by decide) ?_
          refine zA_iadd dX7_lineAt_97 ?_
          refine zA_istore (lo1 := [zR 29, zI c, zI yr, zI s, zI x, zI z, zI ((w 30 x) - yr), zI ((w 30 z) - yr), zI 1, zI ((s * (w 31 x)) + (w 33 c)), zI ((s * (w 31 z)) + (w 33 c))]) dX7_lineAt_98 (by decide) rfl rfl ?_
          refine zA_iload dX7_lineAt_100 rfl ?_
          refine zA_iload dX7_lineAt_102 rfl ?_
          refine zA_imul dX7_lineAt_104 ?_
          refine zA_iload dX7_lineAt_105 rfl ?_
          refine zA_iload dX7_lineAt_107 rfl ?_
          refine zA_imul dX7_lineAt_109 ?_
          refine zA_isub dX7_lineAt_110 ?_
          refine zA_iload dX7_lineAt_111 rfl ?_
          refine zA_iload dX7_lineAt_113 rfl ?_
          refine zA_isub dX7_lineAt_115 ?_
          refine zA_cS (st := []) dX7_lineAt_116 sJ9_floorDiv_7cf53 kX7_52 (s_floorDiv (w := w) (S := (ZZ t dr tx)) (a := ((s * w 31 z + w 33 c) * (w 30 x - yr) - (s * w 31 x + w 33 c) * (w 30 z - yr))) (b := ((w 30 z - yr) - (w 30 x - yr))) (inR_mk (by omega) (by omega)) (by omega) (by omega)) (by decide) rfl rfl (Nat.le_of_ble_eq_true rfl) (zRt_el ?_)
          show zA l mX7_lineAt false 2 0 0 (zRt (some (zI (cl ((s * w 31 x + w 33 c) * (w 30 z - yr) - (s * w 31 z + w 33 c) * (w 30 x - yr)) ((w 30 z - yr) - (w 30 x - yr))))) (ZZ t dr tx) w) zNo 119 [zR 29, zI c, zI yr, zI s, zI x, zI z, zI ((w 30 x) - yr), zI ((w 30 z) - yr), zI 1, zI ((s * (w 31 x)) + (w 33 c)), zI ((s * (w 31 z)) + (w 33 c))] [zI (((s * w 31 z + w 33 c) * (w 30 x - yr) - (s * w 31 x + w 33 c) * (w 30 z - yr)) / ((w 30 z - yr) - (w 30 x - yr)))] (ZZ t dr tx) w
          refine zA_ineg dX7_lineAt_119 ?_
          refine zA_iret dX7_lineAt_120 rfl ?_
          exact zRt_i (by unfold cl; congr 2; omega)
  · skip
    exfalso; omega

set_option maxRecDepth 100000 in
set_option maxHeartbeats 4000000 in
theorem s_lineAtP {l : Launch} {t dr tx : Nat} {w : zW} {c yr s x z : Int} (c0 : 0 ≤ c) (c1 : c < 12) (hs : s = 1 ∨ s = -1) (t0 : 0 ≤ yr) (t1 : yr ≤ 500) (d0 : 0 ≤ w 33 c) (d1 : w 33 c ≤ 500) (x0 : 0 ≤ x) (x1 : x < 120) (z0 : 0 ≤ z) (z1 : z < 120) (rx : (0 ≤ w 30 x ∧ w 30 x ≤ 300) ∧ -3000 ≤ w 31 x ∧ w 31 x ≤ 3000) (rz : (0 ≤ w 30 z ∧ w 30 z ≤ 300) ∧ -3000 ≤ w 31 z ∧ w 31 z ≤ 3000) (hc : 0 < (w 30 x - yr) ∧ (w 30 x - yr) < (w 30 z - yr)) : zSp l mX7_lineAt false 2 0 0 [zR 29, zI c, zI yr, zI s, zI x, zI z] (ZZ t dr tx) w (zRt (some (zI (cl ((s * w 31 x + w 33 c) * (w 30 z - yr) - (s * w 31 z - w 33 c) * (w 30 x - yr)) ((w 30 z - yr) - (w 30 x - yr))))) (ZZ t dr tx) w) zNo := by
  refine zA_intro ⟨plainFor_of_name (by decide +kernel), Or.inl (by decide +kernel)⟩ rfl (Nat.le_of_ble_eq_true rfl) ?_
  have sx : -3000 ≤ s * w 31 x ∧ s * w 31 x ≤ 3000 := by rcases hs with rfl | rfl <;> omega
  have sz : -3000 ≤ s * w 31 z ∧ s * w 31 z ≤ 3000 := by rcases hs with rfl | rfl <;> omega
  have q1 := zmulA (x := (s * w 31 z - w 33 c)) (y := (w 30 x - yr)) (A := 3500) (B := 500) (by omega) (by omega) (by omega) (by omega)
  have q2 := zmulA (x := (s * w 31 x + w 33 c)) (y := (w 30 z - yr)) (A := 3500) (B := 500) (by omega) (by omega) (by omega) (by omega)
  refine zA_range (fun hr => ?_)
  show zA l mX7_lineAt false 2 0 0 (zRt (some (zI (cl ((s * w 31 x + w 33 c) * (w 30 z - yr) - (s * w 31 z - w 33 c) * (w 30 x - yr)) ((w 30 z - yr) - (w 30 x - yr))))) (ZZ t dr tx) w) zNo 0 [zR 29, zI c, zI yr, zI s, zI x, zI z, .null, .null, .null, .null, .null] [] (ZZ t dr tx) w
  refine zA_aload_n dX7_lineAt_0 rfl ?_
  refine zA_getR (n := 30) dX7_lineAt_1 fX7_11 c29 rfl ?_
  refine zA_iload dX7_lineAt_4 rfl ?_
  refine zA_iaload dX7_lineAt_6 c30 (by first | assumption | omega) (by first | assumption | omega) (by decide) ?_
  refine zA_iload_n dX7_lineAt_7 rfl ?_
  refine zA_isub dX7_lineAt_8 ?_
  refine zA_istore (lo1 := [zR 29, zI c, zI yr, zI s, zI x, zI z, zI ((w 30 x) - yr), .null, .null, .null, .null]) dX7_lineAt_9 (by decide) rfl rfl ?_
  refine zA_aload_n dX7_lineAt_11 rfl ?_
  refine zA_getR (n := 30) dX7_lineAt_12 fX7_11 c29 rfl ?_
  refine zA_iload dX7_lineAt_15 rfl ?_
  refine zA_iaload dX7_lineAt_17 c30 (by first | assumption | omega) (by first | assumption | omega) (by decide) ?_
  refine zA_iload_n dX7_lineAt_18 rfl ?_
  refine zA_isub dX7_lineAt_19 ?_
  refine zA_istore (lo1 := [zR 29, zI c, zI yr, zI s, zI x, zI z, zI ((w 30 x) - yr), zI ((w 30 z) - yr), .null, .null, .null]) dX7_lineAt_20 (by decide) rfl rfl ?_
  refine zA_iload dX7_lineAt_22 rfl ?_
  refine zA_iload dX7_lineAt_24 rfl ?_
  refine zA_icmp_ne (tgt := 32) dX7_lineAt_26 (by decide) (by first | assumption | exact hr _ _ | exact inR_mk (by omega) (by omega)) (by first | assumption | exact hr _ _ | exact inR_mk (by omega) (by omega)) (fun c26 => ?_) (fun c26 => ?_)
  · skip
    refine zA_iload dX7_lineAt_32 rfl ?_
    refine zA_if_ge (tgt := 46) dX7_lineAt_34 (by decide) (by first | assumption | exact hr _ _ | exact inR_mk (by omega) (by omega)) (fun c34 => ?_) (fun c34 => ?_)
    · skip
      refine zA_iconst dX7_lineAt_46 ?_
      refine zA_istore (lo1 := [zR 29, zI c, zI yr, zI s, zI x, zI z, zI ((w 30 x) - yr), zI ((w 30 z) - yr), zI 0, .null, .null]) dX7_lineAt_47 (by decide) rfl rfl ?_
      refine zA_iload_n dX7_lineAt_49 rfl ?_
      refine zA_aload_n dX7_lineAt_50 rfl ?_
      refine zA_getR (n := 31) dX7_lineAt_51 fX7_15 c29 rfl ?_
      refine zA_iload dX7_lineAt_54 rfl ?_
      refine zA_iaload dX7_lineAt_56 c31 (by first | assumption | omega) (by first | assumption | omega) (by decide) ?_
      refine zA_imul dX7_lineAt_57 ?_
      refine zA_aload_n dX7_lineAt_58 rfl ?_
      refine zA_getR (n := 33) dX7_lineAt_59 fX7_21 c29 rfl ?_
      refine zA_iload_n dX7_lineAt_62 rfl ?_
      refine zA_iaload dX7_lineAt_63 c33 (by first | assumption | omega) (by first | assumption | omega) (by decide) ?_
      refine zA_iadd dX7_lineAt_64 ?_
      refine zA_istore (lo1 := [zR 29, zI c, zI yr, zI s, zI x, zI z, zI ((w 30 x) - yr), zI ((w 30 z) - yr), zI 0, zI ((s * (w 31 x)) + (w 33 c)), .null]) dX7_lineAt_65 (by decide) rfl rfl ?_
      refine zA_iload_n dX7_lineAt_67 rfl ?_
      refine zA_aload_n dX7_lineAt_68 rfl ?_
      refine zA_getR (n := 31) dX7_lineAt_69 fX7_15 c29 rfl ?_
      refine zA_iload dX7_lineAt_72 rfl ?_
      refine zA_iaload dX7_lineAt_74 c31 (by first | assumption | omega) (by first | assumption | omega) (by decide) ?_
      refine zA_imul dX7_lineAt_75 ?_
      refine zA_iload dX7_lineAt_76 rfl ?_
      refine zA_if_eq (tgt := 90) dX7_lineAt_78 (by decide) ⟨by decide, by decide⟩ (fun c78 => ?_) (fun c78 => ?_)
      · skip
        refine zA_aload_n dX7_lineAt_90 rfl ?_
        refine zA_getR (n := 33) dX7_lineAt_91 fX7_21 c29 rfl ?_
        refine zA_iload_n dX7_lineAt_94 rfl ?_
        refine zA_iaload dX7_lineAt_95 c33 (by first | assumption | omega) (by first | assumption | omega) (by decide) ?_
        refine zA_ineg dX7_lineAt_96 ?_
        refine zA_iadd dX7_lineAt_97 ?_
        refine zA_valI (s * w 31 z - w 33 c) (by omega) ?_
        refine zA_istore (lo1 := [zR 29, zI c, zI yr, zI s, zI x, zI z, zI ((w 30 x) - yr), zI ((w 30 z) - yr), zI 0, zI ((s * (w 31 x)) + (w 33 c)), zI (s * w 31 z - w 33 c)]) dX7_lineAt_98 (by decide) rfl rfl ?_
        refine zA_iload dX7_lineAt_100 rfl ?_
        refine zA_iload dX7_lineAt_102 rfl ?_
        refine zA_imul dX7_lineAt_104 ?_
        refine zA_iload dX7_lineAt_105 rfl ?_
        refine zA_iload dX7_lineAt_107 rfl ?_
        refine zA_imul dX7_lineAt_109 ?_
        refine zA_isub dX7_lineAt_110 ?_
        refine zA_iload dX7_lineAt_111 rfl ?_
        refine zA_iload dX7_lineAt_113 rfl ?_
        refine zA_isub dX7_lineAt_115 ?_
        refine zA_cS (st := []) dX7_lineAt_116 sJ9_floorDiv_7cf53 kX7_52 (s_floorDiv (w := w) (S := (ZZ t dr tx)) (a := ((s * w 31 z - w 33 c) * (w 30 x - yr) - (s * w 31 x + w 33 c) * (w 30 z - yr))) (b := ((w 30 z - yr) - (w 30 x - yr))) (inR_mk (by omega) (by omega)) (by omega) (by omega)) (by decide) rfl rfl (Nat.le_of_ble_eq_true rfl) (zRt_el ?_)
        show zA l mX7_lineAt false 2 0 0 (zRt (some (zI (cl ((s * w 31 x + w 33 c) * (w 30 z - yr) - (s * w 31 z - w 33 c) * (w 30 x - yr)) ((w 30 z - yr) - (w 30 x - yr))))) (ZZ t dr tx) w) zNo 119 [zR 29, zI c, zI yr, zI s, zI x, zI z, zI ((w 30 x) - yr), zI ((w 30 z) - yr), zI 0, zI ((s * (w 31 x)) + (w 33 c)), zI (s * w 31 z - w 33 c)] [zI (((s * w 31 z - w 33 c) * (w 30 x - yr) - (s * w 31 x + w 33 c) * (w 30 z - yr)) / ((w 30 z - yr) - (w 30 x - yr)))] (ZZ t dr tx) w
        refine zA_ineg dX7_lineAt_119 ?_
        refine zA_iret dX7_lineAt_120 rfl ?_
        exact zRt_i (by unfold cl; congr 2; omega)
      · skip
        exact absurd rfl c78
    · skip
      exfalso; omega
  · skip
    exfalso; omega

set_option maxRecDepth 100000 in
set_option maxHeartbeats 4000000 in
theorem s_lineAtN {l : Launch} {t dr tx : Nat} {w : zW} {c yr s x z : Int} (c0 : 0 ≤ c) (c1 : c < 12) (hs : s = 1 ∨ s = -1) (t0 : 0 ≤ yr) (t1 : yr ≤ 500) (d0 : 0 ≤ w 33 c) (d1 : w 33 c ≤ 500) (x0 : 0 ≤ x) (x1 : x < 120) (z0 : 0 ≤ z) (z1 : z < 120) (rx : (0 ≤ w 30 x ∧ w 30 x ≤ 300) ∧ -3000 ≤ w 31 x ∧ w 31 x ≤ 3000) (rz : (0 ≤ w 30 z ∧ w 30 z ≤ 300) ∧ -3000 ≤ w 31 z ∧ w 31 z ≤ 3000) (hc : (w 30 x - yr) < 0 ∧ (w 30 z - yr) < (w 30 x - yr)) : zSp l mX7_lineAt false 2 0 0 [zR 29, zI c, zI yr, zI s, zI x, zI z] (ZZ t dr tx) w (zRt (some (zI (cl ((s * w 31 z - w 33 c) * (w 30 x - yr) - (s * w 31 x + w 33 c) * (w 30 z - yr)) ((w 30 x - yr) - (w 30 z - yr))))) (ZZ t dr tx) w) zNo := by
  refine zA_intro ⟨plainFor_of_name (by decide +kernel), Or.inl (by decide +kernel)⟩ rfl (Nat.le_of_ble_eq_true rfl) ?_
  have sx : -3000 ≤ s * w 31 x ∧ s * w 31 x ≤ 3000 := by rcases hs with rfl | rfl <;> omega
  have sz : -3000 ≤ s * w 31 z ∧ s * w 31 z ≤ 3000 := by rcases hs with rfl | rfl <;> omega
  have q1 := zmulA (x := (s * w 31 z - w 33 c)) (y := (w 30 x - yr)) (A := 3500) (B := 500) (by omega) (by omega) (by omega) (by omega)
  have q2 := zmulA (x := (s * w 31 x + w 33 c)) (y := (w 30 z - yr)) (A := 3500) (B := 500) (by omega) (by omega) (by omega) (by omega)
  refine zA_range (fun hr => ?_)
  show zA l mX7_lineAt false 2 0 0 (zRt (some (zI (cl ((s * w 31 z - w 33 c) * (w 30 x - yr) - (s * w 31 x + w 33 c) * (w 30 z - yr)) ((w 30 x - yr) - (w 30 z - yr))))) (ZZ t dr tx) w) zNo 0 [zR 29, zI c, zI yr, zI s, zI x, zI z, .null, .null, .null, .null, .null] [] (ZZ t dr tx) w
  refine zA_aload_n dX7_lineAt_0 rfl ?_
  refine zA_getR (n := 30) dX7_lineAt_1 fX7_11 c29 rfl ?_
  refine zA_iload dX7_lineAt_4 rfl ?_
  refine zA_iaload dX7_lineAt_6 c30 (by first | assumption | omega) (by first | assumption | omega) (by decide) ?_
  refine zA_iload_n dX7_lineAt_7 rfl ?_
  refine zA_isub dX7_lineAt_8 ?_
  refine zA_istore (lo1 := [zR 29, zI c, zI yr, zI s, zI x, zI z, zI ((w 30 x) - yr), .null, .null, .null, .null]) dX7_lineAt_9 (by decide) rfl rfl ?_
  refine zA_aload_n dX7_lineAt_11 rfl ?_
  refine zA_getR (n := 30) dX7_lineAt_12 fX7_11 c29 rfl ?_
  refine zA_iload dX7_lineAt_15 rfl ?_
  refine zA_iaload dX7_lineAt_17 c30 (by first | assumption | omega) (by first | assumption | omega) (by decide) ?_
  refine zA_iload_n dX7_lineAt_18 rfl ?_
  refine zA_isub dX7_lineAt_19 ?_
  refine zA_istore (lo1 := [zR 29, zI c, zI yr, zI s, zI x, zI z, zI ((w 30 x) - yr), zI ((w 30 z) - yr), .null, .null, .null]) dX7_lineAt_20 (by decide) rfl rfl ?_
  refine zA_iload dX7_lineAt_22 rfl ?_
  refine zA_iload dX7_lineAt_24 rfl ?_
  refine zA_icmp_ne (tgt := 32) dX7_lineAt_26 (by decide) (by first | assumption | exact hr _ _ | exact inR_mk (by omega) (by omega)) (by first | assumption | exact hr _ _ | exact inR_mk (by omega) (by omega)) (fun c26 => ?_) (fun c26 => ?_)
  · skip
    refine zA_iload dX7_lineAt_32 rfl ?_
    refine zA_if_ge (tgt := 46) dX7_lineAt_34 (by decide) (by first | assumption | exact hr _ _ | exact inR_mk (by omega) (by omega)) (fun c34 => ?_) (fun c34 => ?_)
    · skip
      exfalso; omega
    · skip
      refine zA_iload dX7_lineAt_37 rfl ?_
      refine zA_if_le (tgt := 46) dX7_lineAt_39 (by decide) (by first | assumption | exact hr _ _ | exact inR_mk (by omega) (by omega)) (fun c39 => ?_) (fun c39 => ?_)
      · skip
        refine zA_iconst dX7_lineAt_46 ?_
        refine zA_istore (lo1 := [zR 29, zI c, zI yr, zI s, zI x, zI z, zI ((w 30 x) - yr), zI ((w 30 z) - yr), zI 0, .null, .null]) dX7_lineAt_47 (by decide) rfl rfl ?_
        refine zA_iload_n dX7_lineAt_49 rfl ?_
        refine zA_aload_n dX7_lineAt_50 rfl ?_
        refine zA_getR (n := 31) dX7_lineAt_51 fX7_15 c29 rfl ?_
        refine zA_iload dX7_lineAt_54 rfl ?_
        refine zA_iaload dX7_lineAt_56 c31 (by first | assumption | omega) (by first | assumption | omega) (by decide) ?_
        refine zA_imul dX7_lineAt_57 ?_
        refine zA_aload_n dX7_lineAt_58 rfl ?_
        refine zA_getR (n := 33) dX7_lineAt_59 fX7_21 c29 rfl ?_
        refine zA_iload_n dX7_lineAt_62 rfl ?_
        refine zA_iaload dX7_lineAt_63 c33 (by first | assumption | omega) (by first | assumption | omega) (by decide) ?_
        refine zA_iadd dX7_lineAt_64 ?_
        refine zA_istore (lo1 := [zR 29, zI c, zI yr, zI s, zI x, zI z, zI ((w 30 x) - yr), zI ((w 30 z) - yr), zI 0, zI ((s * (w 31 x)) + (w 33 c)), .null]) dX7_lineAt_65 (by decide) rfl rfl ?_
        refine zA_iload_n dX7_lineAt_67 rfl ?_
        refine zA_aload_n dX7_lineAt_68 rfl ?_
        refine zA_getR (n := 31) dX7_lineAt_69 fX7_15 c29 rfl ?_
        refine zA_iload dX7_lineAt_72 rfl ?_
        refine zA_iaload dX7_lineAt_74 c31 (by first | assumption | omega) (by first | assumption | omega) (by decide) ?_
        refine zA_imul dX7_lineAt_75 ?_
        refine zA_iload dX7_lineAt_76 rfl ?_
        refine zA_if_eq (tgt := 90) dX7_lineAt_78 (by decide) ⟨by decide, by decide⟩ (fun c78 => ?_) (fun c78 => ?_)
        · skip
          refine zA_aload_n dX7_lineAt_90 rfl ?_
          refine zA_getR (n := 33) dX7_lineAt_91 fX7_21 c29 rfl ?_
          refine zA_iload_n dX7_lineAt_94 rfl ?_
          refine zA_iaload dX7_lineAt_95 c33 (by first | assumption | omega) (by first | assumption | omega) (by decide) ?_
          refine zA_ineg dX7_lineAt_96 ?_
          refine zA_iadd dX7_lineAt_97 ?_
          refine zA_valI (s * w 31 z - w 33 c) (by omega) ?_
          refine zA_istore (lo1 := [zR 29, zI c, zI yr, zI s, zI x, zI z, zI ((w 30 x) - yr), zI ((w 30 z) - yr), zI 0, zI ((s * (w 31 x)) + (w 33 c)), zI (s * w 31 z - w 33 c)]) dX7_lineAt_98 (by decide) rfl rfl ?_
          refine zA_iload dX7_lineAt_100 rfl ?_
          refine zA_iload dX7_lineAt_102 rfl ?_
          refine zA_imul dX7_lineAt_104 ?_
          refine zA_iload dX7_lineAt_105 rfl ?_
          refine zA_iload dX7_lineAt_107 rfl ?_
          refine zA_imul dX7_lineAt_109 ?_
          refine zA_isub dX7_lineAt_110 ?_
          refine zA_valI (-(-((s * w 31 z - w 33 c) * (w 30 x - yr) - (s * w 31 x + w 33 c) * (w 30 z - yr)))) ((Int.neg_neg _).symm) ?_
          refine zA_iload dX7_lineAt_111 rfl ?_
          refine zA_iload dX7_lineAt_113 rfl ?_
          refine zA_isub dX7_lineAt_115 ?_
          refine zA_valI (-((w 30 x - yr) - (w 30 z - yr))) (by omega) ?_
          refine zA_cS (st := []) dX7_lineAt_116 sJ9_floorDiv_7cf53 kX7_52 (s_floorDivN (w := w) (S := (ZZ t dr tx)) (a := -((s * w 31 z - w 33 c) * (w 30 x - yr) - (s * w 31 x + w 33 c) * (w 30 z - yr))) (b := ((w 30 x - yr) - (w 30 z - yr))) (inR_mk (by omega) (by omega)) (inR_mk (by omega) (by omega)) (by omega) (by omega)) (by decide) rfl rfl (Nat.le_of_ble_eq_true rfl) (zRt_el ?_)
          show zA l mX7_lineAt false 2 0 0 (zRt (some (zI (cl ((s * w 31 z - w 33 c) * (w 30 x - yr) - (s * w 31 x + w 33 c) * (w 30 z - yr)) ((w 30 x - yr) - (w 30 z - yr))))) (ZZ t dr tx) w) zNo 119 [zR 29, zI c, zI yr, zI s, zI x, zI z, zI ((w 30 x) - yr), zI ((w 30 z) - yr), zI 0, zI ((s * (w 31 x)) + (w 33 c)), zI (s * w 31 z - w 33 c)] [zI (-((s * w 31 z - w 33 c) * (w 30 x - yr) - (s * w 31 x + w 33 c) * (w 30 z - yr)) / ((w 30 x - yr) - (w 30 z - yr)))] (ZZ t dr tx) w
          refine zA_ineg dX7_lineAt_119 ?_
          refine zA_iret dX7_lineAt_120 rfl ?_
          exact zRt_i rfl
        · skip
          exact absurd rfl c78
      · skip
        exfalso; omega
  · skip
    exfalso; omega

theorem s_lineAt {l : Launch} {t_ dr tx : Nat} {w : zW} {c yr s x z p q : Int} (c0 : 0 ≤ c) (c1 : c < 12) (hs : s = 1 ∨ s = -1) (t0 : 0 ≤ yr) (t1 : yr ≤ 500) (d0 : 0 ≤ w 33 c) (d1 : w 33 c ≤ 500) (x0 : 0 ≤ x) (x1 : x < 120) (z0 : 0 ≤ z) (z1 : z < 120) (rx : (0 ≤ w 30 x ∧ w 30 x ≤ 300) ∧ -3000 ≤ w 31 x ∧ w 31 x ≤ 3000) (rz : (0 ≤ w 30 z ∧ w 30 z ≤ 300) ∧ -3000 ≤ w 31 z ∧ w 31 z ≤ 3000) (hx : x = c * 10 + p) (hz : z = c * 10 + q) (hb : bdP (fun k => w 30 (c * 10 + k) - yr) p q) (hpq : p ≠ q) : zSp l mX7_lineAt false 2 0 0 [zR 29, zI c, zI yr, zI s, zI x, zI z] (ZZ t_ dr tx) w (zRt (some (zI (cl (bdN (fun k => w 30 (c * 10 + k) - yr) (fun k => s * w 31 (c * 10 + k) - w 33 c) (fun k => s * w 31 (c * 10 + k) + w 33 c) p q) (bdD (fun k => w 30 (c * 10 + k) - yr) p q)))) (ZZ t_ dr tx) w) zNo := by
  have hbd := bdP_bd (L := (fun k => s * w 31 (c * 10 + k) - w 33 c)) (U := (fun k => s * w 31 (c * 10 + k) + w 33 c)) hb
  generalize hN : bdN _ _ _ p q = N at hbd ⊢
  generalize hD : bdD _ p q = D at hbd ⊢
  unfold bd at hbd
  dsimp only at hbd
  rw [← hx, ← hz] at hbd
  rcases hbd with h | ⟨h1, h2, h3, h4⟩ | ⟨h1, h2, h3, h4⟩ | ⟨h1, h2, h3, h4⟩
  · exact absurd h.1 hpq
  · rw [h3, h4]; exact s_lineAtB c0 c1 hs t0 t1 d0 d1 x0 x1 z0 z1 rx rz ⟨h1, h2⟩
  · rw [h3, h4]; exact s_lineAtP c0 c1 hs t0 t1 d0 d1 x0 x1 z0 z1 rx rz ⟨h1, h2⟩
  · rw [h3, h4]; exact s_lineAtN c0 c1 hs t0 t1 d0 d1 x0 x1 z0 z1 rx rz ⟨h1, h2⟩
set_option maxRecDepth 100000 in
set_option maxHeartbeats 4000000 in
theorem s_most {l : Launch} {t dr tx : Nat} {w : zW} (hP : okPb w) {c yr s : Int} (c0 : 0 ≤ c) (c1 : c < 12) (hs : s = 1 ∨ s = -1) (t0 : 0 ≤ yr) (t1 : yr ≤ 500) (hh : hv (fun k => w 30 (c * 10 + k)) (fun k => w 31 (c * 10 + k)) (w 33 c) (w 32 c)) : zSp l mX7_most false 3 0 0 [zR 29, zI c, zI yr, zI s] (ZZ t dr tx) w (zRp1 (fun r => (-4000000 ≤ r ∧ r ≤ 4000000) ∧ ln (fun k => w 30 (c * 10 + k)) (fun k => w 31 (c * 10 + k)) (w 33 c) (w 32 c) s yr r) (ZZ t dr tx) w) zNo := by
  refine zA_intro ⟨plainFor_of_name (by decide +kernel), Or.inl (by decide +kernel)⟩ rfl (Nat.le_of_ble_eq_true rfl) ?_
  obtain ⟨⟨m0, m1⟩, ⟨d0, d1⟩, hrd⟩ := hP c c0 c1
  have hvb : ∀ k : Int, 0 ≤ k → k < w 32 c → (-500 ≤ w 30 (c * 10 + k) - yr ∧ w 30 (c * 10 + k) - yr ≤ 500) ∧ (-3500 ≤ s * w 31 (c * 10 + k) + w 33 c ∧ s * w 31 (c * 10 + k) + w 33 c ≤ 3500) ∧ -3500 ≤ s * w 31 (c * 10 + k) - w 33 c ∧ s * w 31 (c * 10 + k) - w 33 c ≤ 3500 := fun k k0 k1 => by
    have h := hrd k k0 k1
    rcases hs with rfl | rfl <;> omega
  have hbb : ∀ p q N E : Int, (0 ≤ p ∧ p < w 32 c) → (0 ≤ q ∧ q < w 32 c) → bd (fun k => w 30 (c * 10 + k) - yr) (fun k => s * w 31 (c * 10 + k) - w 33 c) (fun k => s * w 31 (c * 10 + k) + w 33 c) p q N E → -3500000 ≤ cl N E ∧ cl N E ≤ 3500000 := fun p q N E hp hq h => by
    have hb := bd_b h (hvb p hp.1 hp.2).1 (hvb q hq.1 hq.2).1 (hvb p hp.1 hp.2).2.1 (hvb q hq.1 hq.2).2.1 (hvb q hq.1 hq.2).2.2
    exact cl_b (bd_pos h) hb.1 hb.2 (by decide)
  refine zA_range (fun hr => ?_)
  show zA l mX7_most false 3 0 0 (zRp1 (fun r => (-4000000 ≤ r ∧ r ≤ 4000000) ∧ ln (fun k => w 30 (c * 10 + k)) (fun k => w 31 (c * 10 + k)) (w 33 c) (w 32 c) s yr r) (ZZ t dr tx) w) zNo 0 [zR 29, zI c, zI yr, zI s, .null, .null, .null, .null, .null] [] (ZZ t dr tx) w
  refine zA_iload_n dX7_most_0 rfl ?_
  refine zA_bipush dX7_most_1 rfl ?_
  refine zA_imul dX7_most_3 ?_
  refine zA_istore (lo1 := [zR 29, zI c, zI yr, zI s, zI (c * 10), .null, .null, .null, .null]) dX7_most_4 (by decide) rfl rfl ?_
  refine zA_iload dX7_most_6 rfl ?_
  refine zA_aload_n dX7_most_8 rfl ?_
  refine zA_getR (n := 32) dX7_most_9 fX7_18 c29 rfl ?_
  refine zA_iload_n dX7_most_12 rfl ?_
  refine zA_iaload dX7_most_13 c32 (by first | assumption | omega) (by first | assumption | omega) (by decide) ?_
  refine zA_iadd dX7_most_14 ?_
  refine zA_istore (lo1 := [zR 29, zI c, zI yr, zI s, zI (c * 10), zI ((c * 10) + (w 32 c)), .null, .null, .null]) dX7_most_15 (by decide) rfl rfl ?_
  refine zA_ldc dX7_most_17 qX7_40 ?_
  refine zA_istore (lo1 := [zR 29, zI c, zI yr, zI s, zI (c * 10), zI ((c * 10) + (w 32 c)), zI 1000000000, .null, .null]) dX7_most_19 (by decide) rfl rfl ?_
  refine zA_iload dX7_most_21 rfl ?_
  refine zA_istore (lo1 := [zR 29, zI c, zI yr, zI s, zI (c * 10), zI ((c * 10) + (w 32 c)), zI 1000000000, zI (c * 10), .null]) dX7_most_23 (by decide) rfl rfl ?_
  have L25 : ∀ (z25 : Nat) (mo x p : Int) (hx : x = c * 10 + p) (p0 : 0 ≤ p) (p1 : p ≤ w 32 c) (mr : -4000000 ≤ mo ∧ mo ≤ 1000000000) (hm : mcV (fun k => w 30 (c * 10 + k) - yr) (fun k => s * w 31 (c * 10 + k) - w 33 c) (fun k => s * w 31 (c * 10 + k) + w 33 c) (fun a b => ((0 ≤ a ∧ a < w 32 c) ∧ (0 ≤ b ∧ b < w 32 c)) ∧ a < p) mo) (zm : (w 32 c - p).toNat < z25), zA l mX7_most false 3 0 0 (zRp1 (fun r => (-4000000 ≤ r ∧ r ≤ 4000000) ∧ ln (fun k => w 30 (c * 10 + k)) (fun k => w 31 (c * 10 + k)) (w 33 c) (w 32 c) s yr r) (ZZ t dr tx) w) zNo 25 [zR 29, zI c, zI yr, zI s, zI (c * 10), zI ((c * 10) + (w 32 c)), zI mo, zI x, .null] [] (ZZ t dr tx) w := by
    intro z25
    induction z25 with
    | zero => intro mo x p hx p0 p1 mr hm zm; exact absurd zm (Nat.not_lt_zero _)
    | succ z25 ih25 =>
      intro mo x p hx p0 p1 mr hm zm
      refine zA_iload dX7_most_25 rfl ?_
      refine zA_iload dX7_most_27 rfl ?_
      refine zA_icmp_ge (tgt := 131) dX7_most_29 (by decide) (by first | assumption | exact hr _ _ | exact inR_mk (by omega) (by omega)) (by first | assumption | exact hr _ _ | exact inR_mk (by omega) (by omega)) (fun k29 => ?_) (fun k29 => ?_)
      · skip
        refine zA_iload dX7_most_131 rfl ?_
        refine zA_iret dX7_most_133 rfl ?_
        have hmx := mcV_mx hm (m := w 32 c) (fun a b => by omega) (bd_ex (hv_two hh))
        have hR := mxC_R m0 m1 hmx (hv_ts hs hh)
        have hrb : -3500000 ≤ mo ∧ mo ≤ 3500000 := by
          obtain ⟨-, a, b, N, E, ⟨ha, hb, h1⟩, h2⟩ := hmx
          rw [h2]; exact hbb a b N E ha hb h1
        exact ⟨⟨_, rfl, by omega, hR⟩, rfl, rfl⟩
      · skip
        have hri0 := hrd p p0 (by omega)
        have hvp := hvb p p0 (by omega)
        rw [← hx] at hri0 hvp
        refine zA_aload_n dX7_most_32 rfl ?_
        refine zA_getR (n := 30) dX7_most_33 fX7_11 c29 rfl ?_
        refine zA_iload dX7_most_36 rfl ?_
        refine zA_iaload dX7_most_38 c30 (by first | assumption | omega) (by first | assumption | omega) (by decide) ?_
        refine zA_iload_n dX7_most_39 rfl ?_
        refine zA_icmp_ne (tgt := 66) dX7_most_40 (by decide) (by first | assumption | exact hr _ _ | exact inR_mk (by omega) (by omega)) (by first | assumption | exact hr _ _ | exact inR_mk (by omega) (by omega)) (fun c40 => ?_) (fun c40 => ?_)
        · skip
          refine zA_iload dX7_most_66 rfl ?_
          refine zA_istore (lo1 := [zR 29, zI c, zI yr, zI s, zI (c * 10), zI ((c * 10) + (w 32 c)), zI mo, zI x, zI (c * 10)]) dX7_most_68 (by decide) rfl rfl ?_
          have L70 : ∀ (z70 : Nat) (mo z q : Int) (hz : z = c * 10 + q) (q0 : 0 ≤ q) (q1 : q ≤ w 32 c) (mr : -4000000 ≤ mo ∧ mo ≤ 1000000000) (hm2 : mcV (fun k => w 30 (c * 10 + k) - yr) (fun k => s * w 31 (c * 10 + k) - w 33 c) (fun k => s * w 31 (c * 10 + k) + w 33 c) (fun a b => ((0 ≤ a ∧ a < w 32 c) ∧ (0 ≤ b ∧ b < w 32 c)) ∧ (a < p ∨ (a = p ∧ (b < q ∨ b = p)))) mo) (zm : (w 32 c - q).toNat < z70), zA l mX7_most false 3 0 0 (zRp1 (fun r => (-4000000 ≤ r ∧ r ≤ 4000000) ∧ ln (fun k => w 30 (c * 10 + k)) (fun k => w 31 (c * 10 + k)) (w 33 c) (w 32 c) s yr r) (ZZ t dr tx) w) zNo 70 [zR 29, zI c, zI yr, zI s, zI (c * 10), zI ((c * 10) + (w 32 c)), zI mo, zI x, zI z] [] (ZZ t dr tx) w := by
            intro z70
            induction z70 with
            | zero => intro mo z q hz q0 q1 mr hm2 zm; exact absurd zm (Nat.not_lt_zero _)
            | succ z70 ih70 =>
              intro mo z q hz q0 q1 mr hm2 zm
              refine zA_iload dX7_most_70 rfl ?_
              refine zA_iload dX7_most_72 rfl ?_
              refine zA_icmp_ge (tgt := 125) dX7_most_74 (by decide) (by first | assumption | exact hr _ _ | exact inR_mk (by omega) (by omega)) (by first | assumption | exact hr _ _ | exact inR_mk (by omega) (by omega)) (fun c74 => ?_) (fun c74 => ?_)
              · skip
                refine zA_iinc (lo1 := [zR 29, zI c, zI yr, zI s, zI (c * 10), zI ((c * 10) + (w 32 c)), zI mo, zI (x + 1), zI z]) dX7_most_125 rfl (by decide) rfl rfl ?_
                refine zA_goto (tgt := 25) dX7_most_128 (by decide) ?_
                refine zA_drop 8 (lo1 := [zR 29, zI c, zI yr, zI s, zI (c * 10), zI ((c * 10) + (w 32 c)), zI mo, zI (x + 1), .null]) rfl ?_
                exact ih25 mo _ (p + 1) (by omega) (by omega) (by omega) mr (mcV_V (fun a b => by omega) hm2) (by omega)
              · skip
                have hrj0 := hrd q q0 (by omega)
                have hvq := hvb q q0 (by omega)
                rw [← hz] at hrj0 hvq
                refine zA_aload_n dX7_most_77 rfl ?_
                refine zA_getR (n := 30) dX7_most_78 fX7_11 c29 rfl ?_
                refine zA_iload dX7_most_81 rfl ?_
                refine zA_iaload dX7_most_83 c30 (by first | assumption | omega) (by first | assumption | omega) (by decide) ?_
                refine zA_iload_n dX7_most_84 rfl ?_
                refine zA_isub dX7_most_85 ?_
                refine zA_aload_n dX7_most_86 rfl ?_
                refine zA_getR (n := 30) dX7_most_87 fX7_11 c29 rfl ?_
                refine zA_iload dX7_most_90 rfl ?_
                refine zA_iaload dX7_most_92 c30 (by first | assumption | omega) (by first | assumption | omega) (by decide) ?_
                refine zA_iload_n dX7_most_93 rfl ?_
                refine zA_isub dX7_most_94 ?_
                refine zA_cS (st := []) dX7_most_95 sX7_bounds kX7_44 (s_bounds (w := w) (S := (ZZ t dr tx)) (a := w 30 x - yr) (b := w 30 z - yr) (inR_mk (by omega) (by omega)) (inR_mk (by omega) (by omega))) (by decide) rfl rfl (Nat.le_of_ble_eq_true rfl) (zRt_el ?_)
                show zA l mX7_most false 3 0 0 (zRp1 (fun r => (-4000000 ≤ r ∧ r ≤ 4000000) ∧ ln (fun k => w 30 (c * 10 + k)) (fun k => w 31 (c * 10 + k)) (w 33 c) (w 32 c) s yr r) (ZZ t dr tx) w) zNo 98 [zR 29, zI c, zI yr, zI s, zI (c * 10), zI ((c * 10) + (w 32 c)), zI mo, zI x, zI z] [zI (if (w 30 x - yr < 0 ∧ 0 < w 30 z - yr) ∨ (0 < w 30 x - yr ∧ w 30 x - yr < w 30 z - yr) ∨ (w 30 x - yr < 0 ∧ w 30 z - yr < w 30 x - yr) then 1 else 0)] (ZZ t dr tx) w
                refine zA_if_eq (tgt := 119) dX7_most_98 (by decide) (inR_ite _) (fun c98 => ?_) (fun c98 => ?_)
                · skip
                  replace c98 := zite_eq c98
                  refine zA_iinc (lo1 := [zR 29, zI c, zI yr, zI s, zI (c * 10), zI ((c * 10) + (w 32 c)), zI mo, zI x, zI (z + 1)]) dX7_most_119 rfl (by decide) rfl rfl ?_
                  refine zA_goto (tgt := 70) dX7_most_122 (by decide) ?_
                  exact ih70 mo _ (q + 1) (by omega) (by omega) (by omega) mr (by
                              by_cases e : q = p
                              · exact mcV_V (fun a b => by omega) hm2
                              · exact mcV_no hm2 (i := p) (j := q) (fun a b => by omega) (by unfold bdP; dsimp only; rw [← hx, ← hz]; omega)) (by omega)
                · skip
                  replace c98 := zite_ne c98
                  have hbP : bdP (fun k => w 30 (c * 10 + k) - yr) p q := by unfold bdP; dsimp only; rw [← hx, ← hz]; omega
                  have hpq : p ≠ q := fun e => by rw [e, ← hz] at hx; rw [hx] at c98; omega
                  have hbd := bdP_bd (L := (fun k => s * w 31 (c * 10 + k) - w 33 c)) (U := (fun k => s * w 31 (c * 10 + k) + w 33 c)) hbP
                  have hbr := hbb p q _ _ ⟨p0, by omega⟩ ⟨q0, by omega⟩ hbd
                  refine zA_iload dX7_most_101 rfl ?_
                  refine zA_aload_n dX7_most_103 rfl ?_
                  refine zA_iload_n dX7_most_104 rfl ?_
                  refine zA_iload_n dX7_most_105 rfl ?_
                  refine zA_iload_n dX7_most_106 rfl ?_
                  refine zA_iload dX7_most_107 rfl ?_
                  refine zA_iload dX7_most_109 rfl ?_
                  refine zA_cV (st := [zI mo]) dX7_most_111 vX7_lineAt kX7_48 (s_lineAt (w := w) c0 c1 hs t0 t1 d0 d1 (by omega) (by omega) (by omega) (by omega) hri0 hrj0 hx hz hbP hpq) (by decide) c29 rfl rfl (Nat.le_of_ble_eq_true rfl) rfl (zRt_el ?_)
                  show zA l mX7_most false 3 0 0 (zRp1 (fun r => (-4000000 ≤ r ∧ r ≤ 4000000) ∧ ln (fun k => w 30 (c * 10 + k)) (fun k => w 31 (c * 10 + k)) (w 33 c) (w 32 c) s yr r) (ZZ t dr tx) w) zNo 114 [zR 29, zI c, zI yr, zI s, zI (c * 10), zI ((c * 10) + (w 32 c)), zI mo, zI x, zI z] [zI (cl (bdN (fun k => w 30 (c * 10 + k) - yr) (fun k => s * w 31 (c * 10 + k) - w 33 c) (fun k => s * w 31 (c * 10 + k) + w 33 c) p q) (bdD (fun k => w 30 (c * 10 + k) - yr) p q)), zI mo] (ZZ t dr tx) w
                  refine zA_mmin dX7_most_114 kmX7_41 zw_min (by first | assumption | exact hr _ _ | exact inR_mk (by omega) (by omega)) (by first | assumption | exact hr _ _ | exact inR_mk (by omega) (by omega)) (Nat.le_of_ble_eq_true rfl) ?_
                  refine zA_istore (lo1 := [zR 29, zI c, zI yr, zI s, zI (c * 10), zI ((c * 10) + (w 32 c)), zI (min mo (cl (bdN (fun k => w 30 (c * 10 + k) - yr) (fun k => s * w 31 (c * 10 + k) - w 33 c) (fun k => s * w 31 (c * 10 + k) + w 33 c) p q) (bdD (fun k => w 30 (c * 10 + k) - yr) p q))), zI x, zI z]) dX7_most_117 (by decide) rfl rfl ?_
                  refine zA_iinc (lo1 := [zR 29, zI c, zI yr, zI s, zI (c * 10), zI ((c * 10) + (w 32 c)), zI (min mo (cl (bdN (fun k => w 30 (c * 10 + k) - yr) (fun k => s * w 31 (c * 10 + k) - w 33 c) (fun k => s * w 31 (c * 10 + k) + w 33 c) p q) (bdD (fun k => w 30 (c * 10 + k) - yr) p q))), zI x, zI (z + 1)]) dX7_most_119 rfl (by decide) rfl rfl ?_
                  refine zA_goto (tgt := 70) dX7_most_122 (by decide) ?_
                  exact ih70 _ _ (q + 1) (by omega) (by omega) (by omega) (by omega) (mcV_add hm2 (i := p) (j := q) (fun a b => by omega) hbd (by omega)) (by omega)
          exact L70 _ mo (c * 10) 0 (by omega) (by omega) (by omega) mr (mcV_no hm (i := p) (j := p) (fun a b => by omega) (by unfold bdP; dsimp only; rw [← hx]; omega)) (Nat.lt_succ_self _)
        · skip
          have hbz : bd (fun k => w 30 (c * 10 + k) - yr) (fun k => s * w 31 (c * 10 + k) - w 33 c) (fun k => s * w 31 (c * 10 + k) + w 33 c) p p (s * w 31 (c * 10 + p) + w 33 c) 1 := Or.inl ⟨rfl, by dsimp only; rw [← hx]; omega, rfl, rfl⟩
          refine zA_iload dX7_most_43 rfl ?_
          refine zA_iload_n dX7_most_45 rfl ?_
          refine zA_aload_n dX7_most_46 rfl ?_
          refine zA_getR (n := 31) dX7_most_47 fX7_15 c29 rfl ?_
          refine zA_iload dX7_most_50 rfl ?_
          refine zA_iaload dX7_most_52 c31 (by first | assumption | omega) (by first | assumption | omega) (by decide) ?_
          refine zA_imul dX7_most_53 ?_
          refine zA_aload_n dX7_most_54 rfl ?_
          refine zA_getR (n := 33) dX7_most_55 fX7_21 c29 rfl ?_
          refine zA_iload_n dX7_most_58 rfl ?_
          refine zA_iaload dX7_most_59 c33 (by first | assumption | omega) (by first | assumption | omega) (by decide) ?_
          refine zA_iadd dX7_most_60 ?_
          refine zA_mmin dX7_most_61 kmX7_41 zw_min (by first | assumption | exact hr _ _ | exact inR_mk (by omega) (by omega)) (by first | assumption | exact hr _ _ | exact inR_mk (by omega) (by omega)) (Nat.le_of_ble_eq_true rfl) ?_
          refine zA_istore (lo1 := [zR 29, zI c, zI yr, zI s, zI (c * 10), zI ((c * 10) + (w 32 c)), zI (min mo ((s * (w 31 x)) + (w 33 c))), zI x, .null]) dX7_most_64 (by decide) rfl rfl ?_
          refine zA_iload dX7_most_66 rfl ?_
          refine zA_istore (lo1 := [zR 29, zI c, zI yr, zI s, zI (c * 10), zI ((c * 10) + (w 32 c)), zI (min mo ((s * (w 31 x)) + (w 33 c))), zI x, zI (c * 10)]) dX7_most_68 (by decide) rfl rfl ?_
          have L70 : ∀ (z70 : Nat) (mo z q : Int) (hz : z = c * 10 + q) (q0 : 0 ≤ q) (q1 : q ≤ w 32 c) (mr : -4000000 ≤ mo ∧ mo ≤ 1000000000) (hm2 : mcV (fun k => w 30 (c * 10 + k) - yr) (fun k => s * w 31 (c * 10 + k) - w 33 c) (fun k => s * w 31 (c * 10 + k) + w 33 c) (fun a b => ((0 ≤ a ∧ a < w 32 c) ∧ (0 ≤ b ∧ b < w 32 c)) ∧ (a < p ∨ (a = p ∧ (b < q ∨ b = p)))) mo) (zm : (w 32 c - q).toNat < z70), zA l mX7_most false 3 0 0 (zRp1 (fun r => (-4000000 ≤ r ∧ r ≤ 4000000) ∧ ln (fun k => w 30 (c * 10 + k)) (fun k => w 31 (c * 10 + k)) (w 33 c) (w 32 c) s yr r) (ZZ t dr tx) w) zNo 70 [zR 29, zI c, zI yr, zI s, zI (c * 10), zI ((c * 10) + (w 32 c)), zI mo, zI x, zI z] [] (ZZ t dr tx) w := by
            intro z70
            induction z70 with
            | zero => intro mo z q hz q0 q1 mr hm2 zm; exact absurd zm (Nat.not_lt_zero _)
            | succ z70 ih70 =>
              intro mo z q hz q0 q1 mr hm2 zm
              refine zA_iload dX7_most_70 rfl ?_
              refine zA_iload dX7_most_72 rfl ?_
              refine zA_icmp_ge (tgt := 125) dX7_most_74 (by decide) (by first | assumption | exact hr _ _ | exact inR_mk (by omega) (by omega)) (by first | assumption | exact hr _ _ | exact inR_mk (by omega) (by omega)) (fun c74 => ?_) (fun c74 => ?_)
              · skip
                refine zA_iinc (lo1 := [zR 29, zI c, zI yr, zI s, zI (c * 10), zI ((c * 10) + (w 32 c)), zI mo, zI (x + 1), zI z]) dX7_most_125 rfl (by decide) rfl rfl ?_
                refine zA_goto (tgt := 25) dX7_most_128 (by decide) ?_
                refine zA_drop 8 (lo1 := [zR 29, zI c, zI yr, zI s, zI (c * 10), zI ((c * 10) + (w 32 c)), zI mo, zI (x + 1), .null]) rfl ?_
                exact ih25 mo _ (p + 1) (by omega) (by omega) (by omega) mr (mcV_V (fun a b => by omega) hm2) (by omega)
              · skip
                have hrj0 := hrd q q0 (by omega)
                have hvq := hvb q q0 (by omega)
                rw [← hz] at hrj0 hvq
                refine zA_aload_n dX7_most_77 rfl ?_
                refine zA_getR (n := 30) dX7_most_78 fX7_11 c29 rfl ?_
                refine zA_iload dX7_most_81 rfl ?_
                refine zA_iaload dX7_most_83 c30 (by first | assumption | omega) (by first | assumption | omega) (by decide) ?_
                refine zA_iload_n dX7_most_84 rfl ?_
                refine zA_isub dX7_most_85 ?_
                refine zA_aload_n dX7_most_86 rfl ?_
                refine zA_getR (n := 30) dX7_most_87 fX7_11 c29 rfl ?_
                refine zA_iload dX7_most_90 rfl ?_
                refine zA_iaload dX7_most_92 c30 (by first | assumption | omega) (by first | assumption | omega) (by decide) ?_
                refine zA_iload_n dX7_most_93 rfl ?_
                refine zA_isub dX7_most_94 ?_
                refine zA_cS (st := []) dX7_most_95 sX7_bounds kX7_44 (s_bounds (w := w) (S := (ZZ t dr tx)) (a := w 30 x - yr) (b := w 30 z - yr) (inR_mk (by omega) (by omega)) (inR_mk (by omega) (by omega))) (by decide) rfl rfl (Nat.le_of_ble_eq_true rfl) (zRt_el ?_)
                show zA l mX7_most false 3 0 0 (zRp1 (fun r => (-4000000 ≤ r ∧ r ≤ 4000000) ∧ ln (fun k => w 30 (c * 10 + k)) (fun k => w 31 (c * 10 + k)) (w 33 c) (w 32 c) s yr r) (ZZ t dr tx) w) zNo 98 [zR 29, zI c, zI yr, zI s, zI (c * 10), zI ((c * 10) + (w 32 c)), zI mo, zI x, zI z] [zI (if (w 30 x - yr < 0 ∧ 0 < w 30 z - yr) ∨ (0 < w 30 x - yr ∧ w 30 x - yr < w 30 z - yr) ∨ (w 30 x - yr < 0 ∧ w 30 z - yr < w 30 x - yr) then 1 else 0)] (ZZ t dr tx) w
                refine zA_if_eq (tgt := 119) dX7_most_98 (by decide) (inR_ite _) (fun c98 => ?_) (fun c98 => ?_)
                · skip
                  replace c98 := zite_eq c98
                  refine zA_iinc (lo1 := [zR 29, zI c, zI yr, zI s, zI (c * 10), zI ((c * 10) + (w 32 c)), zI mo, zI x, zI (z + 1)]) dX7_most_119 rfl (by decide) rfl rfl ?_
                  refine zA_goto (tgt := 70) dX7_most_122 (by decide) ?_
                  exact ih70 mo _ (q + 1) (by omega) (by omega) (by omega) mr (by
                              by_cases e : q = p
                              · exact mcV_V (fun a b => by omega) hm2
                              · exact mcV_no hm2 (i := p) (j := q) (fun a b => by omega) (by unfold bdP; dsimp only; rw [← hx, ← hz]; omega)) (by omega)
                · skip
                  replace c98 := zite_ne c98
                  have hbP : bdP (fun k => w 30 (c * 10 + k) - yr) p q := by unfold bdP; dsimp only; rw [← hx, ← hz]; omega
                  have hpq : p ≠ q := fun e => by rw [e, ← hz] at hx; rw [hx] at c98; omega
                  have hbd := bdP_bd (L := (fun k => s * w 31 (c * 10 + k) - w 33 c)) (U := (fun k => s * w 31 (c * 10 + k) + w 33 c)) hbP
                  have hbr := hbb p q _ _ ⟨p0, by omega⟩ ⟨q0, by omega⟩ hbd
                  refine zA_iload dX7_most_101 rfl ?_
                  refine zA_aload_n dX7_most_103 rfl ?_
                  refine zA_iload_n dX7_most_104 rfl ?_
                  refine zA_iload_n dX7_most_105 rfl ?_
                  refine zA_iload_n dX7_most_106 rfl ?_
                  refine zA_iload dX7_most_107 rfl ?_
                  refine zA_iload dX7_most_109 rfl ?_
                  refine zA_cV (st := [zI mo]) dX7_most_111 vX7_lineAt kX7_48 (s_lineAt (w := w) c0 c1 hs t0 t1 d0 d1 (by omega) (by omega) (by omega) (by omega) hri0 hrj0 hx hz hbP hpq) (by decide) c29 rfl rfl (Nat.le_of_ble_eq_true rfl) rfl (zRt_el ?_)
                  show zA l mX7_most false 3 0 0 (zRp1 (fun r => (-4000000 ≤ r ∧ r ≤ 4000000) ∧ ln (fun k => w 30 (c * 10 + k)) (fun k => w 31 (c * 10 + k)) (w 33 c) (w 32 c) s yr r) (ZZ t dr tx) w) zNo 114 [zR 29, zI c, zI yr, zI s, zI (c * 10), zI ((c * 10) + (w 32 c)), zI mo, zI x, zI z] [zI (cl (bdN (fun k => w 30 (c * 10 + k) - yr) (fun k => s * w 31 (c * 10 + k) - w 33 c) (fun k => s * w 31 (c * 10 + k) + w 33 c) p q) (bdD (fun k => w 30 (c * 10 + k) - yr) p q)), zI mo] (ZZ t dr tx) w
                  refine zA_mmin dX7_most_114 kmX7_41 zw_min (by first | assumption | exact hr _ _ | exact inR_mk (by omega) (by omega)) (by first | assumption | exact hr _ _ | exact inR_mk (by omega) (by omega)) (Nat.le_of_ble_eq_true rfl) ?_
                  refine zA_istore (lo1 := [zR 29, zI c, zI yr, zI s, zI (c * 10), zI ((c * 10) + (w 32 c)), zI (min mo (cl (bdN (fun k => w 30 (c * 10 + k) - yr) (fun k => s * w 31 (c * 10 + k) - w 33 c) (fun k => s * w 31 (c * 10 + k) + w 33 c) p q) (bdD (fun k => w 30 (c * 10 + k) - yr) p q))), zI x, zI z]) dX7_most_117 (by decide) rfl rfl ?_
                  refine zA_iinc (lo1 := [zR 29, zI c, zI yr, zI s, zI (c * 10), zI ((c * 10) + (w 32 c)), zI (min mo (cl (bdN (fun k => w 30 (c * 10 + k) - yr) (fun k => s * w 31 (c * 10 + k) - w 33 c) (fun k => s * w 31 (c * 10 + k) + w 33 c) p q) (bdD (fun k => w 30 (c * 10 + k) - yr) p q))), zI x, zI (z + 1)]) dX7_most_119 rfl (by decide) rfl rfl ?_
                  refine zA_goto (tgt := 70) dX7_most_122 (by decide) ?_
                  exact ih70 _ _ (q + 1) (by omega) (by omega) (by omega) (by omega) (mcV_add hm2 (i := p) (j := q) (fun a b => by omega) hbd (by omega)) (by omega)
          exact L70 _ _ (c * 10) 0 (by omega) (by omega) (by omega) (by omega) (by have h := mcV_add hm (i := p) (j := p) (V' := (fun a b => ((0 ≤ a ∧ a < w 32 c) ∧ (0 ≤ b ∧ b < w 32 c)) ∧ (a < p ∨ (a = p ∧ (b < 0 ∨ b = p))))) (fun a b => by omega) hbz (by rw [cl_1, ← hx]; omega); rw [cl_1, ← hx] at h; exact h) (Nat.lt_succ_self _)
  exact L25 _ 1000000000 (c * 10) 0 (by omega) (by omega) (by omega) (by omega) ⟨fun a b N E v => by omega, Or.inl ⟨rfl, fun a b v => by omega⟩⟩ (Nat.lt_succ_self _)

set_option maxRecDepth 100000 in
set_option maxHeartbeats 4000000 in
theorem s_greatest {l : Launch} {t dr tx : Nat} {w : zW} (hP : okPb w) {c yr : Int} (c0 : 0 ≤ c) (c1 : c < 12) (t0 : 0 ≤ yr) (t1 : yr ≤ 500) (hh : hv (fun k => w 30 (c * 10 + k)) (fun k => w 31 (c * 10 + k)) (w 33 c) (w 32 c)) : zSp l mX7_greatest false 4 0 0 [zR 29, zI c, zI yr] (ZZ t dr tx) w (zRp1 (fun r => (-4000000 ≤ r ∧ r ≤ 4000000) ∧ ln (fun k => w 30 (c * 10 + k)) (fun k => w 31 (c * 10 + k)) (w 33 c) (w 32 c) 1 yr r) (ZZ t dr tx) w) zNo := by
  refine zA_intro ⟨plainFor_of_name (by decide +kernel), Or.inl (by decide +kernel)⟩ rfl (Nat.le_of_ble_eq_true rfl) ?_
  refine zA_range (fun hr => ?_)
  show zA l mX7_greatest false 4 0 0 (zRp1 (fun r => (-4000000 ≤ r ∧ r ≤ 4000000) ∧ ln (fun k => w 30 (c * 10 + k)) (fun k => w 31 (c * 10 + k)) (w 33 c) (w 32 c) 1 yr r) (ZZ t dr tx) w) zNo 0 [zR 29, zI c, zI yr] [] (ZZ t dr tx) w
  refine zA_aload_n dX7_greatest_0 rfl ?_
  refine zA_iload_n dX7_greatest_1 rfl ?_
  refine zA_iload_n dX7_greatest_2 rfl ?_
  refine zA_iconst dX7_greatest_3 ?_
  refine zA_cV (st := []) dX7_greatest_4 vX7_most kX7_36 (s_most (w := w) (s := 1) hP c0 c1 (Or.inl rfl) t0 t1 hh) (by decide) c29 rfl rfl (Nat.le_of_ble_eq_true rfl) rfl (zRp1_el (fun r hr_ => ?_))
  refine zA_iret dX7_greatest_7 rfl ?_
  exact ⟨⟨_, rfl, hr_⟩, rfl, rfl⟩

set_option maxRecDepth 100000 in
set_option maxHeartbeats 4000000 in
theorem s_least {l : Launch} {t dr tx : Nat} {w : zW} (hP : okPb w) {c yr : Int} (c0 : 0 ≤ c) (c1 : c < 12) (t0 : 0 ≤ yr) (t1 : yr ≤ 500) (hh : hv (fun k => w 30 (c * 10 + k)) (fun k => w 31 (c * 10 + k)) (w 33 c) (w 32 c)) : zSp l mX7_least false 4 0 0 [zR 29, zI c, zI yr] (ZZ t dr tx) w (zRp1 (fun r => (-4000000 ≤ r ∧ r ≤ 4000000) ∧ ln (fun k => w 30 (c * 10 + k)) (fun k => w 31 (c * 10 + k)) (w 33 c) (w 32 c) (-1) yr (-r)) (ZZ t dr tx) w) zNo := by
  refine zA_intro ⟨plainFor_of_name (by decide +kernel), Or.inl (by decide +kernel)⟩ rfl (Nat.le_of_ble_eq_true rfl) ?_
  refine zA_range (fun hr => ?_)
  show zA l mX7_least false 4 0 0 (zRp1 (fun r => (-4000000 ≤ r ∧ r ≤ 4000000) ∧ ln (fun k => w 30 (c * 10 + k)) (fun k => w 31 (c * 10 + k)) (w 33 c) (w 32 c) (-1) yr (-r)) (ZZ t dr tx) w) zNo 0 [zR 29, zI c, zI yr] [] (ZZ t dr tx) w
  refine zA_aload_n dX7_least_0 rfl ?_
  refine zA_iload_n dX7_least_1 rfl ?_
  refine zA_iload_n dX7_least_2 rfl ?_
  refine zA_iconst dX7_least_3 ?_
  refine zA_cV (st := []) dX7_least_4 vX7_most kX7_36 (s_most (w := w) (s := -1) hP c0 c1 (Or.inr rfl) t0 t1 hh) (by decide) c29 rfl rfl (Nat.le_of_ble_eq_true rfl) rfl (zRp1_el (fun r hr_ => ?_))
  refine zA_ineg dX7_least_7 ?_
  refine zA_iret dX7_least_8 rfl ?_
  exact ⟨⟨_, rfl, by omega, by rw [Int.neg_neg]; exact hr_.2⟩, rfl, rfl⟩

set_option maxRecDepth 100000 in
set_option maxHeartbeats 4000000 in
theorem s_lean {l : Launch} {t dr tx : Nat} {w : zW} (ht : t = 4 ∨ t = 10) (hch : w t 5 ≤ 12) (hP : okPb w) {c y k : Int} (hc : inR c) (hy : inR y) (hk : inR k) : zSp l mX11_lean false 6 3 18 [zR 0, zI c, zI y, zI k] (ZZ t dr tx) w (zIr (((0 ≤ c ∧ c < w t 5) ∧ 0 ≤ k ∧ k < 2) ∧ (0 ≤ y ∧ y ≤ 500) ∧ hv (fun k => w 30 (c * 10 + k)) (fun k => w 31 (c * 10 + k)) (w 33 c) (w 32 c)) (fun r => lnW (fun k => w 30 (c * 10 + k)) (fun k => w 31 (c * 10 + k)) (w 33 c) (w 32 c) k y r) (ZZ t dr tx) w) (zXp (¬ ((0 ≤ c ∧ c < w t 5) ∧ 0 ≤ k ∧ k < 2)) (((0 ≤ c ∧ c < w t 5) ∧ 0 ≤ k ∧ k < 2) ∧ ¬ ((0 ≤ y ∧ y ≤ 500) ∧ hv (fun k => w 30 (c * 10 + k)) (fun k => w 31 (c * 10 + k)) (w 33 c) (w 32 c))) (ZZ t dr tx) w) := by
  refine zA_intro ⟨plainFor_of_name (by decide +kernel), Or.inl (by decide +kernel)⟩ rfl (Nat.le_of_ble_eq_true rfl) ?_
  refine zA_range (fun hr => ?_)
  show zA l mX11_lean false 6 3 18 (zIr (((0 ≤ c ∧ c < w t 5) ∧ 0 ≤ k ∧ k < 2) ∧ (0 ≤ y ∧ y ≤ 500) ∧ hv (fun k => w 30 (c * 10 + k)) (fun k => w 31 (c * 10 + k)) (w 33 c) (w 32 c)) (fun r => lnW (fun k => w 30 (c * 10 + k)) (fun k => w 31 (c * 10 + k)) (w 33 c) (w 32 c) k y r) (ZZ t dr tx) w) (zXp (¬ ((0 ≤ c ∧ c < w t 5) ∧ 0 ≤ k ∧ k < 2)) (((0 ≤ c ∧ c < w t 5) ∧ 0 ≤ k ∧ k < 2) ∧ ¬ ((0 ≤ y ∧ y ≤ 500) ∧ hv (fun k => w 30 (c * 10 + k)) (fun k => w 31 (c * 10 + k)) (w 33 c) (w 32 c))) (ZZ t dr tx) w) 0 [zR 0, zI c, zI y, zI k] [] (ZZ t dr tx) w
  refine zA_aload_n dX11_lean_0 rfl ?_
  refine zA_iload_n dX11_lean_1 rfl ?_
  refine zA_callV (bc2 := 2) (bs2 := 12) (st := []) dX11_lean_2 vX11_askChimney kX11_173 (s_askChimney (w := w) ht (c := c) (by first | assumption | exact hr _ _ | exact inR_mk (by omega) (by omega))) (by decide) rfl rfl (Nat.le_of_ble_eq_true rfl) c0 rfl ⟨rfl, rfl⟩ (zRa_el (fun h_2 => ?_)) (zXp_m rfl (fun h => by first | exact h.elim | omega) (fun h => by first | exact h.elim | omega))
  show zA l mX11_lean false 6 2 12 (zIr (((0 ≤ c ∧ c < w t 5) ∧ 0 ≤ k ∧ k < 2) ∧ (0 ≤ y ∧ y ≤ 500) ∧ hv (fun k => w 30 (c * 10 + k)) (fun k => w 31 (c * 10 + k)) (w 33 c) (w 32 c)) (fun r => lnW (fun k => w 30 (c * 10 + k)) (fun k => w 31 (c * 10 + k)) (w 33 c) (w 32 c) k y r) (ZZ t dr tx) w) (zXp (¬ ((0 ≤ c ∧ c < w t 5) ∧ 0 ≤ k ∧ k < 2)) (((0 ≤ c ∧ c < w t 5) ∧ 0 ≤ k ∧ k < 2) ∧ ¬ ((0 ≤ y ∧ y ≤ 500) ∧ hv (fun k => w 30 (c * 10 + k)) (fun k => w 31 (c * 10 + k)) (w 33 c) (w 32 c))) (ZZ t dr tx) w) 5 [zR 0, zI c, zI y, zI k] [] (ZZ t dr tx) w
  refine zA_iload_n dX11_lean_5 rfl ?_
  refine zA_iconst dX11_lean_6 ?_
  refine zA_callS (bc2 := 1) (bs2 := 6) (st := []) dX11_lean_7 sX11_askWhat kX11_165 (s_askWhat (w := w) (c := k) (n := 2) (by first | assumption | exact hr _ _ | exact inR_mk (by omega) (by omega)) ⟨by decide, by decide⟩) (by decide) rfl rfl (Nat.le_of_ble_eq_true rfl) ⟨rfl, rfl⟩ (zRa_el (fun h_7 => ?_)) (zXp_m rfl (fun h => by first | exact h.elim | omega) (fun h => by first | exact h.elim | omega))
  show zA l mX11_lean false 6 1 6 (zIr (((0 ≤ c ∧ c < w t 5) ∧ 0 ≤ k ∧ k < 2) ∧ (0 ≤ y ∧ y ≤ 500) ∧ hv (fun k => w 30 (c * 10 + k)) (fun k => w 31 (c * 10 + k)) (w 33 c) (w 32 c)) (fun r => lnW (fun k => w 30 (c * 10 + k)) (fun k => w 31 (c * 10 + k)) (w 33 c) (w 32 c) k y r) (ZZ t dr tx) w) (zXp (¬ ((0 ≤ c ∧ c < w t 5) ∧ 0 ≤ k ∧ k < 2)) (((0 ≤ c ∧ c < w t 5) ∧ 0 ≤ k ∧ k < 2) ∧ ¬ ((0 ≤ y ∧ y ≤ 500) ∧ hv (fun k => w 30 (c * 10 + k)) (fun k => w 31 (c * 10 + k)) (w 33 c) (w 32 c))) (ZZ t dr tx) w) 10 [zR 0, zI c, zI y, zI k] [] (ZZ t dr tx) w
  refine zA_iconst dX11_lean_10 ?_
  refine zA_iload_n dX11_lean_11 rfl ?_
  refine zA_sipush dX11_lean_12 rfl ?_
  refine zA_cS (st := []) dX11_lean_15 sX11_between kX11_213 (s_between (w := w) (a := 0) (b := y) (e := 500) ⟨by decide, by decide⟩ (by first | assumption | exact hr _ _ | exact inR_mk (by omega) (by omega)) ⟨by decide, by decide⟩) (by decide) rfl rfl (Nat.le_of_ble_eq_true rfl) (zRt_el ?_)
  show zA l mX11_lean false 6 1 6 (zIr (((0 ≤ c ∧ c < w t 5) ∧ 0 ≤ k ∧ k < 2) ∧ (0 ≤ y ∧ y ≤ 500) ∧ hv (fun k => w 30 (c * 10 + k)) (fun k => w 31 (c * 10 + k)) (w 33 c) (w 32 c)) (fun r => lnW (fun k => w 30 (c * 10 + k)) (fun k => w 31 (c * 10 + k)) (w 33 c) (w 32 c) k y r) (ZZ t dr tx) w) (zXp (¬ ((0 ≤ c ∧ c < w t 5) ∧ 0 ≤ k ∧ k < 2)) (((0 ≤ c ∧ c < w t 5) ∧ 0 ≤ k ∧ k < 2) ∧ ¬ ((0 ≤ y ∧ y ≤ 500) ∧ hv (fun k => w 30 (c * 10 + k)) (fun k => w 31 (c * 10 + k)) (w 33 c) (w 32 c))) (ZZ t dr tx) w) 18 [zR 0, zI c, zI y, zI k] [zI (if 0 ≤ y ∧ y ≤ 500 then 1 else 0)] (ZZ t dr tx) w
  refine zA_if_eq (tgt := 32) dX11_lean_18 (by decide) (inR_ite _) (fun c18 => ?_) (fun c18 => ?_)
  · skip
    replace c18 := zite_eq c18
    refine zA_throw (sa := 1109) (zIAE_n dX11_lean_32 dX11_lean_35 ⟨dX11_lean_36, dX11_lean_38, dX11_lean_41⟩) (List.mem_of_getElem? (i := 9) rfl) rfl rfl (Nat.le_of_ble_eq_true rfl) (by decide) ?_
    first
    | exact ⟨Or.inr ⟨rfl, ⟨by omega, by omega⟩, fun q => isB_eq hhl k29 q.2⟩, rfl, rfl⟩
    | exact ⟨Or.inr ⟨rfl, ⟨by omega, by omega⟩, fun q => c18 q.1⟩, rfl, rfl⟩
  · skip
    replace c18 := zite_ne c18
    refine zA_aload_n dX11_lean_21 rfl ?_
    refine zA_getR (n := 29) dX11_lean_22 fX11_50 c0 rfl ?_
    refine zA_iload_n dX11_lean_25 rfl ?_
    refine zA_cV (st := []) dX11_lean_26 vX7_hasLean kX11_246 (s_hasLean (w := w) hP (c := c) (by omega) (by omega)) (by decide) c29 rfl rfl (Nat.le_of_ble_eq_true rfl) rfl (zRp1_el (fun hl hhl => ?_))
    have hlr := isB_R hhl
    refine zA_if_ne (tgt := 42) dX11_lean_29 (by decide) (by first | assumption | exact hr _ _ | exact inR_mk (by omega) (by omega)) (fun k29 => ?_) (fun k29 => ?_)
    · skip
      refine zA_iload_n dX11_lean_42 rfl ?_
      refine zA_if_ne (tgt := 58) dX11_lean_43 (by decide) (by first | assumption | exact hr _ _ | exact inR_mk (by omega) (by omega)) (fun c43 => ?_) (fun c43 => ?_)
      · skip
        refine zA_aload_n dX11_lean_58 rfl ?_
        refine zA_getR (n := 29) dX11_lean_59 fX11_50 c0 rfl ?_
        refine zA_iload_n dX11_lean_62 rfl ?_
        refine zA_iload_n dX11_lean_63 rfl ?_
        refine zA_cV (st := []) dX11_lean_64 vX7_greatest kX11_255 (s_greatest (w := w) hP (c := c) (yr := y) (by omega) (by omega) (by omega) (by omega) (isB_ne hhl k29)) (by decide) c29 rfl rfl (Nat.le_of_ble_eq_true rfl) rfl (zRp1_el (fun r hrr => ?_))
        refine zA_iret dX11_lean_67 rfl ?_
        exact ⟨⟨⟨by omega, by omega⟩, by omega, isB_ne hhl k29⟩, ⟨_, rfl, ⟨fun q => by first | exact (hrr.2) | exact absurd q (by omega), fun q => by first | exact absurd (by omega) q | exact hrr.2⟩⟩, rfl, rfl⟩
      · skip
        refine zA_aload_n dX11_lean_46 rfl ?_
        refine zA_getR (n := 29) dX11_lean_47 fX11_50 c0 rfl ?_
        refine zA_iload_n dX11_lean_50 rfl ?_
        refine zA_iload_n dX11_lean_51 rfl ?_
        refine zA_cV (st := []) dX11_lean_52 vX7_least kX11_252 (s_least (w := w) hP (c := c) (yr := y) (by omega) (by omega) (by omega) (by omega) (isB_ne hhl k29)) (by decide) c29 rfl rfl (Nat.le_of_ble_eq_true rfl) rfl (zRp1_el (fun r hrr => ?_))
        refine zA_goto (tgt := 67) dX11_lean_55 (by decide) ?_
        refine zA_iret dX11_lean_67 rfl ?_
        exact ⟨⟨⟨by omega, by omega⟩, by omega, isB_ne hhl k29⟩, ⟨_, rfl, ⟨fun q => by first | exact (hrr.2) | exact absurd q (by omega), fun q => by first | exact absurd (by omega) q | exact hrr.2⟩⟩, rfl, rfl⟩
    · skip
      refine zA_throw (sa := 1109) (zIAE_n dX11_lean_32 dX11_lean_35 ⟨dX11_lean_36, dX11_lean_38, dX11_lean_41⟩) (List.mem_of_getElem? (i := 9) rfl) rfl rfl (Nat.le_of_ble_eq_true rfl) (by decide) ?_
      first
      | exact ⟨Or.inr ⟨rfl, ⟨by omega, by omega⟩, fun q => isB_eq hhl k29 q.2⟩, rfl, rfl⟩
      | exact ⟨Or.inr ⟨rfl, ⟨by omega, by omega⟩, fun q => c18 q.1⟩, rfl, rfl⟩

set_option maxRecDepth 100000 in
set_option maxHeartbeats 4000000 in
theorem s_limit {l : Launch} {t dr tx : Nat} {w : zW} (ht : t = 4 ∨ t = 10) (hch : w t 5 ≤ 12) (hP : okPb w) {c lt k : Int} (hc : inR c) (hlt : inR lt) (hk : inR k) : zSp l mX11_limit false 6 2 12 [zR 0, zI c, zI lt, zI k] (ZZ t dr tx) w (zIr ((0 ≤ c ∧ c < w t 5) ∧ 0 ≤ k ∧ k < 2) (lmR (fun k => w 30 (c * 10 + k)) (fun k => w 31 (c * 10 + k)) (w 33 c) (w 32 c) k lt) (ZZ t dr tx) w) (zXp (¬ ((0 ≤ c ∧ c < w t 5) ∧ 0 ≤ k ∧ k < 2)) (False) (ZZ t dr tx) w) := by
  refine zA_intro ⟨plainFor_of_name (by decide +kernel), Or.inl (by decide +kernel)⟩ rfl (Nat.le_of_ble_eq_true rfl) ?_
  refine zA_range (fun hr => ?_)
  show zA l mX11_limit false 6 2 12 (zIr ((0 ≤ c ∧ c < w t 5) ∧ 0 ≤ k ∧ k < 2) (lmR (fun k => w 30 (c * 10 + k)) (fun k => w 31 (c * 10 + k)) (w 33 c) (w 32 c) k lt) (ZZ t dr tx) w) (zXp (¬ ((0 ≤ c ∧ c < w t 5) ∧ 0 ≤ k ∧ k < 2)) (False) (ZZ t dr tx) w) 0 [zR 0, zI c, zI lt, zI k, .null, .null] [] (ZZ t dr tx) w
  refine zA_aload_n dX11_limit_0 rfl ?_
  refine zA_iload_n dX11_limit_1 rfl ?_
  refine zA_callV (bc2 := 1) (bs2 := 6) (st := []) dX11_limit_2 vX11_askChimney kX11_173 (s_askChimney (w := w) ht (c := c) (by first | assumption | exact hr _ _ | exact inR_mk (by omega) (by omega))) (by decide) rfl rfl (Nat.le_of_ble_eq_true rfl) c0 rfl ⟨rfl, rfl⟩ (zRa_el (fun h_2 => ?_)) (zXp_m rfl (fun h => by first | exact h.elim | omega) (fun h => by first | exact h.elim | omega))
  show zA l mX11_limit false 6 1 6 (zIr ((0 ≤ c ∧ c < w t 5) ∧ 0 ≤ k ∧ k < 2) (lmR (fun k => w 30 (c * 10 + k)) (fun k => w 31 (c * 10 + k)) (w 33 c) (w 32 c) k lt) (ZZ t dr tx) w) (zXp (¬ ((0 ≤ c ∧ c < w t 5) ∧ 0 ≤ k ∧ k < 2)) (False) (ZZ t dr tx) w) 5 [zR 0, zI c, zI lt, zI k, .null, .null] [] (ZZ t dr tx) w
  refine zA_iload_n dX11_limit_5 rfl ?_
  refine zA_iconst dX11_limit_6 ?_
  refine zA_callS (bc2 := 0) (bs2 := 0) (st := []) dX11_limit_7 sX11_askWhat kX11_165 (s_askWhat (w := w) (c := k) (n := 2) (by first | assumption | exact hr _ _ | exact inR_mk (by omega) (by omega)) ⟨by decide, by decide⟩) (by decide) rfl rfl (Nat.le_of_ble_eq_true rfl) ⟨rfl, rfl⟩ (zRa_el (fun h_7 => ?_)) (zXp_m rfl (fun h => by first | exact h.elim | omega) (fun h => by first | exact h.elim | omega))
  show zA l mX11_limit false 6 0 0 (zIr ((0 ≤ c ∧ c < w t 5) ∧ 0 ≤ k ∧ k < 2) (lmR (fun k => w 30 (c * 10 + k)) (fun k => w 31 (c * 10 + k)) (w 33 c) (w 32 c) k lt) (ZZ t dr tx) w) (zXp (¬ ((0 ≤ c ∧ c < w t 5) ∧ 0 ≤ k ∧ k < 2)) (False) (ZZ t dr tx) w) 10 [zR 0, zI c, zI lt, zI k, .null, .null] [] (ZZ t dr tx) w
  refine zA_aload_n dX11_limit_10 rfl ?_
  refine zA_getR (n := 29) dX11_limit_11 fX11_50 c0 rfl ?_
  refine zA_iload_n dX11_limit_14 rfl ?_
  refine zA_cV (st := []) dX11_limit_15 vX7_hasLean kX11_246 (s_hasLean (w := w) hP (c := c) (by omega) (by omega)) (by decide) c29 rfl rfl (Nat.le_of_ble_eq_true rfl) rfl (zRp1_el (fun hl hhl => ?_))
  have hlr := isB_R hhl
  refine zA_if_ne (tgt := 23) dX11_limit_18 (by decide) (by first | assumption | exact hr _ _ | exact inR_mk (by omega) (by omega)) (fun c18 => ?_) (fun c18 => ?_)
  · skip
    refine zA_aload_n dX11_limit_23 rfl ?_
    refine zA_getR (n := 29) dX11_limit_24 fX11_50 c0 rfl ?_
    refine zA_iload_n dX11_limit_27 rfl ?_
    refine zA_cV (st := []) dX11_limit_28 vX7_latestYear kX11_258 (s_latestYear (w := w) (c := c) (by omega) (by omega) (hP c (by omega) (by omega)).1.1 (hP c (by omega) (by omega)).1.2) (by decide) c29 rfl rfl (Nat.le_of_ble_eq_true rfl) rfl (zRt_el ?_)
    show zA l mX11_limit false 6 0 0 (zIr ((0 ≤ c ∧ c < w t 5) ∧ 0 ≤ k ∧ k < 2) (lmR (fun k => w 30 (c * 10 + k)) (fun k => w 31 (c * 10 + k)) (w 33 c) (w 32 c) k lt) (ZZ t dr tx) w) (zXp (¬ ((0 ≤ c ∧ c < w t 5) ∧ 0 ≤ k ∧ k < 2)) (False) (ZZ t dr tx) w) 31 [zR 0, zI c, zI lt, zI k, .null, .null] [zI (wkMost (fun k => w 30 (c * 10 + k)) (w 32 c).toNat)] (ZZ t dr tx) w
    have hfr := wkMost_ub (f := (fun k => w 30 (c * 10 + k))) (m := 300) (by decide) (w 32 c).toNat (fun j j0 j1 => ((hP c (by omega) (by omega)).2.2 j j0 (by omega)).1.2)
    have hfn := wkMost_n (f := (fun k => w 30 (c * 10 + k))) (w 32 c).toNat
    refine zA_istore (lo1 := [zR 0, zI c, zI lt, zI k, zI (wkMost (fun k => w 30 (c * 10 + k)) (w 32 c).toNat), .null]) dX11_limit_31 (by decide) rfl rfl ?_
    have L33 : ∀ (z33 : Nat) (y : Int) (y0 : (wkMost (fun k => w 30 (c * 10 + k)) (w 32 c).toNat) ≤ y) (y1 : y ≤ 501) (hg : ∀ x : Int, (wkMost (fun k => w 30 (c * 10 + k)) (w 32 c).toNat) ≤ x → x < y → ¬ lmP (fun k => w 30 (c * 10 + k)) (fun k => w 31 (c * 10 + k)) (w 33 c) (w 32 c) k lt x) (zm : (501 - y).toNat < z33), zA l mX11_limit false 6 0 0 (zIr ((0 ≤ c ∧ c < w t 5) ∧ 0 ≤ k ∧ k < 2) (lmR (fun k => w 30 (c * 10 + k)) (fun k => w 31 (c * 10 + k)) (w 33 c) (w 32 c) k lt) (ZZ t dr tx) w) (zXp (¬ ((0 ≤ c ∧ c < w t 5) ∧ 0 ≤ k ∧ k < 2)) (False) (ZZ t dr tx) w) 33 [zR 0, zI c, zI lt, zI k, zI y, .null] [] (ZZ t dr tx) w := by
      intro z33
      induction z33 with
      | zero => intro y y0 y1 hg zm; exact absurd zm (Nat.not_lt_zero _)
      | succ z33 ih33 =>
        intro y y0 y1 hg zm
        refine zA_iload dX11_limit_33 rfl ?_
        refine zA_sipush dX11_limit_35 rfl ?_
        refine zA_icmp_gt (tgt := 85) dX11_limit_38 (by decide) (by first | assumption | exact hr _ _ | exact inR_mk (by omega) (by omega)) ⟨by decide, by decide⟩ (fun c38 => ?_) (fun c38 => ?_)
        · skip
          refine zA_iconst dX11_limit_85 ?_
          refine zA_iret dX11_limit_86 rfl ?_
          exact ⟨⟨by omega, by omega⟩, ⟨_, rfl, fun q => absurd (isB_ne hhl c18) q, fun _ => Or.inl ⟨rfl, fun x x0 hx => by
            by_cases g : x < y
            · exact hg x x0 g hx
            · have := hx.1; omega⟩⟩, rfl, rfl⟩
        · skip
          have L68 : ∀ (a : Int) (ar : inR a) (ha : lnW (fun k => w 30 (c * 10 + k)) (fun k => w 31 (c * 10 + k)) (w 33 c) (w 32 c) (1 - k) y a), zA l mX11_limit false 6 0 0 (zIr ((0 ≤ c ∧ c < w t 5) ∧ 0 ≤ k ∧ k < 2) (lmR (fun k => w 30 (c * 10 + k)) (fun k => w 31 (c * 10 + k)) (w 33 c) (w 32 c) k lt) (ZZ t dr tx) w) (zXp (¬ ((0 ≤ c ∧ c < w t 5) ∧ 0 ≤ k ∧ k < 2)) (False) (ZZ t dr tx) w) 68 [zR 0, zI c, zI lt, zI k, zI y, .null] [zI a] (ZZ t dr tx) w := by
            intro a ar ha
            refine zA_istore (lo1 := [zR 0, zI c, zI lt, zI k, zI y, zI a]) dX11_limit_68 (by decide) rfl rfl ?_
            refine zA_iload dX11_limit_70 rfl ?_
            refine zA_iload_n dX11_limit_72 rfl ?_
            refine zA_icmp_lt (tgt := 79) dX11_limit_73 (by decide) (by first | assumption | exact hr _ _ | exact inR_mk (by omega) (by omega)) (by first | assumption | exact hr _ _ | exact inR_mk (by omega) (by omega)) (fun c73 => ?_) (fun c73 => ?_)
            · skip
              refine zA_iinc (lo1 := [zR 0, zI c, zI lt, zI k, zI (y + 1), zI a]) dX11_limit_79 rfl (by decide) rfl rfl ?_
              refine zA_goto (tgt := 33) dX11_limit_82 (by decide) ?_
              refine zA_drop 5 (lo1 := [zR 0, zI c, zI lt, zI k, zI (y + 1), .null]) rfl ?_
              exact ih33 (y + 1) (by omega) (by omega) (fun x a b => by
                      by_cases e : x = y
                      · rw [e]
                        rintro ⟨-, a', h1, h2⟩
                        have := lnW_u h1 ha
                        omega
                      · exact hg x a (by omega)) (by omega)
            · skip
              refine zA_iload dX11_limit_76 rfl ?_
              refine zA_iret dX11_limit_78 rfl ?_
              exact ⟨⟨by omega, by omega⟩, ⟨_, rfl, fun q => absurd (isB_ne hhl c18) q, fun _ => Or.inr ⟨y0, ⟨by omega, a, ha, by omega⟩, hg⟩⟩, rfl, rfl⟩
          refine zA_iload_n dX11_limit_41 rfl ?_
          refine zA_if_ne (tgt := 58) dX11_limit_42 (by decide) (by first | assumption | exact hr _ _ | exact inR_mk (by omega) (by omega)) (fun c42 => ?_) (fun c42 => ?_)
          · skip
            refine zA_aload_n dX11_limit_58 rfl ?_
            refine zA_getR (n := 29) dX11_limit_59 fX11_50 c0 rfl ?_
            refine zA_iload_n dX11_limit_62 rfl ?_
            refine zA_iload dX11_limit_63 rfl ?_
            refine zA_cV (st := []) dX11_limit_65 vX7_least kX11_252 (s_least (w := w) hP (c := c) (yr := y) (by omega) (by omega) (by omega) (by omega) (isB_ne hhl c18)) (by decide) c29 rfl rfl (Nat.le_of_ble_eq_true rfl) rfl (zRp1_el (fun r hrr => ?_))
            exact L68 _ (inR_mk (by omega) (by omega)) ⟨fun q => by first | exact hrr.2 | exact absurd q (by omega), fun q => by first | exact absurd (by omega) q | exact hrr.2⟩
          · skip
            refine zA_aload_n dX11_limit_45 rfl ?_
            refine zA_getR (n := 29) dX11_limit_46 fX11_50 c0 rfl ?_
            refine zA_iload_n dX11_limit_49 rfl ?_
            refine zA_iload dX11_limit_50 rfl ?_
            refine zA_cV (st := []) dX11_limit_52 vX7_greatest kX11_255 (s_greatest (w := w) hP (c := c) (yr := y) (by omega) (by omega) (by omega) (by omega) (isB_ne hhl c18)) (by decide) c29 rfl rfl (Nat.le_of_ble_eq_true rfl) rfl (zRp1_el (fun r hrr => ?_))
            refine zA_goto (tgt := 68) dX11_limit_55 (by decide) ?_
            exact L68 _ (inR_mk (by omega) (by omega)) ⟨fun q => by first | exact hrr.2 | exact absurd q (by omega), fun q => by first | exact absurd (by omega) q | exact hrr.2⟩
    exact L33 _ _ (by omega) (by omega) (fun x a b => by omega) (Nat.lt_succ_self _)
  · skip
    refine zA_iconst dX11_limit_21 ?_
    refine zA_iret dX11_limit_22 rfl ?_
    exact ⟨⟨by omega, by omega⟩, ⟨_, rfl, fun _ => rfl, fun q => absurd q (isB_eq hhl c18)⟩, rfl, rfl⟩

