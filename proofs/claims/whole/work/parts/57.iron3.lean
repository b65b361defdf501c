/-! bands: what is weak, what lasts, new ones -/
def gS (f0 : Int → Int) (p : Int) : Nat → Int × (Int → Int)
  | 0 => (0, f0)
  | k + 1 => if (gS f0 p k).2 k ≤ 0 then gS f0 p k else ((gS f0 p k).1 + ((gS f0 p k).2 k + p - 1) / p, fun t => if (k : Int) ≤ t ∧ t ≤ (k : Int) + 10 then (gS f0 p k).2 t - ((gS f0 p k).2 k + p - 1) / p * p else (gS f0 p k).2 t)
theorem gS_1 {f0 : Int → Int} {p k : Int} (h : 0 ≤ k) (hk : (gS f0 p k.toNat).2 k ≤ 0) : gS f0 p (k + 1).toNat = gS f0 p k.toNat := by
  rw [zsucc h]
  simp only [gS]
  rw [zcast h, if_pos hk]
theorem gS_2 {f0 : Int → Int} {p k : Int} (h : 0 ≤ k) (hk : 0 < (gS f0 p k.toNat).2 k) : gS f0 p (k + 1).toNat = ((gS f0 p k.toNat).1 + ((gS f0 p k.toNat).2 k + p - 1) / p, fun t => if k ≤ t ∧ t ≤ k + 10 then (gS f0 p k.toNat).2 t - ((gS f0 p k.toNat).2 k + p - 1) / p * p else (gS f0 p k.toNat).2 t) := by
  rw [zsucc h]
  simp only [gS]
  rw [zcast h, if_neg (by omega)]
theorem gS_c {f0 g0 : Int → Int} {p n : Int} (h : ∀ t : Int, 0 ≤ t → t < n → f0 t = g0 t) : ∀ k : Nat, (k : Int) ≤ n → (gS f0 p k).1 = (gS g0 p k).1 ∧ ∀ t : Int, 0 ≤ t → t < n → (gS f0 p k).2 t = (gS g0 p k).2 t := by
  intro k
  induction k with
  | zero => intro _; exact ⟨rfl, h⟩
  | succ k ih =>
    intro hk
    obtain ⟨i1, i2⟩ := ih (by omega)
    have e := i2 k (by omega) (by omega)
    simp only [gS]
    rw [e]
    split
    · exact ⟨i1, i2⟩
    · refine ⟨by rw [i1], fun t a b => ?_⟩
      show (if _ then _ else _) = (if _ then _ else _)
      rw [i2 t a b]
theorem div_up {x p : Int} (hx : 0 < x) (hx2 : x ≤ 2600) (hp : 1 ≤ p) (hp2 : p ≤ 9999) : 1 ≤ (x + p - 1) / p ∧ (x + p - 1) / p ≤ 2600 ∧ 0 ≤ (x + p - 1) / p * p ∧ (x + p - 1) / p * p ≤ 12598 := by
  have h1 : 1 ≤ (x + p - 1) / p := (Int.le_ediv_iff_mul_le (by omega)).mpr (by omega)
  have h2 : (x + p - 1) / p * p ≤ x + p - 1 := Int.ediv_mul_le _ (by omega)
  have h3 : (x + p - 1) / p < x + 1 := (Int.ediv_lt_iff_lt_mul (by omega)).mpr (by
    have := Int.mul_nonneg (show 0 ≤ x by omega) (show 0 ≤ p - 1 by omega)
    rw [Int.mul_sub] at this
    rw [Int.add_mul]
    omega)
  have h4 := Int.mul_nonneg (show 0 ≤ (x + p - 1) / p by omega) (show 0 ≤ p by omega)
  exact ⟨h1, by omega, h4, by omega⟩
theorem gS_b {f0 : Int → Int} {p n : Int} (hp : 1 ≤ p) (hp2 : p ≤ 9999) (h : ∀ t : Int, 0 ≤ t → t < n → 0 ≤ f0 t ∧ f0 t ≤ 2600) : ∀ k : Nat, (k : Int) ≤ n → (0 ≤ (gS f0 p k).1 ∧ (gS f0 p k).1 ≤ k * 2600) ∧ ∀ t : Int, 0 ≤ t → t < n → -(k * 20000) ≤ (gS f0 p k).2 t ∧ (gS f0 p k).2 t ≤ 2600 := by
  intro k
  induction k with
  | zero => intro _; exact ⟨by simp [gS], fun t a b => by have := h t a b; simp [gS]; omega⟩
  | succ k ih =>
    intro hk
    obtain ⟨i1, i2⟩ := ih (by omega)
    simp only [gS]
    by_cases e : (gS f0 p k).2 k ≤ 0
    · rw [if_pos e]
      exact ⟨by omega, fun t a b => by have := i2 t a b; omega⟩
    · rw [if_neg e]
      have hb := i2 k (by omega) (by omega)
      have hd := div_up (x := (gS f0 p k).2 k) (by omega) hb.2 hp hp2
      refine ⟨?_, fun t a b => ?_⟩
      · show 0 ≤ (gS f0 p k).1 + _ ∧ (gS f0 p k).1 + _ ≤ _
        omega
      · have := i2 t a b
        show -(((k + 1 : Nat) : Int) * 20000) ≤ (if (k : Int) ≤ t ∧ t ≤ (k : Int) + 10 then (gS f0 p k).2 t - ((gS f0 p k).2 k + p - 1) / p * p else (gS f0 p k).2 t) ∧ (if (k : Int) ≤ t ∧ t ≤ (k : Int) + 10 then (gS f0 p k).2 t - ((gS f0 p k).2 k + p - 1) / p * p else (gS f0 p k).2 t) ≤ 2600
        by_cases q : (k : Int) ≤ t ∧ t ≤ (k : Int) + 10
        · rw [if_pos q]; omega
        · rw [if_neg q]; omega
def wkR (k : Int) (f : Int → Int) (n r : Int) : Prop := (k = 0 → r = wkMany f n.toNat) ∧ (k = 1 → isLeast f n r) ∧ (k = 2 → r = wkMost f n.toNat)
def cWf (w : zW) (c n y v : Int) : Int → Int := fun s => max 0 (v * (n - 1 - s) - cBears w c s y)
theorem wkMany_c {f g : Int → Int} (n : Nat) (h : ∀ s : Int, 0 ≤ s → s < n → f s = g s) : wkMany f n = wkMany g n := by
  induction n with
  | zero => rfl
  | succ n ih => simp only [wkMany]; rw [ih (fun s a b => h s a (by omega)), h n (by omega) (by omega)]
theorem wkMost_c {f g : Int → Int} (n : Nat) (h : ∀ s : Int, 0 ≤ s → s < n → f s = g s) : wkMost f n = wkMost g n := by
  induction n with
  | zero => rfl
  | succ n ih => simp only [wkMost]; rw [ih (fun s a b => h s a (by omega)), h n (by omega) (by omega)]
theorem isLeast_c {f g : Int → Int} {n r : Int} (h : ∀ s : Int, 0 ≤ s → s < n → f s = g s) (k : isLeast f n r) : isLeast g n r := by
  rcases k with ⟨a, b⟩ | ⟨a, b, c, e⟩
  · exact Or.inl ⟨a, fun s p q => by rw [← h s p q]; exact b s p q⟩
  · exact Or.inr ⟨a, b, by rw [← h r a b]; exact c, fun s p q => by rw [← h s p (by omega)]; exact e s p q⟩
theorem isLeast_u {f : Int → Int} {n r r' : Int} (h : isLeast f n r) (k : isLeast f n r') : r = r' := by
  rcases h with ⟨a, b⟩ | ⟨a, b, c, e⟩ <;> rcases k with ⟨a', b'⟩ | ⟨a', b', c', e'⟩
  · omega
  · exact absurd c' (b r' a' b')
  · exact absurd c (b' r a b)
  · rcases Int.lt_trichotomy r r' with g | g | g
    · exact absurd c (e' r a g)
    · exact g
    · exact absurd c' (e r' a' g)
theorem isLeast_many {f : Int → Int} : ∀ n : Nat, 0 < wkMany f n ↔ ∃ s : Int, (0 ≤ s ∧ s < n) ∧ 0 < f s := by
  intro n
  induction n with
  | zero => exact ⟨fun h => absurd (show (0 : Int) < 0 from h) (by decide), fun ⟨s, a, _⟩ => by omega⟩
  | succ n ih =>
    simp only [wkMany]
    have hb := wkMany_b f n
    by_cases e : 0 < f n
    · rw [if_pos e]
      exact ⟨fun _ => ⟨n, by omega, e⟩, fun _ => by omega⟩
    · rw [if_neg e]
      constructor
      · intro h
        obtain ⟨s, a, b⟩ := ih.mp (by omega)
        exact ⟨s, by omega, b⟩
      · rintro ⟨s, a, b⟩
        have hs : s ≠ n := fun q => e (by rw [← q]; exact b)
        have := ih.mpr ⟨s, by omega, b⟩
        omega
theorem isLeast_ne {f : Int → Int} {n r : Int} (h : isLeast f n r) : r ≠ -1 ↔ ∃ s : Int, (0 ≤ s ∧ s < n) ∧ 0 < f s := by
  rcases h with ⟨a, b⟩ | ⟨a, b, c, e⟩
  · exact ⟨fun q => absurd a q, fun ⟨s, p, q⟩ => absurd q (b s p.1 p.2)⟩
  · exact ⟨fun _ => ⟨r, ⟨a, b⟩, c⟩, fun _ => by omega⟩
/-- the first year in which something is weak -/
def laP (F : Int → Int → Int) (n y z : Int) : Prop := z ≤ y + 100 ∧ ∃ s : Int, (0 ≤ s ∧ s < n) ∧ 0 < F z s
set_option maxRecDepth 100000 in
set_option maxHeartbeats 4000000 in
theorem s_fewestNew {l : Launch} {t dr tx : Nat} {w : zW} {n v p : Int} (n0 : 0 ≤ n) (n1 : n ≤ 200) (v0 : 0 ≤ v) (v1 : v ≤ 13) (p0 : 1 ≤ p) (p1 : p ≤ 9999) (hb : ∀ s, 0 ≤ s → s < n → 0 ≤ w 61 s ∧ w 61 s ≤ 100000) : zSp l mX3_fewestNew false 2 0 0 [zR 54, zI n, zI v, zI p] (ZZ t dr tx) w (fun v' S' w' => v' = some (zI (gS (fun t => max 0 (v * (n - 1 - t) - w 61 t)) p n.toNat).1) ∧ S' = (ZZ t dr tx) ∧ only 61 w w') zNo := by
  refine zA_intro ⟨plainFor_of_name (by decide +kernel), Or.inl (by decide +kernel)⟩ rfl (Nat.le_of_ble_eq_true rfl) ?_
  have hF0 : ∀ t : Int, 0 ≤ t → t < n → 0 ≤ (fun t => max 0 (v * (n - 1 - t) - w 61 t)) t ∧ (fun t => max 0 (v * (n - 1 - t) - w 61 t)) t ≤ 2600 := fun t a b => by
    have hm := zmulB v0 v1 (show 0 ≤ n - 1 - t by omega) (show n - 1 - t ≤ 200 by omega)
    have := hb t a b
    show 0 ≤ max 0 (v * (n - 1 - t) - w 61 t) ∧ max 0 (v * (n - 1 - t) - w 61 t) ≤ 2600
    omega
  refine zA_range (fun hr => ?_)
  show zA l mX3_fewestNew false 2 0 0 (fun v' S' w' => v' = some (zI (gS (fun t => max 0 (v * (n - 1 - t) - w 61 t)) p n.toNat).1) ∧ S' = (ZZ t dr tx) ∧ only 61 w w') zNo 0 [zR 54, zI n, zI v, zI p, .null, .null, .null] [] (ZZ t dr tx) w
  refine zA_iconst dX3_fewestNew_0 ?_
  refine zA_istore (lo1 := [zR 54, zI n, zI v, zI p, zI 0, .null, .null]) dX3_fewestNew_1 (by decide) rfl rfl ?_
  refine zA_iload_n dX3_fewestNew_3 rfl ?_
  refine zA_if_gt (tgt := 10) dX3_fewestNew_4 (by decide) (by first | assumption | exact hr _ _ | exact inR_mk (by omega) (by omega)) (fun c4 => ?_) (fun c4 => ?_)
  · skip
    refine zA_iconst dX3_fewestNew_10 ?_
    refine zA_istore (lo1 := [zR 54, zI n, zI v, zI p, zI 0, zI 0, .null]) dX3_fewestNew_11 (by decide) rfl rfl ?_
    have L13 : ∀ (z13 : Nat) (g k : Int) (w1 : zW) (k0 : 0 ≤ k) (k1 : k ≤ n) (hf : only 61 w w1) (hg : g = (gS (fun t => max 0 (v * (n - 1 - t) - w 61 t)) p k.toNat).1) (hw : ∀ t : Int, k ≤ t → t < n → max 0 ((gS (fun t => max 0 (v * (n - 1 - t) - w 61 t)) p k.toNat).2 t) = max 0 (v * (n - 1 - t) - w1 61 t)) (hbb : ∀ t : Int, 0 ≤ t → t < n → 0 ≤ w1 61 t ∧ w1 61 t ≤ 100000 + k * 20000) (zm : (n - k).toNat < z13), zA l mX3_fewestNew false 2 0 0 (fun v' S' w' => v' = some (zI (gS (fun t => max 0 (v * (n - 1 - t) - w 61 t)) p n.toNat).1) ∧ S' = (ZZ t dr tx) ∧ only 61 w w') zNo 13 [zR 54, zI n, zI v, zI p, zI g, zI k, .null] [] (ZZ t dr tx) w1 := by
      intro z13
      induction z13 with
      | zero => intro g k w1 k0 k1 hf hg hw hbb zm; exact absurd zm (Nat.not_lt_zero _)
      | succ z13 ih13 =>
        intro g k w1 k0 k1 hf hg hw hbb zm
        refine zA_range (fun hr => ?_)
        have hgb := gS_b p0 p1 hF0 k.toNat (by omega)
        rw [← hg, zcast k0] at hgb
        refine zA_iload dX3_fewestNew_13 rfl ?_
        refine zA_iload_n dX3_fewestNew_15 rfl ?_
        refine zA_icmp_ge (tgt := 72) dX3_fewestNew_16 (by decide) (by first | assumption | exact hr _ _ | exact inR_mk (by omega) (by omega)) (by first | assumption | exact hr _ _ | exact inR_mk (by omega) (by omega)) (fun c16 => ?_) (fun c16 => ?_)
        · skip
          refine zA_iload dX3_fewestNew_72 rfl ?_
          refine zA_iret dX3_fewestNew_74 rfl ?_
          exact ⟨by rw [hg, show k = n by omega], rfl, hf⟩
        · skip
          have hk := hw k (by omega) (by omega)
          have hk2 := hgb.2 k k0 (by omega)
          have hm := zmulB v0 v1 (show 0 ≤ n - 1 - k by omega) (show n - 1 - k ≤ 200 by omega)
          have hbk := hbb k k0 (by omega)
          have hmx : 0 ≤ max 0 (v * (n - 1 - k) - w1 61 k) ∧ max 0 (v * (n - 1 - k) - w1 61 k) ≤ 2600 := by omega
          have hdb : 0 ≤ (max 0 (v * (n - 1 - k) - w1 61 k) + p - 1) / p := Int.ediv_nonneg (by omega) (by omega)
          have hdb2 : (max 0 (v * (n - 1 - k) - w1 61 k) + p - 1) / p ≤ max 0 (v * (n - 1 - k) - w1 61 k) + p - 1 := Int.ediv_le_self _ (by omega)
          refine zA_aload_n dX3_fewestNew_19 rfl ?_
          refine zA_iload dX3_fewestNew_20 rfl ?_
          refine zA_iload_n dX3_fewestNew_22 rfl ?_
          refine zA_iload_n dX3_fewestNew_23 rfl ?_
          refine zA_cV (st := []) dX3_fewestNew_24 vX3_wanting kX3_55 (s_wanting (w := w1) (s := k) (n := n) (v := v) k0 (by omega) n1 v0 v1 (by have := hbb k k0 (by omega); omega) (by have := hbb k k0 (by omega); omega)) (by decide) c54 rfl rfl (Nat.le_of_ble_eq_true rfl) rfl (zRt_el ?_)
          show zA l mX3_fewestNew false 2 0 0 (fun v' S' w' => v' = some (zI (gS (fun t => max 0 (v * (n - 1 - t) - w 61 t)) p n.toNat).1) ∧ S' = (ZZ t dr tx) ∧ only 61 w w') zNo 27 [zR 54, zI n, zI v, zI p, zI g, zI k, .null] [zI (max 0 (v * (n - 1 - k) - w1 61 k))] (ZZ t dr tx) w1
          refine zA_iload_n dX3_fewestNew_27 rfl ?_
          refine zA_iadd dX3_fewestNew_28 ?_
          refine zA_iconst dX3_fewestNew_29 ?_
          refine zA_isub dX3_fewestNew_30 ?_
          refine zA_iload_n dX3_fewestNew_31 rfl ?_
          refine zA_idiv dX3_fewestNew_32 (by first | assumption | omega) (by first | assumption | omega) (by first | assumption | omega) (by first | assumption | omega) ?_
          refine zA_istore (lo1 := [zR 54, zI n, zI v, zI p, zI g, zI k, zI ((((max 0 (v * (n - 1 - k) - w1 61 k)) + p) - 1) / p)]) dX3_fewestNew_33 (by decide) rfl rfl ?_
          refine zA_iload dX3_fewestNew_35 rfl ?_
          refine zA_if_le (tgt := 66) dX3_fewestNew_37 (by decide) (by first | assumption | exact hr _ _ | exact inR_mk (by omega) (by omega)) (fun c37 => ?_) (fun c37 => ?_)
          · skip
            have hle : (gS (fun t => max 0 (v * (n - 1 - t) - w 61 t)) p k.toNat).2 k ≤ 0 := Classical.byContradiction (fun h => by
              have := div_up (x := max 0 (v * (n - 1 - k) - w1 61 k)) (p := p) (by omega) (by omega) p0 p1
              omega)
            refine zA_iinc (lo1 := [zR 54, zI n, zI v, zI p, zI g, zI (k + 1), zI ((((max 0 (v * (n - 1 - k) - w1 61 k)) + p) - 1) / p)]) dX3_fewestNew_66 rfl (by decide) rfl rfl ?_
            refine zA_goto (tgt := 13) dX3_fewestNew_69 (by decide) ?_
            refine zA_drop 6 (lo1 := [zR 54, zI n, zI v, zI p, zI g, zI (k + 1), .null]) rfl ?_
            exact ih13 _ (k + 1) _ (by omega) (by omega) hf (by rw [gS_1 k0 (by omega)]; exact hg) (fun t a b => by rw [gS_1 k0 (by omega)]; exact hw t (by omega) b) (fun t a b => by have := hbb t a b; omega) (by omega)
          · skip
            have hpos : 0 < (gS (fun t => max 0 (v * (n - 1 - t) - w 61 t)) p k.toNat).2 k := Classical.byContradiction (fun h => by
              have e : max 0 (v * (n - 1 - k) - w1 61 k) = 0 := by omega
              rw [e, Int.zero_add, Int.ediv_eq_zero_of_lt (by omega) (by omega)] at c37
              omega)
            have heq : ((gS (fun t => max 0 (v * (n - 1 - t) - w 61 t)) p k.toNat).2 k + p - 1) / p = (max 0 (v * (n - 1 - k) - w1 61 k) + p - 1) / p := by
              rw [show (gS (fun t => max 0 (v * (n - 1 - t) - w 61 t)) p k.toNat).2 k = max 0 (v * (n - 1 - k) - w1 61 k) by omega]
            have hdu := div_up (x := max 0 (v * (n - 1 - k) - w1 61 k)) (p := p) (by omega) (by omega) p0 p1
            refine zA_aload_n dX3_fewestNew_40 rfl ?_
            refine zA_iload_n dX3_fewestNew_41 rfl ?_
            refine zA_iconst dX3_fewestNew_42 ?_
            refine zA_isub dX3_fewestNew_43 ?_
            refine zA_iload dX3_fewestNew_44 rfl ?_
            refine zA_iconst dX3_fewestNew_46 ?_
            refine zA_iadd dX3_fewestNew_47 ?_
            refine zA_mmin dX3_fewestNew_48 kmX3_52 zw_min (by first | assumption | exact hr _ _ | exact inR_mk (by omega) (by omega)) (by first | assumption | exact hr _ _ | exact inR_mk (by omega) (by omega)) (Nat.le_of_ble_eq_true rfl) ?_
            refine zA_iload dX3_fewestNew_51 rfl ?_
            refine zA_iload_n dX3_fewestNew_53 rfl ?_
            refine zA_imul dX3_fewestNew_54 ?_
            refine zA_iload_n dX3_fewestNew_55 rfl ?_
            refine zA_cV (st := []) dX3_fewestNew_56 vX3_addAround kX3_43 (s_addAround (w := w1) (p := min (n - 1) (k + 5)) (u := (max 0 (v * (n - 1 - k) - w1 61 k) + p - 1) / p * p) (n := n) (by omega) (by omega) n0 n1 (by omega) (by omega) (fun t a b => by have := hbb t a b; omega)) (by decide) c54 rfl rfl (Nat.le_of_ble_eq_true rfl) rfl (fun q_1_v q_1_S q_1_w q_1 => ?_)
            obtain ⟨rfl, rfl, hqa, hqb⟩ := q_1
            refine zA_range (fun hr => ?_)
            show zA l mX3_fewestNew false 2 0 0 (fun v' S' w' => v' = some (zI (gS (fun t => max 0 (v * (n - 1 - t) - w 61 t)) p n.toNat).1) ∧ S' = (ZZ t dr tx) ∧ only 61 w w') zNo 59 [zR 54, zI n, zI v, zI p, zI g, zI k, zI ((((max 0 (v * (n - 1 - k) - w1 61 k)) + p) - 1) / p)] [] (ZZ t dr tx) q_1_w
            refine zA_iload dX3_fewestNew_59 rfl ?_
            refine zA_iload dX3_fewestNew_61 rfl ?_
            refine zA_iadd dX3_fewestNew_63 ?_
            refine zA_istore (lo1 := [zR 54, zI n, zI v, zI p, zI (g + ((((max 0 (v * (n - 1 - k) - w1 61 k)) + p) - 1) / p)), zI k, zI ((((max 0 (v * (n - 1 - k) - w1 61 k)) + p) - 1) / p)]) dX3_fewestNew_64 (by decide) rfl rfl ?_
            refine zA_iinc (lo1 := [zR 54, zI n, zI v, zI p, zI (g + ((((max 0 (v * (n - 1 - k) - w1 61 k)) + p) - 1) / p)), zI (k + 1), zI ((((max 0 (v * (n - 1 - k) - w1 61 k)) + p) - 1) / p)]) dX3_fewestNew_66 rfl (by decide) rfl rfl ?_
            refine zA_goto (tgt := 13) dX3_fewestNew_69 (by decide) ?_
            refine zA_drop 6 (lo1 := [zR 54, zI n, zI v, zI p, zI (g + ((((max 0 (v * (n - 1 - k) - w1 61 k)) + p) - 1) / p)), zI (k + 1), .null]) rfl ?_
            exact ih13 _ (k + 1) _ (by omega) (by omega) (only_tr hf hqa) (by rw [gS_2 k0 hpos, ← hg, heq]) (fun t a b => by
                        rw [gS_2 k0 hpos, hqb t (by omega) b]
                        have h1 := hw t (by omega) b
                        show max 0 (if k ≤ t ∧ t ≤ k + 10 then (gS (fun t => max 0 (v * (n - 1 - t) - w 61 t)) p k.toNat).2 t - ((gS (fun t => max 0 (v * (n - 1 - t) - w 61 t)) p k.toNat).2 k + p - 1) / p * p else (gS (fun t => max 0 (v * (n - 1 - t) - w 61 t)) p k.toNat).2 t) = _
                        rw [heq]
                        by_cases q : k ≤ t ∧ t ≤ k + 10
                        · rw [if_pos q, if_pos (by omega)]; omega
                        · rw [if_neg q, if_neg (by omega)]; omega) (fun t a b => by
                        rw [hqb t a b]
                        have := hbb t a b
                        split <;> omega) (by omega)
    exact L13 _ 0 0 w (by omega) (by omega) only_rfl rfl (fun t a b => by show max 0 (max 0 (v * (n - 1 - t) - w 61 t)) = _; omega) (fun t a b => by have := hb t a b; omega) (Nat.lt_succ_self _)
  · skip
    exfalso; omega

