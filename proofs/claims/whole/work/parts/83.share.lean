/-! letters laid even on gangs: the class -/
theorem inR_max {a b : Int} (ha : inR a) (hb : inR b) : inR (max a b) := ⟨by have := ha.1; omega, by have h1 := ha.2; have h2 := hb.2; omega⟩
theorem lfn_geB {wt : Int → Int} : ∀ (t : List Int) (i : Int) (ld : Int → Int) (y : Int), (∀ j : Int, i ≤ j → j < i + (t.length : Int) → 0 ≤ wt j) → ld y ≤ lfn wt i t ld y
  | [], _, _, _, _ => Int.le_refl _
  | x :: t, i, ld, y, h => by
    have e : (((x :: t).length : Nat) : Int) = (t.length : Int) + 1 := by simp
    have h1 := lfn_geB t (i + 1) (fun z => if z = x then ld z + wt i else ld z) y (fun j a b => h j (by omega) (by omega))
    refine Int.le_trans ?_ h1
    show ld y ≤ if y = x then ld y + wt i else ld y
    have := h i (by omega) (by omega)
    split <;> omega
theorem mxL_mono {ld ld' : Int → Int} (g : Nat) (h : ∀ y, ld y ≤ ld' y) : mxL ld g ≤ mxL ld' g := mxL_le (mxL_0 _ _) g (fun x x0 x1 => Int.le_trans (h x) (mxL_ge ld' g x x0 x1))
def laF (i : Int) (w w' : zW) : Prop := (∀ c x, c ≠ 23 → c ≠ 24 → c ≠ 27 → (c ≠ 16 ∨ x ≠ 8) → w' c x = w c x) ∧ (∀ x, w' 23 x = w 23 x) ∧ ∀ j : Int, j < i → w' 24 j = w 24 j
def laS (w w' : zW) : Prop := w' 16 8 = w 16 8 ∧ ∀ j, w' 27 j = w 27 j
def laA (M : List Int → Int) (i : Int) (w w' : zW) (t : List Int) : Prop := w' 16 8 = M t ∧ (∀ j : Int, 0 ≤ j → j < i → w' 27 j = w 24 j) ∧ alS (w' 27) i t
theorem laF_rfl {i : Int} {w : zW} : laF i w w := ⟨fun _ _ _ _ _ _ => rfl, fun _ => rfl, fun _ _ => rfl⟩
theorem laS_rfl {w : zW} : laS w w := ⟨rfl, fun _ => rfl⟩
set_option maxRecDepth 100000 in
set_option maxHeartbeats 4000000 in
theorem s_keepShares {l : Launch} {t dr tx : Nat} {w : zW} {g : Int} (g0 : 0 ≤ g) (g1 : g ≤ 4) (hn0 : 0 ≤ w 16 12) (hn : w 16 12 ≤ 8) : zSp l mX6_keepShares false 2 0 0 [zR 16, zI g] (ZZ t dr tx) w (fun v' S' w' => v' = none ∧ S' = (ZZ t dr tx) ∧ ((mxL (w 23) g.toNat < w 16 8 ∧ w' 16 8 = mxL (w 23) g.toNat ∧ (∀ j : Int, 0 ≤ j → j < w 16 12 → w' 27 j = w 24 j) ∧ ∀ c x, c ≠ 27 → (c ≠ 16 ∨ x ≠ 8) → w' c x = w c x) ∨ (w 16 8 ≤ mxL (w 23) g.toNat ∧ w' = w))) zNo := by
  refine zA_intro ⟨plainFor_of_name (by decide +kernel), Or.inl (by decide +kernel)⟩ rfl (Nat.le_of_ble_eq_true rfl) ?_
  refine zA_range (fun hr => ?_)
  show zA l mX6_keepShares false 2 0 0 (fun v' S' w' => v' = none ∧ S' = (ZZ t dr tx) ∧ ((mxL (w 23) g.toNat < w 16 8 ∧ w' 16 8 = mxL (w 23) g.toNat ∧ (∀ j : Int, 0 ≤ j → j < w 16 12 → w' 27 j = w 24 j) ∧ ∀ c x, c ≠ 27 → (c ≠ 16 ∨ x ≠ 8) → w' c x = w c x) ∨ (w 16 8 ≤ mxL (w 23) g.toNat ∧ w' = w))) zNo 0 [zR 16, zI g, .null, .null] [] (ZZ t dr tx) w
  refine zA_iconst dX6_keepShares_0 ?_
  refine zA_istore_n (lo1 := [zR 16, zI g, zI 0, .null]) dX6_keepShares_1 (by decide) rfl rfl ?_
  refine zA_iconst dX6_keepShares_2 ?_
  refine zA_istore_n (lo1 := [zR 16, zI g, zI 0, zI 0]) dX6_keepShares_3 (by decide) rfl rfl ?_
  have L4 : ∀ (z4 : Nat) (m x : Int) (x0 : 0 ≤ x) (x1 : x ≤ g) (hm : m = mxL (w 23) x.toNat) (hmr : inR m) (zm : (g - x).toNat < z4), zA l mX6_keepShares false 2 0 0 (fun v' S' w' => v' = none ∧ S' = (ZZ t dr tx) ∧ ((mxL (w 23) g.toNat < w 16 8 ∧ w' 16 8 = mxL (w 23) g.toNat ∧ (∀ j : Int, 0 ≤ j → j < w 16 12 → w' 27 j = w 24 j) ∧ ∀ c x, c ≠ 27 → (c ≠ 16 ∨ x ≠ 8) → w' c x = w c x) ∨ (w 16 8 ≤ mxL (w 23) g.toNat ∧ w' = w))) zNo 4 [zR 16, zI g, zI m, zI x] [] (ZZ t dr tx) w := by
    intro z4
    induction z4 with
    | zero => intro m x x0 x1 hm hmr zm; exact absurd zm (Nat.not_lt_zero _)
    | succ z4 ih4 =>
      intro m x x0 x1 hm hmr zm
      refine zA_iload_n dX6_keepShares_4 rfl ?_
      refine zA_iload_n dX6_keepShares_5 rfl ?_
      refine zA_icmp_ge (tgt := 26) dX6_keepShares_6 (by decide) (by first | assumption | exact hr _ _ | exact inR_mk (by omega) (by omega)) (by first | assumption | exact hr _ _ | exact inR_mk (by omega) (by omega)) (fun c6 => ?_) (fun c6 => ?_)
      · skip
        have hmg : m = mxL (w 23) g.toNat := by rw [hm, show x = g by omega]
        refine zA_iload_n dX6_keepShares_26 rfl ?_
        refine zA_aload_n dX6_keepShares_27 rfl ?_
        refine zA_getI dX6_keepShares_28 fX6_36 c16 rfl ?_
        refine zA_valI (w 16 8) rfl ?_
        refine zA_icmp_ge (tgt := 56) dX6_keepShares_31 (by decide) (by first | assumption | exact hr _ _ | exact inR_mk (by omega) (by omega)) (by first | assumption | exact hr _ _ | exact inR_mk (by omega) (by omega)) (fun c31 => ?_) (fun c31 => ?_)
        · skip
          refine zA_vret dX6_keepShares_56 rfl ?_
          exact ⟨rfl, rfl, Or.inr ⟨by rw [← hmg]; omega, rfl⟩⟩
        · skip
          refine zA_aload_n dX6_keepShares_34 rfl ?_
          refine zA_iload_n dX6_keepShares_35 rfl ?_
          refine zA_putI dX6_keepShares_36 fX6_36 c16 rfl (by first | assumption | exact hr _ _ | exact inR_mk (by omega) (by omega)) ⟨rfl, rfl⟩ ?_
          refine zA_namew (fun w_1 hw_1 => ?_)
          refine zA_range (fun hr => ?_)
          replace hw_1 : w_1 = up w 16 8 m := hw_1
          have e12 : w_1 16 12 = w 16 12 := by rw [hw_1, up_idx _ _ _ _ (by decide)]
          refine zA_aload_n dX6_keepShares_39 rfl ?_
          refine zA_getR (n := 24) dX6_keepShares_40 fX6_33 c16 rfl ?_
          refine zA_iconst dX6_keepShares_43 ?_
          refine zA_aload_n dX6_keepShares_44 rfl ?_
          refine zA_getR (n := 27) dX6_keepShares_45 fX6_46 c16 rfl ?_
          refine zA_iconst dX6_keepShares_48 ?_
          refine zA_aload_n dX6_keepShares_49 rfl ?_
          refine zA_getI dX6_keepShares_50 fX6_49 c16 rfl ?_
          refine zA_valI (w_1 16 12) rfl ?_
          refine zA_copy dX6_keepShares_53 rfl kaX6_142 zw_copy c24 c27 (by first | assumption | omega) (by first | assumption | omega) (by first | assumption | omega) (by first | assumption | omega) (by first | assumption | omega) (by decide) (by decide) (Nat.le_of_ble_eq_true rfl) ?_
          refine zA_namew (fun w_2 hw_2 => ?_)
          refine zA_range (fun hr => ?_)
          refine zA_vret dX6_keepShares_56 rfl ?_
          exact ⟨rfl, rfl, Or.inl ⟨by rw [← hmg]; omega, by rw [hw_2]; unfold cpy; rw [if_neg (by omega), hw_1, up_same, hmg], fun j j0 j1 => by
            rw [hw_2]; unfold cpy
            rw [hw_1, if_pos ⟨rfl, j0, by rw [up_idx _ _ _ _ (by decide)]; omega⟩, up_cell _ _ _ _ (by decide), show (0 : Int) + (j - 0) = j by omega], fun c x a b => by
            rw [hw_2]; unfold cpy
            rw [if_neg (fun q => a q.1), hw_1, up_n b]⟩⟩
      · skip
        refine zA_iload_n dX6_keepShares_9 rfl ?_
        refine zA_aload_n dX6_keepShares_10 rfl ?_
        refine zA_getR (n := 23) dX6_keepShares_11 fX6_30 c16 rfl ?_
        refine zA_iload_n dX6_keepShares_14 rfl ?_
        refine zA_iaload dX6_keepShares_15 c23 (by first | assumption | omega) (by first | assumption | omega) (by decide) ?_
        refine zA_mmax dX6_keepShares_16 kmX6_121 zw_max (by first | assumption | exact hr _ _ | exact inR_mk (by omega) (by omega)) (by first | assumption | exact hr _ _ | exact inR_mk (by omega) (by omega)) (Nat.le_of_ble_eq_true rfl) ?_
        refine zA_istore_n (lo1 := [zR 16, zI g, zI (max m (w 23 x)), zI x]) dX6_keepShares_19 (by decide) rfl rfl ?_
        refine zA_iinc (lo1 := [zR 16, zI g, zI (max m (w 23 x)), zI (x + 1)]) dX6_keepShares_20 rfl (by decide) rfl rfl ?_
        refine zA_goto (tgt := 4) dX6_keepShares_23 (by decide) ?_
        exact ih4 _ (x + 1) (by omega) (by omega) (by rw [zsucc x0]; simp only [mxL]; rw [zcast x0, hm]) (inR_max hmr (hr 23 x)) (by omega)
  exact L4 _ 0 0 (by omega) (by omega) rfl ⟨by decide, by decide⟩ (Nat.lt_succ_self _)

set_option maxRecDepth 100000 in
set_option maxHeartbeats 4000000 in
theorem s_lay_s {l : Launch} {t dr tx : Nat} {w : zW} {k : Nat} (IH : ∀ q : Nat, q < k → ∀ (w : zW) (i g u : Int) (i0 : 0 ≤ i) (hik : i + (q : Nat) = w 16 12) (hn : w 16 12 ≤ 8) (g0 : 1 ≤ g) (g4 : g ≤ 4) (u0 : 0 ≤ u) (u8 : u ≤ 8) (hE : 0 ≤ w 16 8) (hw : ∀ j : Int, 0 ≤ j → j < w 16 12 → 0 ≤ w 22 j ∧ w 22 j ≤ 1800) (hl : ∀ x : Int, 0 ≤ x → x < 4 → 0 ≤ w 23 x ∧ w 23 x ≤ 1800 * i), zSp l mX6_lay false (q + 3) 0 0 [zR 16, zI i, zI g, zI u] (ZZ t dr tx) w (fun v' S' w' => v' = none ∧ S' = (ZZ t dr tx) ∧ laF i w w' ∧ shO (fun s => vl g q s ∧ cvn u s) (fun s => mxL (lfn (w 22) i s (w 23)) g.toNat) (w 16 8) (laS w w') (laA (fun s => mxL (lfn (w 22) i s (w 23)) g.toNat) i w w')) zNo) {i g u : Int} (i0 : 0 ≤ i) (hik : i + (k : Nat) = w 16 12) (hn : w 16 12 ≤ 8) (g0 : 1 ≤ g) (g4 : g ≤ 4) (u0 : 0 ≤ u) (u8 : u ≤ 8) (hE : 0 ≤ w 16 8) (hw : ∀ j : Int, 0 ≤ j → j < w 16 12 → 0 ≤ w 22 j ∧ w 22 j ≤ 1800) (hl : ∀ x : Int, 0 ≤ x → x < 4 → 0 ≤ w 23 x ∧ w 23 x ≤ 1800 * i) : zSp l mX6_lay false (k + 3) 0 0 [zR 16, zI i, zI g, zI u] (ZZ t dr tx) w (fun v' S' w' => v' = none ∧ S' = (ZZ t dr tx) ∧ laF i w w' ∧ shO (fun s => vl g k s ∧ cvn u s) (fun s => mxL (lfn (w 22) i s (w 23)) g.toNat) (w 16 8) (laS w w') (laA (fun s => mxL (lfn (w 22) i s (w 23)) g.toNat) i w w')) zNo := by
  refine zA_intro ⟨plainFor_of_name (by decide +kernel), Or.inl (by decide +kernel)⟩ rfl (Nat.le_of_ble_eq_true rfl) ?_
  refine zA_range (fun hr => ?_)
  show zA l mX6_lay false (k + 3) 0 0 (fun v' S' w' => v' = none ∧ S' = (ZZ t dr tx) ∧ laF i w w' ∧ shO (fun s => vl g k s ∧ cvn u s) (fun s => mxL (lfn (w 22) i s (w 23)) g.toNat) (w 16 8) (laS w w') (laA (fun s => mxL (lfn (w 22) i s (w 23)) g.toNat) i w w')) zNo 0 [zR 16, zI i, zI g, zI u, .null] [] (ZZ t dr tx) w
  refine zA_iload_n dX6_lay_0 rfl ?_
  refine zA_aload_n dX6_lay_1 rfl ?_
  refine zA_getI dX6_lay_2 fX6_49 c16 rfl ?_
  refine zA_valI (w 16 12) rfl ?_
  refine zA_icmp_ge (tgt := 14) dX6_lay_5 (by decide) (by first | assumption | exact hr _ _ | exact inR_mk (by omega) (by omega)) (by first | assumption | exact hr _ _ | exact inR_mk (by omega) (by omega)) (fun c5 => ?_) (fun c5 => ?_)
  · skip
    refine zA_aload_n dX6_lay_14 rfl ?_
    refine zA_iload_n dX6_lay_15 rfl ?_
    refine zA_cV (st := []) dX6_lay_16 vX6_keepShares kX6_138 (s_keepShares (w := w) (g := g) (by omega) g4 (by omega) hn) (by omega) c16 rfl rfl (Nat.le_of_ble_eq_true rfl) rfl (fun q_1_v q_1_S q_1_w q_1 => ?_)
    obtain ⟨rfl, rfl, hK⟩ := q_1
    have hk0 : k = 0 := by omega
    refine zA_range (fun hr => ?_)
    show zA l mX6_lay false (k + 3) 0 0 (fun v' S' w' => v' = none ∧ S' = (ZZ t dr tx) ∧ laF i w w' ∧ shO (fun s => vl g k s ∧ cvn u s) (fun s => mxL (lfn (w 22) i s (w 23)) g.toNat) (w 16 8) (laS w w') (laA (fun s => mxL (lfn (w 22) i s (w 23)) g.toNat) i w w')) zNo 19 [zR 16, zI i, zI g, zI u, .null] [] (ZZ t dr tx) q_1_w
    refine zA_vret dX6_lay_19 rfl ?_
    subst hk0
    have hM0 : (fun s => mxL (lfn (w 22) i s (w 23)) g.toNat) [] = mxL (w 23) g.toNat := rfl
    rcases hK with ⟨h1, h2, h3, h4⟩ | ⟨h1, rfl⟩
    · exact ⟨rfl, rfl, ⟨fun c x a b e f => h4 c x e f, fun x => h4 23 x (by decide) (Or.inl (by decide)), fun j _ => h4 24 j (by decide) (Or.inl (by decide))⟩, Or.inr ⟨[], ⟨⟨rfl, trivial⟩, fun s hs => by
        have e : s = [] := hs.1
        rw [e]; exact ⟨Int.le_refl _, fun _ => Or.inl rfl⟩⟩, ⟨h2, fun j j0 j1 => h3 j j0 (by omega), trivial⟩, Or.inr h1⟩⟩
    · exact ⟨rfl, rfl, laF_rfl, Or.inl ⟨laS_rfl, by omega, fun s hs => by
        have e : s = [] := hs.1
        rw [e]; exact h1⟩⟩
  · skip
    refine zA_iload_n dX6_lay_8 rfl ?_
    refine zA_bipush dX6_lay_9 rfl ?_
    refine zA_icmp_lt (tgt := 20) dX6_lay_11 (by decide) (by first | assumption | exact hr _ _ | exact inR_mk (by omega) (by omega)) ⟨by decide, by decide⟩ (fun c11 => ?_) (fun c11 => ?_)
    · skip
      refine zA_iconst dX6_lay_20 ?_
      refine zA_istore (lo1 := [zR 16, zI i, zI g, zI u, zI 0]) dX6_lay_21 (by decide) rfl rfl ?_
      have L23 : ∀ (z23 : Nat) (x : Int) (w1 : zW) (x0 : 0 ≤ x) (xg : x ≤ g) (xu : x ≤ u + 1) (hF : laF i w w1) (hI : shO (Vh (fun s => vl g k s ∧ cvn u s) x) (fun s => mxL (lfn (w 22) i s (w 23)) g.toNat) (w 16 8) (laS w w1) (laA (fun s => mxL (lfn (w 22) i s (w 23)) g.toNat) i w w1)) (hE1 : 0 ≤ w1 16 8) (zm : (g - x).toNat < z23), zA l mX6_lay false (k + 3) 0 0 (fun v' S' w' => v' = none ∧ S' = (ZZ t dr tx) ∧ laF i w w' ∧ shO (fun s => vl g k s ∧ cvn u s) (fun s => mxL (lfn (w 22) i s (w 23)) g.toNat) (w 16 8) (laS w w') (laA (fun s => mxL (lfn (w 22) i s (w 23)) g.toNat) i w w')) zNo 23 [zR 16, zI i, zI g, zI u, zI x] [] (ZZ t dr tx) w1 := by
        intro z23
        induction z23 with
        | zero => intro x w1 x0 xg xu hF hI hE1 zm; exact absurd zm (Nat.not_lt_zero _)
        | succ z23 ih23 =>
          intro x w1 x0 xg xu hF hI hE1 zm
          refine zA_range (fun hr => ?_)
          have e12 : w1 16 12 = w 16 12 := hF.1 16 12 (by decide) (by decide) (by decide) (Or.inr (by decide))
          have e22 : ∀ z, w1 22 z = w 22 z := fun z => hF.1 22 z (by decide) (by decide) (by decide) (Or.inl (by decide))
          have e22i := e22 i
          have e23 := hF.2.1
          have e23x := e23 x
          have hwi := hw i i0 (by omega)
          refine zA_iload dX6_lay_23 rfl ?_
          refine zA_iload_n dX6_lay_25 rfl ?_
          refine zA_icmp_gt (tgt := 111) dX6_lay_26 (by decide) (by first | assumption | exact hr _ _ | exact inR_mk (by omega) (by omega)) (by first | assumption | exact hr _ _ | exact inR_mk (by omega) (by omega)) (fun c26 => ?_) (fun c26 => ?_)
          · skip
            have hVe : ∀ s, Vh (fun s => vl g k s ∧ cvn u s) x s ↔ (vl g k s ∧ cvn u s) := fun s => ⟨fun h => h.1, fun h => ⟨h, by
              cases s with
              | nil => cases hk : k with
                | zero => omega
                | succ k1 => rw [hk] at h; exact h.1.elim
              | cons y s => exact ⟨y, s, rfl, by have := h.2.1; omega⟩⟩⟩
            refine zA_vret dX6_lay_111 rfl ?_
            exact ⟨rfl, rfl, hF, sh_V hI hVe (fun _ _ => rfl) (fun h => h) (fun _ _ h => h)⟩
          · skip
            refine zA_iload dX6_lay_29 rfl ?_
            refine zA_iload_n dX6_lay_31 rfl ?_
            refine zA_icmp_ge (tgt := 111) dX6_lay_32 (by decide) (by first | assumption | exact hr _ _ | exact inR_mk (by omega) (by omega)) (by first | assumption | exact hr _ _ | exact inR_mk (by omega) (by omega)) (fun c32 => ?_) (fun c32 => ?_)
            · skip
              have hVe : ∀ s, Vh (fun s => vl g k s ∧ cvn u s) x s ↔ (vl g k s ∧ cvn u s) := fun s => ⟨fun h => h.1, fun h => ⟨h, by
                cases s with
                | nil => cases hk : k with
                  | zero => omega
                  | succ k1 => rw [hk] at h; exact h.1.elim
                | cons y s => exact ⟨y, s, rfl, by
                    cases hk : k with
                    | zero => omega
                    | succ k1 => rw [hk] at h; have := h.1.1.2; omega⟩⟩⟩
              refine zA_vret dX6_lay_111 rfl ?_
              exact ⟨rfl, rfl, hF, sh_V hI hVe (fun _ _ => rfl) (fun h => h) (fun _ _ h => h)⟩
            · skip
              have hlx := hl x x0 (by omega)
              refine zA_aload_n dX6_lay_35 rfl ?_
              refine zA_getR (n := 23) dX6_lay_36 fX6_30 c16 rfl ?_
              refine zA_iload dX6_lay_39 rfl ?_
              refine zA_dup2 dX6_lay_41 rfl rfl ?_
              refine zA_iaload dX6_lay_42 c23 (by first | assumption | omega) (by first | assumption | omega) (by decide) ?_
              refine zA_aload_n dX6_lay_43 rfl ?_
              refine zA_getR (n := 22) dX6_lay_44 fX6_27 c16 rfl ?_
              refine zA_iload_n dX6_lay_47 rfl ?_
              refine zA_iaload dX6_lay_48 c22 (by first | assumption | omega) (by first | assumption | omega) (by decide) ?_
              refine zA_iadd dX6_lay_49 ?_
              refine zA_iastore dX6_lay_50 (by first | assumption | exact hr _ _ | exact inR_mk (by omega) (by omega)) c23 (by first | assumption | omega) (by first | assumption | omega) (by decide) ?_
              refine zA_namew (fun w_2 hw_2 => ?_)
              refine zA_range (fun hr => ?_)
              replace hw_2 : w_2 = up w1 23 x ((w1 23 x) + (w1 22 i)) := hw_2
              refine zA_aload_n dX6_lay_51 rfl ?_
              refine zA_getR (n := 24) dX6_lay_52 fX6_33 c16 rfl ?_
              refine zA_iload_n dX6_lay_55 rfl ?_
              refine zA_iload dX6_lay_56 rfl ?_
              refine zA_iastore dX6_lay_58 (by first | assumption | exact hr _ _ | exact inR_mk (by omega) (by omega)) c24 (by first | assumption | omega) (by first | assumption | omega) (by decide) ?_
              refine zA_namew (fun w_3 hw_3 => ?_)
              refine zA_range (fun hr => ?_)
              replace hw_3 : w_3 = up w_2 24 i x := hw_3
              obtain ⟨k1, hk1⟩ : ∃ k1 : Nat, k = k1 + 1 := ⟨k - 1, by omega⟩
              have hu : ∀ c z, c ≠ 23 → c ≠ 24 → w_3 c z = w1 c z := fun c z a b => by rw [hw_3, up_cell _ _ _ _ b, hw_2, up_cell _ _ _ _ a]
              have hu23 : ∀ z, w_3 23 z = if z = x then w 23 z + w 22 i else w 23 z := fun z => by
                rw [hw_3, up_cell _ _ _ _ (by decide), hw_2]
                by_cases q : z = x
                · rw [q, up_same, if_pos rfl, e23x, e22i]
                · rw [up_idx _ _ _ _ q, if_neg q]; exact e23 z
              have hu24 : ∀ j : Int, j < i → w_3 24 j = w1 24 j := fun j hj => by rw [hw_3, up_idx _ _ _ _ (by omega), hw_2, up_cell _ _ _ _ (by decide)]
              have hu24i : w_3 24 i = x := by rw [hw_3, up_same]
              have hu8 : w_3 16 8 = w1 16 8 := hu 16 8 (by decide) (by decide)
              have hu27 : ∀ j, w_3 27 j = w1 27 j := fun j => hu 27 j (by decide) (by decide)
              have e2 : w_3 23 = (fun y => if y = x then w 23 y + w 22 i else w 23 y) := funext hu23
              have e3 : w_3 22 = w 22 := funext fun z => (hu 22 z (by decide) (by decide)).trans (e22 z)
              have hVx : ∀ s, (vl g k1 s ∧ cvn (max u (x + 1)) s) ↔ (vl g k (x :: s) ∧ cvn u (x :: s)) := fun s => by
                rw [hk1]
                exact ⟨fun h => ⟨⟨⟨x0, by omega⟩, h.1⟩, by omega, h.2⟩, fun h => ⟨h.1.2, h.2.2⟩⟩
              have hge : ∀ s, vl g k1 s → (if x = x then w 23 x + w 22 i else w 23 x) ≤ mxL (lfn (w 22) (i + 1) s (fun y => if y = x then w 23 y + w 22 i else w 23 y)) g.toNat := fun s hs => by
                have h1 := vl_len hs
                have h2 := lfn_geB (wt := w 22) s (i + 1) (fun y => if y = x then w 23 y + w 22 i else w 23 y) x (fun j a b => (hw j (by omega) (by omega)).1)
                have h3 := mxL_ge (lfn (w 22) (i + 1) s (fun y => if y = x then w 23 y + w 22 i else w 23 y)) g.toNat x x0 (by omega)
                exact Int.le_trans h2 h3
              have hl2 : ∀ z : Int, 0 ≤ z → z < 4 → 0 ≤ w_3 23 z ∧ w_3 23 z ≤ 1800 * (i + 1) := fun z z0 z1 => by
                have := hl z z0 z1
                rw [hu23 z]
                split <;> omega
              have hl2x := hl2 x x0 (by omega)
              refine zA_aload_n dX6_lay_59 rfl ?_
              refine zA_getR (n := 23) dX6_lay_60 fX6_30 c16 rfl ?_
              refine zA_iload dX6_lay_63 rfl ?_
              refine zA_iaload dX6_lay_65 c23 (by first | assumption | omega) (by first | assumption | omega) (by decide) ?_
              refine zA_aload_n dX6_lay_66 rfl ?_
              refine zA_getI dX6_lay_67 fX6_36 c16 rfl ?_
              refine zA_valI (w_3 16 8) rfl ?_
              have L89 : ∀ (w3 : zW) (hF3 : laF (i + 1) w_3 w3) (hG : shO (fun s => vl g k1 s ∧ cvn (max u (x + 1)) s) (fun s => (fun s => mxL (lfn (w 22) i s (w 23)) g.toNat) (x :: s)) (w_3 16 8) (laS w_3 w3) (laA (fun s => (fun s => mxL (lfn (w 22) i s (w 23)) g.toNat) (x :: s)) (i + 1) w_3 w3)) (hE3 : 0 ≤ w3 16 8), zA l mX6_lay false (k + 3) 0 0 (fun v' S' w' => v' = none ∧ S' = (ZZ t dr tx) ∧ laF i w w' ∧ shO (fun s => vl g k s ∧ cvn u s) (fun s => mxL (lfn (w 22) i s (w 23)) g.toNat) (w 16 8) (laS w w') (laA (fun s => mxL (lfn (w 22) i s (w 23)) g.toNat) i w w')) zNo 89 [zR 16, zI i, zI g, zI u, zI x] [] (ZZ t dr tx) w3 := by
                intro w3 hF3 hG hE3
                refine zA_range (fun hr => ?_)
                have f23 := hF3.2.1
                have f23x := f23 x
                have hu23x := hu23 x
                rw [if_pos rfl] at hu23x
                have f22 : w3 22 i = w 22 i := (hF3.1 22 i (by decide) (by decide) (by decide) (Or.inl (by decide))).trans ((hu 22 i (by decide) (by decide)).trans e22i)
                refine zA_aload_n dX6_lay_89 rfl ?_
                refine zA_getR (n := 23) dX6_lay_90 fX6_30 c16 rfl ?_
                refine zA_iload dX6_lay_93 rfl ?_
                refine zA_dup2 dX6_lay_95 rfl rfl ?_
                refine zA_iaload dX6_lay_96 c23 (by first | assumption | omega) (by first | assumption | omega) (by decide) ?_
                refine zA_aload_n dX6_lay_97 rfl ?_
                refine zA_getR (n := 22) dX6_lay_98 fX6_27 c16 rfl ?_
                refine zA_iload_n dX6_lay_101 rfl ?_
                refine zA_iaload dX6_lay_102 c22 (by first | assumption | omega) (by first | assumption | omega) (by decide) ?_
                refine zA_isub dX6_lay_103 ?_
                refine zA_iastore dX6_lay_104 (by first | assumption | exact hr _ _ | exact inR_mk (by omega) (by omega)) c23 (by first | assumption | omega) (by first | assumption | omega) (by decide) ?_
                refine zA_namew (fun w_4 hw_4 => ?_)
                refine zA_range (fun hr => ?_)
                replace hw_4 : w_4 = up w3 23 x ((w3 23 x) - (w3 22 i)) := hw_4
                have f168 : w_4 16 8 = w3 16 8 := by rw [hw_4, up_cell _ _ _ _ (by decide)]
                have f27 : ∀ j, w_4 27 j = w3 27 j := fun j => by rw [hw_4, up_cell _ _ _ _ (by decide)]
                refine zA_iinc (lo1 := [zR 16, zI i, zI g, zI u, zI (x + 1)]) dX6_lay_105 rfl (by decide) rfl rfl ?_
                refine zA_goto (tgt := 23) dX6_lay_108 (by decide) ?_
                exact ih23 (x + 1) _ (by omega) (by omega) (by omega) ⟨fun c z a b e f => by rw [hw_4, up_cell _ _ _ _ a]; exact (hF3.1 c z a b e f).trans ((hu c z a b).trans (hF.1 c z a b e f)), fun z => by
                        rw [hw_4]
                        by_cases q : z = x
                        · rw [q, up_same, f23 x, f22, hu23 x, if_pos rfl]; omega
                        · rw [up_idx _ _ _ _ q, f23 z, hu23 z, if_neg q], fun j hj => by rw [hw_4, up_cell _ _ _ _ (by decide), hF3.2.2 j (by omega), hu24 j hj]; exact hF.2.2 j hj⟩ (sh_s (fun s => mxL_0 _ _) (Or.inl hI) hVx hG (fun a b => ⟨by rw [f168]; exact b.1.trans (hu8.trans a.1), fun j => by rw [f27]; exact (b.2 j).trans ((hu27 j).trans (a.2 j))⟩) (fun a => hu8.trans a.1) (fun s a => hu8.trans a.1) (fun s a b => ⟨by rw [f168]; exact b.1.trans (hu8.trans a.1), fun j j0 j1 => by rw [f27, b.2 j, hu27 j]; exact a.2.1 j j0 j1, alS_c (fun j _ _ => by rw [f27, b.2 j, hu27 j]) a.2.2⟩) (fun s a => ⟨by rw [f168]; exact a.1, fun j j0 j1 => by rw [f27, a.2.1 j j0 (by omega), hu24 j j1]; exact hF.2.2 j j1, by rw [f27, a.2.1 i i0 (by omega)]; exact hu24i, alS_c (fun j _ _ => by rw [f27]) a.2.2⟩)) (by rw [f168]; exact hE3) (by omega)
              refine zA_icmp_ge (tgt := 89) dX6_lay_70 (by decide) (by first | assumption | exact hr _ _ | exact inR_mk (by omega) (by omega)) (by first | assumption | exact hr _ _ | exact inR_mk (by omega) (by omega)) (fun c70 => ?_) (fun c70 => ?_)
              · skip
                skip
                exact L89 _ laF_rfl (Or.inl ⟨laS_rfl, by omega, fun s hs => Int.le_trans c70 (Int.le_trans (by rw [hu23 x, if_pos rfl]; exact Int.le_refl _) (hge s hs.1))⟩) (by omega)
              · skip
                skip
                refine zA_aload_n dX6_lay_73 rfl ?_
                refine zA_iload_n dX6_lay_74 rfl ?_
                refine zA_iconst dX6_lay_75 ?_
                refine zA_iadd dX6_lay_76 ?_
                refine zA_iload_n dX6_lay_77 rfl ?_
                refine zA_iload_n dX6_lay_78 rfl ?_
                refine zA_iload dX6_lay_79 rfl ?_
                refine zA_iconst dX6_lay_81 ?_
                refine zA_iadd dX6_lay_82 ?_
                refine zA_mmax dX6_lay_83 kmX6_121 zw_max (by first | assumption | exact hr _ _ | exact inR_mk (by omega) (by omega)) (by first | assumption | exact hr _ _ | exact inR_mk (by omega) (by omega)) (Nat.le_of_ble_eq_true rfl) ?_
                refine zA_cS (st := []) dX6_lay_86 sX6_lay kX6_134 (IH k1 (by omega) w_3 (i + 1) g (max u (x + 1)) (by omega) (by rw [hu 16 12 (by decide) (by decide), e12]; omega) (by rw [hu 16 12 (by decide) (by decide), e12]; exact hn) g0 g4 (by omega) (by omega) (by omega) (fun j a b => by rw [hu 22 j (by decide) (by decide), e22 j]; rw [hu 16 12 (by decide) (by decide), e12] at b; exact hw j a b) hl2) (by omega) rfl rfl (Nat.le_of_ble_eq_true rfl) (fun q_5_v q_5_S q_5_w q_5 => ?_)
                obtain ⟨rfl, rfl, hF3, hG⟩ := q_5
                rw [e2, e3] at hG
                have hE3 : 0 ≤ q_5_w 16 8 := by
                  rcases hG with ⟨a, -⟩ | ⟨s, -, a, -⟩
                  · rw [a.1]; omega
                  · rw [a.1]; exact mxL_0 _ _
                refine zA_range (fun hr => ?_)
                show zA l mX6_lay false (k + 3) 0 0 (fun v' S' w' => v' = none ∧ S' = (ZZ t dr tx) ∧ laF i w w' ∧ shO (fun s => vl g k s ∧ cvn u s) (fun s => mxL (lfn (w 22) i s (w 23)) g.toNat) (w 16 8) (laS w w') (laA (fun s => mxL (lfn (w 22) i s (w 23)) g.toNat) i w w')) zNo 89 [zR 16, zI i, zI g, zI u, zI x] [] (ZZ t dr tx) q_5_w
                exact L89 _ hF3 hG hE3
      exact L23 _ 0 w (by omega) (by omega) (by omega) laF_rfl (shr_0 (by omega) laS_rfl (fun y s h => by
            cases hk : k with
            | zero => omega
            | succ k1 => rw [hk] at h; exact h.1.1.1)) hE (Nat.lt_succ_self _)
    · skip
      exfalso; omega

theorem s_lay {l : Launch} {t dr tx : Nat} : ∀ (k : Nat) (w : zW) (i g u : Int) (i0 : 0 ≤ i) (hik : i + (k : Nat) = w 16 12) (hn : w 16 12 ≤ 8) (g0 : 1 ≤ g) (g4 : g ≤ 4) (u0 : 0 ≤ u) (u8 : u ≤ 8) (hE : 0 ≤ w 16 8) (hw : ∀ j : Int, 0 ≤ j → j < w 16 12 → 0 ≤ w 22 j ∧ w 22 j ≤ 1800) (hl : ∀ x : Int, 0 ≤ x → x < 4 → 0 ≤ w 23 x ∧ w 23 x ≤ 1800 * i), zSp l mX6_lay false (k + 3) 0 0 [zR 16, zI i, zI g, zI u] (ZZ t dr tx) w (fun v' S' w' => v' = none ∧ S' = (ZZ t dr tx) ∧ laF i w w' ∧ shO (fun s => vl g k s ∧ cvn u s) (fun s => mxL (lfn (w 22) i s (w 23)) g.toNat) (w 16 8) (laS w w') (laA (fun s => mxL (lfn (w 22) i s (w 23)) g.toNat) i w w')) zNo := by
  intro k
  induction k using Nat.strongRecOn with
  | _ k ih =>
    intro w i g u h1 h2 h3 h4 h5 h6 h7 h8 h9 h10
    exact s_lay_s (k := k) ih h1 h2 h3 h4 h5 h6 h7 h8 h9 h10
theorem zeros_v {g : Int} (hg : 1 ≤ g) : ∀ k : Nat, vl g k (List.replicate k 0)
  | 0 => rfl
  | k + 1 => ⟨⟨Int.le_refl _, by omega⟩, zeros_v hg k⟩
theorem zeros_c : ∀ (k : Nat) (u : Int), 0 ≤ u → cvn u (List.replicate k 0)
  | 0, _, _ => trivial
  | k + 1, u, h => ⟨h, zeros_c k _ (by omega)⟩
theorem lfn_leB {wt : Int → Int} {B : Int} (hB : 0 ≤ B) : ∀ (t : List Int) (i : Int) (ld : Int → Int) (y : Int), (∀ j : Int, i ≤ j → j < i + (t.length : Int) → wt j ≤ B) → lfn wt i t ld y ≤ ld y + B * (t.length : Int)
  | [], _, ld, y, _ => by show ld y ≤ ld y + B * ((0 : Nat) : Int); omega
  | x :: t, i, ld, y, h => by
    have e : (((x :: t).length : Nat) : Int) = (t.length : Int) + 1 := by simp
    have h1 := lfn_leB hB t (i + 1) (fun z => if z = x then ld z + wt i else ld z) y (fun j a b => h j (by omega) (by omega))
    have h2 := h i (by omega) (by omega)
    rw [e, Int.mul_add, Int.mul_one]
    refine Int.le_trans h1 ?_
    show (if y = x then ld y + wt i else ld y) + B * (t.length : Int) ≤ _
    split <;> omega
theorem sh_top {V : List Int → Prop} {M : List Int → Int} {E : Int} {sm : Prop} {A : List Int → Prop} (h : shO V M E sm A) (hv : E = -1 ∨ ∃ t, V t ∧ M t < E) : ∃ t, fmn V M t ∧ A t := by
  rcases h with ⟨h1, h2, h3⟩ | ⟨t, h1, h2, h3⟩
  · obtain ⟨t, t1, t2⟩ := hv.resolve_left h2
    have := h3 t t1
    omega
  · exact ⟨t, h1, h2⟩
def yWt (w : zW) (y : Nat) : Int → Int := fun j => w (y + 4) (w 25 j * 6 + 1) * w (y + 1) (w (y + 4) (w 25 j * 6))
set_option maxRecDepth 100000 in
set_option maxHeartbeats 4000000 in
theorem s_layEven {l : Launch} {t dr tx : Nat} {w : zW} {y : Nat} (hy : y = 4 ∨ y = 10) (hY : okYard w y) {g : Int} (g0 : 2 ≤ g) (g4 : g ≤ 4) (hn0 : 0 ≤ w 16 12) (hn : w 16 12 ≤ 8) (hrow : ∀ j : Int, 0 ≤ j → j < w 16 12 → 0 ≤ w 25 j ∧ w 25 j < w y 7) (hz : ∀ z : Int, 0 ≤ z → z < 4 → w 23 z = 0)  : zSp l mX6_layEven false 13 0 0 [zR 16, zR y, zI g] (ZZ t dr tx) w (fun v' S' w' => S' = (ZZ t dr tx) ∧ (∀ c x, c ≠ 22 → c ≠ 24 → c ≠ 27 → (c ≠ 16 ∨ (x ≠ 8 ∧ x ≠ 16)) → w' c x = w c x) ∧ w' 16 16 = 1 ∧ ∃ s, fmn (fun s => vl g (w 16 12).toNat s ∧ cvn 0 s) (fun s => mxL (lfn (yWt w y) 0 s (fun _ => 0)) g.toNat) s ∧ v' = some (zI ((fun s => mxL (lfn (yWt w y) 0 s (fun _ => 0)) g.toNat) s)) ∧ alS (w' 27) 0 s) zNo := by
  refine zA_intro ⟨plainFor_of_name (by decide +kernel), Or.inl (by decide +kernel)⟩ rfl (Nat.le_of_ble_eq_true rfl) ?_
  obtain ⟨⟨u1, u2⟩, -, ⟨u3, u4⟩, -, hco, -, -, hle, -⟩ := id hY
  refine zA_range (fun hr => ?_)
  show zA l mX6_layEven false 13 0 0 (fun v' S' w' => S' = (ZZ t dr tx) ∧ (∀ c x, c ≠ 22 → c ≠ 24 → c ≠ 27 → (c ≠ 16 ∨ (x ≠ 8 ∧ x ≠ 16)) → w' c x = w c x) ∧ w' 16 16 = 1 ∧ ∃ s, fmn (fun s => vl g (w 16 12).toNat s ∧ cvn 0 s) (fun s => mxL (lfn (yWt w y) 0 s (fun _ => 0)) g.toNat) s ∧ v' = some (zI ((fun s => mxL (lfn (yWt w y) 0 s (fun _ => 0)) g.toNat) s)) ∧ alS (w' 27) 0 s) zNo 0 [zR 16, zR y, zI g, .null, .null] [] (ZZ t dr tx) w
  refine zA_iconst dX6_layEven_0 ?_
  refine zA_istore_n (lo1 := [zR 16, zR y, zI g, zI 0, .null]) dX6_layEven_1 (by decide) rfl rfl ?_
  have L2 : ∀ (z2 : Nat) (x : Int) (w1 : zW) (x0 : 0 ≤ x) (x1 : x ≤ w 16 12) (hf : only 22 w w1) (hv : ∀ j : Int, 0 ≤ j → j < x → w1 22 j = yWt w y j) (zm : (w 16 12 - x).toNat < z2), zA l mX6_layEven false 13 0 0 (fun v' S' w' => S' = (ZZ t dr tx) ∧ (∀ c x, c ≠ 22 → c ≠ 24 → c ≠ 27 → (c ≠ 16 ∨ (x ≠ 8 ∧ x ≠ 16)) → w' c x = w c x) ∧ w' 16 16 = 1 ∧ ∃ s, fmn (fun s => vl g (w 16 12).toNat s ∧ cvn 0 s) (fun s => mxL (lfn (yWt w y) 0 s (fun _ => 0)) g.toNat) s ∧ v' = some (zI ((fun s => mxL (lfn (yWt w y) 0 s (fun _ => 0)) g.toNat) s)) ∧ alS (w' 27) 0 s) zNo 2 [zR 16, zR y, zI g, zI x, .null] [] (ZZ t dr tx) w1 := by
    intro z2
    induction z2 with
    | zero => intro x w1 x0 x1 hf hv zm; exact absurd zm (Nat.not_lt_zero _)
    | succ z2 ih2 =>
      intro x w1 x0 x1 hf hv zm
      refine zA_range (fun hr => ?_)
      have e12 := hf 16 12 (by decide)
      have e25 := hf 25 x (by decide)
      refine zA_iload_n dX6_layEven_2 rfl ?_
      refine zA_aload_n dX6_layEven_3 rfl ?_
      refine zA_getI dX6_layEven_4 fX6_49 c16 rfl ?_
      refine zA_valI (w1 16 12) rfl ?_
      refine zA_valI (w 16 12) (e12) ?_
      refine zA_icmp_ge (tgt := 54) dX6_layEven_7 (by decide) (by first | assumption | exact hr _ _ | exact inR_mk (by omega) (by omega)) (by first | assumption | exact hr _ _ | exact inR_mk (by omega) (by omega)) (fun c7 => ?_) (fun c7 => ?_)
      · skip
        refine zA_aload_n dX6_layEven_54 rfl ?_
        refine zA_ldc dX6_layEven_55 qX6_133 ?_
        refine zA_putI dX6_layEven_57 fX6_36 c16 rfl ⟨by decide, by decide⟩ ⟨rfl, rfl⟩ ?_
        refine zA_namew (fun w_1 hw_1 => ?_)
        refine zA_range (fun hr => ?_)
        replace hw_1 : w_1 = up w1 16 8 1000000000 := hw_1
        have hxe : x = w 16 12 := by omega
        have gF : ∀ c z, c ≠ 22 → (c ≠ 16 ∨ z ≠ 8) → w_1 c z = w c z := fun c z a e => by rw [hw_1, up_n e]; exact hf c z a
        have g12 : w_1 16 12 = w 16 12 := gF 16 12 (by decide) (Or.inr (by decide))
        have g168 : w_1 16 8 = 1000000000 := by rw [hw_1, up_same]
        have g22 : ∀ j : Int, 0 ≤ j → j < w 16 12 → w_1 22 j = yWt w y j := fun j a b => by rw [hw_1, up_cell _ _ _ _ (by decide)]; exact hv j a (by omega)
        have g23 : ∀ z : Int, 0 ≤ z → z < 4 → w_1 23 z = 0 := fun z a b => by rw [hw_1, up_cell _ _ _ _ (by decide), hf 23 z (by decide)]; exact hz z a b
        have hwb : ∀ j : Int, 0 ≤ j → j < w 16 12 → 0 ≤ yWt w y j ∧ yWt w y j ≤ 1800 := fun j a b => by
          have hrj := hrow j a b
          obtain ⟨p1, p2, -⟩ := hle (w 25 j) hrj.1 hrj.2
          have hcj := hco _ p1.1 p1.2
          have := zmulB (x := w (y + 4) (w 25 j * 6 + 1)) (y := w (y + 1) (w (y + 4) (w 25 j * 6))) (A := 9) (B := 200) (by omega) (by omega) (by omega) (by omega)
          unfold yWt; omega
        refine zA_aload_n dX6_layEven_60 rfl ?_
        refine zA_iconst dX6_layEven_61 ?_
        refine zA_iload_n dX6_layEven_62 rfl ?_
        refine zA_iconst dX6_layEven_63 ?_
        refine zA_cS (st := []) dX6_layEven_64 sX6_lay kX6_134 (s_lay (w 16 12).toNat w_1 0 g 0 (Int.le_refl _) (by rw [g12]; omega) (by rw [g12]; exact hn) (by omega) g4 (Int.le_refl _) (by decide) (by rw [g168]; decide) (fun j a b => by rw [g12] at b; rw [g22 j a b]; exact hwb j a b) (fun x a b => by rw [g23 x a b]; decide)) (by omega) rfl rfl (Nat.le_of_ble_eq_true rfl) (fun q_2_v q_2_S q_2_w q_2 => ?_)
        obtain ⟨rfl, rfl, hLF, hLS⟩ := q_2
        have hMe : ∀ s, vl g (w 16 12).toNat s → mxL (lfn (w_1 22) 0 s (w_1 23)) g.toNat = mxL (lfn (yWt w y) 0 s (fun _ => 0)) g.toNat := fun s hs => by
          have h1 := vl_len hs
          rw [lfn_wt (wt := w_1 22) (wt' := yWt w y) s 0 (w_1 23) (fun j a b => g22 j a (by omega))]
          exact mxL_c g.toNat (fun z z0 z1 => lfn_c (g := 4) s 0 _ _ (fun z2 b0 b1 => g23 z2 b0 b1) z z0 (by omega))
        obtain ⟨s0, hs1, hs2⟩ := sh_top hLS (Or.inr ⟨List.replicate (w 16 12).toNat 0, ⟨zeros_v (by omega) _, zeros_c _ _ (Int.le_refl _)⟩, by
          rw [g168, hMe _ (zeros_v (by omega) _)]
          have h1 := mxL_le (ld := lfn (yWt w y) 0 (List.replicate (w 16 12).toNat 0) (fun _ => 0)) (B := 14400) (by decide) g.toNat (fun z _ _ => by
            have h2 := lfn_leB (wt := yWt w y) (B := 1800) (by decide) (List.replicate (w 16 12).toNat 0) 0 (fun _ => 0) z (fun j a b => (hwb j a (by rw [List.length_replicate] at b; omega)).2)
            rw [List.length_replicate] at h2
            have h3 : (fun _ : Int => (0 : Int)) z = 0 := rfl
            omega)
          omega⟩)
        refine zA_range (fun hr => ?_)
        show zA l mX6_layEven false 13 0 0 (fun v' S' w' => S' = (ZZ t dr tx) ∧ (∀ c x, c ≠ 22 → c ≠ 24 → c ≠ 27 → (c ≠ 16 ∨ (x ≠ 8 ∧ x ≠ 16)) → w' c x = w c x) ∧ w' 16 16 = 1 ∧ ∃ s, fmn (fun s => vl g (w 16 12).toNat s ∧ cvn 0 s) (fun s => mxL (lfn (yWt w y) 0 s (fun _ => 0)) g.toNat) s ∧ v' = some (zI ((fun s => mxL (lfn (yWt w y) 0 s (fun _ => 0)) g.toNat) s)) ∧ alS (w' 27) 0 s) zNo 67 [zR 16, zR y, zI g, zI x, .null] [] (ZZ t dr tx) q_2_w
        refine zA_aload_n dX6_layEven_67 rfl ?_
        refine zA_iconst dX6_layEven_68 ?_
        refine zA_putI dX6_layEven_69 fX6_62 c16 rfl ⟨by decide, by decide⟩ ⟨by rfl, by rfl⟩ ?_
        refine zA_namew (fun w_3 hw_3 => ?_)
        refine zA_range (fun hr => ?_)
        replace hw_3 : w_3 = up q_2_w 16 16 1 := hw_3
        refine zA_aload_n dX6_layEven_72 rfl ?_
        refine zA_getI dX6_layEven_73 fX6_36 c16 rfl ?_
        refine zA_valI (w_3 16 8) rfl ?_
        refine zA_iret dX6_layEven_76 rfl ?_
        have k8 : w_3 16 8 = q_2_w 16 8 := by rw [hw_3, up_idx _ _ _ _ (by decide)]
        refine ⟨rfl, fun c z a e f g1 => ?_, by rw [hw_3, up_same], s0, ?_, ?_, alS_c (fun j _ _ => by rw [hw_3, up_cell _ _ _ _ (by decide)]) hs2.2.2⟩
        · by_cases q : c = 23
          · rw [q, hw_3, up_n (by omega), hLF.2.1 z]; exact gF 23 z (by decide) (by omega)
          · rw [hw_3, up_n (by omega), hLF.1 c z q e f (by omega)]; exact gF c z a (by omega)
        · exact ⟨hs1.1, fun v hv2 => by
            have h1 : mxL (lfn (w_1 22) 0 s0 (w_1 23)) g.toNat ≤ mxL (lfn (w_1 22) 0 v (w_1 23)) g.toNat ∧ (mxL (lfn (w_1 22) 0 s0 (w_1 23)) g.toNat = mxL (lfn (w_1 22) 0 v (w_1 23)) g.toNat → s0 = v ∨ lxn s0 v) := hs1.2 v hv2
            rw [hMe s0 hs1.1.1, hMe v hv2.1] at h1
            exact h1⟩
        · have h9 := hMe s0 hs1.1.1
          have h8 : q_2_w 16 8 = mxL (lfn (w_1 22) 0 s0 (w_1 23)) g.toNat := hs2.1
          rw [k8, h8, h9]
      · skip
        refine zA_aload_n dX6_layEven_10 rfl ?_
        refine zA_aload_n dX6_layEven_11 rfl ?_
        refine zA_getR (n := 25) dX6_layEven_12 fX6_40 c16 rfl ?_
        refine zA_iload_n dX6_layEven_15 rfl ?_
        refine zA_iaload dX6_layEven_16 c25 (by first | assumption | omega) (by first | assumption | omega) (by decide) ?_
        refine zA_valI (w 25 x) (e25) ?_
        have hrx := hrow x x0 (by omega)
        obtain ⟨p1, p2, -⟩ := hle (w 25 x) hrx.1 hrx.2
        have hcx := hco _ p1.1 p1.2
        have f41 := hf (y + 4) (w 25 x * 6) (by omega)
        have f42 := hf (y + 4) (w 25 x * 6 + 1) (by omega)
        have f43 := hf (y + 1) (w (y + 4) (w 25 x * 6)) (by omega)
        refine zA_iconst dX6_layEven_17 ?_
        refine zA_cV (st := []) dX6_layEven_18 vX10_fact kX6_91 (s_fact (w := w1) (a := w 25 x) (k := 0) hy hrx.1 (by omega) (by decide) (by decide)) (by decide) (cY0 hy) rfl rfl (Nat.le_of_ble_eq_true rfl) rfl (zRt_el ?_)
        show zA l mX6_layEven false 13 0 0 (fun v' S' w' => S' = (ZZ t dr tx) ∧ (∀ c x, c ≠ 22 → c ≠ 24 → c ≠ 27 → (c ≠ 16 ∨ (x ≠ 8 ∧ x ≠ 16)) → w' c x = w c x) ∧ w' 16 16 = 1 ∧ ∃ s, fmn (fun s => vl g (w 16 12).toNat s ∧ cvn 0 s) (fun s => mxL (lfn (yWt w y) 0 s (fun _ => 0)) g.toNat) s ∧ v' = some (zI ((fun s => mxL (lfn (yWt w y) 0 s (fun _ => 0)) g.toNat) s)) ∧ alS (w' 27) 0 s) zNo 21 [zR 16, zR y, zI g, zI x, .null] [zI (w1 (y + 4) (w 25 x * 6 + 0))] (ZZ t dr tx) w1
        refine zA_valI (w (y + 4) (w 25 x * 6)) (by rw [Int.add_zero]; exact f41) ?_
        refine zA_istore (lo1 := [zR 16, zR y, zI g, zI x, zI (w (y + 4) (w 25 x * 6))]) dX6_layEven_21 (by decide) rfl rfl ?_
        refine zA_aload_n dX6_layEven_23 rfl ?_
        refine zA_getR (n := 22) dX6_layEven_24 fX6_27 c16 rfl ?_
        refine zA_iload_n dX6_layEven_27 rfl ?_
        refine zA_aload_n dX6_layEven_28 rfl ?_
        refine zA_aload_n dX6_layEven_29 rfl ?_
        refine zA_getR (n := 25) dX6_layEven_30 fX6_40 c16 rfl ?_
        refine zA_iload_n dX6_layEven_33 rfl ?_
        refine zA_iaload dX6_layEven_34 c25 (by first | assumption | omega) (by first | assumption | omega) (by decide) ?_
        refine zA_valI (w 25 x) (e25) ?_
        refine zA_iconst dX6_layEven_35 ?_
        refine zA_cV (st := [zI x, zR 22]) dX6_layEven_36 vX10_fact kX6_91 (s_fact (w := w1) (a := w 25 x) (k := 1) hy hrx.1 (by omega) (by decide) (by decide)) (by decide) (cY0 hy) rfl rfl (Nat.le_of_ble_eq_true rfl) rfl (zRt_el ?_)
        show zA l mX6_layEven false 13 0 0 (fun v' S' w' => S' = (ZZ t dr tx) ∧ (∀ c x, c ≠ 22 → c ≠ 24 → c ≠ 27 → (c ≠ 16 ∨ (x ≠ 8 ∧ x ≠ 16)) → w' c x = w c x) ∧ w' 16 16 = 1 ∧ ∃ s, fmn (fun s => vl g (w 16 12).toNat s ∧ cvn 0 s) (fun s => mxL (lfn (yWt w y) 0 s (fun _ => 0)) g.toNat) s ∧ v' = some (zI ((fun s => mxL (lfn (yWt w y) 0 s (fun _ => 0)) g.toNat) s)) ∧ alS (w' 27) 0 s) zNo 39 [zR 16, zR y, zI g, zI x, zI (w (y + 4) (w 25 x * 6))] [zI (w1 (y + 4) (w 25 x * 6 + 1)), zI x, zR 22] (ZZ t dr tx) w1
        refine zA_valI (w (y + 4) (w 25 x * 6 + 1)) (f42) ?_
        refine zA_aload_n dX6_layEven_39 rfl ?_
        refine zA_getR (n := (y + 1)) dX6_layEven_40 fX6_130 (cY0 hy) rfl ?_
        refine zA_iload dX6_layEven_43 rfl ?_
        refine zA_iaload dX6_layEven_45 (cY1 hy) (by first | assumption | omega) (by first | assumption | omega) (by decide) ?_
        refine zA_imul dX6_layEven_46 ?_
        refine zA_valI (w (y + 4) (w 25 x * 6 + 1) * w (y + 1) (w (y + 4) (w 25 x * 6))) (by rw [f43]) ?_
        have hvb := zmulB (x := w (y + 4) (w 25 x * 6 + 1)) (y := w (y + 1) (w (y + 4) (w 25 x * 6))) (A := 9) (B := 200) (by omega) (by omega) (by omega) (by omega)
        refine zA_iastore dX6_layEven_47 (by first | assumption | exact hr _ _ | exact inR_mk (by omega) (by omega)) c22 (by first | assumption | omega) (by first | assumption | omega) (by decide) ?_
        refine zA_namew (fun w_4 hw_4 => ?_)
        refine zA_range (fun hr => ?_)
        replace hw_4 : w_4 = up w1 22 x (w (y + 4) (w 25 x * 6 + 1) * w (y + 1) (w (y + 4) (w 25 x * 6))) := hw_4
        have hval : w (y + 4) (w 25 x * 6 + 1) * w (y + 1) (w (y + 4) (w 25 x * 6)) = yWt w y x := rfl
        refine zA_iinc (lo1 := [zR 16, zR y, zI g, zI (x + 1), zI (w (y + 4) (w 25 x * 6))]) dX6_layEven_48 rfl (by decide) rfl rfl ?_
        refine zA_goto (tgt := 2) dX6_layEven_51 (by decide) ?_
        refine zA_drop 4 (lo1 := [zR 16, zR y, zI g, zI (x + 1), .null]) rfl ?_
        exact ih2 (x + 1) _ (by omega) (by omega) (by rw [hw_4]; exact only_up hf) (fun j a b => by
                rw [hw_4]
                by_cases q : j = x
                · rw [q, up_same]; exact hval
                · rw [up_idx _ _ _ _ q]; exact hv j a (by omega)) (by omega)
  exact L2 _ 0 w (by omega) (by omega) only_rfl (fun j a b => by omega) (Nat.lt_succ_self _)

set_option maxRecDepth 100000 in
set_option maxHeartbeats 4000000 in
theorem s_even {l : Launch} {t dr tx : Nat} {w : zW} {g : Int} (ht : t = 4 ∨ t = 10) (hY : okYard w t) (hgr : inR g) (hb : w 16 15 = 0 ∨ w 16 15 = 1) (hn0 : 0 ≤ w 16 12) (hn : w 16 12 ≤ 8) (hrow : ∀ j : Int, 0 ≤ j → j < w 16 12 → 0 ≤ w 25 j ∧ w 25 j < w t 7) (hz : ∀ z : Int, 0 ≤ z → z < 4 → w 23 z = 0)  : zSp l mX11_even false 14 0 0 [zR 0, zI g] (ZZ t dr tx) w (fun v' S' w' => S' = (ZZ t dr tx) ∧ ((¬ (w 16 15 = 1 ∧ 2 ≤ g ∧ g ≤ 4) ∧ v' = some (zI (-1)) ∧ w' = w) ∨ ((w 16 15 = 1 ∧ 2 ≤ g ∧ g ≤ 4) ∧ (∀ c x, c ≠ 22 → c ≠ 24 → c ≠ 27 → (c ≠ 16 ∨ (x ≠ 8 ∧ x ≠ 16)) → w' c x = w c x) ∧ w' 16 16 = 1 ∧ ∃ s, fmn (fun s => vl g (w 16 12).toNat s ∧ cvn 0 s) (fun s => mxL (lfn (yWt w t) 0 s (fun _ => 0)) g.toNat) s ∧ v' = some (zI ((fun s => mxL (lfn (yWt w t) 0 s (fun _ => 0)) g.toNat) s)) ∧ alS (w' 27) 0 s))) zNo := by
  refine zA_intro ⟨plainFor_of_name (by decide +kernel), Or.inl (by decide +kernel)⟩ rfl (Nat.le_of_ble_eq_true rfl) ?_
  refine zA_range (fun hr => ?_)
  show zA l mX11_even false 14 0 0 (fun v' S' w' => S' = (ZZ t dr tx) ∧ ((¬ (w 16 15 = 1 ∧ 2 ≤ g ∧ g ≤ 4) ∧ v' = some (zI (-1)) ∧ w' = w) ∨ ((w 16 15 = 1 ∧ 2 ≤ g ∧ g ≤ 4) ∧ (∀ c x, c ≠ 22 → c ≠ 24 → c ≠ 27 → (c ≠ 16 ∨ (x ≠ 8 ∧ x ≠ 16)) → w' c x = w c x) ∧ w' 16 16 = 1 ∧ ∃ s, fmn (fun s => vl g (w 16 12).toNat s ∧ cvn 0 s) (fun s => mxL (lfn (yWt w t) 0 s (fun _ => 0)) g.toNat) s ∧ v' = some (zI ((fun s => mxL (lfn (yWt w t) 0 s (fun _ => 0)) g.toNat) s)) ∧ alS (w' 27) 0 s))) zNo 0 [zR 0, zI g] [] (ZZ t dr tx) w
  refine zA_aload_n dX11_even_0 rfl ?_
  refine zA_getR (n := 16) dX11_even_1 fX11_40 c0 rfl ?_
  refine zA_getI dX11_even_4 fX11_196 c16 rfl ?_
  refine zA_valI (w 16 15) rfl ?_
  refine zA_if_eq (tgt := 19) dX11_even_7 (by decide) (by first | assumption | exact hr _ _ | exact inR_mk (by omega) (by omega)) (fun c7 => ?_) (fun c7 => ?_)
  · skip
    refine zA_iconst dX11_even_19 ?_
    refine zA_iret dX11_even_20 rfl ?_
    exact ⟨rfl, Or.inl ⟨by omega, rfl, rfl⟩⟩
  · skip
    refine zA_iconst dX11_even_10 ?_
    refine zA_iload_n dX11_even_11 rfl ?_
    refine zA_iconst dX11_even_12 ?_
    refine zA_cS (st := []) dX11_even_13 sX11_between kX11_213 (s_between (w := w) (a := 2) (b := g) (e := 4) ⟨by decide, by decide⟩ (by first | assumption | exact hr _ _ | exact inR_mk (by omega) (by omega)) ⟨by decide, by decide⟩) (by decide) rfl rfl (Nat.le_of_ble_eq_true rfl) (zRt_el ?_)
    show zA l mX11_even false 14 0 0 (fun v' S' w' => S' = (ZZ t dr tx) ∧ ((¬ (w 16 15 = 1 ∧ 2 ≤ g ∧ g ≤ 4) ∧ v' = some (zI (-1)) ∧ w' = w) ∨ ((w 16 15 = 1 ∧ 2 ≤ g ∧ g ≤ 4) ∧ (∀ c x, c ≠ 22 → c ≠ 24 → c ≠ 27 → (c ≠ 16 ∨ (x ≠ 8 ∧ x ≠ 16)) → w' c x = w c x) ∧ w' 16 16 = 1 ∧ ∃ s, fmn (fun s => vl g (w 16 12).toNat s ∧ cvn 0 s) (fun s => mxL (lfn (yWt w t) 0 s (fun _ => 0)) g.toNat) s ∧ v' = some (zI ((fun s => mxL (lfn (yWt w t) 0 s (fun _ => 0)) g.toNat) s)) ∧ alS (w' 27) 0 s))) zNo 16 [zR 0, zI g] [zI (if 2 ≤ g ∧ g ≤ 4 then 1 else 0)] (ZZ t dr tx) w
    refine zA_if_ne (tgt := 21) dX11_even_16 (by decide) (inR_ite _) (fun k16 => ?_) (fun k16 => ?_)
    · skip
      replace k16 := zite_ne k16
      refine zA_aload_n dX11_even_21 rfl ?_
      refine zA_getR (n := 16) dX11_even_22 fX11_40 c0 rfl ?_
      refine zA_aload_n dX11_even_25 rfl ?_
      refine zA_getR (n := t) dX11_even_26 fX11_30 c0 rfl ?_
      refine zA_iload_n dX11_even_29 rfl ?_
      refine zA_cV (st := []) dX11_even_30 vX6_layEven kX11_217 (s_layEven (w := w) ht hY (g := g) (by omega) (by omega) hn0 hn hrow hz) (by decide) c16 rfl rfl (Nat.le_of_ble_eq_true rfl) rfl (fun q_1_v q_1_S q_1_w q_1 => ?_)
      obtain ⟨rfl, hq1, hq2, s0, hq3, rfl, hq4⟩ := q_1
      refine zA_range (fun hr => ?_)
      show zA l mX11_even false 14 0 0 (fun v' S' w' => S' = (ZZ t dr tx) ∧ ((¬ (w 16 15 = 1 ∧ 2 ≤ g ∧ g ≤ 4) ∧ v' = some (zI (-1)) ∧ w' = w) ∨ ((w 16 15 = 1 ∧ 2 ≤ g ∧ g ≤ 4) ∧ (∀ c x, c ≠ 22 → c ≠ 24 → c ≠ 27 → (c ≠ 16 ∨ (x ≠ 8 ∧ x ≠ 16)) → w' c x = w c x) ∧ w' 16 16 = 1 ∧ ∃ s, fmn (fun s => vl g (w 16 12).toNat s ∧ cvn 0 s) (fun s => mxL (lfn (yWt w t) 0 s (fun _ => 0)) g.toNat) s ∧ v' = some (zI ((fun s => mxL (lfn (yWt w t) 0 s (fun _ => 0)) g.toNat) s)) ∧ alS (w' 27) 0 s))) zNo 33 [zR 0, zI g] [zI ((fun s => mxL (lfn (yWt w t) 0 s (fun _ => 0)) g.toNat) s0)] (ZZ t dr tx) q_1_w
      refine zA_iret dX11_even_33 rfl ?_
      exact ⟨rfl, Or.inr ⟨by omega, hq1, hq2, s0, hq3, rfl, hq4⟩⟩
    · skip
      replace k16 := zite_eq k16
      refine zA_iconst dX11_even_19 ?_
      refine zA_iret dX11_even_20 rfl ?_
      exact ⟨rfl, Or.inl ⟨by omega, rfl, rfl⟩⟩

