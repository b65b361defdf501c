/-! letters laid even on gangs: the reference -/
def mWt (w : zW) : Int → Int := fun j => w 81 (6 * w 87 j + 1) * w 79 (w 81 (6 * w 87 j))
def haF (i : Int) (w w' : zW) : Prop := (∀ c x, c ≠ 113 → c ≠ 114 → c ≠ 115 → (c ≠ 73 ∨ x ≠ 77) → w' c x = w c x) ∧ (∀ x, w' 115 x = w 115 x) ∧ ∀ j : Int, j < i → w' 114 j = w 114 j
def haS (w w' : zW) : Prop := w' 73 77 = w 73 77 ∧ ∀ j, w' 113 j = w 113 j
def haA (M : List Int → Int) (i : Int) (w w' : zW) (t : List Int) : Prop := w' 73 77 = M t ∧ (∀ j : Int, 0 ≤ j → j < i → w' 113 j = w 114 j) ∧ alS (w' 113) i t
theorem haF_rfl {i : Int} {w : zW} : haF i w w := ⟨fun _ _ _ _ _ _ => rfl, fun _ => rfl, fun _ _ => rfl⟩
theorem haS_rfl {w : zW} : haS w w := ⟨rfl, fun _ => rfl⟩
theorem mWt_c {w w1 : zW} (h : ∀ c x, c ≠ 113 → c ≠ 114 → c ≠ 115 → (c ≠ 73 ∨ x ≠ 77) → w1 c x = w c x) : mWt w1 = mWt w := by
  have e : ∀ c, c ≠ 113 → c ≠ 114 → c ≠ 115 → c ≠ 73 → w1 c = w c := fun c a b d f => funext fun x => h c x a b d (Or.inl f)
  unfold mWt
  rw [e 81 (by decide) (by decide) (by decide) (by decide), e 79 (by decide) (by decide) (by decide) (by decide), e 87 (by decide) (by decide) (by decide) (by decide)]
set_option maxRecDepth 100000 in
set_option maxHeartbeats 4000000 in
theorem m_share_s {l : Launch} {t dr tx : Nat} {w : zW} {k : Nat} (IH : ∀ q : Nat, q < k → ∀ (w : zW) (i g : Int) (i0 : 0 ≤ i) (hik : i + (q : Nat) = w 73 26) (hn : w 73 26 ≤ 8) (g0 : 2 ≤ g) (g4 : g ≤ 4) (hE : -1 ≤ w 73 77) (hix : ∀ j : Int, 0 ≤ j → j < w 73 26 → (0 ≤ w 87 j ∧ w 87 j < 8) ∧ 0 ≤ w 81 (6 * w 87 j) ∧ w 81 (6 * w 87 j) < 12) (hw : ∀ j : Int, 0 ≤ j → j < w 73 26 → 0 ≤ mWt w j ∧ mWt w j ≤ 1800) (hl : ∀ x : Int, 0 ≤ x → x < 4 → 0 ≤ w 115 x ∧ w 115 x ≤ 1800 * i), zSp l mX12_share false (q + 3) 0 0 [zR 73, zI i, zI g] (ZZ t dr tx) w (fun v' S' w' => v' = none ∧ S' = (ZZ t dr tx) ∧ haF i w w' ∧ shO (fun s => vl g q s) (fun s => mxL (lfn (mWt w) i s (w 115)) g.toNat) (w 73 77) (haS w w') (haA (fun s => mxL (lfn (mWt w) i s (w 115)) g.toNat) i w w')) zNo) {i g : Int} (i0 : 0 ≤ i) (hik : i + (k : Nat) = w 73 26) (hn : w 73 26 ≤ 8) (g0 : 2 ≤ g) (g4 : g ≤ 4) (hE : -1 ≤ w 73 77) (hix : ∀ j : Int, 0 ≤ j → j < w 73 26 → (0 ≤ w 87 j ∧ w 87 j < 8) ∧ 0 ≤ w 81 (6 * w 87 j) ∧ w 81 (6 * w 87 j) < 12) (hw : ∀ j : Int, 0 ≤ j → j < w 73 26 → 0 ≤ mWt w j ∧ mWt w j ≤ 1800) (hl : ∀ x : Int, 0 ≤ x → x < 4 → 0 ≤ w 115 x ∧ w 115 x ≤ 1800 * i) : zSp l mX12_share false (k + 3) 0 0 [zR 73, zI i, zI g] (ZZ t dr tx) w (fun v' S' w' => v' = none ∧ S' = (ZZ t dr tx) ∧ haF i w w' ∧ shO (fun s => vl g k s) (fun s => mxL (lfn (mWt w) i s (w 115)) g.toNat) (w 73 77) (haS w w') (haA (fun s => mxL (lfn (mWt w) i s (w 115)) g.toNat) i w w')) zNo := by
  refine zA_intro ⟨plainFor_of_name (by decide +kernel), Or.inl (by decide +kernel)⟩ rfl (Nat.le_of_ble_eq_true rfl) ?_
  have hmge : ∀ s, vl g k s → mxL (w 115) g.toNat ≤ mxL (lfn (mWt w) i s (w 115)) g.toNat := fun s hs => by
    have h1 := vl_len hs
    exact mxL_mono g.toNat (fun y => lfn_geB (wt := mWt w) s i (w 115) y (fun j a b => (hw j (by omega) (by omega)).1))
  refine zA_range (fun hr => ?_)
  show zA l mX12_share false (k + 3) 0 0 (fun v' S' w' => v' = none ∧ S' = (ZZ t dr tx) ∧ haF i w w' ∧ shO (fun s => vl g k s) (fun s => mxL (lfn (mWt w) i s (w 115)) g.toNat) (w 73 77) (haS w w') (haA (fun s => mxL (lfn (mWt w) i s (w 115)) g.toNat) i w w')) zNo 0 [zR 73, zI i, zI g, .null, .null, .null, .null] [] (ZZ t dr tx) w
  refine zA_iconst dX12_share_0 ?_
  refine zA_istore_n (lo1 := [zR 73, zI i, zI g, zI 0, .null, .null, .null]) dX12_share_1 (by decide) rfl rfl ?_
  refine zA_iconst dX12_share_2 ?_
  refine zA_istore (lo1 := [zR 73, zI i, zI g, zI 0, zI 0, .null, .null]) dX12_share_3 (by decide) rfl rfl ?_
  have L5 : ∀ (z5 : Nat) (m x : Int) (x0 : 0 ≤ x) (x1 : x ≤ g) (hm : m = mxL (w 115) x.toNat) (hmr : inR m) (zm : (g - x).toNat < z5), zA l mX12_share false (k + 3) 0 0 (fun v' S' w' => v' = none ∧ S' = (ZZ t dr tx) ∧ haF i w w' ∧ shO (fun s => vl g k s) (fun s => mxL (lfn (mWt w) i s (w 115)) g.toNat) (w 73 77) (haS w w') (haA (fun s => mxL (lfn (mWt w) i s (w 115)) g.toNat) i w w')) zNo 5 [zR 73, zI i, zI g, zI m, zI x, .null, .null] [] (ZZ t dr tx) w := by
    intro z5
    induction z5 with
    | zero => intro m x x0 x1 hm hmr zm; exact absurd zm (Nat.not_lt_zero _)
    | succ z5 ih5 =>
      intro m x x0 x1 hm hmr zm
      refine zA_iload dX12_share_5 rfl ?_
      refine zA_iload_n dX12_share_7 rfl ?_
      refine zA_icmp_ge (tgt := 29) dX12_share_8 (by decide) (by first | assumption | exact hr _ _ | exact inR_mk (by omega) (by omega)) (by first | assumption | exact hr _ _ | exact inR_mk (by omega) (by omega)) (fun c8 => ?_) (fun c8 => ?_)
      · skip
        have hmg : m = mxL (w 115) g.toNat := by rw [hm, show x = g by omega]
        have L46 : ∀  (hc : w 73 77 = -1 ∨ m < w 73 77), zA l mX12_share false (k + 3) 0 0 (fun v' S' w' => v' = none ∧ S' = (ZZ t dr tx) ∧ haF i w w' ∧ shO (fun s => vl g k s) (fun s => mxL (lfn (mWt w) i s (w 115)) g.toNat) (w 73 77) (haS w w') (haA (fun s => mxL (lfn (mWt w) i s (w 115)) g.toNat) i w w')) zNo 46 [zR 73, zI i, zI g, zI m, .null, .null, .null] [] (ZZ t dr tx) w := by
          intro  hc
          refine zA_iload_n dX12_share_46 rfl ?_
          refine zA_aload_n dX12_share_47 rfl ?_
          refine zA_getI dX12_share_48 fX12_69 c73 rfl ?_
          refine zA_valI (w 73 26) rfl ?_
          refine zA_icmp_ne (tgt := 92) dX12_share_51 (by decide) (by first | assumption | exact hr _ _ | exact inR_mk (by omega) (by omega)) (by first | assumption | exact hr _ _ | exact inR_mk (by omega) (by omega)) (fun c51 => ?_) (fun c51 => ?_)
          · skip
            obtain ⟨k1, hk1⟩ : ∃ k1 : Nat, k = k1 + 1 := ⟨k - 1, by omega⟩
            have hxi := hix i i0 (by omega)
            refine zA_bipush dX12_share_92 rfl ?_
            refine zA_aload_n dX12_share_94 rfl ?_
            refine zA_getR (n := 87) dX12_share_95 fX12_63 c73 rfl ?_
            refine zA_iload_n dX12_share_98 rfl ?_
            refine zA_iaload dX12_share_99 c87 (by first | assumption | omega) (by first | assumption | omega) (by decide) ?_
            refine zA_imul dX12_share_100 ?_
            refine zA_istore (lo1 := [zR 73, zI i, zI g, zI m, zI (6 * (w 87 i)), .null, .null]) dX12_share_101 (by decide) rfl rfl ?_
            refine zA_aload_n dX12_share_103 rfl ?_
            refine zA_getR (n := 81) dX12_share_104 fX12_43 c73 rfl ?_
            refine zA_iload dX12_share_107 rfl ?_
            refine zA_iconst dX12_share_109 ?_
            refine zA_iadd dX12_share_110 ?_
            refine zA_iaload dX12_share_111 c81 (by first | assumption | omega) (by first | assumption | omega) (by decide) ?_
            refine zA_aload_n dX12_share_112 rfl ?_
            refine zA_getR (n := 79) dX12_share_113 fX12_38 c73 rfl ?_
            refine zA_aload_n dX12_share_116 rfl ?_
            refine zA_getR (n := 81) dX12_share_117 fX12_43 c73 rfl ?_
            refine zA_iload dX12_share_120 rfl ?_
            refine zA_iaload dX12_share_122 c81 (by first | assumption | omega) (by first | assumption | omega) (by decide) ?_
            refine zA_iaload dX12_share_123 c79 (by first | assumption | omega) (by first | assumption | omega) (by decide) ?_
            refine zA_imul dX12_share_124 ?_
            refine zA_valI (mWt w i) (rfl) ?_
            refine zA_istore (lo1 := [zR 73, zI i, zI g, zI m, zI (6 * (w 87 i)), zI (mWt w i), .null]) dX12_share_125 (by decide) rfl rfl ?_
            refine zA_iconst dX12_share_127 ?_
            refine zA_istore (lo1 := [zR 73, zI i, zI g, zI m, zI (6 * (w 87 i)), zI (mWt w i), zI 0]) dX12_share_128 (by decide) rfl rfl ?_
            refine zA_drop 3 (lo1 := [zR 73, zI i, zI g, .null, zI (6 * (w 87 i)), zI (mWt w i), zI 0]) rfl ?_
            refine zA_drop 4 (lo1 := [zR 73, zI i, zI g, .null, .null, zI (mWt w i), zI 0]) rfl ?_
            have L130 : ∀ (z130 : Nat) (x : Int) (w1 : zW) (x0 : 0 ≤ x) (xg : x ≤ g) (hF : haF i w w1) (hI : (x = 0 ∧ w 73 77 = -1 ∧ haS w w1) ∨ shO (Vh (fun s => vl g k s) x) (fun s => mxL (lfn (mWt w) i s (w 115)) g.toNat) (w 73 77) (haS w w1) (haA (fun s => mxL (lfn (mWt w) i s (w 115)) g.toNat) i w w1)) (hE1 : -1 ≤ w1 73 77) (zm : (g - x).toNat < z130), zA l mX12_share false (k + 3) 0 0 (fun v' S' w' => v' = none ∧ S' = (ZZ t dr tx) ∧ haF i w w' ∧ shO (fun s => vl g k s) (fun s => mxL (lfn (mWt w) i s (w 115)) g.toNat) (w 73 77) (haS w w') (haA (fun s => mxL (lfn (mWt w) i s (w 115)) g.toNat) i w w')) zNo 130 [zR 73, zI i, zI g, .null, .null, zI (mWt w i), zI x] [] (ZZ t dr tx) w1 := by
              intro z130
              induction z130 with
              | zero => intro x w1 x0 xg hF hI hE1 zm; exact absurd zm (Nat.not_lt_zero _)
              | succ z130 ih130 =>
                intro x w1 x0 xg hF hI hE1 zm
                refine zA_range (fun hr => ?_)
                have e26 : w1 73 26 = w 73 26 := hF.1 73 26 (by decide) (by decide) (by decide) (Or.inr (by decide))
                have e115 := hF.2.1
                have e115x := e115 x
                have hwi := hw i i0 (by omega)
                refine zA_iload dX12_share_130 rfl ?_
                refine zA_iload_n dX12_share_132 rfl ?_
                refine zA_icmp_ge (tgt := 182) dX12_share_133 (by decide) (by first | assumption | exact hr _ _ | exact inR_mk (by omega) (by omega)) (by first | assumption | exact hr _ _ | exact inR_mk (by omega) (by omega)) (fun c133 => ?_) (fun c133 => ?_)
                · skip
                  refine zA_vret dX12_share_182 rfl ?_
                  have hxg : x = g := by omega
                  have hI3 := hI.resolve_left (fun h => by have := h.1; omega)
                  exact ⟨rfl, rfl, hF, sh_V hI3 (fun s => ⟨fun h => h.1, fun h => ⟨h, by
                    cases s with
                    | nil => rw [hk1] at h; exact h.elim
                    | cons y s => exact ⟨y, s, rfl, by rw [hk1] at h; have := h.1.2; omega⟩⟩⟩) (fun _ _ => rfl) (fun h => h) (fun _ _ h => h)⟩
                · skip
                  have hlx := hl x x0 (by omega)
                  refine zA_aload_n dX12_share_136 rfl ?_
                  refine zA_getR (n := 115) dX12_share_137 fX12_154 c73 rfl ?_
                  refine zA_iload dX12_share_140 rfl ?_
                  refine zA_dup2 dX12_share_142 rfl rfl ?_
                  refine zA_iaload dX12_share_143 c115 (by first | assumption | omega) (by first | assumption | omega) (by decide) ?_
                  refine zA_iload dX12_share_144 rfl ?_
                  refine zA_iadd dX12_share_146 ?_
                  refine zA_iastore dX12_share_147 (by first | assumption | exact hr _ _ | exact inR_mk (by omega) (by omega)) c115 (by first | assumption | omega) (by first | assumption | omega) (by decide) ?_
                  refine zA_namew (fun w_1 hw_1 => ?_)
                  refine zA_range (fun hr => ?_)
                  replace hw_1 : w_1 = up w1 115 x ((w1 115 x) + (mWt w i)) := hw_1
                  refine zA_aload_n dX12_share_148 rfl ?_
                  refine zA_getR (n := 114) dX12_share_149 fX12_151 c73 rfl ?_
                  refine zA_iload_n dX12_share_152 rfl ?_
                  refine zA_iload dX12_share_153 rfl ?_
                  refine zA_iastore dX12_share_155 (by first | assumption | exact hr _ _ | exact inR_mk (by omega) (by omega)) c114 (by first | assumption | omega) (by first | assumption | omega) (by decide) ?_
                  refine zA_namew (fun w_2 hw_2 => ?_)
                  refine zA_range (fun hr => ?_)
                  replace hw_2 : w_2 = up w_1 114 i x := hw_2
                  have hu : ∀ c z, c ≠ 115 → c ≠ 114 → w_2 c z = w1 c z := fun c z a b => by rw [hw_2, up_cell _ _ _ _ b, hw_1, up_cell _ _ _ _ a]
                  have hu115 : ∀ z, w_2 115 z = if z = x then w 115 z + mWt w i else w 115 z := fun z => by
                    rw [hw_2, up_cell _ _ _ _ (by decide), hw_1]
                    by_cases q : z = x
                    · rw [q, up_same, if_pos rfl, e115x]
                    · rw [up_idx _ _ _ _ q, if_neg q]; exact e115 z
                  have hu114 : ∀ j : Int, j < i → w_2 114 j = w1 114 j := fun j hj => by rw [hw_2, up_idx _ _ _ _ (by omega), hw_1, up_cell _ _ _ _ (by decide)]
                  have hu114i : w_2 114 i = x := by rw [hw_2, up_same]
                  have hu77 : w_2 73 77 = w1 73 77 := hu 73 77 (by decide) (by decide)
                  have hu26 : w_2 73 26 = w 73 26 := (hu 73 26 (by decide) (by decide)).trans e26
                  have hu113 : ∀ j, w_2 113 j = w1 113 j := fun j => hu 113 j (by decide) (by decide)
                  have e2 : w_2 115 = (fun y => if y = x then w 115 y + mWt w i else w 115 y) := funext hu115
                  have e3 : mWt w_2 = mWt w := mWt_c (fun c z a b e f => (hu c z e b).trans (hF.1 c z a b e f))
                  have hu81 : ∀ z, w_2 81 z = w 81 z := fun z => (hu 81 z (by decide) (by decide)).trans (hF.1 81 z (by decide) (by decide) (by decide) (Or.inl (by decide)))
                  have hu87 : ∀ z, w_2 87 z = w 87 z := fun z => (hu 87 z (by decide) (by decide)).trans (hF.1 87 z (by decide) (by decide) (by decide) (Or.inl (by decide)))
                  have hVx : ∀ s, vl g k1 s ↔ vl g k (x :: s) := fun s => by
                    rw [hk1]
                    exact ⟨fun h => ⟨⟨x0, by omega⟩, h⟩, fun h => h.2⟩
                  have hI2 : shO (Vh (fun s => vl g k s) x) (fun s => mxL (lfn (mWt w) i s (w 115)) g.toNat) (w 73 77) (haS w w1) (haA (fun s => mxL (lfn (mWt w) i s (w 115)) g.toNat) i w w1) ∨ (w 73 77 = -1 ∧ haS w w1 ∧ ∀ s, ¬ Vh (fun s => vl g k s) x s) := by
                    rcases hI with ⟨h1, h2, h3⟩ | h
                    · refine Or.inr ⟨h2, h3, fun s hs => ?_⟩
                      obtain ⟨h4, y, s1, rfl, h5⟩ := hs
                      rw [hk1] at h4
                      have := h4.1.1
                      omega
                    · exact Or.inl h
                  have hl2 : ∀ z : Int, 0 ≤ z → z < 4 → 0 ≤ w_2 115 z ∧ w_2 115 z ≤ 1800 * (i + 1) := fun z z0 z1 => by
                    have := hl z z0 z1
                    rw [hu115 z]
                    split <;> omega
                  refine zA_aload_n dX12_share_156 rfl ?_
                  refine zA_iload_n dX12_share_157 rfl ?_
                  refine zA_iconst dX12_share_158 ?_
                  refine zA_iadd dX12_share_159 ?_
                  refine zA_iload_n dX12_share_160 rfl ?_
                  refine zA_cV (st := []) dX12_share_161 vX12_share kX12_491 (IH k1 (by omega) w_2 (i + 1) g (by omega) (by rw [hu26]; omega) (by rw [hu26]; exact hn) g0 g4 (by omega) (fun j a b => by rw [hu87 j, hu81]; rw [hu26] at b; exact hix j a b) (fun j a b => by rw [e3]; rw [hu26] at b; exact hw j a b) hl2) (by omega) c73 rfl rfl (Nat.le_of_ble_eq_true rfl) rfl (fun q_3_v q_3_S q_3_w q_3 => ?_)
                  obtain ⟨rfl, rfl, hF3, hG⟩ := q_3
                  rw [e2, e3] at hG
                  have f115x := hF3.2.1 x
                  have hu115x := hu115 x
                  rw [if_pos rfl] at hu115x
                  have hE3 : -1 ≤ q_3_w 73 77 := by
                    rcases hG with ⟨a, -⟩ | ⟨s, -, a, -⟩
                    · rw [a.1]; omega
                    · have h1 := a.1
                      have h2 := mxL_0 (lfn (mWt w) (i + 1) s (fun y => if y = x then w 115 y + mWt w i else w 115 y)) g.toNat
                      have h3 : q_3_w 73 77 = mxL (lfn (mWt w) (i + 1) s (fun y => if y = x then w 115 y + mWt w i else w 115 y)) g.toNat := h1
                      omega
                  refine zA_range (fun hr => ?_)
                  show zA l mX12_share false (k + 3) 0 0 (fun v' S' w' => v' = none ∧ S' = (ZZ t dr tx) ∧ haF i w w' ∧ shO (fun s => vl g k s) (fun s => mxL (lfn (mWt w) i s (w 115)) g.toNat) (w 73 77) (haS w w') (haA (fun s => mxL (lfn (mWt w) i s (w 115)) g.toNat) i w w')) zNo 164 [zR 73, zI i, zI g, .null, .null, zI (mWt w i), zI x] [] (ZZ t dr tx) q_3_w
                  refine zA_aload_n dX12_share_164 rfl ?_
                  refine zA_getR (n := 115) dX12_share_165 fX12_154 c73 rfl ?_
                  refine zA_iload dX12_share_168 rfl ?_
                  refine zA_dup2 dX12_share_170 rfl rfl ?_
                  refine zA_iaload dX12_share_171 c115 (by first | assumption | omega) (by first | assumption | omega) (by decide) ?_
                  refine zA_iload dX12_share_172 rfl ?_
                  refine zA_isub dX12_share_174 ?_
                  refine zA_iastore dX12_share_175 (by first | assumption | exact hr _ _ | exact inR_mk (by omega) (by omega)) c115 (by first | assumption | omega) (by first | assumption | omega) (by decide) ?_
                  refine zA_namew (fun w_4 hw_4 => ?_)
                  refine zA_range (fun hr => ?_)
                  replace hw_4 : w_4 = up q_3_w 115 x ((q_3_w 115 x) - (mWt w i)) := hw_4
                  have f77 : w_4 73 77 = q_3_w 73 77 := by rw [hw_4, up_cell _ _ _ _ (by decide)]
                  have f113 : ∀ j, w_4 113 j = q_3_w 113 j := fun j => by rw [hw_4, up_cell _ _ _ _ (by decide)]
                  refine zA_iinc (lo1 := [zR 73, zI i, zI g, .null, .null, zI (mWt w i), zI (x + 1)]) dX12_share_176 rfl (by decide) rfl rfl ?_
                  refine zA_goto (tgt := 130) dX12_share_179 (by decide) ?_
                  exact ih130 (x + 1) _ (by omega) (by omega) ⟨fun c z a b e f => by rw [hw_4, up_cell _ _ _ _ e]; exact (hF3.1 c z a b e f).trans ((hu c z e b).trans (hF.1 c z a b e f)), fun z => by
                          rw [hw_4]
                          by_cases q : z = x
                          · rw [q, up_same, hF3.2.1 x, hu115 x, if_pos rfl]; omega
                          · rw [up_idx _ _ _ _ q, hF3.2.1 z, hu115 z, if_neg q], fun j hj => by rw [hw_4, up_cell _ _ _ _ (by decide), hF3.2.2 j (by omega), hu114 j hj]; exact hF.2.2 j hj⟩ (Or.inr (sh_s (fun s => mxL_0 _ _) hI2 hVx hG (fun a b => ⟨by rw [f77]; exact b.1.trans (hu77.trans a.1), fun j => by rw [f113]; exact (b.2 j).trans ((hu113 j).trans (a.2 j))⟩) (fun a => hu77.trans a.1) (fun s a => hu77.trans a.1) (fun s a b => ⟨by rw [f77]; exact b.1.trans (hu77.trans a.1), fun j j0 j1 => by rw [f113, b.2 j, hu113 j]; exact a.2.1 j j0 j1, alS_c (fun j _ _ => by rw [f113, b.2 j, hu113 j]) a.2.2⟩) (fun s a => ⟨by rw [f77]; exact a.1, fun j j0 j1 => by rw [f113, a.2.1 j j0 (by omega), hu114 j j1]; exact hF.2.2 j j1, by rw [f113, a.2.1 i i0 (by omega)]; exact hu114i, alS_c (fun j _ _ => by rw [f113]) a.2.2⟩))) (by rw [f77]; exact hE3) (by omega)
            exact L130 _ 0 w (by omega) (by omega) haF_rfl (by
                  by_cases q : w 73 77 = -1
                  · exact Or.inl ⟨rfl, q, haS_rfl⟩
                  · exact Or.inr (shr_0 q haS_rfl (fun y s h => by rw [hk1] at h; exact h.1.1))) hE (Nat.lt_succ_self _)
          · skip
            have hk0 : k = 0 := by omega
            refine zA_aload_n dX12_share_54 rfl ?_
            refine zA_iload_n dX12_share_55 rfl ?_
            refine zA_putI dX12_share_56 fX12_488 c73 rfl (by first | assumption | exact hr _ _ | exact inR_mk (by omega) (by omega)) ⟨rfl, rfl⟩ ?_
            refine zA_namew (fun w_5 hw_5 => ?_)
            refine zA_range (fun hr => ?_)
            replace hw_5 : w_5 = up w 73 77 m := hw_5
            refine zA_iconst dX12_share_59 ?_
            refine zA_istore (lo1 := [zR 73, zI i, zI g, zI m, zI 0, .null, .null]) dX12_share_60 (by decide) rfl rfl ?_
            have L62 : ∀ (z62 : Nat) (j : Int) (w1 : zW) (j0 : 0 ≤ j) (j1 : j ≤ w 73 26) (e77 : w1 73 77 = m) (hf : ∀ c x, c ≠ 113 → (c ≠ 73 ∨ x ≠ 77) → w1 c x = w c x) (hcp : ∀ y : Int, 0 ≤ y → y < j → w1 113 y = w 114 y) (zm : (w 73 26 - j).toNat < z62), zA l mX12_share false (k + 3) 0 0 (fun v' S' w' => v' = none ∧ S' = (ZZ t dr tx) ∧ haF i w w' ∧ shO (fun s => vl g k s) (fun s => mxL (lfn (mWt w) i s (w 115)) g.toNat) (w 73 77) (haS w w') (haA (fun s => mxL (lfn (mWt w) i s (w 115)) g.toNat) i w w')) zNo 62 [zR 73, zI i, zI g, zI m, zI j, .null, .null] [] (ZZ t dr tx) w1 := by
              intro z62
              induction z62 with
              | zero => intro j w1 j0 j1 e77 hf hcp zm; exact absurd zm (Nat.not_lt_zero _)
              | succ z62 ih62 =>
                intro j w1 j0 j1 e77 hf hcp zm
                refine zA_range (fun hr => ?_)
                have e26 := hf 73 26 (by decide) (Or.inr (by decide))
                refine zA_iload dX12_share_62 rfl ?_
                refine zA_aload_n dX12_share_64 rfl ?_
                refine zA_getI dX12_share_65 fX12_69 c73 rfl ?_
                refine zA_valI (w1 73 26) rfl ?_
                refine zA_valI (w 73 26) (e26) ?_
                refine zA_icmp_ge (tgt := 91) dX12_share_68 (by decide) (by first | assumption | exact hr _ _ | exact inR_mk (by omega) (by omega)) (by first | assumption | exact hr _ _ | exact inR_mk (by omega) (by omega)) (fun c68 => ?_) (fun c68 => ?_)
                · skip
                  refine zA_vret dX12_share_91 rfl ?_
                  subst hk0
                  refine ⟨rfl, rfl, ⟨fun c x a b e f => hf c x a f, fun x => hf 115 x (by decide) (Or.inl (by decide)), fun y _ => hf 114 y (by decide) (Or.inl (by decide))⟩, Or.inr ⟨[], ⟨rfl, fun s hs => by
                      have e : s = [] := hs
                      rw [e]; exact ⟨Int.le_refl _, fun _ => Or.inl rfl⟩⟩, ⟨e77.trans hmg, fun y a b => hcp y a (by omega), trivial⟩, ?_⟩⟩
                  show w 73 77 = -1 ∨ mxL (w 115) g.toNat < w 73 77
                  rw [← hmg]; exact hc
                · skip
                  refine zA_aload_n dX12_share_71 rfl ?_
                  refine zA_getR (n := 113) dX12_share_72 fX12_148 c73 rfl ?_
                  refine zA_iload dX12_share_75 rfl ?_
                  refine zA_aload_n dX12_share_77 rfl ?_
                  refine zA_getR (n := 114) dX12_share_78 fX12_151 c73 rfl ?_
                  refine zA_iload dX12_share_81 rfl ?_
                  refine zA_iaload dX12_share_83 c114 (by first | assumption | omega) (by first | assumption | omega) (by decide) ?_
                  refine zA_iastore dX12_share_84 (by first | assumption | exact hr _ _ | exact inR_mk (by omega) (by omega)) c113 (by first | assumption | omega) (by first | assumption | omega) (by decide) ?_
                  refine zA_namew (fun w_6 hw_6 => ?_)
                  refine zA_range (fun hr => ?_)
                  replace hw_6 : w_6 = up w1 113 j (w1 114 j) := hw_6
                  refine zA_iinc (lo1 := [zR 73, zI i, zI g, zI m, zI (j + 1), .null, .null]) dX12_share_85 rfl (by decide) rfl rfl ?_
                  refine zA_goto (tgt := 62) dX12_share_88 (by decide) ?_
                  exact ih62 (j + 1) _ (by omega) (by omega) (by rw [hw_6, up_cell _ _ _ _ (by decide)]; exact e77) (fun c x a b => by rw [hw_6, up_cell _ _ _ _ a]; exact hf c x a b) (fun y a b => by
                          rw [hw_6]
                          by_cases q : y = j
                          · rw [q, up_same]; exact hf 114 j (by decide) (Or.inl (by decide))
                          · rw [up_idx _ _ _ _ q]; exact hcp y a (by omega)) (by omega)
            exact L62 _ 0 _ (by omega) (by omega) (by rw [hw_5, up_same]) (fun c x a b => by rw [hw_5, up_n b]) (fun y a b => by omega) (Nat.lt_succ_self _)
        refine zA_aload_n dX12_share_29 rfl ?_
        refine zA_getI dX12_share_30 fX12_488 c73 rfl ?_
        refine zA_valI (w 73 77) rfl ?_
        refine zA_iconst dX12_share_33 ?_
        refine zA_icmp_eq (tgt := 46) dX12_share_34 (by decide) (by first | assumption | exact hr _ _ | exact inR_mk (by omega) (by omega)) ⟨by decide, by decide⟩ (fun c34 => ?_) (fun c34 => ?_)
        · skip
          skip
          refine zA_drop 4 (lo1 := [zR 73, zI i, zI g, zI m, .null, .null, .null]) rfl ?_
          exact L46 (Or.inl c34)
        · skip
          refine zA_iload_n dX12_share_37 rfl ?_
          refine zA_aload_n dX12_share_38 rfl ?_
          refine zA_getI dX12_share_39 fX12_488 c73 rfl ?_
          refine zA_valI (w 73 77) rfl ?_
          refine zA_icmp_lt (tgt := 46) dX12_share_42 (by decide) (by first | assumption | exact hr _ _ | exact inR_mk (by omega) (by omega)) (by first | assumption | exact hr _ _ | exact inR_mk (by omega) (by omega)) (fun c42 => ?_) (fun c42 => ?_)
          · skip
            skip
            refine zA_drop 4 (lo1 := [zR 73, zI i, zI g, zI m, .null, .null, .null]) rfl ?_
            exact L46 (Or.inr c42)
          · skip
            refine zA_vret dX12_share_45 rfl ?_
            exact ⟨rfl, rfl, haF_rfl, Or.inl ⟨haS_rfl, c34, fun s hs => Int.le_trans (by rw [← hmg]; omega) (hmge s hs)⟩⟩
      · skip
        refine zA_iload_n dX12_share_11 rfl ?_
        refine zA_aload_n dX12_share_12 rfl ?_
        refine zA_getR (n := 115) dX12_share_13 fX12_154 c73 rfl ?_
        refine zA_iload dX12_share_16 rfl ?_
        refine zA_iaload dX12_share_18 c115 (by first | assumption | omega) (by first | assumption | omega) (by decide) ?_
        refine zA_mmax dX12_share_19 kmX12_375 zw_max (by first | assumption | exact hr _ _ | exact inR_mk (by omega) (by omega)) (by first | assumption | exact hr _ _ | exact inR_mk (by omega) (by omega)) (Nat.le_of_ble_eq_true rfl) ?_
        refine zA_istore_n (lo1 := [zR 73, zI i, zI g, zI (max m (w 115 x)), zI x, .null, .null]) dX12_share_22 (by decide) rfl rfl ?_
        refine zA_iinc (lo1 := [zR 73, zI i, zI g, zI (max m (w 115 x)), zI (x + 1), .null, .null]) dX12_share_23 rfl (by decide) rfl rfl ?_
        refine zA_goto (tgt := 5) dX12_share_26 (by decide) ?_
        exact ih5 _ (x + 1) (by omega) (by omega) (by rw [zsucc x0]; simp only [mxL]; rw [zcast x0, hm]) (inR_max hmr (hr 115 x)) (by omega)
  exact L5 _ 0 0 (by omega) (by omega) rfl ⟨by decide, by decide⟩ (Nat.lt_succ_self _)

theorem m_share {l : Launch} {t dr tx : Nat} : ∀ (k : Nat) (w : zW) (i g : Int) (i0 : 0 ≤ i) (hik : i + (k : Nat) = w 73 26) (hn : w 73 26 ≤ 8) (g0 : 2 ≤ g) (g4 : g ≤ 4) (hE : -1 ≤ w 73 77) (hix : ∀ j : Int, 0 ≤ j → j < w 73 26 → (0 ≤ w 87 j ∧ w 87 j < 8) ∧ 0 ≤ w 81 (6 * w 87 j) ∧ w 81 (6 * w 87 j) < 12) (hw : ∀ j : Int, 0 ≤ j → j < w 73 26 → 0 ≤ mWt w j ∧ mWt w j ≤ 1800) (hl : ∀ x : Int, 0 ≤ x → x < 4 → 0 ≤ w 115 x ∧ w 115 x ≤ 1800 * i), zSp l mX12_share false (k + 3) 0 0 [zR 73, zI i, zI g] (ZZ t dr tx) w (fun v' S' w' => v' = none ∧ S' = (ZZ t dr tx) ∧ haF i w w' ∧ shO (fun s => vl g k s) (fun s => mxL (lfn (mWt w) i s (w 115)) g.toNat) (w 73 77) (haS w w') (haA (fun s => mxL (lfn (mWt w) i s (w 115)) g.toNat) i w w')) zNo := by
  intro k
  induction k using Nat.strongRecOn with
  | _ k ih =>
    intro w i g h1 h2 h3 h4 h5 h6 h7 h8 h9
    exact m_share_s (k := k) ih h1 h2 h3 h4 h5 h6 h7 h8 h9
set_option maxRecDepth 100000 in
set_option maxHeartbeats 4000000 in
theorem m_even {l : Launch} {t dr tx : Nat} {w : zW} {g : Int} (hgr : inR g) (hn0 : -1 ≤ w 73 26) (hn : w 73 26 ≤ 8) (hix : ∀ j : Int, 0 ≤ j → j < w 73 26 → (0 ≤ w 87 j ∧ w 87 j < 8) ∧ 0 ≤ w 81 (6 * w 87 j) ∧ w 81 (6 * w 87 j) < 12) (hw : ∀ j : Int, 0 ≤ j → j < w 73 26 → 0 ≤ mWt w j ∧ mWt w j ≤ 1800) : zSp l mX12_even false 14 0 0 [zR 73, zI g] (ZZ t dr tx) w (fun v' S' w' => S' = (ZZ t dr tx) ∧ ((¬ (w 73 26 ≠ -1 ∧ 2 ≤ g ∧ g ≤ 4) ∧ v' = some (zI (-1)) ∧ w' = up w 73 1 0) ∨ ((w 73 26 ≠ -1 ∧ 2 ≤ g ∧ g ≤ 4) ∧ (∀ c x, c ≠ 113 → c ≠ 114 → c ≠ 115 → (c ≠ 73 ∨ (x ≠ 1 ∧ x ≠ 76 ∧ x ≠ 77)) → w' c x = w c x) ∧ (w' 73 1 = 0 ∧ w' 73 76 = w 73 26) ∧ ∃ s, fmn (vl g (w 73 26).toNat) (fun s => mxL (lfn (mWt w) 0 s (fun _ => 0)) g.toNat) s ∧ v' = some (zI ((fun s => mxL (lfn (mWt w) 0 s (fun _ => 0)) g.toNat) s)) ∧ alS (w' 113) 0 s))) zNo := by
  refine zA_intro ⟨plainFor_of_name (by decide +kernel), Or.inl (by decide +kernel)⟩ rfl (Nat.le_of_ble_eq_true rfl) ?_
  refine zA_range (fun hr => ?_)
  show zA l mX12_even false 14 0 0 (fun v' S' w' => S' = (ZZ t dr tx) ∧ ((¬ (w 73 26 ≠ -1 ∧ 2 ≤ g ∧ g ≤ 4) ∧ v' = some (zI (-1)) ∧ w' = up w 73 1 0) ∨ ((w 73 26 ≠ -1 ∧ 2 ≤ g ∧ g ≤ 4) ∧ (∀ c x, c ≠ 113 → c ≠ 114 → c ≠ 115 → (c ≠ 73 ∨ (x ≠ 1 ∧ x ≠ 76 ∧ x ≠ 77)) → w' c x = w c x) ∧ (w' 73 1 = 0 ∧ w' 73 76 = w 73 26) ∧ ∃ s, fmn (vl g (w 73 26).toNat) (fun s => mxL (lfn (mWt w) 0 s (fun _ => 0)) g.toNat) s ∧ v' = some (zI ((fun s => mxL (lfn (mWt w) 0 s (fun _ => 0)) g.toNat) s)) ∧ alS (w' 113) 0 s))) zNo 0 [zR 73, zI g, .null] [] (ZZ t dr tx) w
  refine zA_aload_n dX12_even_0 rfl ?_
  refine zA_iconst dX12_even_1 ?_
  refine zA_putI dX12_even_2 fX12_182 c73 rfl ⟨by decide, by decide⟩ ⟨rfl, rfl⟩ ?_
  refine zA_namew (fun w_1 hw_1 => ?_)
  refine zA_range (fun hr => ?_)
  replace hw_1 : w_1 = up w 73 1 0 := hw_1
  have e26 : w_1 73 26 = w 73 26 := by rw [hw_1, up_idx _ _ _ _ (by decide)]
  refine zA_aload_n dX12_even_5 rfl ?_
  refine zA_getI dX12_even_6 fX12_69 c73 rfl ?_
  refine zA_valI (w_1 73 26) rfl ?_
  refine zA_iconst dX12_even_9 ?_
  refine zA_icmp_eq (tgt := 22) dX12_even_10 (by decide) (by first | assumption | exact hr _ _ | exact inR_mk (by omega) (by omega)) ⟨by decide, by decide⟩ (fun c10 => ?_) (fun c10 => ?_)
  · skip
    refine zA_iconst dX12_even_22 ?_
    refine zA_iret dX12_even_23 rfl ?_
    exact ⟨rfl, Or.inl ⟨by omega, rfl, hw_1⟩⟩
  · skip
    refine zA_iload_n dX12_even_13 rfl ?_
    refine zA_iconst dX12_even_14 ?_
    refine zA_iconst dX12_even_15 ?_
    refine zA_cS (st := []) dX12_even_16 sX12_isIn kX12_185 (m_isIn (w := w_1) (a := g) (b := 2) (e := 4) (by first | assumption | exact hr _ _ | exact inR_mk (by omega) (by omega)) ⟨by decide, by decide⟩ ⟨by decide, by decide⟩) (by decide) rfl rfl (Nat.le_of_ble_eq_true rfl) (zRt_el ?_)
    show zA l mX12_even false 14 0 0 (fun v' S' w' => S' = (ZZ t dr tx) ∧ ((¬ (w 73 26 ≠ -1 ∧ 2 ≤ g ∧ g ≤ 4) ∧ v' = some (zI (-1)) ∧ w' = up w 73 1 0) ∨ ((w 73 26 ≠ -1 ∧ 2 ≤ g ∧ g ≤ 4) ∧ (∀ c x, c ≠ 113 → c ≠ 114 → c ≠ 115 → (c ≠ 73 ∨ (x ≠ 1 ∧ x ≠ 76 ∧ x ≠ 77)) → w' c x = w c x) ∧ (w' 73 1 = 0 ∧ w' 73 76 = w 73 26) ∧ ∃ s, fmn (vl g (w 73 26).toNat) (fun s => mxL (lfn (mWt w) 0 s (fun _ => 0)) g.toNat) s ∧ v' = some (zI ((fun s => mxL (lfn (mWt w) 0 s (fun _ => 0)) g.toNat) s)) ∧ alS (w' 113) 0 s))) zNo 19 [zR 73, zI g, .null] [zI (if 2 ≤ g ∧ g ≤ 4 then 1 else 0)] (ZZ t dr tx) w_1
    refine zA_if_ne (tgt := 24) dX12_even_19 (by decide) (inR_ite _) (fun c19 => ?_) (fun c19 => ?_)
    · skip
      replace c19 := zite_ne c19
      refine zA_aload_n dX12_even_24 rfl ?_
      refine zA_iconst dX12_even_25 ?_
      refine zA_putI dX12_even_26 fX12_488 c73 rfl ⟨by decide, by decide⟩ ⟨rfl, rfl⟩ ?_
      refine zA_namew (fun w_2 hw_2 => ?_)
      refine zA_range (fun hr => ?_)
      replace hw_2 : w_2 = up w_1 73 77 (-1) := hw_2
      refine zA_iconst dX12_even_29 ?_
      refine zA_istore_n (lo1 := [zR 73, zI g, zI 0]) dX12_even_30 (by decide) rfl rfl ?_
      have L31 : ∀ (z31 : Nat) (x : Int) (w1 : zW) (x0 : 0 ≤ x) (x1 : x ≤ 4) (hf : ∀ c z, c ≠ 115 → (c ≠ 73 ∨ (z ≠ 1 ∧ z ≠ 77)) → w1 c z = w c z) (e1 : w1 73 1 = 0) (e77 : w1 73 77 = -1) (hz : ∀ z : Int, 0 ≤ z → z < x → w1 115 z = 0) (zm : (4 - x).toNat < z31), zA l mX12_even false 14 0 0 (fun v' S' w' => S' = (ZZ t dr tx) ∧ ((¬ (w 73 26 ≠ -1 ∧ 2 ≤ g ∧ g ≤ 4) ∧ v' = some (zI (-1)) ∧ w' = up w 73 1 0) ∨ ((w 73 26 ≠ -1 ∧ 2 ≤ g ∧ g ≤ 4) ∧ (∀ c x, c ≠ 113 → c ≠ 114 → c ≠ 115 → (c ≠ 73 ∨ (x ≠ 1 ∧ x ≠ 76 ∧ x ≠ 77)) → w' c x = w c x) ∧ (w' 73 1 = 0 ∧ w' 73 76 = w 73 26) ∧ ∃ s, fmn (vl g (w 73 26).toNat) (fun s => mxL (lfn (mWt w) 0 s (fun _ => 0)) g.toNat) s ∧ v' = some (zI ((fun s => mxL (lfn (mWt w) 0 s (fun _ => 0)) g.toNat) s)) ∧ alS (w' 113) 0 s))) zNo 31 [zR 73, zI g, zI x] [] (ZZ t dr tx) w1 := by
        intro z31
        induction z31 with
        | zero => intro x w1 x0 x1 hf e1 e77 hz zm; exact absurd zm (Nat.not_lt_zero _)
        | succ z31 ih31 =>
          intro x w1 x0 x1 hf e1 e77 hz zm
          refine zA_range (fun hr => ?_)
          refine zA_iload_n dX12_even_31 rfl ?_
          refine zA_iconst dX12_even_32 ?_
          refine zA_icmp_ge (tgt := 49) dX12_even_33 (by decide) (by first | assumption | exact hr _ _ | exact inR_mk (by omega) (by omega)) ⟨by decide, by decide⟩ (fun c33 => ?_) (fun c33 => ?_)
          · skip
            have hx4 : x = 4 := by omega
            have f26 : w1 73 26 = w 73 26 := hf 73 26 (by decide) (Or.inr (by decide))
            have f81 : ∀ z, w1 81 z = w 81 z := fun z => hf 81 z (by decide) (Or.inl (by decide))
            have f87 : ∀ z, w1 87 z = w 87 z := fun z => hf 87 z (by decide) (Or.inl (by decide))
            have fwt : mWt w1 = mWt w := by
              have h1 : w1 81 = w 81 := funext f81
              have h2 : w1 87 = w 87 := funext f87
              have h3 : w1 79 = w 79 := funext fun z => hf 79 z (by decide) (Or.inl (by decide))
              unfold mWt; rw [h1, h2, h3]
            refine zA_aload_n dX12_even_49 rfl ?_
            refine zA_iconst dX12_even_50 ?_
            refine zA_iload_n dX12_even_51 rfl ?_
            refine zA_cV (st := []) dX12_even_52 vX12_share kX12_491 (m_share (w 73 26).toNat w1 0 g (Int.le_refl _) (by rw [f26]; omega) (by rw [f26]; exact hn) (by omega) (by omega) (by omega) (fun j a b => by rw [f87 j, f81]; rw [f26] at b; exact hix j a b) (fun j a b => by rw [fwt]; rw [f26] at b; exact hw j a b) (fun z a b => by rw [hz z a (by omega)]; decide)) (by omega) c73 rfl rfl (Nat.le_of_ble_eq_true rfl) rfl (fun q_3_v q_3_S q_3_w q_3 => ?_)
            obtain ⟨rfl, rfl, hLF, hLS⟩ := q_3
            rw [fwt] at hLS
            have hMe : ∀ s, vl g (w 73 26).toNat s → mxL (lfn (mWt w) 0 s (w1 115)) g.toNat = mxL (lfn (mWt w) 0 s (fun _ => 0)) g.toNat := fun s hs => mxL_c g.toNat (fun z z0 z1 => lfn_c (g := 4) s 0 _ _ (fun z2 b0 b1 => hz z2 b0 (by omega)) z z0 (by omega))
            obtain ⟨s0, hs1, hs2⟩ := sh_top hLS (Or.inl e77)
            refine zA_range (fun hr => ?_)
            show zA l mX12_even false 14 0 0 (fun v' S' w' => S' = (ZZ t dr tx) ∧ ((¬ (w 73 26 ≠ -1 ∧ 2 ≤ g ∧ g ≤ 4) ∧ v' = some (zI (-1)) ∧ w' = up w 73 1 0) ∨ ((w 73 26 ≠ -1 ∧ 2 ≤ g ∧ g ≤ 4) ∧ (∀ c x, c ≠ 113 → c ≠ 114 → c ≠ 115 → (c ≠ 73 ∨ (x ≠ 1 ∧ x ≠ 76 ∧ x ≠ 77)) → w' c x = w c x) ∧ (w' 73 1 = 0 ∧ w' 73 76 = w 73 26) ∧ ∃ s, fmn (vl g (w 73 26).toNat) (fun s => mxL (lfn (mWt w) 0 s (fun _ => 0)) g.toNat) s ∧ v' = some (zI ((fun s => mxL (lfn (mWt w) 0 s (fun _ => 0)) g.toNat) s)) ∧ alS (w' 113) 0 s))) zNo 55 [zR 73, zI g, zI x] [] (ZZ t dr tx) q_3_w
            refine zA_aload_n dX12_even_55 rfl ?_
            refine zA_aload_n dX12_even_56 rfl ?_
            refine zA_getI dX12_even_57 fX12_69 c73 rfl ?_
            refine zA_valI (q_3_w 73 26) rfl ?_
            refine zA_putI dX12_even_60 fX12_157 c73 rfl (by first | assumption | exact hr _ _ | exact inR_mk (by omega) (by omega)) ⟨rfl, rfl⟩ ?_
            refine zA_namew (fun w_4 hw_4 => ?_)
            refine zA_range (fun hr => ?_)
            replace hw_4 : w_4 = up q_3_w 73 76 (q_3_w 73 26) := hw_4
            refine zA_aload_n dX12_even_63 rfl ?_
            refine zA_getI dX12_even_64 fX12_488 c73 rfl ?_
            refine zA_valI (w_4 73 77) rfl ?_
            refine zA_iret dX12_even_67 rfl ?_
            have k77 : w_4 73 77 = q_3_w 73 77 := by rw [hw_4, up_idx _ _ _ _ (by decide)]
            have k26 : q_3_w 73 26 = w 73 26 := (hLF.1 73 26 (by decide) (by decide) (by decide) (Or.inr (by decide))).trans f26
            refine ⟨rfl, Or.inr ⟨by omega, fun c z a b e f => ?_, ⟨?_, by rw [hw_4, up_same, k26]⟩, s0, ⟨hs1.1, fun v hv2 => ?_⟩, ?_, alS_c (fun j _ _ => by rw [hw_4, up_cell _ _ _ _ (by decide)]) hs2.2.2⟩⟩
            · rw [hw_4, up_n (by omega), hLF.1 c z a b e (by omega)]; exact hf c z e (by omega)
            · rw [hw_4, up_idx _ _ _ _ (by decide), hLF.1 73 1 (by decide) (by decide) (by decide) (Or.inr (by decide))]; exact e1
            · have h1 : mxL (lfn (mWt w) 0 s0 (w1 115)) g.toNat ≤ mxL (lfn (mWt w) 0 v (w1 115)) g.toNat ∧ (mxL (lfn (mWt w) 0 s0 (w1 115)) g.toNat = mxL (lfn (mWt w) 0 v (w1 115)) g.toNat → s0 = v ∨ lxn s0 v) := hs1.2 v hv2
              rw [hMe s0 hs1.1, hMe v hv2] at h1
              exact h1
            · have h9 := hMe s0 hs1.1
              have h8 : q_3_w 73 77 = mxL (lfn (mWt w) 0 s0 (w1 115)) g.toNat := hs2.1
              rw [k77, h8, h9]
          · skip
            refine zA_aload_n dX12_even_36 rfl ?_
            refine zA_getR (n := 115) dX12_even_37 fX12_154 c73 rfl ?_
            refine zA_iload_n dX12_even_40 rfl ?_
            refine zA_iconst dX12_even_41 ?_
            refine zA_iastore dX12_even_42 ⟨by decide, by decide⟩ c115 (by first | assumption | omega) (by first | assumption | omega) (by decide) ?_
            refine zA_namew (fun w_5 hw_5 => ?_)
            refine zA_range (fun hr => ?_)
            replace hw_5 : w_5 = up w1 115 x 0 := hw_5
            refine zA_iinc (lo1 := [zR 73, zI g, zI (x + 1)]) dX12_even_43 rfl (by decide) rfl rfl ?_
            refine zA_goto (tgt := 31) dX12_even_46 (by decide) ?_
            exact ih31 (x + 1) _ (by omega) (by omega) (fun c z a b => by rw [hw_5, up_cell _ _ _ _ a]; exact hf c z a b) (by rw [hw_5, up_cell _ _ _ _ (by decide)]; exact e1) (by rw [hw_5, up_cell _ _ _ _ (by decide)]; exact e77) (fun z a b => by
                    rw [hw_5]
                    by_cases q : z = x
                    · rw [q, up_same]
                    · rw [up_idx _ _ _ _ q]; exact hz z a (by omega)) (by omega)
      exact L31 _ 0 _ (by omega) (by omega) (fun c z a b => by rw [hw_2, up_n (by omega), hw_1, up_n (by omega)]) (by rw [hw_2, up_idx _ _ _ _ (by decide), hw_1, up_same]) (by rw [hw_2, up_same]) (fun z a b => by omega) (Nat.lt_succ_self _)
    · skip
      replace c19 := zite_eq c19
      refine zA_iconst dX12_even_22 ?_
      refine zA_iret dX12_even_23 rfl ?_
      exact ⟨rfl, Or.inl ⟨by omega, rfl, hw_1⟩⟩

