/-! THE TWO SIDES: one world holds both; what is alike in it -/
def sClb (n : Nat) (nc : Int) (lv dy wt lg lv' dy' wt' lg' : Int → Int) (k : Int) : Prop :=
  (0 ≤ k ∧ k ≤ 50) ∧ (∀ r : Int, 0 ≤ r → r < 20 → lv' r = lv r ∧ 0 ≤ lv r ∧ lv r ≤ 9999 + 200 * (n : Int)) ∧ (∀ x : Int, 0 ≤ x → x < 360 → dy' x = dy x ∧ 0 ≤ dy x ∧ dy x < 1024) ∧ (∀ c d : Int, nc ≤ c → c < 12 → 0 ≤ d → d < 30 → dy (c * 30 + d) = 0) ∧ (∀ x : Int, 0 ≤ x → x < 7 → wt' x = wt x ∧ -(n : Int) ≤ wt x ∧ wt x ≤ (n : Int)) ∧
  ∀ i : Int, 0 ≤ i → i < k → (0 ≤ lg i ∧ lg i < 72000) ∧ lg i / 10 / 20 / 30 < nc ∧ lg' (4 * i) = lg i % 10 ∧ lg' (4 * i + 1) = lg i / 10 / 20 / 30 ∧ lg' (4 * i + 2) = lg i / 10 % 20 ∧ lg' (4 * i + 3) = lg i / 10 / 20 % 30
theorem sClb_m {n n2 : Nat} (hn : n ≤ n2) {nc : Int} {lv dy wt lg lv' dy' wt' lg' : Int → Int} {k : Int} (h : sClb n nc lv dy wt lg lv' dy' wt' lg' k) : sClb n2 nc lv dy wt lg lv' dy' wt' lg' k := by
  obtain ⟨h1, h2, h3, h4, h5, h6⟩ := h
  refine ⟨h1, fun r a b => ?_, h3, h4, fun x a b => ?_, h6⟩
  · obtain ⟨q1, q2, q3⟩ := h2 r a b; exact ⟨q1, q2, by omega⟩
  · obtain ⟨q1, q2, q3⟩ := h5 x a b; exact ⟨q1, by omega, by omega⟩
def sTape (w : zW) : Prop := (0 ≤ w 0 1 ∧ w 0 1 ≤ 600) ∧ w 73 12 = w 0 1 ∧ (∀ i : Int, i < w 0 1 → w 84 i = w 1 i) ∧ ∀ i : Int, 0 ≤ i → i < w 0 1 → 0 ≤ w 1 i
theorem sTape_k {w w' : zW} (h : sTape w) (k : ∀ (c : Nat) (x : Int), ((c = 0 ∧ x = 1) ∨ (c = 73 ∧ x = 12) ∨ c = 1 ∨ c = 84) → w' c x = w c x) : sTape w' := by
  have e0 : w' 0 1 = w 0 1 := k 0 1 (by omega)
  have e1 : w' 73 12 = w 73 12 := k 73 12 (by omega)
  have g0 : w' 1 = w 1 := funext fun x => k 1 x (by omega)
  have g1 : w' 84 = w 84 := funext fun x => k 84 x (by omega)
  unfold sTape at h ⊢
  simp only [e0, e1, g0, g1]
  exact h
def sMis (w : zW) : Prop := w 73 21 = w 0 2 ∧ ∀ j : Nat, j < 5 → w 74 (j : Int) = ((1000 + j : Nat) : Int)
theorem sMis_k {w w' : zW} (h : sMis w) (k : ∀ (c : Nat) (x : Int), ((c = 0 ∧ x = 2) ∨ (c = 73 ∧ x = 21) ∨ c = 74) → w' c x = w c x) : sMis w' := by
  have e0 : w' 0 2 = w 0 2 := k 0 2 (by omega)
  have e1 : w' 73 21 = w 73 21 := k 73 21 (by omega)
  have g0 : w' 74 = w 74 := funext fun x => k 74 x (by omega)
  unfold sMis at h ⊢
  simp only [e0, e1, g0]
  exact h
def sPlan (t : Nat) (w : zW) : Prop := (w 16 15 = 0 ∧ w 16 16 = 0 ∧ (0 ≤ w 16 12 ∧ w 16 12 ≤ 8) ∧ w 73 26 = -1 ∧ w 73 76 = -1) ∨ (w 16 15 = 1 ∧ (0 ≤ w 16 12 ∧ w 16 12 ≤ 8) ∧ w 73 26 = w 16 12 ∧ w 73 28 = w 16 13 ∧ (∀ i : Int, 0 ≤ i → i < w 16 12 → (w 87 i = w 25 i ∧ w 88 i = w 26 i) ∧ (0 ≤ w 25 i ∧ w 25 i < w t 7) ∧ 0 ≤ w 26 i ∧ w 26 i + w (t + 4) (w 25 i * 6 + 1) ≤ 30) ∧ ((w 16 16 = 0 ∧ w 73 76 = -1) ∨ (w 16 16 = 1 ∧ w 73 76 = w 16 12 ∧ ∀ i : Int, 0 ≤ i → i < w 16 12 → w 113 i = w 27 i)))
theorem sPlan_k {t : Nat} {w w' : zW} (h : sPlan t w) (k : ∀ (c : Nat) (x : Int), ((c = 16 ∧ x = 12) ∨ (c = 16 ∧ x = 13) ∨ (c = 16 ∧ x = 15) ∨ (c = 16 ∧ x = 16) ∨ (c = 73 ∧ x = 26) ∨ (c = 73 ∧ x = 28) ∨ (c = 73 ∧ x = 76) ∨ (c = t ∧ x = 7) ∨ c = 25 ∨ c = 26 ∨ c = 27 ∨ c = 87 ∨ c = 88 ∨ c = 113 ∨ c = t + 4) → w' c x = w c x) : sPlan t w' := by
  have e0 : w' 16 12 = w 16 12 := k 16 12 (by omega)
  have e1 : w' 16 13 = w 16 13 := k 16 13 (by omega)
  have e2 : w' 16 15 = w 16 15 := k 16 15 (by omega)
  have e3 : w' 16 16 = w 16 16 := k 16 16 (by omega)
  have e4 : w' 73 26 = w 73 26 := k 73 26 (by omega)
  have e5 : w' 73 28 = w 73 28 := k 73 28 (by omega)
  have e6 : w' 73 76 = w 73 76 := k 73 76 (by omega)
  have e7 : w' t 7 = w t 7 := k t 7 (by omega)
  have g0 : w' 25 = w 25 := funext fun x => k 25 x (by omega)
  have g1 : w' 26 = w 26 := funext fun x => k 26 x (by omega)
  have g2 : w' 27 = w 27 := funext fun x => k 27 x (by omega)
  have g3 : w' 87 = w 87 := funext fun x => k 87 x (by omega)
  have g4 : w' 88 = w 88 := funext fun x => k 88 x (by omega)
  have g5 : w' 113 = w 113 := funext fun x => k 113 x (by omega)
  have g6 : w' (t + 4) = w (t + 4) := funext fun x => k (t + 4) x (by omega)
  unfold sPlan at h ⊢
  simp only [e0, e1, e2, e3, e4, e5, e6, e7, g0, g1, g2, g3, g4, g5, g6]
  exact h
def sStm (w : zW) : Prop := ∀ o : Int, 0 ≤ o → o < 30 → w 120 o = w 28 o ∧ 0 ≤ w 28 o ∧ w 28 o ≤ 100
theorem sStm_k {w w' : zW} (h : sStm w) (k : ∀ (c : Nat) (x : Int), (c = 28 ∨ c = 120) → w' c x = w c x) : sStm w' := by
  have g0 : w' 28 = w 28 := funext fun x => k 28 x (by omega)
  have g1 : w' 120 = w 120 := funext fun x => k 120 x (by omega)
  unfold sStm at h ⊢
  simp only [g0, g1]
  exact h
def sPb (w : zW) : Prop := (∀ c : Int, 0 ≤ c → c < 12 → w 89 c = w 32 c ∧ w 90 c = w 33 c) ∧ (∀ x : Int, w 91 x = w 30 x ∧ w 92 x = w 31 x) ∧ okPb w
theorem sPb_k {w w' : zW} (h : sPb w) (k : ∀ (c : Nat) (x : Int), (c = 30 ∨ c = 31 ∨ c = 32 ∨ c = 33 ∨ c = 89 ∨ c = 90 ∨ c = 91 ∨ c = 92) → w' c x = w c x) : sPb w' := by
  have g0 : w' 30 = w 30 := funext fun x => k 30 x (by omega)
  have g1 : w' 31 = w 31 := funext fun x => k 31 x (by omega)
  have g2 : w' 32 = w 32 := funext fun x => k 32 x (by omega)
  have g3 : w' 33 = w 33 := funext fun x => k 33 x (by omega)
  have g4 : w' 89 = w 89 := funext fun x => k 89 x (by omega)
  have g5 : w' 90 = w 90 := funext fun x => k 90 x (by omega)
  have g6 : w' 91 = w 91 := funext fun x => k 91 x (by omega)
  have g7 : w' 92 = w 92 := funext fun x => k 92 x (by omega)
  unfold sPb okPb at h ⊢
  simp only [g0, g1, g2, g3, g4, g5, g6, g7]
  exact h
def sTr (w : zW) : Prop := ((w 34 8 = 0 ∧ w 73 39 = 0) ∨ ((w 34 8 = 1 ∨ w 34 8 = 2) ∧ (2 ≤ w 34 4 ∧ w 34 4 ≤ 14) ∧ ((0 ≤ w 34 5 ∧ w 34 5 ≤ 99) ∧ 0 ≤ w 34 6 ∧ w 34 6 ≤ 99) ∧ w 73 39 = w 34 4 ∧ mKd w = w 34 8 ∧ (w 34 8 = 1 → w 73 40 = w 34 5 ∧ w 73 41 = w 34 6) ∧ lOk (mF w) (w 35) (w 34 9) ((2 ^ (w 34 4).toNat : Nat) : Int) ∧ (w 34 7 = 0 ∨ (w 34 7 = 1 ∧ qst (mF w) (w 34 8) (w 34 4) (w 34 10) (w 34 11) (w 34 12))))) ∧ ((0 ≤ w 73 40 ∧ w 73 40 ≤ 99) ∧ 0 ≤ w 73 41 ∧ w 73 41 ≤ 99) ∧ ∀ c : Int, 0 ≤ c → w 93 c = 0 ∨ w 93 c = 1
theorem sTr_k {w w' : zW} (h : sTr w) (k : ∀ (c : Nat) (x : Int), ((c = 34 ∧ x = 4) ∨ (c = 34 ∧ x = 5) ∨ (c = 34 ∧ x = 6) ∨ (c = 34 ∧ x = 7) ∨ (c = 34 ∧ x = 8) ∨ (c = 34 ∧ x = 9) ∨ (c = 34 ∧ x = 10) ∨ (c = 34 ∧ x = 11) ∨ (c = 34 ∧ x = 12) ∨ (c = 73 ∧ x = 39) ∨ (c = 73 ∧ x = 40) ∨ (c = 73 ∧ x = 41) ∨ (c = 73 ∧ x = 42) ∨ c = 35 ∨ c = 93) → w' c x = w c x) : sTr w' := by
  have e0 : w' 34 4 = w 34 4 := k 34 4 (by omega)
  have e1 : w' 34 5 = w 34 5 := k 34 5 (by omega)
  have e2 : w' 34 6 = w 34 6 := k 34 6 (by omega)
  have e3 : w' 34 7 = w 34 7 := k 34 7 (by omega)
  have e4 : w' 34 8 = w 34 8 := k 34 8 (by omega)
  have e5 : w' 34 9 = w 34 9 := k 34 9 (by omega)
  have e6 : w' 34 10 = w 34 10 := k 34 10 (by omega)
  have e7 : w' 34 11 = w 34 11 := k 34 11 (by omega)
  have e8 : w' 34 12 = w 34 12 := k 34 12 (by omega)
  have e9 : w' 73 39 = w 73 39 := k 73 39 (by omega)
  have e10 : w' 73 40 = w 73 40 := k 73 40 (by omega)
  have e11 : w' 73 41 = w 73 41 := k 73 41 (by omega)
  have e12 : w' 73 42 = w 73 42 := k 73 42 (by omega)
  have g0 : w' 35 = w 35 := funext fun x => k 35 x (by omega)
  have g1 : w' 93 = w 93 := funext fun x => k 93 x (by omega)
  unfold sTr mKd mF at h ⊢
  simp only [e0, e1, e2, e3, e4, e5, e6, e7, e8, e9, e10, e11, e12, g0, g1]
  exact h
def sGe (w : zW) : Prop := w 73 45 = w 39 1 ∧ (0 ≤ w 39 1 ∧ w 39 1 ≤ 10) ∧ ∀ i : Int, 0 ≤ i → i < w 39 1 → w 96 i = w 40 i ∧ 1 ≤ w 40 i ∧ w 40 i ≤ 9999
theorem sGe_k {w w' : zW} (h : sGe w) (k : ∀ (c : Nat) (x : Int), ((c = 39 ∧ x = 1) ∨ (c = 73 ∧ x = 45) ∨ c = 40 ∨ c = 96) → w' c x = w c x) : sGe w' := by
  have e0 : w' 39 1 = w 39 1 := k 39 1 (by omega)
  have e1 : w' 73 45 = w 73 45 := k 73 45 (by omega)
  have g0 : w' 40 = w 40 := funext fun x => k 40 x (by omega)
  have g1 : w' 96 = w 96 := funext fun x => k 96 x (by omega)
  unfold sGe at h ⊢
  simp only [e0, e1, g0, g1]
  exact h
def sClm (n t : Nat) (w : zW) : Prop := (w 73 44 = w 44 1 ∧ w 73 46 = w 44 4 ∧ w 73 54 = w 44 6) ∧ (0 ≤ w 44 1 ∧ w 44 1 ≤ 20) ∧ sClb n (w t 5) (w 45) (w 46) (w 47) (w 48) (w 95) (w 99) (w 98) (w 100) (w 44 6)
theorem sClm_k {n t : Nat} {w w' : zW} (h : sClm n t w) (k : ∀ (c : Nat) (x : Int), ((c = 44 ∧ x = 1) ∨ (c = 44 ∧ x = 4) ∨ (c = 44 ∧ x = 6) ∨ (c = 73 ∧ x = 44) ∨ (c = 73 ∧ x = 46) ∨ (c = 73 ∧ x = 54) ∨ (c = t ∧ x = 5) ∨ c = 45 ∨ c = 46 ∨ c = 47 ∨ c = 48 ∨ c = 95 ∨ c = 98 ∨ c = 99 ∨ c = 100) → w' c x = w c x) : sClm n t w' := by
  have e0 : w' 44 1 = w 44 1 := k 44 1 (by omega)
  have e1 : w' 44 4 = w 44 4 := k 44 4 (by omega)
  have e2 : w' 44 6 = w 44 6 := k 44 6 (by omega)
  have e3 : w' 73 44 = w 73 44 := k 73 44 (by omega)
  have e4 : w' 73 46 = w 73 46 := k 73 46 (by omega)
  have e5 : w' 73 54 = w 73 54 := k 73 54 (by omega)
  have e6 : w' t 5 = w t 5 := k t 5 (by omega)
  have g0 : w' 45 = w 45 := funext fun x => k 45 x (by omega)
  have g1 : w' 46 = w 46 := funext fun x => k 46 x (by omega)
  have g2 : w' 47 = w 47 := funext fun x => k 47 x (by omega)
  have g3 : w' 48 = w 48 := funext fun x => k 48 x (by omega)
  have g4 : w' 95 = w 95 := funext fun x => k 95 x (by omega)
  have g5 : w' 98 = w 98 := funext fun x => k 98 x (by omega)
  have g6 : w' 99 = w 99 := funext fun x => k 99 x (by omega)
  have g7 : w' 100 = w 100 := funext fun x => k 100 x (by omega)
  unfold sClm at h ⊢
  simp only [e0, e1, e2, e3, e4, e5, e6, g0, g1, g2, g3, g4, g5, g6, g7]
  exact h
def sImg (n t : Nat) (w : zW) : Prop := (w 0 13 = 0 ∧ w 73 55 = 0) ∨ (w 0 13 = 1 ∧ w 73 55 = 1 ∧ (w 73 56 = w 49 1 ∧ w 73 57 = w 49 4 ∧ w 73 58 = w 49 6) ∧ (0 ≤ w 49 1 ∧ w 49 1 ≤ 20) ∧ sClb n (w t 5) (w 50) (w 51) (w 52) (w 53) (w 101) (w 102) (w 103) (w 104) (w 49 6))
theorem sImg_k {n t : Nat} {w w' : zW} (h : sImg n t w) (k : ∀ (c : Nat) (x : Int), ((c = 0 ∧ x = 13) ∨ (c = 73 ∧ x = 55) ∨ (c = 73 ∧ x = 56) ∨ (c = 73 ∧ x = 57) ∨ (c = 73 ∧ x = 58) ∨ (c = 49 ∧ x = 1) ∨ (c = 49 ∧ x = 4) ∨ (c = 49 ∧ x = 6) ∨ (c = t ∧ x = 5) ∨ c = 50 ∨ c = 51 ∨ c = 52 ∨ c = 53 ∨ c = 101 ∨ c = 102 ∨ c = 103 ∨ c = 104) → w' c x = w c x) : sImg n t w' := by
  have e0 : w' 0 13 = w 0 13 := k 0 13 (by omega)
  have e1 : w' 73 55 = w 73 55 := k 73 55 (by omega)
  have e2 : w' 73 56 = w 73 56 := k 73 56 (by omega)
  have e3 : w' 73 57 = w 73 57 := k 73 57 (by omega)
  have e4 : w' 73 58 = w 73 58 := k 73 58 (by omega)
  have e5 : w' 49 1 = w 49 1 := k 49 1 (by omega)
  have e6 : w' 49 4 = w 49 4 := k 49 4 (by omega)
  have e7 : w' 49 6 = w 49 6 := k 49 6 (by omega)
  have e8 : w' t 5 = w t 5 := k t 5 (by omega)
  have g0 : w' 50 = w 50 := funext fun x => k 50 x (by omega)
  have g1 : w' 51 = w 51 := funext fun x => k 51 x (by omega)
  have g2 : w' 52 = w 52 := funext fun x => k 52 x (by omega)
  have g3 : w' 53 = w 53 := funext fun x => k 53 x (by omega)
  have g4 : w' 101 = w 101 := funext fun x => k 101 x (by omega)
  have g5 : w' 102 = w 102 := funext fun x => k 102 x (by omega)
  have g6 : w' 103 = w 103 := funext fun x => k 103 x (by omega)
  have g7 : w' 104 = w 104 := funext fun x => k 104 x (by omega)
  unfold sImg at h ⊢
  simp only [e0, e1, e2, e3, e4, e5, e6, e7, e8, g0, g1, g2, g3, g4, g5, g6, g7]
  exact h
def sIr (w : zW) : Prop := (∀ c : Int, 0 ≤ c → c < 12 → (w 105 c = w 59 c ∧ 0 ≤ w 59 c ∧ w 59 c ≤ 8) ∧ w 107 c = w 60 c ∧ 0 ≤ w 60 c ∧ w 60 c ≤ 9999) ∧ okIron w ∧ ∀ k : Int, 0 ≤ k → k < 96 → w 106 (4 * k) = w 55 k ∧ w 106 (4 * k + 1) = w 56 k ∧ w 106 (4 * k + 2) = w 57 k ∧ w 106 (4 * k + 3) = w 58 k
theorem sIr_k {w w' : zW} (h : sIr w) (k : ∀ (c : Nat) (x : Int), (c = 55 ∨ c = 56 ∨ c = 57 ∨ c = 58 ∨ c = 59 ∨ c = 60 ∨ c = 105 ∨ c = 106 ∨ c = 107) → w' c x = w c x) : sIr w' := by
  have g0 : w' 55 = w 55 := funext fun x => k 55 x (by omega)
  have g1 : w' 56 = w 56 := funext fun x => k 56 x (by omega)
  have g2 : w' 57 = w 57 := funext fun x => k 57 x (by omega)
  have g3 : w' 58 = w 58 := funext fun x => k 58 x (by omega)
  have g4 : w' 59 = w 59 := funext fun x => k 59 x (by omega)
  have g5 : w' 60 = w 60 := funext fun x => k 60 x (by omega)
  have g6 : w' 105 = w 105 := funext fun x => k 105 x (by omega)
  have g7 : w' 106 = w 106 := funext fun x => k 106 x (by omega)
  have g8 : w' 107 = w 107 := funext fun x => k 107 x (by omega)
  unfold sIr okIron at h ⊢
  simp only [g0, g1, g2, g3, g4, g5, g6, g7, g8]
  exact h
def sOr (w : zW) : Prop := (∀ c : Int, 0 ≤ c → c < 12 → (w 109 c = w 63 c ∧ w 110 c = w 64 c) ∧ (0 ≤ w 63 c ∧ w 63 c ≤ 999) ∧ 1 ≤ w 64 c ∧ w 64 c ≤ 99) ∧ w 73 71 = w 62 3 ∧ (0 ≤ w 62 3 ∧ w 62 3 ≤ 9) ∧ ∀ i : Int, 0 ≤ i → i < w 62 3 → w 111 i = w 65 i
theorem sOr_k {w w' : zW} (h : sOr w) (k : ∀ (c : Nat) (x : Int), ((c = 62 ∧ x = 3) ∨ (c = 73 ∧ x = 71) ∨ c = 63 ∨ c = 64 ∨ c = 65 ∨ c = 109 ∨ c = 110 ∨ c = 111) → w' c x = w c x) : sOr w' := by
  have e0 : w' 62 3 = w 62 3 := k 62 3 (by omega)
  have e1 : w' 73 71 = w 73 71 := k 73 71 (by omega)
  have g0 : w' 63 = w 63 := funext fun x => k 63 x (by omega)
  have g1 : w' 64 = w 64 := funext fun x => k 64 x (by omega)
  have g2 : w' 65 = w 65 := funext fun x => k 65 x (by omega)
  have g3 : w' 109 = w 109 := funext fun x => k 109 x (by omega)
  have g4 : w' 110 = w 110 := funext fun x => k 110 x (by omega)
  have g5 : w' 111 = w 111 := funext fun x => k 111 x (by omega)
  unfold sOr at h ⊢
  simp only [e0, e1, g0, g1, g2, g3, g4, g5]
  exact h
def sOw (w : zW) : Prop := (∀ o : Int, 0 ≤ o → o < 6 → w 116 o = w 70 o ∧ w 118 o = w 72 o ∧ 0 ≤ w 70 o ∧ w 70 o ≤ 9999) ∧ ∀ x : Int, 0 ≤ x → x < 72 → w 117 x = w 71 x ∧ 0 ≤ w 71 x ∧ w 71 x ≤ 100
theorem sOw_k {w w' : zW} (h : sOw w) (k : ∀ (c : Nat) (x : Int), (c = 70 ∨ c = 71 ∨ c = 72 ∨ c = 116 ∨ c = 117 ∨ c = 118) → w' c x = w c x) : sOw w' := by
  have g0 : w' 70 = w 70 := funext fun x => k 70 x (by omega)
  have g1 : w' 71 = w 71 := funext fun x => k 71 x (by omega)
  have g2 : w' 72 = w 72 := funext fun x => k 72 x (by omega)
  have g3 : w' 116 = w 116 := funext fun x => k 116 x (by omega)
  have g4 : w' 117 = w 117 := funext fun x => k 117 x (by omega)
  have g5 : w' 118 = w 118 := funext fun x => k 118 x (by omega)
  unfold sOw at h ⊢
  simp only [g0, g1, g2, g3, g4, g5]
  exact h
def sLd (w : zW) : Prop := ∀ x : Int, 0 ≤ x → x < 4 → w 23 x = 0
theorem sLd_k {w w' : zW} (h : sLd w) (k : ∀ (c : Nat) (x : Int), (c = 23) → w' c x = w c x) : sLd w' := by
  have g0 : w' 23 = w 23 := funext fun x => k 23 x (by omega)
  unfold sLd at h ⊢
  simp only [g0]
  exact h
/-- the two sides hold alike -/
def zSim (n t dr tx : Nat) (w : zW) : Prop := ((t = 4 ∧ dr = 10) ∨ (t = 10 ∧ dr = 4)) ∧ sTape w ∧ sMis w ∧ sYd t w ∧ sPlan t w ∧ sStm w ∧ sPb w ∧ sTr w ∧ sGe w ∧ sClm n t w ∧ sImg n t w ∧ sIr w ∧ sOr w ∧ sOw w ∧ sLd w
theorem zSim.ht {n t dr tx : Nat} {w : zW} (h : zSim n t dr tx w) : (t = 4 ∧ dr = 10) ∨ (t = 10 ∧ dr = 4) := h.1
theorem zSim.ka {n t dr tx : Nat} {w : zW} (h : zSim n t dr tx w) : sTape w := h.2.1
theorem zSim.kf {n t dr tx : Nat} {w : zW} (h : zSim n t dr tx w) : sMis w := h.2.2.1
theorem zSim.ky {n t dr tx : Nat} {w : zW} (h : zSim n t dr tx w) : sYd t w := h.2.2.2.1
theorem zSim.kp {n t dr tx : Nat} {w : zW} (h : zSim n t dr tx w) : sPlan t w := h.2.2.2.2.1
theorem zSim.kc {n t dr tx : Nat} {w : zW} (h : zSim n t dr tx w) : sStm w := h.2.2.2.2.2.1
theorem zSim.kb {n t dr tx : Nat} {w : zW} (h : zSim n t dr tx w) : sPb w := h.2.2.2.2.2.2.1
theorem zSim.kT {n t dr tx : Nat} {w : zW} (h : zSim n t dr tx w) : sTr w := h.2.2.2.2.2.2.2.1
theorem zSim.kg {n t dr tx : Nat} {w : zW} (h : zSim n t dr tx w) : sGe w := h.2.2.2.2.2.2.2.2.1
theorem zSim.kl {n t dr tx : Nat} {w : zW} (h : zSim n t dr tx w) : sClm n t w := h.2.2.2.2.2.2.2.2.2.1
theorem zSim.ki {n t dr tx : Nat} {w : zW} (h : zSim n t dr tx w) : sImg n t w := h.2.2.2.2.2.2.2.2.2.2.1
theorem zSim.kr {n t dr tx : Nat} {w : zW} (h : zSim n t dr tx w) : sIr w := h.2.2.2.2.2.2.2.2.2.2.2.1
theorem zSim.ko {n t dr tx : Nat} {w : zW} (h : zSim n t dr tx w) : sOr w := h.2.2.2.2.2.2.2.2.2.2.2.2.1
theorem zSim.kO {n t dr tx : Nat} {w : zW} (h : zSim n t dr tx w) : sOw w := h.2.2.2.2.2.2.2.2.2.2.2.2.2.1
theorem zSim.kL {n t dr tx : Nat} {w : zW} (h : zSim n t dr tx w) : sLd w := h.2.2.2.2.2.2.2.2.2.2.2.2.2.2
theorem sClm_m {n n2 t : Nat} (hn : n ≤ n2) {w : zW} (h : sClm n t w) : sClm n2 t w := ⟨h.1, h.2.1, sClb_m hn h.2.2⟩
theorem sImg_m {n n2 t : Nat} (hn : n ≤ n2) {w : zW} (h : sImg n t w) : sImg n2 t w := h.imp id (fun h => ⟨h.1, h.2.1, h.2.2.1, h.2.2.2.1, sClb_m hn h.2.2.2.2⟩)
/-- what both sides are told by -/
def sFp (t c : Nat) (x : Int) : Prop := (c = 0 ∧ (x = 1 ∨ x = 2 ∨ x = 13)) ∨ (c = 16 ∧ (x = 12 ∨ x = 13 ∨ x = 15 ∨ x = 16)) ∨ (c = 34 ∧ (x = 4 ∨ x = 5 ∨ x = 6 ∨ x = 7 ∨ x = 8 ∨ x = 9 ∨ x = 10 ∨ x = 11 ∨ x = 12)) ∨ (c = 39 ∧ (x = 1)) ∨ (c = 44 ∧ (x = 1 ∨ x = 4 ∨ x = 6)) ∨ (c = 49 ∧ (x = 1 ∨ x = 4 ∨ x = 6)) ∨ (c = 62 ∧ (x = 3)) ∨ (c = 73 ∧ (x = 12 ∨ x = 21 ∨ x = 26 ∨ x = 28 ∨ x = 39 ∨ x = 40 ∨ x = 41 ∨ x = 42 ∨ x = 44 ∨ x = 45 ∨ x = 46 ∨ x = 54 ∨ x = 55 ∨ x = 56 ∨ x = 57 ∨ x = 58 ∨ x = 71 ∨ x = 76)) ∨ c = 1 ∨ c = 23 ∨ c = 25 ∨ c = 26 ∨ c = 27 ∨ c = 28 ∨ c = 30 ∨ c = 31 ∨ c = 32 ∨ c = 33 ∨ c = 35 ∨ c = 40 ∨ c = 45 ∨ c = 46 ∨ c = 47 ∨ c = 48 ∨ c = 50 ∨ c = 51 ∨ c = 52 ∨ c = 53 ∨ c = 55 ∨ c = 56 ∨ c = 57 ∨ c = 58 ∨ c = 59 ∨ c = 60 ∨ c = 63 ∨ c = 64 ∨ c = 65 ∨ c = 70 ∨ c = 71 ∨ c = 72 ∨ c = 74 ∨ c = 84 ∨ c = 87 ∨ c = 88 ∨ c = 89 ∨ c = 90 ∨ c = 91 ∨ c = 92 ∨ c = 93 ∨ c = 95 ∨ c = 96 ∨ c = 98 ∨ c = 99 ∨ c = 100 ∨ c = 101 ∨ c = 102 ∨ c = 103 ∨ c = 104 ∨ c = 105 ∨ c = 106 ∨ c = 107 ∨ c = 109 ∨ c = 110 ∨ c = 111 ∨ c = 113 ∨ c = 116 ∨ c = 117 ∨ c = 118 ∨ c = 120 ∨ (t ≤ c ∧ c ≤ t + 5) ∨ (75 ≤ c ∧ c ≤ 83)
theorem sTape_f {t c : Nat} {x : Int} (h : (c = 0 ∧ x = 1) ∨ (c = 73 ∧ x = 12) ∨ c = 1 ∨ c = 84) : sFp t c x := by
  unfold sFp
  rcases h with ⟨rfl, rfl⟩ | ⟨rfl, rfl⟩ | rfl | rfl <;> first | simp | omega
theorem sMis_f {t c : Nat} {x : Int} (h : (c = 0 ∧ x = 2) ∨ (c = 73 ∧ x = 21) ∨ c = 74) : sFp t c x := by
  unfold sFp
  rcases h with ⟨rfl, rfl⟩ | ⟨rfl, rfl⟩ | rfl <;> first | simp | omega
theorem sPlan_f {t c : Nat} {x : Int} (h : (c = 16 ∧ x = 12) ∨ (c = 16 ∧ x = 13) ∨ (c = 16 ∧ x = 15) ∨ (c = 16 ∧ x = 16) ∨ (c = 73 ∧ x = 26) ∨ (c = 73 ∧ x = 28) ∨ (c = 73 ∧ x = 76) ∨ (c = t ∧ x = 7) ∨ c = 25 ∨ c = 26 ∨ c = 27 ∨ c = 87 ∨ c = 88 ∨ c = 113 ∨ c = t + 4) : sFp t c x := by
  unfold sFp
  rcases h with ⟨rfl, rfl⟩ | ⟨rfl, rfl⟩ | ⟨rfl, rfl⟩ | ⟨rfl, rfl⟩ | ⟨rfl, rfl⟩ | ⟨rfl, rfl⟩ | ⟨rfl, rfl⟩ | ⟨rfl, rfl⟩ | rfl | rfl | rfl | rfl | rfl | rfl | rfl <;> first | simp | omega
theorem sStm_f {t c : Nat} {x : Int} (h : c = 28 ∨ c = 120) : sFp t c x := by
  unfold sFp
  rcases h with rfl | rfl <;> first | simp | omega
theorem sPb_f {t c : Nat} {x : Int} (h : c = 30 ∨ c = 31 ∨ c = 32 ∨ c = 33 ∨ c = 89 ∨ c = 90 ∨ c = 91 ∨ c = 92) : sFp t c x := by
  unfold sFp
  rcases h with rfl | rfl | rfl | rfl | rfl | rfl | rfl | rfl <;> first | simp | omega
theorem sTr_f {t c : Nat} {x : Int} (h : (c = 34 ∧ x = 4) ∨ (c = 34 ∧ x = 5) ∨ (c = 34 ∧ x = 6) ∨ (c = 34 ∧ x = 7) ∨ (c = 34 ∧ x = 8) ∨ (c = 34 ∧ x = 9) ∨ (c = 34 ∧ x = 10) ∨ (c = 34 ∧ x = 11) ∨ (c = 34 ∧ x = 12) ∨ (c = 73 ∧ x = 39) ∨ (c = 73 ∧ x = 40) ∨ (c = 73 ∧ x = 41) ∨ (c = 73 ∧ x = 42) ∨ c = 35 ∨ c = 93) : sFp t c x := by
  unfold sFp
  rcases h with ⟨rfl, rfl⟩ | ⟨rfl, rfl⟩ | ⟨rfl, rfl⟩ | ⟨rfl, rfl⟩ | ⟨rfl, rfl⟩ | ⟨rfl, rfl⟩ | ⟨rfl, rfl⟩ | ⟨rfl, rfl⟩ | ⟨rfl, rfl⟩ | ⟨rfl, rfl⟩ | ⟨rfl, rfl⟩ | ⟨rfl, rfl⟩ | ⟨rfl, rfl⟩ | rfl | rfl <;> first | simp | omega
theorem sGe_f {t c : Nat} {x : Int} (h : (c = 39 ∧ x = 1) ∨ (c = 73 ∧ x = 45) ∨ c = 40 ∨ c = 96) : sFp t c x := by
  unfold sFp
  rcases h with ⟨rfl, rfl⟩ | ⟨rfl, rfl⟩ | rfl | rfl <;> first | simp | omega
theorem sClm_f {t c : Nat} {x : Int} (h : (c = 44 ∧ x = 1) ∨ (c = 44 ∧ x = 4) ∨ (c = 44 ∧ x = 6) ∨ (c = 73 ∧ x = 44) ∨ (c = 73 ∧ x = 46) ∨ (c = 73 ∧ x = 54) ∨ (c = t ∧ x = 5) ∨ c = 45 ∨ c = 46 ∨ c = 47 ∨ c = 48 ∨ c = 95 ∨ c = 98 ∨ c = 99 ∨ c = 100) : sFp t c x := by
  unfold sFp
  rcases h with ⟨rfl, rfl⟩ | ⟨rfl, rfl⟩ | ⟨rfl, rfl⟩ | ⟨rfl, rfl⟩ | ⟨rfl, rfl⟩ | ⟨rfl, rfl⟩ | ⟨rfl, rfl⟩ | rfl | rfl | rfl | rfl | rfl | rfl | rfl | rfl <;> first | simp | omega
theorem sImg_f {t c : Nat} {x : Int} (h : (c = 0 ∧ x = 13) ∨ (c = 73 ∧ x = 55) ∨ (c = 73 ∧ x = 56) ∨ (c = 73 ∧ x = 57) ∨ (c = 73 ∧ x = 58) ∨ (c = 49 ∧ x = 1) ∨ (c = 49 ∧ x = 4) ∨ (c = 49 ∧ x = 6) ∨ (c = t ∧ x = 5) ∨ c = 50 ∨ c = 51 ∨ c = 52 ∨ c = 53 ∨ c = 101 ∨ c = 102 ∨ c = 103 ∨ c = 104) : sFp t c x := by
  unfold sFp
  rcases h with ⟨rfl, rfl⟩ | ⟨rfl, rfl⟩ | ⟨rfl, rfl⟩ | ⟨rfl, rfl⟩ | ⟨rfl, rfl⟩ | ⟨rfl, rfl⟩ | ⟨rfl, rfl⟩ | ⟨rfl, rfl⟩ | ⟨rfl, rfl⟩ | rfl | rfl | rfl | rfl | rfl | rfl | rfl | rfl <;> first | simp | omega
theorem sIr_f {t c : Nat} {x : Int} (h : c = 55 ∨ c = 56 ∨ c = 57 ∨ c = 58 ∨ c = 59 ∨ c = 60 ∨ c = 105 ∨ c = 106 ∨ c = 107) : sFp t c x := by
  unfold sFp
  rcases h with rfl | rfl | rfl | rfl | rfl | rfl | rfl | rfl | rfl <;> first | simp | omega
theorem sOr_f {t c : Nat} {x : Int} (h : (c = 62 ∧ x = 3) ∨ (c = 73 ∧ x = 71) ∨ c = 63 ∨ c = 64 ∨ c = 65 ∨ c = 109 ∨ c = 110 ∨ c = 111) : sFp t c x := by
  unfold sFp
  rcases h with ⟨rfl, rfl⟩ | ⟨rfl, rfl⟩ | rfl | rfl | rfl | rfl | rfl | rfl <;> first | simp | omega
theorem sOw_f {t c : Nat} {x : Int} (h : c = 70 ∨ c = 71 ∨ c = 72 ∨ c = 116 ∨ c = 117 ∨ c = 118) : sFp t c x := by
  unfold sFp
  rcases h with rfl | rfl | rfl | rfl | rfl | rfl <;> first | simp | omega
theorem sLd_f {t c : Nat} {x : Int} (h : c = 23) : sFp t c x := by
  unfold sFp
  rcases h with rfl <;> first | simp | omega
theorem sYd_f {t c : Nat} {x : Int} (h : (t ≤ c ∧ c ≤ t + 5) ∨ (75 ≤ c ∧ c ≤ 83)) : sFp t c x := by
  unfold sFp
  simp only [h, or_true, true_or]
theorem zSim_k {n t dr tx tx' : Nat} {w w' : zW} (h : zSim n t dr tx w) (k : ∀ (c : Nat) (x : Int), sFp t c x → w' c x = w c x) : zSim (n + 1) t dr tx' w' :=
  ⟨h.ht, sTape_k h.ka (fun c x hc => k c x (sTape_f hc)),
    sMis_k h.kf (fun c x hc => k c x (sMis_f hc)),
    sYd_k h.ky (fun c x hc => k c x (sYd_f hc)),
    sPlan_k h.kp (fun c x hc => k c x (sPlan_f hc)),
    sStm_k h.kc (fun c x hc => k c x (sStm_f hc)),
    sPb_k h.kb (fun c x hc => k c x (sPb_f hc)),
    sTr_k h.kT (fun c x hc => k c x (sTr_f hc)),
    sGe_k h.kg (fun c x hc => k c x (sGe_f hc)),
    sClm_k (sClm_m (Nat.le_succ n) h.kl) (fun c x hc => k c x (sClm_f hc)),
    sImg_k (sImg_m (Nat.le_succ n) h.ki) (fun c x hc => k c x (sImg_f hc)),
    sIr_k h.kr (fun c x hc => k c x (sIr_f hc)),
    sOr_k h.ko (fun c x hc => k c x (sOr_f hc)),
    sOw_k h.kO (fun c x hc => k c x (sOw_f hc)),
    sLd_k h.kL (fun c x hc => k c x (sLd_f hc))⟩
