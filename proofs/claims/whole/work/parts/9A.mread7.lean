/-! the text of the reference: whole -/
def gP (n p : Int) (s : zP) : Prop := match s with
  | .inl q => p ≤ q ∧ q ≤ n
  | .inr _ => True
theorem gP_e {b : Int → Int} {n p q : Int} (h : p ≤ q ∧ q ≤ n) : gP n p (.inl (tkE b n q)) := by
  have h1 := tkS_b (b := b) h.2
  have h2 := tkE_b (b := b) h.2
  show p ≤ tkE b n q ∧ tkE b n q ≤ n
  omega
theorem gP_num {b : Int → Int} {n p lo hi : Int} {s : zP} (h : gP n p s) : gP n p (pNum b n lo hi s) := by
  cases s with
  | inr e => trivial
  | inl q =>
    show gP n p (if tkK b n q ≠ 2 then _ else if 4 < tkE b n q - tkS b n q ∨ tkV b n q < lo ∨ hi < tkV b n q then _ else _)
    repeat' split
    · trivial
    · trivial
    · exact gP_e h
theorem gP_word {b : Int → Int} {n p : Int} {k : Nat} {s : zP} (h : gP n p s) : gP n p (pWord b n k s) := by
  cases s with
  | inr e => trivial
  | inl q =>
    by_cases g : isW b n k q
    · rw [pWord_y g]; exact gP_e h
    · rw [pWord_n g]; trivial
theorem gP_sign {b : Int → Int} {n p : Int} {s : zP} (h : gP n p s) : gP n p (pSign b n s) := by
  cases s with
  | inr e => trivial
  | inl q =>
    by_cases g : tkK b n q = 3
    · rw [pSign_y g]; exact gP_e h
    · rw [pSign_n g]; trivial
theorem gP_chim {b : Int → Int} {n p nc un : Int} {s : zP} (h : gP n p s) : gP n p (pChim b n nc un s) := by
  cases s with
  | inr e => trivial
  | inl q =>
    show gP n p (if tkK b n q ≠ 2 then _ else if 4 < tkE b n q - tkS b n q then _ else if nc ≤ tkV b n q then _ else if tkV b n q = un then _ else _)
    repeat' split
    · trivial
    · trivial
    · trivial
    · trivial
    · exact gP_e h
theorem gP_till {b : Int → Int} {n p f : Int} {s : zP} (h : gP n p s) : gP n p (pTill b n f s) := by
  cases s with
  | inr e => trivial
  | inl q =>
    show gP n p (if tkK b n q ≠ 2 then _ else if 4 < tkE b n q - tkS b n q then _ else if tkV b n q < f then _ else if 29 < tkV b n q then _ else _)
    repeat' split
    · trivial
    · trivial
    · trivial
    · trivial
    · exact gP_e h
theorem gP_wnd1 {b : Int → Int} {n p : Int} {s : zP} {Y : zW} (h : gP n p s) : gP n p (wnd1 b n s Y) := by
  cases s with
  | inr e => trivial
  | inl q =>
    by_cases g : tkK b n q = 2 ∧ 30 ≤ Y 0 2
    · rw [wnd1_y g]; trivial
    · rw [wnd1_n g]; exact gP_num h
theorem gP_wndF {b : Int → Int} {n p : Int} : ∀ (k : Nat) (s : zP) (Y : zW), gP n p s → gP n p (wndF b n k s Y).1
  | 0, _, _, h => h
  | k + 1, s, Y, h => by
    obtain ⟨Y1, h1, -⟩ := wndF_s (b := b) (n := n) (k := k) (s := s) (Y := Y)
    have h2 := gP_wnd1 (b := b) (Y := Y) h
    rw [h1]
    cases hw : wnd1 b n s Y with
    | inr e => trivial
    | inl q =>
      rw [hw] at h2
      by_cases g : tkK b n q = 2
      · rw [cntW_y g]; exact gP_wndF k _ _ h2
      · rw [cntW_n g]; exact h2
theorem gP_cl {b : Int → Int} {n p : Int} {Y : zW} (h : p ≤ n) : gP n (tkE b n p) (clF b n p Y).1 := by
  have h0 : gP n (tkE b n p) (.inl (tkE b n p)) := ⟨Int.le_refl _, (tkE_b (b := b) h).2.1⟩
  rcases wh_b (b := b) (n := n) (p := p) with e | e | e | e | e | e
  · rw [(clF_0 e).1]; split
    · trivial
    · exact gP_sign (gP_num h0)
  · rw [(clF_1 e).1]; exact gP_sign (gP_wndF _ _ _ h0)
  · rw [(clF_2 e).1]; split
    · trivial
    · exact gP_sign (gP_num (gP_word (gP_till (gP_word (gP_num (gP_word (gP_num (gP_word (gP_num (gP_word (gP_chim h0)))))))))))
  · rw [(clF_3 e).1]; exact gP_sign (gP_num (gP_word (gP_chim (gP_chim h0))))
  · rw [(clF_4 e).1]; split
    · trivial
    · exact gP_sign (gP_till (gP_word (gP_num (gP_word (gP_chim h0)))))
  · rw [clF_5 e]; trivial
theorem cl_gt {b : Int → Int} {n p q : Int} {Y : zW} (h : p ≤ n) (h0 : tkK b n p ≠ 0) (e : (clF b n p Y).1 = .inl q) : p < q := by
  have h1 := gP_cl (b := b) (Y := Y) h
  rw [e] at h1
  have h2 := tkS_b (b := b) h
  have h3 := (tkE_b (b := b) h).2.2 h0
  have h4 : tkE b n p ≤ q := h1.1
  omega
def mT (w : zW) (Y : zW) : Prop := (w 75 0 = Y 0 0 ∧ w 76 0 = Y 0 1 ∧ w 77 0 = Y 0 2 ∧ w 78 0 = Y 0 3) ∧ (∀ c : Int, 0 ≤ c → c < Y 0 0 → w 79 c = Y 1 c) ∧ (∀ d : Int, 0 ≤ d → d < 30 → w 80 d = Y 2 d) ∧ (∀ i : Int, 0 ≤ i → i < 6 * Y 0 1 → w 81 i = Y 3 i) ∧ (∀ i : Int, 0 ≤ i → i < 144 → w 82 i = Y 4 i) ∧ ∀ i : Int, 0 ≤ i → i < 3 * Y 0 3 → w 83 i = Y 5 i
def fgQ (w w' : zW) : Prop := (∀ c x, c ≠ 89 → c ≠ 90 → c ≠ 98 → c ≠ 99 → c ≠ 105 → c ≠ 107 → c ≠ 109 → c ≠ 110 → c ≠ 117 → (c ≠ 73 ∨ (x ≠ 26 ∧ x ≠ 54 ∧ x ≠ 55 ∧ x ≠ 71 ∧ x ≠ 76)) → w' c x = w c x) ∧ (w' 73 26 = -1 ∧ w' 73 76 = -1 ∧ w' 73 71 = 0 ∧ w' 73 54 = 0 ∧ w' 73 55 = 0) ∧
  (∀ x : Int, 0 ≤ x → x < 12 → (w' 89 x = 0 ∧ w' 90 x = 0) ∧ (w' 105 x = 0 ∧ w' 107 x = 0) ∧ w' 109 x = 0 ∧ w' 110 x = 1) ∧ (∀ x : Int, 0 ≤ x → x < 360 → w' 99 x = 0) ∧ (∀ x : Int, 0 ≤ x → x < 7 → w' 98 x = 0) ∧ ∀ x : Int, 0 ≤ x → x < 72 → w' 117 x = 0
def mZ (w w' : zW) (y : Int) : Prop := (∀ c x, (c < 75 ∨ 78 < c) → c ≠ 80 → c ≠ 82 → w' c x = w c x) ∧ (∀ c x, 75 ≤ c → c ≤ 78 → x ≠ y → w' c x = w c x) ∧ (∀ c, 75 ≤ c → c ≤ 78 → w' c y = 0) ∧ (∀ x, (x < 30 * y ∨ 30 * y + 30 ≤ x) → w' 80 x = w 80 x) ∧ (∀ d : Int, 0 ≤ d → d < 30 → w' 80 (30 * y + d) = 13) ∧ (∀ x, (x < 144 * y ∨ 144 * y + 144 ≤ x) → w' 82 x = w 82 x) ∧ ∀ a c : Int, (0 ≤ a ∧ a < 12) → (0 ≤ c ∧ c < 12) → w' 82 (144 * y + 12 * a + c) = if a = c then 0 else 1
set_option maxRecDepth 100000 in
set_option maxHeartbeats 4000000 in
theorem m_clear {l : Launch} {t dr tx : Nat} {w : zW} {gr : Bool} {y : Int} (hy : y = 0 ∨ y = 1) : zSp l mX12_clear gr 2 0 0 [zR 73, zI y] (ZZ t dr tx) w (fun v' S' w' => v' = none ∧ S' = (ZZ t dr tx) ∧ mZ w w' y) zNo := by
  refine zA_intro ⟨plainFor_of_name (by decide +kernel), Or.inl (by decide +kernel)⟩ rfl (Nat.le_of_ble_eq_true rfl) ?_
  refine zA_range (fun hr => ?_)
  show zA l mX12_clear gr 2 0 0 (fun v' S' w' => v' = none ∧ S' = (ZZ t dr tx) ∧ mZ w w' y) zNo 0 [zR 73, zI y, .null, .null] [] (ZZ t dr tx) w
  refine zA_aload_n dX12_clear_0 rfl ?_
  refine zA_getR (n := 75) dX12_clear_1 fX12_25 c73 rfl ?_
  refine zA_iload_n dX12_clear_4 rfl ?_
  refine zA_iconst dX12_clear_5 ?_
  refine zA_iastore dX12_clear_6 ⟨by decide, by decide⟩ c75 (by first | assumption | omega) (by first | assumption | omega) (by decide) ?_
  refine zA_namew (fun w_1 hw_1 => ?_)
  refine zA_range (fun hr => ?_)
  replace hw_1 : w_1 = up w 75 y 0 := hw_1
  refine zA_aload_n dX12_clear_7 rfl ?_
  refine zA_getR (n := 76) dX12_clear_8 fX12_29 c73 rfl ?_
  refine zA_iload_n dX12_clear_11 rfl ?_
  refine zA_iconst dX12_clear_12 ?_
  refine zA_iastore dX12_clear_13 ⟨by decide, by decide⟩ c76 (by first | assumption | omega) (by first | assumption | omega) (by decide) ?_
  refine zA_namew (fun w_2 hw_2 => ?_)
  refine zA_range (fun hr => ?_)
  replace hw_2 : w_2 = up w_1 76 y 0 := hw_2
  refine zA_aload_n dX12_clear_14 rfl ?_
  refine zA_getR (n := 77) dX12_clear_15 fX12_32 c73 rfl ?_
  refine zA_iload_n dX12_clear_18 rfl ?_
  refine zA_iconst dX12_clear_19 ?_
  refine zA_iastore dX12_clear_20 ⟨by decide, by decide⟩ c77 (by first | assumption | omega) (by first | assumption | omega) (by decide) ?_
  refine zA_namew (fun w_3 hw_3 => ?_)
  refine zA_range (fun hr => ?_)
  replace hw_3 : w_3 = up w_2 77 y 0 := hw_3
  refine zA_aload_n dX12_clear_21 rfl ?_
  refine zA_getR (n := 78) dX12_clear_22 fX12_35 c73 rfl ?_
  refine zA_iload_n dX12_clear_25 rfl ?_
  refine zA_iconst dX12_clear_26 ?_
  refine zA_iastore dX12_clear_27 ⟨by decide, by decide⟩ c78 (by first | assumption | omega) (by first | assumption | omega) (by decide) ?_
  refine zA_namew (fun w_4 hw_4 => ?_)
  refine zA_range (fun hr => ?_)
  replace hw_4 : w_4 = up w_3 78 y 0 := hw_4
  refine zA_iconst dX12_clear_28 ?_
  refine zA_istore_n (lo1 := [zR 73, zI y, zI 0, .null]) dX12_clear_29 (by decide) rfl rfl ?_
  have L30 : ∀ (z30 : Nat) (x : Int) (w1 : zW) (x0 : 0 ≤ x) (x1 : x ≤ 30) (fA : ∀ c x, (c < 75 ∨ 78 < c) → c ≠ 80 → c ≠ 82 → w1 c x = w c x) (fC : ∀ c x, 75 ≤ c → c ≤ 78 → x ≠ y → w1 c x = w c x) (fZ : ∀ c, 75 ≤ c → c ≤ 78 → w1 c y = 0) (f80 : ∀ x, (x < 30 * y ∨ 30 * y + 30 ≤ x) → w1 80 x = w 80 x) (f82 : ∀ x, (x < 144 * y ∨ 144 * y + 144 ≤ x) → w1 82 x = w 82 x) (h80 : ∀ k : Int, 0 ≤ k → k < x → w1 80 (30 * y + k) = 13) (k82 : ∀ k, w1 82 k = w 82 k) (zm : (30 - x).toNat < z30), zA l mX12_clear gr 2 0 0 (fun v' S' w' => v' = none ∧ S' = (ZZ t dr tx) ∧ mZ w w' y) zNo 30 [zR 73, zI y, zI x, .null] [] (ZZ t dr tx) w1 := by
    intro z30
    induction z30 with
    | zero => intro x w1 x0 x1 fA fC fZ f80 f82 h80 k82 zm; exact absurd zm (Nat.not_lt_zero _)
    | succ z30 ih30 =>
      intro x w1 x0 x1 fA fC fZ f80 f82 h80 k82 zm
      refine zA_range (fun hr => ?_)
      refine zA_iload_n dX12_clear_30 rfl ?_
      refine zA_bipush dX12_clear_31 rfl ?_
      refine zA_icmp_ge (tgt := 55) dX12_clear_33 (by decide) (by first | assumption | exact hr _ _ | exact inR_mk (by omega) (by omega)) ⟨by decide, by decide⟩ (fun c33 => ?_) (fun c33 => ?_)
      · skip
        refine zA_iconst dX12_clear_55 ?_
        refine zA_istore_n (lo1 := [zR 73, zI y, zI 0, .null]) dX12_clear_56 (by decide) rfl rfl ?_
        have L57 : ∀ (z57 : Nat) (a : Int) (w1 : zW) (a0 : 0 ≤ a) (a1 : a ≤ 12) (fA : ∀ c x, (c < 75 ∨ 78 < c) → c ≠ 80 → c ≠ 82 → w1 c x = w c x) (fC : ∀ c x, 75 ≤ c → c ≤ 78 → x ≠ y → w1 c x = w c x) (fZ : ∀ c, 75 ≤ c → c ≤ 78 → w1 c y = 0) (f80 : ∀ x, (x < 30 * y ∨ 30 * y + 30 ≤ x) → w1 80 x = w 80 x) (f82 : ∀ x, (x < 144 * y ∨ 144 * y + 144 ≤ x) → w1 82 x = w 82 x) (h80 : ∀ k : Int, 0 ≤ k → k < 30 → w1 80 (30 * y + k) = 13) (h82 : ∀ g c : Int, (0 ≤ g ∧ g < a) → (0 ≤ c ∧ c < 12) → w1 82 (144 * y + 12 * g + c) = if g = c then 0 else 1) (zm : (12 - a).toNat < z57), zA l mX12_clear gr 2 0 0 (fun v' S' w' => v' = none ∧ S' = (ZZ t dr tx) ∧ mZ w w' y) zNo 57 [zR 73, zI y, zI a, .null] [] (ZZ t dr tx) w1 := by
          intro z57
          induction z57 with
          | zero => intro a w1 a0 a1 fA fC fZ f80 f82 h80 h82 zm; exact absurd zm (Nat.not_lt_zero _)
          | succ z57 ih57 =>
            intro a w1 a0 a1 fA fC fZ f80 f82 h80 h82 zm
            refine zA_range (fun hr => ?_)
            refine zA_iload_n dX12_clear_57 rfl ?_
            refine zA_bipush dX12_clear_58 rfl ?_
            refine zA_icmp_ge (tgt := 109) dX12_clear_60 (by decide) (by first | assumption | exact hr _ _ | exact inR_mk (by omega) (by omega)) ⟨by decide, by decide⟩ (fun c60 => ?_) (fun c60 => ?_)
            · skip
              refine zA_vret dX12_clear_109 rfl ?_
              exact ⟨rfl, rfl, fA, fC, fZ, f80, h80, f82, fun g c e f => h82 g c (by omega) f⟩
            · skip
              refine zA_iconst dX12_clear_63 ?_
              refine zA_istore_n (lo1 := [zR 73, zI y, zI a, zI 0]) dX12_clear_64 (by decide) rfl rfl ?_
              have L65 : ∀ (z65 : Nat) (x : Int) (w1 : zW) (x0 : 0 ≤ x) (x1 : x ≤ 12) (fA : ∀ c x, (c < 75 ∨ 78 < c) → c ≠ 80 → c ≠ 82 → w1 c x = w c x) (fC : ∀ c x, 75 ≤ c → c ≤ 78 → x ≠ y → w1 c x = w c x) (fZ : ∀ c, 75 ≤ c → c ≤ 78 → w1 c y = 0) (f80 : ∀ x, (x < 30 * y ∨ 30 * y + 30 ≤ x) → w1 80 x = w 80 x) (f82 : ∀ x, (x < 144 * y ∨ 144 * y + 144 ≤ x) → w1 82 x = w 82 x) (h80 : ∀ k : Int, 0 ≤ k → k < 30 → w1 80 (30 * y + k) = 13) (h82 : ∀ g c : Int, (0 ≤ g ∧ g < a) → (0 ≤ c ∧ c < 12) → w1 82 (144 * y + 12 * g + c) = if g = c then 0 else 1) (h82b : ∀ c : Int, 0 ≤ c → c < x → w1 82 (144 * y + 12 * a + c) = if a = c then 0 else 1) (zm : (12 - x).toNat < z65), zA l mX12_clear gr 2 0 0 (fun v' S' w' => v' = none ∧ S' = (ZZ t dr tx) ∧ mZ w w' y) zNo 65 [zR 73, zI y, zI a, zI x] [] (ZZ t dr tx) w1 := by
                intro z65
                induction z65 with
                | zero => intro x w1 x0 x1 fA fC fZ f80 f82 h80 h82 h82b zm; exact absurd zm (Nat.not_lt_zero _)
                | succ z65 ih65 =>
                  intro x w1 x0 x1 fA fC fZ f80 f82 h80 h82 h82b zm
                  refine zA_range (fun hr => ?_)
                  refine zA_iload_n dX12_clear_65 rfl ?_
                  refine zA_bipush dX12_clear_66 rfl ?_
                  refine zA_icmp_ge (tgt := 103) dX12_clear_68 (by decide) (by first | assumption | exact hr _ _ | exact inR_mk (by omega) (by omega)) ⟨by decide, by decide⟩ (fun c68 => ?_) (fun c68 => ?_)
                  · skip
                    refine zA_iinc (lo1 := [zR 73, zI y, zI (a + 1), zI x]) dX12_clear_103 rfl (by decide) rfl rfl ?_
                    refine zA_goto (tgt := 57) dX12_clear_106 (by decide) ?_
                    refine zA_drop 3 (lo1 := [zR 73, zI y, zI (a + 1), .null]) rfl ?_
                    exact ih57 (a + 1) w1 (by omega) (by omega) fA fC fZ f80 f82 h80 (fun g c e f => by
                          by_cases q : g = a
                          · rw [q]; exact h82b c f.1 (by omega)
                          · exact h82 g c (by omega) f) (by omega)
                  · skip
                    refine zA_aload_n dX12_clear_71 rfl ?_
                    refine zA_getR (n := 82) dX12_clear_72 fX12_45 c73 rfl ?_
                    refine zA_iload_n dX12_clear_75 rfl ?_
                    refine zA_bipush dX12_clear_76 rfl ?_
                    refine zA_imul dX12_clear_78 ?_
                    refine zA_iload_n dX12_clear_79 rfl ?_
                    refine zA_iadd dX12_clear_80 ?_
                    refine zA_bipush dX12_clear_81 rfl ?_
                    refine zA_imul dX12_clear_83 ?_
                    refine zA_iload_n dX12_clear_84 rfl ?_
                    refine zA_iadd dX12_clear_85 ?_
                    refine zA_iload_n dX12_clear_86 rfl ?_
                    refine zA_iload_n dX12_clear_87 rfl ?_
                    refine zA_icmp_ne (tgt := 95) dX12_clear_88 (by decide) (by first | assumption | exact hr _ _ | exact inR_mk (by omega) (by omega)) (by first | assumption | exact hr _ _ | exact inR_mk (by omega) (by omega)) (fun c88 => ?_) (fun c88 => ?_)
                    · skip
                      skip
                      refine zA_iconst dX12_clear_95 ?_
                      refine zA_iastore dX12_clear_96 ⟨by decide, by decide⟩ c82 (by first | assumption | omega) (by first | assumption | omega) (by decide) ?_
                      refine zA_namew (fun w_5 hw_5 => ?_)
                      refine zA_range (fun hr => ?_)
                      replace hw_5 : w_5 = up w1 82 ((((y * 12) + a) * 12) + x) 1 := hw_5
                      refine zA_iinc (lo1 := [zR 73, zI y, zI a, zI (x + 1)]) dX12_clear_97 rfl (by decide) rfl rfl ?_
                      refine zA_goto (tgt := 65) dX12_clear_100 (by decide) ?_
                      exact ih65 (x + 1) _ (by omega) (by omega) (fun c x a e f => by rw [hw_5, up_cell _ _ _ _ f]; exact fA c x a e f) (fun c x a e f => by rw [hw_5, up_cell _ _ _ _ (by omega)]; exact fC c x a e f) (fun c a e => by rw [hw_5, up_cell _ _ _ _ (by omega)]; exact fZ c a e) (fun k a => by rw [hw_5, up_cell _ _ _ _ (by decide)]; exact f80 k a) (fun k a => by rw [hw_5, up_idx _ _ _ _ (by omega)]; exact f82 k a) (fun k a e => by rw [hw_5, up_cell _ _ _ _ (by decide)]; exact h80 k a e) (fun g c e f => by rw [hw_5, up_idx _ _ _ _ (by omega)]; exact h82 g c e f) (fun c e f => by
                              rw [hw_5]
                              by_cases q : c = x
                              · rw [q, show 144 * y + 12 * a + x = (y * 12 + a) * 12 + x by omega, up_same]; rw [if_neg c88]
                              · rw [up_idx _ _ _ _ (by omega)]; exact h82b c e (by omega)) (by omega)
                    · skip
                      skip
                      refine zA_iconst dX12_clear_91 ?_
                      refine zA_goto (tgt := 96) dX12_clear_92 (by decide) ?_
                      refine zA_iastore dX12_clear_96 ⟨by decide, by decide⟩ c82 (by first | assumption | omega) (by first | assumption | omega) (by decide) ?_
                      refine zA_namew (fun w_6 hw_6 => ?_)
                      refine zA_range (fun hr => ?_)
                      replace hw_6 : w_6 = up w1 82 ((((y * 12) + a) * 12) + x) 0 := hw_6
                      refine zA_iinc (lo1 := [zR 73, zI y, zI a, zI (x + 1)]) dX12_clear_97 rfl (by decide) rfl rfl ?_
                      refine zA_goto (tgt := 65) dX12_clear_100 (by decide) ?_
                      exact ih65 (x + 1) _ (by omega) (by omega) (fun c x a e f => by rw [hw_6, up_cell _ _ _ _ f]; exact fA c x a e f) (fun c x a e f => by rw [hw_6, up_cell _ _ _ _ (by omega)]; exact fC c x a e f) (fun c a e => by rw [hw_6, up_cell _ _ _ _ (by omega)]; exact fZ c a e) (fun k a => by rw [hw_6, up_cell _ _ _ _ (by decide)]; exact f80 k a) (fun k a => by rw [hw_6, up_idx _ _ _ _ (by omega)]; exact f82 k a) (fun k a e => by rw [hw_6, up_cell _ _ _ _ (by decide)]; exact h80 k a e) (fun g c e f => by rw [hw_6, up_idx _ _ _ _ (by omega)]; exact h82 g c e f) (fun c e f => by
                              rw [hw_6]
                              by_cases q : c = x
                              · rw [q, show 144 * y + 12 * a + x = (y * 12 + a) * 12 + x by omega, up_same]; rw [if_pos c88]
                              · rw [up_idx _ _ _ _ (by omega)]; exact h82b c e (by omega)) (by omega)
              exact L65 _ 0 w1 (by omega) (by omega) fA fC fZ f80 f82 h80 h82 (fun c e f => by omega) (Nat.lt_succ_self _)
        exact L57 _ 0 w1 (by omega) (by omega) fA fC fZ f80 f82 (fun k a e => h80 k a (by omega)) (fun g c e f => by omega) (Nat.lt_succ_self _)
      · skip
        refine zA_aload_n dX12_clear_36 rfl ?_
        refine zA_getR (n := 80) dX12_clear_37 fX12_41 c73 rfl ?_
        refine zA_bipush dX12_clear_40 rfl ?_
        refine zA_iload_n dX12_clear_42 rfl ?_
        refine zA_imul dX12_clear_43 ?_
        refine zA_iload_n dX12_clear_44 rfl ?_
        refine zA_iadd dX12_clear_45 ?_
        refine zA_bipush dX12_clear_46 rfl ?_
        refine zA_iastore dX12_clear_48 ⟨by decide, by decide⟩ c80 (by first | assumption | omega) (by first | assumption | omega) (by decide) ?_
        refine zA_namew (fun w_7 hw_7 => ?_)
        refine zA_range (fun hr => ?_)
        replace hw_7 : w_7 = up w1 80 ((30 * y) + x) 13 := hw_7
        refine zA_iinc (lo1 := [zR 73, zI y, zI (x + 1), .null]) dX12_clear_49 rfl (by decide) rfl rfl ?_
        refine zA_goto (tgt := 30) dX12_clear_52 (by decide) ?_
        exact ih30 (x + 1) _ (by omega) (by omega) (fun c x a e f => by rw [hw_7, up_cell _ _ _ _ e]; exact fA c x a e f) (fun c x a e f => by rw [hw_7, up_cell _ _ _ _ (by omega)]; exact fC c x a e f) (fun c a e => by rw [hw_7, up_cell _ _ _ _ (by omega)]; exact fZ c a e) (fun k a => by rw [hw_7, up_idx _ _ _ _ (by omega)]; exact f80 k a) (fun k a => by rw [hw_7, up_cell _ _ _ _ (by decide)]; exact f82 k a) (fun k a e => by
                rw [hw_7]
                by_cases q : k = x
                · rw [q, up_same]
                · rw [up_idx _ _ _ _ (by omega)]; exact h80 k a (by omega)) (fun k => by rw [hw_7, up_cell _ _ _ _ (by decide)]; exact k82 k) (by omega)
  exact L30 _ 0 _ (by omega) (by omega) (fun c x a e f => by rw [hw_4, up_cell _ _ _ _ (by omega), hw_3, up_cell _ _ _ _ (by omega), hw_2, up_cell _ _ _ _ (by omega), hw_1, up_cell _ _ _ _ (by omega)]) (fun c x a e f => by rw [hw_4, up_idx _ _ _ _ f, hw_3, up_idx _ _ _ _ f, hw_2, up_idx _ _ _ _ f, hw_1, up_idx _ _ _ _ f]) (fun c a e => by
      have hc : c = 75 ∨ c = 76 ∨ c = 77 ∨ c = 78 := by omega
      rcases hc with rfl | rfl | rfl | rfl
      · rw [hw_4, up_cell _ _ _ _ (by decide), hw_3, up_cell _ _ _ _ (by decide), hw_2, up_cell _ _ _ _ (by decide), hw_1, up_same]
      · rw [hw_4, up_cell _ _ _ _ (by decide), hw_3, up_cell _ _ _ _ (by decide), hw_2, up_same]
      · rw [hw_4, up_cell _ _ _ _ (by decide), hw_3, up_same]
      · rw [hw_4, up_same]) (fun x _ => by rw [hw_4, up_cell _ _ _ _ (by decide), hw_3, up_cell _ _ _ _ (by decide), hw_2, up_cell _ _ _ _ (by decide), hw_1, up_cell _ _ _ _ (by decide)]) (fun x _ => by rw [hw_4, up_cell _ _ _ _ (by decide), hw_3, up_cell _ _ _ _ (by decide), hw_2, up_cell _ _ _ _ (by decide), hw_1, up_cell _ _ _ _ (by decide)]) (fun k a e => by omega) (fun k => by rw [hw_4, up_cell _ _ _ _ (by decide), hw_3, up_cell _ _ _ _ (by decide), hw_2, up_cell _ _ _ _ (by decide), hw_1, up_cell _ _ _ _ (by decide)]) (Nat.lt_succ_self _)

