/-! the shape while the law's last array is wanting; a row of Strings -/
def ZY (t dr tx : Nat) : zS := (ZZ t dr tx).take 121
theorem y73_ {t dr tx : Nat} : (ZY t dr tx)[73]? = (ZZ t dr tx)[73]? := rfl
theorem y75_ {t dr tx : Nat} : (ZY t dr tx)[75]? = (ZZ t dr tx)[75]? := rfl
theorem y76_ {t dr tx : Nat} : (ZY t dr tx)[76]? = (ZZ t dr tx)[76]? := rfl
theorem y77_ {t dr tx : Nat} : (ZY t dr tx)[77]? = (ZZ t dr tx)[77]? := rfl
theorem y78_ {t dr tx : Nat} : (ZY t dr tx)[78]? = (ZZ t dr tx)[78]? := rfl
theorem y80_ {t dr tx : Nat} : (ZY t dr tx)[80]? = (ZZ t dr tx)[80]? := rfl
theorem y82_ {t dr tx : Nat} : (ZY t dr tx)[82]? = (ZZ t dr tx)[82]? := rfl
theorem y89_ {t dr tx : Nat} : (ZY t dr tx)[89]? = (ZZ t dr tx)[89]? := rfl
theorem y90_ {t dr tx : Nat} : (ZY t dr tx)[90]? = (ZZ t dr tx)[90]? := rfl
theorem y98_ {t dr tx : Nat} : (ZY t dr tx)[98]? = (ZZ t dr tx)[98]? := rfl
theorem y99_ {t dr tx : Nat} : (ZY t dr tx)[99]? = (ZZ t dr tx)[99]? := rfl
theorem y105_ {t dr tx : Nat} : (ZY t dr tx)[105]? = (ZZ t dr tx)[105]? := rfl
theorem y107_ {t dr tx : Nat} : (ZY t dr tx)[107]? = (ZZ t dr tx)[107]? := rfl
theorem y109_ {t dr tx : Nat} : (ZY t dr tx)[109]? = (ZZ t dr tx)[109]? := rfl
theorem y110_ {t dr tx : Nat} : (ZY t dr tx)[110]? = (ZZ t dr tx)[110]? := rfl
theorem y117_ {t dr tx : Nat} : (ZY t dr tx)[117]? = (ZZ t dr tx)[117]? := rfl
theorem m_clearY {l : Launch} {t dr tx : Nat} {w : zW} {gr : Bool} {y : Int} (hy : y = 0 ∨ y = 1) : zSp l mX12_clear gr 2 0 0 [zR 73, zI y] (ZY t dr tx) w (fun v' S' w' => v' = none ∧ S' = (ZY t dr tx) ∧ mZ w w' y) zNo := by
  refine zA_intro ⟨plainFor_of_name (by decide +kernel), Or.inl (by decide +kernel)⟩ rfl (Nat.le_of_ble_eq_true rfl) ?_
  refine zA_range (fun hr => ?_)
  show zA l mX12_clear gr 2 0 0 (fun v' S' w' => v' = none ∧ S' = (ZY t dr tx) ∧ mZ w w' y) zNo 0 [zR 73, zI y, .null, .null] [] (ZY t dr tx) w
  refine zA_aload_n dX12_clear_0 rfl ?_
  refine zA_getR (n := 75) dX12_clear_1 fX12_25 y73_ rfl ?_
  refine zA_iload_n dX12_clear_4 rfl ?_
  refine zA_iconst dX12_clear_5 ?_
  refine zA_iastore dX12_clear_6 ⟨by decide, by decide⟩ y75_ (by first | assumption | omega) (by first | assumption | omega) (by decide) ?_
  refine zA_namew (fun w_1 hw_1 => ?_)
  refine zA_range (fun hr => ?_)
  replace hw_1 : w_1 = up w 75 y 0 := hw_1
  refine zA_aload_n dX12_clear_7 rfl ?_
  refine zA_getR (n := 76) dX12_clear_8 fX12_29 y73_ rfl ?_
  refine zA_iload_n dX12_clear_11 rfl ?_
  refine zA_iconst dX12_clear_12 ?_
  refine zA_iastore dX12_clear_13 ⟨by decide, by decide⟩ y76_ (by first | assumption | omega) (by first | assumption | omega) (by decide) ?_
  refine zA_namew (fun w_2 hw_2 => ?_)
  refine zA_range (fun hr => ?_)
  replace hw_2 : w_2 = up w_1 76 y 0 := hw_2
  refine zA_aload_n dX12_clear_14 rfl ?_
  refine zA_getR (n := 77) dX12_clear_15 fX12_32 y73_ rfl ?_
  refine zA_iload_n dX12_clear_18 rfl ?_
  refine zA_iconst dX12_clear_19 ?_
  refine zA_iastore dX12_clear_20 ⟨by decide, by decide⟩ y77_ (by first | assumption | omega) (by first | assumption | omega) (by decide) ?_
  refine zA_namew (fun w_3 hw_3 => ?_)
  refine zA_range (fun hr => ?_)
  replace hw_3 : w_3 = up w_2 77 y 0 := hw_3
  refine zA_aload_n dX12_clear_21 rfl ?_
  refine zA_getR (n := 78) dX12_clear_22 fX12_35 y73_ rfl ?_
  refine zA_iload_n dX12_clear_25 rfl ?_
  refine zA_iconst dX12_clear_26 ?_
  refine zA_iastore dX12_clear_27 ⟨by decide, by decide⟩ y78_ (by first | assumption | omega) (by first | assumption | omega) (by decide) ?_
  refine zA_namew (fun w_4 hw_4 => ?_)
  refine zA_range (fun hr => ?_)
  replace hw_4 : w_4 = up w_3 78 y 0 := hw_4
  refine zA_iconst dX12_clear_28 ?_
  refine zA_istore_n (lo1 := [zR 73, zI y, zI 0, .null]) dX12_clear_29 (by decide) rfl rfl ?_
  have L30 : ∀ (z30 : Nat) (x : Int) (w1 : zW) (x0 : 0 ≤ x) (x1 : x ≤ 30) (fA : ∀ c x, (c < 75 ∨ 78 < c) → c ≠ 80 → c ≠ 82 → w1 c x = w c x) (fC : ∀ c x, 75 ≤ c → c ≤ 78 → x ≠ y → w1 c x = w c x) (fZ : ∀ c, 75 ≤ c → c ≤ 78 → w1 c y = 0) (f80 : ∀ x, (x < 30 * y ∨ 30 * y + 30 ≤ x) → w1 80 x = w 80 x) (f82 : ∀ x, (x < 144 * y ∨ 144 * y + 144 ≤ x) → w1 82 x = w 82 x) (h80 : ∀ k : Int, 0 ≤ k → k < x → w1 80 (30 * y + k) = 13) (k82 : ∀ k, w1 82 k = w 82 k) (zm : (30 - x).toNat < z30), zA l mX12_clear gr 2 0 0 (fun v' S' w' => v' = none ∧ S' = (ZY t dr tx) ∧ mZ w w' y) zNo 30 [zR 73, zI y, zI x, .null] [] (ZY t dr tx) w1 := by
    intro z30
    induction z30 with
    | zero => intro x w1 x0 x1 fA fC fZ f80 f82 h80 k82 zm; exact absurd zm (Nat.not_lt_zero _)
    | succ z30 ih30 =>
      intro x w1 x0 x1 fA fC fZ f80 f82 h80 k82 zm
      refine zA_range (fun hr => ?_)
      refine zA_iload_n dX12_clear_30 rfl ?_
      refine zA_bipush dX12_clear_31 rfl ?_
      refine zA_icmp_ge (tgt := 55) dX12_clear_33 (by decide) (by first | assumption | exact hr _ _ | exact inR_mk (by omega) (by omega)) ⟨by decide, by decide⟩ (fun c33 => ?_) (fun c33 => ?_)
      · skip
        refine zA_iconst dX12_clear_55 ?_
        refine zA_istore_n (lo1 := [zR 73, zI y, zI 0, .null]) dX12_clear_56 (by decide) rfl rfl ?_
        have L57 : ∀ (z57 : Nat) (a : Int) (w1 : zW) (a0 : 0 ≤ a) (a1 : a ≤ 12) (fA : ∀ c x, (c < 75 ∨ 78 < c) → c ≠ 80 → c ≠ 82 → w1 c x = w c x) (fC : ∀ c x, 75 ≤ c → c ≤ 78 → x ≠ y → w1 c x = w c x) (fZ : ∀ c, 75 ≤ c → c ≤ 78 → w1 c y = 0) (f80 : ∀ x, (x < 30 * y ∨ 30 * y + 30 ≤ x) → w1 80 x = w 80 x) (f82 : ∀ x, (x < 144 * y ∨ 144 * y + 144 ≤ x) → w1 82 x = w 82 x) (h80 : ∀ k : Int, 0 ≤ k → k < 30 → w1 80 (30 * y + k) = 13) (h82 : ∀ g c : Int, (0 ≤ g ∧ g < a) → (0 ≤ c ∧ c < 12) → w1 82 (144 * y + 12 * g + c) = if g = c then 0 else 1) (zm : (12 - a).toNat < z57), zA l mX12_clear gr 2 0 0 (fun v' S' w' => v' = none ∧ S' = (ZY t dr tx) ∧ mZ w w' y) zNo 57 [zR 73, zI y, zI a, .null] [] (ZY t dr tx) w1 := by
          intro z57
          induction z57 with
          | zero => intro a w1 a0 a1 fA fC fZ f80 f82 h80 h82 zm; exact absurd zm (Nat.not_lt_zero _)
          | succ z57 ih57 =>
            intro a w1 a0 a1 fA fC fZ f80 f82 h80 h82 zm
            refine zA_range (fun hr => ?_)
            refine zA_iload_n dX12_clear_57 rfl ?_
            refine zA_bipush dX12_clear_58 rfl ?_
            refine zA_icmp_ge (tgt := 109) dX12_clear_60 (by decide) (by first | assumption | exact hr _ _ | exact inR_mk (by omega) (by omega)) ⟨by decide, by decide⟩ (fun c60 => ?_) (fun c60 => ?_)
            · skip
              refine zA_vret dX12_clear_109 rfl ?_
              exact ⟨rfl, rfl, fA, fC, fZ, f80, h80, f82, fun g c e f => h82 g c (by omega) f⟩
            · skip
              refine zA_iconst dX12_clear_63 ?_
              refine zA_istore_n (lo1 := [zR 73, zI y, zI a, zI 0]) dX12_clear_64 (by decide) rfl rfl ?_
              have L65 : ∀ (z65 : Nat) (x : Int) (w1 : zW) (x0 : 0 ≤ x) (x1 : x ≤ 12) (fA : ∀ c x, (c < 75 ∨ 78 < c) → c ≠ 80 → c ≠ 82 → w1 c x = w c x) (fC : ∀ c x, 75 ≤ c → c ≤ 78 → x ≠ y → w1 c x = w c x) (fZ : ∀ c, 75 ≤ c → c ≤ 78 → w1 c y = 0) (f80 : ∀ x, (x < 30 * y ∨ 30 * y + 30 ≤ x) → w1 80 x = w 80 x) (f82 : ∀ x, (x < 144 * y ∨ 144 * y + 144 ≤ x) → w1 82 x = w 82 x) (h80 : ∀ k : Int, 0 ≤ k → k < 30 → w1 80 (30 * y + k) = 13) (h82 : ∀ g c : Int, (0 ≤ g ∧ g < a) → (0 ≤ c ∧ c < 12) → w1 82 (144 * y + 12 * g + c) = if g = c then 0 else 1) (h82b : ∀ c : Int, 0 ≤ c → c < x → w1 82 (144 * y + 12 * a + c) = if a = c then 0 else 1) (zm : (12 - x).toNat < z65), zA l mX12_clear gr 2 0 0 (fun v' S' w' => v' = none ∧ S' = (ZY t dr tx) ∧ mZ w w' y) zNo 65 [zR 73, zI y, zI a, zI x] [] (ZY t dr tx) w1 := by
                intro z65
                induction z65 with
                | zero => intro x w1 x0 x1 fA fC fZ f80 f82 h80 h82 h82b zm; exact absurd zm (Nat.not_lt_zero _)
                | succ z65 ih65 =>
                  intro x w1 x0 x1 fA fC fZ f80 f82 h80 h82 h82b zm
                  refine zA_range (fun hr => ?_)
                  refine zA_iload_n dX12_clear_65 rfl ?_
                  refine zA_bipush dX12_clear_66 rfl ?_
                  refine zA_icmp_ge (tgt := 103) dX12_clear_68 (by decide) (by first | assumption | exact hr _ _ | exact inR_mk (by omega) (by omega)) ⟨by decide, by decide⟩ (fun c68 => ?_) (fun c68 => ?_)
                  · skip
                    refine zA_iinc (lo1 := [zR 73, zI y, zI (a + 1), zI x]) dX12_clear_103 rfl (by decide) rfl rfl ?_
                    refine zA_goto (tgt := 57) dX12_clear_106 (by decide) ?_
                    refine zA_drop 3 (lo1 := [zR 73, zI y, zI (a + 1), .null]) rfl ?_
                    exact ih57 (a + 1) w1 (by omega) (by omega) fA fC fZ f80 f82 h80 (fun g c e f => by
                          by_cases q : g = a
                          · rw [q]; exact h82b c f.1 (by omega)
                          · exact h82 g c (by omega) f) (by omega)
                  · skip
                    refine zA_aload_n dX12_clear_71 rfl ?_
                    refine zA_getR (n := 82) dX12_clear_72 fX12_45 y73_ rfl ?_
                    refine zA_iload_n dX12_clear_75 rfl ?_
                    refine zA_bipush dX12_clear_76 rfl ?_
                    refine zA_imul dX12_clear_78 ?_
                    refine zA_iload_n dX12_clear_79 rfl ?_
                    refine zA_iadd dX12_clear_80 ?_
                    refine zA_bipush dX12_clear_81 rfl ?_
                    refine zA_imul dX12_clear_83 ?_
                    refine zA_iload_n dX12_clear_84 rfl ?_
                    refine zA_iadd dX12_clear_85 ?_
                    refine zA_iload_n dX12_clear_86 rfl ?_
                    refine zA_iload_n dX12_clear_87 rfl ?_
                    refine zA_icmp_ne (tgt := 95) dX12_clear_88 (by decide) (by first | assumption | exact hr _ _ | exact inR_mk (by omega) (by omega)) (by first | assumption | exact hr _ _ | exact inR_mk (by omega) (by omega)) (fun c88 => ?_) (fun c88 => ?_)
                    · skip
                      skip
                      refine zA_iconst dX12_clear_95 ?_
                      refine zA_iastore dX12_clear_96 ⟨by decide, by decide⟩ y82_ (by first | assumption | omega) (by first | assumption | omega) (by decide) ?_
                      refine zA_namew (fun w_5 hw_5 => ?_)
                      refine zA_range (fun hr => ?_)
                      replace hw_5 : w_5 = up w1 82 ((((y * 12) + a) * 12) + x) 1 := hw_5
                      refine zA_iinc (lo1 := [zR 73, zI y, zI a, zI (x + 1)]) dX12_clear_97 rfl (by decide) rfl rfl ?_
                      refine zA_goto (tgt := 65) dX12_clear_100 (by decide) ?_
                      exact ih65 (x + 1) _ (by omega) (by omega) (fun c x a e f => by rw [hw_5, up_cell _ _ _ _ f]; exact fA c x a e f) (fun c x a e f => by rw [hw_5, up_cell _ _ _ _ (by omega)]; exact fC c x a e f) (fun c a e => by rw [hw_5, up_cell _ _ _ _ (by omega)]; exact fZ c a e) (fun k a => by rw [hw_5, up_cell _ _ _ _ (by decide)]; exact f80 k a) (fun k a => by rw [hw_5, up_idx _ _ _ _ (by omega)]; exact f82 k a) (fun k a e => by rw [hw_5, up_cell _ _ _ _ (by decide)]; exact h80 k a e) (fun g c e f => by rw [hw_5, up_idx _ _ _ _ (by omega)]; exact h82 g c e f) (fun c e f => by
                              rw [hw_5]
                              by_cases q : c = x
                              · rw [q, show 144 * y + 12 * a + x = (y * 12 + a) * 12 + x by omega, up_same]; rw [if_neg c88]
                              · rw [up_idx _ _ _ _ (by omega)]; exact h82b c e (by omega)) (by omega)
                    · skip
                      skip
                      refine zA_iconst dX12_clear_91 ?_
                      refine zA_goto (tgt := 96) dX12_clear_92 (by decide) ?_
                      refine zA_iastore dX12_clear_96 ⟨by decide, by decide⟩ y82_ (by first | assumption | omega) (by first | assumption | omega) (by decide) ?_
                      refine zA_namew (fun w_6 hw_6 => ?_)
                      refine zA_range (fun hr => ?_)
                      replace hw_6 : w_6 = up w1 82 ((((y * 12) + a) * 12) + x) 0 := hw_6
                      refine zA_iinc (lo1 := [zR 73, zI y, zI a, zI (x + 1)]) dX12_clear_97 rfl (by decide) rfl rfl ?_
                      refine zA_goto (tgt := 65) dX12_clear_100 (by decide) ?_
                      exact ih65 (x + 1) _ (by omega) (by omega) (fun c x a e f => by rw [hw_6, up_cell _ _ _ _ f]; exact fA c x a e f) (fun c x a e f => by rw [hw_6, up_cell _ _ _ _ (by omega)]; exact fC c x a e f) (fun c a e => by rw [hw_6, up_cell _ _ _ _ (by omega)]; exact fZ c a e) (fun k a => by rw [hw_6, up_cell _ _ _ _ (by decide)]; exact f80 k a) (fun k a => by rw [hw_6, up_idx _ _ _ _ (by omega)]; exact f82 k a) (fun k a e => by rw [hw_6, up_cell _ _ _ _ (by decide)]; exact h80 k a e) (fun g c e f => by rw [hw_6, up_idx _ _ _ _ (by omega)]; exact h82 g c e f) (fun c e f => by
                              rw [hw_6]
                              by_cases q : c = x
                              · rw [q, show 144 * y + 12 * a + x = (y * 12 + a) * 12 + x by omega, up_same]; rw [if_pos c88]
                              · rw [up_idx _ _ _ _ (by omega)]; exact h82b c e (by omega)) (by omega)
              exact L65 _ 0 w1 (by omega) (by omega) fA fC fZ f80 f82 h80 h82 (fun c e f => by omega) (Nat.lt_succ_self _)
        exact L57 _ 0 w1 (by omega) (by omega) fA fC fZ f80 f82 (fun k a e => h80 k a (by omega)) (fun g c e f => by omega) (Nat.lt_succ_self _)
      · skip
        refine zA_aload_n dX12_clear_36 rfl ?_
        refine zA_getR (n := 80) dX12_clear_37 fX12_41 y73_ rfl ?_
        refine zA_bipush dX12_clear_40 rfl ?_
        refine zA_iload_n dX12_clear_42 rfl ?_
        refine zA_imul dX12_clear_43 ?_
        refine zA_iload_n dX12_clear_44 rfl ?_
        refine zA_iadd dX12_clear_45 ?_
        refine zA_bipush dX12_clear_46 rfl ?_
        refine zA_iastore dX12_clear_48 ⟨by decide, by decide⟩ y80_ (by first | assumption | omega) (by first | assumption | omega) (by decide) ?_
        refine zA_namew (fun w_7 hw_7 => ?_)
        refine zA_range (fun hr => ?_)
        replace hw_7 : w_7 = up w1 80 ((30 * y) + x) 13 := hw_7
        refine zA_iinc (lo1 := [zR 73, zI y, zI (x + 1), .null]) dX12_clear_49 rfl (by decide) rfl rfl ?_
        refine zA_goto (tgt := 30) dX12_clear_52 (by decide) ?_
        exact ih30 (x + 1) _ (by omega) (by omega) (fun c x a e f => by rw [hw_7, up_cell _ _ _ _ e]; exact fA c x a e f) (fun c x a e f => by rw [hw_7, up_cell _ _ _ _ (by omega)]; exact fC c x a e f) (fun c a e => by rw [hw_7, up_cell _ _ _ _ (by omega)]; exact fZ c a e) (fun k a => by rw [hw_7, up_idx _ _ _ _ (by omega)]; exact f80 k a) (fun k a => by rw [hw_7, up_cell _ _ _ _ (by decide)]; exact f82 k a) (fun k a e => by
                rw [hw_7]
                by_cases q : k = x
                · rw [q, up_same]
                · rw [up_idx _ _ _ _ (by omega)]; exact h80 k a (by omega)) (fun k => by rw [hw_7, up_cell _ _ _ _ (by decide)]; exact k82 k) (by omega)
  exact L30 _ 0 _ (by omega) (by omega) (fun c x a e f => by rw [hw_4, up_cell _ _ _ _ (by omega), hw_3, up_cell _ _ _ _ (by omega), hw_2, up_cell _ _ _ _ (by omega), hw_1, up_cell _ _ _ _ (by omega)]) (fun c x a e f => by rw [hw_4, up_idx _ _ _ _ f, hw_3, up_idx _ _ _ _ f, hw_2, up_idx _ _ _ _ f, hw_1, up_idx _ _ _ _ f]) (fun c a e => by
      have hc : c = 75 ∨ c = 76 ∨ c = 77 ∨ c = 78 := by omega
      rcases hc with rfl | rfl | rfl | rfl
      · rw [hw_4, up_cell _ _ _ _ (by decide), hw_3, up_cell _ _ _ _ (by decide), hw_2, up_cell _ _ _ _ (by decide), hw_1, up_same]
      · rw [hw_4, up_cell _ _ _ _ (by decide), hw_3, up_cell _ _ _ _ (by decide), hw_2, up_same]
      · rw [hw_4, up_cell _ _ _ _ (by decide), hw_3, up_same]
      · rw [hw_4, up_same]) (fun x _ => by rw [hw_4, up_cell _ _ _ _ (by decide), hw_3, up_cell _ _ _ _ (by decide), hw_2, up_cell _ _ _ _ (by decide), hw_1, up_cell _ _ _ _ (by decide)]) (fun x _ => by rw [hw_4, up_cell _ _ _ _ (by decide), hw_3, up_cell _ _ _ _ (by decide), hw_2, up_cell _ _ _ _ (by decide), hw_1, up_cell _ _ _ _ (by decide)]) (fun k a e => by omega) (fun k => by rw [hw_4, up_cell _ _ _ _ (by decide), hw_3, up_cell _ _ _ _ (by decide), hw_2, up_cell _ _ _ _ (by decide), hw_1, up_cell _ _ _ _ (by decide)]) (Nat.lt_succ_self _)
theorem m_forgetY {l : Launch} {t dr tx : Nat} {w : zW} {gr : Bool}  : zSp l mX12_forget gr 2 0 0 [zR 73] (ZY t dr tx) w (fun v' S' w' => v' = none ∧ S' = (ZY t dr tx) ∧ fgQ w w') zNo := by
  refine zA_intro ⟨plainFor_of_name (by decide +kernel), Or.inl (by decide +kernel)⟩ rfl (Nat.le_of_ble_eq_true rfl) ?_
  refine zA_range (fun hr => ?_)
  show zA l mX12_forget gr 2 0 0 (fun v' S' w' => v' = none ∧ S' = (ZY t dr tx) ∧ fgQ w w') zNo 0 [zR 73, .null, .null] [] (ZY t dr tx) w
  refine zA_aload_n dX12_forget_0 rfl ?_
  refine zA_iconst dX12_forget_1 ?_
  refine zA_putI dX12_forget_2 fX12_69 y73_ rfl ⟨by decide, by decide⟩ ⟨rfl, rfl⟩ ?_
  refine zA_namew (fun w_1 hw_1 => ?_)
  refine zA_range (fun hr => ?_)
  replace hw_1 : w_1 = up w 73 26 (-1) := hw_1
  refine zA_aload_n dX12_forget_5 rfl ?_
  refine zA_iconst dX12_forget_6 ?_
  refine zA_putI dX12_forget_7 fX12_157 y73_ rfl ⟨by decide, by decide⟩ ⟨rfl, rfl⟩ ?_
  refine zA_namew (fun w_2 hw_2 => ?_)
  refine zA_range (fun hr => ?_)
  replace hw_2 : w_2 = up w_1 73 76 (-1) := hw_2
  refine zA_aload_n dX12_forget_10 rfl ?_
  refine zA_iconst dX12_forget_11 ?_
  refine zA_putI dX12_forget_12 fX12_302 y73_ rfl ⟨by decide, by decide⟩ ⟨rfl, rfl⟩ ?_
  refine zA_namew (fun w_3 hw_3 => ?_)
  refine zA_range (fun hr => ?_)
  replace hw_3 : w_3 = up w_2 73 71 0 := hw_3
  refine zA_aload_n dX12_forget_15 rfl ?_
  refine zA_iconst dX12_forget_16 ?_
  refine zA_putI dX12_forget_17 fX12_305 y73_ rfl ⟨by decide, by decide⟩ ⟨rfl, rfl⟩ ?_
  refine zA_namew (fun w_4 hw_4 => ?_)
  refine zA_range (fun hr => ?_)
  replace hw_4 : w_4 = up w_3 73 54 0 := hw_4
  refine zA_aload_n dX12_forget_20 rfl ?_
  refine zA_iconst dX12_forget_21 ?_
  refine zA_putI dX12_forget_22 fX12_308 y73_ rfl ⟨by decide, by decide⟩ ⟨by rfl, by rfl⟩ ?_
  refine zA_namew (fun w_5 hw_5 => ?_)
  refine zA_range (fun hr => ?_)
  replace hw_5 : w_5 = up w_4 73 55 0 := hw_5
  refine zA_iconst dX12_forget_25 ?_
  refine zA_istore_n (lo1 := [zR 73, zI 0, .null]) dX12_forget_26 (by decide) rfl rfl ?_
  have L27 : ∀ (z27 : Nat) (k : Int) (w1 : zW) (k0 : 0 ≤ k) (k1 : k ≤ 12) (hF : ∀ c x, c ≠ 89 → c ≠ 90 → c ≠ 98 → c ≠ 99 → c ≠ 105 → c ≠ 107 → c ≠ 109 → c ≠ 110 → c ≠ 117 → (c ≠ 73 ∨ (x ≠ 26 ∧ x ≠ 54 ∧ x ≠ 55 ∧ x ≠ 71 ∧ x ≠ 76)) → w1 c x = w c x) (hZ : w1 73 26 = -1 ∧ w1 73 76 = -1 ∧ w1 73 71 = 0 ∧ w1 73 54 = 0 ∧ w1 73 55 = 0) (h12 : ∀ x : Int, 0 ≤ x → x < k → (w1 89 x = 0 ∧ w1 90 x = 0) ∧ (w1 105 x = 0 ∧ w1 107 x = 0) ∧ w1 109 x = 0 ∧ w1 110 x = 1) (h117 : ∀ x : Int, 0 ≤ x → x < 6 * k → w1 117 x = 0) (zm : (12 - k).toNat < z27), zA l mX12_forget gr 2 0 0 (fun v' S' w' => v' = none ∧ S' = (ZY t dr tx) ∧ fgQ w w') zNo 27 [zR 73, zI k, .null] [] (ZY t dr tx) w1 := by
    intro z27
    induction z27 with
    | zero => intro k w1 k0 k1 hF hZ h12 h117 zm; exact absurd zm (Nat.not_lt_zero _)
    | succ z27 ih27 =>
      intro k w1 k0 k1 hF hZ h12 h117 zm
      refine zA_range (fun hr => ?_)
      refine zA_iload_n dX12_forget_27 rfl ?_
      refine zA_bipush dX12_forget_28 rfl ?_
      refine zA_icmp_ge (tgt := 107) dX12_forget_30 (by decide) (by first | assumption | exact hr _ _ | exact inR_mk (by omega) (by omega)) ⟨by decide, by decide⟩ (fun c30 => ?_) (fun c30 => ?_)
      · skip
        refine zA_iconst dX12_forget_107 ?_
        refine zA_istore_n (lo1 := [zR 73, zI 0, .null]) dX12_forget_108 (by decide) rfl rfl ?_
        have L109 : ∀ (z109 : Nat) (x : Int) (w1 : zW) (x0 : 0 ≤ x) (x1 : x ≤ 360) (hF : ∀ c x, c ≠ 89 → c ≠ 90 → c ≠ 98 → c ≠ 99 → c ≠ 105 → c ≠ 107 → c ≠ 109 → c ≠ 110 → c ≠ 117 → (c ≠ 73 ∨ (x ≠ 26 ∧ x ≠ 54 ∧ x ≠ 55 ∧ x ≠ 71 ∧ x ≠ 76)) → w1 c x = w c x) (hZ : w1 73 26 = -1 ∧ w1 73 76 = -1 ∧ w1 73 71 = 0 ∧ w1 73 54 = 0 ∧ w1 73 55 = 0) (h12 : ∀ x : Int, 0 ≤ x → x < 12 → (w1 89 x = 0 ∧ w1 90 x = 0) ∧ (w1 105 x = 0 ∧ w1 107 x = 0) ∧ w1 109 x = 0 ∧ w1 110 x = 1) (h117 : ∀ y : Int, 0 ≤ y → y < 72 → w1 117 y = 0) (h99 : ∀ y : Int, 0 ≤ y → y < x → w1 99 y = 0) (zm : (360 - x).toNat < z109), zA l mX12_forget gr 2 0 0 (fun v' S' w' => v' = none ∧ S' = (ZY t dr tx) ∧ fgQ w w') zNo 109 [zR 73, zI x, .null] [] (ZY t dr tx) w1 := by
          intro z109
          induction z109 with
          | zero => intro x w1 x0 x1 hF hZ h12 h117 h99 zm; exact absurd zm (Nat.not_lt_zero _)
          | succ z109 ih109 =>
            intro x w1 x0 x1 hF hZ h12 h117 h99 zm
            refine zA_range (fun hr => ?_)
            refine zA_iload_n dX12_forget_109 rfl ?_
            refine zA_sipush dX12_forget_110 rfl ?_
            refine zA_icmp_ge (tgt := 129) dX12_forget_113 (by decide) (by first | assumption | exact hr _ _ | exact inR_mk (by omega) (by omega)) ⟨by decide, by decide⟩ (fun c113 => ?_) (fun c113 => ?_)
            · skip
              refine zA_iconst dX12_forget_129 ?_
              refine zA_istore_n (lo1 := [zR 73, zI 0, .null]) dX12_forget_130 (by decide) rfl rfl ?_
              have L131 : ∀ (z131 : Nat) (x : Int) (w1 : zW) (x0 : 0 ≤ x) (x1 : x ≤ 7) (hF : ∀ c x, c ≠ 89 → c ≠ 90 → c ≠ 98 → c ≠ 99 → c ≠ 105 → c ≠ 107 → c ≠ 109 → c ≠ 110 → c ≠ 117 → (c ≠ 73 ∨ (x ≠ 26 ∧ x ≠ 54 ∧ x ≠ 55 ∧ x ≠ 71 ∧ x ≠ 76)) → w1 c x = w c x) (hZ : w1 73 26 = -1 ∧ w1 73 76 = -1 ∧ w1 73 71 = 0 ∧ w1 73 54 = 0 ∧ w1 73 55 = 0) (h12 : ∀ x : Int, 0 ≤ x → x < 12 → (w1 89 x = 0 ∧ w1 90 x = 0) ∧ (w1 105 x = 0 ∧ w1 107 x = 0) ∧ w1 109 x = 0 ∧ w1 110 x = 1) (h117 : ∀ y : Int, 0 ≤ y → y < 72 → w1 117 y = 0) (h99 : ∀ y : Int, 0 ≤ y → y < 360 → w1 99 y = 0) (h98 : ∀ y : Int, 0 ≤ y → y < x → w1 98 y = 0) (zm : (7 - x).toNat < z131), zA l mX12_forget gr 2 0 0 (fun v' S' w' => v' = none ∧ S' = (ZY t dr tx) ∧ fgQ w w') zNo 131 [zR 73, zI x, .null] [] (ZY t dr tx) w1 := by
                intro z131
                induction z131 with
                | zero => intro x w1 x0 x1 hF hZ h12 h117 h99 h98 zm; exact absurd zm (Nat.not_lt_zero _)
                | succ z131 ih131 =>
                  intro x w1 x0 x1 hF hZ h12 h117 h99 h98 zm
                  refine zA_range (fun hr => ?_)
                  refine zA_iload_n dX12_forget_131 rfl ?_
                  refine zA_bipush dX12_forget_132 rfl ?_
                  refine zA_icmp_ge (tgt := 150) dX12_forget_134 (by decide) (by first | assumption | exact hr _ _ | exact inR_mk (by omega) (by omega)) ⟨by decide, by decide⟩ (fun c134 => ?_) (fun c134 => ?_)
                  · skip
                    refine zA_vret dX12_forget_150 rfl ?_
                    exact ⟨rfl, rfl, hF, hZ, h12, h99, fun y y0 y1 => h98 y y0 (by omega), h117⟩
                  · skip
                    refine zA_aload_n dX12_forget_137 rfl ?_
                    refine zA_getR (n := 98) dX12_forget_138 fX12_103 y73_ rfl ?_
                    refine zA_iload_n dX12_forget_141 rfl ?_
                    refine zA_iconst dX12_forget_142 ?_
                    refine zA_iastore dX12_forget_143 ⟨by decide, by decide⟩ y98_ (by first | assumption | omega) (by first | assumption | omega) (by decide) ?_
                    refine zA_namew (fun w_6 hw_6 => ?_)
                    refine zA_range (fun hr => ?_)
                    replace hw_6 : w_6 = up w1 98 x 0 := hw_6
                    refine zA_iinc (lo1 := [zR 73, zI (x + 1), .null]) dX12_forget_144 rfl (by decide) rfl rfl ?_
                    refine zA_goto (tgt := 131) dX12_forget_147 (by decide) ?_
                    exact ih131 (x + 1) _ (by omega) (by omega) (fun c y a1 a2 a3 a4 a5 a6 a7 a8 a9 a10 => by rw [hw_6, up_cell _ _ _ _ a3]; exact hF c y a1 a2 a3 a4 a5 a6 a7 a8 a9 a10) (by rw [hw_6]; simp only [up_cell _ _ _ _ (show 73 ≠ 98 by decide)]; exact hZ) (fun y y0 y1 => by rw [hw_6]; simp only [up_cell _ _ _ _ (show 89 ≠ 98 by decide), up_cell _ _ _ _ (show 90 ≠ 98 by decide), up_cell _ _ _ _ (show 105 ≠ 98 by decide), up_cell _ _ _ _ (show 107 ≠ 98 by decide), up_cell _ _ _ _ (show 109 ≠ 98 by decide), up_cell _ _ _ _ (show 110 ≠ 98 by decide)]; exact h12 y y0 y1) (fun y y0 y1 => by rw [hw_6, up_cell _ _ _ _ (by decide)]; exact h117 y y0 y1) (fun y y0 y1 => by rw [hw_6, up_cell _ _ _ _ (by decide)]; exact h99 y y0 y1) (fun y y0 y1 => by
                            rw [hw_6]
                            by_cases g : y = x
                            · rw [g, up_same]
                            · rw [up_idx _ _ _ _ g]; exact h98 y y0 (by omega)) (by omega)
              exact L131 _ 0 w1 (by omega) (by omega) hF hZ h12 h117 (fun y y0 y1 => h99 y y0 (by omega)) (fun y a c => by omega) (Nat.lt_succ_self _)
            · skip
              refine zA_aload_n dX12_forget_116 rfl ?_
              refine zA_getR (n := 99) dX12_forget_117 fX12_106 y73_ rfl ?_
              refine zA_iload_n dX12_forget_120 rfl ?_
              refine zA_iconst dX12_forget_121 ?_
              refine zA_iastore dX12_forget_122 ⟨by decide, by decide⟩ y99_ (by first | assumption | omega) (by first | assumption | omega) (by decide) ?_
              refine zA_namew (fun w_7 hw_7 => ?_)
              refine zA_range (fun hr => ?_)
              replace hw_7 : w_7 = up w1 99 x 0 := hw_7
              refine zA_iinc (lo1 := [zR 73, zI (x + 1), .null]) dX12_forget_123 rfl (by decide) rfl rfl ?_
              refine zA_goto (tgt := 109) dX12_forget_126 (by decide) ?_
              exact ih109 (x + 1) _ (by omega) (by omega) (fun c y a1 a2 a3 a4 a5 a6 a7 a8 a9 a10 => by rw [hw_7, up_cell _ _ _ _ a4]; exact hF c y a1 a2 a3 a4 a5 a6 a7 a8 a9 a10) (by rw [hw_7]; simp only [up_cell _ _ _ _ (show 73 ≠ 99 by decide)]; exact hZ) (fun y y0 y1 => by rw [hw_7]; simp only [up_cell _ _ _ _ (show 89 ≠ 99 by decide), up_cell _ _ _ _ (show 90 ≠ 99 by decide), up_cell _ _ _ _ (show 105 ≠ 99 by decide), up_cell _ _ _ _ (show 107 ≠ 99 by decide), up_cell _ _ _ _ (show 109 ≠ 99 by decide), up_cell _ _ _ _ (show 110 ≠ 99 by decide)]; exact h12 y y0 y1) (fun y y0 y1 => by rw [hw_7, up_cell _ _ _ _ (by decide)]; exact h117 y y0 y1) (fun y y0 y1 => by
                      rw [hw_7]
                      by_cases g : y = x
                      · rw [g, up_same]
                      · rw [up_idx _ _ _ _ g]; exact h99 y y0 (by omega)) (by omega)
        exact L109 _ 0 w1 (by omega) (by omega) hF hZ (fun y y0 y1 => h12 y y0 (by omega)) (fun y y0 y1 => h117 y y0 (by omega)) (fun y a c => by omega) (Nat.lt_succ_self _)
      · skip
        refine zA_aload_n dX12_forget_33 rfl ?_
        refine zA_getR (n := 89) dX12_forget_34 fX12_72 y73_ rfl ?_
        refine zA_iload_n dX12_forget_37 rfl ?_
        refine zA_iconst dX12_forget_38 ?_
        refine zA_iastore dX12_forget_39 ⟨by decide, by decide⟩ y89_ (by first | assumption | omega) (by first | assumption | omega) (by decide) ?_
        refine zA_namew (fun w_8 hw_8 => ?_)
        refine zA_range (fun hr => ?_)
        replace hw_8 : w_8 = up w1 89 k 0 := hw_8
        refine zA_aload_n dX12_forget_40 rfl ?_
        refine zA_getR (n := 90) dX12_forget_41 fX12_75 y73_ rfl ?_
        refine zA_iload_n dX12_forget_44 rfl ?_
        refine zA_iconst dX12_forget_45 ?_
        refine zA_iastore dX12_forget_46 ⟨by decide, by decide⟩ y90_ (by first | assumption | omega) (by first | assumption | omega) (by decide) ?_
        refine zA_namew (fun w_9 hw_9 => ?_)
        refine zA_range (fun hr => ?_)
        replace hw_9 : w_9 = up w_8 90 k 0 := hw_9
        refine zA_aload_n dX12_forget_47 rfl ?_
        refine zA_getR (n := 105) dX12_forget_48 fX12_124 y73_ rfl ?_
        refine zA_iload_n dX12_forget_51 rfl ?_
        refine zA_iconst dX12_forget_52 ?_
        refine zA_iastore dX12_forget_53 ⟨by decide, by decide⟩ y105_ (by first | assumption | omega) (by first | assumption | omega) (by decide) ?_
        refine zA_namew (fun w_10 hw_10 => ?_)
        refine zA_range (fun hr => ?_)
        replace hw_10 : w_10 = up w_9 105 k 0 := hw_10
        refine zA_aload_n dX12_forget_54 rfl ?_
        refine zA_getR (n := 107) dX12_forget_55 fX12_130 y73_ rfl ?_
        refine zA_iload_n dX12_forget_58 rfl ?_
        refine zA_iconst dX12_forget_59 ?_
        refine zA_iastore dX12_forget_60 ⟨by decide, by decide⟩ y107_ (by first | assumption | omega) (by first | assumption | omega) (by decide) ?_
        refine zA_namew (fun w_11 hw_11 => ?_)
        refine zA_range (fun hr => ?_)
        replace hw_11 : w_11 = up w_10 107 k 0 := hw_11
        refine zA_aload_n dX12_forget_61 rfl ?_
        refine zA_getR (n := 109) dX12_forget_62 fX12_136 y73_ rfl ?_
        refine zA_iload_n dX12_forget_65 rfl ?_
        refine zA_iconst dX12_forget_66 ?_
        refine zA_iastore dX12_forget_67 ⟨by decide, by decide⟩ y109_ (by first | assumption | omega) (by first | assumption | omega) (by decide) ?_
        refine zA_namew (fun w_12 hw_12 => ?_)
        refine zA_range (fun hr => ?_)
        replace hw_12 : w_12 = up w_11 109 k 0 := hw_12
        refine zA_aload_n dX12_forget_68 rfl ?_
        refine zA_getR (n := 110) dX12_forget_69 fX12_139 y73_ rfl ?_
        refine zA_iload_n dX12_forget_72 rfl ?_
        refine zA_iconst dX12_forget_73 ?_
        refine zA_iastore dX12_forget_74 ⟨by decide, by decide⟩ y110_ (by first | assumption | omega) (by first | assumption | omega) (by decide) ?_
        refine zA_namew (fun w_13 hw_13 => ?_)
        refine zA_range (fun hr => ?_)
        replace hw_13 : w_13 = up w_12 110 k 1 := hw_13
        refine zA_iconst dX12_forget_75 ?_
        refine zA_istore_n (lo1 := [zR 73, zI k, zI 0]) dX12_forget_76 (by decide) rfl rfl ?_
        have L77 : ∀ (z77 : Nat) (x : Int) (w1 : zW) (x0 : 0 ≤ x) (x1 : x ≤ 6) (hF : ∀ c x, c ≠ 89 → c ≠ 90 → c ≠ 98 → c ≠ 99 → c ≠ 105 → c ≠ 107 → c ≠ 109 → c ≠ 110 → c ≠ 117 → (c ≠ 73 ∨ (x ≠ 26 ∧ x ≠ 54 ∧ x ≠ 55 ∧ x ≠ 71 ∧ x ≠ 76)) → w1 c x = w c x) (hZ : w1 73 26 = -1 ∧ w1 73 76 = -1 ∧ w1 73 71 = 0 ∧ w1 73 54 = 0 ∧ w1 73 55 = 0) (h12 : ∀ x : Int, 0 ≤ x → x < k + 1 → (w1 89 x = 0 ∧ w1 90 x = 0) ∧ (w1 105 x = 0 ∧ w1 107 x = 0) ∧ w1 109 x = 0 ∧ w1 110 x = 1) (h117 : ∀ y : Int, 0 ≤ y → y < 6 * k + x → w1 117 y = 0) (zm : (6 - x).toNat < z77), zA l mX12_forget gr 2 0 0 (fun v' S' w' => v' = none ∧ S' = (ZY t dr tx) ∧ fgQ w w') zNo 77 [zR 73, zI k, zI x] [] (ZY t dr tx) w1 := by
          intro z77
          induction z77 with
          | zero => intro x w1 x0 x1 hF hZ h12 h117 zm; exact absurd zm (Nat.not_lt_zero _)
          | succ z77 ih77 =>
            intro x w1 x0 x1 hF hZ h12 h117 zm
            refine zA_range (fun hr => ?_)
            refine zA_iload_n dX12_forget_77 rfl ?_
            refine zA_bipush dX12_forget_78 rfl ?_
            refine zA_icmp_ge (tgt := 101) dX12_forget_80 (by decide) (by first | assumption | exact hr _ _ | exact inR_mk (by omega) (by omega)) ⟨by decide, by decide⟩ (fun c80 => ?_) (fun c80 => ?_)
            · skip
              refine zA_iinc (lo1 := [zR 73, zI (k + 1), zI x]) dX12_forget_101 rfl (by decide) rfl rfl ?_
              refine zA_goto (tgt := 27) dX12_forget_104 (by decide) ?_
              refine zA_drop 2 (lo1 := [zR 73, zI (k + 1), .null]) rfl ?_
              exact ih27 (k + 1) w1 (by omega) (by omega) hF hZ h12 (fun y y0 y1 => h117 y y0 (by omega)) (by omega)
            · skip
              refine zA_aload_n dX12_forget_83 rfl ?_
              refine zA_getR (n := 117) dX12_forget_84 fX12_163 y73_ rfl ?_
              refine zA_bipush dX12_forget_87 rfl ?_
              refine zA_iload_n dX12_forget_89 rfl ?_
              refine zA_imul dX12_forget_90 ?_
              refine zA_iload_n dX12_forget_91 rfl ?_
              refine zA_iadd dX12_forget_92 ?_
              refine zA_iconst dX12_forget_93 ?_
              refine zA_iastore dX12_forget_94 ⟨by decide, by decide⟩ y117_ (by first | assumption | omega) (by first | assumption | omega) (by decide) ?_
              refine zA_namew (fun w_14 hw_14 => ?_)
              refine zA_range (fun hr => ?_)
              replace hw_14 : w_14 = up w1 117 ((6 * k) + x) 0 := hw_14
              refine zA_iinc (lo1 := [zR 73, zI k, zI (x + 1)]) dX12_forget_95 rfl (by decide) rfl rfl ?_
              refine zA_goto (tgt := 77) dX12_forget_98 (by decide) ?_
              exact ih77 (x + 1) _ (by omega) (by omega) (fun c y a1 a2 a3 a4 a5 a6 a7 a8 a9 a10 => by rw [hw_14, up_cell _ _ _ _ a9]; exact hF c y a1 a2 a3 a4 a5 a6 a7 a8 a9 a10) (by rw [hw_14]; simp only [up_cell _ _ _ _ (show 73 ≠ 117 by decide)]; exact hZ) (fun y y0 y1 => by rw [hw_14]; simp only [up_cell _ _ _ _ (show 89 ≠ 117 by decide), up_cell _ _ _ _ (show 90 ≠ 117 by decide), up_cell _ _ _ _ (show 105 ≠ 117 by decide), up_cell _ _ _ _ (show 107 ≠ 117 by decide), up_cell _ _ _ _ (show 109 ≠ 117 by decide), up_cell _ _ _ _ (show 110 ≠ 117 by decide)]; exact h12 y y0 y1) (fun y y0 y1 => by
                      rw [hw_14]
                      by_cases g : y = 6 * k + x
                      · rw [g, up_same]
                      · rw [up_idx _ _ _ _ g]; exact h117 y y0 (by omega)) (by omega)
        exact L77 _ 0 _ (by omega) (by omega) (fun c y a1 a2 a3 a4 a5 a6 a7 a8 a9 a10 => by rw [hw_13, up_cell _ _ _ _ a8, hw_12, up_cell _ _ _ _ a7, hw_11, up_cell _ _ _ _ a6, hw_10, up_cell _ _ _ _ a5, hw_9, up_cell _ _ _ _ a2, hw_8, up_cell _ _ _ _ a1]; exact hF c y a1 a2 a3 a4 a5 a6 a7 a8 a9 a10) (by
              have e : ∀ y, w_13 73 y = w1 73 y := fun y => by rw [hw_13, up_cell _ _ _ _ (by decide), hw_12, up_cell _ _ _ _ (by decide), hw_11, up_cell _ _ _ _ (by decide), hw_10, up_cell _ _ _ _ (by decide), hw_9, up_cell _ _ _ _ (by decide), hw_8, up_cell _ _ _ _ (by decide)]
              simp only [e]; exact hZ) (fun y y0 y1 => by
              by_cases g : y = k
              · subst g
                refine ⟨⟨?_, ?_⟩, ⟨?_, ?_⟩, ?_, ?_⟩
                · rw [hw_13, up_cell _ _ _ _ (by decide), hw_12, up_cell _ _ _ _ (by decide), hw_11, up_cell _ _ _ _ (by decide), hw_10, up_cell _ _ _ _ (by decide), hw_9, up_cell _ _ _ _ (by decide), hw_8, up_same]
                · rw [hw_13, up_cell _ _ _ _ (by decide), hw_12, up_cell _ _ _ _ (by decide), hw_11, up_cell _ _ _ _ (by decide), hw_10, up_cell _ _ _ _ (by decide), hw_9, up_same]
                · rw [hw_13, up_cell _ _ _ _ (by decide), hw_12, up_cell _ _ _ _ (by decide), hw_11, up_cell _ _ _ _ (by decide), hw_10, up_same]
                · rw [hw_13, up_cell _ _ _ _ (by decide), hw_12, up_cell _ _ _ _ (by decide), hw_11, up_same]
                · rw [hw_13, up_cell _ _ _ _ (by decide), hw_12, up_same]
                · rw [hw_13, up_same]
              · have e : ∀ c, w_13 c y = w1 c y := fun c => by rw [hw_13, up_idx _ _ _ _ g, hw_12, up_idx _ _ _ _ g, hw_11, up_idx _ _ _ _ g, hw_10, up_idx _ _ _ _ g, hw_9, up_idx _ _ _ _ g, hw_8, up_idx _ _ _ _ g]
                simp only [e]; exact h12 y y0 (by omega)) (fun y y0 y1 => by rw [hw_13, up_cell _ _ _ _ (by decide), hw_12, up_cell _ _ _ _ (by decide), hw_11, up_cell _ _ _ _ (by decide), hw_10, up_cell _ _ _ _ (by decide), hw_9, up_cell _ _ _ _ (by decide), hw_8, up_cell _ _ _ _ (by decide)]; exact h117 y y0 (by omega)) (Nat.lt_succ_self _)
  exact L27 _ 0 _ (by omega) (by omega) (fun c x _ _ _ _ _ _ _ _ _ a => by rw [hw_5, up_n (by omega), hw_4, up_n (by omega), hw_3, up_n (by omega), hw_2, up_n (by omega), hw_1, up_n (by omega)]) (by
      refine ⟨?_, ?_, ?_, ?_, ?_⟩
      · rw [hw_5, up_idx _ _ _ _ (by decide), hw_4, up_idx _ _ _ _ (by decide), hw_3, up_idx _ _ _ _ (by decide), hw_2, up_idx _ _ _ _ (by decide), hw_1, up_same]
      · rw [hw_5, up_idx _ _ _ _ (by decide), hw_4, up_idx _ _ _ _ (by decide), hw_3, up_idx _ _ _ _ (by decide), hw_2, up_same]
      · rw [hw_5, up_idx _ _ _ _ (by decide), hw_4, up_idx _ _ _ _ (by decide), hw_3, up_same]
      · rw [hw_5, up_idx _ _ _ _ (by decide), hw_4, up_same]
      · rw [hw_5, up_same]) (fun x a c => by omega) (fun x a c => by omega) (Nat.lt_succ_self _)
theorem zas_refl {vm : Vm} {c : ClassId} : vm.assignable c c = true := by
  show Vm.assignableAux vm (255 + 1) c c = true
  unfold Vm.assignableAux
  rw [beq_self_eq_true, Bool.true_or]
section ZS
variable {l : Launch} {M : zM} {d bc bs : Nat} {Q : Option Value → zS → zW → Prop} {X : String → zS → zW → Prop} {pc : Nat} {lo st : List Value} {S : zS} {w : zW}
theorem zN_anewa {idx n bc2 bs2 : Nat} {z : Int} (hd : decode M.2.1 pc = .ok (.anewarray idx, 3)) (hlk : Cond.classLink M.1.cls idx "java/lang/String" ∈ zTB) (hz : z = (n : Int)) (hn : n < 100000) (hw : ∀ x : Int, w S.length x < 0) (hb : bc = bc2 + 1 ∧ bs = bs2 + n) (hl : S.length + 1 < 1000) (kk : zA l M true d bc2 bs2 Q X (pc + 3) lo (zR S.length :: st) (S ++ [.inl (3, n)]) w) : zA l M true d bc bs Q X pc lo (zI z :: st) S w := by
  subst hz
  intro p e R s m args below meth c Z G ad A hC H locs ls cells slots hR hS hL hc hs
  obtain ⟨h1, h2, h3, h4, h5, h6, ⟨n0, h7⟩, h8, h9, h10, h11, h12, h13, h14⟩ := id hC
  obtain ⟨hsz, had⟩ := hR.2.2.2.2 rfl
  have hni : (Int32.ofInt (n : Int)).toInt = (n : Int) := inR_n ⟨by omega, by omega⟩
  have hneg : ¬ Int32.ofInt (n : Int) < 0 := by
    have : ¬ (n : Int) < 0 := by omega
    exact fun q => this ((zlt ⟨by omega, by omega⟩ ⟨by decide, by decide⟩).mp (show Int32.ofInt (n : Int) < Int32.ofInt 0 from q))
  have hcl : (Int32.ofInt (n : Int)).toNatClampNeg = n := by
    show (Int32.ofInt (n : Int)).toInt.toNat = n
    rw [hni]; simp
  refine W.anew h1 h2 h4 (h5 _ hlk) (va_AO.use h9.2.2.2.2.2.2.2.2.2.1) rfl hd rfl hneg (by rw [hcl]; omega) (by omega) (by rw [hcl]; omega) (fun cA kA comp f1 f2 f3 f4 => ?_)
  rw [hcl]
  have z1 : (H.push ({ cls := cA, slots := Array.replicate n .null, vm := .none } : Cell)).size = H.size + 1 := Array.size_push _
  have o1 : ∀ q : Nat, q < H.size → (H.push ({ cls := cA, slots := Array.replicate n .null, vm := .none } : Cell))[q]? = H[q]? := fun q hq => by rw [Array.getElem?_push, if_neg (Nat.ne_of_lt hq)]
  have hA : A H.size := by rw [h7]; exact Or.inr hS.1
  have hat : va_at G.1 vwCl (H.size, zent G ad w S.length (.inl (3, n))) (H.push ({ cls := cA, slots := Array.replicate n .null, vm := .none } : Cell)) := by
    obtain ⟨kA', comp', q1, q2, q3, q4⟩ := (hR.2.1.2 3 (G.2 3, .object "java/lang/String") rfl).2
    have hcA : cA = G.2 3 := Option.some.inj (f1.symm.trans q4)
    subst hcA
    show (H.push ({ cls := G.2 3, slots := Array.replicate n .null, vm := .none } : Cell))[H.size]? = some (arrV (G.2 3) n (fun j => va_rf (if w S.length (j : Int) < 0 then none else some (ad (w S.length (j : Int)).toNat))))
    rw [Array.getElem?_push_size, arrV_new]
    congr 2
    funext j
    rw [if_pos (hw _)]; rfl
  have hR' := zRp_push (x := .inl (3, n)) hR hl rfl z1 o1 hat hA
  have k := kk p e R s m args below meth c Z G ad A hC _ locs ls (cells + 1) (slots + n) hR' (va_S_push hS z1 o1) hL (by omega) (by omega)
  rw [hsz]
  exact k
theorem zent_ssto {G : zG} {ad : Nat → Nat} {w : zW} {c n a : Nat} {i : Int} (h0 : 0 ≤ i) : (Sum.inl (G.2 3, n, .inr (.inr (.inr (.inr (va_up (fun j => if w c (j : Int) < 0 then none else some (ad (w c (j : Int)).toNat)) i.toNat (some (ad a))))))) : va_E) = zent G ad (up w c i (a : Int)) c (.inl (3, n)) := by
  have : (va_up (fun j : Nat => if w c (j : Int) < 0 then none else some (ad (w c (j : Int)).toNat)) i.toNat (some (ad a))) = fun j : Nat => if up w c i (a : Int) c (j : Int) < 0 then none else some (ad (up w c i (a : Int) c (j : Int)).toNat) := by
    funext j
    unfold va_up
    by_cases hj : j = i.toNat
    · rw [if_pos hj, hj, Int.toNat_of_nonneg h0, up_same, if_neg (by omega), Int.toNat_natCast]
    · rw [if_neg hj, up_idx w c c _ (by omega)]
  rw [this]
  rfl
theorem zN_aastS {c0 n k : Nat} {i : Int} (hd : decode M.2.1 pc = .ok (.aastore, 1)) (hc0 : S[c0]? = some (.inl (3, n))) (h0 : 0 ≤ i) (h1 : i < (n : Int)) (hn : n < 2147483648) (hk : k < znJ) (kk : zA l M true d bc bs Q X (pc + 1) lo st S (up w c0 i ((1000 + k : Nat) : Int))) : zA l M true d bc bs Q X pc lo (zR (1000 + k) :: zI i :: zR c0 :: st) S w := by
  intro p e R s m args below meth c Z G ad A hC H locs ls cells slots hR hS hL hc hs
  obtain ⟨g1, g2, g3, g4, g5, g6, ⟨n0, g7⟩, g8, g9, g10, g11, g12, g13, g14⟩ := id hC
  obtain ⟨hi1, hi2⟩ := zix h0 h1 hn
  obtain ⟨cellV, v1, v2, v3, v4⟩ := ((g9.2.2.2.1.kept (fun a ha hna => hS.2.1 a ha hna)).1 k hk).1
  obtain ⟨kC, hkC, -⟩ := Vm.findClass_spec v3
  obtain ⟨kA, comp, k1, k2, k3, -⟩ := (hR.2.1.2 3 (G.2 3, .object "java/lang/String") rfl).2
  have hcomp : comp = cellV.cls := Option.some.inj (k3.symm.trans v3)
  have ha : (zcs G ad w S)[c0]? = some (ad c0, zent G ad w c0 (.inl (3, n))) := zcs_get hc0
  refine W.aast g1 g2 (hR.1 c0 _ ha) (fun q h => by cases h) (fun h => by cases h) k1 k2 rfl (by rw [hcomp]; exact hkC) ⟨fun q => hi1 (Or.inl q), by show _ < (arrV _ _ _).slots.size; rw [arrV_size]; exact Nat.not_le.mp fun q => hi1 (Or.inr q)⟩ v1 (fun q h => by rw [h] at v2; cases v2) hkC (by rw [hcomp]; exact zas_refl) rfl rfl hd (fun H1 e1 z oq => ?_)
  have hup : (zcs G ad w S).set c0 (ad c0, zent G ad (up w c0 i ((1000 + k : Nat) : Int)) c0 (.inl (3, n))) = zcs G ad (up w c0 i ((1000 + k : Nat) : Int)) S := by
    rw [zcs_set (kd' := .inl (3, n)) (w' := up w c0 i ((1000 + k : Nat) : Int)) up_row rfl, zset_self hc0]
  have hat : H1[ad c0]? = some (vp_cell (G.2 3) (n, .inr (.inr (.inr (.inr (va_up (fun j => if w c0 (j : Int) < 0 then none else some (ad (w c0 (j : Int)).toNat)) i.toNat (some (ad (1000 + k))))))))) := by
    rw [e1]
    show some ((vp_cell (G.2 3) (n, .inr (.inr (.inr (.inr (fun j => if w c0 (j : Int) < 0 then none else some (ad (w c0 (j : Int)).toNat))))))).setSlot _ _) = _
    rw [vp_cell_q, vp_cell_q, arrV_store, hi2]
    congr 2
    funext q
    by_cases hq : q = i.toNat
    · subst hq
      simp [updV, va_up, va_rf]
    · simp [updV, va_up, hq]
  have hP1 : va_P G.1 vwCl (zcs G ad (up w c0 i ((1000 + k : Nat) : Int)) S) H1 := by
    rw [← hup, ← zent_ssto h0]
    exact hR.1.set hR.2.2.1 ha hat oq
  have hD1 : va_D A (zcs G ad (up w c0 i ((1000 + k : Nat) : Int)) S) := by
    rw [← hup, ← zent_ssto h0]
    exact hR.2.2.1.set ha
  have hkz : k < 11 := hk
  exact kk p e R s m args below meth c Z G ad A hC H1 _ ls cells slots ⟨hP1, hR.2.1, hD1, up_inR hR.2.2.2.1 (inR_mk (by omega) (by omega)), fun h => by rw [z]; exact hR.2.2.2.2 h⟩ (hS.put z oq (hR.2.2.1.2 c0 _ ha)) hL hc hs
end ZS
