set_option maxRecDepth 100000 in
set_option maxHeartbeats 4000000 in
theorem m_copy {l : Launch} {w : zW} {S : zS} {q z : Nat} {h : Int} (hq : S[q]? = some (.inl (0, z))) (hn : z < 100000) (hz : (z : Int) = 2 * h) : zSp l mX12_copy false 1 0 0 [zR q] S w (fun v' S' w' => v' = none ∧ S' = S ∧ only q w w' ∧ (∀ k : Int, 0 ≤ k → k < h → w' q k = w q (h + k)) ∧ ∀ k : Int, h ≤ k → w' q k = w q k) zNo := by
  refine zA_intro ⟨plainFor_of_name (by decide +kernel), Or.inl (by decide +kernel)⟩ rfl (Nat.le_of_ble_eq_true rfl) ?_
  refine zA_range (fun hr => ?_)
  show zA l mX12_copy false 1 0 0 (fun v' S' w' => v' = none ∧ S' = S ∧ only q w w' ∧ (∀ k : Int, 0 ≤ k → k < h → w' q k = w q (h + k)) ∧ ∀ k : Int, h ≤ k → w' q k = w q k) zNo 0 [zR q, .null, .null] [] S w
  refine zA_aload_n dX12_copy_0 rfl ?_
  refine zA_alen (n := z) dX12_copy_1 hq (by decide) ?_
  refine zA_iconst dX12_copy_2 ?_
  refine zA_idiv dX12_copy_3 (by first | assumption | omega) (by first | assumption | omega) (by first | assumption | omega) (by first | assumption | omega) ?_
  refine zA_valI h (by omega) ?_
  refine zA_istore_n (lo1 := [zR q, zI h, .null]) dX12_copy_4 (by decide) rfl rfl ?_
  refine zA_iconst dX12_copy_5 ?_
  refine zA_istore_n (lo1 := [zR q, zI h, zI 0]) dX12_copy_6 (by decide) rfl rfl ?_
  have L7 : ∀ (z7 : Nat) (x : Int) (w1 : zW) (x0 : 0 ≤ x) (x1 : x ≤ h) (hf : only q w w1) (h1 : ∀ k : Int, 0 ≤ k → k < x → w1 q k = w q (h + k)) (h2 : ∀ k : Int, x ≤ k → w1 q k = w q k) (zm : (h - x).toNat < z7), zA l mX12_copy false 1 0 0 (fun v' S' w' => v' = none ∧ S' = S ∧ only q w w' ∧ (∀ k : Int, 0 ≤ k → k < h → w' q k = w q (h + k)) ∧ ∀ k : Int, h ≤ k → w' q k = w q k) zNo 7 [zR q, zI h, zI x] [] S w1 := by
    intro z7
    induction z7 with
    | zero => intro x w1 x0 x1 hf h1 h2 zm; exact absurd zm (Nat.not_lt_zero _)
    | succ z7 ih7 =>
      intro x w1 x0 x1 hf h1 h2 zm
      refine zA_range (fun hr => ?_)
      refine zA_iload_n dX12_copy_7 rfl ?_
      refine zA_iload_n dX12_copy_8 rfl ?_
      refine zA_icmp_ge (tgt := 26) dX12_copy_9 (by decide) (by first | assumption | exact hr _ _ | exact inR_mk (by omega) (by omega)) (by first | assumption | exact hr _ _ | exact inR_mk (by omega) (by omega)) (fun c9 => ?_) (fun c9 => ?_)
      · skip
        refine zA_vret dX12_copy_26 rfl ?_
        exact ⟨rfl, rfl, hf, fun k a b => h1 k a (by omega), fun k a => h2 k (by omega)⟩
      · skip
        refine zA_aload_n dX12_copy_12 rfl ?_
        refine zA_iload_n dX12_copy_13 rfl ?_
        refine zA_aload_n dX12_copy_14 rfl ?_
        refine zA_iload_n dX12_copy_15 rfl ?_
        refine zA_iload_n dX12_copy_16 rfl ?_
        refine zA_iadd dX12_copy_17 ?_
        refine zA_iaload dX12_copy_18 hq (by first | assumption | omega) (by first | assumption | omega) (by omega) ?_
        refine zA_iastore dX12_copy_19 (by first | assumption | exact hr _ _ | exact inR_mk (by omega) (by omega)) hq (by first | assumption | omega) (by first | assumption | omega) (by omega) ?_
        refine zA_namew (fun w_1 hw_1 => ?_)
        refine zA_range (fun hr => ?_)
        replace hw_1 : w_1 = up w1 q x (w1 q (h + x)) := hw_1
        refine zA_iinc (lo1 := [zR q, zI h, zI (x + 1)]) dX12_copy_20 rfl (by decide) rfl rfl ?_
        refine zA_goto (tgt := 7) dX12_copy_23 (by decide) ?_
        exact ih7 (x + 1) _ (by omega) (by omega) (by rw [hw_1]; exact only_up hf) (fun k a b => by
                rw [hw_1]
                by_cases g : k = x
                · rw [g, up_same]; exact h2 _ (by omega)
                · rw [up_idx _ _ _ _ g]; exact h1 k a (by omega)) (fun k a => by rw [hw_1, up_idx _ _ _ _ (by omega)]; exact h2 k (by omega)) (by omega)
  exact L7 _ 0 w (by omega) (by omega) only_rfl (fun k a b => by omega) (fun _ _ => rfl) (Nat.lt_succ_self _)

set_option maxRecDepth 100000 in
set_option maxHeartbeats 4000000 in
theorem m_forget {l : Launch} {t dr tx : Nat} {w : zW} {gr : Bool}  : zSp l mX12_forget gr 2 0 0 [zR 73] (ZZ t dr tx) w (fun v' S' w' => v' = none ∧ S' = (ZZ t dr tx) ∧ fgQ w w') zNo := by
  refine zA_intro ⟨plainFor_of_name (by decide +kernel), Or.inl (by decide +kernel)⟩ rfl (Nat.le_of_ble_eq_true rfl) ?_
  refine zA_range (fun hr => ?_)
  show zA l mX12_forget gr 2 0 0 (fun v' S' w' => v' = none ∧ S' = (ZZ t dr tx) ∧ fgQ w w') zNo 0 [zR 73, .null, .null] [] (ZZ t dr tx) w
  refine zA_aload_n dX12_forget_0 rfl ?_
  refine zA_iconst dX12_forget_1 ?_
  refine zA_putI dX12_forget_2 fX12_69 c73 rfl ⟨by decide, by decide⟩ ⟨rfl, rfl⟩ ?_
  refine zA_namew (fun w_1 hw_1 => ?_)
  refine zA_range (fun hr => ?_)
  replace hw_1 : w_1 = up w 73 26 (-1) := hw_1
  refine zA_aload_n dX12_forget_5 rfl ?_
  refine zA_iconst dX12_forget_6 ?_
  refine zA_putI dX12_forget_7 fX12_157 c73 rfl ⟨by decide, by decide⟩ ⟨rfl, rfl⟩ ?_
  refine zA_namew (fun w_2 hw_2 => ?_)
  refine zA_range (fun hr => ?_)
  replace hw_2 : w_2 = up w_1 73 76 (-1) := hw_2
  refine zA_aload_n dX12_forget_10 rfl ?_
  refine zA_iconst dX12_forget_11 ?_
  refine zA_putI dX12_forget_12 fX12_302 c73 rfl ⟨by decide, by decide⟩ ⟨rfl, rfl⟩ ?_
  refine zA_namew (fun w_3 hw_3 => ?_)
  refine zA_range (fun hr => ?_)
  replace hw_3 : w_3 = up w_2 73 71 0 := hw_3
  refine zA_aload_n dX12_forget_15 rfl ?_
  refine zA_iconst dX12_forget_16 ?_
  refine zA_putI dX12_forget_17 fX12_305 c73 rfl ⟨by decide, by decide⟩ ⟨rfl, rfl⟩ ?_
  refine zA_namew (fun w_4 hw_4 => ?_)
  refine zA_range (fun hr => ?_)
  replace hw_4 : w_4 = up w_3 73 54 0 := hw_4
  refine zA_aload_n dX12_forget_20 rfl ?_
  refine zA_iconst dX12_forget_21 ?_
  refine zA_putI dX12_forget_22 fX12_308 c73 rfl ⟨by decide, by decide⟩ ⟨by rfl, by rfl⟩ ?_
  refine zA_namew (fun w_5 hw_5 => ?_)
  refine zA_range (fun hr => ?_)
  replace hw_5 : w_5 = up w_4 73 55 0 := hw_5
  refine zA_iconst dX12_forget_25 ?_
  refine zA_istore_n (lo1 := [zR 73, zI 0, .null]) dX12_forget_26 (by decide) rfl rfl ?_
  have L27 : ∀ (z27 : Nat) (k : Int) (w1 : zW) (k0 : 0 ≤ k) (k1 : k ≤ 12) (hF : ∀ c x, c ≠ 89 → c ≠ 90 → c ≠ 98 → c ≠ 99 → c ≠ 105 → c ≠ 107 → c ≠ 109 → c ≠ 110 → c ≠ 117 → (c ≠ 73 ∨ (x ≠ 26 ∧ x ≠ 54 ∧ x ≠ 55 ∧ x ≠ 71 ∧ x ≠ 76)) → w1 c x = w c x) (hZ : w1 73 26 = -1 ∧ w1 73 76 = -1 ∧ w1 73 71 = 0 ∧ w1 73 54 = 0 ∧ w1 73 55 = 0) (h12 : ∀ x : Int, 0 ≤ x → x < k → (w1 89 x = 0 ∧ w1 90 x = 0) ∧ (w1 105 x = 0 ∧ w1 107 x = 0) ∧ w1 109 x = 0 ∧ w1 110 x = 1) (h117 : ∀ x : Int, 0 ≤ x → x < 6 * k → w1 117 x = 0) (zm : (12 - k).toNat < z27), zA l mX12_forget gr 2 0 0 (fun v' S' w' => v' = none ∧ S' = (ZZ t dr tx) ∧ fgQ w w') zNo 27 [zR 73, zI k, .null] [] (ZZ t dr tx) w1 := by
    intro z27
    induction z27 with
    | zero => intro k w1 k0 k1 hF hZ h12 h117 zm; exact absurd zm (Nat.not_lt_zero _)
    | succ z27 ih27 =>
      intro k w1 k0 k1 hF hZ h12 h117 zm
      refine zA_range (fun hr => ?_)
      refine zA_iload_n dX12_forget_27 rfl ?_
      refine zA_bipush dX12_forget_28 rfl ?_
      refine zA_icmp_ge (tgt := 107) dX12_forget_30 (by decide) (by first | assumption | exact hr _ _ | exact inR_mk (by omega) (by omega)) ⟨by decide, by decide⟩ (fun c30 => ?_) (fun c30 => ?_)
      · skip
        refine zA_iconst dX12_forget_107 ?_
        refine zA_istore_n (lo1 := [zR 73, zI 0, .null]) dX12_forget_108 (by decide) rfl rfl ?_
        have L109 : ∀ (z109 : Nat) (x : Int) (w1 : zW) (x0 : 0 ≤ x) (x1 : x ≤ 360) (hF : ∀ c x, c ≠ 89 → c ≠ 90 → c ≠ 98 → c ≠ 99 → c ≠ 105 → c ≠ 107 → c ≠ 109 → c ≠ 110 → c ≠ 117 → (c ≠ 73 ∨ (x ≠ 26 ∧ x ≠ 54 ∧ x ≠ 55 ∧ x ≠ 71 ∧ x ≠ 76)) → w1 c x = w c x) (hZ : w1 73 26 = -1 ∧ w1 73 76 = -1 ∧ w1 73 71 = 0 ∧ w1 73 54 = 0 ∧ w1 73 55 = 0) (h12 : ∀ x : Int, 0 ≤ x → x < 12 → (w1 89 x = 0 ∧ w1 90 x = 0) ∧ (w1 105 x = 0 ∧ w1 107 x = 0) ∧ w1 109 x = 0 ∧ w1 110 x = 1) (h117 : ∀ y : Int, 0 ≤ y → y < 72 → w1 117 y = 0) (h99 : ∀ y : Int, 0 ≤ y → y < x → w1 99 y = 0) (zm : (360 - x).toNat < z109), zA l mX12_forget gr 2 0 0 (fun v' S' w' => v' = none ∧ S' = (ZZ t dr tx) ∧ fgQ w w') zNo 109 [zR 73, zI x, .null] [] (ZZ t dr tx) w1 := by
          intro z109
          induction z109 with
          | zero => intro x w1 x0 x1 hF hZ h12 h117 h99 zm; exact absurd zm (Nat.not_lt_zero _)
          | succ z109 ih109 =>
            intro x w1 x0 x1 hF hZ h12 h117 h99 zm
            refine zA_range (fun hr => ?_)
            refine zA_iload_n dX12_forget_109 rfl ?_
            refine zA_sipush dX12_forget_110 rfl ?_
            refine zA_icmp_ge (tgt := 129) dX12_forget_113 (by decide) (by first | assumption | exact hr _ _ | exact inR_mk (by omega) (by omega)) ⟨by decide, by decide⟩ (fun c113 => ?_) (fun c113 => ?_)
            · skip
              refine zA_iconst dX12_forget_129 ?_
              refine zA_istore_n (lo1 := [zR 73, zI 0, .null]) dX12_forget_130 (by decide) rfl rfl ?_
              have L131 : ∀ (z131 : Nat) (x : Int) (w1 : zW) (x0 : 0 ≤ x) (x1 : x ≤ 7) (hF : ∀ c x, c ≠ 89 → c ≠ 90 → c ≠ 98 → c ≠ 99 → c ≠ 105 → c ≠ 107 → c ≠ 109 → c ≠ 110 → c ≠ 117 → (c ≠ 73 ∨ (x ≠ 26 ∧ x ≠ 54 ∧ x ≠ 55 ∧ x ≠ 71 ∧ x ≠ 76)) → w1 c x = w c x) (hZ : w1 73 26 = -1 ∧ w1 73 76 = -1 ∧ w1 73 71 = 0 ∧ w1 73 54 = 0 ∧ w1 73 55 = 0) (h12 : ∀ x : Int, 0 ≤ x → x < 12 → (w1 89 x = 0 ∧ w1 90 x = 0) ∧ (w1 105 x = 0 ∧ w1 107 x = 0) ∧ w1 109 x = 0 ∧ w1 110 x = 1) (h117 : ∀ y : Int, 0 ≤ y → y < 72 → w1 117 y = 0) (h99 : ∀ y : Int, 0 ≤ y → y < 360 → w1 99 y = 0) (h98 : ∀ y : Int, 0 ≤ y → y < x → w1 98 y = 0) (zm : (7 - x).toNat < z131), zA l mX12_forget gr 2 0 0 (fun v' S' w' => v' = none ∧ S' = (ZZ t dr tx) ∧ fgQ w w') zNo 131 [zR 73, zI x, .null] [] (ZZ t dr tx) w1 := by
                intro z131
                induction z131 with
                | zero => intro x w1 x0 x1 hF hZ h12 h117 h99 h98 zm; exact absurd zm (Nat.not_lt_zero _)
                | succ z131 ih131 =>
                  intro x w1 x0 x1 hF hZ h12 h117 h99 h98 zm
                  refine zA_range (fun hr => ?_)
                  refine zA_iload_n dX12_forget_131 rfl ?_
                  refine zA_bipush dX12_forget_132 rfl ?_
                  refine zA_icmp_ge (tgt := 150) dX12_forget_134 (by decide) (by first | assumption | exact hr _ _ | exact inR_mk (by omega) (by omega)) ⟨by decide, by decide⟩ (fun c134 => ?_) (fun c134 => ?_)
                  · skip
                    refine zA_vret dX12_forget_150 rfl ?_
                    exact ⟨rfl, rfl, hF, hZ, h12, h99, fun y y0 y1 => h98 y y0 (by omega), h117⟩
                  · skip
                    refine zA_aload_n dX12_forget_137 rfl ?_
                    refine zA_getR (n := 98) dX12_forget_138 fX12_103 c73 rfl ?_
                    refine zA_iload_n dX12_forget_141 rfl ?_
                    refine zA_iconst dX12_forget_142 ?_
                    refine zA_iastore dX12_forget_143 ⟨by decide, by decide⟩ c98 (by first | assumption | omega) (by first | assumption | omega) (by decide) ?_
                    refine zA_namew (fun w_6 hw_6 => ?_)
                    refine zA_range (fun hr => ?_)
                    replace hw_6 : w_6 = up w1 98 x 0 := hw_6
                    refine zA_iinc (lo1 := [zR 73, zI (x + 1), .null]) dX12_forget_144 rfl (by decide) rfl rfl ?_
                    refine zA_goto (tgt := 131) dX12_forget_147 (by decide) ?_
                    exact ih131 (x + 1) _ (by omega) (by omega) (fun c y a1 a2 a3 a4 a5 a6 a7 a8 a9 a10 => by rw [hw_6, up_cell _ _ _ _ a3]; exact hF c y a1 a2 a3 a4 a5 a6 a7 a8 a9 a10) (by rw [hw_6]; simp only [up_cell _ _ _ _ (show 73 ≠ 98 by decide)]; exact hZ) (fun y y0 y1 => by rw [hw_6]; simp only [up_cell _ _ _ _ (show 89 ≠ 98 by decide), up_cell _ _ _ _ (show 90 ≠ 98 by decide), up_cell _ _ _ _ (show 105 ≠ 98 by decide), up_cell _ _ _ _ (show 107 ≠ 98 by decide), up_cell _ _ _ _ (show 109 ≠ 98 by decide), up_cell _ _ _ _ (show 110 ≠ 98 by decide)]; exact h12 y y0 y1) (fun y y0 y1 => by rw [hw_6, up_cell _ _ _ _ (by decide)]; exact h117 y y0 y1) (fun y y0 y1 => by rw [hw_6, up_cell _ _ _ _ (by decide)]; exact h99 y y0 y1) (fun y y0 y1 => by
                            rw [hw_6]
                            by_cases g : y = x
                            · rw [g, up_same]
                            · rw [up_idx _ _ _ _ g]; exact h98 y y0 (by omega)) (by omega)
              exact L131 _ 0 w1 (by omega) (by omega) hF hZ h12 h117 (fun y y0 y1 => h99 y y0 (by omega)) (fun y a c => by omega) (Nat.lt_succ_self _)
            · skip
              refine zA_aload_n dX12_forget_116 rfl ?_
              refine zA_getR (n := 99) dX12_forget_117 fX12_106 c73 rfl ?_
              refine zA_iload_n dX12_forget_120 rfl ?_
              refine zA_iconst dX12_forget_121 ?_
              refine zA_iastore dX12_forget_122 ⟨by decide, by decide⟩ c99 (by first | assumption | omega) (by first | assumption | omega) (by decide) ?_
              refine zA_namew (fun w_7 hw_7 => ?_)
              refine zA_range (fun hr => ?_)
              replace hw_7 : w_7 = up w1 99 x 0 := hw_7
              refine zA_iinc (lo1 := [zR 73, zI (x + 1), .null]) dX12_forget_123 rfl (by decide) rfl rfl ?_
              refine zA_goto (tgt := 109) dX12_forget_126 (by decide) ?_
              exact ih109 (x + 1) _ (by omega) (by omega) (fun c y a1 a2 a3 a4 a5 a6 a7 a8 a9 a10 => by rw [hw_7, up_cell _ _ _ _ a4]; exact hF c y a1 a2 a3 a4 a5 a6 a7 a8 a9 a10) (by rw [hw_7]; simp only [up_cell _ _ _ _ (show 73 ≠ 99 by decide)]; exact hZ) (fun y y0 y1 => by rw [hw_7]; simp only [up_cell _ _ _ _ (show 89 ≠ 99 by decide), up_cell _ _ _ _ (show 90 ≠ 99 by decide), up_cell _ _ _ _ (show 105 ≠ 99 by decide), up_cell _ _ _ _ (show 107 ≠ 99 by decide), up_cell _ _ _ _ (show 109 ≠ 99 by decide), up_cell _ _ _ _ (show 110 ≠ 99 by decide)]; exact h12 y y0 y1) (fun y y0 y1 => by rw [hw_7, up_cell _ _ _ _ (by decide)]; exact h117 y y0 y1) (fun y y0 y1 => by
                      rw [hw_7]
                      by_cases g : y = x
                      · rw [g, up_same]
                      · rw [up_idx _ _ _ _ g]; exact h99 y y0 (by omega)) (by omega)
        exact L109 _ 0 w1 (by omega) (by omega) hF hZ (fun y y0 y1 => h12 y y0 (by omega)) (fun y y0 y1 => h117 y y0 (by omega)) (fun y a c => by omega) (Nat.lt_succ_self _)
      · skip
        refine zA_aload_n dX12_forget_33 rfl ?_
        refine zA_getR (n := 89) dX12_forget_34 fX12_72 c73 rfl ?_
        refine zA_iload_n dX12_forget_37 rfl ?_
        refine zA_iconst dX12_forget_38 ?_
        refine zA_iastore dX12_forget_39 ⟨by decide, by decide⟩ c89 (by first | assumption | omega) (by first | assumption | omega) (by decide) ?_
        refine zA_namew (fun w_8 hw_8 => ?_)
        refine zA_range (fun hr => ?_)
        replace hw_8 : w_8 = up w1 89 k 0 := hw_8
        refine zA_aload_n dX12_forget_40 rfl ?_
        refine zA_getR (n := 90) dX12_forget_41 fX12_75 c73 rfl ?_
        refine zA_iload_n dX12_forget_44 rfl ?_
        refine zA_iconst dX12_forget_45 ?_
        refine zA_iastore dX12_forget_46 ⟨by decide, by decide⟩ c90 (by first | assumption | omega) (by first | assumption | omega) (by decide) ?_
        refine zA_namew (fun w_9 hw_9 => ?_)
        refine zA_range (fun hr => ?_)
        replace hw_9 : w_9 = up w_8 90 k 0 := hw_9
        refine zA_aload_n dX12_forget_47 rfl ?_
        refine zA_getR (n := 105) dX12_forget_48 fX12_124 c73 rfl ?_
        refine zA_iload_n dX12_forget_51 rfl ?_
        refine zA_iconst dX12_forget_52 ?_
        refine zA_iastore dX12_forget_53 ⟨by decide, by decide⟩ c105 (by first | assumption | omega) (by first | assumption | omega) (by decide) ?_
        refine zA_namew (fun w_10 hw_10 => ?_)
        refine zA_range (fun hr => ?_)
        replace hw_10 : w_10 = up w_9 105 k 0 := hw_10
        refine zA_aload_n dX12_forget_54 rfl ?_
        refine zA_getR (n := 107) dX12_forget_55 fX12_130 c73 rfl ?_
        refine zA_iload_n dX12_forget_58 rfl ?_
        refine zA_iconst dX12_forget_59 ?_
        refine zA_iastore dX12_forget_60 ⟨by decide, by decide⟩ c107 (by first | assumption | omega) (by first | assumption | omega) (by decide) ?_
        refine zA_namew (fun w_11 hw_11 => ?_)
        refine zA_range (fun hr => ?_)
        replace hw_11 : w_11 = up w_10 107 k 0 := hw_11
        refine zA_aload_n dX12_forget_61 rfl ?_
        refine zA_getR (n := 109) dX12_forget_62 fX12_136 c73 rfl ?_
        refine zA_iload_n dX12_forget_65 rfl ?_
        refine zA_iconst dX12_forget_66 ?_
        refine zA_iastore dX12_forget_67 ⟨by decide, by decide⟩ c109 (by first | assumption | omega) (by first | assumption | omega) (by decide) ?_
        refine zA_namew (fun w_12 hw_12 => ?_)
        refine zA_range (fun hr => ?_)
        replace hw_12 : w_12 = up w_11 109 k 0 := hw_12
        refine zA_aload_n dX12_forget_68 rfl ?_
        refine zA_getR (n := 110) dX12_forget_69 fX12_139 c73 rfl ?_
        refine zA_iload_n dX12_forget_72 rfl ?_
        refine zA_iconst dX12_forget_73 ?_
        refine zA_iastore dX12_forget_74 ⟨by decide, by decide⟩ c110 (by first | assumption | omega) (by first | assumption | omega) (by decide) ?_
        refine zA_namew (fun w_13 hw_13 => ?_)
        refine zA_range (fun hr => ?_)
        replace hw_13 : w_13 = up w_12 110 k 1 := hw_13
        refine zA_iconst dX12_forget_75 ?_
        refine zA_istore_n (lo1 := [zR 73, zI k, zI 0]) dX12_forget_76 (by decide) rfl rfl ?_
        have L77 : ∀ (z77 : Nat) (x : Int) (w1 : zW) (x0 : 0 ≤ x) (x1 : x ≤ 6) (hF : ∀ c x, c ≠ 89 → c ≠ 90 → c ≠ 98 → c ≠ 99 → c ≠ 105 → c ≠ 107 → c ≠ 109 → c ≠ 110 → c ≠ 117 → (c ≠ 73 ∨ (x ≠ 26 ∧ x ≠ 54 ∧ x ≠ 55 ∧ x ≠ 71 ∧ x ≠ 76)) → w1 c x = w c x) (hZ : w1 73 26 = -1 ∧ w1 73 76 = -1 ∧ w1 73 71 = 0 ∧ w1 73 54 = 0 ∧ w1 73 55 = 0) (h12 : ∀ x : Int, 0 ≤ x → x < k + 1 → (w1 89 x = 0 ∧ w1 90 x = 0) ∧ (w1 105 x = 0 ∧ w1 107 x = 0) ∧ w1 109 x = 0 ∧ w1 110 x = 1) (h117 : ∀ y : Int, 0 ≤ y → y < 6 * k + x → w1 117 y = 0) (zm : (6 - x).toNat < z77), zA l mX12_forget gr 2 0 0 (fun v' S' w' => v' = none ∧ S' = (ZZ t dr tx) ∧ fgQ w w') zNo 77 [zR 73, zI k, zI x] [] (ZZ t dr tx) w1 := by
          intro z77
          induction z77 with
          | zero => intro x w1 x0 x1 hF hZ h12 h117 zm; exact absurd zm (Nat.not_lt_zero _)
          | succ z77 ih77 =>
            intro x w1 x0 x1 hF hZ h12 h117 zm
            refine zA_range (fun hr => ?_)
            refine zA_iload_n dX12_forget_77 rfl ?_
            refine zA_bipush dX12_forget_78 rfl ?_
            refine zA_icmp_ge (tgt := 101) dX12_forget_80 (by decide) (by first | assumption | exact hr _ _ | exact inR_mk (by omega) (by omega)) ⟨by decide, by decide⟩ (fun c80 => ?_) (fun c80 => ?_)
            · skip
              refine zA_iinc (lo1 := [zR 73, zI (k + 1), zI x]) dX12_forget_101 rfl (by decide) rfl rfl ?_
              refine zA_goto (tgt := 27) dX12_forget_104 (by decide) ?_
              refine zA_drop 2 (lo1 := [zR 73, zI (k + 1), .null]) rfl ?_
              exact ih27 (k + 1) w1 (by omega) (by omega) hF hZ h12 (fun y y0 y1 => h117 y y0 (by omega)) (by omega)
            · skip
              refine zA_aload_n dX12_forget_83 rfl ?_
              refine zA_getR (n := 117) dX12_forget_84 fX12_163 c73 rfl ?_
              refine zA_bipush dX12_forget_87 rfl ?_
              refine zA_iload_n dX12_forget_89 rfl ?_
              refine zA_imul dX12_forget_90 ?_
              refine zA_iload_n dX12_forget_91 rfl ?_
              refine zA_iadd dX12_forget_92 ?_
              refine zA_iconst dX12_forget_93 ?_
              refine zA_iastore dX12_forget_94 ⟨by decide, by decide⟩ c117 (by first | assumption | omega) (by first | assumption | omega) (by decide) ?_
              refine zA_namew (fun w_14 hw_14 => ?_)
              refine zA_range (fun hr => ?_)
              replace hw_14 : w_14 = up w1 117 ((6 * k) + x) 0 := hw_14
              refine zA_iinc (lo1 := [zR 73, zI k, zI (x + 1)]) dX12_forget_95 rfl (by decide) rfl rfl ?_
              refine zA_goto (tgt := 77) dX12_forget_98 (by decide) ?_
              exact ih77 (x + 1) _ (by omega) (by omega) (fun c y a1 a2 a3 a4 a5 a6 a7 a8 a9 a10 => by rw [hw_14, up_cell _ _ _ _ a9]; exact hF c y a1 a2 a3 a4 a5 a6 a7 a8 a9 a10) (by rw [hw_14]; simp only [up_cell _ _ _ _ (show 73 ≠ 117 by decide)]; exact hZ) (fun y y0 y1 => by rw [hw_14]; simp only [up_cell _ _ _ _ (show 89 ≠ 117 by decide), up_cell _ _ _ _ (show 90 ≠ 117 by decide), up_cell _ _ _ _ (show 105 ≠ 117 by decide), up_cell _ _ _ _ (show 107 ≠ 117 by decide), up_cell _ _ _ _ (show 109 ≠ 117 by decide), up_cell _ _ _ _ (show 110 ≠ 117 by decide)]; exact h12 y y0 y1) (fun y y0 y1 => by
                      rw [hw_14]
                      by_cases g : y = 6 * k + x
                      · rw [g, up_same]
                      · rw [up_idx _ _ _ _ g]; exact h117 y y0 (by omega)) (by omega)
        exact L77 _ 0 _ (by omega) (by omega) (fun c y a1 a2 a3 a4 a5 a6 a7 a8 a9 a10 => by rw [hw_13, up_cell _ _ _ _ a8, hw_12, up_cell _ _ _ _ a7, hw_11, up_cell _ _ _ _ a6, hw_10, up_cell _ _ _ _ a5, hw_9, up_cell _ _ _ _ a2, hw_8, up_cell _ _ _ _ a1]; exact hF c y a1 a2 a3 a4 a5 a6 a7 a8 a9 a10) (by
              have e : ∀ y, w_13 73 y = w1 73 y := fun y => by rw [hw_13, up_cell _ _ _ _ (by decide), hw_12, up_cell _ _ _ _ (by decide), hw_11, up_cell _ _ _ _ (by decide), hw_10, up_cell _ _ _ _ (by decide), hw_9, up_cell _ _ _ _ (by decide), hw_8, up_cell _ _ _ _ (by decide)]
              simp only [e]; exact hZ) (fun y y0 y1 => by
              by_cases g : y = k
              · subst g
                refine ⟨⟨?_, ?_⟩, ⟨?_, ?_⟩, ?_, ?_⟩
                · rw [hw_13, up_cell _ _ _ _ (by decide), hw_12, up_cell _ _ _ _ (by decide), hw_11, up_cell _ _ _ _ (by decide), hw_10, up_cell _ _ _ _ (by decide), hw_9, up_cell _ _ _ _ (by decide), hw_8, up_same]
                · rw [hw_13, up_cell _ _ _ _ (by decide), hw_12, up_cell _ _ _ _ (by decide), hw_11, up_cell _ _ _ _ (by decide), hw_10, up_cell _ _ _ _ (by decide), hw_9, up_same]
                · rw [hw_13, up_cell _ _ _ _ (by decide), hw_12, up_cell _ _ _ _ (by decide), hw_11, up_cell _ _ _ _ (by decide), hw_10, up_same]
                · rw [hw_13, up_cell _ _ _ _ (by decide), hw_12, up_cell _ _ _ _ (by decide), hw_11, up_same]
                · rw [hw_13, up_cell _ _ _ _ (by decide), hw_12, up_same]
                · rw [hw_13, up_same]
              · have e : ∀ c, w_13 c y = w1 c y := fun c => by rw [hw_13, up_idx _ _ _ _ g, hw_12, up_idx _ _ _ _ g, hw_11, up_idx _ _ _ _ g, hw_10, up_idx _ _ _ _ g, hw_9, up_idx _ _ _ _ g, hw_8, up_idx _ _ _ _ g]
                simp only [e]; exact h12 y y0 (by omega)) (fun y y0 y1 => by rw [hw_13, up_cell _ _ _ _ (by decide), hw_12, up_cell _ _ _ _ (by decide), hw_11, up_cell _ _ _ _ (by decide), hw_10, up_cell _ _ _ _ (by decide), hw_9, up_cell _ _ _ _ (by decide), hw_8, up_cell _ _ _ _ (by decide)]; exact h117 y y0 (by omega)) (Nat.lt_succ_self _)
  exact L27 _ 0 _ (by omega) (by omega) (fun c x _ _ _ _ _ _ _ _ _ a => by rw [hw_5, up_n (by omega), hw_4, up_n (by omega), hw_3, up_n (by omega), hw_2, up_n (by omega), hw_1, up_n (by omega)]) (by
      refine ⟨?_, ?_, ?_, ?_, ?_⟩
      · rw [hw_5, up_idx _ _ _ _ (by decide), hw_4, up_idx _ _ _ _ (by decide), hw_3, up_idx _ _ _ _ (by decide), hw_2, up_idx _ _ _ _ (by decide), hw_1, up_same]
      · rw [hw_5, up_idx _ _ _ _ (by decide), hw_4, up_idx _ _ _ _ (by decide), hw_3, up_idx _ _ _ _ (by decide), hw_2, up_same]
      · rw [hw_5, up_idx _ _ _ _ (by decide), hw_4, up_idx _ _ _ _ (by decide), hw_3, up_same]
      · rw [hw_5, up_idx _ _ _ _ (by decide), hw_4, up_same]
      · rw [hw_5, up_same]) (fun x a c => by omega) (fun x a c => by omega) (Nat.lt_succ_self _)

set_option maxRecDepth 100000 in
set_option maxHeartbeats 4000000 in
theorem m_yard {l : Launch} {t dr tx : Nat} {w : zW} {b : Int → Int} {n : Int} (hn : inR n) (h6 : w 73 12 ≤ 600) (hb : ∀ i : Int, 0 ≤ i → i < w 73 12 → 0 ≤ w 84 i) (hcl : ∀ j : Nat, j < 5 → w 74 (j : Int) = ((1000 + j : Nat) : Int)) : zSp l mX12_yard false 10 0 0 [zR 73, zI n] (ZZ t dr tx) w (fun v' S' w' => S' = (ZZ t dr tx) ∧ ((¬ (0 ≤ n ∧ n ≤ w 73 12) ∧ v' = some (zI 0) ∧ w' = up w 73 1 1) ∨ ((0 ≤ n ∧ n ≤ w 73 12) ∧ (w' 73 1 = 0 ∧ w' 73 12 = 0) ∧ ((∃ e, (runP (w 84) n 600 (.inl 0) Y00).1 = .inr e ∧ v' = some (zI e.1) ∧ e.1 ≠ 0 ∧ w' 73 21 = e.2 ∧ ((∀ c x, (c < 75 ∨ 83 < c) → (c ≠ 73 ∨ (x ≠ 1 ∧ x ≠ 12 ∧ x ≠ 13 ∧ x ≠ 14 ∧ x ≠ 15 ∧ x ≠ 16 ∧ x ≠ 17 ∧ x ≠ 18 ∧ x ≠ 19 ∧ x ≠ 20 ∧ x ≠ 21)) → w' c x = w c x)) ∧ ∀ c x, 75 ≤ c → c ≤ 83 → x < loB c → w' c x = w c x) ∨ (okP (runP (w 84) n 600 (.inl 0) Y00).1 ∧ v' = some (zI 0) ∧ w' 73 21 = -1 ∧ mT w' (runP (w 84) n 600 (.inl 0) Y00).2 ∧ okY (runP (w 84) n 600 (.inl 0) Y00).2 ∧ ∃ w1, ((∀ c x, (c < 75 ∨ 83 < c) → (c ≠ 73 ∨ (x ≠ 1 ∧ x ≠ 12 ∧ x ≠ 13 ∧ x ≠ 14 ∧ x ≠ 15 ∧ x ≠ 16 ∧ x ≠ 17 ∧ x ≠ 18 ∧ x ≠ 19 ∧ x ≠ 20 ∧ x ≠ 21)) → w1 c x = w c x)) ∧ fgQ w1 w'))))) zNo := by
  refine zA_intro ⟨plainFor_of_name (by decide +kernel), Or.inl (by decide +kernel)⟩ rfl (Nat.le_of_ble_eq_true rfl) ?_
  refine zA_range (fun hr => ?_)
  show zA l mX12_yard false 10 0 0 (fun v' S' w' => S' = (ZZ t dr tx) ∧ ((¬ (0 ≤ n ∧ n ≤ w 73 12) ∧ v' = some (zI 0) ∧ w' = up w 73 1 1) ∨ ((0 ≤ n ∧ n ≤ w 73 12) ∧ (w' 73 1 = 0 ∧ w' 73 12 = 0) ∧ ((∃ e, (runP (w 84) n 600 (.inl 0) Y00).1 = .inr e ∧ v' = some (zI e.1) ∧ e.1 ≠ 0 ∧ w' 73 21 = e.2 ∧ ((∀ c x, (c < 75 ∨ 83 < c) → (c ≠ 73 ∨ (x ≠ 1 ∧ x ≠ 12 ∧ x ≠ 13 ∧ x ≠ 14 ∧ x ≠ 15 ∧ x ≠ 16 ∧ x ≠ 17 ∧ x ≠ 18 ∧ x ≠ 19 ∧ x ≠ 20 ∧ x ≠ 21)) → w' c x = w c x)) ∧ ∀ c x, 75 ≤ c → c ≤ 83 → x < loB c → w' c x = w c x) ∨ (okP (runP (w 84) n 600 (.inl 0) Y00).1 ∧ v' = some (zI 0) ∧ w' 73 21 = -1 ∧ mT w' (runP (w 84) n 600 (.inl 0) Y00).2 ∧ okY (runP (w 84) n 600 (.inl 0) Y00).2 ∧ ∃ w1, ((∀ c x, (c < 75 ∨ 83 < c) → (c ≠ 73 ∨ (x ≠ 1 ∧ x ≠ 12 ∧ x ≠ 13 ∧ x ≠ 14 ∧ x ≠ 15 ∧ x ≠ 16 ∧ x ≠ 17 ∧ x ≠ 18 ∧ x ≠ 19 ∧ x ≠ 20 ∧ x ≠ 21)) → w1 c x = w c x)) ∧ fgQ w1 w'))))) zNo 0 [zR 73, zI n] [] (ZZ t dr tx) w
  refine zA_aload_n dX12_yard_0 rfl ?_
  refine zA_iconst dX12_yard_1 ?_
  refine zA_putI dX12_yard_2 fX12_182 c73 rfl ⟨by decide, by decide⟩ ⟨rfl, rfl⟩ ?_
  refine zA_namew (fun w_1 hw_1 => ?_)
  refine zA_range (fun hr => ?_)
  replace hw_1 : w_1 = up w 73 1 0 := hw_1
  have e12a : w_1 73 12 = w 73 12 := by rw [hw_1, up_idx _ _ _ _ (by decide)]
  refine zA_iload_n dX12_yard_5 rfl ?_
  refine zA_if_lt (tgt := 17) dX12_yard_6 (by decide) (by first | assumption | exact hr _ _ | exact inR_mk (by omega) (by omega)) (fun c6 => ?_) (fun c6 => ?_)
  · skip
    refine zA_aload_n dX12_yard_17 rfl ?_
    refine zA_iconst dX12_yard_18 ?_
    refine zA_cV (st := []) dX12_yard_19 vX12_fail kX12_292 (m_fail (w := w_1) (k := 1) ⟨by decide, by decide⟩) (by decide) c73 rfl rfl (Nat.le_of_ble_eq_true rfl) rfl (zRt_el ?_)
    show zA l mX12_yard false 10 0 0 (fun v' S' w' => S' = (ZZ t dr tx) ∧ ((¬ (0 ≤ n ∧ n ≤ w 73 12) ∧ v' = some (zI 0) ∧ w' = up w 73 1 1) ∨ ((0 ≤ n ∧ n ≤ w 73 12) ∧ (w' 73 1 = 0 ∧ w' 73 12 = 0) ∧ ((∃ e, (runP (w 84) n 600 (.inl 0) Y00).1 = .inr e ∧ v' = some (zI e.1) ∧ e.1 ≠ 0 ∧ w' 73 21 = e.2 ∧ ((∀ c x, (c < 75 ∨ 83 < c) → (c ≠ 73 ∨ (x ≠ 1 ∧ x ≠ 12 ∧ x ≠ 13 ∧ x ≠ 14 ∧ x ≠ 15 ∧ x ≠ 16 ∧ x ≠ 17 ∧ x ≠ 18 ∧ x ≠ 19 ∧ x ≠ 20 ∧ x ≠ 21)) → w' c x = w c x)) ∧ ∀ c x, 75 ≤ c → c ≤ 83 → x < loB c → w' c x = w c x) ∨ (okP (runP (w 84) n 600 (.inl 0) Y00).1 ∧ v' = some (zI 0) ∧ w' 73 21 = -1 ∧ mT w' (runP (w 84) n 600 (.inl 0) Y00).2 ∧ okY (runP (w 84) n 600 (.inl 0) Y00).2 ∧ ∃ w1, ((∀ c x, (c < 75 ∨ 83 < c) → (c ≠ 73 ∨ (x ≠ 1 ∧ x ≠ 12 ∧ x ≠ 13 ∧ x ≠ 14 ∧ x ≠ 15 ∧ x ≠ 16 ∧ x ≠ 17 ∧ x ≠ 18 ∧ x ≠ 19 ∧ x ≠ 20 ∧ x ≠ 21)) → w1 c x = w c x)) ∧ fgQ w1 w'))))) zNo 22 [zR 73, zI n] [zI 0] (ZZ t dr tx) (up w_1 73 1 1)
    refine zA_iret dX12_yard_22 rfl ?_
    exact ⟨rfl, Or.inl ⟨by omega, rfl, by rw [hw_1]; exact up_up _ _ _ _ _⟩⟩
  · skip
    refine zA_iload_n dX12_yard_9 rfl ?_
    refine zA_aload_n dX12_yard_10 rfl ?_
    refine zA_getI dX12_yard_11 fX12_189 c73 rfl ?_
    refine zA_valI (w_1 73 12) rfl ?_
    refine zA_icmp_le (tgt := 23) dX12_yard_14 (by decide) (by first | assumption | exact hr _ _ | exact inR_mk (by omega) (by omega)) (by first | assumption | exact hr _ _ | exact inR_mk (by omega) (by omega)) (fun c14 => ?_) (fun c14 => ?_)
    · skip
      refine zA_aload_n dX12_yard_23 rfl ?_
      refine zA_iconst dX12_yard_24 ?_
      refine zA_putI dX12_yard_25 fX12_189 c73 rfl ⟨by decide, by decide⟩ ⟨rfl, rfl⟩ ?_
      refine zA_namew (fun w_2 hw_2 => ?_)
      refine zA_range (fun hr => ?_)
      replace hw_2 : w_2 = up w_1 73 12 0 := hw_2
      refine zA_aload_n dX12_yard_28 rfl ?_
      refine zA_iload_n dX12_yard_29 rfl ?_
      refine zA_putI dX12_yard_30 fX12_192 c73 rfl (by first | assumption | exact hr _ _ | exact inR_mk (by omega) (by omega)) ⟨rfl, rfl⟩ ?_
      refine zA_namew (fun w_3 hw_3 => ?_)
      refine zA_range (fun hr => ?_)
      replace hw_3 : w_3 = up w_2 73 14 n := hw_3
      refine zA_aload_n dX12_yard_33 rfl ?_
      refine zA_iconst dX12_yard_34 ?_
      refine zA_putI dX12_yard_35 fX12_195 c73 rfl ⟨by decide, by decide⟩ ⟨rfl, rfl⟩ ?_
      refine zA_namew (fun w_4 hw_4 => ?_)
      refine zA_range (fun hr => ?_)
      replace hw_4 : w_4 = up w_3 73 13 0 := hw_4
      refine zA_aload_n dX12_yard_38 rfl ?_
      refine zA_iconst dX12_yard_39 ?_
      refine zA_putI dX12_yard_40 fX12_228 c73 rfl ⟨by decide, by decide⟩ ⟨rfl, rfl⟩ ?_
      refine zA_namew (fun w_5 hw_5 => ?_)
      refine zA_range (fun hr => ?_)
      replace hw_5 : w_5 = up w_4 73 19 0 := hw_5
      refine zA_aload_n dX12_yard_43 rfl ?_
      refine zA_iconst dX12_yard_44 ?_
      refine zA_putI dX12_yard_45 fX12_53 c73 rfl ⟨by decide, by decide⟩ ⟨rfl, rfl⟩ ?_
      refine zA_namew (fun w_6 hw_6 => ?_)
      refine zA_range (fun hr => ?_)
      replace hw_6 : w_6 = up w_5 73 21 (-1) := hw_6
      have u0 : ∀ c x, (c ≠ 73 ∨ (x ≠ 1 ∧ x ≠ 12 ∧ x ≠ 13 ∧ x ≠ 14 ∧ x ≠ 19 ∧ x ≠ 21)) → w_6 c x = w c x := fun c x a => by rw [hw_6, up_n (by omega), hw_5, up_n (by omega), hw_4, up_n (by omega), hw_3, up_n (by omega), hw_2, up_n (by omega), hw_1, up_n (by omega)]
      have u21 : w_6 73 21 = -1 := by rw [hw_6, up_same]
      have u19 : w_6 73 19 = 0 := by rw [hw_6, up_idx _ _ _ _ (by decide), hw_5, up_same]
      have u13 : w_6 73 13 = 0 := by rw [hw_6, up_idx _ _ _ _ (by decide), hw_5, up_idx _ _ _ _ (by decide), hw_4, up_same]
      have u14 : w_6 73 14 = n := by rw [hw_6, up_idx _ _ _ _ (by decide), hw_5, up_idx _ _ _ _ (by decide), hw_4, up_idx _ _ _ _ (by decide), hw_3, up_same]
      have u12 : w_6 73 12 = 0 := by rw [hw_6, up_idx _ _ _ _ (by decide), hw_5, up_idx _ _ _ _ (by decide), hw_4, up_idx _ _ _ _ (by decide), hw_3, up_idx _ _ _ _ (by decide), hw_2, up_same]
      have u1 : w_6 73 1 = 0 := by rw [hw_6, up_idx _ _ _ _ (by decide), hw_5, up_idx _ _ _ _ (by decide), hw_4, up_idx _ _ _ _ (by decide), hw_3, up_idx _ _ _ _ (by decide), hw_2, up_idx _ _ _ _ (by decide), hw_1, up_same]
      refine zA_aload_n dX12_yard_48 rfl ?_
      refine zA_iconst dX12_yard_49 ?_
      refine zA_cV (st := []) dX12_yard_50 vX12_clear kX12_175 (m_clear (w := w_6) (y := 1) (Or.inr rfl)) (by decide) c73 rfl rfl (Nat.le_of_ble_eq_true rfl) rfl (fun q_7_v q_7_S q_7_w q_7 => ?_)
      obtain ⟨rfl, rfl, z1, z2, z3, z4, z5, z6, z7⟩ := q_7
      refine zA_range (fun hr => ?_)
      show zA l mX12_yard false 10 0 0 (fun v' S' w' => S' = (ZZ t dr tx) ∧ ((¬ (0 ≤ n ∧ n ≤ w 73 12) ∧ v' = some (zI 0) ∧ w' = up w 73 1 1) ∨ ((0 ≤ n ∧ n ≤ w 73 12) ∧ (w' 73 1 = 0 ∧ w' 73 12 = 0) ∧ ((∃ e, (runP (w 84) n 600 (.inl 0) Y00).1 = .inr e ∧ v' = some (zI e.1) ∧ e.1 ≠ 0 ∧ w' 73 21 = e.2 ∧ ((∀ c x, (c < 75 ∨ 83 < c) → (c ≠ 73 ∨ (x ≠ 1 ∧ x ≠ 12 ∧ x ≠ 13 ∧ x ≠ 14 ∧ x ≠ 15 ∧ x ≠ 16 ∧ x ≠ 17 ∧ x ≠ 18 ∧ x ≠ 19 ∧ x ≠ 20 ∧ x ≠ 21)) → w' c x = w c x)) ∧ ∀ c x, 75 ≤ c → c ≤ 83 → x < loB c → w' c x = w c x) ∨ (okP (runP (w 84) n 600 (.inl 0) Y00).1 ∧ v' = some (zI 0) ∧ w' 73 21 = -1 ∧ mT w' (runP (w 84) n 600 (.inl 0) Y00).2 ∧ okY (runP (w 84) n 600 (.inl 0) Y00).2 ∧ ∃ w1, ((∀ c x, (c < 75 ∨ 83 < c) → (c ≠ 73 ∨ (x ≠ 1 ∧ x ≠ 12 ∧ x ≠ 13 ∧ x ≠ 14 ∧ x ≠ 15 ∧ x ≠ 16 ∧ x ≠ 17 ∧ x ≠ 18 ∧ x ≠ 19 ∧ x ≠ 20 ∧ x ≠ 21)) → w1 c x = w c x)) ∧ fgQ w1 w'))))) zNo 53 [zR 73, zI n] [] (ZZ t dr tx) q_7_w
      have v73 : ∀ x, q_7_w 73 x = w_6 73 x := fun x => z1 73 x (by decide) (by decide) (by decide)
      have hq13 : q_7_w 73 13 = 0 := (v73 13).trans u13
      have hq19 : q_7_w 73 19 = 0 := (v73 19).trans u19
      have hp0 : pM (w 84) n q_7_w := ⟨⟨by omega, by omega⟩, (v73 14).trans u14, fun i a c => ⟨(z1 84 i (by decide) (by decide) (by decide)).trans (u0 84 i (Or.inl (by decide))), hb i a (by omega)⟩⟩
      have hmC0 : mC q_7_w Y00 := by
        refine ⟨⟨z3 75 (by decide) (by decide), z3 76 (by decide) (by decide), z3 77 (by decide) (by decide), z3 78 (by decide) (by decide)⟩, fun c x0 x1 => ?_, fun d x0 x1 => z5 d x0 x1, fun i x0 x1 => ?_, fun i x0 x1 => ?_, fun i x0 x1 => ?_⟩
        · have : c < 0 := x1
          omega
        · have : i < 6 * 0 := x1
          omega
        · have h := z7 (i / 12) (i % 12) (by omega) (by omega)
          rw [show 144 * 1 + 12 * (i / 12) + i % 12 = 144 + i by omega] at h
          exact h
        · have : i < 3 * 0 := x1
          omega
      have v0 : ∀ c x, (c < 75 ∨ 83 < c) → (c ≠ 73 ∨ (x ≠ 1 ∧ x ≠ 12 ∧ x ≠ 13 ∧ x ≠ 14 ∧ x ≠ 19 ∧ x ≠ 21)) → q_7_w c x = w c x := fun c x a e => (z1 c x (by omega) (by omega) (by omega)).trans (u0 c x e)
      have vL : ∀ c x, 75 ≤ c → c ≤ 83 → x < loB c → q_7_w c x = w c x := fun c x a e f => by
        refine Eq.trans ?_ (u0 c x (Or.inl (by omega)))
        by_cases g : c ≤ 78
        · have : loB c = 1 := if_pos g
          exact z2 c x a g (by omega)
        · by_cases g80 : c = 80
          · subst g80
            exact z4 x (Or.inl (by have : x < 30 := f; omega))
          · by_cases g82 : c = 82
            · subst g82
              exact z6 x (Or.inl (by have : x < 144 := f; omega))
            · exact z1 c x (by omega) g80 g82
      refine zA_aload_n dX12_yard_53 rfl ?_
      refine zA_cV (st := []) dX12_yard_54 vX12_stepOn kX12_249 (m_stepOn (w := q_7_w) (n := n) (b := w 84) hp0 hq19 (by omega) (by omega)) (by decide) c73 rfl rfl (Nat.le_of_ble_eq_true rfl) rfl (fun q_8_v q_8_S q_8_w q_8 => ?_)
      obtain ⟨rfl, rfl, hoS, hpS, hRS⟩ := q_8
      rw [hq13] at hRS
      refine zA_range (fun hr => ?_)
      show zA l mX12_yard false 10 0 0 (fun v' S' w' => S' = (ZZ t dr tx) ∧ ((¬ (0 ≤ n ∧ n ≤ w 73 12) ∧ v' = some (zI 0) ∧ w' = up w 73 1 1) ∨ ((0 ≤ n ∧ n ≤ w 73 12) ∧ (w' 73 1 = 0 ∧ w' 73 12 = 0) ∧ ((∃ e, (runP (w 84) n 600 (.inl 0) Y00).1 = .inr e ∧ v' = some (zI e.1) ∧ e.1 ≠ 0 ∧ w' 73 21 = e.2 ∧ ((∀ c x, (c < 75 ∨ 83 < c) → (c ≠ 73 ∨ (x ≠ 1 ∧ x ≠ 12 ∧ x ≠ 13 ∧ x ≠ 14 ∧ x ≠ 15 ∧ x ≠ 16 ∧ x ≠ 17 ∧ x ≠ 18 ∧ x ≠ 19 ∧ x ≠ 20 ∧ x ≠ 21)) → w' c x = w c x)) ∧ ∀ c x, 75 ≤ c → c ≤ 83 → x < loB c → w' c x = w c x) ∨ (okP (runP (w 84) n 600 (.inl 0) Y00).1 ∧ v' = some (zI 0) ∧ w' 73 21 = -1 ∧ mT w' (runP (w 84) n 600 (.inl 0) Y00).2 ∧ okY (runP (w 84) n 600 (.inl 0) Y00).2 ∧ ∃ w1, ((∀ c x, (c < 75 ∨ 83 < c) → (c ≠ 73 ∨ (x ≠ 1 ∧ x ≠ 12 ∧ x ≠ 13 ∧ x ≠ 14 ∧ x ≠ 15 ∧ x ≠ 16 ∧ x ≠ 17 ∧ x ≠ 18 ∧ x ≠ 19 ∧ x ≠ 20 ∧ x ≠ 21)) → w1 c x = w c x)) ∧ fgQ w1 w'))))) zNo 57 [zR 73, zI n] [] (ZZ t dr tx) q_8_w
      have L57 : ∀ (z57 : Nat) (w1 : zW) (s1 : zP) (Y1 : zW) (k : Nat) (hf : clM q_7_w w1) (hp1 : pM (w 84) n w1) (hR1 : rM (w 84) n w1 s1) (hY1 : okP s1 → mC w1 Y1 ∧ okY Y1) (hc : (runP (w 84) n 600 (.inl 0) Y00) = runP (w 84) n k s1 Y1) (hk : ∀ q, s1 = .inl q → n - q ≤ k) (zm : k < z57), zA l mX12_yard false 10 0 0 (fun v' S' w' => S' = (ZZ t dr tx) ∧ ((¬ (0 ≤ n ∧ n ≤ w 73 12) ∧ v' = some (zI 0) ∧ w' = up w 73 1 1) ∨ ((0 ≤ n ∧ n ≤ w 73 12) ∧ (w' 73 1 = 0 ∧ w' 73 12 = 0) ∧ ((∃ e, (runP (w 84) n 600 (.inl 0) Y00).1 = .inr e ∧ v' = some (zI e.1) ∧ e.1 ≠ 0 ∧ w' 73 21 = e.2 ∧ ((∀ c x, (c < 75 ∨ 83 < c) → (c ≠ 73 ∨ (x ≠ 1 ∧ x ≠ 12 ∧ x ≠ 13 ∧ x ≠ 14 ∧ x ≠ 15 ∧ x ≠ 16 ∧ x ≠ 17 ∧ x ≠ 18 ∧ x ≠ 19 ∧ x ≠ 20 ∧ x ≠ 21)) → w' c x = w c x)) ∧ ∀ c x, 75 ≤ c → c ≤ 83 → x < loB c → w' c x = w c x) ∨ (okP (runP (w 84) n 600 (.inl 0) Y00).1 ∧ v' = some (zI 0) ∧ w' 73 21 = -1 ∧ mT w' (runP (w 84) n 600 (.inl 0) Y00).2 ∧ okY (runP (w 84) n 600 (.inl 0) Y00).2 ∧ ∃ w1, ((∀ c x, (c < 75 ∨ 83 < c) → (c ≠ 73 ∨ (x ≠ 1 ∧ x ≠ 12 ∧ x ≠ 13 ∧ x ≠ 14 ∧ x ≠ 15 ∧ x ≠ 16 ∧ x ≠ 17 ∧ x ≠ 18 ∧ x ≠ 19 ∧ x ≠ 20 ∧ x ≠ 21)) → w1 c x = w c x)) ∧ fgQ w1 w'))))) zNo 57 [zR 73, zI n] [] (ZZ t dr tx) w1 := by
        intro z57
        induction z57 with
        | zero => intro w1 s1 Y1 k hf hp1 hR1 hY1 hc hk zm; exact absurd zm (Nat.not_lt_zero _)
        | succ z57 ih57 =>
          intro w1 s1 Y1 k hf hp1 hR1 hY1 hc hk zm
          refine zA_range (fun hr => ?_)
          refine zA_aload_n dX12_yard_57 rfl ?_
          refine zA_getI dX12_yard_58 fX12_228 c73 rfl ?_
          refine zA_valI (w1 73 19) rfl ?_
          have L78 : ∀  (hre : (runP (w 84) n 600 (.inl 0) Y00) = (s1, Y1)), zA l mX12_yard false 10 0 0 (fun v' S' w' => S' = (ZZ t dr tx) ∧ ((¬ (0 ≤ n ∧ n ≤ w 73 12) ∧ v' = some (zI 0) ∧ w' = up w 73 1 1) ∨ ((0 ≤ n ∧ n ≤ w 73 12) ∧ (w' 73 1 = 0 ∧ w' 73 12 = 0) ∧ ((∃ e, (runP (w 84) n 600 (.inl 0) Y00).1 = .inr e ∧ v' = some (zI e.1) ∧ e.1 ≠ 0 ∧ w' 73 21 = e.2 ∧ ((∀ c x, (c < 75 ∨ 83 < c) → (c ≠ 73 ∨ (x ≠ 1 ∧ x ≠ 12 ∧ x ≠ 13 ∧ x ≠ 14 ∧ x ≠ 15 ∧ x ≠ 16 ∧ x ≠ 17 ∧ x ≠ 18 ∧ x ≠ 19 ∧ x ≠ 20 ∧ x ≠ 21)) → w' c x = w c x)) ∧ ∀ c x, 75 ≤ c → c ≤ 83 → x < loB c → w' c x = w c x) ∨ (okP (runP (w 84) n 600 (.inl 0) Y00).1 ∧ v' = some (zI 0) ∧ w' 73 21 = -1 ∧ mT w' (runP (w 84) n 600 (.inl 0) Y00).2 ∧ okY (runP (w 84) n 600 (.inl 0) Y00).2 ∧ ∃ w1, ((∀ c x, (c < 75 ∨ 83 < c) → (c ≠ 73 ∨ (x ≠ 1 ∧ x ≠ 12 ∧ x ≠ 13 ∧ x ≠ 14 ∧ x ≠ 15 ∧ x ≠ 16 ∧ x ≠ 17 ∧ x ≠ 18 ∧ x ≠ 19 ∧ x ≠ 20 ∧ x ≠ 21)) → w1 c x = w c x)) ∧ fgQ w1 w'))))) zNo 78 [zR 73, zI n] [] (ZZ t dr tx) w1 := by
            intro  hre
            refine zA_aload_n dX12_yard_78 rfl ?_
            refine zA_getI dX12_yard_79 fX12_228 c73 rfl ?_
            refine zA_valI (w1 73 19) rfl ?_
            refine zA_if_eq (tgt := 98) dX12_yard_82 (by decide) (by first | assumption | exact hr _ _ | exact inR_mk (by omega) (by omega)) (fun k82 => ?_) (fun k82 => ?_)
            · skip
              refine zA_aload_n dX12_yard_98 rfl ?_
              refine zA_getR (n := 75) dX12_yard_99 fX12_25 c73 rfl ?_
              refine zA_cS (st := []) dX12_yard_102 sX12_copy kX12_298 (m_copy (w := w1) (q := 75) (z := 2) (h := 1) c75 (by decide) (by decide)) (by decide) rfl rfl (Nat.le_of_ble_eq_true rfl) (fun q_9_v q_9_S q_9_w q_9 => ?_)
              obtain ⟨rfl, rfl, t75a, t75b, -⟩ := q_9
              refine zA_range (fun hr => ?_)
              show zA l mX12_yard false 10 0 0 (fun v' S' w' => S' = (ZZ t dr tx) ∧ ((¬ (0 ≤ n ∧ n ≤ w 73 12) ∧ v' = some (zI 0) ∧ w' = up w 73 1 1) ∨ ((0 ≤ n ∧ n ≤ w 73 12) ∧ (w' 73 1 = 0 ∧ w' 73 12 = 0) ∧ ((∃ e, (runP (w 84) n 600 (.inl 0) Y00).1 = .inr e ∧ v' = some (zI e.1) ∧ e.1 ≠ 0 ∧ w' 73 21 = e.2 ∧ ((∀ c x, (c < 75 ∨ 83 < c) → (c ≠ 73 ∨ (x ≠ 1 ∧ x ≠ 12 ∧ x ≠ 13 ∧ x ≠ 14 ∧ x ≠ 15 ∧ x ≠ 16 ∧ x ≠ 17 ∧ x ≠ 18 ∧ x ≠ 19 ∧ x ≠ 20 ∧ x ≠ 21)) → w' c x = w c x)) ∧ ∀ c x, 75 ≤ c → c ≤ 83 → x < loB c → w' c x = w c x) ∨ (okP (runP (w 84) n 600 (.inl 0) Y00).1 ∧ v' = some (zI 0) ∧ w' 73 21 = -1 ∧ mT w' (runP (w 84) n 600 (.inl 0) Y00).2 ∧ okY (runP (w 84) n 600 (.inl 0) Y00).2 ∧ ∃ w1, ((∀ c x, (c < 75 ∨ 83 < c) → (c ≠ 73 ∨ (x ≠ 1 ∧ x ≠ 12 ∧ x ≠ 13 ∧ x ≠ 14 ∧ x ≠ 15 ∧ x ≠ 16 ∧ x ≠ 17 ∧ x ≠ 18 ∧ x ≠ 19 ∧ x ≠ 20 ∧ x ≠ 21)) → w1 c x = w c x)) ∧ fgQ w1 w'))))) zNo 105 [zR 73, zI n] [] (ZZ t dr tx) q_9_w
              refine zA_aload_n dX12_yard_105 rfl ?_
              refine zA_getR (n := 76) dX12_yard_106 fX12_29 c73 rfl ?_
              refine zA_cS (st := []) dX12_yard_109 sX12_copy kX12_298 (m_copy (w := q_9_w) (q := 76) (z := 2) (h := 1) c76 (by decide) (by decide)) (by decide) rfl rfl (Nat.le_of_ble_eq_true rfl) (fun q_10_v q_10_S q_10_w q_10 => ?_)
              obtain ⟨rfl, rfl, t76a, t76b, -⟩ := q_10
              refine zA_range (fun hr => ?_)
              show zA l mX12_yard false 10 0 0 (fun v' S' w' => S' = (ZZ t dr tx) ∧ ((¬ (0 ≤ n ∧ n ≤ w 73 12) ∧ v' = some (zI 0) ∧ w' = up w 73 1 1) ∨ ((0 ≤ n ∧ n ≤ w 73 12) ∧ (w' 73 1 = 0 ∧ w' 73 12 = 0) ∧ ((∃ e, (runP (w 84) n 600 (.inl 0) Y00).1 = .inr e ∧ v' = some (zI e.1) ∧ e.1 ≠ 0 ∧ w' 73 21 = e.2 ∧ ((∀ c x, (c < 75 ∨ 83 < c) → (c ≠ 73 ∨ (x ≠ 1 ∧ x ≠ 12 ∧ x ≠ 13 ∧ x ≠ 14 ∧ x ≠ 15 ∧ x ≠ 16 ∧ x ≠ 17 ∧ x ≠ 18 ∧ x ≠ 19 ∧ x ≠ 20 ∧ x ≠ 21)) → w' c x = w c x)) ∧ ∀ c x, 75 ≤ c → c ≤ 83 → x < loB c → w' c x = w c x) ∨ (okP (runP (w 84) n 600 (.inl 0) Y00).1 ∧ v' = some (zI 0) ∧ w' 73 21 = -1 ∧ mT w' (runP (w 84) n 600 (.inl 0) Y00).2 ∧ okY (runP (w 84) n 600 (.inl 0) Y00).2 ∧ ∃ w1, ((∀ c x, (c < 75 ∨ 83 < c) → (c ≠ 73 ∨ (x ≠ 1 ∧ x ≠ 12 ∧ x ≠ 13 ∧ x ≠ 14 ∧ x ≠ 15 ∧ x ≠ 16 ∧ x ≠ 17 ∧ x ≠ 18 ∧ x ≠ 19 ∧ x ≠ 20 ∧ x ≠ 21)) → w1 c x = w c x)) ∧ fgQ w1 w'))))) zNo 112 [zR 73, zI n] [] (ZZ t dr tx) q_10_w
              refine zA_aload_n dX12_yard_112 rfl ?_
              refine zA_getR (n := 77) dX12_yard_113 fX12_32 c73 rfl ?_
              refine zA_cS (st := []) dX12_yard_116 sX12_copy kX12_298 (m_copy (w := q_10_w) (q := 77) (z := 2) (h := 1) c77 (by decide) (by decide)) (by decide) rfl rfl (Nat.le_of_ble_eq_true rfl) (fun q_11_v q_11_S q_11_w q_11 => ?_)
              obtain ⟨rfl, rfl, t77a, t77b, -⟩ := q_11
              refine zA_range (fun hr => ?_)
              show zA l mX12_yard false 10 0 0 (fun v' S' w' => S' = (ZZ t dr tx) ∧ ((¬ (0 ≤ n ∧ n ≤ w 73 12) ∧ v' = some (zI 0) ∧ w' = up w 73 1 1) ∨ ((0 ≤ n ∧ n ≤ w 73 12) ∧ (w' 73 1 = 0 ∧ w' 73 12 = 0) ∧ ((∃ e, (runP (w 84) n 600 (.inl 0) Y00).1 = .inr e ∧ v' = some (zI e.1) ∧ e.1 ≠ 0 ∧ w' 73 21 = e.2 ∧ ((∀ c x, (c < 75 ∨ 83 < c) → (c ≠ 73 ∨ (x ≠ 1 ∧ x ≠ 12 ∧ x ≠ 13 ∧ x ≠ 14 ∧ x ≠ 15 ∧ x ≠ 16 ∧ x ≠ 17 ∧ x ≠ 18 ∧ x ≠ 19 ∧ x ≠ 20 ∧ x ≠ 21)) → w' c x = w c x)) ∧ ∀ c x, 75 ≤ c → c ≤ 83 → x < loB c → w' c x = w c x) ∨ (okP (runP (w 84) n 600 (.inl 0) Y00).1 ∧ v' = some (zI 0) ∧ w' 73 21 = -1 ∧ mT w' (runP (w 84) n 600 (.inl 0) Y00).2 ∧ okY (runP (w 84) n 600 (.inl 0) Y00).2 ∧ ∃ w1, ((∀ c x, (c < 75 ∨ 83 < c) → (c ≠ 73 ∨ (x ≠ 1 ∧ x ≠ 12 ∧ x ≠ 13 ∧ x ≠ 14 ∧ x ≠ 15 ∧ x ≠ 16 ∧ x ≠ 17 ∧ x ≠ 18 ∧ x ≠ 19 ∧ x ≠ 20 ∧ x ≠ 21)) → w1 c x = w c x)) ∧ fgQ w1 w'))))) zNo 119 [zR 73, zI n] [] (ZZ t dr tx) q_11_w
              refine zA_aload_n dX12_yard_119 rfl ?_
              refine zA_getR (n := 78) dX12_yard_120 fX12_35 c73 rfl ?_
              refine zA_cS (st := []) dX12_yard_123 sX12_copy kX12_298 (m_copy (w := q_11_w) (q := 78) (z := 2) (h := 1) c78 (by decide) (by decide)) (by decide) rfl rfl (Nat.le_of_ble_eq_true rfl) (fun q_12_v q_12_S q_12_w q_12 => ?_)
              obtain ⟨rfl, rfl, t78a, t78b, -⟩ := q_12
              refine zA_range (fun hr => ?_)
              show zA l mX12_yard false 10 0 0 (fun v' S' w' => S' = (ZZ t dr tx) ∧ ((¬ (0 ≤ n ∧ n ≤ w 73 12) ∧ v' = some (zI 0) ∧ w' = up w 73 1 1) ∨ ((0 ≤ n ∧ n ≤ w 73 12) ∧ (w' 73 1 = 0 ∧ w' 73 12 = 0) ∧ ((∃ e, (runP (w 84) n 600 (.inl 0) Y00).1 = .inr e ∧ v' = some (zI e.1) ∧ e.1 ≠ 0 ∧ w' 73 21 = e.2 ∧ ((∀ c x, (c < 75 ∨ 83 < c) → (c ≠ 73 ∨ (x ≠ 1 ∧ x ≠ 12 ∧ x ≠ 13 ∧ x ≠ 14 ∧ x ≠ 15 ∧ x ≠ 16 ∧ x ≠ 17 ∧ x ≠ 18 ∧ x ≠ 19 ∧ x ≠ 20 ∧ x ≠ 21)) → w' c x = w c x)) ∧ ∀ c x, 75 ≤ c → c ≤ 83 → x < loB c → w' c x = w c x) ∨ (okP (runP (w 84) n 600 (.inl 0) Y00).1 ∧ v' = some (zI 0) ∧ w' 73 21 = -1 ∧ mT w' (runP (w 84) n 600 (.inl 0) Y00).2 ∧ okY (runP (w 84) n 600 (.inl 0) Y00).2 ∧ ∃ w1, ((∀ c x, (c < 75 ∨ 83 < c) → (c ≠ 73 ∨ (x ≠ 1 ∧ x ≠ 12 ∧ x ≠ 13 ∧ x ≠ 14 ∧ x ≠ 15 ∧ x ≠ 16 ∧ x ≠ 17 ∧ x ≠ 18 ∧ x ≠ 19 ∧ x ≠ 20 ∧ x ≠ 21)) → w1 c x = w c x)) ∧ fgQ w1 w'))))) zNo 126 [zR 73, zI n] [] (ZZ t dr tx) q_12_w
              refine zA_aload_n dX12_yard_126 rfl ?_
              refine zA_getR (n := 79) dX12_yard_127 fX12_38 c73 rfl ?_
              refine zA_cS (st := []) dX12_yard_130 sX12_copy kX12_298 (m_copy (w := q_12_w) (q := 79) (z := 24) (h := 12) c79 (by decide) (by decide)) (by decide) rfl rfl (Nat.le_of_ble_eq_true rfl) (fun q_13_v q_13_S q_13_w q_13 => ?_)
              obtain ⟨rfl, rfl, t79a, t79b, -⟩ := q_13
              refine zA_range (fun hr => ?_)
              show zA l mX12_yard false 10 0 0 (fun v' S' w' => S' = (ZZ t dr tx) ∧ ((¬ (0 ≤ n ∧ n ≤ w 73 12) ∧ v' = some (zI 0) ∧ w' = up w 73 1 1) ∨ ((0 ≤ n ∧ n ≤ w 73 12) ∧ (w' 73 1 = 0 ∧ w' 73 12 = 0) ∧ ((∃ e, (runP (w 84) n 600 (.inl 0) Y00).1 = .inr e ∧ v' = some (zI e.1) ∧ e.1 ≠ 0 ∧ w' 73 21 = e.2 ∧ ((∀ c x, (c < 75 ∨ 83 < c) → (c ≠ 73 ∨ (x ≠ 1 ∧ x ≠ 12 ∧ x ≠ 13 ∧ x ≠ 14 ∧ x ≠ 15 ∧ x ≠ 16 ∧ x ≠ 17 ∧ x ≠ 18 ∧ x ≠ 19 ∧ x ≠ 20 ∧ x ≠ 21)) → w' c x = w c x)) ∧ ∀ c x, 75 ≤ c → c ≤ 83 → x < loB c → w' c x = w c x) ∨ (okP (runP (w 84) n 600 (.inl 0) Y00).1 ∧ v' = some (zI 0) ∧ w' 73 21 = -1 ∧ mT w' (runP (w 84) n 600 (.inl 0) Y00).2 ∧ okY (runP (w 84) n 600 (.inl 0) Y00).2 ∧ ∃ w1, ((∀ c x, (c < 75 ∨ 83 < c) → (c ≠ 73 ∨ (x ≠ 1 ∧ x ≠ 12 ∧ x ≠ 13 ∧ x ≠ 14 ∧ x ≠ 15 ∧ x ≠ 16 ∧ x ≠ 17 ∧ x ≠ 18 ∧ x ≠ 19 ∧ x ≠ 20 ∧ x ≠ 21)) → w1 c x = w c x)) ∧ fgQ w1 w'))))) zNo 133 [zR 73, zI n] [] (ZZ t dr tx) q_13_w
              refine zA_aload_n dX12_yard_133 rfl ?_
              refine zA_getR (n := 80) dX12_yard_134 fX12_41 c73 rfl ?_
              refine zA_cS (st := []) dX12_yard_137 sX12_copy kX12_298 (m_copy (w := q_13_w) (q := 80) (z := 60) (h := 30) c80 (by decide) (by decide)) (by decide) rfl rfl (Nat.le_of_ble_eq_true rfl) (fun q_14_v q_14_S q_14_w q_14 => ?_)
              obtain ⟨rfl, rfl, t80a, t80b, -⟩ := q_14
              refine zA_range (fun hr => ?_)
              show zA l mX12_yard false 10 0 0 (fun v' S' w' => S' = (ZZ t dr tx) ∧ ((¬ (0 ≤ n ∧ n ≤ w 73 12) ∧ v' = some (zI 0) ∧ w' = up w 73 1 1) ∨ ((0 ≤ n ∧ n ≤ w 73 12) ∧ (w' 73 1 = 0 ∧ w' 73 12 = 0) ∧ ((∃ e, (runP (w 84) n 600 (.inl 0) Y00).1 = .inr e ∧ v' = some (zI e.1) ∧ e.1 ≠ 0 ∧ w' 73 21 = e.2 ∧ ((∀ c x, (c < 75 ∨ 83 < c) → (c ≠ 73 ∨ (x ≠ 1 ∧ x ≠ 12 ∧ x ≠ 13 ∧ x ≠ 14 ∧ x ≠ 15 ∧ x ≠ 16 ∧ x ≠ 17 ∧ x ≠ 18 ∧ x ≠ 19 ∧ x ≠ 20 ∧ x ≠ 21)) → w' c x = w c x)) ∧ ∀ c x, 75 ≤ c → c ≤ 83 → x < loB c → w' c x = w c x) ∨ (okP (runP (w 84) n 600 (.inl 0) Y00).1 ∧ v' = some (zI 0) ∧ w' 73 21 = -1 ∧ mT w' (runP (w 84) n 600 (.inl 0) Y00).2 ∧ okY (runP (w 84) n 600 (.inl 0) Y00).2 ∧ ∃ w1, ((∀ c x, (c < 75 ∨ 83 < c) → (c ≠ 73 ∨ (x ≠ 1 ∧ x ≠ 12 ∧ x ≠ 13 ∧ x ≠ 14 ∧ x ≠ 15 ∧ x ≠ 16 ∧ x ≠ 17 ∧ x ≠ 18 ∧ x ≠ 19 ∧ x ≠ 20 ∧ x ≠ 21)) → w1 c x = w c x)) ∧ fgQ w1 w'))))) zNo 140 [zR 73, zI n] [] (ZZ t dr tx) q_14_w
              refine zA_aload_n dX12_yard_140 rfl ?_
              refine zA_getR (n := 81) dX12_yard_141 fX12_43 c73 rfl ?_
              refine zA_cS (st := []) dX12_yard_144 sX12_copy kX12_298 (m_copy (w := q_14_w) (q := 81) (z := 96) (h := 48) c81 (by decide) (by decide)) (by decide) rfl rfl (Nat.le_of_ble_eq_true rfl) (fun q_15_v q_15_S q_15_w q_15 => ?_)
              obtain ⟨rfl, rfl, t81a, t81b, -⟩ := q_15
              refine zA_range (fun hr => ?_)
              show zA l mX12_yard false 10 0 0 (fun v' S' w' => S' = (ZZ t dr tx) ∧ ((¬ (0 ≤ n ∧ n ≤ w 73 12) ∧ v' = some (zI 0) ∧ w' = up w 73 1 1) ∨ ((0 ≤ n ∧ n ≤ w 73 12) ∧ (w' 73 1 = 0 ∧ w' 73 12 = 0) ∧ ((∃ e, (runP (w 84) n 600 (.inl 0) Y00).1 = .inr e ∧ v' = some (zI e.1) ∧ e.1 ≠ 0 ∧ w' 73 21 = e.2 ∧ ((∀ c x, (c < 75 ∨ 83 < c) → (c ≠ 73 ∨ (x ≠ 1 ∧ x ≠ 12 ∧ x ≠ 13 ∧ x ≠ 14 ∧ x ≠ 15 ∧ x ≠ 16 ∧ x ≠ 17 ∧ x ≠ 18 ∧ x ≠ 19 ∧ x ≠ 20 ∧ x ≠ 21)) → w' c x = w c x)) ∧ ∀ c x, 75 ≤ c → c ≤ 83 → x < loB c → w' c x = w c x) ∨ (okP (runP (w 84) n 600 (.inl 0) Y00).1 ∧ v' = some (zI 0) ∧ w' 73 21 = -1 ∧ mT w' (runP (w 84) n 600 (.inl 0) Y00).2 ∧ okY (runP (w 84) n 600 (.inl 0) Y00).2 ∧ ∃ w1, ((∀ c x, (c < 75 ∨ 83 < c) → (c ≠ 73 ∨ (x ≠ 1 ∧ x ≠ 12 ∧ x ≠ 13 ∧ x ≠ 14 ∧ x ≠ 15 ∧ x ≠ 16 ∧ x ≠ 17 ∧ x ≠ 18 ∧ x ≠ 19 ∧ x ≠ 20 ∧ x ≠ 21)) → w1 c x = w c x)) ∧ fgQ w1 w'))))) zNo 147 [zR 73, zI n] [] (ZZ t dr tx) q_15_w
              refine zA_aload_n dX12_yard_147 rfl ?_
              refine zA_getR (n := 82) dX12_yard_148 fX12_45 c73 rfl ?_
              refine zA_cS (st := []) dX12_yard_151 sX12_copy kX12_298 (m_copy (w := q_15_w) (q := 82) (z := 288) (h := 144) c82 (by decide) (by decide)) (by decide) rfl rfl (Nat.le_of_ble_eq_true rfl) (fun q_16_v q_16_S q_16_w q_16 => ?_)
              obtain ⟨rfl, rfl, t82a, t82b, -⟩ := q_16
              refine zA_range (fun hr => ?_)
              show zA l mX12_yard false 10 0 0 (fun v' S' w' => S' = (ZZ t dr tx) ∧ ((¬ (0 ≤ n ∧ n ≤ w 73 12) ∧ v' = some (zI 0) ∧ w' = up w 73 1 1) ∨ ((0 ≤ n ∧ n ≤ w 73 12) ∧ (w' 73 1 = 0 ∧ w' 73 12 = 0) ∧ ((∃ e, (runP (w 84) n 600 (.inl 0) Y00).1 = .inr e ∧ v' = some (zI e.1) ∧ e.1 ≠ 0 ∧ w' 73 21 = e.2 ∧ ((∀ c x, (c < 75 ∨ 83 < c) → (c ≠ 73 ∨ (x ≠ 1 ∧ x ≠ 12 ∧ x ≠ 13 ∧ x ≠ 14 ∧ x ≠ 15 ∧ x ≠ 16 ∧ x ≠ 17 ∧ x ≠ 18 ∧ x ≠ 19 ∧ x ≠ 20 ∧ x ≠ 21)) → w' c x = w c x)) ∧ ∀ c x, 75 ≤ c → c ≤ 83 → x < loB c → w' c x = w c x) ∨ (okP (runP (w 84) n 600 (.inl 0) Y00).1 ∧ v' = some (zI 0) ∧ w' 73 21 = -1 ∧ mT w' (runP (w 84) n 600 (.inl 0) Y00).2 ∧ okY (runP (w 84) n 600 (.inl 0) Y00).2 ∧ ∃ w1, ((∀ c x, (c < 75 ∨ 83 < c) → (c ≠ 73 ∨ (x ≠ 1 ∧ x ≠ 12 ∧ x ≠ 13 ∧ x ≠ 14 ∧ x ≠ 15 ∧ x ≠ 16 ∧ x ≠ 17 ∧ x ≠ 18 ∧ x ≠ 19 ∧ x ≠ 20 ∧ x ≠ 21)) → w1 c x = w c x)) ∧ fgQ w1 w'))))) zNo 154 [zR 73, zI n] [] (ZZ t dr tx) q_16_w
              refine zA_aload_n dX12_yard_154 rfl ?_
              refine zA_getR (n := 83) dX12_yard_155 fX12_48 c73 rfl ?_
              refine zA_cS (st := []) dX12_yard_158 sX12_copy kX12_298 (m_copy (w := q_16_w) (q := 83) (z := 72) (h := 36) c83 (by decide) (by decide)) (by decide) rfl rfl (Nat.le_of_ble_eq_true rfl) (fun q_17_v q_17_S q_17_w q_17 => ?_)
              obtain ⟨rfl, rfl, t83a, t83b, -⟩ := q_17
              refine zA_range (fun hr => ?_)
              show zA l mX12_yard false 10 0 0 (fun v' S' w' => S' = (ZZ t dr tx) ∧ ((¬ (0 ≤ n ∧ n ≤ w 73 12) ∧ v' = some (zI 0) ∧ w' = up w 73 1 1) ∨ ((0 ≤ n ∧ n ≤ w 73 12) ∧ (w' 73 1 = 0 ∧ w' 73 12 = 0) ∧ ((∃ e, (runP (w 84) n 600 (.inl 0) Y00).1 = .inr e ∧ v' = some (zI e.1) ∧ e.1 ≠ 0 ∧ w' 73 21 = e.2 ∧ ((∀ c x, (c < 75 ∨ 83 < c) → (c ≠ 73 ∨ (x ≠ 1 ∧ x ≠ 12 ∧ x ≠ 13 ∧ x ≠ 14 ∧ x ≠ 15 ∧ x ≠ 16 ∧ x ≠ 17 ∧ x ≠ 18 ∧ x ≠ 19 ∧ x ≠ 20 ∧ x ≠ 21)) → w' c x = w c x)) ∧ ∀ c x, 75 ≤ c → c ≤ 83 → x < loB c → w' c x = w c x) ∨ (okP (runP (w 84) n 600 (.inl 0) Y00).1 ∧ v' = some (zI 0) ∧ w' 73 21 = -1 ∧ mT w' (runP (w 84) n 600 (.inl 0) Y00).2 ∧ okY (runP (w 84) n 600 (.inl 0) Y00).2 ∧ ∃ w1, ((∀ c x, (c < 75 ∨ 83 < c) → (c ≠ 73 ∨ (x ≠ 1 ∧ x ≠ 12 ∧ x ≠ 13 ∧ x ≠ 14 ∧ x ≠ 15 ∧ x ≠ 16 ∧ x ≠ 17 ∧ x ≠ 18 ∧ x ≠ 19 ∧ x ≠ 20 ∧ x ≠ 21)) → w1 c x = w c x)) ∧ fgQ w1 w'))))) zNo 161 [zR 73, zI n] [] (ZZ t dr tx) q_17_w
              refine zA_aload_n dX12_yard_161 rfl ?_
              refine zA_cV (st := []) dX12_yard_162 vX12_forget kX12_179 (m_forget (w := q_17_w)) (by decide) c73 rfl rfl (Nat.le_of_ble_eq_true rfl) rfl (fun q_18_v q_18_S q_18_w q_18 => ?_)
              obtain ⟨rfl, rfl, hfg⟩ := q_18
              refine zA_range (fun hr => ?_)
              show zA l mX12_yard false 10 0 0 (fun v' S' w' => S' = (ZZ t dr tx) ∧ ((¬ (0 ≤ n ∧ n ≤ w 73 12) ∧ v' = some (zI 0) ∧ w' = up w 73 1 1) ∨ ((0 ≤ n ∧ n ≤ w 73 12) ∧ (w' 73 1 = 0 ∧ w' 73 12 = 0) ∧ ((∃ e, (runP (w 84) n 600 (.inl 0) Y00).1 = .inr e ∧ v' = some (zI e.1) ∧ e.1 ≠ 0 ∧ w' 73 21 = e.2 ∧ ((∀ c x, (c < 75 ∨ 83 < c) → (c ≠ 73 ∨ (x ≠ 1 ∧ x ≠ 12 ∧ x ≠ 13 ∧ x ≠ 14 ∧ x ≠ 15 ∧ x ≠ 16 ∧ x ≠ 17 ∧ x ≠ 18 ∧ x ≠ 19 ∧ x ≠ 20 ∧ x ≠ 21)) → w' c x = w c x)) ∧ ∀ c x, 75 ≤ c → c ≤ 83 → x < loB c → w' c x = w c x) ∨ (okP (runP (w 84) n 600 (.inl 0) Y00).1 ∧ v' = some (zI 0) ∧ w' 73 21 = -1 ∧ mT w' (runP (w 84) n 600 (.inl 0) Y00).2 ∧ okY (runP (w 84) n 600 (.inl 0) Y00).2 ∧ ∃ w1, ((∀ c x, (c < 75 ∨ 83 < c) → (c ≠ 73 ∨ (x ≠ 1 ∧ x ≠ 12 ∧ x ≠ 13 ∧ x ≠ 14 ∧ x ≠ 15 ∧ x ≠ 16 ∧ x ≠ 17 ∧ x ≠ 18 ∧ x ≠ 19 ∧ x ≠ 20 ∧ x ≠ 21)) → w1 c x = w c x)) ∧ fgQ w1 w'))))) zNo 165 [zR 73, zI n] [] (ZZ t dr tx) q_18_w
              refine zA_iconst dX12_yard_165 ?_
              refine zA_iret dX12_yard_166 rfl ?_
              have hok1 := (rM_ok hR1).mp k82
              obtain ⟨hY1c, hO1⟩ := hY1 hok1
              obtain ⟨q1, hs1⟩ := rM_inl hR1 k82
              have hfgF : ∀ c x, 75 ≤ c → c ≤ 83 → q_18_w c x = q_17_w c x := fun c x a e => hfg.1 c x (by omega) (by omega) (by omega) (by omega) (by omega) (by omega) (by omega) (by omega) (by omega) (Or.inl (by omega))
              have hout : ∀ c x, (c < 75 ∨ 83 < c) → q_17_w c x = w1 c x := fun c x a => by
                rw [t83a c x (by omega), t82a c x (by omega), t81a c x (by omega), t80a c x (by omega), t79a c x (by omega), t78a c x (by omega), t77a c x (by omega), t76a c x (by omega), t75a c x (by omega)]
              have E75 : ∀ k : Int, 0 ≤ k → k < 1 → q_18_w 75 k = w1 75 (1 + k) := fun k a e => by rw [hfgF 75 k (by decide) (by decide), t83a 75 k (by decide), t82a 75 k (by decide), t81a 75 k (by decide), t80a 75 k (by decide), t79a 75 k (by decide), t78a 75 k (by decide), t77a 75 k (by decide), t76a 75 k (by decide), t75b k a e]
              have E76 : ∀ k : Int, 0 ≤ k → k < 1 → q_18_w 76 k = w1 76 (1 + k) := fun k a e => by rw [hfgF 76 k (by decide) (by decide), t83a 76 k (by decide), t82a 76 k (by decide), t81a 76 k (by decide), t80a 76 k (by decide), t79a 76 k (by decide), t78a 76 k (by decide), t77a 76 k (by decide), t76b k a e, t75a 76 (1 + k) (by decide)]
              have E77 : ∀ k : Int, 0 ≤ k → k < 1 → q_18_w 77 k = w1 77 (1 + k) := fun k a e => by rw [hfgF 77 k (by decide) (by decide), t83a 77 k (by decide), t82a 77 k (by decide), t81a 77 k (by decide), t80a 77 k (by decide), t79a 77 k (by decide), t78a 77 k (by decide), t77b k a e, t76a 77 (1 + k) (by decide), t75a 77 (1 + k) (by decide)]
              have E78 : ∀ k : Int, 0 ≤ k → k < 1 → q_18_w 78 k = w1 78 (1 + k) := fun k a e => by rw [hfgF 78 k (by decide) (by decide), t83a 78 k (by decide), t82a 78 k (by decide), t81a 78 k (by decide), t80a 78 k (by decide), t79a 78 k (by decide), t78b k a e, t77a 78 (1 + k) (by decide), t76a 78 (1 + k) (by decide), t75a 78 (1 + k) (by decide)]
              have E79 : ∀ k : Int, 0 ≤ k → k < 12 → q_18_w 79 k = w1 79 (12 + k) := fun k a e => by rw [hfgF 79 k (by decide) (by decide), t83a 79 k (by decide), t82a 79 k (by decide), t81a 79 k (by decide), t80a 79 k (by decide), t79b k a e, t78a 79 (12 + k) (by decide), t77a 79 (12 + k) (by decide), t76a 79 (12 + k) (by decide), t75a 79 (12 + k) (by decide)]
              have E80 : ∀ k : Int, 0 ≤ k → k < 30 → q_18_w 80 k = w1 80 (30 + k) := fun k a e => by rw [hfgF 80 k (by decide) (by decide), t83a 80 k (by decide), t82a 80 k (by decide), t81a 80 k (by decide), t80b k a e, t79a 80 (30 + k) (by decide), t78a 80 (30 + k) (by decide), t77a 80 (30 + k) (by decide), t76a 80 (30 + k) (by decide), t75a 80 (30 + k) (by decide)]
              have E81 : ∀ k : Int, 0 ≤ k → k < 48 → q_18_w 81 k = w1 81 (48 + k) := fun k a e => by rw [hfgF 81 k (by decide) (by decide), t83a 81 k (by decide), t82a 81 k (by decide), t81b k a e, t80a 81 (48 + k) (by decide), t79a 81 (48 + k) (by decide), t78a 81 (48 + k) (by decide), t77a 81 (48 + k) (by decide), t76a 81 (48 + k) (by decide), t75a 81 (48 + k) (by decide)]
              have E82 : ∀ k : Int, 0 ≤ k → k < 144 → q_18_w 82 k = w1 82 (144 + k) := fun k a e => by rw [hfgF 82 k (by decide) (by decide), t83a 82 k (by decide), t82b k a e, t81a 82 (144 + k) (by decide), t80a 82 (144 + k) (by decide), t79a 82 (144 + k) (by decide), t78a 82 (144 + k) (by decide), t77a 82 (144 + k) (by decide), t76a 82 (144 + k) (by decide), t75a 82 (144 + k) (by decide)]
              have E83 : ∀ k : Int, 0 ≤ k → k < 36 → q_18_w 83 k = w1 83 (36 + k) := fun k a e => by rw [hfgF 83 k (by decide) (by decide), t83b k a e, t82a 83 (36 + k) (by decide), t81a 83 (36 + k) (by decide), t80a 83 (36 + k) (by decide), t79a 83 (36 + k) (by decide), t78a 83 (36 + k) (by decide), t77a 83 (36 + k) (by decide), t76a 83 (36 + k) (by decide), t75a 83 (36 + k) (by decide)]
              obtain ⟨⟨m0, m1, m2, m3⟩, m4, m5, m6, m7, m8⟩ := id hY1c
              obtain ⟨k0, k1, k2, k3, -⟩ := id hO1
              refine ⟨rfl, Or.inr ⟨by omega, ⟨?_, ?_⟩, Or.inr ⟨by rw [hre]; exact hok1, rfl, ?_, ?_, by rw [hre]; exact hO1, q_17_w, fun c x a g => ?_, hfg⟩⟩⟩
              · rw [hfg.1 73 1 (by decide) (by decide) (by decide) (by decide) (by decide) (by decide) (by decide) (by decide) (by decide) (Or.inr (by decide)), hout 73 1 (by decide), hf.1 73 1 (by decide) (Or.inr (by decide)), v73]; exact u1
              · rw [hfg.1 73 12 (by decide) (by decide) (by decide) (by decide) (by decide) (by decide) (by decide) (by decide) (by decide) (Or.inr (by decide)), hout 73 12 (by decide), hf.1 73 12 (by decide) (Or.inr (by decide)), v73]; exact u12
              · rw [hfg.1 73 21 (by decide) (by decide) (by decide) (by decide) (by decide) (by decide) (by decide) (by decide) (by decide) (Or.inr (by decide)), hout 73 21 (by decide), hf.1 73 21 (by decide) (Or.inr (by decide)), v73]; exact u21
              · rw [hre]
                show mT q_18_w Y1
                refine ⟨⟨?_, ?_, ?_, ?_⟩, fun c x0 x1 => ?_, fun d x0 x1 => ?_, fun i x0 x1 => ?_, fun i x0 x1 => ?_, fun i x0 x1 => ?_⟩
                · rw [E75 0 (by decide) (by decide)]; exact m0
                · rw [E76 0 (by decide) (by decide)]; exact m1
                · rw [E77 0 (by decide) (by decide)]; exact m2
                · rw [E78 0 (by decide) (by decide)]; exact m3
                · rw [E79 c x0 (by omega)]; exact m4 c x0 x1
                · rw [E80 d x0 x1]; exact m5 d x0 x1
                · rw [E81 i x0 (by omega)]; exact m6 i x0 x1
                · rw [E82 i x0 x1]; exact m7 i x0 x1
                · rw [E83 i x0 (by omega)]; exact m8 i x0 x1
              · rw [hout c x a, hf.1 c x a (by omega)]; exact v0 c x a (by omega)
            · skip
              refine zA_aload_n dX12_yard_85 rfl ?_
              refine zA_aload_n dX12_yard_86 rfl ?_
              refine zA_getI dX12_yard_87 fX12_231 c73 rfl ?_
              refine zA_valI (w1 73 20) rfl ?_
              refine zA_putI dX12_yard_90 fX12_53 c73 rfl (by first | assumption | exact hr _ _ | exact inR_mk (by omega) (by omega)) ⟨rfl, rfl⟩ ?_
              refine zA_namew (fun w_19 hw_19 => ?_)
              refine zA_range (fun hr => ?_)
              replace hw_19 : w_19 = up w1 73 21 (w1 73 20) := hw_19
              refine zA_aload_n dX12_yard_93 rfl ?_
              refine zA_getI dX12_yard_94 fX12_228 c73 rfl ?_
              refine zA_valI (w_19 73 19) rfl ?_
              refine zA_iret dX12_yard_97 rfl ?_
              obtain ⟨e, he⟩ := rM_inr hR1 k82
              have hRe := hR1
              rw [he] at hRe
              refine ⟨rfl, Or.inr ⟨by omega, ⟨?_, ?_⟩, Or.inl ⟨e, by rw [hre]; exact he, ?_, hRe.2.1, ?_, fun c x a g => ?_, fun c x a g f => ?_⟩⟩⟩
              · rw [hw_19, up_idx _ _ _ _ (by decide), hf.1 73 1 (by decide) (Or.inr (by decide)), v73]; exact u1
              · rw [hw_19, up_idx _ _ _ _ (by decide), hf.1 73 12 (by decide) (Or.inr (by decide)), v73]; exact u12
              · rw [hw_19, up_idx _ _ _ _ (by decide), hRe.1]
              · rw [hw_19, up_same]; exact hRe.2.2
              · rw [hw_19, up_n (by omega), hf.1 c x a (by omega)]; exact v0 c x a (by omega)
              · rw [hw_19, up_cell _ _ _ _ (by omega), hf.2 c x a g f]; exact vL c x a g f
          refine zA_if_ne (tgt := 78) dX12_yard_61 (by decide) (by first | assumption | exact hr _ _ | exact inR_mk (by omega) (by omega)) (fun c61 => ?_) (fun c61 => ?_)
          · skip
            skip
            exact L78 (by obtain ⟨e, he⟩ := rM_inr hR1 c61; rw [hc, he]; exact runP_r)
          · skip
            obtain ⟨q1, hs1⟩ := rM_inl hR1 c61
            obtain ⟨hYc, hO1⟩ := hY1 (by rw [hs1]; trivial)
            have hRq := hR1
            rw [hs1] at hRq hc
            have hq0 := hRq.1
            refine zA_aload_n dX12_yard_64 rfl ?_
            refine zA_getI dX12_yard_65 fX12_205 c73 rfl ?_
            refine zA_valI (w1 73 15) rfl ?_
            refine zA_if_eq (tgt := 78) dX12_yard_68 (by decide) (by first | assumption | exact hr _ _ | exact inR_mk (by omega) (by omega)) (fun c68 => ?_) (fun c68 => ?_)
            · skip
              skip
              exact L78 (by rw [hc, hs1]; exact runP_e (hRq.2.2.2.1.symm.trans c68))
            · skip
              have hk0 : tkK (w 84) n q1 ≠ 0 := fun h => c68 (hRq.2.2.2.1.trans h)
              have hqn : q1 < n := Classical.byContradiction (fun g => by
                have h1 := tkS_b (b := w 84) hq0.2
                exact hk0 ((tkK_0 hq0.2).mpr (by omega)))
              have hkq := hk q1 hs1
              obtain ⟨k1, hk1⟩ : ∃ k1 : Nat, k = k1 + 1 := ⟨k - 1, by omega⟩
              refine zA_aload_n dX12_yard_71 rfl ?_
              refine zA_cV (st := []) dX12_yard_72 vX12_readClause kX12_295 (m_readClause (w := w1) (p := q1) (Y := Y1) hp1 hRq hYc hO1 (fun j hj => by rw [hf.1 74 _ (by decide) (Or.inl (by decide)), v0 74 _ (by decide) (Or.inl (by decide))]; exact hcl j hj)) (by decide) c73 rfl rfl (Nat.le_of_ble_eq_true rfl) rfl (fun q_20_v q_20_S q_20_w q_20 => ?_)
              obtain ⟨rfl, rfl, hfb, hpb, hRb, hyb⟩ := q_20
              refine zA_range (fun hr => ?_)
              show zA l mX12_yard false 10 0 0 (fun v' S' w' => S' = (ZZ t dr tx) ∧ ((¬ (0 ≤ n ∧ n ≤ w 73 12) ∧ v' = some (zI 0) ∧ w' = up w 73 1 1) ∨ ((0 ≤ n ∧ n ≤ w 73 12) ∧ (w' 73 1 = 0 ∧ w' 73 12 = 0) ∧ ((∃ e, (runP (w 84) n 600 (.inl 0) Y00).1 = .inr e ∧ v' = some (zI e.1) ∧ e.1 ≠ 0 ∧ w' 73 21 = e.2 ∧ ((∀ c x, (c < 75 ∨ 83 < c) → (c ≠ 73 ∨ (x ≠ 1 ∧ x ≠ 12 ∧ x ≠ 13 ∧ x ≠ 14 ∧ x ≠ 15 ∧ x ≠ 16 ∧ x ≠ 17 ∧ x ≠ 18 ∧ x ≠ 19 ∧ x ≠ 20 ∧ x ≠ 21)) → w' c x = w c x)) ∧ ∀ c x, 75 ≤ c → c ≤ 83 → x < loB c → w' c x = w c x) ∨ (okP (runP (w 84) n 600 (.inl 0) Y00).1 ∧ v' = some (zI 0) ∧ w' 73 21 = -1 ∧ mT w' (runP (w 84) n 600 (.inl 0) Y00).2 ∧ okY (runP (w 84) n 600 (.inl 0) Y00).2 ∧ ∃ w1, ((∀ c x, (c < 75 ∨ 83 < c) → (c ≠ 73 ∨ (x ≠ 1 ∧ x ≠ 12 ∧ x ≠ 13 ∧ x ≠ 14 ∧ x ≠ 15 ∧ x ≠ 16 ∧ x ≠ 17 ∧ x ≠ 18 ∧ x ≠ 19 ∧ x ≠ 20 ∧ x ≠ 21)) → w1 c x = w c x)) ∧ fgQ w1 w'))))) zNo 75 [zR 73, zI n] [] (ZZ t dr tx) q_20_w
              refine zA_goto (tgt := 57) dX12_yard_75 (by decide) ?_
              exact ih57 _ _ _ k1 (clM_tr hf hfb) hpb hRb (fun h => ⟨hyb h, okY_cl hq0.1 hq0.2 hO1 h⟩) (by rw [hc, hk1]; exact runP_s hk0) (fun q2 hq2 => by
                    have := cl_gt hq0.2 hk0 hq2
                    have := hk q1 hs1
                    omega) (by omega)
      exact L57 _ _ (.inl 0) Y00 600 (clM_o hoS) hpS hRS (fun _ => ⟨mC_o hmC0 hoS, okY_0⟩) rfl (fun q hq => by cases hq; omega) (Nat.lt_succ_self _)
    · skip
      refine zA_aload_n dX12_yard_17 rfl ?_
      refine zA_iconst dX12_yard_18 ?_
      refine zA_cV (st := []) dX12_yard_19 vX12_fail kX12_292 (m_fail (w := w_1) (k := 1) ⟨by decide, by decide⟩) (by decide) c73 rfl rfl (Nat.le_of_ble_eq_true rfl) rfl (zRt_el ?_)
      show zA l mX12_yard false 10 0 0 (fun v' S' w' => S' = (ZZ t dr tx) ∧ ((¬ (0 ≤ n ∧ n ≤ w 73 12) ∧ v' = some (zI 0) ∧ w' = up w 73 1 1) ∨ ((0 ≤ n ∧ n ≤ w 73 12) ∧ (w' 73 1 = 0 ∧ w' 73 12 = 0) ∧ ((∃ e, (runP (w 84) n 600 (.inl 0) Y00).1 = .inr e ∧ v' = some (zI e.1) ∧ e.1 ≠ 0 ∧ w' 73 21 = e.2 ∧ ((∀ c x, (c < 75 ∨ 83 < c) → (c ≠ 73 ∨ (x ≠ 1 ∧ x ≠ 12 ∧ x ≠ 13 ∧ x ≠ 14 ∧ x ≠ 15 ∧ x ≠ 16 ∧ x ≠ 17 ∧ x ≠ 18 ∧ x ≠ 19 ∧ x ≠ 20 ∧ x ≠ 21)) → w' c x = w c x)) ∧ ∀ c x, 75 ≤ c → c ≤ 83 → x < loB c → w' c x = w c x) ∨ (okP (runP (w 84) n 600 (.inl 0) Y00).1 ∧ v' = some (zI 0) ∧ w' 73 21 = -1 ∧ mT w' (runP (w 84) n 600 (.inl 0) Y00).2 ∧ okY (runP (w 84) n 600 (.inl 0) Y00).2 ∧ ∃ w1, ((∀ c x, (c < 75 ∨ 83 < c) → (c ≠ 73 ∨ (x ≠ 1 ∧ x ≠ 12 ∧ x ≠ 13 ∧ x ≠ 14 ∧ x ≠ 15 ∧ x ≠ 16 ∧ x ≠ 17 ∧ x ≠ 18 ∧ x ≠ 19 ∧ x ≠ 20 ∧ x ≠ 21)) → w1 c x = w c x)) ∧ fgQ w1 w'))))) zNo 22 [zR 73, zI n] [zI 0] (ZZ t dr tx) (up w_1 73 1 1)
      refine zA_iret dX12_yard_22 rfl ?_
      exact ⟨rfl, Or.inl ⟨by omega, rfl, by rw [hw_1]; exact up_up _ _ _ _ _⟩⟩

