/-! the text of the reference: a token -/
def pM (b : Int → Int) (n : Int) (w : zW) : Prop := (0 ≤ n ∧ n ≤ 600) ∧ w 73 14 = n ∧ ∀ i : Int, 0 ≤ i → i < n → w 84 i = b i ∧ 0 ≤ b i
def onM (w w' : zW) : Prop := ∀ c x, (c ≠ 73 ∨ (x ≠ 13 ∧ x ≠ 15 ∧ x ≠ 16 ∧ x ≠ 17 ∧ x ≠ 18 ∧ x ≠ 19 ∧ x ≠ 20)) → w' c x = w c x
def rM (b : Int → Int) (n : Int) (w : zW) (s : zP) : Prop := match s with
  | .inl p => (0 ≤ p ∧ p ≤ n) ∧ w 73 19 = 0 ∧ (w 73 17 = tkS b n p ∧ w 73 18 = tkE b n p ∧ w 73 13 = tkE b n p) ∧ w 73 15 = tkK b n p ∧ (tkK b n p = 2 → tkE b n p - tkS b n p ≤ 4 → w 73 16 = tkV b n p)
  | .inr e => w 73 19 = e.1 ∧ e.1 ≠ 0 ∧ w 73 20 = e.2
theorem onM_rfl {w : zW} : onM w w := fun _ _ _ => rfl
theorem onM_tr {w w1 w2 : zW} (h : onM w w1) (k : onM w1 w2) : onM w w2 := fun c x a => (k c x a).trans (h c x a)
theorem pM_o {b : Int → Int} {n : Int} {w w' : zW} (h : pM b n w) (k : onM w w') : pM b n w' := ⟨h.1, (k 73 14 (Or.inr (by decide))).trans h.2.1, fun i a c => ⟨(k 84 i (Or.inl (by decide))).trans (h.2.2 i a c).1, (h.2.2 i a c).2⟩⟩
def btF (b : Int → Int) (n k : Int) : Int := if k < n then b k else -1
theorem btF_lt {b : Int → Int} {n k : Int} (h : k < n) : btF b n k = b k := if_pos h
theorem btF_ge {b : Int → Int} {n k : Int} (h : n ≤ k) : btF b n k = -1 := if_neg (by omega)
theorem btF_n {b : Int → Int} {n k : Int} (h : 0 ≤ btF b n k) : k < n := Classical.byContradiction (fun q => by rw [btF_ge (by omega)] at h; omega)
set_option maxRecDepth 100000 in
set_option maxHeartbeats 4000000 in
theorem m_stepOn {l : Launch} {t dr tx : Nat} {w : zW} {b : Int → Int} {n : Int} (hp : pM b n w) (h0 : w 73 19 = 0) (h1 : 0 ≤ w 73 13) (h2 : w 73 13 ≤ n) : zSp l mX12_stepOn false 2 0 0 [zR 73] (ZZ t dr tx) w (fun v' S' w' => v' = none ∧ S' = (ZZ t dr tx) ∧ onM w w' ∧ pM b n w' ∧ rM b n w' (.inl (w 73 13))) zNo := by
  refine zA_intro ⟨plainFor_of_name (by decide +kernel), Or.inl (by decide +kernel)⟩ rfl (Nat.le_of_ble_eq_true rfl) ?_
  obtain ⟨⟨n0, n6⟩, hn, hb⟩ := id hp
  refine zA_range (fun hr => ?_)
  show zA l mX12_stepOn false 2 0 0 (fun v' S' w' => v' = none ∧ S' = (ZZ t dr tx) ∧ onM w w' ∧ pM b n w' ∧ rM b n w' (.inl (w 73 13))) zNo 0 [zR 73, .null] [] (ZZ t dr tx) w
  have L0 : ∀ (z0 : Nat) (q : Int) (w1 : zW) (q0 : w 73 13 ≤ q) (q1 : q ≤ n) (hf : ∀ c x, (c ≠ 73 ∨ x ≠ 13) → w1 c x = w c x) (e13 : w1 73 13 = q) (hq : ∀ x : Int, w 73 13 ≤ x → x < q → x < n ∧ kdOf (b x) = 5) (zm : (n - q).toNat < z0), zA l mX12_stepOn false 2 0 0 (fun v' S' w' => v' = none ∧ S' = (ZZ t dr tx) ∧ onM w w' ∧ pM b n w' ∧ rM b n w' (.inl (w 73 13))) zNo 0 [zR 73, .null] [] (ZZ t dr tx) w1 := by
    intro z0
    induction z0 with
    | zero => intro q w1 q0 q1 hf e13 hq zm; exact absurd zm (Nat.not_lt_zero _)
    | succ z0 ih0 =>
      intro q w1 q0 q1 hf e13 hq zm
      refine zA_range (fun hr => ?_)
      have e14 : w1 73 14 = n := (hf 73 14 (Or.inr (by decide))).trans hn
      have e84 : ∀ i : Int, 0 ≤ i → i < n → w1 84 i = b i := fun i a c => (hf 84 i (Or.inl (by decide))).trans (hb i a c).1
      have hbt : ∀ k : Int, 0 ≤ k → (if k < w1 73 14 then w1 84 k else -1) = btF b n k := fun k k0 => by
        rw [e14]; unfold btF
        by_cases g : k < n
        · rw [if_pos g, if_pos g]; exact e84 k k0 g
        · rw [if_neg g, if_neg g]
      have hbr : -1 ≤ btF b n q ∧ btF b n q < 2147483648 := by
        unfold btF
        by_cases g : q < n
        · rw [if_pos g, ← e84 q (by omega) g]
          have h3 := (hr 84 q).2
          have h4 := (hb q (by omega) g).2
          rw [← e84 q (by omega) g] at h4
          omega
        · rw [if_neg g]; omega
      refine zA_aload_n dX12_stepOn_0 rfl ?_
      refine zA_aload_n dX12_stepOn_1 rfl ?_
      refine zA_getI dX12_stepOn_2 fX12_195 c73 rfl ?_
      refine zA_valI (w1 73 13) rfl ?_
      refine zA_cV (st := []) dX12_stepOn_5 vX12_byteAt kX12_198 (m_byteAt (w := w1) (k := w1 73 13) (by omega) (by omega) (by omega)) (by decide) c73 rfl rfl (Nat.le_of_ble_eq_true rfl) rfl (zRt_el ?_)
      show zA l mX12_stepOn false 2 0 0 (fun v' S' w' => v' = none ∧ S' = (ZZ t dr tx) ∧ onM w w' ∧ pM b n w' ∧ rM b n w' (.inl (w 73 13))) zNo 8 [zR 73, .null] [zI (if w1 73 13 < w1 73 14 then w1 84 (w1 73 13) else -1)] (ZZ t dr tx) w1
      refine zA_valI (btF b n q) (by rw [e13]; exact hbt _ (by omega)) ?_
      refine zA_bipush dX12_stepOn_8 rfl ?_
      have L26 : ∀  (hqn : q < n) (hqk : kdOf (b q) = 5), zA l mX12_stepOn false 2 0 0 (fun v' S' w' => v' = none ∧ S' = (ZZ t dr tx) ∧ onM w w' ∧ pM b n w' ∧ rM b n w' (.inl (w 73 13))) zNo 26 [zR 73, .null] [] (ZZ t dr tx) w1 := by
        intro  hqn hqk
        refine zA_aload_n dX12_stepOn_26 rfl ?_
        refine zA_dup dX12_stepOn_27 rfl ?_
        refine zA_getI dX12_stepOn_28 fX12_195 c73 rfl ?_
        refine zA_valI (w1 73 13) rfl ?_
        refine zA_iconst dX12_stepOn_31 ?_
        refine zA_iadd dX12_stepOn_32 ?_
        refine zA_putI dX12_stepOn_33 fX12_195 c73 rfl (by first | assumption | exact hr _ _ | exact inR_mk (by omega) (by omega)) ⟨rfl, rfl⟩ ?_
        refine zA_namew (fun w_1 hw_1 => ?_)
        refine zA_range (fun hr => ?_)
        replace hw_1 : w_1 = up w1 73 13 ((w1 73 13) + 1) := hw_1
        refine zA_goto (tgt := 0) dX12_stepOn_36 (by decide) ?_
        exact ih0 (q + 1) _ (by omega) (by omega) (fun c x a => by rw [hw_1, up_n a]; exact hf c x a) (by rw [hw_1, up_same]; omega) (fun x a c => by
              by_cases g : x = q
              · rw [g]; exact ⟨hqn, hqk⟩
              · exact hq x a (by omega)) (by omega)
      refine zA_icmp_eq (tgt := 26) dX12_stepOn_10 (by decide) (by first | assumption | exact hr _ _ | exact inR_mk (by omega) (by omega)) ⟨by decide, by decide⟩ (fun c10 => ?_) (fun c10 => ?_)
      · skip
        skip
        exact L26 (btF_n (b := b) (show 0 ≤ btF b n q by omega)) (kdOf_5.mpr (by rw [btF_lt (btF_n (show 0 ≤ btF b n q by omega))] at c10; omega))
      · skip
        refine zA_aload_n dX12_stepOn_13 rfl ?_
        refine zA_aload_n dX12_stepOn_14 rfl ?_
        refine zA_getI dX12_stepOn_15 fX12_195 c73 rfl ?_
        refine zA_valI (w1 73 13) rfl ?_
        refine zA_cV (st := []) dX12_stepOn_18 vX12_byteAt kX12_198 (m_byteAt (w := w1) (k := w1 73 13) (by omega) (by omega) (by omega)) (by decide) c73 rfl rfl (Nat.le_of_ble_eq_true rfl) rfl (zRt_el ?_)
        show zA l mX12_stepOn false 2 0 0 (fun v' S' w' => v' = none ∧ S' = (ZZ t dr tx) ∧ onM w w' ∧ pM b n w' ∧ rM b n w' (.inl (w 73 13))) zNo 21 [zR 73, .null] [zI (if w1 73 13 < w1 73 14 then w1 84 (w1 73 13) else -1)] (ZZ t dr tx) w1
        refine zA_valI (btF b n q) (by rw [e13]; exact hbt _ (by omega)) ?_
        refine zA_bipush dX12_stepOn_21 rfl ?_
        refine zA_icmp_ne (tgt := 39) dX12_stepOn_23 (by decide) (by first | assumption | exact hr _ _ | exact inR_mk (by omega) (by omega)) ⟨by decide, by decide⟩ (fun c23 => ?_) (fun c23 => ?_)
        · skip
          have hS : tkS b n (w 73 13) = q := rnF_eq ⟨q0, hq, fun g => by
            have h3 := kdOf_5.mp g.2
            rw [btF_lt g.1] at c10 c23
            omega⟩
          refine zA_aload_n dX12_stepOn_39 rfl ?_
          refine zA_aload_n dX12_stepOn_40 rfl ?_
          refine zA_getI dX12_stepOn_41 fX12_195 c73 rfl ?_
          refine zA_valI (w1 73 13) rfl ?_
          refine zA_putI dX12_stepOn_44 fX12_202 c73 rfl (by first | assumption | exact hr _ _ | exact inR_mk (by omega) (by omega)) ⟨rfl, rfl⟩ ?_
          refine zA_namew (fun w_2 hw_2 => ?_)
          refine zA_range (fun hr => ?_)
          replace hw_2 : w_2 = up w1 73 17 (w1 73 13) := hw_2
          have g17 : w_2 73 17 = q := by rw [hw_2, up_same]; exact e13
          have gf : ∀ c x, (c ≠ 73 ∨ (x ≠ 13 ∧ x ≠ 15 ∧ x ≠ 16 ∧ x ≠ 17)) → w_2 c x = w c x := fun c x a => by rw [hw_2, up_n (by omega)]; exact hf c x (by omega)
          have e13 : w_2 73 13 = q := by rw [hw_2, up_idx _ _ _ _ (by decide)]; exact e13
          have e14 : w_2 73 14 = n := by rw [hw_2, up_idx _ _ _ _ (by decide)]; exact e14
          have e84 : ∀ i : Int, 0 ≤ i → i < n → w_2 84 i = b i := fun i a c => by rw [hw_2, up_cell _ _ _ _ (by decide)]; exact e84 i a c
          have hbt : ∀ k : Int, 0 ≤ k → (if k < w_2 73 14 then w_2 84 k else -1) = btF b n k := fun k k0 => by
            rw [e14]; unfold btF
            by_cases g : k < n
            · rw [if_pos g, if_pos g]; exact e84 k k0 g
            · rw [if_neg g, if_neg g]
          refine zA_aload_n dX12_stepOn_47 rfl ?_
          refine zA_aload_n dX12_stepOn_48 rfl ?_
          refine zA_getI dX12_stepOn_49 fX12_195 c73 rfl ?_
          refine zA_valI (w_2 73 13) rfl ?_
          refine zA_cV (st := []) dX12_stepOn_52 vX12_byteAt kX12_198 (m_byteAt (w := w_2) (k := w_2 73 13) (by omega) (by omega) (by omega)) (by decide) c73 rfl rfl (Nat.le_of_ble_eq_true rfl) rfl (zRt_el ?_)
          show zA l mX12_stepOn false 2 0 0 (fun v' S' w' => v' = none ∧ S' = (ZZ t dr tx) ∧ onM w w' ∧ pM b n w' ∧ rM b n w' (.inl (w 73 13))) zNo 55 [zR 73, .null] [zI (if w_2 73 13 < w_2 73 14 then w_2 84 (w_2 73 13) else -1)] (ZZ t dr tx) w_2
          refine zA_valI (btF b n q) (by rw [e13]; exact hbt _ (by omega)) ?_
          refine zA_istore_n (lo1 := [zR 73, zI (btF b n q)]) dX12_stepOn_55 (by decide) rfl rfl ?_
          refine zA_iload_n dX12_stepOn_56 rfl ?_
          refine zA_iconst dX12_stepOn_57 ?_
          have L211 : ∀ (w2 : zW) (hf2 : (∀ c x, (c ≠ 73 ∨ (x ≠ 13 ∧ x ≠ 15 ∧ x ≠ 16 ∧ x ≠ 17)) → w2 c x = w c x)) (e17 : w2 73 17 = q) (e13c : w2 73 13 = tkE b n (w 73 13)) (e15 : w2 73 15 = tkK b n (w 73 13)) (e16 : tkK b n (w 73 13) = 2 → tkE b n (w 73 13) - tkS b n (w 73 13) ≤ 4 → w2 73 16 = tkV b n (w 73 13)), zA l mX12_stepOn false 2 0 0 (fun v' S' w' => v' = none ∧ S' = (ZZ t dr tx) ∧ onM w w' ∧ pM b n w' ∧ rM b n w' (.inl (w 73 13))) zNo 211 [zR 73, .null] [] (ZZ t dr tx) w2 := by
            intro w2 hf2 e17 e13c e15 e16
            refine zA_range (fun hr => ?_)
            refine zA_aload_n dX12_stepOn_211 rfl ?_
            refine zA_aload_n dX12_stepOn_212 rfl ?_
            refine zA_getI dX12_stepOn_213 fX12_195 c73 rfl ?_
            refine zA_valI (w2 73 13) rfl ?_
            refine zA_putI dX12_stepOn_216 fX12_225 c73 rfl (by first | assumption | exact hr _ _ | exact inR_mk (by omega) (by omega)) ⟨rfl, rfl⟩ ?_
            refine zA_namew (fun w_3 hw_3 => ?_)
            refine zA_range (fun hr => ?_)
            replace hw_3 : w_3 = up w2 73 18 (w2 73 13) := hw_3
            refine zA_vret dX12_stepOn_219 rfl ?_
            have hf9 : ∀ c x, (c ≠ 73 ∨ (x ≠ 13 ∧ x ≠ 15 ∧ x ≠ 16 ∧ x ≠ 17 ∧ x ≠ 18)) → w_3 c x = w c x := fun c x a => by rw [hw_3, up_n (by omega)]; exact hf2 c x (by omega)
            have ho : onM w w_3 := fun c x a => hf9 c x (by omega)
            refine ⟨rfl, rfl, ho, pM_o hp ho, ⟨h1, h2⟩, ?_, ⟨?_, ?_, ?_⟩, ?_, fun g1 g2 => ?_⟩
            · rw [hf9 73 19 (Or.inr (by decide))]; exact h0
            · rw [hw_3, up_idx _ _ _ _ (by decide), e17]; exact hS.symm
            · rw [hw_3, up_same]; exact e13c
            · rw [hw_3, up_idx _ _ _ _ (by decide)]; exact e13c
            · rw [hw_3, up_idx _ _ _ _ (by decide)]; exact e15
            · rw [hw_3, up_idx _ _ _ _ (by decide)]; exact e16 g1 g2
          refine zA_icmp_ne (tgt := 69) dX12_stepOn_58 (by decide) (by first | assumption | exact hr _ _ | exact inR_mk (by omega) (by omega)) ⟨by decide, by decide⟩ (fun c58 => ?_) (fun c58 => ?_)
          · skip
            have hqn : q < n := Classical.byContradiction (fun g => c58 (btF_ge (by omega)))
            have hbq := btF_lt (b := b) hqn
            have hKq : tkK b n (w 73 13) = kdOf (b q) := by unfold tkK; rw [hS, if_pos hqn]
            refine zA_iload_n dX12_stepOn_69 rfl ?_
            refine zA_cS (st := []) dX12_stepOn_70 sX12_isSmall kX12_208 (m_isSmall (w := w_2) (S := (ZZ t dr tx)) (k := (btF b n q)) (by first | assumption | exact hr _ _ | exact inR_mk (by omega) (by omega))) (by decide) rfl rfl (Nat.le_of_ble_eq_true rfl) (zRt_el ?_)
            show zA l mX12_stepOn false 2 0 0 (fun v' S' w' => v' = none ∧ S' = (ZZ t dr tx) ∧ onM w w' ∧ pM b n w' ∧ rM b n w' (.inl (w 73 13))) zNo 73 [zR 73, zI (btF b n q)] [zI (if 97 ≤ (btF b n q) ∧ (btF b n q) ≤ 122 then 1 else 0)] (ZZ t dr tx) w_2
            refine zA_if_eq (tgt := 111) dX12_stepOn_73 (by decide) (inR_ite _) (fun k73 => ?_) (fun k73 => ?_)
            · skip
              replace k73 := zite_eq k73
              have hnk1 : kdOf (b q) ≠ 1 := fun h => k73 (by rw [hbq]; exact kdOf_1.mp h)
              refine zA_iload_n dX12_stepOn_111 rfl ?_
              refine zA_cS (st := []) dX12_stepOn_112 sX12_isFigure kX12_212 (m_isFigure (w := w_2) (S := (ZZ t dr tx)) (k := (btF b n q)) (by first | assumption | exact hr _ _ | exact inR_mk (by omega) (by omega))) (by decide) rfl rfl (Nat.le_of_ble_eq_true rfl) (zRt_el ?_)
              show zA l mX12_stepOn false 2 0 0 (fun v' S' w' => v' = none ∧ S' = (ZZ t dr tx) ∧ onM w w' ∧ pM b n w' ∧ rM b n w' (.inl (w 73 13))) zNo 115 [zR 73, zI (btF b n q)] [zI (if 48 ≤ (btF b n q) ∧ (btF b n q) ≤ 57 then 1 else 0)] (ZZ t dr tx) w_2
              refine zA_if_eq (tgt := 186) dX12_stepOn_115 (by decide) (inR_ite _) (fun c115 => ?_) (fun c115 => ?_)
              · skip
                replace c115 := zite_eq c115
                have hnk2 : kdOf (b q) ≠ 2 := fun h => c115 (by rw [hbq]; exact kdOf_2.mp h)
                refine zA_aload_n dX12_stepOn_186 rfl ?_
                refine zA_dup dX12_stepOn_187 rfl ?_
                refine zA_getI dX12_stepOn_188 fX12_195 c73 rfl ?_
                refine zA_valI (w_2 73 13) rfl ?_
                refine zA_iconst dX12_stepOn_191 ?_
                refine zA_iadd dX12_stepOn_192 ?_
                refine zA_putI dX12_stepOn_193 fX12_195 c73 rfl (by first | assumption | exact hr _ _ | exact inR_mk (by omega) (by omega)) ⟨rfl, rfl⟩ ?_
                refine zA_namew (fun w_4 hw_4 => ?_)
                refine zA_range (fun hr => ?_)
                replace hw_4 : w_4 = up w_2 73 13 ((w_2 73 13) + 1) := hw_4
                refine zA_aload_n dX12_stepOn_196 rfl ?_
                refine zA_iload_n dX12_stepOn_197 rfl ?_
                refine zA_bipush dX12_stepOn_198 rfl ?_
                refine zA_icmp_ne (tgt := 207) dX12_stepOn_200 (by decide) (by first | assumption | exact hr _ _ | exact inR_mk (by omega) (by omega)) ⟨by decide, by decide⟩ (fun c200 => ?_) (fun c200 => ?_)
                · skip
                  have hK4 : tkK b n (w 73 13) = 4 := by
                    have h3 := kdOf_b (b q)
                    have h5 := tkK_b (b := b) (n := n) (p := w 73 13)
                    have h4 : kdOf (b q) ≠ 3 := fun h => c200 (by rw [hbq]; exact kdOf_3.mp h)
                    omega
                  have hKK : tkK b n (w 73 13) = 4 := hK4
                  refine zA_iconst dX12_stepOn_207 ?_
                  refine zA_putI dX12_stepOn_208 fX12_205 c73 rfl ⟨by decide, by decide⟩ ⟨rfl, rfl⟩ ?_
                  refine zA_namew (fun w_5 hw_5 => ?_)
                  refine zA_range (fun hr => ?_)
                  replace hw_5 : w_5 = up w_4 73 15 4 := hw_5
                  refine zA_drop 1 (lo1 := [zR 73, .null]) rfl ?_
                  exact L211 _ (fun c y a => by rw [hw_5, up_n (by omega), hw_4, up_n (by omega)]; exact gf c y (by omega)) (by rw [hw_5, up_idx _ _ _ _ (by decide), hw_4, up_idx _ _ _ _ (by decide)]; exact g17) (by
                        rw [hw_5, up_idx _ _ _ _ (by decide), hw_4, up_same, e13]; unfold tkE; rw [if_neg (by omega), if_neg (by omega), hS]) (by rw [hw_5, up_same, hKK]) (fun g => by omega)
                · skip
                  have hKK : tkK b n (w 73 13) = 3 := by rw [hKq]; exact kdOf_3.mpr (by rw [← hbq]; exact c200)
                  refine zA_iconst dX12_stepOn_203 ?_
                  refine zA_goto (tgt := 208) dX12_stepOn_204 (by decide) ?_
                  refine zA_putI dX12_stepOn_208 fX12_205 c73 rfl ⟨by decide, by decide⟩ ⟨rfl, rfl⟩ ?_
                  refine zA_namew (fun w_6 hw_6 => ?_)
                  refine zA_range (fun hr => ?_)
                  replace hw_6 : w_6 = up w_4 73 15 3 := hw_6
                  refine zA_drop 1 (lo1 := [zR 73, .null]) rfl ?_
                  exact L211 _ (fun c y a => by rw [hw_6, up_n (by omega), hw_4, up_n (by omega)]; exact gf c y (by omega)) (by rw [hw_6, up_idx _ _ _ _ (by decide), hw_4, up_idx _ _ _ _ (by decide)]; exact g17) (by
                        rw [hw_6, up_idx _ _ _ _ (by decide), hw_4, up_same, e13]; unfold tkE; rw [if_neg (by omega), if_neg (by omega), hS]) (by rw [hw_6, up_same, hKK]) (fun g => by omega)
              · skip
                replace c115 := zite_ne c115
                have hK2 : tkK b n (w 73 13) = 2 := by rw [hKq]; exact kdOf_2.mpr (by rw [hbq] at c115; exact c115)
                refine zA_aload_n dX12_stepOn_118 rfl ?_
                refine zA_iconst dX12_stepOn_119 ?_
                refine zA_putI dX12_stepOn_120 fX12_215 c73 rfl ⟨by decide, by decide⟩ ⟨rfl, rfl⟩ ?_
                refine zA_namew (fun w_7 hw_7 => ?_)
                refine zA_range (fun hr => ?_)
                replace hw_7 : w_7 = up w_2 73 16 0 := hw_7
                refine zA_drop 1 (lo1 := [zR 73, .null]) rfl ?_
                have L123 : ∀ (z123 : Nat) (x : Int) (w2 : zW) (x0 : q ≤ x) (x1 : x ≤ n) (hf2 : (∀ c x, (c ≠ 73 ∨ (x ≠ 13 ∧ x ≠ 15 ∧ x ≠ 16 ∧ x ≠ 17)) → w2 c x = w c x)) (e17 : w2 73 17 = q) (e13 : w2 73 13 = x) (hx : ∀ y : Int, q ≤ y → y < x → y < n ∧ kdOf (b y) = 2) (e16r : 0 ≤ w2 73 16 ∧ w2 73 16 ≤ 100000) (e16 : x - q ≤ 4 → w2 73 16 = dgv b q (x - q).toNat) (zm : (n - x).toNat < z123), zA l mX12_stepOn false 2 0 0 (fun v' S' w' => v' = none ∧ S' = (ZZ t dr tx) ∧ onM w w' ∧ pM b n w' ∧ rM b n w' (.inl (w 73 13))) zNo 123 [zR 73, .null] [] (ZZ t dr tx) w2 := by
                  intro z123
                  induction z123 with
                  | zero => intro x w2 x0 x1 hf2 e17 e13 hx e16r e16 zm; exact absurd zm (Nat.not_lt_zero _)
                  | succ z123 ih123 =>
                    intro x w2 x0 x1 hf2 e17 e13 hx e16r e16 zm
                    refine zA_range (fun hr => ?_)
                    have e14 : w2 73 14 = n := (hf2 73 14 (Or.inr (by decide))).trans hn
                    have e84 : ∀ i : Int, 0 ≤ i → i < n → w2 84 i = b i := fun i a c => (hf2 84 i (Or.inl (by decide))).trans (hb i a c).1
                    have hbt : ∀ k : Int, 0 ≤ k → (if k < w2 73 14 then w2 84 k else -1) = btF b n k := fun k k0 => by
                      rw [e14]; unfold btF
                      by_cases g : k < n
                      · rw [if_pos g, if_pos g]; exact e84 k k0 g
                      · rw [if_neg g, if_neg g]
                    have hbr : -1 ≤ btF b n x ∧ btF b n x < 2147483648 := by
                      unfold btF
                      by_cases g : x < n
                      · rw [if_pos g, ← e84 x (by omega) g]
                        have h3 := (hr 84 x).2
                        have h4 := (hb x (by omega) g).2
                        rw [← e84 x (by omega) g] at h4
                        omega
                      · rw [if_neg g]; omega
                    refine zA_aload_n dX12_stepOn_123 rfl ?_
                    refine zA_aload_n dX12_stepOn_124 rfl ?_
                    refine zA_getI dX12_stepOn_125 fX12_195 c73 rfl ?_
                    refine zA_valI (w2 73 13) rfl ?_
                    refine zA_cV (st := []) dX12_stepOn_128 vX12_byteAt kX12_198 (m_byteAt (w := w2) (k := w2 73 13) (by omega) (by omega) (by omega)) (by decide) c73 rfl rfl (Nat.le_of_ble_eq_true rfl) rfl (zRt_el ?_)
                    show zA l mX12_stepOn false 2 0 0 (fun v' S' w' => v' = none ∧ S' = (ZZ t dr tx) ∧ onM w w' ∧ pM b n w' ∧ rM b n w' (.inl (w 73 13))) zNo 131 [zR 73, .null] [zI (if w2 73 13 < w2 73 14 then w2 84 (w2 73 13) else -1)] (ZZ t dr tx) w2
                    refine zA_valI (btF b n x) (by rw [e13]; exact hbt _ (by omega)) ?_
                    refine zA_cS (st := []) dX12_stepOn_131 sX12_isFigure kX12_212 (m_isFigure (w := w2) (S := (ZZ t dr tx)) (k := (btF b n x)) (by first | assumption | exact hr _ _ | exact inR_mk (by omega) (by omega))) (by decide) rfl rfl (Nat.le_of_ble_eq_true rfl) (zRt_el ?_)
                    show zA l mX12_stepOn false 2 0 0 (fun v' S' w' => v' = none ∧ S' = (ZZ t dr tx) ∧ onM w w' ∧ pM b n w' ∧ rM b n w' (.inl (w 73 13))) zNo 134 [zR 73, .null] [zI (if 48 ≤ (btF b n x) ∧ (btF b n x) ≤ 57 then 1 else 0)] (ZZ t dr tx) w2
                    refine zA_if_eq (tgt := 178) dX12_stepOn_134 (by decide) (inR_ite _) (fun c134 => ?_) (fun c134 => ?_)
                    · skip
                      replace c134 := zite_eq c134
                      have hx1 : q + 1 ≤ x := Classical.byContradiction (fun g => by
                        have : x = q := by omega
                        rw [this] at c134; exact c134 c115)
                      have hE : x = tkE b n (w 73 13) := by
                        unfold tkE
                        rw [if_neg (by omega), if_pos (Or.inr hK2), hS]
                        refine (rnF_eq ⟨hx1, fun y a c => ⟨(hx y (by omega) c).1, (hx y (by omega) c).2.trans hK2.symm⟩, fun g => ?_⟩).symm
                        have h3 := kdOf_2.mp (g.2.trans hK2)
                        rw [btF_lt g.1] at c134
                        exact c134 h3
                      refine zA_aload_n dX12_stepOn_178 rfl ?_
                      refine zA_iconst dX12_stepOn_179 ?_
                      refine zA_putI dX12_stepOn_180 fX12_205 c73 rfl ⟨by decide, by decide⟩ ⟨rfl, rfl⟩ ?_
                      refine zA_namew (fun w_8 hw_8 => ?_)
                      refine zA_range (fun hr => ?_)
                      replace hw_8 : w_8 = up w2 73 15 2 := hw_8
                      refine zA_goto (tgt := 211) dX12_stepOn_183 (by decide) ?_
                      exact L211 _ (fun c y a => by rw [hw_8, up_n (by omega)]; exact hf2 c y a) (by rw [hw_8, up_idx _ _ _ _ (by decide)]; exact e17) (by rw [hw_8, up_idx _ _ _ _ (by decide), e13]; exact hE) (by rw [hw_8, up_same, hK2]) (fun _ g => by rw [hw_8, up_idx _ _ _ _ (by decide), e16 (by rw [hE, ← hS]; exact g)]; unfold tkV; rw [hS, ← hE])
                    · skip
                      replace c134 := zite_ne c134
                      have hxn : x < n := btF_n (b := b) (show 0 ≤ btF b n x by omega)
                      have hxb := btF_lt (b := b) hxn
                      have hxd : 48 ≤ b x ∧ b x ≤ 57 := by rw [hxb] at c134; exact c134
                      have hxk : kdOf (b x) = 2 := kdOf_2.mpr hxd
                      have hnum : x + 1 - q ≤ 4 → min 100000 (10 * w2 73 16 + btF b n x - 48) = dgv b q (x + 1 - q).toNat := fun g => by
                        have h3 := e16 (by omega)
                        have h4 := dgv_b (b := b) (s := q) (x - q).toNat (fun j a c => by
                          have := (hx (q + j) (by omega) (by omega)).2
                          exact kdOf_2.mp this)
                        have h5 : (10 : Nat) ^ (x - q).toNat ≤ 10 ^ 3 := Nat.pow_le_pow_right (by decide) (by omega)
                        rw [show (x + 1 - q).toNat = (x - q).toNat + 1 by omega, hxb]
                        show _ = dgv b q (x - q).toNat * 10 + b (q + (((x - q).toNat : Nat) : Int)) - 48
                        rw [show q + (((x - q).toNat : Nat) : Int) = x by omega, ← h3]
                        omega
                      refine zA_aload_n dX12_stepOn_137 rfl ?_
                      refine zA_ldc dX12_stepOn_138 qX12_218 ?_
                      refine zA_bipush dX12_stepOn_140 rfl ?_
                      refine zA_aload_n dX12_stepOn_142 rfl ?_
                      refine zA_getI dX12_stepOn_143 fX12_215 c73 rfl ?_
                      refine zA_valI (w2 73 16) rfl ?_
                      refine zA_imul dX12_stepOn_146 ?_
                      refine zA_aload_n dX12_stepOn_147 rfl ?_
                      refine zA_aload_n dX12_stepOn_148 rfl ?_
                      refine zA_getI dX12_stepOn_149 fX12_195 c73 rfl ?_
                      refine zA_valI (w2 73 13) rfl ?_
                      refine zA_cV (st := [zI (10 * (w2 73 16)), zI 100000, zR 73]) dX12_stepOn_152 vX12_byteAt kX12_198 (m_byteAt (w := w2) (k := w2 73 13) (by omega) (by omega) (by omega)) (by decide) c73 rfl rfl (Nat.le_of_ble_eq_true rfl) rfl (zRt_el ?_)
                      show zA l mX12_stepOn false 2 0 0 (fun v' S' w' => v' = none ∧ S' = (ZZ t dr tx) ∧ onM w w' ∧ pM b n w' ∧ rM b n w' (.inl (w 73 13))) zNo 155 [zR 73, .null] [zI (if w2 73 13 < w2 73 14 then w2 84 (w2 73 13) else -1), zI (10 * (w2 73 16)), zI 100000, zR 73] (ZZ t dr tx) w2
                      refine zA_valI (btF b n x) (by rw [e13]; exact hbt _ (by omega)) ?_
                      refine zA_iadd dX12_stepOn_155 ?_
                      refine zA_bipush dX12_stepOn_156 rfl ?_
                      refine zA_isub dX12_stepOn_158 ?_
                      refine zA_mmin dX12_stepOn_159 kmX12_219 zw_min ⟨by decide, by decide⟩ (by first | assumption | exact hr _ _ | exact inR_mk (by omega) (by omega)) (Nat.le_of_ble_eq_true rfl) ?_
                      refine zA_putI dX12_stepOn_162 fX12_215 c73 rfl (by first | assumption | exact hr _ _ | exact inR_mk (by omega) (by omega)) ⟨rfl, rfl⟩ ?_
                      refine zA_namew (fun w_9 hw_9 => ?_)
                      refine zA_range (fun hr => ?_)
                      replace hw_9 : w_9 = up w2 73 16 (min 100000 (((10 * (w2 73 16)) + (btF b n x)) - 48)) := hw_9
                      have e13d : w_9 73 13 = x := by rw [hw_9, up_idx _ _ _ _ (by decide)]; exact e13
                      refine zA_aload_n dX12_stepOn_165 rfl ?_
                      refine zA_dup dX12_stepOn_166 rfl ?_
                      refine zA_getI dX12_stepOn_167 fX12_195 c73 rfl ?_
                      refine zA_valI (w_9 73 13) rfl ?_
                      refine zA_iconst dX12_stepOn_170 ?_
                      refine zA_iadd dX12_stepOn_171 ?_
                      refine zA_putI dX12_stepOn_172 fX12_195 c73 rfl (by first | assumption | exact hr _ _ | exact inR_mk (by omega) (by omega)) ⟨rfl, rfl⟩ ?_
                      refine zA_namew (fun w_10 hw_10 => ?_)
                      refine zA_range (fun hr => ?_)
                      replace hw_10 : w_10 = up w_9 73 13 ((w_9 73 13) + 1) := hw_10
                      refine zA_goto (tgt := 123) dX12_stepOn_175 (by decide) ?_
                      exact ih123 (x + 1) _ (by omega) (by omega) (fun c y a => by rw [hw_10, up_n (by omega), hw_9, up_n (by omega)]; exact hf2 c y a) (by rw [hw_10, up_idx _ _ _ _ (by decide), hw_9, up_idx _ _ _ _ (by decide)]; exact e17) (by rw [hw_10, up_same, hw_9, up_idx _ _ _ _ (by decide), e13]) (fun y a c => by
                            by_cases g : y = x
                            · rw [g]; exact ⟨hxn, hxk⟩
                            · exact hx y a (by omega)) (by rw [hw_10, up_idx _ _ _ _ (by decide), hw_9, up_same]; omega) (fun g => by rw [hw_10, up_idx _ _ _ _ (by decide), hw_9, up_same]; exact hnum g) (by omega)
                exact L123 _ q w_7 (by omega) (by omega) (fun c x a => by rw [hw_7, up_n (by omega)]; exact gf c x (by omega)) (by rw [hw_7, up_idx _ _ _ _ (by decide)]; exact g17) (by rw [hw_7, up_idx _ _ _ _ (by decide)]; exact e13) (fun y a c => by omega) (by rw [hw_7, up_same]; decide) (fun _ => by rw [hw_7, up_same, show q - q = 0 by omega]; rfl) (Nat.lt_succ_self _)
            · skip
              replace k73 := zite_ne k73
              have hK1 : tkK b n (w 73 13) = 1 := by rw [hKq]; exact kdOf_1.mpr (by rw [hbq] at k73; exact k73)
              refine zA_drop 1 (lo1 := [zR 73, .null]) rfl ?_
              have L76 : ∀ (z76 : Nat) (x : Int) (w2 : zW) (x0 : q ≤ x) (x1 : x ≤ n) (hf2 : (∀ c x, (c ≠ 73 ∨ (x ≠ 13 ∧ x ≠ 15 ∧ x ≠ 16 ∧ x ≠ 17)) → w2 c x = w c x)) (e17 : w2 73 17 = q) (e13 : w2 73 13 = x) (hx : ∀ y : Int, q ≤ y → y < x → y < n ∧ kdOf (b y) = 1) (zm : (n - x).toNat < z76), zA l mX12_stepOn false 2 0 0 (fun v' S' w' => v' = none ∧ S' = (ZZ t dr tx) ∧ onM w w' ∧ pM b n w' ∧ rM b n w' (.inl (w 73 13))) zNo 76 [zR 73, .null] [] (ZZ t dr tx) w2 := by
                intro z76
                induction z76 with
                | zero => intro x w2 x0 x1 hf2 e17 e13 hx zm; exact absurd zm (Nat.not_lt_zero _)
                | succ z76 ih76 =>
                  intro x w2 x0 x1 hf2 e17 e13 hx zm
                  refine zA_range (fun hr => ?_)
                  have e14 : w2 73 14 = n := (hf2 73 14 (Or.inr (by decide))).trans hn
                  have e84 : ∀ i : Int, 0 ≤ i → i < n → w2 84 i = b i := fun i a c => (hf2 84 i (Or.inl (by decide))).trans (hb i a c).1
                  have hbt : ∀ k : Int, 0 ≤ k → (if k < w2 73 14 then w2 84 k else -1) = btF b n k := fun k k0 => by
                    rw [e14]; unfold btF
                    by_cases g : k < n
                    · rw [if_pos g, if_pos g]; exact e84 k k0 g
                    · rw [if_neg g, if_neg g]
                  have hbr : -1 ≤ btF b n x ∧ btF b n x < 2147483648 := by
                    unfold btF
                    by_cases g : x < n
                    · rw [if_pos g, ← e84 x (by omega) g]
                      have h3 := (hr 84 x).2
                      have h4 := (hb x (by omega) g).2
                      rw [← e84 x (by omega) g] at h4
                      omega
                    · rw [if_neg g]; omega
                  refine zA_aload_n dX12_stepOn_76 rfl ?_
                  refine zA_aload_n dX12_stepOn_77 rfl ?_
                  refine zA_getI dX12_stepOn_78 fX12_195 c73 rfl ?_
                  refine zA_valI (w2 73 13) rfl ?_
                  refine zA_cV (st := []) dX12_stepOn_81 vX12_byteAt kX12_198 (m_byteAt (w := w2) (k := w2 73 13) (by omega) (by omega) (by omega)) (by decide) c73 rfl rfl (Nat.le_of_ble_eq_true rfl) rfl (zRt_el ?_)
                  show zA l mX12_stepOn false 2 0 0 (fun v' S' w' => v' = none ∧ S' = (ZZ t dr tx) ∧ onM w w' ∧ pM b n w' ∧ rM b n w' (.inl (w 73 13))) zNo 84 [zR 73, .null] [zI (if w2 73 13 < w2 73 14 then w2 84 (w2 73 13) else -1)] (ZZ t dr tx) w2
                  refine zA_valI (btF b n x) (by rw [e13]; exact hbt _ (by omega)) ?_
                  refine zA_cS (st := []) dX12_stepOn_84 sX12_isSmall kX12_208 (m_isSmall (w := w2) (S := (ZZ t dr tx)) (k := (btF b n x)) (by first | assumption | exact hr _ _ | exact inR_mk (by omega) (by omega))) (by decide) rfl rfl (Nat.le_of_ble_eq_true rfl) (zRt_el ?_)
                  show zA l mX12_stepOn false 2 0 0 (fun v' S' w' => v' = none ∧ S' = (ZZ t dr tx) ∧ onM w w' ∧ pM b n w' ∧ rM b n w' (.inl (w 73 13))) zNo 87 [zR 73, .null] [zI (if 97 ≤ (btF b n x) ∧ (btF b n x) ≤ 122 then 1 else 0)] (ZZ t dr tx) w2
                  refine zA_if_eq (tgt := 103) dX12_stepOn_87 (by decide) (inR_ite _) (fun c87 => ?_) (fun c87 => ?_)
                  · skip
                    replace c87 := zite_eq c87
                    have hx1 : q + 1 ≤ x := Classical.byContradiction (fun g => by
                      have : x = q := by omega
                      rw [this] at c87; exact c87 k73)
                    have hE : x = tkE b n (w 73 13) := by
                      unfold tkE
                      rw [if_neg (by omega), if_pos (Or.inl hK1), hS]
                      refine (rnF_eq ⟨hx1, fun y a c => ⟨(hx y (by omega) c).1, (hx y (by omega) c).2.trans hK1.symm⟩, fun g => ?_⟩).symm
                      have h3 := kdOf_1.mp (g.2.trans hK1)
                      rw [btF_lt g.1] at c87
                      exact c87 h3
                    refine zA_aload_n dX12_stepOn_103 rfl ?_
                    refine zA_iconst dX12_stepOn_104 ?_
                    refine zA_putI dX12_stepOn_105 fX12_205 c73 rfl ⟨by decide, by decide⟩ ⟨rfl, rfl⟩ ?_
                    refine zA_namew (fun w_11 hw_11 => ?_)
                    refine zA_range (fun hr => ?_)
                    replace hw_11 : w_11 = up w2 73 15 1 := hw_11
                    refine zA_goto (tgt := 211) dX12_stepOn_108 (by decide) ?_
                    exact L211 _ (fun c y a => by rw [hw_11, up_n (by omega)]; exact hf2 c y a) (by rw [hw_11, up_idx _ _ _ _ (by decide)]; exact e17) (by rw [hw_11, up_idx _ _ _ _ (by decide), e13]; exact hE) (by rw [hw_11, up_same, hK1]) (fun g => by omega)
                  · skip
                    replace c87 := zite_ne c87
                    have hxn : x < n := btF_n (b := b) (show 0 ≤ btF b n x by omega)
                    have hxk : kdOf (b x) = 1 := kdOf_1.mpr (by rw [btF_lt hxn] at c87; exact c87)
                    refine zA_aload_n dX12_stepOn_90 rfl ?_
                    refine zA_dup dX12_stepOn_91 rfl ?_
                    refine zA_getI dX12_stepOn_92 fX12_195 c73 rfl ?_
                    refine zA_valI (w2 73 13) rfl ?_
                    refine zA_iconst dX12_stepOn_95 ?_
                    refine zA_iadd dX12_stepOn_96 ?_
                    refine zA_putI dX12_stepOn_97 fX12_195 c73 rfl (by first | assumption | exact hr _ _ | exact inR_mk (by omega) (by omega)) ⟨rfl, rfl⟩ ?_
                    refine zA_namew (fun w_12 hw_12 => ?_)
                    refine zA_range (fun hr => ?_)
                    replace hw_12 : w_12 = up w2 73 13 ((w2 73 13) + 1) := hw_12
                    refine zA_goto (tgt := 76) dX12_stepOn_100 (by decide) ?_
                    exact ih76 (x + 1) _ (by omega) (by omega) (fun c y a => by rw [hw_12, up_n (by omega)]; exact hf2 c y a) (by rw [hw_12, up_idx _ _ _ _ (by decide)]; exact e17) (by rw [hw_12, up_same]; omega) (fun y a c => by
                          by_cases g : y = x
                          · rw [g]; exact ⟨hxn, hxk⟩
                          · exact hx y a (by omega)) (by omega)
              exact L76 _ q w_2 (by omega) (by omega) gf g17 e13 (fun y a c => by omega) (Nat.lt_succ_self _)
          · skip
            have hqn : ¬ q < n := fun g => by
              have := (hb q (by omega) g).2
              rw [btF_lt g] at c58; omega
            have hK0 : tkK b n (w 73 13) = 0 := by unfold tkK; rw [hS, if_neg hqn]
            refine zA_aload_n dX12_stepOn_61 rfl ?_
            refine zA_iconst dX12_stepOn_62 ?_
            refine zA_putI dX12_stepOn_63 fX12_205 c73 rfl ⟨by decide, by decide⟩ ⟨rfl, rfl⟩ ?_
            refine zA_namew (fun w_13 hw_13 => ?_)
            refine zA_range (fun hr => ?_)
            replace hw_13 : w_13 = up w_2 73 15 0 := hw_13
            refine zA_goto (tgt := 211) dX12_stepOn_66 (by decide) ?_
            refine zA_drop 1 (lo1 := [zR 73, .null]) rfl ?_
            exact L211 _ (fun c x a => by rw [hw_13, up_n (by omega)]; exact gf c x a) (by rw [hw_13, up_idx _ _ _ _ (by decide)]; exact g17) (by
                  rw [hw_13, up_idx _ _ _ _ (by decide), e13]; unfold tkE; rw [if_pos hK0, hS]) (by rw [hw_13, up_same, hK0]) (fun g => by omega)
        · skip
          skip
          exact L26 (btF_n (b := b) (show 0 ≤ btF b n q by omega)) (kdOf_5.mpr (by rw [btF_lt (btF_n (show 0 ≤ btF b n q by omega))] at c23; omega))
  exact L0 _ (w 73 13) w (by omega) (by omega) (fun _ _ _ => rfl) rfl (fun x a c => by omega) (Nat.lt_succ_self _)

